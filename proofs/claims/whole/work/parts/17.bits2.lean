/-! bit by bit -/
def zbit (x : Int) : Int → Int := fun b => x / 2 ^ b.toNat % 2
theorem zbit_01 (x b : Int) : zbit x b = 0 ∨ zbit x b = 1 := by unfold zbit; omega
theorem zbit_b01 (x : Int) (n : Nat) : b01 (zbit x) n := fun b _ _ => zbit_01 x b
theorem bsum_zbitK : ∀ i : Fin 128, bsum (zbit (i.val : Int)) 7 = (i.val : Int) := by decide +kernel
theorem bsum_zbit {x : Int} (h0 : 0 ≤ x) (h : x < 128) : bsum (zbit x) 7 = x := by
  obtain ⟨i, rfl⟩ := z_nop h0 h
  exact bsum_zbitK i
theorem zbit_bsum {g : Int → Int} (hg : b01 g 7) {b : Int} (hb0 : 0 ≤ b) (hb : b < 7) : zbit (bsum g 7) b = g b := bsum_bitI hg hb0 hb
theorem bsum7_lt {g : Int → Int} (hg : b01 g 7) : 0 ≤ bsum g 7 ∧ bsum g 7 < 128 := bsum_lt hg
theorem tb_nat (n b : Nat) : n / 2 ^ b % 2 = (n.testBit b).toNat := (Nat.toNat_testBit n b).symm
theorem zorK (i j b : Nat) : (i ||| j) / 2 ^ b % 2 = max (i / 2 ^ b % 2) (j / 2 ^ b % 2) := by
  rw [tb_nat, tb_nat, tb_nat, Nat.testBit_or]
  cases i.testBit b <;> cases j.testBit b <;> rfl
theorem zxorK (i j b : Nat) : (i ^^^ j) / 2 ^ b % 2 = (i / 2 ^ b % 2 + j / 2 ^ b % 2) % 2 := by
  rw [tb_nat, tb_nat, tb_nat, Nat.testBit_xor]
  cases i.testBit b <;> cases j.testBit b <;> rfl
theorem zandK (i j b : Nat) : (i &&& j) / 2 ^ b % 2 = min (i / 2 ^ b % 2) (j / 2 ^ b % 2) := by
  rw [tb_nat, tb_nat, tb_nat, Nat.testBit_and]
  cases i.testBit b <;> cases j.testBit b <;> rfl
theorem zsubK : ∀ i j : Fin 128, i.val - (i.val &&& j.val) = i.val ^^^ (i.val &&& j.val) := by decide +kernel
theorem zandnK (i j : Fin 128) (b : Nat) : (i.val - (i.val &&& j.val)) / 2 ^ b % 2 = (i.val / 2 ^ b % 2) * (1 - j.val / 2 ^ b % 2) := by
  rw [zsubK, zxorK, zandK, tb_nat, tb_nat]
  cases i.val.testBit b <;> cases j.val.testBit b <;> rfl
theorem zlt_or (i j : Fin 128) : (i.val ||| j.val) < 128 := Nat.or_lt_two_pow (n := 7) i.isLt j.isLt
theorem zlt_xor (i j : Fin 128) : (i.val ^^^ j.val) < 128 := Nat.xor_lt_two_pow (n := 7) i.isLt j.isLt
theorem zbit_nat (n b : Nat) : zbit (n : Int) (b : Int) = ((n / 2 ^ b % 2 : Nat) : Int) := by
  simp [zbit]
theorem zor_b {x y b : Int} (hx0 : 0 ≤ x) (hx : x < 128) (hy0 : 0 ≤ y) (hy : y < 128) (hb0 : 0 ≤ b) (hb : b < 7) : zbit (zor x y) b = max (zbit x b) (zbit y b) := by
  obtain ⟨i, rfl⟩ := z_nop hx0 hx
  obtain ⟨j, rfl⟩ := z_nop hy0 hy
  have h := zorK i.val j.val b.toNat
  rw [show b = (b.toNat : Int) by omega, zor, zbit_nat, zbit_nat, zbit_nat]
  (try simp only [Int.toNat_natCast])
  rw [h]
  omega
theorem zxor_b {x y b : Int} (hx0 : 0 ≤ x) (hx : x < 128) (hy0 : 0 ≤ y) (hy : y < 128) (hb0 : 0 ≤ b) (hb : b < 7) : zbit (zxor x y) b = (zbit x b + zbit y b) % 2 := by
  obtain ⟨i, rfl⟩ := z_nop hx0 hx
  obtain ⟨j, rfl⟩ := z_nop hy0 hy
  have h := zxorK i.val j.val b.toNat
  rw [show b = (b.toNat : Int) by omega, zxor, zbit_nat, zbit_nat, zbit_nat]
  (try simp only [Int.toNat_natCast])
  rw [h]
  omega
theorem zand_b {x y b : Int} (hx0 : 0 ≤ x) (hx : x < 128) (hy0 : 0 ≤ y) (hy : y < 128) (hb0 : 0 ≤ b) (hb : b < 7) : zbit (zand x y) b = min (zbit x b) (zbit y b) := by
  obtain ⟨i, rfl⟩ := z_nop hx0 hx
  obtain ⟨j, rfl⟩ := z_nop hy0 hy
  have h := zandK i.val j.val b.toNat
  rw [show b = (b.toNat : Int) by omega, zand, zbit_nat, zbit_nat, zbit_nat]
  (try simp only [Int.toNat_natCast])
  rw [h]
  omega
theorem zandn_b {x y b : Int} (hx0 : 0 ≤ x) (hx : x < 128) (hy0 : 0 ≤ y) (hy : y < 128) (hb0 : 0 ≤ b) (hb : b < 7) : zbit (x - zand x y) b = (if zbit y b = 1 then 0 else zbit x b) := by
  obtain ⟨i, rfl⟩ := z_nop hx0 hx
  obtain ⟨j, rfl⟩ := z_nop hy0 hy
  have h := zandnK i j b.toNat
  have hle : (i.val &&& j.val) ≤ i.val := Nat.and_le_left
  have e : ((i.val : Int) - zand (i.val : Int) (j.val : Int)) = ((i.val - (i.val &&& j.val) : Nat) : Int) := by
    simp only [zand, Int.toNat_natCast]; omega
  rw [show b = (b.toNat : Int) by omega, e, zbit_nat, zbit_nat, zbit_nat]
  (try simp only [Int.toNat_natCast])
  rw [h]
  have h2 : j.val / 2 ^ b.toNat % 2 < 2 := Nat.mod_lt _ (by decide)
  by_cases hj : j.val / 2 ^ b.toNat % 2 = 1
  · rw [hj]; simp
  · rw [show j.val / 2 ^ b.toNat % 2 = 0 by omega]; simp
theorem zor_lt {x y : Int} (hx0 : 0 ≤ x) (hx : x < 128) (hy0 : 0 ≤ y) (hy : y < 128) : 0 ≤ zor x y ∧ zor x y < 128 := by
  obtain ⟨i, rfl⟩ := z_nop hx0 hx
  obtain ⟨j, rfl⟩ := z_nop hy0 hy
  have := zlt_or i j
  simp only [zor, Int.toNat_natCast]; omega
theorem zxor_lt {x y : Int} (hx0 : 0 ≤ x) (hx : x < 128) (hy0 : 0 ≤ y) (hy : y < 128) : 0 ≤ zxor x y ∧ zxor x y < 128 := by
  obtain ⟨i, rfl⟩ := z_nop hx0 hx
  obtain ⟨j, rfl⟩ := z_nop hy0 hy
  have := zlt_xor i j
  simp only [zxor, Int.toNat_natCast]; omega
theorem zandn_lt {x y : Int} (hx0 : 0 ≤ x) (hx : x < 128) (hy0 : 0 ≤ y) (hy : y < 128) : 0 ≤ x - zand x y ∧ x - zand x y < 128 := by
  obtain ⟨i, rfl⟩ := z_nop hx0 hx
  obtain ⟨j, rfl⟩ := z_nop hy0 hy
  have hle : (i.val &&& j.val) ≤ i.val := Nat.and_le_left
  simp only [zand, Int.toNat_natCast]; omega
/-- a number below 128 is told by its bits -/
theorem zbits_eq {x : Int} {g : Int → Int} (h0 : 0 ≤ x) (h : x < 128) (hb : ∀ b : Int, 0 ≤ b → b < 7 → zbit x b = g b) : x = bsum g 7 := by
  rw [← bsum_zbit h0 h]
  exact bsum_congr (fun b h0 h1 => hb b h0 (by omega))
theorem pow_zbit {p b : Int} (hp0 : 0 ≤ p) (hp : p < 7) (hb0 : 0 ≤ b) (hb : b < 7) : zbit (2 ^ p.toNat) b = if b = p then 1 else 0 := by
  have key : ∀ i j : Fin 7, zbit (2 ^ i.val) (j.val : Int) = if j.val = i.val then 1 else 0 := by decide +kernel
  have h := key ⟨p.toNat, by omega⟩ ⟨b.toNat, by omega⟩
  simp only [Int.toNat_of_nonneg hb0] at h
  rw [h]
  by_cases hbp : b = p
  · rw [if_pos (by omega), if_pos hbp]
  · rw [if_neg (by omega), if_neg hbp]
theorem pow_lt7 {p : Int} (hp : p < 7) : (0 : Int) ≤ 2 ^ p.toNat ∧ (2 : Int) ^ p.toNat < 128 := by
  have h1 := p2_lt hp
  have h2 : (0 : Int) < 2 ^ p.toNat := Int.pow_pos (by decide)
  omega
theorem zor_set {g : Int → Int} {p : Int} (hg : b01 g 7) (hp0 : 0 ≤ p) (hp : p < 7) : zor (bsum g 7) (2 ^ p.toNat) = bsum (zup g p 1) 7 := by
  obtain ⟨a0, a1⟩ := bsum7_lt hg
  obtain ⟨c0, c1⟩ := pow_lt7 hp
  refine zbits_eq (zor_lt a0 a1 c0 c1).1 (zor_lt a0 a1 c0 c1).2 (fun b h0 h1 => ?_)
  rw [zor_b a0 a1 c0 c1 h0 h1, pow_zbit hp0 hp h0 h1, zbit_bsum hg h0 h1]
  have := hg b h0 (by omega)
  simp only [zup]
  split <;> omega
theorem zxor_set {g : Int → Int} {p : Int} (hg : b01 g 7) (hp0 : 0 ≤ p) (hp : p < 7) : zxor (bsum g 7) (2 ^ p.toNat) = bsum (zup g p (1 - g p)) 7 := by
  obtain ⟨a0, a1⟩ := bsum7_lt hg
  obtain ⟨c0, c1⟩ := pow_lt7 hp
  refine zbits_eq (zxor_lt a0 a1 c0 c1).1 (zxor_lt a0 a1 c0 c1).2 (fun b h0 h1 => ?_)
  rw [zxor_b a0 a1 c0 c1 h0 h1, pow_zbit hp0 hp h0 h1, zbit_bsum hg h0 h1]
  have := hg b h0 (by omega)
  simp only [zup]
  split
  · rename_i h; subst h; omega
  · omega
theorem zor_sum {g h : Int → Int} (hg : b01 g 7) (hh : b01 h 7) : zor (bsum g 7) (bsum h 7) = bsum (fun b => max (g b) (h b)) 7 := by
  obtain ⟨a0, a1⟩ := bsum7_lt hg
  obtain ⟨c0, c1⟩ := bsum7_lt hh
  refine zbits_eq (zor_lt a0 a1 c0 c1).1 (zor_lt a0 a1 c0 c1).2 (fun b h0 h1 => ?_)
  rw [zor_b a0 a1 c0 c1 h0 h1, zbit_bsum hg h0 h1, zbit_bsum hh h0 h1]
/-- sums over seven, where what is beyond n is 0 -/
theorem bsum_ext {g : Int → Int} {n m : Nat} (h : n ≤ m) (hz : ∀ b : Int, n ≤ b → b < m → g b = 0) : bsum g m = bsum g n := by
  induction m with
  | zero => rw [show n = 0 by omega]
  | succ m ih =>
    by_cases hn : n = m + 1
    · rw [hn]
    · simp only [bsum]
      rw [ih (by omega) (fun b h0 h1 => hz b h0 (by omega)), hz m (by omega) (by omega)]
      omega
def bcE (x : Int32) : Int32 :=
  let a := x - (((x.toUInt32 >>> ((zI 1).toUInt32 &&& Int32.toUInt32 31)).toInt32) &&& zI 1431655765)
  let b := (a &&& zI 858993459) + ((a.toUInt32 >>> ((zI 2).toUInt32 &&& Int32.toUInt32 31)).toInt32 &&& zI 858993459)
  let c := (b + (b.toUInt32 >>> ((zI 4).toUInt32 &&& Int32.toUInt32 31)).toInt32) &&& zI 252645135
  let e := c + (c.toUInt32 >>> ((zI 8).toUInt32 &&& Int32.toUInt32 31)).toInt32
  let f := e + (e.toUInt32 >>> ((zI 16).toUInt32 &&& Int32.toUInt32 31)).toInt32
  f &&& zI 63
theorem c_bitCount {d : Nat} {M : hm_M} {x : Int32} {Q : Option hm_V → hm_M → Prop} (kk : Q (some (.inl (bcE x))) M) : hm_Wp d 207 0 [some (.inl x)] [] M Q := by
  refine q_iload gg207_0 rfl ?_
  refine q_iload gg207_1 rfl ?_
  refine z_const gg207_2 (v := 1) rfl ?_
  refine q_iushr gg207_3 ?_
  refine z_const gg207_4 (v := 1431655765) rfl ?_
  first | refine z_iand1 gg207_7 (by omega) (by omega) ?_ | refine q_iand gg207_7 ?_
  first | refine z_isub gg207_8 ?_ | refine q_isub gg207_8 ?_
  refine q_istore gg207_9 rfl ?_
  refine q_iload gg207_10 rfl ?_
  refine z_const gg207_11 (v := 858993459) rfl ?_
  first | refine z_iand1 gg207_14 (by omega) (by omega) ?_ | refine q_iand gg207_14 ?_
  refine q_iload gg207_15 rfl ?_
  refine z_const gg207_16 (v := 2) rfl ?_
  refine q_iushr gg207_17 ?_
  refine z_const gg207_18 (v := 858993459) rfl ?_
  first | refine z_iand1 gg207_21 (by omega) (by omega) ?_ | refine q_iand gg207_21 ?_
  first | refine z_iadd gg207_22 ?_ | refine q_iadd gg207_22 ?_
  refine q_istore gg207_23 rfl ?_
  refine q_iload gg207_24 rfl ?_
  refine q_iload gg207_25 rfl ?_
  refine z_const gg207_26 (v := 4) rfl ?_
  refine q_iushr gg207_27 ?_
  first | refine z_iadd gg207_28 ?_ | refine q_iadd gg207_28 ?_
  refine z_const gg207_29 (v := 252645135) rfl ?_
  first | refine z_iand1 gg207_32 (by omega) (by omega) ?_ | refine q_iand gg207_32 ?_
  refine q_istore gg207_33 rfl ?_
  refine q_iload gg207_34 rfl ?_
  refine q_iload gg207_35 rfl ?_
  refine z_const gg207_36 (v := 8) rfl ?_
  refine q_iushr gg207_38 ?_
  first | refine z_iadd gg207_39 ?_ | refine q_iadd gg207_39 ?_
  refine q_istore gg207_40 rfl ?_
  refine q_iload gg207_41 rfl ?_
  refine q_iload gg207_42 rfl ?_
  refine z_const gg207_43 (v := 16) rfl ?_
  refine q_iushr gg207_45 ?_
  first | refine z_iadd gg207_46 ?_ | refine q_iadd gg207_46 ?_
  refine q_istore gg207_47 rfl ?_
  refine q_iload gg207_48 rfl ?_
  refine z_const gg207_49 (v := 63) rfl ?_
  first | refine z_iand1 gg207_51 (by omega) (by omega) ?_ | refine q_iand gg207_51 ?_
  refine q_iret gg207_52 ?_
  exact kk
theorem bcK : ∀ i : Fin 128, bcE (nI i.val) = zI (zbit (i.val : Int) 0 + zbit (i.val : Int) 1 + zbit (i.val : Int) 2 + zbit (i.val : Int) 3 + zbit (i.val : Int) 4 + zbit (i.val : Int) 5 + zbit (i.val : Int) 6) := by decide +kernel
theorem bc_small {x : Int} (h0 : 0 ≤ x) (h : x < 128) : bcE (zI x) = zI (zbit x 0 + zbit x 1 + zbit x 2 + zbit x 3 + zbit x 4 + zbit x 5 + zbit x 6) := by
  obtain ⟨i, rfl⟩ := z_nop h0 h
  have h1 := bcK i
  rw [zI_nI] at h1
  exact h1
/-- the places beside a place -/
theorem bcN : ∀ (p : Fin 7) (i : Fin 128), bcE (nI i.val &&& ((zI 1 <<< (zI (p.val : Int) &&& 31)) <<< (zI 1 &&& 31) ||| (zI 1 <<< (zI (p.val : Int) &&& 31)) >>> (zI 1 &&& 31))) = zI ((if p.val = 0 then 0 else zbit (i.val : Int) ((p.val : Int) - 1)) + (if p.val = 6 then 0 else zbit (i.val : Int) ((p.val : Int) + 1))) := by decide +kernel
