/-! bits of small numbers -/
theorem z_shl {x b : Int} (hb0 : 0 ≤ b) (hb : b < 31) (hx0 : 0 ≤ x) (hx : x * 2 ^ b.toNat < 4294967296) : zI x <<< (zI b &&& 31) = zI (x * 2 ^ b.toNat) := by
  have key : ∀ j : Fin 31, (((nI j.val) &&& 31 : Int32).toBitVec.smod 32).toNat = j.val := by decide +kernel
  rw [zI_nat hb0 (by omega)]
  have h1 := key ⟨b.toNat, by omega⟩
  have hx2 : x ≤ 4294967296 := by
    have h3 : (0 : Int) < 2 ^ b.toNat := Int.pow_pos (by decide)
    have := Int.mul_le_mul_of_nonneg_left (show (1 : Int) ≤ 2 ^ b.toNat by omega) hx0
    omega
  have e1 : zI x = nI x.toNat := by rw [zI_nI, Int.toNat_of_nonneg hx0]
  rw [e1]
  have h2 : x.toNat * 2 ^ b.toNat < 2 ^ 32 := by
    have : ((x.toNat * 2 ^ b.toNat : Nat) : Int) < ((2 ^ 32 : Nat) : Int) := by
      rw [Int.natCast_mul, Int.toNat_of_nonneg hx0, Int.natCast_pow]
      simpa using hx
    exact_mod_cast this
  rw [pk_shlN _ b.toNat h1 h2, zI_nI]
  congr 1
  rw [Int.natCast_mul, Int.toNat_of_nonneg hx0, Int.natCast_pow]
  rfl
theorem z_shr {x b : Int} (hb0 : 0 ≤ b) (hb : b < 31) (hx0 : 0 ≤ x) (hx : x ≤ 2147483647) : zI x >>> (zI b &&& 31) = zI (x / 2 ^ b.toNat) := by
  have key : ∀ j : Fin 31, (((nI j.val) &&& 31 : Int32).toBitVec.smod 32).toNat = j.val := by decide +kernel
  rw [zI_nat hb0 (by omega), zI_nat hx0 hx]
  have h1 := key ⟨b.toNat, by omega⟩
  rw [pk_shrN (by omega) _ b.toNat h1, zI_nI]
  congr 1
  rw [Int.natCast_ediv, Int.toNat_of_nonneg hx0, Int.natCast_pow]
  rfl
theorem z_and1 {x : Int} (hx0 : 0 ≤ x) (hx : x ≤ 2147483647) : zI x &&& zI 1 = zI (x % 2) := by
  rw [zI_nat hx0 hx]
  have := pk_andN (n := x.toNat) (by omega) (m := zI 1) 1 (by decide)
  rw [this, zI_nI]
  congr 1
  rw [Int.natCast_emod, Int.toNat_of_nonneg hx0]
  rfl
def zor (x y : Int) : Int := ((x.toNat ||| y.toNat : Nat) : Int)
def zand (x y : Int) : Int := ((x.toNat &&& y.toNat : Nat) : Int)
def zxor (x y : Int) : Int := ((x.toNat ^^^ y.toNat : Nat) : Int)
theorem z_nop {x : Int} (h0 : 0 ≤ x) (h : x < 128) : ∃ j : Fin 128, x = (j.val : Int) := ⟨⟨x.toNat, by omega⟩, by simp; omega⟩
theorem z_orK : ∀ i j : Fin 128, nI i.val ||| nI j.val = nI (i.val ||| j.val) := by decide +kernel
theorem z_andK : ∀ i j : Fin 128, nI i.val &&& nI j.val = nI (i.val &&& j.val) := by decide +kernel
theorem z_xorK : ∀ i j : Fin 128, nI i.val ^^^ nI j.val = nI (i.val ^^^ j.val) := by decide +kernel
theorem z_notK : ∀ j : Fin 128, nI j.val ^^^ zI (-1) = zI (-(j.val : Int) - 1) := by decide +kernel
theorem z_andnK : ∀ i j : Fin 128, nI i.val &&& zI (-(j.val : Int) - 1) = nI (i.val - (i.val &&& j.val)) := by decide +kernel
theorem z_orE {x y : Int} (hx0 : 0 ≤ x) (hx : x < 128) (hy0 : 0 ≤ y) (hy : y < 128) : zI x ||| zI y = zI (zor x y) := by
  obtain ⟨i, rfl⟩ := z_nop hx0 hx
  obtain ⟨j, rfl⟩ := z_nop hy0 hy
  rw [← zI_nI, ← zI_nI, z_orK]; rfl
theorem z_andE {x y : Int} (hx0 : 0 ≤ x) (hx : x < 128) (hy0 : 0 ≤ y) (hy : y < 128) : zI x &&& zI y = zI (zand x y) := by
  obtain ⟨i, rfl⟩ := z_nop hx0 hx
  obtain ⟨j, rfl⟩ := z_nop hy0 hy
  rw [← zI_nI, ← zI_nI, z_andK]; rfl
theorem z_xorE {x y : Int} (hx0 : 0 ≤ x) (hx : x < 128) (hy0 : 0 ≤ y) (hy : y < 128) : zI x ^^^ zI y = zI (zxor x y) := by
  obtain ⟨i, rfl⟩ := z_nop hx0 hx
  obtain ⟨j, rfl⟩ := z_nop hy0 hy
  rw [← zI_nI, ← zI_nI, z_xorK]; rfl
theorem z_notE {y : Int} (hy0 : 0 ≤ y) (hy : y < 128) : zI y ^^^ zI (-1) = zI (-y - 1) := by
  obtain ⟨j, rfl⟩ := z_nop hy0 hy
  rw [← zI_nI, z_notK]
theorem z_andnE {x y : Int} (hx0 : 0 ≤ x) (hx : x < 128) (hy0 : 0 ≤ y) (hy : y < 128) : zI x &&& zI (-y - 1) = zI (x - zand x y) := by
  obtain ⟨i, rfl⟩ := z_nop hx0 hx
  obtain ⟨j, rfl⟩ := z_nop hy0 hy
  rw [← zI_nI, z_andnK, zI_nI]
  congr 1
  have : (i.val &&& j.val) ≤ i.val := Nat.and_le_left
  simp only [zand, Int.toNat_natCast]
  omega
section ZB
variable {d mid pc nx b : Nat} {c : Int} {l : List (Int × Nat)} {ls : hm_L} {st : List hm_V} {M : hm_M} {Q : Option hm_V → hm_M → Prop} {x y : Int}
theorem z_ishl (h : hm_at mid pc = some (nx, 4, c, 6, l)) (hy0 : 0 ≤ y) (hy : y < 7) (hx0 : 0 ≤ x) (hx : x < 128) (kk : hm_Wp d mid nx ls (.inl (zI (x * 2 ^ y.toNat)) :: st) M Q) : hm_Wp d mid pc ls (.inl (zI y) :: .inl (zI x) :: st) M Q := q_ishl h (by
  rw [z_shl hy0 (by omega) hx0 (by
    have h1 : (2 : Int) ^ y.toNat ≤ 2 ^ 6 := by
      have : y.toNat ≤ 6 := by omega
      exact_mod_cast Nat.pow_le_pow_right (by decide) this
    have h2 := Int.mul_le_mul (show x ≤ 127 by omega) h1 (by exact Int.le_of_lt (Int.pow_pos (by decide))) (by decide)
    omega)]
  exact kk)
theorem z_ishr (h : hm_at mid pc = some (nx, 4, c, 7, l)) (hy0 : 0 ≤ y) (hy : y < 7) (hx0 : 0 ≤ x) (hx : x ≤ 2147483647) (kk : ∀ v : Int, v = x / 2 ^ y.toNat → 0 ≤ v → v ≤ x → hm_Wp d mid nx ls (.inl (zI v) :: st) M Q) : hm_Wp d mid pc ls (.inl (zI y) :: .inl (zI x) :: st) M Q := q_ishr h (by
  rw [z_shr hy0 (by omega) hx0 hx]
  exact kk _ rfl (Int.ediv_nonneg hx0 (Int.le_of_lt (Int.pow_pos (by decide)))) (Int.ediv_le_self _ hx0))
theorem z_iand1 (h : hm_at mid pc = some (nx, 4, c, 3, l)) (hx0 : 0 ≤ x) (hx : x ≤ 2147483647) (kk : hm_Wp d mid nx ls (.inl (zI (x % 2)) :: st) M Q) : hm_Wp d mid pc ls (.inl (zI 1) :: .inl (zI x) :: st) M Q := q_iand h (by rw [z_and1 hx0 hx]; exact kk)
theorem z_iand (h : hm_at mid pc = some (nx, 4, c, 3, l)) (hx0 : 0 ≤ x) (hx : x < 128) (hy0 : 0 ≤ y) (hy : y < 128) (kk : hm_Wp d mid nx ls (.inl (zI (zand x y)) :: st) M Q) : hm_Wp d mid pc ls (.inl (zI y) :: .inl (zI x) :: st) M Q := q_iand h (by rw [z_andE hx0 hx hy0 hy]; exact kk)
theorem z_iandn (h : hm_at mid pc = some (nx, 4, c, 3, l)) (hx0 : 0 ≤ x) (hx : x < 128) (hy0 : 0 ≤ y) (hy : y < 128) (kk : hm_Wp d mid nx ls (.inl (zI (x - zand x y)) :: st) M Q) : hm_Wp d mid pc ls (.inl (zI (-y - 1)) :: .inl (zI x) :: st) M Q := q_iand h (by rw [z_andnE hx0 hx hy0 hy]; exact kk)
theorem z_ior (h : hm_at mid pc = some (nx, 4, c, 4, l)) (hx0 : 0 ≤ x) (hx : x < 128) (hy0 : 0 ≤ y) (hy : y < 128) (kk : hm_Wp d mid nx ls (.inl (zI (zor x y)) :: st) M Q) : hm_Wp d mid pc ls (.inl (zI y) :: .inl (zI x) :: st) M Q := q_ior h (by rw [z_orE hx0 hx hy0 hy]; exact kk)
theorem z_ixor (h : hm_at mid pc = some (nx, 4, c, 5, l)) (hx0 : 0 ≤ x) (hx : x < 128) (hy0 : 0 ≤ y) (hy : y < 128) (kk : hm_Wp d mid nx ls (.inl (zI (zxor x y)) :: st) M Q) : hm_Wp d mid pc ls (.inl (zI y) :: .inl (zI x) :: st) M Q := q_ixor h (by rw [z_xorE hx0 hx hy0 hy]; exact kk)
theorem z_inot (h : hm_at mid pc = some (nx, 4, c, 5, l)) (hy0 : 0 ≤ y) (hy : y < 128) (kk : hm_Wp d mid nx ls (.inl (zI (-y - 1)) :: st) M Q) : hm_Wp d mid pc ls (.inl (zI (-1)) :: .inl (zI y) :: st) M Q := q_ixor h (by rw [z_notE hy0 hy]; exact kk)
end ZB
theorem all_succ {P : Int → Prop} {b : Int} (h : ∀ c, 0 ≤ c → c < b → P c) (hb : P b) : ∀ c, 0 ≤ c → c < b + 1 → P c := by
  intro c h0 h1
  by_cases hc : c = b
  · rw [hc]; exact hb
  · exact h c h0 (by omega)
/-- sums of powers -/
def bsum (g : Int → Int) : Nat → Int
  | 0 => 0
  | n + 1 => bsum g n + g n * 2 ^ n
def b01 (g : Int → Int) (n : Nat) : Prop := ∀ b : Int, 0 ≤ b → b < n → g b = 0 ∨ g b = 1
theorem b01_le {g : Int → Int} {n m : Nat} (h : b01 g n) (hm : m ≤ n) : b01 g m := fun b h0 h1 => h b h0 (by omega)
theorem bsum_lt {g : Int → Int} : ∀ {n : Nat}, b01 g n → 0 ≤ bsum g n ∧ bsum g n < 2 ^ n
  | 0, _ => by simp [bsum]
  | n + 1, h => by
    obtain ⟨h1, h2⟩ := bsum_lt (b01_le h (Nat.le_succ n))
    have hp : (0 : Int) < 2 ^ n := Int.pow_pos (by decide)
    have e : (2 : Int) ^ (n + 1) = 2 * 2 ^ n := by rw [Int.pow_succ]; omega
    rw [e]
    simp only [bsum]
    rcases h n (by omega) (by omega) with z | z <;> rw [z] <;> omega
theorem bsum_bit {g : Int → Int} : ∀ {n : Nat}, b01 g n → ∀ k : Nat, k < n → bsum g n / 2 ^ k % 2 = g k
  | 0, _, k, hk => absurd hk (by omega)
  | n + 1, h, k, hk => by
    obtain ⟨h1, h2⟩ := bsum_lt (b01_le h (Nat.le_succ n))
    simp only [bsum]
    by_cases hkn : k = n
    · subst hkn
      have hp : (2 : Int) ^ k ≠ 0 := by have : (0 : Int) < 2 ^ k := Int.pow_pos (by decide); omega
      rw [Int.add_mul_ediv_right _ _ hp, Int.ediv_eq_zero_of_lt h1 h2]
      rcases h k (by omega) (by omega) with z | z <;> rw [z] <;> rfl
    · have hkl : k < n := by omega
      have ih := bsum_bit (b01_le h (Nat.le_succ n)) k hkl
      have hp : (2 : Int) ^ k ≠ 0 := by have : (0 : Int) < 2 ^ k := Int.pow_pos (by decide); omega
      have e : (2 : Int) ^ n = 2 * 2 ^ (n - 1 - k) * 2 ^ k := by
        rw [Int.mul_assoc, ← Int.pow_add, show n - 1 - k + k = n - 1 by omega, Int.mul_comm, ← Int.pow_succ, show (n - 1).succ = n by omega]
      rw [e, ← Int.mul_assoc, Int.add_mul_ediv_right _ _ hp]
      rw [show g (n : Int) * (2 * 2 ^ (n - 1 - k)) = 2 * (g (n : Int) * 2 ^ (n - 1 - k)) by rw [← Int.mul_assoc, ← Int.mul_assoc, Int.mul_comm (g n) 2]]
      rw [Int.add_mul_emod_self_left]
      exact ih
theorem bsum_congr {g g' : Int → Int} : ∀ {n : Nat}, (∀ b : Int, 0 ≤ b → b < n → g b = g' b) → bsum g n = bsum g' n
  | 0, _ => rfl
  | n + 1, h => by
    simp only [bsum]
    rw [bsum_congr (n := n) (fun b h0 h1 => h b h0 (by omega)), h n (by omega) (by omega)]
theorem zor_K : ∀ (b : Fin 7) (s : Fin 128), s.val < 2 ^ b.val → (s.val ||| 2 ^ b.val) = s.val + 2 ^ b.val := by decide +kernel
theorem zor_0 {x : Int} (h : 0 ≤ x) : zor x 0 = x := by simp [zor]; omega
theorem zor_add {s b : Int} (hb0 : 0 ≤ b) (hb : b < 7) (hs0 : 0 ≤ s) (hs : s < 2 ^ b.toNat) {g : Int} (hg : g = 0 ∨ g = 1) : zor s (g * 2 ^ b.toNat) = s + g * 2 ^ b.toNat := by
  rcases hg with rfl | rfl
  · rw [Int.zero_mul, Int.add_zero]; exact zor_0 hs0
  · have h1 : (2 : Int) ^ b.toNat ≤ 2 ^ 6 := by
      have : b.toNat ≤ 6 := by omega
      exact_mod_cast Nat.pow_le_pow_right (by decide) this
    have hs2 : s.toNat < 2 ^ b.toNat := by
      have e : ((2 ^ b.toNat : Nat) : Int) = 2 ^ b.toNat := by simp
      omega
    have := zor_K ⟨b.toNat, by omega⟩ ⟨s.toNat, by omega⟩ hs2
    simp only at this
    rw [Int.one_mul, zor]
    have e : ((2 : Int) ^ b.toNat).toNat = 2 ^ b.toNat := by
      have e : ((2 ^ b.toNat : Nat) : Int) = 2 ^ b.toNat := by simp
      omega
    rw [e, this]
    simp
    omega
