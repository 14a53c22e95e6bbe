section F13
variable {d r mid pc nx k : Nat} {M N : hm_M} {w v w0 g : Int → Int} {b n e x a s y c q i p sd : Int} {f : Nat → Int32} {Q : Option hm_V → hm_M → Prop} {l : List (Int × Nat)} {ls : hm_L} {st : List hm_V}
def lI (a : Int) : Int64 := Int64.ofInt a
theorem lI_toInt (h : -9000000000000000000 ≤ a) (h' : a ≤ 9000000000000000000) : (lI a).toInt = a := Int64.toInt_ofInt_of_le (by omega) (by omega)
theorem lI_div (ha : 0 ≤ a) (ha2 : a ≤ 9000000000000000000) (hb : 0 < b) (hb2 : b ≤ 9000000000000000000) : lI a / lI b = lI (a / b) := by
  apply Int64.toInt.inj
  have h1 := Int.ediv_le_self b ha
  have h2 := Int.ediv_nonneg ha (Int.le_of_lt hb)
  rw [Int64.toInt_div, lI_toInt (by omega) (by omega), lI_toInt (by omega) (by omega), lI_toInt (by omega) (by omega), Int.tdiv_eq_ediv_of_nonneg ha]
  exact Int.bmod_eq_of_le (by omega) (by omega)
theorem lI_rem (ha : 0 ≤ a) (ha2 : a ≤ 9000000000000000000) (hb : 0 < b) (hb2 : b ≤ 9000000000000000000) : lI a - lI a / lI b * lI b = lI (a % b) := by
  rw [lI_div ha ha2 hb hb2, Int.emod_def, Int.mul_comm b]
  unfold lI
  rw [Int64.ofInt_sub, Int64.ofInt_mul]
theorem lI_ne0 (hb : 0 < b) (hb2 : b ≤ 9000000000000000000) : ¬ lI b = 0 := fun h => by
  have := congrArg Int64.toInt h
  rw [lI_toInt (by omega) (by omega)] at this
  simp at this; omega
theorem z_i2l (h : hm_at mid pc = some (nx, 8, c, k, l)) (h0 : -2147483648 ≤ x) (h1 : x ≤ 2147483647) (kk : hm_Wp d mid nx ls (.inr (.inl (lI x)) :: st) M Q) : hm_Wp d mid pc ls (.inl (zI x) :: st) M Q := q_i2l h (by
  have e0 : Int32.minValue.toInt = -2147483648 := by decide
  have e1 : Int32.maxValue.toInt = 2147483647 := by decide
  have : (zI x).toInt64 = lI x := Int32.toInt64_ofInt (by omega) (by omega)
  rw [this]; exact kk)
theorem z_l2i (h : hm_at mid pc = some (nx, 9, c, k, l)) (kk : hm_Wp d mid nx ls (.inl (zI x) :: st) M Q) : hm_Wp d mid pc ls (.inr (.inl (lI x)) :: st) M Q := q_l2i h (by
  have : (lI x).toInt32 = zI x := Int64.toInt32_ofInt
  rw [this]; exact kk)
theorem z_lconst {v : Int} (h : hm_at mid pc = some (nx, 10, c, k, l)) (hv : (k : Int) = v) (kk : hm_Wp d mid nx ls (.inr (.inl (lI v)) :: st) M Q) : hm_Wp d mid pc ls st M Q := q_lconst h (by
  subst hv
  have : lN k = lI (k : Int) := Int64.ofInt_eq_ofNat.symm
  rw [this]; exact kk)
theorem z_lmul (h : hm_at mid pc = some (nx, 11, c, k, l)) (kk : hm_Wp d mid nx ls (.inr (.inl (lI (x * y))) :: st) M Q) : hm_Wp d mid pc ls (.inr (.inl (lI y)) :: .inr (.inl (lI x)) :: st) M Q := q_lmul h (by
  have : lI x * lI y = lI (x * y) := (Int64.ofInt_mul x y).symm
  rw [this]; exact kk)
theorem z_lrem (h : hm_at mid pc = some (nx, 12, c, k, l)) (h0 : 0 ≤ x) (h1 : x ≤ 9000000000000000000) (h2 : 0 < y) (h3 : y ≤ 9000000000000000000) (kk : hm_Wp d mid nx ls (.inr (.inl (lI (x % y))) :: st) M Q) : hm_Wp d mid pc ls (.inr (.inl (lI y)) :: .inr (.inl (lI x)) :: st) M Q := q_lrem h (lI_ne0 h2 h3) (by rw [lI_rem h0 h1 h2 h3]; exact kk)
theorem z_lcmp (h : hm_at mid pc = some (nx, 13, c, k, l)) (h0 : 0 ≤ x) (h1 : x ≤ 9000000000000000000) (h2 : 0 ≤ y) (h3 : y ≤ 9000000000000000000) (kk : ∀ t : Int, (t = 0 ↔ x = y) → -1 ≤ t → t ≤ 1 → hm_Wp d mid nx ls (.inl (zI t) :: st) M Q) : hm_Wp d mid pc ls (.inr (.inl (lI y)) :: .inr (.inl (lI x)) :: st) M Q := q_lcmp h (by
  have e1 : lI x > lI y ↔ x > y := by
    show lI y < lI x ↔ y < x
    rw [Int64.lt_iff_toInt_lt, lI_toInt (by omega) (by omega), lI_toInt (by omega) (by omega)]
  have e2 : lI x = lI y ↔ x = y := by
    rw [← Int64.toInt_inj, lI_toInt (by omega) (by omega), lI_toInt (by omega) (by omega)]
  unfold lg_cmp
  by_cases g1 : x > y
  · rw [if_pos (e1.mpr g1)]; exact kk 1 (by omega) (by decide) (by decide)
  · rw [if_neg (fun z => g1 (e1.mp z))]
    by_cases g2 : x = y
    · rw [if_pos (e2.mpr g2)]; exact kk 0 (by omega) (by decide) (by decide)
    · rw [if_neg (fun z => g2 (e2.mp z))]; exact kk (-1) (by omega) (by decide) (by decide))
/-! one basin taken off, or put on -/
theorem mWf_on (hw : mWf w) (hb0 : 0 ≤ b) (hb : b < w 2) (hx : x = 0 ∨ x = 1) : mWf (zup w (4 + 7 * b + 4) x) := by
  have e : ∀ i : Int, i ≠ 4 + 7 * b + 4 → zup w (4 + 7 * b + 4) x i = w i := fun i h => by simp [zup, h]
  have hbd := hw.2.1
  have hn := hw.1.1
  refine mWf_of hw (e 2 (by omega)) ?_ ?_ (by rw [e 3 (by omega)]; exact hbd 3 (by decide) (by decide)) (fun b b0 b1 => ?_) (fun b b0 b1 => ?_) (fun c q b0 b1 q0 q1 => ?_) (fun b q b0 b1 q0 q1 => e _ (by omega))
  · rw [e 0 (by omega)]; exact ⟨hw.2.2.2.2.1, (hbd 0 (by decide) (by decide)).1⟩
  · rw [e 1 (by omega)]; exact ⟨hw.2.2.2.2.2, (hbd 1 (by decide) (by decide)).1⟩
  · have h1 := hw.2.2.1 b b0 b1
    have h2 := hbd (4 + 7 * b + 1) (by omega) (by omega)
    rw [e _ (by omega), e _ (by omega), e _ (by omega)]; omega
  · have h1 := hw.2.2.1 b b0 b1
    have h2 := hbd (4 + 7 * b + 2) (by omega) (by omega)
    rw [e _ (by omega)]; omega
  · have := hw.1.2.1 c q b0 (by omega) q0 q1
    simp only [zup]; split <;> omega
theorem c_turn (hr : r = 7 ∨ r = 12 ∨ r = 22) (h : Hb M r w) (hw : mWf w) (hb0 : 0 ≤ b) (hb : b < w 2) (kk : ∀ M', Hb M' r (zup w (4 + 7 * b + 4) (1 - w (4 + 7 * b + 4))) → Fr r M M' → Q none M') : hm_Wp d 49 0 [some (.inr (.inr r)), some (.inl (zI b))] [] M Q := by
  have hn := hw.1.1
  have h01 := hw.f01 (q := 4) (by decide) (by decide)
  have s4 := bsum7_lt h01
  have h8 := h.1.2.2.2.1
  have hp := pow_lt7 (p := b) (by omega)
  have hx : zxor (bsum (mFlag w 4) 7) (1 * 2 ^ b.toNat) = bsum (zup (mFlag w 4) b (1 - w (4 + 7 * b + 4))) 7 := by rw [Int.one_mul]; exact zxor_set h01 hb0 (by omega)
  have hB := Hb_flg (q := 4) (j := 8) (x := 1 - w (4 + 7 * b + 4)) (F := upd (M r) 8 (zI (bsum (zup (mFlag w 4) b (1 - w (4 + 7 * b + 4))) 7))) h hb0 (by omega) (by omega) (by simp [upd]) (fun i hi => by simp [upd, hi])
  have hfr : Fr r M (hm_row M r (upd (M r) 8 (zI (bsum (zup (mFlag w 4) b (1 - w (4 + 7 * b + 4))) 7)))) := Fr.row (Nat.le_refl _) (by omega)
  rcases hr with rfl | rfl | rfl
  all_goals (
    refine q_aload gg49_0 rfl ?_
    refine q_dup gg49_1 rfl ?_
    first | refine z_getf gg49_2 rfl (by assumption) ?_ | refine q_getf gg49_2 rfl ?_
    refine z_const gg49_5 (v := 1) rfl ?_
    refine q_iload gg49_6 rfl ?_
    first | refine z_ishl gg49_7 (by omega) (by omega) (by omega) (by omega) ?_ | refine z_ishl7 gg49_7 (by omega) (by omega) (fun s7 es7 => ?_) | refine q_ishl gg49_7 ?_
    refine z_ixor gg49_8 s4.1 s4.2 (by omega) (by omega) ?_
    rw [hx]
    refine q_putf gg49_9 rfl ?_
    refine q_ret gg49_12 ?_
    exact kk _ hB hfr
  )
def swI (w : Int → Int) (b : Int) : Int := if w (4 + 7 * b + 5) = 1 then 0 else w (4 + 7 * b + 2)
def swA (w : Int → Int) : Int := csum (swI w) (w 2).toNat
theorem c_swellTogether (h : Hb M 22 w) (hw : mWf w) (kk : Q (some (.inl (zI (swA w)))) M) : hm_Wp (d + 1) 51 0 [some (.inr (.inr 22)), none, none] [] M Q := by
  have hn := hw.1.1
  have h4 := h.1.1
  have h9 := h.1.2.2.2.2.1
  have s5 := bsum7_lt (hw.f01 (q := 5) (by decide) (by decide))
  have a3 := h.2.2
  have L : ∀ (m : Nat) (c : Int), 0 ≤ c → c + m = w 2 → hm_Wp (d + 1) 51 4 [some (.inr (.inr 22)), some (.inl (zI (csum (swI w) c.toNat))), some (.inl (zI c))] [] M Q := by
    intro m
    induction m with
    | zero =>
      intro c hc0 hcm
      refine q_iload gg51_4 rfl ?_
      refine q_aload gg51_5 rfl ?_
      first | refine z_getf gg51_6 rfl (by assumption) ?_ | refine q_getf gg51_6 rfl ?_
      refine z_icmpge gg51_9 (tg := 35) rfl (by omega) (by omega) (fun c1 => ?_) (fun z => absurd z (by omega))
      refine q_iload gg51_35 rfl ?_
      refine q_iret gg51_36 ?_
      refine qv ?_ kk
      unfold swA
      rw [show c = w 2 by omega]
    | succ m ih =>
      intro c hc0 hcm
      have hi := ih (c + 1) (by omega) (by omega)
      rw [csum_succ hc0] at hi
      have q5 := hw.bit (q := 5) (by decide) (by decide) hc0 (by omega)
      have hp : swI w c = if w (4 + 7 * c + 5) = 1 then 0 else w (4 + 7 * c + 2) := rfl
      refine q_iload gg51_4 rfl ?_
      refine q_aload gg51_5 rfl ?_
      first | refine z_getf gg51_6 rfl (by assumption) ?_ | refine q_getf gg51_6 rfl ?_
      refine z_icmpge gg51_9 (tg := 35) rfl (by omega) (by omega) (fun z => absurd z (by omega)) (fun c1 => ?_)
      refine q_aload gg51_12 rfl ?_
      refine q_iload gg51_13 rfl ?_
      refine q_call2 gg51_14 tt34 rfl (Nat.le_of_ble_eq_true rfl) (hm_rv (by decide +kernel)) (ls' := [some _, some _]) rfl rfl ?_
      refine q_aload gg34_0 rfl ?_
      first | refine z_getf gg34_1 rfl (by assumption) ?_ | refine q_getf gg34_1 rfl ?_
      refine q_iload gg34_4 rfl ?_
      first | refine z_ishr gg34_5 (by omega) (by omega) (by omega) (by omega) (fun sisBurst_5 esisBurst_5 lsisBurst_5 usisBurst_5 => ?_) | refine q_ishr gg34_5 ?_
      refine z_const gg34_6 (v := 1) rfl ?_
      first | refine z_iand1 gg34_7 (by omega) (by omega) ?_ | refine z_iandn gg34_7 (by omega) (by omega) (by omega) (by omega) ?_ | refine q_iand gg34_7 ?_
      refine z_const gg34_8 (v := 1) rfl ?_
      refine z_icmpne gg34_9 (tg := 16) rfl (by omega) (by omega) (fun c2 => ?_) (fun c2 => ?_)
      · try (exfalso; omega)
        all_goals (
          refine z_const gg34_16 (v := 0) rfl ?_
          refine z_zretC gg34_17 (by omega) ?_
          refine z_ifne gg51_17 (tg := 29) rfl (by decide) (fun z => absurd z (by decide)) (fun _ => ?_)
          refine q_iload gg51_20 rfl ?_
          refine q_aload gg51_21 rfl ?_
          refine q_getr gg51_22 rfl ?_
          refine q_iload gg51_25 rfl ?_
          first | (refine z_alr gg51_26 (by first | rfl | assumption) (by assumption) (by omega) (by omega) (by omega) (by decide) (fun v26 ev26 lv26 uv26 => ?_); try dsimp only at ev26) | (refine z_alx gg51_26 rfl (by assumption) (by omega) (by omega) (by first | omega | decide) (by decide) (fun v26 ev26 lv26 uv26 => ?_); try dsimp only at ev26) | refine z_alq gg51_26 rfl (by omega) (by omega) (by decide) ?_
          first | refine z_iadd gg51_27 ?_ | refine q_iadd gg51_27 ?_
          refine q_istore gg51_28 rfl ?_
          refine z_iinc gg51_29 rfl rfl ?_
          refine q_goto gg51_32 (tg := 4) rfl ?_
          first | (rw [if_pos (by omega)] at hp; rw [hp, Int.add_zero] at hi; exact hi) | (rw [if_neg (by omega)] at hp; rw [hp, ← ev26] at hi; exact hi)
        )
      · try (exfalso; omega)
        all_goals (
          refine z_const gg34_12 (v := 1) rfl ?_
          refine q_goto gg34_13 (tg := 17) rfl ?_
          refine z_zretC gg34_17 (by omega) ?_
          refine z_ifne gg51_17 (tg := 29) rfl (by decide) (fun _ => ?_) (fun z => absurd z (by decide))
          refine z_iinc gg51_29 rfl rfl ?_
          refine q_goto gg51_32 (tg := 4) rfl ?_
          first | (rw [if_pos (by omega)] at hp; rw [hp, Int.add_zero] at hi; exact hi) | (rw [if_neg (by omega)] at hp; rw [hp, ← ev26] at hi; exact hi)
        )
  refine z_const gg51_0 (v := 0) rfl ?_
  refine q_istore gg51_1 rfl ?_
  refine z_const gg51_2 (v := 0) rfl ?_
  refine q_istore gg51_3 rfl ?_
  exact L (w 2).toNat 0 (by decide) (by omega)
/-! drawn -/
def dx (x : Int) : Int := x * 16807 % 2147483647
theorem dx_bd (x : Int) : 0 ≤ dx x ∧ dx x < 2147483647 := ⟨Int.emod_nonneg _ (by decide), Int.emod_lt_of_pos _ (by decide)⟩
def dMed (w : Int → Int) (x : Int) : Int → Int := if x % 2 = 0 ∧ w (4 + 7 * (x % w 2) + 5) = 0 then mStir w (x % w 2) else zup w (4 + 7 * (x % w 2) + 4) (1 - w (4 + 7 * (x % w 2) + 4))
theorem dMed_eq : dMed w x = if x % 2 = 0 ∧ w (4 + 7 * (x % w 2) + 5) = 0 then mStir w (x % w 2) else zup w (4 + 7 * (x % w 2) + 4) (1 - w (4 + 7 * (x % w 2) + 4)) := rfl
noncomputable def dIt : Nat → (Int → Int) → Int → (Int → Int)
  | 0, w, _ => w
  | m + 1, w, x => dIt m (mPass (dMed (zup w 0 (dx x % 10)) (dx x))) (dx x)
noncomputable def aDrawn (w : Int → Int) (n sd y : Int) : Int := if w 2 = 0 then -1000002 else if 0 ≤ n ∧ n ≤ 60 ∧ 1 ≤ sd ∧ sd ≤ 999999 ∧ 0 ≤ y ∧ y ≤ 1 then (if y = 0 then pc7 (bsum (mFlag (dIt n.toNat w sd) 5) 7) else swA (dIt n.toNat w sd)) else -1000001
theorem aDrawn_y (h2 : w 2 ≠ 0) (h : 0 ≤ n ∧ n ≤ 60 ∧ 1 ≤ sd ∧ sd ≤ 999999 ∧ 0 ≤ y ∧ y ≤ 1) : aDrawn w n sd y = (if y = 0 then pc7 (bsum (mFlag (dIt n.toNat w sd) 5) 7) else swA (dIt n.toNat w sd)) := by unfold aDrawn; rw [if_neg h2, if_pos h]
theorem dMed_wf (hw : mWf w) (h2 : 0 < w 2) (hx : 0 ≤ x) : mWf (dMed w x) ∧ dMed w x 2 = w 2 ∧ dMed w x 3 = w 3 := by
  have b0 := Int.emod_nonneg x (show w 2 ≠ 0 by omega)
  have b1 := Int.emod_lt_of_pos x h2
  have hn := hw.1.1
  unfold dMed
  split
  · exact ⟨mWf_stir hw b0 b1, mStir_ne (by omega) (by omega), mStir_ne (by omega) (by omega)⟩
  · have := hw.1.2.1 (x % w 2) 4 b0 (by omega) (by decide) (by decide)
    exact ⟨mWf_on hw b0 b1 (by omega), by simp only [zup]; rw [if_neg (by omega)], by simp only [zup]; rw [if_neg (by omega)]⟩
theorem c_meddle (h : Hb M 22 w) (hw : mWf w) (h2 : 0 < w 2) (hx : 0 ≤ x) (hx2 : x < 2147483647) (kk : ∀ M', Hb M' 22 (dMed w x) → Fr 22 M M' → Q none M') : hm_Wp (d + 2) 26 0 [some (.inr (.inr 21)), some (.inr (.inl (lI x))), none, none] [] M Q := by
  have b0 := Int.emod_nonneg x (show w 2 ≠ 0 by omega)
  have b1 := Int.emod_lt_of_pos x h2
  have hn := hw.1.1
  have h4 := h.1.1
  have h9 := h.1.2.2.2.2.1
  have s5 := bsum7_lt (hw.f01 (q := 5) (by decide) (by decide))
  have q5 := hw.bit (q := 5) (b := x % w 2) (by decide) (by decide) b0 (by omega)
  have hd : dMed w x = if x % 2 = 0 ∧ w (4 + 7 * (x % w 2) + 5) = 0 then mStir w (x % w 2) else zup w (4 + 7 * (x % w 2) + 4) (1 - w (4 + 7 * (x % w 2) + 4)) := rfl
  have w5 := hw.1.2.1 (x % w 2) 5 b0 (by omega) (by decide) (by decide)
  generalize hB : x % w 2 = B at *
  refine q_aload gg26_0 rfl ?_
  refine q_getr gg26_1 rfl ?_
  refine q_call1 gg26_4 tt31 rfl (Nat.le_of_ble_eq_true rfl) (hm_rv (by decide +kernel)) (ls' := [some _]) rfl rfl ?_
  refine q_aload gg31_0 rfl ?_
  first | refine z_getf gg31_1 rfl (by assumption) ?_ | refine q_getf gg31_1 rfl ?_
  refine z_ifne gg31_4 (tg := 11) rfl (by omega) (fun c1 => ?_) (fun c1 => ?_)
  · try (exfalso; omega)
    all_goals (
      refine z_const gg31_11 (v := 0) rfl ?_
      refine z_zretC gg31_12 (by omega) ?_
      refine z_ifeq gg26_7 (tg := 11) rfl (by decide) (fun _ => ?_) (fun z => absurd z (by decide))
      refine q_lload gg26_11 rfl ?_
      refine q_aload gg26_12 rfl ?_
      refine q_getr gg26_13 rfl ?_
      first | refine z_getf gg26_16 rfl (by assumption) ?_ | refine q_getf gg26_16 rfl ?_
      refine z_i2l gg26_19 (by omega) (by omega) ?_
      refine z_lrem gg26_20 (by omega) (by omega) (by omega) (by omega) ?_
      refine z_l2i gg26_21 ?_
      rw [hB]
      refine q_istore gg26_22 rfl ?_
      refine q_lload gg26_23 rfl ?_
      refine z_lconst gg26_24 (v := 2) rfl ?_
      refine z_lrem gg26_27 (by omega) (by omega) (by omega) (by omega) ?_
      refine z_lconst gg26_28 (v := 0) rfl ?_
      refine z_lcmp gg26_29 (by omega) (by omega) (by omega) (by omega) (fun t29 et29 lt29 ut29 => ?_)
      refine z_ifne gg26_30 (tg := 55) rfl (by omega) (fun c4 => ?_) (fun c4 => ?_)
      · try (exfalso; omega)
        all_goals (
          refine q_aload gg26_55 rfl ?_
          refine q_getr gg26_56 rfl ?_
          refine q_iload gg26_59 rfl ?_
          refine q_call2 gg26_60 tt49 rfl (Nat.le_of_ble_eq_true rfl) (hm_rv (by decide +kernel)) (ls' := [some _, some _]) rfl rfl ?_
          refine c_turn (by omega) h hw b0 (by omega) (fun M2 h2 hfr => ?_)
          show hm_Wp _ _ _ _ _ _ _
          refine q_ret gg26_63 ?_
          first | (rw [if_pos (by omega)] at hd; exact kk _ (hd ▸ h2) hfr) | (rw [if_neg (by omega)] at hd; exact kk _ (hd ▸ h2) hfr)
        )
      · try (exfalso; omega)
        all_goals (
          refine q_aload gg26_33 rfl ?_
          refine q_getr gg26_34 rfl ?_
          refine q_iload gg26_37 rfl ?_
          refine q_call2 gg26_38 tt34 rfl (Nat.le_of_ble_eq_true rfl) (hm_rv (by decide +kernel)) (ls' := [some _, some _]) rfl rfl ?_
          refine q_aload gg34_0 rfl ?_
          first | refine z_getf gg34_1 rfl (by assumption) ?_ | refine q_getf gg34_1 rfl ?_
          refine q_iload gg34_4 rfl ?_
          first | refine z_ishr gg34_5 (by omega) (by omega) (by omega) (by omega) (fun sisBurst_5 esisBurst_5 lsisBurst_5 usisBurst_5 => ?_) | refine q_ishr gg34_5 ?_
          refine z_const gg34_6 (v := 1) rfl ?_
          first | refine z_iand1 gg34_7 (by omega) (by omega) ?_ | refine z_iandn gg34_7 (by omega) (by omega) (by omega) (by omega) ?_ | refine q_iand gg34_7 ?_
          refine z_const gg34_8 (v := 1) rfl ?_
          refine z_icmpne gg34_9 (tg := 16) rfl (by omega) (by omega) (fun c5 => ?_) (fun c5 => ?_)
          · try (exfalso; omega)
            all_goals (
              refine z_const gg34_16 (v := 0) rfl ?_
              refine z_zretC gg34_17 (by omega) ?_
              refine z_ifne gg26_41 (tg := 55) rfl (by decide) (fun z => absurd z (by decide)) (fun _ => ?_)
              refine q_aload gg26_44 rfl ?_
              refine q_getr gg26_45 rfl ?_
              refine q_iload gg26_48 rfl ?_
              refine q_call2 gg26_49 tt48 rfl (Nat.le_of_ble_eq_true rfl) (hm_rv (by decide +kernel)) (ls' := [some _, some _]) rfl rfl ?_
              refine c_stirOnce (by omega) h hw b0 (by omega) (fun M2 h2 hfr => ?_)
              show hm_Wp _ _ _ _ _ _ _
              refine q_goto gg26_52 (tg := 63) rfl ?_
              refine q_ret gg26_63 ?_
              first | (rw [if_pos (by omega)] at hd; exact kk _ (hd ▸ h2) hfr) | (rw [if_neg (by omega)] at hd; exact kk _ (hd ▸ h2) hfr)
            )
          · try (exfalso; omega)
            all_goals (
              refine z_const gg34_12 (v := 1) rfl ?_
              refine q_goto gg34_13 (tg := 17) rfl ?_
              refine z_zretC gg34_17 (by omega) ?_
              refine z_ifne gg26_41 (tg := 55) rfl (by decide) (fun _ => ?_) (fun z => absurd z (by decide))
              refine q_aload gg26_55 rfl ?_
              refine q_getr gg26_56 rfl ?_
              refine q_iload gg26_59 rfl ?_
              refine q_call2 gg26_60 tt49 rfl (Nat.le_of_ble_eq_true rfl) (hm_rv (by decide +kernel)) (ls' := [some _, some _]) rfl rfl ?_
              refine c_turn (by omega) h hw b0 (by omega) (fun M2 h2 hfr => ?_)
              show hm_Wp _ _ _ _ _ _ _
              refine q_ret gg26_63 ?_
              first | (rw [if_pos (by omega)] at hd; exact kk _ (hd ▸ h2) hfr) | (rw [if_neg (by omega)] at hd; exact kk _ (hd ▸ h2) hfr)
            )
        )
    )
  · try (exfalso; omega)
    all_goals (
      refine z_const gg31_7 (v := 1) rfl ?_
      refine q_goto gg31_8 (tg := 12) rfl ?_
      refine z_zretC gg31_12 (by omega) ?_
      refine z_ifeq gg26_7 (tg := 11) rfl (by decide) (fun z => absurd z (by decide)) (fun _ => ?_)
      exfalso
      omega
    )
theorem dUp_2 : zup w 0 x 2 = w 2 := by simp [zup]
theorem dUp_3 : zup w 0 x 3 = w 3 := by simp [zup]
theorem c_century (hn0 : 0 ≤ n) (hn : n ≤ 60) (hs0 : 1 ≤ sd) (hs : sd ≤ 999999) (hy0 : 0 ≤ y) (hy : y ≤ 1) (h : Hb M 7 w) (hw : mWf w) (hw2 : w 2 ≠ 0) (h3 : w 3 ≤ 9999) (kk : ∀ M', FT M M' → Q (some (.inl (zI (aDrawn w n sd y)))) M') : hm_Wp (d + 5) 25 0 [some (.inr (.inr 21)), some (.inl (zI n)), some (.inl (zI sd)), some (.inl (zI y)), none, none, none] [] M Q := by
  have hn2 := hw.1.1
  have hE := aDrawn_y (y := y) (n := n) (sd := sd) hw2 ⟨hn0, hn, hs0, hs, hy0, hy⟩
  generalize hV : dIt n.toNat w sd = V at hE
  have L : ∀ (m : Nat) (j x : Int) (N : hm_M) (v : Int → Int), 0 ≤ j → j + m = n → 0 ≤ x → x < 2147483647 → Hb N 22 v → mWf v → v 2 = w 2 → v 3 + m ≤ 20000 → FT M N → dIt m v x = V → hm_Wp (d + 5) 25 11 [some (.inr (.inr 21)), some (.inl (zI n)), some (.inl (zI sd)), some (.inl (zI y)), some (.inr (.inl (lI x))), none, some (.inl (zI j))] [] N Q := by
    intro m
    induction m with
    | zero =>
      intro j x N v hj0 hjm hx0 hx hN hv hv2 hv3 hft heq
      simp only [dIt] at heq
      have h9 := hN.1.2.2.2.2.1
      have s5 := bsum7_lt (hv.f01 (q := 5) (by decide) (by decide))
      have kq := kk N hft
      rw [hE, ← heq] at kq
      refine q_iload gg25_11 rfl ?_
      refine q_iload gg25_13 rfl ?_
      refine z_icmpge gg25_14 (tg := 63) rfl (by omega) (by omega) (fun c1 => ?_) (fun z => absurd z (by omega))
      refine q_iload gg25_63 rfl ?_
      refine z_ifne gg25_64 (tg := 80) rfl (by omega) (fun c2 => ?_) (fun c2 => ?_)
      · try (exfalso; omega)
        all_goals (
          refine q_aload gg25_80 rfl ?_
          refine q_getr gg25_81 rfl ?_
          refine q_call1 gg25_84 tt51 rfl (Nat.le_of_ble_eq_true rfl) (hm_rv (by decide +kernel)) (ls' := [some _, none, none]) rfl rfl ?_
          refine c_swellTogether hN hv ?_
          show hm_Wp _ _ _ _ (_ :: _) _ _
          refine q_iret gg25_87 ?_
          first | (rw [if_pos (by omega)] at kq; exact kq) | (rw [if_neg (by omega)] at kq; exact kq)
        )
      · try (exfalso; omega)
        all_goals (
          refine q_aload gg25_67 rfl ?_
          refine q_getr gg25_68 rfl ?_
          first | refine z_getf gg25_71 rfl (by assumption) ?_ | refine q_getf gg25_71 rfl ?_
          refine q_call1 gg25_74 tt207 rfl (Nat.le_of_ble_eq_true rfl) rfl (ls' := [some _]) rfl rfl ?_
          refine c_bc (by omega) (by omega) ?_
          show hm_Wp _ _ _ _ (_ :: _) _ _
          refine q_goto gg25_77 (tg := 87) rfl ?_
          refine q_iret gg25_87 ?_
          first | (rw [if_pos (by omega)] at kq; exact kq) | (rw [if_neg (by omega)] at kq; exact kq)
        )
    | succ m ih =>
      intro j x N v hj0 hjm hx0 hx hN hv hv2 hv3 hft heq
      have hd := dx_bd x
      have hh0 := Int.emod_nonneg (dx x) (show (10 : Int) ≠ 0 by decide)
      have hh1 := Int.emod_lt_of_pos (dx x) (show (0 : Int) < 10 by decide)
      have hw1 := mWf_heat (x := dx x % 10) hv hh0 (by omega)
      have hH := Hb_f01 (i := 0) (j := 5) (x := dx x % 10) (by omega) hN
      have hm := dMed_wf (x := dx x) hw1 (by rw [dUp_2]; omega) hd.1
      have hm3 := hm.2.2
      rw [dUp_3] at hm3
      have hm2 := hm.2.1
      rw [dUp_2] at hm2
      simp only [dIt] at heq
      have e1 : x * 16807 % 2147483647 = dx x := rfl
      refine q_iload gg25_11 rfl ?_
      refine q_iload gg25_13 rfl ?_
      refine z_icmpge gg25_14 (tg := 63) rfl (by omega) (by omega) (fun z => absurd z (by omega)) (fun c1 => ?_)
      refine q_lload gg25_17 rfl ?_
      refine z_lconst gg25_19 (v := 16807) rfl ?_
      refine z_lmul gg25_22 ?_
      refine z_lconst gg25_23 (v := 2147483647) rfl ?_
      refine z_lrem gg25_26 (by omega) (by omega) (by omega) (by omega) ?_
      rw [e1]
      refine q_lstore gg25_27 rfl ?_
      refine q_aload gg25_29 rfl ?_
      refine q_getr gg25_30 rfl ?_
      refine q_lload gg25_33 rfl ?_
      refine z_lconst gg25_35 (v := 10) rfl ?_
      refine z_lrem gg25_38 (by omega) (by omega) (by omega) (by omega) ?_
      refine z_l2i gg25_39 ?_
      refine q_putf gg25_40 rfl ?_
      refine q_aload gg25_43 rfl ?_
      refine q_lload gg25_44 rfl ?_
      refine q_call2 gg25_46 tt26 rfl (Nat.le_of_ble_eq_true rfl) (hm_rv (by decide +kernel)) (ls' := [some _, some _, none, none]) rfl rfl ?_
      refine c_meddle hH hw1 (by rw [dUp_2]; omega) hd.1 hd.2 (fun M2 h2 hfr2 => ?_)
      show hm_Wp _ _ _ _ _ _ _
      refine q_aload gg25_49 rfl ?_
      refine q_getr gg25_50 rfl ?_
      refine q_call1 gg25_53 tt43 rfl (Nat.le_of_ble_eq_true rfl) (hm_rv (by decide +kernel)) (ls' := [some _, none, none, none]) rfl rfl ?_
      refine c_boil (by omega) h2 hm.1 (by omega) (fun M3 G1 hM3 hfr3 hG1 => ?_)
      show hm_Wp _ _ _ _ (_ :: _) _ _
      refine q_pop gg25_56 rfl ?_
      refine z_iinc gg25_57 rfl rfl ?_
      refine q_goto gg25_60 (tg := 11) rfl ?_
      exact ih (j + 1) (dx x) M3 _ (by omega) (by omega) hd.1 hd.2 hM3 (mWf_pass hm.1 (by omega)) (by rw [mPass_2]; omega) (by rw [mPass_3]; omega) (((hft.tr (Fr.row (r := 22) (q := 22) (M := N) (by decide) (by decide)).ft).tr hfr2.ft).tr hfr3.ft) heq
  refine q_aload gg25_0 rfl ?_
  refine q_call1 gg25_1 tt27 rfl (Nat.le_of_ble_eq_true rfl) (hm_rv (by decide +kernel)) (ls' := [some _]) rfl rfl ?_
  refine c_beginTrial h hw (fun M1 h1 h17 hft => ?_)
  show hm_Wp _ _ _ _ _ _ _
  refine q_iload gg25_4 rfl ?_
  refine z_i2l gg25_5 (by omega) (by omega) ?_
  refine q_lstore gg25_6 rfl ?_
  refine z_const gg25_8 (v := 0) rfl ?_
  refine q_istore gg25_9 rfl ?_
  exact L n.toNat 0 sd M1 w (by decide) (by omega) (by omega) (by omega) h1 hw rfl (by omega) hft hV
theorem c_drawn (hz : zR n) (hs : zR sd) (hy : zR y) (h : Hb M 7 w) (hw : mWf w) (h3 : w 3 ≤ 9999) (kk : ∀ M', FT M M' → Q (some (.inl (zI (aDrawn w n sd y)))) M') : hm_Wp (d + 6) 111 0 [some (.inr (.inr 0)), some (.inl (zI n)), some (.inl (zI sd)), some (.inl (zI y))] [] M Q := by
  have hn := hw.1.1
  have h4 := h.1.1
  unfold zR at hz hs hy
  refine q_aload gg111_0 rfl ?_
  refine q_getr gg111_1 rfl ?_
  refine q_call1 gg111_4 tt31 rfl (Nat.le_of_ble_eq_true rfl) (hm_rv (by decide +kernel)) (ls' := [some _]) rfl rfl ?_
  refine q_aload gg31_0 rfl ?_
  first | refine z_getf gg31_1 rfl (by assumption) ?_ | refine q_getf gg31_1 rfl ?_
  refine z_ifne gg31_4 (tg := 11) rfl (by omega) (fun c1 => ?_) (fun c1 => ?_)
  · try (exfalso; omega)
    all_goals (
      refine z_const gg31_11 (v := 0) rfl ?_
      refine z_zretC gg31_12 (by omega) ?_
      refine z_ifeq gg111_7 (tg := 13) rfl (by decide) (fun _ => ?_) (fun z => absurd z (by decide))
      refine q_iload gg111_13 rfl ?_
      refine z_iflt gg111_14 (tg := 41) rfl (by omega) (fun c2 => ?_) (fun c2 => ?_)
      · try (exfalso; omega)
        all_goals (
          refine z_neg gg111_41 ?_
          refine q_iret gg111_43 ?_
          refine qv ?_ (kk _ FT.rf)
          unfold aDrawn
          rw [if_neg (by omega), if_neg (by omega)]
        )
      · try (exfalso; omega)
        all_goals (
          refine q_iload gg111_17 rfl ?_
          refine z_const gg111_18 (v := 60) rfl ?_
          refine z_icmpgt gg111_20 (tg := 41) rfl (by omega) (by omega) (fun c3 => ?_) (fun c3 => ?_)
          · try (exfalso; omega)
            all_goals (
              refine z_neg gg111_41 ?_
              refine q_iret gg111_43 ?_
              refine qv ?_ (kk _ FT.rf)
              unfold aDrawn
              rw [if_neg (by omega), if_neg (by omega)]
            )
          · try (exfalso; omega)
            all_goals (
              refine q_iload gg111_23 rfl ?_
              refine z_const gg111_24 (v := 1) rfl ?_
              refine z_icmplt gg111_25 (tg := 41) rfl (by omega) (by omega) (fun c4 => ?_) (fun c4 => ?_)
              · try (exfalso; omega)
                all_goals (
                  refine z_neg gg111_41 ?_
                  refine q_iret gg111_43 ?_
                  refine qv ?_ (kk _ FT.rf)
                  unfold aDrawn
                  rw [if_neg (by omega), if_neg (by omega)]
                )
              · try (exfalso; omega)
                all_goals (
                  refine q_iload gg111_28 rfl ?_
                  refine z_const gg111_29 (v := 999999) rfl ?_
                  refine z_icmpgt gg111_31 (tg := 41) rfl (by omega) (by omega) (fun c5 => ?_) (fun c5 => ?_)
                  · try (exfalso; omega)
                    all_goals (
                      refine z_neg gg111_41 ?_
                      refine q_iret gg111_43 ?_
                      refine qv ?_ (kk _ FT.rf)
                      unfold aDrawn
                      rw [if_neg (by omega), if_neg (by omega)]
                    )
                  · try (exfalso; omega)
                    all_goals (
                      refine q_iload gg111_34 rfl ?_
                      refine q_call1 gg111_35 tt122 rfl (Nat.le_of_ble_eq_true rfl) rfl (ls' := [some _]) rfl rfl ?_
                      refine q_iload gg122_0 rfl ?_
                      refine z_ifeq gg122_1 (tg := 9) rfl (by omega) (fun c6 => ?_) (fun c6 => ?_)
                      · try (exfalso; omega)
                        all_goals (
                          refine z_const gg122_9 (v := 1) rfl ?_
                          refine q_goto gg122_10 (tg := 14) rfl ?_
                          refine z_zretC gg122_14 (by omega) ?_
                          refine z_ifne gg111_38 (tg := 44) rfl (by decide) (fun _ => ?_) (fun z => absurd z (by decide))
                          refine q_aload gg111_44 rfl ?_
                          refine q_getr gg111_45 rfl ?_
                          refine q_iload gg111_48 rfl ?_
                          refine q_iload gg111_49 rfl ?_
                          refine q_iload gg111_50 rfl ?_
                          refine q_call4 gg111_51 tt25 rfl (Nat.le_of_ble_eq_true rfl) (hm_rv (by decide +kernel)) (ls' := [some _, some _, some _, some _, none, none, none]) rfl rfl ?_
                          refine c_century (by omega) (by omega) (by omega) (by omega) (by omega) (by omega) h hw (by omega) h3 (fun M1 hft => ?_)
                          show hm_Wp _ _ _ _ (_ :: _) _ _
                          refine q_iret gg111_54 ?_
                          exact kk _ hft
                        )
                      · try (exfalso; omega)
                        all_goals (
                          refine q_iload gg122_4 rfl ?_
                          refine z_const gg122_5 (v := 1) rfl ?_
                          refine z_icmpne gg122_6 (tg := 13) rfl (by omega) (by omega) (fun c7 => ?_) (fun c7 => ?_)
                          · try (exfalso; omega)
                            all_goals (
                              refine z_const gg122_13 (v := 0) rfl ?_
                              refine z_zretC gg122_14 (by omega) ?_
                              refine z_ifne gg111_38 (tg := 44) rfl (by decide) (fun z => absurd z (by decide)) (fun _ => ?_)
                              refine z_neg gg111_41 ?_
                              refine q_iret gg111_43 ?_
                              refine qv ?_ (kk _ FT.rf)
                              unfold aDrawn
                              rw [if_neg (by omega), if_neg (by omega)]
                            )
                          · try (exfalso; omega)
                            all_goals (
                              refine z_const gg122_9 (v := 1) rfl ?_
                              refine q_goto gg122_10 (tg := 14) rfl ?_
                              refine z_zretC gg122_14 (by omega) ?_
                              refine z_ifne gg111_38 (tg := 44) rfl (by decide) (fun _ => ?_) (fun z => absurd z (by decide))
                              refine q_aload gg111_44 rfl ?_
                              refine q_getr gg111_45 rfl ?_
                              refine q_iload gg111_48 rfl ?_
                              refine q_iload gg111_49 rfl ?_
                              refine q_iload gg111_50 rfl ?_
                              refine q_call4 gg111_51 tt25 rfl (Nat.le_of_ble_eq_true rfl) (hm_rv (by decide +kernel)) (ls' := [some _, some _, some _, some _, none, none, none]) rfl rfl ?_
                              refine c_century (by omega) (by omega) (by omega) (by omega) (by omega) (by omega) h hw (by omega) h3 (fun M1 hft => ?_)
                              show hm_Wp _ _ _ _ (_ :: _) _ _
                              refine q_iret gg111_54 ?_
                              exact kk _ hft
                            )
                        )
                    )
                )
            )
        )
    )
  · try (exfalso; omega)
    all_goals (
      refine z_const gg31_7 (v := 1) rfl ?_
      refine q_goto gg31_8 (tg := 12) rfl ?_
      refine z_zretC gg31_12 (by omega) ?_
      refine z_ifeq gg111_7 (tg := 13) rfl (by decide) (fun z => absurd z (by decide)) (fun _ => ?_)
      refine z_neg gg111_10 ?_
      refine q_iret gg111_12 ?_
      refine qv ?_ (kk _ FT.rf)
      unfold aDrawn
      rw [if_pos (by omega)]
    )
theorem swI_bd (hw : mWf w) (hb0 : 0 ≤ b) (hb : b < w 2) : 0 ≤ swI w b ∧ swI w b ≤ 99 := by
  have h1 := hw.2.2.1 b hb0 hb
  have h2 := hw.2.1 (4 + 7 * b + 2) (by omega) (by have := hw.1.1; omega)
  unfold swI; split <;> omega
theorem r_drawn (hz : zR n) (hs : zR sd) (hy : zR y) (hf : aw (M 36) 53 0 20000 w) (hw : mWf w) (hc : w 2 = 0 ↔ w 1 = 0) (h3 : w 3 ≤ 9999) (kk : ∀ (M' : hm_M), FR M M' → Q (some (.inl (zI (aDrawn w n sd y)))) M') : hm_Wp (d + 6) 191 0 [some (.inr (.inr 30)), some (.inl (zI n)), some (.inl (zI sd)), some (.inl (zI y)), none, none, none, none, none] [] M Q := by
  have hn2 := hw.1.1
  unfold zR at hz hs hy
  have hrow : ∀ f2, aw (hm_row M 38 f2 36) 53 0 20000 w := fun f2 => by rw [hm_row_ne _ _ (by decide)]; exact hf
  have L2 : w 2 ≠ 0 → 0 ≤ n → n ≤ 60 → 1 ≤ sd → sd ≤ 999999 → 0 ≤ y → y ≤ 1 → ∀ (m : Nat) (j x : Int) (f : Nat → Int32) (v : Int → Int) (x8 : Option hm_V), 0 ≤ j → j + m = w 2 → aw f 53 0 20000 v → mWf v → v 2 = w 2 → dIt n.toNat w sd = v → hm_Wp (d + 6) 191 189 [some (.inr (.inr 30)), some (.inl (zI n)), some (.inl (zI sd)), some (.inl (zI y)), some (.inr (.inl (lI x))), none, some (.inl (zI (csum (swI v) j.toNat))), some (.inl (zI j)), x8] [] (hm_row M 38 f) Q := by
    intro hw2 hn0 hn hs0 hs hy0 hy1 m
    have hE := aDrawn_y (y := y) (n := n) (sd := sd) hw2 ⟨hn0, hn, hs0, hs, hy0, hy1⟩
    induction m with
    | zero =>
      intro j x f v x8 hj0 hjm hfv hv hv2 heq
      have s5 := bsum7_lt (hv.f01 (q := 5) (by decide) (by decide))
      have hr2 := hrow f
      have kq := kk _ (FR.row (M := M) (f := f))
      rw [hE, heq] at kq
      rw [show csum (swI v) j.toNat = swA v by unfold swA; rw [show j = v 2 by omega]]
      refine q_iload gg191_189 rfl ?_
      refine q_aload gg191_191 rfl ?_
      refine q_getr gg191_192 rfl ?_
      refine z_const gg191_195 (v := 2) rfl ?_
      first | (refine z_alr gg191_196 (by first | rfl | assumption) (by assumption) (by omega) (by omega) (by omega) (by decide) (fun v196 ev196 lv196 uv196 => ?_); try dsimp only at ev196) | (refine z_alx gg191_196 rfl (by assumption) (by omega) (by omega) (by first | omega | decide) (by decide) (fun v196 ev196 lv196 uv196 => ?_); try dsimp only at ev196) | refine z_alq gg191_196 rfl (by omega) (by omega) (by decide) ?_
      refine z_icmpge gg191_197 (tg := 247) rfl (by omega) (by omega) (fun c1 => ?_) (fun z => absurd z (by omega))
      refine q_iload gg191_247 rfl ?_
      refine z_ifne gg191_248 (tg := 265) rfl (by omega) (fun c2 => ?_) (fun c2 => ?_)
      · try (exfalso; omega)
        all_goals (
          refine q_iload gg191_265 rfl ?_
          refine q_iret gg191_267 ?_
          first | (rw [if_pos (by omega)] at kq; exact kq) | (rw [if_neg (by omega)] at kq; exact kq)
        )
      · try (exfalso; omega)
        all_goals (
          refine q_aload gg191_251 rfl ?_
          refine q_getr gg191_252 rfl ?_
          refine z_const gg191_255 (v := 5) rfl ?_
          refine q_call2 gg191_256 tt156 rfl (Nat.le_of_ble_eq_true rfl) rfl (ls' := [some _, some _, none, none]) rfl rfl ?_
          refine r_areSo rfl hfv hv.1.1.1 hv.1.1.2 (by decide) (by decide) (hv.f01 (by decide) (by decide)) ?_
          rw [wf_bs hv (by decide) (by decide)]
          show hm_Wp _ _ _ _ (_ :: _) _ _
          refine q_call1 gg191_259 tt126 rfl (Nat.le_of_ble_eq_true rfl) rfl (ls' := [some _, none, none]) rfl rfl ?_
          refine r_ones (by omega) (by omega) ?_
          show hm_Wp _ _ _ _ (_ :: _) _ _
          refine q_goto gg191_262 (tg := 267) rfl ?_
          refine q_iret gg191_267 ?_
          first | (rw [if_pos (by omega)] at kq; exact kq) | (rw [if_neg (by omega)] at kq; exact kq)
        )
    | succ m ih =>
      intro j x f v x8 hj0 hjm hfv hv hv2 heq
      have hr2 := hrow f
      have hi := fun x8 => ih (j + 1) x f v x8 (by omega) (by omega) hfv hv hv2 heq
      rw [csum_succ hj0] at hi
      have hp : swI v j = if v (4 + 7 * j + 5) = 1 then 0 else v (4 + 7 * j + 2) := rfl
      refine q_iload gg191_189 rfl ?_
      refine q_aload gg191_191 rfl ?_
      refine q_getr gg191_192 rfl ?_
      refine z_const gg191_195 (v := 2) rfl ?_
      first | (refine z_alr gg191_196 (by first | rfl | assumption) (by assumption) (by omega) (by omega) (by omega) (by decide) (fun v196 ev196 lv196 uv196 => ?_); try dsimp only at ev196) | (refine z_alx gg191_196 rfl (by assumption) (by omega) (by omega) (by first | omega | decide) (by decide) (fun v196 ev196 lv196 uv196 => ?_); try dsimp only at ev196) | refine z_alq gg191_196 rfl (by omega) (by omega) (by decide) ?_
      refine z_icmpge gg191_197 (tg := 247) rfl (by omega) (by omega) (fun z => absurd z (by omega)) (fun c1 => ?_)
      refine q_iload gg191_200 rfl ?_
      refine q_aload gg191_202 rfl ?_
      refine q_getr gg191_203 rfl ?_
      refine z_const gg191_206 (v := 4) rfl ?_
      refine z_const gg191_207 (v := 7) rfl ?_
      refine q_iload gg191_209 rfl ?_
      first | refine z_imul gg191_211 ?_ | refine q_imul gg191_211 ?_
      first | refine z_iadd gg191_212 ?_ | refine q_iadd gg191_212 ?_
      refine z_const gg191_213 (v := 5) rfl ?_
      first | refine z_iadd gg191_214 ?_ | refine q_iadd gg191_214 ?_
      first | (refine z_alr gg191_215 (by first | rfl | assumption) (by assumption) (by omega) (by omega) (by omega) (by decide) (fun v215 ev215 lv215 uv215 => ?_); try dsimp only at ev215) | (refine z_alx gg191_215 rfl (by assumption) (by omega) (by omega) (by first | omega | decide) (by decide) (fun v215 ev215 lv215 uv215 => ?_); try dsimp only at ev215) | refine z_alq gg191_215 rfl (by omega) (by omega) (by decide) ?_
      refine z_const gg191_216 (v := 1) rfl ?_
      refine z_icmpne gg191_217 (tg := 224) rfl (by omega) (by omega) (fun c2 => ?_) (fun c2 => ?_)
      · try (exfalso; omega)
        all_goals (
          refine q_aload gg191_224 rfl ?_
          refine q_getr gg191_225 rfl ?_
          refine z_const gg191_228 (v := 4) rfl ?_
          refine z_const gg191_229 (v := 7) rfl ?_
          refine q_iload gg191_231 rfl ?_
          first | refine z_imul gg191_233 ?_ | refine q_imul gg191_233 ?_
          first | refine z_iadd gg191_234 ?_ | refine q_iadd gg191_234 ?_
          refine z_const gg191_235 (v := 2) rfl ?_
          first | refine z_iadd gg191_236 ?_ | refine q_iadd gg191_236 ?_
          first | (refine z_alr gg191_237 (by first | rfl | assumption) (by assumption) (by omega) (by omega) (by omega) (by decide) (fun v237 ev237 lv237 uv237 => ?_); try dsimp only at ev237) | (refine z_alx gg191_237 rfl (by assumption) (by omega) (by omega) (by first | omega | decide) (by decide) (fun v237 ev237 lv237 uv237 => ?_); try dsimp only at ev237) | refine z_alq gg191_237 rfl (by omega) (by omega) (by decide) ?_
          first | refine z_iadd gg191_238 ?_ | refine q_iadd gg191_238 ?_
          refine q_istore gg191_239 rfl ?_
          refine z_iinc gg191_241 rfl rfl ?_
          refine q_goto gg191_244 (tg := 189) rfl ?_
          first | (rw [if_pos (by omega)] at hp; rw [hp] at hi; exact hi _) | (rw [if_neg (by omega)] at hp; rw [hp, ← ev237] at hi; exact hi _)
        )
      · try (exfalso; omega)
        all_goals (
          refine z_const gg191_220 (v := 0) rfl ?_
          refine q_goto gg191_221 (tg := 238) rfl ?_
          first | refine z_iadd gg191_238 ?_ | refine q_iadd gg191_238 ?_
          refine q_istore gg191_239 rfl ?_
          refine z_iinc gg191_241 rfl rfl ?_
          refine q_goto gg191_244 (tg := 189) rfl ?_
          first | (rw [if_pos (by omega)] at hp; rw [hp] at hi; exact hi _) | (rw [if_neg (by omega)] at hp; rw [hp, ← ev237] at hi; exact hi _)
        )
  have L : w 2 ≠ 0 → 0 ≤ n → n ≤ 60 → 1 ≤ sd → sd ≤ 999999 → 0 ≤ y → y ≤ 1 → ∀ (m : Nat) (j x : Int) (f : Nat → Int32) (v : Int → Int) (x7 x8 : Option hm_V), hm_free [none, none, none, none, none, none, none, x7, x8] 8 = true → 0 ≤ j → j + m = n → 0 ≤ x → x < 2147483647 → aw f 53 0 20000 v → mWf v → v 2 = w 2 → v 3 + m ≤ 20000 → dIt n.toNat w sd = dIt m v x → hm_Wp (d + 6) 191 62 [some (.inr (.inr 30)), some (.inl (zI n)), some (.inl (zI sd)), some (.inl (zI y)), some (.inr (.inl (lI x))), none, some (.inl (zI j)), x7, x8] [] (hm_row M 38 f) Q := by
    intro hw2 hn0 hn hs0 hs hy0 hy1 m
    induction m with
    | zero =>
      intro j x f v x7 x8 hx8 hj0 hjm hx0 hx hfv hv hv2 hv3 heq
      refine q_iload gg191_62 rfl ?_
      refine q_iload gg191_64 rfl ?_
      refine z_icmpge gg191_65 (tg := 183) rfl (by omega) (by omega) (fun c1 => ?_) (fun z => absurd z (by omega))
      refine z_const gg191_183 (v := 0) rfl ?_
      refine q_istore gg191_184 rfl ?_
      refine z_const gg191_186 (v := 0) rfl ?_
      refine q_istore gg191_187 rfl ?_
      exact L2 hw2 hn0 hn hs0 hs hy0 hy1 (w 2).toNat 0 x f v x8 (by decide) (by omega) hfv hv hv2 heq
    | succ m ih =>
      intro j x f v x7 x8 hx8 hj0 hjm hx0 hx hfv hv hv2 hv3 heq
      have hd := dx_bd x
      have hh0 := Int.emod_nonneg (dx x) (show (10 : Int) ≠ 0 by decide)
      have hh1 := Int.emod_lt_of_pos (dx x) (show (0 : Int) < 10 by decide)
      have hw1 := mWf_heat (x := dx x % 10) hv hh0 (by omega)
      have hm := dMed_wf (x := dx x) hw1 (by rw [dUp_2]; omega) hd.1
      have hm3 := hm.2.2
      rw [dUp_3] at hm3
      have hm2 := hm.2.1
      rw [dUp_2] at hm2
      simp only [dIt] at heq
      have e1 : x * 16807 % 2147483647 = dx x := rfl
      have hmd := dMed_eq (w := zup v 0 (dx x % 10)) (x := dx x)
      rw [dUp_2, hv2] at hmd
      have b0 := Int.emod_nonneg (dx x) (show w 2 ≠ 0 by omega)
      have b1 := Int.emod_lt_of_pos (dx x) (show 0 < w 2 by omega)
      have won := hw1.1.2.1 (dx x % w 2) 4 b0 (by omega) (by decide) (by decide)
      refine q_iload gg191_62 rfl ?_
      refine q_iload gg191_64 rfl ?_
      refine z_icmpge gg191_65 (tg := 183) rfl (by omega) (by omega) (fun z => absurd z (by omega)) (fun c1 => ?_)
      refine q_lload gg191_68 rfl ?_
      refine z_lconst gg191_70 (v := 16807) rfl ?_
      refine z_lmul gg191_73 ?_
      refine z_lconst gg191_74 (v := 2147483647) rfl ?_
      refine z_lrem gg191_77 (by omega) (by omega) (by omega) (by omega) ?_
      rw [e1]
      refine q_lstore gg191_78 rfl ?_
      refine q_aload gg191_80 rfl ?_
      refine q_getr gg191_81 rfl ?_
      refine z_const gg191_84 (v := 0) rfl ?_
      refine q_lload gg191_85 rfl ?_
      refine z_lconst gg191_87 (v := 10) rfl ?_
      refine z_lrem gg191_90 (by omega) (by omega) (by omega) (by omega) ?_
      refine z_l2i gg191_91 ?_
      first | refine z_asr gg191_92 (by first | rfl | assumption) (by assumption) (by omega) (by omega) (by decide) (by omega) (by omega) (fun f92 h92 => ?_) | refine z_asx gg191_92 rfl (by omega) (by omega) (by decide) ?_ | refine z_asq gg191_92 rfl (by omega) (by omega) (by decide) ?_
      have hr2 := hrow f92
      refine q_lload gg191_93 rfl ?_
      refine q_aload gg191_95 rfl ?_
      refine q_getr gg191_96 rfl ?_
      refine z_const gg191_99 (v := 2) rfl ?_
      first | (refine z_alr gg191_100 (by first | rfl | assumption) (by assumption) (by omega) (by omega) (by omega) (by decide) (fun v100 ev100 lv100 uv100 => ?_); try dsimp only at ev100) | (refine z_alx gg191_100 rfl (by assumption) (by omega) (by omega) (by first | omega | decide) (by decide) (fun v100 ev100 lv100 uv100 => ?_); try dsimp only at ev100) | refine z_alq gg191_100 rfl (by omega) (by omega) (by decide) ?_
      subst ev100
      refine z_i2l gg191_101 (by omega) (by omega) ?_
      refine z_lrem gg191_102 (by omega) (by omega) (by omega) (by omega) ?_
      refine z_l2i gg191_103 ?_
      generalize hB : dx x % w 2 = B at *
      refine q_istore gg191_104 rfl ?_
      refine z_const gg191_106 (v := 4) rfl ?_
      refine z_const gg191_107 (v := 7) rfl ?_
      refine q_iload gg191_109 rfl ?_
      first | refine z_imul gg191_111 ?_ | refine q_imul gg191_111 ?_
      first | refine z_iadd gg191_112 ?_ | refine q_iadd gg191_112 ?_
      refine q_istore gg191_113 rfl ?_
      refine q_lload gg191_115 rfl ?_
      refine z_lconst gg191_117 (v := 2) rfl ?_
      refine z_lrem gg191_120 (by omega) (by omega) (by omega) (by omega) ?_
      refine z_lconst gg191_121 (v := 0) rfl ?_
      refine z_lcmp gg191_122 (by omega) (by omega) (by omega) (by omega) (fun t122 et122 lt122 ut122 => ?_)
      refine z_ifne gg191_123 (tg := 150) rfl (by omega) (fun c1 => ?_) (fun c1 => ?_)
      · try (exfalso; omega)
        all_goals (
          refine q_aload gg191_150 rfl ?_
          refine q_getr gg191_151 rfl ?_
          refine q_iload gg191_154 rfl ?_
          refine z_const gg191_156 (v := 4) rfl ?_
          first | refine z_iadd gg191_157 ?_ | refine q_iadd gg191_157 ?_
          refine z_const gg191_158 (v := 1) rfl ?_
          refine q_aload gg191_159 rfl ?_
          refine q_getr gg191_160 rfl ?_
          refine q_iload gg191_163 rfl ?_
          refine z_const gg191_165 (v := 4) rfl ?_
          first | refine z_iadd gg191_166 ?_ | refine q_iadd gg191_166 ?_
          first | (refine z_alr gg191_167 (by first | rfl | assumption) (by assumption) (by omega) (by omega) (by omega) (by decide) (fun v167 ev167 lv167 uv167 => ?_); try dsimp only at ev167) | (refine z_alx gg191_167 rfl (by assumption) (by omega) (by omega) (by first | omega | decide) (by decide) (fun v167 ev167 lv167 uv167 => ?_); try dsimp only at ev167) | refine z_alq gg191_167 rfl (by omega) (by omega) (by decide) ?_
          first | refine z_isub gg191_168 ?_ | refine q_isub gg191_168 ?_
          first | refine z_asr gg191_169 (by first | rfl | assumption) (by assumption) (by omega) (by omega) (by decide) (by omega) (by omega) (fun f169 h169 => ?_) | refine z_asx gg191_169 rfl (by omega) (by omega) (by decide) ?_ | refine z_asq gg191_169 rfl (by omega) (by omega) (by decide) ?_
          first
          | (have hf4 : aw f3 53 0 20000 (dMed (zup v 0 (dx x % 10)) (dx x)) := by
               rw [hmd, if_pos (by omega)]; exact hf3
             refine q_aload gg191_170 rfl ?_
             refine q_getr gg191_171 rfl ?_
             refine q_call1 gg191_174 tt162 rfl (Nat.le_of_ble_eq_true rfl) rfl (ls' := [some _, none]) rfl rfl ?_
             refine r_passes rfl hf4 hm.1.1 (by omega) (fun f5 hf5 => ?_)
             show hm_Wp _ _ _ _ _ _ _
             refine z_iinc gg191_177 rfl rfl ?_
             refine q_goto gg191_180 (tg := 62) rfl ?_
             exact ih (j + 1) (dx x) f5 _ _ _ rfl (by omega) (by omega) hd.1 hd.2 hf5 (mWf_pass hm.1 (by omega)) (by rw [mPass_2]; omega) (by rw [mPass_3]; omega) heq
             done)
          | (have hf4 : aw f169 53 0 20000 (dMed (zup v 0 (dx x % 10)) (dx x)) := by
               rw [hmd, if_neg (by omega), ← ev167]; exact h169
             refine q_aload gg191_170 rfl ?_
             refine q_getr gg191_171 rfl ?_
             refine q_call1 gg191_174 tt162 rfl (Nat.le_of_ble_eq_true rfl) rfl (ls' := [some _, none]) rfl rfl ?_
             refine r_passes rfl hf4 hm.1.1 (by omega) (fun f5 hf5 => ?_)
             show hm_Wp _ _ _ _ _ _ _
             refine z_iinc gg191_177 rfl rfl ?_
             refine q_goto gg191_180 (tg := 62) rfl ?_
             exact ih (j + 1) (dx x) f5 _ _ _ rfl (by omega) (by omega) hd.1 hd.2 hf5 (mWf_pass hm.1 (by omega)) (by rw [mPass_2]; omega) (by rw [mPass_3]; omega) heq
             done)
        )
      · try (exfalso; omega)
        all_goals (
          refine q_aload gg191_126 rfl ?_
          refine q_getr gg191_127 rfl ?_
          refine q_iload gg191_130 rfl ?_
          refine z_const gg191_132 (v := 5) rfl ?_
          first | refine z_iadd gg191_133 ?_ | refine q_iadd gg191_133 ?_
          first | (refine z_alr gg191_134 (by first | rfl | assumption) (by assumption) (by omega) (by omega) (by omega) (by decide) (fun v134 ev134 lv134 uv134 => ?_); try dsimp only at ev134) | (refine z_alx gg191_134 rfl (by assumption) (by omega) (by omega) (by first | omega | decide) (by decide) (fun v134 ev134 lv134 uv134 => ?_); try dsimp only at ev134) | refine z_alq gg191_134 rfl (by omega) (by omega) (by decide) ?_
          refine z_ifne gg191_135 (tg := 150) rfl (by omega) (fun c2 => ?_) (fun c2 => ?_)
          · try (exfalso; omega)
            all_goals (
              refine q_aload gg191_150 rfl ?_
              refine q_getr gg191_151 rfl ?_
              refine q_iload gg191_154 rfl ?_
              refine z_const gg191_156 (v := 4) rfl ?_
              first | refine z_iadd gg191_157 ?_ | refine q_iadd gg191_157 ?_
              refine z_const gg191_158 (v := 1) rfl ?_
              refine q_aload gg191_159 rfl ?_
              refine q_getr gg191_160 rfl ?_
              refine q_iload gg191_163 rfl ?_
              refine z_const gg191_165 (v := 4) rfl ?_
              first | refine z_iadd gg191_166 ?_ | refine q_iadd gg191_166 ?_
              first | (refine z_alr gg191_167 (by first | rfl | assumption) (by assumption) (by omega) (by omega) (by omega) (by decide) (fun v167 ev167 lv167 uv167 => ?_); try dsimp only at ev167) | (refine z_alx gg191_167 rfl (by assumption) (by omega) (by omega) (by first | omega | decide) (by decide) (fun v167 ev167 lv167 uv167 => ?_); try dsimp only at ev167) | refine z_alq gg191_167 rfl (by omega) (by omega) (by decide) ?_
              first | refine z_isub gg191_168 ?_ | refine q_isub gg191_168 ?_
              first | refine z_asr gg191_169 (by first | rfl | assumption) (by assumption) (by omega) (by omega) (by decide) (by omega) (by omega) (fun f169 h169 => ?_) | refine z_asx gg191_169 rfl (by omega) (by omega) (by decide) ?_ | refine z_asq gg191_169 rfl (by omega) (by omega) (by decide) ?_
              first
              | (have hf4 : aw f3 53 0 20000 (dMed (zup v 0 (dx x % 10)) (dx x)) := by
                   rw [hmd, if_pos (by omega)]; exact hf3
                 refine q_aload gg191_170 rfl ?_
                 refine q_getr gg191_171 rfl ?_
                 refine q_call1 gg191_174 tt162 rfl (Nat.le_of_ble_eq_true rfl) rfl (ls' := [some _, none]) rfl rfl ?_
                 refine r_passes rfl hf4 hm.1.1 (by omega) (fun f5 hf5 => ?_)
                 show hm_Wp _ _ _ _ _ _ _
                 refine z_iinc gg191_177 rfl rfl ?_
                 refine q_goto gg191_180 (tg := 62) rfl ?_
                 exact ih (j + 1) (dx x) f5 _ _ _ rfl (by omega) (by omega) hd.1 hd.2 hf5 (mWf_pass hm.1 (by omega)) (by rw [mPass_2]; omega) (by rw [mPass_3]; omega) heq
                 done)
              | (have hf4 : aw f169 53 0 20000 (dMed (zup v 0 (dx x % 10)) (dx x)) := by
                   rw [hmd, if_neg (by omega), ← ev167]; exact h169
                 refine q_aload gg191_170 rfl ?_
                 refine q_getr gg191_171 rfl ?_
                 refine q_call1 gg191_174 tt162 rfl (Nat.le_of_ble_eq_true rfl) rfl (ls' := [some _, none]) rfl rfl ?_
                 refine r_passes rfl hf4 hm.1.1 (by omega) (fun f5 hf5 => ?_)
                 show hm_Wp _ _ _ _ _ _ _
                 refine z_iinc gg191_177 rfl rfl ?_
                 refine q_goto gg191_180 (tg := 62) rfl ?_
                 exact ih (j + 1) (dx x) f5 _ _ _ rfl (by omega) (by omega) hd.1 hd.2 hf5 (mWf_pass hm.1 (by omega)) (by rw [mPass_2]; omega) (by rw [mPass_3]; omega) heq
                 done)
            )
          · try (exfalso; omega)
            all_goals (
              refine q_aload gg191_138 rfl ?_
              refine q_getr gg191_139 rfl ?_
              refine q_iload gg191_142 rfl ?_
              refine q_call2 gg191_144 tt163 rfl (Nat.le_of_ble_eq_true rfl) rfl (ls' := [some _, some _, none]) rfl rfl ?_
              refine r_stirsOne rfl h92 b0 (by omega) (fun f3 hf3 => ?_)
              show hm_Wp _ _ _ _ _ _ _
              refine q_goto gg191_147 (tg := 170) rfl ?_
              first
              | (have hf4 : aw f3 53 0 20000 (dMed (zup v 0 (dx x % 10)) (dx x)) := by
                   rw [hmd, if_pos (by omega)]; exact hf3
                 refine q_aload gg191_170 rfl ?_
                 refine q_getr gg191_171 rfl ?_
                 refine q_call1 gg191_174 tt162 rfl (Nat.le_of_ble_eq_true rfl) rfl (ls' := [some _, none]) rfl rfl ?_
                 refine r_passes rfl hf4 hm.1.1 (by omega) (fun f5 hf5 => ?_)
                 show hm_Wp _ _ _ _ _ _ _
                 refine z_iinc gg191_177 rfl rfl ?_
                 refine q_goto gg191_180 (tg := 62) rfl ?_
                 exact ih (j + 1) (dx x) f5 _ _ _ rfl (by omega) (by omega) hd.1 hd.2 hf5 (mWf_pass hm.1 (by omega)) (by rw [mPass_2]; omega) (by rw [mPass_3]; omega) heq
                 done)
              | (have hf4 : aw f169 53 0 20000 (dMed (zup v 0 (dx x % 10)) (dx x)) := by
                   rw [hmd, if_neg (by omega), ← ev167]; exact h169
                 refine q_aload gg191_170 rfl ?_
                 refine q_getr gg191_171 rfl ?_
                 refine q_call1 gg191_174 tt162 rfl (Nat.le_of_ble_eq_true rfl) rfl (ls' := [some _, none]) rfl rfl ?_
                 refine r_passes rfl hf4 hm.1.1 (by omega) (fun f5 hf5 => ?_)
                 show hm_Wp _ _ _ _ _ _ _
                 refine z_iinc gg191_177 rfl rfl ?_
                 refine q_goto gg191_180 (tg := 62) rfl ?_
                 exact ih (j + 1) (dx x) f5 _ _ _ rfl (by omega) (by omega) hd.1 hd.2 hf5 (mWf_pass hm.1 (by omega)) (by rw [mPass_2]; omega) (by rw [mPass_3]; omega) heq
                 done)
            )
        )
  refine q_aload gg191_0 rfl ?_
  refine q_call1 gg191_1 tt151 rfl (Nat.le_of_ble_eq_true rfl) (hm_rv (by decide +kernel)) (ls' := [some _]) rfl rfl ?_
  refine q_aload gg151_0 rfl ?_
  refine q_getr gg151_1 rfl ?_
  refine z_const gg151_4 (v := 1) rfl ?_
  first | (refine z_alr gg151_5 (by first | rfl | assumption) (by assumption) (by omega) (by omega) (by omega) (by decide) (fun visHob_5 evisHob_5 lvisHob_5 uvisHob_5 => ?_); try dsimp only at evisHob_5) | (refine z_alx gg151_5 rfl (by assumption) (by omega) (by omega) (by first | omega | decide) (by decide) (fun visHob_5 evisHob_5 lvisHob_5 uvisHob_5 => ?_); try dsimp only at evisHob_5) | refine z_alq gg151_5 rfl (by omega) (by omega) (by decide) ?_
  refine z_ifle gg151_6 (tg := 13) rfl (by omega) (fun c1 => ?_) (fun c1 => ?_)
  · try (exfalso; omega)
    all_goals (
      refine z_const gg151_13 (v := 0) rfl ?_
      refine z_zretC gg151_14 (by omega) ?_
      refine z_ifne gg191_4 (tg := 10) rfl (by decide) (fun z => absurd z (by decide)) (fun _ => ?_)
      refine z_neg gg191_7 ?_
      refine q_iret gg191_9 ?_
      refine qv ?_ (kk _ FR.rf)
      unfold aDrawn
      rw [if_pos (by omega)]
    )
  · try (exfalso; omega)
    all_goals (
      refine z_const gg151_9 (v := 1) rfl ?_
      refine q_goto gg151_10 (tg := 14) rfl ?_
      refine z_zretC gg151_14 (by omega) ?_
      refine z_ifne gg191_4 (tg := 10) rfl (by decide) (fun _ => ?_) (fun z => absurd z (by decide))
      refine q_iload gg191_10 rfl ?_
      refine z_const gg191_11 (v := 0) rfl ?_
      refine z_const gg191_12 (v := 60) rfl ?_
      refine q_call3 gg191_14 tt124 rfl (Nat.le_of_ble_eq_true rfl) rfl (ls' := [some _, some _, some _]) rfl rfl ?_
      refine q_iload gg124_0 rfl ?_
      refine q_iload gg124_1 rfl ?_
      refine z_icmplt gg124_2 (tg := 14) rfl (by omega) (by omega) (fun c2 => ?_) (fun c2 => ?_)
      · try (exfalso; omega)
        all_goals (
          refine z_const gg124_14 (v := 0) rfl ?_
          refine z_zretC gg124_15 (by omega) ?_
          refine z_ifeq gg191_17 (tg := 39) rfl (by decide) (fun _ => ?_) (fun z => absurd z (by decide))
          refine z_neg gg191_39 ?_
          refine q_iret gg191_41 ?_
          refine qv ?_ (kk _ FR.rf)
          unfold aDrawn
          rw [if_neg (by omega), if_neg (by omega)]
        )
      · try (exfalso; omega)
        all_goals (
          refine q_iload gg124_5 rfl ?_
          refine q_iload gg124_6 rfl ?_
          refine z_icmpgt gg124_7 (tg := 14) rfl (by omega) (by omega) (fun c3 => ?_) (fun c3 => ?_)
          · try (exfalso; omega)
            all_goals (
              refine z_const gg124_14 (v := 0) rfl ?_
              refine z_zretC gg124_15 (by omega) ?_
              refine z_ifeq gg191_17 (tg := 39) rfl (by decide) (fun _ => ?_) (fun z => absurd z (by decide))
              refine z_neg gg191_39 ?_
              refine q_iret gg191_41 ?_
              refine qv ?_ (kk _ FR.rf)
              unfold aDrawn
              rw [if_neg (by omega), if_neg (by omega)]
            )
          · try (exfalso; omega)
            all_goals (
              refine z_const gg124_10 (v := 1) rfl ?_
              refine q_goto gg124_11 (tg := 15) rfl ?_
              refine z_zretC gg124_15 (by omega) ?_
              refine z_ifeq gg191_17 (tg := 39) rfl (by decide) (fun z => absurd z (by decide)) (fun _ => ?_)
              refine q_iload gg191_20 rfl ?_
              refine z_const gg191_21 (v := 1) rfl ?_
              refine z_const gg191_22 (v := 999999) rfl ?_
              refine q_call3 gg191_24 tt124 rfl (Nat.le_of_ble_eq_true rfl) rfl (ls' := [some _, some _, some _]) rfl rfl ?_
              refine q_iload gg124_0 rfl ?_
              refine q_iload gg124_1 rfl ?_
              refine z_icmplt gg124_2 (tg := 14) rfl (by omega) (by omega) (fun c4 => ?_) (fun c4 => ?_)
              · try (exfalso; omega)
                all_goals (
                  refine z_const gg124_14 (v := 0) rfl ?_
                  refine z_zretC gg124_15 (by omega) ?_
                  refine z_ifeq gg191_27 (tg := 39) rfl (by decide) (fun _ => ?_) (fun z => absurd z (by decide))
                  refine z_neg gg191_39 ?_
                  refine q_iret gg191_41 ?_
                  refine qv ?_ (kk _ FR.rf)
                  unfold aDrawn
                  rw [if_neg (by omega), if_neg (by omega)]
                )
              · try (exfalso; omega)
                all_goals (
                  refine q_iload gg124_5 rfl ?_
                  refine q_iload gg124_6 rfl ?_
                  refine z_icmpgt gg124_7 (tg := 14) rfl (by omega) (by omega) (fun c5 => ?_) (fun c5 => ?_)
                  · try (exfalso; omega)
                    all_goals (
                      refine z_const gg124_14 (v := 0) rfl ?_
                      refine z_zretC gg124_15 (by omega) ?_
                      refine z_ifeq gg191_27 (tg := 39) rfl (by decide) (fun _ => ?_) (fun z => absurd z (by decide))
                      refine z_neg gg191_39 ?_
                      refine q_iret gg191_41 ?_
                      refine qv ?_ (kk _ FR.rf)
                      unfold aDrawn
                      rw [if_neg (by omega), if_neg (by omega)]
                    )
                  · try (exfalso; omega)
                    all_goals (
                      refine z_const gg124_10 (v := 1) rfl ?_
                      refine q_goto gg124_11 (tg := 15) rfl ?_
                      refine z_zretC gg124_15 (by omega) ?_
                      refine z_ifeq gg191_27 (tg := 39) rfl (by decide) (fun z => absurd z (by decide)) (fun _ => ?_)
                      refine q_iload gg191_30 rfl ?_
                      refine z_const gg191_31 (v := 0) rfl ?_
                      refine z_const gg191_32 (v := 1) rfl ?_
                      refine q_call3 gg191_33 tt124 rfl (Nat.le_of_ble_eq_true rfl) rfl (ls' := [some _, some _, some _]) rfl rfl ?_
                      refine q_iload gg124_0 rfl ?_
                      refine q_iload gg124_1 rfl ?_
                      refine z_icmplt gg124_2 (tg := 14) rfl (by omega) (by omega) (fun c6 => ?_) (fun c6 => ?_)
                      · try (exfalso; omega)
                        all_goals (
                          refine z_const gg124_14 (v := 0) rfl ?_
                          refine z_zretC gg124_15 (by omega) ?_
                          refine z_ifne gg191_36 (tg := 42) rfl (by decide) (fun z => absurd z (by decide)) (fun _ => ?_)
                          refine z_neg gg191_39 ?_
                          refine q_iret gg191_41 ?_
                          refine qv ?_ (kk _ FR.rf)
                          unfold aDrawn
                          rw [if_neg (by omega), if_neg (by omega)]
                        )
                      · try (exfalso; omega)
                        all_goals (
                          refine q_iload gg124_5 rfl ?_
                          refine q_iload gg124_6 rfl ?_
                          refine z_icmpgt gg124_7 (tg := 14) rfl (by omega) (by omega) (fun c7 => ?_) (fun c7 => ?_)
                          · try (exfalso; omega)
                            all_goals (
                              refine z_const gg124_14 (v := 0) rfl ?_
                              refine z_zretC gg124_15 (by omega) ?_
                              refine z_ifne gg191_36 (tg := 42) rfl (by decide) (fun z => absurd z (by decide)) (fun _ => ?_)
                              refine z_neg gg191_39 ?_
                              refine q_iret gg191_41 ?_
                              refine qv ?_ (kk _ FR.rf)
                              unfold aDrawn
                              rw [if_neg (by omega), if_neg (by omega)]
                            )
                          · try (exfalso; omega)
                            all_goals (
                              refine z_const gg124_10 (v := 1) rfl ?_
                              refine q_goto gg124_11 (tg := 15) rfl ?_
                              refine z_zretC gg124_15 (by omega) ?_
                              refine z_ifne gg191_36 (tg := 42) rfl (by decide) (fun _ => ?_) (fun z => absurd z (by decide))
                              refine q_aload gg191_42 rfl ?_
                              refine q_getr gg191_43 rfl ?_
                              refine z_const gg191_46 (v := 0) rfl ?_
                              refine q_aload gg191_47 rfl ?_
                              refine q_getr gg191_48 rfl ?_
                              refine z_const gg191_51 (v := 0) rfl ?_
                              refine q_call4 gg191_52 tt130 rfl (Nat.le_of_ble_eq_true rfl) rfl (ls' := [some _, some _, some _, some _, none]) rfl rfl ?_
                              refine r_cpNT hf (fun f1 hf1 => ?_)
                              show hm_Wp _ _ _ _ _ _ _
                              refine q_iload gg191_55 rfl ?_
                              refine z_i2l gg191_56 (by omega) (by omega) ?_
                              refine q_lstore gg191_57 rfl ?_
                              refine z_const gg191_59 (v := 0) rfl ?_
                              refine q_istore gg191_60 rfl ?_
                              exact L (by omega) (by omega) (by omega) (by omega) (by omega) (by omega) (by omega) n.toNat 0 sd f1 w none none rfl (by decide) (by omega) (by omega) (by omega) hf1 hw rfl (by omega) rfl
                            )
                        )
                    )
                )
            )
        )
    )
end F13
