def FK (M M' : hm_M) : Prop := ∀ k : Nat, k ≠ 28 → k ≠ 29 → M' k = M k
def FKR (M M' : hm_M) : Prop := (∀ k : Nat, k ≠ 30 → k ≠ 42 → M' k = M k) ∧ ∀ j : Nat, j ≠ 21 → M' 30 j = M 30 j
theorem FK.rf {M : hm_M} : FK M M := fun _ _ _ => rfl
theorem FK.tr {M N P : hm_M} (h1 : FK M N) (h2 : FK N P) : FK M P := fun k a b => (h2 k a b).trans (h1 k a b)
theorem FKR.rf {M : hm_M} : FKR M M := ⟨fun _ _ _ => rfl, fun _ _ => rfl⟩
theorem FKR.tr {M N P : hm_M} (h1 : FKR M N) (h2 : FKR N P) : FKR M P := ⟨fun k a b => (h2.1 k a b).trans (h1.1 k a b), fun j hj => (h2.2 j hj).trans (h1.2 j hj)⟩
section K1
variable {d r mid pc nx k dd : Nat} {M N : hm_M} {w v w0 g tr : Int → Int} {b n e x a s y c q i p tn K : Int} {f F : Nat → Int32} {Q : Option hm_V → hm_M → Prop} {l : List (Int × Nat)} {ls : hm_L} {st : List hm_V}
def tcat (tr : Int → Int) (tn : Int) : List Int → (Int → Int)
  | [] => tr
  | x :: l => tcat (zup tr tn x) (tn + 1) l
theorem Hb.fk {M N : hm_M} (hb : Hb M 7 w) (h : FK M N) : Hb N 7 w := hb.fr (h 7 (by decide) (by decide)) (h 8 (by decide) (by decide)) (h 9 (by decide) (by decide)) (h 10 (by decide) (by decide)) (h 11 (by decide) (by decide))
theorem KC.eq (h : KC M tr x) (e : x = y) : KC M tr y := e ▸ h
theorem KR.eq (h : KR M tr x) (e : x = y) : KR M tr y := e ▸ h
theorem aw_app {m lo hi : Int} (h : aw f m lo hi w) (hm : 0 ≤ m) (hl : lo ≤ x) (hh : x ≤ hi) : aw (upd f m.toNat (zI x)) (m + 1) lo hi (zup w m x) := by
  intro i i0 i1
  simp only [upd, zup]
  by_cases hi : i = m
  · subst hi; simp; omega
  · rw [if_neg (by omega), if_neg hi]; exact h i i0 (by omega)
theorem c_leave (h : KC M tr tn) (h0 : 0 ≤ tn) (h1 : tn < 16) (hx0 : 0 ≤ x) (hx : x ≤ 100) (kk : ∀ M', KC M' (zup tr tn x) (tn + 1) → FK M M' → Q none M') : hm_Wp d 9 0 [some (.inr (.inr 28)), some (.inl (zI x))] [] M Q := by
  obtain ⟨e2, a9⟩ := h
  have ha := aw_app a9 h0 hx0 hx
  refine q_aload gg9_0 rfl ?_
  first | refine z_getf gg9_1 rfl (by assumption) ?_ | refine q_getf gg9_1 rfl ?_
  refine z_const gg9_4 (v := 16) rfl ?_
  refine z_icmpge gg9_6 (tg := 29) rfl (by omega) (by omega) (fun c1 => ?_) (fun c1 => ?_)
  · try (exfalso; omega)
    all_goals (
      exfalso
      omega
    )
  · try (exfalso; omega)
    all_goals (
      refine q_aload gg9_9 rfl ?_
      refine q_getr gg9_10 rfl ?_
      refine q_aload gg9_13 rfl ?_
      first | refine z_getf gg9_14 rfl (by assumption) ?_ | refine q_getf gg9_14 rfl ?_
      refine q_iload gg9_17 rfl ?_
      first | refine z_asr gg9_18 (by first | rfl | assumption) (by assumption) (by omega) (by omega) (by decide) (by omega) (by omega) (fun f18 h18 => ?_) | refine z_asx gg9_18 rfl (by omega) (by omega) (by decide) ?_ | refine z_asq gg9_18 rfl (by omega) (by omega) (by decide) ?_
      have e2' : hm_row M 29 (upd (M 29) tn.toNat (zI x)) 28 2 = zI tn := e2
      refine q_aload gg9_19 rfl ?_
      refine q_dup gg9_20 rfl ?_
      first | refine z_getf gg9_21 rfl (by assumption) ?_ | refine q_getf gg9_21 rfl ?_
      refine z_const gg9_24 (v := 1) rfl ?_
      first | refine z_iadd gg9_25 ?_ | refine q_iadd gg9_25 ?_
      refine q_putf gg9_26 rfl ?_
      refine q_ret gg9_29 ?_
      exact kk _ ⟨up_at, ha⟩ (fun k h0 h1 => by unfold hm_up; rw [hm_row_ne _ _ h0, hm_row_ne _ _ h1])
    )
theorem r_begins (h : KR M tr tn) (h0 : 0 ≤ tn) (h1 : tn < 16) (hx0 : 0 ≤ x) (hx : x ≤ 100) (kk : ∀ M', KR M' (zup tr tn x) (tn + 1) → FKR M M' → Q none M') : hm_Wp d 197 0 [some (.inr (.inr 30)), some (.inl (zI x))] [] M Q := by
  obtain ⟨e2, a9⟩ := h
  have ha := aw_app a9 h0 hx0 hx
  refine q_aload gg197_0 rfl ?_
  first | refine z_getf gg197_1 rfl (by assumption) ?_ | refine q_getf gg197_1 rfl ?_
  refine z_const gg197_4 (v := 16) rfl ?_
  refine z_icmpge gg197_6 (tg := 29) rfl (by omega) (by omega) (fun c1 => ?_) (fun c1 => ?_)
  · try (exfalso; omega)
    all_goals (
      exfalso
      omega
    )
  · try (exfalso; omega)
    all_goals (
      refine q_aload gg197_9 rfl ?_
      refine q_getr gg197_10 rfl ?_
      refine q_aload gg197_13 rfl ?_
      first | refine z_getf gg197_14 rfl (by assumption) ?_ | refine q_getf gg197_14 rfl ?_
      refine q_iload gg197_17 rfl ?_
      first | refine z_asr gg197_18 (by first | rfl | assumption) (by assumption) (by omega) (by omega) (by decide) (by omega) (by omega) (fun f18 h18 => ?_) | refine z_asx gg197_18 rfl (by omega) (by omega) (by decide) ?_ | refine z_asq gg197_18 rfl (by omega) (by omega) (by decide) ?_
      have e2' : hm_row M 42 (upd (M 42) tn.toNat (zI x)) 30 21 = zI tn := e2
      refine q_aload gg197_19 rfl ?_
      refine q_dup gg197_20 rfl ?_
      first | refine z_getf gg197_21 rfl (by assumption) ?_ | refine q_getf gg197_21 rfl ?_
      refine z_const gg197_24 (v := 1) rfl ?_
      first | refine z_iadd gg197_25 ?_ | refine q_iadd gg197_25 ?_
      refine q_putf gg197_26 rfl ?_
      refine q_ret gg197_29 ?_
      exact kk _ ⟨up_at, ha⟩ ⟨fun k h0 h1 => by unfold hm_up; rw [hm_row_ne _ _ h0, hm_row_ne _ _ h1], fun j hj => by unfold hm_up; rw [hm_row_same]; simp only [upd]; rw [if_neg hj]; rfl⟩
    )
/-! bodies -/
def sBody (k : Int) : Int := if k = 0 then 10 else if k = 1 then 11 else if k = 2 then 12 else if k = 3 then 11 else if k = 4 then 13 else 14
def kBody (k : Int) : Int := if k = 0 then 20 else if k = 1 then 21 else if k = 2 then 24 else if k = 3 then 22 else 23
theorem sB_aw : aw (fun j => ([10, 11, 12, 11, 13, 14] : List Int32).getD j 0) 6 0 100 sBody := by
  intro i i0 i1
  have h : i = 0 ∨ i = 1 ∨ i = 2 ∨ i = 3 ∨ i = 4 ∨ i = 5 := by omega
  rcases h with rfl | rfl | rfl | rfl | rfl | rfl <;> decide
theorem kB_aw : aw (fun j => ([20, 21, 24, 22, 23, 23] : List Int32).getD j 0) 6 0 100 kBody := by
  intro i i0 i1
  have h : i = 0 ∨ i = 1 ∨ i = 2 ∨ i = 3 ∨ i = 4 ∨ i = 5 := by omega
  rcases h with rfl | rfl | rfl | rfl | rfl | rfl <;> decide
theorem c_bodyOf (hb0 : 0 ≤ b) (hb : b < w 2) (h : Hb M 7 w) (hw : mWf w) (hy0 : 0 ≤ y) (hy : y ≤ 1) (kk : Q (some (.inl (zI (if y = 0 then sBody (w (4 + 7 * b)) else kBody (w (4 + 7 * b)))))) M) : hm_Wp d 7 0 [some (.inr (.inr 28)), some (.inl (zI y)), some (.inl (zI b)), none] [] M Q := by
  have hn := hw.1.1
  have a1 := h.1.2.2.2.2.2.2.1
  have hk := hw.2.2.1 b hb0 hb
  have t1 := sB_aw
  have t2 := kB_aw
  refine q_aload gg7_0 rfl ?_
  refine q_getr gg7_1 rfl ?_
  refine q_getr gg7_4 rfl ?_
  refine q_iload gg7_7 rfl ?_
  first | (refine z_alr gg7_8 (by first | rfl | assumption) (by assumption) (by omega) (by omega) (by omega) (by decide) (fun v8 ev8 lv8 uv8 => ?_); try dsimp only at ev8) | (refine z_alx gg7_8 rfl (by assumption) (by omega) (by omega) (by first | omega | decide) (by decide) (fun v8 ev8 lv8 uv8 => ?_); try dsimp only at ev8) | refine z_alq gg7_8 rfl (by omega) (by omega) (by decide) ?_
  subst ev8
  refine q_istore gg7_9 rfl ?_
  refine q_iload gg7_10 rfl ?_
  refine z_ifne gg7_11 (tg := 22) rfl (by omega) (fun c1 => ?_) (fun c1 => ?_)
  · try (exfalso; omega)
    all_goals (
      refine q_gets gg7_22 (by decide) ?_
      refine q_iload gg7_25 rfl ?_
      first | (refine z_alr gg7_26 (by first | rfl | assumption) (by assumption) (by omega) (by omega) (by omega) (by decide) (fun v26 ev26 lv26 uv26 => ?_); try dsimp only at ev26) | (refine z_alx gg7_26 rfl (by assumption) (by omega) (by omega) (by first | omega | decide) (by decide) (fun v26 ev26 lv26 uv26 => ?_); try dsimp only at ev26) | refine z_alq gg7_26 rfl (by omega) (by omega) (by decide) ?_
      refine q_iret gg7_27 ?_
      first | (rw [if_pos (by omega)] at kk; exact qv ev18 kk) | (rw [if_neg (by omega)] at kk; exact qv ev26 kk)
    )
  · try (exfalso; omega)
    all_goals (
      refine q_gets gg7_14 (by decide) ?_
      refine q_iload gg7_17 rfl ?_
      first | (refine z_alr gg7_18 (by first | rfl | assumption) (by assumption) (by omega) (by omega) (by omega) (by decide) (fun v18 ev18 lv18 uv18 => ?_); try dsimp only at ev18) | (refine z_alx gg7_18 rfl (by assumption) (by omega) (by omega) (by first | omega | decide) (by decide) (fun v18 ev18 lv18 uv18 => ?_); try dsimp only at ev18) | refine z_alq gg7_18 rfl (by omega) (by omega) (by decide) ?_
      refine q_goto gg7_19 (tg := 27) rfl ?_
      refine q_iret gg7_27 ?_
      first | (rw [if_pos (by omega)] at kk; exact qv ev18 kk) | (rw [if_neg (by omega)] at kk; exact qv ev26 kk)
    )
/-- a body, told: its answer, what it leaves -/
def BG (w : Int → Int) (b : Int) (dd : Nat) (B V : Int) (L : List Int) (n : Int) : Prop := ∀ (M : hm_M) (tr : Int → Int) (tn j : Int) (Q : Option hm_V → hm_M → Prop), Hb M 7 w → KC M tr tn → 0 ≤ tn → tn + n ≤ 16 → 0 ≤ j → j + n ≤ 14 → (∀ M', KC M' (tcat tr tn L) (tn + n) → FK M M' → Q (some (.inl (zI V))) M') → hm_Wp dd 8 0 [some (.inr (.inr 28)), some (.inl (zI B)), some (.inl (zI b)), some (.inl (zI j)), none] [] M Q
theorem bg10 (hb0 : 0 ≤ b) (hb : b < w 2) (hw : mWf w) : BG w b (d + 1) 10 (w (4 + 7 * b + 1)) [10] 1 := by
  intro M tr tn j Q h hK t0 t1 j0 j1 kk
  have hn := hw.1.1
  refine q_iload gg8_0 rfl ?_
  refine z_const gg8_1 (v := 16) rfl ?_
  refine z_icmple gg8_3 (tg := 8) rfl (by omega) (by omega) (fun c1 => ?_) (fun z => absurd z (by omega))
  refine q_aload gg8_8 rfl ?_
  refine q_iload gg8_9 rfl ?_
  refine q_call2 gg8_10 tt9 rfl (Nat.le_of_ble_eq_true rfl) (hm_rv (by decide +kernel)) (ls' := [some _, some _]) rfl rfl ?_
  refine c_leave hK t0 (by omega) (by decide) (by decide) (fun M1 hK1 hF1 => ?_)
  have h1 := h.fk hF1
  have a2 := h1.1.2.2.2.2.2.2.2.1
  show hm_Wp _ _ _ _ _ _ _
  refine q_iload gg8_13 rfl ?_
  refine z_const gg8_14 (v := 1) rfl ?_
  first | refine z_iadd gg8_15 ?_ | refine q_iadd gg8_15 ?_
  refine q_istore gg8_16 rfl ?_
  refine q_iload gg8_18 rfl ?_
  refine z_sw gg8_19 (by omega) ?_
  show hm_Wp _ _ 92 _ _ _ _
  refine q_aload gg8_92 rfl ?_
  refine q_getr gg8_93 rfl ?_
  refine q_getr gg8_96 rfl ?_
  refine q_iload gg8_99 rfl ?_
  first | (refine z_alr gg8_100 (by first | rfl | assumption) (by assumption) (by omega) (by omega) (by omega) (by decide) (fun v100 ev100 lv100 uv100 => ?_); try dsimp only at ev100) | (refine z_alx gg8_100 rfl (by assumption) (by omega) (by omega) (by first | omega | decide) (by decide) (fun v100 ev100 lv100 uv100 => ?_); try dsimp only at ev100) | refine z_alq gg8_100 rfl (by omega) (by omega) (by decide) ?_
  refine q_iret gg8_101 ?_
  exact qv ev100 (kk _ hK1 hF1)
theorem bg20 (hb0 : 0 ≤ b) (hb : b < w 2) (hw : mWf w) : BG w b (d + 1) 20 b [20] 1 := by
  intro M tr tn j Q h hK t0 t1 j0 j1 kk
  refine q_iload gg8_0 rfl ?_
  refine z_const gg8_1 (v := 16) rfl ?_
  refine z_icmple gg8_3 (tg := 8) rfl (by omega) (by omega) (fun c1 => ?_) (fun z => absurd z (by omega))
  refine q_aload gg8_8 rfl ?_
  refine q_iload gg8_9 rfl ?_
  refine q_call2 gg8_10 tt9 rfl (Nat.le_of_ble_eq_true rfl) (hm_rv (by decide +kernel)) (ls' := [some _, some _]) rfl rfl ?_
  refine c_leave hK t0 (by omega) (by decide) (by decide) (fun M1 hK1 hF1 => ?_)
  show hm_Wp _ _ _ _ _ _ _
  refine q_iload gg8_13 rfl ?_
  refine z_const gg8_14 (v := 1) rfl ?_
  first | refine z_iadd gg8_15 ?_ | refine q_iadd gg8_15 ?_
  refine q_istore gg8_16 rfl ?_
  refine q_iload gg8_18 rfl ?_
  refine z_sw gg8_19 (by omega) ?_
  show hm_Wp _ _ 162 _ _ _ _
  refine q_iload gg8_162 rfl ?_
  refine q_iret gg8_163 ?_
  exact kk _ hK1 hF1
theorem bg13 (hb0 : 0 ≤ b) (hb : b < w 2) (hw : mWf w) : BG w b (d + 2) 13 (w (4 + 7 * b + 1) - 100) [13, 10] 2 := by
  intro M tr tn j Q h hK t0 t1 j0 j1 kk
  refine q_iload gg8_0 rfl ?_
  refine z_const gg8_1 (v := 16) rfl ?_
  refine z_icmple gg8_3 (tg := 8) rfl (by omega) (by omega) (fun c1 => ?_) (fun z => absurd z (by omega))
  refine q_aload gg8_8 rfl ?_
  refine q_iload gg8_9 rfl ?_
  refine q_call2 gg8_10 tt9 rfl (Nat.le_of_ble_eq_true rfl) (hm_rv (by decide +kernel)) (ls' := [some _, some _]) rfl rfl ?_
  refine c_leave hK t0 (by omega) (by decide) (by decide) (fun M1 hK1 hF1 => ?_)
  show hm_Wp _ _ _ _ _ _ _
  refine q_iload gg8_13 rfl ?_
  refine z_const gg8_14 (v := 1) rfl ?_
  first | refine z_iadd gg8_15 ?_ | refine q_iadd gg8_15 ?_
  refine q_istore gg8_16 rfl ?_
  refine q_iload gg8_18 rfl ?_
  refine z_sw gg8_19 (by omega) ?_
  show hm_Wp _ _ 137 _ _ _ _
  refine q_aload gg8_137 rfl ?_
  refine z_const gg8_138 (v := 10) rfl ?_
  refine q_iload gg8_140 rfl ?_
  refine q_iload gg8_141 rfl ?_
  refine q_call4 gg8_143 tt8 rfl (Nat.le_of_ble_eq_true rfl) (hm_rv (by decide +kernel)) (ls' := [some _, some _, some _, some _, none]) rfl rfl ?_
  refine bg10 hb0 hb hw M1 _ _ _ _ (h.fk hF1) hK1 (by omega) (by omega) (by omega) (by omega) (fun M2 hK2 hF2 => ?_)
  show hm_Wp _ _ _ _ (_ :: _) _ _
  refine z_const gg8_146 (v := 100) rfl ?_
  first | refine z_isub gg8_148 ?_ | refine q_isub gg8_148 ?_
  refine q_iret gg8_149 ?_
  exact kk _ (hK2.eq (by omega)) (hF1.tr hF2)
theorem bg14 (hb0 : 0 ≤ b) (hb : b < w 2) (hw : mWf w) : BG w b (d + 3) 14 (2 * (w (4 + 7 * b + 1) - 100)) [14, 13, 10] 3 := by
  intro M tr tn j Q h hK t0 t1 j0 j1 kk
  have hn := hw.1.1
  refine q_iload gg8_0 rfl ?_
  refine z_const gg8_1 (v := 16) rfl ?_
  refine z_icmple gg8_3 (tg := 8) rfl (by omega) (by omega) (fun c1 => ?_) (fun z => absurd z (by omega))
  refine q_aload gg8_8 rfl ?_
  refine q_iload gg8_9 rfl ?_
  refine q_call2 gg8_10 tt9 rfl (Nat.le_of_ble_eq_true rfl) (hm_rv (by decide +kernel)) (ls' := [some _, some _]) rfl rfl ?_
  refine c_leave hK t0 (by omega) (by decide) (by decide) (fun M1 hK1 hF1 => ?_)
  show hm_Wp _ _ _ _ _ _ _
  refine q_iload gg8_13 rfl ?_
  refine z_const gg8_14 (v := 1) rfl ?_
  first | refine z_iadd gg8_15 ?_ | refine q_iadd gg8_15 ?_
  refine q_istore gg8_16 rfl ?_
  refine q_iload gg8_18 rfl ?_
  refine z_sw gg8_19 (by omega) ?_
  show hm_Wp _ _ 150 _ _ _ _
  refine z_const gg8_150 (v := 2) rfl ?_
  refine q_aload gg8_151 rfl ?_
  refine z_const gg8_152 (v := 13) rfl ?_
  refine q_iload gg8_154 rfl ?_
  refine q_iload gg8_155 rfl ?_
  refine q_call4 gg8_157 tt8 rfl (Nat.le_of_ble_eq_true rfl) (hm_rv (by decide +kernel)) (ls' := [some _, some _, some _, some _, none]) rfl rfl ?_
  refine bg13 hb0 hb hw M1 _ _ _ _ (h.fk hF1) hK1 (by omega) (by omega) (by omega) (by omega) (fun M2 hK2 hF2 => ?_)
  show hm_Wp _ _ _ _ (_ :: _) _ _
  first | refine z_imul gg8_160 ?_ | refine q_imul gg8_160 ?_
  refine q_iret gg8_161 ?_
  exact kk _ (hK2.eq (by omega)) (hF1.tr hF2)
theorem bg21 (hb0 : 0 ≤ b) (hb : b < w 2) (hw : mWf w) : BG w b (d + 2) 21 (b + w (4 + 7 * b + 2)) [21, 20] 2 := by
  intro M tr tn j Q h hK t0 t1 j0 j1 kk
  have hn := hw.1.1
  refine q_iload gg8_0 rfl ?_
  refine z_const gg8_1 (v := 16) rfl ?_
  refine z_icmple gg8_3 (tg := 8) rfl (by omega) (by omega) (fun c1 => ?_) (fun z => absurd z (by omega))
  refine q_aload gg8_8 rfl ?_
  refine q_iload gg8_9 rfl ?_
  refine q_call2 gg8_10 tt9 rfl (Nat.le_of_ble_eq_true rfl) (hm_rv (by decide +kernel)) (ls' := [some _, some _]) rfl rfl ?_
  refine c_leave hK t0 (by omega) (by decide) (by decide) (fun M1 hK1 hF1 => ?_)
  show hm_Wp _ _ _ _ _ _ _
  refine q_iload gg8_13 rfl ?_
  refine z_const gg8_14 (v := 1) rfl ?_
  first | refine z_iadd gg8_15 ?_ | refine q_iadd gg8_15 ?_
  refine q_istore gg8_16 rfl ?_
  refine q_iload gg8_18 rfl ?_
  refine z_sw gg8_19 (by omega) ?_
  show hm_Wp _ _ 164 _ _ _ _
  refine q_aload gg8_164 rfl ?_
  refine z_const gg8_165 (v := 20) rfl ?_
  refine q_iload gg8_167 rfl ?_
  refine q_iload gg8_168 rfl ?_
  refine q_call4 gg8_170 tt8 rfl (Nat.le_of_ble_eq_true rfl) (hm_rv (by decide +kernel)) (ls' := [some _, some _, some _, some _, none]) rfl rfl ?_
  refine bg20 hb0 hb hw M1 _ _ _ _ (h.fk hF1) hK1 (by omega) (by omega) (by omega) (by omega) (fun M2 hK2 hF2 => ?_)
  have h2 := h.fk (hF1.tr hF2)
  have a3 := h2.2.2
  show hm_Wp _ _ _ _ (_ :: _) _ _
  refine q_aload gg8_173 rfl ?_
  refine q_getr gg8_174 rfl ?_
  refine q_getr gg8_177 rfl ?_
  refine q_iload gg8_180 rfl ?_
  first | (refine z_alr gg8_181 (by first | rfl | assumption) (by assumption) (by omega) (by omega) (by omega) (by decide) (fun v181 ev181 lv181 uv181 => ?_); try dsimp only at ev181) | (refine z_alx gg8_181 rfl (by assumption) (by omega) (by omega) (by first | omega | decide) (by decide) (fun v181 ev181 lv181 uv181 => ?_); try dsimp only at ev181) | refine z_alq gg8_181 rfl (by omega) (by omega) (by decide) ?_
  first | refine z_iadd gg8_182 ?_ | refine q_iadd gg8_182 ?_
  refine q_iret gg8_183 ?_
  rw [ev181]
  exact kk _ (hK2.eq (by omega)) (hF1.tr hF2)
theorem bg22 (hb0 : 0 ≤ b) (hb : b < w 2) (hw : mWf w) : BG w b (d + 3) 22 (b + w (4 + 7 * b + 2) - 1000) [22, 21, 20] 3 := by
  intro M tr tn j Q h hK t0 t1 j0 j1 kk
  have hn := hw.1.1
  refine q_iload gg8_0 rfl ?_
  refine z_const gg8_1 (v := 16) rfl ?_
  refine z_icmple gg8_3 (tg := 8) rfl (by omega) (by omega) (fun c1 => ?_) (fun z => absurd z (by omega))
  refine q_aload gg8_8 rfl ?_
  refine q_iload gg8_9 rfl ?_
  refine q_call2 gg8_10 tt9 rfl (Nat.le_of_ble_eq_true rfl) (hm_rv (by decide +kernel)) (ls' := [some _, some _]) rfl rfl ?_
  refine c_leave hK t0 (by omega) (by decide) (by decide) (fun M1 hK1 hF1 => ?_)
  show hm_Wp _ _ _ _ _ _ _
  refine q_iload gg8_13 rfl ?_
  refine z_const gg8_14 (v := 1) rfl ?_
  first | refine z_iadd gg8_15 ?_ | refine q_iadd gg8_15 ?_
  refine q_istore gg8_16 rfl ?_
  refine q_iload gg8_18 rfl ?_
  refine z_sw gg8_19 (by omega) ?_
  show hm_Wp _ _ 184 _ _ _ _
  refine q_aload gg8_184 rfl ?_
  refine z_const gg8_185 (v := 21) rfl ?_
  refine q_iload gg8_187 rfl ?_
  refine q_iload gg8_188 rfl ?_
  refine q_call4 gg8_190 tt8 rfl (Nat.le_of_ble_eq_true rfl) (hm_rv (by decide +kernel)) (ls' := [some _, some _, some _, some _, none]) rfl rfl ?_
  refine bg21 hb0 hb hw M1 _ _ _ _ (h.fk hF1) hK1 (by omega) (by omega) (by omega) (by omega) (fun M2 hK2 hF2 => ?_)
  show hm_Wp _ _ _ _ (_ :: _) _ _
  refine z_const gg8_193 (v := 1000) rfl ?_
  first | refine z_isub gg8_196 ?_ | refine q_isub gg8_196 ?_
  refine q_iret gg8_197 ?_
  exact kk _ (hK2.eq (by omega)) (hF1.tr hF2)
theorem bg24 (hb0 : 0 ≤ b) (hb : b < w 2) (hw : mWf w) : BG w b (d + 3) 24 (2 * (b + w (4 + 7 * b + 2))) [24, 21, 20] 3 := by
  intro M tr tn j Q h hK t0 t1 j0 j1 kk
  have hn := hw.1.1
  refine q_iload gg8_0 rfl ?_
  refine z_const gg8_1 (v := 16) rfl ?_
  refine z_icmple gg8_3 (tg := 8) rfl (by omega) (by omega) (fun c1 => ?_) (fun z => absurd z (by omega))
  refine q_aload gg8_8 rfl ?_
  refine q_iload gg8_9 rfl ?_
  refine q_call2 gg8_10 tt9 rfl (Nat.le_of_ble_eq_true rfl) (hm_rv (by decide +kernel)) (ls' := [some _, some _]) rfl rfl ?_
  refine c_leave hK t0 (by omega) (by decide) (by decide) (fun M1 hK1 hF1 => ?_)
  show hm_Wp _ _ _ _ _ _ _
  refine q_iload gg8_13 rfl ?_
  refine z_const gg8_14 (v := 1) rfl ?_
  first | refine z_iadd gg8_15 ?_ | refine q_iadd gg8_15 ?_
  refine q_istore gg8_16 rfl ?_
  refine q_iload gg8_18 rfl ?_
  refine z_sw gg8_19 (by omega) ?_
  show hm_Wp _ _ 222 _ _ _ _
  refine z_const gg8_222 (v := 2) rfl ?_
  refine q_aload gg8_223 rfl ?_
  refine z_const gg8_224 (v := 21) rfl ?_
  refine q_iload gg8_226 rfl ?_
  refine q_iload gg8_227 rfl ?_
  refine q_call4 gg8_229 tt8 rfl (Nat.le_of_ble_eq_true rfl) (hm_rv (by decide +kernel)) (ls' := [some _, some _, some _, some _, none]) rfl rfl ?_
  refine bg21 hb0 hb hw M1 _ _ _ _ (h.fk hF1) hK1 (by omega) (by omega) (by omega) (by omega) (fun M2 hK2 hF2 => ?_)
  show hm_Wp _ _ _ _ (_ :: _) _ _
  first | refine z_imul gg8_232 ?_ | refine q_imul gg8_232 ?_
  refine q_iret gg8_233 ?_
  exact kk _ (hK2.eq (by omega)) (hF1.tr hF2)
theorem bg11_1 (hb0 : 0 ≤ b) (hb : b < w 2) (hw : mWf w) (hk : w (4 + 7 * b) = 1) : BG w b (d + 4) 11 (w (4 + 7 * b + 1) + (b + w (4 + 7 * b + 2))) [11, 10, 21, 20] 4 := by
  intro M tr tn j Q h hK t0 t1 j0 j1 kk
  have hn := hw.1.1
  refine q_iload gg8_0 rfl ?_
  refine z_const gg8_1 (v := 16) rfl ?_
  refine z_icmple gg8_3 (tg := 8) rfl (by omega) (by omega) (fun c1 => ?_) (fun z => absurd z (by omega))
  refine q_aload gg8_8 rfl ?_
  refine q_iload gg8_9 rfl ?_
  refine q_call2 gg8_10 tt9 rfl (Nat.le_of_ble_eq_true rfl) (hm_rv (by decide +kernel)) (ls' := [some _, some _]) rfl rfl ?_
  refine c_leave hK t0 (by omega) (by decide) (by decide) (fun M1 hK1 hF1 => ?_)
  show hm_Wp _ _ _ _ _ _ _
  refine q_iload gg8_13 rfl ?_
  refine z_const gg8_14 (v := 1) rfl ?_
  first | refine z_iadd gg8_15 ?_ | refine q_iadd gg8_15 ?_
  refine q_istore gg8_16 rfl ?_
  refine q_iload gg8_18 rfl ?_
  refine z_sw gg8_19 (by omega) ?_
  show hm_Wp _ _ 102 _ _ _ _
  refine q_aload gg8_102 rfl ?_
  refine z_const gg8_103 (v := 10) rfl ?_
  refine q_iload gg8_105 rfl ?_
  refine q_iload gg8_106 rfl ?_
  refine q_call4 gg8_108 tt8 rfl (Nat.le_of_ble_eq_true rfl) (hm_rv (by decide +kernel)) (ls' := [some _, some _, some _, some _, none]) rfl rfl ?_
  refine bg10 hb0 hb hw M1 _ _ _ _ (h.fk hF1) hK1 (by omega) (by omega) (by omega) (by omega) (fun M2 hK2 hF2 => ?_)
  have h2 := h.fk (hF1.tr hF2)
  show hm_Wp _ _ _ _ (_ :: _) _ _
  refine q_aload gg8_111 rfl ?_
  refine q_aload gg8_112 rfl ?_
  refine z_const gg8_113 (v := 1) rfl ?_
  refine q_iload gg8_114 rfl ?_
  refine q_call3 gg8_115 tt7 rfl (Nat.le_of_ble_eq_true rfl) (hm_rv (by decide +kernel)) (ls' := [some _, some _, some _, none]) rfl rfl ?_
  refine c_bodyOf hb0 hb h2 hw (by decide) (by decide) ?_
  rw [hk]
  show hm_Wp _ _ _ _ (_ :: _) _ _
  refine q_iload gg8_118 rfl ?_
  refine q_iload gg8_119 rfl ?_
  refine q_call4 gg8_121 tt8 rfl (Nat.le_of_ble_eq_true rfl) (hm_rv (by decide +kernel)) (ls' := [some _, some _, some _, some _, none]) rfl rfl ?_
  refine bg21 hb0 hb hw M2 _ _ _ _ h2 hK2 (by omega) (by omega) (by omega) (by omega) (fun M3 hK3 hF3 => ?_)
  show hm_Wp _ _ _ _ (_ :: _) _ _
  first | refine z_iadd gg8_124 ?_ | refine q_iadd gg8_124 ?_
  refine q_iret gg8_125 ?_
  exact kk _ (hK3.eq (by omega)) ((hF1.tr hF2).tr hF3)
theorem bg11_2 (hb0 : 0 ≤ b) (hb : b < w 2) (hw : mWf w) (hk : w (4 + 7 * b) = 2) : BG w b (d + 4) 11 (w (4 + 7 * b + 1) + (2 * (b + w (4 + 7 * b + 2)))) [11, 10, 24, 21, 20] 5 := by
  intro M tr tn j Q h hK t0 t1 j0 j1 kk
  have hn := hw.1.1
  refine q_iload gg8_0 rfl ?_
  refine z_const gg8_1 (v := 16) rfl ?_
  refine z_icmple gg8_3 (tg := 8) rfl (by omega) (by omega) (fun c1 => ?_) (fun z => absurd z (by omega))
  refine q_aload gg8_8 rfl ?_
  refine q_iload gg8_9 rfl ?_
  refine q_call2 gg8_10 tt9 rfl (Nat.le_of_ble_eq_true rfl) (hm_rv (by decide +kernel)) (ls' := [some _, some _]) rfl rfl ?_
  refine c_leave hK t0 (by omega) (by decide) (by decide) (fun M1 hK1 hF1 => ?_)
  show hm_Wp _ _ _ _ _ _ _
  refine q_iload gg8_13 rfl ?_
  refine z_const gg8_14 (v := 1) rfl ?_
  first | refine z_iadd gg8_15 ?_ | refine q_iadd gg8_15 ?_
  refine q_istore gg8_16 rfl ?_
  refine q_iload gg8_18 rfl ?_
  refine z_sw gg8_19 (by omega) ?_
  show hm_Wp _ _ 102 _ _ _ _
  refine q_aload gg8_102 rfl ?_
  refine z_const gg8_103 (v := 10) rfl ?_
  refine q_iload gg8_105 rfl ?_
  refine q_iload gg8_106 rfl ?_
  refine q_call4 gg8_108 tt8 rfl (Nat.le_of_ble_eq_true rfl) (hm_rv (by decide +kernel)) (ls' := [some _, some _, some _, some _, none]) rfl rfl ?_
  refine bg10 hb0 hb hw M1 _ _ _ _ (h.fk hF1) hK1 (by omega) (by omega) (by omega) (by omega) (fun M2 hK2 hF2 => ?_)
  have h2 := h.fk (hF1.tr hF2)
  show hm_Wp _ _ _ _ (_ :: _) _ _
  refine q_aload gg8_111 rfl ?_
  refine q_aload gg8_112 rfl ?_
  refine z_const gg8_113 (v := 1) rfl ?_
  refine q_iload gg8_114 rfl ?_
  refine q_call3 gg8_115 tt7 rfl (Nat.le_of_ble_eq_true rfl) (hm_rv (by decide +kernel)) (ls' := [some _, some _, some _, none]) rfl rfl ?_
  refine c_bodyOf hb0 hb h2 hw (by decide) (by decide) ?_
  rw [hk]
  show hm_Wp _ _ _ _ (_ :: _) _ _
  refine q_iload gg8_118 rfl ?_
  refine q_iload gg8_119 rfl ?_
  refine q_call4 gg8_121 tt8 rfl (Nat.le_of_ble_eq_true rfl) (hm_rv (by decide +kernel)) (ls' := [some _, some _, some _, some _, none]) rfl rfl ?_
  refine bg24 hb0 hb hw M2 _ _ _ _ h2 hK2 (by omega) (by omega) (by omega) (by omega) (fun M3 hK3 hF3 => ?_)
  show hm_Wp _ _ _ _ (_ :: _) _ _
  first | refine z_iadd gg8_124 ?_ | refine q_iadd gg8_124 ?_
  refine q_iret gg8_125 ?_
  exact kk _ (hK3.eq (by omega)) ((hF1.tr hF2).tr hF3)
theorem bg11_3 (hb0 : 0 ≤ b) (hb : b < w 2) (hw : mWf w) (hk : w (4 + 7 * b) = 3) : BG w b (d + 4) 11 (w (4 + 7 * b + 1) + (b + w (4 + 7 * b + 2) - 1000)) [11, 10, 22, 21, 20] 5 := by
  intro M tr tn j Q h hK t0 t1 j0 j1 kk
  have hn := hw.1.1
  refine q_iload gg8_0 rfl ?_
  refine z_const gg8_1 (v := 16) rfl ?_
  refine z_icmple gg8_3 (tg := 8) rfl (by omega) (by omega) (fun c1 => ?_) (fun z => absurd z (by omega))
  refine q_aload gg8_8 rfl ?_
  refine q_iload gg8_9 rfl ?_
  refine q_call2 gg8_10 tt9 rfl (Nat.le_of_ble_eq_true rfl) (hm_rv (by decide +kernel)) (ls' := [some _, some _]) rfl rfl ?_
  refine c_leave hK t0 (by omega) (by decide) (by decide) (fun M1 hK1 hF1 => ?_)
  show hm_Wp _ _ _ _ _ _ _
  refine q_iload gg8_13 rfl ?_
  refine z_const gg8_14 (v := 1) rfl ?_
  first | refine z_iadd gg8_15 ?_ | refine q_iadd gg8_15 ?_
  refine q_istore gg8_16 rfl ?_
  refine q_iload gg8_18 rfl ?_
  refine z_sw gg8_19 (by omega) ?_
  show hm_Wp _ _ 102 _ _ _ _
  refine q_aload gg8_102 rfl ?_
  refine z_const gg8_103 (v := 10) rfl ?_
  refine q_iload gg8_105 rfl ?_
  refine q_iload gg8_106 rfl ?_
  refine q_call4 gg8_108 tt8 rfl (Nat.le_of_ble_eq_true rfl) (hm_rv (by decide +kernel)) (ls' := [some _, some _, some _, some _, none]) rfl rfl ?_
  refine bg10 hb0 hb hw M1 _ _ _ _ (h.fk hF1) hK1 (by omega) (by omega) (by omega) (by omega) (fun M2 hK2 hF2 => ?_)
  have h2 := h.fk (hF1.tr hF2)
  show hm_Wp _ _ _ _ (_ :: _) _ _
  refine q_aload gg8_111 rfl ?_
  refine q_aload gg8_112 rfl ?_
  refine z_const gg8_113 (v := 1) rfl ?_
  refine q_iload gg8_114 rfl ?_
  refine q_call3 gg8_115 tt7 rfl (Nat.le_of_ble_eq_true rfl) (hm_rv (by decide +kernel)) (ls' := [some _, some _, some _, none]) rfl rfl ?_
  refine c_bodyOf hb0 hb h2 hw (by decide) (by decide) ?_
  rw [hk]
  show hm_Wp _ _ _ _ (_ :: _) _ _
  refine q_iload gg8_118 rfl ?_
  refine q_iload gg8_119 rfl ?_
  refine q_call4 gg8_121 tt8 rfl (Nat.le_of_ble_eq_true rfl) (hm_rv (by decide +kernel)) (ls' := [some _, some _, some _, some _, none]) rfl rfl ?_
  refine bg22 hb0 hb hw M2 _ _ _ _ h2 hK2 (by omega) (by omega) (by omega) (by omega) (fun M3 hK3 hF3 => ?_)
  show hm_Wp _ _ _ _ (_ :: _) _ _
  first | refine z_iadd gg8_124 ?_ | refine q_iadd gg8_124 ?_
  refine q_iret gg8_125 ?_
  exact kk _ (hK3.eq (by omega)) ((hF1.tr hF2).tr hF3)
theorem bg23_4 (hb0 : 0 ≤ b) (hb : b < w 2) (hw : mWf w) (hk : w (4 + 7 * b) = 4) : BG w b (d + 4) 23 (b - (w (4 + 7 * b + 1) - 100)) [23, 20, 13, 10] 4 := by
  intro M tr tn j Q h hK t0 t1 j0 j1 kk
  have hn := hw.1.1
  refine q_iload gg8_0 rfl ?_
  refine z_const gg8_1 (v := 16) rfl ?_
  refine z_icmple gg8_3 (tg := 8) rfl (by omega) (by omega) (fun c1 => ?_) (fun z => absurd z (by omega))
  refine q_aload gg8_8 rfl ?_
  refine q_iload gg8_9 rfl ?_
  refine q_call2 gg8_10 tt9 rfl (Nat.le_of_ble_eq_true rfl) (hm_rv (by decide +kernel)) (ls' := [some _, some _]) rfl rfl ?_
  refine c_leave hK t0 (by omega) (by decide) (by decide) (fun M1 hK1 hF1 => ?_)
  show hm_Wp _ _ _ _ _ _ _
  refine q_iload gg8_13 rfl ?_
  refine z_const gg8_14 (v := 1) rfl ?_
  first | refine z_iadd gg8_15 ?_ | refine q_iadd gg8_15 ?_
  refine q_istore gg8_16 rfl ?_
  refine q_iload gg8_18 rfl ?_
  refine z_sw gg8_19 (by omega) ?_
  show hm_Wp _ _ 198 _ _ _ _
  refine q_aload gg8_198 rfl ?_
  refine z_const gg8_199 (v := 20) rfl ?_
  refine q_iload gg8_201 rfl ?_
  refine q_iload gg8_202 rfl ?_
  refine q_call4 gg8_204 tt8 rfl (Nat.le_of_ble_eq_true rfl) (hm_rv (by decide +kernel)) (ls' := [some _, some _, some _, some _, none]) rfl rfl ?_
  refine bg20 hb0 hb hw M1 _ _ _ _ (h.fk hF1) hK1 (by omega) (by omega) (by omega) (by omega) (fun M2 hK2 hF2 => ?_)
  have h2 := h.fk (hF1.tr hF2)
  show hm_Wp _ _ _ _ (_ :: _) _ _
  refine q_aload gg8_207 rfl ?_
  refine q_aload gg8_208 rfl ?_
  refine z_const gg8_209 (v := 0) rfl ?_
  refine q_iload gg8_210 rfl ?_
  refine q_call3 gg8_211 tt7 rfl (Nat.le_of_ble_eq_true rfl) (hm_rv (by decide +kernel)) (ls' := [some _, some _, some _, none]) rfl rfl ?_
  refine c_bodyOf hb0 hb h2 hw (by decide) (by decide) ?_
  rw [hk]
  show hm_Wp _ _ _ _ (_ :: _) _ _
  refine q_iload gg8_214 rfl ?_
  refine q_iload gg8_215 rfl ?_
  refine q_call4 gg8_217 tt8 rfl (Nat.le_of_ble_eq_true rfl) (hm_rv (by decide +kernel)) (ls' := [some _, some _, some _, some _, none]) rfl rfl ?_
  refine bg13 hb0 hb hw M2 _ _ _ _ h2 hK2 (by omega) (by omega) (by omega) (by omega) (fun M3 hK3 hF3 => ?_)
  show hm_Wp _ _ _ _ (_ :: _) _ _
  first | refine z_isub gg8_220 ?_ | refine q_isub gg8_220 ?_
  refine q_iret gg8_221 ?_
  exact kk _ (hK3.eq (by omega)) ((hF1.tr hF2).tr hF3)
theorem bg23_5 (hb0 : 0 ≤ b) (hb : b < w 2) (hw : mWf w) (hk : w (4 + 7 * b) = 5) : BG w b (d + 4) 23 (b - (2 * (w (4 + 7 * b + 1) - 100))) [23, 20, 14, 13, 10] 5 := by
  intro M tr tn j Q h hK t0 t1 j0 j1 kk
  have hn := hw.1.1
  refine q_iload gg8_0 rfl ?_
  refine z_const gg8_1 (v := 16) rfl ?_
  refine z_icmple gg8_3 (tg := 8) rfl (by omega) (by omega) (fun c1 => ?_) (fun z => absurd z (by omega))
  refine q_aload gg8_8 rfl ?_
  refine q_iload gg8_9 rfl ?_
  refine q_call2 gg8_10 tt9 rfl (Nat.le_of_ble_eq_true rfl) (hm_rv (by decide +kernel)) (ls' := [some _, some _]) rfl rfl ?_
  refine c_leave hK t0 (by omega) (by decide) (by decide) (fun M1 hK1 hF1 => ?_)
  show hm_Wp _ _ _ _ _ _ _
  refine q_iload gg8_13 rfl ?_
  refine z_const gg8_14 (v := 1) rfl ?_
  first | refine z_iadd gg8_15 ?_ | refine q_iadd gg8_15 ?_
  refine q_istore gg8_16 rfl ?_
  refine q_iload gg8_18 rfl ?_
  refine z_sw gg8_19 (by omega) ?_
  show hm_Wp _ _ 198 _ _ _ _
  refine q_aload gg8_198 rfl ?_
  refine z_const gg8_199 (v := 20) rfl ?_
  refine q_iload gg8_201 rfl ?_
  refine q_iload gg8_202 rfl ?_
  refine q_call4 gg8_204 tt8 rfl (Nat.le_of_ble_eq_true rfl) (hm_rv (by decide +kernel)) (ls' := [some _, some _, some _, some _, none]) rfl rfl ?_
  refine bg20 hb0 hb hw M1 _ _ _ _ (h.fk hF1) hK1 (by omega) (by omega) (by omega) (by omega) (fun M2 hK2 hF2 => ?_)
  have h2 := h.fk (hF1.tr hF2)
  show hm_Wp _ _ _ _ (_ :: _) _ _
  refine q_aload gg8_207 rfl ?_
  refine q_aload gg8_208 rfl ?_
  refine z_const gg8_209 (v := 0) rfl ?_
  refine q_iload gg8_210 rfl ?_
  refine q_call3 gg8_211 tt7 rfl (Nat.le_of_ble_eq_true rfl) (hm_rv (by decide +kernel)) (ls' := [some _, some _, some _, none]) rfl rfl ?_
  refine c_bodyOf hb0 hb h2 hw (by decide) (by decide) ?_
  rw [hk]
  show hm_Wp _ _ _ _ (_ :: _) _ _
  refine q_iload gg8_214 rfl ?_
  refine q_iload gg8_215 rfl ?_
  refine q_call4 gg8_217 tt8 rfl (Nat.le_of_ble_eq_true rfl) (hm_rv (by decide +kernel)) (ls' := [some _, some _, some _, some _, none]) rfl rfl ?_
  refine bg14 hb0 hb hw M2 _ _ _ _ h2 hK2 (by omega) (by omega) (by omega) (by omega) (fun M3 hK3 hF3 => ?_)
  show hm_Wp _ _ _ _ (_ :: _) _ _
  first | refine z_isub gg8_220 ?_ | refine q_isub gg8_220 ?_
  refine q_iret gg8_221 ?_
  exact kk _ (hK3.eq (by omega)) ((hF1.tr hF2).tr hF3)
theorem bg12 (hb0 : 0 ≤ b) (hb : b < w 2) (hw : mWf w) (hk : w (4 + 7 * b) = 2) : BG w b (d + 5) 12 (-(w (4 + 7 * b + 1) + 2 * (b + w (4 + 7 * b + 2)))) [12, 11, 10, 24, 21, 20] 6 := by
  intro M tr tn j Q h hK t0 t1 j0 j1 kk
  refine q_iload gg8_0 rfl ?_
  refine z_const gg8_1 (v := 16) rfl ?_
  refine z_icmple gg8_3 (tg := 8) rfl (by omega) (by omega) (fun c1 => ?_) (fun z => absurd z (by omega))
  refine q_aload gg8_8 rfl ?_
  refine q_iload gg8_9 rfl ?_
  refine q_call2 gg8_10 tt9 rfl (Nat.le_of_ble_eq_true rfl) (hm_rv (by decide +kernel)) (ls' := [some _, some _]) rfl rfl ?_
  refine c_leave hK t0 (by omega) (by decide) (by decide) (fun M1 hK1 hF1 => ?_)
  show hm_Wp _ _ _ _ _ _ _
  refine q_iload gg8_13 rfl ?_
  refine z_const gg8_14 (v := 1) rfl ?_
  first | refine z_iadd gg8_15 ?_ | refine q_iadd gg8_15 ?_
  refine q_istore gg8_16 rfl ?_
  refine q_iload gg8_18 rfl ?_
  refine z_sw gg8_19 (by omega) ?_
  show hm_Wp _ _ 126 _ _ _ _
  refine q_aload gg8_126 rfl ?_
  refine z_const gg8_127 (v := 11) rfl ?_
  refine q_iload gg8_129 rfl ?_
  refine q_iload gg8_130 rfl ?_
  refine q_call4 gg8_132 tt8 rfl (Nat.le_of_ble_eq_true rfl) (hm_rv (by decide +kernel)) (ls' := [some _, some _, some _, some _, none]) rfl rfl ?_
  refine bg11_2 hb0 hb hw hk M1 _ _ _ _ (h.fk hF1) hK1 (by omega) (by omega) (by omega) (by omega) (fun M2 hK2 hF2 => ?_)
  show hm_Wp _ _ _ _ (_ :: _) _ _
  refine z_ineg gg8_135 ?_
  refine q_iret gg8_136 ?_
  exact kk _ (hK2.eq (by omega)) (hF1.tr hF2)
def askL (k y : Int) : List Int := if y = 0 then (if k = 1 then [11, 10, 21, 20] else if k = 2 then [12, 11, 10, 24, 21, 20] else if k = 3 then [11, 10, 22, 21, 20] else if k = 4 then [13, 10] else [14, 13, 10]) else (if k = 1 then [21, 20] else if k = 2 then [24, 21, 20] else if k = 3 then [22, 21, 20] else if k = 4 then [23, 20, 13, 10] else [23, 20, 14, 13, 10])
def askN (k y : Int) : Int := if y = 0 then (if k = 1 then 4 else if k = 2 then 6 else if k = 3 then 5 else if k = 4 then 2 else 3) else (if k = 1 then 2 else if k = 2 then 3 else if k = 3 then 3 else if k = 4 then 4 else 5)
def askV (w : Int → Int) (b k y : Int) : Int := if y = 0 then (if k = 1 then w (4 + 7 * b + 1) + (b + w (4 + 7 * b + 2)) else if k = 2 then -(w (4 + 7 * b + 1) + 2 * (b + w (4 + 7 * b + 2))) else if k = 3 then w (4 + 7 * b + 1) + (b + w (4 + 7 * b + 2) - 1000) else if k = 4 then w (4 + 7 * b + 1) - 100 else 2 * (w (4 + 7 * b + 1) - 100)) else (if k = 1 then b + w (4 + 7 * b + 2) else if k = 2 then 2 * (b + w (4 + 7 * b + 2)) else if k = 3 then b + w (4 + 7 * b + 2) - 1000 else if k = 4 then b - (w (4 + 7 * b + 1) - 100) else b - 2 * (w (4 + 7 * b + 1) - 100))
def okA (w : Int → Int) (b y : Int) : Prop := 0 ≤ b ∧ b < w 2 ∧ 0 ≤ y ∧ y ≤ 1
def aAsk (w : Int → Int) (b y : Int) : Int := if 0 ≤ b ∧ b < w 2 ∧ 0 ≤ y ∧ y ≤ 1 then askV w b (w (4 + 7 * b)) y else -1000001
theorem askN_bd : 0 ≤ askN K y ∧ askN K y ≤ 6 := by unfold askN; (repeat' split) <;> omega
theorem bg_all (hb0 : 0 ≤ b) (hb : b < w 2) (hw : mWf w) (hy : y = 0 ∨ y = 1) : BG w b (d + 5) (if y = 0 then sBody (w (4 + 7 * b)) else kBody (w (4 + 7 * b))) (askV w b (w (4 + 7 * b)) y) (askL (w (4 + 7 * b)) y) (askN (w (4 + 7 * b)) y) := by
  have hkk := hw.2.2.1 b hb0 hb
  have hk5 : w (4 + 7 * b) = 1 ∨ w (4 + 7 * b) = 2 ∨ w (4 + 7 * b) = 3 ∨ w (4 + 7 * b) = 4 ∨ w (4 + 7 * b) = 5 := by omega
  rcases hy with rfl | rfl <;> rcases hk5 with hk | hk | hk | hk | hk <;> simp only [hk]
  · exact bg11_1 (d := d + 1) hb0 hb hw hk
  · exact bg12 hb0 hb hw hk
  · exact bg11_3 (d := d + 1) hb0 hb hw hk
  · exact bg13 (d := d + 3) hb0 hb hw
  · exact bg14 (d := d + 2) hb0 hb hw
  · exact bg21 (d := d + 3) hb0 hb hw
  · exact bg24 (d := d + 2) hb0 hb hw
  · exact bg22 (d := d + 2) hb0 hb hw
  · exact bg23_4 (d := d + 1) hb0 hb hw hk
  · exact bg23_5 (d := d + 1) hb0 hb hw hk
theorem c_ask (hz : zR b) (hy : zR y) (h : Hb M 7 w) (hw : mWf w) (k0 : ¬ okA w b y → Q (some (.inl (zI (aAsk w b y)))) M) (k1 : okA w b y → ∀ M', KC M' (tcat (fun _ => 0) 0 (askL (w (4 + 7 * b)) y)) (askN (w (4 + 7 * b)) y) → FK M M' → Q (some (.inl (zI (aAsk w b y)))) M') : hm_Wp (d + 7) 116 0 [some (.inr (.inr 0)), some (.inl (zI b)), some (.inl (zI y))] [] M Q := by
  have hn := hw.1.1
  have h4 := h.1.1
  unfold zR at hz hy
  have hE : aAsk w b y = if 0 ≤ b ∧ b < w 2 ∧ 0 ≤ y ∧ y ≤ 1 then askV w b (w (4 + 7 * b)) y else -1000001 := rfl
  have hN := askN_bd (K := w (4 + 7 * b)) (y := y)
  have hF0 : FK M (hm_up M 28 2 (zI 0)) := fun k h0 h1 => by unfold hm_up; rw [hm_row_ne _ _ h0]
  have hK0 : KC (hm_up M 28 2 (zI 0)) (fun _ => 0) 0 := ⟨up_at, fun i i0 i1 => by omega⟩
  refine q_aload gg116_0 rfl ?_
  refine q_getr gg116_1 rfl ?_
  refine q_iload gg116_4 rfl ?_
  refine q_call2 gg116_5 tt32 rfl (Nat.le_of_ble_eq_true rfl) (hm_rv (by decide +kernel)) (ls' := [some _, some _]) rfl rfl ?_
  refine q_iload gg32_0 rfl ?_
  refine z_iflt gg32_1 (tg := 16) rfl (by omega) (fun c1 => ?_) (fun c1 => ?_)
  · try (exfalso; omega)
    all_goals (
      refine z_const gg32_16 (v := 0) rfl ?_
      refine z_zretC gg32_17 (by omega) ?_
      refine z_ifeq gg116_8 (tg := 18) rfl (by decide) (fun _ => ?_) (fun z => absurd z (by decide))
      refine z_neg gg116_18 ?_
      refine q_iret gg116_20 ?_
      refine qv ?_ (k0 (by unfold okA; omega))
      rw [hE, if_neg (by omega)]
    )
  · try (exfalso; omega)
    all_goals (
      refine q_iload gg32_4 rfl ?_
      refine q_aload gg32_5 rfl ?_
      first | refine z_getf gg32_6 rfl (by assumption) ?_ | refine q_getf gg32_6 rfl ?_
      refine z_icmpge gg32_9 (tg := 16) rfl (by omega) (by omega) (fun c2 => ?_) (fun c2 => ?_)
      · try (exfalso; omega)
        all_goals (
          refine z_const gg32_16 (v := 0) rfl ?_
          refine z_zretC gg32_17 (by omega) ?_
          refine z_ifeq gg116_8 (tg := 18) rfl (by decide) (fun _ => ?_) (fun z => absurd z (by decide))
          refine z_neg gg116_18 ?_
          refine q_iret gg116_20 ?_
          refine qv ?_ (k0 (by unfold okA; omega))
          rw [hE, if_neg (by omega)]
        )
      · try (exfalso; omega)
        all_goals (
          refine z_const gg32_12 (v := 1) rfl ?_
          refine q_goto gg32_13 (tg := 17) rfl ?_
          refine z_zretC gg32_17 (by omega) ?_
          refine z_ifeq gg116_8 (tg := 18) rfl (by decide) (fun z => absurd z (by decide)) (fun _ => ?_)
          refine q_iload gg116_11 rfl ?_
          refine q_call1 gg116_12 tt122 rfl (Nat.le_of_ble_eq_true rfl) rfl (ls' := [some _]) rfl rfl ?_
          refine q_iload gg122_0 rfl ?_
          refine z_ifeq gg122_1 (tg := 9) rfl (by omega) (fun c3 => ?_) (fun c3 => ?_)
          · try (exfalso; omega)
            all_goals (
              refine z_const gg122_9 (v := 1) rfl ?_
              refine q_goto gg122_10 (tg := 14) rfl ?_
              refine z_zretC gg122_14 (by omega) ?_
              refine z_ifne gg116_15 (tg := 21) rfl (by decide) (fun _ => ?_) (fun z => absurd z (by decide))
              refine q_aload gg116_21 rfl ?_
              refine q_getr gg116_22 rfl ?_
              refine q_iload gg116_25 rfl ?_
              refine q_iload gg116_26 rfl ?_
              refine q_call3 gg116_27 tt5 rfl (Nat.le_of_ble_eq_true rfl) (hm_rv (by decide +kernel)) (ls' := [some _, some _, some _]) rfl rfl ?_
              refine q_aload gg5_0 rfl ?_
              refine z_const gg5_1 (v := 0) rfl ?_
              refine q_putf gg5_2 rfl ?_
              refine q_aload gg5_5 rfl ?_
              refine q_aload gg5_6 rfl ?_
              refine q_iload gg5_7 rfl ?_
              refine q_iload gg5_8 rfl ?_
              refine q_call3 gg5_9 tt7 rfl (Nat.le_of_ble_eq_true rfl) (hm_rv (by decide +kernel)) (ls' := [some _, some _, some _, none]) rfl rfl ?_
              refine c_bodyOf (by omega) (by omega) (h.fk hF0) hw (by omega) (by omega) ?_
              show hm_Wp _ _ _ _ (_ :: _) _ _
              refine q_iload gg5_12 rfl ?_
              refine z_const gg5_13 (v := 0) rfl ?_
              refine q_call4 gg5_14 tt8 rfl (Nat.le_of_ble_eq_true rfl) (hm_rv (by decide +kernel)) (ls' := [some _, some _, some _, some _, none]) rfl rfl ?_
              refine bg_all (by omega) (by omega) hw (by omega) _ _ _ _ _ (h.fk hF0) hK0 (by omega) (by omega) (by decide) (by omega) (fun M2 hK2 hF2 => ?_)
              show hm_Wp _ _ _ _ (_ :: _) _ _
              refine q_iretC gg5_17 ?_
              refine q_iret gg116_30 ?_
              rw [if_pos (by omega)] at hE
              have := k1 ⟨by omega, by omega, by omega, by omega⟩ M2 (hK2.eq (by omega)) (hF0.tr hF2)
              rw [hE] at this
              exact this
            )
          · try (exfalso; omega)
            all_goals (
              refine q_iload gg122_4 rfl ?_
              refine z_const gg122_5 (v := 1) rfl ?_
              refine z_icmpne gg122_6 (tg := 13) rfl (by omega) (by omega) (fun c4 => ?_) (fun c4 => ?_)
              · try (exfalso; omega)
                all_goals (
                  refine z_const gg122_13 (v := 0) rfl ?_
                  refine z_zretC gg122_14 (by omega) ?_
                  refine z_ifne gg116_15 (tg := 21) rfl (by decide) (fun z => absurd z (by decide)) (fun _ => ?_)
                  refine z_neg gg116_18 ?_
                  refine q_iret gg116_20 ?_
                  refine qv ?_ (k0 (by unfold okA; omega))
                  rw [hE, if_neg (by omega)]
                )
              · try (exfalso; omega)
                all_goals (
                  refine z_const gg122_9 (v := 1) rfl ?_
                  refine q_goto gg122_10 (tg := 14) rfl ?_
                  refine z_zretC gg122_14 (by omega) ?_
                  refine z_ifne gg116_15 (tg := 21) rfl (by decide) (fun _ => ?_) (fun z => absurd z (by decide))
                  refine q_aload gg116_21 rfl ?_
                  refine q_getr gg116_22 rfl ?_
                  refine q_iload gg116_25 rfl ?_
                  refine q_iload gg116_26 rfl ?_
                  refine q_call3 gg116_27 tt5 rfl (Nat.le_of_ble_eq_true rfl) (hm_rv (by decide +kernel)) (ls' := [some _, some _, some _]) rfl rfl ?_
                  refine q_aload gg5_0 rfl ?_
                  refine z_const gg5_1 (v := 0) rfl ?_
                  refine q_putf gg5_2 rfl ?_
                  refine q_aload gg5_5 rfl ?_
                  refine q_aload gg5_6 rfl ?_
                  refine q_iload gg5_7 rfl ?_
                  refine q_iload gg5_8 rfl ?_
                  refine q_call3 gg5_9 tt7 rfl (Nat.le_of_ble_eq_true rfl) (hm_rv (by decide +kernel)) (ls' := [some _, some _, some _, none]) rfl rfl ?_
                  refine c_bodyOf (by omega) (by omega) (h.fk hF0) hw (by omega) (by omega) ?_
                  show hm_Wp _ _ _ _ (_ :: _) _ _
                  refine q_iload gg5_12 rfl ?_
                  refine z_const gg5_13 (v := 0) rfl ?_
                  refine q_call4 gg5_14 tt8 rfl (Nat.le_of_ble_eq_true rfl) (hm_rv (by decide +kernel)) (ls' := [some _, some _, some _, some _, none]) rfl rfl ?_
                  refine bg_all (by omega) (by omega) hw (by omega) _ _ _ _ _ (h.fk hF0) hK0 (by omega) (by omega) (by decide) (by omega) (fun M2 hK2 hF2 => ?_)
                  show hm_Wp _ _ _ _ (_ :: _) _ _
                  refine q_iretC gg5_17 ?_
                  refine q_iret gg116_30 ?_
                  rw [if_pos (by omega)] at hE
                  have := k1 ⟨by omega, by omega, by omega, by omega⟩ M2 (hK2.eq (by omega)) (hF0.tr hF2)
                  rw [hE] at this
                  exact this
                )
            )
        )
    )
end K1
