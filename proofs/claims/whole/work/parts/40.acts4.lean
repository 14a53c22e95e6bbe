section A4
variable {d r mid pc nx k : Nat} {M N : hm_M} {w v w0 g ik : Int → Int} {b n e x a s y c q i p na nxt : Int} {f F : Nat → Int32} {pa im : Int → Int → Int} {Q : Option hm_V → hm_M → Prop} {l : List (Int × Nat)} {ls : hm_L} {st : List hm_V}
/-! plums -/
def okP (w : Int → Int) (b n : Int) : Prop := 0 ≤ b ∧ b < w 2 ∧ 1 ≤ n ∧ n ≤ 20 ∧ w (4 + 7 * b + 5) = 0
def mPl (w : Int → Int) (b n : Int) : Int → Int := zup w (4 + 7 * b + 1) (min 20 (w (4 + 7 * b + 1) + n))
def aPlums (w : Int → Int) (b n : Int) : Int := if 0 ≤ b ∧ b < w 2 ∧ 1 ≤ n ∧ n ≤ 20 then (if w (4 + 7 * b + 5) = 0 then min 20 (w (4 + 7 * b + 1) + n) else -1000002) else -1000001
theorem aPlums_y (h : okP w b n) : aPlums w b n = min 20 (w (4 + 7 * b + 1) + n) := by unfold aPlums; rw [if_pos ⟨h.1, h.2.1, h.2.2.1, h.2.2.2.1⟩, if_pos h.2.2.2.2]
theorem gW_pl (h : gW w) (hb0 : 0 ≤ b) (hb : b < w 2) (hn0 : 1 ≤ n) : gW (mPl w b n) := by
  have hw := h.1
  have e : ∀ i : Int, i ≠ 4 + 7 * b + 1 → mPl w b n i = w i := fun i h => by simp [mPl, zup, h]
  have z : mPl w b n (4 + 7 * b + 1) = min 20 (w (4 + 7 * b + 1) + n) := by simp [mPl, zup]
  have hbd := hw.2.1
  have hn := hw.1.1
  refine ⟨?_, by rw [e _ (by omega), e _ (by omega)]; exact h.2.1, by rw [e _ (by omega)]; exact h.2.2⟩
  refine mWf_of hw (e 2 (by omega)) ?_ ?_ (by rw [e 3 (by omega)]; exact hbd 3 (by decide) (by decide)) (fun c b0 b1 => ?_) (fun b b0 b1 => ?_) (fun c q b0 b1 q0 q1 => ?_) (fun b q b0 b1 q0 q1 => e _ (by omega))
  · rw [e 0 (by omega)]; exact ⟨hw.2.2.2.2.1, (hbd 0 (by decide) (by decide)).1⟩
  · rw [e 1 (by omega)]; exact ⟨hw.2.2.2.2.2, (hbd 1 (by decide) (by decide)).1⟩
  · have h1 := hw.2.2.1 c b0 b1
    have h2 := hbd (4 + 7 * c + 1) (by omega) (by omega)
    rw [e (4 + 7 * c) (by omega), e (4 + 7 * c + 3) (by omega)]
    by_cases hc : c = b
    · subst hc; rw [z]; omega
    · rw [e _ (by omega)]; omega
  · have h1 := hw.2.2.1 b b0 b1
    have h2 := hbd (4 + 7 * b + 2) (by omega) (by omega)
    rw [e _ (by omega)]; omega
  · rw [e _ (by omega)]; exact hw.1.2.1 c q b0 (by omega) q0 q1
theorem c_plums (hz : zR b) (hy : zR n) (h : Hb M 7 w) (hw : gW w) (hA : AC M pa na) (hW : AW pa na) (k0 : ¬ okP w b n → Q (some (.inl (zI (aPlums w b n)))) M) (k1 : okP w b n → ∀ M', Hb M' 7 (mPl w b n) → AC M' (paK pa na w) (naK na) → FA M M' → Q (some (.inl (zI (aPlums w b n)))) M') : hm_Wp (d + 6) 95 0 [some (.inr (.inr 0)), some (.inl (zI b)), some (.inl (zI n))] [] M Q := by
  have hn := hw.1.1.1
  have h4 := h.1.1
  have h9 := h.1.2.2.2.2.1
  have s5 := bsum7_lt (hw.1.f01 (q := 5) (by decide) (by decide))
  unfold zR at hz hy
  by_cases hin : 0 ≤ b ∧ b < w 2 ∧ 1 ≤ n ∧ n ≤ 20
  · obtain ⟨b0, b1, y0, y1⟩ := hin
    have q5 := hw.1.bit (q := 5) (by decide) (by decide) b0 (by omega)
    have w5 := hw.1.1.2.1 b 5 b0 (by omega) (by decide) (by decide)
    have wp := hw.1.2.1 (4 + 7 * b + 1) (by omega) (by omega)
    refine q_aload gg95_0 rfl ?_
    refine q_getr gg95_1 rfl ?_
    refine q_iload gg95_4 rfl ?_
    refine q_call2 gg95_5 tt32 rfl (Nat.le_of_ble_eq_true rfl) (hm_rv (by decide +kernel)) (ls' := [some _, some _]) rfl rfl ?_
    refine q_iload gg32_0 rfl ?_
    refine z_iflt gg32_1 (tg := 16) rfl (by omega) (fun c1 => ?_) (fun c1 => ?_)
    · try (exfalso; omega)
      all_goals (
        refine z_const gg32_16 (v := 0) rfl ?_
        refine z_zretC gg32_17 (by omega) ?_
        refine z_ifeq gg95_8 (tg := 22) rfl (by decide) (fun _ => ?_) (fun z => absurd z (by decide))
        refine z_neg gg95_22 ?_
        refine q_iret gg95_24 ?_
        exfalso
        omega
      )
    · try (exfalso; omega)
      all_goals (
        refine q_iload gg32_4 rfl ?_
        refine q_aload gg32_5 rfl ?_
        first | refine z_getf gg32_6 rfl (by assumption) ?_ | refine q_getf gg32_6 rfl ?_
        refine z_icmpge gg32_9 (tg := 16) rfl (by omega) (by omega) (fun c2 => ?_) (fun c2 => ?_)
        · try (exfalso; omega)
          all_goals (
            refine z_const gg32_16 (v := 0) rfl ?_
            refine z_zretC gg32_17 (by omega) ?_
            refine z_ifeq gg95_8 (tg := 22) rfl (by decide) (fun _ => ?_) (fun z => absurd z (by decide))
            refine z_neg gg95_22 ?_
            refine q_iret gg95_24 ?_
            exfalso
            omega
          )
        · try (exfalso; omega)
          all_goals (
            refine z_const gg32_12 (v := 1) rfl ?_
            refine q_goto gg32_13 (tg := 17) rfl ?_
            refine z_zretC gg32_17 (by omega) ?_
            refine z_ifeq gg95_8 (tg := 22) rfl (by decide) (fun z => absurd z (by decide)) (fun _ => ?_)
            refine q_iload gg95_11 rfl ?_
            refine z_const gg95_12 (v := 1) rfl ?_
            refine z_icmplt gg95_13 (tg := 22) rfl (by omega) (by omega) (fun c3 => ?_) (fun c3 => ?_)
            · try (exfalso; omega)
              all_goals (
                refine z_neg gg95_22 ?_
                refine q_iret gg95_24 ?_
                exfalso
                omega
              )
            · try (exfalso; omega)
              all_goals (
                refine q_iload gg95_16 rfl ?_
                refine z_const gg95_17 (v := 20) rfl ?_
                refine z_icmple gg95_19 (tg := 25) rfl (by omega) (by omega) (fun c4 => ?_) (fun c4 => ?_)
                · try (exfalso; omega)
                  all_goals (
                    refine q_aload gg95_25 rfl ?_
                    refine q_getr gg95_26 rfl ?_
                    refine q_iload gg95_29 rfl ?_
                    refine q_call2 gg95_30 tt34 rfl (Nat.le_of_ble_eq_true rfl) (hm_rv (by decide +kernel)) (ls' := [some _, some _]) rfl rfl ?_
                    refine q_aload gg34_0 rfl ?_
                    first | refine z_getf gg34_1 rfl (by assumption) ?_ | refine q_getf gg34_1 rfl ?_
                    refine q_iload gg34_4 rfl ?_
                    first | refine z_ishr gg34_5 (by omega) (by omega) (by omega) (by omega) (fun sisBurst_5 esisBurst_5 lsisBurst_5 usisBurst_5 => ?_) | refine q_ishr gg34_5 ?_
                    refine z_const gg34_6 (v := 1) rfl ?_
                    first | refine z_iand1 gg34_7 (by omega) (by omega) ?_ | refine z_iandn gg34_7 (by omega) (by omega) (by omega) (by omega) ?_ | refine q_iand gg34_7 ?_
                    refine z_const gg34_8 (v := 1) rfl ?_
                    refine z_icmpne gg34_9 (tg := 16) rfl (by omega) (by omega) (fun c5 => ?_) (fun c5 => ?_)
                    · try (exfalso; omega)
                      all_goals (
                        refine z_const gg34_16 (v := 0) rfl ?_
                        refine z_zretC gg34_17 (by omega) ?_
                        refine z_ifeq gg95_33 (tg := 39) rfl (by decide) (fun _ => ?_) (fun z => absurd z (by decide))
                        refine q_aload gg95_39 rfl ?_
                        refine q_getr gg95_40 rfl ?_
                        refine q_aload gg95_43 rfl ?_
                        refine q_getr gg95_44 rfl ?_
                        refine q_call2 gg95_47 tt0 rfl (Nat.le_of_ble_eq_true rfl) (hm_rv (by decide +kernel)) (ls' := [some _, some _]) rfl rfl ?_
                        refine c_keep h hw hA hW (fun M1 hA1 hf1 => ?_)
                        show hm_Wp _ _ _ _ _ _ _
                        have h1 := h.kp hf1
                        have a2 := h1.1.2.2.2.2.2.2.2.1
                        have hok : okP w b n := ⟨b0, b1, y0, y1, by omega⟩
                        have hx := Hb_arr (j := 2) (q := 1) (x := min 20 (w (4 + 7 * b + 1) + n)) (Or.inr ⟨rfl, rfl⟩) h1 b0 b1 (by omega) (by omega)
                        have hfr : Fr 7 M1 (hm_row M1 9 (upd (M1 9) b.toNat (zI (min 20 (w (4 + 7 * b + 1) + n))))) := Fr.row (by decide) (by decide)
                        have hx2 := hx.1.2.2.2.2.2.2.2.1
                        simp only [zup] at hx2
                        rw [if_neg (by omega)] at hx2
                        refine q_aload gg95_50 rfl ?_
                        refine q_getr gg95_51 rfl ?_
                        refine q_getr gg95_54 rfl ?_
                        refine q_iload gg95_57 rfl ?_
                        refine z_const gg95_58 (v := 20) rfl ?_
                        refine q_aload gg95_60 rfl ?_
                        refine q_getr gg95_61 rfl ?_
                        refine q_getr gg95_64 rfl ?_
                        refine q_iload gg95_67 rfl ?_
                        first | (refine z_alr gg95_68 (by first | rfl | assumption) (by assumption) (by omega) (by omega) (by omega) (by decide) (fun v68 ev68 lv68 uv68 => ?_); try dsimp only at ev68) | (refine z_alx gg95_68 rfl (by assumption) (by omega) (by omega) (by first | omega | decide) (by decide) (fun v68 ev68 lv68 uv68 => ?_); try dsimp only at ev68) | refine z_alq gg95_68 rfl (by omega) (by omega) (by decide) ?_
                        refine q_iload gg95_69 rfl ?_
                        first | refine z_iadd gg95_70 ?_ | refine q_iadd gg95_70 ?_
                        refine z_min gg95_71 (Nat.le_of_ble_eq_true rfl) (by omega) (by omega) ?_
                        subst ev68
                        first | refine z_asr gg95_74 (by first | rfl | assumption) (by assumption) (by omega) (by omega) (by decide) (by omega) (by omega) (fun f74 h74 => ?_) | refine z_asx gg95_74 rfl (by omega) (by omega) (by decide) ?_ | refine z_asq gg95_74 rfl (by omega) (by omega) (by decide) ?_
                        refine q_aload gg95_75 rfl ?_
                        refine q_getr gg95_76 rfl ?_
                        refine q_getr gg95_79 rfl ?_
                        refine q_iload gg95_82 rfl ?_
                        first | (refine z_alr gg95_83 (by first | rfl | assumption) (by assumption) (by omega) (by omega) (by omega) (by decide) (fun v83 ev83 lv83 uv83 => ?_); try dsimp only at ev83) | (refine z_alx gg95_83 rfl (by assumption) (by omega) (by omega) (by first | omega | decide) (by decide) (fun v83 ev83 lv83 uv83 => ?_); try dsimp only at ev83) | refine z_alq gg95_83 rfl (by omega) (by omega) (by decide) ?_
                        refine q_iret gg95_84 ?_
                        have := k1 hok _ hx (hA1.cg (hfr 17 (by omega)) (hfr 18 (by omega))) ((FA.kp hf1).tr (FA.fr hfr))
                        rw [aPlums_y hok] at this
                        refine qv ?_ this
                        rw [ev83, if_pos rfl]
                      )
                    · try (exfalso; omega)
                      all_goals (
                        refine z_const gg34_12 (v := 1) rfl ?_
                        refine q_goto gg34_13 (tg := 17) rfl ?_
                        refine z_zretC gg34_17 (by omega) ?_
                        refine z_ifeq gg95_33 (tg := 39) rfl (by decide) (fun z => absurd z (by decide)) (fun _ => ?_)
                        refine z_neg gg95_36 ?_
                        refine q_iret gg95_38 ?_
                        refine qv ?_ (k0 (by unfold okP; omega))
                        unfold aPlums
                        rw [if_pos ⟨b0, b1, y0, y1⟩, if_neg (by omega)]
                      )
                  )
                · try (exfalso; omega)
                  all_goals (
                    refine z_neg gg95_22 ?_
                    refine q_iret gg95_24 ?_
                    exfalso
                    omega
                  )
              )
          )
      )
  · refine q_aload gg95_0 rfl ?_
    refine q_getr gg95_1 rfl ?_
    refine q_iload gg95_4 rfl ?_
    refine q_call2 gg95_5 tt32 rfl (Nat.le_of_ble_eq_true rfl) (hm_rv (by decide +kernel)) (ls' := [some _, some _]) rfl rfl ?_
    refine q_iload gg32_0 rfl ?_
    refine z_iflt gg32_1 (tg := 16) rfl (by omega) (fun c1 => ?_) (fun c1 => ?_)
    · try (exfalso; omega)
      all_goals (
        refine z_const gg32_16 (v := 0) rfl ?_
        refine z_zretC gg32_17 (by omega) ?_
        refine z_ifeq gg95_8 (tg := 22) rfl (by decide) (fun _ => ?_) (fun z => absurd z (by decide))
        refine z_neg gg95_22 ?_
        refine q_iret gg95_24 ?_
        refine qv ?_ (k0 (by unfold okP; omega))
        unfold aPlums
        rw [if_neg (by omega)]
      )
    · try (exfalso; omega)
      all_goals (
        refine q_iload gg32_4 rfl ?_
        refine q_aload gg32_5 rfl ?_
        first | refine z_getf gg32_6 rfl (by assumption) ?_ | refine q_getf gg32_6 rfl ?_
        refine z_icmpge gg32_9 (tg := 16) rfl (by omega) (by omega) (fun c2 => ?_) (fun c2 => ?_)
        · try (exfalso; omega)
          all_goals (
            refine z_const gg32_16 (v := 0) rfl ?_
            refine z_zretC gg32_17 (by omega) ?_
            refine z_ifeq gg95_8 (tg := 22) rfl (by decide) (fun _ => ?_) (fun z => absurd z (by decide))
            refine z_neg gg95_22 ?_
            refine q_iret gg95_24 ?_
            refine qv ?_ (k0 (by unfold okP; omega))
            unfold aPlums
            rw [if_neg (by omega)]
          )
        · try (exfalso; omega)
          all_goals (
            refine z_const gg32_12 (v := 1) rfl ?_
            refine q_goto gg32_13 (tg := 17) rfl ?_
            refine z_zretC gg32_17 (by omega) ?_
            refine z_ifeq gg95_8 (tg := 22) rfl (by decide) (fun z => absurd z (by decide)) (fun _ => ?_)
            refine q_iload gg95_11 rfl ?_
            refine z_const gg95_12 (v := 1) rfl ?_
            refine z_icmplt gg95_13 (tg := 22) rfl (by omega) (by omega) (fun c3 => ?_) (fun c3 => ?_)
            · try (exfalso; omega)
              all_goals (
                refine z_neg gg95_22 ?_
                refine q_iret gg95_24 ?_
                refine qv ?_ (k0 (by unfold okP; omega))
                unfold aPlums
                rw [if_neg (by omega)]
              )
            · try (exfalso; omega)
              all_goals (
                refine q_iload gg95_16 rfl ?_
                refine z_const gg95_17 (v := 20) rfl ?_
                refine z_icmple gg95_19 (tg := 25) rfl (by omega) (by omega) (fun c4 => ?_) (fun c4 => ?_)
                · try (exfalso; omega)
                  all_goals (
                    exfalso
                    omega
                  )
                · try (exfalso; omega)
                  all_goals (
                    refine z_neg gg95_22 ?_
                    refine q_iret gg95_24 ?_
                    refine qv ?_ (k0 (by unfold okP; omega))
                    unfold aPlums
                    rw [if_neg (by omega)]
                  )
              )
          )
      )
theorem r_plums (hz : zR b) (hy : zR n) (hf : aw (M 36) 53 0 20000 w) (hw : gW w) (hA : AR M pa na) (hW : AW pa na) (k0 : ¬ okP w b n → Q (some (.inl (zI (aPlums w b n)))) M) (k1 : okP w b n → ∀ M', aw (M' 36) 53 0 20000 (mPl w b n) → AR M' (paK pa na w) (naK na) → FAR M M' → Q (some (.inl (zI (aPlums w b n)))) M') : hm_Wp (d + 6) 170 0 [some (.inr (.inr 30)), some (.inl (zI b)), some (.inl (zI n)), none] [] M Q := by
  have hn := hw.1.1.1
  unfold zR at hz hy
  by_cases hin : 0 ≤ b ∧ b < w 2 ∧ 1 ≤ n ∧ n ≤ 20
  · obtain ⟨b0, b1, y0, y1⟩ := hin
    have w5 := hw.1.1.2.1 b 5 b0 (by omega) (by decide) (by decide)
    have wp := hw.1.2.1 (4 + 7 * b + 1) (by omega) (by omega)
    refine q_aload gg170_0 rfl ?_
    refine q_iload gg170_1 rfl ?_
    refine q_call2 gg170_2 tt152 rfl (Nat.le_of_ble_eq_true rfl) (hm_rv (by decide +kernel)) (ls' := [some _, some _]) rfl rfl ?_
    refine q_iload gg152_0 rfl ?_
    refine z_const gg152_1 (v := 0) rfl ?_
    refine q_aload gg152_2 rfl ?_
    refine q_getr gg152_3 rfl ?_
    refine z_const gg152_6 (v := 2) rfl ?_
    first | (refine z_alr gg152_7 (by first | rfl | assumption) (by assumption) (by omega) (by omega) (by omega) (by decide) (fun visBasin_7 evisBasin_7 lvisBasin_7 uvisBasin_7 => ?_); try dsimp only at evisBasin_7) | (refine z_alx gg152_7 rfl (by assumption) (by omega) (by omega) (by first | omega | decide) (by decide) (fun visBasin_7 evisBasin_7 lvisBasin_7 uvisBasin_7 => ?_); try dsimp only at evisBasin_7) | refine z_alq gg152_7 rfl (by omega) (by omega) (by decide) ?_
    refine z_const gg152_8 (v := 1) rfl ?_
    first | refine z_isub gg152_9 ?_ | refine q_isub gg152_9 ?_
    refine q_call3 gg152_10 tt124 rfl (Nat.le_of_ble_eq_true rfl) rfl (ls' := [some _, some _, some _]) rfl rfl ?_
    refine q_iload gg124_0 rfl ?_
    refine q_iload gg124_1 rfl ?_
    refine z_icmplt gg124_2 (tg := 14) rfl (by omega) (by omega) (fun c1 => ?_) (fun c1 => ?_)
    · try (exfalso; omega)
      all_goals (
        refine z_const gg124_14 (v := 0) rfl ?_
        refine z_zretC gg124_15 (by omega) ?_
        refine z_zretC gg152_13 (by omega) ?_
        refine z_ifeq gg170_5 (tg := 18) rfl (by decide) (fun _ => ?_) (fun z => absurd z (by decide))
        refine z_neg gg170_18 ?_
        refine q_iret gg170_20 ?_
        exfalso
        omega
      )
    · try (exfalso; omega)
      all_goals (
        refine q_iload gg124_5 rfl ?_
        refine q_iload gg124_6 rfl ?_
        refine z_icmpgt gg124_7 (tg := 14) rfl (by omega) (by omega) (fun c2 => ?_) (fun c2 => ?_)
        · try (exfalso; omega)
          all_goals (
            refine z_const gg124_14 (v := 0) rfl ?_
            refine z_zretC gg124_15 (by omega) ?_
            refine z_zretC gg152_13 (by omega) ?_
            refine z_ifeq gg170_5 (tg := 18) rfl (by decide) (fun _ => ?_) (fun z => absurd z (by decide))
            refine z_neg gg170_18 ?_
            refine q_iret gg170_20 ?_
            exfalso
            omega
          )
        · try (exfalso; omega)
          all_goals (
            refine z_const gg124_10 (v := 1) rfl ?_
            refine q_goto gg124_11 (tg := 15) rfl ?_
            refine z_zretC gg124_15 (by omega) ?_
            refine z_zretC gg152_13 (by omega) ?_
            refine z_ifeq gg170_5 (tg := 18) rfl (by decide) (fun z => absurd z (by decide)) (fun _ => ?_)
            refine q_iload gg170_8 rfl ?_
            refine z_const gg170_9 (v := 1) rfl ?_
            refine z_const gg170_10 (v := 20) rfl ?_
            refine q_call3 gg170_12 tt124 rfl (Nat.le_of_ble_eq_true rfl) rfl (ls' := [some _, some _, some _]) rfl rfl ?_
            refine q_iload gg124_0 rfl ?_
            refine q_iload gg124_1 rfl ?_
            refine z_icmplt gg124_2 (tg := 14) rfl (by omega) (by omega) (fun c3 => ?_) (fun c3 => ?_)
            · try (exfalso; omega)
              all_goals (
                refine z_const gg124_14 (v := 0) rfl ?_
                refine z_zretC gg124_15 (by omega) ?_
                refine z_ifne gg170_15 (tg := 21) rfl (by decide) (fun z => absurd z (by decide)) (fun _ => ?_)
                refine z_neg gg170_18 ?_
                refine q_iret gg170_20 ?_
                exfalso
                omega
              )
            · try (exfalso; omega)
              all_goals (
                refine q_iload gg124_5 rfl ?_
                refine q_iload gg124_6 rfl ?_
                refine z_icmpgt gg124_7 (tg := 14) rfl (by omega) (by omega) (fun c4 => ?_) (fun c4 => ?_)
                · try (exfalso; omega)
                  all_goals (
                    refine z_const gg124_14 (v := 0) rfl ?_
                    refine z_zretC gg124_15 (by omega) ?_
                    refine z_ifne gg170_15 (tg := 21) rfl (by decide) (fun z => absurd z (by decide)) (fun _ => ?_)
                    refine z_neg gg170_18 ?_
                    refine q_iret gg170_20 ?_
                    exfalso
                    omega
                  )
                · try (exfalso; omega)
                  all_goals (
                    refine z_const gg124_10 (v := 1) rfl ?_
                    refine q_goto gg124_11 (tg := 15) rfl ?_
                    refine z_zretC gg124_15 (by omega) ?_
                    refine z_ifne gg170_15 (tg := 21) rfl (by decide) (fun _ => ?_) (fun z => absurd z (by decide))
                    refine q_aload gg170_21 rfl ?_
                    refine q_iload gg170_22 rfl ?_
                    refine q_call2 gg170_23 tt153 rfl (Nat.le_of_ble_eq_true rfl) (hm_rv (by decide +kernel)) (ls' := [some _, some _]) rfl rfl ?_
                    refine q_aload gg153_0 rfl ?_
                    refine q_getr gg153_1 rfl ?_
                    refine z_const gg153_4 (v := 4) rfl ?_
                    refine z_const gg153_5 (v := 7) rfl ?_
                    refine q_iload gg153_7 rfl ?_
                    first | refine z_imul gg153_8 ?_ | refine q_imul gg153_8 ?_
                    first | refine z_iadd gg153_9 ?_ | refine q_iadd gg153_9 ?_
                    refine z_const gg153_10 (v := 5) rfl ?_
                    first | refine z_iadd gg153_11 ?_ | refine q_iadd gg153_11 ?_
                    first | (refine z_alr gg153_12 (by first | rfl | assumption) (by assumption) (by omega) (by omega) (by omega) (by decide) (fun visBurst_12 evisBurst_12 lvisBurst_12 uvisBurst_12 => ?_); try dsimp only at evisBurst_12) | (refine z_alx gg153_12 rfl (by assumption) (by omega) (by omega) (by first | omega | decide) (by decide) (fun visBurst_12 evisBurst_12 lvisBurst_12 uvisBurst_12 => ?_); try dsimp only at evisBurst_12) | refine z_alq gg153_12 rfl (by omega) (by omega) (by decide) ?_
                    refine z_const gg153_13 (v := 1) rfl ?_
                    refine z_icmpne gg153_14 (tg := 21) rfl (by omega) (by omega) (fun c5 => ?_) (fun c5 => ?_)
                    · try (exfalso; omega)
                      all_goals (
                        refine z_const gg153_21 (v := 0) rfl ?_
                        refine z_zretC gg153_22 (by omega) ?_
                        refine z_ifeq gg170_26 (tg := 32) rfl (by decide) (fun _ => ?_) (fun z => absurd z (by decide))
                        refine q_aload gg170_32 rfl ?_
                        refine q_call1 gg170_33 tt165 rfl (Nat.le_of_ble_eq_true rfl) (hm_rv (by decide +kernel)) (ls' := [some _, none]) rfl rfl ?_
                        refine r_notes hf hA hW (fun M1 hA1 hf1 hf2 => ?_)
                        have h36 : aw (M1 36) 53 0 20000 w := by rw [hf1 36 (by decide) (by decide)]; exact hf
                        show hm_Wp _ _ _ _ _ _ _
                        have hok : okP w b n := ⟨b0, b1, y0, y1, by omega⟩
                        refine hm_Wp.eqM (hm_row_self M1 36).symm ?_
                        refine z_const gg170_36 (v := 4) rfl ?_
                        refine z_const gg170_37 (v := 7) rfl ?_
                        refine q_iload gg170_39 rfl ?_
                        first | refine z_imul gg170_40 ?_ | refine q_imul gg170_40 ?_
                        first | refine z_iadd gg170_41 ?_ | refine q_iadd gg170_41 ?_
                        refine z_const gg170_42 (v := 1) rfl ?_
                        first | refine z_iadd gg170_43 ?_ | refine q_iadd gg170_43 ?_
                        refine q_istore gg170_44 rfl ?_
                        refine q_aload gg170_45 rfl ?_
                        refine q_getr gg170_46 rfl ?_
                        refine q_iload gg170_49 rfl ?_
                        refine z_const gg170_50 (v := 20) rfl ?_
                        refine q_aload gg170_52 rfl ?_
                        refine q_getr gg170_53 rfl ?_
                        refine q_iload gg170_56 rfl ?_
                        first | (refine z_alr gg170_57 (by first | rfl | assumption) (by assumption) (by omega) (by omega) (by omega) (by decide) (fun v57 ev57 lv57 uv57 => ?_); try dsimp only at ev57) | (refine z_alx gg170_57 rfl (by assumption) (by omega) (by omega) (by first | omega | decide) (by decide) (fun v57 ev57 lv57 uv57 => ?_); try dsimp only at ev57) | refine z_alq gg170_57 rfl (by omega) (by omega) (by decide) ?_
                        subst ev57
                        refine q_iload gg170_58 rfl ?_
                        first | refine z_iadd gg170_59 ?_ | refine q_iadd gg170_59 ?_
                        refine q_call2 gg170_60 tt127 rfl (Nat.le_of_ble_eq_true rfl) rfl (ls' := [some _, some _]) rfl rfl ?_
                        refine q_iload gg127_0 rfl ?_
                        refine q_iload gg127_1 rfl ?_
                        refine z_icmpge gg127_2 (tg := 9) rfl (by omega) (by omega) (fun c1 => ?_) (fun c1 => ?_)
                        · try (exfalso; omega)
                          all_goals (
                            refine q_iload gg127_9 rfl ?_
                            refine q_iretC gg127_10 ?_
                            first
                            | rw [show (20 : Int) = min 20 (w (4 + 7 * b + 1) + n) by omega]
                            | rw [show w (4 + 7 * b + 1) + n = min 20 (w (4 + 7 * b + 1) + n) by omega]
                            first | refine z_asr gg170_63 (by first | rfl | assumption) (by assumption) (by omega) (by omega) (by decide) (by omega) (by omega) (fun f63 h63 => ?_) | refine z_asx gg170_63 rfl (by omega) (by omega) (by decide) ?_ | refine z_asq gg170_63 rfl (by omega) (by omega) (by decide) ?_
                            refine q_aload gg170_64 rfl ?_
                            refine q_getr gg170_65 rfl ?_
                            refine q_iload gg170_68 rfl ?_
                            first | (refine z_alr gg170_69 (by first | rfl | assumption) (by assumption) (by omega) (by omega) (by omega) (by decide) (fun v69 ev69 lv69 uv69 => ?_); try dsimp only at ev69) | (refine z_alx gg170_69 rfl (by assumption) (by omega) (by omega) (by first | omega | decide) (by decide) (fun v69 ev69 lv69 uv69 => ?_); try dsimp only at ev69) | refine z_alq gg170_69 rfl (by omega) (by omega) (by decide) ?_
                            refine q_iret gg170_70 ?_
                            have := k1 hok _ (by rw [hm_row_same]; exact h63) (hA1.cg (by rw [hm_row_ne _ _ (by decide)]) (hm_row_ne _ _ (by decide))) ((FAR.nt hf1 hf2).tr FAR.row)
                            rw [aPlums_y hok] at this
                            refine qv ?_ this
                            rw [ev69]
                            simp only [zup, if_true]
                          )
                        · try (exfalso; omega)
                          all_goals (
                            refine q_iload gg127_5 rfl ?_
                            refine q_goto gg127_6 (tg := 10) rfl ?_
                            refine q_iretC gg127_10 ?_
                            first
                            | rw [show (20 : Int) = min 20 (w (4 + 7 * b + 1) + n) by omega]
                            | rw [show w (4 + 7 * b + 1) + n = min 20 (w (4 + 7 * b + 1) + n) by omega]
                            first | refine z_asr gg170_63 (by first | rfl | assumption) (by assumption) (by omega) (by omega) (by decide) (by omega) (by omega) (fun f63 h63 => ?_) | refine z_asx gg170_63 rfl (by omega) (by omega) (by decide) ?_ | refine z_asq gg170_63 rfl (by omega) (by omega) (by decide) ?_
                            refine q_aload gg170_64 rfl ?_
                            refine q_getr gg170_65 rfl ?_
                            refine q_iload gg170_68 rfl ?_
                            first | (refine z_alr gg170_69 (by first | rfl | assumption) (by assumption) (by omega) (by omega) (by omega) (by decide) (fun v69 ev69 lv69 uv69 => ?_); try dsimp only at ev69) | (refine z_alx gg170_69 rfl (by assumption) (by omega) (by omega) (by first | omega | decide) (by decide) (fun v69 ev69 lv69 uv69 => ?_); try dsimp only at ev69) | refine z_alq gg170_69 rfl (by omega) (by omega) (by decide) ?_
                            refine q_iret gg170_70 ?_
                            have := k1 hok _ (by rw [hm_row_same]; exact h63) (hA1.cg (by rw [hm_row_ne _ _ (by decide)]) (hm_row_ne _ _ (by decide))) ((FAR.nt hf1 hf2).tr FAR.row)
                            rw [aPlums_y hok] at this
                            refine qv ?_ this
                            rw [ev69]
                            simp only [zup, if_true]
                          )
                      )
                    · try (exfalso; omega)
                      all_goals (
                        refine z_const gg153_17 (v := 1) rfl ?_
                        refine q_goto gg153_18 (tg := 22) rfl ?_
                        refine z_zretC gg153_22 (by omega) ?_
                        refine z_ifeq gg170_26 (tg := 32) rfl (by decide) (fun z => absurd z (by decide)) (fun _ => ?_)
                        refine z_neg gg170_29 ?_
                        refine q_iret gg170_31 ?_
                        refine qv ?_ (k0 (by unfold okP; omega))
                        unfold aPlums
                        rw [if_pos ⟨b0, b1, y0, y1⟩, if_neg (by omega)]
                      )
                  )
              )
          )
      )
  · refine q_aload gg170_0 rfl ?_
    refine q_iload gg170_1 rfl ?_
    refine q_call2 gg170_2 tt152 rfl (Nat.le_of_ble_eq_true rfl) (hm_rv (by decide +kernel)) (ls' := [some _, some _]) rfl rfl ?_
    refine q_iload gg152_0 rfl ?_
    refine z_const gg152_1 (v := 0) rfl ?_
    refine q_aload gg152_2 rfl ?_
    refine q_getr gg152_3 rfl ?_
    refine z_const gg152_6 (v := 2) rfl ?_
    first | (refine z_alr gg152_7 (by first | rfl | assumption) (by assumption) (by omega) (by omega) (by omega) (by decide) (fun visBasin_7 evisBasin_7 lvisBasin_7 uvisBasin_7 => ?_); try dsimp only at evisBasin_7) | (refine z_alx gg152_7 rfl (by assumption) (by omega) (by omega) (by first | omega | decide) (by decide) (fun visBasin_7 evisBasin_7 lvisBasin_7 uvisBasin_7 => ?_); try dsimp only at evisBasin_7) | refine z_alq gg152_7 rfl (by omega) (by omega) (by decide) ?_
    refine z_const gg152_8 (v := 1) rfl ?_
    first | refine z_isub gg152_9 ?_ | refine q_isub gg152_9 ?_
    refine q_call3 gg152_10 tt124 rfl (Nat.le_of_ble_eq_true rfl) rfl (ls' := [some _, some _, some _]) rfl rfl ?_
    refine q_iload gg124_0 rfl ?_
    refine q_iload gg124_1 rfl ?_
    refine z_icmplt gg124_2 (tg := 14) rfl (by omega) (by omega) (fun c1 => ?_) (fun c1 => ?_)
    · try (exfalso; omega)
      all_goals (
        refine z_const gg124_14 (v := 0) rfl ?_
        refine z_zretC gg124_15 (by omega) ?_
        refine z_zretC gg152_13 (by omega) ?_
        refine z_ifeq gg170_5 (tg := 18) rfl (by decide) (fun _ => ?_) (fun z => absurd z (by decide))
        refine z_neg gg170_18 ?_
        refine q_iret gg170_20 ?_
        refine qv ?_ (k0 (by unfold okP; omega))
        unfold aPlums
        rw [if_neg (by omega)]
      )
    · try (exfalso; omega)
      all_goals (
        refine q_iload gg124_5 rfl ?_
        refine q_iload gg124_6 rfl ?_
        refine z_icmpgt gg124_7 (tg := 14) rfl (by omega) (by omega) (fun c2 => ?_) (fun c2 => ?_)
        · try (exfalso; omega)
          all_goals (
            refine z_const gg124_14 (v := 0) rfl ?_
            refine z_zretC gg124_15 (by omega) ?_
            refine z_zretC gg152_13 (by omega) ?_
            refine z_ifeq gg170_5 (tg := 18) rfl (by decide) (fun _ => ?_) (fun z => absurd z (by decide))
            refine z_neg gg170_18 ?_
            refine q_iret gg170_20 ?_
            refine qv ?_ (k0 (by unfold okP; omega))
            unfold aPlums
            rw [if_neg (by omega)]
          )
        · try (exfalso; omega)
          all_goals (
            refine z_const gg124_10 (v := 1) rfl ?_
            refine q_goto gg124_11 (tg := 15) rfl ?_
            refine z_zretC gg124_15 (by omega) ?_
            refine z_zretC gg152_13 (by omega) ?_
            refine z_ifeq gg170_5 (tg := 18) rfl (by decide) (fun z => absurd z (by decide)) (fun _ => ?_)
            refine q_iload gg170_8 rfl ?_
            refine z_const gg170_9 (v := 1) rfl ?_
            refine z_const gg170_10 (v := 20) rfl ?_
            refine q_call3 gg170_12 tt124 rfl (Nat.le_of_ble_eq_true rfl) rfl (ls' := [some _, some _, some _]) rfl rfl ?_
            refine q_iload gg124_0 rfl ?_
            refine q_iload gg124_1 rfl ?_
            refine z_icmplt gg124_2 (tg := 14) rfl (by omega) (by omega) (fun c3 => ?_) (fun c3 => ?_)
            · try (exfalso; omega)
              all_goals (
                refine z_const gg124_14 (v := 0) rfl ?_
                refine z_zretC gg124_15 (by omega) ?_
                refine z_ifne gg170_15 (tg := 21) rfl (by decide) (fun z => absurd z (by decide)) (fun _ => ?_)
                refine z_neg gg170_18 ?_
                refine q_iret gg170_20 ?_
                refine qv ?_ (k0 (by unfold okP; omega))
                unfold aPlums
                rw [if_neg (by omega)]
              )
            · try (exfalso; omega)
              all_goals (
                refine q_iload gg124_5 rfl ?_
                refine q_iload gg124_6 rfl ?_
                refine z_icmpgt gg124_7 (tg := 14) rfl (by omega) (by omega) (fun c4 => ?_) (fun c4 => ?_)
                · try (exfalso; omega)
                  all_goals (
                    refine z_const gg124_14 (v := 0) rfl ?_
                    refine z_zretC gg124_15 (by omega) ?_
                    refine z_ifne gg170_15 (tg := 21) rfl (by decide) (fun z => absurd z (by decide)) (fun _ => ?_)
                    refine z_neg gg170_18 ?_
                    refine q_iret gg170_20 ?_
                    refine qv ?_ (k0 (by unfold okP; omega))
                    unfold aPlums
                    rw [if_neg (by omega)]
                  )
                · try (exfalso; omega)
                  all_goals (
                    refine z_const gg124_10 (v := 1) rfl ?_
                    refine q_goto gg124_11 (tg := 15) rfl ?_
                    refine z_zretC gg124_15 (by omega) ?_
                    refine z_ifne gg170_15 (tg := 21) rfl (by decide) (fun _ => ?_) (fun z => absurd z (by decide))
                    exfalso
                    omega
                  )
              )
          )
      )
/-! heat -/
def okT (w : Int → Int) (y : Int) : Prop := w 2 ≠ 0 ∧ 0 ≤ y ∧ y ≤ 9
def aHeat (w : Int → Int) (y : Int) : Int := if w 2 = 0 then -1000002 else if 0 ≤ y ∧ y ≤ 9 then w 0 else -1000001
theorem aHeat_y (h : okT w y) : aHeat w y = w 0 := by unfold aHeat; rw [if_neg h.1, if_pos h.2]
theorem gW_ht (h : gW w) (hy0 : 0 ≤ y) (hy : y ≤ 9) : gW (zup w 0 y) := ⟨mWf_heat h.1 hy0 hy, by simp only [zup]; rw [if_neg (by decide), if_neg (by decide)]; exact h.2.1, by simp only [zup]; rw [if_neg (by decide)]; exact h.2.2⟩
theorem c_heat (hy : zR y) (h : Hb M 7 w) (hw : gW w) (hA : AC M pa na) (hW : AW pa na) (k0 : ¬ okT w y → Q (some (.inl (zI (aHeat w y)))) M) (k1 : okT w y → ∀ M', Hb M' 7 (zup w 0 y) → AC M' (paK pa na w) (naK na) → FA M M' → Q (some (.inl (zI (aHeat w y)))) M') : hm_Wp (d + 6) 96 0 [some (.inr (.inr 0)), some (.inl (zI y)), none] [] M Q := by
  have hn := hw.1.1.1
  have h4 := h.1.1
  unfold zR at hy
  refine q_aload gg96_0 rfl ?_
  refine q_getr gg96_1 rfl ?_
  refine q_call1 gg96_4 tt31 rfl (Nat.le_of_ble_eq_true rfl) (hm_rv (by decide +kernel)) (ls' := [some _]) rfl rfl ?_
  refine q_aload gg31_0 rfl ?_
  first | refine z_getf gg31_1 rfl (by assumption) ?_ | refine q_getf gg31_1 rfl ?_
  refine z_ifne gg31_4 (tg := 11) rfl (by omega) (fun c1 => ?_) (fun c1 => ?_)
  · try (exfalso; omega)
    all_goals (
      refine z_const gg31_11 (v := 0) rfl ?_
      refine z_zretC gg31_12 (by omega) ?_
      refine z_ifeq gg96_7 (tg := 13) rfl (by decide) (fun _ => ?_) (fun z => absurd z (by decide))
      refine q_iload gg96_13 rfl ?_
      refine z_iflt gg96_14 (tg := 23) rfl (by omega) (fun c2 => ?_) (fun c2 => ?_)
      · try (exfalso; omega)
        all_goals (
          refine z_neg gg96_23 ?_
          refine q_iret gg96_25 ?_
          refine qv ?_ (k0 (by unfold okT; omega))
          unfold aHeat
          rw [if_neg (by omega), if_neg (by omega)]
        )
      · try (exfalso; omega)
        all_goals (
          refine q_iload gg96_17 rfl ?_
          refine z_const gg96_18 (v := 9) rfl ?_
          refine z_icmple gg96_20 (tg := 26) rfl (by omega) (by omega) (fun c3 => ?_) (fun c3 => ?_)
          · try (exfalso; omega)
            all_goals (
              refine q_aload gg96_26 rfl ?_
              refine q_getr gg96_27 rfl ?_
              refine q_aload gg96_30 rfl ?_
              refine q_getr gg96_31 rfl ?_
              refine q_call2 gg96_34 tt0 rfl (Nat.le_of_ble_eq_true rfl) (hm_rv (by decide +kernel)) (ls' := [some _, some _]) rfl rfl ?_
              refine c_keep h hw hA hW (fun M1 hA1 hf1 => ?_)
              have h1 := h.kp hf1
              have g5 := h1.1.2.1
              show hm_Wp _ _ _ _ _ _ _
              refine q_aload gg96_37 rfl ?_
              refine q_getr gg96_38 rfl ?_
              first | refine z_getf gg96_41 rfl (by assumption) ?_ | refine q_getf gg96_41 rfl ?_
              refine q_istore gg96_44 rfl ?_
              refine q_aload gg96_45 rfl ?_
              refine q_getr gg96_46 rfl ?_
              refine q_iload gg96_49 rfl ?_
              refine q_putf gg96_50 rfl ?_
              refine q_iload gg96_53 rfl ?_
              refine q_iret gg96_54 ?_
              have hok : okT w y := ⟨by omega, by omega, by omega⟩
              have := k1 hok _ (Hb_f01 (i := 0) (j := 5) (x := y) (by omega) h1) (hA1.cg (by unfold hm_up; rw [hm_row_ne _ _ (by decide)]) (by unfold hm_up; rw [hm_row_ne _ _ (by decide)])) ((FA.kp hf1).tr (FA.fr (Fr.row (r := 7) (q := 7) (M := M1) (by decide) (by decide))))
              rw [aHeat_y hok] at this
              exact this
            )
          · try (exfalso; omega)
            all_goals (
              refine z_neg gg96_23 ?_
              refine q_iret gg96_25 ?_
              refine qv ?_ (k0 (by unfold okT; omega))
              unfold aHeat
              rw [if_neg (by omega), if_neg (by omega)]
            )
        )
    )
  · try (exfalso; omega)
    all_goals (
      refine z_const gg31_7 (v := 1) rfl ?_
      refine q_goto gg31_8 (tg := 12) rfl ?_
      refine z_zretC gg31_12 (by omega) ?_
      refine z_ifeq gg96_7 (tg := 13) rfl (by decide) (fun z => absurd z (by decide)) (fun _ => ?_)
      refine z_neg gg96_10 ?_
      refine q_iret gg96_12 ?_
      refine qv ?_ (k0 (by unfold okT; omega))
      unfold aHeat
      rw [if_pos (by omega)]
    )
theorem r_heat (hy : zR y) (hf : aw (M 36) 53 0 20000 w) (hw : gW w) (hA : AR M pa na) (hW : AW pa na) (k0 : ¬ okT w y → Q (some (.inl (zI (aHeat w y)))) M) (k1 : okT w y → ∀ M', aw (M' 36) 53 0 20000 (zup w 0 y) → AR M' (paK pa na w) (naK na) → FAR M M' → Q (some (.inl (zI (aHeat w y)))) M') : hm_Wp (d + 6) 171 0 [some (.inr (.inr 30)), some (.inl (zI y)), none] [] M Q := by
  have hn := hw.1.1.1
  have hc := hw.2.1
  unfold zR at hy
  refine q_aload gg171_0 rfl ?_
  refine q_call1 gg171_1 tt151 rfl (Nat.le_of_ble_eq_true rfl) (hm_rv (by decide +kernel)) (ls' := [some _]) rfl rfl ?_
  refine q_aload gg151_0 rfl ?_
  refine q_getr gg151_1 rfl ?_
  refine z_const gg151_4 (v := 1) rfl ?_
  first | (refine z_alr gg151_5 (by first | rfl | assumption) (by assumption) (by omega) (by omega) (by omega) (by decide) (fun visHob_5 evisHob_5 lvisHob_5 uvisHob_5 => ?_); try dsimp only at evisHob_5) | (refine z_alx gg151_5 rfl (by assumption) (by omega) (by omega) (by first | omega | decide) (by decide) (fun visHob_5 evisHob_5 lvisHob_5 uvisHob_5 => ?_); try dsimp only at evisHob_5) | refine z_alq gg151_5 rfl (by omega) (by omega) (by decide) ?_
  refine z_ifle gg151_6 (tg := 13) rfl (by omega) (fun c1 => ?_) (fun c1 => ?_)
  · try (exfalso; omega)
    all_goals (
      refine z_const gg151_13 (v := 0) rfl ?_
      refine z_zretC gg151_14 (by omega) ?_
      refine z_ifne gg171_4 (tg := 10) rfl (by decide) (fun z => absurd z (by decide)) (fun _ => ?_)
      refine z_neg gg171_7 ?_
      refine q_iret gg171_9 ?_
      refine qv ?_ (k0 (by unfold okT; omega))
      unfold aHeat
      rw [if_pos (by omega)]
    )
  · try (exfalso; omega)
    all_goals (
      refine z_const gg151_9 (v := 1) rfl ?_
      refine q_goto gg151_10 (tg := 14) rfl ?_
      refine z_zretC gg151_14 (by omega) ?_
      refine z_ifne gg171_4 (tg := 10) rfl (by decide) (fun _ => ?_) (fun z => absurd z (by decide))
      refine q_iload gg171_10 rfl ?_
      refine z_const gg171_11 (v := 0) rfl ?_
      refine z_const gg171_12 (v := 9) rfl ?_
      refine q_call3 gg171_14 tt124 rfl (Nat.le_of_ble_eq_true rfl) rfl (ls' := [some _, some _, some _]) rfl rfl ?_
      refine q_iload gg124_0 rfl ?_
      refine q_iload gg124_1 rfl ?_
      refine z_icmplt gg124_2 (tg := 14) rfl (by omega) (by omega) (fun c2 => ?_) (fun c2 => ?_)
      · try (exfalso; omega)
        all_goals (
          refine z_const gg124_14 (v := 0) rfl ?_
          refine z_zretC gg124_15 (by omega) ?_
          refine z_ifne gg171_17 (tg := 23) rfl (by decide) (fun z => absurd z (by decide)) (fun _ => ?_)
          refine z_neg gg171_20 ?_
          refine q_iret gg171_22 ?_
          refine qv ?_ (k0 (by unfold okT; omega))
          unfold aHeat
          rw [if_neg (by omega), if_neg (by omega)]
        )
      · try (exfalso; omega)
        all_goals (
          refine q_iload gg124_5 rfl ?_
          refine q_iload gg124_6 rfl ?_
          refine z_icmpgt gg124_7 (tg := 14) rfl (by omega) (by omega) (fun c3 => ?_) (fun c3 => ?_)
          · try (exfalso; omega)
            all_goals (
              refine z_const gg124_14 (v := 0) rfl ?_
              refine z_zretC gg124_15 (by omega) ?_
              refine z_ifne gg171_17 (tg := 23) rfl (by decide) (fun z => absurd z (by decide)) (fun _ => ?_)
              refine z_neg gg171_20 ?_
              refine q_iret gg171_22 ?_
              refine qv ?_ (k0 (by unfold okT; omega))
              unfold aHeat
              rw [if_neg (by omega), if_neg (by omega)]
            )
          · try (exfalso; omega)
            all_goals (
              refine z_const gg124_10 (v := 1) rfl ?_
              refine q_goto gg124_11 (tg := 15) rfl ?_
              refine z_zretC gg124_15 (by omega) ?_
              refine z_ifne gg171_17 (tg := 23) rfl (by decide) (fun _ => ?_) (fun z => absurd z (by decide))
              refine q_aload gg171_23 rfl ?_
              refine q_call1 gg171_24 tt165 rfl (Nat.le_of_ble_eq_true rfl) (hm_rv (by decide +kernel)) (ls' := [some _, none]) rfl rfl ?_
              refine r_notes hf hA hW (fun M1 hA1 hf1 hf2 => ?_)
              have h36 : aw (M1 36) 53 0 20000 w := by rw [hf1 36 (by decide) (by decide)]; exact hf
              show hm_Wp _ _ _ _ _ _ _
              refine hm_Wp.eqM (hm_row_self M1 36).symm ?_
              refine q_aload gg171_27 rfl ?_
              refine q_getr gg171_28 rfl ?_
              refine z_const gg171_31 (v := 0) rfl ?_
              first | (refine z_alr gg171_32 (by first | rfl | assumption) (by assumption) (by omega) (by omega) (by omega) (by decide) (fun v32 ev32 lv32 uv32 => ?_); try dsimp only at ev32) | (refine z_alx gg171_32 rfl (by assumption) (by omega) (by omega) (by first | omega | decide) (by decide) (fun v32 ev32 lv32 uv32 => ?_); try dsimp only at ev32) | refine z_alq gg171_32 rfl (by omega) (by omega) (by decide) ?_
              refine q_istore gg171_33 rfl ?_
              refine q_aload gg171_34 rfl ?_
              refine q_getr gg171_35 rfl ?_
              refine z_const gg171_38 (v := 0) rfl ?_
              refine q_iload gg171_39 rfl ?_
              first | refine z_asr gg171_40 (by first | rfl | assumption) (by assumption) (by omega) (by omega) (by decide) (by omega) (by omega) (fun f40 h40 => ?_) | refine z_asx gg171_40 rfl (by omega) (by omega) (by decide) ?_ | refine z_asq gg171_40 rfl (by omega) (by omega) (by decide) ?_
              refine q_iload gg171_41 rfl ?_
              refine q_iret gg171_42 ?_
              have hok : okT w y := ⟨by omega, by omega, by omega⟩
              have := k1 hok _ (by rw [hm_row_same]; exact h40) (hA1.cg (by rw [hm_row_ne _ _ (by decide)]) (hm_row_ne _ _ (by decide))) ((FAR.nt hf1 hf2).tr FAR.row)
              rw [aHeat_y hok] at this
              exact qv ev32 this
            )
        )
    )
/-! undo -/
def aUndo (na : Int) : Int := if na = 0 then -1000002 else na - 1
theorem c_undo (hA : AC M pa na) (hW : AW pa na) (k0 : na = 0 → Q (some (.inl (zI (aUndo na)))) M) (k1 : na ≠ 0 → ∀ M', Hb M' 7 (pa (na - 1)) → AC M' pa (na - 1) → FA M M' → Q (some (.inl (zI (aUndo na)))) M') : hm_Wp (d + 6) 97 0 [some (.inr (.inr 0))] [] M Q := by
  refine q_aload gg97_0 rfl ?_
  refine q_getr gg97_1 rfl ?_
  refine q_aload gg97_4 rfl ?_
  refine q_getr gg97_5 rfl ?_
  refine q_call2 gg97_8 tt1 rfl (Nat.le_of_ble_eq_true rfl) (hm_rv (by decide +kernel)) (ls' := [some _, some _]) rfl rfl ?_
  refine c_takeBack hA hW (fun h0 => ?_) (fun h0 M1 h1 hA1 hf1 => ?_)
  all_goals (try (obtain ⟨nx1, hx0, hx1, hx2, hx3, hx4⟩ := hA1))
  · show hm_Wp _ _ _ _ (_ :: _) _ _
    refine z_ifeq gg97_11 (tg := 24) rfl (by decide) (fun _ => ?_) (fun z => absurd z (by decide))
    refine z_neg gg97_24 ?_
    refine q_iret gg97_26 ?_
    first | (refine qv ?_ (k0 h0); unfold aUndo; rw [if_pos h0]; done) | (refine qv ?_ (k1 h0 M1 h1 ⟨nx1, hx0, hx1, hx2, hx3, hx4⟩ (fun k a b c => hf1 k a b)); unfold aUndo; rw [if_neg h0]; done)
  · show hm_Wp _ _ _ _ (_ :: _) _ _
    refine z_ifeq gg97_11 (tg := 24) rfl (by decide) (fun z => absurd z (by decide)) (fun _ => ?_)
    refine q_aload gg97_14 rfl ?_
    refine q_getr gg97_15 rfl ?_
    refine q_call1 gg97_18 tt3 rfl (Nat.le_of_ble_eq_true rfl) (hm_rv (by decide +kernel)) (ls' := [some _]) rfl rfl ?_
    refine q_aload gg3_0 rfl ?_
    first | refine z_getf gg3_1 rfl (by assumption) ?_ | refine q_getf gg3_1 rfl ?_
    refine q_iretC gg3_4 ?_
    refine q_goto gg97_21 (tg := 26) rfl ?_
    refine q_iret gg97_26 ?_
    first | (refine qv ?_ (k0 h0); unfold aUndo; rw [if_pos h0]; done) | (refine qv ?_ (k1 h0 M1 h1 ⟨nx1, hx0, hx1, hx2, hx3, hx4⟩ (fun k a b c => hf1 k a b)); unfold aUndo; rw [if_neg h0]; done)
theorem r_undo (hA : AR M pa na) (hW : AW pa na) (k0 : na = 0 → Q (some (.inl (zI (aUndo na)))) M) (k1 : na ≠ 0 → ∀ M', aw (M' 36) 53 0 20000 (pa (na - 1)) → AR M' pa (na - 1) → FAR M M' → Q (some (.inl (zI (aUndo na)))) M') : hm_Wp (d + 6) 172 0 [some (.inr (.inr 30))] [] M Q := by
  obtain ⟨e17, ep⟩ := hA
  obtain ⟨a0, a1, a2⟩ := hW
  refine q_aload gg172_0 rfl ?_
  first | refine z_getf gg172_1 rfl (by assumption) ?_ | refine q_getf gg172_1 rfl ?_
  refine z_ifne gg172_4 (tg := 10) rfl (by omega) (fun c1 => ?_) (fun c1 => ?_)
  · try (exfalso; omega)
    all_goals (
      refine q_aload gg172_10 rfl ?_
      refine q_dup gg172_11 rfl ?_
      first | refine z_getf gg172_12 rfl (by assumption) ?_ | refine q_getf gg172_12 rfl ?_
      refine z_const gg172_15 (v := 1) rfl ?_
      first | refine z_isub gg172_16 ?_ | refine q_isub gg172_16 ?_
      refine q_putf gg172_17 rfl ?_
      have e17' : hm_up M 30 17 (zI (na - 1)) 30 17 = zI (na - 1) := up_at
      refine q_aload gg172_20 rfl ?_
      refine q_getr gg172_21 rfl ?_
      refine z_const gg172_24 (v := 53) rfl ?_
      refine q_aload gg172_26 rfl ?_
      first | refine z_getf gg172_27 rfl (by assumption) ?_ | refine q_getf gg172_27 rfl ?_
      first | refine z_imul gg172_30 ?_ | refine q_imul gg172_30 ?_
      refine q_aload gg172_31 rfl ?_
      refine q_getr gg172_32 rfl ?_
      refine z_const gg172_35 (v := 0) rfl ?_
      refine q_call4 gg172_36 tt130 rfl (Nat.le_of_ble_eq_true rfl) rfl (ls' := [some _, some _, some _, some _, none]) rfl rfl ?_
      refine r_copies2 rfl rfl (by decide) (by omega) (by omega) (by decide) (by decide) (by decide) (by decide) (fun f' hf' => ?_)
      show hm_Wp _ _ _ _ _ _ _
      have e17'' : hm_row (hm_up M 30 17 (zI (na - 1))) 36 f' 30 17 = zI (na - 1) := e17'
      have hbd := (a2 (na - 1) (by omega) (by omega)).1.2.1
      refine q_aload gg172_39 rfl ?_
      first | refine z_getf gg172_40 rfl (by assumption) ?_ | refine q_getf gg172_40 rfl ?_
      refine q_iret gg172_43 ?_
      refine qv ?_ (k1 (by omega) _ ?_ ⟨e17'', fun j i j0 j1 i0 i1 => ep j i j0 (by omega) i0 i1⟩ ⟨fun k h0 h1 h2 => by unfold hm_up; rw [hm_row_ne _ _ h1, hm_row_ne _ _ h0], fun j hj => ?_⟩)
      · unfold aUndo; rw [if_neg (by omega)]
      · rw [hm_row_same]
        refine fun i i0 i1 => ⟨?_, hbd i i0 i1⟩
        rw [hf' i i0, if_pos (by omega), show 53 * (na - 1) + i - 0 = 53 * (na - 1) + i by omega]
        exact ep (na - 1) i (by omega) (by omega) i0 i1
      · rw [hm_row_ne _ _ (by decide)]; unfold hm_up; rw [hm_row_same]; simp only [upd]; rw [if_neg hj]
    )
  · try (exfalso; omega)
    all_goals (
      refine z_neg gg172_7 ?_
      refine q_iret gg172_9 ?_
      refine qv ?_ (k0 (by omega))
      unfold aUndo
      rw [if_pos (by omega)]
    )
end A4
