section K3
variable {d r mid pc nx k dd : Nat} {M N : hm_M} {w v w0 g ln lg it tp : Int → Int} {b n e x a s y c q i p tn K st na tl fk : Int} {f F : Nat → Int32} {pa : Int → Int → Int} {Q : Option hm_V → hm_M → Prop} {l : List (Int × Nat)} {ls : hm_L} {sk : List hm_V}
theorem r_ask (hz : zR b) (hy : zR y) (hf : aw (M 36) 53 0 20000 w) (hw : mWf w) (k0 : ¬ okA w b y → Q (some (.inl (zI (aAsk w b y)))) M) (k1 : okA w b y → ∀ M', KR M' (tcat (fun _ => 0) 0 (askL (w (4 + 7 * b)) y)) (askN (w (4 + 7 * b)) y) → FKR M M' → Q (some (.inl (zI (aAsk w b y)))) M') : hm_Wp (d + 7) 202 0 [some (.inr (.inr 30)), some (.inl (zI b)), some (.inl (zI y)), none] [] M Q := by
  have hn := hw.1.1
  unfold zR at hz hy
  have hE : aAsk w b y = if 0 ≤ b ∧ b < w 2 ∧ 0 ≤ y ∧ y ≤ 1 then askV w b (w (4 + 7 * b)) y else -1000001 := rfl
  have hF0 : FKR M (hm_up M 30 21 (zI 0)) := ⟨fun k h0 h1 => by unfold hm_up; rw [hm_row_ne _ _ h0], fun j hj => by unfold hm_up; rw [hm_row_same]; simp only [upd]; rw [if_neg hj]⟩
  have hK0 : KR (hm_up M 30 21 (zI 0)) (fun _ => 0) 0 := ⟨up_at, fun i i0 i1 => by omega⟩
  by_cases hin : 0 ≤ b ∧ b < w 2 ∧ 0 ≤ y ∧ y ≤ 1
  · have k2 := k1 hin
    rw [if_pos hin] at hE
    rw [hE] at k2
    obtain ⟨b0, b1, y0, y1⟩ := hin
    have hkk := hw.2.2.1 b b0 b1
    have hf0 : aw (hm_up M 30 21 (zI 0) 36) 53 0 20000 w := hf
    generalize hM0 : hm_up M 30 21 (zI 0) = M0 at hF0 hK0 hf0
    have go : hm_Wp (d + 7) 202 25 [some (.inr (.inr 30)), some (.inl (zI b)), some (.inl (zI y)), none] [] M0 Q := by
      have hk5 : w (4 + 7 * b) = 1 ∨ w (4 + 7 * b) = 2 ∨ w (4 + 7 * b) = 3 ∨ w (4 + 7 * b) = 4 ∨ w (4 + 7 * b) = 5 := by omega
      have hy01 : y = 0 ∨ y = 1 := by omega
      rcases hk5 with hk | hk | hk | hk | hk <;> rcases hy01 with rfl | rfl <;> rw [hk] at k2
      all_goals (
        refine q_aload gg202_25 rfl ?_
        refine q_iload gg202_26 rfl ?_
        refine q_call2 gg202_27 tt194 rfl (Nat.le_of_ble_eq_true rfl) (hm_rv (by decide +kernel)) (ls' := [some _, some _]) rfl rfl ?_
        refine q_aload gg194_0 rfl ?_
        refine q_getr gg194_1 rfl ?_
        refine z_const gg194_4 (v := 4) rfl ?_
        refine z_const gg194_5 (v := 7) rfl ?_
        refine q_iload gg194_7 rfl ?_
        first | refine z_imul gg194_8 ?_ | refine q_imul gg194_8 ?_
        first | refine z_iadd gg194_9 ?_ | refine q_iadd gg194_9 ?_
        first | (refine z_alr gg194_10 (by first | rfl | assumption) (by assumption) (by omega) (by omega) (by omega) (by decide) (fun vkindIn_10 evkindIn_10 lvkindIn_10 uvkindIn_10 => ?_); try dsimp only at evkindIn_10) | (refine z_alx gg194_10 rfl (by assumption) (by omega) (by omega) (by first | omega | decide) (by decide) (fun vkindIn_10 evkindIn_10 lvkindIn_10 uvkindIn_10 => ?_); try dsimp only at evkindIn_10) | refine z_alq gg194_10 rfl (by omega) (by omega) (by decide) ?_
        refine q_iretC gg194_11 ?_
        refine z_const gg202_30 (v := 4) rfl ?_
        refine z_icmplt gg202_31 (tg := 38) rfl (by omega) (by omega) (fun c1 => ?_) (fun c1 => ?_)
        · try (exfalso; omega)
          all_goals (
            refine z_const gg202_38 (v := 0) rfl ?_
            refine q_istore gg202_39 rfl ?_
            refine q_iload gg202_40 rfl ?_
            refine z_ifne gg202_41 (tg := 62) rfl (by omega) (fun c2 => ?_) (fun c2 => ?_)
            · try (exfalso; omega)
              all_goals (
                refine q_iload gg202_62 rfl ?_
                refine z_ifeq gg202_63 (tg := 74) rfl (by decide) (fun _ => ?_) (fun z => absurd z (by decide))
                refine q_aload gg202_74 rfl ?_
                refine q_iload gg202_75 rfl ?_
                refine q_call2 gg202_76 tt198 rfl (Nat.le_of_ble_eq_true rfl) (hm_rv (by decide +kernel)) (ls' := [some _, some _, none, none]) rfl rfl ?_
                refine q_aload gg198_0 rfl ?_
                refine q_iload gg198_1 rfl ?_
                refine q_call2 gg198_2 tt194 rfl (Nat.le_of_ble_eq_true rfl) (hm_rv (by decide +kernel)) (ls' := [some _, some _]) rfl rfl ?_
                refine q_aload gg194_0 rfl ?_
                refine q_getr gg194_1 rfl ?_
                refine z_const gg194_4 (v := 4) rfl ?_
                refine z_const gg194_5 (v := 7) rfl ?_
                refine q_iload gg194_7 rfl ?_
                first | refine z_imul gg194_8 ?_ | refine q_imul gg194_8 ?_
                first | refine z_iadd gg194_9 ?_ | refine q_iadd gg194_9 ?_
                first | (refine z_alr gg194_10 (by first | rfl | assumption) (by assumption) (by omega) (by omega) (by omega) (by decide) (fun vkindIn_10 evkindIn_10 lvkindIn_10 uvkindIn_10 => ?_); try dsimp only at evkindIn_10) | (refine z_alx gg194_10 rfl (by assumption) (by omega) (by omega) (by first | omega | decide) (by decide) (fun vkindIn_10 evkindIn_10 lvkindIn_10 uvkindIn_10 => ?_); try dsimp only at evkindIn_10) | refine z_alq gg194_10 rfl (by omega) (by omega) (by decide) ?_
                refine q_iretC gg194_11 ?_
                refine q_istore gg198_5 rfl ?_
                refine q_iload gg198_6 rfl ?_
                refine z_const gg198_7 (v := 1) rfl ?_
                refine z_icmpeq gg198_8 (tg := 27) rfl (by omega) (by omega) (fun c3 => ?_) (fun c3 => ?_)
                · try (exfalso; omega)
                  all_goals (
                    refine q_aload gg198_27 rfl ?_
                    refine z_const gg198_28 (v := 21) rfl ?_
                    refine q_call2 gg198_30 tt197 rfl (Nat.le_of_ble_eq_true rfl) (hm_rv (by decide +kernel)) (ls' := [some _, some _]) rfl rfl ?_
                    refine r_begins (by assumption) (by decide) (by decide) (by decide) (by decide) (fun M1 hK1 hF1 => ?_)
                    have hF0 := FKR.tr (by assumption) hF1
                    have hf1 : aw (M1 36) 53 0 20000 w := by rw [hF1.1 36 (by decide) (by decide)]; assumption
                    show hm_Wp _ _ _ _ _ _ _
                    refine q_aload gg198_33 rfl ?_
                    refine z_const gg198_34 (v := 20) rfl ?_
                    refine q_call2 gg198_36 tt197 rfl (Nat.le_of_ble_eq_true rfl) (hm_rv (by decide +kernel)) (ls' := [some _, some _]) rfl rfl ?_
                    refine r_begins (by assumption) (by decide) (by decide) (by decide) (by decide) (fun M1 hK1 hF1 => ?_)
                    have hF0 := FKR.tr (by assumption) hF1
                    have hf1 : aw (M1 36) 53 0 20000 w := by rw [hF1.1 36 (by decide) (by decide)]; assumption
                    show hm_Wp _ _ _ _ _ _ _
                    refine q_iload gg198_39 rfl ?_
                    refine q_aload gg198_40 rfl ?_
                    refine q_getr gg198_41 rfl ?_
                    refine z_const gg198_44 (v := 4) rfl ?_
                    refine z_const gg198_45 (v := 7) rfl ?_
                    refine q_iload gg198_47 rfl ?_
                    first | refine z_imul gg198_48 ?_ | refine q_imul gg198_48 ?_
                    first | refine z_iadd gg198_49 ?_ | refine q_iadd gg198_49 ?_
                    refine z_const gg198_50 (v := 2) rfl ?_
                    first | refine z_iadd gg198_51 ?_ | refine q_iadd gg198_51 ?_
                    first | (refine z_alr gg198_52 (by first | rfl | assumption) (by assumption) (by omega) (by omega) (by omega) (by decide) (fun vplainMark_52 evplainMark_52 lvplainMark_52 uvplainMark_52 => ?_); try dsimp only at evplainMark_52) | (refine z_alx gg198_52 rfl (by assumption) (by omega) (by omega) (by first | omega | decide) (by decide) (fun vplainMark_52 evplainMark_52 lvplainMark_52 uvplainMark_52 => ?_); try dsimp only at evplainMark_52) | refine z_alq gg198_52 rfl (by omega) (by omega) (by decide) ?_
                    first | refine z_iadd gg198_53 ?_ | refine q_iadd gg198_53 ?_
                    refine q_istore gg198_54 rfl ?_
                    refine q_iload gg198_55 rfl ?_
                    refine z_const gg198_56 (v := 2) rfl ?_
                    refine z_icmpne gg198_57 (tg := 66) rfl (by omega) (by omega) (fun c4 => ?_) (fun c4 => ?_)
                    · try (exfalso; omega)
                      all_goals (
                        refine q_iload gg198_66 rfl ?_
                        refine z_const gg198_67 (v := 3) rfl ?_
                        refine z_icmpne gg198_68 (tg := 79) rfl (by omega) (by omega) (fun c5 => ?_) (fun c5 => ?_)
                        · try (exfalso; omega)
                          all_goals (
                            refine q_iload gg198_79 rfl ?_
                            refine q_iretC gg198_80 ?_
                            refine q_iret gg202_79 ?_
                            refine qv ?_ (k2 _ (by assumption) (by assumption))
                            simp only [askV]
                            subst_vars
                            first | omega | (simp; omega) | simp
                          )
                        · try (exfalso; omega)
                          all_goals (
                            refine q_iload gg198_71 rfl ?_
                            refine z_const gg198_72 (v := 1000) rfl ?_
                            first | refine z_isub gg198_75 ?_ | refine q_isub gg198_75 ?_
                            refine q_goto gg198_76 (tg := 80) rfl ?_
                            refine q_iretC gg198_80 ?_
                            refine q_iret gg202_79 ?_
                            refine qv ?_ (k2 _ (by assumption) (by assumption))
                            simp only [askV]
                            subst_vars
                            first | omega | (simp; omega) | simp
                          )
                      )
                    · try (exfalso; omega)
                      all_goals (
                        refine z_const gg198_60 (v := 2) rfl ?_
                        refine q_iload gg198_61 rfl ?_
                        first | refine z_imul gg198_62 ?_ | refine q_imul gg198_62 ?_
                        refine q_goto gg198_63 (tg := 80) rfl ?_
                        refine q_iretC gg198_80 ?_
                        refine q_iret gg202_79 ?_
                        refine qv ?_ (k2 _ (by assumption) (by assumption))
                        simp only [askV]
                        subst_vars
                        first | omega | (simp; omega) | simp
                      )
                  )
                · try (exfalso; omega)
                  all_goals (
                    refine q_aload gg198_11 rfl ?_
                    refine q_iload gg198_12 rfl ?_
                    refine z_const gg198_13 (v := 2) rfl ?_
                    refine z_icmpne gg198_14 (tg := 22) rfl (by omega) (by omega) (fun c4 => ?_) (fun c4 => ?_)
                    · try (exfalso; omega)
                      all_goals (
                        refine z_const gg198_22 (v := 22) rfl ?_
                        refine q_call2 gg198_24 tt197 rfl (Nat.le_of_ble_eq_true rfl) (hm_rv (by decide +kernel)) (ls' := [some _, some _]) rfl rfl ?_
                        refine r_begins (by assumption) (by decide) (by decide) (by decide) (by decide) (fun M1 hK1 hF1 => ?_)
                        have hF0 := FKR.tr (by assumption) hF1
                        have hf1 : aw (M1 36) 53 0 20000 w := by rw [hF1.1 36 (by decide) (by decide)]; assumption
                        show hm_Wp _ _ _ _ _ _ _
                        refine q_aload gg198_27 rfl ?_
                        refine z_const gg198_28 (v := 21) rfl ?_
                        refine q_call2 gg198_30 tt197 rfl (Nat.le_of_ble_eq_true rfl) (hm_rv (by decide +kernel)) (ls' := [some _, some _]) rfl rfl ?_
                        refine r_begins (by assumption) (by decide) (by decide) (by decide) (by decide) (fun M1 hK1 hF1 => ?_)
                        have hF0 := FKR.tr (by assumption) hF1
                        have hf1 : aw (M1 36) 53 0 20000 w := by rw [hF1.1 36 (by decide) (by decide)]; assumption
                        show hm_Wp _ _ _ _ _ _ _
                        refine q_aload gg198_33 rfl ?_
                        refine z_const gg198_34 (v := 20) rfl ?_
                        refine q_call2 gg198_36 tt197 rfl (Nat.le_of_ble_eq_true rfl) (hm_rv (by decide +kernel)) (ls' := [some _, some _]) rfl rfl ?_
                        refine r_begins (by assumption) (by decide) (by decide) (by decide) (by decide) (fun M1 hK1 hF1 => ?_)
                        have hF0 := FKR.tr (by assumption) hF1
                        have hf1 : aw (M1 36) 53 0 20000 w := by rw [hF1.1 36 (by decide) (by decide)]; assumption
                        show hm_Wp _ _ _ _ _ _ _
                        refine q_iload gg198_39 rfl ?_
                        refine q_aload gg198_40 rfl ?_
                        refine q_getr gg198_41 rfl ?_
                        refine z_const gg198_44 (v := 4) rfl ?_
                        refine z_const gg198_45 (v := 7) rfl ?_
                        refine q_iload gg198_47 rfl ?_
                        first | refine z_imul gg198_48 ?_ | refine q_imul gg198_48 ?_
                        first | refine z_iadd gg198_49 ?_ | refine q_iadd gg198_49 ?_
                        refine z_const gg198_50 (v := 2) rfl ?_
                        first | refine z_iadd gg198_51 ?_ | refine q_iadd gg198_51 ?_
                        first | (refine z_alr gg198_52 (by first | rfl | assumption) (by assumption) (by omega) (by omega) (by omega) (by decide) (fun vplainMark_52 evplainMark_52 lvplainMark_52 uvplainMark_52 => ?_); try dsimp only at evplainMark_52) | (refine z_alx gg198_52 rfl (by assumption) (by omega) (by omega) (by first | omega | decide) (by decide) (fun vplainMark_52 evplainMark_52 lvplainMark_52 uvplainMark_52 => ?_); try dsimp only at evplainMark_52) | refine z_alq gg198_52 rfl (by omega) (by omega) (by decide) ?_
                        first | refine z_iadd gg198_53 ?_ | refine q_iadd gg198_53 ?_
                        refine q_istore gg198_54 rfl ?_
                        refine q_iload gg198_55 rfl ?_
                        refine z_const gg198_56 (v := 2) rfl ?_
                        refine z_icmpne gg198_57 (tg := 66) rfl (by omega) (by omega) (fun c5 => ?_) (fun c5 => ?_)
                        · try (exfalso; omega)
                          all_goals (
                            refine q_iload gg198_66 rfl ?_
                            refine z_const gg198_67 (v := 3) rfl ?_
                            refine z_icmpne gg198_68 (tg := 79) rfl (by omega) (by omega) (fun c6 => ?_) (fun c6 => ?_)
                            · try (exfalso; omega)
                              all_goals (
                                refine q_iload gg198_79 rfl ?_
                                refine q_iretC gg198_80 ?_
                                refine q_iret gg202_79 ?_
                                refine qv ?_ (k2 _ (by assumption) (by assumption))
                                simp only [askV]
                                subst_vars
                                first | omega | (simp; omega) | simp
                              )
                            · try (exfalso; omega)
                              all_goals (
                                refine q_iload gg198_71 rfl ?_
                                refine z_const gg198_72 (v := 1000) rfl ?_
                                first | refine z_isub gg198_75 ?_ | refine q_isub gg198_75 ?_
                                refine q_goto gg198_76 (tg := 80) rfl ?_
                                refine q_iretC gg198_80 ?_
                                refine q_iret gg202_79 ?_
                                refine qv ?_ (k2 _ (by assumption) (by assumption))
                                simp only [askV]
                                subst_vars
                                first | omega | (simp; omega) | simp
                              )
                          )
                        · try (exfalso; omega)
                          all_goals (
                            refine z_const gg198_60 (v := 2) rfl ?_
                            refine q_iload gg198_61 rfl ?_
                            first | refine z_imul gg198_62 ?_ | refine q_imul gg198_62 ?_
                            refine q_goto gg198_63 (tg := 80) rfl ?_
                            refine q_iretC gg198_80 ?_
                            refine q_iret gg202_79 ?_
                            refine qv ?_ (k2 _ (by assumption) (by assumption))
                            simp only [askV]
                            subst_vars
                            first | omega | (simp; omega) | simp
                          )
                      )
                    · try (exfalso; omega)
                      all_goals (
                        refine z_const gg198_17 (v := 24) rfl ?_
                        refine q_goto gg198_19 (tg := 24) rfl ?_
                        refine q_call2 gg198_24 tt197 rfl (Nat.le_of_ble_eq_true rfl) (hm_rv (by decide +kernel)) (ls' := [some _, some _]) rfl rfl ?_
                        refine r_begins (by assumption) (by decide) (by decide) (by decide) (by decide) (fun M1 hK1 hF1 => ?_)
                        have hF0 := FKR.tr (by assumption) hF1
                        have hf1 : aw (M1 36) 53 0 20000 w := by rw [hF1.1 36 (by decide) (by decide)]; assumption
                        show hm_Wp _ _ _ _ _ _ _
                        refine q_aload gg198_27 rfl ?_
                        refine z_const gg198_28 (v := 21) rfl ?_
                        refine q_call2 gg198_30 tt197 rfl (Nat.le_of_ble_eq_true rfl) (hm_rv (by decide +kernel)) (ls' := [some _, some _]) rfl rfl ?_
                        refine r_begins (by assumption) (by decide) (by decide) (by decide) (by decide) (fun M1 hK1 hF1 => ?_)
                        have hF0 := FKR.tr (by assumption) hF1
                        have hf1 : aw (M1 36) 53 0 20000 w := by rw [hF1.1 36 (by decide) (by decide)]; assumption
                        show hm_Wp _ _ _ _ _ _ _
                        refine q_aload gg198_33 rfl ?_
                        refine z_const gg198_34 (v := 20) rfl ?_
                        refine q_call2 gg198_36 tt197 rfl (Nat.le_of_ble_eq_true rfl) (hm_rv (by decide +kernel)) (ls' := [some _, some _]) rfl rfl ?_
                        refine r_begins (by assumption) (by decide) (by decide) (by decide) (by decide) (fun M1 hK1 hF1 => ?_)
                        have hF0 := FKR.tr (by assumption) hF1
                        have hf1 : aw (M1 36) 53 0 20000 w := by rw [hF1.1 36 (by decide) (by decide)]; assumption
                        show hm_Wp _ _ _ _ _ _ _
                        refine q_iload gg198_39 rfl ?_
                        refine q_aload gg198_40 rfl ?_
                        refine q_getr gg198_41 rfl ?_
                        refine z_const gg198_44 (v := 4) rfl ?_
                        refine z_const gg198_45 (v := 7) rfl ?_
                        refine q_iload gg198_47 rfl ?_
                        first | refine z_imul gg198_48 ?_ | refine q_imul gg198_48 ?_
                        first | refine z_iadd gg198_49 ?_ | refine q_iadd gg198_49 ?_
                        refine z_const gg198_50 (v := 2) rfl ?_
                        first | refine z_iadd gg198_51 ?_ | refine q_iadd gg198_51 ?_
                        first | (refine z_alr gg198_52 (by first | rfl | assumption) (by assumption) (by omega) (by omega) (by omega) (by decide) (fun vplainMark_52 evplainMark_52 lvplainMark_52 uvplainMark_52 => ?_); try dsimp only at evplainMark_52) | (refine z_alx gg198_52 rfl (by assumption) (by omega) (by omega) (by first | omega | decide) (by decide) (fun vplainMark_52 evplainMark_52 lvplainMark_52 uvplainMark_52 => ?_); try dsimp only at evplainMark_52) | refine z_alq gg198_52 rfl (by omega) (by omega) (by decide) ?_
                        first | refine z_iadd gg198_53 ?_ | refine q_iadd gg198_53 ?_
                        refine q_istore gg198_54 rfl ?_
                        refine q_iload gg198_55 rfl ?_
                        refine z_const gg198_56 (v := 2) rfl ?_
                        refine z_icmpne gg198_57 (tg := 66) rfl (by omega) (by omega) (fun c5 => ?_) (fun c5 => ?_)
                        · try (exfalso; omega)
                          all_goals (
                            refine q_iload gg198_66 rfl ?_
                            refine z_const gg198_67 (v := 3) rfl ?_
                            refine z_icmpne gg198_68 (tg := 79) rfl (by omega) (by omega) (fun c6 => ?_) (fun c6 => ?_)
                            · try (exfalso; omega)
                              all_goals (
                                refine q_iload gg198_79 rfl ?_
                                refine q_iretC gg198_80 ?_
                                refine q_iret gg202_79 ?_
                                refine qv ?_ (k2 _ (by assumption) (by assumption))
                                simp only [askV]
                                subst_vars
                                first | omega | (simp; omega) | simp
                              )
                            · try (exfalso; omega)
                              all_goals (
                                refine q_iload gg198_71 rfl ?_
                                refine z_const gg198_72 (v := 1000) rfl ?_
                                first | refine z_isub gg198_75 ?_ | refine q_isub gg198_75 ?_
                                refine q_goto gg198_76 (tg := 80) rfl ?_
                                refine q_iretC gg198_80 ?_
                                refine q_iret gg202_79 ?_
                                refine qv ?_ (k2 _ (by assumption) (by assumption))
                                simp only [askV]
                                subst_vars
                                first | omega | (simp; omega) | simp
                              )
                          )
                        · try (exfalso; omega)
                          all_goals (
                            refine z_const gg198_60 (v := 2) rfl ?_
                            refine q_iload gg198_61 rfl ?_
                            first | refine z_imul gg198_62 ?_ | refine q_imul gg198_62 ?_
                            refine q_goto gg198_63 (tg := 80) rfl ?_
                            refine q_iretC gg198_80 ?_
                            refine q_iret gg202_79 ?_
                            refine qv ?_ (k2 _ (by assumption) (by assumption))
                            simp only [askV]
                            subst_vars
                            first | omega | (simp; omega) | simp
                          )
                      )
                  )
              )
            · try (exfalso; omega)
              all_goals (
                refine q_iload gg202_44 rfl ?_
                refine z_ifeq gg202_45 (tg := 56) rfl (by decide) (fun _ => ?_) (fun z => absurd z (by decide))
                refine q_aload gg202_56 rfl ?_
                refine q_iload gg202_57 rfl ?_
                refine q_call2 gg202_58 tt200 rfl (Nat.le_of_ble_eq_true rfl) (hm_rv (by decide +kernel)) (ls' := [some _, some _, none, none]) rfl rfl ?_
                refine q_aload gg200_0 rfl ?_
                refine q_iload gg200_1 rfl ?_
                refine q_call2 gg200_2 tt194 rfl (Nat.le_of_ble_eq_true rfl) (hm_rv (by decide +kernel)) (ls' := [some _, some _]) rfl rfl ?_
                refine q_aload gg194_0 rfl ?_
                refine q_getr gg194_1 rfl ?_
                refine z_const gg194_4 (v := 4) rfl ?_
                refine z_const gg194_5 (v := 7) rfl ?_
                refine q_iload gg194_7 rfl ?_
                first | refine z_imul gg194_8 ?_ | refine q_imul gg194_8 ?_
                first | refine z_iadd gg194_9 ?_ | refine q_iadd gg194_9 ?_
                first | (refine z_alr gg194_10 (by first | rfl | assumption) (by assumption) (by omega) (by omega) (by omega) (by decide) (fun vkindIn_10 evkindIn_10 lvkindIn_10 uvkindIn_10 => ?_); try dsimp only at evkindIn_10) | (refine z_alx gg194_10 rfl (by assumption) (by omega) (by omega) (by first | omega | decide) (by decide) (fun vkindIn_10 evkindIn_10 lvkindIn_10 uvkindIn_10 => ?_); try dsimp only at evkindIn_10) | refine z_alq gg194_10 rfl (by omega) (by omega) (by decide) ?_
                refine q_iretC gg194_11 ?_
                refine z_const gg200_5 (v := 2) rfl ?_
                refine z_icmpne gg200_6 (tg := 13) rfl (by omega) (by omega) (fun c3 => ?_) (fun c3 => ?_)
                · try (exfalso; omega)
                  all_goals (
                    refine z_const gg200_13 (v := 0) rfl ?_
                    refine q_istore gg200_14 rfl ?_
                    refine q_iload gg200_15 rfl ?_
                    refine z_ifeq gg200_16 (tg := 25) rfl (by decide) (fun _ => ?_) (fun z => absurd z (by decide))
                    refine q_aload gg200_25 rfl ?_
                    refine z_const gg200_26 (v := 11) rfl ?_
                    refine q_call2 gg200_28 tt197 rfl (Nat.le_of_ble_eq_true rfl) (hm_rv (by decide +kernel)) (ls' := [some _, some _]) rfl rfl ?_
                    refine r_begins (by assumption) (by decide) (by decide) (by decide) (by decide) (fun M1 hK1 hF1 => ?_)
                    have hF0 := FKR.tr (by assumption) hF1
                    have hf1 : aw (M1 36) 53 0 20000 w := by rw [hF1.1 36 (by decide) (by decide)]; assumption
                    show hm_Wp _ _ _ _ _ _ _
                    refine q_aload gg200_31 rfl ?_
                    refine z_const gg200_32 (v := 10) rfl ?_
                    refine q_call2 gg200_34 tt197 rfl (Nat.le_of_ble_eq_true rfl) (hm_rv (by decide +kernel)) (ls' := [some _, some _]) rfl rfl ?_
                    refine r_begins (by assumption) (by decide) (by decide) (by decide) (by decide) (fun M1 hK1 hF1 => ?_)
                    have hF0 := FKR.tr (by assumption) hF1
                    have hf1 : aw (M1 36) 53 0 20000 w := by rw [hF1.1 36 (by decide) (by decide)]; assumption
                    show hm_Wp _ _ _ _ _ _ _
                    refine q_aload gg200_37 rfl ?_
                    refine q_getr gg200_38 rfl ?_
                    refine z_const gg200_41 (v := 4) rfl ?_
                    refine z_const gg200_42 (v := 7) rfl ?_
                    refine q_iload gg200_44 rfl ?_
                    first | refine z_imul gg200_45 ?_ | refine q_imul gg200_45 ?_
                    first | refine z_iadd gg200_46 ?_ | refine q_iadd gg200_46 ?_
                    refine z_const gg200_47 (v := 1) rfl ?_
                    first | refine z_iadd gg200_48 ?_ | refine q_iadd gg200_48 ?_
                    first | (refine z_alr gg200_49 (by first | rfl | assumption) (by assumption) (by omega) (by omega) (by omega) (by decide) (fun vplainSize_49 evplainSize_49 lvplainSize_49 uvplainSize_49 => ?_); try dsimp only at evplainSize_49) | (refine z_alx gg200_49 rfl (by assumption) (by omega) (by omega) (by first | omega | decide) (by decide) (fun vplainSize_49 evplainSize_49 lvplainSize_49 uvplainSize_49 => ?_); try dsimp only at evplainSize_49) | refine z_alq gg200_49 rfl (by omega) (by omega) (by decide) ?_
                    refine q_aload gg200_50 rfl ?_
                    refine q_iload gg200_51 rfl ?_
                    refine q_call2 gg200_52 tt198 rfl (Nat.le_of_ble_eq_true rfl) (hm_rv (by decide +kernel)) (ls' := [some _, some _, none, none]) rfl rfl ?_
                    refine q_aload gg198_0 rfl ?_
                    refine q_iload gg198_1 rfl ?_
                    refine q_call2 gg198_2 tt194 rfl (Nat.le_of_ble_eq_true rfl) (hm_rv (by decide +kernel)) (ls' := [some _, some _]) rfl rfl ?_
                    refine q_aload gg194_0 rfl ?_
                    refine q_getr gg194_1 rfl ?_
                    refine z_const gg194_4 (v := 4) rfl ?_
                    refine z_const gg194_5 (v := 7) rfl ?_
                    refine q_iload gg194_7 rfl ?_
                    first | refine z_imul gg194_8 ?_ | refine q_imul gg194_8 ?_
                    first | refine z_iadd gg194_9 ?_ | refine q_iadd gg194_9 ?_
                    first | (refine z_alr gg194_10 (by first | rfl | assumption) (by assumption) (by omega) (by omega) (by omega) (by decide) (fun vkindIn_10 evkindIn_10 lvkindIn_10 uvkindIn_10 => ?_); try dsimp only at evkindIn_10) | (refine z_alx gg194_10 rfl (by assumption) (by omega) (by omega) (by first | omega | decide) (by decide) (fun vkindIn_10 evkindIn_10 lvkindIn_10 uvkindIn_10 => ?_); try dsimp only at evkindIn_10) | refine z_alq gg194_10 rfl (by omega) (by omega) (by decide) ?_
                    refine q_iretC gg194_11 ?_
                    refine q_istore gg198_5 rfl ?_
                    refine q_iload gg198_6 rfl ?_
                    refine z_const gg198_7 (v := 1) rfl ?_
                    refine z_icmpeq gg198_8 (tg := 27) rfl (by omega) (by omega) (fun c4 => ?_) (fun c4 => ?_)
                    · try (exfalso; omega)
                      all_goals (
                        refine q_aload gg198_27 rfl ?_
                        refine z_const gg198_28 (v := 21) rfl ?_
                        refine q_call2 gg198_30 tt197 rfl (Nat.le_of_ble_eq_true rfl) (hm_rv (by decide +kernel)) (ls' := [some _, some _]) rfl rfl ?_
                        refine r_begins (by assumption) (by decide) (by decide) (by decide) (by decide) (fun M1 hK1 hF1 => ?_)
                        have hF0 := FKR.tr (by assumption) hF1
                        have hf1 : aw (M1 36) 53 0 20000 w := by rw [hF1.1 36 (by decide) (by decide)]; assumption
                        show hm_Wp _ _ _ _ _ _ _
                        refine q_aload gg198_33 rfl ?_
                        refine z_const gg198_34 (v := 20) rfl ?_
                        refine q_call2 gg198_36 tt197 rfl (Nat.le_of_ble_eq_true rfl) (hm_rv (by decide +kernel)) (ls' := [some _, some _]) rfl rfl ?_
                        refine r_begins (by assumption) (by decide) (by decide) (by decide) (by decide) (fun M1 hK1 hF1 => ?_)
                        have hF0 := FKR.tr (by assumption) hF1
                        have hf1 : aw (M1 36) 53 0 20000 w := by rw [hF1.1 36 (by decide) (by decide)]; assumption
                        show hm_Wp _ _ _ _ _ _ _
                        refine q_iload gg198_39 rfl ?_
                        refine q_aload gg198_40 rfl ?_
                        refine q_getr gg198_41 rfl ?_
                        refine z_const gg198_44 (v := 4) rfl ?_
                        refine z_const gg198_45 (v := 7) rfl ?_
                        refine q_iload gg198_47 rfl ?_
                        first | refine z_imul gg198_48 ?_ | refine q_imul gg198_48 ?_
                        first | refine z_iadd gg198_49 ?_ | refine q_iadd gg198_49 ?_
                        refine z_const gg198_50 (v := 2) rfl ?_
                        first | refine z_iadd gg198_51 ?_ | refine q_iadd gg198_51 ?_
                        first | (refine z_alr gg198_52 (by first | rfl | assumption) (by assumption) (by omega) (by omega) (by omega) (by decide) (fun vplainMark_52 evplainMark_52 lvplainMark_52 uvplainMark_52 => ?_); try dsimp only at evplainMark_52) | (refine z_alx gg198_52 rfl (by assumption) (by omega) (by omega) (by first | omega | decide) (by decide) (fun vplainMark_52 evplainMark_52 lvplainMark_52 uvplainMark_52 => ?_); try dsimp only at evplainMark_52) | refine z_alq gg198_52 rfl (by omega) (by omega) (by decide) ?_
                        first | refine z_iadd gg198_53 ?_ | refine q_iadd gg198_53 ?_
                        refine q_istore gg198_54 rfl ?_
                        refine q_iload gg198_55 rfl ?_
                        refine z_const gg198_56 (v := 2) rfl ?_
                        refine z_icmpne gg198_57 (tg := 66) rfl (by omega) (by omega) (fun c5 => ?_) (fun c5 => ?_)
                        · try (exfalso; omega)
                          all_goals (
                            refine q_iload gg198_66 rfl ?_
                            refine z_const gg198_67 (v := 3) rfl ?_
                            refine z_icmpne gg198_68 (tg := 79) rfl (by omega) (by omega) (fun c6 => ?_) (fun c6 => ?_)
                            · try (exfalso; omega)
                              all_goals (
                                refine q_iload gg198_79 rfl ?_
                                refine q_iretC gg198_80 ?_
                                first | refine z_iadd gg200_55 ?_ | refine q_iadd gg200_55 ?_
                                refine q_istore gg200_56 rfl ?_
                                refine q_iload gg200_57 rfl ?_
                                refine z_ifeq gg200_58 (tg := 66) rfl (by decide) (fun _ => ?_) (fun z => absurd z (by decide))
                                refine q_iload gg200_66 rfl ?_
                                refine q_iretC gg200_67 ?_
                                refine q_iret gg202_61 ?_
                                refine qv ?_ (k2 _ (by assumption) (by assumption))
                                simp only [askV]
                                subst_vars
                                first | omega | (simp; omega) | simp
                              )
                            · try (exfalso; omega)
                              all_goals (
                                refine q_iload gg198_71 rfl ?_
                                refine z_const gg198_72 (v := 1000) rfl ?_
                                first | refine z_isub gg198_75 ?_ | refine q_isub gg198_75 ?_
                                refine q_goto gg198_76 (tg := 80) rfl ?_
                                refine q_iretC gg198_80 ?_
                                first | refine z_iadd gg200_55 ?_ | refine q_iadd gg200_55 ?_
                                refine q_istore gg200_56 rfl ?_
                                refine q_iload gg200_57 rfl ?_
                                refine z_ifeq gg200_58 (tg := 66) rfl (by decide) (fun _ => ?_) (fun z => absurd z (by decide))
                                refine q_iload gg200_66 rfl ?_
                                refine q_iretC gg200_67 ?_
                                refine q_iret gg202_61 ?_
                                refine qv ?_ (k2 _ (by assumption) (by assumption))
                                simp only [askV]
                                subst_vars
                                first | omega | (simp; omega) | simp
                              )
                          )
                        · try (exfalso; omega)
                          all_goals (
                            refine z_const gg198_60 (v := 2) rfl ?_
                            refine q_iload gg198_61 rfl ?_
                            first | refine z_imul gg198_62 ?_ | refine q_imul gg198_62 ?_
                            refine q_goto gg198_63 (tg := 80) rfl ?_
                            refine q_iretC gg198_80 ?_
                            first | refine z_iadd gg200_55 ?_ | refine q_iadd gg200_55 ?_
                            refine q_istore gg200_56 rfl ?_
                            refine q_iload gg200_57 rfl ?_
                            refine z_ifeq gg200_58 (tg := 66) rfl (by decide) (fun _ => ?_) (fun z => absurd z (by decide))
                            refine q_iload gg200_66 rfl ?_
                            refine q_iretC gg200_67 ?_
                            refine q_iret gg202_61 ?_
                            refine qv ?_ (k2 _ (by assumption) (by assumption))
                            simp only [askV]
                            subst_vars
                            first | omega | (simp; omega) | simp
                          )
                      )
                    · try (exfalso; omega)
                      all_goals (
                        refine q_aload gg198_11 rfl ?_
                        refine q_iload gg198_12 rfl ?_
                        refine z_const gg198_13 (v := 2) rfl ?_
                        refine z_icmpne gg198_14 (tg := 22) rfl (by omega) (by omega) (fun c5 => ?_) (fun c5 => ?_)
                        · try (exfalso; omega)
                          all_goals (
                            refine z_const gg198_22 (v := 22) rfl ?_
                            refine q_call2 gg198_24 tt197 rfl (Nat.le_of_ble_eq_true rfl) (hm_rv (by decide +kernel)) (ls' := [some _, some _]) rfl rfl ?_
                            refine r_begins (by assumption) (by decide) (by decide) (by decide) (by decide) (fun M1 hK1 hF1 => ?_)
                            have hF0 := FKR.tr (by assumption) hF1
                            have hf1 : aw (M1 36) 53 0 20000 w := by rw [hF1.1 36 (by decide) (by decide)]; assumption
                            show hm_Wp _ _ _ _ _ _ _
                            refine q_aload gg198_27 rfl ?_
                            refine z_const gg198_28 (v := 21) rfl ?_
                            refine q_call2 gg198_30 tt197 rfl (Nat.le_of_ble_eq_true rfl) (hm_rv (by decide +kernel)) (ls' := [some _, some _]) rfl rfl ?_
                            refine r_begins (by assumption) (by decide) (by decide) (by decide) (by decide) (fun M1 hK1 hF1 => ?_)
                            have hF0 := FKR.tr (by assumption) hF1
                            have hf1 : aw (M1 36) 53 0 20000 w := by rw [hF1.1 36 (by decide) (by decide)]; assumption
                            show hm_Wp _ _ _ _ _ _ _
                            refine q_aload gg198_33 rfl ?_
                            refine z_const gg198_34 (v := 20) rfl ?_
                            refine q_call2 gg198_36 tt197 rfl (Nat.le_of_ble_eq_true rfl) (hm_rv (by decide +kernel)) (ls' := [some _, some _]) rfl rfl ?_
                            refine r_begins (by assumption) (by decide) (by decide) (by decide) (by decide) (fun M1 hK1 hF1 => ?_)
                            have hF0 := FKR.tr (by assumption) hF1
                            have hf1 : aw (M1 36) 53 0 20000 w := by rw [hF1.1 36 (by decide) (by decide)]; assumption
                            show hm_Wp _ _ _ _ _ _ _
                            refine q_iload gg198_39 rfl ?_
                            refine q_aload gg198_40 rfl ?_
                            refine q_getr gg198_41 rfl ?_
                            refine z_const gg198_44 (v := 4) rfl ?_
                            refine z_const gg198_45 (v := 7) rfl ?_
                            refine q_iload gg198_47 rfl ?_
                            first | refine z_imul gg198_48 ?_ | refine q_imul gg198_48 ?_
                            first | refine z_iadd gg198_49 ?_ | refine q_iadd gg198_49 ?_
                            refine z_const gg198_50 (v := 2) rfl ?_
                            first | refine z_iadd gg198_51 ?_ | refine q_iadd gg198_51 ?_
                            first | (refine z_alr gg198_52 (by first | rfl | assumption) (by assumption) (by omega) (by omega) (by omega) (by decide) (fun vplainMark_52 evplainMark_52 lvplainMark_52 uvplainMark_52 => ?_); try dsimp only at evplainMark_52) | (refine z_alx gg198_52 rfl (by assumption) (by omega) (by omega) (by first | omega | decide) (by decide) (fun vplainMark_52 evplainMark_52 lvplainMark_52 uvplainMark_52 => ?_); try dsimp only at evplainMark_52) | refine z_alq gg198_52 rfl (by omega) (by omega) (by decide) ?_
                            first | refine z_iadd gg198_53 ?_ | refine q_iadd gg198_53 ?_
                            refine q_istore gg198_54 rfl ?_
                            refine q_iload gg198_55 rfl ?_
                            refine z_const gg198_56 (v := 2) rfl ?_
                            refine z_icmpne gg198_57 (tg := 66) rfl (by omega) (by omega) (fun c6 => ?_) (fun c6 => ?_)
                            · try (exfalso; omega)
                              all_goals (
                                refine q_iload gg198_66 rfl ?_
                                refine z_const gg198_67 (v := 3) rfl ?_
                                refine z_icmpne gg198_68 (tg := 79) rfl (by omega) (by omega) (fun c7 => ?_) (fun c7 => ?_)
                                · try (exfalso; omega)
                                  all_goals (
                                    refine q_iload gg198_79 rfl ?_
                                    refine q_iretC gg198_80 ?_
                                    first | refine z_iadd gg200_55 ?_ | refine q_iadd gg200_55 ?_
                                    refine q_istore gg200_56 rfl ?_
                                    refine q_iload gg200_57 rfl ?_
                                    refine z_ifeq gg200_58 (tg := 66) rfl (by decide) (fun _ => ?_) (fun z => absurd z (by decide))
                                    refine q_iload gg200_66 rfl ?_
                                    refine q_iretC gg200_67 ?_
                                    refine q_iret gg202_61 ?_
                                    refine qv ?_ (k2 _ (by assumption) (by assumption))
                                    simp only [askV]
                                    subst_vars
                                    first | omega | (simp; omega) | simp
                                  )
                                · try (exfalso; omega)
                                  all_goals (
                                    refine q_iload gg198_71 rfl ?_
                                    refine z_const gg198_72 (v := 1000) rfl ?_
                                    first | refine z_isub gg198_75 ?_ | refine q_isub gg198_75 ?_
                                    refine q_goto gg198_76 (tg := 80) rfl ?_
                                    refine q_iretC gg198_80 ?_
                                    first | refine z_iadd gg200_55 ?_ | refine q_iadd gg200_55 ?_
                                    refine q_istore gg200_56 rfl ?_
                                    refine q_iload gg200_57 rfl ?_
                                    refine z_ifeq gg200_58 (tg := 66) rfl (by decide) (fun _ => ?_) (fun z => absurd z (by decide))
                                    refine q_iload gg200_66 rfl ?_
                                    refine q_iretC gg200_67 ?_
                                    refine q_iret gg202_61 ?_
                                    refine qv ?_ (k2 _ (by assumption) (by assumption))
                                    simp only [askV]
                                    subst_vars
                                    first | omega | (simp; omega) | simp
                                  )
                              )
                            · try (exfalso; omega)
                              all_goals (
                                refine z_const gg198_60 (v := 2) rfl ?_
                                refine q_iload gg198_61 rfl ?_
                                first | refine z_imul gg198_62 ?_ | refine q_imul gg198_62 ?_
                                refine q_goto gg198_63 (tg := 80) rfl ?_
                                refine q_iretC gg198_80 ?_
                                first | refine z_iadd gg200_55 ?_ | refine q_iadd gg200_55 ?_
                                refine q_istore gg200_56 rfl ?_
                                refine q_iload gg200_57 rfl ?_
                                refine z_ifeq gg200_58 (tg := 66) rfl (by decide) (fun _ => ?_) (fun z => absurd z (by decide))
                                refine q_iload gg200_66 rfl ?_
                                refine q_iretC gg200_67 ?_
                                refine q_iret gg202_61 ?_
                                refine qv ?_ (k2 _ (by assumption) (by assumption))
                                simp only [askV]
                                subst_vars
                                first | omega | (simp; omega) | simp
                              )
                          )
                        · try (exfalso; omega)
                          all_goals (
                            refine z_const gg198_17 (v := 24) rfl ?_
                            refine q_goto gg198_19 (tg := 24) rfl ?_
                            refine q_call2 gg198_24 tt197 rfl (Nat.le_of_ble_eq_true rfl) (hm_rv (by decide +kernel)) (ls' := [some _, some _]) rfl rfl ?_
                            refine r_begins (by assumption) (by decide) (by decide) (by decide) (by decide) (fun M1 hK1 hF1 => ?_)
                            have hF0 := FKR.tr (by assumption) hF1
                            have hf1 : aw (M1 36) 53 0 20000 w := by rw [hF1.1 36 (by decide) (by decide)]; assumption
                            show hm_Wp _ _ _ _ _ _ _
                            refine q_aload gg198_27 rfl ?_
                            refine z_const gg198_28 (v := 21) rfl ?_
                            refine q_call2 gg198_30 tt197 rfl (Nat.le_of_ble_eq_true rfl) (hm_rv (by decide +kernel)) (ls' := [some _, some _]) rfl rfl ?_
                            refine r_begins (by assumption) (by decide) (by decide) (by decide) (by decide) (fun M1 hK1 hF1 => ?_)
                            have hF0 := FKR.tr (by assumption) hF1
                            have hf1 : aw (M1 36) 53 0 20000 w := by rw [hF1.1 36 (by decide) (by decide)]; assumption
                            show hm_Wp _ _ _ _ _ _ _
                            refine q_aload gg198_33 rfl ?_
                            refine z_const gg198_34 (v := 20) rfl ?_
                            refine q_call2 gg198_36 tt197 rfl (Nat.le_of_ble_eq_true rfl) (hm_rv (by decide +kernel)) (ls' := [some _, some _]) rfl rfl ?_
                            refine r_begins (by assumption) (by decide) (by decide) (by decide) (by decide) (fun M1 hK1 hF1 => ?_)
                            have hF0 := FKR.tr (by assumption) hF1
                            have hf1 : aw (M1 36) 53 0 20000 w := by rw [hF1.1 36 (by decide) (by decide)]; assumption
                            show hm_Wp _ _ _ _ _ _ _
                            refine q_iload gg198_39 rfl ?_
                            refine q_aload gg198_40 rfl ?_
                            refine q_getr gg198_41 rfl ?_
                            refine z_const gg198_44 (v := 4) rfl ?_
                            refine z_const gg198_45 (v := 7) rfl ?_
                            refine q_iload gg198_47 rfl ?_
                            first | refine z_imul gg198_48 ?_ | refine q_imul gg198_48 ?_
                            first | refine z_iadd gg198_49 ?_ | refine q_iadd gg198_49 ?_
                            refine z_const gg198_50 (v := 2) rfl ?_
                            first | refine z_iadd gg198_51 ?_ | refine q_iadd gg198_51 ?_
                            first | (refine z_alr gg198_52 (by first | rfl | assumption) (by assumption) (by omega) (by omega) (by omega) (by decide) (fun vplainMark_52 evplainMark_52 lvplainMark_52 uvplainMark_52 => ?_); try dsimp only at evplainMark_52) | (refine z_alx gg198_52 rfl (by assumption) (by omega) (by omega) (by first | omega | decide) (by decide) (fun vplainMark_52 evplainMark_52 lvplainMark_52 uvplainMark_52 => ?_); try dsimp only at evplainMark_52) | refine z_alq gg198_52 rfl (by omega) (by omega) (by decide) ?_
                            first | refine z_iadd gg198_53 ?_ | refine q_iadd gg198_53 ?_
                            refine q_istore gg198_54 rfl ?_
                            refine q_iload gg198_55 rfl ?_
                            refine z_const gg198_56 (v := 2) rfl ?_
                            refine z_icmpne gg198_57 (tg := 66) rfl (by omega) (by omega) (fun c6 => ?_) (fun c6 => ?_)
                            · try (exfalso; omega)
                              all_goals (
                                refine q_iload gg198_66 rfl ?_
                                refine z_const gg198_67 (v := 3) rfl ?_
                                refine z_icmpne gg198_68 (tg := 79) rfl (by omega) (by omega) (fun c7 => ?_) (fun c7 => ?_)
                                · try (exfalso; omega)
                                  all_goals (
                                    refine q_iload gg198_79 rfl ?_
                                    refine q_iretC gg198_80 ?_
                                    first | refine z_iadd gg200_55 ?_ | refine q_iadd gg200_55 ?_
                                    refine q_istore gg200_56 rfl ?_
                                    refine q_iload gg200_57 rfl ?_
                                    refine z_ifeq gg200_58 (tg := 66) rfl (by decide) (fun _ => ?_) (fun z => absurd z (by decide))
                                    refine q_iload gg200_66 rfl ?_
                                    refine q_iretC gg200_67 ?_
                                    refine q_iret gg202_61 ?_
                                    refine qv ?_ (k2 _ (by assumption) (by assumption))
                                    simp only [askV]
                                    subst_vars
                                    first | omega | (simp; omega) | simp
                                  )
                                · try (exfalso; omega)
                                  all_goals (
                                    refine q_iload gg198_71 rfl ?_
                                    refine z_const gg198_72 (v := 1000) rfl ?_
                                    first | refine z_isub gg198_75 ?_ | refine q_isub gg198_75 ?_
                                    refine q_goto gg198_76 (tg := 80) rfl ?_
                                    refine q_iretC gg198_80 ?_
                                    first | refine z_iadd gg200_55 ?_ | refine q_iadd gg200_55 ?_
                                    refine q_istore gg200_56 rfl ?_
                                    refine q_iload gg200_57 rfl ?_
                                    refine z_ifeq gg200_58 (tg := 66) rfl (by decide) (fun _ => ?_) (fun z => absurd z (by decide))
                                    refine q_iload gg200_66 rfl ?_
                                    refine q_iretC gg200_67 ?_
                                    refine q_iret gg202_61 ?_
                                    refine qv ?_ (k2 _ (by assumption) (by assumption))
                                    simp only [askV]
                                    subst_vars
                                    first | omega | (simp; omega) | simp
                                  )
                              )
                            · try (exfalso; omega)
                              all_goals (
                                refine z_const gg198_60 (v := 2) rfl ?_
                                refine q_iload gg198_61 rfl ?_
                                first | refine z_imul gg198_62 ?_ | refine q_imul gg198_62 ?_
                                refine q_goto gg198_63 (tg := 80) rfl ?_
                                refine q_iretC gg198_80 ?_
                                first | refine z_iadd gg200_55 ?_ | refine q_iadd gg200_55 ?_
                                refine q_istore gg200_56 rfl ?_
                                refine q_iload gg200_57 rfl ?_
                                refine z_ifeq gg200_58 (tg := 66) rfl (by decide) (fun _ => ?_) (fun z => absurd z (by decide))
                                refine q_iload gg200_66 rfl ?_
                                refine q_iretC gg200_67 ?_
                                refine q_iret gg202_61 ?_
                                refine qv ?_ (k2 _ (by assumption) (by assumption))
                                simp only [askV]
                                subst_vars
                                first | omega | (simp; omega) | simp
                              )
                          )
                      )
                  )
                · try (exfalso; omega)
                  all_goals (
                    refine z_const gg200_9 (v := 1) rfl ?_
                    refine q_goto gg200_10 (tg := 14) rfl ?_
                    refine q_istore gg200_14 rfl ?_
                    refine q_iload gg200_15 rfl ?_
                    refine z_ifeq gg200_16 (tg := 25) rfl (by decide) (fun z => absurd z (by decide)) (fun _ => ?_)
                    refine q_aload gg200_19 rfl ?_
                    refine z_const gg200_20 (v := 12) rfl ?_
                    refine q_call2 gg200_22 tt197 rfl (Nat.le_of_ble_eq_true rfl) (hm_rv (by decide +kernel)) (ls' := [some _, some _]) rfl rfl ?_
                    refine r_begins (by assumption) (by decide) (by decide) (by decide) (by decide) (fun M1 hK1 hF1 => ?_)
                    have hF0 := FKR.tr (by assumption) hF1
                    have hf1 : aw (M1 36) 53 0 20000 w := by rw [hF1.1 36 (by decide) (by decide)]; assumption
                    show hm_Wp _ _ _ _ _ _ _
                    refine q_aload gg200_25 rfl ?_
                    refine z_const gg200_26 (v := 11) rfl ?_
                    refine q_call2 gg200_28 tt197 rfl (Nat.le_of_ble_eq_true rfl) (hm_rv (by decide +kernel)) (ls' := [some _, some _]) rfl rfl ?_
                    refine r_begins (by assumption) (by decide) (by decide) (by decide) (by decide) (fun M1 hK1 hF1 => ?_)
                    have hF0 := FKR.tr (by assumption) hF1
                    have hf1 : aw (M1 36) 53 0 20000 w := by rw [hF1.1 36 (by decide) (by decide)]; assumption
                    show hm_Wp _ _ _ _ _ _ _
                    refine q_aload gg200_31 rfl ?_
                    refine z_const gg200_32 (v := 10) rfl ?_
                    refine q_call2 gg200_34 tt197 rfl (Nat.le_of_ble_eq_true rfl) (hm_rv (by decide +kernel)) (ls' := [some _, some _]) rfl rfl ?_
                    refine r_begins (by assumption) (by decide) (by decide) (by decide) (by decide) (fun M1 hK1 hF1 => ?_)
                    have hF0 := FKR.tr (by assumption) hF1
                    have hf1 : aw (M1 36) 53 0 20000 w := by rw [hF1.1 36 (by decide) (by decide)]; assumption
                    show hm_Wp _ _ _ _ _ _ _
                    refine q_aload gg200_37 rfl ?_
                    refine q_getr gg200_38 rfl ?_
                    refine z_const gg200_41 (v := 4) rfl ?_
                    refine z_const gg200_42 (v := 7) rfl ?_
                    refine q_iload gg200_44 rfl ?_
                    first | refine z_imul gg200_45 ?_ | refine q_imul gg200_45 ?_
                    first | refine z_iadd gg200_46 ?_ | refine q_iadd gg200_46 ?_
                    refine z_const gg200_47 (v := 1) rfl ?_
                    first | refine z_iadd gg200_48 ?_ | refine q_iadd gg200_48 ?_
                    first | (refine z_alr gg200_49 (by first | rfl | assumption) (by assumption) (by omega) (by omega) (by omega) (by decide) (fun vplainSize_49 evplainSize_49 lvplainSize_49 uvplainSize_49 => ?_); try dsimp only at evplainSize_49) | (refine z_alx gg200_49 rfl (by assumption) (by omega) (by omega) (by first | omega | decide) (by decide) (fun vplainSize_49 evplainSize_49 lvplainSize_49 uvplainSize_49 => ?_); try dsimp only at evplainSize_49) | refine z_alq gg200_49 rfl (by omega) (by omega) (by decide) ?_
                    refine q_aload gg200_50 rfl ?_
                    refine q_iload gg200_51 rfl ?_
                    refine q_call2 gg200_52 tt198 rfl (Nat.le_of_ble_eq_true rfl) (hm_rv (by decide +kernel)) (ls' := [some _, some _, none, none]) rfl rfl ?_
                    refine q_aload gg198_0 rfl ?_
                    refine q_iload gg198_1 rfl ?_
                    refine q_call2 gg198_2 tt194 rfl (Nat.le_of_ble_eq_true rfl) (hm_rv (by decide +kernel)) (ls' := [some _, some _]) rfl rfl ?_
                    refine q_aload gg194_0 rfl ?_
                    refine q_getr gg194_1 rfl ?_
                    refine z_const gg194_4 (v := 4) rfl ?_
                    refine z_const gg194_5 (v := 7) rfl ?_
                    refine q_iload gg194_7 rfl ?_
                    first | refine z_imul gg194_8 ?_ | refine q_imul gg194_8 ?_
                    first | refine z_iadd gg194_9 ?_ | refine q_iadd gg194_9 ?_
                    first | (refine z_alr gg194_10 (by first | rfl | assumption) (by assumption) (by omega) (by omega) (by omega) (by decide) (fun vkindIn_10 evkindIn_10 lvkindIn_10 uvkindIn_10 => ?_); try dsimp only at evkindIn_10) | (refine z_alx gg194_10 rfl (by assumption) (by omega) (by omega) (by first | omega | decide) (by decide) (fun vkindIn_10 evkindIn_10 lvkindIn_10 uvkindIn_10 => ?_); try dsimp only at evkindIn_10) | refine z_alq gg194_10 rfl (by omega) (by omega) (by decide) ?_
                    refine q_iretC gg194_11 ?_
                    refine q_istore gg198_5 rfl ?_
                    refine q_iload gg198_6 rfl ?_
                    refine z_const gg198_7 (v := 1) rfl ?_
                    refine z_icmpeq gg198_8 (tg := 27) rfl (by omega) (by omega) (fun c4 => ?_) (fun c4 => ?_)
                    · try (exfalso; omega)
                      all_goals (
                        refine q_aload gg198_27 rfl ?_
                        refine z_const gg198_28 (v := 21) rfl ?_
                        refine q_call2 gg198_30 tt197 rfl (Nat.le_of_ble_eq_true rfl) (hm_rv (by decide +kernel)) (ls' := [some _, some _]) rfl rfl ?_
                        refine r_begins (by assumption) (by decide) (by decide) (by decide) (by decide) (fun M1 hK1 hF1 => ?_)
                        have hF0 := FKR.tr (by assumption) hF1
                        have hf1 : aw (M1 36) 53 0 20000 w := by rw [hF1.1 36 (by decide) (by decide)]; assumption
                        show hm_Wp _ _ _ _ _ _ _
                        refine q_aload gg198_33 rfl ?_
                        refine z_const gg198_34 (v := 20) rfl ?_
                        refine q_call2 gg198_36 tt197 rfl (Nat.le_of_ble_eq_true rfl) (hm_rv (by decide +kernel)) (ls' := [some _, some _]) rfl rfl ?_
                        refine r_begins (by assumption) (by decide) (by decide) (by decide) (by decide) (fun M1 hK1 hF1 => ?_)
                        have hF0 := FKR.tr (by assumption) hF1
                        have hf1 : aw (M1 36) 53 0 20000 w := by rw [hF1.1 36 (by decide) (by decide)]; assumption
                        show hm_Wp _ _ _ _ _ _ _
                        refine q_iload gg198_39 rfl ?_
                        refine q_aload gg198_40 rfl ?_
                        refine q_getr gg198_41 rfl ?_
                        refine z_const gg198_44 (v := 4) rfl ?_
                        refine z_const gg198_45 (v := 7) rfl ?_
                        refine q_iload gg198_47 rfl ?_
                        first | refine z_imul gg198_48 ?_ | refine q_imul gg198_48 ?_
                        first | refine z_iadd gg198_49 ?_ | refine q_iadd gg198_49 ?_
                        refine z_const gg198_50 (v := 2) rfl ?_
                        first | refine z_iadd gg198_51 ?_ | refine q_iadd gg198_51 ?_
                        first | (refine z_alr gg198_52 (by first | rfl | assumption) (by assumption) (by omega) (by omega) (by omega) (by decide) (fun vplainMark_52 evplainMark_52 lvplainMark_52 uvplainMark_52 => ?_); try dsimp only at evplainMark_52) | (refine z_alx gg198_52 rfl (by assumption) (by omega) (by omega) (by first | omega | decide) (by decide) (fun vplainMark_52 evplainMark_52 lvplainMark_52 uvplainMark_52 => ?_); try dsimp only at evplainMark_52) | refine z_alq gg198_52 rfl (by omega) (by omega) (by decide) ?_
                        first | refine z_iadd gg198_53 ?_ | refine q_iadd gg198_53 ?_
                        refine q_istore gg198_54 rfl ?_
                        refine q_iload gg198_55 rfl ?_
                        refine z_const gg198_56 (v := 2) rfl ?_
                        refine z_icmpne gg198_57 (tg := 66) rfl (by omega) (by omega) (fun c5 => ?_) (fun c5 => ?_)
                        · try (exfalso; omega)
                          all_goals (
                            refine q_iload gg198_66 rfl ?_
                            refine z_const gg198_67 (v := 3) rfl ?_
                            refine z_icmpne gg198_68 (tg := 79) rfl (by omega) (by omega) (fun c6 => ?_) (fun c6 => ?_)
                            · try (exfalso; omega)
                              all_goals (
                                refine q_iload gg198_79 rfl ?_
                                refine q_iretC gg198_80 ?_
                                first | refine z_iadd gg200_55 ?_ | refine q_iadd gg200_55 ?_
                                refine q_istore gg200_56 rfl ?_
                                refine q_iload gg200_57 rfl ?_
                                refine z_ifeq gg200_58 (tg := 66) rfl (by decide) (fun z => absurd z (by decide)) (fun _ => ?_)
                                refine q_iload gg200_61 rfl ?_
                                refine z_ineg gg200_62 ?_
                                refine q_goto gg200_63 (tg := 67) rfl ?_
                                refine q_iretC gg200_67 ?_
                                refine q_iret gg202_61 ?_
                                refine qv ?_ (k2 _ (by assumption) (by assumption))
                                simp only [askV]
                                subst_vars
                                first | omega | (simp; omega) | simp
                              )
                            · try (exfalso; omega)
                              all_goals (
                                refine q_iload gg198_71 rfl ?_
                                refine z_const gg198_72 (v := 1000) rfl ?_
                                first | refine z_isub gg198_75 ?_ | refine q_isub gg198_75 ?_
                                refine q_goto gg198_76 (tg := 80) rfl ?_
                                refine q_iretC gg198_80 ?_
                                first | refine z_iadd gg200_55 ?_ | refine q_iadd gg200_55 ?_
                                refine q_istore gg200_56 rfl ?_
                                refine q_iload gg200_57 rfl ?_
                                refine z_ifeq gg200_58 (tg := 66) rfl (by decide) (fun z => absurd z (by decide)) (fun _ => ?_)
                                refine q_iload gg200_61 rfl ?_
                                refine z_ineg gg200_62 ?_
                                refine q_goto gg200_63 (tg := 67) rfl ?_
                                refine q_iretC gg200_67 ?_
                                refine q_iret gg202_61 ?_
                                refine qv ?_ (k2 _ (by assumption) (by assumption))
                                simp only [askV]
                                subst_vars
                                first | omega | (simp; omega) | simp
                              )
                          )
                        · try (exfalso; omega)
                          all_goals (
                            refine z_const gg198_60 (v := 2) rfl ?_
                            refine q_iload gg198_61 rfl ?_
                            first | refine z_imul gg198_62 ?_ | refine q_imul gg198_62 ?_
                            refine q_goto gg198_63 (tg := 80) rfl ?_
                            refine q_iretC gg198_80 ?_
                            first | refine z_iadd gg200_55 ?_ | refine q_iadd gg200_55 ?_
                            refine q_istore gg200_56 rfl ?_
                            refine q_iload gg200_57 rfl ?_
                            refine z_ifeq gg200_58 (tg := 66) rfl (by decide) (fun z => absurd z (by decide)) (fun _ => ?_)
                            refine q_iload gg200_61 rfl ?_
                            refine z_ineg gg200_62 ?_
                            refine q_goto gg200_63 (tg := 67) rfl ?_
                            refine q_iretC gg200_67 ?_
                            refine q_iret gg202_61 ?_
                            refine qv ?_ (k2 _ (by assumption) (by assumption))
                            simp only [askV]
                            subst_vars
                            first | omega | (simp; omega) | simp
                          )
                      )
                    · try (exfalso; omega)
                      all_goals (
                        refine q_aload gg198_11 rfl ?_
                        refine q_iload gg198_12 rfl ?_
                        refine z_const gg198_13 (v := 2) rfl ?_
                        refine z_icmpne gg198_14 (tg := 22) rfl (by omega) (by omega) (fun c5 => ?_) (fun c5 => ?_)
                        · try (exfalso; omega)
                          all_goals (
                            refine z_const gg198_22 (v := 22) rfl ?_
                            refine q_call2 gg198_24 tt197 rfl (Nat.le_of_ble_eq_true rfl) (hm_rv (by decide +kernel)) (ls' := [some _, some _]) rfl rfl ?_
                            refine r_begins (by assumption) (by decide) (by decide) (by decide) (by decide) (fun M1 hK1 hF1 => ?_)
                            have hF0 := FKR.tr (by assumption) hF1
                            have hf1 : aw (M1 36) 53 0 20000 w := by rw [hF1.1 36 (by decide) (by decide)]; assumption
                            show hm_Wp _ _ _ _ _ _ _
                            refine q_aload gg198_27 rfl ?_
                            refine z_const gg198_28 (v := 21) rfl ?_
                            refine q_call2 gg198_30 tt197 rfl (Nat.le_of_ble_eq_true rfl) (hm_rv (by decide +kernel)) (ls' := [some _, some _]) rfl rfl ?_
                            refine r_begins (by assumption) (by decide) (by decide) (by decide) (by decide) (fun M1 hK1 hF1 => ?_)
                            have hF0 := FKR.tr (by assumption) hF1
                            have hf1 : aw (M1 36) 53 0 20000 w := by rw [hF1.1 36 (by decide) (by decide)]; assumption
                            show hm_Wp _ _ _ _ _ _ _
                            refine q_aload gg198_33 rfl ?_
                            refine z_const gg198_34 (v := 20) rfl ?_
                            refine q_call2 gg198_36 tt197 rfl (Nat.le_of_ble_eq_true rfl) (hm_rv (by decide +kernel)) (ls' := [some _, some _]) rfl rfl ?_
                            refine r_begins (by assumption) (by decide) (by decide) (by decide) (by decide) (fun M1 hK1 hF1 => ?_)
                            have hF0 := FKR.tr (by assumption) hF1
                            have hf1 : aw (M1 36) 53 0 20000 w := by rw [hF1.1 36 (by decide) (by decide)]; assumption
                            show hm_Wp _ _ _ _ _ _ _
                            refine q_iload gg198_39 rfl ?_
                            refine q_aload gg198_40 rfl ?_
                            refine q_getr gg198_41 rfl ?_
                            refine z_const gg198_44 (v := 4) rfl ?_
                            refine z_const gg198_45 (v := 7) rfl ?_
                            refine q_iload gg198_47 rfl ?_
                            first | refine z_imul gg198_48 ?_ | refine q_imul gg198_48 ?_
                            first | refine z_iadd gg198_49 ?_ | refine q_iadd gg198_49 ?_
                            refine z_const gg198_50 (v := 2) rfl ?_
                            first | refine z_iadd gg198_51 ?_ | refine q_iadd gg198_51 ?_
                            first | (refine z_alr gg198_52 (by first | rfl | assumption) (by assumption) (by omega) (by omega) (by omega) (by decide) (fun vplainMark_52 evplainMark_52 lvplainMark_52 uvplainMark_52 => ?_); try dsimp only at evplainMark_52) | (refine z_alx gg198_52 rfl (by assumption) (by omega) (by omega) (by first | omega | decide) (by decide) (fun vplainMark_52 evplainMark_52 lvplainMark_52 uvplainMark_52 => ?_); try dsimp only at evplainMark_52) | refine z_alq gg198_52 rfl (by omega) (by omega) (by decide) ?_
                            first | refine z_iadd gg198_53 ?_ | refine q_iadd gg198_53 ?_
                            refine q_istore gg198_54 rfl ?_
                            refine q_iload gg198_55 rfl ?_
                            refine z_const gg198_56 (v := 2) rfl ?_
                            refine z_icmpne gg198_57 (tg := 66) rfl (by omega) (by omega) (fun c6 => ?_) (fun c6 => ?_)
                            · try (exfalso; omega)
                              all_goals (
                                refine q_iload gg198_66 rfl ?_
                                refine z_const gg198_67 (v := 3) rfl ?_
                                refine z_icmpne gg198_68 (tg := 79) rfl (by omega) (by omega) (fun c7 => ?_) (fun c7 => ?_)
                                · try (exfalso; omega)
                                  all_goals (
                                    refine q_iload gg198_79 rfl ?_
                                    refine q_iretC gg198_80 ?_
                                    first | refine z_iadd gg200_55 ?_ | refine q_iadd gg200_55 ?_
                                    refine q_istore gg200_56 rfl ?_
                                    refine q_iload gg200_57 rfl ?_
                                    refine z_ifeq gg200_58 (tg := 66) rfl (by decide) (fun z => absurd z (by decide)) (fun _ => ?_)
                                    refine q_iload gg200_61 rfl ?_
                                    refine z_ineg gg200_62 ?_
                                    refine q_goto gg200_63 (tg := 67) rfl ?_
                                    refine q_iretC gg200_67 ?_
                                    refine q_iret gg202_61 ?_
                                    refine qv ?_ (k2 _ (by assumption) (by assumption))
                                    simp only [askV]
                                    subst_vars
                                    first | omega | (simp; omega) | simp
                                  )
                                · try (exfalso; omega)
                                  all_goals (
                                    refine q_iload gg198_71 rfl ?_
                                    refine z_const gg198_72 (v := 1000) rfl ?_
                                    first | refine z_isub gg198_75 ?_ | refine q_isub gg198_75 ?_
                                    refine q_goto gg198_76 (tg := 80) rfl ?_
                                    refine q_iretC gg198_80 ?_
                                    first | refine z_iadd gg200_55 ?_ | refine q_iadd gg200_55 ?_
                                    refine q_istore gg200_56 rfl ?_
                                    refine q_iload gg200_57 rfl ?_
                                    refine z_ifeq gg200_58 (tg := 66) rfl (by decide) (fun z => absurd z (by decide)) (fun _ => ?_)
                                    refine q_iload gg200_61 rfl ?_
                                    refine z_ineg gg200_62 ?_
                                    refine q_goto gg200_63 (tg := 67) rfl ?_
                                    refine q_iretC gg200_67 ?_
                                    refine q_iret gg202_61 ?_
                                    refine qv ?_ (k2 _ (by assumption) (by assumption))
                                    simp only [askV]
                                    subst_vars
                                    first | omega | (simp; omega) | simp
                                  )
                              )
                            · try (exfalso; omega)
                              all_goals (
                                refine z_const gg198_60 (v := 2) rfl ?_
                                refine q_iload gg198_61 rfl ?_
                                first | refine z_imul gg198_62 ?_ | refine q_imul gg198_62 ?_
                                refine q_goto gg198_63 (tg := 80) rfl ?_
                                refine q_iretC gg198_80 ?_
                                first | refine z_iadd gg200_55 ?_ | refine q_iadd gg200_55 ?_
                                refine q_istore gg200_56 rfl ?_
                                refine q_iload gg200_57 rfl ?_
                                refine z_ifeq gg200_58 (tg := 66) rfl (by decide) (fun z => absurd z (by decide)) (fun _ => ?_)
                                refine q_iload gg200_61 rfl ?_
                                refine z_ineg gg200_62 ?_
                                refine q_goto gg200_63 (tg := 67) rfl ?_
                                refine q_iretC gg200_67 ?_
                                refine q_iret gg202_61 ?_
                                refine qv ?_ (k2 _ (by assumption) (by assumption))
                                simp only [askV]
                                subst_vars
                                first | omega | (simp; omega) | simp
                              )
                          )
                        · try (exfalso; omega)
                          all_goals (
                            refine z_const gg198_17 (v := 24) rfl ?_
                            refine q_goto gg198_19 (tg := 24) rfl ?_
                            refine q_call2 gg198_24 tt197 rfl (Nat.le_of_ble_eq_true rfl) (hm_rv (by decide +kernel)) (ls' := [some _, some _]) rfl rfl ?_
                            refine r_begins (by assumption) (by decide) (by decide) (by decide) (by decide) (fun M1 hK1 hF1 => ?_)
                            have hF0 := FKR.tr (by assumption) hF1
                            have hf1 : aw (M1 36) 53 0 20000 w := by rw [hF1.1 36 (by decide) (by decide)]; assumption
                            show hm_Wp _ _ _ _ _ _ _
                            refine q_aload gg198_27 rfl ?_
                            refine z_const gg198_28 (v := 21) rfl ?_
                            refine q_call2 gg198_30 tt197 rfl (Nat.le_of_ble_eq_true rfl) (hm_rv (by decide +kernel)) (ls' := [some _, some _]) rfl rfl ?_
                            refine r_begins (by assumption) (by decide) (by decide) (by decide) (by decide) (fun M1 hK1 hF1 => ?_)
                            have hF0 := FKR.tr (by assumption) hF1
                            have hf1 : aw (M1 36) 53 0 20000 w := by rw [hF1.1 36 (by decide) (by decide)]; assumption
                            show hm_Wp _ _ _ _ _ _ _
                            refine q_aload gg198_33 rfl ?_
                            refine z_const gg198_34 (v := 20) rfl ?_
                            refine q_call2 gg198_36 tt197 rfl (Nat.le_of_ble_eq_true rfl) (hm_rv (by decide +kernel)) (ls' := [some _, some _]) rfl rfl ?_
                            refine r_begins (by assumption) (by decide) (by decide) (by decide) (by decide) (fun M1 hK1 hF1 => ?_)
                            have hF0 := FKR.tr (by assumption) hF1
                            have hf1 : aw (M1 36) 53 0 20000 w := by rw [hF1.1 36 (by decide) (by decide)]; assumption
                            show hm_Wp _ _ _ _ _ _ _
                            refine q_iload gg198_39 rfl ?_
                            refine q_aload gg198_40 rfl ?_
                            refine q_getr gg198_41 rfl ?_
                            refine z_const gg198_44 (v := 4) rfl ?_
                            refine z_const gg198_45 (v := 7) rfl ?_
                            refine q_iload gg198_47 rfl ?_
                            first | refine z_imul gg198_48 ?_ | refine q_imul gg198_48 ?_
                            first | refine z_iadd gg198_49 ?_ | refine q_iadd gg198_49 ?_
                            refine z_const gg198_50 (v := 2) rfl ?_
                            first | refine z_iadd gg198_51 ?_ | refine q_iadd gg198_51 ?_
                            first | (refine z_alr gg198_52 (by first | rfl | assumption) (by assumption) (by omega) (by omega) (by omega) (by decide) (fun vplainMark_52 evplainMark_52 lvplainMark_52 uvplainMark_52 => ?_); try dsimp only at evplainMark_52) | (refine z_alx gg198_52 rfl (by assumption) (by omega) (by omega) (by first | omega | decide) (by decide) (fun vplainMark_52 evplainMark_52 lvplainMark_52 uvplainMark_52 => ?_); try dsimp only at evplainMark_52) | refine z_alq gg198_52 rfl (by omega) (by omega) (by decide) ?_
                            first | refine z_iadd gg198_53 ?_ | refine q_iadd gg198_53 ?_
                            refine q_istore gg198_54 rfl ?_
                            refine q_iload gg198_55 rfl ?_
                            refine z_const gg198_56 (v := 2) rfl ?_
                            refine z_icmpne gg198_57 (tg := 66) rfl (by omega) (by omega) (fun c6 => ?_) (fun c6 => ?_)
                            · try (exfalso; omega)
                              all_goals (
                                refine q_iload gg198_66 rfl ?_
                                refine z_const gg198_67 (v := 3) rfl ?_
                                refine z_icmpne gg198_68 (tg := 79) rfl (by omega) (by omega) (fun c7 => ?_) (fun c7 => ?_)
                                · try (exfalso; omega)
                                  all_goals (
                                    refine q_iload gg198_79 rfl ?_
                                    refine q_iretC gg198_80 ?_
                                    first | refine z_iadd gg200_55 ?_ | refine q_iadd gg200_55 ?_
                                    refine q_istore gg200_56 rfl ?_
                                    refine q_iload gg200_57 rfl ?_
                                    refine z_ifeq gg200_58 (tg := 66) rfl (by decide) (fun z => absurd z (by decide)) (fun _ => ?_)
                                    refine q_iload gg200_61 rfl ?_
                                    refine z_ineg gg200_62 ?_
                                    refine q_goto gg200_63 (tg := 67) rfl ?_
                                    refine q_iretC gg200_67 ?_
                                    refine q_iret gg202_61 ?_
                                    refine qv ?_ (k2 _ (by assumption) (by assumption))
                                    simp only [askV]
                                    subst_vars
                                    first | omega | (simp; omega) | simp
                                  )
                                · try (exfalso; omega)
                                  all_goals (
                                    refine q_iload gg198_71 rfl ?_
                                    refine z_const gg198_72 (v := 1000) rfl ?_
                                    first | refine z_isub gg198_75 ?_ | refine q_isub gg198_75 ?_
                                    refine q_goto gg198_76 (tg := 80) rfl ?_
                                    refine q_iretC gg198_80 ?_
                                    first | refine z_iadd gg200_55 ?_ | refine q_iadd gg200_55 ?_
                                    refine q_istore gg200_56 rfl ?_
                                    refine q_iload gg200_57 rfl ?_
                                    refine z_ifeq gg200_58 (tg := 66) rfl (by decide) (fun z => absurd z (by decide)) (fun _ => ?_)
                                    refine q_iload gg200_61 rfl ?_
                                    refine z_ineg gg200_62 ?_
                                    refine q_goto gg200_63 (tg := 67) rfl ?_
                                    refine q_iretC gg200_67 ?_
                                    refine q_iret gg202_61 ?_
                                    refine qv ?_ (k2 _ (by assumption) (by assumption))
                                    simp only [askV]
                                    subst_vars
                                    first | omega | (simp; omega) | simp
                                  )
                              )
                            · try (exfalso; omega)
                              all_goals (
                                refine z_const gg198_60 (v := 2) rfl ?_
                                refine q_iload gg198_61 rfl ?_
                                first | refine z_imul gg198_62 ?_ | refine q_imul gg198_62 ?_
                                refine q_goto gg198_63 (tg := 80) rfl ?_
                                refine q_iretC gg198_80 ?_
                                first | refine z_iadd gg200_55 ?_ | refine q_iadd gg200_55 ?_
                                refine q_istore gg200_56 rfl ?_
                                refine q_iload gg200_57 rfl ?_
                                refine z_ifeq gg200_58 (tg := 66) rfl (by decide) (fun z => absurd z (by decide)) (fun _ => ?_)
                                refine q_iload gg200_61 rfl ?_
                                refine z_ineg gg200_62 ?_
                                refine q_goto gg200_63 (tg := 67) rfl ?_
                                refine q_iretC gg200_67 ?_
                                refine q_iret gg202_61 ?_
                                refine qv ?_ (k2 _ (by assumption) (by assumption))
                                simp only [askV]
                                subst_vars
                                first | omega | (simp; omega) | simp
                              )
                          )
                      )
                  )
              )
          )
        · try (exfalso; omega)
          all_goals (
            refine z_const gg202_34 (v := 1) rfl ?_
            refine q_goto gg202_35 (tg := 39) rfl ?_
            refine q_istore gg202_39 rfl ?_
            refine q_iload gg202_40 rfl ?_
            refine z_ifne gg202_41 (tg := 62) rfl (by omega) (fun c2 => ?_) (fun c2 => ?_)
            · try (exfalso; omega)
              all_goals (
                refine q_iload gg202_62 rfl ?_
                refine z_ifeq gg202_63 (tg := 74) rfl (by decide) (fun z => absurd z (by decide)) (fun _ => ?_)
                refine q_aload gg202_66 rfl ?_
                refine q_iload gg202_67 rfl ?_
                refine q_call2 gg202_68 tt201 rfl (Nat.le_of_ble_eq_true rfl) (hm_rv (by decide +kernel)) (ls' := [some _, some _]) rfl rfl ?_
                refine q_aload gg201_0 rfl ?_
                refine z_const gg201_1 (v := 23) rfl ?_
                refine q_call2 gg201_3 tt197 rfl (Nat.le_of_ble_eq_true rfl) (hm_rv (by decide +kernel)) (ls' := [some _, some _]) rfl rfl ?_
                refine r_begins (by assumption) (by decide) (by decide) (by decide) (by decide) (fun M1 hK1 hF1 => ?_)
                have hF0 := FKR.tr (by assumption) hF1
                have hf1 : aw (M1 36) 53 0 20000 w := by rw [hF1.1 36 (by decide) (by decide)]; assumption
                show hm_Wp _ _ _ _ _ _ _
                refine q_aload gg201_6 rfl ?_
                refine z_const gg201_7 (v := 20) rfl ?_
                refine q_call2 gg201_9 tt197 rfl (Nat.le_of_ble_eq_true rfl) (hm_rv (by decide +kernel)) (ls' := [some _, some _]) rfl rfl ?_
                refine r_begins (by assumption) (by decide) (by decide) (by decide) (by decide) (fun M1 hK1 hF1 => ?_)
                have hF0 := FKR.tr (by assumption) hF1
                have hf1 : aw (M1 36) 53 0 20000 w := by rw [hF1.1 36 (by decide) (by decide)]; assumption
                show hm_Wp _ _ _ _ _ _ _
                refine q_iload gg201_12 rfl ?_
                refine q_aload gg201_13 rfl ?_
                refine q_iload gg201_14 rfl ?_
                refine q_call2 gg201_15 tt199 rfl (Nat.le_of_ble_eq_true rfl) (hm_rv (by decide +kernel)) (ls' := [some _, some _, none, none]) rfl rfl ?_
                refine q_aload gg199_0 rfl ?_
                refine q_iload gg199_1 rfl ?_
                refine q_call2 gg199_2 tt194 rfl (Nat.le_of_ble_eq_true rfl) (hm_rv (by decide +kernel)) (ls' := [some _, some _]) rfl rfl ?_
                refine q_aload gg194_0 rfl ?_
                refine q_getr gg194_1 rfl ?_
                refine z_const gg194_4 (v := 4) rfl ?_
                refine z_const gg194_5 (v := 7) rfl ?_
                refine q_iload gg194_7 rfl ?_
                first | refine z_imul gg194_8 ?_ | refine q_imul gg194_8 ?_
                first | refine z_iadd gg194_9 ?_ | refine q_iadd gg194_9 ?_
                first | (refine z_alr gg194_10 (by first | rfl | assumption) (by assumption) (by omega) (by omega) (by omega) (by decide) (fun vkindIn_10 evkindIn_10 lvkindIn_10 uvkindIn_10 => ?_); try dsimp only at evkindIn_10) | (refine z_alx gg194_10 rfl (by assumption) (by omega) (by omega) (by first | omega | decide) (by decide) (fun vkindIn_10 evkindIn_10 lvkindIn_10 uvkindIn_10 => ?_); try dsimp only at evkindIn_10) | refine z_alq gg194_10 rfl (by omega) (by omega) (by decide) ?_
                refine q_iretC gg194_11 ?_
                refine z_const gg199_5 (v := 5) rfl ?_
                refine z_icmpne gg199_6 (tg := 13) rfl (by omega) (by omega) (fun c3 => ?_) (fun c3 => ?_)
                · try (exfalso; omega)
                  all_goals (
                    refine z_const gg199_13 (v := 0) rfl ?_
                    refine q_istore gg199_14 rfl ?_
                    refine q_iload gg199_15 rfl ?_
                    refine z_ifeq gg199_16 (tg := 25) rfl (by decide) (fun _ => ?_) (fun z => absurd z (by decide))
                    refine q_aload gg199_25 rfl ?_
                    refine z_const gg199_26 (v := 13) rfl ?_
                    refine q_call2 gg199_28 tt197 rfl (Nat.le_of_ble_eq_true rfl) (hm_rv (by decide +kernel)) (ls' := [some _, some _]) rfl rfl ?_
                    refine r_begins (by assumption) (by decide) (by decide) (by decide) (by decide) (fun M1 hK1 hF1 => ?_)
                    have hF0 := FKR.tr (by assumption) hF1
                    have hf1 : aw (M1 36) 53 0 20000 w := by rw [hF1.1 36 (by decide) (by decide)]; assumption
                    show hm_Wp _ _ _ _ _ _ _
                    refine q_aload gg199_31 rfl ?_
                    refine z_const gg199_32 (v := 10) rfl ?_
                    refine q_call2 gg199_34 tt197 rfl (Nat.le_of_ble_eq_true rfl) (hm_rv (by decide +kernel)) (ls' := [some _, some _]) rfl rfl ?_
                    refine r_begins (by assumption) (by decide) (by decide) (by decide) (by decide) (fun M1 hK1 hF1 => ?_)
                    have hF0 := FKR.tr (by assumption) hF1
                    have hf1 : aw (M1 36) 53 0 20000 w := by rw [hF1.1 36 (by decide) (by decide)]; assumption
                    show hm_Wp _ _ _ _ _ _ _
                    refine q_aload gg199_37 rfl ?_
                    refine q_getr gg199_38 rfl ?_
                    refine z_const gg199_41 (v := 4) rfl ?_
                    refine z_const gg199_42 (v := 7) rfl ?_
                    refine q_iload gg199_44 rfl ?_
                    first | refine z_imul gg199_45 ?_ | refine q_imul gg199_45 ?_
                    first | refine z_iadd gg199_46 ?_ | refine q_iadd gg199_46 ?_
                    refine z_const gg199_47 (v := 1) rfl ?_
                    first | refine z_iadd gg199_48 ?_ | refine q_iadd gg199_48 ?_
                    first | (refine z_alr gg199_49 (by first | rfl | assumption) (by assumption) (by omega) (by omega) (by omega) (by decide) (fun vblackSize_49 evblackSize_49 lvblackSize_49 uvblackSize_49 => ?_); try dsimp only at evblackSize_49) | (refine z_alx gg199_49 rfl (by assumption) (by omega) (by omega) (by first | omega | decide) (by decide) (fun vblackSize_49 evblackSize_49 lvblackSize_49 uvblackSize_49 => ?_); try dsimp only at evblackSize_49) | refine z_alq gg199_49 rfl (by omega) (by omega) (by decide) ?_
                    refine z_const gg199_50 (v := 100) rfl ?_
                    first | refine z_isub gg199_52 ?_ | refine q_isub gg199_52 ?_
                    refine q_istore gg199_53 rfl ?_
                    refine q_iload gg199_54 rfl ?_
                    refine z_ifeq gg199_55 (tg := 64) rfl (by decide) (fun _ => ?_) (fun z => absurd z (by decide))
                    refine q_iload gg199_64 rfl ?_
                    refine q_iretC gg199_65 ?_
                    first | refine z_isub gg201_18 ?_ | refine q_isub gg201_18 ?_
                    refine q_iretC gg201_19 ?_
                    refine q_goto gg202_71 (tg := 79) rfl ?_
                    refine q_iret gg202_79 ?_
                    refine qv ?_ (k2 _ (by assumption) (by assumption))
                    simp only [askV]
                    subst_vars
                    first | omega | (simp; omega) | simp
                  )
                · try (exfalso; omega)
                  all_goals (
                    refine z_const gg199_9 (v := 1) rfl ?_
                    refine q_goto gg199_10 (tg := 14) rfl ?_
                    refine q_istore gg199_14 rfl ?_
                    refine q_iload gg199_15 rfl ?_
                    refine z_ifeq gg199_16 (tg := 25) rfl (by decide) (fun z => absurd z (by decide)) (fun _ => ?_)
                    refine q_aload gg199_19 rfl ?_
                    refine z_const gg199_20 (v := 14) rfl ?_
                    refine q_call2 gg199_22 tt197 rfl (Nat.le_of_ble_eq_true rfl) (hm_rv (by decide +kernel)) (ls' := [some _, some _]) rfl rfl ?_
                    refine r_begins (by assumption) (by decide) (by decide) (by decide) (by decide) (fun M1 hK1 hF1 => ?_)
                    have hF0 := FKR.tr (by assumption) hF1
                    have hf1 : aw (M1 36) 53 0 20000 w := by rw [hF1.1 36 (by decide) (by decide)]; assumption
                    show hm_Wp _ _ _ _ _ _ _
                    refine q_aload gg199_25 rfl ?_
                    refine z_const gg199_26 (v := 13) rfl ?_
                    refine q_call2 gg199_28 tt197 rfl (Nat.le_of_ble_eq_true rfl) (hm_rv (by decide +kernel)) (ls' := [some _, some _]) rfl rfl ?_
                    refine r_begins (by assumption) (by decide) (by decide) (by decide) (by decide) (fun M1 hK1 hF1 => ?_)
                    have hF0 := FKR.tr (by assumption) hF1
                    have hf1 : aw (M1 36) 53 0 20000 w := by rw [hF1.1 36 (by decide) (by decide)]; assumption
                    show hm_Wp _ _ _ _ _ _ _
                    refine q_aload gg199_31 rfl ?_
                    refine z_const gg199_32 (v := 10) rfl ?_
                    refine q_call2 gg199_34 tt197 rfl (Nat.le_of_ble_eq_true rfl) (hm_rv (by decide +kernel)) (ls' := [some _, some _]) rfl rfl ?_
                    refine r_begins (by assumption) (by decide) (by decide) (by decide) (by decide) (fun M1 hK1 hF1 => ?_)
                    have hF0 := FKR.tr (by assumption) hF1
                    have hf1 : aw (M1 36) 53 0 20000 w := by rw [hF1.1 36 (by decide) (by decide)]; assumption
                    show hm_Wp _ _ _ _ _ _ _
                    refine q_aload gg199_37 rfl ?_
                    refine q_getr gg199_38 rfl ?_
                    refine z_const gg199_41 (v := 4) rfl ?_
                    refine z_const gg199_42 (v := 7) rfl ?_
                    refine q_iload gg199_44 rfl ?_
                    first | refine z_imul gg199_45 ?_ | refine q_imul gg199_45 ?_
                    first | refine z_iadd gg199_46 ?_ | refine q_iadd gg199_46 ?_
                    refine z_const gg199_47 (v := 1) rfl ?_
                    first | refine z_iadd gg199_48 ?_ | refine q_iadd gg199_48 ?_
                    first | (refine z_alr gg199_49 (by first | rfl | assumption) (by assumption) (by omega) (by omega) (by omega) (by decide) (fun vblackSize_49 evblackSize_49 lvblackSize_49 uvblackSize_49 => ?_); try dsimp only at evblackSize_49) | (refine z_alx gg199_49 rfl (by assumption) (by omega) (by omega) (by first | omega | decide) (by decide) (fun vblackSize_49 evblackSize_49 lvblackSize_49 uvblackSize_49 => ?_); try dsimp only at evblackSize_49) | refine z_alq gg199_49 rfl (by omega) (by omega) (by decide) ?_
                    refine z_const gg199_50 (v := 100) rfl ?_
                    first | refine z_isub gg199_52 ?_ | refine q_isub gg199_52 ?_
                    refine q_istore gg199_53 rfl ?_
                    refine q_iload gg199_54 rfl ?_
                    refine z_ifeq gg199_55 (tg := 64) rfl (by decide) (fun z => absurd z (by decide)) (fun _ => ?_)
                    refine z_const gg199_58 (v := 2) rfl ?_
                    refine q_iload gg199_59 rfl ?_
                    first | refine z_imul gg199_60 ?_ | refine q_imul gg199_60 ?_
                    refine q_goto gg199_61 (tg := 65) rfl ?_
                    refine q_iretC gg199_65 ?_
                    first | refine z_isub gg201_18 ?_ | refine q_isub gg201_18 ?_
                    refine q_iretC gg201_19 ?_
                    refine q_goto gg202_71 (tg := 79) rfl ?_
                    refine q_iret gg202_79 ?_
                    refine qv ?_ (k2 _ (by assumption) (by assumption))
                    simp only [askV]
                    subst_vars
                    first | omega | (simp; omega) | simp
                  )
              )
            · try (exfalso; omega)
              all_goals (
                refine q_iload gg202_44 rfl ?_
                refine z_ifeq gg202_45 (tg := 56) rfl (by decide) (fun z => absurd z (by decide)) (fun _ => ?_)
                refine q_aload gg202_48 rfl ?_
                refine q_iload gg202_49 rfl ?_
                refine q_call2 gg202_50 tt199 rfl (Nat.le_of_ble_eq_true rfl) (hm_rv (by decide +kernel)) (ls' := [some _, some _, none, none]) rfl rfl ?_
                refine q_aload gg199_0 rfl ?_
                refine q_iload gg199_1 rfl ?_
                refine q_call2 gg199_2 tt194 rfl (Nat.le_of_ble_eq_true rfl) (hm_rv (by decide +kernel)) (ls' := [some _, some _]) rfl rfl ?_
                refine q_aload gg194_0 rfl ?_
                refine q_getr gg194_1 rfl ?_
                refine z_const gg194_4 (v := 4) rfl ?_
                refine z_const gg194_5 (v := 7) rfl ?_
                refine q_iload gg194_7 rfl ?_
                first | refine z_imul gg194_8 ?_ | refine q_imul gg194_8 ?_
                first | refine z_iadd gg194_9 ?_ | refine q_iadd gg194_9 ?_
                first | (refine z_alr gg194_10 (by first | rfl | assumption) (by assumption) (by omega) (by omega) (by omega) (by decide) (fun vkindIn_10 evkindIn_10 lvkindIn_10 uvkindIn_10 => ?_); try dsimp only at evkindIn_10) | (refine z_alx gg194_10 rfl (by assumption) (by omega) (by omega) (by first | omega | decide) (by decide) (fun vkindIn_10 evkindIn_10 lvkindIn_10 uvkindIn_10 => ?_); try dsimp only at evkindIn_10) | refine z_alq gg194_10 rfl (by omega) (by omega) (by decide) ?_
                refine q_iretC gg194_11 ?_
                refine z_const gg199_5 (v := 5) rfl ?_
                refine z_icmpne gg199_6 (tg := 13) rfl (by omega) (by omega) (fun c3 => ?_) (fun c3 => ?_)
                · try (exfalso; omega)
                  all_goals (
                    refine z_const gg199_13 (v := 0) rfl ?_
                    refine q_istore gg199_14 rfl ?_
                    refine q_iload gg199_15 rfl ?_
                    refine z_ifeq gg199_16 (tg := 25) rfl (by decide) (fun _ => ?_) (fun z => absurd z (by decide))
                    refine q_aload gg199_25 rfl ?_
                    refine z_const gg199_26 (v := 13) rfl ?_
                    refine q_call2 gg199_28 tt197 rfl (Nat.le_of_ble_eq_true rfl) (hm_rv (by decide +kernel)) (ls' := [some _, some _]) rfl rfl ?_
                    refine r_begins (by assumption) (by decide) (by decide) (by decide) (by decide) (fun M1 hK1 hF1 => ?_)
                    have hF0 := FKR.tr (by assumption) hF1
                    have hf1 : aw (M1 36) 53 0 20000 w := by rw [hF1.1 36 (by decide) (by decide)]; assumption
                    show hm_Wp _ _ _ _ _ _ _
                    refine q_aload gg199_31 rfl ?_
                    refine z_const gg199_32 (v := 10) rfl ?_
                    refine q_call2 gg199_34 tt197 rfl (Nat.le_of_ble_eq_true rfl) (hm_rv (by decide +kernel)) (ls' := [some _, some _]) rfl rfl ?_
                    refine r_begins (by assumption) (by decide) (by decide) (by decide) (by decide) (fun M1 hK1 hF1 => ?_)
                    have hF0 := FKR.tr (by assumption) hF1
                    have hf1 : aw (M1 36) 53 0 20000 w := by rw [hF1.1 36 (by decide) (by decide)]; assumption
                    show hm_Wp _ _ _ _ _ _ _
                    refine q_aload gg199_37 rfl ?_
                    refine q_getr gg199_38 rfl ?_
                    refine z_const gg199_41 (v := 4) rfl ?_
                    refine z_const gg199_42 (v := 7) rfl ?_
                    refine q_iload gg199_44 rfl ?_
                    first | refine z_imul gg199_45 ?_ | refine q_imul gg199_45 ?_
                    first | refine z_iadd gg199_46 ?_ | refine q_iadd gg199_46 ?_
                    refine z_const gg199_47 (v := 1) rfl ?_
                    first | refine z_iadd gg199_48 ?_ | refine q_iadd gg199_48 ?_
                    first | (refine z_alr gg199_49 (by first | rfl | assumption) (by assumption) (by omega) (by omega) (by omega) (by decide) (fun vblackSize_49 evblackSize_49 lvblackSize_49 uvblackSize_49 => ?_); try dsimp only at evblackSize_49) | (refine z_alx gg199_49 rfl (by assumption) (by omega) (by omega) (by first | omega | decide) (by decide) (fun vblackSize_49 evblackSize_49 lvblackSize_49 uvblackSize_49 => ?_); try dsimp only at evblackSize_49) | refine z_alq gg199_49 rfl (by omega) (by omega) (by decide) ?_
                    refine z_const gg199_50 (v := 100) rfl ?_
                    first | refine z_isub gg199_52 ?_ | refine q_isub gg199_52 ?_
                    refine q_istore gg199_53 rfl ?_
                    refine q_iload gg199_54 rfl ?_
                    refine z_ifeq gg199_55 (tg := 64) rfl (by decide) (fun _ => ?_) (fun z => absurd z (by decide))
                    refine q_iload gg199_64 rfl ?_
                    refine q_iretC gg199_65 ?_
                    refine q_goto gg202_53 (tg := 61) rfl ?_
                    refine q_iret gg202_61 ?_
                    refine qv ?_ (k2 _ (by assumption) (by assumption))
                    simp only [askV]
                    subst_vars
                    first | omega | (simp; omega) | simp
                  )
                · try (exfalso; omega)
                  all_goals (
                    refine z_const gg199_9 (v := 1) rfl ?_
                    refine q_goto gg199_10 (tg := 14) rfl ?_
                    refine q_istore gg199_14 rfl ?_
                    refine q_iload gg199_15 rfl ?_
                    refine z_ifeq gg199_16 (tg := 25) rfl (by decide) (fun z => absurd z (by decide)) (fun _ => ?_)
                    refine q_aload gg199_19 rfl ?_
                    refine z_const gg199_20 (v := 14) rfl ?_
                    refine q_call2 gg199_22 tt197 rfl (Nat.le_of_ble_eq_true rfl) (hm_rv (by decide +kernel)) (ls' := [some _, some _]) rfl rfl ?_
                    refine r_begins (by assumption) (by decide) (by decide) (by decide) (by decide) (fun M1 hK1 hF1 => ?_)
                    have hF0 := FKR.tr (by assumption) hF1
                    have hf1 : aw (M1 36) 53 0 20000 w := by rw [hF1.1 36 (by decide) (by decide)]; assumption
                    show hm_Wp _ _ _ _ _ _ _
                    refine q_aload gg199_25 rfl ?_
                    refine z_const gg199_26 (v := 13) rfl ?_
                    refine q_call2 gg199_28 tt197 rfl (Nat.le_of_ble_eq_true rfl) (hm_rv (by decide +kernel)) (ls' := [some _, some _]) rfl rfl ?_
                    refine r_begins (by assumption) (by decide) (by decide) (by decide) (by decide) (fun M1 hK1 hF1 => ?_)
                    have hF0 := FKR.tr (by assumption) hF1
                    have hf1 : aw (M1 36) 53 0 20000 w := by rw [hF1.1 36 (by decide) (by decide)]; assumption
                    show hm_Wp _ _ _ _ _ _ _
                    refine q_aload gg199_31 rfl ?_
                    refine z_const gg199_32 (v := 10) rfl ?_
                    refine q_call2 gg199_34 tt197 rfl (Nat.le_of_ble_eq_true rfl) (hm_rv (by decide +kernel)) (ls' := [some _, some _]) rfl rfl ?_
                    refine r_begins (by assumption) (by decide) (by decide) (by decide) (by decide) (fun M1 hK1 hF1 => ?_)
                    have hF0 := FKR.tr (by assumption) hF1
                    have hf1 : aw (M1 36) 53 0 20000 w := by rw [hF1.1 36 (by decide) (by decide)]; assumption
                    show hm_Wp _ _ _ _ _ _ _
                    refine q_aload gg199_37 rfl ?_
                    refine q_getr gg199_38 rfl ?_
                    refine z_const gg199_41 (v := 4) rfl ?_
                    refine z_const gg199_42 (v := 7) rfl ?_
                    refine q_iload gg199_44 rfl ?_
                    first | refine z_imul gg199_45 ?_ | refine q_imul gg199_45 ?_
                    first | refine z_iadd gg199_46 ?_ | refine q_iadd gg199_46 ?_
                    refine z_const gg199_47 (v := 1) rfl ?_
                    first | refine z_iadd gg199_48 ?_ | refine q_iadd gg199_48 ?_
                    first | (refine z_alr gg199_49 (by first | rfl | assumption) (by assumption) (by omega) (by omega) (by omega) (by decide) (fun vblackSize_49 evblackSize_49 lvblackSize_49 uvblackSize_49 => ?_); try dsimp only at evblackSize_49) | (refine z_alx gg199_49 rfl (by assumption) (by omega) (by omega) (by first | omega | decide) (by decide) (fun vblackSize_49 evblackSize_49 lvblackSize_49 uvblackSize_49 => ?_); try dsimp only at evblackSize_49) | refine z_alq gg199_49 rfl (by omega) (by omega) (by decide) ?_
                    refine z_const gg199_50 (v := 100) rfl ?_
                    first | refine z_isub gg199_52 ?_ | refine q_isub gg199_52 ?_
                    refine q_istore gg199_53 rfl ?_
                    refine q_iload gg199_54 rfl ?_
                    refine z_ifeq gg199_55 (tg := 64) rfl (by decide) (fun z => absurd z (by decide)) (fun _ => ?_)
                    refine z_const gg199_58 (v := 2) rfl ?_
                    refine q_iload gg199_59 rfl ?_
                    first | refine z_imul gg199_60 ?_ | refine q_imul gg199_60 ?_
                    refine q_goto gg199_61 (tg := 65) rfl ?_
                    refine q_iretC gg199_65 ?_
                    refine q_goto gg202_53 (tg := 61) rfl ?_
                    refine q_iret gg202_61 ?_
                    refine qv ?_ (k2 _ (by assumption) (by assumption))
                    simp only [askV]
                    subst_vars
                    first | omega | (simp; omega) | simp
                  )
              )
          )
      )
    refine q_aload gg202_0 rfl ?_
    refine q_iload gg202_1 rfl ?_
    refine q_call2 gg202_2 tt152 rfl (Nat.le_of_ble_eq_true rfl) (hm_rv (by decide +kernel)) (ls' := [some _, some _]) rfl rfl ?_
    refine q_iload gg152_0 rfl ?_
    refine z_const gg152_1 (v := 0) rfl ?_
    refine q_aload gg152_2 rfl ?_
    refine q_getr gg152_3 rfl ?_
    refine z_const gg152_6 (v := 2) rfl ?_
    first | (refine z_alr gg152_7 (by first | rfl | assumption) (by assumption) (by omega) (by omega) (by omega) (by decide) (fun visBasin_7 evisBasin_7 lvisBasin_7 uvisBasin_7 => ?_); try dsimp only at evisBasin_7) | (refine z_alx gg152_7 rfl (by assumption) (by omega) (by omega) (by first | omega | decide) (by decide) (fun visBasin_7 evisBasin_7 lvisBasin_7 uvisBasin_7 => ?_); try dsimp only at evisBasin_7) | refine z_alq gg152_7 rfl (by omega) (by omega) (by decide) ?_
    refine z_const gg152_8 (v := 1) rfl ?_
    first | refine z_isub gg152_9 ?_ | refine q_isub gg152_9 ?_
    refine q_call3 gg152_10 tt124 rfl (Nat.le_of_ble_eq_true rfl) rfl (ls' := [some _, some _, some _]) rfl rfl ?_
    refine q_iload gg124_0 rfl ?_
    refine q_iload gg124_1 rfl ?_
    refine z_icmplt gg124_2 (tg := 14) rfl (by omega) (by omega) (fun c1 => ?_) (fun c1 => ?_)
    · try (exfalso; omega)
      all_goals (
        refine z_const gg124_14 (v := 0) rfl ?_
        refine z_zretC gg124_15 (by omega) ?_
        refine z_zretC gg152_13 (by omega) ?_
        refine z_ifeq gg202_5 (tg := 17) rfl (by decide) (fun _ => ?_) (fun z => absurd z (by decide))
        refine z_neg gg202_17 ?_
        refine q_iret gg202_19 ?_
        exfalso
        omega
      )
    · try (exfalso; omega)
      all_goals (
        refine q_iload gg124_5 rfl ?_
        refine q_iload gg124_6 rfl ?_
        refine z_icmpgt gg124_7 (tg := 14) rfl (by omega) (by omega) (fun c2 => ?_) (fun c2 => ?_)
        · try (exfalso; omega)
          all_goals (
            refine z_const gg124_14 (v := 0) rfl ?_
            refine z_zretC gg124_15 (by omega) ?_
            refine z_zretC gg152_13 (by omega) ?_
            refine z_ifeq gg202_5 (tg := 17) rfl (by decide) (fun _ => ?_) (fun z => absurd z (by decide))
            refine z_neg gg202_17 ?_
            refine q_iret gg202_19 ?_
            exfalso
            omega
          )
        · try (exfalso; omega)
          all_goals (
            refine z_const gg124_10 (v := 1) rfl ?_
            refine q_goto gg124_11 (tg := 15) rfl ?_
            refine z_zretC gg124_15 (by omega) ?_
            refine z_zretC gg152_13 (by omega) ?_
            refine z_ifeq gg202_5 (tg := 17) rfl (by decide) (fun z => absurd z (by decide)) (fun _ => ?_)
            refine q_iload gg202_8 rfl ?_
            refine z_const gg202_9 (v := 0) rfl ?_
            refine z_const gg202_10 (v := 1) rfl ?_
            refine q_call3 gg202_11 tt124 rfl (Nat.le_of_ble_eq_true rfl) rfl (ls' := [some _, some _, some _]) rfl rfl ?_
            refine q_iload gg124_0 rfl ?_
            refine q_iload gg124_1 rfl ?_
            refine z_icmplt gg124_2 (tg := 14) rfl (by omega) (by omega) (fun c3 => ?_) (fun c3 => ?_)
            · try (exfalso; omega)
              all_goals (
                refine z_const gg124_14 (v := 0) rfl ?_
                refine z_zretC gg124_15 (by omega) ?_
                refine z_ifne gg202_14 (tg := 20) rfl (by decide) (fun z => absurd z (by decide)) (fun _ => ?_)
                refine z_neg gg202_17 ?_
                refine q_iret gg202_19 ?_
                exfalso
                omega
              )
            · try (exfalso; omega)
              all_goals (
                refine q_iload gg124_5 rfl ?_
                refine q_iload gg124_6 rfl ?_
                refine z_icmpgt gg124_7 (tg := 14) rfl (by omega) (by omega) (fun c4 => ?_) (fun c4 => ?_)
                · try (exfalso; omega)
                  all_goals (
                    refine z_const gg124_14 (v := 0) rfl ?_
                    refine z_zretC gg124_15 (by omega) ?_
                    refine z_ifne gg202_14 (tg := 20) rfl (by decide) (fun z => absurd z (by decide)) (fun _ => ?_)
                    refine z_neg gg202_17 ?_
                    refine q_iret gg202_19 ?_
                    exfalso
                    omega
                  )
                · try (exfalso; omega)
                  all_goals (
                    refine z_const gg124_10 (v := 1) rfl ?_
                    refine q_goto gg124_11 (tg := 15) rfl ?_
                    refine z_zretC gg124_15 (by omega) ?_
                    refine z_ifne gg202_14 (tg := 20) rfl (by decide) (fun _ => ?_) (fun z => absurd z (by decide))
                    refine q_aload gg202_20 rfl ?_
                    refine z_const gg202_21 (v := 0) rfl ?_
                    refine q_putf gg202_22 rfl ?_
                    rw [hM0]
                    exact go
                  )
              )
          )
      )
  · have kq := k0 hin
    rw [hE, if_neg hin] at kq
    refine q_aload gg202_0 rfl ?_
    refine q_iload gg202_1 rfl ?_
    refine q_call2 gg202_2 tt152 rfl (Nat.le_of_ble_eq_true rfl) (hm_rv (by decide +kernel)) (ls' := [some _, some _]) rfl rfl ?_
    refine q_iload gg152_0 rfl ?_
    refine z_const gg152_1 (v := 0) rfl ?_
    refine q_aload gg152_2 rfl ?_
    refine q_getr gg152_3 rfl ?_
    refine z_const gg152_6 (v := 2) rfl ?_
    first | (refine z_alr gg152_7 (by first | rfl | assumption) (by assumption) (by omega) (by omega) (by omega) (by decide) (fun visBasin_7 evisBasin_7 lvisBasin_7 uvisBasin_7 => ?_); try dsimp only at evisBasin_7) | (refine z_alx gg152_7 rfl (by assumption) (by omega) (by omega) (by first | omega | decide) (by decide) (fun visBasin_7 evisBasin_7 lvisBasin_7 uvisBasin_7 => ?_); try dsimp only at evisBasin_7) | refine z_alq gg152_7 rfl (by omega) (by omega) (by decide) ?_
    refine z_const gg152_8 (v := 1) rfl ?_
    first | refine z_isub gg152_9 ?_ | refine q_isub gg152_9 ?_
    refine q_call3 gg152_10 tt124 rfl (Nat.le_of_ble_eq_true rfl) rfl (ls' := [some _, some _, some _]) rfl rfl ?_
    refine q_iload gg124_0 rfl ?_
    refine q_iload gg124_1 rfl ?_
    refine z_icmplt gg124_2 (tg := 14) rfl (by omega) (by omega) (fun c1 => ?_) (fun c1 => ?_)
    · try (exfalso; omega)
      all_goals (
        refine z_const gg124_14 (v := 0) rfl ?_
        refine z_zretC gg124_15 (by omega) ?_
        refine z_zretC gg152_13 (by omega) ?_
        refine z_ifeq gg202_5 (tg := 17) rfl (by decide) (fun _ => ?_) (fun z => absurd z (by decide))
        refine z_neg gg202_17 ?_
        refine q_iret gg202_19 ?_
        exact kq
      )
    · try (exfalso; omega)
      all_goals (
        refine q_iload gg124_5 rfl ?_
        refine q_iload gg124_6 rfl ?_
        refine z_icmpgt gg124_7 (tg := 14) rfl (by omega) (by omega) (fun c2 => ?_) (fun c2 => ?_)
        · try (exfalso; omega)
          all_goals (
            refine z_const gg124_14 (v := 0) rfl ?_
            refine z_zretC gg124_15 (by omega) ?_
            refine z_zretC gg152_13 (by omega) ?_
            refine z_ifeq gg202_5 (tg := 17) rfl (by decide) (fun _ => ?_) (fun z => absurd z (by decide))
            refine z_neg gg202_17 ?_
            refine q_iret gg202_19 ?_
            exact kq
          )
        · try (exfalso; omega)
          all_goals (
            refine z_const gg124_10 (v := 1) rfl ?_
            refine q_goto gg124_11 (tg := 15) rfl ?_
            refine z_zretC gg124_15 (by omega) ?_
            refine z_zretC gg152_13 (by omega) ?_
            refine z_ifeq gg202_5 (tg := 17) rfl (by decide) (fun z => absurd z (by decide)) (fun _ => ?_)
            refine q_iload gg202_8 rfl ?_
            refine z_const gg202_9 (v := 0) rfl ?_
            refine z_const gg202_10 (v := 1) rfl ?_
            refine q_call3 gg202_11 tt124 rfl (Nat.le_of_ble_eq_true rfl) rfl (ls' := [some _, some _, some _]) rfl rfl ?_
            refine q_iload gg124_0 rfl ?_
            refine q_iload gg124_1 rfl ?_
            refine z_icmplt gg124_2 (tg := 14) rfl (by omega) (by omega) (fun c3 => ?_) (fun c3 => ?_)
            · try (exfalso; omega)
              all_goals (
                refine z_const gg124_14 (v := 0) rfl ?_
                refine z_zretC gg124_15 (by omega) ?_
                refine z_ifne gg202_14 (tg := 20) rfl (by decide) (fun z => absurd z (by decide)) (fun _ => ?_)
                refine z_neg gg202_17 ?_
                refine q_iret gg202_19 ?_
                exact kq
              )
            · try (exfalso; omega)
              all_goals (
                refine q_iload gg124_5 rfl ?_
                refine q_iload gg124_6 rfl ?_
                refine z_icmpgt gg124_7 (tg := 14) rfl (by omega) (by omega) (fun c4 => ?_) (fun c4 => ?_)
                · try (exfalso; omega)
                  all_goals (
                    refine z_const gg124_14 (v := 0) rfl ?_
                    refine z_zretC gg124_15 (by omega) ?_
                    refine z_ifne gg202_14 (tg := 20) rfl (by decide) (fun z => absurd z (by decide)) (fun _ => ?_)
                    refine z_neg gg202_17 ?_
                    refine q_iret gg202_19 ?_
                    exact kq
                  )
                · try (exfalso; omega)
                  all_goals (
                    refine z_const gg124_10 (v := 1) rfl ?_
                    refine q_goto gg124_11 (tg := 15) rfl ?_
                    refine z_zretC gg124_15 (by omega) ?_
                    refine z_ifne gg202_14 (tg := 20) rfl (by decide) (fun _ => ?_) (fun z => absurd z (by decide))
                    exfalso
                    omega
                  )
              )
          )
      )
theorem z_alen {n : Nat} {v : Int} {c : Int} (h : hm_at mid pc = some (nx, 22, c, k, l)) (ha : hm_arr M false r = some (n, f)) (hv : (n : Int) = v) (kk : hm_Wp d mid nx ls (.inl (zI v) :: sk) M Q) : hm_Wp d mid pc ls (.inr (.inr r) :: sk) M Q := by
  subst hv; exact q_alen h ha kk
/-! as -/
def pBody (k : Int) : Int := if k = 0 then -1 else if k = 1 then 0 else if k = 2 then 1 else if k = 3 then 1 else if k = 4 then 0 else 4
theorem pA_aw : aw (fun j => ([-1, 0, 1, 1, 0, 4] : List Int32).getD j 0) 6 (-1) 100 pBody := by
  intro i i0 i1
  have h : i = 0 ∨ i = 1 ∨ i = 2 ∨ i = 3 ∨ i = 4 ∨ i = 5 := by omega
  rcases h with rfl | rfl | rfl | rfl | rfl | rfl <;> decide
theorem isA_m1 (h0 : 0 ≤ s) (h1 : s ≤ 6) (k0 : True → Q (some (.inl (zI 0))) M) : hm_Wp d 4 4 [some (.inl (zI x)), some (.inl (zI y)), some (.inl (zI (-1))), some (.inl (zI s))] [] M Q := by
  refine q_iload gg4_4 rfl ?_
  refine q_gets gg4_5 (by decide) ?_
  first | refine z_alen gg4_8 rfl (v := 6) (by decide) ?_ | refine q_alen gg4_8 rfl ?_
  refine z_icmpge gg4_9 (tg := 43) rfl (by omega) (by omega) (fun c1 => ?_) (fun c1 => ?_)
  · try (exfalso; omega)
    all_goals (
      refine z_const gg4_43 (v := 0) rfl ?_
      refine z_zret gg4_44 (by omega) ?_
      exact k0 trivial
    )
  · try (exfalso; omega)
    all_goals (
      refine q_iload gg4_12 rfl ?_
      refine z_iflt gg4_13 (tg := 43) rfl (by omega) (fun c2 => ?_) (fun c2 => ?_)
      · try (exfalso; omega)
        all_goals (
          refine z_const gg4_43 (v := 0) rfl ?_
          refine z_zret gg4_44 (by omega) ?_
          exact k0 trivial
        )
      · try (exfalso; omega)
        all_goals (
          exfalso
          omega
        )
    )
theorem isA_0 (h0 : 0 ≤ s) (h1 : s ≤ 5) (k1 : y = 0 → Q (some (.inl (zI 1))) M) (k0 : ¬ (y = 0) → Q (some (.inl (zI 0))) M) (hy : zR y) : hm_Wp d 4 4 [some (.inl (zI x)), some (.inl (zI y)), some (.inl (zI 0)), some (.inl (zI s))] [] M Q := by
  have t1 := pA_aw
  unfold zR at hy
  refine q_iload gg4_4 rfl ?_
  refine q_gets gg4_5 (by decide) ?_
  first | refine z_alen gg4_8 rfl (v := 6) (by decide) ?_ | refine q_alen gg4_8 rfl ?_
  refine z_icmpge gg4_9 (tg := 43) rfl (by omega) (by omega) (fun c1 => ?_) (fun c1 => ?_)
  · try (exfalso; omega)
    all_goals (
      refine z_const gg4_43 (v := 0) rfl ?_
      refine z_zret gg4_44 (by omega) ?_
      exfalso
      omega
    )
  · try (exfalso; omega)
    all_goals (
      refine q_iload gg4_12 rfl ?_
      refine z_iflt gg4_13 (tg := 43) rfl (by omega) (fun c2 => ?_) (fun c2 => ?_)
      · try (exfalso; omega)
        all_goals (
          refine z_const gg4_43 (v := 0) rfl ?_
          refine z_zret gg4_44 (by omega) ?_
          exfalso
          omega
        )
      · try (exfalso; omega)
        all_goals (
          refine q_iload gg4_16 rfl ?_
          refine q_gets gg4_17 (by decide) ?_
          first | refine z_alen gg4_20 rfl (v := 6) (by decide) ?_ | refine q_alen gg4_20 rfl ?_
          refine z_icmpge gg4_21 (tg := 43) rfl (by omega) (by omega) (fun c3 => ?_) (fun c3 => ?_)
          · try (exfalso; omega)
            all_goals (
              refine z_const gg4_43 (v := 0) rfl ?_
              refine z_zret gg4_44 (by omega) ?_
              exfalso
              omega
            )
          · try (exfalso; omega)
            all_goals (
              refine q_iload gg4_24 rfl ?_
              refine q_iload gg4_25 rfl ?_
              refine z_icmpne gg4_26 (tg := 31) rfl (by omega) (by omega) (fun c4 => ?_) (fun c4 => ?_)
              · try (exfalso; omega)
                all_goals (
                  refine q_gets gg4_31 (by decide) ?_
                  refine q_iload gg4_34 rfl ?_
                  first | (refine z_alr gg4_35 (by first | rfl | assumption) (by assumption) (by omega) (by omega) (by omega) (by decide) (fun v35 ev35 lv35 uv35 => ?_); try dsimp only at ev35) | (refine z_alx gg4_35 rfl (by assumption) (by omega) (by omega) (by first | omega | decide) (by decide) (fun v35 ev35 lv35 uv35 => ?_); try dsimp only at ev35) | refine z_alq gg4_35 rfl (by omega) (by omega) (by decide) ?_
                  refine q_istore gg4_36 rfl ?_
                  rw [ev35, show pBody 0 = -1 by decide]
                  refine z_iinc gg4_37 rfl rfl ?_
                  refine q_goto gg4_40 (tg := 4) rfl ?_
                  exact isA_m1 (by omega) (by omega) (fun z => k0 (by omega))
                )
              · try (exfalso; omega)
                all_goals (
                  refine z_const gg4_29 (v := 1) rfl ?_
                  refine z_zret gg4_30 (by omega) ?_
                  exact k1 (by omega)
                )
            )
        )
    )
theorem isA_1 (h0 : 0 ≤ s) (h1 : s ≤ 4) (k1 : y = 1 ∨ y = 0 → Q (some (.inl (zI 1))) M) (k0 : ¬ (y = 1 ∨ y = 0) → Q (some (.inl (zI 0))) M) (hy : zR y) : hm_Wp d 4 4 [some (.inl (zI x)), some (.inl (zI y)), some (.inl (zI 1)), some (.inl (zI s))] [] M Q := by
  have t1 := pA_aw
  unfold zR at hy
  refine q_iload gg4_4 rfl ?_
  refine q_gets gg4_5 (by decide) ?_
  first | refine z_alen gg4_8 rfl (v := 6) (by decide) ?_ | refine q_alen gg4_8 rfl ?_
  refine z_icmpge gg4_9 (tg := 43) rfl (by omega) (by omega) (fun c1 => ?_) (fun c1 => ?_)
  · try (exfalso; omega)
    all_goals (
      refine z_const gg4_43 (v := 0) rfl ?_
      refine z_zret gg4_44 (by omega) ?_
      exfalso
      omega
    )
  · try (exfalso; omega)
    all_goals (
      refine q_iload gg4_12 rfl ?_
      refine z_iflt gg4_13 (tg := 43) rfl (by omega) (fun c2 => ?_) (fun c2 => ?_)
      · try (exfalso; omega)
        all_goals (
          refine z_const gg4_43 (v := 0) rfl ?_
          refine z_zret gg4_44 (by omega) ?_
          exfalso
          omega
        )
      · try (exfalso; omega)
        all_goals (
          refine q_iload gg4_16 rfl ?_
          refine q_gets gg4_17 (by decide) ?_
          first | refine z_alen gg4_20 rfl (v := 6) (by decide) ?_ | refine q_alen gg4_20 rfl ?_
          refine z_icmpge gg4_21 (tg := 43) rfl (by omega) (by omega) (fun c3 => ?_) (fun c3 => ?_)
          · try (exfalso; omega)
            all_goals (
              refine z_const gg4_43 (v := 0) rfl ?_
              refine z_zret gg4_44 (by omega) ?_
              exfalso
              omega
            )
          · try (exfalso; omega)
            all_goals (
              refine q_iload gg4_24 rfl ?_
              refine q_iload gg4_25 rfl ?_
              refine z_icmpne gg4_26 (tg := 31) rfl (by omega) (by omega) (fun c4 => ?_) (fun c4 => ?_)
              · try (exfalso; omega)
                all_goals (
                  refine q_gets gg4_31 (by decide) ?_
                  refine q_iload gg4_34 rfl ?_
                  first | (refine z_alr gg4_35 (by first | rfl | assumption) (by assumption) (by omega) (by omega) (by omega) (by decide) (fun v35 ev35 lv35 uv35 => ?_); try dsimp only at ev35) | (refine z_alx gg4_35 rfl (by assumption) (by omega) (by omega) (by first | omega | decide) (by decide) (fun v35 ev35 lv35 uv35 => ?_); try dsimp only at ev35) | refine z_alq gg4_35 rfl (by omega) (by omega) (by decide) ?_
                  refine q_istore gg4_36 rfl ?_
                  rw [ev35, show pBody 1 = 0 by decide]
                  refine z_iinc gg4_37 rfl rfl ?_
                  refine q_goto gg4_40 (tg := 4) rfl ?_
                  exact isA_0 (by omega) (by omega) (fun z => k1 (by omega)) (fun z => k0 (by omega)) hy
                )
              · try (exfalso; omega)
                all_goals (
                  refine z_const gg4_29 (v := 1) rfl ?_
                  refine z_zret gg4_30 (by omega) ?_
                  exact k1 (by omega)
                )
            )
        )
    )
theorem isA_4 (h0 : 0 ≤ s) (h1 : s ≤ 4) (k1 : y = 4 ∨ y = 0 → Q (some (.inl (zI 1))) M) (k0 : ¬ (y = 4 ∨ y = 0) → Q (some (.inl (zI 0))) M) (hy : zR y) : hm_Wp d 4 4 [some (.inl (zI x)), some (.inl (zI y)), some (.inl (zI 4)), some (.inl (zI s))] [] M Q := by
  have t1 := pA_aw
  unfold zR at hy
  refine q_iload gg4_4 rfl ?_
  refine q_gets gg4_5 (by decide) ?_
  first | refine z_alen gg4_8 rfl (v := 6) (by decide) ?_ | refine q_alen gg4_8 rfl ?_
  refine z_icmpge gg4_9 (tg := 43) rfl (by omega) (by omega) (fun c1 => ?_) (fun c1 => ?_)
  · try (exfalso; omega)
    all_goals (
      refine z_const gg4_43 (v := 0) rfl ?_
      refine z_zret gg4_44 (by omega) ?_
      exfalso
      omega
    )
  · try (exfalso; omega)
    all_goals (
      refine q_iload gg4_12 rfl ?_
      refine z_iflt gg4_13 (tg := 43) rfl (by omega) (fun c2 => ?_) (fun c2 => ?_)
      · try (exfalso; omega)
        all_goals (
          refine z_const gg4_43 (v := 0) rfl ?_
          refine z_zret gg4_44 (by omega) ?_
          exfalso
          omega
        )
      · try (exfalso; omega)
        all_goals (
          refine q_iload gg4_16 rfl ?_
          refine q_gets gg4_17 (by decide) ?_
          first | refine z_alen gg4_20 rfl (v := 6) (by decide) ?_ | refine q_alen gg4_20 rfl ?_
          refine z_icmpge gg4_21 (tg := 43) rfl (by omega) (by omega) (fun c3 => ?_) (fun c3 => ?_)
          · try (exfalso; omega)
            all_goals (
              refine z_const gg4_43 (v := 0) rfl ?_
              refine z_zret gg4_44 (by omega) ?_
              exfalso
              omega
            )
          · try (exfalso; omega)
            all_goals (
              refine q_iload gg4_24 rfl ?_
              refine q_iload gg4_25 rfl ?_
              refine z_icmpne gg4_26 (tg := 31) rfl (by omega) (by omega) (fun c4 => ?_) (fun c4 => ?_)
              · try (exfalso; omega)
                all_goals (
                  refine q_gets gg4_31 (by decide) ?_
                  refine q_iload gg4_34 rfl ?_
                  first | (refine z_alr gg4_35 (by first | rfl | assumption) (by assumption) (by omega) (by omega) (by omega) (by decide) (fun v35 ev35 lv35 uv35 => ?_); try dsimp only at ev35) | (refine z_alx gg4_35 rfl (by assumption) (by omega) (by omega) (by first | omega | decide) (by decide) (fun v35 ev35 lv35 uv35 => ?_); try dsimp only at ev35) | refine z_alq gg4_35 rfl (by omega) (by omega) (by decide) ?_
                  refine q_istore gg4_36 rfl ?_
                  rw [ev35, show pBody 4 = 0 by decide]
                  refine z_iinc gg4_37 rfl rfl ?_
                  refine q_goto gg4_40 (tg := 4) rfl ?_
                  exact isA_0 (by omega) (by omega) (fun z => k1 (by omega)) (fun z => k0 (by omega)) hy
                )
              · try (exfalso; omega)
                all_goals (
                  refine z_const gg4_29 (v := 1) rfl ?_
                  refine z_zret gg4_30 (by omega) ?_
                  exact k1 (by omega)
                )
            )
        )
    )
theorem isA_2 (h0 : 0 ≤ s) (h1 : s ≤ 3) (k1 : y = 2 ∨ y = 1 ∨ y = 0 → Q (some (.inl (zI 1))) M) (k0 : ¬ (y = 2 ∨ y = 1 ∨ y = 0) → Q (some (.inl (zI 0))) M) (hy : zR y) : hm_Wp d 4 4 [some (.inl (zI x)), some (.inl (zI y)), some (.inl (zI 2)), some (.inl (zI s))] [] M Q := by
  have t1 := pA_aw
  unfold zR at hy
  refine q_iload gg4_4 rfl ?_
  refine q_gets gg4_5 (by decide) ?_
  first | refine z_alen gg4_8 rfl (v := 6) (by decide) ?_ | refine q_alen gg4_8 rfl ?_
  refine z_icmpge gg4_9 (tg := 43) rfl (by omega) (by omega) (fun c1 => ?_) (fun c1 => ?_)
  · try (exfalso; omega)
    all_goals (
      refine z_const gg4_43 (v := 0) rfl ?_
      refine z_zret gg4_44 (by omega) ?_
      exfalso
      omega
    )
  · try (exfalso; omega)
    all_goals (
      refine q_iload gg4_12 rfl ?_
      refine z_iflt gg4_13 (tg := 43) rfl (by omega) (fun c2 => ?_) (fun c2 => ?_)
      · try (exfalso; omega)
        all_goals (
          refine z_const gg4_43 (v := 0) rfl ?_
          refine z_zret gg4_44 (by omega) ?_
          exfalso
          omega
        )
      · try (exfalso; omega)
        all_goals (
          refine q_iload gg4_16 rfl ?_
          refine q_gets gg4_17 (by decide) ?_
          first | refine z_alen gg4_20 rfl (v := 6) (by decide) ?_ | refine q_alen gg4_20 rfl ?_
          refine z_icmpge gg4_21 (tg := 43) rfl (by omega) (by omega) (fun c3 => ?_) (fun c3 => ?_)
          · try (exfalso; omega)
            all_goals (
              refine z_const gg4_43 (v := 0) rfl ?_
              refine z_zret gg4_44 (by omega) ?_
              exfalso
              omega
            )
          · try (exfalso; omega)
            all_goals (
              refine q_iload gg4_24 rfl ?_
              refine q_iload gg4_25 rfl ?_
              refine z_icmpne gg4_26 (tg := 31) rfl (by omega) (by omega) (fun c4 => ?_) (fun c4 => ?_)
              · try (exfalso; omega)
                all_goals (
                  refine q_gets gg4_31 (by decide) ?_
                  refine q_iload gg4_34 rfl ?_
                  first | (refine z_alr gg4_35 (by first | rfl | assumption) (by assumption) (by omega) (by omega) (by omega) (by decide) (fun v35 ev35 lv35 uv35 => ?_); try dsimp only at ev35) | (refine z_alx gg4_35 rfl (by assumption) (by omega) (by omega) (by first | omega | decide) (by decide) (fun v35 ev35 lv35 uv35 => ?_); try dsimp only at ev35) | refine z_alq gg4_35 rfl (by omega) (by omega) (by decide) ?_
                  refine q_istore gg4_36 rfl ?_
                  rw [ev35, show pBody 2 = 1 by decide]
                  refine z_iinc gg4_37 rfl rfl ?_
                  refine q_goto gg4_40 (tg := 4) rfl ?_
                  exact isA_1 (by omega) (by omega) (fun z => k1 (by omega)) (fun z => k0 (by omega)) hy
                )
              · try (exfalso; omega)
                all_goals (
                  refine z_const gg4_29 (v := 1) rfl ?_
                  refine z_zret gg4_30 (by omega) ?_
                  exact k1 (by omega)
                )
            )
        )
    )
theorem isA_3 (h0 : 0 ≤ s) (h1 : s ≤ 3) (k1 : y = 3 ∨ y = 1 ∨ y = 0 → Q (some (.inl (zI 1))) M) (k0 : ¬ (y = 3 ∨ y = 1 ∨ y = 0) → Q (some (.inl (zI 0))) M) (hy : zR y) : hm_Wp d 4 4 [some (.inl (zI x)), some (.inl (zI y)), some (.inl (zI 3)), some (.inl (zI s))] [] M Q := by
  have t1 := pA_aw
  unfold zR at hy
  refine q_iload gg4_4 rfl ?_
  refine q_gets gg4_5 (by decide) ?_
  first | refine z_alen gg4_8 rfl (v := 6) (by decide) ?_ | refine q_alen gg4_8 rfl ?_
  refine z_icmpge gg4_9 (tg := 43) rfl (by omega) (by omega) (fun c1 => ?_) (fun c1 => ?_)
  · try (exfalso; omega)
    all_goals (
      refine z_const gg4_43 (v := 0) rfl ?_
      refine z_zret gg4_44 (by omega) ?_
      exfalso
      omega
    )
  · try (exfalso; omega)
    all_goals (
      refine q_iload gg4_12 rfl ?_
      refine z_iflt gg4_13 (tg := 43) rfl (by omega) (fun c2 => ?_) (fun c2 => ?_)
      · try (exfalso; omega)
        all_goals (
          refine z_const gg4_43 (v := 0) rfl ?_
          refine z_zret gg4_44 (by omega) ?_
          exfalso
          omega
        )
      · try (exfalso; omega)
        all_goals (
          refine q_iload gg4_16 rfl ?_
          refine q_gets gg4_17 (by decide) ?_
          first | refine z_alen gg4_20 rfl (v := 6) (by decide) ?_ | refine q_alen gg4_20 rfl ?_
          refine z_icmpge gg4_21 (tg := 43) rfl (by omega) (by omega) (fun c3 => ?_) (fun c3 => ?_)
          · try (exfalso; omega)
            all_goals (
              refine z_const gg4_43 (v := 0) rfl ?_
              refine z_zret gg4_44 (by omega) ?_
              exfalso
              omega
            )
          · try (exfalso; omega)
            all_goals (
              refine q_iload gg4_24 rfl ?_
              refine q_iload gg4_25 rfl ?_
              refine z_icmpne gg4_26 (tg := 31) rfl (by omega) (by omega) (fun c4 => ?_) (fun c4 => ?_)
              · try (exfalso; omega)
                all_goals (
                  refine q_gets gg4_31 (by decide) ?_
                  refine q_iload gg4_34 rfl ?_
                  first | (refine z_alr gg4_35 (by first | rfl | assumption) (by assumption) (by omega) (by omega) (by omega) (by decide) (fun v35 ev35 lv35 uv35 => ?_); try dsimp only at ev35) | (refine z_alx gg4_35 rfl (by assumption) (by omega) (by omega) (by first | omega | decide) (by decide) (fun v35 ev35 lv35 uv35 => ?_); try dsimp only at ev35) | refine z_alq gg4_35 rfl (by omega) (by omega) (by decide) ?_
                  refine q_istore gg4_36 rfl ?_
                  rw [ev35, show pBody 3 = 1 by decide]
                  refine z_iinc gg4_37 rfl rfl ?_
                  refine q_goto gg4_40 (tg := 4) rfl ?_
                  exact isA_1 (by omega) (by omega) (fun z => k1 (by omega)) (fun z => k0 (by omega)) hy
                )
              · try (exfalso; omega)
                all_goals (
                  refine z_const gg4_29 (v := 1) rfl ?_
                  refine z_zret gg4_30 (by omega) ?_
                  exact k1 (by omega)
                )
            )
        )
    )
theorem isA_5 (h0 : 0 ≤ s) (h1 : s ≤ 3) (k1 : y = 5 ∨ y = 4 ∨ y = 0 → Q (some (.inl (zI 1))) M) (k0 : ¬ (y = 5 ∨ y = 4 ∨ y = 0) → Q (some (.inl (zI 0))) M) (hy : zR y) : hm_Wp d 4 4 [some (.inl (zI x)), some (.inl (zI y)), some (.inl (zI 5)), some (.inl (zI s))] [] M Q := by
  have t1 := pA_aw
  unfold zR at hy
  refine q_iload gg4_4 rfl ?_
  refine q_gets gg4_5 (by decide) ?_
  first | refine z_alen gg4_8 rfl (v := 6) (by decide) ?_ | refine q_alen gg4_8 rfl ?_
  refine z_icmpge gg4_9 (tg := 43) rfl (by omega) (by omega) (fun c1 => ?_) (fun c1 => ?_)
  · try (exfalso; omega)
    all_goals (
      refine z_const gg4_43 (v := 0) rfl ?_
      refine z_zret gg4_44 (by omega) ?_
      exfalso
      omega
    )
  · try (exfalso; omega)
    all_goals (
      refine q_iload gg4_12 rfl ?_
      refine z_iflt gg4_13 (tg := 43) rfl (by omega) (fun c2 => ?_) (fun c2 => ?_)
      · try (exfalso; omega)
        all_goals (
          refine z_const gg4_43 (v := 0) rfl ?_
          refine z_zret gg4_44 (by omega) ?_
          exfalso
          omega
        )
      · try (exfalso; omega)
        all_goals (
          refine q_iload gg4_16 rfl ?_
          refine q_gets gg4_17 (by decide) ?_
          first | refine z_alen gg4_20 rfl (v := 6) (by decide) ?_ | refine q_alen gg4_20 rfl ?_
          refine z_icmpge gg4_21 (tg := 43) rfl (by omega) (by omega) (fun c3 => ?_) (fun c3 => ?_)
          · try (exfalso; omega)
            all_goals (
              refine z_const gg4_43 (v := 0) rfl ?_
              refine z_zret gg4_44 (by omega) ?_
              exfalso
              omega
            )
          · try (exfalso; omega)
            all_goals (
              refine q_iload gg4_24 rfl ?_
              refine q_iload gg4_25 rfl ?_
              refine z_icmpne gg4_26 (tg := 31) rfl (by omega) (by omega) (fun c4 => ?_) (fun c4 => ?_)
              · try (exfalso; omega)
                all_goals (
                  refine q_gets gg4_31 (by decide) ?_
                  refine q_iload gg4_34 rfl ?_
                  first | (refine z_alr gg4_35 (by first | rfl | assumption) (by assumption) (by omega) (by omega) (by omega) (by decide) (fun v35 ev35 lv35 uv35 => ?_); try dsimp only at ev35) | (refine z_alx gg4_35 rfl (by assumption) (by omega) (by omega) (by first | omega | decide) (by decide) (fun v35 ev35 lv35 uv35 => ?_); try dsimp only at ev35) | refine z_alq gg4_35 rfl (by omega) (by omega) (by decide) ?_
                  refine q_istore gg4_36 rfl ?_
                  rw [ev35, show pBody 5 = 4 by decide]
                  refine z_iinc gg4_37 rfl rfl ?_
                  refine q_goto gg4_40 (tg := 4) rfl ?_
                  exact isA_4 (by omega) (by omega) (fun z => k1 (by omega)) (fun z => k0 (by omega)) hy
                )
              · try (exfalso; omega)
                all_goals (
                  refine z_const gg4_29 (v := 1) rfl ?_
                  refine z_zret gg4_30 (by omega) ?_
                  exact k1 (by omega)
                )
            )
        )
    )
def isAs (k y : Int) : Prop := y = 0 ∨ y = k ∨ (y = 1 ∧ k < 4) ∨ (y = 4 ∧ k = 5)
theorem c_isA (hk0 : 1 ≤ K) (hk : K ≤ 5) (hy : zR y) (k1 : isAs K y → Q (some (.inl (zI 1))) M) (k0 : ¬ isAs K y → Q (some (.inl (zI 0))) M) : hm_Wp d 4 0 [some (.inl (zI K)), some (.inl (zI y)), none, none] [] M Q := by
  unfold isAs at k1 k0
  refine q_iload gg4_0 rfl ?_
  refine q_istore gg4_1 rfl ?_
  refine z_const gg4_2 (v := 0) rfl ?_
  refine q_istore gg4_3 rfl ?_
  have hk5 : K = 1 ∨ K = 2 ∨ K = 3 ∨ K = 4 ∨ K = 5 := by omega
  rcases hk5 with rfl | rfl | rfl | rfl | rfl
  · exact isA_1 (by decide) (by decide) (fun z => k1 (by omega)) (fun z => k0 (by omega)) hy
  · exact isA_2 (by decide) (by decide) (fun z => k1 (by omega)) (fun z => k0 (by omega)) hy
  · exact isA_3 (by decide) (by decide) (fun z => k1 (by omega)) (fun z => k0 (by omega)) hy
  · exact isA_4 (by decide) (by decide) (fun z => k1 (by omega)) (fun z => k0 (by omega)) hy
  · exact isA_5 (by decide) (by decide) (fun z => k1 (by omega)) (fun z => k0 (by omega)) hy
def asC (w : Int → Int) (b y : Int) : Int := if 0 ≤ b ∧ b < w 2 ∧ 0 ≤ y ∧ y ≤ 5 then (if y = 0 ∨ y = w (4 + 7 * b) ∨ (y = 1 ∧ w (4 + 7 * b) < 4) ∨ (y = 4 ∧ w (4 + 7 * b) = 5) then 0 else 3) else 9
def aAs (w : Int → Int) (b y : Int) : Int := if asC w b y = 9 then -1000001 else if asC w b y = 0 then b else -1000013
theorem c_as (hz : zR b) (hy : zR y) (h0 : M 0 8 = zI st) (h : Hb M 7 w) (hw : mWf w) (kk : ∀ M', FC0 M M' → M' 0 8 = zI (nSt st (asC w b y)) → Q (some (.inl (zI (aAs w b y)))) M') : hm_Wp (d + 6) 115 0 [some (.inr (.inr 0)), some (.inl (zI b)), some (.inl (zI y))] [] M Q := by
  have hn := hw.1.1
  have h4 := h.1.1
  have a1 := h.1.2.2.2.2.2.2.1
  have hyz := hy
  unfold zR at hz hy
  have hC : asC w b y = if 0 ≤ b ∧ b < w 2 ∧ 0 ≤ y ∧ y ≤ 5 then (if y = 0 ∨ y = w (4 + 7 * b) ∨ (y = 1 ∧ w (4 + 7 * b) < 4) ∨ (y = 4 ∧ w (4 + 7 * b) = 5) then 0 else 3) else 9 := rfl
  have hA : aAs w b y = if asC w b y = 9 then -1000001 else if asC w b y = 0 then b else -1000013 := rfl
  by_cases hin : 0 ≤ b ∧ b < w 2 ∧ 0 ≤ y ∧ y ≤ 5
  · rw [if_pos hin] at hC
    obtain ⟨b0, b1, y0, y1⟩ := hin
    have hkk := hw.2.2.1 b b0 b1
    refine q_aload gg115_0 rfl ?_
    refine q_getr gg115_1 rfl ?_
    refine q_iload gg115_4 rfl ?_
    refine q_call2 gg115_5 tt32 rfl (Nat.le_of_ble_eq_true rfl) (hm_rv (by decide +kernel)) (ls' := [some _, some _]) rfl rfl ?_
    refine q_iload gg32_0 rfl ?_
    refine z_iflt gg32_1 (tg := 16) rfl (by omega) (fun c1 => ?_) (fun c1 => ?_)
    · try (exfalso; omega)
      all_goals (
        refine z_const gg32_16 (v := 0) rfl ?_
        refine z_zretC gg32_17 (by omega) ?_
        refine z_ifeq gg115_8 (tg := 20) rfl (by decide) (fun _ => ?_) (fun z => absurd z (by decide))
        refine z_neg gg115_20 ?_
        refine q_iret gg115_22 ?_
        exfalso
        omega
      )
    · try (exfalso; omega)
      all_goals (
        refine q_iload gg32_4 rfl ?_
        refine q_aload gg32_5 rfl ?_
        first | refine z_getf gg32_6 rfl (by assumption) ?_ | refine q_getf gg32_6 rfl ?_
        refine z_icmpge gg32_9 (tg := 16) rfl (by omega) (by omega) (fun c2 => ?_) (fun c2 => ?_)
        · try (exfalso; omega)
          all_goals (
            refine z_const gg32_16 (v := 0) rfl ?_
            refine z_zretC gg32_17 (by omega) ?_
            refine z_ifeq gg115_8 (tg := 20) rfl (by decide) (fun _ => ?_) (fun z => absurd z (by decide))
            refine z_neg gg115_20 ?_
            refine q_iret gg115_22 ?_
            exfalso
            omega
          )
        · try (exfalso; omega)
          all_goals (
            refine z_const gg32_12 (v := 1) rfl ?_
            refine q_goto gg32_13 (tg := 17) rfl ?_
            refine z_zretC gg32_17 (by omega) ?_
            refine z_ifeq gg115_8 (tg := 20) rfl (by decide) (fun z => absurd z (by decide)) (fun _ => ?_)
            refine q_iload gg115_11 rfl ?_
            refine z_iflt gg115_12 (tg := 20) rfl (by omega) (fun c3 => ?_) (fun c3 => ?_)
            · try (exfalso; omega)
              all_goals (
                refine z_neg gg115_20 ?_
                refine q_iret gg115_22 ?_
                exfalso
                omega
              )
            · try (exfalso; omega)
              all_goals (
                refine q_iload gg115_15 rfl ?_
                refine z_const gg115_16 (v := 5) rfl ?_
                refine z_icmple gg115_17 (tg := 23) rfl (by omega) (by omega) (fun c4 => ?_) (fun c4 => ?_)
                · try (exfalso; omega)
                  all_goals (
                    refine q_aload gg115_23 rfl ?_
                    refine q_getr gg115_24 rfl ?_
                    refine q_getr gg115_27 rfl ?_
                    refine q_iload gg115_30 rfl ?_
                    first | (refine z_alr gg115_31 (by first | rfl | assumption) (by assumption) (by omega) (by omega) (by omega) (by decide) (fun v31 ev31 lv31 uv31 => ?_); try dsimp only at ev31) | (refine z_alx gg115_31 rfl (by assumption) (by omega) (by omega) (by first | omega | decide) (by decide) (fun v31 ev31 lv31 uv31 => ?_); try dsimp only at ev31) | refine z_alq gg115_31 rfl (by omega) (by omega) (by decide) ?_
                    subst ev31
                    refine q_iload gg115_32 rfl ?_
                    refine q_call2 gg115_33 tt4 rfl (Nat.le_of_ble_eq_true rfl) rfl (ls' := [some _, some _, none, none]) rfl rfl ?_
                    refine c_isA hkk.1 hkk.2.1 hyz (fun hI => ?_) (fun hI => ?_)
                    all_goals unfold isAs at hI
                    · show hm_Wp _ _ _ _ (_ :: _) _ _
                      refine z_ifne gg115_36 (tg := 45) rfl (by decide) (fun _ => ?_) (fun z => absurd z (by decide))
                      refine q_aload gg115_45 rfl ?_
                      refine q_iload gg115_46 rfl ?_
                      refine q_call2 gg115_47 tt121 rfl (Nat.le_of_ble_eq_true rfl) (hm_rv (by decide +kernel)) (ls' := [some _, some _]) rfl rfl ?_
                      refine q_aload gg121_0 rfl ?_
                      refine z_const gg121_1 (v := 0) rfl ?_
                      refine q_putf gg121_2 rfl ?_
                      refine q_iload gg121_5 rfl ?_
                      refine q_iretC gg121_6 ?_
                      refine q_iret gg115_50 ?_
                      rw [if_pos hI] at hC
                      have := kk _ (FT.rf.f0.up (M := M) (x := zI 0)) (by rw [hC]; exact up_at)
                      rw [hA, hC] at this
                      exact this
                    · show hm_Wp _ _ _ _ (_ :: _) _ _
                      refine z_ifne gg115_36 (tg := 45) rfl (by decide) (fun z => absurd z (by decide)) (fun _ => ?_)
                      refine q_aload gg115_39 rfl ?_
                      refine z_const gg115_40 (v := 3) rfl ?_
                      refine q_call2 gg115_41 tt120 rfl (Nat.le_of_ble_eq_true rfl) (hm_rv (by decide +kernel)) (ls' := [some _, some _]) rfl rfl ?_
                      refine q_aload gg120_0 rfl ?_
                      refine q_iload gg120_1 rfl ?_
                      refine q_putf gg120_2 rfl ?_
                      refine z_neg gg120_5 ?_
                      refine q_iload gg120_8 rfl ?_
                      first | refine z_isub gg120_9 ?_ | refine q_isub gg120_9 ?_
                      refine q_iretC gg120_10 ?_
                      refine q_iret gg115_44 ?_
                      rw [if_neg hI] at hC
                      have := kk _ (FT.rf.f0.up (M := M) (x := zI 3)) (by rw [hC]; exact up_at)
                      rw [hA, hC] at this
                      exact this
                  )
                · try (exfalso; omega)
                  all_goals (
                    refine z_neg gg115_20 ?_
                    refine q_iret gg115_22 ?_
                    exfalso
                    omega
                  )
              )
          )
      )
  · rw [if_neg hin] at hC
    have kq := kk M FT.rf.f0 (by rw [hC]; exact h0)
    rw [hA, hC] at kq
    refine q_aload gg115_0 rfl ?_
    refine q_getr gg115_1 rfl ?_
    refine q_iload gg115_4 rfl ?_
    refine q_call2 gg115_5 tt32 rfl (Nat.le_of_ble_eq_true rfl) (hm_rv (by decide +kernel)) (ls' := [some _, some _]) rfl rfl ?_
    refine q_iload gg32_0 rfl ?_
    refine z_iflt gg32_1 (tg := 16) rfl (by omega) (fun c1 => ?_) (fun c1 => ?_)
    · try (exfalso; omega)
      all_goals (
        refine z_const gg32_16 (v := 0) rfl ?_
        refine z_zretC gg32_17 (by omega) ?_
        refine z_ifeq gg115_8 (tg := 20) rfl (by decide) (fun _ => ?_) (fun z => absurd z (by decide))
        refine z_neg gg115_20 ?_
        refine q_iret gg115_22 ?_
        exact kq
      )
    · try (exfalso; omega)
      all_goals (
        refine q_iload gg32_4 rfl ?_
        refine q_aload gg32_5 rfl ?_
        first | refine z_getf gg32_6 rfl (by assumption) ?_ | refine q_getf gg32_6 rfl ?_
        refine z_icmpge gg32_9 (tg := 16) rfl (by omega) (by omega) (fun c2 => ?_) (fun c2 => ?_)
        · try (exfalso; omega)
          all_goals (
            refine z_const gg32_16 (v := 0) rfl ?_
            refine z_zretC gg32_17 (by omega) ?_
            refine z_ifeq gg115_8 (tg := 20) rfl (by decide) (fun _ => ?_) (fun z => absurd z (by decide))
            refine z_neg gg115_20 ?_
            refine q_iret gg115_22 ?_
            exact kq
          )
        · try (exfalso; omega)
          all_goals (
            refine z_const gg32_12 (v := 1) rfl ?_
            refine q_goto gg32_13 (tg := 17) rfl ?_
            refine z_zretC gg32_17 (by omega) ?_
            refine z_ifeq gg115_8 (tg := 20) rfl (by decide) (fun z => absurd z (by decide)) (fun _ => ?_)
            refine q_iload gg115_11 rfl ?_
            refine z_iflt gg115_12 (tg := 20) rfl (by omega) (fun c3 => ?_) (fun c3 => ?_)
            · try (exfalso; omega)
              all_goals (
                refine z_neg gg115_20 ?_
                refine q_iret gg115_22 ?_
                exact kq
              )
            · try (exfalso; omega)
              all_goals (
                refine q_iload gg115_15 rfl ?_
                refine z_const gg115_16 (v := 5) rfl ?_
                refine z_icmple gg115_17 (tg := 23) rfl (by omega) (by omega) (fun c4 => ?_) (fun c4 => ?_)
                · try (exfalso; omega)
                  all_goals (
                    exfalso
                    omega
                  )
                · try (exfalso; omega)
                  all_goals (
                    refine z_neg gg115_20 ?_
                    refine q_iret gg115_22 ?_
                    exact kq
                  )
              )
          )
      )
theorem r_as (hz : zR b) (hy : zR y) (h0 : M 30 4 = zI st) (hf : aw (M 36) 53 0 20000 w) (hw : mWf w) (kk : ∀ M', F30 M M' → M' 30 4 = zI (nSt st (asC w b y)) → Q (some (.inl (zI (aAs w b y)))) M') : hm_Wp (d + 6) 196 0 [some (.inr (.inr 30)), some (.inl (zI b)), some (.inl (zI y)), none, none] [] M Q := by
  have hn := hw.1.1
  unfold zR at hz hy
  have hC : asC w b y = if 0 ≤ b ∧ b < w 2 ∧ 0 ≤ y ∧ y ≤ 5 then (if y = 0 ∨ y = w (4 + 7 * b) ∨ (y = 1 ∧ w (4 + 7 * b) < 4) ∨ (y = 4 ∧ w (4 + 7 * b) = 5) then 0 else 3) else 9 := rfl
  have hA : aAs w b y = if asC w b y = 9 then -1000001 else if asC w b y = 0 then b else -1000013 := rfl
  by_cases hin : 0 ≤ b ∧ b < w 2 ∧ 0 ≤ y ∧ y ≤ 5
  · rw [if_pos hin] at hC
    obtain ⟨b0, b1, y0, y1⟩ := hin
    have hkk := hw.2.2.1 b b0 b1
    refine q_aload gg196_0 rfl ?_
    refine q_iload gg196_1 rfl ?_
    refine q_call2 gg196_2 tt152 rfl (Nat.le_of_ble_eq_true rfl) (hm_rv (by decide +kernel)) (ls' := [some _, some _]) rfl rfl ?_
    refine q_iload gg152_0 rfl ?_
    refine z_const gg152_1 (v := 0) rfl ?_
    refine q_aload gg152_2 rfl ?_
    refine q_getr gg152_3 rfl ?_
    refine z_const gg152_6 (v := 2) rfl ?_
    first | (refine z_alr gg152_7 (by first | rfl | assumption) (by assumption) (by omega) (by omega) (by omega) (by decide) (fun visBasin_7 evisBasin_7 lvisBasin_7 uvisBasin_7 => ?_); try dsimp only at evisBasin_7) | (refine z_alx gg152_7 rfl (by assumption) (by omega) (by omega) (by first | omega | decide) (by decide) (fun visBasin_7 evisBasin_7 lvisBasin_7 uvisBasin_7 => ?_); try dsimp only at evisBasin_7) | refine z_alq gg152_7 rfl (by omega) (by omega) (by decide) ?_
    refine z_const gg152_8 (v := 1) rfl ?_
    first | refine z_isub gg152_9 ?_ | refine q_isub gg152_9 ?_
    refine q_call3 gg152_10 tt124 rfl (Nat.le_of_ble_eq_true rfl) rfl (ls' := [some _, some _, some _]) rfl rfl ?_
    refine q_iload gg124_0 rfl ?_
    refine q_iload gg124_1 rfl ?_
    refine z_icmplt gg124_2 (tg := 14) rfl (by omega) (by omega) (fun c1 => ?_) (fun c1 => ?_)
    · try (exfalso; omega)
      all_goals (
        refine z_const gg124_14 (v := 0) rfl ?_
        refine z_zretC gg124_15 (by omega) ?_
        refine z_zretC gg152_13 (by omega) ?_
        refine z_ifeq gg196_5 (tg := 17) rfl (by decide) (fun _ => ?_) (fun z => absurd z (by decide))
        refine z_neg gg196_17 ?_
        refine q_iret gg196_19 ?_
        exfalso
        omega
      )
    · try (exfalso; omega)
      all_goals (
        refine q_iload gg124_5 rfl ?_
        refine q_iload gg124_6 rfl ?_
        refine z_icmpgt gg124_7 (tg := 14) rfl (by omega) (by omega) (fun c2 => ?_) (fun c2 => ?_)
        · try (exfalso; omega)
          all_goals (
            refine z_const gg124_14 (v := 0) rfl ?_
            refine z_zretC gg124_15 (by omega) ?_
            refine z_zretC gg152_13 (by omega) ?_
            refine z_ifeq gg196_5 (tg := 17) rfl (by decide) (fun _ => ?_) (fun z => absurd z (by decide))
            refine z_neg gg196_17 ?_
            refine q_iret gg196_19 ?_
            exfalso
            omega
          )
        · try (exfalso; omega)
          all_goals (
            refine z_const gg124_10 (v := 1) rfl ?_
            refine q_goto gg124_11 (tg := 15) rfl ?_
            refine z_zretC gg124_15 (by omega) ?_
            refine z_zretC gg152_13 (by omega) ?_
            refine z_ifeq gg196_5 (tg := 17) rfl (by decide) (fun z => absurd z (by decide)) (fun _ => ?_)
            refine q_iload gg196_8 rfl ?_
            refine z_const gg196_9 (v := 0) rfl ?_
            refine z_const gg196_10 (v := 5) rfl ?_
            refine q_call3 gg196_11 tt124 rfl (Nat.le_of_ble_eq_true rfl) rfl (ls' := [some _, some _, some _]) rfl rfl ?_
            refine q_iload gg124_0 rfl ?_
            refine q_iload gg124_1 rfl ?_
            refine z_icmplt gg124_2 (tg := 14) rfl (by omega) (by omega) (fun c3 => ?_) (fun c3 => ?_)
            · try (exfalso; omega)
              all_goals (
                refine z_const gg124_14 (v := 0) rfl ?_
                refine z_zretC gg124_15 (by omega) ?_
                refine z_ifne gg196_14 (tg := 20) rfl (by decide) (fun z => absurd z (by decide)) (fun _ => ?_)
                refine z_neg gg196_17 ?_
                refine q_iret gg196_19 ?_
                exfalso
                omega
              )
            · try (exfalso; omega)
              all_goals (
                refine q_iload gg124_5 rfl ?_
                refine q_iload gg124_6 rfl ?_
                refine z_icmpgt gg124_7 (tg := 14) rfl (by omega) (by omega) (fun c4 => ?_) (fun c4 => ?_)
                · try (exfalso; omega)
                  all_goals (
                    refine z_const gg124_14 (v := 0) rfl ?_
                    refine z_zretC gg124_15 (by omega) ?_
                    refine z_ifne gg196_14 (tg := 20) rfl (by decide) (fun z => absurd z (by decide)) (fun _ => ?_)
                    refine z_neg gg196_17 ?_
                    refine q_iret gg196_19 ?_
                    exfalso
                    omega
                  )
                · try (exfalso; omega)
                  all_goals (
                    refine z_const gg124_10 (v := 1) rfl ?_
                    refine q_goto gg124_11 (tg := 15) rfl ?_
                    refine z_zretC gg124_15 (by omega) ?_
                    refine z_ifne gg196_14 (tg := 20) rfl (by decide) (fun _ => ?_) (fun z => absurd z (by decide))
                    refine q_aload gg196_20 rfl ?_
                    refine q_iload gg196_21 rfl ?_
                    refine q_call2 gg196_22 tt194 rfl (Nat.le_of_ble_eq_true rfl) (hm_rv (by decide +kernel)) (ls' := [some _, some _]) rfl rfl ?_
                    refine q_aload gg194_0 rfl ?_
                    refine q_getr gg194_1 rfl ?_
                    refine z_const gg194_4 (v := 4) rfl ?_
                    refine z_const gg194_5 (v := 7) rfl ?_
                    refine q_iload gg194_7 rfl ?_
                    first | refine z_imul gg194_8 ?_ | refine q_imul gg194_8 ?_
                    first | refine z_iadd gg194_9 ?_ | refine q_iadd gg194_9 ?_
                    first | (refine z_alr gg194_10 (by first | rfl | assumption) (by assumption) (by omega) (by omega) (by omega) (by decide) (fun vkindIn_10 evkindIn_10 lvkindIn_10 uvkindIn_10 => ?_); try dsimp only at evkindIn_10) | (refine z_alx gg194_10 rfl (by assumption) (by omega) (by omega) (by first | omega | decide) (by decide) (fun vkindIn_10 evkindIn_10 lvkindIn_10 uvkindIn_10 => ?_); try dsimp only at evkindIn_10) | refine z_alq gg194_10 rfl (by omega) (by omega) (by decide) ?_
                    refine q_iretC gg194_11 ?_
                    refine q_istore gg196_25 rfl ?_
                    refine q_iload gg196_26 rfl ?_
                    refine z_ifeq gg196_27 (tg := 55) rfl (by omega) (fun c5 => ?_) (fun c5 => ?_)
                    · try (exfalso; omega)
                      all_goals (
                        refine z_const gg196_55 (v := 1) rfl ?_
                        refine q_goto gg196_56 (tg := 60) rfl ?_
                        refine q_istore gg196_60 rfl ?_
                        refine q_iload gg196_62 rfl ?_
                        refine z_ifeq gg196_64 (tg := 75) rfl (by decide) (fun z => absurd z (by decide)) (fun _ => ?_)
                        refine q_aload gg196_67 rfl ?_
                        refine q_iload gg196_68 rfl ?_
                        refine q_call2 gg196_69 tt129 rfl (Nat.le_of_ble_eq_true rfl) (hm_rv (by decide +kernel)) (ls' := [some _, some _]) rfl rfl ?_
                        refine q_aload gg129_0 rfl ?_
                        refine z_const gg129_1 (v := 0) rfl ?_
                        refine q_putf gg129_2 rfl ?_
                        refine q_iload gg129_5 rfl ?_
                        refine q_iretC gg129_6 ?_
                        refine q_goto gg196_72 (tg := 80) rfl ?_
                        refine q_iret gg196_80 ?_
                        first | (rw [if_pos (by omega)] at hC; have := kk _ (F30.up (M := M) (x := zI 0) FR.rf) (by rw [hC]; exact up_at); rw [hA, hC] at this; exact this) | (rw [if_neg (by omega)] at hC; have := kk _ (F30.up (M := M) (x := zI 3) FR.rf) (by rw [hC]; exact up_at); rw [hA, hC] at this; exact this)
                      )
                    · try (exfalso; omega)
                      all_goals (
                        refine q_iload gg196_30 rfl ?_
                        refine q_iload gg196_31 rfl ?_
                        refine z_icmpeq gg196_32 (tg := 55) rfl (by omega) (by omega) (fun c6 => ?_) (fun c6 => ?_)
                        · try (exfalso; omega)
                          all_goals (
                            refine z_const gg196_55 (v := 1) rfl ?_
                            refine q_goto gg196_56 (tg := 60) rfl ?_
                            refine q_istore gg196_60 rfl ?_
                            refine q_iload gg196_62 rfl ?_
                            refine z_ifeq gg196_64 (tg := 75) rfl (by decide) (fun z => absurd z (by decide)) (fun _ => ?_)
                            refine q_aload gg196_67 rfl ?_
                            refine q_iload gg196_68 rfl ?_
                            refine q_call2 gg196_69 tt129 rfl (Nat.le_of_ble_eq_true rfl) (hm_rv (by decide +kernel)) (ls' := [some _, some _]) rfl rfl ?_
                            refine q_aload gg129_0 rfl ?_
                            refine z_const gg129_1 (v := 0) rfl ?_
                            refine q_putf gg129_2 rfl ?_
                            refine q_iload gg129_5 rfl ?_
                            refine q_iretC gg129_6 ?_
                            refine q_goto gg196_72 (tg := 80) rfl ?_
                            refine q_iret gg196_80 ?_
                            first | (rw [if_pos (by omega)] at hC; have := kk _ (F30.up (M := M) (x := zI 0) FR.rf) (by rw [hC]; exact up_at); rw [hA, hC] at this; exact this) | (rw [if_neg (by omega)] at hC; have := kk _ (F30.up (M := M) (x := zI 3) FR.rf) (by rw [hC]; exact up_at); rw [hA, hC] at this; exact this)
                          )
                        · try (exfalso; omega)
                          all_goals (
                            refine q_iload gg196_35 rfl ?_
                            refine z_const gg196_36 (v := 1) rfl ?_
                            refine z_icmpne gg196_37 (tg := 45) rfl (by omega) (by omega) (fun c7 => ?_) (fun c7 => ?_)
                            · try (exfalso; omega)
                              all_goals (
                                refine q_iload gg196_45 rfl ?_
                                refine z_const gg196_46 (v := 4) rfl ?_
                                refine z_icmpne gg196_47 (tg := 59) rfl (by omega) (by omega) (fun c8 => ?_) (fun c8 => ?_)
                                · try (exfalso; omega)
                                  all_goals (
                                    refine z_const gg196_59 (v := 0) rfl ?_
                                    refine q_istore gg196_60 rfl ?_
                                    refine q_iload gg196_62 rfl ?_
                                    refine z_ifeq gg196_64 (tg := 75) rfl (by decide) (fun _ => ?_) (fun z => absurd z (by decide))
                                    refine q_aload gg196_75 rfl ?_
                                    refine z_const gg196_76 (v := 3) rfl ?_
                                    refine q_call2 gg196_77 tt128 rfl (Nat.le_of_ble_eq_true rfl) (hm_rv (by decide +kernel)) (ls' := [some _, some _]) rfl rfl ?_
                                    refine q_aload gg128_0 rfl ?_
                                    refine q_iload gg128_1 rfl ?_
                                    refine q_putf gg128_2 rfl ?_
                                    refine z_neg gg128_5 ?_
                                    refine q_iload gg128_7 rfl ?_
                                    first | refine z_isub gg128_8 ?_ | refine q_isub gg128_8 ?_
                                    refine q_iretC gg128_9 ?_
                                    refine q_iret gg196_80 ?_
                                    first | (rw [if_pos (by omega)] at hC; have := kk _ (F30.up (M := M) (x := zI 0) FR.rf) (by rw [hC]; exact up_at); rw [hA, hC] at this; exact this) | (rw [if_neg (by omega)] at hC; have := kk _ (F30.up (M := M) (x := zI 3) FR.rf) (by rw [hC]; exact up_at); rw [hA, hC] at this; exact this)
                                  )
                                · try (exfalso; omega)
                                  all_goals (
                                    refine q_iload gg196_50 rfl ?_
                                    refine z_const gg196_51 (v := 5) rfl ?_
                                    refine z_icmpne gg196_52 (tg := 59) rfl (by omega) (by omega) (fun c9 => ?_) (fun c9 => ?_)
                                    · try (exfalso; omega)
                                      all_goals (
                                        refine z_const gg196_59 (v := 0) rfl ?_
                                        refine q_istore gg196_60 rfl ?_
                                        refine q_iload gg196_62 rfl ?_
                                        refine z_ifeq gg196_64 (tg := 75) rfl (by decide) (fun _ => ?_) (fun z => absurd z (by decide))
                                        refine q_aload gg196_75 rfl ?_
                                        refine z_const gg196_76 (v := 3) rfl ?_
                                        refine q_call2 gg196_77 tt128 rfl (Nat.le_of_ble_eq_true rfl) (hm_rv (by decide +kernel)) (ls' := [some _, some _]) rfl rfl ?_
                                        refine q_aload gg128_0 rfl ?_
                                        refine q_iload gg128_1 rfl ?_
                                        refine q_putf gg128_2 rfl ?_
                                        refine z_neg gg128_5 ?_
                                        refine q_iload gg128_7 rfl ?_
                                        first | refine z_isub gg128_8 ?_ | refine q_isub gg128_8 ?_
                                        refine q_iretC gg128_9 ?_
                                        refine q_iret gg196_80 ?_
                                        first | (rw [if_pos (by omega)] at hC; have := kk _ (F30.up (M := M) (x := zI 0) FR.rf) (by rw [hC]; exact up_at); rw [hA, hC] at this; exact this) | (rw [if_neg (by omega)] at hC; have := kk _ (F30.up (M := M) (x := zI 3) FR.rf) (by rw [hC]; exact up_at); rw [hA, hC] at this; exact this)
                                      )
                                    · try (exfalso; omega)
                                      all_goals (
                                        refine z_const gg196_55 (v := 1) rfl ?_
                                        refine q_goto gg196_56 (tg := 60) rfl ?_
                                        refine q_istore gg196_60 rfl ?_
                                        refine q_iload gg196_62 rfl ?_
                                        refine z_ifeq gg196_64 (tg := 75) rfl (by decide) (fun z => absurd z (by decide)) (fun _ => ?_)
                                        refine q_aload gg196_67 rfl ?_
                                        refine q_iload gg196_68 rfl ?_
                                        refine q_call2 gg196_69 tt129 rfl (Nat.le_of_ble_eq_true rfl) (hm_rv (by decide +kernel)) (ls' := [some _, some _]) rfl rfl ?_
                                        refine q_aload gg129_0 rfl ?_
                                        refine z_const gg129_1 (v := 0) rfl ?_
                                        refine q_putf gg129_2 rfl ?_
                                        refine q_iload gg129_5 rfl ?_
                                        refine q_iretC gg129_6 ?_
                                        refine q_goto gg196_72 (tg := 80) rfl ?_
                                        refine q_iret gg196_80 ?_
                                        first | (rw [if_pos (by omega)] at hC; have := kk _ (F30.up (M := M) (x := zI 0) FR.rf) (by rw [hC]; exact up_at); rw [hA, hC] at this; exact this) | (rw [if_neg (by omega)] at hC; have := kk _ (F30.up (M := M) (x := zI 3) FR.rf) (by rw [hC]; exact up_at); rw [hA, hC] at this; exact this)
                                      )
                                  )
                              )
                            · try (exfalso; omega)
                              all_goals (
                                refine q_iload gg196_40 rfl ?_
                                refine z_const gg196_41 (v := 4) rfl ?_
                                refine z_icmplt gg196_42 (tg := 55) rfl (by omega) (by omega) (fun c8 => ?_) (fun c8 => ?_)
                                · try (exfalso; omega)
                                  all_goals (
                                    refine z_const gg196_55 (v := 1) rfl ?_
                                    refine q_goto gg196_56 (tg := 60) rfl ?_
                                    refine q_istore gg196_60 rfl ?_
                                    refine q_iload gg196_62 rfl ?_
                                    refine z_ifeq gg196_64 (tg := 75) rfl (by decide) (fun z => absurd z (by decide)) (fun _ => ?_)
                                    refine q_aload gg196_67 rfl ?_
                                    refine q_iload gg196_68 rfl ?_
                                    refine q_call2 gg196_69 tt129 rfl (Nat.le_of_ble_eq_true rfl) (hm_rv (by decide +kernel)) (ls' := [some _, some _]) rfl rfl ?_
                                    refine q_aload gg129_0 rfl ?_
                                    refine z_const gg129_1 (v := 0) rfl ?_
                                    refine q_putf gg129_2 rfl ?_
                                    refine q_iload gg129_5 rfl ?_
                                    refine q_iretC gg129_6 ?_
                                    refine q_goto gg196_72 (tg := 80) rfl ?_
                                    refine q_iret gg196_80 ?_
                                    first | (rw [if_pos (by omega)] at hC; have := kk _ (F30.up (M := M) (x := zI 0) FR.rf) (by rw [hC]; exact up_at); rw [hA, hC] at this; exact this) | (rw [if_neg (by omega)] at hC; have := kk _ (F30.up (M := M) (x := zI 3) FR.rf) (by rw [hC]; exact up_at); rw [hA, hC] at this; exact this)
                                  )
                                · try (exfalso; omega)
                                  all_goals (
                                    refine q_iload gg196_45 rfl ?_
                                    refine z_const gg196_46 (v := 4) rfl ?_
                                    refine z_icmpne gg196_47 (tg := 59) rfl (by omega) (by omega) (fun c9 => ?_) (fun c9 => ?_)
                                    · try (exfalso; omega)
                                      all_goals (
                                        refine z_const gg196_59 (v := 0) rfl ?_
                                        refine q_istore gg196_60 rfl ?_
                                        refine q_iload gg196_62 rfl ?_
                                        refine z_ifeq gg196_64 (tg := 75) rfl (by decide) (fun _ => ?_) (fun z => absurd z (by decide))
                                        refine q_aload gg196_75 rfl ?_
                                        refine z_const gg196_76 (v := 3) rfl ?_
                                        refine q_call2 gg196_77 tt128 rfl (Nat.le_of_ble_eq_true rfl) (hm_rv (by decide +kernel)) (ls' := [some _, some _]) rfl rfl ?_
                                        refine q_aload gg128_0 rfl ?_
                                        refine q_iload gg128_1 rfl ?_
                                        refine q_putf gg128_2 rfl ?_
                                        refine z_neg gg128_5 ?_
                                        refine q_iload gg128_7 rfl ?_
                                        first | refine z_isub gg128_8 ?_ | refine q_isub gg128_8 ?_
                                        refine q_iretC gg128_9 ?_
                                        refine q_iret gg196_80 ?_
                                        first | (rw [if_pos (by omega)] at hC; have := kk _ (F30.up (M := M) (x := zI 0) FR.rf) (by rw [hC]; exact up_at); rw [hA, hC] at this; exact this) | (rw [if_neg (by omega)] at hC; have := kk _ (F30.up (M := M) (x := zI 3) FR.rf) (by rw [hC]; exact up_at); rw [hA, hC] at this; exact this)
                                      )
                                    · try (exfalso; omega)
                                      all_goals (
                                        refine q_iload gg196_50 rfl ?_
                                        refine z_const gg196_51 (v := 5) rfl ?_
                                        refine z_icmpne gg196_52 (tg := 59) rfl (by omega) (by omega) (fun c10 => ?_) (fun c10 => ?_)
                                        · try (exfalso; omega)
                                          all_goals (
                                            refine z_const gg196_59 (v := 0) rfl ?_
                                            refine q_istore gg196_60 rfl ?_
                                            refine q_iload gg196_62 rfl ?_
                                            refine z_ifeq gg196_64 (tg := 75) rfl (by decide) (fun _ => ?_) (fun z => absurd z (by decide))
                                            refine q_aload gg196_75 rfl ?_
                                            refine z_const gg196_76 (v := 3) rfl ?_
                                            refine q_call2 gg196_77 tt128 rfl (Nat.le_of_ble_eq_true rfl) (hm_rv (by decide +kernel)) (ls' := [some _, some _]) rfl rfl ?_
                                            refine q_aload gg128_0 rfl ?_
                                            refine q_iload gg128_1 rfl ?_
                                            refine q_putf gg128_2 rfl ?_
                                            refine z_neg gg128_5 ?_
                                            refine q_iload gg128_7 rfl ?_
                                            first | refine z_isub gg128_8 ?_ | refine q_isub gg128_8 ?_
                                            refine q_iretC gg128_9 ?_
                                            refine q_iret gg196_80 ?_
                                            first | (rw [if_pos (by omega)] at hC; have := kk _ (F30.up (M := M) (x := zI 0) FR.rf) (by rw [hC]; exact up_at); rw [hA, hC] at this; exact this) | (rw [if_neg (by omega)] at hC; have := kk _ (F30.up (M := M) (x := zI 3) FR.rf) (by rw [hC]; exact up_at); rw [hA, hC] at this; exact this)
                                          )
                                        · try (exfalso; omega)
                                          all_goals (
                                            refine z_const gg196_55 (v := 1) rfl ?_
                                            refine q_goto gg196_56 (tg := 60) rfl ?_
                                            refine q_istore gg196_60 rfl ?_
                                            refine q_iload gg196_62 rfl ?_
                                            refine z_ifeq gg196_64 (tg := 75) rfl (by decide) (fun z => absurd z (by decide)) (fun _ => ?_)
                                            refine q_aload gg196_67 rfl ?_
                                            refine q_iload gg196_68 rfl ?_
                                            refine q_call2 gg196_69 tt129 rfl (Nat.le_of_ble_eq_true rfl) (hm_rv (by decide +kernel)) (ls' := [some _, some _]) rfl rfl ?_
                                            refine q_aload gg129_0 rfl ?_
                                            refine z_const gg129_1 (v := 0) rfl ?_
                                            refine q_putf gg129_2 rfl ?_
                                            refine q_iload gg129_5 rfl ?_
                                            refine q_iretC gg129_6 ?_
                                            refine q_goto gg196_72 (tg := 80) rfl ?_
                                            refine q_iret gg196_80 ?_
                                            first | (rw [if_pos (by omega)] at hC; have := kk _ (F30.up (M := M) (x := zI 0) FR.rf) (by rw [hC]; exact up_at); rw [hA, hC] at this; exact this) | (rw [if_neg (by omega)] at hC; have := kk _ (F30.up (M := M) (x := zI 3) FR.rf) (by rw [hC]; exact up_at); rw [hA, hC] at this; exact this)
                                          )
                                      )
                                  )
                              )
                          )
                      )
                  )
              )
          )
      )
  · rw [if_neg hin] at hC
    have kq := kk M FR.rf.f30 (by rw [hC]; exact h0)
    rw [hA, hC] at kq
    refine q_aload gg196_0 rfl ?_
    refine q_iload gg196_1 rfl ?_
    refine q_call2 gg196_2 tt152 rfl (Nat.le_of_ble_eq_true rfl) (hm_rv (by decide +kernel)) (ls' := [some _, some _]) rfl rfl ?_
    refine q_iload gg152_0 rfl ?_
    refine z_const gg152_1 (v := 0) rfl ?_
    refine q_aload gg152_2 rfl ?_
    refine q_getr gg152_3 rfl ?_
    refine z_const gg152_6 (v := 2) rfl ?_
    first | (refine z_alr gg152_7 (by first | rfl | assumption) (by assumption) (by omega) (by omega) (by omega) (by decide) (fun visBasin_7 evisBasin_7 lvisBasin_7 uvisBasin_7 => ?_); try dsimp only at evisBasin_7) | (refine z_alx gg152_7 rfl (by assumption) (by omega) (by omega) (by first | omega | decide) (by decide) (fun visBasin_7 evisBasin_7 lvisBasin_7 uvisBasin_7 => ?_); try dsimp only at evisBasin_7) | refine z_alq gg152_7 rfl (by omega) (by omega) (by decide) ?_
    refine z_const gg152_8 (v := 1) rfl ?_
    first | refine z_isub gg152_9 ?_ | refine q_isub gg152_9 ?_
    refine q_call3 gg152_10 tt124 rfl (Nat.le_of_ble_eq_true rfl) rfl (ls' := [some _, some _, some _]) rfl rfl ?_
    refine q_iload gg124_0 rfl ?_
    refine q_iload gg124_1 rfl ?_
    refine z_icmplt gg124_2 (tg := 14) rfl (by omega) (by omega) (fun c1 => ?_) (fun c1 => ?_)
    · try (exfalso; omega)
      all_goals (
        refine z_const gg124_14 (v := 0) rfl ?_
        refine z_zretC gg124_15 (by omega) ?_
        refine z_zretC gg152_13 (by omega) ?_
        refine z_ifeq gg196_5 (tg := 17) rfl (by decide) (fun _ => ?_) (fun z => absurd z (by decide))
        refine z_neg gg196_17 ?_
        refine q_iret gg196_19 ?_
        exact kq
      )
    · try (exfalso; omega)
      all_goals (
        refine q_iload gg124_5 rfl ?_
        refine q_iload gg124_6 rfl ?_
        refine z_icmpgt gg124_7 (tg := 14) rfl (by omega) (by omega) (fun c2 => ?_) (fun c2 => ?_)
        · try (exfalso; omega)
          all_goals (
            refine z_const gg124_14 (v := 0) rfl ?_
            refine z_zretC gg124_15 (by omega) ?_
            refine z_zretC gg152_13 (by omega) ?_
            refine z_ifeq gg196_5 (tg := 17) rfl (by decide) (fun _ => ?_) (fun z => absurd z (by decide))
            refine z_neg gg196_17 ?_
            refine q_iret gg196_19 ?_
            exact kq
          )
        · try (exfalso; omega)
          all_goals (
            refine z_const gg124_10 (v := 1) rfl ?_
            refine q_goto gg124_11 (tg := 15) rfl ?_
            refine z_zretC gg124_15 (by omega) ?_
            refine z_zretC gg152_13 (by omega) ?_
            refine z_ifeq gg196_5 (tg := 17) rfl (by decide) (fun z => absurd z (by decide)) (fun _ => ?_)
            refine q_iload gg196_8 rfl ?_
            refine z_const gg196_9 (v := 0) rfl ?_
            refine z_const gg196_10 (v := 5) rfl ?_
            refine q_call3 gg196_11 tt124 rfl (Nat.le_of_ble_eq_true rfl) rfl (ls' := [some _, some _, some _]) rfl rfl ?_
            refine q_iload gg124_0 rfl ?_
            refine q_iload gg124_1 rfl ?_
            refine z_icmplt gg124_2 (tg := 14) rfl (by omega) (by omega) (fun c3 => ?_) (fun c3 => ?_)
            · try (exfalso; omega)
              all_goals (
                refine z_const gg124_14 (v := 0) rfl ?_
                refine z_zretC gg124_15 (by omega) ?_
                refine z_ifne gg196_14 (tg := 20) rfl (by decide) (fun z => absurd z (by decide)) (fun _ => ?_)
                refine z_neg gg196_17 ?_
                refine q_iret gg196_19 ?_
                exact kq
              )
            · try (exfalso; omega)
              all_goals (
                refine q_iload gg124_5 rfl ?_
                refine q_iload gg124_6 rfl ?_
                refine z_icmpgt gg124_7 (tg := 14) rfl (by omega) (by omega) (fun c4 => ?_) (fun c4 => ?_)
                · try (exfalso; omega)
                  all_goals (
                    refine z_const gg124_14 (v := 0) rfl ?_
                    refine z_zretC gg124_15 (by omega) ?_
                    refine z_ifne gg196_14 (tg := 20) rfl (by decide) (fun z => absurd z (by decide)) (fun _ => ?_)
                    refine z_neg gg196_17 ?_
                    refine q_iret gg196_19 ?_
                    exact kq
                  )
                · try (exfalso; omega)
                  all_goals (
                    refine z_const gg124_10 (v := 1) rfl ?_
                    refine q_goto gg124_11 (tg := 15) rfl ?_
                    refine z_zretC gg124_15 (by omega) ?_
                    refine z_ifne gg196_14 (tg := 20) rfl (by decide) (fun _ => ?_) (fun z => absurd z (by decide))
                    exfalso
                    omega
                  )
              )
          )
      )
/-! count -/
def hRo (ln : Int → Int) : Int → Int := fun r => if ln r = -1000000 then 0 else 1
def aCount (w ln : Int → Int) (na tl y : Int) : Int := if y = 0 then csum (hRo ln) 8 else if y = 1 then w 2 else if y = 2 then w 3 else if y = 3 then w 0 else if y = 4 then w 1 else if y = 5 then bsum (mFlag w 5) 7 else if y = 6 then bsum (mFlag w 4) 7 else if y = 7 then bsum (mFlag w 6) 7 else if y = 8 then na else if y = 9 then tl else -1000001
theorem c_held (hR : RC M ln lg it) (hW : RW ln lg it) (kk : Q (some (.inl (zI (csum (hRo ln) 8)))) M) : hm_Wp (d + 1) 62 0 [some (.inr (.inr 1)), none, none] [] M Q := by
  have r2 := hR.1
  have L : ∀ (m : Nat) (j : Int), 0 ≤ j → j + m = 8 → hm_Wp (d + 1) 62 4 [some (.inr (.inr 1)), some (.inl (zI (csum (hRo ln) j.toNat))), some (.inl (zI j))] [] M Q := by
    intro m
    induction m with
    | zero =>
      intro j hj0 hjm
      refine q_iload gg62_4 rfl ?_
      refine z_const gg62_5 (v := 8) rfl ?_
      refine z_icmpge gg62_7 (tg := 27) rfl (by omega) (by omega) (fun c1 => ?_) (fun z => absurd z (by omega))
      refine q_iload gg62_27 rfl ?_
      refine q_iret gg62_28 ?_
      refine qv ?_ kk
      rw [show j.toNat = 8 by omega]
    | succ m ih =>
      intro j hj0 hjm
      have hi := ih (j + 1) (by omega) (by omega)
      rw [csum_succ hj0] at hi
      have hw1 := hW.1 j hj0 (by omega)
      have hp : hRo ln j = if ln j = -1000000 then 0 else 1 := rfl
      refine q_iload gg62_4 rfl ?_
      refine z_const gg62_5 (v := 8) rfl ?_
      refine z_icmpge gg62_7 (tg := 27) rfl (by omega) (by omega) (fun z => absurd z (by omega)) (fun c1 => ?_)
      refine q_aload gg62_10 rfl ?_
      refine q_iload gg62_11 rfl ?_
      refine q_call2 gg62_12 tt59 rfl (Nat.le_of_ble_eq_true rfl) (hm_rv (by decide +kernel)) (ls' := [some _, some _]) rfl rfl ?_
      refine q_aload gg59_0 rfl ?_
      refine q_getr gg59_1 rfl ?_
      refine q_iload gg59_4 rfl ?_
      first | (refine z_alr gg59_5 (by first | rfl | assumption) (by assumption) (by omega) (by omega) (by omega) (by decide) (fun visMissing_5 evisMissing_5 lvisMissing_5 uvisMissing_5 => ?_); try dsimp only at evisMissing_5) | (refine z_alx gg59_5 rfl (by assumption) (by omega) (by omega) (by first | omega | decide) (by decide) (fun visMissing_5 evisMissing_5 lvisMissing_5 uvisMissing_5 => ?_); try dsimp only at evisMissing_5) | refine z_alq gg59_5 rfl (by omega) (by omega) (by decide) ?_
      refine z_neg gg59_6 ?_
      refine z_icmpne gg59_7 (tg := 14) rfl (by omega) (by omega) (fun c2 => ?_) (fun c2 => ?_)
      · try (exfalso; omega)
        all_goals (
          refine z_const gg59_14 (v := 0) rfl ?_
          refine z_zretC gg59_15 (by omega) ?_
          refine z_ifne gg62_15 (tg := 21) rfl (by decide) (fun z => absurd z (by decide)) (fun _ => ?_)
          refine z_iinc gg62_18 rfl rfl ?_
          refine z_iinc gg62_21 rfl rfl ?_
          refine q_goto gg62_24 (tg := 4) rfl ?_
          first | (rw [if_pos (by (repeat' split at evisMissing_5) <;> omega)] at hp; rw [hp, Int.add_zero] at hi; exact hi) | (rw [if_neg (by (repeat' split at evisMissing_5) <;> omega)] at hp; rw [hp] at hi; exact hi)
        )
      · try (exfalso; omega)
        all_goals (
          refine z_const gg59_10 (v := 1) rfl ?_
          refine q_goto gg59_11 (tg := 15) rfl ?_
          refine z_zretC gg59_15 (by omega) ?_
          refine z_ifne gg62_15 (tg := 21) rfl (by decide) (fun _ => ?_) (fun z => absurd z (by decide))
          refine z_iinc gg62_21 rfl rfl ?_
          refine q_goto gg62_24 (tg := 4) rfl ?_
          first | (rw [if_pos (by (repeat' split at evisMissing_5) <;> omega)] at hp; rw [hp, Int.add_zero] at hi; exact hi) | (rw [if_neg (by (repeat' split at evisMissing_5) <;> omega)] at hp; rw [hp] at hi; exact hi)
        )
  refine z_const gg62_0 (v := 0) rfl ?_
  refine q_istore gg62_1 rfl ?_
  refine z_const gg62_2 (v := 0) rfl ?_
  refine q_istore gg62_3 rfl ?_
  exact L 8 0 (by decide) (by decide)
theorem c_count (hy : zR y) (hR : RC M ln lg it) (hW : RW ln lg it) (h : Hb M 7 w) (hw : mWf w) (hA : AC M pa na) (hT : TC M tp tl fk) (kk : Q (some (.inl (zI (aCount w ln na tl y)))) M) : hm_Wp (d + 6) 118 0 [some (.inr (.inr 0)), some (.inl (zI y))] [] M Q := by
  obtain ⟨⟨h4, h5, h6, h8, h9, h10, a1, a2, a4⟩, h7, a3⟩ := h
  obtain ⟨nx, n0, n1, e1, e2, en⟩ := hA
  obtain ⟨t1, t2, t3⟩ := hT
  unfold zR at hy
  refine q_iload gg118_0 rfl ?_
  refine z_sw gg118_1 (by omega) ?_
  simp only [hm_swt_cons, hm_swt_nil]
  split
  · try (exfalso; omega)
    all_goals (
      refine q_aload gg118_56 rfl ?_
      refine q_getr gg118_57 rfl ?_
      refine q_call1 gg118_60 tt62 rfl (Nat.le_of_ble_eq_true rfl) (hm_rv (by decide +kernel)) (ls' := [some _, none, none]) rfl rfl ?_
      refine c_held hR hW ?_
      show hm_Wp _ _ _ _ (_ :: _) _ _
      refine q_iret gg118_63 ?_
      refine qv ?_ kk
      subst_vars
      unfold aCount
      first | (simp; done) | (simp [*]; done)
    )
  split
  · try (exfalso; omega)
    all_goals (
      refine q_aload gg118_64 rfl ?_
      refine q_getr gg118_65 rfl ?_
      first | refine z_getf gg118_68 rfl (by assumption) ?_ | refine q_getf gg118_68 rfl ?_
      refine q_iret gg118_71 ?_
      refine qv ?_ kk
      subst_vars
      unfold aCount
      first | (simp; done) | (simp [*]; done)
    )
  split
  · try (exfalso; omega)
    all_goals (
      refine q_aload gg118_72 rfl ?_
      refine q_getr gg118_73 rfl ?_
      first | refine z_getf gg118_76 rfl (by assumption) ?_ | refine q_getf gg118_76 rfl ?_
      refine q_iret gg118_79 ?_
      refine qv ?_ kk
      subst_vars
      unfold aCount
      first | (simp; done) | (simp [*]; done)
    )
  split
  · try (exfalso; omega)
    all_goals (
      refine q_aload gg118_80 rfl ?_
      refine q_getr gg118_81 rfl ?_
      first | refine z_getf gg118_84 rfl (by assumption) ?_ | refine q_getf gg118_84 rfl ?_
      refine q_iret gg118_87 ?_
      refine qv ?_ kk
      subst_vars
      unfold aCount
      first | (simp; done) | (simp [*]; done)
    )
  split
  · try (exfalso; omega)
    all_goals (
      refine q_aload gg118_88 rfl ?_
      refine q_getr gg118_89 rfl ?_
      first | refine z_getf gg118_92 rfl (by assumption) ?_ | refine q_getf gg118_92 rfl ?_
      refine q_iret gg118_95 ?_
      refine qv ?_ kk
      subst_vars
      unfold aCount
      first | (simp; done) | (simp [*]; done)
    )
  split
  · try (exfalso; omega)
    all_goals (
      refine q_aload gg118_96 rfl ?_
      refine q_getr gg118_97 rfl ?_
      first | refine z_getf gg118_100 rfl (by assumption) ?_ | refine q_getf gg118_100 rfl ?_
      refine q_iret gg118_103 ?_
      refine qv ?_ kk
      subst_vars
      unfold aCount
      first | (simp; done) | (simp [*]; done)
    )
  split
  · try (exfalso; omega)
    all_goals (
      refine q_aload gg118_104 rfl ?_
      refine q_getr gg118_105 rfl ?_
      first | refine z_getf gg118_108 rfl (by assumption) ?_ | refine q_getf gg118_108 rfl ?_
      refine q_iret gg118_111 ?_
      refine qv ?_ kk
      subst_vars
      unfold aCount
      first | (simp; done) | (simp [*]; done)
    )
  split
  · try (exfalso; omega)
    all_goals (
      refine q_aload gg118_112 rfl ?_
      refine q_getr gg118_113 rfl ?_
      first | refine z_getf gg118_116 rfl (by assumption) ?_ | refine q_getf gg118_116 rfl ?_
      refine q_iret gg118_119 ?_
      refine qv ?_ kk
      subst_vars
      unfold aCount
      first | (simp; done) | (simp [*]; done)
    )
  split
  · try (exfalso; omega)
    all_goals (
      refine q_aload gg118_120 rfl ?_
      refine q_getr gg118_121 rfl ?_
      refine q_call1 gg118_124 tt3 rfl (Nat.le_of_ble_eq_true rfl) (hm_rv (by decide +kernel)) (ls' := [some _]) rfl rfl ?_
      refine q_aload gg3_0 rfl ?_
      first | refine z_getf gg3_1 rfl (by assumption) ?_ | refine q_getf gg3_1 rfl ?_
      refine q_iretC gg3_4 ?_
      refine q_iret gg118_127 ?_
      refine qv ?_ kk
      subst_vars
      unfold aCount
      first | (simp; done) | (simp [*]; done)
    )
  split
  · try (exfalso; omega)
    all_goals (
      refine q_aload gg118_128 rfl ?_
      refine q_getr gg118_129 rfl ?_
      refine q_call1 gg118_132 tt70 rfl (Nat.le_of_ble_eq_true rfl) (hm_rv (by decide +kernel)) (ls' := [some _]) rfl rfl ?_
      refine q_aload gg70_0 rfl ?_
      first | refine z_getf gg70_1 rfl (by assumption) ?_ | refine q_getf gg70_1 rfl ?_
      refine q_iretC gg70_4 ?_
      refine q_iret gg118_135 ?_
      refine qv ?_ kk
      subst_vars
      unfold aCount
      first | (simp; done) | (simp [*]; done)
    )
  try (exfalso; omega)
  all_goals (
    show hm_Wp _ _ 136 _ _ _ _
    refine z_neg gg118_136 ?_
    refine q_iret gg118_138 ?_
    refine qv ?_ kk
    subst_vars
    unfold aCount
    first | (simp; done) | (simp [*]; done)
  )
theorem r_count (hy : zR y) (hR : RR M ln lg it) (hW : RW ln lg it) (hf : aw (M 36) 53 0 20000 w) (hw : mWf w) (hA : AR M pa na) (hT : TR M tp tl fk) (kk : Q (some (.inl (zI (aCount w ln na tl y)))) M) : hm_Wp (d + 6) 204 0 [some (.inr (.inr 30)), some (.inl (zI y)), none, none] [] M Q := by
  have r2 := hR.1
  have e1 := hA.1
  obtain ⟨t1, t2, t3⟩ := hT
  unfold zR at hy
  have L : y = 0 → ∀ (m : Nat) (j : Int), 0 ≤ j → j + m = 8 → hm_Wp (d + 6) 204 58 [some (.inr (.inr 30)), some (.inl (zI y)), some (.inl (zI (csum (hRo ln) j.toNat))), some (.inl (zI j))] [] M Q := by
    intro hy0 m
    induction m with
    | zero =>
      intro j hj0 hjm
      refine q_iload gg204_58 rfl ?_
      refine z_const gg204_59 (v := 8) rfl ?_
      refine z_icmpge gg204_61 (tg := 86) rfl (by omega) (by omega) (fun c1 => ?_) (fun z => absurd z (by omega))
      refine q_iload gg204_86 rfl ?_
      refine q_iret gg204_87 ?_
      refine qv ?_ kk
      unfold aCount
      rw [if_pos hy0, show j.toNat = 8 by omega]
    | succ m ih =>
      intro j hj0 hjm
      have hi := ih (j + 1) (by omega) (by omega)
      rw [csum_succ hj0] at hi
      have hw1 := hW.1 j hj0 (by omega)
      have hp : hRo ln j = if ln j = -1000000 then 0 else 1 := rfl
      refine q_iload gg204_58 rfl ?_
      refine z_const gg204_59 (v := 8) rfl ?_
      refine z_icmpge gg204_61 (tg := 86) rfl (by omega) (by omega) (fun z => absurd z (by omega)) (fun c1 => ?_)
      refine q_iload gg204_64 rfl ?_
      refine q_aload gg204_65 rfl ?_
      refine q_iload gg204_66 rfl ?_
      refine q_call2 gg204_67 tt132 rfl (Nat.le_of_ble_eq_true rfl) (hm_rv (by decide +kernel)) (ls' := [some _, some _]) rfl rfl ?_
      refine q_aload gg132_0 rfl ?_
      refine q_getr gg132_1 rfl ?_
      refine q_iload gg132_4 rfl ?_
      first | (refine z_alr gg132_5 (by first | rfl | assumption) (by assumption) (by omega) (by omega) (by omega) (by decide) (fun visMissing_5 evisMissing_5 lvisMissing_5 uvisMissing_5 => ?_); try dsimp only at evisMissing_5) | (refine z_alx gg132_5 rfl (by assumption) (by omega) (by omega) (by first | omega | decide) (by decide) (fun visMissing_5 evisMissing_5 lvisMissing_5 uvisMissing_5 => ?_); try dsimp only at evisMissing_5) | refine z_alq gg132_5 rfl (by omega) (by omega) (by decide) ?_
      refine z_neg gg132_6 ?_
      refine z_icmpne gg132_8 (tg := 15) rfl (by omega) (by omega) (fun c2 => ?_) (fun c2 => ?_)
      · try (exfalso; omega)
        all_goals (
          refine z_const gg132_15 (v := 0) rfl ?_
          refine z_zretC gg132_16 (by omega) ?_
          refine z_ifeq gg204_70 (tg := 77) rfl (by decide) (fun _ => ?_) (fun z => absurd z (by decide))
          refine z_const gg204_77 (v := 1) rfl ?_
          first | refine z_iadd gg204_78 ?_ | refine q_iadd gg204_78 ?_
          refine q_istore gg204_79 rfl ?_
          refine z_iinc gg204_80 rfl rfl ?_
          refine q_goto gg204_83 (tg := 58) rfl ?_
          first | (rw [if_pos (by omega)] at hp; rw [hp] at hi; exact hi) | (rw [if_neg (by omega)] at hp; rw [hp] at hi; exact hi)
        )
      · try (exfalso; omega)
        all_goals (
          refine z_const gg132_11 (v := 1) rfl ?_
          refine q_goto gg132_12 (tg := 16) rfl ?_
          refine z_zretC gg132_16 (by omega) ?_
          refine z_ifeq gg204_70 (tg := 77) rfl (by decide) (fun z => absurd z (by decide)) (fun _ => ?_)
          refine z_const gg204_73 (v := 0) rfl ?_
          refine q_goto gg204_74 (tg := 78) rfl ?_
          first | refine z_iadd gg204_78 ?_ | refine q_iadd gg204_78 ?_
          refine q_istore gg204_79 rfl ?_
          refine z_iinc gg204_80 rfl rfl ?_
          refine q_goto gg204_83 (tg := 58) rfl ?_
          first | (rw [if_pos (by omega)] at hp; rw [hp] at hi; exact hi) | (rw [if_neg (by omega)] at hp; rw [hp] at hi; exact hi)
        )
  refine z_const gg204_0 (v := 0) rfl ?_
  refine q_istore gg204_1 rfl ?_
  refine q_iload gg204_2 rfl ?_
  refine z_sw gg204_3 (by omega) ?_
  simp only [hm_swt_cons, hm_swt_nil]
  split
  · try (exfalso; omega)
    all_goals (
      refine z_const gg204_56 (v := 0) rfl ?_
      refine q_istore gg204_57 rfl ?_
      exact L (by assumption) 8 0 (by decide) (by decide)
    )
  split
  · try (exfalso; omega)
    all_goals (
      refine q_aload gg204_88 rfl ?_
      refine q_getr gg204_89 rfl ?_
      refine z_const gg204_92 (v := 2) rfl ?_
      first | (refine z_alr gg204_93 (by first | rfl | assumption) (by assumption) (by omega) (by omega) (by omega) (by decide) (fun v93 ev93 lv93 uv93 => ?_); try dsimp only at ev93) | (refine z_alx gg204_93 rfl (by assumption) (by omega) (by omega) (by first | omega | decide) (by decide) (fun v93 ev93 lv93 uv93 => ?_); try dsimp only at ev93) | refine z_alq gg204_93 rfl (by omega) (by omega) (by decide) ?_
      refine q_iret gg204_94 ?_
      refine qv ?_ kk
      subst_vars
      unfold aCount
      first | (simp; done) | (simp [*]; done)
    )
  split
  · try (exfalso; omega)
    all_goals (
      refine q_aload gg204_95 rfl ?_
      refine q_getr gg204_96 rfl ?_
      refine z_const gg204_99 (v := 3) rfl ?_
      first | (refine z_alr gg204_100 (by first | rfl | assumption) (by assumption) (by omega) (by omega) (by omega) (by decide) (fun v100 ev100 lv100 uv100 => ?_); try dsimp only at ev100) | (refine z_alx gg204_100 rfl (by assumption) (by omega) (by omega) (by first | omega | decide) (by decide) (fun v100 ev100 lv100 uv100 => ?_); try dsimp only at ev100) | refine z_alq gg204_100 rfl (by omega) (by omega) (by decide) ?_
      refine q_iret gg204_101 ?_
      refine qv ?_ kk
      subst_vars
      unfold aCount
      first | (simp; done) | (simp [*]; done)
    )
  split
  · try (exfalso; omega)
    all_goals (
      refine q_aload gg204_102 rfl ?_
      refine q_getr gg204_103 rfl ?_
      refine z_const gg204_106 (v := 0) rfl ?_
      first | (refine z_alr gg204_107 (by first | rfl | assumption) (by assumption) (by omega) (by omega) (by omega) (by decide) (fun v107 ev107 lv107 uv107 => ?_); try dsimp only at ev107) | (refine z_alx gg204_107 rfl (by assumption) (by omega) (by omega) (by first | omega | decide) (by decide) (fun v107 ev107 lv107 uv107 => ?_); try dsimp only at ev107) | refine z_alq gg204_107 rfl (by omega) (by omega) (by decide) ?_
      refine q_iret gg204_108 ?_
      refine qv ?_ kk
      subst_vars
      unfold aCount
      first | (simp; done) | (simp [*]; done)
    )
  split
  · try (exfalso; omega)
    all_goals (
      refine q_aload gg204_109 rfl ?_
      refine q_getr gg204_110 rfl ?_
      refine z_const gg204_113 (v := 1) rfl ?_
      first | (refine z_alr gg204_114 (by first | rfl | assumption) (by assumption) (by omega) (by omega) (by omega) (by decide) (fun v114 ev114 lv114 uv114 => ?_); try dsimp only at ev114) | (refine z_alx gg204_114 rfl (by assumption) (by omega) (by omega) (by first | omega | decide) (by decide) (fun v114 ev114 lv114 uv114 => ?_); try dsimp only at ev114) | refine z_alq gg204_114 rfl (by omega) (by omega) (by decide) ?_
      refine q_iret gg204_115 ?_
      refine qv ?_ kk
      subst_vars
      unfold aCount
      first | (simp; done) | (simp [*]; done)
    )
  split
  · try (exfalso; omega)
    all_goals (
      refine q_aload gg204_116 rfl ?_
      refine q_getr gg204_117 rfl ?_
      refine z_const gg204_120 (v := 5) rfl ?_
      refine q_call2 gg204_121 tt156 rfl (Nat.le_of_ble_eq_true rfl) rfl (ls' := [some _, some _, none, none]) rfl rfl ?_
      refine hm_Wp.eqM (hm_row_self M 36).symm ?_
      refine r_areSo rfl hf hw.1.1.1 hw.1.1.2 (by decide) (by decide) (hw.f01 (by decide) (by decide)) ?_
      rw [wf_bs hw (by decide) (by decide), hm_row_self]
      show hm_Wp _ _ _ _ (_ :: _) _ _
      refine q_iret gg204_124 ?_
      refine qv ?_ kk
      subst_vars
      unfold aCount
      first | (simp; done) | (simp [*]; done)
    )
  split
  · try (exfalso; omega)
    all_goals (
      refine q_aload gg204_125 rfl ?_
      refine q_getr gg204_126 rfl ?_
      refine z_const gg204_129 (v := 4) rfl ?_
      refine q_call2 gg204_130 tt156 rfl (Nat.le_of_ble_eq_true rfl) rfl (ls' := [some _, some _, none, none]) rfl rfl ?_
      refine hm_Wp.eqM (hm_row_self M 36).symm ?_
      refine r_areSo rfl hf hw.1.1.1 hw.1.1.2 (by decide) (by decide) (hw.f01 (by decide) (by decide)) ?_
      rw [wf_bs hw (by decide) (by decide), hm_row_self]
      show hm_Wp _ _ _ _ (_ :: _) _ _
      refine q_iret gg204_133 ?_
      refine qv ?_ kk
      subst_vars
      unfold aCount
      first | (simp; done) | (simp [*]; done)
    )
  split
  · try (exfalso; omega)
    all_goals (
      refine q_aload gg204_134 rfl ?_
      refine q_getr gg204_135 rfl ?_
      refine z_const gg204_138 (v := 6) rfl ?_
      refine q_call2 gg204_140 tt156 rfl (Nat.le_of_ble_eq_true rfl) rfl (ls' := [some _, some _, none, none]) rfl rfl ?_
      refine hm_Wp.eqM (hm_row_self M 36).symm ?_
      refine r_areSo rfl hf hw.1.1.1 hw.1.1.2 (by decide) (by decide) (hw.f01 (by decide) (by decide)) ?_
      rw [wf_bs hw (by decide) (by decide), hm_row_self]
      show hm_Wp _ _ _ _ (_ :: _) _ _
      refine q_iret gg204_143 ?_
      refine qv ?_ kk
      subst_vars
      unfold aCount
      first | (simp; done) | (simp [*]; done)
    )
  split
  · try (exfalso; omega)
    all_goals (
      refine q_aload gg204_144 rfl ?_
      first | refine z_getf gg204_145 rfl (by assumption) ?_ | refine q_getf gg204_145 rfl ?_
      refine q_iret gg204_148 ?_
      refine qv ?_ kk
      subst_vars
      unfold aCount
      first | (simp; done) | (simp [*]; done)
    )
  split
  · try (exfalso; omega)
    all_goals (
      refine q_aload gg204_149 rfl ?_
      first | refine z_getf gg204_150 rfl (by assumption) ?_ | refine q_getf gg204_150 rfl ?_
      refine q_iret gg204_153 ?_
      refine qv ?_ kk
      subst_vars
      unfold aCount
      first | (simp; done) | (simp [*]; done)
    )
  try (exfalso; omega)
  all_goals (
    show hm_Wp _ _ 154 _ _ _ _
    refine z_neg gg204_154 ?_
    refine q_iret gg204_156 ?_
    refine qv ?_ kk
    subst_vars
    unfold aCount
    first | (simp; done) | (simp [*]; done)
  )
end K3
