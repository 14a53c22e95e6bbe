section F9
variable {d r : Nat} {M N : hm_M} {w v w0 g : Int → Int} {b n e x a s y c q i : Int} {f : Nat → Int32} {Q : Option hm_V → hm_M → Prop}
theorem p2_nat {P : Int} {k : Nat} (h : (2 : Int) ^ k = P) : P.toNat = 2 ^ k := by
  have : ((2 ^ k : Nat) : Int) = P := by push_cast; exact h
  rw [← this]; exact Int.toNat_natCast _
theorem gcd_bd {A B : Int} (hA : 0 ≤ A) (hB : 1 ≤ B) (hB2 : B ≤ 10000000) : (1 : Int) ≤ (Nat.gcd A.toNat B.toNat : Int) ∧ (Nat.gcd A.toNat B.toNat : Int) ≤ 10000000 := by
  have h1 := Nat.gcd_pos_of_pos_right A.toNat (show 0 < B.toNat by omega)
  have h2 := Nat.gcd_le_right A.toNat (show 0 < B.toNat by omega)
  omega
theorem mice_t (hb : miB w b n s = 1) : miG w b n c s = wtp s c (w 2).toNat := by simp [miG, hb]
theorem mice_f (hb : miB w b n s ≠ 1) : miG w b n c s = 0 := by simp [miG, hb]
theorem c_chance (hb0 : 0 ≤ b) (hb : b < w 2) (hn0 : 0 ≤ n) (hn : n ≤ 30) (hc0 : 0 ≤ c) (hc : c ≤ 10) (hy0 : 0 ≤ y) (hy : y ≤ 1) (h : Hb M 7 w) (hw : mWf w) (h3 : w 3 ≤ 9999) (kk : ∀ M', FT M M' → Q (some (.inl (zI (aMice w b n c y)))) M') : hm_Wp (d + 6) 21 0 [some (.inr (.inr 21)), some (.inl (zI b)), some (.inl (zI n)), some (.inl (zI c)), some (.inl (zI y)), none, none, none, none] [] M Q := by
  have hn2 := hw.1.1
  have hP := p2_bd (n := w 2) hn2.2
  have h10 := p10_bd (n := w 2) hn2.2
  have hE := aMice_y (w := w) (b := b) (n := n) (c := c) (y := y) ⟨hb0, hb, hn0, hn, hc0, hc, hy0, hy⟩
  rw [hE] at kk
  generalize hPe : (2 : Int) ^ (w 2).toNat = P at hP
  have hPn := p2_nat hPe
  have L : ∀ (m : Nat) (s : Int) (N : hm_M) (x8 : Option hm_V), 0 ≤ s → s + m = P → FT M N → hm_Wp (d + 6) 21 9 [some (.inr (.inr 21)), some (.inl (zI b)), some (.inl (zI n)), some (.inl (zI c)), some (.inl (zI y)), some (.inl (zI (csum (miG w b n c) s.toNat))), some (.inl (zI (csum (fun s => wtp s c (w 2).toNat) s.toNat))), some (.inl (zI s)), x8] [] N Q := by
    intro m
    induction m with
    | zero =>
      intro s N x8 hs0 hsm hft
      have h4 := (h.ft hft).1.1
      have hbd := mi_bd (b := b) (n := n) (k := s.toNat) hw hc0 hc (by omega)
      have hA : csum (miG w b n c) s.toNat = miA w b n c := by unfold miA; rw [show s.toNat = 2 ^ (w 2).toNat by omega]
      have hB : csum (fun s => wtp s c (w 2).toNat) s.toNat = 10 ^ (w 2).toNat := by rw [show s.toNat = 2 ^ (w 2).toNat by omega]; exact wtp_sum hn2.1 hn2.2 hc0 hc
      rw [hA] at hbd
      rw [hA, hB]
      have hg := gcd_bd (A := miA w b n c) (B := 10 ^ (w 2).toNat) hbd.1 h10.1 h10.2
      generalize (10 : Int) ^ (w 2).toNat = B at kk hg h10 ⊢
      refine q_iload gg21_9 rfl ?_
      refine z_const gg21_11 (v := 1) rfl ?_
      refine q_aload gg21_12 rfl ?_
      refine q_getr gg21_13 rfl ?_
      first | refine z_getf gg21_16 rfl (by assumption) ?_ | refine q_getf gg21_16 rfl ?_
      first | refine z_ishl gg21_19 (by omega) (by omega) (by omega) (by omega) ?_ | refine z_ishl7 gg21_19 (by omega) (by omega) (fun s19 es19 => ?_) | refine q_ishl gg21_19 ?_
      refine z_icmpge gg21_20 (tg := 68) rfl (by omega) (by omega) (fun c1 => ?_) (fun z => absurd z (by omega))
      refine z_const gg21_68 (v := 1) rfl ?_
      refine q_iload gg21_69 rfl ?_
      refine q_iload gg21_71 rfl ?_
      refine q_call2 gg21_73 tt24 rfl (Nat.le_of_ble_eq_true rfl) rfl (ls' := [some _, some _, none, none, none, none]) rfl rfl ?_
      refine c_gcd hbd.1 hbd.2.1 (by omega) h10.2 ?_
      show hm_Wp _ _ _ _ (_ :: _) _ _
      refine z_max gg21_76 (Nat.le_of_ble_eq_true rfl) (by omega) (by omega) ?_
      refine q_istore gg21_79 rfl ?_
      refine q_iload gg21_81 rfl ?_
      refine z_ifne gg21_83 (tg := 91) rfl (by omega) (fun c2 => ?_) (fun c2 => ?_)
      · try (exfalso; omega)
        all_goals (
          refine q_iload gg21_91 rfl ?_
          refine q_iload gg21_93 rfl ?_
          refine z_idiv gg21_95 (by omega) (by omega) (by omega) (by omega) ?_
          refine q_iret gg21_96 ?_
          refine qv ?_ (kk _ hft)
          rw [show max 1 (Nat.gcd (miA w b n c).toNat B.toNat : Int) = (Nat.gcd (miA w b n c).toNat B.toNat : Int) by omega]
          first | (rw [if_pos (by omega)]; done) | (rw [if_neg (by omega)]; done)
        )
      · try (exfalso; omega)
        all_goals (
          refine q_iload gg21_86 rfl ?_
          refine q_goto gg21_88 (tg := 93) rfl ?_
          refine q_iload gg21_93 rfl ?_
          refine z_idiv gg21_95 (by omega) (by omega) (by omega) (by omega) ?_
          refine q_iret gg21_96 ?_
          refine qv ?_ (kk _ hft)
          rw [show max 1 (Nat.gcd (miA w b n c).toNat B.toNat : Int) = (Nat.gcd (miA w b n c).toNat B.toNat : Int) by omega]
          first | (rw [if_pos (by omega)]; done) | (rw [if_neg (by omega)]; done)
        )
    | succ m ih =>
      intro s N x8 hs0 hsm hft
      have h4 := (h.ft hft).1.1
      have hbd := mi_bd (b := b) (n := n) (k := (s + 1).toNat) hw hc0 hc (by omega)
      have hi := fun N x8 => ih (s + 1) N x8 (by omega) (by omega)
      rw [csum_succ hs0, csum_succ hs0] at hi hbd
      have hbd0 := mi_bd (b := b) (n := n) (k := s.toNat) hw hc0 hc (by omega)
      have hwt := wtp_nn (s := s) hc0 hc (w 2).toNat
      have hB := miB_01 (s := s) hw h3 hb0 hb hn0 hn
      have g1 := mice_t (w := w) (b := b) (n := n) (s := s) (c := c)
      have g0 := mice_f (w := w) (b := b) (n := n) (s := s) (c := c)
      refine q_iload gg21_9 rfl ?_
      refine z_const gg21_11 (v := 1) rfl ?_
      refine q_aload gg21_12 rfl ?_
      refine q_getr gg21_13 rfl ?_
      first | refine z_getf gg21_16 rfl (by assumption) ?_ | refine q_getf gg21_16 rfl ?_
      first | refine z_ishl gg21_19 (by omega) (by omega) (by omega) (by omega) ?_ | refine z_ishl7 gg21_19 (by omega) (by omega) (fun s19 es19 => ?_) | refine q_ishl gg21_19 ?_
      refine z_icmpge gg21_20 (tg := 68) rfl (by omega) (by omega) (fun z => absurd z (by omega)) (fun c1 => ?_)
      refine q_aload gg21_23 rfl ?_
      refine q_iload gg21_24 rfl ?_
      refine q_iload gg21_26 rfl ?_
      refine q_call3 gg21_27 tt22 rfl (Nat.le_of_ble_eq_true rfl) (hm_rv (by decide +kernel)) (ls' := [some _, some _, some _, none, none]) rfl rfl ?_
      refine c_weightOf hs0 (by omega) hc0 hc (h.ft hft) hw ?_
      show hm_Wp _ _ _ _ (_ :: _) _ _
      refine q_istore gg21_30 rfl ?_
      refine q_iload gg21_32 rfl ?_
      refine q_iload gg21_34 rfl ?_
      first | refine z_iadd gg21_36 ?_ | refine q_iadd gg21_36 ?_
      refine q_istore gg21_37 rfl ?_
      refine q_iload gg21_39 rfl ?_
      refine z_ifle gg21_41 (tg := 62) rfl (by omega) (fun c2 => ?_) (fun c2 => ?_)
      · try (exfalso; omega)
        all_goals (
          refine z_iinc gg21_62 rfl rfl ?_
          refine q_goto gg21_65 (tg := 9) rfl ?_
          first | (rw [g1 (by omega)] at hi; exact hi _ _ (hft.tr hft2)) | (rw [g0 (by omega), Int.add_zero] at hi; exact hi _ _ (hft.tr hft2)) | (rw [show miG w b n c s = 0 by rcases hB with hB | hB; (rw [g0 (by omega)]); (rw [g1 hB]; omega)] at hi; rw [Int.add_zero] at hi; exact hi _ _ hft)
        )
      · try (exfalso; omega)
        all_goals (
          refine q_aload gg21_44 rfl ?_
          refine q_iload gg21_45 rfl ?_
          refine q_iload gg21_46 rfl ?_
          refine q_iload gg21_47 rfl ?_
          refine q_call4 gg21_49 tt23 rfl (Nat.le_of_ble_eq_true rfl) (hm_rv (by decide +kernel)) (ls' := [some _, some _, some _, some _, none]) rfl rfl ?_
          refine c_burstsWithMice hs0 (by omega) hb0 hb hn0 hn (h.ft hft) hw h3 (fun M2 hft2 => ?_)
          show hm_Wp _ _ _ _ (_ :: _) _ _
          refine z_ifeq gg21_52 (tg := 62) rfl (by omega) (fun c3 => ?_) (fun c3 => ?_)
          · try (exfalso; omega)
            all_goals (
              refine z_iinc gg21_62 rfl rfl ?_
              refine q_goto gg21_65 (tg := 9) rfl ?_
              first | (rw [g1 (by omega)] at hi; exact hi _ _ (hft.tr hft2)) | (rw [g0 (by omega), Int.add_zero] at hi; exact hi _ _ (hft.tr hft2)) | (rw [show miG w b n c s = 0 by rcases hB with hB | hB; (rw [g0 (by omega)]); (rw [g1 hB]; omega)] at hi; rw [Int.add_zero] at hi; exact hi _ _ hft)
            )
          · try (exfalso; omega)
            all_goals (
              refine q_iload gg21_55 rfl ?_
              refine q_iload gg21_57 rfl ?_
              first | refine z_iadd gg21_59 ?_ | refine q_iadd gg21_59 ?_
              refine q_istore gg21_60 rfl ?_
              refine z_iinc gg21_62 rfl rfl ?_
              refine q_goto gg21_65 (tg := 9) rfl ?_
              first | (rw [g1 (by omega)] at hi; exact hi _ _ (hft.tr hft2)) | (rw [g0 (by omega), Int.add_zero] at hi; exact hi _ _ (hft.tr hft2)) | (rw [show miG w b n c s = 0 by rcases hB with hB | hB; (rw [g0 (by omega)]); (rw [g1 hB]; omega)] at hi; rw [Int.add_zero] at hi; exact hi _ _ hft)
            )
        )
  refine z_const gg21_0 (v := 0) rfl ?_
  refine q_istore gg21_1 rfl ?_
  refine z_const gg21_3 (v := 0) rfl ?_
  refine q_istore gg21_4 rfl ?_
  refine z_const gg21_6 (v := 0) rfl ?_
  refine q_istore gg21_7 rfl ?_
  exact L P.toNat 0 M none (by decide) (by omega) FT.rf
theorem c_mice (hb : zR b) (hz : zR n) (hc : zR c) (hy : zR y) (h : Hb M 7 w) (hw : mWf w) (h3 : w 3 ≤ 9999) (kk : ∀ M', FT M M' → Q (some (.inl (zI (aMice w b n c y)))) M') : hm_Wp (d + 7) 110 0 [some (.inr (.inr 0)), some (.inl (zI b)), some (.inl (zI n)), some (.inl (zI c)), some (.inl (zI y))] [] M Q := by
  have hn := hw.1.1
  have h4 := h.1.1
  unfold zR at hz hb hc hy
  refine q_aload gg110_0 rfl ?_
  refine q_getr gg110_1 rfl ?_
  refine q_iload gg110_4 rfl ?_
  refine q_call2 gg110_5 tt32 rfl (Nat.le_of_ble_eq_true rfl) (hm_rv (by decide +kernel)) (ls' := [some _, some _]) rfl rfl ?_
  refine q_iload gg32_0 rfl ?_
  refine z_iflt gg32_1 (tg := 16) rfl (by omega) (fun c1 => ?_) (fun c1 => ?_)
  · try (exfalso; omega)
    all_goals (
      refine z_const gg32_16 (v := 0) rfl ?_
      refine z_zretC gg32_17 (by omega) ?_
      refine z_ifeq gg110_8 (tg := 39) rfl (by decide) (fun _ => ?_) (fun z => absurd z (by decide))
      refine z_neg gg110_39 ?_
      refine q_iret gg110_41 ?_
      first | (refine qv ?_ (kk _ FT.rf); unfold aMice; rw [if_neg (by omega)]; done) | exact kk _ hft
    )
  · try (exfalso; omega)
    all_goals (
      refine q_iload gg32_4 rfl ?_
      refine q_aload gg32_5 rfl ?_
      first | refine z_getf gg32_6 rfl (by assumption) ?_ | refine q_getf gg32_6 rfl ?_
      refine z_icmpge gg32_9 (tg := 16) rfl (by omega) (by omega) (fun c2 => ?_) (fun c2 => ?_)
      · try (exfalso; omega)
        all_goals (
          refine z_const gg32_16 (v := 0) rfl ?_
          refine z_zretC gg32_17 (by omega) ?_
          refine z_ifeq gg110_8 (tg := 39) rfl (by decide) (fun _ => ?_) (fun z => absurd z (by decide))
          refine z_neg gg110_39 ?_
          refine q_iret gg110_41 ?_
          first | (refine qv ?_ (kk _ FT.rf); unfold aMice; rw [if_neg (by omega)]; done) | exact kk _ hft
        )
      · try (exfalso; omega)
        all_goals (
          refine z_const gg32_12 (v := 1) rfl ?_
          refine q_goto gg32_13 (tg := 17) rfl ?_
          refine z_zretC gg32_17 (by omega) ?_
          refine z_ifeq gg110_8 (tg := 39) rfl (by decide) (fun z => absurd z (by decide)) (fun _ => ?_)
          refine q_iload gg110_11 rfl ?_
          refine z_iflt gg110_12 (tg := 39) rfl (by omega) (fun c3 => ?_) (fun c3 => ?_)
          · try (exfalso; omega)
            all_goals (
              refine z_neg gg110_39 ?_
              refine q_iret gg110_41 ?_
              first | (refine qv ?_ (kk _ FT.rf); unfold aMice; rw [if_neg (by omega)]; done) | exact kk _ hft
            )
          · try (exfalso; omega)
            all_goals (
              refine q_iload gg110_15 rfl ?_
              refine z_const gg110_16 (v := 30) rfl ?_
              refine z_icmpgt gg110_18 (tg := 39) rfl (by omega) (by omega) (fun c4 => ?_) (fun c4 => ?_)
              · try (exfalso; omega)
                all_goals (
                  refine z_neg gg110_39 ?_
                  refine q_iret gg110_41 ?_
                  first | (refine qv ?_ (kk _ FT.rf); unfold aMice; rw [if_neg (by omega)]; done) | exact kk _ hft
                )
              · try (exfalso; omega)
                all_goals (
                  refine q_iload gg110_21 rfl ?_
                  refine z_iflt gg110_22 (tg := 39) rfl (by omega) (fun c5 => ?_) (fun c5 => ?_)
                  · try (exfalso; omega)
                    all_goals (
                      refine z_neg gg110_39 ?_
                      refine q_iret gg110_41 ?_
                      first | (refine qv ?_ (kk _ FT.rf); unfold aMice; rw [if_neg (by omega)]; done) | exact kk _ hft
                    )
                  · try (exfalso; omega)
                    all_goals (
                      refine q_iload gg110_25 rfl ?_
                      refine z_const gg110_26 (v := 10) rfl ?_
                      refine z_icmpgt gg110_28 (tg := 39) rfl (by omega) (by omega) (fun c6 => ?_) (fun c6 => ?_)
                      · try (exfalso; omega)
                        all_goals (
                          refine z_neg gg110_39 ?_
                          refine q_iret gg110_41 ?_
                          first | (refine qv ?_ (kk _ FT.rf); unfold aMice; rw [if_neg (by omega)]; done) | exact kk _ hft
                        )
                      · try (exfalso; omega)
                        all_goals (
                          refine q_iload gg110_31 rfl ?_
                          refine q_call1 gg110_33 tt122 rfl (Nat.le_of_ble_eq_true rfl) rfl (ls' := [some _]) rfl rfl ?_
                          refine q_iload gg122_0 rfl ?_
                          refine z_ifeq gg122_1 (tg := 9) rfl (by omega) (fun c7 => ?_) (fun c7 => ?_)
                          · try (exfalso; omega)
                            all_goals (
                              refine z_const gg122_9 (v := 1) rfl ?_
                              refine q_goto gg122_10 (tg := 14) rfl ?_
                              refine z_zretC gg122_14 (by omega) ?_
                              refine z_ifne gg110_36 (tg := 42) rfl (by decide) (fun _ => ?_) (fun z => absurd z (by decide))
                              refine q_aload gg110_42 rfl ?_
                              refine q_getr gg110_43 rfl ?_
                              refine q_iload gg110_46 rfl ?_
                              refine q_iload gg110_47 rfl ?_
                              refine q_iload gg110_48 rfl ?_
                              refine q_iload gg110_49 rfl ?_
                              refine q_call5 gg110_51 tt21 rfl (Nat.le_of_ble_eq_true rfl) (hm_rv (by decide +kernel)) (ls' := [some _, some _, some _, some _, some _, none, none, none, none]) rfl rfl ?_
                              refine c_chance (by omega) (by omega) (by omega) (by omega) (by omega) (by omega) (by omega) (by omega) h hw h3 (fun M1 hft => ?_)
                              show hm_Wp _ _ _ _ (_ :: _) _ _
                              refine q_iret gg110_54 ?_
                              first | (refine qv ?_ (kk _ FT.rf); unfold aMice; rw [if_neg (by omega)]; done) | exact kk _ hft
                            )
                          · try (exfalso; omega)
                            all_goals (
                              refine q_iload gg122_4 rfl ?_
                              refine z_const gg122_5 (v := 1) rfl ?_
                              refine z_icmpne gg122_6 (tg := 13) rfl (by omega) (by omega) (fun c8 => ?_) (fun c8 => ?_)
                              · try (exfalso; omega)
                                all_goals (
                                  refine z_const gg122_13 (v := 0) rfl ?_
                                  refine z_zretC gg122_14 (by omega) ?_
                                  refine z_ifne gg110_36 (tg := 42) rfl (by decide) (fun z => absurd z (by decide)) (fun _ => ?_)
                                  refine z_neg gg110_39 ?_
                                  refine q_iret gg110_41 ?_
                                  first | (refine qv ?_ (kk _ FT.rf); unfold aMice; rw [if_neg (by omega)]; done) | exact kk _ hft
                                )
                              · try (exfalso; omega)
                                all_goals (
                                  refine z_const gg122_9 (v := 1) rfl ?_
                                  refine q_goto gg122_10 (tg := 14) rfl ?_
                                  refine z_zretC gg122_14 (by omega) ?_
                                  refine z_ifne gg110_36 (tg := 42) rfl (by decide) (fun _ => ?_) (fun z => absurd z (by decide))
                                  refine q_aload gg110_42 rfl ?_
                                  refine q_getr gg110_43 rfl ?_
                                  refine q_iload gg110_46 rfl ?_
                                  refine q_iload gg110_47 rfl ?_
                                  refine q_iload gg110_48 rfl ?_
                                  refine q_iload gg110_49 rfl ?_
                                  refine q_call5 gg110_51 tt21 rfl (Nat.le_of_ble_eq_true rfl) (hm_rv (by decide +kernel)) (ls' := [some _, some _, some _, some _, some _, none, none, none, none]) rfl rfl ?_
                                  refine c_chance (by omega) (by omega) (by omega) (by omega) (by omega) (by omega) (by omega) (by omega) h hw h3 (fun M1 hft => ?_)
                                  show hm_Wp _ _ _ _ (_ :: _) _ _
                                  refine q_iret gg110_54 ?_
                                  first | (refine qv ?_ (kk _ FT.rf); unfold aMice; rw [if_neg (by omega)]; done) | exact kk _ hft
                                )
                            )
                        )
                    )
                )
            )
        )
    )
theorem mMi_t (he0 : 0 ≤ e) (h : zbit s e = 1) : mZ 2 (mZ 4 w s (e + 1)) s (e + 1) i = zup (zup (mZ 2 (mZ 4 w s e) s e) (4 + 7 * e + 4) 0) (4 + 7 * e + 2) 0 i := by
  rw [mZ_t he0 (by decide) (by decide) h]
  simp only [zup]
  by_cases h1 : i = 4 + 7 * e + 2
  · simp [h1]
  · rw [if_neg h1, if_neg h1]
    show (if 4 ≤ i ∧ i < 4 + 7 * e ∧ (i - 4) % 7 = 2 ∧ zbit s ((i - 4) / 7) = 1 then 0 else mZ 4 w s (e + 1) i) = _
    rw [mZ_t he0 (by decide) (by decide) h]
    simp only [mZ, zup]
    (repeat' split) <;> first | rfl | omega
theorem mMi_f (he0 : 0 ≤ e) (h : zbit s e ≠ 1) : mZ 2 (mZ 4 w s (e + 1)) s (e + 1) i = mZ 2 (mZ 4 w s e) s e i := by
  rw [mZ_f he0 (by decide) (by decide) h]
  show (if 4 ≤ i ∧ i < 4 + 7 * e ∧ (i - 4) % 7 = 2 ∧ zbit s ((i - 4) / 7) = 1 then 0 else mZ 4 w s (e + 1) i) = _
  rw [mZ_f he0 (by decide) (by decide) h]
  rfl
theorem r_mice (hb : zR b) (hz : zR n) (hc : zR c) (hy : zR y) (hf : aw (M 36) 53 0 20000 w) (hw : mWf w) (h3 : w 3 ≤ 9999) (kk : ∀ (M' : hm_M), FR M M' → Q (some (.inl (zI (aMice w b n c y)))) M') : hm_Wp (d + 7) 190 0 [some (.inr (.inr 30)), some (.inl (zI b)), some (.inl (zI n)), some (.inl (zI c)), some (.inl (zI y)), none, none, none, none, none] [] M Q := by
  have hn2 := hw.1.1
  have hP := p2_bd (n := w 2) hn2.2
  have h10 := p10_bd (n := w 2) hn2.2
  unfold zR at hz hb hc hy
  by_cases hin : 0 ≤ b ∧ b < w 2 ∧ 0 ≤ n ∧ n ≤ 30 ∧ 0 ≤ c ∧ c ≤ 10 ∧ 0 ≤ y ∧ y ≤ 1
  · have hE := aMice_y hin
    rw [hE] at kk
    obtain ⟨hb0, hb1, hn0, hn, hc0, hc1, hy0, hy1⟩ := hin
    generalize hPe : (2 : Int) ^ (w 2).toNat = P at hP
    have hPn := p2_nat hPe
    have hbdA := mi_bd (b := b) (n := n) (k := 2 ^ (w 2).toNat) hw hc0 hc1 (Nat.le_refl _)
    rw [show csum (miG w b n c) (2 ^ (w 2).toNat) = miA w b n c from rfl] at hbdA
    have hg := gcd_bd (A := miA w b n c) (B := 10 ^ (w 2).toNat) hbdA.1 h10.1 h10.2
    generalize hBe : (10 : Int) ^ (w 2).toNat = B at kk hg h10
    generalize hGe : Nat.gcd (miA w b n c).toNat B.toNat = G at kk hg
    have L3 : ∀ (m : Nat) (x x' : Int) (N : hm_M) (x9 : Option hm_V), 0 ≤ x → x ≤ 10000000 → 0 ≤ x' → x' ≤ 10000000 → x' ≤ m → FR M N → Nat.gcd x.toNat x'.toNat = G → hm_Wp (d + 7) 190 236 [some (.inr (.inr 30)), some (.inl (zI b)), some (.inl (zI n)), some (.inl (zI c)), some (.inl (zI y)), some (.inl (zI (miA w b n c))), some (.inl (zI B)), some (.inl (zI x)), some (.inl (zI x')), x9] [] N Q := by
      intro m
      induction m with
      | zero =>
        intro x x' N x9 hx0 hx hx'0 hx' hm hft hG
        have hx'z : x' = 0 := by omega
        subst hx'z
        simp at hG
        have hxG : x = (G : Int) := by omega
        subst hxG
        refine q_iload gg190_236 rfl ?_
        refine z_ifeq gg190_238 (tg := 259) rfl (by omega) (fun c1 => ?_) (fun z => absurd z (by omega))
        refine q_iload gg190_259 rfl ?_
        refine z_ifne gg190_261 (tg := 269) rfl (by omega) (fun c2 => ?_) (fun c2 => ?_)
        · try (exfalso; omega)
          all_goals (
            refine q_iload gg190_269 rfl ?_
            refine q_iload gg190_271 rfl ?_
            refine z_idiv gg190_273 (by omega) (by omega) (by omega) (by omega) ?_
            refine q_iret gg190_274 ?_
            refine qv ?_ (kk _ hft)
            first | (rw [if_pos (by omega)]; done) | (rw [if_neg (by omega)]; done)
          )
        · try (exfalso; omega)
          all_goals (
            refine q_iload gg190_264 rfl ?_
            refine q_goto gg190_266 (tg := 271) rfl ?_
            refine q_iload gg190_271 rfl ?_
            refine z_idiv gg190_273 (by omega) (by omega) (by omega) (by omega) ?_
            refine q_iret gg190_274 ?_
            refine qv ?_ (kk _ hft)
            first | (rw [if_pos (by omega)]; done) | (rw [if_neg (by omega)]; done)
          )
      | succ m ih =>
        intro x x' N x9 hx0 hx hx'0 hx' hm hft hG
        by_cases hz : x' = 0
        · exact ih x x' N x9 hx0 hx hx'0 hx' (by omega) hft hG
        · have r0 := Int.emod_nonneg x hz
          have r1 := Int.emod_lt_of_pos x (show 0 < x' by omega)
          rw [gcd_st hx0 (by omega)] at hG
          refine q_iload gg190_236 rfl ?_
          refine z_ifeq gg190_238 (tg := 259) rfl (by omega) (fun z => absurd z (by omega)) (fun c1 => ?_)
          refine q_iload gg190_241 rfl ?_
          refine q_iload gg190_243 rfl ?_
          refine z_irem gg190_245 (by omega) (by omega) (by omega) (by omega) ?_
          refine q_istore gg190_246 rfl ?_
          refine q_iload gg190_248 rfl ?_
          refine q_istore gg190_250 rfl ?_
          refine q_iload gg190_252 rfl ?_
          refine q_istore gg190_254 rfl ?_
          refine q_goto gg190_256 (tg := 236) rfl ?_
          exact ih x' (x % x') N _ hx'0 hx' r0 (by omega) (by omega) hft hG
    have L2 : ∀ (m : Nat) (s : Int) (N : hm_M) (x8 x9 : Option hm_V), hm_free [some (.inr (.inr 30)), some (.inl (zI b)), some (.inl (zI n)), some (.inl (zI c)), some (.inl (zI y)), some (.inl (zI 0)), some (.inl (zI B)), some (.inl (zI s)), x8, x9] 9 = true → 0 ≤ s → s + m = P → FR M N → hm_Wp (d + 7) 190 77 [some (.inr (.inr 30)), some (.inl (zI b)), some (.inl (zI n)), some (.inl (zI c)), some (.inl (zI y)), some (.inl (zI (csum (miG w b n c) s.toNat))), some (.inl (zI B)), some (.inl (zI s)), x8, x9] [] N Q := by
      intro m
      induction m with
      | zero =>
        intro s N x8 x9 hx9 hs0 hsm hft
        have h36 : aw (N 36) 53 0 20000 w := by rw [hft 36 (by decide)]; exact hf
        have hA : csum (miG w b n c) s.toNat = miA w b n c := by unfold miA; rw [show s.toNat = 2 ^ (w 2).toNat by omega]
        rw [hA]
        refine q_iload gg190_77 rfl ?_
        refine z_const gg190_79 (v := 1) rfl ?_
        refine q_aload gg190_80 rfl ?_
        refine q_getr gg190_81 rfl ?_
        refine z_const gg190_84 (v := 2) rfl ?_
        first | refine z_alr gg190_85 (by first | rfl | assumption) (by assumption) (by omega) (by omega) (by omega) (by decide) (fun v85 ev85 lv85 uv85 => ?_) | refine z_alx gg190_85 rfl (by assumption) (by omega) (by omega) (by omega) (by decide) (fun v85 ev85 lv85 uv85 => ?_) <;> (try dsimp only at ev85)
        subst ev85
        first | refine z_ishl gg190_86 (by omega) (by omega) (by omega) (by omega) ?_ | refine z_ishl7 gg190_86 (by omega) (by omega) (fun s86 es86 => ?_) | refine q_ishl gg190_86 ?_
        refine z_icmpge gg190_87 (tg := 228) rfl (by omega) (by omega) (fun c1 => ?_) (fun z => absurd z (by omega))
        refine q_iload gg190_228 rfl ?_
        refine q_istore gg190_230 rfl ?_
        refine q_iload gg190_232 rfl ?_
        refine q_istore gg190_234 rfl ?_
        exact L3 10000000 _ B N x9 hbdA.1 hbdA.2.1 (by omega) (by omega) (by omega) hft hGe
      | succ m ih =>
        intro s N x8 x9 hx9 hs0 hsm hft
        have h36 : aw (N 36) 53 0 20000 w := by rw [hft 36 (by decide)]; exact hf
        have hbd := mi_bd (b := b) (n := n) (k := (s + 1).toNat) hw hc0 hc1 (by omega)
        have hi := fun N x8 x9 hx9 => ih (s + 1) N x8 x9 hx9 (by omega) (by omega)
        rw [csum_succ hs0] at hi
        have hbd0 := mi_bd (b := b) (n := n) (k := s.toNat) hw hc0 hc1 (by omega)
        have hwt := wtp_nn (s := s) hc0 hc1 (w 2).toNat
        have hB := miB_01 (s := s) hw h3 hb0 hb1 hn0 hn
        have g1 := mice_t (w := w) (b := b) (n := n) (s := s) (c := c)
        have g0 := mice_f (w := w) (b := b) (n := n) (s := s) (c := c)
        have hv := mMi_wf (s := s) hw
        have hv3 : mMi w s 3 = w 3 := mMi_3
        have L1 : ∀ (m' : Nat) (k : Int) (f : Nat → Int32), 0 ≤ k → k + m' = w 2 → aw f 53 0 20000 (mZ 2 (mZ 4 w s k) s k) → hm_Wp (d + 7) 190 109 [some (.inr (.inr 30)), some (.inl (zI b)), some (.inl (zI n)), some (.inl (zI c)), some (.inl (zI y)), some (.inl (zI (csum (miG w b n c) s.toNat))), some (.inl (zI B)), some (.inl (zI s)), some (.inl (zI (wtp s c k.toNat))), some (.inl (zI k))] [] (hm_row N 38 f) Q := by
          intro m'
          induction m' with
          | zero =>
            intro k f hk0 hkm hf1
            have hr2 : aw (hm_row N 38 f 36) 53 0 20000 w := by rw [hm_row_ne _ _ (by decide)]; exact h36
            have hkw : k = w 2 := by omega
            rw [hkw] at hf1 ⊢
            have hf1' : aw f 53 0 20000 (mMi w s) := hf1
            have hBd : miB w b n s = mIt n.toNat (mMi w s) (4 + 7 * b + 5) := rfl
            refine q_iload gg190_109 rfl ?_
            refine q_aload gg190_111 rfl ?_
            refine q_getr gg190_112 rfl ?_
            refine z_const gg190_115 (v := 2) rfl ?_
            first | refine z_alr gg190_116 (by first | rfl | assumption) (by assumption) (by omega) (by omega) (by omega) (by decide) (fun v116 ev116 lv116 uv116 => ?_) | refine z_alx gg190_116 rfl (by assumption) (by omega) (by omega) (by omega) (by decide) (fun v116 ev116 lv116 uv116 => ?_) <;> (try dsimp only at ev116)
            refine z_icmpge gg190_117 (tg := 189) rfl (by omega) (by omega) (fun c1 => ?_) (fun z => absurd z (by omega))
            refine q_aload gg190_189 rfl ?_
            refine q_iload gg190_190 rfl ?_
            refine q_call2 gg190_191 tt175 rfl (Nat.le_of_ble_eq_true rfl) (hm_rv (by decide +kernel)) (ls' := [some _, some _, none]) rfl rfl ?_
            refine r_goesOn hf1' hv.1 hn0 (by omega) (by omega) (fun f2 hf2 => ?_)
            have hft2 : FR M (hm_row N 38 f2) := fun k hk => (FR.row k hk).trans (hft k hk)
            show hm_Wp _ _ _ _ _ _ _
            refine q_iload gg190_194 rfl ?_
            refine q_aload gg190_196 rfl ?_
            refine q_getr gg190_197 rfl ?_
            refine z_const gg190_200 (v := 4) rfl ?_
            refine z_const gg190_201 (v := 7) rfl ?_
            refine q_iload gg190_203 rfl ?_
            first | refine z_imul gg190_204 ?_ | refine q_imul gg190_204 ?_
            first | refine z_iadd gg190_205 ?_ | refine q_iadd gg190_205 ?_
            refine z_const gg190_206 (v := 5) rfl ?_
            first | refine z_iadd gg190_207 ?_ | refine q_iadd gg190_207 ?_
            first | refine z_alr gg190_208 (by first | rfl | assumption) (by assumption) (by omega) (by omega) (by omega) (by decide) (fun v208 ev208 lv208 uv208 => ?_) | refine z_alx gg190_208 rfl (by assumption) (by omega) (by omega) (by omega) (by decide) (fun v208 ev208 lv208 uv208 => ?_) <;> (try dsimp only at ev208)
            refine z_const gg190_209 (v := 1) rfl ?_
            refine z_icmpne gg190_210 (tg := 218) rfl (by omega) (by omega) (fun c2 => ?_) (fun c2 => ?_)
            · try (exfalso; omega)
              all_goals (
                refine z_const gg190_218 (v := 0) rfl ?_
                first | refine z_iadd gg190_219 ?_ | refine q_iadd gg190_219 ?_
                refine q_istore gg190_220 rfl ?_
                refine z_iinc gg190_222 rfl rfl ?_
                refine q_goto gg190_225 (tg := 77) rfl ?_
                first | (rw [g1 (by omega)] at hi; exact hi _ _ _ rfl hft2) | (rw [g0 (by omega)] at hi; exact hi _ _ _ rfl hft2)
              )
            · try (exfalso; omega)
              all_goals (
                refine q_iload gg190_213 rfl ?_
                refine q_goto gg190_215 (tg := 219) rfl ?_
                first | refine z_iadd gg190_219 ?_ | refine q_iadd gg190_219 ?_
                refine q_istore gg190_220 rfl ?_
                refine z_iinc gg190_222 rfl rfl ?_
                refine q_goto gg190_225 (tg := 77) rfl ?_
                first | (rw [g1 (by omega)] at hi; exact hi _ _ _ rfl hft2) | (rw [g0 (by omega)] at hi; exact hi _ _ _ rfl hft2)
              )
          | succ m' ih' =>
            intro k f hk0 hkm hf1
            have hr2 : aw (hm_row N 38 f 36) 53 0 20000 w := by rw [hm_row_ne _ _ (by decide)]; exact h36
            have hi' := fun f => ih' (k + 1) f (by omega) (by omega)
            rw [wtp_succ hk0] at hi'
            have hz : zbit s k = s / 2 ^ k.toNat % 2 := rfl
            refine q_iload gg190_109 rfl ?_
            refine q_aload gg190_111 rfl ?_
            refine q_getr gg190_112 rfl ?_
            refine z_const gg190_115 (v := 2) rfl ?_
            first | refine z_alr gg190_116 (by first | rfl | assumption) (by assumption) (by omega) (by omega) (by omega) (by decide) (fun v116 ev116 lv116 uv116 => ?_) | refine z_alx gg190_116 rfl (by assumption) (by omega) (by omega) (by omega) (by decide) (fun v116 ev116 lv116 uv116 => ?_) <;> (try dsimp only at ev116)
            refine z_icmpge gg190_117 (tg := 189) rfl (by omega) (by omega) (fun z => absurd z (by omega)) (fun c1 => ?_)
            refine q_iload gg190_120 rfl ?_
            refine q_iload gg190_122 rfl ?_
            refine q_iload gg190_124 rfl ?_
            refine q_call2 gg190_126 tt125 rfl (Nat.le_of_ble_eq_true rfl) rfl (ls' := [some _, some _]) rfl rfl ?_
            refine q_iload gg125_0 rfl ?_
            refine q_iload gg125_1 rfl ?_
            first | refine z_ishr gg125_2 (by omega) (by omega) (by omega) (by omega) (fun shas_2 eshas_2 lshas_2 ushas_2 => ?_) | refine q_ishr gg125_2 ?_
            refine z_const gg125_3 (v := 1) rfl ?_
            first | refine z_iand1 gg125_4 (by omega) (by omega) ?_ | refine z_iandn gg125_4 (by omega) (by omega) (by omega) (by omega) ?_ | refine q_iand gg125_4 ?_
            refine z_const gg125_5 (v := 1) rfl ?_
            refine z_icmpne gg125_6 (tg := 13) rfl (by omega) (by omega) (fun c2 => ?_) (fun c2 => ?_)
            · try (exfalso; omega)
              all_goals (
                refine z_const gg125_13 (v := 0) rfl ?_
                refine z_zretC gg125_14 (by omega) ?_
                refine z_ifeq gg190_129 (tg := 136) rfl (by decide) (fun _ => ?_) (fun z => absurd z (by decide))
                refine z_const gg190_136 (v := 10) rfl ?_
                refine q_iload gg190_138 rfl ?_
                first | refine z_isub gg190_139 ?_ | refine q_isub gg190_139 ?_
                first | refine z_imul gg190_140 ?_ | refine q_imul gg190_140 ?_
                refine q_istore gg190_141 rfl ?_
                refine q_iload gg190_143 rfl ?_
                refine q_iload gg190_145 rfl ?_
                refine q_call2 gg190_147 tt125 rfl (Nat.le_of_ble_eq_true rfl) rfl (ls' := [some _, some _]) rfl rfl ?_
                refine q_iload gg125_0 rfl ?_
                refine q_iload gg125_1 rfl ?_
                first | refine z_ishr gg125_2 (by omega) (by omega) (by omega) (by omega) (fun shas_2 eshas_2 lshas_2 ushas_2 => ?_) | refine q_ishr gg125_2 ?_
                refine z_const gg125_3 (v := 1) rfl ?_
                first | refine z_iand1 gg125_4 (by omega) (by omega) ?_ | refine z_iandn gg125_4 (by omega) (by omega) (by omega) (by omega) ?_ | refine q_iand gg125_4 ?_
                refine z_const gg125_5 (v := 1) rfl ?_
                refine z_icmpne gg125_6 (tg := 13) rfl (by omega) (by omega) (fun c3 => ?_) (fun c3 => ?_)
                · try (exfalso; omega)
                  all_goals (
                    refine z_const gg125_13 (v := 0) rfl ?_
                    refine z_zretC gg125_14 (by omega) ?_
                    refine z_ifeq gg190_150 (tg := 183) rfl (by decide) (fun _ => ?_) (fun z => absurd z (by decide))
                    refine z_iinc gg190_183 rfl rfl ?_
                    refine q_goto gg190_186 (tg := 109) rfl ?_
                    first | (rw [if_pos (by omega)] at hi'; exact hi' _ (aw_eq h182 (fun i _ _ => (mMi_t hk0 (by omega)).symm))) | (rw [if_neg (by omega)] at hi'; exact hi' _ (aw_eq hf1 (fun i _ _ => (mMi_f hk0 (by omega)).symm)))
                  )
                · try (exfalso; omega)
                  all_goals (
                    refine z_const gg125_9 (v := 1) rfl ?_
                    refine q_goto gg125_10 (tg := 14) rfl ?_
                    refine z_zretC gg125_14 (by omega) ?_
                    refine z_ifeq gg190_150 (tg := 183) rfl (by decide) (fun z => absurd z (by decide)) (fun _ => ?_)
                    refine q_aload gg190_153 rfl ?_
                    refine q_getr gg190_154 rfl ?_
                    refine z_const gg190_157 (v := 4) rfl ?_
                    refine z_const gg190_158 (v := 7) rfl ?_
                    refine q_iload gg190_160 rfl ?_
                    first | refine z_imul gg190_162 ?_ | refine q_imul gg190_162 ?_
                    first | refine z_iadd gg190_163 ?_ | refine q_iadd gg190_163 ?_
                    refine z_const gg190_164 (v := 4) rfl ?_
                    first | refine z_iadd gg190_165 ?_ | refine q_iadd gg190_165 ?_
                    refine z_const gg190_166 (v := 0) rfl ?_
                    first | refine z_asr gg190_167 (by first | rfl | assumption) (by assumption) (by omega) (by omega) (by decide) (by omega) (by omega) (fun f167 h167 => ?_) | refine z_asx gg190_167 rfl (by omega) (by omega) (by decide) ?_
                    refine q_aload gg190_168 rfl ?_
                    refine q_getr gg190_169 rfl ?_
                    refine z_const gg190_172 (v := 4) rfl ?_
                    refine z_const gg190_173 (v := 7) rfl ?_
                    refine q_iload gg190_175 rfl ?_
                    first | refine z_imul gg190_177 ?_ | refine q_imul gg190_177 ?_
                    first | refine z_iadd gg190_178 ?_ | refine q_iadd gg190_178 ?_
                    refine z_const gg190_179 (v := 2) rfl ?_
                    first | refine z_iadd gg190_180 ?_ | refine q_iadd gg190_180 ?_
                    refine z_const gg190_181 (v := 0) rfl ?_
                    first | refine z_asr gg190_182 (by first | rfl | assumption) (by assumption) (by omega) (by omega) (by decide) (by omega) (by omega) (fun f182 h182 => ?_) | refine z_asx gg190_182 rfl (by omega) (by omega) (by decide) ?_
                    refine z_iinc gg190_183 rfl rfl ?_
                    refine q_goto gg190_186 (tg := 109) rfl ?_
                    first | (rw [if_pos (by omega)] at hi'; exact hi' _ (aw_eq h182 (fun i _ _ => (mMi_t hk0 (by omega)).symm))) | (rw [if_neg (by omega)] at hi'; exact hi' _ (aw_eq hf1 (fun i _ _ => (mMi_f hk0 (by omega)).symm)))
                  )
              )
            · try (exfalso; omega)
              all_goals (
                refine z_const gg125_9 (v := 1) rfl ?_
                refine q_goto gg125_10 (tg := 14) rfl ?_
                refine z_zretC gg125_14 (by omega) ?_
                refine z_ifeq gg190_129 (tg := 136) rfl (by decide) (fun z => absurd z (by decide)) (fun _ => ?_)
                refine q_iload gg190_132 rfl ?_
                refine q_goto gg190_133 (tg := 140) rfl ?_
                first | refine z_imul gg190_140 ?_ | refine q_imul gg190_140 ?_
                refine q_istore gg190_141 rfl ?_
                refine q_iload gg190_143 rfl ?_
                refine q_iload gg190_145 rfl ?_
                refine q_call2 gg190_147 tt125 rfl (Nat.le_of_ble_eq_true rfl) rfl (ls' := [some _, some _]) rfl rfl ?_
                refine q_iload gg125_0 rfl ?_
                refine q_iload gg125_1 rfl ?_
                first | refine z_ishr gg125_2 (by omega) (by omega) (by omega) (by omega) (fun shas_2 eshas_2 lshas_2 ushas_2 => ?_) | refine q_ishr gg125_2 ?_
                refine z_const gg125_3 (v := 1) rfl ?_
                first | refine z_iand1 gg125_4 (by omega) (by omega) ?_ | refine z_iandn gg125_4 (by omega) (by omega) (by omega) (by omega) ?_ | refine q_iand gg125_4 ?_
                refine z_const gg125_5 (v := 1) rfl ?_
                refine z_icmpne gg125_6 (tg := 13) rfl (by omega) (by omega) (fun c3 => ?_) (fun c3 => ?_)
                · try (exfalso; omega)
                  all_goals (
                    refine z_const gg125_13 (v := 0) rfl ?_
                    refine z_zretC gg125_14 (by omega) ?_
                    refine z_ifeq gg190_150 (tg := 183) rfl (by decide) (fun _ => ?_) (fun z => absurd z (by decide))
                    refine z_iinc gg190_183 rfl rfl ?_
                    refine q_goto gg190_186 (tg := 109) rfl ?_
                    first | (rw [if_pos (by omega)] at hi'; exact hi' _ (aw_eq h182 (fun i _ _ => (mMi_t hk0 (by omega)).symm))) | (rw [if_neg (by omega)] at hi'; exact hi' _ (aw_eq hf1 (fun i _ _ => (mMi_f hk0 (by omega)).symm)))
                  )
                · try (exfalso; omega)
                  all_goals (
                    refine z_const gg125_9 (v := 1) rfl ?_
                    refine q_goto gg125_10 (tg := 14) rfl ?_
                    refine z_zretC gg125_14 (by omega) ?_
                    refine z_ifeq gg190_150 (tg := 183) rfl (by decide) (fun z => absurd z (by decide)) (fun _ => ?_)
                    refine q_aload gg190_153 rfl ?_
                    refine q_getr gg190_154 rfl ?_
                    refine z_const gg190_157 (v := 4) rfl ?_
                    refine z_const gg190_158 (v := 7) rfl ?_
                    refine q_iload gg190_160 rfl ?_
                    first | refine z_imul gg190_162 ?_ | refine q_imul gg190_162 ?_
                    first | refine z_iadd gg190_163 ?_ | refine q_iadd gg190_163 ?_
                    refine z_const gg190_164 (v := 4) rfl ?_
                    first | refine z_iadd gg190_165 ?_ | refine q_iadd gg190_165 ?_
                    refine z_const gg190_166 (v := 0) rfl ?_
                    first | refine z_asr gg190_167 (by first | rfl | assumption) (by assumption) (by omega) (by omega) (by decide) (by omega) (by omega) (fun f167 h167 => ?_) | refine z_asx gg190_167 rfl (by omega) (by omega) (by decide) ?_
                    refine q_aload gg190_168 rfl ?_
                    refine q_getr gg190_169 rfl ?_
                    refine z_const gg190_172 (v := 4) rfl ?_
                    refine z_const gg190_173 (v := 7) rfl ?_
                    refine q_iload gg190_175 rfl ?_
                    first | refine z_imul gg190_177 ?_ | refine q_imul gg190_177 ?_
                    first | refine z_iadd gg190_178 ?_ | refine q_iadd gg190_178 ?_
                    refine z_const gg190_179 (v := 2) rfl ?_
                    first | refine z_iadd gg190_180 ?_ | refine q_iadd gg190_180 ?_
                    refine z_const gg190_181 (v := 0) rfl ?_
                    first | refine z_asr gg190_182 (by first | rfl | assumption) (by assumption) (by omega) (by omega) (by decide) (by omega) (by omega) (fun f182 h182 => ?_) | refine z_asx gg190_182 rfl (by omega) (by omega) (by decide) ?_
                    refine z_iinc gg190_183 rfl rfl ?_
                    refine q_goto gg190_186 (tg := 109) rfl ?_
                    first | (rw [if_pos (by omega)] at hi'; exact hi' _ (aw_eq h182 (fun i _ _ => (mMi_t hk0 (by omega)).symm))) | (rw [if_neg (by omega)] at hi'; exact hi' _ (aw_eq hf1 (fun i _ _ => (mMi_f hk0 (by omega)).symm)))
                  )
              )
        refine q_iload gg190_77 rfl ?_
        refine z_const gg190_79 (v := 1) rfl ?_
        refine q_aload gg190_80 rfl ?_
        refine q_getr gg190_81 rfl ?_
        refine z_const gg190_84 (v := 2) rfl ?_
        first | refine z_alr gg190_85 (by first | rfl | assumption) (by assumption) (by omega) (by omega) (by omega) (by decide) (fun v85 ev85 lv85 uv85 => ?_) | refine z_alx gg190_85 rfl (by assumption) (by omega) (by omega) (by omega) (by decide) (fun v85 ev85 lv85 uv85 => ?_) <;> (try dsimp only at ev85)
        subst ev85
        first | refine z_ishl gg190_86 (by omega) (by omega) (by omega) (by omega) ?_ | refine z_ishl7 gg190_86 (by omega) (by omega) (fun s86 es86 => ?_) | refine q_ishl gg190_86 ?_
        refine z_icmpge gg190_87 (tg := 228) rfl (by omega) (by omega) (fun z => absurd z (by omega)) (fun c1 => ?_)
        refine z_const gg190_90 (v := 1) rfl ?_
        refine q_istore gg190_91 rfl ?_
        refine q_aload gg190_93 rfl ?_
        refine q_getr gg190_94 rfl ?_
        refine z_const gg190_97 (v := 0) rfl ?_
        refine q_aload gg190_98 rfl ?_
        refine q_getr gg190_99 rfl ?_
        refine z_const gg190_102 (v := 0) rfl ?_
        refine q_call4 gg190_103 tt130 rfl (Nat.le_of_ble_eq_true rfl) rfl (ls' := [some _, some _, some _, some _, none]) rfl rfl ?_
        refine r_cpNT h36 (fun f1 hf1 => ?_)
        show hm_Wp _ _ _ _ _ _ _
        refine z_const gg190_106 (v := 0) rfl ?_
        refine q_istore gg190_107 rfl ?_
        exact L1 (w 2).toNat 0 f1 (by decide) (by omega) (aw_eq hf1 (fun i _ _ => by rw [mZ_0 (by decide) (by decide), mZ_0 (by decide) (by decide)]))
    have L0 : ∀ (m : Nat) (k : Int), 0 ≤ k → k + m = w 2 → hm_Wp (d + 7) 190 50 [some (.inr (.inr 30)), some (.inl (zI b)), some (.inl (zI n)), some (.inl (zI c)), some (.inl (zI y)), some (.inl (zI 0)), some (.inl (zI (10 ^ k.toNat))), some (.inl (zI k)), none, none] [] M Q := by
      intro m
      induction m with
      | zero =>
        intro k hk0 hkm
        rw [show k = w 2 by omega, hBe]
        refine q_iload gg190_50 rfl ?_
        refine q_aload gg190_52 rfl ?_
        refine q_getr gg190_53 rfl ?_
        refine z_const gg190_56 (v := 2) rfl ?_
        first | refine z_alr gg190_57 (by first | rfl | assumption) (by assumption) (by omega) (by omega) (by omega) (by decide) (fun v57 ev57 lv57 uv57 => ?_) | refine z_alx gg190_57 rfl (by assumption) (by omega) (by omega) (by omega) (by decide) (fun v57 ev57 lv57 uv57 => ?_) <;> (try dsimp only at ev57)
        refine z_icmpge gg190_58 (tg := 74) rfl (by omega) (by omega) (fun c1 => ?_) (fun z => absurd z (by omega))
        refine z_const gg190_74 (v := 0) rfl ?_
        refine q_istore gg190_75 rfl ?_
        exact L2 P.toNat 0 M none none rfl (by decide) (by omega) FR.rf
      | succ m ih =>
        intro k hk0 hkm
        have hi := ih (k + 1) (by omega) (by omega)
        rw [show (k + 1).toNat = k.toNat + 1 by omega, Int.pow_succ] at hi
        refine q_iload gg190_50 rfl ?_
        refine q_aload gg190_52 rfl ?_
        refine q_getr gg190_53 rfl ?_
        refine z_const gg190_56 (v := 2) rfl ?_
        first | refine z_alr gg190_57 (by first | rfl | assumption) (by assumption) (by omega) (by omega) (by omega) (by decide) (fun v57 ev57 lv57 uv57 => ?_) | refine z_alx gg190_57 rfl (by assumption) (by omega) (by omega) (by omega) (by decide) (fun v57 ev57 lv57 uv57 => ?_) <;> (try dsimp only at ev57)
        refine z_icmpge gg190_58 (tg := 74) rfl (by omega) (by omega) (fun z => absurd z (by omega)) (fun c1 => ?_)
        refine q_iload gg190_61 rfl ?_
        refine z_const gg190_63 (v := 10) rfl ?_
        first | refine z_imul gg190_65 ?_ | refine q_imul gg190_65 ?_
        refine q_istore gg190_66 rfl ?_
        refine z_iinc gg190_68 rfl rfl ?_
        refine q_goto gg190_71 (tg := 50) rfl ?_
        exact hi
    refine q_aload gg190_0 rfl ?_
    refine q_iload gg190_1 rfl ?_
    refine q_call2 gg190_2 tt152 rfl (Nat.le_of_ble_eq_true rfl) (hm_rv (by decide +kernel)) (ls' := [some _, some _]) rfl rfl ?_
    refine q_iload gg152_0 rfl ?_
    refine z_const gg152_1 (v := 0) rfl ?_
    refine q_aload gg152_2 rfl ?_
    refine q_getr gg152_3 rfl ?_
    refine z_const gg152_6 (v := 2) rfl ?_
    first | refine z_alr gg152_7 (by first | rfl | assumption) (by assumption) (by omega) (by omega) (by omega) (by decide) (fun visBasin_7 evisBasin_7 lvisBasin_7 uvisBasin_7 => ?_) | refine z_alx gg152_7 rfl (by assumption) (by omega) (by omega) (by omega) (by decide) (fun visBasin_7 evisBasin_7 lvisBasin_7 uvisBasin_7 => ?_) <;> (try dsimp only at evisBasin_7)
    refine z_const gg152_8 (v := 1) rfl ?_
    first | refine z_isub gg152_9 ?_ | refine q_isub gg152_9 ?_
    refine q_call3 gg152_10 tt124 rfl (Nat.le_of_ble_eq_true rfl) rfl (ls' := [some _, some _, some _]) rfl rfl ?_
    refine q_iload gg124_0 rfl ?_
    refine q_iload gg124_1 rfl ?_
    refine z_icmplt gg124_2 (tg := 14) rfl (by omega) (by omega) (fun c1 => ?_) (fun c1 => ?_)
    · try (exfalso; omega)
      all_goals (
        refine z_const gg124_14 (v := 0) rfl ?_
        refine z_zretC gg124_15 (by omega) ?_
        refine z_zretC gg152_13 (by omega) ?_
        refine z_ifeq gg190_5 (tg := 38) rfl (by decide) (fun _ => ?_) (fun z => absurd z (by decide))
        refine z_neg gg190_38 ?_
        refine q_iret gg190_40 ?_
        exfalso
        omega
      )
    · try (exfalso; omega)
      all_goals (
        refine q_iload gg124_5 rfl ?_
        refine q_iload gg124_6 rfl ?_
        refine z_icmpgt gg124_7 (tg := 14) rfl (by omega) (by omega) (fun c2 => ?_) (fun c2 => ?_)
        · try (exfalso; omega)
          all_goals (
            refine z_const gg124_14 (v := 0) rfl ?_
            refine z_zretC gg124_15 (by omega) ?_
            refine z_zretC gg152_13 (by omega) ?_
            refine z_ifeq gg190_5 (tg := 38) rfl (by decide) (fun _ => ?_) (fun z => absurd z (by decide))
            refine z_neg gg190_38 ?_
            refine q_iret gg190_40 ?_
            exfalso
            omega
          )
        · try (exfalso; omega)
          all_goals (
            refine z_const gg124_10 (v := 1) rfl ?_
            refine q_goto gg124_11 (tg := 15) rfl ?_
            refine z_zretC gg124_15 (by omega) ?_
            refine z_zretC gg152_13 (by omega) ?_
            refine z_ifeq gg190_5 (tg := 38) rfl (by decide) (fun z => absurd z (by decide)) (fun _ => ?_)
            refine q_iload gg190_8 rfl ?_
            refine z_const gg190_9 (v := 0) rfl ?_
            refine z_const gg190_10 (v := 30) rfl ?_
            refine q_call3 gg190_12 tt124 rfl (Nat.le_of_ble_eq_true rfl) rfl (ls' := [some _, some _, some _]) rfl rfl ?_
            refine q_iload gg124_0 rfl ?_
            refine q_iload gg124_1 rfl ?_
            refine z_icmplt gg124_2 (tg := 14) rfl (by omega) (by omega) (fun c3 => ?_) (fun c3 => ?_)
            · try (exfalso; omega)
              all_goals (
                refine z_const gg124_14 (v := 0) rfl ?_
                refine z_zretC gg124_15 (by omega) ?_
                refine z_ifeq gg190_15 (tg := 38) rfl (by decide) (fun _ => ?_) (fun z => absurd z (by decide))
                refine z_neg gg190_38 ?_
                refine q_iret gg190_40 ?_
                exfalso
                omega
              )
            · try (exfalso; omega)
              all_goals (
                refine q_iload gg124_5 rfl ?_
                refine q_iload gg124_6 rfl ?_
                refine z_icmpgt gg124_7 (tg := 14) rfl (by omega) (by omega) (fun c4 => ?_) (fun c4 => ?_)
                · try (exfalso; omega)
                  all_goals (
                    refine z_const gg124_14 (v := 0) rfl ?_
                    refine z_zretC gg124_15 (by omega) ?_
                    refine z_ifeq gg190_15 (tg := 38) rfl (by decide) (fun _ => ?_) (fun z => absurd z (by decide))
                    refine z_neg gg190_38 ?_
                    refine q_iret gg190_40 ?_
                    exfalso
                    omega
                  )
                · try (exfalso; omega)
                  all_goals (
                    refine z_const gg124_10 (v := 1) rfl ?_
                    refine q_goto gg124_11 (tg := 15) rfl ?_
                    refine z_zretC gg124_15 (by omega) ?_
                    refine z_ifeq gg190_15 (tg := 38) rfl (by decide) (fun z => absurd z (by decide)) (fun _ => ?_)
                    refine q_iload gg190_18 rfl ?_
                    refine z_const gg190_19 (v := 0) rfl ?_
                    refine z_const gg190_20 (v := 10) rfl ?_
                    refine q_call3 gg190_22 tt124 rfl (Nat.le_of_ble_eq_true rfl) rfl (ls' := [some _, some _, some _]) rfl rfl ?_
                    refine q_iload gg124_0 rfl ?_
                    refine q_iload gg124_1 rfl ?_
                    refine z_icmplt gg124_2 (tg := 14) rfl (by omega) (by omega) (fun c5 => ?_) (fun c5 => ?_)
                    · try (exfalso; omega)
                      all_goals (
                        refine z_const gg124_14 (v := 0) rfl ?_
                        refine z_zretC gg124_15 (by omega) ?_
                        refine z_ifeq gg190_25 (tg := 38) rfl (by decide) (fun _ => ?_) (fun z => absurd z (by decide))
                        refine z_neg gg190_38 ?_
                        refine q_iret gg190_40 ?_
                        exfalso
                        omega
                      )
                    · try (exfalso; omega)
                      all_goals (
                        refine q_iload gg124_5 rfl ?_
                        refine q_iload gg124_6 rfl ?_
                        refine z_icmpgt gg124_7 (tg := 14) rfl (by omega) (by omega) (fun c6 => ?_) (fun c6 => ?_)
                        · try (exfalso; omega)
                          all_goals (
                            refine z_const gg124_14 (v := 0) rfl ?_
                            refine z_zretC gg124_15 (by omega) ?_
                            refine z_ifeq gg190_25 (tg := 38) rfl (by decide) (fun _ => ?_) (fun z => absurd z (by decide))
                            refine z_neg gg190_38 ?_
                            refine q_iret gg190_40 ?_
                            exfalso
                            omega
                          )
                        · try (exfalso; omega)
                          all_goals (
                            refine z_const gg124_10 (v := 1) rfl ?_
                            refine q_goto gg124_11 (tg := 15) rfl ?_
                            refine z_zretC gg124_15 (by omega) ?_
                            refine z_ifeq gg190_25 (tg := 38) rfl (by decide) (fun z => absurd z (by decide)) (fun _ => ?_)
                            refine q_iload gg190_28 rfl ?_
                            refine z_const gg190_30 (v := 0) rfl ?_
                            refine z_const gg190_31 (v := 1) rfl ?_
                            refine q_call3 gg190_32 tt124 rfl (Nat.le_of_ble_eq_true rfl) rfl (ls' := [some _, some _, some _]) rfl rfl ?_
                            refine q_iload gg124_0 rfl ?_
                            refine q_iload gg124_1 rfl ?_
                            refine z_icmplt gg124_2 (tg := 14) rfl (by omega) (by omega) (fun c7 => ?_) (fun c7 => ?_)
                            · try (exfalso; omega)
                              all_goals (
                                refine z_const gg124_14 (v := 0) rfl ?_
                                refine z_zretC gg124_15 (by omega) ?_
                                refine z_ifne gg190_35 (tg := 41) rfl (by decide) (fun z => absurd z (by decide)) (fun _ => ?_)
                                refine z_neg gg190_38 ?_
                                refine q_iret gg190_40 ?_
                                exfalso
                                omega
                              )
                            · try (exfalso; omega)
                              all_goals (
                                refine q_iload gg124_5 rfl ?_
                                refine q_iload gg124_6 rfl ?_
                                refine z_icmpgt gg124_7 (tg := 14) rfl (by omega) (by omega) (fun c8 => ?_) (fun c8 => ?_)
                                · try (exfalso; omega)
                                  all_goals (
                                    refine z_const gg124_14 (v := 0) rfl ?_
                                    refine z_zretC gg124_15 (by omega) ?_
                                    refine z_ifne gg190_35 (tg := 41) rfl (by decide) (fun z => absurd z (by decide)) (fun _ => ?_)
                                    refine z_neg gg190_38 ?_
                                    refine q_iret gg190_40 ?_
                                    exfalso
                                    omega
                                  )
                                · try (exfalso; omega)
                                  all_goals (
                                    refine z_const gg124_10 (v := 1) rfl ?_
                                    refine q_goto gg124_11 (tg := 15) rfl ?_
                                    refine z_zretC gg124_15 (by omega) ?_
                                    refine z_ifne gg190_35 (tg := 41) rfl (by decide) (fun _ => ?_) (fun z => absurd z (by decide))
                                    refine z_const gg190_41 (v := 0) rfl ?_
                                    refine q_istore gg190_42 rfl ?_
                                    refine z_const gg190_44 (v := 1) rfl ?_
                                    refine q_istore gg190_45 rfl ?_
                                    refine z_const gg190_47 (v := 0) rfl ?_
                                    refine q_istore gg190_48 rfl ?_
                                    exact L0 (w 2).toNat 0 (by decide) (by omega)
                                  )
                              )
                          )
                      )
                  )
              )
          )
      )
  · refine q_aload gg190_0 rfl ?_
    refine q_iload gg190_1 rfl ?_
    refine q_call2 gg190_2 tt152 rfl (Nat.le_of_ble_eq_true rfl) (hm_rv (by decide +kernel)) (ls' := [some _, some _]) rfl rfl ?_
    refine q_iload gg152_0 rfl ?_
    refine z_const gg152_1 (v := 0) rfl ?_
    refine q_aload gg152_2 rfl ?_
    refine q_getr gg152_3 rfl ?_
    refine z_const gg152_6 (v := 2) rfl ?_
    first | refine z_alr gg152_7 (by first | rfl | assumption) (by assumption) (by omega) (by omega) (by omega) (by decide) (fun visBasin_7 evisBasin_7 lvisBasin_7 uvisBasin_7 => ?_) | refine z_alx gg152_7 rfl (by assumption) (by omega) (by omega) (by omega) (by decide) (fun visBasin_7 evisBasin_7 lvisBasin_7 uvisBasin_7 => ?_) <;> (try dsimp only at evisBasin_7)
    refine z_const gg152_8 (v := 1) rfl ?_
    first | refine z_isub gg152_9 ?_ | refine q_isub gg152_9 ?_
    refine q_call3 gg152_10 tt124 rfl (Nat.le_of_ble_eq_true rfl) rfl (ls' := [some _, some _, some _]) rfl rfl ?_
    refine q_iload gg124_0 rfl ?_
    refine q_iload gg124_1 rfl ?_
    refine z_icmplt gg124_2 (tg := 14) rfl (by omega) (by omega) (fun c1 => ?_) (fun c1 => ?_)
    · try (exfalso; omega)
      all_goals (
        refine z_const gg124_14 (v := 0) rfl ?_
        refine z_zretC gg124_15 (by omega) ?_
        refine z_zretC gg152_13 (by omega) ?_
        refine z_ifeq gg190_5 (tg := 38) rfl (by decide) (fun _ => ?_) (fun z => absurd z (by decide))
        refine z_neg gg190_38 ?_
        refine q_iret gg190_40 ?_
        refine qv ?_ (kk _ FR.rf)
        unfold aMice
        rw [if_neg (by omega)]
      )
    · try (exfalso; omega)
      all_goals (
        refine q_iload gg124_5 rfl ?_
        refine q_iload gg124_6 rfl ?_
        refine z_icmpgt gg124_7 (tg := 14) rfl (by omega) (by omega) (fun c2 => ?_) (fun c2 => ?_)
        · try (exfalso; omega)
          all_goals (
            refine z_const gg124_14 (v := 0) rfl ?_
            refine z_zretC gg124_15 (by omega) ?_
            refine z_zretC gg152_13 (by omega) ?_
            refine z_ifeq gg190_5 (tg := 38) rfl (by decide) (fun _ => ?_) (fun z => absurd z (by decide))
            refine z_neg gg190_38 ?_
            refine q_iret gg190_40 ?_
            refine qv ?_ (kk _ FR.rf)
            unfold aMice
            rw [if_neg (by omega)]
          )
        · try (exfalso; omega)
          all_goals (
            refine z_const gg124_10 (v := 1) rfl ?_
            refine q_goto gg124_11 (tg := 15) rfl ?_
            refine z_zretC gg124_15 (by omega) ?_
            refine z_zretC gg152_13 (by omega) ?_
            refine z_ifeq gg190_5 (tg := 38) rfl (by decide) (fun z => absurd z (by decide)) (fun _ => ?_)
            refine q_iload gg190_8 rfl ?_
            refine z_const gg190_9 (v := 0) rfl ?_
            refine z_const gg190_10 (v := 30) rfl ?_
            refine q_call3 gg190_12 tt124 rfl (Nat.le_of_ble_eq_true rfl) rfl (ls' := [some _, some _, some _]) rfl rfl ?_
            refine q_iload gg124_0 rfl ?_
            refine q_iload gg124_1 rfl ?_
            refine z_icmplt gg124_2 (tg := 14) rfl (by omega) (by omega) (fun c3 => ?_) (fun c3 => ?_)
            · try (exfalso; omega)
              all_goals (
                refine z_const gg124_14 (v := 0) rfl ?_
                refine z_zretC gg124_15 (by omega) ?_
                refine z_ifeq gg190_15 (tg := 38) rfl (by decide) (fun _ => ?_) (fun z => absurd z (by decide))
                refine z_neg gg190_38 ?_
                refine q_iret gg190_40 ?_
                refine qv ?_ (kk _ FR.rf)
                unfold aMice
                rw [if_neg (by omega)]
              )
            · try (exfalso; omega)
              all_goals (
                refine q_iload gg124_5 rfl ?_
                refine q_iload gg124_6 rfl ?_
                refine z_icmpgt gg124_7 (tg := 14) rfl (by omega) (by omega) (fun c4 => ?_) (fun c4 => ?_)
                · try (exfalso; omega)
                  all_goals (
                    refine z_const gg124_14 (v := 0) rfl ?_
                    refine z_zretC gg124_15 (by omega) ?_
                    refine z_ifeq gg190_15 (tg := 38) rfl (by decide) (fun _ => ?_) (fun z => absurd z (by decide))
                    refine z_neg gg190_38 ?_
                    refine q_iret gg190_40 ?_
                    refine qv ?_ (kk _ FR.rf)
                    unfold aMice
                    rw [if_neg (by omega)]
                  )
                · try (exfalso; omega)
                  all_goals (
                    refine z_const gg124_10 (v := 1) rfl ?_
                    refine q_goto gg124_11 (tg := 15) rfl ?_
                    refine z_zretC gg124_15 (by omega) ?_
                    refine z_ifeq gg190_15 (tg := 38) rfl (by decide) (fun z => absurd z (by decide)) (fun _ => ?_)
                    refine q_iload gg190_18 rfl ?_
                    refine z_const gg190_19 (v := 0) rfl ?_
                    refine z_const gg190_20 (v := 10) rfl ?_
                    refine q_call3 gg190_22 tt124 rfl (Nat.le_of_ble_eq_true rfl) rfl (ls' := [some _, some _, some _]) rfl rfl ?_
                    refine q_iload gg124_0 rfl ?_
                    refine q_iload gg124_1 rfl ?_
                    refine z_icmplt gg124_2 (tg := 14) rfl (by omega) (by omega) (fun c5 => ?_) (fun c5 => ?_)
                    · try (exfalso; omega)
                      all_goals (
                        refine z_const gg124_14 (v := 0) rfl ?_
                        refine z_zretC gg124_15 (by omega) ?_
                        refine z_ifeq gg190_25 (tg := 38) rfl (by decide) (fun _ => ?_) (fun z => absurd z (by decide))
                        refine z_neg gg190_38 ?_
                        refine q_iret gg190_40 ?_
                        refine qv ?_ (kk _ FR.rf)
                        unfold aMice
                        rw [if_neg (by omega)]
                      )
                    · try (exfalso; omega)
                      all_goals (
                        refine q_iload gg124_5 rfl ?_
                        refine q_iload gg124_6 rfl ?_
                        refine z_icmpgt gg124_7 (tg := 14) rfl (by omega) (by omega) (fun c6 => ?_) (fun c6 => ?_)
                        · try (exfalso; omega)
                          all_goals (
                            refine z_const gg124_14 (v := 0) rfl ?_
                            refine z_zretC gg124_15 (by omega) ?_
                            refine z_ifeq gg190_25 (tg := 38) rfl (by decide) (fun _ => ?_) (fun z => absurd z (by decide))
                            refine z_neg gg190_38 ?_
                            refine q_iret gg190_40 ?_
                            refine qv ?_ (kk _ FR.rf)
                            unfold aMice
                            rw [if_neg (by omega)]
                          )
                        · try (exfalso; omega)
                          all_goals (
                            refine z_const gg124_10 (v := 1) rfl ?_
                            refine q_goto gg124_11 (tg := 15) rfl ?_
                            refine z_zretC gg124_15 (by omega) ?_
                            refine z_ifeq gg190_25 (tg := 38) rfl (by decide) (fun z => absurd z (by decide)) (fun _ => ?_)
                            refine q_iload gg190_28 rfl ?_
                            refine z_const gg190_30 (v := 0) rfl ?_
                            refine z_const gg190_31 (v := 1) rfl ?_
                            refine q_call3 gg190_32 tt124 rfl (Nat.le_of_ble_eq_true rfl) rfl (ls' := [some _, some _, some _]) rfl rfl ?_
                            refine q_iload gg124_0 rfl ?_
                            refine q_iload gg124_1 rfl ?_
                            refine z_icmplt gg124_2 (tg := 14) rfl (by omega) (by omega) (fun c7 => ?_) (fun c7 => ?_)
                            · try (exfalso; omega)
                              all_goals (
                                refine z_const gg124_14 (v := 0) rfl ?_
                                refine z_zretC gg124_15 (by omega) ?_
                                refine z_ifne gg190_35 (tg := 41) rfl (by decide) (fun z => absurd z (by decide)) (fun _ => ?_)
                                refine z_neg gg190_38 ?_
                                refine q_iret gg190_40 ?_
                                refine qv ?_ (kk _ FR.rf)
                                unfold aMice
                                rw [if_neg (by omega)]
                              )
                            · try (exfalso; omega)
                              all_goals (
                                refine q_iload gg124_5 rfl ?_
                                refine q_iload gg124_6 rfl ?_
                                refine z_icmpgt gg124_7 (tg := 14) rfl (by omega) (by omega) (fun c8 => ?_) (fun c8 => ?_)
                                · try (exfalso; omega)
                                  all_goals (
                                    refine z_const gg124_14 (v := 0) rfl ?_
                                    refine z_zretC gg124_15 (by omega) ?_
                                    refine z_ifne gg190_35 (tg := 41) rfl (by decide) (fun z => absurd z (by decide)) (fun _ => ?_)
                                    refine z_neg gg190_38 ?_
                                    refine q_iret gg190_40 ?_
                                    refine qv ?_ (kk _ FR.rf)
                                    unfold aMice
                                    rw [if_neg (by omega)]
                                  )
                                · try (exfalso; omega)
                                  all_goals (
                                    refine z_const gg124_10 (v := 1) rfl ?_
                                    refine q_goto gg124_11 (tg := 15) rfl ?_
                                    refine z_zretC gg124_15 (by omega) ?_
                                    refine z_ifne gg190_35 (tg := 41) rfl (by decide) (fun _ => ?_) (fun z => absurd z (by decide))
                                    refine z_const gg190_41 (v := 0) rfl ?_
                                    refine q_istore gg190_42 rfl ?_
                                    refine z_const gg190_44 (v := 1) rfl ?_
                                    refine q_istore gg190_45 rfl ?_
                                    refine z_const gg190_47 (v := 0) rfl ?_
                                    refine q_istore gg190_48 rfl ?_
                                    exfalso
                                    omega
                                  )
                              )
                          )
                      )
                  )
              )
          )
      )
end F9
