section F12
variable {d r : Nat} {M N : hm_M} {w v w0 g T ln lg it : Int → Int} {b n e x a s y c q i p st ro : Int} {f : Nat → Int32} {Q : Option hm_V → hm_M → Prop}
def fitC (w ln lg : Int → Int) (b ro i n y : Int) : Int := if 0 ≤ b ∧ b < w 2 ∧ 0 ≤ ro ∧ ro ≤ 7 ∧ 1 ≤ n ∧ n ≤ 12 ∧ 0 ≤ y ∧ y ≤ 4 then (if ln ro = -1000000 then 1 else if 0 ≤ i ∧ i + n ≤ lg ro then 0 else 2) else 9
noncomputable def fitA (w ln lg it : Int → Int) (b ro i n y : Int) : Int32 := if fitC w ln lg b ro i n y = 9 then zI (-1000001) else if fitC w ln lg b ro i n y = 0 then fAns w b n (fun h => it (40 * ro + i + h)) y else zI (-1000010 - fitC w ln lg b ro i n y)
def nSt (st c : Int) : Int := if c = 9 then st else c
theorem fitA_9 (h : fitC w ln lg b ro i n y = 9) : fitA w ln lg it b ro i n y = zI (-1000001) := by unfold fitA; rw [if_pos h]
theorem fitA_0 (h : fitC w ln lg b ro i n y = 0) : fitA w ln lg it b ro i n y = fAns w b n (fun h => it (40 * ro + i + h)) y := by unfold fitA; rw [if_neg (by omega), if_pos h]
theorem fitA_e (h : fitC w ln lg b ro i n y = e) (h1 : e ≠ 9) (h0 : e ≠ 0) : fitA w ln lg it b ro i n y = zI (-1000010 - e) := by unfold fitA; rw [if_neg (by omega), if_neg (by omega), h]
theorem RC.f0 {M M' : hm_M} (h : RC M ln lg it) (hf : FC0 M M') : RC M' ln lg it := by
  unfold RC at *
  rw [hf 2 (by decide) (by decide), hf 3 (by decide) (by decide), hf 4 (by decide) (by decide)]; exact h
theorem c_fits (hb : zR b) (hro : zR ro) (hi : zR i) (hz : zR n) (hy : zR y) (h0 : M 0 8 = zI st) (hR : RC M ln lg it) (hW : RW ln lg it) (h : Hb M 7 w) (hw : mWf w) (h3 : w 3 ≤ 9999) (kk : ∀ M', FC0 M M' → M' 0 8 = zI (nSt st (fitC w ln lg b ro i n y)) → Q (some (.inl (fitA w ln lg it b ro i n y))) M') : hm_Wp (d + 6) 109 0 [some (.inr (.inr 0)), some (.inl (zI b)), some (.inl (zI ro)), some (.inl (zI i)), some (.inl (zI n)), some (.inl (zI y)), none] [] M Q := by
  have hn2 := hw.1.1
  have h4 := h.1.1
  unfold zR at hb hro hi hz hy
  have r2 := hR.1
  have r3 := hR.2.1
  have hC : fitC w ln lg b ro i n y = if 0 ≤ b ∧ b < w 2 ∧ 0 ≤ ro ∧ ro ≤ 7 ∧ 1 ≤ n ∧ n ≤ 12 ∧ 0 ≤ y ∧ y ≤ 4 then (if ln ro = -1000000 then 1 else if 0 ≤ i ∧ i + n ≤ lg ro then 0 else 2) else 9 := rfl
  by_cases hin : 0 ≤ b ∧ b < w 2 ∧ 0 ≤ ro ∧ ro ≤ 7 ∧ 1 ≤ n ∧ n ≤ 12 ∧ 0 ≤ y ∧ y ≤ 4
  · rw [if_pos hin] at hC
    obtain ⟨hb0, hb1, hro0, hro1, hn0, hn1, hy0, hy1⟩ := hin
    have w1 := hW.1 ro hro0 (by omega)
    have w2 := hW.2.1 ro hro0 (by omega)
    have L : ln ro ≠ -1000000 → 0 ≤ i → i + n ≤ lg ro → ∀ (m : Nat) (j : Int) (N : hm_M), 0 ≤ j → j + m = n → (∀ k, k ≠ 27 → N k = M k) → aw (N 27) j (-2147483648) 2147483647 (fun h => it (40 * ro + i + h)) → hm_Wp (d + 6) 109 85 [some (.inr (.inr 0)), some (.inl (zI b)), some (.inl (zI ro)), some (.inl (zI i)), some (.inl (zI n)), some (.inl (zI y)), some (.inl (zI j))] [] N Q := by
      intro hl hi0 hin m
      rw [if_neg hl, if_pos ⟨hi0, hin⟩] at hC
      induction m with
      | zero =>
        intro j N hj0 hjm hN hT
        rw [show j = n by omega] at hT
        have hft : FT M N := fun k hk => hN k (by omega)
        have hE := fitA_0 (it := it) hC
        refine q_iload gg109_85 rfl ?_
        refine q_iload gg109_87 rfl ?_
        refine z_icmpge gg109_89 (tg := 120) rfl (by omega) (by omega) (fun c1 => ?_) (fun z => absurd z (by omega))
        refine q_aload gg109_120 rfl ?_
        refine q_aload gg109_121 rfl ?_
        refine q_getr gg109_122 rfl ?_
        refine q_iload gg109_125 rfl ?_
        refine q_iload gg109_126 rfl ?_
        refine q_iload gg109_128 rfl ?_
        refine q_call4 gg109_130 tt18 rfl (Nat.le_of_ble_eq_true rfl) (hm_rv (by decide +kernel)) (ls' := [some _, some _, some _, some _, none, none, none, none]) rfl rfl ?_
        refine c_fitting hy0 hy1 hn0 hn1 hb0 hb1 (h.ft hft) hw h3 hT (fun M2 hft2 => ?_)
        show hm_Wp _ _ _ _ (_ :: _) _ _
        refine q_call2 gg109_133 tt121 rfl (Nat.le_of_ble_eq_true rfl) (hm_rv (by decide +kernel)) (ls' := [some _, some _]) rfl rfl ?_
        refine q_aload gg121_0 rfl ?_
        refine z_const gg121_1 (v := 0) rfl ?_
        refine q_putf gg121_2 rfl ?_
        refine q_iload gg121_5 rfl ?_
        refine q_iretC gg121_6 ?_
        refine q_iret gg109_136 ?_
        have := kk _ ((hft.tr hft2).f0.up (x := zI 0)) (by rw [hC]; exact up_at)
        rw [hE] at this
        exact this
      | succ m ih =>
        intro j N hj0 hjm hN hT
        have hit := hR.2.2 ro (i + j) hro0 (by omega) (by omega) (by omega)
        rw [← hN 4 (by decide), ← Int.add_assoc] at hit
        have hzr := hW.2.2 (40 * ro + i + j)
        refine q_iload gg109_85 rfl ?_
        refine q_iload gg109_87 rfl ?_
        refine z_icmpge gg109_89 (tg := 120) rfl (by omega) (by omega) (fun z => absurd z (by omega)) (fun c1 => ?_)
        refine q_aload gg109_92 rfl ?_
        refine q_getr gg109_93 rfl ?_
        refine q_getr gg109_96 rfl ?_
        refine q_iload gg109_99 rfl ?_
        refine q_aload gg109_101 rfl ?_
        refine q_getr gg109_102 rfl ?_
        refine q_iload gg109_105 rfl ?_
        refine q_iload gg109_106 rfl ?_
        refine q_iload gg109_107 rfl ?_
        first | refine z_iadd gg109_109 ?_ | refine q_iadd gg109_109 ?_
        refine q_call3 gg109_110 tt65 rfl (Nat.le_of_ble_eq_true rfl) (hm_rv (by decide +kernel)) (ls' := [some _, some _, some _]) rfl rfl ?_
        refine q_aload gg65_0 rfl ?_
        refine q_getr gg65_1 rfl ?_
        refine q_iload gg65_4 rfl ?_
        refine q_call1 gg65_5 tt68 rfl (Nat.le_of_ble_eq_true rfl) rfl (ls' := [some _]) rfl rfl ?_
        refine q_iload gg68_0 rfl ?_
        refine z_const gg68_1 (v := 40) rfl ?_
        first | refine z_imul gg68_3 ?_ | refine q_imul gg68_3 ?_
        refine q_iretC gg68_4 ?_
        refine q_iload gg65_8 rfl ?_
        first | refine z_iadd gg65_9 ?_ | refine q_iadd gg65_9 ?_
        first | (refine z_alr gg65_10 (by first | rfl | assumption) (by assumption) (by omega) (by omega) (by omega) (by decide) (fun vitem_10 evitem_10 lvitem_10 uvitem_10 => ?_); try dsimp only at evitem_10) | (refine z_alx gg65_10 rfl (by assumption) (by omega) (by omega) (by first | omega | decide) (by decide) (fun vitem_10 evitem_10 lvitem_10 uvitem_10 => ?_); try dsimp only at evitem_10) | refine z_alq gg65_10 rfl (by omega) (by omega) (by decide) ?_
        refine q_iretC gg65_11 ?_
        rw [show ro * 40 + (i + j) = 40 * ro + i + j by omega, hit]
        refine z_asx gg109_113 rfl (by omega) (by omega) (by decide) ?_
        refine z_iinc gg109_114 rfl rfl ?_
        refine q_goto gg109_117 (tg := 85) rfl ?_
        refine ih (j + 1) _ (by omega) (by omega) (fun k hk => by rw [hm_row_ne _ _ hk]; exact hN k hk) ?_
        rw [hm_row_same]
        intro k k0 k1
        by_cases hk : k = j
        · subst hk; exact ⟨by simp [upd], hzr⟩
        · simp only [upd]; rw [if_neg (by omega)]; exact hT k k0 (by omega)
    refine q_aload gg109_0 rfl ?_
    refine q_getr gg109_1 rfl ?_
    refine q_iload gg109_4 rfl ?_
    refine q_call2 gg109_5 tt32 rfl (Nat.le_of_ble_eq_true rfl) (hm_rv (by decide +kernel)) (ls' := [some _, some _]) rfl rfl ?_
    refine q_iload gg32_0 rfl ?_
    refine z_iflt gg32_1 (tg := 16) rfl (by omega) (fun c1 => ?_) (fun c1 => ?_)
    · try (exfalso; omega)
      all_goals (
        refine z_const gg32_16 (v := 0) rfl ?_
        refine z_zretC gg32_17 (by omega) ?_
        refine z_ifeq gg109_8 (tg := 42) rfl (by decide) (fun _ => ?_) (fun z => absurd z (by decide))
        refine z_neg gg109_42 ?_
        refine q_iret gg109_44 ?_
        exfalso
        omega
      )
    · try (exfalso; omega)
      all_goals (
        refine q_iload gg32_4 rfl ?_
        refine q_aload gg32_5 rfl ?_
        first | refine z_getf gg32_6 rfl (by assumption) ?_ | refine q_getf gg32_6 rfl ?_
        refine z_icmpge gg32_9 (tg := 16) rfl (by omega) (by omega) (fun c2 => ?_) (fun c2 => ?_)
        · try (exfalso; omega)
          all_goals (
            refine z_const gg32_16 (v := 0) rfl ?_
            refine z_zretC gg32_17 (by omega) ?_
            refine z_ifeq gg109_8 (tg := 42) rfl (by decide) (fun _ => ?_) (fun z => absurd z (by decide))
            refine z_neg gg109_42 ?_
            refine q_iret gg109_44 ?_
            exfalso
            omega
          )
        · try (exfalso; omega)
          all_goals (
            refine z_const gg32_12 (v := 1) rfl ?_
            refine q_goto gg32_13 (tg := 17) rfl ?_
            refine z_zretC gg32_17 (by omega) ?_
            refine z_ifeq gg109_8 (tg := 42) rfl (by decide) (fun z => absurd z (by decide)) (fun _ => ?_)
            refine q_iload gg109_11 rfl ?_
            refine q_call1 gg109_12 tt57 rfl (Nat.le_of_ble_eq_true rfl) rfl (ls' := [some _]) rfl rfl ?_
            refine q_iload gg57_0 rfl ?_
            refine z_iflt gg57_1 (tg := 14) rfl (by omega) (fun c3 => ?_) (fun c3 => ?_)
            · try (exfalso; omega)
              all_goals (
                refine z_const gg57_14 (v := 0) rfl ?_
                refine z_zretC gg57_15 (by omega) ?_
                refine z_ifeq gg109_15 (tg := 42) rfl (by decide) (fun _ => ?_) (fun z => absurd z (by decide))
                refine z_neg gg109_42 ?_
                refine q_iret gg109_44 ?_
                exfalso
                omega
              )
            · try (exfalso; omega)
              all_goals (
                refine q_iload gg57_4 rfl ?_
                refine z_const gg57_5 (v := 8) rfl ?_
                refine z_icmpge gg57_7 (tg := 14) rfl (by omega) (by omega) (fun c4 => ?_) (fun c4 => ?_)
                · try (exfalso; omega)
                  all_goals (
                    refine z_const gg57_14 (v := 0) rfl ?_
                    refine z_zretC gg57_15 (by omega) ?_
                    refine z_ifeq gg109_15 (tg := 42) rfl (by decide) (fun _ => ?_) (fun z => absurd z (by decide))
                    refine z_neg gg109_42 ?_
                    refine q_iret gg109_44 ?_
                    exfalso
                    omega
                  )
                · try (exfalso; omega)
                  all_goals (
                    refine z_const gg57_10 (v := 1) rfl ?_
                    refine q_goto gg57_11 (tg := 15) rfl ?_
                    refine z_zretC gg57_15 (by omega) ?_
                    refine z_ifeq gg109_15 (tg := 42) rfl (by decide) (fun z => absurd z (by decide)) (fun _ => ?_)
                    refine q_iload gg109_18 rfl ?_
                    refine z_const gg109_20 (v := 1) rfl ?_
                    refine z_icmplt gg109_21 (tg := 42) rfl (by omega) (by omega) (fun c5 => ?_) (fun c5 => ?_)
                    · try (exfalso; omega)
                      all_goals (
                        refine z_neg gg109_42 ?_
                        refine q_iret gg109_44 ?_
                        exfalso
                        omega
                      )
                    · try (exfalso; omega)
                      all_goals (
                        refine q_iload gg109_24 rfl ?_
                        refine z_const gg109_26 (v := 12) rfl ?_
                        refine z_icmpgt gg109_28 (tg := 42) rfl (by omega) (by omega) (fun c6 => ?_) (fun c6 => ?_)
                        · try (exfalso; omega)
                          all_goals (
                            refine z_neg gg109_42 ?_
                            refine q_iret gg109_44 ?_
                            exfalso
                            omega
                          )
                        · try (exfalso; omega)
                          all_goals (
                            refine q_iload gg109_31 rfl ?_
                            refine z_iflt gg109_33 (tg := 42) rfl (by omega) (fun c7 => ?_) (fun c7 => ?_)
                            · try (exfalso; omega)
                              all_goals (
                                refine z_neg gg109_42 ?_
                                refine q_iret gg109_44 ?_
                                exfalso
                                omega
                              )
                            · try (exfalso; omega)
                              all_goals (
                                refine q_iload gg109_36 rfl ?_
                                refine z_const gg109_38 (v := 4) rfl ?_
                                refine z_icmple gg109_39 (tg := 45) rfl (by omega) (by omega) (fun c8 => ?_) (fun c8 => ?_)
                                · try (exfalso; omega)
                                  all_goals (
                                    refine q_aload gg109_45 rfl ?_
                                    refine q_getr gg109_46 rfl ?_
                                    refine q_iload gg109_49 rfl ?_
                                    refine q_call2 gg109_50 tt59 rfl (Nat.le_of_ble_eq_true rfl) (hm_rv (by decide +kernel)) (ls' := [some _, some _]) rfl rfl ?_
                                    refine q_aload gg59_0 rfl ?_
                                    refine q_getr gg59_1 rfl ?_
                                    refine q_iload gg59_4 rfl ?_
                                    first | (refine z_alr gg59_5 (by first | rfl | assumption) (by assumption) (by omega) (by omega) (by omega) (by decide) (fun visMissing_5 evisMissing_5 lvisMissing_5 uvisMissing_5 => ?_); try dsimp only at evisMissing_5) | (refine z_alx gg59_5 rfl (by assumption) (by omega) (by omega) (by first | omega | decide) (by decide) (fun visMissing_5 evisMissing_5 lvisMissing_5 uvisMissing_5 => ?_); try dsimp only at evisMissing_5) | refine z_alq gg59_5 rfl (by omega) (by omega) (by decide) ?_
                                    refine z_neg gg59_6 ?_
                                    refine z_icmpne gg59_7 (tg := 14) rfl (by omega) (by omega) (fun c9 => ?_) (fun c9 => ?_)
                                    · try (exfalso; omega)
                                      all_goals (
                                        refine z_const gg59_14 (v := 0) rfl ?_
                                        refine z_zretC gg59_15 (by omega) ?_
                                        refine z_ifeq gg109_53 (tg := 62) rfl (by decide) (fun _ => ?_) (fun z => absurd z (by decide))
                                        refine q_aload gg109_62 rfl ?_
                                        refine q_getr gg109_63 rfl ?_
                                        refine q_iload gg109_66 rfl ?_
                                        refine q_iload gg109_67 rfl ?_
                                        refine q_iload gg109_68 rfl ?_
                                        refine q_call4 gg109_70 tt61 rfl (Nat.le_of_ble_eq_true rfl) (hm_rv (by decide +kernel)) (ls' := [some _, some _, some _, some _]) rfl rfl ?_
                                        refine q_iload gg61_0 rfl ?_
                                        refine z_iflt gg61_1 (tg := 24) rfl (by omega) (fun c10 => ?_) (fun c10 => ?_)
                                        · try (exfalso; omega)
                                          all_goals (
                                            refine z_const gg61_24 (v := 0) rfl ?_
                                            refine z_zretC gg61_25 (by omega) ?_
                                            refine z_ifne gg109_73 (tg := 82) rfl (by decide) (fun z => absurd z (by decide)) (fun _ => ?_)
                                            refine q_aload gg109_76 rfl ?_
                                            refine z_const gg109_77 (v := 2) rfl ?_
                                            refine q_call2 gg109_78 tt120 rfl (Nat.le_of_ble_eq_true rfl) (hm_rv (by decide +kernel)) (ls' := [some _, some _]) rfl rfl ?_
                                            refine q_aload gg120_0 rfl ?_
                                            refine q_iload gg120_1 rfl ?_
                                            refine q_putf gg120_2 rfl ?_
                                            refine z_neg gg120_5 ?_
                                            refine q_iload gg120_8 rfl ?_
                                            first | refine z_isub gg120_9 ?_ | refine q_isub gg120_9 ?_
                                            refine q_iretC gg120_10 ?_
                                            refine q_iret gg109_81 ?_
                                            rw [if_neg (by (repeat' split at ev53) <;> omega), if_neg (by omega)] at hC
                                            have := kk _ (FT.rf.f0.up (M := M) (x := zI 2)) (by rw [hC]; exact up_at)
                                            rw [fitA_e hC (by decide) (by decide)] at this
                                            exact this
                                          )
                                        · try (exfalso; omega)
                                          all_goals (
                                            refine q_iload gg61_4 rfl ?_
                                            refine z_iflt gg61_5 (tg := 24) rfl (by omega) (fun c11 => ?_) (fun c11 => ?_)
                                            · try (exfalso; omega)
                                              all_goals (
                                                refine z_const gg61_24 (v := 0) rfl ?_
                                                refine z_zretC gg61_25 (by omega) ?_
                                                refine z_ifne gg109_73 (tg := 82) rfl (by decide) (fun z => absurd z (by decide)) (fun _ => ?_)
                                                refine q_aload gg109_76 rfl ?_
                                                refine z_const gg109_77 (v := 2) rfl ?_
                                                refine q_call2 gg109_78 tt120 rfl (Nat.le_of_ble_eq_true rfl) (hm_rv (by decide +kernel)) (ls' := [some _, some _]) rfl rfl ?_
                                                refine q_aload gg120_0 rfl ?_
                                                refine q_iload gg120_1 rfl ?_
                                                refine q_putf gg120_2 rfl ?_
                                                refine z_neg gg120_5 ?_
                                                refine q_iload gg120_8 rfl ?_
                                                first | refine z_isub gg120_9 ?_ | refine q_isub gg120_9 ?_
                                                refine q_iretC gg120_10 ?_
                                                refine q_iret gg109_81 ?_
                                                rw [if_neg (by (repeat' split at ev53) <;> omega), if_neg (by omega)] at hC
                                                have := kk _ (FT.rf.f0.up (M := M) (x := zI 2)) (by rw [hC]; exact up_at)
                                                rw [fitA_e hC (by decide) (by decide)] at this
                                                exact this
                                              )
                                            · try (exfalso; omega)
                                              all_goals (
                                                refine q_iload gg61_8 rfl ?_
                                                refine q_aload gg61_9 rfl ?_
                                                refine q_getr gg61_10 rfl ?_
                                                refine q_iload gg61_13 rfl ?_
                                                first | (refine z_alr gg61_14 (by first | rfl | assumption) (by assumption) (by omega) (by omega) (by omega) (by decide) (fun vhasRun_14 evhasRun_14 lvhasRun_14 uvhasRun_14 => ?_); try dsimp only at evhasRun_14) | (refine z_alx gg61_14 rfl (by assumption) (by omega) (by omega) (by first | omega | decide) (by decide) (fun vhasRun_14 evhasRun_14 lvhasRun_14 uvhasRun_14 => ?_); try dsimp only at evhasRun_14) | refine z_alq gg61_14 rfl (by omega) (by omega) (by decide) ?_
                                                refine q_iload gg61_15 rfl ?_
                                                first | refine z_isub gg61_16 ?_ | refine q_isub gg61_16 ?_
                                                refine z_icmpgt gg61_17 (tg := 24) rfl (by omega) (by omega) (fun c12 => ?_) (fun c12 => ?_)
                                                · try (exfalso; omega)
                                                  all_goals (
                                                    refine z_const gg61_24 (v := 0) rfl ?_
                                                    refine z_zretC gg61_25 (by omega) ?_
                                                    refine z_ifne gg109_73 (tg := 82) rfl (by decide) (fun z => absurd z (by decide)) (fun _ => ?_)
                                                    refine q_aload gg109_76 rfl ?_
                                                    refine z_const gg109_77 (v := 2) rfl ?_
                                                    refine q_call2 gg109_78 tt120 rfl (Nat.le_of_ble_eq_true rfl) (hm_rv (by decide +kernel)) (ls' := [some _, some _]) rfl rfl ?_
                                                    refine q_aload gg120_0 rfl ?_
                                                    refine q_iload gg120_1 rfl ?_
                                                    refine q_putf gg120_2 rfl ?_
                                                    refine z_neg gg120_5 ?_
                                                    refine q_iload gg120_8 rfl ?_
                                                    first | refine z_isub gg120_9 ?_ | refine q_isub gg120_9 ?_
                                                    refine q_iretC gg120_10 ?_
                                                    refine q_iret gg109_81 ?_
                                                    rw [if_neg (by (repeat' split at ev53) <;> omega), if_neg (by omega)] at hC
                                                    have := kk _ (FT.rf.f0.up (M := M) (x := zI 2)) (by rw [hC]; exact up_at)
                                                    rw [fitA_e hC (by decide) (by decide)] at this
                                                    exact this
                                                  )
                                                · try (exfalso; omega)
                                                  all_goals (
                                                    refine z_const gg61_20 (v := 1) rfl ?_
                                                    refine q_goto gg61_21 (tg := 25) rfl ?_
                                                    refine z_zretC gg61_25 (by omega) ?_
                                                    refine z_ifne gg109_73 (tg := 82) rfl (by decide) (fun _ => ?_) (fun z => absurd z (by decide))
                                                    refine z_const gg109_82 (v := 0) rfl ?_
                                                    refine q_istore gg109_83 rfl ?_
                                                    exact L (by (repeat' split at ev53) <;> omega) (by omega) (by omega) n.toNat 0 M (by decide) (by omega) (fun _ _ => rfl) (fun k k0 k1 => by omega)
                                                  )
                                              )
                                          )
                                      )
                                    · try (exfalso; omega)
                                      all_goals (
                                        refine z_const gg59_10 (v := 1) rfl ?_
                                        refine q_goto gg59_11 (tg := 15) rfl ?_
                                        refine z_zretC gg59_15 (by omega) ?_
                                        refine z_ifeq gg109_53 (tg := 62) rfl (by decide) (fun z => absurd z (by decide)) (fun _ => ?_)
                                        refine q_aload gg109_56 rfl ?_
                                        refine z_const gg109_57 (v := 1) rfl ?_
                                        refine q_call2 gg109_58 tt120 rfl (Nat.le_of_ble_eq_true rfl) (hm_rv (by decide +kernel)) (ls' := [some _, some _]) rfl rfl ?_
                                        refine q_aload gg120_0 rfl ?_
                                        refine q_iload gg120_1 rfl ?_
                                        refine q_putf gg120_2 rfl ?_
                                        refine z_neg gg120_5 ?_
                                        refine q_iload gg120_8 rfl ?_
                                        first | refine z_isub gg120_9 ?_ | refine q_isub gg120_9 ?_
                                        refine q_iretC gg120_10 ?_
                                        refine q_iret gg109_61 ?_
                                        rw [if_pos (by (repeat' split at ev53) <;> omega)] at hC
                                        have := kk _ (FT.rf.f0.up (M := M) (x := zI 1)) (by rw [hC]; exact up_at)
                                        rw [fitA_e hC (by decide) (by decide)] at this
                                        exact this
                                      )
                                  )
                                · try (exfalso; omega)
                                  all_goals (
                                    refine z_neg gg109_42 ?_
                                    refine q_iret gg109_44 ?_
                                    exfalso
                                    omega
                                  )
                              )
                          )
                      )
                  )
              )
          )
      )
  · rw [if_neg hin] at hC
    have kq := kk M FT.rf.f0 (by rw [hC]; exact h0)
    rw [fitA_9 hC] at kq
    refine q_aload gg109_0 rfl ?_
    refine q_getr gg109_1 rfl ?_
    refine q_iload gg109_4 rfl ?_
    refine q_call2 gg109_5 tt32 rfl (Nat.le_of_ble_eq_true rfl) (hm_rv (by decide +kernel)) (ls' := [some _, some _]) rfl rfl ?_
    refine q_iload gg32_0 rfl ?_
    refine z_iflt gg32_1 (tg := 16) rfl (by omega) (fun c1 => ?_) (fun c1 => ?_)
    · try (exfalso; omega)
      all_goals (
        refine z_const gg32_16 (v := 0) rfl ?_
        refine z_zretC gg32_17 (by omega) ?_
        refine z_ifeq gg109_8 (tg := 42) rfl (by decide) (fun _ => ?_) (fun z => absurd z (by decide))
        refine z_neg gg109_42 ?_
        refine q_iret gg109_44 ?_
        exact kq
      )
    · try (exfalso; omega)
      all_goals (
        refine q_iload gg32_4 rfl ?_
        refine q_aload gg32_5 rfl ?_
        first | refine z_getf gg32_6 rfl (by assumption) ?_ | refine q_getf gg32_6 rfl ?_
        refine z_icmpge gg32_9 (tg := 16) rfl (by omega) (by omega) (fun c2 => ?_) (fun c2 => ?_)
        · try (exfalso; omega)
          all_goals (
            refine z_const gg32_16 (v := 0) rfl ?_
            refine z_zretC gg32_17 (by omega) ?_
            refine z_ifeq gg109_8 (tg := 42) rfl (by decide) (fun _ => ?_) (fun z => absurd z (by decide))
            refine z_neg gg109_42 ?_
            refine q_iret gg109_44 ?_
            exact kq
          )
        · try (exfalso; omega)
          all_goals (
            refine z_const gg32_12 (v := 1) rfl ?_
            refine q_goto gg32_13 (tg := 17) rfl ?_
            refine z_zretC gg32_17 (by omega) ?_
            refine z_ifeq gg109_8 (tg := 42) rfl (by decide) (fun z => absurd z (by decide)) (fun _ => ?_)
            refine q_iload gg109_11 rfl ?_
            refine q_call1 gg109_12 tt57 rfl (Nat.le_of_ble_eq_true rfl) rfl (ls' := [some _]) rfl rfl ?_
            refine q_iload gg57_0 rfl ?_
            refine z_iflt gg57_1 (tg := 14) rfl (by omega) (fun c3 => ?_) (fun c3 => ?_)
            · try (exfalso; omega)
              all_goals (
                refine z_const gg57_14 (v := 0) rfl ?_
                refine z_zretC gg57_15 (by omega) ?_
                refine z_ifeq gg109_15 (tg := 42) rfl (by decide) (fun _ => ?_) (fun z => absurd z (by decide))
                refine z_neg gg109_42 ?_
                refine q_iret gg109_44 ?_
                exact kq
              )
            · try (exfalso; omega)
              all_goals (
                refine q_iload gg57_4 rfl ?_
                refine z_const gg57_5 (v := 8) rfl ?_
                refine z_icmpge gg57_7 (tg := 14) rfl (by omega) (by omega) (fun c4 => ?_) (fun c4 => ?_)
                · try (exfalso; omega)
                  all_goals (
                    refine z_const gg57_14 (v := 0) rfl ?_
                    refine z_zretC gg57_15 (by omega) ?_
                    refine z_ifeq gg109_15 (tg := 42) rfl (by decide) (fun _ => ?_) (fun z => absurd z (by decide))
                    refine z_neg gg109_42 ?_
                    refine q_iret gg109_44 ?_
                    exact kq
                  )
                · try (exfalso; omega)
                  all_goals (
                    refine z_const gg57_10 (v := 1) rfl ?_
                    refine q_goto gg57_11 (tg := 15) rfl ?_
                    refine z_zretC gg57_15 (by omega) ?_
                    refine z_ifeq gg109_15 (tg := 42) rfl (by decide) (fun z => absurd z (by decide)) (fun _ => ?_)
                    refine q_iload gg109_18 rfl ?_
                    refine z_const gg109_20 (v := 1) rfl ?_
                    refine z_icmplt gg109_21 (tg := 42) rfl (by omega) (by omega) (fun c5 => ?_) (fun c5 => ?_)
                    · try (exfalso; omega)
                      all_goals (
                        refine z_neg gg109_42 ?_
                        refine q_iret gg109_44 ?_
                        exact kq
                      )
                    · try (exfalso; omega)
                      all_goals (
                        refine q_iload gg109_24 rfl ?_
                        refine z_const gg109_26 (v := 12) rfl ?_
                        refine z_icmpgt gg109_28 (tg := 42) rfl (by omega) (by omega) (fun c6 => ?_) (fun c6 => ?_)
                        · try (exfalso; omega)
                          all_goals (
                            refine z_neg gg109_42 ?_
                            refine q_iret gg109_44 ?_
                            exact kq
                          )
                        · try (exfalso; omega)
                          all_goals (
                            refine q_iload gg109_31 rfl ?_
                            refine z_iflt gg109_33 (tg := 42) rfl (by omega) (fun c7 => ?_) (fun c7 => ?_)
                            · try (exfalso; omega)
                              all_goals (
                                refine z_neg gg109_42 ?_
                                refine q_iret gg109_44 ?_
                                exact kq
                              )
                            · try (exfalso; omega)
                              all_goals (
                                refine q_iload gg109_36 rfl ?_
                                refine z_const gg109_38 (v := 4) rfl ?_
                                refine z_icmple gg109_39 (tg := 45) rfl (by omega) (by omega) (fun c8 => ?_) (fun c8 => ?_)
                                · try (exfalso; omega)
                                  all_goals (
                                    exfalso
                                    omega
                                  )
                                · try (exfalso; omega)
                                  all_goals (
                                    refine z_neg gg109_42 ?_
                                    refine q_iret gg109_44 ?_
                                    exact kq
                                  )
                              )
                          )
                      )
                  )
              )
          )
      )
theorem r_swellsSo {v : Int} {fr : Int} (hn0 : 0 ≤ n) (hn : n ≤ 12) (hb0 : 0 ≤ b) (hb : b < w 2) (hp0 : 0 ≤ p) (hp : p < 53) (hv0 : 0 ≤ v) (hv : v ≤ 60) (hf : aw (M 36) 53 0 20000 w) (hw : mWf (zup w p v)) (hp2 : zup w p v 2 = w 2) (hp3 : zup w p v 3 ≤ 9999) (hfr0 : 0 ≤ fr) (hfr : fr + n ≤ 320) (hT : ∀ h : Int, 0 ≤ h → h < n → M 33 (fr + h).toNat = zI (T h) ∧ zR (T h)) (kk : ∀ M', FR M M' → Q (some (.inl (zI (pI (fTm b T n.toNat (zup w p v) 0))))) M') : hm_Wp (d + 4) 188 0 [some (.inr (.inr 30)), some (.inl (zI b)), some (.inl (zI fr)), some (.inl (zI n)), some (.inl (zI p)), some (.inl (zI v)), none, none] [] M Q := by
  have hn2 := hw.1.1
  have L : ∀ (m : Nat) (j t : Int) (f : Nat → Int32) (u : Int → Int), 0 ≤ j → j + m = n → aw f 53 0 20000 u → mWf u → u 2 = w 2 → u 3 + m ≤ 20000 → (t = 0 ∨ t = 1) → ((t = 1 ∧ fTm b T m u j) ↔ fTm b T n.toNat (zup w p v) 0) → hm_Wp (d + 4) 188 28 [some (.inr (.inr 30)), some (.inl (zI b)), some (.inl (zI fr)), some (.inl (zI n)), some (.inl (zI p)), some (.inl (zI v)), some (.inl (zI t)), some (.inl (zI j))] [] (hm_row M 38 f) Q := by
    intro m
    induction m with
    | zero =>
      intro j t f u hj0 hjm hfu hu hu2 hu3 ht heq
      have kq := kk _ (FR.row (M := M) (f := f))
      have : pI (fTm b T n.toNat (zup w p v) 0) = t := by
        rcases ht with rfl | rfl
        · exact pI_f (fun z => by have := (heq.mpr z).1; omega)
        · exact pI_t (heq.mp ⟨rfl, trivial⟩)
      rw [this] at kq
      refine q_iload gg188_28 rfl ?_
      refine q_iload gg188_30 rfl ?_
      refine z_icmpge gg188_31 (tg := 84) rfl (by omega) (by omega) (fun c1 => ?_) (fun z => absurd z (by omega))
      refine q_iload gg188_84 rfl ?_
      refine z_zret gg188_86 (by omega) ?_
      exact kq
    | succ m ih =>
      intro j t f u hj0 hjm hfu hu hu2 hu3 ht heq
      have hu' := mWf_pass hu (by omega)
      have hpp2 : mPass u 2 = w 2 := by rw [mPass_2]; exact hu2
      have hpp3 : mPass u 3 = u 3 + 1 := mPass_3 u
      have hTj := hT j hj0 (by omega)
      have hzr := hTj.2
      unfold zR at hzr
      simp only [fTm] at heq
      refine q_iload gg188_28 rfl ?_
      refine q_iload gg188_30 rfl ?_
      refine z_icmpge gg188_31 (tg := 84) rfl (by omega) (by omega) (fun z => absurd z (by omega)) (fun c1 => ?_)
      refine q_aload gg188_34 rfl ?_
      refine q_getr gg188_35 rfl ?_
      refine q_call1 gg188_38 tt162 rfl (Nat.le_of_ble_eq_true rfl) rfl (ls' := [some _, none]) rfl rfl ?_
      refine r_passes rfl hfu hu.1 (by omega) (fun f2 hf2 => ?_)
      show hm_Wp _ _ _ _ _ _ _
      refine q_iload gg188_41 rfl ?_
      refine z_ifeq gg188_43 (tg := 75) rfl (by omega) (fun c2 => ?_) (fun c2 => ?_)
      · try (exfalso; omega)
        all_goals (
          refine z_const gg188_75 (v := 0) rfl ?_
          refine q_istore gg188_76 rfl ?_
          refine z_iinc gg188_78 rfl rfl ?_
          refine q_goto gg188_81 (tg := 28) rfl ?_
          exact ih (j + 1) 0 f2 (mPass u) (by omega) (by omega) hf2 hu' hpp2 (by omega) (Or.inl rfl) ⟨fun z => by have := z.1; omega, fun z => by have := (heq.mpr z).1; omega⟩
        )
      · try (exfalso; omega)
        all_goals (
          refine q_aload gg188_46 rfl ?_
          refine q_getr gg188_47 rfl ?_
          refine z_const gg188_50 (v := 4) rfl ?_
          refine z_const gg188_51 (v := 7) rfl ?_
          refine q_iload gg188_53 rfl ?_
          first | refine z_imul gg188_54 ?_ | refine q_imul gg188_54 ?_
          first | refine z_iadd gg188_55 ?_ | refine q_iadd gg188_55 ?_
          refine z_const gg188_56 (v := 2) rfl ?_
          first | refine z_iadd gg188_57 ?_ | refine q_iadd gg188_57 ?_
          first | (refine z_alr gg188_58 (by first | rfl | assumption) (by assumption) (by omega) (by omega) (by omega) (by decide) (fun v58 ev58 lv58 uv58 => ?_); try dsimp only at ev58) | (refine z_alx gg188_58 rfl (by assumption) (by omega) (by omega) (by first | omega | decide) (by decide) (fun v58 ev58 lv58 uv58 => ?_); try dsimp only at ev58) | refine z_alq gg188_58 rfl (by omega) (by omega) (by decide) ?_
          refine q_aload gg188_59 rfl ?_
          refine q_getr gg188_60 rfl ?_
          refine q_iload gg188_63 rfl ?_
          refine q_iload gg188_64 rfl ?_
          first | refine z_iadd gg188_66 ?_ | refine q_iadd gg188_66 ?_
          first | (refine z_alr gg188_67 (by first | rfl | assumption) (by assumption) (by omega) (by omega) (by omega) (by decide) (fun v67 ev67 lv67 uv67 => ?_); try dsimp only at ev67) | (refine z_alx gg188_67 rfl (by assumption) (by omega) (by omega) (by first | omega | decide) (by decide) (fun v67 ev67 lv67 uv67 => ?_); try dsimp only at ev67) | refine z_alq gg188_67 rfl (by omega) (by omega) (by decide) ?_
          rw [show hm_row M 38 f2 33 (fr + j).toNat = zI (T j) from hTj.1]
          refine z_icmpne gg188_68 (tg := 75) rfl (by omega) (by omega) (fun c6 => ?_) (fun c6 => ?_)
          · try (exfalso; omega)
            all_goals (
              refine z_const gg188_75 (v := 0) rfl ?_
              refine q_istore gg188_76 rfl ?_
              refine z_iinc gg188_78 rfl rfl ?_
              refine q_goto gg188_81 (tg := 28) rfl ?_
              first | exact ih (j + 1) 1 f2 (mPass u) (by omega) (by omega) hf2 hu' hpp2 (by omega) (Or.inr rfl) ⟨fun z => heq.mp ⟨by omega, by omega, z.2⟩, fun z => ⟨rfl, (heq.mpr z).2.2⟩⟩ | exact ih (j + 1) 0 f2 (mPass u) (by omega) (by omega) hf2 hu' hpp2 (by omega) (Or.inl rfl) ⟨fun z => by have := z.1; omega, fun z => by have := (heq.mpr z).2.1; omega⟩
            )
          · try (exfalso; omega)
            all_goals (
              refine z_const gg188_71 (v := 1) rfl ?_
              refine q_goto gg188_72 (tg := 76) rfl ?_
              refine q_istore gg188_76 rfl ?_
              refine z_iinc gg188_78 rfl rfl ?_
              refine q_goto gg188_81 (tg := 28) rfl ?_
              first | exact ih (j + 1) 1 f2 (mPass u) (by omega) (by omega) hf2 hu' hpp2 (by omega) (Or.inr rfl) ⟨fun z => heq.mp ⟨by omega, by omega, z.2⟩, fun z => ⟨rfl, (heq.mpr z).2.2⟩⟩ | exact ih (j + 1) 0 f2 (mPass u) (by omega) (by omega) hf2 hu' hpp2 (by omega) (Or.inl rfl) ⟨fun z => by have := z.1; omega, fun z => by have := (heq.mpr z).2.1; omega⟩
            )
        )
  refine q_aload gg188_0 rfl ?_
  refine q_getr gg188_1 rfl ?_
  refine z_const gg188_4 (v := 0) rfl ?_
  refine q_aload gg188_5 rfl ?_
  refine q_getr gg188_6 rfl ?_
  refine z_const gg188_9 (v := 0) rfl ?_
  refine q_call4 gg188_10 tt130 rfl (Nat.le_of_ble_eq_true rfl) rfl (ls' := [some _, some _, some _, some _, none]) rfl rfl ?_
  refine r_cpNT hf (fun f1 hf1 => ?_)
  show hm_Wp _ _ _ _ _ _ _
  refine q_aload gg188_13 rfl ?_
  refine q_getr gg188_14 rfl ?_
  refine q_iload gg188_17 rfl ?_
  refine q_iload gg188_19 rfl ?_
  first | refine z_asr gg188_21 (by first | rfl | assumption) (by assumption) (by omega) (by omega) (by decide) (by omega) (by omega) (fun f21 h21 => ?_) | refine z_asx gg188_21 rfl (by omega) (by omega) (by decide) ?_ | refine z_asq gg188_21 rfl (by omega) (by omega) (by decide) ?_
  refine z_const gg188_22 (v := 1) rfl ?_
  refine q_istore gg188_23 rfl ?_
  refine z_const gg188_25 (v := 0) rfl ?_
  refine q_istore gg188_26 rfl ?_
  exact L n.toNat 0 1 _ _ (by decide) (by omega) h21 hw hp2 (by omega) (Or.inr rfl) ⟨fun z => z.2, fun z => ⟨rfl, z⟩⟩
theorem fP_bd (hb0 : 0 ≤ b) (hb : b < 7) : 0 ≤ fP y b ∧ fP y b < 53 := by unfold fP; (repeat' split) <;> omega
theorem fM_3 : fM 3 = 56 ∧ fM 4 = 56 ∧ fLo 3 = 5 ∧ fLo 4 = 5 := by decide
theorem fOk_34 : fOk w b n T 3 x ↔ fOk w b n T 4 x := Iff.rfl
theorem z_or0 (x : Int32) : x ||| zI 0 = x := by show x ||| 0 = x; simp
theorem r_fits (hb : zR b) (hro : zR ro) (hi : zR i) (hz : zR n) (hy : zR y) (h0 : M 30 4 = zI st) (hR : RR M ln lg it) (hW : RW ln lg it) (hf : aw (M 36) 53 0 20000 w) (hw : mWf w) (h3 : w 3 ≤ 9999) (kk : ∀ M', F30 M M' → M' 30 4 = zI (nSt st (fitC w ln lg b ro i n y)) → Q (some (.inl (fitA w ln lg it b ro i n y))) M') : hm_Wp (d + 6) 189 0 [some (.inr (.inr 30)), some (.inl (zI b)), some (.inl (zI ro)), some (.inl (zI i)), some (.inl (zI n)), some (.inl (zI y)), none, none, none, none, none, none, none] [] M Q := by
  have hn2 := hw.1.1
  unfold zR at hb hro hi hz hy
  have r2 := hR.1
  have r3 := hR.2.1
  have hC : fitC w ln lg b ro i n y = if 0 ≤ b ∧ b < w 2 ∧ 0 ≤ ro ∧ ro ≤ 7 ∧ 1 ≤ n ∧ n ≤ 12 ∧ 0 ≤ y ∧ y ≤ 4 then (if ln ro = -1000000 then 1 else if 0 ≤ i ∧ i + n ≤ lg ro then 0 else 2) else 9 := rfl
  by_cases hin : 0 ≤ b ∧ b < w 2 ∧ 0 ≤ ro ∧ ro ≤ 7 ∧ 1 ≤ n ∧ n ≤ 12 ∧ 0 ≤ y ∧ y ≤ 4
  · rw [if_pos hin] at hC
    obtain ⟨hb0, hb1, hro0, hro1, hn0, hn1, hy0, hy1⟩ := hin
    have w1 := hW.1 ro hro0 (by omega)
    have w2 := hW.2.1 ro hro0 (by omega)
    have K : ln ro ≠ -1000000 → 0 ≤ i → i + n ≤ lg ro → (fitC w ln lg b ro i n y = 0 ∧ (∀ h : Int, 0 ≤ h → h < n → M 33 (40 * ro + i + h).toNat = zI (it (40 * ro + i + h)) ∧ zR (it (40 * ro + i + h)))) := by
      intro hl hi0 hin
      rw [if_neg hl, if_pos ⟨hi0, hin⟩] at hC
      refine ⟨hC, fun h h0 h1 => ⟨?_, hW.2.2 _⟩⟩
      have := hR.2.2 ro (i + h) hro0 (by omega) (by omega) (by omega)
      rw [← Int.add_assoc] at this; exact this
    have L1 : (ln ro ≠ -1000000 ∧ 0 ≤ i ∧ i + n ≤ lg ro) → y < 3 → ∀ (m : Nat) (v : Int) (pp : Int32) (N : hm_M), fLo y ≤ v → v + m = fHi y + 1 → FR M N → fSet w b n (fun h => it (40 * ro + i + h)) y m v pp = fSet w b n (fun h => it (40 * ro + i + h)) y (fM y) (fLo y) (zI 0) → hm_Wp (d + 6) 189 138 [some (.inr (.inr 30)), some (.inl (zI b)), some (.inl (zI ro)), some (.inl (zI i)), some (.inl (zI n)), some (.inl (zI y)), some (.inl (zI (40 * ro + i))), some (.inl (zI (4 + 7 * b))), some (.inl pp), some (.inl (zI 0)), some (.inl (zI (-1000000))), some (.inl (zI (fHi y))), some (.inl (zI v))] [] N Q := by
      intro ⟨hl, hi0, hin⟩ hy3 m
      obtain ⟨hC0, hTT⟩ := K hl hi0 hin
      have hE := fitA_0 (it := it) hC0
      have hLH := fLH hy0 hy1
      induction m with
      | zero =>
        intro v pp N hlv hvm hft hst
        simp only [fSet] at hst
        refine q_iload gg189_138 rfl ?_
        refine q_iload gg189_140 rfl ?_
        refine z_icmpgt gg189_142 (tg := 193) rfl (by omega) (by omega) (fun c1 => ?_) (fun z => absurd z (by omega))
        refine q_aload gg189_193 rfl ?_
        refine q_iload gg189_194 rfl ?_
        refine q_call2 gg189_196 tt129 rfl (Nat.le_of_ble_eq_true rfl) (hm_rv (by decide +kernel)) (ls' := [some _, some _]) rfl rfl ?_
        refine q_aload gg129_0 rfl ?_
        refine z_const gg129_1 (v := 0) rfl ?_
        refine q_putf gg129_2 rfl ?_
        refine q_iload gg129_5 rfl ?_
        refine q_iretC gg129_6 ?_
        refine q_iret gg189_199 ?_
        have := kk _ (F30.up (x := zI 0) hft) (by rw [hC0]; exact up_at)
        rw [hE, fAns, if_neg (by omega), if_neg (by omega), ← hst] at this
        exact this
      | succ m ih =>
        intro v pp N hlv hvm hft hst
        have hwv := mWf_fV (v := v) hw hb0 hb1 hy0 hy1 hlv (by omega)
        have h36 : aw (N 36) 53 0 20000 w := by rw [hft 36 (by decide)]; exact hf
        have hTN : ∀ h : Int, 0 ≤ h → h < n → N 33 (40 * ro + i + h).toNat = zI (it (40 * ro + i + h)) ∧ zR (it (40 * ro + i + h)) := by rw [hft 33 (by decide)]; exact hTT
        have hpb := fP_bd (y := y) hb0 (show b < 7 by omega)
        have hfp : fP y b = if y = 2 then 0 else 4 + 7 * b + y := by unfold fP; (repeat' split) <;> omega
        have h01 := pI_01 (fTm b (fun h => it (40 * ro + i + h)) n.toNat (zup w (fP y b) v) 0)
        have hcall : ∀ Q2 : Option hm_V → hm_M → Prop, (∀ M2 : hm_M, FR M M2 → Q2 (some (.inl (zI (pI (fTm b (fun h => it (40 * ro + i + h)) n.toNat (zup w (fP y b) v) 0))))) M2) → hm_Wp (d + 5) 188 0 [some (.inr (.inr 30)), some (.inl (zI b)), some (.inl (zI (40 * ro + i))), some (.inl (zI n)), some (.inl (zI (fP y b))), some (.inl (zI v)), none, none] [] N Q2 := fun Q2 h2 => r_swellsSo (by omega) hn1 hb0 hb1 hpb.1 hpb.2 (by omega) (by omega) h36 hwv.1 hwv.2.1 (by omega) (by omega) (by omega) hTN (fun M2 hft2 => h2 M2 (fun k hk => (hft2 k hk).trans (hft k hk)))
        refine q_iload gg189_138 rfl ?_
        refine q_iload gg189_140 rfl ?_
        refine z_icmpgt gg189_142 (tg := 193) rfl (by omega) (by omega) (fun z => absurd z (by omega)) (fun c1 => ?_)
        refine q_iload gg189_145 rfl ?_
        refine q_aload gg189_147 rfl ?_
        refine q_iload gg189_148 rfl ?_
        refine q_iload gg189_149 rfl ?_
        refine q_iload gg189_151 rfl ?_
        refine q_iload gg189_153 rfl ?_
        refine z_const gg189_155 (v := 2) rfl ?_
        refine z_icmpne gg189_156 (tg := 163) rfl (by omega) (by omega) (fun c2 => ?_) (fun c2 => ?_)
        · try (exfalso; omega)
          all_goals (
            refine q_iload gg189_163 rfl ?_
            refine q_iload gg189_165 rfl ?_
            first | refine z_iadd gg189_167 ?_ | refine q_iadd gg189_167 ?_
            refine hm_Wp.eqS (st2 := [.inl (zI (fP y b)), .inl (zI n), .inl (zI (40 * ro + i)), .inl (zI b), .inr (.inr 30), .inl pp]) (by rw [hfp]; first | rw [if_pos (by omega)] | rw [if_neg (by omega)]) ?_
            refine q_iload gg189_168 rfl ?_
            refine q_call6 gg189_170 tt188 rfl (Nat.le_of_ble_eq_true rfl) (hm_rv (by decide +kernel)) (ls' := [some _, some _, some _, some _, some _, some _, none, none]) rfl rfl ?_
            refine hcall _ (fun M2 hft2 => ?_)
            show hm_Wp _ _ _ _ (_ :: _) _ _
            refine z_ifeq gg189_173 (tg := 183) rfl (by omega) (fun c6 => ?_) (fun c6 => ?_)
            · try (exfalso; omega)
              all_goals (
                refine z_const gg189_183 (v := 0) rfl ?_
                refine q_ior gg189_184 ?_
                refine q_istore gg189_185 rfl ?_
                refine z_iinc gg189_187 rfl rfl ?_
                refine q_goto gg189_190 (tg := 138) rfl ?_
                first
                | (have hok : fOk w b n (fun h => it (40 * ro + i + h)) y v := pI_1 (P := fTm b (fun h => it (40 * ro + i + h)) n.toNat (zup w (fP y b) v) 0) (by omega)
                   rw [fSet_t hok] at hst
                   exact ih (v + 1) _ M2 (by omega) (by omega) hft2 hst)
                | (have hok : ¬ fOk w b n (fun h => it (40 * ro + i + h)) y v := pI_0 (P := fTm b (fun h => it (40 * ro + i + h)) n.toNat (zup w (fP y b) v) 0) (by omega)
                   rw [fSet_f hok] at hst
                   rw [z_or0]
                   exact ih (v + 1) _ M2 (by omega) (by omega) hft2 hst)
              )
            · try (exfalso; omega)
              all_goals (
                refine z_const gg189_176 (v := 1) rfl ?_
                refine q_iload gg189_177 rfl ?_
                first | refine z_ishl gg189_179 (by omega) (by omega) (by omega) (by omega) ?_ | refine z_ishl7 gg189_179 (by omega) (by omega) (fun s179 es179 => ?_) | refine q_ishl gg189_179 ?_
                refine q_goto gg189_180 (tg := 184) rfl ?_
                refine q_ior gg189_184 ?_
                refine q_istore gg189_185 rfl ?_
                refine z_iinc gg189_187 rfl rfl ?_
                refine q_goto gg189_190 (tg := 138) rfl ?_
                first
                | (have hok : fOk w b n (fun h => it (40 * ro + i + h)) y v := pI_1 (P := fTm b (fun h => it (40 * ro + i + h)) n.toNat (zup w (fP y b) v) 0) (by omega)
                   rw [fSet_t hok] at hst
                   exact ih (v + 1) _ M2 (by omega) (by omega) hft2 hst)
                | (have hok : ¬ fOk w b n (fun h => it (40 * ro + i + h)) y v := pI_0 (P := fTm b (fun h => it (40 * ro + i + h)) n.toNat (zup w (fP y b) v) 0) (by omega)
                   rw [fSet_f hok] at hst
                   rw [z_or0]
                   exact ih (v + 1) _ M2 (by omega) (by omega) hft2 hst)
              )
          )
        · try (exfalso; omega)
          all_goals (
            refine z_const gg189_159 (v := 0) rfl ?_
            refine q_goto gg189_160 (tg := 168) rfl ?_
            refine hm_Wp.eqS (st2 := [.inl (zI (fP y b)), .inl (zI n), .inl (zI (40 * ro + i)), .inl (zI b), .inr (.inr 30), .inl pp]) (by rw [hfp]; first | rw [if_pos (by omega)] | rw [if_neg (by omega)]) ?_
            refine q_iload gg189_168 rfl ?_
            refine q_call6 gg189_170 tt188 rfl (Nat.le_of_ble_eq_true rfl) (hm_rv (by decide +kernel)) (ls' := [some _, some _, some _, some _, some _, some _, none, none]) rfl rfl ?_
            refine hcall _ (fun M2 hft2 => ?_)
            show hm_Wp _ _ _ _ (_ :: _) _ _
            refine z_ifeq gg189_173 (tg := 183) rfl (by omega) (fun c6 => ?_) (fun c6 => ?_)
            · try (exfalso; omega)
              all_goals (
                refine z_const gg189_183 (v := 0) rfl ?_
                refine q_ior gg189_184 ?_
                refine q_istore gg189_185 rfl ?_
                refine z_iinc gg189_187 rfl rfl ?_
                refine q_goto gg189_190 (tg := 138) rfl ?_
                first
                | (have hok : fOk w b n (fun h => it (40 * ro + i + h)) y v := pI_1 (P := fTm b (fun h => it (40 * ro + i + h)) n.toNat (zup w (fP y b) v) 0) (by omega)
                   rw [fSet_t hok] at hst
                   exact ih (v + 1) _ M2 (by omega) (by omega) hft2 hst)
                | (have hok : ¬ fOk w b n (fun h => it (40 * ro + i + h)) y v := pI_0 (P := fTm b (fun h => it (40 * ro + i + h)) n.toNat (zup w (fP y b) v) 0) (by omega)
                   rw [fSet_f hok] at hst
                   rw [z_or0]
                   exact ih (v + 1) _ M2 (by omega) (by omega) hft2 hst)
              )
            · try (exfalso; omega)
              all_goals (
                refine z_const gg189_176 (v := 1) rfl ?_
                refine q_iload gg189_177 rfl ?_
                first | refine z_ishl gg189_179 (by omega) (by omega) (by omega) (by omega) ?_ | refine z_ishl7 gg189_179 (by omega) (by omega) (fun s179 es179 => ?_) | refine q_ishl gg189_179 ?_
                refine q_goto gg189_180 (tg := 184) rfl ?_
                refine q_ior gg189_184 ?_
                refine q_istore gg189_185 rfl ?_
                refine z_iinc gg189_187 rfl rfl ?_
                refine q_goto gg189_190 (tg := 138) rfl ?_
                first
                | (have hok : fOk w b n (fun h => it (40 * ro + i + h)) y v := pI_1 (P := fTm b (fun h => it (40 * ro + i + h)) n.toNat (zup w (fP y b) v) 0) (by omega)
                   rw [fSet_t hok] at hst
                   exact ih (v + 1) _ M2 (by omega) (by omega) hft2 hst)
                | (have hok : ¬ fOk w b n (fun h => it (40 * ro + i + h)) y v := pI_0 (P := fTm b (fun h => it (40 * ro + i + h)) n.toNat (zup w (fP y b) v) 0) (by omega)
                   rw [fSet_f hok] at hst
                   rw [z_or0]
                   exact ih (v + 1) _ M2 (by omega) (by omega) hft2 hst)
              )
          )
    have L2 : (ln ro ≠ -1000000 ∧ 0 ≤ i ∧ i + n ≤ lg ro) → (y = 3 ∨ y = 4) → ∀ (m k : Nat) (v : Int) (N : hm_M) (x12 : Option hm_V), v = 4 + m → m + k = 56 → FR M N → hm_Wp (d + 6) 189 204 [some (.inr (.inr 30)), some (.inl (zI b)), some (.inl (zI ro)), some (.inl (zI i)), some (.inl (zI n)), some (.inl (zI y)), some (.inl (zI (40 * ro + i))), some (.inl (zI (4 + 7 * b))), some (.inl (zI 0)), some (.inl (zI (fCnt w b n (fun h => it (40 * ro + i + h)) y k (v + 1)))), some (.inl (zI (fFst w b n (fun h => it (40 * ro + i + h)) y k (v + 1)))), some (.inl (zI v)), x12] [] N Q := by
      intro ⟨hl, hi0, hin⟩ hy3 m
      obtain ⟨hC0, hTT⟩ := K hl hi0 hin
      have hE := fitA_0 (it := it) hC0
      have hfp : fP y b = 1 := by unfold fP; (repeat' split) <;> omega
      have hlo : fLo y = 5 := by unfold fLo; (repeat' split) <;> omega
      have hhi : fHi y = 60 := by unfold fHi; (repeat' split) <;> omega
      have hfm : fM y = 56 := by unfold fM; rw [hlo, hhi]; decide
      have hQ : ∀ N, FR M N → ∀ X : Int32, X = fAns w b n (fun h => it (40 * ro + i + h)) y → Q (some (.inl X)) (hm_up N 30 4 (zI 0)) := fun N hft X hX => by
        have := kk _ (F30.up (x := zI 0) hft) (by rw [hC0]; exact up_at)
        rw [hE, ← hX] at this; exact this
      induction m with
      | zero =>
        intro k v N x12 hvm hk hft
        have hk56 : k = 56 := by omega
        subst hk56
        refine q_iload gg189_204 rfl ?_
        refine z_const gg189_206 (v := 5) rfl ?_
        refine z_icmplt gg189_207 (tg := 259) rfl (by omega) (by omega) (fun c1 => ?_) (fun z => absurd z (by omega))
        refine q_aload gg189_259 rfl ?_
        refine q_iload gg189_260 rfl ?_
        refine z_const gg189_262 (v := 3) rfl ?_
        refine z_icmpne gg189_263 (tg := 271) rfl (by omega) (by omega) (fun c2 => ?_) (fun c2 => ?_)
        · try (exfalso; omega)
          all_goals (
            refine q_iload gg189_271 rfl ?_
            refine q_call2 gg189_273 tt129 rfl (Nat.le_of_ble_eq_true rfl) (hm_rv (by decide +kernel)) (ls' := [some _, some _]) rfl rfl ?_
            refine q_aload gg129_0 rfl ?_
            refine z_const gg129_1 (v := 0) rfl ?_
            refine q_putf gg129_2 rfl ?_
            refine q_iload gg129_5 rfl ?_
            refine q_iretC gg129_6 ?_
            refine q_iret gg189_276 ?_
            refine hQ _ hft _ ?_
            unfold fAns
            rw [hfm, hlo, show v + 1 = 5 by omega]
            first | (rw [if_pos (by omega)]; done) | (rw [if_neg (by omega), if_pos (by omega)]; done)
          )
        · try (exfalso; omega)
          all_goals (
            refine q_iload gg189_266 rfl ?_
            refine q_goto gg189_268 (tg := 273) rfl ?_
            refine q_call2 gg189_273 tt129 rfl (Nat.le_of_ble_eq_true rfl) (hm_rv (by decide +kernel)) (ls' := [some _, some _]) rfl rfl ?_
            refine q_aload gg129_0 rfl ?_
            refine z_const gg129_1 (v := 0) rfl ?_
            refine q_putf gg129_2 rfl ?_
            refine q_iload gg129_5 rfl ?_
            refine q_iretC gg129_6 ?_
            refine q_iret gg189_276 ?_
            refine hQ _ hft _ ?_
            unfold fAns
            rw [hfm, hlo, show v + 1 = 5 by omega]
            first | (rw [if_pos (by omega)]; done) | (rw [if_neg (by omega), if_pos (by omega)]; done)
          )
      | succ m ih =>
        intro k v N x12 hvm hk hft
        have hwv := mWf_fV (v := v) hw hb0 hb1 hy0 hy1 (by omega) (by omega)
        have h36 : aw (N 36) 53 0 20000 w := by rw [hft 36 (by decide)]; exact hf
        have hTN : ∀ h : Int, 0 ≤ h → h < n → N 33 (40 * ro + i + h).toNat = zI (it (40 * ro + i + h)) ∧ zR (it (40 * ro + i + h)) := by rw [hft 33 (by decide)]; exact hTT
        have h01 := pI_01 (fTm b (fun h => it (40 * ro + i + h)) n.toNat (zup w (fP y b) v) 0)
        have hcb := fCnt_bd (w := w) (b := b) (n := n) (T := fun h => it (40 * ro + i + h)) (y := y) k (v + 1)
        have hfb := fFst_bd (w := w) (b := b) (n := n) (T := fun h => it (40 * ro + i + h)) (y := y) k (v + 1) (by omega)
        have hi := fun N x12 => ih (k + 1) (v - 1) N x12 (by omega) (by omega)
        rw [show v - 1 + 1 = v by omega] at hi
        have hcall : ∀ Q2 : Option hm_V → hm_M → Prop, (∀ M2 : hm_M, FR M M2 → Q2 (some (.inl (zI (pI (fTm b (fun h => it (40 * ro + i + h)) n.toNat (zup w (fP y b) v) 0))))) M2) → hm_Wp (d + 5) 188 0 [some (.inr (.inr 30)), some (.inl (zI b)), some (.inl (zI (40 * ro + i))), some (.inl (zI n)), some (.inl (zI 1)), some (.inl (zI v)), none, none] [] N Q2 := fun Q2 h2 => by
          rw [hfp] at h2 hwv
          exact r_swellsSo (by omega) hn1 hb0 hb1 (by decide) (by decide) (by omega) (by omega) h36 hwv.1 hwv.2.1 (by omega) (by omega) (by omega) hTN (fun M2 hft2 => h2 M2 (fun k hk => (hft2 k hk).trans (hft k hk)))
        refine q_iload gg189_204 rfl ?_
        refine z_const gg189_206 (v := 5) rfl ?_
        refine z_icmplt gg189_207 (tg := 259) rfl (by omega) (by omega) (fun z => absurd z (by omega)) (fun c1 => ?_)
        refine q_aload gg189_210 rfl ?_
        refine q_iload gg189_211 rfl ?_
        refine q_iload gg189_212 rfl ?_
        refine q_iload gg189_214 rfl ?_
        refine z_const gg189_216 (v := 1) rfl ?_
        refine q_iload gg189_217 rfl ?_
        refine q_call6 gg189_219 tt188 rfl (Nat.le_of_ble_eq_true rfl) (hm_rv (by decide +kernel)) (ls' := [some _, some _, some _, some _, some _, some _, none, none]) rfl rfl ?_
        refine hcall _ (fun M2 hft2 => ?_)
        show hm_Wp _ _ _ _ (_ :: _) _ _
        refine q_istore gg189_222 rfl ?_
        refine q_iload gg189_224 rfl ?_
        refine q_iload gg189_226 rfl ?_
        refine z_ifeq gg189_228 (tg := 235) rfl (by omega) (fun c2 => ?_) (fun c2 => ?_)
        · try (exfalso; omega)
          all_goals (
            refine z_const gg189_235 (v := 0) rfl ?_
            first | refine z_iadd gg189_236 ?_ | refine q_iadd gg189_236 ?_
            refine q_istore gg189_237 rfl ?_
            refine q_iload gg189_239 rfl ?_
            refine z_ifeq gg189_241 (tg := 249) rfl (by omega) (fun c3 => ?_) (fun c3 => ?_)
            · try (exfalso; omega)
              all_goals (
                refine q_iload gg189_249 rfl ?_
                refine q_istore gg189_251 rfl ?_
                refine z_iinc gg189_253 rfl rfl ?_
                refine q_goto gg189_256 (tg := 204) rfl ?_
                first
                | (have hok : fOk w b n (fun h => it (40 * ro + i + h)) y v := pI_1 (P := fTm b (fun h => it (40 * ro + i + h)) n.toNat (zup w (fP y b) v) 0) (by omega)
                   rw [fCnt_t hok, fFst_t hok, Int.add_comm 1] at hi
                   exact hi M2 _ hft2)
                | (have hok : ¬ fOk w b n (fun h => it (40 * ro + i + h)) y v := pI_0 (P := fTm b (fun h => it (40 * ro + i + h)) n.toNat (zup w (fP y b) v) 0) (by omega)
                   rw [fCnt_f hok, fFst_f hok] at hi
                   rw [Int.add_zero]
                   exact hi M2 _ hft2)
              )
            · try (exfalso; omega)
              all_goals (
                refine q_iload gg189_244 rfl ?_
                refine q_goto gg189_246 (tg := 251) rfl ?_
                refine q_istore gg189_251 rfl ?_
                refine z_iinc gg189_253 rfl rfl ?_
                refine q_goto gg189_256 (tg := 204) rfl ?_
                first
                | (have hok : fOk w b n (fun h => it (40 * ro + i + h)) y v := pI_1 (P := fTm b (fun h => it (40 * ro + i + h)) n.toNat (zup w (fP y b) v) 0) (by omega)
                   rw [fCnt_t hok, fFst_t hok, Int.add_comm 1] at hi
                   exact hi M2 _ hft2)
                | (have hok : ¬ fOk w b n (fun h => it (40 * ro + i + h)) y v := pI_0 (P := fTm b (fun h => it (40 * ro + i + h)) n.toNat (zup w (fP y b) v) 0) (by omega)
                   rw [fCnt_f hok, fFst_f hok] at hi
                   rw [Int.add_zero]
                   exact hi M2 _ hft2)
              )
          )
        · try (exfalso; omega)
          all_goals (
            refine z_const gg189_231 (v := 1) rfl ?_
            refine q_goto gg189_232 (tg := 236) rfl ?_
            first | refine z_iadd gg189_236 ?_ | refine q_iadd gg189_236 ?_
            refine q_istore gg189_237 rfl ?_
            refine q_iload gg189_239 rfl ?_
            refine z_ifeq gg189_241 (tg := 249) rfl (by omega) (fun c3 => ?_) (fun c3 => ?_)
            · try (exfalso; omega)
              all_goals (
                refine q_iload gg189_249 rfl ?_
                refine q_istore gg189_251 rfl ?_
                refine z_iinc gg189_253 rfl rfl ?_
                refine q_goto gg189_256 (tg := 204) rfl ?_
                first
                | (have hok : fOk w b n (fun h => it (40 * ro + i + h)) y v := pI_1 (P := fTm b (fun h => it (40 * ro + i + h)) n.toNat (zup w (fP y b) v) 0) (by omega)
                   rw [fCnt_t hok, fFst_t hok, Int.add_comm 1] at hi
                   exact hi M2 _ hft2)
                | (have hok : ¬ fOk w b n (fun h => it (40 * ro + i + h)) y v := pI_0 (P := fTm b (fun h => it (40 * ro + i + h)) n.toNat (zup w (fP y b) v) 0) (by omega)
                   rw [fCnt_f hok, fFst_f hok] at hi
                   rw [Int.add_zero]
                   exact hi M2 _ hft2)
              )
            · try (exfalso; omega)
              all_goals (
                refine q_iload gg189_244 rfl ?_
                refine q_goto gg189_246 (tg := 251) rfl ?_
                refine q_istore gg189_251 rfl ?_
                refine z_iinc gg189_253 rfl rfl ?_
                refine q_goto gg189_256 (tg := 204) rfl ?_
                first
                | (have hok : fOk w b n (fun h => it (40 * ro + i + h)) y v := pI_1 (P := fTm b (fun h => it (40 * ro + i + h)) n.toNat (zup w (fP y b) v) 0) (by omega)
                   rw [fCnt_t hok, fFst_t hok, Int.add_comm 1] at hi
                   exact hi M2 _ hft2)
                | (have hok : ¬ fOk w b n (fun h => it (40 * ro + i + h)) y v := pI_0 (P := fTm b (fun h => it (40 * ro + i + h)) n.toNat (zup w (fP y b) v) 0) (by omega)
                   rw [fCnt_f hok, fFst_f hok] at hi
                   rw [Int.add_zero]
                   exact hi M2 _ hft2)
              )
          )
    refine q_aload gg189_0 rfl ?_
    refine q_iload gg189_1 rfl ?_
    refine q_call2 gg189_2 tt152 rfl (Nat.le_of_ble_eq_true rfl) (hm_rv (by decide +kernel)) (ls' := [some _, some _]) rfl rfl ?_
    refine q_iload gg152_0 rfl ?_
    refine z_const gg152_1 (v := 0) rfl ?_
    refine q_aload gg152_2 rfl ?_
    refine q_getr gg152_3 rfl ?_
    refine z_const gg152_6 (v := 2) rfl ?_
    first | (refine z_alr gg152_7 (by first | rfl | assumption) (by assumption) (by omega) (by omega) (by omega) (by decide) (fun visBasin_7 evisBasin_7 lvisBasin_7 uvisBasin_7 => ?_); try dsimp only at evisBasin_7) | (refine z_alx gg152_7 rfl (by assumption) (by omega) (by omega) (by first | omega | decide) (by decide) (fun visBasin_7 evisBasin_7 lvisBasin_7 uvisBasin_7 => ?_); try dsimp only at evisBasin_7) | refine z_alq gg152_7 rfl (by omega) (by omega) (by decide) ?_
    refine z_const gg152_8 (v := 1) rfl ?_
    first | refine z_isub gg152_9 ?_ | refine q_isub gg152_9 ?_
    refine q_call3 gg152_10 tt124 rfl (Nat.le_of_ble_eq_true rfl) rfl (ls' := [some _, some _, some _]) rfl rfl ?_
    refine q_iload gg124_0 rfl ?_
    refine q_iload gg124_1 rfl ?_
    refine z_icmplt gg124_2 (tg := 14) rfl (by omega) (by omega) (fun c1 => ?_) (fun c1 => ?_)
    · try (exfalso; omega)
      all_goals (
        refine z_const gg124_14 (v := 0) rfl ?_
        refine z_zretC gg124_15 (by omega) ?_
        refine z_zretC gg152_13 (by omega) ?_
        refine z_ifeq gg189_5 (tg := 36) rfl (by decide) (fun _ => ?_) (fun z => absurd z (by decide))
        refine z_neg gg189_36 ?_
        refine q_iret gg189_38 ?_
        exfalso
        omega
      )
    · try (exfalso; omega)
      all_goals (
        refine q_iload gg124_5 rfl ?_
        refine q_iload gg124_6 rfl ?_
        refine z_icmpgt gg124_7 (tg := 14) rfl (by omega) (by omega) (fun c2 => ?_) (fun c2 => ?_)
        · try (exfalso; omega)
          all_goals (
            refine z_const gg124_14 (v := 0) rfl ?_
            refine z_zretC gg124_15 (by omega) ?_
            refine z_zretC gg152_13 (by omega) ?_
            refine z_ifeq gg189_5 (tg := 36) rfl (by decide) (fun _ => ?_) (fun z => absurd z (by decide))
            refine z_neg gg189_36 ?_
            refine q_iret gg189_38 ?_
            exfalso
            omega
          )
        · try (exfalso; omega)
          all_goals (
            refine z_const gg124_10 (v := 1) rfl ?_
            refine q_goto gg124_11 (tg := 15) rfl ?_
            refine z_zretC gg124_15 (by omega) ?_
            refine z_zretC gg152_13 (by omega) ?_
            refine z_ifeq gg189_5 (tg := 36) rfl (by decide) (fun z => absurd z (by decide)) (fun _ => ?_)
            refine q_iload gg189_8 rfl ?_
            refine q_call1 gg189_9 tt131 rfl (Nat.le_of_ble_eq_true rfl) rfl (ls' := [some _]) rfl rfl ?_
            refine q_iload gg131_0 rfl ?_
            refine z_const gg131_1 (v := 0) rfl ?_
            refine z_const gg131_2 (v := 7) rfl ?_
            refine q_call3 gg131_4 tt124 rfl (Nat.le_of_ble_eq_true rfl) rfl (ls' := [some _, some _, some _]) rfl rfl ?_
            refine q_iload gg124_0 rfl ?_
            refine q_iload gg124_1 rfl ?_
            refine z_icmplt gg124_2 (tg := 14) rfl (by omega) (by omega) (fun c3 => ?_) (fun c3 => ?_)
            · try (exfalso; omega)
              all_goals (
                refine z_const gg124_14 (v := 0) rfl ?_
                refine z_zretC gg124_15 (by omega) ?_
                refine z_zretC gg131_7 (by omega) ?_
                refine z_ifeq gg189_12 (tg := 36) rfl (by decide) (fun _ => ?_) (fun z => absurd z (by decide))
                refine z_neg gg189_36 ?_
                refine q_iret gg189_38 ?_
                exfalso
                omega
              )
            · try (exfalso; omega)
              all_goals (
                refine q_iload gg124_5 rfl ?_
                refine q_iload gg124_6 rfl ?_
                refine z_icmpgt gg124_7 (tg := 14) rfl (by omega) (by omega) (fun c4 => ?_) (fun c4 => ?_)
                · try (exfalso; omega)
                  all_goals (
                    refine z_const gg124_14 (v := 0) rfl ?_
                    refine z_zretC gg124_15 (by omega) ?_
                    refine z_zretC gg131_7 (by omega) ?_
                    refine z_ifeq gg189_12 (tg := 36) rfl (by decide) (fun _ => ?_) (fun z => absurd z (by decide))
                    refine z_neg gg189_36 ?_
                    refine q_iret gg189_38 ?_
                    exfalso
                    omega
                  )
                · try (exfalso; omega)
                  all_goals (
                    refine z_const gg124_10 (v := 1) rfl ?_
                    refine q_goto gg124_11 (tg := 15) rfl ?_
                    refine z_zretC gg124_15 (by omega) ?_
                    refine z_zretC gg131_7 (by omega) ?_
                    refine z_ifeq gg189_12 (tg := 36) rfl (by decide) (fun z => absurd z (by decide)) (fun _ => ?_)
                    refine q_iload gg189_15 rfl ?_
                    refine z_const gg189_17 (v := 1) rfl ?_
                    refine z_const gg189_18 (v := 12) rfl ?_
                    refine q_call3 gg189_20 tt124 rfl (Nat.le_of_ble_eq_true rfl) rfl (ls' := [some _, some _, some _]) rfl rfl ?_
                    refine q_iload gg124_0 rfl ?_
                    refine q_iload gg124_1 rfl ?_
                    refine z_icmplt gg124_2 (tg := 14) rfl (by omega) (by omega) (fun c5 => ?_) (fun c5 => ?_)
                    · try (exfalso; omega)
                      all_goals (
                        refine z_const gg124_14 (v := 0) rfl ?_
                        refine z_zretC gg124_15 (by omega) ?_
                        refine z_ifeq gg189_23 (tg := 36) rfl (by decide) (fun _ => ?_) (fun z => absurd z (by decide))
                        refine z_neg gg189_36 ?_
                        refine q_iret gg189_38 ?_
                        exfalso
                        omega
                      )
                    · try (exfalso; omega)
                      all_goals (
                        refine q_iload gg124_5 rfl ?_
                        refine q_iload gg124_6 rfl ?_
                        refine z_icmpgt gg124_7 (tg := 14) rfl (by omega) (by omega) (fun c6 => ?_) (fun c6 => ?_)
                        · try (exfalso; omega)
                          all_goals (
                            refine z_const gg124_14 (v := 0) rfl ?_
                            refine z_zretC gg124_15 (by omega) ?_
                            refine z_ifeq gg189_23 (tg := 36) rfl (by decide) (fun _ => ?_) (fun z => absurd z (by decide))
                            refine z_neg gg189_36 ?_
                            refine q_iret gg189_38 ?_
                            exfalso
                            omega
                          )
                        · try (exfalso; omega)
                          all_goals (
                            refine z_const gg124_10 (v := 1) rfl ?_
                            refine q_goto gg124_11 (tg := 15) rfl ?_
                            refine z_zretC gg124_15 (by omega) ?_
                            refine z_ifeq gg189_23 (tg := 36) rfl (by decide) (fun z => absurd z (by decide)) (fun _ => ?_)
                            refine q_iload gg189_26 rfl ?_
                            refine z_const gg189_28 (v := 0) rfl ?_
                            refine z_const gg189_29 (v := 4) rfl ?_
                            refine q_call3 gg189_30 tt124 rfl (Nat.le_of_ble_eq_true rfl) rfl (ls' := [some _, some _, some _]) rfl rfl ?_
                            refine q_iload gg124_0 rfl ?_
                            refine q_iload gg124_1 rfl ?_
                            refine z_icmplt gg124_2 (tg := 14) rfl (by omega) (by omega) (fun c7 => ?_) (fun c7 => ?_)
                            · try (exfalso; omega)
                              all_goals (
                                refine z_const gg124_14 (v := 0) rfl ?_
                                refine z_zretC gg124_15 (by omega) ?_
                                refine z_ifne gg189_33 (tg := 39) rfl (by decide) (fun z => absurd z (by decide)) (fun _ => ?_)
                                refine z_neg gg189_36 ?_
                                refine q_iret gg189_38 ?_
                                exfalso
                                omega
                              )
                            · try (exfalso; omega)
                              all_goals (
                                refine q_iload gg124_5 rfl ?_
                                refine q_iload gg124_6 rfl ?_
                                refine z_icmpgt gg124_7 (tg := 14) rfl (by omega) (by omega) (fun c8 => ?_) (fun c8 => ?_)
                                · try (exfalso; omega)
                                  all_goals (
                                    refine z_const gg124_14 (v := 0) rfl ?_
                                    refine z_zretC gg124_15 (by omega) ?_
                                    refine z_ifne gg189_33 (tg := 39) rfl (by decide) (fun z => absurd z (by decide)) (fun _ => ?_)
                                    refine z_neg gg189_36 ?_
                                    refine q_iret gg189_38 ?_
                                    exfalso
                                    omega
                                  )
                                · try (exfalso; omega)
                                  all_goals (
                                    refine z_const gg124_10 (v := 1) rfl ?_
                                    refine q_goto gg124_11 (tg := 15) rfl ?_
                                    refine z_zretC gg124_15 (by omega) ?_
                                    refine z_ifne gg189_33 (tg := 39) rfl (by decide) (fun _ => ?_) (fun z => absurd z (by decide))
                                    refine q_aload gg189_39 rfl ?_
                                    refine q_iload gg189_40 rfl ?_
                                    refine q_call2 gg189_41 tt132 rfl (Nat.le_of_ble_eq_true rfl) (hm_rv (by decide +kernel)) (ls' := [some _, some _]) rfl rfl ?_
                                    refine q_aload gg132_0 rfl ?_
                                    refine q_getr gg132_1 rfl ?_
                                    refine q_iload gg132_4 rfl ?_
                                    first | (refine z_alr gg132_5 (by first | rfl | assumption) (by assumption) (by omega) (by omega) (by omega) (by decide) (fun visMissing_5 evisMissing_5 lvisMissing_5 uvisMissing_5 => ?_); try dsimp only at evisMissing_5) | (refine z_alx gg132_5 rfl (by assumption) (by omega) (by omega) (by first | omega | decide) (by decide) (fun visMissing_5 evisMissing_5 lvisMissing_5 uvisMissing_5 => ?_); try dsimp only at evisMissing_5) | refine z_alq gg132_5 rfl (by omega) (by omega) (by decide) ?_
                                    refine z_neg gg132_6 ?_
                                    refine z_icmpne gg132_8 (tg := 15) rfl (by omega) (by omega) (fun c9 => ?_) (fun c9 => ?_)
                                    · try (exfalso; omega)
                                      all_goals (
                                        refine z_const gg132_15 (v := 0) rfl ?_
                                        refine z_zretC gg132_16 (by omega) ?_
                                        refine z_ifeq gg189_44 (tg := 53) rfl (by decide) (fun _ => ?_) (fun z => absurd z (by decide))
                                        refine q_aload gg189_53 rfl ?_
                                        refine q_iload gg189_54 rfl ?_
                                        refine q_iload gg189_55 rfl ?_
                                        refine q_iload gg189_56 rfl ?_
                                        refine q_call4 gg189_58 tt136 rfl (Nat.le_of_ble_eq_true rfl) (hm_rv (by decide +kernel)) (ls' := [some _, some _, some _, some _]) rfl rfl ?_
                                        refine q_iload gg136_0 rfl ?_
                                        refine z_iflt gg136_1 (tg := 34) rfl (by omega) (fun c10 => ?_) (fun c10 => ?_)
                                        · try (exfalso; omega)
                                          all_goals (
                                            refine z_const gg136_34 (v := 0) rfl ?_
                                            refine z_zretC gg136_35 (by omega) ?_
                                            refine z_ifne gg189_61 (tg := 70) rfl (by decide) (fun z => absurd z (by decide)) (fun _ => ?_)
                                            refine q_aload gg189_64 rfl ?_
                                            refine z_const gg189_65 (v := 2) rfl ?_
                                            refine q_call2 gg189_66 tt128 rfl (Nat.le_of_ble_eq_true rfl) (hm_rv (by decide +kernel)) (ls' := [some _, some _]) rfl rfl ?_
                                            refine q_aload gg128_0 rfl ?_
                                            refine q_iload gg128_1 rfl ?_
                                            refine q_putf gg128_2 rfl ?_
                                            refine z_neg gg128_5 ?_
                                            refine q_iload gg128_7 rfl ?_
                                            first | refine z_isub gg128_8 ?_ | refine q_isub gg128_8 ?_
                                            refine q_iretC gg128_9 ?_
                                            refine q_iret gg189_69 ?_
                                            rw [if_neg (by omega), if_neg (by omega)] at hC
                                            have := kk _ (F30.up (M := M) (x := zI 2) FR.rf) (by rw [hC]; exact up_at)
                                            rw [fitA_e hC (by decide) (by decide)] at this
                                            exact this
                                          )
                                        · try (exfalso; omega)
                                          all_goals (
                                            refine q_iload gg136_4 rfl ?_
                                            refine z_iflt gg136_5 (tg := 34) rfl (by omega) (fun c11 => ?_) (fun c11 => ?_)
                                            · try (exfalso; omega)
                                              all_goals (
                                                refine z_const gg136_34 (v := 0) rfl ?_
                                                refine z_zretC gg136_35 (by omega) ?_
                                                refine z_ifne gg189_61 (tg := 70) rfl (by decide) (fun z => absurd z (by decide)) (fun _ => ?_)
                                                refine q_aload gg189_64 rfl ?_
                                                refine z_const gg189_65 (v := 2) rfl ?_
                                                refine q_call2 gg189_66 tt128 rfl (Nat.le_of_ble_eq_true rfl) (hm_rv (by decide +kernel)) (ls' := [some _, some _]) rfl rfl ?_
                                                refine q_aload gg128_0 rfl ?_
                                                refine q_iload gg128_1 rfl ?_
                                                refine q_putf gg128_2 rfl ?_
                                                refine z_neg gg128_5 ?_
                                                refine q_iload gg128_7 rfl ?_
                                                first | refine z_isub gg128_8 ?_ | refine q_isub gg128_8 ?_
                                                refine q_iretC gg128_9 ?_
                                                refine q_iret gg189_69 ?_
                                                rw [if_neg (by omega), if_neg (by omega)] at hC
                                                have := kk _ (F30.up (M := M) (x := zI 2) FR.rf) (by rw [hC]; exact up_at)
                                                rw [fitA_e hC (by decide) (by decide)] at this
                                                exact this
                                              )
                                            · try (exfalso; omega)
                                              all_goals (
                                                refine q_iload gg136_8 rfl ?_
                                                refine q_aload gg136_9 rfl ?_
                                                refine q_getr gg136_10 rfl ?_
                                                refine q_iload gg136_13 rfl ?_
                                                first | (refine z_alr gg136_14 (by first | rfl | assumption) (by assumption) (by omega) (by omega) (by omega) (by decide) (fun visPart_14 evisPart_14 lvisPart_14 uvisPart_14 => ?_); try dsimp only at evisPart_14) | (refine z_alx gg136_14 rfl (by assumption) (by omega) (by omega) (by first | omega | decide) (by decide) (fun visPart_14 evisPart_14 lvisPart_14 uvisPart_14 => ?_); try dsimp only at evisPart_14) | refine z_alq gg136_14 rfl (by omega) (by omega) (by decide) ?_
                                                refine z_icmpgt gg136_15 (tg := 34) rfl (by omega) (by omega) (fun c12 => ?_) (fun c12 => ?_)
                                                · try (exfalso; omega)
                                                  all_goals (
                                                    refine z_const gg136_34 (v := 0) rfl ?_
                                                    refine z_zretC gg136_35 (by omega) ?_
                                                    refine z_ifne gg189_61 (tg := 70) rfl (by decide) (fun z => absurd z (by decide)) (fun _ => ?_)
                                                    refine q_aload gg189_64 rfl ?_
                                                    refine z_const gg189_65 (v := 2) rfl ?_
                                                    refine q_call2 gg189_66 tt128 rfl (Nat.le_of_ble_eq_true rfl) (hm_rv (by decide +kernel)) (ls' := [some _, some _]) rfl rfl ?_
                                                    refine q_aload gg128_0 rfl ?_
                                                    refine q_iload gg128_1 rfl ?_
                                                    refine q_putf gg128_2 rfl ?_
                                                    refine z_neg gg128_5 ?_
                                                    refine q_iload gg128_7 rfl ?_
                                                    first | refine z_isub gg128_8 ?_ | refine q_isub gg128_8 ?_
                                                    refine q_iretC gg128_9 ?_
                                                    refine q_iret gg189_69 ?_
                                                    rw [if_neg (by omega), if_neg (by omega)] at hC
                                                    have := kk _ (F30.up (M := M) (x := zI 2) FR.rf) (by rw [hC]; exact up_at)
                                                    rw [fitA_e hC (by decide) (by decide)] at this
                                                    exact this
                                                  )
                                                · try (exfalso; omega)
                                                  all_goals (
                                                    refine q_iload gg136_18 rfl ?_
                                                    refine q_aload gg136_19 rfl ?_
                                                    refine q_getr gg136_20 rfl ?_
                                                    refine q_iload gg136_23 rfl ?_
                                                    first | (refine z_alr gg136_24 (by first | rfl | assumption) (by assumption) (by omega) (by omega) (by omega) (by decide) (fun visPart_24 evisPart_24 lvisPart_24 uvisPart_24 => ?_); try dsimp only at evisPart_24) | (refine z_alx gg136_24 rfl (by assumption) (by omega) (by omega) (by first | omega | decide) (by decide) (fun visPart_24 evisPart_24 lvisPart_24 uvisPart_24 => ?_); try dsimp only at evisPart_24) | refine z_alq gg136_24 rfl (by omega) (by omega) (by decide) ?_
                                                    refine q_iload gg136_25 rfl ?_
                                                    first | refine z_isub gg136_26 ?_ | refine q_isub gg136_26 ?_
                                                    refine z_icmpgt gg136_27 (tg := 34) rfl (by omega) (by omega) (fun c13 => ?_) (fun c13 => ?_)
                                                    · try (exfalso; omega)
                                                      all_goals (
                                                        refine z_const gg136_34 (v := 0) rfl ?_
                                                        refine z_zretC gg136_35 (by omega) ?_
                                                        refine z_ifne gg189_61 (tg := 70) rfl (by decide) (fun z => absurd z (by decide)) (fun _ => ?_)
                                                        refine q_aload gg189_64 rfl ?_
                                                        refine z_const gg189_65 (v := 2) rfl ?_
                                                        refine q_call2 gg189_66 tt128 rfl (Nat.le_of_ble_eq_true rfl) (hm_rv (by decide +kernel)) (ls' := [some _, some _]) rfl rfl ?_
                                                        refine q_aload gg128_0 rfl ?_
                                                        refine q_iload gg128_1 rfl ?_
                                                        refine q_putf gg128_2 rfl ?_
                                                        refine z_neg gg128_5 ?_
                                                        refine q_iload gg128_7 rfl ?_
                                                        first | refine z_isub gg128_8 ?_ | refine q_isub gg128_8 ?_
                                                        refine q_iretC gg128_9 ?_
                                                        refine q_iret gg189_69 ?_
                                                        rw [if_neg (by omega), if_neg (by omega)] at hC
                                                        have := kk _ (F30.up (M := M) (x := zI 2) FR.rf) (by rw [hC]; exact up_at)
                                                        rw [fitA_e hC (by decide) (by decide)] at this
                                                        exact this
                                                      )
                                                    · try (exfalso; omega)
                                                      all_goals (
                                                        refine z_const gg136_30 (v := 1) rfl ?_
                                                        refine q_goto gg136_31 (tg := 35) rfl ?_
                                                        refine z_zretC gg136_35 (by omega) ?_
                                                        refine z_ifne gg189_61 (tg := 70) rfl (by decide) (fun _ => ?_) (fun z => absurd z (by decide))
                                                        refine z_const gg189_70 (v := 40) rfl ?_
                                                        refine q_iload gg189_72 rfl ?_
                                                        first | refine z_imul gg189_73 ?_ | refine q_imul gg189_73 ?_
                                                        refine q_iload gg189_74 rfl ?_
                                                        first | refine z_iadd gg189_75 ?_ | refine q_iadd gg189_75 ?_
                                                        refine q_istore gg189_76 rfl ?_
                                                        refine z_const gg189_78 (v := 4) rfl ?_
                                                        refine z_const gg189_79 (v := 7) rfl ?_
                                                        refine q_iload gg189_81 rfl ?_
                                                        first | refine z_imul gg189_82 ?_ | refine q_imul gg189_82 ?_
                                                        first | refine z_iadd gg189_83 ?_ | refine q_iadd gg189_83 ?_
                                                        refine q_istore gg189_84 rfl ?_
                                                        refine z_const gg189_86 (v := 0) rfl ?_
                                                        refine q_istore gg189_87 rfl ?_
                                                        refine z_const gg189_89 (v := 0) rfl ?_
                                                        refine q_istore gg189_90 rfl ?_
                                                        refine z_neg gg189_92 ?_
                                                        refine q_istore gg189_94 rfl ?_
                                                        refine q_iload gg189_96 rfl ?_
                                                        refine z_const gg189_98 (v := 3) rfl ?_
                                                        refine z_icmpge gg189_99 (tg := 200) rfl (by omega) (by omega) (fun c14 => ?_) (fun c14 => ?_)
                                                        · try (exfalso; omega)
                                                          all_goals (
                                                            refine z_const gg189_200 (v := 60) rfl ?_
                                                            refine q_istore gg189_202 rfl ?_
                                                            exact L2 ⟨by omega, by omega, by omega⟩ (by omega) 56 0 60 M none (by decide) (by decide) FR.rf
                                                          )
                                                        · try (exfalso; omega)
                                                          all_goals (
                                                            refine q_iload gg189_102 rfl ?_
                                                            refine z_ifne gg189_104 (tg := 111) rfl (by omega) (fun c15 => ?_) (fun c15 => ?_)
                                                            · try (exfalso; omega)
                                                              all_goals (
                                                                refine q_iload gg189_111 rfl ?_
                                                                refine z_const gg189_113 (v := 1) rfl ?_
                                                                refine z_icmpne gg189_114 (tg := 122) rfl (by omega) (by omega) (fun c16 => ?_) (fun c16 => ?_)
                                                                · try (exfalso; omega)
                                                                  all_goals (
                                                                    refine z_const gg189_122 (v := 9) rfl ?_
                                                                    refine q_istore gg189_124 rfl ?_
                                                                    refine q_iload gg189_126 rfl ?_
                                                                    refine z_ifne gg189_128 (tg := 135) rfl (by omega) (fun c17 => ?_) (fun c17 => ?_)
                                                                    · try (exfalso; omega)
                                                                      all_goals (
                                                                        refine z_const gg189_135 (v := 0) rfl ?_
                                                                        refine q_istore gg189_136 rfl ?_
                                                                        have hy012 : y = 0 ∨ y = 1 ∨ y = 2 := by omega
                                                                        have := L1 ⟨by omega, by omega, by omega⟩ (by omega) (fM y) (fLo y) (zI 0) M (Int.le_refl _) (by have := fLH hy0 hy1; unfold fM; omega) FR.rf rfl
                                                                        rcases hy012 with rfl | rfl | rfl <;> first | exact this | (exfalso; omega)
                                                                      )
                                                                    · try (exfalso; omega)
                                                                      all_goals (
                                                                        refine z_const gg189_131 (v := 1) rfl ?_
                                                                        refine q_goto gg189_132 (tg := 136) rfl ?_
                                                                        refine q_istore gg189_136 rfl ?_
                                                                        have hy012 : y = 0 ∨ y = 1 ∨ y = 2 := by omega
                                                                        have := L1 ⟨by omega, by omega, by omega⟩ (by omega) (fM y) (fLo y) (zI 0) M (Int.le_refl _) (by have := fLH hy0 hy1; unfold fM; omega) FR.rf rfl
                                                                        rcases hy012 with rfl | rfl | rfl <;> first | exact this | (exfalso; omega)
                                                                      )
                                                                  )
                                                                · try (exfalso; omega)
                                                                  all_goals (
                                                                    refine z_const gg189_117 (v := 20) rfl ?_
                                                                    refine q_goto gg189_119 (tg := 124) rfl ?_
                                                                    refine q_istore gg189_124 rfl ?_
                                                                    refine q_iload gg189_126 rfl ?_
                                                                    refine z_ifne gg189_128 (tg := 135) rfl (by omega) (fun c17 => ?_) (fun c17 => ?_)
                                                                    · try (exfalso; omega)
                                                                      all_goals (
                                                                        refine z_const gg189_135 (v := 0) rfl ?_
                                                                        refine q_istore gg189_136 rfl ?_
                                                                        have hy012 : y = 0 ∨ y = 1 ∨ y = 2 := by omega
                                                                        have := L1 ⟨by omega, by omega, by omega⟩ (by omega) (fM y) (fLo y) (zI 0) M (Int.le_refl _) (by have := fLH hy0 hy1; unfold fM; omega) FR.rf rfl
                                                                        rcases hy012 with rfl | rfl | rfl <;> first | exact this | (exfalso; omega)
                                                                      )
                                                                    · try (exfalso; omega)
                                                                      all_goals (
                                                                        refine z_const gg189_131 (v := 1) rfl ?_
                                                                        refine q_goto gg189_132 (tg := 136) rfl ?_
                                                                        refine q_istore gg189_136 rfl ?_
                                                                        have hy012 : y = 0 ∨ y = 1 ∨ y = 2 := by omega
                                                                        have := L1 ⟨by omega, by omega, by omega⟩ (by omega) (fM y) (fLo y) (zI 0) M (Int.le_refl _) (by have := fLH hy0 hy1; unfold fM; omega) FR.rf rfl
                                                                        rcases hy012 with rfl | rfl | rfl <;> first | exact this | (exfalso; omega)
                                                                      )
                                                                  )
                                                              )
                                                            · try (exfalso; omega)
                                                              all_goals (
                                                                refine z_const gg189_107 (v := 5) rfl ?_
                                                                refine q_goto gg189_108 (tg := 124) rfl ?_
                                                                refine q_istore gg189_124 rfl ?_
                                                                refine q_iload gg189_126 rfl ?_
                                                                refine z_ifne gg189_128 (tg := 135) rfl (by omega) (fun c16 => ?_) (fun c16 => ?_)
                                                                · try (exfalso; omega)
                                                                  all_goals (
                                                                    refine z_const gg189_135 (v := 0) rfl ?_
                                                                    refine q_istore gg189_136 rfl ?_
                                                                    have hy012 : y = 0 ∨ y = 1 ∨ y = 2 := by omega
                                                                    have := L1 ⟨by omega, by omega, by omega⟩ (by omega) (fM y) (fLo y) (zI 0) M (Int.le_refl _) (by have := fLH hy0 hy1; unfold fM; omega) FR.rf rfl
                                                                    rcases hy012 with rfl | rfl | rfl <;> first | exact this | (exfalso; omega)
                                                                  )
                                                                · try (exfalso; omega)
                                                                  all_goals (
                                                                    refine z_const gg189_131 (v := 1) rfl ?_
                                                                    refine q_goto gg189_132 (tg := 136) rfl ?_
                                                                    refine q_istore gg189_136 rfl ?_
                                                                    have hy012 : y = 0 ∨ y = 1 ∨ y = 2 := by omega
                                                                    have := L1 ⟨by omega, by omega, by omega⟩ (by omega) (fM y) (fLo y) (zI 0) M (Int.le_refl _) (by have := fLH hy0 hy1; unfold fM; omega) FR.rf rfl
                                                                    rcases hy012 with rfl | rfl | rfl <;> first | exact this | (exfalso; omega)
                                                                  )
                                                              )
                                                          )
                                                      )
                                                  )
                                              )
                                          )
                                      )
                                    · try (exfalso; omega)
                                      all_goals (
                                        refine z_const gg132_11 (v := 1) rfl ?_
                                        refine q_goto gg132_12 (tg := 16) rfl ?_
                                        refine z_zretC gg132_16 (by omega) ?_
                                        refine z_ifeq gg189_44 (tg := 53) rfl (by decide) (fun z => absurd z (by decide)) (fun _ => ?_)
                                        refine q_aload gg189_47 rfl ?_
                                        refine z_const gg189_48 (v := 1) rfl ?_
                                        refine q_call2 gg189_49 tt128 rfl (Nat.le_of_ble_eq_true rfl) (hm_rv (by decide +kernel)) (ls' := [some _, some _]) rfl rfl ?_
                                        refine q_aload gg128_0 rfl ?_
                                        refine q_iload gg128_1 rfl ?_
                                        refine q_putf gg128_2 rfl ?_
                                        refine z_neg gg128_5 ?_
                                        refine q_iload gg128_7 rfl ?_
                                        first | refine z_isub gg128_8 ?_ | refine q_isub gg128_8 ?_
                                        refine q_iretC gg128_9 ?_
                                        refine q_iret gg189_52 ?_
                                        rw [if_pos (by omega)] at hC
                                        have := kk _ (F30.up (M := M) (x := zI 1) FR.rf) (by rw [hC]; exact up_at)
                                        rw [fitA_e hC (by decide) (by decide)] at this
                                        exact this
                                      )
                                  )
                              )
                          )
                      )
                  )
              )
          )
      )
  · rw [if_neg hin] at hC
    have kq := kk M FR.rf.f30 (by rw [hC]; exact h0)
    rw [fitA_9 hC] at kq
    refine q_aload gg189_0 rfl ?_
    refine q_iload gg189_1 rfl ?_
    refine q_call2 gg189_2 tt152 rfl (Nat.le_of_ble_eq_true rfl) (hm_rv (by decide +kernel)) (ls' := [some _, some _]) rfl rfl ?_
    refine q_iload gg152_0 rfl ?_
    refine z_const gg152_1 (v := 0) rfl ?_
    refine q_aload gg152_2 rfl ?_
    refine q_getr gg152_3 rfl ?_
    refine z_const gg152_6 (v := 2) rfl ?_
    first | (refine z_alr gg152_7 (by first | rfl | assumption) (by assumption) (by omega) (by omega) (by omega) (by decide) (fun visBasin_7 evisBasin_7 lvisBasin_7 uvisBasin_7 => ?_); try dsimp only at evisBasin_7) | (refine z_alx gg152_7 rfl (by assumption) (by omega) (by omega) (by first | omega | decide) (by decide) (fun visBasin_7 evisBasin_7 lvisBasin_7 uvisBasin_7 => ?_); try dsimp only at evisBasin_7) | refine z_alq gg152_7 rfl (by omega) (by omega) (by decide) ?_
    refine z_const gg152_8 (v := 1) rfl ?_
    first | refine z_isub gg152_9 ?_ | refine q_isub gg152_9 ?_
    refine q_call3 gg152_10 tt124 rfl (Nat.le_of_ble_eq_true rfl) rfl (ls' := [some _, some _, some _]) rfl rfl ?_
    refine q_iload gg124_0 rfl ?_
    refine q_iload gg124_1 rfl ?_
    refine z_icmplt gg124_2 (tg := 14) rfl (by omega) (by omega) (fun c1 => ?_) (fun c1 => ?_)
    · try (exfalso; omega)
      all_goals (
        refine z_const gg124_14 (v := 0) rfl ?_
        refine z_zretC gg124_15 (by omega) ?_
        refine z_zretC gg152_13 (by omega) ?_
        refine z_ifeq gg189_5 (tg := 36) rfl (by decide) (fun _ => ?_) (fun z => absurd z (by decide))
        refine z_neg gg189_36 ?_
        refine q_iret gg189_38 ?_
        exact kq
      )
    · try (exfalso; omega)
      all_goals (
        refine q_iload gg124_5 rfl ?_
        refine q_iload gg124_6 rfl ?_
        refine z_icmpgt gg124_7 (tg := 14) rfl (by omega) (by omega) (fun c2 => ?_) (fun c2 => ?_)
        · try (exfalso; omega)
          all_goals (
            refine z_const gg124_14 (v := 0) rfl ?_
            refine z_zretC gg124_15 (by omega) ?_
            refine z_zretC gg152_13 (by omega) ?_
            refine z_ifeq gg189_5 (tg := 36) rfl (by decide) (fun _ => ?_) (fun z => absurd z (by decide))
            refine z_neg gg189_36 ?_
            refine q_iret gg189_38 ?_
            exact kq
          )
        · try (exfalso; omega)
          all_goals (
            refine z_const gg124_10 (v := 1) rfl ?_
            refine q_goto gg124_11 (tg := 15) rfl ?_
            refine z_zretC gg124_15 (by omega) ?_
            refine z_zretC gg152_13 (by omega) ?_
            refine z_ifeq gg189_5 (tg := 36) rfl (by decide) (fun z => absurd z (by decide)) (fun _ => ?_)
            refine q_iload gg189_8 rfl ?_
            refine q_call1 gg189_9 tt131 rfl (Nat.le_of_ble_eq_true rfl) rfl (ls' := [some _]) rfl rfl ?_
            refine q_iload gg131_0 rfl ?_
            refine z_const gg131_1 (v := 0) rfl ?_
            refine z_const gg131_2 (v := 7) rfl ?_
            refine q_call3 gg131_4 tt124 rfl (Nat.le_of_ble_eq_true rfl) rfl (ls' := [some _, some _, some _]) rfl rfl ?_
            refine q_iload gg124_0 rfl ?_
            refine q_iload gg124_1 rfl ?_
            refine z_icmplt gg124_2 (tg := 14) rfl (by omega) (by omega) (fun c3 => ?_) (fun c3 => ?_)
            · try (exfalso; omega)
              all_goals (
                refine z_const gg124_14 (v := 0) rfl ?_
                refine z_zretC gg124_15 (by omega) ?_
                refine z_zretC gg131_7 (by omega) ?_
                refine z_ifeq gg189_12 (tg := 36) rfl (by decide) (fun _ => ?_) (fun z => absurd z (by decide))
                refine z_neg gg189_36 ?_
                refine q_iret gg189_38 ?_
                exact kq
              )
            · try (exfalso; omega)
              all_goals (
                refine q_iload gg124_5 rfl ?_
                refine q_iload gg124_6 rfl ?_
                refine z_icmpgt gg124_7 (tg := 14) rfl (by omega) (by omega) (fun c4 => ?_) (fun c4 => ?_)
                · try (exfalso; omega)
                  all_goals (
                    refine z_const gg124_14 (v := 0) rfl ?_
                    refine z_zretC gg124_15 (by omega) ?_
                    refine z_zretC gg131_7 (by omega) ?_
                    refine z_ifeq gg189_12 (tg := 36) rfl (by decide) (fun _ => ?_) (fun z => absurd z (by decide))
                    refine z_neg gg189_36 ?_
                    refine q_iret gg189_38 ?_
                    exact kq
                  )
                · try (exfalso; omega)
                  all_goals (
                    refine z_const gg124_10 (v := 1) rfl ?_
                    refine q_goto gg124_11 (tg := 15) rfl ?_
                    refine z_zretC gg124_15 (by omega) ?_
                    refine z_zretC gg131_7 (by omega) ?_
                    refine z_ifeq gg189_12 (tg := 36) rfl (by decide) (fun z => absurd z (by decide)) (fun _ => ?_)
                    refine q_iload gg189_15 rfl ?_
                    refine z_const gg189_17 (v := 1) rfl ?_
                    refine z_const gg189_18 (v := 12) rfl ?_
                    refine q_call3 gg189_20 tt124 rfl (Nat.le_of_ble_eq_true rfl) rfl (ls' := [some _, some _, some _]) rfl rfl ?_
                    refine q_iload gg124_0 rfl ?_
                    refine q_iload gg124_1 rfl ?_
                    refine z_icmplt gg124_2 (tg := 14) rfl (by omega) (by omega) (fun c5 => ?_) (fun c5 => ?_)
                    · try (exfalso; omega)
                      all_goals (
                        refine z_const gg124_14 (v := 0) rfl ?_
                        refine z_zretC gg124_15 (by omega) ?_
                        refine z_ifeq gg189_23 (tg := 36) rfl (by decide) (fun _ => ?_) (fun z => absurd z (by decide))
                        refine z_neg gg189_36 ?_
                        refine q_iret gg189_38 ?_
                        exact kq
                      )
                    · try (exfalso; omega)
                      all_goals (
                        refine q_iload gg124_5 rfl ?_
                        refine q_iload gg124_6 rfl ?_
                        refine z_icmpgt gg124_7 (tg := 14) rfl (by omega) (by omega) (fun c6 => ?_) (fun c6 => ?_)
                        · try (exfalso; omega)
                          all_goals (
                            refine z_const gg124_14 (v := 0) rfl ?_
                            refine z_zretC gg124_15 (by omega) ?_
                            refine z_ifeq gg189_23 (tg := 36) rfl (by decide) (fun _ => ?_) (fun z => absurd z (by decide))
                            refine z_neg gg189_36 ?_
                            refine q_iret gg189_38 ?_
                            exact kq
                          )
                        · try (exfalso; omega)
                          all_goals (
                            refine z_const gg124_10 (v := 1) rfl ?_
                            refine q_goto gg124_11 (tg := 15) rfl ?_
                            refine z_zretC gg124_15 (by omega) ?_
                            refine z_ifeq gg189_23 (tg := 36) rfl (by decide) (fun z => absurd z (by decide)) (fun _ => ?_)
                            refine q_iload gg189_26 rfl ?_
                            refine z_const gg189_28 (v := 0) rfl ?_
                            refine z_const gg189_29 (v := 4) rfl ?_
                            refine q_call3 gg189_30 tt124 rfl (Nat.le_of_ble_eq_true rfl) rfl (ls' := [some _, some _, some _]) rfl rfl ?_
                            refine q_iload gg124_0 rfl ?_
                            refine q_iload gg124_1 rfl ?_
                            refine z_icmplt gg124_2 (tg := 14) rfl (by omega) (by omega) (fun c7 => ?_) (fun c7 => ?_)
                            · try (exfalso; omega)
                              all_goals (
                                refine z_const gg124_14 (v := 0) rfl ?_
                                refine z_zretC gg124_15 (by omega) ?_
                                refine z_ifne gg189_33 (tg := 39) rfl (by decide) (fun z => absurd z (by decide)) (fun _ => ?_)
                                refine z_neg gg189_36 ?_
                                refine q_iret gg189_38 ?_
                                exact kq
                              )
                            · try (exfalso; omega)
                              all_goals (
                                refine q_iload gg124_5 rfl ?_
                                refine q_iload gg124_6 rfl ?_
                                refine z_icmpgt gg124_7 (tg := 14) rfl (by omega) (by omega) (fun c8 => ?_) (fun c8 => ?_)
                                · try (exfalso; omega)
                                  all_goals (
                                    refine z_const gg124_14 (v := 0) rfl ?_
                                    refine z_zretC gg124_15 (by omega) ?_
                                    refine z_ifne gg189_33 (tg := 39) rfl (by decide) (fun z => absurd z (by decide)) (fun _ => ?_)
                                    refine z_neg gg189_36 ?_
                                    refine q_iret gg189_38 ?_
                                    exact kq
                                  )
                                · try (exfalso; omega)
                                  all_goals (
                                    refine z_const gg124_10 (v := 1) rfl ?_
                                    refine q_goto gg124_11 (tg := 15) rfl ?_
                                    refine z_zretC gg124_15 (by omega) ?_
                                    refine z_ifne gg189_33 (tg := 39) rfl (by decide) (fun _ => ?_) (fun z => absurd z (by decide))
                                    exfalso
                                    omega
                                  )
                              )
                          )
                      )
                  )
              )
          )
      )
end F12
