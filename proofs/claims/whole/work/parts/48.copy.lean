section W4
variable {d r mid pc nx k dd : Nat} {M N : hm_M} {w g ln lg it tp : Int → Int} {b n e x a s y c q i j p st ro la v tl fk : Int} {f F : Nat → Int32} {Q : Option hm_V → hm_M → Prop}
def copyC (ln lg : Int → Int) (a i b j n : Int) : Int := if 0 ≤ a ∧ a ≤ 7 ∧ 0 ≤ b ∧ b ≤ 7 then (if ln a = -1000000 ∨ ln b = -1000000 then 1 else if ln a ≠ ln b then 5 else if 0 ≤ i ∧ 0 ≤ n ∧ i + n ≤ lg a ∧ 0 ≤ j ∧ j + n ≤ lg b then 0 else 2) else 9
def itC (it : Int → Int) (a i b j n : Int) : Int → Int := fun k => if 40 * b + j ≤ k ∧ k < 40 * b + j + n then it (40 * a + i + (k - (40 * b + j))) else it k
theorem RW_copy (h : RW ln lg it) : RW ln lg (itC it a i b j n) := by
  refine ⟨h.1, h.2.1, fun k => ?_⟩
  unfold itC; split <;> exact h.2.2 _
theorem c_copy (ha : zR a) (hi : zR i) (hb : zR b) (hj : zR j) (hn : zR n) (h0 : M 0 8 = zI st) (hR : RC M ln lg it) (hW : RW ln lg it) (k0 : copyC ln lg a i b j n ≠ 0 → ∀ M', FC0 M M' → M' 0 8 = zI (nSt st (copyC ln lg a i b j n)) → Q (some (.inl (zI (cAns (copyC ln lg a i b j n) n)))) M') (k1 : copyC ln lg a i b j n = 0 → ∀ M', RC M' ln lg (itC it a i b j n) → FW M M' → M' 0 8 = zI 0 → Q (some (.inl (zI (cAns (copyC ln lg a i b j n) n)))) M') : hm_Wp (d + 6) 86 0 [some (.inr (.inr 0)), some (.inl (zI a)), some (.inl (zI i)), some (.inl (zI b)), some (.inl (zI j)), some (.inl (zI n))] [] M Q := by
  obtain ⟨r2, r3, r4⟩ := hR
  unfold zR at ha hi hb hj hn
  have hC : copyC ln lg a i b j n = if 0 ≤ a ∧ a ≤ 7 ∧ 0 ≤ b ∧ b ≤ 7 then (if ln a = -1000000 ∨ ln b = -1000000 then 1 else if ln a ≠ ln b then 5 else if 0 ≤ i ∧ 0 ≤ n ∧ i + n ≤ lg a ∧ 0 ≤ j ∧ j + n ≤ lg b then 0 else 2) else 9 := rfl
  by_cases hin : 0 ≤ a ∧ a ≤ 7 ∧ 0 ≤ b ∧ b ≤ 7
  · rw [if_pos hin] at hC
    obtain ⟨a0, a1, b0, b1⟩ := hin
    have wa := hW.1 a a0 (by omega)
    have wb := hW.1 b b0 (by omega)
    have la := hW.2.1 a a0 (by omega)
    have lb := hW.2.1 b b0 (by omega)
    generalize hLa : (if ln a = -1000000 then -1 else ln a) = La
    generalize hLb : (if ln b = -1000000 then -1 else ln b) = Lb
    have fa : (La = -1 ↔ ln a = -1000000) ∧ (La ≠ -1 → La = ln a) ∧ -1 ≤ La ∧ La ≤ 2 := by rw [← hLa]; split <;> omega
    have fb : (Lb = -1 ↔ ln b = -1000000) ∧ (Lb ≠ -1 → Lb = ln b) ∧ -1 ≤ Lb ∧ Lb ≤ 2 := by rw [← hLb]; split <;> omega
    refine q_iload gg86_0 rfl ?_
    refine q_call1 gg86_1 tt57 rfl (Nat.le_of_ble_eq_true rfl) rfl (ls' := [some _]) rfl rfl ?_
    refine q_iload gg57_0 rfl ?_
    refine z_iflt gg57_1 (tg := 14) rfl (by omega) (fun c1 => ?_) (fun c1 => ?_)
    · try (exfalso; omega)
      all_goals (
        refine z_const gg57_14 (v := 0) rfl ?_
        refine z_zretC gg57_15 (by omega) ?_
        refine z_ifeq gg86_4 (tg := 14) rfl (by decide) (fun _ => ?_) (fun z => absurd z (by decide))
        refine z_neg gg86_14 ?_
        refine q_iret gg86_16 ?_
        exfalso
        omega
      )
    · try (exfalso; omega)
      all_goals (
        refine q_iload gg57_4 rfl ?_
        refine z_const gg57_5 (v := 8) rfl ?_
        refine z_icmpge gg57_7 (tg := 14) rfl (by omega) (by omega) (fun c2 => ?_) (fun c2 => ?_)
        · try (exfalso; omega)
          all_goals (
            refine z_const gg57_14 (v := 0) rfl ?_
            refine z_zretC gg57_15 (by omega) ?_
            refine z_ifeq gg86_4 (tg := 14) rfl (by decide) (fun _ => ?_) (fun z => absurd z (by decide))
            refine z_neg gg86_14 ?_
            refine q_iret gg86_16 ?_
            exfalso
            omega
          )
        · try (exfalso; omega)
          all_goals (
            refine z_const gg57_10 (v := 1) rfl ?_
            refine q_goto gg57_11 (tg := 15) rfl ?_
            refine z_zretC gg57_15 (by omega) ?_
            refine z_ifeq gg86_4 (tg := 14) rfl (by decide) (fun z => absurd z (by decide)) (fun _ => ?_)
            refine q_iload gg86_7 rfl ?_
            refine q_call1 gg86_8 tt57 rfl (Nat.le_of_ble_eq_true rfl) rfl (ls' := [some _]) rfl rfl ?_
            refine q_iload gg57_0 rfl ?_
            refine z_iflt gg57_1 (tg := 14) rfl (by omega) (fun c3 => ?_) (fun c3 => ?_)
            · try (exfalso; omega)
              all_goals (
                refine z_const gg57_14 (v := 0) rfl ?_
                refine z_zretC gg57_15 (by omega) ?_
                refine z_ifne gg86_11 (tg := 17) rfl (by decide) (fun z => absurd z (by decide)) (fun _ => ?_)
                refine z_neg gg86_14 ?_
                refine q_iret gg86_16 ?_
                exfalso
                omega
              )
            · try (exfalso; omega)
              all_goals (
                refine q_iload gg57_4 rfl ?_
                refine z_const gg57_5 (v := 8) rfl ?_
                refine z_icmpge gg57_7 (tg := 14) rfl (by omega) (by omega) (fun c4 => ?_) (fun c4 => ?_)
                · try (exfalso; omega)
                  all_goals (
                    refine z_const gg57_14 (v := 0) rfl ?_
                    refine z_zretC gg57_15 (by omega) ?_
                    refine z_ifne gg86_11 (tg := 17) rfl (by decide) (fun z => absurd z (by decide)) (fun _ => ?_)
                    refine z_neg gg86_14 ?_
                    refine q_iret gg86_16 ?_
                    exfalso
                    omega
                  )
                · try (exfalso; omega)
                  all_goals (
                    refine z_const gg57_10 (v := 1) rfl ?_
                    refine q_goto gg57_11 (tg := 15) rfl ?_
                    refine z_zretC gg57_15 (by omega) ?_
                    refine z_ifne gg86_11 (tg := 17) rfl (by decide) (fun _ => ?_) (fun z => absurd z (by decide))
                    refine q_aload gg86_17 rfl ?_
                    refine q_getr gg86_18 rfl ?_
                    refine q_iload gg86_21 rfl ?_
                    refine q_call2 gg86_22 tt59 rfl (Nat.le_of_ble_eq_true rfl) (hm_rv (by decide +kernel)) (ls' := [some _, some _]) rfl rfl ?_
                    refine q_aload gg59_0 rfl ?_
                    refine q_getr gg59_1 rfl ?_
                    refine q_iload gg59_4 rfl ?_
                    first | (refine z_alr gg59_5 (by first | rfl | assumption) (by assumption) (by omega) (by omega) (by omega) (by decide) (fun visMissing_5 evisMissing_5 lvisMissing_5 uvisMissing_5 => ?_); try dsimp only at evisMissing_5) | (refine z_alx gg59_5 rfl (by assumption) (by omega) (by omega) (by first | omega | decide) (by decide) (fun visMissing_5 evisMissing_5 lvisMissing_5 uvisMissing_5 => ?_); try dsimp only at evisMissing_5) | refine z_alq gg59_5 rfl (by omega) (by omega) (by decide) ?_
                    refine z_neg gg59_6 ?_
                    refine z_icmpne gg59_7 (tg := 14) rfl (by omega) (by omega) (fun c5 => ?_) (fun c5 => ?_)
                    · try (exfalso; omega)
                      all_goals (
                        refine z_const gg59_14 (v := 0) rfl ?_
                        refine z_zretC gg59_15 (by omega) ?_
                        refine z_ifne gg86_25 (tg := 39) rfl (by decide) (fun z => absurd z (by decide)) (fun _ => ?_)
                        refine q_aload gg86_28 rfl ?_
                        refine q_getr gg86_29 rfl ?_
                        refine q_iload gg86_32 rfl ?_
                        refine q_call2 gg86_33 tt59 rfl (Nat.le_of_ble_eq_true rfl) (hm_rv (by decide +kernel)) (ls' := [some _, some _]) rfl rfl ?_
                        refine q_aload gg59_0 rfl ?_
                        refine q_getr gg59_1 rfl ?_
                        refine q_iload gg59_4 rfl ?_
                        first | (refine z_alr gg59_5 (by first | rfl | assumption) (by assumption) (by omega) (by omega) (by omega) (by decide) (fun visMissing_5 evisMissing_5 lvisMissing_5 uvisMissing_5 => ?_); try dsimp only at evisMissing_5) | (refine z_alx gg59_5 rfl (by assumption) (by omega) (by omega) (by first | omega | decide) (by decide) (fun visMissing_5 evisMissing_5 lvisMissing_5 uvisMissing_5 => ?_); try dsimp only at evisMissing_5) | refine z_alq gg59_5 rfl (by omega) (by omega) (by decide) ?_
                        refine z_neg gg59_6 ?_
                        refine z_icmpne gg59_7 (tg := 14) rfl (by omega) (by omega) (fun c6 => ?_) (fun c6 => ?_)
                        · try (exfalso; omega)
                          all_goals (
                            refine z_const gg59_14 (v := 0) rfl ?_
                            refine z_zretC gg59_15 (by omega) ?_
                            refine z_ifeq gg86_36 (tg := 45) rfl (by decide) (fun _ => ?_) (fun z => absurd z (by decide))
                            refine q_aload gg86_45 rfl ?_
                            refine q_getr gg86_46 rfl ?_
                            refine q_iload gg86_49 rfl ?_
                            refine q_iload gg86_50 rfl ?_
                            refine q_call3 gg86_51 tt60 rfl (Nat.le_of_ble_eq_true rfl) (hm_rv (by decide +kernel)) (ls' := [some _, some _, some _]) rfl rfl ?_
                            refine q_aload gg60_0 rfl ?_
                            refine q_getr gg60_1 rfl ?_
                            refine q_iload gg60_4 rfl ?_
                            first | (refine z_alr gg60_5 (by first | rfl | assumption) (by assumption) (by omega) (by omega) (by omega) (by decide) (fun vhaveOneLane_5 evhaveOneLane_5 lvhaveOneLane_5 uvhaveOneLane_5 => ?_); try dsimp only at evhaveOneLane_5) | (refine z_alx gg60_5 rfl (by assumption) (by omega) (by omega) (by first | omega | decide) (by decide) (fun vhaveOneLane_5 evhaveOneLane_5 lvhaveOneLane_5 uvhaveOneLane_5 => ?_); try dsimp only at evhaveOneLane_5) | refine z_alq gg60_5 rfl (by omega) (by omega) (by decide) ?_
                            refine q_aload gg60_6 rfl ?_
                            refine q_getr gg60_7 rfl ?_
                            refine q_iload gg60_10 rfl ?_
                            first | (refine z_alr gg60_11 (by first | rfl | assumption) (by assumption) (by omega) (by omega) (by omega) (by decide) (fun vhaveOneLane_11 evhaveOneLane_11 lvhaveOneLane_11 uvhaveOneLane_11 => ?_); try dsimp only at evhaveOneLane_11) | (refine z_alx gg60_11 rfl (by assumption) (by omega) (by omega) (by first | omega | decide) (by decide) (fun vhaveOneLane_11 evhaveOneLane_11 lvhaveOneLane_11 uvhaveOneLane_11 => ?_); try dsimp only at evhaveOneLane_11) | refine z_alq gg60_11 rfl (by omega) (by omega) (by decide) ?_
                            refine z_icmpne gg60_12 (tg := 19) rfl (by omega) (by omega) (fun c7 => ?_) (fun c7 => ?_)
                            · try (exfalso; omega)
                              all_goals (
                                refine z_const gg60_19 (v := 0) rfl ?_
                                refine z_zretC gg60_20 (by omega) ?_
                                refine z_ifne gg86_54 (tg := 63) rfl (by decide) (fun z => absurd z (by decide)) (fun _ => ?_)
                                refine q_aload gg86_57 rfl ?_
                                refine z_const gg86_58 (v := 5) rfl ?_
                                refine q_call2 gg86_59 tt120 rfl (Nat.le_of_ble_eq_true rfl) (hm_rv (by decide +kernel)) (ls' := [some _, some _]) rfl rfl ?_
                                refine q_aload gg120_0 rfl ?_
                                refine q_iload gg120_1 rfl ?_
                                refine q_putf gg120_2 rfl ?_
                                refine z_neg gg120_5 ?_
                                refine q_iload gg120_8 rfl ?_
                                first | refine z_isub gg120_9 ?_ | refine q_isub gg120_9 ?_
                                refine q_iretC gg120_10 ?_
                                refine q_iret gg86_62 ?_
                                rw [if_neg (by omega), if_pos (by omega)] at hC
                                rw [hC] at k0
                                exact k0 (by decide) _ (FT.rf.f0.up (M := M) (x := zI 5)) up_at
                              )
                            · try (exfalso; omega)
                              all_goals (
                                refine z_const gg60_15 (v := 1) rfl ?_
                                refine q_goto gg60_16 (tg := 20) rfl ?_
                                refine z_zretC gg60_20 (by omega) ?_
                                refine z_ifne gg86_54 (tg := 63) rfl (by decide) (fun _ => ?_) (fun z => absurd z (by decide))
                                refine q_aload gg86_63 rfl ?_
                                refine q_getr gg86_64 rfl ?_
                                refine q_iload gg86_67 rfl ?_
                                refine q_iload gg86_68 rfl ?_
                                refine q_iload gg86_69 rfl ?_
                                refine q_call4 gg86_71 tt61 rfl (Nat.le_of_ble_eq_true rfl) (hm_rv (by decide +kernel)) (ls' := [some _, some _, some _, some _]) rfl rfl ?_
                                refine q_iload gg61_0 rfl ?_
                                refine z_iflt gg61_1 (tg := 24) rfl (by omega) (fun c8 => ?_) (fun c8 => ?_)
                                · try (exfalso; omega)
                                  all_goals (
                                    refine z_const gg61_24 (v := 0) rfl ?_
                                    refine z_zretC gg61_25 (by omega) ?_
                                    refine z_ifeq gg86_74 (tg := 92) rfl (by decide) (fun _ => ?_) (fun z => absurd z (by decide))
                                    refine q_aload gg86_92 rfl ?_
                                    refine z_const gg86_93 (v := 2) rfl ?_
                                    refine q_call2 gg86_94 tt120 rfl (Nat.le_of_ble_eq_true rfl) (hm_rv (by decide +kernel)) (ls' := [some _, some _]) rfl rfl ?_
                                    refine q_aload gg120_0 rfl ?_
                                    refine q_iload gg120_1 rfl ?_
                                    refine q_putf gg120_2 rfl ?_
                                    refine z_neg gg120_5 ?_
                                    refine q_iload gg120_8 rfl ?_
                                    first | refine z_isub gg120_9 ?_ | refine q_isub gg120_9 ?_
                                    refine q_iretC gg120_10 ?_
                                    refine q_iret gg86_97 ?_
                                    rw [if_neg (by omega), if_neg (by omega), if_neg (by omega)] at hC
                                    rw [hC] at k0
                                    exact k0 (by decide) _ (FT.rf.f0.up (M := M) (x := zI 2)) up_at
                                  )
                                · try (exfalso; omega)
                                  all_goals (
                                    refine q_iload gg61_4 rfl ?_
                                    refine z_iflt gg61_5 (tg := 24) rfl (by omega) (fun c9 => ?_) (fun c9 => ?_)
                                    · try (exfalso; omega)
                                      all_goals (
                                        refine z_const gg61_24 (v := 0) rfl ?_
                                        refine z_zretC gg61_25 (by omega) ?_
                                        refine z_ifeq gg86_74 (tg := 92) rfl (by decide) (fun _ => ?_) (fun z => absurd z (by decide))
                                        refine q_aload gg86_92 rfl ?_
                                        refine z_const gg86_93 (v := 2) rfl ?_
                                        refine q_call2 gg86_94 tt120 rfl (Nat.le_of_ble_eq_true rfl) (hm_rv (by decide +kernel)) (ls' := [some _, some _]) rfl rfl ?_
                                        refine q_aload gg120_0 rfl ?_
                                        refine q_iload gg120_1 rfl ?_
                                        refine q_putf gg120_2 rfl ?_
                                        refine z_neg gg120_5 ?_
                                        refine q_iload gg120_8 rfl ?_
                                        first | refine z_isub gg120_9 ?_ | refine q_isub gg120_9 ?_
                                        refine q_iretC gg120_10 ?_
                                        refine q_iret gg86_97 ?_
                                        rw [if_neg (by omega), if_neg (by omega), if_neg (by omega)] at hC
                                        rw [hC] at k0
                                        exact k0 (by decide) _ (FT.rf.f0.up (M := M) (x := zI 2)) up_at
                                      )
                                    · try (exfalso; omega)
                                      all_goals (
                                        refine q_iload gg61_8 rfl ?_
                                        refine q_aload gg61_9 rfl ?_
                                        refine q_getr gg61_10 rfl ?_
                                        refine q_iload gg61_13 rfl ?_
                                        first | (refine z_alr gg61_14 (by first | rfl | assumption) (by assumption) (by omega) (by omega) (by omega) (by decide) (fun vhasRun_14 evhasRun_14 lvhasRun_14 uvhasRun_14 => ?_); try dsimp only at evhasRun_14) | (refine z_alx gg61_14 rfl (by assumption) (by omega) (by omega) (by first | omega | decide) (by decide) (fun vhasRun_14 evhasRun_14 lvhasRun_14 uvhasRun_14 => ?_); try dsimp only at evhasRun_14) | refine z_alq gg61_14 rfl (by omega) (by omega) (by decide) ?_
                                        refine q_iload gg61_15 rfl ?_
                                        first | refine z_isub gg61_16 ?_ | refine q_isub gg61_16 ?_
                                        refine z_icmpgt gg61_17 (tg := 24) rfl (by omega) (by omega) (fun c10 => ?_) (fun c10 => ?_)
                                        · try (exfalso; omega)
                                          all_goals (
                                            refine z_const gg61_24 (v := 0) rfl ?_
                                            refine z_zretC gg61_25 (by omega) ?_
                                            refine z_ifeq gg86_74 (tg := 92) rfl (by decide) (fun _ => ?_) (fun z => absurd z (by decide))
                                            refine q_aload gg86_92 rfl ?_
                                            refine z_const gg86_93 (v := 2) rfl ?_
                                            refine q_call2 gg86_94 tt120 rfl (Nat.le_of_ble_eq_true rfl) (hm_rv (by decide +kernel)) (ls' := [some _, some _]) rfl rfl ?_
                                            refine q_aload gg120_0 rfl ?_
                                            refine q_iload gg120_1 rfl ?_
                                            refine q_putf gg120_2 rfl ?_
                                            refine z_neg gg120_5 ?_
                                            refine q_iload gg120_8 rfl ?_
                                            first | refine z_isub gg120_9 ?_ | refine q_isub gg120_9 ?_
                                            refine q_iretC gg120_10 ?_
                                            refine q_iret gg86_97 ?_
                                            rw [if_neg (by omega), if_neg (by omega), if_neg (by omega)] at hC
                                            rw [hC] at k0
                                            exact k0 (by decide) _ (FT.rf.f0.up (M := M) (x := zI 2)) up_at
                                          )
                                        · try (exfalso; omega)
                                          all_goals (
                                            refine z_const gg61_20 (v := 1) rfl ?_
                                            refine q_goto gg61_21 (tg := 25) rfl ?_
                                            refine z_zretC gg61_25 (by omega) ?_
                                            refine z_ifeq gg86_74 (tg := 92) rfl (by decide) (fun z => absurd z (by decide)) (fun _ => ?_)
                                            refine q_aload gg86_77 rfl ?_
                                            refine q_getr gg86_78 rfl ?_
                                            refine q_iload gg86_81 rfl ?_
                                            refine q_iload gg86_82 rfl ?_
                                            refine q_iload gg86_84 rfl ?_
                                            refine q_call4 gg86_86 tt61 rfl (Nat.le_of_ble_eq_true rfl) (hm_rv (by decide +kernel)) (ls' := [some _, some _, some _, some _]) rfl rfl ?_
                                            refine q_iload gg61_0 rfl ?_
                                            refine z_iflt gg61_1 (tg := 24) rfl (by omega) (fun c11 => ?_) (fun c11 => ?_)
                                            · try (exfalso; omega)
                                              all_goals (
                                                refine z_const gg61_24 (v := 0) rfl ?_
                                                refine z_zretC gg61_25 (by omega) ?_
                                                refine z_ifne gg86_89 (tg := 98) rfl (by decide) (fun z => absurd z (by decide)) (fun _ => ?_)
                                                refine q_aload gg86_92 rfl ?_
                                                refine z_const gg86_93 (v := 2) rfl ?_
                                                refine q_call2 gg86_94 tt120 rfl (Nat.le_of_ble_eq_true rfl) (hm_rv (by decide +kernel)) (ls' := [some _, some _]) rfl rfl ?_
                                                refine q_aload gg120_0 rfl ?_
                                                refine q_iload gg120_1 rfl ?_
                                                refine q_putf gg120_2 rfl ?_
                                                refine z_neg gg120_5 ?_
                                                refine q_iload gg120_8 rfl ?_
                                                first | refine z_isub gg120_9 ?_ | refine q_isub gg120_9 ?_
                                                refine q_iretC gg120_10 ?_
                                                refine q_iret gg86_97 ?_
                                                rw [if_neg (by omega), if_neg (by omega), if_neg (by omega)] at hC
                                                rw [hC] at k0
                                                exact k0 (by decide) _ (FT.rf.f0.up (M := M) (x := zI 2)) up_at
                                              )
                                            · try (exfalso; omega)
                                              all_goals (
                                                refine q_iload gg61_4 rfl ?_
                                                refine z_iflt gg61_5 (tg := 24) rfl (by omega) (fun c12 => ?_) (fun c12 => ?_)
                                                · try (exfalso; omega)
                                                  all_goals (
                                                    refine z_const gg61_24 (v := 0) rfl ?_
                                                    refine z_zretC gg61_25 (by omega) ?_
                                                    refine z_ifne gg86_89 (tg := 98) rfl (by decide) (fun z => absurd z (by decide)) (fun _ => ?_)
                                                    refine q_aload gg86_92 rfl ?_
                                                    refine z_const gg86_93 (v := 2) rfl ?_
                                                    refine q_call2 gg86_94 tt120 rfl (Nat.le_of_ble_eq_true rfl) (hm_rv (by decide +kernel)) (ls' := [some _, some _]) rfl rfl ?_
                                                    refine q_aload gg120_0 rfl ?_
                                                    refine q_iload gg120_1 rfl ?_
                                                    refine q_putf gg120_2 rfl ?_
                                                    refine z_neg gg120_5 ?_
                                                    refine q_iload gg120_8 rfl ?_
                                                    first | refine z_isub gg120_9 ?_ | refine q_isub gg120_9 ?_
                                                    refine q_iretC gg120_10 ?_
                                                    refine q_iret gg86_97 ?_
                                                    rw [if_neg (by omega), if_neg (by omega), if_neg (by omega)] at hC
                                                    rw [hC] at k0
                                                    exact k0 (by decide) _ (FT.rf.f0.up (M := M) (x := zI 2)) up_at
                                                  )
                                                · try (exfalso; omega)
                                                  all_goals (
                                                    refine q_iload gg61_8 rfl ?_
                                                    refine q_aload gg61_9 rfl ?_
                                                    refine q_getr gg61_10 rfl ?_
                                                    refine q_iload gg61_13 rfl ?_
                                                    first | (refine z_alr gg61_14 (by first | rfl | assumption) (by assumption) (by omega) (by omega) (by omega) (by decide) (fun vhasRun_14 evhasRun_14 lvhasRun_14 uvhasRun_14 => ?_); try dsimp only at evhasRun_14) | (refine z_alx gg61_14 rfl (by assumption) (by omega) (by omega) (by first | omega | decide) (by decide) (fun vhasRun_14 evhasRun_14 lvhasRun_14 uvhasRun_14 => ?_); try dsimp only at evhasRun_14) | refine z_alq gg61_14 rfl (by omega) (by omega) (by decide) ?_
                                                    refine q_iload gg61_15 rfl ?_
                                                    first | refine z_isub gg61_16 ?_ | refine q_isub gg61_16 ?_
                                                    refine z_icmpgt gg61_17 (tg := 24) rfl (by omega) (by omega) (fun c13 => ?_) (fun c13 => ?_)
                                                    · try (exfalso; omega)
                                                      all_goals (
                                                        refine z_const gg61_24 (v := 0) rfl ?_
                                                        refine z_zretC gg61_25 (by omega) ?_
                                                        refine z_ifne gg86_89 (tg := 98) rfl (by decide) (fun z => absurd z (by decide)) (fun _ => ?_)
                                                        refine q_aload gg86_92 rfl ?_
                                                        refine z_const gg86_93 (v := 2) rfl ?_
                                                        refine q_call2 gg86_94 tt120 rfl (Nat.le_of_ble_eq_true rfl) (hm_rv (by decide +kernel)) (ls' := [some _, some _]) rfl rfl ?_
                                                        refine q_aload gg120_0 rfl ?_
                                                        refine q_iload gg120_1 rfl ?_
                                                        refine q_putf gg120_2 rfl ?_
                                                        refine z_neg gg120_5 ?_
                                                        refine q_iload gg120_8 rfl ?_
                                                        first | refine z_isub gg120_9 ?_ | refine q_isub gg120_9 ?_
                                                        refine q_iretC gg120_10 ?_
                                                        refine q_iret gg86_97 ?_
                                                        rw [if_neg (by omega), if_neg (by omega), if_neg (by omega)] at hC
                                                        rw [hC] at k0
                                                        exact k0 (by decide) _ (FT.rf.f0.up (M := M) (x := zI 2)) up_at
                                                      )
                                                    · try (exfalso; omega)
                                                      all_goals (
                                                        refine z_const gg61_20 (v := 1) rfl ?_
                                                        refine q_goto gg61_21 (tg := 25) rfl ?_
                                                        refine z_zretC gg61_25 (by omega) ?_
                                                        refine z_ifne gg86_89 (tg := 98) rfl (by decide) (fun _ => ?_) (fun z => absurd z (by decide))
                                                        refine q_aload gg86_98 rfl ?_
                                                        refine q_getr gg86_99 rfl ?_
                                                        refine q_iload gg86_102 rfl ?_
                                                        refine q_iload gg86_103 rfl ?_
                                                        refine q_iload gg86_104 rfl ?_
                                                        refine q_iload gg86_105 rfl ?_
                                                        refine q_iload gg86_107 rfl ?_
                                                        refine q_call6 gg86_109 tt66 rfl (Nat.le_of_ble_eq_true rfl) (hm_rv (by decide +kernel)) (ls' := [some _, some _, some _, some _, some _, some _]) rfl rfl ?_
                                                        refine q_aload gg66_0 rfl ?_
                                                        refine q_getr gg66_1 rfl ?_
                                                        refine q_iload gg66_4 rfl ?_
                                                        refine q_call1 gg66_5 tt68 rfl (Nat.le_of_ble_eq_true rfl) rfl (ls' := [some _]) rfl rfl ?_
                                                        refine q_iload gg68_0 rfl ?_
                                                        refine z_const gg68_1 (v := 40) rfl ?_
                                                        first | refine z_imul gg68_3 ?_ | refine q_imul gg68_3 ?_
                                                        refine q_iretC gg68_4 ?_
                                                        refine q_iload gg66_8 rfl ?_
                                                        first | refine z_iadd gg66_9 ?_ | refine q_iadd gg66_9 ?_
                                                        refine q_aload gg66_10 rfl ?_
                                                        refine q_getr gg66_11 rfl ?_
                                                        refine q_iload gg66_14 rfl ?_
                                                        refine q_call1 gg66_15 tt68 rfl (Nat.le_of_ble_eq_true rfl) rfl (ls' := [some _]) rfl rfl ?_
                                                        refine q_iload gg68_0 rfl ?_
                                                        refine z_const gg68_1 (v := 40) rfl ?_
                                                        first | refine z_imul gg68_3 ?_ | refine q_imul gg68_3 ?_
                                                        refine q_iretC gg68_4 ?_
                                                        refine q_iload gg66_18 rfl ?_
                                                        first | refine z_iadd gg66_20 ?_ | refine q_iadd gg66_20 ?_
                                                        refine q_iload gg66_21 rfl ?_
                                                        refine z_copy gg66_23 rfl rfl (by omega) (by omega) (by omega) (by omega) (by omega) (by decide) (by decide) ?_
                                                        refine q_retC gg66_26 ?_
                                                        refine q_aload gg86_112 rfl ?_
                                                        refine q_iload gg86_113 rfl ?_
                                                        refine q_call2 gg86_115 tt121 rfl (Nat.le_of_ble_eq_true rfl) (hm_rv (by decide +kernel)) (ls' := [some _, some _]) rfl rfl ?_
                                                        refine q_aload gg121_0 rfl ?_
                                                        refine z_const gg121_1 (v := 0) rfl ?_
                                                        refine q_putf gg121_2 rfl ?_
                                                        refine q_iload gg121_5 rfl ?_
                                                        refine q_iretC gg121_6 ?_
                                                        refine q_iret gg86_118 ?_
                                                        rw [if_neg (by omega), if_neg (by omega), if_pos (by omega)] at hC
                                                        rw [hC] at k1
                                                        refine k1 rfl _ ⟨r2, r3, fun r kx r0 r1 kx0 kx1 => ?_⟩ (fun k a b c e => by unfold hm_up; rw [hm_row_ne _ _ a, hm_row_ne _ _ e]) up_at
                                                        show va_cpy (M 4) (M 4) (a * 40 + i).toNat (b * 40 + j).toNat n.toNat (40 * r + kx).toNat = _
                                                        have hl2 := hW.2.1 r r0 r1
                                                        have hrr := r4 r kx r0 r1 kx0 kx1
                                                        simp only [va_cpy, itC]
                                                        by_cases hh : 40 * b + j ≤ 40 * r + kx ∧ 40 * r + kx < 40 * b + j + n
                                                        · have hra := r4 a (i + (40 * r + kx - (40 * b + j))) a0 (by omega) (by omega) (by omega)
                                                          rw [if_pos (by omega), if_pos hh, Int.add_assoc, ← hra]
                                                          congr 1; omega
                                                        · rw [if_neg (by omega), if_neg hh]; exact hrr
                                                      )
                                                  )
                                              )
                                          )
                                      )
                                  )
                              )
                          )
                        · try (exfalso; omega)
                          all_goals (
                            refine z_const gg59_10 (v := 1) rfl ?_
                            refine q_goto gg59_11 (tg := 15) rfl ?_
                            refine z_zretC gg59_15 (by omega) ?_
                            refine z_ifeq gg86_36 (tg := 45) rfl (by decide) (fun z => absurd z (by decide)) (fun _ => ?_)
                            refine q_aload gg86_39 rfl ?_
                            refine z_const gg86_40 (v := 1) rfl ?_
                            refine q_call2 gg86_41 tt120 rfl (Nat.le_of_ble_eq_true rfl) (hm_rv (by decide +kernel)) (ls' := [some _, some _]) rfl rfl ?_
                            refine q_aload gg120_0 rfl ?_
                            refine q_iload gg120_1 rfl ?_
                            refine q_putf gg120_2 rfl ?_
                            refine z_neg gg120_5 ?_
                            refine q_iload gg120_8 rfl ?_
                            first | refine z_isub gg120_9 ?_ | refine q_isub gg120_9 ?_
                            refine q_iretC gg120_10 ?_
                            refine q_iret gg86_44 ?_
                            rw [if_pos (by omega)] at hC
                            rw [hC] at k0
                            exact k0 (by decide) _ (FT.rf.f0.up (M := M) (x := zI 1)) up_at
                          )
                      )
                    · try (exfalso; omega)
                      all_goals (
                        refine z_const gg59_10 (v := 1) rfl ?_
                        refine q_goto gg59_11 (tg := 15) rfl ?_
                        refine z_zretC gg59_15 (by omega) ?_
                        refine z_ifne gg86_25 (tg := 39) rfl (by decide) (fun _ => ?_) (fun z => absurd z (by decide))
                        refine q_aload gg86_39 rfl ?_
                        refine z_const gg86_40 (v := 1) rfl ?_
                        refine q_call2 gg86_41 tt120 rfl (Nat.le_of_ble_eq_true rfl) (hm_rv (by decide +kernel)) (ls' := [some _, some _]) rfl rfl ?_
                        refine q_aload gg120_0 rfl ?_
                        refine q_iload gg120_1 rfl ?_
                        refine q_putf gg120_2 rfl ?_
                        refine z_neg gg120_5 ?_
                        refine q_iload gg120_8 rfl ?_
                        first | refine z_isub gg120_9 ?_ | refine q_isub gg120_9 ?_
                        refine q_iretC gg120_10 ?_
                        refine q_iret gg86_44 ?_
                        rw [if_pos (by omega)] at hC
                        rw [hC] at k0
                        exact k0 (by decide) _ (FT.rf.f0.up (M := M) (x := zI 1)) up_at
                      )
                  )
              )
          )
      )
  · rw [if_neg hin] at hC
    rw [hC] at k0
    have kq := k0 (by decide) M FT.rf.f0 h0
    refine q_iload gg86_0 rfl ?_
    refine q_call1 gg86_1 tt57 rfl (Nat.le_of_ble_eq_true rfl) rfl (ls' := [some _]) rfl rfl ?_
    refine q_iload gg57_0 rfl ?_
    refine z_iflt gg57_1 (tg := 14) rfl (by omega) (fun c1 => ?_) (fun c1 => ?_)
    · try (exfalso; omega)
      all_goals (
        refine z_const gg57_14 (v := 0) rfl ?_
        refine z_zretC gg57_15 (by omega) ?_
        refine z_ifeq gg86_4 (tg := 14) rfl (by decide) (fun _ => ?_) (fun z => absurd z (by decide))
        refine z_neg gg86_14 ?_
        refine q_iret gg86_16 ?_
        exact kq
      )
    · try (exfalso; omega)
      all_goals (
        refine q_iload gg57_4 rfl ?_
        refine z_const gg57_5 (v := 8) rfl ?_
        refine z_icmpge gg57_7 (tg := 14) rfl (by omega) (by omega) (fun c2 => ?_) (fun c2 => ?_)
        · try (exfalso; omega)
          all_goals (
            refine z_const gg57_14 (v := 0) rfl ?_
            refine z_zretC gg57_15 (by omega) ?_
            refine z_ifeq gg86_4 (tg := 14) rfl (by decide) (fun _ => ?_) (fun z => absurd z (by decide))
            refine z_neg gg86_14 ?_
            refine q_iret gg86_16 ?_
            exact kq
          )
        · try (exfalso; omega)
          all_goals (
            refine z_const gg57_10 (v := 1) rfl ?_
            refine q_goto gg57_11 (tg := 15) rfl ?_
            refine z_zretC gg57_15 (by omega) ?_
            refine z_ifeq gg86_4 (tg := 14) rfl (by decide) (fun z => absurd z (by decide)) (fun _ => ?_)
            refine q_iload gg86_7 rfl ?_
            refine q_call1 gg86_8 tt57 rfl (Nat.le_of_ble_eq_true rfl) rfl (ls' := [some _]) rfl rfl ?_
            refine q_iload gg57_0 rfl ?_
            refine z_iflt gg57_1 (tg := 14) rfl (by omega) (fun c3 => ?_) (fun c3 => ?_)
            · try (exfalso; omega)
              all_goals (
                refine z_const gg57_14 (v := 0) rfl ?_
                refine z_zretC gg57_15 (by omega) ?_
                refine z_ifne gg86_11 (tg := 17) rfl (by decide) (fun z => absurd z (by decide)) (fun _ => ?_)
                refine z_neg gg86_14 ?_
                refine q_iret gg86_16 ?_
                exact kq
              )
            · try (exfalso; omega)
              all_goals (
                refine q_iload gg57_4 rfl ?_
                refine z_const gg57_5 (v := 8) rfl ?_
                refine z_icmpge gg57_7 (tg := 14) rfl (by omega) (by omega) (fun c4 => ?_) (fun c4 => ?_)
                · try (exfalso; omega)
                  all_goals (
                    refine z_const gg57_14 (v := 0) rfl ?_
                    refine z_zretC gg57_15 (by omega) ?_
                    refine z_ifne gg86_11 (tg := 17) rfl (by decide) (fun z => absurd z (by decide)) (fun _ => ?_)
                    refine z_neg gg86_14 ?_
                    refine q_iret gg86_16 ?_
                    exact kq
                  )
                · try (exfalso; omega)
                  all_goals (
                    refine z_const gg57_10 (v := 1) rfl ?_
                    refine q_goto gg57_11 (tg := 15) rfl ?_
                    refine z_zretC gg57_15 (by omega) ?_
                    refine z_ifne gg86_11 (tg := 17) rfl (by decide) (fun _ => ?_) (fun z => absurd z (by decide))
                    exfalso
                    omega
                  )
              )
          )
      )
theorem r_copy (ha : zR a) (hi : zR i) (hb : zR b) (hj : zR j) (hn : zR n) (h0 : M 30 4 = zI st) (hR : RR M ln lg it) (hW : RW ln lg it) (k0 : copyC ln lg a i b j n ≠ 0 → ∀ M', F30 M M' → M' 30 4 = zI (nSt st (copyC ln lg a i b j n)) → Q (some (.inl (zI (cAns (copyC ln lg a i b j n) n)))) M') (k1 : copyC ln lg a i b j n = 0 → ∀ M', RR M' ln lg (itC it a i b j n) → FWR M M' → M' 30 4 = zI 0 → Q (some (.inl (zI (cAns (copyC ln lg a i b j n) n)))) M') : hm_Wp (d + 6) 137 0 [some (.inr (.inr 30)), some (.inl (zI a)), some (.inl (zI i)), some (.inl (zI b)), some (.inl (zI j)), some (.inl (zI n)), none] [] M Q := by
  obtain ⟨r2, r3, r4⟩ := hR
  unfold zR at ha hi hb hj hn
  have hC : copyC ln lg a i b j n = if 0 ≤ a ∧ a ≤ 7 ∧ 0 ≤ b ∧ b ≤ 7 then (if ln a = -1000000 ∨ ln b = -1000000 then 1 else if ln a ≠ ln b then 5 else if 0 ≤ i ∧ 0 ≤ n ∧ i + n ≤ lg a ∧ 0 ≤ j ∧ j + n ≤ lg b then 0 else 2) else 9 := rfl
  by_cases hin : 0 ≤ a ∧ a ≤ 7 ∧ 0 ≤ b ∧ b ≤ 7
  · rw [if_pos hin] at hC
    obtain ⟨a0, a1, b0, b1⟩ := hin
    have wa := hW.1 a a0 (by omega)
    have wb := hW.1 b b0 (by omega)
    have la := hW.2.1 a a0 (by omega)
    have lb := hW.2.1 b b0 (by omega)
    have L2 : copyC ln lg a i b j n = 0 → (0 ≤ i ∧ 0 ≤ n ∧ i + n ≤ lg a ∧ 0 ≤ j ∧ j + n ≤ lg b) → ∀ (m : Nat) (kx : Int) (f : Nat → Int32) (g : Nat → Int32), 0 ≤ kx → kx + m = n → (∀ z : Int, 0 ≤ z → z < n → f z.toNat = M 33 (40 * a + i + z).toNat) → (∀ z : Int, 0 ≤ z → g z.toNat = if 40 * b + j ≤ z ∧ z < 40 * b + j + kx then f (z - (40 * b + j)).toNat else M 33 z.toNat) → hm_Wp (d + 6) 137 129 [some (.inr (.inr 30)), some (.inl (zI a)), some (.inl (zI i)), some (.inl (zI b)), some (.inl (zI j)), some (.inl (zI n)), some (.inl (zI kx))] [] (hm_row (hm_row M 34 f) 33 g) Q := by
      intro hC0 hok m
      rw [hC0] at k1
      induction m with
      | zero =>
        intro kx f g hk0 hkm hff hgg
        refine q_iload gg137_129 rfl ?_
        refine q_iload gg137_131 rfl ?_
        refine z_icmpge gg137_133 (tg := 164) rfl (by omega) (by omega) (fun c1 => ?_) (fun z => absurd z (by omega))
        refine q_aload gg137_164 rfl ?_
        refine q_iload gg137_165 rfl ?_
        refine q_call2 gg137_167 tt129 rfl (Nat.le_of_ble_eq_true rfl) (hm_rv (by decide +kernel)) (ls' := [some _, some _]) rfl rfl ?_
        refine q_aload gg129_0 rfl ?_
        refine z_const gg129_1 (v := 0) rfl ?_
        refine q_putf gg129_2 rfl ?_
        refine q_iload gg129_5 rfl ?_
        refine q_iretC gg129_6 ?_
        refine q_iret gg137_170 ?_
        refine k1 rfl _ ⟨r2, r3, fun r kx' r0 r1 kx0 kx1 => ?_⟩ ⟨fun k a b c e g => by unfold hm_up; rw [hm_row_ne _ _ a, hm_row_ne _ _ e, hm_row_ne _ _ g], fun j hj => by unfold hm_up; rw [hm_row_same]; simp only [upd]; rw [if_neg hj]; rfl⟩ up_at
        show g (40 * r + kx').toNat = _
        have hl2 := hW.2.1 r r0 r1
        have hrr := r4 r kx' r0 r1 kx0 kx1
        rw [hgg _ (by omega)]
        simp only [itC]
        by_cases hh : 40 * b + j ≤ 40 * r + kx' ∧ 40 * r + kx' < 40 * b + j + n
        · have hra := r4 a (i + (40 * r + kx' - (40 * b + j))) a0 (by omega) (by omega) (by omega)
          rw [if_pos (by omega), if_pos hh, hff _ (by omega) (by omega), Int.add_assoc, hra]
        · rw [if_neg (by omega), if_neg hh]; exact hrr
      | succ m ih =>
        intro kx f g hk0 hkm hff hgg
        refine q_iload gg137_129 rfl ?_
        refine q_iload gg137_131 rfl ?_
        refine z_icmpge gg137_133 (tg := 164) rfl (by omega) (by omega) (fun z => absurd z (by omega)) (fun c1 => ?_)
        refine q_aload gg137_136 rfl ?_
        refine q_getr gg137_137 rfl ?_
        refine z_const gg137_140 (v := 40) rfl ?_
        refine q_iload gg137_142 rfl ?_
        first | refine z_imul gg137_143 ?_ | refine q_imul gg137_143 ?_
        refine q_iload gg137_144 rfl ?_
        first | refine z_iadd gg137_146 ?_ | refine q_iadd gg137_146 ?_
        refine q_iload gg137_147 rfl ?_
        first | refine z_iadd gg137_149 ?_ | refine q_iadd gg137_149 ?_
        refine q_aload gg137_150 rfl ?_
        refine q_getr gg137_151 rfl ?_
        refine q_iload gg137_154 rfl ?_
        first | (refine z_alr gg137_156 (by first | rfl | assumption) (by assumption) (by omega) (by omega) (by omega) (by decide) (fun v156 ev156 lv156 uv156 => ?_); try dsimp only at ev156) | (refine z_alx gg137_156 rfl (by assumption) (by omega) (by omega) (by first | omega | decide) (by decide) (fun v156 ev156 lv156 uv156 => ?_); try dsimp only at ev156) | refine z_alq gg137_156 rfl (by omega) (by omega) (by decide) ?_
        first | refine z_asr gg137_157 (by first | rfl | assumption) (by assumption) (by omega) (by omega) (by decide) (by omega) (by omega) (fun f157 h157 => ?_) | refine z_asx gg137_157 rfl (by omega) (by omega) (by decide) ?_ | refine z_asq gg137_157 rfl (by omega) (by omega) (by decide) ?_
        refine hm_Wp.eqM (hm_row_row _ _ _ _) ?_
        refine z_iinc gg137_158 rfl rfl ?_
        refine q_goto gg137_161 (tg := 129) rfl ?_
        refine ih (kx + 1) f _ (by omega) (by omega) hff (fun z z0 => ?_)
        rw [hm_row_same]
        simp only [upd]
        by_cases hz : z = 40 * b + j + kx
        · subst hz; rw [if_pos rfl, if_pos (by omega), show 40 * b + j + kx - (40 * b + j) = kx by omega]; rfl
        · rw [if_neg (by omega), hgg z z0]
          (repeat' split) <;> first | rfl | omega
    have L1 : copyC ln lg a i b j n = 0 → (0 ≤ i ∧ 0 ≤ n ∧ i + n ≤ lg a ∧ 0 ≤ j ∧ j + n ≤ lg b) → ∀ (m : Nat) (kx : Int) (f : Nat → Int32), 0 ≤ kx → kx + m = n → (∀ z : Int, 0 ≤ z → z < kx → f z.toNat = M 33 (40 * a + i + z).toNat) → hm_Wp (d + 6) 137 92 [some (.inr (.inr 30)), some (.inl (zI a)), some (.inl (zI i)), some (.inl (zI b)), some (.inl (zI j)), some (.inl (zI n)), some (.inl (zI kx))] [] (hm_row M 34 f) Q := by
      intro hC0 hok m
      induction m with
      | zero =>
        intro kx f hk0 hkm hff
        refine q_iload gg137_92 rfl ?_
        refine q_iload gg137_94 rfl ?_
        refine z_icmpge gg137_96 (tg := 126) rfl (by omega) (by omega) (fun c1 => ?_) (fun z => absurd z (by omega))
        refine z_const gg137_126 (v := 0) rfl ?_
        refine q_istore gg137_127 rfl ?_
        refine hm_Wp.eqM (hm_row_self _ 33).symm ?_
        exact L2 hC0 hok n.toNat 0 f _ (by decide) (by omega) (fun z z0 z1 => hff z z0 (by omega)) (fun z z0 => by rw [if_neg (by omega)]; rfl)
      | succ m ih =>
        intro kx f hk0 hkm hff
        refine q_iload gg137_92 rfl ?_
        refine q_iload gg137_94 rfl ?_
        refine z_icmpge gg137_96 (tg := 126) rfl (by omega) (by omega) (fun z => absurd z (by omega)) (fun c1 => ?_)
        refine q_aload gg137_99 rfl ?_
        refine q_getr gg137_100 rfl ?_
        refine q_iload gg137_103 rfl ?_
        refine q_aload gg137_105 rfl ?_
        refine q_getr gg137_106 rfl ?_
        refine z_const gg137_109 (v := 40) rfl ?_
        refine q_iload gg137_111 rfl ?_
        first | refine z_imul gg137_112 ?_ | refine q_imul gg137_112 ?_
        refine q_iload gg137_113 rfl ?_
        first | refine z_iadd gg137_114 ?_ | refine q_iadd gg137_114 ?_
        refine q_iload gg137_115 rfl ?_
        first | refine z_iadd gg137_117 ?_ | refine q_iadd gg137_117 ?_
        first | (refine z_alr gg137_118 (by first | rfl | assumption) (by assumption) (by omega) (by omega) (by omega) (by decide) (fun v118 ev118 lv118 uv118 => ?_); try dsimp only at ev118) | (refine z_alx gg137_118 rfl (by assumption) (by omega) (by omega) (by first | omega | decide) (by decide) (fun v118 ev118 lv118 uv118 => ?_); try dsimp only at ev118) | refine z_alq gg137_118 rfl (by omega) (by omega) (by decide) ?_
        first | refine z_asr gg137_119 (by first | rfl | assumption) (by assumption) (by omega) (by omega) (by decide) (by omega) (by omega) (fun f119 h119 => ?_) | refine z_asx gg137_119 rfl (by omega) (by omega) (by decide) ?_ | refine z_asq gg137_119 rfl (by omega) (by omega) (by decide) ?_
        refine hm_Wp.eqM (hm_row_row _ _ _ _) ?_
        refine z_iinc gg137_120 rfl rfl ?_
        refine q_goto gg137_123 (tg := 92) rfl ?_
        refine ih (kx + 1) _ (by omega) (by omega) (fun z z0 z1 => ?_)
        rw [hm_row_same]
        simp only [upd]
        by_cases hz : z = kx
        · subst hz; rw [if_pos rfl]; rfl
        · rw [if_neg (by omega)]; exact hff z z0 (by omega)
    refine q_iload gg137_0 rfl ?_
    refine q_call1 gg137_1 tt131 rfl (Nat.le_of_ble_eq_true rfl) rfl (ls' := [some _]) rfl rfl ?_
    refine q_iload gg131_0 rfl ?_
    refine z_const gg131_1 (v := 0) rfl ?_
    refine z_const gg131_2 (v := 7) rfl ?_
    refine q_call3 gg131_4 tt124 rfl (Nat.le_of_ble_eq_true rfl) rfl (ls' := [some _, some _, some _]) rfl rfl ?_
    refine q_iload gg124_0 rfl ?_
    refine q_iload gg124_1 rfl ?_
    refine z_icmplt gg124_2 (tg := 14) rfl (by omega) (by omega) (fun c1 => ?_) (fun c1 => ?_)
    · try (exfalso; omega)
      all_goals (
        refine z_const gg124_14 (v := 0) rfl ?_
        refine z_zretC gg124_15 (by omega) ?_
        refine z_zretC gg131_7 (by omega) ?_
        refine z_ifeq gg137_4 (tg := 14) rfl (by decide) (fun _ => ?_) (fun z => absurd z (by decide))
        refine z_neg gg137_14 ?_
        refine q_iret gg137_16 ?_
        exfalso
        omega
      )
    · try (exfalso; omega)
      all_goals (
        refine q_iload gg124_5 rfl ?_
        refine q_iload gg124_6 rfl ?_
        refine z_icmpgt gg124_7 (tg := 14) rfl (by omega) (by omega) (fun c2 => ?_) (fun c2 => ?_)
        · try (exfalso; omega)
          all_goals (
            refine z_const gg124_14 (v := 0) rfl ?_
            refine z_zretC gg124_15 (by omega) ?_
            refine z_zretC gg131_7 (by omega) ?_
            refine z_ifeq gg137_4 (tg := 14) rfl (by decide) (fun _ => ?_) (fun z => absurd z (by decide))
            refine z_neg gg137_14 ?_
            refine q_iret gg137_16 ?_
            exfalso
            omega
          )
        · try (exfalso; omega)
          all_goals (
            refine z_const gg124_10 (v := 1) rfl ?_
            refine q_goto gg124_11 (tg := 15) rfl ?_
            refine z_zretC gg124_15 (by omega) ?_
            refine z_zretC gg131_7 (by omega) ?_
            refine z_ifeq gg137_4 (tg := 14) rfl (by decide) (fun z => absurd z (by decide)) (fun _ => ?_)
            refine q_iload gg137_7 rfl ?_
            refine q_call1 gg137_8 tt131 rfl (Nat.le_of_ble_eq_true rfl) rfl (ls' := [some _]) rfl rfl ?_
            refine q_iload gg131_0 rfl ?_
            refine z_const gg131_1 (v := 0) rfl ?_
            refine z_const gg131_2 (v := 7) rfl ?_
            refine q_call3 gg131_4 tt124 rfl (Nat.le_of_ble_eq_true rfl) rfl (ls' := [some _, some _, some _]) rfl rfl ?_
            refine q_iload gg124_0 rfl ?_
            refine q_iload gg124_1 rfl ?_
            refine z_icmplt gg124_2 (tg := 14) rfl (by omega) (by omega) (fun c3 => ?_) (fun c3 => ?_)
            · try (exfalso; omega)
              all_goals (
                refine z_const gg124_14 (v := 0) rfl ?_
                refine z_zretC gg124_15 (by omega) ?_
                refine z_zretC gg131_7 (by omega) ?_
                refine z_ifne gg137_11 (tg := 17) rfl (by decide) (fun z => absurd z (by decide)) (fun _ => ?_)
                refine z_neg gg137_14 ?_
                refine q_iret gg137_16 ?_
                exfalso
                omega
              )
            · try (exfalso; omega)
              all_goals (
                refine q_iload gg124_5 rfl ?_
                refine q_iload gg124_6 rfl ?_
                refine z_icmpgt gg124_7 (tg := 14) rfl (by omega) (by omega) (fun c4 => ?_) (fun c4 => ?_)
                · try (exfalso; omega)
                  all_goals (
                    refine z_const gg124_14 (v := 0) rfl ?_
                    refine z_zretC gg124_15 (by omega) ?_
                    refine z_zretC gg131_7 (by omega) ?_
                    refine z_ifne gg137_11 (tg := 17) rfl (by decide) (fun z => absurd z (by decide)) (fun _ => ?_)
                    refine z_neg gg137_14 ?_
                    refine q_iret gg137_16 ?_
                    exfalso
                    omega
                  )
                · try (exfalso; omega)
                  all_goals (
                    refine z_const gg124_10 (v := 1) rfl ?_
                    refine q_goto gg124_11 (tg := 15) rfl ?_
                    refine z_zretC gg124_15 (by omega) ?_
                    refine z_zretC gg131_7 (by omega) ?_
                    refine z_ifne gg137_11 (tg := 17) rfl (by decide) (fun _ => ?_) (fun z => absurd z (by decide))
                    refine q_aload gg137_17 rfl ?_
                    refine q_iload gg137_18 rfl ?_
                    refine q_call2 gg137_19 tt132 rfl (Nat.le_of_ble_eq_true rfl) (hm_rv (by decide +kernel)) (ls' := [some _, some _]) rfl rfl ?_
                    refine q_aload gg132_0 rfl ?_
                    refine q_getr gg132_1 rfl ?_
                    refine q_iload gg132_4 rfl ?_
                    first | (refine z_alr gg132_5 (by first | rfl | assumption) (by assumption) (by omega) (by omega) (by omega) (by decide) (fun visMissing_5 evisMissing_5 lvisMissing_5 uvisMissing_5 => ?_); try dsimp only at evisMissing_5) | (refine z_alx gg132_5 rfl (by assumption) (by omega) (by omega) (by first | omega | decide) (by decide) (fun visMissing_5 evisMissing_5 lvisMissing_5 uvisMissing_5 => ?_); try dsimp only at evisMissing_5) | refine z_alq gg132_5 rfl (by omega) (by omega) (by decide) ?_
                    refine z_neg gg132_6 ?_
                    refine z_icmpne gg132_8 (tg := 15) rfl (by omega) (by omega) (fun c5 => ?_) (fun c5 => ?_)
                    · try (exfalso; omega)
                      all_goals (
                        refine z_const gg132_15 (v := 0) rfl ?_
                        refine z_zretC gg132_16 (by omega) ?_
                        refine z_ifne gg137_22 (tg := 33) rfl (by decide) (fun z => absurd z (by decide)) (fun _ => ?_)
                        refine q_aload gg137_25 rfl ?_
                        refine q_iload gg137_26 rfl ?_
                        refine q_call2 gg137_27 tt132 rfl (Nat.le_of_ble_eq_true rfl) (hm_rv (by decide +kernel)) (ls' := [some _, some _]) rfl rfl ?_
                        refine q_aload gg132_0 rfl ?_
                        refine q_getr gg132_1 rfl ?_
                        refine q_iload gg132_4 rfl ?_
                        first | (refine z_alr gg132_5 (by first | rfl | assumption) (by assumption) (by omega) (by omega) (by omega) (by decide) (fun visMissing_5 evisMissing_5 lvisMissing_5 uvisMissing_5 => ?_); try dsimp only at evisMissing_5) | (refine z_alx gg132_5 rfl (by assumption) (by omega) (by omega) (by first | omega | decide) (by decide) (fun visMissing_5 evisMissing_5 lvisMissing_5 uvisMissing_5 => ?_); try dsimp only at evisMissing_5) | refine z_alq gg132_5 rfl (by omega) (by omega) (by decide) ?_
                        refine z_neg gg132_6 ?_
                        refine z_icmpne gg132_8 (tg := 15) rfl (by omega) (by omega) (fun c6 => ?_) (fun c6 => ?_)
                        · try (exfalso; omega)
                          all_goals (
                            refine z_const gg132_15 (v := 0) rfl ?_
                            refine z_zretC gg132_16 (by omega) ?_
                            refine z_ifeq gg137_30 (tg := 39) rfl (by decide) (fun _ => ?_) (fun z => absurd z (by decide))
                            refine q_aload gg137_39 rfl ?_
                            refine q_getr gg137_40 rfl ?_
                            refine q_iload gg137_43 rfl ?_
                            first | (refine z_alr gg137_44 (by first | rfl | assumption) (by assumption) (by omega) (by omega) (by omega) (by decide) (fun v44 ev44 lv44 uv44 => ?_); try dsimp only at ev44) | (refine z_alx gg137_44 rfl (by assumption) (by omega) (by omega) (by first | omega | decide) (by decide) (fun v44 ev44 lv44 uv44 => ?_); try dsimp only at ev44) | refine z_alq gg137_44 rfl (by omega) (by omega) (by decide) ?_
                            refine q_aload gg137_45 rfl ?_
                            refine q_getr gg137_46 rfl ?_
                            refine q_iload gg137_49 rfl ?_
                            first | (refine z_alr gg137_50 (by first | rfl | assumption) (by assumption) (by omega) (by omega) (by omega) (by decide) (fun v50 ev50 lv50 uv50 => ?_); try dsimp only at ev50) | (refine z_alx gg137_50 rfl (by assumption) (by omega) (by omega) (by first | omega | decide) (by decide) (fun v50 ev50 lv50 uv50 => ?_); try dsimp only at ev50) | refine z_alq gg137_50 rfl (by omega) (by omega) (by decide) ?_
                            refine z_icmpeq gg137_51 (tg := 60) rfl (by omega) (by omega) (fun c7 => ?_) (fun c7 => ?_)
                            · try (exfalso; omega)
                              all_goals (
                                refine q_aload gg137_60 rfl ?_
                                refine q_iload gg137_61 rfl ?_
                                refine q_iload gg137_62 rfl ?_
                                refine q_iload gg137_63 rfl ?_
                                refine q_call4 gg137_65 tt136 rfl (Nat.le_of_ble_eq_true rfl) (hm_rv (by decide +kernel)) (ls' := [some _, some _, some _, some _]) rfl rfl ?_
                                refine q_iload gg136_0 rfl ?_
                                refine z_iflt gg136_1 (tg := 34) rfl (by omega) (fun c8 => ?_) (fun c8 => ?_)
                                · try (exfalso; omega)
                                  all_goals (
                                    refine z_const gg136_34 (v := 0) rfl ?_
                                    refine z_zretC gg136_35 (by omega) ?_
                                    refine z_ifeq gg137_68 (tg := 83) rfl (by decide) (fun _ => ?_) (fun z => absurd z (by decide))
                                    refine q_aload gg137_83 rfl ?_
                                    refine z_const gg137_84 (v := 2) rfl ?_
                                    refine q_call2 gg137_85 tt128 rfl (Nat.le_of_ble_eq_true rfl) (hm_rv (by decide +kernel)) (ls' := [some _, some _]) rfl rfl ?_
                                    refine q_aload gg128_0 rfl ?_
                                    refine q_iload gg128_1 rfl ?_
                                    refine q_putf gg128_2 rfl ?_
                                    refine z_neg gg128_5 ?_
                                    refine q_iload gg128_7 rfl ?_
                                    first | refine z_isub gg128_8 ?_ | refine q_isub gg128_8 ?_
                                    refine q_iretC gg128_9 ?_
                                    refine q_iret gg137_88 ?_
                                    rw [if_neg (by omega), if_neg (by omega), if_neg (by omega)] at hC
                                    rw [hC] at k0
                                    exact k0 (by decide) _ (F30.up (M := M) (x := zI 2) FR.rf) up_at
                                  )
                                · try (exfalso; omega)
                                  all_goals (
                                    refine q_iload gg136_4 rfl ?_
                                    refine z_iflt gg136_5 (tg := 34) rfl (by omega) (fun c9 => ?_) (fun c9 => ?_)
                                    · try (exfalso; omega)
                                      all_goals (
                                        refine z_const gg136_34 (v := 0) rfl ?_
                                        refine z_zretC gg136_35 (by omega) ?_
                                        refine z_ifeq gg137_68 (tg := 83) rfl (by decide) (fun _ => ?_) (fun z => absurd z (by decide))
                                        refine q_aload gg137_83 rfl ?_
                                        refine z_const gg137_84 (v := 2) rfl ?_
                                        refine q_call2 gg137_85 tt128 rfl (Nat.le_of_ble_eq_true rfl) (hm_rv (by decide +kernel)) (ls' := [some _, some _]) rfl rfl ?_
                                        refine q_aload gg128_0 rfl ?_
                                        refine q_iload gg128_1 rfl ?_
                                        refine q_putf gg128_2 rfl ?_
                                        refine z_neg gg128_5 ?_
                                        refine q_iload gg128_7 rfl ?_
                                        first | refine z_isub gg128_8 ?_ | refine q_isub gg128_8 ?_
                                        refine q_iretC gg128_9 ?_
                                        refine q_iret gg137_88 ?_
                                        rw [if_neg (by omega), if_neg (by omega), if_neg (by omega)] at hC
                                        rw [hC] at k0
                                        exact k0 (by decide) _ (F30.up (M := M) (x := zI 2) FR.rf) up_at
                                      )
                                    · try (exfalso; omega)
                                      all_goals (
                                        refine q_iload gg136_8 rfl ?_
                                        refine q_aload gg136_9 rfl ?_
                                        refine q_getr gg136_10 rfl ?_
                                        refine q_iload gg136_13 rfl ?_
                                        first | (refine z_alr gg136_14 (by first | rfl | assumption) (by assumption) (by omega) (by omega) (by omega) (by decide) (fun visPart_14 evisPart_14 lvisPart_14 uvisPart_14 => ?_); try dsimp only at evisPart_14) | (refine z_alx gg136_14 rfl (by assumption) (by omega) (by omega) (by first | omega | decide) (by decide) (fun visPart_14 evisPart_14 lvisPart_14 uvisPart_14 => ?_); try dsimp only at evisPart_14) | refine z_alq gg136_14 rfl (by omega) (by omega) (by decide) ?_
                                        refine z_icmpgt gg136_15 (tg := 34) rfl (by omega) (by omega) (fun c10 => ?_) (fun c10 => ?_)
                                        · try (exfalso; omega)
                                          all_goals (
                                            refine z_const gg136_34 (v := 0) rfl ?_
                                            refine z_zretC gg136_35 (by omega) ?_
                                            refine z_ifeq gg137_68 (tg := 83) rfl (by decide) (fun _ => ?_) (fun z => absurd z (by decide))
                                            refine q_aload gg137_83 rfl ?_
                                            refine z_const gg137_84 (v := 2) rfl ?_
                                            refine q_call2 gg137_85 tt128 rfl (Nat.le_of_ble_eq_true rfl) (hm_rv (by decide +kernel)) (ls' := [some _, some _]) rfl rfl ?_
                                            refine q_aload gg128_0 rfl ?_
                                            refine q_iload gg128_1 rfl ?_
                                            refine q_putf gg128_2 rfl ?_
                                            refine z_neg gg128_5 ?_
                                            refine q_iload gg128_7 rfl ?_
                                            first | refine z_isub gg128_8 ?_ | refine q_isub gg128_8 ?_
                                            refine q_iretC gg128_9 ?_
                                            refine q_iret gg137_88 ?_
                                            rw [if_neg (by omega), if_neg (by omega), if_neg (by omega)] at hC
                                            rw [hC] at k0
                                            exact k0 (by decide) _ (F30.up (M := M) (x := zI 2) FR.rf) up_at
                                          )
                                        · try (exfalso; omega)
                                          all_goals (
                                            refine q_iload gg136_18 rfl ?_
                                            refine q_aload gg136_19 rfl ?_
                                            refine q_getr gg136_20 rfl ?_
                                            refine q_iload gg136_23 rfl ?_
                                            first | (refine z_alr gg136_24 (by first | rfl | assumption) (by assumption) (by omega) (by omega) (by omega) (by decide) (fun visPart_24 evisPart_24 lvisPart_24 uvisPart_24 => ?_); try dsimp only at evisPart_24) | (refine z_alx gg136_24 rfl (by assumption) (by omega) (by omega) (by first | omega | decide) (by decide) (fun visPart_24 evisPart_24 lvisPart_24 uvisPart_24 => ?_); try dsimp only at evisPart_24) | refine z_alq gg136_24 rfl (by omega) (by omega) (by decide) ?_
                                            refine q_iload gg136_25 rfl ?_
                                            first | refine z_isub gg136_26 ?_ | refine q_isub gg136_26 ?_
                                            refine z_icmpgt gg136_27 (tg := 34) rfl (by omega) (by omega) (fun c11 => ?_) (fun c11 => ?_)
                                            · try (exfalso; omega)
                                              all_goals (
                                                refine z_const gg136_34 (v := 0) rfl ?_
                                                refine z_zretC gg136_35 (by omega) ?_
                                                refine z_ifeq gg137_68 (tg := 83) rfl (by decide) (fun _ => ?_) (fun z => absurd z (by decide))
                                                refine q_aload gg137_83 rfl ?_
                                                refine z_const gg137_84 (v := 2) rfl ?_
                                                refine q_call2 gg137_85 tt128 rfl (Nat.le_of_ble_eq_true rfl) (hm_rv (by decide +kernel)) (ls' := [some _, some _]) rfl rfl ?_
                                                refine q_aload gg128_0 rfl ?_
                                                refine q_iload gg128_1 rfl ?_
                                                refine q_putf gg128_2 rfl ?_
                                                refine z_neg gg128_5 ?_
                                                refine q_iload gg128_7 rfl ?_
                                                first | refine z_isub gg128_8 ?_ | refine q_isub gg128_8 ?_
                                                refine q_iretC gg128_9 ?_
                                                refine q_iret gg137_88 ?_
                                                rw [if_neg (by omega), if_neg (by omega), if_neg (by omega)] at hC
                                                rw [hC] at k0
                                                exact k0 (by decide) _ (F30.up (M := M) (x := zI 2) FR.rf) up_at
                                              )
                                            · try (exfalso; omega)
                                              all_goals (
                                                refine z_const gg136_30 (v := 1) rfl ?_
                                                refine q_goto gg136_31 (tg := 35) rfl ?_
                                                refine z_zretC gg136_35 (by omega) ?_
                                                refine z_ifeq gg137_68 (tg := 83) rfl (by decide) (fun z => absurd z (by decide)) (fun _ => ?_)
                                                refine q_aload gg137_71 rfl ?_
                                                refine q_iload gg137_72 rfl ?_
                                                refine q_iload gg137_73 rfl ?_
                                                refine q_iload gg137_75 rfl ?_
                                                refine q_call4 gg137_77 tt136 rfl (Nat.le_of_ble_eq_true rfl) (hm_rv (by decide +kernel)) (ls' := [some _, some _, some _, some _]) rfl rfl ?_
                                                refine q_iload gg136_0 rfl ?_
                                                refine z_iflt gg136_1 (tg := 34) rfl (by omega) (fun c12 => ?_) (fun c12 => ?_)
                                                · try (exfalso; omega)
                                                  all_goals (
                                                    refine z_const gg136_34 (v := 0) rfl ?_
                                                    refine z_zretC gg136_35 (by omega) ?_
                                                    refine z_ifne gg137_80 (tg := 89) rfl (by decide) (fun z => absurd z (by decide)) (fun _ => ?_)
                                                    refine q_aload gg137_83 rfl ?_
                                                    refine z_const gg137_84 (v := 2) rfl ?_
                                                    refine q_call2 gg137_85 tt128 rfl (Nat.le_of_ble_eq_true rfl) (hm_rv (by decide +kernel)) (ls' := [some _, some _]) rfl rfl ?_
                                                    refine q_aload gg128_0 rfl ?_
                                                    refine q_iload gg128_1 rfl ?_
                                                    refine q_putf gg128_2 rfl ?_
                                                    refine z_neg gg128_5 ?_
                                                    refine q_iload gg128_7 rfl ?_
                                                    first | refine z_isub gg128_8 ?_ | refine q_isub gg128_8 ?_
                                                    refine q_iretC gg128_9 ?_
                                                    refine q_iret gg137_88 ?_
                                                    rw [if_neg (by omega), if_neg (by omega), if_neg (by omega)] at hC
                                                    rw [hC] at k0
                                                    exact k0 (by decide) _ (F30.up (M := M) (x := zI 2) FR.rf) up_at
                                                  )
                                                · try (exfalso; omega)
                                                  all_goals (
                                                    refine q_iload gg136_4 rfl ?_
                                                    refine z_iflt gg136_5 (tg := 34) rfl (by omega) (fun c13 => ?_) (fun c13 => ?_)
                                                    · try (exfalso; omega)
                                                      all_goals (
                                                        refine z_const gg136_34 (v := 0) rfl ?_
                                                        refine z_zretC gg136_35 (by omega) ?_
                                                        refine z_ifne gg137_80 (tg := 89) rfl (by decide) (fun z => absurd z (by decide)) (fun _ => ?_)
                                                        refine q_aload gg137_83 rfl ?_
                                                        refine z_const gg137_84 (v := 2) rfl ?_
                                                        refine q_call2 gg137_85 tt128 rfl (Nat.le_of_ble_eq_true rfl) (hm_rv (by decide +kernel)) (ls' := [some _, some _]) rfl rfl ?_
                                                        refine q_aload gg128_0 rfl ?_
                                                        refine q_iload gg128_1 rfl ?_
                                                        refine q_putf gg128_2 rfl ?_
                                                        refine z_neg gg128_5 ?_
                                                        refine q_iload gg128_7 rfl ?_
                                                        first | refine z_isub gg128_8 ?_ | refine q_isub gg128_8 ?_
                                                        refine q_iretC gg128_9 ?_
                                                        refine q_iret gg137_88 ?_
                                                        rw [if_neg (by omega), if_neg (by omega), if_neg (by omega)] at hC
                                                        rw [hC] at k0
                                                        exact k0 (by decide) _ (F30.up (M := M) (x := zI 2) FR.rf) up_at
                                                      )
                                                    · try (exfalso; omega)
                                                      all_goals (
                                                        refine q_iload gg136_8 rfl ?_
                                                        refine q_aload gg136_9 rfl ?_
                                                        refine q_getr gg136_10 rfl ?_
                                                        refine q_iload gg136_13 rfl ?_
                                                        first | (refine z_alr gg136_14 (by first | rfl | assumption) (by assumption) (by omega) (by omega) (by omega) (by decide) (fun visPart_14 evisPart_14 lvisPart_14 uvisPart_14 => ?_); try dsimp only at evisPart_14) | (refine z_alx gg136_14 rfl (by assumption) (by omega) (by omega) (by first | omega | decide) (by decide) (fun visPart_14 evisPart_14 lvisPart_14 uvisPart_14 => ?_); try dsimp only at evisPart_14) | refine z_alq gg136_14 rfl (by omega) (by omega) (by decide) ?_
                                                        refine z_icmpgt gg136_15 (tg := 34) rfl (by omega) (by omega) (fun c14 => ?_) (fun c14 => ?_)
                                                        · try (exfalso; omega)
                                                          all_goals (
                                                            refine z_const gg136_34 (v := 0) rfl ?_
                                                            refine z_zretC gg136_35 (by omega) ?_
                                                            refine z_ifne gg137_80 (tg := 89) rfl (by decide) (fun z => absurd z (by decide)) (fun _ => ?_)
                                                            refine q_aload gg137_83 rfl ?_
                                                            refine z_const gg137_84 (v := 2) rfl ?_
                                                            refine q_call2 gg137_85 tt128 rfl (Nat.le_of_ble_eq_true rfl) (hm_rv (by decide +kernel)) (ls' := [some _, some _]) rfl rfl ?_
                                                            refine q_aload gg128_0 rfl ?_
                                                            refine q_iload gg128_1 rfl ?_
                                                            refine q_putf gg128_2 rfl ?_
                                                            refine z_neg gg128_5 ?_
                                                            refine q_iload gg128_7 rfl ?_
                                                            first | refine z_isub gg128_8 ?_ | refine q_isub gg128_8 ?_
                                                            refine q_iretC gg128_9 ?_
                                                            refine q_iret gg137_88 ?_
                                                            rw [if_neg (by omega), if_neg (by omega), if_neg (by omega)] at hC
                                                            rw [hC] at k0
                                                            exact k0 (by decide) _ (F30.up (M := M) (x := zI 2) FR.rf) up_at
                                                          )
                                                        · try (exfalso; omega)
                                                          all_goals (
                                                            refine q_iload gg136_18 rfl ?_
                                                            refine q_aload gg136_19 rfl ?_
                                                            refine q_getr gg136_20 rfl ?_
                                                            refine q_iload gg136_23 rfl ?_
                                                            first | (refine z_alr gg136_24 (by first | rfl | assumption) (by assumption) (by omega) (by omega) (by omega) (by decide) (fun visPart_24 evisPart_24 lvisPart_24 uvisPart_24 => ?_); try dsimp only at evisPart_24) | (refine z_alx gg136_24 rfl (by assumption) (by omega) (by omega) (by first | omega | decide) (by decide) (fun visPart_24 evisPart_24 lvisPart_24 uvisPart_24 => ?_); try dsimp only at evisPart_24) | refine z_alq gg136_24 rfl (by omega) (by omega) (by decide) ?_
                                                            refine q_iload gg136_25 rfl ?_
                                                            first | refine z_isub gg136_26 ?_ | refine q_isub gg136_26 ?_
                                                            refine z_icmpgt gg136_27 (tg := 34) rfl (by omega) (by omega) (fun c15 => ?_) (fun c15 => ?_)
                                                            · try (exfalso; omega)
                                                              all_goals (
                                                                refine z_const gg136_34 (v := 0) rfl ?_
                                                                refine z_zretC gg136_35 (by omega) ?_
                                                                refine z_ifne gg137_80 (tg := 89) rfl (by decide) (fun z => absurd z (by decide)) (fun _ => ?_)
                                                                refine q_aload gg137_83 rfl ?_
                                                                refine z_const gg137_84 (v := 2) rfl ?_
                                                                refine q_call2 gg137_85 tt128 rfl (Nat.le_of_ble_eq_true rfl) (hm_rv (by decide +kernel)) (ls' := [some _, some _]) rfl rfl ?_
                                                                refine q_aload gg128_0 rfl ?_
                                                                refine q_iload gg128_1 rfl ?_
                                                                refine q_putf gg128_2 rfl ?_
                                                                refine z_neg gg128_5 ?_
                                                                refine q_iload gg128_7 rfl ?_
                                                                first | refine z_isub gg128_8 ?_ | refine q_isub gg128_8 ?_
                                                                refine q_iretC gg128_9 ?_
                                                                refine q_iret gg137_88 ?_
                                                                rw [if_neg (by omega), if_neg (by omega), if_neg (by omega)] at hC
                                                                rw [hC] at k0
                                                                exact k0 (by decide) _ (F30.up (M := M) (x := zI 2) FR.rf) up_at
                                                              )
                                                            · try (exfalso; omega)
                                                              all_goals (
                                                                refine z_const gg136_30 (v := 1) rfl ?_
                                                                refine q_goto gg136_31 (tg := 35) rfl ?_
                                                                refine z_zretC gg136_35 (by omega) ?_
                                                                refine z_ifne gg137_80 (tg := 89) rfl (by decide) (fun _ => ?_) (fun z => absurd z (by decide))
                                                                refine z_const gg137_89 (v := 0) rfl ?_
                                                                refine q_istore gg137_90 rfl ?_
                                                                rw [if_neg (by omega), if_neg (by omega), if_pos (by omega)] at hC
                                                                refine hm_Wp.eqM (hm_row_self _ 34).symm ?_
                                                                exact L1 hC ⟨by omega, by omega, by omega, by omega, by omega⟩ n.toNat 0 _ (by decide) (by omega) (fun z z0 z1 => by omega)
                                                              )
                                                          )
                                                      )
                                                  )
                                              )
                                          )
                                      )
                                  )
                              )
                            · try (exfalso; omega)
                              all_goals (
                                refine q_aload gg137_54 rfl ?_
                                refine z_const gg137_55 (v := 5) rfl ?_
                                refine q_call2 gg137_56 tt128 rfl (Nat.le_of_ble_eq_true rfl) (hm_rv (by decide +kernel)) (ls' := [some _, some _]) rfl rfl ?_
                                refine q_aload gg128_0 rfl ?_
                                refine q_iload gg128_1 rfl ?_
                                refine q_putf gg128_2 rfl ?_
                                refine z_neg gg128_5 ?_
                                refine q_iload gg128_7 rfl ?_
                                first | refine z_isub gg128_8 ?_ | refine q_isub gg128_8 ?_
                                refine q_iretC gg128_9 ?_
                                refine q_iret gg137_59 ?_
                                rw [if_neg (by omega), if_pos (by omega)] at hC
                                rw [hC] at k0
                                exact k0 (by decide) _ (F30.up (M := M) (x := zI 5) FR.rf) up_at
                              )
                          )
                        · try (exfalso; omega)
                          all_goals (
                            refine z_const gg132_11 (v := 1) rfl ?_
                            refine q_goto gg132_12 (tg := 16) rfl ?_
                            refine z_zretC gg132_16 (by omega) ?_
                            refine z_ifeq gg137_30 (tg := 39) rfl (by decide) (fun z => absurd z (by decide)) (fun _ => ?_)
                            refine q_aload gg137_33 rfl ?_
                            refine z_const gg137_34 (v := 1) rfl ?_
                            refine q_call2 gg137_35 tt128 rfl (Nat.le_of_ble_eq_true rfl) (hm_rv (by decide +kernel)) (ls' := [some _, some _]) rfl rfl ?_
                            refine q_aload gg128_0 rfl ?_
                            refine q_iload gg128_1 rfl ?_
                            refine q_putf gg128_2 rfl ?_
                            refine z_neg gg128_5 ?_
                            refine q_iload gg128_7 rfl ?_
                            first | refine z_isub gg128_8 ?_ | refine q_isub gg128_8 ?_
                            refine q_iretC gg128_9 ?_
                            refine q_iret gg137_38 ?_
                            rw [if_pos (by omega)] at hC
                            rw [hC] at k0
                            exact k0 (by decide) _ (F30.up (M := M) (x := zI 1) FR.rf) up_at
                          )
                      )
                    · try (exfalso; omega)
                      all_goals (
                        refine z_const gg132_11 (v := 1) rfl ?_
                        refine q_goto gg132_12 (tg := 16) rfl ?_
                        refine z_zretC gg132_16 (by omega) ?_
                        refine z_ifne gg137_22 (tg := 33) rfl (by decide) (fun _ => ?_) (fun z => absurd z (by decide))
                        refine q_aload gg137_33 rfl ?_
                        refine z_const gg137_34 (v := 1) rfl ?_
                        refine q_call2 gg137_35 tt128 rfl (Nat.le_of_ble_eq_true rfl) (hm_rv (by decide +kernel)) (ls' := [some _, some _]) rfl rfl ?_
                        refine q_aload gg128_0 rfl ?_
                        refine q_iload gg128_1 rfl ?_
                        refine q_putf gg128_2 rfl ?_
                        refine z_neg gg128_5 ?_
                        refine q_iload gg128_7 rfl ?_
                        first | refine z_isub gg128_8 ?_ | refine q_isub gg128_8 ?_
                        refine q_iretC gg128_9 ?_
                        refine q_iret gg137_38 ?_
                        rw [if_pos (by omega)] at hC
                        rw [hC] at k0
                        exact k0 (by decide) _ (F30.up (M := M) (x := zI 1) FR.rf) up_at
                      )
                  )
              )
          )
      )
  · rw [if_neg hin] at hC
    rw [hC] at k0
    have kq := k0 (by decide) M FR.rf.f30 h0
    refine q_iload gg137_0 rfl ?_
    refine q_call1 gg137_1 tt131 rfl (Nat.le_of_ble_eq_true rfl) rfl (ls' := [some _]) rfl rfl ?_
    refine q_iload gg131_0 rfl ?_
    refine z_const gg131_1 (v := 0) rfl ?_
    refine z_const gg131_2 (v := 7) rfl ?_
    refine q_call3 gg131_4 tt124 rfl (Nat.le_of_ble_eq_true rfl) rfl (ls' := [some _, some _, some _]) rfl rfl ?_
    refine q_iload gg124_0 rfl ?_
    refine q_iload gg124_1 rfl ?_
    refine z_icmplt gg124_2 (tg := 14) rfl (by omega) (by omega) (fun c1 => ?_) (fun c1 => ?_)
    · try (exfalso; omega)
      all_goals (
        refine z_const gg124_14 (v := 0) rfl ?_
        refine z_zretC gg124_15 (by omega) ?_
        refine z_zretC gg131_7 (by omega) ?_
        refine z_ifeq gg137_4 (tg := 14) rfl (by decide) (fun _ => ?_) (fun z => absurd z (by decide))
        refine z_neg gg137_14 ?_
        refine q_iret gg137_16 ?_
        exact kq
      )
    · try (exfalso; omega)
      all_goals (
        refine q_iload gg124_5 rfl ?_
        refine q_iload gg124_6 rfl ?_
        refine z_icmpgt gg124_7 (tg := 14) rfl (by omega) (by omega) (fun c2 => ?_) (fun c2 => ?_)
        · try (exfalso; omega)
          all_goals (
            refine z_const gg124_14 (v := 0) rfl ?_
            refine z_zretC gg124_15 (by omega) ?_
            refine z_zretC gg131_7 (by omega) ?_
            refine z_ifeq gg137_4 (tg := 14) rfl (by decide) (fun _ => ?_) (fun z => absurd z (by decide))
            refine z_neg gg137_14 ?_
            refine q_iret gg137_16 ?_
            exact kq
          )
        · try (exfalso; omega)
          all_goals (
            refine z_const gg124_10 (v := 1) rfl ?_
            refine q_goto gg124_11 (tg := 15) rfl ?_
            refine z_zretC gg124_15 (by omega) ?_
            refine z_zretC gg131_7 (by omega) ?_
            refine z_ifeq gg137_4 (tg := 14) rfl (by decide) (fun z => absurd z (by decide)) (fun _ => ?_)
            refine q_iload gg137_7 rfl ?_
            refine q_call1 gg137_8 tt131 rfl (Nat.le_of_ble_eq_true rfl) rfl (ls' := [some _]) rfl rfl ?_
            refine q_iload gg131_0 rfl ?_
            refine z_const gg131_1 (v := 0) rfl ?_
            refine z_const gg131_2 (v := 7) rfl ?_
            refine q_call3 gg131_4 tt124 rfl (Nat.le_of_ble_eq_true rfl) rfl (ls' := [some _, some _, some _]) rfl rfl ?_
            refine q_iload gg124_0 rfl ?_
            refine q_iload gg124_1 rfl ?_
            refine z_icmplt gg124_2 (tg := 14) rfl (by omega) (by omega) (fun c3 => ?_) (fun c3 => ?_)
            · try (exfalso; omega)
              all_goals (
                refine z_const gg124_14 (v := 0) rfl ?_
                refine z_zretC gg124_15 (by omega) ?_
                refine z_zretC gg131_7 (by omega) ?_
                refine z_ifne gg137_11 (tg := 17) rfl (by decide) (fun z => absurd z (by decide)) (fun _ => ?_)
                refine z_neg gg137_14 ?_
                refine q_iret gg137_16 ?_
                exact kq
              )
            · try (exfalso; omega)
              all_goals (
                refine q_iload gg124_5 rfl ?_
                refine q_iload gg124_6 rfl ?_
                refine z_icmpgt gg124_7 (tg := 14) rfl (by omega) (by omega) (fun c4 => ?_) (fun c4 => ?_)
                · try (exfalso; omega)
                  all_goals (
                    refine z_const gg124_14 (v := 0) rfl ?_
                    refine z_zretC gg124_15 (by omega) ?_
                    refine z_zretC gg131_7 (by omega) ?_
                    refine z_ifne gg137_11 (tg := 17) rfl (by decide) (fun z => absurd z (by decide)) (fun _ => ?_)
                    refine z_neg gg137_14 ?_
                    refine q_iret gg137_16 ?_
                    exact kq
                  )
                · try (exfalso; omega)
                  all_goals (
                    refine z_const gg124_10 (v := 1) rfl ?_
                    refine q_goto gg124_11 (tg := 15) rfl ?_
                    refine z_zretC gg124_15 (by omega) ?_
                    refine z_zretC gg131_7 (by omega) ?_
                    refine z_ifne gg137_11 (tg := 17) rfl (by decide) (fun _ => ?_) (fun z => absurd z (by decide))
                    exfalso
                    omega
                  )
              )
          )
      )
end W4
