section W3
variable {d r mid pc nx k dd : Nat} {M N : hm_M} {w g ln lg it tp : Int → Int} {b n e x a s y c q i j p st ro la v tl fk : Int} {f F : Nat → Int32} {Q : Option hm_V → hm_M → Prop}
def setC (ln lg : Int → Int) (ro i : Int) : Int := if 0 ≤ ro ∧ ro ≤ 7 then (if ln ro = -1000000 then 1 else if 0 ≤ i ∧ i < lg ro then 0 else 2) else 9
theorem RW_set (h : RW ln lg it) (hx : zR x) : RW ln lg (zup it p x) := by
  refine ⟨h.1, h.2.1, fun i => ?_⟩
  simp only [zup]; split
  · exact hx
  · exact h.2.2 i
theorem c_set (hro : zR ro) (hi : zR i) (hv : zR v) (h0 : M 0 8 = zI st) (hR : RC M ln lg it) (hW : RW ln lg it) (k0 : setC ln lg ro i ≠ 0 → ∀ M', FC0 M M' → M' 0 8 = zI (nSt st (setC ln lg ro i)) → Q (some (.inl (zI (cAns (setC ln lg ro i) (cutV (ln ro) v))))) M') (k1 : setC ln lg ro i = 0 → ∀ M', RC M' ln lg (zup it (40 * ro + i) (cutV (ln ro) v)) → FW M M' → M' 0 8 = zI 0 → Q (some (.inl (zI (cAns (setC ln lg ro i) (cutV (ln ro) v))))) M') : hm_Wp (d + 6) 85 0 [some (.inr (.inr 0)), some (.inl (zI ro)), some (.inl (zI i)), some (.inl (zI v))] [] M Q := by
  have hR' := hR
  obtain ⟨r2, r3, r4⟩ := hR
  unfold zR at hro hi
  have hC : setC ln lg ro i = if 0 ≤ ro ∧ ro ≤ 7 then (if ln ro = -1000000 then 1 else if 0 ≤ i ∧ i < lg ro then 0 else 2) else 9 := rfl
  by_cases hin : 0 ≤ ro ∧ ro ≤ 7
  · rw [if_pos hin] at hC
    obtain ⟨ro0, ro1⟩ := hin
    have w1 := hW.1 ro ro0 (by omega)
    have w2 := hW.2.1 ro ro0 (by omega)
    refine q_iload gg85_0 rfl ?_
    refine q_call1 gg85_1 tt57 rfl (Nat.le_of_ble_eq_true rfl) rfl (ls' := [some _]) rfl rfl ?_
    refine q_iload gg57_0 rfl ?_
    refine z_iflt gg57_1 (tg := 14) rfl (by omega) (fun c1 => ?_) (fun c1 => ?_)
    · try (exfalso; omega)
      all_goals (
        refine z_const gg57_14 (v := 0) rfl ?_
        refine z_zretC gg57_15 (by omega) ?_
        refine z_ifne gg85_4 (tg := 10) rfl (by decide) (fun z => absurd z (by decide)) (fun _ => ?_)
        refine z_neg gg85_7 ?_
        refine q_iret gg85_9 ?_
        exfalso
        omega
      )
    · try (exfalso; omega)
      all_goals (
        refine q_iload gg57_4 rfl ?_
        refine z_const gg57_5 (v := 8) rfl ?_
        refine z_icmpge gg57_7 (tg := 14) rfl (by omega) (by omega) (fun c2 => ?_) (fun c2 => ?_)
        · try (exfalso; omega)
          all_goals (
            refine z_const gg57_14 (v := 0) rfl ?_
            refine z_zretC gg57_15 (by omega) ?_
            refine z_ifne gg85_4 (tg := 10) rfl (by decide) (fun z => absurd z (by decide)) (fun _ => ?_)
            refine z_neg gg85_7 ?_
            refine q_iret gg85_9 ?_
            exfalso
            omega
          )
        · try (exfalso; omega)
          all_goals (
            refine z_const gg57_10 (v := 1) rfl ?_
            refine q_goto gg57_11 (tg := 15) rfl ?_
            refine z_zretC gg57_15 (by omega) ?_
            refine z_ifne gg85_4 (tg := 10) rfl (by decide) (fun _ => ?_) (fun z => absurd z (by decide))
            refine q_aload gg85_10 rfl ?_
            refine q_getr gg85_11 rfl ?_
            refine q_iload gg85_14 rfl ?_
            refine q_call2 gg85_15 tt59 rfl (Nat.le_of_ble_eq_true rfl) (hm_rv (by decide +kernel)) (ls' := [some _, some _]) rfl rfl ?_
            refine q_aload gg59_0 rfl ?_
            refine q_getr gg59_1 rfl ?_
            refine q_iload gg59_4 rfl ?_
            first | (refine z_alr gg59_5 (by first | rfl | assumption) (by assumption) (by omega) (by omega) (by omega) (by decide) (fun visMissing_5 evisMissing_5 lvisMissing_5 uvisMissing_5 => ?_); try dsimp only at evisMissing_5) | (refine z_alx gg59_5 rfl (by assumption) (by omega) (by omega) (by first | omega | decide) (by decide) (fun visMissing_5 evisMissing_5 lvisMissing_5 uvisMissing_5 => ?_); try dsimp only at evisMissing_5) | refine z_alq gg59_5 rfl (by omega) (by omega) (by decide) ?_
            refine z_neg gg59_6 ?_
            refine z_icmpne gg59_7 (tg := 14) rfl (by omega) (by omega) (fun c3 => ?_) (fun c3 => ?_)
            · try (exfalso; omega)
              all_goals (
                refine z_const gg59_14 (v := 0) rfl ?_
                refine z_zretC gg59_15 (by omega) ?_
                refine z_ifeq gg85_18 (tg := 27) rfl (by decide) (fun _ => ?_) (fun z => absurd z (by decide))
                refine q_aload gg85_27 rfl ?_
                refine q_getr gg85_28 rfl ?_
                refine q_iload gg85_31 rfl ?_
                refine q_iload gg85_32 rfl ?_
                refine z_const gg85_33 (v := 1) rfl ?_
                refine q_call4 gg85_34 tt61 rfl (Nat.le_of_ble_eq_true rfl) (hm_rv (by decide +kernel)) (ls' := [some _, some _, some _, some _]) rfl rfl ?_
                refine q_iload gg61_0 rfl ?_
                refine z_iflt gg61_1 (tg := 24) rfl (by omega) (fun c4 => ?_) (fun c4 => ?_)
                · try (exfalso; omega)
                  all_goals (
                    refine z_const gg61_24 (v := 0) rfl ?_
                    refine z_zretC gg61_25 (by omega) ?_
                    refine z_ifne gg85_37 (tg := 46) rfl (by decide) (fun z => absurd z (by decide)) (fun _ => ?_)
                    refine q_aload gg85_40 rfl ?_
                    refine z_const gg85_41 (v := 2) rfl ?_
                    refine q_call2 gg85_42 tt120 rfl (Nat.le_of_ble_eq_true rfl) (hm_rv (by decide +kernel)) (ls' := [some _, some _]) rfl rfl ?_
                    refine q_aload gg120_0 rfl ?_
                    refine q_iload gg120_1 rfl ?_
                    refine q_putf gg120_2 rfl ?_
                    refine z_neg gg120_5 ?_
                    refine q_iload gg120_8 rfl ?_
                    first | refine z_isub gg120_9 ?_ | refine q_isub gg120_9 ?_
                    refine q_iretC gg120_10 ?_
                    refine q_iret gg85_45 ?_
                    rw [if_neg (by (repeat' split at evisMissing_5) <;> omega), if_neg (by omega)] at hC
                    rw [hC] at k0
                    exact k0 (by decide) _ (FT.rf.f0.up (M := M) (x := zI 2)) up_at
                  )
                · try (exfalso; omega)
                  all_goals (
                    refine q_iload gg61_4 rfl ?_
                    refine z_iflt gg61_5 (tg := 24) rfl (by decide) (fun z => absurd z (by decide)) (fun _ => ?_)
                    refine q_iload gg61_8 rfl ?_
                    refine q_aload gg61_9 rfl ?_
                    refine q_getr gg61_10 rfl ?_
                    refine q_iload gg61_13 rfl ?_
                    first | (refine z_alr gg61_14 (by first | rfl | assumption) (by assumption) (by omega) (by omega) (by omega) (by decide) (fun vhasRun_14 evhasRun_14 lvhasRun_14 uvhasRun_14 => ?_); try dsimp only at evhasRun_14) | (refine z_alx gg61_14 rfl (by assumption) (by omega) (by omega) (by first | omega | decide) (by decide) (fun vhasRun_14 evhasRun_14 lvhasRun_14 uvhasRun_14 => ?_); try dsimp only at evhasRun_14) | refine z_alq gg61_14 rfl (by omega) (by omega) (by decide) ?_
                    refine q_iload gg61_15 rfl ?_
                    first | refine z_isub gg61_16 ?_ | refine q_isub gg61_16 ?_
                    refine z_icmpgt gg61_17 (tg := 24) rfl (by omega) (by omega) (fun c5 => ?_) (fun c5 => ?_)
                    · try (exfalso; omega)
                      all_goals (
                        refine z_const gg61_24 (v := 0) rfl ?_
                        refine z_zretC gg61_25 (by omega) ?_
                        refine z_ifne gg85_37 (tg := 46) rfl (by decide) (fun z => absurd z (by decide)) (fun _ => ?_)
                        refine q_aload gg85_40 rfl ?_
                        refine z_const gg85_41 (v := 2) rfl ?_
                        refine q_call2 gg85_42 tt120 rfl (Nat.le_of_ble_eq_true rfl) (hm_rv (by decide +kernel)) (ls' := [some _, some _]) rfl rfl ?_
                        refine q_aload gg120_0 rfl ?_
                        refine q_iload gg120_1 rfl ?_
                        refine q_putf gg120_2 rfl ?_
                        refine z_neg gg120_5 ?_
                        refine q_iload gg120_8 rfl ?_
                        first | refine z_isub gg120_9 ?_ | refine q_isub gg120_9 ?_
                        refine q_iretC gg120_10 ?_
                        refine q_iret gg85_45 ?_
                        rw [if_neg (by (repeat' split at evisMissing_5) <;> omega), if_neg (by omega)] at hC
                        rw [hC] at k0
                        exact k0 (by decide) _ (FT.rf.f0.up (M := M) (x := zI 2)) up_at
                      )
                    · try (exfalso; omega)
                      all_goals (
                        refine z_const gg61_20 (v := 1) rfl ?_
                        refine q_goto gg61_21 (tg := 25) rfl ?_
                        refine z_zretC gg61_25 (by omega) ?_
                        refine z_ifne gg85_37 (tg := 46) rfl (by decide) (fun _ => ?_) (fun z => absurd z (by decide))
                        have hl : ln ro ≠ -1000000 := by (repeat' split at evisMissing_5) <;> omega
                        rw [if_neg hl, if_pos (by omega)] at hC
                        rw [hC] at k1
                        have hcv := cutV_R (la := ln ro) hv
                        refine q_aload gg85_46 rfl ?_
                        refine q_aload gg85_47 rfl ?_
                        refine q_getr gg85_48 rfl ?_
                        refine q_iload gg85_51 rfl ?_
                        refine q_iload gg85_52 rfl ?_
                        refine q_iload gg85_53 rfl ?_
                        refine q_call4 gg85_54 tt64 rfl (Nat.le_of_ble_eq_true rfl) (hm_rv (by decide +kernel)) (ls' := [some _, some _, some _, some _, none]) rfl rfl ?_
                        refine q_aload gg64_0 rfl ?_
                        refine q_getr gg64_1 rfl ?_
                        refine q_iload gg64_4 rfl ?_
                        first | (refine z_alr gg64_5 (by first | rfl | assumption) (by assumption) (by omega) (by omega) (by omega) (by decide) (fun vput_5 evput_5 lvput_5 uvput_5 => ?_); try dsimp only at evput_5) | (refine z_alx gg64_5 rfl (by assumption) (by omega) (by omega) (by first | omega | decide) (by decide) (fun vput_5 evput_5 lvput_5 uvput_5 => ?_); try dsimp only at evput_5) | refine z_alq gg64_5 rfl (by omega) (by omega) (by decide) ?_
                        refine q_iload gg64_6 rfl ?_
                        refine q_call2 gg64_7 tt69 rfl (Nat.le_of_ble_eq_true rfl) rfl (ls' := [some _, some _]) rfl rfl ?_
                        rw [if_neg hl] at evput_5
                        rw [evput_5]
                        refine c_cutTo (by omega) (by omega) ?_
                        show hm_Wp _ _ _ _ (_ :: _) _ _
                        refine q_istore gg64_10 rfl ?_
                        refine q_aload gg64_12 rfl ?_
                        refine q_getr gg64_13 rfl ?_
                        refine q_iload gg64_16 rfl ?_
                        refine q_call1 gg64_17 tt68 rfl (Nat.le_of_ble_eq_true rfl) rfl (ls' := [some _]) rfl rfl ?_
                        refine q_iload gg68_0 rfl ?_
                        refine z_const gg68_1 (v := 40) rfl ?_
                        first | refine z_imul gg68_3 ?_ | refine q_imul gg68_3 ?_
                        refine q_iretC gg68_4 ?_
                        refine q_iload gg64_20 rfl ?_
                        first | refine z_iadd gg64_21 ?_ | refine q_iadd gg64_21 ?_
                        refine q_iload gg64_22 rfl ?_
                        first | refine z_asr gg64_24 (by first | rfl | assumption) (by assumption) (by omega) (by omega) (by decide) (by omega) (by omega) (fun fput_24 hput_24 => ?_) | refine z_asx gg64_24 rfl (by omega) (by omega) (by decide) ?_ | refine z_asq gg64_24 rfl (by omega) (by omega) (by decide) ?_
                        refine q_iload gg64_25 rfl ?_
                        refine q_iretC gg64_27 ?_
                        refine q_call2 gg85_57 tt121 rfl (Nat.le_of_ble_eq_true rfl) (hm_rv (by decide +kernel)) (ls' := [some _, some _]) rfl rfl ?_
                        refine q_aload gg121_0 rfl ?_
                        refine z_const gg121_1 (v := 0) rfl ?_
                        refine q_putf gg121_2 rfl ?_
                        refine q_iload gg121_5 rfl ?_
                        refine q_iretC gg121_6 ?_
                        refine q_iret gg85_60 ?_
                        refine k1 rfl _ ⟨r2, r3, fun r kx r0 r1 kx0 kx1 => ?_⟩ (fun k a b c e => by unfold hm_up; rw [hm_row_ne _ _ a, hm_row_ne _ _ e]) up_at
                        show upd (M 4) (ro * 40 + i).toNat _ (40 * r + kx).toNat = _
                        have hl2 := hW.2.1 r r0 r1
                        have hrr := r4 r kx r0 r1 kx0 kx1
                        simp only [upd, zup]
                        by_cases hh : 40 * r + kx = 40 * ro + i
                        · rw [if_pos (by omega), if_pos hh]
                        · rw [if_neg (by omega), if_neg hh]; exact hrr
                      )
                  )
              )
            · try (exfalso; omega)
              all_goals (
                refine z_const gg59_10 (v := 1) rfl ?_
                refine q_goto gg59_11 (tg := 15) rfl ?_
                refine z_zretC gg59_15 (by omega) ?_
                refine z_ifeq gg85_18 (tg := 27) rfl (by decide) (fun z => absurd z (by decide)) (fun _ => ?_)
                refine q_aload gg85_21 rfl ?_
                refine z_const gg85_22 (v := 1) rfl ?_
                refine q_call2 gg85_23 tt120 rfl (Nat.le_of_ble_eq_true rfl) (hm_rv (by decide +kernel)) (ls' := [some _, some _]) rfl rfl ?_
                refine q_aload gg120_0 rfl ?_
                refine q_iload gg120_1 rfl ?_
                refine q_putf gg120_2 rfl ?_
                refine z_neg gg120_5 ?_
                refine q_iload gg120_8 rfl ?_
                first | refine z_isub gg120_9 ?_ | refine q_isub gg120_9 ?_
                refine q_iretC gg120_10 ?_
                refine q_iret gg85_26 ?_
                rw [if_pos (by (repeat' split at evisMissing_5) <;> omega)] at hC
                rw [hC] at k0
                exact k0 (by decide) _ (FT.rf.f0.up (M := M) (x := zI 1)) up_at
              )
          )
      )
  · rw [if_neg hin] at hC
    rw [hC] at k0
    have kq := k0 (by decide) M FT.rf.f0 h0
    refine q_iload gg85_0 rfl ?_
    refine q_call1 gg85_1 tt57 rfl (Nat.le_of_ble_eq_true rfl) rfl (ls' := [some _]) rfl rfl ?_
    refine q_iload gg57_0 rfl ?_
    refine z_iflt gg57_1 (tg := 14) rfl (by omega) (fun c1 => ?_) (fun c1 => ?_)
    · try (exfalso; omega)
      all_goals (
        refine z_const gg57_14 (v := 0) rfl ?_
        refine z_zretC gg57_15 (by omega) ?_
        refine z_ifne gg85_4 (tg := 10) rfl (by decide) (fun z => absurd z (by decide)) (fun _ => ?_)
        refine z_neg gg85_7 ?_
        refine q_iret gg85_9 ?_
        exact kq
      )
    · try (exfalso; omega)
      all_goals (
        refine q_iload gg57_4 rfl ?_
        refine z_const gg57_5 (v := 8) rfl ?_
        refine z_icmpge gg57_7 (tg := 14) rfl (by omega) (by omega) (fun c2 => ?_) (fun c2 => ?_)
        · try (exfalso; omega)
          all_goals (
            refine z_const gg57_14 (v := 0) rfl ?_
            refine z_zretC gg57_15 (by omega) ?_
            refine z_ifne gg85_4 (tg := 10) rfl (by decide) (fun z => absurd z (by decide)) (fun _ => ?_)
            refine z_neg gg85_7 ?_
            refine q_iret gg85_9 ?_
            exact kq
          )
        · try (exfalso; omega)
          all_goals (
            refine z_const gg57_10 (v := 1) rfl ?_
            refine q_goto gg57_11 (tg := 15) rfl ?_
            refine z_zretC gg57_15 (by omega) ?_
            refine z_ifne gg85_4 (tg := 10) rfl (by decide) (fun _ => ?_) (fun z => absurd z (by decide))
            exfalso
            omega
          )
      )
theorem r_set (hro : zR ro) (hi : zR i) (hv : zR v) (h0 : M 30 4 = zI st) (hR : RR M ln lg it) (hW : RW ln lg it) (k0 : setC ln lg ro i ≠ 0 → ∀ M', F30 M M' → M' 30 4 = zI (nSt st (setC ln lg ro i)) → Q (some (.inl (zI (cAns (setC ln lg ro i) (cutV (ln ro) v))))) M') (k1 : setC ln lg ro i = 0 → ∀ M', RR M' ln lg (zup it (40 * ro + i) (cutV (ln ro) v)) → FWR M M' → M' 30 4 = zI 0 → Q (some (.inl (zI (cAns (setC ln lg ro i) (cutV (ln ro) v))))) M') : hm_Wp (d + 6) 135 0 [some (.inr (.inr 30)), some (.inl (zI ro)), some (.inl (zI i)), some (.inl (zI v))] [] M Q := by
  obtain ⟨r2, r3, r4⟩ := hR
  unfold zR at hro hi
  have hC : setC ln lg ro i = if 0 ≤ ro ∧ ro ≤ 7 then (if ln ro = -1000000 then 1 else if 0 ≤ i ∧ i < lg ro then 0 else 2) else 9 := rfl
  by_cases hin : 0 ≤ ro ∧ ro ≤ 7
  · rw [if_pos hin] at hC
    obtain ⟨ro0, ro1⟩ := hin
    have w1 := hW.1 ro ro0 (by omega)
    have w2 := hW.2.1 ro ro0 (by omega)
    refine q_iload gg135_0 rfl ?_
    refine q_call1 gg135_1 tt131 rfl (Nat.le_of_ble_eq_true rfl) rfl (ls' := [some _]) rfl rfl ?_
    refine q_iload gg131_0 rfl ?_
    refine z_const gg131_1 (v := 0) rfl ?_
    refine z_const gg131_2 (v := 7) rfl ?_
    refine q_call3 gg131_4 tt124 rfl (Nat.le_of_ble_eq_true rfl) rfl (ls' := [some _, some _, some _]) rfl rfl ?_
    refine q_iload gg124_0 rfl ?_
    refine q_iload gg124_1 rfl ?_
    refine z_icmplt gg124_2 (tg := 14) rfl (by omega) (by omega) (fun c1 => ?_) (fun c1 => ?_)
    · try (exfalso; omega)
      all_goals (
        refine z_const gg124_14 (v := 0) rfl ?_
        refine z_zretC gg124_15 (by omega) ?_
        refine z_zretC gg131_7 (by omega) ?_
        refine z_ifne gg135_4 (tg := 10) rfl (by decide) (fun z => absurd z (by decide)) (fun _ => ?_)
        refine z_neg gg135_7 ?_
        refine q_iret gg135_9 ?_
        exfalso
        omega
      )
    · try (exfalso; omega)
      all_goals (
        refine q_iload gg124_5 rfl ?_
        refine q_iload gg124_6 rfl ?_
        refine z_icmpgt gg124_7 (tg := 14) rfl (by omega) (by omega) (fun c2 => ?_) (fun c2 => ?_)
        · try (exfalso; omega)
          all_goals (
            refine z_const gg124_14 (v := 0) rfl ?_
            refine z_zretC gg124_15 (by omega) ?_
            refine z_zretC gg131_7 (by omega) ?_
            refine z_ifne gg135_4 (tg := 10) rfl (by decide) (fun z => absurd z (by decide)) (fun _ => ?_)
            refine z_neg gg135_7 ?_
            refine q_iret gg135_9 ?_
            exfalso
            omega
          )
        · try (exfalso; omega)
          all_goals (
            refine z_const gg124_10 (v := 1) rfl ?_
            refine q_goto gg124_11 (tg := 15) rfl ?_
            refine z_zretC gg124_15 (by omega) ?_
            refine z_zretC gg131_7 (by omega) ?_
            refine z_ifne gg135_4 (tg := 10) rfl (by decide) (fun _ => ?_) (fun z => absurd z (by decide))
            refine q_aload gg135_10 rfl ?_
            refine q_iload gg135_11 rfl ?_
            refine q_call2 gg135_12 tt132 rfl (Nat.le_of_ble_eq_true rfl) (hm_rv (by decide +kernel)) (ls' := [some _, some _]) rfl rfl ?_
            refine q_aload gg132_0 rfl ?_
            refine q_getr gg132_1 rfl ?_
            refine q_iload gg132_4 rfl ?_
            first | (refine z_alr gg132_5 (by first | rfl | assumption) (by assumption) (by omega) (by omega) (by omega) (by decide) (fun visMissing_5 evisMissing_5 lvisMissing_5 uvisMissing_5 => ?_); try dsimp only at evisMissing_5) | (refine z_alx gg132_5 rfl (by assumption) (by omega) (by omega) (by first | omega | decide) (by decide) (fun visMissing_5 evisMissing_5 lvisMissing_5 uvisMissing_5 => ?_); try dsimp only at evisMissing_5) | refine z_alq gg132_5 rfl (by omega) (by omega) (by decide) ?_
            refine z_neg gg132_6 ?_
            refine z_icmpne gg132_8 (tg := 15) rfl (by omega) (by omega) (fun c3 => ?_) (fun c3 => ?_)
            · try (exfalso; omega)
              all_goals (
                refine z_const gg132_15 (v := 0) rfl ?_
                refine z_zretC gg132_16 (by omega) ?_
                refine z_ifeq gg135_15 (tg := 24) rfl (by decide) (fun _ => ?_) (fun z => absurd z (by decide))
                refine q_iload gg135_24 rfl ?_
                refine z_const gg135_25 (v := 0) rfl ?_
                refine q_aload gg135_26 rfl ?_
                refine q_getr gg135_27 rfl ?_
                refine q_iload gg135_30 rfl ?_
                first | (refine z_alr gg135_31 (by first | rfl | assumption) (by assumption) (by omega) (by omega) (by omega) (by decide) (fun v31 ev31 lv31 uv31 => ?_); try dsimp only at ev31) | (refine z_alx gg135_31 rfl (by assumption) (by omega) (by omega) (by first | omega | decide) (by decide) (fun v31 ev31 lv31 uv31 => ?_); try dsimp only at ev31) | refine z_alq gg135_31 rfl (by omega) (by omega) (by decide) ?_
                refine z_const gg135_32 (v := 1) rfl ?_
                first | refine z_isub gg135_33 ?_ | refine q_isub gg135_33 ?_
                refine q_call3 gg135_34 tt124 rfl (Nat.le_of_ble_eq_true rfl) rfl (ls' := [some _, some _, some _]) rfl rfl ?_
                refine q_iload gg124_0 rfl ?_
                refine q_iload gg124_1 rfl ?_
                refine z_icmplt gg124_2 (tg := 14) rfl (by omega) (by omega) (fun c4 => ?_) (fun c4 => ?_)
                · try (exfalso; omega)
                  all_goals (
                    refine z_const gg124_14 (v := 0) rfl ?_
                    refine z_zretC gg124_15 (by omega) ?_
                    refine z_ifne gg135_37 (tg := 46) rfl (by decide) (fun z => absurd z (by decide)) (fun _ => ?_)
                    refine q_aload gg135_40 rfl ?_
                    refine z_const gg135_41 (v := 2) rfl ?_
                    refine q_call2 gg135_42 tt128 rfl (Nat.le_of_ble_eq_true rfl) (hm_rv (by decide +kernel)) (ls' := [some _, some _]) rfl rfl ?_
                    refine q_aload gg128_0 rfl ?_
                    refine q_iload gg128_1 rfl ?_
                    refine q_putf gg128_2 rfl ?_
                    refine z_neg gg128_5 ?_
                    refine q_iload gg128_7 rfl ?_
                    first | refine z_isub gg128_8 ?_ | refine q_isub gg128_8 ?_
                    refine q_iretC gg128_9 ?_
                    refine q_iret gg135_45 ?_
                    rw [if_neg (by omega), if_neg (by omega)] at hC
                    rw [hC] at k0
                    exact k0 (by decide) _ (F30.up (M := M) (x := zI 2) FR.rf) up_at
                  )
                · try (exfalso; omega)
                  all_goals (
                    refine q_iload gg124_5 rfl ?_
                    refine q_iload gg124_6 rfl ?_
                    refine z_icmpgt gg124_7 (tg := 14) rfl (by omega) (by omega) (fun c5 => ?_) (fun c5 => ?_)
                    · try (exfalso; omega)
                      all_goals (
                        refine z_const gg124_14 (v := 0) rfl ?_
                        refine z_zretC gg124_15 (by omega) ?_
                        refine z_ifne gg135_37 (tg := 46) rfl (by decide) (fun z => absurd z (by decide)) (fun _ => ?_)
                        refine q_aload gg135_40 rfl ?_
                        refine z_const gg135_41 (v := 2) rfl ?_
                        refine q_call2 gg135_42 tt128 rfl (Nat.le_of_ble_eq_true rfl) (hm_rv (by decide +kernel)) (ls' := [some _, some _]) rfl rfl ?_
                        refine q_aload gg128_0 rfl ?_
                        refine q_iload gg128_1 rfl ?_
                        refine q_putf gg128_2 rfl ?_
                        refine z_neg gg128_5 ?_
                        refine q_iload gg128_7 rfl ?_
                        first | refine z_isub gg128_8 ?_ | refine q_isub gg128_8 ?_
                        refine q_iretC gg128_9 ?_
                        refine q_iret gg135_45 ?_
                        rw [if_neg (by omega), if_neg (by omega)] at hC
                        rw [hC] at k0
                        exact k0 (by decide) _ (F30.up (M := M) (x := zI 2) FR.rf) up_at
                      )
                    · try (exfalso; omega)
                      all_goals (
                        refine z_const gg124_10 (v := 1) rfl ?_
                        refine q_goto gg124_11 (tg := 15) rfl ?_
                        refine z_zretC gg124_15 (by omega) ?_
                        refine z_ifne gg135_37 (tg := 46) rfl (by decide) (fun _ => ?_) (fun z => absurd z (by decide))
                        rw [if_neg (by omega), if_pos (by omega)] at hC
                        rw [hC] at k1
                        have hcv := cutV_R (la := ln ro) hv
                        have hself : hm_row M 33 (upd (M 33) (40 * ro + i).toNat (zI (cutV (ln ro) v))) 33 (40 * ro + i).toNat = zI (cutV (ln ro) v) := by rw [hm_row_same]; simp [upd]
                        refine q_aload gg135_46 rfl ?_
                        refine q_getr gg135_47 rfl ?_
                        refine z_const gg135_50 (v := 40) rfl ?_
                        refine q_iload gg135_52 rfl ?_
                        first | refine z_imul gg135_53 ?_ | refine q_imul gg135_53 ?_
                        refine q_iload gg135_54 rfl ?_
                        first | refine z_iadd gg135_55 ?_ | refine q_iadd gg135_55 ?_
                        refine q_aload gg135_56 rfl ?_
                        refine q_getr gg135_57 rfl ?_
                        refine q_iload gg135_60 rfl ?_
                        first | (refine z_alr gg135_61 (by first | rfl | assumption) (by assumption) (by omega) (by omega) (by omega) (by decide) (fun v61 ev61 lv61 uv61 => ?_); try dsimp only at ev61) | (refine z_alx gg135_61 rfl (by assumption) (by omega) (by omega) (by first | omega | decide) (by decide) (fun v61 ev61 lv61 uv61 => ?_); try dsimp only at ev61) | refine z_alq gg135_61 rfl (by omega) (by omega) (by decide) ?_
                        refine q_iload gg135_62 rfl ?_
                        refine q_call2 gg135_63 tt133 rfl (Nat.le_of_ble_eq_true rfl) rfl (ls' := [some _, some _]) rfl rfl ?_
                        rw [ev61]
                        refine r_cut (by omega) (by omega) ?_
                        show hm_Wp _ _ _ _ (_ :: _) _ _
                        first | refine z_asr gg135_66 (by first | rfl | assumption) (by assumption) (by omega) (by omega) (by decide) (by omega) (by omega) (fun f66 h66 => ?_) | refine z_asx gg135_66 rfl (by omega) (by omega) (by decide) ?_ | refine z_asq gg135_66 rfl (by omega) (by omega) (by decide) ?_
                        refine q_aload gg135_67 rfl ?_
                        refine q_aload gg135_68 rfl ?_
                        refine q_getr gg135_69 rfl ?_
                        refine z_const gg135_72 (v := 40) rfl ?_
                        refine q_iload gg135_74 rfl ?_
                        first | refine z_imul gg135_75 ?_ | refine q_imul gg135_75 ?_
                        refine q_iload gg135_76 rfl ?_
                        first | refine z_iadd gg135_77 ?_ | refine q_iadd gg135_77 ?_
                        first | (refine z_alr gg135_78 (by first | rfl | assumption) (by assumption) (by omega) (by omega) (by omega) (by decide) (fun v78 ev78 lv78 uv78 => ?_); try dsimp only at ev78) | (refine z_alx gg135_78 rfl (by assumption) (by omega) (by omega) (by first | omega | decide) (by decide) (fun v78 ev78 lv78 uv78 => ?_); try dsimp only at ev78) | refine z_alq gg135_78 rfl (by omega) (by omega) (by decide) ?_
                        rw [hself]
                        refine q_call2 gg135_79 tt129 rfl (Nat.le_of_ble_eq_true rfl) (hm_rv (by decide +kernel)) (ls' := [some _, some _]) rfl rfl ?_
                        refine q_aload gg129_0 rfl ?_
                        refine z_const gg129_1 (v := 0) rfl ?_
                        refine q_putf gg129_2 rfl ?_
                        refine q_iload gg129_5 rfl ?_
                        refine q_iretC gg129_6 ?_
                        refine q_iret gg135_82 ?_
                        refine k1 rfl _ ⟨r2, r3, fun r kx r0 r1 kx0 kx1 => ?_⟩ ⟨fun k a b c e g => by unfold hm_up; rw [hm_row_ne _ _ a, hm_row_ne _ _ e], fun j hj => by unfold hm_up; rw [hm_row_same]; simp only [upd]; rw [if_neg hj]; rfl⟩ up_at
                        show upd (M 33) (40 * ro + i).toNat _ (40 * r + kx).toNat = _
                        have hl2 := hW.2.1 r r0 r1
                        have hrr := r4 r kx r0 r1 kx0 kx1
                        simp only [upd, zup]
                        by_cases hh : 40 * r + kx = 40 * ro + i
                        · rw [if_pos (by omega), if_pos hh]
                        · rw [if_neg (by omega), if_neg hh]; exact hrr
                      )
                  )
              )
            · try (exfalso; omega)
              all_goals (
                refine z_const gg132_11 (v := 1) rfl ?_
                refine q_goto gg132_12 (tg := 16) rfl ?_
                refine z_zretC gg132_16 (by omega) ?_
                refine z_ifeq gg135_15 (tg := 24) rfl (by decide) (fun z => absurd z (by decide)) (fun _ => ?_)
                refine q_aload gg135_18 rfl ?_
                refine z_const gg135_19 (v := 1) rfl ?_
                refine q_call2 gg135_20 tt128 rfl (Nat.le_of_ble_eq_true rfl) (hm_rv (by decide +kernel)) (ls' := [some _, some _]) rfl rfl ?_
                refine q_aload gg128_0 rfl ?_
                refine q_iload gg128_1 rfl ?_
                refine q_putf gg128_2 rfl ?_
                refine z_neg gg128_5 ?_
                refine q_iload gg128_7 rfl ?_
                first | refine z_isub gg128_8 ?_ | refine q_isub gg128_8 ?_
                refine q_iretC gg128_9 ?_
                refine q_iret gg135_23 ?_
                rw [if_pos (by omega)] at hC
                rw [hC] at k0
                exact k0 (by decide) _ (F30.up (M := M) (x := zI 1) FR.rf) up_at
              )
          )
      )
  · rw [if_neg hin] at hC
    rw [hC] at k0
    have kq := k0 (by decide) M FR.rf.f30 h0
    refine q_iload gg135_0 rfl ?_
    refine q_call1 gg135_1 tt131 rfl (Nat.le_of_ble_eq_true rfl) rfl (ls' := [some _]) rfl rfl ?_
    refine q_iload gg131_0 rfl ?_
    refine z_const gg131_1 (v := 0) rfl ?_
    refine z_const gg131_2 (v := 7) rfl ?_
    refine q_call3 gg131_4 tt124 rfl (Nat.le_of_ble_eq_true rfl) rfl (ls' := [some _, some _, some _]) rfl rfl ?_
    refine q_iload gg124_0 rfl ?_
    refine q_iload gg124_1 rfl ?_
    refine z_icmplt gg124_2 (tg := 14) rfl (by omega) (by omega) (fun c1 => ?_) (fun c1 => ?_)
    · try (exfalso; omega)
      all_goals (
        refine z_const gg124_14 (v := 0) rfl ?_
        refine z_zretC gg124_15 (by omega) ?_
        refine z_zretC gg131_7 (by omega) ?_
        refine z_ifne gg135_4 (tg := 10) rfl (by decide) (fun z => absurd z (by decide)) (fun _ => ?_)
        refine z_neg gg135_7 ?_
        refine q_iret gg135_9 ?_
        exact kq
      )
    · try (exfalso; omega)
      all_goals (
        refine q_iload gg124_5 rfl ?_
        refine q_iload gg124_6 rfl ?_
        refine z_icmpgt gg124_7 (tg := 14) rfl (by omega) (by omega) (fun c2 => ?_) (fun c2 => ?_)
        · try (exfalso; omega)
          all_goals (
            refine z_const gg124_14 (v := 0) rfl ?_
            refine z_zretC gg124_15 (by omega) ?_
            refine z_zretC gg131_7 (by omega) ?_
            refine z_ifne gg135_4 (tg := 10) rfl (by decide) (fun z => absurd z (by decide)) (fun _ => ?_)
            refine z_neg gg135_7 ?_
            refine q_iret gg135_9 ?_
            exact kq
          )
        · try (exfalso; omega)
          all_goals (
            refine z_const gg124_10 (v := 1) rfl ?_
            refine q_goto gg124_11 (tg := 15) rfl ?_
            refine z_zretC gg124_15 (by omega) ?_
            refine z_zretC gg131_7 (by omega) ?_
            refine z_ifne gg135_4 (tg := 10) rfl (by decide) (fun _ => ?_) (fun z => absurd z (by decide))
            exfalso
            omega
          )
      )
/-! drop -/
def dropC (ln : Int → Int) (ro : Int) : Int := if 0 ≤ ro ∧ ro ≤ 7 then (if ln ro = -1000000 then 1 else 0) else 9
theorem RW_drop (h : RW ln lg it) : RW (zup ln ro (-1000000)) lg it := by
  refine ⟨fun r r0 r1 => ?_, h.2.1, h.2.2⟩
  have := h.1 r r0 r1; simp only [zup]; split <;> omega
theorem c_drop (hro : zR ro) (h0 : M 0 8 = zI st) (hR : RC M ln lg it) (hW : RW ln lg it) (k0 : dropC ln ro ≠ 0 → ∀ M', FC0 M M' → M' 0 8 = zI (nSt st (dropC ln ro)) → Q (some (.inl (zI (cAns (dropC ln ro) (lg ro))))) M') (k1 : dropC ln ro = 0 → ∀ M', RC M' (zup ln ro (-1000000)) lg it → FW M M' → M' 0 8 = zI 0 → Q (some (.inl (zI (cAns (dropC ln ro) (lg ro))))) M') : hm_Wp (d + 6) 87 0 [some (.inr (.inr 0)), some (.inl (zI ro))] [] M Q := by
  have hR' := hR
  obtain ⟨r2, r3, r4⟩ := hR
  unfold zR at hro
  have hC : dropC ln ro = if 0 ≤ ro ∧ ro ≤ 7 then (if ln ro = -1000000 then 1 else 0) else 9 := rfl
  by_cases hin : 0 ≤ ro ∧ ro ≤ 7
  · rw [if_pos hin] at hC
    obtain ⟨ro0, ro1⟩ := hin
    have w1 := hW.1 ro ro0 (by omega)
    have w2 := hW.2.1 ro ro0 (by omega)
    have r3' : aw (hm_row M 2 (upd (M 2) ro.toNat (zI (-1))) 3) 8 0 40 lg := r3
    refine q_iload gg87_0 rfl ?_
    refine q_call1 gg87_1 tt57 rfl (Nat.le_of_ble_eq_true rfl) rfl (ls' := [some _]) rfl rfl ?_
    refine q_iload gg57_0 rfl ?_
    refine z_iflt gg57_1 (tg := 14) rfl (by omega) (fun c1 => ?_) (fun c1 => ?_)
    · try (exfalso; omega)
      all_goals (
        refine z_const gg57_14 (v := 0) rfl ?_
        refine z_zretC gg57_15 (by omega) ?_
        refine z_ifne gg87_4 (tg := 10) rfl (by decide) (fun z => absurd z (by decide)) (fun _ => ?_)
        refine z_neg gg87_7 ?_
        refine q_iret gg87_9 ?_
        exfalso
        omega
      )
    · try (exfalso; omega)
      all_goals (
        refine q_iload gg57_4 rfl ?_
        refine z_const gg57_5 (v := 8) rfl ?_
        refine z_icmpge gg57_7 (tg := 14) rfl (by omega) (by omega) (fun c2 => ?_) (fun c2 => ?_)
        · try (exfalso; omega)
          all_goals (
            refine z_const gg57_14 (v := 0) rfl ?_
            refine z_zretC gg57_15 (by omega) ?_
            refine z_ifne gg87_4 (tg := 10) rfl (by decide) (fun z => absurd z (by decide)) (fun _ => ?_)
            refine z_neg gg87_7 ?_
            refine q_iret gg87_9 ?_
            exfalso
            omega
          )
        · try (exfalso; omega)
          all_goals (
            refine z_const gg57_10 (v := 1) rfl ?_
            refine q_goto gg57_11 (tg := 15) rfl ?_
            refine z_zretC gg57_15 (by omega) ?_
            refine z_ifne gg87_4 (tg := 10) rfl (by decide) (fun _ => ?_) (fun z => absurd z (by decide))
            refine q_aload gg87_10 rfl ?_
            refine q_getr gg87_11 rfl ?_
            refine q_iload gg87_14 rfl ?_
            refine q_call2 gg87_15 tt59 rfl (Nat.le_of_ble_eq_true rfl) (hm_rv (by decide +kernel)) (ls' := [some _, some _]) rfl rfl ?_
            refine q_aload gg59_0 rfl ?_
            refine q_getr gg59_1 rfl ?_
            refine q_iload gg59_4 rfl ?_
            first | (refine z_alr gg59_5 (by first | rfl | assumption) (by assumption) (by omega) (by omega) (by omega) (by decide) (fun visMissing_5 evisMissing_5 lvisMissing_5 uvisMissing_5 => ?_); try dsimp only at evisMissing_5) | (refine z_alx gg59_5 rfl (by assumption) (by omega) (by omega) (by first | omega | decide) (by decide) (fun visMissing_5 evisMissing_5 lvisMissing_5 uvisMissing_5 => ?_); try dsimp only at evisMissing_5) | refine z_alq gg59_5 rfl (by omega) (by omega) (by decide) ?_
            refine z_neg gg59_6 ?_
            refine z_icmpne gg59_7 (tg := 14) rfl (by omega) (by omega) (fun c3 => ?_) (fun c3 => ?_)
            · try (exfalso; omega)
              all_goals (
                refine z_const gg59_14 (v := 0) rfl ?_
                refine z_zretC gg59_15 (by omega) ?_
                refine z_ifeq gg87_18 (tg := 27) rfl (by decide) (fun _ => ?_) (fun z => absurd z (by decide))
                refine q_aload gg87_27 rfl ?_
                refine q_aload gg87_28 rfl ?_
                refine q_getr gg87_29 rfl ?_
                refine q_iload gg87_32 rfl ?_
                refine q_call2 gg87_33 tt67 rfl (Nat.le_of_ble_eq_true rfl) (hm_rv (by decide +kernel)) (ls' := [some _, some _]) rfl rfl ?_
                refine q_aload gg67_0 rfl ?_
                refine q_getr gg67_1 rfl ?_
                refine q_iload gg67_4 rfl ?_
                refine z_neg gg67_5 ?_
                first | refine z_asr gg67_6 (by first | rfl | assumption) (by assumption) (by omega) (by omega) (by decide) (by omega) (by omega) (fun fforget_6 hforget_6 => ?_) | refine z_asx gg67_6 rfl (by omega) (by omega) (by decide) ?_ | refine z_asq gg67_6 rfl (by omega) (by omega) (by decide) ?_
                refine q_aload gg67_7 rfl ?_
                refine q_getr gg67_8 rfl ?_
                refine q_iload gg67_11 rfl ?_
                first | (refine z_alr gg67_12 (by first | rfl | assumption) (by assumption) (by omega) (by omega) (by omega) (by decide) (fun vforget_12 evforget_12 lvforget_12 uvforget_12 => ?_); try dsimp only at evforget_12) | (refine z_alx gg67_12 rfl (by assumption) (by omega) (by omega) (by first | omega | decide) (by decide) (fun vforget_12 evforget_12 lvforget_12 uvforget_12 => ?_); try dsimp only at evforget_12) | refine z_alq gg67_12 rfl (by omega) (by omega) (by decide) ?_
                refine q_iretC gg67_13 ?_
                refine q_call2 gg87_36 tt121 rfl (Nat.le_of_ble_eq_true rfl) (hm_rv (by decide +kernel)) (ls' := [some _, some _]) rfl rfl ?_
                refine q_aload gg121_0 rfl ?_
                refine z_const gg121_1 (v := 0) rfl ?_
                refine q_putf gg121_2 rfl ?_
                refine q_iload gg121_5 rfl ?_
                refine q_iretC gg121_6 ?_
                refine q_iret gg87_39 ?_
                rw [if_neg (by (repeat' split at evisMissing_5) <;> omega)] at hC
                rw [hC] at k1
                rw [evforget_12]
                refine k1 rfl _ ⟨?_, r3, r4⟩ (fun k a b c e => by unfold hm_up; rw [hm_row_ne _ _ a, hm_row_ne _ _ b]) up_at
                show aw (upd (M 2) ro.toNat (zI (-1))) _ _ _ _
                refine aw_eq (aw_upd r2 (by omega) (by omega) (by omega)) (fun r r0 r1 => ?_)
                simp only [zup]
                (repeat' split) <;> omega
              )
            · try (exfalso; omega)
              all_goals (
                refine z_const gg59_10 (v := 1) rfl ?_
                refine q_goto gg59_11 (tg := 15) rfl ?_
                refine z_zretC gg59_15 (by omega) ?_
                refine z_ifeq gg87_18 (tg := 27) rfl (by decide) (fun z => absurd z (by decide)) (fun _ => ?_)
                refine q_aload gg87_21 rfl ?_
                refine z_const gg87_22 (v := 1) rfl ?_
                refine q_call2 gg87_23 tt120 rfl (Nat.le_of_ble_eq_true rfl) (hm_rv (by decide +kernel)) (ls' := [some _, some _]) rfl rfl ?_
                refine q_aload gg120_0 rfl ?_
                refine q_iload gg120_1 rfl ?_
                refine q_putf gg120_2 rfl ?_
                refine z_neg gg120_5 ?_
                refine q_iload gg120_8 rfl ?_
                first | refine z_isub gg120_9 ?_ | refine q_isub gg120_9 ?_
                refine q_iretC gg120_10 ?_
                refine q_iret gg87_26 ?_
                rw [if_pos (by (repeat' split at evisMissing_5) <;> omega)] at hC
                rw [hC] at k0
                exact k0 (by decide) _ (FT.rf.f0.up (M := M) (x := zI 1)) up_at
              )
          )
      )
  · rw [if_neg hin] at hC
    rw [hC] at k0
    have kq := k0 (by decide) M FT.rf.f0 h0
    refine q_iload gg87_0 rfl ?_
    refine q_call1 gg87_1 tt57 rfl (Nat.le_of_ble_eq_true rfl) rfl (ls' := [some _]) rfl rfl ?_
    refine q_iload gg57_0 rfl ?_
    refine z_iflt gg57_1 (tg := 14) rfl (by omega) (fun c1 => ?_) (fun c1 => ?_)
    · try (exfalso; omega)
      all_goals (
        refine z_const gg57_14 (v := 0) rfl ?_
        refine z_zretC gg57_15 (by omega) ?_
        refine z_ifne gg87_4 (tg := 10) rfl (by decide) (fun z => absurd z (by decide)) (fun _ => ?_)
        refine z_neg gg87_7 ?_
        refine q_iret gg87_9 ?_
        exact kq
      )
    · try (exfalso; omega)
      all_goals (
        refine q_iload gg57_4 rfl ?_
        refine z_const gg57_5 (v := 8) rfl ?_
        refine z_icmpge gg57_7 (tg := 14) rfl (by omega) (by omega) (fun c2 => ?_) (fun c2 => ?_)
        · try (exfalso; omega)
          all_goals (
            refine z_const gg57_14 (v := 0) rfl ?_
            refine z_zretC gg57_15 (by omega) ?_
            refine z_ifne gg87_4 (tg := 10) rfl (by decide) (fun z => absurd z (by decide)) (fun _ => ?_)
            refine z_neg gg87_7 ?_
            refine q_iret gg87_9 ?_
            exact kq
          )
        · try (exfalso; omega)
          all_goals (
            refine z_const gg57_10 (v := 1) rfl ?_
            refine q_goto gg57_11 (tg := 15) rfl ?_
            refine z_zretC gg57_15 (by omega) ?_
            refine z_ifne gg87_4 (tg := 10) rfl (by decide) (fun _ => ?_) (fun z => absurd z (by decide))
            exfalso
            omega
          )
      )
theorem r_drop (hro : zR ro) (h0 : M 30 4 = zI st) (hR : RR M ln lg it) (hW : RW ln lg it) (k0 : dropC ln ro ≠ 0 → ∀ M', F30 M M' → M' 30 4 = zI (nSt st (dropC ln ro)) → Q (some (.inl (zI (cAns (dropC ln ro) (lg ro))))) M') (k1 : dropC ln ro = 0 → ∀ M', RR M' (zup ln ro (-1000000)) lg it → FWR M M' → M' 30 4 = zI 0 → Q (some (.inl (zI (cAns (dropC ln ro) (lg ro))))) M') : hm_Wp (d + 6) 138 0 [some (.inr (.inr 30)), some (.inl (zI ro))] [] M Q := by
  obtain ⟨r2, r3, r4⟩ := hR
  unfold zR at hro
  have hC : dropC ln ro = if 0 ≤ ro ∧ ro ≤ 7 then (if ln ro = -1000000 then 1 else 0) else 9 := rfl
  by_cases hin : 0 ≤ ro ∧ ro ≤ 7
  · rw [if_pos hin] at hC
    obtain ⟨ro0, ro1⟩ := hin
    have w2 := hW.2.1 ro ro0 (by omega)
    have r3' : aw (hm_row M 31 (upd (M 31) ro.toNat (zI (-1000000))) 32) 8 0 40 lg := r3
    refine q_iload gg138_0 rfl ?_
    refine q_call1 gg138_1 tt131 rfl (Nat.le_of_ble_eq_true rfl) rfl (ls' := [some _]) rfl rfl ?_
    refine q_iload gg131_0 rfl ?_
    refine z_const gg131_1 (v := 0) rfl ?_
    refine z_const gg131_2 (v := 7) rfl ?_
    refine q_call3 gg131_4 tt124 rfl (Nat.le_of_ble_eq_true rfl) rfl (ls' := [some _, some _, some _]) rfl rfl ?_
    refine q_iload gg124_0 rfl ?_
    refine q_iload gg124_1 rfl ?_
    refine z_icmplt gg124_2 (tg := 14) rfl (by omega) (by omega) (fun c1 => ?_) (fun c1 => ?_)
    · try (exfalso; omega)
      all_goals (
        refine z_const gg124_14 (v := 0) rfl ?_
        refine z_zretC gg124_15 (by omega) ?_
        refine z_zretC gg131_7 (by omega) ?_
        refine z_ifne gg138_4 (tg := 10) rfl (by decide) (fun z => absurd z (by decide)) (fun _ => ?_)
        refine z_neg gg138_7 ?_
        refine q_iret gg138_9 ?_
        exfalso
        omega
      )
    · try (exfalso; omega)
      all_goals (
        refine q_iload gg124_5 rfl ?_
        refine q_iload gg124_6 rfl ?_
        refine z_icmpgt gg124_7 (tg := 14) rfl (by omega) (by omega) (fun c2 => ?_) (fun c2 => ?_)
        · try (exfalso; omega)
          all_goals (
            refine z_const gg124_14 (v := 0) rfl ?_
            refine z_zretC gg124_15 (by omega) ?_
            refine z_zretC gg131_7 (by omega) ?_
            refine z_ifne gg138_4 (tg := 10) rfl (by decide) (fun z => absurd z (by decide)) (fun _ => ?_)
            refine z_neg gg138_7 ?_
            refine q_iret gg138_9 ?_
            exfalso
            omega
          )
        · try (exfalso; omega)
          all_goals (
            refine z_const gg124_10 (v := 1) rfl ?_
            refine q_goto gg124_11 (tg := 15) rfl ?_
            refine z_zretC gg124_15 (by omega) ?_
            refine z_zretC gg131_7 (by omega) ?_
            refine z_ifne gg138_4 (tg := 10) rfl (by decide) (fun _ => ?_) (fun z => absurd z (by decide))
            refine q_aload gg138_10 rfl ?_
            refine q_iload gg138_11 rfl ?_
            refine q_call2 gg138_12 tt132 rfl (Nat.le_of_ble_eq_true rfl) (hm_rv (by decide +kernel)) (ls' := [some _, some _]) rfl rfl ?_
            refine q_aload gg132_0 rfl ?_
            refine q_getr gg132_1 rfl ?_
            refine q_iload gg132_4 rfl ?_
            first | (refine z_alr gg132_5 (by first | rfl | assumption) (by assumption) (by omega) (by omega) (by omega) (by decide) (fun visMissing_5 evisMissing_5 lvisMissing_5 uvisMissing_5 => ?_); try dsimp only at evisMissing_5) | (refine z_alx gg132_5 rfl (by assumption) (by omega) (by omega) (by first | omega | decide) (by decide) (fun visMissing_5 evisMissing_5 lvisMissing_5 uvisMissing_5 => ?_); try dsimp only at evisMissing_5) | refine z_alq gg132_5 rfl (by omega) (by omega) (by decide) ?_
            refine z_neg gg132_6 ?_
            refine z_icmpne gg132_8 (tg := 15) rfl (by omega) (by omega) (fun c3 => ?_) (fun c3 => ?_)
            · try (exfalso; omega)
              all_goals (
                refine z_const gg132_15 (v := 0) rfl ?_
                refine z_zretC gg132_16 (by omega) ?_
                refine z_ifeq gg138_15 (tg := 24) rfl (by decide) (fun _ => ?_) (fun z => absurd z (by decide))
                refine q_aload gg138_24 rfl ?_
                refine q_getr gg138_25 rfl ?_
                refine q_iload gg138_28 rfl ?_
                refine z_neg gg138_29 ?_
                first | refine z_asr gg138_31 (by first | rfl | assumption) (by assumption) (by omega) (by omega) (by decide) (by omega) (by omega) (fun f31 h31 => ?_) | refine z_asx gg138_31 rfl (by omega) (by omega) (by decide) ?_ | refine z_asq gg138_31 rfl (by omega) (by omega) (by decide) ?_
                refine q_aload gg138_32 rfl ?_
                refine q_aload gg138_33 rfl ?_
                refine q_getr gg138_34 rfl ?_
                refine q_iload gg138_37 rfl ?_
                first | (refine z_alr gg138_38 (by first | rfl | assumption) (by assumption) (by omega) (by omega) (by omega) (by decide) (fun v38 ev38 lv38 uv38 => ?_); try dsimp only at ev38) | (refine z_alx gg138_38 rfl (by assumption) (by omega) (by omega) (by first | omega | decide) (by decide) (fun v38 ev38 lv38 uv38 => ?_); try dsimp only at ev38) | refine z_alq gg138_38 rfl (by omega) (by omega) (by decide) ?_
                refine q_call2 gg138_39 tt129 rfl (Nat.le_of_ble_eq_true rfl) (hm_rv (by decide +kernel)) (ls' := [some _, some _]) rfl rfl ?_
                refine q_aload gg129_0 rfl ?_
                refine z_const gg129_1 (v := 0) rfl ?_
                refine q_putf gg129_2 rfl ?_
                refine q_iload gg129_5 rfl ?_
                refine q_iretC gg129_6 ?_
                refine q_iret gg138_42 ?_
                rw [if_neg (by omega)] at hC
                rw [hC] at k1
                rw [ev38]
                refine k1 rfl _ ⟨?_, r3, r4⟩ ⟨fun k a b c e g => by unfold hm_up; rw [hm_row_ne _ _ a, hm_row_ne _ _ b], fun j hj => by unfold hm_up; rw [hm_row_same]; simp only [upd]; rw [if_neg hj]; rfl⟩ up_at
                show aw (upd (M 31) ro.toNat (zI (-1000000))) _ _ _ _
                exact aw_upd r2 (by omega) (by omega) (by omega)
              )
            · try (exfalso; omega)
              all_goals (
                refine z_const gg132_11 (v := 1) rfl ?_
                refine q_goto gg132_12 (tg := 16) rfl ?_
                refine z_zretC gg132_16 (by omega) ?_
                refine z_ifeq gg138_15 (tg := 24) rfl (by decide) (fun z => absurd z (by decide)) (fun _ => ?_)
                refine q_aload gg138_18 rfl ?_
                refine z_const gg138_19 (v := 1) rfl ?_
                refine q_call2 gg138_20 tt128 rfl (Nat.le_of_ble_eq_true rfl) (hm_rv (by decide +kernel)) (ls' := [some _, some _]) rfl rfl ?_
                refine q_aload gg128_0 rfl ?_
                refine q_iload gg128_1 rfl ?_
                refine q_putf gg128_2 rfl ?_
                refine z_neg gg128_5 ?_
                refine q_iload gg128_7 rfl ?_
                first | refine z_isub gg128_8 ?_ | refine q_isub gg128_8 ?_
                refine q_iretC gg128_9 ?_
                refine q_iret gg138_23 ?_
                rw [if_pos (by omega)] at hC
                rw [hC] at k0
                exact k0 (by decide) _ (F30.up (M := M) (x := zI 1) FR.rf) up_at
              )
          )
      )
  · rw [if_neg hin] at hC
    rw [hC] at k0
    have kq := k0 (by decide) M FR.rf.f30 h0
    refine q_iload gg138_0 rfl ?_
    refine q_call1 gg138_1 tt131 rfl (Nat.le_of_ble_eq_true rfl) rfl (ls' := [some _]) rfl rfl ?_
    refine q_iload gg131_0 rfl ?_
    refine z_const gg131_1 (v := 0) rfl ?_
    refine z_const gg131_2 (v := 7) rfl ?_
    refine q_call3 gg131_4 tt124 rfl (Nat.le_of_ble_eq_true rfl) rfl (ls' := [some _, some _, some _]) rfl rfl ?_
    refine q_iload gg124_0 rfl ?_
    refine q_iload gg124_1 rfl ?_
    refine z_icmplt gg124_2 (tg := 14) rfl (by omega) (by omega) (fun c1 => ?_) (fun c1 => ?_)
    · try (exfalso; omega)
      all_goals (
        refine z_const gg124_14 (v := 0) rfl ?_
        refine z_zretC gg124_15 (by omega) ?_
        refine z_zretC gg131_7 (by omega) ?_
        refine z_ifne gg138_4 (tg := 10) rfl (by decide) (fun z => absurd z (by decide)) (fun _ => ?_)
        refine z_neg gg138_7 ?_
        refine q_iret gg138_9 ?_
        exact kq
      )
    · try (exfalso; omega)
      all_goals (
        refine q_iload gg124_5 rfl ?_
        refine q_iload gg124_6 rfl ?_
        refine z_icmpgt gg124_7 (tg := 14) rfl (by omega) (by omega) (fun c2 => ?_) (fun c2 => ?_)
        · try (exfalso; omega)
          all_goals (
            refine z_const gg124_14 (v := 0) rfl ?_
            refine z_zretC gg124_15 (by omega) ?_
            refine z_zretC gg131_7 (by omega) ?_
            refine z_ifne gg138_4 (tg := 10) rfl (by decide) (fun z => absurd z (by decide)) (fun _ => ?_)
            refine z_neg gg138_7 ?_
            refine q_iret gg138_9 ?_
            exact kq
          )
        · try (exfalso; omega)
          all_goals (
            refine z_const gg124_10 (v := 1) rfl ?_
            refine q_goto gg124_11 (tg := 15) rfl ?_
            refine z_zretC gg124_15 (by omega) ?_
            refine z_zretC gg131_7 (by omega) ?_
            refine z_ifne gg138_4 (tg := 10) rfl (by decide) (fun _ => ?_) (fun z => absurd z (by decide))
            exfalso
            omega
          )
      )
/-! feed -/
def okF (tl y : Int) : Prop := 0 ≤ y ∧ y ≤ 255 ∧ tl < 90
def aFeed (tl y : Int) : Int := if 0 ≤ y ∧ y ≤ 255 then (if tl < 90 then tl + 1 else -1000003) else -1000001
theorem c_feed (hy : zR y) (h : TC M tp tl fk) (h0 : 0 ≤ tl) (h1 : tl ≤ 90) (k0 : ¬ okF tl y → Q (some (.inl (zI (aFeed tl y)))) M) (k1 : okF tl y → ∀ M', TC M' (zup tp tl y) (tl + 1) fk → (∀ k, k ≠ 5 → k ≠ 6 → M' k = M k) → Q (some (.inl (zI (aFeed tl y)))) M') : hm_Wp (d + 6) 88 0 [some (.inr (.inr 0)), some (.inl (zI y))] [] M Q := by
  obtain ⟨t1, t2, t3⟩ := h
  unfold zR at hy
  have hE : aFeed tl y = if 0 ≤ y ∧ y ≤ 255 then (if tl < 90 then tl + 1 else -1000003) else -1000001 := rfl
  have t1' : hm_row M 6 (upd (M 6) tl.toNat (zI y)) 5 1 = zI tl := t1
  have t1'' : hm_up (hm_row M 6 (upd (M 6) tl.toNat (zI y))) 5 1 (zI (tl + 1)) 5 1 = zI (tl + 1) := up_at
  refine q_iload gg88_0 rfl ?_
  refine z_iflt gg88_1 (tg := 11) rfl (by omega) (fun c1 => ?_) (fun c1 => ?_)
  · try (exfalso; omega)
    all_goals (
      refine z_neg gg88_11 ?_
      refine q_iret gg88_13 ?_
      refine qv ?_ (k0 (by unfold okF; omega))
      rw [hE, if_neg (by omega)]
    )
  · try (exfalso; omega)
    all_goals (
      refine q_iload gg88_4 rfl ?_
      refine z_const gg88_5 (v := 255) rfl ?_
      refine z_icmple gg88_8 (tg := 14) rfl (by omega) (by omega) (fun c2 => ?_) (fun c2 => ?_)
      · try (exfalso; omega)
        all_goals (
          refine q_aload gg88_14 rfl ?_
          refine q_getr gg88_15 rfl ?_
          refine q_iload gg88_18 rfl ?_
          refine q_call2 gg88_19 tt73 rfl (Nat.le_of_ble_eq_true rfl) (hm_rv (by decide +kernel)) (ls' := [some _, some _]) rfl rfl ?_
          refine q_aload gg73_0 rfl ?_
          first | refine z_getf gg73_1 rfl (by assumption) ?_ | refine q_getf gg73_1 rfl ?_
          refine z_const gg73_4 (v := 90) rfl ?_
          refine z_icmplt gg73_6 (tg := 11) rfl (by omega) (by omega) (fun c3 => ?_) (fun c3 => ?_)
          · try (exfalso; omega)
            all_goals (
              refine q_aload gg73_11 rfl ?_
              refine q_getr gg73_12 rfl ?_
              refine q_aload gg73_15 rfl ?_
              first | refine z_getf gg73_16 rfl (by assumption) ?_ | refine q_getf gg73_16 rfl ?_
              refine q_iload gg73_19 rfl ?_
              first | refine z_asr gg73_20 (by first | rfl | assumption) (by assumption) (by omega) (by omega) (by decide) (by omega) (by omega) (fun fappend_20 happend_20 => ?_) | refine z_asx gg73_20 rfl (by omega) (by omega) (by decide) ?_ | refine z_asq gg73_20 rfl (by omega) (by omega) (by decide) ?_
              refine q_aload gg73_21 rfl ?_
              refine q_dup gg73_22 rfl ?_
              first | refine z_getf gg73_23 rfl (by assumption) ?_ | refine q_getf gg73_23 rfl ?_
              refine z_const gg73_26 (v := 1) rfl ?_
              first | refine z_iadd gg73_27 ?_ | refine q_iadd gg73_27 ?_
              refine q_putf gg73_28 rfl ?_
              refine z_const gg73_31 (v := 1) rfl ?_
              refine z_zretC gg73_32 (by omega) ?_
              refine z_ifeq gg88_22 (tg := 35) rfl (by decide) (fun z => absurd z (by decide)) (fun _ => ?_)
              refine q_aload gg88_25 rfl ?_
              refine q_getr gg88_26 rfl ?_
              refine q_call1 gg88_29 tt70 rfl (Nat.le_of_ble_eq_true rfl) (hm_rv (by decide +kernel)) (ls' := [some _]) rfl rfl ?_
              refine q_aload gg70_0 rfl ?_
              first | refine z_getf gg70_1 rfl (by assumption) ?_ | refine q_getf gg70_1 rfl ?_
              refine q_iretC gg70_4 ?_
              refine q_goto gg88_32 (tg := 37) rfl ?_
              refine q_iret gg88_37 ?_
              first | (refine qv ?_ (k0 (by unfold okF; omega)); rw [hE, if_pos (by omega), if_neg (by omega)]; done) | (refine qv ?_ (k1 ⟨by omega, by omega, by omega⟩ _ ⟨up_at, aw_app t2 h0 (by omega) (by omega), t3⟩ (fun k a b => by unfold hm_up; rw [hm_row_ne _ _ a, hm_row_ne _ _ b])); rw [hE, if_pos (by omega), if_pos (by omega)]; done)
            )
          · try (exfalso; omega)
            all_goals (
              refine z_const gg73_9 (v := 0) rfl ?_
              refine z_zretC gg73_10 (by omega) ?_
              refine z_ifeq gg88_22 (tg := 35) rfl (by decide) (fun _ => ?_) (fun z => absurd z (by decide))
              refine z_neg gg88_35 ?_
              refine q_iret gg88_37 ?_
              first | (refine qv ?_ (k0 (by unfold okF; omega)); rw [hE, if_pos (by omega), if_neg (by omega)]; done) | (refine qv ?_ (k1 ⟨by omega, by omega, by omega⟩ _ ⟨up_at, aw_app t2 h0 (by omega) (by omega), t3⟩ (fun k a b => by unfold hm_up; rw [hm_row_ne _ _ a, hm_row_ne _ _ b])); rw [hE, if_pos (by omega), if_pos (by omega)]; done)
            )
        )
      · try (exfalso; omega)
        all_goals (
          refine z_neg gg88_11 ?_
          refine q_iret gg88_13 ?_
          refine qv ?_ (k0 (by unfold okF; omega))
          rw [hE, if_neg (by omega)]
        )
    )
theorem r_feed (hy : zR y) (h : TR M tp tl fk) (h0 : 0 ≤ tl) (h1 : tl ≤ 90) (k0 : ¬ okF tl y → Q (some (.inl (zI (aFeed tl y)))) M) (k1 : okF tl y → ∀ M', TR M' (zup tp tl y) (tl + 1) fk → ((∀ k, k ≠ 30 → k ≠ 35 → M' k = M k) ∧ ∀ j, j ≠ 6 → M' 30 j = M 30 j) → Q (some (.inl (zI (aFeed tl y)))) M') : hm_Wp (d + 6) 139 0 [some (.inr (.inr 30)), some (.inl (zI y))] [] M Q := by
  obtain ⟨t1, t2, t3⟩ := h
  unfold zR at hy
  have hE : aFeed tl y = if 0 ≤ y ∧ y ≤ 255 then (if tl < 90 then tl + 1 else -1000003) else -1000001 := rfl
  have t1' : hm_row M 35 (upd (M 35) tl.toNat (zI y)) 30 6 = zI tl := t1
  have t1'' : hm_up (hm_row M 35 (upd (M 35) tl.toNat (zI y))) 30 6 (zI (tl + 1)) 30 6 = zI (tl + 1) := up_at
  refine q_iload gg139_0 rfl ?_
  refine z_const gg139_1 (v := 0) rfl ?_
  refine z_const gg139_2 (v := 255) rfl ?_
  refine q_call3 gg139_5 tt124 rfl (Nat.le_of_ble_eq_true rfl) rfl (ls' := [some _, some _, some _]) rfl rfl ?_
  refine q_iload gg124_0 rfl ?_
  refine q_iload gg124_1 rfl ?_
  refine z_icmplt gg124_2 (tg := 14) rfl (by omega) (by omega) (fun c1 => ?_) (fun c1 => ?_)
  · try (exfalso; omega)
    all_goals (
      refine z_const gg124_14 (v := 0) rfl ?_
      refine z_zretC gg124_15 (by omega) ?_
      refine z_ifne gg139_8 (tg := 14) rfl (by decide) (fun z => absurd z (by decide)) (fun _ => ?_)
      refine z_neg gg139_11 ?_
      refine q_iret gg139_13 ?_
      refine qv ?_ (k0 (by unfold okF; omega))
      rw [hE, if_neg (by omega)]
    )
  · try (exfalso; omega)
    all_goals (
      refine q_iload gg124_5 rfl ?_
      refine q_iload gg124_6 rfl ?_
      refine z_icmpgt gg124_7 (tg := 14) rfl (by omega) (by omega) (fun c2 => ?_) (fun c2 => ?_)
      · try (exfalso; omega)
        all_goals (
          refine z_const gg124_14 (v := 0) rfl ?_
          refine z_zretC gg124_15 (by omega) ?_
          refine z_ifne gg139_8 (tg := 14) rfl (by decide) (fun z => absurd z (by decide)) (fun _ => ?_)
          refine z_neg gg139_11 ?_
          refine q_iret gg139_13 ?_
          refine qv ?_ (k0 (by unfold okF; omega))
          rw [hE, if_neg (by omega)]
        )
      · try (exfalso; omega)
        all_goals (
          refine z_const gg124_10 (v := 1) rfl ?_
          refine q_goto gg124_11 (tg := 15) rfl ?_
          refine z_zretC gg124_15 (by omega) ?_
          refine z_ifne gg139_8 (tg := 14) rfl (by decide) (fun _ => ?_) (fun z => absurd z (by decide))
          refine q_aload gg139_14 rfl ?_
          first | refine z_getf gg139_15 rfl (by assumption) ?_ | refine q_getf gg139_15 rfl ?_
          refine z_const gg139_18 (v := 90) rfl ?_
          refine z_icmpne gg139_20 (tg := 26) rfl (by omega) (by omega) (fun c3 => ?_) (fun c3 => ?_)
          · try (exfalso; omega)
            all_goals (
              refine q_aload gg139_26 rfl ?_
              refine q_getr gg139_27 rfl ?_
              refine q_aload gg139_30 rfl ?_
              first | refine z_getf gg139_31 rfl (by assumption) ?_ | refine q_getf gg139_31 rfl ?_
              refine q_iload gg139_34 rfl ?_
              first | refine z_asr gg139_35 (by first | rfl | assumption) (by assumption) (by omega) (by omega) (by decide) (by omega) (by omega) (fun f35 h35 => ?_) | refine z_asx gg139_35 rfl (by omega) (by omega) (by decide) ?_ | refine z_asq gg139_35 rfl (by omega) (by omega) (by decide) ?_
              refine q_aload gg139_36 rfl ?_
              refine q_dup gg139_37 rfl ?_
              first | refine z_getf gg139_38 rfl (by assumption) ?_ | refine q_getf gg139_38 rfl ?_
              refine z_const gg139_41 (v := 1) rfl ?_
              first | refine z_iadd gg139_42 ?_ | refine q_iadd gg139_42 ?_
              refine q_putf gg139_43 rfl ?_
              refine q_aload gg139_46 rfl ?_
              first | refine z_getf gg139_47 rfl (by assumption) ?_ | refine q_getf gg139_47 rfl ?_
              refine q_iret gg139_50 ?_
              refine qv ?_ (k1 ⟨by omega, by omega, by omega⟩ _ ⟨up_at, aw_app t2 h0 (by omega) (by omega), t3⟩ ⟨fun k a b => by unfold hm_up; rw [hm_row_ne _ _ a, hm_row_ne _ _ b], fun j hj => by unfold hm_up; rw [hm_row_same]; simp only [upd]; rw [if_neg hj]; rfl⟩)
              rw [hE, if_pos (by omega), if_pos (by omega)]
            )
          · try (exfalso; omega)
            all_goals (
              refine z_neg gg139_23 ?_
              refine q_iret gg139_25 ?_
              refine qv ?_ (k0 (by unfold okF; omega))
              rw [hE, if_pos (by omega), if_neg (by omega)]
            )
        )
    )
end W3
