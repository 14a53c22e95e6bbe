section W2
variable {d r mid pc nx k dd : Nat} {M N : hm_M} {w g ln lg it : Int → Int} {b n e x a s y c q i j p st ro la v : Int} {f F : Nat → Int32} {Q : Option hm_V → hm_M → Prop}
def FW (M M' : hm_M) : Prop := ∀ k : Nat, k ≠ 0 → k ≠ 2 → k ≠ 3 → k ≠ 4 → M' k = M k
def FWR (M M' : hm_M) : Prop := (∀ k : Nat, k ≠ 30 → k ≠ 31 → k ≠ 32 → k ≠ 33 → k ≠ 34 → M' k = M k) ∧ ∀ j : Nat, j ≠ 4 → M' 30 j = M 30 j
/-! row -/
def rowC (ro la n : Int) : Int := if 0 ≤ ro ∧ ro ≤ 7 ∧ 0 ≤ la ∧ la ≤ 2 ∧ n ≤ 40 then (if n < 0 then 4 else 0) else 9
def cAns (c v : Int) : Int := if c = 9 then -1000001 else if c = 0 then v else -1000010 - c
def itZ (it : Int → Int) (ro : Int) : Int → Int := fun i => if 40 * ro ≤ i ∧ i < 40 * ro + 40 then 0 else it i
theorem RW_row (h : RW ln lg it) (hr0 : 0 ≤ ro) (hr : ro ≤ 7) (hl0 : 0 ≤ la) (hl : la ≤ 2) (hn0 : 0 ≤ n) (hn : n ≤ 40) : RW (zup ln ro la) (zup lg ro n) (itZ it ro) := by
  refine ⟨fun r r0 r1 => ?_, fun r r0 r1 => ?_, fun i => ?_⟩
  · have := h.1 r r0 r1; simp only [zup]; split <;> omega
  · have := h.2.1 r r0 r1; simp only [zup]; split <;> omega
  · have := h.2.2 i; unfold itZ; split
    · exact ⟨by decide, by decide⟩
    · exact this
theorem c_make (hr0 : 0 ≤ ro) (hr : ro ≤ 7) (hn0 : 0 ≤ n) (hn : n ≤ 40) (kk : ∀ f', (∀ i : Int, 0 ≤ i → f' i.toNat = if 40 * ro ≤ i ∧ i < 40 * ro + n then zI 0 else M 4 i.toNat) → Q none (hm_row (hm_row (hm_row M 2 (upd (M 2) ro.toNat (zI la))) 3 (upd (M 3) ro.toNat (zI n))) 4 f')) : hm_Wp (d + 1) 63 0 [some (.inr (.inr 1)), some (.inl (zI ro)), some (.inl (zI la)), some (.inl (zI n)), none] [] M Q := by
  have L : ∀ (m : Nat) (kx : Int) (f : Nat → Int32), 40 * ro ≤ kx → kx + m = 40 * ro + n → (∀ i : Int, 0 ≤ i → f i.toNat = if 40 * ro ≤ i ∧ i < kx then zI 0 else M 4 i.toNat) → hm_Wp (d + 1) 63 20 [some (.inr (.inr 1)), some (.inl (zI ro)), some (.inl (zI la)), some (.inl (zI n)), some (.inl (zI kx))] [] (hm_row (hm_row (hm_row M 2 (upd (M 2) ro.toNat (zI la))) 3 (upd (M 3) ro.toNat (zI n))) 4 f) Q := by
    intro m
    induction m with
    | zero =>
      intro kx f hk0 hkm hff
      refine q_iload gg63_20 rfl ?_
      refine q_iload gg63_22 rfl ?_
      refine q_call1 gg63_23 tt68 rfl (Nat.le_of_ble_eq_true rfl) rfl (ls' := [some _]) rfl rfl ?_
      refine q_iload gg68_0 rfl ?_
      refine z_const gg68_1 (v := 40) rfl ?_
      first | refine z_imul gg68_3 ?_ | refine q_imul gg68_3 ?_
      refine q_iretC gg68_4 ?_
      refine q_iload gg63_26 rfl ?_
      first | refine z_iadd gg63_27 ?_ | refine q_iadd gg63_27 ?_
      refine z_icmpge gg63_28 (tg := 45) rfl (by omega) (by omega) (fun c1 => ?_) (fun z => absurd z (by omega))
      refine q_ret gg63_45 ?_
      refine kk f (fun i i0 => ?_)
      rw [hff i i0, show kx = 40 * ro + n by omega]
    | succ m ih =>
      intro kx f hk0 hkm hff
      refine q_iload gg63_20 rfl ?_
      refine q_iload gg63_22 rfl ?_
      refine q_call1 gg63_23 tt68 rfl (Nat.le_of_ble_eq_true rfl) rfl (ls' := [some _]) rfl rfl ?_
      refine q_iload gg68_0 rfl ?_
      refine z_const gg68_1 (v := 40) rfl ?_
      first | refine z_imul gg68_3 ?_ | refine q_imul gg68_3 ?_
      refine q_iretC gg68_4 ?_
      refine q_iload gg63_26 rfl ?_
      first | refine z_iadd gg63_27 ?_ | refine q_iadd gg63_27 ?_
      refine z_icmpge gg63_28 (tg := 45) rfl (by omega) (by omega) (fun z => absurd z (by omega)) (fun c1 => ?_)
      refine q_aload gg63_31 rfl ?_
      refine q_getr gg63_32 rfl ?_
      refine q_iload gg63_35 rfl ?_
      refine z_const gg63_37 (v := 0) rfl ?_
      first | refine z_asr gg63_38 (by first | rfl | assumption) (by assumption) (by omega) (by omega) (by decide) (by omega) (by omega) (fun f38 h38 => ?_) | refine z_asx gg63_38 rfl (by omega) (by omega) (by decide) ?_ | refine z_asq gg63_38 rfl (by omega) (by omega) (by decide) ?_
      refine hm_Wp.eqM (hm_row_row _ _ _ _) ?_
      refine z_iinc gg63_39 rfl rfl ?_
      refine q_goto gg63_42 (tg := 20) rfl ?_
      refine ih (kx + 1) _ (by omega) (by omega) (fun i i0 => ?_)
      rw [hm_row_same]
      simp only [upd]
      by_cases hi : i = kx
      · subst hi; rw [if_pos rfl, if_pos (by omega)]
      · rw [if_neg (by omega), hff i i0]
        (repeat' split) <;> first | rfl | omega
  refine q_aload gg63_0 rfl ?_
  refine q_getr gg63_1 rfl ?_
  refine q_iload gg63_4 rfl ?_
  refine q_iload gg63_5 rfl ?_
  first | refine z_asr gg63_6 (by first | rfl | assumption) (by assumption) (by omega) (by omega) (by decide) (by omega) (by omega) (fun f6 h6 => ?_) | refine z_asx gg63_6 rfl (by omega) (by omega) (by decide) ?_ | refine z_asq gg63_6 rfl (by omega) (by omega) (by decide) ?_
  refine q_aload gg63_7 rfl ?_
  refine q_getr gg63_8 rfl ?_
  refine q_iload gg63_11 rfl ?_
  refine q_iload gg63_12 rfl ?_
  first | refine z_asr gg63_13 (by first | rfl | assumption) (by assumption) (by omega) (by omega) (by decide) (by omega) (by omega) (fun f13 h13 => ?_) | refine z_asx gg63_13 rfl (by omega) (by omega) (by decide) ?_ | refine z_asq gg63_13 rfl (by omega) (by omega) (by decide) ?_
  refine q_iload gg63_14 rfl ?_
  refine q_call1 gg63_15 tt68 rfl (Nat.le_of_ble_eq_true rfl) rfl (ls' := [some _]) rfl rfl ?_
  refine q_iload gg68_0 rfl ?_
  refine z_const gg68_1 (v := 40) rfl ?_
  first | refine z_imul gg68_3 ?_ | refine q_imul gg68_3 ?_
  refine q_iretC gg68_4 ?_
  refine q_istore gg63_18 rfl ?_
  refine hm_Wp.eqM (hm_row_self _ 4).symm ?_
  rw [Int.mul_comm ro 40]
  exact L n.toNat (40 * ro) _ (Int.le_refl _) (by omega) (fun i i0 => by rw [if_neg (by omega)]; rfl)
theorem c_row (hro : zR ro) (hla : zR la) (hz : zR n) (h0 : M 0 8 = zI st) (hR : RC M ln lg it) (hW : RW ln lg it) (k0 : rowC ro la n ≠ 0 → ∀ M', FC0 M M' → M' 0 8 = zI (nSt st (rowC ro la n)) → Q (some (.inl (zI (cAns (rowC ro la n) n)))) M') (k1 : rowC ro la n = 0 → ∀ M', RC M' (zup ln ro la) (zup lg ro n) (itZ it ro) → FW M M' → M' 0 8 = zI 0 → Q (some (.inl (zI (cAns (rowC ro la n) n)))) M') : hm_Wp (d + 6) 84 0 [some (.inr (.inr 0)), some (.inl (zI ro)), some (.inl (zI la)), some (.inl (zI n))] [] M Q := by
  obtain ⟨r2, r3, r4⟩ := hR
  unfold zR at hro hla hz
  have hC : rowC ro la n = if 0 ≤ ro ∧ ro ≤ 7 ∧ 0 ≤ la ∧ la ≤ 2 ∧ n ≤ 40 then (if n < 0 then 4 else 0) else 9 := rfl
  refine q_iload gg84_0 rfl ?_
  refine q_call1 gg84_1 tt57 rfl (Nat.le_of_ble_eq_true rfl) rfl (ls' := [some _]) rfl rfl ?_
  refine q_iload gg57_0 rfl ?_
  refine z_iflt gg57_1 (tg := 14) rfl (by omega) (fun c1 => ?_) (fun c1 => ?_)
  · try (exfalso; omega)
    all_goals (
      refine z_const gg57_14 (v := 0) rfl ?_
      refine z_zretC gg57_15 (by omega) ?_
      refine z_ifeq gg84_4 (tg := 20) rfl (by decide) (fun _ => ?_) (fun z => absurd z (by decide))
      refine z_neg gg84_20 ?_
      refine q_iret gg84_22 ?_
      rw [if_neg (by omega)] at hC
      rw [hC] at k0
      exact k0 (by decide) M FT.rf.f0 h0
    )
  · try (exfalso; omega)
    all_goals (
      refine q_iload gg57_4 rfl ?_
      refine z_const gg57_5 (v := 8) rfl ?_
      refine z_icmpge gg57_7 (tg := 14) rfl (by omega) (by omega) (fun c2 => ?_) (fun c2 => ?_)
      · try (exfalso; omega)
        all_goals (
          refine z_const gg57_14 (v := 0) rfl ?_
          refine z_zretC gg57_15 (by omega) ?_
          refine z_ifeq gg84_4 (tg := 20) rfl (by decide) (fun _ => ?_) (fun z => absurd z (by decide))
          refine z_neg gg84_20 ?_
          refine q_iret gg84_22 ?_
          rw [if_neg (by omega)] at hC
          rw [hC] at k0
          exact k0 (by decide) M FT.rf.f0 h0
        )
      · try (exfalso; omega)
        all_goals (
          refine z_const gg57_10 (v := 1) rfl ?_
          refine q_goto gg57_11 (tg := 15) rfl ?_
          refine z_zretC gg57_15 (by omega) ?_
          refine z_ifeq gg84_4 (tg := 20) rfl (by decide) (fun z => absurd z (by decide)) (fun _ => ?_)
          refine q_iload gg84_7 rfl ?_
          refine q_call1 gg84_8 tt58 rfl (Nat.le_of_ble_eq_true rfl) rfl (ls' := [some _]) rfl rfl ?_
          refine q_iload gg58_0 rfl ?_
          refine z_iflt gg58_1 (tg := 13) rfl (by omega) (fun c3 => ?_) (fun c3 => ?_)
          · try (exfalso; omega)
            all_goals (
              refine z_const gg58_13 (v := 0) rfl ?_
              refine z_zretC gg58_14 (by omega) ?_
              refine z_ifeq gg84_11 (tg := 20) rfl (by decide) (fun _ => ?_) (fun z => absurd z (by decide))
              refine z_neg gg84_20 ?_
              refine q_iret gg84_22 ?_
              rw [if_neg (by omega)] at hC
              rw [hC] at k0
              exact k0 (by decide) M FT.rf.f0 h0
            )
          · try (exfalso; omega)
            all_goals (
              refine q_iload gg58_4 rfl ?_
              refine z_const gg58_5 (v := 3) rfl ?_
              refine z_icmpge gg58_6 (tg := 13) rfl (by omega) (by omega) (fun c4 => ?_) (fun c4 => ?_)
              · try (exfalso; omega)
                all_goals (
                  refine z_const gg58_13 (v := 0) rfl ?_
                  refine z_zretC gg58_14 (by omega) ?_
                  refine z_ifeq gg84_11 (tg := 20) rfl (by decide) (fun _ => ?_) (fun z => absurd z (by decide))
                  refine z_neg gg84_20 ?_
                  refine q_iret gg84_22 ?_
                  rw [if_neg (by omega)] at hC
                  rw [hC] at k0
                  exact k0 (by decide) M FT.rf.f0 h0
                )
              · try (exfalso; omega)
                all_goals (
                  refine z_const gg58_9 (v := 1) rfl ?_
                  refine q_goto gg58_10 (tg := 14) rfl ?_
                  refine z_zretC gg58_14 (by omega) ?_
                  refine z_ifeq gg84_11 (tg := 20) rfl (by decide) (fun z => absurd z (by decide)) (fun _ => ?_)
                  refine q_iload gg84_14 rfl ?_
                  refine z_const gg84_15 (v := 40) rfl ?_
                  refine z_icmple gg84_17 (tg := 23) rfl (by omega) (by omega) (fun c5 => ?_) (fun c5 => ?_)
                  · try (exfalso; omega)
                    all_goals (
                      refine q_iload gg84_23 rfl ?_
                      refine z_ifge gg84_24 (tg := 33) rfl (by omega) (fun c6 => ?_) (fun c6 => ?_)
                      · try (exfalso; omega)
                        all_goals (
                          refine q_aload gg84_33 rfl ?_
                          refine q_getr gg84_34 rfl ?_
                          refine q_iload gg84_37 rfl ?_
                          refine q_iload gg84_38 rfl ?_
                          refine q_iload gg84_39 rfl ?_
                          refine q_call4 gg84_40 tt63 rfl (Nat.le_of_ble_eq_true rfl) (hm_rv (by decide +kernel)) (ls' := [some _, some _, some _, some _, none]) rfl rfl ?_
                          refine c_make (by omega) (by omega) (by omega) (by omega) (fun f' hf' => ?_)
                          show hm_Wp _ _ _ _ _ _ _
                          refine q_aload gg84_43 rfl ?_
                          refine q_iload gg84_44 rfl ?_
                          refine q_call2 gg84_45 tt121 rfl (Nat.le_of_ble_eq_true rfl) (hm_rv (by decide +kernel)) (ls' := [some _, some _]) rfl rfl ?_
                          refine q_aload gg121_0 rfl ?_
                          refine z_const gg121_1 (v := 0) rfl ?_
                          refine q_putf gg121_2 rfl ?_
                          refine q_iload gg121_5 rfl ?_
                          refine q_iretC gg121_6 ?_
                          refine q_iret gg84_48 ?_
                          rw [if_pos (by omega), if_neg (by omega)] at hC
                          rw [hC] at k1
                          refine k1 rfl _ ⟨?_, ?_, fun r kx r0 r1 kx0 kx1 => ?_⟩ (fun k a b c e => by unfold hm_up; rw [hm_row_ne _ _ a, hm_row_ne _ _ e, hm_row_ne _ _ c, hm_row_ne _ _ b]) up_at
                          · show aw (upd (M 2) ro.toNat (zI la)) _ _ _ _
                            refine aw_eq (aw_upd r2 (by omega) (by omega) (by omega)) (fun r r0 r1 => ?_)
                            simp only [zup]
                            (repeat' split) <;> omega
                          · show aw (upd (M 3) ro.toNat (zI n)) _ _ _ _
                            exact aw_upd r3 (by omega) (by omega) (by omega)
                          · show f' (40 * r + kx).toNat = _
                            have hl := hW.2.1 r r0 r1
                            simp only [zup] at kx1
                            rw [hf' _ (by omega)]
                            unfold itZ
                            by_cases hrr : r = ro
                            · rw [if_pos hrr] at kx1
                              rw [if_pos (by omega), if_pos (by omega)]
                            · rw [if_neg hrr] at kx1
                              rw [if_neg (by omega), if_neg (by omega)]
                              exact r4 r kx r0 r1 kx0 kx1
                        )
                      · try (exfalso; omega)
                        all_goals (
                          refine q_aload gg84_27 rfl ?_
                          refine z_const gg84_28 (v := 4) rfl ?_
                          refine q_call2 gg84_29 tt120 rfl (Nat.le_of_ble_eq_true rfl) (hm_rv (by decide +kernel)) (ls' := [some _, some _]) rfl rfl ?_
                          refine q_aload gg120_0 rfl ?_
                          refine q_iload gg120_1 rfl ?_
                          refine q_putf gg120_2 rfl ?_
                          refine z_neg gg120_5 ?_
                          refine q_iload gg120_8 rfl ?_
                          first | refine z_isub gg120_9 ?_ | refine q_isub gg120_9 ?_
                          refine q_iretC gg120_10 ?_
                          refine q_iret gg84_32 ?_
                          rw [if_pos (by omega), if_pos (by omega)] at hC
                          rw [hC] at k0
                          exact k0 (by decide) _ (FT.rf.f0.up (M := M) (x := zI 4)) up_at
                        )
                    )
                  · try (exfalso; omega)
                    all_goals (
                      refine z_neg gg84_20 ?_
                      refine q_iret gg84_22 ?_
                      rw [if_neg (by omega)] at hC
                      rw [hC] at k0
                      exact k0 (by decide) M FT.rf.f0 h0
                    )
                )
            )
        )
    )
theorem r_row (hro : zR ro) (hla : zR la) (hz : zR n) (h0 : M 30 4 = zI st) (hR : RR M ln lg it) (hW : RW ln lg it) (k0 : rowC ro la n ≠ 0 → ∀ M', F30 M M' → M' 30 4 = zI (nSt st (rowC ro la n)) → Q (some (.inl (zI (cAns (rowC ro la n) n)))) M') (k1 : rowC ro la n = 0 → ∀ M', RR M' (zup ln ro la) (zup lg ro n) (itZ it ro) → FWR M M' → M' 30 4 = zI 0 → Q (some (.inl (zI (cAns (rowC ro la n) n)))) M') : hm_Wp (d + 6) 134 0 [some (.inr (.inr 30)), some (.inl (zI ro)), some (.inl (zI la)), some (.inl (zI n)), none] [] M Q := by
  obtain ⟨r2, r3, r4⟩ := hR
  unfold zR at hro hla hz
  have hC : rowC ro la n = if 0 ≤ ro ∧ ro ≤ 7 ∧ 0 ≤ la ∧ la ≤ 2 ∧ n ≤ 40 then (if n < 0 then 4 else 0) else 9 := rfl
  have L : 0 ≤ ro → ro ≤ 7 → 0 ≤ la → la ≤ 2 → n ≤ 40 → 0 ≤ n → ∀ (m : Nat) (kx : Int) (f : Nat → Int32), 0 ≤ kx → kx + m = 40 → (∀ i : Int, 0 ≤ i → f i.toNat = if 40 * ro ≤ i ∧ i < 40 * ro + kx then zI 0 else M 33 i.toNat) → hm_Wp (d + 6) 134 52 [some (.inr (.inr 30)), some (.inl (zI ro)), some (.inl (zI la)), some (.inl (zI n)), some (.inl (zI kx))] [] (hm_row (hm_row (hm_row M 31 (upd (M 31) ro.toNat (zI la))) 32 (upd (M 32) ro.toNat (zI n))) 33 f) Q := by
    intro h1 h2 h3 h4 h5 h6 m
    rw [if_pos (by omega), if_neg (by omega)] at hC
    rw [hC] at k1
    induction m with
    | zero =>
      intro kx f hk0 hkm hff
      refine q_iload gg134_52 rfl ?_
      refine z_const gg134_54 (v := 40) rfl ?_
      refine z_icmpge gg134_56 (tg := 78) rfl (by omega) (by omega) (fun c1 => ?_) (fun z => absurd z (by omega))
      refine q_aload gg134_78 rfl ?_
      refine q_iload gg134_79 rfl ?_
      refine q_call2 gg134_80 tt129 rfl (Nat.le_of_ble_eq_true rfl) (hm_rv (by decide +kernel)) (ls' := [some _, some _]) rfl rfl ?_
      refine q_aload gg129_0 rfl ?_
      refine z_const gg129_1 (v := 0) rfl ?_
      refine q_putf gg129_2 rfl ?_
      refine q_iload gg129_5 rfl ?_
      refine q_iretC gg129_6 ?_
      refine q_iret gg134_83 ?_
      refine k1 rfl _ ⟨?_, ?_, fun r kx r0 r1 kx0 kx1 => ?_⟩ ⟨fun k a b c e g => by unfold hm_up; rw [hm_row_ne _ _ a, hm_row_ne _ _ e, hm_row_ne _ _ c, hm_row_ne _ _ b], fun j hj => by unfold hm_up; rw [hm_row_same]; simp only [upd]; rw [if_neg hj]; rfl⟩ up_at
      · show aw (upd (M 31) ro.toNat (zI la)) _ _ _ _
        exact aw_upd r2 (by omega) (by omega) (by omega)
      · show aw (upd (M 32) ro.toNat (zI n)) _ _ _ _
        exact aw_upd r3 (by omega) (by omega) (by omega)
      · show f (40 * r + kx).toNat = _
        have hl := hW.2.1 r r0 r1
        simp only [zup] at kx1
        rw [hff _ (by omega)]
        unfold itZ
        by_cases hrr : r = ro
        · rw [if_pos hrr] at kx1
          rw [if_pos (by omega), if_pos (by omega)]
        · rw [if_neg hrr] at kx1
          rw [if_neg (by omega), if_neg (by omega)]
          exact r4 r kx r0 r1 kx0 kx1
    | succ m ih =>
      intro kx f hk0 hkm hff
      refine q_iload gg134_52 rfl ?_
      refine z_const gg134_54 (v := 40) rfl ?_
      refine z_icmpge gg134_56 (tg := 78) rfl (by omega) (by omega) (fun z => absurd z (by omega)) (fun c1 => ?_)
      refine q_aload gg134_59 rfl ?_
      refine q_getr gg134_60 rfl ?_
      refine z_const gg134_63 (v := 40) rfl ?_
      refine q_iload gg134_65 rfl ?_
      first | refine z_imul gg134_66 ?_ | refine q_imul gg134_66 ?_
      refine q_iload gg134_67 rfl ?_
      first | refine z_iadd gg134_69 ?_ | refine q_iadd gg134_69 ?_
      refine z_const gg134_70 (v := 0) rfl ?_
      first | refine z_asr gg134_71 (by first | rfl | assumption) (by assumption) (by omega) (by omega) (by decide) (by omega) (by omega) (fun f71 h71 => ?_) | refine z_asx gg134_71 rfl (by omega) (by omega) (by decide) ?_ | refine z_asq gg134_71 rfl (by omega) (by omega) (by decide) ?_
      refine hm_Wp.eqM (hm_row_row _ _ _ _) ?_
      refine z_iinc gg134_72 rfl rfl ?_
      refine q_goto gg134_75 (tg := 52) rfl ?_
      refine ih (kx + 1) _ (by omega) (by omega) (fun i i0 => ?_)
      rw [hm_row_same]
      simp only [upd]
      by_cases hi : i = 40 * ro + kx
      · subst hi; rw [if_pos rfl, if_pos (by omega)]
      · rw [if_neg (by omega), hff i i0]
        (repeat' split) <;> first | rfl | omega
  refine q_iload gg134_0 rfl ?_
  refine q_call1 gg134_1 tt131 rfl (Nat.le_of_ble_eq_true rfl) rfl (ls' := [some _]) rfl rfl ?_
  refine q_iload gg131_0 rfl ?_
  refine z_const gg131_1 (v := 0) rfl ?_
  refine z_const gg131_2 (v := 7) rfl ?_
  refine q_call3 gg131_4 tt124 rfl (Nat.le_of_ble_eq_true rfl) rfl (ls' := [some _, some _, some _]) rfl rfl ?_
  refine q_iload gg124_0 rfl ?_
  refine q_iload gg124_1 rfl ?_
  refine z_icmplt gg124_2 (tg := 14) rfl (by omega) (by omega) (fun c1 => ?_) (fun c1 => ?_)
  · try (exfalso; omega)
    all_goals (
      refine z_const gg124_14 (v := 0) rfl ?_
      refine z_zretC gg124_15 (by omega) ?_
      refine z_zretC gg131_7 (by omega) ?_
      refine z_ifeq gg134_4 (tg := 22) rfl (by decide) (fun _ => ?_) (fun z => absurd z (by decide))
      refine z_neg gg134_22 ?_
      refine q_iret gg134_24 ?_
      rw [if_neg (by omega)] at hC
      rw [hC] at k0
      exact k0 (by decide) M FR.rf.f30 h0
    )
  · try (exfalso; omega)
    all_goals (
      refine q_iload gg124_5 rfl ?_
      refine q_iload gg124_6 rfl ?_
      refine z_icmpgt gg124_7 (tg := 14) rfl (by omega) (by omega) (fun c2 => ?_) (fun c2 => ?_)
      · try (exfalso; omega)
        all_goals (
          refine z_const gg124_14 (v := 0) rfl ?_
          refine z_zretC gg124_15 (by omega) ?_
          refine z_zretC gg131_7 (by omega) ?_
          refine z_ifeq gg134_4 (tg := 22) rfl (by decide) (fun _ => ?_) (fun z => absurd z (by decide))
          refine z_neg gg134_22 ?_
          refine q_iret gg134_24 ?_
          rw [if_neg (by omega)] at hC
          rw [hC] at k0
          exact k0 (by decide) M FR.rf.f30 h0
        )
      · try (exfalso; omega)
        all_goals (
          refine z_const gg124_10 (v := 1) rfl ?_
          refine q_goto gg124_11 (tg := 15) rfl ?_
          refine z_zretC gg124_15 (by omega) ?_
          refine z_zretC gg131_7 (by omega) ?_
          refine z_ifeq gg134_4 (tg := 22) rfl (by decide) (fun z => absurd z (by decide)) (fun _ => ?_)
          refine q_iload gg134_7 rfl ?_
          refine z_const gg134_8 (v := 0) rfl ?_
          refine z_const gg134_9 (v := 2) rfl ?_
          refine q_call3 gg134_10 tt124 rfl (Nat.le_of_ble_eq_true rfl) rfl (ls' := [some _, some _, some _]) rfl rfl ?_
          refine q_iload gg124_0 rfl ?_
          refine q_iload gg124_1 rfl ?_
          refine z_icmplt gg124_2 (tg := 14) rfl (by omega) (by omega) (fun c3 => ?_) (fun c3 => ?_)
          · try (exfalso; omega)
            all_goals (
              refine z_const gg124_14 (v := 0) rfl ?_
              refine z_zretC gg124_15 (by omega) ?_
              refine z_ifeq gg134_13 (tg := 22) rfl (by decide) (fun _ => ?_) (fun z => absurd z (by decide))
              refine z_neg gg134_22 ?_
              refine q_iret gg134_24 ?_
              rw [if_neg (by omega)] at hC
              rw [hC] at k0
              exact k0 (by decide) M FR.rf.f30 h0
            )
          · try (exfalso; omega)
            all_goals (
              refine q_iload gg124_5 rfl ?_
              refine q_iload gg124_6 rfl ?_
              refine z_icmpgt gg124_7 (tg := 14) rfl (by omega) (by omega) (fun c4 => ?_) (fun c4 => ?_)
              · try (exfalso; omega)
                all_goals (
                  refine z_const gg124_14 (v := 0) rfl ?_
                  refine z_zretC gg124_15 (by omega) ?_
                  refine z_ifeq gg134_13 (tg := 22) rfl (by decide) (fun _ => ?_) (fun z => absurd z (by decide))
                  refine z_neg gg134_22 ?_
                  refine q_iret gg134_24 ?_
                  rw [if_neg (by omega)] at hC
                  rw [hC] at k0
                  exact k0 (by decide) M FR.rf.f30 h0
                )
              · try (exfalso; omega)
                all_goals (
                  refine z_const gg124_10 (v := 1) rfl ?_
                  refine q_goto gg124_11 (tg := 15) rfl ?_
                  refine z_zretC gg124_15 (by omega) ?_
                  refine z_ifeq gg134_13 (tg := 22) rfl (by decide) (fun z => absurd z (by decide)) (fun _ => ?_)
                  refine q_iload gg134_16 rfl ?_
                  refine z_const gg134_17 (v := 40) rfl ?_
                  refine z_icmple gg134_19 (tg := 25) rfl (by omega) (by omega) (fun c5 => ?_) (fun c5 => ?_)
                  · try (exfalso; omega)
                    all_goals (
                      refine q_iload gg134_25 rfl ?_
                      refine z_ifge gg134_26 (tg := 35) rfl (by omega) (fun c6 => ?_) (fun c6 => ?_)
                      · try (exfalso; omega)
                        all_goals (
                          refine q_aload gg134_35 rfl ?_
                          refine q_getr gg134_36 rfl ?_
                          refine q_iload gg134_39 rfl ?_
                          refine q_iload gg134_40 rfl ?_
                          first | refine z_asr gg134_41 (by first | rfl | assumption) (by assumption) (by omega) (by omega) (by decide) (by omega) (by omega) (fun f41 h41 => ?_) | refine z_asx gg134_41 rfl (by omega) (by omega) (by decide) ?_ | refine z_asq gg134_41 rfl (by omega) (by omega) (by decide) ?_
                          refine q_aload gg134_42 rfl ?_
                          refine q_getr gg134_43 rfl ?_
                          refine q_iload gg134_46 rfl ?_
                          refine q_iload gg134_47 rfl ?_
                          first | refine z_asr gg134_48 (by first | rfl | assumption) (by assumption) (by omega) (by omega) (by decide) (by omega) (by omega) (fun f48 h48 => ?_) | refine z_asx gg134_48 rfl (by omega) (by omega) (by decide) ?_ | refine z_asq gg134_48 rfl (by omega) (by omega) (by decide) ?_
                          refine z_const gg134_49 (v := 0) rfl ?_
                          refine q_istore gg134_50 rfl ?_
                          refine hm_Wp.eqM (hm_row_self _ 33).symm ?_
                          exact L (by omega) (by omega) (by omega) (by omega) (by omega) (by omega) 40 0 _ (by decide) (by decide) (fun i i0 => by rw [if_neg (by omega)]; rfl)
                        )
                      · try (exfalso; omega)
                        all_goals (
                          refine q_aload gg134_29 rfl ?_
                          refine z_const gg134_30 (v := 4) rfl ?_
                          refine q_call2 gg134_31 tt128 rfl (Nat.le_of_ble_eq_true rfl) (hm_rv (by decide +kernel)) (ls' := [some _, some _]) rfl rfl ?_
                          refine q_aload gg128_0 rfl ?_
                          refine q_iload gg128_1 rfl ?_
                          refine q_putf gg128_2 rfl ?_
                          refine z_neg gg128_5 ?_
                          refine q_iload gg128_7 rfl ?_
                          first | refine z_isub gg128_8 ?_ | refine q_isub gg128_8 ?_
                          refine q_iretC gg128_9 ?_
                          refine q_iret gg134_34 ?_
                          rw [if_pos (by omega), if_pos (by omega)] at hC
                          rw [hC] at k0
                          exact k0 (by decide) _ (F30.up (M := M) (x := zI 4) FR.rf) up_at
                        )
                    )
                  · try (exfalso; omega)
                    all_goals (
                      refine z_neg gg134_22 ?_
                      refine q_iret gg134_24 ?_
                      rw [if_neg (by omega)] at hC
                      rw [hC] at k0
                      exact k0 (by decide) M FR.rf.f30 h0
                    )
                )
            )
        )
    )
/-! set -/
def cutV (la v : Int) : Int := if la = 0 then ((zI v).toInt8.toInt32).toInt else if la = 1 then ((zI v).toInt16.toInt32).toInt else v
theorem zI_ti (x : Int32) : zI x.toInt = x := Int32.ofInt_toInt x
theorem zR_ti (x : Int32) : zR x.toInt := ⟨by have := x.le_toInt; omega, by have := x.toInt_lt; omega⟩
theorem cutV_R (hv : zR v) : zR (cutV la v) := by
  unfold cutV
  (repeat' split)
  · exact zR_ti _
  · exact zR_ti _
  · exact hv
theorem c_cutTo (h0 : 0 ≤ la) (h1 : la ≤ 2) (kk : Q (some (.inl (zI (cutV la v)))) M) : hm_Wp d 69 0 [some (.inl (zI la)), some (.inl (zI v))] [] M Q := by
  have hE : cutV la v = if la = 0 then ((zI v).toInt8.toInt32).toInt else if la = 1 then ((zI v).toInt16.toInt32).toInt else v := rfl
  refine q_iload gg69_0 rfl ?_
  refine z_sw gg69_1 (by omega) ?_
  simp only [hm_swt_cons, hm_swt_nil]
  split
  · try (exfalso; omega)
    all_goals (
      refine q_iload gg69_28 rfl ?_
      refine q_i2b gg69_29 ?_
      refine q_iret gg69_30 ?_
      rw [hE, if_pos (by assumption), zI_ti] at kk
      exact kk
    )
  split
  · try (exfalso; omega)
    all_goals (
      refine q_iload gg69_31 rfl ?_
      refine q_i2s gg69_32 ?_
      refine q_iret gg69_33 ?_
      rw [hE, if_neg (by omega), if_pos (by assumption), zI_ti] at kk
      exact kk
    )
  try (exfalso; omega)
  all_goals (
    show hm_Wp _ _ 34 _ _ _ _
    refine q_iload gg69_34 rfl ?_
    refine q_iret gg69_35 ?_
    rw [hE, if_neg (by omega), if_neg (by omega)] at kk
    exact kk
  )
theorem r_cut (h0 : 0 ≤ la) (h1 : la ≤ 2) (kk : Q (some (.inl (zI (cutV la v)))) M) : hm_Wp d 133 0 [some (.inl (zI la)), some (.inl (zI v))] [] M Q := by
  have hE : cutV la v = if la = 0 then ((zI v).toInt8.toInt32).toInt else if la = 1 then ((zI v).toInt16.toInt32).toInt else v := rfl
  refine q_iload gg133_0 rfl ?_
  refine z_ifne gg133_1 (tg := 14) rfl (by omega) (fun c1 => ?_) (fun c1 => ?_)
  · rw [hE, if_neg (by omega)] at kk
    refine q_iload gg133_14 rfl ?_
    refine z_const gg133_15 (v := 1) rfl ?_
    refine z_icmpne gg133_16 (tg := 29) rfl (by omega) (by omega) (fun c16 => ?_) (fun c16 => ?_)
    · rw [if_neg (by omega)] at kk
      refine q_iload gg133_29 rfl ?_
      refine q_iret gg133_30 ?_
      exact kk
    · rw [if_pos (by omega), zI_ti, ← cut16] at kk
      refine q_iload gg133_19 rfl ?_
      refine z_const gg133_20 (v := 16) rfl ?_
      refine q_ishl gg133_22 ?_
      refine z_const gg133_23 (v := 16) rfl ?_
      refine q_ishr gg133_25 ?_
      refine q_goto gg133_26 (tg := 30) rfl ?_
      refine q_iret gg133_30 ?_
      exact kk
  · rw [hE, if_pos (by omega), zI_ti, ← cut8] at kk
    refine q_iload gg133_4 rfl ?_
    refine z_const gg133_5 (v := 24) rfl ?_
    refine q_ishl gg133_7 ?_
    refine z_const gg133_8 (v := 24) rfl ?_
    refine q_ishr gg133_10 ?_
    refine q_goto gg133_11 (tg := 30) rfl ?_
    refine q_iret gg133_30 ?_
    exact kk
end W2
