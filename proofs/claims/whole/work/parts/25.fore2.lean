section F2
variable {d r : Nat} {M N : hm_M} {w v w0 : Int → Int} {b n e x : Int} {f : Nat → Int32} {Q : Option hm_V → hm_M → Prop}
theorem aSwell_u {x y : Int} (h1 : aSwell w b e x) (h2 : aSwell w b e y) : x = y := by
  rcases h1 with ⟨a1, a2, a3, a4, a5⟩ | ⟨a1, a2⟩ <;> rcases h2 with ⟨c1, c2, c3, c4, c5⟩ | ⟨c1, c2⟩
  · rw [a5, c5]
  · exact absurd ⟨a1, a2, a3, a4⟩ c1
  · exact absurd ⟨c1, c2, c3, c4⟩ a1
  · rw [a2, c2]
theorem wf_bs (hw : mWf w) {q : Int} (h0 : 0 ≤ q) (h : q < 7) : bsum (mFlag w q) (w 2).toNat = bsum (mFlag w q) 7 := by
  have hn := hw.1.1
  exact (bsum_ext (by omega) (fun b b0 b1 => hw.2.2.2.1 b q (by omega) (by omega) h0 h)).symm
/-- heat (0) and cloth (1) of a hob -/
theorem Hb_f01 {i : Int} {j : Nat} (hij : (i = 0 ∧ j = 5) ∨ (i = 1 ∧ j = 6)) (h : Hb N r w) : Hb (hm_up N r j (zI x)) r (zup w i x) := by
  obtain ⟨⟨h4, h5, h6, h8, h9, h10, a1, a2, a4⟩, h7, a3⟩ := h
  have e : ∀ q : Int, q ≠ i → zup w i x q = w q := fun q h => by simp [zup, h]
  have ei : zup w i x i = x := by simp [zup]
  have e0 : ∀ q, q ≠ j → hm_up N r j (zI x) r q = N r q := fun q hj => by simp [hm_up, hm_row, upd, hj]
  have ej : hm_up N r j (zI x) r j = zI x := by simp [hm_up, hm_row, upd]
  have ek : ∀ k, k ≠ r → hm_up N r j (zI x) k = N k := fun k hk => hm_row_ne _ _ hk
  have fl : ∀ q : Int, 0 ≤ q → bsum (mFlag (zup w i x) q) 7 = bsum (mFlag w q) 7 := fun q hq => bsum_congr (fun b b0 b1 => by simp only [mFlag]; exact e _ (by omega))
  have g1 := aw_eq a1 (w' := fun b => zup w i x (4 + 7 * b)) (fun c c0 c1 => (e _ (by omega)).symm)
  have g2 := aw_eq a2 (w' := fun b => zup w i x (4 + 7 * b + 1)) (fun c c0 c1 => (e _ (by omega)).symm)
  have g4 := aw_eq a4 (w' := fun b => zup w i x (4 + 7 * b + 3)) (fun c c0 c1 => (e _ (by omega)).symm)
  have g3 := aw_eq a3 (w' := fun b => zup w i x (4 + 7 * b + 2)) (fun c c0 c1 => (e _ (by omega)).symm)
  unfold Hb Hc Hs
  rw [ek (r + 1) (by omega), ek (r + 2) (by omega), ek (r + 3) (by omega), ek (r + 4) (by omega), e0 4 (by omega), e0 7 (by omega), e0 8 (by omega), e0 9 (by omega), e0 10 (by omega), e 2 (by omega), e 3 (by omega), fl 4 (by decide), fl 5 (by decide), fl 6 (by decide)]
  rcases hij with ⟨rfl, rfl⟩ | ⟨rfl, rfl⟩
  · rw [ej, ei, e0 6 (by decide), e 1 (by decide)]
    exact ⟨⟨h4, rfl, h6, h8, h9, h10, g1, g2, g4⟩, h7, g3⟩
  · rw [ej, ei, e0 5 (by decide), e 0 (by decide)]
    exact ⟨⟨h4, h5, rfl, h8, h9, h10, g1, g2, g4⟩, h7, g3⟩
theorem mWf_heat (hw : mWf w) (h0 : 0 ≤ x) (h : x ≤ 9) : mWf (zup w 0 x) := by
  have e : ∀ i : Int, i ≠ 0 → zup w 0 x i = w i := fun i h => by simp [zup, h]
  have hbd := hw.2.1
  have hn := hw.1.1
  refine mWf_of hw (e 2 (by decide)) (by simp [zup]; omega) ?_ (by rw [e 3 (by decide)]; exact hbd 3 (by decide) (by decide)) (fun b b0 b1 => ?_) (fun b b0 b1 => ?_) (fun b q b0 b1 q0 q1 => ?_) (fun b q b0 b1 q0 q1 => e _ (by omega))
  · rw [e 1 (by decide)]; exact ⟨hw.2.2.2.2.2, (hbd 1 (by decide) (by decide)).1⟩
  · have h1 := hw.2.2.1 b b0 b1
    have h2 := hbd (4 + 7 * b + 1) (by omega) (by omega)
    rw [e _ (by omega), e _ (by omega), e _ (by omega)]; omega
  · have h1 := hw.2.2.1 b b0 b1
    have h2 := hbd (4 + 7 * b + 2) (by omega) (by omega)
    rw [e _ (by omega)]; omega
  · rw [e _ (by omega)]; exact hw.1.2.1 b q b0 (by omega) q0 q1
theorem mWf_cloth (hw : mWf w) (h0 : 0 ≤ x) (h : x ≤ 60) : mWf (zup w 1 x) := by
  have e : ∀ i : Int, i ≠ 1 → zup w 1 x i = w i := fun i h => by simp [zup, h]
  have hbd := hw.2.1
  have hn := hw.1.1
  refine mWf_of hw (e 2 (by decide)) ?_ (by simp [zup]; omega) (by rw [e 3 (by decide)]; exact hbd 3 (by decide) (by decide)) (fun b b0 b1 => ?_) (fun b b0 b1 => ?_) (fun b q b0 b1 q0 q1 => ?_) (fun b q b0 b1 q0 q1 => e _ (by omega))
  · rw [e 0 (by decide)]; exact ⟨hw.2.2.2.2.1, (hbd 0 (by decide) (by decide)).1⟩
  · have h1 := hw.2.2.1 b b0 b1
    have h2 := hbd (4 + 7 * b + 1) (by omega) (by omega)
    rw [e _ (by omega), e _ (by omega), e _ (by omega)]; omega
  · have h1 := hw.2.2.1 b b0 b1
    have h2 := hbd (4 + 7 * b + 2) (by omega) (by omega)
    rw [e _ (by omega)]; omega
  · rw [e _ (by omega)]; exact hw.1.2.1 b q b0 (by omega) q0 q1
noncomputable def aBurst (w : Int → Int) (e : Int) : Int := if w 2 = 0 then -1000002 else if 0 ≤ e ∧ e ≤ 60 then bsum (mFlag (mIt e.toNat w) 5) 7 else -1000001
theorem c_burst (he : zR e) (h : Hb M 7 w) (hw : mWf w) (h3 : w 3 ≤ 9999) (kk : ∀ (M' : hm_M), FT M M' → Q (some (.inl (zI (aBurst w e)))) M') : hm_Wp (d + 6) 101 0 [some (.inr (.inr 0)), some (.inl (zI e))] [] M Q := by
  have hn := hw.1.1
  have h4 := h.1.1
  unfold zR at he
  refine q_aload gg101_0 rfl ?_
  refine q_getr gg101_1 rfl ?_
  refine q_call1 gg101_4 tt31 rfl (Nat.le_of_ble_eq_true rfl) (hm_rv (by decide +kernel)) (ls' := [some _]) rfl rfl ?_
  refine q_aload gg31_0 rfl ?_
  first | refine z_getf gg31_1 rfl (by assumption) ?_ | refine q_getf gg31_1 rfl ?_
  refine z_ifne gg31_4 (tg := 11) rfl (by omega) (fun c1 => ?_) (fun c1 => ?_)
  · try (exfalso; omega)
    all_goals (
      refine z_const gg31_11 (v := 0) rfl ?_
      refine z_zretC gg31_12 (by omega) ?_
      refine z_ifeq gg101_7 (tg := 13) rfl (by decide) (fun _ => ?_) (fun z => absurd z (by decide))
      refine q_iload gg101_13 rfl ?_
      refine z_iflt gg101_14 (tg := 23) rfl (by omega) (fun c2 => ?_) (fun c2 => ?_)
      · try (exfalso; omega)
        all_goals (
          refine z_neg gg101_23 ?_
          refine q_iret gg101_25 ?_
          first | (refine qv ?_ (kk _ FT.rf); unfold aBurst; first | (rw [if_pos (by omega)]; done) | (rw [if_neg (by omega), if_neg (by omega)]; done)) | (refine qv ?_ (kk _ (hft.tr hfr.ft)); unfold aBurst; rw [if_neg (by omega), if_pos (by omega)]; exact heq.bs (by decide) (by decide))
        )
      · try (exfalso; omega)
        all_goals (
          refine q_iload gg101_17 rfl ?_
          refine z_const gg101_18 (v := 60) rfl ?_
          refine z_icmple gg101_20 (tg := 26) rfl (by omega) (by omega) (fun c3 => ?_) (fun c3 => ?_)
          · try (exfalso; omega)
            all_goals (
              refine q_aload gg101_26 rfl ?_
              refine q_getr gg101_27 rfl ?_
              refine q_iload gg101_30 rfl ?_
              refine q_call2 gg101_31 tt11 rfl (Nat.le_of_ble_eq_true rfl) (hm_rv (by decide +kernel)) (ls' := [some _, some _]) rfl rfl ?_
              refine q_aload gg11_0 rfl ?_
              refine q_call1 gg11_1 tt27 rfl (Nat.le_of_ble_eq_true rfl) (hm_rv (by decide +kernel)) (ls' := [some _]) rfl rfl ?_
              refine c_beginTrial h hw (fun M1 h1 h17 hft => ?_)
              show hm_Wp _ _ _ _ _ _ _
              refine q_aload gg11_4 rfl ?_
              refine q_iload gg11_5 rfl ?_
              refine q_call2 gg11_6 tt28 rfl (Nat.le_of_ble_eq_true rfl) (hm_rv (by decide +kernel)) (ls' := [some _, some _, none, none]) rfl rfl ?_
              refine c_boilTrial h1 hw (by omega) (by omega) (by omega) (fun M2 v h2 hv heq hfr => ?_)
              have g9 := h2.1.2.2.2.2.1
              show hm_Wp _ _ _ _ _ _ _
              refine q_aload gg11_9 rfl ?_
              refine q_getr gg11_10 rfl ?_
              first | refine z_getf gg11_13 rfl (by assumption) ?_ | refine q_getf gg11_13 rfl ?_
              refine q_iretC gg11_16 ?_
              refine q_iret gg101_34 ?_
              first | (refine qv ?_ (kk _ FT.rf); unfold aBurst; first | (rw [if_pos (by omega)]; done) | (rw [if_neg (by omega), if_neg (by omega)]; done)) | (refine qv ?_ (kk _ (hft.tr hfr.ft)); unfold aBurst; rw [if_neg (by omega), if_pos (by omega)]; exact heq.bs (by decide) (by decide))
            )
          · try (exfalso; omega)
            all_goals (
              refine z_neg gg101_23 ?_
              refine q_iret gg101_25 ?_
              first | (refine qv ?_ (kk _ FT.rf); unfold aBurst; first | (rw [if_pos (by omega)]; done) | (rw [if_neg (by omega), if_neg (by omega)]; done)) | (refine qv ?_ (kk _ (hft.tr hfr.ft)); unfold aBurst; rw [if_neg (by omega), if_pos (by omega)]; exact heq.bs (by decide) (by decide))
            )
        )
    )
  · try (exfalso; omega)
    all_goals (
      refine z_const gg31_7 (v := 1) rfl ?_
      refine q_goto gg31_8 (tg := 12) rfl ?_
      refine z_zretC gg31_12 (by omega) ?_
      refine z_ifeq gg101_7 (tg := 13) rfl (by decide) (fun z => absurd z (by decide)) (fun _ => ?_)
      refine z_neg gg101_10 ?_
      refine q_iret gg101_12 ?_
      first | (refine qv ?_ (kk _ FT.rf); unfold aBurst; first | (rw [if_pos (by omega)]; done) | (rw [if_neg (by omega), if_neg (by omega)]; done)) | (refine qv ?_ (kk _ (hft.tr hfr.ft)); unfold aBurst; rw [if_neg (by omega), if_pos (by omega)]; exact heq.bs (by decide) (by decide))
    )
theorem r_burst (he : zR e) (hf : aw (M 36) 53 0 20000 w) (hw : mWf w) (hc : w 2 = 0 ↔ w 1 = 0) (h3 : w 3 ≤ 9999) (kk : ∀ (M' : hm_M), FR M M' → Q (some (.inl (zI (aBurst w e)))) M') : hm_Wp (d + 6) 177 0 [some (.inr (.inr 30)), some (.inl (zI e))] [] M Q := by
  have hn := hw.1.1
  unfold zR at he
  refine q_aload gg177_0 rfl ?_
  refine q_call1 gg177_1 tt151 rfl (Nat.le_of_ble_eq_true rfl) (hm_rv (by decide +kernel)) (ls' := [some _]) rfl rfl ?_
  refine q_aload gg151_0 rfl ?_
  refine q_getr gg151_1 rfl ?_
  refine z_const gg151_4 (v := 1) rfl ?_
  first | refine z_alr gg151_5 (by first | rfl | assumption) (by assumption) (by omega) (by omega) (by omega) (by decide) (fun visHob_5 evisHob_5 lvisHob_5 uvisHob_5 => ?_) | refine z_alx gg151_5 rfl (by assumption) (by omega) (by omega) (by omega) (by decide) (fun visHob_5 evisHob_5 lvisHob_5 uvisHob_5 => ?_) <;> (try dsimp only at evisHob_5)
  refine z_ifle gg151_6 (tg := 13) rfl (by omega) (fun c1 => ?_) (fun c1 => ?_)
  · try (exfalso; omega)
    all_goals (
      refine z_const gg151_13 (v := 0) rfl ?_
      refine z_zretC gg151_14 (by omega) ?_
      refine z_ifne gg177_4 (tg := 10) rfl (by decide) (fun z => absurd z (by decide)) (fun _ => ?_)
      refine z_neg gg177_7 ?_
      refine q_iret gg177_9 ?_
      refine qv ?_ (kk _ FR.rf)
      unfold aBurst
      rw [if_pos (by omega)]
    )
  · try (exfalso; omega)
    all_goals (
      refine z_const gg151_9 (v := 1) rfl ?_
      refine q_goto gg151_10 (tg := 14) rfl ?_
      refine z_zretC gg151_14 (by omega) ?_
      refine z_ifne gg177_4 (tg := 10) rfl (by decide) (fun _ => ?_) (fun z => absurd z (by decide))
      refine q_iload gg177_10 rfl ?_
      refine z_const gg177_11 (v := 0) rfl ?_
      refine z_const gg177_12 (v := 60) rfl ?_
      refine q_call3 gg177_14 tt124 rfl (Nat.le_of_ble_eq_true rfl) rfl (ls' := [some _, some _, some _]) rfl rfl ?_
      refine q_iload gg124_0 rfl ?_
      refine q_iload gg124_1 rfl ?_
      refine z_icmplt gg124_2 (tg := 14) rfl (by omega) (by omega) (fun c2 => ?_) (fun c2 => ?_)
      · try (exfalso; omega)
        all_goals (
          refine z_const gg124_14 (v := 0) rfl ?_
          refine z_zretC gg124_15 (by omega) ?_
          refine z_ifne gg177_17 (tg := 23) rfl (by decide) (fun z => absurd z (by decide)) (fun _ => ?_)
          refine z_neg gg177_20 ?_
          refine q_iret gg177_22 ?_
          refine qv ?_ (kk _ FR.rf)
          unfold aBurst
          rw [if_neg (by omega), if_neg (by omega)]
        )
      · try (exfalso; omega)
        all_goals (
          refine q_iload gg124_5 rfl ?_
          refine q_iload gg124_6 rfl ?_
          refine z_icmpgt gg124_7 (tg := 14) rfl (by omega) (by omega) (fun c3 => ?_) (fun c3 => ?_)
          · try (exfalso; omega)
            all_goals (
              refine z_const gg124_14 (v := 0) rfl ?_
              refine z_zretC gg124_15 (by omega) ?_
              refine z_ifne gg177_17 (tg := 23) rfl (by decide) (fun z => absurd z (by decide)) (fun _ => ?_)
              refine z_neg gg177_20 ?_
              refine q_iret gg177_22 ?_
              refine qv ?_ (kk _ FR.rf)
              unfold aBurst
              rw [if_neg (by omega), if_neg (by omega)]
            )
          · try (exfalso; omega)
            all_goals (
              refine z_const gg124_10 (v := 1) rfl ?_
              refine q_goto gg124_11 (tg := 15) rfl ?_
              refine z_zretC gg124_15 (by omega) ?_
              refine z_ifne gg177_17 (tg := 23) rfl (by decide) (fun _ => ?_) (fun z => absurd z (by decide))
              refine q_aload gg177_23 rfl ?_
              refine q_getr gg177_24 rfl ?_
              refine z_const gg177_27 (v := 0) rfl ?_
              refine q_aload gg177_28 rfl ?_
              refine q_getr gg177_29 rfl ?_
              refine z_const gg177_32 (v := 0) rfl ?_
              refine q_call4 gg177_33 tt130 rfl (Nat.le_of_ble_eq_true rfl) rfl (ls' := [some _, some _, some _, some _, none]) rfl rfl ?_
              refine r_cpNT hf (fun f1 hf1 => ?_)
              show hm_Wp _ _ _ _ _ _ _
              refine q_aload gg177_36 rfl ?_
              refine q_iload gg177_37 rfl ?_
              refine q_call2 gg177_38 tt175 rfl (Nat.le_of_ble_eq_true rfl) (hm_rv (by decide +kernel)) (ls' := [some _, some _, none]) rfl rfl ?_
              refine r_goesOn hf1 hw.1 (by omega) (by omega) (by omega) (fun f2 hf2 => ?_)
              have hT := mIt_wf e.toNat hw (by omega)
              show hm_Wp _ _ _ _ _ _ _
              refine q_aload gg177_41 rfl ?_
              refine q_getr gg177_42 rfl ?_
              refine z_const gg177_45 (v := 5) rfl ?_
              refine q_call2 gg177_46 tt156 rfl (Nat.le_of_ble_eq_true rfl) rfl (ls' := [some _, some _, none, none]) rfl rfl ?_
              refine r_areSo rfl hf2 hT.1.1.1 hT.1.1.2 (by decide) (by decide) (hT.f01 (by decide) (by decide)) ?_
              rw [wf_bs hT (by decide) (by decide)]
              show hm_Wp _ _ _ _ (_ :: _) _ _
              refine q_iret gg177_49 ?_
              refine qv ?_ (kk _ FR.row)
              unfold aBurst
              rw [if_neg (by omega), if_pos (by omega)]
            )
        )
    )
noncomputable def aBt : Nat → (Int → Int) → Int → Int → Int
  | 0, _, _, _ => -1000000
  | m + 1, w, b, j => if w (4 + 7 * b + 5) = 1 then j else aBt m (mPass w) b (j + 1)
theorem aBt_t {m : Nat} {j : Int} (h : w (4 + 7 * b + 5) = 1) : aBt (m + 1) w b j = j := by simp [aBt, h]
theorem aBt_f {m : Nat} {j : Int} (h : w (4 + 7 * b + 5) ≠ 1) : aBt (m + 1) w b j = aBt m (mPass w) b (j + 1) := by simp [aBt, h]
noncomputable def aBursting (w : Int → Int) (b : Int) : Int := if 0 ≤ b ∧ b < w 2 then aBt 61 w b 0 else -1000001
theorem c_hoursTillBurst (hb0 : 0 ≤ b) (hb1 : b < w 2) (h : Hb M 7 w) (hw : mWf w) (h3 : w 3 ≤ 9999) (kk : ∀ (M' : hm_M), FT M M' → Q (some (.inl (zI (aBt 61 w b 0)))) M') : hm_Wp (d + 5) 12 0 [some (.inr (.inr 21)), some (.inl (zI b)), none] [] M Q := by
  have hn := hw.1.1
  have L : ∀ (m : Nat) (j : Int) (N : hm_M) (v : Int → Int), 0 ≤ j → j + m = 61 → Hb N 22 v → mWf v → v 2 = w 2 → v 3 + m ≤ 20000 → FT M N → aBt m v b j = aBt 61 w b 0 → hm_Wp (d + 5) 12 6 [some (.inr (.inr 21)), some (.inl (zI b)), some (.inl (zI j))] [] N Q := by
    intro m
    induction m with
    | zero =>
      intro j N v hj0 hjm hN hv hv2 hv3 hft heq
      refine q_iload gg12_6 rfl ?_
      refine z_const gg12_7 (v := 60) rfl ?_
      refine z_icmpgt gg12_9 (tg := 39) rfl (by omega) (by omega) (fun c1 => ?_) (fun z => absurd z (by omega))
      refine z_neg gg12_39 ?_
      refine q_iret gg12_41 ?_
      refine qv ?_ (kk _ hft)
      rw [← heq]
      rfl
    | succ m ih =>
      intro j N v hj0 hjm hN hv hv2 hv3 hft heq
      have h9 := hN.1.2.2.2.2.1
      have q5 := hv.bit (q := 5) (by decide) (by decide) hb0 (by omega)
      have s5 := bsum7_lt (hv.f01 (q := 5) (by decide) (by decide))
      refine q_iload gg12_6 rfl ?_
      refine z_const gg12_7 (v := 60) rfl ?_
      refine z_icmpgt gg12_9 (tg := 39) rfl (by omega) (by omega) (fun z => absurd z (by omega)) (fun c1 => ?_)
      refine q_aload gg12_12 rfl ?_
      refine q_getr gg12_13 rfl ?_
      refine q_iload gg12_16 rfl ?_
      refine q_call2 gg12_17 tt34 rfl (Nat.le_of_ble_eq_true rfl) (hm_rv (by decide +kernel)) (ls' := [some _, some _]) rfl rfl ?_
      refine q_aload gg34_0 rfl ?_
      first | refine z_getf gg34_1 rfl (by assumption) ?_ | refine q_getf gg34_1 rfl ?_
      refine q_iload gg34_4 rfl ?_
      first | refine z_ishr gg34_5 (by omega) (by omega) (by omega) (by omega) (fun sisBurst_5 esisBurst_5 lsisBurst_5 usisBurst_5 => ?_) | refine q_ishr gg34_5 ?_
      refine z_const gg34_6 (v := 1) rfl ?_
      first | refine z_iand1 gg34_7 (by omega) (by omega) ?_ | refine q_iand gg34_7 ?_
      refine z_const gg34_8 (v := 1) rfl ?_
      refine z_icmpne gg34_9 (tg := 16) rfl (by omega) (by omega) (fun c2 => ?_) (fun c2 => ?_)
      · try (exfalso; omega)
        all_goals (
          refine z_const gg34_16 (v := 0) rfl ?_
          refine z_zretC gg34_17 (by omega) ?_
          refine z_ifeq gg12_20 (tg := 25) rfl (by decide) (fun _ => ?_) (fun z => absurd z (by decide))
          refine q_aload gg12_25 rfl ?_
          refine q_getr gg12_26 rfl ?_
          refine q_call1 gg12_29 tt43 rfl (Nat.le_of_ble_eq_true rfl) (hm_rv (by decide +kernel)) (ls' := [some _, none, none, none]) rfl rfl ?_
          refine c_boil (by omega) hN hv (by omega) (fun M1 G1 hM1 hfr1 hG1 => ?_)
          show hm_Wp _ _ _ _ (_ :: _) _ _
          refine q_pop gg12_32 rfl ?_
          refine z_iinc gg12_33 rfl rfl ?_
          refine q_goto gg12_36 (tg := 6) rfl ?_
          refine ih (j + 1) M1 (mPass v) (by omega) (by omega) hM1 (mWf_pass hv (by omega)) (by rw [mPass_2]; exact hv2) (by rw [mPass_3]; omega) (hft.tr hfr1.ft) ?_
          rw [← heq, aBt_f (by omega)]
        )
      · try (exfalso; omega)
        all_goals (
          refine z_const gg34_12 (v := 1) rfl ?_
          refine q_goto gg34_13 (tg := 17) rfl ?_
          refine z_zretC gg34_17 (by omega) ?_
          refine z_ifeq gg12_20 (tg := 25) rfl (by decide) (fun z => absurd z (by decide)) (fun _ => ?_)
          refine q_iload gg12_23 rfl ?_
          refine q_iret gg12_24 ?_
          refine qv ?_ (kk _ hft)
          rw [← heq, aBt_t (by omega)]
        )
  refine q_aload gg12_0 rfl ?_
  refine q_call1 gg12_1 tt27 rfl (Nat.le_of_ble_eq_true rfl) (hm_rv (by decide +kernel)) (ls' := [some _]) rfl rfl ?_
  refine c_beginTrial h hw (fun M1 h1 h17 hft => ?_)
  show hm_Wp _ _ _ _ _ _ _
  refine z_const gg12_4 (v := 0) rfl ?_
  refine q_istore gg12_5 rfl ?_
  exact L 61 0 M1 w (by decide) (by decide) h1 hw rfl (by omega) hft rfl
theorem c_bursting (hb : zR b) (h : Hb M 7 w) (hw : mWf w) (h3 : w 3 ≤ 9999) (kk : ∀ (M' : hm_M), FT M M' → Q (some (.inl (zI (aBursting w b)))) M') : hm_Wp (d + 6) 102 0 [some (.inr (.inr 0)), some (.inl (zI b))] [] M Q := by
  have hn := hw.1.1
  have h4 := h.1.1
  unfold zR at hb
  refine q_aload gg102_0 rfl ?_
  refine q_getr gg102_1 rfl ?_
  refine q_iload gg102_4 rfl ?_
  refine q_call2 gg102_5 tt32 rfl (Nat.le_of_ble_eq_true rfl) (hm_rv (by decide +kernel)) (ls' := [some _, some _]) rfl rfl ?_
  refine q_iload gg32_0 rfl ?_
  refine z_iflt gg32_1 (tg := 16) rfl (by omega) (fun c1 => ?_) (fun c1 => ?_)
  · try (exfalso; omega)
    all_goals (
      refine z_const gg32_16 (v := 0) rfl ?_
      refine z_zretC gg32_17 (by omega) ?_
      refine z_ifne gg102_8 (tg := 14) rfl (by decide) (fun z => absurd z (by decide)) (fun _ => ?_)
      refine z_neg gg102_11 ?_
      refine q_iret gg102_13 ?_
      refine qv ?_ (kk _ FT.rf)
      unfold aBursting
      rw [if_neg (by omega)]
    )
  · try (exfalso; omega)
    all_goals (
      refine q_iload gg32_4 rfl ?_
      refine q_aload gg32_5 rfl ?_
      first | refine z_getf gg32_6 rfl (by assumption) ?_ | refine q_getf gg32_6 rfl ?_
      refine z_icmpge gg32_9 (tg := 16) rfl (by omega) (by omega) (fun c2 => ?_) (fun c2 => ?_)
      · try (exfalso; omega)
        all_goals (
          refine z_const gg32_16 (v := 0) rfl ?_
          refine z_zretC gg32_17 (by omega) ?_
          refine z_ifne gg102_8 (tg := 14) rfl (by decide) (fun z => absurd z (by decide)) (fun _ => ?_)
          refine z_neg gg102_11 ?_
          refine q_iret gg102_13 ?_
          refine qv ?_ (kk _ FT.rf)
          unfold aBursting
          rw [if_neg (by omega)]
        )
      · try (exfalso; omega)
        all_goals (
          refine z_const gg32_12 (v := 1) rfl ?_
          refine q_goto gg32_13 (tg := 17) rfl ?_
          refine z_zretC gg32_17 (by omega) ?_
          refine z_ifne gg102_8 (tg := 14) rfl (by decide) (fun _ => ?_) (fun z => absurd z (by decide))
          refine q_aload gg102_14 rfl ?_
          refine q_getr gg102_15 rfl ?_
          refine q_iload gg102_18 rfl ?_
          refine q_call2 gg102_19 tt12 rfl (Nat.le_of_ble_eq_true rfl) (hm_rv (by decide +kernel)) (ls' := [some _, some _, none]) rfl rfl ?_
          refine c_hoursTillBurst (by omega) (by omega) h hw h3 (fun M1 hft => ?_)
          show hm_Wp _ _ _ _ (_ :: _) _ _
          refine q_iret gg102_22 ?_
          refine qv ?_ (kk _ hft)
          unfold aBursting
          rw [if_pos (by omega)]
        )
    )
theorem r_bursting (hb : zR b) (hf : aw (M 36) 53 0 20000 w) (hw : mWf w) (h3 : w 3 ≤ 9999) (kk : ∀ (M' : hm_M), FR M M' → Q (some (.inl (zI (aBursting w b)))) M') : hm_Wp (d + 6) 178 0 [some (.inr (.inr 30)), some (.inl (zI b)), none] [] M Q := by
  have hn := hw.1.1
  unfold zR at hb
  have L : 0 ≤ b → b < w 2 → ∀ (m : Nat) (j : Int) (f : Nat → Int32) (v : Int → Int), 0 ≤ j → j + m = 61 → aw f 53 0 20000 v → mOk v → v 3 + m ≤ 20000 → aBt m v b j = aBt 61 w b 0 → hm_Wp (d + 6) 178 26 [some (.inr (.inr 30)), some (.inl (zI b)), some (.inl (zI j))] [] (hm_row M 38 f) Q := by
    intro hb0 hb1 m
    have hA : aBursting w b = aBt 61 w b 0 := by unfold aBursting; rw [if_pos ⟨hb0, hb1⟩]
    induction m with
    | zero =>
      intro j f v hj0 hjm hf hv hv3 heq
      refine q_iload gg178_26 rfl ?_
      refine z_const gg178_27 (v := 61) rfl ?_
      refine z_icmpge gg178_29 (tg := 64) rfl (by omega) (by omega) (fun c1 => ?_) (fun z => absurd z (by omega))
      refine z_neg gg178_64 ?_
      refine q_iret gg178_66 ?_
      refine qv ?_ (kk _ FR.row)
      rw [hA, ← heq]
      rfl
    | succ m ih =>
      intro j f v hj0 hjm hf hv hv3 heq
      refine q_iload gg178_26 rfl ?_
      refine z_const gg178_27 (v := 61) rfl ?_
      refine z_icmpge gg178_29 (tg := 64) rfl (by omega) (by omega) (fun z => absurd z (by omega)) (fun c1 => ?_)
      refine q_aload gg178_32 rfl ?_
      refine q_getr gg178_33 rfl ?_
      refine z_const gg178_36 (v := 4) rfl ?_
      refine z_const gg178_37 (v := 7) rfl ?_
      refine q_iload gg178_39 rfl ?_
      first | refine z_imul gg178_40 ?_ | refine q_imul gg178_40 ?_
      first | refine z_iadd gg178_41 ?_ | refine q_iadd gg178_41 ?_
      refine z_const gg178_42 (v := 5) rfl ?_
      first | refine z_iadd gg178_43 ?_ | refine q_iadd gg178_43 ?_
      first | refine z_alr gg178_44 (by first | rfl | assumption) (by assumption) (by omega) (by omega) (by omega) (by decide) (fun v44 ev44 lv44 uv44 => ?_) | refine z_alx gg178_44 rfl (by assumption) (by omega) (by omega) (by omega) (by decide) (fun v44 ev44 lv44 uv44 => ?_) <;> (try dsimp only at ev44)
      refine z_const gg178_45 (v := 1) rfl ?_
      refine z_icmpne gg178_46 (tg := 51) rfl (by omega) (by omega) (fun c2 => ?_) (fun c2 => ?_)
      · try (exfalso; omega)
        all_goals (
          refine q_aload gg178_51 rfl ?_
          refine q_getr gg178_52 rfl ?_
          refine q_call1 gg178_55 tt162 rfl (Nat.le_of_ble_eq_true rfl) rfl (ls' := [some _, none]) rfl rfl ?_
          refine r_passes rfl hf hv (by omega) (fun f' hf' => ?_)
          show hm_Wp _ _ _ _ _ _ _
          refine z_iinc gg178_58 rfl rfl ?_
          refine q_goto gg178_61 (tg := 26) rfl ?_
          refine ih (j + 1) _ (mPass v) (by omega) (by omega) hf' (mPass_ok hv) (by rw [mPass_3]; omega) ?_
          rw [← heq, aBt_f (by omega)]
        )
      · try (exfalso; omega)
        all_goals (
          refine q_iload gg178_49 rfl ?_
          refine q_iret gg178_50 ?_
          refine qv ?_ (kk _ FR.row)
          rw [hA, ← heq, aBt_t (by omega)]
        )
  refine q_aload gg178_0 rfl ?_
  refine q_iload gg178_1 rfl ?_
  refine q_call2 gg178_2 tt152 rfl (Nat.le_of_ble_eq_true rfl) (hm_rv (by decide +kernel)) (ls' := [some _, some _]) rfl rfl ?_
  refine q_iload gg152_0 rfl ?_
  refine z_const gg152_1 (v := 0) rfl ?_
  refine q_aload gg152_2 rfl ?_
  refine q_getr gg152_3 rfl ?_
  refine z_const gg152_6 (v := 2) rfl ?_
  first | refine z_alr gg152_7 (by first | rfl | assumption) (by assumption) (by omega) (by omega) (by omega) (by decide) (fun visBasin_7 evisBasin_7 lvisBasin_7 uvisBasin_7 => ?_) | refine z_alx gg152_7 rfl (by assumption) (by omega) (by omega) (by omega) (by decide) (fun visBasin_7 evisBasin_7 lvisBasin_7 uvisBasin_7 => ?_) <;> (try dsimp only at evisBasin_7)
  refine z_const gg152_8 (v := 1) rfl ?_
  first | refine z_isub gg152_9 ?_ | refine q_isub gg152_9 ?_
  refine q_call3 gg152_10 tt124 rfl (Nat.le_of_ble_eq_true rfl) rfl (ls' := [some _, some _, some _]) rfl rfl ?_
  refine q_iload gg124_0 rfl ?_
  refine q_iload gg124_1 rfl ?_
  refine z_icmplt gg124_2 (tg := 14) rfl (by omega) (by omega) (fun c1 => ?_) (fun c1 => ?_)
  · try (exfalso; omega)
    all_goals (
      refine z_const gg124_14 (v := 0) rfl ?_
      refine z_zretC gg124_15 (by omega) ?_
      refine z_zretC gg152_13 (by omega) ?_
      refine z_ifne gg178_5 (tg := 11) rfl (by decide) (fun z => absurd z (by decide)) (fun _ => ?_)
      refine z_neg gg178_8 ?_
      refine q_iret gg178_10 ?_
      refine qv ?_ (kk _ FR.rf)
      unfold aBursting
      rw [if_neg (by omega)]
    )
  · try (exfalso; omega)
    all_goals (
      refine q_iload gg124_5 rfl ?_
      refine q_iload gg124_6 rfl ?_
      refine z_icmpgt gg124_7 (tg := 14) rfl (by omega) (by omega) (fun c2 => ?_) (fun c2 => ?_)
      · try (exfalso; omega)
        all_goals (
          refine z_const gg124_14 (v := 0) rfl ?_
          refine z_zretC gg124_15 (by omega) ?_
          refine z_zretC gg152_13 (by omega) ?_
          refine z_ifne gg178_5 (tg := 11) rfl (by decide) (fun z => absurd z (by decide)) (fun _ => ?_)
          refine z_neg gg178_8 ?_
          refine q_iret gg178_10 ?_
          refine qv ?_ (kk _ FR.rf)
          unfold aBursting
          rw [if_neg (by omega)]
        )
      · try (exfalso; omega)
        all_goals (
          refine z_const gg124_10 (v := 1) rfl ?_
          refine q_goto gg124_11 (tg := 15) rfl ?_
          refine z_zretC gg124_15 (by omega) ?_
          refine z_zretC gg152_13 (by omega) ?_
          refine z_ifne gg178_5 (tg := 11) rfl (by decide) (fun _ => ?_) (fun z => absurd z (by decide))
          refine q_aload gg178_11 rfl ?_
          refine q_getr gg178_12 rfl ?_
          refine z_const gg178_15 (v := 0) rfl ?_
          refine q_aload gg178_16 rfl ?_
          refine q_getr gg178_17 rfl ?_
          refine z_const gg178_20 (v := 0) rfl ?_
          refine q_call4 gg178_21 tt130 rfl (Nat.le_of_ble_eq_true rfl) rfl (ls' := [some _, some _, some _, some _, none]) rfl rfl ?_
          refine r_cpNT hf (fun f1 hf1 => ?_)
          show hm_Wp _ _ _ _ _ _ _
          refine z_const gg178_24 (v := 0) rfl ?_
          refine q_istore gg178_25 rfl ?_
          exact L (by omega) (by omega) 61 0 _ w (by decide) (by decide) hf1 hw.1 (by omega) rfl
        )
    )
/-- none bursts any more in n hours -/
def mNone (w0 v : Int → Int) (n : Int) : Prop := bsum (mFlag (mIt n.toNat v) 5) 7 = bsum (mFlag w0 5) 7
theorem r_noneBursts (hf : aw f 53 0 20000 v) (hv : mWf v) (h36 : aw (M 36) 53 0 20000 w) (hw : mWf w) (hn0 : 0 ≤ n) (hn : n ≤ 60) (h3 : v 3 + n ≤ 20000) (k1 : mNone w v n → ∀ f', Q (some (.inl (zI 1))) (hm_row M 38 f')) (k0 : ¬ mNone w v n → ∀ f', Q (some (.inl (zI 0))) (hm_row M 38 f')) : hm_Wp (d + 5) 182 0 [some (.inr (.inr 30)), some (.inl (zI n))] [] (hm_row M 38 f) Q := by
  have hT := mIt_wf n.toNat hv (by omega)
  have s5 := bsum7_lt (hT.f01 (q := 5) (by decide) (by decide))
  have t5 := bsum7_lt (hw.f01 (q := 5) (by decide) (by decide))
  unfold mNone at k1 k0
  have hrow : ∀ f2, aw (hm_row M 38 f2 36) 53 0 20000 w := fun f2 => by rw [hm_row_ne _ _ (by decide)]; exact h36
  have hself : ∀ f2, hm_row M 38 f2 = hm_row (hm_row M 38 f2) 36 (hm_row M 38 f2 36) := fun f2 => (hm_row_self _ _).symm
  refine q_aload gg182_0 rfl ?_
  refine q_iload gg182_1 rfl ?_
  refine q_call2 gg182_2 tt175 rfl (Nat.le_of_ble_eq_true rfl) (hm_rv (by decide +kernel)) (ls' := [some _, some _, none]) rfl rfl ?_
  refine r_goesOn hf hv.1 hn0 hn h3 (fun f2 hf2 => ?_)
  show hm_Wp _ _ _ _ _ _ _
  refine q_aload gg182_5 rfl ?_
  refine q_getr gg182_6 rfl ?_
  refine z_const gg182_9 (v := 5) rfl ?_
  refine q_call2 gg182_10 tt156 rfl (Nat.le_of_ble_eq_true rfl) rfl (ls' := [some _, some _, none, none]) rfl rfl ?_
  refine r_areSo rfl hf2 hT.1.1.1 hT.1.1.2 (by decide) (by decide) (hT.f01 (by decide) (by decide)) ?_
  rw [wf_bs hT (by decide) (by decide)]
  show hm_Wp _ _ _ _ (_ :: _) _ _
  refine q_aload gg182_13 rfl ?_
  refine q_getr gg182_14 rfl ?_
  refine z_const gg182_17 (v := 5) rfl ?_
  refine q_call2 gg182_18 tt156 rfl (Nat.le_of_ble_eq_true rfl) rfl (ls' := [some _, some _, none, none]) rfl rfl ?_
  refine hm_Wp.eqM (hself f2) ?_
  refine r_areSo rfl (hrow f2) hw.1.1.1 hw.1.1.2 (by decide) (by decide) (hw.f01 (by decide) (by decide)) ?_
  rw [wf_bs hw (by decide) (by decide), ← hself f2]
  show hm_Wp _ _ _ _ (_ :: _) _ _
  refine z_icmpne gg182_21 (tg := 28) rfl (by omega) (by omega) (fun c1 => ?_) (fun c1 => ?_)
  · try (exfalso; omega)
    all_goals (
      refine z_const gg182_28 (v := 0) rfl ?_
      refine z_zret gg182_29 (by omega) ?_
      first | exact k1 (by omega) f2 | exact k0 (by omega) f2
    )
  · try (exfalso; omega)
    all_goals (
      refine z_const gg182_24 (v := 1) rfl ?_
      refine q_goto gg182_25 (tg := 29) rfl ?_
      refine z_zret gg182_29 (by omega) ?_
      first | exact k1 (by omega) f2 | exact k0 (by omega) f2
    )
noncomputable def aHt : Nat → (Int → Int) → Int → Int
  | 0, _, _ => -1000000
  | m + 1, w, n => @ite Int (mNone w (zup w 0 m) n) (Classical.propDecidable _) m (aHt m w n)
noncomputable def aHottest (w : Int → Int) (n : Int) : Int := if w 2 = 0 then -1000002 else if 1 ≤ n ∧ n ≤ 30 then aHt 10 w n else -1000001
theorem aHt_t {m : Nat} (h : mNone w (zup w 0 m) n) : aHt (m + 1) w n = m := by simp [aHt, h]
theorem aHt_f {m : Nat} (h : ¬ mNone w (zup w 0 m) n) : aHt (m + 1) w n = aHt m w n := by simp [aHt, h]
theorem c_greatestHeat (h : Hb M 7 w) (hw : mWf w) (h3 : w 3 ≤ 9999) (hn0 : 1 ≤ n) (hn : n ≤ 30) (kk : ∀ (M' : hm_M), FT M M' → Q (some (.inl (zI (aHt 10 w n)))) M') : hm_Wp (d + 5) 17 0 [some (.inr (.inr 21)), some (.inl (zI n)), none] [] M Q := by
  have L : ∀ (m : Nat) (j : Int) (N : hm_M), j = (m : Int) - 1 → m ≤ 10 → FT M N → aHt m w n = aHt 10 w n → hm_Wp (d + 5) 17 3 [some (.inr (.inr 21)), some (.inl (zI n)), some (.inl (zI j))] [] N Q := by
    intro m
    induction m with
    | zero =>
      intro j N hj hm hft heq
      refine q_iload gg17_3 rfl ?_
      refine z_iflt gg17_4 (tg := 35) rfl (by omega) (fun c1 => ?_) (fun z => absurd z (by omega))
      refine z_neg gg17_35 ?_
      refine q_iret gg17_37 ?_
      refine qv ?_ (kk _ hft)
      rw [← heq]
      rfl
    | succ m ih =>
      intro j N hj hm hft heq
      have hjm : j = (m : Int) := by omega
      subst hjm
      have hwx := mWf_heat (x := (m : Int)) hw (by omega) (by omega)
      have hx3 : zup w 0 (m : Int) 3 = w 3 := by simp [zup]
      refine q_iload gg17_3 rfl ?_
      refine z_iflt gg17_4 (tg := 35) rfl (by omega) (fun z => absurd z (by omega)) (fun c1 => ?_)
      refine q_aload gg17_7 rfl ?_
      refine q_call1 gg17_8 tt27 rfl (Nat.le_of_ble_eq_true rfl) (hm_rv (by decide +kernel)) (ls' := [some _]) rfl rfl ?_
      refine c_beginTrial (h.ft hft) hw (fun M1 h1 h17 hft1 => ?_)
      have hH := Hb_f01 (i := 0) (j := 5) (x := (m : Int)) (by omega) h1
      show hm_Wp _ _ _ _ _ _ _
      refine q_aload gg17_11 rfl ?_
      refine q_getr gg17_12 rfl ?_
      refine q_iload gg17_15 rfl ?_
      refine q_putf gg17_16 rfl ?_
      refine q_aload gg17_19 rfl ?_
      refine q_iload gg17_20 rfl ?_
      refine q_call2 gg17_21 tt30 rfl (Nat.le_of_ble_eq_true rfl) (hm_rv (by decide +kernel)) (ls' := [some _, some _, none, none]) rfl rfl ?_
      refine c_trialBurstsNone hH hwx h17 hw (fun b b0 b1 => by simp only [zup]; rw [if_neg (by omega)]) (by omega) (by omega) (by omega) (fun hN M2 hfr => ?_) (fun hN M2 hfr => ?_)
      all_goals (have hft2 : FT M M2 := (hft.tr hft1).tr (FT.tr (Fr.row (r := 22) (q := 22) (M := M1) (by decide) (by decide)).ft hfr.ft))
      · show hm_Wp _ _ _ _ (_ :: _) _ _
        refine z_ifeq gg17_24 (tg := 29) rfl (by decide) (fun z => absurd z (by decide)) (fun _ => ?_)
        refine q_iload gg17_27 rfl ?_
        refine q_iret gg17_28 ?_
        refine qv ?_ (kk _ hft2)
        rw [← heq, aHt_t hN]
      · show hm_Wp _ _ _ _ (_ :: _) _ _
        refine z_ifeq gg17_24 (tg := 29) rfl (by decide) (fun _ => ?_) (fun z => absurd z (by decide))
        refine z_iinc gg17_29 rfl rfl ?_
        refine q_goto gg17_32 (tg := 3) rfl ?_
        refine ih _ M2 (by omega) (by omega) hft2 ?_
        rw [← heq, aHt_f hN]
  refine z_const gg17_0 (v := 9) rfl ?_
  refine q_istore gg17_2 rfl ?_
  exact L 10 9 M rfl (by decide) FT.rf rfl
theorem c_hottest (hz : zR n) (h : Hb M 7 w) (hw : mWf w) (h3 : w 3 ≤ 9999) (kk : ∀ (M' : hm_M), FT M M' → Q (some (.inl (zI (aHottest w n)))) M') : hm_Wp (d + 6) 107 0 [some (.inr (.inr 0)), some (.inl (zI n))] [] M Q := by
  have hn := hw.1.1
  have h4 := h.1.1
  unfold zR at hz
  refine q_aload gg107_0 rfl ?_
  refine q_getr gg107_1 rfl ?_
  refine q_call1 gg107_4 tt31 rfl (Nat.le_of_ble_eq_true rfl) (hm_rv (by decide +kernel)) (ls' := [some _]) rfl rfl ?_
  refine q_aload gg31_0 rfl ?_
  first | refine z_getf gg31_1 rfl (by assumption) ?_ | refine q_getf gg31_1 rfl ?_
  refine z_ifne gg31_4 (tg := 11) rfl (by omega) (fun c1 => ?_) (fun c1 => ?_)
  · try (exfalso; omega)
    all_goals (
      refine z_const gg31_11 (v := 0) rfl ?_
      refine z_zretC gg31_12 (by omega) ?_
      refine z_ifeq gg107_7 (tg := 13) rfl (by decide) (fun _ => ?_) (fun z => absurd z (by decide))
      refine q_iload gg107_13 rfl ?_
      refine q_call1 gg107_14 tt123 rfl (Nat.le_of_ble_eq_true rfl) rfl (ls' := [some _]) rfl rfl ?_
      refine q_iload gg123_0 rfl ?_
      refine z_const gg123_1 (v := 1) rfl ?_
      refine z_icmplt gg123_2 (tg := 15) rfl (by omega) (by omega) (fun c2 => ?_) (fun c2 => ?_)
      · try (exfalso; omega)
        all_goals (
          refine z_const gg123_15 (v := 0) rfl ?_
          refine z_zretC gg123_16 (by omega) ?_
          refine z_ifne gg107_17 (tg := 23) rfl (by decide) (fun z => absurd z (by decide)) (fun _ => ?_)
          refine z_neg gg107_20 ?_
          refine q_iret gg107_22 ?_
          refine qv ?_ (kk _ FT.rf)
          unfold aHottest
          rw [if_neg (by omega), if_neg (by omega)]
        )
      · try (exfalso; omega)
        all_goals (
          refine q_iload gg123_5 rfl ?_
          refine z_const gg123_6 (v := 30) rfl ?_
          refine z_icmpgt gg123_8 (tg := 15) rfl (by omega) (by omega) (fun c3 => ?_) (fun c3 => ?_)
          · try (exfalso; omega)
            all_goals (
              refine z_const gg123_15 (v := 0) rfl ?_
              refine z_zretC gg123_16 (by omega) ?_
              refine z_ifne gg107_17 (tg := 23) rfl (by decide) (fun z => absurd z (by decide)) (fun _ => ?_)
              refine z_neg gg107_20 ?_
              refine q_iret gg107_22 ?_
              refine qv ?_ (kk _ FT.rf)
              unfold aHottest
              rw [if_neg (by omega), if_neg (by omega)]
            )
          · try (exfalso; omega)
            all_goals (
              refine z_const gg123_11 (v := 1) rfl ?_
              refine q_goto gg123_12 (tg := 16) rfl ?_
              refine z_zretC gg123_16 (by omega) ?_
              refine z_ifne gg107_17 (tg := 23) rfl (by decide) (fun _ => ?_) (fun z => absurd z (by decide))
              refine q_aload gg107_23 rfl ?_
              refine q_getr gg107_24 rfl ?_
              refine q_iload gg107_27 rfl ?_
              refine q_call2 gg107_28 tt17 rfl (Nat.le_of_ble_eq_true rfl) (hm_rv (by decide +kernel)) (ls' := [some _, some _, none]) rfl rfl ?_
              refine c_greatestHeat h hw h3 (by omega) (by omega) (fun M1 hft => ?_)
              show hm_Wp _ _ _ _ (_ :: _) _ _
              refine q_iret gg107_31 ?_
              refine qv ?_ (kk _ hft)
              unfold aHottest
              rw [if_neg (by omega), if_pos (by omega)]
            )
        )
    )
  · try (exfalso; omega)
    all_goals (
      refine z_const gg31_7 (v := 1) rfl ?_
      refine q_goto gg31_8 (tg := 12) rfl ?_
      refine z_zretC gg31_12 (by omega) ?_
      refine z_ifeq gg107_7 (tg := 13) rfl (by decide) (fun z => absurd z (by decide)) (fun _ => ?_)
      refine z_neg gg107_10 ?_
      refine q_iret gg107_12 ?_
      refine qv ?_ (kk _ FT.rf)
      unfold aHottest
      rw [if_pos (by omega)]
    )
theorem r_hottest (hz : zR n) (hf : aw (M 36) 53 0 20000 w) (hw : mWf w) (hc : w 2 = 0 ↔ w 1 = 0) (h3 : w 3 ≤ 9999) (kk : ∀ (M' : hm_M), FR M M' → Q (some (.inl (zI (aHottest w n)))) M') : hm_Wp (d + 6) 185 0 [some (.inr (.inr 30)), some (.inl (zI n)), none] [] M Q := by
  have hn := hw.1.1
  unfold zR at hz
  have L : w 2 ≠ 0 → 1 ≤ n → n ≤ 30 → ∀ (m : Nat) (j : Int) (N : hm_M), j = (m : Int) - 1 → m ≤ 10 → FR M N → aHt m w n = aHt 10 w n → hm_Wp (d + 6) 185 23 [some (.inr (.inr 30)), some (.inl (zI n)), some (.inl (zI j))] [] N Q := by
    intro hw2 hn1 hn30 m
    have hA : aHottest w n = aHt 10 w n := by unfold aHottest; rw [if_neg hw2, if_pos ⟨hn1, hn30⟩]
    induction m with
    | zero =>
      intro j N hj hm hft heq
      refine q_iload gg185_23 rfl ?_
      refine z_iflt gg185_24 (tg := 63) rfl (by omega) (fun c1 => ?_) (fun z => absurd z (by omega))
      refine z_neg gg185_63 ?_
      refine q_iret gg185_65 ?_
      refine qv ?_ (kk _ hft)
      rw [hA, ← heq]
      rfl
    | succ m ih =>
      intro j N hj hm hft heq
      have hjm : j = (m : Int) := by omega
      subst hjm
      have hwx := mWf_heat (x := (m : Int)) hw (by omega) (by omega)
      have hx3 : zup w 0 (m : Int) 3 = w 3 := by simp [zup]
      have h36 : aw (N 36) 53 0 20000 w := by rw [hft 36 (by decide)]; exact hf
      refine q_iload gg185_23 rfl ?_
      refine z_iflt gg185_24 (tg := 63) rfl (by omega) (fun z => absurd z (by omega)) (fun c1 => ?_)
      refine q_aload gg185_27 rfl ?_
      refine q_getr gg185_28 rfl ?_
      refine z_const gg185_31 (v := 0) rfl ?_
      refine q_aload gg185_32 rfl ?_
      refine q_getr gg185_33 rfl ?_
      refine z_const gg185_36 (v := 0) rfl ?_
      refine q_call4 gg185_37 tt130 rfl (Nat.le_of_ble_eq_true rfl) rfl (ls' := [some _, some _, some _, some _, none]) rfl rfl ?_
      refine r_cpNT h36 (fun f1 hf1 => ?_)
      show hm_Wp _ _ _ _ _ _ _
      refine q_aload gg185_40 rfl ?_
      refine q_getr gg185_41 rfl ?_
      refine z_const gg185_44 (v := 0) rfl ?_
      refine q_iload gg185_45 rfl ?_
      first | refine z_asr gg185_46 (by first | rfl | assumption) (by assumption) (by omega) (by omega) (by decide) (by omega) (by omega) (fun f46 h46 => ?_) | refine z_asx gg185_46 rfl (by omega) (by omega) (by decide) ?_
      refine q_aload gg185_47 rfl ?_
      refine q_iload gg185_48 rfl ?_
      refine q_call2 gg185_49 tt182 rfl (Nat.le_of_ble_eq_true rfl) (hm_rv (by decide +kernel)) (ls' := [some _, some _]) rfl rfl ?_
      refine r_noneBursts h46 hwx h36 hw (by omega) (by omega) (by omega) (fun hN f2 => ?_) (fun hN f2 => ?_)
      all_goals (have hft2 : FR M (hm_row N 38 f2) := fun k hk => (FR.row k hk).trans (hft k hk))
      · show hm_Wp _ _ _ _ (_ :: _) _ _
        refine z_ifeq gg185_52 (tg := 57) rfl (by decide) (fun z => absurd z (by decide)) (fun _ => ?_)
        refine q_iload gg185_55 rfl ?_
        refine q_iret gg185_56 ?_
        refine qv ?_ (kk _ hft2)
        rw [hA, ← heq, aHt_t hN]
      · show hm_Wp _ _ _ _ (_ :: _) _ _
        refine z_ifeq gg185_52 (tg := 57) rfl (by decide) (fun _ => ?_) (fun z => absurd z (by decide))
        refine z_iinc gg185_57 rfl rfl ?_
        refine q_goto gg185_60 (tg := 23) rfl ?_
        refine ih _ _ (by omega) (by omega) hft2 ?_
        rw [← heq, aHt_f hN]
  refine q_aload gg185_0 rfl ?_
  refine q_call1 gg185_1 tt151 rfl (Nat.le_of_ble_eq_true rfl) (hm_rv (by decide +kernel)) (ls' := [some _]) rfl rfl ?_
  refine q_aload gg151_0 rfl ?_
  refine q_getr gg151_1 rfl ?_
  refine z_const gg151_4 (v := 1) rfl ?_
  first | refine z_alr gg151_5 (by first | rfl | assumption) (by assumption) (by omega) (by omega) (by omega) (by decide) (fun visHob_5 evisHob_5 lvisHob_5 uvisHob_5 => ?_) | refine z_alx gg151_5 rfl (by assumption) (by omega) (by omega) (by omega) (by decide) (fun visHob_5 evisHob_5 lvisHob_5 uvisHob_5 => ?_) <;> (try dsimp only at evisHob_5)
  refine z_ifle gg151_6 (tg := 13) rfl (by omega) (fun c1 => ?_) (fun c1 => ?_)
  · try (exfalso; omega)
    all_goals (
      refine z_const gg151_13 (v := 0) rfl ?_
      refine z_zretC gg151_14 (by omega) ?_
      refine z_ifne gg185_4 (tg := 10) rfl (by decide) (fun z => absurd z (by decide)) (fun _ => ?_)
      refine z_neg gg185_7 ?_
      refine q_iret gg185_9 ?_
      refine qv ?_ (kk _ FR.rf)
      unfold aHottest
      rw [if_pos (by omega)]
    )
  · try (exfalso; omega)
    all_goals (
      refine z_const gg151_9 (v := 1) rfl ?_
      refine q_goto gg151_10 (tg := 14) rfl ?_
      refine z_zretC gg151_14 (by omega) ?_
      refine z_ifne gg185_4 (tg := 10) rfl (by decide) (fun _ => ?_) (fun z => absurd z (by decide))
      refine q_iload gg185_10 rfl ?_
      refine q_call1 gg185_11 tt180 rfl (Nat.le_of_ble_eq_true rfl) rfl (ls' := [some _]) rfl rfl ?_
      refine q_iload gg180_0 rfl ?_
      refine z_const gg180_1 (v := 1) rfl ?_
      refine z_const gg180_2 (v := 30) rfl ?_
      refine q_call3 gg180_4 tt124 rfl (Nat.le_of_ble_eq_true rfl) rfl (ls' := [some _, some _, some _]) rfl rfl ?_
      refine q_iload gg124_0 rfl ?_
      refine q_iload gg124_1 rfl ?_
      refine z_icmplt gg124_2 (tg := 14) rfl (by omega) (by omega) (fun c2 => ?_) (fun c2 => ?_)
      · try (exfalso; omega)
        all_goals (
          refine z_const gg124_14 (v := 0) rfl ?_
          refine z_zretC gg124_15 (by omega) ?_
          refine z_zretC gg180_7 (by omega) ?_
          refine z_ifne gg185_14 (tg := 20) rfl (by decide) (fun z => absurd z (by decide)) (fun _ => ?_)
          refine z_neg gg185_17 ?_
          refine q_iret gg185_19 ?_
          refine qv ?_ (kk _ FR.rf)
          unfold aHottest
          rw [if_neg (by omega), if_neg (by omega)]
        )
      · try (exfalso; omega)
        all_goals (
          refine q_iload gg124_5 rfl ?_
          refine q_iload gg124_6 rfl ?_
          refine z_icmpgt gg124_7 (tg := 14) rfl (by omega) (by omega) (fun c3 => ?_) (fun c3 => ?_)
          · try (exfalso; omega)
            all_goals (
              refine z_const gg124_14 (v := 0) rfl ?_
              refine z_zretC gg124_15 (by omega) ?_
              refine z_zretC gg180_7 (by omega) ?_
              refine z_ifne gg185_14 (tg := 20) rfl (by decide) (fun z => absurd z (by decide)) (fun _ => ?_)
              refine z_neg gg185_17 ?_
              refine q_iret gg185_19 ?_
              refine qv ?_ (kk _ FR.rf)
              unfold aHottest
              rw [if_neg (by omega), if_neg (by omega)]
            )
          · try (exfalso; omega)
            all_goals (
              refine z_const gg124_10 (v := 1) rfl ?_
              refine q_goto gg124_11 (tg := 15) rfl ?_
              refine z_zretC gg124_15 (by omega) ?_
              refine z_zretC gg180_7 (by omega) ?_
              refine z_ifne gg185_14 (tg := 20) rfl (by decide) (fun _ => ?_) (fun z => absurd z (by decide))
              refine z_const gg185_20 (v := 9) rfl ?_
              refine q_istore gg185_22 rfl ?_
              exact L (by omega) (by omega) (by omega) 10 9 M rfl (by decide) FR.rf rfl
            )
        )
    )
end F2
