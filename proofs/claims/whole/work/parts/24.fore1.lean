section F1
variable {d : Nat} {M N : hm_M} {w v w0 : Int → Int} {b n : Int} {f : Nat → Int32} {Q : Option hm_V → hm_M → Prop}
theorem flags_eq {u v : Int → Int} (hu : mWf u) (hv : mWf v) (h : bsum (mFlag u 5) 7 = bsum (mFlag v 5) 7) {b : Int} (hb0 : 0 ≤ b) (hb : b < 7) : u (4 + 7 * b + 5) = v (4 + 7 * b + 5) := by
  have h1 := hu.bit (q := 5) (by decide) (by decide) hb0 hb
  have h2 := hv.bit (q := 5) (by decide) (by decide) hb0 hb
  rw [← h1, ← h2, h]
theorem eqH.bs {u v : Int → Int} (h : eqH u v) {q : Int} (h0 : 0 ≤ q) (h1 : q < 7) : bsum (mFlag u q) 7 = bsum (mFlag v q) 7 := bsum_congr (fun b b0 b1 => h _ (by omega) (by omega) (by omega))
theorem c_boilTrial (h : Hb M 22 w) (hw : mWf w) (hn0 : 0 ≤ n) (hn : n ≤ 60) (h3 : w 3 + n ≤ 20000) (kk : ∀ (M' : hm_M) (v : Int → Int), Hb M' 22 v → mWf v → eqH v (mIt n.toNat w) → Fr 22 M M' → Q none M') : hm_Wp (d + 4) 28 0 [some (.inr (.inr 21)), some (.inl (zI n)), none, none] [] M Q := by
  have L : ∀ (m : Nat) (j G : Int) (N : hm_M) (v : Int → Int), 0 ≤ j → j + m = n → Hb N 22 v → mWf v → Fr 22 M N → v 3 + m ≤ 20000 → (G = 1 ∨ (G = 0 ∧ mSt v)) → eqH (mIt m v) (mIt n.toNat w) → hm_Wp (d + 4) 28 4 [some (.inr (.inr 21)), some (.inl (zI n)), some (.inl (zI G)), some (.inl (zI j))] [] N Q := by
    intro m
    induction m with
    | zero =>
      intro j G N v hj0 hjm hN hv hfr hv3 hG heq
      refine q_iload gg28_4 rfl ?_
      refine q_iload gg28_5 rfl ?_
      refine z_icmpge gg28_6 (tg := 27) rfl (by omega) (by omega) (fun c1 => ?_) (fun z => absurd z (by omega))
      refine q_ret gg28_27 ?_
      exact kk _ _ hN hv heq hfr
    | succ m ih =>
      intro j G N v hj0 hjm hN hv hfr hv3 hG heq
      refine q_iload gg28_4 rfl ?_
      refine q_iload gg28_5 rfl ?_
      refine z_icmpge gg28_6 (tg := 27) rfl (by omega) (by omega) (fun z => absurd z (by omega)) (fun c1 => ?_)
      refine q_iload gg28_9 rfl ?_
      refine z_ifeq gg28_10 (tg := 27) rfl (by omega) (fun c2 => ?_) (fun c2 => ?_)
      · try (exfalso; omega)
        all_goals (
          refine q_ret gg28_27 ?_
          rcases hG with hG | ⟨hG, hst⟩
          · omega
          · exact kk _ _ hN hv ((mIt_st (m + 1) hv hst hv3).sy.tr heq) hfr
        )
      · try (exfalso; omega)
        all_goals (
          refine q_aload gg28_13 rfl ?_
          refine q_getr gg28_14 rfl ?_
          refine q_call1 gg28_17 tt43 rfl (Nat.le_of_ble_eq_true rfl) (hm_rv (by decide +kernel)) (ls' := [some _, none, none, none]) rfl rfl ?_
          refine c_boil (by omega) hN hv (by omega) (fun M1 G1 hM1 hfr1 hG1 => ?_)
          show hm_Wp _ _ _ _ (_ :: _) _ _
          refine q_istore gg28_20 rfl ?_
          refine z_iinc gg28_21 rfl rfl ?_
          refine q_goto gg28_24 (tg := 4) rfl ?_
          refine ih (j + 1) G1 M1 (mPass v) (by omega) (by omega) hM1 (mWf_pass hv (by omega)) (hfr.tr hfr1) (by rw [mPass_3]; omega) ?_ heq
          rcases hG1 with z | ⟨z, z2⟩
          · exact Or.inl z
          · exact Or.inr ⟨z, mPass_stills hv z2⟩
        )
  refine z_const gg28_0 (v := 1) rfl ?_
  refine q_istore gg28_1 rfl ?_
  refine z_const gg28_2 (v := 0) rfl ?_
  refine q_istore gg28_3 rfl ?_
  exact L n.toNat 0 1 M w (by decide) (by omega) h hw Fr.rf (by omega) (Or.inl rfl) eqH.rf
theorem c_trialBursts (h : Hb M 22 w) (hw : mWf w) (hb0 : 0 ≤ b) (hb : b < w 2) (hn0 : 0 ≤ n) (hn : n ≤ 60) (h3 : w 3 + n ≤ 20000) (kk : ∀ (M' : hm_M), Fr 22 M M' → Q (some (.inl (zI (mIt n.toNat w (4 + 7 * b + 5))))) M') : hm_Wp (d + 4) 29 0 [some (.inr (.inr 21)), some (.inl (zI b)), some (.inl (zI n)), none, none] [] M Q := by
  have hn2 := hw.1.1
  have L : ∀ (m : Nat) (j G : Int) (N : hm_M) (v : Int → Int), 0 ≤ j → j + m = n → Hb N 22 v → mWf v → Fr 22 M N → v 3 + m ≤ 20000 → v 2 = w 2 → (G = 1 ∨ (G = 0 ∧ mSt v)) → eqH (mIt m v) (mIt n.toNat w) → hm_Wp (d + 4) 29 5 [some (.inr (.inr 21)), some (.inl (zI b)), some (.inl (zI n)), some (.inl (zI G)), some (.inl (zI j))] [] N Q := by
    intro m
    induction m with
    | zero =>
      intro j G N v hj0 hjm hN hv hfr hv3 hv2 hG heq
      have h9 := hN.1.2.2.2.2.1
      have q5 := hv.bit (q := 5) (by decide) (by decide) hb0 (by omega)
      have s5 := bsum7_lt (hv.f01 (q := 5) (by decide) (by decide))
      have f5 := hv.1.2.1 b 5 hb0 (by omega) (by decide) (by decide)
      have e5 := heq (4 + 7 * b + 5) (by omega) (by omega) (by omega)
      simp only [mIt] at e5
      have kq := kk N hfr
      refine q_iload gg29_5 rfl ?_
      refine q_iload gg29_7 rfl ?_
      refine z_icmpge gg29_8 (tg := 40) rfl (by omega) (by omega) (fun c1 => ?_) (fun z => absurd z (by omega))
      refine q_aload gg29_40 rfl ?_
      refine q_getr gg29_41 rfl ?_
      refine q_iload gg29_44 rfl ?_
      refine q_call2 gg29_45 tt34 rfl (Nat.le_of_ble_eq_true rfl) (hm_rv (by decide +kernel)) (ls' := [some _, some _]) rfl rfl ?_
      refine q_aload gg34_0 rfl ?_
      first | refine z_getf gg34_1 rfl (by assumption) ?_ | refine q_getf gg34_1 rfl ?_
      refine q_iload gg34_4 rfl ?_
      first | refine z_ishr gg34_5 (by omega) (by omega) (by omega) (by omega) (fun sisBurst_5 esisBurst_5 lsisBurst_5 usisBurst_5 => ?_) | refine q_ishr gg34_5 ?_
      refine z_const gg34_6 (v := 1) rfl ?_
      first | refine z_iand1 gg34_7 (by omega) (by omega) ?_ | refine q_iand gg34_7 ?_
      refine z_const gg34_8 (v := 1) rfl ?_
      refine z_icmpne gg34_9 (tg := 16) rfl (by omega) (by omega) (fun c2 => ?_) (fun c2 => ?_)
      · try (exfalso; omega)
        all_goals (
          refine z_const gg34_16 (v := 0) rfl ?_
          refine z_zretC gg34_17 (by omega) ?_
          refine z_zret gg29_48 (by omega) ?_
          refine qv ?_ kq
          omega
        )
      · try (exfalso; omega)
        all_goals (
          refine z_const gg34_12 (v := 1) rfl ?_
          refine q_goto gg34_13 (tg := 17) rfl ?_
          refine z_zretC gg34_17 (by omega) ?_
          refine z_zret gg29_48 (by omega) ?_
          refine qv ?_ kq
          omega
        )
    | succ m ih =>
      intro j G N v hj0 hjm hN hv hfr hv3 hv2 hG heq
      have h9 := hN.1.2.2.2.2.1
      have q5 := hv.bit (q := 5) (by decide) (by decide) hb0 (by omega)
      have s5 := bsum7_lt (hv.f01 (q := 5) (by decide) (by decide))
      have f5 := hv.1.2.1 b 5 hb0 (by omega) (by decide) (by decide)
      have e5 := heq (4 + 7 * b + 5) (by omega) (by omega) (by omega)
      have hbu : v (4 + 7 * b + 5) = 1 → mIt (m + 1) v (4 + 7 * b + 5) = 1 := fun z => mIt_burst (m + 1) hb0 z
      have hst : G = 0 → mIt (m + 1) v (4 + 7 * b + 5) = v (4 + 7 * b + 5) := fun z => by
        rcases hG with hG | ⟨hG, hst⟩
        · omega
        · exact mIt_st (m + 1) hv hst hv3 _ (by omega) (by omega) (by omega)
      have kq := kk N hfr
      refine q_iload gg29_5 rfl ?_
      refine q_iload gg29_7 rfl ?_
      refine z_icmpge gg29_8 (tg := 40) rfl (by omega) (by omega) (fun z => absurd z (by omega)) (fun c1 => ?_)
      refine q_iload gg29_11 rfl ?_
      refine z_ifeq gg29_12 (tg := 40) rfl (by omega) (fun c2 => ?_) (fun c2 => ?_)
      · try (exfalso; omega)
        all_goals (
          refine q_aload gg29_40 rfl ?_
          refine q_getr gg29_41 rfl ?_
          refine q_iload gg29_44 rfl ?_
          refine q_call2 gg29_45 tt34 rfl (Nat.le_of_ble_eq_true rfl) (hm_rv (by decide +kernel)) (ls' := [some _, some _]) rfl rfl ?_
          refine q_aload gg34_0 rfl ?_
          first | refine z_getf gg34_1 rfl (by assumption) ?_ | refine q_getf gg34_1 rfl ?_
          refine q_iload gg34_4 rfl ?_
          first | refine z_ishr gg34_5 (by omega) (by omega) (by omega) (by omega) (fun sisBurst_5 esisBurst_5 lsisBurst_5 usisBurst_5 => ?_) | refine q_ishr gg34_5 ?_
          refine z_const gg34_6 (v := 1) rfl ?_
          first | refine z_iand1 gg34_7 (by omega) (by omega) ?_ | refine q_iand gg34_7 ?_
          refine z_const gg34_8 (v := 1) rfl ?_
          refine z_icmpne gg34_9 (tg := 16) rfl (by omega) (by omega) (fun c3 => ?_) (fun c3 => ?_)
          · try (exfalso; omega)
            all_goals (
              refine z_const gg34_16 (v := 0) rfl ?_
              refine z_zretC gg34_17 (by omega) ?_
              refine z_zret gg29_48 (by omega) ?_
              refine qv ?_ kq
              omega
            )
          · try (exfalso; omega)
            all_goals (
              refine z_const gg34_12 (v := 1) rfl ?_
              refine q_goto gg34_13 (tg := 17) rfl ?_
              refine z_zretC gg34_17 (by omega) ?_
              refine z_zret gg29_48 (by omega) ?_
              refine qv ?_ kq
              omega
            )
        )
      · try (exfalso; omega)
        all_goals (
          refine q_aload gg29_15 rfl ?_
          refine q_getr gg29_16 rfl ?_
          refine q_iload gg29_19 rfl ?_
          refine q_call2 gg29_20 tt34 rfl (Nat.le_of_ble_eq_true rfl) (hm_rv (by decide +kernel)) (ls' := [some _, some _]) rfl rfl ?_
          refine q_aload gg34_0 rfl ?_
          first | refine z_getf gg34_1 rfl (by assumption) ?_ | refine q_getf gg34_1 rfl ?_
          refine q_iload gg34_4 rfl ?_
          first | refine z_ishr gg34_5 (by omega) (by omega) (by omega) (by omega) (fun sisBurst_5 esisBurst_5 lsisBurst_5 usisBurst_5 => ?_) | refine q_ishr gg34_5 ?_
          refine z_const gg34_6 (v := 1) rfl ?_
          first | refine z_iand1 gg34_7 (by omega) (by omega) ?_ | refine q_iand gg34_7 ?_
          refine z_const gg34_8 (v := 1) rfl ?_
          refine z_icmpne gg34_9 (tg := 16) rfl (by omega) (by omega) (fun c3 => ?_) (fun c3 => ?_)
          · try (exfalso; omega)
            all_goals (
              refine z_const gg34_16 (v := 0) rfl ?_
              refine z_zretC gg34_17 (by omega) ?_
              refine z_ifne gg29_23 (tg := 40) rfl (by decide) (fun z => absurd z (by decide)) (fun _ => ?_)
              refine q_aload gg29_26 rfl ?_
              refine q_getr gg29_27 rfl ?_
              refine q_call1 gg29_30 tt43 rfl (Nat.le_of_ble_eq_true rfl) (hm_rv (by decide +kernel)) (ls' := [some _, none, none, none]) rfl rfl ?_
              refine c_boil (by omega) hN hv (by omega) (fun M1 G1 hM1 hfr1 hG1 => ?_)
              show hm_Wp _ _ _ _ (_ :: _) _ _
              refine q_istore gg29_33 rfl ?_
              refine z_iinc gg29_34 rfl rfl ?_
              refine q_goto gg29_37 (tg := 5) rfl ?_
              refine ih (j + 1) G1 M1 (mPass v) (by omega) (by omega) hM1 (mWf_pass hv (by omega)) (hfr.tr hfr1) (by rw [mPass_3]; omega) (by rw [mPass_2]; exact hv2) ?_ heq
              rcases hG1 with z | ⟨z, z2⟩
              · exact Or.inl z
              · exact Or.inr ⟨z, mPass_stills hv z2⟩
            )
          · try (exfalso; omega)
            all_goals (
              refine z_const gg34_12 (v := 1) rfl ?_
              refine q_goto gg34_13 (tg := 17) rfl ?_
              refine z_zretC gg34_17 (by omega) ?_
              refine z_ifne gg29_23 (tg := 40) rfl (by decide) (fun _ => ?_) (fun z => absurd z (by decide))
              refine q_aload gg29_40 rfl ?_
              refine q_getr gg29_41 rfl ?_
              refine q_iload gg29_44 rfl ?_
              refine q_call2 gg29_45 tt34 rfl (Nat.le_of_ble_eq_true rfl) (hm_rv (by decide +kernel)) (ls' := [some _, some _]) rfl rfl ?_
              refine q_aload gg34_0 rfl ?_
              first | refine z_getf gg34_1 rfl (by assumption) ?_ | refine q_getf gg34_1 rfl ?_
              refine q_iload gg34_4 rfl ?_
              first | refine z_ishr gg34_5 (by omega) (by omega) (by omega) (by omega) (fun sisBurst_5 esisBurst_5 lsisBurst_5 usisBurst_5 => ?_) | refine q_ishr gg34_5 ?_
              refine z_const gg34_6 (v := 1) rfl ?_
              first | refine z_iand1 gg34_7 (by omega) (by omega) ?_ | refine q_iand gg34_7 ?_
              refine z_const gg34_8 (v := 1) rfl ?_
              refine z_icmpne gg34_9 (tg := 16) rfl (by omega) (by omega) (fun c4 => ?_) (fun c4 => ?_)
              · try (exfalso; omega)
                all_goals (
                  refine z_const gg34_16 (v := 0) rfl ?_
                  refine z_zretC gg34_17 (by omega) ?_
                  refine z_zret gg29_48 (by omega) ?_
                  refine qv ?_ kq
                  omega
                )
              · try (exfalso; omega)
                all_goals (
                  refine z_const gg34_12 (v := 1) rfl ?_
                  refine q_goto gg34_13 (tg := 17) rfl ?_
                  refine z_zretC gg34_17 (by omega) ?_
                  refine z_zret gg29_48 (by omega) ?_
                  refine qv ?_ kq
                  omega
                )
            )
        )
  refine z_const gg29_0 (v := 1) rfl ?_
  refine q_istore gg29_1 rfl ?_
  refine z_const gg29_2 (v := 0) rfl ?_
  refine q_istore gg29_3 rfl ?_
  exact L n.toNat 0 1 M w (by decide) (by omega) h hw Fr.rf (by omega) rfl (Or.inl rfl) eqH.rf
theorem c_trialBurstsNone (h : Hb M 22 w) (hw : mWf w) (h7 : Hb M 7 w0) (hw0 : mWf w0) (hbe : ∀ b : Int, 0 ≤ b → b < 7 → w (4 + 7 * b + 5) = w0 (4 + 7 * b + 5)) (hn0 : 0 ≤ n) (hn : n ≤ 60) (h3 : w 3 + n ≤ 20000) (k1 : bsum (mFlag (mIt n.toNat w) 5) 7 = bsum (mFlag w0 5) 7 → ∀ (M' : hm_M), Fr 22 M M' → Q (some (.inl (zI 1))) M') (k0 : bsum (mFlag (mIt n.toNat w) 5) 7 ≠ bsum (mFlag w0 5) 7 → ∀ (M' : hm_M), Fr 22 M M' → Q (some (.inl (zI 0))) M') : hm_Wp (d + 4) 30 0 [some (.inr (.inr 21)), some (.inl (zI n)), none, none] [] M Q := by
  have hT := mIt_wf n.toNat hw (by omega)
  have t5 := bsum7_lt (hw0.f01 (q := 5) (by decide) (by decide))
  have L : ∀ (m : Nat) (j G : Int) (N : hm_M) (v : Int → Int), 0 ≤ j → j + m = n → Hb N 22 v → mWf v → Fr 22 M N → v 3 + m ≤ 20000 → (∀ b : Int, 0 ≤ b → b < 7 → w0 (4 + 7 * b + 5) = 1 → v (4 + 7 * b + 5) = 1) → (G = 1 ∨ (G = 0 ∧ mSt v)) → eqH (mIt m v) (mIt n.toNat w) → hm_Wp (d + 4) 30 4 [some (.inr (.inr 21)), some (.inl (zI n)), some (.inl (zI G)), some (.inl (zI j))] [] N Q := by
    intro m
    induction m with
    | zero =>
      intro j G N v hj0 hjm hN hv hfr hv3 hsup hG heq
      have h9 := hN.1.2.2.2.2.1
      have g9 : N 7 9 = zI (bsum (mFlag w0 5) 7) := by rw [hfr 7 (by decide)]; exact h7.1.2.2.2.2.1
      have s5 := bsum7_lt (hv.f01 (q := 5) (by decide) (by decide))
      have e5 := heq.bs (q := 5) (by decide) (by decide)
      simp only [mIt] at e5
      refine q_iload gg30_4 rfl ?_
      refine q_iload gg30_5 rfl ?_
      refine z_icmpge gg30_6 (tg := 44) rfl (by omega) (by omega) (fun c1 => ?_) (fun z => absurd z (by omega))
      refine q_aload gg30_44 rfl ?_
      refine q_getr gg30_45 rfl ?_
      first | refine z_getf gg30_48 rfl (by assumption) ?_ | refine q_getf gg30_48 rfl ?_
      refine q_aload gg30_51 rfl ?_
      refine q_getr gg30_52 rfl ?_
      first | refine z_getf gg30_55 rfl (by assumption) ?_ | refine q_getf gg30_55 rfl ?_
      refine z_icmpne gg30_58 (tg := 65) rfl (by omega) (by omega) (fun c2 => ?_) (fun c2 => ?_)
      · try (exfalso; omega)
        all_goals (
          refine z_const gg30_65 (v := 0) rfl ?_
          refine z_zret gg30_66 (by omega) ?_
          first | exact k1 (by omega) N hfr | exact k0 (by omega) N hfr
        )
      · try (exfalso; omega)
        all_goals (
          refine z_const gg30_61 (v := 1) rfl ?_
          refine q_goto gg30_62 (tg := 66) rfl ?_
          refine z_zret gg30_66 (by omega) ?_
          first | exact k1 (by omega) N hfr | exact k0 (by omega) N hfr
        )
    | succ m ih =>
      intro j G N v hj0 hjm hN hv hfr hv3 hsup hG heq
      have h9 := hN.1.2.2.2.2.1
      have g9 : N 7 9 = zI (bsum (mFlag w0 5) 7) := by rw [hfr 7 (by decide)]; exact h7.1.2.2.2.2.1
      have s5 := bsum7_lt (hv.f01 (q := 5) (by decide) (by decide))
      have e5 := heq.bs (q := 5) (by decide) (by decide)
      have hst : G = 0 → bsum (mFlag (mIt (m + 1) v) 5) 7 = bsum (mFlag v 5) 7 := fun z => by
        rcases hG with hG | ⟨hG, hst⟩
        · omega
        · exact (mIt_st (m + 1) hv hst hv3).bs (by decide) (by decide)
      have hdf : bsum (mFlag v 5) 7 ≠ bsum (mFlag w0 5) 7 → bsum (mFlag (mIt (m + 1) v) 5) 7 ≠ bsum (mFlag w0 5) 7 := by
        intro hne he
        apply hne
        have hI := mIt_wf (m + 1) hv (by omega)
        refine bsum_congr (fun b b0 b1 => ?_)
        have e1 := flags_eq hI hw0 he b0 (by omega)
        have f1 := hv.1.2.1 b 5 b0 (by omega) (by decide) (by decide)
        have f2 := hw0.1.2.1 b 5 b0 (by omega) (by decide) (by decide)
        have f3 := hsup b b0 (by omega)
        have f4 : v (4 + 7 * b + 5) = 1 → mIt (m + 1) v (4 + 7 * b + 5) = 1 := fun z => mIt_burst (m + 1) b0 z
        simp only [mFlag]
        omega
      refine q_iload gg30_4 rfl ?_
      refine q_iload gg30_5 rfl ?_
      refine z_icmpge gg30_6 (tg := 44) rfl (by omega) (by omega) (fun z => absurd z (by omega)) (fun c1 => ?_)
      refine q_iload gg30_9 rfl ?_
      refine z_ifeq gg30_10 (tg := 44) rfl (by omega) (fun c2 => ?_) (fun c2 => ?_)
      · try (exfalso; omega)
        all_goals (
          refine q_aload gg30_44 rfl ?_
          refine q_getr gg30_45 rfl ?_
          first | refine z_getf gg30_48 rfl (by assumption) ?_ | refine q_getf gg30_48 rfl ?_
          refine q_aload gg30_51 rfl ?_
          refine q_getr gg30_52 rfl ?_
          first | refine z_getf gg30_55 rfl (by assumption) ?_ | refine q_getf gg30_55 rfl ?_
          refine z_icmpne gg30_58 (tg := 65) rfl (by omega) (by omega) (fun c3 => ?_) (fun c3 => ?_)
          · try (exfalso; omega)
            all_goals (
              refine z_const gg30_65 (v := 0) rfl ?_
              refine z_zret gg30_66 (by omega) ?_
              first | exact k1 (by omega) N hfr | exact k0 (by omega) N hfr
            )
          · try (exfalso; omega)
            all_goals (
              refine z_const gg30_61 (v := 1) rfl ?_
              refine q_goto gg30_62 (tg := 66) rfl ?_
              refine z_zret gg30_66 (by omega) ?_
              first | exact k1 (by omega) N hfr | exact k0 (by omega) N hfr
            )
        )
      · try (exfalso; omega)
        all_goals (
          refine q_aload gg30_13 rfl ?_
          refine q_getr gg30_14 rfl ?_
          first | refine z_getf gg30_17 rfl (by assumption) ?_ | refine q_getf gg30_17 rfl ?_
          refine q_aload gg30_20 rfl ?_
          refine q_getr gg30_21 rfl ?_
          first | refine z_getf gg30_24 rfl (by assumption) ?_ | refine q_getf gg30_24 rfl ?_
          refine z_icmpne gg30_27 (tg := 44) rfl (by omega) (by omega) (fun c3 => ?_) (fun c3 => ?_)
          · try (exfalso; omega)
            all_goals (
              refine q_aload gg30_44 rfl ?_
              refine q_getr gg30_45 rfl ?_
              first | refine z_getf gg30_48 rfl (by assumption) ?_ | refine q_getf gg30_48 rfl ?_
              refine q_aload gg30_51 rfl ?_
              refine q_getr gg30_52 rfl ?_
              first | refine z_getf gg30_55 rfl (by assumption) ?_ | refine q_getf gg30_55 rfl ?_
              refine z_icmpne gg30_58 (tg := 65) rfl (by omega) (by omega) (fun c4 => ?_) (fun c4 => ?_)
              · try (exfalso; omega)
                all_goals (
                  refine z_const gg30_65 (v := 0) rfl ?_
                  refine z_zret gg30_66 (by omega) ?_
                  first | exact k1 (by omega) N hfr | exact k0 (by omega) N hfr
                )
              · try (exfalso; omega)
                all_goals (
                  refine z_const gg30_61 (v := 1) rfl ?_
                  refine q_goto gg30_62 (tg := 66) rfl ?_
                  refine z_zret gg30_66 (by omega) ?_
                  first | exact k1 (by omega) N hfr | exact k0 (by omega) N hfr
                )
            )
          · try (exfalso; omega)
            all_goals (
              refine q_aload gg30_30 rfl ?_
              refine q_getr gg30_31 rfl ?_
              refine q_call1 gg30_34 tt43 rfl (Nat.le_of_ble_eq_true rfl) (hm_rv (by decide +kernel)) (ls' := [some _, none, none, none]) rfl rfl ?_
              refine c_boil (by omega) hN hv (by omega) (fun M1 G1 hM1 hfr1 hG1 => ?_)
              show hm_Wp _ _ _ _ (_ :: _) _ _
              refine q_istore gg30_37 rfl ?_
              refine z_iinc gg30_38 rfl rfl ?_
              refine q_goto gg30_41 (tg := 4) rfl ?_
              refine ih (j + 1) G1 M1 (mPass v) (by omega) (by omega) hM1 (mWf_pass hv (by omega)) (hfr.tr hfr1) (by rw [mPass_3]; omega) (fun b b0 b1 hb => mPass_burst b0 (hsup b b0 b1 hb)) ?_ heq
              rcases hG1 with z | ⟨z, z2⟩
              · exact Or.inl z
              · exact Or.inr ⟨z, mPass_stills hv z2⟩
            )
        )
  refine z_const gg30_0 (v := 1) rfl ?_
  refine q_istore gg30_1 rfl ?_
  refine z_const gg30_2 (v := 0) rfl ?_
  refine q_istore gg30_3 rfl ?_
  exact L n.toNat 0 1 M w (by decide) (by omega) h hw Fr.rf (by omega) (fun b b0 b1 z => by rw [hbe b b0 b1]; exact z) (Or.inl rfl) eqH.rf
theorem r_goesOn (hf : aw f 53 0 20000 w) (hw : mOk w) (hn0 : 0 ≤ n) (hn : n ≤ 60) (h3 : w 3 + n ≤ 20000) (kk : ∀ f', aw f' 53 0 20000 (mIt n.toNat w) → Q none (hm_row M 38 f')) : hm_Wp (d + 4) 175 0 [some (.inr (.inr 30)), some (.inl (zI n)), none] [] (hm_row M 38 f) Q := by
  have L : ∀ (m : Nat) (j : Int) (f : Nat → Int32) (v : Int → Int), 0 ≤ j → j + m = n → aw f 53 0 20000 v → mOk v → v 3 + m ≤ 20000 → mIt m v = mIt n.toNat w → hm_Wp (d + 4) 175 2 [some (.inr (.inr 30)), some (.inl (zI n)), some (.inl (zI j))] [] (hm_row M 38 f) Q := by
    intro m
    induction m with
    | zero =>
      intro j f v hj0 hjm hf hv hv3 heq
      refine q_iload gg175_2 rfl ?_
      refine q_iload gg175_3 rfl ?_
      refine z_icmpge gg175_4 (tg := 20) rfl (by omega) (by omega) (fun c1 => ?_) (fun z => absurd z (by omega))
      refine q_ret gg175_20 ?_
      refine kk _ ?_
      rw [← heq]
      exact hf
    | succ m ih =>
      intro j f v hj0 hjm hf hv hv3 heq
      have h0 := (hf 3 (by decide) (by decide)).2.1
      refine q_iload gg175_2 rfl ?_
      refine q_iload gg175_3 rfl ?_
      refine z_icmpge gg175_4 (tg := 20) rfl (by omega) (by omega) (fun z => absurd z (by omega)) (fun c1 => ?_)
      refine q_aload gg175_7 rfl ?_
      refine q_getr gg175_8 rfl ?_
      refine q_call1 gg175_11 tt162 rfl (Nat.le_of_ble_eq_true rfl) rfl (ls' := [some _, none]) rfl rfl ?_
      refine r_passes rfl hf hv (by omega) (fun f' hf' => ?_)
      show hm_Wp _ _ _ _ _ _ _
      refine z_iinc gg175_14 rfl rfl ?_
      refine q_goto gg175_17 (tg := 2) rfl ?_
      exact ih (j + 1) _ (mPass v) (by omega) (by omega) hf' (mPass_ok hv) (by rw [mPass_3]; omega) heq
  refine z_const gg175_0 (v := 0) rfl ?_
  refine q_istore gg175_1 rfl ?_
  exact L n.toNat 0 f w (by decide) (by omega) hf hw (by omega) rfl
theorem r_cpNT (h : aw (M 36) 53 0 20000 w) (kk : ∀ f', aw f' 53 0 20000 w → Q none (hm_row M 38 f')) : hm_Wp d 130 0 [some (.inr (.inr 36)), some (.inl (zI 0)), some (.inr (.inr 38)), some (.inl (zI 0)), none] [] M Q := by
  have := r_copies (d := d) (M := M) (k0 := 36) (k1 := 38) (n0 := 53) (n1 := 53) (a := 0) (b := 0) (f := M 38) (Q := Q) rfl rfl (by decide) (by decide) (by decide) (by decide) (by decide) (by decide) (by decide) (fun f' hf' => kk f' (fun i i0 i1 => by
    rw [hf' i i0, if_pos (by omega), show (0 + i - 0).toNat = i.toNat by omega]
    exact h i i0 i1))
  rw [hm_row_self] at this
  exact this
def FT (M M' : hm_M) : Prop := ∀ k : Nat, k < 22 ∨ 27 < k → M' k = M k
def FR (M M' : hm_M) : Prop := ∀ k : Nat, k ≠ 38 → M' k = M k
theorem Fr.ft {M M' : hm_M} (h : Fr 22 M M') : FT M M' := fun k hk => h k (by omega)
theorem FT.tr {M N P : hm_M} (h1 : FT M N) (h2 : FT N P) : FT M P := fun k hk => (h2 k hk).trans (h1 k hk)
theorem FT.rf {M : hm_M} : FT M M := fun _ _ => rfl
theorem FR.rf {M : hm_M} : FR M M := fun _ _ => rfl
theorem FR.row {M : hm_M} {f : Nat → Int32} : FR M (hm_row M 38 f) := fun k hk => hm_row_ne M f hk
theorem Hb.fr {M M' : hm_M} {r : Nat} (h : Hb M r w) (h0 : M' r = M r) (h1 : M' (r + 1) = M (r + 1)) (h2 : M' (r + 2) = M (r + 2)) (h3 : M' (r + 3) = M (r + 3)) (h4 : M' (r + 4) = M (r + 4)) : Hb M' r w := by
  unfold Hb Hc Hs at h ⊢
  rw [h0, h1, h2, h3, h4]; exact h
theorem Hb.ft {M M' : hm_M} (h : Hb M 7 w) (hf : FT M M') : Hb M' 7 w := h.fr (hf 7 (by decide)) (hf 8 (by decide)) (hf 9 (by decide)) (hf 10 (by decide)) (hf 11 (by decide))
theorem c_beginTrial (h : Hb M 7 w) (hw : mWf w) (kk : ∀ M', Hb M' 22 w → Hb M' 7 w → FT M M' → Q none M') : hm_Wp (d + 2) 27 0 [some (.inr (.inr 21))] [] M Q := by
  have hn := hw.1.1
  refine q_aload gg27_0 rfl ?_
  refine q_getr gg27_1 rfl ?_
  refine q_aload gg27_4 rfl ?_
  refine q_getr gg27_5 rfl ?_
  refine q_call2 gg27_8 tt38 rfl (Nat.le_of_ble_eq_true rfl) (hm_rv (by decide +kernel)) (ls' := [some _, some _]) rfl rfl ?_
  refine c_takeFrom (by omega) h hn.2 (fun M1 h1 hfr => ?_)
  show hm_Wp _ _ _ _ _ _ _
  refine q_ret gg27_11 ?_
  exact kk M1 h1 (h.ft hfr.ft) hfr.ft
def aSwell (w : Int → Int) (b e : Int) : Int → Prop := fun x => (0 ≤ b ∧ b < w 2 ∧ 0 ≤ e ∧ e ≤ 60 ∧ x = mIt e.toNat w (4 + 7 * b + 2)) ∨ (¬ (0 ≤ b ∧ b < w 2 ∧ 0 ≤ e ∧ e ≤ 60) ∧ x = -1000001)
theorem c_swell {e : Int} (hb : zR b) (he : zR e) (h : Hb M 7 w) (hw : mWf w) (h3 : w 3 ≤ 9999) (kk : ∀ (x : Int) (M' : hm_M), aSwell w b e x → FT M M' → Q (some (.inl (zI x))) M') : hm_Wp (d + 6) 100 0 [some (.inr (.inr 0)), some (.inl (zI b)), some (.inl (zI e))] [] M Q := by
  have hn := hw.1.1
  have h4 := h.1.1
  unfold zR at hb he
  refine q_aload gg100_0 rfl ?_
  refine q_getr gg100_1 rfl ?_
  refine q_iload gg100_4 rfl ?_
  refine q_call2 gg100_5 tt32 rfl (Nat.le_of_ble_eq_true rfl) (hm_rv (by decide +kernel)) (ls' := [some _, some _]) rfl rfl ?_
  refine q_iload gg32_0 rfl ?_
  refine z_iflt gg32_1 (tg := 16) rfl (by omega) (fun c1 => ?_) (fun c1 => ?_)
  · try (exfalso; omega)
    all_goals (
      refine z_const gg32_16 (v := 0) rfl ?_
      refine z_zretC gg32_17 (by omega) ?_
      refine z_ifeq gg100_8 (tg := 21) rfl (by decide) (fun _ => ?_) (fun z => absurd z (by decide))
      refine z_neg gg100_21 ?_
      refine q_iret gg100_23 ?_
      exact kk _ _ (Or.inr ⟨by omega, rfl⟩) FT.rf
    )
  · try (exfalso; omega)
    all_goals (
      refine q_iload gg32_4 rfl ?_
      refine q_aload gg32_5 rfl ?_
      first | refine z_getf gg32_6 rfl (by assumption) ?_ | refine q_getf gg32_6 rfl ?_
      refine z_icmpge gg32_9 (tg := 16) rfl (by omega) (by omega) (fun c2 => ?_) (fun c2 => ?_)
      · try (exfalso; omega)
        all_goals (
          refine z_const gg32_16 (v := 0) rfl ?_
          refine z_zretC gg32_17 (by omega) ?_
          refine z_ifeq gg100_8 (tg := 21) rfl (by decide) (fun _ => ?_) (fun z => absurd z (by decide))
          refine z_neg gg100_21 ?_
          refine q_iret gg100_23 ?_
          exact kk _ _ (Or.inr ⟨by omega, rfl⟩) FT.rf
        )
      · try (exfalso; omega)
        all_goals (
          refine z_const gg32_12 (v := 1) rfl ?_
          refine q_goto gg32_13 (tg := 17) rfl ?_
          refine z_zretC gg32_17 (by omega) ?_
          refine z_ifeq gg100_8 (tg := 21) rfl (by decide) (fun z => absurd z (by decide)) (fun _ => ?_)
          refine q_iload gg100_11 rfl ?_
          refine z_iflt gg100_12 (tg := 21) rfl (by omega) (fun c3 => ?_) (fun c3 => ?_)
          · try (exfalso; omega)
            all_goals (
              refine z_neg gg100_21 ?_
              refine q_iret gg100_23 ?_
              exact kk _ _ (Or.inr ⟨by omega, rfl⟩) FT.rf
            )
          · try (exfalso; omega)
            all_goals (
              refine q_iload gg100_15 rfl ?_
              refine z_const gg100_16 (v := 60) rfl ?_
              refine z_icmple gg100_18 (tg := 24) rfl (by omega) (by omega) (fun c4 => ?_) (fun c4 => ?_)
              · try (exfalso; omega)
                all_goals (
                  refine q_aload gg100_24 rfl ?_
                  refine q_getr gg100_25 rfl ?_
                  refine q_iload gg100_28 rfl ?_
                  refine q_iload gg100_29 rfl ?_
                  refine q_call3 gg100_30 tt10 rfl (Nat.le_of_ble_eq_true rfl) (hm_rv (by decide +kernel)) (ls' := [some _, some _, some _]) rfl rfl ?_
                  refine q_aload gg10_0 rfl ?_
                  refine q_call1 gg10_1 tt27 rfl (Nat.le_of_ble_eq_true rfl) (hm_rv (by decide +kernel)) (ls' := [some _]) rfl rfl ?_
                  refine c_beginTrial h hw (fun M1 h1 h17 hft => ?_)
                  show hm_Wp _ _ _ _ _ _ _
                  refine q_aload gg10_4 rfl ?_
                  refine q_iload gg10_5 rfl ?_
                  refine q_call2 gg10_6 tt28 rfl (Nat.le_of_ble_eq_true rfl) (hm_rv (by decide +kernel)) (ls' := [some _, some _, none, none]) rfl rfl ?_
                  refine c_boilTrial h1 hw (by omega) (by omega) (by omega) (fun M2 v h2 hv heq hfr => ?_)
                  have a3 := h2.2.2
                  have v2 := heq 2 (by decide) (by decide) (by decide)
                  rw [mIt_2] at v2
                  show hm_Wp _ _ _ _ _ _ _
                  refine q_aload gg10_9 rfl ?_
                  refine q_getr gg10_10 rfl ?_
                  refine q_getr gg10_13 rfl ?_
                  refine q_iload gg10_16 rfl ?_
                  first | refine z_alr gg10_17 (by first | rfl | assumption) (by assumption) (by omega) (by omega) (by omega) (by decide) (fun vswellBehind_17 evswellBehind_17 lvswellBehind_17 uvswellBehind_17 => ?_) | refine z_alx gg10_17 rfl (by assumption) (by omega) (by omega) (by omega) (by decide) (fun vswellBehind_17 evswellBehind_17 lvswellBehind_17 uvswellBehind_17 => ?_) <;> (try dsimp only at evswellBehind_17)
                  refine q_iretC gg10_18 ?_
                  refine q_iret gg100_33 ?_
                  refine kk _ _ (Or.inl ⟨by omega, by omega, by omega, by omega, ?_⟩) (hft.tr hfr.ft)
                  rw [evswellBehind_17]
                  exact heq _ (by omega) (by omega) (by omega)
                )
              · try (exfalso; omega)
                all_goals (
                  refine z_neg gg100_21 ?_
                  refine q_iret gg100_23 ?_
                  exact kk _ _ (Or.inr ⟨by omega, rfl⟩) FT.rf
                )
            )
        )
    )
theorem r_swell {e : Int} (hb : zR b) (he : zR e) (hf : aw (M 36) 53 0 20000 w) (hw : mWf w) (h3 : w 3 ≤ 9999) (kk : ∀ (x : Int) (M' : hm_M), aSwell w b e x → FR M M' → Q (some (.inl (zI x))) M') : hm_Wp (d + 6) 176 0 [some (.inr (.inr 30)), some (.inl (zI b)), some (.inl (zI e))] [] M Q := by
  have hn := hw.1.1
  unfold zR at hb he
  refine q_aload gg176_0 rfl ?_
  refine q_iload gg176_1 rfl ?_
  refine q_call2 gg176_2 tt152 rfl (Nat.le_of_ble_eq_true rfl) (hm_rv (by decide +kernel)) (ls' := [some _, some _]) rfl rfl ?_
  refine q_iload gg152_0 rfl ?_
  refine z_const gg152_1 (v := 0) rfl ?_
  refine q_aload gg152_2 rfl ?_
  refine q_getr gg152_3 rfl ?_
  refine z_const gg152_6 (v := 2) rfl ?_
  first | refine z_alr gg152_7 (by first | rfl | assumption) (by assumption) (by omega) (by omega) (by omega) (by decide) (fun visBasin_7 evisBasin_7 lvisBasin_7 uvisBasin_7 => ?_) | refine z_alx gg152_7 rfl (by assumption) (by omega) (by omega) (by omega) (by decide) (fun visBasin_7 evisBasin_7 lvisBasin_7 uvisBasin_7 => ?_) <;> (try dsimp only at evisBasin_7)
  refine z_const gg152_8 (v := 1) rfl ?_
  first | refine z_isub gg152_9 ?_ | refine q_isub gg152_9 ?_
  refine q_call3 gg152_10 tt124 rfl (Nat.le_of_ble_eq_true rfl) rfl (ls' := [some _, some _, some _]) rfl rfl ?_
  refine q_iload gg124_0 rfl ?_
  refine q_iload gg124_1 rfl ?_
  refine z_icmplt gg124_2 (tg := 14) rfl (by omega) (by omega) (fun c1 => ?_) (fun c1 => ?_)
  · try (exfalso; omega)
    all_goals (
      refine z_const gg124_14 (v := 0) rfl ?_
      refine z_zretC gg124_15 (by omega) ?_
      refine z_zretC gg152_13 (by omega) ?_
      refine z_ifeq gg176_5 (tg := 18) rfl (by decide) (fun _ => ?_) (fun z => absurd z (by decide))
      refine z_neg gg176_18 ?_
      refine q_iret gg176_20 ?_
      exact kk _ _ (Or.inr ⟨by omega, rfl⟩) FR.rf
    )
  · try (exfalso; omega)
    all_goals (
      refine q_iload gg124_5 rfl ?_
      refine q_iload gg124_6 rfl ?_
      refine z_icmpgt gg124_7 (tg := 14) rfl (by omega) (by omega) (fun c2 => ?_) (fun c2 => ?_)
      · try (exfalso; omega)
        all_goals (
          refine z_const gg124_14 (v := 0) rfl ?_
          refine z_zretC gg124_15 (by omega) ?_
          refine z_zretC gg152_13 (by omega) ?_
          refine z_ifeq gg176_5 (tg := 18) rfl (by decide) (fun _ => ?_) (fun z => absurd z (by decide))
          refine z_neg gg176_18 ?_
          refine q_iret gg176_20 ?_
          exact kk _ _ (Or.inr ⟨by omega, rfl⟩) FR.rf
        )
      · try (exfalso; omega)
        all_goals (
          refine z_const gg124_10 (v := 1) rfl ?_
          refine q_goto gg124_11 (tg := 15) rfl ?_
          refine z_zretC gg124_15 (by omega) ?_
          refine z_zretC gg152_13 (by omega) ?_
          refine z_ifeq gg176_5 (tg := 18) rfl (by decide) (fun z => absurd z (by decide)) (fun _ => ?_)
          refine q_iload gg176_8 rfl ?_
          refine z_const gg176_9 (v := 0) rfl ?_
          refine z_const gg176_10 (v := 60) rfl ?_
          refine q_call3 gg176_12 tt124 rfl (Nat.le_of_ble_eq_true rfl) rfl (ls' := [some _, some _, some _]) rfl rfl ?_
          refine q_iload gg124_0 rfl ?_
          refine q_iload gg124_1 rfl ?_
          refine z_icmplt gg124_2 (tg := 14) rfl (by omega) (by omega) (fun c3 => ?_) (fun c3 => ?_)
          · try (exfalso; omega)
            all_goals (
              refine z_const gg124_14 (v := 0) rfl ?_
              refine z_zretC gg124_15 (by omega) ?_
              refine z_ifne gg176_15 (tg := 21) rfl (by decide) (fun z => absurd z (by decide)) (fun _ => ?_)
              refine z_neg gg176_18 ?_
              refine q_iret gg176_20 ?_
              exact kk _ _ (Or.inr ⟨by omega, rfl⟩) FR.rf
            )
          · try (exfalso; omega)
            all_goals (
              refine q_iload gg124_5 rfl ?_
              refine q_iload gg124_6 rfl ?_
              refine z_icmpgt gg124_7 (tg := 14) rfl (by omega) (by omega) (fun c4 => ?_) (fun c4 => ?_)
              · try (exfalso; omega)
                all_goals (
                  refine z_const gg124_14 (v := 0) rfl ?_
                  refine z_zretC gg124_15 (by omega) ?_
                  refine z_ifne gg176_15 (tg := 21) rfl (by decide) (fun z => absurd z (by decide)) (fun _ => ?_)
                  refine z_neg gg176_18 ?_
                  refine q_iret gg176_20 ?_
                  exact kk _ _ (Or.inr ⟨by omega, rfl⟩) FR.rf
                )
              · try (exfalso; omega)
                all_goals (
                  refine z_const gg124_10 (v := 1) rfl ?_
                  refine q_goto gg124_11 (tg := 15) rfl ?_
                  refine z_zretC gg124_15 (by omega) ?_
                  refine z_ifne gg176_15 (tg := 21) rfl (by decide) (fun _ => ?_) (fun z => absurd z (by decide))
                  refine q_aload gg176_21 rfl ?_
                  refine q_getr gg176_22 rfl ?_
                  refine z_const gg176_25 (v := 0) rfl ?_
                  refine q_aload gg176_26 rfl ?_
                  refine q_getr gg176_27 rfl ?_
                  refine z_const gg176_30 (v := 0) rfl ?_
                  refine q_call4 gg176_31 tt130 rfl (Nat.le_of_ble_eq_true rfl) rfl (ls' := [some _, some _, some _, some _, none]) rfl rfl ?_
                  refine r_cpNT hf (fun f1 hf1 => ?_)
                  show hm_Wp _ _ _ _ _ _ _
                  refine q_aload gg176_34 rfl ?_
                  refine q_iload gg176_35 rfl ?_
                  refine q_call2 gg176_36 tt175 rfl (Nat.le_of_ble_eq_true rfl) (hm_rv (by decide +kernel)) (ls' := [some _, some _, none]) rfl rfl ?_
                  refine r_goesOn hf1 hw.1 (by omega) (by omega) (by omega) (fun f2 hf2 => ?_)
                  show hm_Wp _ _ _ _ _ _ _
                  refine q_aload gg176_39 rfl ?_
                  refine q_getr gg176_40 rfl ?_
                  refine z_const gg176_43 (v := 4) rfl ?_
                  refine z_const gg176_44 (v := 7) rfl ?_
                  refine q_iload gg176_46 rfl ?_
                  first | refine z_imul gg176_47 ?_ | refine q_imul gg176_47 ?_
                  first | refine z_iadd gg176_48 ?_ | refine q_iadd gg176_48 ?_
                  refine z_const gg176_49 (v := 2) rfl ?_
                  first | refine z_iadd gg176_50 ?_ | refine q_iadd gg176_50 ?_
                  first | refine z_alr gg176_51 (by first | rfl | assumption) (by assumption) (by omega) (by omega) (by omega) (by decide) (fun v51 ev51 lv51 uv51 => ?_) | refine z_alx gg176_51 rfl (by assumption) (by omega) (by omega) (by omega) (by decide) (fun v51 ev51 lv51 uv51 => ?_) <;> (try dsimp only at ev51)
                  refine q_iret gg176_52 ?_
                  exact kk _ _ (Or.inl ⟨by omega, by omega, by omega, by omega, by omega⟩) FR.row
                )
            )
        )
    )
end F1
