section C4
variable {d mid pc nx r : Nat} {M N : hm_M} {w v u g : Int → Int} {b s n y p : Int} {f F : Nat → Int32} {Q : Option hm_V → hm_M → Prop}
theorem Hc_B (h : Hc N r w) (hw : mWf w) (hg : b01 g (w 2).toNat) (hF : F 9 = zI (zor (bsum (mFlag w 5) 7) (bsum g (w 2).toNat))) (hF2 : ∀ j, j ≠ 9 → F j = N r j) : Hc (hm_row N r F) r (mB w g) := by
  obtain ⟨h4, h5, h6, h8, h9, h10, a1, a2, a4⟩ := h
  have hn := hw.1.1
  have e0 : hm_row N r F r = F := hm_row_same _ _ _
  have e1 : hm_row N r F (r + 1) = N (r + 1) := hm_row_ne _ _ (by omega)
  have e2 : hm_row N r F (r + 2) = N (r + 2) := hm_row_ne _ _ (by omega)
  have e4 : hm_row N r F (r + 4) = N (r + 4) := hm_row_ne _ _ (by omega)
  have o : ∀ i : Int, i < 4 → mB w g i = w i := fun i hi => by simp only [mB]; rw [if_neg (by omega)]
  unfold Hc
  rw [e0, e1, e2, e4, o 0 (by omega), o 1 (by omega), o 2 (by omega), hF2 4 (by decide), hF2 5 (by decide), hF2 6 (by decide), hF2 8 (by decide), hF2 10 (by decide), hF]
  have gz : b01 (fun b => if b < w 2 then g b else 0) 7 := fun b b0 b1 => by
    dsimp only
    by_cases hb : b < w 2
    · rw [if_pos hb]; exact hg b b0 (by omega)
    · rw [if_neg hb]; exact Or.inl rfl
  have eg : bsum g (w 2).toNat = bsum (fun b => if b < w 2 then g b else 0) 7 := by
    rw [bsum_ext (g := fun b => if b < w 2 then g b else 0) (n := (w 2).toNat) (m := 7) (by omega) (fun b b0 b1 => by rw [if_neg (by omega)])]
    exact bsum_congr (fun b b0 b1 => by rw [if_pos (by omega)])
  refine ⟨h4, h5, h6, ?_, ?_, ?_, ?_, ?_, ?_⟩
  · rw [h8]; congr 1
    exact bsum_congr (fun b b0 b1 => (mB_k (by decide) (by decide) (by decide)).symm)
  · congr 1
    rw [eg, zor_sum (hw.f01 (by decide) (by decide)) gz]
    refine bsum_congr (fun b b0 b1 => ?_)
    have f5 := hw.1.2.1 b 5 b0 (by omega) (by decide) (by decide)
    show max (w (4 + 7 * b + 5)) (if b < w 2 then g b else 0) = mB w g (4 + 7 * b + 5)
    by_cases hb : b < w 2
    · have := hg b b0 (by omega)
      rw [if_pos hb, mB_5 b0 hb]
      (repeat' split) <;> omega
    · rw [if_neg hb]
      simp only [mB]; rw [if_neg (by omega)]; omega
  · rw [h10]; congr 1
    exact bsum_congr (fun b b0 b1 => (mB_k (by decide) (by decide) (by decide)).symm)
  · exact aw_eq a1 (fun b b0 b1 => mB_0.symm)
  · exact aw_eq a2 (fun b b0 b1 => (mB_k (by decide) (by decide) (by decide)).symm)
  · exact aw_eq a4 (fun b b0 b1 => (mB_k (by decide) (by decide) (by decide)).symm)
theorem c_pushN (hr : r = 7 ∨ r = 12 ∨ r = 22) (h : Hc M r v) (hw : mWf v) (hf : aw (M (r + 3)) (v 2) 0 20000 (fun b => v (4 + 7 * b + 2))) (hs : s = bsum g (v 2).toNat) (hg : b01 g (v 2).toNat) (kk : ∀ f', aw f' (v 2) 0 20000 (fun b => if v (4 + 7 * b + 5) = 0 then min 99 (v (4 + 7 * b + 2) + mPush v g b) else v (4 + 7 * b + 2)) → Q none (hm_row M (r + 3) f')) : hm_Wp (d + 2) 45 0 [some (.inr (.inr r)), some (.inl (zI s)), none, none, none, none] [] M Q := by
  have := c_pushNeighbours (d := d) hr h hw hf hs hg kk
  rw [hm_row_self] at this
  exact this
theorem Hb_hour {x : Int} (h : Hb N r w) : Hb (hm_up N r 7 (zI x)) r (zup w 3 x) := by
  obtain ⟨⟨h4, h5, h6, h8, h9, h10, a1, a2, a4⟩, h7, a3⟩ := h
  have e : ∀ i : Int, i ≠ 3 → zup w 3 x i = w i := fun i h => by simp [zup, h]
  have e0 : ∀ j, j ≠ 7 → hm_up N r 7 (zI x) r j = N r j := fun j hj => by simp [hm_up, hm_row, upd, hj]
  have e7 : hm_up N r 7 (zI x) r 7 = zI x := by simp [hm_up, hm_row, upd]
  have ek : ∀ k, k ≠ r → hm_up N r 7 (zI x) k = N k := fun k hk => hm_row_ne _ _ hk
  have fl : ∀ q : Int, 0 ≤ q → bsum (mFlag (zup w 3 x) q) 7 = bsum (mFlag w q) 7 := fun q hq => bsum_congr (fun b b0 b1 => by simp only [mFlag]; exact e _ (by omega))
  unfold Hb Hc Hs
  rw [e0 4 (by decide), e0 5 (by decide), e0 6 (by decide), e0 8 (by decide), e0 9 (by decide), e0 10 (by decide), e7, ek (r + 1) (by omega), ek (r + 2) (by omega), ek (r + 3) (by omega), ek (r + 4) (by omega), e 0 (by decide), e 1 (by decide), e 2 (by decide), fl 4 (by decide), fl 5 (by decide), fl 6 (by decide)]
  refine ⟨⟨h4, h5, h6, h8, h9, h10, ?_, ?_, ?_⟩, by simp [zup], ?_⟩
  · exact aw_eq a1 (fun b b0 b1 => (e _ (by omega)).symm)
  · exact aw_eq a2 (fun b b0 b1 => (e _ (by omega)).symm)
  · exact aw_eq a4 (fun b b0 b1 => (e _ (by omega)).symm)
  · exact aw_eq a3 (fun b b0 b1 => (e _ (by omega)).symm)
theorem Hb_swell {s : Nat → Int32} (h : Hb N r w) (hw : mWf w) (hF : F 10 = zI 0) (hF2 : ∀ j, j ≠ 10 → F j = N r j) (hs : aw s (w 2) 0 20000 (fun b => mSwellTo w (w 2) (4 + 7 * b + 2))) : Hb (hm_row (hm_row N (r + 3) s) r F) r (mSwellTo w (w 2)) := by
  obtain ⟨⟨h4, h5, h6, h8, h9, h10, a1, a2, a4⟩, h7, a3⟩ := h
  have hn := hw.1.1
  have o : ∀ i : Int, (i < 4 ∨ 4 + 7 * w 2 ≤ i) → mSwellTo w (w 2) i = w i := fun i hi => by simp only [mSwellTo]; rw [if_neg (by omega)]
  have k3 : ∀ b q : Int, q ≠ 2 → q ≠ 6 → 0 ≤ q → q < 7 → mSwellTo w (w 2) (4 + 7 * b + q) = w (4 + 7 * b + q) := by
    intro b q h2 h5 q0 q1
    simp only [mSwellTo]
    split
    · rw [if_neg (by omega), if_neg (by omega)]
    · rfl
  have k0 : ∀ b : Int, mSwellTo w (w 2) (4 + 7 * b) = w (4 + 7 * b) := fun b => by
    have := k3 b 0 (by decide) (by decide) (by decide) (by decide); simpa using this
  have e0 : hm_row (hm_row N (r + 3) s) r F r = F := hm_row_same _ _ _
  have e1 : hm_row (hm_row N (r + 3) s) r F (r + 1) = N (r + 1) := by rw [hm_row_ne _ _ (by omega), hm_row_ne _ _ (by omega)]
  have e2 : hm_row (hm_row N (r + 3) s) r F (r + 2) = N (r + 2) := by rw [hm_row_ne _ _ (by omega), hm_row_ne _ _ (by omega)]
  have e3 : hm_row (hm_row N (r + 3) s) r F (r + 3) = s := by rw [hm_row_ne _ _ (by omega), hm_row_same]
  have e4 : hm_row (hm_row N (r + 3) s) r F (r + 4) = N (r + 4) := by rw [hm_row_ne _ _ (by omega), hm_row_ne _ _ (by omega)]
  unfold Hb Hc Hs
  rw [e0, e1, e2, e3, e4, o 0 (by omega), o 1 (by omega), o 2 (by omega), o 3 (by omega), hF2 4 (by decide), hF2 5 (by decide), hF2 6 (by decide), hF2 7 (by decide), hF2 8 (by decide), hF2 9 (by decide), hF]
  refine ⟨⟨h4, h5, h6, ?_, ?_, ?_, ?_, ?_, ?_⟩, h7, hs⟩
  · rw [h8]; congr 1
    exact bsum_congr (fun b b0 b1 => (k3 b 4 (by decide) (by decide) (by decide) (by decide)).symm)
  · rw [h9]; congr 1
    exact bsum_congr (fun b b0 b1 => (k3 b 5 (by decide) (by decide) (by decide) (by decide)).symm)
  · congr 1
    rw [bsum_congr (g' := fun _ => 0) (fun b b0 b1 => ?_)]
    · decide
    · show mSwellTo w (w 2) (4 + 7 * b + 6) = 0
      by_cases hb : b < w 2
      · simp only [mSwellTo]; rw [if_pos (by omega), if_pos (by omega)]
      · rw [o _ (by omega)]; exact hw.2.2.2.1 b 6 (by omega) (by omega) (by decide) (by decide)
  · exact aw_eq a1 (fun b b0 b1 => (k0 b).symm)
  · exact aw_eq a2 (fun b b0 b1 => (k3 b 1 (by decide) (by decide) (by decide) (by decide)).symm)
  · exact aw_eq a4 (fun b b0 b1 => (k3 b 3 (by decide) (by decide) (by decide) (by decide)).symm)
theorem c_boil (hr : r = 7 ∨ r = 12 ∨ r = 22) (h : Hb M r w) (hw : mWf w) (hh : w 3 < 20000) (kk : ∀ (M' : hm_M) (G : Int), Hb M' r (mPass w) → Fr r M M' → (G = 1 ∨ (G = 0 ∧ ∀ b : Int, 0 ≤ b → b < w 2 → mGrow w b ≤ 0)) → Q (some (.inl (zI G))) M') : hm_Wp (d + 3) 43 0 [some (.inr (.inr r)), none, none, none] [] M Q := by
  have hn := hw.1.1
  have hh0 := (hw.2.1 3 (by decide) (by decide)).1
  have L2 : ∀ (m : Nat) (v : Int → Int) (N : hm_M) (G rd : Int), Hb N r v → mWf v → Fr r M N → v 3 = w 3 → 0 ≤ rd → rd + m = 7 → (G = 0 ∨ G = 1) → (∀ M', Hb M' r (zup (mRounds m v) 3 (w 3 + 1)) → Fr r M M' → Q (some (.inl (zI G))) M') → hm_Wp (d + 3) 43 48 [some (.inr (.inr r)), some (.inl (zI G)), some (.inl (zI (bsum (mRip v) (v 2).toNat))), some (.inl (zI rd))] [] N Q := by
    intro m
    induction m with
    | zero =>
      intro v N G rd hN hv hfr h3 hrd0 hrd hG kk
      obtain ⟨s0, s1⟩ := bsum_lt (mRip_b01 v (v 2).toNat)
      have hp : (2 : Int) ^ (v 2).toNat ≤ 2 ^ 7 := by
        have : (v 2).toNat ≤ 7 := by have := hv.1.1.2; omega
        exact_mod_cast Nat.pow_le_pow_right (n := 2) (by decide) this
      have hH := Hb_hour (x := v 3 + 1) hN
      have h7 := hN.2.1
      rw [h3] at hH h7
      have hfr2 : Fr r M (hm_up N r 7 (zI (w 3 + 1))) := hfr.tr (Fr.row (Nat.le_refl _) (by omega))
      rcases hr with rfl | rfl | rfl
      all_goals (
        refine q_iload gg43_48 rfl ?_
        refine z_ifeq gg43_49 (tg := 84) rfl (by omega) (fun c1 => ?_) (fun c1 => ?_)
        · try (exfalso; omega)
          all_goals (
            refine q_aload gg43_84 rfl ?_
            refine q_dup gg43_85 rfl ?_
            first | refine z_getf gg43_86 rfl (by assumption) ?_ | refine q_getf gg43_86 rfl ?_
            refine z_const gg43_89 (v := 1) rfl ?_
            first | refine z_iadd gg43_90 ?_ | refine q_iadd gg43_90 ?_
            refine q_putf gg43_91 rfl ?_
            refine q_iload gg43_94 rfl ?_
            refine z_zret gg43_95 (by omega) ?_
            exact kk _ hH hfr2
          )
        · try (exfalso; omega)
          all_goals (
            refine q_iload gg43_52 rfl ?_
            refine z_const gg43_53 (v := 7) rfl ?_
            refine z_icmpge gg43_55 (tg := 84) rfl (by omega) (by omega) (fun c2 => ?_) (fun z => absurd z (by omega))
            refine q_aload gg43_84 rfl ?_
            refine q_dup gg43_85 rfl ?_
            first | refine z_getf gg43_86 rfl (by assumption) ?_ | refine q_getf gg43_86 rfl ?_
            refine z_const gg43_89 (v := 1) rfl ?_
            first | refine z_iadd gg43_90 ?_ | refine q_iadd gg43_90 ?_
            refine q_putf gg43_91 rfl ?_
            refine q_iload gg43_94 rfl ?_
            refine z_zret gg43_95 (by omega) ?_
            exact kk _ hH hfr2
          )
      )
    | succ m ih =>
      intro v N G rd hN hv hfr h3 hrd0 hrd hG kk
      obtain ⟨s0, s1⟩ := bsum_lt (mRip_b01 v (v 2).toNat)
      have hp : (2 : Int) ^ (v 2).toNat ≤ 2 ^ 7 := by
        have : (v 2).toNat ≤ 7 := by have := hv.1.1.2; omega
        exact_mod_cast Nat.pow_le_pow_right (n := 2) (by decide) this
      have s5 := bsum7_lt (hv.f01 (q := 5) (by decide) (by decide))
      have h9 := hN.1.2.2.2.2.1
      have h7 := hN.2.1
      rw [h3] at h7
      by_cases hz : bsum (mRip v) (v 2).toNat = 0
      · simp only [mRounds, hz, if_pos] at kk
        rw [hz]
        have hH := Hb_hour (x := v 3 + 1) hN
        rw [h3] at hH
        have hfr2 : Fr r M (hm_up N r 7 (zI (w 3 + 1))) := hfr.tr (Fr.row (Nat.le_refl _) (by omega))
        clear ih
        rcases hr with rfl | rfl | rfl
        all_goals (
          refine q_iload gg43_48 rfl ?_
          refine z_ifeq gg43_49 (tg := 84) rfl (by omega) (fun c1 => ?_) (fun z => absurd z (by omega))
          refine q_aload gg43_84 rfl ?_
          refine q_dup gg43_85 rfl ?_
          first | refine z_getf gg43_86 rfl (by assumption) ?_ | refine q_getf gg43_86 rfl ?_
          refine z_const gg43_89 (v := 1) rfl ?_
          first | refine z_iadd gg43_90 ?_ | refine q_iadd gg43_90 ?_
          refine q_putf gg43_91 rfl ?_
          refine q_iload gg43_94 rfl ?_
          refine z_zret gg43_95 (by omega) ?_
          exact kk _ hH hfr2
        )
      · simp only [mRounds, hz, if_false] at kk
        have hF2 : ∀ j, j ≠ 9 → upd (N r) 9 (zI (zor (bsum (mFlag v 5) 7) (bsum (mRip v) (v 2).toNat))) j = N r j := fun j hj => by simp [upd, hj]
        have hF1 : upd (N r) 9 (zI (zor (bsum (mFlag v 5) 7) (bsum (mRip v) (v 2).toNat))) 9 = zI (zor (bsum (mFlag v 5) 7) (bsum (mRip v) (v 2).toNat)) := by simp [upd]
        have hcB := Hc_B hN.1 hv (mRip_b01 v _) hF1 hF2
        have hwB := mWf_B (g := mRip v) hv
        have hB2 : mB v (mRip v) 2 = v 2 := mB_2
        have key : ∀ f', aw f' (v 2) 0 20000 (fun b => if mB v (mRip v) (4 + 7 * b + 5) = 0 then min 99 (v (4 + 7 * b + 2) + mPush v (mRip v) b) else v (4 + 7 * b + 2)) → Hb (hm_row (hm_row N r (upd (N r) 9 (zI (zor (bsum (mFlag v 5) 7) (bsum (mRip v) (v 2).toNat))))) (r + 3) f') r (mRnd v) := fun f' hf' => Hb_round hN hv (mRip_b01 v _) hF1 hF2 hf'
        have hwR : mWf (mRnd v) := mWf_round hv (Int.le_refl _)
        have hfin := fun N' (hN' : Hb N' r (mRnd v)) (hf' : Fr r M N') => ih (mRnd v) N' G (rd + 1) hN' hwR hf' (by rw [mRnd_3]; exact h3) (by omega) (by omega) hG kk
        have hfr3 : ∀ f', Fr r M (hm_row (hm_row N r (upd (N r) 9 (zI (zor (bsum (mFlag v 5) 7) (bsum (mRip v) (v 2).toNat))))) (r + 3) f') := fun f' => (hfr.tr (Fr.row (Nat.le_refl _) (by omega))).tr (Fr.row (Nat.le_add_right _ 3) (by omega))
        have a3 := hN.2.2
        have hr3 : hm_row N r (upd (N r) 9 (zI (zor (bsum (mFlag v 5) 7) (bsum (mRip v) (v 2).toNat)))) (r + 3) = N (r + 3) := hm_row_ne _ _ (by omega)
        clear ih
        rcases hr with rfl | rfl | rfl
        all_goals (
          refine q_iload gg43_48 rfl ?_
          refine z_ifeq gg43_49 (tg := 84) rfl (by omega) (fun z => absurd z (by omega)) (fun c1 => ?_)
          refine q_iload gg43_52 rfl ?_
          refine z_const gg43_53 (v := 7) rfl ?_
          refine z_icmpge gg43_55 (tg := 84) rfl (by omega) (by omega) (fun z => absurd z (by omega)) (fun c2 => ?_)
          refine q_aload gg43_58 rfl ?_
          refine q_dup gg43_59 rfl ?_
          first | refine z_getf gg43_60 rfl (by assumption) ?_ | refine q_getf gg43_60 rfl ?_
          refine q_iload gg43_63 rfl ?_
          refine z_ior gg43_64 s5.1 s5.2 s0 (by omega) ?_
          refine q_putf gg43_65 rfl ?_
          refine q_aload gg43_68 rfl ?_
          refine q_iload gg43_69 rfl ?_
          refine q_call2 gg43_70 tt45 rfl (Nat.le_of_ble_eq_true rfl) (hm_rv (by decide +kernel)) (ls' := [some _, some _, none, none, none, none]) rfl rfl ?_
          refine c_pushN (by omega) hcB hwB (g := mRip v) (by rw [hB2]; exact aw_eq (show aw (hm_row _ _ _ _) _ _ _ _ by rw [hr3]; exact a3) (fun b b0 b1 => (mB_k (by decide) (by decide) (by decide)).symm)) (by rw [hB2]) (mRip_b01 v _) (fun f' hf' => ?_)
          rw [hB2] at hf'
          have hb := key f' (aw_eq hf' (fun b b0 b1 => by rw [mB_k (q := 2) (by decide) (by decide) (by decide), mB_push]))
          show hm_Wp _ _ _ _ _ _ _
          refine q_aload gg43_73 rfl ?_
          refine q_call1 gg43_74 tt44 rfl (Nat.le_of_ble_eq_true rfl) (hm_rv (by decide +kernel)) (ls' := [some _, none, none]) rfl rfl ?_
          refine c_aboveCloth (by omega) hb.1 hb.2.2 hwR ?_
          show hm_Wp _ _ _ _ (_ :: _) _ _
          refine q_istore gg43_77 rfl ?_
          refine z_iinc gg43_78 rfl rfl ?_
          refine q_goto gg43_81 (tg := 48) rfl ?_
          exact hfin _ hb (hfr3 f')
        )
  have L1 : ∀ (m : Nat) (b G : Int) (s : Nat → Int32) (x3 : Option hm_V), hm_free [some (.inr (.inr r)), some (.inl (zI G)), some (.inl (zI b)), x3] 3 = true → 0 ≤ b → b + m = w 2 → (G = 1 ∨ (G = 0 ∧ ∀ c : Int, 0 ≤ c → c < b → mGrow w c ≤ 0)) → aw s (w 2) 0 20000 (fun c => mSwellTo w b (4 + 7 * c + 2)) → hm_Wp (d + 3) 43 4 [some (.inr (.inr r)), some (.inl (zI G)), some (.inl (zI b)), x3] [] (hm_row M (r + 3) s) Q := by
    intro m
    induction m with
    | zero =>
      intro b G s x3 _ hb0 hbm hG hs
      have hbn : b = w 2 := by omega
      subst hbn
      have h4 := h.1.1
      have hF2 : ∀ j, j ≠ 10 → upd (M r) 10 (zI 0) j = M r j := fun j hj => by simp [upd, hj]
      have hH := Hb_swell h hw (F := upd (M r) 10 (zI 0)) (by simp [upd]) hF2 hs
      have hwS := mWf_swell hw (e := w 2) (Int.le_refl _)
      have hfr : Fr r M (hm_row (hm_row M (r + 3) s) r (upd (M r) 10 (zI 0))) := (Fr.row (Nat.le_add_right _ 3) (by omega)).tr (Fr.row (Nat.le_refl _) (by omega))
      have e2 := mSwellTo_2 w (w 2)
      have hfin := L2 7 _ _ G 0 hH hwS hfr (by simp only [mSwellTo]; rw [if_neg (by omega)]) (by decide) (by decide) (by omega) (fun M' h1 h2 => kk M' G h1 h2 hG)
      clear L2
      rcases hr with rfl | rfl | rfl
      all_goals (
        refine q_iload gg43_4 rfl ?_
        refine q_aload gg43_5 rfl ?_
        first | refine z_getf gg43_6 rfl (by assumption) ?_ | refine q_getf gg43_6 rfl ?_
        refine z_icmpge gg43_9 (tg := 36) rfl (by omega) (by omega) (fun c1 => ?_) (fun z => absurd z (by omega))
        refine q_aload gg43_36 rfl ?_
        refine z_const gg43_37 (v := 0) rfl ?_
        refine q_putf gg43_38 rfl ?_
        refine q_aload gg43_41 rfl ?_
        refine q_call1 gg43_42 tt44 rfl (Nat.le_of_ble_eq_true rfl) (hm_rv (by decide +kernel)) (ls' := [some _, none, none]) rfl rfl ?_
        refine c_aboveCloth (by omega) hH.1 hH.2.2 hwS ?_
        show hm_Wp _ _ _ _ (_ :: _) _ _
        refine q_istore gg43_45 rfl ?_
        refine z_const gg43_46 (v := 0) rfl ?_
        refine q_istore gg43_47 rfl ?_
        exact hfin
      )
    | succ m ih =>
      intro b G s x3 _ hb0 hbm hG hs
      have h4 := h.1.1
      have hbd : 0 ≤ mGrow w b ∧ mGrow w b ≤ 100000 := mGrow_bd (f := fun i => zI (w i)) (fun i i0 i1 => ⟨by show zI (w (i.toNat : Int)) = _; rw [Int.toNat_of_nonneg i0], hw.2.1 i i0 i1⟩) hb0 (by omega)
      have hc3 := Hc_row3 (s := s) h.1
      have hnext := fun G s x3 hx hG hs => ih (b + 1) G s x3 hx (by omega) (by omega) hG hs
      have e6 : mSwellTo w b (4 + 7 * b + 2) = w (4 + 7 * b + 2) := by simp only [mSwellTo]; rw [if_neg (by omega)]
      have f5 := hw.1.2.1 b 5 hb0 (by omega) (by decide) (by decide)
      have hburst : w (4 + 7 * b + 5) = 1 → mGrow w b = 0 := fun z => by unfold mGrow; rw [if_pos z]
      have w99 := hw.2.2.1 b hb0 (by omega)
      clear ih L2
      rcases hr with rfl | rfl | rfl
      all_goals (
        refine q_iload gg43_4 rfl ?_
        refine q_aload gg43_5 rfl ?_
        first | refine z_getf gg43_6 rfl (by assumption) ?_ | refine q_getf gg43_6 rfl ?_
        refine z_icmpge gg43_9 (tg := 36) rfl (by omega) (by omega) (fun z => absurd z (by omega)) (fun c1 => ?_)
        refine q_aload gg43_12 rfl ?_
        refine q_iload gg43_13 rfl ?_
        refine q_call2 gg43_14 tt42 rfl (Nat.le_of_ble_eq_true rfl) (hm_rv (by decide +kernel)) (ls' := [some _, some _, none]) rfl rfl ?_
        refine c_growthOf (by omega) hc3 hw hb0 (by omega) ?_
        show hm_Wp _ _ _ _ (_ :: _) _ _
        refine q_istore gg43_17 rfl ?_
        refine q_iload gg43_18 rfl ?_
        refine z_ifle gg43_19 (tg := 30) rfl (by omega) (fun c2 => ?_) (fun c2 => ?_)
        · try (exfalso; omega)
          all_goals (
            refine z_iinc gg43_30 rfl rfl ?_
            refine q_goto gg43_33 (tg := 4) rfl ?_
            first
            | refine hnext 1 _ _ rfl (Or.inl rfl) (aw_eq h25 (fun i i0 i1 => ?_))
              simp only [zup]
              by_cases hib : i = b
              · subst hib
                rw [if_pos rfl, e6]
                simp only [mSwellTo]
                rw [if_pos (by omega), show (4 + 7 * i + 2 - 4) / 7 = i by omega, if_neg (by omega)]
                split <;> omega
              · rw [if_neg hib]
                simp only [mSwellTo]
                rw [show (4 + 7 * i + 2 - 4) / 7 = i by omega]
                (repeat' split) <;> omega
            | refine hnext G _ _ rfl ?_ (aw_eq hs (fun i i0 i1 => ?_))
              · rcases hG with hG | ⟨hG, hG2⟩
                · exact Or.inl hG
                · exact Or.inr ⟨hG, all_succ hG2 (by omega)⟩
              · by_cases hib : i = b
                · subst hib
                  rw [e6]
                  simp only [mSwellTo]
                  rw [if_pos (by omega), show (4 + 7 * i + 2 - 4) / 7 = i by omega, if_neg (by omega)]
                  split <;> omega
                · simp only [mSwellTo]
                  rw [show (4 + 7 * i + 2 - 4) / 7 = i by omega]
                  (repeat' split) <;> omega
          )
        · try (exfalso; omega)
          all_goals (
            refine q_aload gg43_22 rfl ?_
            refine q_iload gg43_23 rfl ?_
            refine q_iload gg43_24 rfl ?_
            refine q_call3 gg43_25 tt47 rfl (Nat.le_of_ble_eq_true rfl) (hm_rv (by decide +kernel)) (ls' := [some _, some _, some _]) rfl rfl ?_
            refine c_raise (by omega) hn.2 hs hb0 (by omega) hbd.1 hbd.2 (fun s25 h25 => ?_)
            show hm_Wp _ _ _ _ _ _ _
            refine z_const gg43_28 (v := 1) rfl ?_
            refine q_istore gg43_29 rfl ?_
            refine z_iinc gg43_30 rfl rfl ?_
            refine q_goto gg43_33 (tg := 4) rfl ?_
            first
            | refine hnext 1 _ _ rfl (Or.inl rfl) (aw_eq h25 (fun i i0 i1 => ?_))
              simp only [zup]
              by_cases hib : i = b
              · subst hib
                rw [if_pos rfl, e6]
                simp only [mSwellTo]
                rw [if_pos (by omega), show (4 + 7 * i + 2 - 4) / 7 = i by omega, if_neg (by omega)]
                split <;> omega
              · rw [if_neg hib]
                simp only [mSwellTo]
                rw [show (4 + 7 * i + 2 - 4) / 7 = i by omega]
                (repeat' split) <;> omega
            | refine hnext G _ _ rfl ?_ (aw_eq hs (fun i i0 i1 => ?_))
              · rcases hG with hG | ⟨hG, hG2⟩
                · exact Or.inl hG
                · exact Or.inr ⟨hG, all_succ hG2 (by omega)⟩
              · by_cases hib : i = b
                · subst hib
                  rw [e6]
                  simp only [mSwellTo]
                  rw [if_pos (by omega), show (4 + 7 * i + 2 - 4) / 7 = i by omega, if_neg (by omega)]
                  split <;> omega
                · simp only [mSwellTo]
                  rw [show (4 + 7 * i + 2 - 4) / 7 = i by omega]
                  (repeat' split) <;> omega
          )
      )
  have L0 := L1 (w 2).toNat 0 0 (M (r + 3)) none rfl (by decide) (by omega) (Or.inr ⟨rfl, fun c c0 c1 => absurd c1 (by omega)⟩) (aw_eq h.2.2 (fun i i0 i1 => by simp only [mSwellTo]; rw [if_neg (by omega)]))
  rw [hm_row_self] at L0
  refine z_const gg43_0 (v := 0) rfl ?_
  refine q_istore gg43_1 rfl ?_
  refine z_const gg43_2 (v := 0) rfl ?_
  refine q_istore gg43_3 rfl ?_
  exact L0
end C4
