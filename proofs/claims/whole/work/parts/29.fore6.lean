section F6
variable {d r : Nat} {M N : hm_M} {w v w0 : Int → Int} {b n e x a s y c q i : Int} {f : Nat → Int32} {Q : Option hm_V → hm_M → Prop}
/-- place q of the basins below e that are in the set s is 0 -/
def mZ (q : Int) (w : Int → Int) (s e : Int) : Int → Int := fun i => if 4 ≤ i ∧ i < 4 + 7 * e ∧ (i - 4) % 7 = q ∧ zbit s ((i - 4) / 7) = 1 then 0 else w i
theorem mZ_ne (h : i < 4 ∨ (i - 4) % 7 ≠ q) : mZ q w s e i = w i := by simp only [mZ]; rw [if_neg (by omega)]
theorem mZ_q (hc0 : 0 ≤ c) (hq0 : 0 ≤ q) (hq : q < 7) : mZ q w s e (4 + 7 * c + q) = if c < e ∧ zbit s c = 1 then 0 else w (4 + 7 * c + q) := by
  simp only [mZ]
  rw [show (4 + 7 * c + q - 4) / 7 = c by omega]
  (repeat' split) <;> first | rfl | omega
theorem mZ_0 (hq0 : 0 ≤ q) (hq : q < 7) : mZ q w s 0 i = w i := by simp only [mZ]; rw [if_neg (by omega)]
theorem mZ_t (he0 : 0 ≤ e) (hq0 : 0 ≤ q) (hq : q < 7) (h : zbit s e = 1) : mZ q w s (e + 1) i = zup (mZ q w s e) (4 + 7 * e + q) 0 i := by
  simp only [mZ, zup]
  by_cases hi : (i - 4) / 7 = e
  · rw [hi]; (repeat' split) <;> omega
  · (repeat' split) <;> omega
theorem mZ_f (he0 : 0 ≤ e) (hq0 : 0 ≤ q) (hq : q < 7) (h : zbit s e ≠ 1) : mZ q w s (e + 1) i = mZ q w s e i := by
  simp only [mZ]
  by_cases hi : (i - 4) / 7 = e
  · rw [hi]; (repeat' split) <;> omega
  · (repeat' split) <;> omega
theorem mWf_Z (hw : mWf w) (hq : q = 2 ∨ q = 4) (he : e ≤ w 2) : mWf (mZ q w s e) := by
  have hbd := hw.2.1
  have hn := hw.1.1
  refine mWf_of hw (mZ_ne (by omega)) ?_ ?_ ?_ (fun c c0 c1 => ?_) (fun c c0 c1 => ?_) (fun c p c0 c1 q0 q1 => ?_) (fun c p c0 c1 q0 q1 => ?_)
  · rw [mZ_ne (by omega)]; exact ⟨hw.2.2.2.2.1, (hbd 0 (by decide) (by decide)).1⟩
  · rw [mZ_ne (by omega)]; exact ⟨hw.2.2.2.2.2, (hbd 1 (by decide) (by decide)).1⟩
  · rw [mZ_ne (by omega)]; exact hbd 3 (by decide) (by decide)
  · have h1 := hw.2.2.1 c c0 c1
    have h2 := hbd (4 + 7 * c + 1) (by omega) (by omega)
    rw [mZ_ne (by omega), mZ_ne (by omega), mZ_ne (by omega)]; omega
  · have h1 := hw.2.2.1 c c0 c1
    have h2 := hbd (4 + 7 * c + 2) (by omega) (by omega)
    simp only [mZ]; split <;> omega
  · have h1 := hw.1.2.1 c p c0 (by omega) q0 q1
    simp only [mZ]; split <;> omega
  · simp only [mZ]; rw [if_neg (by omega)]
theorem Hb_onZ (h : Hb N r w) (hw : mWf w) (hs0 : 0 ≤ s) (hs : s < 128) : Hb (hm_up N r 8 (zI (bsum (mFlag w 4) 7 - zand (bsum (mFlag w 4) 7) s))) r (mZ 4 w s (w 2)) := by
  obtain ⟨⟨h4, h5, h6, h8, h9, h10, a1, a2, a4⟩, h7, a3⟩ := h
  have hn := hw.1.1
  have s5 := bsum7_lt (hw.f01 (q := 4) (by decide) (by decide))
  have hd := zandn_lt s5.1 s5.2 hs0 hs
  have e8 : bsum (mFlag w 4) 7 - zand (bsum (mFlag w 4) 7) s = bsum (mFlag (mZ 4 w s (w 2)) 4) 7 := zbits_eq hd.1 hd.2 (fun c c0 c1 => by
    have e1 := zandn_b s5.1 s5.2 hs0 hs c0 c1
    have e2 := zbit_bsum (hw.f01 (q := 4) (by decide) (by decide)) c0 c1
    rw [e1, e2]
    simp only [mFlag]
    rw [mZ_q c0 (by decide) (by decide)]
    by_cases hc : c < w 2
    · simp [hc]
    · rw [hw.2.2.2.1 c 4 (by omega) (by omega) (by decide) (by decide)]; simp)
  have fl : ∀ q : Int, 5 ≤ q → q < 7 → bsum (mFlag (mZ 4 w s (w 2)) q) 7 = bsum (mFlag w q) 7 := fun q hq hq2 => bsum_congr (fun c c0 c1 => by simp only [mFlag]; exact mZ_ne (by omega))
  unfold hm_up Hb Hc Hs
  rw [hm_row_same, hm_row_ne _ _ (show r + 1 ≠ r by omega), hm_row_ne _ _ (show r + 2 ≠ r by omega), hm_row_ne _ _ (show r + 3 ≠ r by omega), hm_row_ne _ _ (show r + 4 ≠ r by omega), mZ_ne (i := 0) (by omega), mZ_ne (i := 1) (by omega), mZ_ne (i := 2) (by omega), mZ_ne (i := 3) (by omega), fl 5 (by decide) (by decide), fl 6 (by decide) (by decide), ← e8]
  refine ⟨⟨h4, h5, h6, rfl, h9, h10, ?_, ?_, ?_⟩, h7, ?_⟩
  · exact aw_eq a1 (fun c c0 c1 => (mZ_ne (by omega)).symm)
  · exact aw_eq a2 (fun c c0 c1 => (mZ_ne (by omega)).symm)
  · exact aw_eq a4 (fun c c0 c1 => (mZ_ne (by omega)).symm)
  · exact aw_eq a3 (fun c c0 c1 => (mZ_ne (by omega)).symm)
theorem pc7K : ∀ (n : Fin 8) (i : Fin 128), i.val < 2 ^ n.val → pc7 (i.val : Int) ≤ (n.val : Int) := by decide +kernel
theorem pc7_le (hn0 : 0 ≤ n) (hn : n ≤ 7) (hs0 : 0 ≤ s) (hs : s < 2 ^ n.toNat) : pc7 s ≤ n := by
  have hp : (2 : Int) ^ n.toNat ≤ 2 ^ 7 := by exact_mod_cast Nat.pow_le_pow_right (n := 2) (by decide) (show n.toNat ≤ 7 by omega)
  have h := pc7K ⟨n.toNat, by omega⟩ ⟨s.toNat, by omega⟩ (by
    simp only
    have : ((s.toNat : Nat) : Int) < ((2 ^ n.toNat : Nat) : Int) := by push_cast; omega
    exact_mod_cast this)
  simp only at h
  rw [show ((s.toNat : Nat) : Int) = s by omega, show ((n.toNat : Nat) : Int) = n by omega] at h
  exact h
theorem p2_bd (hn : n ≤ 7) : (1 : Int) ≤ 2 ^ n.toNat ∧ (2 : Int) ^ n.toNat ≤ 128 := by
  have hp : (2 : Int) ^ n.toNat ≤ 2 ^ 7 := by exact_mod_cast Nat.pow_le_pow_right (n := 2) (by decide) (show n.toNat ≤ 7 by omega)
  have h0 : (0 : Int) < 2 ^ n.toNat := Int.pow_pos (by decide)
  omega
/-! off -/
def oCd (w : Int → Int) (n s best : Int) : Prop := (best = -1000000 ∨ pc7 s < pc7 best) ∧ mNone w (mZ 4 w s (w 2)) n
noncomputable def aO (w : Int → Int) (n : Int) : Nat → Int → Int → Int
  | 0, _, best => best
  | m + 1, s, best => aO w n m (s + 1) (@ite Int (oCd w n s best) (Classical.propDecidable _) s best)
theorem aO_t {m : Nat} {s best : Int} (h : oCd w n s best) : aO w n (m + 1) s best = aO w n m (s + 1) s := by simp [aO, h]
theorem aO_f {m : Nat} {s best : Int} (h : ¬ oCd w n s best) : aO w n (m + 1) s best = aO w n m (s + 1) best := by simp [aO, h]
noncomputable def aOs (w : Int → Int) (n : Int) : Int := aO w n ((2 : Int) ^ (w 2).toNat).toNat 0 (-1000000)
noncomputable def aOff (w : Int → Int) (n y : Int) : Int := if w 2 = 0 then -1000002 else if 1 ≤ n ∧ n ≤ 30 ∧ 0 ≤ y ∧ y ≤ 1 then (if aOs w n = -1000000 ∨ y = 1 then aOs w n else pc7 (aOs w n)) else -1000001
theorem aOff_y (h2 : w 2 ≠ 0) (hc : 1 ≤ n ∧ n ≤ 30 ∧ 0 ≤ y ∧ y ≤ 1) : aOff w n y = (if aOs w n = -1000000 ∨ y = 1 then aOs w n else pc7 (aOs w n)) := by unfold aOff; rw [if_neg h2, if_pos hc]
def oOk (z : Int) : Prop := z = -1000000 ∨ (0 ≤ z ∧ z < 128)
theorem c_fewestOff (h : Hb M 7 w) (hw : mWf w) (h3 : w 3 ≤ 9999) (hn0 : 1 ≤ n) (hn : n ≤ 30) (kk : oOk (aOs w n) → ∀ (M' : hm_M), FT M M' → Q (some (.inl (zI (aOs w n)))) M') : hm_Wp (d + 5) 15 0 [some (.inr (.inr 21)), some (.inl (zI n)), none, none, none] [] M Q := by
  have hn2 := hw.1.1
  have h40 := h.1.1
  have hP := p2_bd (n := w 2) hn2.2
  generalize hPe : (2 : Int) ^ (w 2).toNat = P at hP
  have hA : aO w n P.toNat 0 (-1000000) = aOs w n := by unfold aOs; rw [hPe]
  have L : ∀ (m : Nat) (s best fw : Int) (N : hm_M), 0 ≤ s → s + m = P → FT M N → ((best = -1000000 ∧ fw = w 2 + 1) ∨ (0 ≤ best ∧ best < 128 ∧ fw = pc7 best)) → aO w n m s best = aOs w n → hm_Wp (d + 5) 15 16 [some (.inr (.inr 21)), some (.inl (zI n)), some (.inl (zI best)), some (.inl (zI fw)), some (.inl (zI s))] [] N Q := by
    intro m
    induction m with
    | zero =>
      intro s best fw N hs0 hsm hft hbf heq
      have h4 := (h.ft hft).1.1
      simp only [aO] at heq
      have hpb := pc7_bd best
      have kq := kk (by rw [← heq]; unfold oOk; omega) N hft
      rw [← heq] at kq
      refine q_iload gg15_16 rfl ?_
      refine z_const gg15_18 (v := 1) rfl ?_
      refine q_aload gg15_19 rfl ?_
      refine q_getr gg15_20 rfl ?_
      first | refine z_getf gg15_23 rfl (by assumption) ?_ | refine q_getf gg15_23 rfl ?_
      first | refine z_ishl gg15_26 (by omega) (by omega) (by omega) (by omega) ?_ | refine z_ishl7 gg15_26 (by omega) (by omega) (fun s26 es26 => ?_) | refine q_ishl gg15_26 ?_
      refine z_icmpge gg15_27 (tg := 82) rfl (by omega) (by omega) (fun c1 => ?_) (fun z => absurd z (by omega))
      refine q_iload gg15_82 rfl ?_
      refine q_iret gg15_83 ?_
      exact kq
    | succ m ih =>
      intro s best fw N hs0 hsm hft hbf heq
      have h4 := (h.ft hft).1.1
      have hpb := pc7_bd best
      have hps := pc7_bd s
      have hpl := pc7_le (n := w 2) (s := s) hn2.1 hn2.2 hs0 (by rw [hPe]; omega)
      have hwx := mWf_Z (q := 4) (s := s) hw (by omega) (Int.le_refl _)
      have hx3 : mZ 4 w s (w 2) 3 = w 3 := mZ_ne (by omega)
      have t8 := bsum7_lt (hw.f01 (q := 4) (by decide) (by decide))
      refine q_iload gg15_16 rfl ?_
      refine z_const gg15_18 (v := 1) rfl ?_
      refine q_aload gg15_19 rfl ?_
      refine q_getr gg15_20 rfl ?_
      first | refine z_getf gg15_23 rfl (by assumption) ?_ | refine q_getf gg15_23 rfl ?_
      first | refine z_ishl gg15_26 (by omega) (by omega) (by omega) (by omega) ?_ | refine z_ishl7 gg15_26 (by omega) (by omega) (fun s26 es26 => ?_) | refine q_ishl gg15_26 ?_
      refine z_icmpge gg15_27 (tg := 82) rfl (by omega) (by omega) (fun z => absurd z (by omega)) (fun c1 => ?_)
      refine q_iload gg15_30 rfl ?_
      refine q_call1 gg15_32 tt207 rfl (Nat.le_of_ble_eq_true rfl) rfl (ls' := [some _]) rfl rfl ?_
      refine c_bc hs0 (by omega) ?_
      show hm_Wp _ _ _ _ (_ :: _) _ _
      refine q_iload gg15_35 rfl ?_
      refine z_icmpge gg15_36 (tg := 76) rfl (by omega) (by omega) (fun c2 => ?_) (fun c2 => ?_)
      · try (exfalso; omega)
        all_goals (
          refine z_iinc gg15_76 rfl rfl ?_
          refine q_goto gg15_79 (tg := 16) rfl ?_
          first | (refine ih (s + 1) s (pc7 s) M2 (by omega) (by omega) hft2 (by omega) ?_; rw [← heq, aO_t ⟨by omega, hN⟩]; done) | (refine ih (s + 1) best fw M2 (by omega) (by omega) hft2 hbf ?_; rw [← heq, aO_f (fun z => hN z.2)]; done) | (refine ih (s + 1) best fw N (by omega) (by omega) hft hbf ?_; rw [← heq, aO_f (fun z => by have := z.1; omega)]; done)
        )
      · try (exfalso; omega)
        all_goals (
          refine q_aload gg15_39 rfl ?_
          refine q_call1 gg15_40 tt27 rfl (Nat.le_of_ble_eq_true rfl) (hm_rv (by decide +kernel)) (ls' := [some _]) rfl rfl ?_
          refine c_beginTrial (h.ft hft) hw (fun M1 h1 h17 hft1 => ?_)
          have hH := Hb_onZ h1 hw hs0 (show s < 128 by omega)
          have g8 := h1.1.2.2.2.1
          show hm_Wp _ _ _ _ _ _ _
          refine q_aload gg15_43 rfl ?_
          refine q_getr gg15_44 rfl ?_
          refine q_dup gg15_47 rfl ?_
          first | refine z_getf gg15_48 rfl (by assumption) ?_ | refine q_getf gg15_48 rfl ?_
          refine q_iload gg15_51 rfl ?_
          refine z_neg gg15_53 ?_
          first | refine z_inot gg15_54 (by omega) (by omega) ?_ | refine q_ixor gg15_54 ?_
          first | refine z_iand1 gg15_55 (by omega) (by omega) ?_ | refine z_iandn gg15_55 (by omega) (by omega) (by omega) (by omega) ?_ | refine q_iand gg15_55 ?_
          refine q_putf gg15_56 rfl ?_
          refine q_aload gg15_59 rfl ?_
          refine q_iload gg15_60 rfl ?_
          refine q_call2 gg15_61 tt30 rfl (Nat.le_of_ble_eq_true rfl) (hm_rv (by decide +kernel)) (ls' := [some _, some _, none, none]) rfl rfl ?_
          refine c_trialBurstsNone hH hwx h17 hw (fun b b0 b1 => mZ_ne (by omega)) (by omega) (by omega) (by omega) (fun hN M2 hfr => ?_) (fun hN M2 hfr => ?_)
          all_goals (have hft2 : FT M M2 := (hft.tr hft1).tr (FT.tr (Fr.row (r := 22) (q := 22) (M := M1) (by decide) (by decide)).ft hfr.ft))
          · show hm_Wp _ _ _ _ (_ :: _) _ _
            refine z_ifeq gg15_64 (tg := 76) rfl (by decide) (fun z => absurd z (by decide)) (fun _ => ?_)
            refine q_iload gg15_67 rfl ?_
            refine q_istore gg15_69 rfl ?_
            refine q_iload gg15_70 rfl ?_
            refine q_call1 gg15_72 tt207 rfl (Nat.le_of_ble_eq_true rfl) rfl (ls' := [some _]) rfl rfl ?_
            refine c_bc hs0 (by omega) ?_
            show hm_Wp _ _ _ _ (_ :: _) _ _
            refine q_istore gg15_75 rfl ?_
            refine z_iinc gg15_76 rfl rfl ?_
            refine q_goto gg15_79 (tg := 16) rfl ?_
            first | (refine ih (s + 1) s (pc7 s) M2 (by omega) (by omega) hft2 (by omega) ?_; rw [← heq, aO_t ⟨by omega, hN⟩]; done) | (refine ih (s + 1) best fw M2 (by omega) (by omega) hft2 hbf ?_; rw [← heq, aO_f (fun z => hN z.2)]; done) | (refine ih (s + 1) best fw N (by omega) (by omega) hft hbf ?_; rw [← heq, aO_f (fun z => by have := z.1; omega)]; done)
          · show hm_Wp _ _ _ _ (_ :: _) _ _
            refine z_ifeq gg15_64 (tg := 76) rfl (by decide) (fun _ => ?_) (fun z => absurd z (by decide))
            refine z_iinc gg15_76 rfl rfl ?_
            refine q_goto gg15_79 (tg := 16) rfl ?_
            first | (refine ih (s + 1) s (pc7 s) M2 (by omega) (by omega) hft2 (by omega) ?_; rw [← heq, aO_t ⟨by omega, hN⟩]; done) | (refine ih (s + 1) best fw M2 (by omega) (by omega) hft2 hbf ?_; rw [← heq, aO_f (fun z => hN z.2)]; done) | (refine ih (s + 1) best fw N (by omega) (by omega) hft hbf ?_; rw [← heq, aO_f (fun z => by have := z.1; omega)]; done)
        )
  refine z_neg gg15_0 ?_
  refine q_istore gg15_2 rfl ?_
  refine q_aload gg15_3 rfl ?_
  refine q_getr gg15_4 rfl ?_
  first | refine z_getf gg15_7 rfl (by assumption) ?_ | refine q_getf gg15_7 rfl ?_
  refine z_const gg15_10 (v := 1) rfl ?_
  first | refine z_iadd gg15_11 ?_ | refine q_iadd gg15_11 ?_
  refine q_istore gg15_12 rfl ?_
  refine z_const gg15_13 (v := 0) rfl ?_
  refine q_istore gg15_14 rfl ?_
  exact L P.toNat 0 (-1000000) (w 2 + 1) M (by decide) (by omega) FT.rf (by omega) hA
theorem c_off (hz : zR n) (hy : zR y) (h : Hb M 7 w) (hw : mWf w) (h3 : w 3 ≤ 9999) (kk : ∀ (M' : hm_M), FT M M' → Q (some (.inl (zI (aOff w n y)))) M') : hm_Wp (d + 6) 105 0 [some (.inr (.inr 0)), some (.inl (zI n)), some (.inl (zI y)), none] [] M Q := by
  have hn := hw.1.1
  have h4 := h.1.1
  unfold zR at hz hy
  refine q_aload gg105_0 rfl ?_
  refine q_getr gg105_1 rfl ?_
  refine q_call1 gg105_4 tt31 rfl (Nat.le_of_ble_eq_true rfl) (hm_rv (by decide +kernel)) (ls' := [some _]) rfl rfl ?_
  refine q_aload gg31_0 rfl ?_
  first | refine z_getf gg31_1 rfl (by assumption) ?_ | refine q_getf gg31_1 rfl ?_
  refine z_ifne gg31_4 (tg := 11) rfl (by omega) (fun c1 => ?_) (fun c1 => ?_)
  · try (exfalso; omega)
    all_goals (
      refine z_const gg31_11 (v := 0) rfl ?_
      refine z_zretC gg31_12 (by omega) ?_
      refine z_ifeq gg105_7 (tg := 13) rfl (by decide) (fun _ => ?_) (fun z => absurd z (by decide))
      refine q_iload gg105_13 rfl ?_
      refine q_call1 gg105_14 tt123 rfl (Nat.le_of_ble_eq_true rfl) rfl (ls' := [some _]) rfl rfl ?_
      refine q_iload gg123_0 rfl ?_
      refine z_const gg123_1 (v := 1) rfl ?_
      refine z_icmplt gg123_2 (tg := 15) rfl (by omega) (by omega) (fun c2 => ?_) (fun c2 => ?_)
      · try (exfalso; omega)
        all_goals (
          refine z_const gg123_15 (v := 0) rfl ?_
          refine z_zretC gg123_16 (by omega) ?_
          refine z_ifeq gg105_17 (tg := 27) rfl (by decide) (fun _ => ?_) (fun z => absurd z (by decide))
          refine z_neg gg105_27 ?_
          refine q_iret gg105_29 ?_
          refine qv ?_ (kk _ FT.rf)
          unfold aOff
          rw [if_neg (by omega), if_neg (by omega)]
        )
      · try (exfalso; omega)
        all_goals (
          refine q_iload gg123_5 rfl ?_
          refine z_const gg123_6 (v := 30) rfl ?_
          refine z_icmpgt gg123_8 (tg := 15) rfl (by omega) (by omega) (fun c3 => ?_) (fun c3 => ?_)
          · try (exfalso; omega)
            all_goals (
              refine z_const gg123_15 (v := 0) rfl ?_
              refine z_zretC gg123_16 (by omega) ?_
              refine z_ifeq gg105_17 (tg := 27) rfl (by decide) (fun _ => ?_) (fun z => absurd z (by decide))
              refine z_neg gg105_27 ?_
              refine q_iret gg105_29 ?_
              refine qv ?_ (kk _ FT.rf)
              unfold aOff
              rw [if_neg (by omega), if_neg (by omega)]
            )
          · try (exfalso; omega)
            all_goals (
              refine z_const gg123_11 (v := 1) rfl ?_
              refine q_goto gg123_12 (tg := 16) rfl ?_
              refine z_zretC gg123_16 (by omega) ?_
              refine z_ifeq gg105_17 (tg := 27) rfl (by decide) (fun z => absurd z (by decide)) (fun _ => ?_)
              refine q_iload gg105_20 rfl ?_
              refine q_call1 gg105_21 tt122 rfl (Nat.le_of_ble_eq_true rfl) rfl (ls' := [some _]) rfl rfl ?_
              refine q_iload gg122_0 rfl ?_
              refine z_ifeq gg122_1 (tg := 9) rfl (by omega) (fun c4 => ?_) (fun c4 => ?_)
              · try (exfalso; omega)
                all_goals (
                  refine z_const gg122_9 (v := 1) rfl ?_
                  refine q_goto gg122_10 (tg := 14) rfl ?_
                  refine z_zretC gg122_14 (by omega) ?_
                  refine z_ifne gg105_24 (tg := 30) rfl (by decide) (fun _ => ?_) (fun z => absurd z (by decide))
                  refine q_aload gg105_30 rfl ?_
                  refine q_getr gg105_31 rfl ?_
                  refine q_iload gg105_34 rfl ?_
                  refine q_call2 gg105_35 tt15 rfl (Nat.le_of_ble_eq_true rfl) (hm_rv (by decide +kernel)) (ls' := [some _, some _, none, none, none]) rfl rfl ?_
                  refine c_fewestOff h hw h3 (by omega) (by omega) (fun hok M1 hft => ?_)
                  unfold oOk at hok
                  show hm_Wp _ _ _ _ (_ :: _) _ _
                  refine q_istore gg105_38 rfl ?_
                  refine q_iload gg105_39 rfl ?_
                  refine z_neg gg105_40 ?_
                  refine z_icmpeq gg105_42 (tg := 50) rfl (by omega) (by omega) (fun c5 => ?_) (fun c5 => ?_)
                  · try (exfalso; omega)
                    all_goals (
                      refine q_iload gg105_50 rfl ?_
                      refine q_goto gg105_51 (tg := 58) rfl ?_
                      refine q_iret gg105_58 ?_
                      refine qv ?_ (kk _ hft)
                      rw [aOff_y (by omega) (by omega)]
                      (repeat' split) <;> first | rfl | omega
                    )
                  · try (exfalso; omega)
                    all_goals (
                      refine q_iload gg105_45 rfl ?_
                      refine z_const gg105_46 (v := 1) rfl ?_
                      refine z_icmpne gg105_47 (tg := 54) rfl (by omega) (by omega) (fun c6 => ?_) (fun c6 => ?_)
                      · try (exfalso; omega)
                        all_goals (
                          refine q_iload gg105_54 rfl ?_
                          refine q_call1 gg105_55 tt207 rfl (Nat.le_of_ble_eq_true rfl) rfl (ls' := [some _]) rfl rfl ?_
                          refine c_bc (by omega) (by omega) ?_
                          show hm_Wp _ _ _ _ (_ :: _) _ _
                          refine q_iret gg105_58 ?_
                          refine qv ?_ (kk _ hft)
                          rw [aOff_y (by omega) (by omega)]
                          (repeat' split) <;> first | rfl | omega
                        )
                      · try (exfalso; omega)
                        all_goals (
                          refine q_iload gg105_50 rfl ?_
                          refine q_goto gg105_51 (tg := 58) rfl ?_
                          refine q_iret gg105_58 ?_
                          refine qv ?_ (kk _ hft)
                          rw [aOff_y (by omega) (by omega)]
                          (repeat' split) <;> first | rfl | omega
                        )
                    )
                )
              · try (exfalso; omega)
                all_goals (
                  refine q_iload gg122_4 rfl ?_
                  refine z_const gg122_5 (v := 1) rfl ?_
                  refine z_icmpne gg122_6 (tg := 13) rfl (by omega) (by omega) (fun c5 => ?_) (fun c5 => ?_)
                  · try (exfalso; omega)
                    all_goals (
                      refine z_const gg122_13 (v := 0) rfl ?_
                      refine z_zretC gg122_14 (by omega) ?_
                      refine z_ifne gg105_24 (tg := 30) rfl (by decide) (fun z => absurd z (by decide)) (fun _ => ?_)
                      refine z_neg gg105_27 ?_
                      refine q_iret gg105_29 ?_
                      refine qv ?_ (kk _ FT.rf)
                      unfold aOff
                      rw [if_neg (by omega), if_neg (by omega)]
                    )
                  · try (exfalso; omega)
                    all_goals (
                      refine z_const gg122_9 (v := 1) rfl ?_
                      refine q_goto gg122_10 (tg := 14) rfl ?_
                      refine z_zretC gg122_14 (by omega) ?_
                      refine z_ifne gg105_24 (tg := 30) rfl (by decide) (fun _ => ?_) (fun z => absurd z (by decide))
                      refine q_aload gg105_30 rfl ?_
                      refine q_getr gg105_31 rfl ?_
                      refine q_iload gg105_34 rfl ?_
                      refine q_call2 gg105_35 tt15 rfl (Nat.le_of_ble_eq_true rfl) (hm_rv (by decide +kernel)) (ls' := [some _, some _, none, none, none]) rfl rfl ?_
                      refine c_fewestOff h hw h3 (by omega) (by omega) (fun hok M1 hft => ?_)
                      unfold oOk at hok
                      show hm_Wp _ _ _ _ (_ :: _) _ _
                      refine q_istore gg105_38 rfl ?_
                      refine q_iload gg105_39 rfl ?_
                      refine z_neg gg105_40 ?_
                      refine z_icmpeq gg105_42 (tg := 50) rfl (by omega) (by omega) (fun c6 => ?_) (fun c6 => ?_)
                      · try (exfalso; omega)
                        all_goals (
                          refine q_iload gg105_50 rfl ?_
                          refine q_goto gg105_51 (tg := 58) rfl ?_
                          refine q_iret gg105_58 ?_
                          refine qv ?_ (kk _ hft)
                          rw [aOff_y (by omega) (by omega)]
                          (repeat' split) <;> first | rfl | omega
                        )
                      · try (exfalso; omega)
                        all_goals (
                          refine q_iload gg105_45 rfl ?_
                          refine z_const gg105_46 (v := 1) rfl ?_
                          refine z_icmpne gg105_47 (tg := 54) rfl (by omega) (by omega) (fun c7 => ?_) (fun c7 => ?_)
                          · try (exfalso; omega)
                            all_goals (
                              refine q_iload gg105_54 rfl ?_
                              refine q_call1 gg105_55 tt207 rfl (Nat.le_of_ble_eq_true rfl) rfl (ls' := [some _]) rfl rfl ?_
                              refine c_bc (by omega) (by omega) ?_
                              show hm_Wp _ _ _ _ (_ :: _) _ _
                              refine q_iret gg105_58 ?_
                              refine qv ?_ (kk _ hft)
                              rw [aOff_y (by omega) (by omega)]
                              (repeat' split) <;> first | rfl | omega
                            )
                          · try (exfalso; omega)
                            all_goals (
                              refine q_iload gg105_50 rfl ?_
                              refine q_goto gg105_51 (tg := 58) rfl ?_
                              refine q_iret gg105_58 ?_
                              refine qv ?_ (kk _ hft)
                              rw [aOff_y (by omega) (by omega)]
                              (repeat' split) <;> first | rfl | omega
                            )
                        )
                    )
                )
            )
        )
    )
  · try (exfalso; omega)
    all_goals (
      refine z_const gg31_7 (v := 1) rfl ?_
      refine q_goto gg31_8 (tg := 12) rfl ?_
      refine z_zretC gg31_12 (by omega) ?_
      refine z_ifeq gg105_7 (tg := 13) rfl (by decide) (fun z => absurd z (by decide)) (fun _ => ?_)
      refine z_neg gg105_10 ?_
      refine q_iret gg105_12 ?_
      refine qv ?_ (kk _ FT.rf)
      unfold aOff
      rw [if_pos (by omega)]
    )
theorem r_off (hz : zR n) (hy : zR y) (hf : aw (M 36) 53 0 20000 w) (hw : mWf w) (hc : w 2 = 0 ↔ w 1 = 0) (h3 : w 3 ≤ 9999) (kk : ∀ (M' : hm_M), FR M M' → Q (some (.inl (zI (aOff w n y)))) M') : hm_Wp (d + 6) 183 0 [some (.inr (.inr 30)), some (.inl (zI n)), some (.inl (zI y)), none, none, none, none] [] M Q := by
  have hn2 := hw.1.1
  unfold zR at hz hy
  have hP := p2_bd (n := w 2) hn2.2
  generalize hPe : (2 : Int) ^ (w 2).toNat = P at hP
  have hA : aO w n P.toNat 0 (-1000000) = aOs w n := by unfold aOs; rw [hPe]
  have L : w 2 ≠ 0 → 1 ≤ n → n ≤ 30 → 0 ≤ y → y ≤ 1 → ∀ (m : Nat) (s best : Int) (N : hm_M) (x5 x6 : Option hm_V), hm_free [some (.inr (.inr 30)), some (.inl (zI n)), some (.inl (zI y)), some (.inl (zI best)), some (.inl (zI s)), x5, x6] 5 = true → hm_free [some (.inr (.inr 30)), some (.inl (zI n)), some (.inl (zI y)), some (.inl (zI best)), some (.inl (zI s)), x5, x6] 6 = true → 0 ≤ s → s + m = P → FR M N → oOk best → aO w n m s best = aOs w n → hm_Wp (d + 6) 183 35 [some (.inr (.inr 30)), some (.inl (zI n)), some (.inl (zI y)), some (.inl (zI best)), some (.inl (zI s)), x5, x6] [] N Q := by
    intro hw2 hn1 hn30 hy0 hy1 m
    have hB := aOff_y (n := n) (y := y) hw2 ⟨hn1, hn30, hy0, hy1⟩
    induction m with
    | zero =>
      intro s best N x5 x6 hx5 hx6 hs0 hsm hft hok heq
      have h36 : aw (N 36) 53 0 20000 w := by rw [hft 36 (by decide)]; exact hf
      simp only [aO] at heq
      have kq := kk N hft
      rw [hB, ← heq] at kq
      unfold oOk at hok
      refine q_iload gg183_35 rfl ?_
      refine z_const gg183_37 (v := 1) rfl ?_
      refine q_aload gg183_38 rfl ?_
      refine q_getr gg183_39 rfl ?_
      refine z_const gg183_42 (v := 2) rfl ?_
      first | refine z_alr gg183_43 (by first | rfl | assumption) (by assumption) (by omega) (by omega) (by omega) (by decide) (fun v43 ev43 lv43 uv43 => ?_) | refine z_alx gg183_43 rfl (by assumption) (by omega) (by omega) (by omega) (by decide) (fun v43 ev43 lv43 uv43 => ?_) <;> (try dsimp only at ev43)
      subst ev43
      first | refine z_ishl gg183_44 (by omega) (by omega) (by omega) (by omega) ?_ | refine z_ishl7 gg183_44 (by omega) (by omega) (fun s44 es44 => ?_) | refine q_ishl gg183_44 ?_
      refine z_icmpge gg183_45 (tg := 174) rfl (by omega) (by omega) (fun c1 => ?_) (fun z => absurd z (by omega))
      refine q_iload gg183_174 rfl ?_
      refine z_neg gg183_175 ?_
      refine z_icmpeq gg183_177 (tg := 185) rfl (by omega) (by omega) (fun c2 => ?_) (fun c2 => ?_)
      · try (exfalso; omega)
        all_goals (
          refine q_iload gg183_185 rfl ?_
          refine q_goto gg183_186 (tg := 193) rfl ?_
          refine q_iret gg183_193 ?_
          refine qv ?_ kq
          (repeat' split) <;> first | rfl | omega
        )
      · try (exfalso; omega)
        all_goals (
          refine q_iload gg183_180 rfl ?_
          refine z_const gg183_181 (v := 1) rfl ?_
          refine z_icmpne gg183_182 (tg := 189) rfl (by omega) (by omega) (fun c3 => ?_) (fun c3 => ?_)
          · try (exfalso; omega)
            all_goals (
              refine q_iload gg183_189 rfl ?_
              refine q_call1 gg183_190 tt126 rfl (Nat.le_of_ble_eq_true rfl) rfl (ls' := [some _, none, none]) rfl rfl ?_
              refine r_ones (by omega) (by omega) ?_
              show hm_Wp _ _ _ _ (_ :: _) _ _
              refine q_iret gg183_193 ?_
              refine qv ?_ kq
              (repeat' split) <;> first | rfl | omega
            )
          · try (exfalso; omega)
            all_goals (
              refine q_iload gg183_185 rfl ?_
              refine q_goto gg183_186 (tg := 193) rfl ?_
              refine q_iret gg183_193 ?_
              refine qv ?_ kq
              (repeat' split) <;> first | rfl | omega
            )
        )
    | succ m ih =>
      intro s best N x5 x6 hx5 hx6 hs0 hsm hft hok heq
      have h36 : aw (N 36) 53 0 20000 w := by rw [hft 36 (by decide)]; exact hf
      have hpb := pc7_bd best
      have hps := pc7_bd s
      have hwx := mWf_Z (q := 4) (s := s) hw (by omega) (Int.le_refl _)
      have hx3 : mZ 4 w s (w 2) 3 = w 3 := mZ_ne (by omega)
      have L1 : (best = -1000000 ∨ pc7 s < pc7 best) → ∀ (m' : Nat) (c : Int) (f : Nat → Int32), 0 ≤ c → c + m' = w 2 → aw f 53 0 20000 (mZ 4 w s c) → hm_Wp (d + 6) 183 94 [some (.inr (.inr 30)), some (.inl (zI n)), some (.inl (zI y)), some (.inl (zI best)), some (.inl (zI s)), some (.inl (zI 1)), some (.inl (zI c))] [] (hm_row N 38 f) Q := by
        intro hcd m'
        induction m' with
        | zero =>
          intro c f hc0 hcm hf1
          have hr2 : aw (hm_row N 38 f 36) 53 0 20000 w := by rw [hm_row_ne _ _ (by decide)]; exact h36
          rw [show c = w 2 by omega] at hf1
          unfold oOk at hok
          refine q_iload gg183_94 rfl ?_
          refine q_aload gg183_96 rfl ?_
          refine q_getr gg183_97 rfl ?_
          refine z_const gg183_100 (v := 2) rfl ?_
          first | refine z_alr gg183_101 (by first | rfl | assumption) (by assumption) (by omega) (by omega) (by omega) (by decide) (fun v101 ev101 lv101 uv101 => ?_) | refine z_alx gg183_101 rfl (by assumption) (by omega) (by omega) (by omega) (by decide) (fun v101 ev101 lv101 uv101 => ?_) <;> (try dsimp only at ev101)
          refine z_icmpge gg183_102 (tg := 153) rfl (by omega) (by omega) (fun c1 => ?_) (fun z => absurd z (by omega))
          refine q_aload gg183_153 rfl ?_
          refine q_iload gg183_154 rfl ?_
          refine q_call2 gg183_155 tt182 rfl (Nat.le_of_ble_eq_true rfl) (hm_rv (by decide +kernel)) (ls' := [some _, some _]) rfl rfl ?_
          refine r_noneBursts hf1 hwx h36 hw (by omega) (by omega) (by omega) (fun hN f2 => ?_) (fun hN f2 => ?_)
          all_goals (have hft2 : FR M (hm_row N 38 f2) := fun k hk => (FR.row k hk).trans (hft k hk))
          · show hm_Wp _ _ _ _ (_ :: _) _ _
            refine z_ifeq gg183_158 (tg := 166) rfl (by decide) (fun z => absurd z (by decide)) (fun _ => ?_)
            refine q_iload gg183_161 rfl ?_
            refine q_goto gg183_163 (tg := 167) rfl ?_
            refine q_istore gg183_167 rfl ?_
            refine z_iinc gg183_168 rfl rfl ?_
            refine q_goto gg183_171 (tg := 35) rfl ?_
            first | (refine ih (s + 1) s _ _ _ rfl rfl (by omega) (by omega) hft2 (by unfold oOk; omega) ?_; rw [← heq, aO_t ⟨by omega, hN⟩]; done) | (refine ih (s + 1) best _ _ _ rfl rfl (by omega) (by omega) hft2 hok ?_; rw [← heq, aO_f (fun z => hN z.2)]; done)
          · show hm_Wp _ _ _ _ (_ :: _) _ _
            refine z_ifeq gg183_158 (tg := 166) rfl (by decide) (fun _ => ?_) (fun z => absurd z (by decide))
            refine q_iload gg183_166 rfl ?_
            refine q_istore gg183_167 rfl ?_
            refine z_iinc gg183_168 rfl rfl ?_
            refine q_goto gg183_171 (tg := 35) rfl ?_
            first | (refine ih (s + 1) s _ _ _ rfl rfl (by omega) (by omega) hft2 (by unfold oOk; omega) ?_; rw [← heq, aO_t ⟨by omega, hN⟩]; done) | (refine ih (s + 1) best _ _ _ rfl rfl (by omega) (by omega) hft2 hok ?_; rw [← heq, aO_f (fun z => hN z.2)]; done)
        | succ m' ih' =>
          intro c f hc0 hcm hf1
          have hr2 : aw (hm_row N 38 f 36) 53 0 20000 w := by rw [hm_row_ne _ _ (by decide)]; exact h36
          have hzb : zbit s c = s / 2 ^ c.toNat % 2 := rfl
          have hz01 := zbit_01 s c
          have hon := hw.1.2.1 c 4 hc0 (by omega) (by decide) (by decide)
          refine q_iload gg183_94 rfl ?_
          refine q_aload gg183_96 rfl ?_
          refine q_getr gg183_97 rfl ?_
          refine z_const gg183_100 (v := 2) rfl ?_
          first | refine z_alr gg183_101 (by first | rfl | assumption) (by assumption) (by omega) (by omega) (by omega) (by decide) (fun v101 ev101 lv101 uv101 => ?_) | refine z_alx gg183_101 rfl (by assumption) (by omega) (by omega) (by omega) (by decide) (fun v101 ev101 lv101 uv101 => ?_) <;> (try dsimp only at ev101)
          refine z_icmpge gg183_102 (tg := 153) rfl (by omega) (by omega) (fun z => absurd z (by omega)) (fun c1 => ?_)
          refine q_aload gg183_105 rfl ?_
          refine q_getr gg183_106 rfl ?_
          refine z_const gg183_109 (v := 4) rfl ?_
          refine z_const gg183_110 (v := 7) rfl ?_
          refine q_iload gg183_112 rfl ?_
          first | refine z_imul gg183_114 ?_ | refine q_imul gg183_114 ?_
          first | refine z_iadd gg183_115 ?_ | refine q_iadd gg183_115 ?_
          refine z_const gg183_116 (v := 4) rfl ?_
          first | refine z_iadd gg183_117 ?_ | refine q_iadd gg183_117 ?_
          refine q_iload gg183_118 rfl ?_
          refine q_iload gg183_120 rfl ?_
          refine q_call2 gg183_122 tt125 rfl (Nat.le_of_ble_eq_true rfl) rfl (ls' := [some _, some _]) rfl rfl ?_
          refine q_iload gg125_0 rfl ?_
          refine q_iload gg125_1 rfl ?_
          first | refine z_ishr gg125_2 (by omega) (by omega) (by omega) (by omega) (fun shas_2 eshas_2 lshas_2 ushas_2 => ?_) | refine q_ishr gg125_2 ?_
          refine z_const gg125_3 (v := 1) rfl ?_
          first | refine z_iand1 gg125_4 (by omega) (by omega) ?_ | refine z_iandn gg125_4 (by omega) (by omega) (by omega) (by omega) ?_ | refine q_iand gg125_4 ?_
          refine z_const gg125_5 (v := 1) rfl ?_
          refine z_icmpne gg125_6 (tg := 13) rfl (by omega) (by omega) (fun c2 => ?_) (fun c2 => ?_)
          · try (exfalso; omega)
            all_goals (
              refine z_const gg125_13 (v := 0) rfl ?_
              refine z_zretC gg125_14 (by omega) ?_
              refine z_ifeq gg183_125 (tg := 132) rfl (by decide) (fun _ => ?_) (fun z => absurd z (by decide))
              refine q_aload gg183_132 rfl ?_
              refine q_getr gg183_133 rfl ?_
              refine z_const gg183_136 (v := 4) rfl ?_
              refine z_const gg183_137 (v := 7) rfl ?_
              refine q_iload gg183_139 rfl ?_
              first | refine z_imul gg183_141 ?_ | refine q_imul gg183_141 ?_
              first | refine z_iadd gg183_142 ?_ | refine q_iadd gg183_142 ?_
              refine z_const gg183_143 (v := 4) rfl ?_
              first | refine z_iadd gg183_144 ?_ | refine q_iadd gg183_144 ?_
              first | refine z_alr gg183_145 (by first | rfl | assumption) (by assumption) (by omega) (by omega) (by omega) (by decide) (fun v145 ev145 lv145 uv145 => ?_) | refine z_alx gg183_145 rfl (by assumption) (by omega) (by omega) (by omega) (by decide) (fun v145 ev145 lv145 uv145 => ?_) <;> (try dsimp only at ev145)
              first | refine z_asr gg183_146 (by first | rfl | assumption) (by assumption) (by omega) (by omega) (by decide) (by omega) (by omega) (fun f146 h146 => ?_) | refine z_asx gg183_146 rfl (by omega) (by omega) (by decide) ?_
              refine z_iinc gg183_147 rfl rfl ?_
              refine q_goto gg183_150 (tg := 94) rfl ?_
              refine ih' (c + 1) _ (by omega) (by omega) ?_
              first
              | (refine aw_eq h146 (fun i i0 i1 => ?_)
                 rw [mZ_t hc0 (by decide) (by decide) (by omega)])
              | (refine aw_eq h146 (fun i i0 i1 => ?_)
                 rw [mZ_f hc0 (by decide) (by decide) (by omega)]
                 have hq := mZ_q (w := w) (s := s) (e := c) (q := 4) hc0 (by decide) (by decide)
                 rw [if_neg (by omega)] at hq
                 by_cases hi : i = 4 + 7 * c + 4
                 · subst hi; simp [zup]; omega
                 · simp [zup, hi])
            )
          · try (exfalso; omega)
            all_goals (
              refine z_const gg125_9 (v := 1) rfl ?_
              refine q_goto gg125_10 (tg := 14) rfl ?_
              refine z_zretC gg125_14 (by omega) ?_
              refine z_ifeq gg183_125 (tg := 132) rfl (by decide) (fun z => absurd z (by decide)) (fun _ => ?_)
              refine z_const gg183_128 (v := 0) rfl ?_
              refine q_goto gg183_129 (tg := 146) rfl ?_
              first | refine z_asr gg183_146 (by first | rfl | assumption) (by assumption) (by omega) (by omega) (by decide) (by omega) (by omega) (fun f146 h146 => ?_) | refine z_asx gg183_146 rfl (by omega) (by omega) (by decide) ?_
              refine z_iinc gg183_147 rfl rfl ?_
              refine q_goto gg183_150 (tg := 94) rfl ?_
              refine ih' (c + 1) _ (by omega) (by omega) ?_
              first
              | (refine aw_eq h146 (fun i i0 i1 => ?_)
                 rw [mZ_t hc0 (by decide) (by decide) (by omega)])
              | (refine aw_eq h146 (fun i i0 i1 => ?_)
                 rw [mZ_f hc0 (by decide) (by decide) (by omega)]
                 have hq := mZ_q (w := w) (s := s) (e := c) (q := 4) hc0 (by decide) (by decide)
                 rw [if_neg (by omega)] at hq
                 by_cases hi : i = 4 + 7 * c + 4
                 · subst hi; simp [zup]; omega
                 · simp [zup, hi])
            )
      unfold oOk at hok
      refine q_iload gg183_35 rfl ?_
      refine z_const gg183_37 (v := 1) rfl ?_
      refine q_aload gg183_38 rfl ?_
      refine q_getr gg183_39 rfl ?_
      refine z_const gg183_42 (v := 2) rfl ?_
      first | refine z_alr gg183_43 (by first | rfl | assumption) (by assumption) (by omega) (by omega) (by omega) (by decide) (fun v43 ev43 lv43 uv43 => ?_) | refine z_alx gg183_43 rfl (by assumption) (by omega) (by omega) (by omega) (by decide) (fun v43 ev43 lv43 uv43 => ?_) <;> (try dsimp only at ev43)
      subst ev43
      first | refine z_ishl gg183_44 (by omega) (by omega) (by omega) (by omega) ?_ | refine z_ishl7 gg183_44 (by omega) (by omega) (fun s44 es44 => ?_) | refine q_ishl gg183_44 ?_
      refine z_icmpge gg183_45 (tg := 174) rfl (by omega) (by omega) (fun z => absurd z (by omega)) (fun c1 => ?_)
      refine q_iload gg183_48 rfl ?_
      refine z_neg gg183_49 ?_
      refine z_icmpeq gg183_51 (tg := 66) rfl (by omega) (by omega) (fun c2 => ?_) (fun c2 => ?_)
      · try (exfalso; omega)
        all_goals (
          refine z_const gg183_66 (v := 1) rfl ?_
          refine q_goto gg183_67 (tg := 71) rfl ?_
          refine q_istore gg183_71 rfl ?_
          refine q_iload gg183_73 rfl ?_
          refine z_ifeq gg183_75 (tg := 168) rfl (by decide) (fun z => absurd z (by decide)) (fun _ => ?_)
          refine q_aload gg183_78 rfl ?_
          refine q_getr gg183_79 rfl ?_
          refine z_const gg183_82 (v := 0) rfl ?_
          refine q_aload gg183_83 rfl ?_
          refine q_getr gg183_84 rfl ?_
          refine z_const gg183_87 (v := 0) rfl ?_
          refine q_call4 gg183_88 tt130 rfl (Nat.le_of_ble_eq_true rfl) rfl (ls' := [some _, some _, some _, some _, none]) rfl rfl ?_
          refine r_cpNT h36 (fun f1 hf1 => ?_)
          show hm_Wp _ _ _ _ _ _ _
          refine z_const gg183_91 (v := 0) rfl ?_
          refine q_istore gg183_92 rfl ?_
          exact L1 (by omega) (w 2).toNat 0 f1 (by decide) (by omega) (aw_eq hf1 (fun i _ _ => (mZ_0 (by decide) (by decide)).symm))
        )
      · try (exfalso; omega)
        all_goals (
          refine q_iload gg183_54 rfl ?_
          refine q_call1 gg183_56 tt126 rfl (Nat.le_of_ble_eq_true rfl) rfl (ls' := [some _, none, none]) rfl rfl ?_
          refine r_ones (by omega) (by omega) ?_
          show hm_Wp _ _ _ _ (_ :: _) _ _
          refine q_iload gg183_59 rfl ?_
          refine q_call1 gg183_60 tt126 rfl (Nat.le_of_ble_eq_true rfl) rfl (ls' := [some _, none, none]) rfl rfl ?_
          refine r_ones (by omega) (by omega) ?_
          show hm_Wp _ _ _ _ (_ :: _) _ _
          refine z_icmpge gg183_63 (tg := 70) rfl (by omega) (by omega) (fun c3 => ?_) (fun c3 => ?_)
          · try (exfalso; omega)
            all_goals (
              refine z_const gg183_70 (v := 0) rfl ?_
              refine q_istore gg183_71 rfl ?_
              refine q_iload gg183_73 rfl ?_
              refine z_ifeq gg183_75 (tg := 168) rfl (by decide) (fun _ => ?_) (fun z => absurd z (by decide))
              refine z_iinc gg183_168 rfl rfl ?_
              refine q_goto gg183_171 (tg := 35) rfl ?_
              refine ih (s + 1) best N _ x6 rfl rfl (by omega) (by omega) hft hok ?_
              rw [← heq, aO_f (fun z => by have := z.1; omega)]
            )
          · try (exfalso; omega)
            all_goals (
              refine z_const gg183_66 (v := 1) rfl ?_
              refine q_goto gg183_67 (tg := 71) rfl ?_
              refine q_istore gg183_71 rfl ?_
              refine q_iload gg183_73 rfl ?_
              refine z_ifeq gg183_75 (tg := 168) rfl (by decide) (fun z => absurd z (by decide)) (fun _ => ?_)
              refine q_aload gg183_78 rfl ?_
              refine q_getr gg183_79 rfl ?_
              refine z_const gg183_82 (v := 0) rfl ?_
              refine q_aload gg183_83 rfl ?_
              refine q_getr gg183_84 rfl ?_
              refine z_const gg183_87 (v := 0) rfl ?_
              refine q_call4 gg183_88 tt130 rfl (Nat.le_of_ble_eq_true rfl) rfl (ls' := [some _, some _, some _, some _, none]) rfl rfl ?_
              refine r_cpNT h36 (fun f1 hf1 => ?_)
              show hm_Wp _ _ _ _ _ _ _
              refine z_const gg183_91 (v := 0) rfl ?_
              refine q_istore gg183_92 rfl ?_
              exact L1 (by omega) (w 2).toNat 0 f1 (by decide) (by omega) (aw_eq hf1 (fun i _ _ => (mZ_0 (by decide) (by decide)).symm))
            )
        )
  refine q_aload gg183_0 rfl ?_
  refine q_call1 gg183_1 tt151 rfl (Nat.le_of_ble_eq_true rfl) (hm_rv (by decide +kernel)) (ls' := [some _]) rfl rfl ?_
  refine q_aload gg151_0 rfl ?_
  refine q_getr gg151_1 rfl ?_
  refine z_const gg151_4 (v := 1) rfl ?_
  first | refine z_alr gg151_5 (by first | rfl | assumption) (by assumption) (by omega) (by omega) (by omega) (by decide) (fun visHob_5 evisHob_5 lvisHob_5 uvisHob_5 => ?_) | refine z_alx gg151_5 rfl (by assumption) (by omega) (by omega) (by omega) (by decide) (fun visHob_5 evisHob_5 lvisHob_5 uvisHob_5 => ?_) <;> (try dsimp only at evisHob_5)
  refine z_ifle gg151_6 (tg := 13) rfl (by omega) (fun c1 => ?_) (fun c1 => ?_)
  · try (exfalso; omega)
    all_goals (
      refine z_const gg151_13 (v := 0) rfl ?_
      refine z_zretC gg151_14 (by omega) ?_
      refine z_ifne gg183_4 (tg := 10) rfl (by decide) (fun z => absurd z (by decide)) (fun _ => ?_)
      refine z_neg gg183_7 ?_
      refine q_iret gg183_9 ?_
      refine qv ?_ (kk _ FR.rf)
      unfold aOff
      rw [if_pos (by omega)]
    )
  · try (exfalso; omega)
    all_goals (
      refine z_const gg151_9 (v := 1) rfl ?_
      refine q_goto gg151_10 (tg := 14) rfl ?_
      refine z_zretC gg151_14 (by omega) ?_
      refine z_ifne gg183_4 (tg := 10) rfl (by decide) (fun _ => ?_) (fun z => absurd z (by decide))
      refine q_iload gg183_10 rfl ?_
      refine q_call1 gg183_11 tt180 rfl (Nat.le_of_ble_eq_true rfl) rfl (ls' := [some _]) rfl rfl ?_
      refine q_iload gg180_0 rfl ?_
      refine z_const gg180_1 (v := 1) rfl ?_
      refine z_const gg180_2 (v := 30) rfl ?_
      refine q_call3 gg180_4 tt124 rfl (Nat.le_of_ble_eq_true rfl) rfl (ls' := [some _, some _, some _]) rfl rfl ?_
      refine q_iload gg124_0 rfl ?_
      refine q_iload gg124_1 rfl ?_
      refine z_icmplt gg124_2 (tg := 14) rfl (by omega) (by omega) (fun c2 => ?_) (fun c2 => ?_)
      · try (exfalso; omega)
        all_goals (
          refine z_const gg124_14 (v := 0) rfl ?_
          refine z_zretC gg124_15 (by omega) ?_
          refine z_zretC gg180_7 (by omega) ?_
          refine z_ifeq gg183_14 (tg := 26) rfl (by decide) (fun _ => ?_) (fun z => absurd z (by decide))
          refine z_neg gg183_26 ?_
          refine q_iret gg183_28 ?_
          refine qv ?_ (kk _ FR.rf)
          unfold aOff
          rw [if_neg (by omega), if_neg (by omega)]
        )
      · try (exfalso; omega)
        all_goals (
          refine q_iload gg124_5 rfl ?_
          refine q_iload gg124_6 rfl ?_
          refine z_icmpgt gg124_7 (tg := 14) rfl (by omega) (by omega) (fun c3 => ?_) (fun c3 => ?_)
          · try (exfalso; omega)
            all_goals (
              refine z_const gg124_14 (v := 0) rfl ?_
              refine z_zretC gg124_15 (by omega) ?_
              refine z_zretC gg180_7 (by omega) ?_
              refine z_ifeq gg183_14 (tg := 26) rfl (by decide) (fun _ => ?_) (fun z => absurd z (by decide))
              refine z_neg gg183_26 ?_
              refine q_iret gg183_28 ?_
              refine qv ?_ (kk _ FR.rf)
              unfold aOff
              rw [if_neg (by omega), if_neg (by omega)]
            )
          · try (exfalso; omega)
            all_goals (
              refine z_const gg124_10 (v := 1) rfl ?_
              refine q_goto gg124_11 (tg := 15) rfl ?_
              refine z_zretC gg124_15 (by omega) ?_
              refine z_zretC gg180_7 (by omega) ?_
              refine z_ifeq gg183_14 (tg := 26) rfl (by decide) (fun z => absurd z (by decide)) (fun _ => ?_)
              refine q_iload gg183_17 rfl ?_
              refine z_const gg183_18 (v := 0) rfl ?_
              refine z_const gg183_19 (v := 1) rfl ?_
              refine q_call3 gg183_20 tt124 rfl (Nat.le_of_ble_eq_true rfl) rfl (ls' := [some _, some _, some _]) rfl rfl ?_
              refine q_iload gg124_0 rfl ?_
              refine q_iload gg124_1 rfl ?_
              refine z_icmplt gg124_2 (tg := 14) rfl (by omega) (by omega) (fun c4 => ?_) (fun c4 => ?_)
              · try (exfalso; omega)
                all_goals (
                  refine z_const gg124_14 (v := 0) rfl ?_
                  refine z_zretC gg124_15 (by omega) ?_
                  refine z_ifne gg183_23 (tg := 29) rfl (by decide) (fun z => absurd z (by decide)) (fun _ => ?_)
                  refine z_neg gg183_26 ?_
                  refine q_iret gg183_28 ?_
                  refine qv ?_ (kk _ FR.rf)
                  unfold aOff
                  rw [if_neg (by omega), if_neg (by omega)]
                )
              · try (exfalso; omega)
                all_goals (
                  refine q_iload gg124_5 rfl ?_
                  refine q_iload gg124_6 rfl ?_
                  refine z_icmpgt gg124_7 (tg := 14) rfl (by omega) (by omega) (fun c5 => ?_) (fun c5 => ?_)
                  · try (exfalso; omega)
                    all_goals (
                      refine z_const gg124_14 (v := 0) rfl ?_
                      refine z_zretC gg124_15 (by omega) ?_
                      refine z_ifne gg183_23 (tg := 29) rfl (by decide) (fun z => absurd z (by decide)) (fun _ => ?_)
                      refine z_neg gg183_26 ?_
                      refine q_iret gg183_28 ?_
                      refine qv ?_ (kk _ FR.rf)
                      unfold aOff
                      rw [if_neg (by omega), if_neg (by omega)]
                    )
                  · try (exfalso; omega)
                    all_goals (
                      refine z_const gg124_10 (v := 1) rfl ?_
                      refine q_goto gg124_11 (tg := 15) rfl ?_
                      refine z_zretC gg124_15 (by omega) ?_
                      refine z_ifne gg183_23 (tg := 29) rfl (by decide) (fun _ => ?_) (fun z => absurd z (by decide))
                      refine z_neg gg183_29 ?_
                      refine q_istore gg183_31 rfl ?_
                      refine z_const gg183_32 (v := 0) rfl ?_
                      refine q_istore gg183_33 rfl ?_
                      exact L (by omega) (by omega) (by omega) (by omega) (by omega) P.toNat 0 (-1000000) M none none rfl rfl (by decide) (by omega) FR.rf (Or.inl rfl) hA
                    )
                )
            )
        )
    )
end F6
