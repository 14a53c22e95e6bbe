theorem mWf_of {w v : Int → Int} (hw : mWf w) (h2 : v 2 = w 2) (h0 : v 0 ≤ 9 ∧ 0 ≤ v 0) (h1 : v 1 ≤ 60 ∧ 0 ≤ v 1) (h3 : 0 ≤ v 3 ∧ v 3 ≤ 20000) (hk : ∀ b : Int, 0 ≤ b → b < w 2 → 1 ≤ v (4 + 7 * b) ∧ v (4 + 7 * b) ≤ 5 ∧ 0 ≤ v (4 + 7 * b + 1) ∧ v (4 + 7 * b + 1) ≤ 20 ∧ v (4 + 7 * b + 3) = w (4 + 7 * b + 3)) (hs : ∀ b : Int, 0 ≤ b → b < w 2 → 0 ≤ v (4 + 7 * b + 2) ∧ v (4 + 7 * b + 2) ≤ 99) (hf : ∀ b q : Int, 0 ≤ b → b < w 2 → 4 ≤ q → q < 7 → v (4 + 7 * b + q) = 0 ∨ v (4 + 7 * b + q) = 1) (hz : ∀ b q : Int, w 2 ≤ b → b < 7 → 0 ≤ q → q < 7 → v (4 + 7 * b + q) = w (4 + 7 * b + q)) : mWf v := by
  obtain ⟨⟨hn, hfl, hinj⟩, hbd, hkk, hzz, -⟩ := hw
  refine ⟨⟨by rw [h2]; exact hn, fun b q b0 b1 q0 q1 => ?_, fun b c b0 b1 c0 c1 he => ?_⟩, fun i i0 i1 => ?_, fun b b0 b1 => ?_, fun b q b0 b1 q0 q1 => ?_, h0.1, h1.1⟩
  · by_cases hb : b < w 2
    · exact hf b q b0 hb q0 q1
    · rw [hz b q (by omega) b1 (by omega) q1]; exact hfl b q b0 b1 q0 q1
  · rw [h2] at b1 c1
    rw [(hk b b0 b1).2.2.2.2, (hk c c0 c1).2.2.2.2] at he
    exact hinj b c b0 b1 c0 c1 he
  · by_cases hi : i < 4
    · rcases (by omega : i = 0 ∨ i = 1 ∨ i = 2 ∨ i = 3) with rfl | rfl | rfl | rfl
      · omega
      · omega
      · rw [h2]; omega
      · exact h3
    · have e : i = 4 + 7 * ((i - 4) / 7) + (i - 4) % 7 := by omega
      generalize hB : (i - 4) / 7 = B at e
      generalize hq : (i - 4) % 7 = q at e
      have hB0 : 0 ≤ B := by omega
      have hB1 : B < 7 := by omega
      have hq0 : 0 ≤ q ∧ q < 7 := by omega
      subst e
      by_cases hb : B < w 2
      · have k1 := hk B hB0 hb
        have k2 := hs B hB0 hb
        have k3 := hbd (4 + 7 * B + 3) (by omega) (by omega)
        rcases (by omega : q = 0 ∨ q = 1 ∨ q = 2 ∨ q = 3 ∨ 4 ≤ q) with rfl | rfl | rfl | rfl | h4
        · rw [Int.add_zero]; omega
        · omega
        · omega
        · omega
        · have := hf B q hB0 hb h4 (by omega); omega
      · rw [hz B q (by omega) hB1 hq0.1 hq0.2]; exact hbd _ i0 i1
  · rw [h2] at b1 ⊢
    have k1 := hk b b0 b1
    have k2 := hs b b0 b1
    have k3 := hkk b b0 b1
    omega
  · rw [h2] at b0
    rw [hz b q b0 b1 q0 q1]; exact hzz b q b0 b1 q0 q1
theorem mWf_round {w g : Int → Int} (hw : mWf w) {e : Int} (he : e ≤ w 2) : mWf (mRoundTo w g e) := by
  have o : ∀ i : Int, (i < 4 ∨ 4 + 7 * w 2 ≤ i) → mRoundTo w g e i = w i := fun i hi => by simp only [mRoundTo]; rw [if_neg (by omega)]
  have k3 : ∀ b q : Int, q ≠ 2 → q ≠ 5 → 0 ≤ q → q < 7 → mRoundTo w g e (4 + 7 * b + q) = w (4 + 7 * b + q) := by
    intro b q h2 h5 q0 q1
    simp only [mRoundTo]
    split
    · rw [if_neg (by omega), if_neg (by omega)]
    · rfl
  have k0 : ∀ b : Int, mRoundTo w g e (4 + 7 * b) = w (4 + 7 * b) := fun b => by
    have := k3 b 0 (by decide) (by decide) (by decide) (by decide); simpa using this
  have hbd := hw.2.1
  refine mWf_of hw (o 2 (by omega)) ?_ ?_ ?_ (fun b b0 b1 => ?_) (fun b b0 b1 => ?_) (fun b q b0 b1 q0 q1 => ?_) (fun b q b0 b1 q0 q1 => o _ (by omega))
  · rw [o 0 (by omega)]; exact ⟨hw.2.2.2.2.1, (hbd 0 (by decide) (by decide)).1⟩
  · rw [o 1 (by omega)]; exact ⟨hw.2.2.2.2.2, (hbd 1 (by decide) (by decide)).1⟩
  · rw [o 3 (by omega)]; exact hbd 3 (by decide) (by decide)
  · have h1 := hw.2.2.1 b b0 b1
    have hn := hw.1.1
    have h2 := hbd (4 + 7 * b + 1) (by omega) (by omega)
    rw [k0, k3 b 1 (by decide) (by decide) (by decide) (by decide), k3 b 3 (by decide) (by decide) (by decide) (by decide)]
    omega
  · have h1 := hw.2.2.1 b b0 b1
    have hn := hw.1.1
    have h2 := hbd (4 + 7 * b + 2) (by omega) (by omega)
    have h3 := mPush_le w g b
    simp only [mRoundTo]
    rw [show (4 + 7 * b + 2 - 4) / 7 = b by omega]
    (repeat' split) <;> omega
  · have hn := hw.1.1
    have h1 := hw.1.2.1 b q b0 (by omega) q0 q1
    simp only [mRoundTo]
    (repeat' split) <;> first | exact Or.inr rfl | omega
theorem mWf_swell {w : Int → Int} (hw : mWf w) {e : Int} (he : e ≤ w 2) : mWf (mSwellTo w e) := by
  have o : ∀ i : Int, (i < 4 ∨ 4 + 7 * w 2 ≤ i) → mSwellTo w e i = w i := fun i hi => by simp only [mSwellTo]; rw [if_neg (by omega)]
  have k3 : ∀ b q : Int, q ≠ 2 → q ≠ 6 → 0 ≤ q → q < 7 → mSwellTo w e (4 + 7 * b + q) = w (4 + 7 * b + q) := by
    intro b q h2 h5 q0 q1
    simp only [mSwellTo]
    split
    · rw [if_neg (by omega), if_neg (by omega)]
    · rfl
  have k0 : ∀ b : Int, mSwellTo w e (4 + 7 * b) = w (4 + 7 * b) := fun b => by
    have := k3 b 0 (by decide) (by decide) (by decide) (by decide); simpa using this
  have hbd := hw.2.1
  refine mWf_of hw (o 2 (by omega)) ?_ ?_ ?_ (fun b b0 b1 => ?_) (fun b b0 b1 => ?_) (fun b q b0 b1 q0 q1 => ?_) (fun b q b0 b1 q0 q1 => o _ (by omega))
  · rw [o 0 (by omega)]; exact ⟨hw.2.2.2.2.1, (hbd 0 (by decide) (by decide)).1⟩
  · rw [o 1 (by omega)]; exact ⟨hw.2.2.2.2.2, (hbd 1 (by decide) (by decide)).1⟩
  · rw [o 3 (by omega)]; exact hbd 3 (by decide) (by decide)
  · have h1 := hw.2.2.1 b b0 b1
    have hn := hw.1.1
    have h2 := hbd (4 + 7 * b + 1) (by omega) (by omega)
    rw [k0, k3 b 1 (by decide) (by decide) (by decide) (by decide), k3 b 3 (by decide) (by decide) (by decide) (by decide)]
    omega
  · have h1 := hw.2.2.1 b b0 b1
    have hn := hw.1.1
    have h2 := hbd (4 + 7 * b + 2) (by omega) (by omega)
    have h3 : 0 ≤ mGrow w b := by
      have g0 : 0 ≤ mGlow w b := by unfold mGlow; split <;> omega
      have hp := hbd (4 + 7 * b + 1) (by omega) (by omega)
      unfold mGrow
      (repeat' split) <;> omega
    simp only [mSwellTo]
    rw [show (4 + 7 * b + 2 - 4) / 7 = b by omega]
    (repeat' split) <;> omega
  · have hn := hw.1.1
    have h1 := hw.1.2.1 b q b0 (by omega) q0 q1
    simp only [mSwellTo]
    (repeat' split) <;> first | exact Or.inl rfl | omega
theorem mWf_rounds : ∀ (n : Nat) {w : Int → Int}, mWf w → mWf (mRounds n w)
  | 0, _, h => h
  | n + 1, w, h => by
    simp only [mRounds]
    split
    · exact h
    · exact mWf_rounds n (mWf_round h (Int.le_refl _))
theorem mWf_3 {w : Int → Int} (hw : mWf w) {x : Int} (h0 : 0 ≤ x) (h : x ≤ 20000) : mWf (zup w 3 x) := by
  have e : ∀ i : Int, i ≠ 3 → zup w 3 x i = w i := fun i h => by simp [zup, h]
  have hbd := hw.2.1
  have hn := hw.1.1
  refine mWf_of hw (e 2 (by decide)) ?_ ?_ (by simp [zup]; omega) (fun b b0 b1 => ?_) (fun b b0 b1 => ?_) (fun b q b0 b1 q0 q1 => ?_) (fun b q b0 b1 q0 q1 => e _ (by omega))
  · rw [e 0 (by decide)]; exact ⟨hw.2.2.2.2.1, (hbd 0 (by decide) (by decide)).1⟩
  · rw [e 1 (by decide)]; exact ⟨hw.2.2.2.2.2, (hbd 1 (by decide) (by decide)).1⟩
  · have h1 := hw.2.2.1 b b0 b1
    have h2 := hbd (4 + 7 * b + 1) (by omega) (by omega)
    rw [e _ (by omega), e _ (by omega), e _ (by omega)]; omega
  · have h1 := hw.2.2.1 b b0 b1
    have h2 := hbd (4 + 7 * b + 2) (by omega) (by omega)
    rw [e _ (by omega)]; omega
  · rw [e _ (by omega)]; exact hw.1.2.1 b q b0 (by omega) q0 q1
theorem mWf_pass {w : Int → Int} (hw : mWf w) (hh : w 3 < 20000) : mWf (mPass w) := mWf_3 (mWf_rounds 7 (mWf_swell hw (Int.le_refl _))) (by have := (hw.2.1 3 (by decide) (by decide)).1; omega) (by omega)
theorem mWf.aw {w : Int → Int} (hw : mWf w) {f : Nat → Int32} (h : ∀ i : Int, 0 ≤ i → i < 53 → f i.toNat = zI (w i)) : aw f 53 0 20000 w := fun i i0 i1 => ⟨h i i0 i1, hw.2.1 i i0 i1⟩
theorem Fr.rf {r : Nat} {M : hm_M} : Fr r M M := fun _ _ => rfl
theorem Fr.tr {r : Nat} {M N P : hm_M} (h1 : Fr r M N) (h2 : Fr r N P) : Fr r M P := fun k hk => (h2 k hk).trans (h1 k hk)
theorem Fr.row {r q : Nat} {M : hm_M} {f : Nat → Int32} (h0 : r ≤ q) (h1 : q < r + 5) : Fr r M (hm_row M q f) := fun k hk => hm_row_ne M f (by omega)
theorem Hc_row3 {M : hm_M} {r : Nat} {w : Int → Int} {s : Nat → Int32} (h : Hc M r w) : Hc (hm_row M (r + 3) s) r w := by
  have e0 : hm_row M (r + 3) s r = M r := hm_row_ne M s (by omega)
  have e1 : hm_row M (r + 3) s (r + 1) = M (r + 1) := hm_row_ne M s (by omega)
  have e2 : hm_row M (r + 3) s (r + 2) = M (r + 2) := hm_row_ne M s (by omega)
  have e4 : hm_row M (r + 3) s (r + 4) = M (r + 4) := hm_row_ne M s (by omega)
  unfold Hc
  rw [e0, e1, e2, e4]
  exact h
section C2
variable {d r : Nat} {M : hm_M} {w u g : Int → Int} {b s n y : Int} {f : Nat → Int32} {Q : Option hm_V → hm_M → Prop}
theorem c_raise (hr : r = 7 ∨ r = 12 ∨ r = 22) (hn : n ≤ 7) (hf : aw f n 0 20000 u) (hb0 : 0 ≤ b) (hb : b < n) (hy0 : 0 ≤ y) (hy : y ≤ 100000) (kk : ∀ f', aw f' n 0 20000 (zup u b (min 99 (u b + y))) → Q none (hm_row M (r + 3) f')) : hm_Wp (d + 1) 47 0 [some (.inr (.inr r)), some (.inl (zI b)), some (.inl (zI y))] [] (hm_row M (r + 3) f) Q := by
  rcases hr with rfl | rfl | rfl
  all_goals (
    refine q_aload gg47_0 rfl ?_
    refine q_getr gg47_1 rfl ?_
    refine q_iload gg47_4 rfl ?_
    refine z_const gg47_5 (v := 99) rfl ?_
    refine q_aload gg47_7 rfl ?_
    refine q_getr gg47_8 rfl ?_
    refine q_iload gg47_11 rfl ?_
    first | refine z_alr gg47_12 (by first | rfl | assumption) (by assumption) (by omega) (by omega) (by omega) (by decide) (fun v12 ev12 lv12 uv12 => ?_) | refine z_alx gg47_12 rfl (by assumption) (by omega) (by omega) (by omega) (by decide) (fun v12 ev12 lv12 uv12 => ?_) <;> (try dsimp only at ev12)
    refine q_iload gg47_13 rfl ?_
    first | refine z_iadd gg47_14 ?_ | refine q_iadd gg47_14 ?_
    refine z_min gg47_15 (Nat.le_of_ble_eq_true rfl) (by omega) (by omega) ?_
    first | refine z_asr gg47_18 (by first | rfl | assumption) (by assumption) (by omega) (by omega) (by decide) (by omega) (by omega) (fun f18 h18 => ?_) | refine z_asx gg47_18 rfl (by omega) (by omega) (by decide) ?_
    refine q_ret gg47_19 ?_
    exact kk _ (aw_eq h18 (fun i _ _ => by simp only [zup]; (repeat' split) <;> omega))
  )
theorem c_aboveCloth (hr : r = 7 ∨ r = 12 ∨ r = 22) (h : Hc M r w) (hs : aw (M (r + 3)) (w 2) 0 20000 (fun b => w (4 + 7 * b + 2))) (hw : mWf w) (kk : Q (some (.inl (zI (bsum (mRip w) (w 2).toNat)))) M) : hm_Wp (d + 1) 44 0 [some (.inr (.inr r)), none, none] [] M Q := by
  obtain ⟨h4, h5, h6, h8, h9, h10, a1, a2, a4⟩ := h
  have hn := hw.1.1
  have w1 := hw.2.1 1 (by decide) (by decide)
  have s5 := bsum7_lt (hw.f01 (q := 5) (by decide) (by decide))
  have L : ∀ (m : Nat) (b : Int), 0 ≤ b → b + m = w 2 → hm_Wp (d + 1) 44 4 [some (.inr (.inr r)), some (.inl (zI (bsum (mRip w) b.toNat))), some (.inl (zI b))] [] M Q := by
    intro m
    induction m with
    | zero =>
      intro b hb0 hbm
      rcases hr with rfl | rfl | rfl
      all_goals (
        refine q_iload gg44_4 rfl ?_
        refine q_aload gg44_5 rfl ?_
        first | refine z_getf gg44_6 rfl (by assumption) ?_ | refine q_getf gg44_6 rfl ?_
        refine z_icmpge gg44_9 (tg := 45) rfl (by omega) (by omega) (fun c1 => ?_) (fun z => absurd z (by omega))
        refine q_iload gg44_45 rfl ?_
        refine q_iret gg44_46 ?_
        refine qv ?_ kk
        rw [show b = w 2 by omega]
      )
    | succ m ih =>
      intro b hb0 hbm
      obtain ⟨s0, s1⟩ := bsum_lt (mRip_b01 w b.toNat)
      have hp := p2_lt (show b < 7 by omega)
      have hi := ih (b + 1) (by omega) (by omega)
      rw [bsum_succ hb0] at hi
      have q5 := hw.bit (q := 5) (by decide) (by decide) hb0 (by omega)
      have f5 := hw.1.2.1 b 5 hb0 (by omega) (by decide) (by decide)
      clear ih
      rcases hr with rfl | rfl | rfl
      all_goals (
        simp only [Nat.reduceAdd] at hs
        refine q_iload gg44_4 rfl ?_
        refine q_aload gg44_5 rfl ?_
        first | refine z_getf gg44_6 rfl (by assumption) ?_ | refine q_getf gg44_6 rfl ?_
        refine z_icmpge gg44_9 (tg := 45) rfl (by omega) (by omega) (fun z => absurd z (by omega)) (fun c1 => ?_)
        refine q_aload gg44_12 rfl ?_
        refine q_iload gg44_13 rfl ?_
        refine q_call2 gg44_14 tt34 rfl (Nat.le_of_ble_eq_true rfl) (hm_rv (by decide +kernel)) (ls' := [some _, some _]) rfl rfl ?_
        refine q_aload gg34_0 rfl ?_
        first | refine z_getf gg34_1 rfl (by assumption) ?_ | refine q_getf gg34_1 rfl ?_
        refine q_iload gg34_4 rfl ?_
        first | refine z_ishr gg34_5 (by omega) (by omega) (by omega) (by omega) (fun sisBurst_5 esisBurst_5 lsisBurst_5 usisBurst_5 => ?_) | refine q_ishr gg34_5 ?_
        refine z_const gg34_6 (v := 1) rfl ?_
        first | refine z_iand1 gg34_7 (by omega) (by omega) ?_ | refine q_iand gg34_7 ?_
        refine z_const gg34_8 (v := 1) rfl ?_
        refine z_icmpne gg34_9 (tg := 16) rfl (by omega) (by omega) (fun c2 => ?_) (fun c2 => ?_)
        · try (exfalso; omega)
          all_goals (
            refine z_const gg34_16 (v := 0) rfl ?_
            refine z_zretC gg34_17 (by omega) ?_
            refine z_ifne gg44_17 (tg := 39) rfl (by decide) (fun z => absurd z (by decide)) (fun _ => ?_)
            refine q_aload gg44_20 rfl ?_
            refine q_getr gg44_21 rfl ?_
            refine q_iload gg44_24 rfl ?_
            first | refine z_alr gg44_25 (by first | rfl | assumption) (by assumption) (by omega) (by omega) (by omega) (by decide) (fun v25 ev25 lv25 uv25 => ?_) | refine z_alx gg44_25 rfl (by assumption) (by omega) (by omega) (by omega) (by decide) (fun v25 ev25 lv25 uv25 => ?_) <;> (try dsimp only at ev25)
            refine q_aload gg44_26 rfl ?_
            first | refine z_getf gg44_27 rfl (by assumption) ?_ | refine q_getf gg44_27 rfl ?_
            refine z_icmple gg44_30 (tg := 39) rfl (by omega) (by omega) (fun c3 => ?_) (fun c3 => ?_)
            · try (exfalso; omega)
              all_goals (
                refine z_iinc gg44_39 rfl rfl ?_
                refine q_goto gg44_42 (tg := 4) rfl ?_
                have hr : mRip w b = 0 := by unfold mRip; rw [if_neg (by omega)]
                rw [hr, Int.zero_mul, Int.add_zero] at hi
                exact hi
              )
            · try (exfalso; omega)
              all_goals (
                refine q_iload gg44_33 rfl ?_
                refine z_const gg44_34 (v := 1) rfl ?_
                refine q_iload gg44_35 rfl ?_
                first | refine z_ishl gg44_36 (by omega) (by omega) (by omega) (by omega) ?_ | refine q_ishl gg44_36 ?_
                have hr : mRip w b = 1 := by unfold mRip; rw [if_pos (by omega)]
                rw [hr] at hi
                refine z_iorb gg44_37 hb0 (by omega) s0 s1 (Or.inr rfl) ?_
                refine q_istore gg44_38 rfl ?_
                refine z_iinc gg44_39 rfl rfl ?_
                refine q_goto gg44_42 (tg := 4) rfl ?_
                exact hi
              )
          )
        · try (exfalso; omega)
          all_goals (
            refine z_const gg34_12 (v := 1) rfl ?_
            refine q_goto gg34_13 (tg := 17) rfl ?_
            refine z_zretC gg34_17 (by omega) ?_
            refine z_ifne gg44_17 (tg := 39) rfl (by decide) (fun _ => ?_) (fun z => absurd z (by decide))
            refine z_iinc gg44_39 rfl rfl ?_
            refine q_goto gg44_42 (tg := 4) rfl ?_
            have hr : mRip w b = 0 := by unfold mRip; rw [if_neg (by omega)]
            rw [hr, Int.zero_mul, Int.add_zero] at hi
            exact hi
          )
      )
  have L0 := L (w 2).toNat 0 (by decide) (by omega)
  refine z_const gg44_0 (v := 0) rfl ?_
  refine q_istore gg44_1 rfl ?_
  refine z_const gg44_2 (v := 0) rfl ?_
  refine q_istore gg44_3 rfl ?_
  exact L0
end C2
