/-! WHEN NOTHING SWELLS ANY MORE -/
noncomputable def mIt : Nat → (Int → Int) → (Int → Int)
  | 0, w => w
  | n + 1, w => mIt n (mPass w)
def eqH (w v : Int → Int) : Prop := ∀ i : Int, 0 ≤ i → i < 53 → i ≠ 3 → w i = v i
theorem eqH.rf {w : Int → Int} : eqH w w := fun _ _ _ _ => rfl
theorem eqH.tr {u v w : Int → Int} (h1 : eqH u v) (h2 : eqH v w) : eqH u w := fun i a b c => (h1 i a b c).trans (h2 i a b c)
theorem eqH.sy {u v : Int → Int} (h1 : eqH u v) : eqH v u := fun i a b c => (h1 i a b c).symm
def mKeep (w v : Int → Int) : Prop := v 0 = w 0 ∧ v 1 = w 1 ∧ v 2 = w 2 ∧ (∀ b q : Int, 0 ≤ b → 0 ≤ q → q < 7 → q ≠ 2 → q ≠ 5 → v (4 + 7 * b + q) = w (4 + 7 * b + q)) ∧ (∀ b : Int, 0 ≤ b → w (4 + 7 * b + 5) = 1 → v (4 + 7 * b + 5) = 1)
theorem mKeep.rf {w : Int → Int} : mKeep w w := ⟨rfl, rfl, rfl, fun _ _ _ _ _ _ _ => rfl, fun _ _ h => h⟩
theorem mKeep.tr {u v w : Int → Int} (h1 : mKeep u v) (h2 : mKeep v w) : mKeep u w := ⟨h2.1.trans h1.1, h2.2.1.trans h1.2.1, h2.2.2.1.trans h1.2.2.1, fun b q a c e f g => (h2.2.2.2.1 b q a c e f g).trans (h1.2.2.2.1 b q a c e f g), fun b a h => h2.2.2.2.2 b a (h1.2.2.2.2 b a h)⟩
theorem mKeep_rnd (w : Int → Int) : mKeep w (mRnd w) := by
  refine ⟨?_, ?_, mRnd_2 w, fun b q h0 q0 q1 q2 q5 => ?_, fun b h0 h => ?_⟩
  · simp only [mRnd, mRoundTo]; rw [if_neg (by omega)]
  · simp only [mRnd, mRoundTo]; rw [if_neg (by omega)]
  · simp only [mRnd, mRoundTo]
    split
    · rw [if_neg (by omega), if_neg (by omega)]
    · rfl
  · simp only [mRnd, mRoundTo]
    (repeat' split) <;> first | rfl | omega
theorem mKeep_rounds : ∀ (n : Nat) (w : Int → Int), mKeep w (mRounds n w)
  | 0, _ => mKeep.rf
  | n + 1, w => by
    simp only [mRounds]
    split
    · exact mKeep.rf
    · exact (mKeep_rnd w).tr (mKeep_rounds n _)
theorem mRounds_done : ∀ (m : Nat) {w : Int → Int}, mOk w → mCu w ≤ m → bsum (mRip (mRounds m w)) (w 2).toNat = 0
  | 0, w, hw, h => by
    rcases Classical.em (bsum (mRip w) (w 2).toNat = 0) with z | z
    · exact z
    · have := mCu_lt hw z
      have := (mCu_bd (mRnd_ok hw)).1
      omega
  | m + 1, w, hw, h => by
    simp only [mRounds]
    split
    · rename_i z; exact z
    · rename_i z
      have h1 := mCu_lt hw z
      have := mRounds_done m (mRnd_ok hw) (by omega)
      rw [mRnd_2] at this
      exact this
def mSt (w : Int → Int) : Prop := (∀ b : Int, 0 ≤ b → b < w 2 → mGrow w b = 0) ∧ (∀ b : Int, 0 ≤ b → b < w 2 → w (4 + 7 * b + 6) = 0) ∧ bsum (mRip w) (w 2).toNat = 0
theorem mGrow_nn {w : Int → Int} (hw : mWf w) {b : Int} (hb0 : 0 ≤ b) (hb : b < w 2) : 0 ≤ mGrow w b := by
  have hn := hw.1.1
  have g0 : 0 ≤ mGlow w b := by unfold mGlow; split <;> omega
  have hp := hw.2.1 (4 + 7 * b + 1) (by omega) (by omega)
  unfold mGrow
  (repeat' split) <;> omega
theorem mRip_congr {w v : Int → Int} (h1 : w 1 = v 1) {n : Nat} (h : ∀ b : Int, 0 ≤ b → b < n → w (4 + 7 * b + 5) = v (4 + 7 * b + 5) ∧ w (4 + 7 * b + 2) = v (4 + 7 * b + 2)) : bsum (mRip w) n = bsum (mRip v) n := bsum_congr (fun b b0 b1 => by
  simp only [mRip]
  rw [h1, (h b b0 b1).1, (h b b0 b1).2])
theorem mSwell_still {w : Int → Int} (hw : mWf w) (hg : ∀ b : Int, 0 ≤ b → b < w 2 → mGrow w b ≤ 0) : ∀ i : Int, 0 ≤ i → i < 53 → mSwellTo w (w 2) i = if (i - 4) % 7 = 6 ∧ 4 ≤ i ∧ i < 4 + 7 * w 2 then 0 else w i := by
  intro i i0 i1
  simp only [mSwellTo]
  by_cases hi : 4 ≤ i ∧ i < 4 + 7 * w 2
  · rw [if_pos hi]
    by_cases h6 : (i - 4) % 7 = 6
    · rw [if_pos h6, if_pos ⟨h6, hi⟩]
    · rw [if_neg h6, if_neg (show ¬ ((i - 4) % 7 = 6 ∧ 4 ≤ i ∧ i < 4 + 7 * w 2) from fun z => h6 z.1)]
      split
      · rename_i h2
        have h3 := hg ((i - 4) / 7) (by omega) (by omega)
        have h4 := mGrow_nn hw (b := (i - 4) / 7) (by omega) (by omega)
        have h5 := (hw.2.2.1 ((i - 4) / 7) (by omega) (by omega)).2.2.2.1
        rw [show 4 + 7 * ((i - 4) / 7) + 2 = i by omega] at h5
        omega
      · rfl
  · rw [if_neg hi, if_neg (fun z => hi z.2)]
theorem mPass_still {w : Int → Int} (hw : mWf w) (hs : mSt w) : eqH (mPass w) w := by
  obtain ⟨s1, s2, s3⟩ := hs
  have hn := hw.1.1
  have e := mSwell_still hw (fun b b0 b1 => Int.le_of_eq (s1 b b0 b1))
  have e' : ∀ i : Int, 0 ≤ i → i < 53 → mSwellTo w (w 2) i = w i := by
    intro i i0 i1
    rw [e i i0 i1]
    split
    · rename_i h
      have := s2 ((i - 4) / 7) (by omega) (by omega)
      rw [show 4 + 7 * ((i - 4) / 7) + 6 = i by omega] at this
      exact this.symm
    · rfl
  have hz : bsum (mRip (mSwellTo w (w 2))) (mSwellTo w (w 2) 2).toNat = 0 := by
    rw [mSwellTo_2, mRip_congr (v := w) (e' 1 (by decide) (by decide)) (fun b b0 b1 => ⟨e' _ (by omega) (by omega), e' _ (by omega) (by omega)⟩)]
    exact s3
  have hr : mRounds 7 (mSwellTo w (w 2)) = mSwellTo w (w 2) := by
    simp only [mRounds]
    rw [if_pos hz]
  intro i i0 i1 i3
  unfold mPass
  rw [hr]
  simp only [zup, if_neg i3]
  exact e' i i0 i1
theorem mSt_congr {w v : Int → Int} (hw : mWf w) (h : eqH v w) (hs : mSt w) : mSt v := by
  obtain ⟨s1, s2, s3⟩ := hs
  have hn := hw.1.1
  have h2 := h 2 (by decide) (by decide) (by decide)
  refine ⟨fun b b0 b1 => ?_, fun b b0 b1 => ?_, ?_⟩
  · rw [h2] at b1
    rw [mGrow_congr (h 0 (by decide) (by decide) (by decide)) (h _ (by omega) (by omega) (by omega)) (fun q q0 q1 => h _ (by omega) (by omega) (by omega))]
    exact s1 b b0 b1
  · rw [h2] at b1
    rw [h _ (by omega) (by omega) (by omega)]
    exact s2 b b0 b1
  · rw [h2, mRip_congr (v := w) (h 1 (by decide) (by decide) (by decide)) (fun b b0 b1 => ⟨h _ (by omega) (by omega) (by omega), h _ (by omega) (by omega) (by omega)⟩)]
    exact s3
theorem mPass_stills {w : Int → Int} (hw : mWf w) (hg : ∀ b : Int, 0 ≤ b → b < w 2 → mGrow w b ≤ 0) : mSt (mPass w) := by
  have hn := hw.1.1
  have e := mSwell_still hw hg
  have hsw := mWf_swell hw (e := w 2) (Int.le_refl _)
  have hk := mKeep_rounds 7 (mSwellTo w (w 2))
  have hd := mRounds_done 7 hsw.1 (mCu_bd hsw.1).2
  have z3 : ∀ i : Int, i ≠ 3 → mPass w i = mRounds 7 (mSwellTo w (w 2)) i := fun i hi => by unfold mPass; simp [zup, hi]
  have e2 : mPass w 2 = w 2 := mPass_2 w
  have ek : ∀ b q : Int, 0 ≤ b → b < w 2 → 0 ≤ q → q < 7 → q ≠ 2 → q ≠ 5 → q ≠ 6 → mPass w (4 + 7 * b + q) = w (4 + 7 * b + q) := by
    intro b q b0 b1 q0 q1 q2 q5 q6
    rw [z3 _ (by omega), hk.2.2.2.1 b q b0 q0 q1 q2 q5, e _ (by omega) (by omega), if_neg (by omega)]
  have e6 : ∀ b : Int, 0 ≤ b → b < w 2 → mPass w (4 + 7 * b + 6) = 0 := by
    intro b b0 b1
    rw [z3 _ (by omega), hk.2.2.2.1 b 6 b0 (by decide) (by decide) (by decide) (by decide), e _ (by omega) (by omega), if_pos (by omega)]
  have e0 : mPass w 0 = w 0 := by rw [z3 0 (by decide), hk.1, e 0 (by decide) (by decide), if_neg (by omega)]
  refine ⟨fun b b0 b1 => ?_, fun b b0 b1 => e6 b b0 (by omega), ?_⟩
  · rw [e2] at b1
    have k0 := ek b 0 b0 b1 (by decide) (by decide) (by decide) (by decide) (by decide)
    rw [Int.add_zero] at k0
    have k1 := ek b 1 b0 b1 (by decide) (by decide) (by decide) (by decide) (by decide)
    have k3 := ek b 3 b0 b1 (by decide) (by decide) (by decide) (by decide) (by decide)
    have k4 := ek b 4 b0 b1 (by decide) (by decide) (by decide) (by decide) (by decide)
    have k6 := e6 b b0 b1
    have hgl : mGlow (mPass w) b = mGlow w b := by unfold mGlow; rw [e0, k3, k4]
    have hG := hg b b0 b1
    have hG0 : 0 ≤ mGlow w b := by unfold mGlow; split <;> omega
    have hb5 : w (4 + 7 * b + 5) = 1 → mPass w (4 + 7 * b + 5) = 1 := by
      intro z
      rw [z3 _ (by omega)]
      refine hk.2.2.2.2 b b0 ?_
      rw [e _ (by omega) (by omega), if_neg (by omega)]; exact z
    have hp := hw.2.1 (4 + 7 * b + 1) (by omega) (by omega)
    unfold mGrow at hG ⊢
    rw [k0, k1, k6, hgl]
    by_cases hB : mPass w (4 + 7 * b + 5) = 1
    · rw [if_pos hB]
    · rw [if_neg hB]
      rw [if_neg (fun z => hB (hb5 z))] at hG
      (repeat' split at hG) <;> (repeat' split) <;> omega
  · rw [e2]
    rw [mSwellTo_2] at hd
    rw [← hd]
    exact mRip_congr (z3 1 (by decide)) (fun b b0 b1 => ⟨z3 _ (by omega), z3 _ (by omega)⟩)
theorem mIt_st : ∀ (n : Nat) {w : Int → Int}, mWf w → mSt w → w 3 + n ≤ 20000 → eqH (mIt n w) w
  | 0, _, _, _, _ => eqH.rf
  | n + 1, w, hw, hs, h3 => by
    have h0 := (hw.2.1 3 (by decide) (by decide)).1
    have h1 := mPass_still hw hs
    exact (mIt_st n (mWf_pass hw (by omega)) (mSt_congr hw h1 hs) (by rw [mPass_3]; omega)).tr h1
theorem mIt_wf : ∀ (n : Nat) {w : Int → Int}, mWf w → w 3 + n ≤ 20000 → mWf (mIt n w)
  | 0, _, hw, _ => hw
  | n + 1, w, hw, h3 => by
    have h0 := (hw.2.1 3 (by decide) (by decide)).1
    exact mIt_wf n (mWf_pass hw (by omega)) (by rw [mPass_3]; omega)
theorem mIt_2 : ∀ (n : Nat) (w : Int → Int), mIt n w 2 = w 2
  | 0, _ => rfl
  | n + 1, w => by simp only [mIt]; rw [mIt_2 n, mPass_2]
theorem mIt_succ : ∀ (n : Nat) (w : Int → Int), mIt (n + 1) w = mPass (mIt n w)
  | 0, _ => rfl
  | n + 1, w => by
    show mIt (n + 1) (mPass w) = mPass (mIt n (mPass w))
    exact mIt_succ n (mPass w)
/-- a burst basin stays so -/
theorem mPass_burst {w : Int → Int} {b : Int} (hb0 : 0 ≤ b) (h : w (4 + 7 * b + 5) = 1) : mPass w (4 + 7 * b + 5) = 1 := by
  have hk := mKeep_rounds 7 (mSwellTo w (w 2))
  unfold mPass
  simp only [zup]
  rw [if_neg (by omega)]
  refine hk.2.2.2.2 b hb0 ?_
  simp only [mSwellTo]
  (repeat' split) <;> omega
theorem mIt_burst : ∀ (n : Nat) {w : Int → Int} {b : Int}, 0 ≤ b → w (4 + 7 * b + 5) = 1 → mIt n w (4 + 7 * b + 5) = 1
  | 0, _, _, _, h => h
  | n + 1, _, _, h0, h => mIt_burst n h0 (mPass_burst h0 h)
