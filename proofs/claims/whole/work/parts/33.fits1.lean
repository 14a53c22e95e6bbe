section F10
variable {d r : Nat} {M N : hm_M} {w v w0 g T ln lg it : Int → Int} {b n e x a s y c q i p : Int} {f : Nat → Int32} {Q : Option hm_V → hm_M → Prop}
theorem pI_0 {P : Prop} (h : pI P = 0) : ¬ P := fun hp => by rw [pI_t hp] at h; omega
theorem pI_1 {P : Prop} (h : pI P ≠ 0) : P := Classical.byContradiction (fun hp => h (pI_f hp))
theorem pI_iff {P R : Prop} (h : P ↔ R) : pI P = pI R := by rw [show P = R from propext h]
/-! rows: of the class, of the reference -/
def RC (M : hm_M) (ln lg it : Int → Int) : Prop := aw (M 2) 8 (-1) 2 (fun r => if ln r = -1000000 then -1 else ln r) ∧ aw (M 3) 8 0 40 lg ∧ (∀ r k : Int, 0 ≤ r → r < 8 → 0 ≤ k → k < lg r → M 4 (40 * r + k).toNat = zI (it (40 * r + k)))
def RR (M : hm_M) (ln lg it : Int → Int) : Prop := aw (M 31) 8 (-1000000) 2 ln ∧ aw (M 32) 8 0 40 lg ∧ (∀ r k : Int, 0 ≤ r → r < 8 → 0 ≤ k → k < lg r → M 33 (40 * r + k).toNat = zI (it (40 * r + k)))
def RW (ln lg it : Int → Int) : Prop := (∀ r : Int, 0 ≤ r → r < 8 → (ln r = -1000000 ∨ 0 ≤ ln r) ∧ ln r ≤ 2) ∧ (∀ r : Int, 0 ≤ r → r < 8 → 0 ≤ lg r ∧ lg r ≤ 40) ∧ (∀ i : Int, zR (it i))
def FC0 (M M' : hm_M) : Prop := ∀ k : Nat, k ≠ 0 → (k < 22 ∨ 27 < k) → M' k = M k
def F30 (M M' : hm_M) : Prop := (∀ k : Nat, k ≠ 30 → k ≠ 38 → M' k = M k) ∧ ∀ j : Nat, j ≠ 4 → M' 30 j = M 30 j
theorem FT.f0 {M M' : hm_M} (h : FT M M') : FC0 M M' := fun k _ hk => h k hk
theorem FC0.up {M N : hm_M} {x : Int32} (h : FC0 M N) : FC0 M (hm_up N 0 8 x) := fun k h0 hk => by unfold hm_up; rw [hm_row_ne _ _ h0]; exact h k h0 hk
theorem F30.up {M N : hm_M} {x : Int32} (h : FR M N) : F30 M (hm_up N 30 4 x) := ⟨fun k h0 h1 => by unfold hm_up; rw [hm_row_ne _ _ h0]; exact h k h1, fun j hj => by unfold hm_up; rw [hm_row_same]; simp only [upd]; rw [if_neg hj, h 30 (by decide)]⟩
theorem FR.f30 {M N : hm_M} (h : FR M N) : F30 M N := ⟨fun k _ h1 => h k h1, fun j _ => by rw [h 30 (by decide)]⟩
theorem up_at {M : hm_M} {k j : Nat} {x : Int32} : hm_up M k j x k j = x := by unfold hm_up; rw [hm_row_same]; simp [upd]
/-! fits -/
noncomputable def fTm (b : Int) (T : Int → Int) : Nat → (Int → Int) → Int → Prop
  | 0, _, _ => True
  | m + 1, v, h => mPass v (4 + 7 * b + 2) = T h ∧ fTm b T m (mPass v) (h + 1)
def fP (y b : Int) : Int := if y = 0 then 4 + 7 * b else if y = 1 then 4 + 7 * b + 1 else if y = 2 then 0 else 1
def fLo (y : Int) : Int := if y = 0 then 1 else if y ≤ 2 then 0 else 5
def fHi (y : Int) : Int := if y = 0 then 5 else if y = 1 then 20 else if y = 2 then 9 else 60
noncomputable def fOk (w : Int → Int) (b n : Int) (T : Int → Int) (y v : Int) : Prop := fTm b T n.toNat (zup w (fP y b) v) 0
noncomputable def fCnt (w : Int → Int) (b n : Int) (T : Int → Int) (y : Int) : Nat → Int → Int
  | 0, _ => 0
  | m + 1, v => pI (fOk w b n T y v) + fCnt w b n T y m (v + 1)
noncomputable def fFst (w : Int → Int) (b n : Int) (T : Int → Int) (y : Int) : Nat → Int → Int
  | 0, _ => -1000000
  | m + 1, v => @ite Int (fOk w b n T y v) (Classical.propDecidable _) v (fFst w b n T y m (v + 1))
noncomputable def fSet (w : Int → Int) (b n : Int) (T : Int → Int) (y : Int) : Nat → Int → Int32 → Int32
  | 0, _, p => p
  | m + 1, v, p => fSet w b n T y m (v + 1) (@ite Int32 (fOk w b n T y v) (Classical.propDecidable _) (p ||| (zI 1 <<< (zI v &&& 31))) p)
theorem fFst_t {m : Nat} {v : Int} (h : fOk w b n T y v) : fFst w b n T y (m + 1) v = v := by simp [fFst, h]
theorem fFst_f {m : Nat} {v : Int} (h : ¬ fOk w b n T y v) : fFst w b n T y (m + 1) v = fFst w b n T y m (v + 1) := by simp [fFst, h]
theorem fSet_t {m : Nat} {v : Int} {p : Int32} (h : fOk w b n T y v) : fSet w b n T y (m + 1) v p = fSet w b n T y m (v + 1) (p ||| (zI 1 <<< (zI v &&& 31))) := by simp [fSet, h]
theorem fSet_f {m : Nat} {v : Int} {p : Int32} (h : ¬ fOk w b n T y v) : fSet w b n T y (m + 1) v p = fSet w b n T y m (v + 1) p := by simp [fSet, h]
theorem fCnt_t {m : Nat} {v : Int} (h : fOk w b n T y v) : fCnt w b n T y (m + 1) v = 1 + fCnt w b n T y m (v + 1) := by simp only [fCnt]; rw [pI_t h]
theorem fCnt_f {m : Nat} {v : Int} (h : ¬ fOk w b n T y v) : fCnt w b n T y (m + 1) v = fCnt w b n T y m (v + 1) := by simp only [fCnt]; rw [pI_f h, Int.zero_add]
theorem fCnt_bd : ∀ (m : Nat) (v : Int), 0 ≤ fCnt w b n T y m v ∧ fCnt w b n T y m v ≤ m
  | 0, _ => by simp [fCnt]
  | m + 1, v => by
    have := fCnt_bd m (v + 1)
    have h := pI_01 (fOk w b n T y v)
    simp only [fCnt]; omega
theorem fFst_bd : ∀ (m : Nat) (v : Int), 0 ≤ v → fFst w b n T y m v = -1000000 ∨ (v ≤ fFst w b n T y m v ∧ fFst w b n T y m v < v + m)
  | 0, _, _ => Or.inl rfl
  | m + 1, v, hv => by
    by_cases h : fOk w b n T y v
    · rw [fFst_t h]; omega
    · rw [fFst_f h]; have := fFst_bd m (v + 1) (by omega); omega
/-- the number of what is tried -/
def fM (y : Int) : Nat := (fHi y - fLo y + 1).toNat
noncomputable def fAns (w : Int → Int) (b n : Int) (T : Int → Int) (y : Int) : Int32 := if y = 3 then zI (fCnt w b n T y (fM y) (fLo y)) else if y = 4 then zI (fFst w b n T y (fM y) (fLo y)) else fSet w b n T y (fM y) (fLo y) (zI 0)
theorem fLH (hy0 : 0 ≤ y) (hy : y ≤ 4) : 0 ≤ fLo y ∧ fLo y ≤ fHi y ∧ fHi y ≤ 60 := by unfold fLo fHi; (repeat' split) <;> omega
theorem mWf_fV {v : Int} (hw : mWf w) (hb0 : 0 ≤ b) (hb : b < w 2) (hy0 : 0 ≤ y) (hy : y ≤ 4) (hl : fLo y ≤ v) (hh : v ≤ fHi y) : mWf (zup w (fP y b) v) ∧ zup w (fP y b) v 2 = w 2 ∧ zup w (fP y b) v 3 = w 3 := by
  have hn := hw.1.1
  have hbd := hw.2.1
  have hyy : y = 0 ∨ y = 1 ∨ y = 2 ∨ y = 3 ∨ y = 4 := by omega
  have e : ∀ p i : Int, i ≠ p → zup w p v i = w i := fun p i h => by simp [zup, h]
  have z : ∀ p : Int, zup w p v p = v := fun p => by simp [zup]
  have hz : fP y b ≠ 2 ∧ fP y b ≠ 3 := by unfold fP; (repeat' split) <;> omega
  refine ⟨?_, e _ _ (Ne.symm hz.1), e _ _ (Ne.symm hz.2)⟩
  rcases hyy with rfl | rfl | rfl | rfl | rfl
  · simp only [fP, fLo, fHi, if_true] at hl hh ⊢
    refine mWf_of hw (e _ _ (by omega)) ?_ ?_ ?_ (fun c c0 c1 => ?_) (fun c c0 c1 => ?_) (fun c p c0 c1 q0 q1 => ?_) (fun c p c0 c1 q0 q1 => e _ _ (by omega))
    · rw [e _ _ (by omega)]; exact ⟨hw.2.2.2.2.1, (hbd 0 (by decide) (by decide)).1⟩
    · rw [e _ _ (by omega)]; exact ⟨hw.2.2.2.2.2, (hbd 1 (by decide) (by decide)).1⟩
    · rw [e _ _ (by omega)]; exact hbd 3 (by decide) (by decide)
    · have h1 := hw.2.2.1 c c0 c1
      have h2 := hbd (4 + 7 * c + 1) (by omega) (by omega)
      rw [e _ (4 + 7 * c + 1) (by omega), e _ (4 + 7 * c + 3) (by omega)]
      by_cases hc : c = b
      · subst hc; rw [z]; omega
      · rw [e _ _ (by omega)]; omega
    · have h1 := hw.2.2.1 c c0 c1
      have h2 := hbd (4 + 7 * c + 2) (by omega) (by omega)
      rw [e _ _ (by omega)]; omega
    · rw [e _ _ (by omega)]; exact hw.1.2.1 c p c0 (by omega) q0 q1
  · simp only [fP, fLo, fHi, if_true, if_neg (show ¬ ((1 : Int) = 0) by decide)] at hl hh ⊢
    rw [if_pos (by decide)] at hl
    refine mWf_of hw (e _ _ (by omega)) ?_ ?_ ?_ (fun c c0 c1 => ?_) (fun c c0 c1 => ?_) (fun c p c0 c1 q0 q1 => ?_) (fun c p c0 c1 q0 q1 => e _ _ (by omega))
    · rw [e _ _ (by omega)]; exact ⟨hw.2.2.2.2.1, (hbd 0 (by decide) (by decide)).1⟩
    · rw [e _ _ (by omega)]; exact ⟨hw.2.2.2.2.2, (hbd 1 (by decide) (by decide)).1⟩
    · rw [e _ _ (by omega)]; exact hbd 3 (by decide) (by decide)
    · have h1 := hw.2.2.1 c c0 c1
      have h2 := hbd (4 + 7 * c + 1) (by omega) (by omega)
      rw [e _ (4 + 7 * c) (by omega), e _ (4 + 7 * c + 3) (by omega)]
      by_cases hc : c = b
      · subst hc; rw [z]; omega
      · rw [e _ _ (by omega)]; omega
    · have h1 := hw.2.2.1 c c0 c1
      have h2 := hbd (4 + 7 * c + 2) (by omega) (by omega)
      rw [e _ _ (by omega)]; omega
    · rw [e _ _ (by omega)]; exact hw.1.2.1 c p c0 (by omega) q0 q1
  · simp [fP, fLo, fHi] at hl hh ⊢; exact mWf_heat hw (by omega) (by omega)
  · simp [fP, fLo, fHi] at hl hh ⊢; exact mWf_cloth hw (by omega) (by omega)
  · simp [fP, fLo, fHi] at hl hh ⊢; exact mWf_cloth hw (by omega) (by omega)
theorem Hb_arr {x : Int} {j : Nat} {q : Int} (hj : (j = 1 ∧ q = 0) ∨ (j = 2 ∧ q = 1)) (h : Hb N r w) (hb0 : 0 ≤ b) (hb : b < w 2) (hx0 : 0 ≤ x) (hx : x ≤ 20000) : Hb (hm_row N (r + j) (upd (N (r + j)) b.toNat (zI x))) r (zup w (4 + 7 * b + q) x) := by
  obtain ⟨⟨h4, h5, h6, h8, h9, h10, a1, a2, a4⟩, h7, a3⟩ := h
  have e : ∀ i : Int, i ≠ 4 + 7 * b + q → zup w (4 + 7 * b + q) x i = w i := fun i h => by simp [zup, h]
  have fl : ∀ p : Int, 4 ≤ p → p < 7 → bsum (mFlag (zup w (4 + 7 * b + q) x) p) 7 = bsum (mFlag w p) 7 := fun p hp hp2 => bsum_congr (fun c c0 c1 => by simp only [mFlag]; exact e _ (by omega))
  unfold Hb Hc Hs
  rcases hj with ⟨rfl, rfl⟩ | ⟨rfl, rfl⟩
  · rw [hm_row_ne _ _ (show r ≠ r + 1 by omega), hm_row_ne _ _ (show r + 3 ≠ r + 1 by omega), hm_row_ne _ _ (show r + 2 ≠ r + 1 by omega), hm_row_ne _ _ (show r + 4 ≠ r + 1 by omega), hm_row_same, e 0 (by omega), e 1 (by omega), e 2 (by omega), e 3 (by omega), fl 4 (by decide) (by decide), fl 5 (by decide) (by decide), fl 6 (by decide) (by decide)]
    refine ⟨⟨h4, h5, h6, h8, h9, h10, ?_, ?_, ?_⟩, h7, ?_⟩
    · refine aw_eq (aw_upd a1 hb0 hx0 hx) (fun c c0 c1 => ?_)
      simp only [zup]
      (repeat' split) <;> omega
    · exact aw_eq a2 (fun c c0 c1 => (e _ (by omega)).symm)
    · exact aw_eq a4 (fun c c0 c1 => (e _ (by omega)).symm)
    · exact aw_eq a3 (fun c c0 c1 => (e _ (by omega)).symm)
  · rw [hm_row_ne _ _ (show r ≠ r + 2 by omega), hm_row_ne _ _ (show r + 3 ≠ r + 2 by omega), hm_row_ne _ _ (show r + 1 ≠ r + 2 by omega), hm_row_ne _ _ (show r + 4 ≠ r + 2 by omega), hm_row_same, e 0 (by omega), e 1 (by omega), e 2 (by omega), e 3 (by omega), fl 4 (by decide) (by decide), fl 5 (by decide) (by decide), fl 6 (by decide) (by decide)]
    refine ⟨⟨h4, h5, h6, h8, h9, h10, ?_, ?_, ?_⟩, h7, ?_⟩
    · exact aw_eq a1 (fun c c0 c1 => (e _ (by omega)).symm)
    · refine aw_eq (aw_upd a2 hb0 hx0 hx) (fun c c0 c1 => ?_)
      simp only [zup]
      (repeat' split) <;> omega
    · exact aw_eq a4 (fun c c0 c1 => (e _ (by omega)).symm)
    · exact aw_eq a3 (fun c c0 c1 => (e _ (by omega)).symm)
end F10
