/-! THE READING OF A TAPE, told once for both sides: a state is (c, k): c the fault (0: none), k the place; gN a number, gS a sign, gP a pair, gB a basin, gL basins, gH all -/
section P0
variable {tp w : Int → Int} {tl k k' c c' lo hi s v u n kd a b : Int}
def pyt (tp : Int → Int) (tl k : Int) : Int := if k < tl then tp k else -1
theorem pyt_lt (h : k < tl) : pyt tp tl k = tp k := by unfold pyt; rw [if_pos h]
theorem pyt_ge (h : tl ≤ k) : pyt tp tl k = -1 := by unfold pyt; rw [if_neg (by omega)]
def figN (tp : Int → Int) (tl : Int) : Nat → Int → Int
  | 0, _ => 0
  | n + 1, k => if 48 ≤ pyt tp tl k ∧ pyt tp tl k ≤ 57 then 1 + figN tp tl n (k + 1) else 0
def figs (tp : Int → Int) (tl k : Int) : Int := figN tp tl (tl - k).toNat k
theorem figs_eq : figs tp tl k = if 48 ≤ pyt tp tl k ∧ pyt tp tl k ≤ 57 then 1 + figs tp tl (k + 1) else 0 := by
  unfold figs
  by_cases h : k < tl
  · rw [show (tl - k).toNat = (tl - (k + 1)).toNat + 1 by omega, figN]
  · rw [show (tl - k).toNat = 0 by omega, figN, if_neg (by rw [pyt_ge (by omega)]; omega)]
theorem figs_t (h : 48 ≤ pyt tp tl k ∧ pyt tp tl k ≤ 57) : figs tp tl k = 1 + figs tp tl (k + 1) := by rw [figs_eq, if_pos h]
theorem figs_f (h : ¬ (48 ≤ pyt tp tl k ∧ pyt tp tl k ≤ 57)) : figs tp tl k = 0 := by rw [figs_eq, if_neg h]
theorem figN_le (tp : Int → Int) (tl : Int) : ∀ (n : Nat) (k : Int), 0 ≤ figN tp tl n k ∧ figN tp tl n k ≤ n
  | 0, k => by simp [figN]
  | n + 1, k => by
    have := figN_le tp tl n (k + 1)
    rw [figN]; split <;> omega
theorem figs_ge (tp : Int → Int) (tl k : Int) : 0 ≤ figs tp tl k := (figN_le tp tl _ k).1
theorem figs_le (tp : Int → Int) (h : k ≤ tl) : k + figs tp tl k ≤ tl := by
  have := figN_le tp tl (tl - k).toNat k
  unfold figs; omega
theorem figs_1 (h : 1 ≤ figs tp tl k) : 48 ≤ pyt tp tl k ∧ pyt tp tl k ≤ 57 := by
  by_cases hc : 48 ≤ pyt tp tl k ∧ pyt tp tl k ≤ 57
  · exact hc
  · rw [figs_f hc] at h; omega
theorem figs_2 (h : 2 ≤ figs tp tl k) : 48 ≤ pyt tp tl (k + 1) ∧ pyt tp tl (k + 1) ≤ 57 := by
  rw [figs_t (figs_1 (by omega))] at h
  exact figs_1 (by omega)
def pB (tp : Int → Int) (tl : Int) : Prop := 0 ≤ tl ∧ tl ≤ 90 ∧ ∀ i : Int, 0 ≤ i → i < tl → 0 ≤ tp i ∧ tp i ≤ 255
theorem pyt_R (h : pB tp tl) (hk : 0 ≤ k) : -1 ≤ pyt tp tl k ∧ pyt tp tl k ≤ 255 ∧ (pyt tp tl k < 0 ↔ tl ≤ k) := by
  by_cases hc : k < tl
  · have := h.2.2 k hk hc
    rw [pyt_lt hc]; omega
  · rw [pyt_ge (by omega)]; omega
/-- what j figures from k on tell (the first two) -/
def nvj (tp : Int → Int) (tl k j : Int) : Int := if j < 1 then 0 else if j = 1 then pyt tp tl k - 48 else 10 * (pyt tp tl k - 48) + pyt tp tl (k + 1) - 48
def nv (tp : Int → Int) (tl k : Int) : Int := nvj tp tl k (figs tp tl k)
theorem nv_R : 0 ≤ nv tp tl k ∧ nv tp tl k ≤ 99 := by
  have h1 := @figs_1 tp tl k
  have h2 := @figs_2 tp tl k
  unfold nv nvj
  split
  · omega
  · split <;> omega
def tok (tp : Int → Int) (tl k : Int) : Int := if 48 ≤ pyt tp tl k ∧ pyt tp tl k ≤ 57 then (if figs tp tl k < 3 then 2 else 5) else if pyt tp tl k < 0 then 0 else if 97 ≤ pyt tp tl k ∧ pyt tp tl k ≤ 122 then 1 else if pyt tp tl k = 44 then 3 else if pyt tp tl k = 59 then 4 else 5
def tvl (tp : Int → Int) (tl k : Int) : Int := if 48 ≤ pyt tp tl k ∧ pyt tp tl k ≤ 57 then nv tp tl k else pyt tp tl k
def tnd (tp : Int → Int) (tl k : Int) : Int := if 48 ≤ pyt tp tl k ∧ pyt tp tl k ≤ 57 then k + figs tp tl k else if pyt tp tl k < 0 then k else k + 1
theorem tok_R : 0 ≤ tok tp tl k ∧ tok tp tl k ≤ 5 := by unfold tok; (repeat' split) <;> omega
theorem tvl_R (h : pB tp tl) (hk : 0 ≤ k) : -1 ≤ tvl tp tl k ∧ tvl tp tl k ≤ 255 := by
  have := pyt_R h hk
  have := @nv_R tp tl k
  unfold tvl; split <;> omega
theorem tnd_R (h : pB tp tl) (hk : 0 ≤ k) (hk2 : k ≤ tl) : k ≤ tnd tp tl k ∧ tnd tp tl k ≤ tl := by
  have := pyt_R h hk
  have := figs_ge tp tl k
  have := figs_le tp hk2
  unfold tnd; (repeat' split) <;> omega
theorem tok_2 : tok tp tl k = 2 ↔ (1 ≤ figs tp tl k ∧ figs tp tl k ≤ 2) := by
  have h1 := @figs_1 tp tl k
  have h2 : (48 ≤ pyt tp tl k ∧ pyt tp tl k ≤ 57) → 1 ≤ figs tp tl k := fun h => by have := figs_t h; have := figs_ge tp tl (k + 1); omega
  unfold tok; (repeat' split) <;> omega
theorem tok_2n (h : tok tp tl k = 2) : tnd tp tl k = k + figs tp tl k ∧ tvl tp tl k = nv tp tl k := by
  have h1 := figs_1 (tok_2.mp h).1
  unfold tnd tvl; rw [if_pos h1, if_pos h1]; exact ⟨rfl, rfl⟩
theorem tok_3 : tok tp tl k = 3 ↔ pyt tp tl k = 44 := by unfold tok; (repeat' split) <;> omega
theorem tok_4 : tok tp tl k = 4 ↔ pyt tp tl k = 59 := by unfold tok; (repeat' split) <;> omega
theorem tok_0 (h : pB tp tl) (hk : 0 ≤ k) : tok tp tl k = 0 ↔ tl ≤ k := by
  have := pyt_R h hk
  unfold tok; (repeat' split) <;> omega
theorem tok_1 : tok tp tl k = 1 ↔ 97 ≤ pyt tp tl k ∧ pyt tp tl k ≤ 122 := by unfold tok; (repeat' split) <;> omega
theorem tnd_1 (h : 58 ≤ pyt tp tl k ∨ pyt tp tl k = 44) : tnd tp tl k = k + 1 ∧ tvl tp tl k = pyt tp tl k := by
  unfold tnd tvl; rw [if_neg (by omega), if_neg (by omega), if_neg (by omega)]; exact ⟨rfl, rfl⟩
def kdO (c : Int) : Int := if c = 112 then 1 else if c = 115 then 2 else if c = 108 then 3 else if c = 98 then 4 else if c = 114 then 5 else 0
theorem kdO_R : 0 ≤ kdO c ∧ kdO c ≤ 5 ∧ (0 < kdO c → 98 ≤ c ∧ c ≤ 115) := by unfold kdO; (repeat' split) <;> omega
theorem kd_tok : (tok tp tl k = 1 ∧ 0 < kdO (tvl tp tl k)) ↔ 0 < kdO (pyt tp tl k) := by
  constructor
  · rintro ⟨h1, h2⟩
    rw [(tnd_1 (Or.inl (by have := tok_1.mp h1; omega))).2] at h2
    exact h2
  · intro h
    have h3 := (kdO_R (c := pyt tp tl k)).2.2 h
    rw [(tnd_1 (Or.inl (by omega))).2]
    exact ⟨tok_1.mpr (by omega), h⟩
def gN (tp : Int → Int) (tl c k lo hi : Int) : Int × Int × Int := if c ≠ 0 then (c, k, 0) else if ¬ (1 ≤ figs tp tl k ∧ figs tp tl k ≤ 2) then (1, k, 0) else if lo ≤ nv tp tl k ∧ nv tp tl k ≤ hi then (0, k + figs tp tl k, nv tp tl k) else (2, k, 0)
def gS (tp : Int → Int) (tl c k s : Int) : Int × Int := if c ≠ 0 then (c, k) else if pyt tp tl k = s then (0, k + 1) else (1, k)
def gP (tp : Int → Int) (tl c k fm lo hi : Int) : Int × Int × Int × Int :=
  let a := gN tp tl c k 0 fm
  let b := gS tp tl a.1 a.2.1 44
  let e := gN tp tl b.1 b.2 lo hi
  let f := gS tp tl e.1 e.2.1 59
  (f.1, f.2, a.2.2, e.2.2)
def mAdd (w : Int → Int) (kd p s : Int) : Int → Int := zup (zup (zup (zup (zup (zup w (4 + 7 * w 2) kd) (4 + 7 * w 2 + 1) p) (4 + 7 * w 2 + 2) s) (4 + 7 * w 2 + 3) (w 2)) (4 + 7 * w 2 + 4) 1) 2 (w 2 + 1)
def gB (tp : Int → Int) (tl c k : Int) (w : Int → Int) : Int × Int × (Int → Int) :=
  if c ≠ 0 then (c, k, w) else if kdO (pyt tp tl k) = 0 then (1, k, w) else if 7 ≤ w 2 then (3, k, w)
  else if (gP tp tl 0 (k + 1) 20 0 30).1 = 0 then (0, (gP tp tl 0 (k + 1) 20 0 30).2.1, mAdd w (kdO (pyt tp tl k)) (gP tp tl 0 (k + 1) 20 0 30).2.2.1 (gP tp tl 0 (k + 1) 20 0 30).2.2.2)
  else ((gP tp tl 0 (k + 1) 20 0 30).1, (gP tp tl 0 (k + 1) 20 0 30).2.1, w)
def gL (tp : Int → Int) (tl : Int) : Nat → Int × Int × (Int → Int) → Int × Int × (Int → Int)
  | 0, x => x
  | n + 1, x => if x.1 ≠ 0 ∨ tl ≤ x.2.1 then x else gL tp tl n (gB tp tl x.1 x.2.1 x.2.2)
def gW0 (tp : Int → Int) (tl : Int) : Int × Int × Int × Int := gP tp tl (gS tp tl 0 0 107).1 (gS tp tl 0 0 107).2 9 5 60
def mLaw (h c : Int) : Int → Int := zup (zup (fun _ => 0) 0 h) 1 c
def gH (tp : Int → Int) (tl : Int) : Int × Int × (Int → Int) := gL tp tl 91 (gB tp tl (gW0 tp tl).1 (gW0 tp tl).2.1 (mLaw (gW0 tp tl).2.2.1 (gW0 tp tl).2.2.2))
/-! what they keep -/
theorem gN_R (h : pB tp tl) (hk : 0 ≤ k) (hk2 : k ≤ tl) (hl : 0 ≤ lo) (hh : lo ≤ hi) (hc : 0 ≤ c) (hc3 : c ≤ 3) : 0 ≤ (gN tp tl c k lo hi).1 ∧ (gN tp tl c k lo hi).1 ≤ 3 ∧ k ≤ (gN tp tl c k lo hi).2.1 ∧ (gN tp tl c k lo hi).2.1 ≤ tl ∧ 0 ≤ (gN tp tl c k lo hi).2.2 ∧ (gN tp tl c k lo hi).2.2 ≤ hi ∧ ((gN tp tl c k lo hi).1 = 0 → c = 0 ∧ lo ≤ (gN tp tl c k lo hi).2.2) ∧ (c ≠ 0 → (gN tp tl c k lo hi).1 = c ∧ (gN tp tl c k lo hi).2.1 = k) := by
  have := figs_ge tp tl k
  have := figs_le tp hk2
  unfold gN; (repeat' split) <;> dsimp only <;> omega
theorem gS_R (h : pB tp tl) (hk : 0 ≤ k) (hk2 : k ≤ tl) (hs : 0 ≤ s) (hc : 0 ≤ c) (hc3 : c ≤ 3) : 0 ≤ (gS tp tl c k s).1 ∧ (gS tp tl c k s).1 ≤ 3 ∧ k ≤ (gS tp tl c k s).2 ∧ (gS tp tl c k s).2 ≤ tl ∧ ((gS tp tl c k s).1 = 0 → c = 0 ∧ (gS tp tl c k s).2 = k + 1) ∧ (c ≠ 0 → (gS tp tl c k s).1 = c ∧ (gS tp tl c k s).2 = k) := by
  have := pyt_R h hk
  unfold gS; (repeat' split) <;> dsimp only <;> omega
theorem gP_R (h : pB tp tl) (hk : 0 ≤ k) (hk2 : k ≤ tl) (ha : 0 ≤ a) (hl : 0 ≤ lo) (hh : lo ≤ hi) (hc : 0 ≤ c) (hc3 : c ≤ 3) : 0 ≤ (gP tp tl c k a lo hi).1 ∧ (gP tp tl c k a lo hi).1 ≤ 3 ∧ k ≤ (gP tp tl c k a lo hi).2.1 ∧ (gP tp tl c k a lo hi).2.1 ≤ tl ∧ 0 ≤ (gP tp tl c k a lo hi).2.2.1 ∧ (gP tp tl c k a lo hi).2.2.1 ≤ a ∧ 0 ≤ (gP tp tl c k a lo hi).2.2.2 ∧ (gP tp tl c k a lo hi).2.2.2 ≤ hi ∧ ((gP tp tl c k a lo hi).1 = 0 → c = 0 ∧ lo ≤ (gP tp tl c k a lo hi).2.2.2) ∧ (c ≠ 0 → (gP tp tl c k a lo hi).1 = c ∧ (gP tp tl c k a lo hi).2.1 = k) := by
  have h1 := gN_R (lo := 0) (hi := a) h hk hk2 (by decide) ha hc hc3
  have h2 := gS_R (s := 44) h (k := (gN tp tl c k 0 a).2.1) (c := (gN tp tl c k 0 a).1) (by omega) (by omega) (by decide) (by omega) (by omega)
  have h3 := gN_R (lo := lo) (hi := hi) h (k := (gS tp tl (gN tp tl c k 0 a).1 (gN tp tl c k 0 a).2.1 44).2) (c := (gS tp tl (gN tp tl c k 0 a).1 (gN tp tl c k 0 a).2.1 44).1) (by omega) (by omega) hl hh (by omega) (by omega)
  have h4 := gS_R (s := 59) h (k := (gN tp tl (gS tp tl (gN tp tl c k 0 a).1 (gN tp tl c k 0 a).2.1 44).1 (gS tp tl (gN tp tl c k 0 a).1 (gN tp tl c k 0 a).2.1 44).2 lo hi).2.1) (c := (gN tp tl (gS tp tl (gN tp tl c k 0 a).1 (gN tp tl c k 0 a).2.1 44).1 (gS tp tl (gN tp tl c k 0 a).1 (gN tp tl c k 0 a).2.1 44).2 lo hi).1) (by omega) (by omega) (by decide) (by omega) (by omega)
  unfold gP
  dsimp only
  omega
/-- a hob as it is read -/
def mDr (w : Int → Int) : Prop := (0 ≤ w 2 ∧ w 2 ≤ 7) ∧ (0 ≤ w 0 ∧ w 0 ≤ 9) ∧ (0 ≤ w 1 ∧ w 1 ≤ 60) ∧ w 3 = 0 ∧ (∀ b : Int, 0 ≤ b → b < w 2 → 1 ≤ w (4 + 7 * b) ∧ w (4 + 7 * b) ≤ 5 ∧ 0 ≤ w (4 + 7 * b + 1) ∧ w (4 + 7 * b + 1) ≤ 20 ∧ 0 ≤ w (4 + 7 * b + 2) ∧ w (4 + 7 * b + 2) ≤ 30 ∧ w (4 + 7 * b + 3) = b ∧ w (4 + 7 * b + 4) = 1 ∧ w (4 + 7 * b + 5) = 0 ∧ w (4 + 7 * b + 6) = 0) ∧ (∀ b q : Int, w 2 ≤ b → b < 7 → 0 ≤ q → q < 7 → w (4 + 7 * b + q) = 0)
theorem mDr_law (h0 : 0 ≤ a) (h1 : a ≤ 9) (h2 : 0 ≤ c) (h3 : c ≤ 60) : mDr (mLaw a c) := by
  have e0 : mLaw a c 0 = a := by simp [mLaw, zup]
  have e1 : mLaw a c 1 = c := by simp [mLaw, zup]
  have e2 : ∀ i : Int, 2 ≤ i → mLaw a c i = 0 := fun i hi => by unfold mLaw zup; rw [if_neg (by omega), if_neg (by omega)]
  refine ⟨by rw [e2 2 (by decide)]; omega, by omega, by omega, e2 3 (by decide), fun b b0 b1 => ?_, fun b q b0 b1 q0 q1 => ?_⟩
  · rw [e2 2 (by decide)] at b1; omega
  · rw [e2 2 (by decide)] at b0; exact e2 _ (by omega)
theorem mAdd_2 : mAdd w kd a b 2 = w 2 + 1 := by simp [mAdd, zup]
theorem mDr_add (h : mDr w) (h7 : w 2 < 7) (k0 : 1 ≤ kd) (k1 : kd ≤ 5) (a0 : 0 ≤ a) (a1 : a ≤ 20) (b0 : 0 ≤ b) (b1 : b ≤ 30) : mDr (mAdd w kd a b) := by
  obtain ⟨d1, d2, d3, d4, d5, d6⟩ := h
  have hl : ∀ i : Int, i < 4 → i ≠ 2 → mAdd w kd a b i = w i := fun i h1 h2 => by
    unfold mAdd zup
    rw [if_neg (by omega), if_neg (by omega), if_neg (by omega), if_neg (by omega), if_neg (by omega), if_neg (by omega)]
  have ho : ∀ x q : Int, 0 ≤ x → x ≠ w 2 → 0 ≤ q → q < 7 → mAdd w kd a b (4 + 7 * x + q) = w (4 + 7 * x + q) := fun x q h1 h2 h3 h4 => by
    unfold mAdd zup
    rw [if_neg (by omega), if_neg (by omega), if_neg (by omega), if_neg (by omega), if_neg (by omega), if_neg (by omega)]
  have hn : mAdd w kd a b (4 + 7 * w 2) = kd ∧ mAdd w kd a b (4 + 7 * w 2 + 1) = a ∧ mAdd w kd a b (4 + 7 * w 2 + 2) = b ∧ mAdd w kd a b (4 + 7 * w 2 + 3) = w 2 ∧ mAdd w kd a b (4 + 7 * w 2 + 4) = 1 ∧ mAdd w kd a b (4 + 7 * w 2 + 5) = 0 ∧ mAdd w kd a b (4 + 7 * w 2 + 6) = 0 := by
    have z5 := d6 (w 2) 5 (Int.le_refl _) h7 (by decide) (by decide)
    have z6 := d6 (w 2) 6 (Int.le_refl _) h7 (by decide) (by decide)
    unfold mAdd zup
    refine ⟨?_, ?_, ?_, ?_, ?_, ?_, ?_⟩
    · rw [if_neg (by omega), if_neg (by omega), if_neg (by omega), if_neg (by omega), if_neg (by omega), if_pos (by omega)]
    · rw [if_neg (by omega), if_neg (by omega), if_neg (by omega), if_neg (by omega), if_pos (by omega)]
    · rw [if_neg (by omega), if_neg (by omega), if_neg (by omega), if_pos (by omega)]
    · rw [if_neg (by omega), if_neg (by omega), if_pos (by omega)]
    · rw [if_neg (by omega), if_pos (by omega)]
    · rw [if_neg (by omega), if_neg (by omega), if_neg (by omega), if_neg (by omega), if_neg (by omega), if_neg (by omega)]; exact z5
    · rw [if_neg (by omega), if_neg (by omega), if_neg (by omega), if_neg (by omega), if_neg (by omega), if_neg (by omega)]; exact z6
  refine ⟨by rw [mAdd_2]; omega, by rw [hl 0 (by decide) (by decide)]; exact d2, by rw [hl 1 (by decide) (by decide)]; exact d3, by rw [hl 3 (by decide) (by decide)]; exact d4, fun x x0 x1 => ?_, fun x q x0 x1 q0 q1 => ?_⟩
  · rw [mAdd_2] at x1
    by_cases hx : x = w 2
    · subst hx
      obtain ⟨n0, n1, n2, n3, n4, n5, n6⟩ := hn
      rw [n0, n1, n2, n3, n4, n5, n6]; omega
    · have h0 := ho x 0 x0 hx (by decide) (by decide)
      rw [Int.add_zero] at h0
      rw [h0, ho x 1 x0 hx (by decide) (by decide), ho x 2 x0 hx (by decide) (by decide), ho x 3 x0 hx (by decide) (by decide), ho x 4 x0 hx (by decide) (by decide), ho x 5 x0 hx (by decide) (by decide), ho x 6 x0 hx (by decide) (by decide)]
      exact d5 x x0 (by omega)
  · rw [mAdd_2] at x0
    rw [ho x q (by omega) (by omega) q0 q1]
    exact d6 x q (by omega) x1 q0 q1
theorem mDr.wf (h : mDr w) : mWf w := by
  obtain ⟨d1, d2, d3, d4, d5, d6⟩ := h
  refine ⟨⟨d1, fun b q b0 b1 q0 q1 => ?_, fun b c b0 b1 c0 c1 e => ?_⟩, fun i i0 i1 => ?_, fun b b0 b1 => ?_, d6, by omega, by omega⟩
  · by_cases hb : b < w 2
    · have := d5 b b0 hb
      obtain rfl | rfl | rfl : q = 4 ∨ q = 5 ∨ q = 6 := by omega
      all_goals omega
    · left; exact d6 b q (by omega) b1 (by omega) q1
  · have h1 := d5 b b0 b1
    have h2 := d5 c c0 c1
    omega
  · by_cases h4 : i < 4
    · obtain rfl | rfl | rfl | rfl : i = 0 ∨ i = 1 ∨ i = 2 ∨ i = 3 := by omega
      all_goals omega
    · obtain ⟨b, q, e, b0, b1, q0, q1⟩ : ∃ b q : Int, i = 4 + 7 * b + q ∧ 0 ≤ b ∧ b < 7 ∧ 0 ≤ q ∧ q < 7 := ⟨(i - 4) / 7, (i - 4) % 7, by omega, by omega, by omega, by omega, by omega⟩
      subst e
      by_cases hb : b < w 2
      · have := d5 b b0 hb
        obtain rfl | rfl | rfl | rfl | rfl | rfl | rfl : q = 0 ∨ q = 1 ∨ q = 2 ∨ q = 3 ∨ q = 4 ∨ q = 5 ∨ q = 6 := by omega
        all_goals (try rw [Int.add_zero]); omega
      · rw [d6 b q (by omega) b1 q0 q1]; omega
  · have := d5 b b0 b1
    omega
theorem gB_R (h : pB tp tl) (hk : 0 ≤ k) (hk2 : k ≤ tl) (hc : 0 ≤ c) (hc3 : c ≤ 3) (hw : mDr w) : 0 ≤ (gB tp tl c k w).1 ∧ (gB tp tl c k w).1 ≤ 3 ∧ k ≤ (gB tp tl c k w).2.1 ∧ (gB tp tl c k w).2.1 ≤ tl ∧ mDr (gB tp tl c k w).2.2 ∧ (gB tp tl c k w).2.2 1 = w 1 ∧ ((gB tp tl c k w).1 = 0 → c = 0 ∧ k < (gB tp tl c k w).2.1 ∧ 1 ≤ (gB tp tl c k w).2.2 2) := by
  have hp := pyt_R h hk
  have hkd := @kdO_R (pyt tp tl k)
  have hw2 := hw.1
  unfold gB
  by_cases h1 : c ≠ 0
  · rw [if_pos h1]; exact ⟨hc, hc3, Int.le_refl _, hk2, hw, rfl, fun z => absurd z h1⟩
  · rw [if_neg h1]
    by_cases h2 : kdO (pyt tp tl k) = 0
    · rw [if_pos h2]; exact ⟨by dsimp only; decide, by dsimp only; decide, Int.le_refl _, hk2, hw, rfl, fun z => by dsimp only at z; omega⟩
    · rw [if_neg h2]
      by_cases h3 : 7 ≤ w 2
      · rw [if_pos h3]; exact ⟨by dsimp only; decide, by dsimp only; decide, Int.le_refl _, hk2, hw, rfl, fun z => by dsimp only at z; omega⟩
      · rw [if_neg h3]
        have g := gP_R (a := 20) (lo := 0) (hi := 30) (c := 0) h (k := k + 1) (by omega) (by omega) (by decide) (by decide) (by decide) (by decide) (by decide)
        generalize gP tp tl 0 (k + 1) 20 0 30 = r at g ⊢
        by_cases h4 : r.1 = 0
        · rw [if_pos h4]
          refine ⟨by dsimp only; decide, by dsimp only; decide, by dsimp only; omega, by dsimp only; omega, mDr_add hw (by omega) (by omega) (by omega) (by omega) (by omega) (by omega) (by omega), ?_, fun _ => ⟨by omega, by dsimp only; omega, ?_⟩⟩
          · show mAdd _ _ _ _ 1 = _
            unfold mAdd zup
            rw [if_neg (by omega), if_neg (by omega), if_neg (by omega), if_neg (by omega), if_neg (by omega), if_neg (by omega)]
          · dsimp only; rw [mAdd_2]; omega
        · rw [if_neg h4]
          exact ⟨by dsimp only; omega, by dsimp only; omega, by dsimp only; omega, by dsimp only; omega, hw, rfl, fun z => absurd z h4⟩
theorem gL_bad (n : Nat) (h : c ≠ 0) : gL tp tl n (c, k, w) = (c, k, w) := by
  cases n with
  | zero => rfl
  | succ n => rw [gL, if_pos (Or.inl h)]
theorem gL_end (n : Nat) (h : tl ≤ k) : gL tp tl n (c, k, w) = (c, k, w) := by
  cases n with
  | zero => rfl
  | succ n => rw [gL, if_pos (Or.inr h)]
theorem gL_step (n : Nat) (h : c = 0) (h2 : k < tl) : gL tp tl (n + 1) (c, k, w) = gL tp tl n (gB tp tl 0 k w) := by
  subst h
  rw [gL, if_neg (by dsimp only; omega)]
theorem gL_R (h : pB tp tl) : ∀ (n : Nat) (c k : Int) (w : Int → Int), 0 ≤ k → k ≤ tl → 0 ≤ c → c ≤ 3 → mDr w → (c = 0 → 1 ≤ w 2 ∧ 5 ≤ w 1) → 0 ≤ (gL tp tl n (c, k, w)).1 ∧ (gL tp tl n (c, k, w)).1 ≤ 3 ∧ 0 ≤ (gL tp tl n (c, k, w)).2.1 ∧ (gL tp tl n (c, k, w)).2.1 ≤ tl ∧ mDr (gL tp tl n (c, k, w)).2.2 ∧ ((gL tp tl n (c, k, w)).1 = 0 → 1 ≤ (gL tp tl n (c, k, w)).2.2 2 ∧ 5 ≤ (gL tp tl n (c, k, w)).2.2 1)
  | 0, c, k, w, k0, k1, c0, c3, hw, h5 => ⟨c0, c3, k0, k1, hw, h5⟩
  | n + 1, c, k, w, k0, k1, c0, c3, hw, h5 => by
    rw [gL]
    by_cases hc : c ≠ 0 ∨ tl ≤ k
    · rw [if_pos hc]; exact ⟨c0, c3, k0, k1, hw, h5⟩
    · rw [if_neg hc]
      have g := gB_R h k0 k1 c0 c3 hw
      have := h5 (by omega)
      dsimp only
      generalize gB tp tl c k w = r at g ⊢
      obtain ⟨c1, k1', w1⟩ := r
      dsimp only at g
      exact gL_R h n c1 k1' w1 (by omega) (by omega) (by omega) (by omega) g.2.2.2.2.1 (fun z => by have := g.2.2.2.2.2.2 z; have := g.2.2.2.2.2.1; omega)
theorem gW0_R (h : pB tp tl) : 0 ≤ (gW0 tp tl).1 ∧ (gW0 tp tl).1 ≤ 3 ∧ 0 ≤ (gW0 tp tl).2.1 ∧ (gW0 tp tl).2.1 ≤ tl ∧ 0 ≤ (gW0 tp tl).2.2.1 ∧ (gW0 tp tl).2.2.1 ≤ 9 ∧ 0 ≤ (gW0 tp tl).2.2.2 ∧ (gW0 tp tl).2.2.2 ≤ 60 ∧ ((gW0 tp tl).1 = 0 → 5 ≤ (gW0 tp tl).2.2.2) := by
  have h0 := h.1
  have g1 := gS_R (s := 107) (k := 0) (c := 0) h (by decide) (by omega) (by decide) (by decide) (by decide)
  have g2 := gP_R (a := 9) (lo := 5) (hi := 60) h (k := (gS tp tl 0 0 107).2) (c := (gS tp tl 0 0 107).1) (by omega) (by omega) (by decide) (by decide) (by decide) (by omega) (by omega)
  unfold gW0; omega
theorem gH_R (h : pB tp tl) : 0 ≤ (gH tp tl).1 ∧ (gH tp tl).1 ≤ 3 ∧ 0 ≤ (gH tp tl).2.1 ∧ (gH tp tl).2.1 ≤ tl ∧ mDr (gH tp tl).2.2 ∧ ((gH tp tl).1 = 0 → 1 ≤ (gH tp tl).2.2 2 ∧ 5 ≤ (gH tp tl).2.2 1) := by
  have g := gW0_R h
  have hd := mDr_law (a := (gW0 tp tl).2.2.1) (c := (gW0 tp tl).2.2.2) (by omega) (by omega) (by omega) (by omega)
  have e1 : mLaw (gW0 tp tl).2.2.1 (gW0 tp tl).2.2.2 1 = (gW0 tp tl).2.2.2 := by simp [mLaw, zup]
  have gb := gB_R h (k := (gW0 tp tl).2.1) (c := (gW0 tp tl).1) (by omega) (by omega) (by omega) (by omega) hd
  unfold gH
  generalize gB tp tl (gW0 tp tl).1 (gW0 tp tl).2.1 (mLaw (gW0 tp tl).2.2.1 (gW0 tp tl).2.2.2) = r at gb ⊢
  obtain ⟨c1, k1', w1⟩ := r
  dsimp only at gb
  exact gL_R h 91 c1 k1' w1 (by omega) (by omega) (by omega) (by omega) gb.2.2.2.2.1 (fun z => by have := gb.2.2.2.2.2.2 z; have := gb.2.2.2.2.2.1; omega)
end P0
