/-! THE SAME ROWS OVER WHOLE NUMBERS: every int of the machine is told as zI of a whole number -/
def zI (a : Int) : Int32 := Int32.ofInt a
def zR (a : Int) : Prop := -2147483648 ≤ a ∧ a ≤ 2147483647
theorem zI_toInt {a : Int} (h : zR a) : (zI a).toInt = a := Int32.toInt_ofInt_of_le (by have := h.1; omega) (by have := h.2; omega)
theorem zI_of (x : Int32) : ∃ a : Int, zR a ∧ x = zI a := ⟨x.toInt, ⟨by have := x.le_toInt; omega, by have := x.toInt_lt; omega⟩, (Int32.ofInt_toInt x).symm⟩
theorem zI_nI (n : Nat) : nI n = zI (n : Int) := rfl
theorem zI_add (a b : Int) : zI a + zI b = zI (a + b) := (Int32.ofInt_add a b).symm
theorem zI_sub (a b : Int) : zI a - zI b = zI (a - b) := (Int32.ofInt_sub a b).symm
theorem zI_mul (a b : Int) : zI a * zI b = zI (a * b) := (Int32.ofInt_mul a b).symm
theorem zI_neg (a : Int) : - zI a = zI (-a) := (Int32.ofInt_neg a).symm
theorem zI_inj {a b : Int} (ha : zR a) (hb : zR b) : zI a = zI b ↔ a = b := by
  rw [← Int32.toInt_inj, zI_toInt ha, zI_toInt hb]
theorem zI_lt {a b : Int} (ha : zR a) (hb : zR b) : zI a < zI b ↔ a < b := by
  rw [Int32.lt_iff_toInt_lt, zI_toInt ha, zI_toInt hb]
theorem zI_le {a b : Int} (ha : zR a) (hb : zR b) : zI a ≤ zI b ↔ a ≤ b := by
  rw [Int32.le_iff_toInt_le, zI_toInt ha, zI_toInt hb]
theorem zI_nat {a : Int} (h0 : 0 ≤ a) (h : a ≤ 2147483647) : zI a = nI a.toNat := by
  rw [zI_nI, Int.toNat_of_nonneg h0]
theorem zI_div {a b : Int} (ha : 0 ≤ a) (ha2 : a ≤ 2147483647) (hb : 0 < b) (hb2 : b ≤ 2147483647) : zI a / zI b = zI (a / b) := by
  rw [zI_nat ha ha2, zI_nat (Int.le_of_lt hb) hb2, pk_div (by omega) (by omega) (by omega), zI_nI]
  congr 1
  rw [Int.natCast_ediv, Int.toNat_of_nonneg ha, Int.toNat_of_nonneg (Int.le_of_lt hb)]
theorem zI_rem {a b : Int} (ha : 0 ≤ a) (ha2 : a ≤ 2147483647) (hb : 0 < b) (hb2 : b ≤ 2147483647) : zI a - zI a / zI b * zI b = zI (a % b) := by
  rw [zI_nat ha ha2, zI_nat (Int.le_of_lt hb) hb2, pk_rem (by omega) (by omega) (by omega), zI_nI]
  congr 1
  rw [Int.natCast_emod, Int.toNat_of_nonneg ha, Int.toNat_of_nonneg (Int.le_of_lt hb)]
/-- the first m places of a row hold the numbers w, from lo to hi -/
def aw (f : Nat → Int32) (m lo hi : Int) (w : Int → Int) : Prop := ∀ i : Int, 0 ≤ i → i < m → f i.toNat = zI (w i) ∧ lo ≤ w i ∧ w i ≤ hi
def zup (w : Int → Int) (a v : Int) : Int → Int := fun i => if i = a then v else w i
theorem aw_upd {f : Nat → Int32} {m lo hi : Int} {w : Int → Int} {a v : Int} (h : aw f m lo hi w) (h0 : 0 ≤ a) (hl : lo ≤ v) (hh : v ≤ hi) : aw (upd f a.toNat (zI v)) m lo hi (zup w a v) := by
  intro i i0 i1
  by_cases hi : i = a
  · subst hi; simp [upd, zup, hl, hh]
  · obtain ⟨h1, h2, h3⟩ := h i i0 i1
    have hne : ¬ i.toNat = a.toNat := by omega
    simp [upd, zup, hi, hne, h1, h2, h3]
theorem aw_sub {f : Nat → Int32} {m m' lo hi lo' hi' : Int} {w w' : Int → Int} (h : aw f m lo hi w) (hm : m' ≤ m) (hl : lo' ≤ lo) (hh : hi ≤ hi') (hw : ∀ i, 0 ≤ i → i < m' → w i = w' i) : aw f m' lo' hi' w' := by
  intro i i0 i1
  obtain ⟨h1, h2, h3⟩ := h i i0 (by omega)
  rw [← hw i i0 i1]
  exact ⟨h1, by omega, by omega⟩
theorem aw_eq {f : Nat → Int32} {m lo hi : Int} {w w' : Int → Int} (h : aw f m lo hi w) (hw : ∀ i, 0 ≤ i → i < m → w i = w' i) : aw f m lo hi w' := aw_sub h (Int.le_refl _) (Int.le_refl _) (Int.le_refl _) hw
theorem hm_row_same (M : hm_M) (k : Nat) (f : Nat → Int32) : hm_row M k f k = f := by simp [hm_row]
theorem hm_row_ne (M : hm_M) {k q : Nat} (f : Nat → Int32) (h : q ≠ k) : hm_row M k f q = M q := by simp [hm_row, h]
theorem hm_row_row (M : hm_M) (k : Nat) (f g : Nat → Int32) : hm_row (hm_row M k f) k g = hm_row M k g := by
  funext q; by_cases h : q = k <;> simp [hm_row, h]
theorem hm_row_self (M : hm_M) (k : Nat) : hm_row M k (M k) = M := by
  funext q; by_cases h : q = k <;> simp [hm_row, h]
theorem hm_row_comm (M : hm_M) {k j : Nat} (f g : Nat → Int32) (h : k ≠ j) : hm_row (hm_row M k f) j g = hm_row (hm_row M j g) k f := by
  funext q
  by_cases h1 : q = k
  · subst h1; simp [hm_row, h]
  · by_cases h2 : q = j
    · subst h2; simp [hm_row, h1]
    · simp [hm_row, h1, h2]
section ZR
variable {d mid pc nx b tg : Nat} {c : Int} {l : List (Int × Nat)} {ls ls' : hm_L} {st : List hm_V} {M : hm_M} {Q : Option hm_V → hm_M → Prop} {x y : Int} {k n : Nat} {f : Nat → Int32}
theorem z_const {v : Int} (h : hm_at mid pc = some (nx, 0, c, b, l)) (hv : (b : Int) = v) (kk : hm_Wp d mid nx ls (.inl (zI v) :: st) M Q) : hm_Wp d mid pc ls st M Q := by subst hv; exact q_const h kk
theorem z_neg (h : hm_at mid pc = some (nx, 31, c, b, l)) (kk : hm_Wp d mid nx ls (.inl (zI c) :: st) M Q) : hm_Wp d mid pc ls st M Q := q_neg h rfl kk
theorem z_iinc (h : hm_at mid pc = some (nx, 3, c, b, l)) (hv : ls[b]? = some (some (.inl (zI x)))) (hp : hm_put 0 b (.inl (zI (x + c))) ls = some ls') (kk : hm_Wp d mid nx ls' st M Q) : hm_Wp d mid pc ls st M Q := q_iinc h hv (zI_add x c) hp kk
theorem z_iadd (h : hm_at mid pc = some (nx, 4, c, 0, l)) (kk : hm_Wp d mid nx ls (.inl (zI (x + y)) :: st) M Q) : hm_Wp d mid pc ls (.inl (zI y) :: .inl (zI x) :: st) M Q := q_iadd h (by rw [zI_add]; exact kk)
theorem z_isub (h : hm_at mid pc = some (nx, 4, c, 1, l)) (kk : hm_Wp d mid nx ls (.inl (zI (x - y)) :: st) M Q) : hm_Wp d mid pc ls (.inl (zI y) :: .inl (zI x) :: st) M Q := q_isub h (by rw [zI_sub]; exact kk)
theorem z_imul (h : hm_at mid pc = some (nx, 4, c, 2, l)) (kk : hm_Wp d mid nx ls (.inl (zI (x * y)) :: st) M Q) : hm_Wp d mid pc ls (.inl (zI y) :: .inl (zI x) :: st) M Q := q_imul h (by rw [zI_mul]; exact kk)
theorem z_ineg (h : hm_at mid pc = some (nx, 7, c, 0, l)) (kk : hm_Wp d mid nx ls (.inl (zI (-x)) :: st) M Q) : hm_Wp d mid pc ls (.inl (zI x) :: st) M Q := q_ineg h (by rw [zI_neg]; exact kk)
theorem z_idiv (h : hm_at mid pc = some (nx, 5, c, b, l)) (h0 : 0 ≤ x) (h1 : x ≤ 2147483647) (h2 : 0 < y) (h3 : y ≤ 2147483647) (kk : hm_Wp d mid nx ls (.inl (zI (x / y)) :: st) M Q) : hm_Wp d mid pc ls (.inl (zI y) :: .inl (zI x) :: st) M Q := q_idiv h (fun z => absurd ((zI_inj ⟨by omega, h3⟩ ⟨by decide, by decide⟩).mp (show zI y = zI 0 from z)) (by omega)) (by rw [zI_div h0 h1 h2 h3]; exact kk)
theorem z_irem (h : hm_at mid pc = some (nx, 6, c, b, l)) (h0 : 0 ≤ x) (h1 : x ≤ 2147483647) (h2 : 0 < y) (h3 : y ≤ 2147483647) (kk : hm_Wp d mid nx ls (.inl (zI (x % y)) :: st) M Q) : hm_Wp d mid pc ls (.inl (zI y) :: .inl (zI x) :: st) M Q := q_irem h (fun z => absurd ((zI_inj ⟨by omega, h3⟩ ⟨by decide, by decide⟩).mp (show zI y = zI 0 from z)) (by omega)) (by rw [zI_rem h0 h1 h2 h3]; exact kk)
theorem z_icmpeq (h : hm_at mid pc = some (nx, 15, c, 0, l)) (ht : c.toNat = tg) (hx : -2147483648 ≤ x ∧ x ≤ 2147483647) (hy : -2147483648 ≤ y ∧ y ≤ 2147483647) (kt : x = y → hm_Wp d mid tg ls st M Q) (kf : x ≠ y → hm_Wp d mid nx ls st M Q) : hm_Wp d mid pc ls (.inl (zI y) :: .inl (zI x) :: st) M Q := q_icmp _ (hc_eq.trans (zI_inj hx hy)) h ht kt kf
theorem z_icmpne (h : hm_at mid pc = some (nx, 15, c, 1, l)) (ht : c.toNat = tg) (hx : -2147483648 ≤ x ∧ x ≤ 2147483647) (hy : -2147483648 ≤ y ∧ y ≤ 2147483647) (kt : x ≠ y → hm_Wp d mid tg ls st M Q) (kf : x = y → hm_Wp d mid nx ls st M Q) : hm_Wp d mid pc ls (.inl (zI y) :: .inl (zI x) :: st) M Q := q_icmp _ (hc_ne.trans (not_congr (zI_inj hx hy))) h ht kt (fun z => kf (Classical.not_not.mp z))
theorem z_icmplt (h : hm_at mid pc = some (nx, 15, c, 2, l)) (ht : c.toNat = tg) (hx : -2147483648 ≤ x ∧ x ≤ 2147483647) (hy : -2147483648 ≤ y ∧ y ≤ 2147483647) (kt : x < y → hm_Wp d mid tg ls st M Q) (kf : y ≤ x → hm_Wp d mid nx ls st M Q) : hm_Wp d mid pc ls (.inl (zI y) :: .inl (zI x) :: st) M Q := q_icmp _ (hc_lt.trans (zI_lt hx hy)) h ht kt (fun z => kf (Int.not_lt.mp z))
theorem z_icmpge (h : hm_at mid pc = some (nx, 15, c, 3, l)) (ht : c.toNat = tg) (hx : -2147483648 ≤ x ∧ x ≤ 2147483647) (hy : -2147483648 ≤ y ∧ y ≤ 2147483647) (kt : y ≤ x → hm_Wp d mid tg ls st M Q) (kf : x < y → hm_Wp d mid nx ls st M Q) : hm_Wp d mid pc ls (.inl (zI y) :: .inl (zI x) :: st) M Q := q_icmp _ (hc_ge.trans (zI_le hy hx)) h ht kt (fun z => kf (Int.not_le.mp z))
theorem z_icmpgt (h : hm_at mid pc = some (nx, 15, c, 4, l)) (ht : c.toNat = tg) (hx : -2147483648 ≤ x ∧ x ≤ 2147483647) (hy : -2147483648 ≤ y ∧ y ≤ 2147483647) (kt : y < x → hm_Wp d mid tg ls st M Q) (kf : x ≤ y → hm_Wp d mid nx ls st M Q) : hm_Wp d mid pc ls (.inl (zI y) :: .inl (zI x) :: st) M Q := q_icmp _ (hc_gt.trans (zI_lt hy hx)) h ht kt (fun z => kf (Int.not_lt.mp z))
theorem z_icmple (h : hm_at mid pc = some (nx, 15, c, 5, l)) (ht : c.toNat = tg) (hx : -2147483648 ≤ x ∧ x ≤ 2147483647) (hy : -2147483648 ≤ y ∧ y ≤ 2147483647) (kt : x ≤ y → hm_Wp d mid tg ls st M Q) (kf : y < x → hm_Wp d mid nx ls st M Q) : hm_Wp d mid pc ls (.inl (zI y) :: .inl (zI x) :: st) M Q := q_icmp _ (hc_le.trans (zI_le hx hy)) h ht kt (fun z => kf (Int.not_le.mp z))
theorem z_r0 : zR 0 := ⟨by decide, by decide⟩
theorem z_ifeq (h : hm_at mid pc = some (nx, 14, c, 0, l)) (ht : c.toNat = tg) (hx : -2147483648 ≤ x ∧ x ≤ 2147483647) (kt : x = 0 → hm_Wp d mid tg ls st M Q) (kf : x ≠ 0 → hm_Wp d mid nx ls st M Q) : hm_Wp d mid pc ls (.inl (zI x) :: st) M Q := q_if _ (hc_eq.trans (zI_inj hx z_r0)) h ht kt kf
theorem z_ifne (h : hm_at mid pc = some (nx, 14, c, 1, l)) (ht : c.toNat = tg) (hx : -2147483648 ≤ x ∧ x ≤ 2147483647) (kt : x ≠ 0 → hm_Wp d mid tg ls st M Q) (kf : x = 0 → hm_Wp d mid nx ls st M Q) : hm_Wp d mid pc ls (.inl (zI x) :: st) M Q := q_if _ (hc_ne.trans (not_congr (zI_inj hx z_r0))) h ht kt (fun z => kf (Classical.not_not.mp z))
theorem z_iflt (h : hm_at mid pc = some (nx, 14, c, 2, l)) (ht : c.toNat = tg) (hx : -2147483648 ≤ x ∧ x ≤ 2147483647) (kt : x < 0 → hm_Wp d mid tg ls st M Q) (kf : 0 ≤ x → hm_Wp d mid nx ls st M Q) : hm_Wp d mid pc ls (.inl (zI x) :: st) M Q := q_if _ (hc_lt.trans (zI_lt hx z_r0)) h ht kt (fun z => kf (Int.not_lt.mp z))
theorem z_ifge (h : hm_at mid pc = some (nx, 14, c, 3, l)) (ht : c.toNat = tg) (hx : -2147483648 ≤ x ∧ x ≤ 2147483647) (kt : 0 ≤ x → hm_Wp d mid tg ls st M Q) (kf : x < 0 → hm_Wp d mid nx ls st M Q) : hm_Wp d mid pc ls (.inl (zI x) :: st) M Q := q_if _ (hc_ge.trans (zI_le z_r0 hx)) h ht kt (fun z => kf (Int.not_le.mp z))
theorem z_ifgt (h : hm_at mid pc = some (nx, 14, c, 4, l)) (ht : c.toNat = tg) (hx : -2147483648 ≤ x ∧ x ≤ 2147483647) (kt : 0 < x → hm_Wp d mid tg ls st M Q) (kf : x ≤ 0 → hm_Wp d mid nx ls st M Q) : hm_Wp d mid pc ls (.inl (zI x) :: st) M Q := q_if _ (hc_gt.trans (zI_lt z_r0 hx)) h ht kt (fun z => kf (Int.not_lt.mp z))
theorem z_ifle (h : hm_at mid pc = some (nx, 14, c, 5, l)) (ht : c.toNat = tg) (hx : -2147483648 ≤ x ∧ x ≤ 2147483647) (kt : x ≤ 0 → hm_Wp d mid tg ls st M Q) (kf : 0 < x → hm_Wp d mid nx ls st M Q) : hm_Wp d mid pc ls (.inl (zI x) :: st) M Q := q_if _ (hc_le.trans (zI_le hx z_r0)) h ht kt (fun z => kf (Int.not_le.mp z))
theorem z_sw (h : hm_at mid pc = some (nx, 17, c, b, l)) (hx : -2147483648 ≤ x ∧ x ≤ 2147483647) (kk : hm_Wp d mid (hm_swt l c.toNat x) ls st M Q) : hm_Wp d mid pc ls (.inl (zI x) :: st) M Q := q_sw h (by rw [zI_toInt hx]) kk
theorem z_getf (h : hm_at mid pc = some (nx, 18, c, b, l)) (hf : hm_fld k c b = some none) (hv : M k b = zI x) (kk : hm_Wp d mid nx ls (.inl (zI x) :: st) M Q) : hm_Wp d mid pc ls (.inr (.inr k) :: st) M Q := q_getf h hf (by rw [hv]; exact kk)
theorem z_alx {m lo hi : Int} {w : Int → Int} (h : hm_at mid pc = some (nx, 20, c, 0, l)) (ha : hm_arr M false k = some (n, f)) (hw : aw f m lo hi w) (h0 : 0 ≤ x) (h1 : x < m) (hm : m ≤ (n : Int)) (hn : n < 2 ^ 31) (kk : ∀ v : Int, v = w x → lo ≤ v → v ≤ hi → hm_Wp d mid nx ls (.inl (zI v) :: st) M Q) : hm_Wp d mid pc ls (.inl (zI x) :: .inr (.inr k) :: st) M Q := by
  obtain ⟨e1, e2, e3⟩ := hw x h0 h1
  rw [zI_nat h0 (by omega)]
  refine q_ald h ha (by omega) hn ?_
  rw [e1]
  exact kk _ rfl e2 e3
theorem z_asx (h : hm_at mid pc = some (nx, 21, c, 0, l)) (ha : hm_sh[k]? = some (.inl (false, n))) (h0 : 0 ≤ x) (h1 : x < (n : Int)) (hn : n < 2 ^ 31) (kk : hm_Wp d mid nx ls st (hm_row M k (upd (M k) x.toNat (zI y))) Q) : hm_Wp d mid pc ls (.inl (zI y) :: .inl (zI x) :: .inr (.inr k) :: st) M Q := by
  rw [zI_nat h0 (by omega)]
  exact q_ast h ha (by omega) hn kk
/-- a store into the row that the memory is told by -/
theorem z_asr {m lo hi : Int} {w : Int → Int} (h : hm_at mid pc = some (nx, 21, c, 0, l)) (ha : hm_sh[k]? = some (.inl (false, n))) (hw : aw f m lo hi w) (h0 : 0 ≤ x) (h1 : x < (n : Int)) (hn : n < 2 ^ 31) (hl : lo ≤ y) (hh : y ≤ hi) (kk : ∀ g, aw g m lo hi (zup w x y) → hm_Wp d mid nx ls st (hm_row M k g) Q) : hm_Wp d mid pc ls (.inl (zI y) :: .inl (zI x) :: .inr (.inr k) :: st) (hm_row M k f) Q := by
  refine z_asx h ha h0 h1 hn ?_
  rw [hm_row_row, hm_row_same]
  exact kk _ (aw_upd hw h0 hl hh)
theorem z_alr {m lo hi : Int} {w : Int → Int} (h : hm_at mid pc = some (nx, 20, c, 0, l)) (ha : hm_sh[k]? = some (.inl (false, n))) (hw : aw f m lo hi w) (h0 : 0 ≤ x) (h1 : x < m) (hm : m ≤ (n : Int)) (hn : n < 2 ^ 31) (kk : ∀ v : Int, v = w x → lo ≤ v → v ≤ hi → hm_Wp d mid nx ls (.inl (zI v) :: st) (hm_row M k f) Q) : hm_Wp d mid pc ls (.inl (zI x) :: .inr (.inr k) :: st) (hm_row M k f) Q := by
  refine z_alx h (n := n) (f := f) ?_ hw h0 h1 hm hn kk
  unfold hm_arr
  rw [ha]
  simp [hm_row]
theorem z_max (h : hm_at mid pc = some (nx, 32, c, b, l)) (hr : st.length ≤ 4) (hx : -2147483648 ≤ x ∧ x ≤ 2147483647) (hy : -2147483648 ≤ y ∧ y ≤ 2147483647) (kk : hm_Wp (d + 1) mid nx ls (.inl (zI (max x y)) :: st) M Q) : hm_Wp (d + 1) mid pc ls (.inl (zI y) :: .inl (zI x) :: st) M Q := q_max h hr (by
  rw [show (if zI x < zI y then zI y else zI x) = zI (max x y) from ?_]; exact kk
  by_cases hc : x < y
  · rw [if_pos ((zI_lt hx hy).mpr hc), Int.max_eq_right (by omega)]
  · rw [if_neg (fun z => hc ((zI_lt hx hy).mp z)), Int.max_eq_left (by omega)])
theorem z_min (h : hm_at mid pc = some (nx, 33, c, b, l)) (hr : st.length ≤ 4) (hx : -2147483648 ≤ x ∧ x ≤ 2147483647) (hy : -2147483648 ≤ y ∧ y ≤ 2147483647) (kk : hm_Wp (d + 1) mid nx ls (.inl (zI (min x y)) :: st) M Q) : hm_Wp (d + 1) mid pc ls (.inl (zI y) :: .inl (zI x) :: st) M Q := q_min h hr (by
  rw [show (if zI y < zI x then zI y else zI x) = zI (min x y) from ?_]; exact kk
  by_cases hc : y < x
  · rw [if_pos ((zI_lt hy hx).mpr hc), Int.min_eq_right (by omega)]
  · rw [if_neg (fun z => hc ((zI_lt hy hx).mp z)), Int.min_eq_left (by omega)])
theorem z_zret (h : hm_at mid pc = some (nx, 29, c, 1, l)) (hx : x = 0 ∨ x = 1) (kk : Q (some (.inl (zI x))) M) : hm_Wp d mid pc ls [.inl (zI x)] M Q := q_zret h (hx.elim (fun e => Or.inl (by rw [e]; rfl)) (fun e => Or.inr (by rw [e]; rfl))) kk
/-- an answer within a call that goes on -/
theorem q_iretC {d2 mid2 pc2 : Nat} {ls2 : hm_L} {rest : List hm_V} {v : Int32} (h : hm_at mid pc = some (nx, 29, c, 0, l)) (kk : hm_Wp d2 mid2 pc2 ls2 (.inl v :: rest) M Q) : hm_Wp d mid pc ls [.inl v] M (fun r M1 => hm_Wp d2 mid2 pc2 ls2 (r.toList ++ rest) M1 Q) := q_iret h kk
theorem z_zretC {d2 mid2 pc2 : Nat} {ls2 : hm_L} {rest : List hm_V} (h : hm_at mid pc = some (nx, 29, c, 1, l)) (hx : x = 0 ∨ x = 1) (kk : hm_Wp d2 mid2 pc2 ls2 (.inl (zI x) :: rest) M Q) : hm_Wp d mid pc ls [.inl (zI x)] M (fun r M1 => hm_Wp d2 mid2 pc2 ls2 (r.toList ++ rest) M1 Q) := z_zret h hx kk
theorem q_retC {d2 mid2 pc2 : Nat} {ls2 : hm_L} {rest : List hm_V} (h : hm_at mid pc = some (nx, 30, c, b, l)) (kk : hm_Wp d2 mid2 pc2 ls2 rest M Q) : hm_Wp d mid pc ls [] M (fun r M1 => hm_Wp d2 mid2 pc2 ls2 (r.toList ++ rest) M1 Q) := q_ret h kk
end ZR
/-- the receiver's class -/
def hm_rk (k : Nat) (y : MethodName) : Bool :=
  match hm_sh[k]? with
  | some (.inr (c, _)) => match vwCl[c]? with
    | some q => decide (q.1 = y.cls)
    | none => false
  | _ => false
theorem hm_rv {k : Nat} {y : MethodName} {vs : List hm_V} (h : hm_rk k y = true) : hm_recv y false (.inr (.inr k) :: vs) = true := by
  unfold hm_rk at h
  unfold hm_recv
  rw [if_neg (by decide)]
  exact h
section CR
variable {d mid pc nx b : Nat} {c : Int} {l : List (Int × Nat)} {ls ls' : hm_L} {M : hm_M} {Q : Option hm_V → hm_M → Prop} {t : hm_X} {v1 v2 v3 v4 v5 v6 : hm_V} {rest : List hm_V}
theorem q_call0 (h : hm_at mid pc = some (nx, 27, c, b, l)) (ht : hm_tabM[b]? = some t) (hn : t.2.2.2.2.2.1 = 0) (hr : rest.length ≤ 4) (hrc : hm_recv t.1 t.2.2.2.2.1 [] = true) (he : hm_ent t.2.2.1 [] = ls') (hl : ls'.length = t.2.2.1) (kk : hm_Wp d b 0 ls' [] M (fun r M1 => hm_Wp (d + 1) mid nx ls (r.toList ++ rest) M1 Q)) : hm_Wp (d + 1) mid pc ls (rest) M Q := q_call h ht (vs := []) rfl hn.symm hr hrc he hl kk
theorem q_call1 (h : hm_at mid pc = some (nx, 27, c, b, l)) (ht : hm_tabM[b]? = some t) (hn : t.2.2.2.2.2.1 = 1) (hr : rest.length ≤ 4) (hrc : hm_recv t.1 t.2.2.2.2.1 [v1] = true) (he : hm_ent t.2.2.1 [v1] = ls') (hl : ls'.length = t.2.2.1) (kk : hm_Wp d b 0 ls' [] M (fun r M1 => hm_Wp (d + 1) mid nx ls (r.toList ++ rest) M1 Q)) : hm_Wp (d + 1) mid pc ls (v1 :: rest) M Q := q_call h ht (vs := [v1]) rfl hn.symm hr hrc he hl kk
theorem q_call2 (h : hm_at mid pc = some (nx, 27, c, b, l)) (ht : hm_tabM[b]? = some t) (hn : t.2.2.2.2.2.1 = 2) (hr : rest.length ≤ 4) (hrc : hm_recv t.1 t.2.2.2.2.1 [v1, v2] = true) (he : hm_ent t.2.2.1 [v1, v2] = ls') (hl : ls'.length = t.2.2.1) (kk : hm_Wp d b 0 ls' [] M (fun r M1 => hm_Wp (d + 1) mid nx ls (r.toList ++ rest) M1 Q)) : hm_Wp (d + 1) mid pc ls (v2 :: v1 :: rest) M Q := q_call h ht (vs := [v1, v2]) rfl hn.symm hr hrc he hl kk
theorem q_call3 (h : hm_at mid pc = some (nx, 27, c, b, l)) (ht : hm_tabM[b]? = some t) (hn : t.2.2.2.2.2.1 = 3) (hr : rest.length ≤ 4) (hrc : hm_recv t.1 t.2.2.2.2.1 [v1, v2, v3] = true) (he : hm_ent t.2.2.1 [v1, v2, v3] = ls') (hl : ls'.length = t.2.2.1) (kk : hm_Wp d b 0 ls' [] M (fun r M1 => hm_Wp (d + 1) mid nx ls (r.toList ++ rest) M1 Q)) : hm_Wp (d + 1) mid pc ls (v3 :: v2 :: v1 :: rest) M Q := q_call h ht (vs := [v1, v2, v3]) rfl hn.symm hr hrc he hl kk
theorem q_call4 (h : hm_at mid pc = some (nx, 27, c, b, l)) (ht : hm_tabM[b]? = some t) (hn : t.2.2.2.2.2.1 = 4) (hr : rest.length ≤ 4) (hrc : hm_recv t.1 t.2.2.2.2.1 [v1, v2, v3, v4] = true) (he : hm_ent t.2.2.1 [v1, v2, v3, v4] = ls') (hl : ls'.length = t.2.2.1) (kk : hm_Wp d b 0 ls' [] M (fun r M1 => hm_Wp (d + 1) mid nx ls (r.toList ++ rest) M1 Q)) : hm_Wp (d + 1) mid pc ls (v4 :: v3 :: v2 :: v1 :: rest) M Q := q_call h ht (vs := [v1, v2, v3, v4]) rfl hn.symm hr hrc he hl kk
theorem q_call5 (h : hm_at mid pc = some (nx, 27, c, b, l)) (ht : hm_tabM[b]? = some t) (hn : t.2.2.2.2.2.1 = 5) (hr : rest.length ≤ 4) (hrc : hm_recv t.1 t.2.2.2.2.1 [v1, v2, v3, v4, v5] = true) (he : hm_ent t.2.2.1 [v1, v2, v3, v4, v5] = ls') (hl : ls'.length = t.2.2.1) (kk : hm_Wp d b 0 ls' [] M (fun r M1 => hm_Wp (d + 1) mid nx ls (r.toList ++ rest) M1 Q)) : hm_Wp (d + 1) mid pc ls (v5 :: v4 :: v3 :: v2 :: v1 :: rest) M Q := q_call h ht (vs := [v1, v2, v3, v4, v5]) rfl hn.symm hr hrc he hl kk
theorem q_call6 (h : hm_at mid pc = some (nx, 27, c, b, l)) (ht : hm_tabM[b]? = some t) (hn : t.2.2.2.2.2.1 = 6) (hr : rest.length ≤ 4) (hrc : hm_recv t.1 t.2.2.2.2.1 [v1, v2, v3, v4, v5, v6] = true) (he : hm_ent t.2.2.1 [v1, v2, v3, v4, v5, v6] = ls') (hl : ls'.length = t.2.2.1) (kk : hm_Wp d b 0 ls' [] M (fun r M1 => hm_Wp (d + 1) mid nx ls (r.toList ++ rest) M1 Q)) : hm_Wp (d + 1) mid pc ls (v6 :: v5 :: v4 :: v3 :: v2 :: v1 :: rest) M Q := q_call h ht (vs := [v1, v2, v3, v4, v5, v6]) rfl hn.symm hr hrc he hl kk
end CR
theorem hm_atQ {mid pc nx op b lk : Nat} {a : Int} {l : List (Int × Nat)} {ins : Instr} {t : hm_X} (ht : hm_tab[mid]? = some t) (hf : t.2.2.2.2.2.2.2.find? (fun q => q.1 == pc) = some (pc, nx, ins, op, a, b, l, lk)) : hm_at mid pc = some (nx, op, a, b, l) := by
  unfold hm_at
  rw [ht]
  dsimp only
  rw [hf]
