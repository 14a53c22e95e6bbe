/-! WHAT A RUN OF THE FLAT MACHINE ANSWERS: hm_Wp, and a row an operation -/
def hm_Wp (d mid pc : Nat) (ls : hm_L) (st : List hm_V) (M : hm_M) (Q : Option hm_V → hm_M → Prop) : Prop := ∃ (n : Nat) (r : Option hm_V) (M' : hm_M), hm_run n d mid pc ls st M = some (r, M') ∧ Q r M'
theorem hm_mono : ∀ (n k d mid pc : Nat) (ls : hm_L) (st : List hm_V) (M : hm_M) (x : Option hm_V × hm_M), hm_run n d mid pc ls st M = some x → hm_run (n + k) d mid pc ls st M = some x
  | 0, k, d, mid, pc, ls, st, M, x, h => by simp [hm_run] at h
  | n + 1, k, d, mid, pc, ls, st, M, x, h => by
    rw [show n + 1 + k = (n + k) + 1 by omega]
    simp only [hm_run] at h ⊢
    split at h
    · cases h
    · rename_i nx op a b l hat
      by_cases h1 : op = 29
      · rw [if_pos h1] at h ⊢; exact h
      · rw [if_neg h1] at h ⊢
        by_cases h2 : op = 30
        · rw [if_pos h2] at h ⊢; exact h
        · rw [if_neg h2] at h ⊢
          by_cases h3 : op = 27
          · rw [if_pos h3] at h ⊢
            split at h
            · rename_i d' t hb
              try rw [hb]
              try dsimp only
              split at h
              · rename_i hc
                try rw [if_pos hc]
                split at h
                · rename_i r M1 hcall
                  rw [hm_mono n k _ _ _ _ _ _ _ hcall]
                  exact hm_mono n k _ _ _ _ _ _ _ h
                · cases h
              · cases h
            · cases h
          · rw [if_neg h3] at h ⊢
            split at h
            · rename_i pc' ls' st' M1 hst
              try rw [hst]
              exact hm_mono n k _ _ _ _ _ _ _ h
            · cases h
section QR
variable {d mid pc nx b tg : Nat} {a : Int} {l : List (Int × Nat)} {ls ls' : hm_L} {st : List hm_V} {M : hm_M} {Q : Option hm_V → hm_M → Prop} {x y : Int32} {i j k n : Nat} {f : Nat → Int32}
theorem hm_Wp.mono {Q' : Option hm_V → hm_M → Prop} (h : hm_Wp d mid pc ls st M Q) (hq : ∀ r M', Q r M' → Q' r M') : hm_Wp d mid pc ls st M Q' := by
  obtain ⟨n, r, M', e, q⟩ := h
  exact ⟨n, r, M', e, hq r M' q⟩
theorem hm_Wp.eqM {M2 : hm_M} (e : M = M2) (h : hm_Wp d mid pc ls st M2 Q) : hm_Wp d mid pc ls st M Q := e ▸ h
theorem hm_Wp.eqS {st2 : List hm_V} (e : st = st2) (h : hm_Wp d mid pc ls st2 M Q) : hm_Wp d mid pc ls st M Q := e ▸ h
theorem hm_Wp.eqL {ls2 : hm_L} (e : ls = ls2) (h : hm_Wp d mid pc ls2 st M Q) : hm_Wp d mid pc ls st M Q := e ▸ h
theorem q_step {op pc' : Nat} {st' : List hm_V} {M1 : hm_M} (h : hm_at mid pc = some (nx, op, a, b, l)) (h1 : op ≠ 29) (h2 : op ≠ 30) (h3 : op ≠ 27) (hs : hm_step d nx op a b l ls st M = some (pc', ls', st', M1)) (k : hm_Wp d mid pc' ls' st' M1 Q) : hm_Wp d mid pc ls st M Q := by
  obtain ⟨n, r, M', e, q⟩ := k
  refine ⟨n + 1, r, M', ?_, q⟩
  simp only [hm_run, h, if_neg h1, if_neg h2, if_neg h3, hs]
  exact e
theorem q_const (h : hm_at mid pc = some (nx, 0, a, b, l)) (kk : hm_Wp d mid nx ls (.inl (nI b) :: st) M Q) : hm_Wp d mid pc ls st M Q := q_step h (by decide) (by decide) (by decide) rfl kk
theorem q_neg (h : hm_at mid pc = some (nx, 31, a, b, l)) (hx : Int32.ofInt a = x) (kk : hm_Wp d mid nx ls (.inl x :: st) M Q) : hm_Wp d mid pc ls st M Q := by subst hx; exact q_step h (by decide) (by decide) (by decide) rfl kk
theorem q_iload (h : hm_at mid pc = some (nx, 1, 0, b, l)) (hv : ls[b]? = some (some (.inl x))) (kk : hm_Wp d mid nx ls (.inl x :: st) M Q) : hm_Wp d mid pc ls st M Q := q_step h (by decide) (by decide) (by decide) (by simp only [hm_step, hv]; rfl) kk
theorem q_aload (h : hm_at mid pc = some (nx, 1, 1, b, l)) (hv : ls[b]? = some (some (.inr (.inr k)))) (kk : hm_Wp d mid nx ls (.inr (.inr k) :: st) M Q) : hm_Wp d mid pc ls st M Q := q_step h (by decide) (by decide) (by decide) (by simp only [hm_step, hv]; rfl) kk
theorem q_lload {z : Int64} (h : hm_at mid pc = some (nx, 1, 2, b, l)) (hv : ls[b]? = some (some (.inr (.inl z)))) (kk : hm_Wp d mid nx ls (.inr (.inl z) :: st) M Q) : hm_Wp d mid pc ls st M Q := q_step h (by decide) (by decide) (by decide) (by simp only [hm_step, hv]; rfl) kk
theorem q_istore (h : hm_at mid pc = some (nx, 2, 0, b, l)) (hp : hm_put 0 b (.inl x) ls = some ls') (kk : hm_Wp d mid nx ls' st M Q) : hm_Wp d mid pc ls (.inl x :: st) M Q := q_step h (by decide) (by decide) (by decide) (by simp only [hm_step, hp]) kk
theorem q_astore (h : hm_at mid pc = some (nx, 2, 1, b, l)) (hp : hm_put 1 b (.inr (.inr k)) ls = some ls') (kk : hm_Wp d mid nx ls' st M Q) : hm_Wp d mid pc ls (.inr (.inr k) :: st) M Q := q_step h (by decide) (by decide) (by decide) (by simp only [hm_step, hp]) kk
theorem q_lstore {z : Int64} (h : hm_at mid pc = some (nx, 2, 2, b, l)) (hp : hm_put 2 b (.inr (.inl z)) ls = some ls') (kk : hm_Wp d mid nx ls' st M Q) : hm_Wp d mid pc ls (.inr (.inl z) :: st) M Q := q_step h (by decide) (by decide) (by decide) (by simp only [hm_step, hp]) kk
theorem q_iinc (h : hm_at mid pc = some (nx, 3, a, b, l)) (hv : ls[b]? = some (some (.inl x))) (hy : x + Int32.ofInt a = y) (hp : hm_put 0 b (.inl y) ls = some ls') (kk : hm_Wp d mid nx ls' st M Q) : hm_Wp d mid pc ls st M Q := by
  subst hy
  exact q_step h (by decide) (by decide) (by decide) (by simp only [hm_step, hv, hp]) kk
theorem nI_ofInt (k : Nat) : Int32.ofInt (k : Int) = nI k := rfl
theorem q_iincN (h : hm_at mid pc = some (nx, 3, a, b, l)) (hk : a = (k : Int)) (hv : ls[b]? = some (some (.inl (nI n)))) (hp : hm_put 0 b (.inl (nI (n + k))) ls = some ls') (kk : hm_Wp d mid nx ls' st M Q) : hm_Wp d mid pc ls st M Q := by
  subst hk
  refine q_iinc h hv (y := nI (n + k)) ?_ hp kk
  rw [nI_ofInt, nI_add]
theorem q_iincD (h : hm_at mid pc = some (nx, 3, -1, b, l)) (hv : ls[b]? = some (some (.inl (nI (n + 1))))) (hp : hm_put 0 b (.inl (nI n)) ls = some ls') (kk : hm_Wp d mid nx ls' st M Q) : hm_Wp d mid pc ls st M Q := by
  refine q_iinc h hv (y := nI n) ?_ hp kk
  exact pk_m1 n
theorem q_iadd (h : hm_at mid pc = some (nx, 4, a, 0, l)) (kk : hm_Wp d mid nx ls (.inl (x + y) :: st) M Q) : hm_Wp d mid pc ls (.inl y :: .inl x :: st) M Q := q_step h (by decide) (by decide) (by decide) rfl kk
theorem q_isub (h : hm_at mid pc = some (nx, 4, a, 1, l)) (kk : hm_Wp d mid nx ls (.inl (x - y) :: st) M Q) : hm_Wp d mid pc ls (.inl y :: .inl x :: st) M Q := q_step h (by decide) (by decide) (by decide) rfl kk
theorem q_imul (h : hm_at mid pc = some (nx, 4, a, 2, l)) (kk : hm_Wp d mid nx ls (.inl (x * y) :: st) M Q) : hm_Wp d mid pc ls (.inl y :: .inl x :: st) M Q := q_step h (by decide) (by decide) (by decide) rfl kk
theorem q_iand (h : hm_at mid pc = some (nx, 4, a, 3, l)) (kk : hm_Wp d mid nx ls (.inl (x &&& y) :: st) M Q) : hm_Wp d mid pc ls (.inl y :: .inl x :: st) M Q := q_step h (by decide) (by decide) (by decide) rfl kk
theorem q_ior (h : hm_at mid pc = some (nx, 4, a, 4, l)) (kk : hm_Wp d mid nx ls (.inl (x ||| y) :: st) M Q) : hm_Wp d mid pc ls (.inl y :: .inl x :: st) M Q := q_step h (by decide) (by decide) (by decide) rfl kk
theorem q_ixor (h : hm_at mid pc = some (nx, 4, a, 5, l)) (kk : hm_Wp d mid nx ls (.inl (x ^^^ y) :: st) M Q) : hm_Wp d mid pc ls (.inl y :: .inl x :: st) M Q := q_step h (by decide) (by decide) (by decide) rfl kk
theorem q_ishl (h : hm_at mid pc = some (nx, 4, a, 6, l)) (kk : hm_Wp d mid nx ls (.inl (x <<< (y &&& 31)) :: st) M Q) : hm_Wp d mid pc ls (.inl y :: .inl x :: st) M Q := q_step h (by decide) (by decide) (by decide) rfl kk
theorem q_ishr (h : hm_at mid pc = some (nx, 4, a, 7, l)) (kk : hm_Wp d mid nx ls (.inl (x >>> (y &&& 31)) :: st) M Q) : hm_Wp d mid pc ls (.inl y :: .inl x :: st) M Q := q_step h (by decide) (by decide) (by decide) rfl kk
theorem q_iushr (h : hm_at mid pc = some (nx, 4, a, 8, l)) (kk : hm_Wp d mid nx ls (.inl (x.toUInt32 >>> (y.toUInt32 &&& Int32.toUInt32 31)).toInt32 :: st) M Q) : hm_Wp d mid pc ls (.inl y :: .inl x :: st) M Q := q_step h (by decide) (by decide) (by decide) rfl kk
theorem q_iaddN (h : hm_at mid pc = some (nx, 4, a, 0, l)) (kk : hm_Wp d mid nx ls (.inl (nI (i + j)) :: st) M Q) : hm_Wp d mid pc ls (.inl (nI j) :: .inl (nI i) :: st) M Q := q_iadd h (by rw [nI_add]; exact kk)
theorem q_isubN (h : hm_at mid pc = some (nx, 4, a, 1, l)) (hij : j ≤ i) (kk : hm_Wp d mid nx ls (.inl (nI (i - j)) :: st) M Q) : hm_Wp d mid pc ls (.inl (nI j) :: .inl (nI i) :: st) M Q := q_isub h (by rw [pk_sub hij]; exact kk)
theorem q_imulN (h : hm_at mid pc = some (nx, 4, a, 2, l)) (kk : hm_Wp d mid nx ls (.inl (nI (i * j)) :: st) M Q) : hm_Wp d mid pc ls (.inl (nI j) :: .inl (nI i) :: st) M Q := q_imul h (by rw [pk_mul]; exact kk)
theorem q_idiv (h : hm_at mid pc = some (nx, 5, a, b, l)) (hy : ¬ y = 0) (kk : hm_Wp d mid nx ls (.inl (x / y) :: st) M Q) : hm_Wp d mid pc ls (.inl y :: .inl x :: st) M Q := q_step h (by decide) (by decide) (by decide) (by simp only [hm_step, if_neg hy]) kk
theorem q_irem (h : hm_at mid pc = some (nx, 6, a, b, l)) (hy : ¬ y = 0) (kk : hm_Wp d mid nx ls (.inl (x - x / y * y) :: st) M Q) : hm_Wp d mid pc ls (.inl y :: .inl x :: st) M Q := q_step h (by decide) (by decide) (by decide) (by simp only [hm_step, if_neg hy]) kk
theorem q_idivN (h : hm_at mid pc = some (nx, 5, a, b, l)) (hi : i < 2 ^ 31) (h0 : 0 < j) (hj : j < 2 ^ 31) (kk : hm_Wp d mid nx ls (.inl (nI (i / j)) :: st) M Q) : hm_Wp d mid pc ls (.inl (nI j) :: .inl (nI i) :: st) M Q := q_idiv h (nI_ne0 h0 hj) (by rw [pk_div hi h0 hj]; exact kk)
theorem q_iremN (h : hm_at mid pc = some (nx, 6, a, b, l)) (hi : i < 2 ^ 31) (h0 : 0 < j) (hj : j < 2 ^ 31) (kk : hm_Wp d mid nx ls (.inl (nI (i % j)) :: st) M Q) : hm_Wp d mid pc ls (.inl (nI j) :: .inl (nI i) :: st) M Q := q_irem h (nI_ne0 h0 hj) (by rw [pk_rem hi h0 hj]; exact kk)
theorem q_ineg (h : hm_at mid pc = some (nx, 7, a, 0, l)) (kk : hm_Wp d mid nx ls (.inl (-x) :: st) M Q) : hm_Wp d mid pc ls (.inl x :: st) M Q := q_step h (by decide) (by decide) (by decide) rfl kk
theorem q_i2b (h : hm_at mid pc = some (nx, 7, a, 1, l)) (kk : hm_Wp d mid nx ls (.inl x.toInt8.toInt32 :: st) M Q) : hm_Wp d mid pc ls (.inl x :: st) M Q := q_step h (by decide) (by decide) (by decide) rfl kk
theorem q_i2s (h : hm_at mid pc = some (nx, 7, a, 2, l)) (kk : hm_Wp d mid nx ls (.inl x.toInt16.toInt32 :: st) M Q) : hm_Wp d mid pc ls (.inl x :: st) M Q := q_step h (by decide) (by decide) (by decide) rfl kk
theorem q_i2l (h : hm_at mid pc = some (nx, 8, a, b, l)) (kk : hm_Wp d mid nx ls (.inr (.inl x.toInt64) :: st) M Q) : hm_Wp d mid pc ls (.inl x :: st) M Q := q_step h (by decide) (by decide) (by decide) rfl kk
theorem q_l2i {z : Int64} (h : hm_at mid pc = some (nx, 9, a, b, l)) (kk : hm_Wp d mid nx ls (.inl z.toInt32 :: st) M Q) : hm_Wp d mid pc ls (.inr (.inl z) :: st) M Q := q_step h (by decide) (by decide) (by decide) rfl kk
theorem q_lconst (h : hm_at mid pc = some (nx, 10, a, b, l)) (kk : hm_Wp d mid nx ls (.inr (.inl (lN b)) :: st) M Q) : hm_Wp d mid pc ls st M Q := q_step h (by decide) (by decide) (by decide) rfl kk
theorem q_lmul {z w : Int64} (h : hm_at mid pc = some (nx, 11, a, b, l)) (kk : hm_Wp d mid nx ls (.inr (.inl (z * w)) :: st) M Q) : hm_Wp d mid pc ls (.inr (.inl w) :: .inr (.inl z) :: st) M Q := q_step h (by decide) (by decide) (by decide) rfl kk
theorem q_lrem {z w : Int64} (h : hm_at mid pc = some (nx, 12, a, b, l)) (hw : ¬ w = 0) (kk : hm_Wp d mid nx ls (.inr (.inl (z - z / w * w)) :: st) M Q) : hm_Wp d mid pc ls (.inr (.inl w) :: .inr (.inl z) :: st) M Q := q_step h (by decide) (by decide) (by decide) (by simp only [hm_step, if_neg hw]) kk
theorem q_lcmp {z w : Int64} (h : hm_at mid pc = some (nx, 13, a, b, l)) (kk : hm_Wp d mid nx ls (.inl (lg_cmp z w) :: st) M Q) : hm_Wp d mid pc ls (.inr (.inl w) :: .inr (.inl z) :: st) M Q := q_step h (by decide) (by decide) (by decide) rfl kk
theorem q_if (P : Prop) (hP : hm_cmp b x 0 = true ↔ P) (h : hm_at mid pc = some (nx, 14, a, b, l)) (ht : a.toNat = tg) (kt : P → hm_Wp d mid tg ls st M Q) (kf : ¬ P → hm_Wp d mid nx ls st M Q) : hm_Wp d mid pc ls (.inl x :: st) M Q := by
  subst ht
  by_cases hp : P
  · exact q_step h (by decide) (by decide) (by decide) (by simp only [hm_step]; rw [if_pos (hP.mpr hp)]) (kt hp)
  · exact q_step h (by decide) (by decide) (by decide) (by simp only [hm_step]; rw [if_neg (fun z => hp (hP.mp z))]) (kf hp)
theorem q_icmp (P : Prop) (hP : hm_cmp b x y = true ↔ P) (h : hm_at mid pc = some (nx, 15, a, b, l)) (ht : a.toNat = tg) (kt : P → hm_Wp d mid tg ls st M Q) (kf : ¬ P → hm_Wp d mid nx ls st M Q) : hm_Wp d mid pc ls (.inl y :: .inl x :: st) M Q := by
  subst ht
  by_cases hp : P
  · exact q_step h (by decide) (by decide) (by decide) (by simp only [hm_step]; rw [if_pos (hP.mpr hp)]) (kt hp)
  · exact q_step h (by decide) (by decide) (by decide) (by simp only [hm_step]; rw [if_neg (fun z => hp (hP.mp z))]) (kf hp)
theorem hc_eq : hm_cmp 0 x y = true ↔ x = y := by simp [hm_cmp]
theorem hc_ne : hm_cmp 1 x y = true ↔ x ≠ y := by simp [hm_cmp]
theorem hc_lt : hm_cmp 2 x y = true ↔ x < y := by simp [hm_cmp]
theorem hc_ge : hm_cmp 3 x y = true ↔ y ≤ x := by simp [hm_cmp]
theorem hc_gt : hm_cmp 4 x y = true ↔ y < x := by simp [hm_cmp]
theorem hc_le : hm_cmp 5 x y = true ↔ x ≤ y := by simp [hm_cmp]
theorem hn_eq (hi : i < 2 ^ 31) (hj : j < 2 ^ 31) : hm_cmp 0 (nI i) (nI j) = true ↔ i = j := hc_eq.trans (nI_eq hi hj)
theorem hn_ne (hi : i < 2 ^ 31) (hj : j < 2 ^ 31) : hm_cmp 1 (nI i) (nI j) = true ↔ i ≠ j := hc_ne.trans (not_congr (nI_eq hi hj))
theorem hn_lt (hi : i < 2 ^ 31) (hj : j < 2 ^ 31) : hm_cmp 2 (nI i) (nI j) = true ↔ i < j := hc_lt.trans (nI_ltI hi hj)
theorem hn_ge (hi : i < 2 ^ 31) (hj : j < 2 ^ 31) : hm_cmp 3 (nI i) (nI j) = true ↔ j ≤ i := hc_ge.trans (nI_leI hj hi)
theorem hn_gt (hi : i < 2 ^ 31) (hj : j < 2 ^ 31) : hm_cmp 4 (nI i) (nI j) = true ↔ j < i := hc_gt.trans (nI_ltI hj hi)
theorem hn_le (hi : i < 2 ^ 31) (hj : j < 2 ^ 31) : hm_cmp 5 (nI i) (nI j) = true ↔ i ≤ j := hc_le.trans (nI_leI hi hj)
theorem hz_eq (hi : i < 2 ^ 31) : hm_cmp 0 (nI i) 0 = true ↔ i = 0 := hn_eq hi (by decide)
theorem hz_ne (hi : i < 2 ^ 31) : hm_cmp 1 (nI i) 0 = true ↔ i ≠ 0 := hn_ne hi (by decide)
theorem hz_lt (hi : i < 2 ^ 31) : hm_cmp 2 (nI i) 0 = true ↔ False := (hn_lt hi (by decide)).trans (by simp)
theorem hz_ge (hi : i < 2 ^ 31) : hm_cmp 3 (nI i) 0 = true ↔ True := (hn_ge hi (by decide)).trans (by simp)
theorem hz_gt (hi : i < 2 ^ 31) : hm_cmp 4 (nI i) 0 = true ↔ 0 < i := hn_gt hi (by decide)
theorem hz_le (hi : i < 2 ^ 31) : hm_cmp 5 (nI i) 0 = true ↔ i = 0 := (hn_le (j := 0) hi (by decide)).trans Nat.le_zero
theorem q_goto (h : hm_at mid pc = some (nx, 16, a, b, l)) (ht : a.toNat = tg) (kk : hm_Wp d mid tg ls st M Q) : hm_Wp d mid pc ls st M Q := by subst ht; exact q_step h (by decide) (by decide) (by decide) rfl kk
theorem q_sw (h : hm_at mid pc = some (nx, 17, a, b, l)) (ht : hm_swt l a.toNat x.toInt = tg) (kk : hm_Wp d mid tg ls st M Q) : hm_Wp d mid pc ls (.inl x :: st) M Q := by subst ht; exact q_step h (by decide) (by decide) (by decide) rfl kk
theorem q_getf (h : hm_at mid pc = some (nx, 18, a, b, l)) (hf : hm_fld k a b = some none) (kk : hm_Wp d mid nx ls (.inl (M k b) :: st) M Q) : hm_Wp d mid pc ls (.inr (.inr k) :: st) M Q := q_step h (by decide) (by decide) (by decide) (by simp only [hm_step, hf]) kk
theorem q_getr (h : hm_at mid pc = some (nx, 18, a, b, l)) (hf : hm_fld k a b = some (some j)) (kk : hm_Wp d mid nx ls (.inr (.inr j) :: st) M Q) : hm_Wp d mid pc ls (.inr (.inr k) :: st) M Q := q_step h (by decide) (by decide) (by decide) (by simp only [hm_step, hf]) kk
theorem q_putf (h : hm_at mid pc = some (nx, 19, a, b, l)) (hf : hm_fld k a b = some none) (kk : hm_Wp d mid nx ls st (hm_up M k b x) Q) : hm_Wp d mid pc ls (.inl x :: .inr (.inr k) :: st) M Q := q_step h (by decide) (by decide) (by decide) (by simp only [hm_step, hf]) kk
theorem q_aldG (h : hm_at mid pc = some (nx, 20, a, 0, l)) (ha : hm_arr M false k = some (n, f)) (hi : ¬ (x < 0 ∨ n ≤ x.toNatClampNeg)) (kk : hm_Wp d mid nx ls (.inl (f x.toNatClampNeg) :: st) M Q) : hm_Wp d mid pc ls (.inl x :: .inr (.inr k) :: st) M Q := q_step h (by decide) (by decide) (by decide) (by simp only [hm_step]; rw [show ((0 : Nat) == 1) = false from rfl, ha]; simp only [if_neg hi]) kk
theorem q_zaldG (h : hm_at mid pc = some (nx, 20, a, 1, l)) (ha : hm_arr M true k = some (n, f)) (hi : ¬ (x < 0 ∨ n ≤ x.toNatClampNeg)) (kk : hm_Wp d mid nx ls (.inl (f x.toNatClampNeg) :: st) M Q) : hm_Wp d mid pc ls (.inl x :: .inr (.inr k) :: st) M Q := q_step h (by decide) (by decide) (by decide) (by simp only [hm_step]; rw [show ((1 : Nat) == 1) = true from rfl, ha]; simp only [if_neg hi]) kk
theorem q_ald (h : hm_at mid pc = some (nx, 20, a, 0, l)) (ha : hm_arr M false k = some (n, f)) (hj : j < n) (hn : n < 2 ^ 31) (kk : hm_Wp d mid nx ls (.inl (f j) :: st) M Q) : hm_Wp d mid pc ls (.inl (nI j) :: .inr (.inr k) :: st) M Q := q_aldG h ha (nI_in hj hn) (by rw [nI_clamp (by omega)]; exact kk)
theorem q_zald (h : hm_at mid pc = some (nx, 20, a, 1, l)) (ha : hm_arr M true k = some (n, f)) (hj : j < n) (hn : n < 2 ^ 31) (kk : hm_Wp d mid nx ls (.inl (f j) :: st) M Q) : hm_Wp d mid pc ls (.inl (nI j) :: .inr (.inr k) :: st) M Q := q_zaldG h ha (nI_in hj hn) (by rw [nI_clamp (by omega)]; exact kk)
theorem q_astG (h : hm_at mid pc = some (nx, 21, a, 0, l)) (ha : hm_sh[k]? = some (.inl (false, n))) (hi : ¬ (x < 0 ∨ n ≤ x.toNatClampNeg)) (kk : hm_Wp d mid nx ls st (hm_up M k x.toNatClampNeg y) Q) : hm_Wp d mid pc ls (.inl y :: .inl x :: .inr (.inr k) :: st) M Q := q_step h (by decide) (by decide) (by decide) (by
  simp only [hm_step, ha]
  rw [if_pos (by decide), if_neg]
  rintro (h | h)
  · exact absurd h.1 (by decide)
  · exact hi h) kk
theorem q_ast (h : hm_at mid pc = some (nx, 21, a, 0, l)) (ha : hm_sh[k]? = some (.inl (false, n))) (hj : j < n) (hn : n < 2 ^ 31) (kk : hm_Wp d mid nx ls st (hm_up M k j y) Q) : hm_Wp d mid pc ls (.inl y :: .inl (nI j) :: .inr (.inr k) :: st) M Q := q_astG h ha (nI_in hj hn) (by rw [nI_clamp (by omega)]; exact kk)
theorem q_zast (h : hm_at mid pc = some (nx, 21, a, 1, l)) (ha : hm_sh[k]? = some (.inl (true, n))) (hy : y = 0 ∨ y = 1) (hj : j < n) (hn : n < 2 ^ 31) (kk : hm_Wp d mid nx ls st (hm_up M k j y) Q) : hm_Wp d mid pc ls (.inl y :: .inl (nI j) :: .inr (.inr k) :: st) M Q := q_step h (by decide) (by decide) (by decide) (by
  simp only [hm_step, ha]
  rw [if_pos (by decide), if_neg, nI_clamp (by omega)]
  rintro (h | h)
  · exact h.2 hy
  · exact nI_in hj hn h) kk
theorem q_alen (h : hm_at mid pc = some (nx, 22, a, b, l)) (ha : hm_arr M false k = some (n, f)) (kk : hm_Wp d mid nx ls (.inl (nI n) :: st) M Q) : hm_Wp d mid pc ls (.inr (.inr k) :: st) M Q := q_step h (by decide) (by decide) (by decide) (by simp only [hm_step, ha]) kk
theorem q_gets (h : hm_at mid pc = some (nx, 23, a, b, l)) (hb : b < 5) (kk : hm_Wp d mid nx ls (.inr (.inr (1000 + b)) :: st) M Q) : hm_Wp d mid pc ls st M Q := q_step h (by decide) (by decide) (by decide) (by simp only [hm_step, if_pos hb]) kk
theorem q_dup {v : hm_V} (h : hm_at mid pc = some (nx, 24, a, b, l)) (hv : hm_short v = true) (kk : hm_Wp d mid nx ls (v :: v :: st) M Q) : hm_Wp d mid pc ls (v :: st) M Q := q_step h (by decide) (by decide) (by decide) (by simp only [hm_step, if_pos hv]) kk
theorem q_pop {v : hm_V} (h : hm_at mid pc = some (nx, 25, a, b, l)) (hv : hm_short v = true) (kk : hm_Wp d mid nx ls st M Q) : hm_Wp d mid pc ls (v :: st) M Q := q_step h (by decide) (by decide) (by decide) (by simp only [hm_step, if_pos hv]) kk
theorem q_dup2 {v w : hm_V} (h : hm_at mid pc = some (nx, 26, a, b, l)) (hv : hm_short v = true ∧ hm_short w = true) (kk : hm_Wp d mid nx ls (v :: w :: v :: w :: st) M Q) : hm_Wp d mid pc ls (v :: w :: st) M Q := q_step h (by decide) (by decide) (by decide) (by simp only [hm_step, if_pos hv]) kk
theorem q_copy {k0 k1 n0 n1 u sp dp : Nat} (h : hm_at mid pc = some (nx, 28, a, b, l)) (h0 : hm_sh[k0]? = some (.inl (false, n0))) (h1 : hm_sh[k1]? = some (.inl (false, n1))) (hs : sp + u ≤ n0) (hd : dp + u ≤ n1) (hn0 : n0 < 2 ^ 31) (hn1 : n1 < 2 ^ 31) (kk : hm_Wp (d + 1) mid nx ls [] (hm_row M k1 (va_cpy (M k0) (M k1) sp dp u)) Q) : hm_Wp (d + 1) mid pc ls [.inl (nI u), .inl (nI dp), .inr (.inr k1), .inl (nI sp), .inr (.inr k0)] M Q := q_step h (by decide) (by decide) (by decide) (by
  simp only [hm_step, h0, h1]
  rw [if_neg, nI_clamp (by omega), nI_clamp (by omega), nI_clamp (by omega)]
  rw [nI_clamp (by omega), nI_clamp (by omega), nI_clamp (by omega)]
  have p1 := nI_pos (n := sp) (by omega)
  have p2 := nI_pos (n := dp) (by omega)
  have p3 := nI_pos (n := u) (by omega)
  rintro (z | z | z | z | z)
  · exact p1 z
  · exact p2 z
  · exact p3 z
  · omega
  · omega) kk
theorem q_max (h : hm_at mid pc = some (nx, 32, a, b, l)) (hr : st.length ≤ 4) (kk : hm_Wp (d + 1) mid nx ls (.inl (if x < y then y else x) :: st) M Q) : hm_Wp (d + 1) mid pc ls (.inl y :: .inl x :: st) M Q := q_step h (by decide) (by decide) (by decide) (by simp only [hm_step, if_pos hr]) kk
theorem q_min (h : hm_at mid pc = some (nx, 33, a, b, l)) (hr : st.length ≤ 4) (kk : hm_Wp (d + 1) mid nx ls (.inl (if y < x then y else x) :: st) M Q) : hm_Wp (d + 1) mid pc ls (.inl y :: .inl x :: st) M Q := q_step h (by decide) (by decide) (by decide) (by simp only [hm_step, if_pos hr]) kk
theorem q_maxN (h : hm_at mid pc = some (nx, 32, a, b, l)) (hr : st.length ≤ 4) (hi : i < 2 ^ 31) (hj : j < 2 ^ 31) (kk : hm_Wp (d + 1) mid nx ls (.inl (nI (max i j)) :: st) M Q) : hm_Wp (d + 1) mid pc ls (.inl (nI j) :: .inl (nI i) :: st) M Q := q_max h hr (by
  rw [show (if nI i < nI j then nI j else nI i) = nI (max i j) from ?_]; exact kk
  by_cases hc : i < j
  · rw [if_pos ((nI_ltI hi hj).mpr hc), Nat.max_eq_right (by omega)]
  · rw [if_neg (fun z => hc ((nI_ltI hi hj).mp z)), Nat.max_eq_left (by omega)])
theorem q_minN (h : hm_at mid pc = some (nx, 33, a, b, l)) (hr : st.length ≤ 4) (hi : i < 2 ^ 31) (hj : j < 2 ^ 31) (kk : hm_Wp (d + 1) mid nx ls (.inl (nI (min i j)) :: st) M Q) : hm_Wp (d + 1) mid pc ls (.inl (nI j) :: .inl (nI i) :: st) M Q := q_min h hr (by
  rw [show (if nI j < nI i then nI j else nI i) = nI (min i j) from ?_]; exact kk
  by_cases hc : j < i
  · rw [if_pos ((nI_ltI hj hi).mpr hc), Nat.min_eq_right (by omega)]
  · rw [if_neg (fun z => hc ((nI_ltI hj hi).mp z)), Nat.min_eq_left (by omega)])
theorem q_iret (h : hm_at mid pc = some (nx, 29, a, 0, l)) (kk : Q (some (.inl x)) M) : hm_Wp d mid pc ls [.inl x] M Q := by
  refine ⟨1, _, _, ?_, kk⟩
  simp only [hm_run, h, if_pos]
  rw [if_neg (fun z => absurd z.1 (by decide))]
theorem q_zret (h : hm_at mid pc = some (nx, 29, a, 1, l)) (hx : x = 0 ∨ x = 1) (kk : Q (some (.inl x)) M) : hm_Wp d mid pc ls [.inl x] M Q := by
  refine ⟨1, _, _, ?_, kk⟩
  simp only [hm_run, h, if_pos]
  rw [if_neg (fun z => z.2 hx)]
theorem q_ret (h : hm_at mid pc = some (nx, 30, a, b, l)) (kk : Q none M) : hm_Wp d mid pc ls [] M Q := by
  refine ⟨1, _, _, ?_, kk⟩
  simp only [hm_run, h]
  rw [if_neg (by decide), if_pos trivial]
theorem q_call {t : hm_X} {vs : List hm_V} {rest : List hm_V} (h : hm_at mid pc = some (nx, 27, a, b, l)) (ht : hm_tabM[b]? = some t) (hst : st = vs.reverse ++ rest) (hn : vs.length = t.2.2.2.2.2.1) (hr : rest.length ≤ 4) (hrc : hm_recv t.1 t.2.2.2.2.1 vs = true) (he : hm_ent t.2.2.1 vs = ls') (hl : ls'.length = t.2.2.1)
    (kk : hm_Wp d b 0 ls' [] M (fun r M1 => hm_Wp (d + 1) mid nx ls (r.toList ++ rest) M1 Q)) : hm_Wp (d + 1) mid pc ls st M Q := by
  subst hst
  subst he
  obtain ⟨n1, r1, M1, e1, n2, r2, M2, e2, q⟩ := kk
  refine ⟨n1 + n2 + 1, r2, M2, ?_, q⟩
  have htk : (vs.reverse ++ rest).take t.2.2.2.2.2.1 = vs.reverse := by rw [← hn, ← List.length_reverse, List.take_left']; rfl
  have hdr : (vs.reverse ++ rest).drop t.2.2.2.2.2.1 = rest := by rw [← hn, ← List.length_reverse, List.drop_left']; rfl
  simp only [hm_run, h, ht]
  rw [if_neg (by decide), if_neg (by decide), if_pos trivial, htk, hdr, List.reverse_reverse]
  rw [if_pos ⟨by simp [← hn], hr, hrc, hl⟩, hm_mono n1 n2 _ _ _ _ _ _ _ e1]
  dsimp only
  rw [Nat.add_comm n1 n2]
  exact hm_mono n2 n1 _ _ _ _ _ _ _ e2
end QR
