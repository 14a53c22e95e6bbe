def hm_Ctx (D : va_G) (cI cZ : ClassId) (ad : Nat → Nat) (A : Nat → Prop) (L : Nat) (xs : Nat → Int32) (t : hm_X) (d cells slots : Nat) (p : Program) (R : Room) (s : State) (m : MethodId) (args : Array Value) (c : Code) : Prop :=
  p.tables.exec = Jvm.exec ∧ c.code = t.2.1 ∧ c.maxLocals = t.2.2.1 ∧ s.vm.findClass t.1.cls = some m.cls ∧ (∀ w ∈ hm_tbl, w.before args s = true) ∧ va_K D vwCl [(cI, .int), (cZ, .boolean)] s ∧ hm_Ro ad A L xs s s.heap ∧ hm_N s ∧ d ≤ R.frames ∧ 64 * d ≤ R.locals ∧ cells ≤ R.cells ∧ slots ≤ R.slots ∧ L < 2 ^ 31
theorem hm_u0 : ∀ w ∈ u_ws RX0 TX0 3, w ∈ hm_tbl := by decide +kernel
theorem hm_u1 : ∀ w ∈ u_ws RX1 TX1 3, w ∈ hm_tbl := by decide +kernel
theorem hm_u2 : ∀ w ∈ u_ws RX2 TX2 3, w ∈ hm_tbl := by decide +kernel
theorem hm_u3 : ∀ w ∈ u_ws RX3 TX3 11, w ∈ hm_tbl := by decide +kernel
theorem hm_u4 : ∀ w ∈ u_ws RX4 TX4 2, w ∈ hm_tbl := by decide +kernel
theorem hm_u5 : ∀ w ∈ u_ws RX5 TX5 3, w ∈ hm_tbl := by decide +kernel
theorem hm_u6 : ∀ w ∈ u_ws RX6 TX6 7, w ∈ hm_tbl := by decide +kernel
theorem hm_u7 : ∀ w ∈ u_ws RX7 TX7 9, w ∈ hm_tbl := by decide +kernel
theorem hm_u8 : ∀ w ∈ u_ws RX8 TX8 22, w ∈ hm_tbl := by decide +kernel
theorem hm_cls {ci : Nat} {q : vw_C} (h : vwCl[ci]? = some q) : (∀ w ∈ u_ws q.1 q.2.1 q.2.2, w ∈ hm_tbl) ∧ ∃ ty0 : Nat → FieldType, (∀ k, k < q.2.2 → parseFieldDescriptor (q.2.1 k).2.2.1 = some (ty0 k)) ∧ ∀ a, a < q.2.2 → ∀ b, b < q.2.2 → a ≠ b → (q.2.1 a).2.1 ≠ (q.2.1 b).2.1 := by
  match ci, h with
  | 0, h => cases h; exact ⟨hm_u0, tyX0, tyX0_ok, nmX0⟩
  | 1, h => cases h; exact ⟨hm_u1, tyX1, tyX1_ok, nmX1⟩
  | 2, h => cases h; exact ⟨hm_u2, tyX2, tyX2_ok, nmX2⟩
  | 3, h => cases h; exact ⟨hm_u3, tyX3, tyX3_ok, nmX3⟩
  | 4, h => cases h; exact ⟨hm_u4, tyX4, tyX4_ok, nmX4⟩
  | 5, h => cases h; exact ⟨hm_u5, tyX5, tyX5_ok, nmX5⟩
  | 6, h => cases h; exact ⟨hm_u6, tyX6, tyX6_ok, nmX6⟩
  | 7, h => cases h; exact ⟨hm_u7, tyX7, tyX7_ok, nmX7⟩
  | 8, h => cases h; exact ⟨hm_u8, tyX8, tyX8_ok, nmX8⟩
  | n + 9, h => simp at h
theorem hm_shp0 : hm_sh.all (fun s => match s with
  | .inl _ => true
  | .inr (c, fl) => match vwCl[c]? with
    | some q => fl.length == q.2.2
    | none => false) = true := by decide +kernel
theorem hm_shp {k ci : Nat} {fl : List (Option Nat)} (h : hm_sh[k]? = some (.inr (ci, fl))) : ∃ q, vwCl[ci]? = some q ∧ fl.length = q.2.2 := by
  have h1 := List.all_eq_true.mp hm_shp0 _ (List.mem_of_getElem? h)
  dsimp only at h1
  cases hq : vwCl[ci]? with
  | none => rw [hq] at h1; cases h1
  | some q => rw [hq] at h1; exact ⟨q, rfl, by simpa using h1⟩
theorem hm_fld_of {k j : Nat} {ci : Int} {o : Option Nat} (h : hm_fld k ci j = some o) : ∃ c fl, hm_sh[k]? = some (.inr (c, fl)) ∧ (c : Int) = ci ∧ fl[j]? = some o := by
  unfold hm_fld at h
  split at h
  · rename_i c fl hk
    by_cases hc : (c : Int) = ci
    · rw [if_pos hc] at h; exact ⟨c, fl, hk, hc, h⟩
    · rw [if_neg hc] at h; cases h
  · cases h
theorem hm_fit_int (x : Int32) : fits .int (.int x) = true := rfl
section HMS
variable {p : Program} {l : Launch} {e : Env} {R : Room} {s : State} {m : MethodId} {args : Array Value} {below : List Frame} {meth : Method} {c : Code} {H : Heap} {locs : List Loc} {cells slots : Nat} {Q : State → Prop}
variable {D : va_G} {cI cZ : ClassId} {ad : Nat → Nat} {A : Nat → Prop} {L : Nat} {xs : Nat → Int32} {t : hm_X} {d pc nx : Nat} {lc : Array Slot} {ls ls' : hm_L} {st st' : List hm_V} {M M1 : hm_M} {ins : Instr} {a : Int} {b pc' op lk : Nat} {ll : List (Int × Nat)} {rest : List Value}
theorem hm_w0 {v : Int32} (C0 : hm_Ctx D cI cZ ad A L xs t d cells slots p R s m args c) (hdec : decode t.2.1 pc = .ok (ins, nx - pc)) (hlk : hm_k0 t.1.cls pc nx ins v lk = true) (k : W p l e R s m args below meth c H locs cells slots Q (F0 m nx lc (.int v :: rest))) : W p l e R s m args below meth c H locs cells slots Q (F0 m pc lc rest) := by
  obtain ⟨hx, hb, hml, hown, hts, -⟩ := C0
  unfold hm_k0 at hlk
  split at hlk
  · simp only [Bool.and_eq_true, decide_eq_true_eq] at hlk
    obtain ⟨h1, rfl⟩ := hlk
    rw [Nat.add_sub_cancel_left] at hdec
    exact lv_iconst hx hb hdec h1 k
  · simp only [Bool.and_eq_true, decide_eq_true_eq] at hlk
    obtain ⟨h1, rfl⟩ := hlk
    rw [Nat.add_sub_cancel_left] at hdec
    exact lv_bipush hx hb hdec h1 k
  · simp only [Bool.and_eq_true, decide_eq_true_eq] at hlk
    obtain ⟨h1, rfl⟩ := hlk
    rw [Nat.add_sub_cancel_left] at hdec
    exact lv_sipush hx hb hdec h1 k
  · simp only [Bool.and_eq_true, decide_eq_true_eq] at hlk
    obtain ⟨h1, rfl⟩ := hlk
    rw [Nat.add_sub_cancel_left] at hdec
    exact lv_ldc hx hb hown (hts _ (hm_in h1 rfl)) hdec k
  · simp only [Bool.and_eq_true, decide_eq_true_eq] at hlk
    obtain ⟨h1, rfl⟩ := hlk
    rw [Nat.add_sub_cancel_left] at hdec
    exact lv_ldcw hx hb hown (hts _ (hm_in h1 rfl)) hdec k
  · cases hlk
theorem hm_w1 {v : hm_V} (C0 : hm_Ctx D cI cZ ad A L xs t d cells slots p R s m args c) (hdec : decode t.2.1 pc = .ok (ins, nx - pc)) (hlk : hm_k1 pc nx ins a b = true) (hk : hm_kind a v = true) (hl : lc[b]? = some (.val (hm_dv ad v))) (k : W p l e R s m args below meth c H locs cells slots Q (F0 m nx lc (hm_dv ad v :: rest))) : W p l e R s m args below meth c H locs cells slots Q (F0 m pc lc rest) := by
  obtain ⟨hx, hb, hml, hown, hts, -⟩ := C0
  unfold hm_k1 at hlk
  split at hlk <;> first | cases hlk | skip
  all_goals
    simp only [Bool.and_eq_true, decide_eq_true_eq] at hlk
    obtain ⟨⟨h1, rfl⟩, rfl⟩ := hlk
    rw [Nat.add_sub_cancel_left] at hdec
    rcases v with x | x | x <;> first | (exfalso; simp [hm_kind] at hk; done) | skip
  · subst h1; exact lv_iload hx hb hdec hl k
  · exact lv_iload_n hx hb hdec h1 hl k
  · subst h1; exact lv_aload hx hb hdec hl k
  · exact lv_aload_n hx hb hdec h1 hl k
  · subst h1; exact lv_lload hx hb hdec hl k
  · exact lv_lload_n hx hb hdec h1 hl k
theorem hm_put_of {v : hm_V} (h : hm_put a b v ls = some ls') : b < ls.length ∧ hm_free ls b = true ∧ ((a = 0 ∧ ∃ x, v = .inl x ∧ ls' = ls.set b (some v)) ∨ (a = 1 ∧ ∃ x, v = .inr (.inr x) ∧ ls' = ls.set b (some v)) ∨ (a = 2 ∧ b + 1 < ls.length ∧ ∃ x, v = .inr (.inl x) ∧ ls' = (ls.set b (some v)).set (b + 1) none)) := by
  unfold hm_put at h
  by_cases h1 : b < ls.length
  · rw [if_pos h1] at h
    by_cases h2 : hm_free ls b = true
    · rw [if_pos h2] at h
      refine ⟨h1, h2, ?_⟩
      split at h
      · cases h; exact Or.inl ⟨rfl, _, rfl, rfl⟩
      · cases h; exact Or.inr (Or.inl ⟨rfl, _, rfl, rfl⟩)
      · by_cases h3 : b + 1 < ls.length
        · rw [if_pos h3] at h; cases h; exact Or.inr (Or.inr ⟨rfl, h3, _, rfl, rfl⟩)
        · rw [if_neg h3] at h; cases h
      · cases h
    · rw [if_neg h2] at h; cases h
  · rw [if_neg h1] at h; cases h
theorem hm_w2 {v : hm_V} (C0 : hm_Ctx D cI cZ ad A L xs t d cells slots p R s m args c) (hdec : decode t.2.1 pc = .ok (ins, nx - pc)) (hlk : hm_k2 pc nx ins a b = true) (hL : hm_LR ad lc t.2.2.1 ls) (hput : hm_put a b v ls = some ls') (k : ∀ lc1, hm_LR ad lc1 t.2.2.1 ls' → W p l e R s m args below meth c H locs cells slots Q (F0 m nx lc1 rest)) : W p l e R s m args below meth c H locs cells slots Q (F0 m pc lc (hm_dv ad v :: rest)) := by
  obtain ⟨hx, hb, hml, hown, hts, -⟩ := C0
  obtain ⟨hbl, hfr, hc⟩ := hm_put_of hput
  have hbn : b < t.2.2.1 := by rw [← hL.1]; exact hbl
  unfold hm_k2 at hlk
  split at hlk <;> first | cases hlk | skip
  all_goals
    simp only [Bool.and_eq_true, decide_eq_true_eq] at hlk
    obtain ⟨⟨h1, rfl⟩, rfl⟩ := hlk
    rw [Nat.add_sub_cancel_left] at hdec
    rcases hc with ⟨h2, x, rfl, rfl⟩ | ⟨h2, x, rfl, rfl⟩ | ⟨h2, h3, x, rfl, rfl⟩ <;> first | (exfalso; revert h2; decide) | skip
  · subst h1; exact lv_istore hx hb hdec hL.2 hbn rfl (fun l2 h2 => k l2 (hm_LR_set1 hfr hL.1 h2))
  · exact lv_istore_n hx hb hdec h1 hL.2 hbn rfl (fun l2 h2 => k l2 (hm_LR_set1 hfr hL.1 h2))
  · subst h1; exact lv_astore hx hb hdec hL.2 hbn rfl (fun l2 h2 => k l2 (hm_LR_set1 (v := .inr (.inr x)) hfr hL.1 h2))
  · exact lv_astore_n hx hb hdec h1 hL.2 hbn rfl (fun l2 h2 => k l2 (hm_LR_set1 (v := .inr (.inr x)) hfr hL.1 h2))
  · subst h1; exact lv_lstore hx hb hdec hL.2 (by rw [← hL.1]; exact h3) rfl (fun l2 h2 => k l2 (hm_LR_set2 (v := .inr (.inl x)) hfr hL.1 h2))
  · exact lv_lstore_n hx hb hdec h1 hL.2 (by rw [← hL.1]; exact h3) rfl (fun l2 h2 => k l2 (hm_LR_set2 (v := .inr (.inl x)) hfr hL.1 h2))
theorem hm_w3 {x : Int32} (C0 : hm_Ctx D cI cZ ad A L xs t d cells slots p R s m args c) (hdec : decode t.2.1 pc = .ok (.iinc b a, 3)) (hL : hm_LR ad lc t.2.2.1 ls) (hg : ls[b]? = some (some (.inl x))) (hput : hm_put 0 b (.inl (x + Int32.ofInt a)) ls = some ls') (k : ∀ lc1, hm_LR ad lc1 t.2.2.1 ls' → W p l e R s m args below meth c H locs cells slots Q (F0 m (pc + 3) lc1 rest)) : W p l e R s m args below meth c H locs cells slots Q (F0 m pc lc rest) := by
  obtain ⟨hx, hb, hml, hown, hts, -⟩ := C0
  obtain ⟨hbl, hfr, hc⟩ := hm_put_of hput
  have hbn : b < t.2.2.1 := by rw [← hL.1]; exact hbl
  rcases hc with ⟨h2, y, h3, rfl⟩ | ⟨h2, y, h3, h4⟩ | ⟨h2, h5, y, h3, h4⟩
  · obtain ⟨i, hi⟩ := List.getElem?_of_mem (hm_lv_mem.mpr ⟨_, hg, rfl⟩ : ((b, hm_dv ad (.inl x)) : Nat × Value) ∈ hm_lv ad ls)
    exact lv_iinc (k := i) hx hb hdec hL.2 hi rfl hbn rfl (fun l2 h2 => k l2 (hm_LR_set1 (v := .inl (x + Int32.ofInt a)) hfr hL.1 h2))
  · cases h3
  · cases h3
theorem hm_w4 {x y : Int32} (C0 : hm_Ctx D cI cZ ad A L xs t d cells slots p R s m args c) (hdec : decode t.2.1 pc = .ok (hm_bI b, 1)) (hb8 : b ≤ 8) (k : W p l e R s m args below meth c H locs cells slots Q (F0 m (pc + 1) lc (.int (hm_bin b x y) :: rest))) : W p l e R s m args below meth c H locs cells slots Q (F0 m pc lc (.int y :: .int x :: rest)) := by
  obtain ⟨hx, hb, hml, hown, hts, -⟩ := C0
  match b, hdec, k, hb8 with
  | 0, hdec, k, _ => exact lv_iadd hx hb hdec k
  | 1, hdec, k, _ => exact lv_isub hx hb hdec k
  | 2, hdec, k, _ => exact lv_imul hx hb hdec k
  | 3, hdec, k, _ => exact lv_iand hx hb hdec k
  | 4, hdec, k, _ => exact lv_ior hx hb hdec k
  | 5, hdec, k, _ => exact lv_ixor hx hb hdec k
  | 6, hdec, k, _ => exact lv_ishl hx hb hdec k
  | 7, hdec, k, _ => exact lv_ishr hx hb hdec k
  | 8, hdec, k, _ => exact lv_iushr hx hb hdec rfl k
  | n + 9, _, _, h => exact absurd h (by omega)
theorem hm_w7 {x : Int32} (C0 : hm_Ctx D cI cZ ad A L xs t d cells slots p R s m args c) (hdec : decode t.2.1 pc = .ok (hm_uI b, 1)) (hb8 : b ≤ 2) (k : W p l e R s m args below meth c H locs cells slots Q (F0 m (pc + 1) lc (.int (hm_un b x) :: rest))) : W p l e R s m args below meth c H locs cells slots Q (F0 m pc lc (.int x :: rest)) := by
  obtain ⟨hx, hb, hml, hown, hts, -⟩ := C0
  match b, hdec, k, hb8 with
  | 0, hdec, k, _ => exact lv_ineg hx hb hdec k
  | 1, hdec, k, _ => exact lv_i2b hx hb hdec rfl k
  | 2, hdec, k, _ => exact lv_i2s hx hb hdec rfl k
  | n + 3, _, _, h => exact absurd h (by omega)
theorem hm_w10 (C0 : hm_Ctx D cI cZ ad A L xs t d cells slots p R s m args c) (hdec : decode t.2.1 pc = .ok (ins, nx - pc)) (hlk : hm_k10 t.1.cls pc nx ins b lk = true) (k : W p l e R s m args below meth c H locs cells slots Q (F0 m nx lc (.long (lN b) :: rest))) : W p l e R s m args below meth c H locs cells slots Q (F0 m pc lc rest) := by
  obtain ⟨hx, hb, hml, hown, hts, -⟩ := C0
  unfold hm_k10 at hlk
  split at hlk
  · simp only [Bool.and_eq_true, decide_eq_true_eq] at hlk
    obtain ⟨h1, rfl⟩ := hlk
    rw [Nat.add_sub_cancel_left] at hdec
    exact lv_lconst hx hb hdec h1 k
  · simp only [Bool.and_eq_true, decide_eq_true_eq] at hlk
    obtain ⟨h1, rfl⟩ := hlk
    rw [Nat.add_sub_cancel_left] at hdec
    exact lv_ldc2 hx hb hown (hts _ (hm_in h1 rfl)) hdec k
  · cases hlk
theorem hm_w14 {x : Int32} {tg : Nat} (C0 : hm_Ctx D cI cZ ad A L xs t d cells slots p R s m args c) (hdec : decode t.2.1 pc = .ok (.ifCond (hm_cI b) ((tg : Int) - (pc : Int)), 3)) (hb5 : b ≤ 5) (k : W p l e R s m args below meth c H locs cells slots Q (F0 m (if hm_cmp b x 0 = true then tg else pc + 3) lc rest)) : W p l e R s m args below meth c H locs cells slots Q (F0 m pc lc (.int x :: rest)) := by
  obtain ⟨hx, hb, hml, hown, hts, -⟩ := C0
  have ht : (pc : Int) + ((tg : Int) - (pc : Int)) = (tg : Int) := by omega
  match b, hdec, k, hb5 with
  | 0, hdec, k, _ => exact lv_if_eq hx hb hdec ht (fun h => by rw [if_pos (by simp [hm_cmp, h])] at k; exact k) (fun h => by rw [if_neg (by simp [hm_cmp, h])] at k; exact k)
  | 1, hdec, k, _ => exact lv_if_ne hx hb hdec ht (fun h => by rw [if_pos (by simp [hm_cmp, h])] at k; exact k) (fun h => by rw [if_neg (by simpa [hm_cmp] using h)] at k; exact k)
  | 2, hdec, k, _ => exact lv_if_lt hx hb hdec ht (fun h => by rw [if_pos (by simp [hm_cmp, h])] at k; exact k) (fun h => by rw [if_neg (by simpa [hm_cmp] using h)] at k; exact k)
  | 3, hdec, k, _ => exact lv_if_ge hx hb hdec ht (fun h => by rw [if_pos (by simp [hm_cmp, h])] at k; exact k) (fun h => by rw [if_neg (by simpa [hm_cmp] using h)] at k; exact k)
  | 4, hdec, k, _ => exact lv_if_gt hx hb hdec ht (fun h => by rw [if_pos (by simp [hm_cmp, h])] at k; exact k) (fun h => by rw [if_neg (by simpa [hm_cmp] using h)] at k; exact k)
  | 5, hdec, k, _ => exact lv_if_le hx hb hdec ht (fun h => by rw [if_pos (by simp [hm_cmp, h])] at k; exact k) (fun h => by rw [if_neg (by simpa [hm_cmp] using h)] at k; exact k)
  | n + 6, _, _, h => exact absurd h (by omega)
theorem hm_w15 {x y : Int32} {tg : Nat} (C0 : hm_Ctx D cI cZ ad A L xs t d cells slots p R s m args c) (hdec : decode t.2.1 pc = .ok (.if_icmp (hm_cI b) ((tg : Int) - (pc : Int)), 3)) (hb5 : b ≤ 5) (k : W p l e R s m args below meth c H locs cells slots Q (F0 m (if hm_cmp b x y = true then tg else pc + 3) lc rest)) : W p l e R s m args below meth c H locs cells slots Q (F0 m pc lc (.int y :: .int x :: rest)) := by
  obtain ⟨hx, hb, hml, hown, hts, -⟩ := C0
  have ht : (pc : Int) + ((tg : Int) - (pc : Int)) = (tg : Int) := by omega
  match b, hdec, k, hb5 with
  | 0, hdec, k, _ => exact lv_icmp_eq hx hb hdec ht (fun h => by rw [if_pos (by simp [hm_cmp, h])] at k; exact k) (fun h => by rw [if_neg (by simpa [hm_cmp] using h)] at k; exact k)
  | 1, hdec, k, _ => exact lv_icmp_ne hx hb hdec ht (fun h => by rw [if_pos (by simp [hm_cmp, h])] at k; exact k) (fun h => by rw [if_neg (by simpa [hm_cmp] using h)] at k; exact k)
  | 2, hdec, k, _ => exact lv_icmp_lt hx hb hdec ht (fun h => by rw [if_pos (by simp [hm_cmp, h])] at k; exact k) (fun h => by rw [if_neg (by simpa [hm_cmp] using h)] at k; exact k)
  | 3, hdec, k, _ => exact lv_icmp_ge hx hb hdec ht (fun h => by rw [if_pos (by simp [hm_cmp, h])] at k; exact k) (fun h => by rw [if_neg (by simpa [hm_cmp] using h)] at k; exact k)
  | 4, hdec, k, _ => exact lv_icmp_gt hx hb hdec ht (fun h => by rw [if_pos (by simp [hm_cmp, h])] at k; exact k) (fun h => by rw [if_neg (by simpa [hm_cmp] using h)] at k; exact k)
  | 5, hdec, k, _ => exact lv_icmp_le hx hb hdec ht (fun h => by rw [if_pos (by simp [hm_cmp, h])] at k; exact k) (fun h => by rw [if_neg (by simpa [hm_cmp] using h)] at k; exact k)
  | n + 6, _, _, h => exact absurd h (by omega)
end HMS
