section HMS
variable {p : Program} {l : Launch} {e : Env} {R : Room} {s : State} {m : MethodId} {args : Array Value} {below : List Frame} {meth : Method} {c : Code} {H : Heap} {locs : List Loc} {cells slots : Nat} {Q : State → Prop}
variable {D : va_G} {cI cZ : ClassId} {ad : Nat → Nat} {A : Nat → Prop} {L : Nat} {xs : Nat → Int32} {t : hm_X} {d pc nx : Nat} {lc : Array Slot} {ls ls' : hm_L} {st st' : List hm_V} {M M1 : hm_M} {ins : Instr} {a : Int} {b pc' op lk : Nat} {ll : List (Int × Nat)} {rest : List Value}
set_option maxHeartbeats 4000000 in
theorem hm_stepW (C0 : hm_Ctx D cI cZ ad A L xs t d cells slots p R s m args c) (hdec : decode t.2.1 pc = .ok (ins, nx - pc)) (hlk : hm_lk hm_tb t.1.cls pc nx ins op a b ll lk = true) (hst : hm_step d nx op a b ll ls st M = some (pc', ls', st', M1)) (hP : va_P D vwCl (hm_w cI cZ ad M) H) (hD : va_D A (hm_w cI cZ ad M)) (hS : va_S A s.heap H locs) (hL : hm_LR ad lc t.2.2.1 ls) (hsc : hm_scr M L xs)
    (kk : ∀ (H1 : Heap) (locs1 : List Loc) (lc1 : Array Slot), va_P D vwCl (hm_w cI cZ ad M1) H1 → va_D A (hm_w cI cZ ad M1) → va_S A s.heap H1 locs1 → hm_LR ad lc1 t.2.2.1 ls' → hm_scr M1 L xs → W p l e R s m args below meth c H1 locs1 cells slots Q (F0 m pc' lc1 (st'.map (hm_dv ad)))) : W p l e R s m args below meth c H locs cells slots Q (F0 m pc lc (st.map (hm_dv ad))) := by
  match op, hlk, hst with
  | 0, hlk, hst => cases hst; exact hm_w0 C0 hdec hlk (kk _ _ _ hP hD hS hL hsc)
  | 31, hlk, hst => cases hst; exact hm_w0 C0 hdec hlk (kk _ _ _ hP hD hS hL hsc)
  | 1, hlk, hst =>
    simp only [hm_step] at hst
    split at hst
    · rename_i v hg
      by_cases hk : hm_kind a v = true
      · rw [if_pos hk] at hst; cases hst; exact hm_w1 C0 hdec hlk hk (hL.get hg) (kk _ _ _ hP hD hS hL hsc)
      · rw [if_neg hk] at hst; cases hst
    · cases hst
  | 2, hlk, hst =>
    simp only [hm_step] at hst
    split at hst
    · split at hst
      · rename_i hp
        cases hst
        exact hm_w2 C0 hdec hlk hL hp (fun lc1 h1 => kk _ _ lc1 hP hD hS h1 hsc)
      · cases hst
    · cases hst
  | 3, hlk, hst =>
    simp only [hm_lk, Bool.and_eq_true, decide_eq_true_eq] at hlk
    obtain ⟨rfl, rfl⟩ := hlk
    rw [Nat.add_sub_cancel_left] at hdec
    simp only [hm_step] at hst
    split at hst
    · rename_i x hg
      split at hst
      · rename_i hp
        cases hst
        exact hm_w3 C0 hdec hL hg hp (fun lc1 h1 => kk _ _ lc1 hP hD hS h1 hsc)
      · cases hst
    · cases hst
  | 4, hlk, hst =>
    simp only [hm_lk, Bool.and_eq_true, decide_eq_true_eq] at hlk
    obtain ⟨⟨rfl, h8⟩, rfl⟩ := hlk
    rw [Nat.add_sub_cancel_left] at hdec
    simp only [hm_step] at hst
    split at hst
    · cases hst; exact hm_w4 C0 hdec h8 (kk _ _ _ hP hD hS hL hsc)
    · cases hst
  | 5, hlk, hst =>
    simp only [hm_lk, Bool.and_eq_true, decide_eq_true_eq] at hlk
    obtain ⟨rfl, rfl⟩ := hlk
    rw [Nat.add_sub_cancel_left] at hdec
    simp only [hm_step] at hst
    split at hst
    · split at hst
      · cases hst
      · rename_i hy; cases hst; exact lv_idiv C0.1 C0.2.1 hdec hy (kk _ _ _ hP hD hS hL hsc)
    · cases hst
  | 6, hlk, hst =>
    simp only [hm_lk, Bool.and_eq_true, decide_eq_true_eq] at hlk
    obtain ⟨rfl, rfl⟩ := hlk
    rw [Nat.add_sub_cancel_left] at hdec
    simp only [hm_step] at hst
    split at hst
    · split at hst
      · cases hst
      · rename_i hy; cases hst; exact lv_irem C0.1 C0.2.1 hdec hy (kk _ _ _ hP hD hS hL hsc)
    · cases hst
  | 7, hlk, hst =>
    simp only [hm_lk, Bool.and_eq_true, decide_eq_true_eq] at hlk
    obtain ⟨⟨rfl, h8⟩, rfl⟩ := hlk
    rw [Nat.add_sub_cancel_left] at hdec
    simp only [hm_step] at hst
    split at hst
    · cases hst; exact hm_w7 C0 hdec h8 (kk _ _ _ hP hD hS hL hsc)
    · cases hst
  | 8, hlk, hst =>
    simp only [hm_lk, Bool.and_eq_true, decide_eq_true_eq] at hlk
    obtain ⟨rfl, rfl⟩ := hlk
    rw [Nat.add_sub_cancel_left] at hdec
    simp only [hm_step] at hst
    split at hst
    · cases hst; exact lv_i2l C0.1 C0.2.1 hdec rfl (kk _ _ _ hP hD hS hL hsc)
    · cases hst
  | 9, hlk, hst =>
    simp only [hm_lk, Bool.and_eq_true, decide_eq_true_eq] at hlk
    obtain ⟨rfl, rfl⟩ := hlk
    rw [Nat.add_sub_cancel_left] at hdec
    simp only [hm_step] at hst
    split at hst
    · cases hst; exact lv_l2i C0.1 C0.2.1 hdec rfl (kk _ _ _ hP hD hS hL hsc)
    · cases hst
  | 10, hlk, hst => cases hst; exact hm_w10 C0 hdec hlk (kk _ _ _ hP hD hS hL hsc)
  | 11, hlk, hst =>
    simp only [hm_lk, Bool.and_eq_true, decide_eq_true_eq] at hlk
    obtain ⟨rfl, rfl⟩ := hlk
    rw [Nat.add_sub_cancel_left] at hdec
    simp only [hm_step] at hst
    split at hst
    · cases hst; exact lv_lmul C0.1 C0.2.1 hdec (kk _ _ _ hP hD hS hL hsc)
    · cases hst
  | 12, hlk, hst =>
    simp only [hm_lk, Bool.and_eq_true, decide_eq_true_eq] at hlk
    obtain ⟨rfl, rfl⟩ := hlk
    rw [Nat.add_sub_cancel_left] at hdec
    simp only [hm_step] at hst
    split at hst
    · split at hst
      · cases hst
      · rename_i hy; cases hst; exact lv_lrem C0.1 C0.2.1 hdec hy (kk _ _ _ hP hD hS hL hsc)
    · cases hst
  | 13, hlk, hst =>
    simp only [hm_lk, Bool.and_eq_true, decide_eq_true_eq] at hlk
    obtain ⟨rfl, rfl⟩ := hlk
    rw [Nat.add_sub_cancel_left] at hdec
    simp only [hm_step] at hst
    split at hst
    · cases hst; exact W.lcmp C0.1 C0.2.1 hdec (kk _ _ _ hP hD hS hL hsc)
    · cases hst
  | 14, hlk, hst =>
    simp only [hm_lk, Bool.and_eq_true, decide_eq_true_eq] at hlk
    obtain ⟨⟨rfl, h8⟩, rfl⟩ := hlk
    rw [Nat.add_sub_cancel_left] at hdec
    simp only [hm_step] at hst
    split at hst
    · cases hst; exact hm_w14 C0 hdec h8 (kk _ _ _ hP hD hS hL hsc)
    · cases hst
  | 15, hlk, hst =>
    simp only [hm_lk, Bool.and_eq_true, decide_eq_true_eq] at hlk
    obtain ⟨⟨rfl, h8⟩, rfl⟩ := hlk
    rw [Nat.add_sub_cancel_left] at hdec
    simp only [hm_step] at hst
    split at hst
    · cases hst; exact hm_w15 C0 hdec h8 (kk _ _ _ hP hD hS hL hsc)
    · cases hst
  | 16, hlk, hst =>
    simp only [hm_lk, Bool.and_eq_true, decide_eq_true_eq] at hlk
    obtain ⟨rfl, rfl⟩ := hlk
    rw [Nat.add_sub_cancel_left] at hdec
    cases hst
    exact lv_goto C0.1 C0.2.1 hdec (by omega) (kk _ _ _ hP hD hS hL hsc)
  | 17, hlk, hst =>
    simp only [hm_step] at hst
    split at hst
    · cases hst; exact hm_w17 C0 hdec hlk (kk _ _ _ hP hD hS hL hsc)
    · cases hst
  | 18, hlk, hst =>
    simp only [hm_lk, Bool.and_eq_true, decide_eq_true_eq] at hlk
    obtain ⟨h1, rfl⟩ := hlk
    rw [Nat.add_sub_cancel_left] at hdec
    simp only [hm_step] at hst
    split at hst
    · split at hst
      · rename_i hf; cases hst; exact hm_w18 C0 hdec h1 hf hP (kk _ _ _ hP hD hS hL hsc)
      · rename_i hf; cases hst; exact hm_w18 C0 hdec h1 hf hP (kk _ _ _ hP hD hS hL hsc)
      · cases hst
    · cases hst
  | 19, hlk, hst =>
    simp only [hm_lk, Bool.and_eq_true, decide_eq_true_eq] at hlk
    obtain ⟨h1, rfl⟩ := hlk
    rw [Nat.add_sub_cancel_left] at hdec
    simp only [hm_step] at hst
    split at hst
    · split at hst
      · rename_i hf
        cases hst
        obtain ⟨c0, fl, g1, g2, g3⟩ := hm_fld_of hf
        exact hm_w19 C0 hdec h1 hf hP hD hS (fun H1 locs1 p1 p3 => kk H1 locs1 _ p1 (hm_D hD) p3 hL (hm_scr_row hsc g1))
      · cases hst
    · cases hst
  | 20, hlk, hst =>
    simp only [hm_lk, Bool.and_eq_true, decide_eq_true_eq] at hlk
    obtain ⟨rfl, rfl⟩ := hlk
    rw [Nat.add_sub_cancel_left] at hdec
    simp only [hm_step] at hst
    split at hst
    · split at hst
      · split at hst
        · cases hst
        · rename_i hf hy; cases hst; exact hm_w20 C0 hdec hf hy hP hS hsc (kk _ _ _ hP hD hS hL hsc)
      · cases hst
    · cases hst
  | 21, hlk, hst =>
    simp only [hm_lk, Bool.and_eq_true, decide_eq_true_eq] at hlk
    obtain ⟨rfl, rfl⟩ := hlk
    rw [Nat.add_sub_cancel_left] at hdec
    simp only [hm_step] at hst
    split at hst
    · split at hst
      · split at hst
        · split at hst
          · cases hst
          · rename_i hf hz hy; cases hst; exact hm_w21 C0 hdec hf hz hy hP hD hS (fun H1 locs1 p1 p3 => kk H1 locs1 _ p1 (hm_D hD) p3 hL (hm_scr_row hsc hf))
        · cases hst
      · cases hst
    · cases hst
  | 22, hlk, hst =>
    simp only [hm_lk, Bool.and_eq_true, decide_eq_true_eq] at hlk
    obtain ⟨rfl, rfl⟩ := hlk
    rw [Nat.add_sub_cancel_left] at hdec
    simp only [hm_step] at hst
    split at hst
    · split at hst
      · rename_i hf; cases hst; exact hm_w22 C0 hdec hf hP hS hsc (kk _ _ _ hP hD hS hL hsc)
      · cases hst
    · cases hst
  | 23, hlk, hst =>
    simp only [hm_lk, Bool.and_eq_true, decide_eq_true_eq] at hlk
    obtain ⟨h1, rfl⟩ := hlk
    rw [Nat.add_sub_cancel_left] at hdec
    simp only [hm_step] at hst
    by_cases h5 : b < 5
    · rw [if_pos h5] at hst; cases hst; exact hm_w23 C0 hdec h1 hS (kk _ _ _ hP hD hS hL hsc)
    · rw [if_neg h5] at hst; cases hst
  | 24, hlk, hst =>
    simp only [hm_lk, Bool.and_eq_true, decide_eq_true_eq] at hlk
    obtain ⟨rfl, rfl⟩ := hlk
    rw [Nat.add_sub_cancel_left] at hdec
    simp only [hm_step] at hst
    split at hst
    · split at hst
      · rename_i hv; cases hst; exact lv_dup C0.1 C0.2.1 hdec (hm_cat1 hv) (kk _ _ _ hP hD hS hL hsc)
      · cases hst
    · cases hst
  | 25, hlk, hst =>
    simp only [hm_lk, Bool.and_eq_true, decide_eq_true_eq] at hlk
    obtain ⟨rfl, rfl⟩ := hlk
    rw [Nat.add_sub_cancel_left] at hdec
    simp only [hm_step] at hst
    split at hst
    · split at hst
      · rename_i hv; cases hst; exact lv_pop C0.1 C0.2.1 hdec (hm_cat1 hv) (kk _ _ _ hP hD hS hL hsc)
      · cases hst
    · cases hst
  | 26, hlk, hst =>
    simp only [hm_lk, Bool.and_eq_true, decide_eq_true_eq] at hlk
    obtain ⟨rfl, rfl⟩ := hlk
    rw [Nat.add_sub_cancel_left] at hdec
    simp only [hm_step] at hst
    split at hst
    · split at hst
      · rename_i hv; cases hst; exact lv_dup2_11 C0.1 C0.2.1 hdec (hm_cat1 hv.1) (hm_cat1 hv.2) (kk _ _ _ hP hD hS hL hsc)
      · cases hst
    · cases hst
  | 28, hlk, hst =>
    simp only [hm_lk, Bool.and_eq_true, decide_eq_true_eq] at hlk
    obtain ⟨h1, rfl⟩ := hlk
    rw [Nat.add_sub_cancel_left] at hdec
    simp only [hm_step] at hst
    split at hst
    · split at hst
      · split at hst
        · cases hst
        · rename_i g0 g1 hy
          cases hst
          exact hm_w28 C0 hdec h1 (Nat.succ_pos _) hL g0 g1 hy hP hD hS (fun H1 locs1 p1 p3 => kk H1 locs1 _ p1 (hm_D hD) p3 hL (hm_scr_row hsc g1))
      · cases hst
    · cases hst
  | 32, hlk, hst =>
    simp only [hm_lk, Bool.and_eq_true, decide_eq_true_eq] at hlk
    obtain ⟨h1, rfl⟩ := hlk
    rw [Nat.add_sub_cancel_left] at hdec
    simp only [hm_step] at hst
    split at hst
    · split at hst
      · rename_i hr; cases hst; exact hm_w32 C0 hdec h1 (Nat.succ_pos _) hr hL (kk _ _ _ hP hD hS hL hsc)
      · cases hst
    · cases hst
  | 33, hlk, hst =>
    simp only [hm_lk, Bool.and_eq_true, decide_eq_true_eq] at hlk
    obtain ⟨h1, rfl⟩ := hlk
    rw [Nat.add_sub_cancel_left] at hdec
    simp only [hm_step] at hst
    split at hst
    · split at hst
      · rename_i hr; cases hst; exact hm_w33 C0 hdec h1 (Nat.succ_pos _) hr hL (kk _ _ _ hP hD hS hL hsc)
      · cases hst
    · cases hst
  | 27, _, hst => cases hst
  | 29, _, hst => cases hst
  | 30, _, hst => cases hst
  | n + 34, _, hst => cases hst
end HMS
theorem hm_at_of {mid pc nx op b : Nat} {a : Int} {l : List (Int × Nat)} {t : hm_X} (ht : hm_tab[mid]? = some t) (h : hm_at mid pc = some (nx, op, a, b, l)) : ∃ ins lk, ((pc, nx, ins, op, a, b, l, lk) : hm_I) ∈ t.2.2.2.2.2.2.2 := by
  unfold hm_at at h
  rw [ht] at h
  dsimp only at h
  split at h
  · cases h
  · rename_i q hq
    have h1 := List.find?_some hq
    have h2 := List.mem_of_find?_eq_some hq
    obtain ⟨pc0, nx0, ins, op0, a0, b0, l0, lk⟩ := q
    simp only [Option.some.injEq, Prod.mk.injEq] at h
    obtain ⟨rfl, rfl, rfl, rfl, rfl⟩ := h
    have e : pc0 = pc := by simpa using h1
    subst e
    exact ⟨ins, lk, h2⟩
theorem hm_chk_of {mid pc nx op b : Nat} {a : Int} {l : List (Int × Nat)} {t : hm_X} (hk : hm_okT t) (ht : hm_tab[mid]? = some t) (h : hm_at mid pc = some (nx, op, a, b, l)) : ∃ ins lk, decode t.2.1 pc = .ok (ins, nx - pc) ∧ hm_lk hm_tb t.1.cls pc nx ins op a b l lk = true ∧ (op = 29 → (b = 0 ∧ t.2.2.2.1 = some .int) ∨ (b = 1 ∧ t.2.2.2.1 = some .boolean)) ∧ (op = 30 → t.2.2.2.1 = none) := by
  obtain ⟨ins, lk, hm⟩ := hm_at_of ht h
  have h1 := List.all_eq_true.mp hk _ hm
  simp only [hm_chkI, Bool.and_eq_true, decide_eq_true_eq] at h1
  obtain ⟨⟨h2, h3⟩, h4⟩ := h1
  refine ⟨ins, lk, h2, h3, fun e => ?_, fun e => ?_⟩
  · subst e
    match b, h4 with
    | 0, h4 => exact Or.inl ⟨rfl, of_decide_eq_true h4⟩
    | 1, h4 => exact Or.inr ⟨rfl, of_decide_eq_true h4⟩
    | n + 2, h4 => cases h4
  · subst e
    simpa using h4
theorem hm_M_of {t : hm_X} (h : hm_chkM t = true) : Cond.code t.1 t.2.1 t.2.2.1 t.2.2.2.1 ∈ hm_tbl ∧ Cond.initialized t.1.cls ∈ hm_tbl ∧ (t.2.2.2.2.1 = true → Cond.static t.1 ∈ hm_tbl) ∧ (t.2.2.2.2.1 = false → Cond.instanceMethod t.1 ∈ hm_tbl ∧ Cond.selects t.1.cls t.1 t.1 ∈ hm_tbl ∧ 0 < t.2.2.2.2.2.1) ∧ plainName t.1.cls = true ∧ t.1.cls ≠ "java/lang/invoke/MethodHandle" ∧ t.1.cls ≠ "java/lang/invoke/VarHandle" ∧ (parseMethodDescriptor t.1.desc).map (fun d => d.parameters.length) = some (if t.2.2.2.2.1 = true then t.2.2.2.2.2.1 else t.2.2.2.2.2.1 - 1) ∧ t.2.2.1 ≤ 20 := by
  unfold hm_chkM at h
  split at h
  · simp only [Bool.and_eq_true, Bool.or_eq_true, decide_eq_true_eq] at h
    obtain ⟨⟨⟨⟨⟨⟨⟨⟨⟨h1, h2⟩, h3⟩, h4⟩, h5⟩, h6⟩, h7⟩, h8⟩, h9⟩, h10⟩ := h
    refine ⟨hm_in h1 rfl, hm_in h2 rfl, fun e => ?_, fun e => ?_, h5, h6, h7, h8, h9⟩
    · dsimp only at e
      rw [if_pos e] at h3
      exact hm_in h3 rfl
    · dsimp only at e
      rw [if_neg (by rw [e]; decide)] at h3
      refine ⟨hm_in h3 rfl, ?_, ?_⟩
      · rcases h4 with h | h
        · rw [e] at h; cases h
        · exact hm_in h rfl
      · rcases h10 with h | h
        · rw [e] at h; cases h
        · exact h
  · cases h
