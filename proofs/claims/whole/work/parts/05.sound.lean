def hm_dv (ad : Nat → Nat) (v : hm_V) : Value :=
  match v with
  | .inl x => .int x
  | .inr (.inl x) => .long x
  | .inr (.inr k) => .ref (ad k)
def hm_fv (ad : Nat → Nat) (M : hm_M) (k j : Nat) (f : Option Nat) : Value :=
  match f with
  | none => .int (M k j)
  | some q => .ref (ad q)
def hm_e (cI cZ : ClassId) (ad : Nat → Nat) (M : hm_M) (k : Nat) (s : hm_S) : va_E :=
  match s with
  | .inl (z, n) => .inl (if z = true then cZ else cI, n, .inl (M k))
  | .inr (c, fl) => .inr (c, fl.mapIdx (fun j f => hm_fv ad M k j f))
def hm_w (cI cZ : ClassId) (ad : Nat → Nat) (M : hm_M) : va_W := hm_sh.mapIdx (fun k s => (ad k, hm_e cI cZ ad M k s))
theorem hm_w_get {cI cZ : ClassId} {ad : Nat → Nat} {M : hm_M} {k : Nat} {s : hm_S} (h : hm_sh[k]? = some s) : (hm_w cI cZ ad M)[k]? = some (ad k, hm_e cI cZ ad M k s) := by
  simp [hm_w, List.getElem?_mapIdx, h]
theorem hm_w_of {cI cZ : ClassId} {ad : Nat → Nat} {M : hm_M} {k : Nat} {q : Nat × va_E} (h : (hm_w cI cZ ad M)[k]? = some q) : ∃ s, hm_sh[k]? = some s ∧ q = (ad k, hm_e cI cZ ad M k s) := by
  simp only [hm_w, List.getElem?_mapIdx, Option.map_eq_some_iff] at h
  obtain ⟨s, h1, h2⟩ := h
  exact ⟨s, h1, h2.symm⟩
theorem hm_w_no {cI cZ : ClassId} {ad : Nat → Nat} {M : hm_M} {k : Nat} (h : hm_sh[k]? = none) : (hm_w cI cZ ad M)[k]? = none := by
  simp only [hm_w, List.getElem?_mapIdx, h, Option.map_none]
theorem hm_e_ne {cI cZ : ClassId} {ad : Nat → Nat} {M : hm_M} {k i : Nat} {f : Nat → Int32} {s : hm_S} (h : i ≠ k) : hm_e cI cZ ad (hm_row M k f) i s = hm_e cI cZ ad M i s := by
  have e : hm_row M k f i = M i := by simp [hm_row, h]
  rcases s with ⟨z, n⟩ | ⟨c, fl⟩
  · simp [hm_e, e]
  · simp only [hm_e]
    congr 2
    congr 1
    funext j g
    cases g <;> simp [hm_fv, e]
theorem hm_w_arr {cI cZ : ClassId} {ad : Nat → Nat} {M : hm_M} {k n : Nat} {z : Bool} {f : Nat → Int32} (h : hm_sh[k]? = some (.inl (z, n))) : (hm_w cI cZ ad M).set k (ad k, .inl (if z = true then cZ else cI, n, .inl f)) = hm_w cI cZ ad (hm_row M k f) := by
  apply List.ext_getElem?
  intro i
  by_cases hi : i = k
  · subst hi
    have hl : i < (hm_w cI cZ ad M).length := (List.getElem?_eq_some_iff.mp (hm_w_get (M := M) h)).1
    rw [List.getElem?_set_self hl, hm_w_get h]
    simp [hm_e, hm_row]
  · rw [List.getElem?_set_ne (Ne.symm hi)]
    cases hs : hm_sh[i]? with
    | none => rw [hm_w_no hs, hm_w_no hs]
    | some s => rw [hm_w_get hs, hm_w_get hs, hm_e_ne hi]
theorem hm_w_fld {cI cZ : ClassId} {ad : Nat → Nat} {M : hm_M} {k c j : Nat} {fl : List (Option Nat)} {v : Int32} (h : hm_sh[k]? = some (.inr (c, fl))) (hj : fl[j]? = some none) : (hm_w cI cZ ad M).set k (ad k, .inr (c, (fl.mapIdx (fun j f => hm_fv ad M k j f)).set j (.int v))) = hm_w cI cZ ad (hm_up M k j v) := by
  apply List.ext_getElem?
  intro i
  by_cases hi : i = k
  · subst hi
    have hl : i < (hm_w cI cZ ad M).length := (List.getElem?_eq_some_iff.mp (hm_w_get (M := M) h)).1
    rw [List.getElem?_set_self hl, hm_w_get h]
    simp only [hm_e]
    congr 4
    apply List.ext_getElem?
    intro x
    have hjl : j < fl.length := (List.getElem?_eq_some_iff.mp hj).1
    by_cases hx : x = j
    · subst hx
      rw [List.getElem?_set_self (by simpa using hjl), List.getElem?_mapIdx, hj]
      simp [hm_fv, hm_up, hm_row, upd]
    · rw [List.getElem?_set_ne (Ne.symm hx), List.getElem?_mapIdx, List.getElem?_mapIdx]
      cases fl[x]? with
      | none => rfl
      | some g => cases g <;> simp [hm_fv, hm_up, hm_row, upd, hx]
  · rw [List.getElem?_set_ne (Ne.symm hi)]
    cases hs : hm_sh[i]? with
    | none => rw [hm_w_no hs, hm_w_no hs]
    | some s => rw [hm_w_get hs, hm_w_get hs, hm_up, hm_e_ne hi]
theorem hm_D {A : Nat → Prop} {cI cZ : ClassId} {ad : Nat → Nat} {M M' : hm_M} (h : va_D A (hm_w cI cZ ad M)) : va_D A (hm_w cI cZ ad M') := by
  have key : ∀ (k : Nat) (q : Nat × va_E), (hm_w cI cZ ad M')[k]? = some q → ∃ q0, (hm_w cI cZ ad M)[k]? = some q0 ∧ q0.1 = q.1 := by
    intro k q hq
    obtain ⟨s, h1, rfl⟩ := hm_w_of hq
    exact ⟨_, hm_w_get h1, rfl⟩
  refine ⟨fun i j x y hi hj hxy => ?_, fun k q hk => ?_⟩
  · obtain ⟨x0, h1, h2⟩ := key i x hi
    obtain ⟨y0, h3, h4⟩ := key j y hj
    exact h.1 i j x0 y0 h1 h3 (h2.trans (hxy.trans h4.symm))
  · obtain ⟨q0, h1, h2⟩ := key k q hk
    rw [← h2]
    exact h.2 k q0 h1
/-- the addresses of the cells -/
def hm_A (ad : Nat → Nat) : Nat → Prop := fun q => ∃ k s, hm_sh[k]? = some s ∧ q = ad k
theorem hm_A_in {A : Nat → Prop} {cI cZ : ClassId} {ad : Nat → Nat} {M : hm_M} (h : va_D A (hm_w cI cZ ad M)) : ∀ q, hm_A ad q → A q := by
  rintro q ⟨k, s, h1, rfl⟩
  exact h.2 k _ (hm_w_get h1)
theorem hm_DA {A : Nat → Prop} {cI cZ : ClassId} {ad : Nat → Nat} {M : hm_M} (h : va_D A (hm_w cI cZ ad M)) : va_D (hm_A ad) (hm_w cI cZ ad M) := by
  refine ⟨h.1, fun k q hq => ?_⟩
  obtain ⟨s, h1, rfl⟩ := hm_w_of hq
  exact ⟨k, s, h1, rfl⟩
/-- what nobody writes: the tables, the script -/
def hm_Ro (ad : Nat → Nat) (A : Nat → Prop) (L : Nat) (xs : Nat → Int32) (U : State) (H : Heap) : Prop :=
  (∀ (i : Nat) (C n : String) (l : List Int32), hm_ros[i]? = some (C, n, l) → va_Z C n "[I" (.ref (ad (1000 + i))) A U H ∧ va_T .int (ad (1000 + i)) l.length (fun j => .int (l.getD j 0)) A U H) ∧ va_X (ad 1005) L xs U H ∧ ad 1005 < H.size ∧ ¬ A (ad 1005)
theorem hm_Ro.go {ad : Nat → Nat} {A B : Nat → Prop} {L : Nat} {xs : Nat → Int32} {s U : State} {H : Heap} {locs : List Loc} (h : hm_Ro ad A L xs s s.heap) (hS : va_S A s.heap H locs) (hvm : s.vm.Alike U.vm) (hB : ∀ q, B q → A q) : hm_Ro ad B L xs U H := by
  obtain ⟨h1, h2, h3, h4⟩ := h
  refine ⟨fun i C n l hi => ?_, ?_, Nat.lt_of_lt_of_le h3 hS.1, fun z => h4 (hB _ z)⟩
  · obtain ⟨a, b⟩ := h1 i C n l hi
    exact ⟨(va_Z.moved hvm (a.kept hS.2.1)).narrow hB, (va_T.moved hvm (b.kept hS.2.1)).narrow hB⟩
  · exact va_X.moved hvm (h2.kept (hS.2.1 _ h3 h4))
/-- the links to private fields of nest mates -/
def hm_N (U : State) : Prop := ∀ (a : String) (i : Nat) (b n d h : String), Cond.fieldLinkNest a i b n d h ∈ lw_tbl → va_Nw (.fieldLinkNest a i b n d h) U
def hm_scr (M : hm_M) (L : Nat) (xs : Nat → Int32) : Prop := M 1005 = xs ∧ M 1006 0 = nI L
theorem hm_scr_row {M : hm_M} {L : Nat} {xs : Nat → Int32} {k : Nat} {f : Nat → Int32} {s : hm_S} (h : hm_scr M L xs) (hk : hm_sh[k]? = some s) : hm_scr (hm_row M k f) L xs := by
  have hl : k < 43 := (List.getElem?_eq_some_iff.mp hk).1
  have e1 : hm_row M k f 1005 = M 1005 := by simp only [hm_row]; rw [if_neg (by omega)]
  have e2 : hm_row M k f 1006 = M 1006 := by simp only [hm_row]; rw [if_neg (by omega)]
  exact ⟨by rw [e1]; exact h.1, by rw [e2]; exact h.2⟩
def hm_lv (ad : Nat → Nat) (ls : hm_L) : List (Nat × Value) := ls.zipIdx.filterMap (fun q => q.1.map (fun v => (q.2, hm_dv ad v)))
theorem hm_lv_mem {ad : Nat → Nat} {ls : hm_L} {q : Nat × Value} : q ∈ hm_lv ad ls ↔ ∃ v, ls[q.1]? = some (some v) ∧ q.2 = hm_dv ad v := by
  simp only [hm_lv, List.mem_filterMap, List.mem_zipIdx_iff_getElem?]
  constructor
  · rintro ⟨⟨o, i⟩, h1, h2⟩
    cases o with
    | none => cases h2
    | some v => cases h2; exact ⟨v, h1, rfl⟩
  · rintro ⟨v, h1, h2⟩
    exact ⟨(some v, q.1), h1, by obtain ⟨a, b⟩ := q; simp at h2; simp [h2]⟩
def hm_LR (ad : Nat → Nat) (lc : Array Slot) (nL : Nat) (ls : hm_L) : Prop := ls.length = nL ∧ lv_has lc nL (hm_lv ad ls)
theorem hm_LR.get {ad : Nat → Nat} {lc : Array Slot} {nL : Nat} {ls : hm_L} (h : hm_LR ad lc nL ls) {i : Nat} {v : hm_V} (hi : ls[i]? = some (some v)) : lc[i]? = some (.val (hm_dv ad v)) := h.2.2.2 (i, hm_dv ad v) (hm_lv_mem.mpr ⟨v, hi, rfl⟩)
theorem hm_free_ok {ad : Nat → Nat} {ls : hm_L} {i : Nat} (h : hm_free ls i = true) {j : Nat} {v : hm_V} (hj : ls[j]? = some (some v)) (hji : j + 1 = i) : (hm_dv ad v).category ≠ 2 := by
  subst hji
  simp only [hm_free, hj] at h
  rcases v with x | x | x
  · simp [hm_dv, Value.category]
  · simp at h
  · simp [hm_dv, Value.category]
theorem hm_LR_set1 {ad : Nat → Nat} {lc : Array Slot} {nL : Nat} {ls : hm_L} {i : Nat} {v : hm_V} (hf : hm_free ls i = true) (hl : ls.length = nL) (h : lv_has lc nL ((i, hm_dv ad v) :: (hm_lv ad ls).filter (fun q => !(q.1 == i) && !(q.1 + 1 == i && q.2.category == 2)))) : hm_LR ad lc nL (ls.set i (some v)) := by
  refine ⟨by simpa using hl, h.1, h.2.1, fun q hq => h.2.2 q ?_⟩
  obtain ⟨w, h1, h2⟩ := hm_lv_mem.mp hq
  by_cases hqi : q.1 = i
  · have hil : i < ls.length := by
      have := (List.getElem?_eq_some_iff.mp h1).1
      simpa [hqi] using this
    rw [hqi, List.getElem?_set_self hil] at h1
    cases h1
    rw [show q = (i, hm_dv ad v) from Prod.ext hqi h2]
    exact List.mem_cons_self
  · rw [List.getElem?_set_ne (Ne.symm hqi)] at h1
    refine List.mem_cons_of_mem _ (List.mem_filter.mpr ⟨hm_lv_mem.mpr ⟨w, h1, h2⟩, ?_⟩)
    have h3 : ¬ (q.1 + 1 = i ∧ q.2.category = 2) := fun z => hm_free_ok (ad := ad) hf h1 z.1 (by rw [← h2]; exact z.2)
    simp only [Bool.and_eq_true, Bool.not_eq_true', beq_eq_false_iff_ne, ne_eq, Bool.and_eq_false_imp, beq_iff_eq]
    exact ⟨hqi, fun z1 => by
      have h4 : ¬ q.2.category = 2 := fun z2 => h3 ⟨z1, z2⟩
      simpa using h4⟩
theorem hm_LR_set2 {ad : Nat → Nat} {lc : Array Slot} {nL : Nat} {ls : hm_L} {i : Nat} {v : hm_V} (hf : hm_free ls i = true) (hl : ls.length = nL) (h : lv_has lc nL ((i, hm_dv ad v) :: (hm_lv ad ls).filter (fun q => !(q.1 == i) && (!(q.1 == i + 1) && !(q.1 + 1 == i && q.2.category == 2))))) : hm_LR ad lc nL ((ls.set i (some v)).set (i + 1) none) := by
  refine ⟨by simpa using hl, h.1, h.2.1, fun q hq => h.2.2 q ?_⟩
  obtain ⟨w, h1, h2⟩ := hm_lv_mem.mp hq
  have hq1 : q.1 ≠ i + 1 := by
    intro z
    rw [z] at h1
    by_cases hz : i + 1 < (ls.set i (some v)).length
    · rw [List.getElem?_set_self hz] at h1; cases h1
    · rw [List.getElem?_eq_none (by simp at hz ⊢; omega)] at h1; cases h1
  rw [List.getElem?_set_ne (Ne.symm hq1)] at h1
  by_cases hqi : q.1 = i
  · have hil : i < ls.length := by
      have := (List.getElem?_eq_some_iff.mp h1).1
      simpa [hqi] using this
    rw [hqi, List.getElem?_set_self hil] at h1
    cases h1
    rw [show q = (i, hm_dv ad v) from Prod.ext hqi h2]
    exact List.mem_cons_self
  · rw [List.getElem?_set_ne (Ne.symm hqi)] at h1
    refine List.mem_cons_of_mem _ (List.mem_filter.mpr ⟨hm_lv_mem.mpr ⟨w, h1, h2⟩, ?_⟩)
    have h3 : ¬ (q.1 + 1 = i ∧ q.2.category = 2) := fun z => hm_free_ok (ad := ad) hf h1 z.1 (by rw [← h2]; exact z.2)
    simp only [Bool.and_eq_true, Bool.not_eq_true', beq_eq_false_iff_ne, ne_eq, Bool.and_eq_false_imp, beq_iff_eq]
    exact ⟨hqi, hq1, fun z1 => by
      have h4 : ¬ q.2.category = 2 := fun z2 => h3 ⟨z1, z2⟩
      simpa using h4⟩
theorem hm_ent_ok {ad : Nat → Nat} {n : Nat} {vs : List hm_V} (h : (hm_ent n vs).length = n) : hm_LR ad ((lg_sl (vs.map (hm_dv ad)) ++ List.replicate (n - (lg_sl (vs.map (hm_dv ad))).length) Slot.unset).toArray) n (hm_ent n vs) := by
  have e1 : ∀ vs : List hm_V, (lg_sl (vs.map (hm_dv ad))).length = (vs.flatMap hm_sl).length := by
    intro vs
    induction vs with
    | nil => rfl
    | cons v vs ih =>
      rcases v with x | x | x
      all_goals simp [lg_sl, hm_dv, Value.category, hm_sl] at ih ⊢
      all_goals omega
  have hl : (lg_sl (vs.map (hm_dv ad))).length ≤ n := by
    rw [e1]
    simp only [hm_ent, List.length_append, List.length_replicate] at h
    omega
  obtain ⟨a, b, c⟩ := lv_entry (vs.map (hm_dv ad)) hl
  refine ⟨h, a, b, fun q hq => c q ?_⟩
  obtain ⟨v, h1, h2⟩ := hm_lv_mem.mp hq
  have key : ∀ (vs : List hm_V) (i j : Nat) (v : hm_V), (vs.flatMap hm_sl)[j]? = some (some v) → (i + j, hm_dv ad v) ∈ lv_args i (vs.map (hm_dv ad)) := by
    intro vs
    induction vs with
    | nil => intro i j v h; simp at h
    | cons w vs ih =>
      intro i j v h
      rcases w with x | x | x
      · rw [List.flatMap_cons] at h
        cases j with
        | zero => simp [hm_sl] at h; subst h; simp [lv_args]
        | succ j =>
          simp only [hm_sl, List.singleton_append, List.getElem?_cons_succ] at h
          have := ih (i + 1) j v h
          simp only [List.map_cons, lv_args]
          refine List.mem_cons_of_mem _ ?_
          simp [hm_dv, Value.category]
          rw [show i + (j + 1) = i + 1 + j by omega]
          exact this
      · rw [List.flatMap_cons] at h
        cases j with
        | zero => simp [hm_sl] at h; subst h; simp [lv_args]
        | succ j =>
          cases j with
          | zero => simp [hm_sl] at h
          | succ j =>
            simp only [hm_sl, List.cons_append, List.nil_append, List.getElem?_cons_succ] at h
            have := ih (i + 2) j v h
            simp only [List.map_cons, lv_args]
            refine List.mem_cons_of_mem _ ?_
            simp [hm_dv, Value.category]
            rw [show i + (j + 1 + 1) = i + 2 + j by omega]
            exact this
      · rw [List.flatMap_cons] at h
        cases j with
        | zero => simp [hm_sl] at h; subst h; simp [lv_args]
        | succ j =>
          simp only [hm_sl, List.singleton_append, List.getElem?_cons_succ] at h
          have := ih (i + 1) j v h
          simp only [List.map_cons, lv_args]
          refine List.mem_cons_of_mem _ ?_
          simp [hm_dv, Value.category]
          rw [show i + (j + 1) = i + 1 + j by omega]
          exact this
  have h3 := key vs 0 q.1 v (by
    rw [hm_ent] at h1
    rw [List.getElem?_append] at h1
    split at h1
    · exact h1
    · have := List.mem_of_getElem? h1
      rw [List.mem_replicate] at this
      simp at this)
  rw [Nat.zero_add, ← h2] at h3
  exact h3
