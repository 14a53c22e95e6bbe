theorem hm_cat2 (ad : Nat → Nat) (v : hm_V) : (hm_dv ad v).category ≤ 2 := by
  rcases v with x | x | x <;> simp [hm_dv, Value.category]
theorem hm_sum (ad : Nat → Nat) (r : List hm_V) : ((r.map (hm_dv ad)).map fun v => v.category).sum ≤ 2 * r.length := by
  induction r with
  | nil => simp
  | cons v r ih =>
    have := hm_cat2 ad v
    simp only [List.map_cons, List.sum_cons, List.length_cons]
    omega
theorem hm_cat1 {ad : Nat → Nat} {v : hm_V} (h : hm_short v = true) : (hm_dv ad v).category = 1 := by
  rcases v with x | x | x
  · rfl
  · simp [hm_short] at h
  · rfl
theorem hm_swL {pc tg : Nat} {df x : Int} (hd : (pc : Int) + df = (tg : Int)) : ∀ (ps : List (Int × Int)) (l : List (Int × Nat)), l.map (fun q => (q.1, (q.2 : Int))) = ps.map (fun q => (q.1, (pc : Int) + q.2)) → (pc : Int) + Op.lookupswitch.offset ps df x = (hm_swt l tg x : Int)
  | [], l, h => by
    cases l with
    | nil => rw [Op.lookupswitch.offset_nil]; exact hd
    | cons q l => simp at h
  | (k, o) :: ps, l, h => by
    cases l with
    | nil => simp at h
    | cons q l =>
      obtain ⟨k', t⟩ := q
      simp only [List.map_cons, List.cons.injEq, Prod.mk.injEq] at h
      obtain ⟨⟨h1, h2⟩, h3⟩ := h
      subst h1
      rw [Op.lookupswitch.offset_cons]
      simp only [hm_swt]
      by_cases hx : k' = x
      · rw [if_pos hx, if_pos hx.symm, h2]
      · rw [if_neg hx, if_neg (fun z => hx z.symm)]
        exact hm_swL hd ps l h3
theorem hm_swT {pc tg : Nat} {lo x : Int} : ∀ (os : List Int) (n : Nat) (l : List (Int × Nat)), l.map (fun q => (q.1, (q.2 : Int))) = (os.zipIdx n).map (fun q => (lo + (q.2 : Int), (pc : Int) + q.1)) →
    ((x < lo + (n : Int) ∨ lo + (n : Int) + (os.length : Int) ≤ x) → hm_swt l tg x = tg) ∧ ∀ (i : Nat) (off : Int), os[i]? = some off → x = lo + (n : Int) + (i : Int) → (hm_swt l tg x : Int) = (pc : Int) + off
  | [], n, l, h => by
    cases l with
    | nil => exact ⟨fun _ => rfl, fun i off hi => by simp at hi⟩
    | cons q l => simp at h
  | o :: os, n, l, h => by
    cases l with
    | nil => simp at h
    | cons q l =>
      obtain ⟨k', t⟩ := q
      simp only [List.map_cons, List.zipIdx_cons, List.cons.injEq, Prod.mk.injEq] at h
      obtain ⟨⟨h1, h2⟩, h3⟩ := h
      obtain ⟨i1, i2⟩ := hm_swT os (n + 1) l h3
      simp only [hm_swt]
      refine ⟨fun hx => ?_, fun i off hi hx => ?_⟩
      · rw [if_neg (by simp only [List.length_cons] at hx; omega)]
        refine i1 ?_
        simp only [List.length_cons] at hx
        omega
      · cases i with
        | zero =>
          simp only [List.getElem?_cons_zero, Option.some.injEq] at hi
          rw [if_pos (by omega), h2, hi]
        | succ i =>
          rw [if_neg (by omega)]
          exact i2 i off (by simpa using hi) (by omega)
theorem hm_wa1 : (Cond.native arraycopyName) ∈ hm_tbl := by decide +kernel
theorem hm_wa2 : (Cond.static arraycopyName) ∈ hm_tbl := by decide +kernel
theorem hm_wa3 : (Cond.initialized "java/lang/System") ∈ hm_tbl := by decide +kernel
theorem hm_wm1 : (Cond.static Lib.Math.max.name) ∈ hm_tbl := by decide +kernel
theorem hm_wm2 : (Cond.code Lib.Math.max.name Lib.Math.max.code 2 (some .int)) ∈ hm_tbl := by decide +kernel
theorem hm_wm3 : (Cond.static Lib.Math.min.name) ∈ hm_tbl := by decide +kernel
theorem hm_wm4 : (Cond.code Lib.Math.min.name Lib.Math.min.code 2 (some .int)) ∈ hm_tbl := by decide +kernel
theorem hm_wm5 : (Cond.initialized "java/lang/Math") ∈ hm_tbl := by decide +kernel
section HMS
variable {p : Program} {l : Launch} {e : Env} {R : Room} {s : State} {m : MethodId} {args : Array Value} {below : List Frame} {meth : Method} {c : Code} {H : Heap} {locs : List Loc} {cells slots : Nat} {Q : State → Prop}
variable {D : va_G} {cI cZ : ClassId} {ad : Nat → Nat} {A : Nat → Prop} {L : Nat} {xs : Nat → Int32} {t : hm_X} {d pc nx : Nat} {lc : Array Slot} {ls ls' : hm_L} {st st' : List hm_V} {M M1 : hm_M} {ins : Instr} {a : Int} {b pc' op lk : Nat} {ll : List (Int × Nat)} {rest : List Value}
theorem hm_w17 {x : Int32} (C0 : hm_Ctx D cI cZ ad A L xs t d cells slots p R s m args c) (hdec : decode t.2.1 pc = .ok (ins, nx - pc)) (hlk : hm_k17 pc ins a ll = true) (k : W p l e R s m args below meth c H locs cells slots Q (F0 m (hm_swt ll a.toNat x.toInt) lc rest)) : W p l e R s m args below meth c H locs cells slots Q (F0 m pc lc (.int x :: rest)) := by
  obtain ⟨hx, hb, hml, hown, hts, -⟩ := C0
  unfold hm_k17 at hlk
  split at hlk
  · simp only [Bool.and_eq_true, decide_eq_true_eq] at hlk
    obtain ⟨⟨h1, h2⟩, h3⟩ := hlk
    exact lv_lookup hx hb hdec h3 rfl (hm_swL h1 _ _ h2) k
  · rename_i df lo hi os
    simp only [Bool.and_eq_true, decide_eq_true_eq] at hlk
    obtain ⟨⟨h1, h2⟩, h3⟩ := hlk
    obtain ⟨i1, i2⟩ := hm_swT (pc := pc) (tg := a.toNat) (lo := lo) (x := x.toInt) os.toList 0 ll h2
    by_cases hc : x.toInt < lo ∨ hi < x.toInt
    · have e := i1 (by simp only [Array.length_toList]; omega)
      rw [e] at k
      exact lv_tableOut hx hb hdec hc h1 k
    · have hlt : (x.toInt - lo).toNat < os.size := by omega
      have ho : os[(x.toInt - lo).toNat]? = some os[(x.toInt - lo).toNat] := Array.getElem?_eq_getElem hlt
      have e := i2 (x.toInt - lo).toNat os[(x.toInt - lo).toNat] (by rw [Array.getElem?_toList]; exact ho) (by omega)
      exact lv_tableIn hx hb hdec (by omega) (by omega) ho e.symm k
  · cases hlk
theorem hm_w18 {k : Nat} {o : Option Nat} (C0 : hm_Ctx D cI cZ ad A L xs t d cells slots p R s m args c) (hdec : decode t.2.1 pc = .ok (ins, 3)) (hlk : hm_k18 t.1.cls ins a b lk = true) (hf : hm_fld k a b = some o) (hP : va_P D vwCl (hm_w cI cZ ad M) H) (kk : W p l e R s m args below meth c H locs cells slots Q (F0 m (pc + 3) lc (hm_fv ad M k b o :: rest))) : W p l e R s m args below meth c H locs cells slots Q (F0 m pc lc (.ref (ad k) :: rest)) := by
  obtain ⟨hx, hb, hml, hown, hts, hK, hR, hN, -⟩ := C0
  obtain ⟨c0, fl, h1, h2, h3⟩ := hm_fld_of hf
  unfold hm_k18 at hlk
  split at hlk
  · rename_i i
    have ha : a.toNat = c0 := by omega
    rw [ha] at hlk
    cases hq : vwCl[c0]? with
    | none => rw [hq] at hlk; cases hlk
    | some q =>
      rw [hq] at hlk
      simp only [hm_fl, Bool.and_eq_true, Bool.or_eq_true, decide_eq_true_eq] at hlk
      obtain ⟨-, hbn, hl⟩ := hlk
      obtain ⟨u1, ty0, u2, u3⟩ := hm_cls hq
      have hv : (fl.mapIdx (fun j f => hm_fv ad M k j f))[b]? = some (hm_fv ad M k b o) := by rw [List.getElem?_mapIdx, h3]; rfl
      rcases hl with hl | hl
      · exact va_get hx hb hts u1 hown hK hP k (hm_w_get h1) hq b hbn (hts _ (hm_in hl rfl)) (fun _ h9 => h9) hv hdec kk
      · exact va_getN hx hb hts u1 hown hK hP k (hm_w_get h1) hq b hbn ((hN _ _ _ _ _ _ (List.mem_of_getElem? hl)).use rfl) (fun _ h9 => h9) hv hdec kk
  · cases hlk
theorem hm_w19 {k : Nat} {x : Int32} (C0 : hm_Ctx D cI cZ ad A L xs t d cells slots p R s m args c) (hdec : decode t.2.1 pc = .ok (ins, 3)) (hlk : hm_k19 t.1.cls ins a b lk = true) (hf : hm_fld k a b = some none) (hP : va_P D vwCl (hm_w cI cZ ad M) H) (hD : va_D A (hm_w cI cZ ad M)) (hS : va_S A s.heap H locs) (kk : ∀ (H1 : Heap) (locs1 : List Loc), va_P D vwCl (hm_w cI cZ ad (hm_up M k b x)) H1 → va_S A s.heap H1 locs1 → W p l e R s m args below meth c H1 locs1 cells slots Q (F0 m (pc + 3) lc rest)) : W p l e R s m args below meth c H locs cells slots Q (F0 m pc lc (.int x :: .ref (ad k) :: rest)) := by
  obtain ⟨hx, hb, hml, hown, hts, hK, hR, hN, -⟩ := C0
  obtain ⟨c0, fl, h1, h2, h3⟩ := hm_fld_of hf
  unfold hm_k19 at hlk
  split at hlk
  · rename_i i
    have ha : a.toNat = c0 := by omega
    rw [ha] at hlk
    cases hq : vwCl[c0]? with
    | none => rw [hq] at hlk; cases hlk
    | some q =>
      rw [hq] at hlk
      simp only [hm_fl, Bool.and_eq_true, Bool.or_eq_true, decide_eq_true_eq] at hlk
      obtain ⟨⟨⟨-, hbn, hl⟩, hfin⟩, hI⟩ := hlk
      obtain ⟨u1, ty0, u2, u3⟩ := hm_cls hq
      have hd : parseFieldDescriptor (q.2.1 b).2.2.1 = some .int := by rw [hI]; decide +kernel
      have hbl : b < (fl.mapIdx (fun j f => hm_fv ad M k j f)).length := by
        have := (List.getElem?_eq_some_iff.mp h3).1
        simpa using this
      rcases hl with hl | hl
      · refine va_put hx hb hts u1 ty0 u2 u3 hown hK hP hD hS k (hm_w_get h1) hq b hbn (hts _ (hm_in hl rfl)) (fun _ h9 => h9) hfin hd (vp_nar_int x) rfl hbl hdec (fun H1 locs1 p1 p2 p3 => kk H1 locs1 ?_ p3)
        rw [← hm_w_fld h1 h3]; exact p1
      · refine va_putN hx hb hts u1 ty0 u2 u3 hown hK hP hD hS k (hm_w_get h1) hq b hbn ((hN _ _ _ _ _ _ (List.mem_of_getElem? hl)).use rfl) (fun _ h9 => h9) hfin hd (vp_nar_int x) rfl hbl hdec (fun H1 locs1 p1 p2 p3 => kk H1 locs1 ?_ p3)
        rw [← hm_w_fld h1 h3]; exact p1
  · cases hlk
theorem hm_w20 {k n : Nat} {i : Int32} {f : Nat → Int32} (C0 : hm_Ctx D cI cZ ad A L xs t d cells slots p R s m args c) (hdec : decode t.2.1 pc = .ok (if b = 1 then .baload else .iaload, 1)) (hf : hm_arr M (b == 1) k = some (n, f)) (hin : ¬ (i < 0 ∨ n ≤ i.toNatClampNeg)) (hP : va_P D vwCl (hm_w cI cZ ad M) H) (hS : va_S A s.heap H locs) (hsc : hm_scr M L xs) (kk : W p l e R s m args below meth c H locs cells slots Q (F0 m (pc + 1) lc (.int (f i.toNatClampNeg) :: rest))) : W p l e R s m args below meth c H locs cells slots Q (F0 m pc lc (.int i :: .ref (ad k) :: rest)) := by
  obtain ⟨hx, hb, hml, hown, hts, hK, hR, hN, -, -, -, -, hL⟩ := C0
  unfold hm_arr at hf
  split at hf
  · rename_i z n' hk
    by_cases hz : z = (b == 1)
    · rw [if_pos hz] at hf
      cases hf
      by_cases hb1 : b = 1
      · rw [if_pos hb1] at hdec
        have hz2 : z = true := by rw [hz, hb1]; rfl
        subst hz2
        exact va_zald hx hb hK hP k 1 (cA := cZ) (hm_w_get hk) rfl hin hdec kk
      · rw [if_neg hb1] at hdec
        have hz2 : z = false := by rw [hz]; simp [hb1]
        subst hz2
        exact va_iald hx hb hK hP k 0 (cA := cI) (hm_w_get hk) rfl hin hdec kk
    · rw [if_neg hz] at hf; cases hf
  · cases hf
  · rename_i hk
    by_cases hz : (b == 1) = true
    · rw [if_pos hz] at hf; cases hf
    · rw [if_neg hz] at hf
      have hb1 : ¬ b = 1 := by simpa using hz
      rw [if_neg hb1] at hdec
      by_cases h1 : k < 1000
      · rw [if_pos h1] at hf; cases hf
      · rw [if_neg h1] at hf
        by_cases h2 : k = 1005
        · rw [if_pos h2] at hf
          cases hf
          subst h2
          rw [hsc.2, nI_clamp hL] at hin
          rw [hsc.1] at kk
          exact va_sld hx hb hR.2.1 hR.2.2.1 hR.2.2.2 hS hin hdec kk
        · rw [if_neg h2] at hf
          split at hf
          · rename_i C nm l' hr
            cases hf
            have e : 1000 + (k - 1000) = k := by omega
            obtain ⟨-, hT⟩ := hR.1 (k - 1000) C nm l' hr
            rw [e] at hT
            exact va_ti hx hb hT hS hin rfl hdec kk
          · cases hf
theorem hm_w21 {k n : Nat} {i x : Int32} {z : Bool} (C0 : hm_Ctx D cI cZ ad A L xs t d cells slots p R s m args c) (hdec : decode t.2.1 pc = .ok (if b = 1 then .bastore else .iastore, 1)) (hk : hm_sh[k]? = some (.inl (z, n))) (hz : z = (b == 1)) (hx1 : ¬ ((b = 1 ∧ ¬ (x = 0 ∨ x = 1)) ∨ i < 0 ∨ n ≤ i.toNatClampNeg)) (hP : va_P D vwCl (hm_w cI cZ ad M) H) (hD : va_D A (hm_w cI cZ ad M)) (hS : va_S A s.heap H locs) (kk : ∀ (H1 : Heap) (locs1 : List Loc), va_P D vwCl (hm_w cI cZ ad (hm_up M k i.toNatClampNeg x)) H1 → va_S A s.heap H1 locs1 → W p l e R s m args below meth c H1 locs1 cells slots Q (F0 m (pc + 1) lc rest)) : W p l e R s m args below meth c H locs cells slots Q (F0 m pc lc (.int x :: .int i :: .ref (ad k) :: rest)) := by
  obtain ⟨hx, hb, hml, hown, hts, hK, hR, hN, -⟩ := C0
  have hin : vp_in i n := fun q => hx1 (Or.inr q)
  by_cases hb1 : b = 1
  · rw [if_pos hb1] at hdec
    have hz2 : z = true := by rw [hz, hb1]; rfl
    subst hz2
    have hx01 : x = 0 ∨ x = 1 := by
      rcases Classical.em (x = 0 ∨ x = 1) with h | h
      · exact h
      · exact absurd (Or.inl ⟨hb1, h⟩) hx1
    have hnar : vp_nar .boolean x = x := by rcases hx01 with rfl | rfl <;> rfl
    refine va_zast hx hb hK hP hD hS k 1 (cA := cZ) (hm_w_get hk) rfl hin hdec (fun H1 locs1 p1 p2 p3 => kk H1 locs1 ?_ p3)
    rw [hnar] at p1
    have e := hm_w_arr (cI := cI) (cZ := cZ) (ad := ad) (M := M) (f := upd (M k) i.toNatClampNeg x) hk
    rw [hm_up, ← e]
    exact p1
  · rw [if_neg hb1] at hdec
    have hz2 : z = false := by rw [hz]; simp [hb1]
    subst hz2
    refine va_iast hx hb hK hP hD hS k 0 (cA := cI) (hm_w_get hk) rfl hin hdec (fun H1 locs1 p1 p2 p3 => kk H1 locs1 ?_ p3)
    have e := hm_w_arr (cI := cI) (cZ := cZ) (ad := ad) (M := M) (f := upd (M k) i.toNatClampNeg x) hk
    rw [hm_up, ← e]
    exact p1
theorem hm_w22 {k n : Nat} {f : Nat → Int32} (C0 : hm_Ctx D cI cZ ad A L xs t d cells slots p R s m args c) (hdec : decode t.2.1 pc = .ok (.arraylength, 1)) (hf : hm_arr M false k = some (n, f)) (hP : va_P D vwCl (hm_w cI cZ ad M) H) (hS : va_S A s.heap H locs) (hsc : hm_scr M L xs) (kk : W p l e R s m args below meth c H locs cells slots Q (F0 m (pc + 1) lc (.int (nI n) :: rest))) : W p l e R s m args below meth c H locs cells slots Q (F0 m pc lc (.ref (ad k) :: rest)) := by
  obtain ⟨hx, hb, hml, hown, hts, hK, hR, hN, -, -, -, -, hL⟩ := C0
  unfold hm_arr at hf
  split at hf
  · rename_i z n' hk
    by_cases hz : z = false
    · rw [if_pos hz] at hf
      cases hf
      subst hz
      exact va_alen hx hb hK hP k 0 (cA := cI) (hm_w_get hk) (ty := .int) rfl rfl hdec kk
    · rw [if_neg hz] at hf; cases hf
  · cases hf
  · rename_i hk
    rw [if_neg (by decide)] at hf
    by_cases h1 : k < 1000
    · rw [if_pos h1] at hf; cases hf
    · rw [if_neg h1] at hf
      by_cases h2 : k = 1005
      · rw [if_pos h2] at hf
        cases hf
        subst h2
        rw [hsc.2, nI_clamp hL] at kk
        exact va_slen hx hb hR.2.1 hR.2.2.1 hR.2.2.2 hS hdec kk
      · rw [if_neg h2] at hf
        split at hf
        · rename_i C nm l' hr
          cases hf
          have e : 1000 + (k - 1000) = k := by omega
          obtain ⟨-, hT⟩ := hR.1 (k - 1000) C nm l' hr
          rw [e] at hT
          exact va_tlen hx hb hT hS rfl hdec kk
        · cases hf
theorem hm_w23 (C0 : hm_Ctx D cI cZ ad A L xs t d cells slots p R s m args c) (hdec : decode t.2.1 pc = .ok (ins, 3)) (hlk : hm_k23 t.1.cls ins b lk = true) (hS : va_S A s.heap H locs) (kk : W p l e R s m args below meth c H locs cells slots Q (F0 m (pc + 3) lc (.ref (ad (1000 + b)) :: rest))) : W p l e R s m args below meth c H locs cells slots Q (F0 m pc lc rest) := by
  obtain ⟨hx, hb, hml, hown, hts, hK, hR, hN, -⟩ := C0
  unfold hm_k23 at hlk
  split at hlk
  · cases hr : hm_ros[b]? with
    | none => rw [hr] at hlk; cases hlk
    | some q =>
      obtain ⟨C, n, l'⟩ := q
      rw [hr] at hlk
      simp only [decide_eq_true_eq] at hlk
      exact va_gets hx hb (hR.1 b C n l' hr).1 hS hown (hts _ (hm_in hlk rfl)) (fun _ h9 => h9) hdec kk
  · cases hlk
theorem hm_w28 {k0 k1 n0 n1 : Nat} {n dp sp : Int32} (C0 : hm_Ctx D cI cZ ad A L xs t d cells slots p R s m args c) (hdec : decode t.2.1 pc = .ok (ins, 3)) (hlk : hm_k28 t.1.cls ins arraycopyName lk = true) (hd : 0 < d) (hL : hm_LR ad lc t.2.2.1 ls) (h0 : hm_sh[k0]? = some (.inl (false, n0))) (h1 : hm_sh[k1]? = some (.inl (false, n1))) (hc : ¬ (sp < 0 ∨ dp < 0 ∨ n < 0 ∨ n0 < sp.toNatClampNeg + n.toNatClampNeg ∨ n1 < dp.toNatClampNeg + n.toNatClampNeg)) (hP : va_P D vwCl (hm_w cI cZ ad M) H) (hD : va_D A (hm_w cI cZ ad M)) (hS : va_S A s.heap H locs)
    (kk : ∀ (H1 : Heap) (locs1 : List Loc), va_P D vwCl (hm_w cI cZ ad (hm_row M k1 (va_cpy (M k0) (M k1) sp.toNatClampNeg dp.toNatClampNeg n.toNatClampNeg))) H1 → va_S A s.heap H1 locs1 → W p l e R s m args below meth c H1 locs1 cells slots Q (F0 m (pc + 3) lc [])) : W p l e R s m args below meth c H locs cells slots Q (F0 m pc lc [.int n, .int dp, .ref (ad k1), .int sp, .ref (ad k0)]) := by
  obtain ⟨hx, hb, hml, hown, hts, hK, hR, hN, hfr, hlo, -⟩ := C0
  unfold hm_k28 at hlk
  split at hlk
  · simp only [decide_eq_true_eq] at hlk
    refine va_copyi (ty := .int) hx hb (by rw [hml, hL.2.1]) hown (hts _ (hm_in hlk rfl)) (hts _ hm_wa1) (hts _ hm_wa2) (hts _ hm_wa3) hK hP hD hS k0 k1 0 0 (c0 := cI) (c1 := cI) (hm_w_get h0) (hm_w_get h1) rfl rfl rfl (fun z => hc (Or.inl z)) (fun z => hc (Or.inr (Or.inl z))) (fun z => hc (Or.inr (Or.inr (Or.inl z)))) ?_ ?_ (fun _ _ => rfl) (by omega) ?_ hdec (fun H1 locs1 p1 p2 p3 => kk H1 locs1 ?_ p3)
    · rcases Nat.lt_or_ge n0 (sp.toNatClampNeg + n.toNatClampNeg) with q | q
      · exact absurd (Or.inr (Or.inr (Or.inr (Or.inl q)))) hc
      · exact q
    · rcases Nat.lt_or_ge n1 (dp.toNatClampNeg + n.toNatClampNeg) with q | q
      · exact absurd (Or.inr (Or.inr (Or.inr (Or.inr q)))) hc
      · exact q
    · have e : nativeFrameWords "java/lang/System" "arraycopy" 5 = 7 := by decide +kernel
      rw [e]
      simp only [List.map_nil, List.sum_nil]
      omega
    · have e := hm_w_arr (cI := cI) (cZ := cZ) (ad := ad) (M := M) (f := va_cpy (M k0) (M k1) sp.toNatClampNeg dp.toNatClampNeg n.toNatClampNeg) h1
      rw [← e]
      exact p1
  · cases hlk
theorem hm_w32 {x y : Int32} {r : List hm_V} (C0 : hm_Ctx D cI cZ ad A L xs t d cells slots p R s m args c) (hdec : decode t.2.1 pc = .ok (ins, 3)) (hlk : hm_k28 t.1.cls ins Lib.Math.max.name lk = true) (hd : 0 < d) (hr : r.length ≤ 4) (hL : hm_LR ad lc t.2.2.1 ls) (kk : W p l e R s m args below meth c H locs cells slots Q (F0 m (pc + 3) lc (.int (if x < y then y else x) :: r.map (hm_dv ad)))) : W p l e R s m args below meth c H locs cells slots Q (F0 m pc lc (.int y :: .int x :: r.map (hm_dv ad))) := by
  obtain ⟨hx, hb, hml, hown, hts, hK, hR, hN, hfr, hlo, hce, hsl, -⟩ := C0
  unfold hm_k28 at hlk
  split at hlk
  · simp only [decide_eq_true_eq] at hlk
    have hs := hm_sum ad r
    exact va_mmax hx hb (by rw [hml, hL.2.1]) hown (hts _ (hm_in hlk rfl)) (hts _ hm_wm1) (hts _ hm_wm5) (hts _ hm_wm2) (by omega) (by omega) hce hsl hdec kk
  · cases hlk
theorem hm_w33 {x y : Int32} {r : List hm_V} (C0 : hm_Ctx D cI cZ ad A L xs t d cells slots p R s m args c) (hdec : decode t.2.1 pc = .ok (ins, 3)) (hlk : hm_k28 t.1.cls ins Lib.Math.min.name lk = true) (hd : 0 < d) (hr : r.length ≤ 4) (hL : hm_LR ad lc t.2.2.1 ls) (kk : W p l e R s m args below meth c H locs cells slots Q (F0 m (pc + 3) lc (.int (if y < x then y else x) :: r.map (hm_dv ad)))) : W p l e R s m args below meth c H locs cells slots Q (F0 m pc lc (.int y :: .int x :: r.map (hm_dv ad))) := by
  obtain ⟨hx, hb, hml, hown, hts, hK, hR, hN, hfr, hlo, hce, hsl, -⟩ := C0
  unfold hm_k28 at hlk
  split at hlk
  · simp only [decide_eq_true_eq] at hlk
    have hs := hm_sum ad r
    exact va_mmin hx hb (by rw [hml, hL.2.1]) hown (hts _ (hm_in hlk rfl)) (hts _ hm_wm3) (hts _ hm_wm5) (hts _ hm_wm4) (by omega) (by omega) hce hsl hdec kk
  · cases hlk
end HMS
