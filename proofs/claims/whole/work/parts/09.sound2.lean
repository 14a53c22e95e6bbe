def hm_rm (d : Nat) : Room := { frames := d, cells := 0, slots := 0, locals := 64 * d }
def hm_Pc (D : va_G) (cI cZ : ClassId) (ad : Nat → Nat) (L : Nat) (xs : Nat → Int32) (vs : List hm_V) (M : hm_M) : Array Value → State → Prop :=
  va_Pc (vs.map (hm_dv ad)) (fun U => va_P D vwCl (hm_w cI cZ ad M) U.heap ∧ va_K D vwCl [(cI, .int), (cZ, .boolean)] U ∧ va_D (hm_A ad) (hm_w cI cZ ad M) ∧ hm_Ro ad (hm_A ad) L xs U U.heap ∧ hm_N U)
def hm_Qc (D : va_G) (cI cZ : ClassId) (ad : Nat → Nat) (L : Nat) (xs : Nat → Int32) (r : Option hm_V) (M : hm_M) : Array Value → State → Outcome → State → Prop :=
  fun _ st o t => o = .returned (r.map (hm_dv ad)) ∧ va_P D vwCl (hm_w cI cZ ad M) t.heap ∧ va_F (hm_A ad) st t ∧ hm_scr M L xs
theorem hm_blind {D : va_G} {cI cZ : ClassId} {ad : Nat → Nat} {L : Nat} {xs : Nat → Int32} {vs : List hm_V} {M : hm_M} : FrameBlind (hm_Pc D cI cZ ad L xs vs M) := by
  intro a U g mk h
  obtain ⟨h0, h1, h2, h3, h4, h5⟩ := h
  refine ⟨h0, h1, va_K.moved (u := U) (U := U.calling g mk a) (Vm.Alike.refl U.vm) h2, h3, ?_, fun x i b n dd hh hm => (h5 x i b n dd hh hm).same rfl rfl⟩
  exact hm_Ro.go (s := U) (U := U.calling g mk a) (H := U.heap) (locs := []) h4 va_S.rf (Vm.Alike.refl U.vm) (fun _ z => z)
section HMC
variable {p : Program} {l : Launch} {e : Env} {R : Room} {s : State} {m : MethodId} {args : Array Value} {below : List Frame} {meth : Method} {c : Code} {H : Heap} {locs : List Loc} {cells slots : Nat} {Q : State → Prop}
variable {D : va_G} {cI cZ : ClassId} {ad : Nat → Nat} {A : Nat → Prop} {L : Nat} {xs : Nat → Int32} {pc : Nat} {lc : Array Slot} {r : Option hm_V} {M : hm_M} {rest st0 : List Value} {a : Array Value}
theorem hm_cont (hr : va_Run p l e R s m args below meth c H locs cells slots 0 0 (F0 m pc lc st0) rest (hm_Qc D cI cZ ad L xs r M a) (hm_A ad)) (hS : va_S A s.heap H locs) (hA : ∀ q, hm_A ad q → A q)
    (kk : ∀ (H1 : Heap) (locs1 : List Loc), va_P D vwCl (hm_w cI cZ ad M) H1 → va_S A s.heap H1 locs1 → hm_scr M L xs → W p l e R s m args below meth c H1 locs1 cells slots Q (F0 m (pc + 3) lc ((r.map (hm_dv ad)).toList ++ rest))) : W p l e R s m args below meth c H locs cells slots Q (F0 m pc lc st0) := by
  intro T hT X
  obtain ⟨v, st₀, t, T', L', h0, X', hL, e1, e2, ⟨hv, hP, ⟨hz, hk⟩, hsc⟩, st⟩ := hr T hT X
  cases hv
  rw [h0] at hz hk
  obtain ⟨t2, a1, b1⟩ := kk T'.heap (locs ++ L') (by rw [e1]; exact hP)
    ⟨Nat.le_trans hS.1 (by rw [e1]; exact hz), fun q h1 h2 => by rw [e1, hk q (Nat.lt_of_lt_of_le h1 hS.1) (fun z => h2 (hA q z))]; exact hS.2.1 q h1 h2, fun q hq => by
      rcases List.mem_append.mp hq with h | h
      · exact hS.2.2 q h
      · exact hA _ (hL q h)⟩ hsc T' rfl X'
  exact ⟨t2, st t2 a1, b1⟩
end HMC
def hm_WALK (n : Nat) : Prop :=
  ∀ (D : va_G) (cI cZ : ClassId) (ad : Nat → Nat) (A : Nat → Prop) (L : Nat) (xs : Nat → Int32) (mid : Nat) (t : hm_X) (d cells slots : Nat) (p : Program) (l : Launch) (e : Env) (R : Room) (s : State) (m : MethodId) (args : Array Value) (below : List Frame) (meth : Method) (c : Code) (Q : State → Prop) (fin : Option hm_V → hm_M → Prop),
  hm_tab[mid]? = some t → hm_Ctx D cI cZ ad A L xs t d cells slots p R s m args c →
  (∀ (pc : Nat) (x : Int32) (H : Heap) (locs : List Loc) (lc : Array Slot) (M : hm_M), decode t.2.1 pc = .ok (.ireturn, 1) → fin (some (.inl x)) M → (t.2.2.2.1 = some .int ∨ (t.2.2.2.1 = some .boolean ∧ (x = 0 ∨ x = 1))) → hm_scr M L xs → va_P D vwCl (hm_w cI cZ ad M) H → va_S A s.heap H locs → W p l e R s m args below meth c H locs cells slots Q (F0 m pc lc [.int x])) →
  (∀ (pc : Nat) (H : Heap) (locs : List Loc) (lc : Array Slot) (M : hm_M), decode t.2.1 pc = .ok (.return_, 1) → fin none M → t.2.2.2.1 = none → hm_scr M L xs → va_P D vwCl (hm_w cI cZ ad M) H → va_S A s.heap H locs → W p l e R s m args below meth c H locs cells slots Q (F0 m pc lc [])) →
  ∀ (pc : Nat) (ls : hm_L) (st : List hm_V) (M : hm_M) (r : Option hm_V) (M' : hm_M), hm_run n d mid pc ls st M = some (r, M') → fin r M' → hm_scr M L xs → ∀ (H : Heap) (locs : List Loc) (lc : Array Slot), va_P D vwCl (hm_w cI cZ ad M) H → va_D A (hm_w cI cZ ad M) → va_S A s.heap H locs → hm_LR ad lc t.2.2.1 ls → W p l e R s m args below meth c H locs cells slots Q (F0 m pc lc (st.map (hm_dv ad)))
def hm_MET (n : Nat) : Prop :=
  ∀ (D : va_G) (cI cZ : ClassId) (ad : Nat → Nat) (L : Nat) (xs : Nat → Int32) (l : Launch) (mid : Nat) (t : hm_X) (d : Nat) (vs : List hm_V) (M : hm_M) (r : Option hm_V) (M' : hm_M),
  hm_tabM[mid]? = some t → L < 2 ^ 31 → hm_scr M L xs → (hm_ent t.2.2.1 vs).length = t.2.2.1 → hm_run n d mid 0 (hm_ent t.2.2.1 vs) [] M = some (r, M') → Met l t.1 (Cond.code t.1 t.2.1 t.2.2.1 t.2.2.2.1 :: hm_tbl) (hm_rm d) (hm_Pc D cI cZ ad L xs vs M) (hm_Qc D cI cZ ad L xs r M') 0 0 (hm_A ad)
theorem hm_tab_of {mid : Nat} {t : hm_X} (h : hm_tabM[mid]? = some t) : hm_tab[mid]? = some t := by
  have hl := (List.getElem?_eq_some_iff.mp h).1
  show (hm_tabM ++ _)[mid]? = some t
  rw [List.getElem?_append_left hl]
  exact h
theorem hm_met_of {n : Nat} (hmA : ∀ t ∈ hm_tabM, hm_chkM t = true) (hw : hm_WALK n) : hm_MET n := by
  intro D cI cZ ad L xs l mid t d vs M r M' ht hL hsc hent hrun
  obtain ⟨-, -, -, -, hpl, -⟩ := hm_M_of (hmA t (List.mem_of_getElem? ht))
  refine Met.ofW (cc := t.2.1) (maxL := t.2.2.1) (ret := t.2.2.2.1) hpl rfl ?_
  intro p e s m args below meth c s₁ B hml hv
  obtain ⟨rfl, hP, hK, hD, hR, hN⟩ := hv
  have hts0 := atoms_spec (ws := Cond.code t.1 t.2.1 t.2.2.1 t.2.2.2.1 :: hm_tbl) B.pre
  have hts : ∀ w ∈ hm_tbl, w.before (vs.map (hm_dv ad)).toArray s = true := fun w h => hts0 w (List.mem_cons_of_mem _ h)
  have hown : s.vm.findClass t.1.cls = some m.cls := findClass_of_methodNamed B.named
  rw [lg_entry_eq]
  refine hw D cI cZ ad (hm_A ad) L xs mid t d 0 0 p l e _ s m _ below meth c _ (fun r1 M1 => r1 = r ∧ M1 = M') (hm_tab_of ht) ⟨B.exec, B.bytes, hml, hown, hts, hK, hR, hN, Nat.le_refl _, Nat.le_refl _, Nat.zero_le _, Nat.zero_le _, hL⟩ ?_ ?_ 0 _ [] M r M' hrun ⟨rfl, rfl⟩ hsc s.heap [] _ hP hD va_S.rf (hm_ent_ok hent)
  · intro pc x H locs lc M1 hd hf hrt hsc1 hP1 hS1
    obtain ⟨hr1, rfl⟩ := hf
    subst hr1
    rcases hrt with hrt | ⟨hrt, hx⟩
    · exact W.iret (hlocks := B.notSynchronized) B.exec B.bytes (B.returns.trans hrt) (fun t2 h2 _ => ⟨rfl, by rw [h2]; exact hP1, hS1.F h2, hsc1⟩) hS1.2.2 hd
    · exact W.zret (hlocks := B.notSynchronized) (ty := .boolean) B.exec B.bytes (B.returns.trans hrt) (by rcases hx with rfl | rfl <;> rfl) (fun t2 h2 _ => ⟨rfl, by rw [h2]; exact hP1, hS1.F h2, hsc1⟩) hS1.2.2 hd
  · intro pc H locs lc M1 hd hf hrt hsc1 hP1 hS1
    obtain ⟨hr1, rfl⟩ := hf
    subst hr1
    exact W.vret (hlocks := B.notSynchronized) B.exec B.bytes (B.returns.trans hrt) (fun t2 h2 _ => ⟨rfl, by rw [h2]; exact hP1, hS1.F h2, hsc1⟩) hS1.2.2 hd
theorem hm_recv_of {y : MethodName} {vs : List hm_V} (h : hm_recv y false vs = true) : ∃ k As ci fl q, vs = .inr (.inr k) :: As ∧ hm_sh[k]? = some (.inr (ci, fl)) ∧ vwCl[ci]? = some q ∧ q.1 = y.cls := by
  unfold hm_recv at h
  rw [if_neg (by decide)] at h
  split at h
  · rename_i k As
    split at h
    · rename_i ci fl hk
      split at h
      · rename_i q hq
        exact ⟨k, As, ci, fl, q, rfl, hk, hq, by simpa using h⟩
      · cases h
    · cases h
  · cases h
theorem hm_walk_succ {n : Nat} (hkA : ∀ t ∈ hm_tab, hm_okT t) (hmA : ∀ t ∈ hm_tabM, hm_chkM t = true) (ih : hm_WALK n) : hm_WALK (n + 1) := by
  have ihM := hm_met_of hmA ih
  intro D cI cZ ad A L xs mid t d cells slots p l e R s m args below meth c Q fin ht C0 hI hV pc ls st M r M' hrun hfin hsc H locs lc hP hD hS hLR
  simp only [hm_run] at hrun
  split at hrun
  · cases hrun
  · rename_i nx op a b ll hat
    obtain ⟨ins, lk, hdec, hlk, h29, h30⟩ := hm_chk_of (hkA t (List.mem_of_getElem? ht)) ht hat
    by_cases h1 : op = 29
    · rw [if_pos h1] at hrun
      subst h1
      simp only [hm_lk, Bool.and_eq_true, decide_eq_true_eq] at hlk
      obtain ⟨rfl, rfl⟩ := hlk
      rw [Nat.add_sub_cancel_left] at hdec
      split at hrun
      · rename_i x
        by_cases hb : b = 1 ∧ ¬ (x = 0 ∨ x = 1)
        · rw [if_pos hb] at hrun; cases hrun
        · rw [if_neg hb] at hrun
          cases hrun
          refine hI pc x H locs lc M hdec hfin ?_ hsc hP hS
          rcases h29 rfl with ⟨-, h⟩ | ⟨h2, h⟩
          · exact Or.inl h
          · refine Or.inr ⟨h, ?_⟩
            rcases Classical.em (x = 0 ∨ x = 1) with h3 | h3
            · exact h3
            · exact absurd ⟨h2, h3⟩ hb
      · cases hrun
    · rw [if_neg h1] at hrun
      by_cases h2 : op = 30
      · rw [if_pos h2] at hrun
        subst h2
        simp only [hm_lk, Bool.and_eq_true, decide_eq_true_eq] at hlk
        obtain ⟨rfl, rfl⟩ := hlk
        rw [Nat.add_sub_cancel_left] at hdec
        split at hrun
        · cases hrun
          exact hV pc H locs lc M hdec hfin (h30 rfl) hsc hP hS
        · cases hrun
      · rw [if_neg h2] at hrun
        by_cases h3 : op = 27
        · rw [if_pos h3] at hrun
          subst h3
          simp only [hm_lk, Bool.and_eq_true, decide_eq_true_eq] at hlk
          obtain ⟨hlk, rfl⟩ := hlk
          rw [Nat.add_sub_cancel_left] at hdec
          split at hrun
          · rename_i d' t' hb'
            split at hrun
            · rename_i hcond
              obtain ⟨hna, hr4, hrecv, hent⟩ := hcond
              split at hrun
              · rename_i r1 M1 hcall
                obtain ⟨hx, hbc, hml, hown, hts, hK, hR, hN, hfr, hlo, hce, hsl, hL31⟩ := id C0
                have hM := ihM D cI cZ ad L xs l b t' d' _ M r1 M1 hb' hL31 hsc hent hcall
                obtain ⟨w1, w2, w3, w4, w5, w6, w7, w8, w9⟩ := hm_M_of (hmA t' (List.mem_of_getElem? hb'))
                have hAW := hm_A_in hD
                have hG : GoodIn hm_tbl (Cond.code t'.1 t'.2.1 t'.2.2.1 t'.2.2.2.1 :: hm_tbl) := fun w hw => by
                  have hin : w ∈ hm_tbl := by
                    rcases List.mem_cons.mp hw with rfl | h
                    · exact w1
                    · exact h
                  exact ⟨hin, good_of_word (hm_gd w hin).2⟩
                have hpre : ∀ U : State, U.heap = H → s.WarmedH U.vm → hm_Pc D cI cZ ad L xs (st.take t'.2.2.2.2.2.1).reverse M (((st.take t'.2.2.2.2.2.1).reverse.map (hm_dv ad)).toArray) U := fun U hU hW => ⟨rfl, by rw [hU]; exact hP, va_K.moved hW.alike hK, hm_DA hD, by rw [hU]; exact hR.go hS hW.alike hAW, fun a1 i1 b1 n1 d1 h1 hm1 => va_Nw.warmF hW (hN a1 i1 b1 n1 d1 h1 hm1)⟩
                have hgo : ∀ (H1 : Heap) (locs1 : List Loc), va_P D vwCl (hm_w cI cZ ad M1) H1 → va_S A s.heap H1 locs1 → hm_scr M1 L xs → W p l e R s m args below meth c H1 locs1 cells slots Q (F0 m (pc + 3) lc ((r1.map (hm_dv ad)).toList ++ (st.drop t'.2.2.2.2.2.1).map (hm_dv ad))) := by
                  intro H1 locs1 p1 p2 p3
                  have k1 := ih D cI cZ ad A L xs mid t (d' + 1) cells slots p l e R s m args below meth c Q fin ht C0 hI hV (pc + 3) ls _ M1 r M' hrun hfin p3 H1 locs1 lc p1 (hm_D hD) p2 hLR
                  have e1 : (r1.toList ++ st.drop t'.2.2.2.2.2.1).map (hm_dv ad) = (r1.map (hm_dv ad)).toList ++ (st.drop t'.2.2.2.2.2.1).map (hm_dv ad) := by
                    cases r1 <;> simp
                  rw [e1] at k1
                  exact k1
                have hsum : 2 * (F0 m pc lc (st.map (hm_dv ad))).monitorRoom + (((st.drop t'.2.2.2.2.2.1).map (hm_dv ad)).map fun v => v.category).sum ≤ 8 := lv_room (by have := hm_sum ad (st.drop t'.2.2.2.2.2.1); omega)
                have hroom : (hm_rm d').frames + 1 ≤ R.frames ∧ 8 + (t'.2.2.1 + 11) + (hm_rm d').locals ≤ R.locals := ⟨hfr, by show 8 + (t'.2.2.1 + 11) + 64 * d' ≤ R.locals; omega⟩
                have hstk : st = (st.take t'.2.2.2.2.2.1).reverse.reverse ++ st.drop t'.2.2.2.2.2.1 := by rw [List.reverse_reverse, List.take_append_drop]
                have htk : (st.take t'.2.2.2.2.2.1).reverse.length = t'.2.2.2.2.2.1 := by rw [List.length_reverse, List.length_take]; omega
                have htb : hm_tb[b]? = some (t'.1, t'.2.2.2.2.2.1, t'.2.2.2.2.1) := by
                  rw [hm_tb_eq, List.getElem?_map, hm_tab_of hb']; rfl
                unfold hm_k27 at hlk
                rw [htb] at hlk
                dsimp only at hlk
                split at hlk
                · rename_i i
                  simp only [Bool.and_eq_true, decide_eq_true_eq] at hlk
                  obtain ⟨hst, hlink⟩ := hlk
                  obtain ⟨v1, v2, v3⟩ := w4 hst
                  rw [hst] at hrecv w8
                  rw [if_neg (by decide)] at w8
                  obtain ⟨k, As, ci, fl, q, hvs, hk, hq, hqc⟩ := hm_recv_of hrecv
                  generalize (st.take t'.2.2.2.2.2.1).reverse = vs at hM hpre hvs hstk htk
                  subst hvs
                  have hAl : (As.map (hm_dv ad)).length = t'.2.2.2.2.2.1 - 1 := by simp only [List.length_cons, List.length_map] at htk ⊢; omega
                  refine hm_cont (va_runV (As := As.map (hm_dv ad)) (rest := (st.drop t'.2.2.2.2.2.1).map (hm_dv ad)) (b := ad k) (C := t'.1.cls) ⟨hx, hbc, hml, hown, hts⟩ hM ⟨callB_of (t'.2.2.2.2.2.1 - 1) hts hG rfl rfl rfl (hts _ w2) (hts _ (hm_in hlink rfl)) ⟨w6, w7, w8⟩ hroom, hts _ v1, hts _ v2⟩ ⟨hm_blind, ?_, hpre⟩ rfl hAl hLR.2.1 ?_ hsum hdec ⟨hce, hsl⟩) hS hAW hgo
                  · obtain ⟨cell, g1, g2, g3⟩ := va_recv hK hP hq (hm_w_get hk)
                    exact ⟨cell, g1, g2, by rw [← hqc]; exact g3⟩
                  · show st.map (hm_dv ad) = _
                    conv => lhs; rw [hstk]
                    simp [hm_dv]
                · rename_i i
                  simp only [Bool.and_eq_true, decide_eq_true_eq] at hlk
                  obtain ⟨hst, hlink⟩ := hlk
                  rw [hst] at w8
                  rw [if_pos rfl] at w8
                  refine hm_cont (va_runS (As := (st.take t'.2.2.2.2.2.1).reverse.map (hm_dv ad)) (rest := (st.drop t'.2.2.2.2.2.1).map (hm_dv ad)) ⟨hx, hbc, hml, hown, hts⟩ hM ⟨callB_of t'.2.2.2.2.2.1 hts hG rfl rfl rfl (hts _ w2) (hts _ (hm_in hlink rfl)) ⟨w6, w7, w8⟩ hroom, hts _ (w3 hst)⟩ ⟨hm_blind, hpre⟩ rfl (by rw [List.length_map]; exact htk) hLR.2.1 ?_ hsum hdec ⟨hce, hsl⟩) hS hAW hgo
                  show st.map (hm_dv ad) = _
                  conv => lhs; rw [hstk]
                  simp
                · cases hlk
              · cases hrun
            · cases hrun
          · cases hrun
        · rw [if_neg h3] at hrun
          split at hrun
          · rename_i pc' ls' st' M1 hst
            exact hm_stepW C0 hdec hlk hst hP hD hS hLR hsc (fun H1 locs1 lc1 p1 p2 p3 p4 p5 => ih D cI cZ ad A L xs mid t d cells slots p l e R s m args below meth c Q fin ht C0 hI hV pc' ls' st' M1 r M' hrun hfin p5 H1 locs1 lc1 p1 p2 p3 p4)
          · cases hrun
theorem hm_walk (hkA : ∀ t ∈ hm_tab, hm_okT t) (hmA : ∀ t ∈ hm_tabM, hm_chkM t = true) : ∀ n, hm_WALK n
  | 0 => by
    intro D cI cZ ad A L xs mid t d cells slots p l e R s m args below meth c Q fin ht C0 hI hV pc ls st M r M' hrun
    simp [hm_run] at hrun
  | n + 1 => hm_walk_succ hkA hmA (hm_walk hkA hmA n)
