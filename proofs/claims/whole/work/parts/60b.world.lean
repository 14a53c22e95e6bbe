/-! THE FIRST WORLD -/
theorem ad_ex (q0 q8 b : Nat) (u v t : Nat → Nat) : ∃ ad : Nat → Nat, ad 0 = q0 ∧ (∀ k, 1 ≤ k → k < 30 → ad k = u k) ∧ ad 30 = q8 ∧ (∀ k, 31 ≤ k → k < 43 → ad k = v (k - 30)) ∧ ad 1005 = b ∧ (∀ i, i < 5 → ad (1000 + i) = t i) := by
  refine ⟨fun k => if k = 0 then q0 else if k < 30 then u k else if k = 30 then q8 else if k < 43 then v (k - 30) else if k = 1005 then b else t (k - 1000), ?_, fun k h1 h2 => ?_, ?_, fun k h1 h2 => ?_, ?_, fun i hi => ?_⟩
  · show (if (0 : Nat) = 0 then q0 else _) = q0
    rw [if_pos rfl]
  · show (if k = 0 then q0 else if k < 30 then u k else _) = u k
    rw [if_neg (by omega), if_pos h2]
  · show (if (30 : Nat) = 0 then q0 else if (30 : Nat) < 30 then u 30 else if (30 : Nat) = 30 then q8 else _) = q8
    rw [if_neg (by omega), if_neg (by omega), if_pos rfl]
  · show (if k = 0 then q0 else if k < 30 then u k else if k = 30 then q8 else if k < 43 then v (k - 30) else _) = v (k - 30)
    rw [if_neg (by omega), if_neg (by omega), if_neg (by omega), if_pos h2]
  · show (if (1005 : Nat) = 0 then q0 else if (1005 : Nat) < 30 then u 1005 else if (1005 : Nat) = 30 then q8 else if (1005 : Nat) < 43 then v (1005 - 30) else if (1005 : Nat) = 1005 then b else _) = b
    rw [if_neg (by omega), if_neg (by omega), if_neg (by omega), if_neg (by omega), if_pos rfl]
  · show (if 1000 + i = 0 then q0 else if 1000 + i < 30 then u (1000 + i) else if 1000 + i = 30 then q8 else if 1000 + i < 43 then v (1000 + i - 30) else if 1000 + i = 1005 then b else t (1000 + i - 1000)) = t i
    rw [if_neg (by omega), if_neg (by omega), if_neg (by omega), if_neg (by omega), if_neg (by omega), Nat.add_sub_cancel_left]
theorem e_w0 (ad : Nat → Nat) (M : hm_M) : ([some 1, some 5, some 7, some 12, some 17, some 19, some 21, some 28, none] : List (Option Nat)).mapIdx (fun j f => hm_fv ad M 0 j f) = [.ref (ad 1), .ref (ad 5), .ref (ad 7), .ref (ad 12), .ref (ad 17), .ref (ad 19), .ref (ad 21), .ref (ad 28), .int (M 0 8)] := by
  apply List.ext_getElem?
  intro j
  match j with
  | 0 => exact List.getElem?_mapIdx.trans rfl
  | 1 => exact List.getElem?_mapIdx.trans rfl
  | 2 => exact List.getElem?_mapIdx.trans rfl
  | 3 => exact List.getElem?_mapIdx.trans rfl
  | 4 => exact List.getElem?_mapIdx.trans rfl
  | 5 => exact List.getElem?_mapIdx.trans rfl
  | 6 => exact List.getElem?_mapIdx.trans rfl
  | 7 => exact List.getElem?_mapIdx.trans rfl
  | 8 => exact List.getElem?_mapIdx.trans rfl
  | j + 9 => exact List.getElem?_mapIdx.trans rfl
theorem e_w1 (ad : Nat → Nat) (M : hm_M) : ([some 2, some 3, some 4] : List (Option Nat)).mapIdx (fun j f => hm_fv ad M 1 j f) = [.ref (ad 2), .ref (ad 3), .ref (ad 4)] := by
  apply List.ext_getElem?
  intro j
  match j with
  | 0 => exact List.getElem?_mapIdx.trans rfl
  | 1 => exact List.getElem?_mapIdx.trans rfl
  | 2 => exact List.getElem?_mapIdx.trans rfl
  | j + 3 => exact List.getElem?_mapIdx.trans rfl
theorem e_w5 (ad : Nat → Nat) (M : hm_M) : ([some 6, none, none, none, none, none, none] : List (Option Nat)).mapIdx (fun j f => hm_fv ad M 5 j f) = [.ref (ad 6), .int (M 5 1), .int (M 5 2), .int (M 5 3), .int (M 5 4), .int (M 5 5), .int (M 5 6)] := by
  apply List.ext_getElem?
  intro j
  match j with
  | 0 => exact List.getElem?_mapIdx.trans rfl
  | 1 => exact List.getElem?_mapIdx.trans rfl
  | 2 => exact List.getElem?_mapIdx.trans rfl
  | 3 => exact List.getElem?_mapIdx.trans rfl
  | 4 => exact List.getElem?_mapIdx.trans rfl
  | 5 => exact List.getElem?_mapIdx.trans rfl
  | 6 => exact List.getElem?_mapIdx.trans rfl
  | j + 7 => exact List.getElem?_mapIdx.trans rfl
theorem e_w7 (ad : Nat → Nat) (M : hm_M) : ([some (8), some (9), some (10), some (11), none, none, none, none, none, none, none] : List (Option Nat)).mapIdx (fun j f => hm_fv ad M 7 j f) = [.ref (ad 8), .ref (ad 9), .ref (ad 10), .ref (ad 11), .int (M 7 4), .int (M 7 5), .int (M 7 6), .int (M 7 7), .int (M 7 8), .int (M 7 9), .int (M 7 10)] := by
  apply List.ext_getElem?
  intro j
  match j with
  | 0 => exact List.getElem?_mapIdx.trans rfl
  | 1 => exact List.getElem?_mapIdx.trans rfl
  | 2 => exact List.getElem?_mapIdx.trans rfl
  | 3 => exact List.getElem?_mapIdx.trans rfl
  | 4 => exact List.getElem?_mapIdx.trans rfl
  | 5 => exact List.getElem?_mapIdx.trans rfl
  | 6 => exact List.getElem?_mapIdx.trans rfl
  | 7 => exact List.getElem?_mapIdx.trans rfl
  | 8 => exact List.getElem?_mapIdx.trans rfl
  | 9 => exact List.getElem?_mapIdx.trans rfl
  | 10 => exact List.getElem?_mapIdx.trans rfl
  | j + 11 => exact List.getElem?_mapIdx.trans rfl
theorem e_w12 (ad : Nat → Nat) (M : hm_M) : ([some (13), some (14), some (15), some (16), none, none, none, none, none, none, none] : List (Option Nat)).mapIdx (fun j f => hm_fv ad M 12 j f) = [.ref (ad 13), .ref (ad 14), .ref (ad 15), .ref (ad 16), .int (M 12 4), .int (M 12 5), .int (M 12 6), .int (M 12 7), .int (M 12 8), .int (M 12 9), .int (M 12 10)] := by
  apply List.ext_getElem?
  intro j
  match j with
  | 0 => exact List.getElem?_mapIdx.trans rfl
  | 1 => exact List.getElem?_mapIdx.trans rfl
  | 2 => exact List.getElem?_mapIdx.trans rfl
  | 3 => exact List.getElem?_mapIdx.trans rfl
  | 4 => exact List.getElem?_mapIdx.trans rfl
  | 5 => exact List.getElem?_mapIdx.trans rfl
  | 6 => exact List.getElem?_mapIdx.trans rfl
  | 7 => exact List.getElem?_mapIdx.trans rfl
  | 8 => exact List.getElem?_mapIdx.trans rfl
  | 9 => exact List.getElem?_mapIdx.trans rfl
  | 10 => exact List.getElem?_mapIdx.trans rfl
  | j + 11 => exact List.getElem?_mapIdx.trans rfl
theorem e_w17 (ad : Nat → Nat) (M : hm_M) : ([some 18, none, none] : List (Option Nat)).mapIdx (fun j f => hm_fv ad M 17 j f) = [.ref (ad 18), .int (M 17 1), .int (M 17 2)] := by
  apply List.ext_getElem?
  intro j
  match j with
  | 0 => exact List.getElem?_mapIdx.trans rfl
  | 1 => exact List.getElem?_mapIdx.trans rfl
  | 2 => exact List.getElem?_mapIdx.trans rfl
  | j + 3 => exact List.getElem?_mapIdx.trans rfl
theorem e_w19 (ad : Nat → Nat) (M : hm_M) : ([some 20, none] : List (Option Nat)).mapIdx (fun j f => hm_fv ad M 19 j f) = [.ref (ad 20), .int (M 19 1)] := by
  apply List.ext_getElem?
  intro j
  match j with
  | 0 => exact List.getElem?_mapIdx.trans rfl
  | 1 => exact List.getElem?_mapIdx.trans rfl
  | j + 2 => exact List.getElem?_mapIdx.trans rfl
theorem e_w21 (ad : Nat → Nat) (M : hm_M) : ([some 7, some 22, some 27] : List (Option Nat)).mapIdx (fun j f => hm_fv ad M 21 j f) = [.ref (ad 7), .ref (ad 22), .ref (ad 27)] := by
  apply List.ext_getElem?
  intro j
  match j with
  | 0 => exact List.getElem?_mapIdx.trans rfl
  | 1 => exact List.getElem?_mapIdx.trans rfl
  | 2 => exact List.getElem?_mapIdx.trans rfl
  | j + 3 => exact List.getElem?_mapIdx.trans rfl
theorem e_w22 (ad : Nat → Nat) (M : hm_M) : ([some (23), some (24), some (25), some (26), none, none, none, none, none, none, none] : List (Option Nat)).mapIdx (fun j f => hm_fv ad M 22 j f) = [.ref (ad 23), .ref (ad 24), .ref (ad 25), .ref (ad 26), .int (M 22 4), .int (M 22 5), .int (M 22 6), .int (M 22 7), .int (M 22 8), .int (M 22 9), .int (M 22 10)] := by
  apply List.ext_getElem?
  intro j
  match j with
  | 0 => exact List.getElem?_mapIdx.trans rfl
  | 1 => exact List.getElem?_mapIdx.trans rfl
  | 2 => exact List.getElem?_mapIdx.trans rfl
  | 3 => exact List.getElem?_mapIdx.trans rfl
  | 4 => exact List.getElem?_mapIdx.trans rfl
  | 5 => exact List.getElem?_mapIdx.trans rfl
  | 6 => exact List.getElem?_mapIdx.trans rfl
  | 7 => exact List.getElem?_mapIdx.trans rfl
  | 8 => exact List.getElem?_mapIdx.trans rfl
  | 9 => exact List.getElem?_mapIdx.trans rfl
  | 10 => exact List.getElem?_mapIdx.trans rfl
  | j + 11 => exact List.getElem?_mapIdx.trans rfl
theorem e_w28 (ad : Nat → Nat) (M : hm_M) : ([some 7, some 29, none] : List (Option Nat)).mapIdx (fun j f => hm_fv ad M 28 j f) = [.ref (ad 7), .ref (ad 29), .int (M 28 2)] := by
  apply List.ext_getElem?
  intro j
  match j with
  | 0 => exact List.getElem?_mapIdx.trans rfl
  | 1 => exact List.getElem?_mapIdx.trans rfl
  | 2 => exact List.getElem?_mapIdx.trans rfl
  | j + 3 => exact List.getElem?_mapIdx.trans rfl
theorem e_w30 (ad : Nat → Nat) (M : hm_M) : ([some 31, some 32, some 33, some 34, none, some 35, none, none, none, none, none, none, none, some 36, some 37, some 38, some 39, none, some 40, some 41, some 42, none] : List (Option Nat)).mapIdx (fun j f => hm_fv ad M 30 j f) = [.ref (ad 31), .ref (ad 32), .ref (ad 33), .ref (ad 34), .int (M 30 4), .ref (ad 35), .int (M 30 6), .int (M 30 7), .int (M 30 8), .int (M 30 9), .int (M 30 10), .int (M 30 11), .int (M 30 12), .ref (ad 36), .ref (ad 37), .ref (ad 38), .ref (ad 39), .int (M 30 17), .ref (ad 40), .ref (ad 41), .ref (ad 42), .int (M 30 21)] := by
  apply List.ext_getElem?
  intro j
  match j with
  | 0 => exact List.getElem?_mapIdx.trans rfl
  | 1 => exact List.getElem?_mapIdx.trans rfl
  | 2 => exact List.getElem?_mapIdx.trans rfl
  | 3 => exact List.getElem?_mapIdx.trans rfl
  | 4 => exact List.getElem?_mapIdx.trans rfl
  | 5 => exact List.getElem?_mapIdx.trans rfl
  | 6 => exact List.getElem?_mapIdx.trans rfl
  | 7 => exact List.getElem?_mapIdx.trans rfl
  | 8 => exact List.getElem?_mapIdx.trans rfl
  | 9 => exact List.getElem?_mapIdx.trans rfl
  | 10 => exact List.getElem?_mapIdx.trans rfl
  | 11 => exact List.getElem?_mapIdx.trans rfl
  | 12 => exact List.getElem?_mapIdx.trans rfl
  | 13 => exact List.getElem?_mapIdx.trans rfl
  | 14 => exact List.getElem?_mapIdx.trans rfl
  | 15 => exact List.getElem?_mapIdx.trans rfl
  | 16 => exact List.getElem?_mapIdx.trans rfl
  | 17 => exact List.getElem?_mapIdx.trans rfl
  | 18 => exact List.getElem?_mapIdx.trans rfl
  | 19 => exact List.getElem?_mapIdx.trans rfl
  | 20 => exact List.getElem?_mapIdx.trans rfl
  | 21 => exact List.getElem?_mapIdx.trans rfl
  | j + 22 => exact List.getElem?_mapIdx.trans rfl
set_option maxHeartbeats 4000000 in
set_option maxRecDepth 100000 in
theorem w_first (cI cZ : ClassId) (ad : Nat → Nat) (M : hm_M) : hm_w cI cZ ad M = [(ad 0, .inr (7, [.ref (ad 1), .ref (ad 5), .ref (ad 7), .ref (ad 12), .ref (ad 17), .ref (ad 19), .ref (ad 21), .ref (ad 28), .int (M 0 8)])), (ad 1, .inr (5, [.ref (ad 2), .ref (ad 3), .ref (ad 4)])), (ad 2, .inl (cI, 8, .inl (M 2))), (ad 3, .inl (cI, 8, .inl (M 3))), (ad 4, .inl (cI, 320, .inl (M 4))), (ad 5, .inr (6, [.ref (ad 6), .int (M 5 1), .int (M 5 2), .int (M 5 3), .int (M 5 4), .int (M 5 5), .int (M 5 6)])), (ad 6, .inl (cI, 90, .inl (M 6))), (ad 7, .inr (3, [.ref (ad 8), .ref (ad 9), .ref (ad 10), .ref (ad 11), .int (M 7 4), .int (M 7 5), .int (M 7 6), .int (M 7 7), .int (M 7 8), .int (M 7 9), .int (M 7 10)])), (ad 8, .inl (cI, 7, .inl (M 8))), (ad 9, .inl (cI, 7, .inl (M 9))), (ad 10, .inl (cI, 7, .inl (M 10))), (ad 11, .inl (cI, 7, .inl (M 11))), (ad 12, .inr (3, [.ref (ad 13), .ref (ad 14), .ref (ad 15), .ref (ad 16), .int (M 12 4), .int (M 12 5), .int (M 12 6), .int (M 12 7), .int (M 12 8), .int (M 12 9), .int (M 12 10)])), (ad 13, .inl (cI, 7, .inl (M 13))), (ad 14, .inl (cI, 7, .inl (M 14))), (ad 15, .inl (cI, 7, .inl (M 15))), (ad 16, .inl (cI, 7, .inl (M 16))), (ad 17, .inr (0, [.ref (ad 18), .int (M 17 1), .int (M 17 2)])), (ad 18, .inl (cI, 840, .inl (M 18))), (ad 19, .inr (4, [.ref (ad 20), .int (M 19 1)])), (ad 20, .inl (cI, 70, .inl (M 20))), (ad 21, .inr (2, [.ref (ad 7), .ref (ad 22), .ref (ad 27)])), (ad 22, .inr (3, [.ref (ad 23), .ref (ad 24), .ref (ad 25), .ref (ad 26), .int (M 22 4), .int (M 22 5), .int (M 22 6), .int (M 22 7), .int (M 22 8), .int (M 22 9), .int (M 22 10)])), (ad 23, .inl (cI, 7, .inl (M 23))), (ad 24, .inl (cI, 7, .inl (M 24))), (ad 25, .inl (cI, 7, .inl (M 25))), (ad 26, .inl (cI, 7, .inl (M 26))), (ad 27, .inl (cI, 12, .inl (M 27))), (ad 28, .inr (1, [.ref (ad 7), .ref (ad 29), .int (M 28 2)])), (ad 29, .inl (cI, 16, .inl (M 29))), (ad 30, .inr (8, [.ref (ad 31), .ref (ad 32), .ref (ad 33), .ref (ad 34), .int (M 30 4), .ref (ad 35), .int (M 30 6), .int (M 30 7), .int (M 30 8), .int (M 30 9), .int (M 30 10), .int (M 30 11), .int (M 30 12), .ref (ad 36), .ref (ad 37), .ref (ad 38), .ref (ad 39), .int (M 30 17), .ref (ad 40), .ref (ad 41), .ref (ad 42), .int (M 30 21)])), (ad 31, .inl (cI, 8, .inl (M 31))), (ad 32, .inl (cI, 8, .inl (M 32))), (ad 33, .inl (cI, 320, .inl (M 33))), (ad 34, .inl (cI, 40, .inl (M 34))), (ad 35, .inl (cI, 90, .inl (M 35))), (ad 36, .inl (cI, 53, .inl (M 36))), (ad 37, .inl (cI, 53, .inl (M 37))), (ad 38, .inl (cI, 53, .inl (M 38))), (ad 39, .inl (cI, 1272, .inl (M 39))), (ad 40, .inl (cI, 106, .inl (M 40))), (ad 41, .inl (cZ, 2, .inl (M 41))), (ad 42, .inl (cI, 16, .inl (M 42)))] := by
  apply List.ext_getElem?
  intro k
  match k with
  | 0 => exact (hm_w_get (k := 0) rfl).trans (congrArg (fun z => some (ad 0, (Sum.inr (7, z) : va_E))) (e_w0 ad M))
  | 1 => exact (hm_w_get (k := 1) rfl).trans (congrArg (fun z => some (ad 1, (Sum.inr (5, z) : va_E))) (e_w1 ad M))
  | 2 => exact (hm_w_get (k := 2) rfl).trans rfl
  | 3 => exact (hm_w_get (k := 3) rfl).trans rfl
  | 4 => exact (hm_w_get (k := 4) rfl).trans rfl
  | 5 => exact (hm_w_get (k := 5) rfl).trans (congrArg (fun z => some (ad 5, (Sum.inr (6, z) : va_E))) (e_w5 ad M))
  | 6 => exact (hm_w_get (k := 6) rfl).trans rfl
  | 7 => exact (hm_w_get (k := 7) rfl).trans (congrArg (fun z => some (ad 7, (Sum.inr (3, z) : va_E))) (e_w7 ad M))
  | 8 => exact (hm_w_get (k := 8) rfl).trans rfl
  | 9 => exact (hm_w_get (k := 9) rfl).trans rfl
  | 10 => exact (hm_w_get (k := 10) rfl).trans rfl
  | 11 => exact (hm_w_get (k := 11) rfl).trans rfl
  | 12 => exact (hm_w_get (k := 12) rfl).trans (congrArg (fun z => some (ad 12, (Sum.inr (3, z) : va_E))) (e_w12 ad M))
  | 13 => exact (hm_w_get (k := 13) rfl).trans rfl
  | 14 => exact (hm_w_get (k := 14) rfl).trans rfl
  | 15 => exact (hm_w_get (k := 15) rfl).trans rfl
  | 16 => exact (hm_w_get (k := 16) rfl).trans rfl
  | 17 => exact (hm_w_get (k := 17) rfl).trans (congrArg (fun z => some (ad 17, (Sum.inr (0, z) : va_E))) (e_w17 ad M))
  | 18 => exact (hm_w_get (k := 18) rfl).trans rfl
  | 19 => exact (hm_w_get (k := 19) rfl).trans (congrArg (fun z => some (ad 19, (Sum.inr (4, z) : va_E))) (e_w19 ad M))
  | 20 => exact (hm_w_get (k := 20) rfl).trans rfl
  | 21 => exact (hm_w_get (k := 21) rfl).trans (congrArg (fun z => some (ad 21, (Sum.inr (2, z) : va_E))) (e_w21 ad M))
  | 22 => exact (hm_w_get (k := 22) rfl).trans (congrArg (fun z => some (ad 22, (Sum.inr (3, z) : va_E))) (e_w22 ad M))
  | 23 => exact (hm_w_get (k := 23) rfl).trans rfl
  | 24 => exact (hm_w_get (k := 24) rfl).trans rfl
  | 25 => exact (hm_w_get (k := 25) rfl).trans rfl
  | 26 => exact (hm_w_get (k := 26) rfl).trans rfl
  | 27 => exact (hm_w_get (k := 27) rfl).trans rfl
  | 28 => exact (hm_w_get (k := 28) rfl).trans (congrArg (fun z => some (ad 28, (Sum.inr (1, z) : va_E))) (e_w28 ad M))
  | 29 => exact (hm_w_get (k := 29) rfl).trans rfl
  | 30 => exact (hm_w_get (k := 30) rfl).trans (congrArg (fun z => some (ad 30, (Sum.inr (8, z) : va_E))) (e_w30 ad M))
  | 31 => exact (hm_w_get (k := 31) rfl).trans rfl
  | 32 => exact (hm_w_get (k := 32) rfl).trans rfl
  | 33 => exact (hm_w_get (k := 33) rfl).trans rfl
  | 34 => exact (hm_w_get (k := 34) rfl).trans rfl
  | 35 => exact (hm_w_get (k := 35) rfl).trans rfl
  | 36 => exact (hm_w_get (k := 36) rfl).trans rfl
  | 37 => exact (hm_w_get (k := 37) rfl).trans rfl
  | 38 => exact (hm_w_get (k := 38) rfl).trans rfl
  | 39 => exact (hm_w_get (k := 39) rfl).trans rfl
  | 40 => exact (hm_w_get (k := 40) rfl).trans rfl
  | 41 => exact (hm_w_get (k := 41) rfl).trans rfl
  | 42 => exact (hm_w_get (k := 42) rfl).trans rfl
  | k + 43 => exact (hm_w_no (List.getElem?_eq_none (by show 43 ≤ k + 43; omega))).trans (List.getElem?_eq_none (by show 43 ≤ k + 43; omega)).symm
set_option maxHeartbeats 4000000 in
set_option maxRecDepth 100000 in
theorem w_first2 {cI cZ : ClassId} {ad u v : Nat → Nat} {f g xs : Nat → Int32} {L q0 q8 : Nat} (h1 : ad 0 = q0) (g1 : ∀ k, 1 ≤ k → k < 30 → ad k = u k) (h2 : ad 30 = q8) (g2 : ∀ k, 31 ≤ k → k < 43 → ad k = v (k - 30)) : hm_w cI cZ ad (M00 f g xs L) = [(q0, .inr (7, [.ref (u 1), .ref (u 5), .ref (u 7), .ref (u 12), .ref (u 17), .ref (u 19), .ref (u 21), .ref (u 28), .int 0])), ((u 1), .inr (5, [.ref (u 2), .ref (u 3), .ref (u 4)])), ((u 2), .inl (cI, 8, .inl (f))), ((u 3), .inl (cI, 8, .inl (fun _ => 0))), ((u 4), .inl (cI, 320, .inl (fun _ => 0))), ((u 5), .inr (6, [.ref (u 6), .int 0, .int 0, .int 0, .int 0, .int 0, .int 0])), ((u 6), .inl (cI, 90, .inl (fun _ => 0))), ((u 7), .inr (3, [.ref (u 8), .ref (u 9), .ref (u 10), .ref (u 11), .int 0, .int 0, .int 0, .int 0, .int 0, .int 0, .int 0])), ((u 8), .inl (cI, 7, .inl (fun _ => 0))), ((u 9), .inl (cI, 7, .inl (fun _ => 0))), ((u 10), .inl (cI, 7, .inl (fun _ => 0))), ((u 11), .inl (cI, 7, .inl (fun _ => 0))), ((u 12), .inr (3, [.ref (u 13), .ref (u 14), .ref (u 15), .ref (u 16), .int 0, .int 0, .int 0, .int 0, .int 0, .int 0, .int 0])), ((u 13), .inl (cI, 7, .inl (fun _ => 0))), ((u 14), .inl (cI, 7, .inl (fun _ => 0))), ((u 15), .inl (cI, 7, .inl (fun _ => 0))), ((u 16), .inl (cI, 7, .inl (fun _ => 0))), ((u 17), .inr (0, [.ref (u 18), .int 0, .int 0])), ((u 18), .inl (cI, 840, .inl (fun _ => 0))), ((u 19), .inr (4, [.ref (u 20), .int 0])), ((u 20), .inl (cI, 70, .inl (fun _ => 0))), ((u 21), .inr (2, [.ref (u 7), .ref (u 22), .ref (u 27)])), ((u 22), .inr (3, [.ref (u 23), .ref (u 24), .ref (u 25), .ref (u 26), .int 0, .int 0, .int 0, .int 0, .int 0, .int 0, .int 0])), ((u 23), .inl (cI, 7, .inl (fun _ => 0))), ((u 24), .inl (cI, 7, .inl (fun _ => 0))), ((u 25), .inl (cI, 7, .inl (fun _ => 0))), ((u 26), .inl (cI, 7, .inl (fun _ => 0))), ((u 27), .inl (cI, 12, .inl (fun _ => 0))), ((u 28), .inr (1, [.ref (u 7), .ref (u 29), .int 0])), ((u 29), .inl (cI, 16, .inl (fun _ => 0))), (q8, .inr (8, [.ref (v 1), .ref (v 2), .ref (v 3), .ref (v 4), .int 0, .ref (v 5), .int 0, .int 0, .int 0, .int 0, .int 0, .int 0, .int 0, .ref (v 6), .ref (v 7), .ref (v 8), .ref (v 9), .int 0, .ref (v 10), .ref (v 11), .ref (v 12), .int 0])), ((v 1), .inl (cI, 8, .inl (g))), ((v 2), .inl (cI, 8, .inl (fun _ => 0))), ((v 3), .inl (cI, 320, .inl (fun _ => 0))), ((v 4), .inl (cI, 40, .inl (fun _ => 0))), ((v 5), .inl (cI, 90, .inl (fun _ => 0))), ((v 6), .inl (cI, 53, .inl (fun _ => 0))), ((v 7), .inl (cI, 53, .inl (fun _ => 0))), ((v 8), .inl (cI, 53, .inl (fun _ => 0))), ((v 9), .inl (cI, 1272, .inl (fun _ => 0))), ((v 10), .inl (cI, 106, .inl (fun _ => 0))), ((v 11), .inl (cZ, 2, .inl (fun _ => 0))), ((v 12), .inl (cI, 16, .inl (fun _ => 0)))] := by
  rw [w_first, h1, h2]
  rw [g1 1 (by decide) (by decide), g1 2 (by decide) (by decide), g1 3 (by decide) (by decide), g1 4 (by decide) (by decide), g1 5 (by decide) (by decide), g1 6 (by decide) (by decide), g1 7 (by decide) (by decide), g1 8 (by decide) (by decide), g1 9 (by decide) (by decide), g1 10 (by decide) (by decide), g1 11 (by decide) (by decide), g1 12 (by decide) (by decide), g1 13 (by decide) (by decide), g1 14 (by decide) (by decide), g1 15 (by decide) (by decide), g1 16 (by decide) (by decide), g1 17 (by decide) (by decide), g1 18 (by decide) (by decide), g1 19 (by decide) (by decide), g1 20 (by decide) (by decide), g1 21 (by decide) (by decide), g1 22 (by decide) (by decide), g1 23 (by decide) (by decide), g1 24 (by decide) (by decide), g1 25 (by decide) (by decide), g1 26 (by decide) (by decide), g1 27 (by decide) (by decide), g1 28 (by decide) (by decide), g1 29 (by decide) (by decide)]
  rw [g2 31 (by decide) (by decide), g2 32 (by decide) (by decide), g2 33 (by decide) (by decide), g2 34 (by decide) (by decide), g2 35 (by decide) (by decide), g2 36 (by decide) (by decide), g2 37 (by decide) (by decide), g2 38 (by decide) (by decide), g2 39 (by decide) (by decide), g2 40 (by decide) (by decide), g2 41 (by decide) (by decide), g2 42 (by decide) (by decide)]
  try rfl
