/-! THE CLAIM OUT OF ONE WALK OF THE LAW'S BODY. Your part is whole_start (and what it stands on); all else here is the same for every law, but numbers. -/
def R_law : String := "PuddingHobsLaw"
def lw_P (b : Addr) (xs : List Int32) (args : Array Value) (s : State) : Prop := args = #[.ref b] ∧ s.IntsAt b xs ∧ xs.length ≤ 384 ∧ (Jvm.Cond.and given_1 narrow_1).before args s = true
def lw_Q (_ : Array Value) (s : State) (o : Outcome) (t : State) : Prop := o = .returned (some (.int 1)) ∧ Framed s o t [] 600000 7302250
def lw_Z (below : List Frame) (a : Array Value) (s : State) : State → Prop := fun t => ∃ o, t.status = .running ∧ Ended t below o ∧ lw_Q a s o t
/-- the law's own end, with 1 on the stack, nothing written that was there before, its room as the claim has it -/
theorem lw_ret {p : Program} {l : Launch} {e : Env} {s : State} {m : MethodId} {below : List Frame} {meth : Method} {c : Code} {b : Nat} (hx : p.tables.exec = Jvm.exec) (hb : c.code = code) (hr : meth.sig.returnType = ret) (hlocks : meth.locks = false) {pc : Nat} {H : Heap} {ls : Array Slot} (hdg : decode code pc = .ok (.ireturn, 1)) : W p l e room_1 s m #[Value.ref b] below meth c H [] 600000 7302250 (lw_Z below #[Value.ref b] s) (F0 m pc ls [.int 1]) := by
  intro T hT X
  obtain ⟨fs, hret, hrun, hended, hW, hframe⟩ := X.leave (v := some (.int 1)) (hlocks := hlocks) (fun h => by rw [hr] at h; cases h)
  have hmeth' : T.vm.method? m = some meth := X.method'
  refine ⟨T.setFrames fs, ?_, .returned (some (.int 1)), hrun, hended, rfl, ⟨_, rfl⟩, hW, hframe⟩
  jvm_step X.here [X.here.top, hx, hb, hdg, hmeth', hr, ret, narrow_b1]
  (try refine ⟨rfl, ?_⟩); (try refine ⟨rfl, ?_⟩)
  first | (intro acts; rw [hret _ acts rfl rfl rfl]) | rw [hret _ _ rfl rfl rfl]
  exact Steps.refl _
/-- what holds at the law's entry: the machine, the code, the tables' words (any of lw_tbl by 'hts w (by decide +kernel)'), the script of L ints xs at the cell b, what the Statement gives of the start (any of its parts by flat_of_before) -/
def lw_At (p : Program) (s : State) (m : MethodId) (meth : Method) (c : Code) (b L : Nat) (xs : Nat → Int32) : Prop :=
  p.tables.exec = Jvm.exec ∧ c.code = code ∧ meth.sig.returnType = ret ∧ c.maxLocals = 4 ∧ s.vm.findClass R_law = some m.cls ∧ (∀ w ∈ lw_tbl, w.before #[Value.ref b] s = true) ∧ va_X b L xs s s.heap ∧ b < s.heap.size ∧ meth.locks = false ∧ (Jvm.Cond.and given_1 narrow_1).before #[Value.ref b] s = true
theorem kL_0 : decode code 0 = .ok (.new 7, 3) := by decide +kernel
theorem kL_3 : decode code 3 = .ok (.dup, 1) := by decide +kernel
theorem kL_4 : decode code 4 = .ok (.invokespecial 9, 3) := by decide +kernel
theorem kL_7 : decode code 7 = .ok (.astore_n 1, 1) := by decide +kernel
theorem kL_8 : decode code 8 = .ok (.new 10, 3) := by decide +kernel
theorem kL_11 : decode code 11 = .ok (.dup, 1) := by decide +kernel
theorem kL_12 : decode code 12 = .ok (.invokespecial 12, 3) := by decide +kernel
theorem kL_15 : decode code 15 = .ok (.astore_n 2, 1) := by decide +kernel
theorem st_all {s : State} {b : Nat} {A : Nat → Prop} (hts : ∀ w ∈ lw_tbl, w.before #[Value.ref b] s = true) (hgv : (Jvm.Cond.and given_1 narrow_1).before #[Value.ref b] s = true) (hA : ∀ a : Nat, a < s.heap.size → ¬ A a) : ∃ t : Nat → Nat, ∀ (i : Nat) (C n : String) (l : List Int32), hm_ros[i]? = some (C, n, l) → va_Z C n "[I" (.ref (t i)) A s s.heap ∧ va_T .int (t i) l.length (fun j => .int (l.getD j 0)) A s s.heap := by
  have hs := flat_of_before _ hgv
  have E0 : ∀ j : Nat, j < 5 → (Term.elem (.static "PuddingHobs$Foresight" "LEAST_TRIED" "[I") (.int (Int32.ofNat j))).eval #[Value.ref b] s none [] s = some (.int (([1, 0, 0, 5, 5] : List Int32).getD j 0)) := by
    intro j hj
    rcases (show j = 0 ∨ j = 1 ∨ j = 2 ∨ j = 3 ∨ j = 4 by omega) with rfl | rfl | rfl | rfl | rfl
    · exact va_eqt (hs (.eq (.elem (.static "PuddingHobs$Foresight" "LEAST_TRIED" "[I") (.int 0)) (.int (1))) (by decide +kernel))
    · exact va_eqt (hs (.eq (.elem (.static "PuddingHobs$Foresight" "LEAST_TRIED" "[I") (.int 1)) (.int (0))) (by decide +kernel))
    · exact va_eqt (hs (.eq (.elem (.static "PuddingHobs$Foresight" "LEAST_TRIED" "[I") (.int 2)) (.int (0))) (by decide +kernel))
    · exact va_eqt (hs (.eq (.elem (.static "PuddingHobs$Foresight" "LEAST_TRIED" "[I") (.int 3)) (.int (5))) (by decide +kernel))
    · exact va_eqt (hs (.eq (.elem (.static "PuddingHobs$Foresight" "LEAST_TRIED" "[I") (.int 4)) (.int (5))) (by decide +kernel))
  obtain ⟨t0, e0, T0⟩ := va_Tof (args := #[Value.ref b]) (s := s) (tm := (.static "PuddingHobs$Foresight" "LEAST_TRIED" "[I")) (ty := .int) (N := 5) (f := fun j => .int (([1, 0, 0, 5, 5] : List Int32).getD j 0)) (A := A) (by decide) (hs (.arrayOf (.static "PuddingHobs$Foresight" "LEAST_TRIED" "[I") .int) (by decide +kernel)) (va_eqt (hs (.eq (.length (.static "PuddingHobs$Foresight" "LEAST_TRIED" "[I")) (.int 5)) (by decide +kernel))) E0 hA
  have Z0 := va_Zref (hts (.laysStatic "PuddingHobs$Foresight" "LEAST_TRIED" "[I") (List.mem_of_getElem? (i := 693) (by decide +kernel))) (hts (.initialized "PuddingHobs$Foresight") (List.mem_of_getElem? (i := 62) (by decide +kernel))) e0 hA
  have E1 : ∀ j : Nat, j < 5 → (Term.elem (.static "PuddingHobs$Foresight" "MOST_TRIED" "[I") (.int (Int32.ofNat j))).eval #[Value.ref b] s none [] s = some (.int (([5, 20, 9, 60, 60] : List Int32).getD j 0)) := by
    intro j hj
    rcases (show j = 0 ∨ j = 1 ∨ j = 2 ∨ j = 3 ∨ j = 4 by omega) with rfl | rfl | rfl | rfl | rfl
    · exact va_eqt (hs (.eq (.elem (.static "PuddingHobs$Foresight" "MOST_TRIED" "[I") (.int 0)) (.int (5))) (by decide +kernel))
    · exact va_eqt (hs (.eq (.elem (.static "PuddingHobs$Foresight" "MOST_TRIED" "[I") (.int 1)) (.int (20))) (by decide +kernel))
    · exact va_eqt (hs (.eq (.elem (.static "PuddingHobs$Foresight" "MOST_TRIED" "[I") (.int 2)) (.int (9))) (by decide +kernel))
    · exact va_eqt (hs (.eq (.elem (.static "PuddingHobs$Foresight" "MOST_TRIED" "[I") (.int 3)) (.int (60))) (by decide +kernel))
    · exact va_eqt (hs (.eq (.elem (.static "PuddingHobs$Foresight" "MOST_TRIED" "[I") (.int 4)) (.int (60))) (by decide +kernel))
  obtain ⟨t1, e1, T1⟩ := va_Tof (args := #[Value.ref b]) (s := s) (tm := (.static "PuddingHobs$Foresight" "MOST_TRIED" "[I")) (ty := .int) (N := 5) (f := fun j => .int (([5, 20, 9, 60, 60] : List Int32).getD j 0)) (A := A) (by decide) (hs (.arrayOf (.static "PuddingHobs$Foresight" "MOST_TRIED" "[I") .int) (by decide +kernel)) (va_eqt (hs (.eq (.length (.static "PuddingHobs$Foresight" "MOST_TRIED" "[I")) (.int 5)) (by decide +kernel))) E1 hA
  have Z1 := va_Zref (hts (.laysStatic "PuddingHobs$Foresight" "MOST_TRIED" "[I") (List.mem_of_getElem? (i := 695) (by decide +kernel))) (hts (.initialized "PuddingHobs$Foresight") (List.mem_of_getElem? (i := 62) (by decide +kernel))) e1 hA
  have E2 : ∀ j : Nat, j < 6 → (Term.elem (.static "PuddingHobs$Asks" "PARENT" "[I") (.int (Int32.ofNat j))).eval #[Value.ref b] s none [] s = some (.int (([-1, 0, 1, 1, 0, 4] : List Int32).getD j 0)) := by
    intro j hj
    rcases (show j = 0 ∨ j = 1 ∨ j = 2 ∨ j = 3 ∨ j = 4 ∨ j = 5 by omega) with rfl | rfl | rfl | rfl | rfl | rfl
    · exact va_eqt (hs (.eq (.elem (.static "PuddingHobs$Asks" "PARENT" "[I") (.int 0)) (.int (-1))) (by decide +kernel))
    · exact va_eqt (hs (.eq (.elem (.static "PuddingHobs$Asks" "PARENT" "[I") (.int 1)) (.int (0))) (by decide +kernel))
    · exact va_eqt (hs (.eq (.elem (.static "PuddingHobs$Asks" "PARENT" "[I") (.int 2)) (.int (1))) (by decide +kernel))
    · exact va_eqt (hs (.eq (.elem (.static "PuddingHobs$Asks" "PARENT" "[I") (.int 3)) (.int (1))) (by decide +kernel))
    · exact va_eqt (hs (.eq (.elem (.static "PuddingHobs$Asks" "PARENT" "[I") (.int 4)) (.int (0))) (by decide +kernel))
    · exact va_eqt (hs (.eq (.elem (.static "PuddingHobs$Asks" "PARENT" "[I") (.int 5)) (.int (4))) (by decide +kernel))
  obtain ⟨t2, e2, T2⟩ := va_Tof (args := #[Value.ref b]) (s := s) (tm := (.static "PuddingHobs$Asks" "PARENT" "[I")) (ty := .int) (N := 6) (f := fun j => .int (([-1, 0, 1, 1, 0, 4] : List Int32).getD j 0)) (A := A) (by decide) (hs (.arrayOf (.static "PuddingHobs$Asks" "PARENT" "[I") .int) (by decide +kernel)) (va_eqt (hs (.eq (.length (.static "PuddingHobs$Asks" "PARENT" "[I")) (.int 6)) (by decide +kernel))) E2 hA
  have Z2 := va_Zref (hts (.laysStatic "PuddingHobs$Asks" "PARENT" "[I") (List.mem_of_getElem? (i := 781) (by decide +kernel))) (hts (.initialized "PuddingHobs$Asks") (List.mem_of_getElem? (i := 63) (by decide +kernel))) e2 hA
  have E3 : ∀ j : Nat, j < 6 → (Term.elem (.static "PuddingHobs$Asks" "SIZE_BODY" "[I") (.int (Int32.ofNat j))).eval #[Value.ref b] s none [] s = some (.int (([10, 11, 12, 11, 13, 14] : List Int32).getD j 0)) := by
    intro j hj
    rcases (show j = 0 ∨ j = 1 ∨ j = 2 ∨ j = 3 ∨ j = 4 ∨ j = 5 by omega) with rfl | rfl | rfl | rfl | rfl | rfl
    · exact va_eqt (hs (.eq (.elem (.static "PuddingHobs$Asks" "SIZE_BODY" "[I") (.int 0)) (.int (10))) (by decide +kernel))
    · exact va_eqt (hs (.eq (.elem (.static "PuddingHobs$Asks" "SIZE_BODY" "[I") (.int 1)) (.int (11))) (by decide +kernel))
    · exact va_eqt (hs (.eq (.elem (.static "PuddingHobs$Asks" "SIZE_BODY" "[I") (.int 2)) (.int (12))) (by decide +kernel))
    · exact va_eqt (hs (.eq (.elem (.static "PuddingHobs$Asks" "SIZE_BODY" "[I") (.int 3)) (.int (11))) (by decide +kernel))
    · exact va_eqt (hs (.eq (.elem (.static "PuddingHobs$Asks" "SIZE_BODY" "[I") (.int 4)) (.int (13))) (by decide +kernel))
    · exact va_eqt (hs (.eq (.elem (.static "PuddingHobs$Asks" "SIZE_BODY" "[I") (.int 5)) (.int (14))) (by decide +kernel))
  obtain ⟨t3, e3, T3⟩ := va_Tof (args := #[Value.ref b]) (s := s) (tm := (.static "PuddingHobs$Asks" "SIZE_BODY" "[I")) (ty := .int) (N := 6) (f := fun j => .int (([10, 11, 12, 11, 13, 14] : List Int32).getD j 0)) (A := A) (by decide) (hs (.arrayOf (.static "PuddingHobs$Asks" "SIZE_BODY" "[I") .int) (by decide +kernel)) (va_eqt (hs (.eq (.length (.static "PuddingHobs$Asks" "SIZE_BODY" "[I")) (.int 6)) (by decide +kernel))) E3 hA
  have Z3 := va_Zref (hts (.laysStatic "PuddingHobs$Asks" "SIZE_BODY" "[I") (List.mem_of_getElem? (i := 795) (by decide +kernel))) (hts (.initialized "PuddingHobs$Asks") (List.mem_of_getElem? (i := 63) (by decide +kernel))) e3 hA
  have E4 : ∀ j : Nat, j < 6 → (Term.elem (.static "PuddingHobs$Asks" "MARK_BODY" "[I") (.int (Int32.ofNat j))).eval #[Value.ref b] s none [] s = some (.int (([20, 21, 24, 22, 23, 23] : List Int32).getD j 0)) := by
    intro j hj
    rcases (show j = 0 ∨ j = 1 ∨ j = 2 ∨ j = 3 ∨ j = 4 ∨ j = 5 by omega) with rfl | rfl | rfl | rfl | rfl | rfl
    · exact va_eqt (hs (.eq (.elem (.static "PuddingHobs$Asks" "MARK_BODY" "[I") (.int 0)) (.int (20))) (by decide +kernel))
    · exact va_eqt (hs (.eq (.elem (.static "PuddingHobs$Asks" "MARK_BODY" "[I") (.int 1)) (.int (21))) (by decide +kernel))
    · exact va_eqt (hs (.eq (.elem (.static "PuddingHobs$Asks" "MARK_BODY" "[I") (.int 2)) (.int (24))) (by decide +kernel))
    · exact va_eqt (hs (.eq (.elem (.static "PuddingHobs$Asks" "MARK_BODY" "[I") (.int 3)) (.int (22))) (by decide +kernel))
    · exact va_eqt (hs (.eq (.elem (.static "PuddingHobs$Asks" "MARK_BODY" "[I") (.int 4)) (.int (23))) (by decide +kernel))
    · exact va_eqt (hs (.eq (.elem (.static "PuddingHobs$Asks" "MARK_BODY" "[I") (.int 5)) (.int (23))) (by decide +kernel))
  obtain ⟨t4, e4, T4⟩ := va_Tof (args := #[Value.ref b]) (s := s) (tm := (.static "PuddingHobs$Asks" "MARK_BODY" "[I")) (ty := .int) (N := 6) (f := fun j => .int (([20, 21, 24, 22, 23, 23] : List Int32).getD j 0)) (A := A) (by decide) (hs (.arrayOf (.static "PuddingHobs$Asks" "MARK_BODY" "[I") .int) (by decide +kernel)) (va_eqt (hs (.eq (.length (.static "PuddingHobs$Asks" "MARK_BODY" "[I")) (.int 6)) (by decide +kernel))) E4 hA
  have Z4 := va_Zref (hts (.laysStatic "PuddingHobs$Asks" "MARK_BODY" "[I") (List.mem_of_getElem? (i := 797) (by decide +kernel))) (hts (.initialized "PuddingHobs$Asks") (List.mem_of_getElem? (i := 63) (by decide +kernel))) e4 hA
  refine ⟨fun i => [t0, t1, t2, t3, t4].getD i 0, fun i C n l hi => ?_⟩
  match i, hi with
  | 0, hi =>
    have h3 : (("PuddingHobs$Foresight", "LEAST_TRIED", [1, 0, 0, 5, 5]) : String × String × List Int32) = (C, n, l) := Option.some.inj hi
    cases h3
    exact ⟨Z0, T0⟩
  | 1, hi =>
    have h3 : (("PuddingHobs$Foresight", "MOST_TRIED", [5, 20, 9, 60, 60]) : String × String × List Int32) = (C, n, l) := Option.some.inj hi
    cases h3
    exact ⟨Z1, T1⟩
  | 2, hi =>
    have h3 : (("PuddingHobs$Asks", "PARENT", [-1, 0, 1, 1, 0, 4]) : String × String × List Int32) = (C, n, l) := Option.some.inj hi
    cases h3
    exact ⟨Z2, T2⟩
  | 3, hi =>
    have h3 : (("PuddingHobs$Asks", "SIZE_BODY", [10, 11, 12, 11, 13, 14]) : String × String × List Int32) = (C, n, l) := Option.some.inj hi
    cases h3
    exact ⟨Z3, T3⟩
  | 4, hi =>
    have h3 : (("PuddingHobs$Asks", "MARK_BODY", [20, 21, 24, 22, 23, 23]) : String × String × List Int32) = (C, n, l) := Option.some.inj hi
    cases h3
    exact ⟨Z4, T4⟩
  | i + 5, hi => exact absurd (List.getElem?_eq_some_iff.mp hi).1 (by show ¬ (i + 5 < 5); omega)
theorem kn_all {s : State} {b : Nat} (hts : ∀ w ∈ hm_tbl, w.before #[Value.ref b] s = true) : ∃ (D : va_G) (cI cZ : ClassId), va_K D vwCl [(cI, .int), (cZ, .boolean)] s := by
  obtain ⟨c0, i0, K0⟩ := u_known (C := RX0) (T := TX0) (N := 3) (n := 3) hts hm_u0 (hts (.instantiable RX0 3) (hm_in (i := 187) (by decide +kernel) rfl))
  obtain ⟨c1, i1, K1⟩ := u_known (C := RX1) (T := TX1) (N := 3) (n := 3) hts hm_u1 (hts (.instantiable RX1 3) (hm_in (i := 235) (by decide +kernel) rfl))
  obtain ⟨c2, i2, K2⟩ := u_known (C := RX2) (T := TX2) (N := 3) (n := 3) hts hm_u2 (hts (.instantiable RX2 3) (hm_in (i := 216) (by decide +kernel) rfl))
  obtain ⟨c3, i3, K3⟩ := u_known (C := RX3) (T := TX3) (N := 11) (n := 11) hts hm_u3 (hts (.instantiable RX3 11) (hm_in (i := 122) (by decide +kernel) rfl))
  obtain ⟨c4, i4, K4⟩ := u_known (C := RX4) (T := TX4) (N := 2) (n := 2) hts hm_u4 (hts (.instantiable RX4 2) (hm_in (i := 203) (by decide +kernel) rfl))
  obtain ⟨c5, i5, K5⟩ := u_known (C := RX5) (T := TX5) (N := 3) (n := 3) hts hm_u5 (hts (.instantiable RX5 3) (hm_in (i := 77) (by decide +kernel) rfl))
  obtain ⟨c6, i6, K6⟩ := u_known (C := RX6) (T := TX6) (N := 7) (n := 7) hts hm_u6 (hts (.instantiable RX6 7) (hm_in (i := 94) (by decide +kernel) rfl))
  obtain ⟨c7, i7, K7⟩ := u_known (C := RX7) (T := TX7) (N := 9) (n := 9) hts hm_u7 (hts (.instantiable RX7 9) (hm_in (i := 69) (by decide +kernel) rfl))
  obtain ⟨c8, i8, K8⟩ := u_known (C := RX8) (T := TX8) (N := 22) (n := 22) hts hm_u8 (hts (.instantiable RX8 22) (hm_in (i := 829) (by decide +kernel) rfl))
  obtain ⟨cI, kI, mI, fI, gI, hI⟩ := Cond.arrayClass_spec (hts (.arrayClass .int) (hm_in (i := 92) (by decide +kernel) rfl))
  obtain ⟨cZ, kZ, mZ, fZ, gZ, hZ⟩ := Cond.arrayClass_spec (hts (.arrayClass .boolean) (hm_in (i := 902) (by decide +kernel) rfl))
  refine ⟨(fun k => [c0, c1, c2, c3, c4, c5, c6, c7, c8].getD k c0, fun k => [i0, i1, i2, i3, i4, i5, i6, i7, i8].getD k i0), cI, cZ, fun k q hq => ?_, fun k q hq => ?_⟩
  · match k, hq with
    | 0, hq => cases hq; exact K0
    | 1, hq => cases hq; exact K1
    | 2, hq => cases hq; exact K2
    | 3, hq => cases hq; exact K3
    | 4, hq => cases hq; exact K4
    | 5, hq => cases hq; exact K5
    | 6, hq => cases hq; exact K6
    | 7, hq => cases hq; exact K7
    | 8, hq => cases hq; exact K8
    | k + 9, hq => exact absurd (List.getElem?_eq_some_iff.mp hq).1 (by show ¬ (k + 9 < 9); omega)
  · match k, hq with
    | 0, hq => cases hq; exact ⟨fun n z => ⟨fun k h => (by cases h), kI, gI, mI, hI⟩, fI⟩
    | 1, hq => cases hq; exact ⟨fun n z => ⟨fun k h => (by cases h), kZ, gZ, mZ, hZ⟩, fZ⟩
    | k + 2, hq => exact absurd (List.getElem?_eq_some_iff.mp hq).1 (by show ¬ (k + 2 < 2); omega)
