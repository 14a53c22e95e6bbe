/-! ONE INVARIANT FOR BOTH: JC the class's cells, JR the reference's, JP what the told values keep -/
section J0
variable {M N : hm_M} {w ln lg it tp ik tr : Int → Int} {pa im : Int → Int → Int} {st tl fk na tn : Int}
def JC (M : hm_M) (w ln lg it tp : Int → Int) (pa im : Int → Int → Int) (ik tr : Int → Int) (st tl fk na tn : Int) : Prop := Hb M 7 w ∧ RC M ln lg it ∧ M 0 8 = zI st ∧ TC M tp tl fk ∧ AC M pa na ∧ IC M im ik ∧ KC M tr tn
def JR (M : hm_M) (w ln lg it tp : Int → Int) (pa im : Int → Int → Int) (ik tr : Int → Int) (st tl fk na tn : Int) : Prop := aw (M 36) 53 0 20000 w ∧ RR M ln lg it ∧ M 30 4 = zI st ∧ TR M tp tl fk ∧ AR M pa na ∧ IR M im ik ∧ KR M tr tn
def JP (w ln lg it tp : Int → Int) (pa im : Int → Int → Int) (ik : Int → Int) (tl na tn : Int) : Prop := gW w ∧ RW ln lg it ∧ pB tp tl ∧ AW pa na ∧ IW im ik ∧ 0 ≤ tn ∧ tn ≤ 16
def JJ (M : hm_M) : Prop := ∃ (w ln lg it tp : Int → Int) (pa im : Int → Int → Int) (ik tr : Int → Int) (st tl fk na tn : Int), JC M w ln lg it tp pa im ik tr st tl fk na tn ∧ JR M w ln lg it tp pa im ik tr st tl fk na tn ∧ JP w ln lg it tp pa im ik tl na tn
theorem JC.mk (h1 : JC M w ln lg it tp pa im ik tr st tl fk na tn) (h2 : JR M w ln lg it tp pa im ik tr st tl fk na tn) (h3 : JP w ln lg it tp pa im ik tl na tn) : JJ M := ⟨w, ln, lg, it, tp, pa, im, ik, tr, st, tl, fk, na, tn, h1, h2, h3⟩
theorem RC.c (h : RC M ln lg it) (e2 : N 2 = M 2) (e3 : N 3 = M 3) (e4 : N 4 = M 4) : RC N ln lg it := by unfold RC at *; rw [e2, e3, e4]; exact h
theorem TC.c (h : TC M tp tl fk) (e5 : N 5 = M 5) (e6 : N 6 = M 6) : TC N tp tl fk := by unfold TC at *; rw [e5, e6]; exact h
theorem AC.c (h : AC M pa na) (e5 : N 17 = M 17) (e6 : N 18 = M 18) : AC N pa na := by unfold AC at *; rw [e5, e6]; exact h
theorem IC.c (h : IC M im ik) (e5 : N 19 = M 19) (e6 : N 20 = M 20) : IC N im ik := by unfold IC at *; rw [e5, e6]; exact h
theorem KC.c (h : KC M tr tn) (e5 : N 28 = M 28) (e6 : N 29 = M 29) : KC N tr tn := by unfold KC at *; rw [e5, e6]; exact h
theorem RR.c (h : RR M ln lg it) (e2 : N 31 = M 31) (e3 : N 32 = M 32) (e4 : N 33 = M 33) : RR N ln lg it := by unfold RR at *; rw [e2, e3, e4]; exact h
theorem TR.c (h : TR M tp tl fk) (e6 : N 30 6 = M 30 6) (e7 : N 30 7 = M 30 7) (e35 : N 35 = M 35) : TR N tp tl fk := by unfold TR at *; rw [e6, e7, e35]; exact h
theorem AR.c (h : AR M pa na) (e5 : N 30 17 = M 30 17) (e6 : N 39 = M 39) : AR N pa na := by unfold AR at *; rw [e5, e6]; exact h
theorem IR.c (h : IR M im ik) (e5 : N 40 = M 40) (e6 : N 41 = M 41) : IR N im ik := by unfold IR at *; rw [e5, e6]; exact h
theorem KR.c (h : KR M tr tn) (e5 : N 30 21 = M 30 21) (e6 : N 42 = M 42) : KR N tr tn := by unfold KR at *; rw [e5, e6]; exact h
theorem JC.ref (h : JC M w ln lg it tp pa im ik tr st tl fk na tn) (e : ∀ k : Nat, k < 30 → N k = M k) : JC N w ln lg it tp pa im ik tr st tl fk na tn := by
  obtain ⟨c1, c2, c3, c4, c5, c6, c7⟩ := h
  exact ⟨c1.fr (e 7 (by decide)) (e 8 (by decide)) (e 9 (by decide)) (e 10 (by decide)) (e 11 (by decide)), c2.c (e 2 (by decide)) (e 3 (by decide)) (e 4 (by decide)), by rw [e 0 (by decide)]; exact c3, c4.c (e 5 (by decide)) (e 6 (by decide)), c5.c (e 17 (by decide)) (e 18 (by decide)), c6.c (e 19 (by decide)) (e 20 (by decide)), c7.c (e 28 (by decide)) (e 29 (by decide))⟩
theorem JR.cls (h : JR M w ln lg it tp pa im ik tr st tl fk na tn) (e : ∀ k : Nat, 30 ≤ k → N k = M k) : JR N w ln lg it tp pa im ik tr st tl fk na tn := by
  obtain ⟨c1, c2, c3, c4, c5, c6, c7⟩ := h
  have e30 := e 30 (by decide)
  exact ⟨by rw [e 36 (by decide)]; exact c1, c2.c (e 31 (by decide)) (e 32 (by decide)) (e 33 (by decide)), by rw [e30]; exact c3, c4.c (by rw [e30]) (by rw [e30]) (e 35 (by decide)), c5.c (by rw [e30]) (e 39 (by decide)), c6.c (e 40 (by decide)) (e 41 (by decide)), c7.c (by rw [e30]) (e 42 (by decide))⟩
/-- what a call of the class leaves for the call of the reference behind it -/
def PK (D mid : Nat) (ls : hm_L) (M : hm_M) (Q : Option hm_V → hm_M → Prop) : Prop := ∀ (a : Int32) (M1 : hm_M), M1 1005 = M 1005 → M1 1006 = M 1006 → (∀ Q2 : Option hm_V → hm_M → Prop, (∀ M2, JJ M2 → M2 1005 = M 1005 → M2 1006 = M 1006 → Q2 (some (.inl a)) M2) → hm_Wp D mid 0 ls [] M1 Q2) → Q (some (.inl a)) M1
end J0
