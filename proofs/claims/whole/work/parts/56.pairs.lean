section J1
variable {d : Nat} {M : hm_M} {Q : Option hm_V → hm_M → Prop}
theorem P_basin {b y : Int} (hb : zR b) (hy : zR y) (hJ : JJ M) (kk : PK (d + 7) 173 [some (.inr (.inr 30)), some (.inl (zI b)), some (.inl (zI y)), none] M Q) : hm_Wp (d + 7) 98 0 [some (.inr (.inr 0)), some (.inl (zI b)), some (.inl (zI y))] [] M Q := by
  obtain ⟨w, ln, lg, it, tp, pa, im, ik, tr, st, tl, fk, na, tn, hC, hR, hP⟩ := hJ
  obtain ⟨c1, c2, c3, c4, c5, c6, c7⟩ := id hC
  obtain ⟨r1, r2, r3, r4, r5, r6, r7⟩ := id hR
  obtain ⟨p1, p2, p3, p4, p5, p6, p7⟩ := id hP
  refine c_basin hb hy c1 p1.1 ?_
  refine kk _ M rfl rfl (fun Q2 k2 => ?_)
  exact r_basin hb hy r1 p1.1 (k2 M (hC.mk hR hP) rfl rfl)
theorem P_slices {b n : Int} (hb : zR b) (hn : zR n) (hJ : JJ M) (kk : PK (d + 7) 187 [some (.inr (.inr 30)), some (.inl (zI b)), some (.inl (zI n)), none, none, none, none] M Q) : hm_Wp (d + 7) 108 0 [some (.inr (.inr 0)), some (.inl (zI b)), some (.inl (zI n))] [] M Q := by
  obtain ⟨w, ln, lg, it, tp, pa, im, ik, tr, st, tl, fk, na, tn, hC, hR, hP⟩ := hJ
  obtain ⟨c1, c2, c3, c4, c5, c6, c7⟩ := id hC
  obtain ⟨r1, r2, r3, r4, r5, r6, r7⟩ := id hR
  obtain ⟨p1, p2, p3, p4, p5, p6, p7⟩ := id hP
  refine c_slices hb hn c1 p1.1 ?_
  refine kk _ M rfl rfl (fun Q2 k2 => ?_)
  exact r_slices hb hn r1 p1.1 (k2 M (hC.mk hR hP) rfl rfl)
theorem P_kind {b : Int} (hb : zR b) (hJ : JJ M) (kk : PK (d + 7) 195 [some (.inr (.inr 30)), some (.inl (zI b))] M Q) : hm_Wp (d + 7) 114 0 [some (.inr (.inr 0)), some (.inl (zI b))] [] M Q := by
  obtain ⟨w, ln, lg, it, tp, pa, im, ik, tr, st, tl, fk, na, tn, hC, hR, hP⟩ := hJ
  obtain ⟨c1, c2, c3, c4, c5, c6, c7⟩ := id hC
  obtain ⟨r1, r2, r3, r4, r5, r6, r7⟩ := id hR
  obtain ⟨p1, p2, p3, p4, p5, p6, p7⟩ := id hP
  refine c_kind hb c1 p1.1 ?_
  refine kk _ M rfl rfl (fun Q2 k2 => ?_)
  exact r_kind hb r1 p1.1 (k2 M (hC.mk hR hP) rfl rfl)
theorem P_trace {y : Int} (hy : zR y) (hJ : JJ M) (kk : PK (d + 7) 203 [some (.inr (.inr 30)), some (.inl (zI y))] M Q) : hm_Wp (d + 7) 117 0 [some (.inr (.inr 0)), some (.inl (zI y))] [] M Q := by
  obtain ⟨w, ln, lg, it, tp, pa, im, ik, tr, st, tl, fk, na, tn, hC, hR, hP⟩ := hJ
  obtain ⟨c1, c2, c3, c4, c5, c6, c7⟩ := id hC
  obtain ⟨r1, r2, r3, r4, r5, r6, r7⟩ := id hR
  obtain ⟨p1, p2, p3, p4, p5, p6, p7⟩ := id hP
  refine c_trace hy c7 p6 p7 ?_
  refine kk _ M rfl rfl (fun Q2 k2 => ?_)
  exact r_trace hy r7 p6 p7 (k2 M (hC.mk hR hP) rfl rfl)
theorem P_status  (hJ : JJ M) (kk : PK (d + 7) 205 [some (.inr (.inr 30))] M Q) : hm_Wp (d + 7) 119 0 [some (.inr (.inr 0))] [] M Q := by
  obtain ⟨w, ln, lg, it, tp, pa, im, ik, tr, st, tl, fk, na, tn, hC, hR, hP⟩ := hJ
  obtain ⟨c1, c2, c3, c4, c5, c6, c7⟩ := id hC
  obtain ⟨r1, r2, r3, r4, r5, r6, r7⟩ := id hR
  obtain ⟨p1, p2, p3, p4, p5, p6, p7⟩ := id hP
  refine c_status c3 ?_
  refine kk _ M rfl rfl (fun Q2 k2 => ?_)
  exact r_status r3 (k2 M (hC.mk hR hP) rfl rfl)
theorem P_fault  (hJ : JJ M) (kk : PK (d + 7) 150 [some (.inr (.inr 30))] M Q) : hm_Wp (d + 7) 90 0 [some (.inr (.inr 0))] [] M Q := by
  obtain ⟨w, ln, lg, it, tp, pa, im, ik, tr, st, tl, fk, na, tn, hC, hR, hP⟩ := hJ
  obtain ⟨c1, c2, c3, c4, c5, c6, c7⟩ := id hC
  obtain ⟨r1, r2, r3, r4, r5, r6, r7⟩ := id hR
  obtain ⟨p1, p2, p3, p4, p5, p6, p7⟩ := id hP
  refine c_fault c4 ?_
  refine kk _ M rfl rfl (fun Q2 k2 => ?_)
  exact r_fault r4 (k2 M (hC.mk hR hP) rfl rfl)
theorem P_count {y : Int} (hy : zR y) (hJ : JJ M) (kk : PK (d + 7) 204 [some (.inr (.inr 30)), some (.inl (zI y)), none, none] M Q) : hm_Wp (d + 7) 118 0 [some (.inr (.inr 0)), some (.inl (zI y))] [] M Q := by
  obtain ⟨w, ln, lg, it, tp, pa, im, ik, tr, st, tl, fk, na, tn, hC, hR, hP⟩ := hJ
  obtain ⟨c1, c2, c3, c4, c5, c6, c7⟩ := id hC
  obtain ⟨r1, r2, r3, r4, r5, r6, r7⟩ := id hR
  obtain ⟨p1, p2, p3, p4, p5, p6, p7⟩ := id hP
  refine c_count hy c2 p2 c1 p1.1 c5 c4 ?_
  refine kk _ M rfl rfl (fun Q2 k2 => ?_)
  exact r_count hy r2 p2 r1 p1.1 r5 r4 (k2 M (hC.mk hR hP) rfl rfl)
theorem P_place {y : Int} (hy : zR y) (hJ : JJ M) (kk : PK (d + 7) 174 [some (.inr (.inr 30)), some (.inl (zI y))] M Q) : hm_Wp (d + 7) 99 0 [some (.inr (.inr 0)), some (.inl (zI y)), none] [] M Q := by
  obtain ⟨w, ln, lg, it, tp, pa, im, ik, tr, st, tl, fk, na, tn, hC, hR, hP⟩ := hJ
  obtain ⟨c1, c2, c3, c4, c5, c6, c7⟩ := id hC
  obtain ⟨r1, r2, r3, r4, r5, r6, r7⟩ := id hR
  obtain ⟨p1, p2, p3, p4, p5, p6, p7⟩ := id hP
  refine c_place hy c1 p1.1 (fun x hx => ?_)
  refine kk _ M rfl rfl (fun Q2 k2 => ?_)
  refine r_place hy r1 p1.1 (fun x2 hx2 => ?_)
  rw [aPl_u p1.1 hx2 hx]
  exact k2 M (hC.mk hR hP) rfl rfl
theorem P_swell {b n : Int} (hb : zR b) (hn : zR n) (hJ : JJ M) (kk : PK (d + 7) 176 [some (.inr (.inr 30)), some (.inl (zI b)), some (.inl (zI n))] M Q) : hm_Wp (d + 7) 100 0 [some (.inr (.inr 0)), some (.inl (zI b)), some (.inl (zI n))] [] M Q := by
  obtain ⟨w, ln, lg, it, tp, pa, im, ik, tr, st, tl, fk, na, tn, hC, hR, hP⟩ := hJ
  obtain ⟨c1, c2, c3, c4, c5, c6, c7⟩ := id hC
  obtain ⟨r1, r2, r3, r4, r5, r6, r7⟩ := id hR
  obtain ⟨p1, p2, p3, p4, p5, p6, p7⟩ := id hP
  refine c_swell hb hn c1 p1.1 p1.2.2 (fun x M1 hx f1 => ?_)
  refine kk _ M1 (f1 1005 (by decide)) (f1 1006 (by decide)) (fun Q2 k2 => ?_)
  have hR1 := hR.cls (N := M1) (fun k hk => f1 k (by omega))
  have hC1 : JC M1 w ln lg it tp pa im ik tr st tl fk na tn := ⟨c1.ft f1, c2.c (f1 2 (by decide)) (f1 3 (by decide)) (f1 4 (by decide)), by rw [f1 0 (by decide)]; exact c3, c4.c (f1 5 (by decide)) (f1 6 (by decide)), c5.c (f1 17 (by decide)) (f1 18 (by decide)), c6.c (f1 19 (by decide)) (f1 20 (by decide)), c7.c (f1 28 (by decide)) (f1 29 (by decide))⟩
  refine r_swell hb hn hR1.1 p1.1 p1.2.2 (fun x2 M2 hx2 f2 => ?_)
  rw [show x2 = x from by rcases hx with ⟨a1, a2, a3, a4, a5⟩ | ⟨a1, a2⟩ <;> rcases hx2 with ⟨b1, b2, b3, b4, b5⟩ | ⟨b1, b2⟩ <;> omega]
  obtain ⟨s1, s2, s3, s4, s5, s6, s7⟩ := id hR1
  have e30 := f2 30 (by decide)
  have hR2 : JR M2 w ln lg it tp pa im ik tr st tl fk na tn := ⟨by rw [f2 36 (by decide)]; exact s1, s2.c (f2 31 (by decide)) (f2 32 (by decide)) (f2 33 (by decide)), by rw [e30]; exact s3, s4.c (by rw [e30]) (by rw [e30]) (f2 35 (by decide)), s5.c (by rw [e30]) (f2 39 (by decide)), s6.c (f2 40 (by decide)) (f2 41 (by decide)), s7.c (by rw [e30]) (f2 42 (by decide))⟩
  exact k2 M2 ((hC1.ref (fun k hk => f2 k (by omega))).mk hR2 hP) ((f2 1005 (by decide)).trans (f1 1005 (by decide))) ((f2 1006 (by decide)).trans (f1 1006 (by decide)))
theorem P_burst {n : Int} (hn : zR n) (hJ : JJ M) (kk : PK (d + 7) 177 [some (.inr (.inr 30)), some (.inl (zI n))] M Q) : hm_Wp (d + 7) 101 0 [some (.inr (.inr 0)), some (.inl (zI n))] [] M Q := by
  obtain ⟨w, ln, lg, it, tp, pa, im, ik, tr, st, tl, fk, na, tn, hC, hR, hP⟩ := hJ
  obtain ⟨c1, c2, c3, c4, c5, c6, c7⟩ := id hC
  obtain ⟨r1, r2, r3, r4, r5, r6, r7⟩ := id hR
  obtain ⟨p1, p2, p3, p4, p5, p6, p7⟩ := id hP
  refine c_burst hn c1 p1.1 p1.2.2 (fun M1 f1 => ?_)
  refine kk _ M1 (f1 1005 (by decide)) (f1 1006 (by decide)) (fun Q2 k2 => ?_)
  have hR1 := hR.cls (N := M1) (fun k hk => f1 k (by omega))
  have hC1 : JC M1 w ln lg it tp pa im ik tr st tl fk na tn := ⟨c1.ft f1, c2.c (f1 2 (by decide)) (f1 3 (by decide)) (f1 4 (by decide)), by rw [f1 0 (by decide)]; exact c3, c4.c (f1 5 (by decide)) (f1 6 (by decide)), c5.c (f1 17 (by decide)) (f1 18 (by decide)), c6.c (f1 19 (by decide)) (f1 20 (by decide)), c7.c (f1 28 (by decide)) (f1 29 (by decide))⟩
  refine r_burst hn hR1.1 p1.1 p1.2.1 p1.2.2 (fun M2 f2 => ?_)
  obtain ⟨s1, s2, s3, s4, s5, s6, s7⟩ := id hR1
  have e30 := f2 30 (by decide)
  have hR2 : JR M2 w ln lg it tp pa im ik tr st tl fk na tn := ⟨by rw [f2 36 (by decide)]; exact s1, s2.c (f2 31 (by decide)) (f2 32 (by decide)) (f2 33 (by decide)), by rw [e30]; exact s3, s4.c (by rw [e30]) (by rw [e30]) (f2 35 (by decide)), s5.c (by rw [e30]) (f2 39 (by decide)), s6.c (f2 40 (by decide)) (f2 41 (by decide)), s7.c (by rw [e30]) (f2 42 (by decide))⟩
  exact k2 M2 ((hC1.ref (fun k hk => f2 k (by omega))).mk hR2 hP) ((f2 1005 (by decide)).trans (f1 1005 (by decide))) ((f2 1006 (by decide)).trans (f1 1006 (by decide)))
theorem P_bursting {b : Int} (hb : zR b) (hJ : JJ M) (kk : PK (d + 7) 178 [some (.inr (.inr 30)), some (.inl (zI b)), none] M Q) : hm_Wp (d + 7) 102 0 [some (.inr (.inr 0)), some (.inl (zI b))] [] M Q := by
  obtain ⟨w, ln, lg, it, tp, pa, im, ik, tr, st, tl, fk, na, tn, hC, hR, hP⟩ := hJ
  obtain ⟨c1, c2, c3, c4, c5, c6, c7⟩ := id hC
  obtain ⟨r1, r2, r3, r4, r5, r6, r7⟩ := id hR
  obtain ⟨p1, p2, p3, p4, p5, p6, p7⟩ := id hP
  refine c_bursting hb c1 p1.1 p1.2.2 (fun M1 f1 => ?_)
  refine kk _ M1 (f1 1005 (by decide)) (f1 1006 (by decide)) (fun Q2 k2 => ?_)
  have hR1 := hR.cls (N := M1) (fun k hk => f1 k (by omega))
  have hC1 : JC M1 w ln lg it tp pa im ik tr st tl fk na tn := ⟨c1.ft f1, c2.c (f1 2 (by decide)) (f1 3 (by decide)) (f1 4 (by decide)), by rw [f1 0 (by decide)]; exact c3, c4.c (f1 5 (by decide)) (f1 6 (by decide)), c5.c (f1 17 (by decide)) (f1 18 (by decide)), c6.c (f1 19 (by decide)) (f1 20 (by decide)), c7.c (f1 28 (by decide)) (f1 29 (by decide))⟩
  refine r_bursting hb hR1.1 p1.1 p1.2.2 (fun M2 f2 => ?_)
  obtain ⟨s1, s2, s3, s4, s5, s6, s7⟩ := id hR1
  have e30 := f2 30 (by decide)
  have hR2 : JR M2 w ln lg it tp pa im ik tr st tl fk na tn := ⟨by rw [f2 36 (by decide)]; exact s1, s2.c (f2 31 (by decide)) (f2 32 (by decide)) (f2 33 (by decide)), by rw [e30]; exact s3, s4.c (by rw [e30]) (by rw [e30]) (f2 35 (by decide)), s5.c (by rw [e30]) (f2 39 (by decide)), s6.c (f2 40 (by decide)) (f2 41 (by decide)), s7.c (by rw [e30]) (f2 42 (by decide))⟩
  exact k2 M2 ((hC1.ref (fun k hk => f2 k (by omega))).mk hR2 hP) ((f2 1005 (by decide)).trans (f1 1005 (by decide))) ((f2 1006 (by decide)).trans (f1 1006 (by decide)))
theorem P_hottest {n : Int} (hn : zR n) (hJ : JJ M) (kk : PK (d + 7) 185 [some (.inr (.inr 30)), some (.inl (zI n)), none] M Q) : hm_Wp (d + 7) 107 0 [some (.inr (.inr 0)), some (.inl (zI n))] [] M Q := by
  obtain ⟨w, ln, lg, it, tp, pa, im, ik, tr, st, tl, fk, na, tn, hC, hR, hP⟩ := hJ
  obtain ⟨c1, c2, c3, c4, c5, c6, c7⟩ := id hC
  obtain ⟨r1, r2, r3, r4, r5, r6, r7⟩ := id hR
  obtain ⟨p1, p2, p3, p4, p5, p6, p7⟩ := id hP
  refine c_hottest hn c1 p1.1 p1.2.2 (fun M1 f1 => ?_)
  refine kk _ M1 (f1 1005 (by decide)) (f1 1006 (by decide)) (fun Q2 k2 => ?_)
  have hR1 := hR.cls (N := M1) (fun k hk => f1 k (by omega))
  have hC1 : JC M1 w ln lg it tp pa im ik tr st tl fk na tn := ⟨c1.ft f1, c2.c (f1 2 (by decide)) (f1 3 (by decide)) (f1 4 (by decide)), by rw [f1 0 (by decide)]; exact c3, c4.c (f1 5 (by decide)) (f1 6 (by decide)), c5.c (f1 17 (by decide)) (f1 18 (by decide)), c6.c (f1 19 (by decide)) (f1 20 (by decide)), c7.c (f1 28 (by decide)) (f1 29 (by decide))⟩
  refine r_hottest hn hR1.1 p1.1 p1.2.1 p1.2.2 (fun M2 f2 => ?_)
  obtain ⟨s1, s2, s3, s4, s5, s6, s7⟩ := id hR1
  have e30 := f2 30 (by decide)
  have hR2 : JR M2 w ln lg it tp pa im ik tr st tl fk na tn := ⟨by rw [f2 36 (by decide)]; exact s1, s2.c (f2 31 (by decide)) (f2 32 (by decide)) (f2 33 (by decide)), by rw [e30]; exact s3, s4.c (by rw [e30]) (by rw [e30]) (f2 35 (by decide)), s5.c (by rw [e30]) (f2 39 (by decide)), s6.c (f2 40 (by decide)) (f2 41 (by decide)), s7.c (by rw [e30]) (f2 42 (by decide))⟩
  exact k2 M2 ((hC1.ref (fun k hk => f2 k (by omega))).mk hR2 hP) ((f2 1005 (by decide)).trans (f1 1005 (by decide))) ((f2 1006 (by decide)).trans (f1 1006 (by decide)))
theorem P_change {n y : Int} (hn : zR n) (hy : zR y) (hJ : JJ M) (kk : PK (d + 7) 184 [some (.inr (.inr 30)), some (.inl (zI n)), some (.inl (zI y)), none, none, none, none, none, none] M Q) : hm_Wp (d + 7) 106 0 [some (.inr (.inr 0)), some (.inl (zI n)), some (.inl (zI y))] [] M Q := by
  obtain ⟨w, ln, lg, it, tp, pa, im, ik, tr, st, tl, fk, na, tn, hC, hR, hP⟩ := hJ
  obtain ⟨c1, c2, c3, c4, c5, c6, c7⟩ := id hC
  obtain ⟨r1, r2, r3, r4, r5, r6, r7⟩ := id hR
  obtain ⟨p1, p2, p3, p4, p5, p6, p7⟩ := id hP
  refine c_change hn hy c1 p1.1 p1.2.2 (fun M1 f1 => ?_)
  refine kk _ M1 (f1 1005 (by decide)) (f1 1006 (by decide)) (fun Q2 k2 => ?_)
  have hR1 := hR.cls (N := M1) (fun k hk => f1 k (by omega))
  have hC1 : JC M1 w ln lg it tp pa im ik tr st tl fk na tn := ⟨c1.ft f1, c2.c (f1 2 (by decide)) (f1 3 (by decide)) (f1 4 (by decide)), by rw [f1 0 (by decide)]; exact c3, c4.c (f1 5 (by decide)) (f1 6 (by decide)), c5.c (f1 17 (by decide)) (f1 18 (by decide)), c6.c (f1 19 (by decide)) (f1 20 (by decide)), c7.c (f1 28 (by decide)) (f1 29 (by decide))⟩
  refine r_change hn hy hR1.1 p1.1 p1.2.1 p1.2.2 (fun M2 f2 => ?_)
  obtain ⟨s1, s2, s3, s4, s5, s6, s7⟩ := id hR1
  have e30 := f2 30 (by decide)
  have hR2 : JR M2 w ln lg it tp pa im ik tr st tl fk na tn := ⟨by rw [f2 36 (by decide)]; exact s1, s2.c (f2 31 (by decide)) (f2 32 (by decide)) (f2 33 (by decide)), by rw [e30]; exact s3, s4.c (by rw [e30]) (by rw [e30]) (f2 35 (by decide)), s5.c (by rw [e30]) (f2 39 (by decide)), s6.c (f2 40 (by decide)) (f2 41 (by decide)), s7.c (by rw [e30]) (f2 42 (by decide))⟩
  exact k2 M2 ((hC1.ref (fun k hk => f2 k (by omega))).mk hR2 hP) ((f2 1005 (by decide)).trans (f1 1005 (by decide))) ((f2 1006 (by decide)).trans (f1 1006 (by decide)))
theorem P_stirs {b n : Int} (hb : zR b) (hn : zR n) (hJ : JJ M) (kk : PK (d + 7) 181 [some (.inr (.inr 30)), some (.inl (zI b)), some (.inl (zI n)), none, none] M Q) : hm_Wp (d + 7) 104 0 [some (.inr (.inr 0)), some (.inl (zI b)), some (.inl (zI n))] [] M Q := by
  obtain ⟨w, ln, lg, it, tp, pa, im, ik, tr, st, tl, fk, na, tn, hC, hR, hP⟩ := hJ
  obtain ⟨c1, c2, c3, c4, c5, c6, c7⟩ := id hC
  obtain ⟨r1, r2, r3, r4, r5, r6, r7⟩ := id hR
  obtain ⟨p1, p2, p3, p4, p5, p6, p7⟩ := id hP
  refine c_stirs hb hn c1 p1.1 p1.2.2 (fun M1 f1 => ?_)
  refine kk _ M1 (f1 1005 (by decide)) (f1 1006 (by decide)) (fun Q2 k2 => ?_)
  have hR1 := hR.cls (N := M1) (fun k hk => f1 k (by omega))
  have hC1 : JC M1 w ln lg it tp pa im ik tr st tl fk na tn := ⟨c1.ft f1, c2.c (f1 2 (by decide)) (f1 3 (by decide)) (f1 4 (by decide)), by rw [f1 0 (by decide)]; exact c3, c4.c (f1 5 (by decide)) (f1 6 (by decide)), c5.c (f1 17 (by decide)) (f1 18 (by decide)), c6.c (f1 19 (by decide)) (f1 20 (by decide)), c7.c (f1 28 (by decide)) (f1 29 (by decide))⟩
  refine r_stirs hb hn hR1.1 p1.1 p1.2.2 (fun M2 f2 => ?_)
  obtain ⟨s1, s2, s3, s4, s5, s6, s7⟩ := id hR1
  have e30 := f2 30 (by decide)
  have hR2 : JR M2 w ln lg it tp pa im ik tr st tl fk na tn := ⟨by rw [f2 36 (by decide)]; exact s1, s2.c (f2 31 (by decide)) (f2 32 (by decide)) (f2 33 (by decide)), by rw [e30]; exact s3, s4.c (by rw [e30]) (by rw [e30]) (f2 35 (by decide)), s5.c (by rw [e30]) (f2 39 (by decide)), s6.c (f2 40 (by decide)) (f2 41 (by decide)), s7.c (by rw [e30]) (f2 42 (by decide))⟩
  exact k2 M2 ((hC1.ref (fun k hk => f2 k (by omega))).mk hR2 hP) ((f2 1005 (by decide)).trans (f1 1005 (by decide))) ((f2 1006 (by decide)).trans (f1 1006 (by decide)))
theorem P_first {y : Int} (hy : zR y) (hJ : JJ M) (kk : PK (d + 7) 179 [some (.inr (.inr 30)), some (.inl (zI y)), none, none, none] M Q) : hm_Wp (d + 7) 103 0 [some (.inr (.inr 0)), some (.inl (zI y))] [] M Q := by
  obtain ⟨w, ln, lg, it, tp, pa, im, ik, tr, st, tl, fk, na, tn, hC, hR, hP⟩ := hJ
  obtain ⟨c1, c2, c3, c4, c5, c6, c7⟩ := id hC
  obtain ⟨r1, r2, r3, r4, r5, r6, r7⟩ := id hR
  obtain ⟨p1, p2, p3, p4, p5, p6, p7⟩ := id hP
  refine c_first hy c1 p1.1 p1.2.2 (fun M1 f1 => ?_)
  refine kk _ M1 (f1 1005 (by decide)) (f1 1006 (by decide)) (fun Q2 k2 => ?_)
  have hR1 := hR.cls (N := M1) (fun k hk => f1 k (by omega))
  have hC1 : JC M1 w ln lg it tp pa im ik tr st tl fk na tn := ⟨c1.ft f1, c2.c (f1 2 (by decide)) (f1 3 (by decide)) (f1 4 (by decide)), by rw [f1 0 (by decide)]; exact c3, c4.c (f1 5 (by decide)) (f1 6 (by decide)), c5.c (f1 17 (by decide)) (f1 18 (by decide)), c6.c (f1 19 (by decide)) (f1 20 (by decide)), c7.c (f1 28 (by decide)) (f1 29 (by decide))⟩
  refine r_first hy hR1.1 p1.1 p1.2.1 p1.2.2 (fun M2 f2 => ?_)
  obtain ⟨s1, s2, s3, s4, s5, s6, s7⟩ := id hR1
  have e30 := f2 30 (by decide)
  have hR2 : JR M2 w ln lg it tp pa im ik tr st tl fk na tn := ⟨by rw [f2 36 (by decide)]; exact s1, s2.c (f2 31 (by decide)) (f2 32 (by decide)) (f2 33 (by decide)), by rw [e30]; exact s3, s4.c (by rw [e30]) (by rw [e30]) (f2 35 (by decide)), s5.c (by rw [e30]) (f2 39 (by decide)), s6.c (f2 40 (by decide)) (f2 41 (by decide)), s7.c (by rw [e30]) (f2 42 (by decide))⟩
  exact k2 M2 ((hC1.ref (fun k hk => f2 k (by omega))).mk hR2 hP) ((f2 1005 (by decide)).trans (f1 1005 (by decide))) ((f2 1006 (by decide)).trans (f1 1006 (by decide)))
theorem P_off {n y : Int} (hn : zR n) (hy : zR y) (hJ : JJ M) (kk : PK (d + 7) 183 [some (.inr (.inr 30)), some (.inl (zI n)), some (.inl (zI y)), none, none, none, none] M Q) : hm_Wp (d + 7) 105 0 [some (.inr (.inr 0)), some (.inl (zI n)), some (.inl (zI y)), none] [] M Q := by
  obtain ⟨w, ln, lg, it, tp, pa, im, ik, tr, st, tl, fk, na, tn, hC, hR, hP⟩ := hJ
  obtain ⟨c1, c2, c3, c4, c5, c6, c7⟩ := id hC
  obtain ⟨r1, r2, r3, r4, r5, r6, r7⟩ := id hR
  obtain ⟨p1, p2, p3, p4, p5, p6, p7⟩ := id hP
  refine c_off hn hy c1 p1.1 p1.2.2 (fun M1 f1 => ?_)
  refine kk _ M1 (f1 1005 (by decide)) (f1 1006 (by decide)) (fun Q2 k2 => ?_)
  have hR1 := hR.cls (N := M1) (fun k hk => f1 k (by omega))
  have hC1 : JC M1 w ln lg it tp pa im ik tr st tl fk na tn := ⟨c1.ft f1, c2.c (f1 2 (by decide)) (f1 3 (by decide)) (f1 4 (by decide)), by rw [f1 0 (by decide)]; exact c3, c4.c (f1 5 (by decide)) (f1 6 (by decide)), c5.c (f1 17 (by decide)) (f1 18 (by decide)), c6.c (f1 19 (by decide)) (f1 20 (by decide)), c7.c (f1 28 (by decide)) (f1 29 (by decide))⟩
  refine r_off hn hy hR1.1 p1.1 p1.2.1 p1.2.2 (fun M2 f2 => ?_)
  obtain ⟨s1, s2, s3, s4, s5, s6, s7⟩ := id hR1
  have e30 := f2 30 (by decide)
  have hR2 : JR M2 w ln lg it tp pa im ik tr st tl fk na tn := ⟨by rw [f2 36 (by decide)]; exact s1, s2.c (f2 31 (by decide)) (f2 32 (by decide)) (f2 33 (by decide)), by rw [e30]; exact s3, s4.c (by rw [e30]) (by rw [e30]) (f2 35 (by decide)), s5.c (by rw [e30]) (f2 39 (by decide)), s6.c (f2 40 (by decide)) (f2 41 (by decide)), s7.c (by rw [e30]) (f2 42 (by decide))⟩
  exact k2 M2 ((hC1.ref (fun k hk => f2 k (by omega))).mk hR2 hP) ((f2 1005 (by decide)).trans (f1 1005 (by decide))) ((f2 1006 (by decide)).trans (f1 1006 (by decide)))
theorem P_mice {b n c y : Int} (hb : zR b) (hn : zR n) (hc : zR c) (hy : zR y) (hJ : JJ M) (kk : PK (d + 7) 190 [some (.inr (.inr 30)), some (.inl (zI b)), some (.inl (zI n)), some (.inl (zI c)), some (.inl (zI y)), none, none, none, none, none] M Q) : hm_Wp (d + 7) 110 0 [some (.inr (.inr 0)), some (.inl (zI b)), some (.inl (zI n)), some (.inl (zI c)), some (.inl (zI y))] [] M Q := by
  obtain ⟨w, ln, lg, it, tp, pa, im, ik, tr, st, tl, fk, na, tn, hC, hR, hP⟩ := hJ
  obtain ⟨c1, c2, c3, c4, c5, c6, c7⟩ := id hC
  obtain ⟨r1, r2, r3, r4, r5, r6, r7⟩ := id hR
  obtain ⟨p1, p2, p3, p4, p5, p6, p7⟩ := id hP
  refine c_mice hb hn hc hy c1 p1.1 p1.2.2 (fun M1 f1 => ?_)
  refine kk _ M1 (f1 1005 (by decide)) (f1 1006 (by decide)) (fun Q2 k2 => ?_)
  have hR1 := hR.cls (N := M1) (fun k hk => f1 k (by omega))
  have hC1 : JC M1 w ln lg it tp pa im ik tr st tl fk na tn := ⟨c1.ft f1, c2.c (f1 2 (by decide)) (f1 3 (by decide)) (f1 4 (by decide)), by rw [f1 0 (by decide)]; exact c3, c4.c (f1 5 (by decide)) (f1 6 (by decide)), c5.c (f1 17 (by decide)) (f1 18 (by decide)), c6.c (f1 19 (by decide)) (f1 20 (by decide)), c7.c (f1 28 (by decide)) (f1 29 (by decide))⟩
  refine r_mice hb hn hc hy hR1.1 p1.1 p1.2.2 (fun M2 f2 => ?_)
  obtain ⟨s1, s2, s3, s4, s5, s6, s7⟩ := id hR1
  have e30 := f2 30 (by decide)
  have hR2 : JR M2 w ln lg it tp pa im ik tr st tl fk na tn := ⟨by rw [f2 36 (by decide)]; exact s1, s2.c (f2 31 (by decide)) (f2 32 (by decide)) (f2 33 (by decide)), by rw [e30]; exact s3, s4.c (by rw [e30]) (by rw [e30]) (f2 35 (by decide)), s5.c (by rw [e30]) (f2 39 (by decide)), s6.c (f2 40 (by decide)) (f2 41 (by decide)), s7.c (by rw [e30]) (f2 42 (by decide))⟩
  exact k2 M2 ((hC1.ref (fun k hk => f2 k (by omega))).mk hR2 hP) ((f2 1005 (by decide)).trans (f1 1005 (by decide))) ((f2 1006 (by decide)).trans (f1 1006 (by decide)))
theorem P_drawn {n s y : Int} (hn : zR n) (hs : zR s) (hy : zR y) (hJ : JJ M) (kk : PK (d + 7) 191 [some (.inr (.inr 30)), some (.inl (zI n)), some (.inl (zI s)), some (.inl (zI y)), none, none, none, none, none] M Q) : hm_Wp (d + 7) 111 0 [some (.inr (.inr 0)), some (.inl (zI n)), some (.inl (zI s)), some (.inl (zI y))] [] M Q := by
  obtain ⟨w, ln, lg, it, tp, pa, im, ik, tr, st, tl, fk, na, tn, hC, hR, hP⟩ := hJ
  obtain ⟨c1, c2, c3, c4, c5, c6, c7⟩ := id hC
  obtain ⟨r1, r2, r3, r4, r5, r6, r7⟩ := id hR
  obtain ⟨p1, p2, p3, p4, p5, p6, p7⟩ := id hP
  refine c_drawn hn hs hy c1 p1.1 p1.2.2 (fun M1 f1 => ?_)
  refine kk _ M1 (f1 1005 (by decide)) (f1 1006 (by decide)) (fun Q2 k2 => ?_)
  have hR1 := hR.cls (N := M1) (fun k hk => f1 k (by omega))
  have hC1 : JC M1 w ln lg it tp pa im ik tr st tl fk na tn := ⟨c1.ft f1, c2.c (f1 2 (by decide)) (f1 3 (by decide)) (f1 4 (by decide)), by rw [f1 0 (by decide)]; exact c3, c4.c (f1 5 (by decide)) (f1 6 (by decide)), c5.c (f1 17 (by decide)) (f1 18 (by decide)), c6.c (f1 19 (by decide)) (f1 20 (by decide)), c7.c (f1 28 (by decide)) (f1 29 (by decide))⟩
  refine r_drawn hn hs hy hR1.1 p1.1 p1.2.1 p1.2.2 (fun M2 f2 => ?_)
  obtain ⟨s1, s2, s3, s4, s5, s6, s7⟩ := id hR1
  have e30 := f2 30 (by decide)
  have hR2 : JR M2 w ln lg it tp pa im ik tr st tl fk na tn := ⟨by rw [f2 36 (by decide)]; exact s1, s2.c (f2 31 (by decide)) (f2 32 (by decide)) (f2 33 (by decide)), by rw [e30]; exact s3, s4.c (by rw [e30]) (by rw [e30]) (f2 35 (by decide)), s5.c (by rw [e30]) (f2 39 (by decide)), s6.c (f2 40 (by decide)) (f2 41 (by decide)), s7.c (by rw [e30]) (f2 42 (by decide))⟩
  exact k2 M2 ((hC1.ref (fun k hk => f2 k (by omega))).mk hR2 hP) ((f2 1005 (by decide)).trans (f1 1005 (by decide))) ((f2 1006 (by decide)).trans (f1 1006 (by decide)))
theorem P_hours {n : Int} (hn : zR n) (hJ : JJ M) (kk : PK (d + 7) 166 [some (.inr (.inr 30)), some (.inl (zI n)), none] M Q) : hm_Wp (d + 7) 91 0 [some (.inr (.inr 0)), some (.inl (zI n)), none] [] M Q := by
  obtain ⟨w, ln, lg, it, tp, pa, im, ik, tr, st, tl, fk, na, tn, hC, hR, hP⟩ := hJ
  obtain ⟨c1, c2, c3, c4, c5, c6, c7⟩ := id hC
  obtain ⟨r1, r2, r3, r4, r5, r6, r7⟩ := id hR
  obtain ⟨p1, p2, p3, p4, p5, p6, p7⟩ := id hP
  refine c_hours hn c1 p1 c5 p4 (fun n0 => ?_) (fun y0 M1 g1 g2 f1 => ?_)
  · refine kk _ M rfl rfl (fun Q2 k2 => ?_)
    exact r_hours hn r1 p1 r5 p4 (fun _ => k2 M (hC.mk hR hP) rfl rfl) (fun y1 => absurd y1 n0)
  · refine kk _ M1 (f1 1005 (by decide) (by decide) (by decide)) (f1 1006 (by decide) (by decide) (by decide)) (fun Q2 k2 => ?_)
    have hR1 := hR.cls (N := M1) (fun k hk => f1 k (by omega) (by omega) (by omega))
    obtain ⟨s1, s2, s3, s4, s5, s6, s7⟩ := id hR1
    have hC1 : JC M1 (mIt n.toNat w) ln lg it tp (hPa n.toNat w pa na) im ik tr st tl fk (hNa n.toNat na) tn := ⟨g1, c2.c (f1 2 (by decide) (by decide) (by decide)) (f1 3 (by decide) (by decide) (by decide)) (f1 4 (by decide) (by decide) (by decide)), by rw [f1 0 (by decide) (by decide) (by decide)]; exact c3, c4.c (f1 5 (by decide) (by decide) (by decide)) (f1 6 (by decide) (by decide) (by decide)), g2, c6.c (f1 19 (by decide) (by decide) (by decide)) (f1 20 (by decide) (by decide) (by decide)), c7.c (f1 28 (by decide) (by decide) (by decide)) (f1 29 (by decide) (by decide) (by decide))⟩
    refine r_hours hn s1 p1 s5 p4 (fun n1 => absurd y0 n1) (fun y1 M2 h1 h2 f2 => ?_)
    exact k2 M2 ((hC1.ref (fun k hk => f2.1 k (by omega) (by omega) (by omega))).mk (show JR M2 (mIt n.toNat w) ln lg it tp (hPa n.toNat w pa na) im ik tr st tl fk (hNa n.toNat na) tn from ⟨h1, s2.c (f2.1 31 (by decide) (by decide) (by decide)) (f2.1 32 (by decide) (by decide) (by decide)) (f2.1 33 (by decide) (by decide) (by decide)), (f2.2 4 (by decide)).trans s3, s4.c (f2.2 6 (by decide)) (f2.2 7 (by decide)) (f2.1 35 (by decide) (by decide) (by decide)), h2, s6.c (f2.1 40 (by decide) (by decide) (by decide)) (f2.1 41 (by decide) (by decide) (by decide)), s7.c (f2.2 21 (by decide)) (f2.1 42 (by decide) (by decide) (by decide))⟩) (⟨(hh_wf n.toNat p1 p4 (by unfold okH at y0; omega)).1, p2, p3, (hh_wf n.toNat p1 p4 (by unfold okH at y0; omega)).2, p5, p6, p7⟩)) ((f2.1 1005 (by decide) (by decide) (by decide)).trans (f1 1005 (by decide) (by decide) (by decide))) ((f2.1 1006 (by decide) (by decide) (by decide)).trans (f1 1006 (by decide) (by decide) (by decide)))
theorem P_stir {b : Int} (hb : zR b) (hJ : JJ M) (kk : PK (d + 7) 167 [some (.inr (.inr 30)), some (.inl (zI b))] M Q) : hm_Wp (d + 7) 92 0 [some (.inr (.inr 0)), some (.inl (zI b))] [] M Q := by
  obtain ⟨w, ln, lg, it, tp, pa, im, ik, tr, st, tl, fk, na, tn, hC, hR, hP⟩ := hJ
  obtain ⟨c1, c2, c3, c4, c5, c6, c7⟩ := id hC
  obtain ⟨r1, r2, r3, r4, r5, r6, r7⟩ := id hR
  obtain ⟨p1, p2, p3, p4, p5, p6, p7⟩ := id hP
  refine c_stir hb c1 p1 c5 p4 (fun n0 => ?_) (fun y0 M1 g1 g2 f1 => ?_)
  · refine kk _ M rfl rfl (fun Q2 k2 => ?_)
    exact r_stir hb r1 p1 r5 p4 (fun _ => k2 M (hC.mk hR hP) rfl rfl) (fun y1 => absurd y1 n0)
  · refine kk _ M1 (f1 1005 (by decide) (by decide) (by decide)) (f1 1006 (by decide) (by decide) (by decide)) (fun Q2 k2 => ?_)
    have hR1 := hR.cls (N := M1) (fun k hk => f1 k (by omega) (by omega) (by omega))
    obtain ⟨s1, s2, s3, s4, s5, s6, s7⟩ := id hR1
    have hC1 : JC M1 (mStir w b) ln lg it tp (paK pa na w) im ik tr st tl fk (naK na) tn := ⟨g1, c2.c (f1 2 (by decide) (by decide) (by decide)) (f1 3 (by decide) (by decide) (by decide)) (f1 4 (by decide) (by decide) (by decide)), by rw [f1 0 (by decide) (by decide) (by decide)]; exact c3, c4.c (f1 5 (by decide) (by decide) (by decide)) (f1 6 (by decide) (by decide) (by decide)), g2, c6.c (f1 19 (by decide) (by decide) (by decide)) (f1 20 (by decide) (by decide) (by decide)), c7.c (f1 28 (by decide) (by decide) (by decide)) (f1 29 (by decide) (by decide) (by decide))⟩
    refine r_stir hb s1 p1 s5 p4 (fun n1 => absurd y0 n1) (fun y1 M2 h1 h2 f2 => ?_)
    exact k2 M2 ((hC1.ref (fun k hk => f2.1 k (by omega) (by omega) (by omega))).mk (show JR M2 (mStir w b) ln lg it tp (paK pa na w) im ik tr st tl fk (naK na) tn from ⟨h1, s2.c (f2.1 31 (by decide) (by decide) (by decide)) (f2.1 32 (by decide) (by decide) (by decide)) (f2.1 33 (by decide) (by decide) (by decide)), (f2.2 4 (by decide)).trans s3, s4.c (f2.2 6 (by decide)) (f2.2 7 (by decide)) (f2.1 35 (by decide) (by decide) (by decide)), h2, s6.c (f2.1 40 (by decide) (by decide) (by decide)) (f2.1 41 (by decide) (by decide) (by decide)), s7.c (f2.2 21 (by decide)) (f2.1 42 (by decide) (by decide) (by decide))⟩) (⟨gW_stir p1 y0.1 y0.2.1, p2, p3, AW_K p4 p1, p5, p6, p7⟩)) ((f2.1 1005 (by decide) (by decide) (by decide)).trans (f1 1005 (by decide) (by decide) (by decide))) ((f2.1 1006 (by decide) (by decide) (by decide)).trans (f1 1006 (by decide) (by decide) (by decide)))
theorem P_on {b y : Int} (hb : zR b) (hy : zR y) (hJ : JJ M) (kk : PK (d + 7) 168 [some (.inr (.inr 30)), some (.inl (zI b)), some (.inl (zI y))] M Q) : hm_Wp (d + 7) 93 0 [some (.inr (.inr 0)), some (.inl (zI b)), some (.inl (zI y)), none] [] M Q := by
  obtain ⟨w, ln, lg, it, tp, pa, im, ik, tr, st, tl, fk, na, tn, hC, hR, hP⟩ := hJ
  obtain ⟨c1, c2, c3, c4, c5, c6, c7⟩ := id hC
  obtain ⟨r1, r2, r3, r4, r5, r6, r7⟩ := id hR
  obtain ⟨p1, p2, p3, p4, p5, p6, p7⟩ := id hP
  refine c_on hb hy c1 p1 c5 p4 (fun n0 => ?_) (fun y0 M1 g1 g2 f1 => ?_)
  · refine kk _ M rfl rfl (fun Q2 k2 => ?_)
    exact r_on hb hy r1 p1 r5 p4 (fun _ => k2 M (hC.mk hR hP) rfl rfl) (fun y1 => absurd y1 n0)
  · refine kk _ M1 (f1 1005 (by decide) (by decide) (by decide)) (f1 1006 (by decide) (by decide) (by decide)) (fun Q2 k2 => ?_)
    have hR1 := hR.cls (N := M1) (fun k hk => f1 k (by omega) (by omega) (by omega))
    obtain ⟨s1, s2, s3, s4, s5, s6, s7⟩ := id hR1
    have hC1 : JC M1 (mOn w b y) ln lg it tp (paK pa na w) im ik tr st tl fk (naK na) tn := ⟨g1, c2.c (f1 2 (by decide) (by decide) (by decide)) (f1 3 (by decide) (by decide) (by decide)) (f1 4 (by decide) (by decide) (by decide)), by rw [f1 0 (by decide) (by decide) (by decide)]; exact c3, c4.c (f1 5 (by decide) (by decide) (by decide)) (f1 6 (by decide) (by decide) (by decide)), g2, c6.c (f1 19 (by decide) (by decide) (by decide)) (f1 20 (by decide) (by decide) (by decide)), c7.c (f1 28 (by decide) (by decide) (by decide)) (f1 29 (by decide) (by decide) (by decide))⟩
    refine r_on hb hy s1 p1 s5 p4 (fun n1 => absurd y0 n1) (fun y1 M2 h1 h2 f2 => ?_)
    exact k2 M2 ((hC1.ref (fun k hk => f2.1 k (by omega) (by omega) (by omega))).mk (show JR M2 (mOn w b y) ln lg it tp (paK pa na w) im ik tr st tl fk (naK na) tn from ⟨h1, s2.c (f2.1 31 (by decide) (by decide) (by decide)) (f2.1 32 (by decide) (by decide) (by decide)) (f2.1 33 (by decide) (by decide) (by decide)), (f2.2 4 (by decide)).trans s3, s4.c (f2.2 6 (by decide)) (f2.2 7 (by decide)) (f2.1 35 (by decide) (by decide) (by decide)), h2, s6.c (f2.1 40 (by decide) (by decide) (by decide)) (f2.1 41 (by decide) (by decide) (by decide)), s7.c (f2.2 21 (by decide)) (f2.1 42 (by decide) (by decide) (by decide))⟩) (⟨gW_on p1 y0.1 y0.2.1 y0.2.2.1 y0.2.2.2.1, p2, p3, AW_K p4 p1, p5, p6, p7⟩)) ((f2.1 1005 (by decide) (by decide) (by decide)).trans (f1 1005 (by decide) (by decide) (by decide))) ((f2.1 1006 (by decide) (by decide) (by decide)).trans (f1 1006 (by decide) (by decide) (by decide)))
theorem P_swap {a b : Int} (ha : zR a) (hb : zR b) (hJ : JJ M) (kk : PK (d + 7) 169 [some (.inr (.inr 30)), some (.inl (zI a)), some (.inl (zI b))] M Q) : hm_Wp (d + 7) 94 0 [some (.inr (.inr 0)), some (.inl (zI a)), some (.inl (zI b))] [] M Q := by
  obtain ⟨w, ln, lg, it, tp, pa, im, ik, tr, st, tl, fk, na, tn, hC, hR, hP⟩ := hJ
  obtain ⟨c1, c2, c3, c4, c5, c6, c7⟩ := id hC
  obtain ⟨r1, r2, r3, r4, r5, r6, r7⟩ := id hR
  obtain ⟨p1, p2, p3, p4, p5, p6, p7⟩ := id hP
  refine c_swap ha hb c1 p1 c5 p4 (fun n0 => ?_) (fun y0 M1 g1 g2 f1 => ?_)
  · refine kk _ M rfl rfl (fun Q2 k2 => ?_)
    exact r_swap ha hb r1 p1 r5 p4 (fun _ => k2 M (hC.mk hR hP) rfl rfl) (fun y1 => absurd y1 n0)
  · refine kk _ M1 (f1 1005 (by decide) (by decide) (by decide)) (f1 1006 (by decide) (by decide) (by decide)) (fun Q2 k2 => ?_)
    have hR1 := hR.cls (N := M1) (fun k hk => f1 k (by omega) (by omega) (by omega))
    obtain ⟨s1, s2, s3, s4, s5, s6, s7⟩ := id hR1
    have hC1 : JC M1 (mSwap w a b) ln lg it tp (paK pa na w) im ik tr st tl fk (naK na) tn := ⟨g1, c2.c (f1 2 (by decide) (by decide) (by decide)) (f1 3 (by decide) (by decide) (by decide)) (f1 4 (by decide) (by decide) (by decide)), by rw [f1 0 (by decide) (by decide) (by decide)]; exact c3, c4.c (f1 5 (by decide) (by decide) (by decide)) (f1 6 (by decide) (by decide) (by decide)), g2, c6.c (f1 19 (by decide) (by decide) (by decide)) (f1 20 (by decide) (by decide) (by decide)), c7.c (f1 28 (by decide) (by decide) (by decide)) (f1 29 (by decide) (by decide) (by decide))⟩
    refine r_swap ha hb s1 p1 s5 p4 (fun n1 => absurd y0 n1) (fun y1 M2 h1 h2 f2 => ?_)
    exact k2 M2 ((hC1.ref (fun k hk => f2.1 k (by omega) (by omega) (by omega))).mk (show JR M2 (mSwap w a b) ln lg it tp (paK pa na w) im ik tr st tl fk (naK na) tn from ⟨h1, s2.c (f2.1 31 (by decide) (by decide) (by decide)) (f2.1 32 (by decide) (by decide) (by decide)) (f2.1 33 (by decide) (by decide) (by decide)), (f2.2 4 (by decide)).trans s3, s4.c (f2.2 6 (by decide)) (f2.2 7 (by decide)) (f2.1 35 (by decide) (by decide) (by decide)), h2, s6.c (f2.1 40 (by decide) (by decide) (by decide)) (f2.1 41 (by decide) (by decide) (by decide)), s7.c (f2.2 21 (by decide)) (f2.1 42 (by decide) (by decide) (by decide))⟩) (⟨gW_swap p1 y0.1 y0.2.1 y0.2.2.1 y0.2.2.2.1, p2, p3, AW_K p4 p1, p5, p6, p7⟩)) ((f2.1 1005 (by decide) (by decide) (by decide)).trans (f1 1005 (by decide) (by decide) (by decide))) ((f2.1 1006 (by decide) (by decide) (by decide)).trans (f1 1006 (by decide) (by decide) (by decide)))
theorem P_plums {b n : Int} (hb : zR b) (hn : zR n) (hJ : JJ M) (kk : PK (d + 7) 170 [some (.inr (.inr 30)), some (.inl (zI b)), some (.inl (zI n)), none] M Q) : hm_Wp (d + 7) 95 0 [some (.inr (.inr 0)), some (.inl (zI b)), some (.inl (zI n))] [] M Q := by
  obtain ⟨w, ln, lg, it, tp, pa, im, ik, tr, st, tl, fk, na, tn, hC, hR, hP⟩ := hJ
  obtain ⟨c1, c2, c3, c4, c5, c6, c7⟩ := id hC
  obtain ⟨r1, r2, r3, r4, r5, r6, r7⟩ := id hR
  obtain ⟨p1, p2, p3, p4, p5, p6, p7⟩ := id hP
  refine c_plums hb hn c1 p1 c5 p4 (fun n0 => ?_) (fun y0 M1 g1 g2 f1 => ?_)
  · refine kk _ M rfl rfl (fun Q2 k2 => ?_)
    exact r_plums hb hn r1 p1 r5 p4 (fun _ => k2 M (hC.mk hR hP) rfl rfl) (fun y1 => absurd y1 n0)
  · refine kk _ M1 (f1 1005 (by decide) (by decide) (by decide)) (f1 1006 (by decide) (by decide) (by decide)) (fun Q2 k2 => ?_)
    have hR1 := hR.cls (N := M1) (fun k hk => f1 k (by omega) (by omega) (by omega))
    obtain ⟨s1, s2, s3, s4, s5, s6, s7⟩ := id hR1
    have hC1 : JC M1 (mPl w b n) ln lg it tp (paK pa na w) im ik tr st tl fk (naK na) tn := ⟨g1, c2.c (f1 2 (by decide) (by decide) (by decide)) (f1 3 (by decide) (by decide) (by decide)) (f1 4 (by decide) (by decide) (by decide)), by rw [f1 0 (by decide) (by decide) (by decide)]; exact c3, c4.c (f1 5 (by decide) (by decide) (by decide)) (f1 6 (by decide) (by decide) (by decide)), g2, c6.c (f1 19 (by decide) (by decide) (by decide)) (f1 20 (by decide) (by decide) (by decide)), c7.c (f1 28 (by decide) (by decide) (by decide)) (f1 29 (by decide) (by decide) (by decide))⟩
    refine r_plums hb hn s1 p1 s5 p4 (fun n1 => absurd y0 n1) (fun y1 M2 h1 h2 f2 => ?_)
    exact k2 M2 ((hC1.ref (fun k hk => f2.1 k (by omega) (by omega) (by omega))).mk (show JR M2 (mPl w b n) ln lg it tp (paK pa na w) im ik tr st tl fk (naK na) tn from ⟨h1, s2.c (f2.1 31 (by decide) (by decide) (by decide)) (f2.1 32 (by decide) (by decide) (by decide)) (f2.1 33 (by decide) (by decide) (by decide)), (f2.2 4 (by decide)).trans s3, s4.c (f2.2 6 (by decide)) (f2.2 7 (by decide)) (f2.1 35 (by decide) (by decide) (by decide)), h2, s6.c (f2.1 40 (by decide) (by decide) (by decide)) (f2.1 41 (by decide) (by decide) (by decide)), s7.c (f2.2 21 (by decide)) (f2.1 42 (by decide) (by decide) (by decide))⟩) (⟨gW_pl p1 y0.1 y0.2.1 y0.2.2.1, p2, p3, AW_K p4 p1, p5, p6, p7⟩)) ((f2.1 1005 (by decide) (by decide) (by decide)).trans (f1 1005 (by decide) (by decide) (by decide))) ((f2.1 1006 (by decide) (by decide) (by decide)).trans (f1 1006 (by decide) (by decide) (by decide)))
theorem P_heat {y : Int} (hy : zR y) (hJ : JJ M) (kk : PK (d + 7) 171 [some (.inr (.inr 30)), some (.inl (zI y)), none] M Q) : hm_Wp (d + 7) 96 0 [some (.inr (.inr 0)), some (.inl (zI y)), none] [] M Q := by
  obtain ⟨w, ln, lg, it, tp, pa, im, ik, tr, st, tl, fk, na, tn, hC, hR, hP⟩ := hJ
  obtain ⟨c1, c2, c3, c4, c5, c6, c7⟩ := id hC
  obtain ⟨r1, r2, r3, r4, r5, r6, r7⟩ := id hR
  obtain ⟨p1, p2, p3, p4, p5, p6, p7⟩ := id hP
  refine c_heat hy c1 p1 c5 p4 (fun n0 => ?_) (fun y0 M1 g1 g2 f1 => ?_)
  · refine kk _ M rfl rfl (fun Q2 k2 => ?_)
    exact r_heat hy r1 p1 r5 p4 (fun _ => k2 M (hC.mk hR hP) rfl rfl) (fun y1 => absurd y1 n0)
  · refine kk _ M1 (f1 1005 (by decide) (by decide) (by decide)) (f1 1006 (by decide) (by decide) (by decide)) (fun Q2 k2 => ?_)
    have hR1 := hR.cls (N := M1) (fun k hk => f1 k (by omega) (by omega) (by omega))
    obtain ⟨s1, s2, s3, s4, s5, s6, s7⟩ := id hR1
    have hC1 : JC M1 (zup w 0 y) ln lg it tp (paK pa na w) im ik tr st tl fk (naK na) tn := ⟨g1, c2.c (f1 2 (by decide) (by decide) (by decide)) (f1 3 (by decide) (by decide) (by decide)) (f1 4 (by decide) (by decide) (by decide)), by rw [f1 0 (by decide) (by decide) (by decide)]; exact c3, c4.c (f1 5 (by decide) (by decide) (by decide)) (f1 6 (by decide) (by decide) (by decide)), g2, c6.c (f1 19 (by decide) (by decide) (by decide)) (f1 20 (by decide) (by decide) (by decide)), c7.c (f1 28 (by decide) (by decide) (by decide)) (f1 29 (by decide) (by decide) (by decide))⟩
    refine r_heat hy s1 p1 s5 p4 (fun n1 => absurd y0 n1) (fun y1 M2 h1 h2 f2 => ?_)
    exact k2 M2 ((hC1.ref (fun k hk => f2.1 k (by omega) (by omega) (by omega))).mk (show JR M2 (zup w 0 y) ln lg it tp (paK pa na w) im ik tr st tl fk (naK na) tn from ⟨h1, s2.c (f2.1 31 (by decide) (by decide) (by decide)) (f2.1 32 (by decide) (by decide) (by decide)) (f2.1 33 (by decide) (by decide) (by decide)), (f2.2 4 (by decide)).trans s3, s4.c (f2.2 6 (by decide)) (f2.2 7 (by decide)) (f2.1 35 (by decide) (by decide) (by decide)), h2, s6.c (f2.1 40 (by decide) (by decide) (by decide)) (f2.1 41 (by decide) (by decide) (by decide)), s7.c (f2.2 21 (by decide)) (f2.1 42 (by decide) (by decide) (by decide))⟩) (⟨gW_ht p1 y0.2.1 y0.2.2, p2, p3, AW_K p4 p1, p5, p6, p7⟩)) ((f2.1 1005 (by decide) (by decide) (by decide)).trans (f1 1005 (by decide) (by decide) (by decide))) ((f2.1 1006 (by decide) (by decide) (by decide)).trans (f1 1006 (by decide) (by decide) (by decide)))
theorem P_undo  (hJ : JJ M) (kk : PK (d + 7) 172 [some (.inr (.inr 30))] M Q) : hm_Wp (d + 7) 97 0 [some (.inr (.inr 0))] [] M Q := by
  obtain ⟨w, ln, lg, it, tp, pa, im, ik, tr, st, tl, fk, na, tn, hC, hR, hP⟩ := hJ
  obtain ⟨c1, c2, c3, c4, c5, c6, c7⟩ := id hC
  obtain ⟨r1, r2, r3, r4, r5, r6, r7⟩ := id hR
  obtain ⟨p1, p2, p3, p4, p5, p6, p7⟩ := id hP
  refine c_undo c5 p4 (fun n0 => ?_) (fun y0 M1 g1 g2 f1 => ?_)
  · refine kk _ M rfl rfl (fun Q2 k2 => ?_)
    exact r_undo r5 p4 (fun _ => k2 M (hC.mk hR hP) rfl rfl) (fun y1 => absurd n0 y1)
  · refine kk _ M1 (f1 1005 (by decide) (by decide) (by decide)) (f1 1006 (by decide) (by decide) (by decide)) (fun Q2 k2 => ?_)
    have hR1 := hR.cls (N := M1) (fun k hk => f1 k (by omega) (by omega) (by omega))
    obtain ⟨s1, s2, s3, s4, s5, s6, s7⟩ := id hR1
    have hC1 : JC M1 (pa (na - 1)) ln lg it tp pa im ik tr st tl fk (na - 1) tn := ⟨g1, c2.c (f1 2 (by decide) (by decide) (by decide)) (f1 3 (by decide) (by decide) (by decide)) (f1 4 (by decide) (by decide) (by decide)), by rw [f1 0 (by decide) (by decide) (by decide)]; exact c3, c4.c (f1 5 (by decide) (by decide) (by decide)) (f1 6 (by decide) (by decide) (by decide)), g2, c6.c (f1 19 (by decide) (by decide) (by decide)) (f1 20 (by decide) (by decide) (by decide)), c7.c (f1 28 (by decide) (by decide) (by decide)) (f1 29 (by decide) (by decide) (by decide))⟩
    refine r_undo s5 p4 (fun n1 => absurd n1 y0) (fun y1 M2 h1 h2 f2 => ?_)
    exact k2 M2 ((hC1.ref (fun k hk => f2.1 k (by omega) (by omega) (by omega))).mk (show JR M2 (pa (na - 1)) ln lg it tp pa im ik tr st tl fk (na - 1) tn from ⟨h1, s2.c (f2.1 31 (by decide) (by decide) (by decide)) (f2.1 32 (by decide) (by decide) (by decide)) (f2.1 33 (by decide) (by decide) (by decide)), (f2.2 4 (by decide)).trans s3, s4.c (f2.2 6 (by decide)) (f2.2 7 (by decide)) (f2.1 35 (by decide) (by decide) (by decide)), h2, s6.c (f2.1 40 (by decide) (by decide) (by decide)) (f2.1 41 (by decide) (by decide) (by decide)), s7.c (f2.2 21 (by decide)) (f2.1 42 (by decide) (by decide) (by decide))⟩) (⟨p4.2.2 (na - 1) (by have := p4.1; omega) (by omega), p2, p3, ⟨by have := p4.1; omega, by have := p4.2.1; omega, fun j j0 j1 => p4.2.2 j j0 (by omega)⟩, p5, p6, p7⟩)) ((f2.1 1005 (by decide) (by decide) (by decide)).trans (f1 1005 (by decide) (by decide) (by decide))) ((f2.1 1006 (by decide) (by decide) (by decide)).trans (f1 1006 (by decide) (by decide) (by decide)))
theorem P_restore {y : Int} (hy : zR y) (hJ : JJ M) (kk : PK (d + 7) 193 [some (.inr (.inr 30)), some (.inl (zI y))] M Q) : hm_Wp (d + 7) 113 0 [some (.inr (.inr 0)), some (.inl (zI y))] [] M Q := by
  obtain ⟨w, ln, lg, it, tp, pa, im, ik, tr, st, tl, fk, na, tn, hC, hR, hP⟩ := hJ
  obtain ⟨c1, c2, c3, c4, c5, c6, c7⟩ := id hC
  obtain ⟨r1, r2, r3, r4, r5, r6, r7⟩ := id hR
  obtain ⟨p1, p2, p3, p4, p5, p6, p7⟩ := id hP
  refine c_restore hy c5 c6 p5 (fun n0 => ?_) (fun y0 M1 g1 g2 f1 => ?_)
  · refine kk _ M rfl rfl (fun Q2 k2 => ?_)
    exact r_restore hy r5 r6 p5 (fun _ => k2 M (hC.mk hR hP) rfl rfl) (fun y1 => absurd y1 n0)
  · refine kk _ M1 (f1 1005 (by decide) (by decide) (by decide)) (f1 1006 (by decide) (by decide) (by decide)) (fun Q2 k2 => ?_)
    have hR1 := hR.cls (N := M1) (fun k hk => f1 k (by omega) (by omega) (by omega))
    obtain ⟨s1, s2, s3, s4, s5, s6, s7⟩ := id hR1
    have hC1 : JC M1 (im y) ln lg it tp pa im ik tr st tl fk 0 tn := ⟨g1, c2.c (f1 2 (by decide) (by decide) (by decide)) (f1 3 (by decide) (by decide) (by decide)) (f1 4 (by decide) (by decide) (by decide)), by rw [f1 0 (by decide) (by decide) (by decide)]; exact c3, c4.c (f1 5 (by decide) (by decide) (by decide)) (f1 6 (by decide) (by decide) (by decide)), g2, c6.c (f1 19 (by decide) (by decide) (by decide)) (f1 20 (by decide) (by decide) (by decide)), c7.c (f1 28 (by decide) (by decide) (by decide)) (f1 29 (by decide) (by decide) (by decide))⟩
    refine r_restore hy s5 s6 p5 (fun n1 => absurd y0 n1) (fun y1 M2 h1 h2 f2 => ?_)
    exact k2 M2 ((hC1.ref (fun k hk => f2.1 k (by omega) (by omega) (by omega))).mk (show JR M2 (im y) ln lg it tp pa im ik tr st tl fk 0 tn from ⟨h1, s2.c (f2.1 31 (by decide) (by decide) (by decide)) (f2.1 32 (by decide) (by decide) (by decide)) (f2.1 33 (by decide) (by decide) (by decide)), (f2.2 4 (by decide)).trans s3, s4.c (f2.2 6 (by decide)) (f2.2 7 (by decide)) (f2.1 35 (by decide) (by decide) (by decide)), h2, s6.c (f2.1 40 (by decide) (by decide) (by decide)) (f2.1 41 (by decide) (by decide) (by decide)), s7.c (f2.2 21 (by decide)) (f2.1 42 (by decide) (by decide) (by decide))⟩) (⟨(p5 y y0.1 y0.2.1).2 y0.2.2, p2, p3, ⟨by decide, by decide, fun j j0 j1 => absurd j1 (by omega)⟩, p5, p6, p7⟩)) ((f2.1 1005 (by decide) (by decide) (by decide)).trans (f1 1005 (by decide) (by decide) (by decide))) ((f2.1 1006 (by decide) (by decide) (by decide)).trans (f1 1006 (by decide) (by decide) (by decide)))
theorem P_image {y : Int} (hy : zR y) (hJ : JJ M) (kk : PK (d + 7) 192 [some (.inr (.inr 30)), some (.inl (zI y))] M Q) : hm_Wp (d + 7) 112 0 [some (.inr (.inr 0)), some (.inl (zI y))] [] M Q := by
  obtain ⟨w, ln, lg, it, tp, pa, im, ik, tr, st, tl, fk, na, tn, hC, hR, hP⟩ := hJ
  obtain ⟨c1, c2, c3, c4, c5, c6, c7⟩ := id hC
  obtain ⟨r1, r2, r3, r4, r5, r6, r7⟩ := id hR
  obtain ⟨p1, p2, p3, p4, p5, p6, p7⟩ := id hP
  refine c_image hy c1 p1 c6 p5 (fun n0 => ?_) (fun y0 M1 g1 f1 => ?_)
  · refine kk _ M rfl rfl (fun Q2 k2 => ?_)
    exact r_image hy r1 p1 r6 (fun _ => k2 M (hC.mk hR hP) rfl rfl) (fun y1 => absurd y1 n0)
  · refine kk _ M1 (f1 1005 (by decide) (by decide)) (f1 1006 (by decide) (by decide)) (fun Q2 k2 => ?_)
    have hR1 := hR.cls (N := M1) (fun k hk => f1 k (by omega) (by omega))
    obtain ⟨s1, s2, s3, s4, s5, s6, s7⟩ := id hR1
    have hC1 : JC M1 w ln lg it tp pa (imK im y w) (zup ik y 1) tr st tl fk na tn := ⟨c1.fr (f1 7 (by decide) (by decide)) (f1 8 (by decide) (by decide)) (f1 9 (by decide) (by decide)) (f1 10 (by decide) (by decide)) (f1 11 (by decide) (by decide)), c2.c (f1 2 (by decide) (by decide)) (f1 3 (by decide) (by decide)) (f1 4 (by decide) (by decide)), by rw [f1 0 (by decide) (by decide)]; exact c3, c4.c (f1 5 (by decide) (by decide)) (f1 6 (by decide) (by decide)), c5.c (f1 17 (by decide) (by decide)) (f1 18 (by decide) (by decide)), g1, c7.c (f1 28 (by decide) (by decide)) (f1 29 (by decide) (by decide))⟩
    refine r_image hy s1 p1 s6 (fun n1 => absurd y0 n1) (fun y1 M2 h1 f2 => ?_)
    exact k2 M2 ((hC1.ref (fun k hk => f2 k (by omega) (by omega))).mk (show JR M2 w ln lg it tp pa (imK im y w) (zup ik y 1) tr st tl fk na tn from ⟨by rw [f2 36 (by decide) (by decide)]; exact s1, s2.c (f2 31 (by decide) (by decide)) (f2 32 (by decide) (by decide)) (f2 33 (by decide) (by decide)), (congrFun (f2 30 (by decide) (by decide)) 4).trans s3, s4.c (congrFun (f2 30 (by decide) (by decide)) 6) (congrFun (f2 30 (by decide) (by decide)) 7) (f2 35 (by decide) (by decide)), s5.c (congrFun (f2 30 (by decide) (by decide)) 17) (f2 39 (by decide) (by decide)), h1, s7.c (congrFun (f2 30 (by decide) (by decide)) 21) (f2 42 (by decide) (by decide))⟩) (⟨p1, p2, p3, p4, IW_K p5 p1, p6, p7⟩)) ((f2 1005 (by decide) (by decide)).trans (f1 1005 (by decide) (by decide))) ((f2 1006 (by decide) (by decide)).trans (f1 1006 (by decide) (by decide)))
theorem P_ask {b y : Int} (hb : zR b) (hy : zR y) (hJ : JJ M) (kk : PK (d + 7) 202 [some (.inr (.inr 30)), some (.inl (zI b)), some (.inl (zI y)), none] M Q) : hm_Wp (d + 7) 116 0 [some (.inr (.inr 0)), some (.inl (zI b)), some (.inl (zI y))] [] M Q := by
  obtain ⟨w, ln, lg, it, tp, pa, im, ik, tr, st, tl, fk, na, tn, hC, hR, hP⟩ := hJ
  obtain ⟨c1, c2, c3, c4, c5, c6, c7⟩ := id hC
  obtain ⟨r1, r2, r3, r4, r5, r6, r7⟩ := id hR
  obtain ⟨p1, p2, p3, p4, p5, p6, p7⟩ := id hP
  refine c_ask hb hy c1 p1.1 (fun n0 => ?_) (fun y0 M1 g1 f1 => ?_)
  · refine kk _ M rfl rfl (fun Q2 k2 => ?_)
    exact r_ask hb hy r1 p1.1 (fun _ => k2 M (hC.mk hR hP) rfl rfl) (fun y1 => absurd y1 n0)
  · refine kk _ M1 (f1 1005 (by decide) (by decide)) (f1 1006 (by decide) (by decide)) (fun Q2 k2 => ?_)
    have hR1 := hR.cls (N := M1) (fun k hk => f1 k (by omega) (by omega))
    obtain ⟨s1, s2, s3, s4, s5, s6, s7⟩ := id hR1
    have hC1 : JC M1 w ln lg it tp pa im ik (tcat (fun _ => 0) 0 (askL (w (4 + 7 * b)) y)) st tl fk na (askN (w (4 + 7 * b)) y) := ⟨c1.fr (f1 7 (by decide) (by decide)) (f1 8 (by decide) (by decide)) (f1 9 (by decide) (by decide)) (f1 10 (by decide) (by decide)) (f1 11 (by decide) (by decide)), c2.c (f1 2 (by decide) (by decide)) (f1 3 (by decide) (by decide)) (f1 4 (by decide) (by decide)), by rw [f1 0 (by decide) (by decide)]; exact c3, c4.c (f1 5 (by decide) (by decide)) (f1 6 (by decide) (by decide)), c5.c (f1 17 (by decide) (by decide)) (f1 18 (by decide) (by decide)), c6.c (f1 19 (by decide) (by decide)) (f1 20 (by decide) (by decide)), g1⟩
    refine r_ask hb hy s1 p1.1 (fun n1 => absurd y0 n1) (fun y1 M2 h1 f2 => ?_)
    exact k2 M2 ((hC1.ref (fun k hk => f2.1 k (by omega) (by omega))).mk (show JR M2 w ln lg it tp pa im ik (tcat (fun _ => 0) 0 (askL (w (4 + 7 * b)) y)) st tl fk na (askN (w (4 + 7 * b)) y) from ⟨by rw [f2.1 36 (by decide) (by decide)]; exact s1, s2.c (f2.1 31 (by decide) (by decide)) (f2.1 32 (by decide) (by decide)) (f2.1 33 (by decide) (by decide)), (f2.2 4 (by decide)).trans s3, s4.c (f2.2 6 (by decide)) (f2.2 7 (by decide)) (f2.1 35 (by decide) (by decide)), s5.c (f2.2 17 (by decide)) (f2.1 39 (by decide) (by decide)), s6.c (f2.1 40 (by decide) (by decide)) (f2.1 41 (by decide) (by decide)), h1⟩) (⟨p1, p2, p3, p4, p5, by unfold askN; (repeat' split) <;> omega, by unfold askN; (repeat' split) <;> omega⟩)) ((f2.1 1005 (by decide) (by decide)).trans (f1 1005 (by decide) (by decide))) ((f2.1 1006 (by decide) (by decide)).trans (f1 1006 (by decide) (by decide)))
theorem P_feed {y : Int} (hy : zR y) (hJ : JJ M) (kk : PK (d + 7) 139 [some (.inr (.inr 30)), some (.inl (zI y))] M Q) : hm_Wp (d + 7) 88 0 [some (.inr (.inr 0)), some (.inl (zI y))] [] M Q := by
  obtain ⟨w, ln, lg, it, tp, pa, im, ik, tr, st, tl, fk, na, tn, hC, hR, hP⟩ := hJ
  obtain ⟨c1, c2, c3, c4, c5, c6, c7⟩ := id hC
  obtain ⟨r1, r2, r3, r4, r5, r6, r7⟩ := id hR
  obtain ⟨p1, p2, p3, p4, p5, p6, p7⟩ := id hP
  refine c_feed hy c4 p3.1 p3.2.1 (fun n0 => ?_) (fun y0 M1 g1 f1 => ?_)
  · refine kk _ M rfl rfl (fun Q2 k2 => ?_)
    exact r_feed hy r4 p3.1 p3.2.1 (fun _ => k2 M (hC.mk hR hP) rfl rfl) (fun y1 => absurd y1 n0)
  · refine kk _ M1 (f1 1005 (by decide) (by decide)) (f1 1006 (by decide) (by decide)) (fun Q2 k2 => ?_)
    have hR1 := hR.cls (N := M1) (fun k hk => f1 k (by omega) (by omega))
    obtain ⟨s1, s2, s3, s4, s5, s6, s7⟩ := id hR1
    have hC1 : JC M1 w ln lg it (zup tp tl y) pa im ik tr st (tl + 1) fk na tn := ⟨c1.fr (f1 7 (by decide) (by decide)) (f1 8 (by decide) (by decide)) (f1 9 (by decide) (by decide)) (f1 10 (by decide) (by decide)) (f1 11 (by decide) (by decide)), c2.c (f1 2 (by decide) (by decide)) (f1 3 (by decide) (by decide)) (f1 4 (by decide) (by decide)), by rw [f1 0 (by decide) (by decide)]; exact c3, g1, c5.c (f1 17 (by decide) (by decide)) (f1 18 (by decide) (by decide)), c6.c (f1 19 (by decide) (by decide)) (f1 20 (by decide) (by decide)), c7.c (f1 28 (by decide) (by decide)) (f1 29 (by decide) (by decide))⟩
    refine r_feed hy s4 p3.1 p3.2.1 (fun n1 => absurd y0 n1) (fun y1 M2 h1 f2 => ?_)
    exact k2 M2 ((hC1.ref (fun k hk => f2.1 k (by omega) (by omega))).mk (show JR M2 w ln lg it (zup tp tl y) pa im ik tr st (tl + 1) fk na tn from ⟨by rw [f2.1 36 (by decide) (by decide)]; exact s1, s2.c (f2.1 31 (by decide) (by decide)) (f2.1 32 (by decide) (by decide)) (f2.1 33 (by decide) (by decide)), (f2.2 4 (by decide)).trans s3, h1, s5.c (f2.2 17 (by decide)) (f2.1 39 (by decide) (by decide)), s6.c (f2.1 40 (by decide) (by decide)) (f2.1 41 (by decide) (by decide)), s7.c (f2.2 21 (by decide)) (f2.1 42 (by decide) (by decide))⟩) (⟨p1, p2, ⟨by have := p3.1; omega, by unfold okF at y0; omega, fun i i0 i1 => by simp only [zup]; split; (· unfold okF at y0; omega); exact p3.2.2 i i0 (by omega)⟩, p4, p5, p6, p7⟩)) ((f2.1 1005 (by decide) (by decide)).trans (f1 1005 (by decide) (by decide))) ((f2.1 1006 (by decide) (by decide)).trans (f1 1006 (by decide) (by decide)))
theorem P_row {ro la n : Int} (hro : zR ro) (hla : zR la) (hn : zR n) (hJ : JJ M) (kk : PK (d + 7) 134 [some (.inr (.inr 30)), some (.inl (zI ro)), some (.inl (zI la)), some (.inl (zI n)), none] M Q) : hm_Wp (d + 7) 84 0 [some (.inr (.inr 0)), some (.inl (zI ro)), some (.inl (zI la)), some (.inl (zI n))] [] M Q := by
  obtain ⟨w, ln, lg, it, tp, pa, im, ik, tr, st, tl, fk, na, tn, hC, hR, hP⟩ := hJ
  obtain ⟨c1, c2, c3, c4, c5, c6, c7⟩ := id hC
  obtain ⟨r1, r2, r3, r4, r5, r6, r7⟩ := id hR
  obtain ⟨p1, p2, p3, p4, p5, p6, p7⟩ := id hP
  refine c_row hro hla hn c3 c2 p2 (fun n0 M1 f1 g0 => ?_) (fun y0 M1 g1 f1 g0 => ?_)
  · refine kk _ M1 (f1 1005 (by decide) (by decide)) (f1 1006 (by decide) (by decide)) (fun Q2 k2 => ?_)
    have hR1 := hR.cls (N := M1) (fun k hk => f1 k (by omega) (by omega))
    obtain ⟨s1, s2, s3, s4, s5, s6, s7⟩ := id hR1
    have hC1 : JC M1 w ln lg it tp pa im ik tr (nSt st (rowC ro la n)) tl fk na tn := ⟨c1.fr (f1 7 (by decide) (by decide)) (f1 8 (by decide) (by decide)) (f1 9 (by decide) (by decide)) (f1 10 (by decide) (by decide)) (f1 11 (by decide) (by decide)), c2.c (f1 2 (by decide) (by decide)) (f1 3 (by decide) (by decide)) (f1 4 (by decide) (by decide)), g0, c4.c (f1 5 (by decide) (by decide)) (f1 6 (by decide) (by decide)), c5.c (f1 17 (by decide) (by decide)) (f1 18 (by decide) (by decide)), c6.c (f1 19 (by decide) (by decide)) (f1 20 (by decide) (by decide)), c7.c (f1 28 (by decide) (by decide)) (f1 29 (by decide) (by decide))⟩
    refine r_row hro hla hn s3 s2 p2 (fun n1 M2 f2 h0 => ?_) (fun y1 => absurd y1 n0)
    exact k2 M2 ((hC1.ref (fun k hk => f2.1 k (by omega) (by omega))).mk (show JR M2 w ln lg it tp pa im ik tr (nSt st (rowC ro la n)) tl fk na tn from ⟨by rw [f2.1 36 (by decide) (by decide)]; exact s1, s2.c (f2.1 31 (by decide) (by decide)) (f2.1 32 (by decide) (by decide)) (f2.1 33 (by decide) (by decide)), h0, s4.c (f2.2 6 (by decide)) (f2.2 7 (by decide)) (f2.1 35 (by decide) (by decide)), s5.c (f2.2 17 (by decide)) (f2.1 39 (by decide) (by decide)), s6.c (f2.1 40 (by decide) (by decide)) (f2.1 41 (by decide) (by decide)), s7.c (f2.2 21 (by decide)) (f2.1 42 (by decide) (by decide))⟩) (hP)) ((f2.1 1005 (by decide) (by decide)).trans (f1 1005 (by decide) (by decide))) ((f2.1 1006 (by decide) (by decide)).trans (f1 1006 (by decide) (by decide)))
  · refine kk _ M1 (f1 1005 (by decide) (by decide) (by decide) (by decide)) (f1 1006 (by decide) (by decide) (by decide) (by decide)) (fun Q2 k2 => ?_)
    have hR1 := hR.cls (N := M1) (fun k hk => f1 k (by omega) (by omega) (by omega) (by omega))
    obtain ⟨s1, s2, s3, s4, s5, s6, s7⟩ := id hR1
    have hC1 : JC M1 w (zup ln ro la) (zup lg ro n) (itZ it ro) tp pa im ik tr 0 tl fk na tn := ⟨c1.fr (f1 7 (by decide) (by decide) (by decide) (by decide)) (f1 8 (by decide) (by decide) (by decide) (by decide)) (f1 9 (by decide) (by decide) (by decide) (by decide)) (f1 10 (by decide) (by decide) (by decide) (by decide)) (f1 11 (by decide) (by decide) (by decide) (by decide)), g1, g0, c4.c (f1 5 (by decide) (by decide) (by decide) (by decide)) (f1 6 (by decide) (by decide) (by decide) (by decide)), c5.c (f1 17 (by decide) (by decide) (by decide) (by decide)) (f1 18 (by decide) (by decide) (by decide) (by decide)), c6.c (f1 19 (by decide) (by decide) (by decide) (by decide)) (f1 20 (by decide) (by decide) (by decide) (by decide)), c7.c (f1 28 (by decide) (by decide) (by decide) (by decide)) (f1 29 (by decide) (by decide) (by decide) (by decide))⟩
    refine r_row hro hla hn s3 s2 p2 (fun n1 => absurd y0 n1) (fun y1 M2 h1 f2 h0 => ?_)
    exact k2 M2 ((hC1.ref (fun k hk => f2.1 k (by omega) (by omega) (by omega) (by omega) (by omega))).mk (show JR M2 w (zup ln ro la) (zup lg ro n) (itZ it ro) tp pa im ik tr 0 tl fk na tn from ⟨by rw [f2.1 36 (by decide) (by decide) (by decide) (by decide) (by decide)]; exact s1, h1, h0, s4.c (f2.2 6 (by decide)) (f2.2 7 (by decide)) (f2.1 35 (by decide) (by decide) (by decide) (by decide) (by decide)), s5.c (f2.2 17 (by decide)) (f2.1 39 (by decide) (by decide) (by decide) (by decide) (by decide)), s6.c (f2.1 40 (by decide) (by decide) (by decide) (by decide) (by decide)) (f2.1 41 (by decide) (by decide) (by decide) (by decide) (by decide)), s7.c (f2.2 21 (by decide)) (f2.1 42 (by decide) (by decide) (by decide) (by decide) (by decide))⟩) (⟨p1, have hq : 0 ≤ ro ∧ ro ≤ 7 ∧ 0 ≤ la ∧ la ≤ 2 ∧ 0 ≤ n ∧ n ≤ 40 := (by unfold rowC at y0; (repeat' split at y0) <;> omega); RW_row p2 hq.1 hq.2.1 hq.2.2.1 hq.2.2.2.1 hq.2.2.2.2.1 hq.2.2.2.2.2, p3, p4, p5, p6, p7⟩)) ((f2.1 1005 (by decide) (by decide) (by decide) (by decide) (by decide)).trans (f1 1005 (by decide) (by decide) (by decide) (by decide))) ((f2.1 1006 (by decide) (by decide) (by decide) (by decide) (by decide)).trans (f1 1006 (by decide) (by decide) (by decide) (by decide)))
theorem P_set {ro i v : Int} (hro : zR ro) (hi : zR i) (hv : zR v) (hJ : JJ M) (kk : PK (d + 7) 135 [some (.inr (.inr 30)), some (.inl (zI ro)), some (.inl (zI i)), some (.inl (zI v))] M Q) : hm_Wp (d + 7) 85 0 [some (.inr (.inr 0)), some (.inl (zI ro)), some (.inl (zI i)), some (.inl (zI v))] [] M Q := by
  obtain ⟨w, ln, lg, it, tp, pa, im, ik, tr, st, tl, fk, na, tn, hC, hR, hP⟩ := hJ
  obtain ⟨c1, c2, c3, c4, c5, c6, c7⟩ := id hC
  obtain ⟨r1, r2, r3, r4, r5, r6, r7⟩ := id hR
  obtain ⟨p1, p2, p3, p4, p5, p6, p7⟩ := id hP
  refine c_set hro hi hv c3 c2 p2 (fun n0 M1 f1 g0 => ?_) (fun y0 M1 g1 f1 g0 => ?_)
  · refine kk _ M1 (f1 1005 (by decide) (by decide)) (f1 1006 (by decide) (by decide)) (fun Q2 k2 => ?_)
    have hR1 := hR.cls (N := M1) (fun k hk => f1 k (by omega) (by omega))
    obtain ⟨s1, s2, s3, s4, s5, s6, s7⟩ := id hR1
    have hC1 : JC M1 w ln lg it tp pa im ik tr (nSt st (setC ln lg ro i)) tl fk na tn := ⟨c1.fr (f1 7 (by decide) (by decide)) (f1 8 (by decide) (by decide)) (f1 9 (by decide) (by decide)) (f1 10 (by decide) (by decide)) (f1 11 (by decide) (by decide)), c2.c (f1 2 (by decide) (by decide)) (f1 3 (by decide) (by decide)) (f1 4 (by decide) (by decide)), g0, c4.c (f1 5 (by decide) (by decide)) (f1 6 (by decide) (by decide)), c5.c (f1 17 (by decide) (by decide)) (f1 18 (by decide) (by decide)), c6.c (f1 19 (by decide) (by decide)) (f1 20 (by decide) (by decide)), c7.c (f1 28 (by decide) (by decide)) (f1 29 (by decide) (by decide))⟩
    refine r_set hro hi hv s3 s2 p2 (fun n1 M2 f2 h0 => ?_) (fun y1 => absurd y1 n0)
    exact k2 M2 ((hC1.ref (fun k hk => f2.1 k (by omega) (by omega))).mk (show JR M2 w ln lg it tp pa im ik tr (nSt st (setC ln lg ro i)) tl fk na tn from ⟨by rw [f2.1 36 (by decide) (by decide)]; exact s1, s2.c (f2.1 31 (by decide) (by decide)) (f2.1 32 (by decide) (by decide)) (f2.1 33 (by decide) (by decide)), h0, s4.c (f2.2 6 (by decide)) (f2.2 7 (by decide)) (f2.1 35 (by decide) (by decide)), s5.c (f2.2 17 (by decide)) (f2.1 39 (by decide) (by decide)), s6.c (f2.1 40 (by decide) (by decide)) (f2.1 41 (by decide) (by decide)), s7.c (f2.2 21 (by decide)) (f2.1 42 (by decide) (by decide))⟩) (hP)) ((f2.1 1005 (by decide) (by decide)).trans (f1 1005 (by decide) (by decide))) ((f2.1 1006 (by decide) (by decide)).trans (f1 1006 (by decide) (by decide)))
  · refine kk _ M1 (f1 1005 (by decide) (by decide) (by decide) (by decide)) (f1 1006 (by decide) (by decide) (by decide) (by decide)) (fun Q2 k2 => ?_)
    have hR1 := hR.cls (N := M1) (fun k hk => f1 k (by omega) (by omega) (by omega) (by omega))
    obtain ⟨s1, s2, s3, s4, s5, s6, s7⟩ := id hR1
    have hC1 : JC M1 w ln lg (zup it (40 * ro + i) (cutV (ln ro) v)) tp pa im ik tr 0 tl fk na tn := ⟨c1.fr (f1 7 (by decide) (by decide) (by decide) (by decide)) (f1 8 (by decide) (by decide) (by decide) (by decide)) (f1 9 (by decide) (by decide) (by decide) (by decide)) (f1 10 (by decide) (by decide) (by decide) (by decide)) (f1 11 (by decide) (by decide) (by decide) (by decide)), g1, g0, c4.c (f1 5 (by decide) (by decide) (by decide) (by decide)) (f1 6 (by decide) (by decide) (by decide) (by decide)), c5.c (f1 17 (by decide) (by decide) (by decide) (by decide)) (f1 18 (by decide) (by decide) (by decide) (by decide)), c6.c (f1 19 (by decide) (by decide) (by decide) (by decide)) (f1 20 (by decide) (by decide) (by decide) (by decide)), c7.c (f1 28 (by decide) (by decide) (by decide) (by decide)) (f1 29 (by decide) (by decide) (by decide) (by decide))⟩
    refine r_set hro hi hv s3 s2 p2 (fun n1 => absurd y0 n1) (fun y1 M2 h1 f2 h0 => ?_)
    exact k2 M2 ((hC1.ref (fun k hk => f2.1 k (by omega) (by omega) (by omega) (by omega) (by omega))).mk (show JR M2 w ln lg (zup it (40 * ro + i) (cutV (ln ro) v)) tp pa im ik tr 0 tl fk na tn from ⟨by rw [f2.1 36 (by decide) (by decide) (by decide) (by decide) (by decide)]; exact s1, h1, h0, s4.c (f2.2 6 (by decide)) (f2.2 7 (by decide)) (f2.1 35 (by decide) (by decide) (by decide) (by decide) (by decide)), s5.c (f2.2 17 (by decide)) (f2.1 39 (by decide) (by decide) (by decide) (by decide) (by decide)), s6.c (f2.1 40 (by decide) (by decide) (by decide) (by decide) (by decide)) (f2.1 41 (by decide) (by decide) (by decide) (by decide) (by decide)), s7.c (f2.2 21 (by decide)) (f2.1 42 (by decide) (by decide) (by decide) (by decide) (by decide))⟩) (⟨p1, RW_set p2 (cutV_R hv), p3, p4, p5, p6, p7⟩)) ((f2.1 1005 (by decide) (by decide) (by decide) (by decide) (by decide)).trans (f1 1005 (by decide) (by decide) (by decide) (by decide))) ((f2.1 1006 (by decide) (by decide) (by decide) (by decide) (by decide)).trans (f1 1006 (by decide) (by decide) (by decide) (by decide)))
theorem P_drop {ro : Int} (hro : zR ro) (hJ : JJ M) (kk : PK (d + 7) 138 [some (.inr (.inr 30)), some (.inl (zI ro))] M Q) : hm_Wp (d + 7) 87 0 [some (.inr (.inr 0)), some (.inl (zI ro))] [] M Q := by
  obtain ⟨w, ln, lg, it, tp, pa, im, ik, tr, st, tl, fk, na, tn, hC, hR, hP⟩ := hJ
  obtain ⟨c1, c2, c3, c4, c5, c6, c7⟩ := id hC
  obtain ⟨r1, r2, r3, r4, r5, r6, r7⟩ := id hR
  obtain ⟨p1, p2, p3, p4, p5, p6, p7⟩ := id hP
  refine c_drop hro c3 c2 p2 (fun n0 M1 f1 g0 => ?_) (fun y0 M1 g1 f1 g0 => ?_)
  · refine kk _ M1 (f1 1005 (by decide) (by decide)) (f1 1006 (by decide) (by decide)) (fun Q2 k2 => ?_)
    have hR1 := hR.cls (N := M1) (fun k hk => f1 k (by omega) (by omega))
    obtain ⟨s1, s2, s3, s4, s5, s6, s7⟩ := id hR1
    have hC1 : JC M1 w ln lg it tp pa im ik tr (nSt st (dropC ln ro)) tl fk na tn := ⟨c1.fr (f1 7 (by decide) (by decide)) (f1 8 (by decide) (by decide)) (f1 9 (by decide) (by decide)) (f1 10 (by decide) (by decide)) (f1 11 (by decide) (by decide)), c2.c (f1 2 (by decide) (by decide)) (f1 3 (by decide) (by decide)) (f1 4 (by decide) (by decide)), g0, c4.c (f1 5 (by decide) (by decide)) (f1 6 (by decide) (by decide)), c5.c (f1 17 (by decide) (by decide)) (f1 18 (by decide) (by decide)), c6.c (f1 19 (by decide) (by decide)) (f1 20 (by decide) (by decide)), c7.c (f1 28 (by decide) (by decide)) (f1 29 (by decide) (by decide))⟩
    refine r_drop hro s3 s2 p2 (fun n1 M2 f2 h0 => ?_) (fun y1 => absurd y1 n0)
    exact k2 M2 ((hC1.ref (fun k hk => f2.1 k (by omega) (by omega))).mk (show JR M2 w ln lg it tp pa im ik tr (nSt st (dropC ln ro)) tl fk na tn from ⟨by rw [f2.1 36 (by decide) (by decide)]; exact s1, s2.c (f2.1 31 (by decide) (by decide)) (f2.1 32 (by decide) (by decide)) (f2.1 33 (by decide) (by decide)), h0, s4.c (f2.2 6 (by decide)) (f2.2 7 (by decide)) (f2.1 35 (by decide) (by decide)), s5.c (f2.2 17 (by decide)) (f2.1 39 (by decide) (by decide)), s6.c (f2.1 40 (by decide) (by decide)) (f2.1 41 (by decide) (by decide)), s7.c (f2.2 21 (by decide)) (f2.1 42 (by decide) (by decide))⟩) (hP)) ((f2.1 1005 (by decide) (by decide)).trans (f1 1005 (by decide) (by decide))) ((f2.1 1006 (by decide) (by decide)).trans (f1 1006 (by decide) (by decide)))
  · refine kk _ M1 (f1 1005 (by decide) (by decide) (by decide) (by decide)) (f1 1006 (by decide) (by decide) (by decide) (by decide)) (fun Q2 k2 => ?_)
    have hR1 := hR.cls (N := M1) (fun k hk => f1 k (by omega) (by omega) (by omega) (by omega))
    obtain ⟨s1, s2, s3, s4, s5, s6, s7⟩ := id hR1
    have hC1 : JC M1 w (zup ln ro (-1000000)) lg it tp pa im ik tr 0 tl fk na tn := ⟨c1.fr (f1 7 (by decide) (by decide) (by decide) (by decide)) (f1 8 (by decide) (by decide) (by decide) (by decide)) (f1 9 (by decide) (by decide) (by decide) (by decide)) (f1 10 (by decide) (by decide) (by decide) (by decide)) (f1 11 (by decide) (by decide) (by decide) (by decide)), g1, g0, c4.c (f1 5 (by decide) (by decide) (by decide) (by decide)) (f1 6 (by decide) (by decide) (by decide) (by decide)), c5.c (f1 17 (by decide) (by decide) (by decide) (by decide)) (f1 18 (by decide) (by decide) (by decide) (by decide)), c6.c (f1 19 (by decide) (by decide) (by decide) (by decide)) (f1 20 (by decide) (by decide) (by decide) (by decide)), c7.c (f1 28 (by decide) (by decide) (by decide) (by decide)) (f1 29 (by decide) (by decide) (by decide) (by decide))⟩
    refine r_drop hro s3 s2 p2 (fun n1 => absurd y0 n1) (fun y1 M2 h1 f2 h0 => ?_)
    exact k2 M2 ((hC1.ref (fun k hk => f2.1 k (by omega) (by omega) (by omega) (by omega) (by omega))).mk (show JR M2 w (zup ln ro (-1000000)) lg it tp pa im ik tr 0 tl fk na tn from ⟨by rw [f2.1 36 (by decide) (by decide) (by decide) (by decide) (by decide)]; exact s1, h1, h0, s4.c (f2.2 6 (by decide)) (f2.2 7 (by decide)) (f2.1 35 (by decide) (by decide) (by decide) (by decide) (by decide)), s5.c (f2.2 17 (by decide)) (f2.1 39 (by decide) (by decide) (by decide) (by decide) (by decide)), s6.c (f2.1 40 (by decide) (by decide) (by decide) (by decide) (by decide)) (f2.1 41 (by decide) (by decide) (by decide) (by decide) (by decide)), s7.c (f2.2 21 (by decide)) (f2.1 42 (by decide) (by decide) (by decide) (by decide) (by decide))⟩) (⟨p1, RW_drop p2, p3, p4, p5, p6, p7⟩)) ((f2.1 1005 (by decide) (by decide) (by decide) (by decide) (by decide)).trans (f1 1005 (by decide) (by decide) (by decide) (by decide))) ((f2.1 1006 (by decide) (by decide) (by decide) (by decide) (by decide)).trans (f1 1006 (by decide) (by decide) (by decide) (by decide)))
theorem P_copy {a i b j n : Int} (ha : zR a) (hi : zR i) (hb : zR b) (hj : zR j) (hn : zR n) (hJ : JJ M) (kk : PK (d + 7) 137 [some (.inr (.inr 30)), some (.inl (zI a)), some (.inl (zI i)), some (.inl (zI b)), some (.inl (zI j)), some (.inl (zI n)), none] M Q) : hm_Wp (d + 7) 86 0 [some (.inr (.inr 0)), some (.inl (zI a)), some (.inl (zI i)), some (.inl (zI b)), some (.inl (zI j)), some (.inl (zI n))] [] M Q := by
  obtain ⟨w, ln, lg, it, tp, pa, im, ik, tr, st, tl, fk, na, tn, hC, hR, hP⟩ := hJ
  obtain ⟨c1, c2, c3, c4, c5, c6, c7⟩ := id hC
  obtain ⟨r1, r2, r3, r4, r5, r6, r7⟩ := id hR
  obtain ⟨p1, p2, p3, p4, p5, p6, p7⟩ := id hP
  refine c_copy ha hi hb hj hn c3 c2 p2 (fun n0 M1 f1 g0 => ?_) (fun y0 M1 g1 f1 g0 => ?_)
  · refine kk _ M1 (f1 1005 (by decide) (by decide)) (f1 1006 (by decide) (by decide)) (fun Q2 k2 => ?_)
    have hR1 := hR.cls (N := M1) (fun k hk => f1 k (by omega) (by omega))
    obtain ⟨s1, s2, s3, s4, s5, s6, s7⟩ := id hR1
    have hC1 : JC M1 w ln lg it tp pa im ik tr (nSt st (copyC ln lg a i b j n)) tl fk na tn := ⟨c1.fr (f1 7 (by decide) (by decide)) (f1 8 (by decide) (by decide)) (f1 9 (by decide) (by decide)) (f1 10 (by decide) (by decide)) (f1 11 (by decide) (by decide)), c2.c (f1 2 (by decide) (by decide)) (f1 3 (by decide) (by decide)) (f1 4 (by decide) (by decide)), g0, c4.c (f1 5 (by decide) (by decide)) (f1 6 (by decide) (by decide)), c5.c (f1 17 (by decide) (by decide)) (f1 18 (by decide) (by decide)), c6.c (f1 19 (by decide) (by decide)) (f1 20 (by decide) (by decide)), c7.c (f1 28 (by decide) (by decide)) (f1 29 (by decide) (by decide))⟩
    refine r_copy ha hi hb hj hn s3 s2 p2 (fun n1 M2 f2 h0 => ?_) (fun y1 => absurd y1 n0)
    exact k2 M2 ((hC1.ref (fun k hk => f2.1 k (by omega) (by omega))).mk (show JR M2 w ln lg it tp pa im ik tr (nSt st (copyC ln lg a i b j n)) tl fk na tn from ⟨by rw [f2.1 36 (by decide) (by decide)]; exact s1, s2.c (f2.1 31 (by decide) (by decide)) (f2.1 32 (by decide) (by decide)) (f2.1 33 (by decide) (by decide)), h0, s4.c (f2.2 6 (by decide)) (f2.2 7 (by decide)) (f2.1 35 (by decide) (by decide)), s5.c (f2.2 17 (by decide)) (f2.1 39 (by decide) (by decide)), s6.c (f2.1 40 (by decide) (by decide)) (f2.1 41 (by decide) (by decide)), s7.c (f2.2 21 (by decide)) (f2.1 42 (by decide) (by decide))⟩) (hP)) ((f2.1 1005 (by decide) (by decide)).trans (f1 1005 (by decide) (by decide))) ((f2.1 1006 (by decide) (by decide)).trans (f1 1006 (by decide) (by decide)))
  · refine kk _ M1 (f1 1005 (by decide) (by decide) (by decide) (by decide)) (f1 1006 (by decide) (by decide) (by decide) (by decide)) (fun Q2 k2 => ?_)
    have hR1 := hR.cls (N := M1) (fun k hk => f1 k (by omega) (by omega) (by omega) (by omega))
    obtain ⟨s1, s2, s3, s4, s5, s6, s7⟩ := id hR1
    have hC1 : JC M1 w ln lg (itC it a i b j n) tp pa im ik tr 0 tl fk na tn := ⟨c1.fr (f1 7 (by decide) (by decide) (by decide) (by decide)) (f1 8 (by decide) (by decide) (by decide) (by decide)) (f1 9 (by decide) (by decide) (by decide) (by decide)) (f1 10 (by decide) (by decide) (by decide) (by decide)) (f1 11 (by decide) (by decide) (by decide) (by decide)), g1, g0, c4.c (f1 5 (by decide) (by decide) (by decide) (by decide)) (f1 6 (by decide) (by decide) (by decide) (by decide)), c5.c (f1 17 (by decide) (by decide) (by decide) (by decide)) (f1 18 (by decide) (by decide) (by decide) (by decide)), c6.c (f1 19 (by decide) (by decide) (by decide) (by decide)) (f1 20 (by decide) (by decide) (by decide) (by decide)), c7.c (f1 28 (by decide) (by decide) (by decide) (by decide)) (f1 29 (by decide) (by decide) (by decide) (by decide))⟩
    refine r_copy ha hi hb hj hn s3 s2 p2 (fun n1 => absurd y0 n1) (fun y1 M2 h1 f2 h0 => ?_)
    exact k2 M2 ((hC1.ref (fun k hk => f2.1 k (by omega) (by omega) (by omega) (by omega) (by omega))).mk (show JR M2 w ln lg (itC it a i b j n) tp pa im ik tr 0 tl fk na tn from ⟨by rw [f2.1 36 (by decide) (by decide) (by decide) (by decide) (by decide)]; exact s1, h1, h0, s4.c (f2.2 6 (by decide)) (f2.2 7 (by decide)) (f2.1 35 (by decide) (by decide) (by decide) (by decide) (by decide)), s5.c (f2.2 17 (by decide)) (f2.1 39 (by decide) (by decide) (by decide) (by decide) (by decide)), s6.c (f2.1 40 (by decide) (by decide) (by decide) (by decide) (by decide)) (f2.1 41 (by decide) (by decide) (by decide) (by decide) (by decide)), s7.c (f2.2 21 (by decide)) (f2.1 42 (by decide) (by decide) (by decide) (by decide) (by decide))⟩) (⟨p1, RW_copy p2, p3, p4, p5, p6, p7⟩)) ((f2.1 1005 (by decide) (by decide) (by decide) (by decide) (by decide)).trans (f1 1005 (by decide) (by decide) (by decide) (by decide))) ((f2.1 1006 (by decide) (by decide) (by decide) (by decide) (by decide)).trans (f1 1006 (by decide) (by decide) (by decide) (by decide)))
theorem P_fits {b ro i n y : Int} (hb : zR b) (hro : zR ro) (hi : zR i) (hn : zR n) (hy : zR y) (hJ : JJ M) (kk : PK (d + 7) 189 [some (.inr (.inr 30)), some (.inl (zI b)), some (.inl (zI ro)), some (.inl (zI i)), some (.inl (zI n)), some (.inl (zI y)), none, none, none, none, none, none, none] M Q) : hm_Wp (d + 7) 109 0 [some (.inr (.inr 0)), some (.inl (zI b)), some (.inl (zI ro)), some (.inl (zI i)), some (.inl (zI n)), some (.inl (zI y)), none] [] M Q := by
  obtain ⟨w, ln, lg, it, tp, pa, im, ik, tr, st, tl, fk, na, tn, hC, hR, hP⟩ := hJ
  obtain ⟨c1, c2, c3, c4, c5, c6, c7⟩ := id hC
  obtain ⟨r1, r2, r3, r4, r5, r6, r7⟩ := id hR
  obtain ⟨p1, p2, p3, p4, p5, p6, p7⟩ := id hP
  refine c_fits hb hro hi hn hy c3 c2 p2 c1 p1.1 p1.2.2 (fun M1 f1 g0 => ?_)
  refine kk _ M1 (f1 1005 (by decide) (by decide)) (f1 1006 (by decide) (by decide)) (fun Q2 k2 => ?_)
  have hR1 := hR.cls (N := M1) (fun k hk => f1 k (by omega) (by omega))
  obtain ⟨s1, s2, s3, s4, s5, s6, s7⟩ := id hR1
  have hC1 : JC M1 w ln lg it tp pa im ik tr (nSt st (fitC w ln lg b ro i n y)) tl fk na tn := ⟨c1.fr (f1 7 (by decide) (by decide)) (f1 8 (by decide) (by decide)) (f1 9 (by decide) (by decide)) (f1 10 (by decide) (by decide)) (f1 11 (by decide) (by decide)), c2.c (f1 2 (by decide) (by decide)) (f1 3 (by decide) (by decide)) (f1 4 (by decide) (by decide)), g0, c4.c (f1 5 (by decide) (by decide)) (f1 6 (by decide) (by decide)), c5.c (f1 17 (by decide) (by decide)) (f1 18 (by decide) (by decide)), c6.c (f1 19 (by decide) (by decide)) (f1 20 (by decide) (by decide)), c7.c (f1 28 (by decide) (by decide)) (f1 29 (by decide) (by decide))⟩
  refine r_fits hb hro hi hn hy s3 s2 p2 s1 p1.1 p1.2.2 (fun M2 f2 h0 => ?_)
  exact k2 M2 ((hC1.ref (fun k hk => f2.1 k (by omega) (by omega))).mk (show JR M2 w ln lg it tp pa im ik tr (nSt st (fitC w ln lg b ro i n y)) tl fk na tn from ⟨by rw [f2.1 36 (by decide) (by decide)]; exact s1, s2.c (f2.1 31 (by decide) (by decide)) (f2.1 32 (by decide) (by decide)) (f2.1 33 (by decide) (by decide)), h0, s4.c (f2.2 6 (by decide)) (f2.2 7 (by decide)) (f2.1 35 (by decide) (by decide)), s5.c (f2.2 17 (by decide)) (f2.1 39 (by decide) (by decide)), s6.c (f2.1 40 (by decide) (by decide)) (f2.1 41 (by decide) (by decide)), s7.c (f2.2 21 (by decide)) (f2.1 42 (by decide) (by decide))⟩) hP) ((f2.1 1005 (by decide) (by decide)).trans (f1 1005 (by decide) (by decide))) ((f2.1 1006 (by decide) (by decide)).trans (f1 1006 (by decide) (by decide)))
theorem P_as {b y : Int} (hb : zR b) (hy : zR y) (hJ : JJ M) (kk : PK (d + 7) 196 [some (.inr (.inr 30)), some (.inl (zI b)), some (.inl (zI y)), none, none] M Q) : hm_Wp (d + 7) 115 0 [some (.inr (.inr 0)), some (.inl (zI b)), some (.inl (zI y))] [] M Q := by
  obtain ⟨w, ln, lg, it, tp, pa, im, ik, tr, st, tl, fk, na, tn, hC, hR, hP⟩ := hJ
  obtain ⟨c1, c2, c3, c4, c5, c6, c7⟩ := id hC
  obtain ⟨r1, r2, r3, r4, r5, r6, r7⟩ := id hR
  obtain ⟨p1, p2, p3, p4, p5, p6, p7⟩ := id hP
  refine c_as hb hy c3 c1 p1.1 (fun M1 f1 g0 => ?_)
  refine kk _ M1 (f1 1005 (by decide) (by decide)) (f1 1006 (by decide) (by decide)) (fun Q2 k2 => ?_)
  have hR1 := hR.cls (N := M1) (fun k hk => f1 k (by omega) (by omega))
  obtain ⟨s1, s2, s3, s4, s5, s6, s7⟩ := id hR1
  have hC1 : JC M1 w ln lg it tp pa im ik tr (nSt st (asC w b y)) tl fk na tn := ⟨c1.fr (f1 7 (by decide) (by decide)) (f1 8 (by decide) (by decide)) (f1 9 (by decide) (by decide)) (f1 10 (by decide) (by decide)) (f1 11 (by decide) (by decide)), c2.c (f1 2 (by decide) (by decide)) (f1 3 (by decide) (by decide)) (f1 4 (by decide) (by decide)), g0, c4.c (f1 5 (by decide) (by decide)) (f1 6 (by decide) (by decide)), c5.c (f1 17 (by decide) (by decide)) (f1 18 (by decide) (by decide)), c6.c (f1 19 (by decide) (by decide)) (f1 20 (by decide) (by decide)), c7.c (f1 28 (by decide) (by decide)) (f1 29 (by decide) (by decide))⟩
  refine r_as hb hy s3 s1 p1.1 (fun M2 f2 h0 => ?_)
  exact k2 M2 ((hC1.ref (fun k hk => f2.1 k (by omega) (by omega))).mk (show JR M2 w ln lg it tp pa im ik tr (nSt st (asC w b y)) tl fk na tn from ⟨by rw [f2.1 36 (by decide) (by decide)]; exact s1, s2.c (f2.1 31 (by decide) (by decide)) (f2.1 32 (by decide) (by decide)) (f2.1 33 (by decide) (by decide)), h0, s4.c (f2.2 6 (by decide)) (f2.2 7 (by decide)) (f2.1 35 (by decide) (by decide)), s5.c (f2.2 17 (by decide)) (f2.1 39 (by decide) (by decide)), s6.c (f2.1 40 (by decide) (by decide)) (f2.1 41 (by decide) (by decide)), s7.c (f2.2 21 (by decide)) (f2.1 42 (by decide) (by decide))⟩) hP) ((f2.1 1005 (by decide) (by decide)).trans (f1 1005 (by decide) (by decide))) ((f2.1 1006 (by decide) (by decide)).trans (f1 1006 (by decide) (by decide)))
theorem P_hob  (hJ : JJ M) (kk : PK (d + 7) 149 [some (.inr (.inr 30)), none] M Q) : hm_Wp (d + 7) 89 0 [some (.inr (.inr 0))] [] M Q := by
  obtain ⟨w, ln, lg, it, tp, pa, im, ik, tr, st, tl, fk, na, tn, hC, hR, hP⟩ := hJ
  obtain ⟨c1, c2, c3, c4, c5, c6, c7⟩ := id hC
  obtain ⟨r1, r2, r3, r4, r5, r6, r7⟩ := id hR
  obtain ⟨p1, p2, p3, p4, p5, p6, p7⟩ := id hP
  have rg := gH_R p3
  rcases e : gH tp tl with ⟨zc, zp, zw⟩
  rw [e] at rg
  dsimp only at rg
  refine c_hob p3 c4 c5 e (fun n0 M1 g1 f1 => ?_) (fun y0 M1 g1 g2 g3 f1 => ?_)
  · refine kk _ M1 (f1 1005 (by decide) (by decide)) (f1 1006 (by decide) (by decide)) (fun Q2 k2 => ?_)
    have hR1 := hR.cls (N := M1) (fun k hk => f1 k (by omega) (by omega))
    obtain ⟨s1, s2, s3, s4, s5, s6, s7⟩ := id hR1
    have hC1 : JC M1 w ln lg it tp pa im ik tr st 0 zc na tn := ⟨c1.fr (f1 7 (by decide) (by decide)) (f1 8 (by decide) (by decide)) (f1 9 (by decide) (by decide)) (f1 10 (by decide) (by decide)) (f1 11 (by decide) (by decide)), c2.c (f1 2 (by decide) (by decide)) (f1 3 (by decide) (by decide)) (f1 4 (by decide) (by decide)), by rw [f1 0 (by decide) (by decide)]; exact c3, g1, c5.c (f1 17 (by decide) (by decide)) (f1 18 (by decide) (by decide)), c6.c (f1 19 (by decide) (by decide)) (f1 20 (by decide) (by decide)), c7.c (f1 28 (by decide) (by decide)) (f1 29 (by decide) (by decide))⟩
    refine r_hob (pa := pa) p3 s4 e (fun n1 M2 h1 f2 => ?_) (fun y1 => absurd y1 n0)
    exact k2 M2 ((hC1.ref (fun k hk => f2.1 k (by omega) (by omega))).mk (show JR M2 w ln lg it tp pa im ik tr st 0 zc na tn from ⟨by rw [f2.1 36 (by decide) (by decide)]; exact s1, s2.c (f2.1 31 (by decide) (by decide)) (f2.1 32 (by decide) (by decide)) (f2.1 33 (by decide) (by decide)), (f2.2 4 (by decide)).trans s3, h1, s5.c (f2.2 17 (by decide)) (f2.1 39 (by decide) (by decide)), s6.c (f2.1 40 (by decide) (by decide)) (f2.1 41 (by decide) (by decide)), s7.c (f2.2 21 (by decide)) (f2.1 42 (by decide) (by decide))⟩) (⟨p1, p2, ⟨by decide, by decide, fun i i0 i1 => absurd i1 (by omega)⟩, p4, p5, p6, p7⟩)) ((f2.1 1005 (by decide) (by decide)).trans (f1 1005 (by decide) (by decide))) ((f2.1 1006 (by decide) (by decide)).trans (f1 1006 (by decide) (by decide)))
  · refine kk _ M1 (f1 1005 (by decide) (by decide) (by decide)) (f1 1006 (by decide) (by decide) (by decide)) (fun Q2 k2 => ?_)
    have hR1 := hR.cls (N := M1) (fun k hk => f1 k (by omega) (by omega) (by omega))
    obtain ⟨s1, s2, s3, s4, s5, s6, s7⟩ := id hR1
    have hC1 : JC M1 zw ln lg it tp pa im ik tr st 0 fk 0 tn := ⟨g2, c2.c (f1 2 (by decide) (by decide) (by decide)) (f1 3 (by decide) (by decide) (by decide)) (f1 4 (by decide) (by decide) (by decide)), by rw [f1 0 (by decide) (by decide) (by decide)]; exact c3, g1, g3, c6.c (f1 19 (by decide) (by decide) (by decide)) (f1 20 (by decide) (by decide) (by decide)), c7.c (f1 28 (by decide) (by decide) (by decide)) (f1 29 (by decide) (by decide) (by decide))⟩
    refine r_hob (pa := pa) p3 s4 e (fun n1 => absurd y0 n1) (fun y1 M2 h1 h2 h3 f2 => ?_)
    exact k2 M2 ((hC1.ref (fun k hk => f2.1 k (by omega) (by omega) (by omega))).mk (show JR M2 zw ln lg it tp pa im ik tr st 0 fk 0 tn from ⟨h2, s2.c (f2.1 31 (by decide) (by decide) (by decide)) (f2.1 32 (by decide) (by decide) (by decide)) (f2.1 33 (by decide) (by decide) (by decide)), (f2.2 4 (by decide) (by decide)).trans s3, h1, h3, s6.c (f2.1 40 (by decide) (by decide) (by decide)) (f2.1 41 (by decide) (by decide) (by decide)), s7.c (f2.2 21 (by decide) (by decide)) (f2.1 42 (by decide) (by decide) (by decide))⟩) (⟨⟨rg.2.2.2.2.1.wf, by have := rg.2.2.2.2.2 y0; omega, by have := rg.2.2.2.2.1.2.2.2.1; omega⟩, p2, ⟨by decide, by decide, fun i i0 i1 => absurd i1 (by omega)⟩, ⟨by decide, by decide, fun j j0 j1 => absurd j1 (by omega)⟩, p5, p6, p7⟩)) ((f2.1 1005 (by decide) (by decide) (by decide)).trans (f1 1005 (by decide) (by decide) (by decide))) ((f2.1 1006 (by decide) (by decide) (by decide)).trans (f1 1006 (by decide) (by decide) (by decide)))
end J1
