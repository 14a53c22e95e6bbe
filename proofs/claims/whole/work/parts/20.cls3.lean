def mExB (w g : Int → Int) (e p : Int) : Prop := ∃ c : Int, 0 ≤ c ∧ c < e ∧ w (4 + 7 * c + 3) = p ∧ g c = 1
theorem bcNI {p P : Int} (hp0 : 0 ≤ p) (hp : p < 7) (hP0 : 0 ≤ P) (hP : P < 128) : bcE (zI P &&& ((zI 1 <<< (zI p &&& 31)) <<< (zI 1 &&& 31) ||| (zI 1 <<< (zI p &&& 31)) >>> (zI 1 &&& 31))) = zI ((if p = 0 then 0 else zbit P (p - 1)) + (if p = 6 then 0 else zbit P (p + 1))) := by
  obtain ⟨i, rfl⟩ := z_nop hP0 hP
  have h := bcN ⟨p.toNat, by omega⟩ i
  simp only [Int.toNat_of_nonneg hp0] at h
  rw [zI_nI] at h
  rw [h]
  congr 2
  · by_cases hq : p = 0
    · rw [if_pos (by omega), if_pos hq]
    · rw [if_neg (by omega), if_neg hq]
  · by_cases hq : p = 6
    · rw [if_pos (by omega), if_pos hq]
    · rw [if_neg (by omega), if_neg hq]
section C3
variable {d mid pc nx r : Nat} {M : hm_M} {w v u g : Int → Int} {b s n y p : Int} {f : Nat → Int32} {Q : Option hm_V → hm_M → Prop} {c : Int} {l : List (Int × Nat)} {ls : hm_L} {st : List hm_V}
theorem z_iorS {G : Int → Int} (h : hm_at mid pc = some (nx, 4, c, 4, l)) (hG : b01 G 7) (hp0 : 0 ≤ p) (hp : p < 7) (kk : hm_Wp d mid nx ls (.inl (zI (bsum (zup G p 1) 7)) :: st) M Q) : hm_Wp d mid pc ls (.inl (zI (1 * 2 ^ p.toNat)) :: .inl (zI (bsum G 7)) :: st) M Q := by
  obtain ⟨a0, a1⟩ := bsum7_lt hG
  obtain ⟨c0, c1⟩ := pow_lt7 hp
  refine z_ior h a0 a1 (by omega) (by omega) ?_
  rw [Int.one_mul, zor_set hG hp0 hp]
  exact kk
theorem c_placesOf (hr : r = 7 ∨ r = 12 ∨ r = 22) (h : Hc M r w) (hw : mWf w) (hs : s = bsum g (w 2).toNat) (hg : b01 g (w 2).toNat) (kk : Q (some (.inl (zI (bsum (fun p => pI (mEx w g p)) 7)))) M) : hm_Wp d 46 0 [some (.inr (.inr r)), some (.inl (zI s)), none, none] [] M Q := by
  obtain ⟨h4, h5, h6, h8, h9, h10, a1, a2, a4⟩ := h
  have hn := hw.1.1
  obtain ⟨s0, s1⟩ := bsum_lt hg
  have hs2 : bsum g (w 2).toNat < 128 := by
    have : (2 : Int) ^ (w 2).toNat ≤ 2 ^ 7 := by
      have : (w 2).toNat ≤ 7 := by omega
      exact_mod_cast Nat.pow_le_pow_right (n := 2) (by decide) this
    omega
  have L : ∀ (m : Nat) (b : Int), 0 ≤ b → b + m = w 2 → hm_Wp d 46 4 [some (.inr (.inr r)), some (.inl (zI s)), some (.inl (zI (bsum (fun p => pI (mExB w g b p)) 7))), some (.inl (zI b))] [] M Q := by
    intro m
    induction m with
    | zero =>
      intro b hb0 hbm
      rcases hr with rfl | rfl | rfl
      all_goals (
        refine q_iload gg46_4 rfl ?_
        refine q_aload gg46_5 rfl ?_
        first | refine z_getf gg46_6 rfl (by assumption) ?_ | refine q_getf gg46_6 rfl ?_
        refine z_icmpge gg46_9 (tg := 38) rfl (by omega) (by omega) (fun c1 => ?_) (fun z => absurd z (by omega))
        refine q_iload gg46_38 rfl ?_
        refine q_iret gg46_39 ?_
        refine qv ?_ kk
        rw [show b = w 2 by omega]
        rfl
      )
    | succ m ih =>
      intro b hb0 hbm
      have hi := ih (b + 1) (by omega) (by omega)
      have hbit := bsum_bitI hg hb0 (show b < ((w 2).toNat : Int) by omega)
      rw [← hs] at hbit
      have hpl := (hw.2.2.1 b hb0 (by omega)).2.2.2.2
      have h01 : b01 (fun p => pI (mExB w g b p)) 7 := fun p _ _ => pI_01 _
      clear ih
      rcases hr with rfl | rfl | rfl
      all_goals (
        simp only [Nat.reduceAdd] at a4
        refine q_iload gg46_4 rfl ?_
        refine q_aload gg46_5 rfl ?_
        first | refine z_getf gg46_6 rfl (by assumption) ?_ | refine q_getf gg46_6 rfl ?_
        refine z_icmpge gg46_9 (tg := 38) rfl (by omega) (by omega) (fun z => absurd z (by omega)) (fun c1 => ?_)
        refine q_iload gg46_12 rfl ?_
        refine q_iload gg46_13 rfl ?_
        first | refine z_ishr gg46_14 (by omega) (by omega) (by omega) (by omega) (fun s14 es14 ls14 us14 => ?_) | refine q_ishr gg46_14 ?_
        refine z_const gg46_15 (v := 1) rfl ?_
        first | refine z_iand1 gg46_16 (by omega) (by omega) ?_ | refine q_iand gg46_16 ?_
        refine z_const gg46_17 (v := 1) rfl ?_
        refine z_icmpne gg46_18 (tg := 32) rfl (by omega) (by omega) (fun c2 => ?_) (fun c2 => ?_)
        · try (exfalso; omega)
          all_goals (
            refine z_iinc gg46_32 rfl rfl ?_
            refine q_goto gg46_35 (tg := 4) rfl ?_
            rw [show bsum (fun p => pI (mExB w g b p)) 7 = bsum (fun p => pI (mExB w g (b + 1) p)) 7 from bsum_congr (fun p p0 p1 => ?_)]
            · exact hi
            · congr 1
              apply propext
              constructor
              · rintro ⟨c, c0, c1, c2, c3⟩
                exact ⟨c, c0, by omega, c2, c3⟩
              · rintro ⟨c, c0, c1, c2, c3⟩
                refine ⟨c, c0, ?_, c2, c3⟩
                by_cases hc : c = b
                · subst hc; omega
                · omega
          )
        · try (exfalso; omega)
          all_goals (
            refine q_iload gg46_21 rfl ?_
            refine z_const gg46_22 (v := 1) rfl ?_
            refine q_aload gg46_23 rfl ?_
            refine q_getr gg46_24 rfl ?_
            refine q_iload gg46_27 rfl ?_
            first | refine z_alr gg46_28 (by first | rfl | assumption) (by assumption) (by omega) (by omega) (by omega) (by decide) (fun v28 ev28 lv28 uv28 => ?_) | refine z_alx gg46_28 rfl (by assumption) (by omega) (by omega) (by omega) (by decide) (fun v28 ev28 lv28 uv28 => ?_) <;> (try dsimp only at ev28)
            first | refine z_ishl gg46_29 (by omega) (by omega) (by omega) (by omega) ?_ | refine q_ishl gg46_29 ?_
            refine z_iorS gg46_30 h01 (by omega) (by omega) ?_
            rw [show bsum (zup (fun p => pI (mExB w g b p)) v28 1) 7 = bsum (fun p => pI (mExB w g (b + 1) p)) 7 from bsum_congr (fun p p0 p1 => ?_)]
            · refine q_istore gg46_31 rfl ?_
              refine z_iinc gg46_32 rfl rfl ?_
              refine q_goto gg46_35 (tg := 4) rfl ?_
              exact hi
            · simp only [zup]
              split
              · rename_i hp
                rw [pI_t]
                exact ⟨b, hb0, by omega, by omega, by omega⟩
              · congr 1
                apply propext
                constructor
                · rintro ⟨c, c0, c1, c2, c3⟩
                  exact ⟨c, c0, by omega, c2, c3⟩
                · rintro ⟨c, c0, c1, c2, c3⟩
                  refine ⟨c, c0, ?_, c2, c3⟩
                  by_cases hc : c = b
                  · subst hc; omega
                  · omega
          )
      )
  have L0 := L (w 2).toNat 0 (by decide) (by omega)
  rw [show bsum (fun p => pI (mExB w g 0 p)) 7 = 0 from ?_] at L0
  · refine z_const gg46_0 (v := 0) rfl ?_
    refine q_istore gg46_1 rfl ?_
    refine z_const gg46_2 (v := 0) rfl ?_
    refine q_istore gg46_3 rfl ?_
    exact L0
  · rw [bsum_congr (g' := fun _ => 0) (fun p _ _ => pI_f (by rintro ⟨c, c0, c1, -⟩; omega))]
    decide
theorem c_pushNeighbours (hr : r = 7 ∨ r = 12 ∨ r = 22) (h : Hc M r v) (hw : mWf v) (hf : aw f (v 2) 0 20000 (fun b => v (4 + 7 * b + 2))) (hs : s = bsum g (v 2).toNat) (hg : b01 g (v 2).toNat) (kk : ∀ f', aw f' (v 2) 0 20000 (fun b => if v (4 + 7 * b + 5) = 0 then min 99 (v (4 + 7 * b + 2) + mPush v g b) else v (4 + 7 * b + 2)) → Q none (hm_row M (r + 3) f')) : hm_Wp (d + 2) 45 0 [some (.inr (.inr r)), some (.inl (zI s)), none, none, none, none] [] (hm_row M (r + 3) f) Q := by
  have hn := hw.1.1
  have s5 := bsum7_lt (hw.f01 (q := 5) (by decide) (by decide))
  have L : ∀ (m : Nat) (b : Int) (f : Nat → Int32) (x4 x5 : Option hm_V), hm_free [some (.inr (.inr r)), some (.inl (zI s)), some (.inl (zI (bsum (fun p => pI (mEx v g p)) 7))), some (.inl (zI b)), x4, x5] 5 = true → 0 ≤ b → b + m = v 2 → aw f (v 2) 0 20000 (fun c => if c < b ∧ v (4 + 7 * c + 5) = 0 then min 99 (v (4 + 7 * c + 2) + mPush v g c) else v (4 + 7 * c + 2)) → hm_Wp (d + 2) 45 8 [some (.inr (.inr r)), some (.inl (zI s)), some (.inl (zI (bsum (fun p => pI (mEx v g p)) 7))), some (.inl (zI b)), x4, x5] [] (hm_row M (r + 3) f) Q := by
    intro m
    induction m with
    | zero =>
      intro b f x4 x5 _ hb0 hbm hf
      obtain ⟨h4, h5, h6, h8, h9, h10, a1, a2, a4⟩ := h
      have hf2 := aw_eq hf (w' := fun b => if v (4 + 7 * b + 5) = 0 then min 99 (v (4 + 7 * b + 2) + mPush v g b) else v (4 + 7 * b + 2)) (fun i i0 i1 => by
        by_cases hc : v (4 + 7 * i + 5) = 0
        · rw [if_pos ⟨by omega, hc⟩, if_pos hc]
        · rw [if_neg (fun z => hc z.2), if_neg hc])
      rcases hr with rfl | rfl | rfl
      all_goals (
        refine q_iload gg45_8 rfl ?_
        refine q_aload gg45_9 rfl ?_
        first | refine z_getf gg45_10 rfl (by assumption) ?_ | refine q_getf gg45_10 rfl ?_
        refine z_icmpge gg45_13 (tg := 65) rfl (by omega) (by omega) (fun c1 => ?_) (fun z => absurd z (by omega))
        refine q_ret gg45_65 ?_
        exact kk _ hf2
      )
    | succ m ih =>
      intro b f x4 x5 hfree hb0 hbm hf
      obtain ⟨h4, h5, h6, h8, h9, h10, a1, a2, a4⟩ := id h
      have q5 := hw.bit (q := 5) (by decide) (by decide) hb0 (by omega)
      have f5 := hw.1.2.1 b 5 hb0 (by omega) (by decide) (by decide)
      have hpl := (hw.2.2.1 b hb0 (by omega)).2.2.2.2
      have h01 : b01 (fun p => pI (mEx v g p)) 7 := fun p _ _ => pI_01 _
      obtain ⟨P0, P1⟩ := bsum7_lt h01
      have hpu := mPush_le v g b
      have hnext := fun f' x4 x5 hx h => ih (b + 1) f' x4 x5 hx (by omega) (by omega) h
      clear ih
      have noLow : ¬ mEx v g (-1) := by
        rintro ⟨c, c0, c1, c2, c3⟩
        have := hw.2.1 (4 + 7 * c + 3) (by omega) (by omega)
        omega
      have noHigh : ¬ mEx v g 7 := by
        rintro ⟨c, c0, c1, c2, c3⟩
        have := (hw.2.2.1 c c0 c1).2.2.2.2
        omega
      have pz : ∀ q : Int, 0 ≤ q → q < 7 → zbit (bsum (fun p => pI (mEx v g p)) 7) q = pI (mEx v g q) := fun q q0 q1 => zbit_bsum h01 q0 q1
      have hcnt : ∀ q : Int, 0 ≤ q → q < 7 → q = v (4 + 7 * b + 3) → 3 * ((if q = 0 then 0 else zbit (bsum (fun p => pI (mEx v g p)) 7) (q - 1)) + (if q = 6 then 0 else zbit (bsum (fun p => pI (mEx v g p)) 7) (q + 1))) = mPush v g b := by
        intro q q0 q1 hq
        unfold mPush
        rw [← hq]
        by_cases h0 : q = 0
        · subst h0
          rw [if_pos rfl, if_neg (by decide), pz (0 + 1) (by decide) (by decide), show (0 : Int) - 1 = -1 from rfl, pI_f noLow]; omega
        · rw [if_neg h0, pz (q - 1) (by omega) (by omega)]
          by_cases h6 : q = 6
          · subst h6
            rw [if_pos rfl, show (6 : Int) + 1 = 7 from rfl, pI_f noHigh]; omega
          · rw [if_neg h6, pz (q + 1) (by omega) (by omega)]; omega
      rcases hr with rfl | rfl | rfl
      all_goals (
        simp only [Nat.reduceAdd] at a4
        refine q_iload gg45_8 rfl ?_
        refine q_aload gg45_9 rfl ?_
        first | refine z_getf gg45_10 rfl (by assumption) ?_ | refine q_getf gg45_10 rfl ?_
        refine z_icmpge gg45_13 (tg := 65) rfl (by omega) (by omega) (fun z => absurd z (by omega)) (fun c1 => ?_)
        refine q_aload gg45_16 rfl ?_
        refine q_iload gg45_17 rfl ?_
        refine q_call2 gg45_18 tt34 rfl (Nat.le_of_ble_eq_true rfl) (hm_rv (by decide +kernel)) (ls' := [some _, some _]) rfl rfl ?_
        refine q_aload gg34_0 rfl ?_
        first | refine z_getf gg34_1 rfl (by assumption) ?_ | refine q_getf gg34_1 rfl ?_
        refine q_iload gg34_4 rfl ?_
        first | refine z_ishr gg34_5 (by omega) (by omega) (by omega) (by omega) (fun sisBurst_5 esisBurst_5 lsisBurst_5 usisBurst_5 => ?_) | refine q_ishr gg34_5 ?_
        refine z_const gg34_6 (v := 1) rfl ?_
        first | refine z_iand1 gg34_7 (by omega) (by omega) ?_ | refine q_iand gg34_7 ?_
        refine z_const gg34_8 (v := 1) rfl ?_
        refine z_icmpne gg34_9 (tg := 16) rfl (by omega) (by omega) (fun c2 => ?_) (fun c2 => ?_)
        · try (exfalso; omega)
          all_goals (
            refine z_const gg34_16 (v := 0) rfl ?_
            refine z_zretC gg34_17 (by omega) ?_
            refine z_ifne gg45_21 (tg := 59) rfl (by decide) (fun z => absurd z (by decide)) (fun _ => ?_)
            refine z_const gg45_24 (v := 1) rfl ?_
            refine q_aload gg45_25 rfl ?_
            refine q_getr gg45_26 rfl ?_
            refine q_iload gg45_29 rfl ?_
            first | refine z_alr gg45_30 (by first | rfl | assumption) (by assumption) (by omega) (by omega) (by omega) (by decide) (fun v30 ev30 lv30 uv30 => ?_) | refine z_alx gg45_30 rfl (by assumption) (by omega) (by omega) (by omega) (by decide) (fun v30 ev30 lv30 uv30 => ?_) <;> (try dsimp only at ev30)
            have hc := hcnt v30 (by omega) (by omega) (by omega)
            refine q_ishl gg45_31 ?_
            refine q_istore gg45_32 rfl ?_
            refine q_iload gg45_34 rfl ?_
            refine z_const gg45_36 (v := 1) rfl ?_
            refine q_ishl gg45_37 ?_
            refine q_iload gg45_38 rfl ?_
            refine z_const gg45_40 (v := 1) rfl ?_
            refine q_ishr gg45_41 ?_
            refine q_ior gg45_42 ?_
            refine q_istore gg45_43 rfl ?_
            refine q_aload gg45_45 rfl ?_
            refine q_iload gg45_46 rfl ?_
            refine z_const gg45_47 (v := 3) rfl ?_
            refine q_iload gg45_48 rfl ?_
            refine q_iload gg45_49 rfl ?_
            refine q_iand gg45_51 ?_
            refine q_call1 gg45_52 tt207 rfl (Nat.le_of_ble_eq_true rfl) rfl (ls' := [some _]) rfl rfl ?_
            refine c_bitCount ?_
            show hm_Wp _ _ _ _ (_ :: _) _ _
            rw [bcNI (by omega) (by omega) P0 P1]
            first | refine z_imul gg45_55 ?_ | refine q_imul gg45_55 ?_
            rw [hc]
            refine q_call3 gg45_56 tt47 rfl (Nat.le_of_ble_eq_true rfl) (hm_rv (by decide +kernel)) (ls' := [some _, some _, some _]) rfl rfl ?_
            refine c_raise (by omega) hn.2 hf hb0 (by omega) hpu.1 (by omega) (fun f' hf' => ?_)
            show hm_Wp _ _ _ _ _ _ _
            refine z_iinc gg45_59 rfl rfl ?_
            refine q_goto gg45_62 (tg := 8) rfl ?_
            refine hnext _ _ _ rfl (aw_eq hf' (fun i i0 i1 => ?_))
            simp only [zup]
            by_cases hib : i = b
            · subst hib
              rw [if_pos rfl, if_neg (by omega), if_pos (by omega)]
            · rw [if_neg hib]
              by_cases hc2 : i < b ∧ v (4 + 7 * i + 5) = 0
              · rw [if_pos hc2, if_pos (by omega)]
              · rw [if_neg hc2, if_neg (by omega)]
          )
        · try (exfalso; omega)
          all_goals (
            refine z_const gg34_12 (v := 1) rfl ?_
            refine q_goto gg34_13 (tg := 17) rfl ?_
            refine z_zretC gg34_17 (by omega) ?_
            refine z_ifne gg45_21 (tg := 59) rfl (by decide) (fun _ => ?_) (fun z => absurd z (by decide))
            refine z_iinc gg45_59 rfl rfl ?_
            refine q_goto gg45_62 (tg := 8) rfl ?_
            refine hnext _ _ _ hfree (aw_eq hf (fun i i0 i1 => ?_))
            by_cases hib : i = b
            · subst hib
              rw [if_neg (by omega), if_neg (by omega)]
            · by_cases hc2 : i < b ∧ v (4 + 7 * i + 5) = 0
              · rw [if_pos hc2, if_pos (by omega)]
              · rw [if_neg hc2, if_neg (by omega)]
          )
      )
  have L0 := L (v 2).toNat 0 f none none rfl (by decide) (by omega) (aw_eq hf (fun i i0 i1 => by rw [if_neg (by omega)]))
  have hc3 := Hc_row3 (s := f) h
  rcases hr with rfl | rfl | rfl
  all_goals (
    refine q_aload gg45_0 rfl ?_
    refine q_iload gg45_1 rfl ?_
    refine q_call2 gg45_2 tt46 rfl (Nat.le_of_ble_eq_true rfl) (hm_rv (by decide +kernel)) (ls' := [some _, some _, none, none]) rfl rfl ?_
    refine c_placesOf (by omega) hc3 hw hs hg ?_
    show hm_Wp _ _ _ _ (_ :: _) _ _
    refine q_istore gg45_5 rfl ?_
    refine z_const gg45_6 (v := 0) rfl ?_
    refine q_istore gg45_7 rfl ?_
    exact L0
  )
/-- the burst ones are told -/
def mB (w g : Int → Int) : Int → Int := fun i => if 4 ≤ i ∧ i < 4 + 7 * w 2 ∧ (i - 4) % 7 = 5 ∧ g ((i - 4) / 7) = 1 then 1 else w i
theorem mWf_B (hw : mWf w) : mWf (mB w g) := by
  have hbd := hw.2.1
  have hn := hw.1.1
  have o : ∀ i : Int, (i < 4 ∨ 4 + 7 * w 2 ≤ i) → mB w g i = w i := fun i hi => by simp only [mB]; rw [if_neg (by omega)]
  have k3 : ∀ b q : Int, q ≠ 5 → 0 ≤ q → q < 7 → mB w g (4 + 7 * b + q) = w (4 + 7 * b + q) := by
    intro b q h5 q0 q1
    simp only [mB]; rw [if_neg (by omega)]
  have k0 : ∀ b : Int, mB w g (4 + 7 * b) = w (4 + 7 * b) := fun b => by
    have := k3 b 0 (by decide) (by decide) (by decide); simpa using this
  refine mWf_of hw (o 2 (by omega)) ?_ ?_ ?_ (fun b b0 b1 => ?_) (fun b b0 b1 => ?_) (fun b q b0 b1 q0 q1 => ?_) (fun b q b0 b1 q0 q1 => o _ (by omega))
  · rw [o 0 (by omega)]; exact ⟨hw.2.2.2.2.1, (hbd 0 (by decide) (by decide)).1⟩
  · rw [o 1 (by omega)]; exact ⟨hw.2.2.2.2.2, (hbd 1 (by decide) (by decide)).1⟩
  · rw [o 3 (by omega)]; exact hbd 3 (by decide) (by decide)
  · have h1 := hw.2.2.1 b b0 b1
    have h2 := hbd (4 + 7 * b + 1) (by omega) (by omega)
    rw [k0, k3 b 1 (by decide) (by decide) (by decide), k3 b 3 (by decide) (by decide) (by decide)]
    omega
  · have h1 := hw.2.2.1 b b0 b1
    have h2 := hbd (4 + 7 * b + 2) (by omega) (by omega)
    rw [k3 b 2 (by decide) (by decide) (by decide)]
    omega
  · have h1 := hw.1.2.1 b q b0 (by omega) q0 q1
    simp only [mB]
    split
    · exact Or.inr rfl
    · exact h1
theorem mB_2 : mB w g 2 = w 2 := by simp only [mB]; rw [if_neg (by omega)]
theorem mB_k {b q : Int} (h5 : q ≠ 5) (q0 : 0 ≤ q) (q1 : q < 7) : mB w g (4 + 7 * b + q) = w (4 + 7 * b + q) := by
  simp only [mB]; rw [if_neg (by omega)]
theorem mB_0 {b : Int} : mB w g (4 + 7 * b) = w (4 + 7 * b) := by have := mB_k (w := w) (g := g) (b := b) (q := 0) (by decide) (by decide) (by decide); simpa using this
theorem mB_5 {b : Int} (hb0 : 0 ≤ b) (hb : b < w 2) : mB w g (4 + 7 * b + 5) = if g b = 1 then 1 else w (4 + 7 * b + 5) := by
  simp only [mB]
  rw [show (4 + 7 * b + 5 - 4) / 7 = b by omega]
  by_cases h : g b = 1
  · rw [if_pos ⟨by omega, by omega, by omega, h⟩, if_pos h]
  · rw [if_neg (fun z => h z.2.2.2), if_neg h]
theorem mB_ex {p : Int} : mEx (mB w g) g p = mEx w g p := by
  apply propext
  constructor
  · rintro ⟨x, x0, x1, x2, x3⟩
    rw [mB_2] at x1; rw [mB_k (by decide) (by decide) (by decide)] at x2
    exact ⟨x, x0, x1, x2, x3⟩
  · rintro ⟨x, x0, x1, x2, x3⟩
    exact ⟨x, x0, by rw [mB_2]; exact x1, by rw [mB_k (by decide) (by decide) (by decide)]; exact x2, x3⟩
theorem mB_push {b : Int} : mPush (mB w g) g b = mPush w g b := by
  unfold mPush
  rw [mB_k (by decide) (by decide) (by decide), mB_ex, mB_ex]
/-- the fields of a hob after the burst ones are told, and the others have swollen -/
theorem Hb_round {N : hm_M} {F s : Nat → Int32} (h : Hb N r w) (hw : mWf w) (hg : b01 g (w 2).toNat) (hF : F 9 = zI (zor (bsum (mFlag w 5) 7) (bsum g (w 2).toNat))) (hF2 : ∀ j, j ≠ 9 → F j = N r j) (hs : aw s (w 2) 0 20000 (fun b => if mB w g (4 + 7 * b + 5) = 0 then min 99 (w (4 + 7 * b + 2) + mPush w g b) else w (4 + 7 * b + 2))) : Hb (hm_row (hm_row N r F) (r + 3) s) r (mRoundTo w g (w 2)) := by
  obtain ⟨⟨h4, h5, h6, h8, h9, h10, a1, a2, a4⟩, h7, a3⟩ := h
  have hn := hw.1.1
  have o : ∀ i : Int, (i < 4 ∨ 4 + 7 * w 2 ≤ i) → mRoundTo w g (w 2) i = w i := fun i hi => by simp only [mRoundTo]; rw [if_neg (by omega)]
  have k3 : ∀ b q : Int, q ≠ 2 → q ≠ 5 → 0 ≤ q → q < 7 → mRoundTo w g (w 2) (4 + 7 * b + q) = w (4 + 7 * b + q) := by
    intro b q h2 h5 q0 q1
    simp only [mRoundTo]
    split
    · rw [if_neg (by omega), if_neg (by omega)]
    · rfl
  have k0 : ∀ b : Int, mRoundTo w g (w 2) (4 + 7 * b) = w (4 + 7 * b) := fun b => by
    have := k3 b 0 (by decide) (by decide) (by decide) (by decide); simpa using this
  have e0 : hm_row (hm_row N r F) (r + 3) s r = F := by rw [hm_row_ne _ _ (by omega), hm_row_same]
  have e1 : hm_row (hm_row N r F) (r + 3) s (r + 1) = N (r + 1) := by rw [hm_row_ne _ _ (by omega), hm_row_ne _ _ (by omega)]
  have e2 : hm_row (hm_row N r F) (r + 3) s (r + 2) = N (r + 2) := by rw [hm_row_ne _ _ (by omega), hm_row_ne _ _ (by omega)]
  have e3 : hm_row (hm_row N r F) (r + 3) s (r + 3) = s := hm_row_same _ _ _
  have e4 : hm_row (hm_row N r F) (r + 3) s (r + 4) = N (r + 4) := by rw [hm_row_ne _ _ (by omega), hm_row_ne _ _ (by omega)]
  unfold Hb Hc Hs
  rw [e0, e1, e2, e3, e4, o 0 (by omega), o 1 (by omega), o 2 (by omega), o 3 (by omega), hF2 4 (by decide), hF2 5 (by decide), hF2 6 (by decide), hF2 7 (by decide), hF2 8 (by decide), hF2 10 (by decide), hF]
  have gz : b01 (fun b => if b < w 2 then g b else 0) 7 := fun b b0 b1 => by
    dsimp only
    by_cases hb : b < w 2
    · rw [if_pos hb]; exact hg b b0 (by omega)
    · rw [if_neg hb]; exact Or.inl rfl
  have eg : bsum g (w 2).toNat = bsum (fun b => if b < w 2 then g b else 0) 7 := by
    rw [bsum_ext (g := fun b => if b < w 2 then g b else 0) (n := (w 2).toNat) (m := 7) (by omega) (fun b b0 b1 => by rw [if_neg (by omega)])]
    exact bsum_congr (fun b b0 b1 => by rw [if_pos (by omega)])
  refine ⟨⟨h4, h5, h6, ?_, ?_, ?_, ?_, ?_, ?_⟩, h7, ?_⟩
  · rw [h8]; congr 1
    exact bsum_congr (fun b b0 b1 => (k3 b 4 (by decide) (by decide) (by decide) (by decide)).symm)
  · congr 1
    rw [eg, zor_sum (hw.f01 (by decide) (by decide)) gz]
    refine bsum_congr (fun b b0 b1 => ?_)
    have f5 := hw.1.2.1 b 5 b0 (by omega) (by decide) (by decide)
    show max (w (4 + 7 * b + 5)) (if b < w 2 then g b else 0) = mRoundTo w g (w 2) (4 + 7 * b + 5)
    by_cases hb : b < w 2
    · have := hg b b0 (by omega)
      simp only [mRoundTo]
      rw [if_pos hb, if_pos (by omega), show (4 + 7 * b + 5 - 4) / 7 = b by omega]
      (repeat' split) <;> omega
    · rw [if_neg hb, o _ (by omega)]; omega
  · rw [h10]; congr 1
    exact bsum_congr (fun b b0 b1 => (k3 b 6 (by decide) (by decide) (by decide) (by decide)).symm)
  · exact aw_eq a1 (fun b b0 b1 => (k0 b).symm)
  · exact aw_eq a2 (fun b b0 b1 => (k3 b 1 (by decide) (by decide) (by decide) (by decide)).symm)
  · exact aw_eq a4 (fun b b0 b1 => (k3 b 3 (by decide) (by decide) (by decide) (by decide)).symm)
  · refine aw_eq hs (fun b b0 b1 => ?_)
    rw [mB_5 b0 b1]
    have f5 := hw.1.2.1 b 5 b0 (by omega) (by decide) (by decide)
    have hgb := hg b b0 (by omega)
    simp only [mRoundTo]
    rw [show (4 + 7 * b + 2 - 4) / 7 = b by omega, if_pos (show 4 ≤ 4 + 7 * b + 2 ∧ 4 + 7 * b + 2 < 4 + 7 * w 2 by omega), if_neg (show ¬ ((4 + 7 * b + 2 - 4) % 7 = 5 ∧ g b = 1) by omega)]
    (repeat' split) <;> omega
end C3
