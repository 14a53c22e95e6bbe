section C5
variable {d mid pc nx r k : Nat} {M N : hm_M} {w v u g : Int → Int} {b s n y p : Int} {f F : Nat → Int32} {Q : Option hm_V → hm_M → Prop} {c : Int} {l : List (Int × Nat)} {ls : hm_L} {st : List hm_V}
theorem z_copy {bb k0 k1 n0 n1 : Nat} {u sp dp : Int} (h : hm_at mid pc = some (nx, 28, c, bb, l)) (h0 : hm_sh[k0]? = some (.inl (false, n0))) (h1 : hm_sh[k1]? = some (.inl (false, n1))) (hu : 0 ≤ u) (hs0 : 0 ≤ sp) (hd0 : 0 ≤ dp) (hs : sp + u ≤ n0) (hd : dp + u ≤ n1) (hn0 : n0 < 2 ^ 31) (hn1 : n1 < 2 ^ 31) (kk : hm_Wp (d + 1) mid nx ls [] (hm_row M k1 (va_cpy (M k0) (M k1) sp.toNat dp.toNat u.toNat)) Q) : hm_Wp (d + 1) mid pc ls [.inl (zI u), .inl (zI dp), .inr (.inr k1), .inl (zI sp), .inr (.inr k0)] M Q := by
  rw [zI_nat hu (by omega), zI_nat hs0 (by omega), zI_nat hd0 (by omega)]
  exact q_copy h h0 h1 (by omega) (by omega) hn0 hn1 kk
theorem aw_cpy {f g : Nat → Int32} {m lo hi : Int} {w : Int → Int} {u : Nat} (h : aw f m lo hi w) (hu : m ≤ u) : aw (va_cpy f g 0 0 u) m lo hi w := by
  intro i i0 i1
  have e : va_cpy f g 0 0 u i.toNat = f i.toNat := by
    unfold va_cpy
    rw [if_pos (by omega)]
    congr 1; omega
  rw [e]; exact h i i0 i1
theorem c_takeFrom {q : Nat} (hr : (r = 22 ∧ q = 7) ∨ (r = 7 ∧ q = 12)) (h : Hb M q w) (hn : w 2 ≤ 7) (kk : ∀ M', Hb M' r w → Fr r M M' → Q none M') : hm_Wp (d + 1) 38 0 [some (.inr (.inr r)), some (.inr (.inr q))] [] M Q := by
  obtain ⟨⟨h4, h5, h6, h8, h9, h10, a1, a2, a4⟩, h7, a3⟩ := h
  rcases hr with ⟨rfl, rfl⟩ | ⟨rfl, rfl⟩
  all_goals (
    refine q_aload gg38_0 rfl ?_
    refine q_getr gg38_1 rfl ?_
    refine z_const gg38_4 (v := 0) rfl ?_
    refine q_aload gg38_5 rfl ?_
    refine q_getr gg38_6 rfl ?_
    refine z_const gg38_9 (v := 0) rfl ?_
    refine z_const gg38_10 (v := 7) rfl ?_
    refine z_copy gg38_12 rfl rfl (by omega) (by omega) (by omega) (by omega) (by omega) (by decide) (by decide) ?_
    refine q_aload gg38_15 rfl ?_
    refine q_getr gg38_16 rfl ?_
    refine z_const gg38_19 (v := 0) rfl ?_
    refine q_aload gg38_20 rfl ?_
    refine q_getr gg38_21 rfl ?_
    refine z_const gg38_24 (v := 0) rfl ?_
    refine z_const gg38_25 (v := 7) rfl ?_
    refine z_copy gg38_27 rfl rfl (by omega) (by omega) (by omega) (by omega) (by omega) (by decide) (by decide) ?_
    refine q_aload gg38_30 rfl ?_
    refine q_getr gg38_31 rfl ?_
    refine z_const gg38_34 (v := 0) rfl ?_
    refine q_aload gg38_35 rfl ?_
    refine q_getr gg38_36 rfl ?_
    refine z_const gg38_39 (v := 0) rfl ?_
    refine z_const gg38_40 (v := 7) rfl ?_
    refine z_copy gg38_42 rfl rfl (by omega) (by omega) (by omega) (by omega) (by omega) (by decide) (by decide) ?_
    refine q_aload gg38_45 rfl ?_
    refine q_getr gg38_46 rfl ?_
    refine z_const gg38_49 (v := 0) rfl ?_
    refine q_aload gg38_50 rfl ?_
    refine q_getr gg38_51 rfl ?_
    refine z_const gg38_54 (v := 0) rfl ?_
    refine z_const gg38_55 (v := 7) rfl ?_
    refine z_copy gg38_57 rfl rfl (by omega) (by omega) (by omega) (by omega) (by omega) (by decide) (by decide) ?_
    refine q_aload gg38_60 rfl ?_
    refine q_aload gg38_61 rfl ?_
    first | refine z_getf gg38_62 rfl (by assumption) ?_ | refine q_getf gg38_62 rfl ?_
    refine q_putf gg38_65 rfl ?_
    refine q_aload gg38_68 rfl ?_
    refine q_aload gg38_69 rfl ?_
    first | refine z_getf gg38_70 rfl (by assumption) ?_ | refine q_getf gg38_70 rfl ?_
    refine q_putf gg38_73 rfl ?_
    refine q_aload gg38_76 rfl ?_
    refine q_aload gg38_77 rfl ?_
    first | refine z_getf gg38_78 rfl (by assumption) ?_ | refine q_getf gg38_78 rfl ?_
    refine q_putf gg38_81 rfl ?_
    refine q_aload gg38_84 rfl ?_
    refine q_aload gg38_85 rfl ?_
    first | refine z_getf gg38_86 rfl (by assumption) ?_ | refine q_getf gg38_86 rfl ?_
    refine q_putf gg38_89 rfl ?_
    refine q_aload gg38_92 rfl ?_
    refine q_aload gg38_93 rfl ?_
    first | refine z_getf gg38_94 rfl (by assumption) ?_ | refine q_getf gg38_94 rfl ?_
    refine q_putf gg38_97 rfl ?_
    refine q_aload gg38_100 rfl ?_
    refine q_aload gg38_101 rfl ?_
    first | refine z_getf gg38_102 rfl (by assumption) ?_ | refine q_getf gg38_102 rfl ?_
    refine q_putf gg38_105 rfl ?_
    refine q_aload gg38_108 rfl ?_
    refine q_aload gg38_109 rfl ?_
    first | refine z_getf gg38_110 rfl (by assumption) ?_ | refine q_getf gg38_110 rfl ?_
    refine q_putf gg38_113 rfl ?_
    refine q_ret gg38_116 ?_
    refine kk _ ⟨⟨rfl, rfl, rfl, rfl, rfl, rfl, ?_, ?_, ?_⟩, rfl, ?_⟩ ?_
    exact aw_cpy a1 hn
    exact aw_cpy a2 hn
    exact aw_cpy a4 hn
    exact aw_cpy a3 hn
    intro k hk
    simp only [hm_up]
    repeat rw [hm_row_ne _ _ (by omega)]
  )
theorem Hb_swl {x : Int} (h : Hb N r w) (hb0 : 0 ≤ b) (hb : b < w 2) (hx0 : 0 ≤ x) (hx : x ≤ 20000) : Hb (hm_row N (r + 3) (upd (N (r + 3)) b.toNat (zI x))) r (zup w (4 + 7 * b + 2) x) := by
  obtain ⟨⟨h4, h5, h6, h8, h9, h10, a1, a2, a4⟩, h7, a3⟩ := h
  have e : ∀ i : Int, i ≠ 4 + 7 * b + 2 → zup w (4 + 7 * b + 2) x i = w i := fun i h => by simp [zup, h]
  have fl : ∀ q : Int, 4 ≤ q → q < 7 → bsum (mFlag (zup w (4 + 7 * b + 2) x) q) 7 = bsum (mFlag w q) 7 := fun q hq hq2 => bsum_congr (fun c c0 c1 => by simp only [mFlag]; exact e _ (by omega))
  unfold Hb Hc Hs
  rw [hm_row_ne _ _ (show r ≠ r + 3 by omega), hm_row_ne _ _ (show r + 1 ≠ r + 3 by omega), hm_row_ne _ _ (show r + 2 ≠ r + 3 by omega), hm_row_ne _ _ (show r + 4 ≠ r + 3 by omega), hm_row_same, e 0 (by omega), e 1 (by omega), e 2 (by omega), e 3 (by omega), fl 4 (by decide) (by decide), fl 5 (by decide) (by decide), fl 6 (by decide) (by decide)]
  refine ⟨⟨h4, h5, h6, h8, h9, h10, ?_, ?_, ?_⟩, h7, ?_⟩
  · exact aw_eq a1 (fun c c0 c1 => (e _ (by omega)).symm)
  · exact aw_eq a2 (fun c c0 c1 => (e _ (by omega)).symm)
  · exact aw_eq a4 (fun c c0 c1 => (e _ (by omega)).symm)
  · refine aw_eq (aw_upd a3 hb0 hx0 hx) (fun c c0 c1 => ?_)
    simp only [zup]
    (repeat' split) <;> omega
theorem Hb_flg {x q : Int} {j : Nat} (h : Hb N r w) (hb0 : 0 ≤ b) (hb : b < 7) (hq : (q = 4 ∧ j = 8) ∨ (q = 5 ∧ j = 9) ∨ (q = 6 ∧ j = 10)) (hF : F j = zI (bsum (zup (mFlag w q) b x) 7)) (hF2 : ∀ i, i ≠ j → F i = N r i) : Hb (hm_row N r F) r (zup w (4 + 7 * b + q) x) := by
  obtain ⟨⟨h4, h5, h6, h8, h9, h10, a1, a2, a4⟩, h7, a3⟩ := h
  have e : ∀ i : Int, i ≠ 4 + 7 * b + q → zup w (4 + 7 * b + q) x i = w i := fun i h => by simp [zup, h]
  have fl : ∀ q' : Int, 4 ≤ q' → q' < 7 → q' ≠ q → bsum (mFlag (zup w (4 + 7 * b + q) x) q') 7 = bsum (mFlag w q') 7 := fun q' hq hq2 hq3 => bsum_congr (fun c c0 c1 => by simp only [mFlag]; exact e _ (by omega))
  have fs : bsum (mFlag (zup w (4 + 7 * b + q) x) q) 7 = bsum (zup (mFlag w q) b x) 7 := bsum_congr (fun c c0 c1 => by
    simp only [mFlag, zup]
    by_cases hc : c = b
    · subst hc; simp
    · rw [if_neg (by omega), if_neg hc])
  unfold Hb Hc Hs
  rw [hm_row_same, hm_row_ne _ _ (show r + 1 ≠ r by omega), hm_row_ne _ _ (show r + 2 ≠ r by omega), hm_row_ne _ _ (show r + 3 ≠ r by omega), hm_row_ne _ _ (show r + 4 ≠ r by omega), e 0 (by omega), e 1 (by omega), e 2 (by omega), e 3 (by omega)]
  have g1 := aw_eq a1 (w' := fun b_1 => zup w (4 + 7 * b + q) x (4 + 7 * b_1)) (fun c c0 c1 => (e _ (by omega)).symm)
  have g2 := aw_eq a2 (w' := fun b_1 => zup w (4 + 7 * b + q) x (4 + 7 * b_1 + 1)) (fun c c0 c1 => (e _ (by omega)).symm)
  have g4 := aw_eq a4 (w' := fun b_1 => zup w (4 + 7 * b + q) x (4 + 7 * b_1 + 3)) (fun c c0 c1 => (e _ (by omega)).symm)
  have g3 := aw_eq a3 (w' := fun b_1 => zup w (4 + 7 * b + q) x (4 + 7 * b_1 + 2)) (fun c c0 c1 => (e _ (by omega)).symm)
  rcases hq with ⟨rfl, rfl⟩ | ⟨rfl, rfl⟩ | ⟨rfl, rfl⟩
  · rw [fs, fl 5 (by decide) (by decide) (by decide), fl 6 (by decide) (by decide) (by decide)]
    refine ⟨⟨by rw [hF2 4 (by decide)]; exact h4, by rw [hF2 5 (by decide)]; exact h5, by rw [hF2 6 (by decide)]; exact h6, hF, by rw [hF2 9 (by decide)]; exact h9, by rw [hF2 10 (by decide)]; exact h10, g1, g2, g4⟩, by rw [hF2 7 (by decide)]; exact h7, g3⟩
  · rw [fs, fl 4 (by decide) (by decide) (by decide), fl 6 (by decide) (by decide) (by decide)]
    refine ⟨⟨by rw [hF2 4 (by decide)]; exact h4, by rw [hF2 5 (by decide)]; exact h5, by rw [hF2 6 (by decide)]; exact h6, by rw [hF2 8 (by decide)]; exact h8, hF, by rw [hF2 10 (by decide)]; exact h10, g1, g2, g4⟩, by rw [hF2 7 (by decide)]; exact h7, g3⟩
  · rw [fs, fl 4 (by decide) (by decide) (by decide), fl 5 (by decide) (by decide) (by decide)]
    refine ⟨⟨by rw [hF2 4 (by decide)]; exact h4, by rw [hF2 5 (by decide)]; exact h5, by rw [hF2 6 (by decide)]; exact h6, by rw [hF2 8 (by decide)]; exact h8, by rw [hF2 9 (by decide)]; exact h9, hF, g1, g2, g4⟩, by rw [hF2 7 (by decide)]; exact h7, g3⟩
theorem c_stirOnce (hr : r = 7 ∨ r = 12 ∨ r = 22) (h : Hb M r w) (hw : mWf w) (hb0 : 0 ≤ b) (hb : b < w 2) (kk : ∀ M', Hb M' r (zup (zup w (4 + 7 * b + 2) (max 0 (w (4 + 7 * b + 2) - 2))) (4 + 7 * b + 6) 1) → Fr r M M' → Q none M') : hm_Wp (d + 1) 48 0 [some (.inr (.inr r)), some (.inl (zI b))] [] M Q := by
  have hn := hw.1.1
  have hsw := hw.2.2.1 b hb0 hb
  have hsw0 := hw.2.1 (4 + 7 * b + 2) (by omega) (by omega)
  have h01 := hw.f01 (q := 6) (by decide) (by decide)
  have h10 := h.1.2.2.2.2.2.1
  have a3 := h.2.2
  have hA := Hb_swl (x := max 0 (w (4 + 7 * b + 2) - 2)) h hb0 hb (by omega) (by omega)
  have e6 : bsum (mFlag (zup w (4 + 7 * b + 2) (max 0 (w (4 + 7 * b + 2) - 2))) 6) 7 = bsum (mFlag w 6) 7 := bsum_congr (fun c c0 c1 => by simp only [mFlag, zup]; rw [if_neg (by omega)])
  have hB := Hb_flg (q := 6) (j := 10) (x := 1) (F := upd (M r) 10 (zI (bsum (zup (mFlag w 6) b 1) 7))) hA hb0 (by omega) (by omega) (by simp only [upd, if_pos]; congr 1; exact bsum_congr (fun c c0 c1 => by simp only [zup, mFlag]; (repeat' split) <;> omega)) (fun i hi => by rw [hm_row_ne _ _ (by omega)]; simp [upd, hi])
  have hfr : Fr r M (hm_row (hm_row M (r + 3) (upd (M (r + 3)) b.toNat (zI (max 0 (w (4 + 7 * b + 2) - 2))))) r (upd (M r) 10 (zI (bsum (zup (mFlag w 6) b 1) 7)))) := (Fr.row (Nat.le_add_right _ 3) (by omega)).tr (Fr.row (Nat.le_refl _) (by omega))
  rcases hr with rfl | rfl | rfl
  all_goals (
    simp only [Nat.reduceAdd] at a3
    refine q_aload gg48_0 rfl ?_
    refine q_getr gg48_1 rfl ?_
    refine q_iload gg48_4 rfl ?_
    refine z_const gg48_5 (v := 0) rfl ?_
    refine q_aload gg48_6 rfl ?_
    refine q_getr gg48_7 rfl ?_
    refine q_iload gg48_10 rfl ?_
    first | refine z_alr gg48_11 (by first | rfl | assumption) (by assumption) (by omega) (by omega) (by omega) (by decide) (fun v11 ev11 lv11 uv11 => ?_) | refine z_alx gg48_11 rfl (by assumption) (by omega) (by omega) (by omega) (by decide) (fun v11 ev11 lv11 uv11 => ?_) <;> (try dsimp only at ev11)
    refine z_const gg48_12 (v := 2) rfl ?_
    first | refine z_isub gg48_13 ?_ | refine q_isub gg48_13 ?_
    refine z_max gg48_14 (Nat.le_of_ble_eq_true rfl) (by omega) (by omega) ?_
    first | refine z_asr gg48_17 (by first | rfl | assumption) (by assumption) (by omega) (by omega) (by decide) (by omega) (by omega) (fun f17 h17 => ?_) | refine z_asx gg48_17 rfl (by omega) (by omega) (by decide) ?_
    refine q_aload gg48_18 rfl ?_
    refine q_dup gg48_19 rfl ?_
    first | refine z_getf gg48_20 rfl (by assumption) ?_ | refine q_getf gg48_20 rfl ?_
    refine z_const gg48_23 (v := 1) rfl ?_
    refine q_iload gg48_24 rfl ?_
    first | refine z_ishl gg48_25 (by omega) (by omega) (by omega) (by omega) ?_ | refine q_ishl gg48_25 ?_
    refine z_iorS gg48_26 h01 hb0 (by omega) ?_
    subst ev11
    refine q_putf gg48_27 rfl ?_
    refine q_ret gg48_30 ?_
    exact kk _ hB hfr
  )
end C5
