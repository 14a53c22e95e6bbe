section F3
variable {d r : Nat} {M N : hm_M} {w v w0 : Int → Int} {b n e x a s y : Int} {f : Nat → Int32} {Q : Option hm_V → hm_M → Prop}
def pc7 (x : Int) : Int := zbit x 0 + zbit x 1 + zbit x 2 + zbit x 3 + zbit x 4 + zbit x 5 + zbit x 6
theorem pc7_bd (x : Int) : 0 ≤ pc7 x ∧ pc7 x ≤ 7 := by
  unfold pc7
  have h0 := zbit_01 x 0; have h1 := zbit_01 x 1; have h2 := zbit_01 x 2; have h3 := zbit_01 x 3; have h4 := zbit_01 x 4; have h5 := zbit_01 x 5; have h6 := zbit_01 x 6
  omega
theorem r_ones (hs0 : 0 ≤ s) (hs : s ≤ 2147483647) (kk : Q (some (.inl (zI (pc7 s)))) M) : hm_Wp d 126 0 [some (.inl (zI s)), none, none] [] M Q := by
  have L : ∀ (m : Nat) (k : Int), 0 ≤ k → k + m = 7 → hm_Wp d 126 4 [some (.inl (zI s)), some (.inl (zI (csum (zbit s) k.toNat))), some (.inl (zI k))] [] M Q := by
    intro m
    induction m with
    | zero =>
      intro k hk0 hkm
      refine q_iload gg126_4 rfl ?_
      refine z_const gg126_5 (v := 7) rfl ?_
      refine z_icmpge gg126_7 (tg := 24) rfl (by omega) (by omega) (fun c1 => ?_) (fun z => absurd z (by omega))
      refine q_iload gg126_24 rfl ?_
      refine q_iret gg126_25 ?_
      refine qv ?_ kk
      rw [show k.toNat = 7 by omega]
      simp only [csum, pc7]
      rw [Int.zero_add]
      rfl
    | succ m ih =>
      intro k hk0 hkm
      have hi := ih (k + 1) (by omega) (by omega)
      rw [show (k + 1).toNat = k.toNat + 1 by omega] at hi
      simp only [csum] at hi
      rw [Int.toNat_of_nonneg hk0] at hi
      have hz : zbit s k = s / 2 ^ k.toNat % 2 := rfl
      have hb := zbit_01 s k
      refine q_iload gg126_4 rfl ?_
      refine z_const gg126_5 (v := 7) rfl ?_
      refine z_icmpge gg126_7 (tg := 24) rfl (by omega) (by omega) (fun z => absurd z (by omega)) (fun c1 => ?_)
      refine q_iload gg126_10 rfl ?_
      refine q_iload gg126_11 rfl ?_
      refine q_iload gg126_12 rfl ?_
      first | refine z_ishr gg126_13 (by omega) (by omega) (by omega) (by omega) (fun s13 es13 ls13 us13 => ?_) | refine q_ishr gg126_13 ?_
      refine z_const gg126_14 (v := 1) rfl ?_
      first | refine z_iand1 gg126_15 (by omega) (by omega) ?_ | refine q_iand gg126_15 ?_
      first | refine z_iadd gg126_16 ?_ | refine q_iadd gg126_16 ?_
      refine q_istore gg126_17 rfl ?_
      refine z_iinc gg126_18 rfl rfl ?_
      refine q_goto gg126_21 (tg := 4) rfl ?_
      rw [es13, ← hz]
      exact hi
  refine z_const gg126_0 (v := 0) rfl ?_
  refine q_istore gg126_1 rfl ?_
  refine z_const gg126_2 (v := 0) rfl ?_
  refine q_istore gg126_3 rfl ?_
  exact L 7 0 (by decide) (by decide)
theorem c_bc (hs0 : 0 ≤ s) (hs : s < 128) (kk : Q (some (.inl (zI (pc7 s)))) M) : hm_Wp d 207 0 [some (.inl (zI s))] [] M Q := c_bitCount (by rw [bc_small hs0 hs]; exact kk)
def mSwap (w : Int → Int) (a b : Int) : Int → Int := zup (zup w (4 + 7 * a + 3) (w (4 + 7 * b + 3))) (4 + 7 * b + 3) (w (4 + 7 * a + 3))
theorem mSwap_ne {i : Int} (h1 : i ≠ 4 + 7 * a + 3) (h2 : i ≠ 4 + 7 * b + 3) : mSwap w a b i = w i := by simp [mSwap, zup, h1, h2]
theorem mSwap_pl {c : Int} : mSwap w a b (4 + 7 * c + 3) = if c = b then w (4 + 7 * a + 3) else if c = a then w (4 + 7 * b + 3) else w (4 + 7 * c + 3) := by
  simp only [mSwap, zup]
  (repeat' split) <;> first | rfl | omega
theorem mWf_swap (hw : mWf w) (ha0 : 0 ≤ a) (ha : a < w 2) (hb0 : 0 ≤ b) (hb : b < w 2) : mWf (mSwap w a b) := by
  obtain ⟨⟨hn, hfl, hinj⟩, hbd, hkk, hzz, hh, hc⟩ := hw
  have e : ∀ i : Int, (∀ c : Int, 0 ≤ c → i ≠ 4 + 7 * c + 3) → mSwap w a b i = w i := fun i h => mSwap_ne (h a ha0) (h b hb0)
  have pa := hkk a ha0 ha
  have pb := hkk b hb0 hb
  have qa := hbd (4 + 7 * a + 3) (by omega) (by omega)
  have qb := hbd (4 + 7 * b + 3) (by omega) (by omega)
  have iab := hinj a b ha0 ha hb0 hb
  refine ⟨⟨by rw [e 2 (by intro c hc; omega)]; exact hn, fun c q c0 c1 q0 q1 => by rw [e _ (by intro x hx; omega)]; exact hfl c q c0 c1 q0 q1, fun c c' c0 c1 c0' c1' he => ?_⟩, fun i i0 i1 => ?_, fun c c0 c1 => ?_, fun c q c0 c1 q0 q1 => ?_, by rw [e 0 (by intro c hc; omega)]; exact hh, by rw [e 1 (by intro c hc; omega)]; exact hc⟩
  · rw [e 2 (by intro c hc; omega)] at c1 c1'
    rw [mSwap_pl, mSwap_pl] at he
    have i1 := hinj c c' c0 c1 c0' c1'
    have i2 := hinj a c' ha0 ha c0' c1'
    have i3 := hinj b c' hb0 hb c0' c1'
    have i4 := hinj c a c0 c1 ha0 ha
    have i5 := hinj c b c0 c1 hb0 hb
    (repeat' split at he) <;> omega
  · by_cases h1 : i = 4 + 7 * a + 3
    · subst h1; rw [mSwap_pl]; (repeat' split) <;> omega
    · by_cases h2 : i = 4 + 7 * b + 3
      · subst h2; rw [mSwap_pl]; (repeat' split) <;> omega
      · rw [mSwap_ne h1 h2]; exact hbd i i0 i1
  · rw [e 2 (by intro c hc; omega)] at c1 ⊢
    have h1 := hkk c c0 c1
    rw [e _ (by intro x hx; omega), e _ (by intro x hx; omega), e _ (by intro x hx; omega), mSwap_pl]
    refine ⟨h1.1, h1.2.1, h1.2.2.1, h1.2.2.2.1, ?_⟩
    (repeat' split) <;> omega
  · rw [e 2 (by intro c hc; omega)] at c0
    rw [mSwap_ne (by omega) (by omega)]; exact hzz c q c0 c1 q0 q1
theorem mSwap_3 : mSwap w a b 3 = w 3 := by
  simp only [mSwap, zup]
  (repeat' split) <;> first | rfl | omega
theorem Hb_swap {s' : Nat → Int32} (h : Hb N r w) (ha0 : 0 ≤ a) (ha : a < w 2) (hb0 : 0 ≤ b) (hb : b < w 2) (hs : aw s' (w 2) 0 20000 (fun c => mSwap w a b (4 + 7 * c + 3))) : Hb (hm_row N (r + 4) s') r (mSwap w a b) := by
  obtain ⟨⟨h4, h5, h6, h8, h9, h10, a1, a2, a4⟩, h7, a3⟩ := h
  have e : ∀ i : Int, (∀ c : Int, 0 ≤ c → i ≠ 4 + 7 * c + 3) → mSwap w a b i = w i := fun i h => mSwap_ne (h a ha0) (h b hb0)
  have fl : ∀ q : Int, 4 ≤ q → q < 7 → bsum (mFlag (mSwap w a b) q) 7 = bsum (mFlag w q) 7 := fun q hq hq2 => bsum_congr (fun c c0 c1 => by simp only [mFlag]; exact e _ (by intro x hx; omega))
  unfold Hb Hc Hs
  rw [hm_row_ne _ _ (show r ≠ r + 4 by omega), hm_row_ne _ _ (show r + 1 ≠ r + 4 by omega), hm_row_ne _ _ (show r + 2 ≠ r + 4 by omega), hm_row_ne _ _ (show r + 3 ≠ r + 4 by omega), hm_row_same, e 0 (by intro x hx; omega), e 1 (by intro x hx; omega), e 2 (by intro x hx; omega), e 3 (by intro x hx; omega), fl 4 (by decide) (by decide), fl 5 (by decide) (by decide), fl 6 (by decide) (by decide)]
  refine ⟨⟨h4, h5, h6, h8, h9, h10, ?_, ?_, hs⟩, h7, ?_⟩
  · exact aw_eq a1 (fun c c0 c1 => (e _ (by intro x hx; omega)).symm)
  · exact aw_eq a2 (fun c c0 c1 => (e _ (by intro x hx; omega)).symm)
  · exact aw_eq a3 (fun c c0 c1 => (e _ (by intro x hx; omega)).symm)
theorem c_exchange (hr : r = 7 ∨ r = 12 ∨ r = 22) (h : Hb M r w) (hw : mWf w) (ha0 : 0 ≤ a) (ha : a < w 2) (hb0 : 0 ≤ b) (hb : b < w 2) (kk : ∀ M', Hb M' r (mSwap w a b) → Fr r M M' → Q none M') : hm_Wp d 50 0 [some (.inr (.inr r)), some (.inl (zI a)), some (.inl (zI b)), none] [] M Q := by
  have hn := hw.1.1
  have a4 := h.1.2.2.2.2.2.2.2.2
  have qa := hw.2.1 (4 + 7 * a + 3) (by omega) (by omega)
  have qb := hw.2.1 (4 + 7 * b + 3) (by omega) (by omega)
  have key : ∀ s', aw s' (w 2) 0 20000 (zup (zup (fun b => w (4 + 7 * b + 3)) a (w (4 + 7 * b + 3))) b (w (4 + 7 * a + 3))) → Q none (hm_row M (r + 4) s') := fun s' hs => kk _ (Hb_swap h ha0 ha hb0 hb (aw_eq hs (fun c c0 c1 => by rw [mSwap_pl]; simp only [zup]))) (Fr.row (Nat.le_add_right _ 4) (by omega))
  rw [← hm_row_self M (r + 4)]
  generalize hg : M (r + 4) = g0 at a4 ⊢
  rcases hr with rfl | rfl | rfl
  all_goals (
    refine q_aload gg50_0 rfl ?_
    refine q_getr gg50_1 rfl ?_
    refine q_iload gg50_4 rfl ?_
    first | refine z_alr gg50_5 (by first | rfl | assumption) (by assumption) (by omega) (by omega) (by omega) (by decide) (fun v5 ev5 lv5 uv5 => ?_) | refine z_alx gg50_5 rfl (by assumption) (by omega) (by omega) (by omega) (by decide) (fun v5 ev5 lv5 uv5 => ?_) <;> (try dsimp only at ev5)
    refine q_istore gg50_6 rfl ?_
    refine q_aload gg50_7 rfl ?_
    refine q_getr gg50_8 rfl ?_
    refine q_iload gg50_11 rfl ?_
    refine q_aload gg50_12 rfl ?_
    refine q_getr gg50_13 rfl ?_
    refine q_iload gg50_16 rfl ?_
    first | refine z_alr gg50_17 (by first | rfl | assumption) (by assumption) (by omega) (by omega) (by omega) (by decide) (fun v17 ev17 lv17 uv17 => ?_) | refine z_alx gg50_17 rfl (by assumption) (by omega) (by omega) (by omega) (by decide) (fun v17 ev17 lv17 uv17 => ?_) <;> (try dsimp only at ev17)
    first | refine z_asr gg50_18 (by first | rfl | assumption) (by assumption) (by omega) (by omega) (by decide) (by omega) (by omega) (fun f18 h18 => ?_) | refine z_asx gg50_18 rfl (by omega) (by omega) (by decide) ?_
    refine q_aload gg50_19 rfl ?_
    refine q_getr gg50_20 rfl ?_
    refine q_iload gg50_23 rfl ?_
    refine q_iload gg50_24 rfl ?_
    first | refine z_asr gg50_25 (by first | rfl | assumption) (by assumption) (by omega) (by omega) (by decide) (by omega) (by omega) (fun f25 h25 => ?_) | refine z_asx gg50_25 rfl (by omega) (by omega) (by decide) ?_
    refine q_ret gg50_26 ?_
    subst ev5
    subst ev17
    exact key _ h25
  )
/-- what behind n hours the pair a, b gives -/
noncomputable def mCh (w : Int → Int) (n a b : Int) : Int := pc7 (bsum (mFlag (mIt n.toNat (mSwap w a b)) 5) 7)
noncomputable def aC1 (w : Int → Int) (n a : Int) : Nat → Int → Int × Int → Int × Int
  | 0, _, p => p
  | m + 1, b, p => aC1 w n a m (b + 1) (if p.1 = -1000000 ∨ mCh w n a b < p.2 then (10 * a + b, mCh w n a b) else p)
noncomputable def aC2 (w : Int → Int) (n : Int) : Nat → Int → Int × Int → Int × Int
  | 0, _, p => p
  | m + 1, a, p => aC2 w n m (a + 1) (aC1 w n a m (a + 1) p)
noncomputable def aChange (w : Int → Int) (n y : Int) : Int := if w 2 = 0 then -1000002 else if 1 ≤ n ∧ n ≤ 30 ∧ 0 ≤ y ∧ y ≤ 1 then (if y = 0 then (aC2 w n (w 2).toNat 0 (-1000000, -1000000)).1 else (aC2 w n (w 2).toNat 0 (-1000000, -1000000)).2) else -1000001
/-- the best pair so far -/
def pOk (p : Int × Int) : Prop := (p.1 = -1000000 ∧ p.2 = -1000000) ∨ (0 ≤ p.1 ∧ p.1 ≤ 100 ∧ 0 ≤ p.2 ∧ p.2 ≤ 7)
theorem c_bestChange (h : Hb M 7 w) (hw : mWf w) (h3 : w 3 ≤ 9999) (hn0 : 1 ≤ n) (hn : n ≤ 30) (hy : y = 0 ∨ y = 1) (kk : ∀ (M' : hm_M), FT M M' → Q (some (.inl (zI (if y = 0 then (aC2 w n (w 2).toNat 0 (-1000000, -1000000)).1 else (aC2 w n (w 2).toNat 0 (-1000000, -1000000)).2)))) M') : hm_Wp (d + 5) 16 0 [some (.inr (.inr 21)), some (.inl (zI n)), some (.inl (zI y)), none, none, none, none, none] [] M Q := by
  have hn2 := hw.1.1
  generalize hR : aC2 w n (w 2).toNat 0 (-1000000, -1000000) = R at kk
  have L2 : ∀ (m : Nat) (a : Int) (N : hm_M) (p : Int × Int) (x6 x7 : Option hm_V), hm_free [some (.inr (.inr 21)), some (.inl (zI n)), some (.inl (zI y)), some (.inl (zI p.1)), some (.inl (zI p.2)), some (.inl (zI a)), x6, x7] 7 = true → 0 ≤ a → a + m = w 2 → FT M N → pOk p → aC2 w n m a p = R → hm_Wp (d + 5) 16 10 [some (.inr (.inr 21)), some (.inl (zI n)), some (.inl (zI y)), some (.inl (zI p.1)), some (.inl (zI p.2)), some (.inl (zI a)), x6, x7] [] N Q := by
    intro m
    induction m with
    | zero =>
      intro a N p x6 x7 hx ha0 ham hft hp heq
      have h4 := (h.ft hft).1.1
      simp only [aC2] at heq
      have kq := kk N hft
      rw [← heq] at kq
      refine q_iload gg16_10 rfl ?_
      refine q_aload gg16_12 rfl ?_
      refine q_getr gg16_13 rfl ?_
      first | refine z_getf gg16_16 rfl (by assumption) ?_ | refine q_getf gg16_16 rfl ?_
      refine z_icmpge gg16_19 (tg := 111) rfl (by omega) (by omega) (fun c1 => ?_) (fun z => absurd z (by omega))
      refine q_iload gg16_111 rfl ?_
      refine z_ifne gg16_112 (tg := 119) rfl (by omega) (fun c2 => ?_) (fun c2 => ?_)
      · try (exfalso; omega)
        all_goals (
          refine q_iload gg16_119 rfl ?_
          refine q_iret gg16_121 ?_
          refine qv ?_ kq
          (repeat' split) <;> omega
        )
      · try (exfalso; omega)
        all_goals (
          refine q_iload gg16_115 rfl ?_
          refine q_goto gg16_116 (tg := 121) rfl ?_
          refine q_iret gg16_121 ?_
          refine qv ?_ kq
          (repeat' split) <;> omega
        )
    | succ m ih =>
      intro a N p x6 x7 hx ha0 ham hft hp heq
      simp only [aC2] at heq
      have L1 : ∀ (m' : Nat) (b : Int) (N : hm_M) (p : Int × Int) (x7 : Option hm_V), 0 ≤ b → a < b → b + m' = w 2 → FT M N → pOk p → aC2 w n m (a + 1) (aC1 w n a m' b p) = R → hm_Wp (d + 5) 16 28 [some (.inr (.inr 21)), some (.inl (zI n)), some (.inl (zI y)), some (.inl (zI p.1)), some (.inl (zI p.2)), some (.inl (zI a)), some (.inl (zI b)), x7] [] N Q := by
        intro m'
        induction m' with
        | zero =>
          intro b N p x7 hb0 hab hbm hft hp heq
          have h4 := (h.ft hft).1.1
          simp only [aC1] at heq
          refine q_iload gg16_28 rfl ?_
          refine q_aload gg16_30 rfl ?_
          refine q_getr gg16_31 rfl ?_
          first | refine z_getf gg16_34 rfl (by assumption) ?_ | refine q_getf gg16_34 rfl ?_
          refine z_icmpge gg16_37 (tg := 105) rfl (by omega) (by omega) (fun c1 => ?_) (fun z => absurd z (by omega))
          refine z_iinc gg16_105 rfl rfl ?_
          refine q_goto gg16_108 (tg := 10) rfl ?_
          exact ih (a + 1) N p _ x7 rfl (by omega) (by omega) hft hp heq
        | succ m' ih' =>
          intro b N p x7 hb0 hab hbm hft hp heq
          have h4 := (h.ft hft).1.1
          have hsw := mWf_swap hw ha0 (by omega) hb0 (by omega)
          have hs3 : mSwap w a b 3 = w 3 := mSwap_3
          have hT := mIt_wf n.toNat hsw (by omega)
          have s5 := bsum7_lt (hT.f01 (q := 5) (by decide) (by decide))
          have hpc := pc7_bd (bsum (mFlag (mIt n.toNat (mSwap w a b)) 5) 7)
          have hch : mCh w n a b = pc7 (bsum (mFlag (mIt n.toNat (mSwap w a b)) 5) 7) := rfl
          simp only [aC1] at heq
          unfold pOk at hp
          refine q_iload gg16_28 rfl ?_
          refine q_aload gg16_30 rfl ?_
          refine q_getr gg16_31 rfl ?_
          first | refine z_getf gg16_34 rfl (by assumption) ?_ | refine q_getf gg16_34 rfl ?_
          refine z_icmpge gg16_37 (tg := 105) rfl (by omega) (by omega) (fun z => absurd z (by omega)) (fun c1 => ?_)
          refine q_aload gg16_40 rfl ?_
          refine q_call1 gg16_41 tt27 rfl (Nat.le_of_ble_eq_true rfl) (hm_rv (by decide +kernel)) (ls' := [some _]) rfl rfl ?_
          refine c_beginTrial (h.ft hft) hw (fun M1 h1 h17 hft1 => ?_)
          show hm_Wp _ _ _ _ _ _ _
          refine q_aload gg16_44 rfl ?_
          refine q_getr gg16_45 rfl ?_
          refine q_iload gg16_48 rfl ?_
          refine q_iload gg16_50 rfl ?_
          refine q_call3 gg16_52 tt50 rfl (Nat.le_of_ble_eq_true rfl) (hm_rv (by decide +kernel)) (ls' := [some _, some _, some _, none]) rfl rfl ?_
          refine c_exchange (by omega) h1 hw ha0 (by omega) hb0 (by omega) (fun M2 h2 hfr2 => ?_)
          show hm_Wp _ _ _ _ _ _ _
          refine q_aload gg16_55 rfl ?_
          refine q_iload gg16_56 rfl ?_
          refine q_call2 gg16_57 tt28 rfl (Nat.le_of_ble_eq_true rfl) (hm_rv (by decide +kernel)) (ls' := [some _, some _, none, none]) rfl rfl ?_
          refine c_boilTrial h2 hsw (by omega) (by omega) (by omega) (fun M3 v3 hb3 hv3 heq3 hfr3 => ?_)
          have g9 := hb3.1.2.2.2.2.1
          rw [heq3.bs (by decide) (by decide)] at g9
          have hft3 : FT M M3 := ((hft.tr hft1).tr hfr2.ft).tr hfr3.ft
          show hm_Wp _ _ _ _ _ _ _
          refine q_aload gg16_60 rfl ?_
          refine q_getr gg16_61 rfl ?_
          first | refine z_getf gg16_64 rfl (by assumption) ?_ | refine q_getf gg16_64 rfl ?_
          refine q_call1 gg16_67 tt207 rfl (Nat.le_of_ble_eq_true rfl) rfl (ls' := [some _]) rfl rfl ?_
          refine c_bc s5.1 s5.2 ?_
          rw [← hch]
          rw [← hch] at hpc
          show hm_Wp _ _ _ _ (_ :: _) _ _
          refine q_istore gg16_70 rfl ?_
          refine q_iload gg16_72 rfl ?_
          refine z_neg gg16_74 ?_
          refine z_icmpeq gg16_76 (tg := 86) rfl (by omega) (by omega) (fun c2 => ?_) (fun c2 => ?_)
          · try (exfalso; omega)
            all_goals (
              refine q_iload gg16_86 rfl ?_
              refine q_istore gg16_88 rfl ?_
              refine z_const gg16_90 (v := 10) rfl ?_
              refine q_iload gg16_92 rfl ?_
              first | refine z_imul gg16_94 ?_ | refine q_imul gg16_94 ?_
              refine q_iload gg16_95 rfl ?_
              first | refine z_iadd gg16_97 ?_ | refine q_iadd gg16_97 ?_
              refine q_istore gg16_98 rfl ?_
              refine z_iinc gg16_99 rfl rfl ?_
              refine q_goto gg16_102 (tg := 28) rfl ?_
              first
              | (rw [if_pos (by omega)] at heq
                 exact ih' (b + 1) M3 (10 * a + b, mCh w n a b) _ (by omega) (by omega) (by omega) hft3 (Or.inr ⟨by simp only; omega, by simp only; omega, hpc⟩) heq)
              | (rw [if_neg (by omega)] at heq
                 exact ih' (b + 1) M3 p _ (by omega) (by omega) (by omega) hft3 hp heq)
            )
          · try (exfalso; omega)
            all_goals (
              refine q_iload gg16_79 rfl ?_
              refine q_iload gg16_81 rfl ?_
              refine z_icmpge gg16_83 (tg := 99) rfl (by omega) (by omega) (fun c3 => ?_) (fun c3 => ?_)
              · try (exfalso; omega)
                all_goals (
                  refine z_iinc gg16_99 rfl rfl ?_
                  refine q_goto gg16_102 (tg := 28) rfl ?_
                  first
                  | (rw [if_pos (by omega)] at heq
                     exact ih' (b + 1) M3 (10 * a + b, mCh w n a b) _ (by omega) (by omega) (by omega) hft3 (Or.inr ⟨by simp only; omega, by simp only; omega, hpc⟩) heq)
                  | (rw [if_neg (by omega)] at heq
                     exact ih' (b + 1) M3 p _ (by omega) (by omega) (by omega) hft3 hp heq)
                )
              · try (exfalso; omega)
                all_goals (
                  refine q_iload gg16_86 rfl ?_
                  refine q_istore gg16_88 rfl ?_
                  refine z_const gg16_90 (v := 10) rfl ?_
                  refine q_iload gg16_92 rfl ?_
                  first | refine z_imul gg16_94 ?_ | refine q_imul gg16_94 ?_
                  refine q_iload gg16_95 rfl ?_
                  first | refine z_iadd gg16_97 ?_ | refine q_iadd gg16_97 ?_
                  refine q_istore gg16_98 rfl ?_
                  refine z_iinc gg16_99 rfl rfl ?_
                  refine q_goto gg16_102 (tg := 28) rfl ?_
                  first
                  | (rw [if_pos (by omega)] at heq
                     exact ih' (b + 1) M3 (10 * a + b, mCh w n a b) _ (by omega) (by omega) (by omega) hft3 (Or.inr ⟨by simp only; omega, by simp only; omega, hpc⟩) heq)
                  | (rw [if_neg (by omega)] at heq
                     exact ih' (b + 1) M3 p _ (by omega) (by omega) (by omega) hft3 hp heq)
                )
            )
      have h4 := (h.ft hft).1.1
      refine q_iload gg16_10 rfl ?_
      refine q_aload gg16_12 rfl ?_
      refine q_getr gg16_13 rfl ?_
      first | refine z_getf gg16_16 rfl (by assumption) ?_ | refine q_getf gg16_16 rfl ?_
      refine z_icmpge gg16_19 (tg := 111) rfl (by omega) (by omega) (fun z => absurd z (by omega)) (fun c1 => ?_)
      refine q_iload gg16_22 rfl ?_
      refine z_const gg16_24 (v := 1) rfl ?_
      first | refine z_iadd gg16_25 ?_ | refine q_iadd gg16_25 ?_
      refine q_istore gg16_26 rfl ?_
      exact L1 m (a + 1) N p x7 (by omega) (by omega) (by omega) hft hp heq
  refine z_neg gg16_0 ?_
  refine q_istore gg16_2 rfl ?_
  refine z_neg gg16_3 ?_
  refine q_istore gg16_5 rfl ?_
  refine z_const gg16_7 (v := 0) rfl ?_
  refine q_istore gg16_8 rfl ?_
  exact L2 (w 2).toNat 0 M (-1000000, -1000000) none none rfl (by decide) (by omega) FT.rf (Or.inl ⟨rfl, rfl⟩) hR
end F3
