section F11
variable {d r : Nat} {M N : hm_M} {w v w0 g T ln lg it : Int → Int} {b n e x a s y c q i p : Int} {f : Nat → Int32} {Q : Option hm_V → hm_M → Prop}
theorem c_beginTrial2 (h : Hb M 7 w) (hw : mWf w) (kk : ∀ M', Hb M' 22 w → Fr 22 M M' → Q none M') : hm_Wp (d + 2) 27 0 [some (.inr (.inr 21))] [] M Q := by
  have hn := hw.1.1
  refine q_aload gg27_0 rfl ?_
  refine q_getr gg27_1 rfl ?_
  refine q_aload gg27_4 rfl ?_
  refine q_getr gg27_5 rfl ?_
  refine q_call2 gg27_8 tt38 rfl (Nat.le_of_ble_eq_true rfl) (hm_rv (by decide +kernel)) (ls' := [some _, some _]) rfl rfl ?_
  refine c_takeFrom (Or.inl ⟨rfl, rfl⟩) h hn.2 (fun M' h1 hfr => ?_)
  show hm_Wp _ _ _ _ _ _ _
  refine q_ret gg27_11 ?_
  exact kk _ h1 hfr
theorem c_isAsTold (hn0 : 0 ≤ n) (hn : n ≤ 12) (hb0 : 0 ≤ b) (hb : b < w 2) (h : Hb M 22 w) (hw : mWf w) (h3 : w 3 + 12 ≤ 20000) (hT : aw (M 27) n (-2147483648) 2147483647 T) (kk : ∀ M', Fr 22 M M' → Q (some (.inl (zI (pI (fTm b T n.toNat w 0))))) M') : hm_Wp (d + 4) 20 0 [some (.inr (.inr 21)), some (.inl (zI b)), some (.inl (zI n)), none] [] M Q := by
  have hn2 := hw.1.1
  have L : ∀ (m : Nat) (j : Int) (N : hm_M) (v : Int → Int), 0 ≤ j → j + m = n → Hb N 22 v → mWf v → v 2 = w 2 → v 3 + m ≤ 20000 → Fr 22 M N → (fTm b T m v j ↔ fTm b T n.toNat w 0) → hm_Wp (d + 4) 20 2 [some (.inr (.inr 21)), some (.inl (zI b)), some (.inl (zI n)), some (.inl (zI j))] [] N Q := by
    intro m
    induction m with
    | zero =>
      intro j N v hj0 hjm hN hv hv2 hv3 hfr heq
      have kq := kk N hfr
      rw [pI_t (heq.mp trivial)] at kq
      refine q_iload gg20_2 rfl ?_
      refine q_iload gg20_3 rfl ?_
      refine z_icmpge gg20_4 (tg := 41) rfl (by omega) (by omega) (fun c1 => ?_) (fun z => absurd z (by omega))
      refine z_const gg20_41 (v := 1) rfl ?_
      refine z_zret gg20_42 (by omega) ?_
      exact kq
    | succ m ih =>
      intro j N v hj0 hjm hN hv hv2 hv3 hfr heq
      have hv' := mWf_pass hv (by omega)
      have hp2 : mPass v 2 = w 2 := by rw [mPass_2]; exact hv2
      simp only [fTm] at heq
      refine q_iload gg20_2 rfl ?_
      refine q_iload gg20_3 rfl ?_
      refine z_icmpge gg20_4 (tg := 41) rfl (by omega) (by omega) (fun z => absurd z (by omega)) (fun c1 => ?_)
      refine q_aload gg20_7 rfl ?_
      refine q_getr gg20_8 rfl ?_
      refine q_call1 gg20_11 tt43 rfl (Nat.le_of_ble_eq_true rfl) (hm_rv (by decide +kernel)) (ls' := [some _, none, none, none]) rfl rfl ?_
      refine c_boil (by omega) hN hv (by omega) (fun M1 G1 hM1 hfr1 hG1 => ?_)
      have a3 := hM1.2.2
      have hfr2 : Fr 22 M M1 := hfr.tr hfr1
      have hT1 : aw (M1 27) n (-2147483648) 2147483647 T := by rw [hfr2 27 (by omega)]; exact hT
      show hm_Wp _ _ _ _ (_ :: _) _ _
      refine q_pop gg20_14 rfl ?_
      refine q_aload gg20_15 rfl ?_
      refine q_getr gg20_16 rfl ?_
      refine q_getr gg20_19 rfl ?_
      refine q_iload gg20_22 rfl ?_
      first | (refine z_alr gg20_23 (by first | rfl | assumption) (by assumption) (by omega) (by omega) (by omega) (by decide) (fun v23 ev23 lv23 uv23 => ?_); try dsimp only at ev23) | (refine z_alx gg20_23 rfl (by assumption) (by omega) (by omega) (by first | omega | decide) (by decide) (fun v23 ev23 lv23 uv23 => ?_); try dsimp only at ev23) | refine z_alq gg20_23 rfl (by omega) (by omega) (by decide) ?_
      refine q_aload gg20_24 rfl ?_
      refine q_getr gg20_25 rfl ?_
      refine q_iload gg20_28 rfl ?_
      first | (refine z_alr gg20_29 (by first | rfl | assumption) (by assumption) (by omega) (by omega) (by omega) (by decide) (fun v29 ev29 lv29 uv29 => ?_); try dsimp only at ev29) | (refine z_alx gg20_29 rfl (by assumption) (by omega) (by omega) (by first | omega | decide) (by decide) (fun v29 ev29 lv29 uv29 => ?_); try dsimp only at ev29) | refine z_alq gg20_29 rfl (by omega) (by omega) (by decide) ?_
      refine z_icmpeq gg20_30 (tg := 35) rfl (by omega) (by omega) (fun c2 => ?_) (fun c2 => ?_)
      · try (exfalso; omega)
        all_goals (
          refine z_iinc gg20_35 rfl rfl ?_
          refine q_goto gg20_38 (tg := 2) rfl ?_
          exact ih (j + 1) M1 (mPass v) (by omega) (by omega) hM1 hv' hp2 (by rw [mPass_3]; omega) hfr2 ⟨fun z => heq.mp ⟨by omega, z⟩, fun z => (heq.mpr z).2⟩
        )
      · try (exfalso; omega)
        all_goals (
          refine z_const gg20_33 (v := 0) rfl ?_
          refine z_zret gg20_34 (by omega) ?_
          have kq := kk M1 hfr2
          rw [pI_f (fun z => by have := (heq.mpr z).1; omega)] at kq
          exact kq
        )
  refine z_const gg20_0 (v := 0) rfl ?_
  refine q_istore gg20_1 rfl ?_
  exact L n.toNat 0 M w (by decide) (by omega) h hw rfl (by omega) Fr.rf Iff.rfl
theorem c_alter {v : Int} (hy0 : 0 ≤ y) (hy : y ≤ 4) (hb0 : 0 ≤ b) (hb : b < w 2) (hv0 : 0 ≤ v) (hv : v ≤ 60) (h : Hb M 22 w) (hw : mWf w) (kk : ∀ M', Hb M' 22 (zup w (fP y b) v) → Fr 22 M M' → Q none M') : hm_Wp d 19 0 [some (.inr (.inr 21)), some (.inl (zI b)), some (.inl (zI y)), some (.inl (zI v))] [] M Q := by
  have hn2 := hw.1.1
  have hyy : y = 0 ∨ y = 1 ∨ y = 2 ∨ y = 3 ∨ y = 4 := by omega
  rcases hyy with rfl | rfl | rfl | rfl | rfl
  · refine q_iload gg19_0 rfl ?_
    refine z_sw gg19_1 (by omega) ?_
    show hm_Wp _ _ 28 _ _ _ _
    refine q_aload gg19_28 rfl ?_
    refine q_getr gg19_29 rfl ?_
    refine q_getr gg19_32 rfl ?_
    refine q_iload gg19_35 rfl ?_
    refine q_iload gg19_36 rfl ?_
    first | refine z_asr gg19_37 (by first | rfl | assumption) (by assumption) (by omega) (by omega) (by decide) (by omega) (by omega) (fun f37 h37 => ?_) | refine z_asx gg19_37 rfl (by omega) (by omega) (by decide) ?_ | refine z_asq gg19_37 rfl (by omega) (by omega) (by decide) ?_
    refine q_goto gg19_38 (tg := 73) rfl ?_
    refine q_ret gg19_73 ?_
    refine kk _ ?_ (Fr.row (r := 22) (q := 23) (M := M) (by decide) (by decide))
    have := Hb_arr (j := 1) (q := 0) (x := v) (Or.inl ⟨rfl, rfl⟩) h hb0 hb hv0 (by omega)
    simp only [Int.add_zero] at this
    exact this
  · refine q_iload gg19_0 rfl ?_
    refine z_sw gg19_1 (by omega) ?_
    show hm_Wp _ _ 41 _ _ _ _
    refine q_aload gg19_41 rfl ?_
    refine q_getr gg19_42 rfl ?_
    refine q_getr gg19_45 rfl ?_
    refine q_iload gg19_48 rfl ?_
    refine q_iload gg19_49 rfl ?_
    first | refine z_asr gg19_50 (by first | rfl | assumption) (by assumption) (by omega) (by omega) (by decide) (by omega) (by omega) (fun f50 h50 => ?_) | refine z_asx gg19_50 rfl (by omega) (by omega) (by decide) ?_ | refine z_asq gg19_50 rfl (by omega) (by omega) (by decide) ?_
    refine q_goto gg19_51 (tg := 73) rfl ?_
    refine q_ret gg19_73 ?_
    exact kk _ (Hb_arr (j := 2) (q := 1) (x := v) (Or.inr ⟨rfl, rfl⟩) h hb0 hb hv0 (by omega)) (Fr.row (r := 22) (q := 24) (M := M) (by decide) (by decide))
  · refine q_iload gg19_0 rfl ?_
    refine z_sw gg19_1 (by omega) ?_
    show hm_Wp _ _ 54 _ _ _ _
    refine q_aload gg19_54 rfl ?_
    refine q_getr gg19_55 rfl ?_
    refine q_iload gg19_58 rfl ?_
    refine q_putf gg19_59 rfl ?_
    refine q_goto gg19_62 (tg := 73) rfl ?_
    refine q_ret gg19_73 ?_
    exact kk _ (Hb_f01 (i := 0) (j := 5) (x := v) (by omega) h) (Fr.row (r := 22) (q := 22) (M := M) (by decide) (by decide))
  · refine q_iload gg19_0 rfl ?_
    refine z_sw gg19_1 (by omega) ?_
    show hm_Wp _ _ 65 _ _ _ _
    refine q_aload gg19_65 rfl ?_
    refine q_getr gg19_66 rfl ?_
    refine q_iload gg19_69 rfl ?_
    refine q_putf gg19_70 rfl ?_
    refine q_ret gg19_73 ?_
    exact kk _ (Hb_f01 (i := 1) (j := 6) (x := v) (by omega) h) (Fr.row (r := 22) (q := 22) (M := M) (by decide) (by decide))
  · refine q_iload gg19_0 rfl ?_
    refine z_sw gg19_1 (by omega) ?_
    show hm_Wp _ _ 65 _ _ _ _
    refine q_aload gg19_65 rfl ?_
    refine q_getr gg19_66 rfl ?_
    refine q_iload gg19_69 rfl ?_
    refine q_putf gg19_70 rfl ?_
    refine q_ret gg19_73 ?_
    exact kk _ (Hb_f01 (i := 1) (j := 6) (x := v) (by omega) h) (Fr.row (r := 22) (q := 22) (M := M) (by decide) (by decide))
theorem fLo_aw : aw (fun j => ([1, 0, 0, 5, 5] : List Int32).getD j 0) 5 0 60 fLo := by
  intro i i0 i1
  have h : i = 0 ∨ i = 1 ∨ i = 2 ∨ i = 3 ∨ i = 4 := by omega
  rcases h with rfl | rfl | rfl | rfl | rfl <;> decide
theorem fHi_aw : aw (fun j => ([5, 20, 9, 60, 60] : List Int32).getD j 0) 5 0 60 fHi := by
  intro i i0 i1
  have h : i = 0 ∨ i = 1 ∨ i = 2 ∨ i = 3 ∨ i = 4 := by omega
  rcases h with rfl | rfl | rfl | rfl | rfl <;> decide
theorem c_fitting (hy0 : 0 ≤ y) (hy : y ≤ 4) (hn0 : 1 ≤ n) (hn : n ≤ 12) (hb0 : 0 ≤ b) (hb : b < w 2) (h : Hb M 7 w) (hw : mWf w) (h3 : w 3 ≤ 9999) (hT : aw (M 27) n (-2147483648) 2147483647 T) (kk : ∀ M', FT M M' → Q (some (.inl (fAns w b n T y))) M') : hm_Wp (d + 5) 18 0 [some (.inr (.inr 21)), some (.inl (zI b)), some (.inl (zI n)), some (.inl (zI y)), none, none, none, none] [] M Q := by
  have hn2 := hw.1.1
  have hLH := fLH hy0 hy
  have s0 := fLo_aw
  have s1 := fHi_aw
  have L : ∀ (m : Nat) (v many least : Int) (p : Int32) (N : hm_M), fLo y ≤ v → v + m = fHi y + 1 → 0 ≤ many → many ≤ v → (least = -1000000 ∨ (0 ≤ least ∧ least ≤ 60)) → Fr 22 M N → many + fCnt w b n T y m v = fCnt w b n T y (fM y) (fLo y) → (if many = 0 then fFst w b n T y m v else least) = fFst w b n T y (fM y) (fLo y) → (many = 0 → least = -1000000) → fSet w b n T y m v p = fSet w b n T y (fM y) (fLo y) (zI 0) → hm_Wp (d + 5) 18 17 [some (.inr (.inr 21)), some (.inl (zI b)), some (.inl (zI n)), some (.inl (zI y)), some (.inl p), some (.inl (zI many)), some (.inl (zI least)), some (.inl (zI v))] [] N Q := by
    intro m
    induction m with
    | zero =>
      intro v many least p N hlv hvm hm0 hmv hls hfr hcn hfs hml hst
      simp only [fCnt, fSet, fFst] at hcn hfs hst
      have kq := kk N hfr.ft
      unfold fAns at kq
      have hle : least = fFst w b n T y (fM y) (fLo y) := by
        by_cases hz : many = 0
        · rw [if_pos hz] at hfs; rw [hml hz]; exact hfs
        · rw [if_neg hz] at hfs; exact hfs
      refine q_iload gg18_17 rfl ?_
      refine q_gets gg18_19 (by decide) ?_
      refine q_iload gg18_22 rfl ?_
      first | (refine z_alr gg18_23 (by first | rfl | assumption) (by assumption) (by omega) (by omega) (by omega) (by decide) (fun v23 ev23 lv23 uv23 => ?_); try dsimp only at ev23) | (refine z_alx gg18_23 rfl (by assumption) (by omega) (by omega) (by first | omega | decide) (by decide) (fun v23 ev23 lv23 uv23 => ?_); try dsimp only at ev23) | refine z_alq gg18_23 rfl (by omega) (by omega) (by decide) ?_
      refine z_icmpgt gg18_24 (tg := 80) rfl (by omega) (by omega) (fun c24 => ?_) (fun c24 => ?_)
      · refine q_iload gg18_80 rfl ?_
        refine z_sw gg18_81 (by omega) ?_
        by_cases y3 : y = 3
        · subst y3
          rw [if_pos rfl] at kq
          show hm_Wp _ _ 108 _ _ _ _
          refine q_iload gg18_108 rfl ?_
          refine q_iret gg18_110 ?_
          refine qv ?_ kq
          omega
        · by_cases y4 : y = 4
          · subst y4
            rw [if_neg (by decide), if_pos rfl] at kq
            show hm_Wp _ _ 111 _ _ _ _
            refine q_iload gg18_111 rfl ?_
            refine q_iret gg18_113 ?_
            refine qv ?_ kq
            omega
          · rw [if_neg y3, if_neg y4, ← hst] at kq
            have hsw : hm_swt [((3 : Int), 108), (4, 111)] (Int.toNat 114) y = 114 := by simp [hm_swt, y3, y4]
            rw [hsw]
            refine q_iload gg18_114 rfl ?_
            refine q_iret gg18_116 ?_
            exact kq
      · exfalso; omega
    | succ m ih =>
      intro v many least p N hlv hvm hm0 hmv hls hfr hcn hfs hml hst
      have hwv := mWf_fV (v := v) hw hb0 hb hy0 hy hlv (by omega)
      have hT1 : ∀ M1, Fr 22 M M1 → aw (M1 27) n (-2147483648) 2147483647 T := fun M1 hf => by rw [hf 27 (by omega)]; exact hT
      have h01 := pI_01 (fTm b T n.toNat (zup w (fP y b) v) 0)
      refine q_iload gg18_17 rfl ?_
      refine q_gets gg18_19 (by decide) ?_
      refine q_iload gg18_22 rfl ?_
      first | (refine z_alr gg18_23 (by first | rfl | assumption) (by assumption) (by omega) (by omega) (by omega) (by decide) (fun v23 ev23 lv23 uv23 => ?_); try dsimp only at ev23) | (refine z_alx gg18_23 rfl (by assumption) (by omega) (by omega) (by first | omega | decide) (by decide) (fun v23 ev23 lv23 uv23 => ?_); try dsimp only at ev23) | refine z_alq gg18_23 rfl (by omega) (by omega) (by decide) ?_
      refine z_icmpgt gg18_24 (tg := 80) rfl (by omega) (by omega) (fun z => absurd z (by omega)) (fun c1 => ?_)
      refine q_aload gg18_27 rfl ?_
      refine q_call1 gg18_28 tt27 rfl (Nat.le_of_ble_eq_true rfl) (hm_rv (by decide +kernel)) (ls' := [some _]) rfl rfl ?_
      refine c_beginTrial2 (h.ft hfr.ft) hw (fun M1 h1 hfr1 => ?_)
      show hm_Wp _ _ _ _ _ _ _
      refine q_aload gg18_31 rfl ?_
      refine q_iload gg18_32 rfl ?_
      refine q_iload gg18_33 rfl ?_
      refine q_iload gg18_34 rfl ?_
      refine q_call4 gg18_36 tt19 rfl (Nat.le_of_ble_eq_true rfl) (hm_rv (by decide +kernel)) (ls' := [some _, some _, some _, some _]) rfl rfl ?_
      refine c_alter hy0 hy hb0 hb (by omega) (by omega) h1 hw (fun M2 h2 hfr2 => ?_)
      have hfr3 : Fr 22 M M2 := (hfr.tr hfr1).tr hfr2
      show hm_Wp _ _ _ _ _ _ _
      refine q_aload gg18_39 rfl ?_
      refine q_iload gg18_40 rfl ?_
      refine q_iload gg18_41 rfl ?_
      refine q_call3 gg18_42 tt20 rfl (Nat.le_of_ble_eq_true rfl) (hm_rv (by decide +kernel)) (ls' := [some _, some _, some _, none]) rfl rfl ?_
      refine c_isAsTold (by omega) hn hb0 (by omega) h2 hwv.1 (by omega) (hT1 _ hfr3) (fun M3 hfr4 => ?_)
      show hm_Wp _ _ _ _ (_ :: _) _ _
      refine z_ifeq gg18_45 (tg := 74) rfl (by omega) (fun c2 => ?_) (fun c2 => ?_)
      · try (exfalso; omega)
        all_goals (
          refine z_iinc gg18_74 rfl rfl ?_
          refine q_goto gg18_77 (tg := 17) rfl ?_
          have hok : ¬ fOk w b n T y v := pI_0 (P := fTm b T n.toNat (zup w (fP y b) v) 0) (by omega)
          rw [fCnt_f hok] at hcn
          rw [fFst_f hok] at hfs
          rw [fSet_f hok] at hst
          exact ih (v + 1) many least p M3 (by omega) (by omega) (by omega) (by omega) (by omega) (hfr3.tr hfr4) hcn hfs hml hst
        )
      · try (exfalso; omega)
        all_goals (
          have hok : fOk w b n T y v := pI_1 (P := fTm b T n.toNat (zup w (fP y b) v) 0) (by omega)
          rw [fCnt_t hok] at hcn
          rw [fFst_t hok] at hfs
          rw [fSet_t hok] at hst
          refine q_iload gg18_48 rfl ?_
          refine z_const gg18_50 (v := 1) rfl ?_
          refine q_iload gg18_51 rfl ?_
          first | refine z_ishl gg18_53 (by omega) (by omega) (by omega) (by omega) ?_ | refine z_ishl7 gg18_53 (by omega) (by omega) (fun s53 es53 => ?_) | refine q_ishl gg18_53 ?_
          refine q_ior gg18_54 ?_
          refine q_istore gg18_55 rfl ?_
          refine q_iload gg18_57 rfl ?_
          refine z_ifne gg18_59 (tg := 67) rfl (by omega) (fun c6 => ?_) (fun c6 => ?_)
          · try (exfalso; omega)
            all_goals (
              refine q_iload gg18_67 rfl ?_
              refine q_istore gg18_69 rfl ?_
              refine z_iinc gg18_71 rfl rfl ?_
              refine z_iinc gg18_74 rfl rfl ?_
              refine q_goto gg18_77 (tg := 17) rfl ?_
              first | exact ih (v + 1) (many + 1) v _ M3 (by omega) (by omega) (by omega) (by omega) (by omega) (hfr3.tr hfr4) (by omega) (by rw [if_neg (by omega)]; rw [if_pos (by omega)] at hfs; exact hfs) (fun z => by omega) hst | exact ih (v + 1) (many + 1) least _ M3 (by omega) (by omega) (by omega) (by omega) (by omega) (hfr3.tr hfr4) (by omega) (by rw [if_neg (by omega)]; rw [if_neg (by omega)] at hfs; exact hfs) (fun z => by omega) hst
            )
          · try (exfalso; omega)
            all_goals (
              refine q_iload gg18_62 rfl ?_
              refine q_goto gg18_64 (tg := 69) rfl ?_
              refine q_istore gg18_69 rfl ?_
              refine z_iinc gg18_71 rfl rfl ?_
              refine z_iinc gg18_74 rfl rfl ?_
              refine q_goto gg18_77 (tg := 17) rfl ?_
              first | exact ih (v + 1) (many + 1) v _ M3 (by omega) (by omega) (by omega) (by omega) (by omega) (hfr3.tr hfr4) (by omega) (by rw [if_neg (by omega)]; rw [if_pos (by omega)] at hfs; exact hfs) (fun z => by omega) hst | exact ih (v + 1) (many + 1) least _ M3 (by omega) (by omega) (by omega) (by omega) (by omega) (hfr3.tr hfr4) (by omega) (by rw [if_neg (by omega)]; rw [if_neg (by omega)] at hfs; exact hfs) (fun z => by omega) hst
            )
        )
  refine z_const gg18_0 (v := 0) rfl ?_
  refine q_istore gg18_1 rfl ?_
  refine z_const gg18_3 (v := 0) rfl ?_
  refine q_istore gg18_4 rfl ?_
  refine z_neg gg18_6 ?_
  refine q_istore gg18_8 rfl ?_
  refine q_gets gg18_10 (by decide) ?_
  refine q_iload gg18_13 rfl ?_
  first | (refine z_alr gg18_14 (by first | rfl | assumption) (by assumption) (by omega) (by omega) (by omega) (by decide) (fun v14 ev14 lv14 uv14 => ?_); try dsimp only at ev14) | (refine z_alx gg18_14 rfl (by assumption) (by omega) (by omega) (by first | omega | decide) (by decide) (fun v14 ev14 lv14 uv14 => ?_); try dsimp only at ev14) | refine z_alq gg18_14 rfl (by omega) (by omega) (by decide) ?_
  rw [ev14]
  refine q_istore gg18_15 rfl ?_
  exact L (fM y) (fLo y) 0 (-1000000) (zI 0) M (Int.le_refl _) (by unfold fM; omega) (by decide) (by omega) (Or.inl rfl) Fr.rf (by omega) (by rw [if_pos rfl]) (fun _ => rfl) rfl
end F11
