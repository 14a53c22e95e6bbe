section F4
variable {d r : Nat} {M N : hm_M} {w v w0 : Int → Int} {b n e x a s y : Int} {f : Nat → Int32} {Q : Option hm_V → hm_M → Prop}
theorem aChange_y (h2 : w 2 ≠ 0) (hc : 1 ≤ n ∧ n ≤ 30 ∧ 0 ≤ y ∧ y ≤ 1) : aChange w n y = (if y = 0 then (aC2 w n (w 2).toNat 0 (-1000000, -1000000)).1 else (aC2 w n (w 2).toNat 0 (-1000000, -1000000)).2) := by unfold aChange; rw [if_neg h2, if_pos hc]
theorem c_change (hz : zR n) (hy : zR y) (h : Hb M 7 w) (hw : mWf w) (h3 : w 3 ≤ 9999) (kk : ∀ (M' : hm_M), FT M M' → Q (some (.inl (zI (aChange w n y)))) M') : hm_Wp (d + 6) 106 0 [some (.inr (.inr 0)), some (.inl (zI n)), some (.inl (zI y))] [] M Q := by
  have hn := hw.1.1
  have h4 := h.1.1
  unfold zR at hz hy
  refine q_aload gg106_0 rfl ?_
  refine q_getr gg106_1 rfl ?_
  refine q_call1 gg106_4 tt31 rfl (Nat.le_of_ble_eq_true rfl) (hm_rv (by decide +kernel)) (ls' := [some _]) rfl rfl ?_
  refine q_aload gg31_0 rfl ?_
  first | refine z_getf gg31_1 rfl (by assumption) ?_ | refine q_getf gg31_1 rfl ?_
  refine z_ifne gg31_4 (tg := 11) rfl (by omega) (fun c1 => ?_) (fun c1 => ?_)
  · try (exfalso; omega)
    all_goals (
      refine z_const gg31_11 (v := 0) rfl ?_
      refine z_zretC gg31_12 (by omega) ?_
      refine z_ifeq gg106_7 (tg := 13) rfl (by decide) (fun _ => ?_) (fun z => absurd z (by decide))
      refine q_iload gg106_13 rfl ?_
      refine q_call1 gg106_14 tt123 rfl (Nat.le_of_ble_eq_true rfl) rfl (ls' := [some _]) rfl rfl ?_
      refine q_iload gg123_0 rfl ?_
      refine z_const gg123_1 (v := 1) rfl ?_
      refine z_icmplt gg123_2 (tg := 15) rfl (by omega) (by omega) (fun c2 => ?_) (fun c2 => ?_)
      · try (exfalso; omega)
        all_goals (
          refine z_const gg123_15 (v := 0) rfl ?_
          refine z_zretC gg123_16 (by omega) ?_
          refine z_ifeq gg106_17 (tg := 27) rfl (by decide) (fun _ => ?_) (fun z => absurd z (by decide))
          refine z_neg gg106_27 ?_
          refine q_iret gg106_29 ?_
          refine qv ?_ (kk _ FT.rf)
          unfold aChange
          rw [if_neg (by omega), if_neg (by omega)]
        )
      · try (exfalso; omega)
        all_goals (
          refine q_iload gg123_5 rfl ?_
          refine z_const gg123_6 (v := 30) rfl ?_
          refine z_icmpgt gg123_8 (tg := 15) rfl (by omega) (by omega) (fun c3 => ?_) (fun c3 => ?_)
          · try (exfalso; omega)
            all_goals (
              refine z_const gg123_15 (v := 0) rfl ?_
              refine z_zretC gg123_16 (by omega) ?_
              refine z_ifeq gg106_17 (tg := 27) rfl (by decide) (fun _ => ?_) (fun z => absurd z (by decide))
              refine z_neg gg106_27 ?_
              refine q_iret gg106_29 ?_
              refine qv ?_ (kk _ FT.rf)
              unfold aChange
              rw [if_neg (by omega), if_neg (by omega)]
            )
          · try (exfalso; omega)
            all_goals (
              refine z_const gg123_11 (v := 1) rfl ?_
              refine q_goto gg123_12 (tg := 16) rfl ?_
              refine z_zretC gg123_16 (by omega) ?_
              refine z_ifeq gg106_17 (tg := 27) rfl (by decide) (fun z => absurd z (by decide)) (fun _ => ?_)
              refine q_iload gg106_20 rfl ?_
              refine q_call1 gg106_21 tt122 rfl (Nat.le_of_ble_eq_true rfl) rfl (ls' := [some _]) rfl rfl ?_
              refine q_iload gg122_0 rfl ?_
              refine z_ifeq gg122_1 (tg := 9) rfl (by omega) (fun c4 => ?_) (fun c4 => ?_)
              · try (exfalso; omega)
                all_goals (
                  refine z_const gg122_9 (v := 1) rfl ?_
                  refine q_goto gg122_10 (tg := 14) rfl ?_
                  refine z_zretC gg122_14 (by omega) ?_
                  refine z_ifne gg106_24 (tg := 30) rfl (by decide) (fun _ => ?_) (fun z => absurd z (by decide))
                  refine q_aload gg106_30 rfl ?_
                  refine q_getr gg106_31 rfl ?_
                  refine q_iload gg106_34 rfl ?_
                  refine q_iload gg106_35 rfl ?_
                  refine q_call3 gg106_36 tt16 rfl (Nat.le_of_ble_eq_true rfl) (hm_rv (by decide +kernel)) (ls' := [some _, some _, some _, none, none, none, none, none]) rfl rfl ?_
                  refine c_bestChange h hw h3 (by omega) (by omega) (by omega) (fun M1 hft => ?_)
                  show hm_Wp _ _ _ _ (_ :: _) _ _
                  refine q_iret gg106_39 ?_
                  exact qv (aChange_y (by omega) (by omega)).symm (kk _ hft)
                )
              · try (exfalso; omega)
                all_goals (
                  refine q_iload gg122_4 rfl ?_
                  refine z_const gg122_5 (v := 1) rfl ?_
                  refine z_icmpne gg122_6 (tg := 13) rfl (by omega) (by omega) (fun c5 => ?_) (fun c5 => ?_)
                  · try (exfalso; omega)
                    all_goals (
                      refine z_const gg122_13 (v := 0) rfl ?_
                      refine z_zretC gg122_14 (by omega) ?_
                      refine z_ifne gg106_24 (tg := 30) rfl (by decide) (fun z => absurd z (by decide)) (fun _ => ?_)
                      refine z_neg gg106_27 ?_
                      refine q_iret gg106_29 ?_
                      refine qv ?_ (kk _ FT.rf)
                      unfold aChange
                      rw [if_neg (by omega), if_neg (by omega)]
                    )
                  · try (exfalso; omega)
                    all_goals (
                      refine z_const gg122_9 (v := 1) rfl ?_
                      refine q_goto gg122_10 (tg := 14) rfl ?_
                      refine z_zretC gg122_14 (by omega) ?_
                      refine z_ifne gg106_24 (tg := 30) rfl (by decide) (fun _ => ?_) (fun z => absurd z (by decide))
                      refine q_aload gg106_30 rfl ?_
                      refine q_getr gg106_31 rfl ?_
                      refine q_iload gg106_34 rfl ?_
                      refine q_iload gg106_35 rfl ?_
                      refine q_call3 gg106_36 tt16 rfl (Nat.le_of_ble_eq_true rfl) (hm_rv (by decide +kernel)) (ls' := [some _, some _, some _, none, none, none, none, none]) rfl rfl ?_
                      refine c_bestChange h hw h3 (by omega) (by omega) (by omega) (fun M1 hft => ?_)
                      show hm_Wp _ _ _ _ (_ :: _) _ _
                      refine q_iret gg106_39 ?_
                      exact qv (aChange_y (by omega) (by omega)).symm (kk _ hft)
                    )
                )
            )
        )
    )
  · try (exfalso; omega)
    all_goals (
      refine z_const gg31_7 (v := 1) rfl ?_
      refine q_goto gg31_8 (tg := 12) rfl ?_
      refine z_zretC gg31_12 (by omega) ?_
      refine z_ifeq gg106_7 (tg := 13) rfl (by decide) (fun z => absurd z (by decide)) (fun _ => ?_)
      refine z_neg gg106_10 ?_
      refine q_iret gg106_12 ?_
      refine qv ?_ (kk _ FT.rf)
      unfold aChange
      rw [if_pos (by omega)]
    )
theorem r_change (hz : zR n) (hy : zR y) (hf : aw (M 36) 53 0 20000 w) (hw : mWf w) (hc : w 2 = 0 ↔ w 1 = 0) (h3 : w 3 ≤ 9999) (kk : ∀ (M' : hm_M), FR M M' → Q (some (.inl (zI (aChange w n y)))) M') : hm_Wp (d + 6) 184 0 [some (.inr (.inr 30)), some (.inl (zI n)), some (.inl (zI y)), none, none, none, none, none, none] [] M Q := by
  have hn2 := hw.1.1
  unfold zR at hz hy
  generalize hR : aC2 w n (w 2).toNat 0 (-1000000, -1000000) = R
  have L2 : w 2 ≠ 0 → 1 ≤ n → n ≤ 30 → (y = 0 ∨ y = 1) → ∀ (m : Nat) (a : Int) (N : hm_M) (p : Int × Int) (x6 x7 x8 : Option hm_V), hm_free [some (.inr (.inr 30)), some (.inl (zI n)), some (.inl (zI y)), some (.inl (zI p.1)), some (.inl (zI p.2)), some (.inl (zI a)), x6, x7, x8] 7 = true → hm_free [some (.inr (.inr 30)), some (.inl (zI n)), some (.inl (zI y)), some (.inl (zI p.1)), some (.inl (zI p.2)), some (.inl (zI a)), x6, x7, x8] 8 = true → 0 ≤ a → a + m = w 2 → FR M N → pOk p → aC2 w n m a p = R → hm_Wp (d + 6) 184 39 [some (.inr (.inr 30)), some (.inl (zI n)), some (.inl (zI y)), some (.inl (zI p.1)), some (.inl (zI p.2)), some (.inl (zI a)), x6, x7, x8] [] N Q := by
    intro hw2 hn1 hn30 hy01 m
    have hA : aChange w n y = if y = 0 then R.1 else R.2 := by unfold aChange; rw [if_neg hw2, if_pos ⟨hn1, hn30, by omega, by omega⟩, hR]
    induction m with
    | zero =>
      intro a N p x6 x7 x8 hx7 hx8 ha0 ham hft hp heq
      have h36 : aw (N 36) 53 0 20000 w := by rw [hft 36 (by decide)]; exact hf
      simp only [aC2] at heq
      have kq := kk N hft
      rw [hA, ← heq] at kq
      refine q_iload gg184_39 rfl ?_
      refine q_aload gg184_41 rfl ?_
      refine q_getr gg184_42 rfl ?_
      refine z_const gg184_45 (v := 2) rfl ?_
      first | refine z_alr gg184_46 (by first | rfl | assumption) (by assumption) (by omega) (by omega) (by omega) (by decide) (fun v46 ev46 lv46 uv46 => ?_) | refine z_alx gg184_46 rfl (by assumption) (by omega) (by omega) (by omega) (by decide) (fun v46 ev46 lv46 uv46 => ?_) <;> (try dsimp only at ev46)
      refine z_icmpge gg184_47 (tg := 173) rfl (by omega) (by omega) (fun c1 => ?_) (fun z => absurd z (by omega))
      refine q_iload gg184_173 rfl ?_
      refine z_ifne gg184_174 (tg := 181) rfl (by omega) (fun c2 => ?_) (fun c2 => ?_)
      · try (exfalso; omega)
        all_goals (
          refine q_iload gg184_181 rfl ?_
          refine q_iret gg184_183 ?_
          refine qv ?_ kq
          (repeat' split) <;> omega
        )
      · try (exfalso; omega)
        all_goals (
          refine q_iload gg184_177 rfl ?_
          refine q_goto gg184_178 (tg := 183) rfl ?_
          refine q_iret gg184_183 ?_
          refine qv ?_ kq
          (repeat' split) <;> omega
        )
    | succ m ih =>
      intro a N p x6 x7 x8 hx7 hx8 ha0 ham hft hp heq
      simp only [aC2] at heq
      have L1 : ∀ (m' : Nat) (b : Int) (N : hm_M) (p : Int × Int) (x7 x8 : Option hm_V), hm_free [some (.inr (.inr 30)), some (.inl (zI n)), some (.inl (zI y)), some (.inl (zI p.1)), some (.inl (zI p.2)), some (.inl (zI a)), some (.inl (zI b)), x7, x8] 8 = true → 0 ≤ b → a < b → b + m' = w 2 → FR M N → pOk p → aC2 w n m (a + 1) (aC1 w n a m' b p) = R → hm_Wp (d + 6) 184 56 [some (.inr (.inr 30)), some (.inl (zI n)), some (.inl (zI y)), some (.inl (zI p.1)), some (.inl (zI p.2)), some (.inl (zI a)), some (.inl (zI b)), x7, x8] [] N Q := by
        intro m'
        induction m' with
        | zero =>
          intro b N p x7 x8 hx8 hb0 hab hbm hft hp heq
          have h36 : aw (N 36) 53 0 20000 w := by rw [hft 36 (by decide)]; exact hf
          simp only [aC1] at heq
          refine q_iload gg184_56 rfl ?_
          refine q_aload gg184_58 rfl ?_
          refine q_getr gg184_59 rfl ?_
          refine z_const gg184_62 (v := 2) rfl ?_
          first | refine z_alr gg184_63 (by first | rfl | assumption) (by assumption) (by omega) (by omega) (by omega) (by decide) (fun v63 ev63 lv63 uv63 => ?_) | refine z_alx gg184_63 rfl (by assumption) (by omega) (by omega) (by omega) (by decide) (fun v63 ev63 lv63 uv63 => ?_) <;> (try dsimp only at ev63)
          refine z_icmpge gg184_64 (tg := 167) rfl (by omega) (by omega) (fun c1 => ?_) (fun z => absurd z (by omega))
          refine z_iinc gg184_167 rfl rfl ?_
          refine q_goto gg184_170 (tg := 39) rfl ?_
          exact ih (a + 1) N p _ x7 x8 rfl hx8 (by omega) (by omega) hft hp heq
        | succ m' ih' =>
          intro b N p x7 x8 hx8 hb0 hab hbm hft hp heq
          have h36 : aw (N 36) 53 0 20000 w := by rw [hft 36 (by decide)]; exact hf
          have hsw := mWf_swap hw ha0 (by omega) hb0 (by omega)
          have hs3 : mSwap w a b 3 = w 3 := mSwap_3
          have hT := mIt_wf n.toNat hsw (by omega)
          have s5 := bsum7_lt (hT.f01 (q := 5) (by decide) (by decide))
          have hpc := pc7_bd (bsum (mFlag (mIt n.toNat (mSwap w a b)) 5) 7)
          have hch : mCh w n a b = pc7 (bsum (mFlag (mIt n.toNat (mSwap w a b)) 5) 7) := rfl
          simp only [aC1] at heq
          unfold pOk at hp
          refine q_iload gg184_56 rfl ?_
          refine q_aload gg184_58 rfl ?_
          refine q_getr gg184_59 rfl ?_
          refine z_const gg184_62 (v := 2) rfl ?_
          first | refine z_alr gg184_63 (by first | rfl | assumption) (by assumption) (by omega) (by omega) (by omega) (by decide) (fun v63 ev63 lv63 uv63 => ?_) | refine z_alx gg184_63 rfl (by assumption) (by omega) (by omega) (by omega) (by decide) (fun v63 ev63 lv63 uv63 => ?_) <;> (try dsimp only at ev63)
          refine z_icmpge gg184_64 (tg := 167) rfl (by omega) (by omega) (fun z => absurd z (by omega)) (fun c1 => ?_)
          refine q_aload gg184_67 rfl ?_
          refine q_getr gg184_68 rfl ?_
          refine z_const gg184_71 (v := 0) rfl ?_
          refine q_aload gg184_72 rfl ?_
          refine q_getr gg184_73 rfl ?_
          refine z_const gg184_76 (v := 0) rfl ?_
          refine q_call4 gg184_77 tt130 rfl (Nat.le_of_ble_eq_true rfl) rfl (ls' := [some _, some _, some _, some _, none]) rfl rfl ?_
          refine r_cpNT h36 (fun f1 hf1 => ?_)
          show hm_Wp _ _ _ _ _ _ _
          refine q_aload gg184_80 rfl ?_
          refine q_getr gg184_81 rfl ?_
          refine q_iload gg184_84 rfl ?_
          refine q_iload gg184_86 rfl ?_
          refine q_call3 gg184_88 tt164 rfl (Nat.le_of_ble_eq_true rfl) rfl (ls' := [some _, some _, some _, none]) rfl rfl ?_
          refine r_changes rfl hf1 ha0 (by omega) hb0 (by omega) (fun f2 hf2 => ?_)
          show hm_Wp _ _ _ _ _ _ _
          refine q_aload gg184_91 rfl ?_
          refine q_iload gg184_92 rfl ?_
          refine q_call2 gg184_93 tt175 rfl (Nat.le_of_ble_eq_true rfl) (hm_rv (by decide +kernel)) (ls' := [some _, some _, none]) rfl rfl ?_
          refine r_goesOn (w := mSwap w a b) hf2 hsw.1 (by omega) (by omega) (by omega) (fun f3 hf3 => ?_)
          have hft3 : FR M (hm_row N 38 f3) := fun k hk => (FR.row k hk).trans (hft k hk)
          show hm_Wp _ _ _ _ _ _ _
          refine q_aload gg184_96 rfl ?_
          refine q_getr gg184_97 rfl ?_
          refine z_const gg184_100 (v := 5) rfl ?_
          refine q_call2 gg184_101 tt156 rfl (Nat.le_of_ble_eq_true rfl) rfl (ls' := [some _, some _, none, none]) rfl rfl ?_
          refine r_areSo rfl hf3 hT.1.1.1 hT.1.1.2 (by decide) (by decide) (hT.f01 (by decide) (by decide)) ?_
          rw [wf_bs hT (by decide) (by decide)]
          show hm_Wp _ _ _ _ (_ :: _) _ _
          refine q_call1 gg184_104 tt126 rfl (Nat.le_of_ble_eq_true rfl) rfl (ls' := [some _, none, none]) rfl rfl ?_
          refine r_ones s5.1 (by omega) ?_
          rw [← hch]
          rw [← hch] at hpc
          show hm_Wp _ _ _ _ (_ :: _) _ _
          refine q_istore gg184_107 rfl ?_
          refine q_iload gg184_109 rfl ?_
          refine z_neg gg184_110 ?_
          refine z_icmpeq gg184_112 (tg := 122) rfl (by omega) (by omega) (fun c2 => ?_) (fun c2 => ?_)
          · try (exfalso; omega)
            all_goals (
              refine z_const gg184_122 (v := 1) rfl ?_
              refine q_goto gg184_123 (tg := 127) rfl ?_
              refine q_istore gg184_127 rfl ?_
              refine q_iload gg184_129 rfl ?_
              refine z_ifeq gg184_131 (tg := 145) rfl (by decide) (fun z => absurd z (by decide)) (fun _ => ?_)
              refine z_const gg184_134 (v := 10) rfl ?_
              refine q_iload gg184_136 rfl ?_
              first | refine z_imul gg184_138 ?_ | refine q_imul gg184_138 ?_
              refine q_iload gg184_139 rfl ?_
              first | refine z_iadd gg184_141 ?_ | refine q_iadd gg184_141 ?_
              refine q_goto gg184_142 (tg := 146) rfl ?_
              refine q_istore gg184_146 rfl ?_
              refine q_iload gg184_147 rfl ?_
              refine z_ifeq gg184_149 (tg := 157) rfl (by decide) (fun z => absurd z (by decide)) (fun _ => ?_)
              refine q_iload gg184_152 rfl ?_
              refine q_goto gg184_154 (tg := 159) rfl ?_
              refine q_istore gg184_159 rfl ?_
              refine z_iinc gg184_161 rfl rfl ?_
              refine q_goto gg184_164 (tg := 56) rfl ?_
              first
              | (rw [if_pos (by omega)] at heq
                 exact ih' (b + 1) _ (10 * a + b, mCh w n a b) _ _ rfl (by omega) (by omega) (by omega) hft3 (Or.inr ⟨by simp only; omega, by simp only; omega, hpc⟩) heq)
              | (rw [if_neg (by omega)] at heq
                 exact ih' (b + 1) _ p _ _ rfl (by omega) (by omega) (by omega) hft3 hp heq)
            )
          · try (exfalso; omega)
            all_goals (
              refine q_iload gg184_115 rfl ?_
              refine q_iload gg184_117 rfl ?_
              refine z_icmpge gg184_119 (tg := 126) rfl (by omega) (by omega) (fun c3 => ?_) (fun c3 => ?_)
              · try (exfalso; omega)
                all_goals (
                  refine z_const gg184_126 (v := 0) rfl ?_
                  refine q_istore gg184_127 rfl ?_
                  refine q_iload gg184_129 rfl ?_
                  refine z_ifeq gg184_131 (tg := 145) rfl (by decide) (fun _ => ?_) (fun z => absurd z (by decide))
                  refine q_iload gg184_145 rfl ?_
                  refine q_istore gg184_146 rfl ?_
                  refine q_iload gg184_147 rfl ?_
                  refine z_ifeq gg184_149 (tg := 157) rfl (by decide) (fun _ => ?_) (fun z => absurd z (by decide))
                  refine q_iload gg184_157 rfl ?_
                  refine q_istore gg184_159 rfl ?_
                  refine z_iinc gg184_161 rfl rfl ?_
                  refine q_goto gg184_164 (tg := 56) rfl ?_
                  first
                  | (rw [if_pos (by omega)] at heq
                     exact ih' (b + 1) _ (10 * a + b, mCh w n a b) _ _ rfl (by omega) (by omega) (by omega) hft3 (Or.inr ⟨by simp only; omega, by simp only; omega, hpc⟩) heq)
                  | (rw [if_neg (by omega)] at heq
                     exact ih' (b + 1) _ p _ _ rfl (by omega) (by omega) (by omega) hft3 hp heq)
                )
              · try (exfalso; omega)
                all_goals (
                  refine z_const gg184_122 (v := 1) rfl ?_
                  refine q_goto gg184_123 (tg := 127) rfl ?_
                  refine q_istore gg184_127 rfl ?_
                  refine q_iload gg184_129 rfl ?_
                  refine z_ifeq gg184_131 (tg := 145) rfl (by decide) (fun z => absurd z (by decide)) (fun _ => ?_)
                  refine z_const gg184_134 (v := 10) rfl ?_
                  refine q_iload gg184_136 rfl ?_
                  first | refine z_imul gg184_138 ?_ | refine q_imul gg184_138 ?_
                  refine q_iload gg184_139 rfl ?_
                  first | refine z_iadd gg184_141 ?_ | refine q_iadd gg184_141 ?_
                  refine q_goto gg184_142 (tg := 146) rfl ?_
                  refine q_istore gg184_146 rfl ?_
                  refine q_iload gg184_147 rfl ?_
                  refine z_ifeq gg184_149 (tg := 157) rfl (by decide) (fun z => absurd z (by decide)) (fun _ => ?_)
                  refine q_iload gg184_152 rfl ?_
                  refine q_goto gg184_154 (tg := 159) rfl ?_
                  refine q_istore gg184_159 rfl ?_
                  refine z_iinc gg184_161 rfl rfl ?_
                  refine q_goto gg184_164 (tg := 56) rfl ?_
                  first
                  | (rw [if_pos (by omega)] at heq
                     exact ih' (b + 1) _ (10 * a + b, mCh w n a b) _ _ rfl (by omega) (by omega) (by omega) hft3 (Or.inr ⟨by simp only; omega, by simp only; omega, hpc⟩) heq)
                  | (rw [if_neg (by omega)] at heq
                     exact ih' (b + 1) _ p _ _ rfl (by omega) (by omega) (by omega) hft3 hp heq)
                )
            )
      have h36 : aw (N 36) 53 0 20000 w := by rw [hft 36 (by decide)]; exact hf
      refine q_iload gg184_39 rfl ?_
      refine q_aload gg184_41 rfl ?_
      refine q_getr gg184_42 rfl ?_
      refine z_const gg184_45 (v := 2) rfl ?_
      first | refine z_alr gg184_46 (by first | rfl | assumption) (by assumption) (by omega) (by omega) (by omega) (by decide) (fun v46 ev46 lv46 uv46 => ?_) | refine z_alx gg184_46 rfl (by assumption) (by omega) (by omega) (by omega) (by decide) (fun v46 ev46 lv46 uv46 => ?_) <;> (try dsimp only at ev46)
      refine z_icmpge gg184_47 (tg := 173) rfl (by omega) (by omega) (fun z => absurd z (by omega)) (fun c1 => ?_)
      refine q_iload gg184_50 rfl ?_
      refine z_const gg184_52 (v := 1) rfl ?_
      first | refine z_iadd gg184_53 ?_ | refine q_iadd gg184_53 ?_
      refine q_istore gg184_54 rfl ?_
      exact L1 m (a + 1) N p x7 x8 hx8 (by omega) (by omega) (by omega) hft hp heq
  refine q_aload gg184_0 rfl ?_
  refine q_call1 gg184_1 tt151 rfl (Nat.le_of_ble_eq_true rfl) (hm_rv (by decide +kernel)) (ls' := [some _]) rfl rfl ?_
  refine q_aload gg151_0 rfl ?_
  refine q_getr gg151_1 rfl ?_
  refine z_const gg151_4 (v := 1) rfl ?_
  first | refine z_alr gg151_5 (by first | rfl | assumption) (by assumption) (by omega) (by omega) (by omega) (by decide) (fun visHob_5 evisHob_5 lvisHob_5 uvisHob_5 => ?_) | refine z_alx gg151_5 rfl (by assumption) (by omega) (by omega) (by omega) (by decide) (fun visHob_5 evisHob_5 lvisHob_5 uvisHob_5 => ?_) <;> (try dsimp only at evisHob_5)
  refine z_ifle gg151_6 (tg := 13) rfl (by omega) (fun c1 => ?_) (fun c1 => ?_)
  · try (exfalso; omega)
    all_goals (
      refine z_const gg151_13 (v := 0) rfl ?_
      refine z_zretC gg151_14 (by omega) ?_
      refine z_ifne gg184_4 (tg := 10) rfl (by decide) (fun z => absurd z (by decide)) (fun _ => ?_)
      refine z_neg gg184_7 ?_
      refine q_iret gg184_9 ?_
      refine qv ?_ (kk _ FR.rf)
      unfold aChange
      rw [if_pos (by omega)]
    )
  · try (exfalso; omega)
    all_goals (
      refine z_const gg151_9 (v := 1) rfl ?_
      refine q_goto gg151_10 (tg := 14) rfl ?_
      refine z_zretC gg151_14 (by omega) ?_
      refine z_ifne gg184_4 (tg := 10) rfl (by decide) (fun _ => ?_) (fun z => absurd z (by decide))
      refine q_iload gg184_10 rfl ?_
      refine q_call1 gg184_11 tt180 rfl (Nat.le_of_ble_eq_true rfl) rfl (ls' := [some _]) rfl rfl ?_
      refine q_iload gg180_0 rfl ?_
      refine z_const gg180_1 (v := 1) rfl ?_
      refine z_const gg180_2 (v := 30) rfl ?_
      refine q_call3 gg180_4 tt124 rfl (Nat.le_of_ble_eq_true rfl) rfl (ls' := [some _, some _, some _]) rfl rfl ?_
      refine q_iload gg124_0 rfl ?_
      refine q_iload gg124_1 rfl ?_
      refine z_icmplt gg124_2 (tg := 14) rfl (by omega) (by omega) (fun c2 => ?_) (fun c2 => ?_)
      · try (exfalso; omega)
        all_goals (
          refine z_const gg124_14 (v := 0) rfl ?_
          refine z_zretC gg124_15 (by omega) ?_
          refine z_zretC gg180_7 (by omega) ?_
          refine z_ifeq gg184_14 (tg := 26) rfl (by decide) (fun _ => ?_) (fun z => absurd z (by decide))
          refine z_neg gg184_26 ?_
          refine q_iret gg184_28 ?_
          refine qv ?_ (kk _ FR.rf)
          unfold aChange
          rw [if_neg (by omega), if_neg (by omega)]
        )
      · try (exfalso; omega)
        all_goals (
          refine q_iload gg124_5 rfl ?_
          refine q_iload gg124_6 rfl ?_
          refine z_icmpgt gg124_7 (tg := 14) rfl (by omega) (by omega) (fun c3 => ?_) (fun c3 => ?_)
          · try (exfalso; omega)
            all_goals (
              refine z_const gg124_14 (v := 0) rfl ?_
              refine z_zretC gg124_15 (by omega) ?_
              refine z_zretC gg180_7 (by omega) ?_
              refine z_ifeq gg184_14 (tg := 26) rfl (by decide) (fun _ => ?_) (fun z => absurd z (by decide))
              refine z_neg gg184_26 ?_
              refine q_iret gg184_28 ?_
              refine qv ?_ (kk _ FR.rf)
              unfold aChange
              rw [if_neg (by omega), if_neg (by omega)]
            )
          · try (exfalso; omega)
            all_goals (
              refine z_const gg124_10 (v := 1) rfl ?_
              refine q_goto gg124_11 (tg := 15) rfl ?_
              refine z_zretC gg124_15 (by omega) ?_
              refine z_zretC gg180_7 (by omega) ?_
              refine z_ifeq gg184_14 (tg := 26) rfl (by decide) (fun z => absurd z (by decide)) (fun _ => ?_)
              refine q_iload gg184_17 rfl ?_
              refine z_const gg184_18 (v := 0) rfl ?_
              refine z_const gg184_19 (v := 1) rfl ?_
              refine q_call3 gg184_20 tt124 rfl (Nat.le_of_ble_eq_true rfl) rfl (ls' := [some _, some _, some _]) rfl rfl ?_
              refine q_iload gg124_0 rfl ?_
              refine q_iload gg124_1 rfl ?_
              refine z_icmplt gg124_2 (tg := 14) rfl (by omega) (by omega) (fun c4 => ?_) (fun c4 => ?_)
              · try (exfalso; omega)
                all_goals (
                  refine z_const gg124_14 (v := 0) rfl ?_
                  refine z_zretC gg124_15 (by omega) ?_
                  refine z_ifne gg184_23 (tg := 29) rfl (by decide) (fun z => absurd z (by decide)) (fun _ => ?_)
                  refine z_neg gg184_26 ?_
                  refine q_iret gg184_28 ?_
                  refine qv ?_ (kk _ FR.rf)
                  unfold aChange
                  rw [if_neg (by omega), if_neg (by omega)]
                )
              · try (exfalso; omega)
                all_goals (
                  refine q_iload gg124_5 rfl ?_
                  refine q_iload gg124_6 rfl ?_
                  refine z_icmpgt gg124_7 (tg := 14) rfl (by omega) (by omega) (fun c5 => ?_) (fun c5 => ?_)
                  · try (exfalso; omega)
                    all_goals (
                      refine z_const gg124_14 (v := 0) rfl ?_
                      refine z_zretC gg124_15 (by omega) ?_
                      refine z_ifne gg184_23 (tg := 29) rfl (by decide) (fun z => absurd z (by decide)) (fun _ => ?_)
                      refine z_neg gg184_26 ?_
                      refine q_iret gg184_28 ?_
                      refine qv ?_ (kk _ FR.rf)
                      unfold aChange
                      rw [if_neg (by omega), if_neg (by omega)]
                    )
                  · try (exfalso; omega)
                    all_goals (
                      refine z_const gg124_10 (v := 1) rfl ?_
                      refine q_goto gg124_11 (tg := 15) rfl ?_
                      refine z_zretC gg124_15 (by omega) ?_
                      refine z_ifne gg184_23 (tg := 29) rfl (by decide) (fun _ => ?_) (fun z => absurd z (by decide))
                      refine z_neg gg184_29 ?_
                      refine q_istore gg184_31 rfl ?_
                      refine z_neg gg184_32 ?_
                      refine q_istore gg184_34 rfl ?_
                      refine z_const gg184_36 (v := 0) rfl ?_
                      refine q_istore gg184_37 rfl ?_
                      exact L2 (by omega) (by omega) (by omega) (by omega) (w 2).toNat 0 M (-1000000, -1000000) none none none rfl rfl (by decide) (by omega) FR.rf (Or.inl ⟨rfl, rfl⟩) hR
                    )
                )
            )
        )
    )
/-! stirs -/
def mStir (w : Int → Int) (b : Int) : Int → Int := zup (zup w (4 + 7 * b + 2) (max 0 (w (4 + 7 * b + 2) - 2))) (4 + 7 * b + 6) 1
theorem mStir_ne {i : Int} (h1 : i ≠ 4 + 7 * b + 2) (h2 : i ≠ 4 + 7 * b + 6) : mStir w b i = w i := by simp [mStir, zup, h1, h2]
theorem mStir_sw : mStir w b (4 + 7 * b + 2) = max 0 (w (4 + 7 * b + 2) - 2) := by
  simp only [mStir, zup]; rw [if_neg (by omega)]; simp
theorem mStir_st : mStir w b (4 + 7 * b + 6) = 1 := by simp [mStir, zup]
theorem mWf_stir (hw : mWf w) (hb0 : 0 ≤ b) (hb : b < w 2) : mWf (mStir w b) := by
  have hbd := hw.2.1
  have hn := hw.1.1
  refine mWf_of hw (mStir_ne (by omega) (by omega)) ?_ ?_ ?_ (fun c c0 c1 => ?_) (fun c c0 c1 => ?_) (fun c q c0 c1 q0 q1 => ?_) (fun c q c0 c1 q0 q1 => mStir_ne (by omega) (by omega))
  · rw [mStir_ne (by omega) (by omega)]; exact ⟨hw.2.2.2.2.1, (hbd 0 (by decide) (by decide)).1⟩
  · rw [mStir_ne (by omega) (by omega)]; exact ⟨hw.2.2.2.2.2, (hbd 1 (by decide) (by decide)).1⟩
  · rw [mStir_ne (by omega) (by omega)]; exact hbd 3 (by decide) (by decide)
  · have h1 := hw.2.2.1 c c0 c1
    have h2 := hbd (4 + 7 * c + 1) (by omega) (by omega)
    rw [mStir_ne (by omega) (by omega), mStir_ne (by omega) (by omega), mStir_ne (by omega) (by omega)]; omega
  · have h1 := hw.2.2.1 c c0 c1
    have h2 := hbd (4 + 7 * c + 2) (by omega) (by omega)
    by_cases hc : c = b
    · subst hc; rw [mStir_sw]; omega
    · rw [mStir_ne (by omega) (by omega)]; omega
  · by_cases hc : c = b ∧ q = 6
    · rw [hc.1, hc.2, mStir_st]; exact Or.inr rfl
    · rw [mStir_ne (by omega) (by omega)]; exact hw.1.2.1 c q c0 (by omega) q0 q1
def mStirs : Nat → (Int → Int) → Int → (Int → Int)
  | 0, w, _ => w
  | n + 1, w, b => mStirs n (mStir w b) b
theorem mStirs_wf : ∀ (m : Nat) {w : Int → Int} {b : Int}, mWf w → 0 ≤ b → b < w 2 → mWf (mStirs m w b) ∧ mStirs m w b 2 = w 2 ∧ mStirs m w b 3 = w 3
  | 0, _, _, h, _, _ => ⟨h, rfl, rfl⟩
  | m + 1, w, b, h, h0, h1 => by
    have e2 : mStir w b 2 = w 2 := mStir_ne (by omega) (by omega)
    have e3 : mStir w b 3 = w 3 := mStir_ne (by omega) (by omega)
    obtain ⟨a1, a2, a3⟩ := mStirs_wf m (w := mStir w b) (b := b) (mWf_stir h h0 h1) h0 (by rw [e2]; exact h1)
    exact ⟨a1, a2.trans e2, a3.trans e3⟩
noncomputable def aSt (w : Int → Int) (b n : Int) : Nat → Int → Int
  | 0, _ => -1000000
  | m + 1, j => if mIt n.toNat (mStirs j.toNat w b) (4 + 7 * b + 5) = 0 then j else aSt w b n m (j + 1)
theorem aSt_t {m : Nat} {j : Int} (h : mIt n.toNat (mStirs j.toNat w b) (4 + 7 * b + 5) = 0) : aSt w b n (m + 1) j = j := by simp [aSt, h]
theorem aSt_f {m : Nat} {j : Int} (h : mIt n.toNat (mStirs j.toNat w b) (4 + 7 * b + 5) ≠ 0) : aSt w b n (m + 1) j = aSt w b n m (j + 1) := by simp [aSt, h]
noncomputable def aStirs (w : Int → Int) (b n : Int) : Int := if 0 ≤ b ∧ b < w 2 ∧ 1 ≤ n ∧ n ≤ 30 then aSt w b n 21 0 else -1000001
theorem c_fewestStirs (hb0 : 0 ≤ b) (hb : b < w 2) (h : Hb M 7 w) (hw : mWf w) (h3 : w 3 ≤ 9999) (hn0 : 1 ≤ n) (hn : n ≤ 30) (kk : ∀ (M' : hm_M), FT M M' → Q (some (.inl (zI (aSt w b n 21 0)))) M') : hm_Wp (d + 5) 14 0 [some (.inr (.inr 21)), some (.inl (zI b)), some (.inl (zI n)), none, none] [] M Q := by
  have hn2 := hw.1.1
  have L : ∀ (m : Nat) (j : Int) (N : hm_M) (x4 : Option hm_V), hm_free [some (.inr (.inr 21)), some (.inl (zI b)), some (.inl (zI n)), some (.inl (zI j)), x4] 4 = true → 0 ≤ j → j + m = 21 → FT M N → aSt w b n m j = aSt w b n 21 0 → hm_Wp (d + 5) 14 2 [some (.inr (.inr 21)), some (.inl (zI b)), some (.inl (zI n)), some (.inl (zI j)), x4] [] N Q := by
    intro m
    induction m with
    | zero =>
      intro j N x4 hx hj0 hjm hft heq
      refine q_iload gg14_2 rfl ?_
      refine z_const gg14_3 (v := 20) rfl ?_
      refine z_icmpgt gg14_5 (tg := 52) rfl (by omega) (by omega) (fun c1 => ?_) (fun z => absurd z (by omega))
      refine z_neg gg14_52 ?_
      refine q_iret gg14_54 ?_
      refine qv ?_ (kk _ hft)
      rw [← heq]
      rfl
    | succ m ih =>
      intro j N x4 hx hj0 hjm hft heq
      have hwj := mStirs_wf j.toNat hw hb0 hb
      have hTf := (mIt_wf n.toNat hwj.1 (by rw [hwj.2.2]; omega)).1.2.1 b 5 hb0 (by omega) (by decide) (by decide)
      have L1 : ∀ (m' : Nat) (k : Int) (N1 : hm_M) (v : Int → Int), 0 ≤ k → k + m' = j → Hb N1 22 v → mWf v → v 2 = w 2 → FT M N1 → mStirs m' v b = mStirs j.toNat w b → hm_Wp (d + 5) 14 15 [some (.inr (.inr 21)), some (.inl (zI b)), some (.inl (zI n)), some (.inl (zI j)), some (.inl (zI k))] [] N1 Q := by
        intro m'
        induction m' with
        | zero =>
          intro k N1 v hk0 hkm hN1 hv hv2 hft1 hst
          simp only [mStirs] at hst
          subst hst
          refine q_iload gg14_15 rfl ?_
          refine q_iload gg14_17 rfl ?_
          refine z_icmpge gg14_18 (tg := 35) rfl (by omega) (by omega) (fun c1 => ?_) (fun z => absurd z (by omega))
          refine q_aload gg14_35 rfl ?_
          refine q_iload gg14_36 rfl ?_
          refine q_iload gg14_37 rfl ?_
          refine q_call3 gg14_38 tt29 rfl (Nat.le_of_ble_eq_true rfl) (hm_rv (by decide +kernel)) (ls' := [some _, some _, some _, none, none]) rfl rfl ?_
          refine c_trialBursts hN1 hwj.1 hb0 (by omega) (by omega) (by omega) (by rw [hwj.2.2]; omega) (fun M2 hfr => ?_)
          show hm_Wp _ _ _ _ (_ :: _) _ _
          refine z_ifne gg14_41 (tg := 46) rfl (by omega) (fun c2 => ?_) (fun c2 => ?_)
          · try (exfalso; omega)
            all_goals (
              refine z_iinc gg14_46 rfl rfl ?_
              refine q_goto gg14_49 (tg := 2) rfl ?_
              refine ih (j + 1) _ _ rfl (by omega) (by omega) (hft1.tr hfr.ft) ?_
              rw [← heq, aSt_f (by omega)]
            )
          · try (exfalso; omega)
            all_goals (
              refine q_iload gg14_44 rfl ?_
              refine q_iret gg14_45 ?_
              refine qv ?_ (kk _ (hft1.tr hfr.ft))
              rw [← heq, aSt_t (by omega)]
            )
        | succ m' ih' =>
          intro k N1 v hk0 hkm hN1 hv hv2 hft1 hst
          refine q_iload gg14_15 rfl ?_
          refine q_iload gg14_17 rfl ?_
          refine z_icmpge gg14_18 (tg := 35) rfl (by omega) (by omega) (fun z => absurd z (by omega)) (fun c1 => ?_)
          refine q_aload gg14_21 rfl ?_
          refine q_getr gg14_22 rfl ?_
          refine q_iload gg14_25 rfl ?_
          refine q_call2 gg14_26 tt48 rfl (Nat.le_of_ble_eq_true rfl) (hm_rv (by decide +kernel)) (ls' := [some _, some _]) rfl rfl ?_
          refine c_stirOnce (by omega) hN1 hv hb0 (by omega) (fun M2 h2 hfr => ?_)
          show hm_Wp _ _ _ _ _ _ _
          refine z_iinc gg14_29 rfl rfl ?_
          refine q_goto gg14_32 (tg := 15) rfl ?_
          exact ih' (k + 1) M2 (mStir v b) (by omega) (by omega) h2 (mWf_stir hv hb0 (by omega)) ((mStir_ne (by omega) (by omega)).trans hv2) (hft1.tr hfr.ft) hst
      refine q_iload gg14_2 rfl ?_
      refine z_const gg14_3 (v := 20) rfl ?_
      refine z_icmpgt gg14_5 (tg := 52) rfl (by omega) (by omega) (fun z => absurd z (by omega)) (fun c1 => ?_)
      refine q_aload gg14_8 rfl ?_
      refine q_call1 gg14_9 tt27 rfl (Nat.le_of_ble_eq_true rfl) (hm_rv (by decide +kernel)) (ls' := [some _]) rfl rfl ?_
      refine c_beginTrial (h.ft hft) hw (fun M1 h1 h17 hft1 => ?_)
      show hm_Wp _ _ _ _ _ _ _
      refine z_const gg14_12 (v := 0) rfl ?_
      refine q_istore gg14_13 rfl ?_
      exact L1 j.toNat 0 M1 w (by decide) (by omega) h1 hw rfl (hft.tr hft1) rfl
  refine z_const gg14_0 (v := 0) rfl ?_
  refine q_istore gg14_1 rfl ?_
  exact L 21 0 M none rfl (by decide) (by decide) FT.rf rfl
theorem c_stirs (hb : zR b) (hz : zR n) (h : Hb M 7 w) (hw : mWf w) (h3 : w 3 ≤ 9999) (kk : ∀ (M' : hm_M), FT M M' → Q (some (.inl (zI (aStirs w b n)))) M') : hm_Wp (d + 6) 104 0 [some (.inr (.inr 0)), some (.inl (zI b)), some (.inl (zI n))] [] M Q := by
  have hn := hw.1.1
  have h4 := h.1.1
  unfold zR at hz hb
  refine q_aload gg104_0 rfl ?_
  refine q_getr gg104_1 rfl ?_
  refine q_iload gg104_4 rfl ?_
  refine q_call2 gg104_5 tt32 rfl (Nat.le_of_ble_eq_true rfl) (hm_rv (by decide +kernel)) (ls' := [some _, some _]) rfl rfl ?_
  refine q_iload gg32_0 rfl ?_
  refine z_iflt gg32_1 (tg := 16) rfl (by omega) (fun c1 => ?_) (fun c1 => ?_)
  · try (exfalso; omega)
    all_goals (
      refine z_const gg32_16 (v := 0) rfl ?_
      refine z_zretC gg32_17 (by omega) ?_
      refine z_ifeq gg104_8 (tg := 18) rfl (by decide) (fun _ => ?_) (fun z => absurd z (by decide))
      refine z_neg gg104_18 ?_
      refine q_iret gg104_20 ?_
      refine qv ?_ (kk _ FT.rf)
      unfold aStirs
      rw [if_neg (by omega)]
    )
  · try (exfalso; omega)
    all_goals (
      refine q_iload gg32_4 rfl ?_
      refine q_aload gg32_5 rfl ?_
      first | refine z_getf gg32_6 rfl (by assumption) ?_ | refine q_getf gg32_6 rfl ?_
      refine z_icmpge gg32_9 (tg := 16) rfl (by omega) (by omega) (fun c2 => ?_) (fun c2 => ?_)
      · try (exfalso; omega)
        all_goals (
          refine z_const gg32_16 (v := 0) rfl ?_
          refine z_zretC gg32_17 (by omega) ?_
          refine z_ifeq gg104_8 (tg := 18) rfl (by decide) (fun _ => ?_) (fun z => absurd z (by decide))
          refine z_neg gg104_18 ?_
          refine q_iret gg104_20 ?_
          refine qv ?_ (kk _ FT.rf)
          unfold aStirs
          rw [if_neg (by omega)]
        )
      · try (exfalso; omega)
        all_goals (
          refine z_const gg32_12 (v := 1) rfl ?_
          refine q_goto gg32_13 (tg := 17) rfl ?_
          refine z_zretC gg32_17 (by omega) ?_
          refine z_ifeq gg104_8 (tg := 18) rfl (by decide) (fun z => absurd z (by decide)) (fun _ => ?_)
          refine q_iload gg104_11 rfl ?_
          refine q_call1 gg104_12 tt123 rfl (Nat.le_of_ble_eq_true rfl) rfl (ls' := [some _]) rfl rfl ?_
          refine q_iload gg123_0 rfl ?_
          refine z_const gg123_1 (v := 1) rfl ?_
          refine z_icmplt gg123_2 (tg := 15) rfl (by omega) (by omega) (fun c3 => ?_) (fun c3 => ?_)
          · try (exfalso; omega)
            all_goals (
              refine z_const gg123_15 (v := 0) rfl ?_
              refine z_zretC gg123_16 (by omega) ?_
              refine z_ifne gg104_15 (tg := 21) rfl (by decide) (fun z => absurd z (by decide)) (fun _ => ?_)
              refine z_neg gg104_18 ?_
              refine q_iret gg104_20 ?_
              refine qv ?_ (kk _ FT.rf)
              unfold aStirs
              rw [if_neg (by omega)]
            )
          · try (exfalso; omega)
            all_goals (
              refine q_iload gg123_5 rfl ?_
              refine z_const gg123_6 (v := 30) rfl ?_
              refine z_icmpgt gg123_8 (tg := 15) rfl (by omega) (by omega) (fun c4 => ?_) (fun c4 => ?_)
              · try (exfalso; omega)
                all_goals (
                  refine z_const gg123_15 (v := 0) rfl ?_
                  refine z_zretC gg123_16 (by omega) ?_
                  refine z_ifne gg104_15 (tg := 21) rfl (by decide) (fun z => absurd z (by decide)) (fun _ => ?_)
                  refine z_neg gg104_18 ?_
                  refine q_iret gg104_20 ?_
                  refine qv ?_ (kk _ FT.rf)
                  unfold aStirs
                  rw [if_neg (by omega)]
                )
              · try (exfalso; omega)
                all_goals (
                  refine z_const gg123_11 (v := 1) rfl ?_
                  refine q_goto gg123_12 (tg := 16) rfl ?_
                  refine z_zretC gg123_16 (by omega) ?_
                  refine z_ifne gg104_15 (tg := 21) rfl (by decide) (fun _ => ?_) (fun z => absurd z (by decide))
                  refine q_aload gg104_21 rfl ?_
                  refine q_getr gg104_22 rfl ?_
                  refine q_iload gg104_25 rfl ?_
                  refine q_iload gg104_26 rfl ?_
                  refine q_call3 gg104_27 tt14 rfl (Nat.le_of_ble_eq_true rfl) (hm_rv (by decide +kernel)) (ls' := [some _, some _, some _, none, none]) rfl rfl ?_
                  refine c_fewestStirs (by omega) (by omega) h hw h3 (by omega) (by omega) (fun M1 hft => ?_)
                  show hm_Wp _ _ _ _ (_ :: _) _ _
                  refine q_iret gg104_30 ?_
                  refine qv ?_ (kk _ hft)
                  unfold aStirs
                  rw [if_pos (by omega)]
                )
            )
        )
    )
theorem r_stirs (hb : zR b) (hz : zR n) (hf : aw (M 36) 53 0 20000 w) (hw : mWf w) (h3 : w 3 ≤ 9999) (kk : ∀ (M' : hm_M), FR M M' → Q (some (.inl (zI (aStirs w b n)))) M') : hm_Wp (d + 6) 181 0 [some (.inr (.inr 30)), some (.inl (zI b)), some (.inl (zI n)), none, none] [] M Q := by
  have hn2 := hw.1.1
  unfold zR at hz hb
  have L : 0 ≤ b → b < w 2 → 1 ≤ n → n ≤ 30 → ∀ (m : Nat) (j : Int) (N : hm_M) (x4 : Option hm_V), hm_free [some (.inr (.inr 30)), some (.inl (zI b)), some (.inl (zI n)), some (.inl (zI j)), x4] 4 = true → 0 ≤ j → j + m = 21 → FR M N → aSt w b n m j = aSt w b n 21 0 → hm_Wp (d + 6) 181 20 [some (.inr (.inr 30)), some (.inl (zI b)), some (.inl (zI n)), some (.inl (zI j)), x4] [] N Q := by
    intro hb0 hb1 hn1 hn30 m
    have hA : aStirs w b n = aSt w b n 21 0 := by unfold aStirs; rw [if_pos ⟨hb0, hb1, hn1, hn30⟩]
    induction m with
    | zero =>
      intro j N x4 hx hj0 hjm hft heq
      refine q_iload gg181_20 rfl ?_
      refine z_const gg181_21 (v := 21) rfl ?_
      refine z_icmpge gg181_23 (tg := 91) rfl (by omega) (by omega) (fun c1 => ?_) (fun z => absurd z (by omega))
      refine z_neg gg181_91 ?_
      refine q_iret gg181_93 ?_
      refine qv ?_ (kk _ hft)
      rw [hA, ← heq]
      rfl
    | succ m ih =>
      intro j N x4 hx hj0 hjm hft heq
      have h36 : aw (N 36) 53 0 20000 w := by rw [hft 36 (by decide)]; exact hf
      have hwj := mStirs_wf j.toNat hw hb0 hb1
      have L1 : ∀ (m' : Nat) (k : Int) (f : Nat → Int32) (v : Int → Int), 0 ≤ k → k + m' = j → aw f 53 0 20000 v → mStirs m' v b = mStirs j.toNat w b → hm_Wp (d + 6) 181 42 [some (.inr (.inr 30)), some (.inl (zI b)), some (.inl (zI n)), some (.inl (zI j)), some (.inl (zI k))] [] (hm_row N 38 f) Q := by
        intro m'
        induction m' with
        | zero =>
          intro k f v hk0 hkm hf hst
          simp only [mStirs] at hst
          subst hst
          refine q_iload gg181_42 rfl ?_
          refine q_iload gg181_44 rfl ?_
          refine z_icmpge gg181_45 (tg := 62) rfl (by omega) (by omega) (fun c1 => ?_) (fun z => absurd z (by omega))
          refine q_aload gg181_62 rfl ?_
          refine q_iload gg181_63 rfl ?_
          refine q_call2 gg181_64 tt175 rfl (Nat.le_of_ble_eq_true rfl) (hm_rv (by decide +kernel)) (ls' := [some _, some _, none]) rfl rfl ?_
          refine r_goesOn hf hwj.1.1 (by omega) (by omega) (by rw [hwj.2.2]; omega) (fun f2 hf2 => ?_)
          have hft2 : FR M (hm_row N 38 f2) := fun k hk => (FR.row k hk).trans (hft k hk)
          show hm_Wp _ _ _ _ _ _ _
          refine q_aload gg181_67 rfl ?_
          refine q_getr gg181_68 rfl ?_
          refine z_const gg181_71 (v := 4) rfl ?_
          refine z_const gg181_72 (v := 7) rfl ?_
          refine q_iload gg181_74 rfl ?_
          first | refine z_imul gg181_75 ?_ | refine q_imul gg181_75 ?_
          first | refine z_iadd gg181_76 ?_ | refine q_iadd gg181_76 ?_
          refine z_const gg181_77 (v := 5) rfl ?_
          first | refine z_iadd gg181_78 ?_ | refine q_iadd gg181_78 ?_
          first | refine z_alr gg181_79 (by first | rfl | assumption) (by assumption) (by omega) (by omega) (by omega) (by decide) (fun v79 ev79 lv79 uv79 => ?_) | refine z_alx gg181_79 rfl (by assumption) (by omega) (by omega) (by omega) (by decide) (fun v79 ev79 lv79 uv79 => ?_) <;> (try dsimp only at ev79)
          refine z_ifne gg181_80 (tg := 85) rfl (by omega) (fun c2 => ?_) (fun c2 => ?_)
          · try (exfalso; omega)
            all_goals (
              refine z_iinc gg181_85 rfl rfl ?_
              refine q_goto gg181_88 (tg := 20) rfl ?_
              refine ih (j + 1) _ _ rfl (by omega) (by omega) hft2 ?_
              rw [← heq, aSt_f (by omega)]
            )
          · try (exfalso; omega)
            all_goals (
              refine q_iload gg181_83 rfl ?_
              refine q_iret gg181_84 ?_
              refine qv ?_ (kk _ hft2)
              rw [hA, ← heq, aSt_t (by omega)]
            )
        | succ m' ih' =>
          intro k f v hk0 hkm hf hst
          refine q_iload gg181_42 rfl ?_
          refine q_iload gg181_44 rfl ?_
          refine z_icmpge gg181_45 (tg := 62) rfl (by omega) (by omega) (fun z => absurd z (by omega)) (fun c1 => ?_)
          refine q_aload gg181_48 rfl ?_
          refine q_getr gg181_49 rfl ?_
          refine q_iload gg181_52 rfl ?_
          refine q_call2 gg181_53 tt163 rfl (Nat.le_of_ble_eq_true rfl) rfl (ls' := [some _, some _, none]) rfl rfl ?_
          refine r_stirsOne rfl hf hb0 (by omega) (fun f2 hf2 => ?_)
          show hm_Wp _ _ _ _ _ _ _
          refine z_iinc gg181_56 rfl rfl ?_
          refine q_goto gg181_59 (tg := 42) rfl ?_
          exact ih' (k + 1) f2 (mStir v b) (by omega) (by omega) hf2 hst
      refine q_iload gg181_20 rfl ?_
      refine z_const gg181_21 (v := 21) rfl ?_
      refine z_icmpge gg181_23 (tg := 91) rfl (by omega) (by omega) (fun z => absurd z (by omega)) (fun c1 => ?_)
      refine q_aload gg181_26 rfl ?_
      refine q_getr gg181_27 rfl ?_
      refine z_const gg181_30 (v := 0) rfl ?_
      refine q_aload gg181_31 rfl ?_
      refine q_getr gg181_32 rfl ?_
      refine z_const gg181_35 (v := 0) rfl ?_
      refine q_call4 gg181_36 tt130 rfl (Nat.le_of_ble_eq_true rfl) rfl (ls' := [some _, some _, some _, some _, none]) rfl rfl ?_
      refine r_cpNT h36 (fun f1 hf1 => ?_)
      show hm_Wp _ _ _ _ _ _ _
      refine z_const gg181_39 (v := 0) rfl ?_
      refine q_istore gg181_40 rfl ?_
      exact L1 j.toNat 0 f1 w (by decide) (by omega) hf1 rfl
  refine q_aload gg181_0 rfl ?_
  refine q_iload gg181_1 rfl ?_
  refine q_call2 gg181_2 tt152 rfl (Nat.le_of_ble_eq_true rfl) (hm_rv (by decide +kernel)) (ls' := [some _, some _]) rfl rfl ?_
  refine q_iload gg152_0 rfl ?_
  refine z_const gg152_1 (v := 0) rfl ?_
  refine q_aload gg152_2 rfl ?_
  refine q_getr gg152_3 rfl ?_
  refine z_const gg152_6 (v := 2) rfl ?_
  first | refine z_alr gg152_7 (by first | rfl | assumption) (by assumption) (by omega) (by omega) (by omega) (by decide) (fun visBasin_7 evisBasin_7 lvisBasin_7 uvisBasin_7 => ?_) | refine z_alx gg152_7 rfl (by assumption) (by omega) (by omega) (by omega) (by decide) (fun visBasin_7 evisBasin_7 lvisBasin_7 uvisBasin_7 => ?_) <;> (try dsimp only at evisBasin_7)
  refine z_const gg152_8 (v := 1) rfl ?_
  first | refine z_isub gg152_9 ?_ | refine q_isub gg152_9 ?_
  refine q_call3 gg152_10 tt124 rfl (Nat.le_of_ble_eq_true rfl) rfl (ls' := [some _, some _, some _]) rfl rfl ?_
  refine q_iload gg124_0 rfl ?_
  refine q_iload gg124_1 rfl ?_
  refine z_icmplt gg124_2 (tg := 14) rfl (by omega) (by omega) (fun c1 => ?_) (fun c1 => ?_)
  · try (exfalso; omega)
    all_goals (
      refine z_const gg124_14 (v := 0) rfl ?_
      refine z_zretC gg124_15 (by omega) ?_
      refine z_zretC gg152_13 (by omega) ?_
      refine z_ifeq gg181_5 (tg := 15) rfl (by decide) (fun _ => ?_) (fun z => absurd z (by decide))
      refine z_neg gg181_15 ?_
      refine q_iret gg181_17 ?_
      refine qv ?_ (kk _ FR.rf)
      unfold aStirs
      rw [if_neg (by omega)]
    )
  · try (exfalso; omega)
    all_goals (
      refine q_iload gg124_5 rfl ?_
      refine q_iload gg124_6 rfl ?_
      refine z_icmpgt gg124_7 (tg := 14) rfl (by omega) (by omega) (fun c2 => ?_) (fun c2 => ?_)
      · try (exfalso; omega)
        all_goals (
          refine z_const gg124_14 (v := 0) rfl ?_
          refine z_zretC gg124_15 (by omega) ?_
          refine z_zretC gg152_13 (by omega) ?_
          refine z_ifeq gg181_5 (tg := 15) rfl (by decide) (fun _ => ?_) (fun z => absurd z (by decide))
          refine z_neg gg181_15 ?_
          refine q_iret gg181_17 ?_
          refine qv ?_ (kk _ FR.rf)
          unfold aStirs
          rw [if_neg (by omega)]
        )
      · try (exfalso; omega)
        all_goals (
          refine z_const gg124_10 (v := 1) rfl ?_
          refine q_goto gg124_11 (tg := 15) rfl ?_
          refine z_zretC gg124_15 (by omega) ?_
          refine z_zretC gg152_13 (by omega) ?_
          refine z_ifeq gg181_5 (tg := 15) rfl (by decide) (fun z => absurd z (by decide)) (fun _ => ?_)
          refine q_iload gg181_8 rfl ?_
          refine q_call1 gg181_9 tt180 rfl (Nat.le_of_ble_eq_true rfl) rfl (ls' := [some _]) rfl rfl ?_
          refine q_iload gg180_0 rfl ?_
          refine z_const gg180_1 (v := 1) rfl ?_
          refine z_const gg180_2 (v := 30) rfl ?_
          refine q_call3 gg180_4 tt124 rfl (Nat.le_of_ble_eq_true rfl) rfl (ls' := [some _, some _, some _]) rfl rfl ?_
          refine q_iload gg124_0 rfl ?_
          refine q_iload gg124_1 rfl ?_
          refine z_icmplt gg124_2 (tg := 14) rfl (by omega) (by omega) (fun c3 => ?_) (fun c3 => ?_)
          · try (exfalso; omega)
            all_goals (
              refine z_const gg124_14 (v := 0) rfl ?_
              refine z_zretC gg124_15 (by omega) ?_
              refine z_zretC gg180_7 (by omega) ?_
              refine z_ifne gg181_12 (tg := 18) rfl (by decide) (fun z => absurd z (by decide)) (fun _ => ?_)
              refine z_neg gg181_15 ?_
              refine q_iret gg181_17 ?_
              refine qv ?_ (kk _ FR.rf)
              unfold aStirs
              rw [if_neg (by omega)]
            )
          · try (exfalso; omega)
            all_goals (
              refine q_iload gg124_5 rfl ?_
              refine q_iload gg124_6 rfl ?_
              refine z_icmpgt gg124_7 (tg := 14) rfl (by omega) (by omega) (fun c4 => ?_) (fun c4 => ?_)
              · try (exfalso; omega)
                all_goals (
                  refine z_const gg124_14 (v := 0) rfl ?_
                  refine z_zretC gg124_15 (by omega) ?_
                  refine z_zretC gg180_7 (by omega) ?_
                  refine z_ifne gg181_12 (tg := 18) rfl (by decide) (fun z => absurd z (by decide)) (fun _ => ?_)
                  refine z_neg gg181_15 ?_
                  refine q_iret gg181_17 ?_
                  refine qv ?_ (kk _ FR.rf)
                  unfold aStirs
                  rw [if_neg (by omega)]
                )
              · try (exfalso; omega)
                all_goals (
                  refine z_const gg124_10 (v := 1) rfl ?_
                  refine q_goto gg124_11 (tg := 15) rfl ?_
                  refine z_zretC gg124_15 (by omega) ?_
                  refine z_zretC gg180_7 (by omega) ?_
                  refine z_ifne gg181_12 (tg := 18) rfl (by decide) (fun _ => ?_) (fun z => absurd z (by decide))
                  refine z_const gg181_18 (v := 0) rfl ?_
                  refine q_istore gg181_19 rfl ?_
                  exact L (by omega) (by omega) (by omega) (by omega) 21 0 M none rfl (by decide) (by decide) FR.rf rfl
                )
            )
        )
    )
end F4
