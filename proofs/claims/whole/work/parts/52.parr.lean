section P3
variable {d r mid pc nx q : Nat} {M N N' : hm_M} {tp w g : Int → Int} {tl k a b c p v u s lo hi fm kd na fk x y : Int} {f F : Nat → Int32} {pa : Int → Int → Int} {Q : Option hm_V → hm_M → Prop}
def RT (M : hm_M) (tp : Int → Int) (tl : Int) : Prop := M 30 6 = zI tl ∧ aw (M 35) tl 0 255 tp
def LT (M : hm_M) (tp : Int → Int) (tl k : Int) : Prop := M 30 9 = zI (tnd tp tl k) ∧ M 30 10 = zI k ∧ M 30 11 = zI (tok tp tl k) ∧ M 30 12 = zI (tvl tp tl k)
def RJ (M M' : hm_M) : Prop := (∀ q : Nat, q ≠ 30 → M' q = M q) ∧ ∀ j : Nat, (j < 9 ∨ 12 < j) → M' 30 j = M 30 j
theorem RJ.rf : RJ M M := ⟨fun _ _ => rfl, fun _ _ => rfl⟩
theorem RJ.up {j : Nat} {x : Int32} (h : RJ M N) (h1 : 9 ≤ j) (h2 : j ≤ 12) : RJ M (hm_up N 30 j x) := ⟨fun q hq => by unfold hm_up; rw [hm_row_ne _ _ hq]; exact h.1 q hq, fun i hi => up_nj (by omega) (h.2 i hi)⟩
theorem RT.j (h : RT M tp tl) (hj : RJ M N) : RT N tp tl := ⟨(hj.2 6 (by decide)).trans h.1, by rw [hj.1 35 (by decide)]; exact h.2⟩
theorem r_byte (hB : pB tp tl) (hR : RT M tp tl) (hx : 0 ≤ x) (hx2 : x ≤ 1000) (kk : Q (some (.inl (zI (pyt tp tl x)))) M) : hm_Wp d 140 0 [some (.inr (.inr 30)), some (.inl (zI x))] [] M Q := by
  obtain ⟨t1, t2⟩ := hR
  have hb := hB.2.1
  have hb0 := hB.1
  refine q_iload gg140_0 rfl ?_
  refine q_aload gg140_1 rfl ?_
  first | refine z_getf gg140_2 rfl (by first | assumption | ((repeat (first | refine up_nj (by decide) ?_ | refine up_nk (by decide) ?_ | refine row_nk (by decide) ?_)); first | assumption | exact up_at)) ?_ | refine q_getf gg140_2 rfl ?_
  refine z_icmpge gg140_5 (tg := 17) rfl (by omega) (by omega) (fun c1 => ?_) (fun c1 => ?_)
  · try (exfalso; omega)
    all_goals (
      refine z_neg gg140_17 ?_
      refine q_iret gg140_18 ?_
      refine qv ?_ kk
      first | (rw [pyt_lt (by omega)]; omega) | (rw [pyt_ge (by omega)])
    )
  · try (exfalso; omega)
    all_goals (
      refine q_aload gg140_8 rfl ?_
      refine q_getr gg140_9 rfl ?_
      refine q_iload gg140_12 rfl ?_
      first | (refine z_alr gg140_13 (by first | rfl | assumption) (by assumption) (by omega) (by omega) (by omega) (by decide) (fun v13 ev13 lv13 uv13 => ?_); try dsimp only at ev13) | (refine z_alx gg140_13 rfl (by first | assumption | ((repeat (first | refine aw_upk (by decide) ?_ | refine aw_rowk (by decide) ?_)); assumption)) (by omega) (by omega) (by first | omega | decide) (by decide) (fun v13 ev13 lv13 uv13 => ?_); try dsimp only at ev13) | refine z_alq gg140_13 rfl (by omega) (by omega) (by decide) ?_
      refine q_goto gg140_14 (tg := 18) rfl ?_
      refine q_iret gg140_18 ?_
      refine qv ?_ kk
      first | (rw [pyt_lt (by omega)]; omega) | (rw [pyt_ge (by omega)])
    )
theorem r_adv (hB : pB tp tl) (hR : RT M tp tl) (h9 : M 30 9 = zI k) (hk0 : 0 ≤ k) (hk : k ≤ tl) (kk : ∀ M', LT M' tp tl k → RJ M M' → Q none M') : hm_Wp (d + 1) 141 0 [some (.inr (.inr 30)), none] [] M Q := by
  have hb := hB.2.1
  have hr := pyt_R hB hk0
  have hfg := figs_ge tp tl k
  by_cases hF : 48 ≤ pyt tp tl k ∧ pyt tp tl k ≤ 57
  · have htn : tnd tp tl k = k + figs tp tl k := by unfold tnd; rw [if_pos hF]
    have htk : tok tp tl k = if figs tp tl k < 3 then 2 else 5 := by unfold tok; rw [if_pos hF]
    have htv : tvl tp tl k = nvj tp tl k (figs tp tl k) := by unfold tvl; rw [if_pos hF]; rfl
    have L : ∀ (m : Nat) (i : Int) (N : hm_M), 0 ≤ i → k + i + m = tl → figs tp tl k = i + figs tp tl (k + i) → N 30 9 = zI (k + i) → N 30 10 = zI k → N 30 12 = zI (nvj tp tl k i) → RJ M N → hm_Wp (d + 1) 141 38 [some (.inr (.inr 30)), some (.inl (zI (pyt tp tl k)))] [] N Q := by
      intro m
      induction m with
      | zero =>
        intro i N i0 im hfi n9 n10 n12 hJ
        have hpy := pyt_ge (tp := tp) (tl := tl) (k := k + i) (by omega)
        have hff := figs_f (tp := tp) (tl := tl) (k := k + i) (by omega)
        refine q_aload gg141_38 rfl ?_
        refine q_aload gg141_39 rfl ?_
        first | refine z_getf gg141_40 rfl (by first | assumption | ((repeat (first | refine up_nj (by decide) ?_ | refine up_nk (by decide) ?_ | refine row_nk (by decide) ?_)); first | assumption | exact up_at)) ?_ | refine q_getf gg141_40 rfl ?_
        refine q_call2 gg141_43 tt140 rfl (Nat.le_of_ble_eq_true rfl) (hm_rv (by decide +kernel)) (ls' := [some _, some _]) rfl rfl ?_
        refine r_byte hB (hR.j hJ) (by omega) (by omega) ?_
        show hm_Wp _ _ _ _ (_ :: _) _ _
        refine z_const gg141_46 (v := 48) rfl ?_
        refine z_const gg141_48 (v := 57) rfl ?_
        refine q_call3 gg141_50 tt124 rfl (Nat.le_of_ble_eq_true rfl) rfl (ls' := [some _, some _, some _]) rfl rfl ?_
        refine q_iload gg124_0 rfl ?_
        refine q_iload gg124_1 rfl ?_
        refine z_icmplt gg124_2 (tg := 14) rfl (by omega) (by omega) (fun c1 => ?_) (fun c1 => ?_)
        · try (exfalso; omega)
          all_goals (
            refine z_const gg124_14 (v := 0) rfl ?_
            refine z_zretC gg124_15 (by omega) ?_
            refine z_ifeq gg141_53 (tg := 112) rfl (by decide) (fun _ => ?_) (fun z => absurd z (by decide))
            refine q_aload gg141_112 rfl ?_
            refine q_aload gg141_113 rfl ?_
            first | refine z_getf gg141_114 rfl (by first | assumption | ((repeat (first | refine up_nj (by decide) ?_ | refine up_nk (by decide) ?_ | refine row_nk (by decide) ?_)); first | assumption | exact up_at)) ?_ | refine q_getf gg141_114 rfl ?_
            refine q_aload gg141_117 rfl ?_
            first | refine z_getf gg141_118 rfl (by first | assumption | ((repeat (first | refine up_nj (by decide) ?_ | refine up_nk (by decide) ?_ | refine row_nk (by decide) ?_)); first | assumption | exact up_at)) ?_ | refine q_getf gg141_118 rfl ?_
            first | refine z_isub gg141_121 ?_ | refine q_isub gg141_121 ?_
            refine z_const gg141_122 (v := 3) rfl ?_
            refine z_icmpge gg141_123 (tg := 130) rfl (by omega) (by omega) (fun c2 => ?_) (fun c2 => ?_)
            · try (exfalso; omega)
              all_goals (
                refine z_const gg141_130 (v := 5) rfl ?_
                refine q_putf gg141_131 rfl ?_
                refine q_ret gg141_134 ?_
                refine kk _ ⟨up_nj (by decide) (n9.trans (congrArg zI (by omega))), up_nj (by decide) n10, up_at.trans (congrArg zI (by rw [htk]; (repeat' split) <;> omega)), up_nj (by decide) (n12.trans (congrArg zI (by rw [htv]; congr 1; omega)))⟩ (hJ.up (by decide) (by decide))
              )
            · try (exfalso; omega)
              all_goals (
                refine z_const gg141_126 (v := 2) rfl ?_
                refine q_goto gg141_127 (tg := 131) rfl ?_
                refine q_putf gg141_131 rfl ?_
                refine q_ret gg141_134 ?_
                refine kk _ ⟨up_nj (by decide) (n9.trans (congrArg zI (by omega))), up_nj (by decide) n10, up_at.trans (congrArg zI (by rw [htk]; (repeat' split) <;> omega)), up_nj (by decide) (n12.trans (congrArg zI (by rw [htv]; congr 1; omega)))⟩ (hJ.up (by decide) (by decide))
              )
          )
        · try (exfalso; omega)
          all_goals (
            refine q_iload gg124_5 rfl ?_
            refine q_iload gg124_6 rfl ?_
            refine z_icmpgt gg124_7 (tg := 14) rfl (by omega) (by omega) (fun c2 => ?_) (fun c2 => ?_)
            · try (exfalso; omega)
              all_goals (
                refine z_const gg124_14 (v := 0) rfl ?_
                refine z_zretC gg124_15 (by omega) ?_
                refine z_ifeq gg141_53 (tg := 112) rfl (by decide) (fun _ => ?_) (fun z => absurd z (by decide))
                refine q_aload gg141_112 rfl ?_
                refine q_aload gg141_113 rfl ?_
                first | refine z_getf gg141_114 rfl (by first | assumption | ((repeat (first | refine up_nj (by decide) ?_ | refine up_nk (by decide) ?_ | refine row_nk (by decide) ?_)); first | assumption | exact up_at)) ?_ | refine q_getf gg141_114 rfl ?_
                refine q_aload gg141_117 rfl ?_
                first | refine z_getf gg141_118 rfl (by first | assumption | ((repeat (first | refine up_nj (by decide) ?_ | refine up_nk (by decide) ?_ | refine row_nk (by decide) ?_)); first | assumption | exact up_at)) ?_ | refine q_getf gg141_118 rfl ?_
                first | refine z_isub gg141_121 ?_ | refine q_isub gg141_121 ?_
                refine z_const gg141_122 (v := 3) rfl ?_
                refine z_icmpge gg141_123 (tg := 130) rfl (by omega) (by omega) (fun c3 => ?_) (fun c3 => ?_)
                · try (exfalso; omega)
                  all_goals (
                    refine z_const gg141_130 (v := 5) rfl ?_
                    refine q_putf gg141_131 rfl ?_
                    refine q_ret gg141_134 ?_
                    refine kk _ ⟨up_nj (by decide) (n9.trans (congrArg zI (by omega))), up_nj (by decide) n10, up_at.trans (congrArg zI (by rw [htk]; (repeat' split) <;> omega)), up_nj (by decide) (n12.trans (congrArg zI (by rw [htv]; congr 1; omega)))⟩ (hJ.up (by decide) (by decide))
                  )
                · try (exfalso; omega)
                  all_goals (
                    refine z_const gg141_126 (v := 2) rfl ?_
                    refine q_goto gg141_127 (tg := 131) rfl ?_
                    refine q_putf gg141_131 rfl ?_
                    refine q_ret gg141_134 ?_
                    refine kk _ ⟨up_nj (by decide) (n9.trans (congrArg zI (by omega))), up_nj (by decide) n10, up_at.trans (congrArg zI (by rw [htk]; (repeat' split) <;> omega)), up_nj (by decide) (n12.trans (congrArg zI (by rw [htv]; congr 1; omega)))⟩ (hJ.up (by decide) (by decide))
                  )
              )
            · try (exfalso; omega)
              all_goals (
                refine z_const gg124_10 (v := 1) rfl ?_
                refine q_goto gg124_11 (tg := 15) rfl ?_
                refine z_zretC gg124_15 (by omega) ?_
                refine z_ifeq gg141_53 (tg := 112) rfl (by decide) (fun z => absurd z (by decide)) (fun _ => ?_)
                exfalso
                omega
              )
          )
      | succ m ih =>
        intro i N i0 im hfi n9 n10 n12 hJ
        have hpri := pyt_R (tp := tp) (k := k + i) hB (by omega)
        have hV : nvj tp tl k (i + 1) = if i < 2 then 10 * nvj tp tl k i + pyt tp tl (k + i) - 48 else nvj tp tl k i := by
          unfold nvj
          by_cases i00 : i = 0
          · subst i00; simp
          · by_cases i11 : i = 1
            · subst i11; simp
            · rw [if_neg (by omega), if_neg (by omega), if_neg (by omega), if_neg (by omega), if_neg (by omega)]
        refine q_aload gg141_38 rfl ?_
        refine q_aload gg141_39 rfl ?_
        first | refine z_getf gg141_40 rfl (by first | assumption | ((repeat (first | refine up_nj (by decide) ?_ | refine up_nk (by decide) ?_ | refine row_nk (by decide) ?_)); first | assumption | exact up_at)) ?_ | refine q_getf gg141_40 rfl ?_
        refine q_call2 gg141_43 tt140 rfl (Nat.le_of_ble_eq_true rfl) (hm_rv (by decide +kernel)) (ls' := [some _, some _]) rfl rfl ?_
        refine r_byte hB (hR.j hJ) (by omega) (by omega) ?_
        show hm_Wp _ _ _ _ (_ :: _) _ _
        refine z_const gg141_46 (v := 48) rfl ?_
        refine z_const gg141_48 (v := 57) rfl ?_
        refine q_call3 gg141_50 tt124 rfl (Nat.le_of_ble_eq_true rfl) rfl (ls' := [some _, some _, some _]) rfl rfl ?_
        refine q_iload gg124_0 rfl ?_
        refine q_iload gg124_1 rfl ?_
        refine z_icmplt gg124_2 (tg := 14) rfl (by omega) (by omega) (fun c1 => ?_) (fun c1 => ?_)
        · try (exfalso; omega)
          all_goals (
            refine z_const gg124_14 (v := 0) rfl ?_
            refine z_zretC gg124_15 (by omega) ?_
            refine z_ifeq gg141_53 (tg := 112) rfl (by decide) (fun _ => ?_) (fun z => absurd z (by decide))
            have hff := figs_f (tp := tp) (tl := tl) (k := k + i) (by omega)
            refine q_aload gg141_112 rfl ?_
            refine q_aload gg141_113 rfl ?_
            first | refine z_getf gg141_114 rfl (by first | assumption | ((repeat (first | refine up_nj (by decide) ?_ | refine up_nk (by decide) ?_ | refine row_nk (by decide) ?_)); first | assumption | exact up_at)) ?_ | refine q_getf gg141_114 rfl ?_
            refine q_aload gg141_117 rfl ?_
            first | refine z_getf gg141_118 rfl (by first | assumption | ((repeat (first | refine up_nj (by decide) ?_ | refine up_nk (by decide) ?_ | refine row_nk (by decide) ?_)); first | assumption | exact up_at)) ?_ | refine q_getf gg141_118 rfl ?_
            first | refine z_isub gg141_121 ?_ | refine q_isub gg141_121 ?_
            refine z_const gg141_122 (v := 3) rfl ?_
            refine z_icmpge gg141_123 (tg := 130) rfl (by omega) (by omega) (fun c1 => ?_) (fun c1 => ?_)
            · try (exfalso; omega)
              all_goals (
                refine z_const gg141_130 (v := 5) rfl ?_
                refine q_putf gg141_131 rfl ?_
                refine q_ret gg141_134 ?_
                refine kk _ ⟨up_nj (by decide) (n9.trans (congrArg zI (by omega))), up_nj (by decide) n10, up_at.trans (congrArg zI (by rw [htk]; (repeat' split) <;> omega)), up_nj (by decide) (n12.trans (congrArg zI (by rw [htv]; congr 1; omega)))⟩ (hJ.up (by decide) (by decide))
              )
            · try (exfalso; omega)
              all_goals (
                refine z_const gg141_126 (v := 2) rfl ?_
                refine q_goto gg141_127 (tg := 131) rfl ?_
                refine q_putf gg141_131 rfl ?_
                refine q_ret gg141_134 ?_
                refine kk _ ⟨up_nj (by decide) (n9.trans (congrArg zI (by omega))), up_nj (by decide) n10, up_at.trans (congrArg zI (by rw [htk]; (repeat' split) <;> omega)), up_nj (by decide) (n12.trans (congrArg zI (by rw [htv]; congr 1; omega)))⟩ (hJ.up (by decide) (by decide))
              )
          )
        · try (exfalso; omega)
          all_goals (
            refine q_iload gg124_5 rfl ?_
            refine q_iload gg124_6 rfl ?_
            refine z_icmpgt gg124_7 (tg := 14) rfl (by omega) (by omega) (fun c2 => ?_) (fun c2 => ?_)
            · try (exfalso; omega)
              all_goals (
                refine z_const gg124_14 (v := 0) rfl ?_
                refine z_zretC gg124_15 (by omega) ?_
                refine z_ifeq gg141_53 (tg := 112) rfl (by decide) (fun _ => ?_) (fun z => absurd z (by decide))
                have hff := figs_f (tp := tp) (tl := tl) (k := k + i) (by omega)
                refine q_aload gg141_112 rfl ?_
                refine q_aload gg141_113 rfl ?_
                first | refine z_getf gg141_114 rfl (by first | assumption | ((repeat (first | refine up_nj (by decide) ?_ | refine up_nk (by decide) ?_ | refine row_nk (by decide) ?_)); first | assumption | exact up_at)) ?_ | refine q_getf gg141_114 rfl ?_
                refine q_aload gg141_117 rfl ?_
                first | refine z_getf gg141_118 rfl (by first | assumption | ((repeat (first | refine up_nj (by decide) ?_ | refine up_nk (by decide) ?_ | refine row_nk (by decide) ?_)); first | assumption | exact up_at)) ?_ | refine q_getf gg141_118 rfl ?_
                first | refine z_isub gg141_121 ?_ | refine q_isub gg141_121 ?_
                refine z_const gg141_122 (v := 3) rfl ?_
                refine z_icmpge gg141_123 (tg := 130) rfl (by omega) (by omega) (fun c1 => ?_) (fun c1 => ?_)
                · try (exfalso; omega)
                  all_goals (
                    refine z_const gg141_130 (v := 5) rfl ?_
                    refine q_putf gg141_131 rfl ?_
                    refine q_ret gg141_134 ?_
                    refine kk _ ⟨up_nj (by decide) (n9.trans (congrArg zI (by omega))), up_nj (by decide) n10, up_at.trans (congrArg zI (by rw [htk]; (repeat' split) <;> omega)), up_nj (by decide) (n12.trans (congrArg zI (by rw [htv]; congr 1; omega)))⟩ (hJ.up (by decide) (by decide))
                  )
                · try (exfalso; omega)
                  all_goals (
                    refine z_const gg141_126 (v := 2) rfl ?_
                    refine q_goto gg141_127 (tg := 131) rfl ?_
                    refine q_putf gg141_131 rfl ?_
                    refine q_ret gg141_134 ?_
                    refine kk _ ⟨up_nj (by decide) (n9.trans (congrArg zI (by omega))), up_nj (by decide) n10, up_at.trans (congrArg zI (by rw [htk]; (repeat' split) <;> omega)), up_nj (by decide) (n12.trans (congrArg zI (by rw [htv]; congr 1; omega)))⟩ (hJ.up (by decide) (by decide))
                  )
              )
            · try (exfalso; omega)
              all_goals (
                refine z_const gg124_10 (v := 1) rfl ?_
                refine q_goto gg124_11 (tg := 15) rfl ?_
                refine z_zretC gg124_15 (by omega) ?_
                refine z_ifeq gg141_53 (tg := 112) rfl (by decide) (fun z => absurd z (by decide)) (fun _ => ?_)
                refine q_aload gg141_56 rfl ?_
                refine q_aload gg141_57 rfl ?_
                first | refine z_getf gg141_58 rfl (by first | assumption | ((repeat (first | refine up_nj (by decide) ?_ | refine up_nk (by decide) ?_ | refine row_nk (by decide) ?_)); first | assumption | exact up_at)) ?_ | refine q_getf gg141_58 rfl ?_
                refine q_aload gg141_61 rfl ?_
                first | refine z_getf gg141_62 rfl (by first | assumption | ((repeat (first | refine up_nj (by decide) ?_ | refine up_nk (by decide) ?_ | refine row_nk (by decide) ?_)); first | assumption | exact up_at)) ?_ | refine q_getf gg141_62 rfl ?_
                first | refine z_isub gg141_65 ?_ | refine q_isub gg141_65 ?_
                refine z_const gg141_66 (v := 2) rfl ?_
                refine z_icmpge gg141_67 (tg := 92) rfl (by omega) (by omega) (fun c3 => ?_) (fun c3 => ?_)
                · try (exfalso; omega)
                  all_goals (
                    refine q_aload gg141_92 rfl ?_
                    first | refine z_getf gg141_93 rfl (by first | assumption | ((repeat (first | refine up_nj (by decide) ?_ | refine up_nk (by decide) ?_ | refine row_nk (by decide) ?_)); first | assumption | exact up_at)) ?_ | refine q_getf gg141_93 rfl ?_
                    have hft := figs_t (tp := tp) (tl := tl) (k := k + i) (by omega)
                    refine q_putf gg141_96 rfl ?_
                    refine q_aload gg141_99 rfl ?_
                    refine q_dup gg141_100 rfl ?_
                    first | refine z_getf gg141_101 rfl (by first | assumption | ((repeat (first | refine up_nj (by decide) ?_ | refine up_nk (by decide) ?_ | refine row_nk (by decide) ?_)); first | assumption | exact up_at)) ?_ | refine q_getf gg141_101 rfl ?_
                    refine z_const gg141_104 (v := 1) rfl ?_
                    first | refine z_iadd gg141_105 ?_ | refine q_iadd gg141_105 ?_
                    refine q_putf gg141_106 rfl ?_
                    refine q_goto gg141_109 (tg := 38) rfl ?_
                    refine ih (i + 1) _ (by omega) (by omega) (by rw [show k + (i + 1) = k + i + 1 by omega]; omega) (up_at.trans (congrArg zI (by omega))) (up_nj (by decide) (up_nj (by decide) n10)) (up_nj (by decide) (up_at.trans (congrArg zI ?_))) ((hJ.up (by decide) (by decide)).up (by decide) (by decide))
                    rw [hV]
                    split <;> first | rfl | omega
                  )
                · try (exfalso; omega)
                  all_goals (
                    refine z_const gg141_70 (v := 10) rfl ?_
                    refine q_aload gg141_72 rfl ?_
                    first | refine z_getf gg141_73 rfl (by first | assumption | ((repeat (first | refine up_nj (by decide) ?_ | refine up_nk (by decide) ?_ | refine row_nk (by decide) ?_)); first | assumption | exact up_at)) ?_ | refine q_getf gg141_73 rfl ?_
                    first | refine z_imul gg141_76 ?_ | refine q_imul gg141_76 ?_
                    refine q_aload gg141_77 rfl ?_
                    refine q_aload gg141_78 rfl ?_
                    first | refine z_getf gg141_79 rfl (by first | assumption | ((repeat (first | refine up_nj (by decide) ?_ | refine up_nk (by decide) ?_ | refine row_nk (by decide) ?_)); first | assumption | exact up_at)) ?_ | refine q_getf gg141_79 rfl ?_
                    refine q_call2 gg141_82 tt140 rfl (Nat.le_of_ble_eq_true rfl) (hm_rv (by decide +kernel)) (ls' := [some _, some _]) rfl rfl ?_
                    refine r_byte hB (hR.j hJ) (by omega) (by omega) ?_
                    show hm_Wp _ _ _ _ (_ :: _) _ _
                    first | refine z_iadd gg141_85 ?_ | refine q_iadd gg141_85 ?_
                    refine z_const gg141_86 (v := 48) rfl ?_
                    first | refine z_isub gg141_88 ?_ | refine q_isub gg141_88 ?_
                    refine q_goto gg141_89 (tg := 96) rfl ?_
                    have hft := figs_t (tp := tp) (tl := tl) (k := k + i) (by omega)
                    refine q_putf gg141_96 rfl ?_
                    refine q_aload gg141_99 rfl ?_
                    refine q_dup gg141_100 rfl ?_
                    first | refine z_getf gg141_101 rfl (by first | assumption | ((repeat (first | refine up_nj (by decide) ?_ | refine up_nk (by decide) ?_ | refine row_nk (by decide) ?_)); first | assumption | exact up_at)) ?_ | refine q_getf gg141_101 rfl ?_
                    refine z_const gg141_104 (v := 1) rfl ?_
                    first | refine z_iadd gg141_105 ?_ | refine q_iadd gg141_105 ?_
                    refine q_putf gg141_106 rfl ?_
                    refine q_goto gg141_109 (tg := 38) rfl ?_
                    refine ih (i + 1) _ (by omega) (by omega) (by rw [show k + (i + 1) = k + i + 1 by omega]; omega) (up_at.trans (congrArg zI (by omega))) (up_nj (by decide) (up_nj (by decide) n10)) (up_nj (by decide) (up_at.trans (congrArg zI ?_))) ((hJ.up (by decide) (by decide)).up (by decide) (by decide))
                    rw [hV]
                    split <;> first | rfl | omega
                  )
              )
          )
    refine q_aload gg141_0 rfl ?_
    refine q_aload gg141_1 rfl ?_
    first | refine z_getf gg141_2 rfl (by first | assumption | ((repeat (first | refine up_nj (by decide) ?_ | refine up_nk (by decide) ?_ | refine row_nk (by decide) ?_)); first | assumption | exact up_at)) ?_ | refine q_getf gg141_2 rfl ?_
    refine q_putf gg141_5 rfl ?_
    refine q_aload gg141_8 rfl ?_
    refine q_aload gg141_9 rfl ?_
    first | refine z_getf gg141_10 rfl (by first | assumption | ((repeat (first | refine up_nj (by decide) ?_ | refine up_nk (by decide) ?_ | refine row_nk (by decide) ?_)); first | assumption | exact up_at)) ?_ | refine q_getf gg141_10 rfl ?_
    refine q_call2 gg141_13 tt140 rfl (Nat.le_of_ble_eq_true rfl) (hm_rv (by decide +kernel)) (ls' := [some _, some _]) rfl rfl ?_
    refine r_byte hB (hR.j (RJ.rf.up (by decide) (by decide))) (by omega) (by omega) ?_
    show hm_Wp _ _ _ _ (_ :: _) _ _
    refine q_istore gg141_16 rfl ?_
    refine q_aload gg141_17 rfl ?_
    refine q_iload gg141_18 rfl ?_
    refine q_putf gg141_19 rfl ?_
    refine q_iload gg141_22 rfl ?_
    refine z_const gg141_23 (v := 48) rfl ?_
    refine z_const gg141_25 (v := 57) rfl ?_
    refine q_call3 gg141_27 tt124 rfl (Nat.le_of_ble_eq_true rfl) rfl (ls' := [some _, some _, some _]) rfl rfl ?_
    refine q_iload gg124_0 rfl ?_
    refine q_iload gg124_1 rfl ?_
    refine z_icmplt gg124_2 (tg := 14) rfl (by omega) (by omega) (fun c1 => ?_) (fun c1 => ?_)
    · try (exfalso; omega)
      all_goals (
        refine z_const gg124_14 (v := 0) rfl ?_
        refine z_zretC gg124_15 (by omega) ?_
        refine z_ifeq gg141_30 (tg := 135) rfl (by decide) (fun _ => ?_) (fun z => absurd z (by decide))
        refine q_aload gg141_135 rfl ?_
        refine q_iload gg141_136 rfl ?_
        refine z_ifge gg141_137 (tg := 144) rfl (by omega) (fun c2 => ?_) (fun c2 => ?_)
        · try (exfalso; omega)
          all_goals (
            refine q_iload gg141_144 rfl ?_
            refine z_const gg141_145 (v := 97) rfl ?_
            refine z_const gg141_147 (v := 122) rfl ?_
            refine q_call3 gg141_149 tt124 rfl (Nat.le_of_ble_eq_true rfl) rfl (ls' := [some _, some _, some _]) rfl rfl ?_
            refine q_iload gg124_0 rfl ?_
            refine q_iload gg124_1 rfl ?_
            refine z_icmplt gg124_2 (tg := 14) rfl (by omega) (by omega) (fun c3 => ?_) (fun c3 => ?_)
            · try (exfalso; omega)
              all_goals (
                refine z_const gg124_14 (v := 0) rfl ?_
                refine z_zretC gg124_15 (by omega) ?_
                refine z_ifeq gg141_152 (tg := 159) rfl (by decide) (fun _ => ?_) (fun z => absurd z (by decide))
                refine q_iload gg141_159 rfl ?_
                refine z_const gg141_160 (v := 44) rfl ?_
                refine z_icmpne gg141_162 (tg := 169) rfl (by omega) (by omega) (fun c4 => ?_) (fun c4 => ?_)
                · try (exfalso; omega)
                  all_goals (
                    refine q_iload gg141_169 rfl ?_
                    refine z_const gg141_170 (v := 59) rfl ?_
                    refine z_icmpne gg141_172 (tg := 179) rfl (by omega) (by omega) (fun c5 => ?_) (fun c5 => ?_)
                    · try (exfalso; omega)
                      all_goals (
                        refine z_const gg141_179 (v := 5) rfl ?_
                        refine q_putf gg141_180 rfl ?_
                        refine q_aload gg141_183 rfl ?_
                        refine q_dup gg141_184 rfl ?_
                        first | refine z_getf gg141_185 rfl (by first | assumption | ((repeat (first | refine up_nj (by decide) ?_ | refine up_nk (by decide) ?_ | refine row_nk (by decide) ?_)); first | assumption | exact up_at)) ?_ | refine q_getf gg141_185 rfl ?_
                        refine q_aload gg141_188 rfl ?_
                        first | refine z_getf gg141_189 rfl (by first | assumption | ((repeat (first | refine up_nj (by decide) ?_ | refine up_nk (by decide) ?_ | refine row_nk (by decide) ?_)); first | assumption | exact up_at)) ?_ | refine q_getf gg141_189 rfl ?_
                        refine z_ifne gg141_192 (tg := 199) rfl (by omega) (fun c6 => ?_) (fun c6 => ?_)
                        · try (exfalso; omega)
                          all_goals (
                            refine z_const gg141_199 (v := 1) rfl ?_
                            first | refine z_iadd gg141_200 ?_ | refine q_iadd gg141_200 ?_
                            refine q_putf gg141_201 rfl ?_
                            refine q_ret gg141_204 ?_
                            exfalso
                            omega
                          )
                        · try (exfalso; omega)
                          all_goals (
                            refine z_const gg141_195 (v := 0) rfl ?_
                            refine q_goto gg141_196 (tg := 200) rfl ?_
                            first | refine z_iadd gg141_200 ?_ | refine q_iadd gg141_200 ?_
                            refine q_putf gg141_201 rfl ?_
                            refine q_ret gg141_204 ?_
                            exfalso
                            omega
                          )
                      )
                    · try (exfalso; omega)
                      all_goals (
                        refine z_const gg141_175 (v := 4) rfl ?_
                        refine q_goto gg141_176 (tg := 180) rfl ?_
                        refine q_putf gg141_180 rfl ?_
                        refine q_aload gg141_183 rfl ?_
                        refine q_dup gg141_184 rfl ?_
                        first | refine z_getf gg141_185 rfl (by first | assumption | ((repeat (first | refine up_nj (by decide) ?_ | refine up_nk (by decide) ?_ | refine row_nk (by decide) ?_)); first | assumption | exact up_at)) ?_ | refine q_getf gg141_185 rfl ?_
                        refine q_aload gg141_188 rfl ?_
                        first | refine z_getf gg141_189 rfl (by first | assumption | ((repeat (first | refine up_nj (by decide) ?_ | refine up_nk (by decide) ?_ | refine row_nk (by decide) ?_)); first | assumption | exact up_at)) ?_ | refine q_getf gg141_189 rfl ?_
                        refine z_ifne gg141_192 (tg := 199) rfl (by omega) (fun c6 => ?_) (fun c6 => ?_)
                        · try (exfalso; omega)
                          all_goals (
                            refine z_const gg141_199 (v := 1) rfl ?_
                            first | refine z_iadd gg141_200 ?_ | refine q_iadd gg141_200 ?_
                            refine q_putf gg141_201 rfl ?_
                            refine q_ret gg141_204 ?_
                            exfalso
                            omega
                          )
                        · try (exfalso; omega)
                          all_goals (
                            refine z_const gg141_195 (v := 0) rfl ?_
                            refine q_goto gg141_196 (tg := 200) rfl ?_
                            first | refine z_iadd gg141_200 ?_ | refine q_iadd gg141_200 ?_
                            refine q_putf gg141_201 rfl ?_
                            refine q_ret gg141_204 ?_
                            exfalso
                            omega
                          )
                      )
                  )
                · try (exfalso; omega)
                  all_goals (
                    refine z_const gg141_165 (v := 3) rfl ?_
                    refine q_goto gg141_166 (tg := 180) rfl ?_
                    refine q_putf gg141_180 rfl ?_
                    refine q_aload gg141_183 rfl ?_
                    refine q_dup gg141_184 rfl ?_
                    first | refine z_getf gg141_185 rfl (by first | assumption | ((repeat (first | refine up_nj (by decide) ?_ | refine up_nk (by decide) ?_ | refine row_nk (by decide) ?_)); first | assumption | exact up_at)) ?_ | refine q_getf gg141_185 rfl ?_
                    refine q_aload gg141_188 rfl ?_
                    first | refine z_getf gg141_189 rfl (by first | assumption | ((repeat (first | refine up_nj (by decide) ?_ | refine up_nk (by decide) ?_ | refine row_nk (by decide) ?_)); first | assumption | exact up_at)) ?_ | refine q_getf gg141_189 rfl ?_
                    refine z_ifne gg141_192 (tg := 199) rfl (by omega) (fun c5 => ?_) (fun c5 => ?_)
                    · try (exfalso; omega)
                      all_goals (
                        refine z_const gg141_199 (v := 1) rfl ?_
                        first | refine z_iadd gg141_200 ?_ | refine q_iadd gg141_200 ?_
                        refine q_putf gg141_201 rfl ?_
                        refine q_ret gg141_204 ?_
                        exfalso
                        omega
                      )
                    · try (exfalso; omega)
                      all_goals (
                        refine z_const gg141_195 (v := 0) rfl ?_
                        refine q_goto gg141_196 (tg := 200) rfl ?_
                        first | refine z_iadd gg141_200 ?_ | refine q_iadd gg141_200 ?_
                        refine q_putf gg141_201 rfl ?_
                        refine q_ret gg141_204 ?_
                        exfalso
                        omega
                      )
                  )
              )
            · try (exfalso; omega)
              all_goals (
                refine q_iload gg124_5 rfl ?_
                refine q_iload gg124_6 rfl ?_
                refine z_icmpgt gg124_7 (tg := 14) rfl (by omega) (by omega) (fun c4 => ?_) (fun c4 => ?_)
                · try (exfalso; omega)
                  all_goals (
                    refine z_const gg124_14 (v := 0) rfl ?_
                    refine z_zretC gg124_15 (by omega) ?_
                    refine z_ifeq gg141_152 (tg := 159) rfl (by decide) (fun _ => ?_) (fun z => absurd z (by decide))
                    refine q_iload gg141_159 rfl ?_
                    refine z_const gg141_160 (v := 44) rfl ?_
                    refine z_icmpne gg141_162 (tg := 169) rfl (by omega) (by omega) (fun c5 => ?_) (fun c5 => ?_)
                    · try (exfalso; omega)
                      all_goals (
                        refine q_iload gg141_169 rfl ?_
                        refine z_const gg141_170 (v := 59) rfl ?_
                        refine z_icmpne gg141_172 (tg := 179) rfl (by omega) (by omega) (fun c6 => ?_) (fun c6 => ?_)
                        · try (exfalso; omega)
                          all_goals (
                            refine z_const gg141_179 (v := 5) rfl ?_
                            refine q_putf gg141_180 rfl ?_
                            refine q_aload gg141_183 rfl ?_
                            refine q_dup gg141_184 rfl ?_
                            first | refine z_getf gg141_185 rfl (by first | assumption | ((repeat (first | refine up_nj (by decide) ?_ | refine up_nk (by decide) ?_ | refine row_nk (by decide) ?_)); first | assumption | exact up_at)) ?_ | refine q_getf gg141_185 rfl ?_
                            refine q_aload gg141_188 rfl ?_
                            first | refine z_getf gg141_189 rfl (by first | assumption | ((repeat (first | refine up_nj (by decide) ?_ | refine up_nk (by decide) ?_ | refine row_nk (by decide) ?_)); first | assumption | exact up_at)) ?_ | refine q_getf gg141_189 rfl ?_
                            refine z_ifne gg141_192 (tg := 199) rfl (by omega) (fun c7 => ?_) (fun c7 => ?_)
                            · try (exfalso; omega)
                              all_goals (
                                refine z_const gg141_199 (v := 1) rfl ?_
                                first | refine z_iadd gg141_200 ?_ | refine q_iadd gg141_200 ?_
                                refine q_putf gg141_201 rfl ?_
                                refine q_ret gg141_204 ?_
                                exfalso
                                omega
                              )
                            · try (exfalso; omega)
                              all_goals (
                                refine z_const gg141_195 (v := 0) rfl ?_
                                refine q_goto gg141_196 (tg := 200) rfl ?_
                                first | refine z_iadd gg141_200 ?_ | refine q_iadd gg141_200 ?_
                                refine q_putf gg141_201 rfl ?_
                                refine q_ret gg141_204 ?_
                                exfalso
                                omega
                              )
                          )
                        · try (exfalso; omega)
                          all_goals (
                            refine z_const gg141_175 (v := 4) rfl ?_
                            refine q_goto gg141_176 (tg := 180) rfl ?_
                            refine q_putf gg141_180 rfl ?_
                            refine q_aload gg141_183 rfl ?_
                            refine q_dup gg141_184 rfl ?_
                            first | refine z_getf gg141_185 rfl (by first | assumption | ((repeat (first | refine up_nj (by decide) ?_ | refine up_nk (by decide) ?_ | refine row_nk (by decide) ?_)); first | assumption | exact up_at)) ?_ | refine q_getf gg141_185 rfl ?_
                            refine q_aload gg141_188 rfl ?_
                            first | refine z_getf gg141_189 rfl (by first | assumption | ((repeat (first | refine up_nj (by decide) ?_ | refine up_nk (by decide) ?_ | refine row_nk (by decide) ?_)); first | assumption | exact up_at)) ?_ | refine q_getf gg141_189 rfl ?_
                            refine z_ifne gg141_192 (tg := 199) rfl (by omega) (fun c7 => ?_) (fun c7 => ?_)
                            · try (exfalso; omega)
                              all_goals (
                                refine z_const gg141_199 (v := 1) rfl ?_
                                first | refine z_iadd gg141_200 ?_ | refine q_iadd gg141_200 ?_
                                refine q_putf gg141_201 rfl ?_
                                refine q_ret gg141_204 ?_
                                exfalso
                                omega
                              )
                            · try (exfalso; omega)
                              all_goals (
                                refine z_const gg141_195 (v := 0) rfl ?_
                                refine q_goto gg141_196 (tg := 200) rfl ?_
                                first | refine z_iadd gg141_200 ?_ | refine q_iadd gg141_200 ?_
                                refine q_putf gg141_201 rfl ?_
                                refine q_ret gg141_204 ?_
                                exfalso
                                omega
                              )
                          )
                      )
                    · try (exfalso; omega)
                      all_goals (
                        refine z_const gg141_165 (v := 3) rfl ?_
                        refine q_goto gg141_166 (tg := 180) rfl ?_
                        refine q_putf gg141_180 rfl ?_
                        refine q_aload gg141_183 rfl ?_
                        refine q_dup gg141_184 rfl ?_
                        first | refine z_getf gg141_185 rfl (by first | assumption | ((repeat (first | refine up_nj (by decide) ?_ | refine up_nk (by decide) ?_ | refine row_nk (by decide) ?_)); first | assumption | exact up_at)) ?_ | refine q_getf gg141_185 rfl ?_
                        refine q_aload gg141_188 rfl ?_
                        first | refine z_getf gg141_189 rfl (by first | assumption | ((repeat (first | refine up_nj (by decide) ?_ | refine up_nk (by decide) ?_ | refine row_nk (by decide) ?_)); first | assumption | exact up_at)) ?_ | refine q_getf gg141_189 rfl ?_
                        refine z_ifne gg141_192 (tg := 199) rfl (by omega) (fun c6 => ?_) (fun c6 => ?_)
                        · try (exfalso; omega)
                          all_goals (
                            refine z_const gg141_199 (v := 1) rfl ?_
                            first | refine z_iadd gg141_200 ?_ | refine q_iadd gg141_200 ?_
                            refine q_putf gg141_201 rfl ?_
                            refine q_ret gg141_204 ?_
                            exfalso
                            omega
                          )
                        · try (exfalso; omega)
                          all_goals (
                            refine z_const gg141_195 (v := 0) rfl ?_
                            refine q_goto gg141_196 (tg := 200) rfl ?_
                            first | refine z_iadd gg141_200 ?_ | refine q_iadd gg141_200 ?_
                            refine q_putf gg141_201 rfl ?_
                            refine q_ret gg141_204 ?_
                            exfalso
                            omega
                          )
                      )
                  )
                · try (exfalso; omega)
                  all_goals (
                    refine z_const gg124_10 (v := 1) rfl ?_
                    refine q_goto gg124_11 (tg := 15) rfl ?_
                    refine z_zretC gg124_15 (by omega) ?_
                    refine z_ifeq gg141_152 (tg := 159) rfl (by decide) (fun z => absurd z (by decide)) (fun _ => ?_)
                    refine z_const gg141_155 (v := 1) rfl ?_
                    refine q_goto gg141_156 (tg := 180) rfl ?_
                    refine q_putf gg141_180 rfl ?_
                    refine q_aload gg141_183 rfl ?_
                    refine q_dup gg141_184 rfl ?_
                    first | refine z_getf gg141_185 rfl (by first | assumption | ((repeat (first | refine up_nj (by decide) ?_ | refine up_nk (by decide) ?_ | refine row_nk (by decide) ?_)); first | assumption | exact up_at)) ?_ | refine q_getf gg141_185 rfl ?_
                    refine q_aload gg141_188 rfl ?_
                    first | refine z_getf gg141_189 rfl (by first | assumption | ((repeat (first | refine up_nj (by decide) ?_ | refine up_nk (by decide) ?_ | refine row_nk (by decide) ?_)); first | assumption | exact up_at)) ?_ | refine q_getf gg141_189 rfl ?_
                    refine z_ifne gg141_192 (tg := 199) rfl (by omega) (fun c5 => ?_) (fun c5 => ?_)
                    · try (exfalso; omega)
                      all_goals (
                        refine z_const gg141_199 (v := 1) rfl ?_
                        first | refine z_iadd gg141_200 ?_ | refine q_iadd gg141_200 ?_
                        refine q_putf gg141_201 rfl ?_
                        refine q_ret gg141_204 ?_
                        exfalso
                        omega
                      )
                    · try (exfalso; omega)
                      all_goals (
                        refine z_const gg141_195 (v := 0) rfl ?_
                        refine q_goto gg141_196 (tg := 200) rfl ?_
                        first | refine z_iadd gg141_200 ?_ | refine q_iadd gg141_200 ?_
                        refine q_putf gg141_201 rfl ?_
                        refine q_ret gg141_204 ?_
                        exfalso
                        omega
                      )
                  )
              )
          )
        · try (exfalso; omega)
          all_goals (
            refine z_const gg141_140 (v := 0) rfl ?_
            refine q_goto gg141_141 (tg := 180) rfl ?_
            refine q_putf gg141_180 rfl ?_
            refine q_aload gg141_183 rfl ?_
            refine q_dup gg141_184 rfl ?_
            first | refine z_getf gg141_185 rfl (by first | assumption | ((repeat (first | refine up_nj (by decide) ?_ | refine up_nk (by decide) ?_ | refine row_nk (by decide) ?_)); first | assumption | exact up_at)) ?_ | refine q_getf gg141_185 rfl ?_
            refine q_aload gg141_188 rfl ?_
            first | refine z_getf gg141_189 rfl (by first | assumption | ((repeat (first | refine up_nj (by decide) ?_ | refine up_nk (by decide) ?_ | refine row_nk (by decide) ?_)); first | assumption | exact up_at)) ?_ | refine q_getf gg141_189 rfl ?_
            refine z_ifne gg141_192 (tg := 199) rfl (by omega) (fun c3 => ?_) (fun c3 => ?_)
            · try (exfalso; omega)
              all_goals (
                refine z_const gg141_199 (v := 1) rfl ?_
                first | refine z_iadd gg141_200 ?_ | refine q_iadd gg141_200 ?_
                refine q_putf gg141_201 rfl ?_
                refine q_ret gg141_204 ?_
                exfalso
                omega
              )
            · try (exfalso; omega)
              all_goals (
                refine z_const gg141_195 (v := 0) rfl ?_
                refine q_goto gg141_196 (tg := 200) rfl ?_
                first | refine z_iadd gg141_200 ?_ | refine q_iadd gg141_200 ?_
                refine q_putf gg141_201 rfl ?_
                refine q_ret gg141_204 ?_
                exfalso
                omega
              )
          )
      )
    · try (exfalso; omega)
      all_goals (
        refine q_iload gg124_5 rfl ?_
        refine q_iload gg124_6 rfl ?_
        refine z_icmpgt gg124_7 (tg := 14) rfl (by omega) (by omega) (fun c2 => ?_) (fun c2 => ?_)
        · try (exfalso; omega)
          all_goals (
            refine z_const gg124_14 (v := 0) rfl ?_
            refine z_zretC gg124_15 (by omega) ?_
            refine z_ifeq gg141_30 (tg := 135) rfl (by decide) (fun _ => ?_) (fun z => absurd z (by decide))
            refine q_aload gg141_135 rfl ?_
            refine q_iload gg141_136 rfl ?_
            refine z_ifge gg141_137 (tg := 144) rfl (by omega) (fun c3 => ?_) (fun c3 => ?_)
            · try (exfalso; omega)
              all_goals (
                refine q_iload gg141_144 rfl ?_
                refine z_const gg141_145 (v := 97) rfl ?_
                refine z_const gg141_147 (v := 122) rfl ?_
                refine q_call3 gg141_149 tt124 rfl (Nat.le_of_ble_eq_true rfl) rfl (ls' := [some _, some _, some _]) rfl rfl ?_
                refine q_iload gg124_0 rfl ?_
                refine q_iload gg124_1 rfl ?_
                refine z_icmplt gg124_2 (tg := 14) rfl (by omega) (by omega) (fun c4 => ?_) (fun c4 => ?_)
                · try (exfalso; omega)
                  all_goals (
                    refine z_const gg124_14 (v := 0) rfl ?_
                    refine z_zretC gg124_15 (by omega) ?_
                    refine z_ifeq gg141_152 (tg := 159) rfl (by decide) (fun _ => ?_) (fun z => absurd z (by decide))
                    refine q_iload gg141_159 rfl ?_
                    refine z_const gg141_160 (v := 44) rfl ?_
                    refine z_icmpne gg141_162 (tg := 169) rfl (by omega) (by omega) (fun c5 => ?_) (fun c5 => ?_)
                    · try (exfalso; omega)
                      all_goals (
                        refine q_iload gg141_169 rfl ?_
                        refine z_const gg141_170 (v := 59) rfl ?_
                        refine z_icmpne gg141_172 (tg := 179) rfl (by omega) (by omega) (fun c6 => ?_) (fun c6 => ?_)
                        · try (exfalso; omega)
                          all_goals (
                            refine z_const gg141_179 (v := 5) rfl ?_
                            refine q_putf gg141_180 rfl ?_
                            refine q_aload gg141_183 rfl ?_
                            refine q_dup gg141_184 rfl ?_
                            first | refine z_getf gg141_185 rfl (by first | assumption | ((repeat (first | refine up_nj (by decide) ?_ | refine up_nk (by decide) ?_ | refine row_nk (by decide) ?_)); first | assumption | exact up_at)) ?_ | refine q_getf gg141_185 rfl ?_
                            refine q_aload gg141_188 rfl ?_
                            first | refine z_getf gg141_189 rfl (by first | assumption | ((repeat (first | refine up_nj (by decide) ?_ | refine up_nk (by decide) ?_ | refine row_nk (by decide) ?_)); first | assumption | exact up_at)) ?_ | refine q_getf gg141_189 rfl ?_
                            refine z_ifne gg141_192 (tg := 199) rfl (by omega) (fun c7 => ?_) (fun c7 => ?_)
                            · try (exfalso; omega)
                              all_goals (
                                refine z_const gg141_199 (v := 1) rfl ?_
                                first | refine z_iadd gg141_200 ?_ | refine q_iadd gg141_200 ?_
                                refine q_putf gg141_201 rfl ?_
                                refine q_ret gg141_204 ?_
                                exfalso
                                omega
                              )
                            · try (exfalso; omega)
                              all_goals (
                                refine z_const gg141_195 (v := 0) rfl ?_
                                refine q_goto gg141_196 (tg := 200) rfl ?_
                                first | refine z_iadd gg141_200 ?_ | refine q_iadd gg141_200 ?_
                                refine q_putf gg141_201 rfl ?_
                                refine q_ret gg141_204 ?_
                                exfalso
                                omega
                              )
                          )
                        · try (exfalso; omega)
                          all_goals (
                            refine z_const gg141_175 (v := 4) rfl ?_
                            refine q_goto gg141_176 (tg := 180) rfl ?_
                            refine q_putf gg141_180 rfl ?_
                            refine q_aload gg141_183 rfl ?_
                            refine q_dup gg141_184 rfl ?_
                            first | refine z_getf gg141_185 rfl (by first | assumption | ((repeat (first | refine up_nj (by decide) ?_ | refine up_nk (by decide) ?_ | refine row_nk (by decide) ?_)); first | assumption | exact up_at)) ?_ | refine q_getf gg141_185 rfl ?_
                            refine q_aload gg141_188 rfl ?_
                            first | refine z_getf gg141_189 rfl (by first | assumption | ((repeat (first | refine up_nj (by decide) ?_ | refine up_nk (by decide) ?_ | refine row_nk (by decide) ?_)); first | assumption | exact up_at)) ?_ | refine q_getf gg141_189 rfl ?_
                            refine z_ifne gg141_192 (tg := 199) rfl (by omega) (fun c7 => ?_) (fun c7 => ?_)
                            · try (exfalso; omega)
                              all_goals (
                                refine z_const gg141_199 (v := 1) rfl ?_
                                first | refine z_iadd gg141_200 ?_ | refine q_iadd gg141_200 ?_
                                refine q_putf gg141_201 rfl ?_
                                refine q_ret gg141_204 ?_
                                exfalso
                                omega
                              )
                            · try (exfalso; omega)
                              all_goals (
                                refine z_const gg141_195 (v := 0) rfl ?_
                                refine q_goto gg141_196 (tg := 200) rfl ?_
                                first | refine z_iadd gg141_200 ?_ | refine q_iadd gg141_200 ?_
                                refine q_putf gg141_201 rfl ?_
                                refine q_ret gg141_204 ?_
                                exfalso
                                omega
                              )
                          )
                      )
                    · try (exfalso; omega)
                      all_goals (
                        refine z_const gg141_165 (v := 3) rfl ?_
                        refine q_goto gg141_166 (tg := 180) rfl ?_
                        refine q_putf gg141_180 rfl ?_
                        refine q_aload gg141_183 rfl ?_
                        refine q_dup gg141_184 rfl ?_
                        first | refine z_getf gg141_185 rfl (by first | assumption | ((repeat (first | refine up_nj (by decide) ?_ | refine up_nk (by decide) ?_ | refine row_nk (by decide) ?_)); first | assumption | exact up_at)) ?_ | refine q_getf gg141_185 rfl ?_
                        refine q_aload gg141_188 rfl ?_
                        first | refine z_getf gg141_189 rfl (by first | assumption | ((repeat (first | refine up_nj (by decide) ?_ | refine up_nk (by decide) ?_ | refine row_nk (by decide) ?_)); first | assumption | exact up_at)) ?_ | refine q_getf gg141_189 rfl ?_
                        refine z_ifne gg141_192 (tg := 199) rfl (by omega) (fun c6 => ?_) (fun c6 => ?_)
                        · try (exfalso; omega)
                          all_goals (
                            refine z_const gg141_199 (v := 1) rfl ?_
                            first | refine z_iadd gg141_200 ?_ | refine q_iadd gg141_200 ?_
                            refine q_putf gg141_201 rfl ?_
                            refine q_ret gg141_204 ?_
                            exfalso
                            omega
                          )
                        · try (exfalso; omega)
                          all_goals (
                            refine z_const gg141_195 (v := 0) rfl ?_
                            refine q_goto gg141_196 (tg := 200) rfl ?_
                            first | refine z_iadd gg141_200 ?_ | refine q_iadd gg141_200 ?_
                            refine q_putf gg141_201 rfl ?_
                            refine q_ret gg141_204 ?_
                            exfalso
                            omega
                          )
                      )
                  )
                · try (exfalso; omega)
                  all_goals (
                    refine q_iload gg124_5 rfl ?_
                    refine q_iload gg124_6 rfl ?_
                    refine z_icmpgt gg124_7 (tg := 14) rfl (by omega) (by omega) (fun c5 => ?_) (fun c5 => ?_)
                    · try (exfalso; omega)
                      all_goals (
                        refine z_const gg124_14 (v := 0) rfl ?_
                        refine z_zretC gg124_15 (by omega) ?_
                        refine z_ifeq gg141_152 (tg := 159) rfl (by decide) (fun _ => ?_) (fun z => absurd z (by decide))
                        refine q_iload gg141_159 rfl ?_
                        refine z_const gg141_160 (v := 44) rfl ?_
                        refine z_icmpne gg141_162 (tg := 169) rfl (by omega) (by omega) (fun c6 => ?_) (fun c6 => ?_)
                        · try (exfalso; omega)
                          all_goals (
                            refine q_iload gg141_169 rfl ?_
                            refine z_const gg141_170 (v := 59) rfl ?_
                            refine z_icmpne gg141_172 (tg := 179) rfl (by omega) (by omega) (fun c7 => ?_) (fun c7 => ?_)
                            · try (exfalso; omega)
                              all_goals (
                                refine z_const gg141_179 (v := 5) rfl ?_
                                refine q_putf gg141_180 rfl ?_
                                refine q_aload gg141_183 rfl ?_
                                refine q_dup gg141_184 rfl ?_
                                first | refine z_getf gg141_185 rfl (by first | assumption | ((repeat (first | refine up_nj (by decide) ?_ | refine up_nk (by decide) ?_ | refine row_nk (by decide) ?_)); first | assumption | exact up_at)) ?_ | refine q_getf gg141_185 rfl ?_
                                refine q_aload gg141_188 rfl ?_
                                first | refine z_getf gg141_189 rfl (by first | assumption | ((repeat (first | refine up_nj (by decide) ?_ | refine up_nk (by decide) ?_ | refine row_nk (by decide) ?_)); first | assumption | exact up_at)) ?_ | refine q_getf gg141_189 rfl ?_
                                refine z_ifne gg141_192 (tg := 199) rfl (by omega) (fun c8 => ?_) (fun c8 => ?_)
                                · try (exfalso; omega)
                                  all_goals (
                                    refine z_const gg141_199 (v := 1) rfl ?_
                                    first | refine z_iadd gg141_200 ?_ | refine q_iadd gg141_200 ?_
                                    refine q_putf gg141_201 rfl ?_
                                    refine q_ret gg141_204 ?_
                                    exfalso
                                    omega
                                  )
                                · try (exfalso; omega)
                                  all_goals (
                                    refine z_const gg141_195 (v := 0) rfl ?_
                                    refine q_goto gg141_196 (tg := 200) rfl ?_
                                    first | refine z_iadd gg141_200 ?_ | refine q_iadd gg141_200 ?_
                                    refine q_putf gg141_201 rfl ?_
                                    refine q_ret gg141_204 ?_
                                    exfalso
                                    omega
                                  )
                              )
                            · try (exfalso; omega)
                              all_goals (
                                refine z_const gg141_175 (v := 4) rfl ?_
                                refine q_goto gg141_176 (tg := 180) rfl ?_
                                refine q_putf gg141_180 rfl ?_
                                refine q_aload gg141_183 rfl ?_
                                refine q_dup gg141_184 rfl ?_
                                first | refine z_getf gg141_185 rfl (by first | assumption | ((repeat (first | refine up_nj (by decide) ?_ | refine up_nk (by decide) ?_ | refine row_nk (by decide) ?_)); first | assumption | exact up_at)) ?_ | refine q_getf gg141_185 rfl ?_
                                refine q_aload gg141_188 rfl ?_
                                first | refine z_getf gg141_189 rfl (by first | assumption | ((repeat (first | refine up_nj (by decide) ?_ | refine up_nk (by decide) ?_ | refine row_nk (by decide) ?_)); first | assumption | exact up_at)) ?_ | refine q_getf gg141_189 rfl ?_
                                refine z_ifne gg141_192 (tg := 199) rfl (by omega) (fun c8 => ?_) (fun c8 => ?_)
                                · try (exfalso; omega)
                                  all_goals (
                                    refine z_const gg141_199 (v := 1) rfl ?_
                                    first | refine z_iadd gg141_200 ?_ | refine q_iadd gg141_200 ?_
                                    refine q_putf gg141_201 rfl ?_
                                    refine q_ret gg141_204 ?_
                                    exfalso
                                    omega
                                  )
                                · try (exfalso; omega)
                                  all_goals (
                                    refine z_const gg141_195 (v := 0) rfl ?_
                                    refine q_goto gg141_196 (tg := 200) rfl ?_
                                    first | refine z_iadd gg141_200 ?_ | refine q_iadd gg141_200 ?_
                                    refine q_putf gg141_201 rfl ?_
                                    refine q_ret gg141_204 ?_
                                    exfalso
                                    omega
                                  )
                              )
                          )
                        · try (exfalso; omega)
                          all_goals (
                            refine z_const gg141_165 (v := 3) rfl ?_
                            refine q_goto gg141_166 (tg := 180) rfl ?_
                            refine q_putf gg141_180 rfl ?_
                            refine q_aload gg141_183 rfl ?_
                            refine q_dup gg141_184 rfl ?_
                            first | refine z_getf gg141_185 rfl (by first | assumption | ((repeat (first | refine up_nj (by decide) ?_ | refine up_nk (by decide) ?_ | refine row_nk (by decide) ?_)); first | assumption | exact up_at)) ?_ | refine q_getf gg141_185 rfl ?_
                            refine q_aload gg141_188 rfl ?_
                            first | refine z_getf gg141_189 rfl (by first | assumption | ((repeat (first | refine up_nj (by decide) ?_ | refine up_nk (by decide) ?_ | refine row_nk (by decide) ?_)); first | assumption | exact up_at)) ?_ | refine q_getf gg141_189 rfl ?_
                            refine z_ifne gg141_192 (tg := 199) rfl (by omega) (fun c7 => ?_) (fun c7 => ?_)
                            · try (exfalso; omega)
                              all_goals (
                                refine z_const gg141_199 (v := 1) rfl ?_
                                first | refine z_iadd gg141_200 ?_ | refine q_iadd gg141_200 ?_
                                refine q_putf gg141_201 rfl ?_
                                refine q_ret gg141_204 ?_
                                exfalso
                                omega
                              )
                            · try (exfalso; omega)
                              all_goals (
                                refine z_const gg141_195 (v := 0) rfl ?_
                                refine q_goto gg141_196 (tg := 200) rfl ?_
                                first | refine z_iadd gg141_200 ?_ | refine q_iadd gg141_200 ?_
                                refine q_putf gg141_201 rfl ?_
                                refine q_ret gg141_204 ?_
                                exfalso
                                omega
                              )
                          )
                      )
                    · try (exfalso; omega)
                      all_goals (
                        refine z_const gg124_10 (v := 1) rfl ?_
                        refine q_goto gg124_11 (tg := 15) rfl ?_
                        refine z_zretC gg124_15 (by omega) ?_
                        refine z_ifeq gg141_152 (tg := 159) rfl (by decide) (fun z => absurd z (by decide)) (fun _ => ?_)
                        refine z_const gg141_155 (v := 1) rfl ?_
                        refine q_goto gg141_156 (tg := 180) rfl ?_
                        refine q_putf gg141_180 rfl ?_
                        refine q_aload gg141_183 rfl ?_
                        refine q_dup gg141_184 rfl ?_
                        first | refine z_getf gg141_185 rfl (by first | assumption | ((repeat (first | refine up_nj (by decide) ?_ | refine up_nk (by decide) ?_ | refine row_nk (by decide) ?_)); first | assumption | exact up_at)) ?_ | refine q_getf gg141_185 rfl ?_
                        refine q_aload gg141_188 rfl ?_
                        first | refine z_getf gg141_189 rfl (by first | assumption | ((repeat (first | refine up_nj (by decide) ?_ | refine up_nk (by decide) ?_ | refine row_nk (by decide) ?_)); first | assumption | exact up_at)) ?_ | refine q_getf gg141_189 rfl ?_
                        refine z_ifne gg141_192 (tg := 199) rfl (by omega) (fun c6 => ?_) (fun c6 => ?_)
                        · try (exfalso; omega)
                          all_goals (
                            refine z_const gg141_199 (v := 1) rfl ?_
                            first | refine z_iadd gg141_200 ?_ | refine q_iadd gg141_200 ?_
                            refine q_putf gg141_201 rfl ?_
                            refine q_ret gg141_204 ?_
                            exfalso
                            omega
                          )
                        · try (exfalso; omega)
                          all_goals (
                            refine z_const gg141_195 (v := 0) rfl ?_
                            refine q_goto gg141_196 (tg := 200) rfl ?_
                            first | refine z_iadd gg141_200 ?_ | refine q_iadd gg141_200 ?_
                            refine q_putf gg141_201 rfl ?_
                            refine q_ret gg141_204 ?_
                            exfalso
                            omega
                          )
                      )
                  )
              )
            · try (exfalso; omega)
              all_goals (
                refine z_const gg141_140 (v := 0) rfl ?_
                refine q_goto gg141_141 (tg := 180) rfl ?_
                refine q_putf gg141_180 rfl ?_
                refine q_aload gg141_183 rfl ?_
                refine q_dup gg141_184 rfl ?_
                first | refine z_getf gg141_185 rfl (by first | assumption | ((repeat (first | refine up_nj (by decide) ?_ | refine up_nk (by decide) ?_ | refine row_nk (by decide) ?_)); first | assumption | exact up_at)) ?_ | refine q_getf gg141_185 rfl ?_
                refine q_aload gg141_188 rfl ?_
                first | refine z_getf gg141_189 rfl (by first | assumption | ((repeat (first | refine up_nj (by decide) ?_ | refine up_nk (by decide) ?_ | refine row_nk (by decide) ?_)); first | assumption | exact up_at)) ?_ | refine q_getf gg141_189 rfl ?_
                refine z_ifne gg141_192 (tg := 199) rfl (by omega) (fun c4 => ?_) (fun c4 => ?_)
                · try (exfalso; omega)
                  all_goals (
                    refine z_const gg141_199 (v := 1) rfl ?_
                    first | refine z_iadd gg141_200 ?_ | refine q_iadd gg141_200 ?_
                    refine q_putf gg141_201 rfl ?_
                    refine q_ret gg141_204 ?_
                    exfalso
                    omega
                  )
                · try (exfalso; omega)
                  all_goals (
                    refine z_const gg141_195 (v := 0) rfl ?_
                    refine q_goto gg141_196 (tg := 200) rfl ?_
                    first | refine z_iadd gg141_200 ?_ | refine q_iadd gg141_200 ?_
                    refine q_putf gg141_201 rfl ?_
                    refine q_ret gg141_204 ?_
                    exfalso
                    omega
                  )
              )
          )
        · try (exfalso; omega)
          all_goals (
            refine z_const gg124_10 (v := 1) rfl ?_
            refine q_goto gg124_11 (tg := 15) rfl ?_
            refine z_zretC gg124_15 (by omega) ?_
            refine z_ifeq gg141_30 (tg := 135) rfl (by decide) (fun z => absurd z (by decide)) (fun _ => ?_)
            refine q_aload gg141_33 rfl ?_
            refine z_const gg141_34 (v := 0) rfl ?_
            refine q_putf gg141_35 rfl ?_
            exact L (tl - k).toNat 0 _ (by decide) (by omega) (by rw [Int.add_zero]; omega) (by rw [Int.add_zero]; exact (by first | assumption | ((repeat (first | refine up_nj (by decide) ?_ | refine up_nk (by decide) ?_ | refine row_nk (by decide) ?_)); first | assumption | exact up_at))) (by first | assumption | ((repeat (first | refine up_nj (by decide) ?_ | refine up_nk (by decide) ?_ | refine row_nk (by decide) ?_)); first | assumption | exact up_at)) up_at (((RJ.rf.up (by decide) (by decide)).up (by decide) (by decide)).up (by decide) (by decide))
          )
      )
  · have htn : tnd tp tl k = if pyt tp tl k < 0 then k else k + 1 := by unfold tnd; rw [if_neg hF]
    have htk : tok tp tl k = if pyt tp tl k < 0 then 0 else if 97 ≤ pyt tp tl k ∧ pyt tp tl k ≤ 122 then 1 else if pyt tp tl k = 44 then 3 else if pyt tp tl k = 59 then 4 else 5 := by unfold tok; rw [if_neg hF]
    have htv : tvl tp tl k = pyt tp tl k := by unfold tvl; rw [if_neg hF]
    refine q_aload gg141_0 rfl ?_
    refine q_aload gg141_1 rfl ?_
    first | refine z_getf gg141_2 rfl (by first | assumption | ((repeat (first | refine up_nj (by decide) ?_ | refine up_nk (by decide) ?_ | refine row_nk (by decide) ?_)); first | assumption | exact up_at)) ?_ | refine q_getf gg141_2 rfl ?_
    refine q_putf gg141_5 rfl ?_
    refine q_aload gg141_8 rfl ?_
    refine q_aload gg141_9 rfl ?_
    first | refine z_getf gg141_10 rfl (by first | assumption | ((repeat (first | refine up_nj (by decide) ?_ | refine up_nk (by decide) ?_ | refine row_nk (by decide) ?_)); first | assumption | exact up_at)) ?_ | refine q_getf gg141_10 rfl ?_
    refine q_call2 gg141_13 tt140 rfl (Nat.le_of_ble_eq_true rfl) (hm_rv (by decide +kernel)) (ls' := [some _, some _]) rfl rfl ?_
    refine r_byte hB (hR.j (RJ.rf.up (by decide) (by decide))) (by omega) (by omega) ?_
    show hm_Wp _ _ _ _ (_ :: _) _ _
    refine q_istore gg141_16 rfl ?_
    refine q_aload gg141_17 rfl ?_
    refine q_iload gg141_18 rfl ?_
    refine q_putf gg141_19 rfl ?_
    refine q_iload gg141_22 rfl ?_
    refine z_const gg141_23 (v := 48) rfl ?_
    refine z_const gg141_25 (v := 57) rfl ?_
    refine q_call3 gg141_27 tt124 rfl (Nat.le_of_ble_eq_true rfl) rfl (ls' := [some _, some _, some _]) rfl rfl ?_
    refine q_iload gg124_0 rfl ?_
    refine q_iload gg124_1 rfl ?_
    refine z_icmplt gg124_2 (tg := 14) rfl (by omega) (by omega) (fun c1 => ?_) (fun c1 => ?_)
    · try (exfalso; omega)
      all_goals (
        refine z_const gg124_14 (v := 0) rfl ?_
        refine z_zretC gg124_15 (by omega) ?_
        refine z_ifeq gg141_30 (tg := 135) rfl (by decide) (fun _ => ?_) (fun z => absurd z (by decide))
        refine q_aload gg141_135 rfl ?_
        refine q_iload gg141_136 rfl ?_
        refine z_ifge gg141_137 (tg := 144) rfl (by omega) (fun c2 => ?_) (fun c2 => ?_)
        · try (exfalso; omega)
          all_goals (
            refine q_iload gg141_144 rfl ?_
            refine z_const gg141_145 (v := 97) rfl ?_
            refine z_const gg141_147 (v := 122) rfl ?_
            refine q_call3 gg141_149 tt124 rfl (Nat.le_of_ble_eq_true rfl) rfl (ls' := [some _, some _, some _]) rfl rfl ?_
            refine q_iload gg124_0 rfl ?_
            refine q_iload gg124_1 rfl ?_
            refine z_icmplt gg124_2 (tg := 14) rfl (by omega) (by omega) (fun c3 => ?_) (fun c3 => ?_)
            · try (exfalso; omega)
              all_goals (
                refine z_const gg124_14 (v := 0) rfl ?_
                refine z_zretC gg124_15 (by omega) ?_
                refine z_ifeq gg141_152 (tg := 159) rfl (by decide) (fun _ => ?_) (fun z => absurd z (by decide))
                refine q_iload gg141_159 rfl ?_
                refine z_const gg141_160 (v := 44) rfl ?_
                refine z_icmpne gg141_162 (tg := 169) rfl (by omega) (by omega) (fun c4 => ?_) (fun c4 => ?_)
                · try (exfalso; omega)
                  all_goals (
                    refine q_iload gg141_169 rfl ?_
                    refine z_const gg141_170 (v := 59) rfl ?_
                    refine z_icmpne gg141_172 (tg := 179) rfl (by omega) (by omega) (fun c5 => ?_) (fun c5 => ?_)
                    · try (exfalso; omega)
                      all_goals (
                        refine z_const gg141_179 (v := 5) rfl ?_
                        refine q_putf gg141_180 rfl ?_
                        refine q_aload gg141_183 rfl ?_
                        refine q_dup gg141_184 rfl ?_
                        first | refine z_getf gg141_185 rfl (by first | assumption | ((repeat (first | refine up_nj (by decide) ?_ | refine up_nk (by decide) ?_ | refine row_nk (by decide) ?_)); first | assumption | exact up_at)) ?_ | refine q_getf gg141_185 rfl ?_
                        refine q_aload gg141_188 rfl ?_
                        first | refine z_getf gg141_189 rfl (by first | assumption | ((repeat (first | refine up_nj (by decide) ?_ | refine up_nk (by decide) ?_ | refine row_nk (by decide) ?_)); first | assumption | exact up_at)) ?_ | refine q_getf gg141_189 rfl ?_
                        refine z_ifne gg141_192 (tg := 199) rfl (by omega) (fun c6 => ?_) (fun c6 => ?_)
                        · try (exfalso; omega)
                          all_goals (
                            refine z_const gg141_199 (v := 1) rfl ?_
                            first | refine z_iadd gg141_200 ?_ | refine q_iadd gg141_200 ?_
                            refine q_putf gg141_201 rfl ?_
                            refine q_ret gg141_204 ?_
                            refine kk _ ⟨up_at.trans (congrArg zI (by rw [htn]; split <;> omega)), up_nj (by decide) (up_nj (by decide) (up_nj (by decide) up_at)), up_nj (by decide) (up_at.trans (congrArg zI (by rw [htk]; (repeat' split) <;> omega))), up_nj (by decide) (up_nj (by decide) (up_at.trans (congrArg zI htv.symm)))⟩ ((((RJ.rf.up (by decide) (by decide)).up (by decide) (by decide)).up (by decide) (by decide)).up (by decide) (by decide))
                          )
                        · try (exfalso; omega)
                          all_goals (
                            refine z_const gg141_195 (v := 0) rfl ?_
                            refine q_goto gg141_196 (tg := 200) rfl ?_
                            first | refine z_iadd gg141_200 ?_ | refine q_iadd gg141_200 ?_
                            refine q_putf gg141_201 rfl ?_
                            refine q_ret gg141_204 ?_
                            refine kk _ ⟨up_at.trans (congrArg zI (by rw [htn]; split <;> omega)), up_nj (by decide) (up_nj (by decide) (up_nj (by decide) up_at)), up_nj (by decide) (up_at.trans (congrArg zI (by rw [htk]; (repeat' split) <;> omega))), up_nj (by decide) (up_nj (by decide) (up_at.trans (congrArg zI htv.symm)))⟩ ((((RJ.rf.up (by decide) (by decide)).up (by decide) (by decide)).up (by decide) (by decide)).up (by decide) (by decide))
                          )
                      )
                    · try (exfalso; omega)
                      all_goals (
                        refine z_const gg141_175 (v := 4) rfl ?_
                        refine q_goto gg141_176 (tg := 180) rfl ?_
                        refine q_putf gg141_180 rfl ?_
                        refine q_aload gg141_183 rfl ?_
                        refine q_dup gg141_184 rfl ?_
                        first | refine z_getf gg141_185 rfl (by first | assumption | ((repeat (first | refine up_nj (by decide) ?_ | refine up_nk (by decide) ?_ | refine row_nk (by decide) ?_)); first | assumption | exact up_at)) ?_ | refine q_getf gg141_185 rfl ?_
                        refine q_aload gg141_188 rfl ?_
                        first | refine z_getf gg141_189 rfl (by first | assumption | ((repeat (first | refine up_nj (by decide) ?_ | refine up_nk (by decide) ?_ | refine row_nk (by decide) ?_)); first | assumption | exact up_at)) ?_ | refine q_getf gg141_189 rfl ?_
                        refine z_ifne gg141_192 (tg := 199) rfl (by omega) (fun c6 => ?_) (fun c6 => ?_)
                        · try (exfalso; omega)
                          all_goals (
                            refine z_const gg141_199 (v := 1) rfl ?_
                            first | refine z_iadd gg141_200 ?_ | refine q_iadd gg141_200 ?_
                            refine q_putf gg141_201 rfl ?_
                            refine q_ret gg141_204 ?_
                            refine kk _ ⟨up_at.trans (congrArg zI (by rw [htn]; split <;> omega)), up_nj (by decide) (up_nj (by decide) (up_nj (by decide) up_at)), up_nj (by decide) (up_at.trans (congrArg zI (by rw [htk]; (repeat' split) <;> omega))), up_nj (by decide) (up_nj (by decide) (up_at.trans (congrArg zI htv.symm)))⟩ ((((RJ.rf.up (by decide) (by decide)).up (by decide) (by decide)).up (by decide) (by decide)).up (by decide) (by decide))
                          )
                        · try (exfalso; omega)
                          all_goals (
                            refine z_const gg141_195 (v := 0) rfl ?_
                            refine q_goto gg141_196 (tg := 200) rfl ?_
                            first | refine z_iadd gg141_200 ?_ | refine q_iadd gg141_200 ?_
                            refine q_putf gg141_201 rfl ?_
                            refine q_ret gg141_204 ?_
                            refine kk _ ⟨up_at.trans (congrArg zI (by rw [htn]; split <;> omega)), up_nj (by decide) (up_nj (by decide) (up_nj (by decide) up_at)), up_nj (by decide) (up_at.trans (congrArg zI (by rw [htk]; (repeat' split) <;> omega))), up_nj (by decide) (up_nj (by decide) (up_at.trans (congrArg zI htv.symm)))⟩ ((((RJ.rf.up (by decide) (by decide)).up (by decide) (by decide)).up (by decide) (by decide)).up (by decide) (by decide))
                          )
                      )
                  )
                · try (exfalso; omega)
                  all_goals (
                    refine z_const gg141_165 (v := 3) rfl ?_
                    refine q_goto gg141_166 (tg := 180) rfl ?_
                    refine q_putf gg141_180 rfl ?_
                    refine q_aload gg141_183 rfl ?_
                    refine q_dup gg141_184 rfl ?_
                    first | refine z_getf gg141_185 rfl (by first | assumption | ((repeat (first | refine up_nj (by decide) ?_ | refine up_nk (by decide) ?_ | refine row_nk (by decide) ?_)); first | assumption | exact up_at)) ?_ | refine q_getf gg141_185 rfl ?_
                    refine q_aload gg141_188 rfl ?_
                    first | refine z_getf gg141_189 rfl (by first | assumption | ((repeat (first | refine up_nj (by decide) ?_ | refine up_nk (by decide) ?_ | refine row_nk (by decide) ?_)); first | assumption | exact up_at)) ?_ | refine q_getf gg141_189 rfl ?_
                    refine z_ifne gg141_192 (tg := 199) rfl (by omega) (fun c5 => ?_) (fun c5 => ?_)
                    · try (exfalso; omega)
                      all_goals (
                        refine z_const gg141_199 (v := 1) rfl ?_
                        first | refine z_iadd gg141_200 ?_ | refine q_iadd gg141_200 ?_
                        refine q_putf gg141_201 rfl ?_
                        refine q_ret gg141_204 ?_
                        refine kk _ ⟨up_at.trans (congrArg zI (by rw [htn]; split <;> omega)), up_nj (by decide) (up_nj (by decide) (up_nj (by decide) up_at)), up_nj (by decide) (up_at.trans (congrArg zI (by rw [htk]; (repeat' split) <;> omega))), up_nj (by decide) (up_nj (by decide) (up_at.trans (congrArg zI htv.symm)))⟩ ((((RJ.rf.up (by decide) (by decide)).up (by decide) (by decide)).up (by decide) (by decide)).up (by decide) (by decide))
                      )
                    · try (exfalso; omega)
                      all_goals (
                        refine z_const gg141_195 (v := 0) rfl ?_
                        refine q_goto gg141_196 (tg := 200) rfl ?_
                        first | refine z_iadd gg141_200 ?_ | refine q_iadd gg141_200 ?_
                        refine q_putf gg141_201 rfl ?_
                        refine q_ret gg141_204 ?_
                        refine kk _ ⟨up_at.trans (congrArg zI (by rw [htn]; split <;> omega)), up_nj (by decide) (up_nj (by decide) (up_nj (by decide) up_at)), up_nj (by decide) (up_at.trans (congrArg zI (by rw [htk]; (repeat' split) <;> omega))), up_nj (by decide) (up_nj (by decide) (up_at.trans (congrArg zI htv.symm)))⟩ ((((RJ.rf.up (by decide) (by decide)).up (by decide) (by decide)).up (by decide) (by decide)).up (by decide) (by decide))
                      )
                  )
              )
            · try (exfalso; omega)
              all_goals (
                refine q_iload gg124_5 rfl ?_
                refine q_iload gg124_6 rfl ?_
                refine z_icmpgt gg124_7 (tg := 14) rfl (by omega) (by omega) (fun c4 => ?_) (fun c4 => ?_)
                · try (exfalso; omega)
                  all_goals (
                    refine z_const gg124_14 (v := 0) rfl ?_
                    refine z_zretC gg124_15 (by omega) ?_
                    refine z_ifeq gg141_152 (tg := 159) rfl (by decide) (fun _ => ?_) (fun z => absurd z (by decide))
                    refine q_iload gg141_159 rfl ?_
                    refine z_const gg141_160 (v := 44) rfl ?_
                    refine z_icmpne gg141_162 (tg := 169) rfl (by omega) (by omega) (fun c5 => ?_) (fun c5 => ?_)
                    · try (exfalso; omega)
                      all_goals (
                        refine q_iload gg141_169 rfl ?_
                        refine z_const gg141_170 (v := 59) rfl ?_
                        refine z_icmpne gg141_172 (tg := 179) rfl (by omega) (by omega) (fun c6 => ?_) (fun c6 => ?_)
                        · try (exfalso; omega)
                          all_goals (
                            refine z_const gg141_179 (v := 5) rfl ?_
                            refine q_putf gg141_180 rfl ?_
                            refine q_aload gg141_183 rfl ?_
                            refine q_dup gg141_184 rfl ?_
                            first | refine z_getf gg141_185 rfl (by first | assumption | ((repeat (first | refine up_nj (by decide) ?_ | refine up_nk (by decide) ?_ | refine row_nk (by decide) ?_)); first | assumption | exact up_at)) ?_ | refine q_getf gg141_185 rfl ?_
                            refine q_aload gg141_188 rfl ?_
                            first | refine z_getf gg141_189 rfl (by first | assumption | ((repeat (first | refine up_nj (by decide) ?_ | refine up_nk (by decide) ?_ | refine row_nk (by decide) ?_)); first | assumption | exact up_at)) ?_ | refine q_getf gg141_189 rfl ?_
                            refine z_ifne gg141_192 (tg := 199) rfl (by omega) (fun c7 => ?_) (fun c7 => ?_)
                            · try (exfalso; omega)
                              all_goals (
                                refine z_const gg141_199 (v := 1) rfl ?_
                                first | refine z_iadd gg141_200 ?_ | refine q_iadd gg141_200 ?_
                                refine q_putf gg141_201 rfl ?_
                                refine q_ret gg141_204 ?_
                                refine kk _ ⟨up_at.trans (congrArg zI (by rw [htn]; split <;> omega)), up_nj (by decide) (up_nj (by decide) (up_nj (by decide) up_at)), up_nj (by decide) (up_at.trans (congrArg zI (by rw [htk]; (repeat' split) <;> omega))), up_nj (by decide) (up_nj (by decide) (up_at.trans (congrArg zI htv.symm)))⟩ ((((RJ.rf.up (by decide) (by decide)).up (by decide) (by decide)).up (by decide) (by decide)).up (by decide) (by decide))
                              )
                            · try (exfalso; omega)
                              all_goals (
                                refine z_const gg141_195 (v := 0) rfl ?_
                                refine q_goto gg141_196 (tg := 200) rfl ?_
                                first | refine z_iadd gg141_200 ?_ | refine q_iadd gg141_200 ?_
                                refine q_putf gg141_201 rfl ?_
                                refine q_ret gg141_204 ?_
                                refine kk _ ⟨up_at.trans (congrArg zI (by rw [htn]; split <;> omega)), up_nj (by decide) (up_nj (by decide) (up_nj (by decide) up_at)), up_nj (by decide) (up_at.trans (congrArg zI (by rw [htk]; (repeat' split) <;> omega))), up_nj (by decide) (up_nj (by decide) (up_at.trans (congrArg zI htv.symm)))⟩ ((((RJ.rf.up (by decide) (by decide)).up (by decide) (by decide)).up (by decide) (by decide)).up (by decide) (by decide))
                              )
                          )
                        · try (exfalso; omega)
                          all_goals (
                            refine z_const gg141_175 (v := 4) rfl ?_
                            refine q_goto gg141_176 (tg := 180) rfl ?_
                            refine q_putf gg141_180 rfl ?_
                            refine q_aload gg141_183 rfl ?_
                            refine q_dup gg141_184 rfl ?_
                            first | refine z_getf gg141_185 rfl (by first | assumption | ((repeat (first | refine up_nj (by decide) ?_ | refine up_nk (by decide) ?_ | refine row_nk (by decide) ?_)); first | assumption | exact up_at)) ?_ | refine q_getf gg141_185 rfl ?_
                            refine q_aload gg141_188 rfl ?_
                            first | refine z_getf gg141_189 rfl (by first | assumption | ((repeat (first | refine up_nj (by decide) ?_ | refine up_nk (by decide) ?_ | refine row_nk (by decide) ?_)); first | assumption | exact up_at)) ?_ | refine q_getf gg141_189 rfl ?_
                            refine z_ifne gg141_192 (tg := 199) rfl (by omega) (fun c7 => ?_) (fun c7 => ?_)
                            · try (exfalso; omega)
                              all_goals (
                                refine z_const gg141_199 (v := 1) rfl ?_
                                first | refine z_iadd gg141_200 ?_ | refine q_iadd gg141_200 ?_
                                refine q_putf gg141_201 rfl ?_
                                refine q_ret gg141_204 ?_
                                refine kk _ ⟨up_at.trans (congrArg zI (by rw [htn]; split <;> omega)), up_nj (by decide) (up_nj (by decide) (up_nj (by decide) up_at)), up_nj (by decide) (up_at.trans (congrArg zI (by rw [htk]; (repeat' split) <;> omega))), up_nj (by decide) (up_nj (by decide) (up_at.trans (congrArg zI htv.symm)))⟩ ((((RJ.rf.up (by decide) (by decide)).up (by decide) (by decide)).up (by decide) (by decide)).up (by decide) (by decide))
                              )
                            · try (exfalso; omega)
                              all_goals (
                                refine z_const gg141_195 (v := 0) rfl ?_
                                refine q_goto gg141_196 (tg := 200) rfl ?_
                                first | refine z_iadd gg141_200 ?_ | refine q_iadd gg141_200 ?_
                                refine q_putf gg141_201 rfl ?_
                                refine q_ret gg141_204 ?_
                                refine kk _ ⟨up_at.trans (congrArg zI (by rw [htn]; split <;> omega)), up_nj (by decide) (up_nj (by decide) (up_nj (by decide) up_at)), up_nj (by decide) (up_at.trans (congrArg zI (by rw [htk]; (repeat' split) <;> omega))), up_nj (by decide) (up_nj (by decide) (up_at.trans (congrArg zI htv.symm)))⟩ ((((RJ.rf.up (by decide) (by decide)).up (by decide) (by decide)).up (by decide) (by decide)).up (by decide) (by decide))
                              )
                          )
                      )
                    · try (exfalso; omega)
                      all_goals (
                        refine z_const gg141_165 (v := 3) rfl ?_
                        refine q_goto gg141_166 (tg := 180) rfl ?_
                        refine q_putf gg141_180 rfl ?_
                        refine q_aload gg141_183 rfl ?_
                        refine q_dup gg141_184 rfl ?_
                        first | refine z_getf gg141_185 rfl (by first | assumption | ((repeat (first | refine up_nj (by decide) ?_ | refine up_nk (by decide) ?_ | refine row_nk (by decide) ?_)); first | assumption | exact up_at)) ?_ | refine q_getf gg141_185 rfl ?_
                        refine q_aload gg141_188 rfl ?_
                        first | refine z_getf gg141_189 rfl (by first | assumption | ((repeat (first | refine up_nj (by decide) ?_ | refine up_nk (by decide) ?_ | refine row_nk (by decide) ?_)); first | assumption | exact up_at)) ?_ | refine q_getf gg141_189 rfl ?_
                        refine z_ifne gg141_192 (tg := 199) rfl (by omega) (fun c6 => ?_) (fun c6 => ?_)
                        · try (exfalso; omega)
                          all_goals (
                            refine z_const gg141_199 (v := 1) rfl ?_
                            first | refine z_iadd gg141_200 ?_ | refine q_iadd gg141_200 ?_
                            refine q_putf gg141_201 rfl ?_
                            refine q_ret gg141_204 ?_
                            refine kk _ ⟨up_at.trans (congrArg zI (by rw [htn]; split <;> omega)), up_nj (by decide) (up_nj (by decide) (up_nj (by decide) up_at)), up_nj (by decide) (up_at.trans (congrArg zI (by rw [htk]; (repeat' split) <;> omega))), up_nj (by decide) (up_nj (by decide) (up_at.trans (congrArg zI htv.symm)))⟩ ((((RJ.rf.up (by decide) (by decide)).up (by decide) (by decide)).up (by decide) (by decide)).up (by decide) (by decide))
                          )
                        · try (exfalso; omega)
                          all_goals (
                            refine z_const gg141_195 (v := 0) rfl ?_
                            refine q_goto gg141_196 (tg := 200) rfl ?_
                            first | refine z_iadd gg141_200 ?_ | refine q_iadd gg141_200 ?_
                            refine q_putf gg141_201 rfl ?_
                            refine q_ret gg141_204 ?_
                            refine kk _ ⟨up_at.trans (congrArg zI (by rw [htn]; split <;> omega)), up_nj (by decide) (up_nj (by decide) (up_nj (by decide) up_at)), up_nj (by decide) (up_at.trans (congrArg zI (by rw [htk]; (repeat' split) <;> omega))), up_nj (by decide) (up_nj (by decide) (up_at.trans (congrArg zI htv.symm)))⟩ ((((RJ.rf.up (by decide) (by decide)).up (by decide) (by decide)).up (by decide) (by decide)).up (by decide) (by decide))
                          )
                      )
                  )
                · try (exfalso; omega)
                  all_goals (
                    refine z_const gg124_10 (v := 1) rfl ?_
                    refine q_goto gg124_11 (tg := 15) rfl ?_
                    refine z_zretC gg124_15 (by omega) ?_
                    refine z_ifeq gg141_152 (tg := 159) rfl (by decide) (fun z => absurd z (by decide)) (fun _ => ?_)
                    refine z_const gg141_155 (v := 1) rfl ?_
                    refine q_goto gg141_156 (tg := 180) rfl ?_
                    refine q_putf gg141_180 rfl ?_
                    refine q_aload gg141_183 rfl ?_
                    refine q_dup gg141_184 rfl ?_
                    first | refine z_getf gg141_185 rfl (by first | assumption | ((repeat (first | refine up_nj (by decide) ?_ | refine up_nk (by decide) ?_ | refine row_nk (by decide) ?_)); first | assumption | exact up_at)) ?_ | refine q_getf gg141_185 rfl ?_
                    refine q_aload gg141_188 rfl ?_
                    first | refine z_getf gg141_189 rfl (by first | assumption | ((repeat (first | refine up_nj (by decide) ?_ | refine up_nk (by decide) ?_ | refine row_nk (by decide) ?_)); first | assumption | exact up_at)) ?_ | refine q_getf gg141_189 rfl ?_
                    refine z_ifne gg141_192 (tg := 199) rfl (by omega) (fun c5 => ?_) (fun c5 => ?_)
                    · try (exfalso; omega)
                      all_goals (
                        refine z_const gg141_199 (v := 1) rfl ?_
                        first | refine z_iadd gg141_200 ?_ | refine q_iadd gg141_200 ?_
                        refine q_putf gg141_201 rfl ?_
                        refine q_ret gg141_204 ?_
                        refine kk _ ⟨up_at.trans (congrArg zI (by rw [htn]; split <;> omega)), up_nj (by decide) (up_nj (by decide) (up_nj (by decide) up_at)), up_nj (by decide) (up_at.trans (congrArg zI (by rw [htk]; (repeat' split) <;> omega))), up_nj (by decide) (up_nj (by decide) (up_at.trans (congrArg zI htv.symm)))⟩ ((((RJ.rf.up (by decide) (by decide)).up (by decide) (by decide)).up (by decide) (by decide)).up (by decide) (by decide))
                      )
                    · try (exfalso; omega)
                      all_goals (
                        refine z_const gg141_195 (v := 0) rfl ?_
                        refine q_goto gg141_196 (tg := 200) rfl ?_
                        first | refine z_iadd gg141_200 ?_ | refine q_iadd gg141_200 ?_
                        refine q_putf gg141_201 rfl ?_
                        refine q_ret gg141_204 ?_
                        refine kk _ ⟨up_at.trans (congrArg zI (by rw [htn]; split <;> omega)), up_nj (by decide) (up_nj (by decide) (up_nj (by decide) up_at)), up_nj (by decide) (up_at.trans (congrArg zI (by rw [htk]; (repeat' split) <;> omega))), up_nj (by decide) (up_nj (by decide) (up_at.trans (congrArg zI htv.symm)))⟩ ((((RJ.rf.up (by decide) (by decide)).up (by decide) (by decide)).up (by decide) (by decide)).up (by decide) (by decide))
                      )
                  )
              )
          )
        · try (exfalso; omega)
          all_goals (
            refine z_const gg141_140 (v := 0) rfl ?_
            refine q_goto gg141_141 (tg := 180) rfl ?_
            refine q_putf gg141_180 rfl ?_
            refine q_aload gg141_183 rfl ?_
            refine q_dup gg141_184 rfl ?_
            first | refine z_getf gg141_185 rfl (by first | assumption | ((repeat (first | refine up_nj (by decide) ?_ | refine up_nk (by decide) ?_ | refine row_nk (by decide) ?_)); first | assumption | exact up_at)) ?_ | refine q_getf gg141_185 rfl ?_
            refine q_aload gg141_188 rfl ?_
            first | refine z_getf gg141_189 rfl (by first | assumption | ((repeat (first | refine up_nj (by decide) ?_ | refine up_nk (by decide) ?_ | refine row_nk (by decide) ?_)); first | assumption | exact up_at)) ?_ | refine q_getf gg141_189 rfl ?_
            refine z_ifne gg141_192 (tg := 199) rfl (by omega) (fun c3 => ?_) (fun c3 => ?_)
            · try (exfalso; omega)
              all_goals (
                refine z_const gg141_199 (v := 1) rfl ?_
                first | refine z_iadd gg141_200 ?_ | refine q_iadd gg141_200 ?_
                refine q_putf gg141_201 rfl ?_
                refine q_ret gg141_204 ?_
                refine kk _ ⟨up_at.trans (congrArg zI (by rw [htn]; split <;> omega)), up_nj (by decide) (up_nj (by decide) (up_nj (by decide) up_at)), up_nj (by decide) (up_at.trans (congrArg zI (by rw [htk]; (repeat' split) <;> omega))), up_nj (by decide) (up_nj (by decide) (up_at.trans (congrArg zI htv.symm)))⟩ ((((RJ.rf.up (by decide) (by decide)).up (by decide) (by decide)).up (by decide) (by decide)).up (by decide) (by decide))
              )
            · try (exfalso; omega)
              all_goals (
                refine z_const gg141_195 (v := 0) rfl ?_
                refine q_goto gg141_196 (tg := 200) rfl ?_
                first | refine z_iadd gg141_200 ?_ | refine q_iadd gg141_200 ?_
                refine q_putf gg141_201 rfl ?_
                refine q_ret gg141_204 ?_
                refine kk _ ⟨up_at.trans (congrArg zI (by rw [htn]; split <;> omega)), up_nj (by decide) (up_nj (by decide) (up_nj (by decide) up_at)), up_nj (by decide) (up_at.trans (congrArg zI (by rw [htk]; (repeat' split) <;> omega))), up_nj (by decide) (up_nj (by decide) (up_at.trans (congrArg zI htv.symm)))⟩ ((((RJ.rf.up (by decide) (by decide)).up (by decide) (by decide)).up (by decide) (by decide)).up (by decide) (by decide))
              )
          )
      )
    · try (exfalso; omega)
      all_goals (
        refine q_iload gg124_5 rfl ?_
        refine q_iload gg124_6 rfl ?_
        refine z_icmpgt gg124_7 (tg := 14) rfl (by omega) (by omega) (fun c2 => ?_) (fun c2 => ?_)
        · try (exfalso; omega)
          all_goals (
            refine z_const gg124_14 (v := 0) rfl ?_
            refine z_zretC gg124_15 (by omega) ?_
            refine z_ifeq gg141_30 (tg := 135) rfl (by decide) (fun _ => ?_) (fun z => absurd z (by decide))
            refine q_aload gg141_135 rfl ?_
            refine q_iload gg141_136 rfl ?_
            refine z_ifge gg141_137 (tg := 144) rfl (by omega) (fun c3 => ?_) (fun c3 => ?_)
            · try (exfalso; omega)
              all_goals (
                refine q_iload gg141_144 rfl ?_
                refine z_const gg141_145 (v := 97) rfl ?_
                refine z_const gg141_147 (v := 122) rfl ?_
                refine q_call3 gg141_149 tt124 rfl (Nat.le_of_ble_eq_true rfl) rfl (ls' := [some _, some _, some _]) rfl rfl ?_
                refine q_iload gg124_0 rfl ?_
                refine q_iload gg124_1 rfl ?_
                refine z_icmplt gg124_2 (tg := 14) rfl (by omega) (by omega) (fun c4 => ?_) (fun c4 => ?_)
                · try (exfalso; omega)
                  all_goals (
                    refine z_const gg124_14 (v := 0) rfl ?_
                    refine z_zretC gg124_15 (by omega) ?_
                    refine z_ifeq gg141_152 (tg := 159) rfl (by decide) (fun _ => ?_) (fun z => absurd z (by decide))
                    refine q_iload gg141_159 rfl ?_
                    refine z_const gg141_160 (v := 44) rfl ?_
                    refine z_icmpne gg141_162 (tg := 169) rfl (by omega) (by omega) (fun c5 => ?_) (fun c5 => ?_)
                    · try (exfalso; omega)
                      all_goals (
                        refine q_iload gg141_169 rfl ?_
                        refine z_const gg141_170 (v := 59) rfl ?_
                        refine z_icmpne gg141_172 (tg := 179) rfl (by omega) (by omega) (fun c6 => ?_) (fun c6 => ?_)
                        · try (exfalso; omega)
                          all_goals (
                            refine z_const gg141_179 (v := 5) rfl ?_
                            refine q_putf gg141_180 rfl ?_
                            refine q_aload gg141_183 rfl ?_
                            refine q_dup gg141_184 rfl ?_
                            first | refine z_getf gg141_185 rfl (by first | assumption | ((repeat (first | refine up_nj (by decide) ?_ | refine up_nk (by decide) ?_ | refine row_nk (by decide) ?_)); first | assumption | exact up_at)) ?_ | refine q_getf gg141_185 rfl ?_
                            refine q_aload gg141_188 rfl ?_
                            first | refine z_getf gg141_189 rfl (by first | assumption | ((repeat (first | refine up_nj (by decide) ?_ | refine up_nk (by decide) ?_ | refine row_nk (by decide) ?_)); first | assumption | exact up_at)) ?_ | refine q_getf gg141_189 rfl ?_
                            refine z_ifne gg141_192 (tg := 199) rfl (by omega) (fun c7 => ?_) (fun c7 => ?_)
                            · try (exfalso; omega)
                              all_goals (
                                refine z_const gg141_199 (v := 1) rfl ?_
                                first | refine z_iadd gg141_200 ?_ | refine q_iadd gg141_200 ?_
                                refine q_putf gg141_201 rfl ?_
                                refine q_ret gg141_204 ?_
                                refine kk _ ⟨up_at.trans (congrArg zI (by rw [htn]; split <;> omega)), up_nj (by decide) (up_nj (by decide) (up_nj (by decide) up_at)), up_nj (by decide) (up_at.trans (congrArg zI (by rw [htk]; (repeat' split) <;> omega))), up_nj (by decide) (up_nj (by decide) (up_at.trans (congrArg zI htv.symm)))⟩ ((((RJ.rf.up (by decide) (by decide)).up (by decide) (by decide)).up (by decide) (by decide)).up (by decide) (by decide))
                              )
                            · try (exfalso; omega)
                              all_goals (
                                refine z_const gg141_195 (v := 0) rfl ?_
                                refine q_goto gg141_196 (tg := 200) rfl ?_
                                first | refine z_iadd gg141_200 ?_ | refine q_iadd gg141_200 ?_
                                refine q_putf gg141_201 rfl ?_
                                refine q_ret gg141_204 ?_
                                refine kk _ ⟨up_at.trans (congrArg zI (by rw [htn]; split <;> omega)), up_nj (by decide) (up_nj (by decide) (up_nj (by decide) up_at)), up_nj (by decide) (up_at.trans (congrArg zI (by rw [htk]; (repeat' split) <;> omega))), up_nj (by decide) (up_nj (by decide) (up_at.trans (congrArg zI htv.symm)))⟩ ((((RJ.rf.up (by decide) (by decide)).up (by decide) (by decide)).up (by decide) (by decide)).up (by decide) (by decide))
                              )
                          )
                        · try (exfalso; omega)
                          all_goals (
                            refine z_const gg141_175 (v := 4) rfl ?_
                            refine q_goto gg141_176 (tg := 180) rfl ?_
                            refine q_putf gg141_180 rfl ?_
                            refine q_aload gg141_183 rfl ?_
                            refine q_dup gg141_184 rfl ?_
                            first | refine z_getf gg141_185 rfl (by first | assumption | ((repeat (first | refine up_nj (by decide) ?_ | refine up_nk (by decide) ?_ | refine row_nk (by decide) ?_)); first | assumption | exact up_at)) ?_ | refine q_getf gg141_185 rfl ?_
                            refine q_aload gg141_188 rfl ?_
                            first | refine z_getf gg141_189 rfl (by first | assumption | ((repeat (first | refine up_nj (by decide) ?_ | refine up_nk (by decide) ?_ | refine row_nk (by decide) ?_)); first | assumption | exact up_at)) ?_ | refine q_getf gg141_189 rfl ?_
                            refine z_ifne gg141_192 (tg := 199) rfl (by omega) (fun c7 => ?_) (fun c7 => ?_)
                            · try (exfalso; omega)
                              all_goals (
                                refine z_const gg141_199 (v := 1) rfl ?_
                                first | refine z_iadd gg141_200 ?_ | refine q_iadd gg141_200 ?_
                                refine q_putf gg141_201 rfl ?_
                                refine q_ret gg141_204 ?_
                                refine kk _ ⟨up_at.trans (congrArg zI (by rw [htn]; split <;> omega)), up_nj (by decide) (up_nj (by decide) (up_nj (by decide) up_at)), up_nj (by decide) (up_at.trans (congrArg zI (by rw [htk]; (repeat' split) <;> omega))), up_nj (by decide) (up_nj (by decide) (up_at.trans (congrArg zI htv.symm)))⟩ ((((RJ.rf.up (by decide) (by decide)).up (by decide) (by decide)).up (by decide) (by decide)).up (by decide) (by decide))
                              )
                            · try (exfalso; omega)
                              all_goals (
                                refine z_const gg141_195 (v := 0) rfl ?_
                                refine q_goto gg141_196 (tg := 200) rfl ?_
                                first | refine z_iadd gg141_200 ?_ | refine q_iadd gg141_200 ?_
                                refine q_putf gg141_201 rfl ?_
                                refine q_ret gg141_204 ?_
                                refine kk _ ⟨up_at.trans (congrArg zI (by rw [htn]; split <;> omega)), up_nj (by decide) (up_nj (by decide) (up_nj (by decide) up_at)), up_nj (by decide) (up_at.trans (congrArg zI (by rw [htk]; (repeat' split) <;> omega))), up_nj (by decide) (up_nj (by decide) (up_at.trans (congrArg zI htv.symm)))⟩ ((((RJ.rf.up (by decide) (by decide)).up (by decide) (by decide)).up (by decide) (by decide)).up (by decide) (by decide))
                              )
                          )
                      )
                    · try (exfalso; omega)
                      all_goals (
                        refine z_const gg141_165 (v := 3) rfl ?_
                        refine q_goto gg141_166 (tg := 180) rfl ?_
                        refine q_putf gg141_180 rfl ?_
                        refine q_aload gg141_183 rfl ?_
                        refine q_dup gg141_184 rfl ?_
                        first | refine z_getf gg141_185 rfl (by first | assumption | ((repeat (first | refine up_nj (by decide) ?_ | refine up_nk (by decide) ?_ | refine row_nk (by decide) ?_)); first | assumption | exact up_at)) ?_ | refine q_getf gg141_185 rfl ?_
                        refine q_aload gg141_188 rfl ?_
                        first | refine z_getf gg141_189 rfl (by first | assumption | ((repeat (first | refine up_nj (by decide) ?_ | refine up_nk (by decide) ?_ | refine row_nk (by decide) ?_)); first | assumption | exact up_at)) ?_ | refine q_getf gg141_189 rfl ?_
                        refine z_ifne gg141_192 (tg := 199) rfl (by omega) (fun c6 => ?_) (fun c6 => ?_)
                        · try (exfalso; omega)
                          all_goals (
                            refine z_const gg141_199 (v := 1) rfl ?_
                            first | refine z_iadd gg141_200 ?_ | refine q_iadd gg141_200 ?_
                            refine q_putf gg141_201 rfl ?_
                            refine q_ret gg141_204 ?_
                            refine kk _ ⟨up_at.trans (congrArg zI (by rw [htn]; split <;> omega)), up_nj (by decide) (up_nj (by decide) (up_nj (by decide) up_at)), up_nj (by decide) (up_at.trans (congrArg zI (by rw [htk]; (repeat' split) <;> omega))), up_nj (by decide) (up_nj (by decide) (up_at.trans (congrArg zI htv.symm)))⟩ ((((RJ.rf.up (by decide) (by decide)).up (by decide) (by decide)).up (by decide) (by decide)).up (by decide) (by decide))
                          )
                        · try (exfalso; omega)
                          all_goals (
                            refine z_const gg141_195 (v := 0) rfl ?_
                            refine q_goto gg141_196 (tg := 200) rfl ?_
                            first | refine z_iadd gg141_200 ?_ | refine q_iadd gg141_200 ?_
                            refine q_putf gg141_201 rfl ?_
                            refine q_ret gg141_204 ?_
                            refine kk _ ⟨up_at.trans (congrArg zI (by rw [htn]; split <;> omega)), up_nj (by decide) (up_nj (by decide) (up_nj (by decide) up_at)), up_nj (by decide) (up_at.trans (congrArg zI (by rw [htk]; (repeat' split) <;> omega))), up_nj (by decide) (up_nj (by decide) (up_at.trans (congrArg zI htv.symm)))⟩ ((((RJ.rf.up (by decide) (by decide)).up (by decide) (by decide)).up (by decide) (by decide)).up (by decide) (by decide))
                          )
                      )
                  )
                · try (exfalso; omega)
                  all_goals (
                    refine q_iload gg124_5 rfl ?_
                    refine q_iload gg124_6 rfl ?_
                    refine z_icmpgt gg124_7 (tg := 14) rfl (by omega) (by omega) (fun c5 => ?_) (fun c5 => ?_)
                    · try (exfalso; omega)
                      all_goals (
                        refine z_const gg124_14 (v := 0) rfl ?_
                        refine z_zretC gg124_15 (by omega) ?_
                        refine z_ifeq gg141_152 (tg := 159) rfl (by decide) (fun _ => ?_) (fun z => absurd z (by decide))
                        refine q_iload gg141_159 rfl ?_
                        refine z_const gg141_160 (v := 44) rfl ?_
                        refine z_icmpne gg141_162 (tg := 169) rfl (by omega) (by omega) (fun c6 => ?_) (fun c6 => ?_)
                        · try (exfalso; omega)
                          all_goals (
                            refine q_iload gg141_169 rfl ?_
                            refine z_const gg141_170 (v := 59) rfl ?_
                            refine z_icmpne gg141_172 (tg := 179) rfl (by omega) (by omega) (fun c7 => ?_) (fun c7 => ?_)
                            · try (exfalso; omega)
                              all_goals (
                                refine z_const gg141_179 (v := 5) rfl ?_
                                refine q_putf gg141_180 rfl ?_
                                refine q_aload gg141_183 rfl ?_
                                refine q_dup gg141_184 rfl ?_
                                first | refine z_getf gg141_185 rfl (by first | assumption | ((repeat (first | refine up_nj (by decide) ?_ | refine up_nk (by decide) ?_ | refine row_nk (by decide) ?_)); first | assumption | exact up_at)) ?_ | refine q_getf gg141_185 rfl ?_
                                refine q_aload gg141_188 rfl ?_
                                first | refine z_getf gg141_189 rfl (by first | assumption | ((repeat (first | refine up_nj (by decide) ?_ | refine up_nk (by decide) ?_ | refine row_nk (by decide) ?_)); first | assumption | exact up_at)) ?_ | refine q_getf gg141_189 rfl ?_
                                refine z_ifne gg141_192 (tg := 199) rfl (by omega) (fun c8 => ?_) (fun c8 => ?_)
                                · try (exfalso; omega)
                                  all_goals (
                                    refine z_const gg141_199 (v := 1) rfl ?_
                                    first | refine z_iadd gg141_200 ?_ | refine q_iadd gg141_200 ?_
                                    refine q_putf gg141_201 rfl ?_
                                    refine q_ret gg141_204 ?_
                                    refine kk _ ⟨up_at.trans (congrArg zI (by rw [htn]; split <;> omega)), up_nj (by decide) (up_nj (by decide) (up_nj (by decide) up_at)), up_nj (by decide) (up_at.trans (congrArg zI (by rw [htk]; (repeat' split) <;> omega))), up_nj (by decide) (up_nj (by decide) (up_at.trans (congrArg zI htv.symm)))⟩ ((((RJ.rf.up (by decide) (by decide)).up (by decide) (by decide)).up (by decide) (by decide)).up (by decide) (by decide))
                                  )
                                · try (exfalso; omega)
                                  all_goals (
                                    refine z_const gg141_195 (v := 0) rfl ?_
                                    refine q_goto gg141_196 (tg := 200) rfl ?_
                                    first | refine z_iadd gg141_200 ?_ | refine q_iadd gg141_200 ?_
                                    refine q_putf gg141_201 rfl ?_
                                    refine q_ret gg141_204 ?_
                                    refine kk _ ⟨up_at.trans (congrArg zI (by rw [htn]; split <;> omega)), up_nj (by decide) (up_nj (by decide) (up_nj (by decide) up_at)), up_nj (by decide) (up_at.trans (congrArg zI (by rw [htk]; (repeat' split) <;> omega))), up_nj (by decide) (up_nj (by decide) (up_at.trans (congrArg zI htv.symm)))⟩ ((((RJ.rf.up (by decide) (by decide)).up (by decide) (by decide)).up (by decide) (by decide)).up (by decide) (by decide))
                                  )
                              )
                            · try (exfalso; omega)
                              all_goals (
                                refine z_const gg141_175 (v := 4) rfl ?_
                                refine q_goto gg141_176 (tg := 180) rfl ?_
                                refine q_putf gg141_180 rfl ?_
                                refine q_aload gg141_183 rfl ?_
                                refine q_dup gg141_184 rfl ?_
                                first | refine z_getf gg141_185 rfl (by first | assumption | ((repeat (first | refine up_nj (by decide) ?_ | refine up_nk (by decide) ?_ | refine row_nk (by decide) ?_)); first | assumption | exact up_at)) ?_ | refine q_getf gg141_185 rfl ?_
                                refine q_aload gg141_188 rfl ?_
                                first | refine z_getf gg141_189 rfl (by first | assumption | ((repeat (first | refine up_nj (by decide) ?_ | refine up_nk (by decide) ?_ | refine row_nk (by decide) ?_)); first | assumption | exact up_at)) ?_ | refine q_getf gg141_189 rfl ?_
                                refine z_ifne gg141_192 (tg := 199) rfl (by omega) (fun c8 => ?_) (fun c8 => ?_)
                                · try (exfalso; omega)
                                  all_goals (
                                    refine z_const gg141_199 (v := 1) rfl ?_
                                    first | refine z_iadd gg141_200 ?_ | refine q_iadd gg141_200 ?_
                                    refine q_putf gg141_201 rfl ?_
                                    refine q_ret gg141_204 ?_
                                    refine kk _ ⟨up_at.trans (congrArg zI (by rw [htn]; split <;> omega)), up_nj (by decide) (up_nj (by decide) (up_nj (by decide) up_at)), up_nj (by decide) (up_at.trans (congrArg zI (by rw [htk]; (repeat' split) <;> omega))), up_nj (by decide) (up_nj (by decide) (up_at.trans (congrArg zI htv.symm)))⟩ ((((RJ.rf.up (by decide) (by decide)).up (by decide) (by decide)).up (by decide) (by decide)).up (by decide) (by decide))
                                  )
                                · try (exfalso; omega)
                                  all_goals (
                                    refine z_const gg141_195 (v := 0) rfl ?_
                                    refine q_goto gg141_196 (tg := 200) rfl ?_
                                    first | refine z_iadd gg141_200 ?_ | refine q_iadd gg141_200 ?_
                                    refine q_putf gg141_201 rfl ?_
                                    refine q_ret gg141_204 ?_
                                    refine kk _ ⟨up_at.trans (congrArg zI (by rw [htn]; split <;> omega)), up_nj (by decide) (up_nj (by decide) (up_nj (by decide) up_at)), up_nj (by decide) (up_at.trans (congrArg zI (by rw [htk]; (repeat' split) <;> omega))), up_nj (by decide) (up_nj (by decide) (up_at.trans (congrArg zI htv.symm)))⟩ ((((RJ.rf.up (by decide) (by decide)).up (by decide) (by decide)).up (by decide) (by decide)).up (by decide) (by decide))
                                  )
                              )
                          )
                        · try (exfalso; omega)
                          all_goals (
                            refine z_const gg141_165 (v := 3) rfl ?_
                            refine q_goto gg141_166 (tg := 180) rfl ?_
                            refine q_putf gg141_180 rfl ?_
                            refine q_aload gg141_183 rfl ?_
                            refine q_dup gg141_184 rfl ?_
                            first | refine z_getf gg141_185 rfl (by first | assumption | ((repeat (first | refine up_nj (by decide) ?_ | refine up_nk (by decide) ?_ | refine row_nk (by decide) ?_)); first | assumption | exact up_at)) ?_ | refine q_getf gg141_185 rfl ?_
                            refine q_aload gg141_188 rfl ?_
                            first | refine z_getf gg141_189 rfl (by first | assumption | ((repeat (first | refine up_nj (by decide) ?_ | refine up_nk (by decide) ?_ | refine row_nk (by decide) ?_)); first | assumption | exact up_at)) ?_ | refine q_getf gg141_189 rfl ?_
                            refine z_ifne gg141_192 (tg := 199) rfl (by omega) (fun c7 => ?_) (fun c7 => ?_)
                            · try (exfalso; omega)
                              all_goals (
                                refine z_const gg141_199 (v := 1) rfl ?_
                                first | refine z_iadd gg141_200 ?_ | refine q_iadd gg141_200 ?_
                                refine q_putf gg141_201 rfl ?_
                                refine q_ret gg141_204 ?_
                                refine kk _ ⟨up_at.trans (congrArg zI (by rw [htn]; split <;> omega)), up_nj (by decide) (up_nj (by decide) (up_nj (by decide) up_at)), up_nj (by decide) (up_at.trans (congrArg zI (by rw [htk]; (repeat' split) <;> omega))), up_nj (by decide) (up_nj (by decide) (up_at.trans (congrArg zI htv.symm)))⟩ ((((RJ.rf.up (by decide) (by decide)).up (by decide) (by decide)).up (by decide) (by decide)).up (by decide) (by decide))
                              )
                            · try (exfalso; omega)
                              all_goals (
                                refine z_const gg141_195 (v := 0) rfl ?_
                                refine q_goto gg141_196 (tg := 200) rfl ?_
                                first | refine z_iadd gg141_200 ?_ | refine q_iadd gg141_200 ?_
                                refine q_putf gg141_201 rfl ?_
                                refine q_ret gg141_204 ?_
                                refine kk _ ⟨up_at.trans (congrArg zI (by rw [htn]; split <;> omega)), up_nj (by decide) (up_nj (by decide) (up_nj (by decide) up_at)), up_nj (by decide) (up_at.trans (congrArg zI (by rw [htk]; (repeat' split) <;> omega))), up_nj (by decide) (up_nj (by decide) (up_at.trans (congrArg zI htv.symm)))⟩ ((((RJ.rf.up (by decide) (by decide)).up (by decide) (by decide)).up (by decide) (by decide)).up (by decide) (by decide))
                              )
                          )
                      )
                    · try (exfalso; omega)
                      all_goals (
                        refine z_const gg124_10 (v := 1) rfl ?_
                        refine q_goto gg124_11 (tg := 15) rfl ?_
                        refine z_zretC gg124_15 (by omega) ?_
                        refine z_ifeq gg141_152 (tg := 159) rfl (by decide) (fun z => absurd z (by decide)) (fun _ => ?_)
                        refine z_const gg141_155 (v := 1) rfl ?_
                        refine q_goto gg141_156 (tg := 180) rfl ?_
                        refine q_putf gg141_180 rfl ?_
                        refine q_aload gg141_183 rfl ?_
                        refine q_dup gg141_184 rfl ?_
                        first | refine z_getf gg141_185 rfl (by first | assumption | ((repeat (first | refine up_nj (by decide) ?_ | refine up_nk (by decide) ?_ | refine row_nk (by decide) ?_)); first | assumption | exact up_at)) ?_ | refine q_getf gg141_185 rfl ?_
                        refine q_aload gg141_188 rfl ?_
                        first | refine z_getf gg141_189 rfl (by first | assumption | ((repeat (first | refine up_nj (by decide) ?_ | refine up_nk (by decide) ?_ | refine row_nk (by decide) ?_)); first | assumption | exact up_at)) ?_ | refine q_getf gg141_189 rfl ?_
                        refine z_ifne gg141_192 (tg := 199) rfl (by omega) (fun c6 => ?_) (fun c6 => ?_)
                        · try (exfalso; omega)
                          all_goals (
                            refine z_const gg141_199 (v := 1) rfl ?_
                            first | refine z_iadd gg141_200 ?_ | refine q_iadd gg141_200 ?_
                            refine q_putf gg141_201 rfl ?_
                            refine q_ret gg141_204 ?_
                            refine kk _ ⟨up_at.trans (congrArg zI (by rw [htn]; split <;> omega)), up_nj (by decide) (up_nj (by decide) (up_nj (by decide) up_at)), up_nj (by decide) (up_at.trans (congrArg zI (by rw [htk]; (repeat' split) <;> omega))), up_nj (by decide) (up_nj (by decide) (up_at.trans (congrArg zI htv.symm)))⟩ ((((RJ.rf.up (by decide) (by decide)).up (by decide) (by decide)).up (by decide) (by decide)).up (by decide) (by decide))
                          )
                        · try (exfalso; omega)
                          all_goals (
                            refine z_const gg141_195 (v := 0) rfl ?_
                            refine q_goto gg141_196 (tg := 200) rfl ?_
                            first | refine z_iadd gg141_200 ?_ | refine q_iadd gg141_200 ?_
                            refine q_putf gg141_201 rfl ?_
                            refine q_ret gg141_204 ?_
                            refine kk _ ⟨up_at.trans (congrArg zI (by rw [htn]; split <;> omega)), up_nj (by decide) (up_nj (by decide) (up_nj (by decide) up_at)), up_nj (by decide) (up_at.trans (congrArg zI (by rw [htk]; (repeat' split) <;> omega))), up_nj (by decide) (up_nj (by decide) (up_at.trans (congrArg zI htv.symm)))⟩ ((((RJ.rf.up (by decide) (by decide)).up (by decide) (by decide)).up (by decide) (by decide)).up (by decide) (by decide))
                          )
                      )
                  )
              )
            · try (exfalso; omega)
              all_goals (
                refine z_const gg141_140 (v := 0) rfl ?_
                refine q_goto gg141_141 (tg := 180) rfl ?_
                refine q_putf gg141_180 rfl ?_
                refine q_aload gg141_183 rfl ?_
                refine q_dup gg141_184 rfl ?_
                first | refine z_getf gg141_185 rfl (by first | assumption | ((repeat (first | refine up_nj (by decide) ?_ | refine up_nk (by decide) ?_ | refine row_nk (by decide) ?_)); first | assumption | exact up_at)) ?_ | refine q_getf gg141_185 rfl ?_
                refine q_aload gg141_188 rfl ?_
                first | refine z_getf gg141_189 rfl (by first | assumption | ((repeat (first | refine up_nj (by decide) ?_ | refine up_nk (by decide) ?_ | refine row_nk (by decide) ?_)); first | assumption | exact up_at)) ?_ | refine q_getf gg141_189 rfl ?_
                refine z_ifne gg141_192 (tg := 199) rfl (by omega) (fun c4 => ?_) (fun c4 => ?_)
                · try (exfalso; omega)
                  all_goals (
                    refine z_const gg141_199 (v := 1) rfl ?_
                    first | refine z_iadd gg141_200 ?_ | refine q_iadd gg141_200 ?_
                    refine q_putf gg141_201 rfl ?_
                    refine q_ret gg141_204 ?_
                    refine kk _ ⟨up_at.trans (congrArg zI (by rw [htn]; split <;> omega)), up_nj (by decide) (up_nj (by decide) (up_nj (by decide) up_at)), up_nj (by decide) (up_at.trans (congrArg zI (by rw [htk]; (repeat' split) <;> omega))), up_nj (by decide) (up_nj (by decide) (up_at.trans (congrArg zI htv.symm)))⟩ ((((RJ.rf.up (by decide) (by decide)).up (by decide) (by decide)).up (by decide) (by decide)).up (by decide) (by decide))
                  )
                · try (exfalso; omega)
                  all_goals (
                    refine z_const gg141_195 (v := 0) rfl ?_
                    refine q_goto gg141_196 (tg := 200) rfl ?_
                    first | refine z_iadd gg141_200 ?_ | refine q_iadd gg141_200 ?_
                    refine q_putf gg141_201 rfl ?_
                    refine q_ret gg141_204 ?_
                    refine kk _ ⟨up_at.trans (congrArg zI (by rw [htn]; split <;> omega)), up_nj (by decide) (up_nj (by decide) (up_nj (by decide) up_at)), up_nj (by decide) (up_at.trans (congrArg zI (by rw [htk]; (repeat' split) <;> omega))), up_nj (by decide) (up_nj (by decide) (up_at.trans (congrArg zI htv.symm)))⟩ ((((RJ.rf.up (by decide) (by decide)).up (by decide) (by decide)).up (by decide) (by decide)).up (by decide) (by decide))
                  )
              )
          )
        · try (exfalso; omega)
          all_goals (
            refine z_const gg124_10 (v := 1) rfl ?_
            refine q_goto gg124_11 (tg := 15) rfl ?_
            refine z_zretC gg124_15 (by omega) ?_
            refine z_ifeq gg141_30 (tg := 135) rfl (by decide) (fun z => absurd z (by decide)) (fun _ => ?_)
            refine q_aload gg141_33 rfl ?_
            refine z_const gg141_34 (v := 0) rfl ?_
            refine q_putf gg141_35 rfl ?_
            exfalso
            omega
          )
      )
/-- the reader of the reference at the state (c, k) -/
def RS (M : hm_M) (tp : Int → Int) (tl fk k c : Int) : Prop := RT M tp tl ∧ LT M tp tl k ∧ ∃ fp : Int, M 30 8 = zI fp ∧ M 30 7 = zI (if c = 0 then fk else c) ∧ ((c = 0 ∧ fp = -1) ∨ (c ≠ 0 ∧ fp = k))
def RK (M M' : hm_M) : Prop := (∀ q : Nat, q ≠ 30 → M' q = M q) ∧ ∀ j : Nat, (j < 7 ∨ 12 < j) → M' 30 j = M 30 j
theorem RK.rf : RK M M := ⟨fun _ _ => rfl, fun _ _ => rfl⟩
theorem RK.tr (h : RK M N) (h' : RK N N') : RK M N' := ⟨fun q hq => (h'.1 q hq).trans (h.1 q hq), fun j hj => (h'.2 j hj).trans (h.2 j hj)⟩
theorem RJ.rk (h : RJ M N) : RK M N := ⟨h.1, fun j hj => h.2 j (by omega)⟩
theorem RK.up {j : Nat} {x : Int32} (h : RK M N) (h1 : 7 ≤ j) (h2 : j ≤ 12) : RK M (hm_up N 30 j x) := ⟨fun q hq => by unfold hm_up; rw [hm_row_ne _ _ hq]; exact h.1 q hq, fun i hi => up_nj (by omega) (h.2 i hi)⟩
def fTk (tp : Int → Int) (tl c k x y : Int) : Int × Int × Int := if c ≠ 0 then (c, k, 0) else if x = 1 then (0, tnd tp tl k, tvl tp tl k) else (y, k, 0)
theorem r_takes (hB : pB tp tl) (hS : RS M tp tl fk k c) (hk0 : 0 ≤ k) (hk : k ≤ tl) (hx : x = 0 ∨ x = 1) (hy : 1 ≤ y) (hy3 : y ≤ 3) {c' k' v' : Int} (e : fTk tp tl c k x y = (c', k', v')) (kk : ∀ M', RS M' tp tl fk k' c' → RK M M' → Q (some (.inl (zI v'))) M') : hm_Wp (d + 2) 143 0 [some (.inr (.inr 30)), some (.inl (zI x)), some (.inl (zI y)), none] [] M Q := by
  have hS' := hS
  obtain ⟨hR, ⟨l9, l10, l11, l12⟩, fp, h8, h7, hfp⟩ := hS
  have hb := hB.2.1
  obtain ⟨t1, t2⟩ := id hR
  have htn := tnd_R hB hk0 hk
  unfold fTk at e
  refine q_aload gg143_0 rfl ?_
  refine q_call1 gg143_1 tt142 rfl (Nat.le_of_ble_eq_true rfl) (hm_rv (by decide +kernel)) (ls' := [some _]) rfl rfl ?_
  refine q_aload gg142_0 rfl ?_
  first | refine z_getf gg142_1 rfl (by first | assumption | ((repeat (first | refine up_nj (by decide) ?_ | refine up_nk (by decide) ?_ | refine row_nk (by decide) ?_)); first | assumption | exact up_at)) ?_ | refine q_getf gg142_1 rfl ?_
  refine z_ifge gg142_4 (tg := 11) rfl (by omega) (fun c1 => ?_) (fun c1 => ?_)
  · try (exfalso; omega)
    all_goals (
      refine z_const gg142_11 (v := 0) rfl ?_
      refine z_zretC gg142_12 (by omega) ?_
      refine z_ifne gg143_4 (tg := 9) rfl (by decide) (fun z => absurd z (by decide)) (fun _ => ?_)
      refine z_const gg143_7 (v := 0) rfl ?_
      refine q_iret gg143_8 ?_
      rw [if_pos (by omega), Prod.mk.injEq, Prod.mk.injEq] at e
      obtain ⟨rfl, rfl, rfl⟩ := e
      exact kk M hS' RK.rf
    )
  · try (exfalso; omega)
    all_goals (
      refine z_const gg142_7 (v := 1) rfl ?_
      refine q_goto gg142_8 (tg := 12) rfl ?_
      refine z_zretC gg142_12 (by omega) ?_
      refine z_ifne gg143_4 (tg := 9) rfl (by decide) (fun _ => ?_) (fun z => absurd z (by decide))
      refine q_iload gg143_9 rfl ?_
      refine z_ifne gg143_10 (tg := 28) rfl (by omega) (fun c2 => ?_) (fun c2 => ?_)
      · try (exfalso; omega)
        all_goals (
          refine q_aload gg143_28 rfl ?_
          first | refine z_getf gg143_29 rfl (by first | assumption | ((repeat (first | refine up_nj (by decide) ?_ | refine up_nk (by decide) ?_ | refine row_nk (by decide) ?_)); first | assumption | exact up_at)) ?_ | refine q_getf gg143_29 rfl ?_
          refine q_istore gg143_32 rfl ?_
          refine q_aload gg143_33 rfl ?_
          refine q_call1 gg143_34 tt141 rfl (Nat.le_of_ble_eq_true rfl) (hm_rv (by decide +kernel)) (ls' := [some _, none]) rfl rfl ?_
          refine r_adv hB hR l9 (by omega) (by omega) (fun M1 m1 m2 => ?_)
          show hm_Wp _ _ _ _ _ _ _
          refine q_iload gg143_37 rfl ?_
          refine q_iret gg143_38 ?_
          rw [if_neg (by omega), if_pos (by omega), Prod.mk.injEq, Prod.mk.injEq] at e
          obtain ⟨rfl, rfl, rfl⟩ := e
          refine kk M1 ⟨hR.j m2, m1, fp, (m2.2 8 (by decide)).trans h8, ?_, Or.inl ⟨rfl, by omega⟩⟩ m2.rk
          rw [m2.2 7 (by decide), h7]
          congr 1
          rw [if_pos rfl, if_pos (by omega)]
        )
      · try (exfalso; omega)
        all_goals (
          refine q_aload gg143_13 rfl ?_
          refine q_aload gg143_14 rfl ?_
          first | refine z_getf gg143_15 rfl (by first | assumption | ((repeat (first | refine up_nj (by decide) ?_ | refine up_nk (by decide) ?_ | refine row_nk (by decide) ?_)); first | assumption | exact up_at)) ?_ | refine q_getf gg143_15 rfl ?_
          refine q_putf gg143_18 rfl ?_
          refine q_aload gg143_21 rfl ?_
          refine q_iload gg143_22 rfl ?_
          refine q_putf gg143_23 rfl ?_
          refine z_const gg143_26 (v := 0) rfl ?_
          refine q_iret gg143_27 ?_
          rw [if_neg (by omega), if_neg (by omega), Prod.mk.injEq, Prod.mk.injEq] at e
          obtain ⟨rfl, rfl, rfl⟩ := e
          refine kk _ ⟨⟨(by first | assumption | ((repeat (first | refine up_nj (by decide) ?_ | refine up_nk (by decide) ?_ | refine row_nk (by decide) ?_)); first | assumption | exact up_at)), aw_upk (by decide) (aw_upk (by decide) hR.2)⟩, ⟨(by first | assumption | ((repeat (first | refine up_nj (by decide) ?_ | refine up_nk (by decide) ?_ | refine row_nk (by decide) ?_)); first | assumption | exact up_at)), (by first | assumption | ((repeat (first | refine up_nj (by decide) ?_ | refine up_nk (by decide) ?_ | refine row_nk (by decide) ?_)); first | assumption | exact up_at)), (by first | assumption | ((repeat (first | refine up_nj (by decide) ?_ | refine up_nk (by decide) ?_ | refine row_nk (by decide) ?_)); first | assumption | exact up_at)), (by first | assumption | ((repeat (first | refine up_nj (by decide) ?_ | refine up_nk (by decide) ?_ | refine row_nk (by decide) ?_)); first | assumption | exact up_at))⟩, k, up_nj (by decide) up_at, ?_, Or.inr ⟨by omega, rfl⟩⟩ ((RK.rf.up (by decide) (by decide)).up (by decide) (by decide))
          rw [if_neg (by omega)]; exact up_at
        )
    )
theorem gN_fTk : gN tp tl c k lo hi = if c = 0 ∧ tok tp tl k ≠ 2 then fTk tp tl c k 0 1 else fTk tp tl c k (if lo ≤ tvl tp tl k ∧ tvl tp tl k ≤ hi then 1 else 0) 2 := by
  have h2 := @tok_2 tp tl k
  by_cases hc : c = 0
  · subst hc
    by_cases ht : tok tp tl k = 2
    · obtain ⟨h3, h4⟩ := tok_2n ht
      have hf := h2.mp ht
      rw [if_neg (show ¬ ((0 : Int) = 0 ∧ tok tp tl k ≠ 2) from fun z => z.2 ht)]
      unfold gN fTk
      rw [if_neg (show ¬ (0 : Int) ≠ 0 from fun z => z rfl), if_neg (show ¬ ¬ (1 ≤ figs tp tl k ∧ figs tp tl k ≤ 2) from fun z => z hf), if_neg (show ¬ (0 : Int) ≠ 0 from fun z => z rfl), h3, h4]
      by_cases hi' : lo ≤ nv tp tl k ∧ nv tp tl k ≤ hi
      · rw [if_pos hi', if_pos hi', if_pos rfl]
      · rw [if_neg hi', if_neg hi', if_neg (by decide)]
    · rw [if_pos ⟨rfl, ht⟩]
      unfold gN fTk
      rw [if_neg (show ¬ (0 : Int) ≠ 0 from fun z => z rfl), if_pos (show ¬ (1 ≤ figs tp tl k ∧ figs tp tl k ≤ 2) from fun z => ht (h2.mpr z)), if_neg (show ¬ (0 : Int) ≠ 0 from fun z => z rfl), if_neg (by decide)]
  · rw [if_neg (show ¬ (c = 0 ∧ tok tp tl k ≠ 2) from fun z => hc z.1)]
    unfold gN fTk
    rw [if_pos hc, if_pos hc]
theorem r_figure (hB : pB tp tl) (hS : RS M tp tl fk k c) (hk0 : 0 ≤ k) (hk : k ≤ tl) (hlo : 0 ≤ lo) (hlo2 : lo ≤ 100) (hhi : 0 ≤ hi) (hhi2 : hi ≤ 100) {c' k' v' : Int} (e : gN tp tl c k lo hi = (c', k', v')) (kk : ∀ M', RS M' tp tl fk k' c' → RK M M' → Q (some (.inl (zI v'))) M') : hm_Wp (d + 3) 144 0 [some (.inr (.inr 30)), some (.inl (zI lo)), some (.inl (zI hi))] [] M Q := by
  have hS' := hS
  obtain ⟨hR, ⟨l9, l10, l11, l12⟩, fp, h8, h7, hfp⟩ := hS
  have hb := hB.2.1
  have htk := @tok_R tp tl k
  have htv := tvl_R hB hk0
  rw [gN_fTk] at e
  refine q_aload gg144_0 rfl ?_
  refine q_call1 gg144_1 tt142 rfl (Nat.le_of_ble_eq_true rfl) (hm_rv (by decide +kernel)) (ls' := [some _]) rfl rfl ?_
  refine q_aload gg142_0 rfl ?_
  first | refine z_getf gg142_1 rfl (by first | assumption | ((repeat (first | refine up_nj (by decide) ?_ | refine up_nk (by decide) ?_ | refine row_nk (by decide) ?_)); first | assumption | exact up_at)) ?_ | refine q_getf gg142_1 rfl ?_
  refine z_ifge gg142_4 (tg := 11) rfl (by omega) (fun c1 => ?_) (fun c1 => ?_)
  · try (exfalso; omega)
    all_goals (
      refine z_const gg142_11 (v := 0) rfl ?_
      refine z_zretC gg142_12 (by omega) ?_
      refine z_ifeq gg144_4 (tg := 22) rfl (by decide) (fun _ => ?_) (fun z => absurd z (by decide))
      refine q_aload gg144_22 rfl ?_
      refine q_aload gg144_23 rfl ?_
      first | refine z_getf gg144_24 rfl (by first | assumption | ((repeat (first | refine up_nj (by decide) ?_ | refine up_nk (by decide) ?_ | refine row_nk (by decide) ?_)); first | assumption | exact up_at)) ?_ | refine q_getf gg144_24 rfl ?_
      refine q_iload gg144_27 rfl ?_
      refine q_iload gg144_28 rfl ?_
      refine q_call3 gg144_29 tt124 rfl (Nat.le_of_ble_eq_true rfl) rfl (ls' := [some _, some _, some _]) rfl rfl ?_
      refine q_iload gg124_0 rfl ?_
      refine q_iload gg124_1 rfl ?_
      refine z_icmplt gg124_2 (tg := 14) rfl (by omega) (by omega) (fun c2 => ?_) (fun c2 => ?_)
      · try (exfalso; omega)
        all_goals (
          refine z_const gg124_14 (v := 0) rfl ?_
          refine z_zretC gg124_15 (by omega) ?_
          refine z_const gg144_32 (v := 2) rfl ?_
          refine q_call3 gg144_33 tt143 rfl (Nat.le_of_ble_eq_true rfl) (hm_rv (by decide +kernel)) (ls' := [some _, some _, some _, none]) rfl rfl ?_
          rw [if_neg (by omega)] at e
          first | rw [if_pos (by omega)] at e | rw [if_neg (by omega)] at e
          refine r_takes hB hS' hk0 hk (by decide) (by decide) (by decide) e (fun M1 m1 m2 => ?_)
          show hm_Wp _ _ _ _ (_ :: _) _ _
          refine q_iret gg144_36 ?_
          exact kk M1 m1 m2
        )
      · try (exfalso; omega)
        all_goals (
          refine q_iload gg124_5 rfl ?_
          refine q_iload gg124_6 rfl ?_
          refine z_icmpgt gg124_7 (tg := 14) rfl (by omega) (by omega) (fun c3 => ?_) (fun c3 => ?_)
          · try (exfalso; omega)
            all_goals (
              refine z_const gg124_14 (v := 0) rfl ?_
              refine z_zretC gg124_15 (by omega) ?_
              refine z_const gg144_32 (v := 2) rfl ?_
              refine q_call3 gg144_33 tt143 rfl (Nat.le_of_ble_eq_true rfl) (hm_rv (by decide +kernel)) (ls' := [some _, some _, some _, none]) rfl rfl ?_
              rw [if_neg (by omega)] at e
              first | rw [if_pos (by omega)] at e | rw [if_neg (by omega)] at e
              refine r_takes hB hS' hk0 hk (by decide) (by decide) (by decide) e (fun M1 m1 m2 => ?_)
              show hm_Wp _ _ _ _ (_ :: _) _ _
              refine q_iret gg144_36 ?_
              exact kk M1 m1 m2
            )
          · try (exfalso; omega)
            all_goals (
              refine z_const gg124_10 (v := 1) rfl ?_
              refine q_goto gg124_11 (tg := 15) rfl ?_
              refine z_zretC gg124_15 (by omega) ?_
              refine z_const gg144_32 (v := 2) rfl ?_
              refine q_call3 gg144_33 tt143 rfl (Nat.le_of_ble_eq_true rfl) (hm_rv (by decide +kernel)) (ls' := [some _, some _, some _, none]) rfl rfl ?_
              rw [if_neg (by omega)] at e
              first | rw [if_pos (by omega)] at e | rw [if_neg (by omega)] at e
              refine r_takes hB hS' hk0 hk (by decide) (by decide) (by decide) e (fun M1 m1 m2 => ?_)
              show hm_Wp _ _ _ _ (_ :: _) _ _
              refine q_iret gg144_36 ?_
              exact kk M1 m1 m2
            )
        )
    )
  · try (exfalso; omega)
    all_goals (
      refine z_const gg142_7 (v := 1) rfl ?_
      refine q_goto gg142_8 (tg := 12) rfl ?_
      refine z_zretC gg142_12 (by omega) ?_
      refine z_ifeq gg144_4 (tg := 22) rfl (by decide) (fun z => absurd z (by decide)) (fun _ => ?_)
      refine q_aload gg144_7 rfl ?_
      first | refine z_getf gg144_8 rfl (by first | assumption | ((repeat (first | refine up_nj (by decide) ?_ | refine up_nk (by decide) ?_ | refine row_nk (by decide) ?_)); first | assumption | exact up_at)) ?_ | refine q_getf gg144_8 rfl ?_
      refine z_const gg144_11 (v := 2) rfl ?_
      refine z_icmpeq gg144_12 (tg := 22) rfl (by omega) (by omega) (fun c2 => ?_) (fun c2 => ?_)
      · try (exfalso; omega)
        all_goals (
          refine q_aload gg144_22 rfl ?_
          refine q_aload gg144_23 rfl ?_
          first | refine z_getf gg144_24 rfl (by first | assumption | ((repeat (first | refine up_nj (by decide) ?_ | refine up_nk (by decide) ?_ | refine row_nk (by decide) ?_)); first | assumption | exact up_at)) ?_ | refine q_getf gg144_24 rfl ?_
          refine q_iload gg144_27 rfl ?_
          refine q_iload gg144_28 rfl ?_
          refine q_call3 gg144_29 tt124 rfl (Nat.le_of_ble_eq_true rfl) rfl (ls' := [some _, some _, some _]) rfl rfl ?_
          refine q_iload gg124_0 rfl ?_
          refine q_iload gg124_1 rfl ?_
          refine z_icmplt gg124_2 (tg := 14) rfl (by omega) (by omega) (fun c3 => ?_) (fun c3 => ?_)
          · try (exfalso; omega)
            all_goals (
              refine z_const gg124_14 (v := 0) rfl ?_
              refine z_zretC gg124_15 (by omega) ?_
              refine z_const gg144_32 (v := 2) rfl ?_
              refine q_call3 gg144_33 tt143 rfl (Nat.le_of_ble_eq_true rfl) (hm_rv (by decide +kernel)) (ls' := [some _, some _, some _, none]) rfl rfl ?_
              rw [if_neg (by omega)] at e
              first | rw [if_pos (by omega)] at e | rw [if_neg (by omega)] at e
              refine r_takes hB hS' hk0 hk (by decide) (by decide) (by decide) e (fun M1 m1 m2 => ?_)
              show hm_Wp _ _ _ _ (_ :: _) _ _
              refine q_iret gg144_36 ?_
              exact kk M1 m1 m2
            )
          · try (exfalso; omega)
            all_goals (
              refine q_iload gg124_5 rfl ?_
              refine q_iload gg124_6 rfl ?_
              refine z_icmpgt gg124_7 (tg := 14) rfl (by omega) (by omega) (fun c4 => ?_) (fun c4 => ?_)
              · try (exfalso; omega)
                all_goals (
                  refine z_const gg124_14 (v := 0) rfl ?_
                  refine z_zretC gg124_15 (by omega) ?_
                  refine z_const gg144_32 (v := 2) rfl ?_
                  refine q_call3 gg144_33 tt143 rfl (Nat.le_of_ble_eq_true rfl) (hm_rv (by decide +kernel)) (ls' := [some _, some _, some _, none]) rfl rfl ?_
                  rw [if_neg (by omega)] at e
                  first | rw [if_pos (by omega)] at e | rw [if_neg (by omega)] at e
                  refine r_takes hB hS' hk0 hk (by decide) (by decide) (by decide) e (fun M1 m1 m2 => ?_)
                  show hm_Wp _ _ _ _ (_ :: _) _ _
                  refine q_iret gg144_36 ?_
                  exact kk M1 m1 m2
                )
              · try (exfalso; omega)
                all_goals (
                  refine z_const gg124_10 (v := 1) rfl ?_
                  refine q_goto gg124_11 (tg := 15) rfl ?_
                  refine z_zretC gg124_15 (by omega) ?_
                  refine z_const gg144_32 (v := 2) rfl ?_
                  refine q_call3 gg144_33 tt143 rfl (Nat.le_of_ble_eq_true rfl) (hm_rv (by decide +kernel)) (ls' := [some _, some _, some _, none]) rfl rfl ?_
                  rw [if_neg (by omega)] at e
                  first | rw [if_pos (by omega)] at e | rw [if_neg (by omega)] at e
                  refine r_takes hB hS' hk0 hk (by decide) (by decide) (by decide) e (fun M1 m1 m2 => ?_)
                  show hm_Wp _ _ _ _ (_ :: _) _ _
                  refine q_iret gg144_36 ?_
                  exact kk M1 m1 m2
                )
            )
        )
      · try (exfalso; omega)
        all_goals (
          rw [if_pos (by omega)] at e
          refine q_aload gg144_15 rfl ?_
          refine z_const gg144_16 (v := 0) rfl ?_
          refine z_const gg144_17 (v := 1) rfl ?_
          refine q_call3 gg144_18 tt143 rfl (Nat.le_of_ble_eq_true rfl) (hm_rv (by decide +kernel)) (ls' := [some _, some _, some _, none]) rfl rfl ?_
          refine r_takes hB hS' hk0 hk (by decide) (by decide) (by decide) e (fun M1 m1 m2 => ?_)
          show hm_Wp _ _ _ _ (_ :: _) _ _
          refine q_iret gg144_21 ?_
          exact kk M1 m1 m2
        )
    )
theorem gS_fTk (hs : 58 ≤ s ∨ s = 44) (hx : (x = 1 ∧ pyt tp tl k = s) ∨ (x = 0 ∧ pyt tp tl k ≠ s)) {c' k' : Int} (e : gS tp tl c k s = (c', k')) : ∃ v, fTk tp tl c k x 1 = (c', k', v) := by
  unfold gS at e
  unfold fTk
  by_cases hc : c ≠ 0
  · rw [if_pos hc, Prod.mk.injEq] at e
    obtain ⟨rfl, rfl⟩ := e
    rw [if_pos hc]; exact ⟨0, rfl⟩
  · rw [if_neg hc] at e
    rw [if_neg hc]
    rcases hx with ⟨h1, h2⟩ | ⟨h1, h2⟩
    · rw [if_pos h2, Prod.mk.injEq] at e
      obtain ⟨rfl, rfl⟩ := e
      rw [if_pos h1, (tnd_1 (by omega)).1]; exact ⟨_, rfl⟩
    · rw [if_neg h2, Prod.mk.injEq] at e
      obtain ⟨rfl, rfl⟩ := e
      rw [if_neg (by omega)]; exact ⟨_, rfl⟩
theorem r_follows (hB : pB tp tl) (hS : RS M tp tl fk k c) (hk0 : 0 ≤ k) (hk : k ≤ tl) (hc0 : 0 ≤ c) (hc3 : c ≤ 3) (hlo : 0 ≤ lo) (hlo2 : lo ≤ 100) (hhi : 0 ≤ hi) (hhi2 : hi ≤ 100) {c' k' c2 k2 v2 : Int} (e : gS tp tl c k 44 = (c', k')) (e2 : gN tp tl c' k' lo hi = (c2, k2, v2)) (kk : ∀ M', RS M' tp tl fk k2 c2 → RK M M' → Q (some (.inl (zI v2))) M') : hm_Wp (d + 4) 146 0 [some (.inr (.inr 30)), some (.inl (zI lo)), some (.inl (zI hi))] [] M Q := by
  have hS' := hS
  obtain ⟨hR, ⟨l9, l10, l11, l12⟩, fp, h8, h7, hfp⟩ := hS
  have hb := hB.2.1
  have htk := @tok_R tp tl k
  have ht3 := @tok_3 tp tl k
  have rs := gS_R (s := 44) hB hk0 hk (by decide) hc0 hc3
  rw [e] at rs
  dsimp only at rs
  refine q_aload gg146_0 rfl ?_
  refine q_aload gg146_1 rfl ?_
  first | refine z_getf gg146_2 rfl (by first | assumption | ((repeat (first | refine up_nj (by decide) ?_ | refine up_nk (by decide) ?_ | refine row_nk (by decide) ?_)); first | assumption | exact up_at)) ?_ | refine q_getf gg146_2 rfl ?_
  refine z_const gg146_5 (v := 3) rfl ?_
  refine z_icmpne gg146_6 (tg := 13) rfl (by omega) (by omega) (fun c1 => ?_) (fun c1 => ?_)
  · try (exfalso; omega)
    all_goals (
      refine z_const gg146_13 (v := 0) rfl ?_
      refine z_const gg146_14 (v := 1) rfl ?_
      refine q_call3 gg146_15 tt143 rfl (Nat.le_of_ble_eq_true rfl) (hm_rv (by decide +kernel)) (ls' := [some _, some _, some _, none]) rfl rfl ?_
      obtain ⟨vt, et⟩ := gS_fTk (s := 44) (by omega) (by first | exact Or.inl ⟨rfl, by omega⟩ | exact Or.inr ⟨rfl, by omega⟩) e
      refine r_takes hB hS' hk0 hk (by decide) (by decide) (by decide) et (fun M1 m1 m2 => ?_)
      show hm_Wp _ _ _ _ (_ :: _) _ _
      refine q_pop gg146_18 rfl ?_
      refine q_aload gg146_19 rfl ?_
      refine q_iload gg146_20 rfl ?_
      refine q_iload gg146_21 rfl ?_
      refine q_call3 gg146_22 tt144 rfl (Nat.le_of_ble_eq_true rfl) (hm_rv (by decide +kernel)) (ls' := [some _, some _, some _]) rfl rfl ?_
      refine r_figure hB m1 (by omega) (by omega) hlo hlo2 hhi hhi2 e2 (fun M2 n1 n2 => ?_)
      show hm_Wp _ _ _ _ (_ :: _) _ _
      refine q_iret gg146_25 ?_
      exact kk M2 n1 (m2.tr n2)
    )
  · try (exfalso; omega)
    all_goals (
      refine z_const gg146_9 (v := 1) rfl ?_
      refine q_goto gg146_10 (tg := 14) rfl ?_
      refine z_const gg146_14 (v := 1) rfl ?_
      refine q_call3 gg146_15 tt143 rfl (Nat.le_of_ble_eq_true rfl) (hm_rv (by decide +kernel)) (ls' := [some _, some _, some _, none]) rfl rfl ?_
      obtain ⟨vt, et⟩ := gS_fTk (s := 44) (by omega) (by first | exact Or.inl ⟨rfl, by omega⟩ | exact Or.inr ⟨rfl, by omega⟩) e
      refine r_takes hB hS' hk0 hk (by decide) (by decide) (by decide) et (fun M1 m1 m2 => ?_)
      show hm_Wp _ _ _ _ (_ :: _) _ _
      refine q_pop gg146_18 rfl ?_
      refine q_aload gg146_19 rfl ?_
      refine q_iload gg146_20 rfl ?_
      refine q_iload gg146_21 rfl ?_
      refine q_call3 gg146_22 tt144 rfl (Nat.le_of_ble_eq_true rfl) (hm_rv (by decide +kernel)) (ls' := [some _, some _, some _]) rfl rfl ?_
      refine r_figure hB m1 (by omega) (by omega) hlo hlo2 hhi hhi2 e2 (fun M2 n1 n2 => ?_)
      show hm_Wp _ _ _ _ (_ :: _) _ _
      refine q_iret gg146_25 ?_
      exact kk M2 n1 (m2.tr n2)
    )
theorem r_must (hB : pB tp tl) (hS : RS M tp tl fk k c) (hk0 : 0 ≤ k) (hk : k ≤ tl) (hx : x = 0 ∨ x = 1) (kk : ∀ M', RS M' tp tl fk k (if c = 0 ∧ x = 0 then 1 else c) → RK M M' → Q none M') : hm_Wp (d + 3) 148 0 [some (.inr (.inr 30)), some (.inl (zI x))] [] M Q := by
  have hS' := hS
  obtain ⟨hR, ⟨l9, l10, l11, l12⟩, fp, h8, h7, hfp⟩ := hS
  have hb := hB.2.1
  refine q_aload gg148_0 rfl ?_
  refine q_call1 gg148_1 tt142 rfl (Nat.le_of_ble_eq_true rfl) (hm_rv (by decide +kernel)) (ls' := [some _]) rfl rfl ?_
  refine q_aload gg142_0 rfl ?_
  first | refine z_getf gg142_1 rfl (by first | assumption | ((repeat (first | refine up_nj (by decide) ?_ | refine up_nk (by decide) ?_ | refine row_nk (by decide) ?_)); first | assumption | exact up_at)) ?_ | refine q_getf gg142_1 rfl ?_
  refine z_ifge gg142_4 (tg := 11) rfl (by omega) (fun c1 => ?_) (fun c1 => ?_)
  · try (exfalso; omega)
    all_goals (
      refine z_const gg142_11 (v := 0) rfl ?_
      refine z_zretC gg142_12 (by omega) ?_
      refine z_ifeq gg148_4 (tg := 18) rfl (by decide) (fun _ => ?_) (fun z => absurd z (by decide))
      refine q_ret gg148_18 ?_
      rw [if_neg (by omega)] at kk
      exact kk M hS' RK.rf
    )
  · try (exfalso; omega)
    all_goals (
      refine z_const gg142_7 (v := 1) rfl ?_
      refine q_goto gg142_8 (tg := 12) rfl ?_
      refine z_zretC gg142_12 (by omega) ?_
      refine z_ifeq gg148_4 (tg := 18) rfl (by decide) (fun z => absurd z (by decide)) (fun _ => ?_)
      refine q_iload gg148_7 rfl ?_
      refine z_ifne gg148_8 (tg := 18) rfl (by omega) (fun c2 => ?_) (fun c2 => ?_)
      · try (exfalso; omega)
        all_goals (
          refine q_ret gg148_18 ?_
          rw [if_neg (by omega)] at kk
          exact kk M hS' RK.rf
        )
      · try (exfalso; omega)
        all_goals (
          rw [if_pos (by omega)] at kk
          have et : fTk tp tl c k 0 1 = (1, k, 0) := by unfold fTk; rw [if_neg (by omega), if_neg (by decide)]
          refine q_aload gg148_11 rfl ?_
          refine z_const gg148_12 (v := 0) rfl ?_
          refine z_const gg148_13 (v := 1) rfl ?_
          refine q_call3 gg148_14 tt143 rfl (Nat.le_of_ble_eq_true rfl) (hm_rv (by decide +kernel)) (ls' := [some _, some _, some _, none]) rfl rfl ?_
          refine r_takes hB hS' hk0 hk (by decide) (by decide) (by decide) et (fun M1 m1 m2 => ?_)
          show hm_Wp _ _ _ _ (_ :: _) _ _
          refine q_pop gg148_17 rfl ?_
          refine q_ret gg148_18 ?_
          exact kk M1 m1 m2
        )
    )
theorem r_kindOf (hx : -1000 ≤ x) (hx2 : x ≤ 1000) (kk : Q (some (.inl (zI (kdO x)))) M) : hm_Wp d 145 0 [some (.inl (zI x))] [] M Q := by
  have hK : kdO x = if x = 112 then 1 else if x = 115 then 2 else if x = 108 then 3 else if x = 98 then 4 else if x = 114 then 5 else 0 := rfl
  refine q_iload gg145_0 rfl ?_
  refine z_const gg145_1 (v := 112) rfl ?_
  refine z_icmpne gg145_3 (tg := 10) rfl (by omega) (by omega) (fun c1 => ?_) (fun c1 => ?_)
  · try (exfalso; omega)
    all_goals (
      refine q_iload gg145_10 rfl ?_
      refine z_const gg145_11 (v := 115) rfl ?_
      refine z_icmpne gg145_13 (tg := 20) rfl (by omega) (by omega) (fun c2 => ?_) (fun c2 => ?_)
      · try (exfalso; omega)
        all_goals (
          refine q_iload gg145_20 rfl ?_
          refine z_const gg145_21 (v := 108) rfl ?_
          refine z_icmpne gg145_23 (tg := 30) rfl (by omega) (by omega) (fun c3 => ?_) (fun c3 => ?_)
          · try (exfalso; omega)
            all_goals (
              refine q_iload gg145_30 rfl ?_
              refine z_const gg145_31 (v := 98) rfl ?_
              refine z_icmpne gg145_33 (tg := 40) rfl (by omega) (by omega) (fun c4 => ?_) (fun c4 => ?_)
              · try (exfalso; omega)
                all_goals (
                  refine q_iload gg145_40 rfl ?_
                  refine z_const gg145_41 (v := 114) rfl ?_
                  refine z_icmpne gg145_43 (tg := 50) rfl (by omega) (by omega) (fun c5 => ?_) (fun c5 => ?_)
                  · try (exfalso; omega)
                    all_goals (
                      refine z_const gg145_50 (v := 0) rfl ?_
                      refine q_iret gg145_51 ?_
                      refine qv ?_ kk
                      rw [hK]
                      (repeat' split) <;> omega
                    )
                  · try (exfalso; omega)
                    all_goals (
                      refine z_const gg145_46 (v := 5) rfl ?_
                      refine q_goto gg145_47 (tg := 51) rfl ?_
                      refine q_iret gg145_51 ?_
                      refine qv ?_ kk
                      rw [hK]
                      (repeat' split) <;> omega
                    )
                )
              · try (exfalso; omega)
                all_goals (
                  refine z_const gg145_36 (v := 4) rfl ?_
                  refine q_goto gg145_37 (tg := 51) rfl ?_
                  refine q_iret gg145_51 ?_
                  refine qv ?_ kk
                  rw [hK]
                  (repeat' split) <;> omega
                )
            )
          · try (exfalso; omega)
            all_goals (
              refine z_const gg145_26 (v := 3) rfl ?_
              refine q_goto gg145_27 (tg := 51) rfl ?_
              refine q_iret gg145_51 ?_
              refine qv ?_ kk
              rw [hK]
              (repeat' split) <;> omega
            )
        )
      · try (exfalso; omega)
        all_goals (
          refine z_const gg145_16 (v := 2) rfl ?_
          refine q_goto gg145_17 (tg := 51) rfl ?_
          refine q_iret gg145_51 ?_
          refine qv ?_ kk
          rw [hK]
          (repeat' split) <;> omega
        )
    )
  · try (exfalso; omega)
    all_goals (
      refine z_const gg145_6 (v := 1) rfl ?_
      refine q_goto gg145_7 (tg := 51) rfl ?_
      refine q_iret gg145_51 ?_
      refine qv ?_ kk
      rw [hK]
      (repeat' split) <;> omega
    )
end P3
