section B1
variable {d r mid pc nx k : Nat} {M N : hm_M} {w v w0 g ln lg it tr tp : Int → Int} {b n e x a s y c q i p na tn tl fk st : Int} {f F : Nat → Int32} {pa im : Int → Int → Int} {Q : Option hm_V → hm_M → Prop}
/-! basin -/
def aBasin (w : Int → Int) (b y : Int) : Int := if 0 ≤ b ∧ b < w 2 then (if y = 0 then w (4 + 7 * b + 2) else if y = 1 then w (4 + 7 * b + 1) else if y = 2 then w (4 + 7 * b + 3) else if y = 3 then w (4 + 7 * b + 4) else if y = 4 then w (4 + 7 * b + 5) else if y = 5 then mGlow w b else if y = 6 then mGrow w b else -1000001) else -1000001
theorem c_basin (hb : zR b) (hy : zR y) (h : Hb M 7 w) (hw : mWf w) (kk : Q (some (.inl (zI (aBasin w b y)))) M) : hm_Wp (d + 6) 98 0 [some (.inr (.inr 0)), some (.inl (zI b)), some (.inl (zI y))] [] M Q := by
  have hn := hw.1.1
  have h4 := h.1.1
  have h5 := h.1.2.1
  have h8 := h.1.2.2.2.1
  have h9 := h.1.2.2.2.2.1
  have s4 := bsum7_lt (hw.f01 (q := 4) (by decide) (by decide))
  have s5 := bsum7_lt (hw.f01 (q := 5) (by decide) (by decide))
  have a2 := h.1.2.2.2.2.2.2.2.1
  have a3 := h.2.2
  have a4 := h.1.2.2.2.2.2.2.2.2
  have hE : aBasin w b y = if 0 ≤ b ∧ b < w 2 then (if y = 0 then w (4 + 7 * b + 2) else if y = 1 then w (4 + 7 * b + 1) else if y = 2 then w (4 + 7 * b + 3) else if y = 3 then w (4 + 7 * b + 4) else if y = 4 then w (4 + 7 * b + 5) else if y = 5 then mGlow w b else if y = 6 then mGrow w b else -1000001) else -1000001 := rfl
  unfold zR at hb hy
  by_cases hin : 0 ≤ b ∧ b < w 2
  · rw [if_pos hin] at hE
    obtain ⟨b0, b1⟩ := hin
    have q4 := hw.bit (q := 4) (by decide) (by decide) b0 (by omega)
    have q5 := hw.bit (q := 5) (by decide) (by decide) b0 (by omega)
    have w4 := hw.1.2.1 b 4 b0 (by omega) (by decide) (by decide)
    have w5 := hw.1.2.1 b 5 b0 (by omega) (by decide) (by decide)
    have w0 := hw.2.1 0 (by decide) (by decide)
    have hg : mGlow w b = if w (4 + 7 * b + 4) = 1 ∧ 0 < w 0 - w (4 + 7 * b + 3) then w 0 - w (4 + 7 * b + 3) else 0 := rfl
    refine q_aload gg98_0 rfl ?_
    refine q_getr gg98_1 rfl ?_
    refine q_iload gg98_4 rfl ?_
    refine q_call2 gg98_5 tt32 rfl (Nat.le_of_ble_eq_true rfl) (hm_rv (by decide +kernel)) (ls' := [some _, some _]) rfl rfl ?_
    refine q_iload gg32_0 rfl ?_
    refine z_iflt gg32_1 (tg := 16) rfl (by omega) (fun c1 => ?_) (fun c1 => ?_)
    · try (exfalso; omega)
      all_goals (
        refine z_const gg32_16 (v := 0) rfl ?_
        refine z_zretC gg32_17 (by omega) ?_
        refine z_ifne gg98_8 (tg := 14) rfl (by decide) (fun z => absurd z (by decide)) (fun _ => ?_)
        refine z_neg gg98_11 ?_
        refine q_iret gg98_13 ?_
        exfalso
        omega
      )
    · try (exfalso; omega)
      all_goals (
        refine q_iload gg32_4 rfl ?_
        refine q_aload gg32_5 rfl ?_
        first | refine z_getf gg32_6 rfl (by assumption) ?_ | refine q_getf gg32_6 rfl ?_
        refine z_icmpge gg32_9 (tg := 16) rfl (by omega) (by omega) (fun c2 => ?_) (fun c2 => ?_)
        · try (exfalso; omega)
          all_goals (
            refine z_const gg32_16 (v := 0) rfl ?_
            refine z_zretC gg32_17 (by omega) ?_
            refine z_ifne gg98_8 (tg := 14) rfl (by decide) (fun z => absurd z (by decide)) (fun _ => ?_)
            refine z_neg gg98_11 ?_
            refine q_iret gg98_13 ?_
            exfalso
            omega
          )
        · try (exfalso; omega)
          all_goals (
            refine z_const gg32_12 (v := 1) rfl ?_
            refine q_goto gg32_13 (tg := 17) rfl ?_
            refine z_zretC gg32_17 (by omega) ?_
            refine z_ifne gg98_8 (tg := 14) rfl (by decide) (fun _ => ?_) (fun z => absurd z (by decide))
            refine q_iload gg98_14 rfl ?_
            refine z_sw gg98_15 (by omega) ?_
            simp only [hm_swt_cons, hm_swt_nil]
            split
            · try (exfalso; omega)
              all_goals (
                refine q_aload gg98_56 rfl ?_
                refine q_getr gg98_57 rfl ?_
                refine q_getr gg98_60 rfl ?_
                refine q_iload gg98_63 rfl ?_
                first | (refine z_alr gg98_64 (by first | rfl | assumption) (by assumption) (by omega) (by omega) (by omega) (by decide) (fun v64 ev64 lv64 uv64 => ?_); try dsimp only at ev64) | (refine z_alx gg98_64 rfl (by assumption) (by omega) (by omega) (by first | omega | decide) (by decide) (fun v64 ev64 lv64 uv64 => ?_); try dsimp only at ev64) | refine z_alq gg98_64 rfl (by omega) (by omega) (by decide) ?_
                refine q_iret gg98_65 ?_
                refine qv ?_ kk
                rw [hE]
                subst_vars
                first | (simp; done) | (simp [*]; done) | (simp; omega) | (simp; rw [hg]; (repeat' split) <;> omega)
              )
            split
            · try (exfalso; omega)
              all_goals (
                refine q_aload gg98_66 rfl ?_
                refine q_getr gg98_67 rfl ?_
                refine q_getr gg98_70 rfl ?_
                refine q_iload gg98_73 rfl ?_
                first | (refine z_alr gg98_74 (by first | rfl | assumption) (by assumption) (by omega) (by omega) (by omega) (by decide) (fun v74 ev74 lv74 uv74 => ?_); try dsimp only at ev74) | (refine z_alx gg98_74 rfl (by assumption) (by omega) (by omega) (by first | omega | decide) (by decide) (fun v74 ev74 lv74 uv74 => ?_); try dsimp only at ev74) | refine z_alq gg98_74 rfl (by omega) (by omega) (by decide) ?_
                refine q_iret gg98_75 ?_
                refine qv ?_ kk
                rw [hE]
                subst_vars
                first | (simp; done) | (simp [*]; done) | (simp; omega) | (simp; rw [hg]; (repeat' split) <;> omega)
              )
            split
            · try (exfalso; omega)
              all_goals (
                refine q_aload gg98_76 rfl ?_
                refine q_getr gg98_77 rfl ?_
                refine q_getr gg98_80 rfl ?_
                refine q_iload gg98_83 rfl ?_
                first | (refine z_alr gg98_84 (by first | rfl | assumption) (by assumption) (by omega) (by omega) (by omega) (by decide) (fun v84 ev84 lv84 uv84 => ?_); try dsimp only at ev84) | (refine z_alx gg98_84 rfl (by assumption) (by omega) (by omega) (by first | omega | decide) (by decide) (fun v84 ev84 lv84 uv84 => ?_); try dsimp only at ev84) | refine z_alq gg98_84 rfl (by omega) (by omega) (by decide) ?_
                refine q_iret gg98_85 ?_
                refine qv ?_ kk
                rw [hE]
                subst_vars
                first | (simp; done) | (simp [*]; done) | (simp; omega) | (simp; rw [hg]; (repeat' split) <;> omega)
              )
            split
            · try (exfalso; omega)
              all_goals (
                refine q_aload gg98_86 rfl ?_
                refine q_getr gg98_87 rfl ?_
                refine q_iload gg98_90 rfl ?_
                refine q_call2 gg98_91 tt33 rfl (Nat.le_of_ble_eq_true rfl) (hm_rv (by decide +kernel)) (ls' := [some _, some _]) rfl rfl ?_
                refine q_aload gg33_0 rfl ?_
                first | refine z_getf gg33_1 rfl (by assumption) ?_ | refine q_getf gg33_1 rfl ?_
                refine q_iload gg33_4 rfl ?_
                first | refine z_ishr gg33_5 (by omega) (by omega) (by omega) (by omega) (fun sisOn_5 esisOn_5 lsisOn_5 usisOn_5 => ?_) | refine q_ishr gg33_5 ?_
                refine z_const gg33_6 (v := 1) rfl ?_
                first | refine z_iand1 gg33_7 (by omega) (by omega) ?_ | refine z_iandn gg33_7 (by omega) (by omega) (by omega) (by omega) ?_ | refine q_iand gg33_7 ?_
                refine z_const gg33_8 (v := 1) rfl ?_
                refine z_icmpne gg33_9 (tg := 16) rfl (by omega) (by omega) (fun c4 => ?_) (fun c4 => ?_)
                · try (exfalso; omega)
                  all_goals (
                    refine z_const gg33_16 (v := 0) rfl ?_
                    refine z_zretC gg33_17 (by omega) ?_
                    refine z_ifeq gg98_94 (tg := 101) rfl (by decide) (fun _ => ?_) (fun z => absurd z (by decide))
                    refine z_const gg98_101 (v := 0) rfl ?_
                    refine q_iret gg98_102 ?_
                    refine qv ?_ kk
                    rw [hE]
                    subst_vars
                    first | (simp; done) | (simp [*]; done) | (simp; omega) | (simp; rw [hg]; (repeat' split) <;> omega)
                  )
                · try (exfalso; omega)
                  all_goals (
                    refine z_const gg33_12 (v := 1) rfl ?_
                    refine q_goto gg33_13 (tg := 17) rfl ?_
                    refine z_zretC gg33_17 (by omega) ?_
                    refine z_ifeq gg98_94 (tg := 101) rfl (by decide) (fun z => absurd z (by decide)) (fun _ => ?_)
                    refine z_const gg98_97 (v := 1) rfl ?_
                    refine q_goto gg98_98 (tg := 102) rfl ?_
                    refine q_iret gg98_102 ?_
                    refine qv ?_ kk
                    rw [hE]
                    subst_vars
                    first | (simp; done) | (simp [*]; done) | (simp; omega) | (simp; rw [hg]; (repeat' split) <;> omega)
                  )
              )
            split
            · try (exfalso; omega)
              all_goals (
                refine q_aload gg98_103 rfl ?_
                refine q_getr gg98_104 rfl ?_
                refine q_iload gg98_107 rfl ?_
                refine q_call2 gg98_108 tt34 rfl (Nat.le_of_ble_eq_true rfl) (hm_rv (by decide +kernel)) (ls' := [some _, some _]) rfl rfl ?_
                refine q_aload gg34_0 rfl ?_
                first | refine z_getf gg34_1 rfl (by assumption) ?_ | refine q_getf gg34_1 rfl ?_
                refine q_iload gg34_4 rfl ?_
                first | refine z_ishr gg34_5 (by omega) (by omega) (by omega) (by omega) (fun sisBurst_5 esisBurst_5 lsisBurst_5 usisBurst_5 => ?_) | refine q_ishr gg34_5 ?_
                refine z_const gg34_6 (v := 1) rfl ?_
                first | refine z_iand1 gg34_7 (by omega) (by omega) ?_ | refine z_iandn gg34_7 (by omega) (by omega) (by omega) (by omega) ?_ | refine q_iand gg34_7 ?_
                refine z_const gg34_8 (v := 1) rfl ?_
                refine z_icmpne gg34_9 (tg := 16) rfl (by omega) (by omega) (fun c4 => ?_) (fun c4 => ?_)
                · try (exfalso; omega)
                  all_goals (
                    refine z_const gg34_16 (v := 0) rfl ?_
                    refine z_zretC gg34_17 (by omega) ?_
                    refine z_ifeq gg98_111 (tg := 118) rfl (by decide) (fun _ => ?_) (fun z => absurd z (by decide))
                    refine z_const gg98_118 (v := 0) rfl ?_
                    refine q_iret gg98_119 ?_
                    refine qv ?_ kk
                    rw [hE]
                    subst_vars
                    first | (simp; done) | (simp [*]; done) | (simp; omega) | (simp; rw [hg]; (repeat' split) <;> omega)
                  )
                · try (exfalso; omega)
                  all_goals (
                    refine z_const gg34_12 (v := 1) rfl ?_
                    refine q_goto gg34_13 (tg := 17) rfl ?_
                    refine z_zretC gg34_17 (by omega) ?_
                    refine z_ifeq gg98_111 (tg := 118) rfl (by decide) (fun z => absurd z (by decide)) (fun _ => ?_)
                    refine z_const gg98_114 (v := 1) rfl ?_
                    refine q_goto gg98_115 (tg := 119) rfl ?_
                    refine q_iret gg98_119 ?_
                    refine qv ?_ kk
                    rw [hE]
                    subst_vars
                    first | (simp; done) | (simp [*]; done) | (simp; omega) | (simp; rw [hg]; (repeat' split) <;> omega)
                  )
              )
            split
            · try (exfalso; omega)
              all_goals (
                refine q_aload gg98_120 rfl ?_
                refine q_getr gg98_121 rfl ?_
                refine q_iload gg98_124 rfl ?_
                refine q_call2 gg98_125 tt41 rfl (Nat.le_of_ble_eq_true rfl) (hm_rv (by decide +kernel)) (ls' := [some _, some _]) rfl rfl ?_
                refine q_aload gg41_0 rfl ?_
                refine q_iload gg41_1 rfl ?_
                refine q_call2 gg41_2 tt33 rfl (Nat.le_of_ble_eq_true rfl) (hm_rv (by decide +kernel)) (ls' := [some _, some _]) rfl rfl ?_
                refine q_aload gg33_0 rfl ?_
                first | refine z_getf gg33_1 rfl (by assumption) ?_ | refine q_getf gg33_1 rfl ?_
                refine q_iload gg33_4 rfl ?_
                first | refine z_ishr gg33_5 (by omega) (by omega) (by omega) (by omega) (fun sisOn_5 esisOn_5 lsisOn_5 usisOn_5 => ?_) | refine q_ishr gg33_5 ?_
                refine z_const gg33_6 (v := 1) rfl ?_
                first | refine z_iand1 gg33_7 (by omega) (by omega) ?_ | refine z_iandn gg33_7 (by omega) (by omega) (by omega) (by omega) ?_ | refine q_iand gg33_7 ?_
                refine z_const gg33_8 (v := 1) rfl ?_
                refine z_icmpne gg33_9 (tg := 16) rfl (by omega) (by omega) (fun c4 => ?_) (fun c4 => ?_)
                · try (exfalso; omega)
                  all_goals (
                    refine z_const gg33_16 (v := 0) rfl ?_
                    refine z_zretC gg33_17 (by omega) ?_
                    refine z_ifeq gg41_5 (tg := 26) rfl (by decide) (fun _ => ?_) (fun z => absurd z (by decide))
                    refine z_const gg41_26 (v := 0) rfl ?_
                    refine q_iretC gg41_27 ?_
                    refine q_iret gg98_128 ?_
                    refine qv ?_ kk
                    rw [hE]
                    subst_vars
                    first | (simp; done) | (simp [*]; done) | (simp; omega) | (simp; rw [hg]; (repeat' split) <;> omega)
                  )
                · try (exfalso; omega)
                  all_goals (
                    refine z_const gg33_12 (v := 1) rfl ?_
                    refine q_goto gg33_13 (tg := 17) rfl ?_
                    refine z_zretC gg33_17 (by omega) ?_
                    refine z_ifeq gg41_5 (tg := 26) rfl (by decide) (fun z => absurd z (by decide)) (fun _ => ?_)
                    refine z_const gg41_8 (v := 0) rfl ?_
                    refine q_aload gg41_9 rfl ?_
                    first | refine z_getf gg41_10 rfl (by assumption) ?_ | refine q_getf gg41_10 rfl ?_
                    refine q_aload gg41_13 rfl ?_
                    refine q_getr gg41_14 rfl ?_
                    refine q_iload gg41_17 rfl ?_
                    first | (refine z_alr gg41_18 (by first | rfl | assumption) (by assumption) (by omega) (by omega) (by omega) (by decide) (fun vglowOf_18 evglowOf_18 lvglowOf_18 uvglowOf_18 => ?_); try dsimp only at evglowOf_18) | (refine z_alx gg41_18 rfl (by assumption) (by omega) (by omega) (by first | omega | decide) (by decide) (fun vglowOf_18 evglowOf_18 lvglowOf_18 uvglowOf_18 => ?_); try dsimp only at evglowOf_18) | refine z_alq gg41_18 rfl (by omega) (by omega) (by decide) ?_
                    first | refine z_isub gg41_19 ?_ | refine q_isub gg41_19 ?_
                    refine z_max gg41_20 (Nat.le_of_ble_eq_true rfl) (by omega) (by omega) ?_
                    refine q_goto gg41_23 (tg := 27) rfl ?_
                    refine q_iretC gg41_27 ?_
                    refine q_iret gg98_128 ?_
                    refine qv ?_ kk
                    rw [hE]
                    subst_vars
                    first | (simp; done) | (simp [*]; done) | (simp; omega) | (simp; rw [hg]; (repeat' split) <;> omega)
                  )
              )
            split
            · try (exfalso; omega)
              all_goals (
                refine q_aload gg98_129 rfl ?_
                refine q_getr gg98_130 rfl ?_
                refine q_iload gg98_133 rfl ?_
                refine q_call2 gg98_134 tt42 rfl (Nat.le_of_ble_eq_true rfl) (hm_rv (by decide +kernel)) (ls' := [some _, some _, none]) rfl rfl ?_
                refine c_growthOf (by omega) h.1 hw b0 b1 ?_
                show hm_Wp _ _ _ _ (_ :: _) _ _
                refine q_iret gg98_137 ?_
                refine qv ?_ kk
                rw [hE]
                subst_vars
                first | (simp; done) | (simp [*]; done) | (simp; omega) | (simp; rw [hg]; (repeat' split) <;> omega)
              )
            try (exfalso; omega)
            all_goals (
              show hm_Wp _ _ 138 _ _ _ _
              refine z_neg gg98_138 ?_
              refine q_iret gg98_140 ?_
              refine qv ?_ kk
              rw [hE]
              subst_vars
              first | (simp; done) | (simp [*]; done) | (simp; omega) | (simp; rw [hg]; (repeat' split) <;> omega)
            )
          )
      )
  · rw [if_neg hin] at hE
    rw [hE] at kk
    refine q_aload gg98_0 rfl ?_
    refine q_getr gg98_1 rfl ?_
    refine q_iload gg98_4 rfl ?_
    refine q_call2 gg98_5 tt32 rfl (Nat.le_of_ble_eq_true rfl) (hm_rv (by decide +kernel)) (ls' := [some _, some _]) rfl rfl ?_
    refine q_iload gg32_0 rfl ?_
    refine z_iflt gg32_1 (tg := 16) rfl (by omega) (fun c1 => ?_) (fun c1 => ?_)
    · try (exfalso; omega)
      all_goals (
        refine z_const gg32_16 (v := 0) rfl ?_
        refine z_zretC gg32_17 (by omega) ?_
        refine z_ifne gg98_8 (tg := 14) rfl (by decide) (fun z => absurd z (by decide)) (fun _ => ?_)
        refine z_neg gg98_11 ?_
        refine q_iret gg98_13 ?_
        exact kk
      )
    · try (exfalso; omega)
      all_goals (
        refine q_iload gg32_4 rfl ?_
        refine q_aload gg32_5 rfl ?_
        first | refine z_getf gg32_6 rfl (by assumption) ?_ | refine q_getf gg32_6 rfl ?_
        refine z_icmpge gg32_9 (tg := 16) rfl (by omega) (by omega) (fun c2 => ?_) (fun c2 => ?_)
        · try (exfalso; omega)
          all_goals (
            refine z_const gg32_16 (v := 0) rfl ?_
            refine z_zretC gg32_17 (by omega) ?_
            refine z_ifne gg98_8 (tg := 14) rfl (by decide) (fun z => absurd z (by decide)) (fun _ => ?_)
            refine z_neg gg98_11 ?_
            refine q_iret gg98_13 ?_
            exact kk
          )
        · try (exfalso; omega)
          all_goals (
            refine z_const gg32_12 (v := 1) rfl ?_
            refine q_goto gg32_13 (tg := 17) rfl ?_
            refine z_zretC gg32_17 (by omega) ?_
            refine z_ifne gg98_8 (tg := 14) rfl (by decide) (fun _ => ?_) (fun z => absurd z (by decide))
            exfalso
            omega
          )
      )
theorem r_basin (hb : zR b) (hy : zR y) (hf : aw (M 36) 53 0 20000 w) (hw : mWf w) (kk : Q (some (.inl (zI (aBasin w b y)))) M) : hm_Wp (d + 6) 173 0 [some (.inr (.inr 30)), some (.inl (zI b)), some (.inl (zI y)), none] [] M Q := by
  have hn := hw.1.1
  have hE : aBasin w b y = if 0 ≤ b ∧ b < w 2 then (if y = 0 then w (4 + 7 * b + 2) else if y = 1 then w (4 + 7 * b + 1) else if y = 2 then w (4 + 7 * b + 3) else if y = 3 then w (4 + 7 * b + 4) else if y = 4 then w (4 + 7 * b + 5) else if y = 5 then mGlow w b else if y = 6 then mGrow w b else -1000001) else -1000001 := rfl
  unfold zR at hb hy
  by_cases hin : 0 ≤ b ∧ b < w 2
  · rw [if_pos hin] at hE
    obtain ⟨b0, b1⟩ := hin
    refine q_aload gg173_0 rfl ?_
    refine q_iload gg173_1 rfl ?_
    refine q_call2 gg173_2 tt152 rfl (Nat.le_of_ble_eq_true rfl) (hm_rv (by decide +kernel)) (ls' := [some _, some _]) rfl rfl ?_
    refine q_iload gg152_0 rfl ?_
    refine z_const gg152_1 (v := 0) rfl ?_
    refine q_aload gg152_2 rfl ?_
    refine q_getr gg152_3 rfl ?_
    refine z_const gg152_6 (v := 2) rfl ?_
    first | (refine z_alr gg152_7 (by first | rfl | assumption) (by assumption) (by omega) (by omega) (by omega) (by decide) (fun visBasin_7 evisBasin_7 lvisBasin_7 uvisBasin_7 => ?_); try dsimp only at evisBasin_7) | (refine z_alx gg152_7 rfl (by assumption) (by omega) (by omega) (by first | omega | decide) (by decide) (fun visBasin_7 evisBasin_7 lvisBasin_7 uvisBasin_7 => ?_); try dsimp only at evisBasin_7) | refine z_alq gg152_7 rfl (by omega) (by omega) (by decide) ?_
    refine z_const gg152_8 (v := 1) rfl ?_
    first | refine z_isub gg152_9 ?_ | refine q_isub gg152_9 ?_
    refine q_call3 gg152_10 tt124 rfl (Nat.le_of_ble_eq_true rfl) rfl (ls' := [some _, some _, some _]) rfl rfl ?_
    refine q_iload gg124_0 rfl ?_
    refine q_iload gg124_1 rfl ?_
    refine z_icmplt gg124_2 (tg := 14) rfl (by omega) (by omega) (fun c1 => ?_) (fun c1 => ?_)
    · try (exfalso; omega)
      all_goals (
        refine z_const gg124_14 (v := 0) rfl ?_
        refine z_zretC gg124_15 (by omega) ?_
        refine z_zretC gg152_13 (by omega) ?_
        refine z_ifne gg173_5 (tg := 11) rfl (by decide) (fun z => absurd z (by decide)) (fun _ => ?_)
        refine z_neg gg173_8 ?_
        refine q_iret gg173_10 ?_
        exfalso
        omega
      )
    · try (exfalso; omega)
      all_goals (
        refine q_iload gg124_5 rfl ?_
        refine q_iload gg124_6 rfl ?_
        refine z_icmpgt gg124_7 (tg := 14) rfl (by omega) (by omega) (fun c2 => ?_) (fun c2 => ?_)
        · try (exfalso; omega)
          all_goals (
            refine z_const gg124_14 (v := 0) rfl ?_
            refine z_zretC gg124_15 (by omega) ?_
            refine z_zretC gg152_13 (by omega) ?_
            refine z_ifne gg173_5 (tg := 11) rfl (by decide) (fun z => absurd z (by decide)) (fun _ => ?_)
            refine z_neg gg173_8 ?_
            refine q_iret gg173_10 ?_
            exfalso
            omega
          )
        · try (exfalso; omega)
          all_goals (
            refine z_const gg124_10 (v := 1) rfl ?_
            refine q_goto gg124_11 (tg := 15) rfl ?_
            refine z_zretC gg124_15 (by omega) ?_
            refine z_zretC gg152_13 (by omega) ?_
            refine z_ifne gg173_5 (tg := 11) rfl (by decide) (fun _ => ?_) (fun z => absurd z (by decide))
            refine z_const gg173_11 (v := 4) rfl ?_
            refine z_const gg173_12 (v := 7) rfl ?_
            refine q_iload gg173_14 rfl ?_
            first | refine z_imul gg173_15 ?_ | refine q_imul gg173_15 ?_
            first | refine z_iadd gg173_16 ?_ | refine q_iadd gg173_16 ?_
            refine q_istore gg173_17 rfl ?_
            refine q_iload gg173_18 rfl ?_
            refine z_sw gg173_19 (by omega) ?_
            simp only [hm_swt_cons, hm_swt_nil]
            split
            · try (exfalso; omega)
              all_goals (
                refine q_aload gg173_60 rfl ?_
                refine q_getr gg173_61 rfl ?_
                refine q_iload gg173_64 rfl ?_
                refine z_const gg173_65 (v := 2) rfl ?_
                first | refine z_iadd gg173_66 ?_ | refine q_iadd gg173_66 ?_
                first | (refine z_alr gg173_67 (by first | rfl | assumption) (by assumption) (by omega) (by omega) (by omega) (by decide) (fun v67 ev67 lv67 uv67 => ?_); try dsimp only at ev67) | (refine z_alx gg173_67 rfl (by assumption) (by omega) (by omega) (by first | omega | decide) (by decide) (fun v67 ev67 lv67 uv67 => ?_); try dsimp only at ev67) | refine z_alq gg173_67 rfl (by omega) (by omega) (by decide) ?_
                refine q_iret gg173_68 ?_
                refine qv ?_ kk
                rw [hE]
                subst_vars
                first | (simp; done) | (simp [*]; done)
              )
            split
            · try (exfalso; omega)
              all_goals (
                refine q_aload gg173_69 rfl ?_
                refine q_getr gg173_70 rfl ?_
                refine q_iload gg173_73 rfl ?_
                refine z_const gg173_74 (v := 1) rfl ?_
                first | refine z_iadd gg173_75 ?_ | refine q_iadd gg173_75 ?_
                first | (refine z_alr gg173_76 (by first | rfl | assumption) (by assumption) (by omega) (by omega) (by omega) (by decide) (fun v76 ev76 lv76 uv76 => ?_); try dsimp only at ev76) | (refine z_alx gg173_76 rfl (by assumption) (by omega) (by omega) (by first | omega | decide) (by decide) (fun v76 ev76 lv76 uv76 => ?_); try dsimp only at ev76) | refine z_alq gg173_76 rfl (by omega) (by omega) (by decide) ?_
                refine q_iret gg173_77 ?_
                refine qv ?_ kk
                rw [hE]
                subst_vars
                first | (simp; done) | (simp [*]; done)
              )
            split
            · try (exfalso; omega)
              all_goals (
                refine q_aload gg173_78 rfl ?_
                refine q_getr gg173_79 rfl ?_
                refine q_iload gg173_82 rfl ?_
                refine z_const gg173_83 (v := 3) rfl ?_
                first | refine z_iadd gg173_84 ?_ | refine q_iadd gg173_84 ?_
                first | (refine z_alr gg173_85 (by first | rfl | assumption) (by assumption) (by omega) (by omega) (by omega) (by decide) (fun v85 ev85 lv85 uv85 => ?_); try dsimp only at ev85) | (refine z_alx gg173_85 rfl (by assumption) (by omega) (by omega) (by first | omega | decide) (by decide) (fun v85 ev85 lv85 uv85 => ?_); try dsimp only at ev85) | refine z_alq gg173_85 rfl (by omega) (by omega) (by decide) ?_
                refine q_iret gg173_86 ?_
                refine qv ?_ kk
                rw [hE]
                subst_vars
                first | (simp; done) | (simp [*]; done)
              )
            split
            · try (exfalso; omega)
              all_goals (
                refine q_aload gg173_87 rfl ?_
                refine q_getr gg173_88 rfl ?_
                refine q_iload gg173_91 rfl ?_
                refine z_const gg173_92 (v := 4) rfl ?_
                first | refine z_iadd gg173_93 ?_ | refine q_iadd gg173_93 ?_
                first | (refine z_alr gg173_94 (by first | rfl | assumption) (by assumption) (by omega) (by omega) (by omega) (by decide) (fun v94 ev94 lv94 uv94 => ?_); try dsimp only at ev94) | (refine z_alx gg173_94 rfl (by assumption) (by omega) (by omega) (by first | omega | decide) (by decide) (fun v94 ev94 lv94 uv94 => ?_); try dsimp only at ev94) | refine z_alq gg173_94 rfl (by omega) (by omega) (by decide) ?_
                refine q_iret gg173_95 ?_
                refine qv ?_ kk
                rw [hE]
                subst_vars
                first | (simp; done) | (simp [*]; done)
              )
            split
            · try (exfalso; omega)
              all_goals (
                refine q_aload gg173_96 rfl ?_
                refine q_getr gg173_97 rfl ?_
                refine q_iload gg173_100 rfl ?_
                refine z_const gg173_101 (v := 5) rfl ?_
                first | refine z_iadd gg173_102 ?_ | refine q_iadd gg173_102 ?_
                first | (refine z_alr gg173_103 (by first | rfl | assumption) (by assumption) (by omega) (by omega) (by omega) (by decide) (fun v103 ev103 lv103 uv103 => ?_); try dsimp only at ev103) | (refine z_alx gg173_103 rfl (by assumption) (by omega) (by omega) (by first | omega | decide) (by decide) (fun v103 ev103 lv103 uv103 => ?_); try dsimp only at ev103) | refine z_alq gg173_103 rfl (by omega) (by omega) (by decide) ?_
                refine q_iret gg173_104 ?_
                refine qv ?_ kk
                rw [hE]
                subst_vars
                first | (simp; done) | (simp [*]; done)
              )
            split
            · try (exfalso; omega)
              all_goals (
                refine q_aload gg173_105 rfl ?_
                refine q_getr gg173_106 rfl ?_
                refine q_iload gg173_109 rfl ?_
                refine q_call2 gg173_110 tt154 rfl (Nat.le_of_ble_eq_true rfl) rfl (ls' := [some _, some _, none, none]) rfl rfl ?_
                refine hm_Wp.eqM (hm_row_self M 36).symm ?_
                refine r_glow rfl hf b0 (by omega) ?_
                rw [hm_row_self]
                show hm_Wp _ _ _ _ (_ :: _) _ _
                refine q_iret gg173_113 ?_
                refine qv ?_ kk
                rw [hE]
                subst_vars
                first | (simp; done) | (simp [*]; done)
              )
            split
            · try (exfalso; omega)
              all_goals (
                refine q_aload gg173_114 rfl ?_
                refine q_getr gg173_115 rfl ?_
                refine q_iload gg173_118 rfl ?_
                refine q_call2 gg173_119 tt155 rfl (Nat.le_of_ble_eq_true rfl) rfl (ls' := [some _, some _, none, none]) rfl rfl ?_
                refine hm_Wp.eqM (hm_row_self M 36).symm ?_
                refine r_swelling rfl hf b0 (by omega) ?_
                rw [hm_row_self]
                show hm_Wp _ _ _ _ (_ :: _) _ _
                refine q_iret gg173_122 ?_
                refine qv ?_ kk
                rw [hE]
                subst_vars
                first | (simp; done) | (simp [*]; done)
              )
            try (exfalso; omega)
            all_goals (
              show hm_Wp _ _ 123 _ _ _ _
              refine z_neg gg173_123 ?_
              refine q_iret gg173_125 ?_
              refine qv ?_ kk
              rw [hE]
              subst_vars
              first | (simp; done) | (simp [*]; done)
            )
          )
      )
  · rw [if_neg hin] at hE
    rw [hE] at kk
    refine q_aload gg173_0 rfl ?_
    refine q_iload gg173_1 rfl ?_
    refine q_call2 gg173_2 tt152 rfl (Nat.le_of_ble_eq_true rfl) (hm_rv (by decide +kernel)) (ls' := [some _, some _]) rfl rfl ?_
    refine q_iload gg152_0 rfl ?_
    refine z_const gg152_1 (v := 0) rfl ?_
    refine q_aload gg152_2 rfl ?_
    refine q_getr gg152_3 rfl ?_
    refine z_const gg152_6 (v := 2) rfl ?_
    first | (refine z_alr gg152_7 (by first | rfl | assumption) (by assumption) (by omega) (by omega) (by omega) (by decide) (fun visBasin_7 evisBasin_7 lvisBasin_7 uvisBasin_7 => ?_); try dsimp only at evisBasin_7) | (refine z_alx gg152_7 rfl (by assumption) (by omega) (by omega) (by first | omega | decide) (by decide) (fun visBasin_7 evisBasin_7 lvisBasin_7 uvisBasin_7 => ?_); try dsimp only at evisBasin_7) | refine z_alq gg152_7 rfl (by omega) (by omega) (by decide) ?_
    refine z_const gg152_8 (v := 1) rfl ?_
    first | refine z_isub gg152_9 ?_ | refine q_isub gg152_9 ?_
    refine q_call3 gg152_10 tt124 rfl (Nat.le_of_ble_eq_true rfl) rfl (ls' := [some _, some _, some _]) rfl rfl ?_
    refine q_iload gg124_0 rfl ?_
    refine q_iload gg124_1 rfl ?_
    refine z_icmplt gg124_2 (tg := 14) rfl (by omega) (by omega) (fun c1 => ?_) (fun c1 => ?_)
    · try (exfalso; omega)
      all_goals (
        refine z_const gg124_14 (v := 0) rfl ?_
        refine z_zretC gg124_15 (by omega) ?_
        refine z_zretC gg152_13 (by omega) ?_
        refine z_ifne gg173_5 (tg := 11) rfl (by decide) (fun z => absurd z (by decide)) (fun _ => ?_)
        refine z_neg gg173_8 ?_
        refine q_iret gg173_10 ?_
        exact kk
      )
    · try (exfalso; omega)
      all_goals (
        refine q_iload gg124_5 rfl ?_
        refine q_iload gg124_6 rfl ?_
        refine z_icmpgt gg124_7 (tg := 14) rfl (by omega) (by omega) (fun c2 => ?_) (fun c2 => ?_)
        · try (exfalso; omega)
          all_goals (
            refine z_const gg124_14 (v := 0) rfl ?_
            refine z_zretC gg124_15 (by omega) ?_
            refine z_zretC gg152_13 (by omega) ?_
            refine z_ifne gg173_5 (tg := 11) rfl (by decide) (fun z => absurd z (by decide)) (fun _ => ?_)
            refine z_neg gg173_8 ?_
            refine q_iret gg173_10 ?_
            exact kk
          )
        · try (exfalso; omega)
          all_goals (
            refine z_const gg124_10 (v := 1) rfl ?_
            refine q_goto gg124_11 (tg := 15) rfl ?_
            refine z_zretC gg124_15 (by omega) ?_
            refine z_zretC gg152_13 (by omega) ?_
            refine z_ifne gg173_5 (tg := 11) rfl (by decide) (fun _ => ?_) (fun z => absurd z (by decide))
            exfalso
            omega
          )
      )
/-! place -/
theorem pigeon : ∀ (n : Nat) (f : Int → Int), (∀ i : Int, 0 ≤ i → i < n → 0 ≤ f i ∧ f i < n) → (∀ i j : Int, 0 ≤ i → i < n → 0 ≤ j → j < n → f i = f j → i = j) → ∀ p : Int, 0 ≤ p → p < n → ∃ i : Int, 0 ≤ i ∧ i < n ∧ f i = p
  | 0, _, _, _, p, h0, h1 => by omega
  | n + 1, f, hr, hi, p, h0, h1 => by
    have hrn := hr n (by omega) (by omega)
    have IH := pigeon n (fun i => if f i = n then f n else f i) (fun i i0 i1 => by
      have h1 := hr i i0 (by omega)
      have h2 := hi i n i0 (by omega) (by omega) (by omega)
      split <;> omega) (fun i j i0 i1 j0 j1 hij => by
      have e1 := hi i n i0 (by omega) (by omega) (by omega)
      have e2 := hi j n j0 (by omega) (by omega) (by omega)
      have e3 := hi i j i0 (by omega) j0 (by omega)
      (repeat' split at hij) <;> omega)
    by_cases hp : p = n
    · by_cases hq : f n = n
      · exact ⟨n, by omega, by omega, by omega⟩
      · obtain ⟨i, i0, i1, hfi⟩ := IH (f n) (by omega) (by omega)
        have e1 := hi i n i0 (by omega) (by omega) (by omega)
        split at hfi
        · exact ⟨i, i0, by omega, by omega⟩
        · omega
    · obtain ⟨i, i0, i1, hfi⟩ := IH p h0 (by omega)
      split at hfi
      · exact ⟨n, by omega, by omega, hfi⟩
      · exact ⟨i, i0, by omega, hfi⟩
/-- who stands in place p -/
def aPl (w : Int → Int) (p x : Int) : Prop := (∃ b : Int, 0 ≤ b ∧ b < w 2 ∧ w (4 + 7 * b + 3) = p ∧ x = b) ∨ ((∀ b : Int, 0 ≤ b → b < w 2 → w (4 + 7 * b + 3) ≠ p) ∧ x = -1000001)
theorem aPl_u (hw : mWf w) (h1 : aPl w p x) (h2 : aPl w p y) : x = y := by
  rcases h1 with ⟨b, b0, b1, b2, rfl⟩ | ⟨h1, rfl⟩
  · rcases h2 with ⟨c, c0, c1, c2, rfl⟩ | ⟨h2, rfl⟩
    · exact hw.1.2.2 x y b0 b1 c0 c1 (by omega)
    · exact absurd b2 (h2 x b0 b1)
  · rcases h2 with ⟨c, c0, c1, c2, rfl⟩ | ⟨h2, rfl⟩
    · exact absurd c2 (h1 y c0 c1)
    · rfl
theorem c_place (hy : zR p) (h : Hb M 7 w) (hw : mWf w) (kk : ∀ x, aPl w p x → Q (some (.inl (zI x))) M) : hm_Wp (d + 6) 99 0 [some (.inr (.inr 0)), some (.inl (zI p)), none] [] M Q := by
  have hn := hw.1.1
  have h4 := h.1.1
  have a4 := h.1.2.2.2.2.2.2.2.2
  unfold zR at hy
  have L : ∀ (m : Nat) (j : Int), 0 ≤ j → j + m = w 2 → (∀ b : Int, 0 ≤ b → b < j → w (4 + 7 * b + 3) ≠ p) → hm_Wp (d + 6) 99 2 [some (.inr (.inr 0)), some (.inl (zI p)), some (.inl (zI j))] [] M Q := by
    intro m
    induction m with
    | zero =>
      intro j hj0 hjm hno
      refine q_iload gg99_2 rfl ?_
      refine q_aload gg99_3 rfl ?_
      refine q_getr gg99_4 rfl ?_
      first | refine z_getf gg99_7 rfl (by assumption) ?_ | refine q_getf gg99_7 rfl ?_
      refine z_icmpge gg99_10 (tg := 34) rfl (by omega) (by omega) (fun c1 => ?_) (fun z => absurd z (by omega))
      refine z_neg gg99_34 ?_
      refine q_iret gg99_36 ?_
      exact kk _ (Or.inr ⟨fun b b0 b1 => hno b b0 (by omega), rfl⟩)
    | succ m ih =>
      intro j hj0 hjm hno
      refine q_iload gg99_2 rfl ?_
      refine q_aload gg99_3 rfl ?_
      refine q_getr gg99_4 rfl ?_
      first | refine z_getf gg99_7 rfl (by assumption) ?_ | refine q_getf gg99_7 rfl ?_
      refine z_icmpge gg99_10 (tg := 34) rfl (by omega) (by omega) (fun z => absurd z (by omega)) (fun c1 => ?_)
      refine q_aload gg99_13 rfl ?_
      refine q_getr gg99_14 rfl ?_
      refine q_getr gg99_17 rfl ?_
      refine q_iload gg99_20 rfl ?_
      first | (refine z_alr gg99_21 (by first | rfl | assumption) (by assumption) (by omega) (by omega) (by omega) (by decide) (fun v21 ev21 lv21 uv21 => ?_); try dsimp only at ev21) | (refine z_alx gg99_21 rfl (by assumption) (by omega) (by omega) (by first | omega | decide) (by decide) (fun v21 ev21 lv21 uv21 => ?_); try dsimp only at ev21) | refine z_alq gg99_21 rfl (by omega) (by omega) (by decide) ?_
      refine q_iload gg99_22 rfl ?_
      refine z_icmpne gg99_23 (tg := 28) rfl (by omega) (by omega) (fun c2 => ?_) (fun c2 => ?_)
      · try (exfalso; omega)
        all_goals (
          refine z_iinc gg99_28 rfl rfl ?_
          refine q_goto gg99_31 (tg := 2) rfl ?_
          exact ih (j + 1) (by omega) (by omega) (all_succ hno (by omega))
        )
      · try (exfalso; omega)
        all_goals (
          refine q_iload gg99_26 rfl ?_
          refine q_iret gg99_27 ?_
          exact kk _ (Or.inl ⟨j, hj0, by omega, by omega, rfl⟩)
        )
  refine z_const gg99_0 (v := 0) rfl ?_
  refine q_istore gg99_1 rfl ?_
  exact L (w 2).toNat 0 (by decide) (by omega) (fun b b0 b1 => by omega)
theorem r_place (hy : zR p) (hf : aw (M 36) 53 0 20000 w) (hw : mWf w) (kk : ∀ x, aPl w p x → Q (some (.inl (zI x))) M) : hm_Wp (d + 6) 174 0 [some (.inr (.inr 30)), some (.inl (zI p))] [] M Q := by
  have hn := hw.1.1
  unfold zR at hy
  refine q_aload gg174_0 rfl ?_
  refine q_iload gg174_1 rfl ?_
  refine q_call2 gg174_2 tt152 rfl (Nat.le_of_ble_eq_true rfl) (hm_rv (by decide +kernel)) (ls' := [some _, some _]) rfl rfl ?_
  refine q_iload gg152_0 rfl ?_
  refine z_const gg152_1 (v := 0) rfl ?_
  refine q_aload gg152_2 rfl ?_
  refine q_getr gg152_3 rfl ?_
  refine z_const gg152_6 (v := 2) rfl ?_
  first | (refine z_alr gg152_7 (by first | rfl | assumption) (by assumption) (by omega) (by omega) (by omega) (by decide) (fun visBasin_7 evisBasin_7 lvisBasin_7 uvisBasin_7 => ?_); try dsimp only at evisBasin_7) | (refine z_alx gg152_7 rfl (by assumption) (by omega) (by omega) (by first | omega | decide) (by decide) (fun visBasin_7 evisBasin_7 lvisBasin_7 uvisBasin_7 => ?_); try dsimp only at evisBasin_7) | refine z_alq gg152_7 rfl (by omega) (by omega) (by decide) ?_
  refine z_const gg152_8 (v := 1) rfl ?_
  first | refine z_isub gg152_9 ?_ | refine q_isub gg152_9 ?_
  refine q_call3 gg152_10 tt124 rfl (Nat.le_of_ble_eq_true rfl) rfl (ls' := [some _, some _, some _]) rfl rfl ?_
  refine q_iload gg124_0 rfl ?_
  refine q_iload gg124_1 rfl ?_
  refine z_icmplt gg124_2 (tg := 14) rfl (by omega) (by omega) (fun c1 => ?_) (fun c1 => ?_)
  · try (exfalso; omega)
    all_goals (
      refine z_const gg124_14 (v := 0) rfl ?_
      refine z_zretC gg124_15 (by omega) ?_
      refine z_zretC gg152_13 (by omega) ?_
      refine z_ifeq gg174_5 (tg := 19) rfl (by decide) (fun _ => ?_) (fun z => absurd z (by decide))
      refine z_neg gg174_19 ?_
      refine q_iret gg174_21 ?_
      refine kk _ (Or.inr ⟨fun b b0 b1 hb => ?_, rfl⟩)
      have := (hw.2.2.1 b b0 b1).2.2.2.2
      have := (hw.2.1 (4 + 7 * b + 3) (by omega) (by omega)).1
      omega
    )
  · try (exfalso; omega)
    all_goals (
      refine q_iload gg124_5 rfl ?_
      refine q_iload gg124_6 rfl ?_
      refine z_icmpgt gg124_7 (tg := 14) rfl (by omega) (by omega) (fun c2 => ?_) (fun c2 => ?_)
      · try (exfalso; omega)
        all_goals (
          refine z_const gg124_14 (v := 0) rfl ?_
          refine z_zretC gg124_15 (by omega) ?_
          refine z_zretC gg152_13 (by omega) ?_
          refine z_ifeq gg174_5 (tg := 19) rfl (by decide) (fun _ => ?_) (fun z => absurd z (by decide))
          refine z_neg gg174_19 ?_
          refine q_iret gg174_21 ?_
          refine kk _ (Or.inr ⟨fun b b0 b1 hb => ?_, rfl⟩)
          have := (hw.2.2.1 b b0 b1).2.2.2.2
          have := (hw.2.1 (4 + 7 * b + 3) (by omega) (by omega)).1
          omega
        )
      · try (exfalso; omega)
        all_goals (
          refine z_const gg124_10 (v := 1) rfl ?_
          refine q_goto gg124_11 (tg := 15) rfl ?_
          refine z_zretC gg124_15 (by omega) ?_
          refine z_zretC gg152_13 (by omega) ?_
          refine z_ifeq gg174_5 (tg := 19) rfl (by decide) (fun z => absurd z (by decide)) (fun _ => ?_)
          refine q_aload gg174_8 rfl ?_
          refine q_getr gg174_9 rfl ?_
          refine q_iload gg174_12 rfl ?_
          refine q_call2 gg174_13 tt158 rfl (Nat.le_of_ble_eq_true rfl) rfl (ls' := [some _, some _, none]) rfl rfl ?_
          refine hm_Wp.eqM (hm_row_self M 36).symm ?_
          refine r_inPlace rfl hf hn.1 hn.2 (by omega) (by omega) (fun b b0 b1 hb => ?_) (fun hno => ?_)
          rw [hm_row_self]
          all_goals show hm_Wp _ _ _ _ (_ :: _) _ _
          show hm_Wp _ _ _ _ (_ :: _) _ _
          · refine q_goto gg174_16 (tg := 21) rfl ?_
            refine q_iret gg174_21 ?_
            exact kk _ (Or.inl ⟨b, b0, b1, hb, rfl⟩)
          · exfalso
            obtain ⟨i, i0, i1, hi⟩ := pigeon (w 2).toNat (fun c => w (4 + 7 * c + 3)) (fun c c0 c1 => ⟨(hw.2.1 _ (by omega) (by omega)).1, by have := (hw.2.2.1 c c0 (by omega)).2.2.2.2; omega⟩) (fun c e c0 c1 e0 e1 he => hw.1.2.2 c e c0 (by omega) e0 (by omega) he) p (by omega) (by omega)
            exact hno i i0 (by omega) hi
        )
    )
/-! kind -/
def aKind (w : Int → Int) (b : Int) : Int := if 0 ≤ b ∧ b < w 2 then w (4 + 7 * b) else -1000001
theorem c_kind (hy : zR b) (h : Hb M 7 w) (hw : mWf w) (kk : Q (some (.inl (zI (aKind w b)))) M) : hm_Wp (d + 6) 114 0 [some (.inr (.inr 0)), some (.inl (zI b))] [] M Q := by
  have hn := hw.1.1
  have h4 := h.1.1
  have a1 := h.1.2.2.2.2.2.2.1
  unfold zR at hy
  have hE : aKind w b = if 0 ≤ b ∧ b < w 2 then w (4 + 7 * b) else -1000001 := rfl
  refine q_aload gg114_0 rfl ?_
  refine q_getr gg114_1 rfl ?_
  refine q_iload gg114_4 rfl ?_
  refine q_call2 gg114_5 tt32 rfl (Nat.le_of_ble_eq_true rfl) (hm_rv (by decide +kernel)) (ls' := [some _, some _]) rfl rfl ?_
  refine q_iload gg32_0 rfl ?_
  refine z_iflt gg32_1 (tg := 16) rfl (by omega) (fun c1 => ?_) (fun c1 => ?_)
  · try (exfalso; omega)
    all_goals (
      refine z_const gg32_16 (v := 0) rfl ?_
      refine z_zretC gg32_17 (by omega) ?_
      refine z_ifeq gg114_8 (tg := 23) rfl (by decide) (fun _ => ?_) (fun z => absurd z (by decide))
      refine z_neg gg114_23 ?_
      refine q_iret gg114_25 ?_
      refine qv ?_ kk
      first | (rw [hE, if_pos (by omega)]; omega) | (rw [hE, if_neg (by omega)]; done)
    )
  · try (exfalso; omega)
    all_goals (
      refine q_iload gg32_4 rfl ?_
      refine q_aload gg32_5 rfl ?_
      first | refine z_getf gg32_6 rfl (by assumption) ?_ | refine q_getf gg32_6 rfl ?_
      refine z_icmpge gg32_9 (tg := 16) rfl (by omega) (by omega) (fun c2 => ?_) (fun c2 => ?_)
      · try (exfalso; omega)
        all_goals (
          refine z_const gg32_16 (v := 0) rfl ?_
          refine z_zretC gg32_17 (by omega) ?_
          refine z_ifeq gg114_8 (tg := 23) rfl (by decide) (fun _ => ?_) (fun z => absurd z (by decide))
          refine z_neg gg114_23 ?_
          refine q_iret gg114_25 ?_
          refine qv ?_ kk
          first | (rw [hE, if_pos (by omega)]; omega) | (rw [hE, if_neg (by omega)]; done)
        )
      · try (exfalso; omega)
        all_goals (
          refine z_const gg32_12 (v := 1) rfl ?_
          refine q_goto gg32_13 (tg := 17) rfl ?_
          refine z_zretC gg32_17 (by omega) ?_
          refine z_ifeq gg114_8 (tg := 23) rfl (by decide) (fun z => absurd z (by decide)) (fun _ => ?_)
          refine q_aload gg114_11 rfl ?_
          refine q_getr gg114_12 rfl ?_
          refine q_getr gg114_15 rfl ?_
          refine q_iload gg114_18 rfl ?_
          first | (refine z_alr gg114_19 (by first | rfl | assumption) (by assumption) (by omega) (by omega) (by omega) (by decide) (fun v19 ev19 lv19 uv19 => ?_); try dsimp only at ev19) | (refine z_alx gg114_19 rfl (by assumption) (by omega) (by omega) (by first | omega | decide) (by decide) (fun v19 ev19 lv19 uv19 => ?_); try dsimp only at ev19) | refine z_alq gg114_19 rfl (by omega) (by omega) (by decide) ?_
          refine q_goto gg114_20 (tg := 25) rfl ?_
          refine q_iret gg114_25 ?_
          refine qv ?_ kk
          first | (rw [hE, if_pos (by omega)]; omega) | (rw [hE, if_neg (by omega)]; done)
        )
    )
theorem r_kind (hy : zR b) (hf : aw (M 36) 53 0 20000 w) (hw : mWf w) (kk : Q (some (.inl (zI (aKind w b)))) M) : hm_Wp (d + 6) 195 0 [some (.inr (.inr 30)), some (.inl (zI b))] [] M Q := by
  have hn := hw.1.1
  unfold zR at hy
  have hE : aKind w b = if 0 ≤ b ∧ b < w 2 then w (4 + 7 * b) else -1000001 := rfl
  refine q_aload gg195_0 rfl ?_
  refine q_iload gg195_1 rfl ?_
  refine q_call2 gg195_2 tt152 rfl (Nat.le_of_ble_eq_true rfl) (hm_rv (by decide +kernel)) (ls' := [some _, some _]) rfl rfl ?_
  refine q_iload gg152_0 rfl ?_
  refine z_const gg152_1 (v := 0) rfl ?_
  refine q_aload gg152_2 rfl ?_
  refine q_getr gg152_3 rfl ?_
  refine z_const gg152_6 (v := 2) rfl ?_
  first | (refine z_alr gg152_7 (by first | rfl | assumption) (by assumption) (by omega) (by omega) (by omega) (by decide) (fun visBasin_7 evisBasin_7 lvisBasin_7 uvisBasin_7 => ?_); try dsimp only at evisBasin_7) | (refine z_alx gg152_7 rfl (by assumption) (by omega) (by omega) (by first | omega | decide) (by decide) (fun visBasin_7 evisBasin_7 lvisBasin_7 uvisBasin_7 => ?_); try dsimp only at evisBasin_7) | refine z_alq gg152_7 rfl (by omega) (by omega) (by decide) ?_
  refine z_const gg152_8 (v := 1) rfl ?_
  first | refine z_isub gg152_9 ?_ | refine q_isub gg152_9 ?_
  refine q_call3 gg152_10 tt124 rfl (Nat.le_of_ble_eq_true rfl) rfl (ls' := [some _, some _, some _]) rfl rfl ?_
  refine q_iload gg124_0 rfl ?_
  refine q_iload gg124_1 rfl ?_
  refine z_icmplt gg124_2 (tg := 14) rfl (by omega) (by omega) (fun c1 => ?_) (fun c1 => ?_)
  · try (exfalso; omega)
    all_goals (
      refine z_const gg124_14 (v := 0) rfl ?_
      refine z_zretC gg124_15 (by omega) ?_
      refine z_zretC gg152_13 (by omega) ?_
      refine z_ifeq gg195_5 (tg := 16) rfl (by decide) (fun _ => ?_) (fun z => absurd z (by decide))
      refine z_neg gg195_16 ?_
      refine q_iret gg195_18 ?_
      refine qv ?_ kk
      first | (rw [hE, if_pos (by omega)]; omega) | (rw [hE, if_neg (by omega)]; done)
    )
  · try (exfalso; omega)
    all_goals (
      refine q_iload gg124_5 rfl ?_
      refine q_iload gg124_6 rfl ?_
      refine z_icmpgt gg124_7 (tg := 14) rfl (by omega) (by omega) (fun c2 => ?_) (fun c2 => ?_)
      · try (exfalso; omega)
        all_goals (
          refine z_const gg124_14 (v := 0) rfl ?_
          refine z_zretC gg124_15 (by omega) ?_
          refine z_zretC gg152_13 (by omega) ?_
          refine z_ifeq gg195_5 (tg := 16) rfl (by decide) (fun _ => ?_) (fun z => absurd z (by decide))
          refine z_neg gg195_16 ?_
          refine q_iret gg195_18 ?_
          refine qv ?_ kk
          first | (rw [hE, if_pos (by omega)]; omega) | (rw [hE, if_neg (by omega)]; done)
        )
      · try (exfalso; omega)
        all_goals (
          refine z_const gg124_10 (v := 1) rfl ?_
          refine q_goto gg124_11 (tg := 15) rfl ?_
          refine z_zretC gg124_15 (by omega) ?_
          refine z_zretC gg152_13 (by omega) ?_
          refine z_ifeq gg195_5 (tg := 16) rfl (by decide) (fun z => absurd z (by decide)) (fun _ => ?_)
          refine q_aload gg195_8 rfl ?_
          refine q_iload gg195_9 rfl ?_
          refine q_call2 gg195_10 tt194 rfl (Nat.le_of_ble_eq_true rfl) (hm_rv (by decide +kernel)) (ls' := [some _, some _]) rfl rfl ?_
          refine q_aload gg194_0 rfl ?_
          refine q_getr gg194_1 rfl ?_
          refine z_const gg194_4 (v := 4) rfl ?_
          refine z_const gg194_5 (v := 7) rfl ?_
          refine q_iload gg194_7 rfl ?_
          first | refine z_imul gg194_8 ?_ | refine q_imul gg194_8 ?_
          first | refine z_iadd gg194_9 ?_ | refine q_iadd gg194_9 ?_
          first | (refine z_alr gg194_10 (by first | rfl | assumption) (by assumption) (by omega) (by omega) (by omega) (by decide) (fun vkindIn_10 evkindIn_10 lvkindIn_10 uvkindIn_10 => ?_); try dsimp only at evkindIn_10) | (refine z_alx gg194_10 rfl (by assumption) (by omega) (by omega) (by first | omega | decide) (by decide) (fun vkindIn_10 evkindIn_10 lvkindIn_10 uvkindIn_10 => ?_); try dsimp only at evkindIn_10) | refine z_alq gg194_10 rfl (by omega) (by omega) (by decide) ?_
          refine q_iretC gg194_11 ?_
          refine q_goto gg195_13 (tg := 18) rfl ?_
          refine q_iret gg195_18 ?_
          refine qv ?_ kk
          first | (rw [hE, if_pos (by omega)]; omega) | (rw [hE, if_neg (by omega)]; done)
        )
    )
/-! trace, status, fault -/
def KC (M : hm_M) (tr : Int → Int) (tn : Int) : Prop := M 28 2 = zI tn ∧ aw (M 29) tn 0 100 tr
def KR (M : hm_M) (tr : Int → Int) (tn : Int) : Prop := M 30 21 = zI tn ∧ aw (M 42) tn 0 100 tr
def aTrace (tr : Int → Int) (tn y : Int) : Int := if 0 ≤ y ∧ y < tn then tr y else -1000000
theorem c_trace (hy : zR y) (h : KC M tr tn) (h0 : 0 ≤ tn) (h1 : tn ≤ 16) (kk : Q (some (.inl (zI (aTrace tr tn y)))) M) : hm_Wp (d + 6) 117 0 [some (.inr (.inr 0)), some (.inl (zI y))] [] M Q := by
  obtain ⟨e2, a9⟩ := h
  unfold zR at hy
  refine q_aload gg117_0 rfl ?_
  refine q_getr gg117_1 rfl ?_
  refine q_iload gg117_4 rfl ?_
  refine q_call2 gg117_5 tt6 rfl (Nat.le_of_ble_eq_true rfl) (hm_rv (by decide +kernel)) (ls' := [some _, some _]) rfl rfl ?_
  refine q_iload gg6_0 rfl ?_
  refine z_iflt gg6_1 (tg := 21) rfl (by omega) (fun c1 => ?_) (fun c1 => ?_)
  · try (exfalso; omega)
    all_goals (
      refine z_neg gg6_21 ?_
      refine q_iretC gg6_23 ?_
      refine q_iret gg117_8 ?_
      refine qv ?_ kk
      unfold aTrace
      first | (rw [if_pos (by omega)]; omega) | (rw [if_neg (by omega)]; done)
    )
  · try (exfalso; omega)
    all_goals (
      refine q_iload gg6_4 rfl ?_
      refine q_aload gg6_5 rfl ?_
      first | refine z_getf gg6_6 rfl (by assumption) ?_ | refine q_getf gg6_6 rfl ?_
      refine z_icmpge gg6_9 (tg := 21) rfl (by omega) (by omega) (fun c2 => ?_) (fun c2 => ?_)
      · try (exfalso; omega)
        all_goals (
          refine z_neg gg6_21 ?_
          refine q_iretC gg6_23 ?_
          refine q_iret gg117_8 ?_
          refine qv ?_ kk
          unfold aTrace
          first | (rw [if_pos (by omega)]; omega) | (rw [if_neg (by omega)]; done)
        )
      · try (exfalso; omega)
        all_goals (
          refine q_aload gg6_12 rfl ?_
          refine q_getr gg6_13 rfl ?_
          refine q_iload gg6_16 rfl ?_
          first | (refine z_alr gg6_17 (by first | rfl | assumption) (by assumption) (by omega) (by omega) (by omega) (by decide) (fun vtraced_17 evtraced_17 lvtraced_17 uvtraced_17 => ?_); try dsimp only at evtraced_17) | (refine z_alx gg6_17 rfl (by assumption) (by omega) (by omega) (by first | omega | decide) (by decide) (fun vtraced_17 evtraced_17 lvtraced_17 uvtraced_17 => ?_); try dsimp only at evtraced_17) | refine z_alq gg6_17 rfl (by omega) (by omega) (by decide) ?_
          refine q_goto gg6_18 (tg := 23) rfl ?_
          refine q_iretC gg6_23 ?_
          refine q_iret gg117_8 ?_
          refine qv ?_ kk
          unfold aTrace
          first | (rw [if_pos (by omega)]; omega) | (rw [if_neg (by omega)]; done)
        )
    )
theorem r_trace (hy : zR y) (h : KR M tr tn) (h0 : 0 ≤ tn) (h1 : tn ≤ 16) (kk : Q (some (.inl (zI (aTrace tr tn y)))) M) : hm_Wp (d + 6) 203 0 [some (.inr (.inr 30)), some (.inl (zI y))] [] M Q := by
  obtain ⟨e2, a9⟩ := h
  unfold zR at hy
  refine q_iload gg203_0 rfl ?_
  refine z_const gg203_1 (v := 0) rfl ?_
  refine q_aload gg203_2 rfl ?_
  first | refine z_getf gg203_3 rfl (by assumption) ?_ | refine q_getf gg203_3 rfl ?_
  refine z_const gg203_6 (v := 1) rfl ?_
  first | refine z_isub gg203_7 ?_ | refine q_isub gg203_7 ?_
  refine q_call3 gg203_8 tt124 rfl (Nat.le_of_ble_eq_true rfl) rfl (ls' := [some _, some _, some _]) rfl rfl ?_
  refine q_iload gg124_0 rfl ?_
  refine q_iload gg124_1 rfl ?_
  refine z_icmplt gg124_2 (tg := 14) rfl (by omega) (by omega) (fun c1 => ?_) (fun c1 => ?_)
  · try (exfalso; omega)
    all_goals (
      refine z_const gg124_14 (v := 0) rfl ?_
      refine z_zretC gg124_15 (by omega) ?_
      refine z_ifeq gg203_11 (tg := 23) rfl (by decide) (fun _ => ?_) (fun z => absurd z (by decide))
      refine z_neg gg203_23 ?_
      refine q_iret gg203_25 ?_
      refine qv ?_ kk
      unfold aTrace
      first | (rw [if_pos (by omega)]; omega) | (rw [if_neg (by omega)]; done)
    )
  · try (exfalso; omega)
    all_goals (
      refine q_iload gg124_5 rfl ?_
      refine q_iload gg124_6 rfl ?_
      refine z_icmpgt gg124_7 (tg := 14) rfl (by omega) (by omega) (fun c2 => ?_) (fun c2 => ?_)
      · try (exfalso; omega)
        all_goals (
          refine z_const gg124_14 (v := 0) rfl ?_
          refine z_zretC gg124_15 (by omega) ?_
          refine z_ifeq gg203_11 (tg := 23) rfl (by decide) (fun _ => ?_) (fun z => absurd z (by decide))
          refine z_neg gg203_23 ?_
          refine q_iret gg203_25 ?_
          refine qv ?_ kk
          unfold aTrace
          first | (rw [if_pos (by omega)]; omega) | (rw [if_neg (by omega)]; done)
        )
      · try (exfalso; omega)
        all_goals (
          refine z_const gg124_10 (v := 1) rfl ?_
          refine q_goto gg124_11 (tg := 15) rfl ?_
          refine z_zretC gg124_15 (by omega) ?_
          refine z_ifeq gg203_11 (tg := 23) rfl (by decide) (fun z => absurd z (by decide)) (fun _ => ?_)
          refine q_aload gg203_14 rfl ?_
          refine q_getr gg203_15 rfl ?_
          refine q_iload gg203_18 rfl ?_
          first | (refine z_alr gg203_19 (by first | rfl | assumption) (by assumption) (by omega) (by omega) (by omega) (by decide) (fun v19 ev19 lv19 uv19 => ?_); try dsimp only at ev19) | (refine z_alx gg203_19 rfl (by assumption) (by omega) (by omega) (by first | omega | decide) (by decide) (fun v19 ev19 lv19 uv19 => ?_); try dsimp only at ev19) | refine z_alq gg203_19 rfl (by omega) (by omega) (by decide) ?_
          refine q_goto gg203_20 (tg := 25) rfl ?_
          refine q_iret gg203_25 ?_
          refine qv ?_ kk
          unfold aTrace
          first | (rw [if_pos (by omega)]; omega) | (rw [if_neg (by omega)]; done)
        )
    )
theorem c_status (h : M 0 8 = zI st) (kk : Q (some (.inl (zI st))) M) : hm_Wp (d + 6) 119 0 [some (.inr (.inr 0))] [] M Q := by
  refine q_aload gg119_0 rfl ?_
  first | refine z_getf gg119_1 rfl (by assumption) ?_ | refine q_getf gg119_1 rfl ?_
  refine q_iret gg119_4 ?_
  exact kk
theorem r_status (h : M 30 4 = zI st) (kk : Q (some (.inl (zI st))) M) : hm_Wp (d + 6) 205 0 [some (.inr (.inr 30))] [] M Q := by
  refine q_aload gg205_0 rfl ?_
  first | refine z_getf gg205_1 rfl (by assumption) ?_ | refine q_getf gg205_1 rfl ?_
  refine q_iret gg205_4 ?_
  exact kk
def TC (M : hm_M) (tp : Int → Int) (tl fk : Int) : Prop := M 5 1 = zI tl ∧ aw (M 6) tl 0 255 tp ∧ M 5 5 = zI fk
def TR (M : hm_M) (tp : Int → Int) (tl fk : Int) : Prop := M 30 6 = zI tl ∧ aw (M 35) tl 0 255 tp ∧ M 30 7 = zI fk
theorem c_fault (h : TC M tp tl fk) (kk : Q (some (.inl (zI fk))) M) : hm_Wp (d + 6) 90 0 [some (.inr (.inr 0))] [] M Q := by
  obtain ⟨e1, e2, e3⟩ := h
  refine q_aload gg90_0 rfl ?_
  refine q_getr gg90_1 rfl ?_
  refine q_call1 gg90_4 tt71 rfl (Nat.le_of_ble_eq_true rfl) (hm_rv (by decide +kernel)) (ls' := [some _]) rfl rfl ?_
  refine q_aload gg71_0 rfl ?_
  first | refine z_getf gg71_1 rfl (by assumption) ?_ | refine q_getf gg71_1 rfl ?_
  refine q_iretC gg71_4 ?_
  refine q_iret gg90_7 ?_
  exact kk
theorem r_fault (h : TR M tp tl fk) (kk : Q (some (.inl (zI fk))) M) : hm_Wp (d + 6) 150 0 [some (.inr (.inr 30))] [] M Q := by
  obtain ⟨e1, e2, e3⟩ := h
  refine q_aload gg150_0 rfl ?_
  first | refine z_getf gg150_1 rfl (by assumption) ?_ | refine q_getf gg150_1 rfl ?_
  refine q_iret gg150_4 ?_
  exact kk
end B1
