/-! THE CLASS'S HOB at cell r (its arrays behind it) tells w -/
def mWf (w : Int → Int) : Prop := mOk w ∧ (∀ i : Int, 0 ≤ i → i < 53 → 0 ≤ w i ∧ w i ≤ 20000) ∧ (∀ b : Int, 0 ≤ b → b < w 2 → 1 ≤ w (4 + 7 * b) ∧ w (4 + 7 * b) ≤ 5 ∧ w (4 + 7 * b + 1) ≤ 20 ∧ w (4 + 7 * b + 2) ≤ 99 ∧ w (4 + 7 * b + 3) < w 2) ∧ (∀ b q : Int, w 2 ≤ b → b < 7 → 0 ≤ q → q < 7 → w (4 + 7 * b + q) = 0) ∧ w 0 ≤ 9 ∧ w 1 ≤ 60
def Hc (M : hm_M) (r : Nat) (w : Int → Int) : Prop := M r 4 = zI (w 2) ∧ M r 5 = zI (w 0) ∧ M r 6 = zI (w 1) ∧ M r 8 = zI (bsum (mFlag w 4) 7) ∧ M r 9 = zI (bsum (mFlag w 5) 7) ∧ M r 10 = zI (bsum (mFlag w 6) 7) ∧ aw (M (r + 1)) (w 2) 0 20000 (fun b => w (4 + 7 * b)) ∧ aw (M (r + 2)) (w 2) 0 20000 (fun b => w (4 + 7 * b + 1)) ∧ aw (M (r + 4)) (w 2) 0 20000 (fun b => w (4 + 7 * b + 3))
def Hs (M : hm_M) (r : Nat) (w : Int → Int) : Prop := M r 7 = zI (w 3) ∧ aw (M (r + 3)) (w 2) 0 20000 (fun b => w (4 + 7 * b + 2))
def Hb (M : hm_M) (r : Nat) (w : Int → Int) : Prop := Hc M r w ∧ Hs M r w
/-- nothing else has changed -/
def Fr (r : Nat) (M M' : hm_M) : Prop := ∀ k : Nat, k < r ∨ r + 5 ≤ k → M' k = M k
theorem mWf.f01 {w : Int → Int} (hw : mWf w) {q : Int} (h0 : 4 ≤ q) (h : q < 7) : b01 (mFlag w q) 7 := fun b b0 b1 => hw.1.2.1 b q b0 (by omega) h0 h
theorem mWf.bit {w : Int → Int} (hw : mWf w) {q b : Int} (h0 : 4 ≤ q) (h : q < 7) (hb0 : 0 ≤ b) (hb : b < 7) : bsum (mFlag w q) 7 / 2 ^ b.toNat % 2 = w (4 + 7 * b + q) := zbit_bsum (hw.f01 h0 h) hb0 hb
section C1
variable {d r : Nat} {M : hm_M} {w : Int → Int} {b : Int} {Q : Option hm_V → hm_M → Prop}
theorem c_growthOf (hr : r = 7 ∨ r = 12 ∨ r = 22) (h : Hc M r w) (hw : mWf w) (hb0 : 0 ≤ b) (hb : b < w 2) (kk : Q (some (.inl (zI (mGrow w b)))) M) : hm_Wp (d + 2) 42 0 [some (.inr (.inr r)), some (.inl (zI b)), none] [] M Q := by
  have hn := hw.1.1
  have q4 := hw.bit (q := 4) (by decide) (by decide) hb0 (by omega)
  have q5 := hw.bit (q := 5) (by decide) (by decide) hb0 (by omega)
  have q6 := hw.bit (q := 6) (by decide) (by decide) hb0 (by omega)
  have s4 := bsum7_lt (hw.f01 (q := 4) (by decide) (by decide))
  have s5 := bsum7_lt (hw.f01 (q := 5) (by decide) (by decide))
  have s6 := bsum7_lt (hw.f01 (q := 6) (by decide) (by decide))
  have f4 := hw.1.2.1 b 4 hb0 (by omega) (by decide) (by decide)
  have f5 := hw.1.2.1 b 5 hb0 (by omega) (by decide) (by decide)
  have f6 := hw.1.2.1 b 6 hb0 (by omega) (by decide) (by decide)
  have w0 := hw.2.1 0 (by decide) (by decide)
  have wk := hw.2.2.1 b hb0 hb
  have wp := hw.2.1 (4 + 7 * b + 1) (by omega) (by omega)
  obtain ⟨h4, h5, h6, h8, h9, h10, a1, a2, a4⟩ := h
  rcases hr with rfl | rfl | rfl
  all_goals (
    simp only [Nat.reduceAdd] at a1 a2 a4
    refine q_aload gg42_0 rfl ?_
    refine q_iload gg42_1 rfl ?_
    refine q_call2 gg42_2 tt34 rfl (Nat.le_of_ble_eq_true rfl) (hm_rv (by decide +kernel)) (ls' := [some _, some _]) rfl rfl ?_
    refine q_aload gg34_0 rfl ?_
    first | refine z_getf gg34_1 rfl (by assumption) ?_ | refine q_getf gg34_1 rfl ?_
    refine q_iload gg34_4 rfl ?_
    first | refine z_ishr gg34_5 (by omega) (by omega) (by omega) (by omega) (fun sisBurst_5 esisBurst_5 lsisBurst_5 usisBurst_5 => ?_) | refine q_ishr gg34_5 ?_
    refine z_const gg34_6 (v := 1) rfl ?_
    first | refine z_iand1 gg34_7 (by omega) (by omega) ?_ | refine q_iand gg34_7 ?_
    refine z_const gg34_8 (v := 1) rfl ?_
    refine z_icmpne gg34_9 (tg := 16) rfl (by omega) (by omega) (fun c1 => ?_) (fun c1 => ?_)
    · try (exfalso; omega)
      all_goals (
        refine z_const gg34_16 (v := 0) rfl ?_
        refine z_zretC gg34_17 (by omega) ?_
        refine z_ifeq gg42_5 (tg := 10) rfl (by decide) (fun _ => ?_) (fun z => absurd z (by decide))
        refine q_aload gg42_10 rfl ?_
        refine q_iload gg42_11 rfl ?_
        refine q_call2 gg42_12 tt41 rfl (Nat.le_of_ble_eq_true rfl) (hm_rv (by decide +kernel)) (ls' := [some _, some _]) rfl rfl ?_
        refine q_aload gg41_0 rfl ?_
        refine q_iload gg41_1 rfl ?_
        refine q_call2 gg41_2 tt33 rfl (Nat.le_of_ble_eq_true rfl) (hm_rv (by decide +kernel)) (ls' := [some _, some _]) rfl rfl ?_
        refine q_aload gg33_0 rfl ?_
        first | refine z_getf gg33_1 rfl (by assumption) ?_ | refine q_getf gg33_1 rfl ?_
        refine q_iload gg33_4 rfl ?_
        first | refine z_ishr gg33_5 (by omega) (by omega) (by omega) (by omega) (fun sisOn_5 esisOn_5 lsisOn_5 usisOn_5 => ?_) | refine q_ishr gg33_5 ?_
        refine z_const gg33_6 (v := 1) rfl ?_
        first | refine z_iand1 gg33_7 (by omega) (by omega) ?_ | refine q_iand gg33_7 ?_
        refine z_const gg33_8 (v := 1) rfl ?_
        refine z_icmpne gg33_9 (tg := 16) rfl (by omega) (by omega) (fun c2 => ?_) (fun c2 => ?_)
        · try (exfalso; omega)
          all_goals (
            refine z_const gg33_16 (v := 0) rfl ?_
            refine z_zretC gg33_17 (by omega) ?_
            refine z_ifeq gg41_5 (tg := 26) rfl (by decide) (fun _ => ?_) (fun z => absurd z (by decide))
            refine z_const gg41_26 (v := 0) rfl ?_
            refine q_iretC gg41_27 ?_
            refine q_istore gg42_15 rfl ?_
            refine q_aload gg42_16 rfl ?_
            refine q_getr gg42_17 rfl ?_
            refine q_iload gg42_20 rfl ?_
            first | refine z_alr gg42_21 (by first | rfl | assumption) (by assumption) (by omega) (by omega) (by omega) (by decide) (fun v21 ev21 lv21 uv21 => ?_) | refine z_alx gg42_21 rfl (by assumption) (by omega) (by omega) (by omega) (by decide) (fun v21 ev21 lv21 uv21 => ?_) <;> (try dsimp only at ev21)
            refine z_sw gg42_22 (by omega) ?_
            have hG : ∃ G, G = mGlow w b := ⟨_, rfl⟩
            obtain ⟨G, hG⟩ := hG
            have hsw : hm_swt [(2, 52), (3, 71), (4, 75), (5, 89)] (Int.toNat 105) v21 = if v21 = 2 then 52 else if v21 = 3 then 71 else if v21 = 4 then 75 else if v21 = 5 then 89 else 105 := rfl
            rw [hsw]
            unfold mGlow at hG
            by_cases h2 : v21 = 2
            · rw [if_pos h2]
              have hm : mGrow w b = if 0 < G then G + w (4 + 7 * b + 1) / 4 else 0 := by unfold mGrow mGlow; rw [if_neg (by omega), if_neg (by omega), if_pos (by omega), ← hG]
              refine q_iload gg42_52 rfl ?_
              refine z_ifle gg42_53 (tg := 69) rfl (by omega) (fun c1 => ?_) (fun c1 => ?_)
              · try (exfalso; omega)
                all_goals (
                  refine z_const gg42_69 (v := 0) rfl ?_
                  refine q_iret gg42_70 ?_
                  refine qv ?_ kk
                  rw [hm]
                  (repeat' split at hG) <;> (repeat' split) <;> omega
                )
              · try (exfalso; omega)
                all_goals (
                  refine q_iload gg42_56 rfl ?_
                  refine q_aload gg42_57 rfl ?_
                  refine q_getr gg42_58 rfl ?_
                  refine q_iload gg42_61 rfl ?_
                  first | refine z_alr gg42_62 (by first | rfl | assumption) (by assumption) (by omega) (by omega) (by omega) (by decide) (fun v62 ev62 lv62 uv62 => ?_) | refine z_alx gg42_62 rfl (by assumption) (by omega) (by omega) (by omega) (by decide) (fun v62 ev62 lv62 uv62 => ?_) <;> (try dsimp only at ev62)
                  refine z_const gg42_63 (v := 4) rfl ?_
                  refine z_idiv gg42_64 (by omega) (by omega) (by omega) (by omega) ?_
                  first | refine z_iadd gg42_65 ?_ | refine q_iadd gg42_65 ?_
                  refine q_goto gg42_66 (tg := 70) rfl ?_
                  refine q_iret gg42_70 ?_
                  refine qv ?_ kk
                  rw [hm]
                  (repeat' split at hG) <;> (repeat' split) <;> omega
                )
            · rw [if_neg h2]
              by_cases h3 : v21 = 3
              · rw [if_pos h3]
                have hm : mGrow w b = G / 2 := by unfold mGrow mGlow; rw [if_neg (by omega), if_neg (by omega), if_neg (by omega), if_pos (by omega), ← hG]
                refine q_iload gg42_71 rfl ?_
                refine z_const gg42_72 (v := 2) rfl ?_
                refine z_idiv gg42_73 (by omega) (by omega) (by omega) (by omega) ?_
                refine q_iret gg42_74 ?_
                refine qv ?_ kk
                rw [hm]
                (repeat' split at hG) <;> omega
              · rw [if_neg h3]
                by_cases h4 : v21 = 4
                · rw [if_pos h4]
                  have hm : mGrow w b = if w (4 + 7 * b + 6) = 1 then G else 0 := by unfold mGrow mGlow; rw [if_neg (by omega), if_neg (by omega), if_neg (by omega), if_neg (by omega), if_pos (by omega), ← hG]
                  refine q_aload gg42_75 rfl ?_
                  refine q_iload gg42_76 rfl ?_
                  refine q_call2 gg42_77 tt35 rfl (Nat.le_of_ble_eq_true rfl) (hm_rv (by decide +kernel)) (ls' := [some _, some _]) rfl rfl ?_
                  refine q_aload gg35_0 rfl ?_
                  first | refine z_getf gg35_1 rfl (by assumption) ?_ | refine q_getf gg35_1 rfl ?_
                  refine q_iload gg35_4 rfl ?_
                  first | refine z_ishr gg35_5 (by omega) (by omega) (by omega) (by omega) (fun sisStirred_5 esisStirred_5 lsisStirred_5 usisStirred_5 => ?_) | refine q_ishr gg35_5 ?_
                  refine z_const gg35_6 (v := 1) rfl ?_
                  first | refine z_iand1 gg35_7 (by omega) (by omega) ?_ | refine q_iand gg35_7 ?_
                  refine z_const gg35_8 (v := 1) rfl ?_
                  refine z_icmpne gg35_9 (tg := 16) rfl (by omega) (by omega) (fun c1 => ?_) (fun c1 => ?_)
                  · try (exfalso; omega)
                    all_goals (
                      refine z_const gg35_16 (v := 0) rfl ?_
                      refine z_zretC gg35_17 (by omega) ?_
                      refine z_ifeq gg42_80 (tg := 87) rfl (by decide) (fun _ => ?_) (fun z => absurd z (by decide))
                      refine z_const gg42_87 (v := 0) rfl ?_
                      refine q_iret gg42_88 ?_
                      refine qv ?_ kk
                      rw [hm]
                      (repeat' split at hG) <;> (repeat' split) <;> omega
                    )
                  · try (exfalso; omega)
                    all_goals (
                      refine z_const gg35_12 (v := 1) rfl ?_
                      refine q_goto gg35_13 (tg := 17) rfl ?_
                      refine z_zretC gg35_17 (by omega) ?_
                      refine z_ifeq gg42_80 (tg := 87) rfl (by decide) (fun z => absurd z (by decide)) (fun _ => ?_)
                      refine q_iload gg42_83 rfl ?_
                      refine q_goto gg42_84 (tg := 88) rfl ?_
                      refine q_iret gg42_88 ?_
                      refine qv ?_ kk
                      rw [hm]
                      (repeat' split at hG) <;> (repeat' split) <;> omega
                    )
                · rw [if_neg h4]
                  by_cases h5 : v21 = 5
                  · rw [if_pos h5]
                    have hm : mGrow w b = if w (4 + 7 * b + 6) = 1 then 2 * G else 0 := by unfold mGrow mGlow; rw [if_neg (by omega), if_neg (by omega), if_neg (by omega), if_neg (by omega), if_neg (by omega), ← hG]
                    refine q_aload gg42_89 rfl ?_
                    refine q_iload gg42_90 rfl ?_
                    refine q_call2 gg42_91 tt35 rfl (Nat.le_of_ble_eq_true rfl) (hm_rv (by decide +kernel)) (ls' := [some _, some _]) rfl rfl ?_
                    refine q_aload gg35_0 rfl ?_
                    first | refine z_getf gg35_1 rfl (by assumption) ?_ | refine q_getf gg35_1 rfl ?_
                    refine q_iload gg35_4 rfl ?_
                    first | refine z_ishr gg35_5 (by omega) (by omega) (by omega) (by omega) (fun sisStirred_5 esisStirred_5 lsisStirred_5 usisStirred_5 => ?_) | refine q_ishr gg35_5 ?_
                    refine z_const gg35_6 (v := 1) rfl ?_
                    first | refine z_iand1 gg35_7 (by omega) (by omega) ?_ | refine q_iand gg35_7 ?_
                    refine z_const gg35_8 (v := 1) rfl ?_
                    refine z_icmpne gg35_9 (tg := 16) rfl (by omega) (by omega) (fun c1 => ?_) (fun c1 => ?_)
                    · try (exfalso; omega)
                      all_goals (
                        refine z_const gg35_16 (v := 0) rfl ?_
                        refine z_zretC gg35_17 (by omega) ?_
                        refine z_ifeq gg42_94 (tg := 103) rfl (by decide) (fun _ => ?_) (fun z => absurd z (by decide))
                        refine z_const gg42_103 (v := 0) rfl ?_
                        refine q_iret gg42_104 ?_
                        refine qv ?_ kk
                        rw [hm]
                        (repeat' split at hG) <;> (repeat' split) <;> omega
                      )
                    · try (exfalso; omega)
                      all_goals (
                        refine z_const gg35_12 (v := 1) rfl ?_
                        refine q_goto gg35_13 (tg := 17) rfl ?_
                        refine z_zretC gg35_17 (by omega) ?_
                        refine z_ifeq gg42_94 (tg := 103) rfl (by decide) (fun z => absurd z (by decide)) (fun _ => ?_)
                        refine z_const gg42_97 (v := 2) rfl ?_
                        refine q_iload gg42_98 rfl ?_
                        first | refine z_imul gg42_99 ?_ | refine q_imul gg42_99 ?_
                        refine q_goto gg42_100 (tg := 104) rfl ?_
                        refine q_iret gg42_104 ?_
                        refine qv ?_ kk
                        rw [hm]
                        (repeat' split at hG) <;> (repeat' split) <;> omega
                      )
                  · rw [if_neg h5]
                    have hm : mGrow w b = G := by unfold mGrow mGlow; rw [if_neg (by omega), if_pos (by omega), ← hG]
                    refine q_iload gg42_105 rfl ?_
                    refine q_iret gg42_106 ?_
                    refine qv ?_ kk
                    rw [hm]
                    (repeat' split at hG) <;> omega
          )
        · try (exfalso; omega)
          all_goals (
            refine z_const gg33_12 (v := 1) rfl ?_
            refine q_goto gg33_13 (tg := 17) rfl ?_
            refine z_zretC gg33_17 (by omega) ?_
            refine z_ifeq gg41_5 (tg := 26) rfl (by decide) (fun z => absurd z (by decide)) (fun _ => ?_)
            refine z_const gg41_8 (v := 0) rfl ?_
            refine q_aload gg41_9 rfl ?_
            first | refine z_getf gg41_10 rfl (by assumption) ?_ | refine q_getf gg41_10 rfl ?_
            refine q_aload gg41_13 rfl ?_
            refine q_getr gg41_14 rfl ?_
            refine q_iload gg41_17 rfl ?_
            first | refine z_alr gg41_18 (by first | rfl | assumption) (by assumption) (by omega) (by omega) (by omega) (by decide) (fun vglowOf_18 evglowOf_18 lvglowOf_18 uvglowOf_18 => ?_) | refine z_alx gg41_18 rfl (by assumption) (by omega) (by omega) (by omega) (by decide) (fun vglowOf_18 evglowOf_18 lvglowOf_18 uvglowOf_18 => ?_) <;> (try dsimp only at evglowOf_18)
            first | refine z_isub gg41_19 ?_ | refine q_isub gg41_19 ?_
            refine z_max gg41_20 (Nat.le_of_ble_eq_true rfl) (by omega) (by omega) ?_
            refine q_goto gg41_23 (tg := 27) rfl ?_
            refine q_iretC gg41_27 ?_
            refine q_istore gg42_15 rfl ?_
            refine q_aload gg42_16 rfl ?_
            refine q_getr gg42_17 rfl ?_
            refine q_iload gg42_20 rfl ?_
            first | refine z_alr gg42_21 (by first | rfl | assumption) (by assumption) (by omega) (by omega) (by omega) (by decide) (fun v21 ev21 lv21 uv21 => ?_) | refine z_alx gg42_21 rfl (by assumption) (by omega) (by omega) (by omega) (by decide) (fun v21 ev21 lv21 uv21 => ?_) <;> (try dsimp only at ev21)
            refine z_sw gg42_22 (by omega) ?_
            have hG : ∃ G, G = mGlow w b := ⟨_, rfl⟩
            obtain ⟨G, hG⟩ := hG
            have hsw : hm_swt [(2, 52), (3, 71), (4, 75), (5, 89)] (Int.toNat 105) v21 = if v21 = 2 then 52 else if v21 = 3 then 71 else if v21 = 4 then 75 else if v21 = 5 then 89 else 105 := rfl
            rw [hsw]
            unfold mGlow at hG
            by_cases h2 : v21 = 2
            · rw [if_pos h2]
              have hm : mGrow w b = if 0 < G then G + w (4 + 7 * b + 1) / 4 else 0 := by unfold mGrow mGlow; rw [if_neg (by omega), if_neg (by omega), if_pos (by omega), ← hG]
              refine q_iload gg42_52 rfl ?_
              refine z_ifle gg42_53 (tg := 69) rfl (by omega) (fun c1 => ?_) (fun c1 => ?_)
              · try (exfalso; omega)
                all_goals (
                  refine z_const gg42_69 (v := 0) rfl ?_
                  refine q_iret gg42_70 ?_
                  refine qv ?_ kk
                  rw [hm]
                  (repeat' split at hG) <;> (repeat' split) <;> omega
                )
              · try (exfalso; omega)
                all_goals (
                  refine q_iload gg42_56 rfl ?_
                  refine q_aload gg42_57 rfl ?_
                  refine q_getr gg42_58 rfl ?_
                  refine q_iload gg42_61 rfl ?_
                  first | refine z_alr gg42_62 (by first | rfl | assumption) (by assumption) (by omega) (by omega) (by omega) (by decide) (fun v62 ev62 lv62 uv62 => ?_) | refine z_alx gg42_62 rfl (by assumption) (by omega) (by omega) (by omega) (by decide) (fun v62 ev62 lv62 uv62 => ?_) <;> (try dsimp only at ev62)
                  refine z_const gg42_63 (v := 4) rfl ?_
                  refine z_idiv gg42_64 (by omega) (by omega) (by omega) (by omega) ?_
                  first | refine z_iadd gg42_65 ?_ | refine q_iadd gg42_65 ?_
                  refine q_goto gg42_66 (tg := 70) rfl ?_
                  refine q_iret gg42_70 ?_
                  refine qv ?_ kk
                  rw [hm]
                  (repeat' split at hG) <;> (repeat' split) <;> omega
                )
            · rw [if_neg h2]
              by_cases h3 : v21 = 3
              · rw [if_pos h3]
                have hm : mGrow w b = G / 2 := by unfold mGrow mGlow; rw [if_neg (by omega), if_neg (by omega), if_neg (by omega), if_pos (by omega), ← hG]
                refine q_iload gg42_71 rfl ?_
                refine z_const gg42_72 (v := 2) rfl ?_
                refine z_idiv gg42_73 (by omega) (by omega) (by omega) (by omega) ?_
                refine q_iret gg42_74 ?_
                refine qv ?_ kk
                rw [hm]
                (repeat' split at hG) <;> omega
              · rw [if_neg h3]
                by_cases h4 : v21 = 4
                · rw [if_pos h4]
                  have hm : mGrow w b = if w (4 + 7 * b + 6) = 1 then G else 0 := by unfold mGrow mGlow; rw [if_neg (by omega), if_neg (by omega), if_neg (by omega), if_neg (by omega), if_pos (by omega), ← hG]
                  refine q_aload gg42_75 rfl ?_
                  refine q_iload gg42_76 rfl ?_
                  refine q_call2 gg42_77 tt35 rfl (Nat.le_of_ble_eq_true rfl) (hm_rv (by decide +kernel)) (ls' := [some _, some _]) rfl rfl ?_
                  refine q_aload gg35_0 rfl ?_
                  first | refine z_getf gg35_1 rfl (by assumption) ?_ | refine q_getf gg35_1 rfl ?_
                  refine q_iload gg35_4 rfl ?_
                  first | refine z_ishr gg35_5 (by omega) (by omega) (by omega) (by omega) (fun sisStirred_5 esisStirred_5 lsisStirred_5 usisStirred_5 => ?_) | refine q_ishr gg35_5 ?_
                  refine z_const gg35_6 (v := 1) rfl ?_
                  first | refine z_iand1 gg35_7 (by omega) (by omega) ?_ | refine q_iand gg35_7 ?_
                  refine z_const gg35_8 (v := 1) rfl ?_
                  refine z_icmpne gg35_9 (tg := 16) rfl (by omega) (by omega) (fun c1 => ?_) (fun c1 => ?_)
                  · try (exfalso; omega)
                    all_goals (
                      refine z_const gg35_16 (v := 0) rfl ?_
                      refine z_zretC gg35_17 (by omega) ?_
                      refine z_ifeq gg42_80 (tg := 87) rfl (by decide) (fun _ => ?_) (fun z => absurd z (by decide))
                      refine z_const gg42_87 (v := 0) rfl ?_
                      refine q_iret gg42_88 ?_
                      refine qv ?_ kk
                      rw [hm]
                      (repeat' split at hG) <;> (repeat' split) <;> omega
                    )
                  · try (exfalso; omega)
                    all_goals (
                      refine z_const gg35_12 (v := 1) rfl ?_
                      refine q_goto gg35_13 (tg := 17) rfl ?_
                      refine z_zretC gg35_17 (by omega) ?_
                      refine z_ifeq gg42_80 (tg := 87) rfl (by decide) (fun z => absurd z (by decide)) (fun _ => ?_)
                      refine q_iload gg42_83 rfl ?_
                      refine q_goto gg42_84 (tg := 88) rfl ?_
                      refine q_iret gg42_88 ?_
                      refine qv ?_ kk
                      rw [hm]
                      (repeat' split at hG) <;> (repeat' split) <;> omega
                    )
                · rw [if_neg h4]
                  by_cases h5 : v21 = 5
                  · rw [if_pos h5]
                    have hm : mGrow w b = if w (4 + 7 * b + 6) = 1 then 2 * G else 0 := by unfold mGrow mGlow; rw [if_neg (by omega), if_neg (by omega), if_neg (by omega), if_neg (by omega), if_neg (by omega), ← hG]
                    refine q_aload gg42_89 rfl ?_
                    refine q_iload gg42_90 rfl ?_
                    refine q_call2 gg42_91 tt35 rfl (Nat.le_of_ble_eq_true rfl) (hm_rv (by decide +kernel)) (ls' := [some _, some _]) rfl rfl ?_
                    refine q_aload gg35_0 rfl ?_
                    first | refine z_getf gg35_1 rfl (by assumption) ?_ | refine q_getf gg35_1 rfl ?_
                    refine q_iload gg35_4 rfl ?_
                    first | refine z_ishr gg35_5 (by omega) (by omega) (by omega) (by omega) (fun sisStirred_5 esisStirred_5 lsisStirred_5 usisStirred_5 => ?_) | refine q_ishr gg35_5 ?_
                    refine z_const gg35_6 (v := 1) rfl ?_
                    first | refine z_iand1 gg35_7 (by omega) (by omega) ?_ | refine q_iand gg35_7 ?_
                    refine z_const gg35_8 (v := 1) rfl ?_
                    refine z_icmpne gg35_9 (tg := 16) rfl (by omega) (by omega) (fun c1 => ?_) (fun c1 => ?_)
                    · try (exfalso; omega)
                      all_goals (
                        refine z_const gg35_16 (v := 0) rfl ?_
                        refine z_zretC gg35_17 (by omega) ?_
                        refine z_ifeq gg42_94 (tg := 103) rfl (by decide) (fun _ => ?_) (fun z => absurd z (by decide))
                        refine z_const gg42_103 (v := 0) rfl ?_
                        refine q_iret gg42_104 ?_
                        refine qv ?_ kk
                        rw [hm]
                        (repeat' split at hG) <;> (repeat' split) <;> omega
                      )
                    · try (exfalso; omega)
                      all_goals (
                        refine z_const gg35_12 (v := 1) rfl ?_
                        refine q_goto gg35_13 (tg := 17) rfl ?_
                        refine z_zretC gg35_17 (by omega) ?_
                        refine z_ifeq gg42_94 (tg := 103) rfl (by decide) (fun z => absurd z (by decide)) (fun _ => ?_)
                        refine z_const gg42_97 (v := 2) rfl ?_
                        refine q_iload gg42_98 rfl ?_
                        first | refine z_imul gg42_99 ?_ | refine q_imul gg42_99 ?_
                        refine q_goto gg42_100 (tg := 104) rfl ?_
                        refine q_iret gg42_104 ?_
                        refine qv ?_ kk
                        rw [hm]
                        (repeat' split at hG) <;> (repeat' split) <;> omega
                      )
                  · rw [if_neg h5]
                    have hm : mGrow w b = G := by unfold mGrow mGlow; rw [if_neg (by omega), if_pos (by omega), ← hG]
                    refine q_iload gg42_105 rfl ?_
                    refine q_iret gg42_106 ?_
                    refine qv ?_ kk
                    rw [hm]
                    (repeat' split at hG) <;> omega
          )
      )
    · try (exfalso; omega)
      all_goals (
        refine z_const gg34_12 (v := 1) rfl ?_
        refine q_goto gg34_13 (tg := 17) rfl ?_
        refine z_zretC gg34_17 (by omega) ?_
        refine z_ifeq gg42_5 (tg := 10) rfl (by decide) (fun z => absurd z (by decide)) (fun _ => ?_)
        refine z_const gg42_8 (v := 0) rfl ?_
        refine q_iret gg42_9 ?_
        refine qv ?_ kk
        unfold mGrow
        rw [if_pos (by omega)]
      )
  )
end C1
