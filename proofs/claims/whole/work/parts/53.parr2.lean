section P4
variable {d r mid pc nx q : Nat} {M N N' : hm_M} {tp w g : Int → Int} {tl k a b c p v u s lo hi fm kd na fk x y : Int} {f F : Nat → Int32} {pa : Int → Int → Int} {Q : Option hm_V → hm_M → Prop}
/-- all but the reader's own numbers and the draft is as it was -/
def RD (M M' : hm_M) : Prop := (∀ q : Nat, q ≠ 30 → q ≠ 37 → M' q = M q) ∧ ∀ j : Nat, (j < 7 ∨ 12 < j) → M' 30 j = M 30 j
theorem RD.rf : RD M M := ⟨fun _ _ _ => rfl, fun _ _ => rfl⟩
theorem RK.rd (h : RK M N) : RD M N := ⟨fun q h1 _ => h.1 q h1, h.2⟩
theorem RD.tr (h : RD M N) (h' : RD N N') : RD M N' := ⟨fun q h1 h2 => (h'.1 q h1 h2).trans (h.1 q h1 h2), fun j hj => (h'.2 j hj).trans (h.2 j hj)⟩
theorem RD.row (h : RD M N) : RD M (hm_row N 37 f) := ⟨fun q h1 h2 => by rw [hm_row_ne _ _ h2]; exact h.1 q h1 h2, fun j hj => by rw [hm_row_ne _ _ (by decide)]; exact h.2 j hj⟩
theorem RD.up {j : Nat} {x : Int32} (h : RD M N) (h1 : 7 ≤ j) (h2 : j ≤ 12) : RD M (hm_up N 30 j x) := ⟨fun q hq hq2 => by unfold hm_up; rw [hm_row_ne _ _ hq]; exact h.1 q hq hq2, fun i hi => up_nj (by omega) (h.2 i hi)⟩
theorem RS.row (h : RS M tp tl fk k c) : RS (hm_row M 37 f) tp tl fk k c := by
  have e30 : hm_row M 37 f 30 = M 30 := hm_row_ne _ _ (by decide)
  have e35 : hm_row M 37 f 35 = M 35 := hm_row_ne _ _ (by decide)
  unfold RS RT LT at *
  rw [e30, e35]
  exact h
theorem r_readsBasin (hB : pB tp tl) (hS : RS M tp tl fk k 0) (hk0 : 0 ≤ k) (hk : k ≤ tl) (hkd : 0 < kdO (pyt tp tl k)) (hD : aw (M 37) 53 0 20000 w) (hw : mDr w) {c' k' : Int} {w' : Int → Int} (e : gB tp tl 0 k w = (c', k', w')) (kk : ∀ M', RS M' tp tl fk k' c' → aw (M' 37) 53 0 20000 w' → RD M M' → Q none M') : hm_Wp (d + 5) 147 0 [some (.inr (.inr 30)), none, none, none, none] [] M Q := by
  have hS' := hS
  obtain ⟨hR, ⟨l9, l10, l11, l12⟩, fp, h8, h7, hfp⟩ := hS
  have hb := hB.2.1
  have hpr := pyt_R hB hk0
  have hkr := @kdO_R (pyt tp tl k)
  have hn := hw.1
  obtain ⟨etn, etv⟩ := tnd_1 (tp := tp) (tl := tl) (k := k) (Or.inl (by omega))
  rw [etv] at l12
  unfold gB at e
  rw [if_neg (by omega), if_neg (by omega)] at e
  by_cases h7w : 7 ≤ w 2
  · rw [if_pos h7w, Prod.mk.injEq, Prod.mk.injEq] at e
    obtain ⟨rfl, rfl, rfl⟩ := e
    have et : fTk tp tl 0 k 0 3 = (3, k, 0) := by unfold fTk; rw [if_neg (by omega), if_neg (by decide)]
    have eg : ∀ lo hi : Int, gN tp tl 3 k lo hi = (3, k, 0) := fun lo hi => by unfold gN; rw [if_pos (by decide)]
    have es : ∀ s : Int, gS tp tl 3 k s = (3, k) := fun s => by unfold gS; rw [if_pos (by decide)]
    have et1 : ∀ x : Int, fTk tp tl 3 k x 1 = (3, k, 0) := fun x => by unfold fTk; rw [if_pos (by decide)]
    refine q_aload gg147_0 rfl ?_
    first | refine z_getf gg147_1 rfl (by first | assumption | ((repeat (first | refine up_nj (by decide) ?_ | refine up_nk (by decide) ?_ | refine row_nk (by decide) ?_)); first | assumption | exact up_at)) ?_ | refine q_getf gg147_1 rfl ?_
    refine q_call1 gg147_4 tt145 rfl (Nat.le_of_ble_eq_true rfl) rfl (ls' := [some _]) rfl rfl ?_
    refine r_kindOf (by omega) (by omega) ?_
    show hm_Wp _ _ _ _ (_ :: _) _ _
    refine q_istore gg147_7 rfl ?_
    refine q_aload gg147_8 rfl ?_
    refine q_aload gg147_9 rfl ?_
    refine q_getr gg147_10 rfl ?_
    refine z_const gg147_13 (v := 2) rfl ?_
    first | (refine z_alr gg147_14 (by first | rfl | assumption) (by assumption) (by omega) (by omega) (by omega) (by decide) (fun v14 ev14 lv14 uv14 => ?_); try dsimp only at ev14) | (refine z_alx gg147_14 rfl (by first | assumption | ((repeat (first | refine aw_upk (by decide) ?_ | refine aw_rowk (by decide) ?_)); assumption)) (by omega) (by omega) (by first | omega | decide) (by decide) (fun v14 ev14 lv14 uv14 => ?_); try dsimp only at ev14) | refine z_alq gg147_14 rfl (by omega) (by omega) (by decide) ?_
    refine z_const gg147_15 (v := 7) rfl ?_
    refine z_icmpge gg147_17 (tg := 24) rfl (by omega) (by omega) (fun c1 => ?_) (fun z => absurd z (by omega))
    refine z_const gg147_24 (v := 0) rfl ?_
    refine z_const gg147_25 (v := 3) rfl ?_
    refine q_call3 gg147_26 tt143 rfl (Nat.le_of_ble_eq_true rfl) (hm_rv (by decide +kernel)) (ls' := [some _, some _, some _, none]) rfl rfl ?_
    refine r_takes hB hS' hk0 hk (by decide) (by decide) (by decide) et (fun M1 m1 m2 => ?_)
    show hm_Wp _ _ _ _ (_ :: _) _ _
    have d1 : aw (M1 37) 53 0 20000 w := by rw [m2.1 37 (by decide)]; exact hD
    refine q_pop gg147_29 rfl ?_
    refine z_const gg147_30 (v := 4) rfl ?_
    refine z_const gg147_31 (v := 7) rfl ?_
    refine q_aload gg147_33 rfl ?_
    refine q_getr gg147_34 rfl ?_
    refine z_const gg147_37 (v := 2) rfl ?_
    first | (refine z_alr gg147_38 (by first | rfl | assumption) (by assumption) (by omega) (by omega) (by omega) (by decide) (fun v38 ev38 lv38 uv38 => ?_); try dsimp only at ev38) | (refine z_alx gg147_38 rfl (by first | assumption | ((repeat (first | refine aw_upk (by decide) ?_ | refine aw_rowk (by decide) ?_)); assumption)) (by omega) (by omega) (by first | omega | decide) (by decide) (fun v38 ev38 lv38 uv38 => ?_); try dsimp only at ev38) | refine z_alq gg147_38 rfl (by omega) (by omega) (by decide) ?_
    refine z_const gg147_39 (v := 7) rfl ?_
    refine z_icmpge gg147_41 (tg := 53) rfl (by omega) (by omega) (fun c1 => ?_) (fun z => absurd z (by omega))
    refine z_const gg147_53 (v := 0) rfl ?_
    first | refine z_imul gg147_54 ?_ | refine q_imul gg147_54 ?_
    first | refine z_iadd gg147_55 ?_ | refine q_iadd gg147_55 ?_
    refine q_istore gg147_56 rfl ?_
    refine q_aload gg147_57 rfl ?_
    refine z_const gg147_58 (v := 0) rfl ?_
    refine z_const gg147_59 (v := 20) rfl ?_
    refine q_call3 gg147_61 tt144 rfl (Nat.le_of_ble_eq_true rfl) (hm_rv (by decide +kernel)) (ls' := [some _, some _, some _]) rfl rfl ?_
    refine r_figure hB m1 hk0 hk (by decide) (by decide) (by decide) (by decide) (eg 0 20) (fun M2 n1 n2 => ?_)
    show hm_Wp _ _ _ _ (_ :: _) _ _
    refine q_istore gg147_64 rfl ?_
    refine q_aload gg147_65 rfl ?_
    refine z_const gg147_66 (v := 0) rfl ?_
    refine z_const gg147_67 (v := 30) rfl ?_
    refine q_call3 gg147_69 tt146 rfl (Nat.le_of_ble_eq_true rfl) (hm_rv (by decide +kernel)) (ls' := [some _, some _, some _]) rfl rfl ?_
    refine r_follows hB n1 hk0 hk (by decide) (by decide) (by decide) (by decide) (by decide) (by decide) (es 44) (eg 0 30) (fun M3 o1 o2 => ?_)
    show hm_Wp _ _ _ _ (_ :: _) _ _
    refine q_istore gg147_72 rfl ?_
    have htk := @tok_R tp tl k
    have b11 := o1.2.1.2.2.1
    refine q_aload gg147_74 rfl ?_
    refine q_aload gg147_75 rfl ?_
    first | refine z_getf gg147_76 rfl (by first | assumption | ((repeat (first | refine up_nj (by decide) ?_ | refine up_nk (by decide) ?_ | refine row_nk (by decide) ?_)); first | assumption | exact up_at)) ?_ | refine q_getf gg147_76 rfl ?_
    refine z_const gg147_79 (v := 4) rfl ?_
    refine z_icmpne gg147_80 (tg := 87) rfl (by omega) (by omega) (fun c1 => ?_) (fun c1 => ?_)
    · try (exfalso; omega)
      all_goals (
        refine z_const gg147_87 (v := 0) rfl ?_
        refine z_const gg147_88 (v := 1) rfl ?_
        refine q_call3 gg147_89 tt143 rfl (Nat.le_of_ble_eq_true rfl) (hm_rv (by decide +kernel)) (ls' := [some _, some _, some _, none]) rfl rfl ?_
        refine r_takes hB o1 hk0 hk (by decide) (by decide) (by decide) (et1 _) (fun M4 p1 p2 => ?_)
        obtain ⟨fp4, g8, g7, gfp⟩ := p1.2.2
        show hm_Wp _ _ _ _ (_ :: _) _ _
        refine q_pop gg147_92 rfl ?_
        refine q_aload gg147_93 rfl ?_
        refine q_call1 gg147_94 tt142 rfl (Nat.le_of_ble_eq_true rfl) (hm_rv (by decide +kernel)) (ls' := [some _]) rfl rfl ?_
        refine q_aload gg142_0 rfl ?_
        first | refine z_getf gg142_1 rfl (by first | assumption | ((repeat (first | refine up_nj (by decide) ?_ | refine up_nk (by decide) ?_ | refine row_nk (by decide) ?_)); first | assumption | exact up_at)) ?_ | refine q_getf gg142_1 rfl ?_
        refine z_ifge gg142_4 (tg := 11) rfl (by omega) (fun c2 => ?_) (fun z => absurd z (by omega))
        refine z_const gg142_11 (v := 0) rfl ?_
        refine z_zretC gg142_12 (by omega) ?_
        refine z_ifeq gg147_97 (tg := 159) rfl (by decide) (fun _ => ?_) (fun z => absurd z (by decide))
        refine q_ret gg147_159 ?_
        exact kk M4 p1 (by rw [p2.1 37 (by decide), o2.1 37 (by decide), n2.1 37 (by decide)]; exact d1) (((m2.tr n2).tr o2).tr p2).rd
      )
    · try (exfalso; omega)
      all_goals (
        refine z_const gg147_83 (v := 1) rfl ?_
        refine q_goto gg147_84 (tg := 88) rfl ?_
        refine z_const gg147_88 (v := 1) rfl ?_
        refine q_call3 gg147_89 tt143 rfl (Nat.le_of_ble_eq_true rfl) (hm_rv (by decide +kernel)) (ls' := [some _, some _, some _, none]) rfl rfl ?_
        refine r_takes hB o1 hk0 hk (by decide) (by decide) (by decide) (et1 _) (fun M4 p1 p2 => ?_)
        obtain ⟨fp4, g8, g7, gfp⟩ := p1.2.2
        show hm_Wp _ _ _ _ (_ :: _) _ _
        refine q_pop gg147_92 rfl ?_
        refine q_aload gg147_93 rfl ?_
        refine q_call1 gg147_94 tt142 rfl (Nat.le_of_ble_eq_true rfl) (hm_rv (by decide +kernel)) (ls' := [some _]) rfl rfl ?_
        refine q_aload gg142_0 rfl ?_
        first | refine z_getf gg142_1 rfl (by first | assumption | ((repeat (first | refine up_nj (by decide) ?_ | refine up_nk (by decide) ?_ | refine row_nk (by decide) ?_)); first | assumption | exact up_at)) ?_ | refine q_getf gg142_1 rfl ?_
        refine z_ifge gg142_4 (tg := 11) rfl (by omega) (fun c2 => ?_) (fun z => absurd z (by omega))
        refine z_const gg142_11 (v := 0) rfl ?_
        refine z_zretC gg142_12 (by omega) ?_
        refine z_ifeq gg147_97 (tg := 159) rfl (by decide) (fun _ => ?_) (fun z => absurd z (by decide))
        refine q_ret gg147_159 ?_
        exact kk M4 p1 (by rw [p2.1 37 (by decide), o2.1 37 (by decide), n2.1 37 (by decide)]; exact d1) (((m2.tr n2).tr o2).tr p2).rd
      )
  · rw [if_neg h7w] at e
    have et : fTk tp tl 0 k 1 3 = (0, k + 1, pyt tp tl k) := by unfold fTk; rw [if_neg (by omega), if_pos (by decide), etn, etv]
    have r1 := gN_R (lo := 0) (hi := 20) (c := 0) (k := k + 1) hB (by omega) (by omega) (by decide) (by decide) (by decide) (by decide)
    rcases e1 : gN tp tl 0 (k + 1) 0 20 with ⟨ca, p1, v1⟩
    rw [e1] at r1
    dsimp only at r1
    have r2 := gS_R (s := 44) (c := ca) (k := p1) hB (by omega) (by omega) (by decide) (by omega) (by omega)
    rcases e2 : gS tp tl ca p1 44 with ⟨cb, p2⟩
    rw [e2] at r2
    dsimp only at r2
    have r3 := gN_R (lo := 0) (hi := 30) (c := cb) (k := p2) hB (by omega) (by omega) (by decide) (by decide) (by omega) (by omega)
    rcases e3 : gN tp tl cb p2 0 30 with ⟨cc, p3, v3⟩
    rw [e3] at r3
    dsimp only at r3
    have r4 := gS_R (s := 59) (c := cc) (k := p3) hB (by omega) (by omega) (by decide) (by omega) (by omega)
    rcases e4 : gS tp tl cc p3 59 with ⟨cd, p4⟩
    rw [e4] at r4
    dsimp only at r4
    have eg : gP tp tl 0 (k + 1) 20 0 30 = (cd, p4, v1, v3) := by unfold gP; simp only [e1, e2, e3, e4]
    rw [eg] at e
    dsimp only at e
    refine q_aload gg147_0 rfl ?_
    first | refine z_getf gg147_1 rfl (by first | assumption | ((repeat (first | refine up_nj (by decide) ?_ | refine up_nk (by decide) ?_ | refine row_nk (by decide) ?_)); first | assumption | exact up_at)) ?_ | refine q_getf gg147_1 rfl ?_
    refine q_call1 gg147_4 tt145 rfl (Nat.le_of_ble_eq_true rfl) rfl (ls' := [some _]) rfl rfl ?_
    refine r_kindOf (by omega) (by omega) ?_
    show hm_Wp _ _ _ _ (_ :: _) _ _
    refine q_istore gg147_7 rfl ?_
    refine q_aload gg147_8 rfl ?_
    refine q_aload gg147_9 rfl ?_
    refine q_getr gg147_10 rfl ?_
    refine z_const gg147_13 (v := 2) rfl ?_
    first | (refine z_alr gg147_14 (by first | rfl | assumption) (by assumption) (by omega) (by omega) (by omega) (by decide) (fun v14 ev14 lv14 uv14 => ?_); try dsimp only at ev14) | (refine z_alx gg147_14 rfl (by first | assumption | ((repeat (first | refine aw_upk (by decide) ?_ | refine aw_rowk (by decide) ?_)); assumption)) (by omega) (by omega) (by first | omega | decide) (by decide) (fun v14 ev14 lv14 uv14 => ?_); try dsimp only at ev14) | refine z_alq gg147_14 rfl (by omega) (by omega) (by decide) ?_
    refine z_const gg147_15 (v := 7) rfl ?_
    refine z_icmpge gg147_17 (tg := 24) rfl (by omega) (by omega) (fun z => absurd z (by omega)) (fun c1 => ?_)
    refine z_const gg147_20 (v := 1) rfl ?_
    refine q_goto gg147_21 (tg := 25) rfl ?_
    refine z_const gg147_25 (v := 3) rfl ?_
    refine q_call3 gg147_26 tt143 rfl (Nat.le_of_ble_eq_true rfl) (hm_rv (by decide +kernel)) (ls' := [some _, some _, some _, none]) rfl rfl ?_
    refine r_takes hB hS' hk0 hk (by decide) (by decide) (by decide) et (fun M1 m1 m2 => ?_)
    show hm_Wp _ _ _ _ (_ :: _) _ _
    have d1 : aw (M1 37) 53 0 20000 w := by rw [m2.1 37 (by decide)]; exact hD
    refine q_pop gg147_29 rfl ?_
    refine z_const gg147_30 (v := 4) rfl ?_
    refine z_const gg147_31 (v := 7) rfl ?_
    refine q_aload gg147_33 rfl ?_
    refine q_getr gg147_34 rfl ?_
    refine z_const gg147_37 (v := 2) rfl ?_
    first | (refine z_alr gg147_38 (by first | rfl | assumption) (by assumption) (by omega) (by omega) (by omega) (by decide) (fun v38 ev38 lv38 uv38 => ?_); try dsimp only at ev38) | (refine z_alx gg147_38 rfl (by first | assumption | ((repeat (first | refine aw_upk (by decide) ?_ | refine aw_rowk (by decide) ?_)); assumption)) (by omega) (by omega) (by first | omega | decide) (by decide) (fun v38 ev38 lv38 uv38 => ?_); try dsimp only at ev38) | refine z_alq gg147_38 rfl (by omega) (by omega) (by decide) ?_
    refine z_const gg147_39 (v := 7) rfl ?_
    refine z_icmpge gg147_41 (tg := 53) rfl (by omega) (by omega) (fun z => absurd z (by omega)) (fun c1 => ?_)
    refine q_aload gg147_44 rfl ?_
    refine q_getr gg147_45 rfl ?_
    refine z_const gg147_48 (v := 2) rfl ?_
    first | (refine z_alr gg147_49 (by first | rfl | assumption) (by assumption) (by omega) (by omega) (by omega) (by decide) (fun v49 ev49 lv49 uv49 => ?_); try dsimp only at ev49) | (refine z_alx gg147_49 rfl (by first | assumption | ((repeat (first | refine aw_upk (by decide) ?_ | refine aw_rowk (by decide) ?_)); assumption)) (by omega) (by omega) (by first | omega | decide) (by decide) (fun v49 ev49 lv49 uv49 => ?_); try dsimp only at ev49) | refine z_alq gg147_49 rfl (by omega) (by omega) (by decide) ?_
    refine q_goto gg147_50 (tg := 54) rfl ?_
    first | refine z_imul gg147_54 ?_ | refine q_imul gg147_54 ?_
    first | refine z_iadd gg147_55 ?_ | refine q_iadd gg147_55 ?_
    refine q_istore gg147_56 rfl ?_
    refine q_aload gg147_57 rfl ?_
    refine z_const gg147_58 (v := 0) rfl ?_
    refine z_const gg147_59 (v := 20) rfl ?_
    refine q_call3 gg147_61 tt144 rfl (Nat.le_of_ble_eq_true rfl) (hm_rv (by decide +kernel)) (ls' := [some _, some _, some _]) rfl rfl ?_
    refine r_figure hB m1 (by omega) (by omega) (by decide) (by decide) (by decide) (by decide) e1 (fun M2 n1 n2 => ?_)
    show hm_Wp _ _ _ _ (_ :: _) _ _
    refine q_istore gg147_64 rfl ?_
    refine q_aload gg147_65 rfl ?_
    refine z_const gg147_66 (v := 0) rfl ?_
    refine z_const gg147_67 (v := 30) rfl ?_
    refine q_call3 gg147_69 tt146 rfl (Nat.le_of_ble_eq_true rfl) (hm_rv (by decide +kernel)) (ls' := [some _, some _, some _]) rfl rfl ?_
    refine r_follows hB n1 (by omega) (by omega) (by omega) (by omega) (by decide) (by decide) (by decide) (by decide) e2 e3 (fun M3 o1 o2 => ?_)
    show hm_Wp _ _ _ _ (_ :: _) _ _
    refine q_istore gg147_72 rfl ?_
    have htk := @tok_R tp tl p3
    have ht4 := @tok_4 tp tl p3
    have b11 := o1.2.1.2.2.1
    refine q_aload gg147_74 rfl ?_
    refine q_aload gg147_75 rfl ?_
    first | refine z_getf gg147_76 rfl (by first | assumption | ((repeat (first | refine up_nj (by decide) ?_ | refine up_nk (by decide) ?_ | refine row_nk (by decide) ?_)); first | assumption | exact up_at)) ?_ | refine q_getf gg147_76 rfl ?_
    refine z_const gg147_79 (v := 4) rfl ?_
    refine z_icmpne gg147_80 (tg := 87) rfl (by omega) (by omega) (fun c1 => ?_) (fun c1 => ?_)
    · try (exfalso; omega)
      all_goals (
        refine z_const gg147_87 (v := 0) rfl ?_
        refine z_const gg147_88 (v := 1) rfl ?_
        refine q_call3 gg147_89 tt143 rfl (Nat.le_of_ble_eq_true rfl) (hm_rv (by decide +kernel)) (ls' := [some _, some _, some _, none]) rfl rfl ?_
        obtain ⟨vt, et4⟩ := gS_fTk (s := 59) (by omega) (by first | exact Or.inl ⟨rfl, by omega⟩ | exact Or.inr ⟨rfl, by omega⟩) e4
        refine r_takes hB o1 (by omega) (by omega) (by decide) (by decide) (by decide) et4 (fun M4 q1 q2 => ?_)
        obtain ⟨fp4, g8, g7, gfp⟩ := q1.2.2
        show hm_Wp _ _ _ _ (_ :: _) _ _
        refine q_pop gg147_92 rfl ?_
        refine q_aload gg147_93 rfl ?_
        refine q_call1 gg147_94 tt142 rfl (Nat.le_of_ble_eq_true rfl) (hm_rv (by decide +kernel)) (ls' := [some _]) rfl rfl ?_
        refine q_aload gg142_0 rfl ?_
        first | refine z_getf gg142_1 rfl (by first | assumption | ((repeat (first | refine up_nj (by decide) ?_ | refine up_nk (by decide) ?_ | refine row_nk (by decide) ?_)); first | assumption | exact up_at)) ?_ | refine q_getf gg142_1 rfl ?_
        refine z_ifge gg142_4 (tg := 11) rfl (by omega) (fun c2 => ?_) (fun c2 => ?_)
        · try (exfalso; omega)
          all_goals (
            refine z_const gg142_11 (v := 0) rfl ?_
            refine z_zretC gg142_12 (by omega) ?_
            refine z_ifeq gg147_97 (tg := 159) rfl (by decide) (fun _ => ?_) (fun z => absurd z (by decide))
            refine q_ret gg147_159 ?_
            rw [if_neg (by omega), Prod.mk.injEq, Prod.mk.injEq] at e
            obtain ⟨rfl, rfl, rfl⟩ := e
            exact kk M4 q1 (by rw [q2.1 37 (by decide), o2.1 37 (by decide), n2.1 37 (by decide)]; exact d1) (((m2.tr n2).tr o2).tr q2).rd
          )
        · try (exfalso; omega)
          all_goals (
            refine z_const gg142_7 (v := 1) rfl ?_
            refine q_goto gg142_8 (tg := 12) rfl ?_
            refine z_zretC gg142_12 (by omega) ?_
            refine z_ifeq gg147_97 (tg := 159) rfl (by decide) (fun z => absurd z (by decide)) (fun _ => ?_)
            rw [if_pos (by omega), Prod.mk.injEq, Prod.mk.injEq] at e
            obtain ⟨y1, y2, y3⟩ := e
            have d4 : aw (M4 37) 53 0 20000 w := by rw [q2.1 37 (by decide), o2.1 37 (by decide), n2.1 37 (by decide)]; exact d1
            refine hm_Wp.eqM (hm_row_self M4 37).symm ?_
            subst ev49
            refine q_aload gg147_100 rfl ?_
            refine q_getr gg147_101 rfl ?_
            refine q_iload gg147_104 rfl ?_
            refine q_iload gg147_105 rfl ?_
            first | refine z_asr gg147_106 (by first | rfl | assumption) (by assumption) (by omega) (by omega) (by decide) (by omega) (by omega) (fun f106 h106 => ?_) | refine z_asx gg147_106 rfl (by omega) (by omega) (by decide) ?_ | refine z_asq gg147_106 rfl (by omega) (by omega) (by decide) ?_
            refine q_aload gg147_107 rfl ?_
            refine q_getr gg147_108 rfl ?_
            refine q_iload gg147_111 rfl ?_
            refine z_const gg147_112 (v := 1) rfl ?_
            first | refine z_iadd gg147_113 ?_ | refine q_iadd gg147_113 ?_
            refine q_iload gg147_114 rfl ?_
            first | refine z_asr gg147_115 (by first | rfl | assumption) (by assumption) (by omega) (by omega) (by decide) (by omega) (by omega) (fun f115 h115 => ?_) | refine z_asx gg147_115 rfl (by omega) (by omega) (by decide) ?_ | refine z_asq gg147_115 rfl (by omega) (by omega) (by decide) ?_
            refine q_aload gg147_116 rfl ?_
            refine q_getr gg147_117 rfl ?_
            refine q_iload gg147_120 rfl ?_
            refine z_const gg147_121 (v := 2) rfl ?_
            first | refine z_iadd gg147_122 ?_ | refine q_iadd gg147_122 ?_
            refine q_iload gg147_123 rfl ?_
            first | refine z_asr gg147_125 (by first | rfl | assumption) (by assumption) (by omega) (by omega) (by decide) (by omega) (by omega) (fun f125 h125 => ?_) | refine z_asx gg147_125 rfl (by omega) (by omega) (by decide) ?_ | refine z_asq gg147_125 rfl (by omega) (by omega) (by decide) ?_
            refine q_aload gg147_126 rfl ?_
            refine q_getr gg147_127 rfl ?_
            refine q_iload gg147_130 rfl ?_
            refine z_const gg147_131 (v := 3) rfl ?_
            first | refine z_iadd gg147_132 ?_ | refine q_iadd gg147_132 ?_
            refine q_aload gg147_133 rfl ?_
            refine q_getr gg147_134 rfl ?_
            refine z_const gg147_137 (v := 2) rfl ?_
            first | (refine z_alr gg147_138 (by first | rfl | assumption) (by assumption) (by omega) (by omega) (by omega) (by decide) (fun v138 ev138 lv138 uv138 => ?_); try dsimp only at ev138) | (refine z_alx gg147_138 rfl (by first | assumption | ((repeat (first | refine aw_upk (by decide) ?_ | refine aw_rowk (by decide) ?_)); assumption)) (by omega) (by omega) (by first | omega | decide) (by decide) (fun v138 ev138 lv138 uv138 => ?_); try dsimp only at ev138) | refine z_alq gg147_138 rfl (by omega) (by omega) (by decide) ?_
            have e138 : v138 = w 2 := by rw [ev138]; simp only [zup]; rw [if_neg (by omega), if_neg (by omega), if_neg (by omega)]
            subst e138
            first | refine z_asr gg147_139 (by first | rfl | assumption) (by assumption) (by omega) (by omega) (by decide) (by omega) (by omega) (fun f139 h139 => ?_) | refine z_asx gg147_139 rfl (by omega) (by omega) (by decide) ?_ | refine z_asq gg147_139 rfl (by omega) (by omega) (by decide) ?_
            refine q_aload gg147_140 rfl ?_
            refine q_getr gg147_141 rfl ?_
            refine q_iload gg147_144 rfl ?_
            refine z_const gg147_145 (v := 4) rfl ?_
            first | refine z_iadd gg147_146 ?_ | refine q_iadd gg147_146 ?_
            refine z_const gg147_147 (v := 1) rfl ?_
            first | refine z_asr gg147_148 (by first | rfl | assumption) (by assumption) (by omega) (by omega) (by decide) (by omega) (by omega) (fun f148 h148 => ?_) | refine z_asx gg147_148 rfl (by omega) (by omega) (by decide) ?_ | refine z_asq gg147_148 rfl (by omega) (by omega) (by decide) ?_
            refine q_aload gg147_149 rfl ?_
            refine q_getr gg147_150 rfl ?_
            refine z_const gg147_153 (v := 2) rfl ?_
            refine q_dup2 gg147_154 ⟨rfl, rfl⟩ ?_
            first | (refine z_alr gg147_155 (by first | rfl | assumption) (by assumption) (by omega) (by omega) (by omega) (by decide) (fun v155 ev155 lv155 uv155 => ?_); try dsimp only at ev155) | (refine z_alx gg147_155 rfl (by first | assumption | ((repeat (first | refine aw_upk (by decide) ?_ | refine aw_rowk (by decide) ?_)); assumption)) (by omega) (by omega) (by first | omega | decide) (by decide) (fun v155 ev155 lv155 uv155 => ?_); try dsimp only at ev155) | refine z_alq gg147_155 rfl (by omega) (by omega) (by decide) ?_
            have e155 : v155 = w 2 := by rw [ev155]; simp only [zup]; rw [if_neg (by omega), if_neg (by omega), if_neg (by omega), if_neg (by omega), if_neg (by omega)]
            subst e155
            refine z_const gg147_156 (v := 1) rfl ?_
            first | refine z_iadd gg147_157 ?_ | refine q_iadd gg147_157 ?_
            first | refine z_asr gg147_158 (by first | rfl | assumption) (by assumption) (by omega) (by omega) (by decide) (by omega) (by omega) (fun f158 h158 => ?_) | refine z_asx gg147_158 rfl (by omega) (by omega) (by decide) ?_ | refine z_asq gg147_158 rfl (by omega) (by omega) (by decide) ?_
            refine q_ret gg147_159 ?_
            refine kk _ (RS.row (by rw [← y2, ← y1, show (0 : Int) = cd by omega]; exact q1)) ?_ ((((m2.tr n2).tr o2).tr q2).rd.row)
            rw [hm_row_same, ← y3]
            first | assumption | (unfold mAdd; assumption)
          )
      )
    · try (exfalso; omega)
      all_goals (
        refine z_const gg147_83 (v := 1) rfl ?_
        refine q_goto gg147_84 (tg := 88) rfl ?_
        refine z_const gg147_88 (v := 1) rfl ?_
        refine q_call3 gg147_89 tt143 rfl (Nat.le_of_ble_eq_true rfl) (hm_rv (by decide +kernel)) (ls' := [some _, some _, some _, none]) rfl rfl ?_
        obtain ⟨vt, et4⟩ := gS_fTk (s := 59) (by omega) (by first | exact Or.inl ⟨rfl, by omega⟩ | exact Or.inr ⟨rfl, by omega⟩) e4
        refine r_takes hB o1 (by omega) (by omega) (by decide) (by decide) (by decide) et4 (fun M4 q1 q2 => ?_)
        obtain ⟨fp4, g8, g7, gfp⟩ := q1.2.2
        show hm_Wp _ _ _ _ (_ :: _) _ _
        refine q_pop gg147_92 rfl ?_
        refine q_aload gg147_93 rfl ?_
        refine q_call1 gg147_94 tt142 rfl (Nat.le_of_ble_eq_true rfl) (hm_rv (by decide +kernel)) (ls' := [some _]) rfl rfl ?_
        refine q_aload gg142_0 rfl ?_
        first | refine z_getf gg142_1 rfl (by first | assumption | ((repeat (first | refine up_nj (by decide) ?_ | refine up_nk (by decide) ?_ | refine row_nk (by decide) ?_)); first | assumption | exact up_at)) ?_ | refine q_getf gg142_1 rfl ?_
        refine z_ifge gg142_4 (tg := 11) rfl (by omega) (fun c2 => ?_) (fun c2 => ?_)
        · try (exfalso; omega)
          all_goals (
            refine z_const gg142_11 (v := 0) rfl ?_
            refine z_zretC gg142_12 (by omega) ?_
            refine z_ifeq gg147_97 (tg := 159) rfl (by decide) (fun _ => ?_) (fun z => absurd z (by decide))
            refine q_ret gg147_159 ?_
            rw [if_neg (by omega), Prod.mk.injEq, Prod.mk.injEq] at e
            obtain ⟨rfl, rfl, rfl⟩ := e
            exact kk M4 q1 (by rw [q2.1 37 (by decide), o2.1 37 (by decide), n2.1 37 (by decide)]; exact d1) (((m2.tr n2).tr o2).tr q2).rd
          )
        · try (exfalso; omega)
          all_goals (
            refine z_const gg142_7 (v := 1) rfl ?_
            refine q_goto gg142_8 (tg := 12) rfl ?_
            refine z_zretC gg142_12 (by omega) ?_
            refine z_ifeq gg147_97 (tg := 159) rfl (by decide) (fun z => absurd z (by decide)) (fun _ => ?_)
            rw [if_pos (by omega), Prod.mk.injEq, Prod.mk.injEq] at e
            obtain ⟨y1, y2, y3⟩ := e
            have d4 : aw (M4 37) 53 0 20000 w := by rw [q2.1 37 (by decide), o2.1 37 (by decide), n2.1 37 (by decide)]; exact d1
            refine hm_Wp.eqM (hm_row_self M4 37).symm ?_
            subst ev49
            refine q_aload gg147_100 rfl ?_
            refine q_getr gg147_101 rfl ?_
            refine q_iload gg147_104 rfl ?_
            refine q_iload gg147_105 rfl ?_
            first | refine z_asr gg147_106 (by first | rfl | assumption) (by assumption) (by omega) (by omega) (by decide) (by omega) (by omega) (fun f106 h106 => ?_) | refine z_asx gg147_106 rfl (by omega) (by omega) (by decide) ?_ | refine z_asq gg147_106 rfl (by omega) (by omega) (by decide) ?_
            refine q_aload gg147_107 rfl ?_
            refine q_getr gg147_108 rfl ?_
            refine q_iload gg147_111 rfl ?_
            refine z_const gg147_112 (v := 1) rfl ?_
            first | refine z_iadd gg147_113 ?_ | refine q_iadd gg147_113 ?_
            refine q_iload gg147_114 rfl ?_
            first | refine z_asr gg147_115 (by first | rfl | assumption) (by assumption) (by omega) (by omega) (by decide) (by omega) (by omega) (fun f115 h115 => ?_) | refine z_asx gg147_115 rfl (by omega) (by omega) (by decide) ?_ | refine z_asq gg147_115 rfl (by omega) (by omega) (by decide) ?_
            refine q_aload gg147_116 rfl ?_
            refine q_getr gg147_117 rfl ?_
            refine q_iload gg147_120 rfl ?_
            refine z_const gg147_121 (v := 2) rfl ?_
            first | refine z_iadd gg147_122 ?_ | refine q_iadd gg147_122 ?_
            refine q_iload gg147_123 rfl ?_
            first | refine z_asr gg147_125 (by first | rfl | assumption) (by assumption) (by omega) (by omega) (by decide) (by omega) (by omega) (fun f125 h125 => ?_) | refine z_asx gg147_125 rfl (by omega) (by omega) (by decide) ?_ | refine z_asq gg147_125 rfl (by omega) (by omega) (by decide) ?_
            refine q_aload gg147_126 rfl ?_
            refine q_getr gg147_127 rfl ?_
            refine q_iload gg147_130 rfl ?_
            refine z_const gg147_131 (v := 3) rfl ?_
            first | refine z_iadd gg147_132 ?_ | refine q_iadd gg147_132 ?_
            refine q_aload gg147_133 rfl ?_
            refine q_getr gg147_134 rfl ?_
            refine z_const gg147_137 (v := 2) rfl ?_
            first | (refine z_alr gg147_138 (by first | rfl | assumption) (by assumption) (by omega) (by omega) (by omega) (by decide) (fun v138 ev138 lv138 uv138 => ?_); try dsimp only at ev138) | (refine z_alx gg147_138 rfl (by first | assumption | ((repeat (first | refine aw_upk (by decide) ?_ | refine aw_rowk (by decide) ?_)); assumption)) (by omega) (by omega) (by first | omega | decide) (by decide) (fun v138 ev138 lv138 uv138 => ?_); try dsimp only at ev138) | refine z_alq gg147_138 rfl (by omega) (by omega) (by decide) ?_
            have e138 : v138 = w 2 := by rw [ev138]; simp only [zup]; rw [if_neg (by omega), if_neg (by omega), if_neg (by omega)]
            subst e138
            first | refine z_asr gg147_139 (by first | rfl | assumption) (by assumption) (by omega) (by omega) (by decide) (by omega) (by omega) (fun f139 h139 => ?_) | refine z_asx gg147_139 rfl (by omega) (by omega) (by decide) ?_ | refine z_asq gg147_139 rfl (by omega) (by omega) (by decide) ?_
            refine q_aload gg147_140 rfl ?_
            refine q_getr gg147_141 rfl ?_
            refine q_iload gg147_144 rfl ?_
            refine z_const gg147_145 (v := 4) rfl ?_
            first | refine z_iadd gg147_146 ?_ | refine q_iadd gg147_146 ?_
            refine z_const gg147_147 (v := 1) rfl ?_
            first | refine z_asr gg147_148 (by first | rfl | assumption) (by assumption) (by omega) (by omega) (by decide) (by omega) (by omega) (fun f148 h148 => ?_) | refine z_asx gg147_148 rfl (by omega) (by omega) (by decide) ?_ | refine z_asq gg147_148 rfl (by omega) (by omega) (by decide) ?_
            refine q_aload gg147_149 rfl ?_
            refine q_getr gg147_150 rfl ?_
            refine z_const gg147_153 (v := 2) rfl ?_
            refine q_dup2 gg147_154 ⟨rfl, rfl⟩ ?_
            first | (refine z_alr gg147_155 (by first | rfl | assumption) (by assumption) (by omega) (by omega) (by omega) (by decide) (fun v155 ev155 lv155 uv155 => ?_); try dsimp only at ev155) | (refine z_alx gg147_155 rfl (by first | assumption | ((repeat (first | refine aw_upk (by decide) ?_ | refine aw_rowk (by decide) ?_)); assumption)) (by omega) (by omega) (by first | omega | decide) (by decide) (fun v155 ev155 lv155 uv155 => ?_); try dsimp only at ev155) | refine z_alq gg147_155 rfl (by omega) (by omega) (by decide) ?_
            have e155 : v155 = w 2 := by rw [ev155]; simp only [zup]; rw [if_neg (by omega), if_neg (by omega), if_neg (by omega), if_neg (by omega), if_neg (by omega)]
            subst e155
            refine z_const gg147_156 (v := 1) rfl ?_
            first | refine z_iadd gg147_157 ?_ | refine q_iadd gg147_157 ?_
            first | refine z_asr gg147_158 (by first | rfl | assumption) (by assumption) (by omega) (by omega) (by decide) (by omega) (by omega) (fun f158 h158 => ?_) | refine z_asx gg147_158 rfl (by omega) (by omega) (by decide) ?_ | refine z_asq gg147_158 rfl (by omega) (by omega) (by decide) ?_
            refine q_ret gg147_159 ?_
            refine kk _ (RS.row (by rw [← y2, ← y1, show (0 : Int) = cd by omega]; exact q1)) ?_ ((((m2.tr n2).tr o2).tr q2).rd.row)
            rw [hm_row_same, ← y3]
            first | assumption | (unfold mAdd; assumption)
          )
      )
end P4
