section P1
variable {d r mid pc nx k j q : Nat} {M N N' : hm_M} {tp w g : Int → Int} {tl a b c p v u s lo hi fm e : Int} {x y : Int32} {f F : Nat → Int32} {Q : Option hm_V → hm_M → Prop}
theorem up_nj {b : Nat} (h : b ≠ j) (e : M k b = y) : hm_up M k j x k b = y := by unfold hm_up; rw [hm_row_same]; simp only [upd]; rw [if_neg h]; exact e
theorem up_nk {b : Nat} (h : q ≠ k) (e : M q b = y) : hm_up M k j x q b = y := by unfold hm_up; rw [hm_row_ne _ _ h]; exact e
theorem row_nk {b : Nat} (h : q ≠ k) (e : M q b = y) : hm_row M k f q b = y := by rw [hm_row_ne _ _ h]; exact e
theorem aw_upk (h : q ≠ k) (e : aw (M q) a lo hi w) : aw (hm_up M k j x q) a lo hi w := by unfold hm_up; rw [hm_row_ne _ _ h]; exact e
theorem aw_rowk (h : q ≠ k) (e : aw (M q) a lo hi w) : aw (hm_row M k f q) a lo hi w := by rw [hm_row_ne _ _ h]; exact e
def FQ (M M' : hm_M) : Prop := ∀ q : Nat, q ≠ 5 → M' q = M q
def FS (M M' : hm_M) : Prop := FQ M M' ∧ M' 5 1 = M 5 1 ∧ M' 5 5 = M 5 5
theorem FQ.rf : FQ M M := fun _ _ => rfl
theorem FQ.tr (h : FQ M N) (h' : FQ N N') : FQ M N' := fun q hq => (h' q hq).trans (h q hq)
theorem FQ.up (h : FQ M N) : FQ M (hm_up N 5 j x) := fun q hq => by unfold hm_up; rw [hm_row_ne _ _ hq]; exact h q hq
theorem FS.rf : FS M M := ⟨FQ.rf, rfl, rfl⟩
theorem FS.tr (h : FS M N) (h' : FS N N') : FS M N' := ⟨h.1.tr h'.1, h'.2.1.trans h.2.1, h'.2.2.trans h.2.2⟩
theorem FS.up (h1 : 1 ≠ j) (h5 : 5 ≠ j) (h : FS M N) : FS M (hm_up N 5 j x) := ⟨h.1.up, up_nj h1 h.2.1, up_nj h5 h.2.2⟩
/-- the tape, as it stands at a place -/
def CT (M : hm_M) (tp : Int → Int) (tl p : Int) : Prop := M 5 1 = zI tl ∧ aw (M 6) tl 0 255 tp ∧ M 5 2 = zI p
theorem CT.fs (h : CT M tp tl p) (hf : FS M N) (e : N 5 2 = zI s) : CT N tp tl s := ⟨hf.2.1.trans h.1, by rw [hf.1 6 (by decide)]; exact h.2.1, e⟩
theorem c_byte (hB : pB tp tl) (hT : CT M tp tl p) (hp0 : 0 ≤ p) (hp : p ≤ tl) (kk : Q (some (.inl (zI (pyt tp tl p)))) M) : hm_Wp d 80 0 [some (.inr (.inr 5))] [] M Q := by
  obtain ⟨t1, t2, t3⟩ := hT
  have hb := hB.2.1
  refine q_aload gg80_0 rfl ?_
  first | refine z_getf gg80_1 rfl (by first | assumption | ((repeat (first | refine up_nj (by decide) ?_ | refine up_nk (by decide) ?_ | refine row_nk (by decide) ?_)); first | assumption | exact up_at)) ?_ | refine q_getf gg80_1 rfl ?_
  refine q_aload gg80_4 rfl ?_
  first | refine z_getf gg80_5 rfl (by first | assumption | ((repeat (first | refine up_nj (by decide) ?_ | refine up_nk (by decide) ?_ | refine row_nk (by decide) ?_)); first | assumption | exact up_at)) ?_ | refine q_getf gg80_5 rfl ?_
  refine z_icmpge gg80_8 (tg := 23) rfl (by omega) (by omega) (fun c1 => ?_) (fun c1 => ?_)
  · try (exfalso; omega)
    all_goals (
      refine z_neg gg80_23 ?_
      refine q_iret gg80_24 ?_
      refine qv ?_ kk
      first | (rw [pyt_lt (by omega)]; omega) | (rw [pyt_ge (by omega)])
    )
  · try (exfalso; omega)
    all_goals (
      refine q_aload gg80_11 rfl ?_
      refine q_getr gg80_12 rfl ?_
      refine q_aload gg80_15 rfl ?_
      first | refine z_getf gg80_16 rfl (by first | assumption | ((repeat (first | refine up_nj (by decide) ?_ | refine up_nk (by decide) ?_ | refine row_nk (by decide) ?_)); first | assumption | exact up_at)) ?_ | refine q_getf gg80_16 rfl ?_
      first | (refine z_alr gg80_19 (by first | rfl | assumption) (by assumption) (by omega) (by omega) (by omega) (by decide) (fun v19 ev19 lv19 uv19 => ?_); try dsimp only at ev19) | (refine z_alx gg80_19 rfl (by first | assumption | ((repeat (first | refine aw_upk (by decide) ?_ | refine aw_rowk (by decide) ?_)); assumption)) (by omega) (by omega) (by first | omega | decide) (by decide) (fun v19 ev19 lv19 uv19 => ?_); try dsimp only at ev19) | refine z_alq gg80_19 rfl (by omega) (by omega) (by decide) ?_
      refine q_goto gg80_20 (tg := 24) rfl ?_
      refine q_iret gg80_24 ?_
      refine qv ?_ kk
      first | (rw [pyt_lt (by omega)]; omega) | (rw [pyt_ge (by omega)])
    )
theorem c_figs (hB : pB tp tl) (hT : CT M tp tl p) (hp0 : 0 ≤ p) (hp : p ≤ tl) (kk : Q (some (.inl (zI (figs tp tl p)))) M) : hm_Wp d 81 0 [some (.inr (.inr 5)), none] [] M Q := by
  obtain ⟨t1, t2, t3⟩ := hT
  have hb := hB.2.1
  have L : ∀ (m : Nat) (e : Int), p ≤ e → e + m = tl → figs tp tl p = e - p + figs tp tl e → hm_Wp d 81 5 [some (.inr (.inr 5)), some (.inl (zI e))] [] M Q := by
    intro m
    induction m with
    | zero =>
      intro e he hm hf
      have hpy := pyt_ge (tp := tp) (tl := tl) (k := e) (by omega)
      refine q_iload gg81_5 rfl ?_
      refine q_aload gg81_6 rfl ?_
      first | refine z_getf gg81_7 rfl (by first | assumption | ((repeat (first | refine up_nj (by decide) ?_ | refine up_nk (by decide) ?_ | refine row_nk (by decide) ?_)); first | assumption | exact up_at)) ?_ | refine q_getf gg81_7 rfl ?_
      refine z_icmpge gg81_10 (tg := 41) rfl (by omega) (by omega) (fun c1 => ?_) (fun z => absurd z (by omega))
      refine q_iload gg81_41 rfl ?_
      refine q_aload gg81_42 rfl ?_
      first | refine z_getf gg81_43 rfl (by first | assumption | ((repeat (first | refine up_nj (by decide) ?_ | refine up_nk (by decide) ?_ | refine row_nk (by decide) ?_)); first | assumption | exact up_at)) ?_ | refine q_getf gg81_43 rfl ?_
      first | refine z_isub gg81_46 ?_ | refine q_isub gg81_46 ?_
      refine q_iret gg81_47 ?_
      refine qv ?_ kk
      rw [hf, figs_f (by omega)]
      omega
    | succ m ih =>
      intro e he hm hf
      have hpy := pyt_lt (tp := tp) (tl := tl) (k := e) (by omega)
      refine q_iload gg81_5 rfl ?_
      refine q_aload gg81_6 rfl ?_
      first | refine z_getf gg81_7 rfl (by first | assumption | ((repeat (first | refine up_nj (by decide) ?_ | refine up_nk (by decide) ?_ | refine row_nk (by decide) ?_)); first | assumption | exact up_at)) ?_ | refine q_getf gg81_7 rfl ?_
      refine z_icmpge gg81_10 (tg := 41) rfl (by omega) (by omega) (fun z => absurd z (by omega)) (fun c1 => ?_)
      refine q_aload gg81_13 rfl ?_
      refine q_getr gg81_14 rfl ?_
      refine q_iload gg81_17 rfl ?_
      first | (refine z_alr gg81_18 (by first | rfl | assumption) (by assumption) (by omega) (by omega) (by omega) (by decide) (fun v18 ev18 lv18 uv18 => ?_); try dsimp only at ev18) | (refine z_alx gg81_18 rfl (by first | assumption | ((repeat (first | refine aw_upk (by decide) ?_ | refine aw_rowk (by decide) ?_)); assumption)) (by omega) (by omega) (by first | omega | decide) (by decide) (fun v18 ev18 lv18 uv18 => ?_); try dsimp only at ev18) | refine z_alq gg81_18 rfl (by omega) (by omega) (by decide) ?_
      refine z_const gg81_19 (v := 48) rfl ?_
      refine z_icmplt gg81_21 (tg := 41) rfl (by omega) (by omega) (fun c2 => ?_) (fun c2 => ?_)
      · try (exfalso; omega)
        all_goals (
          refine q_iload gg81_41 rfl ?_
          refine q_aload gg81_42 rfl ?_
          first | refine z_getf gg81_43 rfl (by first | assumption | ((repeat (first | refine up_nj (by decide) ?_ | refine up_nk (by decide) ?_ | refine row_nk (by decide) ?_)); first | assumption | exact up_at)) ?_ | refine q_getf gg81_43 rfl ?_
          first | refine z_isub gg81_46 ?_ | refine q_isub gg81_46 ?_
          refine q_iret gg81_47 ?_
          refine qv ?_ kk
          rw [hf, figs_f (by omega)]
          omega
        )
      · try (exfalso; omega)
        all_goals (
          refine q_aload gg81_24 rfl ?_
          refine q_getr gg81_25 rfl ?_
          refine q_iload gg81_28 rfl ?_
          first | (refine z_alr gg81_29 (by first | rfl | assumption) (by assumption) (by omega) (by omega) (by omega) (by decide) (fun v29 ev29 lv29 uv29 => ?_); try dsimp only at ev29) | (refine z_alx gg81_29 rfl (by first | assumption | ((repeat (first | refine aw_upk (by decide) ?_ | refine aw_rowk (by decide) ?_)); assumption)) (by omega) (by omega) (by first | omega | decide) (by decide) (fun v29 ev29 lv29 uv29 => ?_); try dsimp only at ev29) | refine z_alq gg81_29 rfl (by omega) (by omega) (by decide) ?_
          refine z_const gg81_30 (v := 57) rfl ?_
          refine z_icmpgt gg81_32 (tg := 41) rfl (by omega) (by omega) (fun c3 => ?_) (fun c3 => ?_)
          · try (exfalso; omega)
            all_goals (
              refine q_iload gg81_41 rfl ?_
              refine q_aload gg81_42 rfl ?_
              first | refine z_getf gg81_43 rfl (by first | assumption | ((repeat (first | refine up_nj (by decide) ?_ | refine up_nk (by decide) ?_ | refine row_nk (by decide) ?_)); first | assumption | exact up_at)) ?_ | refine q_getf gg81_43 rfl ?_
              first | refine z_isub gg81_46 ?_ | refine q_isub gg81_46 ?_
              refine q_iret gg81_47 ?_
              refine qv ?_ kk
              rw [hf, figs_f (by omega)]
              omega
            )
          · try (exfalso; omega)
            all_goals (
              refine z_iinc gg81_35 rfl rfl ?_
              refine q_goto gg81_38 (tg := 5) rfl ?_
              refine ih (e + 1) (by omega) (by omega) ?_
              rw [hf, figs_t (by omega)]
              omega
            )
        )
  refine q_aload gg81_0 rfl ?_
  first | refine z_getf gg81_1 rfl (by first | assumption | ((repeat (first | refine up_nj (by decide) ?_ | refine up_nk (by decide) ?_ | refine row_nk (by decide) ?_)); first | assumption | exact up_at)) ?_ | refine q_getf gg81_1 rfl ?_
  refine q_istore gg81_4 rfl ?_
  exact L (tl - p).toNat p (Int.le_refl _) (by omega) (by omega)
theorem c_sort (hB : pB tp tl) (hT : CT M tp tl p) (hp0 : 0 ≤ p) (hp : p ≤ tl) (kk : Q (some (.inl (zI (kdO (pyt tp tl p))))) M) : hm_Wp (d + 1) 82 0 [some (.inr (.inr 5))] [] M Q := by
  have hr := pyt_R hB hp0
  have hK : kdO (pyt tp tl p) = if pyt tp tl p = 112 then 1 else if pyt tp tl p = 115 then 2 else if pyt tp tl p = 108 then 3 else if pyt tp tl p = 98 then 4 else if pyt tp tl p = 114 then 5 else 0 := rfl
  refine q_aload gg82_0 rfl ?_
  refine q_call1 gg82_1 tt80 rfl (Nat.le_of_ble_eq_true rfl) (hm_rv (by decide +kernel)) (ls' := [some _]) rfl rfl ?_
  refine c_byte hB hT hp0 hp ?_
  show hm_Wp _ _ _ _ (_ :: _) _ _
  refine z_sw gg82_4 (by omega) ?_
  simp only [hm_swt_cons, hm_swt_nil]
  split
  · try (exfalso; omega)
    all_goals (
      refine z_const gg82_62 (v := 4) rfl ?_
      refine q_iret gg82_63 ?_
      refine qv ?_ kk
      rw [hK]
      (repeat' split) <;> omega
    )
  split
  · try (exfalso; omega)
    all_goals (
      refine z_const gg82_60 (v := 3) rfl ?_
      refine q_iret gg82_61 ?_
      refine qv ?_ kk
      rw [hK]
      (repeat' split) <;> omega
    )
  split
  · try (exfalso; omega)
    all_goals (
      refine z_const gg82_56 (v := 1) rfl ?_
      refine q_iret gg82_57 ?_
      refine qv ?_ kk
      rw [hK]
      (repeat' split) <;> omega
    )
  split
  · try (exfalso; omega)
    all_goals (
      refine z_const gg82_64 (v := 5) rfl ?_
      refine q_iret gg82_65 ?_
      refine qv ?_ kk
      rw [hK]
      (repeat' split) <;> omega
    )
  split
  · try (exfalso; omega)
    all_goals (
      refine z_const gg82_58 (v := 2) rfl ?_
      refine q_iret gg82_59 ?_
      refine qv ?_ kk
      rw [hK]
      (repeat' split) <;> omega
    )
  try (exfalso; omega)
  all_goals (
    show hm_Wp _ _ 66 _ _ _ _
    refine z_const gg82_66 (v := 0) rfl ?_
    refine q_iret gg82_67 ?_
    refine qv ?_ kk
    rw [hK]
    (repeat' split) <;> omega
  )
theorem c_sign (hB : pB tp tl) (hT : CT M tp tl p) (hp0 : 0 ≤ p) (hp : p ≤ tl) (hs0 : 0 ≤ s) (hs : s ≤ 255) {c' p' : Int} (e : gS tp tl 0 p s = (c', p')) (k1 : c' = 0 → Q (some (.inl (zI 1))) (hm_up M 5 2 (zI p'))) (k0 : c' ≠ 0 → Q (some (.inl (zI 0))) (hm_up (hm_up M 5 5 (zI c')) 5 6 (zI p'))) : hm_Wp (d + 1) 79 0 [some (.inr (.inr 5)), some (.inl (zI s))] [] M Q := by
  have hr := pyt_R hB hp0
  have hb := hB.2.1
  have t3 := hT.2.2
  have hg : gS tp tl 0 p s = if pyt tp tl p = s then (0, p + 1) else (1, p) := by unfold gS; rw [if_neg (by omega)]
  rw [e] at hg
  refine q_aload gg79_0 rfl ?_
  refine q_call1 gg79_1 tt80 rfl (Nat.le_of_ble_eq_true rfl) (hm_rv (by decide +kernel)) (ls' := [some _]) rfl rfl ?_
  refine c_byte hB hT hp0 hp ?_
  show hm_Wp _ _ _ _ (_ :: _) _ _
  refine q_iload gg79_4 rfl ?_
  refine z_icmpeq gg79_5 (tg := 14) rfl (by omega) (by omega) (fun c1 => ?_) (fun c1 => ?_)
  · try (exfalso; omega)
    all_goals (
      refine q_aload gg79_14 rfl ?_
      refine q_dup gg79_15 rfl ?_
      first | refine z_getf gg79_16 rfl (by first | assumption | ((repeat (first | refine up_nj (by decide) ?_ | refine up_nk (by decide) ?_ | refine row_nk (by decide) ?_)); first | assumption | exact up_at)) ?_ | refine q_getf gg79_16 rfl ?_
      refine z_const gg79_19 (v := 1) rfl ?_
      first | refine z_iadd gg79_20 ?_ | refine q_iadd gg79_20 ?_
      refine q_putf gg79_21 rfl ?_
      refine z_const gg79_24 (v := 1) rfl ?_
      refine z_zret gg79_25 (by omega) ?_
      rw [if_pos (by omega), Prod.mk.injEq] at hg
      obtain ⟨rfl, rfl⟩ := hg
      exact k1 rfl
    )
  · try (exfalso; omega)
    all_goals (
      refine q_aload gg79_8 rfl ?_
      refine z_const gg79_9 (v := 1) rfl ?_
      refine q_call2 gg79_10 tt83 rfl (Nat.le_of_ble_eq_true rfl) (hm_rv (by decide +kernel)) (ls' := [some _, some _]) rfl rfl ?_
      refine q_aload gg83_0 rfl ?_
      refine q_iload gg83_1 rfl ?_
      refine q_putf gg83_2 rfl ?_
      refine q_aload gg83_5 rfl ?_
      refine q_aload gg83_6 rfl ?_
      first | refine z_getf gg83_7 rfl (by first | assumption | ((repeat (first | refine up_nj (by decide) ?_ | refine up_nk (by decide) ?_ | refine row_nk (by decide) ?_)); first | assumption | exact up_at)) ?_ | refine q_getf gg83_7 rfl ?_
      refine q_putf gg83_10 rfl ?_
      refine z_const gg83_13 (v := 0) rfl ?_
      refine z_zretC gg83_14 (by omega) ?_
      refine z_zret gg79_13 (by omega) ?_
      rw [if_neg (by omega), Prod.mk.injEq] at hg
      obtain ⟨rfl, rfl⟩ := hg
      exact k0 (by decide)
    )
theorem c_num (hB : pB tp tl) (hT : CT M tp tl p) (hp0 : 0 ≤ p) (hp : p ≤ tl) (hlo : 0 ≤ lo) (hlo2 : lo ≤ 100) (hhi : 0 ≤ hi) (hhi2 : hi ≤ 100) {c' p' v' : Int} (e : gN tp tl 0 p lo hi = (c', p', v')) (k1 : c' = 0 → ∀ M', M' 5 2 = zI p' → M' 5 3 = zI v' → M' 5 4 = M 5 4 → FS M M' → Q (some (.inl (zI 1))) M') (k0 : c' ≠ 0 → ∀ M', M' 5 5 = zI c' → M' 5 6 = zI p' → FQ M M' → Q (some (.inl (zI 0))) M') : hm_Wp (d + 1) 78 0 [some (.inr (.inr 5)), some (.inl (zI lo)), some (.inl (zI hi)), none, none] [] M Q := by
  have hb := hB.2.1
  have hT' := hT
  obtain ⟨t1, t2, t3⟩ := hT
  have hg : gN tp tl 0 p lo hi = if ¬ (1 ≤ figs tp tl p ∧ figs tp tl p ≤ 2) then (1, p, 0) else if lo ≤ nv tp tl p ∧ nv tp tl p ≤ hi then (0, p + figs tp tl p, nv tp tl p) else (2, p, 0) := by unfold gN; rw [if_neg (by omega)]
  rw [e] at hg
  have hfl := figs_le tp hp
  have hf0 := figs_ge tp tl p
  have hnv := @nv_R tp tl p
  refine q_aload gg78_0 rfl ?_
  refine q_call1 gg78_1 tt81 rfl (Nat.le_of_ble_eq_true rfl) (hm_rv (by decide +kernel)) (ls' := [some _, none]) rfl rfl ?_
  refine c_figs hB hT' hp0 hp ?_
  show hm_Wp _ _ _ _ (_ :: _) _ _
  refine q_istore gg78_4 rfl ?_
  refine q_iload gg78_5 rfl ?_
  refine z_const gg78_6 (v := 1) rfl ?_
  refine z_icmplt gg78_7 (tg := 15) rfl (by omega) (by omega) (fun c1 => ?_) (fun c1 => ?_)
  · try (exfalso; omega)
    all_goals (
      refine q_aload gg78_15 rfl ?_
      refine z_const gg78_16 (v := 1) rfl ?_
      refine q_call2 gg78_17 tt83 rfl (Nat.le_of_ble_eq_true rfl) (hm_rv (by decide +kernel)) (ls' := [some _, some _]) rfl rfl ?_
      refine q_aload gg83_0 rfl ?_
      refine q_iload gg83_1 rfl ?_
      refine q_putf gg83_2 rfl ?_
      refine q_aload gg83_5 rfl ?_
      refine q_aload gg83_6 rfl ?_
      first | refine z_getf gg83_7 rfl (by first | assumption | ((repeat (first | refine up_nj (by decide) ?_ | refine up_nk (by decide) ?_ | refine row_nk (by decide) ?_)); first | assumption | exact up_at)) ?_ | refine q_getf gg83_7 rfl ?_
      refine q_putf gg83_10 rfl ?_
      refine z_const gg83_13 (v := 0) rfl ?_
      refine z_zretC gg83_14 (by omega) ?_
      refine z_zret gg78_20 (by omega) ?_
      rw [if_pos (by omega), Prod.mk.injEq, Prod.mk.injEq] at hg
      obtain ⟨rfl, rfl, rfl⟩ := hg
      exact k0 (by decide) _ (up_nj (by decide) up_at) up_at (FQ.rf.up.up)
    )
  · try (exfalso; omega)
    all_goals (
      refine q_iload gg78_10 rfl ?_
      refine z_const gg78_11 (v := 2) rfl ?_
      refine z_icmple gg78_12 (tg := 21) rfl (by omega) (by omega) (fun c2 => ?_) (fun c2 => ?_)
      · try (exfalso; omega)
        all_goals (
          rw [if_neg (by omega)] at hg
          by_cases f1 : figs tp tl p = 1
          · have hn : nv tp tl p = tp p - 48 := by unfold nv nvj; rw [if_neg (by omega), if_pos f1, pyt_lt (by omega)]
            refine q_aload gg78_21 rfl ?_
            refine z_const gg78_22 (v := 0) rfl ?_
            refine q_putf gg78_23 rfl ?_
            refine q_aload gg78_26 rfl ?_
            first | refine z_getf gg78_27 rfl (by first | assumption | ((repeat (first | refine up_nj (by decide) ?_ | refine up_nk (by decide) ?_ | refine row_nk (by decide) ?_)); first | assumption | exact up_at)) ?_ | refine q_getf gg78_27 rfl ?_
            refine q_istore gg78_30 rfl ?_
            refine q_iload gg78_32 rfl ?_
            refine q_aload gg78_34 rfl ?_
            first | refine z_getf gg78_35 rfl (by first | assumption | ((repeat (first | refine up_nj (by decide) ?_ | refine up_nk (by decide) ?_ | refine row_nk (by decide) ?_)); first | assumption | exact up_at)) ?_ | refine q_getf gg78_35 rfl ?_
            refine q_iload gg78_38 rfl ?_
            first | refine z_iadd gg78_39 ?_ | refine q_iadd gg78_39 ?_
            refine z_icmpge gg78_40 (tg := 71) rfl (by omega) (by omega) (fun z => absurd z (by omega)) (fun c1 => ?_)
            refine q_aload gg78_43 rfl ?_
            refine z_const gg78_44 (v := 10) rfl ?_
            refine q_aload gg78_46 rfl ?_
            first | refine z_getf gg78_47 rfl (by first | assumption | ((repeat (first | refine up_nj (by decide) ?_ | refine up_nk (by decide) ?_ | refine row_nk (by decide) ?_)); first | assumption | exact up_at)) ?_ | refine q_getf gg78_47 rfl ?_
            first | refine z_imul gg78_50 ?_ | refine q_imul gg78_50 ?_
            refine q_aload gg78_51 rfl ?_
            refine q_getr gg78_52 rfl ?_
            refine q_iload gg78_55 rfl ?_
            first | (refine z_alr gg78_57 (by first | rfl | assumption) (by assumption) (by omega) (by omega) (by omega) (by decide) (fun v57 ev57 lv57 uv57 => ?_); try dsimp only at ev57) | (refine z_alx gg78_57 rfl (by first | assumption | ((repeat (first | refine aw_upk (by decide) ?_ | refine aw_rowk (by decide) ?_)); assumption)) (by omega) (by omega) (by first | omega | decide) (by decide) (fun v57 ev57 lv57 uv57 => ?_); try dsimp only at ev57) | refine z_alq gg78_57 rfl (by omega) (by omega) (by decide) ?_
            first | refine z_iadd gg78_58 ?_ | refine q_iadd gg78_58 ?_
            refine z_const gg78_59 (v := 48) rfl ?_
            first | refine z_isub gg78_61 ?_ | refine q_isub gg78_61 ?_
            refine q_putf gg78_62 rfl ?_
            refine z_iinc gg78_65 rfl rfl ?_
            refine q_goto gg78_68 (tg := 32) rfl ?_
            refine q_iload gg78_32 rfl ?_
            refine q_aload gg78_34 rfl ?_
            first | refine z_getf gg78_35 rfl (by first | assumption | ((repeat (first | refine up_nj (by decide) ?_ | refine up_nk (by decide) ?_ | refine row_nk (by decide) ?_)); first | assumption | exact up_at)) ?_ | refine q_getf gg78_35 rfl ?_
            refine q_iload gg78_38 rfl ?_
            first | refine z_iadd gg78_39 ?_ | refine q_iadd gg78_39 ?_
            refine z_icmpge gg78_40 (tg := 71) rfl (by omega) (by omega) (fun c1 => ?_) (fun z => absurd z (by omega))
            refine q_aload gg78_71 rfl ?_
            first | refine z_getf gg78_72 rfl (by first | assumption | ((repeat (first | refine up_nj (by decide) ?_ | refine up_nk (by decide) ?_ | refine row_nk (by decide) ?_)); first | assumption | exact up_at)) ?_ | refine q_getf gg78_72 rfl ?_
            refine q_iload gg78_75 rfl ?_
            refine z_icmplt gg78_76 (tg := 87) rfl (by omega) (by omega) (fun c2 => ?_) (fun c2 => ?_)
            · try (exfalso; omega)
              all_goals (
                refine q_aload gg78_87 rfl ?_
                refine z_const gg78_88 (v := 2) rfl ?_
                refine q_call2 gg78_89 tt83 rfl (Nat.le_of_ble_eq_true rfl) (hm_rv (by decide +kernel)) (ls' := [some _, some _]) rfl rfl ?_
                refine q_aload gg83_0 rfl ?_
                refine q_iload gg83_1 rfl ?_
                refine q_putf gg83_2 rfl ?_
                refine q_aload gg83_5 rfl ?_
                refine q_aload gg83_6 rfl ?_
                first | refine z_getf gg83_7 rfl (by first | assumption | ((repeat (first | refine up_nj (by decide) ?_ | refine up_nk (by decide) ?_ | refine row_nk (by decide) ?_)); first | assumption | exact up_at)) ?_ | refine q_getf gg83_7 rfl ?_
                refine q_putf gg83_10 rfl ?_
                refine z_const gg83_13 (v := 0) rfl ?_
                refine z_zretC gg83_14 (by omega) ?_
                refine z_zret gg78_92 (by omega) ?_
                rw [if_neg (by omega), Prod.mk.injEq, Prod.mk.injEq] at hg
                obtain ⟨rfl, rfl, rfl⟩ := hg
                exact k0 (by decide) _ (up_nj (by decide) up_at) up_at (FQ.rf.up.up.up.up)
              )
            · try (exfalso; omega)
              all_goals (
                refine q_aload gg78_79 rfl ?_
                first | refine z_getf gg78_80 rfl (by first | assumption | ((repeat (first | refine up_nj (by decide) ?_ | refine up_nk (by decide) ?_ | refine row_nk (by decide) ?_)); first | assumption | exact up_at)) ?_ | refine q_getf gg78_80 rfl ?_
                refine q_iload gg78_83 rfl ?_
                refine z_icmple gg78_84 (tg := 93) rfl (by omega) (by omega) (fun c3 => ?_) (fun c3 => ?_)
                · try (exfalso; omega)
                  all_goals (
                    refine q_aload gg78_93 rfl ?_
                    refine q_dup gg78_94 rfl ?_
                    first | refine z_getf gg78_95 rfl (by first | assumption | ((repeat (first | refine up_nj (by decide) ?_ | refine up_nk (by decide) ?_ | refine row_nk (by decide) ?_)); first | assumption | exact up_at)) ?_ | refine q_getf gg78_95 rfl ?_
                    refine q_iload gg78_98 rfl ?_
                    first | refine z_iadd gg78_99 ?_ | refine q_iadd gg78_99 ?_
                    refine q_putf gg78_100 rfl ?_
                    refine z_const gg78_103 (v := 1) rfl ?_
                    refine z_zret gg78_104 (by omega) ?_
                    rw [if_pos (by omega), Prod.mk.injEq, Prod.mk.injEq] at hg
                    obtain ⟨rfl, rfl, rfl⟩ := hg
                    refine k1 rfl _ up_at (up_nj (by decide) (up_at.trans (congrArg zI (by omega)))) (up_nj (by decide) (up_nj (by decide) (up_nj (by decide) rfl))) (FS.up (by decide) (by decide) (FS.up (by decide) (by decide) (FS.up (by decide) (by decide) FS.rf)))
                  )
                · try (exfalso; omega)
                  all_goals (
                    refine q_aload gg78_87 rfl ?_
                    refine z_const gg78_88 (v := 2) rfl ?_
                    refine q_call2 gg78_89 tt83 rfl (Nat.le_of_ble_eq_true rfl) (hm_rv (by decide +kernel)) (ls' := [some _, some _]) rfl rfl ?_
                    refine q_aload gg83_0 rfl ?_
                    refine q_iload gg83_1 rfl ?_
                    refine q_putf gg83_2 rfl ?_
                    refine q_aload gg83_5 rfl ?_
                    refine q_aload gg83_6 rfl ?_
                    first | refine z_getf gg83_7 rfl (by first | assumption | ((repeat (first | refine up_nj (by decide) ?_ | refine up_nk (by decide) ?_ | refine row_nk (by decide) ?_)); first | assumption | exact up_at)) ?_ | refine q_getf gg83_7 rfl ?_
                    refine q_putf gg83_10 rfl ?_
                    refine z_const gg83_13 (v := 0) rfl ?_
                    refine z_zretC gg83_14 (by omega) ?_
                    refine z_zret gg78_92 (by omega) ?_
                    rw [if_neg (by omega), Prod.mk.injEq, Prod.mk.injEq] at hg
                    obtain ⟨rfl, rfl, rfl⟩ := hg
                    exact k0 (by decide) _ (up_nj (by decide) up_at) up_at (FQ.rf.up.up.up.up)
                  )
              )
          · have hn : nv tp tl p = 10 * (tp p - 48) + tp (p + 1) - 48 := by unfold nv nvj; rw [if_neg (by omega), if_neg f1, pyt_lt (by omega), pyt_lt (by omega)]
            refine q_aload gg78_21 rfl ?_
            refine z_const gg78_22 (v := 0) rfl ?_
            refine q_putf gg78_23 rfl ?_
            refine q_aload gg78_26 rfl ?_
            first | refine z_getf gg78_27 rfl (by first | assumption | ((repeat (first | refine up_nj (by decide) ?_ | refine up_nk (by decide) ?_ | refine row_nk (by decide) ?_)); first | assumption | exact up_at)) ?_ | refine q_getf gg78_27 rfl ?_
            refine q_istore gg78_30 rfl ?_
            refine q_iload gg78_32 rfl ?_
            refine q_aload gg78_34 rfl ?_
            first | refine z_getf gg78_35 rfl (by first | assumption | ((repeat (first | refine up_nj (by decide) ?_ | refine up_nk (by decide) ?_ | refine row_nk (by decide) ?_)); first | assumption | exact up_at)) ?_ | refine q_getf gg78_35 rfl ?_
            refine q_iload gg78_38 rfl ?_
            first | refine z_iadd gg78_39 ?_ | refine q_iadd gg78_39 ?_
            refine z_icmpge gg78_40 (tg := 71) rfl (by omega) (by omega) (fun z => absurd z (by omega)) (fun c1 => ?_)
            refine q_aload gg78_43 rfl ?_
            refine z_const gg78_44 (v := 10) rfl ?_
            refine q_aload gg78_46 rfl ?_
            first | refine z_getf gg78_47 rfl (by first | assumption | ((repeat (first | refine up_nj (by decide) ?_ | refine up_nk (by decide) ?_ | refine row_nk (by decide) ?_)); first | assumption | exact up_at)) ?_ | refine q_getf gg78_47 rfl ?_
            first | refine z_imul gg78_50 ?_ | refine q_imul gg78_50 ?_
            refine q_aload gg78_51 rfl ?_
            refine q_getr gg78_52 rfl ?_
            refine q_iload gg78_55 rfl ?_
            first | (refine z_alr gg78_57 (by first | rfl | assumption) (by assumption) (by omega) (by omega) (by omega) (by decide) (fun v57 ev57 lv57 uv57 => ?_); try dsimp only at ev57) | (refine z_alx gg78_57 rfl (by first | assumption | ((repeat (first | refine aw_upk (by decide) ?_ | refine aw_rowk (by decide) ?_)); assumption)) (by omega) (by omega) (by first | omega | decide) (by decide) (fun v57 ev57 lv57 uv57 => ?_); try dsimp only at ev57) | refine z_alq gg78_57 rfl (by omega) (by omega) (by decide) ?_
            first | refine z_iadd gg78_58 ?_ | refine q_iadd gg78_58 ?_
            refine z_const gg78_59 (v := 48) rfl ?_
            first | refine z_isub gg78_61 ?_ | refine q_isub gg78_61 ?_
            refine q_putf gg78_62 rfl ?_
            refine z_iinc gg78_65 rfl rfl ?_
            refine q_goto gg78_68 (tg := 32) rfl ?_
            refine q_iload gg78_32 rfl ?_
            refine q_aload gg78_34 rfl ?_
            first | refine z_getf gg78_35 rfl (by first | assumption | ((repeat (first | refine up_nj (by decide) ?_ | refine up_nk (by decide) ?_ | refine row_nk (by decide) ?_)); first | assumption | exact up_at)) ?_ | refine q_getf gg78_35 rfl ?_
            refine q_iload gg78_38 rfl ?_
            first | refine z_iadd gg78_39 ?_ | refine q_iadd gg78_39 ?_
            refine z_icmpge gg78_40 (tg := 71) rfl (by omega) (by omega) (fun z => absurd z (by omega)) (fun c1 => ?_)
            refine q_aload gg78_43 rfl ?_
            refine z_const gg78_44 (v := 10) rfl ?_
            refine q_aload gg78_46 rfl ?_
            first | refine z_getf gg78_47 rfl (by first | assumption | ((repeat (first | refine up_nj (by decide) ?_ | refine up_nk (by decide) ?_ | refine row_nk (by decide) ?_)); first | assumption | exact up_at)) ?_ | refine q_getf gg78_47 rfl ?_
            first | refine z_imul gg78_50 ?_ | refine q_imul gg78_50 ?_
            refine q_aload gg78_51 rfl ?_
            refine q_getr gg78_52 rfl ?_
            refine q_iload gg78_55 rfl ?_
            first | (refine z_alr gg78_57 (by first | rfl | assumption) (by assumption) (by omega) (by omega) (by omega) (by decide) (fun v57 ev57 lv57 uv57 => ?_); try dsimp only at ev57) | (refine z_alx gg78_57 rfl (by first | assumption | ((repeat (first | refine aw_upk (by decide) ?_ | refine aw_rowk (by decide) ?_)); assumption)) (by omega) (by omega) (by first | omega | decide) (by decide) (fun v57 ev57 lv57 uv57 => ?_); try dsimp only at ev57) | refine z_alq gg78_57 rfl (by omega) (by omega) (by decide) ?_
            first | refine z_iadd gg78_58 ?_ | refine q_iadd gg78_58 ?_
            refine z_const gg78_59 (v := 48) rfl ?_
            first | refine z_isub gg78_61 ?_ | refine q_isub gg78_61 ?_
            refine q_putf gg78_62 rfl ?_
            refine z_iinc gg78_65 rfl rfl ?_
            refine q_goto gg78_68 (tg := 32) rfl ?_
            refine q_iload gg78_32 rfl ?_
            refine q_aload gg78_34 rfl ?_
            first | refine z_getf gg78_35 rfl (by first | assumption | ((repeat (first | refine up_nj (by decide) ?_ | refine up_nk (by decide) ?_ | refine row_nk (by decide) ?_)); first | assumption | exact up_at)) ?_ | refine q_getf gg78_35 rfl ?_
            refine q_iload gg78_38 rfl ?_
            first | refine z_iadd gg78_39 ?_ | refine q_iadd gg78_39 ?_
            refine z_icmpge gg78_40 (tg := 71) rfl (by omega) (by omega) (fun c1 => ?_) (fun z => absurd z (by omega))
            refine q_aload gg78_71 rfl ?_
            first | refine z_getf gg78_72 rfl (by first | assumption | ((repeat (first | refine up_nj (by decide) ?_ | refine up_nk (by decide) ?_ | refine row_nk (by decide) ?_)); first | assumption | exact up_at)) ?_ | refine q_getf gg78_72 rfl ?_
            refine q_iload gg78_75 rfl ?_
            refine z_icmplt gg78_76 (tg := 87) rfl (by omega) (by omega) (fun c2 => ?_) (fun c2 => ?_)
            · try (exfalso; omega)
              all_goals (
                refine q_aload gg78_87 rfl ?_
                refine z_const gg78_88 (v := 2) rfl ?_
                refine q_call2 gg78_89 tt83 rfl (Nat.le_of_ble_eq_true rfl) (hm_rv (by decide +kernel)) (ls' := [some _, some _]) rfl rfl ?_
                refine q_aload gg83_0 rfl ?_
                refine q_iload gg83_1 rfl ?_
                refine q_putf gg83_2 rfl ?_
                refine q_aload gg83_5 rfl ?_
                refine q_aload gg83_6 rfl ?_
                first | refine z_getf gg83_7 rfl (by first | assumption | ((repeat (first | refine up_nj (by decide) ?_ | refine up_nk (by decide) ?_ | refine row_nk (by decide) ?_)); first | assumption | exact up_at)) ?_ | refine q_getf gg83_7 rfl ?_
                refine q_putf gg83_10 rfl ?_
                refine z_const gg83_13 (v := 0) rfl ?_
                refine z_zretC gg83_14 (by omega) ?_
                refine z_zret gg78_92 (by omega) ?_
                rw [if_neg (by omega), Prod.mk.injEq, Prod.mk.injEq] at hg
                obtain ⟨rfl, rfl, rfl⟩ := hg
                exact k0 (by decide) _ (up_nj (by decide) up_at) up_at (FQ.rf.up.up.up.up.up)
              )
            · try (exfalso; omega)
              all_goals (
                refine q_aload gg78_79 rfl ?_
                first | refine z_getf gg78_80 rfl (by first | assumption | ((repeat (first | refine up_nj (by decide) ?_ | refine up_nk (by decide) ?_ | refine row_nk (by decide) ?_)); first | assumption | exact up_at)) ?_ | refine q_getf gg78_80 rfl ?_
                refine q_iload gg78_83 rfl ?_
                refine z_icmple gg78_84 (tg := 93) rfl (by omega) (by omega) (fun c3 => ?_) (fun c3 => ?_)
                · try (exfalso; omega)
                  all_goals (
                    refine q_aload gg78_93 rfl ?_
                    refine q_dup gg78_94 rfl ?_
                    first | refine z_getf gg78_95 rfl (by first | assumption | ((repeat (first | refine up_nj (by decide) ?_ | refine up_nk (by decide) ?_ | refine row_nk (by decide) ?_)); first | assumption | exact up_at)) ?_ | refine q_getf gg78_95 rfl ?_
                    refine q_iload gg78_98 rfl ?_
                    first | refine z_iadd gg78_99 ?_ | refine q_iadd gg78_99 ?_
                    refine q_putf gg78_100 rfl ?_
                    refine z_const gg78_103 (v := 1) rfl ?_
                    refine z_zret gg78_104 (by omega) ?_
                    rw [if_pos (by omega), Prod.mk.injEq, Prod.mk.injEq] at hg
                    obtain ⟨rfl, rfl, rfl⟩ := hg
                    refine k1 rfl _ up_at (up_nj (by decide) (up_at.trans (congrArg zI (by omega)))) (up_nj (by decide) (up_nj (by decide) (up_nj (by decide) (up_nj (by decide) rfl)))) (FS.up (by decide) (by decide) (FS.up (by decide) (by decide) (FS.up (by decide) (by decide) (FS.up (by decide) (by decide) FS.rf))))
                  )
                · try (exfalso; omega)
                  all_goals (
                    refine q_aload gg78_87 rfl ?_
                    refine z_const gg78_88 (v := 2) rfl ?_
                    refine q_call2 gg78_89 tt83 rfl (Nat.le_of_ble_eq_true rfl) (hm_rv (by decide +kernel)) (ls' := [some _, some _]) rfl rfl ?_
                    refine q_aload gg83_0 rfl ?_
                    refine q_iload gg83_1 rfl ?_
                    refine q_putf gg83_2 rfl ?_
                    refine q_aload gg83_5 rfl ?_
                    refine q_aload gg83_6 rfl ?_
                    first | refine z_getf gg83_7 rfl (by first | assumption | ((repeat (first | refine up_nj (by decide) ?_ | refine up_nk (by decide) ?_ | refine row_nk (by decide) ?_)); first | assumption | exact up_at)) ?_ | refine q_getf gg83_7 rfl ?_
                    refine q_putf gg83_10 rfl ?_
                    refine z_const gg83_13 (v := 0) rfl ?_
                    refine z_zretC gg83_14 (by omega) ?_
                    refine z_zret gg78_92 (by omega) ?_
                    rw [if_neg (by omega), Prod.mk.injEq, Prod.mk.injEq] at hg
                    obtain ⟨rfl, rfl, rfl⟩ := hg
                    exact k0 (by decide) _ (up_nj (by decide) up_at) up_at (FQ.rf.up.up.up.up.up)
                  )
              )
        )
      · try (exfalso; omega)
        all_goals (
          refine q_aload gg78_15 rfl ?_
          refine z_const gg78_16 (v := 1) rfl ?_
          refine q_call2 gg78_17 tt83 rfl (Nat.le_of_ble_eq_true rfl) (hm_rv (by decide +kernel)) (ls' := [some _, some _]) rfl rfl ?_
          refine q_aload gg83_0 rfl ?_
          refine q_iload gg83_1 rfl ?_
          refine q_putf gg83_2 rfl ?_
          refine q_aload gg83_5 rfl ?_
          refine q_aload gg83_6 rfl ?_
          first | refine z_getf gg83_7 rfl (by first | assumption | ((repeat (first | refine up_nj (by decide) ?_ | refine up_nk (by decide) ?_ | refine row_nk (by decide) ?_)); first | assumption | exact up_at)) ?_ | refine q_getf gg83_7 rfl ?_
          refine q_putf gg83_10 rfl ?_
          refine z_const gg83_13 (v := 0) rfl ?_
          refine z_zretC gg83_14 (by omega) ?_
          refine z_zret gg78_20 (by omega) ?_
          rw [if_pos (by omega), Prod.mk.injEq, Prod.mk.injEq] at hg
          obtain ⟨rfl, rfl, rfl⟩ := hg
          exact k0 (by decide) _ (up_nj (by decide) up_at) up_at (FQ.rf.up.up)
        )
    )
theorem c_pair (hB : pB tp tl) (hT : CT M tp tl p) (hp0 : 0 ≤ p) (hp : p ≤ tl) (hfm : 0 ≤ fm) (hfm2 : fm ≤ 100) (hlo : 0 ≤ lo) (hlo2 : lo ≤ hi) (hhi2 : hi ≤ 100) {c' p' v' u' : Int} (e : gP tp tl 0 p fm lo hi = (c', p', v', u')) (k1 : c' = 0 → ∀ M', M' 5 2 = zI p' → M' 5 4 = zI v' → M' 5 3 = zI u' → FS M M' → Q (some (.inl (zI 1))) M') (k0 : c' ≠ 0 → ∀ M', M' 5 5 = zI c' → M' 5 6 = zI p' → FQ M M' → Q (some (.inl (zI 0))) M') : hm_Wp (d + 2) 77 0 [some (.inr (.inr 5)), some (.inl (zI fm)), some (.inl (zI lo)), some (.inl (zI hi))] [] M Q := by
  have r1 := gN_R (lo := 0) (hi := fm) (c := 0) hB hp0 hp (by decide) hfm (by decide) (by decide)
  rcases e1 : gN tp tl 0 p 0 fm with ⟨c1, p1, v1⟩
  rw [e1] at r1
  dsimp only at r1
  have r2 := gS_R (s := 44) (c := c1) (k := p1) hB (by omega) (by omega) (by decide) (by omega) (by omega)
  rcases e2 : gS tp tl c1 p1 44 with ⟨c2, p2⟩
  rw [e2] at r2
  dsimp only at r2
  have r3 := gN_R (lo := lo) (hi := hi) (c := c2) (k := p2) hB (by omega) (by omega) hlo hlo2 (by omega) (by omega)
  rcases e3 : gN tp tl c2 p2 lo hi with ⟨c3, p3, v3⟩
  rw [e3] at r3
  dsimp only at r3
  have r4 := gS_R (s := 59) (c := c3) (k := p3) hB (by omega) (by omega) (by decide) (by omega) (by omega)
  rcases e4 : gS tp tl c3 p3 59 with ⟨c4, p4⟩
  rw [e4] at r4
  dsimp only at r4
  have eg : gP tp tl 0 p fm lo hi = (c4, p4, v1, v3) := by unfold gP; simp only [e1, e2, e3, e4]
  rw [eg, Prod.mk.injEq, Prod.mk.injEq, Prod.mk.injEq] at e
  obtain ⟨rfl, rfl, rfl, rfl⟩ := e
  refine q_aload gg77_0 rfl ?_
  refine z_const gg77_1 (v := 0) rfl ?_
  refine q_iload gg77_2 rfl ?_
  refine q_call3 gg77_3 tt78 rfl (Nat.le_of_ble_eq_true rfl) (hm_rv (by decide +kernel)) (ls' := [some _, some _, some _, none, none]) rfl rfl ?_
  refine c_num hB hT hp0 hp (by decide) (by decide) hfm hfm2 e1 (fun z1 M1 a2 a3 a4 aF => ?_) (fun z1 M1 a5 a6 aF => have kz := k0 (by omega) M1 (a5.trans (congrArg zI (by omega))) (a6.trans (congrArg zI (by omega))) aF; ?_)
  · show hm_Wp _ _ _ _ (_ :: _) _ _
    refine z_ifne gg77_6 (tg := 11) rfl (by decide) (fun _ => ?_) (fun z => absurd z (by decide))
    refine q_aload gg77_11 rfl ?_
    refine q_aload gg77_12 rfl ?_
    first | refine z_getf gg77_13 rfl (by first | assumption | ((repeat (first | refine up_nj (by decide) ?_ | refine up_nk (by decide) ?_ | refine row_nk (by decide) ?_)); first | assumption | exact up_at)) ?_ | refine q_getf gg77_13 rfl ?_
    refine q_putf gg77_16 rfl ?_
    subst z1
    have T1 : CT (hm_up M1 5 4 (zI v1)) tp tl p1 := hT.fs (FS.up (by decide) (by decide) aF) (up_nj (by decide) a2)
    refine q_aload gg77_19 rfl ?_
    refine z_const gg77_20 (v := 44) rfl ?_
    refine q_call2 gg77_22 tt79 rfl (Nat.le_of_ble_eq_true rfl) (hm_rv (by decide +kernel)) (ls' := [some _, some _]) rfl rfl ?_
    refine c_sign hB T1 (by omega) (by omega) (by decide) (by decide) e2 (fun z2 => ?_) (fun z2 => have kz := k0 (by omega) (hm_up (hm_up (hm_up M1 5 4 (zI v1)) 5 5 (zI c2)) 5 6 (zI p2)) (up_nj (by decide) (up_at.trans (congrArg zI (by omega)))) (up_at.trans (congrArg zI (by omega))) aF.1.up.up.up; ?_)
    · show hm_Wp _ _ _ _ (_ :: _) _ _
      refine z_ifeq gg77_25 (tg := 50) rfl (by decide) (fun z => absurd z (by decide)) (fun _ => ?_)
      subst z2
      have F2 : FS M (hm_up (hm_up M1 5 4 (zI v1)) 5 2 (zI p2)) := FS.up (by decide) (by decide) (FS.up (by decide) (by decide) aF)
      have T2 : CT (hm_up (hm_up M1 5 4 (zI v1)) 5 2 (zI p2)) tp tl p2 := hT.fs F2 up_at
      refine q_aload gg77_28 rfl ?_
      refine q_iload gg77_29 rfl ?_
      refine q_iload gg77_30 rfl ?_
      refine q_call3 gg77_31 tt78 rfl (Nat.le_of_ble_eq_true rfl) (hm_rv (by decide +kernel)) (ls' := [some _, some _, some _, none, none]) rfl rfl ?_
      refine c_num hB T2 (by omega) (by omega) (by omega) (by omega) (by omega) (by omega) e3 (fun z3 M3 b2 b3 b4 bF => ?_) (fun z3 M3 b5 b6 bF => have kz := k0 (by omega) M3 (b5.trans (congrArg zI (by omega))) (b6.trans (congrArg zI (by omega))) (F2.1.tr bF); ?_)
      · show hm_Wp _ _ _ _ (_ :: _) _ _
        refine z_ifeq gg77_34 (tg := 50) rfl (by decide) (fun z => absurd z (by decide)) (fun _ => ?_)
        subst z3
        have T3 : CT M3 tp tl p3 := T2.fs bF b2
        refine q_aload gg77_37 rfl ?_
        refine z_const gg77_38 (v := 59) rfl ?_
        refine q_call2 gg77_40 tt79 rfl (Nat.le_of_ble_eq_true rfl) (hm_rv (by decide +kernel)) (ls' := [some _, some _]) rfl rfl ?_
        refine c_sign hB T3 (by omega) (by omega) (by decide) (by decide) e4 (fun z4 => have kz := k1 z4 _ up_at (up_nj (by decide) (b4.trans (up_nj (by decide) up_at))) (up_nj (by decide) b3) (FS.up (by decide) (by decide) (F2.tr bF)); ?_) (fun z4 => have kz := k0 z4 _ (up_nj (by decide) up_at) up_at (F2.tr bF).1.up.up; ?_)
        · show hm_Wp _ _ _ _ (_ :: _) _ _
          refine z_ifeq gg77_43 (tg := 50) rfl (by decide) (fun z => absurd z (by decide)) (fun _ => ?_)
          refine z_const gg77_46 (v := 1) rfl ?_
          refine q_goto gg77_47 (tg := 51) rfl ?_
          refine z_zret gg77_51 (by omega) ?_
          exact kz
        · show hm_Wp _ _ _ _ (_ :: _) _ _
          refine z_ifeq gg77_43 (tg := 50) rfl (by decide) (fun _ => ?_) (fun z => absurd z (by decide))
          refine z_const gg77_50 (v := 0) rfl ?_
          refine z_zret gg77_51 (by omega) ?_
          exact kz
      · show hm_Wp _ _ _ _ (_ :: _) _ _
        refine z_ifeq gg77_34 (tg := 50) rfl (by decide) (fun _ => ?_) (fun z => absurd z (by decide))
        refine z_const gg77_50 (v := 0) rfl ?_
        refine z_zret gg77_51 (by omega) ?_
        exact kz
    · show hm_Wp _ _ _ _ (_ :: _) _ _
      refine z_ifeq gg77_25 (tg := 50) rfl (by decide) (fun _ => ?_) (fun z => absurd z (by decide))
      refine z_const gg77_50 (v := 0) rfl ?_
      refine z_zret gg77_51 (by omega) ?_
      exact kz
  · show hm_Wp _ _ _ _ (_ :: _) _ _
    refine z_ifne gg77_6 (tg := 11) rfl (by decide) (fun z => absurd z (by decide)) (fun _ => ?_)
    refine z_const gg77_9 (v := 0) rfl ?_
    refine z_zret gg77_10 (by omega) ?_
    exact kz
end P1
