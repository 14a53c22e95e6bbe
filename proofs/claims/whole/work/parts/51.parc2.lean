section P2
variable {d r mid pc nx k j q : Nat} {M N N' : hm_M} {tp w g : Int → Int} {tl a b c p v u s lo hi fm e kd na fk : Int} {x y : Int32} {f F : Nat → Int32} {pa : Int → Int → Int} {Q : Option hm_V → hm_M → Prop}
theorem mAdd_at {q : Int} (hb : 0 ≤ b) (q0 : 0 ≤ q) (q1 : q < 7) : mAdd w kd a s (4 + 7 * b + q) = if b = w 2 then (if q = 0 then kd else if q = 1 then a else if q = 2 then s else if q = 3 then w 2 else if q = 4 then 1 else w (4 + 7 * b + q)) else w (4 + 7 * b + q) := by
  unfold mAdd zup
  (repeat' split) <;> first | rfl | (exfalso; omega)
theorem mAdd_l {i : Int} (h2 : 0 ≤ w 2) (h : i < 4) (hi : i ≠ 2) : mAdd w kd a s i = w i := by
  unfold mAdd zup
  rw [if_neg (by omega), if_neg (by omega), if_neg (by omega), if_neg (by omega), if_neg (by omega), if_neg (by omega)]
theorem c_add (h : Hb M 12 w) (hw : mDr w) (h7 : w 2 < 7) (kd0 : 1 ≤ kd) (kd1 : kd ≤ 5) (a0 : 0 ≤ a) (a1 : a ≤ 20) (s0 : 0 ≤ s) (s1 : s ≤ 30) (kk : ∀ M', Hb M' 12 (mAdd w kd a s) → Fr 12 M M' → Q none M') : hm_Wp d 37 0 [some (.inr (.inr 12)), some (.inl (zI kd)), some (.inl (zI a)), some (.inl (zI s))] [] M Q := by
  have h01 := hw.wf.f01 (q := 4) (by decide) (by decide)
  have s4 := bsum7_lt h01
  obtain ⟨⟨h4, h5, h6, h8, h9, h10, b1, b2, b4⟩, h7', b3⟩ := h
  have hn := hw.1
  have hp := pow_lt7 (p := w 2) h7
  have hx : zor (bsum (mFlag w 4) 7) (1 * 2 ^ (w 2).toNat) = bsum (zup (mFlag w 4) (w 2) 1) 7 := by rw [Int.one_mul]; exact zor_set h01 hn.1 h7
  have e4 : bsum (zup (mFlag w 4) (w 2) 1) 7 = bsum (mFlag (mAdd w kd a s) 4) 7 := bsum_congr (fun b b0 b1 => by simp only [zup, mFlag]; rw [mAdd_at b0 (by decide) (by decide)]; (repeat' split) <;> first | rfl | omega)
  have e5 : bsum (mFlag w 5) 7 = bsum (mFlag (mAdd w kd a s) 5) 7 := bsum_congr (fun b b0 b1 => by simp only [mFlag]; rw [mAdd_at b0 (by decide) (by decide)]; (repeat' split) <;> first | rfl | omega)
  have e6 : bsum (mFlag w 6) 7 = bsum (mFlag (mAdd w kd a s) 6) 7 := bsum_congr (fun b b0 b1 => by simp only [mFlag]; rw [mAdd_at b0 (by decide) (by decide)]; (repeat' split) <;> first | rfl | omega)
  have l0 : mAdd w kd a s 0 = w 0 := mAdd_l hn.1 (by decide) (by decide)
  have l1 : mAdd w kd a s 1 = w 1 := mAdd_l hn.1 (by decide) (by decide)
  have l3 : mAdd w kd a s 3 = w 3 := mAdd_l hn.1 (by decide) (by decide)
  refine q_aload gg37_0 rfl ?_
  first | refine z_getf gg37_1 rfl (by first | assumption | ((repeat (first | refine up_nj (by decide) ?_ | refine up_nk (by decide) ?_ | refine row_nk (by decide) ?_)); first | assumption | exact up_at)) ?_ | refine q_getf gg37_1 rfl ?_
  refine z_const gg37_4 (v := 7) rfl ?_
  refine z_icmplt gg37_6 (tg := 10) rfl (by omega) (by omega) (fun c1 => ?_) (fun z => absurd z (by omega))
  refine q_aload gg37_10 rfl ?_
  refine q_getr gg37_11 rfl ?_
  refine q_aload gg37_14 rfl ?_
  first | refine z_getf gg37_15 rfl (by first | assumption | ((repeat (first | refine up_nj (by decide) ?_ | refine up_nk (by decide) ?_ | refine row_nk (by decide) ?_)); first | assumption | exact up_at)) ?_ | refine q_getf gg37_15 rfl ?_
  refine q_iload gg37_18 rfl ?_
  first | refine z_asr gg37_19 (by first | rfl | assumption) (by assumption) (by omega) (by omega) (by decide) (by omega) (by omega) (fun f19 h19 => ?_) | refine z_asx gg37_19 rfl (by omega) (by omega) (by decide) ?_ | refine z_asq gg37_19 rfl (by omega) (by omega) (by decide) ?_
  refine q_aload gg37_20 rfl ?_
  refine q_getr gg37_21 rfl ?_
  refine q_aload gg37_24 rfl ?_
  first | refine z_getf gg37_25 rfl (by first | assumption | ((repeat (first | refine up_nj (by decide) ?_ | refine up_nk (by decide) ?_ | refine row_nk (by decide) ?_)); first | assumption | exact up_at)) ?_ | refine q_getf gg37_25 rfl ?_
  refine q_iload gg37_28 rfl ?_
  first | refine z_asr gg37_29 (by first | rfl | assumption) (by assumption) (by omega) (by omega) (by decide) (by omega) (by omega) (fun f29 h29 => ?_) | refine z_asx gg37_29 rfl (by omega) (by omega) (by decide) ?_ | refine z_asq gg37_29 rfl (by omega) (by omega) (by decide) ?_
  refine q_aload gg37_30 rfl ?_
  refine q_getr gg37_31 rfl ?_
  refine q_aload gg37_34 rfl ?_
  first | refine z_getf gg37_35 rfl (by first | assumption | ((repeat (first | refine up_nj (by decide) ?_ | refine up_nk (by decide) ?_ | refine row_nk (by decide) ?_)); first | assumption | exact up_at)) ?_ | refine q_getf gg37_35 rfl ?_
  refine q_iload gg37_38 rfl ?_
  first | refine z_asr gg37_39 (by first | rfl | assumption) (by assumption) (by omega) (by omega) (by decide) (by omega) (by omega) (fun f39 h39 => ?_) | refine z_asx gg37_39 rfl (by omega) (by omega) (by decide) ?_ | refine z_asq gg37_39 rfl (by omega) (by omega) (by decide) ?_
  refine q_aload gg37_40 rfl ?_
  refine q_getr gg37_41 rfl ?_
  refine q_aload gg37_44 rfl ?_
  first | refine z_getf gg37_45 rfl (by first | assumption | ((repeat (first | refine up_nj (by decide) ?_ | refine up_nk (by decide) ?_ | refine row_nk (by decide) ?_)); first | assumption | exact up_at)) ?_ | refine q_getf gg37_45 rfl ?_
  refine q_aload gg37_48 rfl ?_
  first | refine z_getf gg37_49 rfl (by first | assumption | ((repeat (first | refine up_nj (by decide) ?_ | refine up_nk (by decide) ?_ | refine row_nk (by decide) ?_)); first | assumption | exact up_at)) ?_ | refine q_getf gg37_49 rfl ?_
  first | refine z_asr gg37_52 (by first | rfl | assumption) (by assumption) (by omega) (by omega) (by decide) (by omega) (by omega) (fun f52 h52 => ?_) | refine z_asx gg37_52 rfl (by omega) (by omega) (by decide) ?_ | refine z_asq gg37_52 rfl (by omega) (by omega) (by decide) ?_
  refine q_aload gg37_53 rfl ?_
  refine q_dup gg37_54 rfl ?_
  first | refine z_getf gg37_55 rfl (by first | assumption | ((repeat (first | refine up_nj (by decide) ?_ | refine up_nk (by decide) ?_ | refine row_nk (by decide) ?_)); first | assumption | exact up_at)) ?_ | refine q_getf gg37_55 rfl ?_
  refine z_const gg37_58 (v := 1) rfl ?_
  refine q_aload gg37_59 rfl ?_
  first | refine z_getf gg37_60 rfl (by first | assumption | ((repeat (first | refine up_nj (by decide) ?_ | refine up_nk (by decide) ?_ | refine row_nk (by decide) ?_)); first | assumption | exact up_at)) ?_ | refine q_getf gg37_60 rfl ?_
  first | refine z_ishl gg37_63 (by omega) (by omega) (by omega) (by omega) ?_ | refine z_ishl7 gg37_63 (by omega) (by omega) (fun s63 es63 => ?_) | refine q_ishl gg37_63 ?_
  refine z_ior gg37_64 s4.1 s4.2 (by omega) (by omega) ?_
  rw [hx]
  refine q_putf gg37_65 rfl ?_
  refine q_aload gg37_68 rfl ?_
  refine q_dup gg37_69 rfl ?_
  first | refine z_getf gg37_70 rfl (by first | assumption | ((repeat (first | refine up_nj (by decide) ?_ | refine up_nk (by decide) ?_ | refine row_nk (by decide) ?_)); first | assumption | exact up_at)) ?_ | refine q_getf gg37_70 rfl ?_
  refine z_const gg37_73 (v := 1) rfl ?_
  first | refine z_iadd gg37_74 ?_ | refine q_iadd gg37_74 ?_
  refine q_putf gg37_75 rfl ?_
  refine q_ret gg37_78 ?_
  refine kk _ ⟨⟨up_at.trans (congrArg zI mAdd_2.symm), by rw [l0]; exact (by first | assumption | ((repeat (first | refine up_nj (by decide) ?_ | refine up_nk (by decide) ?_ | refine row_nk (by decide) ?_)); first | assumption | exact up_at)), by rw [l1]; exact (by first | assumption | ((repeat (first | refine up_nj (by decide) ?_ | refine up_nk (by decide) ?_ | refine row_nk (by decide) ?_)); first | assumption | exact up_at)), up_nj (by decide) (up_at.trans (congrArg zI e4)), by rw [← e5]; exact (by first | assumption | ((repeat (first | refine up_nj (by decide) ?_ | refine up_nk (by decide) ?_ | refine row_nk (by decide) ?_)); first | assumption | exact up_at)), by rw [← e6]; exact (by first | assumption | ((repeat (first | refine up_nj (by decide) ?_ | refine up_nk (by decide) ?_ | refine row_nk (by decide) ?_)); first | assumption | exact up_at)), ?_, ?_, ?_⟩, by rw [l3]; exact (by first | assumption | ((repeat (first | refine up_nj (by decide) ?_ | refine up_nk (by decide) ?_ | refine row_nk (by decide) ?_)); first | assumption | exact up_at)), ?_⟩ ?_
  · rw [mAdd_2]
    show aw (upd (M 13) (w 2).toNat (zI kd)) _ _ _ _
    refine aw_eq (aw_app b1 hn.1 (by omega) (by omega)) (fun b b0 b1 => ?_)
    have := mAdd_at (w := w) (kd := kd) (a := a) (s := s) (q := 0) b0 (by decide) (by decide)
    simp only [Int.add_zero, if_true] at this
    simp only [zup]; rw [this]
  · rw [mAdd_2]
    show aw (upd (M 14) (w 2).toNat (zI a)) _ _ _ _
    refine aw_eq (aw_app b2 hn.1 (by omega) (by omega)) (fun b b0 b1 => ?_)
    simp only [zup]; rw [mAdd_at b0 (by decide) (by decide)]
    (repeat' split) <;> first | rfl | omega
  · rw [mAdd_2]
    show aw (upd (M 16) (w 2).toNat (zI (w 2))) _ _ _ _
    refine aw_eq (aw_app b4 hn.1 (by omega) (by omega)) (fun b b0 b1 => ?_)
    simp only [zup]; rw [mAdd_at b0 (by decide) (by decide)]
    (repeat' split) <;> first | rfl | omega
  · rw [mAdd_2]
    show aw (upd (M 15) (w 2).toNat (zI s)) _ _ _ _
    refine aw_eq (aw_app b3 hn.1 (by omega) (by omega)) (fun b b0 b1 => ?_)
    simp only [zup]; rw [mAdd_at b0 (by decide) (by decide)]
    (repeat' split) <;> first | rfl | omega
  · intro k hk
    simp only [hm_up]
    repeat rw [hm_row_ne _ _ (by omega)]
theorem c_law (hB : pB tp tl) (hT : CT M tp tl 0) {c' p' v' u' : Int} (e : gW0 tp tl = (c', p', v', u')) (k1 : c' = 0 → ∀ M1, M1 5 2 = zI p' → FS M M1 → Q (some (.inl (zI 1))) (hm_up (hm_up M1 12 5 (zI v')) 12 6 (zI u'))) (k0 : c' ≠ 0 → ∀ M', M' 5 5 = zI c' → M' 5 6 = zI p' → FQ M M' → Q (some (.inl (zI 0))) M') : hm_Wp (d + 3) 75 0 [some (.inr (.inr 5)), some (.inr (.inr 12))] [] M Q := by
  have hb := hB.2.1
  have hb0 := hB.1
  have hr := pyt_R (k := 0) hB (by decide)
  have t3 := hT.2.2
  rcases e0 : gS tp tl 0 0 107 with ⟨c0, p0⟩
  have hg : gS tp tl 0 0 107 = if pyt tp tl 0 = 107 then (0, 0 + 1) else (1, 0) := by unfold gS; rw [if_neg (by omega)]
  rw [e0] at hg
  unfold gW0 at e
  rw [e0] at e
  dsimp only at e
  refine q_aload gg75_0 rfl ?_
  refine q_call1 gg75_1 tt80 rfl (Nat.le_of_ble_eq_true rfl) (hm_rv (by decide +kernel)) (ls' := [some _]) rfl rfl ?_
  refine c_byte hB hT (by decide) hb0 ?_
  show hm_Wp _ _ _ _ (_ :: _) _ _
  refine z_const gg75_4 (v := 107) rfl ?_
  refine z_icmpeq gg75_6 (tg := 15) rfl (by omega) (by omega) (fun c1 => ?_) (fun c1 => ?_)
  · try (exfalso; omega)
    all_goals (
      rw [if_pos (by omega), Prod.mk.injEq] at hg
      obtain ⟨rfl, rfl⟩ := hg
      have T1 : CT (hm_up M 5 2 (zI (0 + 1))) tp tl (0 + 1) := hT.fs (FS.up (by decide) (by decide) FS.rf) up_at
      refine q_aload gg75_15 rfl ?_
      refine q_dup gg75_16 rfl ?_
      first | refine z_getf gg75_17 rfl (by first | assumption | ((repeat (first | refine up_nj (by decide) ?_ | refine up_nk (by decide) ?_ | refine row_nk (by decide) ?_)); first | assumption | exact up_at)) ?_ | refine q_getf gg75_17 rfl ?_
      refine z_const gg75_20 (v := 1) rfl ?_
      first | refine z_iadd gg75_21 ?_ | refine q_iadd gg75_21 ?_
      refine q_putf gg75_22 rfl ?_
      refine q_aload gg75_25 rfl ?_
      refine z_const gg75_26 (v := 9) rfl ?_
      refine z_const gg75_28 (v := 5) rfl ?_
      refine z_const gg75_29 (v := 60) rfl ?_
      refine q_call4 gg75_31 tt77 rfl (Nat.le_of_ble_eq_true rfl) (hm_rv (by decide +kernel)) (ls' := [some _, some _, some _, some _]) rfl rfl ?_
      refine c_pair hB T1 (by omega) (by omega) (by decide) (by decide) (by decide) (by decide) (by decide) e (fun z1 M1 a2 a4 a3 aF => ?_) (fun z1 M1 a5 a6 aF => have kz := k0 z1 M1 a5 a6 (FQ.tr FQ.rf.up aF); ?_)
      · show hm_Wp _ _ _ _ (_ :: _) _ _
        refine z_ifne gg75_34 (tg := 39) rfl (by decide) (fun _ => ?_) (fun z => absurd z (by decide))
        refine q_aload gg75_39 rfl ?_
        refine q_aload gg75_40 rfl ?_
        first | refine z_getf gg75_41 rfl (by first | assumption | ((repeat (first | refine up_nj (by decide) ?_ | refine up_nk (by decide) ?_ | refine row_nk (by decide) ?_)); first | assumption | exact up_at)) ?_ | refine q_getf gg75_41 rfl ?_
        refine q_putf gg75_44 rfl ?_
        refine q_aload gg75_47 rfl ?_
        refine q_aload gg75_48 rfl ?_
        first | refine z_getf gg75_49 rfl (by first | assumption | ((repeat (first | refine up_nj (by decide) ?_ | refine up_nk (by decide) ?_ | refine row_nk (by decide) ?_)); first | assumption | exact up_at)) ?_ | refine q_getf gg75_49 rfl ?_
        refine q_putf gg75_52 rfl ?_
        refine z_const gg75_55 (v := 1) rfl ?_
        refine z_zret gg75_56 (by omega) ?_
        exact k1 z1 M1 a2 ((FS.up (by decide) (by decide) FS.rf).tr aF)
      · show hm_Wp _ _ _ _ (_ :: _) _ _
        refine z_ifne gg75_34 (tg := 39) rfl (by decide) (fun z => absurd z (by decide)) (fun _ => ?_)
        refine z_const gg75_37 (v := 0) rfl ?_
        refine z_zret gg75_38 (by omega) ?_
        exact kz
    )
  · try (exfalso; omega)
    all_goals (
      refine q_aload gg75_9 rfl ?_
      refine z_const gg75_10 (v := 1) rfl ?_
      refine q_call2 gg75_11 tt83 rfl (Nat.le_of_ble_eq_true rfl) (hm_rv (by decide +kernel)) (ls' := [some _, some _]) rfl rfl ?_
      refine q_aload gg83_0 rfl ?_
      refine q_iload gg83_1 rfl ?_
      refine q_putf gg83_2 rfl ?_
      refine q_aload gg83_5 rfl ?_
      refine q_aload gg83_6 rfl ?_
      first | refine z_getf gg83_7 rfl (by first | assumption | ((repeat (first | refine up_nj (by decide) ?_ | refine up_nk (by decide) ?_ | refine row_nk (by decide) ?_)); first | assumption | exact up_at)) ?_ | refine q_getf gg83_7 rfl ?_
      refine q_putf gg83_10 rfl ?_
      refine z_const gg83_13 (v := 0) rfl ?_
      refine z_zretC gg83_14 (by omega) ?_
      refine z_zret gg75_14 (by omega) ?_
      rw [if_neg (by omega), Prod.mk.injEq] at hg
      obtain ⟨rfl, rfl⟩ := hg
      have r := gP_R (a := 9) (lo := 5) (hi := 60) (c := 1) (k := 0) hB (by decide) hb0 (by decide) (by decide) (by decide) (by decide) (by decide)
      rw [e] at r
      dsimp only at r
      exact k0 (by omega) _ (up_nj (by decide) (up_at.trans (congrArg zI (by omega)))) (up_at.trans (congrArg zI (by omega))) FQ.rf.up.up
    )
/-- all but the tape's own numbers and the draft is as it was -/
def FH (M M' : hm_M) : Prop := ∀ q : Nat, q ≠ 5 → (q < 12 ∨ 17 ≤ q) → M' q = M q
theorem FQ.h (h : FQ M N) : FH M N := fun q h1 _ => h q h1
theorem FH.tr (h : FH M N) (h' : FH N N') : FH M N' := fun q h1 h2 => (h' q h1 h2).trans (h q h1 h2)
theorem FH.up (h : FH M N) : FH M (hm_up N 5 j x) := fun q h1 h2 => by unfold hm_up; rw [hm_row_ne _ _ h1]; exact h q h1 h2
theorem FH.up2 (h : FH M N) : FH M (hm_up N 12 j x) := fun q h1 h2 => by unfold hm_up; rw [hm_row_ne _ _ (by omega)]; exact h q h1 h2
theorem Hb.fq (h : Hb M 12 w) (hf : FQ M N) : Hb N 12 w := h.fr (hf 12 (by decide)) (hf 13 (by decide)) (hf 14 (by decide)) (hf 15 (by decide)) (hf 16 (by decide))
theorem c_bas (hB : pB tp tl) (hT : CT M tp tl p) (hp0 : 0 ≤ p) (hp : p ≤ tl) (hH : Hb M 12 w) (hw : mDr w) {c' p' : Int} {w' : Int → Int} (e : gB tp tl 0 p w = (c', p', w')) (k1 : c' = 0 → ∀ M', CT M' tp tl p' → Hb M' 12 w' → M' 5 5 = M 5 5 → FH M M' → Q (some (.inl (zI 1))) M') (k0 : c' ≠ 0 → ∀ M', M' 5 5 = zI c' → M' 5 6 = zI p' → FH M M' → Q (some (.inl (zI 0))) M') : hm_Wp (d + 3) 76 0 [some (.inr (.inr 5)), some (.inr (.inr 12)), none] [] M Q := by
  have hb := hB.2.1
  have hr := pyt_R hB hp0
  have t3 := hT.2.2
  have hk := @kdO_R (pyt tp tl p)
  have h4 := hH.1.1
  have hn := hw.1
  rcases ep : gP tp tl 0 (p + 1) 20 0 30 with ⟨cc1, p1, v1, u1⟩
  have hg : gB tp tl 0 p w = if kdO (pyt tp tl p) = 0 then (1, p, w) else if 7 ≤ w 2 then (3, p, w) else if cc1 = 0 then (0, p1, mAdd w (kdO (pyt tp tl p)) v1 u1) else (cc1, p1, w) := by unfold gB; rw [if_neg (by omega), ep]
  rw [e] at hg
  refine q_aload gg76_0 rfl ?_
  refine q_call1 gg76_1 tt82 rfl (Nat.le_of_ble_eq_true rfl) (hm_rv (by decide +kernel)) (ls' := [some _]) rfl rfl ?_
  refine c_sort hB hT hp0 hp ?_
  show hm_Wp _ _ _ _ (_ :: _) _ _
  refine q_istore gg76_4 rfl ?_
  refine q_iload gg76_5 rfl ?_
  refine z_ifne gg76_6 (tg := 15) rfl (by omega) (fun c1 => ?_) (fun c1 => ?_)
  · try (exfalso; omega)
    all_goals (
      refine q_aload gg76_15 rfl ?_
      first | refine z_getf gg76_16 rfl (by first | assumption | ((repeat (first | refine up_nj (by decide) ?_ | refine up_nk (by decide) ?_ | refine row_nk (by decide) ?_)); first | assumption | exact up_at)) ?_ | refine q_getf gg76_16 rfl ?_
      refine z_const gg76_19 (v := 7) rfl ?_
      refine z_icmplt gg76_21 (tg := 30) rfl (by omega) (by omega) (fun c2 => ?_) (fun c2 => ?_)
      · try (exfalso; omega)
        all_goals (
          rw [if_neg (by omega), if_neg (by omega)] at hg
          have T1 : CT (hm_up M 5 2 (zI (p + 1))) tp tl (p + 1) := hT.fs (FS.up (by decide) (by decide) FS.rf) up_at
          have r := gP_R (a := 20) (lo := 0) (hi := 30) (c := 0) (k := p + 1) hB (by omega) (by omega) (by decide) (by decide) (by decide) (by decide) (by decide)
          rw [ep] at r
          dsimp only at r
          have g0 : cc1 ≠ 0 → c' = cc1 ∧ p' = p1 := fun z => by rw [if_neg z, Prod.mk.injEq, Prod.mk.injEq] at hg; exact ⟨hg.1, hg.2.1⟩
          have g1 : cc1 = 0 → c' = 0 ∧ p' = p1 ∧ w' = mAdd w (kdO (pyt tp tl p)) v1 u1 := fun z => by rw [if_pos z, Prod.mk.injEq, Prod.mk.injEq] at hg; exact hg
          clear hg
          refine q_aload gg76_30 rfl ?_
          refine q_dup gg76_31 rfl ?_
          first | refine z_getf gg76_32 rfl (by first | assumption | ((repeat (first | refine up_nj (by decide) ?_ | refine up_nk (by decide) ?_ | refine row_nk (by decide) ?_)); first | assumption | exact up_at)) ?_ | refine q_getf gg76_32 rfl ?_
          refine z_const gg76_35 (v := 1) rfl ?_
          first | refine z_iadd gg76_36 ?_ | refine q_iadd gg76_36 ?_
          refine q_putf gg76_37 rfl ?_
          refine q_aload gg76_40 rfl ?_
          refine z_const gg76_41 (v := 20) rfl ?_
          refine z_const gg76_43 (v := 0) rfl ?_
          refine z_const gg76_44 (v := 30) rfl ?_
          refine q_call4 gg76_46 tt77 rfl (Nat.le_of_ble_eq_true rfl) (hm_rv (by decide +kernel)) (ls' := [some _, some _, some _, some _]) rfl rfl ?_
          refine c_pair hB T1 (by omega) (by omega) (by decide) (by decide) (by decide) (by decide) (by decide) ep (fun z1 M1 a2 a4 a3 aF => ?_) (fun z1 M1 a5 a6 aF => have kz := k0 (by have := (g0 z1).1; omega) M1 (a5.trans (congrArg zI (g0 z1).1.symm)) (a6.trans (congrArg zI (g0 z1).2.symm)) (FQ.tr FQ.rf.up aF).h; ?_)
          · show hm_Wp _ _ _ _ (_ :: _) _ _
            refine z_ifne gg76_49 (tg := 54) rfl (by decide) (fun _ => ?_) (fun z => absurd z (by decide))
            refine q_aload gg76_54 rfl ?_
            refine q_iload gg76_55 rfl ?_
            refine q_aload gg76_56 rfl ?_
            first | refine z_getf gg76_57 rfl (by first | assumption | ((repeat (first | refine up_nj (by decide) ?_ | refine up_nk (by decide) ?_ | refine row_nk (by decide) ?_)); first | assumption | exact up_at)) ?_ | refine q_getf gg76_57 rfl ?_
            refine q_aload gg76_60 rfl ?_
            first | refine z_getf gg76_61 rfl (by first | assumption | ((repeat (first | refine up_nj (by decide) ?_ | refine up_nk (by decide) ?_ | refine row_nk (by decide) ?_)); first | assumption | exact up_at)) ?_ | refine q_getf gg76_61 rfl ?_
            refine q_call4 gg76_64 tt37 rfl (Nat.le_of_ble_eq_true rfl) (hm_rv (by decide +kernel)) (ls' := [some _, some _, some _, some _]) rfl rfl ?_
            refine c_add (hH.fq (FQ.tr FQ.rf.up aF.1)) hw (by omega) (by omega) (by omega) (by omega) (by omega) (by omega) (by omega) (fun M2 hM2 hF2 => ?_)
            show hm_Wp _ _ _ _ _ _ _
            refine z_const gg76_67 (v := 1) rfl ?_
            refine z_zret gg76_68 (by omega) ?_
            obtain ⟨y1, y2, y3⟩ := g1 z1
            subst y1 y2 y3
            have f5 := hF2 5 (by decide)
            refine k1 rfl M2 ⟨by rw [f5]; exact aF.2.1.trans T1.1, by rw [hF2 6 (by decide), aF.1 6 (by decide)]; exact T1.2.1, by rw [f5]; exact a2⟩ hM2 (by rw [f5]; exact aF.2.2.trans (up_nj (by decide) rfl)) (fun q q1 q2 => by rw [hF2 q q2, aF.1 q q1]; unfold hm_up; rw [hm_row_ne _ _ q1])
          · show hm_Wp _ _ _ _ (_ :: _) _ _
            refine z_ifne gg76_49 (tg := 54) rfl (by decide) (fun z => absurd z (by decide)) (fun _ => ?_)
            refine z_const gg76_52 (v := 0) rfl ?_
            refine z_zret gg76_53 (by omega) ?_
            exact kz
        )
      · try (exfalso; omega)
        all_goals (
          refine q_aload gg76_24 rfl ?_
          refine z_const gg76_25 (v := 3) rfl ?_
          refine q_call2 gg76_26 tt83 rfl (Nat.le_of_ble_eq_true rfl) (hm_rv (by decide +kernel)) (ls' := [some _, some _]) rfl rfl ?_
          refine q_aload gg83_0 rfl ?_
          refine q_iload gg83_1 rfl ?_
          refine q_putf gg83_2 rfl ?_
          refine q_aload gg83_5 rfl ?_
          refine q_aload gg83_6 rfl ?_
          first | refine z_getf gg83_7 rfl (by first | assumption | ((repeat (first | refine up_nj (by decide) ?_ | refine up_nk (by decide) ?_ | refine row_nk (by decide) ?_)); first | assumption | exact up_at)) ?_ | refine q_getf gg83_7 rfl ?_
          refine q_putf gg83_10 rfl ?_
          refine z_const gg83_13 (v := 0) rfl ?_
          refine z_zretC gg83_14 (by omega) ?_
          refine z_zret gg76_29 (by omega) ?_
          rw [if_neg (by omega), if_pos (by omega), Prod.mk.injEq, Prod.mk.injEq] at hg
          obtain ⟨rfl, rfl, rfl⟩ := hg
          exact k0 (by decide) _ (up_nj (by decide) up_at) up_at FQ.rf.up.up.h
        )
    )
  · try (exfalso; omega)
    all_goals (
      refine q_aload gg76_9 rfl ?_
      refine z_const gg76_10 (v := 1) rfl ?_
      refine q_call2 gg76_11 tt83 rfl (Nat.le_of_ble_eq_true rfl) (hm_rv (by decide +kernel)) (ls' := [some _, some _]) rfl rfl ?_
      refine q_aload gg83_0 rfl ?_
      refine q_iload gg83_1 rfl ?_
      refine q_putf gg83_2 rfl ?_
      refine q_aload gg83_5 rfl ?_
      refine q_aload gg83_6 rfl ?_
      first | refine z_getf gg83_7 rfl (by first | assumption | ((repeat (first | refine up_nj (by decide) ?_ | refine up_nk (by decide) ?_ | refine row_nk (by decide) ?_)); first | assumption | exact up_at)) ?_ | refine q_getf gg83_7 rfl ?_
      refine q_putf gg83_10 rfl ?_
      refine z_const gg83_13 (v := 0) rfl ?_
      refine z_zretC gg83_14 (by omega) ?_
      refine z_zret gg76_14 (by omega) ?_
      rw [if_pos (by omega), Prod.mk.injEq, Prod.mk.injEq] at hg
      obtain ⟨rfl, rfl, rfl⟩ := hg
      exact k0 (by decide) _ (up_nj (by decide) up_at) up_at FQ.rf.up.up.h
    )
theorem c_readInto (hB : pB tp tl) (h1 : M 5 1 = zI tl) (h6 : aw (M 6) tl 0 255 tp) {c' p' : Int} {w' : Int → Int} (e : gH tp tl = (c', p', w')) (k1 : c' = 0 → ∀ M', M' 5 1 = zI 0 → Hb M' 12 w' → M' 5 5 = M 5 5 → FH M M' → Q (some (.inl (zI 1))) M') (k0 : c' ≠ 0 → ∀ M', M' 5 1 = zI 0 → M' 5 5 = zI c' → M' 5 6 = zI p' → FH M M' → Q (some (.inl (zI 0))) M') : hm_Wp (d + 4) 74 0 [some (.inr (.inr 5)), some (.inr (.inr 12)), none, none] [] M Q := by
  have hb := hB.2.1
  have Lbad : ∀ (N : hm_M) (mo : Int), N 5 5 = zI c' → N 5 6 = zI p' → FH M N → c' ≠ 0 → hm_Wp (d + 4) 74 33 [some (.inr (.inr 5)), some (.inr (.inr 12)), some (.inl (zI 0)), some (.inl (zI mo))] [] N Q := by
    intro N mo n5 n6 hF hc
    refine q_iload gg74_33 rfl ?_
    refine z_ifeq gg74_34 (tg := 66) rfl (by omega) (fun c1 => ?_) (fun z => absurd z (by omega))
    refine q_aload gg74_66 rfl ?_
    refine z_const gg74_67 (v := 0) rfl ?_
    refine q_putf gg74_68 rfl ?_
    refine q_iload gg74_71 rfl ?_
    refine z_zret gg74_72 (by omega) ?_
    exact k0 hc _ up_at (up_nj (by decide) n5) (up_nj (by decide) n6) hF.up
  have Lgood : ∀ (n : Nat) (p : Int) (w : Int → Int) (N : hm_M) (mo : Int), tl - p < n → 0 ≤ mo → mo ≤ p → p ≤ tl → CT N tp tl p → Hb N 12 w → mDr w → N 5 5 = M 5 5 → FH M N → gL tp tl n (0, p, w) = (c', p', w') → hm_Wp (d + 4) 74 33 [some (.inr (.inr 5)), some (.inr (.inr 12)), some (.inl (zI 1)), some (.inl (zI mo))] [] N Q := by
    intro n
    induction n with
    | zero => intro p w N mo hn hm0 hm hp; omega
    | succ n ih =>
      intro p w N mo hn hm0 hm hp hT hH hw n5 hF hL
      obtain ⟨t1, t2, t3⟩ := id hT
      by_cases hpt : p < tl
      · rw [gL_step n rfl hpt] at hL
        have rb := gB_R (c := 0) (k := p) hB (by omega) (by omega) (by decide) (by decide) hw
        rcases eb : gB tp tl 0 p w with ⟨cb, pb, wb⟩
        rw [eb] at hL rb
        dsimp only at rb
        refine q_iload gg74_33 rfl ?_
        refine z_ifeq gg74_34 (tg := 66) rfl (by omega) (fun z => absurd z (by omega)) (fun c1 => ?_)
        refine q_aload gg74_37 rfl ?_
        first | refine z_getf gg74_38 rfl (by first | assumption | ((repeat (first | refine up_nj (by decide) ?_ | refine up_nk (by decide) ?_ | refine row_nk (by decide) ?_)); first | assumption | exact up_at)) ?_ | refine q_getf gg74_38 rfl ?_
        refine q_aload gg74_41 rfl ?_
        first | refine z_getf gg74_42 rfl (by first | assumption | ((repeat (first | refine up_nj (by decide) ?_ | refine up_nk (by decide) ?_ | refine row_nk (by decide) ?_)); first | assumption | exact up_at)) ?_ | refine q_getf gg74_42 rfl ?_
        refine z_icmpge gg74_45 (tg := 66) rfl (by omega) (by omega) (fun z => absurd z (by omega)) (fun c2 => ?_)
        refine q_iload gg74_48 rfl ?_
        refine z_const gg74_49 (v := 90) rfl ?_
        refine z_icmpge gg74_51 (tg := 66) rfl (by omega) (by omega) (fun z => absurd z (by omega)) (fun c3 => ?_)
        refine q_aload gg74_54 rfl ?_
        refine q_aload gg74_55 rfl ?_
        refine q_call2 gg74_56 tt76 rfl (Nat.le_of_ble_eq_true rfl) (hm_rv (by decide +kernel)) (ls' := [some _, some _, none]) rfl rfl ?_
        refine c_bas hB hT (by omega) hp hH hw eb (fun z1 N1 T1 H1 f5 f1 => ?_) (fun z1 N1 a5 a6 f1 => ?_)
        · show hm_Wp _ _ _ _ (_ :: _) _ _
          refine q_istore gg74_59 rfl ?_
          refine z_iinc gg74_60 rfl rfl ?_
          refine q_goto gg74_63 (tg := 33) rfl ?_
          first
            | exact ih pb wb N1 (mo + 1) (by have := rb.2.2.2.2.2.2 z1; omega) (by omega) (by have := rb.2.2.2.2.2.2 z1; omega) (by omega) T1 H1 rb.2.2.2.2.1 (f5.trans n5) (hF.tr f1) (by rw [← z1]; exact hL)
            | (rw [gL_bad n z1, Prod.mk.injEq, Prod.mk.injEq] at hL; exact Lbad N1 (mo + 1) (a5.trans (congrArg zI hL.1)) (a6.trans (congrArg zI hL.2.1)) (hF.tr f1) (by have := hL.1; omega))
        · show hm_Wp _ _ _ _ (_ :: _) _ _
          refine q_istore gg74_59 rfl ?_
          refine z_iinc gg74_60 rfl rfl ?_
          refine q_goto gg74_63 (tg := 33) rfl ?_
          first
            | exact ih pb wb N1 (mo + 1) (by have := rb.2.2.2.2.2.2 z1; omega) (by omega) (by have := rb.2.2.2.2.2.2 z1; omega) (by omega) T1 H1 rb.2.2.2.2.1 (f5.trans n5) (hF.tr f1) (by rw [← z1]; exact hL)
            | (rw [gL_bad n z1, Prod.mk.injEq, Prod.mk.injEq] at hL; exact Lbad N1 (mo + 1) (a5.trans (congrArg zI hL.1)) (a6.trans (congrArg zI hL.2.1)) (hF.tr f1) (by have := hL.1; omega))
      · rw [gL_end (n + 1) (by omega), Prod.mk.injEq, Prod.mk.injEq] at hL
        obtain ⟨rfl, rfl, rfl⟩ := hL
        refine q_iload gg74_33 rfl ?_
        refine z_ifeq gg74_34 (tg := 66) rfl (by omega) (fun z => absurd z (by omega)) (fun c1 => ?_)
        refine q_aload gg74_37 rfl ?_
        first | refine z_getf gg74_38 rfl (by first | assumption | ((repeat (first | refine up_nj (by decide) ?_ | refine up_nk (by decide) ?_ | refine row_nk (by decide) ?_)); first | assumption | exact up_at)) ?_ | refine q_getf gg74_38 rfl ?_
        refine q_aload gg74_41 rfl ?_
        first | refine z_getf gg74_42 rfl (by first | assumption | ((repeat (first | refine up_nj (by decide) ?_ | refine up_nk (by decide) ?_ | refine row_nk (by decide) ?_)); first | assumption | exact up_at)) ?_ | refine q_getf gg74_42 rfl ?_
        refine z_icmpge gg74_45 (tg := 66) rfl (by omega) (by omega) (fun c2 => ?_) (fun z => absurd z (by omega))
        refine q_aload gg74_66 rfl ?_
        refine z_const gg74_67 (v := 0) rfl ?_
        refine q_putf gg74_68 rfl ?_
        refine q_iload gg74_71 rfl ?_
        refine z_zret gg74_72 (by omega) ?_
        exact k1 rfl _ up_at (hH.fq FQ.rf.up) (up_nj (by decide) n5) hF.up
  have K : ∀ N : hm_M, CT N tp tl 0 → Hb N 12 (fun _ => 0) → N 5 5 = M 5 5 → FH M N → hm_Wp (d + 4) 74 9 [some (.inr (.inr 5)), some (.inr (.inr 12)), none, none] [] N Q := by
    intro N hT hH n5 hF
    have rw0 := gW0_R hB
    unfold gH at e
    rcases ew : gW0 tp tl with ⟨c0, p0, v0, u0⟩
    rw [ew] at rw0 e
    dsimp only at rw0 e
    have hd := mDr_law (a := v0) (c := u0) (by omega) (by omega) (by omega) (by omega)
    have rb := gB_R (c := c0) (k := p0) hB (by omega) (by omega) (by omega) (by omega) hd
    rcases eb : gB tp tl c0 p0 (mLaw v0 u0) with ⟨cb, pb, wb⟩
    rw [eb] at rb e
    dsimp only at rb
    refine q_aload gg74_9 rfl ?_
    refine q_aload gg74_10 rfl ?_
    refine q_call2 gg74_11 tt75 rfl (Nat.le_of_ble_eq_true rfl) (hm_rv (by decide +kernel)) (ls' := [some _, some _]) rfl rfl ?_
    refine c_law hB hT ew (fun z1 N1 a2 aF => ?_) (fun z1 N1 a5 a6 aF => ?_)
    · show hm_Wp _ _ _ _ (_ :: _) _ _
      refine z_ifeq gg74_14 (tg := 29) rfl (by decide) (fun z => absurd z (by decide)) (fun _ => ?_)
      subst z1
      have H1 : Hb (hm_up (hm_up N1 12 5 (zI v0)) 12 6 (zI u0)) 12 (mLaw v0 u0) := Hb_f01 (Or.inr ⟨rfl, rfl⟩) (Hb_f01 (Or.inl ⟨rfl, rfl⟩) (hH.fq aF.1))
      have T1 : CT (hm_up (hm_up N1 12 5 (zI v0)) 12 6 (zI u0)) tp tl p0 := ⟨up_nk (by decide) (up_nk (by decide) (aF.2.1.trans hT.1)), aw_upk (by decide) (aw_upk (by decide) (by rw [aF.1 6 (by decide)]; exact hT.2.1)), up_nk (by decide) (up_nk (by decide) a2)⟩
      have n5' : hm_up (hm_up N1 12 5 (zI v0)) 12 6 (zI u0) 5 5 = M 5 5 := aF.2.2.trans n5
      have F1 : FH M (hm_up (hm_up N1 12 5 (zI v0)) 12 6 (zI u0)) := (hF.tr aF.1.h).up2.up2
      refine q_aload gg74_17 rfl ?_
      refine q_aload gg74_18 rfl ?_
      refine q_call2 gg74_19 tt76 rfl (Nat.le_of_ble_eq_true rfl) (hm_rv (by decide +kernel)) (ls' := [some _, some _, none]) rfl rfl ?_
      refine c_bas hB T1 (by omega) (by omega) H1 hd eb (fun z2 N2 T2 H2 f5 f1 => ?_) (fun z2 N2 b5 b6 f1 => ?_)
      · show hm_Wp _ _ _ _ (_ :: _) _ _
        refine z_ifeq gg74_22 (tg := 29) rfl (by decide) (fun z => absurd z (by decide)) (fun _ => ?_)
        refine z_const gg74_25 (v := 1) rfl ?_
        refine q_goto gg74_26 (tg := 30) rfl ?_
        refine q_istore gg74_30 rfl ?_
        refine z_const gg74_31 (v := 0) rfl ?_
        refine q_istore gg74_32 rfl ?_
        first
          | exact Lgood 91 pb wb N2 0 (by omega) (by omega) (by omega) (by omega) T2 H2 rb.2.2.2.2.1 (f5.trans n5') (F1.tr f1) (by rw [← z2]; exact e)
          | (rw [gL_bad 91 z2, Prod.mk.injEq, Prod.mk.injEq] at e; exact Lbad N2 0 (b5.trans (congrArg zI e.1)) (b6.trans (congrArg zI e.2.1)) (F1.tr f1) (by have := e.1; omega))
      · show hm_Wp _ _ _ _ (_ :: _) _ _
        refine z_ifeq gg74_22 (tg := 29) rfl (by decide) (fun _ => ?_) (fun z => absurd z (by decide))
        refine z_const gg74_29 (v := 0) rfl ?_
        refine q_istore gg74_30 rfl ?_
        refine z_const gg74_31 (v := 0) rfl ?_
        refine q_istore gg74_32 rfl ?_
        first
          | exact Lgood 91 pb wb N2 0 (by omega) (by omega) (by omega) (by omega) T2 H2 rb.2.2.2.2.1 (f5.trans n5') (F1.tr f1) (by rw [← z2]; exact e)
          | (rw [gL_bad 91 z2, Prod.mk.injEq, Prod.mk.injEq] at e; exact Lbad N2 0 (b5.trans (congrArg zI e.1)) (b6.trans (congrArg zI e.2.1)) (F1.tr f1) (by have := e.1; omega))
    · show hm_Wp _ _ _ _ (_ :: _) _ _
      refine z_ifeq gg74_14 (tg := 29) rfl (by decide) (fun _ => ?_) (fun z => absurd z (by decide))
      refine z_const gg74_29 (v := 0) rfl ?_
      refine q_istore gg74_30 rfl ?_
      refine z_const gg74_31 (v := 0) rfl ?_
      refine q_istore gg74_32 rfl ?_
      unfold gB at eb
      rw [if_pos z1, Prod.mk.injEq, Prod.mk.injEq] at eb
      rw [gL_bad 91 (by have := eb.1; omega), Prod.mk.injEq, Prod.mk.injEq] at e
      exact Lbad N1 0 (a5.trans (congrArg zI (eb.1.trans e.1))) (a6.trans (congrArg zI (eb.2.1.trans e.2.1))) (hF.tr aF.h) (by have := eb.1; have := e.1; omega)
  refine q_aload gg74_0 rfl ?_
  refine z_const gg74_1 (v := 0) rfl ?_
  refine q_putf gg74_2 rfl ?_
  refine q_aload gg74_5 rfl ?_
  refine q_call1 gg74_6 tt36 rfl (Nat.le_of_ble_eq_true rfl) (hm_rv (by decide +kernel)) (ls' := [some _]) rfl rfl ?_
  refine q_aload gg36_0 rfl ?_
  refine z_const gg36_1 (v := 0) rfl ?_
  refine q_putf gg36_2 rfl ?_
  refine q_aload gg36_5 rfl ?_
  refine z_const gg36_6 (v := 0) rfl ?_
  refine q_putf gg36_7 rfl ?_
  refine q_aload gg36_10 rfl ?_
  refine z_const gg36_11 (v := 0) rfl ?_
  refine q_putf gg36_12 rfl ?_
  refine q_aload gg36_15 rfl ?_
  refine z_const gg36_16 (v := 0) rfl ?_
  refine q_putf gg36_17 rfl ?_
  refine q_aload gg36_20 rfl ?_
  refine z_const gg36_21 (v := 0) rfl ?_
  refine q_putf gg36_22 rfl ?_
  refine q_aload gg36_25 rfl ?_
  refine z_const gg36_26 (v := 0) rfl ?_
  refine q_putf gg36_27 rfl ?_
  refine q_aload gg36_30 rfl ?_
  refine z_const gg36_31 (v := 0) rfl ?_
  refine q_putf gg36_32 rfl ?_
  refine q_retC gg36_35 ?_
  refine K _ ⟨(by first | assumption | ((repeat (first | refine up_nj (by decide) ?_ | refine up_nk (by decide) ?_ | refine row_nk (by decide) ?_)); first | assumption | exact up_at)), (by first | assumption | ((repeat (first | refine aw_upk (by decide) ?_ | refine aw_rowk (by decide) ?_)); assumption)), (by first | assumption | ((repeat (first | refine up_nj (by decide) ?_ | refine up_nk (by decide) ?_ | refine row_nk (by decide) ?_)); first | assumption | exact up_at))⟩ ⟨⟨(by first | assumption | ((repeat (first | refine up_nj (by decide) ?_ | refine up_nk (by decide) ?_ | refine row_nk (by decide) ?_)); first | assumption | exact up_at)), (by first | assumption | ((repeat (first | refine up_nj (by decide) ?_ | refine up_nk (by decide) ?_ | refine row_nk (by decide) ?_)); first | assumption | exact up_at)), (by first | assumption | ((repeat (first | refine up_nj (by decide) ?_ | refine up_nk (by decide) ?_ | refine row_nk (by decide) ?_)); first | assumption | exact up_at)), ?_, ?_, ?_, ?_, ?_, ?_⟩, (by first | assumption | ((repeat (first | refine up_nj (by decide) ?_ | refine up_nk (by decide) ?_ | refine row_nk (by decide) ?_)); first | assumption | exact up_at)), ?_⟩ ?_ ?_
  · rw [show bsum (mFlag (fun _ => 0) 4) 7 = 0 from rfl]; exact (by first | assumption | ((repeat (first | refine up_nj (by decide) ?_ | refine up_nk (by decide) ?_ | refine row_nk (by decide) ?_)); first | assumption | exact up_at))
  · rw [show bsum (mFlag (fun _ => 0) 5) 7 = 0 from rfl]; exact (by first | assumption | ((repeat (first | refine up_nj (by decide) ?_ | refine up_nk (by decide) ?_ | refine row_nk (by decide) ?_)); first | assumption | exact up_at))
  · rw [show bsum (mFlag (fun _ => 0) 6) 7 = 0 from rfl]; exact (by first | assumption | ((repeat (first | refine up_nj (by decide) ?_ | refine up_nk (by decide) ?_ | refine row_nk (by decide) ?_)); first | assumption | exact up_at))
  · intro i i0 i1; exact absurd i1 (by dsimp only; omega)
  · intro i i0 i1; exact absurd i1 (by dsimp only; omega)
  · intro i i0 i1; exact absurd i1 (by dsimp only; omega)
  · intro i i0 i1; exact absurd i1 (by dsimp only; omega)
  · rfl
  · exact (FQ.rf.up.h).up2.up2.up2.up2.up2.up2.up2
theorem c_hob (hB : pB tp tl) (hT : TC M tp tl fk) (hA : AC M pa na) {c' p' : Int} {w' : Int → Int} (e : gH tp tl = (c', p', w')) (k0 : c' ≠ 0 → ∀ M', TC M' tp 0 c' → FH M M' → Q (some (.inl (zI (-1000100 - p')))) M') (k1 : c' = 0 → ∀ M', TC M' tp 0 fk → Hb M' 7 w' → AC M' pa 0 → (∀ q, q ≠ 5 → (q < 7 ∨ 17 ≤ q) → q ≠ 17 → M' q = M q) → Q (some (.inl (zI (w' 2)))) M') : hm_Wp (d + 6) 89 0 [some (.inr (.inr 0))] [] M Q := by
  obtain ⟨t1, t2, t3⟩ := hT
  obtain ⟨nx, n0, n1, f1, f2, f3⟩ := hA
  have rg := gH_R hB
  rw [e] at rg
  dsimp only at rg
  have hdw := rg.2.2.2.2.1.1
  refine q_aload gg89_0 rfl ?_
  refine q_getr gg89_1 rfl ?_
  refine q_aload gg89_4 rfl ?_
  refine q_getr gg89_5 rfl ?_
  refine q_call2 gg89_8 tt74 rfl (Nat.le_of_ble_eq_true rfl) (hm_rv (by decide +kernel)) (ls' := [some _, some _, none, none]) rfl rfl ?_
  refine c_readInto hB t1 t2 e (fun z1 M1 a1 aH a5 aF => ?_) (fun z1 M1 a1 a5 a6 aF => ?_)
  · show hm_Wp _ _ _ _ (_ :: _) _ _
    refine z_ifne gg89_11 (tg := 25) rfl (by decide) (fun _ => ?_) (fun z => absurd z (by decide))
    refine q_aload gg89_25 rfl ?_
    refine q_getr gg89_26 rfl ?_
    refine q_aload gg89_29 rfl ?_
    refine q_getr gg89_30 rfl ?_
    refine q_call2 gg89_33 tt38 rfl (Nat.le_of_ble_eq_true rfl) (hm_rv (by decide +kernel)) (ls' := [some _, some _]) rfl rfl ?_
    refine c_takeFrom (Or.inr ⟨rfl, rfl⟩) aH hdw.2 (fun M2 bH bF => ?_)
    have g4 := bH.1.1
    show hm_Wp _ _ _ _ _ _ _
    refine q_aload gg89_36 rfl ?_
    refine q_getr gg89_37 rfl ?_
    refine q_call1 gg89_40 tt2 rfl (Nat.le_of_ble_eq_true rfl) (hm_rv (by decide +kernel)) (ls' := [some _]) rfl rfl ?_
    refine q_aload gg2_0 rfl ?_
    refine z_const gg2_1 (v := 0) rfl ?_
    refine q_putf gg2_2 rfl ?_
    refine q_retC gg2_5 ?_
    refine q_aload gg89_43 rfl ?_
    refine q_getr gg89_44 rfl ?_
    first | refine z_getf gg89_47 rfl (by first | assumption | ((repeat (first | refine up_nj (by decide) ?_ | refine up_nk (by decide) ?_ | refine row_nk (by decide) ?_)); first | assumption | exact up_at)) ?_ | refine q_getf gg89_47 rfl ?_
    refine q_iret gg89_50 ?_
    refine k1 z1 _ ⟨up_nk (by decide) (by rw [bF 5 (by decide)]; exact a1), fun i i0 i1 => absurd i1 (by omega), up_nk (by decide) (by rw [bF 5 (by decide)]; exact a5.trans t3)⟩ (bH.fr rfl rfl rfl rfl rfl) ⟨nx, n0, n1, up_nj (by decide) (by rw [bF 17 (by decide), aF 17 (by decide) (by decide)]; exact f1), up_at, fun j j0 j1 => absurd j1 (by omega)⟩ (fun q q1 q2 q3 => ?_)
    unfold hm_up
    rw [hm_row_ne _ _ q3, bF q (by omega), aF q q1 (by omega)]
  · show hm_Wp _ _ _ _ (_ :: _) _ _
    refine z_ifne gg89_11 (tg := 25) rfl (by decide) (fun z => absurd z (by decide)) (fun _ => ?_)
    refine z_neg gg89_14 ?_
    refine q_aload gg89_16 rfl ?_
    refine q_getr gg89_17 rfl ?_
    refine q_call1 gg89_20 tt72 rfl (Nat.le_of_ble_eq_true rfl) (hm_rv (by decide +kernel)) (ls' := [some _]) rfl rfl ?_
    refine q_aload gg72_0 rfl ?_
    first | refine z_getf gg72_1 rfl (by first | assumption | ((repeat (first | refine up_nj (by decide) ?_ | refine up_nk (by decide) ?_ | refine row_nk (by decide) ?_)); first | assumption | exact up_at)) ?_ | refine q_getf gg72_1 rfl ?_
    refine q_iretC gg72_4 ?_
    first | refine z_isub gg89_23 ?_ | refine q_isub gg89_23 ?_
    refine q_iret gg89_24 ?_
    exact k0 z1 M1 ⟨a1, fun i i0 i1 => absurd i1 (by omega), a5⟩ aF
end P2
