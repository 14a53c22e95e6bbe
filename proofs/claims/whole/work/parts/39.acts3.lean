section A3
variable {d r mid pc nx k : Nat} {M N : hm_M} {w v w0 g : Int → Int} {b n e x a s y c q i p na nxt : Int} {f F : Nat → Int32} {pa im : Int → Int → Int} {Q : Option hm_V → hm_M → Prop}
theorem AC.cg {M M' : hm_M} (h : AC M pa na) (h1 : M' 17 = M 17) (h2 : M' 18 = M 18) : AC M' pa na := by unfold AC; rw [h1, h2]; exact h
theorem AR.cg {M M' : hm_M} (h : AR M pa na) (h1 : M' 30 17 = M 30 17) (h2 : M' 39 = M 39) : AR M' pa na := by unfold AR; rw [h1, h2]; exact h
def FA (M M' : hm_M) : Prop := ∀ k : Nat, (k < 7 ∨ 11 < k) → k ≠ 17 → k ≠ 18 → M' k = M k
def FAR (M M' : hm_M) : Prop := (∀ k : Nat, k ≠ 30 → k ≠ 36 → k ≠ 39 → M' k = M k) ∧ ∀ j : Nat, j ≠ 17 → M' 30 j = M 30 j
theorem FA.rf : FA M M := fun _ _ _ _ => rfl
theorem FAR.rf : FAR M M := ⟨fun _ _ _ _ => rfl, fun _ _ => rfl⟩
theorem FA.tr {M N P : hm_M} (h1 : FA M N) (h2 : FA N P) : FA M P := fun k a b c => (h2 k a b c).trans (h1 k a b c)
theorem FAR.tr {M N P : hm_M} (h1 : FAR M N) (h2 : FAR N P) : FAR M P := ⟨fun k a b c => (h2.1 k a b c).trans (h1.1 k a b c), fun j hj => (h2.2 j hj).trans (h1.2 j hj)⟩
theorem FA.kp {M N : hm_M} (h : ∀ k, k ≠ 17 → k ≠ 18 → N k = M k) : FA M N := fun k _ b c => h k b c
theorem FA.fr {M N : hm_M} (h : Fr 7 M N) : FA M N := fun k a _ _ => h k (by omega)
theorem FAR.nt {M N : hm_M} (h1 : ∀ k, k ≠ 30 → k ≠ 39 → N k = M k) (h2 : ∀ j, j ≠ 17 → N 30 j = M 30 j) : FAR M N := ⟨fun k a _ c => h1 k a c, h2⟩
theorem FAR.row : FAR M (hm_row M 36 f) := ⟨fun k _ b _ => hm_row_ne M f b, fun j _ => by rw [hm_row_ne _ _ (by decide)]⟩
theorem Hb.kp {M N : hm_M} (hb : Hb M 7 w) (h : ∀ k, k ≠ 17 → k ≠ 18 → N k = M k) : Hb N 7 w := hb.fr (h 7 (by decide) (by decide)) (h 8 (by decide) (by decide)) (h 9 (by decide) (by decide)) (h 10 (by decide) (by decide)) (h 11 (by decide) (by decide))
theorem mPass_1 (w : Int → Int) : mPass w 1 = w 1 := by
  unfold mPass
  simp only [zup]
  rw [if_neg (by decide), (mKeep_rounds 7 _).2.1]
  simp only [mSwellTo]; rw [if_neg (by omega)]
theorem gW_pass (h : gW w) (h3 : w 3 + 1 ≤ 9999) : gW (mPass w) := ⟨mWf_pass h.1 (by omega), by rw [mPass_2, mPass_1]; exact h.2.1, by rw [mPass_3]; omega⟩
/-! hours -/
def okH (w : Int → Int) (n : Int) : Prop := w 2 ≠ 0 ∧ 1 ≤ n ∧ n ≤ 24 ∧ w 3 + n ≤ 9999
noncomputable def hPa : Nat → (Int → Int) → (Int → Int → Int) → Int → (Int → Int → Int)
  | 0, _, pa, _ => pa
  | m + 1, w, pa, na => hPa m (mPass w) (paK pa na w) (naK na)
def hNa : Nat → Int → Int
  | 0, na => na
  | m + 1, na => hNa m (naK na)
theorem hh_wf : ∀ (m : Nat) {w : Int → Int} {pa : Int → Int → Int} {na : Int}, gW w → AW pa na → w 3 + m ≤ 9999 → gW (mIt m w) ∧ AW (hPa m w pa na) (hNa m na)
  | 0, _, _, _, h1, h2, _ => ⟨h1, h2⟩
  | m + 1, w, pa, na, h1, h2, h3 => hh_wf m (gW_pass h1 (by omega)) (AW_K h2 h1) (by rw [mPass_3]; omega)
noncomputable def aHours (w : Int → Int) (n : Int) : Int := if w 2 = 0 then -1000002 else if 1 ≤ n ∧ n ≤ 24 then (if w 3 + n ≤ 9999 then bsum (mFlag (mIt n.toNat w) 5) 7 else -1000003) else -1000001
theorem aHours_y (h : okH w n) : aHours w n = bsum (mFlag (mIt n.toNat w) 5) 7 := by unfold aHours; rw [if_neg h.1, if_pos ⟨h.2.1, h.2.2.1⟩, if_pos h.2.2.2]
theorem c_hours (hz : zR n) (h : Hb M 7 w) (hw : gW w) (hA : AC M pa na) (hW : AW pa na) (k0 : ¬ okH w n → Q (some (.inl (zI (aHours w n)))) M) (k1 : okH w n → ∀ M', Hb M' 7 (mIt n.toNat w) → AC M' (hPa n.toNat w pa na) (hNa n.toNat na) → FA M M' → Q (some (.inl (zI (aHours w n)))) M') : hm_Wp (d + 6) 91 0 [some (.inr (.inr 0)), some (.inl (zI n)), none] [] M Q := by
  have hn := hw.1.1.1
  have h4 := h.1.1
  have h7 := h.2.1
  have hb3 := hw.1.2.1 3 (by decide) (by decide)
  unfold zR at hz
  have L : okH w n → ∀ (m : Nat) (j : Int) (N : hm_M) (v : Int → Int) (pv : Int → Int → Int) (nv : Int), 0 ≤ j → j + m = n → Hb N 7 v → gW v → v 3 + m ≤ 9999 → AC N pv nv → AW pv nv → FA M N → mIt m v = mIt n.toNat w → hPa m v pv nv = hPa n.toNat w pa na → hNa m nv = hNa n.toNat na → hm_Wp (d + 6) 91 47 [some (.inr (.inr 0)), some (.inl (zI n)), some (.inl (zI j))] [] N Q := by
    intro hok m
    have hE := aHours_y hok
    induction m with
    | zero =>
      intro j N v pv nv hj0 hjm hN hv hv3 hAN hWN hfa e1 e2 e3
      simp only [mIt, hPa, hNa] at e1 e2 e3
      have kq := k1 hok N (e1 ▸ hN) (e2 ▸ e3 ▸ hAN) hfa
      rw [hE, ← e1] at kq
      have h9 := hN.1.2.2.2.2.1
      refine q_iload gg91_47 rfl ?_
      refine q_iload gg91_48 rfl ?_
      refine z_icmpge gg91_49 (tg := 77) rfl (by omega) (by omega) (fun c1 => ?_) (fun z => absurd z (by omega))
      refine q_aload gg91_77 rfl ?_
      refine q_getr gg91_78 rfl ?_
      first | refine z_getf gg91_81 rfl (by assumption) ?_ | refine q_getf gg91_81 rfl ?_
      refine q_iret gg91_84 ?_
      exact kq
    | succ m ih =>
      intro j N v pv nv hj0 hjm hN hv hv3 hAN hWN hfa e1 e2 e3
      simp only [mIt, hPa, hNa] at e1 e2 e3
      refine q_iload gg91_47 rfl ?_
      refine q_iload gg91_48 rfl ?_
      refine z_icmpge gg91_49 (tg := 77) rfl (by omega) (by omega) (fun z => absurd z (by omega)) (fun c1 => ?_)
      refine q_aload gg91_52 rfl ?_
      refine q_getr gg91_53 rfl ?_
      refine q_aload gg91_56 rfl ?_
      refine q_getr gg91_57 rfl ?_
      refine q_call2 gg91_60 tt0 rfl (Nat.le_of_ble_eq_true rfl) (hm_rv (by decide +kernel)) (ls' := [some _, some _]) rfl rfl ?_
      refine c_keep hN hv hAN hWN (fun M1 hA1 hf1 => ?_)
      show hm_Wp _ _ _ _ _ _ _
      refine q_aload gg91_63 rfl ?_
      refine q_getr gg91_64 rfl ?_
      refine q_call1 gg91_67 tt43 rfl (Nat.le_of_ble_eq_true rfl) (hm_rv (by decide +kernel)) (ls' := [some _, none, none, none]) rfl rfl ?_
      refine c_boil (by omega) (hN.kp hf1) hv.1 (by omega) (fun M2 G1 hM2 hfr2 hG1 => ?_)
      show hm_Wp _ _ _ _ (_ :: _) _ _
      refine q_pop gg91_70 rfl ?_
      refine z_iinc gg91_71 rfl rfl ?_
      refine q_goto gg91_74 (tg := 47) rfl ?_
      exact ih (j + 1) M2 (mPass v) _ _ (by omega) (by omega) hM2 (gW_pass hv (by omega)) (by rw [mPass_3]; omega) (hA1.cg (hfr2 17 (by omega)) (hfr2 18 (by omega))) (AW_K hWN hv) ((hfa.tr (FA.kp hf1)).tr (FA.fr hfr2)) e1 e2 e3
  refine q_aload gg91_0 rfl ?_
  refine q_getr gg91_1 rfl ?_
  refine q_call1 gg91_4 tt31 rfl (Nat.le_of_ble_eq_true rfl) (hm_rv (by decide +kernel)) (ls' := [some _]) rfl rfl ?_
  refine q_aload gg31_0 rfl ?_
  first | refine z_getf gg31_1 rfl (by assumption) ?_ | refine q_getf gg31_1 rfl ?_
  refine z_ifne gg31_4 (tg := 11) rfl (by omega) (fun c1 => ?_) (fun c1 => ?_)
  · try (exfalso; omega)
    all_goals (
      refine z_const gg31_11 (v := 0) rfl ?_
      refine z_zretC gg31_12 (by omega) ?_
      refine z_ifeq gg91_7 (tg := 13) rfl (by decide) (fun _ => ?_) (fun z => absurd z (by decide))
      refine q_iload gg91_13 rfl ?_
      refine z_const gg91_14 (v := 1) rfl ?_
      refine z_icmplt gg91_15 (tg := 24) rfl (by omega) (by omega) (fun c2 => ?_) (fun c2 => ?_)
      · try (exfalso; omega)
        all_goals (
          refine z_neg gg91_24 ?_
          refine q_iret gg91_26 ?_
          refine qv ?_ (k0 (by unfold okH; omega))
          unfold aHours
          first | (rw [if_pos (by omega)]; done) | (rw [if_neg (by omega), if_neg (by omega)]; done) | (rw [if_neg (by omega), if_pos (by omega), if_neg (by omega)]; done)
        )
      · try (exfalso; omega)
        all_goals (
          refine q_iload gg91_18 rfl ?_
          refine z_const gg91_19 (v := 24) rfl ?_
          refine z_icmple gg91_21 (tg := 27) rfl (by omega) (by omega) (fun c3 => ?_) (fun c3 => ?_)
          · try (exfalso; omega)
            all_goals (
              refine q_aload gg91_27 rfl ?_
              refine q_getr gg91_28 rfl ?_
              first | refine z_getf gg91_31 rfl (by assumption) ?_ | refine q_getf gg91_31 rfl ?_
              refine z_const gg91_34 (v := 9999) rfl ?_
              refine q_iload gg91_37 rfl ?_
              first | refine z_isub gg91_38 ?_ | refine q_isub gg91_38 ?_
              refine z_icmple gg91_39 (tg := 45) rfl (by omega) (by omega) (fun c4 => ?_) (fun c4 => ?_)
              · try (exfalso; omega)
                all_goals (
                  refine z_const gg91_45 (v := 0) rfl ?_
                  refine q_istore gg91_46 rfl ?_
                  exact L ⟨by omega, by omega, by omega, by omega⟩ n.toNat 0 M w pa na (by decide) (by omega) h hw (by omega) hA hW FA.rf rfl rfl rfl
                )
              · try (exfalso; omega)
                all_goals (
                  refine z_neg gg91_42 ?_
                  refine q_iret gg91_44 ?_
                  refine qv ?_ (k0 (by unfold okH; omega))
                  unfold aHours
                  first | (rw [if_pos (by omega)]; done) | (rw [if_neg (by omega), if_neg (by omega)]; done) | (rw [if_neg (by omega), if_pos (by omega), if_neg (by omega)]; done)
                )
            )
          · try (exfalso; omega)
            all_goals (
              refine z_neg gg91_24 ?_
              refine q_iret gg91_26 ?_
              refine qv ?_ (k0 (by unfold okH; omega))
              unfold aHours
              first | (rw [if_pos (by omega)]; done) | (rw [if_neg (by omega), if_neg (by omega)]; done) | (rw [if_neg (by omega), if_pos (by omega), if_neg (by omega)]; done)
            )
        )
    )
  · try (exfalso; omega)
    all_goals (
      refine z_const gg31_7 (v := 1) rfl ?_
      refine q_goto gg31_8 (tg := 12) rfl ?_
      refine z_zretC gg31_12 (by omega) ?_
      refine z_ifeq gg91_7 (tg := 13) rfl (by decide) (fun z => absurd z (by decide)) (fun _ => ?_)
      refine z_neg gg91_10 ?_
      refine q_iret gg91_12 ?_
      refine qv ?_ (k0 (by unfold okH; omega))
      unfold aHours
      first | (rw [if_pos (by omega)]; done) | (rw [if_neg (by omega), if_neg (by omega)]; done) | (rw [if_neg (by omega), if_pos (by omega), if_neg (by omega)]; done)
    )
theorem r_hours (hz : zR n) (hf : aw (M 36) 53 0 20000 w) (hw : gW w) (hA : AR M pa na) (hW : AW pa na) (k0 : ¬ okH w n → Q (some (.inl (zI (aHours w n)))) M) (k1 : okH w n → ∀ M', aw (M' 36) 53 0 20000 (mIt n.toNat w) → AR M' (hPa n.toNat w pa na) (hNa n.toNat na) → FAR M M' → Q (some (.inl (zI (aHours w n)))) M') : hm_Wp (d + 6) 166 0 [some (.inr (.inr 30)), some (.inl (zI n)), none] [] M Q := by
  have hn := hw.1.1.1
  have hc := hw.2.1
  have hb3 := hw.1.2.1 3 (by decide) (by decide)
  unfold zR at hz
  have L : okH w n → ∀ (m : Nat) (j : Int) (N : hm_M) (v : Int → Int) (pv : Int → Int → Int) (nv : Int), 0 ≤ j → j + m = n → aw (N 36) 53 0 20000 v → gW v → v 3 + m ≤ 9999 → AR N pv nv → AW pv nv → FAR M N → mIt m v = mIt n.toNat w → hPa m v pv nv = hPa n.toNat w pa na → hNa m nv = hNa n.toNat na → hm_Wp (d + 6) 166 42 [some (.inr (.inr 30)), some (.inl (zI n)), some (.inl (zI j))] [] N Q := by
    intro hok m
    have hE := aHours_y hok
    induction m with
    | zero =>
      intro j N v pv nv hj0 hjm hN hv hv3 hAN hWN hfa e1 e2 e3
      simp only [mIt, hPa, hNa] at e1 e2 e3
      have kq := k1 hok N (e1 ▸ hN) (e2 ▸ e3 ▸ hAN) hfa
      rw [hE, ← e1] at kq
      refine q_iload gg166_42 rfl ?_
      refine q_iload gg166_43 rfl ?_
      refine z_icmpge gg166_44 (tg := 64) rfl (by omega) (by omega) (fun c1 => ?_) (fun z => absurd z (by omega))
      refine q_aload gg166_64 rfl ?_
      refine q_getr gg166_65 rfl ?_
      refine z_const gg166_68 (v := 5) rfl ?_
      refine q_call2 gg166_69 tt156 rfl (Nat.le_of_ble_eq_true rfl) rfl (ls' := [some _, some _, none, none]) rfl rfl ?_
      refine hm_Wp.eqM (hm_row_self N 36).symm ?_
      refine r_areSo rfl hN hv.1.1.1.1 hv.1.1.1.2 (by decide) (by decide) (hv.1.f01 (by decide) (by decide)) ?_
      rw [wf_bs hv.1 (by decide) (by decide), hm_row_self]
      show hm_Wp _ _ _ _ (_ :: _) _ _
      refine q_iret gg166_72 ?_
      exact kq
    | succ m ih =>
      intro j N v pv nv hj0 hjm hN hv hv3 hAN hWN hfa e1 e2 e3
      simp only [mIt, hPa, hNa] at e1 e2 e3
      refine q_iload gg166_42 rfl ?_
      refine q_iload gg166_43 rfl ?_
      refine z_icmpge gg166_44 (tg := 64) rfl (by omega) (by omega) (fun z => absurd z (by omega)) (fun c1 => ?_)
      refine q_aload gg166_47 rfl ?_
      refine q_call1 gg166_48 tt165 rfl (Nat.le_of_ble_eq_true rfl) (hm_rv (by decide +kernel)) (ls' := [some _, none]) rfl rfl ?_
      refine r_notes hN hAN hWN (fun M1 hA1 hf1 hf2 => ?_)
      show hm_Wp _ _ _ _ _ _ _
      refine q_aload gg166_51 rfl ?_
      refine q_getr gg166_52 rfl ?_
      refine q_call1 gg166_55 tt162 rfl (Nat.le_of_ble_eq_true rfl) rfl (ls' := [some _, none]) rfl rfl ?_
      refine hm_Wp.eqM (hm_row_self M1 36).symm ?_
      refine r_passes rfl (show aw (M1 36) 53 0 20000 v by rw [hf1 36 (by decide) (by decide)]; exact hN) hv.1.1 (by omega) (fun f2 hf2' => ?_)
      show hm_Wp _ _ _ _ _ _ _
      refine z_iinc gg166_58 rfl rfl ?_
      refine q_goto gg166_61 (tg := 42) rfl ?_
      exact ih (j + 1) _ (mPass v) _ _ (by omega) (by omega) (by rw [hm_row_same]; exact hf2') (gW_pass hv (by omega)) (by rw [mPass_3]; omega) (hA1.cg (by rw [hm_row_ne _ _ (by decide)]) (hm_row_ne _ _ (by decide))) (AW_K hWN hv) ((hfa.tr (FAR.nt hf1 hf2)).tr FAR.row) e1 e2 e3
  refine q_aload gg166_0 rfl ?_
  refine q_call1 gg166_1 tt151 rfl (Nat.le_of_ble_eq_true rfl) (hm_rv (by decide +kernel)) (ls' := [some _]) rfl rfl ?_
  refine q_aload gg151_0 rfl ?_
  refine q_getr gg151_1 rfl ?_
  refine z_const gg151_4 (v := 1) rfl ?_
  first | (refine z_alr gg151_5 (by first | rfl | assumption) (by assumption) (by omega) (by omega) (by omega) (by decide) (fun visHob_5 evisHob_5 lvisHob_5 uvisHob_5 => ?_); try dsimp only at evisHob_5) | (refine z_alx gg151_5 rfl (by assumption) (by omega) (by omega) (by first | omega | decide) (by decide) (fun visHob_5 evisHob_5 lvisHob_5 uvisHob_5 => ?_); try dsimp only at evisHob_5) | refine z_alq gg151_5 rfl (by omega) (by omega) (by decide) ?_
  refine z_ifle gg151_6 (tg := 13) rfl (by omega) (fun c1 => ?_) (fun c1 => ?_)
  · try (exfalso; omega)
    all_goals (
      refine z_const gg151_13 (v := 0) rfl ?_
      refine z_zretC gg151_14 (by omega) ?_
      refine z_ifne gg166_4 (tg := 10) rfl (by decide) (fun z => absurd z (by decide)) (fun _ => ?_)
      refine z_neg gg166_7 ?_
      refine q_iret gg166_9 ?_
      refine qv ?_ (k0 (by unfold okH; omega))
      unfold aHours
      first | (rw [if_pos (by omega)]; done) | (rw [if_neg (by omega), if_neg (by omega)]; done) | (rw [if_neg (by omega), if_pos (by omega), if_neg (by omega)]; done)
    )
  · try (exfalso; omega)
    all_goals (
      refine z_const gg151_9 (v := 1) rfl ?_
      refine q_goto gg151_10 (tg := 14) rfl ?_
      refine z_zretC gg151_14 (by omega) ?_
      refine z_ifne gg166_4 (tg := 10) rfl (by decide) (fun _ => ?_) (fun z => absurd z (by decide))
      refine q_iload gg166_10 rfl ?_
      refine z_const gg166_11 (v := 1) rfl ?_
      refine z_const gg166_12 (v := 24) rfl ?_
      refine q_call3 gg166_14 tt124 rfl (Nat.le_of_ble_eq_true rfl) rfl (ls' := [some _, some _, some _]) rfl rfl ?_
      refine q_iload gg124_0 rfl ?_
      refine q_iload gg124_1 rfl ?_
      refine z_icmplt gg124_2 (tg := 14) rfl (by omega) (by omega) (fun c2 => ?_) (fun c2 => ?_)
      · try (exfalso; omega)
        all_goals (
          refine z_const gg124_14 (v := 0) rfl ?_
          refine z_zretC gg124_15 (by omega) ?_
          refine z_ifne gg166_17 (tg := 23) rfl (by decide) (fun z => absurd z (by decide)) (fun _ => ?_)
          refine z_neg gg166_20 ?_
          refine q_iret gg166_22 ?_
          refine qv ?_ (k0 (by unfold okH; omega))
          unfold aHours
          first | (rw [if_pos (by omega)]; done) | (rw [if_neg (by omega), if_neg (by omega)]; done) | (rw [if_neg (by omega), if_pos (by omega), if_neg (by omega)]; done)
        )
      · try (exfalso; omega)
        all_goals (
          refine q_iload gg124_5 rfl ?_
          refine q_iload gg124_6 rfl ?_
          refine z_icmpgt gg124_7 (tg := 14) rfl (by omega) (by omega) (fun c3 => ?_) (fun c3 => ?_)
          · try (exfalso; omega)
            all_goals (
              refine z_const gg124_14 (v := 0) rfl ?_
              refine z_zretC gg124_15 (by omega) ?_
              refine z_ifne gg166_17 (tg := 23) rfl (by decide) (fun z => absurd z (by decide)) (fun _ => ?_)
              refine z_neg gg166_20 ?_
              refine q_iret gg166_22 ?_
              refine qv ?_ (k0 (by unfold okH; omega))
              unfold aHours
              first | (rw [if_pos (by omega)]; done) | (rw [if_neg (by omega), if_neg (by omega)]; done) | (rw [if_neg (by omega), if_pos (by omega), if_neg (by omega)]; done)
            )
          · try (exfalso; omega)
            all_goals (
              refine z_const gg124_10 (v := 1) rfl ?_
              refine q_goto gg124_11 (tg := 15) rfl ?_
              refine z_zretC gg124_15 (by omega) ?_
              refine z_ifne gg166_17 (tg := 23) rfl (by decide) (fun _ => ?_) (fun z => absurd z (by decide))
              refine q_aload gg166_23 rfl ?_
              refine q_getr gg166_24 rfl ?_
              refine z_const gg166_27 (v := 3) rfl ?_
              first | (refine z_alr gg166_28 (by first | rfl | assumption) (by assumption) (by omega) (by omega) (by omega) (by decide) (fun v28 ev28 lv28 uv28 => ?_); try dsimp only at ev28) | (refine z_alx gg166_28 rfl (by assumption) (by omega) (by omega) (by first | omega | decide) (by decide) (fun v28 ev28 lv28 uv28 => ?_); try dsimp only at ev28) | refine z_alq gg166_28 rfl (by omega) (by omega) (by decide) ?_
              refine q_iload gg166_29 rfl ?_
              first | refine z_iadd gg166_30 ?_ | refine q_iadd gg166_30 ?_
              refine z_const gg166_31 (v := 9999) rfl ?_
              refine z_icmple gg166_34 (tg := 40) rfl (by omega) (by omega) (fun c4 => ?_) (fun c4 => ?_)
              · try (exfalso; omega)
                all_goals (
                  refine z_const gg166_40 (v := 0) rfl ?_
                  refine q_istore gg166_41 rfl ?_
                  exact L ⟨by omega, by omega, by omega, by omega⟩ n.toNat 0 M w pa na (by decide) (by omega) hf hw (by omega) hA hW FAR.rf rfl rfl rfl
                )
              · try (exfalso; omega)
                all_goals (
                  refine z_neg gg166_37 ?_
                  refine q_iret gg166_39 ?_
                  refine qv ?_ (k0 (by unfold okH; omega))
                  unfold aHours
                  first | (rw [if_pos (by omega)]; done) | (rw [if_neg (by omega), if_neg (by omega)]; done) | (rw [if_neg (by omega), if_pos (by omega), if_neg (by omega)]; done)
                )
            )
        )
    )
/-! stir -/
def okS (w : Int → Int) (b : Int) : Prop := 0 ≤ b ∧ b < w 2 ∧ w (4 + 7 * b + 5) = 0
def aStir (w : Int → Int) (b : Int) : Int := if 0 ≤ b ∧ b < w 2 then (if w (4 + 7 * b + 5) = 0 then mStir w b (4 + 7 * b + 2) else -1000002) else -1000001
theorem aStir_y (h : okS w b) : aStir w b = mStir w b (4 + 7 * b + 2) := by unfold aStir; rw [if_pos ⟨h.1, h.2.1⟩, if_pos h.2.2]
theorem gW_stir (h : gW w) (hb0 : 0 ≤ b) (hb : b < w 2) : gW (mStir w b) := ⟨mWf_stir h.1 hb0 hb, by rw [mStir_ne (by omega) (by omega), mStir_ne (by omega) (by omega)]; exact h.2.1, by rw [mStir_ne (by omega) (by omega)]; exact h.2.2⟩
theorem c_stir (hz : zR b) (h : Hb M 7 w) (hw : gW w) (hA : AC M pa na) (hW : AW pa na) (k0 : ¬ okS w b → Q (some (.inl (zI (aStir w b)))) M) (k1 : okS w b → ∀ M', Hb M' 7 (mStir w b) → AC M' (paK pa na w) (naK na) → FA M M' → Q (some (.inl (zI (aStir w b)))) M') : hm_Wp (d + 6) 92 0 [some (.inr (.inr 0)), some (.inl (zI b))] [] M Q := by
  have hn := hw.1.1.1
  have h4 := h.1.1
  have h9 := h.1.2.2.2.2.1
  have s5 := bsum7_lt (hw.1.f01 (q := 5) (by decide) (by decide))
  unfold zR at hz
  by_cases hin : 0 ≤ b ∧ b < w 2
  · obtain ⟨b0, b1⟩ := hin
    have q5 := hw.1.bit (q := 5) (by decide) (by decide) b0 (by omega)
    have w5 := hw.1.1.2.1 b 5 b0 (by omega) (by decide) (by decide)
    refine q_aload gg92_0 rfl ?_
    refine q_getr gg92_1 rfl ?_
    refine q_iload gg92_4 rfl ?_
    refine q_call2 gg92_5 tt32 rfl (Nat.le_of_ble_eq_true rfl) (hm_rv (by decide +kernel)) (ls' := [some _, some _]) rfl rfl ?_
    refine q_iload gg32_0 rfl ?_
    refine z_iflt gg32_1 (tg := 16) rfl (by omega) (fun c1 => ?_) (fun c1 => ?_)
    · try (exfalso; omega)
      all_goals (
        refine z_const gg32_16 (v := 0) rfl ?_
        refine z_zretC gg32_17 (by omega) ?_
        refine z_ifne gg92_8 (tg := 14) rfl (by decide) (fun z => absurd z (by decide)) (fun _ => ?_)
        refine z_neg gg92_11 ?_
        refine q_iret gg92_13 ?_
        exfalso
        omega
      )
    · try (exfalso; omega)
      all_goals (
        refine q_iload gg32_4 rfl ?_
        refine q_aload gg32_5 rfl ?_
        first | refine z_getf gg32_6 rfl (by assumption) ?_ | refine q_getf gg32_6 rfl ?_
        refine z_icmpge gg32_9 (tg := 16) rfl (by omega) (by omega) (fun c2 => ?_) (fun c2 => ?_)
        · try (exfalso; omega)
          all_goals (
            refine z_const gg32_16 (v := 0) rfl ?_
            refine z_zretC gg32_17 (by omega) ?_
            refine z_ifne gg92_8 (tg := 14) rfl (by decide) (fun z => absurd z (by decide)) (fun _ => ?_)
            refine z_neg gg92_11 ?_
            refine q_iret gg92_13 ?_
            exfalso
            omega
          )
        · try (exfalso; omega)
          all_goals (
            refine z_const gg32_12 (v := 1) rfl ?_
            refine q_goto gg32_13 (tg := 17) rfl ?_
            refine z_zretC gg32_17 (by omega) ?_
            refine z_ifne gg92_8 (tg := 14) rfl (by decide) (fun _ => ?_) (fun z => absurd z (by decide))
            refine q_aload gg92_14 rfl ?_
            refine q_getr gg92_15 rfl ?_
            refine q_iload gg92_18 rfl ?_
            refine q_call2 gg92_19 tt34 rfl (Nat.le_of_ble_eq_true rfl) (hm_rv (by decide +kernel)) (ls' := [some _, some _]) rfl rfl ?_
            refine q_aload gg34_0 rfl ?_
            first | refine z_getf gg34_1 rfl (by assumption) ?_ | refine q_getf gg34_1 rfl ?_
            refine q_iload gg34_4 rfl ?_
            first | refine z_ishr gg34_5 (by omega) (by omega) (by omega) (by omega) (fun sisBurst_5 esisBurst_5 lsisBurst_5 usisBurst_5 => ?_) | refine q_ishr gg34_5 ?_
            refine z_const gg34_6 (v := 1) rfl ?_
            first | refine z_iand1 gg34_7 (by omega) (by omega) ?_ | refine z_iandn gg34_7 (by omega) (by omega) (by omega) (by omega) ?_ | refine q_iand gg34_7 ?_
            refine z_const gg34_8 (v := 1) rfl ?_
            refine z_icmpne gg34_9 (tg := 16) rfl (by omega) (by omega) (fun c3 => ?_) (fun c3 => ?_)
            · try (exfalso; omega)
              all_goals (
                refine z_const gg34_16 (v := 0) rfl ?_
                refine z_zretC gg34_17 (by omega) ?_
                refine z_ifeq gg92_22 (tg := 28) rfl (by decide) (fun _ => ?_) (fun z => absurd z (by decide))
                refine q_aload gg92_28 rfl ?_
                refine q_getr gg92_29 rfl ?_
                refine q_aload gg92_32 rfl ?_
                refine q_getr gg92_33 rfl ?_
                refine q_call2 gg92_36 tt0 rfl (Nat.le_of_ble_eq_true rfl) (hm_rv (by decide +kernel)) (ls' := [some _, some _]) rfl rfl ?_
                refine c_keep h hw hA hW (fun M1 hA1 hf1 => ?_)
                show hm_Wp _ _ _ _ _ _ _
                refine q_aload gg92_39 rfl ?_
                refine q_getr gg92_40 rfl ?_
                refine q_iload gg92_43 rfl ?_
                refine q_call2 gg92_44 tt48 rfl (Nat.le_of_ble_eq_true rfl) (hm_rv (by decide +kernel)) (ls' := [some _, some _]) rfl rfl ?_
                refine c_stirOnce (by omega) (h.kp hf1) hw.1 b0 b1 (fun M2 h2 hfr => ?_)
                have a3 := h2.2.2
                have e2 : zup (zup w (4 + 7 * b + 2) (max 0 (w (4 + 7 * b + 2) - 2))) (4 + 7 * b + 6) 1 2 = w 2 := mStir_ne (b := b) (by omega) (by omega)
                rw [e2] at a3
                show hm_Wp _ _ _ _ _ _ _
                refine q_aload gg92_47 rfl ?_
                refine q_getr gg92_48 rfl ?_
                refine q_getr gg92_51 rfl ?_
                refine q_iload gg92_54 rfl ?_
                first | (refine z_alr gg92_55 (by first | rfl | assumption) (by assumption) (by omega) (by omega) (by omega) (by decide) (fun v55 ev55 lv55 uv55 => ?_); try dsimp only at ev55) | (refine z_alx gg92_55 rfl (by assumption) (by omega) (by omega) (by first | omega | decide) (by decide) (fun v55 ev55 lv55 uv55 => ?_); try dsimp only at ev55) | refine z_alq gg92_55 rfl (by omega) (by omega) (by decide) ?_
                refine q_iret gg92_56 ?_
                have hok : okS w b := ⟨b0, b1, by omega⟩
                have := k1 hok M2 h2 (hA1.cg (hfr 17 (by omega)) (hfr 18 (by omega))) ((FA.kp hf1).tr (FA.fr hfr))
                rw [aStir_y hok] at this
                exact qv ev55 this
              )
            · try (exfalso; omega)
              all_goals (
                refine z_const gg34_12 (v := 1) rfl ?_
                refine q_goto gg34_13 (tg := 17) rfl ?_
                refine z_zretC gg34_17 (by omega) ?_
                refine z_ifeq gg92_22 (tg := 28) rfl (by decide) (fun z => absurd z (by decide)) (fun _ => ?_)
                refine z_neg gg92_25 ?_
                refine q_iret gg92_27 ?_
                refine qv ?_ (k0 (by unfold okS; omega))
                unfold aStir
                rw [if_pos ⟨b0, b1⟩, if_neg (by omega)]
              )
          )
      )
  · refine q_aload gg92_0 rfl ?_
    refine q_getr gg92_1 rfl ?_
    refine q_iload gg92_4 rfl ?_
    refine q_call2 gg92_5 tt32 rfl (Nat.le_of_ble_eq_true rfl) (hm_rv (by decide +kernel)) (ls' := [some _, some _]) rfl rfl ?_
    refine q_iload gg32_0 rfl ?_
    refine z_iflt gg32_1 (tg := 16) rfl (by omega) (fun c1 => ?_) (fun c1 => ?_)
    · try (exfalso; omega)
      all_goals (
        refine z_const gg32_16 (v := 0) rfl ?_
        refine z_zretC gg32_17 (by omega) ?_
        refine z_ifne gg92_8 (tg := 14) rfl (by decide) (fun z => absurd z (by decide)) (fun _ => ?_)
        refine z_neg gg92_11 ?_
        refine q_iret gg92_13 ?_
        refine qv ?_ (k0 (by unfold okS; omega))
        unfold aStir
        rw [if_neg hin]
      )
    · try (exfalso; omega)
      all_goals (
        refine q_iload gg32_4 rfl ?_
        refine q_aload gg32_5 rfl ?_
        first | refine z_getf gg32_6 rfl (by assumption) ?_ | refine q_getf gg32_6 rfl ?_
        refine z_icmpge gg32_9 (tg := 16) rfl (by omega) (by omega) (fun c2 => ?_) (fun c2 => ?_)
        · try (exfalso; omega)
          all_goals (
            refine z_const gg32_16 (v := 0) rfl ?_
            refine z_zretC gg32_17 (by omega) ?_
            refine z_ifne gg92_8 (tg := 14) rfl (by decide) (fun z => absurd z (by decide)) (fun _ => ?_)
            refine z_neg gg92_11 ?_
            refine q_iret gg92_13 ?_
            refine qv ?_ (k0 (by unfold okS; omega))
            unfold aStir
            rw [if_neg hin]
          )
        · try (exfalso; omega)
          all_goals (
            refine z_const gg32_12 (v := 1) rfl ?_
            refine q_goto gg32_13 (tg := 17) rfl ?_
            refine z_zretC gg32_17 (by omega) ?_
            refine z_ifne gg92_8 (tg := 14) rfl (by decide) (fun _ => ?_) (fun z => absurd z (by decide))
            exfalso
            omega
          )
      )
theorem r_stir (hz : zR b) (hf : aw (M 36) 53 0 20000 w) (hw : gW w) (hA : AR M pa na) (hW : AW pa na) (k0 : ¬ okS w b → Q (some (.inl (zI (aStir w b)))) M) (k1 : okS w b → ∀ M', aw (M' 36) 53 0 20000 (mStir w b) → AR M' (paK pa na w) (naK na) → FAR M M' → Q (some (.inl (zI (aStir w b)))) M') : hm_Wp (d + 6) 167 0 [some (.inr (.inr 30)), some (.inl (zI b))] [] M Q := by
  have hn := hw.1.1.1
  unfold zR at hz
  by_cases hin : 0 ≤ b ∧ b < w 2
  · obtain ⟨b0, b1⟩ := hin
    have w5 := hw.1.1.2.1 b 5 b0 (by omega) (by decide) (by decide)
    refine q_aload gg167_0 rfl ?_
    refine q_iload gg167_1 rfl ?_
    refine q_call2 gg167_2 tt152 rfl (Nat.le_of_ble_eq_true rfl) (hm_rv (by decide +kernel)) (ls' := [some _, some _]) rfl rfl ?_
    refine q_iload gg152_0 rfl ?_
    refine z_const gg152_1 (v := 0) rfl ?_
    refine q_aload gg152_2 rfl ?_
    refine q_getr gg152_3 rfl ?_
    refine z_const gg152_6 (v := 2) rfl ?_
    first | (refine z_alr gg152_7 (by first | rfl | assumption) (by assumption) (by omega) (by omega) (by omega) (by decide) (fun visBasin_7 evisBasin_7 lvisBasin_7 uvisBasin_7 => ?_); try dsimp only at evisBasin_7) | (refine z_alx gg152_7 rfl (by assumption) (by omega) (by omega) (by first | omega | decide) (by decide) (fun visBasin_7 evisBasin_7 lvisBasin_7 uvisBasin_7 => ?_); try dsimp only at evisBasin_7) | refine z_alq gg152_7 rfl (by omega) (by omega) (by decide) ?_
    refine z_const gg152_8 (v := 1) rfl ?_
    first | refine z_isub gg152_9 ?_ | refine q_isub gg152_9 ?_
    refine q_call3 gg152_10 tt124 rfl (Nat.le_of_ble_eq_true rfl) rfl (ls' := [some _, some _, some _]) rfl rfl ?_
    refine q_iload gg124_0 rfl ?_
    refine q_iload gg124_1 rfl ?_
    refine z_icmplt gg124_2 (tg := 14) rfl (by omega) (by omega) (fun c1 => ?_) (fun c1 => ?_)
    · try (exfalso; omega)
      all_goals (
        refine z_const gg124_14 (v := 0) rfl ?_
        refine z_zretC gg124_15 (by omega) ?_
        refine z_zretC gg152_13 (by omega) ?_
        refine z_ifne gg167_5 (tg := 11) rfl (by decide) (fun z => absurd z (by decide)) (fun _ => ?_)
        refine z_neg gg167_8 ?_
        refine q_iret gg167_10 ?_
        exfalso
        omega
      )
    · try (exfalso; omega)
      all_goals (
        refine q_iload gg124_5 rfl ?_
        refine q_iload gg124_6 rfl ?_
        refine z_icmpgt gg124_7 (tg := 14) rfl (by omega) (by omega) (fun c2 => ?_) (fun c2 => ?_)
        · try (exfalso; omega)
          all_goals (
            refine z_const gg124_14 (v := 0) rfl ?_
            refine z_zretC gg124_15 (by omega) ?_
            refine z_zretC gg152_13 (by omega) ?_
            refine z_ifne gg167_5 (tg := 11) rfl (by decide) (fun z => absurd z (by decide)) (fun _ => ?_)
            refine z_neg gg167_8 ?_
            refine q_iret gg167_10 ?_
            exfalso
            omega
          )
        · try (exfalso; omega)
          all_goals (
            refine z_const gg124_10 (v := 1) rfl ?_
            refine q_goto gg124_11 (tg := 15) rfl ?_
            refine z_zretC gg124_15 (by omega) ?_
            refine z_zretC gg152_13 (by omega) ?_
            refine z_ifne gg167_5 (tg := 11) rfl (by decide) (fun _ => ?_) (fun z => absurd z (by decide))
            refine q_aload gg167_11 rfl ?_
            refine q_iload gg167_12 rfl ?_
            refine q_call2 gg167_13 tt153 rfl (Nat.le_of_ble_eq_true rfl) (hm_rv (by decide +kernel)) (ls' := [some _, some _]) rfl rfl ?_
            refine q_aload gg153_0 rfl ?_
            refine q_getr gg153_1 rfl ?_
            refine z_const gg153_4 (v := 4) rfl ?_
            refine z_const gg153_5 (v := 7) rfl ?_
            refine q_iload gg153_7 rfl ?_
            first | refine z_imul gg153_8 ?_ | refine q_imul gg153_8 ?_
            first | refine z_iadd gg153_9 ?_ | refine q_iadd gg153_9 ?_
            refine z_const gg153_10 (v := 5) rfl ?_
            first | refine z_iadd gg153_11 ?_ | refine q_iadd gg153_11 ?_
            first | (refine z_alr gg153_12 (by first | rfl | assumption) (by assumption) (by omega) (by omega) (by omega) (by decide) (fun visBurst_12 evisBurst_12 lvisBurst_12 uvisBurst_12 => ?_); try dsimp only at evisBurst_12) | (refine z_alx gg153_12 rfl (by assumption) (by omega) (by omega) (by first | omega | decide) (by decide) (fun visBurst_12 evisBurst_12 lvisBurst_12 uvisBurst_12 => ?_); try dsimp only at evisBurst_12) | refine z_alq gg153_12 rfl (by omega) (by omega) (by decide) ?_
            refine z_const gg153_13 (v := 1) rfl ?_
            refine z_icmpne gg153_14 (tg := 21) rfl (by omega) (by omega) (fun c3 => ?_) (fun c3 => ?_)
            · try (exfalso; omega)
              all_goals (
                refine z_const gg153_21 (v := 0) rfl ?_
                refine z_zretC gg153_22 (by omega) ?_
                refine z_ifeq gg167_16 (tg := 22) rfl (by decide) (fun _ => ?_) (fun z => absurd z (by decide))
                refine q_aload gg167_22 rfl ?_
                refine q_call1 gg167_23 tt165 rfl (Nat.le_of_ble_eq_true rfl) (hm_rv (by decide +kernel)) (ls' := [some _, none]) rfl rfl ?_
                refine r_notes hf hA hW (fun M1 hA1 hf1 hf2 => ?_)
                have h36 : aw (M1 36) 53 0 20000 w := by rw [hf1 36 (by decide) (by decide)]; exact hf
                show hm_Wp _ _ _ _ _ _ _
                refine q_aload gg167_26 rfl ?_
                refine q_getr gg167_27 rfl ?_
                refine q_iload gg167_30 rfl ?_
                refine q_call2 gg167_31 tt163 rfl (Nat.le_of_ble_eq_true rfl) rfl (ls' := [some _, some _, none]) rfl rfl ?_
                refine hm_Wp.eqM (hm_row_self M1 36).symm ?_
                refine r_stirsOne rfl h36 b0 (by omega) (fun f2 hf2' => ?_)
                show hm_Wp _ _ _ _ _ _ _
                refine q_aload gg167_34 rfl ?_
                refine q_getr gg167_35 rfl ?_
                refine z_const gg167_38 (v := 4) rfl ?_
                refine z_const gg167_39 (v := 7) rfl ?_
                refine q_iload gg167_41 rfl ?_
                first | refine z_imul gg167_42 ?_ | refine q_imul gg167_42 ?_
                first | refine z_iadd gg167_43 ?_ | refine q_iadd gg167_43 ?_
                refine z_const gg167_44 (v := 2) rfl ?_
                first | refine z_iadd gg167_45 ?_ | refine q_iadd gg167_45 ?_
                first | (refine z_alr gg167_46 (by first | rfl | assumption) (by assumption) (by omega) (by omega) (by omega) (by decide) (fun v46 ev46 lv46 uv46 => ?_); try dsimp only at ev46) | (refine z_alx gg167_46 rfl (by assumption) (by omega) (by omega) (by first | omega | decide) (by decide) (fun v46 ev46 lv46 uv46 => ?_); try dsimp only at ev46) | refine z_alq gg167_46 rfl (by omega) (by omega) (by decide) ?_
                refine q_iret gg167_47 ?_
                have hok : okS w b := ⟨b0, b1, by omega⟩
                have := k1 hok _ (by rw [hm_row_same]; exact hf2') (hA1.cg (by rw [hm_row_ne _ _ (by decide)]) (hm_row_ne _ _ (by decide))) ((FAR.nt hf1 hf2).tr FAR.row)
                rw [aStir_y hok] at this
                exact qv ev46 this
              )
            · try (exfalso; omega)
              all_goals (
                refine z_const gg153_17 (v := 1) rfl ?_
                refine q_goto gg153_18 (tg := 22) rfl ?_
                refine z_zretC gg153_22 (by omega) ?_
                refine z_ifeq gg167_16 (tg := 22) rfl (by decide) (fun z => absurd z (by decide)) (fun _ => ?_)
                refine z_neg gg167_19 ?_
                refine q_iret gg167_21 ?_
                refine qv ?_ (k0 (by unfold okS; omega))
                unfold aStir
                rw [if_pos ⟨b0, b1⟩, if_neg (by omega)]
              )
          )
      )
  · refine q_aload gg167_0 rfl ?_
    refine q_iload gg167_1 rfl ?_
    refine q_call2 gg167_2 tt152 rfl (Nat.le_of_ble_eq_true rfl) (hm_rv (by decide +kernel)) (ls' := [some _, some _]) rfl rfl ?_
    refine q_iload gg152_0 rfl ?_
    refine z_const gg152_1 (v := 0) rfl ?_
    refine q_aload gg152_2 rfl ?_
    refine q_getr gg152_3 rfl ?_
    refine z_const gg152_6 (v := 2) rfl ?_
    first | (refine z_alr gg152_7 (by first | rfl | assumption) (by assumption) (by omega) (by omega) (by omega) (by decide) (fun visBasin_7 evisBasin_7 lvisBasin_7 uvisBasin_7 => ?_); try dsimp only at evisBasin_7) | (refine z_alx gg152_7 rfl (by assumption) (by omega) (by omega) (by first | omega | decide) (by decide) (fun visBasin_7 evisBasin_7 lvisBasin_7 uvisBasin_7 => ?_); try dsimp only at evisBasin_7) | refine z_alq gg152_7 rfl (by omega) (by omega) (by decide) ?_
    refine z_const gg152_8 (v := 1) rfl ?_
    first | refine z_isub gg152_9 ?_ | refine q_isub gg152_9 ?_
    refine q_call3 gg152_10 tt124 rfl (Nat.le_of_ble_eq_true rfl) rfl (ls' := [some _, some _, some _]) rfl rfl ?_
    refine q_iload gg124_0 rfl ?_
    refine q_iload gg124_1 rfl ?_
    refine z_icmplt gg124_2 (tg := 14) rfl (by omega) (by omega) (fun c1 => ?_) (fun c1 => ?_)
    · try (exfalso; omega)
      all_goals (
        refine z_const gg124_14 (v := 0) rfl ?_
        refine z_zretC gg124_15 (by omega) ?_
        refine z_zretC gg152_13 (by omega) ?_
        refine z_ifne gg167_5 (tg := 11) rfl (by decide) (fun z => absurd z (by decide)) (fun _ => ?_)
        refine z_neg gg167_8 ?_
        refine q_iret gg167_10 ?_
        refine qv ?_ (k0 (by unfold okS; omega))
        unfold aStir
        rw [if_neg hin]
      )
    · try (exfalso; omega)
      all_goals (
        refine q_iload gg124_5 rfl ?_
        refine q_iload gg124_6 rfl ?_
        refine z_icmpgt gg124_7 (tg := 14) rfl (by omega) (by omega) (fun c2 => ?_) (fun c2 => ?_)
        · try (exfalso; omega)
          all_goals (
            refine z_const gg124_14 (v := 0) rfl ?_
            refine z_zretC gg124_15 (by omega) ?_
            refine z_zretC gg152_13 (by omega) ?_
            refine z_ifne gg167_5 (tg := 11) rfl (by decide) (fun z => absurd z (by decide)) (fun _ => ?_)
            refine z_neg gg167_8 ?_
            refine q_iret gg167_10 ?_
            refine qv ?_ (k0 (by unfold okS; omega))
            unfold aStir
            rw [if_neg hin]
          )
        · try (exfalso; omega)
          all_goals (
            refine z_const gg124_10 (v := 1) rfl ?_
            refine q_goto gg124_11 (tg := 15) rfl ?_
            refine z_zretC gg124_15 (by omega) ?_
            refine z_zretC gg152_13 (by omega) ?_
            refine z_ifne gg167_5 (tg := 11) rfl (by decide) (fun _ => ?_) (fun z => absurd z (by decide))
            exfalso
            omega
          )
      )
/-! on -/
def okO (w : Int → Int) (b y : Int) : Prop := 0 ≤ b ∧ b < w 2 ∧ 0 ≤ y ∧ y ≤ 1 ∧ w (4 + 7 * b + 4) ≠ y
def mOn (w : Int → Int) (b y : Int) : Int → Int := zup w (4 + 7 * b + 4) y
def aOn (w : Int → Int) (b y : Int) : Int := if 0 ≤ b ∧ b < w 2 ∧ 0 ≤ y ∧ y ≤ 1 then (if w (4 + 7 * b + 4) ≠ y then bsum (mFlag (mOn w b y) 4) 7 else -1000002) else -1000001
theorem aOn_y (h : okO w b y) : aOn w b y = bsum (mFlag (mOn w b y) 4) 7 := by unfold aOn; rw [if_pos ⟨h.1, h.2.1, h.2.2.1, h.2.2.2.1⟩, if_pos h.2.2.2.2]
theorem gW_on (h : gW w) (hb0 : 0 ≤ b) (hb : b < w 2) (hy0 : 0 ≤ y) (hy : y ≤ 1) : gW (mOn w b y) := by
  have e : ∀ i : Int, i ≠ 4 + 7 * b + 4 → mOn w b y i = w i := fun i h => by simp [mOn, zup, h]
  exact ⟨mWf_on h.1 hb0 hb (by omega), by rw [e _ (by omega), e _ (by omega)]; exact h.2.1, by rw [e _ (by omega)]; exact h.2.2⟩
theorem c_on (hz : zR b) (hy : zR y) (h : Hb M 7 w) (hw : gW w) (hA : AC M pa na) (hW : AW pa na) (k0 : ¬ okO w b y → Q (some (.inl (zI (aOn w b y)))) M) (k1 : okO w b y → ∀ M', Hb M' 7 (mOn w b y) → AC M' (paK pa na w) (naK na) → FA M M' → Q (some (.inl (zI (aOn w b y)))) M') : hm_Wp (d + 6) 93 0 [some (.inr (.inr 0)), some (.inl (zI b)), some (.inl (zI y)), none] [] M Q := by
  have hn := hw.1.1.1
  have h4 := h.1.1
  have h8 := h.1.2.2.2.1
  have s5 := bsum7_lt (hw.1.f01 (q := 4) (by decide) (by decide))
  unfold zR at hz hy
  by_cases hin : 0 ≤ b ∧ b < w 2 ∧ 0 ≤ y ∧ y ≤ 1
  · obtain ⟨b0, b1, y0, y1⟩ := hin
    have q5 := hw.1.bit (q := 4) (by decide) (by decide) b0 (by omega)
    have w5 := hw.1.1.2.1 b 4 b0 (by omega) (by decide) (by decide)
    refine q_aload gg93_0 rfl ?_
    refine q_getr gg93_1 rfl ?_
    refine q_iload gg93_4 rfl ?_
    refine q_call2 gg93_5 tt32 rfl (Nat.le_of_ble_eq_true rfl) (hm_rv (by decide +kernel)) (ls' := [some _, some _]) rfl rfl ?_
    refine q_iload gg32_0 rfl ?_
    refine z_iflt gg32_1 (tg := 16) rfl (by omega) (fun c1 => ?_) (fun c1 => ?_)
    · try (exfalso; omega)
      all_goals (
        refine z_const gg32_16 (v := 0) rfl ?_
        refine z_zretC gg32_17 (by omega) ?_
        refine z_ifeq gg93_8 (tg := 18) rfl (by decide) (fun _ => ?_) (fun z => absurd z (by decide))
        refine z_neg gg93_18 ?_
        refine q_iret gg93_20 ?_
        exfalso
        omega
      )
    · try (exfalso; omega)
      all_goals (
        refine q_iload gg32_4 rfl ?_
        refine q_aload gg32_5 rfl ?_
        first | refine z_getf gg32_6 rfl (by assumption) ?_ | refine q_getf gg32_6 rfl ?_
        refine z_icmpge gg32_9 (tg := 16) rfl (by omega) (by omega) (fun c2 => ?_) (fun c2 => ?_)
        · try (exfalso; omega)
          all_goals (
            refine z_const gg32_16 (v := 0) rfl ?_
            refine z_zretC gg32_17 (by omega) ?_
            refine z_ifeq gg93_8 (tg := 18) rfl (by decide) (fun _ => ?_) (fun z => absurd z (by decide))
            refine z_neg gg93_18 ?_
            refine q_iret gg93_20 ?_
            exfalso
            omega
          )
        · try (exfalso; omega)
          all_goals (
            refine z_const gg32_12 (v := 1) rfl ?_
            refine q_goto gg32_13 (tg := 17) rfl ?_
            refine z_zretC gg32_17 (by omega) ?_
            refine z_ifeq gg93_8 (tg := 18) rfl (by decide) (fun z => absurd z (by decide)) (fun _ => ?_)
            refine q_iload gg93_11 rfl ?_
            refine q_call1 gg93_12 tt122 rfl (Nat.le_of_ble_eq_true rfl) rfl (ls' := [some _]) rfl rfl ?_
            refine q_iload gg122_0 rfl ?_
            refine z_ifeq gg122_1 (tg := 9) rfl (by omega) (fun c3 => ?_) (fun c3 => ?_)
            · try (exfalso; omega)
              all_goals (
                refine z_const gg122_9 (v := 1) rfl ?_
                refine q_goto gg122_10 (tg := 14) rfl ?_
                refine z_zretC gg122_14 (by omega) ?_
                refine z_ifne gg93_15 (tg := 21) rfl (by decide) (fun _ => ?_) (fun z => absurd z (by decide))
                refine q_iload gg93_21 rfl ?_
                refine z_const gg93_22 (v := 1) rfl ?_
                refine z_icmpne gg93_23 (tg := 30) rfl (by omega) (by omega) (fun c4 => ?_) (fun c4 => ?_)
                · try (exfalso; omega)
                  all_goals (
                    refine z_const gg93_30 (v := 0) rfl ?_
                    refine q_istore gg93_31 rfl ?_
                    refine q_aload gg93_32 rfl ?_
                    refine q_getr gg93_33 rfl ?_
                    refine q_iload gg93_36 rfl ?_
                    refine q_call2 gg93_37 tt33 rfl (Nat.le_of_ble_eq_true rfl) (hm_rv (by decide +kernel)) (ls' := [some _, some _]) rfl rfl ?_
                    refine q_aload gg33_0 rfl ?_
                    first | refine z_getf gg33_1 rfl (by assumption) ?_ | refine q_getf gg33_1 rfl ?_
                    refine q_iload gg33_4 rfl ?_
                    first | refine z_ishr gg33_5 (by omega) (by omega) (by omega) (by omega) (fun sisOn_5 esisOn_5 lsisOn_5 usisOn_5 => ?_) | refine q_ishr gg33_5 ?_
                    refine z_const gg33_6 (v := 1) rfl ?_
                    first | refine z_iand1 gg33_7 (by omega) (by omega) ?_ | refine z_iandn gg33_7 (by omega) (by omega) (by omega) (by omega) ?_ | refine q_iand gg33_7 ?_
                    refine z_const gg33_8 (v := 1) rfl ?_
                    refine z_icmpne gg33_9 (tg := 16) rfl (by omega) (by omega) (fun c5 => ?_) (fun c5 => ?_)
                    · try (exfalso; omega)
                      all_goals (
                        refine z_const gg33_16 (v := 0) rfl ?_
                        refine z_zretC gg33_17 (by omega) ?_
                        refine q_iload gg93_40 rfl ?_
                        refine z_icmpne gg93_41 (tg := 47) rfl (by decide) (by decide) (fun z => absurd z (by decide)) (fun _ => ?_)
                        refine z_neg gg93_44 ?_
                        refine q_iret gg93_46 ?_
                        refine qv ?_ (k0 (by unfold okO; omega))
                        unfold aOn
                        rw [if_pos ⟨b0, b1, y0, y1⟩, if_neg (by omega)]
                      )
                    · try (exfalso; omega)
                      all_goals (
                        refine z_const gg33_12 (v := 1) rfl ?_
                        refine q_goto gg33_13 (tg := 17) rfl ?_
                        refine z_zretC gg33_17 (by omega) ?_
                        refine q_iload gg93_40 rfl ?_
                        refine z_icmpne gg93_41 (tg := 47) rfl (by decide) (by decide) (fun _ => ?_) (fun z => absurd z (by decide))
                        refine q_aload gg93_47 rfl ?_
                        refine q_getr gg93_48 rfl ?_
                        refine q_aload gg93_51 rfl ?_
                        refine q_getr gg93_52 rfl ?_
                        refine q_call2 gg93_55 tt0 rfl (Nat.le_of_ble_eq_true rfl) (hm_rv (by decide +kernel)) (ls' := [some _, some _]) rfl rfl ?_
                        refine c_keep h hw hA hW (fun M1 hA1 hf1 => ?_)
                        show hm_Wp _ _ _ _ _ _ _
                        refine q_aload gg93_58 rfl ?_
                        refine q_getr gg93_59 rfl ?_
                        refine q_iload gg93_62 rfl ?_
                        refine q_call2 gg93_63 tt49 rfl (Nat.le_of_ble_eq_true rfl) (hm_rv (by decide +kernel)) (ls' := [some _, some _]) rfl rfl ?_
                        refine c_turn (by omega) (h.kp hf1) hw.1 b0 b1 (fun M2 h2 hfr => ?_)
                        have hok : okO w b y := ⟨b0, b1, y0, y1, by omega⟩
                        rw [show 1 - w (4 + 7 * b + 4) = y by omega] at h2
                        have g8 : M2 7 8 = zI (bsum (mFlag (mOn w b y) 4) 7) := h2.1.2.2.2.1
                        show hm_Wp _ _ _ _ _ _ _
                        refine q_aload gg93_66 rfl ?_
                        refine q_getr gg93_67 rfl ?_
                        first | refine z_getf gg93_70 rfl (by assumption) ?_ | refine q_getf gg93_70 rfl ?_
                        refine q_iret gg93_73 ?_
                        have := k1 hok M2 h2 (hA1.cg (hfr 17 (by omega)) (hfr 18 (by omega))) ((FA.kp hf1).tr (FA.fr hfr))
                        rw [aOn_y hok] at this
                        exact this
                      )
                  )
                · try (exfalso; omega)
                  all_goals (
                    refine z_const gg93_26 (v := 1) rfl ?_
                    refine q_goto gg93_27 (tg := 31) rfl ?_
                    refine q_istore gg93_31 rfl ?_
                    refine q_aload gg93_32 rfl ?_
                    refine q_getr gg93_33 rfl ?_
                    refine q_iload gg93_36 rfl ?_
                    refine q_call2 gg93_37 tt33 rfl (Nat.le_of_ble_eq_true rfl) (hm_rv (by decide +kernel)) (ls' := [some _, some _]) rfl rfl ?_
                    refine q_aload gg33_0 rfl ?_
                    first | refine z_getf gg33_1 rfl (by assumption) ?_ | refine q_getf gg33_1 rfl ?_
                    refine q_iload gg33_4 rfl ?_
                    first | refine z_ishr gg33_5 (by omega) (by omega) (by omega) (by omega) (fun sisOn_5 esisOn_5 lsisOn_5 usisOn_5 => ?_) | refine q_ishr gg33_5 ?_
                    refine z_const gg33_6 (v := 1) rfl ?_
                    first | refine z_iand1 gg33_7 (by omega) (by omega) ?_ | refine z_iandn gg33_7 (by omega) (by omega) (by omega) (by omega) ?_ | refine q_iand gg33_7 ?_
                    refine z_const gg33_8 (v := 1) rfl ?_
                    refine z_icmpne gg33_9 (tg := 16) rfl (by omega) (by omega) (fun c5 => ?_) (fun c5 => ?_)
                    · try (exfalso; omega)
                      all_goals (
                        refine z_const gg33_16 (v := 0) rfl ?_
                        refine z_zretC gg33_17 (by omega) ?_
                        refine q_iload gg93_40 rfl ?_
                        refine z_icmpne gg93_41 (tg := 47) rfl (by decide) (by decide) (fun _ => ?_) (fun z => absurd z (by decide))
                        refine q_aload gg93_47 rfl ?_
                        refine q_getr gg93_48 rfl ?_
                        refine q_aload gg93_51 rfl ?_
                        refine q_getr gg93_52 rfl ?_
                        refine q_call2 gg93_55 tt0 rfl (Nat.le_of_ble_eq_true rfl) (hm_rv (by decide +kernel)) (ls' := [some _, some _]) rfl rfl ?_
                        refine c_keep h hw hA hW (fun M1 hA1 hf1 => ?_)
                        show hm_Wp _ _ _ _ _ _ _
                        refine q_aload gg93_58 rfl ?_
                        refine q_getr gg93_59 rfl ?_
                        refine q_iload gg93_62 rfl ?_
                        refine q_call2 gg93_63 tt49 rfl (Nat.le_of_ble_eq_true rfl) (hm_rv (by decide +kernel)) (ls' := [some _, some _]) rfl rfl ?_
                        refine c_turn (by omega) (h.kp hf1) hw.1 b0 b1 (fun M2 h2 hfr => ?_)
                        have hok : okO w b y := ⟨b0, b1, y0, y1, by omega⟩
                        rw [show 1 - w (4 + 7 * b + 4) = y by omega] at h2
                        have g8 : M2 7 8 = zI (bsum (mFlag (mOn w b y) 4) 7) := h2.1.2.2.2.1
                        show hm_Wp _ _ _ _ _ _ _
                        refine q_aload gg93_66 rfl ?_
                        refine q_getr gg93_67 rfl ?_
                        first | refine z_getf gg93_70 rfl (by assumption) ?_ | refine q_getf gg93_70 rfl ?_
                        refine q_iret gg93_73 ?_
                        have := k1 hok M2 h2 (hA1.cg (hfr 17 (by omega)) (hfr 18 (by omega))) ((FA.kp hf1).tr (FA.fr hfr))
                        rw [aOn_y hok] at this
                        exact this
                      )
                    · try (exfalso; omega)
                      all_goals (
                        refine z_const gg33_12 (v := 1) rfl ?_
                        refine q_goto gg33_13 (tg := 17) rfl ?_
                        refine z_zretC gg33_17 (by omega) ?_
                        refine q_iload gg93_40 rfl ?_
                        refine z_icmpne gg93_41 (tg := 47) rfl (by decide) (by decide) (fun z => absurd z (by decide)) (fun _ => ?_)
                        refine z_neg gg93_44 ?_
                        refine q_iret gg93_46 ?_
                        refine qv ?_ (k0 (by unfold okO; omega))
                        unfold aOn
                        rw [if_pos ⟨b0, b1, y0, y1⟩, if_neg (by omega)]
                      )
                  )
              )
            · try (exfalso; omega)
              all_goals (
                refine q_iload gg122_4 rfl ?_
                refine z_const gg122_5 (v := 1) rfl ?_
                refine z_icmpne gg122_6 (tg := 13) rfl (by omega) (by omega) (fun c4 => ?_) (fun c4 => ?_)
                · try (exfalso; omega)
                  all_goals (
                    refine z_const gg122_13 (v := 0) rfl ?_
                    refine z_zretC gg122_14 (by omega) ?_
                    refine z_ifne gg93_15 (tg := 21) rfl (by decide) (fun z => absurd z (by decide)) (fun _ => ?_)
                    refine z_neg gg93_18 ?_
                    refine q_iret gg93_20 ?_
                    exfalso
                    omega
                  )
                · try (exfalso; omega)
                  all_goals (
                    refine z_const gg122_9 (v := 1) rfl ?_
                    refine q_goto gg122_10 (tg := 14) rfl ?_
                    refine z_zretC gg122_14 (by omega) ?_
                    refine z_ifne gg93_15 (tg := 21) rfl (by decide) (fun _ => ?_) (fun z => absurd z (by decide))
                    refine q_iload gg93_21 rfl ?_
                    refine z_const gg93_22 (v := 1) rfl ?_
                    refine z_icmpne gg93_23 (tg := 30) rfl (by omega) (by omega) (fun c5 => ?_) (fun c5 => ?_)
                    · try (exfalso; omega)
                      all_goals (
                        refine z_const gg93_30 (v := 0) rfl ?_
                        refine q_istore gg93_31 rfl ?_
                        refine q_aload gg93_32 rfl ?_
                        refine q_getr gg93_33 rfl ?_
                        refine q_iload gg93_36 rfl ?_
                        refine q_call2 gg93_37 tt33 rfl (Nat.le_of_ble_eq_true rfl) (hm_rv (by decide +kernel)) (ls' := [some _, some _]) rfl rfl ?_
                        refine q_aload gg33_0 rfl ?_
                        first | refine z_getf gg33_1 rfl (by assumption) ?_ | refine q_getf gg33_1 rfl ?_
                        refine q_iload gg33_4 rfl ?_
                        first | refine z_ishr gg33_5 (by omega) (by omega) (by omega) (by omega) (fun sisOn_5 esisOn_5 lsisOn_5 usisOn_5 => ?_) | refine q_ishr gg33_5 ?_
                        refine z_const gg33_6 (v := 1) rfl ?_
                        first | refine z_iand1 gg33_7 (by omega) (by omega) ?_ | refine z_iandn gg33_7 (by omega) (by omega) (by omega) (by omega) ?_ | refine q_iand gg33_7 ?_
                        refine z_const gg33_8 (v := 1) rfl ?_
                        refine z_icmpne gg33_9 (tg := 16) rfl (by omega) (by omega) (fun c6 => ?_) (fun c6 => ?_)
                        · try (exfalso; omega)
                          all_goals (
                            refine z_const gg33_16 (v := 0) rfl ?_
                            refine z_zretC gg33_17 (by omega) ?_
                            refine q_iload gg93_40 rfl ?_
                            refine z_icmpne gg93_41 (tg := 47) rfl (by decide) (by decide) (fun z => absurd z (by decide)) (fun _ => ?_)
                            refine z_neg gg93_44 ?_
                            refine q_iret gg93_46 ?_
                            refine qv ?_ (k0 (by unfold okO; omega))
                            unfold aOn
                            rw [if_pos ⟨b0, b1, y0, y1⟩, if_neg (by omega)]
                          )
                        · try (exfalso; omega)
                          all_goals (
                            refine z_const gg33_12 (v := 1) rfl ?_
                            refine q_goto gg33_13 (tg := 17) rfl ?_
                            refine z_zretC gg33_17 (by omega) ?_
                            refine q_iload gg93_40 rfl ?_
                            refine z_icmpne gg93_41 (tg := 47) rfl (by decide) (by decide) (fun _ => ?_) (fun z => absurd z (by decide))
                            refine q_aload gg93_47 rfl ?_
                            refine q_getr gg93_48 rfl ?_
                            refine q_aload gg93_51 rfl ?_
                            refine q_getr gg93_52 rfl ?_
                            refine q_call2 gg93_55 tt0 rfl (Nat.le_of_ble_eq_true rfl) (hm_rv (by decide +kernel)) (ls' := [some _, some _]) rfl rfl ?_
                            refine c_keep h hw hA hW (fun M1 hA1 hf1 => ?_)
                            show hm_Wp _ _ _ _ _ _ _
                            refine q_aload gg93_58 rfl ?_
                            refine q_getr gg93_59 rfl ?_
                            refine q_iload gg93_62 rfl ?_
                            refine q_call2 gg93_63 tt49 rfl (Nat.le_of_ble_eq_true rfl) (hm_rv (by decide +kernel)) (ls' := [some _, some _]) rfl rfl ?_
                            refine c_turn (by omega) (h.kp hf1) hw.1 b0 b1 (fun M2 h2 hfr => ?_)
                            have hok : okO w b y := ⟨b0, b1, y0, y1, by omega⟩
                            rw [show 1 - w (4 + 7 * b + 4) = y by omega] at h2
                            have g8 : M2 7 8 = zI (bsum (mFlag (mOn w b y) 4) 7) := h2.1.2.2.2.1
                            show hm_Wp _ _ _ _ _ _ _
                            refine q_aload gg93_66 rfl ?_
                            refine q_getr gg93_67 rfl ?_
                            first | refine z_getf gg93_70 rfl (by assumption) ?_ | refine q_getf gg93_70 rfl ?_
                            refine q_iret gg93_73 ?_
                            have := k1 hok M2 h2 (hA1.cg (hfr 17 (by omega)) (hfr 18 (by omega))) ((FA.kp hf1).tr (FA.fr hfr))
                            rw [aOn_y hok] at this
                            exact this
                          )
                      )
                    · try (exfalso; omega)
                      all_goals (
                        refine z_const gg93_26 (v := 1) rfl ?_
                        refine q_goto gg93_27 (tg := 31) rfl ?_
                        refine q_istore gg93_31 rfl ?_
                        refine q_aload gg93_32 rfl ?_
                        refine q_getr gg93_33 rfl ?_
                        refine q_iload gg93_36 rfl ?_
                        refine q_call2 gg93_37 tt33 rfl (Nat.le_of_ble_eq_true rfl) (hm_rv (by decide +kernel)) (ls' := [some _, some _]) rfl rfl ?_
                        refine q_aload gg33_0 rfl ?_
                        first | refine z_getf gg33_1 rfl (by assumption) ?_ | refine q_getf gg33_1 rfl ?_
                        refine q_iload gg33_4 rfl ?_
                        first | refine z_ishr gg33_5 (by omega) (by omega) (by omega) (by omega) (fun sisOn_5 esisOn_5 lsisOn_5 usisOn_5 => ?_) | refine q_ishr gg33_5 ?_
                        refine z_const gg33_6 (v := 1) rfl ?_
                        first | refine z_iand1 gg33_7 (by omega) (by omega) ?_ | refine z_iandn gg33_7 (by omega) (by omega) (by omega) (by omega) ?_ | refine q_iand gg33_7 ?_
                        refine z_const gg33_8 (v := 1) rfl ?_
                        refine z_icmpne gg33_9 (tg := 16) rfl (by omega) (by omega) (fun c6 => ?_) (fun c6 => ?_)
                        · try (exfalso; omega)
                          all_goals (
                            refine z_const gg33_16 (v := 0) rfl ?_
                            refine z_zretC gg33_17 (by omega) ?_
                            refine q_iload gg93_40 rfl ?_
                            refine z_icmpne gg93_41 (tg := 47) rfl (by decide) (by decide) (fun _ => ?_) (fun z => absurd z (by decide))
                            refine q_aload gg93_47 rfl ?_
                            refine q_getr gg93_48 rfl ?_
                            refine q_aload gg93_51 rfl ?_
                            refine q_getr gg93_52 rfl ?_
                            refine q_call2 gg93_55 tt0 rfl (Nat.le_of_ble_eq_true rfl) (hm_rv (by decide +kernel)) (ls' := [some _, some _]) rfl rfl ?_
                            refine c_keep h hw hA hW (fun M1 hA1 hf1 => ?_)
                            show hm_Wp _ _ _ _ _ _ _
                            refine q_aload gg93_58 rfl ?_
                            refine q_getr gg93_59 rfl ?_
                            refine q_iload gg93_62 rfl ?_
                            refine q_call2 gg93_63 tt49 rfl (Nat.le_of_ble_eq_true rfl) (hm_rv (by decide +kernel)) (ls' := [some _, some _]) rfl rfl ?_
                            refine c_turn (by omega) (h.kp hf1) hw.1 b0 b1 (fun M2 h2 hfr => ?_)
                            have hok : okO w b y := ⟨b0, b1, y0, y1, by omega⟩
                            rw [show 1 - w (4 + 7 * b + 4) = y by omega] at h2
                            have g8 : M2 7 8 = zI (bsum (mFlag (mOn w b y) 4) 7) := h2.1.2.2.2.1
                            show hm_Wp _ _ _ _ _ _ _
                            refine q_aload gg93_66 rfl ?_
                            refine q_getr gg93_67 rfl ?_
                            first | refine z_getf gg93_70 rfl (by assumption) ?_ | refine q_getf gg93_70 rfl ?_
                            refine q_iret gg93_73 ?_
                            have := k1 hok M2 h2 (hA1.cg (hfr 17 (by omega)) (hfr 18 (by omega))) ((FA.kp hf1).tr (FA.fr hfr))
                            rw [aOn_y hok] at this
                            exact this
                          )
                        · try (exfalso; omega)
                          all_goals (
                            refine z_const gg33_12 (v := 1) rfl ?_
                            refine q_goto gg33_13 (tg := 17) rfl ?_
                            refine z_zretC gg33_17 (by omega) ?_
                            refine q_iload gg93_40 rfl ?_
                            refine z_icmpne gg93_41 (tg := 47) rfl (by decide) (by decide) (fun z => absurd z (by decide)) (fun _ => ?_)
                            refine z_neg gg93_44 ?_
                            refine q_iret gg93_46 ?_
                            refine qv ?_ (k0 (by unfold okO; omega))
                            unfold aOn
                            rw [if_pos ⟨b0, b1, y0, y1⟩, if_neg (by omega)]
                          )
                      )
                  )
              )
          )
      )
  · refine q_aload gg93_0 rfl ?_
    refine q_getr gg93_1 rfl ?_
    refine q_iload gg93_4 rfl ?_
    refine q_call2 gg93_5 tt32 rfl (Nat.le_of_ble_eq_true rfl) (hm_rv (by decide +kernel)) (ls' := [some _, some _]) rfl rfl ?_
    refine q_iload gg32_0 rfl ?_
    refine z_iflt gg32_1 (tg := 16) rfl (by omega) (fun c1 => ?_) (fun c1 => ?_)
    · try (exfalso; omega)
      all_goals (
        refine z_const gg32_16 (v := 0) rfl ?_
        refine z_zretC gg32_17 (by omega) ?_
        refine z_ifeq gg93_8 (tg := 18) rfl (by decide) (fun _ => ?_) (fun z => absurd z (by decide))
        refine z_neg gg93_18 ?_
        refine q_iret gg93_20 ?_
        refine qv ?_ (k0 (by unfold okO; omega))
        unfold aOn
        rw [if_neg (by omega)]
      )
    · try (exfalso; omega)
      all_goals (
        refine q_iload gg32_4 rfl ?_
        refine q_aload gg32_5 rfl ?_
        first | refine z_getf gg32_6 rfl (by assumption) ?_ | refine q_getf gg32_6 rfl ?_
        refine z_icmpge gg32_9 (tg := 16) rfl (by omega) (by omega) (fun c2 => ?_) (fun c2 => ?_)
        · try (exfalso; omega)
          all_goals (
            refine z_const gg32_16 (v := 0) rfl ?_
            refine z_zretC gg32_17 (by omega) ?_
            refine z_ifeq gg93_8 (tg := 18) rfl (by decide) (fun _ => ?_) (fun z => absurd z (by decide))
            refine z_neg gg93_18 ?_
            refine q_iret gg93_20 ?_
            refine qv ?_ (k0 (by unfold okO; omega))
            unfold aOn
            rw [if_neg (by omega)]
          )
        · try (exfalso; omega)
          all_goals (
            refine z_const gg32_12 (v := 1) rfl ?_
            refine q_goto gg32_13 (tg := 17) rfl ?_
            refine z_zretC gg32_17 (by omega) ?_
            refine z_ifeq gg93_8 (tg := 18) rfl (by decide) (fun z => absurd z (by decide)) (fun _ => ?_)
            refine q_iload gg93_11 rfl ?_
            refine q_call1 gg93_12 tt122 rfl (Nat.le_of_ble_eq_true rfl) rfl (ls' := [some _]) rfl rfl ?_
            refine q_iload gg122_0 rfl ?_
            refine z_ifeq gg122_1 (tg := 9) rfl (by omega) (fun c3 => ?_) (fun c3 => ?_)
            · try (exfalso; omega)
              all_goals (
                refine z_const gg122_9 (v := 1) rfl ?_
                refine q_goto gg122_10 (tg := 14) rfl ?_
                refine z_zretC gg122_14 (by omega) ?_
                refine z_ifne gg93_15 (tg := 21) rfl (by decide) (fun _ => ?_) (fun z => absurd z (by decide))
                exfalso
                omega
              )
            · try (exfalso; omega)
              all_goals (
                refine q_iload gg122_4 rfl ?_
                refine z_const gg122_5 (v := 1) rfl ?_
                refine z_icmpne gg122_6 (tg := 13) rfl (by omega) (by omega) (fun c4 => ?_) (fun c4 => ?_)
                · try (exfalso; omega)
                  all_goals (
                    refine z_const gg122_13 (v := 0) rfl ?_
                    refine z_zretC gg122_14 (by omega) ?_
                    refine z_ifne gg93_15 (tg := 21) rfl (by decide) (fun z => absurd z (by decide)) (fun _ => ?_)
                    refine z_neg gg93_18 ?_
                    refine q_iret gg93_20 ?_
                    refine qv ?_ (k0 (by unfold okO; omega))
                    unfold aOn
                    rw [if_neg (by omega)]
                  )
                · try (exfalso; omega)
                  all_goals (
                    refine z_const gg122_9 (v := 1) rfl ?_
                    refine q_goto gg122_10 (tg := 14) rfl ?_
                    refine z_zretC gg122_14 (by omega) ?_
                    refine z_ifne gg93_15 (tg := 21) rfl (by decide) (fun _ => ?_) (fun z => absurd z (by decide))
                    exfalso
                    omega
                  )
              )
          )
      )
theorem r_on (hz : zR b) (hy : zR y) (hf : aw (M 36) 53 0 20000 w) (hw : gW w) (hA : AR M pa na) (hW : AW pa na) (k0 : ¬ okO w b y → Q (some (.inl (zI (aOn w b y)))) M) (k1 : okO w b y → ∀ M', aw (M' 36) 53 0 20000 (mOn w b y) → AR M' (paK pa na w) (naK na) → FAR M M' → Q (some (.inl (zI (aOn w b y)))) M') : hm_Wp (d + 6) 168 0 [some (.inr (.inr 30)), some (.inl (zI b)), some (.inl (zI y))] [] M Q := by
  have hn := hw.1.1.1
  unfold zR at hz hy
  by_cases hin : 0 ≤ b ∧ b < w 2 ∧ 0 ≤ y ∧ y ≤ 1
  · obtain ⟨b0, b1, y0, y1⟩ := hin
    have w5 := hw.1.1.2.1 b 4 b0 (by omega) (by decide) (by decide)
    have hg := gW_on hw b0 b1 y0 y1
    refine q_aload gg168_0 rfl ?_
    refine q_iload gg168_1 rfl ?_
    refine q_call2 gg168_2 tt152 rfl (Nat.le_of_ble_eq_true rfl) (hm_rv (by decide +kernel)) (ls' := [some _, some _]) rfl rfl ?_
    refine q_iload gg152_0 rfl ?_
    refine z_const gg152_1 (v := 0) rfl ?_
    refine q_aload gg152_2 rfl ?_
    refine q_getr gg152_3 rfl ?_
    refine z_const gg152_6 (v := 2) rfl ?_
    first | (refine z_alr gg152_7 (by first | rfl | assumption) (by assumption) (by omega) (by omega) (by omega) (by decide) (fun visBasin_7 evisBasin_7 lvisBasin_7 uvisBasin_7 => ?_); try dsimp only at evisBasin_7) | (refine z_alx gg152_7 rfl (by assumption) (by omega) (by omega) (by first | omega | decide) (by decide) (fun visBasin_7 evisBasin_7 lvisBasin_7 uvisBasin_7 => ?_); try dsimp only at evisBasin_7) | refine z_alq gg152_7 rfl (by omega) (by omega) (by decide) ?_
    refine z_const gg152_8 (v := 1) rfl ?_
    first | refine z_isub gg152_9 ?_ | refine q_isub gg152_9 ?_
    refine q_call3 gg152_10 tt124 rfl (Nat.le_of_ble_eq_true rfl) rfl (ls' := [some _, some _, some _]) rfl rfl ?_
    refine q_iload gg124_0 rfl ?_
    refine q_iload gg124_1 rfl ?_
    refine z_icmplt gg124_2 (tg := 14) rfl (by omega) (by omega) (fun c1 => ?_) (fun c1 => ?_)
    · try (exfalso; omega)
      all_goals (
        refine z_const gg124_14 (v := 0) rfl ?_
        refine z_zretC gg124_15 (by omega) ?_
        refine z_zretC gg152_13 (by omega) ?_
        refine z_ifeq gg168_5 (tg := 17) rfl (by decide) (fun _ => ?_) (fun z => absurd z (by decide))
        refine z_neg gg168_17 ?_
        refine q_iret gg168_19 ?_
        exfalso
        omega
      )
    · try (exfalso; omega)
      all_goals (
        refine q_iload gg124_5 rfl ?_
        refine q_iload gg124_6 rfl ?_
        refine z_icmpgt gg124_7 (tg := 14) rfl (by omega) (by omega) (fun c2 => ?_) (fun c2 => ?_)
        · try (exfalso; omega)
          all_goals (
            refine z_const gg124_14 (v := 0) rfl ?_
            refine z_zretC gg124_15 (by omega) ?_
            refine z_zretC gg152_13 (by omega) ?_
            refine z_ifeq gg168_5 (tg := 17) rfl (by decide) (fun _ => ?_) (fun z => absurd z (by decide))
            refine z_neg gg168_17 ?_
            refine q_iret gg168_19 ?_
            exfalso
            omega
          )
        · try (exfalso; omega)
          all_goals (
            refine z_const gg124_10 (v := 1) rfl ?_
            refine q_goto gg124_11 (tg := 15) rfl ?_
            refine z_zretC gg124_15 (by omega) ?_
            refine z_zretC gg152_13 (by omega) ?_
            refine z_ifeq gg168_5 (tg := 17) rfl (by decide) (fun z => absurd z (by decide)) (fun _ => ?_)
            refine q_iload gg168_8 rfl ?_
            refine z_const gg168_9 (v := 0) rfl ?_
            refine z_const gg168_10 (v := 1) rfl ?_
            refine q_call3 gg168_11 tt124 rfl (Nat.le_of_ble_eq_true rfl) rfl (ls' := [some _, some _, some _]) rfl rfl ?_
            refine q_iload gg124_0 rfl ?_
            refine q_iload gg124_1 rfl ?_
            refine z_icmplt gg124_2 (tg := 14) rfl (by omega) (by omega) (fun c3 => ?_) (fun c3 => ?_)
            · try (exfalso; omega)
              all_goals (
                refine z_const gg124_14 (v := 0) rfl ?_
                refine z_zretC gg124_15 (by omega) ?_
                refine z_ifne gg168_14 (tg := 20) rfl (by decide) (fun z => absurd z (by decide)) (fun _ => ?_)
                refine z_neg gg168_17 ?_
                refine q_iret gg168_19 ?_
                exfalso
                omega
              )
            · try (exfalso; omega)
              all_goals (
                refine q_iload gg124_5 rfl ?_
                refine q_iload gg124_6 rfl ?_
                refine z_icmpgt gg124_7 (tg := 14) rfl (by omega) (by omega) (fun c4 => ?_) (fun c4 => ?_)
                · try (exfalso; omega)
                  all_goals (
                    refine z_const gg124_14 (v := 0) rfl ?_
                    refine z_zretC gg124_15 (by omega) ?_
                    refine z_ifne gg168_14 (tg := 20) rfl (by decide) (fun z => absurd z (by decide)) (fun _ => ?_)
                    refine z_neg gg168_17 ?_
                    refine q_iret gg168_19 ?_
                    exfalso
                    omega
                  )
                · try (exfalso; omega)
                  all_goals (
                    refine z_const gg124_10 (v := 1) rfl ?_
                    refine q_goto gg124_11 (tg := 15) rfl ?_
                    refine z_zretC gg124_15 (by omega) ?_
                    refine z_ifne gg168_14 (tg := 20) rfl (by decide) (fun _ => ?_) (fun z => absurd z (by decide))
                    refine q_aload gg168_20 rfl ?_
                    refine q_getr gg168_21 rfl ?_
                    refine z_const gg168_24 (v := 4) rfl ?_
                    refine z_const gg168_25 (v := 7) rfl ?_
                    refine q_iload gg168_27 rfl ?_
                    first | refine z_imul gg168_28 ?_ | refine q_imul gg168_28 ?_
                    first | refine z_iadd gg168_29 ?_ | refine q_iadd gg168_29 ?_
                    refine z_const gg168_30 (v := 4) rfl ?_
                    first | refine z_iadd gg168_31 ?_ | refine q_iadd gg168_31 ?_
                    first | (refine z_alr gg168_32 (by first | rfl | assumption) (by assumption) (by omega) (by omega) (by omega) (by decide) (fun v32 ev32 lv32 uv32 => ?_); try dsimp only at ev32) | (refine z_alx gg168_32 rfl (by assumption) (by omega) (by omega) (by first | omega | decide) (by decide) (fun v32 ev32 lv32 uv32 => ?_); try dsimp only at ev32) | refine z_alq gg168_32 rfl (by omega) (by omega) (by decide) ?_
                    refine q_iload gg168_33 rfl ?_
                    refine z_icmpne gg168_34 (tg := 40) rfl (by omega) (by omega) (fun c5 => ?_) (fun c5 => ?_)
                    · try (exfalso; omega)
                      all_goals (
                        refine q_aload gg168_40 rfl ?_
                        refine q_call1 gg168_41 tt165 rfl (Nat.le_of_ble_eq_true rfl) (hm_rv (by decide +kernel)) (ls' := [some _, none]) rfl rfl ?_
                        refine r_notes hf hA hW (fun M1 hA1 hf1 hf2 => ?_)
                        have h36 : aw (M1 36) 53 0 20000 w := by rw [hf1 36 (by decide) (by decide)]; exact hf
                        show hm_Wp _ _ _ _ _ _ _
                        refine hm_Wp.eqM (hm_row_self M1 36).symm ?_
                        refine q_aload gg168_44 rfl ?_
                        refine q_getr gg168_45 rfl ?_
                        refine z_const gg168_48 (v := 4) rfl ?_
                        refine z_const gg168_49 (v := 7) rfl ?_
                        refine q_iload gg168_51 rfl ?_
                        first | refine z_imul gg168_52 ?_ | refine q_imul gg168_52 ?_
                        first | refine z_iadd gg168_53 ?_ | refine q_iadd gg168_53 ?_
                        refine z_const gg168_54 (v := 4) rfl ?_
                        first | refine z_iadd gg168_55 ?_ | refine q_iadd gg168_55 ?_
                        refine q_iload gg168_56 rfl ?_
                        first | refine z_asr gg168_57 (by first | rfl | assumption) (by assumption) (by omega) (by omega) (by decide) (by omega) (by omega) (fun f57 h57 => ?_) | refine z_asx gg168_57 rfl (by omega) (by omega) (by decide) ?_ | refine z_asq gg168_57 rfl (by omega) (by omega) (by decide) ?_
                        refine q_aload gg168_58 rfl ?_
                        refine q_getr gg168_59 rfl ?_
                        refine z_const gg168_62 (v := 4) rfl ?_
                        refine q_call2 gg168_63 tt156 rfl (Nat.le_of_ble_eq_true rfl) rfl (ls' := [some _, some _, none, none]) rfl rfl ?_
                        have h57' : aw f57 53 0 20000 (mOn w b y) := h57
                        refine r_areSo rfl h57' hg.1.1.1.1 hg.1.1.1.2 (by decide) (by decide) (hg.1.f01 (by decide) (by decide)) ?_
                        rw [wf_bs hg.1 (by decide) (by decide)]
                        show hm_Wp _ _ _ _ (_ :: _) _ _
                        refine q_iret gg168_66 ?_
                        have hok : okO w b y := ⟨b0, b1, y0, y1, by omega⟩
                        have := k1 hok _ (by rw [hm_row_same]; exact h57') (hA1.cg (by rw [hm_row_ne _ _ (by decide)]) (hm_row_ne _ _ (by decide))) ((FAR.nt hf1 hf2).tr FAR.row)
                        rw [aOn_y hok] at this
                        exact this
                      )
                    · try (exfalso; omega)
                      all_goals (
                        refine z_neg gg168_37 ?_
                        refine q_iret gg168_39 ?_
                        refine qv ?_ (k0 (by unfold okO; omega))
                        unfold aOn
                        rw [if_pos ⟨b0, b1, y0, y1⟩, if_neg (by omega)]
                      )
                  )
              )
          )
      )
  · refine q_aload gg168_0 rfl ?_
    refine q_iload gg168_1 rfl ?_
    refine q_call2 gg168_2 tt152 rfl (Nat.le_of_ble_eq_true rfl) (hm_rv (by decide +kernel)) (ls' := [some _, some _]) rfl rfl ?_
    refine q_iload gg152_0 rfl ?_
    refine z_const gg152_1 (v := 0) rfl ?_
    refine q_aload gg152_2 rfl ?_
    refine q_getr gg152_3 rfl ?_
    refine z_const gg152_6 (v := 2) rfl ?_
    first | (refine z_alr gg152_7 (by first | rfl | assumption) (by assumption) (by omega) (by omega) (by omega) (by decide) (fun visBasin_7 evisBasin_7 lvisBasin_7 uvisBasin_7 => ?_); try dsimp only at evisBasin_7) | (refine z_alx gg152_7 rfl (by assumption) (by omega) (by omega) (by first | omega | decide) (by decide) (fun visBasin_7 evisBasin_7 lvisBasin_7 uvisBasin_7 => ?_); try dsimp only at evisBasin_7) | refine z_alq gg152_7 rfl (by omega) (by omega) (by decide) ?_
    refine z_const gg152_8 (v := 1) rfl ?_
    first | refine z_isub gg152_9 ?_ | refine q_isub gg152_9 ?_
    refine q_call3 gg152_10 tt124 rfl (Nat.le_of_ble_eq_true rfl) rfl (ls' := [some _, some _, some _]) rfl rfl ?_
    refine q_iload gg124_0 rfl ?_
    refine q_iload gg124_1 rfl ?_
    refine z_icmplt gg124_2 (tg := 14) rfl (by omega) (by omega) (fun c1 => ?_) (fun c1 => ?_)
    · try (exfalso; omega)
      all_goals (
        refine z_const gg124_14 (v := 0) rfl ?_
        refine z_zretC gg124_15 (by omega) ?_
        refine z_zretC gg152_13 (by omega) ?_
        refine z_ifeq gg168_5 (tg := 17) rfl (by decide) (fun _ => ?_) (fun z => absurd z (by decide))
        refine z_neg gg168_17 ?_
        refine q_iret gg168_19 ?_
        refine qv ?_ (k0 (by unfold okO; omega))
        unfold aOn
        rw [if_neg (by omega)]
      )
    · try (exfalso; omega)
      all_goals (
        refine q_iload gg124_5 rfl ?_
        refine q_iload gg124_6 rfl ?_
        refine z_icmpgt gg124_7 (tg := 14) rfl (by omega) (by omega) (fun c2 => ?_) (fun c2 => ?_)
        · try (exfalso; omega)
          all_goals (
            refine z_const gg124_14 (v := 0) rfl ?_
            refine z_zretC gg124_15 (by omega) ?_
            refine z_zretC gg152_13 (by omega) ?_
            refine z_ifeq gg168_5 (tg := 17) rfl (by decide) (fun _ => ?_) (fun z => absurd z (by decide))
            refine z_neg gg168_17 ?_
            refine q_iret gg168_19 ?_
            refine qv ?_ (k0 (by unfold okO; omega))
            unfold aOn
            rw [if_neg (by omega)]
          )
        · try (exfalso; omega)
          all_goals (
            refine z_const gg124_10 (v := 1) rfl ?_
            refine q_goto gg124_11 (tg := 15) rfl ?_
            refine z_zretC gg124_15 (by omega) ?_
            refine z_zretC gg152_13 (by omega) ?_
            refine z_ifeq gg168_5 (tg := 17) rfl (by decide) (fun z => absurd z (by decide)) (fun _ => ?_)
            refine q_iload gg168_8 rfl ?_
            refine z_const gg168_9 (v := 0) rfl ?_
            refine z_const gg168_10 (v := 1) rfl ?_
            refine q_call3 gg168_11 tt124 rfl (Nat.le_of_ble_eq_true rfl) rfl (ls' := [some _, some _, some _]) rfl rfl ?_
            refine q_iload gg124_0 rfl ?_
            refine q_iload gg124_1 rfl ?_
            refine z_icmplt gg124_2 (tg := 14) rfl (by omega) (by omega) (fun c3 => ?_) (fun c3 => ?_)
            · try (exfalso; omega)
              all_goals (
                refine z_const gg124_14 (v := 0) rfl ?_
                refine z_zretC gg124_15 (by omega) ?_
                refine z_ifne gg168_14 (tg := 20) rfl (by decide) (fun z => absurd z (by decide)) (fun _ => ?_)
                refine z_neg gg168_17 ?_
                refine q_iret gg168_19 ?_
                refine qv ?_ (k0 (by unfold okO; omega))
                unfold aOn
                rw [if_neg (by omega)]
              )
            · try (exfalso; omega)
              all_goals (
                refine q_iload gg124_5 rfl ?_
                refine q_iload gg124_6 rfl ?_
                refine z_icmpgt gg124_7 (tg := 14) rfl (by omega) (by omega) (fun c4 => ?_) (fun c4 => ?_)
                · try (exfalso; omega)
                  all_goals (
                    refine z_const gg124_14 (v := 0) rfl ?_
                    refine z_zretC gg124_15 (by omega) ?_
                    refine z_ifne gg168_14 (tg := 20) rfl (by decide) (fun z => absurd z (by decide)) (fun _ => ?_)
                    refine z_neg gg168_17 ?_
                    refine q_iret gg168_19 ?_
                    refine qv ?_ (k0 (by unfold okO; omega))
                    unfold aOn
                    rw [if_neg (by omega)]
                  )
                · try (exfalso; omega)
                  all_goals (
                    refine z_const gg124_10 (v := 1) rfl ?_
                    refine q_goto gg124_11 (tg := 15) rfl ?_
                    refine z_zretC gg124_15 (by omega) ?_
                    refine z_ifne gg168_14 (tg := 20) rfl (by decide) (fun _ => ?_) (fun z => absurd z (by decide))
                    exfalso
                    omega
                  )
              )
          )
      )
/-! swap -/
def okW (w : Int → Int) (a b : Int) : Prop := 0 ≤ a ∧ a < w 2 ∧ 0 ≤ b ∧ b < w 2 ∧ a ≠ b
def aSwap (w : Int → Int) (a b : Int) : Int := if 0 ≤ a ∧ a < w 2 ∧ 0 ≤ b ∧ b < w 2 ∧ a ≠ b then mSwap w a b (4 + 7 * a + 3) else -1000001
theorem aSwap_y (h : okW w a b) : aSwap w a b = mSwap w a b (4 + 7 * a + 3) := by unfold okW at h; unfold aSwap; rw [if_pos h]
theorem gW_swap (h : gW w) (ha0 : 0 ≤ a) (ha : a < w 2) (hb0 : 0 ≤ b) (hb : b < w 2) : gW (mSwap w a b) := ⟨mWf_swap h.1 ha0 ha hb0 hb, by rw [mSwap_ne (by omega) (by omega), mSwap_ne (by omega) (by omega)]; exact h.2.1, by rw [mSwap_3]; exact h.2.2⟩
theorem c_swap (hz : zR a) (hy : zR b) (h : Hb M 7 w) (hw : gW w) (hA : AC M pa na) (hW : AW pa na) (k0 : ¬ okW w a b → Q (some (.inl (zI (aSwap w a b)))) M) (k1 : okW w a b → ∀ M', Hb M' 7 (mSwap w a b) → AC M' (paK pa na w) (naK na) → FA M M' → Q (some (.inl (zI (aSwap w a b)))) M') : hm_Wp (d + 6) 94 0 [some (.inr (.inr 0)), some (.inl (zI a)), some (.inl (zI b))] [] M Q := by
  have hn := hw.1.1.1
  have h4 := h.1.1
  unfold zR at hz hy
  by_cases hok : okW w a b
  · have hok' := hok
    obtain ⟨a0, a1, b0, b1, hab⟩ := hok'
    refine q_aload gg94_0 rfl ?_
    refine q_getr gg94_1 rfl ?_
    refine q_iload gg94_4 rfl ?_
    refine q_call2 gg94_5 tt32 rfl (Nat.le_of_ble_eq_true rfl) (hm_rv (by decide +kernel)) (ls' := [some _, some _]) rfl rfl ?_
    refine q_iload gg32_0 rfl ?_
    refine z_iflt gg32_1 (tg := 16) rfl (by omega) (fun c1 => ?_) (fun c1 => ?_)
    · try (exfalso; omega)
      all_goals (
        refine z_const gg32_16 (v := 0) rfl ?_
        refine z_zretC gg32_17 (by omega) ?_
        refine z_ifeq gg94_8 (tg := 27) rfl (by decide) (fun _ => ?_) (fun z => absurd z (by decide))
        refine z_neg gg94_27 ?_
        refine q_iret gg94_29 ?_
        exfalso
        omega
      )
    · try (exfalso; omega)
      all_goals (
        refine q_iload gg32_4 rfl ?_
        refine q_aload gg32_5 rfl ?_
        first | refine z_getf gg32_6 rfl (by assumption) ?_ | refine q_getf gg32_6 rfl ?_
        refine z_icmpge gg32_9 (tg := 16) rfl (by omega) (by omega) (fun c2 => ?_) (fun c2 => ?_)
        · try (exfalso; omega)
          all_goals (
            refine z_const gg32_16 (v := 0) rfl ?_
            refine z_zretC gg32_17 (by omega) ?_
            refine z_ifeq gg94_8 (tg := 27) rfl (by decide) (fun _ => ?_) (fun z => absurd z (by decide))
            refine z_neg gg94_27 ?_
            refine q_iret gg94_29 ?_
            exfalso
            omega
          )
        · try (exfalso; omega)
          all_goals (
            refine z_const gg32_12 (v := 1) rfl ?_
            refine q_goto gg32_13 (tg := 17) rfl ?_
            refine z_zretC gg32_17 (by omega) ?_
            refine z_ifeq gg94_8 (tg := 27) rfl (by decide) (fun z => absurd z (by decide)) (fun _ => ?_)
            refine q_aload gg94_11 rfl ?_
            refine q_getr gg94_12 rfl ?_
            refine q_iload gg94_15 rfl ?_
            refine q_call2 gg94_16 tt32 rfl (Nat.le_of_ble_eq_true rfl) (hm_rv (by decide +kernel)) (ls' := [some _, some _]) rfl rfl ?_
            refine q_iload gg32_0 rfl ?_
            refine z_iflt gg32_1 (tg := 16) rfl (by omega) (fun c3 => ?_) (fun c3 => ?_)
            · try (exfalso; omega)
              all_goals (
                refine z_const gg32_16 (v := 0) rfl ?_
                refine z_zretC gg32_17 (by omega) ?_
                refine z_ifeq gg94_19 (tg := 27) rfl (by decide) (fun _ => ?_) (fun z => absurd z (by decide))
                refine z_neg gg94_27 ?_
                refine q_iret gg94_29 ?_
                exfalso
                omega
              )
            · try (exfalso; omega)
              all_goals (
                refine q_iload gg32_4 rfl ?_
                refine q_aload gg32_5 rfl ?_
                first | refine z_getf gg32_6 rfl (by assumption) ?_ | refine q_getf gg32_6 rfl ?_
                refine z_icmpge gg32_9 (tg := 16) rfl (by omega) (by omega) (fun c4 => ?_) (fun c4 => ?_)
                · try (exfalso; omega)
                  all_goals (
                    refine z_const gg32_16 (v := 0) rfl ?_
                    refine z_zretC gg32_17 (by omega) ?_
                    refine z_ifeq gg94_19 (tg := 27) rfl (by decide) (fun _ => ?_) (fun z => absurd z (by decide))
                    refine z_neg gg94_27 ?_
                    refine q_iret gg94_29 ?_
                    exfalso
                    omega
                  )
                · try (exfalso; omega)
                  all_goals (
                    refine z_const gg32_12 (v := 1) rfl ?_
                    refine q_goto gg32_13 (tg := 17) rfl ?_
                    refine z_zretC gg32_17 (by omega) ?_
                    refine z_ifeq gg94_19 (tg := 27) rfl (by decide) (fun z => absurd z (by decide)) (fun _ => ?_)
                    refine q_iload gg94_22 rfl ?_
                    refine q_iload gg94_23 rfl ?_
                    refine z_icmpne gg94_24 (tg := 30) rfl (by omega) (by omega) (fun c5 => ?_) (fun c5 => ?_)
                    · try (exfalso; omega)
                      all_goals (
                        refine q_aload gg94_30 rfl ?_
                        refine q_getr gg94_31 rfl ?_
                        refine q_aload gg94_34 rfl ?_
                        refine q_getr gg94_35 rfl ?_
                        refine q_call2 gg94_38 tt0 rfl (Nat.le_of_ble_eq_true rfl) (hm_rv (by decide +kernel)) (ls' := [some _, some _]) rfl rfl ?_
                        refine c_keep h hw hA hW (fun M1 hA1 hf1 => ?_)
                        show hm_Wp _ _ _ _ _ _ _
                        refine q_aload gg94_41 rfl ?_
                        refine q_getr gg94_42 rfl ?_
                        refine q_iload gg94_45 rfl ?_
                        refine q_iload gg94_46 rfl ?_
                        refine q_call3 gg94_47 tt50 rfl (Nat.le_of_ble_eq_true rfl) (hm_rv (by decide +kernel)) (ls' := [some _, some _, some _, none]) rfl rfl ?_
                        refine c_exchange (by omega) (h.kp hf1) hw.1 a0 a1 b0 b1 (fun M2 h2 hfr => ?_)
                        have a4 := h2.1.2.2.2.2.2.2.2.2
                        rw [mSwap_ne (i := 2) (by omega) (by omega)] at a4
                        show hm_Wp _ _ _ _ _ _ _
                        refine q_aload gg94_50 rfl ?_
                        refine q_getr gg94_51 rfl ?_
                        refine q_getr gg94_54 rfl ?_
                        refine q_iload gg94_57 rfl ?_
                        first | (refine z_alr gg94_58 (by first | rfl | assumption) (by assumption) (by omega) (by omega) (by omega) (by decide) (fun v58 ev58 lv58 uv58 => ?_); try dsimp only at ev58) | (refine z_alx gg94_58 rfl (by assumption) (by omega) (by omega) (by first | omega | decide) (by decide) (fun v58 ev58 lv58 uv58 => ?_); try dsimp only at ev58) | refine z_alq gg94_58 rfl (by omega) (by omega) (by decide) ?_
                        refine q_iret gg94_59 ?_
                        have := k1 hok M2 h2 (hA1.cg (hfr 17 (by omega)) (hfr 18 (by omega))) ((FA.kp hf1).tr (FA.fr hfr))
                        rw [aSwap_y hok] at this
                        exact qv ev58 this
                      )
                    · try (exfalso; omega)
                      all_goals (
                        refine z_neg gg94_27 ?_
                        refine q_iret gg94_29 ?_
                        exfalso
                        omega
                      )
                  )
              )
          )
      )
  · have kq := k0 hok
    unfold aSwap at kq
    unfold okW at hok
    rw [if_neg hok] at kq
    refine q_aload gg94_0 rfl ?_
    refine q_getr gg94_1 rfl ?_
    refine q_iload gg94_4 rfl ?_
    refine q_call2 gg94_5 tt32 rfl (Nat.le_of_ble_eq_true rfl) (hm_rv (by decide +kernel)) (ls' := [some _, some _]) rfl rfl ?_
    refine q_iload gg32_0 rfl ?_
    refine z_iflt gg32_1 (tg := 16) rfl (by omega) (fun c1 => ?_) (fun c1 => ?_)
    · try (exfalso; omega)
      all_goals (
        refine z_const gg32_16 (v := 0) rfl ?_
        refine z_zretC gg32_17 (by omega) ?_
        refine z_ifeq gg94_8 (tg := 27) rfl (by decide) (fun _ => ?_) (fun z => absurd z (by decide))
        refine z_neg gg94_27 ?_
        refine q_iret gg94_29 ?_
        exact kq
      )
    · try (exfalso; omega)
      all_goals (
        refine q_iload gg32_4 rfl ?_
        refine q_aload gg32_5 rfl ?_
        first | refine z_getf gg32_6 rfl (by assumption) ?_ | refine q_getf gg32_6 rfl ?_
        refine z_icmpge gg32_9 (tg := 16) rfl (by omega) (by omega) (fun c2 => ?_) (fun c2 => ?_)
        · try (exfalso; omega)
          all_goals (
            refine z_const gg32_16 (v := 0) rfl ?_
            refine z_zretC gg32_17 (by omega) ?_
            refine z_ifeq gg94_8 (tg := 27) rfl (by decide) (fun _ => ?_) (fun z => absurd z (by decide))
            refine z_neg gg94_27 ?_
            refine q_iret gg94_29 ?_
            exact kq
          )
        · try (exfalso; omega)
          all_goals (
            refine z_const gg32_12 (v := 1) rfl ?_
            refine q_goto gg32_13 (tg := 17) rfl ?_
            refine z_zretC gg32_17 (by omega) ?_
            refine z_ifeq gg94_8 (tg := 27) rfl (by decide) (fun z => absurd z (by decide)) (fun _ => ?_)
            refine q_aload gg94_11 rfl ?_
            refine q_getr gg94_12 rfl ?_
            refine q_iload gg94_15 rfl ?_
            refine q_call2 gg94_16 tt32 rfl (Nat.le_of_ble_eq_true rfl) (hm_rv (by decide +kernel)) (ls' := [some _, some _]) rfl rfl ?_
            refine q_iload gg32_0 rfl ?_
            refine z_iflt gg32_1 (tg := 16) rfl (by omega) (fun c3 => ?_) (fun c3 => ?_)
            · try (exfalso; omega)
              all_goals (
                refine z_const gg32_16 (v := 0) rfl ?_
                refine z_zretC gg32_17 (by omega) ?_
                refine z_ifeq gg94_19 (tg := 27) rfl (by decide) (fun _ => ?_) (fun z => absurd z (by decide))
                refine z_neg gg94_27 ?_
                refine q_iret gg94_29 ?_
                exact kq
              )
            · try (exfalso; omega)
              all_goals (
                refine q_iload gg32_4 rfl ?_
                refine q_aload gg32_5 rfl ?_
                first | refine z_getf gg32_6 rfl (by assumption) ?_ | refine q_getf gg32_6 rfl ?_
                refine z_icmpge gg32_9 (tg := 16) rfl (by omega) (by omega) (fun c4 => ?_) (fun c4 => ?_)
                · try (exfalso; omega)
                  all_goals (
                    refine z_const gg32_16 (v := 0) rfl ?_
                    refine z_zretC gg32_17 (by omega) ?_
                    refine z_ifeq gg94_19 (tg := 27) rfl (by decide) (fun _ => ?_) (fun z => absurd z (by decide))
                    refine z_neg gg94_27 ?_
                    refine q_iret gg94_29 ?_
                    exact kq
                  )
                · try (exfalso; omega)
                  all_goals (
                    refine z_const gg32_12 (v := 1) rfl ?_
                    refine q_goto gg32_13 (tg := 17) rfl ?_
                    refine z_zretC gg32_17 (by omega) ?_
                    refine z_ifeq gg94_19 (tg := 27) rfl (by decide) (fun z => absurd z (by decide)) (fun _ => ?_)
                    refine q_iload gg94_22 rfl ?_
                    refine q_iload gg94_23 rfl ?_
                    refine z_icmpne gg94_24 (tg := 30) rfl (by omega) (by omega) (fun c5 => ?_) (fun c5 => ?_)
                    · try (exfalso; omega)
                      all_goals (
                        exfalso
                        omega
                      )
                    · try (exfalso; omega)
                      all_goals (
                        refine z_neg gg94_27 ?_
                        refine q_iret gg94_29 ?_
                        exact kq
                      )
                  )
              )
          )
      )
theorem r_swap (hz : zR a) (hy : zR b) (hf : aw (M 36) 53 0 20000 w) (hw : gW w) (hA : AR M pa na) (hW : AW pa na) (k0 : ¬ okW w a b → Q (some (.inl (zI (aSwap w a b)))) M) (k1 : okW w a b → ∀ M', aw (M' 36) 53 0 20000 (mSwap w a b) → AR M' (paK pa na w) (naK na) → FAR M M' → Q (some (.inl (zI (aSwap w a b)))) M') : hm_Wp (d + 6) 169 0 [some (.inr (.inr 30)), some (.inl (zI a)), some (.inl (zI b))] [] M Q := by
  have hn := hw.1.1.1
  unfold zR at hz hy
  by_cases hok : okW w a b
  · have hok' := hok
    obtain ⟨a0, a1, b0, b1, hab⟩ := hok'
    refine q_aload gg169_0 rfl ?_
    refine q_iload gg169_1 rfl ?_
    refine q_call2 gg169_2 tt152 rfl (Nat.le_of_ble_eq_true rfl) (hm_rv (by decide +kernel)) (ls' := [some _, some _]) rfl rfl ?_
    refine q_iload gg152_0 rfl ?_
    refine z_const gg152_1 (v := 0) rfl ?_
    refine q_aload gg152_2 rfl ?_
    refine q_getr gg152_3 rfl ?_
    refine z_const gg152_6 (v := 2) rfl ?_
    first | (refine z_alr gg152_7 (by first | rfl | assumption) (by assumption) (by omega) (by omega) (by omega) (by decide) (fun visBasin_7 evisBasin_7 lvisBasin_7 uvisBasin_7 => ?_); try dsimp only at evisBasin_7) | (refine z_alx gg152_7 rfl (by assumption) (by omega) (by omega) (by first | omega | decide) (by decide) (fun visBasin_7 evisBasin_7 lvisBasin_7 uvisBasin_7 => ?_); try dsimp only at evisBasin_7) | refine z_alq gg152_7 rfl (by omega) (by omega) (by decide) ?_
    refine z_const gg152_8 (v := 1) rfl ?_
    first | refine z_isub gg152_9 ?_ | refine q_isub gg152_9 ?_
    refine q_call3 gg152_10 tt124 rfl (Nat.le_of_ble_eq_true rfl) rfl (ls' := [some _, some _, some _]) rfl rfl ?_
    refine q_iload gg124_0 rfl ?_
    refine q_iload gg124_1 rfl ?_
    refine z_icmplt gg124_2 (tg := 14) rfl (by omega) (by omega) (fun c1 => ?_) (fun c1 => ?_)
    · try (exfalso; omega)
      all_goals (
        refine z_const gg124_14 (v := 0) rfl ?_
        refine z_zretC gg124_15 (by omega) ?_
        refine z_zretC gg152_13 (by omega) ?_
        refine z_ifeq gg169_5 (tg := 21) rfl (by decide) (fun _ => ?_) (fun z => absurd z (by decide))
        refine z_neg gg169_21 ?_
        refine q_iret gg169_23 ?_
        exfalso
        omega
      )
    · try (exfalso; omega)
      all_goals (
        refine q_iload gg124_5 rfl ?_
        refine q_iload gg124_6 rfl ?_
        refine z_icmpgt gg124_7 (tg := 14) rfl (by omega) (by omega) (fun c2 => ?_) (fun c2 => ?_)
        · try (exfalso; omega)
          all_goals (
            refine z_const gg124_14 (v := 0) rfl ?_
            refine z_zretC gg124_15 (by omega) ?_
            refine z_zretC gg152_13 (by omega) ?_
            refine z_ifeq gg169_5 (tg := 21) rfl (by decide) (fun _ => ?_) (fun z => absurd z (by decide))
            refine z_neg gg169_21 ?_
            refine q_iret gg169_23 ?_
            exfalso
            omega
          )
        · try (exfalso; omega)
          all_goals (
            refine z_const gg124_10 (v := 1) rfl ?_
            refine q_goto gg124_11 (tg := 15) rfl ?_
            refine z_zretC gg124_15 (by omega) ?_
            refine z_zretC gg152_13 (by omega) ?_
            refine z_ifeq gg169_5 (tg := 21) rfl (by decide) (fun z => absurd z (by decide)) (fun _ => ?_)
            refine q_aload gg169_8 rfl ?_
            refine q_iload gg169_9 rfl ?_
            refine q_call2 gg169_10 tt152 rfl (Nat.le_of_ble_eq_true rfl) (hm_rv (by decide +kernel)) (ls' := [some _, some _]) rfl rfl ?_
            refine q_iload gg152_0 rfl ?_
            refine z_const gg152_1 (v := 0) rfl ?_
            refine q_aload gg152_2 rfl ?_
            refine q_getr gg152_3 rfl ?_
            refine z_const gg152_6 (v := 2) rfl ?_
            first | (refine z_alr gg152_7 (by first | rfl | assumption) (by assumption) (by omega) (by omega) (by omega) (by decide) (fun visBasin_7 evisBasin_7 lvisBasin_7 uvisBasin_7 => ?_); try dsimp only at evisBasin_7) | (refine z_alx gg152_7 rfl (by assumption) (by omega) (by omega) (by first | omega | decide) (by decide) (fun visBasin_7 evisBasin_7 lvisBasin_7 uvisBasin_7 => ?_); try dsimp only at evisBasin_7) | refine z_alq gg152_7 rfl (by omega) (by omega) (by decide) ?_
            refine z_const gg152_8 (v := 1) rfl ?_
            first | refine z_isub gg152_9 ?_ | refine q_isub gg152_9 ?_
            refine q_call3 gg152_10 tt124 rfl (Nat.le_of_ble_eq_true rfl) rfl (ls' := [some _, some _, some _]) rfl rfl ?_
            refine q_iload gg124_0 rfl ?_
            refine q_iload gg124_1 rfl ?_
            refine z_icmplt gg124_2 (tg := 14) rfl (by omega) (by omega) (fun c3 => ?_) (fun c3 => ?_)
            · try (exfalso; omega)
              all_goals (
                refine z_const gg124_14 (v := 0) rfl ?_
                refine z_zretC gg124_15 (by omega) ?_
                refine z_zretC gg152_13 (by omega) ?_
                refine z_ifeq gg169_13 (tg := 21) rfl (by decide) (fun _ => ?_) (fun z => absurd z (by decide))
                refine z_neg gg169_21 ?_
                refine q_iret gg169_23 ?_
                exfalso
                omega
              )
            · try (exfalso; omega)
              all_goals (
                refine q_iload gg124_5 rfl ?_
                refine q_iload gg124_6 rfl ?_
                refine z_icmpgt gg124_7 (tg := 14) rfl (by omega) (by omega) (fun c4 => ?_) (fun c4 => ?_)
                · try (exfalso; omega)
                  all_goals (
                    refine z_const gg124_14 (v := 0) rfl ?_
                    refine z_zretC gg124_15 (by omega) ?_
                    refine z_zretC gg152_13 (by omega) ?_
                    refine z_ifeq gg169_13 (tg := 21) rfl (by decide) (fun _ => ?_) (fun z => absurd z (by decide))
                    refine z_neg gg169_21 ?_
                    refine q_iret gg169_23 ?_
                    exfalso
                    omega
                  )
                · try (exfalso; omega)
                  all_goals (
                    refine z_const gg124_10 (v := 1) rfl ?_
                    refine q_goto gg124_11 (tg := 15) rfl ?_
                    refine z_zretC gg124_15 (by omega) ?_
                    refine z_zretC gg152_13 (by omega) ?_
                    refine z_ifeq gg169_13 (tg := 21) rfl (by decide) (fun z => absurd z (by decide)) (fun _ => ?_)
                    refine q_iload gg169_16 rfl ?_
                    refine q_iload gg169_17 rfl ?_
                    refine z_icmpne gg169_18 (tg := 24) rfl (by omega) (by omega) (fun c5 => ?_) (fun c5 => ?_)
                    · try (exfalso; omega)
                      all_goals (
                        refine q_aload gg169_24 rfl ?_
                        refine q_call1 gg169_25 tt165 rfl (Nat.le_of_ble_eq_true rfl) (hm_rv (by decide +kernel)) (ls' := [some _, none]) rfl rfl ?_
                        refine r_notes hf hA hW (fun M1 hA1 hf1 hf2 => ?_)
                        have h36 : aw (M1 36) 53 0 20000 w := by rw [hf1 36 (by decide) (by decide)]; exact hf
                        show hm_Wp _ _ _ _ _ _ _
                        refine q_aload gg169_28 rfl ?_
                        refine q_getr gg169_29 rfl ?_
                        refine q_iload gg169_32 rfl ?_
                        refine q_iload gg169_33 rfl ?_
                        refine q_call3 gg169_34 tt164 rfl (Nat.le_of_ble_eq_true rfl) rfl (ls' := [some _, some _, some _, none]) rfl rfl ?_
                        refine hm_Wp.eqM (hm_row_self M1 36).symm ?_
                        refine r_changes rfl h36 a0 (by omega) b0 (by omega) (fun f2 hf2' => ?_)
                        show hm_Wp _ _ _ _ _ _ _
                        refine q_aload gg169_37 rfl ?_
                        refine q_getr gg169_38 rfl ?_
                        refine z_const gg169_41 (v := 4) rfl ?_
                        refine z_const gg169_42 (v := 7) rfl ?_
                        refine q_iload gg169_44 rfl ?_
                        first | refine z_imul gg169_45 ?_ | refine q_imul gg169_45 ?_
                        first | refine z_iadd gg169_46 ?_ | refine q_iadd gg169_46 ?_
                        refine z_const gg169_47 (v := 3) rfl ?_
                        first | refine z_iadd gg169_48 ?_ | refine q_iadd gg169_48 ?_
                        first | (refine z_alr gg169_49 (by first | rfl | assumption) (by assumption) (by omega) (by omega) (by omega) (by decide) (fun v49 ev49 lv49 uv49 => ?_); try dsimp only at ev49) | (refine z_alx gg169_49 rfl (by assumption) (by omega) (by omega) (by first | omega | decide) (by decide) (fun v49 ev49 lv49 uv49 => ?_); try dsimp only at ev49) | refine z_alq gg169_49 rfl (by omega) (by omega) (by decide) ?_
                        refine q_iret gg169_50 ?_
                        have := k1 hok _ (by rw [hm_row_same]; exact hf2') (hA1.cg (by rw [hm_row_ne _ _ (by decide)]) (hm_row_ne _ _ (by decide))) ((FAR.nt hf1 hf2).tr FAR.row)
                        rw [aSwap_y hok] at this
                        exact qv ev49 this
                      )
                    · try (exfalso; omega)
                      all_goals (
                        refine z_neg gg169_21 ?_
                        refine q_iret gg169_23 ?_
                        exfalso
                        omega
                      )
                  )
              )
          )
      )
  · have kq := k0 hok
    unfold aSwap at kq
    unfold okW at hok
    rw [if_neg hok] at kq
    refine q_aload gg169_0 rfl ?_
    refine q_iload gg169_1 rfl ?_
    refine q_call2 gg169_2 tt152 rfl (Nat.le_of_ble_eq_true rfl) (hm_rv (by decide +kernel)) (ls' := [some _, some _]) rfl rfl ?_
    refine q_iload gg152_0 rfl ?_
    refine z_const gg152_1 (v := 0) rfl ?_
    refine q_aload gg152_2 rfl ?_
    refine q_getr gg152_3 rfl ?_
    refine z_const gg152_6 (v := 2) rfl ?_
    first | (refine z_alr gg152_7 (by first | rfl | assumption) (by assumption) (by omega) (by omega) (by omega) (by decide) (fun visBasin_7 evisBasin_7 lvisBasin_7 uvisBasin_7 => ?_); try dsimp only at evisBasin_7) | (refine z_alx gg152_7 rfl (by assumption) (by omega) (by omega) (by first | omega | decide) (by decide) (fun visBasin_7 evisBasin_7 lvisBasin_7 uvisBasin_7 => ?_); try dsimp only at evisBasin_7) | refine z_alq gg152_7 rfl (by omega) (by omega) (by decide) ?_
    refine z_const gg152_8 (v := 1) rfl ?_
    first | refine z_isub gg152_9 ?_ | refine q_isub gg152_9 ?_
    refine q_call3 gg152_10 tt124 rfl (Nat.le_of_ble_eq_true rfl) rfl (ls' := [some _, some _, some _]) rfl rfl ?_
    refine q_iload gg124_0 rfl ?_
    refine q_iload gg124_1 rfl ?_
    refine z_icmplt gg124_2 (tg := 14) rfl (by omega) (by omega) (fun c1 => ?_) (fun c1 => ?_)
    · try (exfalso; omega)
      all_goals (
        refine z_const gg124_14 (v := 0) rfl ?_
        refine z_zretC gg124_15 (by omega) ?_
        refine z_zretC gg152_13 (by omega) ?_
        refine z_ifeq gg169_5 (tg := 21) rfl (by decide) (fun _ => ?_) (fun z => absurd z (by decide))
        refine z_neg gg169_21 ?_
        refine q_iret gg169_23 ?_
        exact kq
      )
    · try (exfalso; omega)
      all_goals (
        refine q_iload gg124_5 rfl ?_
        refine q_iload gg124_6 rfl ?_
        refine z_icmpgt gg124_7 (tg := 14) rfl (by omega) (by omega) (fun c2 => ?_) (fun c2 => ?_)
        · try (exfalso; omega)
          all_goals (
            refine z_const gg124_14 (v := 0) rfl ?_
            refine z_zretC gg124_15 (by omega) ?_
            refine z_zretC gg152_13 (by omega) ?_
            refine z_ifeq gg169_5 (tg := 21) rfl (by decide) (fun _ => ?_) (fun z => absurd z (by decide))
            refine z_neg gg169_21 ?_
            refine q_iret gg169_23 ?_
            exact kq
          )
        · try (exfalso; omega)
          all_goals (
            refine z_const gg124_10 (v := 1) rfl ?_
            refine q_goto gg124_11 (tg := 15) rfl ?_
            refine z_zretC gg124_15 (by omega) ?_
            refine z_zretC gg152_13 (by omega) ?_
            refine z_ifeq gg169_5 (tg := 21) rfl (by decide) (fun z => absurd z (by decide)) (fun _ => ?_)
            refine q_aload gg169_8 rfl ?_
            refine q_iload gg169_9 rfl ?_
            refine q_call2 gg169_10 tt152 rfl (Nat.le_of_ble_eq_true rfl) (hm_rv (by decide +kernel)) (ls' := [some _, some _]) rfl rfl ?_
            refine q_iload gg152_0 rfl ?_
            refine z_const gg152_1 (v := 0) rfl ?_
            refine q_aload gg152_2 rfl ?_
            refine q_getr gg152_3 rfl ?_
            refine z_const gg152_6 (v := 2) rfl ?_
            first | (refine z_alr gg152_7 (by first | rfl | assumption) (by assumption) (by omega) (by omega) (by omega) (by decide) (fun visBasin_7 evisBasin_7 lvisBasin_7 uvisBasin_7 => ?_); try dsimp only at evisBasin_7) | (refine z_alx gg152_7 rfl (by assumption) (by omega) (by omega) (by first | omega | decide) (by decide) (fun visBasin_7 evisBasin_7 lvisBasin_7 uvisBasin_7 => ?_); try dsimp only at evisBasin_7) | refine z_alq gg152_7 rfl (by omega) (by omega) (by decide) ?_
            refine z_const gg152_8 (v := 1) rfl ?_
            first | refine z_isub gg152_9 ?_ | refine q_isub gg152_9 ?_
            refine q_call3 gg152_10 tt124 rfl (Nat.le_of_ble_eq_true rfl) rfl (ls' := [some _, some _, some _]) rfl rfl ?_
            refine q_iload gg124_0 rfl ?_
            refine q_iload gg124_1 rfl ?_
            refine z_icmplt gg124_2 (tg := 14) rfl (by omega) (by omega) (fun c3 => ?_) (fun c3 => ?_)
            · try (exfalso; omega)
              all_goals (
                refine z_const gg124_14 (v := 0) rfl ?_
                refine z_zretC gg124_15 (by omega) ?_
                refine z_zretC gg152_13 (by omega) ?_
                refine z_ifeq gg169_13 (tg := 21) rfl (by decide) (fun _ => ?_) (fun z => absurd z (by decide))
                refine z_neg gg169_21 ?_
                refine q_iret gg169_23 ?_
                exact kq
              )
            · try (exfalso; omega)
              all_goals (
                refine q_iload gg124_5 rfl ?_
                refine q_iload gg124_6 rfl ?_
                refine z_icmpgt gg124_7 (tg := 14) rfl (by omega) (by omega) (fun c4 => ?_) (fun c4 => ?_)
                · try (exfalso; omega)
                  all_goals (
                    refine z_const gg124_14 (v := 0) rfl ?_
                    refine z_zretC gg124_15 (by omega) ?_
                    refine z_zretC gg152_13 (by omega) ?_
                    refine z_ifeq gg169_13 (tg := 21) rfl (by decide) (fun _ => ?_) (fun z => absurd z (by decide))
                    refine z_neg gg169_21 ?_
                    refine q_iret gg169_23 ?_
                    exact kq
                  )
                · try (exfalso; omega)
                  all_goals (
                    refine z_const gg124_10 (v := 1) rfl ?_
                    refine q_goto gg124_11 (tg := 15) rfl ?_
                    refine z_zretC gg124_15 (by omega) ?_
                    refine z_zretC gg152_13 (by omega) ?_
                    refine z_ifeq gg169_13 (tg := 21) rfl (by decide) (fun z => absurd z (by decide)) (fun _ => ?_)
                    refine q_iload gg169_16 rfl ?_
                    refine q_iload gg169_17 rfl ?_
                    refine z_icmpne gg169_18 (tg := 24) rfl (by omega) (by omega) (fun c5 => ?_) (fun c5 => ?_)
                    · try (exfalso; omega)
                      all_goals (
                        exfalso
                        omega
                      )
                    · try (exfalso; omega)
                      all_goals (
                        refine z_neg gg169_21 ?_
                        refine q_iret gg169_23 ?_
                        exact kq
                      )
                  )
              )
          )
      )
end A3
