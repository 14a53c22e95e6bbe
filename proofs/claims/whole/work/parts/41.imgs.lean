theorem hm_swt_cons {v : Int} {t d : Nat} {l : List (Int × Nat)} {x : Int} : hm_swt ((v, t) :: l) d x = if x = v then t else hm_swt l d x := rfl
theorem hm_swt_nil {d : Nat} {x : Int} : hm_swt [] d x = d := rfl
section I1
variable {d r mid pc nx k : Nat} {M N : hm_M} {w v w0 g ik : Int → Int} {b n e x a s y c q i p na nxt : Int} {f F : Nat → Int32} {pa im : Int → Int → Int} {Q : Option hm_V → hm_M → Prop} {l : List (Int × Nat)} {ls : hm_L} {st : List hm_V}
theorem z_zald {n : Nat} (h : hm_at mid pc = some (nx, 20, c, 1, l)) (ha : hm_arr M true k = some (n, f)) (h0 : 0 ≤ x) (h1 : x < (n : Int)) (hn : n < 2 ^ 31) (kk : hm_Wp d mid nx ls (.inl (f x.toNat) :: st) M Q) : hm_Wp d mid pc ls (.inl (zI x) :: .inr (.inr k) :: st) M Q := by
  rw [zI_nat h0 (by omega)]
  exact q_zald h ha (by omega) hn kk
theorem z_zast {n : Nat} (h : hm_at mid pc = some (nx, 21, c, 1, l)) (ha : hm_sh[k]? = some (.inl (true, n))) (hy : y = 0 ∨ y = 1) (h0 : 0 ≤ x) (h1 : x < (n : Int)) (hn : n < 2 ^ 31) (kk : hm_Wp d mid nx ls st (hm_up M k x.toNat (zI y)) Q) : hm_Wp d mid pc ls (.inl (zI y) :: .inl (zI x) :: .inr (.inr k) :: st) M Q := by
  rw [zI_nat h0 (by omega)]
  exact q_zast h ha (hy.elim (fun e => Or.inl (by rw [e]; rfl)) (fun e => Or.inr (by rw [e]; rfl))) (by omega) hn kk
def IC (M : hm_M) (im : Int → Int → Int) (ik : Int → Int) : Prop := M 19 1 = zI (ik 0 + 2 * ik 1) ∧ ∀ j : Int, 0 ≤ j → j ≤ 1 → ik j = 1 → enc (M 20) (35 * j) (im j)
def IR (M : hm_M) (im : Int → Int → Int) (ik : Int → Int) : Prop := ∀ j : Int, 0 ≤ j → j ≤ 1 → M 41 j.toNat = zI (ik j) ∧ (ik j = 1 → ∀ i : Int, 0 ≤ i → i < 53 → M 40 (53 * j + i).toNat = zI (im j i))
def IW (im : Int → Int → Int) (ik : Int → Int) : Prop := ∀ j : Int, 0 ≤ j → j ≤ 1 → (ik j = 0 ∨ ik j = 1) ∧ (ik j = 1 → gW (im j))
def okI (w : Int → Int) (y : Int) : Prop := 0 ≤ y ∧ y ≤ 1 ∧ w 2 ≠ 0
def aImage (w : Int → Int) (y : Int) : Int := if 0 ≤ y ∧ y ≤ 1 then (if w 2 = 0 then -1000002 else 1) else -1000001
def imK (im : Int → Int → Int) (y : Int) (w : Int → Int) : Int → Int → Int := fun j => if j = y then w else im j
theorem IW_K (h : IW im ik) (hw : gW w) : IW (imK im y w) (zup ik y 1) := by
  intro j j0 j1
  have := h j j0 j1
  unfold imK
  simp only [zup]
  by_cases hj : j = y
  · rw [if_pos hj, if_pos hj]; exact ⟨Or.inr rfl, fun _ => hw⟩
  · rw [if_neg hj, if_neg hj]; exact this
theorem orK : ∀ (i : Fin 4) (j : Fin 2), nI i.val ||| (zI 1 <<< (nI j.val &&& 31)) = nI (i.val ||| 2 ^ j.val) := by decide +kernel
theorem c_image (hy : zR y) (h : Hb M 7 w) (hw : gW w) (hI : IC M im ik) (hIW : IW im ik) (k0 : ¬ okI w y → Q (some (.inl (zI (aImage w y)))) M) (k1 : okI w y → ∀ M', IC M' (imK im y w) (zup ik y 1) → (∀ k, k ≠ 19 → k ≠ 20 → M' k = M k) → Q (some (.inl (zI (aImage w y)))) M') : hm_Wp (d + 6) 112 0 [some (.inr (.inr 0)), some (.inl (zI y))] [] M Q := by
  have hn := hw.1.1.1
  have h4 := h.1.1
  obtain ⟨e1, en⟩ := hI
  have i0 := hIW 0 (by decide) (by decide)
  have i1 := hIW 1 (by decide) (by decide)
  unfold zR at hy
  refine q_iload gg112_0 rfl ?_
  refine q_call1 gg112_1 tt122 rfl (Nat.le_of_ble_eq_true rfl) rfl (ls' := [some _]) rfl rfl ?_
  refine q_iload gg122_0 rfl ?_
  refine z_ifeq gg122_1 (tg := 9) rfl (by omega) (fun c1 => ?_) (fun c1 => ?_)
  · try (exfalso; omega)
    all_goals (
      refine z_const gg122_9 (v := 1) rfl ?_
      refine q_goto gg122_10 (tg := 14) rfl ?_
      refine z_zretC gg122_14 (by omega) ?_
      refine z_ifne gg112_4 (tg := 10) rfl (by decide) (fun _ => ?_) (fun z => absurd z (by decide))
      refine q_aload gg112_10 rfl ?_
      refine q_getr gg112_11 rfl ?_
      refine q_call1 gg112_14 tt31 rfl (Nat.le_of_ble_eq_true rfl) (hm_rv (by decide +kernel)) (ls' := [some _]) rfl rfl ?_
      refine q_aload gg31_0 rfl ?_
      first | refine z_getf gg31_1 rfl (by assumption) ?_ | refine q_getf gg31_1 rfl ?_
      refine z_ifne gg31_4 (tg := 11) rfl (by omega) (fun c2 => ?_) (fun c2 => ?_)
      · try (exfalso; omega)
        all_goals (
          refine z_const gg31_11 (v := 0) rfl ?_
          refine z_zretC gg31_12 (by omega) ?_
          refine z_ifeq gg112_17 (tg := 23) rfl (by decide) (fun _ => ?_) (fun z => absurd z (by decide))
          have hok : okI w y := ⟨by omega, by omega, by omega⟩
          have hE : aImage w y = 1 := by unfold aImage; rw [if_pos (by omega), if_neg (by omega)]
          have key : ∀ f', enc f' (35 * y) w → (∀ i : Int, 0 ≤ i → (i < 35 * y ∨ 35 * y + 35 ≤ i) → f' i.toNat = M 20 i.toNat) → ∀ X : Int32, X = zI (zup ik y 1 0 + 2 * zup ik y 1 1) → Q (some (.inl (zI 1))) (hm_up (hm_row M 20 f') 19 1 X) := by
            intro f' hen hot X hX
            have := k1 hok (hm_up (hm_row M 20 f') 19 1 X) ⟨by rw [up_at]; exact hX, fun j j0 j1 hj => ?_⟩ (fun k h0 h1 => by unfold hm_up; rw [hm_row_ne _ _ h0, hm_row_ne _ _ h1])
            · rw [hE] at this; exact this
            · show enc f' (35 * j) _
              unfold imK
              by_cases hjy : j = y
              · rw [if_pos hjy, hjy]; exact hen
              · rw [if_neg hjy]
                simp only [zup, if_neg hjy] at hj
                exact (en j j0 j1 hj).cg ((hIW j j0 j1).2 hj).1.1.1.2 (by omega) (fun i i0 i1 => hot i (by omega) (by omega))
          have hy01 : y = 0 ∨ y = 1 := by omega
          rcases hy01 with rfl | rfl
          all_goals (
            refine q_aload gg112_23 rfl ?_
            refine q_getr gg112_24 rfl ?_
            refine q_iload gg112_27 rfl ?_
            refine q_aload gg112_28 rfl ?_
            refine q_getr gg112_29 rfl ?_
            refine q_call3 gg112_32 tt54 rfl (Nat.le_of_ble_eq_true rfl) (hm_rv (by decide +kernel)) (ls' := [some _, some _, some _]) rfl rfl ?_
            refine q_aload gg54_0 rfl ?_
            refine q_aload gg54_1 rfl ?_
            refine q_getr gg54_2 rfl ?_
            refine q_iload gg54_5 rfl ?_
            refine z_const gg54_6 (v := 35) rfl ?_
            first | refine z_imul gg54_8 ?_ | refine q_imul gg54_8 ?_
            refine q_call3 gg54_9 tt39 rfl (Nat.le_of_ble_eq_true rfl) (hm_rv (by decide +kernel)) (ls' := [some _, some _, some _, none]) rfl rfl ?_
            refine c_writeTo (Or.inr rfl) h hn.2 (by omega) (by decide) (fun f' hen hot => ?_)
            have e1' : hm_row M 20 f' 19 1 = zI (ik 0 + 2 * ik 1) := e1
            show hm_Wp _ _ _ _ _ _ _
            refine q_aload gg54_12 rfl ?_
            refine q_dup gg54_13 rfl ?_
            first | refine z_getf gg54_14 rfl (by assumption) ?_ | refine q_getf gg54_14 rfl ?_
            refine z_const gg54_17 (v := 1) rfl ?_
            refine q_iload gg54_18 rfl ?_
            first | refine z_ishl gg54_19 (by omega) (by omega) (by omega) (by omega) ?_ | refine z_ishl7 gg54_19 (by omega) (by omega) (fun skeep_19 eskeep_19 => ?_) | refine q_ishl gg54_19 ?_
            refine q_ior gg54_20 ?_
            refine q_putf gg54_21 rfl ?_
            refine q_retC gg54_24 ?_
            refine z_const gg112_35 (v := 1) rfl ?_
            refine q_iret gg112_36 ?_
            refine key f' hen hot _ ?_
            simp only [zup]
            rcases i0.1 with h0 | h0 <;> rcases i1.1 with h1 | h1 <;> rw [h0, h1] <;> decide
          )
        )
      · try (exfalso; omega)
        all_goals (
          refine z_const gg31_7 (v := 1) rfl ?_
          refine q_goto gg31_8 (tg := 12) rfl ?_
          refine z_zretC gg31_12 (by omega) ?_
          refine z_ifeq gg112_17 (tg := 23) rfl (by decide) (fun z => absurd z (by decide)) (fun _ => ?_)
          refine z_neg gg112_20 ?_
          refine q_iret gg112_22 ?_
          refine qv ?_ (k0 (by unfold okI; omega))
          unfold aImage
          rw [if_pos (by omega), if_pos (by omega)]
        )
    )
  · try (exfalso; omega)
    all_goals (
      refine q_iload gg122_4 rfl ?_
      refine z_const gg122_5 (v := 1) rfl ?_
      refine z_icmpne gg122_6 (tg := 13) rfl (by omega) (by omega) (fun c2 => ?_) (fun c2 => ?_)
      · try (exfalso; omega)
        all_goals (
          refine z_const gg122_13 (v := 0) rfl ?_
          refine z_zretC gg122_14 (by omega) ?_
          refine z_ifne gg112_4 (tg := 10) rfl (by decide) (fun z => absurd z (by decide)) (fun _ => ?_)
          refine z_neg gg112_7 ?_
          refine q_iret gg112_9 ?_
          refine qv ?_ (k0 (by unfold okI; omega))
          unfold aImage
          rw [if_neg (by omega)]
        )
      · try (exfalso; omega)
        all_goals (
          refine z_const gg122_9 (v := 1) rfl ?_
          refine q_goto gg122_10 (tg := 14) rfl ?_
          refine z_zretC gg122_14 (by omega) ?_
          refine z_ifne gg112_4 (tg := 10) rfl (by decide) (fun _ => ?_) (fun z => absurd z (by decide))
          refine q_aload gg112_10 rfl ?_
          refine q_getr gg112_11 rfl ?_
          refine q_call1 gg112_14 tt31 rfl (Nat.le_of_ble_eq_true rfl) (hm_rv (by decide +kernel)) (ls' := [some _]) rfl rfl ?_
          refine q_aload gg31_0 rfl ?_
          first | refine z_getf gg31_1 rfl (by assumption) ?_ | refine q_getf gg31_1 rfl ?_
          refine z_ifne gg31_4 (tg := 11) rfl (by omega) (fun c3 => ?_) (fun c3 => ?_)
          · try (exfalso; omega)
            all_goals (
              refine z_const gg31_11 (v := 0) rfl ?_
              refine z_zretC gg31_12 (by omega) ?_
              refine z_ifeq gg112_17 (tg := 23) rfl (by decide) (fun _ => ?_) (fun z => absurd z (by decide))
              have hok : okI w y := ⟨by omega, by omega, by omega⟩
              have hE : aImage w y = 1 := by unfold aImage; rw [if_pos (by omega), if_neg (by omega)]
              have key : ∀ f', enc f' (35 * y) w → (∀ i : Int, 0 ≤ i → (i < 35 * y ∨ 35 * y + 35 ≤ i) → f' i.toNat = M 20 i.toNat) → ∀ X : Int32, X = zI (zup ik y 1 0 + 2 * zup ik y 1 1) → Q (some (.inl (zI 1))) (hm_up (hm_row M 20 f') 19 1 X) := by
                intro f' hen hot X hX
                have := k1 hok (hm_up (hm_row M 20 f') 19 1 X) ⟨by rw [up_at]; exact hX, fun j j0 j1 hj => ?_⟩ (fun k h0 h1 => by unfold hm_up; rw [hm_row_ne _ _ h0, hm_row_ne _ _ h1])
                · rw [hE] at this; exact this
                · show enc f' (35 * j) _
                  unfold imK
                  by_cases hjy : j = y
                  · rw [if_pos hjy, hjy]; exact hen
                  · rw [if_neg hjy]
                    simp only [zup, if_neg hjy] at hj
                    exact (en j j0 j1 hj).cg ((hIW j j0 j1).2 hj).1.1.1.2 (by omega) (fun i i0 i1 => hot i (by omega) (by omega))
              have hy01 : y = 0 ∨ y = 1 := by omega
              rcases hy01 with rfl | rfl
              all_goals (
                refine q_aload gg112_23 rfl ?_
                refine q_getr gg112_24 rfl ?_
                refine q_iload gg112_27 rfl ?_
                refine q_aload gg112_28 rfl ?_
                refine q_getr gg112_29 rfl ?_
                refine q_call3 gg112_32 tt54 rfl (Nat.le_of_ble_eq_true rfl) (hm_rv (by decide +kernel)) (ls' := [some _, some _, some _]) rfl rfl ?_
                refine q_aload gg54_0 rfl ?_
                refine q_aload gg54_1 rfl ?_
                refine q_getr gg54_2 rfl ?_
                refine q_iload gg54_5 rfl ?_
                refine z_const gg54_6 (v := 35) rfl ?_
                first | refine z_imul gg54_8 ?_ | refine q_imul gg54_8 ?_
                refine q_call3 gg54_9 tt39 rfl (Nat.le_of_ble_eq_true rfl) (hm_rv (by decide +kernel)) (ls' := [some _, some _, some _, none]) rfl rfl ?_
                refine c_writeTo (Or.inr rfl) h hn.2 (by omega) (by decide) (fun f' hen hot => ?_)
                have e1' : hm_row M 20 f' 19 1 = zI (ik 0 + 2 * ik 1) := e1
                show hm_Wp _ _ _ _ _ _ _
                refine q_aload gg54_12 rfl ?_
                refine q_dup gg54_13 rfl ?_
                first | refine z_getf gg54_14 rfl (by assumption) ?_ | refine q_getf gg54_14 rfl ?_
                refine z_const gg54_17 (v := 1) rfl ?_
                refine q_iload gg54_18 rfl ?_
                first | refine z_ishl gg54_19 (by omega) (by omega) (by omega) (by omega) ?_ | refine z_ishl7 gg54_19 (by omega) (by omega) (fun skeep_19 eskeep_19 => ?_) | refine q_ishl gg54_19 ?_
                refine q_ior gg54_20 ?_
                refine q_putf gg54_21 rfl ?_
                refine q_retC gg54_24 ?_
                refine z_const gg112_35 (v := 1) rfl ?_
                refine q_iret gg112_36 ?_
                refine key f' hen hot _ ?_
                simp only [zup]
                rcases i0.1 with h0 | h0 <;> rcases i1.1 with h1 | h1 <;> rw [h0, h1] <;> decide
              )
            )
          · try (exfalso; omega)
            all_goals (
              refine z_const gg31_7 (v := 1) rfl ?_
              refine q_goto gg31_8 (tg := 12) rfl ?_
              refine z_zretC gg31_12 (by omega) ?_
              refine z_ifeq gg112_17 (tg := 23) rfl (by decide) (fun z => absurd z (by decide)) (fun _ => ?_)
              refine z_neg gg112_20 ?_
              refine q_iret gg112_22 ?_
              refine qv ?_ (k0 (by unfold okI; omega))
              unfold aImage
              rw [if_pos (by omega), if_pos (by omega)]
            )
        )
    )
theorem r_image (hy : zR y) (hf : aw (M 36) 53 0 20000 w) (hw : gW w) (hI : IR M im ik) (k0 : ¬ okI w y → Q (some (.inl (zI (aImage w y)))) M) (k1 : okI w y → ∀ M', IR M' (imK im y w) (zup ik y 1) → (∀ k, k ≠ 40 → k ≠ 41 → M' k = M k) → Q (some (.inl (zI (aImage w y)))) M') : hm_Wp (d + 6) 192 0 [some (.inr (.inr 30)), some (.inl (zI y))] [] M Q := by
  have hn := hw.1.1.1
  have hc := hw.2.1
  unfold zR at hy
  refine q_iload gg192_0 rfl ?_
  refine z_const gg192_1 (v := 0) rfl ?_
  refine z_const gg192_2 (v := 1) rfl ?_
  refine q_call3 gg192_3 tt124 rfl (Nat.le_of_ble_eq_true rfl) rfl (ls' := [some _, some _, some _]) rfl rfl ?_
  refine q_iload gg124_0 rfl ?_
  refine q_iload gg124_1 rfl ?_
  refine z_icmplt gg124_2 (tg := 14) rfl (by omega) (by omega) (fun c1 => ?_) (fun c1 => ?_)
  · try (exfalso; omega)
    all_goals (
      refine z_const gg124_14 (v := 0) rfl ?_
      refine z_zretC gg124_15 (by omega) ?_
      refine z_ifne gg192_6 (tg := 12) rfl (by decide) (fun z => absurd z (by decide)) (fun _ => ?_)
      refine z_neg gg192_9 ?_
      refine q_iret gg192_11 ?_
      refine qv ?_ (k0 (by unfold okI; omega))
      unfold aImage
      rw [if_neg (by omega)]
    )
  · try (exfalso; omega)
    all_goals (
      refine q_iload gg124_5 rfl ?_
      refine q_iload gg124_6 rfl ?_
      refine z_icmpgt gg124_7 (tg := 14) rfl (by omega) (by omega) (fun c2 => ?_) (fun c2 => ?_)
      · try (exfalso; omega)
        all_goals (
          refine z_const gg124_14 (v := 0) rfl ?_
          refine z_zretC gg124_15 (by omega) ?_
          refine z_ifne gg192_6 (tg := 12) rfl (by decide) (fun z => absurd z (by decide)) (fun _ => ?_)
          refine z_neg gg192_9 ?_
          refine q_iret gg192_11 ?_
          refine qv ?_ (k0 (by unfold okI; omega))
          unfold aImage
          rw [if_neg (by omega)]
        )
      · try (exfalso; omega)
        all_goals (
          refine z_const gg124_10 (v := 1) rfl ?_
          refine q_goto gg124_11 (tg := 15) rfl ?_
          refine z_zretC gg124_15 (by omega) ?_
          refine z_ifne gg192_6 (tg := 12) rfl (by decide) (fun _ => ?_) (fun z => absurd z (by decide))
          refine q_aload gg192_12 rfl ?_
          refine q_call1 gg192_13 tt151 rfl (Nat.le_of_ble_eq_true rfl) (hm_rv (by decide +kernel)) (ls' := [some _]) rfl rfl ?_
          refine q_aload gg151_0 rfl ?_
          refine q_getr gg151_1 rfl ?_
          refine z_const gg151_4 (v := 1) rfl ?_
          first | (refine z_alr gg151_5 (by first | rfl | assumption) (by assumption) (by omega) (by omega) (by omega) (by decide) (fun visHob_5 evisHob_5 lvisHob_5 uvisHob_5 => ?_); try dsimp only at evisHob_5) | (refine z_alx gg151_5 rfl (by assumption) (by omega) (by omega) (by first | omega | decide) (by decide) (fun visHob_5 evisHob_5 lvisHob_5 uvisHob_5 => ?_); try dsimp only at evisHob_5) | refine z_alq gg151_5 rfl (by omega) (by omega) (by decide) ?_
          refine z_ifle gg151_6 (tg := 13) rfl (by omega) (fun c3 => ?_) (fun c3 => ?_)
          · try (exfalso; omega)
            all_goals (
              refine z_const gg151_13 (v := 0) rfl ?_
              refine z_zretC gg151_14 (by omega) ?_
              refine z_ifne gg192_16 (tg := 22) rfl (by decide) (fun z => absurd z (by decide)) (fun _ => ?_)
              refine z_neg gg192_19 ?_
              refine q_iret gg192_21 ?_
              refine qv ?_ (k0 (by unfold okI; omega))
              unfold aImage
              rw [if_pos (by omega), if_pos (by omega)]
            )
          · try (exfalso; omega)
            all_goals (
              refine z_const gg151_9 (v := 1) rfl ?_
              refine q_goto gg151_10 (tg := 14) rfl ?_
              refine z_zretC gg151_14 (by omega) ?_
              refine z_ifne gg192_16 (tg := 22) rfl (by decide) (fun _ => ?_) (fun z => absurd z (by decide))
              refine q_aload gg192_22 rfl ?_
              refine q_getr gg192_23 rfl ?_
              refine z_const gg192_26 (v := 0) rfl ?_
              refine q_aload gg192_27 rfl ?_
              refine q_getr gg192_28 rfl ?_
              refine z_const gg192_31 (v := 53) rfl ?_
              refine q_iload gg192_33 rfl ?_
              first | refine z_imul gg192_34 ?_ | refine q_imul gg192_34 ?_
              refine q_call4 gg192_35 tt130 rfl (Nat.le_of_ble_eq_true rfl) rfl (ls' := [some _, some _, some _, some _, none]) rfl rfl ?_
              refine r_copies2 rfl rfl (by decide) (by decide) (by decide) (by omega) (by omega) (by decide) (by decide) (fun f' hf' => ?_)
              show hm_Wp _ _ _ _ _ _ _
              refine q_aload gg192_38 rfl ?_
              refine q_getr gg192_39 rfl ?_
              refine q_iload gg192_42 rfl ?_
              refine z_const gg192_43 (v := 1) rfl ?_
              refine z_zast gg192_44 rfl (by omega) (by omega) (by omega) (by decide) ?_
              refine z_const gg192_45 (v := 1) rfl ?_
              refine q_iret gg192_46 ?_
              have hok : okI w y := ⟨by omega, by omega, by omega⟩
              have hE : aImage w y = 1 := by unfold aImage; rw [if_pos (by omega), if_neg (by omega)]
              have := k1 hok (hm_up (hm_row M 40 f') 41 y.toNat (zI 1)) (fun j j0 j1 => ⟨?_, fun hj i i0 i1 => ?_⟩) (fun k h0 h1 => by unfold hm_up; rw [hm_row_ne _ _ h1, hm_row_ne _ _ h0])
              · rw [hE] at this; exact this
              · have hI1 := (hI j j0 j1).1
                unfold hm_up
                rw [hm_row_same]
                simp only [upd, zup]
                by_cases hjy : j = y
                · rw [if_pos (by omega), if_pos hjy]
                · rw [if_neg (by omega), if_neg hjy]; exact hI1
              · show f' (53 * j + i).toNat = _
                rw [hf' _ (by omega)]
                unfold imK
                by_cases hjy : j = y
                · rw [if_pos (by omega), if_pos hjy, show 0 + (53 * j + i) - 53 * y = i by omega]
                  exact (hf i i0 i1).1
                · rw [if_neg (by omega), if_neg hjy]
                  simp only [zup, if_neg hjy] at hj
                  exact (hI j j0 j1).2 hj i i0 i1
            )
        )
    )
/-! restore -/
def okR (ik : Int → Int) (y : Int) : Prop := 0 ≤ y ∧ y ≤ 1 ∧ ik y = 1
def aRestore (ik : Int → Int) (y : Int) : Int := if 0 ≤ y ∧ y ≤ 1 then (if ik y = 1 then 1 else -1000002) else -1000001
theorem c_restore (hy : zR y) (hA : AC M pa na) (hI : IC M im ik) (hIW : IW im ik) (k0 : ¬ okR ik y → Q (some (.inl (zI (aRestore ik y)))) M) (k1 : okR ik y → ∀ M', Hb M' 7 (im y) → AC M' pa 0 → FA M M' → Q (some (.inl (zI (aRestore ik y)))) M') : hm_Wp (d + 6) 113 0 [some (.inr (.inr 0)), some (.inl (zI y))] [] M Q := by
  obtain ⟨e1, en⟩ := hI
  obtain ⟨nx, n0, n1, f1, f2, f3⟩ := hA
  have i0 := hIW 0 (by decide) (by decide)
  have i1 := hIW 1 (by decide) (by decide)
  unfold zR at hy
  by_cases hin : 0 ≤ y ∧ y ≤ 1
  · have hy01 : y = 0 ∨ y = 1 := by omega
    have hyy := hIW y hin.1 hin.2
    have hbit : (ik 0 + 2 * ik 1) / 2 ^ y.toNat % 2 = ik y := by
      rcases hy01 with rfl | rfl
      · simp; omega
      · simp; omega
    refine q_iload gg113_0 rfl ?_
    refine q_call1 gg113_1 tt122 rfl (Nat.le_of_ble_eq_true rfl) rfl (ls' := [some _]) rfl rfl ?_
    refine q_iload gg122_0 rfl ?_
    refine z_ifeq gg122_1 (tg := 9) rfl (by omega) (fun c1 => ?_) (fun c1 => ?_)
    · try (exfalso; omega)
      all_goals (
        refine z_const gg122_9 (v := 1) rfl ?_
        refine q_goto gg122_10 (tg := 14) rfl ?_
        refine z_zretC gg122_14 (by omega) ?_
        refine z_ifne gg113_4 (tg := 10) rfl (by decide) (fun _ => ?_) (fun z => absurd z (by decide))
        refine q_aload gg113_10 rfl ?_
        refine q_getr gg113_11 rfl ?_
        refine q_iload gg113_14 rfl ?_
        refine q_call2 gg113_15 tt55 rfl (Nat.le_of_ble_eq_true rfl) (hm_rv (by decide +kernel)) (ls' := [some _, some _]) rfl rfl ?_
        refine q_aload gg55_0 rfl ?_
        first | refine z_getf gg55_1 rfl (by assumption) ?_ | refine q_getf gg55_1 rfl ?_
        refine q_iload gg55_4 rfl ?_
        first | refine z_ishr gg55_5 (by omega) (by omega) (by omega) (by omega) (fun sisKept_5 esisKept_5 lsisKept_5 usisKept_5 => ?_) | refine q_ishr gg55_5 ?_
        refine z_const gg55_6 (v := 1) rfl ?_
        first | refine z_iand1 gg55_7 (by omega) (by omega) ?_ | refine z_iandn gg55_7 (by omega) (by omega) (by omega) (by omega) ?_ | refine q_iand gg55_7 ?_
        refine z_const gg55_8 (v := 1) rfl ?_
        refine z_icmpne gg55_9 (tg := 16) rfl (by omega) (by omega) (fun c2 => ?_) (fun c2 => ?_)
        · try (exfalso; omega)
          all_goals (
            refine z_const gg55_16 (v := 0) rfl ?_
            refine z_zretC gg55_17 (by omega) ?_
            refine z_ifne gg113_18 (tg := 24) rfl (by decide) (fun z => absurd z (by decide)) (fun _ => ?_)
            refine z_neg gg113_21 ?_
            refine q_iret gg113_23 ?_
            refine qv ?_ (k0 (by unfold okR; omega))
            unfold aRestore
            rw [if_pos hin, if_neg (by omega)]
          )
        · try (exfalso; omega)
          all_goals (
            refine z_const gg55_12 (v := 1) rfl ?_
            refine q_goto gg55_13 (tg := 17) rfl ?_
            refine z_zretC gg55_17 (by omega) ?_
            refine z_ifne gg113_18 (tg := 24) rfl (by decide) (fun _ => ?_) (fun z => absurd z (by decide))
            refine q_aload gg113_24 rfl ?_
            refine q_getr gg113_25 rfl ?_
            refine q_iload gg113_28 rfl ?_
            refine q_aload gg113_29 rfl ?_
            refine q_getr gg113_30 rfl ?_
            refine q_call3 gg113_33 tt56 rfl (Nat.le_of_ble_eq_true rfl) (hm_rv (by decide +kernel)) (ls' := [some _, some _, some _]) rfl rfl ?_
            refine q_aload gg56_0 rfl ?_
            refine q_aload gg56_1 rfl ?_
            refine q_getr gg56_2 rfl ?_
            refine q_iload gg56_5 rfl ?_
            refine z_const gg56_6 (v := 35) rfl ?_
            first | refine z_imul gg56_8 ?_ | refine q_imul gg56_8 ?_
            refine q_call3 gg56_9 tt40 rfl (Nat.le_of_ble_eq_true rfl) (hm_rv (by decide +kernel)) (ls' := [some _, some _, some _, none]) rfl rfl ?_
            have hk1 : ik y = 1 := by omega
            refine c_readFrom (w := im y) (Or.inr rfl) (by have := en y hin.1 hin.2 hk1; rw [show y * 35 = 35 * y by omega]; exact this) (hyy.2 hk1).1 (by omega) (by rw [if_neg (by decide)]; omega) (fun M1 h1 hfr => ?_)
            show hm_Wp _ _ _ _ _ _ _
            refine q_retC gg56_12 ?_
            refine q_aload gg113_36 rfl ?_
            refine q_getr gg113_37 rfl ?_
            refine q_call1 gg113_40 tt2 rfl (Nat.le_of_ble_eq_true rfl) (hm_rv (by decide +kernel)) (ls' := [some _]) rfl rfl ?_
            refine q_aload gg2_0 rfl ?_
            refine z_const gg2_1 (v := 0) rfl ?_
            refine q_putf gg2_2 rfl ?_
            refine q_retC gg2_5 ?_
            refine z_const gg113_43 (v := 1) rfl ?_
            refine q_iret gg113_44 ?_
            have hok : okR ik y := ⟨hin.1, hin.2, hk1⟩
            have := k1 hok (hm_up M1 17 2 (zI 0)) (h1.fr rfl rfl rfl rfl rfl) ⟨nx, n0, n1, by rw [show hm_up M1 17 2 (zI 0) 17 1 = M1 17 1 from rfl, hfr 17 (by omega)]; exact f1, up_at, fun j j0 j1 => by omega⟩ (fun k a b c => by unfold hm_up; rw [hm_row_ne _ _ b]; exact hfr k (by omega))
            rw [show aRestore ik y = 1 by unfold aRestore; rw [if_pos hin, if_pos hk1]] at this
            exact this
          )
      )
    · try (exfalso; omega)
      all_goals (
        refine q_iload gg122_4 rfl ?_
        refine z_const gg122_5 (v := 1) rfl ?_
        refine z_icmpne gg122_6 (tg := 13) rfl (by omega) (by omega) (fun c2 => ?_) (fun c2 => ?_)
        · try (exfalso; omega)
          all_goals (
            refine z_const gg122_13 (v := 0) rfl ?_
            refine z_zretC gg122_14 (by omega) ?_
            refine z_ifne gg113_4 (tg := 10) rfl (by decide) (fun z => absurd z (by decide)) (fun _ => ?_)
            refine z_neg gg113_7 ?_
            refine q_iret gg113_9 ?_
            exfalso
            omega
          )
        · try (exfalso; omega)
          all_goals (
            refine z_const gg122_9 (v := 1) rfl ?_
            refine q_goto gg122_10 (tg := 14) rfl ?_
            refine z_zretC gg122_14 (by omega) ?_
            refine z_ifne gg113_4 (tg := 10) rfl (by decide) (fun _ => ?_) (fun z => absurd z (by decide))
            refine q_aload gg113_10 rfl ?_
            refine q_getr gg113_11 rfl ?_
            refine q_iload gg113_14 rfl ?_
            refine q_call2 gg113_15 tt55 rfl (Nat.le_of_ble_eq_true rfl) (hm_rv (by decide +kernel)) (ls' := [some _, some _]) rfl rfl ?_
            refine q_aload gg55_0 rfl ?_
            first | refine z_getf gg55_1 rfl (by assumption) ?_ | refine q_getf gg55_1 rfl ?_
            refine q_iload gg55_4 rfl ?_
            first | refine z_ishr gg55_5 (by omega) (by omega) (by omega) (by omega) (fun sisKept_5 esisKept_5 lsisKept_5 usisKept_5 => ?_) | refine q_ishr gg55_5 ?_
            refine z_const gg55_6 (v := 1) rfl ?_
            first | refine z_iand1 gg55_7 (by omega) (by omega) ?_ | refine z_iandn gg55_7 (by omega) (by omega) (by omega) (by omega) ?_ | refine q_iand gg55_7 ?_
            refine z_const gg55_8 (v := 1) rfl ?_
            refine z_icmpne gg55_9 (tg := 16) rfl (by omega) (by omega) (fun c3 => ?_) (fun c3 => ?_)
            · try (exfalso; omega)
              all_goals (
                refine z_const gg55_16 (v := 0) rfl ?_
                refine z_zretC gg55_17 (by omega) ?_
                refine z_ifne gg113_18 (tg := 24) rfl (by decide) (fun z => absurd z (by decide)) (fun _ => ?_)
                refine z_neg gg113_21 ?_
                refine q_iret gg113_23 ?_
                refine qv ?_ (k0 (by unfold okR; omega))
                unfold aRestore
                rw [if_pos hin, if_neg (by omega)]
              )
            · try (exfalso; omega)
              all_goals (
                refine z_const gg55_12 (v := 1) rfl ?_
                refine q_goto gg55_13 (tg := 17) rfl ?_
                refine z_zretC gg55_17 (by omega) ?_
                refine z_ifne gg113_18 (tg := 24) rfl (by decide) (fun _ => ?_) (fun z => absurd z (by decide))
                refine q_aload gg113_24 rfl ?_
                refine q_getr gg113_25 rfl ?_
                refine q_iload gg113_28 rfl ?_
                refine q_aload gg113_29 rfl ?_
                refine q_getr gg113_30 rfl ?_
                refine q_call3 gg113_33 tt56 rfl (Nat.le_of_ble_eq_true rfl) (hm_rv (by decide +kernel)) (ls' := [some _, some _, some _]) rfl rfl ?_
                refine q_aload gg56_0 rfl ?_
                refine q_aload gg56_1 rfl ?_
                refine q_getr gg56_2 rfl ?_
                refine q_iload gg56_5 rfl ?_
                refine z_const gg56_6 (v := 35) rfl ?_
                first | refine z_imul gg56_8 ?_ | refine q_imul gg56_8 ?_
                refine q_call3 gg56_9 tt40 rfl (Nat.le_of_ble_eq_true rfl) (hm_rv (by decide +kernel)) (ls' := [some _, some _, some _, none]) rfl rfl ?_
                have hk1 : ik y = 1 := by omega
                refine c_readFrom (w := im y) (Or.inr rfl) (by have := en y hin.1 hin.2 hk1; rw [show y * 35 = 35 * y by omega]; exact this) (hyy.2 hk1).1 (by omega) (by rw [if_neg (by decide)]; omega) (fun M1 h1 hfr => ?_)
                show hm_Wp _ _ _ _ _ _ _
                refine q_retC gg56_12 ?_
                refine q_aload gg113_36 rfl ?_
                refine q_getr gg113_37 rfl ?_
                refine q_call1 gg113_40 tt2 rfl (Nat.le_of_ble_eq_true rfl) (hm_rv (by decide +kernel)) (ls' := [some _]) rfl rfl ?_
                refine q_aload gg2_0 rfl ?_
                refine z_const gg2_1 (v := 0) rfl ?_
                refine q_putf gg2_2 rfl ?_
                refine q_retC gg2_5 ?_
                refine z_const gg113_43 (v := 1) rfl ?_
                refine q_iret gg113_44 ?_
                have hok : okR ik y := ⟨hin.1, hin.2, hk1⟩
                have := k1 hok (hm_up M1 17 2 (zI 0)) (h1.fr rfl rfl rfl rfl rfl) ⟨nx, n0, n1, by rw [show hm_up M1 17 2 (zI 0) 17 1 = M1 17 1 from rfl, hfr 17 (by omega)]; exact f1, up_at, fun j j0 j1 => by omega⟩ (fun k a b c => by unfold hm_up; rw [hm_row_ne _ _ b]; exact hfr k (by omega))
                rw [show aRestore ik y = 1 by unfold aRestore; rw [if_pos hin, if_pos hk1]] at this
                exact this
              )
          )
      )
  · refine q_iload gg113_0 rfl ?_
    refine q_call1 gg113_1 tt122 rfl (Nat.le_of_ble_eq_true rfl) rfl (ls' := [some _]) rfl rfl ?_
    refine q_iload gg122_0 rfl ?_
    refine z_ifeq gg122_1 (tg := 9) rfl (by omega) (fun c1 => ?_) (fun c1 => ?_)
    · try (exfalso; omega)
      all_goals (
        refine z_const gg122_9 (v := 1) rfl ?_
        refine q_goto gg122_10 (tg := 14) rfl ?_
        refine z_zretC gg122_14 (by omega) ?_
        refine z_ifne gg113_4 (tg := 10) rfl (by decide) (fun _ => ?_) (fun z => absurd z (by decide))
        exfalso
        omega
      )
    · try (exfalso; omega)
      all_goals (
        refine q_iload gg122_4 rfl ?_
        refine z_const gg122_5 (v := 1) rfl ?_
        refine z_icmpne gg122_6 (tg := 13) rfl (by omega) (by omega) (fun c2 => ?_) (fun c2 => ?_)
        · try (exfalso; omega)
          all_goals (
            refine z_const gg122_13 (v := 0) rfl ?_
            refine z_zretC gg122_14 (by omega) ?_
            refine z_ifne gg113_4 (tg := 10) rfl (by decide) (fun z => absurd z (by decide)) (fun _ => ?_)
            refine z_neg gg113_7 ?_
            refine q_iret gg113_9 ?_
            refine qv ?_ (k0 (by unfold okR; omega))
            unfold aRestore
            rw [if_neg (by omega)]
          )
        · try (exfalso; omega)
          all_goals (
            refine z_const gg122_9 (v := 1) rfl ?_
            refine q_goto gg122_10 (tg := 14) rfl ?_
            refine z_zretC gg122_14 (by omega) ?_
            refine z_ifne gg113_4 (tg := 10) rfl (by decide) (fun _ => ?_) (fun z => absurd z (by decide))
            exfalso
            omega
          )
      )
theorem r_restore (hy : zR y) (hA : AR M pa na) (hI : IR M im ik) (hIW : IW im ik) (k0 : ¬ okR ik y → Q (some (.inl (zI (aRestore ik y)))) M) (k1 : okR ik y → ∀ M', aw (M' 36) 53 0 20000 (im y) → AR M' pa 0 → FAR M M' → Q (some (.inl (zI (aRestore ik y)))) M') : hm_Wp (d + 6) 193 0 [some (.inr (.inr 30)), some (.inl (zI y))] [] M Q := by
  unfold zR at hy
  by_cases hin : 0 ≤ y ∧ y ≤ 1
  · have hyy := hIW y hin.1 hin.2
    have hIy := hI y hin.1 hin.2
    have g1 := hIy.1
    refine q_iload gg193_0 rfl ?_
    refine z_const gg193_1 (v := 0) rfl ?_
    refine z_const gg193_2 (v := 1) rfl ?_
    refine q_call3 gg193_3 tt124 rfl (Nat.le_of_ble_eq_true rfl) rfl (ls' := [some _, some _, some _]) rfl rfl ?_
    refine q_iload gg124_0 rfl ?_
    refine q_iload gg124_1 rfl ?_
    refine z_icmplt gg124_2 (tg := 14) rfl (by omega) (by omega) (fun c1 => ?_) (fun c1 => ?_)
    · try (exfalso; omega)
      all_goals (
        refine z_const gg124_14 (v := 0) rfl ?_
        refine z_zretC gg124_15 (by omega) ?_
        refine z_ifne gg193_6 (tg := 12) rfl (by decide) (fun z => absurd z (by decide)) (fun _ => ?_)
        refine z_neg gg193_9 ?_
        refine q_iret gg193_11 ?_
        exfalso
        omega
      )
    · try (exfalso; omega)
      all_goals (
        refine q_iload gg124_5 rfl ?_
        refine q_iload gg124_6 rfl ?_
        refine z_icmpgt gg124_7 (tg := 14) rfl (by omega) (by omega) (fun c2 => ?_) (fun c2 => ?_)
        · try (exfalso; omega)
          all_goals (
            refine z_const gg124_14 (v := 0) rfl ?_
            refine z_zretC gg124_15 (by omega) ?_
            refine z_ifne gg193_6 (tg := 12) rfl (by decide) (fun z => absurd z (by decide)) (fun _ => ?_)
            refine z_neg gg193_9 ?_
            refine q_iret gg193_11 ?_
            exfalso
            omega
          )
        · try (exfalso; omega)
          all_goals (
            refine z_const gg124_10 (v := 1) rfl ?_
            refine q_goto gg124_11 (tg := 15) rfl ?_
            refine z_zretC gg124_15 (by omega) ?_
            refine z_ifne gg193_6 (tg := 12) rfl (by decide) (fun _ => ?_) (fun z => absurd z (by decide))
            refine q_aload gg193_12 rfl ?_
            refine q_getr gg193_13 rfl ?_
            refine q_iload gg193_16 rfl ?_
            refine z_zald gg193_17 rfl (by omega) (by omega) (by decide) ?_
            rw [g1]
            refine z_ifne gg193_18 (tg := 24) rfl (by omega) (fun c1 => ?_) (fun c1 => ?_)
            · try (exfalso; omega)
              all_goals (
                refine q_aload gg193_24 rfl ?_
                refine q_getr gg193_25 rfl ?_
                refine z_const gg193_28 (v := 53) rfl ?_
                refine q_iload gg193_30 rfl ?_
                first | refine z_imul gg193_31 ?_ | refine q_imul gg193_31 ?_
                refine q_aload gg193_32 rfl ?_
                refine q_getr gg193_33 rfl ?_
                refine z_const gg193_36 (v := 0) rfl ?_
                refine q_call4 gg193_37 tt130 rfl (Nat.le_of_ble_eq_true rfl) rfl (ls' := [some _, some _, some _, some _, none]) rfl rfl ?_
                refine r_copies2 rfl rfl (by decide) (by omega) (by omega) (by decide) (by decide) (by decide) (by decide) (fun f' hf' => ?_)
                show hm_Wp _ _ _ _ _ _ _
                refine q_aload gg193_40 rfl ?_
                refine z_const gg193_41 (v := 0) rfl ?_
                refine q_putf gg193_42 rfl ?_
                refine z_const gg193_45 (v := 1) rfl ?_
                refine q_iret gg193_46 ?_
                have hk1 : ik y = 1 := by omega
                have hok : okR ik y := ⟨hin.1, hin.2, hk1⟩
                have hbd := (hyy.2 hk1).1.2.1
                have := k1 hok (hm_up (hm_row M 36 f') 30 17 (zI 0)) (fun i i0 i1 => ⟨?_, hbd i i0 i1⟩) ⟨up_at, fun j i j0 j1 i0 i1 => by omega⟩ ⟨fun k a b c => by unfold hm_up; rw [hm_row_ne _ _ a, hm_row_ne _ _ b], fun j hj => by unfold hm_up; rw [hm_row_same]; simp only [upd]; rw [if_neg hj]; rfl⟩
                · rw [show aRestore ik y = 1 by unfold aRestore; rw [if_pos hin, if_pos hk1]] at this
                  exact this
                · show f' i.toNat = _
                  rw [hf' i i0, if_pos (by omega), show 53 * y + i - 0 = 53 * y + i by omega]
                  exact hIy.2 hk1 i i0 i1
              )
            · try (exfalso; omega)
              all_goals (
                refine z_neg gg193_21 ?_
                refine q_iret gg193_23 ?_
                refine qv ?_ (k0 (by unfold okR; omega))
                unfold aRestore
                rw [if_pos hin, if_neg (by omega)]
              )
          )
      )
  · refine q_iload gg193_0 rfl ?_
    refine z_const gg193_1 (v := 0) rfl ?_
    refine z_const gg193_2 (v := 1) rfl ?_
    refine q_call3 gg193_3 tt124 rfl (Nat.le_of_ble_eq_true rfl) rfl (ls' := [some _, some _, some _]) rfl rfl ?_
    refine q_iload gg124_0 rfl ?_
    refine q_iload gg124_1 rfl ?_
    refine z_icmplt gg124_2 (tg := 14) rfl (by omega) (by omega) (fun c1 => ?_) (fun c1 => ?_)
    · try (exfalso; omega)
      all_goals (
        refine z_const gg124_14 (v := 0) rfl ?_
        refine z_zretC gg124_15 (by omega) ?_
        refine z_ifne gg193_6 (tg := 12) rfl (by decide) (fun z => absurd z (by decide)) (fun _ => ?_)
        refine z_neg gg193_9 ?_
        refine q_iret gg193_11 ?_
        refine qv ?_ (k0 (by unfold okR; omega))
        unfold aRestore
        rw [if_neg (by omega)]
      )
    · try (exfalso; omega)
      all_goals (
        refine q_iload gg124_5 rfl ?_
        refine q_iload gg124_6 rfl ?_
        refine z_icmpgt gg124_7 (tg := 14) rfl (by omega) (by omega) (fun c2 => ?_) (fun c2 => ?_)
        · try (exfalso; omega)
          all_goals (
            refine z_const gg124_14 (v := 0) rfl ?_
            refine z_zretC gg124_15 (by omega) ?_
            refine z_ifne gg193_6 (tg := 12) rfl (by decide) (fun z => absurd z (by decide)) (fun _ => ?_)
            refine z_neg gg193_9 ?_
            refine q_iret gg193_11 ?_
            refine qv ?_ (k0 (by unfold okR; omega))
            unfold aRestore
            rw [if_neg (by omega)]
          )
        · try (exfalso; omega)
          all_goals (
            refine z_const gg124_10 (v := 1) rfl ?_
            refine q_goto gg124_11 (tg := 15) rfl ?_
            refine z_zretC gg124_15 (by omega) ?_
            refine z_ifne gg193_6 (tg := 12) rfl (by decide) (fun _ => ?_) (fun z => absurd z (by decide))
            exfalso
            omega
          )
      )
end I1
