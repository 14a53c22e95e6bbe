section A2
variable {d r mid pc nx k : Nat} {M N : hm_M} {w v w0 g : Int → Int} {b n e x a s y c q i p na nxt : Int} {f F : Nat → Int32} {pa im : Int → Int → Int} {Q : Option hm_V → hm_M → Prop}
def gW (w : Int → Int) : Prop := mWf w ∧ (w 2 = 0 ↔ w 1 = 0) ∧ w 3 ≤ 9999
def AC (M : hm_M) (pa : Int → Int → Int) (na : Int) : Prop := ∃ nx : Int, 0 ≤ nx ∧ nx < 24 ∧ M 17 1 = zI nx ∧ M 17 2 = zI na ∧ ∀ j : Int, 0 ≤ j → j < na → enc (M 18) (35 * ((nx + 24 - na + j) % 24)) (pa j)
def AR (M : hm_M) (pa : Int → Int → Int) (na : Int) : Prop := M 30 17 = zI na ∧ ∀ j i : Int, 0 ≤ j → j < na → 0 ≤ i → i < 53 → M 39 (53 * j + i).toNat = zI (pa j i)
def AW (pa : Int → Int → Int) (na : Int) : Prop := 0 ≤ na ∧ na ≤ 24 ∧ ∀ j : Int, 0 ≤ j → j < na → gW (pa j)
def naK (na : Int) : Int := min 24 (na + 1)
def paK (pa : Int → Int → Int) (na : Int) (w : Int → Int) : Int → Int → Int := fun j => if j = naK na - 1 then w else pa (j + (na + 1 - naK na))
theorem AW_K (h : AW pa na) (hw : gW w) : AW (paK pa na w) (naK na) := by
  obtain ⟨h0, h1, h2⟩ := h
  refine ⟨by unfold naK; omega, by unfold naK; omega, fun j j0 j1 => ?_⟩
  unfold paK
  split
  · exact hw
  · unfold naK at *; exact h2 _ (by omega) (by omega)
theorem c_keep (h : Hb M 7 w) (hw : gW w) (hA : AC M pa na) (hW : AW pa na) (kk : ∀ M', AC M' (paK pa na w) (naK na) → (∀ k, k ≠ 17 → k ≠ 18 → M' k = M k) → Q none M') : hm_Wp (d + 2) 0 0 [some (.inr (.inr 17)), some (.inr (.inr 7))] [] M Q := by
  obtain ⟨nx, n0, n1, e1, e2, en⟩ := hA
  obtain ⟨a0, a1, a2⟩ := hW
  have hn := hw.1.1.1
  refine q_aload gg0_0 rfl ?_
  refine q_aload gg0_1 rfl ?_
  refine q_getr gg0_2 rfl ?_
  refine q_aload gg0_5 rfl ?_
  first | refine z_getf gg0_6 rfl (by assumption) ?_ | refine q_getf gg0_6 rfl ?_
  refine z_const gg0_9 (v := 35) rfl ?_
  first | refine z_imul gg0_11 ?_ | refine q_imul gg0_11 ?_
  refine q_call3 gg0_12 tt39 rfl (Nat.le_of_ble_eq_true rfl) (hm_rv (by decide +kernel)) (ls' := [some _, some _, some _, none]) rfl rfl ?_
  refine c_writeTo (Or.inl rfl) h hn.2 (by omega) (by rw [if_pos rfl]; omega) (fun f' hen hot => ?_)
  show hm_Wp _ _ _ _ _ _ _
  have e1' : hm_row M 18 f' 17 1 = zI nx := e1
  have e2' : hm_up (hm_row M 18 f') 17 1 (zI ((nx + 1) % 24)) 17 2 = zI na := e2
  refine q_aload gg0_15 rfl ?_
  refine q_aload gg0_16 rfl ?_
  first | refine z_getf gg0_17 rfl (by assumption) ?_ | refine q_getf gg0_17 rfl ?_
  refine z_const gg0_20 (v := 1) rfl ?_
  first | refine z_iadd gg0_21 ?_ | refine q_iadd gg0_21 ?_
  refine z_const gg0_22 (v := 24) rfl ?_
  refine z_irem gg0_24 (by omega) (by omega) (by omega) (by omega) ?_
  refine q_putf gg0_25 rfl ?_
  refine q_aload gg0_28 rfl ?_
  refine z_const gg0_29 (v := 24) rfl ?_
  refine q_aload gg0_31 rfl ?_
  first | refine z_getf gg0_32 rfl (by assumption) ?_ | refine q_getf gg0_32 rfl ?_
  refine z_const gg0_35 (v := 1) rfl ?_
  first | refine z_iadd gg0_36 ?_ | refine q_iadd gg0_36 ?_
  refine z_min gg0_37 (Nat.le_of_ble_eq_true rfl) (by omega) (by omega) ?_
  refine q_putf gg0_40 rfl ?_
  refine q_ret gg0_43 ?_
  refine kk _ ⟨(nx + 1) % 24, by omega, by omega, rfl, rfl, fun j j0 j1 => ?_⟩ (fun k k0 k1 => by unfold hm_up; rw [hm_row_ne _ _ k0, hm_row_ne _ _ k0, hm_row_ne _ _ k1])
  show enc f' _ _
  unfold paK
  have hk : naK na = min 24 (na + 1) := rfl
  by_cases hj : j = naK na - 1
  · rw [if_pos hj, show 35 * (((nx + 1) % 24 + 24 - naK na + j) % 24) = nx * 35 by omega]
    exact hen
  · rw [if_neg hj, show 35 * (((nx + 1) % 24 + 24 - naK na + j) % 24) = 35 * ((nx + 24 - na + (j + (na + 1 - naK na))) % 24) by omega]
    refine (en (j + (na + 1 - naK na)) (by omega) (by omega)).cg (a2 _ (by omega) (by omega)).1.1.1.2 (by omega) (fun i i0 i1 => hot i (by omega) (by omega))
theorem c_takeBack (hA : AC M pa na) (hW : AW pa na) (k0 : na = 0 → Q (some (.inl (zI 0))) M) (k1 : na ≠ 0 → ∀ M', Hb M' 7 (pa (na - 1)) → AC M' pa (na - 1) → (∀ k, (k < 7 ∨ 11 < k) → k ≠ 17 → M' k = M k) → Q (some (.inl (zI 1))) M') : hm_Wp (d + 2) 1 0 [some (.inr (.inr 17)), some (.inr (.inr 7))] [] M Q := by
  obtain ⟨nx, n0, n1, e1, e2, en⟩ := hA
  obtain ⟨a0, a1, a2⟩ := hW
  refine q_aload gg1_0 rfl ?_
  first | refine z_getf gg1_1 rfl (by assumption) ?_ | refine q_getf gg1_1 rfl ?_
  refine z_ifne gg1_4 (tg := 9) rfl (by omega) (fun c1 => ?_) (fun c1 => ?_)
  · try (exfalso; omega)
    all_goals (
      refine q_aload gg1_9 rfl ?_
      refine q_aload gg1_10 rfl ?_
      first | refine z_getf gg1_11 rfl (by assumption) ?_ | refine q_getf gg1_11 rfl ?_
      refine z_const gg1_14 (v := 24) rfl ?_
      first | refine z_iadd gg1_16 ?_ | refine q_iadd gg1_16 ?_
      refine z_const gg1_17 (v := 1) rfl ?_
      first | refine z_isub gg1_18 ?_ | refine q_isub gg1_18 ?_
      refine z_const gg1_19 (v := 24) rfl ?_
      refine z_irem gg1_21 (by omega) (by omega) (by omega) (by omega) ?_
      refine q_putf gg1_22 rfl ?_
      have e2' : hm_up M 17 1 (zI ((nx + 24 - 1) % 24)) 17 2 = zI na := e2
      have e1' : hm_up (hm_up M 17 1 (zI ((nx + 24 - 1) % 24))) 17 2 (zI (na - 1)) 17 1 = zI ((nx + 24 - 1) % 24) := rfl
      have hen := en (na - 1) (by omega) (by omega)
      rw [show 35 * ((nx + 24 - na + (na - 1)) % 24) = (nx + 24 - 1) % 24 * 35 by omega] at hen
      refine q_aload gg1_25 rfl ?_
      refine q_dup gg1_26 rfl ?_
      first | refine z_getf gg1_27 rfl (by assumption) ?_ | refine q_getf gg1_27 rfl ?_
      refine z_const gg1_30 (v := 1) rfl ?_
      first | refine z_isub gg1_31 ?_ | refine q_isub gg1_31 ?_
      refine q_putf gg1_32 rfl ?_
      refine q_aload gg1_35 rfl ?_
      refine q_aload gg1_36 rfl ?_
      refine q_getr gg1_37 rfl ?_
      refine q_aload gg1_40 rfl ?_
      first | refine z_getf gg1_41 rfl (by assumption) ?_ | refine q_getf gg1_41 rfl ?_
      refine z_const gg1_44 (v := 35) rfl ?_
      first | refine z_imul gg1_46 ?_ | refine q_imul gg1_46 ?_
      refine q_call3 gg1_47 tt40 rfl (Nat.le_of_ble_eq_true rfl) (hm_rv (by decide +kernel)) (ls' := [some _, some _, some _, none]) rfl rfl ?_
      refine c_readFrom (w := pa (na - 1)) (Or.inl rfl) hen (a2 _ (by omega) (by omega)).1 (by omega) (by rw [if_pos rfl]; omega) (fun M' h1 hfr => ?_)
      show hm_Wp _ _ _ _ _ _ _
      refine z_const gg1_50 (v := 1) rfl ?_
      refine z_zret gg1_51 (by omega) ?_
      refine k1 (by omega) _ h1 ⟨(nx + 24 - 1) % 24, by omega, by omega, by rw [hfr 17 (by omega)]; rfl, by rw [hfr 17 (by omega)]; rfl, fun j j0 j1 => ?_⟩ (fun k k0 k1 => by rw [hfr k (by omega)]; unfold hm_up; rw [hm_row_ne _ _ k1, hm_row_ne _ _ k1])
      rw [hfr 18 (by omega)]
      show enc (M 18) _ _
      rw [show 35 * (((nx + 24 - 1) % 24 + 24 - (na - 1) + j) % 24) = 35 * ((nx + 24 - na + j) % 24) by omega]
      exact en j j0 (by omega)
    )
  · try (exfalso; omega)
    all_goals (
      refine z_const gg1_7 (v := 0) rfl ?_
      refine z_zret gg1_8 (by omega) ?_
      exact k0 (by omega)
    )
theorem r_copies2 {k0 k1 n0 n1 : Nat} {a : Int} (h0 : hm_sh[k0]? = some (.inl (false, n0))) (h1 : hm_sh[k1]? = some (.inl (false, n1))) (hne : k0 ≠ k1) (ha0 : 0 ≤ a) (ha : a + 53 ≤ n0) (hb0 : 0 ≤ b) (hb : b + 53 ≤ n1) (hn0 : n0 < 2 ^ 31) (hn1 : n1 < 2 ^ 31) (kk : ∀ f', (∀ i : Int, 0 ≤ i → f' i.toNat = if b ≤ i ∧ i < b + 53 then M k0 (a + i - b).toNat else M k1 i.toNat) → Q none (hm_row M k1 f')) : hm_Wp d 130 0 [some (.inr (.inr k0)), some (.inl (zI a)), some (.inr (.inr k1)), some (.inl (zI b)), none] [] M Q := by
  refine hm_Wp.eqM (hm_row_self M k1).symm ?_
  exact r_copies h0 h1 hne ha0 ha hb0 hb hn0 hn1 kk
theorem r_notes (hf : aw (M 36) 53 0 20000 w) (hA : AR M pa na) (hW : AW pa na) (kk : ∀ M', AR M' (paK pa na w) (naK na) → (∀ k, k ≠ 30 → k ≠ 39 → M' k = M k) → (∀ j, j ≠ 17 → M' 30 j = M 30 j) → Q none M') : hm_Wp (d + 1) 165 0 [some (.inr (.inr 30)), none] [] M Q := by
  obtain ⟨e17, ep⟩ := hA
  obtain ⟨a0, a1, a2⟩ := hW
  have hk : naK na = min 24 (na + 1) := rfl
  have T : ∀ (N : hm_M) (x1 : Option hm_V), hm_free [some (.inr (.inr 30)), x1] 1 = true → (∀ k, k ≠ 30 → k ≠ 39 → N k = M k) → (∀ j, j ≠ 17 → N 30 j = M 30 j) → N 30 17 = zI (naK na - 1) → (∀ j i : Int, 0 ≤ j → j < naK na - 1 → 0 ≤ i → i < 53 → N 39 (53 * j + i).toNat = zI (pa (j + (na + 1 - naK na)) i)) → hm_Wp (d + 1) 165 49 [some (.inr (.inr 30)), x1] [] N Q := by
    intro N x1 hx1 hN1 hN2 hN3 hN4
    have hnb : 0 ≤ naK na - 1 ∧ naK na - 1 ≤ 23 := by omega
    refine q_aload gg165_49 rfl ?_
    refine q_getr gg165_50 rfl ?_
    refine z_const gg165_53 (v := 0) rfl ?_
    refine q_aload gg165_54 rfl ?_
    refine q_getr gg165_55 rfl ?_
    refine z_const gg165_58 (v := 53) rfl ?_
    refine q_aload gg165_60 rfl ?_
    first | refine z_getf gg165_61 rfl (by assumption) ?_ | refine q_getf gg165_61 rfl ?_
    first | refine z_imul gg165_64 ?_ | refine q_imul gg165_64 ?_
    refine q_call4 gg165_65 tt130 rfl (Nat.le_of_ble_eq_true rfl) rfl (ls' := [some _, some _, some _, some _, none]) rfl rfl ?_
    refine r_copies2 rfl rfl (by decide) (by decide) (by decide) (by omega) (by omega) (by decide) (by decide) (fun f' hf' => ?_)
    show hm_Wp _ _ _ _ _ _ _
    have e17' : hm_row N 39 f' 30 17 = zI (naK na - 1) := hN3
    refine q_aload gg165_68 rfl ?_
    refine q_dup gg165_69 rfl ?_
    first | refine z_getf gg165_70 rfl (by assumption) ?_ | refine q_getf gg165_70 rfl ?_
    refine z_const gg165_73 (v := 1) rfl ?_
    first | refine z_iadd gg165_74 ?_ | refine q_iadd gg165_74 ?_
    refine q_putf gg165_75 rfl ?_
    refine q_ret gg165_78 ?_
    refine kk _ ⟨?_, fun j i j0 j1 i0 i1 => ?_⟩ (fun k k0 k1 => by unfold hm_up; rw [hm_row_ne _ _ k0, hm_row_ne _ _ k1]; exact hN1 k k0 k1) (fun j hj => ?_)
    · rw [up_at]; congr 1; omega
    · show f' (53 * j + i).toNat = _
      rw [hf' _ (by omega)]
      unfold paK
      by_cases hj : j = naK na - 1
      · rw [if_pos (by omega), if_pos hj, hN1 36 (by decide) (by decide), show 0 + (53 * j + i) - 53 * (naK na - 1) = i by omega]
        exact (hf i i0 i1).1
      · rw [if_neg (by omega), if_neg hj]
        exact hN4 j i j0 (by omega) i0 i1
    · unfold hm_up; rw [hm_row_same]; simp only [upd]; rw [if_neg hj]; exact hN2 j hj
  have L : na = 24 → ∀ (m : Nat) (j : Int) (f : Nat → Int32), 0 ≤ j → j + m = 1219 → (∀ i : Int, 0 ≤ i → f i.toNat = if i < j then M 39 (i + 53).toNat else M 39 i.toNat) → hm_Wp (d + 1) 165 11 [some (.inr (.inr 30)), some (.inl (zI j))] [] (hm_row M 39 f) Q := by
    intro h24 m
    induction m with
    | zero =>
      intro j f hj0 hjm hfj
      have e17' : hm_row M 39 f 30 17 = zI na := e17
      refine q_iload gg165_11 rfl ?_
      refine z_const gg165_12 (v := 1219) rfl ?_
      refine z_icmpge gg165_15 (tg := 39) rfl (by omega) (by omega) (fun c1 => ?_) (fun z => absurd z (by omega))
      refine q_aload gg165_39 rfl ?_
      refine q_dup gg165_40 rfl ?_
      first | refine z_getf gg165_41 rfl (by assumption) ?_ | refine q_getf gg165_41 rfl ?_
      refine z_const gg165_44 (v := 1) rfl ?_
      first | refine z_isub gg165_45 ?_ | refine q_isub gg165_45 ?_
      refine q_putf gg165_46 rfl ?_
      refine T _ _ rfl (fun k k0 k1 => by unfold hm_up; rw [hm_row_ne _ _ k0, hm_row_ne _ _ k1]) (fun j hj => ?_) ?_ (fun j' i' j0 j1 i0 i1 => ?_)
      · unfold hm_up; rw [hm_row_same]; simp only [upd]; rw [if_neg hj]; rfl
      · rw [up_at]; congr 1; omega
      · show f (53 * j' + i').toNat = _
        rw [hfj _ (by omega), if_pos (by omega)]
        have := ep (j' + 1) i' (by omega) (by omega) i0 i1
        rw [show 53 * (j' + 1) + i' = 53 * j' + i' + 53 by omega] at this
        rw [this, show j' + (na + 1 - naK na) = j' + 1 by omega]
    | succ m ih =>
      intro j f hj0 hjm hfj
      refine q_iload gg165_11 rfl ?_
      refine z_const gg165_12 (v := 1219) rfl ?_
      refine z_icmpge gg165_15 (tg := 39) rfl (by omega) (by omega) (fun z => absurd z (by omega)) (fun c1 => ?_)
      refine q_aload gg165_18 rfl ?_
      refine q_getr gg165_19 rfl ?_
      refine q_iload gg165_22 rfl ?_
      refine q_aload gg165_23 rfl ?_
      refine q_getr gg165_24 rfl ?_
      refine q_iload gg165_27 rfl ?_
      refine z_const gg165_28 (v := 53) rfl ?_
      first | refine z_iadd gg165_30 ?_ | refine q_iadd gg165_30 ?_
      first | (refine z_alr gg165_31 (by first | rfl | assumption) (by assumption) (by omega) (by omega) (by omega) (by decide) (fun v31 ev31 lv31 uv31 => ?_); try dsimp only at ev31) | (refine z_alx gg165_31 rfl (by assumption) (by omega) (by omega) (by first | omega | decide) (by decide) (fun v31 ev31 lv31 uv31 => ?_); try dsimp only at ev31) | refine z_alq gg165_31 rfl (by omega) (by omega) (by decide) ?_
      first | refine z_asr gg165_32 (by first | rfl | assumption) (by assumption) (by omega) (by omega) (by decide) (by omega) (by omega) (fun f32 h32 => ?_) | refine z_asx gg165_32 rfl (by omega) (by omega) (by decide) ?_ | refine z_asq gg165_32 rfl (by omega) (by omega) (by decide) ?_
      refine hm_Wp.eqM (hm_row_row _ _ _ _) ?_
      refine z_iinc gg165_33 rfl rfl ?_
      refine q_goto gg165_36 (tg := 11) rfl ?_
      refine ih (j + 1) _ (by omega) (by omega) (fun i i0 => ?_)
      rw [hm_row_same]
      simp only [upd]
      by_cases hi : i = j
      · subst hi; rw [if_pos rfl, hfj _ (by omega), if_neg (by omega), if_pos (by omega)]
      · rw [if_neg (by omega), hfj i i0]
        (repeat' split) <;> first | rfl | omega
  refine q_aload gg165_0 rfl ?_
  first | refine z_getf gg165_1 rfl (by assumption) ?_ | refine q_getf gg165_1 rfl ?_
  refine z_const gg165_4 (v := 24) rfl ?_
  refine z_icmpne gg165_6 (tg := 49) rfl (by omega) (by omega) (fun c1 => ?_) (fun c1 => ?_)
  · try (exfalso; omega)
    all_goals (
      exact T M none rfl (fun _ _ _ => rfl) (fun _ _ => rfl) (by rw [e17]; congr 1; omega) (fun j i j0 j1 i0 i1 => by rw [ep j i j0 (by omega) i0 i1, show j + (na + 1 - naK na) = j by omega])
    )
  · try (exfalso; omega)
    all_goals (
      refine z_const gg165_9 (v := 0) rfl ?_
      refine q_istore gg165_10 rfl ?_
      refine hm_Wp.eqM (hm_row_self M 39).symm ?_
      exact L (by omega) 1219 0 (M 39) (by decide) (by decide) (fun i i0 => by rw [if_neg (by omega)])
    )
end A2
