section F7
variable {d r : Nat} {M N : hm_M} {w v w0 g : Int → Int} {b n e x a s y c q i : Int} {f : Nat → Int32} {Q : Option hm_V → hm_M → Prop}
theorem csum_succ (h : 0 ≤ b) : csum g (b + 1).toNat = csum g b.toNat + g b := by
  rw [show (b + 1).toNat = b.toNat + 1 by omega]
  simp only [csum]
  rw [Int.toNat_of_nonneg h]
theorem csum_bB {B : Int} : ∀ {n : Nat}, (∀ b : Int, 0 ≤ b → b < n → 0 ≤ g b ∧ g b ≤ B) → 0 ≤ csum g n ∧ csum g n ≤ B * n
  | 0, _ => by simp [csum]
  | n + 1, h => by
    have h1 := csum_bB (n := n) (fun b b0 b1 => h b b0 (by omega))
    have h2 := h n (by omega) (by omega)
    simp only [csum]
    rw [show B * ((n + 1 : Nat) : Int) = B * n + B by push_cast; rw [Int.mul_add, Int.mul_one]]
    omega
theorem csum_mem : ∀ {n : Nat}, (∀ b : Int, 0 ≤ b → b < n → 0 ≤ g b) → ∀ b : Int, 0 ≤ b → b < n → g b ≤ csum g n
  | 0, _, b, h0, h1 => by omega
  | n + 1, h, b, h0, h1 => by
    have h2 := h n (by omega) (by omega)
    simp only [csum]
    by_cases hb : b = n
    · subst hb
      have : 0 ≤ csum g n := by
        have := csum_le (g := fun _ => 0) (g' := g) (n := n) (fun b b0 b1 => h b b0 (by omega))
        have e : ∀ m : Nat, csum (fun _ => 0) m = 0 := fun m => by induction m with | zero => rfl | succ m ih => simp [csum, ih]
        rw [e] at this; exact this
      omega
    · have := csum_mem (n := n) (fun b b0 b1 => h b b0 (by omega)) b h0 (by omega)
      omega
/-! slices -/
def plI (w : Int → Int) (b : Int) : Int := if w (4 + 7 * b + 5) = 1 then 0 else w (4 + 7 * b + 1)
def plA (w : Int → Int) : Int := csum (plI w) (w 2).toNat
def plG (w : Int → Int) (n : Int) : Int → Int := fun c => n * plI w c / plA w
def plH (w : Int → Int) (b : Int) : Int → Int := fun c => if c < b ∧ 0 < plI w c then 1 else 0
def aSlices (w : Int → Int) (b n : Int) : Int := if 0 ≤ b ∧ b < w 2 ∧ 0 ≤ n ∧ n ≤ 999 then (if plI w b = 0 then 0 else n * plI w b / plA w + (if csum (plH w b) (w 2).toNat < n - csum (plG w n) (w 2).toNat then 1 else 0)) else -1000001
theorem aSl_0 (hc : 0 ≤ b ∧ b < w 2 ∧ 0 ≤ n ∧ n ≤ 999) (h : plI w b = 0) : aSlices w b n = 0 := by unfold aSlices; rw [if_pos hc, if_pos h]
theorem aSl_1 (hc : 0 ≤ b ∧ b < w 2 ∧ 0 ≤ n ∧ n ≤ 999) (h : plI w b ≠ 0) : aSlices w b n = n * plI w b / plA w + (if csum (plH w b) (w 2).toNat < n - csum (plG w n) (w 2).toNat then 1 else 0) := by unfold aSlices; rw [if_pos hc, if_neg h]
theorem plI_bd (hw : mWf w) (hb0 : 0 ≤ b) (hb : b < w 2) : 0 ≤ plI w b ∧ plI w b ≤ 20 := by
  have h1 := hw.2.2.1 b hb0 hb
  have h2 := hw.2.1 (4 + 7 * b + 1) (by omega) (by have := hw.1.1; omega)
  unfold plI; split <;> omega
theorem plA_bd (hw : mWf w) : 0 ≤ plA w ∧ plA w ≤ 140 := by
  have := csum_bB (g := plI w) (B := 20) (n := (w 2).toNat) (fun b b0 b1 => plI_bd hw b0 (by omega))
  have hn := hw.1.1
  unfold plA; omega
theorem plA_pos (hw : mWf w) (hb0 : 0 ≤ b) (hb : b < w 2) (h : plI w b ≠ 0) : 0 < plA w := by
  have h1 := plI_bd hw hb0 hb
  have := csum_mem (g := plI w) (n := (w 2).toNat) (fun b b0 b1 => (plI_bd hw b0 (by omega)).1) b hb0 (by omega)
  unfold plA; omega
theorem mul_bd (hn0 : 0 ≤ n) (hn : n ≤ 999) (hx0 : 0 ≤ x) (hx : x ≤ 20) : 0 ≤ n * x ∧ n * x ≤ 19980 := by
  have h1 := Int.mul_nonneg hn0 hx0
  have h2 : n * x ≤ 999 * 20 := Int.mul_le_mul hn hx hx0 (by decide)
  omega
theorem div_bd (hx0 : 0 ≤ x) (hx : x ≤ 19980) (hy : 0 ≤ y) : 0 ≤ x / y ∧ x / y ≤ 19980 := by
  have h1 := Int.ediv_nonneg hx0 hy
  have h2 := Int.ediv_le_self y hx0
  omega
theorem plG_bd (hw : mWf w) (hn0 : 0 ≤ n) (hn : n ≤ 999) (hc0 : 0 ≤ c) (hc : c < w 2) : 0 ≤ plG w n c ∧ plG w n c ≤ 19980 := by
  have h1 := plI_bd hw hc0 hc
  have h2 := mul_bd hn0 hn h1.1 h1.2
  exact div_bd h2.1 h2.2 (plA_bd hw).1
theorem plG_sum (hw : mWf w) (hn0 : 0 ≤ n) (hn : n ≤ 999) (hc : c ≤ w 2) : 0 ≤ csum (plG w n) c.toNat ∧ csum (plG w n) c.toNat ≤ 139860 := by
  have := csum_bB (g := plG w n) (B := 19980) (n := c.toNat) (fun b b0 b1 => plG_bd hw hn0 hn b0 (by omega))
  have hn := hw.1.1
  omega
theorem plH_01 : 0 ≤ plH w b c ∧ plH w b c ≤ 1 := by simp only [plH]; split <;> omega
theorem plH_sum (hw : mWf w) (hc : c ≤ w 2) : 0 ≤ csum (plH w b) c.toNat ∧ csum (plH w b) c.toNat ≤ 7 := by
  have := csum_bB (g := plH w b) (B := 1) (n := c.toNat) (fun b b0 b1 => plH_01)
  have hn := hw.1.1
  omega
theorem c_plumsTogether (h : Hb M 7 w) (hw : mWf w) (kk : Q (some (.inl (zI (plA w)))) M) : hm_Wp (d + 1) 53 0 [some (.inr (.inr 7)), none, none] [] M Q := by
  have hn := hw.1.1
  have h4 := h.1.1
  have h9 := h.1.2.2.2.2.1
  have s5 := bsum7_lt (hw.f01 (q := 5) (by decide) (by decide))
  have a2 := h.1.2.2.2.2.2.2.2.1
  have L : ∀ (m : Nat) (c : Int), 0 ≤ c → c + m = w 2 → hm_Wp (d + 1) 53 4 [some (.inr (.inr 7)), some (.inl (zI (csum (plI w) c.toNat))), some (.inl (zI c))] [] M Q := by
    intro m
    induction m with
    | zero =>
      intro c hc0 hcm
      refine q_iload gg53_4 rfl ?_
      refine q_aload gg53_5 rfl ?_
      first | refine z_getf gg53_6 rfl (by assumption) ?_ | refine q_getf gg53_6 rfl ?_
      refine z_icmpge gg53_9 (tg := 35) rfl (by omega) (by omega) (fun c1 => ?_) (fun z => absurd z (by omega))
      refine q_iload gg53_35 rfl ?_
      refine q_iret gg53_36 ?_
      refine qv ?_ kk
      unfold plA
      rw [show c = w 2 by omega]
    | succ m ih =>
      intro c hc0 hcm
      have hi := ih (c + 1) (by omega) (by omega)
      rw [csum_succ hc0] at hi
      have q5 := hw.bit (q := 5) (by decide) (by decide) hc0 (by omega)
      have hp : plI w c = if w (4 + 7 * c + 5) = 1 then 0 else w (4 + 7 * c + 1) := rfl
      refine q_iload gg53_4 rfl ?_
      refine q_aload gg53_5 rfl ?_
      first | refine z_getf gg53_6 rfl (by assumption) ?_ | refine q_getf gg53_6 rfl ?_
      refine z_icmpge gg53_9 (tg := 35) rfl (by omega) (by omega) (fun z => absurd z (by omega)) (fun c1 => ?_)
      refine q_aload gg53_12 rfl ?_
      refine q_iload gg53_13 rfl ?_
      refine q_call2 gg53_14 tt34 rfl (Nat.le_of_ble_eq_true rfl) (hm_rv (by decide +kernel)) (ls' := [some _, some _]) rfl rfl ?_
      refine q_aload gg34_0 rfl ?_
      first | refine z_getf gg34_1 rfl (by assumption) ?_ | refine q_getf gg34_1 rfl ?_
      refine q_iload gg34_4 rfl ?_
      first | refine z_ishr gg34_5 (by omega) (by omega) (by omega) (by omega) (fun sisBurst_5 esisBurst_5 lsisBurst_5 usisBurst_5 => ?_) | refine q_ishr gg34_5 ?_
      refine z_const gg34_6 (v := 1) rfl ?_
      first | refine z_iand1 gg34_7 (by omega) (by omega) ?_ | refine z_iandn gg34_7 (by omega) (by omega) (by omega) (by omega) ?_ | refine q_iand gg34_7 ?_
      refine z_const gg34_8 (v := 1) rfl ?_
      refine z_icmpne gg34_9 (tg := 16) rfl (by omega) (by omega) (fun c2 => ?_) (fun c2 => ?_)
      · try (exfalso; omega)
        all_goals (
          refine z_const gg34_16 (v := 0) rfl ?_
          refine z_zretC gg34_17 (by omega) ?_
          refine z_ifne gg53_17 (tg := 29) rfl (by decide) (fun z => absurd z (by decide)) (fun _ => ?_)
          refine q_iload gg53_20 rfl ?_
          refine q_aload gg53_21 rfl ?_
          refine q_getr gg53_22 rfl ?_
          refine q_iload gg53_25 rfl ?_
          first | refine z_alr gg53_26 (by first | rfl | assumption) (by assumption) (by omega) (by omega) (by omega) (by decide) (fun v26 ev26 lv26 uv26 => ?_) | refine z_alx gg53_26 rfl (by assumption) (by omega) (by omega) (by omega) (by decide) (fun v26 ev26 lv26 uv26 => ?_) <;> (try dsimp only at ev26)
          first | refine z_iadd gg53_27 ?_ | refine q_iadd gg53_27 ?_
          refine q_istore gg53_28 rfl ?_
          refine z_iinc gg53_29 rfl rfl ?_
          refine q_goto gg53_32 (tg := 4) rfl ?_
          first | (rw [if_pos (by omega)] at hp; rw [hp, Int.add_zero] at hi; exact hi) | (rw [if_neg (by omega)] at hp; rw [hp, ← ev26] at hi; exact hi)
        )
      · try (exfalso; omega)
        all_goals (
          refine z_const gg34_12 (v := 1) rfl ?_
          refine q_goto gg34_13 (tg := 17) rfl ?_
          refine z_zretC gg34_17 (by omega) ?_
          refine z_ifne gg53_17 (tg := 29) rfl (by decide) (fun _ => ?_) (fun z => absurd z (by decide))
          refine z_iinc gg53_29 rfl rfl ?_
          refine q_goto gg53_32 (tg := 4) rfl ?_
          first | (rw [if_pos (by omega)] at hp; rw [hp, Int.add_zero] at hi; exact hi) | (rw [if_neg (by omega)] at hp; rw [hp, ← ev26] at hi; exact hi)
        )
  refine z_const gg53_0 (v := 0) rfl ?_
  refine q_istore gg53_1 rfl ?_
  refine z_const gg53_2 (v := 0) rfl ?_
  refine q_istore gg53_3 rfl ?_
  exact L (w 2).toNat 0 (by decide) (by omega)
theorem c_slicesOf (hb0 : 0 ≤ b) (hb : b < w 2) (hn0 : 0 ≤ n) (hn : n ≤ 999) (h : Hb M 7 w) (hw : mWf w) (kk : Q (some (.inl (zI (aSlices w b n)))) M) : hm_Wp (d + 2) 52 0 [some (.inr (.inr 7)), some (.inl (zI b)), some (.inl (zI n)), none, none, none, none] [] M Q := by
  have hn2 := hw.1.1
  have h4 := h.1.1
  have h9 := h.1.2.2.2.2.1
  have s5 := bsum7_lt (hw.f01 (q := 5) (by decide) (by decide))
  have a2 := h.1.2.2.2.2.2.2.2.1
  have hA := plA_bd hw
  have q5b := hw.bit (q := 5) (by decide) (by decide) hb0 (by omega)
  have hpb : plI w b = if w (4 + 7 * b + 5) = 1 then 0 else w (4 + 7 * b + 1) := rfl
  have hbb := plI_bd hw hb0 hb
  have w5 := hw.1.2.1 b 5 hb0 (by omega) (by decide) (by decide)
  have L : plI w b ≠ 0 → ∀ (m : Nat) (c : Int), 0 ≤ c → c + m = w 2 → hm_Wp (d + 2) 52 37 [some (.inr (.inr 7)), some (.inl (zI b)), some (.inl (zI n)), some (.inl (zI (plA w))), some (.inl (zI (n - csum (plG w n) c.toNat))), some (.inl (zI (csum (plH w b) c.toNat))), some (.inl (zI c))] [] M Q := by
    intro hne m
    have hA0 := plA_pos hw hb0 hb hne
    have hE := aSl_1 (n := n) ⟨hb0, hb, hn0, hn⟩ hne
    have hpe : plI w b = w (4 + 7 * b + 1) := by rw [hpb] at hne ⊢; split at hne <;> simp_all
    induction m with
    | zero =>
      intro c hc0 hcm
      have hcw : c = w 2 := by omega
      subst hcw
      have g1 := plG_sum (c := w 2) hw hn0 hn (Int.le_refl _)
      have g2 := plH_sum (b := b) (c := w 2) hw (Int.le_refl _)
      have g3 := mul_bd hn0 hn hbb.1 hbb.2
      rw [hpe] at g3
      refine q_iload gg52_37 rfl ?_
      refine q_aload gg52_39 rfl ?_
      first | refine z_getf gg52_40 rfl (by assumption) ?_ | refine q_getf gg52_40 rfl ?_
      refine z_icmpge gg52_43 (tg := 96) rfl (by omega) (by omega) (fun c1 => ?_) (fun z => absurd z (by omega))
      refine q_iload gg52_96 rfl ?_
      refine q_aload gg52_97 rfl ?_
      refine q_getr gg52_98 rfl ?_
      refine q_iload gg52_101 rfl ?_
      first | refine z_alr gg52_102 (by first | rfl | assumption) (by assumption) (by omega) (by omega) (by omega) (by decide) (fun v102 ev102 lv102 uv102 => ?_) | refine z_alx gg52_102 rfl (by assumption) (by omega) (by omega) (by omega) (by decide) (fun v102 ev102 lv102 uv102 => ?_) <;> (try dsimp only at ev102)
      subst ev102
      first | refine z_imul gg52_103 ?_ | refine q_imul gg52_103 ?_
      refine q_iload gg52_104 rfl ?_
      refine z_idiv gg52_105 (by omega) (by omega) (by omega) (by omega) ?_
      refine q_istore gg52_106 rfl ?_
      refine q_iload gg52_108 rfl ?_
      refine q_iload gg52_110 rfl ?_
      refine z_icmpge gg52_112 (tg := 122) rfl (by omega) (by omega) (fun c1 => ?_) (fun c1 => ?_)
      · try (exfalso; omega)
        all_goals (
          refine q_iload gg52_122 rfl ?_
          refine q_iret gg52_124 ?_
          refine qv ?_ kk
          rw [hE, hpe]
          (repeat' split) <;> omega
        )
      · try (exfalso; omega)
        all_goals (
          refine q_iload gg52_115 rfl ?_
          refine z_const gg52_117 (v := 1) rfl ?_
          first | refine z_iadd gg52_118 ?_ | refine q_iadd gg52_118 ?_
          refine q_goto gg52_119 (tg := 124) rfl ?_
          refine q_iret gg52_124 ?_
          refine qv ?_ kk
          rw [hE, hpe]
          (repeat' split) <;> omega
        )
    | succ m ih =>
      intro c hc0 hcm
      have hi := ih (c + 1) (by omega) (by omega)
      rw [csum_succ hc0, csum_succ hc0] at hi
      have q5 := hw.bit (q := 5) (by decide) (by decide) hc0 (by omega)
      have hp : plI w c = if w (4 + 7 * c + 5) = 1 then 0 else w (4 + 7 * c + 1) := rfl
      have hG : plG w n c = n * plI w c / plA w := rfl
      have hH : plH w b c = if c < b ∧ 0 < plI w c then 1 else 0 := rfl
      have hcb := plI_bd hw hc0 (by omega)
      have g3 := mul_bd hn0 hn hcb.1 hcb.2
      have w5c := hw.1.2.1 c 5 hc0 (by omega) (by decide) (by decide)
      have h00 : plI w c = 0 → plG w n c = 0 ∧ plH w b c = 0 := fun h0 => ⟨by rw [hG, h0]; simp, by rw [hH, if_neg (by omega)]⟩
      refine q_iload gg52_37 rfl ?_
      refine q_aload gg52_39 rfl ?_
      first | refine z_getf gg52_40 rfl (by assumption) ?_ | refine q_getf gg52_40 rfl ?_
      refine z_icmpge gg52_43 (tg := 96) rfl (by omega) (by omega) (fun z => absurd z (by omega)) (fun c1 => ?_)
      refine q_aload gg52_46 rfl ?_
      refine q_iload gg52_47 rfl ?_
      refine q_call2 gg52_49 tt34 rfl (Nat.le_of_ble_eq_true rfl) (hm_rv (by decide +kernel)) (ls' := [some _, some _]) rfl rfl ?_
      refine q_aload gg34_0 rfl ?_
      first | refine z_getf gg34_1 rfl (by assumption) ?_ | refine q_getf gg34_1 rfl ?_
      refine q_iload gg34_4 rfl ?_
      first | refine z_ishr gg34_5 (by omega) (by omega) (by omega) (by omega) (fun sisBurst_5 esisBurst_5 lsisBurst_5 usisBurst_5 => ?_) | refine q_ishr gg34_5 ?_
      refine z_const gg34_6 (v := 1) rfl ?_
      first | refine z_iand1 gg34_7 (by omega) (by omega) ?_ | refine z_iandn gg34_7 (by omega) (by omega) (by omega) (by omega) ?_ | refine q_iand gg34_7 ?_
      refine z_const gg34_8 (v := 1) rfl ?_
      refine z_icmpne gg34_9 (tg := 16) rfl (by omega) (by omega) (fun c2 => ?_) (fun c2 => ?_)
      · try (exfalso; omega)
        all_goals (
          refine z_const gg34_16 (v := 0) rfl ?_
          refine z_zretC gg34_17 (by omega) ?_
          refine z_ifne gg52_52 (tg := 90) rfl (by decide) (fun z => absurd z (by decide)) (fun _ => ?_)
          refine q_aload gg52_55 rfl ?_
          refine q_getr gg52_56 rfl ?_
          refine q_iload gg52_59 rfl ?_
          first | refine z_alr gg52_61 (by first | rfl | assumption) (by assumption) (by omega) (by omega) (by omega) (by decide) (fun v61 ev61 lv61 uv61 => ?_) | refine z_alx gg52_61 rfl (by assumption) (by omega) (by omega) (by omega) (by decide) (fun v61 ev61 lv61 uv61 => ?_) <;> (try dsimp only at ev61)
          refine z_ifle gg52_62 (tg := 90) rfl (by omega) (fun c3 => ?_) (fun c3 => ?_)
          · try (exfalso; omega)
            all_goals (
              refine z_iinc gg52_90 rfl rfl ?_
              refine q_goto gg52_93 (tg := 37) rfl ?_
              have hp0 : plI w c = 0 := by (repeat' split at hp) <;> omega
              have := h00 hp0
              rw [this.1, this.2, Int.add_zero, Int.add_zero] at hi
              exact hi
            )
          · try (exfalso; omega)
            all_goals (
              refine q_iload gg52_65 rfl ?_
              refine q_iload gg52_67 rfl ?_
              refine q_aload gg52_68 rfl ?_
              refine q_getr gg52_69 rfl ?_
              refine q_iload gg52_72 rfl ?_
              first | refine z_alr gg52_74 (by first | rfl | assumption) (by assumption) (by omega) (by omega) (by omega) (by decide) (fun v74 ev74 lv74 uv74 => ?_) | refine z_alx gg52_74 rfl (by assumption) (by omega) (by omega) (by omega) (by decide) (fun v74 ev74 lv74 uv74 => ?_) <;> (try dsimp only at ev74)
              rw [if_neg (by omega)] at hp
              subst ev74
              rw [← hp]
              first | refine z_imul gg52_75 ?_ | refine q_imul gg52_75 ?_
              refine q_iload gg52_76 rfl ?_
              refine z_idiv gg52_77 (by omega) (by omega) (by omega) (by omega) ?_
              first | refine z_isub gg52_78 ?_ | refine q_isub gg52_78 ?_
              refine q_istore gg52_79 rfl ?_
              refine q_iload gg52_81 rfl ?_
              refine q_iload gg52_83 rfl ?_
              refine z_icmpge gg52_84 (tg := 90) rfl (by omega) (by omega) (fun c10 => ?_) (fun c10 => ?_)
              · try (exfalso; omega)
                all_goals (
                  refine z_iinc gg52_90 rfl rfl ?_
                  refine q_goto gg52_93 (tg := 37) rfl ?_
                  first | (rw [if_pos (by omega)] at hH; rw [hH, hG, ← Int.sub_sub] at hi; exact hi) | (rw [if_neg (by omega)] at hH; rw [hH, hG, ← Int.sub_sub, Int.add_zero] at hi; exact hi)
                )
              · try (exfalso; omega)
                all_goals (
                  refine z_iinc gg52_87 rfl rfl ?_
                  refine z_iinc gg52_90 rfl rfl ?_
                  refine q_goto gg52_93 (tg := 37) rfl ?_
                  first | (rw [if_pos (by omega)] at hH; rw [hH, hG, ← Int.sub_sub] at hi; exact hi) | (rw [if_neg (by omega)] at hH; rw [hH, hG, ← Int.sub_sub, Int.add_zero] at hi; exact hi)
                )
            )
        )
      · try (exfalso; omega)
        all_goals (
          refine z_const gg34_12 (v := 1) rfl ?_
          refine q_goto gg34_13 (tg := 17) rfl ?_
          refine z_zretC gg34_17 (by omega) ?_
          refine z_ifne gg52_52 (tg := 90) rfl (by decide) (fun _ => ?_) (fun z => absurd z (by decide))
          refine z_iinc gg52_90 rfl rfl ?_
          refine q_goto gg52_93 (tg := 37) rfl ?_
          have hp0 : plI w c = 0 := by (repeat' split at hp) <;> omega
          have := h00 hp0
          rw [this.1, this.2, Int.add_zero, Int.add_zero] at hi
          exact hi
        )
  refine q_aload gg52_0 rfl ?_
  refine q_call1 gg52_1 tt53 rfl (Nat.le_of_ble_eq_true rfl) (hm_rv (by decide +kernel)) (ls' := [some _, none, none]) rfl rfl ?_
  refine c_plumsTogether h hw ?_
  show hm_Wp _ _ _ _ (_ :: _) _ _
  refine q_istore gg52_4 rfl ?_
  refine q_aload gg52_5 rfl ?_
  refine q_iload gg52_6 rfl ?_
  refine q_call2 gg52_7 tt34 rfl (Nat.le_of_ble_eq_true rfl) (hm_rv (by decide +kernel)) (ls' := [some _, some _]) rfl rfl ?_
  refine q_aload gg34_0 rfl ?_
  first | refine z_getf gg34_1 rfl (by assumption) ?_ | refine q_getf gg34_1 rfl ?_
  refine q_iload gg34_4 rfl ?_
  first | refine z_ishr gg34_5 (by omega) (by omega) (by omega) (by omega) (fun sisBurst_5 esisBurst_5 lsisBurst_5 usisBurst_5 => ?_) | refine q_ishr gg34_5 ?_
  refine z_const gg34_6 (v := 1) rfl ?_
  first | refine z_iand1 gg34_7 (by omega) (by omega) ?_ | refine z_iandn gg34_7 (by omega) (by omega) (by omega) (by omega) ?_ | refine q_iand gg34_7 ?_
  refine z_const gg34_8 (v := 1) rfl ?_
  refine z_icmpne gg34_9 (tg := 16) rfl (by omega) (by omega) (fun c1 => ?_) (fun c1 => ?_)
  · try (exfalso; omega)
    all_goals (
      refine z_const gg34_16 (v := 0) rfl ?_
      refine z_zretC gg34_17 (by omega) ?_
      refine z_ifne gg52_10 (tg := 26) rfl (by decide) (fun z => absurd z (by decide)) (fun _ => ?_)
      refine q_aload gg52_13 rfl ?_
      refine q_getr gg52_14 rfl ?_
      refine q_iload gg52_17 rfl ?_
      first | refine z_alr gg52_18 (by first | rfl | assumption) (by assumption) (by omega) (by omega) (by omega) (by decide) (fun v18 ev18 lv18 uv18 => ?_) | refine z_alx gg52_18 rfl (by assumption) (by omega) (by omega) (by omega) (by decide) (fun v18 ev18 lv18 uv18 => ?_) <;> (try dsimp only at ev18)
      refine z_ifeq gg52_19 (tg := 26) rfl (by omega) (fun c2 => ?_) (fun c2 => ?_)
      · try (exfalso; omega)
        all_goals (
          refine z_const gg52_26 (v := 0) rfl ?_
          refine q_iret gg52_27 ?_
          refine qv ?_ kk
          rw [aSl_0 (by omega) (by (repeat' split at hpb) <;> first | omega | (have := plA_pos hw hb0 hb; omega))]
        )
      · try (exfalso; omega)
        all_goals (
          refine q_iload gg52_22 rfl ?_
          refine z_ifne gg52_23 (tg := 28) rfl (by omega) (fun c3 => ?_) (fun c3 => ?_)
          · try (exfalso; omega)
            all_goals (
              refine q_iload gg52_28 rfl ?_
              refine q_istore gg52_29 rfl ?_
              refine z_const gg52_31 (v := 0) rfl ?_
              refine q_istore gg52_32 rfl ?_
              refine z_const gg52_34 (v := 0) rfl ?_
              refine q_istore gg52_35 rfl ?_
              have hne : plI w b ≠ 0 := by rw [hpb, if_neg (by omega)]; omega
              have := L hne (w 2).toNat 0 (by decide) (by omega)
              simp only [Int.toNat_zero, csum, Int.sub_zero] at this
              exact this
            )
          · try (exfalso; omega)
            all_goals (
              refine z_const gg52_26 (v := 0) rfl ?_
              refine q_iret gg52_27 ?_
              refine qv ?_ kk
              rw [aSl_0 (by omega) (by (repeat' split at hpb) <;> first | omega | (have := plA_pos hw hb0 hb; omega))]
            )
        )
    )
  · try (exfalso; omega)
    all_goals (
      refine z_const gg34_12 (v := 1) rfl ?_
      refine q_goto gg34_13 (tg := 17) rfl ?_
      refine z_zretC gg34_17 (by omega) ?_
      refine z_ifne gg52_10 (tg := 26) rfl (by decide) (fun _ => ?_) (fun z => absurd z (by decide))
      refine z_const gg52_26 (v := 0) rfl ?_
      refine q_iret gg52_27 ?_
      refine qv ?_ kk
      rw [aSl_0 (by omega) (by (repeat' split at hpb) <;> first | omega | (have := plA_pos hw hb0 hb; omega))]
    )
theorem c_slices (hb : zR b) (hz : zR n) (h : Hb M 7 w) (hw : mWf w) (kk : Q (some (.inl (zI (aSlices w b n)))) M) : hm_Wp (d + 6) 108 0 [some (.inr (.inr 0)), some (.inl (zI b)), some (.inl (zI n))] [] M Q := by
  have hn := hw.1.1
  have h4 := h.1.1
  unfold zR at hz hb
  refine q_aload gg108_0 rfl ?_
  refine q_getr gg108_1 rfl ?_
  refine q_iload gg108_4 rfl ?_
  refine q_call2 gg108_5 tt32 rfl (Nat.le_of_ble_eq_true rfl) (hm_rv (by decide +kernel)) (ls' := [some _, some _]) rfl rfl ?_
  refine q_iload gg32_0 rfl ?_
  refine z_iflt gg32_1 (tg := 16) rfl (by omega) (fun c1 => ?_) (fun c1 => ?_)
  · try (exfalso; omega)
    all_goals (
      refine z_const gg32_16 (v := 0) rfl ?_
      refine z_zretC gg32_17 (by omega) ?_
      refine z_ifeq gg108_8 (tg := 22) rfl (by decide) (fun _ => ?_) (fun z => absurd z (by decide))
      refine z_neg gg108_22 ?_
      refine q_iret gg108_24 ?_
      refine qv ?_ kk
      unfold aSlices
      rw [if_neg (by omega)]
    )
  · try (exfalso; omega)
    all_goals (
      refine q_iload gg32_4 rfl ?_
      refine q_aload gg32_5 rfl ?_
      first | refine z_getf gg32_6 rfl (by assumption) ?_ | refine q_getf gg32_6 rfl ?_
      refine z_icmpge gg32_9 (tg := 16) rfl (by omega) (by omega) (fun c2 => ?_) (fun c2 => ?_)
      · try (exfalso; omega)
        all_goals (
          refine z_const gg32_16 (v := 0) rfl ?_
          refine z_zretC gg32_17 (by omega) ?_
          refine z_ifeq gg108_8 (tg := 22) rfl (by decide) (fun _ => ?_) (fun z => absurd z (by decide))
          refine z_neg gg108_22 ?_
          refine q_iret gg108_24 ?_
          refine qv ?_ kk
          unfold aSlices
          rw [if_neg (by omega)]
        )
      · try (exfalso; omega)
        all_goals (
          refine z_const gg32_12 (v := 1) rfl ?_
          refine q_goto gg32_13 (tg := 17) rfl ?_
          refine z_zretC gg32_17 (by omega) ?_
          refine z_ifeq gg108_8 (tg := 22) rfl (by decide) (fun z => absurd z (by decide)) (fun _ => ?_)
          refine q_iload gg108_11 rfl ?_
          refine z_iflt gg108_12 (tg := 22) rfl (by omega) (fun c3 => ?_) (fun c3 => ?_)
          · try (exfalso; omega)
            all_goals (
              refine z_neg gg108_22 ?_
              refine q_iret gg108_24 ?_
              refine qv ?_ kk
              unfold aSlices
              rw [if_neg (by omega)]
            )
          · try (exfalso; omega)
            all_goals (
              refine q_iload gg108_15 rfl ?_
              refine z_const gg108_16 (v := 999) rfl ?_
              refine z_icmple gg108_19 (tg := 25) rfl (by omega) (by omega) (fun c4 => ?_) (fun c4 => ?_)
              · try (exfalso; omega)
                all_goals (
                  refine q_aload gg108_25 rfl ?_
                  refine q_getr gg108_26 rfl ?_
                  refine q_iload gg108_29 rfl ?_
                  refine q_iload gg108_30 rfl ?_
                  refine q_call3 gg108_31 tt52 rfl (Nat.le_of_ble_eq_true rfl) (hm_rv (by decide +kernel)) (ls' := [some _, some _, some _, none, none, none, none]) rfl rfl ?_
                  refine c_slicesOf (by omega) (by omega) (by omega) (by omega) h hw ?_
                  show hm_Wp _ _ _ _ (_ :: _) _ _
                  refine q_iret gg108_34 ?_
                  exact kk
                )
              · try (exfalso; omega)
                all_goals (
                  refine z_neg gg108_22 ?_
                  refine q_iret gg108_24 ?_
                  refine qv ?_ kk
                  unfold aSlices
                  rw [if_neg (by omega)]
                )
            )
        )
    )
theorem r_plumsIn (hf : aw (M 36) 53 0 20000 w) (hb0 : 0 ≤ b) (hb : b < 7) (kk : Q (some (.inl (zI (plI w b)))) M) : hm_Wp (d + 1) 186 0 [some (.inr (.inr 30)), some (.inl (zI b))] [] M Q := by
  have hp : plI w b = if w (4 + 7 * b + 5) = 1 then 0 else w (4 + 7 * b + 1) := rfl
  refine q_aload gg186_0 rfl ?_
  refine q_iload gg186_1 rfl ?_
  refine q_call2 gg186_2 tt153 rfl (Nat.le_of_ble_eq_true rfl) (hm_rv (by decide +kernel)) (ls' := [some _, some _]) rfl rfl ?_
  refine q_aload gg153_0 rfl ?_
  refine q_getr gg153_1 rfl ?_
  refine z_const gg153_4 (v := 4) rfl ?_
  refine z_const gg153_5 (v := 7) rfl ?_
  refine q_iload gg153_7 rfl ?_
  first | refine z_imul gg153_8 ?_ | refine q_imul gg153_8 ?_
  first | refine z_iadd gg153_9 ?_ | refine q_iadd gg153_9 ?_
  refine z_const gg153_10 (v := 5) rfl ?_
  first | refine z_iadd gg153_11 ?_ | refine q_iadd gg153_11 ?_
  first | refine z_alr gg153_12 (by first | rfl | assumption) (by assumption) (by omega) (by omega) (by omega) (by decide) (fun visBurst_12 evisBurst_12 lvisBurst_12 uvisBurst_12 => ?_) | refine z_alx gg153_12 rfl (by assumption) (by omega) (by omega) (by omega) (by decide) (fun visBurst_12 evisBurst_12 lvisBurst_12 uvisBurst_12 => ?_) <;> (try dsimp only at evisBurst_12)
  refine z_const gg153_13 (v := 1) rfl ?_
  refine z_icmpne gg153_14 (tg := 21) rfl (by omega) (by omega) (fun c1 => ?_) (fun c1 => ?_)
  · try (exfalso; omega)
    all_goals (
      refine z_const gg153_21 (v := 0) rfl ?_
      refine z_zretC gg153_22 (by omega) ?_
      refine z_ifeq gg186_5 (tg := 12) rfl (by decide) (fun _ => ?_) (fun z => absurd z (by decide))
      refine q_aload gg186_12 rfl ?_
      refine q_getr gg186_13 rfl ?_
      refine z_const gg186_16 (v := 4) rfl ?_
      refine z_const gg186_17 (v := 7) rfl ?_
      refine q_iload gg186_19 rfl ?_
      first | refine z_imul gg186_20 ?_ | refine q_imul gg186_20 ?_
      first | refine z_iadd gg186_21 ?_ | refine q_iadd gg186_21 ?_
      refine z_const gg186_22 (v := 1) rfl ?_
      first | refine z_iadd gg186_23 ?_ | refine q_iadd gg186_23 ?_
      first | refine z_alr gg186_24 (by first | rfl | assumption) (by assumption) (by omega) (by omega) (by omega) (by decide) (fun v24 ev24 lv24 uv24 => ?_) | refine z_alx gg186_24 rfl (by assumption) (by omega) (by omega) (by omega) (by decide) (fun v24 ev24 lv24 uv24 => ?_) <;> (try dsimp only at ev24)
      refine q_iret gg186_25 ?_
      refine qv ?_ kk
      (repeat' split at hp) <;> omega
    )
  · try (exfalso; omega)
    all_goals (
      refine z_const gg153_17 (v := 1) rfl ?_
      refine q_goto gg153_18 (tg := 22) rfl ?_
      refine z_zretC gg153_22 (by omega) ?_
      refine z_ifeq gg186_5 (tg := 12) rfl (by decide) (fun z => absurd z (by decide)) (fun _ => ?_)
      refine z_const gg186_8 (v := 0) rfl ?_
      refine q_goto gg186_9 (tg := 25) rfl ?_
      refine q_iret gg186_25 ?_
      refine qv ?_ kk
      (repeat' split at hp) <;> omega
    )
theorem r_slices (hb : zR b) (hz : zR n) (hf : aw (M 36) 53 0 20000 w) (hw : mWf w) (kk : Q (some (.inl (zI (aSlices w b n)))) M) : hm_Wp (d + 6) 187 0 [some (.inr (.inr 30)), some (.inl (zI b)), some (.inl (zI n)), none, none, none, none] [] M Q := by
  have hn2 := hw.1.1
  have hA := plA_bd hw
  unfold zR at hz hb
  have L2 : 0 ≤ b → b < w 2 → 0 ≤ n → n ≤ 999 → plI w b ≠ 0 → ∀ (m : Nat) (c : Int), 0 ≤ c → c + m = w 2 → hm_Wp (d + 6) 187 72 [some (.inr (.inr 30)), some (.inl (zI b)), some (.inl (zI n)), some (.inl (zI (plA w))), some (.inl (zI (n - csum (plG w n) c.toNat))), some (.inl (zI (csum (plH w b) c.toNat))), some (.inl (zI c))] [] M Q := by
    intro hb0 hb1 hn0 hn hne m
    have hA0 := plA_pos hw hb0 hb1 hne
    have hE := aSl_1 (n := n) ⟨hb0, hb1, hn0, hn⟩ hne
    have hbb := plI_bd hw hb0 hb1
    have g3 := mul_bd hn0 hn hbb.1 hbb.2
    induction m with
    | zero =>
      intro c hc0 hcm
      have hcw : c = w 2 := by omega
      subst hcw
      have g1 := plG_sum (c := w 2) hw hn0 hn (Int.le_refl _)
      have g2 := plH_sum (b := b) (c := w 2) hw (Int.le_refl _)
      refine q_iload gg187_72 rfl ?_
      refine q_aload gg187_74 rfl ?_
      refine q_getr gg187_75 rfl ?_
      refine z_const gg187_78 (v := 2) rfl ?_
      first | refine z_alr gg187_79 (by first | rfl | assumption) (by assumption) (by omega) (by omega) (by omega) (by decide) (fun v79 ev79 lv79 uv79 => ?_) | refine z_alx gg187_79 rfl (by assumption) (by omega) (by omega) (by omega) (by decide) (fun v79 ev79 lv79 uv79 => ?_) <;> (try dsimp only at ev79)
      refine z_icmpge gg187_80 (tg := 129) rfl (by omega) (by omega) (fun c1 => ?_) (fun z => absurd z (by omega))
      refine q_iload gg187_129 rfl ?_
      refine q_aload gg187_130 rfl ?_
      refine q_iload gg187_131 rfl ?_
      refine q_call2 gg187_132 tt186 rfl (Nat.le_of_ble_eq_true rfl) (hm_rv (by decide +kernel)) (ls' := [some _, some _]) rfl rfl ?_
      refine r_plumsIn hf (by omega) (by omega) ?_
      show hm_Wp _ _ _ _ (_ :: _) _ _
      first | refine z_imul gg187_135 ?_ | refine q_imul gg187_135 ?_
      refine q_iload gg187_136 rfl ?_
      refine z_idiv gg187_137 (by omega) (by omega) (by omega) (by omega) ?_
      refine q_iload gg187_138 rfl ?_
      refine q_iload gg187_140 rfl ?_
      refine z_icmpge gg187_142 (tg := 149) rfl (by omega) (by omega) (fun c2 => ?_) (fun c2 => ?_)
      · try (exfalso; omega)
        all_goals (
          refine z_const gg187_149 (v := 0) rfl ?_
          first | refine z_iadd gg187_150 ?_ | refine q_iadd gg187_150 ?_
          refine q_iret gg187_151 ?_
          refine qv ?_ kk
          rw [hE]
          (repeat' split) <;> omega
        )
      · try (exfalso; omega)
        all_goals (
          refine z_const gg187_145 (v := 1) rfl ?_
          refine q_goto gg187_146 (tg := 150) rfl ?_
          first | refine z_iadd gg187_150 ?_ | refine q_iadd gg187_150 ?_
          refine q_iret gg187_151 ?_
          refine qv ?_ kk
          rw [hE]
          (repeat' split) <;> omega
        )
    | succ m ih =>
      intro c hc0 hcm
      have hi := ih (c + 1) (by omega) (by omega)
      rw [csum_succ hc0, csum_succ hc0] at hi
      have hG : plG w n c = n * plI w c / plA w := rfl
      have hH : plH w b c = if c < b ∧ 0 < plI w c then 1 else 0 := rfl
      have hcb := plI_bd hw hc0 (by omega)
      have g4 := mul_bd hn0 hn hcb.1 hcb.2
      refine q_iload gg187_72 rfl ?_
      refine q_aload gg187_74 rfl ?_
      refine q_getr gg187_75 rfl ?_
      refine z_const gg187_78 (v := 2) rfl ?_
      first | refine z_alr gg187_79 (by first | rfl | assumption) (by assumption) (by omega) (by omega) (by omega) (by decide) (fun v79 ev79 lv79 uv79 => ?_) | refine z_alx gg187_79 rfl (by assumption) (by omega) (by omega) (by omega) (by decide) (fun v79 ev79 lv79 uv79 => ?_) <;> (try dsimp only at ev79)
      refine z_icmpge gg187_80 (tg := 129) rfl (by omega) (by omega) (fun z => absurd z (by omega)) (fun c1 => ?_)
      refine q_iload gg187_83 rfl ?_
      refine q_iload gg187_85 rfl ?_
      refine q_aload gg187_86 rfl ?_
      refine q_iload gg187_87 rfl ?_
      refine q_call2 gg187_89 tt186 rfl (Nat.le_of_ble_eq_true rfl) (hm_rv (by decide +kernel)) (ls' := [some _, some _]) rfl rfl ?_
      refine r_plumsIn hf (by omega) (by omega) ?_
      show hm_Wp _ _ _ _ (_ :: _) _ _
      first | refine z_imul gg187_92 ?_ | refine q_imul gg187_92 ?_
      refine q_iload gg187_93 rfl ?_
      refine z_idiv gg187_94 (by omega) (by omega) (by omega) (by omega) ?_
      first | refine z_isub gg187_95 ?_ | refine q_isub gg187_95 ?_
      refine q_istore gg187_96 rfl ?_
      refine q_iload gg187_98 rfl ?_
      refine q_iload gg187_100 rfl ?_
      refine q_iload gg187_102 rfl ?_
      refine z_icmpge gg187_103 (tg := 119) rfl (by omega) (by omega) (fun c2 => ?_) (fun c2 => ?_)
      · try (exfalso; omega)
        all_goals (
          refine z_const gg187_119 (v := 0) rfl ?_
          first | refine z_iadd gg187_120 ?_ | refine q_iadd gg187_120 ?_
          refine q_istore gg187_121 rfl ?_
          refine z_iinc gg187_123 rfl rfl ?_
          refine q_goto gg187_126 (tg := 72) rfl ?_
          first | (rw [if_pos (by omega)] at hH; rw [hH, hG, ← Int.sub_sub] at hi; exact hi) | (rw [if_neg (by omega)] at hH; rw [hH, hG, ← Int.sub_sub] at hi; exact hi)
        )
      · try (exfalso; omega)
        all_goals (
          refine q_aload gg187_106 rfl ?_
          refine q_iload gg187_107 rfl ?_
          refine q_call2 gg187_109 tt186 rfl (Nat.le_of_ble_eq_true rfl) (hm_rv (by decide +kernel)) (ls' := [some _, some _]) rfl rfl ?_
          refine r_plumsIn hf (by omega) (by omega) ?_
          show hm_Wp _ _ _ _ (_ :: _) _ _
          refine z_ifle gg187_112 (tg := 119) rfl (by omega) (fun c3 => ?_) (fun c3 => ?_)
          · try (exfalso; omega)
            all_goals (
              refine z_const gg187_119 (v := 0) rfl ?_
              first | refine z_iadd gg187_120 ?_ | refine q_iadd gg187_120 ?_
              refine q_istore gg187_121 rfl ?_
              refine z_iinc gg187_123 rfl rfl ?_
              refine q_goto gg187_126 (tg := 72) rfl ?_
              first | (rw [if_pos (by omega)] at hH; rw [hH, hG, ← Int.sub_sub] at hi; exact hi) | (rw [if_neg (by omega)] at hH; rw [hH, hG, ← Int.sub_sub] at hi; exact hi)
            )
          · try (exfalso; omega)
            all_goals (
              refine z_const gg187_115 (v := 1) rfl ?_
              refine q_goto gg187_116 (tg := 120) rfl ?_
              first | refine z_iadd gg187_120 ?_ | refine q_iadd gg187_120 ?_
              refine q_istore gg187_121 rfl ?_
              refine z_iinc gg187_123 rfl rfl ?_
              refine q_goto gg187_126 (tg := 72) rfl ?_
              first | (rw [if_pos (by omega)] at hH; rw [hH, hG, ← Int.sub_sub] at hi; exact hi) | (rw [if_neg (by omega)] at hH; rw [hH, hG, ← Int.sub_sub] at hi; exact hi)
            )
        )
  have L1 : 0 ≤ b → b < w 2 → 0 ≤ n → n ≤ 999 → ∀ (m : Nat) (c : Int), 0 ≤ c → c + m = w 2 → hm_Wp (d + 6) 187 27 [some (.inr (.inr 30)), some (.inl (zI b)), some (.inl (zI n)), some (.inl (zI (csum (plI w) c.toNat))), some (.inl (zI c)), none, none] [] M Q := by
    intro hb0 hb1 hn0 hn m
    have hbb := plI_bd hw hb0 hb1
    induction m with
    | zero =>
      intro c hc0 hcm
      have hcw : c = w 2 := by omega
      subst hcw
      rw [show csum (plI w) (w 2).toNat = plA w from rfl]
      refine q_iload gg187_27 rfl ?_
      refine q_aload gg187_29 rfl ?_
      refine q_getr gg187_30 rfl ?_
      refine z_const gg187_33 (v := 2) rfl ?_
      first | refine z_alr gg187_34 (by first | rfl | assumption) (by assumption) (by omega) (by omega) (by omega) (by decide) (fun v34 ev34 lv34 uv34 => ?_) | refine z_alx gg187_34 rfl (by assumption) (by omega) (by omega) (by omega) (by decide) (fun v34 ev34 lv34 uv34 => ?_) <;> (try dsimp only at ev34)
      refine z_icmpge gg187_35 (tg := 53) rfl (by omega) (by omega) (fun c1 => ?_) (fun z => absurd z (by omega))
      refine q_aload gg187_53 rfl ?_
      refine q_iload gg187_54 rfl ?_
      refine q_call2 gg187_55 tt186 rfl (Nat.le_of_ble_eq_true rfl) (hm_rv (by decide +kernel)) (ls' := [some _, some _]) rfl rfl ?_
      refine r_plumsIn hf (by omega) (by omega) ?_
      show hm_Wp _ _ _ _ (_ :: _) _ _
      refine z_ifne gg187_58 (tg := 63) rfl (by omega) (fun c2 => ?_) (fun c2 => ?_)
      · try (exfalso; omega)
        all_goals (
          refine q_iload gg187_63 rfl ?_
          refine q_istore gg187_64 rfl ?_
          refine z_const gg187_66 (v := 0) rfl ?_
          refine q_istore gg187_67 rfl ?_
          refine z_const gg187_69 (v := 0) rfl ?_
          refine q_istore gg187_70 rfl ?_
          have := L2 hb0 hb1 hn0 hn (by omega) (w 2).toNat 0 (by decide) (by omega)
          simp only [Int.toNat_zero, csum, Int.sub_zero] at this
          exact this
        )
      · try (exfalso; omega)
        all_goals (
          refine z_const gg187_61 (v := 0) rfl ?_
          refine q_iret gg187_62 ?_
          refine qv ?_ kk
          rw [aSl_0 ⟨hb0, hb1, hn0, hn⟩ (by omega)]
        )
    | succ m ih =>
      intro c hc0 hcm
      have hi := ih (c + 1) (by omega) (by omega)
      rw [csum_succ hc0] at hi
      refine q_iload gg187_27 rfl ?_
      refine q_aload gg187_29 rfl ?_
      refine q_getr gg187_30 rfl ?_
      refine z_const gg187_33 (v := 2) rfl ?_
      first | refine z_alr gg187_34 (by first | rfl | assumption) (by assumption) (by omega) (by omega) (by omega) (by decide) (fun v34 ev34 lv34 uv34 => ?_) | refine z_alx gg187_34 rfl (by assumption) (by omega) (by omega) (by omega) (by decide) (fun v34 ev34 lv34 uv34 => ?_) <;> (try dsimp only at ev34)
      refine z_icmpge gg187_35 (tg := 53) rfl (by omega) (by omega) (fun z => absurd z (by omega)) (fun c1 => ?_)
      refine q_iload gg187_38 rfl ?_
      refine q_aload gg187_39 rfl ?_
      refine q_iload gg187_40 rfl ?_
      refine q_call2 gg187_42 tt186 rfl (Nat.le_of_ble_eq_true rfl) (hm_rv (by decide +kernel)) (ls' := [some _, some _]) rfl rfl ?_
      refine r_plumsIn hf (by omega) (by omega) ?_
      show hm_Wp _ _ _ _ (_ :: _) _ _
      first | refine z_iadd gg187_45 ?_ | refine q_iadd gg187_45 ?_
      refine q_istore gg187_46 rfl ?_
      refine z_iinc gg187_47 rfl rfl ?_
      refine q_goto gg187_50 (tg := 27) rfl ?_
      exact hi
  refine q_aload gg187_0 rfl ?_
  refine q_iload gg187_1 rfl ?_
  refine q_call2 gg187_2 tt152 rfl (Nat.le_of_ble_eq_true rfl) (hm_rv (by decide +kernel)) (ls' := [some _, some _]) rfl rfl ?_
  refine q_iload gg152_0 rfl ?_
  refine z_const gg152_1 (v := 0) rfl ?_
  refine q_aload gg152_2 rfl ?_
  refine q_getr gg152_3 rfl ?_
  refine z_const gg152_6 (v := 2) rfl ?_
  first | refine z_alr gg152_7 (by first | rfl | assumption) (by assumption) (by omega) (by omega) (by omega) (by decide) (fun visBasin_7 evisBasin_7 lvisBasin_7 uvisBasin_7 => ?_) | refine z_alx gg152_7 rfl (by assumption) (by omega) (by omega) (by omega) (by decide) (fun visBasin_7 evisBasin_7 lvisBasin_7 uvisBasin_7 => ?_) <;> (try dsimp only at evisBasin_7)
  refine z_const gg152_8 (v := 1) rfl ?_
  first | refine z_isub gg152_9 ?_ | refine q_isub gg152_9 ?_
  refine q_call3 gg152_10 tt124 rfl (Nat.le_of_ble_eq_true rfl) rfl (ls' := [some _, some _, some _]) rfl rfl ?_
  refine q_iload gg124_0 rfl ?_
  refine q_iload gg124_1 rfl ?_
  refine z_icmplt gg124_2 (tg := 14) rfl (by omega) (by omega) (fun c1 => ?_) (fun c1 => ?_)
  · try (exfalso; omega)
    all_goals (
      refine z_const gg124_14 (v := 0) rfl ?_
      refine z_zretC gg124_15 (by omega) ?_
      refine z_zretC gg152_13 (by omega) ?_
      refine z_ifeq gg187_5 (tg := 19) rfl (by decide) (fun _ => ?_) (fun z => absurd z (by decide))
      refine z_neg gg187_19 ?_
      refine q_iret gg187_21 ?_
      refine qv ?_ kk
      unfold aSlices
      rw [if_neg (by omega)]
    )
  · try (exfalso; omega)
    all_goals (
      refine q_iload gg124_5 rfl ?_
      refine q_iload gg124_6 rfl ?_
      refine z_icmpgt gg124_7 (tg := 14) rfl (by omega) (by omega) (fun c2 => ?_) (fun c2 => ?_)
      · try (exfalso; omega)
        all_goals (
          refine z_const gg124_14 (v := 0) rfl ?_
          refine z_zretC gg124_15 (by omega) ?_
          refine z_zretC gg152_13 (by omega) ?_
          refine z_ifeq gg187_5 (tg := 19) rfl (by decide) (fun _ => ?_) (fun z => absurd z (by decide))
          refine z_neg gg187_19 ?_
          refine q_iret gg187_21 ?_
          refine qv ?_ kk
          unfold aSlices
          rw [if_neg (by omega)]
        )
      · try (exfalso; omega)
        all_goals (
          refine z_const gg124_10 (v := 1) rfl ?_
          refine q_goto gg124_11 (tg := 15) rfl ?_
          refine z_zretC gg124_15 (by omega) ?_
          refine z_zretC gg152_13 (by omega) ?_
          refine z_ifeq gg187_5 (tg := 19) rfl (by decide) (fun z => absurd z (by decide)) (fun _ => ?_)
          refine q_iload gg187_8 rfl ?_
          refine z_const gg187_9 (v := 0) rfl ?_
          refine z_const gg187_10 (v := 999) rfl ?_
          refine q_call3 gg187_13 tt124 rfl (Nat.le_of_ble_eq_true rfl) rfl (ls' := [some _, some _, some _]) rfl rfl ?_
          refine q_iload gg124_0 rfl ?_
          refine q_iload gg124_1 rfl ?_
          refine z_icmplt gg124_2 (tg := 14) rfl (by omega) (by omega) (fun c3 => ?_) (fun c3 => ?_)
          · try (exfalso; omega)
            all_goals (
              refine z_const gg124_14 (v := 0) rfl ?_
              refine z_zretC gg124_15 (by omega) ?_
              refine z_ifne gg187_16 (tg := 22) rfl (by decide) (fun z => absurd z (by decide)) (fun _ => ?_)
              refine z_neg gg187_19 ?_
              refine q_iret gg187_21 ?_
              refine qv ?_ kk
              unfold aSlices
              rw [if_neg (by omega)]
            )
          · try (exfalso; omega)
            all_goals (
              refine q_iload gg124_5 rfl ?_
              refine q_iload gg124_6 rfl ?_
              refine z_icmpgt gg124_7 (tg := 14) rfl (by omega) (by omega) (fun c4 => ?_) (fun c4 => ?_)
              · try (exfalso; omega)
                all_goals (
                  refine z_const gg124_14 (v := 0) rfl ?_
                  refine z_zretC gg124_15 (by omega) ?_
                  refine z_ifne gg187_16 (tg := 22) rfl (by decide) (fun z => absurd z (by decide)) (fun _ => ?_)
                  refine z_neg gg187_19 ?_
                  refine q_iret gg187_21 ?_
                  refine qv ?_ kk
                  unfold aSlices
                  rw [if_neg (by omega)]
                )
              · try (exfalso; omega)
                all_goals (
                  refine z_const gg124_10 (v := 1) rfl ?_
                  refine q_goto gg124_11 (tg := 15) rfl ?_
                  refine z_zretC gg124_15 (by omega) ?_
                  refine z_ifne gg187_16 (tg := 22) rfl (by decide) (fun _ => ?_) (fun z => absurd z (by decide))
                  refine z_const gg187_22 (v := 0) rfl ?_
                  refine q_istore gg187_23 rfl ?_
                  refine z_const gg187_24 (v := 0) rfl ?_
                  refine q_istore gg187_25 rfl ?_
                  exact L1 (by omega) (by omega) (by omega) (by omega) (w 2).toNat 0 (by decide) (by omega)
                )
            )
        )
    )
end F7
