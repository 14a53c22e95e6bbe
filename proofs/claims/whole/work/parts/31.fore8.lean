section F8
variable {d r : Nat} {M N : hm_M} {w v w0 g : Int → Int} {b n e x a s y c q i : Int} {f : Nat → Int32} {Q : Option hm_V → hm_M → Prop}
def wtp (s c : Int) : Nat → Int
  | 0 => 1
  | m + 1 => wtp s c m * (if zbit s m = 1 then c else 10 - c)
theorem wtp_succ (h : 0 ≤ b) : wtp s c (b + 1).toNat = wtp s c b.toNat * (if zbit s b = 1 then c else 10 - c) := by
  rw [show (b + 1).toNat = b.toNat + 1 by omega]
  simp only [wtp]
  rw [Int.toNat_of_nonneg h]
theorem wtp_sumK : ∀ (n : Fin 8) (c : Fin 11), csum (fun s => wtp s (c.val : Int) n.val) (2 ^ n.val) = 10 ^ n.val := by decide +kernel
theorem wtp_nn (hc0 : 0 ≤ c) (hc : c ≤ 10) : ∀ m : Nat, 0 ≤ wtp s c m
  | 0 => by simp [wtp]
  | m + 1 => by
    simp only [wtp]
    exact Int.mul_nonneg (wtp_nn hc0 hc m) (by split <;> omega)
theorem wtp_sum (hn0 : 0 ≤ n) (hn : n ≤ 7) (hc0 : 0 ≤ c) (hc : c ≤ 10) : csum (fun s => wtp s c n.toNat) (2 ^ n.toNat) = 10 ^ n.toNat := by
  have h := wtp_sumK ⟨n.toNat, by omega⟩ ⟨c.toNat, by omega⟩
  simp only at h
  rw [show ((c.toNat : Nat) : Int) = c by omega] at h
  exact h
theorem csum_le_n {g : Int → Int} {m : Nat} (h : ∀ b : Int, 0 ≤ g b) : ∀ k : Nat, csum g m ≤ csum g (m + k)
  | 0 => Int.le_refl _
  | k + 1 => by
    have := csum_le_n h k (m := m)
    have h2 := h ((m + k : Nat) : Int)
    show csum g m ≤ csum g (m + k) + g ((m + k : Nat) : Int)
    omega
/-- as mice that had the set leave it -/
def mMi (w : Int → Int) (s : Int) : Int → Int := mZ 2 (mZ 4 w s (w 2)) s (w 2)
noncomputable def miB (w : Int → Int) (b n : Int) (s : Int) : Int := mIt n.toNat (mMi w s) (4 + 7 * b + 5)
noncomputable def miG (w : Int → Int) (b n c : Int) : Int → Int := fun s => if miB w b n s = 1 then wtp s c (w 2).toNat else 0
noncomputable def miA (w : Int → Int) (b n c : Int) : Int := csum (miG w b n c) (2 ^ (w 2).toNat)
noncomputable def aMice (w : Int → Int) (b n c y : Int) : Int := if 0 ≤ b ∧ b < w 2 ∧ 0 ≤ n ∧ n ≤ 30 ∧ 0 ≤ c ∧ c ≤ 10 ∧ 0 ≤ y ∧ y ≤ 1 then (if y = 0 then miA w b n c else 10 ^ (w 2).toNat) / (Nat.gcd (miA w b n c).toNat ((10 : Int) ^ (w 2).toNat).toNat : Int) else -1000001
theorem aMice_y (h : 0 ≤ b ∧ b < w 2 ∧ 0 ≤ n ∧ n ≤ 30 ∧ 0 ≤ c ∧ c ≤ 10 ∧ 0 ≤ y ∧ y ≤ 1) : aMice w b n c y = (if y = 0 then miA w b n c else 10 ^ (w 2).toNat) / (Nat.gcd (miA w b n c).toNat ((10 : Int) ^ (w 2).toNat).toNat : Int) := by unfold aMice; rw [if_pos h]
theorem mMi_wf (hw : mWf w) : mWf (mMi w s) := mWf_Z (mWf_Z hw (by omega) (Int.le_refl _)) (by omega) (by rw [mZ_ne (by omega)]; exact Int.le_refl _)
theorem mMi_2 : mMi w s 2 = w 2 := by unfold mMi; rw [mZ_ne (by omega), mZ_ne (by omega)]
theorem mMi_3 : mMi w s 3 = w 3 := by unfold mMi; rw [mZ_ne (by omega), mZ_ne (by omega)]
theorem miB_01 (hw : mWf w) (h3 : w 3 ≤ 9999) (hb0 : 0 ≤ b) (hb : b < w 2) (hn0 : 0 ≤ n) (hn : n ≤ 30) : miB w b n s = 0 ∨ miB w b n s = 1 := by
  have := mIt_wf n.toNat (mMi_wf (s := s) hw) (by rw [mMi_3]; omega)
  have hn2 := hw.1.1
  exact this.1.2.1 b 5 hb0 (by omega) (by decide) (by decide)
theorem p10_bd (hn : n ≤ 7) : (1 : Int) ≤ 10 ^ n.toNat ∧ (10 : Int) ^ n.toNat ≤ 10000000 := by
  have hp : (10 : Int) ^ n.toNat ≤ 10 ^ 7 := by exact_mod_cast Nat.pow_le_pow_right (n := 10) (by decide) (show n.toNat ≤ 7 by omega)
  have h0 : (0 : Int) < 10 ^ n.toNat := Int.pow_pos (by decide)
  omega
/-- the sums so far -/
theorem mi_bd (hw : mWf w) (hc0 : 0 ≤ c) (hc : c ≤ 10) {k : Nat} (hk : k ≤ 2 ^ (w 2).toNat) : 0 ≤ csum (miG w b n c) k ∧ csum (miG w b n c) k ≤ 10000000 ∧ 0 ≤ csum (fun s => wtp s c (w 2).toNat) k ∧ csum (fun s => wtp s c (w 2).toNat) k ≤ 10000000 := by
  have hn2 := hw.1.1
  have h1 : csum (miG w b n c) k ≤ csum (fun s => wtp s c (w 2).toNat) k := csum_le (fun s s0 s1 => by simp only [miG]; have := wtp_nn (s := s) hc0 hc (w 2).toNat; split <;> omega)
  have h2 := csum_le_n (g := fun s => wtp s c (w 2).toNat) (m := k) (fun s => wtp_nn hc0 hc _) (2 ^ (w 2).toNat - k)
  rw [show k + (2 ^ (w 2).toNat - k) = 2 ^ (w 2).toNat by omega, wtp_sum hn2.1 hn2.2 hc0 hc] at h2
  have h3 := p10_bd (n := w 2) hn2.2
  have h4 := csum_le_n (g := miG w b n c) (m := 0) (fun s => by simp only [miG]; have := wtp_nn (s := s) hc0 hc (w 2).toNat; split <;> omega) k
  rw [Nat.zero_add] at h4
  have h5 : csum (miG w b n c) 0 = 0 := rfl
  omega
/-! Euclid -/
theorem gcd_st {x y : Int} (hx : 0 ≤ x) (hy : 0 < y) : Nat.gcd x.toNat y.toNat = Nat.gcd y.toNat (x % y).toNat := by
  have e : (x % y).toNat = x.toNat % y.toNat := by
    have h1 : ((x.toNat % y.toNat : Nat) : Int) = x % y := by rw [Int.natCast_emod]; rw [show ((x.toNat : Nat) : Int) = x by omega, show ((y.toNat : Nat) : Int) = y by omega]
    omega
  rw [e, Nat.gcd_comm, Nat.gcd_rec, Nat.gcd_comm]
theorem rem_half {x y : Int} (hy : 0 < y) (hxy : y ≤ x) : 2 * (x % y) < x := by
  have h1 := Int.emod_add_mul_ediv x y
  have h2 := Int.emod_lt_of_pos x hy
  have h3 : 1 ≤ x / y := Int.le_ediv_of_mul_le hy (by omega)
  have h4 : y * 1 ≤ y * (x / y) := Int.mul_le_mul_of_nonneg_left h3 (by omega)
  omega
theorem c_gcd (hx0 : 0 ≤ x) (hx : x ≤ 10000000) (hy0 : 0 ≤ y) (hy : y ≤ 10000000) (kk : Q (some (.inl (zI (Nat.gcd x.toNat y.toNat : Int)))) M) : hm_Wp d 24 0 [some (.inl (zI x)), some (.inl (zI y)), none, none, none, none] [] M Q := by
  generalize hG : Nat.gcd x.toNat y.toNat = G at kk
  have L : ∀ (k : Nat) (a b j : Int) (x5 : Option hm_V), 0 ≤ a → a ≤ 10000000 → 0 ≤ b → b ≤ 10000000 → b < 2 ^ k → 0 ≤ j → j + 2 * k ≤ 100 → Nat.gcd a.toNat b.toNat = G → hm_Wp d 24 7 [some (.inl (zI x)), some (.inl (zI y)), some (.inl (zI a)), some (.inl (zI b)), some (.inl (zI j)), x5] [] M Q := by
    intro k
    induction k with
    | zero =>
      intro a b j x5 ha0 ha hb0 hb hbk hj0 hj hg
      have hb1 : b = 0 := by simp at hbk; omega
      subst hb1
      simp at hg
      refine q_iload gg24_7 rfl ?_
      refine z_ifle gg24_8 (tg := 34) rfl (by omega) (fun c1 => ?_) (fun z => absurd z (by omega))
      refine q_iload gg24_34 rfl ?_
      refine q_iret gg24_35 ?_
      refine qv ?_ kk
      omega
    | succ k ih =>
      intro a b j x5 ha0 ha hb0 hb hbk hj0 hj hg
      rw [Int.pow_succ] at hbk
      by_cases hbz : b = 0
      · subst hbz
        simp at hg
        refine q_iload gg24_7 rfl ?_
        refine z_ifle gg24_8 (tg := 34) rfl (by omega) (fun c1 => ?_) (fun z => absurd z (by omega))
        refine q_iload gg24_34 rfl ?_
        refine q_iret gg24_35 ?_
        refine qv ?_ kk
        omega
      · rw [gcd_st ha0 (by omega)] at hg
        have r0 := Int.emod_nonneg a hbz
        have r1 := Int.emod_lt_of_pos a (show 0 < b by omega)
        generalize hr : a % b = r at *
        by_cases hrz : r = 0
        · subst hrz
          simp at hg
          refine q_iload gg24_7 rfl ?_
          refine z_ifle gg24_8 (tg := 34) rfl (by omega) (fun c8 => ?_) (fun c8 => ?_)
          · exfalso; omega
          · refine q_iload gg24_11 rfl ?_
            refine z_const gg24_13 (v := 100) rfl ?_
            refine z_icmpge gg24_15 (tg := 34) rfl (by omega) (by omega) (fun c15 => ?_) (fun c15 => ?_)
            · exfalso; omega
            · refine q_iload gg24_18 rfl ?_
              refine q_iload gg24_19 rfl ?_
              refine z_irem gg24_20 (by omega) (by omega) (by omega) (by omega) ?_
              refine q_istore gg24_21 rfl ?_
              refine q_iload gg24_23 rfl ?_
              refine q_istore gg24_24 rfl ?_
              refine q_iload gg24_25 rfl ?_
              refine q_istore gg24_27 rfl ?_
              refine z_iinc gg24_28 rfl rfl ?_
              refine q_goto gg24_31 (tg := 7) rfl ?_
              rw [hr]
              refine q_iload gg24_7 rfl ?_
              refine z_ifle gg24_8 (tg := 34) rfl (by omega) (fun c1 => ?_) (fun z => absurd z (by omega))
              refine q_iload gg24_34 rfl ?_
              refine q_iret gg24_35 ?_
              refine qv ?_ kk
              omega
        · rw [gcd_st (x := b) (by omega) (by omega)] at hg
          have q0 := Int.emod_nonneg b hrz
          have q1 := Int.emod_lt_of_pos b (show 0 < r by omega)
          have q2 := rem_half (x := b) (y := r) (by omega) (by omega)
          refine q_iload gg24_7 rfl ?_
          refine z_ifle gg24_8 (tg := 34) rfl (by omega) (fun c8 => ?_) (fun c8 => ?_)
          · exfalso; omega
          · refine q_iload gg24_11 rfl ?_
            refine z_const gg24_13 (v := 100) rfl ?_
            refine z_icmpge gg24_15 (tg := 34) rfl (by omega) (by omega) (fun c15 => ?_) (fun c15 => ?_)
            · exfalso; omega
            · refine q_iload gg24_18 rfl ?_
              refine q_iload gg24_19 rfl ?_
              refine z_irem gg24_20 (by omega) (by omega) (by omega) (by omega) ?_
              refine q_istore gg24_21 rfl ?_
              refine q_iload gg24_23 rfl ?_
              refine q_istore gg24_24 rfl ?_
              refine q_iload gg24_25 rfl ?_
              refine q_istore gg24_27 rfl ?_
              refine z_iinc gg24_28 rfl rfl ?_
              refine q_goto gg24_31 (tg := 7) rfl ?_
              rw [hr]
              refine q_iload gg24_7 rfl ?_
              refine z_ifle gg24_8 (tg := 34) rfl (by omega) (fun z => absurd z (by omega)) (fun c1 => ?_)
              refine q_iload gg24_11 rfl ?_
              refine z_const gg24_13 (v := 100) rfl ?_
              refine z_icmpge gg24_15 (tg := 34) rfl (by omega) (by omega) (fun z => absurd z (by omega)) (fun c2 => ?_)
              refine q_iload gg24_18 rfl ?_
              refine q_iload gg24_19 rfl ?_
              refine z_irem gg24_20 (by omega) (by omega) (by omega) (by omega) ?_
              refine q_istore gg24_21 rfl ?_
              refine q_iload gg24_23 rfl ?_
              refine q_istore gg24_24 rfl ?_
              refine q_iload gg24_25 rfl ?_
              refine q_istore gg24_27 rfl ?_
              refine z_iinc gg24_28 rfl rfl ?_
              refine q_goto gg24_31 (tg := 7) rfl ?_
              exact ih r (b % r) _ _ (by omega) (by omega) q0 (by omega) (by omega) (by omega) (by omega) hg
  refine q_iload gg24_0 rfl ?_
  refine q_istore gg24_1 rfl ?_
  refine q_iload gg24_2 rfl ?_
  refine q_istore gg24_3 rfl ?_
  refine z_const gg24_4 (v := 0) rfl ?_
  refine q_istore gg24_5 rfl ?_
  exact L 24 x y 0 none hx0 hx hy0 hy (by omega) (by decide) (by decide) hG
theorem c_weightOf (hs0 : 0 ≤ s) (hs : s < 128) (hc0 : 0 ≤ c) (hc : c ≤ 10) (h : Hb M 7 w) (hw : mWf w) (kk : Q (some (.inl (zI (wtp s c (w 2).toNat)))) M) : hm_Wp d 22 0 [some (.inr (.inr 21)), some (.inl (zI s)), some (.inl (zI c)), none, none] [] M Q := by
  have hn2 := hw.1.1
  have h4 := h.1.1
  have L : ∀ (m : Nat) (k : Int), 0 ≤ k → k + m = w 2 → hm_Wp d 22 5 [some (.inr (.inr 21)), some (.inl (zI s)), some (.inl (zI c)), some (.inl (zI (wtp s c k.toNat))), some (.inl (zI k))] [] M Q := by
    intro m
    induction m with
    | zero =>
      intro k hk0 hkm
      refine q_iload gg22_5 rfl ?_
      refine q_aload gg22_7 rfl ?_
      refine q_getr gg22_8 rfl ?_
      first | refine z_getf gg22_11 rfl (by assumption) ?_ | refine q_getf gg22_11 rfl ?_
      refine z_icmpge gg22_14 (tg := 44) rfl (by omega) (by omega) (fun c1 => ?_) (fun z => absurd z (by omega))
      refine q_iload gg22_44 rfl ?_
      refine q_iret gg22_45 ?_
      rw [show k = w 2 by omega]
      exact kk
    | succ m ih =>
      intro k hk0 hkm
      have hi := ih (k + 1) (by omega) (by omega)
      rw [wtp_succ hk0] at hi
      have hz : zbit s k = s / 2 ^ k.toNat % 2 := rfl
      refine q_iload gg22_5 rfl ?_
      refine q_aload gg22_7 rfl ?_
      refine q_getr gg22_8 rfl ?_
      first | refine z_getf gg22_11 rfl (by assumption) ?_ | refine q_getf gg22_11 rfl ?_
      refine z_icmpge gg22_14 (tg := 44) rfl (by omega) (by omega) (fun z => absurd z (by omega)) (fun c1 => ?_)
      refine q_iload gg22_17 rfl ?_
      refine q_iload gg22_18 rfl ?_
      refine q_iload gg22_19 rfl ?_
      first | refine z_ishr gg22_21 (by omega) (by omega) (by omega) (by omega) (fun s21 es21 ls21 us21 => ?_) | refine q_ishr gg22_21 ?_
      refine z_const gg22_22 (v := 1) rfl ?_
      first | refine z_iand1 gg22_23 (by omega) (by omega) ?_ | refine z_iandn gg22_23 (by omega) (by omega) (by omega) (by omega) ?_ | refine q_iand gg22_23 ?_
      refine z_const gg22_24 (v := 1) rfl ?_
      refine z_icmpne gg22_25 (tg := 32) rfl (by omega) (by omega) (fun c2 => ?_) (fun c2 => ?_)
      · try (exfalso; omega)
        all_goals (
          refine z_const gg22_32 (v := 10) rfl ?_
          refine q_iload gg22_34 rfl ?_
          first | refine z_isub gg22_35 ?_ | refine q_isub gg22_35 ?_
          first | refine z_imul gg22_36 ?_ | refine q_imul gg22_36 ?_
          refine q_istore gg22_37 rfl ?_
          refine z_iinc gg22_38 rfl rfl ?_
          refine q_goto gg22_41 (tg := 5) rfl ?_
          first | (rw [if_pos (by omega)] at hi; exact hi) | (rw [if_neg (by omega)] at hi; exact hi)
        )
      · try (exfalso; omega)
        all_goals (
          refine q_iload gg22_28 rfl ?_
          refine q_goto gg22_29 (tg := 36) rfl ?_
          first | refine z_imul gg22_36 ?_ | refine q_imul gg22_36 ?_
          refine q_istore gg22_37 rfl ?_
          refine z_iinc gg22_38 rfl rfl ?_
          refine q_goto gg22_41 (tg := 5) rfl ?_
          first | (rw [if_pos (by omega)] at hi; exact hi) | (rw [if_neg (by omega)] at hi; exact hi)
        )
  refine z_const gg22_0 (v := 1) rfl ?_
  refine q_istore gg22_1 rfl ?_
  refine z_const gg22_2 (v := 0) rfl ?_
  refine q_istore gg22_3 rfl ?_
  exact L (w 2).toNat 0 (by decide) (by omega)
theorem c_burstsWithMice (hs0 : 0 ≤ s) (hs : s < 128) (hb0 : 0 ≤ b) (hb : b < w 2) (hn0 : 0 ≤ n) (hn : n ≤ 30) (h : Hb M 7 w) (hw : mWf w) (h3 : w 3 ≤ 9999) (kk : ∀ M', FT M M' → Q (some (.inl (zI (miB w b n s)))) M') : hm_Wp (d + 5) 23 0 [some (.inr (.inr 21)), some (.inl (zI b)), some (.inl (zI n)), some (.inl (zI s)), none] [] M Q := by
  have hn2 := hw.1.1
  have t8 := bsum7_lt (hw.f01 (q := 4) (by decide) (by decide))
  have hv := mMi_wf (s := s) hw
  have hv2 : mMi w s 2 = w 2 := mMi_2
  have hv3 : mMi w s 3 = w 3 := mMi_3
  have L : ∀ (m : Nat) (k : Int) (N : hm_M), 0 ≤ k → k + m = w 2 → FT M N → Hb N 22 (mZ 2 (mZ 4 w s (w 2)) s k) → hm_Wp (d + 5) 23 22 [some (.inr (.inr 21)), some (.inl (zI b)), some (.inl (zI n)), some (.inl (zI s)), some (.inl (zI k))] [] N Q := by
    intro m
    induction m with
    | zero =>
      intro k N hk0 hkm hft hN
      rw [show k = w 2 by omega] at hN
      have hN' : Hb N 22 (mMi w s) := hN
      have h4 := hN'.1.1
      rw [mMi_2] at h4
      have h01 := miB_01 (s := s) hw h3 hb0 hb hn0 hn
      unfold miB at h01
      refine q_iload gg23_22 rfl ?_
      refine q_aload gg23_24 rfl ?_
      refine q_getr gg23_25 rfl ?_
      first | refine z_getf gg23_28 rfl (by assumption) ?_ | refine q_getf gg23_28 rfl ?_
      refine z_icmpge gg23_31 (tg := 61) rfl (by omega) (by omega) (fun c1 => ?_) (fun z => absurd z (by omega))
      refine q_aload gg23_61 rfl ?_
      refine q_iload gg23_62 rfl ?_
      refine q_iload gg23_63 rfl ?_
      refine q_call3 gg23_64 tt29 rfl (Nat.le_of_ble_eq_true rfl) (hm_rv (by decide +kernel)) (ls' := [some _, some _, some _, none, none]) rfl rfl ?_
      refine c_trialBursts hN' hv hb0 (by omega) hn0 (by omega) (by omega) (fun M2 hfr => ?_)
      show hm_Wp _ _ _ _ (_ :: _) _ _
      refine z_zret gg23_67 (by omega) ?_
      exact kk _ (hft.tr hfr.ft)
    | succ m ih =>
      intro k N hk0 hkm hft hN
      have h4 := hN.1.1
      rw [mZ_ne (by omega), mZ_ne (by omega)] at h4
      have hz : zbit s k = s / 2 ^ k.toNat % 2 := rfl
      have hst : zbit s k = 1 → Hb (hm_row N 25 (upd (N 25) k.toNat (zI 0))) 22 (mZ 2 (mZ 4 w s (w 2)) s (k + 1)) := fun h1 => by
        rw [show mZ 2 (mZ 4 w s (w 2)) s (k + 1) = zup (mZ 2 (mZ 4 w s (w 2)) s k) (4 + 7 * k + 2) 0 from funext (fun i => mZ_t hk0 (by decide) (by decide) h1)]
        exact Hb_swl hN hk0 (by rw [mZ_ne (by omega), mZ_ne (by omega)]; omega) (by decide) (by decide)
      have hsf : zbit s k ≠ 1 → Hb N 22 (mZ 2 (mZ 4 w s (w 2)) s (k + 1)) := fun h1 => by
        rw [show mZ 2 (mZ 4 w s (w 2)) s (k + 1) = mZ 2 (mZ 4 w s (w 2)) s k from funext (fun i => mZ_f hk0 (by decide) (by decide) h1)]
        exact hN
      refine q_iload gg23_22 rfl ?_
      refine q_aload gg23_24 rfl ?_
      refine q_getr gg23_25 rfl ?_
      first | refine z_getf gg23_28 rfl (by assumption) ?_ | refine q_getf gg23_28 rfl ?_
      refine z_icmpge gg23_31 (tg := 61) rfl (by omega) (by omega) (fun z => absurd z (by omega)) (fun c1 => ?_)
      refine q_iload gg23_34 rfl ?_
      refine q_iload gg23_35 rfl ?_
      first | refine z_ishr gg23_37 (by omega) (by omega) (by omega) (by omega) (fun s37 es37 ls37 us37 => ?_) | refine q_ishr gg23_37 ?_
      refine z_const gg23_38 (v := 1) rfl ?_
      first | refine z_iand1 gg23_39 (by omega) (by omega) ?_ | refine z_iandn gg23_39 (by omega) (by omega) (by omega) (by omega) ?_ | refine q_iand gg23_39 ?_
      refine z_const gg23_40 (v := 1) rfl ?_
      refine z_icmpne gg23_41 (tg := 55) rfl (by omega) (by omega) (fun c2 => ?_) (fun c2 => ?_)
      · try (exfalso; omega)
        all_goals (
          refine z_iinc gg23_55 rfl rfl ?_
          refine q_goto gg23_58 (tg := 22) rfl ?_
          first | exact ih (k + 1) _ (by omega) (by omega) hft (hsf (by omega)) | exact ih (k + 1) _ (by omega) (by omega) (hft.tr (Fr.row (r := 22) (q := 25) (M := N) (by decide) (by decide)).ft) (hst (by omega))
        )
      · try (exfalso; omega)
        all_goals (
          refine q_aload gg23_44 rfl ?_
          refine q_getr gg23_45 rfl ?_
          refine q_getr gg23_48 rfl ?_
          refine q_iload gg23_51 rfl ?_
          refine z_const gg23_53 (v := 0) rfl ?_
          first | refine z_asr gg23_54 (by first | rfl | assumption) (by assumption) (by omega) (by omega) (by decide) (by omega) (by omega) (fun f54 h54 => ?_) | refine z_asx gg23_54 rfl (by omega) (by omega) (by decide) ?_
          refine z_iinc gg23_55 rfl rfl ?_
          refine q_goto gg23_58 (tg := 22) rfl ?_
          first | exact ih (k + 1) _ (by omega) (by omega) hft (hsf (by omega)) | exact ih (k + 1) _ (by omega) (by omega) (hft.tr (Fr.row (r := 22) (q := 25) (M := N) (by decide) (by decide)).ft) (hst (by omega))
        )
  refine q_aload gg23_0 rfl ?_
  refine q_call1 gg23_1 tt27 rfl (Nat.le_of_ble_eq_true rfl) (hm_rv (by decide +kernel)) (ls' := [some _]) rfl rfl ?_
  refine c_beginTrial h hw (fun M1 h1 h17 hft1 => ?_)
  have hH := Hb_onZ h1 hw hs0 hs
  have g8 := h1.1.2.2.2.1
  show hm_Wp _ _ _ _ _ _ _
  refine q_aload gg23_4 rfl ?_
  refine q_getr gg23_5 rfl ?_
  refine q_dup gg23_8 rfl ?_
  first | refine z_getf gg23_9 rfl (by assumption) ?_ | refine q_getf gg23_9 rfl ?_
  refine q_iload gg23_12 rfl ?_
  refine z_neg gg23_13 ?_
  first | refine z_inot gg23_14 (by omega) (by omega) ?_ | refine q_ixor gg23_14 ?_
  first | refine z_iand1 gg23_15 (by omega) (by omega) ?_ | refine z_iandn gg23_15 (by omega) (by omega) (by omega) (by omega) ?_ | refine q_iand gg23_15 ?_
  refine q_putf gg23_16 rfl ?_
  refine z_const gg23_19 (v := 0) rfl ?_
  refine q_istore gg23_20 rfl ?_
  exact L (w 2).toNat 0 _ (by decide) (by omega) (hft1.tr (Fr.row (r := 22) (q := 22) (M := M1) (by decide) (by decide)).ft) (by rw [show mZ 2 (mZ 4 w s (w 2)) s 0 = mZ 4 w s (w 2) from funext (fun i => mZ_0 (by decide) (by decide))]; exact hH)
end F8
