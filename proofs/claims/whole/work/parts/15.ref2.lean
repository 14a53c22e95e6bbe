theorem bsum_bitI {g : Int → Int} {n : Nat} (hg : b01 g n) {b : Int} (hb0 : 0 ≤ b) (hb : b < n) : bsum g n / 2 ^ b.toNat % 2 = g b := by
  have := bsum_bit hg b.toNat (by omega)
  rw [Int.toNat_of_nonneg hb0] at this
  exact this
def csum (g : Int → Int) : Nat → Int
  | 0 => 0
  | n + 1 => csum g n + g n
theorem csum_le {g g' : Int → Int} : ∀ {n : Nat}, (∀ b : Int, 0 ≤ b → b < n → g b ≤ g' b) → csum g n ≤ csum g' n
  | 0, _ => Int.le_refl _
  | n + 1, h => by
    have h1 := csum_le (n := n) (fun b h0 h1 => h b h0 (by omega))
    have h2 := h n (by omega) (by omega)
    simp only [csum]; omega
theorem csum_lt {g g' : Int → Int} : ∀ {n : Nat}, (∀ b : Int, 0 ≤ b → b < n → g b ≤ g' b) → (∃ b : Int, 0 ≤ b ∧ b < n ∧ g b < g' b) → csum g n < csum g' n
  | 0, _, h => by obtain ⟨b, h0, h1, -⟩ := h; omega
  | n + 1, h, hx => by
    obtain ⟨b, h0, h1, h2⟩ := hx
    have h3 := h n (by omega) (by omega)
    simp only [csum]
    by_cases hb : b = n
    · subst hb
      have := csum_le (n := n) (fun b h0 h1 => h b h0 (by omega))
      omega
    · have := csum_lt (n := n) (fun b h0 h1 => h b h0 (by omega)) ⟨b, h0, by omega, h2⟩
      omega
theorem bsum_pos {g : Int → Int} : ∀ {n : Nat}, b01 g n → bsum g n ≠ 0 → ∃ b : Int, 0 ≤ b ∧ b < n ∧ g b = 1
  | 0, _, h => absurd rfl h
  | n + 1, hg, h => by
    rcases hg n (by omega) (by omega) with z | z
    · simp only [bsum, z, Int.zero_mul, Int.add_zero] at h
      obtain ⟨b, h0, h1, h2⟩ := bsum_pos (b01_le hg (Nat.le_succ n)) h
      exact ⟨b, h0, by omega, h2⟩
    · exact ⟨n, by omega, by omega, z⟩
theorem bsum_zero {g : Int → Int} {n : Nat} (hg : b01 g n) (h : bsum g n = 0) {b : Int} (hb0 : 0 ≤ b) (hb : b < n) : g b = 0 := by
  have := bsum_bitI hg hb0 hb
  rw [h] at this
  simp at this
  exact this.symm
theorem mRip_b01 (w : Int → Int) (n : Nat) : b01 (mRip w) n := fun b _ _ => mRip_01 w b
section R2
variable {d k : Nat} {M : hm_M} {f : Nat → Int32} {w g : Int → Int} {b p s : Int} {Q : Option hm_V → hm_M → Prop}
theorem r_ripe (hk : hm_sh[k]? = some (.inl (false, 53))) (hf : aw f 53 0 20000 w) (hn0 : 0 ≤ w 2) (hn : w 2 ≤ 7) (kk : Q (some (.inl (zI (bsum (mRip w) (w 2).toNat)))) (hm_row M k f)) : hm_Wp d 157 0 [some (.inr (.inr k)), none, none, none] [] (hm_row M k f) Q := by
  have L : ∀ (m : Nat) (b : Int) (x3 : Option hm_V), hm_free [some (.inr (.inr k)), some (.inl (zI (bsum (mRip w) b.toNat))), some (.inl (zI b)), x3] 3 = true → 0 ≤ b → b + m = w 2 → hm_Wp d 157 4 [some (.inr (.inr k)), some (.inl (zI (bsum (mRip w) b.toNat))), some (.inl (zI b)), x3] [] (hm_row M k f) Q := by
    intro m
    induction m with
    | zero =>
      intro b x3 _ hb0 hbm
      refine q_iload gg157_4 rfl ?_
      refine q_aload gg157_5 rfl ?_
      refine z_const gg157_6 (v := 2) rfl ?_
      first | refine z_alr gg157_7 (by first | rfl | assumption) (by assumption) (by omega) (by omega) (by omega) (by decide) (fun v7 ev7 lv7 uv7 => ?_) | refine z_alx gg157_7 rfl (by assumption) (by omega) (by omega) (by omega) (by decide) (fun v7 ev7 lv7 uv7 => ?_)
      refine z_icmpge gg157_8 (tg := 53) rfl (by omega) (by omega) (fun c1 => ?_) (fun z => absurd z (by omega))
      refine q_iload gg157_53 rfl ?_
      refine q_iret gg157_54 ?_
      refine qv ?_ kk
      rw [show b = w 2 by omega]
    | succ m ih =>
      intro b x3 _ hb0 hbm
      obtain ⟨s0, s1⟩ := bsum_lt (mRip_b01 w b.toNat)
      have hp := p2_lt (show b < 7 by omega)
      have hi := ih (b + 1)
      rw [bsum_succ hb0] at hi
      refine q_iload gg157_4 rfl ?_
      refine q_aload gg157_5 rfl ?_
      refine z_const gg157_6 (v := 2) rfl ?_
      first | refine z_alr gg157_7 (by first | rfl | assumption) (by assumption) (by omega) (by omega) (by omega) (by decide) (fun v7 ev7 lv7 uv7 => ?_) | refine z_alx gg157_7 rfl (by assumption) (by omega) (by omega) (by omega) (by decide) (fun v7 ev7 lv7 uv7 => ?_)
      refine z_icmpge gg157_8 (tg := 53) rfl (by omega) (by omega) (fun c1 => ?_) (fun c1 => ?_)
      · exact absurd c1 (by omega)
      · refine z_const gg157_11 (v := 4) rfl ?_
        refine z_const gg157_12 (v := 7) rfl ?_
        refine q_iload gg157_14 rfl ?_
        refine z_imul gg157_15 ?_
        refine z_iadd gg157_16 ?_
        refine q_istore gg157_17 rfl ?_
        refine q_iload gg157_18 rfl ?_
        refine q_aload gg157_19 rfl ?_
        refine q_iload gg157_20 rfl ?_
        refine z_const gg157_21 (v := 5) rfl ?_
        refine z_iadd gg157_22 ?_
        first | refine z_alr gg157_23 (by first | rfl | assumption) (by assumption) (by omega) (by omega) (by omega) (by decide) (fun v23 ev23 lv23 uv23 => ?_) | refine z_alx gg157_23 rfl (by assumption) (by omega) (by omega) (by omega) (by decide) (fun v23 ev23 lv23 uv23 => ?_)
        refine z_ifne gg157_24 (tg := 44) rfl (by omega) (fun c2 => ?_) (fun c2 => ?_)
        · have hr : mRip w b = 0 := by unfold mRip; rw [if_neg (by omega)]
          rw [hr, Int.zero_mul, Int.add_zero] at hi
          refine z_const gg157_44 (v := 0) rfl ?_
          refine z_ior0 gg157_45 s0 (by omega) ?_
          refine q_istore gg157_46 rfl ?_
          refine z_iinc gg157_47 rfl rfl ?_
          refine q_goto gg157_50 (tg := 4) rfl ?_
          exact hi _ rfl (by omega) (by omega)
        · refine q_aload gg157_27 rfl ?_
          refine q_iload gg157_28 rfl ?_
          refine z_const gg157_29 (v := 2) rfl ?_
          refine z_iadd gg157_30 ?_
          first | refine z_alr gg157_31 (by first | rfl | assumption) (by assumption) (by omega) (by omega) (by omega) (by decide) (fun v31 ev31 lv31 uv31 => ?_) | refine z_alx gg157_31 rfl (by assumption) (by omega) (by omega) (by omega) (by decide) (fun v31 ev31 lv31 uv31 => ?_)
          refine q_aload gg157_32 rfl ?_
          refine z_const gg157_33 (v := 1) rfl ?_
          first | refine z_alr gg157_34 (by first | rfl | assumption) (by assumption) (by omega) (by omega) (by omega) (by decide) (fun v34 ev34 lv34 uv34 => ?_) | refine z_alx gg157_34 rfl (by assumption) (by omega) (by omega) (by omega) (by decide) (fun v34 ev34 lv34 uv34 => ?_)
          refine z_icmple gg157_35 (tg := 44) rfl (by omega) (by omega) (fun c3 => ?_) (fun c3 => ?_)
          · have hr : mRip w b = 0 := by unfold mRip; rw [if_neg (by omega)]
            rw [hr, Int.zero_mul, Int.add_zero] at hi
            refine z_const gg157_44 (v := 0) rfl ?_
            refine z_ior0 gg157_45 s0 (by omega) ?_
            refine q_istore gg157_46 rfl ?_
            refine z_iinc gg157_47 rfl rfl ?_
            refine q_goto gg157_50 (tg := 4) rfl ?_
            exact hi _ rfl (by omega) (by omega)
          · have hr : mRip w b = 1 := by unfold mRip; rw [if_pos (by omega)]
            rw [hr] at hi
            refine z_const gg157_38 (v := 1) rfl ?_
            refine q_iload gg157_39 rfl ?_
            refine z_ishl gg157_40 (by omega) (by omega) (by omega) (by omega) ?_
            refine q_goto gg157_41 (tg := 45) rfl ?_
            refine z_iorb gg157_45 hb0 (by omega) s0 s1 (Or.inr rfl) ?_
            refine q_istore gg157_46 rfl ?_
            refine z_iinc gg157_47 rfl rfl ?_
            refine q_goto gg157_50 (tg := 4) rfl ?_
            exact hi _ rfl (by omega) (by omega)
  refine z_const gg157_0 (v := 0) rfl ?_
  refine q_istore gg157_1 rfl ?_
  refine z_const gg157_2 (v := 0) rfl ?_
  refine q_istore gg157_3 rfl ?_
  exact L (w 2).toNat 0 none rfl (by decide) (by omega)
theorem r_inPlace (hk : hm_sh[k]? = some (.inl (false, 53))) (hf : aw f 53 0 20000 w) (hn0 : 0 ≤ w 2) (hn : w 2 ≤ 7) (hp0 : -10 ≤ p) (hp : p ≤ 30000) (k1 : ∀ b : Int, 0 ≤ b → b < w 2 → w (4 + 7 * b + 3) = p → Q (some (.inl (zI b))) (hm_row M k f)) (k2 : (∀ b : Int, 0 ≤ b → b < w 2 → w (4 + 7 * b + 3) ≠ p) → Q (some (.inl (zI (-1000000)))) (hm_row M k f)) : hm_Wp d 158 0 [some (.inr (.inr k)), some (.inl (zI p)), none] [] (hm_row M k f) Q := by
  have L : ∀ (m : Nat) (b : Int), 0 ≤ b → b + m = w 2 → (∀ c : Int, 0 ≤ c → c < b → w (4 + 7 * c + 3) ≠ p) → hm_Wp d 158 2 [some (.inr (.inr k)), some (.inl (zI p)), some (.inl (zI b))] [] (hm_row M k f) Q := by
    intro m
    induction m with
    | zero =>
      intro b hb0 hbm hno
      refine q_iload gg158_2 rfl ?_
      refine q_aload gg158_3 rfl ?_
      refine z_const gg158_4 (v := 2) rfl ?_
      first | refine z_alr gg158_5 (by first | rfl | assumption) (by assumption) (by omega) (by omega) (by omega) (by decide) (fun v5 ev5 lv5 uv5 => ?_) | refine z_alx gg158_5 rfl (by assumption) (by omega) (by omega) (by omega) (by decide) (fun v5 ev5 lv5 uv5 => ?_)
      refine z_icmpge gg158_6 (tg := 31) rfl (by omega) (by omega) (fun c1 => ?_) (fun z => absurd z (by omega))
      refine z_neg gg158_31 ?_
      refine q_iret gg158_33 ?_
      exact k2 (fun c h0 h1 => hno c h0 (by omega))
    | succ m ih =>
      intro b hb0 hbm hno
      refine q_iload gg158_2 rfl ?_
      refine q_aload gg158_3 rfl ?_
      refine z_const gg158_4 (v := 2) rfl ?_
      first | refine z_alr gg158_5 (by first | rfl | assumption) (by assumption) (by omega) (by omega) (by omega) (by decide) (fun v5 ev5 lv5 uv5 => ?_) | refine z_alx gg158_5 rfl (by assumption) (by omega) (by omega) (by omega) (by decide) (fun v5 ev5 lv5 uv5 => ?_)
      refine z_icmpge gg158_6 (tg := 31) rfl (by omega) (by omega) (fun z => absurd z (by omega)) (fun c1 => ?_)
      refine q_aload gg158_9 rfl ?_
      refine z_const gg158_10 (v := 4) rfl ?_
      refine z_const gg158_11 (v := 7) rfl ?_
      refine q_iload gg158_13 rfl ?_
      refine z_imul gg158_14 ?_
      refine z_iadd gg158_15 ?_
      refine z_const gg158_16 (v := 3) rfl ?_
      refine z_iadd gg158_17 ?_
      first | refine z_alr gg158_18 (by first | rfl | assumption) (by assumption) (by omega) (by omega) (by omega) (by decide) (fun v18 ev18 lv18 uv18 => ?_) | refine z_alx gg158_18 rfl (by assumption) (by omega) (by omega) (by omega) (by decide) (fun v18 ev18 lv18 uv18 => ?_)
      refine q_iload gg158_19 rfl ?_
      refine z_icmpne gg158_20 (tg := 25) rfl (by omega) (by omega) (fun c2 => ?_) (fun c2 => ?_)
      · try (exfalso; omega)
        all_goals (
          refine z_iinc gg158_25 rfl rfl ?_
          refine q_goto gg158_28 (tg := 2) rfl ?_
          exact ih (b + 1) (by omega) (by omega) (all_succ hno (by omega))
        )
      · try (exfalso; omega)
        all_goals (
          refine q_iload gg158_23 rfl ?_
          refine q_iret gg158_24 ?_
          exact k1 b hb0 (by omega) (by omega)
        )
  refine z_const gg158_0 (v := 0) rfl ?_
  refine q_istore gg158_1 rfl ?_
  exact L (w 2).toNat 0 (by decide) (by omega) (fun c h0 h1 => absurd h1 (by omega))
theorem r_isOf (hk : hm_sh[k]? = some (.inl (false, 53))) (hf : aw f 53 0 20000 w) (hw : mOk w) (hs : s = bsum g (w 2).toNat) (hg : b01 g (w 2).toNat) (hp0 : -10 ≤ p) (hp : p ≤ 30000) (k1 : mEx w g p → Q (some (.inl (zI 1))) (hm_row M k f)) (k0 : ¬ mEx w g p → Q (some (.inl (zI 0))) (hm_row M k f)) : hm_Wp (d + 1) 159 0 [some (.inr (.inr k)), some (.inl (zI s)), some (.inl (zI p)), none] [] (hm_row M k f) Q := by
  obtain ⟨⟨hn0, hn⟩, hfl, hinj⟩ := hw
  obtain ⟨s0, s1⟩ := bsum_lt hg
  have hs2 : bsum g (w 2).toNat < 128 := by
    have : (2 : Int) ^ (w 2).toNat ≤ 2 ^ 7 := by
      have : (w 2).toNat ≤ 7 := by omega
      exact_mod_cast Nat.pow_le_pow_right (n := 2) (by decide) this
    omega
  refine q_aload gg159_0 rfl ?_
  refine q_iload gg159_1 rfl ?_
  refine q_call2 gg159_2 tt158 rfl (Nat.le_of_ble_eq_true rfl) rfl (ls' := [some _, some _, none]) rfl rfl ?_
  refine r_inPlace hk hf hn0 hn hp0 hp (fun b hb0 hb hpl => ?_) (fun hno => ?_)
  · show hm_Wp _ _ _ _ (.inl _ :: _) _ _
    have hbit := bsum_bitI hg hb0 (show b < ((w 2).toNat : Int) by omega)
    rw [← hs] at hbit
    refine q_istore gg159_5 rfl ?_
    refine q_iload gg159_6 rfl ?_
    refine z_neg gg159_7 ?_
    refine z_icmpeq gg159_9 (tg := 24) rfl (by omega) (by omega) (fun z => absurd z (by omega)) (fun c1 => ?_)
    refine q_iload gg159_12 rfl ?_
    refine q_iload gg159_13 rfl ?_
    refine q_call2 gg159_14 tt125 rfl (Nat.le_of_ble_eq_true rfl) rfl (ls' := [some _, some _]) rfl rfl ?_
    refine q_iload gg125_0 rfl ?_
    refine q_iload gg125_1 rfl ?_
    first | refine z_ishr gg125_2 (by omega) (by omega) (by omega) (by omega) (fun shas_2 eshas_2 lshas_2 ushas_2 => ?_) | refine q_ishr gg125_2 ?_
    refine z_const gg125_3 (v := 1) rfl ?_
    first | refine z_iand1 gg125_4 (by omega) (by omega) ?_ | refine q_iand gg125_4 ?_
    refine z_const gg125_5 (v := 1) rfl ?_
    refine z_icmpne gg125_6 (tg := 13) rfl (by omega) (by omega) (fun c2 => ?_) (fun c2 => ?_)
    · try (exfalso; omega)
      all_goals (
        refine z_const gg125_13 (v := 0) rfl ?_
        refine z_zretC gg125_14 (by omega) ?_
        refine z_ifeq gg159_17 (tg := 24) rfl (by decide) (fun _ => ?_) (fun z => absurd z (by decide))
        refine z_const gg159_24 (v := 0) rfl ?_
        refine z_zret gg159_25 (by omega) ?_
        first | exact k1 ⟨b, hb0, hb, hpl, by omega⟩ | exact k0 (by rintro ⟨x, x0, x1, x2, x3⟩; have := hinj b x hb0 hb x0 x1 (by omega); subst this; omega)
      )
    · try (exfalso; omega)
      all_goals (
        refine z_const gg125_9 (v := 1) rfl ?_
        refine q_goto gg125_10 (tg := 14) rfl ?_
        refine z_zretC gg125_14 (by omega) ?_
        refine z_ifeq gg159_17 (tg := 24) rfl (by decide) (fun z => absurd z (by decide)) (fun _ => ?_)
        refine z_const gg159_20 (v := 1) rfl ?_
        refine q_goto gg159_21 (tg := 25) rfl ?_
        refine z_zret gg159_25 (by omega) ?_
        first | exact k1 ⟨b, hb0, hb, hpl, by omega⟩ | exact k0 (by rintro ⟨x, x0, x1, x2, x3⟩; have := hinj b x hb0 hb x0 x1 (by omega); subst this; omega)
      )
  · show hm_Wp _ _ _ _ (.inl _ :: _) _ _
    refine q_istore gg159_5 rfl ?_
    refine q_iload gg159_6 rfl ?_
    refine z_neg gg159_7 ?_
    refine z_icmpeq gg159_9 (tg := 24) rfl (by omega) (by omega) (fun c1 => ?_) (fun z => absurd z (by omega))
    refine z_const gg159_24 (v := 0) rfl ?_
    refine z_zret gg159_25 (by omega) ?_
    exact k0 (fun ⟨x, x0, x1, x2, x3⟩ => hno x x0 x1 x2)
theorem r_swells {y : Int} (hk : hm_sh[k]? = some (.inl (false, 53))) (hf : aw f 53 0 20000 w) (hb0 : 0 ≤ b) (hb : b < 7) (hy0 : 0 ≤ y) (hy : y ≤ 100000) (kk : ∀ f', aw f' 53 0 20000 (zup w (4 + 7 * b + 2) (min 99 (w (4 + 7 * b + 2) + y))) → Q none (hm_row M k f')) : hm_Wp (d + 1) 160 0 [some (.inr (.inr k)), some (.inl (zI b)), some (.inl (zI y))] [] (hm_row M k f) Q := by
  refine q_aload gg160_0 rfl ?_
  refine z_const gg160_1 (v := 4) rfl ?_
  refine z_const gg160_2 (v := 7) rfl ?_
  refine q_iload gg160_4 rfl ?_
  refine z_imul gg160_5 ?_
  refine z_iadd gg160_6 ?_
  refine z_const gg160_7 (v := 2) rfl ?_
  refine z_iadd gg160_8 ?_
  refine z_const gg160_9 (v := 99) rfl ?_
  refine q_aload gg160_11 rfl ?_
  refine z_const gg160_12 (v := 4) rfl ?_
  refine z_const gg160_13 (v := 7) rfl ?_
  refine q_iload gg160_15 rfl ?_
  refine z_imul gg160_16 ?_
  refine z_iadd gg160_17 ?_
  refine z_const gg160_18 (v := 2) rfl ?_
  refine z_iadd gg160_19 ?_
  first | refine z_alr gg160_20 (by first | rfl | assumption) (by assumption) (by omega) (by omega) (by omega) (by decide) (fun v20 ev20 lv20 uv20 => ?_) | refine z_alx gg160_20 rfl (by assumption) (by omega) (by omega) (by omega) (by decide) (fun v20 ev20 lv20 uv20 => ?_)
  refine q_iload gg160_21 rfl ?_
  refine z_iadd gg160_22 ?_
  refine q_call2 gg160_23 tt127 rfl (Nat.le_of_ble_eq_true rfl) rfl (ls' := [some _, some _]) rfl rfl ?_
  refine q_iload gg127_0 rfl ?_
  refine q_iload gg127_1 rfl ?_
  refine z_icmpge gg127_2 (tg := 9) rfl (by omega) (by omega) (fun c1 => ?_) (fun c1 => ?_)
  · try (exfalso; omega)
    all_goals (
      refine q_iload gg127_9 rfl ?_
      refine q_iretC gg127_10 ?_
      first | refine z_asr gg160_26 (by first | rfl | assumption) (by assumption) (by omega) (by omega) (by decide) (by omega) (by omega) (fun f26 h26 => ?_) | refine z_asx gg160_26 rfl (by omega) (by omega) (by decide) ?_
      refine q_ret gg160_27 ?_
      exact kk _ (aw_eq h26 (fun i _ _ => by simp only [zup]; split <;> omega))
    )
  · try (exfalso; omega)
    all_goals (
      refine q_iload gg127_5 rfl ?_
      refine q_goto gg127_6 (tg := 10) rfl ?_
      refine q_iretC gg127_10 ?_
      first | refine z_asr gg160_26 (by first | rfl | assumption) (by assumption) (by omega) (by omega) (by decide) (by omega) (by omega) (fun f26 h26 => ?_) | refine z_asx gg160_26 rfl (by omega) (by omega) (by decide) ?_
      refine q_ret gg160_27 ?_
      exact kk _ (aw_eq h26 (fun i _ _ => by simp only [zup]; split <;> omega))
    )
theorem r_stirsOne (hk : hm_sh[k]? = some (.inl (false, 53))) (hf : aw f 53 0 20000 w) (hb0 : 0 ≤ b) (hb : b < 7) (kk : ∀ f', aw f' 53 0 20000 (zup (zup w (4 + 7 * b + 2) (max 0 (w (4 + 7 * b + 2) - 2))) (4 + 7 * b + 6) 1) → Q none (hm_row M k f')) : hm_Wp d 163 0 [some (.inr (.inr k)), some (.inl (zI b)), none] [] (hm_row M k f) Q := by
  refine z_const gg163_0 (v := 4) rfl ?_
  refine z_const gg163_1 (v := 7) rfl ?_
  refine q_iload gg163_3 rfl ?_
  refine z_imul gg163_4 ?_
  refine z_iadd gg163_5 ?_
  refine q_istore gg163_6 rfl ?_
  refine q_aload gg163_7 rfl ?_
  refine q_iload gg163_8 rfl ?_
  refine z_const gg163_9 (v := 2) rfl ?_
  refine z_iadd gg163_10 ?_
  refine q_aload gg163_11 rfl ?_
  refine q_iload gg163_12 rfl ?_
  refine z_const gg163_13 (v := 2) rfl ?_
  refine z_iadd gg163_14 ?_
  first | refine z_alr gg163_15 (by first | rfl | assumption) (by assumption) (by omega) (by omega) (by omega) (by decide) (fun v15 ev15 lv15 uv15 => ?_) | refine z_alx gg163_15 rfl (by assumption) (by omega) (by omega) (by omega) (by decide) (fun v15 ev15 lv15 uv15 => ?_)
  refine z_const gg163_16 (v := 2) rfl ?_
  refine z_icmple gg163_17 (tg := 30) rfl (by omega) (by omega) (fun c1 => ?_) (fun c1 => ?_)
  · try (exfalso; omega)
    all_goals (
      refine z_const gg163_30 (v := 0) rfl ?_
      first | refine z_asr gg163_31 (by first | rfl | assumption) (by assumption) (by omega) (by omega) (by decide) (by omega) (by omega) (fun f31 h31 => ?_) | refine z_asx gg163_31 rfl (by omega) (by omega) (by decide) ?_
      refine q_aload gg163_32 rfl ?_
      refine q_iload gg163_33 rfl ?_
      refine z_const gg163_34 (v := 6) rfl ?_
      refine z_iadd gg163_36 ?_
      refine z_const gg163_37 (v := 1) rfl ?_
      first | refine z_asr gg163_38 (by first | rfl | assumption) (by assumption) (by omega) (by omega) (by decide) (by omega) (by omega) (fun f38 h38 => ?_) | refine z_asx gg163_38 rfl (by omega) (by omega) (by decide) ?_
      refine q_ret gg163_39 ?_
      exact kk _ (aw_eq h38 (fun i _ _ => by simp only [zup]; (repeat' split) <;> omega))
    )
  · try (exfalso; omega)
    all_goals (
      refine q_aload gg163_20 rfl ?_
      refine q_iload gg163_21 rfl ?_
      refine z_const gg163_22 (v := 2) rfl ?_
      refine z_iadd gg163_23 ?_
      first | refine z_alr gg163_24 (by first | rfl | assumption) (by assumption) (by omega) (by omega) (by omega) (by decide) (fun v24 ev24 lv24 uv24 => ?_) | refine z_alx gg163_24 rfl (by assumption) (by omega) (by omega) (by omega) (by decide) (fun v24 ev24 lv24 uv24 => ?_)
      refine z_const gg163_25 (v := 2) rfl ?_
      refine z_isub gg163_26 ?_
      refine q_goto gg163_27 (tg := 31) rfl ?_
      first | refine z_asr gg163_31 (by first | rfl | assumption) (by assumption) (by omega) (by omega) (by decide) (by omega) (by omega) (fun f31 h31 => ?_) | refine z_asx gg163_31 rfl (by omega) (by omega) (by decide) ?_
      refine q_aload gg163_32 rfl ?_
      refine q_iload gg163_33 rfl ?_
      refine z_const gg163_34 (v := 6) rfl ?_
      refine z_iadd gg163_36 ?_
      refine z_const gg163_37 (v := 1) rfl ?_
      first | refine z_asr gg163_38 (by first | rfl | assumption) (by assumption) (by omega) (by omega) (by decide) (by omega) (by omega) (fun f38 h38 => ?_) | refine z_asx gg163_38 rfl (by omega) (by omega) (by decide) ?_
      refine q_ret gg163_39 ?_
      exact kk _ (aw_eq h38 (fun i _ _ => by simp only [zup]; (repeat' split) <;> omega))
    )
theorem r_changes {c : Int} (hk : hm_sh[k]? = some (.inl (false, 53))) (hf : aw f 53 0 20000 w) (hb0 : 0 ≤ b) (hb : b < 7) (hc0 : 0 ≤ c) (hc : c < 7) (kk : ∀ f', aw f' 53 0 20000 (zup (zup w (4 + 7 * b + 3) (w (4 + 7 * c + 3))) (4 + 7 * c + 3) (w (4 + 7 * b + 3))) → Q none (hm_row M k f')) : hm_Wp d 164 0 [some (.inr (.inr k)), some (.inl (zI b)), some (.inl (zI c)), none] [] (hm_row M k f) Q := by
  refine q_aload gg164_0 rfl ?_
  refine z_const gg164_1 (v := 4) rfl ?_
  refine z_const gg164_2 (v := 7) rfl ?_
  refine q_iload gg164_4 rfl ?_
  refine z_imul gg164_5 ?_
  refine z_iadd gg164_6 ?_
  refine z_const gg164_7 (v := 3) rfl ?_
  refine z_iadd gg164_8 ?_
  first | refine z_alr gg164_9 (by first | rfl | assumption) (by assumption) (by omega) (by omega) (by omega) (by decide) (fun v9 ev9 lv9 uv9 => ?_) | refine z_alx gg164_9 rfl (by assumption) (by omega) (by omega) (by omega) (by decide) (fun v9 ev9 lv9 uv9 => ?_)
  refine q_istore gg164_10 rfl ?_
  refine q_aload gg164_11 rfl ?_
  refine z_const gg164_12 (v := 4) rfl ?_
  refine z_const gg164_13 (v := 7) rfl ?_
  refine q_iload gg164_15 rfl ?_
  refine z_imul gg164_16 ?_
  refine z_iadd gg164_17 ?_
  refine z_const gg164_18 (v := 3) rfl ?_
  refine z_iadd gg164_19 ?_
  refine q_aload gg164_20 rfl ?_
  refine z_const gg164_21 (v := 4) rfl ?_
  refine z_const gg164_22 (v := 7) rfl ?_
  refine q_iload gg164_24 rfl ?_
  refine z_imul gg164_25 ?_
  refine z_iadd gg164_26 ?_
  refine z_const gg164_27 (v := 3) rfl ?_
  refine z_iadd gg164_28 ?_
  first | refine z_alr gg164_29 (by first | rfl | assumption) (by assumption) (by omega) (by omega) (by omega) (by decide) (fun v29 ev29 lv29 uv29 => ?_) | refine z_alx gg164_29 rfl (by assumption) (by omega) (by omega) (by omega) (by decide) (fun v29 ev29 lv29 uv29 => ?_)
  first | refine z_asr gg164_30 (by first | rfl | assumption) (by assumption) (by omega) (by omega) (by decide) (by omega) (by omega) (fun f30 h30 => ?_) | refine z_asx gg164_30 rfl (by omega) (by omega) (by decide) ?_
  refine q_aload gg164_31 rfl ?_
  refine z_const gg164_32 (v := 4) rfl ?_
  refine z_const gg164_33 (v := 7) rfl ?_
  refine q_iload gg164_35 rfl ?_
  refine z_imul gg164_36 ?_
  refine z_iadd gg164_37 ?_
  refine z_const gg164_38 (v := 3) rfl ?_
  refine z_iadd gg164_39 ?_
  refine q_iload gg164_40 rfl ?_
  first | refine z_asr gg164_41 (by first | rfl | assumption) (by assumption) (by omega) (by omega) (by decide) (by omega) (by omega) (fun f41 h41 => ?_) | refine z_asx gg164_41 rfl (by omega) (by omega) (by decide) ?_
  refine q_ret gg164_42 ?_
  exact kk _ (aw_eq h41 (fun i _ _ => by simp only [zup]; (repeat' split) <;> omega))
theorem r_bursts (hk : hm_sh[k]? = some (.inl (false, 53))) (hf : aw f 53 0 20000 w) (hw : mOk w) (hs : s = bsum g (w 2).toNat) (hg : b01 g (w 2).toNat) (kk : ∀ f', aw f' 53 0 20000 (mRoundTo w g (w 2)) → Q none (hm_row M k f')) : hm_Wp (d + 2) 161 0 [some (.inr (.inr k)), some (.inl (zI s)), none, none] [] (hm_row M k f) Q := by
  obtain ⟨⟨hn0, hn⟩, hfl, hinj⟩ := id hw
  obtain ⟨s0, s1⟩ := bsum_lt hg
  have hs2 : bsum g (w 2).toNat < 128 := by
    have : (2 : Int) ^ (w 2).toNat ≤ 2 ^ 7 := by
      have : (w 2).toNat ≤ 7 := by omega
      exact_mod_cast Nat.pow_le_pow_right (n := 2) (by decide) this
    omega
  have L : ∀ (m : Nat) (b : Int) (f : Nat → Int32) (x3 : Option hm_V), hm_free [some (.inr (.inr k)), some (.inl (zI s)), some (.inl (zI b)), x3] 3 = true → 0 ≤ b → b + m = w 2 → aw f 53 0 20000 (mRoundTo w g b) → hm_Wp (d + 2) 161 2 [some (.inr (.inr k)), some (.inl (zI s)), some (.inl (zI b)), x3] [] (hm_row M k f) Q := by
    intro m
    induction m with
    | zero =>
      intro b f x3 _ hb0 hbm hf
      have e2 : mRoundTo w g b 2 = w 2 := by simp only [mRoundTo]; rw [if_neg (by omega)]
      refine q_iload gg161_2 rfl ?_
      refine q_aload gg161_3 rfl ?_
      refine z_const gg161_4 (v := 2) rfl ?_
      first | refine z_alr gg161_5 (by first | rfl | assumption) (by assumption) (by omega) (by omega) (by omega) (by decide) (fun v5 ev5 lv5 uv5 => ?_) | refine z_alx gg161_5 rfl (by assumption) (by omega) (by omega) (by omega) (by decide) (fun v5 ev5 lv5 uv5 => ?_)
      refine z_icmpge gg161_6 (tg := 93) rfl (by omega) (by omega) (fun c1 => ?_) (fun z => absurd z (by omega))
      refine q_ret gg161_93 ?_
      rw [show b = w 2 by omega] at hf
      exact kk _ hf
    | succ m ih =>
      intro b f x3 _ hb0 hbm hf
      have e2 : mRoundTo w g b 2 = w 2 := by simp only [mRoundTo]; rw [if_neg (by omega)]
      have eq : ∀ c q : Int, 0 ≤ c → b ≤ c → 0 ≤ q → q < 7 → mRoundTo w g b (4 + 7 * c + q) = w (4 + 7 * c + q) := by
        intro c q h0 h1 h2 h3
        simp only [mRoundTo]; rw [if_neg (by omega)]
      have e3 : ∀ c : Int, 0 ≤ c → mRoundTo w g b (4 + 7 * c + 3) = w (4 + 7 * c + 3) := by
        intro c h0
        simp only [mRoundTo]
        split
        · rw [if_neg (by omega), if_neg (by omega)]
        · rfl
      have hw' : mOk (mRoundTo w g b) := by
        refine ⟨by rw [e2]; exact ⟨hn0, hn⟩, fun c q h0 h1 h2 h3 => ?_, fun c c' h0 h1 h2 h3 h4 => ?_⟩
        · simp only [mRoundTo]
          split
          · split
            · exact Or.inr rfl
            · rw [if_neg (by omega)]; exact hfl c q h0 h1 h2 h3
          · exact hfl c q h0 h1 h2 h3
        · rw [e2] at h1 h3
          rw [e3 c h0, e3 c' h2] at h4
          exact hinj c c' h0 h1 h2 h3 h4
      have hex : ∀ p, mEx (mRoundTo w g b) g p ↔ mEx w g p := by
        intro p
        constructor
        · rintro ⟨x, x0, x1, x2, x3⟩
          rw [e2] at x1; rw [e3 x x0] at x2
          exact ⟨x, x0, x1, x2, x3⟩
        · rintro ⟨x, x0, x1, x2, x3⟩
          exact ⟨x, x0, by rw [e2]; exact x1, by rw [e3 x x0]; exact x2, x3⟩
      have hpi : ∀ p, pI (mEx (mRoundTo w g b) g p) = pI (mEx w g p) := fun p => by rw [show mEx (mRoundTo w g b) g p = mEx w g p from propext (hex p)]
      have hbit := bsum_bitI hg hb0 (show b < ((w 2).toNat : Int) by omega)
      rw [← hs] at hbit
      have hg01 := hg b hb0 (by omega)
      have e5 := eq b 5 hb0 (Int.le_refl _) (by decide) (by decide)
      have e4 := eq b 3 hb0 (Int.le_refl _) (by decide) (by decide)
      have e6 := eq b 2 hb0 (Int.le_refl _) (by decide) (by decide)
      have hpl := hf (4 + 7 * b + 3) (by omega) (by omega)
      have h5 := hfl b 5 hb0 (by omega) (by decide) (by decide)
      have hdiv : ∀ i : Int, (i - 4) / 7 = b → (i - 4) % 7 = 5 → i = 4 + 7 * b + 5 := fun i h1 h2 => by omega
      refine q_iload gg161_2 rfl ?_
      refine q_aload gg161_3 rfl ?_
      refine z_const gg161_4 (v := 2) rfl ?_
      first | refine z_alr gg161_5 (by first | rfl | assumption) (by assumption) (by omega) (by omega) (by omega) (by decide) (fun v5 ev5 lv5 uv5 => ?_) | refine z_alx gg161_5 rfl (by assumption) (by omega) (by omega) (by omega) (by decide) (fun v5 ev5 lv5 uv5 => ?_)
      refine z_icmpge gg161_6 (tg := 93) rfl (by omega) (by omega) (fun c1 => ?_) (fun c1 => ?_)
      · exact absurd c1 (by omega)
      · refine z_const gg161_9 (v := 4) rfl ?_
        refine z_const gg161_10 (v := 7) rfl ?_
        refine q_iload gg161_12 rfl ?_
        refine z_imul gg161_13 ?_
        refine z_iadd gg161_14 ?_
        refine q_istore gg161_15 rfl ?_
        refine q_iload gg161_16 rfl ?_
        refine q_iload gg161_17 rfl ?_
        refine q_call2 gg161_18 tt125 rfl (Nat.le_of_ble_eq_true rfl) rfl (ls' := [some _, some _]) rfl rfl ?_
        refine q_iload gg125_0 rfl ?_
        refine q_iload gg125_1 rfl ?_
        first | refine z_ishr gg125_2 (by omega) (by omega) (by omega) (by omega) (fun shas_2 eshas_2 lshas_2 ushas_2 => ?_) | refine q_ishr gg125_2 ?_
        refine z_const gg125_3 (v := 1) rfl ?_
        first | refine z_iand1 gg125_4 (by omega) (by omega) ?_ | refine q_iand gg125_4 ?_
        refine z_const gg125_5 (v := 1) rfl ?_
        refine z_icmpne gg125_6 (tg := 13) rfl (by omega) (by omega) (fun c1 => ?_) (fun c1 => ?_)
        · try (exfalso; omega)
          all_goals (
            refine z_const gg125_13 (v := 0) rfl ?_
            refine z_zretC gg125_14 (by omega) ?_
            refine z_ifeq gg161_21 (tg := 33) rfl (by decide) (fun _ => ?_) (fun z => absurd z (by decide))
            refine q_aload gg161_33 rfl ?_
            refine q_iload gg161_34 rfl ?_
            refine z_const gg161_35 (v := 5) rfl ?_
            refine z_iadd gg161_36 ?_
            first | refine z_alr gg161_37 (by first | rfl | assumption) (by assumption) (by omega) (by omega) (by omega) (by decide) (fun v37 ev37 lv37 uv37 => ?_) | refine z_alx gg161_37 rfl (by assumption) (by omega) (by omega) (by omega) (by decide) (fun v37 ev37 lv37 uv37 => ?_)
            refine z_ifne gg161_38 (tg := 87) rfl (by omega) (fun c2 => ?_) (fun c2 => ?_)
            · try (exfalso; omega)
              all_goals (
                refine z_iinc gg161_87 rfl rfl ?_
                refine q_goto gg161_90 (tg := 2) rfl ?_
                refine ih (b + 1) _ _ rfl (by omega) (by omega) ?_
                first
                | exact aw_eq h29 (fun i i0 i1 => by
                    simp only [zup, mRoundTo]
                    by_cases hib : (i - 4) / 7 = b
                    · rw [hib]
                      (repeat' split) <;> omega
                    · (repeat' split) <;> omega)
                | exact aw_eq h84 (fun i i0 i1 => by
                    have hpv : mPush w g b = 3 * pI (mEx w g (w (4 + 7 * b + 3) - 1)) + 3 * pI (mEx w g (w (4 + 7 * b + 3) + 1)) := rfl
                    simp only [zup]
                    by_cases hi2 : i = 4 + 7 * b + 2
                    · rw [if_pos hi2, e6]
                      have hdv : (i - 4) / 7 = b := by omega
                      simp only [mRoundTo]
                      rw [if_pos (by omega), hdv, if_neg (by omega), if_pos ⟨by omega, by omega, by omega⟩, hi2]
                      omega
                    · rw [if_neg hi2]
                      simp only [mRoundTo]
                      by_cases hib : (i - 4) / 7 = b
                      · rw [hib]
                        (repeat' split) <;> omega
                      · (repeat' split) <;> omega)
                | exact aw_eq hf (fun i i0 i1 => by
                    simp only [mRoundTo]
                    by_cases hib : (i - 4) / 7 = b
                    · rw [hib]
                      (repeat' split) <;> omega
                    · (repeat' split) <;> omega)
              )
            · try (exfalso; omega)
              all_goals (
                refine q_aload gg161_41 rfl ?_
                refine q_iload gg161_42 rfl ?_
                refine q_aload gg161_43 rfl ?_
                refine q_iload gg161_44 rfl ?_
                refine q_aload gg161_45 rfl ?_
                refine q_iload gg161_46 rfl ?_
                refine z_const gg161_47 (v := 3) rfl ?_
                refine z_iadd gg161_48 ?_
                first | refine z_alr gg161_49 (by first | rfl | assumption) (by assumption) (by omega) (by omega) (by omega) (by decide) (fun v49 ev49 lv49 uv49 => ?_) | refine z_alx gg161_49 rfl (by assumption) (by omega) (by omega) (by omega) (by decide) (fun v49 ev49 lv49 uv49 => ?_)
                refine z_const gg161_50 (v := 1) rfl ?_
                refine z_isub gg161_51 ?_
                refine q_call3 gg161_52 tt159 rfl (Nat.le_of_ble_eq_true rfl) rfl (ls' := [some _, some _, some _, none]) rfl rfl ?_
                refine r_isOf hk hf hw' (by rw [e2]; exact hs) (by rw [e2]; exact hg) (by omega) (by omega) (fun x1 => ?_) (fun x1 => ?_)
                all_goals (rw [hex] at x1; first | rw [ev69, e4] at x1 | rw [ev49, e4] at x1)
                all_goals (first | have px := pI_f x1 | have px := pI_t x1)
                · show hm_Wp _ _ _ _ (_ :: _) _ _
                  refine z_ifeq gg161_55 (tg := 62) rfl (by decide) (fun z => absurd z (by decide)) (fun _ => ?_)
                  refine z_const gg161_58 (v := 3) rfl ?_
                  refine q_goto gg161_59 (tg := 63) rfl ?_
                  refine q_aload gg161_63 rfl ?_
                  refine q_iload gg161_64 rfl ?_
                  refine q_aload gg161_65 rfl ?_
                  refine q_iload gg161_66 rfl ?_
                  refine z_const gg161_67 (v := 3) rfl ?_
                  refine z_iadd gg161_68 ?_
                  first | refine z_alr gg161_69 (by first | rfl | assumption) (by assumption) (by omega) (by omega) (by omega) (by decide) (fun v69 ev69 lv69 uv69 => ?_) | refine z_alx gg161_69 rfl (by assumption) (by omega) (by omega) (by omega) (by decide) (fun v69 ev69 lv69 uv69 => ?_)
                  refine z_const gg161_70 (v := 1) rfl ?_
                  refine z_iadd gg161_71 ?_
                  refine q_call3 gg161_72 tt159 rfl (Nat.le_of_ble_eq_true rfl) rfl (ls' := [some _, some _, some _, none]) rfl rfl ?_
                  refine r_isOf hk hf hw' (by rw [e2]; exact hs) (by rw [e2]; exact hg) (by omega) (by omega) (fun x1 => ?_) (fun x1 => ?_)
                  all_goals (rw [hex] at x1; first | rw [ev69, e4] at x1 | rw [ev49, e4] at x1)
                  all_goals (first | have px := pI_f x1 | have px := pI_t x1)
                  · show hm_Wp _ _ _ _ (_ :: _) _ _
                    refine z_ifeq gg161_75 (tg := 82) rfl (by decide) (fun z => absurd z (by decide)) (fun _ => ?_)
                    refine z_const gg161_78 (v := 3) rfl ?_
                    refine q_goto gg161_79 (tg := 83) rfl ?_
                    refine z_iadd gg161_83 ?_
                    refine q_call3 gg161_84 tt160 rfl (Nat.le_of_ble_eq_true rfl) rfl (ls' := [some _, some _, some _]) rfl rfl ?_
                    refine r_swells hk hf hb0 (by omega) (by omega) (by omega) (fun f84 h84 => ?_)
                    show hm_Wp _ _ _ _ _ _ _
                    refine z_iinc gg161_87 rfl rfl ?_
                    refine q_goto gg161_90 (tg := 2) rfl ?_
                    refine ih (b + 1) _ _ rfl (by omega) (by omega) ?_
                    first
                    | exact aw_eq h29 (fun i i0 i1 => by
                        simp only [zup, mRoundTo]
                        by_cases hib : (i - 4) / 7 = b
                        · rw [hib]
                          (repeat' split) <;> omega
                        · (repeat' split) <;> omega)
                    | exact aw_eq h84 (fun i i0 i1 => by
                        have hpv : mPush w g b = 3 * pI (mEx w g (w (4 + 7 * b + 3) - 1)) + 3 * pI (mEx w g (w (4 + 7 * b + 3) + 1)) := rfl
                        simp only [zup]
                        by_cases hi2 : i = 4 + 7 * b + 2
                        · rw [if_pos hi2, e6]
                          have hdv : (i - 4) / 7 = b := by omega
                          simp only [mRoundTo]
                          rw [if_pos (by omega), hdv, if_neg (by omega), if_pos ⟨by omega, by omega, by omega⟩, hi2]
                          omega
                        · rw [if_neg hi2]
                          simp only [mRoundTo]
                          by_cases hib : (i - 4) / 7 = b
                          · rw [hib]
                            (repeat' split) <;> omega
                          · (repeat' split) <;> omega)
                    | exact aw_eq hf (fun i i0 i1 => by
                        simp only [mRoundTo]
                        by_cases hib : (i - 4) / 7 = b
                        · rw [hib]
                          (repeat' split) <;> omega
                        · (repeat' split) <;> omega)
                  · show hm_Wp _ _ _ _ (_ :: _) _ _
                    refine z_ifeq gg161_75 (tg := 82) rfl (by decide) (fun _ => ?_) (fun z => absurd z (by decide))
                    refine z_const gg161_82 (v := 0) rfl ?_
                    refine z_iadd gg161_83 ?_
                    refine q_call3 gg161_84 tt160 rfl (Nat.le_of_ble_eq_true rfl) rfl (ls' := [some _, some _, some _]) rfl rfl ?_
                    refine r_swells hk hf hb0 (by omega) (by omega) (by omega) (fun f84 h84 => ?_)
                    show hm_Wp _ _ _ _ _ _ _
                    refine z_iinc gg161_87 rfl rfl ?_
                    refine q_goto gg161_90 (tg := 2) rfl ?_
                    refine ih (b + 1) _ _ rfl (by omega) (by omega) ?_
                    first
                    | exact aw_eq h29 (fun i i0 i1 => by
                        simp only [zup, mRoundTo]
                        by_cases hib : (i - 4) / 7 = b
                        · rw [hib]
                          (repeat' split) <;> omega
                        · (repeat' split) <;> omega)
                    | exact aw_eq h84 (fun i i0 i1 => by
                        have hpv : mPush w g b = 3 * pI (mEx w g (w (4 + 7 * b + 3) - 1)) + 3 * pI (mEx w g (w (4 + 7 * b + 3) + 1)) := rfl
                        simp only [zup]
                        by_cases hi2 : i = 4 + 7 * b + 2
                        · rw [if_pos hi2, e6]
                          have hdv : (i - 4) / 7 = b := by omega
                          simp only [mRoundTo]
                          rw [if_pos (by omega), hdv, if_neg (by omega), if_pos ⟨by omega, by omega, by omega⟩, hi2]
                          omega
                        · rw [if_neg hi2]
                          simp only [mRoundTo]
                          by_cases hib : (i - 4) / 7 = b
                          · rw [hib]
                            (repeat' split) <;> omega
                          · (repeat' split) <;> omega)
                    | exact aw_eq hf (fun i i0 i1 => by
                        simp only [mRoundTo]
                        by_cases hib : (i - 4) / 7 = b
                        · rw [hib]
                          (repeat' split) <;> omega
                        · (repeat' split) <;> omega)
                · show hm_Wp _ _ _ _ (_ :: _) _ _
                  refine z_ifeq gg161_55 (tg := 62) rfl (by decide) (fun _ => ?_) (fun z => absurd z (by decide))
                  refine z_const gg161_62 (v := 0) rfl ?_
                  refine q_aload gg161_63 rfl ?_
                  refine q_iload gg161_64 rfl ?_
                  refine q_aload gg161_65 rfl ?_
                  refine q_iload gg161_66 rfl ?_
                  refine z_const gg161_67 (v := 3) rfl ?_
                  refine z_iadd gg161_68 ?_
                  first | refine z_alr gg161_69 (by first | rfl | assumption) (by assumption) (by omega) (by omega) (by omega) (by decide) (fun v69 ev69 lv69 uv69 => ?_) | refine z_alx gg161_69 rfl (by assumption) (by omega) (by omega) (by omega) (by decide) (fun v69 ev69 lv69 uv69 => ?_)
                  refine z_const gg161_70 (v := 1) rfl ?_
                  refine z_iadd gg161_71 ?_
                  refine q_call3 gg161_72 tt159 rfl (Nat.le_of_ble_eq_true rfl) rfl (ls' := [some _, some _, some _, none]) rfl rfl ?_
                  refine r_isOf hk hf hw' (by rw [e2]; exact hs) (by rw [e2]; exact hg) (by omega) (by omega) (fun x1 => ?_) (fun x1 => ?_)
                  all_goals (rw [hex] at x1; first | rw [ev69, e4] at x1 | rw [ev49, e4] at x1)
                  all_goals (first | have px := pI_f x1 | have px := pI_t x1)
                  · show hm_Wp _ _ _ _ (_ :: _) _ _
                    refine z_ifeq gg161_75 (tg := 82) rfl (by decide) (fun z => absurd z (by decide)) (fun _ => ?_)
                    refine z_const gg161_78 (v := 3) rfl ?_
                    refine q_goto gg161_79 (tg := 83) rfl ?_
                    refine z_iadd gg161_83 ?_
                    refine q_call3 gg161_84 tt160 rfl (Nat.le_of_ble_eq_true rfl) rfl (ls' := [some _, some _, some _]) rfl rfl ?_
                    refine r_swells hk hf hb0 (by omega) (by omega) (by omega) (fun f84 h84 => ?_)
                    show hm_Wp _ _ _ _ _ _ _
                    refine z_iinc gg161_87 rfl rfl ?_
                    refine q_goto gg161_90 (tg := 2) rfl ?_
                    refine ih (b + 1) _ _ rfl (by omega) (by omega) ?_
                    first
                    | exact aw_eq h29 (fun i i0 i1 => by
                        simp only [zup, mRoundTo]
                        by_cases hib : (i - 4) / 7 = b
                        · rw [hib]
                          (repeat' split) <;> omega
                        · (repeat' split) <;> omega)
                    | exact aw_eq h84 (fun i i0 i1 => by
                        have hpv : mPush w g b = 3 * pI (mEx w g (w (4 + 7 * b + 3) - 1)) + 3 * pI (mEx w g (w (4 + 7 * b + 3) + 1)) := rfl
                        simp only [zup]
                        by_cases hi2 : i = 4 + 7 * b + 2
                        · rw [if_pos hi2, e6]
                          have hdv : (i - 4) / 7 = b := by omega
                          simp only [mRoundTo]
                          rw [if_pos (by omega), hdv, if_neg (by omega), if_pos ⟨by omega, by omega, by omega⟩, hi2]
                          omega
                        · rw [if_neg hi2]
                          simp only [mRoundTo]
                          by_cases hib : (i - 4) / 7 = b
                          · rw [hib]
                            (repeat' split) <;> omega
                          · (repeat' split) <;> omega)
                    | exact aw_eq hf (fun i i0 i1 => by
                        simp only [mRoundTo]
                        by_cases hib : (i - 4) / 7 = b
                        · rw [hib]
                          (repeat' split) <;> omega
                        · (repeat' split) <;> omega)
                  · show hm_Wp _ _ _ _ (_ :: _) _ _
                    refine z_ifeq gg161_75 (tg := 82) rfl (by decide) (fun _ => ?_) (fun z => absurd z (by decide))
                    refine z_const gg161_82 (v := 0) rfl ?_
                    refine z_iadd gg161_83 ?_
                    refine q_call3 gg161_84 tt160 rfl (Nat.le_of_ble_eq_true rfl) rfl (ls' := [some _, some _, some _]) rfl rfl ?_
                    refine r_swells hk hf hb0 (by omega) (by omega) (by omega) (fun f84 h84 => ?_)
                    show hm_Wp _ _ _ _ _ _ _
                    refine z_iinc gg161_87 rfl rfl ?_
                    refine q_goto gg161_90 (tg := 2) rfl ?_
                    refine ih (b + 1) _ _ rfl (by omega) (by omega) ?_
                    first
                    | exact aw_eq h29 (fun i i0 i1 => by
                        simp only [zup, mRoundTo]
                        by_cases hib : (i - 4) / 7 = b
                        · rw [hib]
                          (repeat' split) <;> omega
                        · (repeat' split) <;> omega)
                    | exact aw_eq h84 (fun i i0 i1 => by
                        have hpv : mPush w g b = 3 * pI (mEx w g (w (4 + 7 * b + 3) - 1)) + 3 * pI (mEx w g (w (4 + 7 * b + 3) + 1)) := rfl
                        simp only [zup]
                        by_cases hi2 : i = 4 + 7 * b + 2
                        · rw [if_pos hi2, e6]
                          have hdv : (i - 4) / 7 = b := by omega
                          simp only [mRoundTo]
                          rw [if_pos (by omega), hdv, if_neg (by omega), if_pos ⟨by omega, by omega, by omega⟩, hi2]
                          omega
                        · rw [if_neg hi2]
                          simp only [mRoundTo]
                          by_cases hib : (i - 4) / 7 = b
                          · rw [hib]
                            (repeat' split) <;> omega
                          · (repeat' split) <;> omega)
                    | exact aw_eq hf (fun i i0 i1 => by
                        simp only [mRoundTo]
                        by_cases hib : (i - 4) / 7 = b
                        · rw [hib]
                          (repeat' split) <;> omega
                        · (repeat' split) <;> omega)
              )
          )
        · try (exfalso; omega)
          all_goals (
            refine z_const gg125_9 (v := 1) rfl ?_
            refine q_goto gg125_10 (tg := 14) rfl ?_
            refine z_zretC gg125_14 (by omega) ?_
            refine z_ifeq gg161_21 (tg := 33) rfl (by decide) (fun z => absurd z (by decide)) (fun _ => ?_)
            refine q_aload gg161_24 rfl ?_
            refine q_iload gg161_25 rfl ?_
            refine z_const gg161_26 (v := 5) rfl ?_
            refine z_iadd gg161_27 ?_
            refine z_const gg161_28 (v := 1) rfl ?_
            first | refine z_asr gg161_29 (by first | rfl | assumption) (by assumption) (by omega) (by omega) (by decide) (by omega) (by omega) (fun f29 h29 => ?_) | refine z_asx gg161_29 rfl (by omega) (by omega) (by decide) ?_
            refine q_goto gg161_30 (tg := 87) rfl ?_
            refine z_iinc gg161_87 rfl rfl ?_
            refine q_goto gg161_90 (tg := 2) rfl ?_
            refine ih (b + 1) _ _ rfl (by omega) (by omega) ?_
            first
            | exact aw_eq h29 (fun i i0 i1 => by
                simp only [zup, mRoundTo]
                by_cases hib : (i - 4) / 7 = b
                · rw [hib]
                  (repeat' split) <;> omega
                · (repeat' split) <;> omega)
            | exact aw_eq h84 (fun i i0 i1 => by
                have hpv : mPush w g b = 3 * pI (mEx w g (w (4 + 7 * b + 3) - 1)) + 3 * pI (mEx w g (w (4 + 7 * b + 3) + 1)) := rfl
                simp only [zup]
                by_cases hi2 : i = 4 + 7 * b + 2
                · rw [if_pos hi2, e6]
                  have hdv : (i - 4) / 7 = b := by omega
                  simp only [mRoundTo]
                  rw [if_pos (by omega), hdv, if_neg (by omega), if_pos ⟨by omega, by omega, by omega⟩, hi2]
                  omega
                · rw [if_neg hi2]
                  simp only [mRoundTo]
                  by_cases hib : (i - 4) / 7 = b
                  · rw [hib]
                    (repeat' split) <;> omega
                  · (repeat' split) <;> omega)
            | exact aw_eq hf (fun i i0 i1 => by
                simp only [mRoundTo]
                by_cases hib : (i - 4) / 7 = b
                · rw [hib]
                  (repeat' split) <;> omega
                · (repeat' split) <;> omega)
          )
  refine z_const gg161_0 (v := 0) rfl ?_
  refine q_istore gg161_1 rfl ?_
  exact L (w 2).toNat 0 f none rfl (by decide) (by omega) (aw_eq hf (fun i _ _ => by simp only [mRoundTo]; rw [if_neg (by omega)]))
end R2
