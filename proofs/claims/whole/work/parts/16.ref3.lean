noncomputable def mRnd (w : Int → Int) : Int → Int := mRoundTo w (mRip w) (w 2)
noncomputable def mRounds : Nat → (Int → Int) → (Int → Int)
  | 0, w => w
  | n + 1, w => if bsum (mRip w) (w 2).toNat = 0 then w else mRounds n (mRnd w)
noncomputable def mPass (w : Int → Int) : Int → Int := zup (mRounds 7 (mSwellTo w (w 2))) 3 (w 3 + 1)
def mCu (w : Int → Int) : Int := csum (fun b => 1 - w (4 + 7 * b + 5)) (w 2).toNat
theorem csum_bd {g : Int → Int} : ∀ {n : Nat}, (∀ b : Int, 0 ≤ b → b < n → 0 ≤ g b ∧ g b ≤ 1) → 0 ≤ csum g n ∧ csum g n ≤ n
  | 0, _ => by simp [csum]
  | n + 1, h => by
    have h1 := csum_bd (n := n) (fun b h0 h1 => h b h0 (by omega))
    have h2 := h n (by omega) (by omega)
    simp only [csum]; omega
theorem mRnd_2 (w : Int → Int) : mRnd w 2 = w 2 := by simp only [mRnd, mRoundTo]; rw [if_neg (by omega)]
theorem mRnd_3 (w : Int → Int) : mRnd w 3 = w 3 := by simp only [mRnd, mRoundTo]; rw [if_neg (by omega)]
theorem mRnd_pl (w : Int → Int) {c : Int} (h0 : 0 ≤ c) : mRnd w (4 + 7 * c + 3) = w (4 + 7 * c + 3) := by
  simp only [mRnd, mRoundTo]
  split
  · rw [if_neg (by omega), if_neg (by omega)]
  · rfl
theorem mRnd_bu (w : Int → Int) {c : Int} (h0 : 0 ≤ c) (h1 : c < w 2) : mRnd w (4 + 7 * c + 5) = if mRip w c = 1 then 1 else w (4 + 7 * c + 5) := by
  simp only [mRnd, mRoundTo]
  rw [if_pos (by omega), show (4 + 7 * c + 5 - 4) / 7 = c by omega, show (4 + 7 * c + 5 - 4) % 7 = 5 by omega]
  by_cases h : mRip w c = 1
  · rw [if_pos ⟨rfl, h⟩, if_pos h]
  · rw [if_neg (fun z => h z.2), if_neg (by omega), if_neg h]
theorem mRnd_ok {w : Int → Int} (hw : mOk w) : mOk (mRnd w) := by
  obtain ⟨⟨hn0, hn⟩, hfl, hinj⟩ := hw
  refine ⟨by rw [mRnd_2]; exact ⟨hn0, hn⟩, fun c q h0 h1 h2 h3 => ?_, fun c c' h0 h1 h2 h3 h4 => ?_⟩
  · simp only [mRnd, mRoundTo]
    split
    · split
      · exact Or.inr rfl
      · rw [if_neg (by omega)]; exact hfl c q h0 h1 h2 h3
    · exact hfl c q h0 h1 h2 h3
  · rw [mRnd_2] at h1 h3
    rw [mRnd_pl w h0, mRnd_pl w h2] at h4
    exact hinj c c' h0 h1 h2 h3 h4
theorem mCu_bd {w : Int → Int} (hw : mOk w) : 0 ≤ mCu w ∧ mCu w ≤ 7 := by
  obtain ⟨⟨hn0, hn⟩, hfl, -⟩ := hw
  have := csum_bd (g := fun b => 1 - w (4 + 7 * b + 5)) (n := (w 2).toNat) (fun b h0 h1 => by
    have := hfl b 5 h0 (by omega) (by decide) (by decide)
    omega)
  unfold mCu
  omega
theorem mCu_lt {w : Int → Int} (hw : mOk w) (h : bsum (mRip w) (w 2).toNat ≠ 0) : mCu (mRnd w) < mCu w := by
  obtain ⟨b, b0, b1, b2⟩ := bsum_pos (mRip_b01 w _) h
  unfold mCu
  rw [mRnd_2]
  refine csum_lt (fun c c0 c1 => ?_) ⟨b, b0, b1, ?_⟩
  · have := hw.2.1 c 5 c0 (by have := hw.1.2; omega) (by decide) (by decide)
    rw [mRnd_bu w c0 (by omega)]
    split <;> omega
  · rw [mRnd_bu w b0 (by omega), if_pos b2]
    have h5 : w (4 + 7 * b + 5) = 0 := by
      simp only [mRip] at b2
      split at b2
      · rename_i hh; exact hh.1
      · omega
    omega
theorem mRounds_3 : ∀ (n : Nat) (w : Int → Int), mRounds n w 3 = w 3
  | 0, w => rfl
  | n + 1, w => by
    simp only [mRounds]
    split
    · rfl
    · rw [mRounds_3 n, mRnd_3]
theorem mRounds_2 : ∀ (n : Nat) (w : Int → Int), mRounds n w 2 = w 2
  | 0, w => rfl
  | n + 1, w => by
    simp only [mRounds]
    split
    · rfl
    · rw [mRounds_2 n, mRnd_2]
theorem mRounds_ok : ∀ (n : Nat) {w : Int → Int}, mOk w → mOk (mRounds n w)
  | 0, _, h => h
  | n + 1, w, h => by
    simp only [mRounds]
    split
    · exact h
    · exact mRounds_ok n (mRnd_ok h)
theorem mSwellTo_2 (w : Int → Int) (e : Int) : mSwellTo w e 2 = w 2 := by simp only [mSwellTo]; rw [if_neg (by omega)]
theorem mSwellTo_ok {w : Int → Int} (hw : mOk w) (e : Int) : mOk (mSwellTo w e) := by
  obtain ⟨⟨hn0, hn⟩, hfl, hinj⟩ := hw
  have e3 : ∀ c : Int, 0 ≤ c → mSwellTo w e (4 + 7 * c + 3) = w (4 + 7 * c + 3) := by
    intro c h0
    simp only [mSwellTo]
    split
    · rw [if_neg (by omega), if_neg (by omega)]
    · rfl
  refine ⟨by rw [mSwellTo_2]; exact ⟨hn0, hn⟩, fun c q h0 h1 h2 h3 => ?_, fun c c' h0 h1 h2 h3 h4 => ?_⟩
  · simp only [mSwellTo]
    split
    · split
      · exact Or.inl rfl
      · rw [if_neg (by omega)]; exact hfl c q h0 h1 h2 h3
    · exact hfl c q h0 h1 h2 h3
  · rw [mSwellTo_2] at h1 h3
    rw [e3 c h0, e3 c' h2] at h4
    exact hinj c c' h0 h1 h2 h3 h4
theorem zup_ok3 {w : Int → Int} (hw : mOk w) (x : Int) : mOk (zup w 3 x) := by
  obtain ⟨⟨hn0, hn⟩, hfl, hinj⟩ := hw
  have e : ∀ i : Int, i ≠ 3 → zup w 3 x i = w i := fun i h => by simp [zup, h]
  refine ⟨by rw [e 2 (by decide)]; exact ⟨hn0, hn⟩, fun c q h0 h1 h2 h3 => by rw [e _ (by omega)]; exact hfl c q h0 h1 h2 h3, fun c c' h0 h1 h2 h3 h4 => ?_⟩
  rw [e 2 (by decide)] at h1 h3
  rw [e _ (by omega), e _ (by omega)] at h4
  exact hinj c c' h0 h1 h2 h3 h4
theorem mPass_ok {w : Int → Int} (hw : mOk w) : mOk (mPass w) := zup_ok3 (mRounds_ok 7 (mSwellTo_ok hw _)) _
theorem mPass_2 (w : Int → Int) : mPass w 2 = w 2 := by
  unfold mPass
  rw [show zup (mRounds 7 (mSwellTo w (w 2))) 3 (w 3 + 1) 2 = mRounds 7 (mSwellTo w (w 2)) 2 by simp [zup], mRounds_2, mSwellTo_2]
theorem mPass_3 (w : Int → Int) : mPass w 3 = w 3 + 1 := by simp [mPass, zup]
theorem mGrow_congr {c w : Int → Int} {b : Int} (h0 : c 0 = w 0) (hk : c (4 + 7 * b) = w (4 + 7 * b)) (hq : ∀ q : Int, 1 ≤ q → q < 7 → c (4 + 7 * b + q) = w (4 + 7 * b + q)) : mGrow c b = mGrow w b := by
  have h1 := hq 1 (by decide) (by decide)
  have h3 := hq 3 (by decide) (by decide)
  have h4 := hq 4 (by decide) (by decide)
  have h5 := hq 5 (by decide) (by decide)
  have h6 := hq 6 (by decide) (by decide)
  have hg : mGlow c b = mGlow w b := by unfold mGlow; rw [h0, h3, h4]
  unfold mGrow
  rw [hk, h1, h5, h6, hg]
theorem mGrow_bd {f : Nat → Int32} {w : Int → Int} {b : Int} (hf : aw f 53 0 20000 w) (hb0 : 0 ≤ b) (hb : b < 7) : 0 ≤ mGrow w b ∧ mGrow w b ≤ 100000 := by
  have hg := mGlow_le hf hb0 hb
  have hp := hf (4 + 7 * b + 1) (by omega) (by omega)
  unfold mGrow
  (repeat' split) <;> omega
section R3
variable {d mid pc nx k : Nat} {M : hm_M} {f : Nat → Int32} {w g : Int → Int} {b p s : Int} {Q : Option hm_V → hm_M → Prop} {c : Int} {l : List (Int × Nat)} {ls : hm_L} {st : List hm_V}
theorem r_passes (hk : hm_sh[k]? = some (.inl (false, 53))) (hf : aw f 53 0 20000 w) (hw : mOk w) (hh : w 3 < 20000) (kk : ∀ f', aw f' 53 0 20000 (mPass w) → Q none (hm_row M k f')) : hm_Wp (d + 3) 162 0 [some (.inr (.inr k)), none] [] (hm_row M k f) Q := by
  obtain ⟨⟨hn0, hn⟩, hfl, hinj⟩ := id hw
  have hh0 := (hf 3 (by decide) (by decide)).2.1
  -- the rounds
  have L2 : ∀ (m : Nat) (v : Int → Int) (f : Nat → Int32), mOk v → v 3 = w 3 → mCu v ≤ m → aw f 53 0 20000 v → (∀ f', aw f' 53 0 20000 (zup (mRounds m v) 3 (w 3 + 1)) → Q none (hm_row M k f')) → hm_Wp (d + 3) 162 55 [some (.inr (.inr k)), some (.inl (zI (bsum (mRip v) (v 2).toNat)))] [] (hm_row M k f) Q := by
    intro m
    induction m with
    | zero =>
      intro v f hv h3 hcu hf kk
      have hz : bsum (mRip v) (v 2).toNat = 0 := by
        rcases Classical.em (bsum (mRip v) (v 2).toNat = 0) with h | h
        · exact h
        · have := mCu_lt hv h
          have := (mCu_bd (mRnd_ok hv)).1
          omega
      rw [hz]
      refine q_iload gg162_55 rfl ?_
      refine z_ifeq gg162_56 (tg := 72) rfl (by omega) (fun c1 => ?_) (fun z => absurd z (by omega))
      refine q_aload gg162_72 rfl ?_
      refine z_const gg162_73 (v := 3) rfl ?_
      refine q_dup2 gg162_74 ⟨rfl, rfl⟩ ?_
      first | refine z_alr gg162_75 (by first | rfl | assumption) (by assumption) (by omega) (by omega) (by omega) (by decide) (fun v75 ev75 lv75 uv75 => ?_) | refine z_alx gg162_75 rfl (by assumption) (by omega) (by omega) (by omega) (by decide) (fun v75 ev75 lv75 uv75 => ?_)
      refine z_const gg162_76 (v := 1) rfl ?_
      refine z_iadd gg162_77 ?_
      first | refine z_asr gg162_78 (by first | rfl | assumption) (by assumption) (by omega) (by omega) (by decide) (by omega) (by omega) (fun f78 h78 => ?_) | refine z_asx gg162_78 rfl (by omega) (by omega) (by decide) ?_
      refine q_ret gg162_79 ?_
      exact kk _ (aw_eq h78 (fun i _ _ => by simp only [zup, mRounds]; (repeat' split) <;> omega))
    | succ m ih =>
      intro v f hv h3 hcu hf kk
      obtain ⟨s0, s1⟩ := bsum_lt (mRip_b01 v (v 2).toNat)
      have hp : (2 : Int) ^ (v 2).toNat ≤ 2 ^ 7 := by
        have : (v 2).toNat ≤ 7 := by have := hv.1.2; omega
        exact_mod_cast Nat.pow_le_pow_right (n := 2) (by decide) this
      by_cases hz : bsum (mRip v) (v 2).toNat = 0
      · simp only [mRounds, hz, if_pos] at kk
        rw [hz]
        refine q_iload gg162_55 rfl ?_
        refine z_ifeq gg162_56 (tg := 72) rfl (by omega) (fun c1 => ?_) (fun z => absurd z (by omega))
        refine q_aload gg162_72 rfl ?_
        refine z_const gg162_73 (v := 3) rfl ?_
        refine q_dup2 gg162_74 ⟨rfl, rfl⟩ ?_
        first | refine z_alr gg162_75 (by first | rfl | assumption) (by assumption) (by omega) (by omega) (by omega) (by decide) (fun v75 ev75 lv75 uv75 => ?_) | refine z_alx gg162_75 rfl (by assumption) (by omega) (by omega) (by omega) (by decide) (fun v75 ev75 lv75 uv75 => ?_)
        refine z_const gg162_76 (v := 1) rfl ?_
        refine z_iadd gg162_77 ?_
        first | refine z_asr gg162_78 (by first | rfl | assumption) (by assumption) (by omega) (by omega) (by decide) (by omega) (by omega) (fun f78 h78 => ?_) | refine z_asx gg162_78 rfl (by omega) (by omega) (by decide) ?_
        refine q_ret gg162_79 ?_
        exact kk _ (aw_eq h78 (fun i _ _ => by simp only [zup]; (repeat' split) <;> omega))
      · simp only [mRounds, hz, if_false] at kk
        have hcu2 := mCu_lt hv hz
        have h22 := mRnd_2 v
        refine q_iload gg162_55 rfl ?_
        refine z_ifeq gg162_56 (tg := 72) rfl (by omega) (fun z => absurd z (by omega)) (fun c1 => ?_)
        refine q_aload gg162_59 rfl ?_
        refine q_iload gg162_60 rfl ?_
        refine q_call2 gg162_61 tt161 rfl (Nat.le_of_ble_eq_true rfl) rfl (ls' := [some _, some _, none, none]) rfl rfl ?_
        refine r_bursts hk hf hv rfl (mRip_b01 v _) (fun f61 h61 => ?_)
        show hm_Wp _ _ _ _ _ _ _
        refine q_aload gg162_64 rfl ?_
        refine q_call1 gg162_65 tt157 rfl (Nat.le_of_ble_eq_true rfl) rfl (ls' := [some _, none, none, none]) rfl rfl ?_
        refine r_ripe hk (w := mRnd v) h61 (by rw [h22]; exact hv.1.1) (by rw [h22]; exact hv.1.2) ?_
        show hm_Wp _ _ _ _ (_ :: _) _ _
        refine q_istore gg162_68 rfl ?_
        refine q_goto gg162_69 (tg := 55) rfl ?_
        exact ih (mRnd v) _ (mRnd_ok hv) (by rw [mRnd_3]; exact h3) (by omega) h61 kk
  -- the swelling
  have L1 : ∀ (m : Nat) (b : Int) (f : Nat → Int32), 0 ≤ b → b + m = w 2 → aw f 53 0 20000 (mSwellTo w b) → hm_Wp (d + 3) 162 2 [some (.inr (.inr k)), some (.inl (zI b))] [] (hm_row M k f) Q := by
    intro m
    induction m with
    | zero =>
      intro b f hb0 hbm hf
      have e2 := mSwellTo_2 w b
      have hbn : b = w 2 := by omega
      subst hbn
      refine q_iload gg162_2 rfl ?_
      refine q_aload gg162_3 rfl ?_
      refine z_const gg162_4 (v := 2) rfl ?_
      first | refine z_alr gg162_5 (by first | rfl | assumption) (by assumption) (by omega) (by omega) (by omega) (by decide) (fun v5 ev5 lv5 uv5 => ?_) | refine z_alx gg162_5 rfl (by assumption) (by omega) (by omega) (by omega) (by decide) (fun v5 ev5 lv5 uv5 => ?_)
      refine z_icmpge gg162_6 (tg := 50) rfl (by omega) (by omega) (fun c1 => ?_) (fun z => absurd z (by omega))
      refine q_aload gg162_50 rfl ?_
      refine q_call1 gg162_51 tt157 rfl (Nat.le_of_ble_eq_true rfl) rfl (ls' := [some _, none, none, none]) rfl rfl ?_
      refine r_ripe hk hf (by rw [e2]; exact hn0) (by rw [e2]; exact hn) ?_
      show hm_Wp _ _ _ _ (_ :: _) _ _
      refine q_istore gg162_54 rfl ?_
      exact L2 7 _ _ (mSwellTo_ok hw _) (by simp only [mSwellTo]; rw [if_neg (by omega)]) (mCu_bd (mSwellTo_ok hw _)).2 hf kk
    | succ m ih =>
      intro b f hb0 hbm hf
      have e2 := mSwellTo_2 w b
      have eq : ∀ q : Int, 1 ≤ q → q < 7 → mSwellTo w b (4 + 7 * b + q) = w (4 + 7 * b + q) := by
        intro q h2 h3
        simp only [mSwellTo]; rw [if_neg (by omega)]
      have hgr : mGrow (mSwellTo w b) b = mGrow w b := mGrow_congr (by simp only [mSwellTo]; rw [if_neg (by omega)]) (by simp only [mSwellTo]; rw [if_neg (by omega)]) eq
      have hbd := mGrow_bd hf hb0 (by omega)
      rw [hgr] at hbd
      have e5 := eq 5 (by decide) (by decide)
      have e6 := eq 2 (by decide) (by decide)
      have hb5 := hfl b 5 hb0 (by omega) (by decide) (by decide)
      refine q_iload gg162_2 rfl ?_
      refine q_aload gg162_3 rfl ?_
      refine z_const gg162_4 (v := 2) rfl ?_
      first | refine z_alr gg162_5 (by first | rfl | assumption) (by assumption) (by omega) (by omega) (by omega) (by decide) (fun v5 ev5 lv5 uv5 => ?_) | refine z_alx gg162_5 rfl (by assumption) (by omega) (by omega) (by omega) (by decide) (fun v5 ev5 lv5 uv5 => ?_)
      refine z_icmpge gg162_6 (tg := 50) rfl (by omega) (by omega) (fun z => absurd z (by omega)) (fun c1 => ?_)
      refine q_aload gg162_9 rfl ?_
      refine z_const gg162_10 (v := 4) rfl ?_
      refine z_const gg162_11 (v := 7) rfl ?_
      refine q_iload gg162_13 rfl ?_
      refine z_imul gg162_14 ?_
      refine z_iadd gg162_15 ?_
      refine z_const gg162_16 (v := 5) rfl ?_
      refine z_iadd gg162_17 ?_
      first | refine z_alr gg162_18 (by first | rfl | assumption) (by assumption) (by omega) (by omega) (by omega) (by decide) (fun v18 ev18 lv18 uv18 => ?_) | refine z_alx gg162_18 rfl (by assumption) (by omega) (by omega) (by omega) (by decide) (fun v18 ev18 lv18 uv18 => ?_)
      refine z_ifne gg162_19 (tg := 32) rfl (by omega) (fun c2 => ?_) (fun c2 => ?_)
      · try (exfalso; omega)
        all_goals (
          refine q_aload gg162_32 rfl ?_
          refine z_const gg162_33 (v := 4) rfl ?_
          refine z_const gg162_34 (v := 7) rfl ?_
          refine q_iload gg162_36 rfl ?_
          refine z_imul gg162_37 ?_
          refine z_iadd gg162_38 ?_
          refine z_const gg162_39 (v := 6) rfl ?_
          refine z_iadd gg162_41 ?_
          refine z_const gg162_42 (v := 0) rfl ?_
          first | refine z_asr gg162_43 (by first | rfl | assumption) (by assumption) (by omega) (by omega) (by decide) (by omega) (by omega) (fun f43 h43 => ?_) | refine z_asx gg162_43 rfl (by omega) (by omega) (by decide) ?_
          refine z_iinc gg162_44 rfl rfl ?_
          refine q_goto gg162_47 (tg := 2) rfl ?_
          refine ih (b + 1) _ (by omega) (by omega) (aw_eq h43 (fun i i0 i1 => ?_))
          simp only [zup, mSwellTo]
          by_cases hib : (i - 4) / 7 = b
          · rw [hib]
            (repeat' split) <;> first | omega | (rename_i hi1 hi2; rw [show i = 4 + 7 * b + 2 by omega]) | skip
            all_goals first | omega | skip
          · (repeat' split) <;> omega
        )
      · try (exfalso; omega)
        all_goals (
          refine q_aload gg162_22 rfl ?_
          refine q_iload gg162_23 rfl ?_
          refine q_aload gg162_24 rfl ?_
          refine q_iload gg162_25 rfl ?_
          refine q_call2 gg162_26 tt155 rfl (Nat.le_of_ble_eq_true rfl) rfl (ls' := [some _, some _, none, none]) rfl rfl ?_
          refine r_swelling hk hf hb0 (by omega) ?_
          rw [hgr]
          show hm_Wp _ _ _ _ (_ :: _) _ _
          refine q_call3 gg162_29 tt160 rfl (Nat.le_of_ble_eq_true rfl) rfl (ls' := [some _, some _, some _]) rfl rfl ?_
          refine r_swells hk hf hb0 (by omega) (by omega) (by omega) (fun f29 h29 => ?_)
          rw [e6] at h29
          show hm_Wp _ _ _ _ _ _ _
          refine q_aload gg162_32 rfl ?_
          refine z_const gg162_33 (v := 4) rfl ?_
          refine z_const gg162_34 (v := 7) rfl ?_
          refine q_iload gg162_36 rfl ?_
          refine z_imul gg162_37 ?_
          refine z_iadd gg162_38 ?_
          refine z_const gg162_39 (v := 6) rfl ?_
          refine z_iadd gg162_41 ?_
          refine z_const gg162_42 (v := 0) rfl ?_
          first | refine z_asr gg162_43 (by first | rfl | assumption) (by assumption) (by omega) (by omega) (by decide) (by omega) (by omega) (fun f43 h43 => ?_) | refine z_asx gg162_43 rfl (by omega) (by omega) (by decide) ?_
          refine z_iinc gg162_44 rfl rfl ?_
          refine q_goto gg162_47 (tg := 2) rfl ?_
          refine ih (b + 1) _ (by omega) (by omega) (aw_eq h43 (fun i i0 i1 => ?_))
          simp only [zup, mSwellTo]
          by_cases hib : (i - 4) / 7 = b
          · rw [hib]
            (repeat' split) <;> first | omega | (rename_i hi1 hi2; rw [show i = 4 + 7 * b + 2 by omega]) | skip
            all_goals first | omega | skip
          · (repeat' split) <;> omega
        )
  refine z_const gg162_0 (v := 0) rfl ?_
  refine q_istore gg162_1 rfl ?_
  exact L1 (w 2).toNat 0 f (by decide) (by omega) (aw_eq hf (fun i _ _ => by simp only [mSwellTo]; rw [if_neg (by omega)]))
/-- raw reads and writes -/
theorem z_alq {x : Int} {n : Nat} (h : hm_at mid pc = some (nx, 20, c, 0, l)) (ha : hm_arr M false k = some (n, f)) (h0 : 0 ≤ x) (h1 : x < (n : Int)) (hn : n < 2 ^ 31) (kk : hm_Wp d mid nx ls (.inl (f x.toNat) :: st) M Q) : hm_Wp d mid pc ls (.inl (zI x) :: .inr (.inr k) :: st) M Q := by
  rw [zI_nat h0 (by omega)]
  exact q_ald h ha (by omega) hn kk
theorem z_asq {x : Int} {n : Nat} {u : Int32} (h : hm_at mid pc = some (nx, 21, c, 0, l)) (ha : hm_sh[k]? = some (.inl (false, n))) (h0 : 0 ≤ x) (h1 : x < (n : Int)) (hn : n < 2 ^ 31) (kk : hm_Wp d mid nx ls st (hm_row M k (upd (M k) x.toNat u)) Q) : hm_Wp d mid pc ls (.inl u :: .inl (zI x) :: .inr (.inr k) :: st) M Q := by
  rw [zI_nat h0 (by omega)]
  exact q_ast h ha (by omega) hn kk
theorem hm_arr_sh {M : hm_M} {k n : Nat} (h : hm_sh[k]? = some (.inl (false, n))) : hm_arr M false k = some (n, M k) := by
  unfold hm_arr; rw [h]; simp
theorem r_copies {k0 k1 n0 n1 : Nat} {a : Int} (h0 : hm_sh[k0]? = some (.inl (false, n0))) (h1 : hm_sh[k1]? = some (.inl (false, n1))) (hne : k0 ≠ k1) (ha0 : 0 ≤ a) (ha : a + 53 ≤ n0) (hb0 : 0 ≤ b) (hb : b + 53 ≤ n1) (hn0 : n0 < 2 ^ 31) (hn1 : n1 < 2 ^ 31) (kk : ∀ f', (∀ i : Int, 0 ≤ i → f' i.toNat = if b ≤ i ∧ i < b + 53 then M k0 (a + i - b).toNat else f i.toNat) → Q none (hm_row M k1 f')) : hm_Wp d 130 0 [some (.inr (.inr k0)), some (.inl (zI a)), some (.inr (.inr k1)), some (.inl (zI b)), none] [] (hm_row M k1 f) Q := by
  have L : ∀ (m : Nat) (j : Int) (g : Nat → Int32), 0 ≤ j → j + m = 53 → (∀ i : Int, 0 ≤ i → g i.toNat = if b ≤ i ∧ i < b + j then M k0 (a + i - b).toNat else f i.toNat) → hm_Wp d 130 3 [some (.inr (.inr k0)), some (.inl (zI a)), some (.inr (.inr k1)), some (.inl (zI b)), some (.inl (zI j))] [] (hm_row M k1 g) Q := by
    intro m
    induction m with
    | zero =>
      intro j g hj0 hjm hg
      refine q_iload gg130_3 rfl ?_
      refine z_const gg130_5 (v := 53) rfl ?_
      refine z_icmpge gg130_7 (tg := 28) rfl (by omega) (by omega) (fun c1 => ?_) (fun z => absurd z (by omega))
      refine q_ret gg130_28 ?_
      exact kk g (fun i i0 => by rw [hg i i0, show b + j = b + 53 by omega])
    | succ m ih =>
      intro j g hj0 hjm hg
      refine q_iload gg130_3 rfl ?_
      refine z_const gg130_5 (v := 53) rfl ?_
      refine z_icmpge gg130_7 (tg := 28) rfl (by omega) (by omega) (fun c1 => ?_) (fun c1 => ?_)
      · exact absurd c1 (by omega)
      · refine q_aload gg130_10 rfl ?_
        refine q_iload gg130_11 rfl ?_
        refine q_iload gg130_12 rfl ?_
        refine z_iadd gg130_14 ?_
        refine q_aload gg130_15 rfl ?_
        refine q_iload gg130_16 rfl ?_
        refine q_iload gg130_17 rfl ?_
        refine z_iadd gg130_19 ?_
        refine z_alq gg130_20 (hm_arr_sh h0) (by omega) (by omega) hn0 ?_
        refine z_asq gg130_21 h1 (by omega) (by omega) hn1 ?_
        rw [hm_row_row, hm_row_same, hm_row_ne M g hne]
        refine z_iinc gg130_22 rfl rfl ?_
        refine q_goto gg130_25 (tg := 3) rfl ?_
        refine ih (j + 1) _ (by omega) (by omega) (fun i i0 => ?_)
        by_cases hi : i = b + j
        · rw [if_pos (by omega)]
          subst hi
          simp [upd, show a + (b + j) - b = a + j by omega]
        · have hne2 : ¬ i.toNat = (b + j).toNat := by omega
          simp only [upd, hne2, if_false]
          rw [hg i i0]
          by_cases hc : b ≤ i ∧ i < b + j
          · rw [if_pos hc, if_pos (by omega)]
          · rw [if_neg hc, if_neg (by omega)]
  refine z_const gg130_0 (v := 0) rfl ?_
  refine q_istore gg130_1 rfl ?_
  exact L 53 0 f (by decide) (by decide) (fun i i0 => by rw [if_neg (by omega)])
end R3
