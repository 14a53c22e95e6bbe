/-! THE HOB AS THE REFERENCE TELLS IT: w 0 heat, w 1 cloth, w 2 how many, w 3 the hour; of basin b from 4 + 7 b on: kind, plums, swell, place, on, burst, stirred -/
theorem qv {Q : Option hm_V → hm_M → Prop} {x y : Int} {M : hm_M} (e : x = y) (k : Q (some (.inl (zI y))) M) : Q (some (.inl (zI x))) M := e ▸ k
noncomputable def pI (p : Prop) : Int := @ite Int p (Classical.propDecidable p) 1 0
theorem pI_t {p : Prop} (h : p) : pI p = 1 := by simp [pI, h]
theorem pI_f {p : Prop} (h : ¬ p) : pI p = 0 := by simp [pI, h]
theorem pI_01 (p : Prop) : pI p = 0 ∨ pI p = 1 := by
  rcases Classical.em p with h | h
  · exact Or.inr (pI_t h)
  · exact Or.inl (pI_f h)
def mGlow (w : Int → Int) (b : Int) : Int := if w (4 + 7 * b + 4) = 1 ∧ 0 < w 0 - w (4 + 7 * b + 3) then w 0 - w (4 + 7 * b + 3) else 0
def mGrow (w : Int → Int) (b : Int) : Int :=
  if w (4 + 7 * b + 5) = 1 then 0
  else if w (4 + 7 * b) = 1 then mGlow w b
  else if w (4 + 7 * b) = 2 then (if 0 < mGlow w b then mGlow w b + w (4 + 7 * b + 1) / 4 else 0)
  else if w (4 + 7 * b) = 3 then mGlow w b / 2
  else if w (4 + 7 * b) = 4 then (if w (4 + 7 * b + 6) = 1 then mGlow w b else 0)
  else (if w (4 + 7 * b + 6) = 1 then 2 * mGlow w b else 0)
def mFlag (w : Int → Int) (q : Int) : Int → Int := fun b => w (4 + 7 * b + q)
def mRip (w : Int → Int) : Int → Int := fun b => if w (4 + 7 * b + 5) = 0 ∧ w 1 < w (4 + 7 * b + 2) then 1 else 0
theorem mRip_01 (w : Int → Int) (b : Int) : mRip w b = 0 ∨ mRip w b = 1 := by unfold mRip; split <;> simp
/-- a basin of the set stands in the place -/
def mEx (w g : Int → Int) (p : Int) : Prop := ∃ b : Int, 0 ≤ b ∧ b < w 2 ∧ w (4 + 7 * b + 3) = p ∧ g b = 1
noncomputable def mPush (w g : Int → Int) (b : Int) : Int := 3 * pI (mEx w g (w (4 + 7 * b + 3) - 1)) + 3 * pI (mEx w g (w (4 + 7 * b + 3) + 1))
theorem mPush_le (w g : Int → Int) (b : Int) : 0 ≤ mPush w g b ∧ mPush w g b ≤ 6 := by
  unfold mPush
  rcases pI_01 (mEx w g (w (4 + 7 * b + 3) - 1)) with h | h <;> rcases pI_01 (mEx w g (w (4 + 7 * b + 3) + 1)) with h' | h' <;> rw [h, h'] <;> omega
/-- a round over the basins below e -/
noncomputable def mRoundTo (w g : Int → Int) (e : Int) : Int → Int := fun i =>
  if 4 ≤ i ∧ i < 4 + 7 * e then
    (if (i - 4) % 7 = 5 ∧ g ((i - 4) / 7) = 1 then 1
     else if (i - 4) % 7 = 2 ∧ g ((i - 4) / 7) ≠ 1 ∧ w (4 + 7 * ((i - 4) / 7) + 5) = 0 then min 99 (w i + mPush w g ((i - 4) / 7))
     else w i)
  else w i
/-- all that swells in an hour, over the basins below e -/
def mSwellTo (w : Int → Int) (e : Int) : Int → Int := fun i =>
  if 4 ≤ i ∧ i < 4 + 7 * e then
    (if (i - 4) % 7 = 6 then 0
     else if (i - 4) % 7 = 2 ∧ w (4 + 7 * ((i - 4) / 7) + 5) = 0 then min 99 (w i + mGrow w ((i - 4) / 7))
     else w i)
  else w i
def mOk (w : Int → Int) : Prop := (0 ≤ w 2 ∧ w 2 ≤ 7) ∧ (∀ b q : Int, 0 ≤ b → b < 7 → 4 ≤ q → q < 7 → w (4 + 7 * b + q) = 0 ∨ w (4 + 7 * b + q) = 1) ∧ (∀ b c : Int, 0 ≤ b → b < w 2 → 0 ≤ c → c < w 2 → w (4 + 7 * b + 3) = w (4 + 7 * c + 3) → b = c)
theorem bsum_succ {g : Int → Int} {b : Int} (h : 0 ≤ b) : bsum g (b + 1).toNat = bsum g b.toNat + g b * 2 ^ b.toNat := by
  rw [show (b + 1).toNat = b.toNat + 1 by omega]
  simp only [bsum]
  rw [Int.toNat_of_nonneg h]
theorem p2_lt {b : Int} (h : b < 7) : (2 : Int) ^ b.toNat ≤ 64 := by
  have : b.toNat ≤ 6 := by omega
  exact_mod_cast Nat.pow_le_pow_right (n := 2) (by decide) this
section R1
variable {d mid pc nx k : Nat} {M : hm_M} {f : Nat → Int32} {w : Int → Int} {b : Int} {Q : Option hm_V → hm_M → Prop} {c : Int} {l : List (Int × Nat)} {ls : hm_L} {st : List hm_V}
theorem z_iorb {s v b : Int} (h : hm_at mid pc = some (nx, 4, c, 4, l)) (hb0 : 0 ≤ b) (hb : b < 7) (hs0 : 0 ≤ s) (hs : s < 2 ^ b.toNat) (hv : v = 0 ∨ v = 1) (kk : hm_Wp d mid nx ls (.inl (zI (s + v * 2 ^ b.toNat)) :: st) M Q) : hm_Wp d mid pc ls (.inl (zI (v * 2 ^ b.toNat)) :: .inl (zI s) :: st) M Q := by
  have hp := p2_lt hb
  have hp0 : (0 : Int) < 2 ^ b.toNat := Int.pow_pos (by decide)
  refine z_ior h hs0 (by omega) (by rcases hv with rfl | rfl <;> omega) (by rcases hv with rfl | rfl <;> omega) ?_
  rw [zor_add hb0 hb hs0 hs hv]
  exact kk
theorem z_ior0 {s : Int} (h : hm_at mid pc = some (nx, 4, c, 4, l)) (hs0 : 0 ≤ s) (hs : s < 128) (kk : hm_Wp d mid nx ls (.inl (zI s) :: st) M Q) : hm_Wp d mid pc ls (.inl (zI 0) :: .inl (zI s) :: st) M Q := by
  refine z_ior h hs0 hs (by decide) (by decide) ?_
  rw [zor_0 hs0]
  exact kk
theorem r_glow (hk : hm_sh[k]? = some (.inl (false, 53))) (hf : aw f 53 0 20000 w) (hb0 : 0 ≤ b) (hb : b < 7) (kk : Q (some (.inl (zI (mGlow w b)))) (hm_row M k f)) : hm_Wp d 154 0 [some (.inr (.inr k)), some (.inl (zI b)), none, none] [] (hm_row M k f) Q := by
  refine z_const gg154_0 (v := 4) rfl ?_
  refine z_const gg154_1 (v := 7) rfl ?_
  refine q_iload gg154_3 rfl ?_
  refine z_imul gg154_4 ?_
  refine z_iadd gg154_5 ?_
  refine q_istore gg154_6 rfl ?_
  refine q_aload gg154_7 rfl ?_
  refine z_const gg154_8 (v := 0) rfl ?_
  first | refine z_alr gg154_9 (by first | rfl | assumption) (by assumption) (by omega) (by omega) (by omega) (by decide) (fun v9 ev9 lv9 uv9 => ?_) | refine z_alx gg154_9 rfl (by assumption) (by omega) (by omega) (by omega) (by decide) (fun v9 ev9 lv9 uv9 => ?_)
  refine q_aload gg154_10 rfl ?_
  refine q_iload gg154_11 rfl ?_
  refine z_const gg154_12 (v := 3) rfl ?_
  refine z_iadd gg154_13 ?_
  first | refine z_alr gg154_14 (by first | rfl | assumption) (by assumption) (by omega) (by omega) (by omega) (by decide) (fun v14 ev14 lv14 uv14 => ?_) | refine z_alx gg154_14 rfl (by assumption) (by omega) (by omega) (by omega) (by decide) (fun v14 ev14 lv14 uv14 => ?_)
  refine z_isub gg154_15 ?_
  refine q_istore gg154_16 rfl ?_
  refine q_aload gg154_17 rfl ?_
  refine q_iload gg154_18 rfl ?_
  refine z_const gg154_19 (v := 4) rfl ?_
  refine z_iadd gg154_20 ?_
  first | refine z_alr gg154_21 (by first | rfl | assumption) (by assumption) (by omega) (by omega) (by omega) (by decide) (fun v21 ev21 lv21 uv21 => ?_) | refine z_alx gg154_21 rfl (by assumption) (by omega) (by omega) (by omega) (by decide) (fun v21 ev21 lv21 uv21 => ?_)
  refine z_const gg154_22 (v := 1) rfl ?_
  refine z_icmpne gg154_23 (tg := 34) rfl (by omega) (by omega) (fun c1 => ?_) (fun c1 => ?_)
  · try (exfalso; omega)
    all_goals (
      refine z_const gg154_34 (v := 0) rfl ?_
      refine q_iret gg154_35 ?_
      refine qv ?_ kk
      unfold mGlow
      split <;> omega
    )
  · try (exfalso; omega)
    all_goals (
      refine q_iload gg154_26 rfl ?_
      refine z_ifle gg154_27 (tg := 34) rfl (by omega) (fun c2 => ?_) (fun c2 => ?_)
      · try (exfalso; omega)
        all_goals (
          refine z_const gg154_34 (v := 0) rfl ?_
          refine q_iret gg154_35 ?_
          refine qv ?_ kk
          unfold mGlow
          split <;> omega
        )
      · try (exfalso; omega)
        all_goals (
          refine q_iload gg154_30 rfl ?_
          refine q_goto gg154_31 (tg := 35) rfl ?_
          refine q_iret gg154_35 ?_
          refine qv ?_ kk
          unfold mGlow
          split <;> omega
        )
    )
theorem mGlow_le (hf : aw f 53 0 20000 w) (hb0 : 0 ≤ b) (hb : b < 7) : 0 ≤ mGlow w b ∧ mGlow w b ≤ 20000 := by
  have h1 := hf 0 (by decide) (by decide)
  have h2 := hf (4 + 7 * b + 3) (by omega) (by omega)
  unfold mGlow
  split <;> omega
theorem r_swelling (hk : hm_sh[k]? = some (.inl (false, 53))) (hf : aw f 53 0 20000 w) (hb0 : 0 ≤ b) (hb : b < 7) (kk : Q (some (.inl (zI (mGrow w b)))) (hm_row M k f)) : hm_Wp (d + 1) 155 0 [some (.inr (.inr k)), some (.inl (zI b)), none, none] [] (hm_row M k f) Q := by
  have hgl := mGlow_le hf hb0 hb
  refine z_const gg155_0 (v := 4) rfl ?_
  refine z_const gg155_1 (v := 7) rfl ?_
  refine q_iload gg155_3 rfl ?_
  refine z_imul gg155_4 ?_
  refine z_iadd gg155_5 ?_
  refine q_istore gg155_6 rfl ?_
  refine q_aload gg155_7 rfl ?_
  refine q_iload gg155_8 rfl ?_
  refine q_call2 gg155_9 tt154 rfl (by decide) rfl (ls' := [some _, some _, none, none]) rfl rfl ?_
  refine r_glow hk hf hb0 hb ?_
  show hm_Wp _ _ _ _ (.inl _ :: _) _ _
  generalize hG : mGlow w b = G at hgl ⊢
  refine q_istore gg155_12 rfl ?_
  refine q_aload gg155_13 rfl ?_
  refine q_iload gg155_14 rfl ?_
  refine z_const gg155_15 (v := 5) rfl ?_
  refine z_iadd gg155_16 ?_
  first | refine z_alr gg155_17 (by first | rfl | assumption) (by assumption) (by omega) (by omega) (by omega) (by decide) (fun v17 ev17 lv17 uv17 => ?_) | refine z_alx gg155_17 rfl (by assumption) (by omega) (by omega) (by omega) (by decide) (fun v17 ev17 lv17 uv17 => ?_)
  refine z_const gg155_18 (v := 1) rfl ?_
  refine z_icmpne gg155_19 (tg := 24) rfl (by omega) (by omega) (fun c19 => ?_) (fun c19 => ?_)
  · refine q_aload gg155_24 rfl ?_
    refine q_iload gg155_25 rfl ?_
    first | refine z_alr gg155_26 (by first | rfl | assumption) (by assumption) (by omega) (by omega) (by omega) (by decide) (fun v26 ev26 lv26 uv26 => ?_) | refine z_alx gg155_26 rfl (by assumption) (by omega) (by omega) (by omega) (by decide) (fun v26 ev26 lv26 uv26 => ?_)
    refine z_sw gg155_27 (by omega) ?_
    have hsw : hm_swt [(1, 56), (2, 58), (3, 76), (4, 80)] (Int.toNat 96) v26 = if v26 = 1 then 56 else if v26 = 2 then 58 else if v26 = 3 then 76 else if v26 = 4 then 80 else 96 := rfl
    rw [hsw]
    by_cases h1 : v26 = 1
    · rw [if_pos h1]
      refine q_iload gg155_56 rfl ?_
      refine q_iret gg155_57 ?_
      refine qv ?_ kk
      unfold mGrow; rw [if_neg (by omega), if_pos (by omega), hG]
    · rw [if_neg h1]
      by_cases h2 : v26 = 2
      · rw [if_pos h2]
        have hm : mGrow w b = if 0 < G then G + w (4 + 7 * b + 1) / 4 else 0 := by unfold mGrow; rw [if_neg (by omega), if_neg (by omega), if_pos (by omega), hG]
        refine q_iload gg155_58 rfl ?_
        refine z_ifle gg155_59 (tg := 74) rfl (by omega) (fun c1 => ?_) (fun c1 => ?_)
        · try (exfalso; omega)
          all_goals (
            refine z_const gg155_74 (v := 0) rfl ?_
            refine q_iret gg155_75 ?_
            refine qv ?_ kk
            rw [hm]
            split <;> omega
          )
        · try (exfalso; omega)
          all_goals (
            refine q_iload gg155_62 rfl ?_
            refine q_aload gg155_63 rfl ?_
            refine q_iload gg155_64 rfl ?_
            refine z_const gg155_65 (v := 1) rfl ?_
            refine z_iadd gg155_66 ?_
            first | refine z_alr gg155_67 (by first | rfl | assumption) (by assumption) (by omega) (by omega) (by omega) (by decide) (fun v67 ev67 lv67 uv67 => ?_) | refine z_alx gg155_67 rfl (by assumption) (by omega) (by omega) (by omega) (by decide) (fun v67 ev67 lv67 uv67 => ?_)
            refine z_const gg155_68 (v := 4) rfl ?_
            refine z_idiv gg155_69 (by omega) (by omega) (by omega) (by omega) ?_
            refine z_iadd gg155_70 ?_
            refine q_goto gg155_71 (tg := 75) rfl ?_
            refine q_iret gg155_75 ?_
            refine qv ?_ kk
            rw [hm]
            split <;> omega
          )
      · rw [if_neg h2]
        by_cases h3 : v26 = 3
        · rw [if_pos h3]
          have hm : mGrow w b = G / 2 := by unfold mGrow; rw [if_neg (by omega), if_neg (by omega), if_neg (by omega), if_pos (by omega), hG]
          refine q_iload gg155_76 rfl ?_
          refine z_const gg155_77 (v := 2) rfl ?_
          refine z_idiv gg155_78 (by omega) (by omega) (by omega) (by omega) ?_
          refine q_iret gg155_79 ?_
          exact qv hm.symm kk
        · rw [if_neg h3]
          by_cases h4 : v26 = 4
          · rw [if_pos h4]
            have hm : mGrow w b = if w (4 + 7 * b + 6) = 1 then G else 0 := by unfold mGrow; rw [if_neg (by omega), if_neg (by omega), if_neg (by omega), if_neg (by omega), if_pos (by omega), hG]
            refine q_aload gg155_80 rfl ?_
            refine q_iload gg155_81 rfl ?_
            refine z_const gg155_82 (v := 6) rfl ?_
            refine z_iadd gg155_84 ?_
            first | refine z_alr gg155_85 (by first | rfl | assumption) (by assumption) (by omega) (by omega) (by omega) (by decide) (fun v85 ev85 lv85 uv85 => ?_) | refine z_alx gg155_85 rfl (by assumption) (by omega) (by omega) (by omega) (by decide) (fun v85 ev85 lv85 uv85 => ?_)
            refine z_const gg155_86 (v := 1) rfl ?_
            refine z_icmpne gg155_87 (tg := 94) rfl (by omega) (by omega) (fun c1 => ?_) (fun c1 => ?_)
            · try (exfalso; omega)
              all_goals (
                refine z_const gg155_94 (v := 0) rfl ?_
                refine q_iret gg155_95 ?_
                refine qv ?_ kk
                rw [hm]
                split <;> omega
              )
            · try (exfalso; omega)
              all_goals (
                refine q_iload gg155_90 rfl ?_
                refine q_goto gg155_91 (tg := 95) rfl ?_
                refine q_iret gg155_95 ?_
                refine qv ?_ kk
                rw [hm]
                split <;> omega
              )
          · rw [if_neg h4]
            have hm : mGrow w b = if w (4 + 7 * b + 6) = 1 then 2 * G else 0 := by unfold mGrow; rw [if_neg (by omega), if_neg (by omega), if_neg (by omega), if_neg (by omega), if_neg (by omega), hG]
            refine q_aload gg155_96 rfl ?_
            refine q_iload gg155_97 rfl ?_
            refine z_const gg155_98 (v := 6) rfl ?_
            refine z_iadd gg155_100 ?_
            first | refine z_alr gg155_101 (by first | rfl | assumption) (by assumption) (by omega) (by omega) (by omega) (by decide) (fun v101 ev101 lv101 uv101 => ?_) | refine z_alx gg155_101 rfl (by assumption) (by omega) (by omega) (by omega) (by decide) (fun v101 ev101 lv101 uv101 => ?_)
            refine z_const gg155_102 (v := 1) rfl ?_
            refine z_icmpne gg155_103 (tg := 112) rfl (by omega) (by omega) (fun c1 => ?_) (fun c1 => ?_)
            · try (exfalso; omega)
              all_goals (
                refine z_const gg155_112 (v := 0) rfl ?_
                refine q_iret gg155_113 ?_
                refine qv ?_ kk
                rw [hm]
                split <;> omega
              )
            · try (exfalso; omega)
              all_goals (
                refine z_const gg155_106 (v := 2) rfl ?_
                refine q_iload gg155_107 rfl ?_
                refine z_imul gg155_108 ?_
                refine q_goto gg155_109 (tg := 113) rfl ?_
                refine q_iret gg155_113 ?_
                refine qv ?_ kk
                rw [hm]
                split <;> omega
              )
  · refine z_const gg155_22 (v := 0) rfl ?_
    refine q_iret gg155_23 ?_
    refine qv ?_ kk
    unfold mGrow
    rw [if_pos (by omega)]
theorem r_areSo {q : Int} (hk : hm_sh[k]? = some (.inl (false, 53))) (hf : aw f 53 0 20000 w) (hn0 : 0 ≤ w 2) (hn : w 2 ≤ 7) (hq0 : 0 ≤ q) (hq : q < 7) (hg : b01 (mFlag w q) 7) (kk : Q (some (.inl (zI (bsum (mFlag w q) (w 2).toNat)))) (hm_row M k f)) : hm_Wp d 156 0 [some (.inr (.inr k)), some (.inl (zI q)), none, none] [] (hm_row M k f) Q := by
  have L : ∀ (m : Nat) (b : Int), 0 ≤ b → b + m = w 2 → hm_Wp d 156 4 [some (.inr (.inr k)), some (.inl (zI q)), some (.inl (zI (bsum (mFlag w q) b.toNat))), some (.inl (zI b))] [] (hm_row M k f) Q := by
    intro m
    induction m with
    | zero =>
      intro b hb0 hbm
      refine q_iload gg156_4 rfl ?_
      refine q_aload gg156_5 rfl ?_
      refine z_const gg156_6 (v := 2) rfl ?_
      first | refine z_alr gg156_7 (by first | rfl | assumption) (by assumption) (by omega) (by omega) (by omega) (by decide) (fun v7 ev7 lv7 uv7 => ?_) | refine z_alx gg156_7 rfl (by assumption) (by omega) (by omega) (by omega) (by decide) (fun v7 ev7 lv7 uv7 => ?_)
      refine z_icmpge gg156_8 (tg := 32) rfl (by omega) (by omega) (fun c1 => ?_) (fun z => absurd z (by omega))
      refine q_iload gg156_32 rfl ?_
      refine q_iret gg156_33 ?_
      refine qv ?_ kk
      rw [show b = w 2 by omega]
    | succ m ih =>
      intro b hb0 hbm
      obtain ⟨s0, s1⟩ := bsum_lt (b01_le hg (show b.toNat ≤ 7 by omega))
      have hp := p2_lt (show b < 7 by omega)
      have h01 := hg b hb0 (by omega)
      refine q_iload gg156_4 rfl ?_
      refine q_aload gg156_5 rfl ?_
      refine z_const gg156_6 (v := 2) rfl ?_
      first | refine z_alr gg156_7 (by first | rfl | assumption) (by assumption) (by omega) (by omega) (by omega) (by decide) (fun v7 ev7 lv7 uv7 => ?_) | refine z_alx gg156_7 rfl (by assumption) (by omega) (by omega) (by omega) (by decide) (fun v7 ev7 lv7 uv7 => ?_)
      refine z_icmpge gg156_8 (tg := 32) rfl (by omega) (by omega) (fun c1 => ?_) (fun c1 => ?_)
      · exact absurd c1 (by omega)
      · refine q_iload gg156_11 rfl ?_
        refine q_aload gg156_12 rfl ?_
        refine z_const gg156_13 (v := 4) rfl ?_
        refine z_const gg156_14 (v := 7) rfl ?_
        refine q_iload gg156_16 rfl ?_
        refine z_imul gg156_17 ?_
        refine z_iadd gg156_18 ?_
        refine q_iload gg156_19 rfl ?_
        refine z_iadd gg156_20 ?_
        first | refine z_alr gg156_21 (by first | rfl | assumption) (by assumption) (by omega) (by omega) (by omega) (by decide) (fun v21 ev21 lv21 uv21 => ?_) | refine z_alx gg156_21 rfl (by assumption) (by omega) (by omega) (by omega) (by decide) (fun v21 ev21 lv21 uv21 => ?_)
        refine q_iload gg156_22 rfl ?_
        refine z_ishl gg156_23 (by omega) (by omega) (by omega) (by simp only [mFlag] at h01; omega) ?_
        refine z_iorb gg156_24 hb0 (by omega) s0 s1 (by simp only [mFlag] at h01; rw [ev21]; exact h01) ?_
        refine q_istore gg156_25 rfl ?_
        refine z_iinc gg156_26 rfl rfl ?_
        refine q_goto gg156_29 (tg := 4) rfl ?_
        have := ih (b + 1) (by omega) (by omega)
        rw [bsum_succ hb0] at this
        rw [ev21]
        exact this
  refine z_const gg156_0 (v := 0) rfl ?_
  refine q_istore gg156_1 rfl ?_
  refine z_const gg156_2 (v := 0) rfl ?_
  refine q_istore gg156_3 rfl ?_
  exact L (w 2).toNat 0 (by decide) (by omega)
end R1
