section P5
variable {d r mid pc nx q : Nat} {M N N' : hm_M} {tp w g : Int → Int} {tl k a b c p v u s lo hi fm kd na fk x y : Int} {f F : Nat → Int32} {pa : Int → Int → Int} {Q : Option hm_V → hm_M → Prop}
def FHR (M M' : hm_M) : Prop := (∀ q : Nat, q ≠ 30 → q ≠ 37 → M' q = M q) ∧ ∀ j : Nat, (j < 6 ∨ 12 < j) → M' 30 j = M 30 j
def FHS (M M' : hm_M) : Prop := (∀ q : Nat, q ≠ 30 → q ≠ 36 → q ≠ 37 → M' q = M q) ∧ ∀ j : Nat, (j < 6 ∨ 12 < j) → j ≠ 17 → M' 30 j = M 30 j
theorem r_mustE (hB : pB tp tl) (hS : RS M tp tl fk k c) (hk0 : 0 ≤ k) (hk : k ≤ tl) (hx : x = 0 ∨ x = 1) {c2 : Int} (ec : (if c = 0 ∧ x = 0 then 1 else c) = c2) (kk : ∀ M', RS M' tp tl fk k c2 → RK M M' → Q none M') : hm_Wp (d + 3) 148 0 [some (.inr (.inr 30)), some (.inl (zI x))] [] M Q := by
  subst ec
  exact r_must hB hS hk0 hk hx kk
theorem r_hob (hB : pB tp tl) (hT : TR M tp tl fk) {c' p' : Int} {w' : Int → Int} (e : gH tp tl = (c', p', w')) (k0 : c' ≠ 0 → ∀ M', TR M' tp 0 c' → FHR M M' → Q (some (.inl (zI (-1000100 - p')))) M') (k1 : c' = 0 → ∀ M', TR M' tp 0 fk → aw (M' 36) 53 0 20000 w' → AR M' pa 0 → FHS M M' → Q (some (.inl (zI (w' 2)))) M') : hm_Wp (d + 6) 149 0 [some (.inr (.inr 30)), none] [] M Q := by
  have hb0 := hB.1
  have hb := hB.2.1
  obtain ⟨t1, t2, t3⟩ := hT
  have LX : ∀ (N : hm_M) (k c x1 : Int) (w : Int → Int), 0 ≤ k → k ≤ tl → RS N tp tl fk k c → aw (N 37) 53 0 20000 w → RD M N → c' = (if c = 0 ∧ tok tp tl k ≠ 0 then 1 else c) → p' = k → w' = w → hm_Wp (d + 6) 149 167 [some (.inr (.inr 30)), some (.inl (zI x1))] [] N Q := by
    intro N k c x1 w hk0 hk hS hD hF he1 he2 he3
    have htk := @tok_R tp tl k
    have b11 := hS.2.1.2.2.1
    subst he2 he3
    refine q_aload gg149_167 rfl ?_
    refine q_aload gg149_168 rfl ?_
    first | refine z_getf gg149_169 rfl (by first | assumption | ((repeat (first | refine up_nj (by decide) ?_ | refine up_nk (by decide) ?_ | refine row_nk (by decide) ?_)); first | assumption | exact up_at)) ?_ | refine q_getf gg149_169 rfl ?_
    refine z_ifne gg149_172 (tg := 179) rfl (by omega) (fun c1 => ?_) (fun c1 => ?_)
    · try (exfalso; omega)
      all_goals (
        refine z_const gg149_179 (v := 0) rfl ?_
        refine q_call2 gg149_180 tt148 rfl (Nat.le_of_ble_eq_true rfl) (hm_rv (by decide +kernel)) (ls' := [some _, some _]) rfl rfl ?_
        refine r_mustE hB hS hk0 hk (by decide) (c2 := c') (by rw [he1]; (repeat' split) <;> omega) (fun M1 m1 m2 => ?_)
        obtain ⟨fp, g8, g7, gfp⟩ := m1.2.2
        show hm_Wp _ _ _ _ _ _ _
        refine q_aload gg149_183 rfl ?_
        refine z_const gg149_184 (v := 0) rfl ?_
        refine q_putf gg149_185 rfl ?_
        refine q_aload gg149_188 rfl ?_
        refine q_call1 gg149_189 tt142 rfl (Nat.le_of_ble_eq_true rfl) (hm_rv (by decide +kernel)) (ls' := [some _]) rfl rfl ?_
        refine q_aload gg142_0 rfl ?_
        first | refine z_getf gg142_1 rfl (by first | assumption | ((repeat (first | refine up_nj (by decide) ?_ | refine up_nk (by decide) ?_ | refine row_nk (by decide) ?_)); first | assumption | exact up_at)) ?_ | refine q_getf gg142_1 rfl ?_
        refine z_ifge gg142_4 (tg := 11) rfl (by omega) (fun c2 => ?_) (fun c2 => ?_)
        · try (exfalso; omega)
          all_goals (
            refine z_const gg142_11 (v := 0) rfl ?_
            refine z_zretC gg142_12 (by omega) ?_
            refine z_ifne gg149_192 (tg := 203) rfl (by decide) (fun z => absurd z (by decide)) (fun _ => ?_)
            refine z_neg gg149_195 ?_
            refine q_aload gg149_197 rfl ?_
            first | refine z_getf gg149_198 rfl (by first | assumption | ((repeat (first | refine up_nj (by decide) ?_ | refine up_nk (by decide) ?_ | refine row_nk (by decide) ?_)); first | assumption | exact up_at)) ?_ | refine q_getf gg149_198 rfl ?_
            first | refine z_isub gg149_201 ?_ | refine q_isub gg149_201 ?_
            refine q_iret gg149_202 ?_
            refine qv (show _ = -1000100 - p' by omega) (k0 (by omega) _ ⟨up_at, fun i i0 i1 => absurd i1 (by omega), up_nj (by decide) (g7.trans (congrArg zI (if_neg (by omega))))⟩ ⟨fun q h1 h2 => ?_, fun j hj => up_nj (by omega) ((m2.2 j (by omega)).trans (hF.2 j (by omega)))⟩)
            unfold hm_up; rw [hm_row_ne _ _ h1, m2.1 q h1]; exact hF.1 q h1 h2
          )
        · try (exfalso; omega)
          all_goals (
            refine z_const gg142_7 (v := 1) rfl ?_
            refine q_goto gg142_8 (tg := 12) rfl ?_
            refine z_zretC gg142_12 (by omega) ?_
            refine z_ifne gg149_192 (tg := 203) rfl (by decide) (fun _ => ?_) (fun z => absurd z (by decide))
            refine q_aload gg149_203 rfl ?_
            refine q_getr gg149_204 rfl ?_
            refine z_const gg149_207 (v := 0) rfl ?_
            refine q_aload gg149_208 rfl ?_
            refine q_getr gg149_209 rfl ?_
            refine z_const gg149_212 (v := 0) rfl ?_
            refine q_call4 gg149_213 tt130 rfl (Nat.le_of_ble_eq_true rfl) rfl (ls' := [some _, some _, some _, some _, none]) rfl rfl ?_
            refine r_copies2 (n0 := 53) (n1 := 53) rfl rfl (by decide) (by decide) (by decide) (by decide) (by decide) (by decide) (by decide) (fun f1 hf1 => ?_)
            have h36 : aw (hm_row (hm_up M1 30 6 (zI 0)) 36 f1 36) 53 0 20000 w' := by
              rw [hm_row_same]
              intro i i0 i1
              have h5 := hD i i0 i1
              refine ⟨?_, h5.2⟩
              rw [hf1 i i0, if_pos (by omega), show (0 + i - 0 : Int) = i by omega]
              show M1 37 i.toNat = _
              rw [m2.1 37 (by decide)]; exact h5.1
            show hm_Wp _ _ _ _ _ _ _
            refine q_aload gg149_216 rfl ?_
            refine z_const gg149_217 (v := 0) rfl ?_
            refine q_putf gg149_218 rfl ?_
            refine q_aload gg149_221 rfl ?_
            refine q_getr gg149_222 rfl ?_
            refine z_const gg149_225 (v := 2) rfl ?_
            first | (refine z_alr gg149_226 (by first | rfl | assumption) (by assumption) (by omega) (by omega) (by omega) (by decide) (fun v226 ev226 lv226 uv226 => ?_); try dsimp only at ev226) | (refine z_alx gg149_226 rfl (by first | assumption | ((repeat (first | refine aw_upk (by decide) ?_ | refine aw_rowk (by decide) ?_)); assumption)) (by omega) (by omega) (by first | omega | decide) (by decide) (fun v226 ev226 lv226 uv226 => ?_); try dsimp only at ev226) | refine z_alq gg149_226 rfl (by omega) (by omega) (by decide) ?_
            refine q_iret gg149_227 ?_
            refine qv (show _ = w' 2 by omega) (k1 (by omega) _ ⟨up_nj (by decide) (row_nk (by decide) up_at), fun i i0 i1 => absurd i1 (by omega), up_nj (by decide) (row_nk (by decide) (up_nj (by decide) (g7.trans (congrArg zI (if_pos (by omega))))))⟩ (aw_upk (by decide) h36) ⟨up_at, fun j i j0 j1 => absurd j1 (by omega)⟩ ⟨fun q h1 h2 h3 => ?_, fun j hj h17 => up_nj h17 (row_nk (by decide) (up_nj (by omega) ((m2.2 j (by omega)).trans (hF.2 j (by omega)))))⟩)
            unfold hm_up; rw [hm_row_ne _ _ h1, hm_row_ne _ _ h2, hm_row_ne _ _ h1, m2.1 q h1]; exact hF.1 q h1 h3
          )
      )
    · try (exfalso; omega)
      all_goals (
        refine z_const gg149_175 (v := 1) rfl ?_
        refine q_goto gg149_176 (tg := 180) rfl ?_
        refine q_call2 gg149_180 tt148 rfl (Nat.le_of_ble_eq_true rfl) (hm_rv (by decide +kernel)) (ls' := [some _, some _]) rfl rfl ?_
        refine r_mustE hB hS hk0 hk (by decide) (c2 := c') (by rw [he1]; (repeat' split) <;> omega) (fun M1 m1 m2 => ?_)
        obtain ⟨fp, g8, g7, gfp⟩ := m1.2.2
        show hm_Wp _ _ _ _ _ _ _
        refine q_aload gg149_183 rfl ?_
        refine z_const gg149_184 (v := 0) rfl ?_
        refine q_putf gg149_185 rfl ?_
        refine q_aload gg149_188 rfl ?_
        refine q_call1 gg149_189 tt142 rfl (Nat.le_of_ble_eq_true rfl) (hm_rv (by decide +kernel)) (ls' := [some _]) rfl rfl ?_
        refine q_aload gg142_0 rfl ?_
        first | refine z_getf gg142_1 rfl (by first | assumption | ((repeat (first | refine up_nj (by decide) ?_ | refine up_nk (by decide) ?_ | refine row_nk (by decide) ?_)); first | assumption | exact up_at)) ?_ | refine q_getf gg142_1 rfl ?_
        refine z_ifge gg142_4 (tg := 11) rfl (by omega) (fun c2 => ?_) (fun c2 => ?_)
        · try (exfalso; omega)
          all_goals (
            refine z_const gg142_11 (v := 0) rfl ?_
            refine z_zretC gg142_12 (by omega) ?_
            refine z_ifne gg149_192 (tg := 203) rfl (by decide) (fun z => absurd z (by decide)) (fun _ => ?_)
            refine z_neg gg149_195 ?_
            refine q_aload gg149_197 rfl ?_
            first | refine z_getf gg149_198 rfl (by first | assumption | ((repeat (first | refine up_nj (by decide) ?_ | refine up_nk (by decide) ?_ | refine row_nk (by decide) ?_)); first | assumption | exact up_at)) ?_ | refine q_getf gg149_198 rfl ?_
            first | refine z_isub gg149_201 ?_ | refine q_isub gg149_201 ?_
            refine q_iret gg149_202 ?_
            refine qv (show _ = -1000100 - p' by omega) (k0 (by omega) _ ⟨up_at, fun i i0 i1 => absurd i1 (by omega), up_nj (by decide) (g7.trans (congrArg zI (if_neg (by omega))))⟩ ⟨fun q h1 h2 => ?_, fun j hj => up_nj (by omega) ((m2.2 j (by omega)).trans (hF.2 j (by omega)))⟩)
            unfold hm_up; rw [hm_row_ne _ _ h1, m2.1 q h1]; exact hF.1 q h1 h2
          )
        · try (exfalso; omega)
          all_goals (
            refine z_const gg142_7 (v := 1) rfl ?_
            refine q_goto gg142_8 (tg := 12) rfl ?_
            refine z_zretC gg142_12 (by omega) ?_
            refine z_ifne gg149_192 (tg := 203) rfl (by decide) (fun _ => ?_) (fun z => absurd z (by decide))
            refine q_aload gg149_203 rfl ?_
            refine q_getr gg149_204 rfl ?_
            refine z_const gg149_207 (v := 0) rfl ?_
            refine q_aload gg149_208 rfl ?_
            refine q_getr gg149_209 rfl ?_
            refine z_const gg149_212 (v := 0) rfl ?_
            refine q_call4 gg149_213 tt130 rfl (Nat.le_of_ble_eq_true rfl) rfl (ls' := [some _, some _, some _, some _, none]) rfl rfl ?_
            refine r_copies2 (n0 := 53) (n1 := 53) rfl rfl (by decide) (by decide) (by decide) (by decide) (by decide) (by decide) (by decide) (fun f1 hf1 => ?_)
            have h36 : aw (hm_row (hm_up M1 30 6 (zI 0)) 36 f1 36) 53 0 20000 w' := by
              rw [hm_row_same]
              intro i i0 i1
              have h5 := hD i i0 i1
              refine ⟨?_, h5.2⟩
              rw [hf1 i i0, if_pos (by omega), show (0 + i - 0 : Int) = i by omega]
              show M1 37 i.toNat = _
              rw [m2.1 37 (by decide)]; exact h5.1
            show hm_Wp _ _ _ _ _ _ _
            refine q_aload gg149_216 rfl ?_
            refine z_const gg149_217 (v := 0) rfl ?_
            refine q_putf gg149_218 rfl ?_
            refine q_aload gg149_221 rfl ?_
            refine q_getr gg149_222 rfl ?_
            refine z_const gg149_225 (v := 2) rfl ?_
            first | (refine z_alr gg149_226 (by first | rfl | assumption) (by assumption) (by omega) (by omega) (by omega) (by decide) (fun v226 ev226 lv226 uv226 => ?_); try dsimp only at ev226) | (refine z_alx gg149_226 rfl (by first | assumption | ((repeat (first | refine aw_upk (by decide) ?_ | refine aw_rowk (by decide) ?_)); assumption)) (by omega) (by omega) (by first | omega | decide) (by decide) (fun v226 ev226 lv226 uv226 => ?_); try dsimp only at ev226) | refine z_alq gg149_226 rfl (by omega) (by omega) (by decide) ?_
            refine q_iret gg149_227 ?_
            refine qv (show _ = w' 2 by omega) (k1 (by omega) _ ⟨up_nj (by decide) (row_nk (by decide) up_at), fun i i0 i1 => absurd i1 (by omega), up_nj (by decide) (row_nk (by decide) (up_nj (by decide) (g7.trans (congrArg zI (if_pos (by omega))))))⟩ (aw_upk (by decide) h36) ⟨up_at, fun j i j0 j1 => absurd j1 (by omega)⟩ ⟨fun q h1 h2 h3 => ?_, fun j hj h17 => up_nj h17 (row_nk (by decide) (up_nj (by omega) ((m2.2 j (by omega)).trans (hF.2 j (by omega)))))⟩)
            unfold hm_up; rw [hm_row_ne _ _ h1, hm_row_ne _ _ h2, hm_row_ne _ _ h1, m2.1 q h1]; exact hF.1 q h1 h3
          )
      )
  have LB : ∀ (N : hm_M) (k c x1 : Int) (w : Int → Int), 0 ≤ k → k ≤ tl → RS N tp tl fk k c → aw (N 37) 53 0 20000 w → RD M N → c ≠ 0 → c' = c → p' = k → w' = w → hm_Wp (d + 6) 149 135 [some (.inr (.inr 30)), some (.inl (zI x1))] [] N Q := by
    intro N k c x1 w hk0 hk hS hD hF hc he1 he2 he3
    obtain ⟨fp, g8, g7, gfp⟩ := hS.2.2
    refine q_aload gg149_135 rfl ?_
    refine q_call1 gg149_136 tt142 rfl (Nat.le_of_ble_eq_true rfl) (hm_rv (by decide +kernel)) (ls' := [some _]) rfl rfl ?_
    refine q_aload gg142_0 rfl ?_
    first | refine z_getf gg142_1 rfl (by first | assumption | ((repeat (first | refine up_nj (by decide) ?_ | refine up_nk (by decide) ?_ | refine row_nk (by decide) ?_)); first | assumption | exact up_at)) ?_ | refine q_getf gg142_1 rfl ?_
    refine z_ifge gg142_4 (tg := 11) rfl (by omega) (fun c1 => ?_) (fun z => absurd z (by omega))
    refine z_const gg142_11 (v := 0) rfl ?_
    refine z_zretC gg142_12 (by omega) ?_
    refine z_ifeq gg149_139 (tg := 167) rfl (by decide) (fun _ => ?_) (fun z => absurd z (by decide))
    exact LX N k c x1 w hk0 hk hS hD hF (by rw [if_neg (by omega)]; exact he1) he2 he3
  have LL : ∀ (n : Nat) (N : hm_M) (k x1 : Int) (w : Int → Int), tl - k < n → 0 ≤ k → k ≤ tl → RS N tp tl fk k 0 → aw (N 37) 53 0 20000 w → mDr w → RD M N → gL tp tl n (0, k, w) = (c', p', w') → hm_Wp (d + 6) 149 135 [some (.inr (.inr 30)), some (.inl (zI x1))] [] N Q := by
    intro n
    induction n with
    | zero => intro N k x1 w hn hk0 hk; omega
    | succ n ih =>
      intro N k x1 w hn hk0 hk hS hD hw hF hL
      obtain ⟨fp, g8, g7, gfp⟩ := id hS.2.2
      have htk := @tok_R tp tl k
      have htv := tvl_R hB hk0
      have hkr := @kdO_R (tvl tp tl k)
      have b11 := hS.2.1.2.2.1
      have b12 := hS.2.1.2.2.2
      have hkt := @kd_tok tp tl k
      have hkp := @kdO_R (pyt tp tl k)
      have hpr := pyt_R hB hk0
      have ht0 := tok_0 (tp := tp) hB hk0
      have X0 : ¬ (0 < kdO (pyt tp tl k)) → hm_Wp (d + 6) 149 167 [some (.inr (.inr 30)), some (.inl (zI x1))] [] N Q := by
        intro hz
        by_cases hkl : k < tl
        · rw [gL_step n rfl hkl] at hL
          unfold gB at hL
          rw [if_neg (by omega), if_pos (by omega), gL_bad n (by decide), Prod.mk.injEq, Prod.mk.injEq] at hL
          obtain ⟨y1, y2, y3⟩ := hL
          exact LX N k 0 x1 w hk0 hk hS hD hF (by rw [if_pos (by omega)]; exact y1.symm) y2.symm y3.symm
        · rw [gL_end (n + 1) (by omega), Prod.mk.injEq, Prod.mk.injEq] at hL
          obtain ⟨y1, y2, y3⟩ := hL
          exact LX N k 0 x1 w hk0 hk hS hD hF (by rw [if_neg (by omega)]; exact y1.symm) y2.symm y3.symm
      refine q_aload gg149_135 rfl ?_
      refine q_call1 gg149_136 tt142 rfl (Nat.le_of_ble_eq_true rfl) (hm_rv (by decide +kernel)) (ls' := [some _]) rfl rfl ?_
      refine q_aload gg142_0 rfl ?_
      first | refine z_getf gg142_1 rfl (by first | assumption | ((repeat (first | refine up_nj (by decide) ?_ | refine up_nk (by decide) ?_ | refine row_nk (by decide) ?_)); first | assumption | exact up_at)) ?_ | refine q_getf gg142_1 rfl ?_
      refine z_ifge gg142_4 (tg := 11) rfl (by omega) (fun z => absurd z (by omega)) (fun c1 => ?_)
      refine z_const gg142_7 (v := 1) rfl ?_
      refine q_goto gg142_8 (tg := 12) rfl ?_
      refine z_zretC gg142_12 (by omega) ?_
      refine z_ifeq gg149_139 (tg := 167) rfl (by decide) (fun z => absurd z (by decide)) (fun _ => ?_)
      refine q_aload gg149_142 rfl ?_
      first | refine z_getf gg149_143 rfl (by first | assumption | ((repeat (first | refine up_nj (by decide) ?_ | refine up_nk (by decide) ?_ | refine row_nk (by decide) ?_)); first | assumption | exact up_at)) ?_ | refine q_getf gg149_143 rfl ?_
      refine z_const gg149_146 (v := 1) rfl ?_
      refine z_icmpne gg149_147 (tg := 167) rfl (by omega) (by omega) (fun c2 => ?_) (fun c2 => ?_)
      · try (exfalso; omega)
        all_goals (
          exact X0 (by omega)
        )
      · try (exfalso; omega)
        all_goals (
          refine q_aload gg149_150 rfl ?_
          first | refine z_getf gg149_151 rfl (by first | assumption | ((repeat (first | refine up_nj (by decide) ?_ | refine up_nk (by decide) ?_ | refine row_nk (by decide) ?_)); first | assumption | exact up_at)) ?_ | refine q_getf gg149_151 rfl ?_
          refine q_call1 gg149_154 tt145 rfl (Nat.le_of_ble_eq_true rfl) rfl (ls' := [some _]) rfl rfl ?_
          refine r_kindOf (by omega) (by omega) ?_
          show hm_Wp _ _ _ _ (_ :: _) _ _
          refine z_ifle gg149_157 (tg := 167) rfl (by omega) (fun c3 => ?_) (fun c3 => ?_)
          · try (exfalso; omega)
            all_goals (
              exact X0 (by omega)
            )
          · try (exfalso; omega)
            all_goals (
              have hpos : 0 < kdO (pyt tp tl k) := by omega
              have hkl : k < tl := by omega
              rw [gL_step n rfl hkl] at hL
              have rb := gB_R (c := 0) hB hk0 hk (by decide) (by decide) hw
              rcases eb : gB tp tl 0 k w with ⟨zc, zk, zw⟩
              rw [eb] at hL rb
              dsimp only at rb
              refine q_aload gg149_160 rfl ?_
              refine q_call1 gg149_161 tt147 rfl (Nat.le_of_ble_eq_true rfl) (hm_rv (by decide +kernel)) (ls' := [some _, none, none, none, none]) rfl rfl ?_
              refine r_readsBasin hB hS hk0 hk hpos hD hw eb (fun N1 m1 m2 m3 => ?_)
              show hm_Wp _ _ _ _ _ _ _
              refine q_goto gg149_164 (tg := 135) rfl ?_
              by_cases hz : zc = 0
              · have := rb.2.2.2.2.2.2 hz
                subst hz
                exact ih N1 zk x1 zw (by omega) (by omega) (by omega) m1 m2 rb.2.2.2.2.1 (hF.tr m3) hL
              · rw [gL_bad n hz, Prod.mk.injEq, Prod.mk.injEq] at hL
                exact LB N1 zk zc x1 zw (by omega) (by omega) m1 m2 (hF.tr m3) hz hL.1.symm hL.2.1.symm hL.2.2.symm
            )
        )
  have LK : ∀ (f : Nat → Int32) (x1 : Int), aw f 53 0 20000 (fun _ => 0) → hm_Wp (d + 6) 149 21 [some (.inr (.inr 30)), some (.inl (zI x1))] [] (hm_row M 37 f) Q := by
    intro f x1 hf
    have hpr := pyt_R (tp := tp) (k := 0) hB (by decide)
    have htk0 := @tok_R tp tl 0
    have htv0 := tvl_R (tp := tp) (k := 0) hB (by decide)
    have ht1 := @tok_1 tp tl 0
    have htn1 : tok tp tl 0 = 1 → tvl tp tl 0 = pyt tp tl 0 := fun z => (tnd_1 (Or.inl (by have := ht1.mp z; omega))).2
    have r0 := gS_R (s := 107) (k := 0) (c := 0) hB (by decide) (by omega) (by decide) (by decide) (by decide)
    rcases e0 : gS tp tl 0 0 107 with ⟨za, p0⟩
    rw [e0] at r0
    dsimp only at r0
    have r1 := gN_R (lo := 0) (hi := 9) (c := za) (k := p0) hB (by omega) (by omega) (by decide) (by decide) (by omega) (by omega)
    rcases e1 : gN tp tl za p0 0 9 with ⟨zb, p1, v1⟩
    rw [e1] at r1
    dsimp only at r1
    have r2 := gS_R (s := 44) (c := zb) (k := p1) hB (by omega) (by omega) (by decide) (by omega) (by omega)
    rcases e2 : gS tp tl zb p1 44 with ⟨zc, p2⟩
    rw [e2] at r2
    dsimp only at r2
    have r3 := gN_R (lo := 5) (hi := 60) (c := zc) (k := p2) hB (by omega) (by omega) (by decide) (by decide) (by omega) (by omega)
    rcases e3 : gN tp tl zc p2 5 60 with ⟨zd, p3, v3⟩
    rw [e3] at r3
    dsimp only at r3
    have r4 := gS_R (s := 59) (c := zd) (k := p3) hB (by omega) (by omega) (by decide) (by omega) (by omega)
    rcases e4 : gS tp tl zd p3 59 with ⟨ze, p4⟩
    rw [e4] at r4
    dsimp only at r4
    have eg : gW0 tp tl = (ze, p4, v1, v3) := by unfold gW0 gP; simp only [e0, e1, e2, e3, e4]
    unfold gH at e
    rw [eg] at e
    dsimp only at e
    have hdr := mDr_law (a := v1) (c := v3) (by omega) (by omega) (by omega) (by omega)
    have FJ : RD M (hm_up (hm_up (hm_row M 37 f) 30 9 (zI 0)) 30 8 (zI (-1))) := (RD.rf.row.up (by decide) (by decide)).up (by decide) (by decide)
    refine q_aload gg149_21 rfl ?_
    refine z_const gg149_22 (v := 0) rfl ?_
    refine q_putf gg149_23 rfl ?_
    refine q_aload gg149_26 rfl ?_
    refine z_neg gg149_27 ?_
    refine q_putf gg149_28 rfl ?_
    refine q_aload gg149_31 rfl ?_
    refine q_call1 gg149_32 tt141 rfl (Nat.le_of_ble_eq_true rfl) (hm_rv (by decide +kernel)) (ls' := [some _, none]) rfl rfl ?_
    refine r_adv hB ⟨(by first | assumption | ((repeat (first | refine up_nj (by decide) ?_ | refine up_nk (by decide) ?_ | refine row_nk (by decide) ?_)); first | assumption | exact up_at)), aw_upk (by decide) (aw_upk (by decide) (aw_rowk (by decide) t2))⟩ (k := 0) (by first | assumption | ((repeat (first | refine up_nj (by decide) ?_ | refine up_nk (by decide) ?_ | refine row_nk (by decide) ?_)); first | assumption | exact up_at)) (by decide) (by omega) (fun M0 i1 i2 => ?_)
    show hm_Wp _ _ _ _ _ _ _
    have S0 : RS M0 tp tl fk 0 0 := ⟨RT.j ⟨(by first | assumption | ((repeat (first | refine up_nj (by decide) ?_ | refine up_nk (by decide) ?_ | refine row_nk (by decide) ?_)); first | assumption | exact up_at)), aw_upk (by decide) (aw_upk (by decide) (aw_rowk (by decide) t2))⟩ i2, i1, -1, (i2.2 8 (by decide)).trans up_at, (i2.2 7 (by decide)).trans (by rw [if_pos rfl]; exact (by first | assumption | ((repeat (first | refine up_nj (by decide) ?_ | refine up_nk (by decide) ?_ | refine row_nk (by decide) ?_)); first | assumption | exact up_at))), Or.inl ⟨rfl, rfl⟩⟩
    have F0 : RD M M0 := FJ.tr i2.rk.rd
    have D0 : aw (M0 37) 53 0 20000 (fun _ => 0) := by rw [i2.1 37 (by decide)]; exact aw_upk (by decide) (aw_upk (by decide) (by rw [hm_row_same]; exact hf))
    have b11 := i1.2.2.1
    have b12 := i1.2.2.2
    refine q_aload gg149_35 rfl ?_
    refine q_aload gg149_36 rfl ?_
    first | refine z_getf gg149_37 rfl (by first | assumption | ((repeat (first | refine up_nj (by decide) ?_ | refine up_nk (by decide) ?_ | refine row_nk (by decide) ?_)); first | assumption | exact up_at)) ?_ | refine q_getf gg149_37 rfl ?_
    refine z_const gg149_40 (v := 1) rfl ?_
    refine z_icmpne gg149_41 (tg := 57) rfl (by omega) (by omega) (fun c1 => ?_) (fun c1 => ?_)
    · try (exfalso; omega)
      all_goals (
        refine z_const gg149_57 (v := 0) rfl ?_
        refine z_const gg149_58 (v := 1) rfl ?_
        refine q_call3 gg149_59 tt143 rfl (Nat.le_of_ble_eq_true rfl) (hm_rv (by decide +kernel)) (ls' := [some _, some _, some _, none]) rfl rfl ?_
        obtain ⟨vt, et⟩ := gS_fTk (s := 107) (by omega) (by first | exact Or.inl ⟨rfl, by omega⟩ | exact Or.inr ⟨rfl, by omega⟩) e0
        refine r_takes hB S0 (by decide) (by omega) (by decide) (by decide) (by decide) et (fun M1 m1 m2 => ?_)
        show hm_Wp _ _ _ _ (_ :: _) _ _
        have D1 : aw (M1 37) 53 0 20000 (fun _ => 0) := by rw [m2.1 37 (by decide)]; exact D0
        refine q_pop gg149_62 rfl ?_
        refine q_aload gg149_63 rfl ?_
        refine q_getr gg149_64 rfl ?_
        refine z_const gg149_67 (v := 0) rfl ?_
        refine q_aload gg149_68 rfl ?_
        refine z_const gg149_69 (v := 0) rfl ?_
        refine z_const gg149_70 (v := 9) rfl ?_
        refine q_call3 gg149_72 tt144 rfl (Nat.le_of_ble_eq_true rfl) (hm_rv (by decide +kernel)) (ls' := [some _, some _, some _]) rfl rfl ?_
        refine r_figure hB m1 (by omega) (by omega) (by decide) (by decide) (by decide) (by decide) e1 (fun M2 n1 n2 => ?_)
        show hm_Wp _ _ _ _ (_ :: _) _ _
        have D2 : aw (M2 37) 53 0 20000 (fun _ => 0) := by rw [n2.1 37 (by decide)]; exact D1
        refine hm_Wp.eqM (hm_row_self M2 37).symm ?_
        first | refine z_asr gg149_75 (by first | rfl | assumption) (by assumption) (by omega) (by omega) (by decide) (by omega) (by omega) (fun f75 h75 => ?_) | refine z_asx gg149_75 rfl (by omega) (by omega) (by decide) ?_ | refine z_asq gg149_75 rfl (by omega) (by omega) (by decide) ?_
        refine q_aload gg149_76 rfl ?_
        refine q_getr gg149_77 rfl ?_
        refine z_const gg149_80 (v := 1) rfl ?_
        refine q_aload gg149_81 rfl ?_
        refine z_const gg149_82 (v := 5) rfl ?_
        refine z_const gg149_83 (v := 60) rfl ?_
        refine q_call3 gg149_85 tt146 rfl (Nat.le_of_ble_eq_true rfl) (hm_rv (by decide +kernel)) (ls' := [some _, some _, some _]) rfl rfl ?_
        refine r_follows hB n1.row (by omega) (by omega) (by omega) (by omega) (by decide) (by decide) (by decide) (by decide) e2 e3 (fun M3 o1 o2 => ?_)
        show hm_Wp _ _ _ _ (_ :: _) _ _
        have D3 : aw (M3 37) 53 0 20000 (zup (fun _ => 0) 0 v1) := by rw [o2.1 37 (by decide), hm_row_same]; assumption
        have F3 : RD M M3 := ((F0.tr (m2.tr n2).rd).row).tr o2.rd
        refine hm_Wp.eqM (hm_row_self M3 37).symm ?_
        have htk := @tok_R tp tl p3
        have ht4 := @tok_4 tp tl p3
        have b11' := o1.2.1.2.2.1
        first | refine z_asr gg149_88 (by first | rfl | assumption) (by assumption) (by omega) (by omega) (by decide) (by omega) (by omega) (fun f88 h88 => ?_) | refine z_asx gg149_88 rfl (by omega) (by omega) (by decide) ?_ | refine z_asq gg149_88 rfl (by omega) (by omega) (by decide) ?_
        refine q_aload gg149_89 rfl ?_
        refine q_aload gg149_90 rfl ?_
        first | refine z_getf gg149_91 rfl (by first | assumption | ((repeat (first | refine up_nj (by decide) ?_ | refine up_nk (by decide) ?_ | refine row_nk (by decide) ?_)); first | assumption | exact up_at)) ?_ | refine q_getf gg149_91 rfl ?_
        refine z_const gg149_94 (v := 4) rfl ?_
        refine z_icmpne gg149_95 (tg := 102) rfl (by omega) (by omega) (fun c1 => ?_) (fun c1 => ?_)
        · try (exfalso; omega)
          all_goals (
            refine z_const gg149_102 (v := 0) rfl ?_
            refine z_const gg149_103 (v := 1) rfl ?_
            refine q_call3 gg149_104 tt143 rfl (Nat.le_of_ble_eq_true rfl) (hm_rv (by decide +kernel)) (ls' := [some _, some _, some _, none]) rfl rfl ?_
            obtain ⟨vt4, et4⟩ := gS_fTk (s := 59) (by omega) (by first | exact Or.inl ⟨rfl, by omega⟩ | exact Or.inr ⟨rfl, by omega⟩) e4
            refine r_takes hB o1.row (by omega) (by omega) (by decide) (by decide) (by decide) et4 (fun M4 q1 q2 => ?_)
            show hm_Wp _ _ _ _ (_ :: _) _ _
            have D4 : aw (M4 37) 53 0 20000 (mLaw v1 v3) := by rw [q2.1 37 (by decide), hm_row_same]; assumption
            have F4 : RD M M4 := F3.row.tr q2.rd
            have htk4 := @tok_R tp tl p4
            have htv4 := tvl_R (tp := tp) (k := p4) hB (by omega)
            have hkt := @kd_tok tp tl p4
            have hkr := @kdO_R (tvl tp tl p4)
            have hkp := @kdO_R (pyt tp tl p4)
            have hpr4 := pyt_R (tp := tp) (k := p4) hB (by omega)
            have a11 := q1.2.1.2.2.1
            have a12 := q1.2.1.2.2.2
            have Z : ∀ N1 : hm_M, RS N1 tp tl fk p4 (if ze = 0 ∧ ¬ (0 < kdO (pyt tp tl p4)) then 1 else ze) → RK M4 N1 → hm_Wp (d + 6) 149 135 [some (.inr (.inr 30)), some (.inl (zI x1))] [] N1 Q := by
              intro N1 s1 s2
              have D5 : aw (N1 37) 53 0 20000 (mLaw v1 v3) := by rw [s2.1 37 (by decide)]; exact D4
              have F5 : RD M N1 := F4.tr s2.rd
              by_cases hz : ze = 0
              · subst hz
                by_cases hkd : 0 < kdO (pyt tp tl p4)
                · rw [if_neg (by omega)] at s1
                  exact LL 92 N1 p4 x1 (mLaw v1 v3) (by omega) (by omega) (by omega) s1 D5 hdr F5 (by rw [gL_step 91 rfl (by omega)]; exact e)
                · rw [if_pos ⟨rfl, hkd⟩] at s1
                  unfold gB at e
                  rw [if_neg (by omega), if_pos (by omega), gL_bad 91 (by decide), Prod.mk.injEq, Prod.mk.injEq] at e
                  exact LB N1 p4 1 x1 (mLaw v1 v3) (by omega) (by omega) s1 D5 F5 (by decide) e.1.symm e.2.1.symm e.2.2.symm
              · rw [if_neg (by omega)] at s1
                unfold gB at e
                rw [if_pos hz, gL_bad 91 hz, Prod.mk.injEq, Prod.mk.injEq] at e
                exact LB N1 p4 ze x1 (mLaw v1 v3) (by omega) (by omega) s1 D5 F5 hz e.1.symm e.2.1.symm e.2.2.symm
            refine q_pop gg149_107 rfl ?_
            refine q_aload gg149_108 rfl ?_
            refine q_aload gg149_109 rfl ?_
            first | refine z_getf gg149_110 rfl (by first | assumption | ((repeat (first | refine up_nj (by decide) ?_ | refine up_nk (by decide) ?_ | refine row_nk (by decide) ?_)); first | assumption | exact up_at)) ?_ | refine q_getf gg149_110 rfl ?_
            refine z_const gg149_113 (v := 1) rfl ?_
            refine z_icmpne gg149_114 (tg := 131) rfl (by omega) (by omega) (fun c1 => ?_) (fun c1 => ?_)
            · try (exfalso; omega)
              all_goals (
                refine z_const gg149_131 (v := 0) rfl ?_
                refine q_call2 gg149_132 tt148 rfl (Nat.le_of_ble_eq_true rfl) (hm_rv (by decide +kernel)) (ls' := [some _, some _]) rfl rfl ?_
                refine r_mustE hB q1 (by omega) (by omega) (by decide) (c2 := if ze = 0 ∧ ¬ (0 < kdO (pyt tp tl p4)) then 1 else ze) (by (repeat' split) <;> omega) (fun N1 s1 s2 => ?_)
                show hm_Wp _ _ _ _ _ _ _
                exact Z N1 s1 s2
              )
            · try (exfalso; omega)
              all_goals (
                refine q_aload gg149_117 rfl ?_
                first | refine z_getf gg149_118 rfl (by first | assumption | ((repeat (first | refine up_nj (by decide) ?_ | refine up_nk (by decide) ?_ | refine row_nk (by decide) ?_)); first | assumption | exact up_at)) ?_ | refine q_getf gg149_118 rfl ?_
                refine q_call1 gg149_121 tt145 rfl (Nat.le_of_ble_eq_true rfl) rfl (ls' := [some _]) rfl rfl ?_
                refine r_kindOf (by omega) (by omega) ?_
                show hm_Wp _ _ _ _ (_ :: _) _ _
                refine z_ifle gg149_124 (tg := 131) rfl (by omega) (fun c2 => ?_) (fun c2 => ?_)
                · try (exfalso; omega)
                  all_goals (
                    refine z_const gg149_131 (v := 0) rfl ?_
                    refine q_call2 gg149_132 tt148 rfl (Nat.le_of_ble_eq_true rfl) (hm_rv (by decide +kernel)) (ls' := [some _, some _]) rfl rfl ?_
                    refine r_mustE hB q1 (by omega) (by omega) (by decide) (c2 := if ze = 0 ∧ ¬ (0 < kdO (pyt tp tl p4)) then 1 else ze) (by (repeat' split) <;> omega) (fun N1 s1 s2 => ?_)
                    show hm_Wp _ _ _ _ _ _ _
                    exact Z N1 s1 s2
                  )
                · try (exfalso; omega)
                  all_goals (
                    refine z_const gg149_127 (v := 1) rfl ?_
                    refine q_goto gg149_128 (tg := 132) rfl ?_
                    refine q_call2 gg149_132 tt148 rfl (Nat.le_of_ble_eq_true rfl) (hm_rv (by decide +kernel)) (ls' := [some _, some _]) rfl rfl ?_
                    refine r_mustE hB q1 (by omega) (by omega) (by decide) (c2 := if ze = 0 ∧ ¬ (0 < kdO (pyt tp tl p4)) then 1 else ze) (by (repeat' split) <;> omega) (fun N1 s1 s2 => ?_)
                    show hm_Wp _ _ _ _ _ _ _
                    exact Z N1 s1 s2
                  )
              )
          )
        · try (exfalso; omega)
          all_goals (
            refine z_const gg149_98 (v := 1) rfl ?_
            refine q_goto gg149_99 (tg := 103) rfl ?_
            refine z_const gg149_103 (v := 1) rfl ?_
            refine q_call3 gg149_104 tt143 rfl (Nat.le_of_ble_eq_true rfl) (hm_rv (by decide +kernel)) (ls' := [some _, some _, some _, none]) rfl rfl ?_
            obtain ⟨vt4, et4⟩ := gS_fTk (s := 59) (by omega) (by first | exact Or.inl ⟨rfl, by omega⟩ | exact Or.inr ⟨rfl, by omega⟩) e4
            refine r_takes hB o1.row (by omega) (by omega) (by decide) (by decide) (by decide) et4 (fun M4 q1 q2 => ?_)
            show hm_Wp _ _ _ _ (_ :: _) _ _
            have D4 : aw (M4 37) 53 0 20000 (mLaw v1 v3) := by rw [q2.1 37 (by decide), hm_row_same]; assumption
            have F4 : RD M M4 := F3.row.tr q2.rd
            have htk4 := @tok_R tp tl p4
            have htv4 := tvl_R (tp := tp) (k := p4) hB (by omega)
            have hkt := @kd_tok tp tl p4
            have hkr := @kdO_R (tvl tp tl p4)
            have hkp := @kdO_R (pyt tp tl p4)
            have hpr4 := pyt_R (tp := tp) (k := p4) hB (by omega)
            have a11 := q1.2.1.2.2.1
            have a12 := q1.2.1.2.2.2
            have Z : ∀ N1 : hm_M, RS N1 tp tl fk p4 (if ze = 0 ∧ ¬ (0 < kdO (pyt tp tl p4)) then 1 else ze) → RK M4 N1 → hm_Wp (d + 6) 149 135 [some (.inr (.inr 30)), some (.inl (zI x1))] [] N1 Q := by
              intro N1 s1 s2
              have D5 : aw (N1 37) 53 0 20000 (mLaw v1 v3) := by rw [s2.1 37 (by decide)]; exact D4
              have F5 : RD M N1 := F4.tr s2.rd
              by_cases hz : ze = 0
              · subst hz
                by_cases hkd : 0 < kdO (pyt tp tl p4)
                · rw [if_neg (by omega)] at s1
                  exact LL 92 N1 p4 x1 (mLaw v1 v3) (by omega) (by omega) (by omega) s1 D5 hdr F5 (by rw [gL_step 91 rfl (by omega)]; exact e)
                · rw [if_pos ⟨rfl, hkd⟩] at s1
                  unfold gB at e
                  rw [if_neg (by omega), if_pos (by omega), gL_bad 91 (by decide), Prod.mk.injEq, Prod.mk.injEq] at e
                  exact LB N1 p4 1 x1 (mLaw v1 v3) (by omega) (by omega) s1 D5 F5 (by decide) e.1.symm e.2.1.symm e.2.2.symm
              · rw [if_neg (by omega)] at s1
                unfold gB at e
                rw [if_pos hz, gL_bad 91 hz, Prod.mk.injEq, Prod.mk.injEq] at e
                exact LB N1 p4 ze x1 (mLaw v1 v3) (by omega) (by omega) s1 D5 F5 hz e.1.symm e.2.1.symm e.2.2.symm
            refine q_pop gg149_107 rfl ?_
            refine q_aload gg149_108 rfl ?_
            refine q_aload gg149_109 rfl ?_
            first | refine z_getf gg149_110 rfl (by first | assumption | ((repeat (first | refine up_nj (by decide) ?_ | refine up_nk (by decide) ?_ | refine row_nk (by decide) ?_)); first | assumption | exact up_at)) ?_ | refine q_getf gg149_110 rfl ?_
            refine z_const gg149_113 (v := 1) rfl ?_
            refine z_icmpne gg149_114 (tg := 131) rfl (by omega) (by omega) (fun c1 => ?_) (fun c1 => ?_)
            · try (exfalso; omega)
              all_goals (
                refine z_const gg149_131 (v := 0) rfl ?_
                refine q_call2 gg149_132 tt148 rfl (Nat.le_of_ble_eq_true rfl) (hm_rv (by decide +kernel)) (ls' := [some _, some _]) rfl rfl ?_
                refine r_mustE hB q1 (by omega) (by omega) (by decide) (c2 := if ze = 0 ∧ ¬ (0 < kdO (pyt tp tl p4)) then 1 else ze) (by (repeat' split) <;> omega) (fun N1 s1 s2 => ?_)
                show hm_Wp _ _ _ _ _ _ _
                exact Z N1 s1 s2
              )
            · try (exfalso; omega)
              all_goals (
                refine q_aload gg149_117 rfl ?_
                first | refine z_getf gg149_118 rfl (by first | assumption | ((repeat (first | refine up_nj (by decide) ?_ | refine up_nk (by decide) ?_ | refine row_nk (by decide) ?_)); first | assumption | exact up_at)) ?_ | refine q_getf gg149_118 rfl ?_
                refine q_call1 gg149_121 tt145 rfl (Nat.le_of_ble_eq_true rfl) rfl (ls' := [some _]) rfl rfl ?_
                refine r_kindOf (by omega) (by omega) ?_
                show hm_Wp _ _ _ _ (_ :: _) _ _
                refine z_ifle gg149_124 (tg := 131) rfl (by omega) (fun c2 => ?_) (fun c2 => ?_)
                · try (exfalso; omega)
                  all_goals (
                    refine z_const gg149_131 (v := 0) rfl ?_
                    refine q_call2 gg149_132 tt148 rfl (Nat.le_of_ble_eq_true rfl) (hm_rv (by decide +kernel)) (ls' := [some _, some _]) rfl rfl ?_
                    refine r_mustE hB q1 (by omega) (by omega) (by decide) (c2 := if ze = 0 ∧ ¬ (0 < kdO (pyt tp tl p4)) then 1 else ze) (by (repeat' split) <;> omega) (fun N1 s1 s2 => ?_)
                    show hm_Wp _ _ _ _ _ _ _
                    exact Z N1 s1 s2
                  )
                · try (exfalso; omega)
                  all_goals (
                    refine z_const gg149_127 (v := 1) rfl ?_
                    refine q_goto gg149_128 (tg := 132) rfl ?_
                    refine q_call2 gg149_132 tt148 rfl (Nat.le_of_ble_eq_true rfl) (hm_rv (by decide +kernel)) (ls' := [some _, some _]) rfl rfl ?_
                    refine r_mustE hB q1 (by omega) (by omega) (by decide) (c2 := if ze = 0 ∧ ¬ (0 < kdO (pyt tp tl p4)) then 1 else ze) (by (repeat' split) <;> omega) (fun N1 s1 s2 => ?_)
                    show hm_Wp _ _ _ _ _ _ _
                    exact Z N1 s1 s2
                  )
              )
          )
      )
    · try (exfalso; omega)
      all_goals (
        refine q_aload gg149_44 rfl ?_
        first | refine z_getf gg149_45 rfl (by first | assumption | ((repeat (first | refine up_nj (by decide) ?_ | refine up_nk (by decide) ?_ | refine row_nk (by decide) ?_)); first | assumption | exact up_at)) ?_ | refine q_getf gg149_45 rfl ?_
        refine z_const gg149_48 (v := 107) rfl ?_
        refine z_icmpne gg149_50 (tg := 57) rfl (by omega) (by omega) (fun c2 => ?_) (fun c2 => ?_)
        · try (exfalso; omega)
          all_goals (
            refine z_const gg149_57 (v := 0) rfl ?_
            refine z_const gg149_58 (v := 1) rfl ?_
            refine q_call3 gg149_59 tt143 rfl (Nat.le_of_ble_eq_true rfl) (hm_rv (by decide +kernel)) (ls' := [some _, some _, some _, none]) rfl rfl ?_
            obtain ⟨vt, et⟩ := gS_fTk (s := 107) (by omega) (by first | exact Or.inl ⟨rfl, by omega⟩ | exact Or.inr ⟨rfl, by omega⟩) e0
            refine r_takes hB S0 (by decide) (by omega) (by decide) (by decide) (by decide) et (fun M1 m1 m2 => ?_)
            show hm_Wp _ _ _ _ (_ :: _) _ _
            have D1 : aw (M1 37) 53 0 20000 (fun _ => 0) := by rw [m2.1 37 (by decide)]; exact D0
            refine q_pop gg149_62 rfl ?_
            refine q_aload gg149_63 rfl ?_
            refine q_getr gg149_64 rfl ?_
            refine z_const gg149_67 (v := 0) rfl ?_
            refine q_aload gg149_68 rfl ?_
            refine z_const gg149_69 (v := 0) rfl ?_
            refine z_const gg149_70 (v := 9) rfl ?_
            refine q_call3 gg149_72 tt144 rfl (Nat.le_of_ble_eq_true rfl) (hm_rv (by decide +kernel)) (ls' := [some _, some _, some _]) rfl rfl ?_
            refine r_figure hB m1 (by omega) (by omega) (by decide) (by decide) (by decide) (by decide) e1 (fun M2 n1 n2 => ?_)
            show hm_Wp _ _ _ _ (_ :: _) _ _
            have D2 : aw (M2 37) 53 0 20000 (fun _ => 0) := by rw [n2.1 37 (by decide)]; exact D1
            refine hm_Wp.eqM (hm_row_self M2 37).symm ?_
            first | refine z_asr gg149_75 (by first | rfl | assumption) (by assumption) (by omega) (by omega) (by decide) (by omega) (by omega) (fun f75 h75 => ?_) | refine z_asx gg149_75 rfl (by omega) (by omega) (by decide) ?_ | refine z_asq gg149_75 rfl (by omega) (by omega) (by decide) ?_
            refine q_aload gg149_76 rfl ?_
            refine q_getr gg149_77 rfl ?_
            refine z_const gg149_80 (v := 1) rfl ?_
            refine q_aload gg149_81 rfl ?_
            refine z_const gg149_82 (v := 5) rfl ?_
            refine z_const gg149_83 (v := 60) rfl ?_
            refine q_call3 gg149_85 tt146 rfl (Nat.le_of_ble_eq_true rfl) (hm_rv (by decide +kernel)) (ls' := [some _, some _, some _]) rfl rfl ?_
            refine r_follows hB n1.row (by omega) (by omega) (by omega) (by omega) (by decide) (by decide) (by decide) (by decide) e2 e3 (fun M3 o1 o2 => ?_)
            show hm_Wp _ _ _ _ (_ :: _) _ _
            have D3 : aw (M3 37) 53 0 20000 (zup (fun _ => 0) 0 v1) := by rw [o2.1 37 (by decide), hm_row_same]; assumption
            have F3 : RD M M3 := ((F0.tr (m2.tr n2).rd).row).tr o2.rd
            refine hm_Wp.eqM (hm_row_self M3 37).symm ?_
            have htk := @tok_R tp tl p3
            have ht4 := @tok_4 tp tl p3
            have b11' := o1.2.1.2.2.1
            first | refine z_asr gg149_88 (by first | rfl | assumption) (by assumption) (by omega) (by omega) (by decide) (by omega) (by omega) (fun f88 h88 => ?_) | refine z_asx gg149_88 rfl (by omega) (by omega) (by decide) ?_ | refine z_asq gg149_88 rfl (by omega) (by omega) (by decide) ?_
            refine q_aload gg149_89 rfl ?_
            refine q_aload gg149_90 rfl ?_
            first | refine z_getf gg149_91 rfl (by first | assumption | ((repeat (first | refine up_nj (by decide) ?_ | refine up_nk (by decide) ?_ | refine row_nk (by decide) ?_)); first | assumption | exact up_at)) ?_ | refine q_getf gg149_91 rfl ?_
            refine z_const gg149_94 (v := 4) rfl ?_
            refine z_icmpne gg149_95 (tg := 102) rfl (by omega) (by omega) (fun c1 => ?_) (fun c1 => ?_)
            · try (exfalso; omega)
              all_goals (
                refine z_const gg149_102 (v := 0) rfl ?_
                refine z_const gg149_103 (v := 1) rfl ?_
                refine q_call3 gg149_104 tt143 rfl (Nat.le_of_ble_eq_true rfl) (hm_rv (by decide +kernel)) (ls' := [some _, some _, some _, none]) rfl rfl ?_
                obtain ⟨vt4, et4⟩ := gS_fTk (s := 59) (by omega) (by first | exact Or.inl ⟨rfl, by omega⟩ | exact Or.inr ⟨rfl, by omega⟩) e4
                refine r_takes hB o1.row (by omega) (by omega) (by decide) (by decide) (by decide) et4 (fun M4 q1 q2 => ?_)
                show hm_Wp _ _ _ _ (_ :: _) _ _
                have D4 : aw (M4 37) 53 0 20000 (mLaw v1 v3) := by rw [q2.1 37 (by decide), hm_row_same]; assumption
                have F4 : RD M M4 := F3.row.tr q2.rd
                have htk4 := @tok_R tp tl p4
                have htv4 := tvl_R (tp := tp) (k := p4) hB (by omega)
                have hkt := @kd_tok tp tl p4
                have hkr := @kdO_R (tvl tp tl p4)
                have hkp := @kdO_R (pyt tp tl p4)
                have hpr4 := pyt_R (tp := tp) (k := p4) hB (by omega)
                have a11 := q1.2.1.2.2.1
                have a12 := q1.2.1.2.2.2
                have Z : ∀ N1 : hm_M, RS N1 tp tl fk p4 (if ze = 0 ∧ ¬ (0 < kdO (pyt tp tl p4)) then 1 else ze) → RK M4 N1 → hm_Wp (d + 6) 149 135 [some (.inr (.inr 30)), some (.inl (zI x1))] [] N1 Q := by
                  intro N1 s1 s2
                  have D5 : aw (N1 37) 53 0 20000 (mLaw v1 v3) := by rw [s2.1 37 (by decide)]; exact D4
                  have F5 : RD M N1 := F4.tr s2.rd
                  by_cases hz : ze = 0
                  · subst hz
                    by_cases hkd : 0 < kdO (pyt tp tl p4)
                    · rw [if_neg (by omega)] at s1
                      exact LL 92 N1 p4 x1 (mLaw v1 v3) (by omega) (by omega) (by omega) s1 D5 hdr F5 (by rw [gL_step 91 rfl (by omega)]; exact e)
                    · rw [if_pos ⟨rfl, hkd⟩] at s1
                      unfold gB at e
                      rw [if_neg (by omega), if_pos (by omega), gL_bad 91 (by decide), Prod.mk.injEq, Prod.mk.injEq] at e
                      exact LB N1 p4 1 x1 (mLaw v1 v3) (by omega) (by omega) s1 D5 F5 (by decide) e.1.symm e.2.1.symm e.2.2.symm
                  · rw [if_neg (by omega)] at s1
                    unfold gB at e
                    rw [if_pos hz, gL_bad 91 hz, Prod.mk.injEq, Prod.mk.injEq] at e
                    exact LB N1 p4 ze x1 (mLaw v1 v3) (by omega) (by omega) s1 D5 F5 hz e.1.symm e.2.1.symm e.2.2.symm
                refine q_pop gg149_107 rfl ?_
                refine q_aload gg149_108 rfl ?_
                refine q_aload gg149_109 rfl ?_
                first | refine z_getf gg149_110 rfl (by first | assumption | ((repeat (first | refine up_nj (by decide) ?_ | refine up_nk (by decide) ?_ | refine row_nk (by decide) ?_)); first | assumption | exact up_at)) ?_ | refine q_getf gg149_110 rfl ?_
                refine z_const gg149_113 (v := 1) rfl ?_
                refine z_icmpne gg149_114 (tg := 131) rfl (by omega) (by omega) (fun c1 => ?_) (fun c1 => ?_)
                · try (exfalso; omega)
                  all_goals (
                    refine z_const gg149_131 (v := 0) rfl ?_
                    refine q_call2 gg149_132 tt148 rfl (Nat.le_of_ble_eq_true rfl) (hm_rv (by decide +kernel)) (ls' := [some _, some _]) rfl rfl ?_
                    refine r_mustE hB q1 (by omega) (by omega) (by decide) (c2 := if ze = 0 ∧ ¬ (0 < kdO (pyt tp tl p4)) then 1 else ze) (by (repeat' split) <;> omega) (fun N1 s1 s2 => ?_)
                    show hm_Wp _ _ _ _ _ _ _
                    exact Z N1 s1 s2
                  )
                · try (exfalso; omega)
                  all_goals (
                    refine q_aload gg149_117 rfl ?_
                    first | refine z_getf gg149_118 rfl (by first | assumption | ((repeat (first | refine up_nj (by decide) ?_ | refine up_nk (by decide) ?_ | refine row_nk (by decide) ?_)); first | assumption | exact up_at)) ?_ | refine q_getf gg149_118 rfl ?_
                    refine q_call1 gg149_121 tt145 rfl (Nat.le_of_ble_eq_true rfl) rfl (ls' := [some _]) rfl rfl ?_
                    refine r_kindOf (by omega) (by omega) ?_
                    show hm_Wp _ _ _ _ (_ :: _) _ _
                    refine z_ifle gg149_124 (tg := 131) rfl (by omega) (fun c2 => ?_) (fun c2 => ?_)
                    · try (exfalso; omega)
                      all_goals (
                        refine z_const gg149_131 (v := 0) rfl ?_
                        refine q_call2 gg149_132 tt148 rfl (Nat.le_of_ble_eq_true rfl) (hm_rv (by decide +kernel)) (ls' := [some _, some _]) rfl rfl ?_
                        refine r_mustE hB q1 (by omega) (by omega) (by decide) (c2 := if ze = 0 ∧ ¬ (0 < kdO (pyt tp tl p4)) then 1 else ze) (by (repeat' split) <;> omega) (fun N1 s1 s2 => ?_)
                        show hm_Wp _ _ _ _ _ _ _
                        exact Z N1 s1 s2
                      )
                    · try (exfalso; omega)
                      all_goals (
                        refine z_const gg149_127 (v := 1) rfl ?_
                        refine q_goto gg149_128 (tg := 132) rfl ?_
                        refine q_call2 gg149_132 tt148 rfl (Nat.le_of_ble_eq_true rfl) (hm_rv (by decide +kernel)) (ls' := [some _, some _]) rfl rfl ?_
                        refine r_mustE hB q1 (by omega) (by omega) (by decide) (c2 := if ze = 0 ∧ ¬ (0 < kdO (pyt tp tl p4)) then 1 else ze) (by (repeat' split) <;> omega) (fun N1 s1 s2 => ?_)
                        show hm_Wp _ _ _ _ _ _ _
                        exact Z N1 s1 s2
                      )
                  )
              )
            · try (exfalso; omega)
              all_goals (
                refine z_const gg149_98 (v := 1) rfl ?_
                refine q_goto gg149_99 (tg := 103) rfl ?_
                refine z_const gg149_103 (v := 1) rfl ?_
                refine q_call3 gg149_104 tt143 rfl (Nat.le_of_ble_eq_true rfl) (hm_rv (by decide +kernel)) (ls' := [some _, some _, some _, none]) rfl rfl ?_
                obtain ⟨vt4, et4⟩ := gS_fTk (s := 59) (by omega) (by first | exact Or.inl ⟨rfl, by omega⟩ | exact Or.inr ⟨rfl, by omega⟩) e4
                refine r_takes hB o1.row (by omega) (by omega) (by decide) (by decide) (by decide) et4 (fun M4 q1 q2 => ?_)
                show hm_Wp _ _ _ _ (_ :: _) _ _
                have D4 : aw (M4 37) 53 0 20000 (mLaw v1 v3) := by rw [q2.1 37 (by decide), hm_row_same]; assumption
                have F4 : RD M M4 := F3.row.tr q2.rd
                have htk4 := @tok_R tp tl p4
                have htv4 := tvl_R (tp := tp) (k := p4) hB (by omega)
                have hkt := @kd_tok tp tl p4
                have hkr := @kdO_R (tvl tp tl p4)
                have hkp := @kdO_R (pyt tp tl p4)
                have hpr4 := pyt_R (tp := tp) (k := p4) hB (by omega)
                have a11 := q1.2.1.2.2.1
                have a12 := q1.2.1.2.2.2
                have Z : ∀ N1 : hm_M, RS N1 tp tl fk p4 (if ze = 0 ∧ ¬ (0 < kdO (pyt tp tl p4)) then 1 else ze) → RK M4 N1 → hm_Wp (d + 6) 149 135 [some (.inr (.inr 30)), some (.inl (zI x1))] [] N1 Q := by
                  intro N1 s1 s2
                  have D5 : aw (N1 37) 53 0 20000 (mLaw v1 v3) := by rw [s2.1 37 (by decide)]; exact D4
                  have F5 : RD M N1 := F4.tr s2.rd
                  by_cases hz : ze = 0
                  · subst hz
                    by_cases hkd : 0 < kdO (pyt tp tl p4)
                    · rw [if_neg (by omega)] at s1
                      exact LL 92 N1 p4 x1 (mLaw v1 v3) (by omega) (by omega) (by omega) s1 D5 hdr F5 (by rw [gL_step 91 rfl (by omega)]; exact e)
                    · rw [if_pos ⟨rfl, hkd⟩] at s1
                      unfold gB at e
                      rw [if_neg (by omega), if_pos (by omega), gL_bad 91 (by decide), Prod.mk.injEq, Prod.mk.injEq] at e
                      exact LB N1 p4 1 x1 (mLaw v1 v3) (by omega) (by omega) s1 D5 F5 (by decide) e.1.symm e.2.1.symm e.2.2.symm
                  · rw [if_neg (by omega)] at s1
                    unfold gB at e
                    rw [if_pos hz, gL_bad 91 hz, Prod.mk.injEq, Prod.mk.injEq] at e
                    exact LB N1 p4 ze x1 (mLaw v1 v3) (by omega) (by omega) s1 D5 F5 hz e.1.symm e.2.1.symm e.2.2.symm
                refine q_pop gg149_107 rfl ?_
                refine q_aload gg149_108 rfl ?_
                refine q_aload gg149_109 rfl ?_
                first | refine z_getf gg149_110 rfl (by first | assumption | ((repeat (first | refine up_nj (by decide) ?_ | refine up_nk (by decide) ?_ | refine row_nk (by decide) ?_)); first | assumption | exact up_at)) ?_ | refine q_getf gg149_110 rfl ?_
                refine z_const gg149_113 (v := 1) rfl ?_
                refine z_icmpne gg149_114 (tg := 131) rfl (by omega) (by omega) (fun c1 => ?_) (fun c1 => ?_)
                · try (exfalso; omega)
                  all_goals (
                    refine z_const gg149_131 (v := 0) rfl ?_
                    refine q_call2 gg149_132 tt148 rfl (Nat.le_of_ble_eq_true rfl) (hm_rv (by decide +kernel)) (ls' := [some _, some _]) rfl rfl ?_
                    refine r_mustE hB q1 (by omega) (by omega) (by decide) (c2 := if ze = 0 ∧ ¬ (0 < kdO (pyt tp tl p4)) then 1 else ze) (by (repeat' split) <;> omega) (fun N1 s1 s2 => ?_)
                    show hm_Wp _ _ _ _ _ _ _
                    exact Z N1 s1 s2
                  )
                · try (exfalso; omega)
                  all_goals (
                    refine q_aload gg149_117 rfl ?_
                    first | refine z_getf gg149_118 rfl (by first | assumption | ((repeat (first | refine up_nj (by decide) ?_ | refine up_nk (by decide) ?_ | refine row_nk (by decide) ?_)); first | assumption | exact up_at)) ?_ | refine q_getf gg149_118 rfl ?_
                    refine q_call1 gg149_121 tt145 rfl (Nat.le_of_ble_eq_true rfl) rfl (ls' := [some _]) rfl rfl ?_
                    refine r_kindOf (by omega) (by omega) ?_
                    show hm_Wp _ _ _ _ (_ :: _) _ _
                    refine z_ifle gg149_124 (tg := 131) rfl (by omega) (fun c2 => ?_) (fun c2 => ?_)
                    · try (exfalso; omega)
                      all_goals (
                        refine z_const gg149_131 (v := 0) rfl ?_
                        refine q_call2 gg149_132 tt148 rfl (Nat.le_of_ble_eq_true rfl) (hm_rv (by decide +kernel)) (ls' := [some _, some _]) rfl rfl ?_
                        refine r_mustE hB q1 (by omega) (by omega) (by decide) (c2 := if ze = 0 ∧ ¬ (0 < kdO (pyt tp tl p4)) then 1 else ze) (by (repeat' split) <;> omega) (fun N1 s1 s2 => ?_)
                        show hm_Wp _ _ _ _ _ _ _
                        exact Z N1 s1 s2
                      )
                    · try (exfalso; omega)
                      all_goals (
                        refine z_const gg149_127 (v := 1) rfl ?_
                        refine q_goto gg149_128 (tg := 132) rfl ?_
                        refine q_call2 gg149_132 tt148 rfl (Nat.le_of_ble_eq_true rfl) (hm_rv (by decide +kernel)) (ls' := [some _, some _]) rfl rfl ?_
                        refine r_mustE hB q1 (by omega) (by omega) (by decide) (c2 := if ze = 0 ∧ ¬ (0 < kdO (pyt tp tl p4)) then 1 else ze) (by (repeat' split) <;> omega) (fun N1 s1 s2 => ?_)
                        show hm_Wp _ _ _ _ _ _ _
                        exact Z N1 s1 s2
                      )
                  )
              )
          )
        · try (exfalso; omega)
          all_goals (
            refine z_const gg149_53 (v := 1) rfl ?_
            refine q_goto gg149_54 (tg := 58) rfl ?_
            refine z_const gg149_58 (v := 1) rfl ?_
            refine q_call3 gg149_59 tt143 rfl (Nat.le_of_ble_eq_true rfl) (hm_rv (by decide +kernel)) (ls' := [some _, some _, some _, none]) rfl rfl ?_
            obtain ⟨vt, et⟩ := gS_fTk (s := 107) (by omega) (by first | exact Or.inl ⟨rfl, by omega⟩ | exact Or.inr ⟨rfl, by omega⟩) e0
            refine r_takes hB S0 (by decide) (by omega) (by decide) (by decide) (by decide) et (fun M1 m1 m2 => ?_)
            show hm_Wp _ _ _ _ (_ :: _) _ _
            have D1 : aw (M1 37) 53 0 20000 (fun _ => 0) := by rw [m2.1 37 (by decide)]; exact D0
            refine q_pop gg149_62 rfl ?_
            refine q_aload gg149_63 rfl ?_
            refine q_getr gg149_64 rfl ?_
            refine z_const gg149_67 (v := 0) rfl ?_
            refine q_aload gg149_68 rfl ?_
            refine z_const gg149_69 (v := 0) rfl ?_
            refine z_const gg149_70 (v := 9) rfl ?_
            refine q_call3 gg149_72 tt144 rfl (Nat.le_of_ble_eq_true rfl) (hm_rv (by decide +kernel)) (ls' := [some _, some _, some _]) rfl rfl ?_
            refine r_figure hB m1 (by omega) (by omega) (by decide) (by decide) (by decide) (by decide) e1 (fun M2 n1 n2 => ?_)
            show hm_Wp _ _ _ _ (_ :: _) _ _
            have D2 : aw (M2 37) 53 0 20000 (fun _ => 0) := by rw [n2.1 37 (by decide)]; exact D1
            refine hm_Wp.eqM (hm_row_self M2 37).symm ?_
            first | refine z_asr gg149_75 (by first | rfl | assumption) (by assumption) (by omega) (by omega) (by decide) (by omega) (by omega) (fun f75 h75 => ?_) | refine z_asx gg149_75 rfl (by omega) (by omega) (by decide) ?_ | refine z_asq gg149_75 rfl (by omega) (by omega) (by decide) ?_
            refine q_aload gg149_76 rfl ?_
            refine q_getr gg149_77 rfl ?_
            refine z_const gg149_80 (v := 1) rfl ?_
            refine q_aload gg149_81 rfl ?_
            refine z_const gg149_82 (v := 5) rfl ?_
            refine z_const gg149_83 (v := 60) rfl ?_
            refine q_call3 gg149_85 tt146 rfl (Nat.le_of_ble_eq_true rfl) (hm_rv (by decide +kernel)) (ls' := [some _, some _, some _]) rfl rfl ?_
            refine r_follows hB n1.row (by omega) (by omega) (by omega) (by omega) (by decide) (by decide) (by decide) (by decide) e2 e3 (fun M3 o1 o2 => ?_)
            show hm_Wp _ _ _ _ (_ :: _) _ _
            have D3 : aw (M3 37) 53 0 20000 (zup (fun _ => 0) 0 v1) := by rw [o2.1 37 (by decide), hm_row_same]; assumption
            have F3 : RD M M3 := ((F0.tr (m2.tr n2).rd).row).tr o2.rd
            refine hm_Wp.eqM (hm_row_self M3 37).symm ?_
            have htk := @tok_R tp tl p3
            have ht4 := @tok_4 tp tl p3
            have b11' := o1.2.1.2.2.1
            first | refine z_asr gg149_88 (by first | rfl | assumption) (by assumption) (by omega) (by omega) (by decide) (by omega) (by omega) (fun f88 h88 => ?_) | refine z_asx gg149_88 rfl (by omega) (by omega) (by decide) ?_ | refine z_asq gg149_88 rfl (by omega) (by omega) (by decide) ?_
            refine q_aload gg149_89 rfl ?_
            refine q_aload gg149_90 rfl ?_
            first | refine z_getf gg149_91 rfl (by first | assumption | ((repeat (first | refine up_nj (by decide) ?_ | refine up_nk (by decide) ?_ | refine row_nk (by decide) ?_)); first | assumption | exact up_at)) ?_ | refine q_getf gg149_91 rfl ?_
            refine z_const gg149_94 (v := 4) rfl ?_
            refine z_icmpne gg149_95 (tg := 102) rfl (by omega) (by omega) (fun c1 => ?_) (fun c1 => ?_)
            · try (exfalso; omega)
              all_goals (
                refine z_const gg149_102 (v := 0) rfl ?_
                refine z_const gg149_103 (v := 1) rfl ?_
                refine q_call3 gg149_104 tt143 rfl (Nat.le_of_ble_eq_true rfl) (hm_rv (by decide +kernel)) (ls' := [some _, some _, some _, none]) rfl rfl ?_
                obtain ⟨vt4, et4⟩ := gS_fTk (s := 59) (by omega) (by first | exact Or.inl ⟨rfl, by omega⟩ | exact Or.inr ⟨rfl, by omega⟩) e4
                refine r_takes hB o1.row (by omega) (by omega) (by decide) (by decide) (by decide) et4 (fun M4 q1 q2 => ?_)
                show hm_Wp _ _ _ _ (_ :: _) _ _
                have D4 : aw (M4 37) 53 0 20000 (mLaw v1 v3) := by rw [q2.1 37 (by decide), hm_row_same]; assumption
                have F4 : RD M M4 := F3.row.tr q2.rd
                have htk4 := @tok_R tp tl p4
                have htv4 := tvl_R (tp := tp) (k := p4) hB (by omega)
                have hkt := @kd_tok tp tl p4
                have hkr := @kdO_R (tvl tp tl p4)
                have hkp := @kdO_R (pyt tp tl p4)
                have hpr4 := pyt_R (tp := tp) (k := p4) hB (by omega)
                have a11 := q1.2.1.2.2.1
                have a12 := q1.2.1.2.2.2
                have Z : ∀ N1 : hm_M, RS N1 tp tl fk p4 (if ze = 0 ∧ ¬ (0 < kdO (pyt tp tl p4)) then 1 else ze) → RK M4 N1 → hm_Wp (d + 6) 149 135 [some (.inr (.inr 30)), some (.inl (zI x1))] [] N1 Q := by
                  intro N1 s1 s2
                  have D5 : aw (N1 37) 53 0 20000 (mLaw v1 v3) := by rw [s2.1 37 (by decide)]; exact D4
                  have F5 : RD M N1 := F4.tr s2.rd
                  by_cases hz : ze = 0
                  · subst hz
                    by_cases hkd : 0 < kdO (pyt tp tl p4)
                    · rw [if_neg (by omega)] at s1
                      exact LL 92 N1 p4 x1 (mLaw v1 v3) (by omega) (by omega) (by omega) s1 D5 hdr F5 (by rw [gL_step 91 rfl (by omega)]; exact e)
                    · rw [if_pos ⟨rfl, hkd⟩] at s1
                      unfold gB at e
                      rw [if_neg (by omega), if_pos (by omega), gL_bad 91 (by decide), Prod.mk.injEq, Prod.mk.injEq] at e
                      exact LB N1 p4 1 x1 (mLaw v1 v3) (by omega) (by omega) s1 D5 F5 (by decide) e.1.symm e.2.1.symm e.2.2.symm
                  · rw [if_neg (by omega)] at s1
                    unfold gB at e
                    rw [if_pos hz, gL_bad 91 hz, Prod.mk.injEq, Prod.mk.injEq] at e
                    exact LB N1 p4 ze x1 (mLaw v1 v3) (by omega) (by omega) s1 D5 F5 hz e.1.symm e.2.1.symm e.2.2.symm
                refine q_pop gg149_107 rfl ?_
                refine q_aload gg149_108 rfl ?_
                refine q_aload gg149_109 rfl ?_
                first | refine z_getf gg149_110 rfl (by first | assumption | ((repeat (first | refine up_nj (by decide) ?_ | refine up_nk (by decide) ?_ | refine row_nk (by decide) ?_)); first | assumption | exact up_at)) ?_ | refine q_getf gg149_110 rfl ?_
                refine z_const gg149_113 (v := 1) rfl ?_
                refine z_icmpne gg149_114 (tg := 131) rfl (by omega) (by omega) (fun c1 => ?_) (fun c1 => ?_)
                · try (exfalso; omega)
                  all_goals (
                    refine z_const gg149_131 (v := 0) rfl ?_
                    refine q_call2 gg149_132 tt148 rfl (Nat.le_of_ble_eq_true rfl) (hm_rv (by decide +kernel)) (ls' := [some _, some _]) rfl rfl ?_
                    refine r_mustE hB q1 (by omega) (by omega) (by decide) (c2 := if ze = 0 ∧ ¬ (0 < kdO (pyt tp tl p4)) then 1 else ze) (by (repeat' split) <;> omega) (fun N1 s1 s2 => ?_)
                    show hm_Wp _ _ _ _ _ _ _
                    exact Z N1 s1 s2
                  )
                · try (exfalso; omega)
                  all_goals (
                    refine q_aload gg149_117 rfl ?_
                    first | refine z_getf gg149_118 rfl (by first | assumption | ((repeat (first | refine up_nj (by decide) ?_ | refine up_nk (by decide) ?_ | refine row_nk (by decide) ?_)); first | assumption | exact up_at)) ?_ | refine q_getf gg149_118 rfl ?_
                    refine q_call1 gg149_121 tt145 rfl (Nat.le_of_ble_eq_true rfl) rfl (ls' := [some _]) rfl rfl ?_
                    refine r_kindOf (by omega) (by omega) ?_
                    show hm_Wp _ _ _ _ (_ :: _) _ _
                    refine z_ifle gg149_124 (tg := 131) rfl (by omega) (fun c2 => ?_) (fun c2 => ?_)
                    · try (exfalso; omega)
                      all_goals (
                        refine z_const gg149_131 (v := 0) rfl ?_
                        refine q_call2 gg149_132 tt148 rfl (Nat.le_of_ble_eq_true rfl) (hm_rv (by decide +kernel)) (ls' := [some _, some _]) rfl rfl ?_
                        refine r_mustE hB q1 (by omega) (by omega) (by decide) (c2 := if ze = 0 ∧ ¬ (0 < kdO (pyt tp tl p4)) then 1 else ze) (by (repeat' split) <;> omega) (fun N1 s1 s2 => ?_)
                        show hm_Wp _ _ _ _ _ _ _
                        exact Z N1 s1 s2
                      )
                    · try (exfalso; omega)
                      all_goals (
                        refine z_const gg149_127 (v := 1) rfl ?_
                        refine q_goto gg149_128 (tg := 132) rfl ?_
                        refine q_call2 gg149_132 tt148 rfl (Nat.le_of_ble_eq_true rfl) (hm_rv (by decide +kernel)) (ls' := [some _, some _]) rfl rfl ?_
                        refine r_mustE hB q1 (by omega) (by omega) (by decide) (c2 := if ze = 0 ∧ ¬ (0 < kdO (pyt tp tl p4)) then 1 else ze) (by (repeat' split) <;> omega) (fun N1 s1 s2 => ?_)
                        show hm_Wp _ _ _ _ _ _ _
                        exact Z N1 s1 s2
                      )
                  )
              )
            · try (exfalso; omega)
              all_goals (
                refine z_const gg149_98 (v := 1) rfl ?_
                refine q_goto gg149_99 (tg := 103) rfl ?_
                refine z_const gg149_103 (v := 1) rfl ?_
                refine q_call3 gg149_104 tt143 rfl (Nat.le_of_ble_eq_true rfl) (hm_rv (by decide +kernel)) (ls' := [some _, some _, some _, none]) rfl rfl ?_
                obtain ⟨vt4, et4⟩ := gS_fTk (s := 59) (by omega) (by first | exact Or.inl ⟨rfl, by omega⟩ | exact Or.inr ⟨rfl, by omega⟩) e4
                refine r_takes hB o1.row (by omega) (by omega) (by decide) (by decide) (by decide) et4 (fun M4 q1 q2 => ?_)
                show hm_Wp _ _ _ _ (_ :: _) _ _
                have D4 : aw (M4 37) 53 0 20000 (mLaw v1 v3) := by rw [q2.1 37 (by decide), hm_row_same]; assumption
                have F4 : RD M M4 := F3.row.tr q2.rd
                have htk4 := @tok_R tp tl p4
                have htv4 := tvl_R (tp := tp) (k := p4) hB (by omega)
                have hkt := @kd_tok tp tl p4
                have hkr := @kdO_R (tvl tp tl p4)
                have hkp := @kdO_R (pyt tp tl p4)
                have hpr4 := pyt_R (tp := tp) (k := p4) hB (by omega)
                have a11 := q1.2.1.2.2.1
                have a12 := q1.2.1.2.2.2
                have Z : ∀ N1 : hm_M, RS N1 tp tl fk p4 (if ze = 0 ∧ ¬ (0 < kdO (pyt tp tl p4)) then 1 else ze) → RK M4 N1 → hm_Wp (d + 6) 149 135 [some (.inr (.inr 30)), some (.inl (zI x1))] [] N1 Q := by
                  intro N1 s1 s2
                  have D5 : aw (N1 37) 53 0 20000 (mLaw v1 v3) := by rw [s2.1 37 (by decide)]; exact D4
                  have F5 : RD M N1 := F4.tr s2.rd
                  by_cases hz : ze = 0
                  · subst hz
                    by_cases hkd : 0 < kdO (pyt tp tl p4)
                    · rw [if_neg (by omega)] at s1
                      exact LL 92 N1 p4 x1 (mLaw v1 v3) (by omega) (by omega) (by omega) s1 D5 hdr F5 (by rw [gL_step 91 rfl (by omega)]; exact e)
                    · rw [if_pos ⟨rfl, hkd⟩] at s1
                      unfold gB at e
                      rw [if_neg (by omega), if_pos (by omega), gL_bad 91 (by decide), Prod.mk.injEq, Prod.mk.injEq] at e
                      exact LB N1 p4 1 x1 (mLaw v1 v3) (by omega) (by omega) s1 D5 F5 (by decide) e.1.symm e.2.1.symm e.2.2.symm
                  · rw [if_neg (by omega)] at s1
                    unfold gB at e
                    rw [if_pos hz, gL_bad 91 hz, Prod.mk.injEq, Prod.mk.injEq] at e
                    exact LB N1 p4 ze x1 (mLaw v1 v3) (by omega) (by omega) s1 D5 F5 hz e.1.symm e.2.1.symm e.2.2.symm
                refine q_pop gg149_107 rfl ?_
                refine q_aload gg149_108 rfl ?_
                refine q_aload gg149_109 rfl ?_
                first | refine z_getf gg149_110 rfl (by first | assumption | ((repeat (first | refine up_nj (by decide) ?_ | refine up_nk (by decide) ?_ | refine row_nk (by decide) ?_)); first | assumption | exact up_at)) ?_ | refine q_getf gg149_110 rfl ?_
                refine z_const gg149_113 (v := 1) rfl ?_
                refine z_icmpne gg149_114 (tg := 131) rfl (by omega) (by omega) (fun c1 => ?_) (fun c1 => ?_)
                · try (exfalso; omega)
                  all_goals (
                    refine z_const gg149_131 (v := 0) rfl ?_
                    refine q_call2 gg149_132 tt148 rfl (Nat.le_of_ble_eq_true rfl) (hm_rv (by decide +kernel)) (ls' := [some _, some _]) rfl rfl ?_
                    refine r_mustE hB q1 (by omega) (by omega) (by decide) (c2 := if ze = 0 ∧ ¬ (0 < kdO (pyt tp tl p4)) then 1 else ze) (by (repeat' split) <;> omega) (fun N1 s1 s2 => ?_)
                    show hm_Wp _ _ _ _ _ _ _
                    exact Z N1 s1 s2
                  )
                · try (exfalso; omega)
                  all_goals (
                    refine q_aload gg149_117 rfl ?_
                    first | refine z_getf gg149_118 rfl (by first | assumption | ((repeat (first | refine up_nj (by decide) ?_ | refine up_nk (by decide) ?_ | refine row_nk (by decide) ?_)); first | assumption | exact up_at)) ?_ | refine q_getf gg149_118 rfl ?_
                    refine q_call1 gg149_121 tt145 rfl (Nat.le_of_ble_eq_true rfl) rfl (ls' := [some _]) rfl rfl ?_
                    refine r_kindOf (by omega) (by omega) ?_
                    show hm_Wp _ _ _ _ (_ :: _) _ _
                    refine z_ifle gg149_124 (tg := 131) rfl (by omega) (fun c2 => ?_) (fun c2 => ?_)
                    · try (exfalso; omega)
                      all_goals (
                        refine z_const gg149_131 (v := 0) rfl ?_
                        refine q_call2 gg149_132 tt148 rfl (Nat.le_of_ble_eq_true rfl) (hm_rv (by decide +kernel)) (ls' := [some _, some _]) rfl rfl ?_
                        refine r_mustE hB q1 (by omega) (by omega) (by decide) (c2 := if ze = 0 ∧ ¬ (0 < kdO (pyt tp tl p4)) then 1 else ze) (by (repeat' split) <;> omega) (fun N1 s1 s2 => ?_)
                        show hm_Wp _ _ _ _ _ _ _
                        exact Z N1 s1 s2
                      )
                    · try (exfalso; omega)
                      all_goals (
                        refine z_const gg149_127 (v := 1) rfl ?_
                        refine q_goto gg149_128 (tg := 132) rfl ?_
                        refine q_call2 gg149_132 tt148 rfl (Nat.le_of_ble_eq_true rfl) (hm_rv (by decide +kernel)) (ls' := [some _, some _]) rfl rfl ?_
                        refine r_mustE hB q1 (by omega) (by omega) (by decide) (c2 := if ze = 0 ∧ ¬ (0 < kdO (pyt tp tl p4)) then 1 else ze) (by (repeat' split) <;> omega) (fun N1 s1 s2 => ?_)
                        show hm_Wp _ _ _ _ _ _ _
                        exact Z N1 s1 s2
                      )
                  )
              )
          )
      )
  have L1 : ∀ (m : Nat) (i : Int) (f : Nat → Int32), 0 ≤ i → i + m = 53 → (∀ j : Int, 0 ≤ j → j < i → f j.toNat = zI 0) → hm_Wp (d + 6) 149 2 [some (.inr (.inr 30)), some (.inl (zI i))] [] (hm_row M 37 f) Q := by
    intro m
    induction m with
    | zero =>
      intro i f i0 im hf
      refine q_iload gg149_2 rfl ?_
      refine z_const gg149_3 (v := 53) rfl ?_
      refine z_icmpge gg149_5 (tg := 21) rfl (by omega) (by omega) (fun c1 => ?_) (fun z => absurd z (by omega))
      exact LK f i (fun j j0 j1 => ⟨hf j j0 (by omega), by dsimp only; decide, by dsimp only; decide⟩)
    | succ m ih =>
      intro i f i0 im hf
      refine q_iload gg149_2 rfl ?_
      refine z_const gg149_3 (v := 53) rfl ?_
      refine z_icmpge gg149_5 (tg := 21) rfl (by omega) (by omega) (fun z => absurd z (by omega)) (fun c1 => ?_)
      refine q_aload gg149_8 rfl ?_
      refine q_getr gg149_9 rfl ?_
      refine q_iload gg149_12 rfl ?_
      refine z_const gg149_13 (v := 0) rfl ?_
      first | refine z_asr gg149_14 (by first | rfl | assumption) (by assumption) (by omega) (by omega) (by decide) (by omega) (by omega) (fun f14 h14 => ?_) | refine z_asx gg149_14 rfl (by omega) (by omega) (by decide) ?_ | refine z_asq gg149_14 rfl (by omega) (by omega) (by decide) ?_
      refine hm_Wp.eqM (hm_row_row _ _ _ _) ?_
      refine z_iinc gg149_15 rfl rfl ?_
      refine q_goto gg149_18 (tg := 2) rfl ?_
      refine ih (i + 1) _ (by omega) (by omega) (fun j j0 j1 => ?_)
      rw [hm_row_same]
      simp only [upd]
      by_cases hj : j = i
      · subst hj; rw [if_pos rfl]
      · rw [if_neg (by omega)]; exact hf j j0 (by omega)
  refine hm_Wp.eqM (hm_row_self M 37).symm ?_
  refine z_const gg149_0 (v := 0) rfl ?_
  refine q_istore gg149_1 rfl ?_
  exact L1 53 0 (M 37) (by decide) (by decide) (fun j j0 j1 => absurd j1 (by omega))
end P5
