section A1
variable {d r mid pc nx k : Nat} {M N : hm_M} {w v w0 g : Int → Int} {b n e x a s y c q i p na nxt : Int} {f F : Nat → Int32} {pa im : Int → Int → Int} {Q : Option hm_V → hm_M → Prop}
/-- the 35 words of a hob -/
def enc (f : Nat → Int32) (o : Int) (w : Int → Int) : Prop := f (o + 28).toNat = zI (w 2) ∧ f (o + 29).toNat = zI (w 0) ∧ f (o + 30).toNat = zI (w 1) ∧ f (o + 31).toNat = zI (w 3) ∧ f (o + 32).toNat = zI (bsum (mFlag w 4) 7) ∧ f (o + 33).toNat = zI (bsum (mFlag w 5) 7) ∧ f (o + 34).toNat = zI (bsum (mFlag w 6) 7) ∧ (∀ b : Int, 0 ≤ b → b < w 2 → f (o + b).toNat = zI (w (4 + 7 * b)) ∧ f (o + 7 + b).toNat = zI (w (4 + 7 * b + 1)) ∧ f (o + 14 + b).toNat = zI (w (4 + 7 * b + 2)) ∧ f (o + 21 + b).toNat = zI (w (4 + 7 * b + 3)))
theorem enc.cg {f f' : Nat → Int32} {o : Int} (h : enc f o w) (hn : w 2 ≤ 7) (ho : 0 ≤ o) (hf : ∀ i : Int, o ≤ i → i < o + 35 → f' i.toNat = f i.toNat) : enc f' o w := by
  obtain ⟨h1, h2, h3, h4, h5, h6, h7, h8⟩ := h
  refine ⟨(hf _ (by omega) (by omega)).trans h1, (hf _ (by omega) (by omega)).trans h2, (hf _ (by omega) (by omega)).trans h3, (hf _ (by omega) (by omega)).trans h4, (hf _ (by omega) (by omega)).trans h5, (hf _ (by omega) (by omega)).trans h6, (hf _ (by omega) (by omega)).trans h7, fun b b0 b1 => ?_⟩
  obtain ⟨g1, g2, g3, g4⟩ := h8 b b0 b1
  exact ⟨(hf _ (by omega) (by omega)).trans g1, (hf _ (by omega) (by omega)).trans g2, (hf _ (by omega) (by omega)).trans g3, (hf _ (by omega) (by omega)).trans g4⟩
theorem enc_wr {k0 k1 k2 k3 f : Nat → Int32} {z28 z29 z30 z31 z32 z33 z34 : Int32} (hs0 : 0 ≤ s) (hn : w 2 ≤ 7) (a1 : aw k0 (w 2) 0 20000 (fun b => w (4 + 7 * b))) (a2 : aw k1 (w 2) 0 20000 (fun b => w (4 + 7 * b + 1))) (a3 : aw k2 (w 2) 0 20000 (fun b => w (4 + 7 * b + 2))) (a4 : aw k3 (w 2) 0 20000 (fun b => w (4 + 7 * b + 3)))
    (e28 : z28 = zI (w 2)) (e29 : z29 = zI (w 0)) (e30 : z30 = zI (w 1)) (e31 : z31 = zI (w 3)) (e32 : z32 = zI (bsum (mFlag w 4) 7)) (e33 : z33 = zI (bsum (mFlag w 5) 7)) (e34 : z34 = zI (bsum (mFlag w 6) 7))
    (hF : F = upd (upd (upd (upd (upd (upd (upd (va_cpy k3 (va_cpy k2 (va_cpy k1 (va_cpy k0 f (Int.toNat 0) s.toNat (Int.toNat 7)) (Int.toNat 0) (s + 7).toNat (Int.toNat 7)) (Int.toNat 0) (s + 7 + 7).toNat (Int.toNat 7)) (Int.toNat 0) (s + 7 + 7 + 7).toNat (Int.toNat 7)) (s + 7 + 7 + 7 + 7).toNat z28) (s + 7 + 7 + 7 + 7 + 1).toNat z29) (s + 7 + 7 + 7 + 7 + 2).toNat z30) (s + 7 + 7 + 7 + 7 + 3).toNat z31) (s + 7 + 7 + 7 + 7 + 4).toNat z32) (s + 7 + 7 + 7 + 7 + 5).toNat z33) (s + 7 + 7 + 7 + 7 + 6).toNat z34) :
    enc F s w ∧ ∀ i : Int, 0 ≤ i → (i < s ∨ s + 35 ≤ i) → F i.toNat = f i.toNat := by
  subst hF
  subst e28 e29 e30 e31 e32 e33 e34
  have t7 : Int.toNat 7 = 7 := rfl
  have t0 : Int.toNat 0 = 0 := rfl
  refine ⟨⟨?_, ?_, ?_, ?_, ?_, ?_, ?_, fun b b0 b1 => ⟨?_, ?_, ?_, ?_⟩⟩, fun i i0 hi => ?_⟩
  · simp only [upd]; repeat (first | rw [if_pos (by omega)] | rw [if_neg (by omega)])
  · simp only [upd]; repeat (first | rw [if_pos (by omega)] | rw [if_neg (by omega)])
  · simp only [upd]; repeat (first | rw [if_pos (by omega)] | rw [if_neg (by omega)])
  · simp only [upd]; repeat (first | rw [if_pos (by omega)] | rw [if_neg (by omega)])
  · simp only [upd]; repeat (first | rw [if_pos (by omega)] | rw [if_neg (by omega)])
  · simp only [upd]; repeat (first | rw [if_pos (by omega)] | rw [if_neg (by omega)])
  · simp only [upd]; repeat (first | rw [if_pos (by omega)] | rw [if_neg (by omega)])
  · simp only [upd, va_cpy, t7, t0]; repeat (first | rw [if_pos (by omega)] | rw [if_neg (by omega)])
    rw [← (a1 b b0 b1).1]; congr 1; omega
  · simp only [upd, va_cpy, t7, t0]; repeat (first | rw [if_pos (by omega)] | rw [if_neg (by omega)])
    rw [← (a2 b b0 b1).1]; congr 1; omega
  · simp only [upd, va_cpy, t7, t0]; repeat (first | rw [if_pos (by omega)] | rw [if_neg (by omega)])
    rw [← (a3 b b0 b1).1]; congr 1; omega
  · simp only [upd, va_cpy, t7, t0]; repeat (first | rw [if_pos (by omega)] | rw [if_neg (by omega)])
    rw [← (a4 b b0 b1).1]; congr 1; omega
  · simp only [upd, va_cpy, t7, t0]; repeat (first | rw [if_pos (by omega)] | rw [if_neg (by omega)])
theorem c_writeTo (hk : k = 18 ∨ k = 20) (h : Hb M 7 w) (hn : w 2 ≤ 7) (hs0 : 0 ≤ s) (hs : s + 35 ≤ (if k = 18 then 840 else 70)) (kk : ∀ f', enc f' s w → (∀ i : Int, 0 ≤ i → (i < s ∨ s + 35 ≤ i) → f' i.toNat = M k i.toNat) → Q none (hm_row M k f')) : hm_Wp (d + 1) 39 0 [some (.inr (.inr 7)), some (.inr (.inr k)), some (.inl (zI s)), none] [] M Q := by
  obtain ⟨⟨h4, h5, h6, h8, h9, h10, a1, a2, a4⟩, h7, a3⟩ := h
  rcases hk with rfl | rfl
  · simp only [if_true] at hs
    have key := fun F hF => enc_wr (F := F) (f := M 18) hs0 hn a1 a2 a3 a4 rfl rfl rfl rfl rfl rfl rfl hF
    refine q_iload gg39_0 rfl ?_
    refine q_istore gg39_1 rfl ?_
    refine q_aload gg39_2 rfl ?_
    refine q_getr gg39_3 rfl ?_
    refine z_const gg39_6 (v := 0) rfl ?_
    refine q_aload gg39_7 rfl ?_
    refine q_iload gg39_8 rfl ?_
    refine z_const gg39_9 (v := 7) rfl ?_
    refine z_copy gg39_11 rfl rfl (by omega) (by omega) (by omega) (by omega) (by omega) (by decide) (by decide) ?_
    refine z_iinc gg39_14 rfl rfl ?_
    refine q_aload gg39_17 rfl ?_
    refine q_getr gg39_18 rfl ?_
    refine z_const gg39_21 (v := 0) rfl ?_
    refine q_aload gg39_22 rfl ?_
    refine q_iload gg39_23 rfl ?_
    refine z_const gg39_24 (v := 7) rfl ?_
    refine z_copy gg39_26 rfl rfl (by omega) (by omega) (by omega) (by omega) (by omega) (by decide) (by decide) ?_
    refine z_iinc gg39_29 rfl rfl ?_
    refine q_aload gg39_32 rfl ?_
    refine q_getr gg39_33 rfl ?_
    refine z_const gg39_36 (v := 0) rfl ?_
    refine q_aload gg39_37 rfl ?_
    refine q_iload gg39_38 rfl ?_
    refine z_const gg39_39 (v := 7) rfl ?_
    refine z_copy gg39_41 rfl rfl (by omega) (by omega) (by omega) (by omega) (by omega) (by decide) (by decide) ?_
    refine z_iinc gg39_44 rfl rfl ?_
    refine q_aload gg39_47 rfl ?_
    refine q_getr gg39_48 rfl ?_
    refine z_const gg39_51 (v := 0) rfl ?_
    refine q_aload gg39_52 rfl ?_
    refine q_iload gg39_53 rfl ?_
    refine z_const gg39_54 (v := 7) rfl ?_
    refine z_copy gg39_56 rfl rfl (by omega) (by omega) (by omega) (by omega) (by omega) (by decide) (by decide) ?_
    refine z_iinc gg39_59 rfl rfl ?_
    refine q_aload gg39_62 rfl ?_
    refine q_iload gg39_63 rfl ?_
    refine q_aload gg39_64 rfl ?_
    first | refine z_getf gg39_65 rfl (by assumption) ?_ | refine q_getf gg39_65 rfl ?_
    first | refine z_asr gg39_68 (by first | rfl | assumption) (by assumption) (by omega) (by omega) (by decide) (by omega) (by omega) (fun f68 h68 => ?_) | refine z_asx gg39_68 rfl (by omega) (by omega) (by decide) ?_ | refine z_asq gg39_68 rfl (by omega) (by omega) (by decide) ?_
    refine q_aload gg39_69 rfl ?_
    refine q_iload gg39_70 rfl ?_
    refine z_const gg39_71 (v := 1) rfl ?_
    first | refine z_iadd gg39_72 ?_ | refine q_iadd gg39_72 ?_
    refine q_aload gg39_73 rfl ?_
    first | refine z_getf gg39_74 rfl (by assumption) ?_ | refine q_getf gg39_74 rfl ?_
    first | refine z_asr gg39_77 (by first | rfl | assumption) (by assumption) (by omega) (by omega) (by decide) (by omega) (by omega) (fun f77 h77 => ?_) | refine z_asx gg39_77 rfl (by omega) (by omega) (by decide) ?_ | refine z_asq gg39_77 rfl (by omega) (by omega) (by decide) ?_
    refine q_aload gg39_78 rfl ?_
    refine q_iload gg39_79 rfl ?_
    refine z_const gg39_80 (v := 2) rfl ?_
    first | refine z_iadd gg39_81 ?_ | refine q_iadd gg39_81 ?_
    refine q_aload gg39_82 rfl ?_
    first | refine z_getf gg39_83 rfl (by assumption) ?_ | refine q_getf gg39_83 rfl ?_
    first | refine z_asr gg39_86 (by first | rfl | assumption) (by assumption) (by omega) (by omega) (by decide) (by omega) (by omega) (fun f86 h86 => ?_) | refine z_asx gg39_86 rfl (by omega) (by omega) (by decide) ?_ | refine z_asq gg39_86 rfl (by omega) (by omega) (by decide) ?_
    refine q_aload gg39_87 rfl ?_
    refine q_iload gg39_88 rfl ?_
    refine z_const gg39_89 (v := 3) rfl ?_
    first | refine z_iadd gg39_90 ?_ | refine q_iadd gg39_90 ?_
    refine q_aload gg39_91 rfl ?_
    first | refine z_getf gg39_92 rfl (by assumption) ?_ | refine q_getf gg39_92 rfl ?_
    first | refine z_asr gg39_95 (by first | rfl | assumption) (by assumption) (by omega) (by omega) (by decide) (by omega) (by omega) (fun f95 h95 => ?_) | refine z_asx gg39_95 rfl (by omega) (by omega) (by decide) ?_ | refine z_asq gg39_95 rfl (by omega) (by omega) (by decide) ?_
    refine q_aload gg39_96 rfl ?_
    refine q_iload gg39_97 rfl ?_
    refine z_const gg39_98 (v := 4) rfl ?_
    first | refine z_iadd gg39_99 ?_ | refine q_iadd gg39_99 ?_
    refine q_aload gg39_100 rfl ?_
    first | refine z_getf gg39_101 rfl (by assumption) ?_ | refine q_getf gg39_101 rfl ?_
    first | refine z_asr gg39_104 (by first | rfl | assumption) (by assumption) (by omega) (by omega) (by decide) (by omega) (by omega) (fun f104 h104 => ?_) | refine z_asx gg39_104 rfl (by omega) (by omega) (by decide) ?_ | refine z_asq gg39_104 rfl (by omega) (by omega) (by decide) ?_
    refine q_aload gg39_105 rfl ?_
    refine q_iload gg39_106 rfl ?_
    refine z_const gg39_107 (v := 5) rfl ?_
    first | refine z_iadd gg39_108 ?_ | refine q_iadd gg39_108 ?_
    refine q_aload gg39_109 rfl ?_
    first | refine z_getf gg39_110 rfl (by assumption) ?_ | refine q_getf gg39_110 rfl ?_
    first | refine z_asr gg39_113 (by first | rfl | assumption) (by assumption) (by omega) (by omega) (by decide) (by omega) (by omega) (fun f113 h113 => ?_) | refine z_asx gg39_113 rfl (by omega) (by omega) (by decide) ?_ | refine z_asq gg39_113 rfl (by omega) (by omega) (by decide) ?_
    refine q_aload gg39_114 rfl ?_
    refine q_iload gg39_115 rfl ?_
    refine z_const gg39_116 (v := 6) rfl ?_
    first | refine z_iadd gg39_118 ?_ | refine q_iadd gg39_118 ?_
    refine q_aload gg39_119 rfl ?_
    first | refine z_getf gg39_120 rfl (by assumption) ?_ | refine q_getf gg39_120 rfl ?_
    first | refine z_asr gg39_123 (by first | rfl | assumption) (by assumption) (by omega) (by omega) (by decide) (by omega) (by omega) (fun f123 h123 => ?_) | refine z_asx gg39_123 rfl (by omega) (by omega) (by decide) ?_ | refine z_asq gg39_123 rfl (by omega) (by omega) (by decide) ?_
    refine q_ret gg39_124 ?_
    simp only [hm_row_row, hm_row_same, hm_row_ne _ _ (show (8 : Nat) ≠ 18 by decide), hm_row_ne _ _ (show (9 : Nat) ≠ 18 by decide), hm_row_ne _ _ (show (10 : Nat) ≠ 18 by decide), hm_row_ne _ _ (show (11 : Nat) ≠ 18 by decide), hm_row_ne _ _ (show (7 : Nat) ≠ 18 by decide)]
    exact kk _ (key _ rfl).1 (key _ rfl).2
  · rw [if_neg (by decide)] at hs
    have key := fun F hF => enc_wr (F := F) (f := M 20) hs0 hn a1 a2 a3 a4 rfl rfl rfl rfl rfl rfl rfl hF
    refine q_iload gg39_0 rfl ?_
    refine q_istore gg39_1 rfl ?_
    refine q_aload gg39_2 rfl ?_
    refine q_getr gg39_3 rfl ?_
    refine z_const gg39_6 (v := 0) rfl ?_
    refine q_aload gg39_7 rfl ?_
    refine q_iload gg39_8 rfl ?_
    refine z_const gg39_9 (v := 7) rfl ?_
    refine z_copy gg39_11 rfl rfl (by omega) (by omega) (by omega) (by omega) (by omega) (by decide) (by decide) ?_
    refine z_iinc gg39_14 rfl rfl ?_
    refine q_aload gg39_17 rfl ?_
    refine q_getr gg39_18 rfl ?_
    refine z_const gg39_21 (v := 0) rfl ?_
    refine q_aload gg39_22 rfl ?_
    refine q_iload gg39_23 rfl ?_
    refine z_const gg39_24 (v := 7) rfl ?_
    refine z_copy gg39_26 rfl rfl (by omega) (by omega) (by omega) (by omega) (by omega) (by decide) (by decide) ?_
    refine z_iinc gg39_29 rfl rfl ?_
    refine q_aload gg39_32 rfl ?_
    refine q_getr gg39_33 rfl ?_
    refine z_const gg39_36 (v := 0) rfl ?_
    refine q_aload gg39_37 rfl ?_
    refine q_iload gg39_38 rfl ?_
    refine z_const gg39_39 (v := 7) rfl ?_
    refine z_copy gg39_41 rfl rfl (by omega) (by omega) (by omega) (by omega) (by omega) (by decide) (by decide) ?_
    refine z_iinc gg39_44 rfl rfl ?_
    refine q_aload gg39_47 rfl ?_
    refine q_getr gg39_48 rfl ?_
    refine z_const gg39_51 (v := 0) rfl ?_
    refine q_aload gg39_52 rfl ?_
    refine q_iload gg39_53 rfl ?_
    refine z_const gg39_54 (v := 7) rfl ?_
    refine z_copy gg39_56 rfl rfl (by omega) (by omega) (by omega) (by omega) (by omega) (by decide) (by decide) ?_
    refine z_iinc gg39_59 rfl rfl ?_
    refine q_aload gg39_62 rfl ?_
    refine q_iload gg39_63 rfl ?_
    refine q_aload gg39_64 rfl ?_
    first | refine z_getf gg39_65 rfl (by assumption) ?_ | refine q_getf gg39_65 rfl ?_
    first | refine z_asr gg39_68 (by first | rfl | assumption) (by assumption) (by omega) (by omega) (by decide) (by omega) (by omega) (fun f68 h68 => ?_) | refine z_asx gg39_68 rfl (by omega) (by omega) (by decide) ?_ | refine z_asq gg39_68 rfl (by omega) (by omega) (by decide) ?_
    refine q_aload gg39_69 rfl ?_
    refine q_iload gg39_70 rfl ?_
    refine z_const gg39_71 (v := 1) rfl ?_
    first | refine z_iadd gg39_72 ?_ | refine q_iadd gg39_72 ?_
    refine q_aload gg39_73 rfl ?_
    first | refine z_getf gg39_74 rfl (by assumption) ?_ | refine q_getf gg39_74 rfl ?_
    first | refine z_asr gg39_77 (by first | rfl | assumption) (by assumption) (by omega) (by omega) (by decide) (by omega) (by omega) (fun f77 h77 => ?_) | refine z_asx gg39_77 rfl (by omega) (by omega) (by decide) ?_ | refine z_asq gg39_77 rfl (by omega) (by omega) (by decide) ?_
    refine q_aload gg39_78 rfl ?_
    refine q_iload gg39_79 rfl ?_
    refine z_const gg39_80 (v := 2) rfl ?_
    first | refine z_iadd gg39_81 ?_ | refine q_iadd gg39_81 ?_
    refine q_aload gg39_82 rfl ?_
    first | refine z_getf gg39_83 rfl (by assumption) ?_ | refine q_getf gg39_83 rfl ?_
    first | refine z_asr gg39_86 (by first | rfl | assumption) (by assumption) (by omega) (by omega) (by decide) (by omega) (by omega) (fun f86 h86 => ?_) | refine z_asx gg39_86 rfl (by omega) (by omega) (by decide) ?_ | refine z_asq gg39_86 rfl (by omega) (by omega) (by decide) ?_
    refine q_aload gg39_87 rfl ?_
    refine q_iload gg39_88 rfl ?_
    refine z_const gg39_89 (v := 3) rfl ?_
    first | refine z_iadd gg39_90 ?_ | refine q_iadd gg39_90 ?_
    refine q_aload gg39_91 rfl ?_
    first | refine z_getf gg39_92 rfl (by assumption) ?_ | refine q_getf gg39_92 rfl ?_
    first | refine z_asr gg39_95 (by first | rfl | assumption) (by assumption) (by omega) (by omega) (by decide) (by omega) (by omega) (fun f95 h95 => ?_) | refine z_asx gg39_95 rfl (by omega) (by omega) (by decide) ?_ | refine z_asq gg39_95 rfl (by omega) (by omega) (by decide) ?_
    refine q_aload gg39_96 rfl ?_
    refine q_iload gg39_97 rfl ?_
    refine z_const gg39_98 (v := 4) rfl ?_
    first | refine z_iadd gg39_99 ?_ | refine q_iadd gg39_99 ?_
    refine q_aload gg39_100 rfl ?_
    first | refine z_getf gg39_101 rfl (by assumption) ?_ | refine q_getf gg39_101 rfl ?_
    first | refine z_asr gg39_104 (by first | rfl | assumption) (by assumption) (by omega) (by omega) (by decide) (by omega) (by omega) (fun f104 h104 => ?_) | refine z_asx gg39_104 rfl (by omega) (by omega) (by decide) ?_ | refine z_asq gg39_104 rfl (by omega) (by omega) (by decide) ?_
    refine q_aload gg39_105 rfl ?_
    refine q_iload gg39_106 rfl ?_
    refine z_const gg39_107 (v := 5) rfl ?_
    first | refine z_iadd gg39_108 ?_ | refine q_iadd gg39_108 ?_
    refine q_aload gg39_109 rfl ?_
    first | refine z_getf gg39_110 rfl (by assumption) ?_ | refine q_getf gg39_110 rfl ?_
    first | refine z_asr gg39_113 (by first | rfl | assumption) (by assumption) (by omega) (by omega) (by decide) (by omega) (by omega) (fun f113 h113 => ?_) | refine z_asx gg39_113 rfl (by omega) (by omega) (by decide) ?_ | refine z_asq gg39_113 rfl (by omega) (by omega) (by decide) ?_
    refine q_aload gg39_114 rfl ?_
    refine q_iload gg39_115 rfl ?_
    refine z_const gg39_116 (v := 6) rfl ?_
    first | refine z_iadd gg39_118 ?_ | refine q_iadd gg39_118 ?_
    refine q_aload gg39_119 rfl ?_
    first | refine z_getf gg39_120 rfl (by assumption) ?_ | refine q_getf gg39_120 rfl ?_
    first | refine z_asr gg39_123 (by first | rfl | assumption) (by assumption) (by omega) (by omega) (by decide) (by omega) (by omega) (fun f123 h123 => ?_) | refine z_asx gg39_123 rfl (by omega) (by omega) (by decide) ?_ | refine z_asq gg39_123 rfl (by omega) (by omega) (by decide) ?_
    refine q_ret gg39_124 ?_
    simp only [hm_row_row, hm_row_same, hm_row_ne _ _ (show (8 : Nat) ≠ 20 by decide), hm_row_ne _ _ (show (9 : Nat) ≠ 20 by decide), hm_row_ne _ _ (show (10 : Nat) ≠ 20 by decide), hm_row_ne _ _ (show (11 : Nat) ≠ 20 by decide), hm_row_ne _ _ (show (7 : Nat) ≠ 20 by decide)]
    exact kk _ (key _ rfl).1 (key _ rfl).2
theorem c_readFrom (hk : k = 18 ∨ k = 20) (h : enc (M k) s w) (hw : mWf w) (hs0 : 0 ≤ s) (hs : s + 35 ≤ (if k = 18 then 840 else 70)) (kk : ∀ M', Hb M' 7 w → Fr 7 M M' → Q none M') : hm_Wp (d + 1) 40 0 [some (.inr (.inr 7)), some (.inr (.inr k)), some (.inl (zI s)), none] [] M Q := by
  obtain ⟨e28, e29, e30, e31, e32, e33, e34, eb⟩ := h
  have hn := hw.1.1
  have hbd := hw.2.1
  have t7 : Int.toNat 7 = 7 := rfl
  have t0 : Int.toNat 0 = 0 := rfl
  have c1 : ∀ g : Nat → Int32, aw (va_cpy (M k) g s.toNat (Int.toNat 0) (Int.toNat 7)) (w 2) 0 20000 (fun b => w (4 + 7 * b)) := fun g b b0 b1 => ⟨by
    simp only [va_cpy, t7, t0]; rw [if_pos (by omega), ← (eb b b0 b1).1]; congr 1; omega, hbd _ (by omega) (by omega)⟩
  have c2 : ∀ g : Nat → Int32, aw (va_cpy (M k) g (s + 7).toNat (Int.toNat 0) (Int.toNat 7)) (w 2) 0 20000 (fun b => w (4 + 7 * b + 1)) := fun g b b0 b1 => ⟨by
    simp only [va_cpy, t7, t0]; rw [if_pos (by omega), ← (eb b b0 b1).2.1]; congr 1; omega, hbd _ (by omega) (by omega)⟩
  have c3 : ∀ g : Nat → Int32, aw (va_cpy (M k) g (s + 7 + 7).toNat (Int.toNat 0) (Int.toNat 7)) (w 2) 0 20000 (fun b => w (4 + 7 * b + 2)) := fun g b b0 b1 => ⟨by
    simp only [va_cpy, t7, t0]; rw [if_pos (by omega), ← (eb b b0 b1).2.2.1]; congr 1; omega, hbd _ (by omega) (by omega)⟩
  have c4 : ∀ g : Nat → Int32, aw (va_cpy (M k) g (s + 7 + 7 + 7).toNat (Int.toNat 0) (Int.toNat 7)) (w 2) 0 20000 (fun b => w (4 + 7 * b + 3)) := fun g b b0 b1 => ⟨by
    simp only [va_cpy, t7, t0]; rw [if_pos (by omega), ← (eb b b0 b1).2.2.2]; congr 1; omega, hbd _ (by omega) (by omega)⟩
  have i28 : (s + 7 + 7 + 7 + 7).toNat = (s + 28).toNat := by omega
  have i29 : (s + 7 + 7 + 7 + 7 + 1).toNat = (s + 29).toNat := by omega
  have i30 : (s + 7 + 7 + 7 + 7 + 2).toNat = (s + 30).toNat := by omega
  have i31 : (s + 7 + 7 + 7 + 7 + 3).toNat = (s + 31).toNat := by omega
  have i32 : (s + 7 + 7 + 7 + 7 + 4).toNat = (s + 32).toNat := by omega
  have i33 : (s + 7 + 7 + 7 + 7 + 5).toNat = (s + 33).toNat := by omega
  have i34 : (s + 7 + 7 + 7 + 7 + 6).toNat = (s + 34).toNat := by omega
  rcases hk with rfl | rfl
  · simp only [if_true] at hs
    refine q_iload gg40_0 rfl ?_
    refine q_istore gg40_1 rfl ?_
    refine q_aload gg40_2 rfl ?_
    refine q_iload gg40_3 rfl ?_
    refine q_aload gg40_4 rfl ?_
    refine q_getr gg40_5 rfl ?_
    refine z_const gg40_8 (v := 0) rfl ?_
    refine z_const gg40_9 (v := 7) rfl ?_
    refine z_copy gg40_11 rfl rfl (by omega) (by omega) (by omega) (by omega) (by omega) (by decide) (by decide) ?_
    refine z_iinc gg40_14 rfl rfl ?_
    refine q_aload gg40_17 rfl ?_
    refine q_iload gg40_18 rfl ?_
    refine q_aload gg40_19 rfl ?_
    refine q_getr gg40_20 rfl ?_
    refine z_const gg40_23 (v := 0) rfl ?_
    refine z_const gg40_24 (v := 7) rfl ?_
    refine z_copy gg40_26 rfl rfl (by omega) (by omega) (by omega) (by omega) (by omega) (by decide) (by decide) ?_
    refine z_iinc gg40_29 rfl rfl ?_
    refine q_aload gg40_32 rfl ?_
    refine q_iload gg40_33 rfl ?_
    refine q_aload gg40_34 rfl ?_
    refine q_getr gg40_35 rfl ?_
    refine z_const gg40_38 (v := 0) rfl ?_
    refine z_const gg40_39 (v := 7) rfl ?_
    refine z_copy gg40_41 rfl rfl (by omega) (by omega) (by omega) (by omega) (by omega) (by decide) (by decide) ?_
    refine z_iinc gg40_44 rfl rfl ?_
    refine q_aload gg40_47 rfl ?_
    refine q_iload gg40_48 rfl ?_
    refine q_aload gg40_49 rfl ?_
    refine q_getr gg40_50 rfl ?_
    refine z_const gg40_53 (v := 0) rfl ?_
    refine z_const gg40_54 (v := 7) rfl ?_
    refine z_copy gg40_56 rfl rfl (by omega) (by omega) (by omega) (by omega) (by omega) (by decide) (by decide) ?_
    refine z_iinc gg40_59 rfl rfl ?_
    refine q_aload gg40_62 rfl ?_
    refine q_aload gg40_63 rfl ?_
    refine q_iload gg40_64 rfl ?_
    first | (refine z_alr gg40_65 (by first | rfl | assumption) (by assumption) (by omega) (by omega) (by omega) (by decide) (fun v65 ev65 lv65 uv65 => ?_); try dsimp only at ev65) | (refine z_alx gg40_65 rfl (by assumption) (by omega) (by omega) (by first | omega | decide) (by decide) (fun v65 ev65 lv65 uv65 => ?_); try dsimp only at ev65) | refine z_alq gg40_65 rfl (by omega) (by omega) (by decide) ?_
    refine q_putf gg40_66 rfl ?_
    refine q_aload gg40_69 rfl ?_
    refine q_aload gg40_70 rfl ?_
    refine q_iload gg40_71 rfl ?_
    refine z_const gg40_72 (v := 1) rfl ?_
    first | refine z_iadd gg40_73 ?_ | refine q_iadd gg40_73 ?_
    first | (refine z_alr gg40_74 (by first | rfl | assumption) (by assumption) (by omega) (by omega) (by omega) (by decide) (fun v74 ev74 lv74 uv74 => ?_); try dsimp only at ev74) | (refine z_alx gg40_74 rfl (by assumption) (by omega) (by omega) (by first | omega | decide) (by decide) (fun v74 ev74 lv74 uv74 => ?_); try dsimp only at ev74) | refine z_alq gg40_74 rfl (by omega) (by omega) (by decide) ?_
    refine q_putf gg40_75 rfl ?_
    refine q_aload gg40_78 rfl ?_
    refine q_aload gg40_79 rfl ?_
    refine q_iload gg40_80 rfl ?_
    refine z_const gg40_81 (v := 2) rfl ?_
    first | refine z_iadd gg40_82 ?_ | refine q_iadd gg40_82 ?_
    first | (refine z_alr gg40_83 (by first | rfl | assumption) (by assumption) (by omega) (by omega) (by omega) (by decide) (fun v83 ev83 lv83 uv83 => ?_); try dsimp only at ev83) | (refine z_alx gg40_83 rfl (by assumption) (by omega) (by omega) (by first | omega | decide) (by decide) (fun v83 ev83 lv83 uv83 => ?_); try dsimp only at ev83) | refine z_alq gg40_83 rfl (by omega) (by omega) (by decide) ?_
    refine q_putf gg40_84 rfl ?_
    refine q_aload gg40_87 rfl ?_
    refine q_aload gg40_88 rfl ?_
    refine q_iload gg40_89 rfl ?_
    refine z_const gg40_90 (v := 3) rfl ?_
    first | refine z_iadd gg40_91 ?_ | refine q_iadd gg40_91 ?_
    first | (refine z_alr gg40_92 (by first | rfl | assumption) (by assumption) (by omega) (by omega) (by omega) (by decide) (fun v92 ev92 lv92 uv92 => ?_); try dsimp only at ev92) | (refine z_alx gg40_92 rfl (by assumption) (by omega) (by omega) (by first | omega | decide) (by decide) (fun v92 ev92 lv92 uv92 => ?_); try dsimp only at ev92) | refine z_alq gg40_92 rfl (by omega) (by omega) (by decide) ?_
    refine q_putf gg40_93 rfl ?_
    refine q_aload gg40_96 rfl ?_
    refine q_aload gg40_97 rfl ?_
    refine q_iload gg40_98 rfl ?_
    refine z_const gg40_99 (v := 4) rfl ?_
    first | refine z_iadd gg40_100 ?_ | refine q_iadd gg40_100 ?_
    first | (refine z_alr gg40_101 (by first | rfl | assumption) (by assumption) (by omega) (by omega) (by omega) (by decide) (fun v101 ev101 lv101 uv101 => ?_); try dsimp only at ev101) | (refine z_alx gg40_101 rfl (by assumption) (by omega) (by omega) (by first | omega | decide) (by decide) (fun v101 ev101 lv101 uv101 => ?_); try dsimp only at ev101) | refine z_alq gg40_101 rfl (by omega) (by omega) (by decide) ?_
    refine q_putf gg40_102 rfl ?_
    refine q_aload gg40_105 rfl ?_
    refine q_aload gg40_106 rfl ?_
    refine q_iload gg40_107 rfl ?_
    refine z_const gg40_108 (v := 5) rfl ?_
    first | refine z_iadd gg40_109 ?_ | refine q_iadd gg40_109 ?_
    first | (refine z_alr gg40_110 (by first | rfl | assumption) (by assumption) (by omega) (by omega) (by omega) (by decide) (fun v110 ev110 lv110 uv110 => ?_); try dsimp only at ev110) | (refine z_alx gg40_110 rfl (by assumption) (by omega) (by omega) (by first | omega | decide) (by decide) (fun v110 ev110 lv110 uv110 => ?_); try dsimp only at ev110) | refine z_alq gg40_110 rfl (by omega) (by omega) (by decide) ?_
    refine q_putf gg40_111 rfl ?_
    refine q_aload gg40_114 rfl ?_
    refine q_aload gg40_115 rfl ?_
    refine q_iload gg40_116 rfl ?_
    refine z_const gg40_117 (v := 6) rfl ?_
    first | refine z_iadd gg40_119 ?_ | refine q_iadd gg40_119 ?_
    first | (refine z_alr gg40_120 (by first | rfl | assumption) (by assumption) (by omega) (by omega) (by omega) (by decide) (fun v120 ev120 lv120 uv120 => ?_); try dsimp only at ev120) | (refine z_alx gg40_120 rfl (by assumption) (by omega) (by omega) (by first | omega | decide) (by decide) (fun v120 ev120 lv120 uv120 => ?_); try dsimp only at ev120) | refine z_alq gg40_120 rfl (by omega) (by omega) (by decide) ?_
    refine q_putf gg40_121 rfl ?_
    refine q_ret gg40_124 ?_
    refine kk _ ⟨⟨?_, ?_, ?_, ?_, ?_, ?_, c1 _, c2 _, c4 _⟩, ?_, c3 _⟩ ?_
    (show M 18 (s + 7 + 7 + 7 + 7).toNat = _; rw [i28]; exact e28)
    (show M 18 (s + 7 + 7 + 7 + 7 + 1).toNat = _; rw [i29]; exact e29)
    (show M 18 (s + 7 + 7 + 7 + 7 + 2).toNat = _; rw [i30]; exact e30)
    (show M 18 (s + 7 + 7 + 7 + 7 + 4).toNat = _; rw [i32]; exact e32)
    (show M 18 (s + 7 + 7 + 7 + 7 + 5).toNat = _; rw [i33]; exact e33)
    (show M 18 (s + 7 + 7 + 7 + 7 + 6).toNat = _; rw [i34]; exact e34)
    (show M 18 (s + 7 + 7 + 7 + 7 + 3).toNat = _; rw [i31]; exact e31)
    intro k hk
    simp only [hm_up]
    repeat rw [hm_row_ne _ _ (by omega)]
  · rw [if_neg (by decide)] at hs
    refine q_iload gg40_0 rfl ?_
    refine q_istore gg40_1 rfl ?_
    refine q_aload gg40_2 rfl ?_
    refine q_iload gg40_3 rfl ?_
    refine q_aload gg40_4 rfl ?_
    refine q_getr gg40_5 rfl ?_
    refine z_const gg40_8 (v := 0) rfl ?_
    refine z_const gg40_9 (v := 7) rfl ?_
    refine z_copy gg40_11 rfl rfl (by omega) (by omega) (by omega) (by omega) (by omega) (by decide) (by decide) ?_
    refine z_iinc gg40_14 rfl rfl ?_
    refine q_aload gg40_17 rfl ?_
    refine q_iload gg40_18 rfl ?_
    refine q_aload gg40_19 rfl ?_
    refine q_getr gg40_20 rfl ?_
    refine z_const gg40_23 (v := 0) rfl ?_
    refine z_const gg40_24 (v := 7) rfl ?_
    refine z_copy gg40_26 rfl rfl (by omega) (by omega) (by omega) (by omega) (by omega) (by decide) (by decide) ?_
    refine z_iinc gg40_29 rfl rfl ?_
    refine q_aload gg40_32 rfl ?_
    refine q_iload gg40_33 rfl ?_
    refine q_aload gg40_34 rfl ?_
    refine q_getr gg40_35 rfl ?_
    refine z_const gg40_38 (v := 0) rfl ?_
    refine z_const gg40_39 (v := 7) rfl ?_
    refine z_copy gg40_41 rfl rfl (by omega) (by omega) (by omega) (by omega) (by omega) (by decide) (by decide) ?_
    refine z_iinc gg40_44 rfl rfl ?_
    refine q_aload gg40_47 rfl ?_
    refine q_iload gg40_48 rfl ?_
    refine q_aload gg40_49 rfl ?_
    refine q_getr gg40_50 rfl ?_
    refine z_const gg40_53 (v := 0) rfl ?_
    refine z_const gg40_54 (v := 7) rfl ?_
    refine z_copy gg40_56 rfl rfl (by omega) (by omega) (by omega) (by omega) (by omega) (by decide) (by decide) ?_
    refine z_iinc gg40_59 rfl rfl ?_
    refine q_aload gg40_62 rfl ?_
    refine q_aload gg40_63 rfl ?_
    refine q_iload gg40_64 rfl ?_
    first | (refine z_alr gg40_65 (by first | rfl | assumption) (by assumption) (by omega) (by omega) (by omega) (by decide) (fun v65 ev65 lv65 uv65 => ?_); try dsimp only at ev65) | (refine z_alx gg40_65 rfl (by assumption) (by omega) (by omega) (by first | omega | decide) (by decide) (fun v65 ev65 lv65 uv65 => ?_); try dsimp only at ev65) | refine z_alq gg40_65 rfl (by omega) (by omega) (by decide) ?_
    refine q_putf gg40_66 rfl ?_
    refine q_aload gg40_69 rfl ?_
    refine q_aload gg40_70 rfl ?_
    refine q_iload gg40_71 rfl ?_
    refine z_const gg40_72 (v := 1) rfl ?_
    first | refine z_iadd gg40_73 ?_ | refine q_iadd gg40_73 ?_
    first | (refine z_alr gg40_74 (by first | rfl | assumption) (by assumption) (by omega) (by omega) (by omega) (by decide) (fun v74 ev74 lv74 uv74 => ?_); try dsimp only at ev74) | (refine z_alx gg40_74 rfl (by assumption) (by omega) (by omega) (by first | omega | decide) (by decide) (fun v74 ev74 lv74 uv74 => ?_); try dsimp only at ev74) | refine z_alq gg40_74 rfl (by omega) (by omega) (by decide) ?_
    refine q_putf gg40_75 rfl ?_
    refine q_aload gg40_78 rfl ?_
    refine q_aload gg40_79 rfl ?_
    refine q_iload gg40_80 rfl ?_
    refine z_const gg40_81 (v := 2) rfl ?_
    first | refine z_iadd gg40_82 ?_ | refine q_iadd gg40_82 ?_
    first | (refine z_alr gg40_83 (by first | rfl | assumption) (by assumption) (by omega) (by omega) (by omega) (by decide) (fun v83 ev83 lv83 uv83 => ?_); try dsimp only at ev83) | (refine z_alx gg40_83 rfl (by assumption) (by omega) (by omega) (by first | omega | decide) (by decide) (fun v83 ev83 lv83 uv83 => ?_); try dsimp only at ev83) | refine z_alq gg40_83 rfl (by omega) (by omega) (by decide) ?_
    refine q_putf gg40_84 rfl ?_
    refine q_aload gg40_87 rfl ?_
    refine q_aload gg40_88 rfl ?_
    refine q_iload gg40_89 rfl ?_
    refine z_const gg40_90 (v := 3) rfl ?_
    first | refine z_iadd gg40_91 ?_ | refine q_iadd gg40_91 ?_
    first | (refine z_alr gg40_92 (by first | rfl | assumption) (by assumption) (by omega) (by omega) (by omega) (by decide) (fun v92 ev92 lv92 uv92 => ?_); try dsimp only at ev92) | (refine z_alx gg40_92 rfl (by assumption) (by omega) (by omega) (by first | omega | decide) (by decide) (fun v92 ev92 lv92 uv92 => ?_); try dsimp only at ev92) | refine z_alq gg40_92 rfl (by omega) (by omega) (by decide) ?_
    refine q_putf gg40_93 rfl ?_
    refine q_aload gg40_96 rfl ?_
    refine q_aload gg40_97 rfl ?_
    refine q_iload gg40_98 rfl ?_
    refine z_const gg40_99 (v := 4) rfl ?_
    first | refine z_iadd gg40_100 ?_ | refine q_iadd gg40_100 ?_
    first | (refine z_alr gg40_101 (by first | rfl | assumption) (by assumption) (by omega) (by omega) (by omega) (by decide) (fun v101 ev101 lv101 uv101 => ?_); try dsimp only at ev101) | (refine z_alx gg40_101 rfl (by assumption) (by omega) (by omega) (by first | omega | decide) (by decide) (fun v101 ev101 lv101 uv101 => ?_); try dsimp only at ev101) | refine z_alq gg40_101 rfl (by omega) (by omega) (by decide) ?_
    refine q_putf gg40_102 rfl ?_
    refine q_aload gg40_105 rfl ?_
    refine q_aload gg40_106 rfl ?_
    refine q_iload gg40_107 rfl ?_
    refine z_const gg40_108 (v := 5) rfl ?_
    first | refine z_iadd gg40_109 ?_ | refine q_iadd gg40_109 ?_
    first | (refine z_alr gg40_110 (by first | rfl | assumption) (by assumption) (by omega) (by omega) (by omega) (by decide) (fun v110 ev110 lv110 uv110 => ?_); try dsimp only at ev110) | (refine z_alx gg40_110 rfl (by assumption) (by omega) (by omega) (by first | omega | decide) (by decide) (fun v110 ev110 lv110 uv110 => ?_); try dsimp only at ev110) | refine z_alq gg40_110 rfl (by omega) (by omega) (by decide) ?_
    refine q_putf gg40_111 rfl ?_
    refine q_aload gg40_114 rfl ?_
    refine q_aload gg40_115 rfl ?_
    refine q_iload gg40_116 rfl ?_
    refine z_const gg40_117 (v := 6) rfl ?_
    first | refine z_iadd gg40_119 ?_ | refine q_iadd gg40_119 ?_
    first | (refine z_alr gg40_120 (by first | rfl | assumption) (by assumption) (by omega) (by omega) (by omega) (by decide) (fun v120 ev120 lv120 uv120 => ?_); try dsimp only at ev120) | (refine z_alx gg40_120 rfl (by assumption) (by omega) (by omega) (by first | omega | decide) (by decide) (fun v120 ev120 lv120 uv120 => ?_); try dsimp only at ev120) | refine z_alq gg40_120 rfl (by omega) (by omega) (by decide) ?_
    refine q_putf gg40_121 rfl ?_
    refine q_ret gg40_124 ?_
    refine kk _ ⟨⟨?_, ?_, ?_, ?_, ?_, ?_, c1 _, c2 _, c4 _⟩, ?_, c3 _⟩ ?_
    (show M 20 (s + 7 + 7 + 7 + 7).toNat = _; rw [i28]; exact e28)
    (show M 20 (s + 7 + 7 + 7 + 7 + 1).toNat = _; rw [i29]; exact e29)
    (show M 20 (s + 7 + 7 + 7 + 7 + 2).toNat = _; rw [i30]; exact e30)
    (show M 20 (s + 7 + 7 + 7 + 7 + 4).toNat = _; rw [i32]; exact e32)
    (show M 20 (s + 7 + 7 + 7 + 7 + 5).toNat = _; rw [i33]; exact e33)
    (show M 20 (s + 7 + 7 + 7 + 7 + 6).toNat = _; rw [i34]; exact e34)
    (show M 20 (s + 7 + 7 + 7 + 7 + 3).toNat = _; rw [i31]; exact e31)
    intro k hk
    simp only [hm_up]
    repeat rw [hm_row_ne _ _ (by omega)]
end A1
