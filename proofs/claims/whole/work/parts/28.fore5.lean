section F5
variable {d r mid pc nx k : Nat} {M N : hm_M} {w v w0 : Int → Int} {b n e x a s y c : Int} {f : Nat → Int32} {Q : Option hm_V → hm_M → Prop} {l : List (Int × Nat)} {ls : hm_L} {st : List hm_V}
theorem z_ishl7 (h : hm_at mid pc = some (nx, 4, c, 6, l)) (hy0 : 0 ≤ y) (hy : y ≤ 7) (kk : ∀ v : Int, v = 2 ^ y.toNat → hm_Wp d mid nx ls (.inl (zI v) :: st) M Q) : hm_Wp d mid pc ls (.inl (zI y) :: .inl (zI 1) :: st) M Q := q_ishl h (by
  have hp : (2 : Int) ^ y.toNat ≤ 2 ^ 7 := by exact_mod_cast Nat.pow_le_pow_right (n := 2) (by decide) (show y.toNat ≤ 7 by omega)
  rw [z_shl hy0 (by omega) (by decide) (by omega), Int.one_mul]
  exact kk _ rfl)
theorem ushrK : ∀ (i : Fin 128) (j : Fin 8), ((nI i.val).toUInt32 >>> ((nI j.val).toUInt32 &&& Int32.toUInt32 31)).toInt32 = nI (i.val / 2 ^ j.val) := by decide +kernel
theorem z_iushr (h : hm_at mid pc = some (nx, 4, c, 8, l)) (hy0 : 0 ≤ y) (hy : y < 8) (hx0 : 0 ≤ x) (hx : x < 128) (kk : ∀ v : Int, ((y = 4 → v = x / 16) ∧ (y = 2 → v = x / 4) ∧ (y = 1 → v = x / 2)) → 0 ≤ v → v ≤ x → hm_Wp d mid nx ls (.inl (zI v) :: st) M Q) : hm_Wp d mid pc ls (.inl (zI y) :: .inl (zI x) :: st) M Q := q_iushr h (by
  have e := ushrK ⟨x.toNat, by omega⟩ ⟨y.toNat, by omega⟩
  simp only at e
  have ex : zI x = nI x.toNat := zI_nat hx0 (by omega)
  have ey : zI y = nI y.toNat := zI_nat hy0 (by omega)
  rw [ex, ey, e]
  have := kk ((x.toNat / 2 ^ y.toNat : Nat) : Int) ⟨fun h => by subst h; simp; omega, fun h => by subst h; simp; omega, fun h => by subst h; simp; omega⟩ (Int.natCast_nonneg _) (by have := Nat.div_le_self x.toNat (2 ^ y.toNat); omega)
  rw [zI_nI]; exact this)
/-! which first -/
def ntz7 (x : Int) : Int := if zbit x 0 = 1 then 0 else if zbit x 1 = 1 then 1 else if zbit x 2 = 1 then 2 else if zbit x 3 = 1 then 3 else if zbit x 4 = 1 then 4 else if zbit x 5 = 1 then 5 else 6
theorem ntzK : ∀ i : Fin 128, i.val ≠ 0 → (nI i.val ^^^ zI (-1)) &&& (nI i.val - zI 1) = zI (2 ^ (ntz7 (i.val : Int)).toNat - 1) := by decide +kernel
theorem ntz7_bd (x : Int) : 0 ≤ ntz7 x ∧ ntz7 x ≤ 6 := by unfold ntz7; (repeat' split) <;> omega
theorem c_ntz (hx0 : 0 < x) (hx : x < 128) (kk : Q (some (.inl (zI (ntz7 x)))) M) : hm_Wp d 206 0 [some (.inl (zI x)), none] [] M Q := by
  have hk := ntzK ⟨x.toNat, by omega⟩ (by simp only; omega)
  simp only at hk
  rw [show ((x.toNat : Nat) : Int) = x by omega, ← zI_nat (by omega) (by omega)] at hk
  refine q_iload gg206_0 rfl ?_
  refine z_neg gg206_1 ?_
  refine q_ixor gg206_2 ?_
  refine q_iload gg206_3 rfl ?_
  refine z_const gg206_4 (v := 1) rfl ?_
  refine q_isub gg206_5 ?_
  refine q_iand gg206_6 ?_
  refine q_istore gg206_7 rfl ?_
  rw [hk]
  have hb := ntz7_bd x
  have h7 : ntz7 x = 0 ∨ ntz7 x = 1 ∨ ntz7 x = 2 ∨ ntz7 x = 3 ∨ ntz7 x = 4 ∨ ntz7 x = 5 ∨ ntz7 x = 6 := by omega
  have gen : ∀ v : Int, 0 ≤ v → v < 128 → (v = 0 → ntz7 x = 0) → (v ≠ 0 → (v = 1 ∨ v = 3 ∨ v = 7 ∨ v = 15 ∨ v = 31 ∨ v = 63) ∧ (v = 1 → ntz7 x = 1) ∧ (v = 3 → ntz7 x = 2) ∧ (v = 7 → ntz7 x = 3) ∧ (v = 15 → ntz7 x = 4) ∧ (v = 31 → ntz7 x = 5) ∧ (v = 63 → ntz7 x = 6)) → hm_Wp d 206 8 [some (.inl (zI v)), none] [] M Q := by
    intro v v0 v1 e0 e1
    by_cases hv : v = 0
    · subst hv
      rw [e0 rfl] at kk
      refine q_iload gg206_8 rfl ?_
      refine z_ifgt gg206_9 (tg := 17) rfl (by omega) (fun z => absurd z (by decide)) (fun _ => ?_)
      refine q_iload gg206_12 rfl ?_
      refine z_const gg206_13 (v := 32) rfl ?_
      refine q_iand gg206_15 ?_
      refine q_iret gg206_16 ?_
      exact kk
    · have e2 := e1 hv
      clear e0 e1
      refine q_iload gg206_8 rfl ?_
      refine z_ifgt gg206_9 (tg := 17) rfl (by omega) (fun c1 => ?_) (fun c1 => ?_)
      · try (exfalso; omega)
        all_goals (
          refine z_const gg206_17 (v := 1) rfl ?_
          refine q_istore gg206_18 rfl ?_
          refine q_iload gg206_19 rfl ?_
          refine z_const gg206_20 (v := 65536) rfl ?_
          refine z_icmple gg206_23 (tg := 34) rfl (by omega) (by omega) (fun c2 => ?_) (fun c2 => ?_)
          · try (exfalso; omega)
            all_goals (
              refine q_iload gg206_34 rfl ?_
              refine z_const gg206_35 (v := 256) rfl ?_
              refine z_icmple gg206_38 (tg := 49) rfl (by omega) (by omega) (fun c3 => ?_) (fun c3 => ?_)
              · try (exfalso; omega)
                all_goals (
                  refine q_iload gg206_49 rfl ?_
                  refine z_const gg206_50 (v := 16) rfl ?_
                  refine z_icmple gg206_52 (tg := 62) rfl (by omega) (by omega) (fun c4 => ?_) (fun c4 => ?_)
                  · try (exfalso; omega)
                    all_goals (
                      refine q_iload gg206_62 rfl ?_
                      refine z_const gg206_63 (v := 4) rfl ?_
                      refine z_icmple gg206_64 (tg := 74) rfl (by omega) (by omega) (fun c5 => ?_) (fun c5 => ?_)
                      · try (exfalso; omega)
                        all_goals (
                          refine q_iload gg206_74 rfl ?_
                          refine q_iload gg206_75 rfl ?_
                          refine z_const gg206_76 (v := 1) rfl ?_
                          first | refine z_iushr gg206_77 (by omega) (by omega) (by omega) (by omega) (fun s77 es77 ls77 us77 => ?_) | refine q_iushr gg206_77 ?_
                          first | refine z_iadd gg206_78 ?_ | refine q_iadd gg206_78 ?_
                          refine q_iret gg206_79 ?_
                          refine qv ?_ kk
                          omega
                        )
                      · try (exfalso; omega)
                        all_goals (
                          refine z_iinc gg206_67 rfl rfl ?_
                          refine q_iload gg206_70 rfl ?_
                          refine z_const gg206_71 (v := 2) rfl ?_
                          first | refine z_iushr gg206_72 (by omega) (by omega) (by omega) (by omega) (fun s72 es72 ls72 us72 => ?_) | refine q_iushr gg206_72 ?_
                          refine q_istore gg206_73 rfl ?_
                          refine q_iload gg206_74 rfl ?_
                          refine q_iload gg206_75 rfl ?_
                          refine z_const gg206_76 (v := 1) rfl ?_
                          first | refine z_iushr gg206_77 (by omega) (by omega) (by omega) (by omega) (fun s77 es77 ls77 us77 => ?_) | refine q_iushr gg206_77 ?_
                          first | refine z_iadd gg206_78 ?_ | refine q_iadd gg206_78 ?_
                          refine q_iret gg206_79 ?_
                          refine qv ?_ kk
                          omega
                        )
                    )
                  · try (exfalso; omega)
                    all_goals (
                      refine z_iinc gg206_55 rfl rfl ?_
                      refine q_iload gg206_58 rfl ?_
                      refine z_const gg206_59 (v := 4) rfl ?_
                      first | refine z_iushr gg206_60 (by omega) (by omega) (by omega) (by omega) (fun s60 es60 ls60 us60 => ?_) | refine q_iushr gg206_60 ?_
                      refine q_istore gg206_61 rfl ?_
                      refine q_iload gg206_62 rfl ?_
                      refine z_const gg206_63 (v := 4) rfl ?_
                      refine z_icmple gg206_64 (tg := 74) rfl (by omega) (by omega) (fun c5 => ?_) (fun c5 => ?_)
                      · try (exfalso; omega)
                        all_goals (
                          refine q_iload gg206_74 rfl ?_
                          refine q_iload gg206_75 rfl ?_
                          refine z_const gg206_76 (v := 1) rfl ?_
                          first | refine z_iushr gg206_77 (by omega) (by omega) (by omega) (by omega) (fun s77 es77 ls77 us77 => ?_) | refine q_iushr gg206_77 ?_
                          first | refine z_iadd gg206_78 ?_ | refine q_iadd gg206_78 ?_
                          refine q_iret gg206_79 ?_
                          refine qv ?_ kk
                          omega
                        )
                      · try (exfalso; omega)
                        all_goals (
                          refine z_iinc gg206_67 rfl rfl ?_
                          refine q_iload gg206_70 rfl ?_
                          refine z_const gg206_71 (v := 2) rfl ?_
                          first | refine z_iushr gg206_72 (by omega) (by omega) (by omega) (by omega) (fun s72 es72 ls72 us72 => ?_) | refine q_iushr gg206_72 ?_
                          refine q_istore gg206_73 rfl ?_
                          refine q_iload gg206_74 rfl ?_
                          refine q_iload gg206_75 rfl ?_
                          refine z_const gg206_76 (v := 1) rfl ?_
                          first | refine z_iushr gg206_77 (by omega) (by omega) (by omega) (by omega) (fun s77 es77 ls77 us77 => ?_) | refine q_iushr gg206_77 ?_
                          first | refine z_iadd gg206_78 ?_ | refine q_iadd gg206_78 ?_
                          refine q_iret gg206_79 ?_
                          refine qv ?_ kk
                          omega
                        )
                    )
                )
              · try (exfalso; omega)
                all_goals (
                  refine z_iinc gg206_41 rfl rfl ?_
                  refine q_iload gg206_44 rfl ?_
                  refine z_const gg206_45 (v := 8) rfl ?_
                  first | refine z_iushr gg206_47 (by omega) (by omega) (by omega) (by omega) (fun s47 es47 ls47 us47 => ?_) | refine q_iushr gg206_47 ?_
                  refine q_istore gg206_48 rfl ?_
                  refine q_iload gg206_49 rfl ?_
                  refine z_const gg206_50 (v := 16) rfl ?_
                  refine z_icmple gg206_52 (tg := 62) rfl (by omega) (by omega) (fun c4 => ?_) (fun c4 => ?_)
                  · try (exfalso; omega)
                    all_goals (
                      refine q_iload gg206_62 rfl ?_
                      refine z_const gg206_63 (v := 4) rfl ?_
                      refine z_icmple gg206_64 (tg := 74) rfl (by omega) (by omega) (fun c5 => ?_) (fun c5 => ?_)
                      · try (exfalso; omega)
                        all_goals (
                          refine q_iload gg206_74 rfl ?_
                          refine q_iload gg206_75 rfl ?_
                          refine z_const gg206_76 (v := 1) rfl ?_
                          first | refine z_iushr gg206_77 (by omega) (by omega) (by omega) (by omega) (fun s77 es77 ls77 us77 => ?_) | refine q_iushr gg206_77 ?_
                          first | refine z_iadd gg206_78 ?_ | refine q_iadd gg206_78 ?_
                          refine q_iret gg206_79 ?_
                          refine qv ?_ kk
                          omega
                        )
                      · try (exfalso; omega)
                        all_goals (
                          refine z_iinc gg206_67 rfl rfl ?_
                          refine q_iload gg206_70 rfl ?_
                          refine z_const gg206_71 (v := 2) rfl ?_
                          first | refine z_iushr gg206_72 (by omega) (by omega) (by omega) (by omega) (fun s72 es72 ls72 us72 => ?_) | refine q_iushr gg206_72 ?_
                          refine q_istore gg206_73 rfl ?_
                          refine q_iload gg206_74 rfl ?_
                          refine q_iload gg206_75 rfl ?_
                          refine z_const gg206_76 (v := 1) rfl ?_
                          first | refine z_iushr gg206_77 (by omega) (by omega) (by omega) (by omega) (fun s77 es77 ls77 us77 => ?_) | refine q_iushr gg206_77 ?_
                          first | refine z_iadd gg206_78 ?_ | refine q_iadd gg206_78 ?_
                          refine q_iret gg206_79 ?_
                          refine qv ?_ kk
                          omega
                        )
                    )
                  · try (exfalso; omega)
                    all_goals (
                      refine z_iinc gg206_55 rfl rfl ?_
                      refine q_iload gg206_58 rfl ?_
                      refine z_const gg206_59 (v := 4) rfl ?_
                      first | refine z_iushr gg206_60 (by omega) (by omega) (by omega) (by omega) (fun s60 es60 ls60 us60 => ?_) | refine q_iushr gg206_60 ?_
                      refine q_istore gg206_61 rfl ?_
                      refine q_iload gg206_62 rfl ?_
                      refine z_const gg206_63 (v := 4) rfl ?_
                      refine z_icmple gg206_64 (tg := 74) rfl (by omega) (by omega) (fun c5 => ?_) (fun c5 => ?_)
                      · try (exfalso; omega)
                        all_goals (
                          refine q_iload gg206_74 rfl ?_
                          refine q_iload gg206_75 rfl ?_
                          refine z_const gg206_76 (v := 1) rfl ?_
                          first | refine z_iushr gg206_77 (by omega) (by omega) (by omega) (by omega) (fun s77 es77 ls77 us77 => ?_) | refine q_iushr gg206_77 ?_
                          first | refine z_iadd gg206_78 ?_ | refine q_iadd gg206_78 ?_
                          refine q_iret gg206_79 ?_
                          refine qv ?_ kk
                          omega
                        )
                      · try (exfalso; omega)
                        all_goals (
                          refine z_iinc gg206_67 rfl rfl ?_
                          refine q_iload gg206_70 rfl ?_
                          refine z_const gg206_71 (v := 2) rfl ?_
                          first | refine z_iushr gg206_72 (by omega) (by omega) (by omega) (by omega) (fun s72 es72 ls72 us72 => ?_) | refine q_iushr gg206_72 ?_
                          refine q_istore gg206_73 rfl ?_
                          refine q_iload gg206_74 rfl ?_
                          refine q_iload gg206_75 rfl ?_
                          refine z_const gg206_76 (v := 1) rfl ?_
                          first | refine z_iushr gg206_77 (by omega) (by omega) (by omega) (by omega) (fun s77 es77 ls77 us77 => ?_) | refine q_iushr gg206_77 ?_
                          first | refine z_iadd gg206_78 ?_ | refine q_iadd gg206_78 ?_
                          refine q_iret gg206_79 ?_
                          refine qv ?_ kk
                          omega
                        )
                    )
                )
            )
          · try (exfalso; omega)
            all_goals (
              refine z_iinc gg206_26 rfl rfl ?_
              refine q_iload gg206_29 rfl ?_
              refine z_const gg206_30 (v := 16) rfl ?_
              first | refine z_iushr gg206_32 (by omega) (by omega) (by omega) (by omega) (fun s32 es32 ls32 us32 => ?_) | refine q_iushr gg206_32 ?_
              refine q_istore gg206_33 rfl ?_
              refine q_iload gg206_34 rfl ?_
              refine z_const gg206_35 (v := 256) rfl ?_
              refine z_icmple gg206_38 (tg := 49) rfl (by omega) (by omega) (fun c3 => ?_) (fun c3 => ?_)
              · try (exfalso; omega)
                all_goals (
                  refine q_iload gg206_49 rfl ?_
                  refine z_const gg206_50 (v := 16) rfl ?_
                  refine z_icmple gg206_52 (tg := 62) rfl (by omega) (by omega) (fun c4 => ?_) (fun c4 => ?_)
                  · try (exfalso; omega)
                    all_goals (
                      refine q_iload gg206_62 rfl ?_
                      refine z_const gg206_63 (v := 4) rfl ?_
                      refine z_icmple gg206_64 (tg := 74) rfl (by omega) (by omega) (fun c5 => ?_) (fun c5 => ?_)
                      · try (exfalso; omega)
                        all_goals (
                          refine q_iload gg206_74 rfl ?_
                          refine q_iload gg206_75 rfl ?_
                          refine z_const gg206_76 (v := 1) rfl ?_
                          first | refine z_iushr gg206_77 (by omega) (by omega) (by omega) (by omega) (fun s77 es77 ls77 us77 => ?_) | refine q_iushr gg206_77 ?_
                          first | refine z_iadd gg206_78 ?_ | refine q_iadd gg206_78 ?_
                          refine q_iret gg206_79 ?_
                          refine qv ?_ kk
                          omega
                        )
                      · try (exfalso; omega)
                        all_goals (
                          refine z_iinc gg206_67 rfl rfl ?_
                          refine q_iload gg206_70 rfl ?_
                          refine z_const gg206_71 (v := 2) rfl ?_
                          first | refine z_iushr gg206_72 (by omega) (by omega) (by omega) (by omega) (fun s72 es72 ls72 us72 => ?_) | refine q_iushr gg206_72 ?_
                          refine q_istore gg206_73 rfl ?_
                          refine q_iload gg206_74 rfl ?_
                          refine q_iload gg206_75 rfl ?_
                          refine z_const gg206_76 (v := 1) rfl ?_
                          first | refine z_iushr gg206_77 (by omega) (by omega) (by omega) (by omega) (fun s77 es77 ls77 us77 => ?_) | refine q_iushr gg206_77 ?_
                          first | refine z_iadd gg206_78 ?_ | refine q_iadd gg206_78 ?_
                          refine q_iret gg206_79 ?_
                          refine qv ?_ kk
                          omega
                        )
                    )
                  · try (exfalso; omega)
                    all_goals (
                      refine z_iinc gg206_55 rfl rfl ?_
                      refine q_iload gg206_58 rfl ?_
                      refine z_const gg206_59 (v := 4) rfl ?_
                      first | refine z_iushr gg206_60 (by omega) (by omega) (by omega) (by omega) (fun s60 es60 ls60 us60 => ?_) | refine q_iushr gg206_60 ?_
                      refine q_istore gg206_61 rfl ?_
                      refine q_iload gg206_62 rfl ?_
                      refine z_const gg206_63 (v := 4) rfl ?_
                      refine z_icmple gg206_64 (tg := 74) rfl (by omega) (by omega) (fun c5 => ?_) (fun c5 => ?_)
                      · try (exfalso; omega)
                        all_goals (
                          refine q_iload gg206_74 rfl ?_
                          refine q_iload gg206_75 rfl ?_
                          refine z_const gg206_76 (v := 1) rfl ?_
                          first | refine z_iushr gg206_77 (by omega) (by omega) (by omega) (by omega) (fun s77 es77 ls77 us77 => ?_) | refine q_iushr gg206_77 ?_
                          first | refine z_iadd gg206_78 ?_ | refine q_iadd gg206_78 ?_
                          refine q_iret gg206_79 ?_
                          refine qv ?_ kk
                          omega
                        )
                      · try (exfalso; omega)
                        all_goals (
                          refine z_iinc gg206_67 rfl rfl ?_
                          refine q_iload gg206_70 rfl ?_
                          refine z_const gg206_71 (v := 2) rfl ?_
                          first | refine z_iushr gg206_72 (by omega) (by omega) (by omega) (by omega) (fun s72 es72 ls72 us72 => ?_) | refine q_iushr gg206_72 ?_
                          refine q_istore gg206_73 rfl ?_
                          refine q_iload gg206_74 rfl ?_
                          refine q_iload gg206_75 rfl ?_
                          refine z_const gg206_76 (v := 1) rfl ?_
                          first | refine z_iushr gg206_77 (by omega) (by omega) (by omega) (by omega) (fun s77 es77 ls77 us77 => ?_) | refine q_iushr gg206_77 ?_
                          first | refine z_iadd gg206_78 ?_ | refine q_iadd gg206_78 ?_
                          refine q_iret gg206_79 ?_
                          refine qv ?_ kk
                          omega
                        )
                    )
                )
              · try (exfalso; omega)
                all_goals (
                  refine z_iinc gg206_41 rfl rfl ?_
                  refine q_iload gg206_44 rfl ?_
                  refine z_const gg206_45 (v := 8) rfl ?_
                  first | refine z_iushr gg206_47 (by omega) (by omega) (by omega) (by omega) (fun s47 es47 ls47 us47 => ?_) | refine q_iushr gg206_47 ?_
                  refine q_istore gg206_48 rfl ?_
                  refine q_iload gg206_49 rfl ?_
                  refine z_const gg206_50 (v := 16) rfl ?_
                  refine z_icmple gg206_52 (tg := 62) rfl (by omega) (by omega) (fun c4 => ?_) (fun c4 => ?_)
                  · try (exfalso; omega)
                    all_goals (
                      refine q_iload gg206_62 rfl ?_
                      refine z_const gg206_63 (v := 4) rfl ?_
                      refine z_icmple gg206_64 (tg := 74) rfl (by omega) (by omega) (fun c5 => ?_) (fun c5 => ?_)
                      · try (exfalso; omega)
                        all_goals (
                          refine q_iload gg206_74 rfl ?_
                          refine q_iload gg206_75 rfl ?_
                          refine z_const gg206_76 (v := 1) rfl ?_
                          first | refine z_iushr gg206_77 (by omega) (by omega) (by omega) (by omega) (fun s77 es77 ls77 us77 => ?_) | refine q_iushr gg206_77 ?_
                          first | refine z_iadd gg206_78 ?_ | refine q_iadd gg206_78 ?_
                          refine q_iret gg206_79 ?_
                          refine qv ?_ kk
                          omega
                        )
                      · try (exfalso; omega)
                        all_goals (
                          refine z_iinc gg206_67 rfl rfl ?_
                          refine q_iload gg206_70 rfl ?_
                          refine z_const gg206_71 (v := 2) rfl ?_
                          first | refine z_iushr gg206_72 (by omega) (by omega) (by omega) (by omega) (fun s72 es72 ls72 us72 => ?_) | refine q_iushr gg206_72 ?_
                          refine q_istore gg206_73 rfl ?_
                          refine q_iload gg206_74 rfl ?_
                          refine q_iload gg206_75 rfl ?_
                          refine z_const gg206_76 (v := 1) rfl ?_
                          first | refine z_iushr gg206_77 (by omega) (by omega) (by omega) (by omega) (fun s77 es77 ls77 us77 => ?_) | refine q_iushr gg206_77 ?_
                          first | refine z_iadd gg206_78 ?_ | refine q_iadd gg206_78 ?_
                          refine q_iret gg206_79 ?_
                          refine qv ?_ kk
                          omega
                        )
                    )
                  · try (exfalso; omega)
                    all_goals (
                      refine z_iinc gg206_55 rfl rfl ?_
                      refine q_iload gg206_58 rfl ?_
                      refine z_const gg206_59 (v := 4) rfl ?_
                      first | refine z_iushr gg206_60 (by omega) (by omega) (by omega) (by omega) (fun s60 es60 ls60 us60 => ?_) | refine q_iushr gg206_60 ?_
                      refine q_istore gg206_61 rfl ?_
                      refine q_iload gg206_62 rfl ?_
                      refine z_const gg206_63 (v := 4) rfl ?_
                      refine z_icmple gg206_64 (tg := 74) rfl (by omega) (by omega) (fun c5 => ?_) (fun c5 => ?_)
                      · try (exfalso; omega)
                        all_goals (
                          refine q_iload gg206_74 rfl ?_
                          refine q_iload gg206_75 rfl ?_
                          refine z_const gg206_76 (v := 1) rfl ?_
                          first | refine z_iushr gg206_77 (by omega) (by omega) (by omega) (by omega) (fun s77 es77 ls77 us77 => ?_) | refine q_iushr gg206_77 ?_
                          first | refine z_iadd gg206_78 ?_ | refine q_iadd gg206_78 ?_
                          refine q_iret gg206_79 ?_
                          refine qv ?_ kk
                          omega
                        )
                      · try (exfalso; omega)
                        all_goals (
                          refine z_iinc gg206_67 rfl rfl ?_
                          refine q_iload gg206_70 rfl ?_
                          refine z_const gg206_71 (v := 2) rfl ?_
                          first | refine z_iushr gg206_72 (by omega) (by omega) (by omega) (by omega) (fun s72 es72 ls72 us72 => ?_) | refine q_iushr gg206_72 ?_
                          refine q_istore gg206_73 rfl ?_
                          refine q_iload gg206_74 rfl ?_
                          refine q_iload gg206_75 rfl ?_
                          refine z_const gg206_76 (v := 1) rfl ?_
                          first | refine z_iushr gg206_77 (by omega) (by omega) (by omega) (by omega) (fun s77 es77 ls77 us77 => ?_) | refine q_iushr gg206_77 ?_
                          first | refine z_iadd gg206_78 ?_ | refine q_iadd gg206_78 ?_
                          refine q_iret gg206_79 ?_
                          refine qv ?_ kk
                          omega
                        )
                    )
                )
            )
        )
      · try (exfalso; omega)
        all_goals (
          refine q_iload gg206_12 rfl ?_
          refine z_const gg206_13 (v := 32) rfl ?_
          first | refine z_iand1 gg206_15 (by omega) (by omega) ?_ | refine z_iandn gg206_15 (by omega) (by omega) (by omega) (by omega) ?_ | refine q_iand gg206_15 ?_
          refine q_iret gg206_16 ?_
          exfalso
          omega
        )
  rcases h7 with h | h | h | h | h | h | h
  all_goals (rw [h]; exact gen _ (by decide) (by decide) (by rw [h]; decide) (by rw [h]; decide))
theorem ntz7_eq (hb0 : 0 ≤ b) (hb : b < 7) (h1 : zbit x b = 1) (h0 : ∀ c : Int, 0 ≤ c → c < b → zbit x c = 0) : ntz7 x = b := by
  have g0 := h0 0 (by decide); have g1 := h0 1 (by decide); have g2 := h0 2 (by decide); have g3 := h0 3 (by decide); have g4 := h0 4 (by decide); have g5 := h0 5 (by decide)
  have h7 : b = 0 ∨ b = 1 ∨ b = 2 ∨ b = 3 ∨ b = 4 ∨ b = 5 ∨ b = 6 := by omega
  unfold ntz7
  rcases h7 with rfl | rfl | rfl | rfl | rfl | rfl | rfl <;> ((repeat' split) <;> omega)
/-- which have burst that had not -/
def dSet (w0 v : Int → Int) : Int := bsum (mFlag v 5) 7 - zand (bsum (mFlag v 5) 7) (bsum (mFlag w0 5) 7)
noncomputable def aFi (w0 : Int → Int) (y : Int) : Nat → (Int → Int) → Int → Int
  | 0, _, _ => -1000000
  | m + 1, w, j => if dSet w0 (mPass w) ≠ 0 then (if y = 0 then ntz7 (dSet w0 (mPass w)) else j) else aFi w0 y m (mPass w) (j + 1)
theorem aFi_t {m : Nat} {j : Int} (h : dSet w0 (mPass w) ≠ 0) : aFi w0 y (m + 1) w j = (if y = 0 then ntz7 (dSet w0 (mPass w)) else j) := by simp [aFi, h]
theorem aFi_f {m : Nat} {j : Int} (h : dSet w0 (mPass w) = 0) : aFi w0 y (m + 1) w j = aFi w0 y m (mPass w) (j + 1) := by simp [aFi, h]
noncomputable def aFirst (w : Int → Int) (y : Int) : Int := if w 2 = 0 then -1000002 else if 0 ≤ y ∧ y ≤ 1 then aFi w y 60 w 1 else -1000001
theorem aFirst_y (h2 : w 2 ≠ 0) (hc : 0 ≤ y ∧ y ≤ 1) : aFirst w y = aFi w y 60 w 1 := by unfold aFirst; rw [if_neg h2, if_pos hc]
theorem c_firstToBurst (hy0 : 0 ≤ y) (hy1 : y ≤ 1) (h : Hb M 7 w) (hw : mWf w) (h3 : w 3 ≤ 9999) (kk : ∀ (M' : hm_M), FT M M' → Q (some (.inl (zI (aFi w y 60 w 1)))) M') : hm_Wp (d + 5) 13 0 [some (.inr (.inr 21)), some (.inl (zI y)), none, none] [] M Q := by
  have hn := hw.1.1
  have L : ∀ (m : Nat) (j : Int) (N : hm_M) (v : Int → Int) (x3 : Option hm_V), hm_free [some (.inr (.inr 21)), some (.inl (zI y)), some (.inl (zI j)), x3] 3 = true → 0 ≤ j → j + m = 61 → Hb N 22 v → mWf v → v 3 + m ≤ 20000 → FT M N → aFi w y m v j = aFi w y 60 w 1 → hm_Wp (d + 5) 13 6 [some (.inr (.inr 21)), some (.inl (zI y)), some (.inl (zI j)), x3] [] N Q := by
    intro m
    induction m with
    | zero =>
      intro j N v x3 hx hj0 hjm hN hv hv3 hft heq
      refine q_iload gg13_6 rfl ?_
      refine z_const gg13_7 (v := 60) rfl ?_
      refine z_icmpgt gg13_9 (tg := 61) rfl (by omega) (by omega) (fun c1 => ?_) (fun z => absurd z (by omega))
      refine z_neg gg13_61 ?_
      refine q_iret gg13_63 ?_
      refine qv ?_ (kk _ hft)
      rw [← heq]
      rfl
    | succ m ih =>
      intro j N v x3 hx hj0 hjm hN hv hv3 hft heq
      have hv' := mWf_pass hv (by omega)
      have s5 := bsum7_lt (hv'.f01 (q := 5) (by decide) (by decide))
      have t5 := bsum7_lt (hw.f01 (q := 5) (by decide) (by decide))
      have hd := zandn_lt s5.1 s5.2 t5.1 t5.2
      have hde : dSet w (mPass v) = bsum (mFlag (mPass v) 5) 7 - zand (bsum (mFlag (mPass v) 5) 7) (bsum (mFlag w 5) 7) := rfl
      rw [← hde] at hd
      refine q_iload gg13_6 rfl ?_
      refine z_const gg13_7 (v := 60) rfl ?_
      refine z_icmpgt gg13_9 (tg := 61) rfl (by omega) (by omega) (fun z => absurd z (by omega)) (fun c1 => ?_)
      refine q_aload gg13_12 rfl ?_
      refine q_getr gg13_13 rfl ?_
      refine q_call1 gg13_16 tt43 rfl (Nat.le_of_ble_eq_true rfl) (hm_rv (by decide +kernel)) (ls' := [some _, none, none, none]) rfl rfl ?_
      refine c_boil (by omega) hN hv (by omega) (fun M1 G1 hM1 hfr1 hG1 => ?_)
      have h9 := hM1.1.2.2.2.2.1
      have hft1 : FT M M1 := hft.tr hfr1.ft
      have g9 := (h.ft hft1).1.2.2.2.2.1
      show hm_Wp _ _ _ _ (_ :: _) _ _
      refine q_pop gg13_19 rfl ?_
      refine q_aload gg13_20 rfl ?_
      refine q_getr gg13_21 rfl ?_
      first | refine z_getf gg13_24 rfl (by assumption) ?_ | refine q_getf gg13_24 rfl ?_
      refine q_aload gg13_27 rfl ?_
      refine q_getr gg13_28 rfl ?_
      first | refine z_getf gg13_31 rfl (by assumption) ?_ | refine q_getf gg13_31 rfl ?_
      refine z_neg gg13_34 ?_
      first | refine z_inot gg13_35 (by omega) (by omega) ?_ | refine q_ixor gg13_35 ?_
      first | refine z_iand1 gg13_36 (by omega) (by omega) ?_ | refine z_iandn gg13_36 (by omega) (by omega) (by omega) (by omega) ?_ | refine q_iand gg13_36 ?_
      refine q_istore gg13_37 rfl ?_
      rw [← hde]
      refine q_iload gg13_38 rfl ?_
      refine z_ifeq gg13_39 (tg := 55) rfl (by omega) (fun c1 => ?_) (fun c1 => ?_)
      · try (exfalso; omega)
        all_goals (
          refine z_iinc gg13_55 rfl rfl ?_
          refine q_goto gg13_58 (tg := 6) rfl ?_
          refine ih (j + 1) M1 (mPass v) _ rfl (by omega) (by omega) hM1 hv' (by rw [mPass_3]; omega) hft1 ?_
          rw [← heq, aFi_f (by omega)]
        )
      · try (exfalso; omega)
        all_goals (
          refine q_iload gg13_42 rfl ?_
          refine z_ifne gg13_43 (tg := 53) rfl (by omega) (fun c2 => ?_) (fun c2 => ?_)
          · try (exfalso; omega)
            all_goals (
              refine q_iload gg13_53 rfl ?_
              refine q_iret gg13_54 ?_
              refine qv ?_ (kk _ hft1)
              rw [← heq, aFi_t (by omega)]
              (repeat' split) <;> omega
            )
          · try (exfalso; omega)
            all_goals (
              refine q_iload gg13_46 rfl ?_
              refine q_call1 gg13_47 tt206 rfl (Nat.le_of_ble_eq_true rfl) rfl (ls' := [some _, none]) rfl rfl ?_
              refine c_ntz (by omega) (by omega) ?_
              show hm_Wp _ _ _ _ (_ :: _) _ _
              refine q_goto gg13_50 (tg := 54) rfl ?_
              refine q_iret gg13_54 ?_
              refine qv ?_ (kk _ hft1)
              rw [← heq, aFi_t (by omega)]
              (repeat' split) <;> omega
            )
        )
  refine q_aload gg13_0 rfl ?_
  refine q_call1 gg13_1 tt27 rfl (Nat.le_of_ble_eq_true rfl) (hm_rv (by decide +kernel)) (ls' := [some _]) rfl rfl ?_
  refine c_beginTrial h hw (fun M1 h1 h17 hft => ?_)
  show hm_Wp _ _ _ _ _ _ _
  refine z_const gg13_4 (v := 1) rfl ?_
  refine q_istore gg13_5 rfl ?_
  exact L 60 1 M1 w none rfl (by decide) (by decide) h1 hw (by omega) hft rfl
theorem c_first (hy : zR y) (h : Hb M 7 w) (hw : mWf w) (h3 : w 3 ≤ 9999) (kk : ∀ (M' : hm_M), FT M M' → Q (some (.inl (zI (aFirst w y)))) M') : hm_Wp (d + 6) 103 0 [some (.inr (.inr 0)), some (.inl (zI y))] [] M Q := by
  have hn := hw.1.1
  have h4 := h.1.1
  unfold zR at hy
  refine q_aload gg103_0 rfl ?_
  refine q_getr gg103_1 rfl ?_
  refine q_call1 gg103_4 tt31 rfl (Nat.le_of_ble_eq_true rfl) (hm_rv (by decide +kernel)) (ls' := [some _]) rfl rfl ?_
  refine q_aload gg31_0 rfl ?_
  first | refine z_getf gg31_1 rfl (by assumption) ?_ | refine q_getf gg31_1 rfl ?_
  refine z_ifne gg31_4 (tg := 11) rfl (by omega) (fun c1 => ?_) (fun c1 => ?_)
  · try (exfalso; omega)
    all_goals (
      refine z_const gg31_11 (v := 0) rfl ?_
      refine z_zretC gg31_12 (by omega) ?_
      refine z_ifeq gg103_7 (tg := 13) rfl (by decide) (fun _ => ?_) (fun z => absurd z (by decide))
      refine q_iload gg103_13 rfl ?_
      refine q_call1 gg103_14 tt122 rfl (Nat.le_of_ble_eq_true rfl) rfl (ls' := [some _]) rfl rfl ?_
      refine q_iload gg122_0 rfl ?_
      refine z_ifeq gg122_1 (tg := 9) rfl (by omega) (fun c2 => ?_) (fun c2 => ?_)
      · try (exfalso; omega)
        all_goals (
          refine z_const gg122_9 (v := 1) rfl ?_
          refine q_goto gg122_10 (tg := 14) rfl ?_
          refine z_zretC gg122_14 (by omega) ?_
          refine z_ifne gg103_17 (tg := 23) rfl (by decide) (fun _ => ?_) (fun z => absurd z (by decide))
          refine q_aload gg103_23 rfl ?_
          refine q_getr gg103_24 rfl ?_
          refine q_iload gg103_27 rfl ?_
          refine q_call2 gg103_28 tt13 rfl (Nat.le_of_ble_eq_true rfl) (hm_rv (by decide +kernel)) (ls' := [some _, some _, none, none]) rfl rfl ?_
          refine c_firstToBurst (by omega) (by omega) h hw h3 (fun M1 hft => ?_)
          show hm_Wp _ _ _ _ (_ :: _) _ _
          refine q_iret gg103_31 ?_
          exact qv (aFirst_y (by omega) (by omega)).symm (kk _ hft)
        )
      · try (exfalso; omega)
        all_goals (
          refine q_iload gg122_4 rfl ?_
          refine z_const gg122_5 (v := 1) rfl ?_
          refine z_icmpne gg122_6 (tg := 13) rfl (by omega) (by omega) (fun c3 => ?_) (fun c3 => ?_)
          · try (exfalso; omega)
            all_goals (
              refine z_const gg122_13 (v := 0) rfl ?_
              refine z_zretC gg122_14 (by omega) ?_
              refine z_ifne gg103_17 (tg := 23) rfl (by decide) (fun z => absurd z (by decide)) (fun _ => ?_)
              refine z_neg gg103_20 ?_
              refine q_iret gg103_22 ?_
              refine qv ?_ (kk _ FT.rf)
              unfold aFirst
              rw [if_neg (by omega), if_neg (by omega)]
            )
          · try (exfalso; omega)
            all_goals (
              refine z_const gg122_9 (v := 1) rfl ?_
              refine q_goto gg122_10 (tg := 14) rfl ?_
              refine z_zretC gg122_14 (by omega) ?_
              refine z_ifne gg103_17 (tg := 23) rfl (by decide) (fun _ => ?_) (fun z => absurd z (by decide))
              refine q_aload gg103_23 rfl ?_
              refine q_getr gg103_24 rfl ?_
              refine q_iload gg103_27 rfl ?_
              refine q_call2 gg103_28 tt13 rfl (Nat.le_of_ble_eq_true rfl) (hm_rv (by decide +kernel)) (ls' := [some _, some _, none, none]) rfl rfl ?_
              refine c_firstToBurst (by omega) (by omega) h hw h3 (fun M1 hft => ?_)
              show hm_Wp _ _ _ _ (_ :: _) _ _
              refine q_iret gg103_31 ?_
              exact qv (aFirst_y (by omega) (by omega)).symm (kk _ hft)
            )
        )
    )
  · try (exfalso; omega)
    all_goals (
      refine z_const gg31_7 (v := 1) rfl ?_
      refine q_goto gg31_8 (tg := 12) rfl ?_
      refine z_zretC gg31_12 (by omega) ?_
      refine z_ifeq gg103_7 (tg := 13) rfl (by decide) (fun z => absurd z (by decide)) (fun _ => ?_)
      refine z_neg gg103_10 ?_
      refine q_iret gg103_12 ?_
      refine qv ?_ (kk _ FT.rf)
      unfold aFirst
      rw [if_pos (by omega)]
    )
theorem dSet_bits (hw : mWf w) (hv : mWf v) (h2 : v 2 = w 2) (hb : ∀ c : Int, 0 ≤ c → c < w 2 → zbit (dSet w v) c = 0) : dSet w v = 0 := by
  have s5 := bsum7_lt (hv.f01 (q := 5) (by decide) (by decide))
  have t5 := bsum7_lt (hw.f01 (q := 5) (by decide) (by decide))
  have hd := zandn_lt s5.1 s5.2 t5.1 t5.2
  have hn := hw.1.1
  have e : dSet w v = bsum (fun _ => 0) 7 := zbits_eq hd.1 hd.2 (fun c c0 c1 => by
    by_cases hc : c < w 2
    · exact hb c c0 hc
    · have e1 := zandn_b s5.1 s5.2 t5.1 t5.2 c0 c1
      have e2 := zbit_bsum (hv.f01 (q := 5) (by decide) (by decide)) c0 c1
      have e3 := hv.2.2.2.1 c 5 (by omega) (by omega) (by decide) (by decide)
      have e4 : mFlag v 5 c = 0 := e3
      show zbit (bsum (mFlag v 5) 7 - zand (bsum (mFlag v 5) 7) (bsum (mFlag w 5) 7)) c = 0
      rw [e1, e2, e4]; split <;> rfl)
  rw [e]; rfl
theorem r_first (hy : zR y) (hf : aw (M 36) 53 0 20000 w) (hw : mWf w) (hc : w 2 = 0 ↔ w 1 = 0) (h3 : w 3 ≤ 9999) (kk : ∀ (M' : hm_M), FR M M' → Q (some (.inl (zI (aFirst w y)))) M') : hm_Wp (d + 6) 179 0 [some (.inr (.inr 30)), some (.inl (zI y)), none, none, none] [] M Q := by
  have hn := hw.1.1
  unfold zR at hy
  have hself : ∀ f2, hm_row M 38 f2 = hm_row (hm_row M 38 f2) 36 (hm_row M 38 f2 36) := fun f2 => (hm_row_self _ _).symm
  have hrow : ∀ f2, aw (hm_row M 38 f2 36) 53 0 20000 w := fun f2 => by rw [hm_row_ne _ _ (by decide)]; exact hf
  have L : w 2 ≠ 0 → 0 ≤ y → y ≤ 1 → ∀ (m : Nat) (j : Int) (f : Nat → Int32) (v : Int → Int) (x3 x4 : Option hm_V), hm_free [some (.inr (.inr 30)), some (.inl (zI y)), some (.inl (zI j)), x3, x4] 3 = true → hm_free [some (.inr (.inr 30)), some (.inl (zI y)), some (.inl (zI j)), x3, x4] 4 = true → 0 ≤ j → j + m = 61 → aw f 53 0 20000 v → mWf v → v 2 = w 2 → v 3 + m ≤ 20000 → aFi w y m v j = aFi w y 60 w 1 → hm_Wp (d + 6) 179 37 [some (.inr (.inr 30)), some (.inl (zI y)), some (.inl (zI j)), x3, x4] [] (hm_row M 38 f) Q := by
    intro hw2 hy0 hy1 m
    have hA := aFirst_y (y := y) hw2 ⟨hy0, hy1⟩
    induction m with
    | zero =>
      intro j f v x3 x4 hx3 hx4 hj0 hjm hN hv hv2 hv3 heq
      refine q_iload gg179_37 rfl ?_
      refine z_const gg179_38 (v := 61) rfl ?_
      refine z_icmpge gg179_40 (tg := 116) rfl (by omega) (by omega) (fun c1 => ?_) (fun z => absurd z (by omega))
      refine z_neg gg179_116 ?_
      refine q_iret gg179_118 ?_
      refine qv ?_ (kk _ FR.row)
      rw [hA, ← heq]
      rfl
    | succ m ih =>
      intro j f v x3 x4 hx3 hx4 hj0 hjm hN hv hv2 hv3 heq
      have hv' := mWf_pass hv (by omega)
      have hp2 : mPass v 2 = w 2 := by rw [mPass_2]; exact hv2
      have s5 := bsum7_lt (hv'.f01 (q := 5) (by decide) (by decide))
      have t5 := bsum7_lt (hw.f01 (q := 5) (by decide) (by decide))
      have hd := zandn_lt s5.1 s5.2 t5.1 t5.2
      have hde : dSet w (mPass v) = bsum (mFlag (mPass v) 5) 7 - zand (bsum (mFlag (mPass v) 5) 7) (bsum (mFlag w 5) 7) := rfl
      rw [← hde] at hd
      have hdb := dSet_bits hw hv' hp2
      have L1 : ∀ (m' : Nat) (c : Int) (f : Nat → Int32), 0 ≤ c → c + m' = w 2 → aw f 53 0 20000 (mPass v) → (∀ c' : Int, 0 ≤ c' → c' < c → zbit (dSet w (mPass v)) c' = 0) → hm_Wp (d + 6) 179 73 [some (.inr (.inr 30)), some (.inl (zI y)), some (.inl (zI j)), some (.inl (zI (dSet w (mPass v)))), some (.inl (zI c))] [] (hm_row M 38 f) Q := by
        intro m'
        induction m' with
        | zero =>
          intro c f hc0 hcm hf2 hall
          have hz0 := hdb (fun c' a b => hall c' a (by omega))
          have hr2 := hrow f
          refine q_iload gg179_73 rfl ?_
          refine q_aload gg179_75 rfl ?_
          refine q_getr gg179_76 rfl ?_
          refine z_const gg179_79 (v := 2) rfl ?_
          first | refine z_alr gg179_80 (by first | rfl | assumption) (by assumption) (by omega) (by omega) (by omega) (by decide) (fun v80 ev80 lv80 uv80 => ?_) | refine z_alx gg179_80 rfl (by assumption) (by omega) (by omega) (by omega) (by decide) (fun v80 ev80 lv80 uv80 => ?_) <;> (try dsimp only at ev80)
          refine z_icmpge gg179_81 (tg := 110) rfl (by omega) (by omega) (fun c1 => ?_) (fun z => absurd z (by omega))
          refine z_iinc gg179_110 rfl rfl ?_
          refine q_goto gg179_113 (tg := 37) rfl ?_
          refine ih (j + 1) f (mPass v) _ _ rfl rfl (by omega) (by omega) hf2 hv' hp2 (by rw [mPass_3]; omega) ?_
          rw [← heq, aFi_f hz0]
        | succ m' ih' =>
          intro c f hc0 hcm hf2 hall
          have hr2 := hrow f
          have hz : zbit (dSet w (mPass v)) c = dSet w (mPass v) / 2 ^ c.toNat % 2 := rfl
          refine q_iload gg179_73 rfl ?_
          refine q_aload gg179_75 rfl ?_
          refine q_getr gg179_76 rfl ?_
          refine z_const gg179_79 (v := 2) rfl ?_
          first | refine z_alr gg179_80 (by first | rfl | assumption) (by assumption) (by omega) (by omega) (by omega) (by decide) (fun v80 ev80 lv80 uv80 => ?_) | refine z_alx gg179_80 rfl (by assumption) (by omega) (by omega) (by omega) (by decide) (fun v80 ev80 lv80 uv80 => ?_) <;> (try dsimp only at ev80)
          refine z_icmpge gg179_81 (tg := 110) rfl (by omega) (by omega) (fun z => absurd z (by omega)) (fun c1 => ?_)
          refine q_iload gg179_84 rfl ?_
          refine q_iload gg179_85 rfl ?_
          refine q_call2 gg179_87 tt125 rfl (Nat.le_of_ble_eq_true rfl) rfl (ls' := [some _, some _]) rfl rfl ?_
          refine q_iload gg125_0 rfl ?_
          refine q_iload gg125_1 rfl ?_
          first | refine z_ishr gg125_2 (by omega) (by omega) (by omega) (by omega) (fun shas_2 eshas_2 lshas_2 ushas_2 => ?_) | refine q_ishr gg125_2 ?_
          refine z_const gg125_3 (v := 1) rfl ?_
          first | refine z_iand1 gg125_4 (by omega) (by omega) ?_ | refine z_iandn gg125_4 (by omega) (by omega) (by omega) (by omega) ?_ | refine q_iand gg125_4 ?_
          refine z_const gg125_5 (v := 1) rfl ?_
          refine z_icmpne gg125_6 (tg := 13) rfl (by omega) (by omega) (fun c2 => ?_) (fun c2 => ?_)
          · try (exfalso; omega)
            all_goals (
              refine z_const gg125_13 (v := 0) rfl ?_
              refine z_zretC gg125_14 (by omega) ?_
              refine z_ifeq gg179_90 (tg := 104) rfl (by decide) (fun _ => ?_) (fun z => absurd z (by decide))
              refine z_iinc gg179_104 rfl rfl ?_
              refine q_goto gg179_107 (tg := 73) rfl ?_
              exact ih' (c + 1) f (by omega) (by omega) hf2 (fun c' a b => by by_cases hcc : c' = c; (subst hcc; omega); exact hall c' a (by omega))
            )
          · try (exfalso; omega)
            all_goals (
              refine z_const gg125_9 (v := 1) rfl ?_
              refine q_goto gg125_10 (tg := 14) rfl ?_
              refine z_zretC gg125_14 (by omega) ?_
              refine z_ifeq gg179_90 (tg := 104) rfl (by decide) (fun z => absurd z (by decide)) (fun _ => ?_)
              refine q_iload gg179_93 rfl ?_
              refine z_ifne gg179_94 (tg := 102) rfl (by omega) (fun c3 => ?_) (fun c3 => ?_)
              · try (exfalso; omega)
                all_goals (
                  refine q_iload gg179_102 rfl ?_
                  refine q_iret gg179_103 ?_
                  have hz1 : zbit (dSet w (mPass v)) c = 1 := by omega
                  have hne : dSet w (mPass v) ≠ 0 := by
                    intro h0; rw [h0] at hz1
                    simp [zbit] at hz1
                  have hnt := ntz7_eq hc0 (by omega) hz1 hall
                  refine qv ?_ (kk _ FR.row)
                  rw [hA, ← heq, aFi_t hne, hnt]
                  (repeat' split) <;> omega
                )
              · try (exfalso; omega)
                all_goals (
                  refine q_iload gg179_97 rfl ?_
                  refine q_goto gg179_99 (tg := 103) rfl ?_
                  refine q_iret gg179_103 ?_
                  have hz1 : zbit (dSet w (mPass v)) c = 1 := by omega
                  have hne : dSet w (mPass v) ≠ 0 := by
                    intro h0; rw [h0] at hz1
                    simp [zbit] at hz1
                  have hnt := ntz7_eq hc0 (by omega) hz1 hall
                  refine qv ?_ (kk _ FR.row)
                  rw [hA, ← heq, aFi_t hne, hnt]
                  (repeat' split) <;> omega
                )
            )
      refine q_iload gg179_37 rfl ?_
      refine z_const gg179_38 (v := 61) rfl ?_
      refine z_icmpge gg179_40 (tg := 116) rfl (by omega) (by omega) (fun z => absurd z (by omega)) (fun c1 => ?_)
      refine q_aload gg179_43 rfl ?_
      refine q_getr gg179_44 rfl ?_
      refine q_call1 gg179_47 tt162 rfl (Nat.le_of_ble_eq_true rfl) rfl (ls' := [some _, none]) rfl rfl ?_
      refine r_passes rfl hN hv.1 (by omega) (fun f2 hf2 => ?_)
      show hm_Wp _ _ _ _ _ _ _
      refine q_aload gg179_50 rfl ?_
      refine q_getr gg179_51 rfl ?_
      refine z_const gg179_54 (v := 5) rfl ?_
      refine q_call2 gg179_55 tt156 rfl (Nat.le_of_ble_eq_true rfl) rfl (ls' := [some _, some _, none, none]) rfl rfl ?_
      refine r_areSo rfl hf2 hv'.1.1.1 hv'.1.1.2 (by decide) (by decide) (hv'.f01 (by decide) (by decide)) ?_
      rw [wf_bs hv' (by decide) (by decide)]
      show hm_Wp _ _ _ _ (_ :: _) _ _
      refine q_aload gg179_58 rfl ?_
      refine q_getr gg179_59 rfl ?_
      refine z_const gg179_62 (v := 5) rfl ?_
      refine q_call2 gg179_63 tt156 rfl (Nat.le_of_ble_eq_true rfl) rfl (ls' := [some _, some _, none, none]) rfl rfl ?_
      refine hm_Wp.eqM (hself f2) ?_
      refine r_areSo rfl (hrow f2) hw.1.1.1 hw.1.1.2 (by decide) (by decide) (hw.f01 (by decide) (by decide)) ?_
      rw [wf_bs hw (by decide) (by decide), ← hself f2]
      show hm_Wp _ _ _ _ (_ :: _) _ _
      refine z_neg gg179_66 ?_
      first | refine z_inot gg179_67 (by omega) (by omega) ?_ | refine q_ixor gg179_67 ?_
      first | refine z_iand1 gg179_68 (by omega) (by omega) ?_ | refine z_iandn gg179_68 (by omega) (by omega) (by omega) (by omega) ?_ | refine q_iand gg179_68 ?_
      refine q_istore gg179_69 rfl ?_
      refine z_const gg179_70 (v := 0) rfl ?_
      refine q_istore gg179_71 rfl ?_
      rw [← hde]
      exact L1 (w 2).toNat 0 f2 (by decide) (by omega) hf2 (fun c' a b => by omega)
  refine q_aload gg179_0 rfl ?_
  refine q_call1 gg179_1 tt151 rfl (Nat.le_of_ble_eq_true rfl) (hm_rv (by decide +kernel)) (ls' := [some _]) rfl rfl ?_
  refine q_aload gg151_0 rfl ?_
  refine q_getr gg151_1 rfl ?_
  refine z_const gg151_4 (v := 1) rfl ?_
  first | refine z_alr gg151_5 (by first | rfl | assumption) (by assumption) (by omega) (by omega) (by omega) (by decide) (fun visHob_5 evisHob_5 lvisHob_5 uvisHob_5 => ?_) | refine z_alx gg151_5 rfl (by assumption) (by omega) (by omega) (by omega) (by decide) (fun visHob_5 evisHob_5 lvisHob_5 uvisHob_5 => ?_) <;> (try dsimp only at evisHob_5)
  refine z_ifle gg151_6 (tg := 13) rfl (by omega) (fun c1 => ?_) (fun c1 => ?_)
  · try (exfalso; omega)
    all_goals (
      refine z_const gg151_13 (v := 0) rfl ?_
      refine z_zretC gg151_14 (by omega) ?_
      refine z_ifne gg179_4 (tg := 10) rfl (by decide) (fun z => absurd z (by decide)) (fun _ => ?_)
      refine z_neg gg179_7 ?_
      refine q_iret gg179_9 ?_
      refine qv ?_ (kk _ FR.rf)
      unfold aFirst
      rw [if_pos (by omega)]
    )
  · try (exfalso; omega)
    all_goals (
      refine z_const gg151_9 (v := 1) rfl ?_
      refine q_goto gg151_10 (tg := 14) rfl ?_
      refine z_zretC gg151_14 (by omega) ?_
      refine z_ifne gg179_4 (tg := 10) rfl (by decide) (fun _ => ?_) (fun z => absurd z (by decide))
      refine q_iload gg179_10 rfl ?_
      refine z_const gg179_11 (v := 0) rfl ?_
      refine z_const gg179_12 (v := 1) rfl ?_
      refine q_call3 gg179_13 tt124 rfl (Nat.le_of_ble_eq_true rfl) rfl (ls' := [some _, some _, some _]) rfl rfl ?_
      refine q_iload gg124_0 rfl ?_
      refine q_iload gg124_1 rfl ?_
      refine z_icmplt gg124_2 (tg := 14) rfl (by omega) (by omega) (fun c2 => ?_) (fun c2 => ?_)
      · try (exfalso; omega)
        all_goals (
          refine z_const gg124_14 (v := 0) rfl ?_
          refine z_zretC gg124_15 (by omega) ?_
          refine z_ifne gg179_16 (tg := 22) rfl (by decide) (fun z => absurd z (by decide)) (fun _ => ?_)
          refine z_neg gg179_19 ?_
          refine q_iret gg179_21 ?_
          refine qv ?_ (kk _ FR.rf)
          unfold aFirst
          rw [if_neg (by omega), if_neg (by omega)]
        )
      · try (exfalso; omega)
        all_goals (
          refine q_iload gg124_5 rfl ?_
          refine q_iload gg124_6 rfl ?_
          refine z_icmpgt gg124_7 (tg := 14) rfl (by omega) (by omega) (fun c3 => ?_) (fun c3 => ?_)
          · try (exfalso; omega)
            all_goals (
              refine z_const gg124_14 (v := 0) rfl ?_
              refine z_zretC gg124_15 (by omega) ?_
              refine z_ifne gg179_16 (tg := 22) rfl (by decide) (fun z => absurd z (by decide)) (fun _ => ?_)
              refine z_neg gg179_19 ?_
              refine q_iret gg179_21 ?_
              refine qv ?_ (kk _ FR.rf)
              unfold aFirst
              rw [if_neg (by omega), if_neg (by omega)]
            )
          · try (exfalso; omega)
            all_goals (
              refine z_const gg124_10 (v := 1) rfl ?_
              refine q_goto gg124_11 (tg := 15) rfl ?_
              refine z_zretC gg124_15 (by omega) ?_
              refine z_ifne gg179_16 (tg := 22) rfl (by decide) (fun _ => ?_) (fun z => absurd z (by decide))
              refine q_aload gg179_22 rfl ?_
              refine q_getr gg179_23 rfl ?_
              refine z_const gg179_26 (v := 0) rfl ?_
              refine q_aload gg179_27 rfl ?_
              refine q_getr gg179_28 rfl ?_
              refine z_const gg179_31 (v := 0) rfl ?_
              refine q_call4 gg179_32 tt130 rfl (Nat.le_of_ble_eq_true rfl) rfl (ls' := [some _, some _, some _, some _, none]) rfl rfl ?_
              refine r_cpNT hf (fun f1 hf1 => ?_)
              show hm_Wp _ _ _ _ _ _ _
              refine z_const gg179_35 (v := 1) rfl ?_
              refine q_istore gg179_36 rfl ?_
              exact L (by omega) (by omega) (by omega) 60 1 f1 w none none rfl rfl (by decide) (by decide) hf1 hw rfl (by omega) rfl
            )
        )
    )
end F5
