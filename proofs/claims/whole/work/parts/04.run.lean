def hm_tb : List (MethodName × Nat × Bool) := [(yX0_keep, 2, false), (yX0_takeBack, 2, false), (yX0_forgetAll, 1, false), (yX0_left, 1, false), (yX1_isA, 2, true), (yX1_answerAnew, 3, false), (yX1_traced, 2, false), (yX1_bodyOf, 3, false), (yX1_begin, 4, false), (yX1_leave, 2, false), (yX2_swellBehind, 3, false), (yX2_burstBehind, 2, false), (yX2_hoursTillBurst, 2, false), (yX2_firstToBurst, 2, false), (yX2_fewestStirs, 3, false), (yX2_fewestOff, 2, false), (yX2_bestChange, 3, false), (yX2_greatestHeat, 2, false), (yX2_fitting, 4, false), (yX2_alterTrial, 4, false), (yX2_trialIsAsTold, 3, false), (yX2_chanceWithMice, 5, false), (yX2_weightOf, 3, false), (yX2_burstsWithMice, 4, false), (yX2_greatestDivisor, 2, true), (yX2_century, 4, false), (yX2_meddle, 2, false), (yX2_beginTrial, 1, false), (yX2_boilTrial, 2, false), (yX2_trialBursts, 3, false), (yX2_trialBurstsNone, 2, false), (yX3_isNone, 1, false), (yX3_has, 2, false), (yX3_isOn, 2, false), (yX3_isBurst, 2, false), (yX3_isStirred, 2, false), (yX3_clear, 1, false), (yX3_add, 4, false), (yX3_takeFrom, 2, false), (yX3_writeTo, 3, false), (yX3_readFrom, 3, false), (yX3_glowOf, 2, false), (yX3_growthOf, 2, false), (yX3_boil, 1, false), (yX3_aboveCloth, 1, false), (yX3_pushNeighbours, 2, false), (yX3_placesOf, 2, false), (yX3_raise, 3, false), (yX3_stirOnce, 2, false), (yX3_turn, 2, false), (yX3_exchange, 3, false), (yX3_swellTogether, 1, false), (yX3_slicesOf, 3, false), (yX3_plumsTogether, 1, false), (yX4_keep, 3, false), (yX4_isKept, 2, false), (yX4_showTo, 3, false), (yX5_isRow, 1, true), (yX5_isLane, 1, true), (yX5_isMissing, 2, false), (yX5_haveOneLane, 3, false), (yX5_hasRun, 4, false), (yX5_held, 1, false), (yX5_make, 4, false), (yX5_put, 4, false), (yX5_item, 3, false), (yX5_move, 6, false), (yX5_forget, 2, false), (yX5_startOf, 1, true), (yX5_cutTo, 2, true), (yX6_size, 1, false), (yX6_latestFault, 1, false), (yX6_faultPlace, 1, false), (yX6_append, 2, false), (yX6_readInto, 2, false), (yX6_readLaw, 2, false), (yX6_readBasin, 2, false), (yX6_readPair, 4, false), (yX6_readNumber, 3, false), (yX6_readSign, 2, false), (yX6_byteHere, 1, false), (yX6_figuresHere, 1, false), (yX6_sortHere, 1, false), (yX6_faultHere, 2, false), (yX7_row, 4, false), (yX7_set, 4, false), (yX7_copy, 6, false), (yX7_drop, 2, false), (yX7_feed, 2, false), (yX7_hob, 1, false), (yX7_fault, 1, false), (yX7_hours, 2, false), (yX7_stir, 2, false), (yX7_on, 3, false), (yX7_swap, 3, false), (yX7_plums, 3, false), (yX7_heat, 2, false), (yX7_undo, 1, false), (yX7_basin, 3, false), (yX7_place, 2, false), (yX7_swell, 3, false), (yX7_burst, 2, false), (yX7_bursting, 2, false), (yX7_first, 2, false), (yX7_stirs, 3, false), (yX7_off, 3, false), (yX7_change, 3, false), (yX7_hottest, 2, false), (yX7_slices, 3, false), (yX7_fits, 6, false), (yX7_mice, 5, false), (yX7_drawn, 4, false), (yX7_image, 2, false), (yX7_restore, 2, false), (yX7_kind, 2, false), (yX7_as, 3, false), (yX7_ask, 3, false), (yX7_trace, 2, false), (yX7_count, 2, false), (yX7_status, 1, false), (yX7_found, 2, false), (yX7_unfound, 2, false), (yX7_isBit, 1, true), (yX7_isSpan, 1, true), (yX8_in, 3, true), (yX8_has, 2, true), (yX8_ones, 1, true), (yX8_lesser, 2, true), (yX8_found, 2, false), (yX8_well, 2, false), (yX8_copies, 4, true), (yX8_isRow, 1, true), (yX8_isMissing, 2, false), (yX8_cut, 2, true), (yX8_row, 4, false), (yX8_set, 4, false), (yX8_isPart, 4, false), (yX8_copy, 6, false), (yX8_drop, 2, false), (yX8_feed, 2, false), (yX8_byteAt, 2, false), (yX8_advances, 1, false), (yX8_isWell, 1, false), (yX8_takes, 3, false), (yX8_figure, 3, false), (yX8_kindOf, 1, true), (yX8_follows, 3, false), (yX8_readsBasin, 1, false), (yX8_must, 2, false), (yX8_hob, 1, false), (yX8_fault, 1, false), (yX8_isHob, 1, false), (yX8_isBasin, 2, false), (yX8_isBurst, 2, false), (yX8_glow, 2, true), (yX8_swelling, 2, true), (yX8_areSo, 2, true), (yX8_ripe, 1, true), (yX8_inPlace, 2, true), (yX8_isOf, 3, true), (yX8_swells, 3, true), (yX8_bursts, 2, true), (yX8_passes, 1, true), (yX8_stirsOne, 2, true), (yX8_changes, 3, true), (yX8_notes, 1, false), (yX8_hours, 2, false), (yX8_stir, 2, false), (yX8_on, 3, false), (yX8_swap, 3, false), (yX8_plums, 3, false), (yX8_heat, 2, false), (yX8_undo, 1, false), (yX8_basin, 3, false), (yX8_place, 2, false), (yX8_goesOn, 2, false), (yX8_swell, 3, false), (yX8_burst, 2, false), (yX8_bursting, 2, false), (yX8_first, 2, false), (yX8_isNear, 1, true), (yX8_stirs, 3, false), (yX8_noneBursts, 2, false), (yX8_off, 3, false), (yX8_change, 3, false), (yX8_hottest, 2, false), (yX8_plumsIn, 2, false), (yX8_slices, 3, false), (yX8_swellsSo, 6, false), (yX8_fits, 6, false), (yX8_mice, 5, false), (yX8_drawn, 4, false), (yX8_image, 2, false), (yX8_restore, 2, false), (yX8_kindIn, 2, false), (yX8_kind, 2, false), (yX8_as, 3, false), (yX8_begins, 2, false), (yX8_plainMark, 2, false), (yX8_blackSize, 2, false), (yX8_plainSize, 2, false), (yX8_blackMark, 2, false), (yX8_ask, 3, false), (yX8_trace, 2, false), (yX8_count, 2, false), (yX8_status, 1, false), (yJ6_numberOfTrailingZeros_0f7a4, 1, true), (yJ6_bitCount_0f7a4, 1, true), (yL_law, 1, true)]
set_option maxRecDepth 100000 in
theorem hm_tb_eq : hm_tb = hm_tab.map (fun t => (t.1, t.2.2.2.2.2.1, t.2.2.2.2.1)) := rfl
abbrev hm_okT (t : hm_X) : Prop := t.2.2.2.2.2.2.2.all (hm_chkI hm_tb t.1.cls t.2.1 t.2.2.2.1) = true
/-- the operation at a place of a method: next place, operation, numbers, list -/
def hm_at (mid pc : Nat) : Option (Nat × Nat × Int × Nat × List (Int × Nat)) :=
  match hm_tab[mid]? with
  | none => none
  | some t => match t.2.2.2.2.2.2.2.find? (fun q => q.1 == pc) with
    | none => none
    | some q => some (q.2.1, q.2.2.2.1, q.2.2.2.2.1, q.2.2.2.2.2.1, q.2.2.2.2.2.2.1)
/-- n: steps that may be done, d: calls that may stand open -/
def hm_run : (n d mid pc : Nat) → hm_L → List hm_V → hm_M → Option (Option hm_V × hm_M)
  | 0, _, _, _, _, _, _ => none
  | n + 1, d, mid, pc, ls, st, M =>
    match hm_at mid pc with
    | none => none
    | some (nx, op, a, b, l) =>
      if op = 29 then
        match st with
        | [.inl x] => if b = 1 ∧ ¬ (x = 0 ∨ x = 1) then none else some (some (.inl x), M)
        | _ => none
      else if op = 30 then
        match st with
        | [] => some (none, M)
        | _ => none
      else if op = 27 then
        match d, hm_tabM[b]? with
        | d' + 1, some t =>
          if t.2.2.2.2.2.1 ≤ st.length ∧ (st.drop t.2.2.2.2.2.1).length ≤ 4 ∧ hm_recv t.1 t.2.2.2.2.1 (st.take t.2.2.2.2.2.1).reverse = true ∧ (hm_ent t.2.2.1 (st.take t.2.2.2.2.2.1).reverse).length = t.2.2.1 then
            match hm_run n d' b 0 (hm_ent t.2.2.1 (st.take t.2.2.2.2.2.1).reverse) [] M with
            | some (r, M1) => hm_run n d mid nx ls (r.toList ++ st.drop t.2.2.2.2.2.1) M1
            | none => none
          else none
        | _, _ => none
      else
        match hm_step d nx op a b l ls st M with
        | some (pc', ls', st', M1) => hm_run n d mid pc' ls' st' M1
        | none => none
