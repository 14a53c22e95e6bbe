/-! THE FIRST MEMORY -/
def M00 (f g xs : Nat → Int32) (L : Nat) : hm_M := fun k => if k = 2 then f else if k = 31 then g else if k = 1005 then xs else if k = 1006 then (fun _ => nI L) else fun _ => 0
theorem gW_0 : gW (fun _ => 0) := by
  refine ⟨⟨⟨by first | decide | (dsimp only; decide), fun b q _ _ _ _ => Or.inl rfl, fun b c b0 b1 => absurd b1 (by first | omega | (dsimp only; omega))⟩, fun i _ _ => by first | decide | (dsimp only; decide), fun b b0 b1 => absurd b1 (by first | omega | (dsimp only; omega)), fun b q _ _ _ _ => rfl, by first | decide | (dsimp only; decide), by first | decide | (dsimp only; decide)⟩, by first | decide | (dsimp only; decide), by first | decide | (dsimp only; decide)⟩
theorem JJ_0 {f g xs : Nat → Int32} {L : Nat} (hf : ∀ j : Nat, j < 8 → f j = zI (-1)) (hg : ∀ j : Nat, j < 8 → g j = zI (-1000000)) : JJ (M00 f g xs L) := by
  refine ⟨fun _ => 0, fun _ => -1000000, fun _ => 0, fun _ => 0, fun _ => 0, fun _ _ => 0, fun _ _ => 0, fun _ => 0, fun _ => 0, 0, 0, 0, 0, 0, ⟨?_, ?_, rfl, ?_, ?_, ?_, ?_⟩, ⟨?_, ?_, rfl, ?_, ?_, ?_, ?_⟩, ⟨gW_0, ?_, ?_, ?_, ?_, by first | decide | (dsimp only; decide), by first | decide | (dsimp only; decide)⟩⟩
  · exact ⟨⟨rfl, rfl, rfl, rfl, rfl, rfl, fun i i0 i1 => absurd i1 (by first | omega | (dsimp only; omega)), fun i i0 i1 => absurd i1 (by first | omega | (dsimp only; omega)), fun i i0 i1 => absurd i1 (by first | omega | (dsimp only; omega))⟩, rfl, fun i i0 i1 => absurd i1 (by first | omega | (dsimp only; omega))⟩
  · exact ⟨fun i i0 i1 => ⟨by dsimp only; rw [if_pos rfl]; exact hf _ (by omega), by dsimp only; rw [if_pos rfl]; decide, by dsimp only; rw [if_pos rfl]; decide⟩, fun i i0 i1 => ⟨rfl, by first | decide | (dsimp only; decide), by first | decide | (dsimp only; decide)⟩, fun r k r0 r1 k0 k1 => absurd k1 (by first | omega | (dsimp only; omega))⟩
  · exact ⟨rfl, fun i i0 i1 => absurd i1 (by omega), rfl⟩
  · exact ⟨0, by first | decide | (dsimp only; decide), by first | decide | (dsimp only; decide), rfl, rfl, fun j j0 j1 => absurd j1 (by omega)⟩
  · exact ⟨rfl, fun j j0 j1 h => absurd h (by first | decide | (dsimp only; decide))⟩
  · exact ⟨rfl, fun i i0 i1 => absurd i1 (by omega)⟩
  · exact fun i i0 i1 => ⟨rfl, by first | decide | (dsimp only; decide), by first | decide | (dsimp only; decide)⟩
  · exact ⟨fun i i0 i1 => ⟨hg _ (by omega), by first | decide | (dsimp only; decide), by first | decide | (dsimp only; decide)⟩, fun i i0 i1 => ⟨rfl, by first | decide | (dsimp only; decide), by first | decide | (dsimp only; decide)⟩, fun r k r0 r1 k0 k1 => absurd k1 (by first | omega | (dsimp only; omega))⟩
  · exact ⟨rfl, fun i i0 i1 => absurd i1 (by omega), rfl⟩
  · exact ⟨rfl, fun j i j0 j1 => absurd j1 (by omega)⟩
  · exact fun j j0 j1 => ⟨rfl, fun h => absurd h (by first | decide | (dsimp only; decide))⟩
  · exact ⟨rfl, fun i i0 i1 => absurd i1 (by omega)⟩
  · exact ⟨fun r _ _ => ⟨Or.inl rfl, by first | decide | (dsimp only; decide)⟩, fun r _ _ => ⟨by first | decide | (dsimp only; decide), by first | decide | (dsimp only; decide)⟩, fun i => ⟨by first | decide | (dsimp only; decide), by first | decide | (dsimp only; decide)⟩⟩
  · exact ⟨by first | decide | (dsimp only; decide), by first | decide | (dsimp only; decide), fun i i0 i1 => absurd i1 (by omega)⟩
  · exact ⟨by first | decide | (dsimp only; decide), by first | decide | (dsimp only; decide), fun j j0 j1 => absurd j1 (by omega)⟩
  · exact fun j j0 j1 => ⟨Or.inl rfl, fun h => absurd h (by first | decide | (dsimp only; decide))⟩
theorem SX_0 {f g xs : Nat → Int32} {L : Nat} : SX (M00 f g xs L) (L : Int) (fun j => (xs j.toNat).toInt) := by
  refine ⟨rfl, fun i i0 i1 => ⟨?_, ?_, ?_⟩⟩
  · show xs i.toNat = zI (xs i.toNat).toInt
    exact (zI_ti _).symm
  · exact Int32.le_toInt (xs i.toNat)
  · have := Int32.toInt_lt (xs i.toNat); dsimp only; omega
theorem flat_law {f g xs : Nat → Int32} {L : Nat} (hL : L ≤ 384) (hf : ∀ j : Nat, j < 8 → f j = zI (-1)) (hg : ∀ j : Nat, j < 8 → g j = zI (-1000000)) : hm_Wp 8 208 16 [some (.inr (.inr 1005)), some (.inr (.inr 0)), some (.inr (.inr 30)), none] [] (M00 f g xs L) (fun r _ => r = some (.inl (zI 1))) := by
  refine z_const gg208_16 (v := 0) rfl ?_
  refine q_istore gg208_17 rfl ?_
  exact law_loop (d := 0) (L := (L : Int)) (by omega) (fun j => ⟨Int32.le_toInt _, by have := Int32.toInt_lt (xs j.toNat); omega⟩) (fun _ => rfl) 1000 0 (M00 f g xs L) (by decide) (by omega) (by decide) (by omega) SX_0 (JJ_0 hf hg)
