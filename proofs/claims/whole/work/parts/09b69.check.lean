set_option maxRecDepth 100000 in
theorem hm_ckL10 : ((hm_P208.drop 600).take 60).all (hm_chkI hm_tb RL code (some .boolean)) = true := by decide +kernel
set_option maxRecDepth 100000 in
theorem hm_ckL11 : ((hm_P208.drop 660).take 60).all (hm_chkI hm_tb RL code (some .boolean)) = true := by decide +kernel
set_option maxRecDepth 100000 in
theorem hm_ckL12 : ((hm_P208.drop 720).take 60).all (hm_chkI hm_tb RL code (some .boolean)) = true := by decide +kernel
set_option maxRecDepth 100000 in
theorem hm_ckL13 : ((hm_P208.drop 780).take 60).all (hm_chkI hm_tb RL code (some .boolean)) = true := by decide +kernel
set_option maxRecDepth 100000 in
theorem hm_ckL14 : ((hm_P208.drop 840).take 60).all (hm_chkI hm_tb RL code (some .boolean)) = true := by decide +kernel
theorem hm_chunk {α : Type} (f : α → Bool) (l : List α) (n : Nat) (h1 : (l.take n).all f = true) (h2 : (l.drop n).all f = true) : l.all f = true := by
  rw [← List.take_append_drop n l, List.all_append, h1, h2]; rfl
theorem hm_ck208 : hm_okT hm_T208 := by
  refine hm_chunk _ _ 60 ?_ ?_
  · exact hm_ckL0
  refine hm_chunk _ _ 60 ?_ ?_
  · exact hm_ckL1
  rw [List.drop_drop]
  refine hm_chunk _ _ 60 ?_ ?_
  · exact hm_ckL2
  rw [List.drop_drop]
  refine hm_chunk _ _ 60 ?_ ?_
  · exact hm_ckL3
  rw [List.drop_drop]
  refine hm_chunk _ _ 60 ?_ ?_
  · exact hm_ckL4
  rw [List.drop_drop]
  refine hm_chunk _ _ 60 ?_ ?_
  · exact hm_ckL5
  rw [List.drop_drop]
  refine hm_chunk _ _ 60 ?_ ?_
  · exact hm_ckL6
  rw [List.drop_drop]
  refine hm_chunk _ _ 60 ?_ ?_
  · exact hm_ckL7
  rw [List.drop_drop]
  refine hm_chunk _ _ 60 ?_ ?_
  · exact hm_ckL8
  rw [List.drop_drop]
  refine hm_chunk _ _ 60 ?_ ?_
  · exact hm_ckL9
  rw [List.drop_drop]
  refine hm_chunk _ _ 60 ?_ ?_
  · exact hm_ckL10
  rw [List.drop_drop]
  refine hm_chunk _ _ 60 ?_ ?_
  · exact hm_ckL11
  rw [List.drop_drop]
  refine hm_chunk _ _ 60 ?_ ?_
  · exact hm_ckL12
  rw [List.drop_drop]
  refine hm_chunk _ _ 60 ?_ ?_
  · exact hm_ckL13
  rw [List.drop_drop]
  refine hm_chunk _ _ 60 ?_ ?_
  · exact hm_ckL14
  · rw [List.drop_drop]; exact (by decide +kernel)
