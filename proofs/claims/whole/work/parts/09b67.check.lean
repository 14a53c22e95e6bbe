set_option maxRecDepth 100000 in
theorem hm_ckL0 : ((hm_P208.drop 0).take 60).all (hm_chkI hm_tb RL code (some .boolean)) = true := by decide +kernel
set_option maxRecDepth 100000 in
theorem hm_ckL1 : ((hm_P208.drop 60).take 60).all (hm_chkI hm_tb RL code (some .boolean)) = true := by decide +kernel
set_option maxRecDepth 100000 in
theorem hm_ckL2 : ((hm_P208.drop 120).take 60).all (hm_chkI hm_tb RL code (some .boolean)) = true := by decide +kernel
set_option maxRecDepth 100000 in
theorem hm_ckL3 : ((hm_P208.drop 180).take 60).all (hm_chkI hm_tb RL code (some .boolean)) = true := by decide +kernel
set_option maxRecDepth 100000 in
theorem hm_ckL4 : ((hm_P208.drop 240).take 60).all (hm_chkI hm_tb RL code (some .boolean)) = true := by decide +kernel
