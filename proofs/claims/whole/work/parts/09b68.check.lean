set_option maxRecDepth 100000 in
theorem hm_ckL5 : ((hm_P208.drop 300).take 60).all (hm_chkI hm_tb RL code (some .boolean)) = true := by decide +kernel
set_option maxRecDepth 100000 in
theorem hm_ckL6 : ((hm_P208.drop 360).take 60).all (hm_chkI hm_tb RL code (some .boolean)) = true := by decide +kernel
set_option maxRecDepth 100000 in
theorem hm_ckL7 : ((hm_P208.drop 420).take 60).all (hm_chkI hm_tb RL code (some .boolean)) = true := by decide +kernel
set_option maxRecDepth 100000 in
theorem hm_ckL8 : ((hm_P208.drop 480).take 60).all (hm_chkI hm_tb RL code (some .boolean)) = true := by decide +kernel
set_option maxRecDepth 100000 in
theorem hm_ckL9 : ((hm_P208.drop 540).take 60).all (hm_chkI hm_tb RL code (some .boolean)) = true := by decide +kernel
