set_option maxRecDepth 100000 in
theorem hm_ck190 : hm_okT hm_T190 := by decide +kernel
theorem hm_cm190 : hm_chkM hm_T190 = true := by decide +kernel
set_option maxRecDepth 100000 in
theorem hm_ck191 : hm_okT hm_T191 := by decide +kernel
theorem hm_cm191 : hm_chkM hm_T191 = true := by decide +kernel
set_option maxRecDepth 100000 in
theorem hm_ck192 : hm_okT hm_T192 := by decide +kernel
theorem hm_cm192 : hm_chkM hm_T192 = true := by decide +kernel
set_option maxRecDepth 100000 in
theorem hm_ck193 : hm_okT hm_T193 := by decide +kernel
theorem hm_cm193 : hm_chkM hm_T193 = true := by decide +kernel
set_option maxRecDepth 100000 in
theorem hm_ck194 : hm_okT hm_T194 := by decide +kernel
theorem hm_cm194 : hm_chkM hm_T194 = true := by decide +kernel
set_option maxRecDepth 100000 in
theorem hm_ck195 : hm_okT hm_T195 := by decide +kernel
theorem hm_cm195 : hm_chkM hm_T195 = true := by decide +kernel
set_option maxRecDepth 100000 in
theorem hm_ck196 : hm_okT hm_T196 := by decide +kernel
theorem hm_cm196 : hm_chkM hm_T196 = true := by decide +kernel
set_option maxRecDepth 100000 in
theorem hm_ck197 : hm_okT hm_T197 := by decide +kernel
theorem hm_cm197 : hm_chkM hm_T197 = true := by decide +kernel
set_option maxRecDepth 100000 in
theorem hm_ck198 : hm_okT hm_T198 := by decide +kernel
theorem hm_cm198 : hm_chkM hm_T198 = true := by decide +kernel
set_option maxRecDepth 100000 in
theorem hm_ck199 : hm_okT hm_T199 := by decide +kernel
theorem hm_cm199 : hm_chkM hm_T199 = true := by decide +kernel
set_option maxRecDepth 100000 in
theorem hm_ck200 : hm_okT hm_T200 := by decide +kernel
theorem hm_cm200 : hm_chkM hm_T200 = true := by decide +kernel
set_option maxRecDepth 100000 in
theorem hm_ck201 : hm_okT hm_T201 := by decide +kernel
theorem hm_cm201 : hm_chkM hm_T201 = true := by decide +kernel
set_option maxRecDepth 100000 in
theorem hm_ck202 : hm_okT hm_T202 := by decide +kernel
theorem hm_cm202 : hm_chkM hm_T202 = true := by decide +kernel
set_option maxRecDepth 100000 in
theorem hm_ck203 : hm_okT hm_T203 := by decide +kernel
theorem hm_cm203 : hm_chkM hm_T203 = true := by decide +kernel
set_option maxRecDepth 100000 in
theorem hm_ck204 : hm_okT hm_T204 := by decide +kernel
theorem hm_cm204 : hm_chkM hm_T204 = true := by decide +kernel
set_option maxRecDepth 100000 in
theorem hm_ck205 : hm_okT hm_T205 := by decide +kernel
theorem hm_cm205 : hm_chkM hm_T205 = true := by decide +kernel
set_option maxRecDepth 100000 in
theorem hm_ck206 : hm_okT hm_T206 := by decide +kernel
theorem hm_cm206 : hm_chkM hm_T206 = true := by decide +kernel
set_option maxRecDepth 100000 in
theorem hm_ck207 : hm_okT hm_T207 := by decide +kernel
theorem hm_cm207 : hm_chkM hm_T207 = true := by decide +kernel
