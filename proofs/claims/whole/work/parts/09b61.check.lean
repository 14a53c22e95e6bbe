set_option maxRecDepth 100000 in
theorem hm_ck34 : hm_okT hm_T34 := by decide +kernel
theorem hm_cm34 : hm_chkM hm_T34 = true := by decide +kernel
set_option maxRecDepth 100000 in
theorem hm_ck35 : hm_okT hm_T35 := by decide +kernel
theorem hm_cm35 : hm_chkM hm_T35 = true := by decide +kernel
set_option maxRecDepth 100000 in
theorem hm_ck36 : hm_okT hm_T36 := by decide +kernel
theorem hm_cm36 : hm_chkM hm_T36 = true := by decide +kernel
set_option maxRecDepth 100000 in
theorem hm_ck37 : hm_okT hm_T37 := by decide +kernel
theorem hm_cm37 : hm_chkM hm_T37 = true := by decide +kernel
set_option maxRecDepth 100000 in
theorem hm_ck38 : hm_okT hm_T38 := by decide +kernel
theorem hm_cm38 : hm_chkM hm_T38 = true := by decide +kernel
set_option maxRecDepth 100000 in
theorem hm_ck39 : hm_okT hm_T39 := by decide +kernel
theorem hm_cm39 : hm_chkM hm_T39 = true := by decide +kernel
set_option maxRecDepth 100000 in
theorem hm_ck40 : hm_okT hm_T40 := by decide +kernel
theorem hm_cm40 : hm_chkM hm_T40 = true := by decide +kernel
set_option maxRecDepth 100000 in
theorem hm_ck41 : hm_okT hm_T41 := by decide +kernel
theorem hm_cm41 : hm_chkM hm_T41 = true := by decide +kernel
set_option maxRecDepth 100000 in
theorem hm_ck42 : hm_okT hm_T42 := by decide +kernel
theorem hm_cm42 : hm_chkM hm_T42 = true := by decide +kernel
set_option maxRecDepth 100000 in
theorem hm_ck43 : hm_okT hm_T43 := by decide +kernel
theorem hm_cm43 : hm_chkM hm_T43 = true := by decide +kernel
set_option maxRecDepth 100000 in
theorem hm_ck44 : hm_okT hm_T44 := by decide +kernel
theorem hm_cm44 : hm_chkM hm_T44 = true := by decide +kernel
set_option maxRecDepth 100000 in
theorem hm_ck45 : hm_okT hm_T45 := by decide +kernel
theorem hm_cm45 : hm_chkM hm_T45 = true := by decide +kernel
set_option maxRecDepth 100000 in
theorem hm_ck46 : hm_okT hm_T46 := by decide +kernel
theorem hm_cm46 : hm_chkM hm_T46 = true := by decide +kernel
set_option maxRecDepth 100000 in
theorem hm_ck47 : hm_okT hm_T47 := by decide +kernel
theorem hm_cm47 : hm_chkM hm_T47 = true := by decide +kernel
set_option maxRecDepth 100000 in
theorem hm_ck48 : hm_okT hm_T48 := by decide +kernel
theorem hm_cm48 : hm_chkM hm_T48 = true := by decide +kernel
set_option maxRecDepth 100000 in
theorem hm_ck49 : hm_okT hm_T49 := by decide +kernel
theorem hm_cm49 : hm_chkM hm_T49 = true := by decide +kernel
set_option maxRecDepth 100000 in
theorem hm_ck50 : hm_okT hm_T50 := by decide +kernel
theorem hm_cm50 : hm_chkM hm_T50 = true := by decide +kernel
set_option maxRecDepth 100000 in
theorem hm_ck51 : hm_okT hm_T51 := by decide +kernel
theorem hm_cm51 : hm_chkM hm_T51 = true := by decide +kernel
set_option maxRecDepth 100000 in
theorem hm_ck52 : hm_okT hm_T52 := by decide +kernel
theorem hm_cm52 : hm_chkM hm_T52 = true := by decide +kernel
set_option maxRecDepth 100000 in
theorem hm_ck53 : hm_okT hm_T53 := by decide +kernel
theorem hm_cm53 : hm_chkM hm_T53 = true := by decide +kernel
set_option maxRecDepth 100000 in
theorem hm_ck54 : hm_okT hm_T54 := by decide +kernel
theorem hm_cm54 : hm_chkM hm_T54 = true := by decide +kernel
set_option maxRecDepth 100000 in
theorem hm_ck55 : hm_okT hm_T55 := by decide +kernel
theorem hm_cm55 : hm_chkM hm_T55 = true := by decide +kernel
set_option maxRecDepth 100000 in
theorem hm_ck56 : hm_okT hm_T56 := by decide +kernel
theorem hm_cm56 : hm_chkM hm_T56 = true := by decide +kernel
set_option maxRecDepth 100000 in
theorem hm_ck57 : hm_okT hm_T57 := by decide +kernel
theorem hm_cm57 : hm_chkM hm_T57 = true := by decide +kernel
set_option maxRecDepth 100000 in
theorem hm_ck58 : hm_okT hm_T58 := by decide +kernel
theorem hm_cm58 : hm_chkM hm_T58 = true := by decide +kernel
set_option maxRecDepth 100000 in
theorem hm_ck59 : hm_okT hm_T59 := by decide +kernel
theorem hm_cm59 : hm_chkM hm_T59 = true := by decide +kernel
set_option maxRecDepth 100000 in
theorem hm_ck60 : hm_okT hm_T60 := by decide +kernel
theorem hm_cm60 : hm_chkM hm_T60 = true := by decide +kernel
set_option maxRecDepth 100000 in
theorem hm_ck61 : hm_okT hm_T61 := by decide +kernel
theorem hm_cm61 : hm_chkM hm_T61 = true := by decide +kernel
set_option maxRecDepth 100000 in
theorem hm_ck62 : hm_okT hm_T62 := by decide +kernel
theorem hm_cm62 : hm_chkM hm_T62 = true := by decide +kernel
set_option maxRecDepth 100000 in
theorem hm_ck63 : hm_okT hm_T63 := by decide +kernel
theorem hm_cm63 : hm_chkM hm_T63 = true := by decide +kernel
set_option maxRecDepth 100000 in
theorem hm_ck64 : hm_okT hm_T64 := by decide +kernel
theorem hm_cm64 : hm_chkM hm_T64 = true := by decide +kernel
set_option maxRecDepth 100000 in
theorem hm_ck65 : hm_okT hm_T65 := by decide +kernel
theorem hm_cm65 : hm_chkM hm_T65 = true := by decide +kernel
set_option maxRecDepth 100000 in
theorem hm_ck66 : hm_okT hm_T66 := by decide +kernel
theorem hm_cm66 : hm_chkM hm_T66 = true := by decide +kernel
set_option maxRecDepth 100000 in
theorem hm_ck67 : hm_okT hm_T67 := by decide +kernel
theorem hm_cm67 : hm_chkM hm_T67 = true := by decide +kernel
