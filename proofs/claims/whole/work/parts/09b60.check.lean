set_option maxRecDepth 100000 in
theorem hm_ck0 : hm_okT hm_T0 := by decide +kernel
theorem hm_cm0 : hm_chkM hm_T0 = true := by decide +kernel
set_option maxRecDepth 100000 in
theorem hm_ck1 : hm_okT hm_T1 := by decide +kernel
theorem hm_cm1 : hm_chkM hm_T1 = true := by decide +kernel
set_option maxRecDepth 100000 in
theorem hm_ck2 : hm_okT hm_T2 := by decide +kernel
theorem hm_cm2 : hm_chkM hm_T2 = true := by decide +kernel
set_option maxRecDepth 100000 in
theorem hm_ck3 : hm_okT hm_T3 := by decide +kernel
theorem hm_cm3 : hm_chkM hm_T3 = true := by decide +kernel
set_option maxRecDepth 100000 in
theorem hm_ck4 : hm_okT hm_T4 := by decide +kernel
theorem hm_cm4 : hm_chkM hm_T4 = true := by decide +kernel
set_option maxRecDepth 100000 in
theorem hm_ck5 : hm_okT hm_T5 := by decide +kernel
theorem hm_cm5 : hm_chkM hm_T5 = true := by decide +kernel
set_option maxRecDepth 100000 in
theorem hm_ck6 : hm_okT hm_T6 := by decide +kernel
theorem hm_cm6 : hm_chkM hm_T6 = true := by decide +kernel
set_option maxRecDepth 100000 in
theorem hm_ck7 : hm_okT hm_T7 := by decide +kernel
theorem hm_cm7 : hm_chkM hm_T7 = true := by decide +kernel
set_option maxRecDepth 100000 in
theorem hm_ck8 : hm_okT hm_T8 := by decide +kernel
theorem hm_cm8 : hm_chkM hm_T8 = true := by decide +kernel
set_option maxRecDepth 100000 in
theorem hm_ck9 : hm_okT hm_T9 := by decide +kernel
theorem hm_cm9 : hm_chkM hm_T9 = true := by decide +kernel
set_option maxRecDepth 100000 in
theorem hm_ck10 : hm_okT hm_T10 := by decide +kernel
theorem hm_cm10 : hm_chkM hm_T10 = true := by decide +kernel
set_option maxRecDepth 100000 in
theorem hm_ck11 : hm_okT hm_T11 := by decide +kernel
theorem hm_cm11 : hm_chkM hm_T11 = true := by decide +kernel
set_option maxRecDepth 100000 in
theorem hm_ck12 : hm_okT hm_T12 := by decide +kernel
theorem hm_cm12 : hm_chkM hm_T12 = true := by decide +kernel
set_option maxRecDepth 100000 in
theorem hm_ck13 : hm_okT hm_T13 := by decide +kernel
theorem hm_cm13 : hm_chkM hm_T13 = true := by decide +kernel
set_option maxRecDepth 100000 in
theorem hm_ck14 : hm_okT hm_T14 := by decide +kernel
theorem hm_cm14 : hm_chkM hm_T14 = true := by decide +kernel
set_option maxRecDepth 100000 in
theorem hm_ck15 : hm_okT hm_T15 := by decide +kernel
theorem hm_cm15 : hm_chkM hm_T15 = true := by decide +kernel
set_option maxRecDepth 100000 in
theorem hm_ck16 : hm_okT hm_T16 := by decide +kernel
theorem hm_cm16 : hm_chkM hm_T16 = true := by decide +kernel
set_option maxRecDepth 100000 in
theorem hm_ck17 : hm_okT hm_T17 := by decide +kernel
theorem hm_cm17 : hm_chkM hm_T17 = true := by decide +kernel
set_option maxRecDepth 100000 in
theorem hm_ck18 : hm_okT hm_T18 := by decide +kernel
theorem hm_cm18 : hm_chkM hm_T18 = true := by decide +kernel
set_option maxRecDepth 100000 in
theorem hm_ck19 : hm_okT hm_T19 := by decide +kernel
theorem hm_cm19 : hm_chkM hm_T19 = true := by decide +kernel
set_option maxRecDepth 100000 in
theorem hm_ck20 : hm_okT hm_T20 := by decide +kernel
theorem hm_cm20 : hm_chkM hm_T20 = true := by decide +kernel
set_option maxRecDepth 100000 in
theorem hm_ck21 : hm_okT hm_T21 := by decide +kernel
theorem hm_cm21 : hm_chkM hm_T21 = true := by decide +kernel
set_option maxRecDepth 100000 in
theorem hm_ck22 : hm_okT hm_T22 := by decide +kernel
theorem hm_cm22 : hm_chkM hm_T22 = true := by decide +kernel
set_option maxRecDepth 100000 in
theorem hm_ck23 : hm_okT hm_T23 := by decide +kernel
theorem hm_cm23 : hm_chkM hm_T23 = true := by decide +kernel
set_option maxRecDepth 100000 in
theorem hm_ck24 : hm_okT hm_T24 := by decide +kernel
theorem hm_cm24 : hm_chkM hm_T24 = true := by decide +kernel
set_option maxRecDepth 100000 in
theorem hm_ck25 : hm_okT hm_T25 := by decide +kernel
theorem hm_cm25 : hm_chkM hm_T25 = true := by decide +kernel
set_option maxRecDepth 100000 in
theorem hm_ck26 : hm_okT hm_T26 := by decide +kernel
theorem hm_cm26 : hm_chkM hm_T26 = true := by decide +kernel
set_option maxRecDepth 100000 in
theorem hm_ck27 : hm_okT hm_T27 := by decide +kernel
theorem hm_cm27 : hm_chkM hm_T27 = true := by decide +kernel
set_option maxRecDepth 100000 in
theorem hm_ck28 : hm_okT hm_T28 := by decide +kernel
theorem hm_cm28 : hm_chkM hm_T28 = true := by decide +kernel
set_option maxRecDepth 100000 in
theorem hm_ck29 : hm_okT hm_T29 := by decide +kernel
theorem hm_cm29 : hm_chkM hm_T29 = true := by decide +kernel
set_option maxRecDepth 100000 in
theorem hm_ck30 : hm_okT hm_T30 := by decide +kernel
theorem hm_cm30 : hm_chkM hm_T30 = true := by decide +kernel
set_option maxRecDepth 100000 in
theorem hm_ck31 : hm_okT hm_T31 := by decide +kernel
theorem hm_cm31 : hm_chkM hm_T31 = true := by decide +kernel
set_option maxRecDepth 100000 in
theorem hm_ck32 : hm_okT hm_T32 := by decide +kernel
theorem hm_cm32 : hm_chkM hm_T32 = true := by decide +kernel
set_option maxRecDepth 100000 in
theorem hm_ck33 : hm_okT hm_T33 := by decide +kernel
theorem hm_cm33 : hm_chkM hm_T33 = true := by decide +kernel
