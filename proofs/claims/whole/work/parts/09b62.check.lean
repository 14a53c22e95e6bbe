set_option maxRecDepth 100000 in
theorem hm_ck68 : hm_okT hm_T68 := by decide +kernel
theorem hm_cm68 : hm_chkM hm_T68 = true := by decide +kernel
set_option maxRecDepth 100000 in
theorem hm_ck69 : hm_okT hm_T69 := by decide +kernel
theorem hm_cm69 : hm_chkM hm_T69 = true := by decide +kernel
set_option maxRecDepth 100000 in
theorem hm_ck70 : hm_okT hm_T70 := by decide +kernel
theorem hm_cm70 : hm_chkM hm_T70 = true := by decide +kernel
set_option maxRecDepth 100000 in
theorem hm_ck71 : hm_okT hm_T71 := by decide +kernel
theorem hm_cm71 : hm_chkM hm_T71 = true := by decide +kernel
set_option maxRecDepth 100000 in
theorem hm_ck72 : hm_okT hm_T72 := by decide +kernel
theorem hm_cm72 : hm_chkM hm_T72 = true := by decide +kernel
set_option maxRecDepth 100000 in
theorem hm_ck73 : hm_okT hm_T73 := by decide +kernel
theorem hm_cm73 : hm_chkM hm_T73 = true := by decide +kernel
set_option maxRecDepth 100000 in
theorem hm_ck74 : hm_okT hm_T74 := by decide +kernel
theorem hm_cm74 : hm_chkM hm_T74 = true := by decide +kernel
set_option maxRecDepth 100000 in
theorem hm_ck75 : hm_okT hm_T75 := by decide +kernel
theorem hm_cm75 : hm_chkM hm_T75 = true := by decide +kernel
set_option maxRecDepth 100000 in
theorem hm_ck76 : hm_okT hm_T76 := by decide +kernel
theorem hm_cm76 : hm_chkM hm_T76 = true := by decide +kernel
set_option maxRecDepth 100000 in
theorem hm_ck77 : hm_okT hm_T77 := by decide +kernel
theorem hm_cm77 : hm_chkM hm_T77 = true := by decide +kernel
set_option maxRecDepth 100000 in
theorem hm_ck78 : hm_okT hm_T78 := by decide +kernel
theorem hm_cm78 : hm_chkM hm_T78 = true := by decide +kernel
set_option maxRecDepth 100000 in
theorem hm_ck79 : hm_okT hm_T79 := by decide +kernel
theorem hm_cm79 : hm_chkM hm_T79 = true := by decide +kernel
set_option maxRecDepth 100000 in
theorem hm_ck80 : hm_okT hm_T80 := by decide +kernel
theorem hm_cm80 : hm_chkM hm_T80 = true := by decide +kernel
set_option maxRecDepth 100000 in
theorem hm_ck81 : hm_okT hm_T81 := by decide +kernel
theorem hm_cm81 : hm_chkM hm_T81 = true := by decide +kernel
set_option maxRecDepth 100000 in
theorem hm_ck82 : hm_okT hm_T82 := by decide +kernel
theorem hm_cm82 : hm_chkM hm_T82 = true := by decide +kernel
set_option maxRecDepth 100000 in
theorem hm_ck83 : hm_okT hm_T83 := by decide +kernel
theorem hm_cm83 : hm_chkM hm_T83 = true := by decide +kernel
set_option maxRecDepth 100000 in
theorem hm_ck84 : hm_okT hm_T84 := by decide +kernel
theorem hm_cm84 : hm_chkM hm_T84 = true := by decide +kernel
set_option maxRecDepth 100000 in
theorem hm_ck85 : hm_okT hm_T85 := by decide +kernel
theorem hm_cm85 : hm_chkM hm_T85 = true := by decide +kernel
set_option maxRecDepth 100000 in
theorem hm_ck86 : hm_okT hm_T86 := by decide +kernel
theorem hm_cm86 : hm_chkM hm_T86 = true := by decide +kernel
set_option maxRecDepth 100000 in
theorem hm_ck87 : hm_okT hm_T87 := by decide +kernel
theorem hm_cm87 : hm_chkM hm_T87 = true := by decide +kernel
set_option maxRecDepth 100000 in
theorem hm_ck88 : hm_okT hm_T88 := by decide +kernel
theorem hm_cm88 : hm_chkM hm_T88 = true := by decide +kernel
set_option maxRecDepth 100000 in
theorem hm_ck89 : hm_okT hm_T89 := by decide +kernel
theorem hm_cm89 : hm_chkM hm_T89 = true := by decide +kernel
set_option maxRecDepth 100000 in
theorem hm_ck90 : hm_okT hm_T90 := by decide +kernel
theorem hm_cm90 : hm_chkM hm_T90 = true := by decide +kernel
set_option maxRecDepth 100000 in
theorem hm_ck91 : hm_okT hm_T91 := by decide +kernel
theorem hm_cm91 : hm_chkM hm_T91 = true := by decide +kernel
set_option maxRecDepth 100000 in
theorem hm_ck92 : hm_okT hm_T92 := by decide +kernel
theorem hm_cm92 : hm_chkM hm_T92 = true := by decide +kernel
set_option maxRecDepth 100000 in
theorem hm_ck93 : hm_okT hm_T93 := by decide +kernel
theorem hm_cm93 : hm_chkM hm_T93 = true := by decide +kernel
set_option maxRecDepth 100000 in
theorem hm_ck94 : hm_okT hm_T94 := by decide +kernel
theorem hm_cm94 : hm_chkM hm_T94 = true := by decide +kernel
set_option maxRecDepth 100000 in
theorem hm_ck95 : hm_okT hm_T95 := by decide +kernel
theorem hm_cm95 : hm_chkM hm_T95 = true := by decide +kernel
set_option maxRecDepth 100000 in
theorem hm_ck96 : hm_okT hm_T96 := by decide +kernel
theorem hm_cm96 : hm_chkM hm_T96 = true := by decide +kernel
set_option maxRecDepth 100000 in
theorem hm_ck97 : hm_okT hm_T97 := by decide +kernel
theorem hm_cm97 : hm_chkM hm_T97 = true := by decide +kernel
set_option maxRecDepth 100000 in
theorem hm_ck98 : hm_okT hm_T98 := by decide +kernel
theorem hm_cm98 : hm_chkM hm_T98 = true := by decide +kernel
set_option maxRecDepth 100000 in
theorem hm_ck99 : hm_okT hm_T99 := by decide +kernel
theorem hm_cm99 : hm_chkM hm_T99 = true := by decide +kernel
set_option maxRecDepth 100000 in
theorem hm_ck100 : hm_okT hm_T100 := by decide +kernel
theorem hm_cm100 : hm_chkM hm_T100 = true := by decide +kernel
set_option maxRecDepth 100000 in
theorem hm_ck101 : hm_okT hm_T101 := by decide +kernel
theorem hm_cm101 : hm_chkM hm_T101 = true := by decide +kernel
set_option maxRecDepth 100000 in
theorem hm_ck102 : hm_okT hm_T102 := by decide +kernel
theorem hm_cm102 : hm_chkM hm_T102 = true := by decide +kernel
set_option maxRecDepth 100000 in
theorem hm_ck103 : hm_okT hm_T103 := by decide +kernel
theorem hm_cm103 : hm_chkM hm_T103 = true := by decide +kernel
set_option maxRecDepth 100000 in
theorem hm_ck104 : hm_okT hm_T104 := by decide +kernel
theorem hm_cm104 : hm_chkM hm_T104 = true := by decide +kernel
set_option maxRecDepth 100000 in
theorem hm_ck105 : hm_okT hm_T105 := by decide +kernel
theorem hm_cm105 : hm_chkM hm_T105 = true := by decide +kernel
