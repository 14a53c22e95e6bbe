set_option maxRecDepth 100000 in
theorem hm_ck106 : hm_okT hm_T106 := by decide +kernel
theorem hm_cm106 : hm_chkM hm_T106 = true := by decide +kernel
set_option maxRecDepth 100000 in
theorem hm_ck107 : hm_okT hm_T107 := by decide +kernel
theorem hm_cm107 : hm_chkM hm_T107 = true := by decide +kernel
set_option maxRecDepth 100000 in
theorem hm_ck108 : hm_okT hm_T108 := by decide +kernel
theorem hm_cm108 : hm_chkM hm_T108 = true := by decide +kernel
set_option maxRecDepth 100000 in
theorem hm_ck109 : hm_okT hm_T109 := by decide +kernel
theorem hm_cm109 : hm_chkM hm_T109 = true := by decide +kernel
set_option maxRecDepth 100000 in
theorem hm_ck110 : hm_okT hm_T110 := by decide +kernel
theorem hm_cm110 : hm_chkM hm_T110 = true := by decide +kernel
set_option maxRecDepth 100000 in
theorem hm_ck111 : hm_okT hm_T111 := by decide +kernel
theorem hm_cm111 : hm_chkM hm_T111 = true := by decide +kernel
set_option maxRecDepth 100000 in
theorem hm_ck112 : hm_okT hm_T112 := by decide +kernel
theorem hm_cm112 : hm_chkM hm_T112 = true := by decide +kernel
set_option maxRecDepth 100000 in
theorem hm_ck113 : hm_okT hm_T113 := by decide +kernel
theorem hm_cm113 : hm_chkM hm_T113 = true := by decide +kernel
set_option maxRecDepth 100000 in
theorem hm_ck114 : hm_okT hm_T114 := by decide +kernel
theorem hm_cm114 : hm_chkM hm_T114 = true := by decide +kernel
set_option maxRecDepth 100000 in
theorem hm_ck115 : hm_okT hm_T115 := by decide +kernel
theorem hm_cm115 : hm_chkM hm_T115 = true := by decide +kernel
set_option maxRecDepth 100000 in
theorem hm_ck116 : hm_okT hm_T116 := by decide +kernel
theorem hm_cm116 : hm_chkM hm_T116 = true := by decide +kernel
set_option maxRecDepth 100000 in
theorem hm_ck117 : hm_okT hm_T117 := by decide +kernel
theorem hm_cm117 : hm_chkM hm_T117 = true := by decide +kernel
set_option maxRecDepth 100000 in
theorem hm_ck118 : hm_okT hm_T118 := by decide +kernel
theorem hm_cm118 : hm_chkM hm_T118 = true := by decide +kernel
set_option maxRecDepth 100000 in
theorem hm_ck119 : hm_okT hm_T119 := by decide +kernel
theorem hm_cm119 : hm_chkM hm_T119 = true := by decide +kernel
set_option maxRecDepth 100000 in
theorem hm_ck120 : hm_okT hm_T120 := by decide +kernel
theorem hm_cm120 : hm_chkM hm_T120 = true := by decide +kernel
set_option maxRecDepth 100000 in
theorem hm_ck121 : hm_okT hm_T121 := by decide +kernel
theorem hm_cm121 : hm_chkM hm_T121 = true := by decide +kernel
set_option maxRecDepth 100000 in
theorem hm_ck122 : hm_okT hm_T122 := by decide +kernel
theorem hm_cm122 : hm_chkM hm_T122 = true := by decide +kernel
set_option maxRecDepth 100000 in
theorem hm_ck123 : hm_okT hm_T123 := by decide +kernel
theorem hm_cm123 : hm_chkM hm_T123 = true := by decide +kernel
set_option maxRecDepth 100000 in
theorem hm_ck124 : hm_okT hm_T124 := by decide +kernel
theorem hm_cm124 : hm_chkM hm_T124 = true := by decide +kernel
set_option maxRecDepth 100000 in
theorem hm_ck125 : hm_okT hm_T125 := by decide +kernel
theorem hm_cm125 : hm_chkM hm_T125 = true := by decide +kernel
set_option maxRecDepth 100000 in
theorem hm_ck126 : hm_okT hm_T126 := by decide +kernel
theorem hm_cm126 : hm_chkM hm_T126 = true := by decide +kernel
set_option maxRecDepth 100000 in
theorem hm_ck127 : hm_okT hm_T127 := by decide +kernel
theorem hm_cm127 : hm_chkM hm_T127 = true := by decide +kernel
set_option maxRecDepth 100000 in
theorem hm_ck128 : hm_okT hm_T128 := by decide +kernel
theorem hm_cm128 : hm_chkM hm_T128 = true := by decide +kernel
set_option maxRecDepth 100000 in
theorem hm_ck129 : hm_okT hm_T129 := by decide +kernel
theorem hm_cm129 : hm_chkM hm_T129 = true := by decide +kernel
set_option maxRecDepth 100000 in
theorem hm_ck130 : hm_okT hm_T130 := by decide +kernel
theorem hm_cm130 : hm_chkM hm_T130 = true := by decide +kernel
set_option maxRecDepth 100000 in
theorem hm_ck131 : hm_okT hm_T131 := by decide +kernel
theorem hm_cm131 : hm_chkM hm_T131 = true := by decide +kernel
set_option maxRecDepth 100000 in
theorem hm_ck132 : hm_okT hm_T132 := by decide +kernel
theorem hm_cm132 : hm_chkM hm_T132 = true := by decide +kernel
set_option maxRecDepth 100000 in
theorem hm_ck133 : hm_okT hm_T133 := by decide +kernel
theorem hm_cm133 : hm_chkM hm_T133 = true := by decide +kernel
set_option maxRecDepth 100000 in
theorem hm_ck134 : hm_okT hm_T134 := by decide +kernel
theorem hm_cm134 : hm_chkM hm_T134 = true := by decide +kernel
set_option maxRecDepth 100000 in
theorem hm_ck135 : hm_okT hm_T135 := by decide +kernel
theorem hm_cm135 : hm_chkM hm_T135 = true := by decide +kernel
set_option maxRecDepth 100000 in
theorem hm_ck136 : hm_okT hm_T136 := by decide +kernel
theorem hm_cm136 : hm_chkM hm_T136 = true := by decide +kernel
set_option maxRecDepth 100000 in
theorem hm_ck137 : hm_okT hm_T137 := by decide +kernel
theorem hm_cm137 : hm_chkM hm_T137 = true := by decide +kernel
set_option maxRecDepth 100000 in
theorem hm_ck138 : hm_okT hm_T138 := by decide +kernel
theorem hm_cm138 : hm_chkM hm_T138 = true := by decide +kernel
set_option maxRecDepth 100000 in
theorem hm_ck139 : hm_okT hm_T139 := by decide +kernel
theorem hm_cm139 : hm_chkM hm_T139 = true := by decide +kernel
set_option maxRecDepth 100000 in
theorem hm_ck140 : hm_okT hm_T140 := by decide +kernel
theorem hm_cm140 : hm_chkM hm_T140 = true := by decide +kernel
set_option maxRecDepth 100000 in
theorem hm_ck141 : hm_okT hm_T141 := by decide +kernel
theorem hm_cm141 : hm_chkM hm_T141 = true := by decide +kernel
set_option maxRecDepth 100000 in
theorem hm_ck142 : hm_okT hm_T142 := by decide +kernel
theorem hm_cm142 : hm_chkM hm_T142 = true := by decide +kernel
set_option maxRecDepth 100000 in
theorem hm_ck143 : hm_okT hm_T143 := by decide +kernel
theorem hm_cm143 : hm_chkM hm_T143 = true := by decide +kernel
set_option maxRecDepth 100000 in
theorem hm_ck144 : hm_okT hm_T144 := by decide +kernel
theorem hm_cm144 : hm_chkM hm_T144 = true := by decide +kernel
