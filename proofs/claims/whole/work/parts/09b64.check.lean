set_option maxRecDepth 100000 in
theorem hm_ck145 : hm_okT hm_T145 := by decide +kernel
theorem hm_cm145 : hm_chkM hm_T145 = true := by decide +kernel
set_option maxRecDepth 100000 in
theorem hm_ck146 : hm_okT hm_T146 := by decide +kernel
theorem hm_cm146 : hm_chkM hm_T146 = true := by decide +kernel
set_option maxRecDepth 100000 in
theorem hm_ck147 : hm_okT hm_T147 := by decide +kernel
theorem hm_cm147 : hm_chkM hm_T147 = true := by decide +kernel
set_option maxRecDepth 100000 in
theorem hm_ck148 : hm_okT hm_T148 := by decide +kernel
theorem hm_cm148 : hm_chkM hm_T148 = true := by decide +kernel
set_option maxRecDepth 100000 in
theorem hm_ck149 : hm_okT hm_T149 := by decide +kernel
theorem hm_cm149 : hm_chkM hm_T149 = true := by decide +kernel
set_option maxRecDepth 100000 in
theorem hm_ck150 : hm_okT hm_T150 := by decide +kernel
theorem hm_cm150 : hm_chkM hm_T150 = true := by decide +kernel
set_option maxRecDepth 100000 in
theorem hm_ck151 : hm_okT hm_T151 := by decide +kernel
theorem hm_cm151 : hm_chkM hm_T151 = true := by decide +kernel
set_option maxRecDepth 100000 in
theorem hm_ck152 : hm_okT hm_T152 := by decide +kernel
theorem hm_cm152 : hm_chkM hm_T152 = true := by decide +kernel
set_option maxRecDepth 100000 in
theorem hm_ck153 : hm_okT hm_T153 := by decide +kernel
theorem hm_cm153 : hm_chkM hm_T153 = true := by decide +kernel
set_option maxRecDepth 100000 in
theorem hm_ck154 : hm_okT hm_T154 := by decide +kernel
theorem hm_cm154 : hm_chkM hm_T154 = true := by decide +kernel
set_option maxRecDepth 100000 in
theorem hm_ck155 : hm_okT hm_T155 := by decide +kernel
theorem hm_cm155 : hm_chkM hm_T155 = true := by decide +kernel
set_option maxRecDepth 100000 in
theorem hm_ck156 : hm_okT hm_T156 := by decide +kernel
theorem hm_cm156 : hm_chkM hm_T156 = true := by decide +kernel
set_option maxRecDepth 100000 in
theorem hm_ck157 : hm_okT hm_T157 := by decide +kernel
theorem hm_cm157 : hm_chkM hm_T157 = true := by decide +kernel
set_option maxRecDepth 100000 in
theorem hm_ck158 : hm_okT hm_T158 := by decide +kernel
theorem hm_cm158 : hm_chkM hm_T158 = true := by decide +kernel
set_option maxRecDepth 100000 in
theorem hm_ck159 : hm_okT hm_T159 := by decide +kernel
theorem hm_cm159 : hm_chkM hm_T159 = true := by decide +kernel
set_option maxRecDepth 100000 in
theorem hm_ck160 : hm_okT hm_T160 := by decide +kernel
theorem hm_cm160 : hm_chkM hm_T160 = true := by decide +kernel
set_option maxRecDepth 100000 in
theorem hm_ck161 : hm_okT hm_T161 := by decide +kernel
theorem hm_cm161 : hm_chkM hm_T161 = true := by decide +kernel
set_option maxRecDepth 100000 in
theorem hm_ck162 : hm_okT hm_T162 := by decide +kernel
theorem hm_cm162 : hm_chkM hm_T162 = true := by decide +kernel
set_option maxRecDepth 100000 in
theorem hm_ck163 : hm_okT hm_T163 := by decide +kernel
theorem hm_cm163 : hm_chkM hm_T163 = true := by decide +kernel
set_option maxRecDepth 100000 in
theorem hm_ck164 : hm_okT hm_T164 := by decide +kernel
theorem hm_cm164 : hm_chkM hm_T164 = true := by decide +kernel
set_option maxRecDepth 100000 in
theorem hm_ck165 : hm_okT hm_T165 := by decide +kernel
theorem hm_cm165 : hm_chkM hm_T165 = true := by decide +kernel
set_option maxRecDepth 100000 in
theorem hm_ck166 : hm_okT hm_T166 := by decide +kernel
theorem hm_cm166 : hm_chkM hm_T166 = true := by decide +kernel
set_option maxRecDepth 100000 in
theorem hm_ck167 : hm_okT hm_T167 := by decide +kernel
theorem hm_cm167 : hm_chkM hm_T167 = true := by decide +kernel
set_option maxRecDepth 100000 in
theorem hm_ck168 : hm_okT hm_T168 := by decide +kernel
theorem hm_cm168 : hm_chkM hm_T168 = true := by decide +kernel
set_option maxRecDepth 100000 in
theorem hm_ck169 : hm_okT hm_T169 := by decide +kernel
theorem hm_cm169 : hm_chkM hm_T169 = true := by decide +kernel
