set_option maxRecDepth 100000 in
theorem hm_ck170 : hm_okT hm_T170 := by decide +kernel
theorem hm_cm170 : hm_chkM hm_T170 = true := by decide +kernel
set_option maxRecDepth 100000 in
theorem hm_ck171 : hm_okT hm_T171 := by decide +kernel
theorem hm_cm171 : hm_chkM hm_T171 = true := by decide +kernel
set_option maxRecDepth 100000 in
theorem hm_ck172 : hm_okT hm_T172 := by decide +kernel
theorem hm_cm172 : hm_chkM hm_T172 = true := by decide +kernel
set_option maxRecDepth 100000 in
theorem hm_ck173 : hm_okT hm_T173 := by decide +kernel
theorem hm_cm173 : hm_chkM hm_T173 = true := by decide +kernel
set_option maxRecDepth 100000 in
theorem hm_ck174 : hm_okT hm_T174 := by decide +kernel
theorem hm_cm174 : hm_chkM hm_T174 = true := by decide +kernel
set_option maxRecDepth 100000 in
theorem hm_ck175 : hm_okT hm_T175 := by decide +kernel
theorem hm_cm175 : hm_chkM hm_T175 = true := by decide +kernel
set_option maxRecDepth 100000 in
theorem hm_ck176 : hm_okT hm_T176 := by decide +kernel
theorem hm_cm176 : hm_chkM hm_T176 = true := by decide +kernel
set_option maxRecDepth 100000 in
theorem hm_ck177 : hm_okT hm_T177 := by decide +kernel
theorem hm_cm177 : hm_chkM hm_T177 = true := by decide +kernel
set_option maxRecDepth 100000 in
theorem hm_ck178 : hm_okT hm_T178 := by decide +kernel
theorem hm_cm178 : hm_chkM hm_T178 = true := by decide +kernel
set_option maxRecDepth 100000 in
theorem hm_ck179 : hm_okT hm_T179 := by decide +kernel
theorem hm_cm179 : hm_chkM hm_T179 = true := by decide +kernel
set_option maxRecDepth 100000 in
theorem hm_ck180 : hm_okT hm_T180 := by decide +kernel
theorem hm_cm180 : hm_chkM hm_T180 = true := by decide +kernel
set_option maxRecDepth 100000 in
theorem hm_ck181 : hm_okT hm_T181 := by decide +kernel
theorem hm_cm181 : hm_chkM hm_T181 = true := by decide +kernel
set_option maxRecDepth 100000 in
theorem hm_ck182 : hm_okT hm_T182 := by decide +kernel
theorem hm_cm182 : hm_chkM hm_T182 = true := by decide +kernel
set_option maxRecDepth 100000 in
theorem hm_ck183 : hm_okT hm_T183 := by decide +kernel
theorem hm_cm183 : hm_chkM hm_T183 = true := by decide +kernel
set_option maxRecDepth 100000 in
theorem hm_ck184 : hm_okT hm_T184 := by decide +kernel
theorem hm_cm184 : hm_chkM hm_T184 = true := by decide +kernel
set_option maxRecDepth 100000 in
theorem hm_ck185 : hm_okT hm_T185 := by decide +kernel
theorem hm_cm185 : hm_chkM hm_T185 = true := by decide +kernel
set_option maxRecDepth 100000 in
theorem hm_ck186 : hm_okT hm_T186 := by decide +kernel
theorem hm_cm186 : hm_chkM hm_T186 = true := by decide +kernel
set_option maxRecDepth 100000 in
theorem hm_ck187 : hm_okT hm_T187 := by decide +kernel
theorem hm_cm187 : hm_chkM hm_T187 = true := by decide +kernel
set_option maxRecDepth 100000 in
theorem hm_ck188 : hm_okT hm_T188 := by decide +kernel
theorem hm_cm188 : hm_chkM hm_T188 = true := by decide +kernel
set_option maxRecDepth 100000 in
theorem hm_ck189 : hm_okT hm_T189 := by decide +kernel
theorem hm_cm189 : hm_chkM hm_T189 = true := by decide +kernel
