section LW
variable {d mid pc nx b : Nat} {M N : hm_M} {sx : Int → Int} {i L x c : Int} {l : List (Int × Nat)} {ls : hm_L} {st : List hm_V} {Q : Option hm_V → hm_M → Prop}
/-- the script -/
def SX (M : hm_M) (L : Int) (sx : Int → Int) : Prop := M 1006 0 = zI L ∧ aw (M 1005) L (-2147483648) 2147483647 sx
theorem SX.mv (h : SX M L sx) (e1 : N 1005 = M 1005) (e2 : N 1006 = M 1006) : SX N L sx := by unfold SX at *; rw [e1, e2]; exact h
theorem SX.arr (h : SX M L sx) (h0 : 0 ≤ L) (h1 : L ≤ 384) : hm_arr M false 1005 = some (L.toNat, M 1005) := by
  have e : (M 1006 0).toNatClampNeg = L.toNat := by
    rw [h.1]
    have e2 := zI_toInt (a := L) ⟨by omega, by omega⟩
    show (zI L).toInt.toNat = L.toNat
    rw [e2]
  show some ((M 1006 0).toNatClampNeg, M 1005) = _
  rw [e]
theorem z_scr (h : hm_at mid pc = some (nx, 20, c, 0, l)) (hs : SX M L sx) (hL : L ≤ 384) (h0 : 0 ≤ x) (h1 : x < L) (kk : hm_Wp d mid nx ls (.inl (zI (sx x)) :: st) M Q) : hm_Wp d mid pc ls (.inl (zI x) :: .inr (.inr 1005) :: st) M Q := by
  refine z_alx h (hs.arr (by omega) hL) hs.2 h0 h1 (by omega) (by omega) (fun v ev lv uv => ?_)
  rw [ev]; exact kk
theorem swt_all {P : Nat → Prop} : ∀ (l : List (Int × Nat)) (d : Nat) (x : Int), P d → (∀ q ∈ l, P q.2) → P (hm_swt l d x)
  | [], _, _, h, _ => h
  | (k, t) :: r, d, x, h, hl => by
    simp only [hm_swt]
    split
    · exact hl (k, t) List.mem_cons_self
    · exact swt_all r d x h (fun q hq => hl q (List.mem_cons_of_mem _ hq))
theorem law_row (hi0 : 0 ≤ i) (hi : i + 6 ≤ L) (hL : L ≤ 384) (hs : SX M L sx) (hzr : ∀ j, zR (sx j)) (hJ : JJ M) (kk : ∀ M2, JJ M2 → SX M2 L sx → hm_Wp (d + 8) 208 1260 [some (.inr (.inr 1005)), some (.inr (.inr 0)), some (.inr (.inr 30)), some (.inl (zI i))] [] M2 Q) : hm_Wp (d + 8) 208 192 [some (.inr (.inr 1005)), some (.inr (.inr 0)), some (.inr (.inr 30)), some (.inl (zI i))] [] M Q := by
  refine q_aload gg208_192 rfl ?_
  refine q_aload gg208_193 rfl ?_
  refine q_iload gg208_194 rfl ?_
  refine z_const gg208_195 (v := 1) rfl ?_
  refine z_iadd gg208_196 ?_
  refine z_scr gg208_197 hs hL (by omega) (by omega) ?_
  refine q_aload gg208_198 rfl ?_
  refine q_iload gg208_199 rfl ?_
  refine z_const gg208_200 (v := 2) rfl ?_
  refine z_iadd gg208_201 ?_
  refine z_scr gg208_202 hs hL (by omega) (by omega) ?_
  refine q_aload gg208_203 rfl ?_
  refine q_iload gg208_204 rfl ?_
  refine z_const gg208_205 (v := 3) rfl ?_
  refine z_iadd gg208_206 ?_
  refine z_scr gg208_207 hs hL (by omega) (by omega) ?_
  refine q_call4 gg208_208 tt84 rfl (Nat.le_of_ble_eq_true rfl) (hm_rv (by decide +kernel)) (ls' := [some _, some _, some _, some _]) rfl rfl ?_
  refine P_row (hzr _) (hzr _) (hzr _) hJ (fun a M1 e1 e2 hr => ?_)
  have hs1 := hs.mv e1 e2
  show hm_Wp _ _ _ _ (_ :: _) _ _
  refine q_aload gg208_211 rfl ?_
  refine q_aload gg208_212 rfl ?_
  refine q_iload gg208_213 rfl ?_
  refine z_const gg208_214 (v := 1) rfl ?_
  refine z_iadd gg208_215 ?_
  refine z_scr gg208_216 hs1 hL (by omega) (by omega) ?_
  refine q_aload gg208_217 rfl ?_
  refine q_iload gg208_218 rfl ?_
  refine z_const gg208_219 (v := 2) rfl ?_
  refine z_iadd gg208_220 ?_
  refine z_scr gg208_221 hs1 hL (by omega) (by omega) ?_
  refine q_aload gg208_222 rfl ?_
  refine q_iload gg208_223 rfl ?_
  refine z_const gg208_224 (v := 3) rfl ?_
  refine z_iadd gg208_225 ?_
  refine z_scr gg208_226 hs1 hL (by omega) (by omega) ?_
  refine q_call4 gg208_227 tt134 rfl (Nat.le_of_ble_eq_true rfl) (hm_rv (by decide +kernel)) (ls' := [some _, some _, some _, some _, none]) rfl rfl ?_
  refine hr _ (fun M2 hJ2 e3 e4 => ?_)
  show hm_Wp _ _ _ _ (_ :: _) _ _
  refine q_icmp (a = a) hc_eq gg208_230 (tg := 1260) rfl (fun _ => ?_) (fun z => absurd rfl z)
  exact kk M2 hJ2 (hs.mv e3 e4)
theorem law_set (hi0 : 0 ≤ i) (hi : i + 6 ≤ L) (hL : L ≤ 384) (hs : SX M L sx) (hzr : ∀ j, zR (sx j)) (hJ : JJ M) (kk : ∀ M2, JJ M2 → SX M2 L sx → hm_Wp (d + 8) 208 1260 [some (.inr (.inr 1005)), some (.inr (.inr 0)), some (.inr (.inr 30)), some (.inl (zI i))] [] M2 Q) : hm_Wp (d + 8) 208 235 [some (.inr (.inr 1005)), some (.inr (.inr 0)), some (.inr (.inr 30)), some (.inl (zI i))] [] M Q := by
  refine q_aload gg208_235 rfl ?_
  refine q_aload gg208_236 rfl ?_
  refine q_iload gg208_237 rfl ?_
  refine z_const gg208_238 (v := 1) rfl ?_
  refine z_iadd gg208_239 ?_
  refine z_scr gg208_240 hs hL (by omega) (by omega) ?_
  refine q_aload gg208_241 rfl ?_
  refine q_iload gg208_242 rfl ?_
  refine z_const gg208_243 (v := 2) rfl ?_
  refine z_iadd gg208_244 ?_
  refine z_scr gg208_245 hs hL (by omega) (by omega) ?_
  refine q_aload gg208_246 rfl ?_
  refine q_iload gg208_247 rfl ?_
  refine z_const gg208_248 (v := 3) rfl ?_
  refine z_iadd gg208_249 ?_
  refine z_scr gg208_250 hs hL (by omega) (by omega) ?_
  refine q_call4 gg208_251 tt85 rfl (Nat.le_of_ble_eq_true rfl) (hm_rv (by decide +kernel)) (ls' := [some _, some _, some _, some _]) rfl rfl ?_
  refine P_set (hzr _) (hzr _) (hzr _) hJ (fun a M1 e1 e2 hr => ?_)
  have hs1 := hs.mv e1 e2
  show hm_Wp _ _ _ _ (_ :: _) _ _
  refine q_aload gg208_254 rfl ?_
  refine q_aload gg208_255 rfl ?_
  refine q_iload gg208_256 rfl ?_
  refine z_const gg208_257 (v := 1) rfl ?_
  refine z_iadd gg208_258 ?_
  refine z_scr gg208_259 hs1 hL (by omega) (by omega) ?_
  refine q_aload gg208_260 rfl ?_
  refine q_iload gg208_261 rfl ?_
  refine z_const gg208_262 (v := 2) rfl ?_
  refine z_iadd gg208_263 ?_
  refine z_scr gg208_264 hs1 hL (by omega) (by omega) ?_
  refine q_aload gg208_265 rfl ?_
  refine q_iload gg208_266 rfl ?_
  refine z_const gg208_267 (v := 3) rfl ?_
  refine z_iadd gg208_268 ?_
  refine z_scr gg208_269 hs1 hL (by omega) (by omega) ?_
  refine q_call4 gg208_270 tt135 rfl (Nat.le_of_ble_eq_true rfl) (hm_rv (by decide +kernel)) (ls' := [some _, some _, some _, some _]) rfl rfl ?_
  refine hr _ (fun M2 hJ2 e3 e4 => ?_)
  show hm_Wp _ _ _ _ (_ :: _) _ _
  refine q_icmp (a = a) hc_eq gg208_273 (tg := 1260) rfl (fun _ => ?_) (fun z => absurd rfl z)
  exact kk M2 hJ2 (hs.mv e3 e4)
theorem law_copy (hi0 : 0 ≤ i) (hi : i + 6 ≤ L) (hL : L ≤ 384) (hs : SX M L sx) (hzr : ∀ j, zR (sx j)) (hJ : JJ M) (kk : ∀ M2, JJ M2 → SX M2 L sx → hm_Wp (d + 8) 208 1260 [some (.inr (.inr 1005)), some (.inr (.inr 0)), some (.inr (.inr 30)), some (.inl (zI i))] [] M2 Q) : hm_Wp (d + 8) 208 278 [some (.inr (.inr 1005)), some (.inr (.inr 0)), some (.inr (.inr 30)), some (.inl (zI i))] [] M Q := by
  refine q_aload gg208_278 rfl ?_
  refine q_aload gg208_279 rfl ?_
  refine q_iload gg208_280 rfl ?_
  refine z_const gg208_281 (v := 1) rfl ?_
  refine z_iadd gg208_282 ?_
  refine z_scr gg208_283 hs hL (by omega) (by omega) ?_
  refine q_aload gg208_284 rfl ?_
  refine q_iload gg208_285 rfl ?_
  refine z_const gg208_286 (v := 2) rfl ?_
  refine z_iadd gg208_287 ?_
  refine z_scr gg208_288 hs hL (by omega) (by omega) ?_
  refine q_aload gg208_289 rfl ?_
  refine q_iload gg208_290 rfl ?_
  refine z_const gg208_291 (v := 3) rfl ?_
  refine z_iadd gg208_292 ?_
  refine z_scr gg208_293 hs hL (by omega) (by omega) ?_
  refine q_aload gg208_294 rfl ?_
  refine q_iload gg208_295 rfl ?_
  refine z_const gg208_296 (v := 4) rfl ?_
  refine z_iadd gg208_297 ?_
  refine z_scr gg208_298 hs hL (by omega) (by omega) ?_
  refine q_aload gg208_299 rfl ?_
  refine q_iload gg208_300 rfl ?_
  refine z_const gg208_301 (v := 5) rfl ?_
  refine z_iadd gg208_302 ?_
  refine z_scr gg208_303 hs hL (by omega) (by omega) ?_
  refine q_call6 gg208_304 tt86 rfl (Nat.le_of_ble_eq_true rfl) (hm_rv (by decide +kernel)) (ls' := [some _, some _, some _, some _, some _, some _]) rfl rfl ?_
  refine P_copy (hzr _) (hzr _) (hzr _) (hzr _) (hzr _) hJ (fun a M1 e1 e2 hr => ?_)
  have hs1 := hs.mv e1 e2
  show hm_Wp _ _ _ _ (_ :: _) _ _
  refine q_aload gg208_307 rfl ?_
  refine q_aload gg208_308 rfl ?_
  refine q_iload gg208_309 rfl ?_
  refine z_const gg208_310 (v := 1) rfl ?_
  refine z_iadd gg208_311 ?_
  refine z_scr gg208_312 hs1 hL (by omega) (by omega) ?_
  refine q_aload gg208_313 rfl ?_
  refine q_iload gg208_314 rfl ?_
  refine z_const gg208_315 (v := 2) rfl ?_
  refine z_iadd gg208_316 ?_
  refine z_scr gg208_317 hs1 hL (by omega) (by omega) ?_
  refine q_aload gg208_318 rfl ?_
  refine q_iload gg208_319 rfl ?_
  refine z_const gg208_320 (v := 3) rfl ?_
  refine z_iadd gg208_321 ?_
  refine z_scr gg208_322 hs1 hL (by omega) (by omega) ?_
  refine q_aload gg208_323 rfl ?_
  refine q_iload gg208_324 rfl ?_
  refine z_const gg208_325 (v := 4) rfl ?_
  refine z_iadd gg208_326 ?_
  refine z_scr gg208_327 hs1 hL (by omega) (by omega) ?_
  refine q_aload gg208_328 rfl ?_
  refine q_iload gg208_329 rfl ?_
  refine z_const gg208_330 (v := 5) rfl ?_
  refine z_iadd gg208_331 ?_
  refine z_scr gg208_332 hs1 hL (by omega) (by omega) ?_
  refine q_call6 gg208_333 tt137 rfl (Nat.le_of_ble_eq_true rfl) (hm_rv (by decide +kernel)) (ls' := [some _, some _, some _, some _, some _, some _, none]) rfl rfl ?_
  refine hr _ (fun M2 hJ2 e3 e4 => ?_)
  show hm_Wp _ _ _ _ (_ :: _) _ _
  refine q_icmp (a = a) hc_eq gg208_336 (tg := 1260) rfl (fun _ => ?_) (fun z => absurd rfl z)
  exact kk M2 hJ2 (hs.mv e3 e4)
theorem law_drop (hi0 : 0 ≤ i) (hi : i + 6 ≤ L) (hL : L ≤ 384) (hs : SX M L sx) (hzr : ∀ j, zR (sx j)) (hJ : JJ M) (kk : ∀ M2, JJ M2 → SX M2 L sx → hm_Wp (d + 8) 208 1260 [some (.inr (.inr 1005)), some (.inr (.inr 0)), some (.inr (.inr 30)), some (.inl (zI i))] [] M2 Q) : hm_Wp (d + 8) 208 341 [some (.inr (.inr 1005)), some (.inr (.inr 0)), some (.inr (.inr 30)), some (.inl (zI i))] [] M Q := by
  refine q_aload gg208_341 rfl ?_
  refine q_aload gg208_342 rfl ?_
  refine q_iload gg208_343 rfl ?_
  refine z_const gg208_344 (v := 1) rfl ?_
  refine z_iadd gg208_345 ?_
  refine z_scr gg208_346 hs hL (by omega) (by omega) ?_
  refine q_call2 gg208_347 tt87 rfl (Nat.le_of_ble_eq_true rfl) (hm_rv (by decide +kernel)) (ls' := [some _, some _]) rfl rfl ?_
  refine P_drop (hzr _) hJ (fun a M1 e1 e2 hr => ?_)
  have hs1 := hs.mv e1 e2
  show hm_Wp _ _ _ _ (_ :: _) _ _
  refine q_aload gg208_350 rfl ?_
  refine q_aload gg208_351 rfl ?_
  refine q_iload gg208_352 rfl ?_
  refine z_const gg208_353 (v := 1) rfl ?_
  refine z_iadd gg208_354 ?_
  refine z_scr gg208_355 hs1 hL (by omega) (by omega) ?_
  refine q_call2 gg208_356 tt138 rfl (Nat.le_of_ble_eq_true rfl) (hm_rv (by decide +kernel)) (ls' := [some _, some _]) rfl rfl ?_
  refine hr _ (fun M2 hJ2 e3 e4 => ?_)
  show hm_Wp _ _ _ _ (_ :: _) _ _
  refine q_icmp (a = a) hc_eq gg208_359 (tg := 1260) rfl (fun _ => ?_) (fun z => absurd rfl z)
  exact kk M2 hJ2 (hs.mv e3 e4)
theorem law_feed (hi0 : 0 ≤ i) (hi : i + 6 ≤ L) (hL : L ≤ 384) (hs : SX M L sx) (hzr : ∀ j, zR (sx j)) (hJ : JJ M) (kk : ∀ M2, JJ M2 → SX M2 L sx → hm_Wp (d + 8) 208 1260 [some (.inr (.inr 1005)), some (.inr (.inr 0)), some (.inr (.inr 30)), some (.inl (zI i))] [] M2 Q) : hm_Wp (d + 8) 208 364 [some (.inr (.inr 1005)), some (.inr (.inr 0)), some (.inr (.inr 30)), some (.inl (zI i))] [] M Q := by
  refine q_aload gg208_364 rfl ?_
  refine q_aload gg208_365 rfl ?_
  refine q_iload gg208_366 rfl ?_
  refine z_const gg208_367 (v := 1) rfl ?_
  refine z_iadd gg208_368 ?_
  refine z_scr gg208_369 hs hL (by omega) (by omega) ?_
  refine q_call2 gg208_370 tt88 rfl (Nat.le_of_ble_eq_true rfl) (hm_rv (by decide +kernel)) (ls' := [some _, some _]) rfl rfl ?_
  refine P_feed (hzr _) hJ (fun a M1 e1 e2 hr => ?_)
  have hs1 := hs.mv e1 e2
  show hm_Wp _ _ _ _ (_ :: _) _ _
  refine q_aload gg208_373 rfl ?_
  refine q_aload gg208_374 rfl ?_
  refine q_iload gg208_375 rfl ?_
  refine z_const gg208_376 (v := 1) rfl ?_
  refine z_iadd gg208_377 ?_
  refine z_scr gg208_378 hs1 hL (by omega) (by omega) ?_
  refine q_call2 gg208_379 tt139 rfl (Nat.le_of_ble_eq_true rfl) (hm_rv (by decide +kernel)) (ls' := [some _, some _]) rfl rfl ?_
  refine hr _ (fun M2 hJ2 e3 e4 => ?_)
  show hm_Wp _ _ _ _ (_ :: _) _ _
  refine q_icmp (a = a) hc_eq gg208_382 (tg := 1260) rfl (fun _ => ?_) (fun z => absurd rfl z)
  exact kk M2 hJ2 (hs.mv e3 e4)
theorem law_hob (hi0 : 0 ≤ i) (hi : i + 6 ≤ L) (hL : L ≤ 384) (hs : SX M L sx) (hzr : ∀ j, zR (sx j)) (hJ : JJ M) (kk : ∀ M2, JJ M2 → SX M2 L sx → hm_Wp (d + 8) 208 1260 [some (.inr (.inr 1005)), some (.inr (.inr 0)), some (.inr (.inr 30)), some (.inl (zI i))] [] M2 Q) : hm_Wp (d + 8) 208 387 [some (.inr (.inr 1005)), some (.inr (.inr 0)), some (.inr (.inr 30)), some (.inl (zI i))] [] M Q := by
  refine q_aload gg208_387 rfl ?_
  refine q_call1 gg208_388 tt89 rfl (Nat.le_of_ble_eq_true rfl) (hm_rv (by decide +kernel)) (ls' := [some _]) rfl rfl ?_
  refine P_hob hJ (fun a M1 e1 e2 hr => ?_)
  have hs1 := hs.mv e1 e2
  show hm_Wp _ _ _ _ (_ :: _) _ _
  refine q_aload gg208_391 rfl ?_
  refine q_call1 gg208_392 tt149 rfl (Nat.le_of_ble_eq_true rfl) (hm_rv (by decide +kernel)) (ls' := [some _, none]) rfl rfl ?_
  refine hr _ (fun M2 hJ2 e3 e4 => ?_)
  show hm_Wp _ _ _ _ (_ :: _) _ _
  refine q_icmp (a = a) hc_eq gg208_395 (tg := 1260) rfl (fun _ => ?_) (fun z => absurd rfl z)
  exact kk M2 hJ2 (hs.mv e3 e4)
theorem law_fault (hi0 : 0 ≤ i) (hi : i + 6 ≤ L) (hL : L ≤ 384) (hs : SX M L sx) (hzr : ∀ j, zR (sx j)) (hJ : JJ M) (kk : ∀ M2, JJ M2 → SX M2 L sx → hm_Wp (d + 8) 208 1260 [some (.inr (.inr 1005)), some (.inr (.inr 0)), some (.inr (.inr 30)), some (.inl (zI i))] [] M2 Q) : hm_Wp (d + 8) 208 400 [some (.inr (.inr 1005)), some (.inr (.inr 0)), some (.inr (.inr 30)), some (.inl (zI i))] [] M Q := by
  refine q_aload gg208_400 rfl ?_
  refine q_call1 gg208_401 tt90 rfl (Nat.le_of_ble_eq_true rfl) (hm_rv (by decide +kernel)) (ls' := [some _]) rfl rfl ?_
  refine P_fault hJ (fun a M1 e1 e2 hr => ?_)
  have hs1 := hs.mv e1 e2
  show hm_Wp _ _ _ _ (_ :: _) _ _
  refine q_aload gg208_404 rfl ?_
  refine q_call1 gg208_405 tt150 rfl (Nat.le_of_ble_eq_true rfl) (hm_rv (by decide +kernel)) (ls' := [some _]) rfl rfl ?_
  refine hr _ (fun M2 hJ2 e3 e4 => ?_)
  show hm_Wp _ _ _ _ (_ :: _) _ _
  refine q_icmp (a = a) hc_eq gg208_408 (tg := 1260) rfl (fun _ => ?_) (fun z => absurd rfl z)
  exact kk M2 hJ2 (hs.mv e3 e4)
theorem law_hours (hi0 : 0 ≤ i) (hi : i + 6 ≤ L) (hL : L ≤ 384) (hs : SX M L sx) (hzr : ∀ j, zR (sx j)) (hJ : JJ M) (kk : ∀ M2, JJ M2 → SX M2 L sx → hm_Wp (d + 8) 208 1260 [some (.inr (.inr 1005)), some (.inr (.inr 0)), some (.inr (.inr 30)), some (.inl (zI i))] [] M2 Q) : hm_Wp (d + 8) 208 413 [some (.inr (.inr 1005)), some (.inr (.inr 0)), some (.inr (.inr 30)), some (.inl (zI i))] [] M Q := by
  refine q_aload gg208_413 rfl ?_
  refine q_aload gg208_414 rfl ?_
  refine q_iload gg208_415 rfl ?_
  refine z_const gg208_416 (v := 1) rfl ?_
  refine z_iadd gg208_417 ?_
  refine z_scr gg208_418 hs hL (by omega) (by omega) ?_
  refine q_call2 gg208_419 tt91 rfl (Nat.le_of_ble_eq_true rfl) (hm_rv (by decide +kernel)) (ls' := [some _, some _, none]) rfl rfl ?_
  refine P_hours (hzr _) hJ (fun a M1 e1 e2 hr => ?_)
  have hs1 := hs.mv e1 e2
  show hm_Wp _ _ _ _ (_ :: _) _ _
  refine q_aload gg208_422 rfl ?_
  refine q_aload gg208_423 rfl ?_
  refine q_iload gg208_424 rfl ?_
  refine z_const gg208_425 (v := 1) rfl ?_
  refine z_iadd gg208_426 ?_
  refine z_scr gg208_427 hs1 hL (by omega) (by omega) ?_
  refine q_call2 gg208_428 tt166 rfl (Nat.le_of_ble_eq_true rfl) (hm_rv (by decide +kernel)) (ls' := [some _, some _, none]) rfl rfl ?_
  refine hr _ (fun M2 hJ2 e3 e4 => ?_)
  show hm_Wp _ _ _ _ (_ :: _) _ _
  refine q_icmp (a = a) hc_eq gg208_431 (tg := 1260) rfl (fun _ => ?_) (fun z => absurd rfl z)
  exact kk M2 hJ2 (hs.mv e3 e4)
theorem law_stir (hi0 : 0 ≤ i) (hi : i + 6 ≤ L) (hL : L ≤ 384) (hs : SX M L sx) (hzr : ∀ j, zR (sx j)) (hJ : JJ M) (kk : ∀ M2, JJ M2 → SX M2 L sx → hm_Wp (d + 8) 208 1260 [some (.inr (.inr 1005)), some (.inr (.inr 0)), some (.inr (.inr 30)), some (.inl (zI i))] [] M2 Q) : hm_Wp (d + 8) 208 436 [some (.inr (.inr 1005)), some (.inr (.inr 0)), some (.inr (.inr 30)), some (.inl (zI i))] [] M Q := by
  refine q_aload gg208_436 rfl ?_
  refine q_aload gg208_437 rfl ?_
  refine q_iload gg208_438 rfl ?_
  refine z_const gg208_439 (v := 1) rfl ?_
  refine z_iadd gg208_440 ?_
  refine z_scr gg208_441 hs hL (by omega) (by omega) ?_
  refine q_call2 gg208_442 tt92 rfl (Nat.le_of_ble_eq_true rfl) (hm_rv (by decide +kernel)) (ls' := [some _, some _]) rfl rfl ?_
  refine P_stir (hzr _) hJ (fun a M1 e1 e2 hr => ?_)
  have hs1 := hs.mv e1 e2
  show hm_Wp _ _ _ _ (_ :: _) _ _
  refine q_aload gg208_445 rfl ?_
  refine q_aload gg208_446 rfl ?_
  refine q_iload gg208_447 rfl ?_
  refine z_const gg208_448 (v := 1) rfl ?_
  refine z_iadd gg208_449 ?_
  refine z_scr gg208_450 hs1 hL (by omega) (by omega) ?_
  refine q_call2 gg208_451 tt167 rfl (Nat.le_of_ble_eq_true rfl) (hm_rv (by decide +kernel)) (ls' := [some _, some _]) rfl rfl ?_
  refine hr _ (fun M2 hJ2 e3 e4 => ?_)
  show hm_Wp _ _ _ _ (_ :: _) _ _
  refine q_icmp (a = a) hc_eq gg208_454 (tg := 1260) rfl (fun _ => ?_) (fun z => absurd rfl z)
  exact kk M2 hJ2 (hs.mv e3 e4)
theorem law_on (hi0 : 0 ≤ i) (hi : i + 6 ≤ L) (hL : L ≤ 384) (hs : SX M L sx) (hzr : ∀ j, zR (sx j)) (hJ : JJ M) (kk : ∀ M2, JJ M2 → SX M2 L sx → hm_Wp (d + 8) 208 1260 [some (.inr (.inr 1005)), some (.inr (.inr 0)), some (.inr (.inr 30)), some (.inl (zI i))] [] M2 Q) : hm_Wp (d + 8) 208 459 [some (.inr (.inr 1005)), some (.inr (.inr 0)), some (.inr (.inr 30)), some (.inl (zI i))] [] M Q := by
  refine q_aload gg208_459 rfl ?_
  refine q_aload gg208_460 rfl ?_
  refine q_iload gg208_461 rfl ?_
  refine z_const gg208_462 (v := 1) rfl ?_
  refine z_iadd gg208_463 ?_
  refine z_scr gg208_464 hs hL (by omega) (by omega) ?_
  refine q_aload gg208_465 rfl ?_
  refine q_iload gg208_466 rfl ?_
  refine z_const gg208_467 (v := 2) rfl ?_
  refine z_iadd gg208_468 ?_
  refine z_scr gg208_469 hs hL (by omega) (by omega) ?_
  refine q_call3 gg208_470 tt93 rfl (Nat.le_of_ble_eq_true rfl) (hm_rv (by decide +kernel)) (ls' := [some _, some _, some _, none]) rfl rfl ?_
  refine P_on (hzr _) (hzr _) hJ (fun a M1 e1 e2 hr => ?_)
  have hs1 := hs.mv e1 e2
  show hm_Wp _ _ _ _ (_ :: _) _ _
  refine q_aload gg208_473 rfl ?_
  refine q_aload gg208_474 rfl ?_
  refine q_iload gg208_475 rfl ?_
  refine z_const gg208_476 (v := 1) rfl ?_
  refine z_iadd gg208_477 ?_
  refine z_scr gg208_478 hs1 hL (by omega) (by omega) ?_
  refine q_aload gg208_479 rfl ?_
  refine q_iload gg208_480 rfl ?_
  refine z_const gg208_481 (v := 2) rfl ?_
  refine z_iadd gg208_482 ?_
  refine z_scr gg208_483 hs1 hL (by omega) (by omega) ?_
  refine q_call3 gg208_484 tt168 rfl (Nat.le_of_ble_eq_true rfl) (hm_rv (by decide +kernel)) (ls' := [some _, some _, some _]) rfl rfl ?_
  refine hr _ (fun M2 hJ2 e3 e4 => ?_)
  show hm_Wp _ _ _ _ (_ :: _) _ _
  refine q_icmp (a = a) hc_eq gg208_487 (tg := 1260) rfl (fun _ => ?_) (fun z => absurd rfl z)
  exact kk M2 hJ2 (hs.mv e3 e4)
theorem law_swap (hi0 : 0 ≤ i) (hi : i + 6 ≤ L) (hL : L ≤ 384) (hs : SX M L sx) (hzr : ∀ j, zR (sx j)) (hJ : JJ M) (kk : ∀ M2, JJ M2 → SX M2 L sx → hm_Wp (d + 8) 208 1260 [some (.inr (.inr 1005)), some (.inr (.inr 0)), some (.inr (.inr 30)), some (.inl (zI i))] [] M2 Q) : hm_Wp (d + 8) 208 492 [some (.inr (.inr 1005)), some (.inr (.inr 0)), some (.inr (.inr 30)), some (.inl (zI i))] [] M Q := by
  refine q_aload gg208_492 rfl ?_
  refine q_aload gg208_493 rfl ?_
  refine q_iload gg208_494 rfl ?_
  refine z_const gg208_495 (v := 1) rfl ?_
  refine z_iadd gg208_496 ?_
  refine z_scr gg208_497 hs hL (by omega) (by omega) ?_
  refine q_aload gg208_498 rfl ?_
  refine q_iload gg208_499 rfl ?_
  refine z_const gg208_500 (v := 2) rfl ?_
  refine z_iadd gg208_501 ?_
  refine z_scr gg208_502 hs hL (by omega) (by omega) ?_
  refine q_call3 gg208_503 tt94 rfl (Nat.le_of_ble_eq_true rfl) (hm_rv (by decide +kernel)) (ls' := [some _, some _, some _]) rfl rfl ?_
  refine P_swap (hzr _) (hzr _) hJ (fun a M1 e1 e2 hr => ?_)
  have hs1 := hs.mv e1 e2
  show hm_Wp _ _ _ _ (_ :: _) _ _
  refine q_aload gg208_506 rfl ?_
  refine q_aload gg208_507 rfl ?_
  refine q_iload gg208_508 rfl ?_
  refine z_const gg208_509 (v := 1) rfl ?_
  refine z_iadd gg208_510 ?_
  refine z_scr gg208_511 hs1 hL (by omega) (by omega) ?_
  refine q_aload gg208_512 rfl ?_
  refine q_iload gg208_513 rfl ?_
  refine z_const gg208_514 (v := 2) rfl ?_
  refine z_iadd gg208_515 ?_
  refine z_scr gg208_516 hs1 hL (by omega) (by omega) ?_
  refine q_call3 gg208_517 tt169 rfl (Nat.le_of_ble_eq_true rfl) (hm_rv (by decide +kernel)) (ls' := [some _, some _, some _]) rfl rfl ?_
  refine hr _ (fun M2 hJ2 e3 e4 => ?_)
  show hm_Wp _ _ _ _ (_ :: _) _ _
  refine q_icmp (a = a) hc_eq gg208_520 (tg := 1260) rfl (fun _ => ?_) (fun z => absurd rfl z)
  exact kk M2 hJ2 (hs.mv e3 e4)
theorem law_plums (hi0 : 0 ≤ i) (hi : i + 6 ≤ L) (hL : L ≤ 384) (hs : SX M L sx) (hzr : ∀ j, zR (sx j)) (hJ : JJ M) (kk : ∀ M2, JJ M2 → SX M2 L sx → hm_Wp (d + 8) 208 1260 [some (.inr (.inr 1005)), some (.inr (.inr 0)), some (.inr (.inr 30)), some (.inl (zI i))] [] M2 Q) : hm_Wp (d + 8) 208 525 [some (.inr (.inr 1005)), some (.inr (.inr 0)), some (.inr (.inr 30)), some (.inl (zI i))] [] M Q := by
  refine q_aload gg208_525 rfl ?_
  refine q_aload gg208_526 rfl ?_
  refine q_iload gg208_527 rfl ?_
  refine z_const gg208_528 (v := 1) rfl ?_
  refine z_iadd gg208_529 ?_
  refine z_scr gg208_530 hs hL (by omega) (by omega) ?_
  refine q_aload gg208_531 rfl ?_
  refine q_iload gg208_532 rfl ?_
  refine z_const gg208_533 (v := 2) rfl ?_
  refine z_iadd gg208_534 ?_
  refine z_scr gg208_535 hs hL (by omega) (by omega) ?_
  refine q_call3 gg208_536 tt95 rfl (Nat.le_of_ble_eq_true rfl) (hm_rv (by decide +kernel)) (ls' := [some _, some _, some _]) rfl rfl ?_
  refine P_plums (hzr _) (hzr _) hJ (fun a M1 e1 e2 hr => ?_)
  have hs1 := hs.mv e1 e2
  show hm_Wp _ _ _ _ (_ :: _) _ _
  refine q_aload gg208_539 rfl ?_
  refine q_aload gg208_540 rfl ?_
  refine q_iload gg208_541 rfl ?_
  refine z_const gg208_542 (v := 1) rfl ?_
  refine z_iadd gg208_543 ?_
  refine z_scr gg208_544 hs1 hL (by omega) (by omega) ?_
  refine q_aload gg208_545 rfl ?_
  refine q_iload gg208_546 rfl ?_
  refine z_const gg208_547 (v := 2) rfl ?_
  refine z_iadd gg208_548 ?_
  refine z_scr gg208_549 hs1 hL (by omega) (by omega) ?_
  refine q_call3 gg208_550 tt170 rfl (Nat.le_of_ble_eq_true rfl) (hm_rv (by decide +kernel)) (ls' := [some _, some _, some _, none]) rfl rfl ?_
  refine hr _ (fun M2 hJ2 e3 e4 => ?_)
  show hm_Wp _ _ _ _ (_ :: _) _ _
  refine q_icmp (a = a) hc_eq gg208_553 (tg := 1260) rfl (fun _ => ?_) (fun z => absurd rfl z)
  exact kk M2 hJ2 (hs.mv e3 e4)
theorem law_heat (hi0 : 0 ≤ i) (hi : i + 6 ≤ L) (hL : L ≤ 384) (hs : SX M L sx) (hzr : ∀ j, zR (sx j)) (hJ : JJ M) (kk : ∀ M2, JJ M2 → SX M2 L sx → hm_Wp (d + 8) 208 1260 [some (.inr (.inr 1005)), some (.inr (.inr 0)), some (.inr (.inr 30)), some (.inl (zI i))] [] M2 Q) : hm_Wp (d + 8) 208 558 [some (.inr (.inr 1005)), some (.inr (.inr 0)), some (.inr (.inr 30)), some (.inl (zI i))] [] M Q := by
  refine q_aload gg208_558 rfl ?_
  refine q_aload gg208_559 rfl ?_
  refine q_iload gg208_560 rfl ?_
  refine z_const gg208_561 (v := 1) rfl ?_
  refine z_iadd gg208_562 ?_
  refine z_scr gg208_563 hs hL (by omega) (by omega) ?_
  refine q_call2 gg208_564 tt96 rfl (Nat.le_of_ble_eq_true rfl) (hm_rv (by decide +kernel)) (ls' := [some _, some _, none]) rfl rfl ?_
  refine P_heat (hzr _) hJ (fun a M1 e1 e2 hr => ?_)
  have hs1 := hs.mv e1 e2
  show hm_Wp _ _ _ _ (_ :: _) _ _
  refine q_aload gg208_567 rfl ?_
  refine q_aload gg208_568 rfl ?_
  refine q_iload gg208_569 rfl ?_
  refine z_const gg208_570 (v := 1) rfl ?_
  refine z_iadd gg208_571 ?_
  refine z_scr gg208_572 hs1 hL (by omega) (by omega) ?_
  refine q_call2 gg208_573 tt171 rfl (Nat.le_of_ble_eq_true rfl) (hm_rv (by decide +kernel)) (ls' := [some _, some _, none]) rfl rfl ?_
  refine hr _ (fun M2 hJ2 e3 e4 => ?_)
  show hm_Wp _ _ _ _ (_ :: _) _ _
  refine q_icmp (a = a) hc_eq gg208_576 (tg := 1260) rfl (fun _ => ?_) (fun z => absurd rfl z)
  exact kk M2 hJ2 (hs.mv e3 e4)
theorem law_undo (hi0 : 0 ≤ i) (hi : i + 6 ≤ L) (hL : L ≤ 384) (hs : SX M L sx) (hzr : ∀ j, zR (sx j)) (hJ : JJ M) (kk : ∀ M2, JJ M2 → SX M2 L sx → hm_Wp (d + 8) 208 1260 [some (.inr (.inr 1005)), some (.inr (.inr 0)), some (.inr (.inr 30)), some (.inl (zI i))] [] M2 Q) : hm_Wp (d + 8) 208 581 [some (.inr (.inr 1005)), some (.inr (.inr 0)), some (.inr (.inr 30)), some (.inl (zI i))] [] M Q := by
  refine q_aload gg208_581 rfl ?_
  refine q_call1 gg208_582 tt97 rfl (Nat.le_of_ble_eq_true rfl) (hm_rv (by decide +kernel)) (ls' := [some _]) rfl rfl ?_
  refine P_undo hJ (fun a M1 e1 e2 hr => ?_)
  have hs1 := hs.mv e1 e2
  show hm_Wp _ _ _ _ (_ :: _) _ _
  refine q_aload gg208_585 rfl ?_
  refine q_call1 gg208_586 tt172 rfl (Nat.le_of_ble_eq_true rfl) (hm_rv (by decide +kernel)) (ls' := [some _]) rfl rfl ?_
  refine hr _ (fun M2 hJ2 e3 e4 => ?_)
  show hm_Wp _ _ _ _ (_ :: _) _ _
  refine q_icmp (a = a) hc_eq gg208_589 (tg := 1260) rfl (fun _ => ?_) (fun z => absurd rfl z)
  exact kk M2 hJ2 (hs.mv e3 e4)
theorem law_basin (hi0 : 0 ≤ i) (hi : i + 6 ≤ L) (hL : L ≤ 384) (hs : SX M L sx) (hzr : ∀ j, zR (sx j)) (hJ : JJ M) (kk : ∀ M2, JJ M2 → SX M2 L sx → hm_Wp (d + 8) 208 1260 [some (.inr (.inr 1005)), some (.inr (.inr 0)), some (.inr (.inr 30)), some (.inl (zI i))] [] M2 Q) : hm_Wp (d + 8) 208 594 [some (.inr (.inr 1005)), some (.inr (.inr 0)), some (.inr (.inr 30)), some (.inl (zI i))] [] M Q := by
  refine q_aload gg208_594 rfl ?_
  refine q_aload gg208_595 rfl ?_
  refine q_iload gg208_596 rfl ?_
  refine z_const gg208_597 (v := 1) rfl ?_
  refine z_iadd gg208_598 ?_
  refine z_scr gg208_599 hs hL (by omega) (by omega) ?_
  refine q_aload gg208_600 rfl ?_
  refine q_iload gg208_601 rfl ?_
  refine z_const gg208_602 (v := 2) rfl ?_
  refine z_iadd gg208_603 ?_
  refine z_scr gg208_604 hs hL (by omega) (by omega) ?_
  refine q_call3 gg208_605 tt98 rfl (Nat.le_of_ble_eq_true rfl) (hm_rv (by decide +kernel)) (ls' := [some _, some _, some _]) rfl rfl ?_
  refine P_basin (hzr _) (hzr _) hJ (fun a M1 e1 e2 hr => ?_)
  have hs1 := hs.mv e1 e2
  show hm_Wp _ _ _ _ (_ :: _) _ _
  refine q_aload gg208_608 rfl ?_
  refine q_aload gg208_609 rfl ?_
  refine q_iload gg208_610 rfl ?_
  refine z_const gg208_611 (v := 1) rfl ?_
  refine z_iadd gg208_612 ?_
  refine z_scr gg208_613 hs1 hL (by omega) (by omega) ?_
  refine q_aload gg208_614 rfl ?_
  refine q_iload gg208_615 rfl ?_
  refine z_const gg208_616 (v := 2) rfl ?_
  refine z_iadd gg208_617 ?_
  refine z_scr gg208_618 hs1 hL (by omega) (by omega) ?_
  refine q_call3 gg208_619 tt173 rfl (Nat.le_of_ble_eq_true rfl) (hm_rv (by decide +kernel)) (ls' := [some _, some _, some _, none]) rfl rfl ?_
  refine hr _ (fun M2 hJ2 e3 e4 => ?_)
  show hm_Wp _ _ _ _ (_ :: _) _ _
  refine q_icmp (a = a) hc_eq gg208_622 (tg := 1260) rfl (fun _ => ?_) (fun z => absurd rfl z)
  exact kk M2 hJ2 (hs.mv e3 e4)
theorem law_place (hi0 : 0 ≤ i) (hi : i + 6 ≤ L) (hL : L ≤ 384) (hs : SX M L sx) (hzr : ∀ j, zR (sx j)) (hJ : JJ M) (kk : ∀ M2, JJ M2 → SX M2 L sx → hm_Wp (d + 8) 208 1260 [some (.inr (.inr 1005)), some (.inr (.inr 0)), some (.inr (.inr 30)), some (.inl (zI i))] [] M2 Q) : hm_Wp (d + 8) 208 627 [some (.inr (.inr 1005)), some (.inr (.inr 0)), some (.inr (.inr 30)), some (.inl (zI i))] [] M Q := by
  refine q_aload gg208_627 rfl ?_
  refine q_aload gg208_628 rfl ?_
  refine q_iload gg208_629 rfl ?_
  refine z_const gg208_630 (v := 1) rfl ?_
  refine z_iadd gg208_631 ?_
  refine z_scr gg208_632 hs hL (by omega) (by omega) ?_
  refine q_call2 gg208_633 tt99 rfl (Nat.le_of_ble_eq_true rfl) (hm_rv (by decide +kernel)) (ls' := [some _, some _, none]) rfl rfl ?_
  refine P_place (hzr _) hJ (fun a M1 e1 e2 hr => ?_)
  have hs1 := hs.mv e1 e2
  show hm_Wp _ _ _ _ (_ :: _) _ _
  refine q_aload gg208_636 rfl ?_
  refine q_aload gg208_637 rfl ?_
  refine q_iload gg208_638 rfl ?_
  refine z_const gg208_639 (v := 1) rfl ?_
  refine z_iadd gg208_640 ?_
  refine z_scr gg208_641 hs1 hL (by omega) (by omega) ?_
  refine q_call2 gg208_642 tt174 rfl (Nat.le_of_ble_eq_true rfl) (hm_rv (by decide +kernel)) (ls' := [some _, some _]) rfl rfl ?_
  refine hr _ (fun M2 hJ2 e3 e4 => ?_)
  show hm_Wp _ _ _ _ (_ :: _) _ _
  refine q_icmp (a = a) hc_eq gg208_645 (tg := 1260) rfl (fun _ => ?_) (fun z => absurd rfl z)
  exact kk M2 hJ2 (hs.mv e3 e4)
theorem law_swell (hi0 : 0 ≤ i) (hi : i + 6 ≤ L) (hL : L ≤ 384) (hs : SX M L sx) (hzr : ∀ j, zR (sx j)) (hJ : JJ M) (kk : ∀ M2, JJ M2 → SX M2 L sx → hm_Wp (d + 8) 208 1260 [some (.inr (.inr 1005)), some (.inr (.inr 0)), some (.inr (.inr 30)), some (.inl (zI i))] [] M2 Q) : hm_Wp (d + 8) 208 650 [some (.inr (.inr 1005)), some (.inr (.inr 0)), some (.inr (.inr 30)), some (.inl (zI i))] [] M Q := by
  refine q_aload gg208_650 rfl ?_
  refine q_aload gg208_651 rfl ?_
  refine q_iload gg208_652 rfl ?_
  refine z_const gg208_653 (v := 1) rfl ?_
  refine z_iadd gg208_654 ?_
  refine z_scr gg208_655 hs hL (by omega) (by omega) ?_
  refine q_aload gg208_656 rfl ?_
  refine q_iload gg208_657 rfl ?_
  refine z_const gg208_658 (v := 2) rfl ?_
  refine z_iadd gg208_659 ?_
  refine z_scr gg208_660 hs hL (by omega) (by omega) ?_
  refine q_call3 gg208_661 tt100 rfl (Nat.le_of_ble_eq_true rfl) (hm_rv (by decide +kernel)) (ls' := [some _, some _, some _]) rfl rfl ?_
  refine P_swell (hzr _) (hzr _) hJ (fun a M1 e1 e2 hr => ?_)
  have hs1 := hs.mv e1 e2
  show hm_Wp _ _ _ _ (_ :: _) _ _
  refine q_aload gg208_664 rfl ?_
  refine q_aload gg208_665 rfl ?_
  refine q_iload gg208_666 rfl ?_
  refine z_const gg208_667 (v := 1) rfl ?_
  refine z_iadd gg208_668 ?_
  refine z_scr gg208_669 hs1 hL (by omega) (by omega) ?_
  refine q_aload gg208_670 rfl ?_
  refine q_iload gg208_671 rfl ?_
  refine z_const gg208_672 (v := 2) rfl ?_
  refine z_iadd gg208_673 ?_
  refine z_scr gg208_674 hs1 hL (by omega) (by omega) ?_
  refine q_call3 gg208_675 tt176 rfl (Nat.le_of_ble_eq_true rfl) (hm_rv (by decide +kernel)) (ls' := [some _, some _, some _]) rfl rfl ?_
  refine hr _ (fun M2 hJ2 e3 e4 => ?_)
  show hm_Wp _ _ _ _ (_ :: _) _ _
  refine q_icmp (a = a) hc_eq gg208_678 (tg := 1260) rfl (fun _ => ?_) (fun z => absurd rfl z)
  exact kk M2 hJ2 (hs.mv e3 e4)
theorem law_burst (hi0 : 0 ≤ i) (hi : i + 6 ≤ L) (hL : L ≤ 384) (hs : SX M L sx) (hzr : ∀ j, zR (sx j)) (hJ : JJ M) (kk : ∀ M2, JJ M2 → SX M2 L sx → hm_Wp (d + 8) 208 1260 [some (.inr (.inr 1005)), some (.inr (.inr 0)), some (.inr (.inr 30)), some (.inl (zI i))] [] M2 Q) : hm_Wp (d + 8) 208 683 [some (.inr (.inr 1005)), some (.inr (.inr 0)), some (.inr (.inr 30)), some (.inl (zI i))] [] M Q := by
  refine q_aload gg208_683 rfl ?_
  refine q_aload gg208_684 rfl ?_
  refine q_iload gg208_685 rfl ?_
  refine z_const gg208_686 (v := 1) rfl ?_
  refine z_iadd gg208_687 ?_
  refine z_scr gg208_688 hs hL (by omega) (by omega) ?_
  refine q_call2 gg208_689 tt101 rfl (Nat.le_of_ble_eq_true rfl) (hm_rv (by decide +kernel)) (ls' := [some _, some _]) rfl rfl ?_
  refine P_burst (hzr _) hJ (fun a M1 e1 e2 hr => ?_)
  have hs1 := hs.mv e1 e2
  show hm_Wp _ _ _ _ (_ :: _) _ _
  refine q_aload gg208_692 rfl ?_
  refine q_aload gg208_693 rfl ?_
  refine q_iload gg208_694 rfl ?_
  refine z_const gg208_695 (v := 1) rfl ?_
  refine z_iadd gg208_696 ?_
  refine z_scr gg208_697 hs1 hL (by omega) (by omega) ?_
  refine q_call2 gg208_698 tt177 rfl (Nat.le_of_ble_eq_true rfl) (hm_rv (by decide +kernel)) (ls' := [some _, some _]) rfl rfl ?_
  refine hr _ (fun M2 hJ2 e3 e4 => ?_)
  show hm_Wp _ _ _ _ (_ :: _) _ _
  refine q_icmp (a = a) hc_eq gg208_701 (tg := 1260) rfl (fun _ => ?_) (fun z => absurd rfl z)
  exact kk M2 hJ2 (hs.mv e3 e4)
theorem law_bursting (hi0 : 0 ≤ i) (hi : i + 6 ≤ L) (hL : L ≤ 384) (hs : SX M L sx) (hzr : ∀ j, zR (sx j)) (hJ : JJ M) (kk : ∀ M2, JJ M2 → SX M2 L sx → hm_Wp (d + 8) 208 1260 [some (.inr (.inr 1005)), some (.inr (.inr 0)), some (.inr (.inr 30)), some (.inl (zI i))] [] M2 Q) : hm_Wp (d + 8) 208 706 [some (.inr (.inr 1005)), some (.inr (.inr 0)), some (.inr (.inr 30)), some (.inl (zI i))] [] M Q := by
  refine q_aload gg208_706 rfl ?_
  refine q_aload gg208_707 rfl ?_
  refine q_iload gg208_708 rfl ?_
  refine z_const gg208_709 (v := 1) rfl ?_
  refine z_iadd gg208_710 ?_
  refine z_scr gg208_711 hs hL (by omega) (by omega) ?_
  refine q_call2 gg208_712 tt102 rfl (Nat.le_of_ble_eq_true rfl) (hm_rv (by decide +kernel)) (ls' := [some _, some _]) rfl rfl ?_
  refine P_bursting (hzr _) hJ (fun a M1 e1 e2 hr => ?_)
  have hs1 := hs.mv e1 e2
  show hm_Wp _ _ _ _ (_ :: _) _ _
  refine q_aload gg208_715 rfl ?_
  refine q_aload gg208_716 rfl ?_
  refine q_iload gg208_717 rfl ?_
  refine z_const gg208_718 (v := 1) rfl ?_
  refine z_iadd gg208_719 ?_
  refine z_scr gg208_720 hs1 hL (by omega) (by omega) ?_
  refine q_call2 gg208_721 tt178 rfl (Nat.le_of_ble_eq_true rfl) (hm_rv (by decide +kernel)) (ls' := [some _, some _, none]) rfl rfl ?_
  refine hr _ (fun M2 hJ2 e3 e4 => ?_)
  show hm_Wp _ _ _ _ (_ :: _) _ _
  refine q_icmp (a = a) hc_eq gg208_724 (tg := 1260) rfl (fun _ => ?_) (fun z => absurd rfl z)
  exact kk M2 hJ2 (hs.mv e3 e4)
theorem law_first (hi0 : 0 ≤ i) (hi : i + 6 ≤ L) (hL : L ≤ 384) (hs : SX M L sx) (hzr : ∀ j, zR (sx j)) (hJ : JJ M) (kk : ∀ M2, JJ M2 → SX M2 L sx → hm_Wp (d + 8) 208 1260 [some (.inr (.inr 1005)), some (.inr (.inr 0)), some (.inr (.inr 30)), some (.inl (zI i))] [] M2 Q) : hm_Wp (d + 8) 208 729 [some (.inr (.inr 1005)), some (.inr (.inr 0)), some (.inr (.inr 30)), some (.inl (zI i))] [] M Q := by
  refine q_aload gg208_729 rfl ?_
  refine q_aload gg208_730 rfl ?_
  refine q_iload gg208_731 rfl ?_
  refine z_const gg208_732 (v := 1) rfl ?_
  refine z_iadd gg208_733 ?_
  refine z_scr gg208_734 hs hL (by omega) (by omega) ?_
  refine q_call2 gg208_735 tt103 rfl (Nat.le_of_ble_eq_true rfl) (hm_rv (by decide +kernel)) (ls' := [some _, some _]) rfl rfl ?_
  refine P_first (hzr _) hJ (fun a M1 e1 e2 hr => ?_)
  have hs1 := hs.mv e1 e2
  show hm_Wp _ _ _ _ (_ :: _) _ _
  refine q_aload gg208_738 rfl ?_
  refine q_aload gg208_739 rfl ?_
  refine q_iload gg208_740 rfl ?_
  refine z_const gg208_741 (v := 1) rfl ?_
  refine z_iadd gg208_742 ?_
  refine z_scr gg208_743 hs1 hL (by omega) (by omega) ?_
  refine q_call2 gg208_744 tt179 rfl (Nat.le_of_ble_eq_true rfl) (hm_rv (by decide +kernel)) (ls' := [some _, some _, none, none, none]) rfl rfl ?_
  refine hr _ (fun M2 hJ2 e3 e4 => ?_)
  show hm_Wp _ _ _ _ (_ :: _) _ _
  refine q_icmp (a = a) hc_eq gg208_747 (tg := 1260) rfl (fun _ => ?_) (fun z => absurd rfl z)
  exact kk M2 hJ2 (hs.mv e3 e4)
theorem law_stirs (hi0 : 0 ≤ i) (hi : i + 6 ≤ L) (hL : L ≤ 384) (hs : SX M L sx) (hzr : ∀ j, zR (sx j)) (hJ : JJ M) (kk : ∀ M2, JJ M2 → SX M2 L sx → hm_Wp (d + 8) 208 1260 [some (.inr (.inr 1005)), some (.inr (.inr 0)), some (.inr (.inr 30)), some (.inl (zI i))] [] M2 Q) : hm_Wp (d + 8) 208 752 [some (.inr (.inr 1005)), some (.inr (.inr 0)), some (.inr (.inr 30)), some (.inl (zI i))] [] M Q := by
  refine q_aload gg208_752 rfl ?_
  refine q_aload gg208_753 rfl ?_
  refine q_iload gg208_754 rfl ?_
  refine z_const gg208_755 (v := 1) rfl ?_
  refine z_iadd gg208_756 ?_
  refine z_scr gg208_757 hs hL (by omega) (by omega) ?_
  refine q_aload gg208_758 rfl ?_
  refine q_iload gg208_759 rfl ?_
  refine z_const gg208_760 (v := 2) rfl ?_
  refine z_iadd gg208_761 ?_
  refine z_scr gg208_762 hs hL (by omega) (by omega) ?_
  refine q_call3 gg208_763 tt104 rfl (Nat.le_of_ble_eq_true rfl) (hm_rv (by decide +kernel)) (ls' := [some _, some _, some _]) rfl rfl ?_
  refine P_stirs (hzr _) (hzr _) hJ (fun a M1 e1 e2 hr => ?_)
  have hs1 := hs.mv e1 e2
  show hm_Wp _ _ _ _ (_ :: _) _ _
  refine q_aload gg208_766 rfl ?_
  refine q_aload gg208_767 rfl ?_
  refine q_iload gg208_768 rfl ?_
  refine z_const gg208_769 (v := 1) rfl ?_
  refine z_iadd gg208_770 ?_
  refine z_scr gg208_771 hs1 hL (by omega) (by omega) ?_
  refine q_aload gg208_772 rfl ?_
  refine q_iload gg208_773 rfl ?_
  refine z_const gg208_774 (v := 2) rfl ?_
  refine z_iadd gg208_775 ?_
  refine z_scr gg208_776 hs1 hL (by omega) (by omega) ?_
  refine q_call3 gg208_777 tt181 rfl (Nat.le_of_ble_eq_true rfl) (hm_rv (by decide +kernel)) (ls' := [some _, some _, some _, none, none]) rfl rfl ?_
  refine hr _ (fun M2 hJ2 e3 e4 => ?_)
  show hm_Wp _ _ _ _ (_ :: _) _ _
  refine q_icmp (a = a) hc_eq gg208_780 (tg := 1260) rfl (fun _ => ?_) (fun z => absurd rfl z)
  exact kk M2 hJ2 (hs.mv e3 e4)
theorem law_off (hi0 : 0 ≤ i) (hi : i + 6 ≤ L) (hL : L ≤ 384) (hs : SX M L sx) (hzr : ∀ j, zR (sx j)) (hJ : JJ M) (kk : ∀ M2, JJ M2 → SX M2 L sx → hm_Wp (d + 8) 208 1260 [some (.inr (.inr 1005)), some (.inr (.inr 0)), some (.inr (.inr 30)), some (.inl (zI i))] [] M2 Q) : hm_Wp (d + 8) 208 785 [some (.inr (.inr 1005)), some (.inr (.inr 0)), some (.inr (.inr 30)), some (.inl (zI i))] [] M Q := by
  refine q_aload gg208_785 rfl ?_
  refine q_aload gg208_786 rfl ?_
  refine q_iload gg208_787 rfl ?_
  refine z_const gg208_788 (v := 1) rfl ?_
  refine z_iadd gg208_789 ?_
  refine z_scr gg208_790 hs hL (by omega) (by omega) ?_
  refine q_aload gg208_791 rfl ?_
  refine q_iload gg208_792 rfl ?_
  refine z_const gg208_793 (v := 2) rfl ?_
  refine z_iadd gg208_794 ?_
  refine z_scr gg208_795 hs hL (by omega) (by omega) ?_
  refine q_call3 gg208_796 tt105 rfl (Nat.le_of_ble_eq_true rfl) (hm_rv (by decide +kernel)) (ls' := [some _, some _, some _, none]) rfl rfl ?_
  refine P_off (hzr _) (hzr _) hJ (fun a M1 e1 e2 hr => ?_)
  have hs1 := hs.mv e1 e2
  show hm_Wp _ _ _ _ (_ :: _) _ _
  refine q_aload gg208_799 rfl ?_
  refine q_aload gg208_800 rfl ?_
  refine q_iload gg208_801 rfl ?_
  refine z_const gg208_802 (v := 1) rfl ?_
  refine z_iadd gg208_803 ?_
  refine z_scr gg208_804 hs1 hL (by omega) (by omega) ?_
  refine q_aload gg208_805 rfl ?_
  refine q_iload gg208_806 rfl ?_
  refine z_const gg208_807 (v := 2) rfl ?_
  refine z_iadd gg208_808 ?_
  refine z_scr gg208_809 hs1 hL (by omega) (by omega) ?_
  refine q_call3 gg208_810 tt183 rfl (Nat.le_of_ble_eq_true rfl) (hm_rv (by decide +kernel)) (ls' := [some _, some _, some _, none, none, none, none]) rfl rfl ?_
  refine hr _ (fun M2 hJ2 e3 e4 => ?_)
  show hm_Wp _ _ _ _ (_ :: _) _ _
  refine q_icmp (a = a) hc_eq gg208_813 (tg := 1260) rfl (fun _ => ?_) (fun z => absurd rfl z)
  exact kk M2 hJ2 (hs.mv e3 e4)
theorem law_change (hi0 : 0 ≤ i) (hi : i + 6 ≤ L) (hL : L ≤ 384) (hs : SX M L sx) (hzr : ∀ j, zR (sx j)) (hJ : JJ M) (kk : ∀ M2, JJ M2 → SX M2 L sx → hm_Wp (d + 8) 208 1260 [some (.inr (.inr 1005)), some (.inr (.inr 0)), some (.inr (.inr 30)), some (.inl (zI i))] [] M2 Q) : hm_Wp (d + 8) 208 818 [some (.inr (.inr 1005)), some (.inr (.inr 0)), some (.inr (.inr 30)), some (.inl (zI i))] [] M Q := by
  refine q_aload gg208_818 rfl ?_
  refine q_aload gg208_819 rfl ?_
  refine q_iload gg208_820 rfl ?_
  refine z_const gg208_821 (v := 1) rfl ?_
  refine z_iadd gg208_822 ?_
  refine z_scr gg208_823 hs hL (by omega) (by omega) ?_
  refine q_aload gg208_824 rfl ?_
  refine q_iload gg208_825 rfl ?_
  refine z_const gg208_826 (v := 2) rfl ?_
  refine z_iadd gg208_827 ?_
  refine z_scr gg208_828 hs hL (by omega) (by omega) ?_
  refine q_call3 gg208_829 tt106 rfl (Nat.le_of_ble_eq_true rfl) (hm_rv (by decide +kernel)) (ls' := [some _, some _, some _]) rfl rfl ?_
  refine P_change (hzr _) (hzr _) hJ (fun a M1 e1 e2 hr => ?_)
  have hs1 := hs.mv e1 e2
  show hm_Wp _ _ _ _ (_ :: _) _ _
  refine q_aload gg208_832 rfl ?_
  refine q_aload gg208_833 rfl ?_
  refine q_iload gg208_834 rfl ?_
  refine z_const gg208_835 (v := 1) rfl ?_
  refine z_iadd gg208_836 ?_
  refine z_scr gg208_837 hs1 hL (by omega) (by omega) ?_
  refine q_aload gg208_838 rfl ?_
  refine q_iload gg208_839 rfl ?_
  refine z_const gg208_840 (v := 2) rfl ?_
  refine z_iadd gg208_841 ?_
  refine z_scr gg208_842 hs1 hL (by omega) (by omega) ?_
  refine q_call3 gg208_843 tt184 rfl (Nat.le_of_ble_eq_true rfl) (hm_rv (by decide +kernel)) (ls' := [some _, some _, some _, none, none, none, none, none, none]) rfl rfl ?_
  refine hr _ (fun M2 hJ2 e3 e4 => ?_)
  show hm_Wp _ _ _ _ (_ :: _) _ _
  refine q_icmp (a = a) hc_eq gg208_846 (tg := 1260) rfl (fun _ => ?_) (fun z => absurd rfl z)
  exact kk M2 hJ2 (hs.mv e3 e4)
theorem law_hottest (hi0 : 0 ≤ i) (hi : i + 6 ≤ L) (hL : L ≤ 384) (hs : SX M L sx) (hzr : ∀ j, zR (sx j)) (hJ : JJ M) (kk : ∀ M2, JJ M2 → SX M2 L sx → hm_Wp (d + 8) 208 1260 [some (.inr (.inr 1005)), some (.inr (.inr 0)), some (.inr (.inr 30)), some (.inl (zI i))] [] M2 Q) : hm_Wp (d + 8) 208 851 [some (.inr (.inr 1005)), some (.inr (.inr 0)), some (.inr (.inr 30)), some (.inl (zI i))] [] M Q := by
  refine q_aload gg208_851 rfl ?_
  refine q_aload gg208_852 rfl ?_
  refine q_iload gg208_853 rfl ?_
  refine z_const gg208_854 (v := 1) rfl ?_
  refine z_iadd gg208_855 ?_
  refine z_scr gg208_856 hs hL (by omega) (by omega) ?_
  refine q_call2 gg208_857 tt107 rfl (Nat.le_of_ble_eq_true rfl) (hm_rv (by decide +kernel)) (ls' := [some _, some _]) rfl rfl ?_
  refine P_hottest (hzr _) hJ (fun a M1 e1 e2 hr => ?_)
  have hs1 := hs.mv e1 e2
  show hm_Wp _ _ _ _ (_ :: _) _ _
  refine q_aload gg208_860 rfl ?_
  refine q_aload gg208_861 rfl ?_
  refine q_iload gg208_862 rfl ?_
  refine z_const gg208_863 (v := 1) rfl ?_
  refine z_iadd gg208_864 ?_
  refine z_scr gg208_865 hs1 hL (by omega) (by omega) ?_
  refine q_call2 gg208_866 tt185 rfl (Nat.le_of_ble_eq_true rfl) (hm_rv (by decide +kernel)) (ls' := [some _, some _, none]) rfl rfl ?_
  refine hr _ (fun M2 hJ2 e3 e4 => ?_)
  show hm_Wp _ _ _ _ (_ :: _) _ _
  refine q_icmp (a = a) hc_eq gg208_869 (tg := 1260) rfl (fun _ => ?_) (fun z => absurd rfl z)
  exact kk M2 hJ2 (hs.mv e3 e4)
theorem law_slices (hi0 : 0 ≤ i) (hi : i + 6 ≤ L) (hL : L ≤ 384) (hs : SX M L sx) (hzr : ∀ j, zR (sx j)) (hJ : JJ M) (kk : ∀ M2, JJ M2 → SX M2 L sx → hm_Wp (d + 8) 208 1260 [some (.inr (.inr 1005)), some (.inr (.inr 0)), some (.inr (.inr 30)), some (.inl (zI i))] [] M2 Q) : hm_Wp (d + 8) 208 874 [some (.inr (.inr 1005)), some (.inr (.inr 0)), some (.inr (.inr 30)), some (.inl (zI i))] [] M Q := by
  refine q_aload gg208_874 rfl ?_
  refine q_aload gg208_875 rfl ?_
  refine q_iload gg208_876 rfl ?_
  refine z_const gg208_877 (v := 1) rfl ?_
  refine z_iadd gg208_878 ?_
  refine z_scr gg208_879 hs hL (by omega) (by omega) ?_
  refine q_aload gg208_880 rfl ?_
  refine q_iload gg208_881 rfl ?_
  refine z_const gg208_882 (v := 2) rfl ?_
  refine z_iadd gg208_883 ?_
  refine z_scr gg208_884 hs hL (by omega) (by omega) ?_
  refine q_call3 gg208_885 tt108 rfl (Nat.le_of_ble_eq_true rfl) (hm_rv (by decide +kernel)) (ls' := [some _, some _, some _]) rfl rfl ?_
  refine P_slices (hzr _) (hzr _) hJ (fun a M1 e1 e2 hr => ?_)
  have hs1 := hs.mv e1 e2
  show hm_Wp _ _ _ _ (_ :: _) _ _
  refine q_aload gg208_888 rfl ?_
  refine q_aload gg208_889 rfl ?_
  refine q_iload gg208_890 rfl ?_
  refine z_const gg208_891 (v := 1) rfl ?_
  refine z_iadd gg208_892 ?_
  refine z_scr gg208_893 hs1 hL (by omega) (by omega) ?_
  refine q_aload gg208_894 rfl ?_
  refine q_iload gg208_895 rfl ?_
  refine z_const gg208_896 (v := 2) rfl ?_
  refine z_iadd gg208_897 ?_
  refine z_scr gg208_898 hs1 hL (by omega) (by omega) ?_
  refine q_call3 gg208_899 tt187 rfl (Nat.le_of_ble_eq_true rfl) (hm_rv (by decide +kernel)) (ls' := [some _, some _, some _, none, none, none, none]) rfl rfl ?_
  refine hr _ (fun M2 hJ2 e3 e4 => ?_)
  show hm_Wp _ _ _ _ (_ :: _) _ _
  refine q_icmp (a = a) hc_eq gg208_902 (tg := 1260) rfl (fun _ => ?_) (fun z => absurd rfl z)
  exact kk M2 hJ2 (hs.mv e3 e4)
theorem law_fits (hi0 : 0 ≤ i) (hi : i + 6 ≤ L) (hL : L ≤ 384) (hs : SX M L sx) (hzr : ∀ j, zR (sx j)) (hJ : JJ M) (kk : ∀ M2, JJ M2 → SX M2 L sx → hm_Wp (d + 8) 208 1260 [some (.inr (.inr 1005)), some (.inr (.inr 0)), some (.inr (.inr 30)), some (.inl (zI i))] [] M2 Q) : hm_Wp (d + 8) 208 907 [some (.inr (.inr 1005)), some (.inr (.inr 0)), some (.inr (.inr 30)), some (.inl (zI i))] [] M Q := by
  refine q_aload gg208_907 rfl ?_
  refine q_aload gg208_908 rfl ?_
  refine q_iload gg208_909 rfl ?_
  refine z_const gg208_910 (v := 1) rfl ?_
  refine z_iadd gg208_911 ?_
  refine z_scr gg208_912 hs hL (by omega) (by omega) ?_
  refine q_aload gg208_913 rfl ?_
  refine q_iload gg208_914 rfl ?_
  refine z_const gg208_915 (v := 2) rfl ?_
  refine z_iadd gg208_916 ?_
  refine z_scr gg208_917 hs hL (by omega) (by omega) ?_
  refine q_aload gg208_918 rfl ?_
  refine q_iload gg208_919 rfl ?_
  refine z_const gg208_920 (v := 3) rfl ?_
  refine z_iadd gg208_921 ?_
  refine z_scr gg208_922 hs hL (by omega) (by omega) ?_
  refine q_aload gg208_923 rfl ?_
  refine q_iload gg208_924 rfl ?_
  refine z_const gg208_925 (v := 4) rfl ?_
  refine z_iadd gg208_926 ?_
  refine z_scr gg208_927 hs hL (by omega) (by omega) ?_
  refine q_aload gg208_928 rfl ?_
  refine q_iload gg208_929 rfl ?_
  refine z_const gg208_930 (v := 5) rfl ?_
  refine z_iadd gg208_931 ?_
  refine z_scr gg208_932 hs hL (by omega) (by omega) ?_
  refine q_call6 gg208_933 tt109 rfl (Nat.le_of_ble_eq_true rfl) (hm_rv (by decide +kernel)) (ls' := [some _, some _, some _, some _, some _, some _, none]) rfl rfl ?_
  refine P_fits (hzr _) (hzr _) (hzr _) (hzr _) (hzr _) hJ (fun a M1 e1 e2 hr => ?_)
  have hs1 := hs.mv e1 e2
  show hm_Wp _ _ _ _ (_ :: _) _ _
  refine q_aload gg208_936 rfl ?_
  refine q_aload gg208_937 rfl ?_
  refine q_iload gg208_938 rfl ?_
  refine z_const gg208_939 (v := 1) rfl ?_
  refine z_iadd gg208_940 ?_
  refine z_scr gg208_941 hs1 hL (by omega) (by omega) ?_
  refine q_aload gg208_942 rfl ?_
  refine q_iload gg208_943 rfl ?_
  refine z_const gg208_944 (v := 2) rfl ?_
  refine z_iadd gg208_945 ?_
  refine z_scr gg208_946 hs1 hL (by omega) (by omega) ?_
  refine q_aload gg208_947 rfl ?_
  refine q_iload gg208_948 rfl ?_
  refine z_const gg208_949 (v := 3) rfl ?_
  refine z_iadd gg208_950 ?_
  refine z_scr gg208_951 hs1 hL (by omega) (by omega) ?_
  refine q_aload gg208_952 rfl ?_
  refine q_iload gg208_953 rfl ?_
  refine z_const gg208_954 (v := 4) rfl ?_
  refine z_iadd gg208_955 ?_
  refine z_scr gg208_956 hs1 hL (by omega) (by omega) ?_
  refine q_aload gg208_957 rfl ?_
  refine q_iload gg208_958 rfl ?_
  refine z_const gg208_959 (v := 5) rfl ?_
  refine z_iadd gg208_960 ?_
  refine z_scr gg208_961 hs1 hL (by omega) (by omega) ?_
  refine q_call6 gg208_962 tt189 rfl (Nat.le_of_ble_eq_true rfl) (hm_rv (by decide +kernel)) (ls' := [some _, some _, some _, some _, some _, some _, none, none, none, none, none, none, none]) rfl rfl ?_
  refine hr _ (fun M2 hJ2 e3 e4 => ?_)
  show hm_Wp _ _ _ _ (_ :: _) _ _
  refine q_icmp (a = a) hc_eq gg208_965 (tg := 1260) rfl (fun _ => ?_) (fun z => absurd rfl z)
  exact kk M2 hJ2 (hs.mv e3 e4)
theorem law_mice (hi0 : 0 ≤ i) (hi : i + 6 ≤ L) (hL : L ≤ 384) (hs : SX M L sx) (hzr : ∀ j, zR (sx j)) (hJ : JJ M) (kk : ∀ M2, JJ M2 → SX M2 L sx → hm_Wp (d + 8) 208 1260 [some (.inr (.inr 1005)), some (.inr (.inr 0)), some (.inr (.inr 30)), some (.inl (zI i))] [] M2 Q) : hm_Wp (d + 8) 208 970 [some (.inr (.inr 1005)), some (.inr (.inr 0)), some (.inr (.inr 30)), some (.inl (zI i))] [] M Q := by
  refine q_aload gg208_970 rfl ?_
  refine q_aload gg208_971 rfl ?_
  refine q_iload gg208_972 rfl ?_
  refine z_const gg208_973 (v := 1) rfl ?_
  refine z_iadd gg208_974 ?_
  refine z_scr gg208_975 hs hL (by omega) (by omega) ?_
  refine q_aload gg208_976 rfl ?_
  refine q_iload gg208_977 rfl ?_
  refine z_const gg208_978 (v := 2) rfl ?_
  refine z_iadd gg208_979 ?_
  refine z_scr gg208_980 hs hL (by omega) (by omega) ?_
  refine q_aload gg208_981 rfl ?_
  refine q_iload gg208_982 rfl ?_
  refine z_const gg208_983 (v := 3) rfl ?_
  refine z_iadd gg208_984 ?_
  refine z_scr gg208_985 hs hL (by omega) (by omega) ?_
  refine q_aload gg208_986 rfl ?_
  refine q_iload gg208_987 rfl ?_
  refine z_const gg208_988 (v := 4) rfl ?_
  refine z_iadd gg208_989 ?_
  refine z_scr gg208_990 hs hL (by omega) (by omega) ?_
  refine q_call5 gg208_991 tt110 rfl (Nat.le_of_ble_eq_true rfl) (hm_rv (by decide +kernel)) (ls' := [some _, some _, some _, some _, some _]) rfl rfl ?_
  refine P_mice (hzr _) (hzr _) (hzr _) (hzr _) hJ (fun a M1 e1 e2 hr => ?_)
  have hs1 := hs.mv e1 e2
  show hm_Wp _ _ _ _ (_ :: _) _ _
  refine q_aload gg208_994 rfl ?_
  refine q_aload gg208_995 rfl ?_
  refine q_iload gg208_996 rfl ?_
  refine z_const gg208_997 (v := 1) rfl ?_
  refine z_iadd gg208_998 ?_
  refine z_scr gg208_999 hs1 hL (by omega) (by omega) ?_
  refine q_aload gg208_1000 rfl ?_
  refine q_iload gg208_1001 rfl ?_
  refine z_const gg208_1002 (v := 2) rfl ?_
  refine z_iadd gg208_1003 ?_
  refine z_scr gg208_1004 hs1 hL (by omega) (by omega) ?_
  refine q_aload gg208_1005 rfl ?_
  refine q_iload gg208_1006 rfl ?_
  refine z_const gg208_1007 (v := 3) rfl ?_
  refine z_iadd gg208_1008 ?_
  refine z_scr gg208_1009 hs1 hL (by omega) (by omega) ?_
  refine q_aload gg208_1010 rfl ?_
  refine q_iload gg208_1011 rfl ?_
  refine z_const gg208_1012 (v := 4) rfl ?_
  refine z_iadd gg208_1013 ?_
  refine z_scr gg208_1014 hs1 hL (by omega) (by omega) ?_
  refine q_call5 gg208_1015 tt190 rfl (Nat.le_of_ble_eq_true rfl) (hm_rv (by decide +kernel)) (ls' := [some _, some _, some _, some _, some _, none, none, none, none, none]) rfl rfl ?_
  refine hr _ (fun M2 hJ2 e3 e4 => ?_)
  show hm_Wp _ _ _ _ (_ :: _) _ _
  refine q_icmp (a = a) hc_eq gg208_1018 (tg := 1260) rfl (fun _ => ?_) (fun z => absurd rfl z)
  exact kk M2 hJ2 (hs.mv e3 e4)
theorem law_drawn (hi0 : 0 ≤ i) (hi : i + 6 ≤ L) (hL : L ≤ 384) (hs : SX M L sx) (hzr : ∀ j, zR (sx j)) (hJ : JJ M) (kk : ∀ M2, JJ M2 → SX M2 L sx → hm_Wp (d + 8) 208 1260 [some (.inr (.inr 1005)), some (.inr (.inr 0)), some (.inr (.inr 30)), some (.inl (zI i))] [] M2 Q) : hm_Wp (d + 8) 208 1023 [some (.inr (.inr 1005)), some (.inr (.inr 0)), some (.inr (.inr 30)), some (.inl (zI i))] [] M Q := by
  refine q_aload gg208_1023 rfl ?_
  refine q_aload gg208_1024 rfl ?_
  refine q_iload gg208_1025 rfl ?_
  refine z_const gg208_1026 (v := 1) rfl ?_
  refine z_iadd gg208_1027 ?_
  refine z_scr gg208_1028 hs hL (by omega) (by omega) ?_
  refine q_aload gg208_1029 rfl ?_
  refine q_iload gg208_1030 rfl ?_
  refine z_const gg208_1031 (v := 2) rfl ?_
  refine z_iadd gg208_1032 ?_
  refine z_scr gg208_1033 hs hL (by omega) (by omega) ?_
  refine q_aload gg208_1034 rfl ?_
  refine q_iload gg208_1035 rfl ?_
  refine z_const gg208_1036 (v := 3) rfl ?_
  refine z_iadd gg208_1037 ?_
  refine z_scr gg208_1038 hs hL (by omega) (by omega) ?_
  refine q_call4 gg208_1039 tt111 rfl (Nat.le_of_ble_eq_true rfl) (hm_rv (by decide +kernel)) (ls' := [some _, some _, some _, some _]) rfl rfl ?_
  refine P_drawn (hzr _) (hzr _) (hzr _) hJ (fun a M1 e1 e2 hr => ?_)
  have hs1 := hs.mv e1 e2
  show hm_Wp _ _ _ _ (_ :: _) _ _
  refine q_aload gg208_1042 rfl ?_
  refine q_aload gg208_1043 rfl ?_
  refine q_iload gg208_1044 rfl ?_
  refine z_const gg208_1045 (v := 1) rfl ?_
  refine z_iadd gg208_1046 ?_
  refine z_scr gg208_1047 hs1 hL (by omega) (by omega) ?_
  refine q_aload gg208_1048 rfl ?_
  refine q_iload gg208_1049 rfl ?_
  refine z_const gg208_1050 (v := 2) rfl ?_
  refine z_iadd gg208_1051 ?_
  refine z_scr gg208_1052 hs1 hL (by omega) (by omega) ?_
  refine q_aload gg208_1053 rfl ?_
  refine q_iload gg208_1054 rfl ?_
  refine z_const gg208_1055 (v := 3) rfl ?_
  refine z_iadd gg208_1056 ?_
  refine z_scr gg208_1057 hs1 hL (by omega) (by omega) ?_
  refine q_call4 gg208_1058 tt191 rfl (Nat.le_of_ble_eq_true rfl) (hm_rv (by decide +kernel)) (ls' := [some _, some _, some _, some _, none, none, none, none, none]) rfl rfl ?_
  refine hr _ (fun M2 hJ2 e3 e4 => ?_)
  show hm_Wp _ _ _ _ (_ :: _) _ _
  refine q_icmp (a = a) hc_eq gg208_1061 (tg := 1260) rfl (fun _ => ?_) (fun z => absurd rfl z)
  exact kk M2 hJ2 (hs.mv e3 e4)
theorem law_image (hi0 : 0 ≤ i) (hi : i + 6 ≤ L) (hL : L ≤ 384) (hs : SX M L sx) (hzr : ∀ j, zR (sx j)) (hJ : JJ M) (kk : ∀ M2, JJ M2 → SX M2 L sx → hm_Wp (d + 8) 208 1260 [some (.inr (.inr 1005)), some (.inr (.inr 0)), some (.inr (.inr 30)), some (.inl (zI i))] [] M2 Q) : hm_Wp (d + 8) 208 1066 [some (.inr (.inr 1005)), some (.inr (.inr 0)), some (.inr (.inr 30)), some (.inl (zI i))] [] M Q := by
  refine q_aload gg208_1066 rfl ?_
  refine q_aload gg208_1067 rfl ?_
  refine q_iload gg208_1068 rfl ?_
  refine z_const gg208_1069 (v := 1) rfl ?_
  refine z_iadd gg208_1070 ?_
  refine z_scr gg208_1071 hs hL (by omega) (by omega) ?_
  refine q_call2 gg208_1072 tt112 rfl (Nat.le_of_ble_eq_true rfl) (hm_rv (by decide +kernel)) (ls' := [some _, some _]) rfl rfl ?_
  refine P_image (hzr _) hJ (fun a M1 e1 e2 hr => ?_)
  have hs1 := hs.mv e1 e2
  show hm_Wp _ _ _ _ (_ :: _) _ _
  refine q_aload gg208_1075 rfl ?_
  refine q_aload gg208_1076 rfl ?_
  refine q_iload gg208_1077 rfl ?_
  refine z_const gg208_1078 (v := 1) rfl ?_
  refine z_iadd gg208_1079 ?_
  refine z_scr gg208_1080 hs1 hL (by omega) (by omega) ?_
  refine q_call2 gg208_1081 tt192 rfl (Nat.le_of_ble_eq_true rfl) (hm_rv (by decide +kernel)) (ls' := [some _, some _]) rfl rfl ?_
  refine hr _ (fun M2 hJ2 e3 e4 => ?_)
  show hm_Wp _ _ _ _ (_ :: _) _ _
  refine q_icmp (a = a) hc_eq gg208_1084 (tg := 1260) rfl (fun _ => ?_) (fun z => absurd rfl z)
  exact kk M2 hJ2 (hs.mv e3 e4)
theorem law_restore (hi0 : 0 ≤ i) (hi : i + 6 ≤ L) (hL : L ≤ 384) (hs : SX M L sx) (hzr : ∀ j, zR (sx j)) (hJ : JJ M) (kk : ∀ M2, JJ M2 → SX M2 L sx → hm_Wp (d + 8) 208 1260 [some (.inr (.inr 1005)), some (.inr (.inr 0)), some (.inr (.inr 30)), some (.inl (zI i))] [] M2 Q) : hm_Wp (d + 8) 208 1089 [some (.inr (.inr 1005)), some (.inr (.inr 0)), some (.inr (.inr 30)), some (.inl (zI i))] [] M Q := by
  refine q_aload gg208_1089 rfl ?_
  refine q_aload gg208_1090 rfl ?_
  refine q_iload gg208_1091 rfl ?_
  refine z_const gg208_1092 (v := 1) rfl ?_
  refine z_iadd gg208_1093 ?_
  refine z_scr gg208_1094 hs hL (by omega) (by omega) ?_
  refine q_call2 gg208_1095 tt113 rfl (Nat.le_of_ble_eq_true rfl) (hm_rv (by decide +kernel)) (ls' := [some _, some _]) rfl rfl ?_
  refine P_restore (hzr _) hJ (fun a M1 e1 e2 hr => ?_)
  have hs1 := hs.mv e1 e2
  show hm_Wp _ _ _ _ (_ :: _) _ _
  refine q_aload gg208_1098 rfl ?_
  refine q_aload gg208_1099 rfl ?_
  refine q_iload gg208_1100 rfl ?_
  refine z_const gg208_1101 (v := 1) rfl ?_
  refine z_iadd gg208_1102 ?_
  refine z_scr gg208_1103 hs1 hL (by omega) (by omega) ?_
  refine q_call2 gg208_1104 tt193 rfl (Nat.le_of_ble_eq_true rfl) (hm_rv (by decide +kernel)) (ls' := [some _, some _]) rfl rfl ?_
  refine hr _ (fun M2 hJ2 e3 e4 => ?_)
  show hm_Wp _ _ _ _ (_ :: _) _ _
  refine q_icmp (a = a) hc_eq gg208_1107 (tg := 1260) rfl (fun _ => ?_) (fun z => absurd rfl z)
  exact kk M2 hJ2 (hs.mv e3 e4)
theorem law_kind (hi0 : 0 ≤ i) (hi : i + 6 ≤ L) (hL : L ≤ 384) (hs : SX M L sx) (hzr : ∀ j, zR (sx j)) (hJ : JJ M) (kk : ∀ M2, JJ M2 → SX M2 L sx → hm_Wp (d + 8) 208 1260 [some (.inr (.inr 1005)), some (.inr (.inr 0)), some (.inr (.inr 30)), some (.inl (zI i))] [] M2 Q) : hm_Wp (d + 8) 208 1112 [some (.inr (.inr 1005)), some (.inr (.inr 0)), some (.inr (.inr 30)), some (.inl (zI i))] [] M Q := by
  refine q_aload gg208_1112 rfl ?_
  refine q_aload gg208_1113 rfl ?_
  refine q_iload gg208_1114 rfl ?_
  refine z_const gg208_1115 (v := 1) rfl ?_
  refine z_iadd gg208_1116 ?_
  refine z_scr gg208_1117 hs hL (by omega) (by omega) ?_
  refine q_call2 gg208_1118 tt114 rfl (Nat.le_of_ble_eq_true rfl) (hm_rv (by decide +kernel)) (ls' := [some _, some _]) rfl rfl ?_
  refine P_kind (hzr _) hJ (fun a M1 e1 e2 hr => ?_)
  have hs1 := hs.mv e1 e2
  show hm_Wp _ _ _ _ (_ :: _) _ _
  refine q_aload gg208_1121 rfl ?_
  refine q_aload gg208_1122 rfl ?_
  refine q_iload gg208_1123 rfl ?_
  refine z_const gg208_1124 (v := 1) rfl ?_
  refine z_iadd gg208_1125 ?_
  refine z_scr gg208_1126 hs1 hL (by omega) (by omega) ?_
  refine q_call2 gg208_1127 tt195 rfl (Nat.le_of_ble_eq_true rfl) (hm_rv (by decide +kernel)) (ls' := [some _, some _]) rfl rfl ?_
  refine hr _ (fun M2 hJ2 e3 e4 => ?_)
  show hm_Wp _ _ _ _ (_ :: _) _ _
  refine q_icmp (a = a) hc_eq gg208_1130 (tg := 1260) rfl (fun _ => ?_) (fun z => absurd rfl z)
  exact kk M2 hJ2 (hs.mv e3 e4)
theorem law_as (hi0 : 0 ≤ i) (hi : i + 6 ≤ L) (hL : L ≤ 384) (hs : SX M L sx) (hzr : ∀ j, zR (sx j)) (hJ : JJ M) (kk : ∀ M2, JJ M2 → SX M2 L sx → hm_Wp (d + 8) 208 1260 [some (.inr (.inr 1005)), some (.inr (.inr 0)), some (.inr (.inr 30)), some (.inl (zI i))] [] M2 Q) : hm_Wp (d + 8) 208 1135 [some (.inr (.inr 1005)), some (.inr (.inr 0)), some (.inr (.inr 30)), some (.inl (zI i))] [] M Q := by
  refine q_aload gg208_1135 rfl ?_
  refine q_aload gg208_1136 rfl ?_
  refine q_iload gg208_1137 rfl ?_
  refine z_const gg208_1138 (v := 1) rfl ?_
  refine z_iadd gg208_1139 ?_
  refine z_scr gg208_1140 hs hL (by omega) (by omega) ?_
  refine q_aload gg208_1141 rfl ?_
  refine q_iload gg208_1142 rfl ?_
  refine z_const gg208_1143 (v := 2) rfl ?_
  refine z_iadd gg208_1144 ?_
  refine z_scr gg208_1145 hs hL (by omega) (by omega) ?_
  refine q_call3 gg208_1146 tt115 rfl (Nat.le_of_ble_eq_true rfl) (hm_rv (by decide +kernel)) (ls' := [some _, some _, some _]) rfl rfl ?_
  refine P_as (hzr _) (hzr _) hJ (fun a M1 e1 e2 hr => ?_)
  have hs1 := hs.mv e1 e2
  show hm_Wp _ _ _ _ (_ :: _) _ _
  refine q_aload gg208_1149 rfl ?_
  refine q_aload gg208_1150 rfl ?_
  refine q_iload gg208_1151 rfl ?_
  refine z_const gg208_1152 (v := 1) rfl ?_
  refine z_iadd gg208_1153 ?_
  refine z_scr gg208_1154 hs1 hL (by omega) (by omega) ?_
  refine q_aload gg208_1155 rfl ?_
  refine q_iload gg208_1156 rfl ?_
  refine z_const gg208_1157 (v := 2) rfl ?_
  refine z_iadd gg208_1158 ?_
  refine z_scr gg208_1159 hs1 hL (by omega) (by omega) ?_
  refine q_call3 gg208_1160 tt196 rfl (Nat.le_of_ble_eq_true rfl) (hm_rv (by decide +kernel)) (ls' := [some _, some _, some _, none, none]) rfl rfl ?_
  refine hr _ (fun M2 hJ2 e3 e4 => ?_)
  show hm_Wp _ _ _ _ (_ :: _) _ _
  refine q_icmp (a = a) hc_eq gg208_1163 (tg := 1260) rfl (fun _ => ?_) (fun z => absurd rfl z)
  exact kk M2 hJ2 (hs.mv e3 e4)
theorem law_ask (hi0 : 0 ≤ i) (hi : i + 6 ≤ L) (hL : L ≤ 384) (hs : SX M L sx) (hzr : ∀ j, zR (sx j)) (hJ : JJ M) (kk : ∀ M2, JJ M2 → SX M2 L sx → hm_Wp (d + 8) 208 1260 [some (.inr (.inr 1005)), some (.inr (.inr 0)), some (.inr (.inr 30)), some (.inl (zI i))] [] M2 Q) : hm_Wp (d + 8) 208 1168 [some (.inr (.inr 1005)), some (.inr (.inr 0)), some (.inr (.inr 30)), some (.inl (zI i))] [] M Q := by
  refine q_aload gg208_1168 rfl ?_
  refine q_aload gg208_1169 rfl ?_
  refine q_iload gg208_1170 rfl ?_
  refine z_const gg208_1171 (v := 1) rfl ?_
  refine z_iadd gg208_1172 ?_
  refine z_scr gg208_1173 hs hL (by omega) (by omega) ?_
  refine q_aload gg208_1174 rfl ?_
  refine q_iload gg208_1175 rfl ?_
  refine z_const gg208_1176 (v := 2) rfl ?_
  refine z_iadd gg208_1177 ?_
  refine z_scr gg208_1178 hs hL (by omega) (by omega) ?_
  refine q_call3 gg208_1179 tt116 rfl (Nat.le_of_ble_eq_true rfl) (hm_rv (by decide +kernel)) (ls' := [some _, some _, some _]) rfl rfl ?_
  refine P_ask (hzr _) (hzr _) hJ (fun a M1 e1 e2 hr => ?_)
  have hs1 := hs.mv e1 e2
  show hm_Wp _ _ _ _ (_ :: _) _ _
  refine q_aload gg208_1182 rfl ?_
  refine q_aload gg208_1183 rfl ?_
  refine q_iload gg208_1184 rfl ?_
  refine z_const gg208_1185 (v := 1) rfl ?_
  refine z_iadd gg208_1186 ?_
  refine z_scr gg208_1187 hs1 hL (by omega) (by omega) ?_
  refine q_aload gg208_1188 rfl ?_
  refine q_iload gg208_1189 rfl ?_
  refine z_const gg208_1190 (v := 2) rfl ?_
  refine z_iadd gg208_1191 ?_
  refine z_scr gg208_1192 hs1 hL (by omega) (by omega) ?_
  refine q_call3 gg208_1193 tt202 rfl (Nat.le_of_ble_eq_true rfl) (hm_rv (by decide +kernel)) (ls' := [some _, some _, some _, none]) rfl rfl ?_
  refine hr _ (fun M2 hJ2 e3 e4 => ?_)
  show hm_Wp _ _ _ _ (_ :: _) _ _
  refine q_icmp (a = a) hc_eq gg208_1196 (tg := 1260) rfl (fun _ => ?_) (fun z => absurd rfl z)
  exact kk M2 hJ2 (hs.mv e3 e4)
theorem law_trace (hi0 : 0 ≤ i) (hi : i + 6 ≤ L) (hL : L ≤ 384) (hs : SX M L sx) (hzr : ∀ j, zR (sx j)) (hJ : JJ M) (kk : ∀ M2, JJ M2 → SX M2 L sx → hm_Wp (d + 8) 208 1260 [some (.inr (.inr 1005)), some (.inr (.inr 0)), some (.inr (.inr 30)), some (.inl (zI i))] [] M2 Q) : hm_Wp (d + 8) 208 1201 [some (.inr (.inr 1005)), some (.inr (.inr 0)), some (.inr (.inr 30)), some (.inl (zI i))] [] M Q := by
  refine q_aload gg208_1201 rfl ?_
  refine q_aload gg208_1202 rfl ?_
  refine q_iload gg208_1203 rfl ?_
  refine z_const gg208_1204 (v := 1) rfl ?_
  refine z_iadd gg208_1205 ?_
  refine z_scr gg208_1206 hs hL (by omega) (by omega) ?_
  refine q_call2 gg208_1207 tt117 rfl (Nat.le_of_ble_eq_true rfl) (hm_rv (by decide +kernel)) (ls' := [some _, some _]) rfl rfl ?_
  refine P_trace (hzr _) hJ (fun a M1 e1 e2 hr => ?_)
  have hs1 := hs.mv e1 e2
  show hm_Wp _ _ _ _ (_ :: _) _ _
  refine q_aload gg208_1210 rfl ?_
  refine q_aload gg208_1211 rfl ?_
  refine q_iload gg208_1212 rfl ?_
  refine z_const gg208_1213 (v := 1) rfl ?_
  refine z_iadd gg208_1214 ?_
  refine z_scr gg208_1215 hs1 hL (by omega) (by omega) ?_
  refine q_call2 gg208_1216 tt203 rfl (Nat.le_of_ble_eq_true rfl) (hm_rv (by decide +kernel)) (ls' := [some _, some _]) rfl rfl ?_
  refine hr _ (fun M2 hJ2 e3 e4 => ?_)
  show hm_Wp _ _ _ _ (_ :: _) _ _
  refine q_icmp (a = a) hc_eq gg208_1219 (tg := 1260) rfl (fun _ => ?_) (fun z => absurd rfl z)
  exact kk M2 hJ2 (hs.mv e3 e4)
theorem law_count (hi0 : 0 ≤ i) (hi : i + 6 ≤ L) (hL : L ≤ 384) (hs : SX M L sx) (hzr : ∀ j, zR (sx j)) (hJ : JJ M) (kk : ∀ M2, JJ M2 → SX M2 L sx → hm_Wp (d + 8) 208 1260 [some (.inr (.inr 1005)), some (.inr (.inr 0)), some (.inr (.inr 30)), some (.inl (zI i))] [] M2 Q) : hm_Wp (d + 8) 208 1224 [some (.inr (.inr 1005)), some (.inr (.inr 0)), some (.inr (.inr 30)), some (.inl (zI i))] [] M Q := by
  refine q_aload gg208_1224 rfl ?_
  refine q_aload gg208_1225 rfl ?_
  refine q_iload gg208_1226 rfl ?_
  refine z_const gg208_1227 (v := 1) rfl ?_
  refine z_iadd gg208_1228 ?_
  refine z_scr gg208_1229 hs hL (by omega) (by omega) ?_
  refine q_call2 gg208_1230 tt118 rfl (Nat.le_of_ble_eq_true rfl) (hm_rv (by decide +kernel)) (ls' := [some _, some _]) rfl rfl ?_
  refine P_count (hzr _) hJ (fun a M1 e1 e2 hr => ?_)
  have hs1 := hs.mv e1 e2
  show hm_Wp _ _ _ _ (_ :: _) _ _
  refine q_aload gg208_1233 rfl ?_
  refine q_aload gg208_1234 rfl ?_
  refine q_iload gg208_1235 rfl ?_
  refine z_const gg208_1236 (v := 1) rfl ?_
  refine z_iadd gg208_1237 ?_
  refine z_scr gg208_1238 hs1 hL (by omega) (by omega) ?_
  refine q_call2 gg208_1239 tt204 rfl (Nat.le_of_ble_eq_true rfl) (hm_rv (by decide +kernel)) (ls' := [some _, some _, none, none]) rfl rfl ?_
  refine hr _ (fun M2 hJ2 e3 e4 => ?_)
  show hm_Wp _ _ _ _ (_ :: _) _ _
  refine q_icmp (a = a) hc_eq gg208_1242 (tg := 1260) rfl (fun _ => ?_) (fun z => absurd rfl z)
  exact kk M2 hJ2 (hs.mv e3 e4)
theorem law_status (hi0 : 0 ≤ i) (hi : i + 6 ≤ L) (hL : L ≤ 384) (hs : SX M L sx) (hzr : ∀ j, zR (sx j)) (hJ : JJ M) (kk : ∀ M2, JJ M2 → SX M2 L sx → hm_Wp (d + 8) 208 1260 [some (.inr (.inr 1005)), some (.inr (.inr 0)), some (.inr (.inr 30)), some (.inl (zI i))] [] M2 Q) : hm_Wp (d + 8) 208 1247 [some (.inr (.inr 1005)), some (.inr (.inr 0)), some (.inr (.inr 30)), some (.inl (zI i))] [] M Q := by
  refine q_aload gg208_1247 rfl ?_
  refine q_call1 gg208_1248 tt119 rfl (Nat.le_of_ble_eq_true rfl) (hm_rv (by decide +kernel)) (ls' := [some _]) rfl rfl ?_
  refine P_status hJ (fun a M1 e1 e2 hr => ?_)
  have hs1 := hs.mv e1 e2
  show hm_Wp _ _ _ _ (_ :: _) _ _
  refine q_aload gg208_1251 rfl ?_
  refine q_call1 gg208_1252 tt205 rfl (Nat.le_of_ble_eq_true rfl) (hm_rv (by decide +kernel)) (ls' := [some _]) rfl rfl ?_
  refine hr _ (fun M2 hJ2 e3 e4 => ?_)
  show hm_Wp _ _ _ _ (_ :: _) _ _
  refine q_icmp (a = a) hc_eq gg208_1255 (tg := 1260) rfl (fun _ => ?_) (fun z => absurd rfl z)
  exact kk M2 hJ2 (hs.mv e3 e4)
theorem law_loop (hL : L ≤ 384) (hzr : ∀ j, zR (sx j)) (kk : ∀ M2, Q (some (.inl (zI 1))) M2) : ∀ (n : Nat) (i : Int) (M : hm_M), 0 ≤ i → L - i < n → i ≤ 1000 → 0 ≤ L → SX M L sx → JJ M → hm_Wp (d + 8) 208 18 [some (.inr (.inr 1005)), some (.inr (.inr 0)), some (.inr (.inr 30)), some (.inl (zI i))] [] M Q := by
  intro n
  induction n with
  | zero => intro i M hi0 hin hi2 hL0 hs hJ
            have hh : L < i := by omega
            refine q_iload gg208_18 rfl ?_
            refine q_aload gg208_19 rfl ?_
            refine z_alen gg208_20 (hs.arr hL0 hL) (v := L) (by omega) ?_
            refine z_const gg208_21 (v := 6) rfl ?_
            refine z_isub gg208_23 ?_
            refine z_icmpgt gg208_24 (tg := 1266) rfl (by omega) (by omega) (fun c1 => ?_) (fun c1 => absurd c1 (by omega))
            refine z_const gg208_1266 (v := 1) rfl ?_
            exact z_zret gg208_1267 (by omega) (kk M)
  | succ n ih =>
    intro i M hi0 hin hi2 hL0 hs hJ
    refine q_iload gg208_18 rfl ?_
    refine q_aload gg208_19 rfl ?_
    refine z_alen gg208_20 (hs.arr hL0 hL) (v := L) (by omega) ?_
    refine z_const gg208_21 (v := 6) rfl ?_
    refine z_isub gg208_23 ?_
    refine z_icmpgt gg208_24 (tg := 1266) rfl (by omega) (by omega) (fun c1 => ?_) (fun c1 => ?_)
    · refine z_const gg208_1266 (v := 1) rfl ?_
      exact z_zret gg208_1267 (by omega) (kk M)
    · have hi : i + 6 ≤ L := by omega
      have K : ∀ M2, JJ M2 → SX M2 L sx → hm_Wp (d + 8) 208 1260 [some (.inr (.inr 1005)), some (.inr (.inr 0)), some (.inr (.inr 30)), some (.inl (zI i))] [] M2 Q := by
        intro M2 hJ2 hs2
        refine z_iinc gg208_1260 rfl rfl ?_
        refine q_goto gg208_1263 (tg := 18) rfl ?_
        exact ih (i + 6) M2 (by omega) (by omega) (by omega) hL0 hs2 hJ2
      refine q_aload gg208_27 rfl ?_
      refine q_iload gg208_28 rfl ?_
      refine z_scr gg208_29 hs hL hi0 (by omega) ?_
      refine z_const gg208_30 (v := 63) rfl ?_
      refine q_iand gg208_32 ?_
      refine q_sw gg208_33 rfl ?_
      refine swt_all (P := fun t => hm_Wp (d + 8) 208 t [some (.inr (.inr 1005)), some (.inr (.inr 0)), some (.inr (.inr 30)), some (.inl (zI i))] [] M Q) _ _ _ (K M hJ hs) ?_
      exact List.forall_mem_cons.mpr ⟨law_row hi0 hi hL hs hzr hJ K, List.forall_mem_cons.mpr ⟨law_set hi0 hi hL hs hzr hJ K, List.forall_mem_cons.mpr ⟨law_copy hi0 hi hL hs hzr hJ K, List.forall_mem_cons.mpr ⟨law_drop hi0 hi hL hs hzr hJ K, List.forall_mem_cons.mpr ⟨law_feed hi0 hi hL hs hzr hJ K, List.forall_mem_cons.mpr ⟨law_hob hi0 hi hL hs hzr hJ K, List.forall_mem_cons.mpr ⟨law_fault hi0 hi hL hs hzr hJ K, List.forall_mem_cons.mpr ⟨law_hours hi0 hi hL hs hzr hJ K, List.forall_mem_cons.mpr ⟨law_stir hi0 hi hL hs hzr hJ K, List.forall_mem_cons.mpr ⟨law_on hi0 hi hL hs hzr hJ K, List.forall_mem_cons.mpr ⟨law_swap hi0 hi hL hs hzr hJ K, List.forall_mem_cons.mpr ⟨law_plums hi0 hi hL hs hzr hJ K, List.forall_mem_cons.mpr ⟨law_heat hi0 hi hL hs hzr hJ K, List.forall_mem_cons.mpr ⟨law_undo hi0 hi hL hs hzr hJ K, List.forall_mem_cons.mpr ⟨law_basin hi0 hi hL hs hzr hJ K, List.forall_mem_cons.mpr ⟨law_place hi0 hi hL hs hzr hJ K, List.forall_mem_cons.mpr ⟨law_swell hi0 hi hL hs hzr hJ K, List.forall_mem_cons.mpr ⟨law_burst hi0 hi hL hs hzr hJ K, List.forall_mem_cons.mpr ⟨law_bursting hi0 hi hL hs hzr hJ K, List.forall_mem_cons.mpr ⟨law_first hi0 hi hL hs hzr hJ K, List.forall_mem_cons.mpr ⟨law_stirs hi0 hi hL hs hzr hJ K, List.forall_mem_cons.mpr ⟨law_off hi0 hi hL hs hzr hJ K, List.forall_mem_cons.mpr ⟨law_change hi0 hi hL hs hzr hJ K, List.forall_mem_cons.mpr ⟨law_hottest hi0 hi hL hs hzr hJ K, List.forall_mem_cons.mpr ⟨law_slices hi0 hi hL hs hzr hJ K, List.forall_mem_cons.mpr ⟨law_fits hi0 hi hL hs hzr hJ K, List.forall_mem_cons.mpr ⟨law_mice hi0 hi hL hs hzr hJ K, List.forall_mem_cons.mpr ⟨law_drawn hi0 hi hL hs hzr hJ K, List.forall_mem_cons.mpr ⟨law_image hi0 hi hL hs hzr hJ K, List.forall_mem_cons.mpr ⟨law_restore hi0 hi hL hs hzr hJ K, List.forall_mem_cons.mpr ⟨law_kind hi0 hi hL hs hzr hJ K, List.forall_mem_cons.mpr ⟨law_as hi0 hi hL hs hzr hJ K, List.forall_mem_cons.mpr ⟨law_ask hi0 hi hL hs hzr hJ K, List.forall_mem_cons.mpr ⟨law_trace hi0 hi hL hs hzr hJ K, List.forall_mem_cons.mpr ⟨law_count hi0 hi hL hs hzr hJ K, List.forall_mem_cons.mpr ⟨law_status hi0 hi hL hs hzr hJ K, fun _ h => absurd h List.not_mem_nil⟩⟩⟩⟩⟩⟩⟩⟩⟩⟩⟩⟩⟩⟩⟩⟩⟩⟩⟩⟩⟩⟩⟩⟩⟩⟩⟩⟩⟩⟩⟩⟩⟩⟩⟩⟩
end LW
