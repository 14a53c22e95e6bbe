theorem ttL : hm_tab[208]? = some hm_T208 := rfl
set_option maxRecDepth 100000 in
theorem gg208_3 : hm_at 208 3 = some (4, 24, 0, 0, []) := hm_atQ ttL rfl
set_option maxRecDepth 100000 in
theorem gg208_7 : hm_at 208 7 = some (8, 2, 1, 1, []) := hm_atQ ttL rfl
set_option maxRecDepth 100000 in
theorem gg208_11 : hm_at 208 11 = some (12, 24, 0, 0, []) := hm_atQ ttL rfl
set_option maxRecDepth 100000 in
theorem gg208_15 : hm_at 208 15 = some (16, 2, 1, 2, []) := hm_atQ ttL rfl
set_option maxRecDepth 100000 in
theorem gg208_16 : hm_at 208 16 = some (17, 0, 0, 0, []) := hm_atQ ttL rfl
set_option maxRecDepth 100000 in
theorem gg208_17 : hm_at 208 17 = some (18, 2, 0, 3, []) := hm_atQ ttL rfl
set_option maxRecDepth 100000 in
theorem gg208_18 : hm_at 208 18 = some (19, 1, 0, 3, []) := hm_atQ ttL rfl
set_option maxRecDepth 100000 in
theorem gg208_19 : hm_at 208 19 = some (20, 1, 1, 0, []) := hm_atQ ttL rfl
set_option maxRecDepth 100000 in
theorem gg208_20 : hm_at 208 20 = some (21, 22, 0, 0, []) := hm_atQ ttL rfl
set_option maxRecDepth 100000 in
theorem gg208_21 : hm_at 208 21 = some (23, 0, 0, 6, []) := hm_atQ ttL rfl
set_option maxRecDepth 100000 in
theorem gg208_23 : hm_at 208 23 = some (24, 4, 0, 1, []) := hm_atQ ttL rfl
set_option maxRecDepth 100000 in
theorem gg208_24 : hm_at 208 24 = some (27, 15, 1266, 4, []) := hm_atQ ttL rfl
set_option maxRecDepth 100000 in
theorem gg208_27 : hm_at 208 27 = some (28, 1, 1, 0, []) := hm_atQ ttL rfl
set_option maxRecDepth 100000 in
theorem gg208_28 : hm_at 208 28 = some (29, 1, 0, 3, []) := hm_atQ ttL rfl
set_option maxRecDepth 100000 in
theorem gg208_29 : hm_at 208 29 = some (30, 20, 0, 0, []) := hm_atQ ttL rfl
set_option maxRecDepth 100000 in
theorem gg208_30 : hm_at 208 30 = some (32, 0, 0, 63, []) := hm_atQ ttL rfl
set_option maxRecDepth 100000 in
theorem gg208_32 : hm_at 208 32 = some (33, 4, 0, 3, []) := hm_atQ ttL rfl
set_option maxRecDepth 100000 in
theorem gg208_33 : hm_at 208 33 = some (192, 17, 1260, 0, [(0, 192), (1, 235), (2, 278), (3, 341), (4, 364), (5, 387), (6, 400), (7, 413), (8, 436), (9, 459), (10, 492), (11, 525), (12, 558), (13, 581), (14, 594), (15, 627), (16, 650), (17, 683), (18, 706), (19, 729), (20, 752), (21, 785), (22, 818), (23, 851), (24, 874), (25, 907), (26, 970), (27, 1023), (28, 1066), (29, 1089), (30, 1112), (31, 1135), (32, 1168), (33, 1201), (34, 1224), (35, 1247)]) := hm_atQ ttL rfl
set_option maxRecDepth 100000 in
theorem gg208_192 : hm_at 208 192 = some (193, 1, 1, 1, []) := hm_atQ ttL rfl
set_option maxRecDepth 100000 in
theorem gg208_193 : hm_at 208 193 = some (194, 1, 1, 0, []) := hm_atQ ttL rfl
set_option maxRecDepth 100000 in
theorem gg208_194 : hm_at 208 194 = some (195, 1, 0, 3, []) := hm_atQ ttL rfl
set_option maxRecDepth 100000 in
theorem gg208_195 : hm_at 208 195 = some (196, 0, 0, 1, []) := hm_atQ ttL rfl
set_option maxRecDepth 100000 in
theorem gg208_196 : hm_at 208 196 = some (197, 4, 0, 0, []) := hm_atQ ttL rfl
set_option maxRecDepth 100000 in
theorem gg208_197 : hm_at 208 197 = some (198, 20, 0, 0, []) := hm_atQ ttL rfl
set_option maxRecDepth 100000 in
theorem gg208_198 : hm_at 208 198 = some (199, 1, 1, 0, []) := hm_atQ ttL rfl
set_option maxRecDepth 100000 in
theorem gg208_199 : hm_at 208 199 = some (200, 1, 0, 3, []) := hm_atQ ttL rfl
set_option maxRecDepth 100000 in
theorem gg208_200 : hm_at 208 200 = some (201, 0, 0, 2, []) := hm_atQ ttL rfl
set_option maxRecDepth 100000 in
theorem gg208_201 : hm_at 208 201 = some (202, 4, 0, 0, []) := hm_atQ ttL rfl
set_option maxRecDepth 100000 in
theorem gg208_202 : hm_at 208 202 = some (203, 20, 0, 0, []) := hm_atQ ttL rfl
set_option maxRecDepth 100000 in
theorem gg208_203 : hm_at 208 203 = some (204, 1, 1, 0, []) := hm_atQ ttL rfl
set_option maxRecDepth 100000 in
theorem gg208_204 : hm_at 208 204 = some (205, 1, 0, 3, []) := hm_atQ ttL rfl
set_option maxRecDepth 100000 in
theorem gg208_205 : hm_at 208 205 = some (206, 0, 0, 3, []) := hm_atQ ttL rfl
set_option maxRecDepth 100000 in
theorem gg208_206 : hm_at 208 206 = some (207, 4, 0, 0, []) := hm_atQ ttL rfl
set_option maxRecDepth 100000 in
theorem gg208_207 : hm_at 208 207 = some (208, 20, 0, 0, []) := hm_atQ ttL rfl
set_option maxRecDepth 100000 in
theorem gg208_208 : hm_at 208 208 = some (211, 27, 0, 84, []) := hm_atQ ttL rfl
set_option maxRecDepth 100000 in
theorem gg208_211 : hm_at 208 211 = some (212, 1, 1, 2, []) := hm_atQ ttL rfl
set_option maxRecDepth 100000 in
theorem gg208_212 : hm_at 208 212 = some (213, 1, 1, 0, []) := hm_atQ ttL rfl
set_option maxRecDepth 100000 in
theorem gg208_213 : hm_at 208 213 = some (214, 1, 0, 3, []) := hm_atQ ttL rfl
set_option maxRecDepth 100000 in
theorem gg208_214 : hm_at 208 214 = some (215, 0, 0, 1, []) := hm_atQ ttL rfl
set_option maxRecDepth 100000 in
theorem gg208_215 : hm_at 208 215 = some (216, 4, 0, 0, []) := hm_atQ ttL rfl
set_option maxRecDepth 100000 in
theorem gg208_216 : hm_at 208 216 = some (217, 20, 0, 0, []) := hm_atQ ttL rfl
set_option maxRecDepth 100000 in
theorem gg208_217 : hm_at 208 217 = some (218, 1, 1, 0, []) := hm_atQ ttL rfl
set_option maxRecDepth 100000 in
theorem gg208_218 : hm_at 208 218 = some (219, 1, 0, 3, []) := hm_atQ ttL rfl
set_option maxRecDepth 100000 in
theorem gg208_219 : hm_at 208 219 = some (220, 0, 0, 2, []) := hm_atQ ttL rfl
set_option maxRecDepth 100000 in
theorem gg208_220 : hm_at 208 220 = some (221, 4, 0, 0, []) := hm_atQ ttL rfl
set_option maxRecDepth 100000 in
theorem gg208_221 : hm_at 208 221 = some (222, 20, 0, 0, []) := hm_atQ ttL rfl
set_option maxRecDepth 100000 in
theorem gg208_222 : hm_at 208 222 = some (223, 1, 1, 0, []) := hm_atQ ttL rfl
set_option maxRecDepth 100000 in
theorem gg208_223 : hm_at 208 223 = some (224, 1, 0, 3, []) := hm_atQ ttL rfl
set_option maxRecDepth 100000 in
theorem gg208_224 : hm_at 208 224 = some (225, 0, 0, 3, []) := hm_atQ ttL rfl
set_option maxRecDepth 100000 in
theorem gg208_225 : hm_at 208 225 = some (226, 4, 0, 0, []) := hm_atQ ttL rfl
set_option maxRecDepth 100000 in
theorem gg208_226 : hm_at 208 226 = some (227, 20, 0, 0, []) := hm_atQ ttL rfl
set_option maxRecDepth 100000 in
theorem gg208_227 : hm_at 208 227 = some (230, 27, 0, 134, []) := hm_atQ ttL rfl
set_option maxRecDepth 100000 in
theorem gg208_230 : hm_at 208 230 = some (233, 15, 1260, 0, []) := hm_atQ ttL rfl
set_option maxRecDepth 100000 in
theorem gg208_233 : hm_at 208 233 = some (234, 0, 0, 0, []) := hm_atQ ttL rfl
set_option maxRecDepth 100000 in
theorem gg208_234 : hm_at 208 234 = some (235, 29, 0, 1, []) := hm_atQ ttL rfl
set_option maxRecDepth 100000 in
theorem gg208_235 : hm_at 208 235 = some (236, 1, 1, 1, []) := hm_atQ ttL rfl
set_option maxRecDepth 100000 in
theorem gg208_236 : hm_at 208 236 = some (237, 1, 1, 0, []) := hm_atQ ttL rfl
set_option maxRecDepth 100000 in
theorem gg208_237 : hm_at 208 237 = some (238, 1, 0, 3, []) := hm_atQ ttL rfl
set_option maxRecDepth 100000 in
theorem gg208_238 : hm_at 208 238 = some (239, 0, 0, 1, []) := hm_atQ ttL rfl
set_option maxRecDepth 100000 in
theorem gg208_239 : hm_at 208 239 = some (240, 4, 0, 0, []) := hm_atQ ttL rfl
set_option maxRecDepth 100000 in
theorem gg208_240 : hm_at 208 240 = some (241, 20, 0, 0, []) := hm_atQ ttL rfl
set_option maxRecDepth 100000 in
theorem gg208_241 : hm_at 208 241 = some (242, 1, 1, 0, []) := hm_atQ ttL rfl
set_option maxRecDepth 100000 in
theorem gg208_242 : hm_at 208 242 = some (243, 1, 0, 3, []) := hm_atQ ttL rfl
set_option maxRecDepth 100000 in
theorem gg208_243 : hm_at 208 243 = some (244, 0, 0, 2, []) := hm_atQ ttL rfl
set_option maxRecDepth 100000 in
theorem gg208_244 : hm_at 208 244 = some (245, 4, 0, 0, []) := hm_atQ ttL rfl
set_option maxRecDepth 100000 in
theorem gg208_245 : hm_at 208 245 = some (246, 20, 0, 0, []) := hm_atQ ttL rfl
set_option maxRecDepth 100000 in
theorem gg208_246 : hm_at 208 246 = some (247, 1, 1, 0, []) := hm_atQ ttL rfl
set_option maxRecDepth 100000 in
theorem gg208_247 : hm_at 208 247 = some (248, 1, 0, 3, []) := hm_atQ ttL rfl
set_option maxRecDepth 100000 in
theorem gg208_248 : hm_at 208 248 = some (249, 0, 0, 3, []) := hm_atQ ttL rfl
set_option maxRecDepth 100000 in
theorem gg208_249 : hm_at 208 249 = some (250, 4, 0, 0, []) := hm_atQ ttL rfl
set_option maxRecDepth 100000 in
theorem gg208_250 : hm_at 208 250 = some (251, 20, 0, 0, []) := hm_atQ ttL rfl
set_option maxRecDepth 100000 in
theorem gg208_251 : hm_at 208 251 = some (254, 27, 0, 85, []) := hm_atQ ttL rfl
set_option maxRecDepth 100000 in
theorem gg208_254 : hm_at 208 254 = some (255, 1, 1, 2, []) := hm_atQ ttL rfl
set_option maxRecDepth 100000 in
theorem gg208_255 : hm_at 208 255 = some (256, 1, 1, 0, []) := hm_atQ ttL rfl
set_option maxRecDepth 100000 in
theorem gg208_256 : hm_at 208 256 = some (257, 1, 0, 3, []) := hm_atQ ttL rfl
set_option maxRecDepth 100000 in
theorem gg208_257 : hm_at 208 257 = some (258, 0, 0, 1, []) := hm_atQ ttL rfl
set_option maxRecDepth 100000 in
theorem gg208_258 : hm_at 208 258 = some (259, 4, 0, 0, []) := hm_atQ ttL rfl
set_option maxRecDepth 100000 in
theorem gg208_259 : hm_at 208 259 = some (260, 20, 0, 0, []) := hm_atQ ttL rfl
set_option maxRecDepth 100000 in
theorem gg208_260 : hm_at 208 260 = some (261, 1, 1, 0, []) := hm_atQ ttL rfl
set_option maxRecDepth 100000 in
theorem gg208_261 : hm_at 208 261 = some (262, 1, 0, 3, []) := hm_atQ ttL rfl
set_option maxRecDepth 100000 in
theorem gg208_262 : hm_at 208 262 = some (263, 0, 0, 2, []) := hm_atQ ttL rfl
set_option maxRecDepth 100000 in
theorem gg208_263 : hm_at 208 263 = some (264, 4, 0, 0, []) := hm_atQ ttL rfl
set_option maxRecDepth 100000 in
theorem gg208_264 : hm_at 208 264 = some (265, 20, 0, 0, []) := hm_atQ ttL rfl
set_option maxRecDepth 100000 in
theorem gg208_265 : hm_at 208 265 = some (266, 1, 1, 0, []) := hm_atQ ttL rfl
set_option maxRecDepth 100000 in
theorem gg208_266 : hm_at 208 266 = some (267, 1, 0, 3, []) := hm_atQ ttL rfl
set_option maxRecDepth 100000 in
theorem gg208_267 : hm_at 208 267 = some (268, 0, 0, 3, []) := hm_atQ ttL rfl
set_option maxRecDepth 100000 in
theorem gg208_268 : hm_at 208 268 = some (269, 4, 0, 0, []) := hm_atQ ttL rfl
set_option maxRecDepth 100000 in
theorem gg208_269 : hm_at 208 269 = some (270, 20, 0, 0, []) := hm_atQ ttL rfl
set_option maxRecDepth 100000 in
theorem gg208_270 : hm_at 208 270 = some (273, 27, 0, 135, []) := hm_atQ ttL rfl
set_option maxRecDepth 100000 in
theorem gg208_273 : hm_at 208 273 = some (276, 15, 1260, 0, []) := hm_atQ ttL rfl
set_option maxRecDepth 100000 in
theorem gg208_276 : hm_at 208 276 = some (277, 0, 0, 0, []) := hm_atQ ttL rfl
set_option maxRecDepth 100000 in
theorem gg208_277 : hm_at 208 277 = some (278, 29, 0, 1, []) := hm_atQ ttL rfl
set_option maxRecDepth 100000 in
theorem gg208_278 : hm_at 208 278 = some (279, 1, 1, 1, []) := hm_atQ ttL rfl
set_option maxRecDepth 100000 in
theorem gg208_279 : hm_at 208 279 = some (280, 1, 1, 0, []) := hm_atQ ttL rfl
set_option maxRecDepth 100000 in
theorem gg208_280 : hm_at 208 280 = some (281, 1, 0, 3, []) := hm_atQ ttL rfl
set_option maxRecDepth 100000 in
theorem gg208_281 : hm_at 208 281 = some (282, 0, 0, 1, []) := hm_atQ ttL rfl
set_option maxRecDepth 100000 in
theorem gg208_282 : hm_at 208 282 = some (283, 4, 0, 0, []) := hm_atQ ttL rfl
set_option maxRecDepth 100000 in
theorem gg208_283 : hm_at 208 283 = some (284, 20, 0, 0, []) := hm_atQ ttL rfl
set_option maxRecDepth 100000 in
theorem gg208_284 : hm_at 208 284 = some (285, 1, 1, 0, []) := hm_atQ ttL rfl
set_option maxRecDepth 100000 in
theorem gg208_285 : hm_at 208 285 = some (286, 1, 0, 3, []) := hm_atQ ttL rfl
set_option maxRecDepth 100000 in
theorem gg208_286 : hm_at 208 286 = some (287, 0, 0, 2, []) := hm_atQ ttL rfl
set_option maxRecDepth 100000 in
theorem gg208_287 : hm_at 208 287 = some (288, 4, 0, 0, []) := hm_atQ ttL rfl
set_option maxRecDepth 100000 in
theorem gg208_288 : hm_at 208 288 = some (289, 20, 0, 0, []) := hm_atQ ttL rfl
set_option maxRecDepth 100000 in
theorem gg208_289 : hm_at 208 289 = some (290, 1, 1, 0, []) := hm_atQ ttL rfl
set_option maxRecDepth 100000 in
theorem gg208_290 : hm_at 208 290 = some (291, 1, 0, 3, []) := hm_atQ ttL rfl
set_option maxRecDepth 100000 in
theorem gg208_291 : hm_at 208 291 = some (292, 0, 0, 3, []) := hm_atQ ttL rfl
set_option maxRecDepth 100000 in
theorem gg208_292 : hm_at 208 292 = some (293, 4, 0, 0, []) := hm_atQ ttL rfl
set_option maxRecDepth 100000 in
theorem gg208_293 : hm_at 208 293 = some (294, 20, 0, 0, []) := hm_atQ ttL rfl
set_option maxRecDepth 100000 in
theorem gg208_294 : hm_at 208 294 = some (295, 1, 1, 0, []) := hm_atQ ttL rfl
set_option maxRecDepth 100000 in
theorem gg208_295 : hm_at 208 295 = some (296, 1, 0, 3, []) := hm_atQ ttL rfl
set_option maxRecDepth 100000 in
theorem gg208_296 : hm_at 208 296 = some (297, 0, 0, 4, []) := hm_atQ ttL rfl
set_option maxRecDepth 100000 in
theorem gg208_297 : hm_at 208 297 = some (298, 4, 0, 0, []) := hm_atQ ttL rfl
set_option maxRecDepth 100000 in
theorem gg208_298 : hm_at 208 298 = some (299, 20, 0, 0, []) := hm_atQ ttL rfl
set_option maxRecDepth 100000 in
theorem gg208_299 : hm_at 208 299 = some (300, 1, 1, 0, []) := hm_atQ ttL rfl
set_option maxRecDepth 100000 in
theorem gg208_300 : hm_at 208 300 = some (301, 1, 0, 3, []) := hm_atQ ttL rfl
set_option maxRecDepth 100000 in
theorem gg208_301 : hm_at 208 301 = some (302, 0, 0, 5, []) := hm_atQ ttL rfl
set_option maxRecDepth 100000 in
theorem gg208_302 : hm_at 208 302 = some (303, 4, 0, 0, []) := hm_atQ ttL rfl
set_option maxRecDepth 100000 in
theorem gg208_303 : hm_at 208 303 = some (304, 20, 0, 0, []) := hm_atQ ttL rfl
set_option maxRecDepth 100000 in
theorem gg208_304 : hm_at 208 304 = some (307, 27, 0, 86, []) := hm_atQ ttL rfl
set_option maxRecDepth 100000 in
theorem gg208_307 : hm_at 208 307 = some (308, 1, 1, 2, []) := hm_atQ ttL rfl
set_option maxRecDepth 100000 in
theorem gg208_308 : hm_at 208 308 = some (309, 1, 1, 0, []) := hm_atQ ttL rfl
set_option maxRecDepth 100000 in
theorem gg208_309 : hm_at 208 309 = some (310, 1, 0, 3, []) := hm_atQ ttL rfl
set_option maxRecDepth 100000 in
theorem gg208_310 : hm_at 208 310 = some (311, 0, 0, 1, []) := hm_atQ ttL rfl
set_option maxRecDepth 100000 in
theorem gg208_311 : hm_at 208 311 = some (312, 4, 0, 0, []) := hm_atQ ttL rfl
set_option maxRecDepth 100000 in
theorem gg208_312 : hm_at 208 312 = some (313, 20, 0, 0, []) := hm_atQ ttL rfl
set_option maxRecDepth 100000 in
theorem gg208_313 : hm_at 208 313 = some (314, 1, 1, 0, []) := hm_atQ ttL rfl
set_option maxRecDepth 100000 in
theorem gg208_314 : hm_at 208 314 = some (315, 1, 0, 3, []) := hm_atQ ttL rfl
set_option maxRecDepth 100000 in
theorem gg208_315 : hm_at 208 315 = some (316, 0, 0, 2, []) := hm_atQ ttL rfl
set_option maxRecDepth 100000 in
theorem gg208_316 : hm_at 208 316 = some (317, 4, 0, 0, []) := hm_atQ ttL rfl
set_option maxRecDepth 100000 in
theorem gg208_317 : hm_at 208 317 = some (318, 20, 0, 0, []) := hm_atQ ttL rfl
set_option maxRecDepth 100000 in
theorem gg208_318 : hm_at 208 318 = some (319, 1, 1, 0, []) := hm_atQ ttL rfl
set_option maxRecDepth 100000 in
theorem gg208_319 : hm_at 208 319 = some (320, 1, 0, 3, []) := hm_atQ ttL rfl
set_option maxRecDepth 100000 in
theorem gg208_320 : hm_at 208 320 = some (321, 0, 0, 3, []) := hm_atQ ttL rfl
set_option maxRecDepth 100000 in
theorem gg208_321 : hm_at 208 321 = some (322, 4, 0, 0, []) := hm_atQ ttL rfl
set_option maxRecDepth 100000 in
theorem gg208_322 : hm_at 208 322 = some (323, 20, 0, 0, []) := hm_atQ ttL rfl
set_option maxRecDepth 100000 in
theorem gg208_323 : hm_at 208 323 = some (324, 1, 1, 0, []) := hm_atQ ttL rfl
set_option maxRecDepth 100000 in
theorem gg208_324 : hm_at 208 324 = some (325, 1, 0, 3, []) := hm_atQ ttL rfl
set_option maxRecDepth 100000 in
theorem gg208_325 : hm_at 208 325 = some (326, 0, 0, 4, []) := hm_atQ ttL rfl
set_option maxRecDepth 100000 in
theorem gg208_326 : hm_at 208 326 = some (327, 4, 0, 0, []) := hm_atQ ttL rfl
set_option maxRecDepth 100000 in
theorem gg208_327 : hm_at 208 327 = some (328, 20, 0, 0, []) := hm_atQ ttL rfl
set_option maxRecDepth 100000 in
theorem gg208_328 : hm_at 208 328 = some (329, 1, 1, 0, []) := hm_atQ ttL rfl
set_option maxRecDepth 100000 in
theorem gg208_329 : hm_at 208 329 = some (330, 1, 0, 3, []) := hm_atQ ttL rfl
set_option maxRecDepth 100000 in
theorem gg208_330 : hm_at 208 330 = some (331, 0, 0, 5, []) := hm_atQ ttL rfl
set_option maxRecDepth 100000 in
theorem gg208_331 : hm_at 208 331 = some (332, 4, 0, 0, []) := hm_atQ ttL rfl
set_option maxRecDepth 100000 in
theorem gg208_332 : hm_at 208 332 = some (333, 20, 0, 0, []) := hm_atQ ttL rfl
set_option maxRecDepth 100000 in
theorem gg208_333 : hm_at 208 333 = some (336, 27, 0, 137, []) := hm_atQ ttL rfl
set_option maxRecDepth 100000 in
theorem gg208_336 : hm_at 208 336 = some (339, 15, 1260, 0, []) := hm_atQ ttL rfl
set_option maxRecDepth 100000 in
theorem gg208_339 : hm_at 208 339 = some (340, 0, 0, 0, []) := hm_atQ ttL rfl
set_option maxRecDepth 100000 in
theorem gg208_340 : hm_at 208 340 = some (341, 29, 0, 1, []) := hm_atQ ttL rfl
set_option maxRecDepth 100000 in
theorem gg208_341 : hm_at 208 341 = some (342, 1, 1, 1, []) := hm_atQ ttL rfl
set_option maxRecDepth 100000 in
theorem gg208_342 : hm_at 208 342 = some (343, 1, 1, 0, []) := hm_atQ ttL rfl
set_option maxRecDepth 100000 in
theorem gg208_343 : hm_at 208 343 = some (344, 1, 0, 3, []) := hm_atQ ttL rfl
set_option maxRecDepth 100000 in
theorem gg208_344 : hm_at 208 344 = some (345, 0, 0, 1, []) := hm_atQ ttL rfl
set_option maxRecDepth 100000 in
theorem gg208_345 : hm_at 208 345 = some (346, 4, 0, 0, []) := hm_atQ ttL rfl
set_option maxRecDepth 100000 in
theorem gg208_346 : hm_at 208 346 = some (347, 20, 0, 0, []) := hm_atQ ttL rfl
set_option maxRecDepth 100000 in
theorem gg208_347 : hm_at 208 347 = some (350, 27, 0, 87, []) := hm_atQ ttL rfl
set_option maxRecDepth 100000 in
theorem gg208_350 : hm_at 208 350 = some (351, 1, 1, 2, []) := hm_atQ ttL rfl
set_option maxRecDepth 100000 in
theorem gg208_351 : hm_at 208 351 = some (352, 1, 1, 0, []) := hm_atQ ttL rfl
set_option maxRecDepth 100000 in
theorem gg208_352 : hm_at 208 352 = some (353, 1, 0, 3, []) := hm_atQ ttL rfl
set_option maxRecDepth 100000 in
theorem gg208_353 : hm_at 208 353 = some (354, 0, 0, 1, []) := hm_atQ ttL rfl
set_option maxRecDepth 100000 in
theorem gg208_354 : hm_at 208 354 = some (355, 4, 0, 0, []) := hm_atQ ttL rfl
set_option maxRecDepth 100000 in
theorem gg208_355 : hm_at 208 355 = some (356, 20, 0, 0, []) := hm_atQ ttL rfl
set_option maxRecDepth 100000 in
theorem gg208_356 : hm_at 208 356 = some (359, 27, 0, 138, []) := hm_atQ ttL rfl
set_option maxRecDepth 100000 in
theorem gg208_359 : hm_at 208 359 = some (362, 15, 1260, 0, []) := hm_atQ ttL rfl
set_option maxRecDepth 100000 in
theorem gg208_362 : hm_at 208 362 = some (363, 0, 0, 0, []) := hm_atQ ttL rfl
set_option maxRecDepth 100000 in
theorem gg208_363 : hm_at 208 363 = some (364, 29, 0, 1, []) := hm_atQ ttL rfl
set_option maxRecDepth 100000 in
theorem gg208_364 : hm_at 208 364 = some (365, 1, 1, 1, []) := hm_atQ ttL rfl
set_option maxRecDepth 100000 in
theorem gg208_365 : hm_at 208 365 = some (366, 1, 1, 0, []) := hm_atQ ttL rfl
set_option maxRecDepth 100000 in
theorem gg208_366 : hm_at 208 366 = some (367, 1, 0, 3, []) := hm_atQ ttL rfl
set_option maxRecDepth 100000 in
theorem gg208_367 : hm_at 208 367 = some (368, 0, 0, 1, []) := hm_atQ ttL rfl
set_option maxRecDepth 100000 in
theorem gg208_368 : hm_at 208 368 = some (369, 4, 0, 0, []) := hm_atQ ttL rfl
set_option maxRecDepth 100000 in
theorem gg208_369 : hm_at 208 369 = some (370, 20, 0, 0, []) := hm_atQ ttL rfl
set_option maxRecDepth 100000 in
theorem gg208_370 : hm_at 208 370 = some (373, 27, 0, 88, []) := hm_atQ ttL rfl
set_option maxRecDepth 100000 in
theorem gg208_373 : hm_at 208 373 = some (374, 1, 1, 2, []) := hm_atQ ttL rfl
set_option maxRecDepth 100000 in
theorem gg208_374 : hm_at 208 374 = some (375, 1, 1, 0, []) := hm_atQ ttL rfl
set_option maxRecDepth 100000 in
theorem gg208_375 : hm_at 208 375 = some (376, 1, 0, 3, []) := hm_atQ ttL rfl
set_option maxRecDepth 100000 in
theorem gg208_376 : hm_at 208 376 = some (377, 0, 0, 1, []) := hm_atQ ttL rfl
set_option maxRecDepth 100000 in
theorem gg208_377 : hm_at 208 377 = some (378, 4, 0, 0, []) := hm_atQ ttL rfl
set_option maxRecDepth 100000 in
theorem gg208_378 : hm_at 208 378 = some (379, 20, 0, 0, []) := hm_atQ ttL rfl
set_option maxRecDepth 100000 in
theorem gg208_379 : hm_at 208 379 = some (382, 27, 0, 139, []) := hm_atQ ttL rfl
set_option maxRecDepth 100000 in
theorem gg208_382 : hm_at 208 382 = some (385, 15, 1260, 0, []) := hm_atQ ttL rfl
set_option maxRecDepth 100000 in
theorem gg208_385 : hm_at 208 385 = some (386, 0, 0, 0, []) := hm_atQ ttL rfl
set_option maxRecDepth 100000 in
theorem gg208_386 : hm_at 208 386 = some (387, 29, 0, 1, []) := hm_atQ ttL rfl
set_option maxRecDepth 100000 in
theorem gg208_387 : hm_at 208 387 = some (388, 1, 1, 1, []) := hm_atQ ttL rfl
set_option maxRecDepth 100000 in
theorem gg208_388 : hm_at 208 388 = some (391, 27, 0, 89, []) := hm_atQ ttL rfl
set_option maxRecDepth 100000 in
theorem gg208_391 : hm_at 208 391 = some (392, 1, 1, 2, []) := hm_atQ ttL rfl
set_option maxRecDepth 100000 in
theorem gg208_392 : hm_at 208 392 = some (395, 27, 0, 149, []) := hm_atQ ttL rfl
set_option maxRecDepth 100000 in
theorem gg208_395 : hm_at 208 395 = some (398, 15, 1260, 0, []) := hm_atQ ttL rfl
set_option maxRecDepth 100000 in
theorem gg208_398 : hm_at 208 398 = some (399, 0, 0, 0, []) := hm_atQ ttL rfl
set_option maxRecDepth 100000 in
theorem gg208_399 : hm_at 208 399 = some (400, 29, 0, 1, []) := hm_atQ ttL rfl
set_option maxRecDepth 100000 in
theorem gg208_400 : hm_at 208 400 = some (401, 1, 1, 1, []) := hm_atQ ttL rfl
set_option maxRecDepth 100000 in
theorem gg208_401 : hm_at 208 401 = some (404, 27, 0, 90, []) := hm_atQ ttL rfl
set_option maxRecDepth 100000 in
theorem gg208_404 : hm_at 208 404 = some (405, 1, 1, 2, []) := hm_atQ ttL rfl
set_option maxRecDepth 100000 in
theorem gg208_405 : hm_at 208 405 = some (408, 27, 0, 150, []) := hm_atQ ttL rfl
set_option maxRecDepth 100000 in
theorem gg208_408 : hm_at 208 408 = some (411, 15, 1260, 0, []) := hm_atQ ttL rfl
set_option maxRecDepth 100000 in
theorem gg208_411 : hm_at 208 411 = some (412, 0, 0, 0, []) := hm_atQ ttL rfl
set_option maxRecDepth 100000 in
theorem gg208_412 : hm_at 208 412 = some (413, 29, 0, 1, []) := hm_atQ ttL rfl
set_option maxRecDepth 100000 in
theorem gg208_413 : hm_at 208 413 = some (414, 1, 1, 1, []) := hm_atQ ttL rfl
set_option maxRecDepth 100000 in
theorem gg208_414 : hm_at 208 414 = some (415, 1, 1, 0, []) := hm_atQ ttL rfl
set_option maxRecDepth 100000 in
theorem gg208_415 : hm_at 208 415 = some (416, 1, 0, 3, []) := hm_atQ ttL rfl
set_option maxRecDepth 100000 in
theorem gg208_416 : hm_at 208 416 = some (417, 0, 0, 1, []) := hm_atQ ttL rfl
set_option maxRecDepth 100000 in
theorem gg208_417 : hm_at 208 417 = some (418, 4, 0, 0, []) := hm_atQ ttL rfl
set_option maxRecDepth 100000 in
theorem gg208_418 : hm_at 208 418 = some (419, 20, 0, 0, []) := hm_atQ ttL rfl
set_option maxRecDepth 100000 in
theorem gg208_419 : hm_at 208 419 = some (422, 27, 0, 91, []) := hm_atQ ttL rfl
set_option maxRecDepth 100000 in
theorem gg208_422 : hm_at 208 422 = some (423, 1, 1, 2, []) := hm_atQ ttL rfl
set_option maxRecDepth 100000 in
theorem gg208_423 : hm_at 208 423 = some (424, 1, 1, 0, []) := hm_atQ ttL rfl
set_option maxRecDepth 100000 in
theorem gg208_424 : hm_at 208 424 = some (425, 1, 0, 3, []) := hm_atQ ttL rfl
set_option maxRecDepth 100000 in
theorem gg208_425 : hm_at 208 425 = some (426, 0, 0, 1, []) := hm_atQ ttL rfl
set_option maxRecDepth 100000 in
theorem gg208_426 : hm_at 208 426 = some (427, 4, 0, 0, []) := hm_atQ ttL rfl
set_option maxRecDepth 100000 in
theorem gg208_427 : hm_at 208 427 = some (428, 20, 0, 0, []) := hm_atQ ttL rfl
set_option maxRecDepth 100000 in
theorem gg208_428 : hm_at 208 428 = some (431, 27, 0, 166, []) := hm_atQ ttL rfl
set_option maxRecDepth 100000 in
theorem gg208_431 : hm_at 208 431 = some (434, 15, 1260, 0, []) := hm_atQ ttL rfl
set_option maxRecDepth 100000 in
theorem gg208_434 : hm_at 208 434 = some (435, 0, 0, 0, []) := hm_atQ ttL rfl
set_option maxRecDepth 100000 in
theorem gg208_435 : hm_at 208 435 = some (436, 29, 0, 1, []) := hm_atQ ttL rfl
set_option maxRecDepth 100000 in
theorem gg208_436 : hm_at 208 436 = some (437, 1, 1, 1, []) := hm_atQ ttL rfl
set_option maxRecDepth 100000 in
theorem gg208_437 : hm_at 208 437 = some (438, 1, 1, 0, []) := hm_atQ ttL rfl
set_option maxRecDepth 100000 in
theorem gg208_438 : hm_at 208 438 = some (439, 1, 0, 3, []) := hm_atQ ttL rfl
set_option maxRecDepth 100000 in
theorem gg208_439 : hm_at 208 439 = some (440, 0, 0, 1, []) := hm_atQ ttL rfl
set_option maxRecDepth 100000 in
theorem gg208_440 : hm_at 208 440 = some (441, 4, 0, 0, []) := hm_atQ ttL rfl
set_option maxRecDepth 100000 in
theorem gg208_441 : hm_at 208 441 = some (442, 20, 0, 0, []) := hm_atQ ttL rfl
set_option maxRecDepth 100000 in
theorem gg208_442 : hm_at 208 442 = some (445, 27, 0, 92, []) := hm_atQ ttL rfl
set_option maxRecDepth 100000 in
theorem gg208_445 : hm_at 208 445 = some (446, 1, 1, 2, []) := hm_atQ ttL rfl
set_option maxRecDepth 100000 in
theorem gg208_446 : hm_at 208 446 = some (447, 1, 1, 0, []) := hm_atQ ttL rfl
set_option maxRecDepth 100000 in
theorem gg208_447 : hm_at 208 447 = some (448, 1, 0, 3, []) := hm_atQ ttL rfl
set_option maxRecDepth 100000 in
theorem gg208_448 : hm_at 208 448 = some (449, 0, 0, 1, []) := hm_atQ ttL rfl
set_option maxRecDepth 100000 in
theorem gg208_449 : hm_at 208 449 = some (450, 4, 0, 0, []) := hm_atQ ttL rfl
set_option maxRecDepth 100000 in
theorem gg208_450 : hm_at 208 450 = some (451, 20, 0, 0, []) := hm_atQ ttL rfl
set_option maxRecDepth 100000 in
theorem gg208_451 : hm_at 208 451 = some (454, 27, 0, 167, []) := hm_atQ ttL rfl
set_option maxRecDepth 100000 in
theorem gg208_454 : hm_at 208 454 = some (457, 15, 1260, 0, []) := hm_atQ ttL rfl
set_option maxRecDepth 100000 in
theorem gg208_457 : hm_at 208 457 = some (458, 0, 0, 0, []) := hm_atQ ttL rfl
set_option maxRecDepth 100000 in
theorem gg208_458 : hm_at 208 458 = some (459, 29, 0, 1, []) := hm_atQ ttL rfl
set_option maxRecDepth 100000 in
theorem gg208_459 : hm_at 208 459 = some (460, 1, 1, 1, []) := hm_atQ ttL rfl
set_option maxRecDepth 100000 in
theorem gg208_460 : hm_at 208 460 = some (461, 1, 1, 0, []) := hm_atQ ttL rfl
set_option maxRecDepth 100000 in
theorem gg208_461 : hm_at 208 461 = some (462, 1, 0, 3, []) := hm_atQ ttL rfl
set_option maxRecDepth 100000 in
theorem gg208_462 : hm_at 208 462 = some (463, 0, 0, 1, []) := hm_atQ ttL rfl
set_option maxRecDepth 100000 in
theorem gg208_463 : hm_at 208 463 = some (464, 4, 0, 0, []) := hm_atQ ttL rfl
set_option maxRecDepth 100000 in
theorem gg208_464 : hm_at 208 464 = some (465, 20, 0, 0, []) := hm_atQ ttL rfl
set_option maxRecDepth 100000 in
theorem gg208_465 : hm_at 208 465 = some (466, 1, 1, 0, []) := hm_atQ ttL rfl
set_option maxRecDepth 100000 in
theorem gg208_466 : hm_at 208 466 = some (467, 1, 0, 3, []) := hm_atQ ttL rfl
set_option maxRecDepth 100000 in
theorem gg208_467 : hm_at 208 467 = some (468, 0, 0, 2, []) := hm_atQ ttL rfl
set_option maxRecDepth 100000 in
theorem gg208_468 : hm_at 208 468 = some (469, 4, 0, 0, []) := hm_atQ ttL rfl
set_option maxRecDepth 100000 in
theorem gg208_469 : hm_at 208 469 = some (470, 20, 0, 0, []) := hm_atQ ttL rfl
set_option maxRecDepth 100000 in
theorem gg208_470 : hm_at 208 470 = some (473, 27, 0, 93, []) := hm_atQ ttL rfl
set_option maxRecDepth 100000 in
theorem gg208_473 : hm_at 208 473 = some (474, 1, 1, 2, []) := hm_atQ ttL rfl
set_option maxRecDepth 100000 in
theorem gg208_474 : hm_at 208 474 = some (475, 1, 1, 0, []) := hm_atQ ttL rfl
set_option maxRecDepth 100000 in
theorem gg208_475 : hm_at 208 475 = some (476, 1, 0, 3, []) := hm_atQ ttL rfl
set_option maxRecDepth 100000 in
theorem gg208_476 : hm_at 208 476 = some (477, 0, 0, 1, []) := hm_atQ ttL rfl
set_option maxRecDepth 100000 in
theorem gg208_477 : hm_at 208 477 = some (478, 4, 0, 0, []) := hm_atQ ttL rfl
set_option maxRecDepth 100000 in
theorem gg208_478 : hm_at 208 478 = some (479, 20, 0, 0, []) := hm_atQ ttL rfl
set_option maxRecDepth 100000 in
theorem gg208_479 : hm_at 208 479 = some (480, 1, 1, 0, []) := hm_atQ ttL rfl
set_option maxRecDepth 100000 in
theorem gg208_480 : hm_at 208 480 = some (481, 1, 0, 3, []) := hm_atQ ttL rfl
set_option maxRecDepth 100000 in
theorem gg208_481 : hm_at 208 481 = some (482, 0, 0, 2, []) := hm_atQ ttL rfl
set_option maxRecDepth 100000 in
theorem gg208_482 : hm_at 208 482 = some (483, 4, 0, 0, []) := hm_atQ ttL rfl
set_option maxRecDepth 100000 in
theorem gg208_483 : hm_at 208 483 = some (484, 20, 0, 0, []) := hm_atQ ttL rfl
set_option maxRecDepth 100000 in
theorem gg208_484 : hm_at 208 484 = some (487, 27, 0, 168, []) := hm_atQ ttL rfl
set_option maxRecDepth 100000 in
theorem gg208_487 : hm_at 208 487 = some (490, 15, 1260, 0, []) := hm_atQ ttL rfl
set_option maxRecDepth 100000 in
theorem gg208_490 : hm_at 208 490 = some (491, 0, 0, 0, []) := hm_atQ ttL rfl
set_option maxRecDepth 100000 in
theorem gg208_491 : hm_at 208 491 = some (492, 29, 0, 1, []) := hm_atQ ttL rfl
set_option maxRecDepth 100000 in
theorem gg208_492 : hm_at 208 492 = some (493, 1, 1, 1, []) := hm_atQ ttL rfl
set_option maxRecDepth 100000 in
theorem gg208_493 : hm_at 208 493 = some (494, 1, 1, 0, []) := hm_atQ ttL rfl
set_option maxRecDepth 100000 in
theorem gg208_494 : hm_at 208 494 = some (495, 1, 0, 3, []) := hm_atQ ttL rfl
set_option maxRecDepth 100000 in
theorem gg208_495 : hm_at 208 495 = some (496, 0, 0, 1, []) := hm_atQ ttL rfl
set_option maxRecDepth 100000 in
theorem gg208_496 : hm_at 208 496 = some (497, 4, 0, 0, []) := hm_atQ ttL rfl
set_option maxRecDepth 100000 in
theorem gg208_497 : hm_at 208 497 = some (498, 20, 0, 0, []) := hm_atQ ttL rfl
set_option maxRecDepth 100000 in
theorem gg208_498 : hm_at 208 498 = some (499, 1, 1, 0, []) := hm_atQ ttL rfl
set_option maxRecDepth 100000 in
theorem gg208_499 : hm_at 208 499 = some (500, 1, 0, 3, []) := hm_atQ ttL rfl
set_option maxRecDepth 100000 in
theorem gg208_500 : hm_at 208 500 = some (501, 0, 0, 2, []) := hm_atQ ttL rfl
set_option maxRecDepth 100000 in
theorem gg208_501 : hm_at 208 501 = some (502, 4, 0, 0, []) := hm_atQ ttL rfl
set_option maxRecDepth 100000 in
theorem gg208_502 : hm_at 208 502 = some (503, 20, 0, 0, []) := hm_atQ ttL rfl
set_option maxRecDepth 100000 in
theorem gg208_503 : hm_at 208 503 = some (506, 27, 0, 94, []) := hm_atQ ttL rfl
set_option maxRecDepth 100000 in
theorem gg208_506 : hm_at 208 506 = some (507, 1, 1, 2, []) := hm_atQ ttL rfl
set_option maxRecDepth 100000 in
theorem gg208_507 : hm_at 208 507 = some (508, 1, 1, 0, []) := hm_atQ ttL rfl
set_option maxRecDepth 100000 in
theorem gg208_508 : hm_at 208 508 = some (509, 1, 0, 3, []) := hm_atQ ttL rfl
set_option maxRecDepth 100000 in
theorem gg208_509 : hm_at 208 509 = some (510, 0, 0, 1, []) := hm_atQ ttL rfl
set_option maxRecDepth 100000 in
theorem gg208_510 : hm_at 208 510 = some (511, 4, 0, 0, []) := hm_atQ ttL rfl
set_option maxRecDepth 100000 in
theorem gg208_511 : hm_at 208 511 = some (512, 20, 0, 0, []) := hm_atQ ttL rfl
set_option maxRecDepth 100000 in
theorem gg208_512 : hm_at 208 512 = some (513, 1, 1, 0, []) := hm_atQ ttL rfl
set_option maxRecDepth 100000 in
theorem gg208_513 : hm_at 208 513 = some (514, 1, 0, 3, []) := hm_atQ ttL rfl
set_option maxRecDepth 100000 in
theorem gg208_514 : hm_at 208 514 = some (515, 0, 0, 2, []) := hm_atQ ttL rfl
set_option maxRecDepth 100000 in
theorem gg208_515 : hm_at 208 515 = some (516, 4, 0, 0, []) := hm_atQ ttL rfl
set_option maxRecDepth 100000 in
theorem gg208_516 : hm_at 208 516 = some (517, 20, 0, 0, []) := hm_atQ ttL rfl
set_option maxRecDepth 100000 in
theorem gg208_517 : hm_at 208 517 = some (520, 27, 0, 169, []) := hm_atQ ttL rfl
set_option maxRecDepth 100000 in
theorem gg208_520 : hm_at 208 520 = some (523, 15, 1260, 0, []) := hm_atQ ttL rfl
set_option maxRecDepth 100000 in
theorem gg208_523 : hm_at 208 523 = some (524, 0, 0, 0, []) := hm_atQ ttL rfl
set_option maxRecDepth 100000 in
theorem gg208_524 : hm_at 208 524 = some (525, 29, 0, 1, []) := hm_atQ ttL rfl
set_option maxRecDepth 100000 in
theorem gg208_525 : hm_at 208 525 = some (526, 1, 1, 1, []) := hm_atQ ttL rfl
set_option maxRecDepth 100000 in
theorem gg208_526 : hm_at 208 526 = some (527, 1, 1, 0, []) := hm_atQ ttL rfl
set_option maxRecDepth 100000 in
theorem gg208_527 : hm_at 208 527 = some (528, 1, 0, 3, []) := hm_atQ ttL rfl
set_option maxRecDepth 100000 in
theorem gg208_528 : hm_at 208 528 = some (529, 0, 0, 1, []) := hm_atQ ttL rfl
set_option maxRecDepth 100000 in
theorem gg208_529 : hm_at 208 529 = some (530, 4, 0, 0, []) := hm_atQ ttL rfl
set_option maxRecDepth 100000 in
theorem gg208_530 : hm_at 208 530 = some (531, 20, 0, 0, []) := hm_atQ ttL rfl
set_option maxRecDepth 100000 in
theorem gg208_531 : hm_at 208 531 = some (532, 1, 1, 0, []) := hm_atQ ttL rfl
set_option maxRecDepth 100000 in
theorem gg208_532 : hm_at 208 532 = some (533, 1, 0, 3, []) := hm_atQ ttL rfl
set_option maxRecDepth 100000 in
theorem gg208_533 : hm_at 208 533 = some (534, 0, 0, 2, []) := hm_atQ ttL rfl
set_option maxRecDepth 100000 in
theorem gg208_534 : hm_at 208 534 = some (535, 4, 0, 0, []) := hm_atQ ttL rfl
set_option maxRecDepth 100000 in
theorem gg208_535 : hm_at 208 535 = some (536, 20, 0, 0, []) := hm_atQ ttL rfl
set_option maxRecDepth 100000 in
theorem gg208_536 : hm_at 208 536 = some (539, 27, 0, 95, []) := hm_atQ ttL rfl
set_option maxRecDepth 100000 in
theorem gg208_539 : hm_at 208 539 = some (540, 1, 1, 2, []) := hm_atQ ttL rfl
set_option maxRecDepth 100000 in
theorem gg208_540 : hm_at 208 540 = some (541, 1, 1, 0, []) := hm_atQ ttL rfl
set_option maxRecDepth 100000 in
theorem gg208_541 : hm_at 208 541 = some (542, 1, 0, 3, []) := hm_atQ ttL rfl
set_option maxRecDepth 100000 in
theorem gg208_542 : hm_at 208 542 = some (543, 0, 0, 1, []) := hm_atQ ttL rfl
set_option maxRecDepth 100000 in
theorem gg208_543 : hm_at 208 543 = some (544, 4, 0, 0, []) := hm_atQ ttL rfl
set_option maxRecDepth 100000 in
theorem gg208_544 : hm_at 208 544 = some (545, 20, 0, 0, []) := hm_atQ ttL rfl
set_option maxRecDepth 100000 in
theorem gg208_545 : hm_at 208 545 = some (546, 1, 1, 0, []) := hm_atQ ttL rfl
set_option maxRecDepth 100000 in
theorem gg208_546 : hm_at 208 546 = some (547, 1, 0, 3, []) := hm_atQ ttL rfl
set_option maxRecDepth 100000 in
theorem gg208_547 : hm_at 208 547 = some (548, 0, 0, 2, []) := hm_atQ ttL rfl
set_option maxRecDepth 100000 in
theorem gg208_548 : hm_at 208 548 = some (549, 4, 0, 0, []) := hm_atQ ttL rfl
set_option maxRecDepth 100000 in
theorem gg208_549 : hm_at 208 549 = some (550, 20, 0, 0, []) := hm_atQ ttL rfl
set_option maxRecDepth 100000 in
theorem gg208_550 : hm_at 208 550 = some (553, 27, 0, 170, []) := hm_atQ ttL rfl
set_option maxRecDepth 100000 in
theorem gg208_553 : hm_at 208 553 = some (556, 15, 1260, 0, []) := hm_atQ ttL rfl
set_option maxRecDepth 100000 in
theorem gg208_556 : hm_at 208 556 = some (557, 0, 0, 0, []) := hm_atQ ttL rfl
set_option maxRecDepth 100000 in
theorem gg208_557 : hm_at 208 557 = some (558, 29, 0, 1, []) := hm_atQ ttL rfl
set_option maxRecDepth 100000 in
theorem gg208_558 : hm_at 208 558 = some (559, 1, 1, 1, []) := hm_atQ ttL rfl
set_option maxRecDepth 100000 in
theorem gg208_559 : hm_at 208 559 = some (560, 1, 1, 0, []) := hm_atQ ttL rfl
set_option maxRecDepth 100000 in
theorem gg208_560 : hm_at 208 560 = some (561, 1, 0, 3, []) := hm_atQ ttL rfl
set_option maxRecDepth 100000 in
theorem gg208_561 : hm_at 208 561 = some (562, 0, 0, 1, []) := hm_atQ ttL rfl
set_option maxRecDepth 100000 in
theorem gg208_562 : hm_at 208 562 = some (563, 4, 0, 0, []) := hm_atQ ttL rfl
set_option maxRecDepth 100000 in
theorem gg208_563 : hm_at 208 563 = some (564, 20, 0, 0, []) := hm_atQ ttL rfl
set_option maxRecDepth 100000 in
theorem gg208_564 : hm_at 208 564 = some (567, 27, 0, 96, []) := hm_atQ ttL rfl
set_option maxRecDepth 100000 in
theorem gg208_567 : hm_at 208 567 = some (568, 1, 1, 2, []) := hm_atQ ttL rfl
set_option maxRecDepth 100000 in
theorem gg208_568 : hm_at 208 568 = some (569, 1, 1, 0, []) := hm_atQ ttL rfl
set_option maxRecDepth 100000 in
theorem gg208_569 : hm_at 208 569 = some (570, 1, 0, 3, []) := hm_atQ ttL rfl
set_option maxRecDepth 100000 in
theorem gg208_570 : hm_at 208 570 = some (571, 0, 0, 1, []) := hm_atQ ttL rfl
set_option maxRecDepth 100000 in
theorem gg208_571 : hm_at 208 571 = some (572, 4, 0, 0, []) := hm_atQ ttL rfl
set_option maxRecDepth 100000 in
theorem gg208_572 : hm_at 208 572 = some (573, 20, 0, 0, []) := hm_atQ ttL rfl
set_option maxRecDepth 100000 in
theorem gg208_573 : hm_at 208 573 = some (576, 27, 0, 171, []) := hm_atQ ttL rfl
set_option maxRecDepth 100000 in
theorem gg208_576 : hm_at 208 576 = some (579, 15, 1260, 0, []) := hm_atQ ttL rfl
set_option maxRecDepth 100000 in
theorem gg208_579 : hm_at 208 579 = some (580, 0, 0, 0, []) := hm_atQ ttL rfl
set_option maxRecDepth 100000 in
theorem gg208_580 : hm_at 208 580 = some (581, 29, 0, 1, []) := hm_atQ ttL rfl
set_option maxRecDepth 100000 in
theorem gg208_581 : hm_at 208 581 = some (582, 1, 1, 1, []) := hm_atQ ttL rfl
set_option maxRecDepth 100000 in
theorem gg208_582 : hm_at 208 582 = some (585, 27, 0, 97, []) := hm_atQ ttL rfl
set_option maxRecDepth 100000 in
theorem gg208_585 : hm_at 208 585 = some (586, 1, 1, 2, []) := hm_atQ ttL rfl
set_option maxRecDepth 100000 in
theorem gg208_586 : hm_at 208 586 = some (589, 27, 0, 172, []) := hm_atQ ttL rfl
set_option maxRecDepth 100000 in
theorem gg208_589 : hm_at 208 589 = some (592, 15, 1260, 0, []) := hm_atQ ttL rfl
set_option maxRecDepth 100000 in
theorem gg208_592 : hm_at 208 592 = some (593, 0, 0, 0, []) := hm_atQ ttL rfl
set_option maxRecDepth 100000 in
theorem gg208_593 : hm_at 208 593 = some (594, 29, 0, 1, []) := hm_atQ ttL rfl
set_option maxRecDepth 100000 in
theorem gg208_594 : hm_at 208 594 = some (595, 1, 1, 1, []) := hm_atQ ttL rfl
set_option maxRecDepth 100000 in
theorem gg208_595 : hm_at 208 595 = some (596, 1, 1, 0, []) := hm_atQ ttL rfl
set_option maxRecDepth 100000 in
theorem gg208_596 : hm_at 208 596 = some (597, 1, 0, 3, []) := hm_atQ ttL rfl
set_option maxRecDepth 100000 in
theorem gg208_597 : hm_at 208 597 = some (598, 0, 0, 1, []) := hm_atQ ttL rfl
set_option maxRecDepth 100000 in
theorem gg208_598 : hm_at 208 598 = some (599, 4, 0, 0, []) := hm_atQ ttL rfl
set_option maxRecDepth 100000 in
theorem gg208_599 : hm_at 208 599 = some (600, 20, 0, 0, []) := hm_atQ ttL rfl
set_option maxRecDepth 100000 in
theorem gg208_600 : hm_at 208 600 = some (601, 1, 1, 0, []) := hm_atQ ttL rfl
set_option maxRecDepth 100000 in
theorem gg208_601 : hm_at 208 601 = some (602, 1, 0, 3, []) := hm_atQ ttL rfl
set_option maxRecDepth 100000 in
theorem gg208_602 : hm_at 208 602 = some (603, 0, 0, 2, []) := hm_atQ ttL rfl
set_option maxRecDepth 100000 in
theorem gg208_603 : hm_at 208 603 = some (604, 4, 0, 0, []) := hm_atQ ttL rfl
set_option maxRecDepth 100000 in
theorem gg208_604 : hm_at 208 604 = some (605, 20, 0, 0, []) := hm_atQ ttL rfl
set_option maxRecDepth 100000 in
theorem gg208_605 : hm_at 208 605 = some (608, 27, 0, 98, []) := hm_atQ ttL rfl
set_option maxRecDepth 100000 in
theorem gg208_608 : hm_at 208 608 = some (609, 1, 1, 2, []) := hm_atQ ttL rfl
set_option maxRecDepth 100000 in
theorem gg208_609 : hm_at 208 609 = some (610, 1, 1, 0, []) := hm_atQ ttL rfl
set_option maxRecDepth 100000 in
theorem gg208_610 : hm_at 208 610 = some (611, 1, 0, 3, []) := hm_atQ ttL rfl
set_option maxRecDepth 100000 in
theorem gg208_611 : hm_at 208 611 = some (612, 0, 0, 1, []) := hm_atQ ttL rfl
set_option maxRecDepth 100000 in
theorem gg208_612 : hm_at 208 612 = some (613, 4, 0, 0, []) := hm_atQ ttL rfl
set_option maxRecDepth 100000 in
theorem gg208_613 : hm_at 208 613 = some (614, 20, 0, 0, []) := hm_atQ ttL rfl
set_option maxRecDepth 100000 in
theorem gg208_614 : hm_at 208 614 = some (615, 1, 1, 0, []) := hm_atQ ttL rfl
set_option maxRecDepth 100000 in
theorem gg208_615 : hm_at 208 615 = some (616, 1, 0, 3, []) := hm_atQ ttL rfl
set_option maxRecDepth 100000 in
theorem gg208_616 : hm_at 208 616 = some (617, 0, 0, 2, []) := hm_atQ ttL rfl
set_option maxRecDepth 100000 in
theorem gg208_617 : hm_at 208 617 = some (618, 4, 0, 0, []) := hm_atQ ttL rfl
set_option maxRecDepth 100000 in
theorem gg208_618 : hm_at 208 618 = some (619, 20, 0, 0, []) := hm_atQ ttL rfl
set_option maxRecDepth 100000 in
theorem gg208_619 : hm_at 208 619 = some (622, 27, 0, 173, []) := hm_atQ ttL rfl
set_option maxRecDepth 100000 in
theorem gg208_622 : hm_at 208 622 = some (625, 15, 1260, 0, []) := hm_atQ ttL rfl
set_option maxRecDepth 100000 in
theorem gg208_625 : hm_at 208 625 = some (626, 0, 0, 0, []) := hm_atQ ttL rfl
set_option maxRecDepth 100000 in
theorem gg208_626 : hm_at 208 626 = some (627, 29, 0, 1, []) := hm_atQ ttL rfl
set_option maxRecDepth 100000 in
theorem gg208_627 : hm_at 208 627 = some (628, 1, 1, 1, []) := hm_atQ ttL rfl
set_option maxRecDepth 100000 in
theorem gg208_628 : hm_at 208 628 = some (629, 1, 1, 0, []) := hm_atQ ttL rfl
set_option maxRecDepth 100000 in
theorem gg208_629 : hm_at 208 629 = some (630, 1, 0, 3, []) := hm_atQ ttL rfl
set_option maxRecDepth 100000 in
theorem gg208_630 : hm_at 208 630 = some (631, 0, 0, 1, []) := hm_atQ ttL rfl
set_option maxRecDepth 100000 in
theorem gg208_631 : hm_at 208 631 = some (632, 4, 0, 0, []) := hm_atQ ttL rfl
set_option maxRecDepth 100000 in
theorem gg208_632 : hm_at 208 632 = some (633, 20, 0, 0, []) := hm_atQ ttL rfl
set_option maxRecDepth 100000 in
theorem gg208_633 : hm_at 208 633 = some (636, 27, 0, 99, []) := hm_atQ ttL rfl
set_option maxRecDepth 100000 in
theorem gg208_636 : hm_at 208 636 = some (637, 1, 1, 2, []) := hm_atQ ttL rfl
set_option maxRecDepth 100000 in
theorem gg208_637 : hm_at 208 637 = some (638, 1, 1, 0, []) := hm_atQ ttL rfl
set_option maxRecDepth 100000 in
theorem gg208_638 : hm_at 208 638 = some (639, 1, 0, 3, []) := hm_atQ ttL rfl
set_option maxRecDepth 100000 in
theorem gg208_639 : hm_at 208 639 = some (640, 0, 0, 1, []) := hm_atQ ttL rfl
set_option maxRecDepth 100000 in
theorem gg208_640 : hm_at 208 640 = some (641, 4, 0, 0, []) := hm_atQ ttL rfl
set_option maxRecDepth 100000 in
theorem gg208_641 : hm_at 208 641 = some (642, 20, 0, 0, []) := hm_atQ ttL rfl
set_option maxRecDepth 100000 in
theorem gg208_642 : hm_at 208 642 = some (645, 27, 0, 174, []) := hm_atQ ttL rfl
set_option maxRecDepth 100000 in
theorem gg208_645 : hm_at 208 645 = some (648, 15, 1260, 0, []) := hm_atQ ttL rfl
set_option maxRecDepth 100000 in
theorem gg208_648 : hm_at 208 648 = some (649, 0, 0, 0, []) := hm_atQ ttL rfl
set_option maxRecDepth 100000 in
theorem gg208_649 : hm_at 208 649 = some (650, 29, 0, 1, []) := hm_atQ ttL rfl
set_option maxRecDepth 100000 in
theorem gg208_650 : hm_at 208 650 = some (651, 1, 1, 1, []) := hm_atQ ttL rfl
set_option maxRecDepth 100000 in
theorem gg208_651 : hm_at 208 651 = some (652, 1, 1, 0, []) := hm_atQ ttL rfl
set_option maxRecDepth 100000 in
theorem gg208_652 : hm_at 208 652 = some (653, 1, 0, 3, []) := hm_atQ ttL rfl
set_option maxRecDepth 100000 in
theorem gg208_653 : hm_at 208 653 = some (654, 0, 0, 1, []) := hm_atQ ttL rfl
set_option maxRecDepth 100000 in
theorem gg208_654 : hm_at 208 654 = some (655, 4, 0, 0, []) := hm_atQ ttL rfl
set_option maxRecDepth 100000 in
theorem gg208_655 : hm_at 208 655 = some (656, 20, 0, 0, []) := hm_atQ ttL rfl
set_option maxRecDepth 100000 in
theorem gg208_656 : hm_at 208 656 = some (657, 1, 1, 0, []) := hm_atQ ttL rfl
set_option maxRecDepth 100000 in
theorem gg208_657 : hm_at 208 657 = some (658, 1, 0, 3, []) := hm_atQ ttL rfl
set_option maxRecDepth 100000 in
theorem gg208_658 : hm_at 208 658 = some (659, 0, 0, 2, []) := hm_atQ ttL rfl
set_option maxRecDepth 100000 in
theorem gg208_659 : hm_at 208 659 = some (660, 4, 0, 0, []) := hm_atQ ttL rfl
set_option maxRecDepth 100000 in
theorem gg208_660 : hm_at 208 660 = some (661, 20, 0, 0, []) := hm_atQ ttL rfl
set_option maxRecDepth 100000 in
theorem gg208_661 : hm_at 208 661 = some (664, 27, 0, 100, []) := hm_atQ ttL rfl
set_option maxRecDepth 100000 in
theorem gg208_664 : hm_at 208 664 = some (665, 1, 1, 2, []) := hm_atQ ttL rfl
set_option maxRecDepth 100000 in
theorem gg208_665 : hm_at 208 665 = some (666, 1, 1, 0, []) := hm_atQ ttL rfl
set_option maxRecDepth 100000 in
theorem gg208_666 : hm_at 208 666 = some (667, 1, 0, 3, []) := hm_atQ ttL rfl
set_option maxRecDepth 100000 in
theorem gg208_667 : hm_at 208 667 = some (668, 0, 0, 1, []) := hm_atQ ttL rfl
set_option maxRecDepth 100000 in
theorem gg208_668 : hm_at 208 668 = some (669, 4, 0, 0, []) := hm_atQ ttL rfl
set_option maxRecDepth 100000 in
theorem gg208_669 : hm_at 208 669 = some (670, 20, 0, 0, []) := hm_atQ ttL rfl
set_option maxRecDepth 100000 in
theorem gg208_670 : hm_at 208 670 = some (671, 1, 1, 0, []) := hm_atQ ttL rfl
set_option maxRecDepth 100000 in
theorem gg208_671 : hm_at 208 671 = some (672, 1, 0, 3, []) := hm_atQ ttL rfl
set_option maxRecDepth 100000 in
theorem gg208_672 : hm_at 208 672 = some (673, 0, 0, 2, []) := hm_atQ ttL rfl
set_option maxRecDepth 100000 in
theorem gg208_673 : hm_at 208 673 = some (674, 4, 0, 0, []) := hm_atQ ttL rfl
set_option maxRecDepth 100000 in
theorem gg208_674 : hm_at 208 674 = some (675, 20, 0, 0, []) := hm_atQ ttL rfl
set_option maxRecDepth 100000 in
theorem gg208_675 : hm_at 208 675 = some (678, 27, 0, 176, []) := hm_atQ ttL rfl
set_option maxRecDepth 100000 in
theorem gg208_678 : hm_at 208 678 = some (681, 15, 1260, 0, []) := hm_atQ ttL rfl
set_option maxRecDepth 100000 in
theorem gg208_681 : hm_at 208 681 = some (682, 0, 0, 0, []) := hm_atQ ttL rfl
set_option maxRecDepth 100000 in
theorem gg208_682 : hm_at 208 682 = some (683, 29, 0, 1, []) := hm_atQ ttL rfl
set_option maxRecDepth 100000 in
theorem gg208_683 : hm_at 208 683 = some (684, 1, 1, 1, []) := hm_atQ ttL rfl
set_option maxRecDepth 100000 in
theorem gg208_684 : hm_at 208 684 = some (685, 1, 1, 0, []) := hm_atQ ttL rfl
set_option maxRecDepth 100000 in
theorem gg208_685 : hm_at 208 685 = some (686, 1, 0, 3, []) := hm_atQ ttL rfl
set_option maxRecDepth 100000 in
theorem gg208_686 : hm_at 208 686 = some (687, 0, 0, 1, []) := hm_atQ ttL rfl
set_option maxRecDepth 100000 in
theorem gg208_687 : hm_at 208 687 = some (688, 4, 0, 0, []) := hm_atQ ttL rfl
set_option maxRecDepth 100000 in
theorem gg208_688 : hm_at 208 688 = some (689, 20, 0, 0, []) := hm_atQ ttL rfl
set_option maxRecDepth 100000 in
theorem gg208_689 : hm_at 208 689 = some (692, 27, 0, 101, []) := hm_atQ ttL rfl
set_option maxRecDepth 100000 in
theorem gg208_692 : hm_at 208 692 = some (693, 1, 1, 2, []) := hm_atQ ttL rfl
set_option maxRecDepth 100000 in
theorem gg208_693 : hm_at 208 693 = some (694, 1, 1, 0, []) := hm_atQ ttL rfl
set_option maxRecDepth 100000 in
theorem gg208_694 : hm_at 208 694 = some (695, 1, 0, 3, []) := hm_atQ ttL rfl
set_option maxRecDepth 100000 in
theorem gg208_695 : hm_at 208 695 = some (696, 0, 0, 1, []) := hm_atQ ttL rfl
set_option maxRecDepth 100000 in
theorem gg208_696 : hm_at 208 696 = some (697, 4, 0, 0, []) := hm_atQ ttL rfl
set_option maxRecDepth 100000 in
theorem gg208_697 : hm_at 208 697 = some (698, 20, 0, 0, []) := hm_atQ ttL rfl
set_option maxRecDepth 100000 in
theorem gg208_698 : hm_at 208 698 = some (701, 27, 0, 177, []) := hm_atQ ttL rfl
set_option maxRecDepth 100000 in
theorem gg208_701 : hm_at 208 701 = some (704, 15, 1260, 0, []) := hm_atQ ttL rfl
set_option maxRecDepth 100000 in
theorem gg208_704 : hm_at 208 704 = some (705, 0, 0, 0, []) := hm_atQ ttL rfl
set_option maxRecDepth 100000 in
theorem gg208_705 : hm_at 208 705 = some (706, 29, 0, 1, []) := hm_atQ ttL rfl
set_option maxRecDepth 100000 in
theorem gg208_706 : hm_at 208 706 = some (707, 1, 1, 1, []) := hm_atQ ttL rfl
set_option maxRecDepth 100000 in
theorem gg208_707 : hm_at 208 707 = some (708, 1, 1, 0, []) := hm_atQ ttL rfl
set_option maxRecDepth 100000 in
theorem gg208_708 : hm_at 208 708 = some (709, 1, 0, 3, []) := hm_atQ ttL rfl
set_option maxRecDepth 100000 in
theorem gg208_709 : hm_at 208 709 = some (710, 0, 0, 1, []) := hm_atQ ttL rfl
set_option maxRecDepth 100000 in
theorem gg208_710 : hm_at 208 710 = some (711, 4, 0, 0, []) := hm_atQ ttL rfl
set_option maxRecDepth 100000 in
theorem gg208_711 : hm_at 208 711 = some (712, 20, 0, 0, []) := hm_atQ ttL rfl
set_option maxRecDepth 100000 in
theorem gg208_712 : hm_at 208 712 = some (715, 27, 0, 102, []) := hm_atQ ttL rfl
set_option maxRecDepth 100000 in
theorem gg208_715 : hm_at 208 715 = some (716, 1, 1, 2, []) := hm_atQ ttL rfl
set_option maxRecDepth 100000 in
theorem gg208_716 : hm_at 208 716 = some (717, 1, 1, 0, []) := hm_atQ ttL rfl
set_option maxRecDepth 100000 in
theorem gg208_717 : hm_at 208 717 = some (718, 1, 0, 3, []) := hm_atQ ttL rfl
set_option maxRecDepth 100000 in
theorem gg208_718 : hm_at 208 718 = some (719, 0, 0, 1, []) := hm_atQ ttL rfl
set_option maxRecDepth 100000 in
theorem gg208_719 : hm_at 208 719 = some (720, 4, 0, 0, []) := hm_atQ ttL rfl
set_option maxRecDepth 100000 in
theorem gg208_720 : hm_at 208 720 = some (721, 20, 0, 0, []) := hm_atQ ttL rfl
set_option maxRecDepth 100000 in
theorem gg208_721 : hm_at 208 721 = some (724, 27, 0, 178, []) := hm_atQ ttL rfl
set_option maxRecDepth 100000 in
theorem gg208_724 : hm_at 208 724 = some (727, 15, 1260, 0, []) := hm_atQ ttL rfl
set_option maxRecDepth 100000 in
theorem gg208_727 : hm_at 208 727 = some (728, 0, 0, 0, []) := hm_atQ ttL rfl
set_option maxRecDepth 100000 in
theorem gg208_728 : hm_at 208 728 = some (729, 29, 0, 1, []) := hm_atQ ttL rfl
set_option maxRecDepth 100000 in
theorem gg208_729 : hm_at 208 729 = some (730, 1, 1, 1, []) := hm_atQ ttL rfl
set_option maxRecDepth 100000 in
theorem gg208_730 : hm_at 208 730 = some (731, 1, 1, 0, []) := hm_atQ ttL rfl
set_option maxRecDepth 100000 in
theorem gg208_731 : hm_at 208 731 = some (732, 1, 0, 3, []) := hm_atQ ttL rfl
set_option maxRecDepth 100000 in
theorem gg208_732 : hm_at 208 732 = some (733, 0, 0, 1, []) := hm_atQ ttL rfl
set_option maxRecDepth 100000 in
theorem gg208_733 : hm_at 208 733 = some (734, 4, 0, 0, []) := hm_atQ ttL rfl
set_option maxRecDepth 100000 in
theorem gg208_734 : hm_at 208 734 = some (735, 20, 0, 0, []) := hm_atQ ttL rfl
set_option maxRecDepth 100000 in
theorem gg208_735 : hm_at 208 735 = some (738, 27, 0, 103, []) := hm_atQ ttL rfl
set_option maxRecDepth 100000 in
theorem gg208_738 : hm_at 208 738 = some (739, 1, 1, 2, []) := hm_atQ ttL rfl
set_option maxRecDepth 100000 in
theorem gg208_739 : hm_at 208 739 = some (740, 1, 1, 0, []) := hm_atQ ttL rfl
set_option maxRecDepth 100000 in
theorem gg208_740 : hm_at 208 740 = some (741, 1, 0, 3, []) := hm_atQ ttL rfl
set_option maxRecDepth 100000 in
theorem gg208_741 : hm_at 208 741 = some (742, 0, 0, 1, []) := hm_atQ ttL rfl
set_option maxRecDepth 100000 in
theorem gg208_742 : hm_at 208 742 = some (743, 4, 0, 0, []) := hm_atQ ttL rfl
set_option maxRecDepth 100000 in
theorem gg208_743 : hm_at 208 743 = some (744, 20, 0, 0, []) := hm_atQ ttL rfl
set_option maxRecDepth 100000 in
theorem gg208_744 : hm_at 208 744 = some (747, 27, 0, 179, []) := hm_atQ ttL rfl
set_option maxRecDepth 100000 in
theorem gg208_747 : hm_at 208 747 = some (750, 15, 1260, 0, []) := hm_atQ ttL rfl
set_option maxRecDepth 100000 in
theorem gg208_750 : hm_at 208 750 = some (751, 0, 0, 0, []) := hm_atQ ttL rfl
set_option maxRecDepth 100000 in
theorem gg208_751 : hm_at 208 751 = some (752, 29, 0, 1, []) := hm_atQ ttL rfl
set_option maxRecDepth 100000 in
theorem gg208_752 : hm_at 208 752 = some (753, 1, 1, 1, []) := hm_atQ ttL rfl
set_option maxRecDepth 100000 in
theorem gg208_753 : hm_at 208 753 = some (754, 1, 1, 0, []) := hm_atQ ttL rfl
set_option maxRecDepth 100000 in
theorem gg208_754 : hm_at 208 754 = some (755, 1, 0, 3, []) := hm_atQ ttL rfl
set_option maxRecDepth 100000 in
theorem gg208_755 : hm_at 208 755 = some (756, 0, 0, 1, []) := hm_atQ ttL rfl
set_option maxRecDepth 100000 in
theorem gg208_756 : hm_at 208 756 = some (757, 4, 0, 0, []) := hm_atQ ttL rfl
set_option maxRecDepth 100000 in
theorem gg208_757 : hm_at 208 757 = some (758, 20, 0, 0, []) := hm_atQ ttL rfl
set_option maxRecDepth 100000 in
theorem gg208_758 : hm_at 208 758 = some (759, 1, 1, 0, []) := hm_atQ ttL rfl
set_option maxRecDepth 100000 in
theorem gg208_759 : hm_at 208 759 = some (760, 1, 0, 3, []) := hm_atQ ttL rfl
set_option maxRecDepth 100000 in
theorem gg208_760 : hm_at 208 760 = some (761, 0, 0, 2, []) := hm_atQ ttL rfl
set_option maxRecDepth 100000 in
theorem gg208_761 : hm_at 208 761 = some (762, 4, 0, 0, []) := hm_atQ ttL rfl
set_option maxRecDepth 100000 in
theorem gg208_762 : hm_at 208 762 = some (763, 20, 0, 0, []) := hm_atQ ttL rfl
set_option maxRecDepth 100000 in
theorem gg208_763 : hm_at 208 763 = some (766, 27, 0, 104, []) := hm_atQ ttL rfl
set_option maxRecDepth 100000 in
theorem gg208_766 : hm_at 208 766 = some (767, 1, 1, 2, []) := hm_atQ ttL rfl
set_option maxRecDepth 100000 in
theorem gg208_767 : hm_at 208 767 = some (768, 1, 1, 0, []) := hm_atQ ttL rfl
set_option maxRecDepth 100000 in
theorem gg208_768 : hm_at 208 768 = some (769, 1, 0, 3, []) := hm_atQ ttL rfl
set_option maxRecDepth 100000 in
theorem gg208_769 : hm_at 208 769 = some (770, 0, 0, 1, []) := hm_atQ ttL rfl
set_option maxRecDepth 100000 in
theorem gg208_770 : hm_at 208 770 = some (771, 4, 0, 0, []) := hm_atQ ttL rfl
set_option maxRecDepth 100000 in
theorem gg208_771 : hm_at 208 771 = some (772, 20, 0, 0, []) := hm_atQ ttL rfl
set_option maxRecDepth 100000 in
theorem gg208_772 : hm_at 208 772 = some (773, 1, 1, 0, []) := hm_atQ ttL rfl
set_option maxRecDepth 100000 in
theorem gg208_773 : hm_at 208 773 = some (774, 1, 0, 3, []) := hm_atQ ttL rfl
set_option maxRecDepth 100000 in
theorem gg208_774 : hm_at 208 774 = some (775, 0, 0, 2, []) := hm_atQ ttL rfl
set_option maxRecDepth 100000 in
theorem gg208_775 : hm_at 208 775 = some (776, 4, 0, 0, []) := hm_atQ ttL rfl
set_option maxRecDepth 100000 in
theorem gg208_776 : hm_at 208 776 = some (777, 20, 0, 0, []) := hm_atQ ttL rfl
set_option maxRecDepth 100000 in
theorem gg208_777 : hm_at 208 777 = some (780, 27, 0, 181, []) := hm_atQ ttL rfl
set_option maxRecDepth 100000 in
theorem gg208_780 : hm_at 208 780 = some (783, 15, 1260, 0, []) := hm_atQ ttL rfl
set_option maxRecDepth 100000 in
theorem gg208_783 : hm_at 208 783 = some (784, 0, 0, 0, []) := hm_atQ ttL rfl
set_option maxRecDepth 100000 in
theorem gg208_784 : hm_at 208 784 = some (785, 29, 0, 1, []) := hm_atQ ttL rfl
set_option maxRecDepth 100000 in
theorem gg208_785 : hm_at 208 785 = some (786, 1, 1, 1, []) := hm_atQ ttL rfl
set_option maxRecDepth 100000 in
theorem gg208_786 : hm_at 208 786 = some (787, 1, 1, 0, []) := hm_atQ ttL rfl
set_option maxRecDepth 100000 in
theorem gg208_787 : hm_at 208 787 = some (788, 1, 0, 3, []) := hm_atQ ttL rfl
set_option maxRecDepth 100000 in
theorem gg208_788 : hm_at 208 788 = some (789, 0, 0, 1, []) := hm_atQ ttL rfl
set_option maxRecDepth 100000 in
theorem gg208_789 : hm_at 208 789 = some (790, 4, 0, 0, []) := hm_atQ ttL rfl
set_option maxRecDepth 100000 in
theorem gg208_790 : hm_at 208 790 = some (791, 20, 0, 0, []) := hm_atQ ttL rfl
set_option maxRecDepth 100000 in
theorem gg208_791 : hm_at 208 791 = some (792, 1, 1, 0, []) := hm_atQ ttL rfl
set_option maxRecDepth 100000 in
theorem gg208_792 : hm_at 208 792 = some (793, 1, 0, 3, []) := hm_atQ ttL rfl
set_option maxRecDepth 100000 in
theorem gg208_793 : hm_at 208 793 = some (794, 0, 0, 2, []) := hm_atQ ttL rfl
set_option maxRecDepth 100000 in
theorem gg208_794 : hm_at 208 794 = some (795, 4, 0, 0, []) := hm_atQ ttL rfl
set_option maxRecDepth 100000 in
theorem gg208_795 : hm_at 208 795 = some (796, 20, 0, 0, []) := hm_atQ ttL rfl
set_option maxRecDepth 100000 in
theorem gg208_796 : hm_at 208 796 = some (799, 27, 0, 105, []) := hm_atQ ttL rfl
set_option maxRecDepth 100000 in
theorem gg208_799 : hm_at 208 799 = some (800, 1, 1, 2, []) := hm_atQ ttL rfl
set_option maxRecDepth 100000 in
theorem gg208_800 : hm_at 208 800 = some (801, 1, 1, 0, []) := hm_atQ ttL rfl
set_option maxRecDepth 100000 in
theorem gg208_801 : hm_at 208 801 = some (802, 1, 0, 3, []) := hm_atQ ttL rfl
set_option maxRecDepth 100000 in
theorem gg208_802 : hm_at 208 802 = some (803, 0, 0, 1, []) := hm_atQ ttL rfl
set_option maxRecDepth 100000 in
theorem gg208_803 : hm_at 208 803 = some (804, 4, 0, 0, []) := hm_atQ ttL rfl
set_option maxRecDepth 100000 in
theorem gg208_804 : hm_at 208 804 = some (805, 20, 0, 0, []) := hm_atQ ttL rfl
set_option maxRecDepth 100000 in
theorem gg208_805 : hm_at 208 805 = some (806, 1, 1, 0, []) := hm_atQ ttL rfl
set_option maxRecDepth 100000 in
theorem gg208_806 : hm_at 208 806 = some (807, 1, 0, 3, []) := hm_atQ ttL rfl
set_option maxRecDepth 100000 in
theorem gg208_807 : hm_at 208 807 = some (808, 0, 0, 2, []) := hm_atQ ttL rfl
set_option maxRecDepth 100000 in
theorem gg208_808 : hm_at 208 808 = some (809, 4, 0, 0, []) := hm_atQ ttL rfl
set_option maxRecDepth 100000 in
theorem gg208_809 : hm_at 208 809 = some (810, 20, 0, 0, []) := hm_atQ ttL rfl
set_option maxRecDepth 100000 in
theorem gg208_810 : hm_at 208 810 = some (813, 27, 0, 183, []) := hm_atQ ttL rfl
set_option maxRecDepth 100000 in
theorem gg208_813 : hm_at 208 813 = some (816, 15, 1260, 0, []) := hm_atQ ttL rfl
set_option maxRecDepth 100000 in
theorem gg208_816 : hm_at 208 816 = some (817, 0, 0, 0, []) := hm_atQ ttL rfl
set_option maxRecDepth 100000 in
theorem gg208_817 : hm_at 208 817 = some (818, 29, 0, 1, []) := hm_atQ ttL rfl
set_option maxRecDepth 100000 in
theorem gg208_818 : hm_at 208 818 = some (819, 1, 1, 1, []) := hm_atQ ttL rfl
set_option maxRecDepth 100000 in
theorem gg208_819 : hm_at 208 819 = some (820, 1, 1, 0, []) := hm_atQ ttL rfl
set_option maxRecDepth 100000 in
theorem gg208_820 : hm_at 208 820 = some (821, 1, 0, 3, []) := hm_atQ ttL rfl
set_option maxRecDepth 100000 in
theorem gg208_821 : hm_at 208 821 = some (822, 0, 0, 1, []) := hm_atQ ttL rfl
set_option maxRecDepth 100000 in
theorem gg208_822 : hm_at 208 822 = some (823, 4, 0, 0, []) := hm_atQ ttL rfl
set_option maxRecDepth 100000 in
theorem gg208_823 : hm_at 208 823 = some (824, 20, 0, 0, []) := hm_atQ ttL rfl
set_option maxRecDepth 100000 in
theorem gg208_824 : hm_at 208 824 = some (825, 1, 1, 0, []) := hm_atQ ttL rfl
set_option maxRecDepth 100000 in
theorem gg208_825 : hm_at 208 825 = some (826, 1, 0, 3, []) := hm_atQ ttL rfl
set_option maxRecDepth 100000 in
theorem gg208_826 : hm_at 208 826 = some (827, 0, 0, 2, []) := hm_atQ ttL rfl
set_option maxRecDepth 100000 in
theorem gg208_827 : hm_at 208 827 = some (828, 4, 0, 0, []) := hm_atQ ttL rfl
set_option maxRecDepth 100000 in
theorem gg208_828 : hm_at 208 828 = some (829, 20, 0, 0, []) := hm_atQ ttL rfl
set_option maxRecDepth 100000 in
theorem gg208_829 : hm_at 208 829 = some (832, 27, 0, 106, []) := hm_atQ ttL rfl
set_option maxRecDepth 100000 in
theorem gg208_832 : hm_at 208 832 = some (833, 1, 1, 2, []) := hm_atQ ttL rfl
set_option maxRecDepth 100000 in
theorem gg208_833 : hm_at 208 833 = some (834, 1, 1, 0, []) := hm_atQ ttL rfl
set_option maxRecDepth 100000 in
theorem gg208_834 : hm_at 208 834 = some (835, 1, 0, 3, []) := hm_atQ ttL rfl
set_option maxRecDepth 100000 in
theorem gg208_835 : hm_at 208 835 = some (836, 0, 0, 1, []) := hm_atQ ttL rfl
set_option maxRecDepth 100000 in
theorem gg208_836 : hm_at 208 836 = some (837, 4, 0, 0, []) := hm_atQ ttL rfl
set_option maxRecDepth 100000 in
theorem gg208_837 : hm_at 208 837 = some (838, 20, 0, 0, []) := hm_atQ ttL rfl
set_option maxRecDepth 100000 in
theorem gg208_838 : hm_at 208 838 = some (839, 1, 1, 0, []) := hm_atQ ttL rfl
set_option maxRecDepth 100000 in
theorem gg208_839 : hm_at 208 839 = some (840, 1, 0, 3, []) := hm_atQ ttL rfl
set_option maxRecDepth 100000 in
theorem gg208_840 : hm_at 208 840 = some (841, 0, 0, 2, []) := hm_atQ ttL rfl
set_option maxRecDepth 100000 in
theorem gg208_841 : hm_at 208 841 = some (842, 4, 0, 0, []) := hm_atQ ttL rfl
set_option maxRecDepth 100000 in
theorem gg208_842 : hm_at 208 842 = some (843, 20, 0, 0, []) := hm_atQ ttL rfl
set_option maxRecDepth 100000 in
theorem gg208_843 : hm_at 208 843 = some (846, 27, 0, 184, []) := hm_atQ ttL rfl
set_option maxRecDepth 100000 in
theorem gg208_846 : hm_at 208 846 = some (849, 15, 1260, 0, []) := hm_atQ ttL rfl
set_option maxRecDepth 100000 in
theorem gg208_849 : hm_at 208 849 = some (850, 0, 0, 0, []) := hm_atQ ttL rfl
set_option maxRecDepth 100000 in
theorem gg208_850 : hm_at 208 850 = some (851, 29, 0, 1, []) := hm_atQ ttL rfl
set_option maxRecDepth 100000 in
theorem gg208_851 : hm_at 208 851 = some (852, 1, 1, 1, []) := hm_atQ ttL rfl
set_option maxRecDepth 100000 in
theorem gg208_852 : hm_at 208 852 = some (853, 1, 1, 0, []) := hm_atQ ttL rfl
set_option maxRecDepth 100000 in
theorem gg208_853 : hm_at 208 853 = some (854, 1, 0, 3, []) := hm_atQ ttL rfl
set_option maxRecDepth 100000 in
theorem gg208_854 : hm_at 208 854 = some (855, 0, 0, 1, []) := hm_atQ ttL rfl
set_option maxRecDepth 100000 in
theorem gg208_855 : hm_at 208 855 = some (856, 4, 0, 0, []) := hm_atQ ttL rfl
set_option maxRecDepth 100000 in
theorem gg208_856 : hm_at 208 856 = some (857, 20, 0, 0, []) := hm_atQ ttL rfl
set_option maxRecDepth 100000 in
theorem gg208_857 : hm_at 208 857 = some (860, 27, 0, 107, []) := hm_atQ ttL rfl
set_option maxRecDepth 100000 in
theorem gg208_860 : hm_at 208 860 = some (861, 1, 1, 2, []) := hm_atQ ttL rfl
set_option maxRecDepth 100000 in
theorem gg208_861 : hm_at 208 861 = some (862, 1, 1, 0, []) := hm_atQ ttL rfl
set_option maxRecDepth 100000 in
theorem gg208_862 : hm_at 208 862 = some (863, 1, 0, 3, []) := hm_atQ ttL rfl
set_option maxRecDepth 100000 in
theorem gg208_863 : hm_at 208 863 = some (864, 0, 0, 1, []) := hm_atQ ttL rfl
set_option maxRecDepth 100000 in
theorem gg208_864 : hm_at 208 864 = some (865, 4, 0, 0, []) := hm_atQ ttL rfl
set_option maxRecDepth 100000 in
theorem gg208_865 : hm_at 208 865 = some (866, 20, 0, 0, []) := hm_atQ ttL rfl
set_option maxRecDepth 100000 in
theorem gg208_866 : hm_at 208 866 = some (869, 27, 0, 185, []) := hm_atQ ttL rfl
set_option maxRecDepth 100000 in
theorem gg208_869 : hm_at 208 869 = some (872, 15, 1260, 0, []) := hm_atQ ttL rfl
set_option maxRecDepth 100000 in
theorem gg208_872 : hm_at 208 872 = some (873, 0, 0, 0, []) := hm_atQ ttL rfl
set_option maxRecDepth 100000 in
theorem gg208_873 : hm_at 208 873 = some (874, 29, 0, 1, []) := hm_atQ ttL rfl
set_option maxRecDepth 100000 in
theorem gg208_874 : hm_at 208 874 = some (875, 1, 1, 1, []) := hm_atQ ttL rfl
set_option maxRecDepth 100000 in
theorem gg208_875 : hm_at 208 875 = some (876, 1, 1, 0, []) := hm_atQ ttL rfl
set_option maxRecDepth 100000 in
theorem gg208_876 : hm_at 208 876 = some (877, 1, 0, 3, []) := hm_atQ ttL rfl
set_option maxRecDepth 100000 in
theorem gg208_877 : hm_at 208 877 = some (878, 0, 0, 1, []) := hm_atQ ttL rfl
set_option maxRecDepth 100000 in
theorem gg208_878 : hm_at 208 878 = some (879, 4, 0, 0, []) := hm_atQ ttL rfl
set_option maxRecDepth 100000 in
theorem gg208_879 : hm_at 208 879 = some (880, 20, 0, 0, []) := hm_atQ ttL rfl
set_option maxRecDepth 100000 in
theorem gg208_880 : hm_at 208 880 = some (881, 1, 1, 0, []) := hm_atQ ttL rfl
set_option maxRecDepth 100000 in
theorem gg208_881 : hm_at 208 881 = some (882, 1, 0, 3, []) := hm_atQ ttL rfl
set_option maxRecDepth 100000 in
theorem gg208_882 : hm_at 208 882 = some (883, 0, 0, 2, []) := hm_atQ ttL rfl
set_option maxRecDepth 100000 in
theorem gg208_883 : hm_at 208 883 = some (884, 4, 0, 0, []) := hm_atQ ttL rfl
set_option maxRecDepth 100000 in
theorem gg208_884 : hm_at 208 884 = some (885, 20, 0, 0, []) := hm_atQ ttL rfl
set_option maxRecDepth 100000 in
theorem gg208_885 : hm_at 208 885 = some (888, 27, 0, 108, []) := hm_atQ ttL rfl
set_option maxRecDepth 100000 in
theorem gg208_888 : hm_at 208 888 = some (889, 1, 1, 2, []) := hm_atQ ttL rfl
set_option maxRecDepth 100000 in
theorem gg208_889 : hm_at 208 889 = some (890, 1, 1, 0, []) := hm_atQ ttL rfl
set_option maxRecDepth 100000 in
theorem gg208_890 : hm_at 208 890 = some (891, 1, 0, 3, []) := hm_atQ ttL rfl
set_option maxRecDepth 100000 in
theorem gg208_891 : hm_at 208 891 = some (892, 0, 0, 1, []) := hm_atQ ttL rfl
set_option maxRecDepth 100000 in
theorem gg208_892 : hm_at 208 892 = some (893, 4, 0, 0, []) := hm_atQ ttL rfl
set_option maxRecDepth 100000 in
theorem gg208_893 : hm_at 208 893 = some (894, 20, 0, 0, []) := hm_atQ ttL rfl
set_option maxRecDepth 100000 in
theorem gg208_894 : hm_at 208 894 = some (895, 1, 1, 0, []) := hm_atQ ttL rfl
set_option maxRecDepth 100000 in
theorem gg208_895 : hm_at 208 895 = some (896, 1, 0, 3, []) := hm_atQ ttL rfl
set_option maxRecDepth 100000 in
theorem gg208_896 : hm_at 208 896 = some (897, 0, 0, 2, []) := hm_atQ ttL rfl
set_option maxRecDepth 100000 in
theorem gg208_897 : hm_at 208 897 = some (898, 4, 0, 0, []) := hm_atQ ttL rfl
set_option maxRecDepth 100000 in
theorem gg208_898 : hm_at 208 898 = some (899, 20, 0, 0, []) := hm_atQ ttL rfl
set_option maxRecDepth 100000 in
theorem gg208_899 : hm_at 208 899 = some (902, 27, 0, 187, []) := hm_atQ ttL rfl
set_option maxRecDepth 100000 in
theorem gg208_902 : hm_at 208 902 = some (905, 15, 1260, 0, []) := hm_atQ ttL rfl
set_option maxRecDepth 100000 in
theorem gg208_905 : hm_at 208 905 = some (906, 0, 0, 0, []) := hm_atQ ttL rfl
set_option maxRecDepth 100000 in
theorem gg208_906 : hm_at 208 906 = some (907, 29, 0, 1, []) := hm_atQ ttL rfl
set_option maxRecDepth 100000 in
theorem gg208_907 : hm_at 208 907 = some (908, 1, 1, 1, []) := hm_atQ ttL rfl
set_option maxRecDepth 100000 in
theorem gg208_908 : hm_at 208 908 = some (909, 1, 1, 0, []) := hm_atQ ttL rfl
set_option maxRecDepth 100000 in
theorem gg208_909 : hm_at 208 909 = some (910, 1, 0, 3, []) := hm_atQ ttL rfl
set_option maxRecDepth 100000 in
theorem gg208_910 : hm_at 208 910 = some (911, 0, 0, 1, []) := hm_atQ ttL rfl
set_option maxRecDepth 100000 in
theorem gg208_911 : hm_at 208 911 = some (912, 4, 0, 0, []) := hm_atQ ttL rfl
set_option maxRecDepth 100000 in
theorem gg208_912 : hm_at 208 912 = some (913, 20, 0, 0, []) := hm_atQ ttL rfl
set_option maxRecDepth 100000 in
theorem gg208_913 : hm_at 208 913 = some (914, 1, 1, 0, []) := hm_atQ ttL rfl
set_option maxRecDepth 100000 in
theorem gg208_914 : hm_at 208 914 = some (915, 1, 0, 3, []) := hm_atQ ttL rfl
set_option maxRecDepth 100000 in
theorem gg208_915 : hm_at 208 915 = some (916, 0, 0, 2, []) := hm_atQ ttL rfl
set_option maxRecDepth 100000 in
theorem gg208_916 : hm_at 208 916 = some (917, 4, 0, 0, []) := hm_atQ ttL rfl
set_option maxRecDepth 100000 in
theorem gg208_917 : hm_at 208 917 = some (918, 20, 0, 0, []) := hm_atQ ttL rfl
set_option maxRecDepth 100000 in
theorem gg208_918 : hm_at 208 918 = some (919, 1, 1, 0, []) := hm_atQ ttL rfl
set_option maxRecDepth 100000 in
theorem gg208_919 : hm_at 208 919 = some (920, 1, 0, 3, []) := hm_atQ ttL rfl
set_option maxRecDepth 100000 in
theorem gg208_920 : hm_at 208 920 = some (921, 0, 0, 3, []) := hm_atQ ttL rfl
set_option maxRecDepth 100000 in
theorem gg208_921 : hm_at 208 921 = some (922, 4, 0, 0, []) := hm_atQ ttL rfl
set_option maxRecDepth 100000 in
theorem gg208_922 : hm_at 208 922 = some (923, 20, 0, 0, []) := hm_atQ ttL rfl
set_option maxRecDepth 100000 in
theorem gg208_923 : hm_at 208 923 = some (924, 1, 1, 0, []) := hm_atQ ttL rfl
set_option maxRecDepth 100000 in
theorem gg208_924 : hm_at 208 924 = some (925, 1, 0, 3, []) := hm_atQ ttL rfl
set_option maxRecDepth 100000 in
theorem gg208_925 : hm_at 208 925 = some (926, 0, 0, 4, []) := hm_atQ ttL rfl
set_option maxRecDepth 100000 in
theorem gg208_926 : hm_at 208 926 = some (927, 4, 0, 0, []) := hm_atQ ttL rfl
set_option maxRecDepth 100000 in
theorem gg208_927 : hm_at 208 927 = some (928, 20, 0, 0, []) := hm_atQ ttL rfl
set_option maxRecDepth 100000 in
theorem gg208_928 : hm_at 208 928 = some (929, 1, 1, 0, []) := hm_atQ ttL rfl
set_option maxRecDepth 100000 in
theorem gg208_929 : hm_at 208 929 = some (930, 1, 0, 3, []) := hm_atQ ttL rfl
set_option maxRecDepth 100000 in
theorem gg208_930 : hm_at 208 930 = some (931, 0, 0, 5, []) := hm_atQ ttL rfl
set_option maxRecDepth 100000 in
theorem gg208_931 : hm_at 208 931 = some (932, 4, 0, 0, []) := hm_atQ ttL rfl
set_option maxRecDepth 100000 in
theorem gg208_932 : hm_at 208 932 = some (933, 20, 0, 0, []) := hm_atQ ttL rfl
set_option maxRecDepth 100000 in
theorem gg208_933 : hm_at 208 933 = some (936, 27, 0, 109, []) := hm_atQ ttL rfl
set_option maxRecDepth 100000 in
theorem gg208_936 : hm_at 208 936 = some (937, 1, 1, 2, []) := hm_atQ ttL rfl
set_option maxRecDepth 100000 in
theorem gg208_937 : hm_at 208 937 = some (938, 1, 1, 0, []) := hm_atQ ttL rfl
set_option maxRecDepth 100000 in
theorem gg208_938 : hm_at 208 938 = some (939, 1, 0, 3, []) := hm_atQ ttL rfl
set_option maxRecDepth 100000 in
theorem gg208_939 : hm_at 208 939 = some (940, 0, 0, 1, []) := hm_atQ ttL rfl
set_option maxRecDepth 100000 in
theorem gg208_940 : hm_at 208 940 = some (941, 4, 0, 0, []) := hm_atQ ttL rfl
set_option maxRecDepth 100000 in
theorem gg208_941 : hm_at 208 941 = some (942, 20, 0, 0, []) := hm_atQ ttL rfl
set_option maxRecDepth 100000 in
theorem gg208_942 : hm_at 208 942 = some (943, 1, 1, 0, []) := hm_atQ ttL rfl
set_option maxRecDepth 100000 in
theorem gg208_943 : hm_at 208 943 = some (944, 1, 0, 3, []) := hm_atQ ttL rfl
set_option maxRecDepth 100000 in
theorem gg208_944 : hm_at 208 944 = some (945, 0, 0, 2, []) := hm_atQ ttL rfl
set_option maxRecDepth 100000 in
theorem gg208_945 : hm_at 208 945 = some (946, 4, 0, 0, []) := hm_atQ ttL rfl
set_option maxRecDepth 100000 in
theorem gg208_946 : hm_at 208 946 = some (947, 20, 0, 0, []) := hm_atQ ttL rfl
set_option maxRecDepth 100000 in
theorem gg208_947 : hm_at 208 947 = some (948, 1, 1, 0, []) := hm_atQ ttL rfl
set_option maxRecDepth 100000 in
theorem gg208_948 : hm_at 208 948 = some (949, 1, 0, 3, []) := hm_atQ ttL rfl
set_option maxRecDepth 100000 in
theorem gg208_949 : hm_at 208 949 = some (950, 0, 0, 3, []) := hm_atQ ttL rfl
set_option maxRecDepth 100000 in
theorem gg208_950 : hm_at 208 950 = some (951, 4, 0, 0, []) := hm_atQ ttL rfl
set_option maxRecDepth 100000 in
theorem gg208_951 : hm_at 208 951 = some (952, 20, 0, 0, []) := hm_atQ ttL rfl
set_option maxRecDepth 100000 in
theorem gg208_952 : hm_at 208 952 = some (953, 1, 1, 0, []) := hm_atQ ttL rfl
set_option maxRecDepth 100000 in
theorem gg208_953 : hm_at 208 953 = some (954, 1, 0, 3, []) := hm_atQ ttL rfl
set_option maxRecDepth 100000 in
theorem gg208_954 : hm_at 208 954 = some (955, 0, 0, 4, []) := hm_atQ ttL rfl
set_option maxRecDepth 100000 in
theorem gg208_955 : hm_at 208 955 = some (956, 4, 0, 0, []) := hm_atQ ttL rfl
set_option maxRecDepth 100000 in
theorem gg208_956 : hm_at 208 956 = some (957, 20, 0, 0, []) := hm_atQ ttL rfl
set_option maxRecDepth 100000 in
theorem gg208_957 : hm_at 208 957 = some (958, 1, 1, 0, []) := hm_atQ ttL rfl
set_option maxRecDepth 100000 in
theorem gg208_958 : hm_at 208 958 = some (959, 1, 0, 3, []) := hm_atQ ttL rfl
set_option maxRecDepth 100000 in
theorem gg208_959 : hm_at 208 959 = some (960, 0, 0, 5, []) := hm_atQ ttL rfl
set_option maxRecDepth 100000 in
theorem gg208_960 : hm_at 208 960 = some (961, 4, 0, 0, []) := hm_atQ ttL rfl
set_option maxRecDepth 100000 in
theorem gg208_961 : hm_at 208 961 = some (962, 20, 0, 0, []) := hm_atQ ttL rfl
set_option maxRecDepth 100000 in
theorem gg208_962 : hm_at 208 962 = some (965, 27, 0, 189, []) := hm_atQ ttL rfl
set_option maxRecDepth 100000 in
theorem gg208_965 : hm_at 208 965 = some (968, 15, 1260, 0, []) := hm_atQ ttL rfl
set_option maxRecDepth 100000 in
theorem gg208_968 : hm_at 208 968 = some (969, 0, 0, 0, []) := hm_atQ ttL rfl
set_option maxRecDepth 100000 in
theorem gg208_969 : hm_at 208 969 = some (970, 29, 0, 1, []) := hm_atQ ttL rfl
set_option maxRecDepth 100000 in
theorem gg208_970 : hm_at 208 970 = some (971, 1, 1, 1, []) := hm_atQ ttL rfl
set_option maxRecDepth 100000 in
theorem gg208_971 : hm_at 208 971 = some (972, 1, 1, 0, []) := hm_atQ ttL rfl
set_option maxRecDepth 100000 in
theorem gg208_972 : hm_at 208 972 = some (973, 1, 0, 3, []) := hm_atQ ttL rfl
set_option maxRecDepth 100000 in
theorem gg208_973 : hm_at 208 973 = some (974, 0, 0, 1, []) := hm_atQ ttL rfl
set_option maxRecDepth 100000 in
theorem gg208_974 : hm_at 208 974 = some (975, 4, 0, 0, []) := hm_atQ ttL rfl
set_option maxRecDepth 100000 in
theorem gg208_975 : hm_at 208 975 = some (976, 20, 0, 0, []) := hm_atQ ttL rfl
set_option maxRecDepth 100000 in
theorem gg208_976 : hm_at 208 976 = some (977, 1, 1, 0, []) := hm_atQ ttL rfl
set_option maxRecDepth 100000 in
theorem gg208_977 : hm_at 208 977 = some (978, 1, 0, 3, []) := hm_atQ ttL rfl
set_option maxRecDepth 100000 in
theorem gg208_978 : hm_at 208 978 = some (979, 0, 0, 2, []) := hm_atQ ttL rfl
set_option maxRecDepth 100000 in
theorem gg208_979 : hm_at 208 979 = some (980, 4, 0, 0, []) := hm_atQ ttL rfl
set_option maxRecDepth 100000 in
theorem gg208_980 : hm_at 208 980 = some (981, 20, 0, 0, []) := hm_atQ ttL rfl
set_option maxRecDepth 100000 in
theorem gg208_981 : hm_at 208 981 = some (982, 1, 1, 0, []) := hm_atQ ttL rfl
set_option maxRecDepth 100000 in
theorem gg208_982 : hm_at 208 982 = some (983, 1, 0, 3, []) := hm_atQ ttL rfl
set_option maxRecDepth 100000 in
theorem gg208_983 : hm_at 208 983 = some (984, 0, 0, 3, []) := hm_atQ ttL rfl
set_option maxRecDepth 100000 in
theorem gg208_984 : hm_at 208 984 = some (985, 4, 0, 0, []) := hm_atQ ttL rfl
set_option maxRecDepth 100000 in
theorem gg208_985 : hm_at 208 985 = some (986, 20, 0, 0, []) := hm_atQ ttL rfl
set_option maxRecDepth 100000 in
theorem gg208_986 : hm_at 208 986 = some (987, 1, 1, 0, []) := hm_atQ ttL rfl
set_option maxRecDepth 100000 in
theorem gg208_987 : hm_at 208 987 = some (988, 1, 0, 3, []) := hm_atQ ttL rfl
set_option maxRecDepth 100000 in
theorem gg208_988 : hm_at 208 988 = some (989, 0, 0, 4, []) := hm_atQ ttL rfl
set_option maxRecDepth 100000 in
theorem gg208_989 : hm_at 208 989 = some (990, 4, 0, 0, []) := hm_atQ ttL rfl
set_option maxRecDepth 100000 in
theorem gg208_990 : hm_at 208 990 = some (991, 20, 0, 0, []) := hm_atQ ttL rfl
set_option maxRecDepth 100000 in
theorem gg208_991 : hm_at 208 991 = some (994, 27, 0, 110, []) := hm_atQ ttL rfl
set_option maxRecDepth 100000 in
theorem gg208_994 : hm_at 208 994 = some (995, 1, 1, 2, []) := hm_atQ ttL rfl
set_option maxRecDepth 100000 in
theorem gg208_995 : hm_at 208 995 = some (996, 1, 1, 0, []) := hm_atQ ttL rfl
set_option maxRecDepth 100000 in
theorem gg208_996 : hm_at 208 996 = some (997, 1, 0, 3, []) := hm_atQ ttL rfl
set_option maxRecDepth 100000 in
theorem gg208_997 : hm_at 208 997 = some (998, 0, 0, 1, []) := hm_atQ ttL rfl
set_option maxRecDepth 100000 in
theorem gg208_998 : hm_at 208 998 = some (999, 4, 0, 0, []) := hm_atQ ttL rfl
set_option maxRecDepth 100000 in
theorem gg208_999 : hm_at 208 999 = some (1000, 20, 0, 0, []) := hm_atQ ttL rfl
set_option maxRecDepth 100000 in
theorem gg208_1000 : hm_at 208 1000 = some (1001, 1, 1, 0, []) := hm_atQ ttL rfl
set_option maxRecDepth 100000 in
theorem gg208_1001 : hm_at 208 1001 = some (1002, 1, 0, 3, []) := hm_atQ ttL rfl
set_option maxRecDepth 100000 in
theorem gg208_1002 : hm_at 208 1002 = some (1003, 0, 0, 2, []) := hm_atQ ttL rfl
set_option maxRecDepth 100000 in
theorem gg208_1003 : hm_at 208 1003 = some (1004, 4, 0, 0, []) := hm_atQ ttL rfl
set_option maxRecDepth 100000 in
theorem gg208_1004 : hm_at 208 1004 = some (1005, 20, 0, 0, []) := hm_atQ ttL rfl
set_option maxRecDepth 100000 in
theorem gg208_1005 : hm_at 208 1005 = some (1006, 1, 1, 0, []) := hm_atQ ttL rfl
set_option maxRecDepth 100000 in
theorem gg208_1006 : hm_at 208 1006 = some (1007, 1, 0, 3, []) := hm_atQ ttL rfl
set_option maxRecDepth 100000 in
theorem gg208_1007 : hm_at 208 1007 = some (1008, 0, 0, 3, []) := hm_atQ ttL rfl
set_option maxRecDepth 100000 in
theorem gg208_1008 : hm_at 208 1008 = some (1009, 4, 0, 0, []) := hm_atQ ttL rfl
set_option maxRecDepth 100000 in
theorem gg208_1009 : hm_at 208 1009 = some (1010, 20, 0, 0, []) := hm_atQ ttL rfl
set_option maxRecDepth 100000 in
theorem gg208_1010 : hm_at 208 1010 = some (1011, 1, 1, 0, []) := hm_atQ ttL rfl
set_option maxRecDepth 100000 in
theorem gg208_1011 : hm_at 208 1011 = some (1012, 1, 0, 3, []) := hm_atQ ttL rfl
set_option maxRecDepth 100000 in
theorem gg208_1012 : hm_at 208 1012 = some (1013, 0, 0, 4, []) := hm_atQ ttL rfl
set_option maxRecDepth 100000 in
theorem gg208_1013 : hm_at 208 1013 = some (1014, 4, 0, 0, []) := hm_atQ ttL rfl
set_option maxRecDepth 100000 in
theorem gg208_1014 : hm_at 208 1014 = some (1015, 20, 0, 0, []) := hm_atQ ttL rfl
set_option maxRecDepth 100000 in
theorem gg208_1015 : hm_at 208 1015 = some (1018, 27, 0, 190, []) := hm_atQ ttL rfl
set_option maxRecDepth 100000 in
theorem gg208_1018 : hm_at 208 1018 = some (1021, 15, 1260, 0, []) := hm_atQ ttL rfl
set_option maxRecDepth 100000 in
theorem gg208_1021 : hm_at 208 1021 = some (1022, 0, 0, 0, []) := hm_atQ ttL rfl
set_option maxRecDepth 100000 in
theorem gg208_1022 : hm_at 208 1022 = some (1023, 29, 0, 1, []) := hm_atQ ttL rfl
set_option maxRecDepth 100000 in
theorem gg208_1023 : hm_at 208 1023 = some (1024, 1, 1, 1, []) := hm_atQ ttL rfl
set_option maxRecDepth 100000 in
theorem gg208_1024 : hm_at 208 1024 = some (1025, 1, 1, 0, []) := hm_atQ ttL rfl
set_option maxRecDepth 100000 in
theorem gg208_1025 : hm_at 208 1025 = some (1026, 1, 0, 3, []) := hm_atQ ttL rfl
set_option maxRecDepth 100000 in
theorem gg208_1026 : hm_at 208 1026 = some (1027, 0, 0, 1, []) := hm_atQ ttL rfl
set_option maxRecDepth 100000 in
theorem gg208_1027 : hm_at 208 1027 = some (1028, 4, 0, 0, []) := hm_atQ ttL rfl
set_option maxRecDepth 100000 in
theorem gg208_1028 : hm_at 208 1028 = some (1029, 20, 0, 0, []) := hm_atQ ttL rfl
set_option maxRecDepth 100000 in
theorem gg208_1029 : hm_at 208 1029 = some (1030, 1, 1, 0, []) := hm_atQ ttL rfl
set_option maxRecDepth 100000 in
theorem gg208_1030 : hm_at 208 1030 = some (1031, 1, 0, 3, []) := hm_atQ ttL rfl
set_option maxRecDepth 100000 in
theorem gg208_1031 : hm_at 208 1031 = some (1032, 0, 0, 2, []) := hm_atQ ttL rfl
set_option maxRecDepth 100000 in
theorem gg208_1032 : hm_at 208 1032 = some (1033, 4, 0, 0, []) := hm_atQ ttL rfl
set_option maxRecDepth 100000 in
theorem gg208_1033 : hm_at 208 1033 = some (1034, 20, 0, 0, []) := hm_atQ ttL rfl
set_option maxRecDepth 100000 in
theorem gg208_1034 : hm_at 208 1034 = some (1035, 1, 1, 0, []) := hm_atQ ttL rfl
set_option maxRecDepth 100000 in
theorem gg208_1035 : hm_at 208 1035 = some (1036, 1, 0, 3, []) := hm_atQ ttL rfl
set_option maxRecDepth 100000 in
theorem gg208_1036 : hm_at 208 1036 = some (1037, 0, 0, 3, []) := hm_atQ ttL rfl
set_option maxRecDepth 100000 in
theorem gg208_1037 : hm_at 208 1037 = some (1038, 4, 0, 0, []) := hm_atQ ttL rfl
set_option maxRecDepth 100000 in
theorem gg208_1038 : hm_at 208 1038 = some (1039, 20, 0, 0, []) := hm_atQ ttL rfl
set_option maxRecDepth 100000 in
theorem gg208_1039 : hm_at 208 1039 = some (1042, 27, 0, 111, []) := hm_atQ ttL rfl
set_option maxRecDepth 100000 in
theorem gg208_1042 : hm_at 208 1042 = some (1043, 1, 1, 2, []) := hm_atQ ttL rfl
set_option maxRecDepth 100000 in
theorem gg208_1043 : hm_at 208 1043 = some (1044, 1, 1, 0, []) := hm_atQ ttL rfl
set_option maxRecDepth 100000 in
theorem gg208_1044 : hm_at 208 1044 = some (1045, 1, 0, 3, []) := hm_atQ ttL rfl
set_option maxRecDepth 100000 in
theorem gg208_1045 : hm_at 208 1045 = some (1046, 0, 0, 1, []) := hm_atQ ttL rfl
set_option maxRecDepth 100000 in
theorem gg208_1046 : hm_at 208 1046 = some (1047, 4, 0, 0, []) := hm_atQ ttL rfl
set_option maxRecDepth 100000 in
theorem gg208_1047 : hm_at 208 1047 = some (1048, 20, 0, 0, []) := hm_atQ ttL rfl
set_option maxRecDepth 100000 in
theorem gg208_1048 : hm_at 208 1048 = some (1049, 1, 1, 0, []) := hm_atQ ttL rfl
set_option maxRecDepth 100000 in
theorem gg208_1049 : hm_at 208 1049 = some (1050, 1, 0, 3, []) := hm_atQ ttL rfl
set_option maxRecDepth 100000 in
theorem gg208_1050 : hm_at 208 1050 = some (1051, 0, 0, 2, []) := hm_atQ ttL rfl
set_option maxRecDepth 100000 in
theorem gg208_1051 : hm_at 208 1051 = some (1052, 4, 0, 0, []) := hm_atQ ttL rfl
set_option maxRecDepth 100000 in
theorem gg208_1052 : hm_at 208 1052 = some (1053, 20, 0, 0, []) := hm_atQ ttL rfl
set_option maxRecDepth 100000 in
theorem gg208_1053 : hm_at 208 1053 = some (1054, 1, 1, 0, []) := hm_atQ ttL rfl
set_option maxRecDepth 100000 in
theorem gg208_1054 : hm_at 208 1054 = some (1055, 1, 0, 3, []) := hm_atQ ttL rfl
set_option maxRecDepth 100000 in
theorem gg208_1055 : hm_at 208 1055 = some (1056, 0, 0, 3, []) := hm_atQ ttL rfl
set_option maxRecDepth 100000 in
theorem gg208_1056 : hm_at 208 1056 = some (1057, 4, 0, 0, []) := hm_atQ ttL rfl
set_option maxRecDepth 100000 in
theorem gg208_1057 : hm_at 208 1057 = some (1058, 20, 0, 0, []) := hm_atQ ttL rfl
set_option maxRecDepth 100000 in
theorem gg208_1058 : hm_at 208 1058 = some (1061, 27, 0, 191, []) := hm_atQ ttL rfl
set_option maxRecDepth 100000 in
theorem gg208_1061 : hm_at 208 1061 = some (1064, 15, 1260, 0, []) := hm_atQ ttL rfl
set_option maxRecDepth 100000 in
theorem gg208_1064 : hm_at 208 1064 = some (1065, 0, 0, 0, []) := hm_atQ ttL rfl
set_option maxRecDepth 100000 in
theorem gg208_1065 : hm_at 208 1065 = some (1066, 29, 0, 1, []) := hm_atQ ttL rfl
set_option maxRecDepth 100000 in
theorem gg208_1066 : hm_at 208 1066 = some (1067, 1, 1, 1, []) := hm_atQ ttL rfl
set_option maxRecDepth 100000 in
theorem gg208_1067 : hm_at 208 1067 = some (1068, 1, 1, 0, []) := hm_atQ ttL rfl
set_option maxRecDepth 100000 in
theorem gg208_1068 : hm_at 208 1068 = some (1069, 1, 0, 3, []) := hm_atQ ttL rfl
set_option maxRecDepth 100000 in
theorem gg208_1069 : hm_at 208 1069 = some (1070, 0, 0, 1, []) := hm_atQ ttL rfl
set_option maxRecDepth 100000 in
theorem gg208_1070 : hm_at 208 1070 = some (1071, 4, 0, 0, []) := hm_atQ ttL rfl
set_option maxRecDepth 100000 in
theorem gg208_1071 : hm_at 208 1071 = some (1072, 20, 0, 0, []) := hm_atQ ttL rfl
set_option maxRecDepth 100000 in
theorem gg208_1072 : hm_at 208 1072 = some (1075, 27, 0, 112, []) := hm_atQ ttL rfl
set_option maxRecDepth 100000 in
theorem gg208_1075 : hm_at 208 1075 = some (1076, 1, 1, 2, []) := hm_atQ ttL rfl
set_option maxRecDepth 100000 in
theorem gg208_1076 : hm_at 208 1076 = some (1077, 1, 1, 0, []) := hm_atQ ttL rfl
set_option maxRecDepth 100000 in
theorem gg208_1077 : hm_at 208 1077 = some (1078, 1, 0, 3, []) := hm_atQ ttL rfl
set_option maxRecDepth 100000 in
theorem gg208_1078 : hm_at 208 1078 = some (1079, 0, 0, 1, []) := hm_atQ ttL rfl
set_option maxRecDepth 100000 in
theorem gg208_1079 : hm_at 208 1079 = some (1080, 4, 0, 0, []) := hm_atQ ttL rfl
set_option maxRecDepth 100000 in
theorem gg208_1080 : hm_at 208 1080 = some (1081, 20, 0, 0, []) := hm_atQ ttL rfl
set_option maxRecDepth 100000 in
theorem gg208_1081 : hm_at 208 1081 = some (1084, 27, 0, 192, []) := hm_atQ ttL rfl
set_option maxRecDepth 100000 in
theorem gg208_1084 : hm_at 208 1084 = some (1087, 15, 1260, 0, []) := hm_atQ ttL rfl
set_option maxRecDepth 100000 in
theorem gg208_1087 : hm_at 208 1087 = some (1088, 0, 0, 0, []) := hm_atQ ttL rfl
set_option maxRecDepth 100000 in
theorem gg208_1088 : hm_at 208 1088 = some (1089, 29, 0, 1, []) := hm_atQ ttL rfl
set_option maxRecDepth 100000 in
theorem gg208_1089 : hm_at 208 1089 = some (1090, 1, 1, 1, []) := hm_atQ ttL rfl
set_option maxRecDepth 100000 in
theorem gg208_1090 : hm_at 208 1090 = some (1091, 1, 1, 0, []) := hm_atQ ttL rfl
set_option maxRecDepth 100000 in
theorem gg208_1091 : hm_at 208 1091 = some (1092, 1, 0, 3, []) := hm_atQ ttL rfl
set_option maxRecDepth 100000 in
theorem gg208_1092 : hm_at 208 1092 = some (1093, 0, 0, 1, []) := hm_atQ ttL rfl
set_option maxRecDepth 100000 in
theorem gg208_1093 : hm_at 208 1093 = some (1094, 4, 0, 0, []) := hm_atQ ttL rfl
set_option maxRecDepth 100000 in
theorem gg208_1094 : hm_at 208 1094 = some (1095, 20, 0, 0, []) := hm_atQ ttL rfl
set_option maxRecDepth 100000 in
theorem gg208_1095 : hm_at 208 1095 = some (1098, 27, 0, 113, []) := hm_atQ ttL rfl
set_option maxRecDepth 100000 in
theorem gg208_1098 : hm_at 208 1098 = some (1099, 1, 1, 2, []) := hm_atQ ttL rfl
set_option maxRecDepth 100000 in
theorem gg208_1099 : hm_at 208 1099 = some (1100, 1, 1, 0, []) := hm_atQ ttL rfl
set_option maxRecDepth 100000 in
theorem gg208_1100 : hm_at 208 1100 = some (1101, 1, 0, 3, []) := hm_atQ ttL rfl
set_option maxRecDepth 100000 in
theorem gg208_1101 : hm_at 208 1101 = some (1102, 0, 0, 1, []) := hm_atQ ttL rfl
set_option maxRecDepth 100000 in
theorem gg208_1102 : hm_at 208 1102 = some (1103, 4, 0, 0, []) := hm_atQ ttL rfl
set_option maxRecDepth 100000 in
theorem gg208_1103 : hm_at 208 1103 = some (1104, 20, 0, 0, []) := hm_atQ ttL rfl
set_option maxRecDepth 100000 in
theorem gg208_1104 : hm_at 208 1104 = some (1107, 27, 0, 193, []) := hm_atQ ttL rfl
set_option maxRecDepth 100000 in
theorem gg208_1107 : hm_at 208 1107 = some (1110, 15, 1260, 0, []) := hm_atQ ttL rfl
set_option maxRecDepth 100000 in
theorem gg208_1110 : hm_at 208 1110 = some (1111, 0, 0, 0, []) := hm_atQ ttL rfl
set_option maxRecDepth 100000 in
theorem gg208_1111 : hm_at 208 1111 = some (1112, 29, 0, 1, []) := hm_atQ ttL rfl
set_option maxRecDepth 100000 in
theorem gg208_1112 : hm_at 208 1112 = some (1113, 1, 1, 1, []) := hm_atQ ttL rfl
set_option maxRecDepth 100000 in
theorem gg208_1113 : hm_at 208 1113 = some (1114, 1, 1, 0, []) := hm_atQ ttL rfl
set_option maxRecDepth 100000 in
theorem gg208_1114 : hm_at 208 1114 = some (1115, 1, 0, 3, []) := hm_atQ ttL rfl
set_option maxRecDepth 100000 in
theorem gg208_1115 : hm_at 208 1115 = some (1116, 0, 0, 1, []) := hm_atQ ttL rfl
set_option maxRecDepth 100000 in
theorem gg208_1116 : hm_at 208 1116 = some (1117, 4, 0, 0, []) := hm_atQ ttL rfl
set_option maxRecDepth 100000 in
theorem gg208_1117 : hm_at 208 1117 = some (1118, 20, 0, 0, []) := hm_atQ ttL rfl
set_option maxRecDepth 100000 in
theorem gg208_1118 : hm_at 208 1118 = some (1121, 27, 0, 114, []) := hm_atQ ttL rfl
set_option maxRecDepth 100000 in
theorem gg208_1121 : hm_at 208 1121 = some (1122, 1, 1, 2, []) := hm_atQ ttL rfl
set_option maxRecDepth 100000 in
theorem gg208_1122 : hm_at 208 1122 = some (1123, 1, 1, 0, []) := hm_atQ ttL rfl
set_option maxRecDepth 100000 in
theorem gg208_1123 : hm_at 208 1123 = some (1124, 1, 0, 3, []) := hm_atQ ttL rfl
set_option maxRecDepth 100000 in
theorem gg208_1124 : hm_at 208 1124 = some (1125, 0, 0, 1, []) := hm_atQ ttL rfl
set_option maxRecDepth 100000 in
theorem gg208_1125 : hm_at 208 1125 = some (1126, 4, 0, 0, []) := hm_atQ ttL rfl
set_option maxRecDepth 100000 in
theorem gg208_1126 : hm_at 208 1126 = some (1127, 20, 0, 0, []) := hm_atQ ttL rfl
set_option maxRecDepth 100000 in
theorem gg208_1127 : hm_at 208 1127 = some (1130, 27, 0, 195, []) := hm_atQ ttL rfl
set_option maxRecDepth 100000 in
theorem gg208_1130 : hm_at 208 1130 = some (1133, 15, 1260, 0, []) := hm_atQ ttL rfl
set_option maxRecDepth 100000 in
theorem gg208_1133 : hm_at 208 1133 = some (1134, 0, 0, 0, []) := hm_atQ ttL rfl
set_option maxRecDepth 100000 in
theorem gg208_1134 : hm_at 208 1134 = some (1135, 29, 0, 1, []) := hm_atQ ttL rfl
set_option maxRecDepth 100000 in
theorem gg208_1135 : hm_at 208 1135 = some (1136, 1, 1, 1, []) := hm_atQ ttL rfl
set_option maxRecDepth 100000 in
theorem gg208_1136 : hm_at 208 1136 = some (1137, 1, 1, 0, []) := hm_atQ ttL rfl
set_option maxRecDepth 100000 in
theorem gg208_1137 : hm_at 208 1137 = some (1138, 1, 0, 3, []) := hm_atQ ttL rfl
set_option maxRecDepth 100000 in
theorem gg208_1138 : hm_at 208 1138 = some (1139, 0, 0, 1, []) := hm_atQ ttL rfl
set_option maxRecDepth 100000 in
theorem gg208_1139 : hm_at 208 1139 = some (1140, 4, 0, 0, []) := hm_atQ ttL rfl
set_option maxRecDepth 100000 in
theorem gg208_1140 : hm_at 208 1140 = some (1141, 20, 0, 0, []) := hm_atQ ttL rfl
set_option maxRecDepth 100000 in
theorem gg208_1141 : hm_at 208 1141 = some (1142, 1, 1, 0, []) := hm_atQ ttL rfl
set_option maxRecDepth 100000 in
theorem gg208_1142 : hm_at 208 1142 = some (1143, 1, 0, 3, []) := hm_atQ ttL rfl
set_option maxRecDepth 100000 in
theorem gg208_1143 : hm_at 208 1143 = some (1144, 0, 0, 2, []) := hm_atQ ttL rfl
set_option maxRecDepth 100000 in
theorem gg208_1144 : hm_at 208 1144 = some (1145, 4, 0, 0, []) := hm_atQ ttL rfl
set_option maxRecDepth 100000 in
theorem gg208_1145 : hm_at 208 1145 = some (1146, 20, 0, 0, []) := hm_atQ ttL rfl
set_option maxRecDepth 100000 in
theorem gg208_1146 : hm_at 208 1146 = some (1149, 27, 0, 115, []) := hm_atQ ttL rfl
set_option maxRecDepth 100000 in
theorem gg208_1149 : hm_at 208 1149 = some (1150, 1, 1, 2, []) := hm_atQ ttL rfl
set_option maxRecDepth 100000 in
theorem gg208_1150 : hm_at 208 1150 = some (1151, 1, 1, 0, []) := hm_atQ ttL rfl
set_option maxRecDepth 100000 in
theorem gg208_1151 : hm_at 208 1151 = some (1152, 1, 0, 3, []) := hm_atQ ttL rfl
set_option maxRecDepth 100000 in
theorem gg208_1152 : hm_at 208 1152 = some (1153, 0, 0, 1, []) := hm_atQ ttL rfl
set_option maxRecDepth 100000 in
theorem gg208_1153 : hm_at 208 1153 = some (1154, 4, 0, 0, []) := hm_atQ ttL rfl
set_option maxRecDepth 100000 in
theorem gg208_1154 : hm_at 208 1154 = some (1155, 20, 0, 0, []) := hm_atQ ttL rfl
set_option maxRecDepth 100000 in
theorem gg208_1155 : hm_at 208 1155 = some (1156, 1, 1, 0, []) := hm_atQ ttL rfl
set_option maxRecDepth 100000 in
theorem gg208_1156 : hm_at 208 1156 = some (1157, 1, 0, 3, []) := hm_atQ ttL rfl
set_option maxRecDepth 100000 in
theorem gg208_1157 : hm_at 208 1157 = some (1158, 0, 0, 2, []) := hm_atQ ttL rfl
set_option maxRecDepth 100000 in
theorem gg208_1158 : hm_at 208 1158 = some (1159, 4, 0, 0, []) := hm_atQ ttL rfl
set_option maxRecDepth 100000 in
theorem gg208_1159 : hm_at 208 1159 = some (1160, 20, 0, 0, []) := hm_atQ ttL rfl
set_option maxRecDepth 100000 in
theorem gg208_1160 : hm_at 208 1160 = some (1163, 27, 0, 196, []) := hm_atQ ttL rfl
set_option maxRecDepth 100000 in
theorem gg208_1163 : hm_at 208 1163 = some (1166, 15, 1260, 0, []) := hm_atQ ttL rfl
set_option maxRecDepth 100000 in
theorem gg208_1166 : hm_at 208 1166 = some (1167, 0, 0, 0, []) := hm_atQ ttL rfl
set_option maxRecDepth 100000 in
theorem gg208_1167 : hm_at 208 1167 = some (1168, 29, 0, 1, []) := hm_atQ ttL rfl
set_option maxRecDepth 100000 in
theorem gg208_1168 : hm_at 208 1168 = some (1169, 1, 1, 1, []) := hm_atQ ttL rfl
set_option maxRecDepth 100000 in
theorem gg208_1169 : hm_at 208 1169 = some (1170, 1, 1, 0, []) := hm_atQ ttL rfl
set_option maxRecDepth 100000 in
theorem gg208_1170 : hm_at 208 1170 = some (1171, 1, 0, 3, []) := hm_atQ ttL rfl
set_option maxRecDepth 100000 in
theorem gg208_1171 : hm_at 208 1171 = some (1172, 0, 0, 1, []) := hm_atQ ttL rfl
set_option maxRecDepth 100000 in
theorem gg208_1172 : hm_at 208 1172 = some (1173, 4, 0, 0, []) := hm_atQ ttL rfl
set_option maxRecDepth 100000 in
theorem gg208_1173 : hm_at 208 1173 = some (1174, 20, 0, 0, []) := hm_atQ ttL rfl
set_option maxRecDepth 100000 in
theorem gg208_1174 : hm_at 208 1174 = some (1175, 1, 1, 0, []) := hm_atQ ttL rfl
set_option maxRecDepth 100000 in
theorem gg208_1175 : hm_at 208 1175 = some (1176, 1, 0, 3, []) := hm_atQ ttL rfl
set_option maxRecDepth 100000 in
theorem gg208_1176 : hm_at 208 1176 = some (1177, 0, 0, 2, []) := hm_atQ ttL rfl
set_option maxRecDepth 100000 in
theorem gg208_1177 : hm_at 208 1177 = some (1178, 4, 0, 0, []) := hm_atQ ttL rfl
set_option maxRecDepth 100000 in
theorem gg208_1178 : hm_at 208 1178 = some (1179, 20, 0, 0, []) := hm_atQ ttL rfl
set_option maxRecDepth 100000 in
theorem gg208_1179 : hm_at 208 1179 = some (1182, 27, 0, 116, []) := hm_atQ ttL rfl
set_option maxRecDepth 100000 in
theorem gg208_1182 : hm_at 208 1182 = some (1183, 1, 1, 2, []) := hm_atQ ttL rfl
set_option maxRecDepth 100000 in
theorem gg208_1183 : hm_at 208 1183 = some (1184, 1, 1, 0, []) := hm_atQ ttL rfl
set_option maxRecDepth 100000 in
theorem gg208_1184 : hm_at 208 1184 = some (1185, 1, 0, 3, []) := hm_atQ ttL rfl
set_option maxRecDepth 100000 in
theorem gg208_1185 : hm_at 208 1185 = some (1186, 0, 0, 1, []) := hm_atQ ttL rfl
set_option maxRecDepth 100000 in
theorem gg208_1186 : hm_at 208 1186 = some (1187, 4, 0, 0, []) := hm_atQ ttL rfl
set_option maxRecDepth 100000 in
theorem gg208_1187 : hm_at 208 1187 = some (1188, 20, 0, 0, []) := hm_atQ ttL rfl
set_option maxRecDepth 100000 in
theorem gg208_1188 : hm_at 208 1188 = some (1189, 1, 1, 0, []) := hm_atQ ttL rfl
set_option maxRecDepth 100000 in
theorem gg208_1189 : hm_at 208 1189 = some (1190, 1, 0, 3, []) := hm_atQ ttL rfl
set_option maxRecDepth 100000 in
theorem gg208_1190 : hm_at 208 1190 = some (1191, 0, 0, 2, []) := hm_atQ ttL rfl
set_option maxRecDepth 100000 in
theorem gg208_1191 : hm_at 208 1191 = some (1192, 4, 0, 0, []) := hm_atQ ttL rfl
set_option maxRecDepth 100000 in
theorem gg208_1192 : hm_at 208 1192 = some (1193, 20, 0, 0, []) := hm_atQ ttL rfl
set_option maxRecDepth 100000 in
theorem gg208_1193 : hm_at 208 1193 = some (1196, 27, 0, 202, []) := hm_atQ ttL rfl
set_option maxRecDepth 100000 in
theorem gg208_1196 : hm_at 208 1196 = some (1199, 15, 1260, 0, []) := hm_atQ ttL rfl
set_option maxRecDepth 100000 in
theorem gg208_1199 : hm_at 208 1199 = some (1200, 0, 0, 0, []) := hm_atQ ttL rfl
set_option maxRecDepth 100000 in
theorem gg208_1200 : hm_at 208 1200 = some (1201, 29, 0, 1, []) := hm_atQ ttL rfl
set_option maxRecDepth 100000 in
theorem gg208_1201 : hm_at 208 1201 = some (1202, 1, 1, 1, []) := hm_atQ ttL rfl
set_option maxRecDepth 100000 in
theorem gg208_1202 : hm_at 208 1202 = some (1203, 1, 1, 0, []) := hm_atQ ttL rfl
set_option maxRecDepth 100000 in
theorem gg208_1203 : hm_at 208 1203 = some (1204, 1, 0, 3, []) := hm_atQ ttL rfl
set_option maxRecDepth 100000 in
theorem gg208_1204 : hm_at 208 1204 = some (1205, 0, 0, 1, []) := hm_atQ ttL rfl
set_option maxRecDepth 100000 in
theorem gg208_1205 : hm_at 208 1205 = some (1206, 4, 0, 0, []) := hm_atQ ttL rfl
set_option maxRecDepth 100000 in
theorem gg208_1206 : hm_at 208 1206 = some (1207, 20, 0, 0, []) := hm_atQ ttL rfl
set_option maxRecDepth 100000 in
theorem gg208_1207 : hm_at 208 1207 = some (1210, 27, 0, 117, []) := hm_atQ ttL rfl
set_option maxRecDepth 100000 in
theorem gg208_1210 : hm_at 208 1210 = some (1211, 1, 1, 2, []) := hm_atQ ttL rfl
set_option maxRecDepth 100000 in
theorem gg208_1211 : hm_at 208 1211 = some (1212, 1, 1, 0, []) := hm_atQ ttL rfl
set_option maxRecDepth 100000 in
theorem gg208_1212 : hm_at 208 1212 = some (1213, 1, 0, 3, []) := hm_atQ ttL rfl
set_option maxRecDepth 100000 in
theorem gg208_1213 : hm_at 208 1213 = some (1214, 0, 0, 1, []) := hm_atQ ttL rfl
set_option maxRecDepth 100000 in
theorem gg208_1214 : hm_at 208 1214 = some (1215, 4, 0, 0, []) := hm_atQ ttL rfl
set_option maxRecDepth 100000 in
theorem gg208_1215 : hm_at 208 1215 = some (1216, 20, 0, 0, []) := hm_atQ ttL rfl
set_option maxRecDepth 100000 in
theorem gg208_1216 : hm_at 208 1216 = some (1219, 27, 0, 203, []) := hm_atQ ttL rfl
set_option maxRecDepth 100000 in
theorem gg208_1219 : hm_at 208 1219 = some (1222, 15, 1260, 0, []) := hm_atQ ttL rfl
set_option maxRecDepth 100000 in
theorem gg208_1222 : hm_at 208 1222 = some (1223, 0, 0, 0, []) := hm_atQ ttL rfl
set_option maxRecDepth 100000 in
theorem gg208_1223 : hm_at 208 1223 = some (1224, 29, 0, 1, []) := hm_atQ ttL rfl
set_option maxRecDepth 100000 in
theorem gg208_1224 : hm_at 208 1224 = some (1225, 1, 1, 1, []) := hm_atQ ttL rfl
set_option maxRecDepth 100000 in
theorem gg208_1225 : hm_at 208 1225 = some (1226, 1, 1, 0, []) := hm_atQ ttL rfl
set_option maxRecDepth 100000 in
theorem gg208_1226 : hm_at 208 1226 = some (1227, 1, 0, 3, []) := hm_atQ ttL rfl
set_option maxRecDepth 100000 in
theorem gg208_1227 : hm_at 208 1227 = some (1228, 0, 0, 1, []) := hm_atQ ttL rfl
set_option maxRecDepth 100000 in
theorem gg208_1228 : hm_at 208 1228 = some (1229, 4, 0, 0, []) := hm_atQ ttL rfl
set_option maxRecDepth 100000 in
theorem gg208_1229 : hm_at 208 1229 = some (1230, 20, 0, 0, []) := hm_atQ ttL rfl
set_option maxRecDepth 100000 in
theorem gg208_1230 : hm_at 208 1230 = some (1233, 27, 0, 118, []) := hm_atQ ttL rfl
set_option maxRecDepth 100000 in
theorem gg208_1233 : hm_at 208 1233 = some (1234, 1, 1, 2, []) := hm_atQ ttL rfl
set_option maxRecDepth 100000 in
theorem gg208_1234 : hm_at 208 1234 = some (1235, 1, 1, 0, []) := hm_atQ ttL rfl
set_option maxRecDepth 100000 in
theorem gg208_1235 : hm_at 208 1235 = some (1236, 1, 0, 3, []) := hm_atQ ttL rfl
set_option maxRecDepth 100000 in
theorem gg208_1236 : hm_at 208 1236 = some (1237, 0, 0, 1, []) := hm_atQ ttL rfl
set_option maxRecDepth 100000 in
theorem gg208_1237 : hm_at 208 1237 = some (1238, 4, 0, 0, []) := hm_atQ ttL rfl
set_option maxRecDepth 100000 in
theorem gg208_1238 : hm_at 208 1238 = some (1239, 20, 0, 0, []) := hm_atQ ttL rfl
set_option maxRecDepth 100000 in
theorem gg208_1239 : hm_at 208 1239 = some (1242, 27, 0, 204, []) := hm_atQ ttL rfl
set_option maxRecDepth 100000 in
theorem gg208_1242 : hm_at 208 1242 = some (1245, 15, 1260, 0, []) := hm_atQ ttL rfl
set_option maxRecDepth 100000 in
theorem gg208_1245 : hm_at 208 1245 = some (1246, 0, 0, 0, []) := hm_atQ ttL rfl
set_option maxRecDepth 100000 in
theorem gg208_1246 : hm_at 208 1246 = some (1247, 29, 0, 1, []) := hm_atQ ttL rfl
set_option maxRecDepth 100000 in
theorem gg208_1247 : hm_at 208 1247 = some (1248, 1, 1, 1, []) := hm_atQ ttL rfl
set_option maxRecDepth 100000 in
theorem gg208_1248 : hm_at 208 1248 = some (1251, 27, 0, 119, []) := hm_atQ ttL rfl
set_option maxRecDepth 100000 in
theorem gg208_1251 : hm_at 208 1251 = some (1252, 1, 1, 2, []) := hm_atQ ttL rfl
set_option maxRecDepth 100000 in
theorem gg208_1252 : hm_at 208 1252 = some (1255, 27, 0, 205, []) := hm_atQ ttL rfl
set_option maxRecDepth 100000 in
theorem gg208_1255 : hm_at 208 1255 = some (1258, 15, 1260, 0, []) := hm_atQ ttL rfl
set_option maxRecDepth 100000 in
theorem gg208_1258 : hm_at 208 1258 = some (1259, 0, 0, 0, []) := hm_atQ ttL rfl
set_option maxRecDepth 100000 in
theorem gg208_1259 : hm_at 208 1259 = some (1260, 29, 0, 1, []) := hm_atQ ttL rfl
set_option maxRecDepth 100000 in
theorem gg208_1260 : hm_at 208 1260 = some (1263, 3, 6, 3, []) := hm_atQ ttL rfl
set_option maxRecDepth 100000 in
theorem gg208_1263 : hm_at 208 1263 = some (1266, 16, 18, 0, []) := hm_atQ ttL rfl
set_option maxRecDepth 100000 in
theorem gg208_1266 : hm_at 208 1266 = some (1267, 0, 0, 1, []) := hm_atQ ttL rfl
set_option maxRecDepth 100000 in
theorem gg208_1267 : hm_at 208 1267 = some (1268, 29, 0, 1, []) := hm_atQ ttL rfl
