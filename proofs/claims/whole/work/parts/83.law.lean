/-! the law: its script -/
def rl_X (Z : rb_Z) (b N : Nat) (xs : Nat → Int32) : Prop := match Z with
  | (_, _, _, _, s, _, _, _, _, _, A, _, _, _) => va_X b N xs s s.heap ∧ b < s.heap.size ∧ ¬ A b
section RL
variable {Z : rb_Z} {G : rb_G} {cc : ByteArray} {nL : Nat} {own : String} {k pc : Nat} {L S : List Value} {h : rb_H} {b N : Nat} {xs : Nat → Int32}
theorem rl_sld (X : rb_CX Z G cc nL own k) (V : rl_X Z b N xs) {i : Int32} (q : Nat) (hi : i = nI q) (hq : q < N) (hN : N < 2 ^ 31) (d : decode cc pc = .ok (.iaload, 1)) (kk : rb_WP Z G nL (pc + 1) L (.int (xs q) :: S) h) : rb_WP Z G nL pc L (.int i :: .ref b :: S) h := by
  obtain ⟨p, l, e, R, s, m, args, below, meth, c, A, cells, slots, Q⟩ := Z
  obtain ⟨hx, hb, hml, hown, hsw, hA, hA2, hf, hlo, hce, hso⟩ := X
  intro H locs ls hP hS hl
  subst hi
  exact va_sld hx hb V.1 V.2.1 V.2.2 hS (vp_in_nI hq hN) d (by rw [nI_clamp (by omega)]; exact kk H locs ls hP hS hl)
theorem rl_slen (X : rb_CX Z G cc nL own k) (V : rl_X Z b N xs) (d : decode cc pc = .ok (.arraylength, 1)) (kk : rb_WP Z G nL (pc + 1) L (.int (nI N) :: S) h) : rb_WP Z G nL pc L (.ref b :: S) h := by
  obtain ⟨p, l, e, R, s, m, args, below, meth, c, A, cells, slots, Q⟩ := Z
  obtain ⟨hx, hb, hml, hown, hsw, hA, hA2, hf, hlo, hce, hso⟩ := X
  intro H locs ls hP hS hl
  exact va_slen hx hb V.1 V.2.1 V.2.2 hS d (kk H locs ls hP hS hl)
end RL
set_option maxRecDepth 100000 in
set_option maxHeartbeats 1000000 in
theorem lawC_0 {Z : rb_Z} {G : rb_G} {σ : Sg} {h : rb_H} {b N i : Nat} {xs : Nat → Int32} (X : rb_CX Z G cL_law 4 RL 11) (V : rl_X Z b N xs) (hN : N < 2 ^ 31) (hi : i + 5 < N) (hS : okS σ) (hC : CI σ h) (hM : MI σ h) (K : ∀ (σ2 : Sg) (h2 : rb_H), okS σ2 → CI σ2 h2 → MI σ2 h2 → rb_WP Z G 4 1426 [.ref b, .ref (rb_ad G 8 0), .ref (rb_ad G 9 0), .int (nI i)] [] h2) : rb_WP Z G 4 212 [.ref b, .ref (rb_ad G 8 0), .ref (rb_ad G 9 0), .int (nI i)] [] h := by
  refine rb_aload_n X (pc := 212) dL_law_212 rfl rfl ?_
  refine rb_aload_n X (pc := 213) dL_law_213 rfl rfl ?_
  refine rb_iload_n X (pc := 214) dL_law_214 rfl rfl ?_
  refine rb_iconst (v := 1) X (pc := 215) dL_law_215 (by decide) ?_
  refine rb_iadd X (pc := 216) dL_law_216 ?_
  refine rl_sld X (pc := 217) V (i + 1) (nI_add i 1) (by omega) (by omega) dL_law_217 ?_
  refine rb_aload_n X (pc := 218) dL_law_218 rfl rfl ?_
  refine rb_iload_n X (pc := 219) dL_law_219 rfl rfl ?_
  refine rb_iconst (v := 2) X (pc := 220) dL_law_220 (by decide) ?_
  refine rb_iadd X (pc := 221) dL_law_221 ?_
  refine rl_sld X (pc := 222) V (i + 2) (nI_add i 2) (by omega) (by omega) dL_law_222 ?_
  refine rb_aload_n X (pc := 223) dL_law_223 rfl rfl ?_
  refine rb_iload_n X (pc := 224) dL_law_224 rfl rfl ?_
  refine rb_iconst (v := 3) X (pc := 225) dL_law_225 (by decide) ?_
  refine rb_iadd X (pc := 226) dL_law_226 ?_
  refine rl_sld X (pc := 227) V (i + 3) (nI_add i 3) (by omega) (by omega) dL_law_227 ?_
  refine rc_callV X (pc := 228) cvX4_house mL_13 rb_ob8 (qX4_house hS hC _ _ _) (by decide) rfl rfl (Nat.le_of_ble_eq_true rfl) dL_law_228 (fun r_228 h_228 p_228 => ?_)
  obtain ⟨rfl, hC1, e1, e2⟩ := p_228
  have hM1 := MI_9 hM e1 e2
  refine sp_goS (S' := [.int ((r_house σ (xs (i + 1)) (xs (i + 2)) (xs (i + 3)))).1]) rfl ?_
  refine rb_aload_n X (pc := 231) dL_law_231 rfl rfl ?_
  refine rb_aload_n X (pc := 232) dL_law_232 rfl rfl ?_
  refine rb_iload_n X (pc := 233) dL_law_233 rfl rfl ?_
  refine rb_iconst (v := 1) X (pc := 234) dL_law_234 (by decide) ?_
  refine rb_iadd X (pc := 235) dL_law_235 ?_
  refine rl_sld X (pc := 236) V (i + 1) (nI_add i 1) (by omega) (by omega) dL_law_236 ?_
  refine rb_aload_n X (pc := 237) dL_law_237 rfl rfl ?_
  refine rb_iload_n X (pc := 238) dL_law_238 rfl rfl ?_
  refine rb_iconst (v := 2) X (pc := 239) dL_law_239 (by decide) ?_
  refine rb_iadd X (pc := 240) dL_law_240 ?_
  refine rl_sld X (pc := 241) V (i + 2) (nI_add i 2) (by omega) (by omega) dL_law_241 ?_
  refine rb_aload_n X (pc := 242) dL_law_242 rfl rfl ?_
  refine rb_iload_n X (pc := 243) dL_law_243 rfl rfl ?_
  refine rb_iconst (v := 3) X (pc := 244) dL_law_244 (by decide) ?_
  refine rb_iadd X (pc := 245) dL_law_245 ?_
  refine rl_sld X (pc := 246) V (i + 3) (nI_add i 3) (by omega) (by omega) dL_law_246 ?_
  refine rc_callV X (pc := 247) cvX5_house mL_17 rb_ob9 (qX5_house hS hM1 _ _ _) (by decide) rfl rfl (Nat.le_of_ble_eq_true rfl) dL_law_247 (fun r_247 h_247 p_247 => ?_)
  obtain ⟨rfl, hM2, ho⟩ := p_247
  refine sp_goS (S' := [.int ((r_house σ (xs (i + 1)) (xs (i + 2)) (xs (i + 3)))).1, .int ((r_house σ (xs (i + 1)) (xs (i + 2)) (xs (i + 3)))).1]) rfl ?_
  refine rb_icmp_eq X (pc := 250) (tgt := 1426) dL_law_250 (by decide) (fun c250 => ?_) (fun c250 => absurd rfl c250)
  exact K _ _ (ok_house hS _ _ _) (CI_ot hC1 ho) hM2
set_option maxRecDepth 100000 in
set_option maxHeartbeats 1000000 in
theorem lawC_1 {Z : rb_Z} {G : rb_G} {σ : Sg} {h : rb_H} {b N i : Nat} {xs : Nat → Int32} (X : rb_CX Z G cL_law 4 RL 11) (V : rl_X Z b N xs) (hN : N < 2 ^ 31) (hi : i + 5 < N) (hS : okS σ) (hC : CI σ h) (hM : MI σ h) (K : ∀ (σ2 : Sg) (h2 : rb_H), okS σ2 → CI σ2 h2 → MI σ2 h2 → rb_WP Z G 4 1426 [.ref b, .ref (rb_ad G 8 0), .ref (rb_ad G 9 0), .int (nI i)] [] h2) : rb_WP Z G 4 255 [.ref b, .ref (rb_ad G 8 0), .ref (rb_ad G 9 0), .int (nI i)] [] h := by
  refine rb_aload_n X (pc := 255) dL_law_255 rfl rfl ?_
  refine rb_aload_n X (pc := 256) dL_law_256 rfl rfl ?_
  refine rb_iload_n X (pc := 257) dL_law_257 rfl rfl ?_
  refine rb_iconst (v := 1) X (pc := 258) dL_law_258 (by decide) ?_
  refine rb_iadd X (pc := 259) dL_law_259 ?_
  refine rl_sld X (pc := 260) V (i + 1) (nI_add i 1) (by omega) (by omega) dL_law_260 ?_
  refine rb_aload_n X (pc := 261) dL_law_261 rfl rfl ?_
  refine rb_iload_n X (pc := 262) dL_law_262 rfl rfl ?_
  refine rb_iconst (v := 2) X (pc := 263) dL_law_263 (by decide) ?_
  refine rb_iadd X (pc := 264) dL_law_264 ?_
  refine rl_sld X (pc := 265) V (i + 2) (nI_add i 2) (by omega) (by omega) dL_law_265 ?_
  refine rc_callV X (pc := 266) cvX4_houseOf mL_18 rb_ob8 (qX4_houseOf hS hC _ _) (by decide) rfl rfl (Nat.le_of_ble_eq_true rfl) dL_law_266 (fun r_266 h_266 p_266 => ?_)
  obtain ⟨rfl, hC1, e1, e2⟩ := p_266
  have hM1 := MI_9 hM e1 e2
  refine sp_goS (S' := [.int ((r_houseOf σ (xs (i + 1)) (xs (i + 2)))).1]) rfl ?_
  refine rb_aload_n X (pc := 269) dL_law_269 rfl rfl ?_
  refine rb_aload_n X (pc := 270) dL_law_270 rfl rfl ?_
  refine rb_iload_n X (pc := 271) dL_law_271 rfl rfl ?_
  refine rb_iconst (v := 1) X (pc := 272) dL_law_272 (by decide) ?_
  refine rb_iadd X (pc := 273) dL_law_273 ?_
  refine rl_sld X (pc := 274) V (i + 1) (nI_add i 1) (by omega) (by omega) dL_law_274 ?_
  refine rb_aload_n X (pc := 275) dL_law_275 rfl rfl ?_
  refine rb_iload_n X (pc := 276) dL_law_276 rfl rfl ?_
  refine rb_iconst (v := 2) X (pc := 277) dL_law_277 (by decide) ?_
  refine rb_iadd X (pc := 278) dL_law_278 ?_
  refine rl_sld X (pc := 279) V (i + 2) (nI_add i 2) (by omega) (by omega) dL_law_279 ?_
  refine rc_callV X (pc := 280) cvX5_houseOf mL_22 rb_ob9 (qX5_houseOf hS hM1 _ _) (by decide) rfl rfl (Nat.le_of_ble_eq_true rfl) dL_law_280 (fun r_280 h_280 p_280 => ?_)
  obtain ⟨rfl, hM2, ho⟩ := p_280
  refine sp_goS (S' := [.int ((r_houseOf σ (xs (i + 1)) (xs (i + 2)))).1, .int ((r_houseOf σ (xs (i + 1)) (xs (i + 2)))).1]) rfl ?_
  refine rb_icmp_eq X (pc := 283) (tgt := 1426) dL_law_283 (by decide) (fun c283 => ?_) (fun c283 => absurd rfl c283)
  exact K _ _ (ok_houseOf hS _ _) (CI_ot hC1 ho) hM2
set_option maxRecDepth 100000 in
set_option maxHeartbeats 1000000 in
theorem lawC_2 {Z : rb_Z} {G : rb_G} {σ : Sg} {h : rb_H} {b N i : Nat} {xs : Nat → Int32} (X : rb_CX Z G cL_law 4 RL 11) (V : rl_X Z b N xs) (hN : N < 2 ^ 31) (hi : i + 5 < N) (hS : okS σ) (hC : CI σ h) (hM : MI σ h) (K : ∀ (σ2 : Sg) (h2 : rb_H), okS σ2 → CI σ2 h2 → MI σ2 h2 → rb_WP Z G 4 1426 [.ref b, .ref (rb_ad G 8 0), .ref (rb_ad G 9 0), .int (nI i)] [] h2) : rb_WP Z G 4 288 [.ref b, .ref (rb_ad G 8 0), .ref (rb_ad G 9 0), .int (nI i)] [] h := by
  refine rb_aload_n X (pc := 288) dL_law_288 rfl rfl ?_
  refine rb_aload_n X (pc := 289) dL_law_289 rfl rfl ?_
  refine rb_iload_n X (pc := 290) dL_law_290 rfl rfl ?_
  refine rb_iconst (v := 1) X (pc := 291) dL_law_291 (by decide) ?_
  refine rb_iadd X (pc := 292) dL_law_292 ?_
  refine rl_sld X (pc := 293) V (i + 1) (nI_add i 1) (by omega) (by omega) dL_law_293 ?_
  refine rb_aload_n X (pc := 294) dL_law_294 rfl rfl ?_
  refine rb_iload_n X (pc := 295) dL_law_295 rfl rfl ?_
  refine rb_iconst (v := 2) X (pc := 296) dL_law_296 (by decide) ?_
  refine rb_iadd X (pc := 297) dL_law_297 ?_
  refine rl_sld X (pc := 298) V (i + 2) (nI_add i 2) (by omega) (by omega) dL_law_298 ?_
  refine rc_callV X (pc := 299) cvX4_rumour mL_23 rb_ob8 (qX4_rumour hS hC _ _) (by decide) rfl rfl (Nat.le_of_ble_eq_true rfl) dL_law_299 (fun r_299 h_299 p_299 => ?_)
  obtain ⟨rfl, hC1, e1, e2⟩ := p_299
  have hM1 := MI_9 hM e1 e2
  refine sp_goS (S' := [.int ((r_rumour σ (xs (i + 1)) (xs (i + 2)))).1]) rfl ?_
  refine rb_aload_n X (pc := 302) dL_law_302 rfl rfl ?_
  refine rb_aload_n X (pc := 303) dL_law_303 rfl rfl ?_
  refine rb_iload_n X (pc := 304) dL_law_304 rfl rfl ?_
  refine rb_iconst (v := 1) X (pc := 305) dL_law_305 (by decide) ?_
  refine rb_iadd X (pc := 306) dL_law_306 ?_
  refine rl_sld X (pc := 307) V (i + 1) (nI_add i 1) (by omega) (by omega) dL_law_307 ?_
  refine rb_aload_n X (pc := 308) dL_law_308 rfl rfl ?_
  refine rb_iload_n X (pc := 309) dL_law_309 rfl rfl ?_
  refine rb_iconst (v := 2) X (pc := 310) dL_law_310 (by decide) ?_
  refine rb_iadd X (pc := 311) dL_law_311 ?_
  refine rl_sld X (pc := 312) V (i + 2) (nI_add i 2) (by omega) (by omega) dL_law_312 ?_
  refine rc_callV X (pc := 313) cvX5_rumour mL_26 rb_ob9 (qX5_rumour hS hM1 _ _) (by decide) rfl rfl (Nat.le_of_ble_eq_true rfl) dL_law_313 (fun r_313 h_313 p_313 => ?_)
  obtain ⟨rfl, hM2, ho⟩ := p_313
  refine sp_goS (S' := [.int ((r_rumour σ (xs (i + 1)) (xs (i + 2)))).1, .int ((r_rumour σ (xs (i + 1)) (xs (i + 2)))).1]) rfl ?_
  refine rb_icmp_eq X (pc := 316) (tgt := 1426) dL_law_316 (by decide) (fun c316 => ?_) (fun c316 => absurd rfl c316)
  exact K _ _ (ok_rumour hS _ _) (CI_ot hC1 ho) hM2
set_option maxRecDepth 100000 in
set_option maxHeartbeats 1000000 in
theorem lawC_3 {Z : rb_Z} {G : rb_G} {σ : Sg} {h : rb_H} {b N i : Nat} {xs : Nat → Int32} (X : rb_CX Z G cL_law 4 RL 11) (V : rl_X Z b N xs) (hN : N < 2 ^ 31) (hi : i + 5 < N) (hS : okS σ) (hC : CI σ h) (hM : MI σ h) (K : ∀ (σ2 : Sg) (h2 : rb_H), okS σ2 → CI σ2 h2 → MI σ2 h2 → rb_WP Z G 4 1426 [.ref b, .ref (rb_ad G 8 0), .ref (rb_ad G 9 0), .int (nI i)] [] h2) : rb_WP Z G 4 321 [.ref b, .ref (rb_ad G 8 0), .ref (rb_ad G 9 0), .int (nI i)] [] h := by
  refine rb_aload_n X (pc := 321) dL_law_321 rfl rfl ?_
  refine rb_aload_n X (pc := 322) dL_law_322 rfl rfl ?_
  refine rb_iload_n X (pc := 323) dL_law_323 rfl rfl ?_
  refine rb_iconst (v := 1) X (pc := 324) dL_law_324 (by decide) ?_
  refine rb_iadd X (pc := 325) dL_law_325 ?_
  refine rl_sld X (pc := 326) V (i + 1) (nI_add i 1) (by omega) (by omega) dL_law_326 ?_
  refine rb_aload_n X (pc := 327) dL_law_327 rfl rfl ?_
  refine rb_iload_n X (pc := 328) dL_law_328 rfl rfl ?_
  refine rb_iconst (v := 2) X (pc := 329) dL_law_329 (by decide) ?_
  refine rb_iadd X (pc := 330) dL_law_330 ?_
  refine rl_sld X (pc := 331) V (i + 2) (nI_add i 2) (by omega) (by omega) dL_law_331 ?_
  refine rc_callV X (pc := 332) cvX4_of mL_27 rb_ob8 (qX4_of hS hC _ _) (by decide) rfl rfl (Nat.le_of_ble_eq_true rfl) dL_law_332 (fun r_332 h_332 p_332 => ?_)
  obtain ⟨rfl, hC1, e1, e2⟩ := p_332
  have hM1 := MI_9 hM e1 e2
  refine sp_goS (S' := [.int ((r_of σ (xs (i + 1)) (xs (i + 2)))).1]) rfl ?_
  refine rb_aload_n X (pc := 335) dL_law_335 rfl rfl ?_
  refine rb_aload_n X (pc := 336) dL_law_336 rfl rfl ?_
  refine rb_iload_n X (pc := 337) dL_law_337 rfl rfl ?_
  refine rb_iconst (v := 1) X (pc := 338) dL_law_338 (by decide) ?_
  refine rb_iadd X (pc := 339) dL_law_339 ?_
  refine rl_sld X (pc := 340) V (i + 1) (nI_add i 1) (by omega) (by omega) dL_law_340 ?_
  refine rb_aload_n X (pc := 341) dL_law_341 rfl rfl ?_
  refine rb_iload_n X (pc := 342) dL_law_342 rfl rfl ?_
  refine rb_iconst (v := 2) X (pc := 343) dL_law_343 (by decide) ?_
  refine rb_iadd X (pc := 344) dL_law_344 ?_
  refine rl_sld X (pc := 345) V (i + 2) (nI_add i 2) (by omega) (by omega) dL_law_345 ?_
  refine rc_callV X (pc := 346) cvX5_of mL_30 rb_ob9 (qX5_of hS hM1 _ _) (by decide) rfl rfl (Nat.le_of_ble_eq_true rfl) dL_law_346 (fun r_346 h_346 p_346 => ?_)
  obtain ⟨rfl, hM2, ho⟩ := p_346
  refine sp_goS (S' := [.int ((r_of σ (xs (i + 1)) (xs (i + 2)))).1, .int ((r_of σ (xs (i + 1)) (xs (i + 2)))).1]) rfl ?_
  refine rb_icmp_eq X (pc := 349) (tgt := 1426) dL_law_349 (by decide) (fun c349 => ?_) (fun c349 => absurd rfl c349)
  exact K _ _ (ok_of hS _ _) (CI_ot hC1 ho) hM2
set_option maxRecDepth 100000 in
set_option maxHeartbeats 1000000 in
theorem lawC_4 {Z : rb_Z} {G : rb_G} {σ : Sg} {h : rb_H} {b N i : Nat} {xs : Nat → Int32} (X : rb_CX Z G cL_law 4 RL 11) (V : rl_X Z b N xs) (hN : N < 2 ^ 31) (hi : i + 5 < N) (hS : okS σ) (hC : CI σ h) (hM : MI σ h) (K : ∀ (σ2 : Sg) (h2 : rb_H), okS σ2 → CI σ2 h2 → MI σ2 h2 → rb_WP Z G 4 1426 [.ref b, .ref (rb_ad G 8 0), .ref (rb_ad G 9 0), .int (nI i)] [] h2) : rb_WP Z G 4 354 [.ref b, .ref (rb_ad G 8 0), .ref (rb_ad G 9 0), .int (nI i)] [] h := by
  refine rb_aload_n X (pc := 354) dL_law_354 rfl rfl ?_
  refine rb_aload_n X (pc := 355) dL_law_355 rfl rfl ?_
  refine rb_iload_n X (pc := 356) dL_law_356 rfl rfl ?_
  refine rb_iconst (v := 1) X (pc := 357) dL_law_357 (by decide) ?_
  refine rb_iadd X (pc := 358) dL_law_358 ?_
  refine rl_sld X (pc := 359) V (i + 1) (nI_add i 1) (by omega) (by omega) dL_law_359 ?_
  refine rb_aload_n X (pc := 360) dL_law_360 rfl rfl ?_
  refine rb_iload_n X (pc := 361) dL_law_361 rfl rfl ?_
  refine rb_iconst (v := 2) X (pc := 362) dL_law_362 (by decide) ?_
  refine rb_iadd X (pc := 363) dL_law_363 ?_
  refine rl_sld X (pc := 364) V (i + 2) (nI_add i 2) (by omega) (by omega) dL_law_364 ?_
  refine rb_aload_n X (pc := 365) dL_law_365 rfl rfl ?_
  refine rb_iload_n X (pc := 366) dL_law_366 rfl rfl ?_
  refine rb_iconst (v := 3) X (pc := 367) dL_law_367 (by decide) ?_
  refine rb_iadd X (pc := 368) dL_law_368 ?_
  refine rl_sld X (pc := 369) V (i + 3) (nI_add i 3) (by omega) (by omega) dL_law_369 ?_
  refine rc_callV X (pc := 370) cvX4_set mL_31 rb_ob8 (qX4_set hS hC _ _ _) (by decide) rfl rfl (Nat.le_of_ble_eq_true rfl) dL_law_370 (fun r_370 h_370 p_370 => ?_)
  obtain ⟨rfl, hC1, e1, e2⟩ := p_370
  have hM1 := MI_9 hM e1 e2
  refine sp_goS (S' := [.int ((r_set σ (xs (i + 1)) (xs (i + 2)) (xs (i + 3)))).1]) rfl ?_
  refine rb_aload_n X (pc := 373) dL_law_373 rfl rfl ?_
  refine rb_aload_n X (pc := 374) dL_law_374 rfl rfl ?_
  refine rb_iload_n X (pc := 375) dL_law_375 rfl rfl ?_
  refine rb_iconst (v := 1) X (pc := 376) dL_law_376 (by decide) ?_
  refine rb_iadd X (pc := 377) dL_law_377 ?_
  refine rl_sld X (pc := 378) V (i + 1) (nI_add i 1) (by omega) (by omega) dL_law_378 ?_
  refine rb_aload_n X (pc := 379) dL_law_379 rfl rfl ?_
  refine rb_iload_n X (pc := 380) dL_law_380 rfl rfl ?_
  refine rb_iconst (v := 2) X (pc := 381) dL_law_381 (by decide) ?_
  refine rb_iadd X (pc := 382) dL_law_382 ?_
  refine rl_sld X (pc := 383) V (i + 2) (nI_add i 2) (by omega) (by omega) dL_law_383 ?_
  refine rb_aload_n X (pc := 384) dL_law_384 rfl rfl ?_
  refine rb_iload_n X (pc := 385) dL_law_385 rfl rfl ?_
  refine rb_iconst (v := 3) X (pc := 386) dL_law_386 (by decide) ?_
  refine rb_iadd X (pc := 387) dL_law_387 ?_
  refine rl_sld X (pc := 388) V (i + 3) (nI_add i 3) (by omega) (by omega) dL_law_388 ?_
  refine rc_callV X (pc := 389) cvX5_set mL_34 rb_ob9 (qX5_set hS hM1 _ _ _) (by decide) rfl rfl (Nat.le_of_ble_eq_true rfl) dL_law_389 (fun r_389 h_389 p_389 => ?_)
  obtain ⟨rfl, hM2, ho⟩ := p_389
  refine sp_goS (S' := [.int ((r_set σ (xs (i + 1)) (xs (i + 2)) (xs (i + 3)))).1, .int ((r_set σ (xs (i + 1)) (xs (i + 2)) (xs (i + 3)))).1]) rfl ?_
  refine rb_icmp_eq X (pc := 392) (tgt := 1426) dL_law_392 (by decide) (fun c392 => ?_) (fun c392 => absurd rfl c392)
  exact K _ _ (ok_set hS _ _ _) (CI_ot hC1 ho) hM2
set_option maxRecDepth 100000 in
set_option maxHeartbeats 1000000 in
theorem lawC_5 {Z : rb_Z} {G : rb_G} {σ : Sg} {h : rb_H} {b N i : Nat} {xs : Nat → Int32} (X : rb_CX Z G cL_law 4 RL 11) (V : rl_X Z b N xs) (hN : N < 2 ^ 31) (hi : i + 5 < N) (hS : okS σ) (hC : CI σ h) (hM : MI σ h) (K : ∀ (σ2 : Sg) (h2 : rb_H), okS σ2 → CI σ2 h2 → MI σ2 h2 → rb_WP Z G 4 1426 [.ref b, .ref (rb_ad G 8 0), .ref (rb_ad G 9 0), .int (nI i)] [] h2) : rb_WP Z G 4 397 [.ref b, .ref (rb_ad G 8 0), .ref (rb_ad G 9 0), .int (nI i)] [] h := by
  refine rb_aload_n X (pc := 397) dL_law_397 rfl rfl ?_
  refine rb_aload_n X (pc := 398) dL_law_398 rfl rfl ?_
  refine rb_iload_n X (pc := 399) dL_law_399 rfl rfl ?_
  refine rb_iconst (v := 1) X (pc := 400) dL_law_400 (by decide) ?_
  refine rb_iadd X (pc := 401) dL_law_401 ?_
  refine rl_sld X (pc := 402) V (i + 1) (nI_add i 1) (by omega) (by omega) dL_law_402 ?_
  refine rb_aload_n X (pc := 403) dL_law_403 rfl rfl ?_
  refine rb_iload_n X (pc := 404) dL_law_404 rfl rfl ?_
  refine rb_iconst (v := 2) X (pc := 405) dL_law_405 (by decide) ?_
  refine rb_iadd X (pc := 406) dL_law_406 ?_
  refine rl_sld X (pc := 407) V (i + 2) (nI_add i 2) (by omega) (by omega) dL_law_407 ?_
  refine rc_callV X (pc := 408) cvX4_turn mL_35 rb_ob8 (qX4_turn hS hC _ _) (by decide) rfl rfl (Nat.le_of_ble_eq_true rfl) dL_law_408 (fun r_408 h_408 p_408 => ?_)
  obtain ⟨rfl, hC1, e1, e2⟩ := p_408
  have hM1 := MI_9 hM e1 e2
  refine sp_goS (S' := [.int ((r_turn σ (xs (i + 1)) (xs (i + 2)))).1]) rfl ?_
  refine rb_aload_n X (pc := 411) dL_law_411 rfl rfl ?_
  refine rb_aload_n X (pc := 412) dL_law_412 rfl rfl ?_
  refine rb_iload_n X (pc := 413) dL_law_413 rfl rfl ?_
  refine rb_iconst (v := 1) X (pc := 414) dL_law_414 (by decide) ?_
  refine rb_iadd X (pc := 415) dL_law_415 ?_
  refine rl_sld X (pc := 416) V (i + 1) (nI_add i 1) (by omega) (by omega) dL_law_416 ?_
  refine rb_aload_n X (pc := 417) dL_law_417 rfl rfl ?_
  refine rb_iload_n X (pc := 418) dL_law_418 rfl rfl ?_
  refine rb_iconst (v := 2) X (pc := 419) dL_law_419 (by decide) ?_
  refine rb_iadd X (pc := 420) dL_law_420 ?_
  refine rl_sld X (pc := 421) V (i + 2) (nI_add i 2) (by omega) (by omega) dL_law_421 ?_
  refine rc_callV X (pc := 422) cvX5_turn mL_38 rb_ob9 (qX5_turn hS hM1 _ _) (by decide) rfl rfl (Nat.le_of_ble_eq_true rfl) dL_law_422 (fun r_422 h_422 p_422 => ?_)
  obtain ⟨rfl, hM2, ho⟩ := p_422
  refine sp_goS (S' := [.int ((r_turn σ (xs (i + 1)) (xs (i + 2)))).1, .int ((r_turn σ (xs (i + 1)) (xs (i + 2)))).1]) rfl ?_
  refine rb_icmp_eq X (pc := 425) (tgt := 1426) dL_law_425 (by decide) (fun c425 => ?_) (fun c425 => absurd rfl c425)
  exact K _ _ (ok_turn hS _ _) (CI_ot hC1 ho) hM2
set_option maxRecDepth 100000 in
set_option maxHeartbeats 1000000 in
theorem lawC_6 {Z : rb_Z} {G : rb_G} {σ : Sg} {h : rb_H} {b N i : Nat} {xs : Nat → Int32} (X : rb_CX Z G cL_law 4 RL 11) (V : rl_X Z b N xs) (hN : N < 2 ^ 31) (hi : i + 5 < N) (hS : okS σ) (hC : CI σ h) (hM : MI σ h) (K : ∀ (σ2 : Sg) (h2 : rb_H), okS σ2 → CI σ2 h2 → MI σ2 h2 → rb_WP Z G 4 1426 [.ref b, .ref (rb_ad G 8 0), .ref (rb_ad G 9 0), .int (nI i)] [] h2) : rb_WP Z G 4 430 [.ref b, .ref (rb_ad G 8 0), .ref (rb_ad G 9 0), .int (nI i)] [] h := by
  refine rb_aload_n X (pc := 430) dL_law_430 rfl rfl ?_
  refine rb_aload_n X (pc := 431) dL_law_431 rfl rfl ?_
  refine rb_iload_n X (pc := 432) dL_law_432 rfl rfl ?_
  refine rb_iconst (v := 1) X (pc := 433) dL_law_433 (by decide) ?_
  refine rb_iadd X (pc := 434) dL_law_434 ?_
  refine rl_sld X (pc := 435) V (i + 1) (nI_add i 1) (by omega) (by omega) dL_law_435 ?_
  refine rb_aload_n X (pc := 436) dL_law_436 rfl rfl ?_
  refine rb_iload_n X (pc := 437) dL_law_437 rfl rfl ?_
  refine rb_iconst (v := 2) X (pc := 438) dL_law_438 (by decide) ?_
  refine rb_iadd X (pc := 439) dL_law_439 ?_
  refine rl_sld X (pc := 440) V (i + 2) (nI_add i 2) (by omega) (by omega) dL_law_440 ?_
  refine rc_callV X (pc := 441) cvX4_as mL_39 rb_ob8 (qX4_as hS hC _ _) (by decide) rfl rfl (Nat.le_of_ble_eq_true rfl) dL_law_441 (fun r_441 h_441 p_441 => ?_)
  obtain ⟨rfl, hC1, e1, e2⟩ := p_441
  have hM1 := MI_9 hM e1 e2
  refine sp_goS (S' := [.int ((r_as σ (xs (i + 1)) (xs (i + 2)))).1]) rfl ?_
  refine rb_aload_n X (pc := 444) dL_law_444 rfl rfl ?_
  refine rb_aload_n X (pc := 445) dL_law_445 rfl rfl ?_
  refine rb_iload_n X (pc := 446) dL_law_446 rfl rfl ?_
  refine rb_iconst (v := 1) X (pc := 447) dL_law_447 (by decide) ?_
  refine rb_iadd X (pc := 448) dL_law_448 ?_
  refine rl_sld X (pc := 449) V (i + 1) (nI_add i 1) (by omega) (by omega) dL_law_449 ?_
  refine rb_aload_n X (pc := 450) dL_law_450 rfl rfl ?_
  refine rb_iload_n X (pc := 451) dL_law_451 rfl rfl ?_
  refine rb_iconst (v := 2) X (pc := 452) dL_law_452 (by decide) ?_
  refine rb_iadd X (pc := 453) dL_law_453 ?_
  refine rl_sld X (pc := 454) V (i + 2) (nI_add i 2) (by omega) (by omega) dL_law_454 ?_
  refine rc_callV X (pc := 455) cvX5_as mL_42 rb_ob9 (qX5_as hS hM1 _ _) (by decide) rfl rfl (Nat.le_of_ble_eq_true rfl) dL_law_455 (fun r_455 h_455 p_455 => ?_)
  obtain ⟨rfl, hM2, ho⟩ := p_455
  refine sp_goS (S' := [.int ((r_as σ (xs (i + 1)) (xs (i + 2)))).1, .int ((r_as σ (xs (i + 1)) (xs (i + 2)))).1]) rfl ?_
  refine rb_icmp_eq X (pc := 458) (tgt := 1426) dL_law_458 (by decide) (fun c458 => ?_) (fun c458 => absurd rfl c458)
  exact K _ _ (ok_as hS _ _) (CI_ot hC1 ho) hM2
set_option maxRecDepth 100000 in
set_option maxHeartbeats 1000000 in
theorem lawC_7 {Z : rb_Z} {G : rb_G} {σ : Sg} {h : rb_H} {b N i : Nat} {xs : Nat → Int32} (X : rb_CX Z G cL_law 4 RL 11) (V : rl_X Z b N xs) (hN : N < 2 ^ 31) (hi : i + 5 < N) (hS : okS σ) (hC : CI σ h) (hM : MI σ h) (K : ∀ (σ2 : Sg) (h2 : rb_H), okS σ2 → CI σ2 h2 → MI σ2 h2 → rb_WP Z G 4 1426 [.ref b, .ref (rb_ad G 8 0), .ref (rb_ad G 9 0), .int (nI i)] [] h2) : rb_WP Z G 4 463 [.ref b, .ref (rb_ad G 8 0), .ref (rb_ad G 9 0), .int (nI i)] [] h := by
  refine rb_aload_n X (pc := 463) dL_law_463 rfl rfl ?_
  refine rb_aload_n X (pc := 464) dL_law_464 rfl rfl ?_
  refine rb_iload_n X (pc := 465) dL_law_465 rfl rfl ?_
  refine rb_iconst (v := 1) X (pc := 466) dL_law_466 (by decide) ?_
  refine rb_iadd X (pc := 467) dL_law_467 ?_
  refine rl_sld X (pc := 468) V (i + 1) (nI_add i 1) (by omega) (by omega) dL_law_468 ?_
  refine rb_aload_n X (pc := 469) dL_law_469 rfl rfl ?_
  refine rb_iload_n X (pc := 470) dL_law_470 rfl rfl ?_
  refine rb_iconst (v := 2) X (pc := 471) dL_law_471 (by decide) ?_
  refine rb_iadd X (pc := 472) dL_law_472 ?_
  refine rl_sld X (pc := 473) V (i + 2) (nI_add i 2) (by omega) (by omega) dL_law_473 ?_
  refine rc_callV X (pc := 474) cvX4_takes mL_43 rb_ob8 (qX4_takes hS hC _ _) (by decide) rfl rfl (Nat.le_of_ble_eq_true rfl) dL_law_474 (fun r_474 h_474 p_474 => ?_)
  obtain ⟨rfl, hC1, e1, e2⟩ := p_474
  have hM1 := MI_9 hM e1 e2
  refine sp_goS (S' := [.int ((r_takes σ (xs (i + 1)) (xs (i + 2)))).1]) rfl ?_
  refine rb_aload_n X (pc := 477) dL_law_477 rfl rfl ?_
  refine rb_aload_n X (pc := 478) dL_law_478 rfl rfl ?_
  refine rb_iload_n X (pc := 479) dL_law_479 rfl rfl ?_
  refine rb_iconst (v := 1) X (pc := 480) dL_law_480 (by decide) ?_
  refine rb_iadd X (pc := 481) dL_law_481 ?_
  refine rl_sld X (pc := 482) V (i + 1) (nI_add i 1) (by omega) (by omega) dL_law_482 ?_
  refine rb_aload_n X (pc := 483) dL_law_483 rfl rfl ?_
  refine rb_iload_n X (pc := 484) dL_law_484 rfl rfl ?_
  refine rb_iconst (v := 2) X (pc := 485) dL_law_485 (by decide) ?_
  refine rb_iadd X (pc := 486) dL_law_486 ?_
  refine rl_sld X (pc := 487) V (i + 2) (nI_add i 2) (by omega) (by omega) dL_law_487 ?_
  refine rc_callV X (pc := 488) cvX5_takes mL_46 rb_ob9 (qX5_takes hS hM1 _ _) (by decide) rfl rfl (Nat.le_of_ble_eq_true rfl) dL_law_488 (fun r_488 h_488 p_488 => ?_)
  obtain ⟨rfl, hM2, ho⟩ := p_488
  refine sp_goS (S' := [.int ((r_takes σ (xs (i + 1)) (xs (i + 2)))).1, .int ((r_takes σ (xs (i + 1)) (xs (i + 2)))).1]) rfl ?_
  refine rb_icmp_eq X (pc := 491) (tgt := 1426) dL_law_491 (by decide) (fun c491 => ?_) (fun c491 => absurd rfl c491)
  exact K _ _ (ok_takes hS _ _) (CI_ot hC1 ho) hM2
set_option maxRecDepth 100000 in
set_option maxHeartbeats 1000000 in
theorem lawC_8 {Z : rb_Z} {G : rb_G} {σ : Sg} {h : rb_H} {b N i : Nat} {xs : Nat → Int32} (X : rb_CX Z G cL_law 4 RL 11) (V : rl_X Z b N xs) (hN : N < 2 ^ 31) (hi : i + 5 < N) (hS : okS σ) (hC : CI σ h) (hM : MI σ h) (K : ∀ (σ2 : Sg) (h2 : rb_H), okS σ2 → CI σ2 h2 → MI σ2 h2 → rb_WP Z G 4 1426 [.ref b, .ref (rb_ad G 8 0), .ref (rb_ad G 9 0), .int (nI i)] [] h2) : rb_WP Z G 4 496 [.ref b, .ref (rb_ad G 8 0), .ref (rb_ad G 9 0), .int (nI i)] [] h := by
  refine rb_aload_n X (pc := 496) dL_law_496 rfl rfl ?_
  refine rb_aload_n X (pc := 497) dL_law_497 rfl rfl ?_
  refine rb_iload_n X (pc := 498) dL_law_498 rfl rfl ?_
  refine rb_iconst (v := 1) X (pc := 499) dL_law_499 (by decide) ?_
  refine rb_iadd X (pc := 500) dL_law_500 ?_
  refine rl_sld X (pc := 501) V (i + 1) (nI_add i 1) (by omega) (by omega) dL_law_501 ?_
  refine rc_callV X (pc := 502) cvX4_comeIn mL_47 rb_ob8 (qX4_comeIn hS hC _) (by decide) rfl rfl (Nat.le_of_ble_eq_true rfl) dL_law_502 (fun r_502 h_502 p_502 => ?_)
  obtain ⟨rfl, hC1, e1, e2⟩ := p_502
  have hM1 := MI_9 hM e1 e2
  refine sp_goS (S' := [.int ((r_comeIn σ (xs (i + 1)))).1]) rfl ?_
  refine rb_aload_n X (pc := 505) dL_law_505 rfl rfl ?_
  refine rb_aload_n X (pc := 506) dL_law_506 rfl rfl ?_
  refine rb_iload_n X (pc := 507) dL_law_507 rfl rfl ?_
  refine rb_iconst (v := 1) X (pc := 508) dL_law_508 (by decide) ?_
  refine rb_iadd X (pc := 509) dL_law_509 ?_
  refine rl_sld X (pc := 510) V (i + 1) (nI_add i 1) (by omega) (by omega) dL_law_510 ?_
  refine rc_callV X (pc := 511) cvX5_comeIn mL_51 rb_ob9 (qX5_comeIn hS hM1 _) (by decide) rfl rfl (Nat.le_of_ble_eq_true rfl) dL_law_511 (fun r_511 h_511 p_511 => ?_)
  obtain ⟨rfl, hM2, ho⟩ := p_511
  refine sp_goS (S' := [.int ((r_comeIn σ (xs (i + 1)))).1, .int ((r_comeIn σ (xs (i + 1)))).1]) rfl ?_
  refine rb_icmp_eq X (pc := 514) (tgt := 1426) dL_law_514 (by decide) (fun c514 => ?_) (fun c514 => absurd rfl c514)
  exact K _ _ (ok_comeIn hS _) (CI_ot hC1 ho) hM2
set_option maxRecDepth 100000 in
set_option maxHeartbeats 1000000 in
theorem lawC_9 {Z : rb_Z} {G : rb_G} {σ : Sg} {h : rb_H} {b N i : Nat} {xs : Nat → Int32} (X : rb_CX Z G cL_law 4 RL 11) (V : rl_X Z b N xs) (hN : N < 2 ^ 31) (hi : i + 5 < N) (hS : okS σ) (hC : CI σ h) (hM : MI σ h) (K : ∀ (σ2 : Sg) (h2 : rb_H), okS σ2 → CI σ2 h2 → MI σ2 h2 → rb_WP Z G 4 1426 [.ref b, .ref (rb_ad G 8 0), .ref (rb_ad G 9 0), .int (nI i)] [] h2) : rb_WP Z G 4 519 [.ref b, .ref (rb_ad G 8 0), .ref (rb_ad G 9 0), .int (nI i)] [] h := by
  refine rb_aload_n X (pc := 519) dL_law_519 rfl rfl ?_
  refine rb_aload_n X (pc := 520) dL_law_520 rfl rfl ?_
  refine rb_iload_n X (pc := 521) dL_law_521 rfl rfl ?_
  refine rb_iconst (v := 1) X (pc := 522) dL_law_522 (by decide) ?_
  refine rb_iadd X (pc := 523) dL_law_523 ?_
  refine rl_sld X (pc := 524) V (i + 1) (nI_add i 1) (by omega) (by omega) dL_law_524 ?_
  refine rb_aload_n X (pc := 525) dL_law_525 rfl rfl ?_
  refine rb_iload_n X (pc := 526) dL_law_526 rfl rfl ?_
  refine rb_iconst (v := 2) X (pc := 527) dL_law_527 (by decide) ?_
  refine rb_iadd X (pc := 528) dL_law_528 ?_
  refine rl_sld X (pc := 529) V (i + 2) (nI_add i 2) (by omega) (by omega) dL_law_529 ?_
  refine rc_callV X (pc := 530) cvX4_improve mL_52 rb_ob8 (qX4_improve hS hC _ _) (by decide) rfl rfl (Nat.le_of_ble_eq_true rfl) dL_law_530 (fun r_530 h_530 p_530 => ?_)
  obtain ⟨rfl, hC1, e1, e2⟩ := p_530
  have hM1 := MI_9 hM e1 e2
  refine sp_goS (S' := [.int ((r_improve σ (xs (i + 1)) (xs (i + 2)))).1]) rfl ?_
  refine rb_aload_n X (pc := 533) dL_law_533 rfl rfl ?_
  refine rb_aload_n X (pc := 534) dL_law_534 rfl rfl ?_
  refine rb_iload_n X (pc := 535) dL_law_535 rfl rfl ?_
  refine rb_iconst (v := 1) X (pc := 536) dL_law_536 (by decide) ?_
  refine rb_iadd X (pc := 537) dL_law_537 ?_
  refine rl_sld X (pc := 538) V (i + 1) (nI_add i 1) (by omega) (by omega) dL_law_538 ?_
  refine rb_aload_n X (pc := 539) dL_law_539 rfl rfl ?_
  refine rb_iload_n X (pc := 540) dL_law_540 rfl rfl ?_
  refine rb_iconst (v := 2) X (pc := 541) dL_law_541 (by decide) ?_
  refine rb_iadd X (pc := 542) dL_law_542 ?_
  refine rl_sld X (pc := 543) V (i + 2) (nI_add i 2) (by omega) (by omega) dL_law_543 ?_
  refine rc_callV X (pc := 544) cvX5_improve mL_55 rb_ob9 (qX5_improve hS hM1 _ _) (by decide) rfl rfl (Nat.le_of_ble_eq_true rfl) dL_law_544 (fun r_544 h_544 p_544 => ?_)
  obtain ⟨rfl, hM2, ho⟩ := p_544
  refine sp_goS (S' := [.int ((r_improve σ (xs (i + 1)) (xs (i + 2)))).1, .int ((r_improve σ (xs (i + 1)) (xs (i + 2)))).1]) rfl ?_
  refine rb_icmp_eq X (pc := 547) (tgt := 1426) dL_law_547 (by decide) (fun c547 => ?_) (fun c547 => absurd rfl c547)
  exact K _ _ (ok_improve hS _ _) (CI_ot hC1 ho) hM2
set_option maxRecDepth 100000 in
set_option maxHeartbeats 1000000 in
theorem lawC_10 {Z : rb_Z} {G : rb_G} {σ : Sg} {h : rb_H} {b N i : Nat} {xs : Nat → Int32} (X : rb_CX Z G cL_law 4 RL 11) (V : rl_X Z b N xs) (hN : N < 2 ^ 31) (hi : i + 5 < N) (hS : okS σ) (hC : CI σ h) (hM : MI σ h) (K : ∀ (σ2 : Sg) (h2 : rb_H), okS σ2 → CI σ2 h2 → MI σ2 h2 → rb_WP Z G 4 1426 [.ref b, .ref (rb_ad G 8 0), .ref (rb_ad G 9 0), .int (nI i)] [] h2) : rb_WP Z G 4 552 [.ref b, .ref (rb_ad G 8 0), .ref (rb_ad G 9 0), .int (nI i)] [] h := by
  refine rb_aload_n X (pc := 552) dL_law_552 rfl rfl ?_
  refine rb_aload_n X (pc := 553) dL_law_553 rfl rfl ?_
  refine rb_iload_n X (pc := 554) dL_law_554 rfl rfl ?_
  refine rb_iconst (v := 1) X (pc := 555) dL_law_555 (by decide) ?_
  refine rb_iadd X (pc := 556) dL_law_556 ?_
  refine rl_sld X (pc := 557) V (i + 1) (nI_add i 1) (by omega) (by omega) dL_law_557 ?_
  refine rc_callV X (pc := 558) cvX4_comesTrue mL_56 rb_ob8 (qX4_comesTrue hS hC _) (by decide) rfl rfl (Nat.le_of_ble_eq_true rfl) dL_law_558 (fun r_558 h_558 p_558 => ?_)
  obtain ⟨rfl, hC1, e1, e2⟩ := p_558
  have hM1 := MI_9 hM e1 e2
  refine sp_goS (S' := [.int ((r_comesTrue σ (xs (i + 1)))).1]) rfl ?_
  refine rb_aload_n X (pc := 561) dL_law_561 rfl rfl ?_
  refine rb_aload_n X (pc := 562) dL_law_562 rfl rfl ?_
  refine rb_iload_n X (pc := 563) dL_law_563 rfl rfl ?_
  refine rb_iconst (v := 1) X (pc := 564) dL_law_564 (by decide) ?_
  refine rb_iadd X (pc := 565) dL_law_565 ?_
  refine rl_sld X (pc := 566) V (i + 1) (nI_add i 1) (by omega) (by omega) dL_law_566 ?_
  refine rc_callV X (pc := 567) cvX5_comesTrue mL_59 rb_ob9 (qX5_comesTrue hS hM1 _) (by decide) rfl rfl (Nat.le_of_ble_eq_true rfl) dL_law_567 (fun r_567 h_567 p_567 => ?_)
  obtain ⟨rfl, hM2, ho⟩ := p_567
  refine sp_goS (S' := [.int ((r_comesTrue σ (xs (i + 1)))).1, .int ((r_comesTrue σ (xs (i + 1)))).1]) rfl ?_
  refine rb_icmp_eq X (pc := 570) (tgt := 1426) dL_law_570 (by decide) (fun c570 => ?_) (fun c570 => absurd rfl c570)
  exact K _ _ (ok_comesTrue hS _) (CI_ot hC1 ho) hM2
set_option maxRecDepth 100000 in
set_option maxHeartbeats 1000000 in
theorem lawC_11 {Z : rb_Z} {G : rb_G} {σ : Sg} {h : rb_H} {b N i : Nat} {xs : Nat → Int32} (X : rb_CX Z G cL_law 4 RL 11) (V : rl_X Z b N xs) (hN : N < 2 ^ 31) (hi : i + 5 < N) (hS : okS σ) (hC : CI σ h) (hM : MI σ h) (K : ∀ (σ2 : Sg) (h2 : rb_H), okS σ2 → CI σ2 h2 → MI σ2 h2 → rb_WP Z G 4 1426 [.ref b, .ref (rb_ad G 8 0), .ref (rb_ad G 9 0), .int (nI i)] [] h2) : rb_WP Z G 4 575 [.ref b, .ref (rb_ad G 8 0), .ref (rb_ad G 9 0), .int (nI i)] [] h := by
  refine rb_aload_n X (pc := 575) dL_law_575 rfl rfl ?_
  refine rb_aload_n X (pc := 576) dL_law_576 rfl rfl ?_
  refine rb_iload_n X (pc := 577) dL_law_577 rfl rfl ?_
  refine rb_iconst (v := 1) X (pc := 578) dL_law_578 (by decide) ?_
  refine rb_iadd X (pc := 579) dL_law_579 ?_
  refine rl_sld X (pc := 580) V (i + 1) (nI_add i 1) (by omega) (by omega) dL_law_580 ?_
  refine rc_callV X (pc := 581) cvX4_forget mL_60 rb_ob8 (qX4_forget hS hC _) (by decide) rfl rfl (Nat.le_of_ble_eq_true rfl) dL_law_581 (fun r_581 h_581 p_581 => ?_)
  obtain ⟨rfl, hC1, e1, e2⟩ := p_581
  have hM1 := MI_9 hM e1 e2
  refine sp_goS (S' := [.int ((r_forget σ (xs (i + 1)))).1]) rfl ?_
  refine rb_aload_n X (pc := 584) dL_law_584 rfl rfl ?_
  refine rb_aload_n X (pc := 585) dL_law_585 rfl rfl ?_
  refine rb_iload_n X (pc := 586) dL_law_586 rfl rfl ?_
  refine rb_iconst (v := 1) X (pc := 587) dL_law_587 (by decide) ?_
  refine rb_iadd X (pc := 588) dL_law_588 ?_
  refine rl_sld X (pc := 589) V (i + 1) (nI_add i 1) (by omega) (by omega) dL_law_589 ?_
  refine rc_callV X (pc := 590) cvX5_forget mL_63 rb_ob9 (qX5_forget hS hM1 _) (by decide) rfl rfl (Nat.le_of_ble_eq_true rfl) dL_law_590 (fun r_590 h_590 p_590 => ?_)
  obtain ⟨rfl, hM2, ho⟩ := p_590
  refine sp_goS (S' := [.int ((r_forget σ (xs (i + 1)))).1, .int ((r_forget σ (xs (i + 1)))).1]) rfl ?_
  refine rb_icmp_eq X (pc := 593) (tgt := 1426) dL_law_593 (by decide) (fun c593 => ?_) (fun c593 => absurd rfl c593)
  exact K _ _ (ok_forget hS _) (CI_ot hC1 ho) hM2
set_option maxRecDepth 100000 in
set_option maxHeartbeats 1000000 in
theorem lawC_12 {Z : rb_Z} {G : rb_G} {σ : Sg} {h : rb_H} {b N i : Nat} {xs : Nat → Int32} (X : rb_CX Z G cL_law 4 RL 11) (V : rl_X Z b N xs) (hN : N < 2 ^ 31) (hi : i + 5 < N) (hS : okS σ) (hC : CI σ h) (hM : MI σ h) (K : ∀ (σ2 : Sg) (h2 : rb_H), okS σ2 → CI σ2 h2 → MI σ2 h2 → rb_WP Z G 4 1426 [.ref b, .ref (rb_ad G 8 0), .ref (rb_ad G 9 0), .int (nI i)] [] h2) : rb_WP Z G 4 598 [.ref b, .ref (rb_ad G 8 0), .ref (rb_ad G 9 0), .int (nI i)] [] h := by
  refine rb_aload_n X (pc := 598) dL_law_598 rfl rfl ?_
  refine rb_aload_n X (pc := 599) dL_law_599 rfl rfl ?_
  refine rb_iload_n X (pc := 600) dL_law_600 rfl rfl ?_
  refine rb_iconst (v := 1) X (pc := 601) dL_law_601 (by decide) ?_
  refine rb_iadd X (pc := 602) dL_law_602 ?_
  refine rl_sld X (pc := 603) V (i + 1) (nI_add i 1) (by omega) (by omega) dL_law_603 ?_
  refine rc_callV X (pc := 604) cvX4_days mL_64 rb_ob8 (qX4_days hS hC _) (by decide) rfl rfl (Nat.le_of_ble_eq_true rfl) dL_law_604 (fun r_604 h_604 p_604 => ?_)
  obtain ⟨rfl, hC1, e1, e2⟩ := p_604
  have hM1 := MI_9 hM e1 e2
  refine sp_goS (S' := [.int ((r_days σ (xs (i + 1)))).1]) rfl ?_
  refine rb_aload_n X (pc := 607) dL_law_607 rfl rfl ?_
  refine rb_aload_n X (pc := 608) dL_law_608 rfl rfl ?_
  refine rb_iload_n X (pc := 609) dL_law_609 rfl rfl ?_
  refine rb_iconst (v := 1) X (pc := 610) dL_law_610 (by decide) ?_
  refine rb_iadd X (pc := 611) dL_law_611 ?_
  refine rl_sld X (pc := 612) V (i + 1) (nI_add i 1) (by omega) (by omega) dL_law_612 ?_
  refine rc_callV X (pc := 613) cvX5_days mL_67 rb_ob9 (qX5_days hS hM1 _) (by decide) rfl rfl (Nat.le_of_ble_eq_true rfl) dL_law_613 (fun r_613 h_613 p_613 => ?_)
  obtain ⟨rfl, hM2, ho⟩ := p_613
  refine sp_goS (S' := [.int ((r_days σ (xs (i + 1)))).1, .int ((r_days σ (xs (i + 1)))).1]) rfl ?_
  refine rb_icmp_eq X (pc := 616) (tgt := 1426) dL_law_616 (by decide) (fun c616 => ?_) (fun c616 => absurd rfl c616)
  exact K _ _ (ok_days hS _) (CI_ot hC1 ho) hM2
set_option maxRecDepth 100000 in
set_option maxHeartbeats 1000000 in
theorem lawC_13 {Z : rb_Z} {G : rb_G} {σ : Sg} {h : rb_H} {b N i : Nat} {xs : Nat → Int32} (X : rb_CX Z G cL_law 4 RL 11) (V : rl_X Z b N xs) (hN : N < 2 ^ 31) (hi : i + 5 < N) (hS : okS σ) (hC : CI σ h) (hM : MI σ h) (K : ∀ (σ2 : Sg) (h2 : rb_H), okS σ2 → CI σ2 h2 → MI σ2 h2 → rb_WP Z G 4 1426 [.ref b, .ref (rb_ad G 8 0), .ref (rb_ad G 9 0), .int (nI i)] [] h2) : rb_WP Z G 4 621 [.ref b, .ref (rb_ad G 8 0), .ref (rb_ad G 9 0), .int (nI i)] [] h := by
  refine rb_aload_n X (pc := 621) dL_law_621 rfl rfl ?_
  refine rb_aload_n X (pc := 622) dL_law_622 rfl rfl ?_
  refine rb_iload_n X (pc := 623) dL_law_623 rfl rfl ?_
  refine rb_iconst (v := 1) X (pc := 624) dL_law_624 (by decide) ?_
  refine rb_iadd X (pc := 625) dL_law_625 ?_
  refine rl_sld X (pc := 626) V (i + 1) (nI_add i 1) (by omega) (by omega) dL_law_626 ?_
  refine rc_callV X (pc := 627) cvX4_now mL_68 rb_ob8 (qX4_now hS hC _) (by decide) rfl rfl (Nat.le_of_ble_eq_true rfl) dL_law_627 (fun r_627 h_627 p_627 => ?_)
  obtain ⟨rfl, hC1, e1, e2⟩ := p_627
  have hM1 := MI_9 hM e1 e2
  refine sp_goS (S' := [.int ((r_now σ (xs (i + 1)))).1]) rfl ?_
  refine rb_aload_n X (pc := 630) dL_law_630 rfl rfl ?_
  refine rb_aload_n X (pc := 631) dL_law_631 rfl rfl ?_
  refine rb_iload_n X (pc := 632) dL_law_632 rfl rfl ?_
  refine rb_iconst (v := 1) X (pc := 633) dL_law_633 (by decide) ?_
  refine rb_iadd X (pc := 634) dL_law_634 ?_
  refine rl_sld X (pc := 635) V (i + 1) (nI_add i 1) (by omega) (by omega) dL_law_635 ?_
  refine rc_callV X (pc := 636) cvX5_now mL_71 rb_ob9 (qX5_now hS hM1 _) (by decide) rfl rfl (Nat.le_of_ble_eq_true rfl) dL_law_636 (fun r_636 h_636 p_636 => ?_)
  obtain ⟨rfl, hM2, ho⟩ := p_636
  refine sp_goS (S' := [.int ((r_now σ (xs (i + 1)))).1, .int ((r_now σ (xs (i + 1)))).1]) rfl ?_
  refine rb_icmp_eq X (pc := 639) (tgt := 1426) dL_law_639 (by decide) (fun c639 => ?_) (fun c639 => absurd rfl c639)
  exact K _ _ (ok_now hS _) (CI_ot hC1 ho) hM2
set_option maxRecDepth 100000 in
set_option maxHeartbeats 1000000 in
theorem lawC_14 {Z : rb_Z} {G : rb_G} {σ : Sg} {h : rb_H} {b N i : Nat} {xs : Nat → Int32} (X : rb_CX Z G cL_law 4 RL 11) (V : rl_X Z b N xs) (hN : N < 2 ^ 31) (hi : i + 5 < N) (hS : okS σ) (hC : CI σ h) (hM : MI σ h) (K : ∀ (σ2 : Sg) (h2 : rb_H), okS σ2 → CI σ2 h2 → MI σ2 h2 → rb_WP Z G 4 1426 [.ref b, .ref (rb_ad G 8 0), .ref (rb_ad G 9 0), .int (nI i)] [] h2) : rb_WP Z G 4 644 [.ref b, .ref (rb_ad G 8 0), .ref (rb_ad G 9 0), .int (nI i)] [] h := by
  refine rb_aload_n X (pc := 644) dL_law_644 rfl rfl ?_
  refine rb_aload_n X (pc := 645) dL_law_645 rfl rfl ?_
  refine rb_iload_n X (pc := 646) dL_law_646 rfl rfl ?_
  refine rb_iconst (v := 1) X (pc := 647) dL_law_647 (by decide) ?_
  refine rb_iadd X (pc := 648) dL_law_648 ?_
  refine rl_sld X (pc := 649) V (i + 1) (nI_add i 1) (by omega) (by omega) dL_law_649 ?_
  refine rb_aload_n X (pc := 650) dL_law_650 rfl rfl ?_
  refine rb_iload_n X (pc := 651) dL_law_651 rfl rfl ?_
  refine rb_iconst (v := 2) X (pc := 652) dL_law_652 (by decide) ?_
  refine rb_iadd X (pc := 653) dL_law_653 ?_
  refine rl_sld X (pc := 654) V (i + 2) (nI_add i 2) (by omega) (by omega) dL_law_654 ?_
  refine rb_aload_n X (pc := 655) dL_law_655 rfl rfl ?_
  refine rb_iload_n X (pc := 656) dL_law_656 rfl rfl ?_
  refine rb_iconst (v := 3) X (pc := 657) dL_law_657 (by decide) ?_
  refine rb_iadd X (pc := 658) dL_law_658 ?_
  refine rl_sld X (pc := 659) V (i + 3) (nI_add i 3) (by omega) (by omega) dL_law_659 ?_
  refine rc_callV X (pc := 660) cvX4_on mL_72 rb_ob8 (qX4_on hS hC _ _ _) (by decide) rfl rfl (Nat.le_of_ble_eq_true rfl) dL_law_660 (fun r_660 h_660 p_660 => ?_)
  obtain ⟨rfl, hC1, e1, e2⟩ := p_660
  have hM1 := MI_9 hM e1 e2
  refine sp_goS (S' := [.int ((r_on σ (xs (i + 1)) (xs (i + 2)) (xs (i + 3)))).1]) rfl ?_
  refine rb_aload_n X (pc := 663) dL_law_663 rfl rfl ?_
  refine rb_aload_n X (pc := 664) dL_law_664 rfl rfl ?_
  refine rb_iload_n X (pc := 665) dL_law_665 rfl rfl ?_
  refine rb_iconst (v := 1) X (pc := 666) dL_law_666 (by decide) ?_
  refine rb_iadd X (pc := 667) dL_law_667 ?_
  refine rl_sld X (pc := 668) V (i + 1) (nI_add i 1) (by omega) (by omega) dL_law_668 ?_
  refine rb_aload_n X (pc := 669) dL_law_669 rfl rfl ?_
  refine rb_iload_n X (pc := 670) dL_law_670 rfl rfl ?_
  refine rb_iconst (v := 2) X (pc := 671) dL_law_671 (by decide) ?_
  refine rb_iadd X (pc := 672) dL_law_672 ?_
  refine rl_sld X (pc := 673) V (i + 2) (nI_add i 2) (by omega) (by omega) dL_law_673 ?_
  refine rb_aload_n X (pc := 674) dL_law_674 rfl rfl ?_
  refine rb_iload_n X (pc := 675) dL_law_675 rfl rfl ?_
  refine rb_iconst (v := 3) X (pc := 676) dL_law_676 (by decide) ?_
  refine rb_iadd X (pc := 677) dL_law_677 ?_
  refine rl_sld X (pc := 678) V (i + 3) (nI_add i 3) (by omega) (by omega) dL_law_678 ?_
  refine rc_callV X (pc := 679) cvX5_on mL_75 rb_ob9 (qX5_on hS hM1 _ _ _) (by decide) rfl rfl (Nat.le_of_ble_eq_true rfl) dL_law_679 (fun r_679 h_679 p_679 => ?_)
  obtain ⟨rfl, hM2, ho⟩ := p_679
  refine sp_goS (S' := [.int ((r_on σ (xs (i + 1)) (xs (i + 2)) (xs (i + 3)))).1, .int ((r_on σ (xs (i + 1)) (xs (i + 2)) (xs (i + 3)))).1]) rfl ?_
  refine rb_icmp_eq X (pc := 682) (tgt := 1426) dL_law_682 (by decide) (fun c682 => ?_) (fun c682 => absurd rfl c682)
  exact K _ _ (ok_on hS _ _ _) (CI_ot hC1 ho) hM2
set_option maxRecDepth 100000 in
set_option maxHeartbeats 1000000 in
theorem lawC_15 {Z : rb_Z} {G : rb_G} {σ : Sg} {h : rb_H} {b N i : Nat} {xs : Nat → Int32} (X : rb_CX Z G cL_law 4 RL 11) (V : rl_X Z b N xs) (hN : N < 2 ^ 31) (hi : i + 5 < N) (hS : okS σ) (hC : CI σ h) (hM : MI σ h) (K : ∀ (σ2 : Sg) (h2 : rb_H), okS σ2 → CI σ2 h2 → MI σ2 h2 → rb_WP Z G 4 1426 [.ref b, .ref (rb_ad G 8 0), .ref (rb_ad G 9 0), .int (nI i)] [] h2) : rb_WP Z G 4 687 [.ref b, .ref (rb_ad G 8 0), .ref (rb_ad G 9 0), .int (nI i)] [] h := by
  refine rb_aload_n X (pc := 687) dL_law_687 rfl rfl ?_
  refine rb_aload_n X (pc := 688) dL_law_688 rfl rfl ?_
  refine rb_iload_n X (pc := 689) dL_law_689 rfl rfl ?_
  refine rb_iconst (v := 1) X (pc := 690) dL_law_690 (by decide) ?_
  refine rb_iadd X (pc := 691) dL_law_691 ?_
  refine rl_sld X (pc := 692) V (i + 1) (nI_add i 1) (by omega) (by omega) dL_law_692 ?_
  refine rb_aload_n X (pc := 693) dL_law_693 rfl rfl ?_
  refine rb_iload_n X (pc := 694) dL_law_694 rfl rfl ?_
  refine rb_iconst (v := 2) X (pc := 695) dL_law_695 (by decide) ?_
  refine rb_iadd X (pc := 696) dL_law_696 ?_
  refine rl_sld X (pc := 697) V (i + 2) (nI_add i 2) (by omega) (by omega) dL_law_697 ?_
  refine rc_callV X (pc := 698) cvX4_larder mL_76 rb_ob8 (qX4_larder hS hC _ _) (by decide) rfl rfl (Nat.le_of_ble_eq_true rfl) dL_law_698 (fun r_698 h_698 p_698 => ?_)
  obtain ⟨rfl, hC1, e1, e2⟩ := p_698
  have hM1 := MI_9 hM e1 e2
  refine sp_goS (S' := [.int ((r_larder σ (xs (i + 1)) (xs (i + 2)))).1]) rfl ?_
  refine rb_aload_n X (pc := 701) dL_law_701 rfl rfl ?_
  refine rb_aload_n X (pc := 702) dL_law_702 rfl rfl ?_
  refine rb_iload_n X (pc := 703) dL_law_703 rfl rfl ?_
  refine rb_iconst (v := 1) X (pc := 704) dL_law_704 (by decide) ?_
  refine rb_iadd X (pc := 705) dL_law_705 ?_
  refine rl_sld X (pc := 706) V (i + 1) (nI_add i 1) (by omega) (by omega) dL_law_706 ?_
  refine rb_aload_n X (pc := 707) dL_law_707 rfl rfl ?_
  refine rb_iload_n X (pc := 708) dL_law_708 rfl rfl ?_
  refine rb_iconst (v := 2) X (pc := 709) dL_law_709 (by decide) ?_
  refine rb_iadd X (pc := 710) dL_law_710 ?_
  refine rl_sld X (pc := 711) V (i + 2) (nI_add i 2) (by omega) (by omega) dL_law_711 ?_
  refine rc_callV X (pc := 712) cvX5_larder mL_79 rb_ob9 (qX5_larder hS hM1 _ _) (by decide) rfl rfl (Nat.le_of_ble_eq_true rfl) dL_law_712 (fun r_712 h_712 p_712 => ?_)
  obtain ⟨rfl, hM2, ho⟩ := p_712
  refine sp_goS (S' := [.int ((r_larder σ (xs (i + 1)) (xs (i + 2)))).1, .int ((r_larder σ (xs (i + 1)) (xs (i + 2)))).1]) rfl ?_
  refine rb_icmp_eq X (pc := 715) (tgt := 1426) dL_law_715 (by decide) (fun c715 => ?_) (fun c715 => absurd rfl c715)
  exact K _ _ (ok_larder hS _ _) (CI_ot hC1 ho) hM2
set_option maxRecDepth 100000 in
set_option maxHeartbeats 1000000 in
theorem lawC_16 {Z : rb_Z} {G : rb_G} {σ : Sg} {h : rb_H} {b N i : Nat} {xs : Nat → Int32} (X : rb_CX Z G cL_law 4 RL 11) (V : rl_X Z b N xs) (hN : N < 2 ^ 31) (hi : i + 5 < N) (hS : okS σ) (hC : CI σ h) (hM : MI σ h) (K : ∀ (σ2 : Sg) (h2 : rb_H), okS σ2 → CI σ2 h2 → MI σ2 h2 → rb_WP Z G 4 1426 [.ref b, .ref (rb_ad G 8 0), .ref (rb_ad G 9 0), .int (nI i)] [] h2) : rb_WP Z G 4 720 [.ref b, .ref (rb_ad G 8 0), .ref (rb_ad G 9 0), .int (nI i)] [] h := by
  refine rb_aload_n X (pc := 720) dL_law_720 rfl rfl ?_
  refine rb_aload_n X (pc := 721) dL_law_721 rfl rfl ?_
  refine rb_iload_n X (pc := 722) dL_law_722 rfl rfl ?_
  refine rb_iconst (v := 1) X (pc := 723) dL_law_723 (by decide) ?_
  refine rb_iadd X (pc := 724) dL_law_724 ?_
  refine rl_sld X (pc := 725) V (i + 1) (nI_add i 1) (by omega) (by omega) dL_law_725 ?_
  refine rc_callV X (pc := 726) cvX4_empty mL_80 rb_ob8 (qX4_empty hS hC _) (by decide) rfl rfl (Nat.le_of_ble_eq_true rfl) dL_law_726 (fun r_726 h_726 p_726 => ?_)
  obtain ⟨rfl, hC1, e1, e2⟩ := p_726
  have hM1 := MI_9 hM e1 e2
  refine sp_goS (S' := [.int ((r_empty σ (xs (i + 1)))).1]) rfl ?_
  refine rb_aload_n X (pc := 729) dL_law_729 rfl rfl ?_
  refine rb_aload_n X (pc := 730) dL_law_730 rfl rfl ?_
  refine rb_iload_n X (pc := 731) dL_law_731 rfl rfl ?_
  refine rb_iconst (v := 1) X (pc := 732) dL_law_732 (by decide) ?_
  refine rb_iadd X (pc := 733) dL_law_733 ?_
  refine rl_sld X (pc := 734) V (i + 1) (nI_add i 1) (by omega) (by omega) dL_law_734 ?_
  refine rc_callV X (pc := 735) cvX5_empty mL_83 rb_ob9 (qX5_empty hS hM1 _) (by decide) rfl rfl (Nat.le_of_ble_eq_true rfl) dL_law_735 (fun r_735 h_735 p_735 => ?_)
  obtain ⟨rfl, hM2, ho⟩ := p_735
  refine sp_goS (S' := [.int ((r_empty σ (xs (i + 1)))).1, .int ((r_empty σ (xs (i + 1)))).1]) rfl ?_
  refine rb_icmp_eq X (pc := 738) (tgt := 1426) dL_law_738 (by decide) (fun c738 => ?_) (fun c738 => absurd rfl c738)
  exact K _ _ (ok_empty hS _) (CI_ot hC1 ho) hM2
set_option maxRecDepth 100000 in
set_option maxHeartbeats 1000000 in
theorem lawC_17 {Z : rb_Z} {G : rb_G} {σ : Sg} {h : rb_H} {b N i : Nat} {xs : Nat → Int32} (X : rb_CX Z G cL_law 4 RL 11) (V : rl_X Z b N xs) (hN : N < 2 ^ 31) (hi : i + 5 < N) (hS : okS σ) (hC : CI σ h) (hM : MI σ h) (K : ∀ (σ2 : Sg) (h2 : rb_H), okS σ2 → CI σ2 h2 → MI σ2 h2 → rb_WP Z G 4 1426 [.ref b, .ref (rb_ad G 8 0), .ref (rb_ad G 9 0), .int (nI i)] [] h2) : rb_WP Z G 4 743 [.ref b, .ref (rb_ad G 8 0), .ref (rb_ad G 9 0), .int (nI i)] [] h := by
  refine rb_aload_n X (pc := 743) dL_law_743 rfl rfl ?_
  refine rb_aload_n X (pc := 744) dL_law_744 rfl rfl ?_
  refine rb_iload_n X (pc := 745) dL_law_745 rfl rfl ?_
  refine rb_iconst (v := 1) X (pc := 746) dL_law_746 (by decide) ?_
  refine rb_iadd X (pc := 747) dL_law_747 ?_
  refine rl_sld X (pc := 748) V (i + 1) (nI_add i 1) (by omega) (by omega) dL_law_748 ?_
  refine rc_callV X (pc := 749) cvX4_many mL_84 rb_ob8 (qX4_many hS hC _) (by decide) rfl rfl (Nat.le_of_ble_eq_true rfl) dL_law_749 (fun r_749 h_749 p_749 => ?_)
  obtain ⟨rfl, hC1, e1, e2⟩ := p_749
  have hM1 := MI_9 hM e1 e2
  refine sp_goS (S' := [.int ((r_many σ (xs (i + 1)))).1]) rfl ?_
  refine rb_aload_n X (pc := 752) dL_law_752 rfl rfl ?_
  refine rb_aload_n X (pc := 753) dL_law_753 rfl rfl ?_
  refine rb_iload_n X (pc := 754) dL_law_754 rfl rfl ?_
  refine rb_iconst (v := 1) X (pc := 755) dL_law_755 (by decide) ?_
  refine rb_iadd X (pc := 756) dL_law_756 ?_
  refine rl_sld X (pc := 757) V (i + 1) (nI_add i 1) (by omega) (by omega) dL_law_757 ?_
  refine rc_callV X (pc := 758) cvX5_many mL_87 rb_ob9 (qX5_many hS hM1 _) (by decide) rfl rfl (Nat.le_of_ble_eq_true rfl) dL_law_758 (fun r_758 h_758 p_758 => ?_)
  obtain ⟨rfl, hM2, ho⟩ := p_758
  refine sp_goS (S' := [.int ((r_many σ (xs (i + 1)))).1, .int ((r_many σ (xs (i + 1)))).1]) rfl ?_
  refine rb_icmp_eq X (pc := 761) (tgt := 1426) dL_law_761 (by decide) (fun c761 => ?_) (fun c761 => absurd rfl c761)
  exact K _ _ (ok_many hS _) (CI_ot hC1 ho) hM2
set_option maxRecDepth 100000 in
set_option maxHeartbeats 1000000 in
theorem lawC_18 {Z : rb_Z} {G : rb_G} {σ : Sg} {h : rb_H} {b N i : Nat} {xs : Nat → Int32} (X : rb_CX Z G cL_law 4 RL 11) (V : rl_X Z b N xs) (hN : N < 2 ^ 31) (hi : i + 5 < N) (hS : okS σ) (hC : CI σ h) (hM : MI σ h) (K : ∀ (σ2 : Sg) (h2 : rb_H), okS σ2 → CI σ2 h2 → MI σ2 h2 → rb_WP Z G 4 1426 [.ref b, .ref (rb_ad G 8 0), .ref (rb_ad G 9 0), .int (nI i)] [] h2) : rb_WP Z G 4 766 [.ref b, .ref (rb_ad G 8 0), .ref (rb_ad G 9 0), .int (nI i)] [] h := by
  refine rb_aload_n X (pc := 766) dL_law_766 rfl rfl ?_
  refine rb_aload_n X (pc := 767) dL_law_767 rfl rfl ?_
  refine rb_iload_n X (pc := 768) dL_law_768 rfl rfl ?_
  refine rb_iconst (v := 1) X (pc := 769) dL_law_769 (by decide) ?_
  refine rb_iadd X (pc := 770) dL_law_770 ?_
  refine rl_sld X (pc := 771) V (i + 1) (nI_add i 1) (by omega) (by omega) dL_law_771 ?_
  refine rc_callV X (pc := 772) cvX4_out mL_88 rb_ob8 (qX4_out hS hC _) (by decide) rfl rfl (Nat.le_of_ble_eq_true rfl) dL_law_772 (fun r_772 h_772 p_772 => ?_)
  obtain ⟨rfl, hC1, e1, e2⟩ := p_772
  have hM1 := MI_9 hM e1 e2
  refine sp_goS (S' := [.int ((r_out σ (xs (i + 1)))).1]) rfl ?_
  refine rb_aload_n X (pc := 775) dL_law_775 rfl rfl ?_
  refine rb_aload_n X (pc := 776) dL_law_776 rfl rfl ?_
  refine rb_iload_n X (pc := 777) dL_law_777 rfl rfl ?_
  refine rb_iconst (v := 1) X (pc := 778) dL_law_778 (by decide) ?_
  refine rb_iadd X (pc := 779) dL_law_779 ?_
  refine rl_sld X (pc := 780) V (i + 1) (nI_add i 1) (by omega) (by omega) dL_law_780 ?_
  refine rc_callV X (pc := 781) cvX5_out mL_91 rb_ob9 (qX5_out hS hM1 _) (by decide) rfl rfl (Nat.le_of_ble_eq_true rfl) dL_law_781 (fun r_781 h_781 p_781 => ?_)
  obtain ⟨rfl, hM2, ho⟩ := p_781
  refine sp_goS (S' := [.int ((r_out σ (xs (i + 1)))).1, .int ((r_out σ (xs (i + 1)))).1]) rfl ?_
  refine rb_icmp_eq X (pc := 784) (tgt := 1426) dL_law_784 (by decide) (fun c784 => ?_) (fun c784 => absurd rfl c784)
  exact K _ _ (ok_out hS _) (CI_ot hC1 ho) hM2
set_option maxRecDepth 100000 in
set_option maxHeartbeats 1000000 in
theorem lawC_19 {Z : rb_Z} {G : rb_G} {σ : Sg} {h : rb_H} {b N i : Nat} {xs : Nat → Int32} (X : rb_CX Z G cL_law 4 RL 11) (V : rl_X Z b N xs) (hN : N < 2 ^ 31) (hi : i + 5 < N) (hS : okS σ) (hC : CI σ h) (hM : MI σ h) (K : ∀ (σ2 : Sg) (h2 : rb_H), okS σ2 → CI σ2 h2 → MI σ2 h2 → rb_WP Z G 4 1426 [.ref b, .ref (rb_ad G 8 0), .ref (rb_ad G 9 0), .int (nI i)] [] h2) : rb_WP Z G 4 789 [.ref b, .ref (rb_ad G 8 0), .ref (rb_ad G 9 0), .int (nI i)] [] h := by
  refine rb_aload_n X (pc := 789) dL_law_789 rfl rfl ?_
  refine rb_aload_n X (pc := 790) dL_law_790 rfl rfl ?_
  refine rb_iload_n X (pc := 791) dL_law_791 rfl rfl ?_
  refine rb_iconst (v := 1) X (pc := 792) dL_law_792 (by decide) ?_
  refine rb_iadd X (pc := 793) dL_law_793 ?_
  refine rl_sld X (pc := 794) V (i + 1) (nI_add i 1) (by omega) (by omega) dL_law_794 ?_
  refine rb_aload_n X (pc := 795) dL_law_795 rfl rfl ?_
  refine rb_iload_n X (pc := 796) dL_law_796 rfl rfl ?_
  refine rb_iconst (v := 2) X (pc := 797) dL_law_797 (by decide) ?_
  refine rb_iadd X (pc := 798) dL_law_798 ?_
  refine rl_sld X (pc := 799) V (i + 2) (nI_add i 2) (by omega) (by omega) dL_law_799 ?_
  refine rc_callV X (pc := 800) cvX4_fewest mL_92 rb_ob8 (qX4_fewest hS hC _ _) (by decide) rfl rfl (Nat.le_of_ble_eq_true rfl) dL_law_800 (fun r_800 h_800 p_800 => ?_)
  obtain ⟨rfl, hC1, e1, e2⟩ := p_800
  have hM1 := MI_9 hM e1 e2
  refine sp_goS (S' := [.int ((r_fewest σ (xs (i + 1)) (xs (i + 2)))).1]) rfl ?_
  refine rb_aload_n X (pc := 803) dL_law_803 rfl rfl ?_
  refine rb_aload_n X (pc := 804) dL_law_804 rfl rfl ?_
  refine rb_iload_n X (pc := 805) dL_law_805 rfl rfl ?_
  refine rb_iconst (v := 1) X (pc := 806) dL_law_806 (by decide) ?_
  refine rb_iadd X (pc := 807) dL_law_807 ?_
  refine rl_sld X (pc := 808) V (i + 1) (nI_add i 1) (by omega) (by omega) dL_law_808 ?_
  refine rb_aload_n X (pc := 809) dL_law_809 rfl rfl ?_
  refine rb_iload_n X (pc := 810) dL_law_810 rfl rfl ?_
  refine rb_iconst (v := 2) X (pc := 811) dL_law_811 (by decide) ?_
  refine rb_iadd X (pc := 812) dL_law_812 ?_
  refine rl_sld X (pc := 813) V (i + 2) (nI_add i 2) (by omega) (by omega) dL_law_813 ?_
  refine rc_callV X (pc := 814) cvX5_fewest mL_95 rb_ob9 (qX5_fewest hS hM1 _ _) (by decide) rfl rfl (Nat.le_of_ble_eq_true rfl) dL_law_814 (fun r_814 h_814 p_814 => ?_)
  obtain ⟨rfl, hM2, ho⟩ := p_814
  refine sp_goS (S' := [.int ((r_fewest σ (xs (i + 1)) (xs (i + 2)))).1, .int ((r_fewest σ (xs (i + 1)) (xs (i + 2)))).1]) rfl ?_
  refine rb_icmp_eq X (pc := 817) (tgt := 1426) dL_law_817 (by decide) (fun c817 => ?_) (fun c817 => absurd rfl c817)
  exact K _ _ (ok_fewest hS _ _) (CI_ot hC1 ho) hM2
set_option maxRecDepth 100000 in
set_option maxHeartbeats 1000000 in
theorem lawC_20 {Z : rb_Z} {G : rb_G} {σ : Sg} {h : rb_H} {b N i : Nat} {xs : Nat → Int32} (X : rb_CX Z G cL_law 4 RL 11) (V : rl_X Z b N xs) (hN : N < 2 ^ 31) (hi : i + 5 < N) (hS : okS σ) (hC : CI σ h) (hM : MI σ h) (K : ∀ (σ2 : Sg) (h2 : rb_H), okS σ2 → CI σ2 h2 → MI σ2 h2 → rb_WP Z G 4 1426 [.ref b, .ref (rb_ad G 8 0), .ref (rb_ad G 9 0), .int (nI i)] [] h2) : rb_WP Z G 4 822 [.ref b, .ref (rb_ad G 8 0), .ref (rb_ad G 9 0), .int (nI i)] [] h := by
  refine rb_aload_n X (pc := 822) dL_law_822 rfl rfl ?_
  refine rb_aload_n X (pc := 823) dL_law_823 rfl rfl ?_
  refine rb_iload_n X (pc := 824) dL_law_824 rfl rfl ?_
  refine rb_iconst (v := 1) X (pc := 825) dL_law_825 (by decide) ?_
  refine rb_iadd X (pc := 826) dL_law_826 ?_
  refine rl_sld X (pc := 827) V (i + 1) (nI_add i 1) (by omega) (by omega) dL_law_827 ?_
  refine rc_callV X (pc := 828) cvX4_least mL_96 rb_ob8 (qX4_least hS hC _) (by decide) rfl rfl (Nat.le_of_ble_eq_true rfl) dL_law_828 (fun r_828 h_828 p_828 => ?_)
  obtain ⟨rfl, hC1, e1, e2⟩ := p_828
  have hM1 := MI_9 hM e1 e2
  refine sp_goS (S' := [.int ((r_least σ (xs (i + 1)))).1]) rfl ?_
  refine rb_aload_n X (pc := 831) dL_law_831 rfl rfl ?_
  refine rb_aload_n X (pc := 832) dL_law_832 rfl rfl ?_
  refine rb_iload_n X (pc := 833) dL_law_833 rfl rfl ?_
  refine rb_iconst (v := 1) X (pc := 834) dL_law_834 (by decide) ?_
  refine rb_iadd X (pc := 835) dL_law_835 ?_
  refine rl_sld X (pc := 836) V (i + 1) (nI_add i 1) (by omega) (by omega) dL_law_836 ?_
  refine rc_callV X (pc := 837) cvX5_least mL_99 rb_ob9 (qX5_least hS hM1 _) (by decide) rfl rfl (Nat.le_of_ble_eq_true rfl) dL_law_837 (fun r_837 h_837 p_837 => ?_)
  obtain ⟨rfl, hM2, ho⟩ := p_837
  refine sp_goS (S' := [.int ((r_least σ (xs (i + 1)))).1, .int ((r_least σ (xs (i + 1)))).1]) rfl ?_
  refine rb_icmp_eq X (pc := 840) (tgt := 1426) dL_law_840 (by decide) (fun c840 => ?_) (fun c840 => absurd rfl c840)
  exact K _ _ (ok_least hS _) (CI_ot hC1 ho) hM2
set_option maxRecDepth 100000 in
set_option maxHeartbeats 1000000 in
theorem lawC_21 {Z : rb_Z} {G : rb_G} {σ : Sg} {h : rb_H} {b N i : Nat} {xs : Nat → Int32} (X : rb_CX Z G cL_law 4 RL 11) (V : rl_X Z b N xs) (hN : N < 2 ^ 31) (hi : i + 5 < N) (hS : okS σ) (hC : CI σ h) (hM : MI σ h) (K : ∀ (σ2 : Sg) (h2 : rb_H), okS σ2 → CI σ2 h2 → MI σ2 h2 → rb_WP Z G 4 1426 [.ref b, .ref (rb_ad G 8 0), .ref (rb_ad G 9 0), .int (nI i)] [] h2) : rb_WP Z G 4 845 [.ref b, .ref (rb_ad G 8 0), .ref (rb_ad G 9 0), .int (nI i)] [] h := by
  refine rb_aload_n X (pc := 845) dL_law_845 rfl rfl ?_
  refine rb_aload_n X (pc := 846) dL_law_846 rfl rfl ?_
  refine rb_iload_n X (pc := 847) dL_law_847 rfl rfl ?_
  refine rb_iconst (v := 1) X (pc := 848) dL_law_848 (by decide) ?_
  refine rb_iadd X (pc := 849) dL_law_849 ?_
  refine rl_sld X (pc := 850) V (i + 1) (nI_add i 1) (by omega) (by omega) dL_law_850 ?_
  refine rc_callV X (pc := 851) cvX4_best mL_100 rb_ob8 (qX4_best hS hC _) (by decide) rfl rfl (Nat.le_of_ble_eq_true rfl) dL_law_851 (fun r_851 h_851 p_851 => ?_)
  obtain ⟨rfl, hC1, e1, e2⟩ := p_851
  have hM1 := MI_9 hM e1 e2
  refine sp_goS (S' := [.int ((r_best σ (xs (i + 1)))).1]) rfl ?_
  refine rb_aload_n X (pc := 854) dL_law_854 rfl rfl ?_
  refine rb_aload_n X (pc := 855) dL_law_855 rfl rfl ?_
  refine rb_iload_n X (pc := 856) dL_law_856 rfl rfl ?_
  refine rb_iconst (v := 1) X (pc := 857) dL_law_857 (by decide) ?_
  refine rb_iadd X (pc := 858) dL_law_858 ?_
  refine rl_sld X (pc := 859) V (i + 1) (nI_add i 1) (by omega) (by omega) dL_law_859 ?_
  refine rc_callV X (pc := 860) cvX5_best mL_103 rb_ob9 (qX5_best hS hM1 _) (by decide) rfl rfl (Nat.le_of_ble_eq_true rfl) dL_law_860 (fun r_860 h_860 p_860 => ?_)
  obtain ⟨rfl, hM2, ho⟩ := p_860
  refine sp_goS (S' := [.int ((r_best σ (xs (i + 1)))).1, .int ((r_best σ (xs (i + 1)))).1]) rfl ?_
  refine rb_icmp_eq X (pc := 863) (tgt := 1426) dL_law_863 (by decide) (fun c863 => ?_) (fun c863 => absurd rfl c863)
  exact K _ _ (ok_best hS _) (CI_ot hC1 ho) hM2
set_option maxRecDepth 100000 in
set_option maxHeartbeats 1000000 in
theorem lawC_22 {Z : rb_Z} {G : rb_G} {σ : Sg} {h : rb_H} {b N i : Nat} {xs : Nat → Int32} (X : rb_CX Z G cL_law 4 RL 11) (V : rl_X Z b N xs) (hN : N < 2 ^ 31) (hi : i + 5 < N) (hS : okS σ) (hC : CI σ h) (hM : MI σ h) (K : ∀ (σ2 : Sg) (h2 : rb_H), okS σ2 → CI σ2 h2 → MI σ2 h2 → rb_WP Z G 4 1426 [.ref b, .ref (rb_ad G 8 0), .ref (rb_ad G 9 0), .int (nI i)] [] h2) : rb_WP Z G 4 868 [.ref b, .ref (rb_ad G 8 0), .ref (rb_ad G 9 0), .int (nI i)] [] h := by
  refine rb_aload_n X (pc := 868) dL_law_868 rfl rfl ?_
  refine rb_aload_n X (pc := 869) dL_law_869 rfl rfl ?_
  refine rb_iload_n X (pc := 870) dL_law_870 rfl rfl ?_
  refine rb_iconst (v := 1) X (pc := 871) dL_law_871 (by decide) ?_
  refine rb_iadd X (pc := 872) dL_law_872 ?_
  refine rl_sld X (pc := 873) V (i + 1) (nI_add i 1) (by omega) (by omega) dL_law_873 ?_
  refine rb_aload_n X (pc := 874) dL_law_874 rfl rfl ?_
  refine rb_iload_n X (pc := 875) dL_law_875 rfl rfl ?_
  refine rb_iconst (v := 2) X (pc := 876) dL_law_876 (by decide) ?_
  refine rb_iadd X (pc := 877) dL_law_877 ?_
  refine rl_sld X (pc := 878) V (i + 2) (nI_add i 2) (by omega) (by omega) dL_law_878 ?_
  refine rc_callV X (pc := 879) cvX4_lean mL_104 rb_ob8 (qX4_lean hS hC _ _) (by decide) rfl rfl (Nat.le_of_ble_eq_true rfl) dL_law_879 (fun r_879 h_879 p_879 => ?_)
  obtain ⟨rfl, hC1, e1, e2⟩ := p_879
  have hM1 := MI_9 hM e1 e2
  refine sp_goS (S' := [.int ((r_lean σ (xs (i + 1)) (xs (i + 2)))).1]) rfl ?_
  refine rb_aload_n X (pc := 882) dL_law_882 rfl rfl ?_
  refine rb_aload_n X (pc := 883) dL_law_883 rfl rfl ?_
  refine rb_iload_n X (pc := 884) dL_law_884 rfl rfl ?_
  refine rb_iconst (v := 1) X (pc := 885) dL_law_885 (by decide) ?_
  refine rb_iadd X (pc := 886) dL_law_886 ?_
  refine rl_sld X (pc := 887) V (i + 1) (nI_add i 1) (by omega) (by omega) dL_law_887 ?_
  refine rb_aload_n X (pc := 888) dL_law_888 rfl rfl ?_
  refine rb_iload_n X (pc := 889) dL_law_889 rfl rfl ?_
  refine rb_iconst (v := 2) X (pc := 890) dL_law_890 (by decide) ?_
  refine rb_iadd X (pc := 891) dL_law_891 ?_
  refine rl_sld X (pc := 892) V (i + 2) (nI_add i 2) (by omega) (by omega) dL_law_892 ?_
  refine rc_callV X (pc := 893) cvX5_lean mL_107 rb_ob9 (qX5_lean hS hM1 _ _) (by decide) rfl rfl (Nat.le_of_ble_eq_true rfl) dL_law_893 (fun r_893 h_893 p_893 => ?_)
  obtain ⟨rfl, hM2, ho⟩ := p_893
  refine sp_goS (S' := [.int ((r_lean σ (xs (i + 1)) (xs (i + 2)))).1, .int ((r_lean σ (xs (i + 1)) (xs (i + 2)))).1]) rfl ?_
  refine rb_icmp_eq X (pc := 896) (tgt := 1426) dL_law_896 (by decide) (fun c896 => ?_) (fun c896 => absurd rfl c896)
  exact K _ _ (ok_lean hS _ _) (CI_ot hC1 ho) hM2
set_option maxRecDepth 100000 in
set_option maxHeartbeats 1000000 in
theorem lawC_23 {Z : rb_Z} {G : rb_G} {σ : Sg} {h : rb_H} {b N i : Nat} {xs : Nat → Int32} (X : rb_CX Z G cL_law 4 RL 11) (V : rl_X Z b N xs) (hN : N < 2 ^ 31) (hi : i + 5 < N) (hS : okS σ) (hC : CI σ h) (hM : MI σ h) (K : ∀ (σ2 : Sg) (h2 : rb_H), okS σ2 → CI σ2 h2 → MI σ2 h2 → rb_WP Z G 4 1426 [.ref b, .ref (rb_ad G 8 0), .ref (rb_ad G 9 0), .int (nI i)] [] h2) : rb_WP Z G 4 901 [.ref b, .ref (rb_ad G 8 0), .ref (rb_ad G 9 0), .int (nI i)] [] h := by
  refine rb_aload_n X (pc := 901) dL_law_901 rfl rfl ?_
  refine rb_aload_n X (pc := 902) dL_law_902 rfl rfl ?_
  refine rb_iload_n X (pc := 903) dL_law_903 rfl rfl ?_
  refine rb_iconst (v := 1) X (pc := 904) dL_law_904 (by decide) ?_
  refine rb_iadd X (pc := 905) dL_law_905 ?_
  refine rl_sld X (pc := 906) V (i + 1) (nI_add i 1) (by omega) (by omega) dL_law_906 ?_
  refine rb_aload_n X (pc := 907) dL_law_907 rfl rfl ?_
  refine rb_iload_n X (pc := 908) dL_law_908 rfl rfl ?_
  refine rb_iconst (v := 2) X (pc := 909) dL_law_909 (by decide) ?_
  refine rb_iadd X (pc := 910) dL_law_910 ?_
  refine rl_sld X (pc := 911) V (i + 2) (nI_add i 2) (by omega) (by omega) dL_law_911 ?_
  refine rc_callV X (pc := 912) cvX4_leanFor mL_108 rb_ob8 (qX4_leanFor hS hC _ _) (by decide) rfl rfl (Nat.le_of_ble_eq_true rfl) dL_law_912 (fun r_912 h_912 p_912 => ?_)
  obtain ⟨rfl, hC1, e1, e2⟩ := p_912
  have hM1 := MI_9 hM e1 e2
  refine sp_goS (S' := [.int ((r_leanFor σ (xs (i + 1)) (xs (i + 2)))).1]) rfl ?_
  refine rb_aload_n X (pc := 915) dL_law_915 rfl rfl ?_
  refine rb_aload_n X (pc := 916) dL_law_916 rfl rfl ?_
  refine rb_iload_n X (pc := 917) dL_law_917 rfl rfl ?_
  refine rb_iconst (v := 1) X (pc := 918) dL_law_918 (by decide) ?_
  refine rb_iadd X (pc := 919) dL_law_919 ?_
  refine rl_sld X (pc := 920) V (i + 1) (nI_add i 1) (by omega) (by omega) dL_law_920 ?_
  refine rb_aload_n X (pc := 921) dL_law_921 rfl rfl ?_
  refine rb_iload_n X (pc := 922) dL_law_922 rfl rfl ?_
  refine rb_iconst (v := 2) X (pc := 923) dL_law_923 (by decide) ?_
  refine rb_iadd X (pc := 924) dL_law_924 ?_
  refine rl_sld X (pc := 925) V (i + 2) (nI_add i 2) (by omega) (by omega) dL_law_925 ?_
  refine rc_callV X (pc := 926) cvX5_leanFor mL_111 rb_ob9 (qX5_leanFor hS hM1 _ _) (by decide) rfl rfl (Nat.le_of_ble_eq_true rfl) dL_law_926 (fun r_926 h_926 p_926 => ?_)
  obtain ⟨rfl, hM2, ho⟩ := p_926
  refine sp_goS (S' := [.int ((r_leanFor σ (xs (i + 1)) (xs (i + 2)))).1, .int ((r_leanFor σ (xs (i + 1)) (xs (i + 2)))).1]) rfl ?_
  refine rb_icmp_eq X (pc := 929) (tgt := 1426) dL_law_929 (by decide) (fun c929 => ?_) (fun c929 => absurd rfl c929)
  exact K _ _ (ok_leanFor hS _ _) (CI_ot hC1 ho) hM2
set_option maxRecDepth 100000 in
set_option maxHeartbeats 1000000 in
theorem lawC_24 {Z : rb_Z} {G : rb_G} {σ : Sg} {h : rb_H} {b N i : Nat} {xs : Nat → Int32} (X : rb_CX Z G cL_law 4 RL 11) (V : rl_X Z b N xs) (hN : N < 2 ^ 31) (hi : i + 5 < N) (hS : okS σ) (hC : CI σ h) (hM : MI σ h) (K : ∀ (σ2 : Sg) (h2 : rb_H), okS σ2 → CI σ2 h2 → MI σ2 h2 → rb_WP Z G 4 1426 [.ref b, .ref (rb_ad G 8 0), .ref (rb_ad G 9 0), .int (nI i)] [] h2) : rb_WP Z G 4 934 [.ref b, .ref (rb_ad G 8 0), .ref (rb_ad G 9 0), .int (nI i)] [] h := by
  refine rb_aload_n X (pc := 934) dL_law_934 rfl rfl ?_
  refine rb_aload_n X (pc := 935) dL_law_935 rfl rfl ?_
  refine rb_iload_n X (pc := 936) dL_law_936 rfl rfl ?_
  refine rb_iconst (v := 1) X (pc := 937) dL_law_937 (by decide) ?_
  refine rb_iadd X (pc := 938) dL_law_938 ?_
  refine rl_sld X (pc := 939) V (i + 1) (nI_add i 1) (by omega) (by omega) dL_law_939 ?_
  refine rc_callV X (pc := 940) cvX4_kind mL_112 rb_ob8 (qX4_kind hS hC _) (by decide) rfl rfl (Nat.le_of_ble_eq_true rfl) dL_law_940 (fun r_940 h_940 p_940 => ?_)
  obtain ⟨rfl, hC1, e1, e2⟩ := p_940
  have hM1 := MI_9 hM e1 e2
  refine sp_goS (S' := [.int ((r_kind σ (xs (i + 1)))).1]) rfl ?_
  refine rb_aload_n X (pc := 943) dL_law_943 rfl rfl ?_
  refine rb_aload_n X (pc := 944) dL_law_944 rfl rfl ?_
  refine rb_iload_n X (pc := 945) dL_law_945 rfl rfl ?_
  refine rb_iconst (v := 1) X (pc := 946) dL_law_946 (by decide) ?_
  refine rb_iadd X (pc := 947) dL_law_947 ?_
  refine rl_sld X (pc := 948) V (i + 1) (nI_add i 1) (by omega) (by omega) dL_law_948 ?_
  refine rc_callV X (pc := 949) cvX5_kind mL_115 rb_ob9 (qX5_kind hS hM1 _) (by decide) rfl rfl (Nat.le_of_ble_eq_true rfl) dL_law_949 (fun r_949 h_949 p_949 => ?_)
  obtain ⟨rfl, hM2, ho⟩ := p_949
  refine sp_goS (S' := [.int ((r_kind σ (xs (i + 1)))).1, .int ((r_kind σ (xs (i + 1)))).1]) rfl ?_
  refine rb_icmp_eq X (pc := 952) (tgt := 1426) dL_law_952 (by decide) (fun c952 => ?_) (fun c952 => absurd rfl c952)
  exact K _ _ (ok_kind hS _) (CI_ot hC1 ho) hM2
set_option maxRecDepth 100000 in
set_option maxHeartbeats 1000000 in
theorem lawC_25 {Z : rb_Z} {G : rb_G} {σ : Sg} {h : rb_H} {b N i : Nat} {xs : Nat → Int32} (X : rb_CX Z G cL_law 4 RL 11) (V : rl_X Z b N xs) (hN : N < 2 ^ 31) (hi : i + 5 < N) (hS : okS σ) (hC : CI σ h) (hM : MI σ h) (K : ∀ (σ2 : Sg) (h2 : rb_H), okS σ2 → CI σ2 h2 → MI σ2 h2 → rb_WP Z G 4 1426 [.ref b, .ref (rb_ad G 8 0), .ref (rb_ad G 9 0), .int (nI i)] [] h2) : rb_WP Z G 4 957 [.ref b, .ref (rb_ad G 8 0), .ref (rb_ad G 9 0), .int (nI i)] [] h := by
  refine rb_aload_n X (pc := 957) dL_law_957 rfl rfl ?_
  refine rb_aload_n X (pc := 958) dL_law_958 rfl rfl ?_
  refine rb_iload_n X (pc := 959) dL_law_959 rfl rfl ?_
  refine rb_iconst (v := 1) X (pc := 960) dL_law_960 (by decide) ?_
  refine rb_iadd X (pc := 961) dL_law_961 ?_
  refine rl_sld X (pc := 962) V (i + 1) (nI_add i 1) (by omega) (by omega) dL_law_962 ?_
  refine rc_callV X (pc := 963) cvX4_host mL_116 rb_ob8 (qX4_host hS hC _) (by decide) rfl rfl (Nat.le_of_ble_eq_true rfl) dL_law_963 (fun r_963 h_963 p_963 => ?_)
  obtain ⟨rfl, hC1, e1, e2⟩ := p_963
  have hM1 := MI_9 hM e1 e2
  refine sp_goS (S' := [.int ((r_host σ (xs (i + 1)))).1]) rfl ?_
  refine rb_aload_n X (pc := 966) dL_law_966 rfl rfl ?_
  refine rb_aload_n X (pc := 967) dL_law_967 rfl rfl ?_
  refine rb_iload_n X (pc := 968) dL_law_968 rfl rfl ?_
  refine rb_iconst (v := 1) X (pc := 969) dL_law_969 (by decide) ?_
  refine rb_iadd X (pc := 970) dL_law_970 ?_
  refine rl_sld X (pc := 971) V (i + 1) (nI_add i 1) (by omega) (by omega) dL_law_971 ?_
  refine rc_callV X (pc := 972) cvX5_host mL_119 rb_ob9 (qX5_host hS hM1 _) (by decide) rfl rfl (Nat.le_of_ble_eq_true rfl) dL_law_972 (fun r_972 h_972 p_972 => ?_)
  obtain ⟨rfl, hM2, ho⟩ := p_972
  refine sp_goS (S' := [.int ((r_host σ (xs (i + 1)))).1, .int ((r_host σ (xs (i + 1)))).1]) rfl ?_
  refine rb_icmp_eq X (pc := 975) (tgt := 1426) dL_law_975 (by decide) (fun c975 => ?_) (fun c975 => absurd rfl c975)
  exact K _ _ (ok_host hS _) (CI_ot hC1 ho) hM2
set_option maxRecDepth 100000 in
set_option maxHeartbeats 1000000 in
theorem lawC_26 {Z : rb_Z} {G : rb_G} {σ : Sg} {h : rb_H} {b N i : Nat} {xs : Nat → Int32} (X : rb_CX Z G cL_law 4 RL 11) (V : rl_X Z b N xs) (hN : N < 2 ^ 31) (hi : i + 5 < N) (hS : okS σ) (hC : CI σ h) (hM : MI σ h) (K : ∀ (σ2 : Sg) (h2 : rb_H), okS σ2 → CI σ2 h2 → MI σ2 h2 → rb_WP Z G 4 1426 [.ref b, .ref (rb_ad G 8 0), .ref (rb_ad G 9 0), .int (nI i)] [] h2) : rb_WP Z G 4 980 [.ref b, .ref (rb_ad G 8 0), .ref (rb_ad G 9 0), .int (nI i)] [] h := by
  refine rb_aload_n X (pc := 980) dL_law_980 rfl rfl ?_
  refine rb_aload_n X (pc := 981) dL_law_981 rfl rfl ?_
  refine rb_iload_n X (pc := 982) dL_law_982 rfl rfl ?_
  refine rb_iconst (v := 1) X (pc := 983) dL_law_983 (by decide) ?_
  refine rb_iadd X (pc := 984) dL_law_984 ?_
  refine rl_sld X (pc := 985) V (i + 1) (nI_add i 1) (by omega) (by omega) dL_law_985 ?_
  refine rb_aload_n X (pc := 986) dL_law_986 rfl rfl ?_
  refine rb_iload_n X (pc := 987) dL_law_987 rfl rfl ?_
  refine rb_iconst (v := 2) X (pc := 988) dL_law_988 (by decide) ?_
  refine rb_iadd X (pc := 989) dL_law_989 ?_
  refine rl_sld X (pc := 990) V (i + 2) (nI_add i 2) (by omega) (by omega) dL_law_990 ?_
  refine rc_callV X (pc := 991) cvX4_beds mL_120 rb_ob8 (qX4_beds hS hC _ _) (by decide) rfl rfl (Nat.le_of_ble_eq_true rfl) dL_law_991 (fun r_991 h_991 p_991 => ?_)
  obtain ⟨rfl, hC1, e1, e2⟩ := p_991
  have hM1 := MI_9 hM e1 e2
  refine sp_goS (S' := [.int ((r_beds σ (xs (i + 1)) (xs (i + 2)))).1]) rfl ?_
  refine rb_aload_n X (pc := 994) dL_law_994 rfl rfl ?_
  refine rb_aload_n X (pc := 995) dL_law_995 rfl rfl ?_
  refine rb_iload_n X (pc := 996) dL_law_996 rfl rfl ?_
  refine rb_iconst (v := 1) X (pc := 997) dL_law_997 (by decide) ?_
  refine rb_iadd X (pc := 998) dL_law_998 ?_
  refine rl_sld X (pc := 999) V (i + 1) (nI_add i 1) (by omega) (by omega) dL_law_999 ?_
  refine rb_aload_n X (pc := 1000) dL_law_1000 rfl rfl ?_
  refine rb_iload_n X (pc := 1001) dL_law_1001 rfl rfl ?_
  refine rb_iconst (v := 2) X (pc := 1002) dL_law_1002 (by decide) ?_
  refine rb_iadd X (pc := 1003) dL_law_1003 ?_
  refine rl_sld X (pc := 1004) V (i + 2) (nI_add i 2) (by omega) (by omega) dL_law_1004 ?_
  refine rc_callV X (pc := 1005) cvX5_beds mL_123 rb_ob9 (qX5_beds hS hM1 _ _) (by decide) rfl rfl (Nat.le_of_ble_eq_true rfl) dL_law_1005 (fun r_1005 h_1005 p_1005 => ?_)
  obtain ⟨rfl, hM2, ho⟩ := p_1005
  refine sp_goS (S' := [.int ((r_beds σ (xs (i + 1)) (xs (i + 2)))).1, .int ((r_beds σ (xs (i + 1)) (xs (i + 2)))).1]) rfl ?_
  refine rb_icmp_eq X (pc := 1008) (tgt := 1426) dL_law_1008 (by decide) (fun c1008 => ?_) (fun c1008 => absurd rfl c1008)
  exact K _ _ (ok_beds hS _ _) (CI_ot hC1 ho) hM2
set_option maxRecDepth 100000 in
set_option maxHeartbeats 1000000 in
theorem lawC_27 {Z : rb_Z} {G : rb_G} {σ : Sg} {h : rb_H} {b N i : Nat} {xs : Nat → Int32} (X : rb_CX Z G cL_law 4 RL 11) (V : rl_X Z b N xs) (hN : N < 2 ^ 31) (hi : i + 5 < N) (hS : okS σ) (hC : CI σ h) (hM : MI σ h) (K : ∀ (σ2 : Sg) (h2 : rb_H), okS σ2 → CI σ2 h2 → MI σ2 h2 → rb_WP Z G 4 1426 [.ref b, .ref (rb_ad G 8 0), .ref (rb_ad G 9 0), .int (nI i)] [] h2) : rb_WP Z G 4 1013 [.ref b, .ref (rb_ad G 8 0), .ref (rb_ad G 9 0), .int (nI i)] [] h := by
  refine rb_aload_n X (pc := 1013) dL_law_1013 rfl rfl ?_
  refine rb_aload_n X (pc := 1014) dL_law_1014 rfl rfl ?_
  refine rb_iload_n X (pc := 1015) dL_law_1015 rfl rfl ?_
  refine rb_iconst (v := 1) X (pc := 1016) dL_law_1016 (by decide) ?_
  refine rb_iadd X (pc := 1017) dL_law_1017 ?_
  refine rl_sld X (pc := 1018) V (i + 1) (nI_add i 1) (by omega) (by omega) dL_law_1018 ?_
  refine rb_aload_n X (pc := 1019) dL_law_1019 rfl rfl ?_
  refine rb_iload_n X (pc := 1020) dL_law_1020 rfl rfl ?_
  refine rb_iconst (v := 2) X (pc := 1021) dL_law_1021 (by decide) ?_
  refine rb_iadd X (pc := 1022) dL_law_1022 ?_
  refine rl_sld X (pc := 1023) V (i + 2) (nI_add i 2) (by omega) (by omega) dL_law_1023 ?_
  refine rc_callV X (pc := 1024) cvX4_feed mL_124 rb_ob8 (qX4_feed hS hC _ _) (by decide) rfl rfl (Nat.le_of_ble_eq_true rfl) dL_law_1024 (fun r_1024 h_1024 p_1024 => ?_)
  obtain ⟨rfl, hC1, e1, e2⟩ := p_1024
  have hM1 := MI_9 hM e1 e2
  refine sp_goS (S' := [.int ((r_feed σ (xs (i + 1)) (xs (i + 2)))).1]) rfl ?_
  refine rb_aload_n X (pc := 1027) dL_law_1027 rfl rfl ?_
  refine rb_aload_n X (pc := 1028) dL_law_1028 rfl rfl ?_
  refine rb_iload_n X (pc := 1029) dL_law_1029 rfl rfl ?_
  refine rb_iconst (v := 1) X (pc := 1030) dL_law_1030 (by decide) ?_
  refine rb_iadd X (pc := 1031) dL_law_1031 ?_
  refine rl_sld X (pc := 1032) V (i + 1) (nI_add i 1) (by omega) (by omega) dL_law_1032 ?_
  refine rb_aload_n X (pc := 1033) dL_law_1033 rfl rfl ?_
  refine rb_iload_n X (pc := 1034) dL_law_1034 rfl rfl ?_
  refine rb_iconst (v := 2) X (pc := 1035) dL_law_1035 (by decide) ?_
  refine rb_iadd X (pc := 1036) dL_law_1036 ?_
  refine rl_sld X (pc := 1037) V (i + 2) (nI_add i 2) (by omega) (by omega) dL_law_1037 ?_
  refine rc_callV X (pc := 1038) cvX5_feed mL_127 rb_ob9 (qX5_feed hS hM1 _ _) (by decide) rfl rfl (Nat.le_of_ble_eq_true rfl) dL_law_1038 (fun r_1038 h_1038 p_1038 => ?_)
  obtain ⟨rfl, hM2, ho⟩ := p_1038
  refine sp_goS (S' := [.int ((r_feed σ (xs (i + 1)) (xs (i + 2)))).1, .int ((r_feed σ (xs (i + 1)) (xs (i + 2)))).1]) rfl ?_
  refine rb_icmp_eq X (pc := 1041) (tgt := 1426) dL_law_1041 (by decide) (fun c1041 => ?_) (fun c1041 => absurd rfl c1041)
  exact K _ _ (ok_feed hS _ _) (CI_ot hC1 ho) hM2
set_option maxRecDepth 100000 in
set_option maxHeartbeats 1000000 in
theorem lawC_28 {Z : rb_Z} {G : rb_G} {σ : Sg} {h : rb_H} {b N i : Nat} {xs : Nat → Int32} (X : rb_CX Z G cL_law 4 RL 11) (V : rl_X Z b N xs) (hN : N < 2 ^ 31) (hi : i + 5 < N) (hS : okS σ) (hC : CI σ h) (hM : MI σ h) (K : ∀ (σ2 : Sg) (h2 : rb_H), okS σ2 → CI σ2 h2 → MI σ2 h2 → rb_WP Z G 4 1426 [.ref b, .ref (rb_ad G 8 0), .ref (rb_ad G 9 0), .int (nI i)] [] h2) : rb_WP Z G 4 1046 [.ref b, .ref (rb_ad G 8 0), .ref (rb_ad G 9 0), .int (nI i)] [] h := by
  refine rb_aload_n X (pc := 1046) dL_law_1046 rfl rfl ?_
  refine rc_callV X (pc := 1047) cvX4_wipe mL_128 rb_ob8 (qX4_wipe hS hC ) (by decide) rfl rfl (Nat.le_of_ble_eq_true rfl) dL_law_1047 (fun r_1047 h_1047 p_1047 => ?_)
  obtain ⟨rfl, hC1, e1, e2⟩ := p_1047
  have hM1 := MI_9 hM e1 e2
  refine sp_goS (S' := [.int ((r_wipe σ)).1]) rfl ?_
  refine rb_aload_n X (pc := 1050) dL_law_1050 rfl rfl ?_
  refine rc_callV X (pc := 1051) cvX5_wipe mL_132 rb_ob9 (qX5_wipe hS hM1 ) (by decide) rfl rfl (Nat.le_of_ble_eq_true rfl) dL_law_1051 (fun r_1051 h_1051 p_1051 => ?_)
  obtain ⟨rfl, hM2, ho⟩ := p_1051
  refine sp_goS (S' := [.int ((r_wipe σ)).1, .int ((r_wipe σ)).1]) rfl ?_
  refine rb_icmp_eq X (pc := 1054) (tgt := 1426) dL_law_1054 (by decide) (fun c1054 => ?_) (fun c1054 => absurd rfl c1054)
  exact K _ _ (ok_wipe hS ) (CI_ot hC1 ho) hM2
set_option maxRecDepth 100000 in
set_option maxHeartbeats 1000000 in
theorem lawC_29 {Z : rb_Z} {G : rb_G} {σ : Sg} {h : rb_H} {b N i : Nat} {xs : Nat → Int32} (X : rb_CX Z G cL_law 4 RL 11) (V : rl_X Z b N xs) (hN : N < 2 ^ 31) (hi : i + 5 < N) (hS : okS σ) (hC : CI σ h) (hM : MI σ h) (K : ∀ (σ2 : Sg) (h2 : rb_H), okS σ2 → CI σ2 h2 → MI σ2 h2 → rb_WP Z G 4 1426 [.ref b, .ref (rb_ad G 8 0), .ref (rb_ad G 9 0), .int (nI i)] [] h2) : rb_WP Z G 4 1059 [.ref b, .ref (rb_ad G 8 0), .ref (rb_ad G 9 0), .int (nI i)] [] h := by
  refine rb_aload_n X (pc := 1059) dL_law_1059 rfl rfl ?_
  refine rc_callV X (pc := 1060) cvX4_town mL_133 rb_ob8 (qX4_town hS hC ) (by decide) rfl rfl (Nat.le_of_ble_eq_true rfl) dL_law_1060 (fun r_1060 h_1060 p_1060 => ?_)
  obtain ⟨rfl, hC1, e1, e2⟩ := p_1060
  have hM1 := MI_9 hM e1 e2
  refine sp_goS (S' := [.int ((r_town σ)).1]) rfl ?_
  refine rb_aload_n X (pc := 1063) dL_law_1063 rfl rfl ?_
  refine rc_callV X (pc := 1064) cvX5_town mL_136 rb_ob9 (qX5_town hS hM1 ) (by decide) rfl rfl (Nat.le_of_ble_eq_true rfl) dL_law_1064 (fun r_1064 h_1064 p_1064 => ?_)
  obtain ⟨rfl, hM2, ho⟩ := p_1064
  refine sp_goS (S' := [.int ((r_town σ)).1, .int ((r_town σ)).1]) rfl ?_
  refine rb_icmp_eq X (pc := 1067) (tgt := 1426) dL_law_1067 (by decide) (fun c1067 => ?_) (fun c1067 => absurd rfl c1067)
  exact K _ _ (ok_town hS ) (CI_ot hC1 ho) hM2
set_option maxRecDepth 100000 in
set_option maxHeartbeats 1000000 in
theorem lawC_30 {Z : rb_Z} {G : rb_G} {σ : Sg} {h : rb_H} {b N i : Nat} {xs : Nat → Int32} (X : rb_CX Z G cL_law 4 RL 11) (V : rl_X Z b N xs) (hN : N < 2 ^ 31) (hi : i + 5 < N) (hS : okS σ) (hC : CI σ h) (hM : MI σ h) (K : ∀ (σ2 : Sg) (h2 : rb_H), okS σ2 → CI σ2 h2 → MI σ2 h2 → rb_WP Z G 4 1426 [.ref b, .ref (rb_ad G 8 0), .ref (rb_ad G 9 0), .int (nI i)] [] h2) : rb_WP Z G 4 1072 [.ref b, .ref (rb_ad G 8 0), .ref (rb_ad G 9 0), .int (nI i)] [] h := by
  refine rb_aload_n X (pc := 1072) dL_law_1072 rfl rfl ?_
  refine rb_aload_n X (pc := 1073) dL_law_1073 rfl rfl ?_
  refine rb_iload_n X (pc := 1074) dL_law_1074 rfl rfl ?_
  refine rb_iconst (v := 1) X (pc := 1075) dL_law_1075 (by decide) ?_
  refine rb_iadd X (pc := 1076) dL_law_1076 ?_
  refine rl_sld X (pc := 1077) V (i + 1) (nI_add i 1) (by omega) (by omega) dL_law_1077 ?_
  refine rb_aload_n X (pc := 1078) dL_law_1078 rfl rfl ?_
  refine rb_iload_n X (pc := 1079) dL_law_1079 rfl rfl ?_
  refine rb_iconst (v := 2) X (pc := 1080) dL_law_1080 (by decide) ?_
  refine rb_iadd X (pc := 1081) dL_law_1081 ?_
  refine rl_sld X (pc := 1082) V (i + 2) (nI_add i 2) (by omega) (by omega) dL_law_1082 ?_
  refine rb_aload_n X (pc := 1083) dL_law_1083 rfl rfl ?_
  refine rb_iload_n X (pc := 1084) dL_law_1084 rfl rfl ?_
  refine rb_iconst (v := 3) X (pc := 1085) dL_law_1085 (by decide) ?_
  refine rb_iadd X (pc := 1086) dL_law_1086 ?_
  refine rl_sld X (pc := 1087) V (i + 3) (nI_add i 3) (by omega) (by omega) dL_law_1087 ?_
  refine rc_callV X (pc := 1088) cvX4_sheet mL_137 rb_ob8 (qX4_sheet hS hC _ _ _) (by decide) rfl rfl (Nat.le_of_ble_eq_true rfl) dL_law_1088 (fun r_1088 h_1088 p_1088 => ?_)
  obtain ⟨rfl, hC1, e1, e2⟩ := p_1088
  have hM1 := MI_9 hM e1 e2
  refine sp_goS (S' := [.int ((r_sheet σ (xs (i + 1)) (xs (i + 2)) (xs (i + 3)))).1]) rfl ?_
  refine rb_aload_n X (pc := 1091) dL_law_1091 rfl rfl ?_
  refine rb_aload_n X (pc := 1092) dL_law_1092 rfl rfl ?_
  refine rb_iload_n X (pc := 1093) dL_law_1093 rfl rfl ?_
  refine rb_iconst (v := 1) X (pc := 1094) dL_law_1094 (by decide) ?_
  refine rb_iadd X (pc := 1095) dL_law_1095 ?_
  refine rl_sld X (pc := 1096) V (i + 1) (nI_add i 1) (by omega) (by omega) dL_law_1096 ?_
  refine rb_aload_n X (pc := 1097) dL_law_1097 rfl rfl ?_
  refine rb_iload_n X (pc := 1098) dL_law_1098 rfl rfl ?_
  refine rb_iconst (v := 2) X (pc := 1099) dL_law_1099 (by decide) ?_
  refine rb_iadd X (pc := 1100) dL_law_1100 ?_
  refine rl_sld X (pc := 1101) V (i + 2) (nI_add i 2) (by omega) (by omega) dL_law_1101 ?_
  refine rb_aload_n X (pc := 1102) dL_law_1102 rfl rfl ?_
  refine rb_iload_n X (pc := 1103) dL_law_1103 rfl rfl ?_
  refine rb_iconst (v := 3) X (pc := 1104) dL_law_1104 (by decide) ?_
  refine rb_iadd X (pc := 1105) dL_law_1105 ?_
  refine rl_sld X (pc := 1106) V (i + 3) (nI_add i 3) (by omega) (by omega) dL_law_1106 ?_
  refine rc_callV X (pc := 1107) cvX5_sheet mL_140 rb_ob9 (qX5_sheet hS hM1 _ _ _) (by decide) rfl rfl (Nat.le_of_ble_eq_true rfl) dL_law_1107 (fun r_1107 h_1107 p_1107 => ?_)
  obtain ⟨rfl, hM2, ho⟩ := p_1107
  refine sp_goS (S' := [.int ((r_sheet σ (xs (i + 1)) (xs (i + 2)) (xs (i + 3)))).1, .int ((r_sheet σ (xs (i + 1)) (xs (i + 2)) (xs (i + 3)))).1]) rfl ?_
  refine rb_icmp_eq X (pc := 1110) (tgt := 1426) dL_law_1110 (by decide) (fun c1110 => ?_) (fun c1110 => absurd rfl c1110)
  exact K _ _ (ok_sheet hS _ _ _) (CI_ot hC1 ho) hM2
set_option maxRecDepth 100000 in
set_option maxHeartbeats 1000000 in
theorem lawC_31 {Z : rb_Z} {G : rb_G} {σ : Sg} {h : rb_H} {b N i : Nat} {xs : Nat → Int32} (X : rb_CX Z G cL_law 4 RL 11) (V : rl_X Z b N xs) (hN : N < 2 ^ 31) (hi : i + 5 < N) (hS : okS σ) (hC : CI σ h) (hM : MI σ h) (K : ∀ (σ2 : Sg) (h2 : rb_H), okS σ2 → CI σ2 h2 → MI σ2 h2 → rb_WP Z G 4 1426 [.ref b, .ref (rb_ad G 8 0), .ref (rb_ad G 9 0), .int (nI i)] [] h2) : rb_WP Z G 4 1115 [.ref b, .ref (rb_ad G 8 0), .ref (rb_ad G 9 0), .int (nI i)] [] h := by
  refine rb_aload_n X (pc := 1115) dL_law_1115 rfl rfl ?_
  refine rb_aload_n X (pc := 1116) dL_law_1116 rfl rfl ?_
  refine rb_iload_n X (pc := 1117) dL_law_1117 rfl rfl ?_
  refine rb_iconst (v := 1) X (pc := 1118) dL_law_1118 (by decide) ?_
  refine rb_iadd X (pc := 1119) dL_law_1119 ?_
  refine rl_sld X (pc := 1120) V (i + 1) (nI_add i 1) (by omega) (by omega) dL_law_1120 ?_
  refine rb_aload_n X (pc := 1121) dL_law_1121 rfl rfl ?_
  refine rb_iload_n X (pc := 1122) dL_law_1122 rfl rfl ?_
  refine rb_iconst (v := 2) X (pc := 1123) dL_law_1123 (by decide) ?_
  refine rb_iadd X (pc := 1124) dL_law_1124 ?_
  refine rl_sld X (pc := 1125) V (i + 2) (nI_add i 2) (by omega) (by omega) dL_law_1125 ?_
  refine rb_aload_n X (pc := 1126) dL_law_1126 rfl rfl ?_
  refine rb_iload_n X (pc := 1127) dL_law_1127 rfl rfl ?_
  refine rb_iconst (v := 3) X (pc := 1128) dL_law_1128 (by decide) ?_
  refine rb_iadd X (pc := 1129) dL_law_1129 ?_
  refine rl_sld X (pc := 1130) V (i + 3) (nI_add i 3) (by omega) (by omega) dL_law_1130 ?_
  refine rb_i2l X (pc := 1131) dL_law_1131 ?_
  refine rb_bipush (v := 32) X (pc := 1132) dL_law_1132 (by decide) ?_
  refine rb_lshl X (pc := 1134) dL_law_1134 ?_
  refine rb_aload_n X (pc := 1135) dL_law_1135 rfl rfl ?_
  refine rb_iload_n X (pc := 1136) dL_law_1136 rfl rfl ?_
  refine rb_iconst (v := 4) X (pc := 1137) dL_law_1137 (by decide) ?_
  refine rb_iadd X (pc := 1138) dL_law_1138 ?_
  refine rl_sld X (pc := 1139) V (i + 4) (nI_add i 4) (by omega) (by omega) dL_law_1139 ?_
  refine rb_i2l X (pc := 1140) dL_law_1140 ?_
  refine rb_ldc2 X (pc := 1141) dL_law_1141 kL_141 ?_
  refine rb_land X (pc := 1144) dL_law_1144 ?_
  refine rb_lor X (pc := 1145) dL_law_1145 ?_
  refine rc_callV X (pc := 1146) cvX4_write mL_143 rb_ob8 (qX4_write hS hC _ _ _) (by decide) rfl rfl (Nat.le_of_ble_eq_true rfl) dL_law_1146 (fun r_1146 h_1146 p_1146 => ?_)
  obtain ⟨rfl, hC1, e1, e2⟩ := p_1146
  have hM1 := MI_9 hM e1 e2
  refine rb_aload_n X (pc := 1149) dL_law_1149 rfl rfl ?_
  refine rb_aload_n X (pc := 1150) dL_law_1150 rfl rfl ?_
  refine rb_iload_n X (pc := 1151) dL_law_1151 rfl rfl ?_
  refine rb_iconst (v := 1) X (pc := 1152) dL_law_1152 (by decide) ?_
  refine rb_iadd X (pc := 1153) dL_law_1153 ?_
  refine rl_sld X (pc := 1154) V (i + 1) (nI_add i 1) (by omega) (by omega) dL_law_1154 ?_
  refine rb_aload_n X (pc := 1155) dL_law_1155 rfl rfl ?_
  refine rb_iload_n X (pc := 1156) dL_law_1156 rfl rfl ?_
  refine rb_iconst (v := 2) X (pc := 1157) dL_law_1157 (by decide) ?_
  refine rb_iadd X (pc := 1158) dL_law_1158 ?_
  refine rl_sld X (pc := 1159) V (i + 2) (nI_add i 2) (by omega) (by omega) dL_law_1159 ?_
  refine rb_aload_n X (pc := 1160) dL_law_1160 rfl rfl ?_
  refine rb_iload_n X (pc := 1161) dL_law_1161 rfl rfl ?_
  refine rb_iconst (v := 3) X (pc := 1162) dL_law_1162 (by decide) ?_
  refine rb_iadd X (pc := 1163) dL_law_1163 ?_
  refine rl_sld X (pc := 1164) V (i + 3) (nI_add i 3) (by omega) (by omega) dL_law_1164 ?_
  refine rb_i2l X (pc := 1165) dL_law_1165 ?_
  refine rb_bipush (v := 32) X (pc := 1166) dL_law_1166 (by decide) ?_
  refine rb_lshl X (pc := 1168) dL_law_1168 ?_
  refine rb_aload_n X (pc := 1169) dL_law_1169 rfl rfl ?_
  refine rb_iload_n X (pc := 1170) dL_law_1170 rfl rfl ?_
  refine rb_iconst (v := 4) X (pc := 1171) dL_law_1171 (by decide) ?_
  refine rb_iadd X (pc := 1172) dL_law_1172 ?_
  refine rl_sld X (pc := 1173) V (i + 4) (nI_add i 4) (by omega) (by omega) dL_law_1173 ?_
  refine rb_i2l X (pc := 1174) dL_law_1174 ?_
  refine rb_ldc2 X (pc := 1175) dL_law_1175 kL_141 ?_
  refine rb_land X (pc := 1178) dL_law_1178 ?_
  refine rb_lor X (pc := 1179) dL_law_1179 ?_
  refine rc_callV X (pc := 1180) cvX5_write mL_147 rb_ob9 (qX5_write hS hM1 _ _ _) (by decide) rfl rfl (Nat.le_of_ble_eq_true rfl) dL_law_1180 (fun r_1180 h_1180 p_1180 => ?_)
  obtain ⟨rfl, hM2, ho⟩ := p_1180
  refine rb_lcmp X (pc := 1183) dL_law_1183 ?_
  refine rb_if_eq X (pc := 1184) (tgt := 1426) dL_law_1184 (by decide) (fun c1184 => ?_) (fun c1184 => absurd (lg_eq0.mpr rfl) c1184)
  exact K _ _ (ok_write hS _ _ _) (CI_ot hC1 ho) hM2
set_option maxRecDepth 100000 in
set_option maxHeartbeats 1000000 in
theorem lawC_32 {Z : rb_Z} {G : rb_G} {σ : Sg} {h : rb_H} {b N i : Nat} {xs : Nat → Int32} (X : rb_CX Z G cL_law 4 RL 11) (V : rl_X Z b N xs) (hN : N < 2 ^ 31) (hi : i + 5 < N) (hS : okS σ) (hC : CI σ h) (hM : MI σ h) (K : ∀ (σ2 : Sg) (h2 : rb_H), okS σ2 → CI σ2 h2 → MI σ2 h2 → rb_WP Z G 4 1426 [.ref b, .ref (rb_ad G 8 0), .ref (rb_ad G 9 0), .int (nI i)] [] h2) : rb_WP Z G 4 1189 [.ref b, .ref (rb_ad G 8 0), .ref (rb_ad G 9 0), .int (nI i)] [] h := by
  refine rb_aload_n X (pc := 1189) dL_law_1189 rfl rfl ?_
  refine rb_aload_n X (pc := 1190) dL_law_1190 rfl rfl ?_
  refine rb_iload_n X (pc := 1191) dL_law_1191 rfl rfl ?_
  refine rb_iconst (v := 1) X (pc := 1192) dL_law_1192 (by decide) ?_
  refine rb_iadd X (pc := 1193) dL_law_1193 ?_
  refine rl_sld X (pc := 1194) V (i + 1) (nI_add i 1) (by omega) (by omega) dL_law_1194 ?_
  refine rb_aload_n X (pc := 1195) dL_law_1195 rfl rfl ?_
  refine rb_iload_n X (pc := 1196) dL_law_1196 rfl rfl ?_
  refine rb_iconst (v := 2) X (pc := 1197) dL_law_1197 (by decide) ?_
  refine rb_iadd X (pc := 1198) dL_law_1198 ?_
  refine rl_sld X (pc := 1199) V (i + 2) (nI_add i 2) (by omega) (by omega) dL_law_1199 ?_
  refine rb_aload_n X (pc := 1200) dL_law_1200 rfl rfl ?_
  refine rb_iload_n X (pc := 1201) dL_law_1201 rfl rfl ?_
  refine rb_iconst (v := 3) X (pc := 1202) dL_law_1202 (by decide) ?_
  refine rb_iadd X (pc := 1203) dL_law_1203 ?_
  refine rl_sld X (pc := 1204) V (i + 3) (nI_add i 3) (by omega) (by omega) dL_law_1204 ?_
  refine rb_aload_n X (pc := 1205) dL_law_1205 rfl rfl ?_
  refine rb_iload_n X (pc := 1206) dL_law_1206 rfl rfl ?_
  refine rb_iconst (v := 4) X (pc := 1207) dL_law_1207 (by decide) ?_
  refine rb_iadd X (pc := 1208) dL_law_1208 ?_
  refine rl_sld X (pc := 1209) V (i + 4) (nI_add i 4) (by omega) (by omega) dL_law_1209 ?_
  refine rb_aload_n X (pc := 1210) dL_law_1210 rfl rfl ?_
  refine rb_iload_n X (pc := 1211) dL_law_1211 rfl rfl ?_
  refine rb_iconst (v := 5) X (pc := 1212) dL_law_1212 (by decide) ?_
  refine rb_iadd X (pc := 1213) dL_law_1213 ?_
  refine rl_sld X (pc := 1214) V (i + 5) (nI_add i 5) (by omega) (by omega) dL_law_1214 ?_
  refine rc_callV X (pc := 1215) cvX4_copy mL_148 rb_ob8 (qX4_copy hS hC _ _ _ _ _) (by decide) rfl rfl (Nat.le_of_ble_eq_true rfl) dL_law_1215 (fun r_1215 h_1215 p_1215 => ?_)
  obtain ⟨rfl, hC1, e1, e2⟩ := p_1215
  have hM1 := MI_9 hM e1 e2
  refine sp_goS (S' := [.int ((r_copy σ (xs (i + 1)) (xs (i + 2)) (xs (i + 3)) (xs (i + 4)) (xs (i + 5)))).1]) rfl ?_
  refine rb_aload_n X (pc := 1218) dL_law_1218 rfl rfl ?_
  refine rb_aload_n X (pc := 1219) dL_law_1219 rfl rfl ?_
  refine rb_iload_n X (pc := 1220) dL_law_1220 rfl rfl ?_
  refine rb_iconst (v := 1) X (pc := 1221) dL_law_1221 (by decide) ?_
  refine rb_iadd X (pc := 1222) dL_law_1222 ?_
  refine rl_sld X (pc := 1223) V (i + 1) (nI_add i 1) (by omega) (by omega) dL_law_1223 ?_
  refine rb_aload_n X (pc := 1224) dL_law_1224 rfl rfl ?_
  refine rb_iload_n X (pc := 1225) dL_law_1225 rfl rfl ?_
  refine rb_iconst (v := 2) X (pc := 1226) dL_law_1226 (by decide) ?_
  refine rb_iadd X (pc := 1227) dL_law_1227 ?_
  refine rl_sld X (pc := 1228) V (i + 2) (nI_add i 2) (by omega) (by omega) dL_law_1228 ?_
  refine rb_aload_n X (pc := 1229) dL_law_1229 rfl rfl ?_
  refine rb_iload_n X (pc := 1230) dL_law_1230 rfl rfl ?_
  refine rb_iconst (v := 3) X (pc := 1231) dL_law_1231 (by decide) ?_
  refine rb_iadd X (pc := 1232) dL_law_1232 ?_
  refine rl_sld X (pc := 1233) V (i + 3) (nI_add i 3) (by omega) (by omega) dL_law_1233 ?_
  refine rb_aload_n X (pc := 1234) dL_law_1234 rfl rfl ?_
  refine rb_iload_n X (pc := 1235) dL_law_1235 rfl rfl ?_
  refine rb_iconst (v := 4) X (pc := 1236) dL_law_1236 (by decide) ?_
  refine rb_iadd X (pc := 1237) dL_law_1237 ?_
  refine rl_sld X (pc := 1238) V (i + 4) (nI_add i 4) (by omega) (by omega) dL_law_1238 ?_
  refine rb_aload_n X (pc := 1239) dL_law_1239 rfl rfl ?_
  refine rb_iload_n X (pc := 1240) dL_law_1240 rfl rfl ?_
  refine rb_iconst (v := 5) X (pc := 1241) dL_law_1241 (by decide) ?_
  refine rb_iadd X (pc := 1242) dL_law_1242 ?_
  refine rl_sld X (pc := 1243) V (i + 5) (nI_add i 5) (by omega) (by omega) dL_law_1243 ?_
  refine rc_callV X (pc := 1244) cvX5_copy mL_152 rb_ob9 (qX5_copy hS hM1 _ _ _ _ _) (by decide) rfl rfl (Nat.le_of_ble_eq_true rfl) dL_law_1244 (fun r_1244 h_1244 p_1244 => ?_)
  obtain ⟨rfl, hM2, ho⟩ := p_1244
  refine sp_goS (S' := [.int ((r_copy σ (xs (i + 1)) (xs (i + 2)) (xs (i + 3)) (xs (i + 4)) (xs (i + 5)))).1, .int ((r_copy σ (xs (i + 1)) (xs (i + 2)) (xs (i + 3)) (xs (i + 4)) (xs (i + 5)))).1]) rfl ?_
  refine rb_icmp_eq X (pc := 1247) (tgt := 1426) dL_law_1247 (by decide) (fun c1247 => ?_) (fun c1247 => absurd rfl c1247)
  exact K _ _ (ok_copy hS _ _ _ _ _) (CI_ot hC1 ho) hM2
set_option maxRecDepth 100000 in
set_option maxHeartbeats 1000000 in
theorem lawC_33 {Z : rb_Z} {G : rb_G} {σ : Sg} {h : rb_H} {b N i : Nat} {xs : Nat → Int32} (X : rb_CX Z G cL_law 4 RL 11) (V : rl_X Z b N xs) (hN : N < 2 ^ 31) (hi : i + 5 < N) (hS : okS σ) (hC : CI σ h) (hM : MI σ h) (K : ∀ (σ2 : Sg) (h2 : rb_H), okS σ2 → CI σ2 h2 → MI σ2 h2 → rb_WP Z G 4 1426 [.ref b, .ref (rb_ad G 8 0), .ref (rb_ad G 9 0), .int (nI i)] [] h2) : rb_WP Z G 4 1252 [.ref b, .ref (rb_ad G 8 0), .ref (rb_ad G 9 0), .int (nI i)] [] h := by
  refine rb_aload_n X (pc := 1252) dL_law_1252 rfl rfl ?_
  refine rb_aload_n X (pc := 1253) dL_law_1253 rfl rfl ?_
  refine rb_iload_n X (pc := 1254) dL_law_1254 rfl rfl ?_
  refine rb_iconst (v := 1) X (pc := 1255) dL_law_1255 (by decide) ?_
  refine rb_iadd X (pc := 1256) dL_law_1256 ?_
  refine rl_sld X (pc := 1257) V (i + 1) (nI_add i 1) (by omega) (by omega) dL_law_1257 ?_
  refine rc_callV X (pc := 1258) cvX4_lays mL_153 rb_ob8 (qX4_lays hS hC _) (by decide) rfl rfl (Nat.le_of_ble_eq_true rfl) dL_law_1258 (fun r_1258 h_1258 p_1258 => ?_)
  obtain ⟨rfl, hC1, e1, e2⟩ := p_1258
  have hM1 := MI_9 hM e1 e2
  refine sp_goS (S' := [.int ((r_lays σ (xs (i + 1)))).1]) rfl ?_
  refine rb_aload_n X (pc := 1261) dL_law_1261 rfl rfl ?_
  refine rb_aload_n X (pc := 1262) dL_law_1262 rfl rfl ?_
  refine rb_iload_n X (pc := 1263) dL_law_1263 rfl rfl ?_
  refine rb_iconst (v := 1) X (pc := 1264) dL_law_1264 (by decide) ?_
  refine rb_iadd X (pc := 1265) dL_law_1265 ?_
  refine rl_sld X (pc := 1266) V (i + 1) (nI_add i 1) (by omega) (by omega) dL_law_1266 ?_
  refine rc_callV X (pc := 1267) cvX5_lays mL_156 rb_ob9 (qX5_lays hS hM1 _) (by decide) rfl rfl (Nat.le_of_ble_eq_true rfl) dL_law_1267 (fun r_1267 h_1267 p_1267 => ?_)
  obtain ⟨rfl, hM2, ho⟩ := p_1267
  refine sp_goS (S' := [.int ((r_lays σ (xs (i + 1)))).1, .int ((r_lays σ (xs (i + 1)))).1]) rfl ?_
  refine rb_icmp_eq X (pc := 1270) (tgt := 1426) dL_law_1270 (by decide) (fun c1270 => ?_) (fun c1270 => absurd rfl c1270)
  exact K _ _ (ok_lays hS _) (CI_ot hC1 ho) hM2
set_option maxRecDepth 100000 in
set_option maxHeartbeats 1000000 in
theorem lawC_34 {Z : rb_Z} {G : rb_G} {σ : Sg} {h : rb_H} {b N i : Nat} {xs : Nat → Int32} (X : rb_CX Z G cL_law 4 RL 11) (V : rl_X Z b N xs) (hN : N < 2 ^ 31) (hi : i + 5 < N) (hS : okS σ) (hC : CI σ h) (hM : MI σ h) (K : ∀ (σ2 : Sg) (h2 : rb_H), okS σ2 → CI σ2 h2 → MI σ2 h2 → rb_WP Z G 4 1426 [.ref b, .ref (rb_ad G 8 0), .ref (rb_ad G 9 0), .int (nI i)] [] h2) : rb_WP Z G 4 1275 [.ref b, .ref (rb_ad G 8 0), .ref (rb_ad G 9 0), .int (nI i)] [] h := by
  refine rb_aload_n X (pc := 1275) dL_law_1275 rfl rfl ?_
  refine rb_aload_n X (pc := 1276) dL_law_1276 rfl rfl ?_
  refine rb_iload_n X (pc := 1277) dL_law_1277 rfl rfl ?_
  refine rb_iconst (v := 1) X (pc := 1278) dL_law_1278 (by decide) ?_
  refine rb_iadd X (pc := 1279) dL_law_1279 ?_
  refine rl_sld X (pc := 1280) V (i + 1) (nI_add i 1) (by omega) (by omega) dL_law_1280 ?_
  refine rb_aload_n X (pc := 1281) dL_law_1281 rfl rfl ?_
  refine rb_iload_n X (pc := 1282) dL_law_1282 rfl rfl ?_
  refine rb_iconst (v := 2) X (pc := 1283) dL_law_1283 (by decide) ?_
  refine rb_iadd X (pc := 1284) dL_law_1284 ?_
  refine rl_sld X (pc := 1285) V (i + 2) (nI_add i 2) (by omega) (by omega) dL_law_1285 ?_
  refine rc_callV X (pc := 1286) cvX4_book mL_157 rb_ob8 (qX4_book hS hC _ _) (by decide) rfl rfl (Nat.le_of_ble_eq_true rfl) dL_law_1286 (fun r_1286 h_1286 p_1286 => ?_)
  obtain ⟨rfl, hC1, e1, e2⟩ := p_1286
  have hM1 := MI_9 hM e1 e2
  refine sp_goS (S' := [.int ((r_book σ (xs (i + 1)) (xs (i + 2)))).1]) rfl ?_
  refine rb_aload_n X (pc := 1289) dL_law_1289 rfl rfl ?_
  refine rb_aload_n X (pc := 1290) dL_law_1290 rfl rfl ?_
  refine rb_iload_n X (pc := 1291) dL_law_1291 rfl rfl ?_
  refine rb_iconst (v := 1) X (pc := 1292) dL_law_1292 (by decide) ?_
  refine rb_iadd X (pc := 1293) dL_law_1293 ?_
  refine rl_sld X (pc := 1294) V (i + 1) (nI_add i 1) (by omega) (by omega) dL_law_1294 ?_
  refine rb_aload_n X (pc := 1295) dL_law_1295 rfl rfl ?_
  refine rb_iload_n X (pc := 1296) dL_law_1296 rfl rfl ?_
  refine rb_iconst (v := 2) X (pc := 1297) dL_law_1297 (by decide) ?_
  refine rb_iadd X (pc := 1298) dL_law_1298 ?_
  refine rl_sld X (pc := 1299) V (i + 2) (nI_add i 2) (by omega) (by omega) dL_law_1299 ?_
  refine rc_callV X (pc := 1300) cvX5_book mL_160 rb_ob9 (qX5_book hS hM1 _ _) (by decide) rfl rfl (Nat.le_of_ble_eq_true rfl) dL_law_1300 (fun r_1300 h_1300 p_1300 => ?_)
  obtain ⟨rfl, hM2, ho⟩ := p_1300
  refine sp_goS (S' := [.int ((r_book σ (xs (i + 1)) (xs (i + 2)))).1, .int ((r_book σ (xs (i + 1)) (xs (i + 2)))).1]) rfl ?_
  refine rb_icmp_eq X (pc := 1303) (tgt := 1426) dL_law_1303 (by decide) (fun c1303 => ?_) (fun c1303 => absurd rfl c1303)
  exact K _ _ (ok_book hS _ _) (CI_ot hC1 ho) hM2
set_option maxRecDepth 100000 in
set_option maxHeartbeats 1000000 in
theorem lawC_35 {Z : rb_Z} {G : rb_G} {σ : Sg} {h : rb_H} {b N i : Nat} {xs : Nat → Int32} (X : rb_CX Z G cL_law 4 RL 11) (V : rl_X Z b N xs) (hN : N < 2 ^ 31) (hi : i + 5 < N) (hS : okS σ) (hC : CI σ h) (hM : MI σ h) (K : ∀ (σ2 : Sg) (h2 : rb_H), okS σ2 → CI σ2 h2 → MI σ2 h2 → rb_WP Z G 4 1426 [.ref b, .ref (rb_ad G 8 0), .ref (rb_ad G 9 0), .int (nI i)] [] h2) : rb_WP Z G 4 1308 [.ref b, .ref (rb_ad G 8 0), .ref (rb_ad G 9 0), .int (nI i)] [] h := by
  refine rb_aload_n X (pc := 1308) dL_law_1308 rfl rfl ?_
  refine rb_aload_n X (pc := 1309) dL_law_1309 rfl rfl ?_
  refine rb_iload_n X (pc := 1310) dL_law_1310 rfl rfl ?_
  refine rb_iconst (v := 1) X (pc := 1311) dL_law_1311 (by decide) ?_
  refine rb_iadd X (pc := 1312) dL_law_1312 ?_
  refine rl_sld X (pc := 1313) V (i + 1) (nI_add i 1) (by omega) (by omega) dL_law_1313 ?_
  refine rb_aload_n X (pc := 1314) dL_law_1314 rfl rfl ?_
  refine rb_iload_n X (pc := 1315) dL_law_1315 rfl rfl ?_
  refine rb_iconst (v := 2) X (pc := 1316) dL_law_1316 (by decide) ?_
  refine rb_iadd X (pc := 1317) dL_law_1317 ?_
  refine rl_sld X (pc := 1318) V (i + 2) (nI_add i 2) (by omega) (by omega) dL_law_1318 ?_
  refine rc_callV X (pc := 1319) cvX4_read mL_161 rb_ob8 (qX4_read hS hC _ _) (by decide) rfl rfl (Nat.le_of_ble_eq_true rfl) dL_law_1319 (fun r_1319 h_1319 p_1319 => ?_)
  obtain ⟨rfl, hC1, e1, e2⟩ := p_1319
  have hM1 := MI_9 hM e1 e2
  refine sp_goS (S' := [.int ((r_read σ (xs (i + 1)) (xs (i + 2)))).1]) rfl ?_
  refine rb_aload_n X (pc := 1322) dL_law_1322 rfl rfl ?_
  refine rb_aload_n X (pc := 1323) dL_law_1323 rfl rfl ?_
  refine rb_iload_n X (pc := 1324) dL_law_1324 rfl rfl ?_
  refine rb_iconst (v := 1) X (pc := 1325) dL_law_1325 (by decide) ?_
  refine rb_iadd X (pc := 1326) dL_law_1326 ?_
  refine rl_sld X (pc := 1327) V (i + 1) (nI_add i 1) (by omega) (by omega) dL_law_1327 ?_
  refine rb_aload_n X (pc := 1328) dL_law_1328 rfl rfl ?_
  refine rb_iload_n X (pc := 1329) dL_law_1329 rfl rfl ?_
  refine rb_iconst (v := 2) X (pc := 1330) dL_law_1330 (by decide) ?_
  refine rb_iadd X (pc := 1331) dL_law_1331 ?_
  refine rl_sld X (pc := 1332) V (i + 2) (nI_add i 2) (by omega) (by omega) dL_law_1332 ?_
  refine rc_callV X (pc := 1333) cvX5_read mL_164 rb_ob9 (qX5_read hS hM1 _ _) (by decide) rfl rfl (Nat.le_of_ble_eq_true rfl) dL_law_1333 (fun r_1333 h_1333 p_1333 => ?_)
  obtain ⟨rfl, hM2, ho⟩ := p_1333
  refine sp_goS (S' := [.int ((r_read σ (xs (i + 1)) (xs (i + 2)))).1, .int ((r_read σ (xs (i + 1)) (xs (i + 2)))).1]) rfl ?_
  refine rb_icmp_eq X (pc := 1336) (tgt := 1426) dL_law_1336 (by decide) (fun c1336 => ?_) (fun c1336 => absurd rfl c1336)
  exact K _ _ (ok_read hS _ _) (CI_ot hC1 ho) hM2
set_option maxRecDepth 100000 in
set_option maxHeartbeats 1000000 in
theorem lawC_36 {Z : rb_Z} {G : rb_G} {σ : Sg} {h : rb_H} {b N i : Nat} {xs : Nat → Int32} (X : rb_CX Z G cL_law 4 RL 11) (V : rl_X Z b N xs) (hN : N < 2 ^ 31) (hi : i + 5 < N) (hS : okS σ) (hC : CI σ h) (hM : MI σ h) (K : ∀ (σ2 : Sg) (h2 : rb_H), okS σ2 → CI σ2 h2 → MI σ2 h2 → rb_WP Z G 4 1426 [.ref b, .ref (rb_ad G 8 0), .ref (rb_ad G 9 0), .int (nI i)] [] h2) : rb_WP Z G 4 1341 [.ref b, .ref (rb_ad G 8 0), .ref (rb_ad G 9 0), .int (nI i)] [] h := by
  refine rb_aload_n X (pc := 1341) dL_law_1341 rfl rfl ?_
  refine rc_callV X (pc := 1342) cvX4_image mL_165 rb_ob8 (qX4_image hS hC ) (by decide) rfl rfl (Nat.le_of_ble_eq_true rfl) dL_law_1342 (fun r_1342 h_1342 p_1342 => ?_)
  obtain ⟨rfl, hC1, e1, e2⟩ := p_1342
  have hM1 := MI_9 hM e1 e2
  refine sp_goS (S' := [.int ((r_image σ)).1]) rfl ?_
  refine rb_aload_n X (pc := 1345) dL_law_1345 rfl rfl ?_
  refine rc_callV X (pc := 1346) cvX5_image mL_168 rb_ob9 (qX5_image hS hM1 ) (by decide) rfl rfl (Nat.le_of_ble_eq_true rfl) dL_law_1346 (fun r_1346 h_1346 p_1346 => ?_)
  obtain ⟨rfl, hM2, ho⟩ := p_1346
  refine sp_goS (S' := [.int ((r_image σ)).1, .int ((r_image σ)).1]) rfl ?_
  refine rb_icmp_eq X (pc := 1349) (tgt := 1426) dL_law_1349 (by decide) (fun c1349 => ?_) (fun c1349 => absurd rfl c1349)
  exact K _ _ (ok_image hS ) (CI_ot hC1 ho) hM2
set_option maxRecDepth 100000 in
set_option maxHeartbeats 1000000 in
theorem lawC_37 {Z : rb_Z} {G : rb_G} {σ : Sg} {h : rb_H} {b N i : Nat} {xs : Nat → Int32} (X : rb_CX Z G cL_law 4 RL 11) (V : rl_X Z b N xs) (hN : N < 2 ^ 31) (hi : i + 5 < N) (hS : okS σ) (hC : CI σ h) (hM : MI σ h) (K : ∀ (σ2 : Sg) (h2 : rb_H), okS σ2 → CI σ2 h2 → MI σ2 h2 → rb_WP Z G 4 1426 [.ref b, .ref (rb_ad G 8 0), .ref (rb_ad G 9 0), .int (nI i)] [] h2) : rb_WP Z G 4 1354 [.ref b, .ref (rb_ad G 8 0), .ref (rb_ad G 9 0), .int (nI i)] [] h := by
  refine rb_aload_n X (pc := 1354) dL_law_1354 rfl rfl ?_
  refine rc_callV X (pc := 1355) cvX4_undo mL_169 rb_ob8 (qX4_undo hS hC ) (by decide) rfl rfl (Nat.le_of_ble_eq_true rfl) dL_law_1355 (fun r_1355 h_1355 p_1355 => ?_)
  obtain ⟨rfl, hC1, e1, e2⟩ := p_1355
  have hM1 := MI_9 hM e1 e2
  refine sp_goS (S' := [.int ((r_undo σ)).1]) rfl ?_
  refine rb_aload_n X (pc := 1358) dL_law_1358 rfl rfl ?_
  refine rc_callV X (pc := 1359) cvX5_undo mL_172 rb_ob9 (qX5_undo hS hM1 ) (by decide) rfl rfl (Nat.le_of_ble_eq_true rfl) dL_law_1359 (fun r_1359 h_1359 p_1359 => ?_)
  obtain ⟨rfl, hM2, ho⟩ := p_1359
  refine sp_goS (S' := [.int ((r_undo σ)).1, .int ((r_undo σ)).1]) rfl ?_
  refine rb_icmp_eq X (pc := 1362) (tgt := 1426) dL_law_1362 (by decide) (fun c1362 => ?_) (fun c1362 => absurd rfl c1362)
  exact K _ _ (ok_undo hS ) (CI_ot hC1 ho) hM2
set_option maxRecDepth 100000 in
set_option maxHeartbeats 1000000 in
theorem lawC_38 {Z : rb_Z} {G : rb_G} {σ : Sg} {h : rb_H} {b N i : Nat} {xs : Nat → Int32} (X : rb_CX Z G cL_law 4 RL 11) (V : rl_X Z b N xs) (hN : N < 2 ^ 31) (hi : i + 5 < N) (hS : okS σ) (hC : CI σ h) (hM : MI σ h) (K : ∀ (σ2 : Sg) (h2 : rb_H), okS σ2 → CI σ2 h2 → MI σ2 h2 → rb_WP Z G 4 1426 [.ref b, .ref (rb_ad G 8 0), .ref (rb_ad G 9 0), .int (nI i)] [] h2) : rb_WP Z G 4 1367 [.ref b, .ref (rb_ad G 8 0), .ref (rb_ad G 9 0), .int (nI i)] [] h := by
  refine rb_aload_n X (pc := 1367) dL_law_1367 rfl rfl ?_
  refine rc_callV X (pc := 1368) cvX4_tear mL_173 rb_ob8 (qX4_tear hS hC ) (by decide) rfl rfl (Nat.le_of_ble_eq_true rfl) dL_law_1368 (fun r_1368 h_1368 p_1368 => ?_)
  obtain ⟨rfl, hC1, e1, e2⟩ := p_1368
  have hM1 := MI_9 hM e1 e2
  refine sp_goS (S' := [.int ((r_tear σ)).1]) rfl ?_
  refine rb_aload_n X (pc := 1371) dL_law_1371 rfl rfl ?_
  refine rc_callV X (pc := 1372) cvX5_tear mL_176 rb_ob9 (qX5_tear hS hM1 ) (by decide) rfl rfl (Nat.le_of_ble_eq_true rfl) dL_law_1372 (fun r_1372 h_1372 p_1372 => ?_)
  obtain ⟨rfl, hM2, ho⟩ := p_1372
  refine sp_goS (S' := [.int ((r_tear σ)).1, .int ((r_tear σ)).1]) rfl ?_
  refine rb_icmp_eq X (pc := 1375) (tgt := 1426) dL_law_1375 (by decide) (fun c1375 => ?_) (fun c1375 => absurd rfl c1375)
  exact K _ _ (ok_tear hS ) (CI_ot hC1 ho) hM2
set_option maxRecDepth 100000 in
set_option maxHeartbeats 1000000 in
theorem lawC_39 {Z : rb_Z} {G : rb_G} {σ : Sg} {h : rb_H} {b N i : Nat} {xs : Nat → Int32} (X : rb_CX Z G cL_law 4 RL 11) (V : rl_X Z b N xs) (hN : N < 2 ^ 31) (hi : i + 5 < N) (hS : okS σ) (hC : CI σ h) (hM : MI σ h) (K : ∀ (σ2 : Sg) (h2 : rb_H), okS σ2 → CI σ2 h2 → MI σ2 h2 → rb_WP Z G 4 1426 [.ref b, .ref (rb_ad G 8 0), .ref (rb_ad G 9 0), .int (nI i)] [] h2) : rb_WP Z G 4 1380 [.ref b, .ref (rb_ad G 8 0), .ref (rb_ad G 9 0), .int (nI i)] [] h := by
  refine rb_aload_n X (pc := 1380) dL_law_1380 rfl rfl ?_
  refine rb_aload_n X (pc := 1381) dL_law_1381 rfl rfl ?_
  refine rb_iload_n X (pc := 1382) dL_law_1382 rfl rfl ?_
  refine rb_iconst (v := 1) X (pc := 1383) dL_law_1383 (by decide) ?_
  refine rb_iadd X (pc := 1384) dL_law_1384 ?_
  refine rl_sld X (pc := 1385) V (i + 1) (nI_add i 1) (by omega) (by omega) dL_law_1385 ?_
  refine rc_callV X (pc := 1386) cvX4_count mL_177 rb_ob8 (qX4_count hS hC _) (by decide) rfl rfl (Nat.le_of_ble_eq_true rfl) dL_law_1386 (fun r_1386 h_1386 p_1386 => ?_)
  obtain ⟨rfl, hC1, e1, e2⟩ := p_1386
  have hM1 := MI_9 hM e1 e2
  refine sp_goS (S' := [.int ((r_count σ (xs (i + 1)))).1]) rfl ?_
  refine rb_aload_n X (pc := 1389) dL_law_1389 rfl rfl ?_
  refine rb_aload_n X (pc := 1390) dL_law_1390 rfl rfl ?_
  refine rb_iload_n X (pc := 1391) dL_law_1391 rfl rfl ?_
  refine rb_iconst (v := 1) X (pc := 1392) dL_law_1392 (by decide) ?_
  refine rb_iadd X (pc := 1393) dL_law_1393 ?_
  refine rl_sld X (pc := 1394) V (i + 1) (nI_add i 1) (by omega) (by omega) dL_law_1394 ?_
  refine rc_callV X (pc := 1395) cvX5_count mL_180 rb_ob9 (qX5_count hS hM1 _) (by decide) rfl rfl (Nat.le_of_ble_eq_true rfl) dL_law_1395 (fun r_1395 h_1395 p_1395 => ?_)
  obtain ⟨rfl, hM2, ho⟩ := p_1395
  refine sp_goS (S' := [.int ((r_count σ (xs (i + 1)))).1, .int ((r_count σ (xs (i + 1)))).1]) rfl ?_
  refine rb_icmp_eq X (pc := 1398) (tgt := 1426) dL_law_1398 (by decide) (fun c1398 => ?_) (fun c1398 => absurd rfl c1398)
  exact K _ _ (ok_count hS _) (CI_ot hC1 ho) hM2
set_option maxRecDepth 100000 in
set_option maxHeartbeats 1000000 in
theorem lawC_40 {Z : rb_Z} {G : rb_G} {σ : Sg} {h : rb_H} {b N i : Nat} {xs : Nat → Int32} (X : rb_CX Z G cL_law 4 RL 11) (V : rl_X Z b N xs) (hN : N < 2 ^ 31) (hi : i + 5 < N) (hS : okS σ) (hC : CI σ h) (hM : MI σ h) (K : ∀ (σ2 : Sg) (h2 : rb_H), okS σ2 → CI σ2 h2 → MI σ2 h2 → rb_WP Z G 4 1426 [.ref b, .ref (rb_ad G 8 0), .ref (rb_ad G 9 0), .int (nI i)] [] h2) : rb_WP Z G 4 1403 [.ref b, .ref (rb_ad G 8 0), .ref (rb_ad G 9 0), .int (nI i)] [] h := by
  refine rb_aload_n X (pc := 1403) dL_law_1403 rfl rfl ?_
  refine rb_aload_n X (pc := 1404) dL_law_1404 rfl rfl ?_
  refine rb_iload_n X (pc := 1405) dL_law_1405 rfl rfl ?_
  refine rb_iconst (v := 1) X (pc := 1406) dL_law_1406 (by decide) ?_
  refine rb_iadd X (pc := 1407) dL_law_1407 ?_
  refine rl_sld X (pc := 1408) V (i + 1) (nI_add i 1) (by omega) (by omega) dL_law_1408 ?_
  refine rc_callV X (pc := 1409) cvX4_status mL_181 rb_ob8 (qX4_status hS hC _) (by decide) rfl rfl (Nat.le_of_ble_eq_true rfl) dL_law_1409 (fun r_1409 h_1409 p_1409 => ?_)
  obtain ⟨rfl, hC1, e1, e2⟩ := p_1409
  have hM1 := MI_9 hM e1 e2
  refine sp_goS (S' := [.int ((r_status σ (xs (i + 1)))).1]) rfl ?_
  refine rb_aload_n X (pc := 1412) dL_law_1412 rfl rfl ?_
  refine rb_aload_n X (pc := 1413) dL_law_1413 rfl rfl ?_
  refine rb_iload_n X (pc := 1414) dL_law_1414 rfl rfl ?_
  refine rb_iconst (v := 1) X (pc := 1415) dL_law_1415 (by decide) ?_
  refine rb_iadd X (pc := 1416) dL_law_1416 ?_
  refine rl_sld X (pc := 1417) V (i + 1) (nI_add i 1) (by omega) (by omega) dL_law_1417 ?_
  refine rc_callV X (pc := 1418) cvX5_status mL_184 rb_ob9 (qX5_status hS hM1 _) (by decide) rfl rfl (Nat.le_of_ble_eq_true rfl) dL_law_1418 (fun r_1418 h_1418 p_1418 => ?_)
  obtain ⟨rfl, hM2, ho⟩ := p_1418
  refine sp_goS (S' := [.int ((r_status σ (xs (i + 1)))).1, .int ((r_status σ (xs (i + 1)))).1]) rfl ?_
  refine rb_icmp_eq X (pc := 1421) (tgt := 1426) dL_law_1421 (by decide) (fun c1421 => ?_) (fun c1421 => absurd rfl c1421)
  exact K _ _ (ok_status hS _) (CI_ot hC1 ho) hM2
theorem law_i {N i : Nat} (hN : N ≤ 3072) (hi : i ≤ N) (c : ¬ nI N - 6 < nI i) : i + 5 < N := by
  by_cases h6 : 6 ≤ N
  · rw [show nI N - 6 = nI (N - 6) from pk_sub (b := 6) h6] at c
    rcases Nat.lt_or_ge (N - 6) i with z | z
    · exact absurd ((nI_ltI (by omega) (by omega)).mpr z) c
    · omega
  · have h2 := pk_sneg (a := N) (b := 6) (by omega) (by omega)
    rcases Int32.lt_or_eq_of_le (Int32.not_lt.mp c) with z | z
    · exact absurd (Int32.lt_trans z h2) (nI_pos (by omega))
    · exact absurd (show nI i < 0 by rw [z]; exact h2) (nI_pos (by omega))
set_option maxRecDepth 100000 in
set_option maxHeartbeats 4000000 in
theorem law_loop {Z : rb_Z} {G : rb_G} {b N : Nat} {xs : Nat → Int32} (X : rb_CX Z G cL_law 4 RL 11) (V : rl_X Z b N xs) (hN : N ≤ 3072) (E : ∀ (L : List Value) (h : rb_H), rb_WP Z G 4 1432 L [] h) : ∀ (fu i : Nat) (σ : Sg) (h : rb_H), i ≤ N → N + 1 ≤ i + fu → okS σ → CI σ h → MI σ h → rb_WP Z G 4 18 [.ref b, .ref (rb_ad G 8 0), .ref (rb_ad G 9 0), .int (nI i)] [] h := by
  intro fu
  induction fu with
  | zero => intro i σ h hi hf hS hC hM; omega
  | succ fu ih =>
    intro i σ h hi hf hS hC hM
    refine rb_iload_n X (pc := 18) dL_law_18 rfl rfl ?_
    refine rb_aload_n X (pc := 19) dL_law_19 rfl rfl ?_
    refine rl_slen X (pc := 20) V dL_law_20 ?_
    refine rb_bipush (v := 6) X (pc := 21) dL_law_21 (by decide) ?_
    refine rb_isub X (pc := 23) dL_law_23 ?_
    refine rb_icmp_gt X (pc := 24) (tgt := 1432) dL_law_24 (by decide) (fun c24 => ?_) (fun c24 => ?_)
    · exact E _ _
    · have hi5 := law_i hN hi c24
      have K : ∀ (σ2 : Sg) (h2 : rb_H), okS σ2 → CI σ2 h2 → MI σ2 h2 → rb_WP Z G 4 1426 [.ref b, .ref (rb_ad G 8 0), .ref (rb_ad G 9 0), .int (nI i)] [] h2 := fun σ2 h2 a1 a2 a3 => by
        refine rb_iinc X (pc := 1426) dL_law_1426 rfl (show nI i + Int32.ofInt 6 = nI (i + 6) from nI_add i 6) (by decide) rfl rfl ?_
        refine rb_goto X (pc := 1429) (tgt := 18) dL_law_1429 (by decide) ?_
        exact ih (i + 6) σ2 h2 (by omega) (by omega) a1 a2 a3
      refine rb_aload_n X (pc := 27) dL_law_27 rfl rfl ?_
      refine rb_iload_n X (pc := 28) dL_law_28 rfl rfl ?_
      refine rl_sld X (pc := 29) V (i + 0) rfl (by omega) (by omega) dL_law_29 ?_
      refine rb_bipush (v := 63) X (pc := 30) dL_law_30 (by decide) ?_
      refine rb_iand X (pc := 32) dL_law_32 ?_
      refine rc_tabC X (pc := 33) (v := 0) (i := 0) (tgt := 212) dL_law_33 (by decide) (by decide) rfl (by decide) (fun c33 => ?_) (fun n33_0 => ?_)
      · exact lawC_0 X V (by omega) hi5 hS hC hM K
      refine rc_tabC X (pc := 33) (v := 1) (i := 1) (tgt := 255) dL_law_33 (by decide) (by decide) rfl (by decide) (fun c33 => ?_) (fun n33_1 => ?_)
      · exact lawC_1 X V (by omega) hi5 hS hC hM K
      refine rc_tabC X (pc := 33) (v := 2) (i := 2) (tgt := 288) dL_law_33 (by decide) (by decide) rfl (by decide) (fun c33 => ?_) (fun n33_2 => ?_)
      · exact lawC_2 X V (by omega) hi5 hS hC hM K
      refine rc_tabC X (pc := 33) (v := 3) (i := 3) (tgt := 321) dL_law_33 (by decide) (by decide) rfl (by decide) (fun c33 => ?_) (fun n33_3 => ?_)
      · exact lawC_3 X V (by omega) hi5 hS hC hM K
      refine rc_tabC X (pc := 33) (v := 4) (i := 4) (tgt := 354) dL_law_33 (by decide) (by decide) rfl (by decide) (fun c33 => ?_) (fun n33_4 => ?_)
      · exact lawC_4 X V (by omega) hi5 hS hC hM K
      refine rc_tabC X (pc := 33) (v := 5) (i := 5) (tgt := 397) dL_law_33 (by decide) (by decide) rfl (by decide) (fun c33 => ?_) (fun n33_5 => ?_)
      · exact lawC_5 X V (by omega) hi5 hS hC hM K
      refine rc_tabC X (pc := 33) (v := 6) (i := 6) (tgt := 430) dL_law_33 (by decide) (by decide) rfl (by decide) (fun c33 => ?_) (fun n33_6 => ?_)
      · exact lawC_6 X V (by omega) hi5 hS hC hM K
      refine rc_tabC X (pc := 33) (v := 7) (i := 7) (tgt := 463) dL_law_33 (by decide) (by decide) rfl (by decide) (fun c33 => ?_) (fun n33_7 => ?_)
      · exact lawC_7 X V (by omega) hi5 hS hC hM K
      refine rc_tabC X (pc := 33) (v := 8) (i := 8) (tgt := 496) dL_law_33 (by decide) (by decide) rfl (by decide) (fun c33 => ?_) (fun n33_8 => ?_)
      · exact lawC_8 X V (by omega) hi5 hS hC hM K
      refine rc_tabC X (pc := 33) (v := 9) (i := 9) (tgt := 519) dL_law_33 (by decide) (by decide) rfl (by decide) (fun c33 => ?_) (fun n33_9 => ?_)
      · exact lawC_9 X V (by omega) hi5 hS hC hM K
      refine rc_tabC X (pc := 33) (v := 10) (i := 10) (tgt := 552) dL_law_33 (by decide) (by decide) rfl (by decide) (fun c33 => ?_) (fun n33_10 => ?_)
      · exact lawC_10 X V (by omega) hi5 hS hC hM K
      refine rc_tabC X (pc := 33) (v := 11) (i := 11) (tgt := 575) dL_law_33 (by decide) (by decide) rfl (by decide) (fun c33 => ?_) (fun n33_11 => ?_)
      · exact lawC_11 X V (by omega) hi5 hS hC hM K
      refine rc_tabC X (pc := 33) (v := 12) (i := 12) (tgt := 598) dL_law_33 (by decide) (by decide) rfl (by decide) (fun c33 => ?_) (fun n33_12 => ?_)
      · exact lawC_12 X V (by omega) hi5 hS hC hM K
      refine rc_tabC X (pc := 33) (v := 13) (i := 13) (tgt := 621) dL_law_33 (by decide) (by decide) rfl (by decide) (fun c33 => ?_) (fun n33_13 => ?_)
      · exact lawC_13 X V (by omega) hi5 hS hC hM K
      refine rc_tabC X (pc := 33) (v := 14) (i := 14) (tgt := 644) dL_law_33 (by decide) (by decide) rfl (by decide) (fun c33 => ?_) (fun n33_14 => ?_)
      · exact lawC_14 X V (by omega) hi5 hS hC hM K
      refine rc_tabC X (pc := 33) (v := 15) (i := 15) (tgt := 687) dL_law_33 (by decide) (by decide) rfl (by decide) (fun c33 => ?_) (fun n33_15 => ?_)
      · exact lawC_15 X V (by omega) hi5 hS hC hM K
      refine rc_tabC X (pc := 33) (v := 16) (i := 16) (tgt := 720) dL_law_33 (by decide) (by decide) rfl (by decide) (fun c33 => ?_) (fun n33_16 => ?_)
      · exact lawC_16 X V (by omega) hi5 hS hC hM K
      refine rc_tabC X (pc := 33) (v := 17) (i := 17) (tgt := 743) dL_law_33 (by decide) (by decide) rfl (by decide) (fun c33 => ?_) (fun n33_17 => ?_)
      · exact lawC_17 X V (by omega) hi5 hS hC hM K
      refine rc_tabC X (pc := 33) (v := 18) (i := 18) (tgt := 766) dL_law_33 (by decide) (by decide) rfl (by decide) (fun c33 => ?_) (fun n33_18 => ?_)
      · exact lawC_18 X V (by omega) hi5 hS hC hM K
      refine rc_tabC X (pc := 33) (v := 19) (i := 19) (tgt := 789) dL_law_33 (by decide) (by decide) rfl (by decide) (fun c33 => ?_) (fun n33_19 => ?_)
      · exact lawC_19 X V (by omega) hi5 hS hC hM K
      refine rc_tabC X (pc := 33) (v := 20) (i := 20) (tgt := 822) dL_law_33 (by decide) (by decide) rfl (by decide) (fun c33 => ?_) (fun n33_20 => ?_)
      · exact lawC_20 X V (by omega) hi5 hS hC hM K
      refine rc_tabC X (pc := 33) (v := 21) (i := 21) (tgt := 845) dL_law_33 (by decide) (by decide) rfl (by decide) (fun c33 => ?_) (fun n33_21 => ?_)
      · exact lawC_21 X V (by omega) hi5 hS hC hM K
      refine rc_tabC X (pc := 33) (v := 22) (i := 22) (tgt := 868) dL_law_33 (by decide) (by decide) rfl (by decide) (fun c33 => ?_) (fun n33_22 => ?_)
      · exact lawC_22 X V (by omega) hi5 hS hC hM K
      refine rc_tabC X (pc := 33) (v := 23) (i := 23) (tgt := 901) dL_law_33 (by decide) (by decide) rfl (by decide) (fun c33 => ?_) (fun n33_23 => ?_)
      · exact lawC_23 X V (by omega) hi5 hS hC hM K
      refine rc_tabC X (pc := 33) (v := 24) (i := 24) (tgt := 934) dL_law_33 (by decide) (by decide) rfl (by decide) (fun c33 => ?_) (fun n33_24 => ?_)
      · exact lawC_24 X V (by omega) hi5 hS hC hM K
      refine rc_tabC X (pc := 33) (v := 25) (i := 25) (tgt := 957) dL_law_33 (by decide) (by decide) rfl (by decide) (fun c33 => ?_) (fun n33_25 => ?_)
      · exact lawC_25 X V (by omega) hi5 hS hC hM K
      refine rc_tabC X (pc := 33) (v := 26) (i := 26) (tgt := 980) dL_law_33 (by decide) (by decide) rfl (by decide) (fun c33 => ?_) (fun n33_26 => ?_)
      · exact lawC_26 X V (by omega) hi5 hS hC hM K
      refine rc_tabC X (pc := 33) (v := 27) (i := 27) (tgt := 1013) dL_law_33 (by decide) (by decide) rfl (by decide) (fun c33 => ?_) (fun n33_27 => ?_)
      · exact lawC_27 X V (by omega) hi5 hS hC hM K
      refine rc_tabC X (pc := 33) (v := 28) (i := 28) (tgt := 1046) dL_law_33 (by decide) (by decide) rfl (by decide) (fun c33 => ?_) (fun n33_28 => ?_)
      · exact lawC_28 X V (by omega) hi5 hS hC hM K
      refine rc_tabC X (pc := 33) (v := 29) (i := 29) (tgt := 1059) dL_law_33 (by decide) (by decide) rfl (by decide) (fun c33 => ?_) (fun n33_29 => ?_)
      · exact lawC_29 X V (by omega) hi5 hS hC hM K
      refine rc_tabC X (pc := 33) (v := 30) (i := 30) (tgt := 1072) dL_law_33 (by decide) (by decide) rfl (by decide) (fun c33 => ?_) (fun n33_30 => ?_)
      · exact lawC_30 X V (by omega) hi5 hS hC hM K
      refine rc_tabC X (pc := 33) (v := 31) (i := 31) (tgt := 1115) dL_law_33 (by decide) (by decide) rfl (by decide) (fun c33 => ?_) (fun n33_31 => ?_)
      · exact lawC_31 X V (by omega) hi5 hS hC hM K
      refine rc_tabC X (pc := 33) (v := 32) (i := 32) (tgt := 1189) dL_law_33 (by decide) (by decide) rfl (by decide) (fun c33 => ?_) (fun n33_32 => ?_)
      · exact lawC_32 X V (by omega) hi5 hS hC hM K
      refine rc_tabC X (pc := 33) (v := 33) (i := 33) (tgt := 1252) dL_law_33 (by decide) (by decide) rfl (by decide) (fun c33 => ?_) (fun n33_33 => ?_)
      · exact lawC_33 X V (by omega) hi5 hS hC hM K
      refine rc_tabC X (pc := 33) (v := 34) (i := 34) (tgt := 1275) dL_law_33 (by decide) (by decide) rfl (by decide) (fun c33 => ?_) (fun n33_34 => ?_)
      · exact lawC_34 X V (by omega) hi5 hS hC hM K
      refine rc_tabC X (pc := 33) (v := 35) (i := 35) (tgt := 1308) dL_law_33 (by decide) (by decide) rfl (by decide) (fun c33 => ?_) (fun n33_35 => ?_)
      · exact lawC_35 X V (by omega) hi5 hS hC hM K
      refine rc_tabC X (pc := 33) (v := 36) (i := 36) (tgt := 1341) dL_law_33 (by decide) (by decide) rfl (by decide) (fun c33 => ?_) (fun n33_36 => ?_)
      · exact lawC_36 X V (by omega) hi5 hS hC hM K
      refine rc_tabC X (pc := 33) (v := 37) (i := 37) (tgt := 1354) dL_law_33 (by decide) (by decide) rfl (by decide) (fun c33 => ?_) (fun n33_37 => ?_)
      · exact lawC_37 X V (by omega) hi5 hS hC hM K
      refine rc_tabC X (pc := 33) (v := 38) (i := 38) (tgt := 1367) dL_law_33 (by decide) (by decide) rfl (by decide) (fun c33 => ?_) (fun n33_38 => ?_)
      · exact lawC_38 X V (by omega) hi5 hS hC hM K
      refine rc_tabC X (pc := 33) (v := 39) (i := 39) (tgt := 1380) dL_law_33 (by decide) (by decide) rfl (by decide) (fun c33 => ?_) (fun n33_39 => ?_)
      · exact lawC_39 X V (by omega) hi5 hS hC hM K
      refine rc_tabC X (pc := 33) (v := 40) (i := 40) (tgt := 1403) dL_law_33 (by decide) (by decide) rfl (by decide) (fun c33 => ?_) (fun n33_40 => ?_)
      · exact lawC_40 X V (by omega) hi5 hS hC hM K
      refine rb_tabOut X (pc := 33) (tgt := 1426) dL_law_33 (by have z0 := lv_neT n33_0 (a := 0) rfl; have z1 := lv_neT n33_1 (a := 1) rfl; have z2 := lv_neT n33_2 (a := 2) rfl; have z3 := lv_neT n33_3 (a := 3) rfl; have z4 := lv_neT n33_4 (a := 4) rfl; have z5 := lv_neT n33_5 (a := 5) rfl; have z6 := lv_neT n33_6 (a := 6) rfl; have z7 := lv_neT n33_7 (a := 7) rfl; have z8 := lv_neT n33_8 (a := 8) rfl; have z9 := lv_neT n33_9 (a := 9) rfl; have z10 := lv_neT n33_10 (a := 10) rfl; have z11 := lv_neT n33_11 (a := 11) rfl; have z12 := lv_neT n33_12 (a := 12) rfl; have z13 := lv_neT n33_13 (a := 13) rfl; have z14 := lv_neT n33_14 (a := 14) rfl; have z15 := lv_neT n33_15 (a := 15) rfl; have z16 := lv_neT n33_16 (a := 16) rfl; have z17 := lv_neT n33_17 (a := 17) rfl; have z18 := lv_neT n33_18 (a := 18) rfl; have z19 := lv_neT n33_19 (a := 19) rfl; have z20 := lv_neT n33_20 (a := 20) rfl; have z21 := lv_neT n33_21 (a := 21) rfl; have z22 := lv_neT n33_22 (a := 22) rfl; have z23 := lv_neT n33_23 (a := 23) rfl; have z24 := lv_neT n33_24 (a := 24) rfl; have z25 := lv_neT n33_25 (a := 25) rfl; have z26 := lv_neT n33_26 (a := 26) rfl; have z27 := lv_neT n33_27 (a := 27) rfl; have z28 := lv_neT n33_28 (a := 28) rfl; have z29 := lv_neT n33_29 (a := 29) rfl; have z30 := lv_neT n33_30 (a := 30) rfl; have z31 := lv_neT n33_31 (a := 31) rfl; have z32 := lv_neT n33_32 (a := 32) rfl; have z33 := lv_neT n33_33 (a := 33) rfl; have z34 := lv_neT n33_34 (a := 34) rfl; have z35 := lv_neT n33_35 (a := 35) rfl; have z36 := lv_neT n33_36 (a := 36) rfl; have z37 := lv_neT n33_37 (a := 37) rfl; have z38 := lv_neT n33_38 (a := 38) rfl; have z39 := lv_neT n33_39 (a := 39) rfl; have z40 := lv_neT n33_40 (a := 40) rfl; omega) (by decide) ?_
      exact K σ h hS hC hM
