set_option maxRecDepth 20000 in
theorem tw_cl7 : Cond.classLink R_law 7 "NoZeroWithin" ∈ mc_WS := mc_mem (List.mem_append_right _ (List.mem_append_left _ (List.mem_of_getElem? (i := 17) rfl))) rfl
set_option maxRecDepth 20000 in
theorem tw_cl10 : Cond.classLink R_law 10 "NoZeroWithinModel" ∈ mc_WS := mc_mem (List.mem_append_right _ (List.mem_append_right _ (List.mem_append_right _ (List.mem_append_right _ (List.mem_append_left _ (List.mem_of_getElem? (i := 160) rfl)))))) rfl
/-- one call of both sides, one behind the other: what they answer (E: the same), the world behind them -/
def jI (y1 : MethodName) (c1 : ByteArray) (n1 : Nat) (y2 : MethodName) (c2 : ByteArray) (n2 mc ms : Nat) (E : Prop) (A : List Value) (w : mc_W) (Q : mc_W → Prop) : Prop :=
  ∃ (r1 r2 : Int32) (d1 d2 : Nat) (fs : List Value), d1 ≤ 40 ∧ d2 ≤ 40 ∧ (E → r1 = r2) ∧ w[0]? = some (.inl (6, fs)) ∧ mc_S y1 c1 n1 (some .int) d1 mc ms (.ref 0 :: A) w (fun r w1 => r = some (.int r1) ∧ (∃ fs1, w1[29]? = some (.inl (7, fs1))) ∧ mc_T y2 c2 n2 (some .int) d2 (.ref 29 :: A) w1 (some (.int r2)) Q)
def jL (y1 : MethodName) (c1 : ByteArray) (n1 : Nat) (y2 : MethodName) (c2 : ByteArray) (n2 mc ms : Nat) (E : Prop) (A : List Value) (w : mc_W) (Q : mc_W → Prop) : Prop :=
  ∃ (r1 r2 : Int64) (d1 d2 : Nat) (fs : List Value), d1 ≤ 40 ∧ d2 ≤ 40 ∧ (E → r1 = r2) ∧ w[0]? = some (.inl (6, fs)) ∧ mc_S y1 c1 n1 (some .long) d1 mc ms (.ref 0 :: A) w (fun r w1 => r = some (.long r1) ∧ (∃ fs1, w1[29]? = some (.inl (7, fs1))) ∧ mc_T y2 c2 n2 (some .long) d2 (.ref 29 :: A) w1 (some (.long r2)) Q)
theorem lw_CR {N : Nat} {xs : Nat → Int32} {d mc ms n2 kc ks : Nat} (h1 : d ≤ 40) (h2 : n2 ≤ 45) (h3 : kc + mc ≤ 600000) (h4 : ks + ms ≤ 7302250) : mc_CR (mc_JL N xs) d mc ms n2 kc ks :=
  ⟨by show d + 1 ≤ 2048; omega, by show 8 + (n2 + 11) + 64 * d ≤ 84000; omega, h3, h4⟩
theorem lw_vi {N i k : Nat} {j : Int32} (hj : j = nI k) (h : i + k < N) (hN : N ≤ 3584) : vp_in (nI i + j) N := by
  subst hj; rw [nI_add]; exact vp_in_nI h (by omega)
theorem lw_vx {N i k : Nat} {j : Int32} {xs : Nat → Int32} (hj : j = nI k) (h : i + k < N) (hN : N ≤ 3584) : xs (nI i + j).toNatClampNeg = xs (i + k) := by
  subst hj; rw [nI_add, nIc (by omega)]
theorem lw_c0 {N i0 : Nat} {xs : Nat → Int32} {E : Prop} {w : mc_W} {kc ks : Nat} {Q : mc_W → Prop} (hN : N ≤ 3584) (hi : i0 + 7 ≤ N) (hE : E) (hj : jI yX6_count cX6_count 2 yX7_count cX7_count 2 0 0 E [.int (xs (i0 + 1))] w Q) (hk : kc ≤ 500000) (hs : ks ≤ 7000000) (hK : ∀ w2, Q w2 → mc_E R_law code 4 (mc_JL N xs) 1774 [some (.ref 1000300), some (.ref 0), some (.ref 29), some (.int (nI i0))] [] w2 (kc + 0) (ks + 0)) : mc_E R_law code 4 (mc_JL N xs) 216 [some (.ref 1000300), some (.ref 0), some (.ref 29), some (.int (nI i0))] [] w kc ks := by
  obtain ⟨r1, r2, d1, d2, fs, h1, h2, hr, hw, hS⟩ := hj
  refine e_aloadn (pc := 216) dL_law_216 rfl ?_
  refine e_aloadn (pc := 217) dL_law_217 rfl ?_
  refine e_iloadn (pc := 218) dL_law_218 rfl ?_
  refine e_iconst (v := 1) (pc := 219) dL_law_219 (by decide) ?_
  refine e_iadd (pc := 220) dL_law_220 ?_
  refine e_sld (x := xs (i0 + 1)) (pc := 221) dL_law_221 (lw_vi (k := 1) rfl (by omega) hN) (lw_vx (k := 1) rfl (by omega) hN) ?_
  refine e_callV (pc := 222) hS dL_law_222 kL_13 hw rfl rfl rfl (lw_CR h1 (Nat.le_of_ble_eq_true rfl) (by omega) (by omega)) rfl (Nat.le_of_ble_eq_true rfl) (fun r w1 h => ?_)
  obtain ⟨rfl, ⟨fs1, hw1⟩, hT⟩ := h
  refine e_aloadn (pc := 225) dL_law_225 rfl ?_
  refine e_aloadn (pc := 226) dL_law_226 rfl ?_
  refine e_iloadn (pc := 227) dL_law_227 rfl ?_
  refine e_iconst (v := 1) (pc := 228) dL_law_228 (by decide) ?_
  refine e_iadd (pc := 229) dL_law_229 ?_
  refine e_sld (x := xs (i0 + 1)) (pc := 230) dL_law_230 (lw_vi (k := 1) rfl (by omega) hN) (lw_vx (k := 1) rfl (by omega) hN) ?_
  refine e_cvX (pc := 231) hT dL_law_231 kL_17 hw1 rfl rfl rfl rfl (lw_CR h2 (Nat.le_of_ble_eq_true rfl) (by omega) (by omega)) (Nat.le_of_ble_eq_true rfl) (fun w2 hQ => ?_)
  exact e_icmp_eq (pc := 234) dL_law_234 (t := 1774) (by decide) (fun _ => hK w2 hQ) (fun c => absurd (hr hE) c)
theorem lw_c1 {N i0 : Nat} {xs : Nat → Int32} {E : Prop} {w : mc_W} {kc ks : Nat} {Q : mc_W → Prop} (hN : N ≤ 3584) (hi : i0 + 7 ≤ N) (hE : E) (hj : jI yX6_set cX6_set 4 yX7_set cX7_set 4 0 0 E [.int (xs (i0 + 1)), .int (xs (i0 + 2))] w Q) (hk : kc ≤ 500000) (hs : ks ≤ 7000000) (hK : ∀ w2, Q w2 → mc_E R_law code 4 (mc_JL N xs) 1774 [some (.ref 1000300), some (.ref 0), some (.ref 29), some (.int (nI i0))] [] w2 (kc + 0) (ks + 0)) : mc_E R_law code 4 (mc_JL N xs) 239 [some (.ref 1000300), some (.ref 0), some (.ref 29), some (.int (nI i0))] [] w kc ks := by
  obtain ⟨r1, r2, d1, d2, fs, h1, h2, hr, hw, hS⟩ := hj
  refine e_aloadn (pc := 239) dL_law_239 rfl ?_
  refine e_aloadn (pc := 240) dL_law_240 rfl ?_
  refine e_iloadn (pc := 241) dL_law_241 rfl ?_
  refine e_iconst (v := 1) (pc := 242) dL_law_242 (by decide) ?_
  refine e_iadd (pc := 243) dL_law_243 ?_
  refine e_sld (x := xs (i0 + 1)) (pc := 244) dL_law_244 (lw_vi (k := 1) rfl (by omega) hN) (lw_vx (k := 1) rfl (by omega) hN) ?_
  refine e_aloadn (pc := 245) dL_law_245 rfl ?_
  refine e_iloadn (pc := 246) dL_law_246 rfl ?_
  refine e_iconst (v := 2) (pc := 247) dL_law_247 (by decide) ?_
  refine e_iadd (pc := 248) dL_law_248 ?_
  refine e_sld (x := xs (i0 + 2)) (pc := 249) dL_law_249 (lw_vi (k := 2) rfl (by omega) hN) (lw_vx (k := 2) rfl (by omega) hN) ?_
  refine e_callV (pc := 250) hS dL_law_250 kL_18 hw rfl rfl rfl (lw_CR h1 (Nat.le_of_ble_eq_true rfl) (by omega) (by omega)) rfl (Nat.le_of_ble_eq_true rfl) (fun r w1 h => ?_)
  obtain ⟨rfl, ⟨fs1, hw1⟩, hT⟩ := h
  refine e_aloadn (pc := 253) dL_law_253 rfl ?_
  refine e_aloadn (pc := 254) dL_law_254 rfl ?_
  refine e_iloadn (pc := 255) dL_law_255 rfl ?_
  refine e_iconst (v := 1) (pc := 256) dL_law_256 (by decide) ?_
  refine e_iadd (pc := 257) dL_law_257 ?_
  refine e_sld (x := xs (i0 + 1)) (pc := 258) dL_law_258 (lw_vi (k := 1) rfl (by omega) hN) (lw_vx (k := 1) rfl (by omega) hN) ?_
  refine e_aloadn (pc := 259) dL_law_259 rfl ?_
  refine e_iloadn (pc := 260) dL_law_260 rfl ?_
  refine e_iconst (v := 2) (pc := 261) dL_law_261 (by decide) ?_
  refine e_iadd (pc := 262) dL_law_262 ?_
  refine e_sld (x := xs (i0 + 2)) (pc := 263) dL_law_263 (lw_vi (k := 2) rfl (by omega) hN) (lw_vx (k := 2) rfl (by omega) hN) ?_
  refine e_cvX (pc := 264) hT dL_law_264 kL_22 hw1 rfl rfl rfl rfl (lw_CR h2 (Nat.le_of_ble_eq_true rfl) (by omega) (by omega)) (Nat.le_of_ble_eq_true rfl) (fun w2 hQ => ?_)
  exact e_icmp_eq (pc := 267) dL_law_267 (t := 1774) (by decide) (fun _ => hK w2 hQ) (fun c => absurd (hr hE) c)
theorem lw_c2 {N i0 : Nat} {xs : Nat → Int32} {E : Prop} {w : mc_W} {kc ks : Nat} {Q : mc_W → Prop} (hN : N ≤ 3584) (hi : i0 + 7 ≤ N) (hE : E) (hj : jI yX6_feed cX6_feed 7 yX7_feed cX7_feed 8 0 0 E [.int (xs (i0 + 1)), .int (xs (i0 + 2)), .int (xs (i0 + 3)), .int (xs (i0 + 4)), .int (xs (i0 + 5)), .int (xs (i0 + 6))] w Q) (hk : kc ≤ 500000) (hs : ks ≤ 7000000) (hK : ∀ w2, Q w2 → mc_E R_law code 4 (mc_JL N xs) 1774 [some (.ref 1000300), some (.ref 0), some (.ref 29), some (.int (nI i0))] [] w2 (kc + 0) (ks + 0)) : mc_E R_law code 4 (mc_JL N xs) 272 [some (.ref 1000300), some (.ref 0), some (.ref 29), some (.int (nI i0))] [] w kc ks := by
  obtain ⟨r1, r2, d1, d2, fs, h1, h2, hr, hw, hS⟩ := hj
  refine e_aloadn (pc := 272) dL_law_272 rfl ?_
  refine e_aloadn (pc := 273) dL_law_273 rfl ?_
  refine e_iloadn (pc := 274) dL_law_274 rfl ?_
  refine e_iconst (v := 1) (pc := 275) dL_law_275 (by decide) ?_
  refine e_iadd (pc := 276) dL_law_276 ?_
  refine e_sld (x := xs (i0 + 1)) (pc := 277) dL_law_277 (lw_vi (k := 1) rfl (by omega) hN) (lw_vx (k := 1) rfl (by omega) hN) ?_
  refine e_aloadn (pc := 278) dL_law_278 rfl ?_
  refine e_iloadn (pc := 279) dL_law_279 rfl ?_
  refine e_iconst (v := 2) (pc := 280) dL_law_280 (by decide) ?_
  refine e_iadd (pc := 281) dL_law_281 ?_
  refine e_sld (x := xs (i0 + 2)) (pc := 282) dL_law_282 (lw_vi (k := 2) rfl (by omega) hN) (lw_vx (k := 2) rfl (by omega) hN) ?_
  refine e_aloadn (pc := 283) dL_law_283 rfl ?_
  refine e_iloadn (pc := 284) dL_law_284 rfl ?_
  refine e_iconst (v := 3) (pc := 285) dL_law_285 (by decide) ?_
  refine e_iadd (pc := 286) dL_law_286 ?_
  refine e_sld (x := xs (i0 + 3)) (pc := 287) dL_law_287 (lw_vi (k := 3) rfl (by omega) hN) (lw_vx (k := 3) rfl (by omega) hN) ?_
  refine e_aloadn (pc := 288) dL_law_288 rfl ?_
  refine e_iloadn (pc := 289) dL_law_289 rfl ?_
  refine e_iconst (v := 4) (pc := 290) dL_law_290 (by decide) ?_
  refine e_iadd (pc := 291) dL_law_291 ?_
  refine e_sld (x := xs (i0 + 4)) (pc := 292) dL_law_292 (lw_vi (k := 4) rfl (by omega) hN) (lw_vx (k := 4) rfl (by omega) hN) ?_
  refine e_aloadn (pc := 293) dL_law_293 rfl ?_
  refine e_iloadn (pc := 294) dL_law_294 rfl ?_
  refine e_iconst (v := 5) (pc := 295) dL_law_295 (by decide) ?_
  refine e_iadd (pc := 296) dL_law_296 ?_
  refine e_sld (x := xs (i0 + 5)) (pc := 297) dL_law_297 (lw_vi (k := 5) rfl (by omega) hN) (lw_vx (k := 5) rfl (by omega) hN) ?_
  refine e_aloadn (pc := 298) dL_law_298 rfl ?_
  refine e_iloadn (pc := 299) dL_law_299 rfl ?_
  refine e_bipush (v := 6) (pc := 300) dL_law_300 (by decide) ?_
  refine e_iadd (pc := 302) dL_law_302 ?_
  refine e_sld (x := xs (i0 + 6)) (pc := 303) dL_law_303 (lw_vi (k := 6) rfl (by omega) hN) (lw_vx (k := 6) rfl (by omega) hN) ?_
  refine e_callV (pc := 304) hS dL_law_304 kL_23 hw rfl rfl rfl (lw_CR h1 (Nat.le_of_ble_eq_true rfl) (by omega) (by omega)) rfl (Nat.le_of_ble_eq_true rfl) (fun r w1 h => ?_)
  obtain ⟨rfl, ⟨fs1, hw1⟩, hT⟩ := h
  refine e_aloadn (pc := 307) dL_law_307 rfl ?_
  refine e_aloadn (pc := 308) dL_law_308 rfl ?_
  refine e_iloadn (pc := 309) dL_law_309 rfl ?_
  refine e_iconst (v := 1) (pc := 310) dL_law_310 (by decide) ?_
  refine e_iadd (pc := 311) dL_law_311 ?_
  refine e_sld (x := xs (i0 + 1)) (pc := 312) dL_law_312 (lw_vi (k := 1) rfl (by omega) hN) (lw_vx (k := 1) rfl (by omega) hN) ?_
  refine e_aloadn (pc := 313) dL_law_313 rfl ?_
  refine e_iloadn (pc := 314) dL_law_314 rfl ?_
  refine e_iconst (v := 2) (pc := 315) dL_law_315 (by decide) ?_
  refine e_iadd (pc := 316) dL_law_316 ?_
  refine e_sld (x := xs (i0 + 2)) (pc := 317) dL_law_317 (lw_vi (k := 2) rfl (by omega) hN) (lw_vx (k := 2) rfl (by omega) hN) ?_
  refine e_aloadn (pc := 318) dL_law_318 rfl ?_
  refine e_iloadn (pc := 319) dL_law_319 rfl ?_
  refine e_iconst (v := 3) (pc := 320) dL_law_320 (by decide) ?_
  refine e_iadd (pc := 321) dL_law_321 ?_
  refine e_sld (x := xs (i0 + 3)) (pc := 322) dL_law_322 (lw_vi (k := 3) rfl (by omega) hN) (lw_vx (k := 3) rfl (by omega) hN) ?_
  refine e_aloadn (pc := 323) dL_law_323 rfl ?_
  refine e_iloadn (pc := 324) dL_law_324 rfl ?_
  refine e_iconst (v := 4) (pc := 325) dL_law_325 (by decide) ?_
  refine e_iadd (pc := 326) dL_law_326 ?_
  refine e_sld (x := xs (i0 + 4)) (pc := 327) dL_law_327 (lw_vi (k := 4) rfl (by omega) hN) (lw_vx (k := 4) rfl (by omega) hN) ?_
  refine e_aloadn (pc := 328) dL_law_328 rfl ?_
  refine e_iloadn (pc := 329) dL_law_329 rfl ?_
  refine e_iconst (v := 5) (pc := 330) dL_law_330 (by decide) ?_
  refine e_iadd (pc := 331) dL_law_331 ?_
  refine e_sld (x := xs (i0 + 5)) (pc := 332) dL_law_332 (lw_vi (k := 5) rfl (by omega) hN) (lw_vx (k := 5) rfl (by omega) hN) ?_
  refine e_aloadn (pc := 333) dL_law_333 rfl ?_
  refine e_iloadn (pc := 334) dL_law_334 rfl ?_
  refine e_bipush (v := 6) (pc := 335) dL_law_335 (by decide) ?_
  refine e_iadd (pc := 337) dL_law_337 ?_
  refine e_sld (x := xs (i0 + 6)) (pc := 338) dL_law_338 (lw_vi (k := 6) rfl (by omega) hN) (lw_vx (k := 6) rfl (by omega) hN) ?_
  refine e_cvX (pc := 339) hT dL_law_339 kL_27 hw1 rfl rfl rfl rfl (lw_CR h2 (Nat.le_of_ble_eq_true rfl) (by omega) (by omega)) (Nat.le_of_ble_eq_true rfl) (fun w2 hQ => ?_)
  exact e_icmp_eq (pc := 342) dL_law_342 (t := 1774) (by decide) (fun _ => hK w2 hQ) (fun c => absurd (hr hE) c)
theorem lw_c3 {N i0 : Nat} {xs : Nat → Int32} {E : Prop} {w : mc_W} {kc ks : Nat} {Q : mc_W → Prop} (hN : N ≤ 3584) (hi : i0 + 7 ≤ N) (hE : E) (hj : jI yX6_text cX6_text 3 yX7_text cX7_text 3 2 170 E [] w Q) (hk : kc ≤ 500000) (hs : ks ≤ 7000000) (hK : ∀ w2, Q w2 → mc_E R_law code 4 (mc_JL N xs) 1774 [some (.ref 1000300), some (.ref 0), some (.ref 29), some (.int (nI i0))] [] w2 (kc + 2) (ks + 170)) : mc_E R_law code 4 (mc_JL N xs) 347 [some (.ref 1000300), some (.ref 0), some (.ref 29), some (.int (nI i0))] [] w kc ks := by
  obtain ⟨r1, r2, d1, d2, fs, h1, h2, hr, hw, hS⟩ := hj
  refine e_aloadn (pc := 347) dL_law_347 rfl ?_
  refine e_callV (pc := 348) hS dL_law_348 kL_28 hw rfl rfl rfl (lw_CR h1 (Nat.le_of_ble_eq_true rfl) (by omega) (by omega)) rfl (Nat.le_of_ble_eq_true rfl) (fun r w1 h => ?_)
  obtain ⟨rfl, ⟨fs1, hw1⟩, hT⟩ := h
  refine e_aloadn (pc := 351) dL_law_351 rfl ?_
  refine e_cvX (pc := 352) hT dL_law_352 kL_32 hw1 rfl rfl rfl rfl (lw_CR h2 (Nat.le_of_ble_eq_true rfl) (by omega) (by omega)) (Nat.le_of_ble_eq_true rfl) (fun w2 hQ => ?_)
  exact e_icmp_eq (pc := 355) dL_law_355 (t := 1774) (by decide) (fun _ => hK w2 hQ) (fun c => absurd (hr hE) c)
theorem lw_c4 {N i0 : Nat} {xs : Nat → Int32} {E : Prop} {w : mc_W} {kc ks : Nat} {Q : mc_W → Prop} (hN : N ≤ 3584) (hi : i0 + 7 ≤ N) (hE : E) (hj : jI yX6_force cX6_force 3 yX7_force cX7_force 3 0 0 E [.int (xs (i0 + 1))] w Q) (hk : kc ≤ 500000) (hs : ks ≤ 7000000) (hK : ∀ w2, Q w2 → mc_E R_law code 4 (mc_JL N xs) 1774 [some (.ref 1000300), some (.ref 0), some (.ref 29), some (.int (nI i0))] [] w2 (kc + 0) (ks + 0)) : mc_E R_law code 4 (mc_JL N xs) 360 [some (.ref 1000300), some (.ref 0), some (.ref 29), some (.int (nI i0))] [] w kc ks := by
  obtain ⟨r1, r2, d1, d2, fs, h1, h2, hr, hw, hS⟩ := hj
  refine e_aloadn (pc := 360) dL_law_360 rfl ?_
  refine e_aloadn (pc := 361) dL_law_361 rfl ?_
  refine e_iloadn (pc := 362) dL_law_362 rfl ?_
  refine e_iconst (v := 1) (pc := 363) dL_law_363 (by decide) ?_
  refine e_iadd (pc := 364) dL_law_364 ?_
  refine e_sld (x := xs (i0 + 1)) (pc := 365) dL_law_365 (lw_vi (k := 1) rfl (by omega) hN) (lw_vx (k := 1) rfl (by omega) hN) ?_
  refine e_callV (pc := 366) hS dL_law_366 kL_33 hw rfl rfl rfl (lw_CR h1 (Nat.le_of_ble_eq_true rfl) (by omega) (by omega)) rfl (Nat.le_of_ble_eq_true rfl) (fun r w1 h => ?_)
  obtain ⟨rfl, ⟨fs1, hw1⟩, hT⟩ := h
  refine e_aloadn (pc := 369) dL_law_369 rfl ?_
  refine e_aloadn (pc := 370) dL_law_370 rfl ?_
  refine e_iloadn (pc := 371) dL_law_371 rfl ?_
  refine e_iconst (v := 1) (pc := 372) dL_law_372 (by decide) ?_
  refine e_iadd (pc := 373) dL_law_373 ?_
  refine e_sld (x := xs (i0 + 1)) (pc := 374) dL_law_374 (lw_vi (k := 1) rfl (by omega) hN) (lw_vx (k := 1) rfl (by omega) hN) ?_
  refine e_cvX (pc := 375) hT dL_law_375 kL_36 hw1 rfl rfl rfl rfl (lw_CR h2 (Nat.le_of_ble_eq_true rfl) (by omega) (by omega)) (Nat.le_of_ble_eq_true rfl) (fun w2 hQ => ?_)
  exact e_icmp_eq (pc := 378) dL_law_378 (t := 1774) (by decide) (fun _ => hK w2 hQ) (fun c => absurd (hr hE) c)
theorem lw_c5 {N i0 : Nat} {xs : Nat → Int32} {E : Prop} {w : mc_W} {kc ks : Nat} {Q : mc_W → Prop} (hN : N ≤ 3584) (hi : i0 + 7 ≤ N) (hE : E) (hj : jI yX6_asks cX6_asks 5 yX7_asks cX7_asks 5 0 0 E [.int (xs (i0 + 1)), .int (xs (i0 + 2)), .int (xs (i0 + 3)), .int (xs (i0 + 4))] w Q) (hk : kc ≤ 500000) (hs : ks ≤ 7000000) (hK : ∀ w2, Q w2 → mc_E R_law code 4 (mc_JL N xs) 1774 [some (.ref 1000300), some (.ref 0), some (.ref 29), some (.int (nI i0))] [] w2 (kc + 0) (ks + 0)) : mc_E R_law code 4 (mc_JL N xs) 383 [some (.ref 1000300), some (.ref 0), some (.ref 29), some (.int (nI i0))] [] w kc ks := by
  obtain ⟨r1, r2, d1, d2, fs, h1, h2, hr, hw, hS⟩ := hj
  refine e_aloadn (pc := 383) dL_law_383 rfl ?_
  refine e_aloadn (pc := 384) dL_law_384 rfl ?_
  refine e_iloadn (pc := 385) dL_law_385 rfl ?_
  refine e_iconst (v := 1) (pc := 386) dL_law_386 (by decide) ?_
  refine e_iadd (pc := 387) dL_law_387 ?_
  refine e_sld (x := xs (i0 + 1)) (pc := 388) dL_law_388 (lw_vi (k := 1) rfl (by omega) hN) (lw_vx (k := 1) rfl (by omega) hN) ?_
  refine e_aloadn (pc := 389) dL_law_389 rfl ?_
  refine e_iloadn (pc := 390) dL_law_390 rfl ?_
  refine e_iconst (v := 2) (pc := 391) dL_law_391 (by decide) ?_
  refine e_iadd (pc := 392) dL_law_392 ?_
  refine e_sld (x := xs (i0 + 2)) (pc := 393) dL_law_393 (lw_vi (k := 2) rfl (by omega) hN) (lw_vx (k := 2) rfl (by omega) hN) ?_
  refine e_aloadn (pc := 394) dL_law_394 rfl ?_
  refine e_iloadn (pc := 395) dL_law_395 rfl ?_
  refine e_iconst (v := 3) (pc := 396) dL_law_396 (by decide) ?_
  refine e_iadd (pc := 397) dL_law_397 ?_
  refine e_sld (x := xs (i0 + 3)) (pc := 398) dL_law_398 (lw_vi (k := 3) rfl (by omega) hN) (lw_vx (k := 3) rfl (by omega) hN) ?_
  refine e_aloadn (pc := 399) dL_law_399 rfl ?_
  refine e_iloadn (pc := 400) dL_law_400 rfl ?_
  refine e_iconst (v := 4) (pc := 401) dL_law_401 (by decide) ?_
  refine e_iadd (pc := 402) dL_law_402 ?_
  refine e_sld (x := xs (i0 + 4)) (pc := 403) dL_law_403 (lw_vi (k := 4) rfl (by omega) hN) (lw_vx (k := 4) rfl (by omega) hN) ?_
  refine e_callV (pc := 404) hS dL_law_404 kL_37 hw rfl rfl rfl (lw_CR h1 (Nat.le_of_ble_eq_true rfl) (by omega) (by omega)) rfl (Nat.le_of_ble_eq_true rfl) (fun r w1 h => ?_)
  obtain ⟨rfl, ⟨fs1, hw1⟩, hT⟩ := h
  refine e_aloadn (pc := 407) dL_law_407 rfl ?_
  refine e_aloadn (pc := 408) dL_law_408 rfl ?_
  refine e_iloadn (pc := 409) dL_law_409 rfl ?_
  refine e_iconst (v := 1) (pc := 410) dL_law_410 (by decide) ?_
  refine e_iadd (pc := 411) dL_law_411 ?_
  refine e_sld (x := xs (i0 + 1)) (pc := 412) dL_law_412 (lw_vi (k := 1) rfl (by omega) hN) (lw_vx (k := 1) rfl (by omega) hN) ?_
  refine e_aloadn (pc := 413) dL_law_413 rfl ?_
  refine e_iloadn (pc := 414) dL_law_414 rfl ?_
  refine e_iconst (v := 2) (pc := 415) dL_law_415 (by decide) ?_
  refine e_iadd (pc := 416) dL_law_416 ?_
  refine e_sld (x := xs (i0 + 2)) (pc := 417) dL_law_417 (lw_vi (k := 2) rfl (by omega) hN) (lw_vx (k := 2) rfl (by omega) hN) ?_
  refine e_aloadn (pc := 418) dL_law_418 rfl ?_
  refine e_iloadn (pc := 419) dL_law_419 rfl ?_
  refine e_iconst (v := 3) (pc := 420) dL_law_420 (by decide) ?_
  refine e_iadd (pc := 421) dL_law_421 ?_
  refine e_sld (x := xs (i0 + 3)) (pc := 422) dL_law_422 (lw_vi (k := 3) rfl (by omega) hN) (lw_vx (k := 3) rfl (by omega) hN) ?_
  refine e_aloadn (pc := 423) dL_law_423 rfl ?_
  refine e_iloadn (pc := 424) dL_law_424 rfl ?_
  refine e_iconst (v := 4) (pc := 425) dL_law_425 (by decide) ?_
  refine e_iadd (pc := 426) dL_law_426 ?_
  refine e_sld (x := xs (i0 + 4)) (pc := 427) dL_law_427 (lw_vi (k := 4) rfl (by omega) hN) (lw_vx (k := 4) rfl (by omega) hN) ?_
  refine e_cvX (pc := 428) hT dL_law_428 kL_41 hw1 rfl rfl rfl rfl (lw_CR h2 (Nat.le_of_ble_eq_true rfl) (by omega) (by omega)) (Nat.le_of_ble_eq_true rfl) (fun w2 hQ => ?_)
  exact e_icmp_eq (pc := 431) dL_law_431 (t := 1774) (by decide) (fun _ => hK w2 hQ) (fun c => absurd (hr hE) c)
theorem lw_c6 {N i0 : Nat} {xs : Nat → Int32} {E : Prop} {w : mc_W} {kc ks : Nat} {Q : mc_W → Prop} (hN : N ≤ 3584) (hi : i0 + 7 ≤ N) (hE : E) (hj : jI yX6_clerk cX6_clerk 4 yX7_clerk cX7_clerk 3 0 0 E [.int (xs (i0 + 1)), .int (xs (i0 + 2))] w Q) (hk : kc ≤ 500000) (hs : ks ≤ 7000000) (hK : ∀ w2, Q w2 → mc_E R_law code 4 (mc_JL N xs) 1774 [some (.ref 1000300), some (.ref 0), some (.ref 29), some (.int (nI i0))] [] w2 (kc + 0) (ks + 0)) : mc_E R_law code 4 (mc_JL N xs) 436 [some (.ref 1000300), some (.ref 0), some (.ref 29), some (.int (nI i0))] [] w kc ks := by
  obtain ⟨r1, r2, d1, d2, fs, h1, h2, hr, hw, hS⟩ := hj
  refine e_aloadn (pc := 436) dL_law_436 rfl ?_
  refine e_aloadn (pc := 437) dL_law_437 rfl ?_
  refine e_iloadn (pc := 438) dL_law_438 rfl ?_
  refine e_iconst (v := 1) (pc := 439) dL_law_439 (by decide) ?_
  refine e_iadd (pc := 440) dL_law_440 ?_
  refine e_sld (x := xs (i0 + 1)) (pc := 441) dL_law_441 (lw_vi (k := 1) rfl (by omega) hN) (lw_vx (k := 1) rfl (by omega) hN) ?_
  refine e_aloadn (pc := 442) dL_law_442 rfl ?_
  refine e_iloadn (pc := 443) dL_law_443 rfl ?_
  refine e_iconst (v := 2) (pc := 444) dL_law_444 (by decide) ?_
  refine e_iadd (pc := 445) dL_law_445 ?_
  refine e_sld (x := xs (i0 + 2)) (pc := 446) dL_law_446 (lw_vi (k := 2) rfl (by omega) hN) (lw_vx (k := 2) rfl (by omega) hN) ?_
  refine e_callV (pc := 447) hS dL_law_447 kL_42 hw rfl rfl rfl (lw_CR h1 (Nat.le_of_ble_eq_true rfl) (by omega) (by omega)) rfl (Nat.le_of_ble_eq_true rfl) (fun r w1 h => ?_)
  obtain ⟨rfl, ⟨fs1, hw1⟩, hT⟩ := h
  refine e_aloadn (pc := 450) dL_law_450 rfl ?_
  refine e_aloadn (pc := 451) dL_law_451 rfl ?_
  refine e_iloadn (pc := 452) dL_law_452 rfl ?_
  refine e_iconst (v := 1) (pc := 453) dL_law_453 (by decide) ?_
  refine e_iadd (pc := 454) dL_law_454 ?_
  refine e_sld (x := xs (i0 + 1)) (pc := 455) dL_law_455 (lw_vi (k := 1) rfl (by omega) hN) (lw_vx (k := 1) rfl (by omega) hN) ?_
  refine e_aloadn (pc := 456) dL_law_456 rfl ?_
  refine e_iloadn (pc := 457) dL_law_457 rfl ?_
  refine e_iconst (v := 2) (pc := 458) dL_law_458 (by decide) ?_
  refine e_iadd (pc := 459) dL_law_459 ?_
  refine e_sld (x := xs (i0 + 2)) (pc := 460) dL_law_460 (lw_vi (k := 2) rfl (by omega) hN) (lw_vx (k := 2) rfl (by omega) hN) ?_
  refine e_cvX (pc := 461) hT dL_law_461 kL_45 hw1 rfl rfl rfl rfl (lw_CR h2 (Nat.le_of_ble_eq_true rfl) (by omega) (by omega)) (Nat.le_of_ble_eq_true rfl) (fun w2 hQ => ?_)
  exact e_icmp_eq (pc := 464) dL_law_464 (t := 1774) (by decide) (fun _ => hK w2 hQ) (fun c => absurd (hr hE) c)
theorem lw_c7 {N i0 : Nat} {xs : Nat → Int32} {E : Prop} {w : mc_W} {kc ks : Nat} {Q : mc_W → Prop} (hN : N ≤ 3584) (hi : i0 + 7 ≤ N) (hE : E) (hj : jI yX6_told cX6_told 3 yX7_told cX7_told 3 0 0 E [.int (xs (i0 + 1)), .int (xs (i0 + 2))] w Q) (hk : kc ≤ 500000) (hs : ks ≤ 7000000) (hK : ∀ w2, Q w2 → mc_E R_law code 4 (mc_JL N xs) 1774 [some (.ref 1000300), some (.ref 0), some (.ref 29), some (.int (nI i0))] [] w2 (kc + 0) (ks + 0)) : mc_E R_law code 4 (mc_JL N xs) 469 [some (.ref 1000300), some (.ref 0), some (.ref 29), some (.int (nI i0))] [] w kc ks := by
  obtain ⟨r1, r2, d1, d2, fs, h1, h2, hr, hw, hS⟩ := hj
  refine e_aloadn (pc := 469) dL_law_469 rfl ?_
  refine e_aloadn (pc := 470) dL_law_470 rfl ?_
  refine e_iloadn (pc := 471) dL_law_471 rfl ?_
  refine e_iconst (v := 1) (pc := 472) dL_law_472 (by decide) ?_
  refine e_iadd (pc := 473) dL_law_473 ?_
  refine e_sld (x := xs (i0 + 1)) (pc := 474) dL_law_474 (lw_vi (k := 1) rfl (by omega) hN) (lw_vx (k := 1) rfl (by omega) hN) ?_
  refine e_aloadn (pc := 475) dL_law_475 rfl ?_
  refine e_iloadn (pc := 476) dL_law_476 rfl ?_
  refine e_iconst (v := 2) (pc := 477) dL_law_477 (by decide) ?_
  refine e_iadd (pc := 478) dL_law_478 ?_
  refine e_sld (x := xs (i0 + 2)) (pc := 479) dL_law_479 (lw_vi (k := 2) rfl (by omega) hN) (lw_vx (k := 2) rfl (by omega) hN) ?_
  refine e_callV (pc := 480) hS dL_law_480 kL_46 hw rfl rfl rfl (lw_CR h1 (Nat.le_of_ble_eq_true rfl) (by omega) (by omega)) rfl (Nat.le_of_ble_eq_true rfl) (fun r w1 h => ?_)
  obtain ⟨rfl, ⟨fs1, hw1⟩, hT⟩ := h
  refine e_aloadn (pc := 483) dL_law_483 rfl ?_
  refine e_aloadn (pc := 484) dL_law_484 rfl ?_
  refine e_iloadn (pc := 485) dL_law_485 rfl ?_
  refine e_iconst (v := 1) (pc := 486) dL_law_486 (by decide) ?_
  refine e_iadd (pc := 487) dL_law_487 ?_
  refine e_sld (x := xs (i0 + 1)) (pc := 488) dL_law_488 (lw_vi (k := 1) rfl (by omega) hN) (lw_vx (k := 1) rfl (by omega) hN) ?_
  refine e_aloadn (pc := 489) dL_law_489 rfl ?_
  refine e_iloadn (pc := 490) dL_law_490 rfl ?_
  refine e_iconst (v := 2) (pc := 491) dL_law_491 (by decide) ?_
  refine e_iadd (pc := 492) dL_law_492 ?_
  refine e_sld (x := xs (i0 + 2)) (pc := 493) dL_law_493 (lw_vi (k := 2) rfl (by omega) hN) (lw_vx (k := 2) rfl (by omega) hN) ?_
  refine e_cvX (pc := 494) hT dL_law_494 kL_49 hw1 rfl rfl rfl rfl (lw_CR h2 (Nat.le_of_ble_eq_true rfl) (by omega) (by omega)) (Nat.le_of_ble_eq_true rfl) (fun w2 hQ => ?_)
  exact e_icmp_eq (pc := 497) dL_law_497 (t := 1774) (by decide) (fun _ => hK w2 hQ) (fun c => absurd (hr hE) c)
theorem lw_c8 {N i0 : Nat} {xs : Nat → Int32} {E : Prop} {w : mc_W} {kc ks : Nat} {Q : mc_W → Prop} (hN : N ≤ 3584) (hi : i0 + 7 ≤ N) (hE : E) (hj : jI yX6_figure cX6_figure 5 yX7_figure cX7_figure 4 0 0 E [.int (xs (i0 + 1)), .int (xs (i0 + 2)), .int (xs (i0 + 3))] w Q) (hk : kc ≤ 500000) (hs : ks ≤ 7000000) (hK : ∀ w2, Q w2 → mc_E R_law code 4 (mc_JL N xs) 1774 [some (.ref 1000300), some (.ref 0), some (.ref 29), some (.int (nI i0))] [] w2 (kc + 0) (ks + 0)) : mc_E R_law code 4 (mc_JL N xs) 502 [some (.ref 1000300), some (.ref 0), some (.ref 29), some (.int (nI i0))] [] w kc ks := by
  obtain ⟨r1, r2, d1, d2, fs, h1, h2, hr, hw, hS⟩ := hj
  refine e_aloadn (pc := 502) dL_law_502 rfl ?_
  refine e_aloadn (pc := 503) dL_law_503 rfl ?_
  refine e_iloadn (pc := 504) dL_law_504 rfl ?_
  refine e_iconst (v := 1) (pc := 505) dL_law_505 (by decide) ?_
  refine e_iadd (pc := 506) dL_law_506 ?_
  refine e_sld (x := xs (i0 + 1)) (pc := 507) dL_law_507 (lw_vi (k := 1) rfl (by omega) hN) (lw_vx (k := 1) rfl (by omega) hN) ?_
  refine e_aloadn (pc := 508) dL_law_508 rfl ?_
  refine e_iloadn (pc := 509) dL_law_509 rfl ?_
  refine e_iconst (v := 2) (pc := 510) dL_law_510 (by decide) ?_
  refine e_iadd (pc := 511) dL_law_511 ?_
  refine e_sld (x := xs (i0 + 2)) (pc := 512) dL_law_512 (lw_vi (k := 2) rfl (by omega) hN) (lw_vx (k := 2) rfl (by omega) hN) ?_
  refine e_aloadn (pc := 513) dL_law_513 rfl ?_
  refine e_iloadn (pc := 514) dL_law_514 rfl ?_
  refine e_iconst (v := 3) (pc := 515) dL_law_515 (by decide) ?_
  refine e_iadd (pc := 516) dL_law_516 ?_
  refine e_sld (x := xs (i0 + 3)) (pc := 517) dL_law_517 (lw_vi (k := 3) rfl (by omega) hN) (lw_vx (k := 3) rfl (by omega) hN) ?_
  refine e_callV (pc := 518) hS dL_law_518 kL_50 hw rfl rfl rfl (lw_CR h1 (Nat.le_of_ble_eq_true rfl) (by omega) (by omega)) rfl (Nat.le_of_ble_eq_true rfl) (fun r w1 h => ?_)
  obtain ⟨rfl, ⟨fs1, hw1⟩, hT⟩ := h
  refine e_aloadn (pc := 521) dL_law_521 rfl ?_
  refine e_aloadn (pc := 522) dL_law_522 rfl ?_
  refine e_iloadn (pc := 523) dL_law_523 rfl ?_
  refine e_iconst (v := 1) (pc := 524) dL_law_524 (by decide) ?_
  refine e_iadd (pc := 525) dL_law_525 ?_
  refine e_sld (x := xs (i0 + 1)) (pc := 526) dL_law_526 (lw_vi (k := 1) rfl (by omega) hN) (lw_vx (k := 1) rfl (by omega) hN) ?_
  refine e_aloadn (pc := 527) dL_law_527 rfl ?_
  refine e_iloadn (pc := 528) dL_law_528 rfl ?_
  refine e_iconst (v := 2) (pc := 529) dL_law_529 (by decide) ?_
  refine e_iadd (pc := 530) dL_law_530 ?_
  refine e_sld (x := xs (i0 + 2)) (pc := 531) dL_law_531 (lw_vi (k := 2) rfl (by omega) hN) (lw_vx (k := 2) rfl (by omega) hN) ?_
  refine e_aloadn (pc := 532) dL_law_532 rfl ?_
  refine e_iloadn (pc := 533) dL_law_533 rfl ?_
  refine e_iconst (v := 3) (pc := 534) dL_law_534 (by decide) ?_
  refine e_iadd (pc := 535) dL_law_535 ?_
  refine e_sld (x := xs (i0 + 3)) (pc := 536) dL_law_536 (lw_vi (k := 3) rfl (by omega) hN) (lw_vx (k := 3) rfl (by omega) hN) ?_
  refine e_cvX (pc := 537) hT dL_law_537 kL_54 hw1 rfl rfl rfl rfl (lw_CR h2 (Nat.le_of_ble_eq_true rfl) (by omega) (by omega)) (Nat.le_of_ble_eq_true rfl) (fun w2 hQ => ?_)
  exact e_icmp_eq (pc := 540) dL_law_540 (t := 1774) (by decide) (fun _ => hK w2 hQ) (fun c => absurd (hr hE) c)
theorem lw_c9 {N i0 : Nat} {xs : Nat → Int32} {E : Prop} {w : mc_W} {kc ks : Nat} {Q : mc_W → Prop} (hN : N ≤ 3584) (hi : i0 + 7 ≤ N) (hE : E) (hj : jL yX6_reads cX6_reads 9 yX7_reads cX7_reads 5 0 0 E [.int (xs (i0 + 1)), .int (xs (i0 + 2))] w Q) (hk : kc ≤ 500000) (hs : ks ≤ 7000000) (hK : ∀ w2, Q w2 → mc_E R_law code 4 (mc_JL N xs) 1774 [some (.ref 1000300), some (.ref 0), some (.ref 29), some (.int (nI i0))] [] w2 (kc + 0) (ks + 0)) : mc_E R_law code 4 (mc_JL N xs) 545 [some (.ref 1000300), some (.ref 0), some (.ref 29), some (.int (nI i0))] [] w kc ks := by
  obtain ⟨r1, r2, d1, d2, fs, h1, h2, hr, hw, hS⟩ := hj
  refine e_aloadn (pc := 545) dL_law_545 rfl ?_
  refine e_aloadn (pc := 546) dL_law_546 rfl ?_
  refine e_iloadn (pc := 547) dL_law_547 rfl ?_
  refine e_iconst (v := 1) (pc := 548) dL_law_548 (by decide) ?_
  refine e_iadd (pc := 549) dL_law_549 ?_
  refine e_sld (x := xs (i0 + 1)) (pc := 550) dL_law_550 (lw_vi (k := 1) rfl (by omega) hN) (lw_vx (k := 1) rfl (by omega) hN) ?_
  refine e_aloadn (pc := 551) dL_law_551 rfl ?_
  refine e_iloadn (pc := 552) dL_law_552 rfl ?_
  refine e_iconst (v := 2) (pc := 553) dL_law_553 (by decide) ?_
  refine e_iadd (pc := 554) dL_law_554 ?_
  refine e_sld (x := xs (i0 + 2)) (pc := 555) dL_law_555 (lw_vi (k := 2) rfl (by omega) hN) (lw_vx (k := 2) rfl (by omega) hN) ?_
  refine e_callV (pc := 556) hS dL_law_556 kL_55 hw rfl rfl rfl (lw_CR h1 (Nat.le_of_ble_eq_true rfl) (by omega) (by omega)) rfl (Nat.le_of_ble_eq_true rfl) (fun r w1 h => ?_)
  obtain ⟨rfl, ⟨fs1, hw1⟩, hT⟩ := h
  refine e_aloadn (pc := 559) dL_law_559 rfl ?_
  refine e_aloadn (pc := 560) dL_law_560 rfl ?_
  refine e_iloadn (pc := 561) dL_law_561 rfl ?_
  refine e_iconst (v := 1) (pc := 562) dL_law_562 (by decide) ?_
  refine e_iadd (pc := 563) dL_law_563 ?_
  refine e_sld (x := xs (i0 + 1)) (pc := 564) dL_law_564 (lw_vi (k := 1) rfl (by omega) hN) (lw_vx (k := 1) rfl (by omega) hN) ?_
  refine e_aloadn (pc := 565) dL_law_565 rfl ?_
  refine e_iloadn (pc := 566) dL_law_566 rfl ?_
  refine e_iconst (v := 2) (pc := 567) dL_law_567 (by decide) ?_
  refine e_iadd (pc := 568) dL_law_568 ?_
  refine e_sld (x := xs (i0 + 2)) (pc := 569) dL_law_569 (lw_vi (k := 2) rfl (by omega) hN) (lw_vx (k := 2) rfl (by omega) hN) ?_
  refine e_cvX (pc := 570) hT dL_law_570 kL_59 hw1 rfl rfl rfl rfl (lw_CR h2 (Nat.le_of_ble_eq_true rfl) (by omega) (by omega)) (Nat.le_of_ble_eq_true rfl) (fun w2 hQ => ?_)
  refine e_lcmp (pc := 573) dL_law_573 ?_
  exact e_if_eq (pc := 574) dL_law_574 (t := 1774) (by decide) (fun _ => hK w2 hQ) (fun c => absurd (mc_cmp_eq.mpr (hr hE)) c)
theorem lw_c10 {N i0 : Nat} {xs : Nat → Int32} {E : Prop} {w : mc_W} {kc ks : Nat} {Q : mc_W → Prop} (hN : N ≤ 3584) (hi : i0 + 7 ≤ N) (hE : E) (hj : jL yX6_plain cX6_plain 4 yX7_plain cX7_plain 3 0 0 E [.int (xs (i0 + 1)), .int (xs (i0 + 2))] w Q) (hk : kc ≤ 500000) (hs : ks ≤ 7000000) (hK : ∀ w2, Q w2 → mc_E R_law code 4 (mc_JL N xs) 1774 [some (.ref 1000300), some (.ref 0), some (.ref 29), some (.int (nI i0))] [] w2 (kc + 0) (ks + 0)) : mc_E R_law code 4 (mc_JL N xs) 579 [some (.ref 1000300), some (.ref 0), some (.ref 29), some (.int (nI i0))] [] w kc ks := by
  obtain ⟨r1, r2, d1, d2, fs, h1, h2, hr, hw, hS⟩ := hj
  refine e_aloadn (pc := 579) dL_law_579 rfl ?_
  refine e_aloadn (pc := 580) dL_law_580 rfl ?_
  refine e_iloadn (pc := 581) dL_law_581 rfl ?_
  refine e_iconst (v := 1) (pc := 582) dL_law_582 (by decide) ?_
  refine e_iadd (pc := 583) dL_law_583 ?_
  refine e_sld (x := xs (i0 + 1)) (pc := 584) dL_law_584 (lw_vi (k := 1) rfl (by omega) hN) (lw_vx (k := 1) rfl (by omega) hN) ?_
  refine e_aloadn (pc := 585) dL_law_585 rfl ?_
  refine e_iloadn (pc := 586) dL_law_586 rfl ?_
  refine e_iconst (v := 2) (pc := 587) dL_law_587 (by decide) ?_
  refine e_iadd (pc := 588) dL_law_588 ?_
  refine e_sld (x := xs (i0 + 2)) (pc := 589) dL_law_589 (lw_vi (k := 2) rfl (by omega) hN) (lw_vx (k := 2) rfl (by omega) hN) ?_
  refine e_callV (pc := 590) hS dL_law_590 kL_60 hw rfl rfl rfl (lw_CR h1 (Nat.le_of_ble_eq_true rfl) (by omega) (by omega)) rfl (Nat.le_of_ble_eq_true rfl) (fun r w1 h => ?_)
  obtain ⟨rfl, ⟨fs1, hw1⟩, hT⟩ := h
  refine e_aloadn (pc := 593) dL_law_593 rfl ?_
  refine e_aloadn (pc := 594) dL_law_594 rfl ?_
  refine e_iloadn (pc := 595) dL_law_595 rfl ?_
  refine e_iconst (v := 1) (pc := 596) dL_law_596 (by decide) ?_
  refine e_iadd (pc := 597) dL_law_597 ?_
  refine e_sld (x := xs (i0 + 1)) (pc := 598) dL_law_598 (lw_vi (k := 1) rfl (by omega) hN) (lw_vx (k := 1) rfl (by omega) hN) ?_
  refine e_aloadn (pc := 599) dL_law_599 rfl ?_
  refine e_iloadn (pc := 600) dL_law_600 rfl ?_
  refine e_iconst (v := 2) (pc := 601) dL_law_601 (by decide) ?_
  refine e_iadd (pc := 602) dL_law_602 ?_
  refine e_sld (x := xs (i0 + 2)) (pc := 603) dL_law_603 (lw_vi (k := 2) rfl (by omega) hN) (lw_vx (k := 2) rfl (by omega) hN) ?_
  refine e_cvX (pc := 604) hT dL_law_604 kL_63 hw1 rfl rfl rfl rfl (lw_CR h2 (Nat.le_of_ble_eq_true rfl) (by omega) (by omega)) (Nat.le_of_ble_eq_true rfl) (fun w2 hQ => ?_)
  refine e_lcmp (pc := 607) dL_law_607 ?_
  exact e_if_eq (pc := 608) dL_law_608 (t := 1774) (by decide) (fun _ => hK w2 hQ) (fun c => absurd (mc_cmp_eq.mpr (hr hE)) c)
theorem lw_c11 {N i0 : Nat} {xs : Nat → Int32} {E : Prop} {w : mc_W} {kc ks : Nat} {Q : mc_W → Prop} (hN : N ≤ 3584) (hi : i0 + 7 ≤ N) (hE : E) (hj : jL yX6_adds cX6_adds 5 yX7_adds cX7_adds 4 0 0 E [.int (xs (i0 + 1)), .int (xs (i0 + 2)), .int (xs (i0 + 3))] w Q) (hk : kc ≤ 500000) (hs : ks ≤ 7000000) (hK : ∀ w2, Q w2 → mc_E R_law code 4 (mc_JL N xs) 1774 [some (.ref 1000300), some (.ref 0), some (.ref 29), some (.int (nI i0))] [] w2 (kc + 0) (ks + 0)) : mc_E R_law code 4 (mc_JL N xs) 613 [some (.ref 1000300), some (.ref 0), some (.ref 29), some (.int (nI i0))] [] w kc ks := by
  obtain ⟨r1, r2, d1, d2, fs, h1, h2, hr, hw, hS⟩ := hj
  refine e_aloadn (pc := 613) dL_law_613 rfl ?_
  refine e_aloadn (pc := 614) dL_law_614 rfl ?_
  refine e_iloadn (pc := 615) dL_law_615 rfl ?_
  refine e_iconst (v := 1) (pc := 616) dL_law_616 (by decide) ?_
  refine e_iadd (pc := 617) dL_law_617 ?_
  refine e_sld (x := xs (i0 + 1)) (pc := 618) dL_law_618 (lw_vi (k := 1) rfl (by omega) hN) (lw_vx (k := 1) rfl (by omega) hN) ?_
  refine e_aloadn (pc := 619) dL_law_619 rfl ?_
  refine e_iloadn (pc := 620) dL_law_620 rfl ?_
  refine e_iconst (v := 2) (pc := 621) dL_law_621 (by decide) ?_
  refine e_iadd (pc := 622) dL_law_622 ?_
  refine e_sld (x := xs (i0 + 2)) (pc := 623) dL_law_623 (lw_vi (k := 2) rfl (by omega) hN) (lw_vx (k := 2) rfl (by omega) hN) ?_
  refine e_aloadn (pc := 624) dL_law_624 rfl ?_
  refine e_iloadn (pc := 625) dL_law_625 rfl ?_
  refine e_iconst (v := 3) (pc := 626) dL_law_626 (by decide) ?_
  refine e_iadd (pc := 627) dL_law_627 ?_
  refine e_sld (x := xs (i0 + 3)) (pc := 628) dL_law_628 (lw_vi (k := 3) rfl (by omega) hN) (lw_vx (k := 3) rfl (by omega) hN) ?_
  refine e_callV (pc := 629) hS dL_law_629 kL_64 hw rfl rfl rfl (lw_CR h1 (Nat.le_of_ble_eq_true rfl) (by omega) (by omega)) rfl (Nat.le_of_ble_eq_true rfl) (fun r w1 h => ?_)
  obtain ⟨rfl, ⟨fs1, hw1⟩, hT⟩ := h
  refine e_aloadn (pc := 632) dL_law_632 rfl ?_
  refine e_aloadn (pc := 633) dL_law_633 rfl ?_
  refine e_iloadn (pc := 634) dL_law_634 rfl ?_
  refine e_iconst (v := 1) (pc := 635) dL_law_635 (by decide) ?_
  refine e_iadd (pc := 636) dL_law_636 ?_
  refine e_sld (x := xs (i0 + 1)) (pc := 637) dL_law_637 (lw_vi (k := 1) rfl (by omega) hN) (lw_vx (k := 1) rfl (by omega) hN) ?_
  refine e_aloadn (pc := 638) dL_law_638 rfl ?_
  refine e_iloadn (pc := 639) dL_law_639 rfl ?_
  refine e_iconst (v := 2) (pc := 640) dL_law_640 (by decide) ?_
  refine e_iadd (pc := 641) dL_law_641 ?_
  refine e_sld (x := xs (i0 + 2)) (pc := 642) dL_law_642 (lw_vi (k := 2) rfl (by omega) hN) (lw_vx (k := 2) rfl (by omega) hN) ?_
  refine e_aloadn (pc := 643) dL_law_643 rfl ?_
  refine e_iloadn (pc := 644) dL_law_644 rfl ?_
  refine e_iconst (v := 3) (pc := 645) dL_law_645 (by decide) ?_
  refine e_iadd (pc := 646) dL_law_646 ?_
  refine e_sld (x := xs (i0 + 3)) (pc := 647) dL_law_647 (lw_vi (k := 3) rfl (by omega) hN) (lw_vx (k := 3) rfl (by omega) hN) ?_
  refine e_cvX (pc := 648) hT dL_law_648 kL_68 hw1 rfl rfl rfl rfl (lw_CR h2 (Nat.le_of_ble_eq_true rfl) (by omega) (by omega)) (Nat.le_of_ble_eq_true rfl) (fun w2 hQ => ?_)
  refine e_lcmp (pc := 651) dL_law_651 ?_
  exact e_if_eq (pc := 652) dL_law_652 (t := 1774) (by decide) (fun _ => hK w2 hQ) (fun c => absurd (mc_cmp_eq.mpr (hr hE)) c)
theorem lw_c12 {N i0 : Nat} {xs : Nat → Int32} {E : Prop} {w : mc_W} {kc ks : Nat} {Q : mc_W → Prop} (hN : N ≤ 3584) (hi : i0 + 7 ≤ N) (hE : E) (hj : jI yX6_apart cX6_apart 8 yX7_apart cX7_apart 7 0 0 E [.int (xs (i0 + 1)), .int (xs (i0 + 2)), .int (xs (i0 + 3))] w Q) (hk : kc ≤ 500000) (hs : ks ≤ 7000000) (hK : ∀ w2, Q w2 → mc_E R_law code 4 (mc_JL N xs) 1774 [some (.ref 1000300), some (.ref 0), some (.ref 29), some (.int (nI i0))] [] w2 (kc + 0) (ks + 0)) : mc_E R_law code 4 (mc_JL N xs) 657 [some (.ref 1000300), some (.ref 0), some (.ref 29), some (.int (nI i0))] [] w kc ks := by
  obtain ⟨r1, r2, d1, d2, fs, h1, h2, hr, hw, hS⟩ := hj
  refine e_aloadn (pc := 657) dL_law_657 rfl ?_
  refine e_aloadn (pc := 658) dL_law_658 rfl ?_
  refine e_iloadn (pc := 659) dL_law_659 rfl ?_
  refine e_iconst (v := 1) (pc := 660) dL_law_660 (by decide) ?_
  refine e_iadd (pc := 661) dL_law_661 ?_
  refine e_sld (x := xs (i0 + 1)) (pc := 662) dL_law_662 (lw_vi (k := 1) rfl (by omega) hN) (lw_vx (k := 1) rfl (by omega) hN) ?_
  refine e_aloadn (pc := 663) dL_law_663 rfl ?_
  refine e_iloadn (pc := 664) dL_law_664 rfl ?_
  refine e_iconst (v := 2) (pc := 665) dL_law_665 (by decide) ?_
  refine e_iadd (pc := 666) dL_law_666 ?_
  refine e_sld (x := xs (i0 + 2)) (pc := 667) dL_law_667 (lw_vi (k := 2) rfl (by omega) hN) (lw_vx (k := 2) rfl (by omega) hN) ?_
  refine e_aloadn (pc := 668) dL_law_668 rfl ?_
  refine e_iloadn (pc := 669) dL_law_669 rfl ?_
  refine e_iconst (v := 3) (pc := 670) dL_law_670 (by decide) ?_
  refine e_iadd (pc := 671) dL_law_671 ?_
  refine e_sld (x := xs (i0 + 3)) (pc := 672) dL_law_672 (lw_vi (k := 3) rfl (by omega) hN) (lw_vx (k := 3) rfl (by omega) hN) ?_
  refine e_callV (pc := 673) hS dL_law_673 kL_69 hw rfl rfl rfl (lw_CR h1 (Nat.le_of_ble_eq_true rfl) (by omega) (by omega)) rfl (Nat.le_of_ble_eq_true rfl) (fun r w1 h => ?_)
  obtain ⟨rfl, ⟨fs1, hw1⟩, hT⟩ := h
  refine e_aloadn (pc := 676) dL_law_676 rfl ?_
  refine e_aloadn (pc := 677) dL_law_677 rfl ?_
  refine e_iloadn (pc := 678) dL_law_678 rfl ?_
  refine e_iconst (v := 1) (pc := 679) dL_law_679 (by decide) ?_
  refine e_iadd (pc := 680) dL_law_680 ?_
  refine e_sld (x := xs (i0 + 1)) (pc := 681) dL_law_681 (lw_vi (k := 1) rfl (by omega) hN) (lw_vx (k := 1) rfl (by omega) hN) ?_
  refine e_aloadn (pc := 682) dL_law_682 rfl ?_
  refine e_iloadn (pc := 683) dL_law_683 rfl ?_
  refine e_iconst (v := 2) (pc := 684) dL_law_684 (by decide) ?_
  refine e_iadd (pc := 685) dL_law_685 ?_
  refine e_sld (x := xs (i0 + 2)) (pc := 686) dL_law_686 (lw_vi (k := 2) rfl (by omega) hN) (lw_vx (k := 2) rfl (by omega) hN) ?_
  refine e_aloadn (pc := 687) dL_law_687 rfl ?_
  refine e_iloadn (pc := 688) dL_law_688 rfl ?_
  refine e_iconst (v := 3) (pc := 689) dL_law_689 (by decide) ?_
  refine e_iadd (pc := 690) dL_law_690 ?_
  refine e_sld (x := xs (i0 + 3)) (pc := 691) dL_law_691 (lw_vi (k := 3) rfl (by omega) hN) (lw_vx (k := 3) rfl (by omega) hN) ?_
  refine e_cvX (pc := 692) hT dL_law_692 kL_72 hw1 rfl rfl rfl rfl (lw_CR h2 (Nat.le_of_ble_eq_true rfl) (by omega) (by omega)) (Nat.le_of_ble_eq_true rfl) (fun w2 hQ => ?_)
  exact e_icmp_eq (pc := 695) dL_law_695 (t := 1774) (by decide) (fun _ => hK w2 hQ) (fun c => absurd (hr hE) c)
theorem lw_c13 {N i0 : Nat} {xs : Nat → Int32} {E : Prop} {w : mc_W} {kc ks : Nat} {Q : mc_W → Prop} (hN : N ≤ 3584) (hi : i0 + 7 ≤ N) (hE : E) (hj : jL yX6_book cX6_book 13 yX7_book cX7_book 9 0 0 E [.int (xs (i0 + 1)), .int (xs (i0 + 2)), .int (xs (i0 + 3))] w Q) (hk : kc ≤ 500000) (hs : ks ≤ 7000000) (hK : ∀ w2, Q w2 → mc_E R_law code 4 (mc_JL N xs) 1774 [some (.ref 1000300), some (.ref 0), some (.ref 29), some (.int (nI i0))] [] w2 (kc + 0) (ks + 0)) : mc_E R_law code 4 (mc_JL N xs) 700 [some (.ref 1000300), some (.ref 0), some (.ref 29), some (.int (nI i0))] [] w kc ks := by
  obtain ⟨r1, r2, d1, d2, fs, h1, h2, hr, hw, hS⟩ := hj
  refine e_aloadn (pc := 700) dL_law_700 rfl ?_
  refine e_aloadn (pc := 701) dL_law_701 rfl ?_
  refine e_iloadn (pc := 702) dL_law_702 rfl ?_
  refine e_iconst (v := 1) (pc := 703) dL_law_703 (by decide) ?_
  refine e_iadd (pc := 704) dL_law_704 ?_
  refine e_sld (x := xs (i0 + 1)) (pc := 705) dL_law_705 (lw_vi (k := 1) rfl (by omega) hN) (lw_vx (k := 1) rfl (by omega) hN) ?_
  refine e_aloadn (pc := 706) dL_law_706 rfl ?_
  refine e_iloadn (pc := 707) dL_law_707 rfl ?_
  refine e_iconst (v := 2) (pc := 708) dL_law_708 (by decide) ?_
  refine e_iadd (pc := 709) dL_law_709 ?_
  refine e_sld (x := xs (i0 + 2)) (pc := 710) dL_law_710 (lw_vi (k := 2) rfl (by omega) hN) (lw_vx (k := 2) rfl (by omega) hN) ?_
  refine e_aloadn (pc := 711) dL_law_711 rfl ?_
  refine e_iloadn (pc := 712) dL_law_712 rfl ?_
  refine e_iconst (v := 3) (pc := 713) dL_law_713 (by decide) ?_
  refine e_iadd (pc := 714) dL_law_714 ?_
  refine e_sld (x := xs (i0 + 3)) (pc := 715) dL_law_715 (lw_vi (k := 3) rfl (by omega) hN) (lw_vx (k := 3) rfl (by omega) hN) ?_
  refine e_callV (pc := 716) hS dL_law_716 kL_73 hw rfl rfl rfl (lw_CR h1 (Nat.le_of_ble_eq_true rfl) (by omega) (by omega)) rfl (Nat.le_of_ble_eq_true rfl) (fun r w1 h => ?_)
  obtain ⟨rfl, ⟨fs1, hw1⟩, hT⟩ := h
  refine e_aloadn (pc := 719) dL_law_719 rfl ?_
  refine e_aloadn (pc := 720) dL_law_720 rfl ?_
  refine e_iloadn (pc := 721) dL_law_721 rfl ?_
  refine e_iconst (v := 1) (pc := 722) dL_law_722 (by decide) ?_
  refine e_iadd (pc := 723) dL_law_723 ?_
  refine e_sld (x := xs (i0 + 1)) (pc := 724) dL_law_724 (lw_vi (k := 1) rfl (by omega) hN) (lw_vx (k := 1) rfl (by omega) hN) ?_
  refine e_aloadn (pc := 725) dL_law_725 rfl ?_
  refine e_iloadn (pc := 726) dL_law_726 rfl ?_
  refine e_iconst (v := 2) (pc := 727) dL_law_727 (by decide) ?_
  refine e_iadd (pc := 728) dL_law_728 ?_
  refine e_sld (x := xs (i0 + 2)) (pc := 729) dL_law_729 (lw_vi (k := 2) rfl (by omega) hN) (lw_vx (k := 2) rfl (by omega) hN) ?_
  refine e_aloadn (pc := 730) dL_law_730 rfl ?_
  refine e_iloadn (pc := 731) dL_law_731 rfl ?_
  refine e_iconst (v := 3) (pc := 732) dL_law_732 (by decide) ?_
  refine e_iadd (pc := 733) dL_law_733 ?_
  refine e_sld (x := xs (i0 + 3)) (pc := 734) dL_law_734 (lw_vi (k := 3) rfl (by omega) hN) (lw_vx (k := 3) rfl (by omega) hN) ?_
  refine e_cvX (pc := 735) hT dL_law_735 kL_76 hw1 rfl rfl rfl rfl (lw_CR h2 (Nat.le_of_ble_eq_true rfl) (by omega) (by omega)) (Nat.le_of_ble_eq_true rfl) (fun w2 hQ => ?_)
  refine e_lcmp (pc := 738) dL_law_738 ?_
  exact e_if_eq (pc := 739) dL_law_739 (t := 1774) (by decide) (fun _ => hK w2 hQ) (fun c => absurd (mc_cmp_eq.mpr (hr hE)) c)
theorem lw_c14 {N i0 : Nat} {xs : Nat → Int32} {E : Prop} {w : mc_W} {kc ks : Nat} {Q : mc_W → Prop} (hN : N ≤ 3584) (hi : i0 + 7 ≤ N) (hE : E) (hj : jL yX6_who cX6_who 13 yX7_who cX7_who 11 0 0 E [.int (xs (i0 + 1)), .int (xs (i0 + 2))] w Q) (hk : kc ≤ 500000) (hs : ks ≤ 7000000) (hK : ∀ w2, Q w2 → mc_E R_law code 4 (mc_JL N xs) 1774 [some (.ref 1000300), some (.ref 0), some (.ref 29), some (.int (nI i0))] [] w2 (kc + 0) (ks + 0)) : mc_E R_law code 4 (mc_JL N xs) 744 [some (.ref 1000300), some (.ref 0), some (.ref 29), some (.int (nI i0))] [] w kc ks := by
  obtain ⟨r1, r2, d1, d2, fs, h1, h2, hr, hw, hS⟩ := hj
  refine e_aloadn (pc := 744) dL_law_744 rfl ?_
  refine e_aloadn (pc := 745) dL_law_745 rfl ?_
  refine e_iloadn (pc := 746) dL_law_746 rfl ?_
  refine e_iconst (v := 1) (pc := 747) dL_law_747 (by decide) ?_
  refine e_iadd (pc := 748) dL_law_748 ?_
  refine e_sld (x := xs (i0 + 1)) (pc := 749) dL_law_749 (lw_vi (k := 1) rfl (by omega) hN) (lw_vx (k := 1) rfl (by omega) hN) ?_
  refine e_aloadn (pc := 750) dL_law_750 rfl ?_
  refine e_iloadn (pc := 751) dL_law_751 rfl ?_
  refine e_iconst (v := 2) (pc := 752) dL_law_752 (by decide) ?_
  refine e_iadd (pc := 753) dL_law_753 ?_
  refine e_sld (x := xs (i0 + 2)) (pc := 754) dL_law_754 (lw_vi (k := 2) rfl (by omega) hN) (lw_vx (k := 2) rfl (by omega) hN) ?_
  refine e_callV (pc := 755) hS dL_law_755 kL_77 hw rfl rfl rfl (lw_CR h1 (Nat.le_of_ble_eq_true rfl) (by omega) (by omega)) rfl (Nat.le_of_ble_eq_true rfl) (fun r w1 h => ?_)
  obtain ⟨rfl, ⟨fs1, hw1⟩, hT⟩ := h
  refine e_aloadn (pc := 758) dL_law_758 rfl ?_
  refine e_aloadn (pc := 759) dL_law_759 rfl ?_
  refine e_iloadn (pc := 760) dL_law_760 rfl ?_
  refine e_iconst (v := 1) (pc := 761) dL_law_761 (by decide) ?_
  refine e_iadd (pc := 762) dL_law_762 ?_
  refine e_sld (x := xs (i0 + 1)) (pc := 763) dL_law_763 (lw_vi (k := 1) rfl (by omega) hN) (lw_vx (k := 1) rfl (by omega) hN) ?_
  refine e_aloadn (pc := 764) dL_law_764 rfl ?_
  refine e_iloadn (pc := 765) dL_law_765 rfl ?_
  refine e_iconst (v := 2) (pc := 766) dL_law_766 (by decide) ?_
  refine e_iadd (pc := 767) dL_law_767 ?_
  refine e_sld (x := xs (i0 + 2)) (pc := 768) dL_law_768 (lw_vi (k := 2) rfl (by omega) hN) (lw_vx (k := 2) rfl (by omega) hN) ?_
  refine e_cvX (pc := 769) hT dL_law_769 kL_80 hw1 rfl rfl rfl rfl (lw_CR h2 (Nat.le_of_ble_eq_true rfl) (by omega) (by omega)) (Nat.le_of_ble_eq_true rfl) (fun w2 hQ => ?_)
  refine e_lcmp (pc := 772) dL_law_772 ?_
  exact e_if_eq (pc := 773) dL_law_773 (t := 1774) (by decide) (fun _ => hK w2 hQ) (fun c => absurd (mc_cmp_eq.mpr (hr hE)) c)
theorem lw_c15 {N i0 : Nat} {xs : Nat → Int32} {E : Prop} {w : mc_W} {kc ks : Nat} {Q : mc_W → Prop} (hN : N ≤ 3584) (hi : i0 + 7 ≤ N) (hE : E) (hj : jL yX6_smuggled cX6_smuggled 15 yX7_smuggled cX7_smuggled 14 0 0 E [.int (xs (i0 + 1)), .int (xs (i0 + 2)), .int (xs (i0 + 3))] w Q) (hk : kc ≤ 500000) (hs : ks ≤ 7000000) (hK : ∀ w2, Q w2 → mc_E R_law code 4 (mc_JL N xs) 1774 [some (.ref 1000300), some (.ref 0), some (.ref 29), some (.int (nI i0))] [] w2 (kc + 0) (ks + 0)) : mc_E R_law code 4 (mc_JL N xs) 778 [some (.ref 1000300), some (.ref 0), some (.ref 29), some (.int (nI i0))] [] w kc ks := by
  obtain ⟨r1, r2, d1, d2, fs, h1, h2, hr, hw, hS⟩ := hj
  refine e_aloadn (pc := 778) dL_law_778 rfl ?_
  refine e_aloadn (pc := 779) dL_law_779 rfl ?_
  refine e_iloadn (pc := 780) dL_law_780 rfl ?_
  refine e_iconst (v := 1) (pc := 781) dL_law_781 (by decide) ?_
  refine e_iadd (pc := 782) dL_law_782 ?_
  refine e_sld (x := xs (i0 + 1)) (pc := 783) dL_law_783 (lw_vi (k := 1) rfl (by omega) hN) (lw_vx (k := 1) rfl (by omega) hN) ?_
  refine e_aloadn (pc := 784) dL_law_784 rfl ?_
  refine e_iloadn (pc := 785) dL_law_785 rfl ?_
  refine e_iconst (v := 2) (pc := 786) dL_law_786 (by decide) ?_
  refine e_iadd (pc := 787) dL_law_787 ?_
  refine e_sld (x := xs (i0 + 2)) (pc := 788) dL_law_788 (lw_vi (k := 2) rfl (by omega) hN) (lw_vx (k := 2) rfl (by omega) hN) ?_
  refine e_aloadn (pc := 789) dL_law_789 rfl ?_
  refine e_iloadn (pc := 790) dL_law_790 rfl ?_
  refine e_iconst (v := 3) (pc := 791) dL_law_791 (by decide) ?_
  refine e_iadd (pc := 792) dL_law_792 ?_
  refine e_sld (x := xs (i0 + 3)) (pc := 793) dL_law_793 (lw_vi (k := 3) rfl (by omega) hN) (lw_vx (k := 3) rfl (by omega) hN) ?_
  refine e_callV (pc := 794) hS dL_law_794 kL_81 hw rfl rfl rfl (lw_CR h1 (Nat.le_of_ble_eq_true rfl) (by omega) (by omega)) rfl (Nat.le_of_ble_eq_true rfl) (fun r w1 h => ?_)
  obtain ⟨rfl, ⟨fs1, hw1⟩, hT⟩ := h
  refine e_aloadn (pc := 797) dL_law_797 rfl ?_
  refine e_aloadn (pc := 798) dL_law_798 rfl ?_
  refine e_iloadn (pc := 799) dL_law_799 rfl ?_
  refine e_iconst (v := 1) (pc := 800) dL_law_800 (by decide) ?_
  refine e_iadd (pc := 801) dL_law_801 ?_
  refine e_sld (x := xs (i0 + 1)) (pc := 802) dL_law_802 (lw_vi (k := 1) rfl (by omega) hN) (lw_vx (k := 1) rfl (by omega) hN) ?_
  refine e_aloadn (pc := 803) dL_law_803 rfl ?_
  refine e_iloadn (pc := 804) dL_law_804 rfl ?_
  refine e_iconst (v := 2) (pc := 805) dL_law_805 (by decide) ?_
  refine e_iadd (pc := 806) dL_law_806 ?_
  refine e_sld (x := xs (i0 + 2)) (pc := 807) dL_law_807 (lw_vi (k := 2) rfl (by omega) hN) (lw_vx (k := 2) rfl (by omega) hN) ?_
  refine e_aloadn (pc := 808) dL_law_808 rfl ?_
  refine e_iloadn (pc := 809) dL_law_809 rfl ?_
  refine e_iconst (v := 3) (pc := 810) dL_law_810 (by decide) ?_
  refine e_iadd (pc := 811) dL_law_811 ?_
  refine e_sld (x := xs (i0 + 3)) (pc := 812) dL_law_812 (lw_vi (k := 3) rfl (by omega) hN) (lw_vx (k := 3) rfl (by omega) hN) ?_
  refine e_cvX (pc := 813) hT dL_law_813 kL_84 hw1 rfl rfl rfl rfl (lw_CR h2 (Nat.le_of_ble_eq_true rfl) (by omega) (by omega)) (Nat.le_of_ble_eq_true rfl) (fun w2 hQ => ?_)
  refine e_lcmp (pc := 816) dL_law_816 ?_
  exact e_if_eq (pc := 817) dL_law_817 (t := 1774) (by decide) (fun _ => hK w2 hQ) (fun c => absurd (mc_cmp_eq.mpr (hr hE)) c)
theorem lw_c16 {N i0 : Nat} {xs : Nat → Int32} {E : Prop} {w : mc_W} {kc ks : Nat} {Q : mc_W → Prop} (hN : N ≤ 3584) (hi : i0 + 7 ≤ N) (hE : E) (hj : jL yX6_slip cX6_slip 14 yX7_slip cX7_slip 14 0 0 E [.int (xs (i0 + 1)), .int (xs (i0 + 2)), .int (xs (i0 + 3))] w Q) (hk : kc ≤ 500000) (hs : ks ≤ 7000000) (hK : ∀ w2, Q w2 → mc_E R_law code 4 (mc_JL N xs) 1774 [some (.ref 1000300), some (.ref 0), some (.ref 29), some (.int (nI i0))] [] w2 (kc + 0) (ks + 0)) : mc_E R_law code 4 (mc_JL N xs) 822 [some (.ref 1000300), some (.ref 0), some (.ref 29), some (.int (nI i0))] [] w kc ks := by
  obtain ⟨r1, r2, d1, d2, fs, h1, h2, hr, hw, hS⟩ := hj
  refine e_aloadn (pc := 822) dL_law_822 rfl ?_
  refine e_aloadn (pc := 823) dL_law_823 rfl ?_
  refine e_iloadn (pc := 824) dL_law_824 rfl ?_
  refine e_iconst (v := 1) (pc := 825) dL_law_825 (by decide) ?_
  refine e_iadd (pc := 826) dL_law_826 ?_
  refine e_sld (x := xs (i0 + 1)) (pc := 827) dL_law_827 (lw_vi (k := 1) rfl (by omega) hN) (lw_vx (k := 1) rfl (by omega) hN) ?_
  refine e_aloadn (pc := 828) dL_law_828 rfl ?_
  refine e_iloadn (pc := 829) dL_law_829 rfl ?_
  refine e_iconst (v := 2) (pc := 830) dL_law_830 (by decide) ?_
  refine e_iadd (pc := 831) dL_law_831 ?_
  refine e_sld (x := xs (i0 + 2)) (pc := 832) dL_law_832 (lw_vi (k := 2) rfl (by omega) hN) (lw_vx (k := 2) rfl (by omega) hN) ?_
  refine e_aloadn (pc := 833) dL_law_833 rfl ?_
  refine e_iloadn (pc := 834) dL_law_834 rfl ?_
  refine e_iconst (v := 3) (pc := 835) dL_law_835 (by decide) ?_
  refine e_iadd (pc := 836) dL_law_836 ?_
  refine e_sld (x := xs (i0 + 3)) (pc := 837) dL_law_837 (lw_vi (k := 3) rfl (by omega) hN) (lw_vx (k := 3) rfl (by omega) hN) ?_
  refine e_callV (pc := 838) hS dL_law_838 kL_85 hw rfl rfl rfl (lw_CR h1 (Nat.le_of_ble_eq_true rfl) (by omega) (by omega)) rfl (Nat.le_of_ble_eq_true rfl) (fun r w1 h => ?_)
  obtain ⟨rfl, ⟨fs1, hw1⟩, hT⟩ := h
  refine e_aloadn (pc := 841) dL_law_841 rfl ?_
  refine e_aloadn (pc := 842) dL_law_842 rfl ?_
  refine e_iloadn (pc := 843) dL_law_843 rfl ?_
  refine e_iconst (v := 1) (pc := 844) dL_law_844 (by decide) ?_
  refine e_iadd (pc := 845) dL_law_845 ?_
  refine e_sld (x := xs (i0 + 1)) (pc := 846) dL_law_846 (lw_vi (k := 1) rfl (by omega) hN) (lw_vx (k := 1) rfl (by omega) hN) ?_
  refine e_aloadn (pc := 847) dL_law_847 rfl ?_
  refine e_iloadn (pc := 848) dL_law_848 rfl ?_
  refine e_iconst (v := 2) (pc := 849) dL_law_849 (by decide) ?_
  refine e_iadd (pc := 850) dL_law_850 ?_
  refine e_sld (x := xs (i0 + 2)) (pc := 851) dL_law_851 (lw_vi (k := 2) rfl (by omega) hN) (lw_vx (k := 2) rfl (by omega) hN) ?_
  refine e_aloadn (pc := 852) dL_law_852 rfl ?_
  refine e_iloadn (pc := 853) dL_law_853 rfl ?_
  refine e_iconst (v := 3) (pc := 854) dL_law_854 (by decide) ?_
  refine e_iadd (pc := 855) dL_law_855 ?_
  refine e_sld (x := xs (i0 + 3)) (pc := 856) dL_law_856 (lw_vi (k := 3) rfl (by omega) hN) (lw_vx (k := 3) rfl (by omega) hN) ?_
  refine e_cvX (pc := 857) hT dL_law_857 kL_88 hw1 rfl rfl rfl rfl (lw_CR h2 (Nat.le_of_ble_eq_true rfl) (by omega) (by omega)) (Nat.le_of_ble_eq_true rfl) (fun w2 hQ => ?_)
  refine e_lcmp (pc := 860) dL_law_860 ?_
  exact e_if_eq (pc := 861) dL_law_861 (t := 1774) (by decide) (fun _ => hK w2 hQ) (fun c => absurd (mc_cmp_eq.mpr (hr hE)) c)
theorem lw_c17 {N i0 : Nat} {xs : Nat → Int32} {E : Prop} {w : mc_W} {kc ks : Nat} {Q : mc_W → Prop} (hN : N ≤ 3584) (hi : i0 + 7 ≤ N) (hE : E) (hj : jL yX6_sure cX6_sure 9 yX7_sure cX7_sure 6 0 0 E [.int (xs (i0 + 1)), .int (xs (i0 + 2))] w Q) (hk : kc ≤ 500000) (hs : ks ≤ 7000000) (hK : ∀ w2, Q w2 → mc_E R_law code 4 (mc_JL N xs) 1774 [some (.ref 1000300), some (.ref 0), some (.ref 29), some (.int (nI i0))] [] w2 (kc + 0) (ks + 0)) : mc_E R_law code 4 (mc_JL N xs) 866 [some (.ref 1000300), some (.ref 0), some (.ref 29), some (.int (nI i0))] [] w kc ks := by
  obtain ⟨r1, r2, d1, d2, fs, h1, h2, hr, hw, hS⟩ := hj
  refine e_aloadn (pc := 866) dL_law_866 rfl ?_
  refine e_aloadn (pc := 867) dL_law_867 rfl ?_
  refine e_iloadn (pc := 868) dL_law_868 rfl ?_
  refine e_iconst (v := 1) (pc := 869) dL_law_869 (by decide) ?_
  refine e_iadd (pc := 870) dL_law_870 ?_
  refine e_sld (x := xs (i0 + 1)) (pc := 871) dL_law_871 (lw_vi (k := 1) rfl (by omega) hN) (lw_vx (k := 1) rfl (by omega) hN) ?_
  refine e_aloadn (pc := 872) dL_law_872 rfl ?_
  refine e_iloadn (pc := 873) dL_law_873 rfl ?_
  refine e_iconst (v := 2) (pc := 874) dL_law_874 (by decide) ?_
  refine e_iadd (pc := 875) dL_law_875 ?_
  refine e_sld (x := xs (i0 + 2)) (pc := 876) dL_law_876 (lw_vi (k := 2) rfl (by omega) hN) (lw_vx (k := 2) rfl (by omega) hN) ?_
  refine e_callV (pc := 877) hS dL_law_877 kL_89 hw rfl rfl rfl (lw_CR h1 (Nat.le_of_ble_eq_true rfl) (by omega) (by omega)) rfl (Nat.le_of_ble_eq_true rfl) (fun r w1 h => ?_)
  obtain ⟨rfl, ⟨fs1, hw1⟩, hT⟩ := h
  refine e_aloadn (pc := 880) dL_law_880 rfl ?_
  refine e_aloadn (pc := 881) dL_law_881 rfl ?_
  refine e_iloadn (pc := 882) dL_law_882 rfl ?_
  refine e_iconst (v := 1) (pc := 883) dL_law_883 (by decide) ?_
  refine e_iadd (pc := 884) dL_law_884 ?_
  refine e_sld (x := xs (i0 + 1)) (pc := 885) dL_law_885 (lw_vi (k := 1) rfl (by omega) hN) (lw_vx (k := 1) rfl (by omega) hN) ?_
  refine e_aloadn (pc := 886) dL_law_886 rfl ?_
  refine e_iloadn (pc := 887) dL_law_887 rfl ?_
  refine e_iconst (v := 2) (pc := 888) dL_law_888 (by decide) ?_
  refine e_iadd (pc := 889) dL_law_889 ?_
  refine e_sld (x := xs (i0 + 2)) (pc := 890) dL_law_890 (lw_vi (k := 2) rfl (by omega) hN) (lw_vx (k := 2) rfl (by omega) hN) ?_
  refine e_cvX (pc := 891) hT dL_law_891 kL_92 hw1 rfl rfl rfl rfl (lw_CR h2 (Nat.le_of_ble_eq_true rfl) (by omega) (by omega)) (Nat.le_of_ble_eq_true rfl) (fun w2 hQ => ?_)
  refine e_lcmp (pc := 894) dL_law_894 ?_
  exact e_if_eq (pc := 895) dL_law_895 (t := 1774) (by decide) (fun _ => hK w2 hQ) (fun c => absurd (mc_cmp_eq.mpr (hr hE)) c)
theorem lw_c18 {N i0 : Nat} {xs : Nat → Int32} {E : Prop} {w : mc_W} {kc ks : Nat} {Q : mc_W → Prop} (hN : N ≤ 3584) (hi : i0 + 7 ≤ N) (hE : E) (hj : jI yX6_shortest cX6_shortest 11 yX7_shortest cX7_shortest 11 0 0 E [.int (xs (i0 + 1)), .int (xs (i0 + 2)), .int (xs (i0 + 3))] w Q) (hk : kc ≤ 500000) (hs : ks ≤ 7000000) (hK : ∀ w2, Q w2 → mc_E R_law code 4 (mc_JL N xs) 1774 [some (.ref 1000300), some (.ref 0), some (.ref 29), some (.int (nI i0))] [] w2 (kc + 0) (ks + 0)) : mc_E R_law code 4 (mc_JL N xs) 900 [some (.ref 1000300), some (.ref 0), some (.ref 29), some (.int (nI i0))] [] w kc ks := by
  obtain ⟨r1, r2, d1, d2, fs, h1, h2, hr, hw, hS⟩ := hj
  refine e_aloadn (pc := 900) dL_law_900 rfl ?_
  refine e_aloadn (pc := 901) dL_law_901 rfl ?_
  refine e_iloadn (pc := 902) dL_law_902 rfl ?_
  refine e_iconst (v := 1) (pc := 903) dL_law_903 (by decide) ?_
  refine e_iadd (pc := 904) dL_law_904 ?_
  refine e_sld (x := xs (i0 + 1)) (pc := 905) dL_law_905 (lw_vi (k := 1) rfl (by omega) hN) (lw_vx (k := 1) rfl (by omega) hN) ?_
  refine e_aloadn (pc := 906) dL_law_906 rfl ?_
  refine e_iloadn (pc := 907) dL_law_907 rfl ?_
  refine e_iconst (v := 2) (pc := 908) dL_law_908 (by decide) ?_
  refine e_iadd (pc := 909) dL_law_909 ?_
  refine e_sld (x := xs (i0 + 2)) (pc := 910) dL_law_910 (lw_vi (k := 2) rfl (by omega) hN) (lw_vx (k := 2) rfl (by omega) hN) ?_
  refine e_aloadn (pc := 911) dL_law_911 rfl ?_
  refine e_iloadn (pc := 912) dL_law_912 rfl ?_
  refine e_iconst (v := 3) (pc := 913) dL_law_913 (by decide) ?_
  refine e_iadd (pc := 914) dL_law_914 ?_
  refine e_sld (x := xs (i0 + 3)) (pc := 915) dL_law_915 (lw_vi (k := 3) rfl (by omega) hN) (lw_vx (k := 3) rfl (by omega) hN) ?_
  refine e_callV (pc := 916) hS dL_law_916 kL_93 hw rfl rfl rfl (lw_CR h1 (Nat.le_of_ble_eq_true rfl) (by omega) (by omega)) rfl (Nat.le_of_ble_eq_true rfl) (fun r w1 h => ?_)
  obtain ⟨rfl, ⟨fs1, hw1⟩, hT⟩ := h
  refine e_aloadn (pc := 919) dL_law_919 rfl ?_
  refine e_aloadn (pc := 920) dL_law_920 rfl ?_
  refine e_iloadn (pc := 921) dL_law_921 rfl ?_
  refine e_iconst (v := 1) (pc := 922) dL_law_922 (by decide) ?_
  refine e_iadd (pc := 923) dL_law_923 ?_
  refine e_sld (x := xs (i0 + 1)) (pc := 924) dL_law_924 (lw_vi (k := 1) rfl (by omega) hN) (lw_vx (k := 1) rfl (by omega) hN) ?_
  refine e_aloadn (pc := 925) dL_law_925 rfl ?_
  refine e_iloadn (pc := 926) dL_law_926 rfl ?_
  refine e_iconst (v := 2) (pc := 927) dL_law_927 (by decide) ?_
  refine e_iadd (pc := 928) dL_law_928 ?_
  refine e_sld (x := xs (i0 + 2)) (pc := 929) dL_law_929 (lw_vi (k := 2) rfl (by omega) hN) (lw_vx (k := 2) rfl (by omega) hN) ?_
  refine e_aloadn (pc := 930) dL_law_930 rfl ?_
  refine e_iloadn (pc := 931) dL_law_931 rfl ?_
  refine e_iconst (v := 3) (pc := 932) dL_law_932 (by decide) ?_
  refine e_iadd (pc := 933) dL_law_933 ?_
  refine e_sld (x := xs (i0 + 3)) (pc := 934) dL_law_934 (lw_vi (k := 3) rfl (by omega) hN) (lw_vx (k := 3) rfl (by omega) hN) ?_
  refine e_cvX (pc := 935) hT dL_law_935 kL_96 hw1 rfl rfl rfl rfl (lw_CR h2 (Nat.le_of_ble_eq_true rfl) (by omega) (by omega)) (Nat.le_of_ble_eq_true rfl) (fun w2 hQ => ?_)
  exact e_icmp_eq (pc := 938) dL_law_938 (t := 1774) (by decide) (fun _ => hK w2 hQ) (fun c => absurd (hr hE) c)
theorem lw_c19 {N i0 : Nat} {xs : Nat → Int32} {E : Prop} {w : mc_W} {kc ks : Nat} {Q : mc_W → Prop} (hN : N ≤ 3584) (hi : i0 + 7 ≤ N) (hE : E) (hj : jI yX6_lend cX6_lend 5 yX7_lend cX7_lend 5 0 0 E [.int (xs (i0 + 1)), .int (xs (i0 + 2)), .int (xs (i0 + 3))] w Q) (hk : kc ≤ 500000) (hs : ks ≤ 7000000) (hK : ∀ w2, Q w2 → mc_E R_law code 4 (mc_JL N xs) 1774 [some (.ref 1000300), some (.ref 0), some (.ref 29), some (.int (nI i0))] [] w2 (kc + 0) (ks + 0)) : mc_E R_law code 4 (mc_JL N xs) 943 [some (.ref 1000300), some (.ref 0), some (.ref 29), some (.int (nI i0))] [] w kc ks := by
  obtain ⟨r1, r2, d1, d2, fs, h1, h2, hr, hw, hS⟩ := hj
  refine e_aloadn (pc := 943) dL_law_943 rfl ?_
  refine e_aloadn (pc := 944) dL_law_944 rfl ?_
  refine e_iloadn (pc := 945) dL_law_945 rfl ?_
  refine e_iconst (v := 1) (pc := 946) dL_law_946 (by decide) ?_
  refine e_iadd (pc := 947) dL_law_947 ?_
  refine e_sld (x := xs (i0 + 1)) (pc := 948) dL_law_948 (lw_vi (k := 1) rfl (by omega) hN) (lw_vx (k := 1) rfl (by omega) hN) ?_
  refine e_aloadn (pc := 949) dL_law_949 rfl ?_
  refine e_iloadn (pc := 950) dL_law_950 rfl ?_
  refine e_iconst (v := 2) (pc := 951) dL_law_951 (by decide) ?_
  refine e_iadd (pc := 952) dL_law_952 ?_
  refine e_sld (x := xs (i0 + 2)) (pc := 953) dL_law_953 (lw_vi (k := 2) rfl (by omega) hN) (lw_vx (k := 2) rfl (by omega) hN) ?_
  refine e_aloadn (pc := 954) dL_law_954 rfl ?_
  refine e_iloadn (pc := 955) dL_law_955 rfl ?_
  refine e_iconst (v := 3) (pc := 956) dL_law_956 (by decide) ?_
  refine e_iadd (pc := 957) dL_law_957 ?_
  refine e_sld (x := xs (i0 + 3)) (pc := 958) dL_law_958 (lw_vi (k := 3) rfl (by omega) hN) (lw_vx (k := 3) rfl (by omega) hN) ?_
  refine e_callV (pc := 959) hS dL_law_959 kL_97 hw rfl rfl rfl (lw_CR h1 (Nat.le_of_ble_eq_true rfl) (by omega) (by omega)) rfl (Nat.le_of_ble_eq_true rfl) (fun r w1 h => ?_)
  obtain ⟨rfl, ⟨fs1, hw1⟩, hT⟩ := h
  refine e_aloadn (pc := 962) dL_law_962 rfl ?_
  refine e_aloadn (pc := 963) dL_law_963 rfl ?_
  refine e_iloadn (pc := 964) dL_law_964 rfl ?_
  refine e_iconst (v := 1) (pc := 965) dL_law_965 (by decide) ?_
  refine e_iadd (pc := 966) dL_law_966 ?_
  refine e_sld (x := xs (i0 + 1)) (pc := 967) dL_law_967 (lw_vi (k := 1) rfl (by omega) hN) (lw_vx (k := 1) rfl (by omega) hN) ?_
  refine e_aloadn (pc := 968) dL_law_968 rfl ?_
  refine e_iloadn (pc := 969) dL_law_969 rfl ?_
  refine e_iconst (v := 2) (pc := 970) dL_law_970 (by decide) ?_
  refine e_iadd (pc := 971) dL_law_971 ?_
  refine e_sld (x := xs (i0 + 2)) (pc := 972) dL_law_972 (lw_vi (k := 2) rfl (by omega) hN) (lw_vx (k := 2) rfl (by omega) hN) ?_
  refine e_aloadn (pc := 973) dL_law_973 rfl ?_
  refine e_iloadn (pc := 974) dL_law_974 rfl ?_
  refine e_iconst (v := 3) (pc := 975) dL_law_975 (by decide) ?_
  refine e_iadd (pc := 976) dL_law_976 ?_
  refine e_sld (x := xs (i0 + 3)) (pc := 977) dL_law_977 (lw_vi (k := 3) rfl (by omega) hN) (lw_vx (k := 3) rfl (by omega) hN) ?_
  refine e_cvX (pc := 978) hT dL_law_978 kL_100 hw1 rfl rfl rfl rfl (lw_CR h2 (Nat.le_of_ble_eq_true rfl) (by omega) (by omega)) (Nat.le_of_ble_eq_true rfl) (fun w2 hQ => ?_)
  exact e_icmp_eq (pc := 981) dL_law_981 (t := 1774) (by decide) (fun _ => hK w2 hQ) (fun c => absurd (hr hE) c)
theorem lw_c20 {N i0 : Nat} {xs : Nat → Int32} {E : Prop} {w : mc_W} {kc ks : Nat} {Q : mc_W → Prop} (hN : N ≤ 3584) (hi : i0 + 7 ≤ N) (hE : E) (hj : jI yX6_debt cX6_debt 3 yX7_debt cX7_debt 3 0 0 E [.int (xs (i0 + 1)), .int (xs (i0 + 2))] w Q) (hk : kc ≤ 500000) (hs : ks ≤ 7000000) (hK : ∀ w2, Q w2 → mc_E R_law code 4 (mc_JL N xs) 1774 [some (.ref 1000300), some (.ref 0), some (.ref 29), some (.int (nI i0))] [] w2 (kc + 0) (ks + 0)) : mc_E R_law code 4 (mc_JL N xs) 986 [some (.ref 1000300), some (.ref 0), some (.ref 29), some (.int (nI i0))] [] w kc ks := by
  obtain ⟨r1, r2, d1, d2, fs, h1, h2, hr, hw, hS⟩ := hj
  refine e_aloadn (pc := 986) dL_law_986 rfl ?_
  refine e_aloadn (pc := 987) dL_law_987 rfl ?_
  refine e_iloadn (pc := 988) dL_law_988 rfl ?_
  refine e_iconst (v := 1) (pc := 989) dL_law_989 (by decide) ?_
  refine e_iadd (pc := 990) dL_law_990 ?_
  refine e_sld (x := xs (i0 + 1)) (pc := 991) dL_law_991 (lw_vi (k := 1) rfl (by omega) hN) (lw_vx (k := 1) rfl (by omega) hN) ?_
  refine e_aloadn (pc := 992) dL_law_992 rfl ?_
  refine e_iloadn (pc := 993) dL_law_993 rfl ?_
  refine e_iconst (v := 2) (pc := 994) dL_law_994 (by decide) ?_
  refine e_iadd (pc := 995) dL_law_995 ?_
  refine e_sld (x := xs (i0 + 2)) (pc := 996) dL_law_996 (lw_vi (k := 2) rfl (by omega) hN) (lw_vx (k := 2) rfl (by omega) hN) ?_
  refine e_callV (pc := 997) hS dL_law_997 kL_101 hw rfl rfl rfl (lw_CR h1 (Nat.le_of_ble_eq_true rfl) (by omega) (by omega)) rfl (Nat.le_of_ble_eq_true rfl) (fun r w1 h => ?_)
  obtain ⟨rfl, ⟨fs1, hw1⟩, hT⟩ := h
  refine e_aloadn (pc := 1000) dL_law_1000 rfl ?_
  refine e_aloadn (pc := 1001) dL_law_1001 rfl ?_
  refine e_iloadn (pc := 1002) dL_law_1002 rfl ?_
  refine e_iconst (v := 1) (pc := 1003) dL_law_1003 (by decide) ?_
  refine e_iadd (pc := 1004) dL_law_1004 ?_
  refine e_sld (x := xs (i0 + 1)) (pc := 1005) dL_law_1005 (lw_vi (k := 1) rfl (by omega) hN) (lw_vx (k := 1) rfl (by omega) hN) ?_
  refine e_aloadn (pc := 1006) dL_law_1006 rfl ?_
  refine e_iloadn (pc := 1007) dL_law_1007 rfl ?_
  refine e_iconst (v := 2) (pc := 1008) dL_law_1008 (by decide) ?_
  refine e_iadd (pc := 1009) dL_law_1009 ?_
  refine e_sld (x := xs (i0 + 2)) (pc := 1010) dL_law_1010 (lw_vi (k := 2) rfl (by omega) hN) (lw_vx (k := 2) rfl (by omega) hN) ?_
  refine e_cvX (pc := 1011) hT dL_law_1011 kL_104 hw1 rfl rfl rfl rfl (lw_CR h2 (Nat.le_of_ble_eq_true rfl) (by omega) (by omega)) (Nat.le_of_ble_eq_true rfl) (fun w2 hQ => ?_)
  exact e_icmp_eq (pc := 1014) dL_law_1014 (t := 1774) (by decide) (fun _ => hK w2 hQ) (fun c => absurd (hr hE) c)
theorem lw_c21 {N i0 : Nat} {xs : Nat → Int32} {E : Prop} {w : mc_W} {kc ks : Nat} {Q : mc_W → Prop} (hN : N ≤ 3584) (hi : i0 + 7 ≤ N) (hE : E) (hj : jI yX6_pay cX6_pay 7 yX7_pay cX7_pay 5 0 0 E [.int (xs (i0 + 1)), .int (xs (i0 + 2)), .int (xs (i0 + 3))] w Q) (hk : kc ≤ 500000) (hs : ks ≤ 7000000) (hK : ∀ w2, Q w2 → mc_E R_law code 4 (mc_JL N xs) 1774 [some (.ref 1000300), some (.ref 0), some (.ref 29), some (.int (nI i0))] [] w2 (kc + 0) (ks + 0)) : mc_E R_law code 4 (mc_JL N xs) 1019 [some (.ref 1000300), some (.ref 0), some (.ref 29), some (.int (nI i0))] [] w kc ks := by
  obtain ⟨r1, r2, d1, d2, fs, h1, h2, hr, hw, hS⟩ := hj
  refine e_aloadn (pc := 1019) dL_law_1019 rfl ?_
  refine e_aloadn (pc := 1020) dL_law_1020 rfl ?_
  refine e_iloadn (pc := 1021) dL_law_1021 rfl ?_
  refine e_iconst (v := 1) (pc := 1022) dL_law_1022 (by decide) ?_
  refine e_iadd (pc := 1023) dL_law_1023 ?_
  refine e_sld (x := xs (i0 + 1)) (pc := 1024) dL_law_1024 (lw_vi (k := 1) rfl (by omega) hN) (lw_vx (k := 1) rfl (by omega) hN) ?_
  refine e_aloadn (pc := 1025) dL_law_1025 rfl ?_
  refine e_iloadn (pc := 1026) dL_law_1026 rfl ?_
  refine e_iconst (v := 2) (pc := 1027) dL_law_1027 (by decide) ?_
  refine e_iadd (pc := 1028) dL_law_1028 ?_
  refine e_sld (x := xs (i0 + 2)) (pc := 1029) dL_law_1029 (lw_vi (k := 2) rfl (by omega) hN) (lw_vx (k := 2) rfl (by omega) hN) ?_
  refine e_aloadn (pc := 1030) dL_law_1030 rfl ?_
  refine e_iloadn (pc := 1031) dL_law_1031 rfl ?_
  refine e_iconst (v := 3) (pc := 1032) dL_law_1032 (by decide) ?_
  refine e_iadd (pc := 1033) dL_law_1033 ?_
  refine e_sld (x := xs (i0 + 3)) (pc := 1034) dL_law_1034 (lw_vi (k := 3) rfl (by omega) hN) (lw_vx (k := 3) rfl (by omega) hN) ?_
  refine e_callV (pc := 1035) hS dL_law_1035 kL_105 hw rfl rfl rfl (lw_CR h1 (Nat.le_of_ble_eq_true rfl) (by omega) (by omega)) rfl (Nat.le_of_ble_eq_true rfl) (fun r w1 h => ?_)
  obtain ⟨rfl, ⟨fs1, hw1⟩, hT⟩ := h
  refine e_aloadn (pc := 1038) dL_law_1038 rfl ?_
  refine e_aloadn (pc := 1039) dL_law_1039 rfl ?_
  refine e_iloadn (pc := 1040) dL_law_1040 rfl ?_
  refine e_iconst (v := 1) (pc := 1041) dL_law_1041 (by decide) ?_
  refine e_iadd (pc := 1042) dL_law_1042 ?_
  refine e_sld (x := xs (i0 + 1)) (pc := 1043) dL_law_1043 (lw_vi (k := 1) rfl (by omega) hN) (lw_vx (k := 1) rfl (by omega) hN) ?_
  refine e_aloadn (pc := 1044) dL_law_1044 rfl ?_
  refine e_iloadn (pc := 1045) dL_law_1045 rfl ?_
  refine e_iconst (v := 2) (pc := 1046) dL_law_1046 (by decide) ?_
  refine e_iadd (pc := 1047) dL_law_1047 ?_
  refine e_sld (x := xs (i0 + 2)) (pc := 1048) dL_law_1048 (lw_vi (k := 2) rfl (by omega) hN) (lw_vx (k := 2) rfl (by omega) hN) ?_
  refine e_aloadn (pc := 1049) dL_law_1049 rfl ?_
  refine e_iloadn (pc := 1050) dL_law_1050 rfl ?_
  refine e_iconst (v := 3) (pc := 1051) dL_law_1051 (by decide) ?_
  refine e_iadd (pc := 1052) dL_law_1052 ?_
  refine e_sld (x := xs (i0 + 3)) (pc := 1053) dL_law_1053 (lw_vi (k := 3) rfl (by omega) hN) (lw_vx (k := 3) rfl (by omega) hN) ?_
  refine e_cvX (pc := 1054) hT dL_law_1054 kL_108 hw1 rfl rfl rfl rfl (lw_CR h2 (Nat.le_of_ble_eq_true rfl) (by omega) (by omega)) (Nat.le_of_ble_eq_true rfl) (fun w2 hQ => ?_)
  exact e_icmp_eq (pc := 1057) dL_law_1057 (t := 1774) (by decide) (fun _ => hK w2 hQ) (fun c => absurd (hr hE) c)
theorem lw_c22 {N i0 : Nat} {xs : Nat → Int32} {E : Prop} {w : mc_W} {kc ks : Nat} {Q : mc_W → Prop} (hN : N ≤ 3584) (hi : i0 + 7 ≤ N) (hE : E) (hj : jI yX6_rings cX6_rings 1 yX7_rings cX7_rings 1 0 0 E [] w Q) (hk : kc ≤ 500000) (hs : ks ≤ 7000000) (hK : ∀ w2, Q w2 → mc_E R_law code 4 (mc_JL N xs) 1774 [some (.ref 1000300), some (.ref 0), some (.ref 29), some (.int (nI i0))] [] w2 (kc + 0) (ks + 0)) : mc_E R_law code 4 (mc_JL N xs) 1062 [some (.ref 1000300), some (.ref 0), some (.ref 29), some (.int (nI i0))] [] w kc ks := by
  obtain ⟨r1, r2, d1, d2, fs, h1, h2, hr, hw, hS⟩ := hj
  refine e_aloadn (pc := 1062) dL_law_1062 rfl ?_
  refine e_callV (pc := 1063) hS dL_law_1063 kL_109 hw rfl rfl rfl (lw_CR h1 (Nat.le_of_ble_eq_true rfl) (by omega) (by omega)) rfl (Nat.le_of_ble_eq_true rfl) (fun r w1 h => ?_)
  obtain ⟨rfl, ⟨fs1, hw1⟩, hT⟩ := h
  refine e_aloadn (pc := 1066) dL_law_1066 rfl ?_
  refine e_cvX (pc := 1067) hT dL_law_1067 kL_112 hw1 rfl rfl rfl rfl (lw_CR h2 (Nat.le_of_ble_eq_true rfl) (by omega) (by omega)) (Nat.le_of_ble_eq_true rfl) (fun w2 hQ => ?_)
  exact e_icmp_eq (pc := 1070) dL_law_1070 (t := 1774) (by decide) (fun _ => hK w2 hQ) (fun c => absurd (hr hE) c)
theorem lw_c23 {N i0 : Nat} {xs : Nat → Int32} {E : Prop} {w : mc_W} {kc ks : Nat} {Q : mc_W → Prop} (hN : N ≤ 3584) (hi : i0 + 7 ≤ N) (hE : E) (hj : jI yX6_clear cX6_clear 1 yX7_clear cX7_clear 7 0 0 E [] w Q) (hk : kc ≤ 500000) (hs : ks ≤ 7000000) (hK : ∀ w2, Q w2 → mc_E R_law code 4 (mc_JL N xs) 1774 [some (.ref 1000300), some (.ref 0), some (.ref 29), some (.int (nI i0))] [] w2 (kc + 0) (ks + 0)) : mc_E R_law code 4 (mc_JL N xs) 1075 [some (.ref 1000300), some (.ref 0), some (.ref 29), some (.int (nI i0))] [] w kc ks := by
  obtain ⟨r1, r2, d1, d2, fs, h1, h2, hr, hw, hS⟩ := hj
  refine e_aloadn (pc := 1075) dL_law_1075 rfl ?_
  refine e_callV (pc := 1076) hS dL_law_1076 kL_113 hw rfl rfl rfl (lw_CR h1 (Nat.le_of_ble_eq_true rfl) (by omega) (by omega)) rfl (Nat.le_of_ble_eq_true rfl) (fun r w1 h => ?_)
  obtain ⟨rfl, ⟨fs1, hw1⟩, hT⟩ := h
  refine e_aloadn (pc := 1079) dL_law_1079 rfl ?_
  refine e_cvX (pc := 1080) hT dL_law_1080 kL_116 hw1 rfl rfl rfl rfl (lw_CR h2 (Nat.le_of_ble_eq_true rfl) (by omega) (by omega)) (Nat.le_of_ble_eq_true rfl) (fun w2 hQ => ?_)
  exact e_icmp_eq (pc := 1083) dL_law_1083 (t := 1774) (by decide) (fun _ => hK w2 hQ) (fun c => absurd (hr hE) c)
theorem lw_c24 {N i0 : Nat} {xs : Nat → Int32} {E : Prop} {w : mc_W} {kc ks : Nat} {Q : mc_W → Prop} (hN : N ≤ 3584) (hi : i0 + 7 ≤ N) (hE : E) (hj : jI yX6_forgive cX6_forgive 7 yX7_forgive cX7_forgive 7 0 0 E [.int (xs (i0 + 1))] w Q) (hk : kc ≤ 500000) (hs : ks ≤ 7000000) (hK : ∀ w2, Q w2 → mc_E R_law code 4 (mc_JL N xs) 1774 [some (.ref 1000300), some (.ref 0), some (.ref 29), some (.int (nI i0))] [] w2 (kc + 0) (ks + 0)) : mc_E R_law code 4 (mc_JL N xs) 1088 [some (.ref 1000300), some (.ref 0), some (.ref 29), some (.int (nI i0))] [] w kc ks := by
  obtain ⟨r1, r2, d1, d2, fs, h1, h2, hr, hw, hS⟩ := hj
  refine e_aloadn (pc := 1088) dL_law_1088 rfl ?_
  refine e_aloadn (pc := 1089) dL_law_1089 rfl ?_
  refine e_iloadn (pc := 1090) dL_law_1090 rfl ?_
  refine e_iconst (v := 1) (pc := 1091) dL_law_1091 (by decide) ?_
  refine e_iadd (pc := 1092) dL_law_1092 ?_
  refine e_sld (x := xs (i0 + 1)) (pc := 1093) dL_law_1093 (lw_vi (k := 1) rfl (by omega) hN) (lw_vx (k := 1) rfl (by omega) hN) ?_
  refine e_callV (pc := 1094) hS dL_law_1094 kL_117 hw rfl rfl rfl (lw_CR h1 (Nat.le_of_ble_eq_true rfl) (by omega) (by omega)) rfl (Nat.le_of_ble_eq_true rfl) (fun r w1 h => ?_)
  obtain ⟨rfl, ⟨fs1, hw1⟩, hT⟩ := h
  refine e_aloadn (pc := 1097) dL_law_1097 rfl ?_
  refine e_aloadn (pc := 1098) dL_law_1098 rfl ?_
  refine e_iloadn (pc := 1099) dL_law_1099 rfl ?_
  refine e_iconst (v := 1) (pc := 1100) dL_law_1100 (by decide) ?_
  refine e_iadd (pc := 1101) dL_law_1101 ?_
  refine e_sld (x := xs (i0 + 1)) (pc := 1102) dL_law_1102 (lw_vi (k := 1) rfl (by omega) hN) (lw_vx (k := 1) rfl (by omega) hN) ?_
  refine e_cvX (pc := 1103) hT dL_law_1103 kL_120 hw1 rfl rfl rfl rfl (lw_CR h2 (Nat.le_of_ble_eq_true rfl) (by omega) (by omega)) (Nat.le_of_ble_eq_true rfl) (fun w2 hQ => ?_)
  exact e_icmp_eq (pc := 1106) dL_law_1106 (t := 1774) (by decide) (fun _ => hK w2 hQ) (fun c => absurd (hr hE) c)
theorem lw_c25 {N i0 : Nat} {xs : Nat → Int32} {E : Prop} {w : mc_W} {kc ks : Nat} {Q : mc_W → Prop} (hN : N ≤ 3584) (hi : i0 + 7 ≤ N) (hE : E) (hj : jI yX6_span cX6_span 3 yX7_span cX7_span 3 0 0 E [.int (xs (i0 + 1)), .int (xs (i0 + 2))] w Q) (hk : kc ≤ 500000) (hs : ks ≤ 7000000) (hK : ∀ w2, Q w2 → mc_E R_law code 4 (mc_JL N xs) 1774 [some (.ref 1000300), some (.ref 0), some (.ref 29), some (.int (nI i0))] [] w2 (kc + 0) (ks + 0)) : mc_E R_law code 4 (mc_JL N xs) 1111 [some (.ref 1000300), some (.ref 0), some (.ref 29), some (.int (nI i0))] [] w kc ks := by
  obtain ⟨r1, r2, d1, d2, fs, h1, h2, hr, hw, hS⟩ := hj
  refine e_aloadn (pc := 1111) dL_law_1111 rfl ?_
  refine e_aloadn (pc := 1112) dL_law_1112 rfl ?_
  refine e_iloadn (pc := 1113) dL_law_1113 rfl ?_
  refine e_iconst (v := 1) (pc := 1114) dL_law_1114 (by decide) ?_
  refine e_iadd (pc := 1115) dL_law_1115 ?_
  refine e_sld (x := xs (i0 + 1)) (pc := 1116) dL_law_1116 (lw_vi (k := 1) rfl (by omega) hN) (lw_vx (k := 1) rfl (by omega) hN) ?_
  refine e_aloadn (pc := 1117) dL_law_1117 rfl ?_
  refine e_iloadn (pc := 1118) dL_law_1118 rfl ?_
  refine e_iconst (v := 2) (pc := 1119) dL_law_1119 (by decide) ?_
  refine e_iadd (pc := 1120) dL_law_1120 ?_
  refine e_sld (x := xs (i0 + 2)) (pc := 1121) dL_law_1121 (lw_vi (k := 2) rfl (by omega) hN) (lw_vx (k := 2) rfl (by omega) hN) ?_
  refine e_callV (pc := 1122) hS dL_law_1122 kL_121 hw rfl rfl rfl (lw_CR h1 (Nat.le_of_ble_eq_true rfl) (by omega) (by omega)) rfl (Nat.le_of_ble_eq_true rfl) (fun r w1 h => ?_)
  obtain ⟨rfl, ⟨fs1, hw1⟩, hT⟩ := h
  refine e_aloadn (pc := 1125) dL_law_1125 rfl ?_
  refine e_aloadn (pc := 1126) dL_law_1126 rfl ?_
  refine e_iloadn (pc := 1127) dL_law_1127 rfl ?_
  refine e_iconst (v := 1) (pc := 1128) dL_law_1128 (by decide) ?_
  refine e_iadd (pc := 1129) dL_law_1129 ?_
  refine e_sld (x := xs (i0 + 1)) (pc := 1130) dL_law_1130 (lw_vi (k := 1) rfl (by omega) hN) (lw_vx (k := 1) rfl (by omega) hN) ?_
  refine e_aloadn (pc := 1131) dL_law_1131 rfl ?_
  refine e_iloadn (pc := 1132) dL_law_1132 rfl ?_
  refine e_iconst (v := 2) (pc := 1133) dL_law_1133 (by decide) ?_
  refine e_iadd (pc := 1134) dL_law_1134 ?_
  refine e_sld (x := xs (i0 + 2)) (pc := 1135) dL_law_1135 (lw_vi (k := 2) rfl (by omega) hN) (lw_vx (k := 2) rfl (by omega) hN) ?_
  refine e_cvX (pc := 1136) hT dL_law_1136 kL_124 hw1 rfl rfl rfl rfl (lw_CR h2 (Nat.le_of_ble_eq_true rfl) (by omega) (by omega)) (Nat.le_of_ble_eq_true rfl) (fun w2 hQ => ?_)
  exact e_icmp_eq (pc := 1139) dL_law_1139 (t := 1774) (by decide) (fun _ => hK w2 hQ) (fun c => absurd (hr hE) c)
theorem lw_c26 {N i0 : Nat} {xs : Nat → Int32} {E : Prop} {w : mc_W} {kc ks : Nat} {Q : mc_W → Prop} (hN : N ≤ 3584) (hi : i0 + 7 ≤ N) (hE : E) (hj : jI yX6_behind cX6_behind 4 yX7_behind cX7_behind 4 0 0 E [.int (xs (i0 + 1)), .int (xs (i0 + 2))] w Q) (hk : kc ≤ 500000) (hs : ks ≤ 7000000) (hK : ∀ w2, Q w2 → mc_E R_law code 4 (mc_JL N xs) 1774 [some (.ref 1000300), some (.ref 0), some (.ref 29), some (.int (nI i0))] [] w2 (kc + 0) (ks + 0)) : mc_E R_law code 4 (mc_JL N xs) 1144 [some (.ref 1000300), some (.ref 0), some (.ref 29), some (.int (nI i0))] [] w kc ks := by
  obtain ⟨r1, r2, d1, d2, fs, h1, h2, hr, hw, hS⟩ := hj
  refine e_aloadn (pc := 1144) dL_law_1144 rfl ?_
  refine e_aloadn (pc := 1145) dL_law_1145 rfl ?_
  refine e_iloadn (pc := 1146) dL_law_1146 rfl ?_
  refine e_iconst (v := 1) (pc := 1147) dL_law_1147 (by decide) ?_
  refine e_iadd (pc := 1148) dL_law_1148 ?_
  refine e_sld (x := xs (i0 + 1)) (pc := 1149) dL_law_1149 (lw_vi (k := 1) rfl (by omega) hN) (lw_vx (k := 1) rfl (by omega) hN) ?_
  refine e_aloadn (pc := 1150) dL_law_1150 rfl ?_
  refine e_iloadn (pc := 1151) dL_law_1151 rfl ?_
  refine e_iconst (v := 2) (pc := 1152) dL_law_1152 (by decide) ?_
  refine e_iadd (pc := 1153) dL_law_1153 ?_
  refine e_sld (x := xs (i0 + 2)) (pc := 1154) dL_law_1154 (lw_vi (k := 2) rfl (by omega) hN) (lw_vx (k := 2) rfl (by omega) hN) ?_
  refine e_callV (pc := 1155) hS dL_law_1155 kL_125 hw rfl rfl rfl (lw_CR h1 (Nat.le_of_ble_eq_true rfl) (by omega) (by omega)) rfl (Nat.le_of_ble_eq_true rfl) (fun r w1 h => ?_)
  obtain ⟨rfl, ⟨fs1, hw1⟩, hT⟩ := h
  refine e_aloadn (pc := 1158) dL_law_1158 rfl ?_
  refine e_aloadn (pc := 1159) dL_law_1159 rfl ?_
  refine e_iloadn (pc := 1160) dL_law_1160 rfl ?_
  refine e_iconst (v := 1) (pc := 1161) dL_law_1161 (by decide) ?_
  refine e_iadd (pc := 1162) dL_law_1162 ?_
  refine e_sld (x := xs (i0 + 1)) (pc := 1163) dL_law_1163 (lw_vi (k := 1) rfl (by omega) hN) (lw_vx (k := 1) rfl (by omega) hN) ?_
  refine e_aloadn (pc := 1164) dL_law_1164 rfl ?_
  refine e_iloadn (pc := 1165) dL_law_1165 rfl ?_
  refine e_iconst (v := 2) (pc := 1166) dL_law_1166 (by decide) ?_
  refine e_iadd (pc := 1167) dL_law_1167 ?_
  refine e_sld (x := xs (i0 + 2)) (pc := 1168) dL_law_1168 (lw_vi (k := 2) rfl (by omega) hN) (lw_vx (k := 2) rfl (by omega) hN) ?_
  refine e_cvX (pc := 1169) hT dL_law_1169 kL_128 hw1 rfl rfl rfl rfl (lw_CR h2 (Nat.le_of_ble_eq_true rfl) (by omega) (by omega)) (Nat.le_of_ble_eq_true rfl) (fun w2 hQ => ?_)
  exact e_icmp_eq (pc := 1172) dL_law_1172 (t := 1774) (by decide) (fun _ => hK w2 hQ) (fun c => absurd (hr hE) c)
theorem lw_c27 {N i0 : Nat} {xs : Nat → Int32} {E : Prop} {w : mc_W} {kc ks : Nat} {Q : mc_W → Prop} (hN : N ≤ 3584) (hi : i0 + 7 ≤ N) (hE : E) (hj : jI yX6_alike cX6_alike 10 yX7_alike cX7_alike 10 0 0 E [.int (xs (i0 + 1)), .int (xs (i0 + 2)), .int (xs (i0 + 3))] w Q) (hk : kc ≤ 500000) (hs : ks ≤ 7000000) (hK : ∀ w2, Q w2 → mc_E R_law code 4 (mc_JL N xs) 1774 [some (.ref 1000300), some (.ref 0), some (.ref 29), some (.int (nI i0))] [] w2 (kc + 0) (ks + 0)) : mc_E R_law code 4 (mc_JL N xs) 1177 [some (.ref 1000300), some (.ref 0), some (.ref 29), some (.int (nI i0))] [] w kc ks := by
  obtain ⟨r1, r2, d1, d2, fs, h1, h2, hr, hw, hS⟩ := hj
  refine e_aloadn (pc := 1177) dL_law_1177 rfl ?_
  refine e_aloadn (pc := 1178) dL_law_1178 rfl ?_
  refine e_iloadn (pc := 1179) dL_law_1179 rfl ?_
  refine e_iconst (v := 1) (pc := 1180) dL_law_1180 (by decide) ?_
  refine e_iadd (pc := 1181) dL_law_1181 ?_
  refine e_sld (x := xs (i0 + 1)) (pc := 1182) dL_law_1182 (lw_vi (k := 1) rfl (by omega) hN) (lw_vx (k := 1) rfl (by omega) hN) ?_
  refine e_aloadn (pc := 1183) dL_law_1183 rfl ?_
  refine e_iloadn (pc := 1184) dL_law_1184 rfl ?_
  refine e_iconst (v := 2) (pc := 1185) dL_law_1185 (by decide) ?_
  refine e_iadd (pc := 1186) dL_law_1186 ?_
  refine e_sld (x := xs (i0 + 2)) (pc := 1187) dL_law_1187 (lw_vi (k := 2) rfl (by omega) hN) (lw_vx (k := 2) rfl (by omega) hN) ?_
  refine e_aloadn (pc := 1188) dL_law_1188 rfl ?_
  refine e_iloadn (pc := 1189) dL_law_1189 rfl ?_
  refine e_iconst (v := 3) (pc := 1190) dL_law_1190 (by decide) ?_
  refine e_iadd (pc := 1191) dL_law_1191 ?_
  refine e_sld (x := xs (i0 + 3)) (pc := 1192) dL_law_1192 (lw_vi (k := 3) rfl (by omega) hN) (lw_vx (k := 3) rfl (by omega) hN) ?_
  refine e_callV (pc := 1193) hS dL_law_1193 kL_129 hw rfl rfl rfl (lw_CR h1 (Nat.le_of_ble_eq_true rfl) (by omega) (by omega)) rfl (Nat.le_of_ble_eq_true rfl) (fun r w1 h => ?_)
  obtain ⟨rfl, ⟨fs1, hw1⟩, hT⟩ := h
  refine e_aloadn (pc := 1196) dL_law_1196 rfl ?_
  refine e_aloadn (pc := 1197) dL_law_1197 rfl ?_
  refine e_iloadn (pc := 1198) dL_law_1198 rfl ?_
  refine e_iconst (v := 1) (pc := 1199) dL_law_1199 (by decide) ?_
  refine e_iadd (pc := 1200) dL_law_1200 ?_
  refine e_sld (x := xs (i0 + 1)) (pc := 1201) dL_law_1201 (lw_vi (k := 1) rfl (by omega) hN) (lw_vx (k := 1) rfl (by omega) hN) ?_
  refine e_aloadn (pc := 1202) dL_law_1202 rfl ?_
  refine e_iloadn (pc := 1203) dL_law_1203 rfl ?_
  refine e_iconst (v := 2) (pc := 1204) dL_law_1204 (by decide) ?_
  refine e_iadd (pc := 1205) dL_law_1205 ?_
  refine e_sld (x := xs (i0 + 2)) (pc := 1206) dL_law_1206 (lw_vi (k := 2) rfl (by omega) hN) (lw_vx (k := 2) rfl (by omega) hN) ?_
  refine e_aloadn (pc := 1207) dL_law_1207 rfl ?_
  refine e_iloadn (pc := 1208) dL_law_1208 rfl ?_
  refine e_iconst (v := 3) (pc := 1209) dL_law_1209 (by decide) ?_
  refine e_iadd (pc := 1210) dL_law_1210 ?_
  refine e_sld (x := xs (i0 + 3)) (pc := 1211) dL_law_1211 (lw_vi (k := 3) rfl (by omega) hN) (lw_vx (k := 3) rfl (by omega) hN) ?_
  refine e_cvX (pc := 1212) hT dL_law_1212 kL_132 hw1 rfl rfl rfl rfl (lw_CR h2 (Nat.le_of_ble_eq_true rfl) (by omega) (by omega)) (Nat.le_of_ble_eq_true rfl) (fun w2 hQ => ?_)
  exact e_icmp_eq (pc := 1215) dL_law_1215 (t := 1774) (by decide) (fun _ => hK w2 hQ) (fun c => absurd (hr hE) c)
theorem lw_c28 {N i0 : Nat} {xs : Nat → Int32} {E : Prop} {w : mc_W} {kc ks : Nat} {Q : mc_W → Prop} (hN : N ≤ 3584) (hi : i0 + 7 ≤ N) (hE : E) (hj : jI yX6_judge cX6_judge 4 yX7_judge cX7_judge 4 0 0 E [.int (xs (i0 + 1)), .int (xs (i0 + 2))] w Q) (hk : kc ≤ 500000) (hs : ks ≤ 7000000) (hK : ∀ w2, Q w2 → mc_E R_law code 4 (mc_JL N xs) 1774 [some (.ref 1000300), some (.ref 0), some (.ref 29), some (.int (nI i0))] [] w2 (kc + 0) (ks + 0)) : mc_E R_law code 4 (mc_JL N xs) 1220 [some (.ref 1000300), some (.ref 0), some (.ref 29), some (.int (nI i0))] [] w kc ks := by
  obtain ⟨r1, r2, d1, d2, fs, h1, h2, hr, hw, hS⟩ := hj
  refine e_aloadn (pc := 1220) dL_law_1220 rfl ?_
  refine e_aloadn (pc := 1221) dL_law_1221 rfl ?_
  refine e_iloadn (pc := 1222) dL_law_1222 rfl ?_
  refine e_iconst (v := 1) (pc := 1223) dL_law_1223 (by decide) ?_
  refine e_iadd (pc := 1224) dL_law_1224 ?_
  refine e_sld (x := xs (i0 + 1)) (pc := 1225) dL_law_1225 (lw_vi (k := 1) rfl (by omega) hN) (lw_vx (k := 1) rfl (by omega) hN) ?_
  refine e_aloadn (pc := 1226) dL_law_1226 rfl ?_
  refine e_iloadn (pc := 1227) dL_law_1227 rfl ?_
  refine e_iconst (v := 2) (pc := 1228) dL_law_1228 (by decide) ?_
  refine e_iadd (pc := 1229) dL_law_1229 ?_
  refine e_sld (x := xs (i0 + 2)) (pc := 1230) dL_law_1230 (lw_vi (k := 2) rfl (by omega) hN) (lw_vx (k := 2) rfl (by omega) hN) ?_
  refine e_callV (pc := 1231) hS dL_law_1231 kL_133 hw rfl rfl rfl (lw_CR h1 (Nat.le_of_ble_eq_true rfl) (by omega) (by omega)) rfl (Nat.le_of_ble_eq_true rfl) (fun r w1 h => ?_)
  obtain ⟨rfl, ⟨fs1, hw1⟩, hT⟩ := h
  refine e_aloadn (pc := 1234) dL_law_1234 rfl ?_
  refine e_aloadn (pc := 1235) dL_law_1235 rfl ?_
  refine e_iloadn (pc := 1236) dL_law_1236 rfl ?_
  refine e_iconst (v := 1) (pc := 1237) dL_law_1237 (by decide) ?_
  refine e_iadd (pc := 1238) dL_law_1238 ?_
  refine e_sld (x := xs (i0 + 1)) (pc := 1239) dL_law_1239 (lw_vi (k := 1) rfl (by omega) hN) (lw_vx (k := 1) rfl (by omega) hN) ?_
  refine e_aloadn (pc := 1240) dL_law_1240 rfl ?_
  refine e_iloadn (pc := 1241) dL_law_1241 rfl ?_
  refine e_iconst (v := 2) (pc := 1242) dL_law_1242 (by decide) ?_
  refine e_iadd (pc := 1243) dL_law_1243 ?_
  refine e_sld (x := xs (i0 + 2)) (pc := 1244) dL_law_1244 (lw_vi (k := 2) rfl (by omega) hN) (lw_vx (k := 2) rfl (by omega) hN) ?_
  refine e_cvX (pc := 1245) hT dL_law_1245 kL_136 hw1 rfl rfl rfl rfl (lw_CR h2 (Nat.le_of_ble_eq_true rfl) (by omega) (by omega)) (Nat.le_of_ble_eq_true rfl) (fun w2 hQ => ?_)
  exact e_icmp_eq (pc := 1248) dL_law_1248 (t := 1774) (by decide) (fun _ => hK w2 hQ) (fun c => absurd (hr hE) c)
theorem lw_c29 {N i0 : Nat} {xs : Nat → Int32} {E : Prop} {w : mc_W} {kc ks : Nat} {Q : mc_W → Prop} (hN : N ≤ 3584) (hi : i0 + 7 ≤ N) (hE : E) (hj : jI yX6_kinds cX6_kinds 9 yX7_kinds cX7_kinds 10 0 0 E [.int (xs (i0 + 1)), .int (xs (i0 + 2)), .int (xs (i0 + 3))] w Q) (hk : kc ≤ 500000) (hs : ks ≤ 7000000) (hK : ∀ w2, Q w2 → mc_E R_law code 4 (mc_JL N xs) 1774 [some (.ref 1000300), some (.ref 0), some (.ref 29), some (.int (nI i0))] [] w2 (kc + 0) (ks + 0)) : mc_E R_law code 4 (mc_JL N xs) 1253 [some (.ref 1000300), some (.ref 0), some (.ref 29), some (.int (nI i0))] [] w kc ks := by
  obtain ⟨r1, r2, d1, d2, fs, h1, h2, hr, hw, hS⟩ := hj
  refine e_aloadn (pc := 1253) dL_law_1253 rfl ?_
  refine e_aloadn (pc := 1254) dL_law_1254 rfl ?_
  refine e_iloadn (pc := 1255) dL_law_1255 rfl ?_
  refine e_iconst (v := 1) (pc := 1256) dL_law_1256 (by decide) ?_
  refine e_iadd (pc := 1257) dL_law_1257 ?_
  refine e_sld (x := xs (i0 + 1)) (pc := 1258) dL_law_1258 (lw_vi (k := 1) rfl (by omega) hN) (lw_vx (k := 1) rfl (by omega) hN) ?_
  refine e_aloadn (pc := 1259) dL_law_1259 rfl ?_
  refine e_iloadn (pc := 1260) dL_law_1260 rfl ?_
  refine e_iconst (v := 2) (pc := 1261) dL_law_1261 (by decide) ?_
  refine e_iadd (pc := 1262) dL_law_1262 ?_
  refine e_sld (x := xs (i0 + 2)) (pc := 1263) dL_law_1263 (lw_vi (k := 2) rfl (by omega) hN) (lw_vx (k := 2) rfl (by omega) hN) ?_
  refine e_aloadn (pc := 1264) dL_law_1264 rfl ?_
  refine e_iloadn (pc := 1265) dL_law_1265 rfl ?_
  refine e_iconst (v := 3) (pc := 1266) dL_law_1266 (by decide) ?_
  refine e_iadd (pc := 1267) dL_law_1267 ?_
  refine e_sld (x := xs (i0 + 3)) (pc := 1268) dL_law_1268 (lw_vi (k := 3) rfl (by omega) hN) (lw_vx (k := 3) rfl (by omega) hN) ?_
  refine e_callV (pc := 1269) hS dL_law_1269 kL_137 hw rfl rfl rfl (lw_CR h1 (Nat.le_of_ble_eq_true rfl) (by omega) (by omega)) rfl (Nat.le_of_ble_eq_true rfl) (fun r w1 h => ?_)
  obtain ⟨rfl, ⟨fs1, hw1⟩, hT⟩ := h
  refine e_aloadn (pc := 1272) dL_law_1272 rfl ?_
  refine e_aloadn (pc := 1273) dL_law_1273 rfl ?_
  refine e_iloadn (pc := 1274) dL_law_1274 rfl ?_
  refine e_iconst (v := 1) (pc := 1275) dL_law_1275 (by decide) ?_
  refine e_iadd (pc := 1276) dL_law_1276 ?_
  refine e_sld (x := xs (i0 + 1)) (pc := 1277) dL_law_1277 (lw_vi (k := 1) rfl (by omega) hN) (lw_vx (k := 1) rfl (by omega) hN) ?_
  refine e_aloadn (pc := 1278) dL_law_1278 rfl ?_
  refine e_iloadn (pc := 1279) dL_law_1279 rfl ?_
  refine e_iconst (v := 2) (pc := 1280) dL_law_1280 (by decide) ?_
  refine e_iadd (pc := 1281) dL_law_1281 ?_
  refine e_sld (x := xs (i0 + 2)) (pc := 1282) dL_law_1282 (lw_vi (k := 2) rfl (by omega) hN) (lw_vx (k := 2) rfl (by omega) hN) ?_
  refine e_aloadn (pc := 1283) dL_law_1283 rfl ?_
  refine e_iloadn (pc := 1284) dL_law_1284 rfl ?_
  refine e_iconst (v := 3) (pc := 1285) dL_law_1285 (by decide) ?_
  refine e_iadd (pc := 1286) dL_law_1286 ?_
  refine e_sld (x := xs (i0 + 3)) (pc := 1287) dL_law_1287 (lw_vi (k := 3) rfl (by omega) hN) (lw_vx (k := 3) rfl (by omega) hN) ?_
  refine e_cvX (pc := 1288) hT dL_law_1288 kL_140 hw1 rfl rfl rfl rfl (lw_CR h2 (Nat.le_of_ble_eq_true rfl) (by omega) (by omega)) (Nat.le_of_ble_eq_true rfl) (fun w2 hQ => ?_)
  exact e_icmp_eq (pc := 1291) dL_law_1291 (t := 1774) (by decide) (fun _ => hK w2 hQ) (fun c => absurd (hr hE) c)
theorem lw_c30 {N i0 : Nat} {xs : Nat → Int32} {E : Prop} {w : mc_W} {kc ks : Nat} {Q : mc_W → Prop} (hN : N ≤ 3584) (hi : i0 + 7 ≤ N) (hE : E) (hj : jI yX6_whose cX6_whose 5 yX7_whose cX7_whose 5 0 0 E [.int (xs (i0 + 1))] w Q) (hk : kc ≤ 500000) (hs : ks ≤ 7000000) (hK : ∀ w2, Q w2 → mc_E R_law code 4 (mc_JL N xs) 1774 [some (.ref 1000300), some (.ref 0), some (.ref 29), some (.int (nI i0))] [] w2 (kc + 0) (ks + 0)) : mc_E R_law code 4 (mc_JL N xs) 1296 [some (.ref 1000300), some (.ref 0), some (.ref 29), some (.int (nI i0))] [] w kc ks := by
  obtain ⟨r1, r2, d1, d2, fs, h1, h2, hr, hw, hS⟩ := hj
  refine e_aloadn (pc := 1296) dL_law_1296 rfl ?_
  refine e_aloadn (pc := 1297) dL_law_1297 rfl ?_
  refine e_iloadn (pc := 1298) dL_law_1298 rfl ?_
  refine e_iconst (v := 1) (pc := 1299) dL_law_1299 (by decide) ?_
  refine e_iadd (pc := 1300) dL_law_1300 ?_
  refine e_sld (x := xs (i0 + 1)) (pc := 1301) dL_law_1301 (lw_vi (k := 1) rfl (by omega) hN) (lw_vx (k := 1) rfl (by omega) hN) ?_
  refine e_callV (pc := 1302) hS dL_law_1302 kL_141 hw rfl rfl rfl (lw_CR h1 (Nat.le_of_ble_eq_true rfl) (by omega) (by omega)) rfl (Nat.le_of_ble_eq_true rfl) (fun r w1 h => ?_)
  obtain ⟨rfl, ⟨fs1, hw1⟩, hT⟩ := h
  refine e_aloadn (pc := 1305) dL_law_1305 rfl ?_
  refine e_aloadn (pc := 1306) dL_law_1306 rfl ?_
  refine e_iloadn (pc := 1307) dL_law_1307 rfl ?_
  refine e_iconst (v := 1) (pc := 1308) dL_law_1308 (by decide) ?_
  refine e_iadd (pc := 1309) dL_law_1309 ?_
  refine e_sld (x := xs (i0 + 1)) (pc := 1310) dL_law_1310 (lw_vi (k := 1) rfl (by omega) hN) (lw_vx (k := 1) rfl (by omega) hN) ?_
  refine e_cvX (pc := 1311) hT dL_law_1311 kL_144 hw1 rfl rfl rfl rfl (lw_CR h2 (Nat.le_of_ble_eq_true rfl) (by omega) (by omega)) (Nat.le_of_ble_eq_true rfl) (fun w2 hQ => ?_)
  exact e_icmp_eq (pc := 1314) dL_law_1314 (t := 1774) (by decide) (fun _ => hK w2 hQ) (fun c => absurd (hr hE) c)
theorem lw_c31 {N i0 : Nat} {xs : Nat → Int32} {E : Prop} {w : mc_W} {kc ks : Nat} {Q : mc_W → Prop} (hN : N ≤ 3584) (hi : i0 + 7 ≤ N) (hE : E) (hj : jI yX6_laws cX6_laws 7 yX7_laws cX7_laws 7 0 0 E [.int (xs (i0 + 1)), .int (xs (i0 + 2))] w Q) (hk : kc ≤ 500000) (hs : ks ≤ 7000000) (hK : ∀ w2, Q w2 → mc_E R_law code 4 (mc_JL N xs) 1774 [some (.ref 1000300), some (.ref 0), some (.ref 29), some (.int (nI i0))] [] w2 (kc + 0) (ks + 0)) : mc_E R_law code 4 (mc_JL N xs) 1319 [some (.ref 1000300), some (.ref 0), some (.ref 29), some (.int (nI i0))] [] w kc ks := by
  obtain ⟨r1, r2, d1, d2, fs, h1, h2, hr, hw, hS⟩ := hj
  refine e_aloadn (pc := 1319) dL_law_1319 rfl ?_
  refine e_aloadn (pc := 1320) dL_law_1320 rfl ?_
  refine e_iloadn (pc := 1321) dL_law_1321 rfl ?_
  refine e_iconst (v := 1) (pc := 1322) dL_law_1322 (by decide) ?_
  refine e_iadd (pc := 1323) dL_law_1323 ?_
  refine e_sld (x := xs (i0 + 1)) (pc := 1324) dL_law_1324 (lw_vi (k := 1) rfl (by omega) hN) (lw_vx (k := 1) rfl (by omega) hN) ?_
  refine e_aloadn (pc := 1325) dL_law_1325 rfl ?_
  refine e_iloadn (pc := 1326) dL_law_1326 rfl ?_
  refine e_iconst (v := 2) (pc := 1327) dL_law_1327 (by decide) ?_
  refine e_iadd (pc := 1328) dL_law_1328 ?_
  refine e_sld (x := xs (i0 + 2)) (pc := 1329) dL_law_1329 (lw_vi (k := 2) rfl (by omega) hN) (lw_vx (k := 2) rfl (by omega) hN) ?_
  refine e_callV (pc := 1330) hS dL_law_1330 kL_145 hw rfl rfl rfl (lw_CR h1 (Nat.le_of_ble_eq_true rfl) (by omega) (by omega)) rfl (Nat.le_of_ble_eq_true rfl) (fun r w1 h => ?_)
  obtain ⟨rfl, ⟨fs1, hw1⟩, hT⟩ := h
  refine e_aloadn (pc := 1333) dL_law_1333 rfl ?_
  refine e_aloadn (pc := 1334) dL_law_1334 rfl ?_
  refine e_iloadn (pc := 1335) dL_law_1335 rfl ?_
  refine e_iconst (v := 1) (pc := 1336) dL_law_1336 (by decide) ?_
  refine e_iadd (pc := 1337) dL_law_1337 ?_
  refine e_sld (x := xs (i0 + 1)) (pc := 1338) dL_law_1338 (lw_vi (k := 1) rfl (by omega) hN) (lw_vx (k := 1) rfl (by omega) hN) ?_
  refine e_aloadn (pc := 1339) dL_law_1339 rfl ?_
  refine e_iloadn (pc := 1340) dL_law_1340 rfl ?_
  refine e_iconst (v := 2) (pc := 1341) dL_law_1341 (by decide) ?_
  refine e_iadd (pc := 1342) dL_law_1342 ?_
  refine e_sld (x := xs (i0 + 2)) (pc := 1343) dL_law_1343 (lw_vi (k := 2) rfl (by omega) hN) (lw_vx (k := 2) rfl (by omega) hN) ?_
  refine e_cvX (pc := 1344) hT dL_law_1344 kL_148 hw1 rfl rfl rfl rfl (lw_CR h2 (Nat.le_of_ble_eq_true rfl) (by omega) (by omega)) (Nat.le_of_ble_eq_true rfl) (fun w2 hQ => ?_)
  exact e_icmp_eq (pc := 1347) dL_law_1347 (t := 1774) (by decide) (fun _ => hK w2 hQ) (fun c => absurd (hr hE) c)
theorem lw_c32 {N i0 : Nat} {xs : Nat → Int32} {E : Prop} {w : mc_W} {kc ks : Nat} {Q : mc_W → Prop} (hN : N ≤ 3584) (hi : i0 + 7 ≤ N) (hE : E) (hj : jI yX6_film cX6_film 11 yX7_film cX7_film 10 0 0 E [.int (xs (i0 + 1)), .int (xs (i0 + 2)), .int (xs (i0 + 3)), .int (xs (i0 + 4))] w Q) (hk : kc ≤ 500000) (hs : ks ≤ 7000000) (hK : ∀ w2, Q w2 → mc_E R_law code 4 (mc_JL N xs) 1774 [some (.ref 1000300), some (.ref 0), some (.ref 29), some (.int (nI i0))] [] w2 (kc + 0) (ks + 0)) : mc_E R_law code 4 (mc_JL N xs) 1352 [some (.ref 1000300), some (.ref 0), some (.ref 29), some (.int (nI i0))] [] w kc ks := by
  obtain ⟨r1, r2, d1, d2, fs, h1, h2, hr, hw, hS⟩ := hj
  refine e_aloadn (pc := 1352) dL_law_1352 rfl ?_
  refine e_aloadn (pc := 1353) dL_law_1353 rfl ?_
  refine e_iloadn (pc := 1354) dL_law_1354 rfl ?_
  refine e_iconst (v := 1) (pc := 1355) dL_law_1355 (by decide) ?_
  refine e_iadd (pc := 1356) dL_law_1356 ?_
  refine e_sld (x := xs (i0 + 1)) (pc := 1357) dL_law_1357 (lw_vi (k := 1) rfl (by omega) hN) (lw_vx (k := 1) rfl (by omega) hN) ?_
  refine e_aloadn (pc := 1358) dL_law_1358 rfl ?_
  refine e_iloadn (pc := 1359) dL_law_1359 rfl ?_
  refine e_iconst (v := 2) (pc := 1360) dL_law_1360 (by decide) ?_
  refine e_iadd (pc := 1361) dL_law_1361 ?_
  refine e_sld (x := xs (i0 + 2)) (pc := 1362) dL_law_1362 (lw_vi (k := 2) rfl (by omega) hN) (lw_vx (k := 2) rfl (by omega) hN) ?_
  refine e_aloadn (pc := 1363) dL_law_1363 rfl ?_
  refine e_iloadn (pc := 1364) dL_law_1364 rfl ?_
  refine e_iconst (v := 3) (pc := 1365) dL_law_1365 (by decide) ?_
  refine e_iadd (pc := 1366) dL_law_1366 ?_
  refine e_sld (x := xs (i0 + 3)) (pc := 1367) dL_law_1367 (lw_vi (k := 3) rfl (by omega) hN) (lw_vx (k := 3) rfl (by omega) hN) ?_
  refine e_aloadn (pc := 1368) dL_law_1368 rfl ?_
  refine e_iloadn (pc := 1369) dL_law_1369 rfl ?_
  refine e_iconst (v := 4) (pc := 1370) dL_law_1370 (by decide) ?_
  refine e_iadd (pc := 1371) dL_law_1371 ?_
  refine e_sld (x := xs (i0 + 4)) (pc := 1372) dL_law_1372 (lw_vi (k := 4) rfl (by omega) hN) (lw_vx (k := 4) rfl (by omega) hN) ?_
  refine e_callV (pc := 1373) hS dL_law_1373 kL_149 hw rfl rfl rfl (lw_CR h1 (Nat.le_of_ble_eq_true rfl) (by omega) (by omega)) rfl (Nat.le_of_ble_eq_true rfl) (fun r w1 h => ?_)
  obtain ⟨rfl, ⟨fs1, hw1⟩, hT⟩ := h
  refine e_aloadn (pc := 1376) dL_law_1376 rfl ?_
  refine e_aloadn (pc := 1377) dL_law_1377 rfl ?_
  refine e_iloadn (pc := 1378) dL_law_1378 rfl ?_
  refine e_iconst (v := 1) (pc := 1379) dL_law_1379 (by decide) ?_
  refine e_iadd (pc := 1380) dL_law_1380 ?_
  refine e_sld (x := xs (i0 + 1)) (pc := 1381) dL_law_1381 (lw_vi (k := 1) rfl (by omega) hN) (lw_vx (k := 1) rfl (by omega) hN) ?_
  refine e_aloadn (pc := 1382) dL_law_1382 rfl ?_
  refine e_iloadn (pc := 1383) dL_law_1383 rfl ?_
  refine e_iconst (v := 2) (pc := 1384) dL_law_1384 (by decide) ?_
  refine e_iadd (pc := 1385) dL_law_1385 ?_
  refine e_sld (x := xs (i0 + 2)) (pc := 1386) dL_law_1386 (lw_vi (k := 2) rfl (by omega) hN) (lw_vx (k := 2) rfl (by omega) hN) ?_
  refine e_aloadn (pc := 1387) dL_law_1387 rfl ?_
  refine e_iloadn (pc := 1388) dL_law_1388 rfl ?_
  refine e_iconst (v := 3) (pc := 1389) dL_law_1389 (by decide) ?_
  refine e_iadd (pc := 1390) dL_law_1390 ?_
  refine e_sld (x := xs (i0 + 3)) (pc := 1391) dL_law_1391 (lw_vi (k := 3) rfl (by omega) hN) (lw_vx (k := 3) rfl (by omega) hN) ?_
  refine e_aloadn (pc := 1392) dL_law_1392 rfl ?_
  refine e_iloadn (pc := 1393) dL_law_1393 rfl ?_
  refine e_iconst (v := 4) (pc := 1394) dL_law_1394 (by decide) ?_
  refine e_iadd (pc := 1395) dL_law_1395 ?_
  refine e_sld (x := xs (i0 + 4)) (pc := 1396) dL_law_1396 (lw_vi (k := 4) rfl (by omega) hN) (lw_vx (k := 4) rfl (by omega) hN) ?_
  refine e_cvX (pc := 1397) hT dL_law_1397 kL_152 hw1 rfl rfl rfl rfl (lw_CR h2 (Nat.le_of_ble_eq_true rfl) (by omega) (by omega)) (Nat.le_of_ble_eq_true rfl) (fun w2 hQ => ?_)
  exact e_icmp_eq (pc := 1400) dL_law_1400 (t := 1774) (by decide) (fun _ => hK w2 hQ) (fun c => absurd (hr hE) c)
theorem lw_c33 {N i0 : Nat} {xs : Nat → Int32} {E : Prop} {w : mc_W} {kc ks : Nat} {Q : mc_W → Prop} (hN : N ≤ 3584) (hi : i0 + 7 ≤ N) (hE : E) (hj : jL yX6_drawn cX6_drawn 6 yX7_drawn cX7_drawn 4 0 0 E [.int (xs (i0 + 1)), .int (xs (i0 + 2)), .int (xs (i0 + 3))] w Q) (hk : kc ≤ 500000) (hs : ks ≤ 7000000) (hK : ∀ w2, Q w2 → mc_E R_law code 4 (mc_JL N xs) 1774 [some (.ref 1000300), some (.ref 0), some (.ref 29), some (.int (nI i0))] [] w2 (kc + 0) (ks + 0)) : mc_E R_law code 4 (mc_JL N xs) 1405 [some (.ref 1000300), some (.ref 0), some (.ref 29), some (.int (nI i0))] [] w kc ks := by
  obtain ⟨r1, r2, d1, d2, fs, h1, h2, hr, hw, hS⟩ := hj
  refine e_aloadn (pc := 1405) dL_law_1405 rfl ?_
  refine e_aloadn (pc := 1406) dL_law_1406 rfl ?_
  refine e_iloadn (pc := 1407) dL_law_1407 rfl ?_
  refine e_iconst (v := 1) (pc := 1408) dL_law_1408 (by decide) ?_
  refine e_iadd (pc := 1409) dL_law_1409 ?_
  refine e_sld (x := xs (i0 + 1)) (pc := 1410) dL_law_1410 (lw_vi (k := 1) rfl (by omega) hN) (lw_vx (k := 1) rfl (by omega) hN) ?_
  refine e_aloadn (pc := 1411) dL_law_1411 rfl ?_
  refine e_iloadn (pc := 1412) dL_law_1412 rfl ?_
  refine e_iconst (v := 2) (pc := 1413) dL_law_1413 (by decide) ?_
  refine e_iadd (pc := 1414) dL_law_1414 ?_
  refine e_sld (x := xs (i0 + 2)) (pc := 1415) dL_law_1415 (lw_vi (k := 2) rfl (by omega) hN) (lw_vx (k := 2) rfl (by omega) hN) ?_
  refine e_aloadn (pc := 1416) dL_law_1416 rfl ?_
  refine e_iloadn (pc := 1417) dL_law_1417 rfl ?_
  refine e_iconst (v := 3) (pc := 1418) dL_law_1418 (by decide) ?_
  refine e_iadd (pc := 1419) dL_law_1419 ?_
  refine e_sld (x := xs (i0 + 3)) (pc := 1420) dL_law_1420 (lw_vi (k := 3) rfl (by omega) hN) (lw_vx (k := 3) rfl (by omega) hN) ?_
  refine e_callV (pc := 1421) hS dL_law_1421 kL_153 hw rfl rfl rfl (lw_CR h1 (Nat.le_of_ble_eq_true rfl) (by omega) (by omega)) rfl (Nat.le_of_ble_eq_true rfl) (fun r w1 h => ?_)
  obtain ⟨rfl, ⟨fs1, hw1⟩, hT⟩ := h
  refine e_aloadn (pc := 1424) dL_law_1424 rfl ?_
  refine e_aloadn (pc := 1425) dL_law_1425 rfl ?_
  refine e_iloadn (pc := 1426) dL_law_1426 rfl ?_
  refine e_iconst (v := 1) (pc := 1427) dL_law_1427 (by decide) ?_
  refine e_iadd (pc := 1428) dL_law_1428 ?_
  refine e_sld (x := xs (i0 + 1)) (pc := 1429) dL_law_1429 (lw_vi (k := 1) rfl (by omega) hN) (lw_vx (k := 1) rfl (by omega) hN) ?_
  refine e_aloadn (pc := 1430) dL_law_1430 rfl ?_
  refine e_iloadn (pc := 1431) dL_law_1431 rfl ?_
  refine e_iconst (v := 2) (pc := 1432) dL_law_1432 (by decide) ?_
  refine e_iadd (pc := 1433) dL_law_1433 ?_
  refine e_sld (x := xs (i0 + 2)) (pc := 1434) dL_law_1434 (lw_vi (k := 2) rfl (by omega) hN) (lw_vx (k := 2) rfl (by omega) hN) ?_
  refine e_aloadn (pc := 1435) dL_law_1435 rfl ?_
  refine e_iloadn (pc := 1436) dL_law_1436 rfl ?_
  refine e_iconst (v := 3) (pc := 1437) dL_law_1437 (by decide) ?_
  refine e_iadd (pc := 1438) dL_law_1438 ?_
  refine e_sld (x := xs (i0 + 3)) (pc := 1439) dL_law_1439 (lw_vi (k := 3) rfl (by omega) hN) (lw_vx (k := 3) rfl (by omega) hN) ?_
  refine e_cvX (pc := 1440) hT dL_law_1440 kL_156 hw1 rfl rfl rfl rfl (lw_CR h2 (Nat.le_of_ble_eq_true rfl) (by omega) (by omega)) (Nat.le_of_ble_eq_true rfl) (fun w2 hQ => ?_)
  refine e_lcmp (pc := 1443) dL_law_1443 ?_
  exact e_if_eq (pc := 1444) dL_law_1444 (t := 1774) (by decide) (fun _ => hK w2 hQ) (fun c => absurd (mc_cmp_eq.mpr (hr hE)) c)
theorem lw_c34 {N i0 : Nat} {xs : Nat → Int32} {E : Prop} {w : mc_W} {kc ks : Nat} {Q : mc_W → Prop} (hN : N ≤ 3584) (hi : i0 + 7 ≤ N) (hE : E) (hj : jL yX6_odds cX6_odds 13 yX7_odds cX7_odds 11 0 0 E [.int (xs (i0 + 1)), .int (xs (i0 + 2)), .int (xs (i0 + 3)), .int (xs (i0 + 4)), .int (xs (i0 + 5))] w Q) (hk : kc ≤ 500000) (hs : ks ≤ 7000000) (hK : ∀ w2, Q w2 → mc_E R_law code 4 (mc_JL N xs) 1774 [some (.ref 1000300), some (.ref 0), some (.ref 29), some (.int (nI i0))] [] w2 (kc + 0) (ks + 0)) : mc_E R_law code 4 (mc_JL N xs) 1449 [some (.ref 1000300), some (.ref 0), some (.ref 29), some (.int (nI i0))] [] w kc ks := by
  obtain ⟨r1, r2, d1, d2, fs, h1, h2, hr, hw, hS⟩ := hj
  refine e_aloadn (pc := 1449) dL_law_1449 rfl ?_
  refine e_aloadn (pc := 1450) dL_law_1450 rfl ?_
  refine e_iloadn (pc := 1451) dL_law_1451 rfl ?_
  refine e_iconst (v := 1) (pc := 1452) dL_law_1452 (by decide) ?_
  refine e_iadd (pc := 1453) dL_law_1453 ?_
  refine e_sld (x := xs (i0 + 1)) (pc := 1454) dL_law_1454 (lw_vi (k := 1) rfl (by omega) hN) (lw_vx (k := 1) rfl (by omega) hN) ?_
  refine e_aloadn (pc := 1455) dL_law_1455 rfl ?_
  refine e_iloadn (pc := 1456) dL_law_1456 rfl ?_
  refine e_iconst (v := 2) (pc := 1457) dL_law_1457 (by decide) ?_
  refine e_iadd (pc := 1458) dL_law_1458 ?_
  refine e_sld (x := xs (i0 + 2)) (pc := 1459) dL_law_1459 (lw_vi (k := 2) rfl (by omega) hN) (lw_vx (k := 2) rfl (by omega) hN) ?_
  refine e_aloadn (pc := 1460) dL_law_1460 rfl ?_
  refine e_iloadn (pc := 1461) dL_law_1461 rfl ?_
  refine e_iconst (v := 3) (pc := 1462) dL_law_1462 (by decide) ?_
  refine e_iadd (pc := 1463) dL_law_1463 ?_
  refine e_sld (x := xs (i0 + 3)) (pc := 1464) dL_law_1464 (lw_vi (k := 3) rfl (by omega) hN) (lw_vx (k := 3) rfl (by omega) hN) ?_
  refine e_aloadn (pc := 1465) dL_law_1465 rfl ?_
  refine e_iloadn (pc := 1466) dL_law_1466 rfl ?_
  refine e_iconst (v := 4) (pc := 1467) dL_law_1467 (by decide) ?_
  refine e_iadd (pc := 1468) dL_law_1468 ?_
  refine e_sld (x := xs (i0 + 4)) (pc := 1469) dL_law_1469 (lw_vi (k := 4) rfl (by omega) hN) (lw_vx (k := 4) rfl (by omega) hN) ?_
  refine e_aloadn (pc := 1470) dL_law_1470 rfl ?_
  refine e_iloadn (pc := 1471) dL_law_1471 rfl ?_
  refine e_iconst (v := 5) (pc := 1472) dL_law_1472 (by decide) ?_
  refine e_iadd (pc := 1473) dL_law_1473 ?_
  refine e_sld (x := xs (i0 + 5)) (pc := 1474) dL_law_1474 (lw_vi (k := 5) rfl (by omega) hN) (lw_vx (k := 5) rfl (by omega) hN) ?_
  refine e_callV (pc := 1475) hS dL_law_1475 kL_157 hw rfl rfl rfl (lw_CR h1 (Nat.le_of_ble_eq_true rfl) (by omega) (by omega)) rfl (Nat.le_of_ble_eq_true rfl) (fun r w1 h => ?_)
  obtain ⟨rfl, ⟨fs1, hw1⟩, hT⟩ := h
  refine e_aloadn (pc := 1478) dL_law_1478 rfl ?_
  refine e_aloadn (pc := 1479) dL_law_1479 rfl ?_
  refine e_iloadn (pc := 1480) dL_law_1480 rfl ?_
  refine e_iconst (v := 1) (pc := 1481) dL_law_1481 (by decide) ?_
  refine e_iadd (pc := 1482) dL_law_1482 ?_
  refine e_sld (x := xs (i0 + 1)) (pc := 1483) dL_law_1483 (lw_vi (k := 1) rfl (by omega) hN) (lw_vx (k := 1) rfl (by omega) hN) ?_
  refine e_aloadn (pc := 1484) dL_law_1484 rfl ?_
  refine e_iloadn (pc := 1485) dL_law_1485 rfl ?_
  refine e_iconst (v := 2) (pc := 1486) dL_law_1486 (by decide) ?_
  refine e_iadd (pc := 1487) dL_law_1487 ?_
  refine e_sld (x := xs (i0 + 2)) (pc := 1488) dL_law_1488 (lw_vi (k := 2) rfl (by omega) hN) (lw_vx (k := 2) rfl (by omega) hN) ?_
  refine e_aloadn (pc := 1489) dL_law_1489 rfl ?_
  refine e_iloadn (pc := 1490) dL_law_1490 rfl ?_
  refine e_iconst (v := 3) (pc := 1491) dL_law_1491 (by decide) ?_
  refine e_iadd (pc := 1492) dL_law_1492 ?_
  refine e_sld (x := xs (i0 + 3)) (pc := 1493) dL_law_1493 (lw_vi (k := 3) rfl (by omega) hN) (lw_vx (k := 3) rfl (by omega) hN) ?_
  refine e_aloadn (pc := 1494) dL_law_1494 rfl ?_
  refine e_iloadn (pc := 1495) dL_law_1495 rfl ?_
  refine e_iconst (v := 4) (pc := 1496) dL_law_1496 (by decide) ?_
  refine e_iadd (pc := 1497) dL_law_1497 ?_
  refine e_sld (x := xs (i0 + 4)) (pc := 1498) dL_law_1498 (lw_vi (k := 4) rfl (by omega) hN) (lw_vx (k := 4) rfl (by omega) hN) ?_
  refine e_aloadn (pc := 1499) dL_law_1499 rfl ?_
  refine e_iloadn (pc := 1500) dL_law_1500 rfl ?_
  refine e_iconst (v := 5) (pc := 1501) dL_law_1501 (by decide) ?_
  refine e_iadd (pc := 1502) dL_law_1502 ?_
  refine e_sld (x := xs (i0 + 5)) (pc := 1503) dL_law_1503 (lw_vi (k := 5) rfl (by omega) hN) (lw_vx (k := 5) rfl (by omega) hN) ?_
  refine e_cvX (pc := 1504) hT dL_law_1504 kL_161 hw1 rfl rfl rfl rfl (lw_CR h2 (Nat.le_of_ble_eq_true rfl) (by omega) (by omega)) (Nat.le_of_ble_eq_true rfl) (fun w2 hQ => ?_)
  refine e_lcmp (pc := 1507) dL_law_1507 ?_
  exact e_if_eq (pc := 1508) dL_law_1508 (t := 1774) (by decide) (fun _ => hK w2 hQ) (fun c => absurd (mc_cmp_eq.mpr (hr hE)) c)
theorem lw_c35 {N i0 : Nat} {xs : Nat → Int32} {E : Prop} {w : mc_W} {kc ks : Nat} {Q : mc_W → Prop} (hN : N ≤ 3584) (hi : i0 + 7 ≤ N) (hE : E) (hj : jI yX6_image cX6_image 1 yX7_image cX7_image 2 0 0 E [] w Q) (hk : kc ≤ 500000) (hs : ks ≤ 7000000) (hK : ∀ w2, Q w2 → mc_E R_law code 4 (mc_JL N xs) 1774 [some (.ref 1000300), some (.ref 0), some (.ref 29), some (.int (nI i0))] [] w2 (kc + 0) (ks + 0)) : mc_E R_law code 4 (mc_JL N xs) 1513 [some (.ref 1000300), some (.ref 0), some (.ref 29), some (.int (nI i0))] [] w kc ks := by
  obtain ⟨r1, r2, d1, d2, fs, h1, h2, hr, hw, hS⟩ := hj
  refine e_aloadn (pc := 1513) dL_law_1513 rfl ?_
  refine e_callV (pc := 1514) hS dL_law_1514 kL_162 hw rfl rfl rfl (lw_CR h1 (Nat.le_of_ble_eq_true rfl) (by omega) (by omega)) rfl (Nat.le_of_ble_eq_true rfl) (fun r w1 h => ?_)
  obtain ⟨rfl, ⟨fs1, hw1⟩, hT⟩ := h
  refine e_aloadn (pc := 1517) dL_law_1517 rfl ?_
  refine e_cvX (pc := 1518) hT dL_law_1518 kL_165 hw1 rfl rfl rfl rfl (lw_CR h2 (Nat.le_of_ble_eq_true rfl) (by omega) (by omega)) (Nat.le_of_ble_eq_true rfl) (fun w2 hQ => ?_)
  exact e_icmp_eq (pc := 1521) dL_law_1521 (t := 1774) (by decide) (fun _ => hK w2 hQ) (fun c => absurd (hr hE) c)
theorem lw_c36 {N i0 : Nat} {xs : Nat → Int32} {E : Prop} {w : mc_W} {kc ks : Nat} {Q : mc_W → Prop} (hN : N ≤ 3584) (hi : i0 + 7 ≤ N) (hE : E) (hj : jI yX6_back cX6_back 1 yX7_back cX7_back 2 0 0 E [] w Q) (hk : kc ≤ 500000) (hs : ks ≤ 7000000) (hK : ∀ w2, Q w2 → mc_E R_law code 4 (mc_JL N xs) 1774 [some (.ref 1000300), some (.ref 0), some (.ref 29), some (.int (nI i0))] [] w2 (kc + 0) (ks + 0)) : mc_E R_law code 4 (mc_JL N xs) 1526 [some (.ref 1000300), some (.ref 0), some (.ref 29), some (.int (nI i0))] [] w kc ks := by
  obtain ⟨r1, r2, d1, d2, fs, h1, h2, hr, hw, hS⟩ := hj
  refine e_aloadn (pc := 1526) dL_law_1526 rfl ?_
  refine e_callV (pc := 1527) hS dL_law_1527 kL_166 hw rfl rfl rfl (lw_CR h1 (Nat.le_of_ble_eq_true rfl) (by omega) (by omega)) rfl (Nat.le_of_ble_eq_true rfl) (fun r w1 h => ?_)
  obtain ⟨rfl, ⟨fs1, hw1⟩, hT⟩ := h
  refine e_aloadn (pc := 1530) dL_law_1530 rfl ?_
  refine e_cvX (pc := 1531) hT dL_law_1531 kL_169 hw1 rfl rfl rfl rfl (lw_CR h2 (Nat.le_of_ble_eq_true rfl) (by omega) (by omega)) (Nat.le_of_ble_eq_true rfl) (fun w2 hQ => ?_)
  exact e_icmp_eq (pc := 1534) dL_law_1534 (t := 1774) (by decide) (fun _ => hK w2 hQ) (fun c => absurd (hr hE) c)
theorem lw_c37 {N i0 : Nat} {xs : Nat → Int32} {E : Prop} {w : mc_W} {kc ks : Nat} {Q : mc_W → Prop} (hN : N ≤ 3584) (hi : i0 + 7 ≤ N) (hE : E) (hj : jI yX6_sheet cX6_sheet 5 yX7_sheet cX7_sheet 5 0 0 E [.int (xs (i0 + 1)), .int (xs (i0 + 2)), .int (xs (i0 + 3))] w Q) (hk : kc ≤ 500000) (hs : ks ≤ 7000000) (hK : ∀ w2, Q w2 → mc_E R_law code 4 (mc_JL N xs) 1774 [some (.ref 1000300), some (.ref 0), some (.ref 29), some (.int (nI i0))] [] w2 (kc + 0) (ks + 0)) : mc_E R_law code 4 (mc_JL N xs) 1539 [some (.ref 1000300), some (.ref 0), some (.ref 29), some (.int (nI i0))] [] w kc ks := by
  obtain ⟨r1, r2, d1, d2, fs, h1, h2, hr, hw, hS⟩ := hj
  refine e_aloadn (pc := 1539) dL_law_1539 rfl ?_
  refine e_aloadn (pc := 1540) dL_law_1540 rfl ?_
  refine e_iloadn (pc := 1541) dL_law_1541 rfl ?_
  refine e_iconst (v := 1) (pc := 1542) dL_law_1542 (by decide) ?_
  refine e_iadd (pc := 1543) dL_law_1543 ?_
  refine e_sld (x := xs (i0 + 1)) (pc := 1544) dL_law_1544 (lw_vi (k := 1) rfl (by omega) hN) (lw_vx (k := 1) rfl (by omega) hN) ?_
  refine e_aloadn (pc := 1545) dL_law_1545 rfl ?_
  refine e_iloadn (pc := 1546) dL_law_1546 rfl ?_
  refine e_iconst (v := 2) (pc := 1547) dL_law_1547 (by decide) ?_
  refine e_iadd (pc := 1548) dL_law_1548 ?_
  refine e_sld (x := xs (i0 + 2)) (pc := 1549) dL_law_1549 (lw_vi (k := 2) rfl (by omega) hN) (lw_vx (k := 2) rfl (by omega) hN) ?_
  refine e_aloadn (pc := 1550) dL_law_1550 rfl ?_
  refine e_iloadn (pc := 1551) dL_law_1551 rfl ?_
  refine e_iconst (v := 3) (pc := 1552) dL_law_1552 (by decide) ?_
  refine e_iadd (pc := 1553) dL_law_1553 ?_
  refine e_sld (x := xs (i0 + 3)) (pc := 1554) dL_law_1554 (lw_vi (k := 3) rfl (by omega) hN) (lw_vx (k := 3) rfl (by omega) hN) ?_
  refine e_callV (pc := 1555) hS dL_law_1555 kL_170 hw rfl rfl rfl (lw_CR h1 (Nat.le_of_ble_eq_true rfl) (by omega) (by omega)) rfl (Nat.le_of_ble_eq_true rfl) (fun r w1 h => ?_)
  obtain ⟨rfl, ⟨fs1, hw1⟩, hT⟩ := h
  refine e_aloadn (pc := 1558) dL_law_1558 rfl ?_
  refine e_aloadn (pc := 1559) dL_law_1559 rfl ?_
  refine e_iloadn (pc := 1560) dL_law_1560 rfl ?_
  refine e_iconst (v := 1) (pc := 1561) dL_law_1561 (by decide) ?_
  refine e_iadd (pc := 1562) dL_law_1562 ?_
  refine e_sld (x := xs (i0 + 1)) (pc := 1563) dL_law_1563 (lw_vi (k := 1) rfl (by omega) hN) (lw_vx (k := 1) rfl (by omega) hN) ?_
  refine e_aloadn (pc := 1564) dL_law_1564 rfl ?_
  refine e_iloadn (pc := 1565) dL_law_1565 rfl ?_
  refine e_iconst (v := 2) (pc := 1566) dL_law_1566 (by decide) ?_
  refine e_iadd (pc := 1567) dL_law_1567 ?_
  refine e_sld (x := xs (i0 + 2)) (pc := 1568) dL_law_1568 (lw_vi (k := 2) rfl (by omega) hN) (lw_vx (k := 2) rfl (by omega) hN) ?_
  refine e_aloadn (pc := 1569) dL_law_1569 rfl ?_
  refine e_iloadn (pc := 1570) dL_law_1570 rfl ?_
  refine e_iconst (v := 3) (pc := 1571) dL_law_1571 (by decide) ?_
  refine e_iadd (pc := 1572) dL_law_1572 ?_
  refine e_sld (x := xs (i0 + 3)) (pc := 1573) dL_law_1573 (lw_vi (k := 3) rfl (by omega) hN) (lw_vx (k := 3) rfl (by omega) hN) ?_
  refine e_cvX (pc := 1574) hT dL_law_1574 kL_173 hw1 rfl rfl rfl rfl (lw_CR h2 (Nat.le_of_ble_eq_true rfl) (by omega) (by omega)) (Nat.le_of_ble_eq_true rfl) (fun w2 hQ => ?_)
  exact e_icmp_eq (pc := 1577) dL_law_1577 (t := 1774) (by decide) (fun _ => hK w2 hQ) (fun c => absurd (hr hE) c)
theorem lw_c38 {N i0 : Nat} {xs : Nat → Int32} {E : Prop} {w : mc_W} {kc ks : Nat} {Q : mc_W → Prop} (hN : N ≤ 3584) (hi : i0 + 7 ≤ N) (hE : E) (hj : jI yX6_cell cX6_cell 6 yX7_cell cX7_cell 4 0 0 E [.int (xs (i0 + 1)), .int (xs (i0 + 2)), .int (xs (i0 + 3))] w Q) (hk : kc ≤ 500000) (hs : ks ≤ 7000000) (hK : ∀ w2, Q w2 → mc_E R_law code 4 (mc_JL N xs) 1774 [some (.ref 1000300), some (.ref 0), some (.ref 29), some (.int (nI i0))] [] w2 (kc + 0) (ks + 0)) : mc_E R_law code 4 (mc_JL N xs) 1582 [some (.ref 1000300), some (.ref 0), some (.ref 29), some (.int (nI i0))] [] w kc ks := by
  obtain ⟨r1, r2, d1, d2, fs, h1, h2, hr, hw, hS⟩ := hj
  refine e_aloadn (pc := 1582) dL_law_1582 rfl ?_
  refine e_aloadn (pc := 1583) dL_law_1583 rfl ?_
  refine e_iloadn (pc := 1584) dL_law_1584 rfl ?_
  refine e_iconst (v := 1) (pc := 1585) dL_law_1585 (by decide) ?_
  refine e_iadd (pc := 1586) dL_law_1586 ?_
  refine e_sld (x := xs (i0 + 1)) (pc := 1587) dL_law_1587 (lw_vi (k := 1) rfl (by omega) hN) (lw_vx (k := 1) rfl (by omega) hN) ?_
  refine e_aloadn (pc := 1588) dL_law_1588 rfl ?_
  refine e_iloadn (pc := 1589) dL_law_1589 rfl ?_
  refine e_iconst (v := 2) (pc := 1590) dL_law_1590 (by decide) ?_
  refine e_iadd (pc := 1591) dL_law_1591 ?_
  refine e_sld (x := xs (i0 + 2)) (pc := 1592) dL_law_1592 (lw_vi (k := 2) rfl (by omega) hN) (lw_vx (k := 2) rfl (by omega) hN) ?_
  refine e_aloadn (pc := 1593) dL_law_1593 rfl ?_
  refine e_iloadn (pc := 1594) dL_law_1594 rfl ?_
  refine e_iconst (v := 3) (pc := 1595) dL_law_1595 (by decide) ?_
  refine e_iadd (pc := 1596) dL_law_1596 ?_
  refine e_sld (x := xs (i0 + 3)) (pc := 1597) dL_law_1597 (lw_vi (k := 3) rfl (by omega) hN) (lw_vx (k := 3) rfl (by omega) hN) ?_
  refine e_callV (pc := 1598) hS dL_law_1598 kL_174 hw rfl rfl rfl (lw_CR h1 (Nat.le_of_ble_eq_true rfl) (by omega) (by omega)) rfl (Nat.le_of_ble_eq_true rfl) (fun r w1 h => ?_)
  obtain ⟨rfl, ⟨fs1, hw1⟩, hT⟩ := h
  refine e_aloadn (pc := 1601) dL_law_1601 rfl ?_
  refine e_aloadn (pc := 1602) dL_law_1602 rfl ?_
  refine e_iloadn (pc := 1603) dL_law_1603 rfl ?_
  refine e_iconst (v := 1) (pc := 1604) dL_law_1604 (by decide) ?_
  refine e_iadd (pc := 1605) dL_law_1605 ?_
  refine e_sld (x := xs (i0 + 1)) (pc := 1606) dL_law_1606 (lw_vi (k := 1) rfl (by omega) hN) (lw_vx (k := 1) rfl (by omega) hN) ?_
  refine e_aloadn (pc := 1607) dL_law_1607 rfl ?_
  refine e_iloadn (pc := 1608) dL_law_1608 rfl ?_
  refine e_iconst (v := 2) (pc := 1609) dL_law_1609 (by decide) ?_
  refine e_iadd (pc := 1610) dL_law_1610 ?_
  refine e_sld (x := xs (i0 + 2)) (pc := 1611) dL_law_1611 (lw_vi (k := 2) rfl (by omega) hN) (lw_vx (k := 2) rfl (by omega) hN) ?_
  refine e_aloadn (pc := 1612) dL_law_1612 rfl ?_
  refine e_iloadn (pc := 1613) dL_law_1613 rfl ?_
  refine e_iconst (v := 3) (pc := 1614) dL_law_1614 (by decide) ?_
  refine e_iadd (pc := 1615) dL_law_1615 ?_
  refine e_sld (x := xs (i0 + 3)) (pc := 1616) dL_law_1616 (lw_vi (k := 3) rfl (by omega) hN) (lw_vx (k := 3) rfl (by omega) hN) ?_
  refine e_cvX (pc := 1617) hT dL_law_1617 kL_177 hw1 rfl rfl rfl rfl (lw_CR h2 (Nat.le_of_ble_eq_true rfl) (by omega) (by omega)) (Nat.le_of_ble_eq_true rfl) (fun w2 hQ => ?_)
  exact e_icmp_eq (pc := 1620) dL_law_1620 (t := 1774) (by decide) (fun _ => hK w2 hQ) (fun c => absurd (hr hE) c)
theorem lw_c39 {N i0 : Nat} {xs : Nat → Int32} {E : Prop} {w : mc_W} {kc ks : Nat} {Q : mc_W → Prop} (hN : N ≤ 3584) (hi : i0 + 7 ≤ N) (hE : E) (hj : jI yX6_copy cX6_copy 8 yX7_copy cX7_copy 10 0 0 E [.int (xs (i0 + 1)), .int (xs (i0 + 2)), .int (xs (i0 + 3)), .int (xs (i0 + 4)), .int (xs (i0 + 5))] w Q) (hk : kc ≤ 500000) (hs : ks ≤ 7000000) (hK : ∀ w2, Q w2 → mc_E R_law code 4 (mc_JL N xs) 1774 [some (.ref 1000300), some (.ref 0), some (.ref 29), some (.int (nI i0))] [] w2 (kc + 0) (ks + 0)) : mc_E R_law code 4 (mc_JL N xs) 1625 [some (.ref 1000300), some (.ref 0), some (.ref 29), some (.int (nI i0))] [] w kc ks := by
  obtain ⟨r1, r2, d1, d2, fs, h1, h2, hr, hw, hS⟩ := hj
  refine e_aloadn (pc := 1625) dL_law_1625 rfl ?_
  refine e_aloadn (pc := 1626) dL_law_1626 rfl ?_
  refine e_iloadn (pc := 1627) dL_law_1627 rfl ?_
  refine e_iconst (v := 1) (pc := 1628) dL_law_1628 (by decide) ?_
  refine e_iadd (pc := 1629) dL_law_1629 ?_
  refine e_sld (x := xs (i0 + 1)) (pc := 1630) dL_law_1630 (lw_vi (k := 1) rfl (by omega) hN) (lw_vx (k := 1) rfl (by omega) hN) ?_
  refine e_aloadn (pc := 1631) dL_law_1631 rfl ?_
  refine e_iloadn (pc := 1632) dL_law_1632 rfl ?_
  refine e_iconst (v := 2) (pc := 1633) dL_law_1633 (by decide) ?_
  refine e_iadd (pc := 1634) dL_law_1634 ?_
  refine e_sld (x := xs (i0 + 2)) (pc := 1635) dL_law_1635 (lw_vi (k := 2) rfl (by omega) hN) (lw_vx (k := 2) rfl (by omega) hN) ?_
  refine e_aloadn (pc := 1636) dL_law_1636 rfl ?_
  refine e_iloadn (pc := 1637) dL_law_1637 rfl ?_
  refine e_iconst (v := 3) (pc := 1638) dL_law_1638 (by decide) ?_
  refine e_iadd (pc := 1639) dL_law_1639 ?_
  refine e_sld (x := xs (i0 + 3)) (pc := 1640) dL_law_1640 (lw_vi (k := 3) rfl (by omega) hN) (lw_vx (k := 3) rfl (by omega) hN) ?_
  refine e_aloadn (pc := 1641) dL_law_1641 rfl ?_
  refine e_iloadn (pc := 1642) dL_law_1642 rfl ?_
  refine e_iconst (v := 4) (pc := 1643) dL_law_1643 (by decide) ?_
  refine e_iadd (pc := 1644) dL_law_1644 ?_
  refine e_sld (x := xs (i0 + 4)) (pc := 1645) dL_law_1645 (lw_vi (k := 4) rfl (by omega) hN) (lw_vx (k := 4) rfl (by omega) hN) ?_
  refine e_aloadn (pc := 1646) dL_law_1646 rfl ?_
  refine e_iloadn (pc := 1647) dL_law_1647 rfl ?_
  refine e_iconst (v := 5) (pc := 1648) dL_law_1648 (by decide) ?_
  refine e_iadd (pc := 1649) dL_law_1649 ?_
  refine e_sld (x := xs (i0 + 5)) (pc := 1650) dL_law_1650 (lw_vi (k := 5) rfl (by omega) hN) (lw_vx (k := 5) rfl (by omega) hN) ?_
  refine e_callV (pc := 1651) hS dL_law_1651 kL_178 hw rfl rfl rfl (lw_CR h1 (Nat.le_of_ble_eq_true rfl) (by omega) (by omega)) rfl (Nat.le_of_ble_eq_true rfl) (fun r w1 h => ?_)
  obtain ⟨rfl, ⟨fs1, hw1⟩, hT⟩ := h
  refine e_aloadn (pc := 1654) dL_law_1654 rfl ?_
  refine e_aloadn (pc := 1655) dL_law_1655 rfl ?_
  refine e_iloadn (pc := 1656) dL_law_1656 rfl ?_
  refine e_iconst (v := 1) (pc := 1657) dL_law_1657 (by decide) ?_
  refine e_iadd (pc := 1658) dL_law_1658 ?_
  refine e_sld (x := xs (i0 + 1)) (pc := 1659) dL_law_1659 (lw_vi (k := 1) rfl (by omega) hN) (lw_vx (k := 1) rfl (by omega) hN) ?_
  refine e_aloadn (pc := 1660) dL_law_1660 rfl ?_
  refine e_iloadn (pc := 1661) dL_law_1661 rfl ?_
  refine e_iconst (v := 2) (pc := 1662) dL_law_1662 (by decide) ?_
  refine e_iadd (pc := 1663) dL_law_1663 ?_
  refine e_sld (x := xs (i0 + 2)) (pc := 1664) dL_law_1664 (lw_vi (k := 2) rfl (by omega) hN) (lw_vx (k := 2) rfl (by omega) hN) ?_
  refine e_aloadn (pc := 1665) dL_law_1665 rfl ?_
  refine e_iloadn (pc := 1666) dL_law_1666 rfl ?_
  refine e_iconst (v := 3) (pc := 1667) dL_law_1667 (by decide) ?_
  refine e_iadd (pc := 1668) dL_law_1668 ?_
  refine e_sld (x := xs (i0 + 3)) (pc := 1669) dL_law_1669 (lw_vi (k := 3) rfl (by omega) hN) (lw_vx (k := 3) rfl (by omega) hN) ?_
  refine e_aloadn (pc := 1670) dL_law_1670 rfl ?_
  refine e_iloadn (pc := 1671) dL_law_1671 rfl ?_
  refine e_iconst (v := 4) (pc := 1672) dL_law_1672 (by decide) ?_
  refine e_iadd (pc := 1673) dL_law_1673 ?_
  refine e_sld (x := xs (i0 + 4)) (pc := 1674) dL_law_1674 (lw_vi (k := 4) rfl (by omega) hN) (lw_vx (k := 4) rfl (by omega) hN) ?_
  refine e_aloadn (pc := 1675) dL_law_1675 rfl ?_
  refine e_iloadn (pc := 1676) dL_law_1676 rfl ?_
  refine e_iconst (v := 5) (pc := 1677) dL_law_1677 (by decide) ?_
  refine e_iadd (pc := 1678) dL_law_1678 ?_
  refine e_sld (x := xs (i0 + 5)) (pc := 1679) dL_law_1679 (lw_vi (k := 5) rfl (by omega) hN) (lw_vx (k := 5) rfl (by omega) hN) ?_
  refine e_cvX (pc := 1680) hT dL_law_1680 kL_182 hw1 rfl rfl rfl rfl (lw_CR h2 (Nat.le_of_ble_eq_true rfl) (by omega) (by omega)) (Nat.le_of_ble_eq_true rfl) (fun w2 hQ => ?_)
  exact e_icmp_eq (pc := 1683) dL_law_1683 (t := 1774) (by decide) (fun _ => hK w2 hQ) (fun c => absurd (hr hE) c)
theorem lw_c40 {N i0 : Nat} {xs : Nat → Int32} {E : Prop} {w : mc_W} {kc ks : Nat} {Q : mc_W → Prop} (hN : N ≤ 3584) (hi : i0 + 7 ≤ N) (hE : E) (hj : jI yX6_clerksBy cX6_clerksBy 9 yX7_clerksBy cX7_clerksBy 9 0 0 E [.int (xs (i0 + 1)), .int (xs (i0 + 2)), .int (xs (i0 + 3)), .int (xs (i0 + 4))] w Q) (hk : kc ≤ 500000) (hs : ks ≤ 7000000) (hK : ∀ w2, Q w2 → mc_E R_law code 4 (mc_JL N xs) 1774 [some (.ref 1000300), some (.ref 0), some (.ref 29), some (.int (nI i0))] [] w2 (kc + 0) (ks + 0)) : mc_E R_law code 4 (mc_JL N xs) 1688 [some (.ref 1000300), some (.ref 0), some (.ref 29), some (.int (nI i0))] [] w kc ks := by
  obtain ⟨r1, r2, d1, d2, fs, h1, h2, hr, hw, hS⟩ := hj
  refine e_aloadn (pc := 1688) dL_law_1688 rfl ?_
  refine e_aloadn (pc := 1689) dL_law_1689 rfl ?_
  refine e_iloadn (pc := 1690) dL_law_1690 rfl ?_
  refine e_iconst (v := 1) (pc := 1691) dL_law_1691 (by decide) ?_
  refine e_iadd (pc := 1692) dL_law_1692 ?_
  refine e_sld (x := xs (i0 + 1)) (pc := 1693) dL_law_1693 (lw_vi (k := 1) rfl (by omega) hN) (lw_vx (k := 1) rfl (by omega) hN) ?_
  refine e_aloadn (pc := 1694) dL_law_1694 rfl ?_
  refine e_iloadn (pc := 1695) dL_law_1695 rfl ?_
  refine e_iconst (v := 2) (pc := 1696) dL_law_1696 (by decide) ?_
  refine e_iadd (pc := 1697) dL_law_1697 ?_
  refine e_sld (x := xs (i0 + 2)) (pc := 1698) dL_law_1698 (lw_vi (k := 2) rfl (by omega) hN) (lw_vx (k := 2) rfl (by omega) hN) ?_
  refine e_aloadn (pc := 1699) dL_law_1699 rfl ?_
  refine e_iloadn (pc := 1700) dL_law_1700 rfl ?_
  refine e_iconst (v := 3) (pc := 1701) dL_law_1701 (by decide) ?_
  refine e_iadd (pc := 1702) dL_law_1702 ?_
  refine e_sld (x := xs (i0 + 3)) (pc := 1703) dL_law_1703 (lw_vi (k := 3) rfl (by omega) hN) (lw_vx (k := 3) rfl (by omega) hN) ?_
  refine e_aloadn (pc := 1704) dL_law_1704 rfl ?_
  refine e_iloadn (pc := 1705) dL_law_1705 rfl ?_
  refine e_iconst (v := 4) (pc := 1706) dL_law_1706 (by decide) ?_
  refine e_iadd (pc := 1707) dL_law_1707 ?_
  refine e_sld (x := xs (i0 + 4)) (pc := 1708) dL_law_1708 (lw_vi (k := 4) rfl (by omega) hN) (lw_vx (k := 4) rfl (by omega) hN) ?_
  refine e_callV (pc := 1709) hS dL_law_1709 kL_183 hw rfl rfl rfl (lw_CR h1 (Nat.le_of_ble_eq_true rfl) (by omega) (by omega)) rfl (Nat.le_of_ble_eq_true rfl) (fun r w1 h => ?_)
  obtain ⟨rfl, ⟨fs1, hw1⟩, hT⟩ := h
  refine e_aloadn (pc := 1712) dL_law_1712 rfl ?_
  refine e_aloadn (pc := 1713) dL_law_1713 rfl ?_
  refine e_iloadn (pc := 1714) dL_law_1714 rfl ?_
  refine e_iconst (v := 1) (pc := 1715) dL_law_1715 (by decide) ?_
  refine e_iadd (pc := 1716) dL_law_1716 ?_
  refine e_sld (x := xs (i0 + 1)) (pc := 1717) dL_law_1717 (lw_vi (k := 1) rfl (by omega) hN) (lw_vx (k := 1) rfl (by omega) hN) ?_
  refine e_aloadn (pc := 1718) dL_law_1718 rfl ?_
  refine e_iloadn (pc := 1719) dL_law_1719 rfl ?_
  refine e_iconst (v := 2) (pc := 1720) dL_law_1720 (by decide) ?_
  refine e_iadd (pc := 1721) dL_law_1721 ?_
  refine e_sld (x := xs (i0 + 2)) (pc := 1722) dL_law_1722 (lw_vi (k := 2) rfl (by omega) hN) (lw_vx (k := 2) rfl (by omega) hN) ?_
  refine e_aloadn (pc := 1723) dL_law_1723 rfl ?_
  refine e_iloadn (pc := 1724) dL_law_1724 rfl ?_
  refine e_iconst (v := 3) (pc := 1725) dL_law_1725 (by decide) ?_
  refine e_iadd (pc := 1726) dL_law_1726 ?_
  refine e_sld (x := xs (i0 + 3)) (pc := 1727) dL_law_1727 (lw_vi (k := 3) rfl (by omega) hN) (lw_vx (k := 3) rfl (by omega) hN) ?_
  refine e_aloadn (pc := 1728) dL_law_1728 rfl ?_
  refine e_iloadn (pc := 1729) dL_law_1729 rfl ?_
  refine e_iconst (v := 4) (pc := 1730) dL_law_1730 (by decide) ?_
  refine e_iadd (pc := 1731) dL_law_1731 ?_
  refine e_sld (x := xs (i0 + 4)) (pc := 1732) dL_law_1732 (lw_vi (k := 4) rfl (by omega) hN) (lw_vx (k := 4) rfl (by omega) hN) ?_
  refine e_cvX (pc := 1733) hT dL_law_1733 kL_186 hw1 rfl rfl rfl rfl (lw_CR h2 (Nat.le_of_ble_eq_true rfl) (by omega) (by omega)) (Nat.le_of_ble_eq_true rfl) (fun w2 hQ => ?_)
  exact e_icmp_eq (pc := 1736) dL_law_1736 (t := 1774) (by decide) (fun _ => hK w2 hQ) (fun c => absurd (hr hE) c)
theorem lw_c41 {N i0 : Nat} {xs : Nat → Int32} {E : Prop} {w : mc_W} {kc ks : Nat} {Q : mc_W → Prop} (hN : N ≤ 3584) (hi : i0 + 7 ≤ N) (hE : E) (hj : jI yX6_taken cX6_taken 4 yX7_taken cX7_taken 5 0 0 E [.int (xs (i0 + 1)), .int (xs (i0 + 2))] w Q) (hk : kc ≤ 500000) (hs : ks ≤ 7000000) (hK : ∀ w2, Q w2 → mc_E R_law code 4 (mc_JL N xs) 1774 [some (.ref 1000300), some (.ref 0), some (.ref 29), some (.int (nI i0))] [] w2 (kc + 0) (ks + 0)) : mc_E R_law code 4 (mc_JL N xs) 1741 [some (.ref 1000300), some (.ref 0), some (.ref 29), some (.int (nI i0))] [] w kc ks := by
  obtain ⟨r1, r2, d1, d2, fs, h1, h2, hr, hw, hS⟩ := hj
  refine e_aloadn (pc := 1741) dL_law_1741 rfl ?_
  refine e_aloadn (pc := 1742) dL_law_1742 rfl ?_
  refine e_iloadn (pc := 1743) dL_law_1743 rfl ?_
  refine e_iconst (v := 1) (pc := 1744) dL_law_1744 (by decide) ?_
  refine e_iadd (pc := 1745) dL_law_1745 ?_
  refine e_sld (x := xs (i0 + 1)) (pc := 1746) dL_law_1746 (lw_vi (k := 1) rfl (by omega) hN) (lw_vx (k := 1) rfl (by omega) hN) ?_
  refine e_aloadn (pc := 1747) dL_law_1747 rfl ?_
  refine e_iloadn (pc := 1748) dL_law_1748 rfl ?_
  refine e_iconst (v := 2) (pc := 1749) dL_law_1749 (by decide) ?_
  refine e_iadd (pc := 1750) dL_law_1750 ?_
  refine e_sld (x := xs (i0 + 2)) (pc := 1751) dL_law_1751 (lw_vi (k := 2) rfl (by omega) hN) (lw_vx (k := 2) rfl (by omega) hN) ?_
  refine e_callV (pc := 1752) hS dL_law_1752 kL_187 hw rfl rfl rfl (lw_CR h1 (Nat.le_of_ble_eq_true rfl) (by omega) (by omega)) rfl (Nat.le_of_ble_eq_true rfl) (fun r w1 h => ?_)
  obtain ⟨rfl, ⟨fs1, hw1⟩, hT⟩ := h
  refine e_aloadn (pc := 1755) dL_law_1755 rfl ?_
  refine e_aloadn (pc := 1756) dL_law_1756 rfl ?_
  refine e_iloadn (pc := 1757) dL_law_1757 rfl ?_
  refine e_iconst (v := 1) (pc := 1758) dL_law_1758 (by decide) ?_
  refine e_iadd (pc := 1759) dL_law_1759 ?_
  refine e_sld (x := xs (i0 + 1)) (pc := 1760) dL_law_1760 (lw_vi (k := 1) rfl (by omega) hN) (lw_vx (k := 1) rfl (by omega) hN) ?_
  refine e_aloadn (pc := 1761) dL_law_1761 rfl ?_
  refine e_iloadn (pc := 1762) dL_law_1762 rfl ?_
  refine e_iconst (v := 2) (pc := 1763) dL_law_1763 (by decide) ?_
  refine e_iadd (pc := 1764) dL_law_1764 ?_
  refine e_sld (x := xs (i0 + 2)) (pc := 1765) dL_law_1765 (lw_vi (k := 2) rfl (by omega) hN) (lw_vx (k := 2) rfl (by omega) hN) ?_
  refine e_cvX (pc := 1766) hT dL_law_1766 kL_190 hw1 rfl rfl rfl rfl (lw_CR h2 (Nat.le_of_ble_eq_true rfl) (by omega) (by omega)) (Nat.le_of_ble_eq_true rfl) (fun w2 hQ => ?_)
  exact e_icmp_eq (pc := 1769) dL_law_1769 (t := 1774) (by decide) (fun _ => hK w2 hQ) (fun c => absurd (hr hE) c)
/-- each call of both sides, from a world; E: whether an answer of asks is asked for -/
def OPS (E : Prop) (w : mc_W) (Q : mc_W → Prop) : Prop :=
  (∀ a1 : Int32, jI yX6_count cX6_count 2 yX7_count cX7_count 2 0 0 True [.int a1] w Q) ∧
  (∀ a1 a2 : Int32, jI yX6_set cX6_set 4 yX7_set cX7_set 4 0 0 True [.int a1, .int a2] w Q) ∧
  (∀ a1 a2 a3 a4 a5 a6 : Int32, jI yX6_feed cX6_feed 7 yX7_feed cX7_feed 8 0 0 True [.int a1, .int a2, .int a3, .int a4, .int a5, .int a6] w Q) ∧
  (jI yX6_text cX6_text 3 yX7_text cX7_text 3 2 170 True [] w Q) ∧
  (∀ a1 : Int32, jI yX6_force cX6_force 3 yX7_force cX7_force 3 0 0 True [.int a1] w Q) ∧
  (∀ a1 a2 a3 a4 : Int32, jI yX6_asks cX6_asks 5 yX7_asks cX7_asks 5 0 0 E [.int a1, .int a2, .int a3, .int a4] w Q) ∧
  (∀ a1 a2 : Int32, jI yX6_clerk cX6_clerk 4 yX7_clerk cX7_clerk 3 0 0 True [.int a1, .int a2] w Q) ∧
  (∀ a1 a2 : Int32, jI yX6_told cX6_told 3 yX7_told cX7_told 3 0 0 True [.int a1, .int a2] w Q) ∧
  (∀ a1 a2 a3 : Int32, jI yX6_figure cX6_figure 5 yX7_figure cX7_figure 4 0 0 True [.int a1, .int a2, .int a3] w Q) ∧
  (∀ a1 a2 : Int32, jL yX6_reads cX6_reads 9 yX7_reads cX7_reads 5 0 0 True [.int a1, .int a2] w Q) ∧
  (∀ a1 a2 : Int32, jL yX6_plain cX6_plain 4 yX7_plain cX7_plain 3 0 0 True [.int a1, .int a2] w Q) ∧
  (∀ a1 a2 a3 : Int32, jL yX6_adds cX6_adds 5 yX7_adds cX7_adds 4 0 0 True [.int a1, .int a2, .int a3] w Q) ∧
  (∀ a1 a2 a3 : Int32, jI yX6_apart cX6_apart 8 yX7_apart cX7_apart 7 0 0 True [.int a1, .int a2, .int a3] w Q) ∧
  (∀ a1 a2 a3 : Int32, jL yX6_book cX6_book 13 yX7_book cX7_book 9 0 0 True [.int a1, .int a2, .int a3] w Q) ∧
  (∀ a1 a2 : Int32, jL yX6_who cX6_who 13 yX7_who cX7_who 11 0 0 True [.int a1, .int a2] w Q) ∧
  (∀ a1 a2 a3 : Int32, jL yX6_smuggled cX6_smuggled 15 yX7_smuggled cX7_smuggled 14 0 0 True [.int a1, .int a2, .int a3] w Q) ∧
  (∀ a1 a2 a3 : Int32, jL yX6_slip cX6_slip 14 yX7_slip cX7_slip 14 0 0 True [.int a1, .int a2, .int a3] w Q) ∧
  (∀ a1 a2 : Int32, jL yX6_sure cX6_sure 9 yX7_sure cX7_sure 6 0 0 True [.int a1, .int a2] w Q) ∧
  (∀ a1 a2 a3 : Int32, jI yX6_shortest cX6_shortest 11 yX7_shortest cX7_shortest 11 0 0 True [.int a1, .int a2, .int a3] w Q) ∧
  (∀ a1 a2 a3 : Int32, jI yX6_lend cX6_lend 5 yX7_lend cX7_lend 5 0 0 True [.int a1, .int a2, .int a3] w Q) ∧
  (∀ a1 a2 : Int32, jI yX6_debt cX6_debt 3 yX7_debt cX7_debt 3 0 0 True [.int a1, .int a2] w Q) ∧
  (∀ a1 a2 a3 : Int32, jI yX6_pay cX6_pay 7 yX7_pay cX7_pay 5 0 0 True [.int a1, .int a2, .int a3] w Q) ∧
  (jI yX6_rings cX6_rings 1 yX7_rings cX7_rings 1 0 0 True [] w Q) ∧
  (jI yX6_clear cX6_clear 1 yX7_clear cX7_clear 7 0 0 True [] w Q) ∧
  (∀ a1 : Int32, jI yX6_forgive cX6_forgive 7 yX7_forgive cX7_forgive 7 0 0 True [.int a1] w Q) ∧
  (∀ a1 a2 : Int32, jI yX6_span cX6_span 3 yX7_span cX7_span 3 0 0 True [.int a1, .int a2] w Q) ∧
  (∀ a1 a2 : Int32, jI yX6_behind cX6_behind 4 yX7_behind cX7_behind 4 0 0 True [.int a1, .int a2] w Q) ∧
  (∀ a1 a2 a3 : Int32, jI yX6_alike cX6_alike 10 yX7_alike cX7_alike 10 0 0 True [.int a1, .int a2, .int a3] w Q) ∧
  (∀ a1 a2 : Int32, jI yX6_judge cX6_judge 4 yX7_judge cX7_judge 4 0 0 True [.int a1, .int a2] w Q) ∧
  (∀ a1 a2 a3 : Int32, jI yX6_kinds cX6_kinds 9 yX7_kinds cX7_kinds 10 0 0 True [.int a1, .int a2, .int a3] w Q) ∧
  (∀ a1 : Int32, jI yX6_whose cX6_whose 5 yX7_whose cX7_whose 5 0 0 True [.int a1] w Q) ∧
  (∀ a1 a2 : Int32, jI yX6_laws cX6_laws 7 yX7_laws cX7_laws 7 0 0 True [.int a1, .int a2] w Q) ∧
  (∀ a1 a2 a3 a4 : Int32, jI yX6_film cX6_film 11 yX7_film cX7_film 10 0 0 True [.int a1, .int a2, .int a3, .int a4] w Q) ∧
  (∀ a1 a2 a3 : Int32, jL yX6_drawn cX6_drawn 6 yX7_drawn cX7_drawn 4 0 0 True [.int a1, .int a2, .int a3] w Q) ∧
  (∀ a1 a2 a3 a4 a5 : Int32, jL yX6_odds cX6_odds 13 yX7_odds cX7_odds 11 0 0 True [.int a1, .int a2, .int a3, .int a4, .int a5] w Q) ∧
  (jI yX6_image cX6_image 1 yX7_image cX7_image 2 0 0 True [] w Q) ∧
  (jI yX6_back cX6_back 1 yX7_back cX7_back 2 0 0 True [] w Q) ∧
  (∀ a1 a2 a3 : Int32, jI yX6_sheet cX6_sheet 5 yX7_sheet cX7_sheet 5 0 0 True [.int a1, .int a2, .int a3] w Q) ∧
  (∀ a1 a2 a3 : Int32, jI yX6_cell cX6_cell 6 yX7_cell cX7_cell 4 0 0 True [.int a1, .int a2, .int a3] w Q) ∧
  (∀ a1 a2 a3 a4 a5 : Int32, jI yX6_copy cX6_copy 8 yX7_copy cX7_copy 10 0 0 True [.int a1, .int a2, .int a3, .int a4, .int a5] w Q) ∧
  (∀ a1 a2 a3 a4 : Int32, jI yX6_clerksBy cX6_clerksBy 9 yX7_clerksBy cX7_clerksBy 9 0 0 True [.int a1, .int a2, .int a3, .int a4] w Q) ∧
  (∀ a1 a2 : Int32, jI yX6_taken cX6_taken 4 yX7_taken cX7_taken 5 0 0 True [.int a1, .int a2] w Q)
theorem lw_gt {N k : Nat} (hN : N ≤ 3584) (hk : k ≤ 600) : nI N - 7 < nI (7 * k) ↔ N < 7 * k + 7 := by
  rw [Int32.lt_iff_toInt_lt, show (7 : Int32) = nI 7 from rfl, pk_sub_toInt (by omega) (by omega), nI_toInt (by omega)]
  omega
theorem law_loop {N : Nat} {xs : Nat → Int32} {E : Prop} (h5 : E) {I : Nat → mc_W → Prop} (hN : N ≤ 3584) (hst : ∀ k w, I k w → I (k + 1) w) (hop : ∀ k w, 7 * k + 7 ≤ N → I k w → OPS E w (I (k + 1))) : ∀ (f k : Nat) (w : mc_W) (kc ks : Nat), N < 7 * k + 7 * f + 7 → 7 * k ≤ N + 7 → I k w → kc ≤ 100 + 2 * k → ks ≤ 4000 + 170 * k → mc_E R_law code 4 (mc_JL N xs) 18 [some (.ref 1000300), some (.ref 0), some (.ref 29), some (.int (nI (7 * k)))] [] w kc ks := by
  intro f
  induction f with
  | zero =>
    intro k w kc ks hf hk hI hc hs
    refine e_iloadn (pc := 18) dL_law_18 rfl ?_
    refine e_aloadn (pc := 19) dL_law_19 rfl ?_
    refine e_slen (pc := 20) dL_law_20 ?_
    refine e_bipush (v := 7) (pc := 21) dL_law_21 (by decide) ?_
    refine e_isub (pc := 23) dL_law_23 ?_
    refine e_icmp_gt (pc := 24) dL_law_24 (t := 1780) (by decide) (fun _ => ?_) (fun c => absurd ((lw_gt hN (by omega)).mpr (by omega)) c)
    refine e_iconst (v := 1) (pc := 1780) dL_law_1780 (by decide) ?_
    exact e_lawret (pc := 1781) dL_law_1781 (by omega) (by omega)
  | succ f ih =>
    intro k w kc ks hf hk hI hc hs
    refine e_iloadn (pc := 18) dL_law_18 rfl ?_
    refine e_aloadn (pc := 19) dL_law_19 rfl ?_
    refine e_slen (pc := 20) dL_law_20 ?_
    refine e_bipush (v := 7) (pc := 21) dL_law_21 (by decide) ?_
    refine e_isub (pc := 23) dL_law_23 ?_
    refine e_icmp_gt (pc := 24) dL_law_24 (t := 1780) (by decide) (fun _ => ?_) (fun c => ?_)
    · refine e_iconst (v := 1) (pc := 1780) dL_law_1780 (by decide) ?_
      exact e_lawret (pc := 1781) dL_law_1781 (by omega) (by omega)
    have hi : 7 * k + 7 ≤ N := by by_cases q : 7 * k + 7 ≤ N; exact q; exact absurd ((lw_gt hN (by omega)).mpr (by omega)) c
    have hop := hop k w hi hI
    refine e_aloadn (pc := 27) dL_law_27 rfl ?_
    refine e_iloadn (pc := 28) dL_law_28 rfl ?_
    refine e_sld (x := xs (7 * k)) (pc := 29) dL_law_29 (vp_in_nI (by omega) (by omega)) (by rw [nIc (by omega)]) ?_
    refine e_bipush (v := 63) (pc := 30) dL_law_30 (by decide) ?_
    refine e_iand (pc := 32) dL_law_32 ?_
    have hend : ∀ w2 kc2 ks2, I (k + 1) w2 → kc2 ≤ 100 + 2 * (k + 1) → ks2 ≤ 4000 + 170 * (k + 1) → mc_E R_law code 4 (mc_JL N xs) 1774 [some (.ref 1000300), some (.ref 0), some (.ref 29), some (.int (nI (7 * k)))] [] w2 kc2 ks2 := by
      intro w2 kc2 ks2 hQ g1 g2
      refine e_incC3 (pc := 1774) (v := nI (7 * (k + 1))) dL_law_1774 (by rw [show nI (7 * k) + Int32.ofInt 7 = nI (7 * k + 7) from nI_add _ 7]; rfl) (Nat.le_of_ble_eq_true rfl) rfl ?_
      refine e_goto (pc := 1777) dL_law_1777 (t := 18) (by decide) ?_
      exact ih (k + 1) w2 kc2 ks2 (by omega) (by omega) hQ g1 g2
    generalize xs (7 * k) &&& 63 = sx
    by_cases hs_0 : sx = 0
    · rw [hs_0]
      refine e_tabIn (pc := 33) (t := 216) dL_law_33 (by decide) (by decide) rfl (by decide) ?_
      exact lw_c0 hN (by omega) trivial (hop.1 (xs (7 * k + 1))) (by omega) (by omega) (fun w2 hQ => hend w2 _ _ hQ (by omega) (by omega))
    by_cases hs_1 : sx = 1
    · rw [hs_1]
      refine e_tabIn (pc := 33) (t := 239) dL_law_33 (by decide) (by decide) rfl (by decide) ?_
      exact lw_c1 hN (by omega) trivial (hop.2.1 (xs (7 * k + 1)) (xs (7 * k + 2))) (by omega) (by omega) (fun w2 hQ => hend w2 _ _ hQ (by omega) (by omega))
    by_cases hs_2 : sx = 2
    · rw [hs_2]
      refine e_tabIn (pc := 33) (t := 272) dL_law_33 (by decide) (by decide) rfl (by decide) ?_
      exact lw_c2 hN (by omega) trivial (hop.2.2.1 (xs (7 * k + 1)) (xs (7 * k + 2)) (xs (7 * k + 3)) (xs (7 * k + 4)) (xs (7 * k + 5)) (xs (7 * k + 6))) (by omega) (by omega) (fun w2 hQ => hend w2 _ _ hQ (by omega) (by omega))
    by_cases hs_3 : sx = 3
    · rw [hs_3]
      refine e_tabIn (pc := 33) (t := 347) dL_law_33 (by decide) (by decide) rfl (by decide) ?_
      exact lw_c3 hN (by omega) trivial (hop.2.2.2.1) (by omega) (by omega) (fun w2 hQ => hend w2 _ _ hQ (by omega) (by omega))
    by_cases hs_4 : sx = 4
    · rw [hs_4]
      refine e_tabIn (pc := 33) (t := 360) dL_law_33 (by decide) (by decide) rfl (by decide) ?_
      exact lw_c4 hN (by omega) trivial (hop.2.2.2.2.1 (xs (7 * k + 1))) (by omega) (by omega) (fun w2 hQ => hend w2 _ _ hQ (by omega) (by omega))
    by_cases hs_5 : sx = 5
    · rw [hs_5]
      refine e_tabIn (pc := 33) (t := 383) dL_law_33 (by decide) (by decide) rfl (by decide) ?_
      exact lw_c5 hN (by omega) h5 (hop.2.2.2.2.2.1 (xs (7 * k + 1)) (xs (7 * k + 2)) (xs (7 * k + 3)) (xs (7 * k + 4))) (by omega) (by omega) (fun w2 hQ => hend w2 _ _ hQ (by omega) (by omega))
    by_cases hs_6 : sx = 6
    · rw [hs_6]
      refine e_tabIn (pc := 33) (t := 436) dL_law_33 (by decide) (by decide) rfl (by decide) ?_
      exact lw_c6 hN (by omega) trivial (hop.2.2.2.2.2.2.1 (xs (7 * k + 1)) (xs (7 * k + 2))) (by omega) (by omega) (fun w2 hQ => hend w2 _ _ hQ (by omega) (by omega))
    by_cases hs_7 : sx = 7
    · rw [hs_7]
      refine e_tabIn (pc := 33) (t := 469) dL_law_33 (by decide) (by decide) rfl (by decide) ?_
      exact lw_c7 hN (by omega) trivial (hop.2.2.2.2.2.2.2.1 (xs (7 * k + 1)) (xs (7 * k + 2))) (by omega) (by omega) (fun w2 hQ => hend w2 _ _ hQ (by omega) (by omega))
    by_cases hs_8 : sx = 8
    · rw [hs_8]
      refine e_tabIn (pc := 33) (t := 502) dL_law_33 (by decide) (by decide) rfl (by decide) ?_
      exact lw_c8 hN (by omega) trivial (hop.2.2.2.2.2.2.2.2.1 (xs (7 * k + 1)) (xs (7 * k + 2)) (xs (7 * k + 3))) (by omega) (by omega) (fun w2 hQ => hend w2 _ _ hQ (by omega) (by omega))
    by_cases hs_9 : sx = 9
    · rw [hs_9]
      refine e_tabIn (pc := 33) (t := 545) dL_law_33 (by decide) (by decide) rfl (by decide) ?_
      exact lw_c9 hN (by omega) trivial (hop.2.2.2.2.2.2.2.2.2.1 (xs (7 * k + 1)) (xs (7 * k + 2))) (by omega) (by omega) (fun w2 hQ => hend w2 _ _ hQ (by omega) (by omega))
    by_cases hs_10 : sx = 10
    · rw [hs_10]
      refine e_tabIn (pc := 33) (t := 579) dL_law_33 (by decide) (by decide) rfl (by decide) ?_
      exact lw_c10 hN (by omega) trivial (hop.2.2.2.2.2.2.2.2.2.2.1 (xs (7 * k + 1)) (xs (7 * k + 2))) (by omega) (by omega) (fun w2 hQ => hend w2 _ _ hQ (by omega) (by omega))
    by_cases hs_11 : sx = 11
    · rw [hs_11]
      refine e_tabIn (pc := 33) (t := 613) dL_law_33 (by decide) (by decide) rfl (by decide) ?_
      exact lw_c11 hN (by omega) trivial (hop.2.2.2.2.2.2.2.2.2.2.2.1 (xs (7 * k + 1)) (xs (7 * k + 2)) (xs (7 * k + 3))) (by omega) (by omega) (fun w2 hQ => hend w2 _ _ hQ (by omega) (by omega))
    by_cases hs_12 : sx = 12
    · rw [hs_12]
      refine e_tabIn (pc := 33) (t := 657) dL_law_33 (by decide) (by decide) rfl (by decide) ?_
      exact lw_c12 hN (by omega) trivial (hop.2.2.2.2.2.2.2.2.2.2.2.2.1 (xs (7 * k + 1)) (xs (7 * k + 2)) (xs (7 * k + 3))) (by omega) (by omega) (fun w2 hQ => hend w2 _ _ hQ (by omega) (by omega))
    by_cases hs_13 : sx = 13
    · rw [hs_13]
      refine e_tabIn (pc := 33) (t := 700) dL_law_33 (by decide) (by decide) rfl (by decide) ?_
      exact lw_c13 hN (by omega) trivial (hop.2.2.2.2.2.2.2.2.2.2.2.2.2.1 (xs (7 * k + 1)) (xs (7 * k + 2)) (xs (7 * k + 3))) (by omega) (by omega) (fun w2 hQ => hend w2 _ _ hQ (by omega) (by omega))
    by_cases hs_14 : sx = 14
    · rw [hs_14]
      refine e_tabIn (pc := 33) (t := 744) dL_law_33 (by decide) (by decide) rfl (by decide) ?_
      exact lw_c14 hN (by omega) trivial (hop.2.2.2.2.2.2.2.2.2.2.2.2.2.2.1 (xs (7 * k + 1)) (xs (7 * k + 2))) (by omega) (by omega) (fun w2 hQ => hend w2 _ _ hQ (by omega) (by omega))
    by_cases hs_15 : sx = 15
    · rw [hs_15]
      refine e_tabIn (pc := 33) (t := 778) dL_law_33 (by decide) (by decide) rfl (by decide) ?_
      exact lw_c15 hN (by omega) trivial (hop.2.2.2.2.2.2.2.2.2.2.2.2.2.2.2.1 (xs (7 * k + 1)) (xs (7 * k + 2)) (xs (7 * k + 3))) (by omega) (by omega) (fun w2 hQ => hend w2 _ _ hQ (by omega) (by omega))
    by_cases hs_16 : sx = 16
    · rw [hs_16]
      refine e_tabIn (pc := 33) (t := 822) dL_law_33 (by decide) (by decide) rfl (by decide) ?_
      exact lw_c16 hN (by omega) trivial (hop.2.2.2.2.2.2.2.2.2.2.2.2.2.2.2.2.1 (xs (7 * k + 1)) (xs (7 * k + 2)) (xs (7 * k + 3))) (by omega) (by omega) (fun w2 hQ => hend w2 _ _ hQ (by omega) (by omega))
    by_cases hs_17 : sx = 17
    · rw [hs_17]
      refine e_tabIn (pc := 33) (t := 866) dL_law_33 (by decide) (by decide) rfl (by decide) ?_
      exact lw_c17 hN (by omega) trivial (hop.2.2.2.2.2.2.2.2.2.2.2.2.2.2.2.2.2.1 (xs (7 * k + 1)) (xs (7 * k + 2))) (by omega) (by omega) (fun w2 hQ => hend w2 _ _ hQ (by omega) (by omega))
    by_cases hs_18 : sx = 18
    · rw [hs_18]
      refine e_tabIn (pc := 33) (t := 900) dL_law_33 (by decide) (by decide) rfl (by decide) ?_
      exact lw_c18 hN (by omega) trivial (hop.2.2.2.2.2.2.2.2.2.2.2.2.2.2.2.2.2.2.1 (xs (7 * k + 1)) (xs (7 * k + 2)) (xs (7 * k + 3))) (by omega) (by omega) (fun w2 hQ => hend w2 _ _ hQ (by omega) (by omega))
    by_cases hs_19 : sx = 19
    · rw [hs_19]
      refine e_tabIn (pc := 33) (t := 943) dL_law_33 (by decide) (by decide) rfl (by decide) ?_
      exact lw_c19 hN (by omega) trivial (hop.2.2.2.2.2.2.2.2.2.2.2.2.2.2.2.2.2.2.2.1 (xs (7 * k + 1)) (xs (7 * k + 2)) (xs (7 * k + 3))) (by omega) (by omega) (fun w2 hQ => hend w2 _ _ hQ (by omega) (by omega))
    by_cases hs_20 : sx = 20
    · rw [hs_20]
      refine e_tabIn (pc := 33) (t := 986) dL_law_33 (by decide) (by decide) rfl (by decide) ?_
      exact lw_c20 hN (by omega) trivial (hop.2.2.2.2.2.2.2.2.2.2.2.2.2.2.2.2.2.2.2.2.1 (xs (7 * k + 1)) (xs (7 * k + 2))) (by omega) (by omega) (fun w2 hQ => hend w2 _ _ hQ (by omega) (by omega))
    by_cases hs_21 : sx = 21
    · rw [hs_21]
      refine e_tabIn (pc := 33) (t := 1019) dL_law_33 (by decide) (by decide) rfl (by decide) ?_
      exact lw_c21 hN (by omega) trivial (hop.2.2.2.2.2.2.2.2.2.2.2.2.2.2.2.2.2.2.2.2.2.1 (xs (7 * k + 1)) (xs (7 * k + 2)) (xs (7 * k + 3))) (by omega) (by omega) (fun w2 hQ => hend w2 _ _ hQ (by omega) (by omega))
    by_cases hs_22 : sx = 22
    · rw [hs_22]
      refine e_tabIn (pc := 33) (t := 1062) dL_law_33 (by decide) (by decide) rfl (by decide) ?_
      exact lw_c22 hN (by omega) trivial (hop.2.2.2.2.2.2.2.2.2.2.2.2.2.2.2.2.2.2.2.2.2.2.1) (by omega) (by omega) (fun w2 hQ => hend w2 _ _ hQ (by omega) (by omega))
    by_cases hs_23 : sx = 23
    · rw [hs_23]
      refine e_tabIn (pc := 33) (t := 1075) dL_law_33 (by decide) (by decide) rfl (by decide) ?_
      exact lw_c23 hN (by omega) trivial (hop.2.2.2.2.2.2.2.2.2.2.2.2.2.2.2.2.2.2.2.2.2.2.2.1) (by omega) (by omega) (fun w2 hQ => hend w2 _ _ hQ (by omega) (by omega))
    by_cases hs_24 : sx = 24
    · rw [hs_24]
      refine e_tabIn (pc := 33) (t := 1088) dL_law_33 (by decide) (by decide) rfl (by decide) ?_
      exact lw_c24 hN (by omega) trivial (hop.2.2.2.2.2.2.2.2.2.2.2.2.2.2.2.2.2.2.2.2.2.2.2.2.1 (xs (7 * k + 1))) (by omega) (by omega) (fun w2 hQ => hend w2 _ _ hQ (by omega) (by omega))
    by_cases hs_25 : sx = 25
    · rw [hs_25]
      refine e_tabIn (pc := 33) (t := 1111) dL_law_33 (by decide) (by decide) rfl (by decide) ?_
      exact lw_c25 hN (by omega) trivial (hop.2.2.2.2.2.2.2.2.2.2.2.2.2.2.2.2.2.2.2.2.2.2.2.2.2.1 (xs (7 * k + 1)) (xs (7 * k + 2))) (by omega) (by omega) (fun w2 hQ => hend w2 _ _ hQ (by omega) (by omega))
    by_cases hs_26 : sx = 26
    · rw [hs_26]
      refine e_tabIn (pc := 33) (t := 1144) dL_law_33 (by decide) (by decide) rfl (by decide) ?_
      exact lw_c26 hN (by omega) trivial (hop.2.2.2.2.2.2.2.2.2.2.2.2.2.2.2.2.2.2.2.2.2.2.2.2.2.2.1 (xs (7 * k + 1)) (xs (7 * k + 2))) (by omega) (by omega) (fun w2 hQ => hend w2 _ _ hQ (by omega) (by omega))
    by_cases hs_27 : sx = 27
    · rw [hs_27]
      refine e_tabIn (pc := 33) (t := 1177) dL_law_33 (by decide) (by decide) rfl (by decide) ?_
      exact lw_c27 hN (by omega) trivial (hop.2.2.2.2.2.2.2.2.2.2.2.2.2.2.2.2.2.2.2.2.2.2.2.2.2.2.2.1 (xs (7 * k + 1)) (xs (7 * k + 2)) (xs (7 * k + 3))) (by omega) (by omega) (fun w2 hQ => hend w2 _ _ hQ (by omega) (by omega))
    by_cases hs_28 : sx = 28
    · rw [hs_28]
      refine e_tabIn (pc := 33) (t := 1220) dL_law_33 (by decide) (by decide) rfl (by decide) ?_
      exact lw_c28 hN (by omega) trivial (hop.2.2.2.2.2.2.2.2.2.2.2.2.2.2.2.2.2.2.2.2.2.2.2.2.2.2.2.2.1 (xs (7 * k + 1)) (xs (7 * k + 2))) (by omega) (by omega) (fun w2 hQ => hend w2 _ _ hQ (by omega) (by omega))
    by_cases hs_29 : sx = 29
    · rw [hs_29]
      refine e_tabIn (pc := 33) (t := 1253) dL_law_33 (by decide) (by decide) rfl (by decide) ?_
      exact lw_c29 hN (by omega) trivial (hop.2.2.2.2.2.2.2.2.2.2.2.2.2.2.2.2.2.2.2.2.2.2.2.2.2.2.2.2.2.1 (xs (7 * k + 1)) (xs (7 * k + 2)) (xs (7 * k + 3))) (by omega) (by omega) (fun w2 hQ => hend w2 _ _ hQ (by omega) (by omega))
    by_cases hs_30 : sx = 30
    · rw [hs_30]
      refine e_tabIn (pc := 33) (t := 1296) dL_law_33 (by decide) (by decide) rfl (by decide) ?_
      exact lw_c30 hN (by omega) trivial (hop.2.2.2.2.2.2.2.2.2.2.2.2.2.2.2.2.2.2.2.2.2.2.2.2.2.2.2.2.2.2.1 (xs (7 * k + 1))) (by omega) (by omega) (fun w2 hQ => hend w2 _ _ hQ (by omega) (by omega))
    by_cases hs_31 : sx = 31
    · rw [hs_31]
      refine e_tabIn (pc := 33) (t := 1319) dL_law_33 (by decide) (by decide) rfl (by decide) ?_
      exact lw_c31 hN (by omega) trivial (hop.2.2.2.2.2.2.2.2.2.2.2.2.2.2.2.2.2.2.2.2.2.2.2.2.2.2.2.2.2.2.2.1 (xs (7 * k + 1)) (xs (7 * k + 2))) (by omega) (by omega) (fun w2 hQ => hend w2 _ _ hQ (by omega) (by omega))
    by_cases hs_32 : sx = 32
    · rw [hs_32]
      refine e_tabIn (pc := 33) (t := 1352) dL_law_33 (by decide) (by decide) rfl (by decide) ?_
      exact lw_c32 hN (by omega) trivial (hop.2.2.2.2.2.2.2.2.2.2.2.2.2.2.2.2.2.2.2.2.2.2.2.2.2.2.2.2.2.2.2.2.1 (xs (7 * k + 1)) (xs (7 * k + 2)) (xs (7 * k + 3)) (xs (7 * k + 4))) (by omega) (by omega) (fun w2 hQ => hend w2 _ _ hQ (by omega) (by omega))
    by_cases hs_33 : sx = 33
    · rw [hs_33]
      refine e_tabIn (pc := 33) (t := 1405) dL_law_33 (by decide) (by decide) rfl (by decide) ?_
      exact lw_c33 hN (by omega) trivial (hop.2.2.2.2.2.2.2.2.2.2.2.2.2.2.2.2.2.2.2.2.2.2.2.2.2.2.2.2.2.2.2.2.2.1 (xs (7 * k + 1)) (xs (7 * k + 2)) (xs (7 * k + 3))) (by omega) (by omega) (fun w2 hQ => hend w2 _ _ hQ (by omega) (by omega))
    by_cases hs_34 : sx = 34
    · rw [hs_34]
      refine e_tabIn (pc := 33) (t := 1449) dL_law_33 (by decide) (by decide) rfl (by decide) ?_
      exact lw_c34 hN (by omega) trivial (hop.2.2.2.2.2.2.2.2.2.2.2.2.2.2.2.2.2.2.2.2.2.2.2.2.2.2.2.2.2.2.2.2.2.2.1 (xs (7 * k + 1)) (xs (7 * k + 2)) (xs (7 * k + 3)) (xs (7 * k + 4)) (xs (7 * k + 5))) (by omega) (by omega) (fun w2 hQ => hend w2 _ _ hQ (by omega) (by omega))
    by_cases hs_35 : sx = 35
    · rw [hs_35]
      refine e_tabIn (pc := 33) (t := 1513) dL_law_33 (by decide) (by decide) rfl (by decide) ?_
      exact lw_c35 hN (by omega) trivial (hop.2.2.2.2.2.2.2.2.2.2.2.2.2.2.2.2.2.2.2.2.2.2.2.2.2.2.2.2.2.2.2.2.2.2.2.1) (by omega) (by omega) (fun w2 hQ => hend w2 _ _ hQ (by omega) (by omega))
    by_cases hs_36 : sx = 36
    · rw [hs_36]
      refine e_tabIn (pc := 33) (t := 1526) dL_law_33 (by decide) (by decide) rfl (by decide) ?_
      exact lw_c36 hN (by omega) trivial (hop.2.2.2.2.2.2.2.2.2.2.2.2.2.2.2.2.2.2.2.2.2.2.2.2.2.2.2.2.2.2.2.2.2.2.2.2.1) (by omega) (by omega) (fun w2 hQ => hend w2 _ _ hQ (by omega) (by omega))
    by_cases hs_37 : sx = 37
    · rw [hs_37]
      refine e_tabIn (pc := 33) (t := 1539) dL_law_33 (by decide) (by decide) rfl (by decide) ?_
      exact lw_c37 hN (by omega) trivial (hop.2.2.2.2.2.2.2.2.2.2.2.2.2.2.2.2.2.2.2.2.2.2.2.2.2.2.2.2.2.2.2.2.2.2.2.2.2.1 (xs (7 * k + 1)) (xs (7 * k + 2)) (xs (7 * k + 3))) (by omega) (by omega) (fun w2 hQ => hend w2 _ _ hQ (by omega) (by omega))
    by_cases hs_38 : sx = 38
    · rw [hs_38]
      refine e_tabIn (pc := 33) (t := 1582) dL_law_33 (by decide) (by decide) rfl (by decide) ?_
      exact lw_c38 hN (by omega) trivial (hop.2.2.2.2.2.2.2.2.2.2.2.2.2.2.2.2.2.2.2.2.2.2.2.2.2.2.2.2.2.2.2.2.2.2.2.2.2.2.1 (xs (7 * k + 1)) (xs (7 * k + 2)) (xs (7 * k + 3))) (by omega) (by omega) (fun w2 hQ => hend w2 _ _ hQ (by omega) (by omega))
    by_cases hs_39 : sx = 39
    · rw [hs_39]
      refine e_tabIn (pc := 33) (t := 1625) dL_law_33 (by decide) (by decide) rfl (by decide) ?_
      exact lw_c39 hN (by omega) trivial (hop.2.2.2.2.2.2.2.2.2.2.2.2.2.2.2.2.2.2.2.2.2.2.2.2.2.2.2.2.2.2.2.2.2.2.2.2.2.2.2.1 (xs (7 * k + 1)) (xs (7 * k + 2)) (xs (7 * k + 3)) (xs (7 * k + 4)) (xs (7 * k + 5))) (by omega) (by omega) (fun w2 hQ => hend w2 _ _ hQ (by omega) (by omega))
    by_cases hs_40 : sx = 40
    · rw [hs_40]
      refine e_tabIn (pc := 33) (t := 1688) dL_law_33 (by decide) (by decide) rfl (by decide) ?_
      exact lw_c40 hN (by omega) trivial (hop.2.2.2.2.2.2.2.2.2.2.2.2.2.2.2.2.2.2.2.2.2.2.2.2.2.2.2.2.2.2.2.2.2.2.2.2.2.2.2.2.1 (xs (7 * k + 1)) (xs (7 * k + 2)) (xs (7 * k + 3)) (xs (7 * k + 4))) (by omega) (by omega) (fun w2 hQ => hend w2 _ _ hQ (by omega) (by omega))
    by_cases hs_41 : sx = 41
    · rw [hs_41]
      refine e_tabIn (pc := 33) (t := 1741) dL_law_33 (by decide) (by decide) rfl (by decide) ?_
      exact lw_c41 hN (by omega) trivial (hop.2.2.2.2.2.2.2.2.2.2.2.2.2.2.2.2.2.2.2.2.2.2.2.2.2.2.2.2.2.2.2.2.2.2.2.2.2.2.2.2.2 (xs (7 * k + 1)) (xs (7 * k + 2))) (by omega) (by omega) (fun w2 hQ => hend w2 _ _ hQ (by omega) (by omega))
    refine e_tabOut (pc := 33) (t := 1774) dL_law_33 (mc_tabout (by decide) (fun z h1 h2 => ?_)) (by decide) ?_
    · rcases (show z = 0 ∨ z = 1 ∨ z = 2 ∨ z = 3 ∨ z = 4 ∨ z = 5 ∨ z = 6 ∨ z = 7 ∨ z = 8 ∨ z = 9 ∨ z = 10 ∨ z = 11 ∨ z = 12 ∨ z = 13 ∨ z = 14 ∨ z = 15 ∨ z = 16 ∨ z = 17 ∨ z = 18 ∨ z = 19 ∨ z = 20 ∨ z = 21 ∨ z = 22 ∨ z = 23 ∨ z = 24 ∨ z = 25 ∨ z = 26 ∨ z = 27 ∨ z = 28 ∨ z = 29 ∨ z = 30 ∨ z = 31 ∨ z = 32 ∨ z = 33 ∨ z = 34 ∨ z = 35 ∨ z = 36 ∨ z = 37 ∨ z = 38 ∨ z = 39 ∨ z = 40 ∨ z = 41 by omega) with rfl | rfl | rfl | rfl | rfl | rfl | rfl | rfl | rfl | rfl | rfl | rfl | rfl | rfl | rfl | rfl | rfl | rfl | rfl | rfl | rfl | rfl | rfl | rfl | rfl | rfl | rfl | rfl | rfl | rfl | rfl | rfl | rfl | rfl | rfl | rfl | rfl | rfl | rfl | rfl | rfl | rfl <;> assumption
    · exact hend w kc ks (hst k w hI) (by omega) (by omega)
