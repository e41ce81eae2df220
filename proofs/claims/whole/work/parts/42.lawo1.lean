/-! the law, call by call -/
section LAWO
variable {X : ab_X} {l : Launch} {VX VM : ab_V} {b L : Nat} {ss : Nat → Int32} {cs sl k : Nat} {x m : ab_mem}
set_option maxRecDepth 20000 in
theorem kL_X7_type : KV RL wsL_law room_1 13 RX7 yX7_type wsX7_type rm_X7_type 2 := ⟨_, _, _, _, gL_law_X7_type, rfl, rfl, rfl, by decide +kernel, by decide⟩
set_option maxRecDepth 20000 in
theorem kL_X8_type : KV RL wsL_law room_1 17 RX8 yX8_type wsX8_type rm_X8_type 2 := ⟨_, _, _, _, gL_law_X8_type, rfl, rfl, rfl, by decide +kernel, by decide⟩
set_option maxHeartbeats 4000000 in
set_option maxRecDepth 100000 in
theorem lo_type (K : LC X l room_1 VX VM b L ss cs sl) (hk : k + 6 ≤ L) (h : RR x m) (nx : ∀ x2 m2, RR x2 m2 → GJ X (LPh X VX VM x2 m2) 4 1248 (lL b VX VM k) [] cs sl) : GJ X (LPh X VX VM x m) 4 184 (lL b VX VM k) [] cs sl := by
  obtain ⟨PX, PM, c1, c2, c3⟩ := op_type (l := l) K.2.2.1.1 K.2.2.1.2 h (ss (nI k + 1).toNatClampNeg) (ss (nI k + 2).toNatClampNeg)
  refine g_aload_n K.1.1 dL_law_184 rfl ?_
  refine g_aload_n K.1.1 dL_law_185 rfl ?_
  refine g_iload_n K.1.1 dL_law_186 rfl ?_
  refine g_iconst (v := 1) K.1.1 dL_law_187 (by decide) ?_
  refine g_iadd K.1.1 dL_law_188 ?_
  refine L_sld K (L_in K hk 1 (by decide)) dL_law_189 ?_
  refine g_aload_n K.1.1 dL_law_190 rfl ?_
  refine g_iload_n K.1.1 dL_law_191 rfl ?_
  refine g_iconst (v := 2) K.1.1 dL_law_192 (by decide) ?_
  refine g_iadd K.1.1 dL_law_193 ?_
  refine L_sld K (L_in K hk 2 (by decide)) dL_law_194 ?_
  refine L_callXi K kL_X7_type c1 rfl rfl (Nat.le_of_ble_eq_true rfl) dL_law_195 (fun r1 x2 p1 => ?_)
  refine g_aload_n K.1.1 dL_law_198 rfl ?_
  refine g_aload_n K.1.1 dL_law_199 rfl ?_
  refine g_iload_n K.1.1 dL_law_200 rfl ?_
  refine g_iconst (v := 1) K.1.1 dL_law_201 (by decide) ?_
  refine g_iadd K.1.1 dL_law_202 ?_
  refine L_sld K (L_in K hk 1 (by decide)) dL_law_203 ?_
  refine g_aload_n K.1.1 dL_law_204 rfl ?_
  refine g_iload_n K.1.1 dL_law_205 rfl ?_
  refine g_iconst (v := 2) K.1.1 dL_law_206 (by decide) ?_
  refine g_iadd K.1.1 dL_law_207 ?_
  refine L_sld K (L_in K hk 2 (by decide)) dL_law_208 ?_
  refine L_callMi K kL_X8_type c2 rfl rfl (Nat.le_of_ble_eq_true rfl) dL_law_209 (fun r2 m2 p2 => ?_)
  obtain ⟨e, hR⟩ := c3 _ _ _ _ p1 p2
  exact g_icmp_eq_t (tgt := 1248) K.1.1 dL_law_212 (by decide) e (nx _ _ hR)
set_option maxRecDepth 20000 in
theorem kL_X7_wipe : KV RL wsL_law room_1 18 RX7 yX7_wipe wsX7_wipe rm_X7_wipe 1 := ⟨_, _, _, _, gL_law_X7_wipe, rfl, rfl, rfl, by decide +kernel, by decide⟩
set_option maxRecDepth 20000 in
theorem kL_X8_wipe : KV RL wsL_law room_1 22 RX8 yX8_wipe wsX8_wipe rm_X8_wipe 1 := ⟨_, _, _, _, gL_law_X8_wipe, rfl, rfl, rfl, by decide +kernel, by decide⟩
set_option maxHeartbeats 4000000 in
set_option maxRecDepth 100000 in
theorem lo_wipe (K : LC X l room_1 VX VM b L ss cs sl) (hk : k + 6 ≤ L) (h : RR x m) (nx : ∀ x2 m2, RR x2 m2 → GJ X (LPh X VX VM x2 m2) 4 1248 (lL b VX VM k) [] cs sl) : GJ X (LPh X VX VM x m) 4 217 (lL b VX VM k) [] cs sl := by
  obtain ⟨PX, PM, c1, c2, c3⟩ := op_wipe (l := l) K.2.2.1.1 K.2.2.1.2 h (ss (nI k + 1).toNatClampNeg)
  refine g_aload_n K.1.1 dL_law_217 rfl ?_
  refine g_aload_n K.1.1 dL_law_218 rfl ?_
  refine g_iload_n K.1.1 dL_law_219 rfl ?_
  refine g_iconst (v := 1) K.1.1 dL_law_220 (by decide) ?_
  refine g_iadd K.1.1 dL_law_221 ?_
  refine L_sld K (L_in K hk 1 (by decide)) dL_law_222 ?_
  refine L_callXi K kL_X7_wipe c1 rfl rfl (Nat.le_of_ble_eq_true rfl) dL_law_223 (fun r1 x2 p1 => ?_)
  refine g_aload_n K.1.1 dL_law_226 rfl ?_
  refine g_aload_n K.1.1 dL_law_227 rfl ?_
  refine g_iload_n K.1.1 dL_law_228 rfl ?_
  refine g_iconst (v := 1) K.1.1 dL_law_229 (by decide) ?_
  refine g_iadd K.1.1 dL_law_230 ?_
  refine L_sld K (L_in K hk 1 (by decide)) dL_law_231 ?_
  refine L_callMi K kL_X8_wipe c2 rfl rfl (Nat.le_of_ble_eq_true rfl) dL_law_232 (fun r2 m2 p2 => ?_)
  obtain ⟨e, hR⟩ := c3 _ _ _ _ p1 p2
  exact g_icmp_eq_t (tgt := 1248) K.1.1 dL_law_235 (by decide) e (nx _ _ hR)
set_option maxRecDepth 20000 in
theorem kL_X7_fault : KV RL wsL_law room_1 23 RX7 yX7_fault wsX7_fault rm_X7_fault 1 := ⟨_, _, _, _, gL_law_X7_fault, rfl, rfl, rfl, by decide +kernel, by decide⟩
set_option maxRecDepth 20000 in
theorem kL_X8_fault : KV RL wsL_law room_1 26 RX8 yX8_fault wsX8_fault rm_X8_fault 1 := ⟨_, _, _, _, gL_law_X8_fault, rfl, rfl, rfl, by decide +kernel, by decide⟩
set_option maxHeartbeats 4000000 in
set_option maxRecDepth 100000 in
theorem lo_fault (K : LC X l room_1 VX VM b L ss cs sl) (hk : k + 6 ≤ L) (h : RR x m) (nx : ∀ x2 m2, RR x2 m2 → GJ X (LPh X VX VM x2 m2) 4 1248 (lL b VX VM k) [] cs sl) : GJ X (LPh X VX VM x m) 4 240 (lL b VX VM k) [] cs sl := by
  obtain ⟨PX, PM, c1, c2, c3⟩ := op_fault (l := l) K.2.2.1.1 K.2.2.1.2 h (ss (nI k + 1).toNatClampNeg)
  refine g_aload_n K.1.1 dL_law_240 rfl ?_
  refine g_aload_n K.1.1 dL_law_241 rfl ?_
  refine g_iload_n K.1.1 dL_law_242 rfl ?_
  refine g_iconst (v := 1) K.1.1 dL_law_243 (by decide) ?_
  refine g_iadd K.1.1 dL_law_244 ?_
  refine L_sld K (L_in K hk 1 (by decide)) dL_law_245 ?_
  refine L_callXi K kL_X7_fault c1 rfl rfl (Nat.le_of_ble_eq_true rfl) dL_law_246 (fun r1 x2 p1 => ?_)
  refine g_aload_n K.1.1 dL_law_249 rfl ?_
  refine g_aload_n K.1.1 dL_law_250 rfl ?_
  refine g_iload_n K.1.1 dL_law_251 rfl ?_
  refine g_iconst (v := 1) K.1.1 dL_law_252 (by decide) ?_
  refine g_iadd K.1.1 dL_law_253 ?_
  refine L_sld K (L_in K hk 1 (by decide)) dL_law_254 ?_
  refine L_callMi K kL_X8_fault c2 rfl rfl (Nat.le_of_ble_eq_true rfl) dL_law_255 (fun r2 m2 p2 => ?_)
  obtain ⟨e, hR⟩ := c3 _ _ _ _ p1 p2
  exact g_icmp_eq_t (tgt := 1248) K.1.1 dL_law_258 (by decide) e (nx _ _ hR)
set_option maxRecDepth 20000 in
theorem kL_X7_undo : KV RL wsL_law room_1 27 RX7 yX7_undo wsX7_undo rm_X7_undo 1 := ⟨_, _, _, _, gL_law_X7_undo, rfl, rfl, rfl, by decide +kernel, by decide⟩
set_option maxRecDepth 20000 in
theorem kL_X8_undo : KV RL wsL_law room_1 30 RX8 yX8_undo wsX8_undo rm_X8_undo 1 := ⟨_, _, _, _, gL_law_X8_undo, rfl, rfl, rfl, by decide +kernel, by decide⟩
set_option maxHeartbeats 4000000 in
set_option maxRecDepth 100000 in
theorem lo_undo (K : LC X l room_1 VX VM b L ss cs sl) (hk : k + 6 ≤ L) (h : RR x m) (nx : ∀ x2 m2, RR x2 m2 → GJ X (LPh X VX VM x2 m2) 4 1248 (lL b VX VM k) [] cs sl) : GJ X (LPh X VX VM x m) 4 263 (lL b VX VM k) [] cs sl := by
  obtain ⟨PX, PM, c1, c2, c3⟩ := op_undo (l := l) K.2.2.1.1 K.2.2.1.2 h (ss (nI k + 1).toNatClampNeg)
  refine g_aload_n K.1.1 dL_law_263 rfl ?_
  refine g_aload_n K.1.1 dL_law_264 rfl ?_
  refine g_iload_n K.1.1 dL_law_265 rfl ?_
  refine g_iconst (v := 1) K.1.1 dL_law_266 (by decide) ?_
  refine g_iadd K.1.1 dL_law_267 ?_
  refine L_sld K (L_in K hk 1 (by decide)) dL_law_268 ?_
  refine L_callXi K kL_X7_undo c1 rfl rfl (Nat.le_of_ble_eq_true rfl) dL_law_269 (fun r1 x2 p1 => ?_)
  refine g_aload_n K.1.1 dL_law_272 rfl ?_
  refine g_aload_n K.1.1 dL_law_273 rfl ?_
  refine g_iload_n K.1.1 dL_law_274 rfl ?_
  refine g_iconst (v := 1) K.1.1 dL_law_275 (by decide) ?_
  refine g_iadd K.1.1 dL_law_276 ?_
  refine L_sld K (L_in K hk 1 (by decide)) dL_law_277 ?_
  refine L_callMi K kL_X8_undo c2 rfl rfl (Nat.le_of_ble_eq_true rfl) dL_law_278 (fun r2 m2 p2 => ?_)
  obtain ⟨e, hR⟩ := c3 _ _ _ _ p1 p2
  exact g_icmp_eq_t (tgt := 1248) K.1.1 dL_law_281 (by decide) e (nx _ _ hR)
set_option maxRecDepth 20000 in
theorem kL_X7_calm : KV RL wsL_law room_1 31 RX7 yX7_calm wsX7_calm rm_X7_calm 2 := ⟨_, _, _, _, gL_law_X7_calm, rfl, rfl, rfl, by decide +kernel, by decide⟩
set_option maxRecDepth 20000 in
theorem kL_X8_calm : KV RL wsL_law room_1 34 RX8 yX8_calm wsX8_calm rm_X8_calm 2 := ⟨_, _, _, _, gL_law_X8_calm, rfl, rfl, rfl, by decide +kernel, by decide⟩
set_option maxHeartbeats 4000000 in
set_option maxRecDepth 100000 in
theorem lo_calm (K : LC X l room_1 VX VM b L ss cs sl) (hk : k + 6 ≤ L) (h : RR x m) (nx : ∀ x2 m2, RR x2 m2 → GJ X (LPh X VX VM x2 m2) 4 1248 (lL b VX VM k) [] cs sl) : GJ X (LPh X VX VM x m) 4 286 (lL b VX VM k) [] cs sl := by
  obtain ⟨PX, PM, c1, c2, c3⟩ := op_calm (l := l) K.2.2.1.1 K.2.2.1.2 h (ss (nI k + 1).toNatClampNeg) (ss (nI k + 2).toNatClampNeg)
  refine g_aload_n K.1.1 dL_law_286 rfl ?_
  refine g_aload_n K.1.1 dL_law_287 rfl ?_
  refine g_iload_n K.1.1 dL_law_288 rfl ?_
  refine g_iconst (v := 1) K.1.1 dL_law_289 (by decide) ?_
  refine g_iadd K.1.1 dL_law_290 ?_
  refine L_sld K (L_in K hk 1 (by decide)) dL_law_291 ?_
  refine g_aload_n K.1.1 dL_law_292 rfl ?_
  refine g_iload_n K.1.1 dL_law_293 rfl ?_
  refine g_iconst (v := 2) K.1.1 dL_law_294 (by decide) ?_
  refine g_iadd K.1.1 dL_law_295 ?_
  refine L_sld K (L_in K hk 2 (by decide)) dL_law_296 ?_
  refine L_callXi K kL_X7_calm c1 rfl rfl (Nat.le_of_ble_eq_true rfl) dL_law_297 (fun r1 x2 p1 => ?_)
  refine g_aload_n K.1.1 dL_law_300 rfl ?_
  refine g_aload_n K.1.1 dL_law_301 rfl ?_
  refine g_iload_n K.1.1 dL_law_302 rfl ?_
  refine g_iconst (v := 1) K.1.1 dL_law_303 (by decide) ?_
  refine g_iadd K.1.1 dL_law_304 ?_
  refine L_sld K (L_in K hk 1 (by decide)) dL_law_305 ?_
  refine g_aload_n K.1.1 dL_law_306 rfl ?_
  refine g_iload_n K.1.1 dL_law_307 rfl ?_
  refine g_iconst (v := 2) K.1.1 dL_law_308 (by decide) ?_
  refine g_iadd K.1.1 dL_law_309 ?_
  refine L_sld K (L_in K hk 2 (by decide)) dL_law_310 ?_
  refine L_callMi K kL_X8_calm c2 rfl rfl (Nat.le_of_ble_eq_true rfl) dL_law_311 (fun r2 m2 p2 => ?_)
  obtain ⟨e, hR⟩ := c3 _ _ _ _ p1 p2
  exact g_icmp_eq_t (tgt := 1248) K.1.1 dL_law_314 (by decide) e (nx _ _ hR)
set_option maxRecDepth 20000 in
theorem kL_X7_does : KV RL wsL_law room_1 35 RX7 yX7_does wsX7_does rm_X7_does 2 := ⟨_, _, _, _, gL_law_X7_does, rfl, rfl, rfl, by decide +kernel, by decide⟩
set_option maxRecDepth 20000 in
theorem kL_X8_does : KV RL wsL_law room_1 38 RX8 yX8_does wsX8_does rm_X8_does 2 := ⟨_, _, _, _, gL_law_X8_does, rfl, rfl, rfl, by decide +kernel, by decide⟩
set_option maxHeartbeats 4000000 in
set_option maxRecDepth 100000 in
theorem lo_does (K : LC X l room_1 VX VM b L ss cs sl) (hk : k + 6 ≤ L) (h : RR x m) (nx : ∀ x2 m2, RR x2 m2 → GJ X (LPh X VX VM x2 m2) 4 1248 (lL b VX VM k) [] cs sl) : GJ X (LPh X VX VM x m) 4 319 (lL b VX VM k) [] cs sl := by
  obtain ⟨PX, PM, c1, c2, c3⟩ := op_does (l := l) K.2.2.1.1 K.2.2.1.2 h (ss (nI k + 1).toNatClampNeg) (ss (nI k + 2).toNatClampNeg)
  refine g_aload_n K.1.1 dL_law_319 rfl ?_
  refine g_aload_n K.1.1 dL_law_320 rfl ?_
  refine g_iload_n K.1.1 dL_law_321 rfl ?_
  refine g_iconst (v := 1) K.1.1 dL_law_322 (by decide) ?_
  refine g_iadd K.1.1 dL_law_323 ?_
  refine L_sld K (L_in K hk 1 (by decide)) dL_law_324 ?_
  refine g_aload_n K.1.1 dL_law_325 rfl ?_
  refine g_iload_n K.1.1 dL_law_326 rfl ?_
  refine g_iconst (v := 2) K.1.1 dL_law_327 (by decide) ?_
  refine g_iadd K.1.1 dL_law_328 ?_
  refine L_sld K (L_in K hk 2 (by decide)) dL_law_329 ?_
  refine L_callXi K kL_X7_does c1 rfl rfl (Nat.le_of_ble_eq_true rfl) dL_law_330 (fun r1 x2 p1 => ?_)
  refine g_aload_n K.1.1 dL_law_333 rfl ?_
  refine g_aload_n K.1.1 dL_law_334 rfl ?_
  refine g_iload_n K.1.1 dL_law_335 rfl ?_
  refine g_iconst (v := 1) K.1.1 dL_law_336 (by decide) ?_
  refine g_iadd K.1.1 dL_law_337 ?_
  refine L_sld K (L_in K hk 1 (by decide)) dL_law_338 ?_
  refine g_aload_n K.1.1 dL_law_339 rfl ?_
  refine g_iload_n K.1.1 dL_law_340 rfl ?_
  refine g_iconst (v := 2) K.1.1 dL_law_341 (by decide) ?_
  refine g_iadd K.1.1 dL_law_342 ?_
  refine L_sld K (L_in K hk 2 (by decide)) dL_law_343 ?_
  refine L_callMi K kL_X8_does c2 rfl rfl (Nat.le_of_ble_eq_true rfl) dL_law_344 (fun r2 m2 p2 => ?_)
  obtain ⟨e, hR⟩ := c3 _ _ _ _ p1 p2
  exact g_icmp_eq_t (tgt := 1248) K.1.1 dL_law_347 (by decide) e (nx _ _ hR)
set_option maxRecDepth 20000 in
theorem kL_X7_set : KV RL wsL_law room_1 39 RX7 yX7_set wsX7_set rm_X7_set 2 := ⟨_, _, _, _, gL_law_X7_set, rfl, rfl, rfl, by decide +kernel, by decide⟩
set_option maxRecDepth 20000 in
theorem kL_X8_set : KV RL wsL_law room_1 42 RX8 yX8_set wsX8_set rm_X8_set 2 := ⟨_, _, _, _, gL_law_X8_set, rfl, rfl, rfl, by decide +kernel, by decide⟩
set_option maxHeartbeats 4000000 in
set_option maxRecDepth 100000 in
theorem lo_set (K : LC X l room_1 VX VM b L ss cs sl) (hk : k + 6 ≤ L) (h : RR x m) (nx : ∀ x2 m2, RR x2 m2 → GJ X (LPh X VX VM x2 m2) 4 1248 (lL b VX VM k) [] cs sl) : GJ X (LPh X VX VM x m) 4 352 (lL b VX VM k) [] cs sl := by
  obtain ⟨PX, PM, c1, c2, c3⟩ := op_set (l := l) K.2.2.1.1 K.2.2.1.2 h (ss (nI k + 1).toNatClampNeg) (ss (nI k + 2).toNatClampNeg)
  refine g_aload_n K.1.1 dL_law_352 rfl ?_
  refine g_aload_n K.1.1 dL_law_353 rfl ?_
  refine g_iload_n K.1.1 dL_law_354 rfl ?_
  refine g_iconst (v := 1) K.1.1 dL_law_355 (by decide) ?_
  refine g_iadd K.1.1 dL_law_356 ?_
  refine L_sld K (L_in K hk 1 (by decide)) dL_law_357 ?_
  refine g_aload_n K.1.1 dL_law_358 rfl ?_
  refine g_iload_n K.1.1 dL_law_359 rfl ?_
  refine g_iconst (v := 2) K.1.1 dL_law_360 (by decide) ?_
  refine g_iadd K.1.1 dL_law_361 ?_
  refine L_sld K (L_in K hk 2 (by decide)) dL_law_362 ?_
  refine L_callXi K kL_X7_set c1 rfl rfl (Nat.le_of_ble_eq_true rfl) dL_law_363 (fun r1 x2 p1 => ?_)
  refine g_aload_n K.1.1 dL_law_366 rfl ?_
  refine g_aload_n K.1.1 dL_law_367 rfl ?_
  refine g_iload_n K.1.1 dL_law_368 rfl ?_
  refine g_iconst (v := 1) K.1.1 dL_law_369 (by decide) ?_
  refine g_iadd K.1.1 dL_law_370 ?_
  refine L_sld K (L_in K hk 1 (by decide)) dL_law_371 ?_
  refine g_aload_n K.1.1 dL_law_372 rfl ?_
  refine g_iload_n K.1.1 dL_law_373 rfl ?_
  refine g_iconst (v := 2) K.1.1 dL_law_374 (by decide) ?_
  refine g_iadd K.1.1 dL_law_375 ?_
  refine L_sld K (L_in K hk 2 (by decide)) dL_law_376 ?_
  refine L_callMi K kL_X8_set c2 rfl rfl (Nat.le_of_ble_eq_true rfl) dL_law_377 (fun r2 m2 p2 => ?_)
  obtain ⟨e, hR⟩ := c3 _ _ _ _ p1 p2
  exact g_icmp_eq_t (tgt := 1248) K.1.1 dL_law_380 (by decide) e (nx _ _ hR)
set_option maxRecDepth 20000 in
theorem kL_X7_price : KV RL wsL_law room_1 43 RX7 yX7_price wsX7_price rm_X7_price 2 := ⟨_, _, _, _, gL_law_X7_price, rfl, rfl, rfl, by decide +kernel, by decide⟩
set_option maxRecDepth 20000 in
theorem kL_X8_price : KV RL wsL_law room_1 46 RX8 yX8_price wsX8_price rm_X8_price 2 := ⟨_, _, _, _, gL_law_X8_price, rfl, rfl, rfl, by decide +kernel, by decide⟩
set_option maxHeartbeats 4000000 in
set_option maxRecDepth 100000 in
theorem lo_price (K : LC X l room_1 VX VM b L ss cs sl) (hk : k + 6 ≤ L) (h : RR x m) (nx : ∀ x2 m2, RR x2 m2 → GJ X (LPh X VX VM x2 m2) 4 1248 (lL b VX VM k) [] cs sl) : GJ X (LPh X VX VM x m) 4 385 (lL b VX VM k) [] cs sl := by
  obtain ⟨PX, PM, c1, c2, c3⟩ := op_price (l := l) K.2.2.1.1 K.2.2.1.2 h (ss (nI k + 1).toNatClampNeg) (ss (nI k + 2).toNatClampNeg)
  refine g_aload_n K.1.1 dL_law_385 rfl ?_
  refine g_aload_n K.1.1 dL_law_386 rfl ?_
  refine g_iload_n K.1.1 dL_law_387 rfl ?_
  refine g_iconst (v := 1) K.1.1 dL_law_388 (by decide) ?_
  refine g_iadd K.1.1 dL_law_389 ?_
  refine L_sld K (L_in K hk 1 (by decide)) dL_law_390 ?_
  refine g_aload_n K.1.1 dL_law_391 rfl ?_
  refine g_iload_n K.1.1 dL_law_392 rfl ?_
  refine g_iconst (v := 2) K.1.1 dL_law_393 (by decide) ?_
  refine g_iadd K.1.1 dL_law_394 ?_
  refine L_sld K (L_in K hk 2 (by decide)) dL_law_395 ?_
  refine L_callXi K kL_X7_price c1 rfl rfl (Nat.le_of_ble_eq_true rfl) dL_law_396 (fun r1 x2 p1 => ?_)
  refine g_aload_n K.1.1 dL_law_399 rfl ?_
  refine g_aload_n K.1.1 dL_law_400 rfl ?_
  refine g_iload_n K.1.1 dL_law_401 rfl ?_
  refine g_iconst (v := 1) K.1.1 dL_law_402 (by decide) ?_
  refine g_iadd K.1.1 dL_law_403 ?_
  refine L_sld K (L_in K hk 1 (by decide)) dL_law_404 ?_
  refine g_aload_n K.1.1 dL_law_405 rfl ?_
  refine g_iload_n K.1.1 dL_law_406 rfl ?_
  refine g_iconst (v := 2) K.1.1 dL_law_407 (by decide) ?_
  refine g_iadd K.1.1 dL_law_408 ?_
  refine L_sld K (L_in K hk 2 (by decide)) dL_law_409 ?_
  refine L_callMi K kL_X8_price c2 rfl rfl (Nat.le_of_ble_eq_true rfl) dL_law_410 (fun r2 m2 p2 => ?_)
  obtain ⟨e, hR⟩ := c3 _ _ _ _ p1 p2
  exact g_icmp_eq_t (tgt := 1248) K.1.1 dL_law_413 (by decide) e (nx _ _ hR)
set_option maxRecDepth 20000 in
theorem kL_X7_read : KV RL wsL_law room_1 47 RX7 yX7_read wsX7_read rm_X7_read 2 := ⟨_, _, _, _, gL_law_X7_read, rfl, rfl, rfl, by decide +kernel, by decide⟩
set_option maxRecDepth 20000 in
theorem kL_X8_read : KV RL wsL_law room_1 50 RX8 yX8_read wsX8_read rm_X8_read 2 := ⟨_, _, _, _, gL_law_X8_read, rfl, rfl, rfl, by decide +kernel, by decide⟩
set_option maxHeartbeats 4000000 in
set_option maxRecDepth 100000 in
theorem lo_read (K : LC X l room_1 VX VM b L ss cs sl) (hk : k + 6 ≤ L) (h : RR x m) (nx : ∀ x2 m2, RR x2 m2 → GJ X (LPh X VX VM x2 m2) 4 1248 (lL b VX VM k) [] cs sl) : GJ X (LPh X VX VM x m) 4 418 (lL b VX VM k) [] cs sl := by
  obtain ⟨PX, PM, c1, c2, c3⟩ := op_read (l := l) K.2.2.1.1 K.2.2.1.2 h (ss (nI k + 1).toNatClampNeg) (ss (nI k + 2).toNatClampNeg)
  refine g_aload_n K.1.1 dL_law_418 rfl ?_
  refine g_aload_n K.1.1 dL_law_419 rfl ?_
  refine g_iload_n K.1.1 dL_law_420 rfl ?_
  refine g_iconst (v := 1) K.1.1 dL_law_421 (by decide) ?_
  refine g_iadd K.1.1 dL_law_422 ?_
  refine L_sld K (L_in K hk 1 (by decide)) dL_law_423 ?_
  refine g_aload_n K.1.1 dL_law_424 rfl ?_
  refine g_iload_n K.1.1 dL_law_425 rfl ?_
  refine g_iconst (v := 2) K.1.1 dL_law_426 (by decide) ?_
  refine g_iadd K.1.1 dL_law_427 ?_
  refine L_sld K (L_in K hk 2 (by decide)) dL_law_428 ?_
  refine L_callXi K kL_X7_read c1 rfl rfl (Nat.le_of_ble_eq_true rfl) dL_law_429 (fun r1 x2 p1 => ?_)
  refine g_aload_n K.1.1 dL_law_432 rfl ?_
  refine g_aload_n K.1.1 dL_law_433 rfl ?_
  refine g_iload_n K.1.1 dL_law_434 rfl ?_
  refine g_iconst (v := 1) K.1.1 dL_law_435 (by decide) ?_
  refine g_iadd K.1.1 dL_law_436 ?_
  refine L_sld K (L_in K hk 1 (by decide)) dL_law_437 ?_
  refine g_aload_n K.1.1 dL_law_438 rfl ?_
  refine g_iload_n K.1.1 dL_law_439 rfl ?_
  refine g_iconst (v := 2) K.1.1 dL_law_440 (by decide) ?_
  refine g_iadd K.1.1 dL_law_441 ?_
  refine L_sld K (L_in K hk 2 (by decide)) dL_law_442 ?_
  refine L_callMi K kL_X8_read c2 rfl rfl (Nat.le_of_ble_eq_true rfl) dL_law_443 (fun r2 m2 p2 => ?_)
  obtain ⟨e, hR⟩ := c3 _ _ _ _ p1 p2
  exact g_icmp_eq_t (tgt := 1248) K.1.1 dL_law_446 (by decide) e (nx _ _ hR)
set_option maxRecDepth 20000 in
theorem kL_X7_dish : KV RL wsL_law room_1 51 RX7 yX7_dish wsX7_dish rm_X7_dish 2 := ⟨_, _, _, _, gL_law_X7_dish, rfl, rfl, rfl, by decide +kernel, by decide⟩
set_option maxRecDepth 20000 in
theorem kL_X8_dish : KV RL wsL_law room_1 54 RX8 yX8_dish wsX8_dish rm_X8_dish 2 := ⟨_, _, _, _, gL_law_X8_dish, rfl, rfl, rfl, by decide +kernel, by decide⟩
set_option maxHeartbeats 4000000 in
set_option maxRecDepth 100000 in
theorem lo_dish (K : LC X l room_1 VX VM b L ss cs sl) (hk : k + 6 ≤ L) (h : RR x m) (nx : ∀ x2 m2, RR x2 m2 → GJ X (LPh X VX VM x2 m2) 4 1248 (lL b VX VM k) [] cs sl) : GJ X (LPh X VX VM x m) 4 451 (lL b VX VM k) [] cs sl := by
  obtain ⟨PX, PM, c1, c2, c3⟩ := op_dish (l := l) K.2.2.1.1 K.2.2.1.2 h (ss (nI k + 1).toNatClampNeg) (ss (nI k + 2).toNatClampNeg)
  refine g_aload_n K.1.1 dL_law_451 rfl ?_
  refine g_aload_n K.1.1 dL_law_452 rfl ?_
  refine g_iload_n K.1.1 dL_law_453 rfl ?_
  refine g_iconst (v := 1) K.1.1 dL_law_454 (by decide) ?_
  refine g_iadd K.1.1 dL_law_455 ?_
  refine L_sld K (L_in K hk 1 (by decide)) dL_law_456 ?_
  refine g_aload_n K.1.1 dL_law_457 rfl ?_
  refine g_iload_n K.1.1 dL_law_458 rfl ?_
  refine g_iconst (v := 2) K.1.1 dL_law_459 (by decide) ?_
  refine g_iadd K.1.1 dL_law_460 ?_
  refine L_sld K (L_in K hk 2 (by decide)) dL_law_461 ?_
  refine L_callXi K kL_X7_dish c1 rfl rfl (Nat.le_of_ble_eq_true rfl) dL_law_462 (fun r1 x2 p1 => ?_)
  refine g_aload_n K.1.1 dL_law_465 rfl ?_
  refine g_aload_n K.1.1 dL_law_466 rfl ?_
  refine g_iload_n K.1.1 dL_law_467 rfl ?_
  refine g_iconst (v := 1) K.1.1 dL_law_468 (by decide) ?_
  refine g_iadd K.1.1 dL_law_469 ?_
  refine L_sld K (L_in K hk 1 (by decide)) dL_law_470 ?_
  refine g_aload_n K.1.1 dL_law_471 rfl ?_
  refine g_iload_n K.1.1 dL_law_472 rfl ?_
  refine g_iconst (v := 2) K.1.1 dL_law_473 (by decide) ?_
  refine g_iadd K.1.1 dL_law_474 ?_
  refine L_sld K (L_in K hk 2 (by decide)) dL_law_475 ?_
  refine L_callMi K kL_X8_dish c2 rfl rfl (Nat.le_of_ble_eq_true rfl) dL_law_476 (fun r2 m2 p2 => ?_)
  obtain ⟨e, hR⟩ := c3 _ _ _ _ p1 p2
  exact g_icmp_eq_t (tgt := 1248) K.1.1 dL_law_479 (by decide) e (nx _ _ hR)
set_option maxRecDepth 20000 in
theorem kL_X7_level : KV RL wsL_law room_1 55 RX7 yX7_level wsX7_level rm_X7_level 2 := ⟨_, _, _, _, gL_law_X7_level, rfl, rfl, rfl, by decide +kernel, by decide⟩
set_option maxRecDepth 20000 in
theorem kL_X8_level : KV RL wsL_law room_1 58 RX8 yX8_level wsX8_level rm_X8_level 2 := ⟨_, _, _, _, gL_law_X8_level, rfl, rfl, rfl, by decide +kernel, by decide⟩
set_option maxHeartbeats 4000000 in
set_option maxRecDepth 100000 in
theorem lo_level (K : LC X l room_1 VX VM b L ss cs sl) (hk : k + 6 ≤ L) (h : RR x m) (nx : ∀ x2 m2, RR x2 m2 → GJ X (LPh X VX VM x2 m2) 4 1248 (lL b VX VM k) [] cs sl) : GJ X (LPh X VX VM x m) 4 484 (lL b VX VM k) [] cs sl := by
  obtain ⟨PX, PM, c1, c2, c3⟩ := op_level (l := l) K.2.2.1.1 K.2.2.1.2 h (ss (nI k + 1).toNatClampNeg) (ss (nI k + 2).toNatClampNeg)
  refine g_aload_n K.1.1 dL_law_484 rfl ?_
  refine g_aload_n K.1.1 dL_law_485 rfl ?_
  refine g_iload_n K.1.1 dL_law_486 rfl ?_
  refine g_iconst (v := 1) K.1.1 dL_law_487 (by decide) ?_
  refine g_iadd K.1.1 dL_law_488 ?_
  refine L_sld K (L_in K hk 1 (by decide)) dL_law_489 ?_
  refine g_aload_n K.1.1 dL_law_490 rfl ?_
  refine g_iload_n K.1.1 dL_law_491 rfl ?_
  refine g_iconst (v := 2) K.1.1 dL_law_492 (by decide) ?_
  refine g_iadd K.1.1 dL_law_493 ?_
  refine L_sld K (L_in K hk 2 (by decide)) dL_law_494 ?_
  refine L_callXi K kL_X7_level c1 rfl rfl (Nat.le_of_ble_eq_true rfl) dL_law_495 (fun r1 x2 p1 => ?_)
  refine g_aload_n K.1.1 dL_law_498 rfl ?_
  refine g_aload_n K.1.1 dL_law_499 rfl ?_
  refine g_iload_n K.1.1 dL_law_500 rfl ?_
  refine g_iconst (v := 1) K.1.1 dL_law_501 (by decide) ?_
  refine g_iadd K.1.1 dL_law_502 ?_
  refine L_sld K (L_in K hk 1 (by decide)) dL_law_503 ?_
  refine g_aload_n K.1.1 dL_law_504 rfl ?_
  refine g_iload_n K.1.1 dL_law_505 rfl ?_
  refine g_iconst (v := 2) K.1.1 dL_law_506 (by decide) ?_
  refine g_iadd K.1.1 dL_law_507 ?_
  refine L_sld K (L_in K hk 2 (by decide)) dL_law_508 ?_
  refine L_callMi K kL_X8_level c2 rfl rfl (Nat.le_of_ble_eq_true rfl) dL_law_509 (fun r2 m2 p2 => ?_)
  obtain ⟨e, hR⟩ := c3 _ _ _ _ p1 p2
  exact g_icmp_eq_t (tgt := 1248) K.1.1 dL_law_512 (by decide) e (nx _ _ hR)
set_option maxRecDepth 20000 in
theorem kL_X7_hiccups : KV RL wsL_law room_1 59 RX7 yX7_hiccups wsX7_hiccups rm_X7_hiccups 1 := ⟨_, _, _, _, gL_law_X7_hiccups, rfl, rfl, rfl, by decide +kernel, by decide⟩
set_option maxRecDepth 20000 in
theorem kL_X8_hiccups : KV RL wsL_law room_1 62 RX8 yX8_hiccups wsX8_hiccups rm_X8_hiccups 1 := ⟨_, _, _, _, gL_law_X8_hiccups, rfl, rfl, rfl, by decide +kernel, by decide⟩
set_option maxHeartbeats 4000000 in
set_option maxRecDepth 100000 in
theorem lo_hiccups (K : LC X l room_1 VX VM b L ss cs sl) (hk : k + 6 ≤ L) (h : RR x m) (nx : ∀ x2 m2, RR x2 m2 → GJ X (LPh X VX VM x2 m2) 4 1248 (lL b VX VM k) [] cs sl) : GJ X (LPh X VX VM x m) 4 517 (lL b VX VM k) [] cs sl := by
  obtain ⟨PX, PM, c1, c2, c3⟩ := op_hiccups (l := l) K.2.2.1.1 K.2.2.1.2 h (ss (nI k + 1).toNatClampNeg)
  refine g_aload_n K.1.1 dL_law_517 rfl ?_
  refine g_aload_n K.1.1 dL_law_518 rfl ?_
  refine g_iload_n K.1.1 dL_law_519 rfl ?_
  refine g_iconst (v := 1) K.1.1 dL_law_520 (by decide) ?_
  refine g_iadd K.1.1 dL_law_521 ?_
  refine L_sld K (L_in K hk 1 (by decide)) dL_law_522 ?_
  refine L_callXi K kL_X7_hiccups c1 rfl rfl (Nat.le_of_ble_eq_true rfl) dL_law_523 (fun r1 x2 p1 => ?_)
  refine g_aload_n K.1.1 dL_law_526 rfl ?_
  refine g_aload_n K.1.1 dL_law_527 rfl ?_
  refine g_iload_n K.1.1 dL_law_528 rfl ?_
  refine g_iconst (v := 1) K.1.1 dL_law_529 (by decide) ?_
  refine g_iadd K.1.1 dL_law_530 ?_
  refine L_sld K (L_in K hk 1 (by decide)) dL_law_531 ?_
  refine L_callMi K kL_X8_hiccups c2 rfl rfl (Nat.le_of_ble_eq_true rfl) dL_law_532 (fun r2 m2 p2 => ?_)
  obtain ⟨e, hR⟩ := c3 _ _ _ _ p1 p2
  exact g_icmp_eq_t (tgt := 1248) K.1.1 dL_law_535 (by decide) e (nx _ _ hR)
set_option maxRecDepth 20000 in
theorem kL_X7_broken : KV RL wsL_law room_1 63 RX7 yX7_broken wsX7_broken rm_X7_broken 1 := ⟨_, _, _, _, gL_law_X7_broken, rfl, rfl, rfl, by decide +kernel, by decide⟩
set_option maxRecDepth 20000 in
theorem kL_X8_broken : KV RL wsL_law room_1 66 RX8 yX8_broken wsX8_broken rm_X8_broken 1 := ⟨_, _, _, _, gL_law_X8_broken, rfl, rfl, rfl, by decide +kernel, by decide⟩
set_option maxHeartbeats 4000000 in
set_option maxRecDepth 100000 in
theorem lo_broken (K : LC X l room_1 VX VM b L ss cs sl) (hk : k + 6 ≤ L) (h : RR x m) (nx : ∀ x2 m2, RR x2 m2 → GJ X (LPh X VX VM x2 m2) 4 1248 (lL b VX VM k) [] cs sl) : GJ X (LPh X VX VM x m) 4 540 (lL b VX VM k) [] cs sl := by
  obtain ⟨PX, PM, c1, c2, c3⟩ := op_broken (l := l) K.2.2.1.1 K.2.2.1.2 h (ss (nI k + 1).toNatClampNeg)
  refine g_aload_n K.1.1 dL_law_540 rfl ?_
  refine g_aload_n K.1.1 dL_law_541 rfl ?_
  refine g_iload_n K.1.1 dL_law_542 rfl ?_
  refine g_iconst (v := 1) K.1.1 dL_law_543 (by decide) ?_
  refine g_iadd K.1.1 dL_law_544 ?_
  refine L_sld K (L_in K hk 1 (by decide)) dL_law_545 ?_
  refine L_callXi K kL_X7_broken c1 rfl rfl (Nat.le_of_ble_eq_true rfl) dL_law_546 (fun r1 x2 p1 => ?_)
  refine g_aload_n K.1.1 dL_law_549 rfl ?_
  refine g_aload_n K.1.1 dL_law_550 rfl ?_
  refine g_iload_n K.1.1 dL_law_551 rfl ?_
  refine g_iconst (v := 1) K.1.1 dL_law_552 (by decide) ?_
  refine g_iadd K.1.1 dL_law_553 ?_
  refine L_sld K (L_in K hk 1 (by decide)) dL_law_554 ?_
  refine L_callMi K kL_X8_broken c2 rfl rfl (Nat.le_of_ble_eq_true rfl) dL_law_555 (fun r2 m2 p2 => ?_)
  obtain ⟨e, hR⟩ := c3 _ _ _ _ p1 p2
  exact g_icmp_eq_t (tgt := 1248) K.1.1 dL_law_558 (by decide) e (nx _ _ hR)
set_option maxRecDepth 20000 in
theorem kL_X7_judged : KV RL wsL_law room_1 67 RX7 yX7_judged wsX7_judged rm_X7_judged 0 := ⟨_, _, _, _, gL_law_X7_judged, rfl, rfl, rfl, by decide +kernel, by decide⟩
set_option maxRecDepth 20000 in
theorem kL_X8_judged : KV RL wsL_law room_1 71 RX8 yX8_judged wsX8_judged rm_X8_judged 0 := ⟨_, _, _, _, gL_law_X8_judged, rfl, rfl, rfl, by decide +kernel, by decide⟩
set_option maxHeartbeats 4000000 in
set_option maxRecDepth 100000 in
theorem lo_judged (K : LC X l room_1 VX VM b L ss cs sl) (hk : k + 6 ≤ L) (h : RR x m) (nx : ∀ x2 m2, RR x2 m2 → GJ X (LPh X VX VM x2 m2) 4 1248 (lL b VX VM k) [] cs sl) : GJ X (LPh X VX VM x m) 4 563 (lL b VX VM k) [] cs sl := by
  obtain ⟨PX, PM, c1, c2, c3⟩ := op_judged (l := l) K.2.2.1.1 K.2.2.1.2 h
  refine g_aload_n K.1.1 dL_law_563 rfl ?_
  refine L_callXi K kL_X7_judged c1 rfl rfl (Nat.le_of_ble_eq_true rfl) dL_law_564 (fun r1 x2 p1 => ?_)
  refine g_aload_n K.1.1 dL_law_567 rfl ?_
  refine L_callMi K kL_X8_judged c2 rfl rfl (Nat.le_of_ble_eq_true rfl) dL_law_568 (fun r2 m2 p2 => ?_)
  obtain ⟨e, hR⟩ := c3 _ _ _ _ p1 p2
  exact g_icmp_eq_t (tgt := 1248) K.1.1 dL_law_571 (by decide) e (nx _ _ hR)
set_option maxRecDepth 20000 in
theorem kL_X7_armistice : KV RL wsL_law room_1 72 RX7 yX7_armistice wsX7_armistice rm_X7_armistice 1 := ⟨_, _, _, _, gL_law_X7_armistice, rfl, rfl, rfl, by decide +kernel, by decide⟩
set_option maxRecDepth 20000 in
theorem kL_X8_armistice : KV RL wsL_law room_1 75 RX8 yX8_armistice wsX8_armistice rm_X8_armistice 1 := ⟨_, _, _, _, gL_law_X8_armistice, rfl, rfl, rfl, by decide +kernel, by decide⟩
set_option maxHeartbeats 4000000 in
set_option maxRecDepth 100000 in
theorem lo_armistice (K : LC X l room_1 VX VM b L ss cs sl) (hk : k + 6 ≤ L) (h : RR x m) (nx : ∀ x2 m2, RR x2 m2 → GJ X (LPh X VX VM x2 m2) 4 1248 (lL b VX VM k) [] cs sl) : GJ X (LPh X VX VM x m) 4 576 (lL b VX VM k) [] cs sl := by
  obtain ⟨PX, PM, c1, c2, c3⟩ := op_armistice (l := l) K.2.2.1.1 K.2.2.1.2 h (ss (nI k + 1).toNatClampNeg)
  refine g_aload_n K.1.1 dL_law_576 rfl ?_
  refine g_aload_n K.1.1 dL_law_577 rfl ?_
  refine g_iload_n K.1.1 dL_law_578 rfl ?_
  refine g_iconst (v := 1) K.1.1 dL_law_579 (by decide) ?_
  refine g_iadd K.1.1 dL_law_580 ?_
  refine L_sld K (L_in K hk 1 (by decide)) dL_law_581 ?_
  refine L_callXi K kL_X7_armistice c1 rfl rfl (Nat.le_of_ble_eq_true rfl) dL_law_582 (fun r1 x2 p1 => ?_)
  refine g_aload_n K.1.1 dL_law_585 rfl ?_
  refine g_aload_n K.1.1 dL_law_586 rfl ?_
  refine g_iload_n K.1.1 dL_law_587 rfl ?_
  refine g_iconst (v := 1) K.1.1 dL_law_588 (by decide) ?_
  refine g_iadd K.1.1 dL_law_589 ?_
  refine L_sld K (L_in K hk 1 (by decide)) dL_law_590 ?_
  refine L_callMi K kL_X8_armistice c2 rfl rfl (Nat.le_of_ble_eq_true rfl) dL_law_591 (fun r2 m2 p2 => ?_)
  obtain ⟨e, hR⟩ := c3 _ _ _ _ p1 p2
  exact g_icmp_eq_t (tgt := 1248) K.1.1 dL_law_594 (by decide) e (nx _ _ hR)
set_option maxRecDepth 20000 in
theorem kL_X7_led : KV RL wsL_law room_1 76 RX7 yX7_led wsX7_led rm_X7_led 2 := ⟨_, _, _, _, gL_law_X7_led, rfl, rfl, rfl, by decide +kernel, by decide⟩
set_option maxRecDepth 20000 in
theorem kL_X8_led : KV RL wsL_law room_1 79 RX8 yX8_led wsX8_led rm_X8_led 2 := ⟨_, _, _, _, gL_law_X8_led, rfl, rfl, rfl, by decide +kernel, by decide⟩
set_option maxHeartbeats 4000000 in
set_option maxRecDepth 100000 in
theorem lo_led (K : LC X l room_1 VX VM b L ss cs sl) (hk : k + 6 ≤ L) (h : RR x m) (nx : ∀ x2 m2, RR x2 m2 → GJ X (LPh X VX VM x2 m2) 4 1248 (lL b VX VM k) [] cs sl) : GJ X (LPh X VX VM x m) 4 599 (lL b VX VM k) [] cs sl := by
  obtain ⟨PX, PM, c1, c2, c3⟩ := op_led (l := l) K.2.2.1.1 K.2.2.1.2 h (ss (nI k + 1).toNatClampNeg) (ss (nI k + 2).toNatClampNeg)
  refine g_aload_n K.1.1 dL_law_599 rfl ?_
  refine g_aload_n K.1.1 dL_law_600 rfl ?_
  refine g_iload_n K.1.1 dL_law_601 rfl ?_
  refine g_iconst (v := 1) K.1.1 dL_law_602 (by decide) ?_
  refine g_iadd K.1.1 dL_law_603 ?_
  refine L_sld K (L_in K hk 1 (by decide)) dL_law_604 ?_
  refine g_aload_n K.1.1 dL_law_605 rfl ?_
  refine g_iload_n K.1.1 dL_law_606 rfl ?_
  refine g_iconst (v := 2) K.1.1 dL_law_607 (by decide) ?_
  refine g_iadd K.1.1 dL_law_608 ?_
  refine L_sld K (L_in K hk 2 (by decide)) dL_law_609 ?_
  refine L_callXi K kL_X7_led c1 rfl rfl (Nat.le_of_ble_eq_true rfl) dL_law_610 (fun r1 x2 p1 => ?_)
  refine g_aload_n K.1.1 dL_law_613 rfl ?_
  refine g_aload_n K.1.1 dL_law_614 rfl ?_
  refine g_iload_n K.1.1 dL_law_615 rfl ?_
  refine g_iconst (v := 1) K.1.1 dL_law_616 (by decide) ?_
  refine g_iadd K.1.1 dL_law_617 ?_
  refine L_sld K (L_in K hk 1 (by decide)) dL_law_618 ?_
  refine g_aload_n K.1.1 dL_law_619 rfl ?_
  refine g_iload_n K.1.1 dL_law_620 rfl ?_
  refine g_iconst (v := 2) K.1.1 dL_law_621 (by decide) ?_
  refine g_iadd K.1.1 dL_law_622 ?_
  refine L_sld K (L_in K hk 2 (by decide)) dL_law_623 ?_
  refine L_callMi K kL_X8_led c2 rfl rfl (Nat.le_of_ble_eq_true rfl) dL_law_624 (fun r2 m2 p2 => ?_)
  obtain ⟨e, hR⟩ := c3 _ _ _ _ p1 p2
  exact g_icmp_eq_t (tgt := 1248) K.1.1 dL_law_627 (by decide) e (nx _ _ hR)
set_option maxRecDepth 20000 in
theorem kL_X7_odds : KV RL wsL_law room_1 80 RX7 yX7_odds wsX7_odds rm_X7_odds 3 := ⟨_, _, _, _, gL_law_X7_odds, rfl, rfl, rfl, by decide +kernel, by decide⟩
set_option maxRecDepth 20000 in
theorem kL_X8_odds : KV RL wsL_law room_1 84 RX8 yX8_odds wsX8_odds rm_X8_odds 3 := ⟨_, _, _, _, gL_law_X8_odds, rfl, rfl, rfl, by decide +kernel, by decide⟩
set_option maxHeartbeats 4000000 in
set_option maxRecDepth 100000 in
theorem lo_odds (K : LC X l room_1 VX VM b L ss cs sl) (hk : k + 6 ≤ L) (h : RR x m) (nx : ∀ x2 m2, RR x2 m2 → GJ X (LPh X VX VM x2 m2) 4 1248 (lL b VX VM k) [] cs sl) : GJ X (LPh X VX VM x m) 4 632 (lL b VX VM k) [] cs sl := by
  obtain ⟨PX, PM, c1, c2, c3⟩ := op_odds (l := l) K.2.2.1.1 K.2.2.1.2 h (ss (nI k + 1).toNatClampNeg) (ss (nI k + 2).toNatClampNeg) (ss (nI k + 3).toNatClampNeg)
  refine g_aload_n K.1.1 dL_law_632 rfl ?_
  refine g_aload_n K.1.1 dL_law_633 rfl ?_
  refine g_iload_n K.1.1 dL_law_634 rfl ?_
  refine g_iconst (v := 1) K.1.1 dL_law_635 (by decide) ?_
  refine g_iadd K.1.1 dL_law_636 ?_
  refine L_sld K (L_in K hk 1 (by decide)) dL_law_637 ?_
  refine g_aload_n K.1.1 dL_law_638 rfl ?_
  refine g_iload_n K.1.1 dL_law_639 rfl ?_
  refine g_iconst (v := 2) K.1.1 dL_law_640 (by decide) ?_
  refine g_iadd K.1.1 dL_law_641 ?_
  refine L_sld K (L_in K hk 2 (by decide)) dL_law_642 ?_
  refine g_aload_n K.1.1 dL_law_643 rfl ?_
  refine g_iload_n K.1.1 dL_law_644 rfl ?_
  refine g_iconst (v := 3) K.1.1 dL_law_645 (by decide) ?_
  refine g_iadd K.1.1 dL_law_646 ?_
  refine L_sld K (L_in K hk 3 (by decide)) dL_law_647 ?_
  refine L_callXl K kL_X7_odds c1 rfl rfl (Nat.le_of_ble_eq_true rfl) dL_law_648 (fun r1 x2 p1 => ?_)
  refine g_aload_n K.1.1 dL_law_651 rfl ?_
  refine g_aload_n K.1.1 dL_law_652 rfl ?_
  refine g_iload_n K.1.1 dL_law_653 rfl ?_
  refine g_iconst (v := 1) K.1.1 dL_law_654 (by decide) ?_
  refine g_iadd K.1.1 dL_law_655 ?_
  refine L_sld K (L_in K hk 1 (by decide)) dL_law_656 ?_
  refine g_aload_n K.1.1 dL_law_657 rfl ?_
  refine g_iload_n K.1.1 dL_law_658 rfl ?_
  refine g_iconst (v := 2) K.1.1 dL_law_659 (by decide) ?_
  refine g_iadd K.1.1 dL_law_660 ?_
  refine L_sld K (L_in K hk 2 (by decide)) dL_law_661 ?_
  refine g_aload_n K.1.1 dL_law_662 rfl ?_
  refine g_iload_n K.1.1 dL_law_663 rfl ?_
  refine g_iconst (v := 3) K.1.1 dL_law_664 (by decide) ?_
  refine g_iadd K.1.1 dL_law_665 ?_
  refine L_sld K (L_in K hk 3 (by decide)) dL_law_666 ?_
  refine L_callMl K kL_X8_odds c2 rfl rfl (Nat.le_of_ble_eq_true rfl) dL_law_667 (fun r2 m2 p2 => ?_)
  obtain ⟨e, hR⟩ := c3 _ _ _ _ p1 p2
  refine g_lcmp K.1.1 dL_law_670 ?_
  exact g_if_eq (tgt := 1248) K.1.1 dL_law_671 (by decide) (fun _ => nx _ _ hR) (fun c => absurd ((lg_cmp_eq _ _).mpr e) c)
end LAWO
