/-! the law's cases -/
section
variable {p : Program} {l : Launch} {e : Env} {s : State} {m : MethodId} {below : List Frame} {meth : Method} {c : Code} {b L : Nat} {xs : Nat → Int32} {H : Heap} {locs : List Loc} {k n : Nat} {Q : State → Prop} {D : va_G} {E : xi_E} {tys : List (ClassId × FieldType)} {ls : Array Slot} {m0 : xi_M} {i : Int}
set_option maxHeartbeats 4000000 in
theorem lc_0 (hX : xLw p s m meth c b L xs D E tys) (hi : 0 ≤ i ∧ i + 5 < L) (hl : lv_has ls 4 [(3, .int (zi i)), (2, .ref (E.1 15)), (1, .ref (E.1 0)), (0, .ref b)]) (hP : va_P D vwCl (xi_wld E xS0 m0) H) (hS : va_S (fun q => s.heap.size ≤ q) s.heap H locs) (hR : Rel m0) (hk : k + 1 ≤ 600000 ∧ n + 3 ≤ 7302250) (kk : ∀ (H1 : Heap) (locs1 : List Loc) (m2 : xi_M), va_P D vwCl (xi_wld E xS0 m2) H1 → va_S (fun q => s.heap.size ≤ q) s.heap H1 locs1 → Rel m2 → W p l e room_1 s m #[Value.ref b] below meth c H1 locs1 (k + 1) (n + 3) Q (F0 m 1395 ls [])) : W p l e room_1 s m #[Value.ref b] below meth c H locs k n Q (F0 m 216 ls []) := by
  have hX' := hX
  obtain ⟨hAt, hL, hC, hn, hK, hA⟩ := hX
  have hF := xT_of hAt
  have hx := hAt.1
  have hb := hAt.2.1
  obtain ⟨v, m1, m2, e1, e2, hR2⟩ := sq_row (xs (i + 1).toNat) (xs (i + 2).toNat) hR
  refine lv_aload_n hx hb dl_216 rfl (lv_at hl 2 rfl) ?_
  refine lw_arg hX' hl hi.1 (j := 1) (by omega) (by omega) hS dl_217 dl_218 dl_219 dl_220 dl_221 ?_
  refine lw_arg hX' hl hi.1 (j := 2) (by omega) (by omega) hS dl_222 dl_223 dl_224 dl_225 dl_226 ?_
  refine xl_callV (E := E) (S := xS0) (A := fun q => s.heap.size ≤ q) (b := 0) (ci := 7) (As := [.int (xs (i + 1).toNat), .int (xs (i + 2).toNat)]) (rest := []) hF hK hC.1 rfl rfl (sn_X8_row hC _ _ _ _ e1) (xw_in 284 (by decide +kernel) rfl) (xw_in 281 (by decide +kernel) rfl) (xw_in 282 (by decide +kernel) rfl) (xw_in 283 (by decide +kernel) rfl) (xw_in 53 (by decide +kernel) rfl) ⟨by decide +kernel, by decide +kernel, by show _ = some 2; decide +kernel⟩ ⟨Nat.le_of_ble_eq_true rfl, Nat.le_of_ble_eq_true rfl⟩ hl.1 (Nat.le_of_ble_eq_true rfl) dl_227 hP hS hA ⟨(by show k ≤ 600000; omega), (by show n ≤ 7302250; omega)⟩ (fun H locs hP hS => ?_)
  refine lv_aload_n hx hb dl_230 rfl (lv_at hl 1 rfl) ?_
  refine lw_arg hX' hl hi.1 (j := 1) (by omega) (by omega) hS dl_231 dl_232 dl_233 dl_234 dl_235 ?_
  refine lw_arg hX' hl hi.1 (j := 2) (by omega) (by omega) hS dl_236 dl_237 dl_238 dl_239 dl_240 ?_
  refine xl_callV (E := E) (S := xS0) (A := fun q => s.heap.size ≤ q) (b := 15) (ci := 8) (As := [.int (xs (i + 1).toNat), .int (xs (i + 2).toNat)]) (rest := [.int v]) hF hK hC.1 rfl rfl (sn_X9_row hC _ _ _ _ e2) (xw_in 895 (by decide +kernel) rfl) (xw_in 892 (by decide +kernel) rfl) (xw_in 893 (by decide +kernel) rfl) (xw_in 894 (by decide +kernel) rfl) (xw_in 60 (by decide +kernel) rfl) ⟨by decide +kernel, by decide +kernel, by show _ = some 2; decide +kernel⟩ ⟨Nat.le_of_ble_eq_true rfl, Nat.le_of_ble_eq_true rfl⟩ hl.1 (Nat.le_of_ble_eq_true rfl) dl_241 hP hS hA ⟨(by show k ≤ 600000; omega), (by show n ≤ 7302250; omega)⟩ (fun H locs hP hS => ?_)
  refine lv_icmp_eq (tgt := 1395) hx hb dl_244 (by decide) (fun c9 => ?_) (fun c9 => absurd rfl c9)
  refine W.widen (k := k + 1) (n := n + 3) (by omega) (by omega) ?_
  exact kk H locs m2 hP hS hR2
set_option maxHeartbeats 4000000 in
theorem lc_1 (hX : xLw p s m meth c b L xs D E tys) (hi : 0 ≤ i ∧ i + 5 < L) (hl : lv_has ls 4 [(3, .int (zi i)), (2, .ref (E.1 15)), (1, .ref (E.1 0)), (0, .ref b)]) (hP : va_P D vwCl (xi_wld E xS0 m0) H) (hS : va_S (fun q => s.heap.size ≤ q) s.heap H locs) (hR : Rel m0) (hk : k + 1 ≤ 600000 ∧ n + 3 ≤ 7302250) (kk : ∀ (H1 : Heap) (locs1 : List Loc) (m2 : xi_M), va_P D vwCl (xi_wld E xS0 m2) H1 → va_S (fun q => s.heap.size ≤ q) s.heap H1 locs1 → Rel m2 → W p l e room_1 s m #[Value.ref b] below meth c H1 locs1 (k + 1) (n + 3) Q (F0 m 1395 ls [])) : W p l e room_1 s m #[Value.ref b] below meth c H locs k n Q (F0 m 249 ls []) := by
  have hX' := hX
  obtain ⟨hAt, hL, hC, hn, hK, hA⟩ := hX
  have hF := xT_of hAt
  have hx := hAt.1
  have hb := hAt.2.1
  obtain ⟨v, m1, m2, e1, e2, hR2⟩ := sq_lay (xs (i + 1).toNat) (xs (i + 2).toNat) (xs (i + 3).toNat) hR
  refine lv_aload_n hx hb dl_249 rfl (lv_at hl 2 rfl) ?_
  refine lw_arg hX' hl hi.1 (j := 1) (by omega) (by omega) hS dl_250 dl_251 dl_252 dl_253 dl_254 ?_
  refine lw_arg hX' hl hi.1 (j := 2) (by omega) (by omega) hS dl_255 dl_256 dl_257 dl_258 dl_259 ?_
  refine lw_arg hX' hl hi.1 (j := 3) (by omega) (by omega) hS dl_260 dl_261 dl_262 dl_263 dl_264 ?_
  refine xl_callV (E := E) (S := xS0) (A := fun q => s.heap.size ≤ q) (b := 0) (ci := 7) (As := [.int (xs (i + 1).toNat), .int (xs (i + 2).toNat), .int (xs (i + 3).toNat)]) (rest := []) hF hK hC.1 rfl rfl (sn_X8_lay hC _ _ _ _ e1) (xw_in 306 (by decide +kernel) rfl) (xw_in 303 (by decide +kernel) rfl) (xw_in 304 (by decide +kernel) rfl) (xw_in 305 (by decide +kernel) rfl) (xw_in 53 (by decide +kernel) rfl) ⟨by decide +kernel, by decide +kernel, by show _ = some 3; decide +kernel⟩ ⟨Nat.le_of_ble_eq_true rfl, Nat.le_of_ble_eq_true rfl⟩ hl.1 (Nat.le_of_ble_eq_true rfl) dl_265 hP hS hA ⟨(by show k ≤ 600000; omega), (by show n ≤ 7302250; omega)⟩ (fun H locs hP hS => ?_)
  refine lv_aload_n hx hb dl_268 rfl (lv_at hl 1 rfl) ?_
  refine lw_arg hX' hl hi.1 (j := 1) (by omega) (by omega) hS dl_269 dl_270 dl_271 dl_272 dl_273 ?_
  refine lw_arg hX' hl hi.1 (j := 2) (by omega) (by omega) hS dl_274 dl_275 dl_276 dl_277 dl_278 ?_
  refine lw_arg hX' hl hi.1 (j := 3) (by omega) (by omega) hS dl_279 dl_280 dl_281 dl_282 dl_283 ?_
  refine xl_callV (E := E) (S := xS0) (A := fun q => s.heap.size ≤ q) (b := 15) (ci := 8) (As := [.int (xs (i + 1).toNat), .int (xs (i + 2).toNat), .int (xs (i + 3).toNat)]) (rest := [.int v]) hF hK hC.1 rfl rfl (sn_X9_lay hC _ _ _ _ e2) (xw_in 909 (by decide +kernel) rfl) (xw_in 906 (by decide +kernel) rfl) (xw_in 907 (by decide +kernel) rfl) (xw_in 908 (by decide +kernel) rfl) (xw_in 60 (by decide +kernel) rfl) ⟨by decide +kernel, by decide +kernel, by show _ = some 3; decide +kernel⟩ ⟨Nat.le_of_ble_eq_true rfl, Nat.le_of_ble_eq_true rfl⟩ hl.1 (Nat.le_of_ble_eq_true rfl) dl_284 hP hS hA ⟨(by show k ≤ 600000; omega), (by show n ≤ 7302250; omega)⟩ (fun H locs hP hS => ?_)
  refine lv_icmp_eq (tgt := 1395) hx hb dl_287 (by decide) (fun c9 => ?_) (fun c9 => absurd rfl c9)
  refine W.widen (k := k + 1) (n := n + 3) (by omega) (by omega) ?_
  exact kk H locs m2 hP hS hR2
set_option maxHeartbeats 4000000 in
theorem lc_2 (hX : xLw p s m meth c b L xs D E tys) (hi : 0 ≤ i ∧ i + 5 < L) (hl : lv_has ls 4 [(3, .int (zi i)), (2, .ref (E.1 15)), (1, .ref (E.1 0)), (0, .ref b)]) (hP : va_P D vwCl (xi_wld E xS0 m0) H) (hS : va_S (fun q => s.heap.size ≤ q) s.heap H locs) (hR : Rel m0) (hk : k + 1 ≤ 600000 ∧ n + 3 ≤ 7302250) (kk : ∀ (H1 : Heap) (locs1 : List Loc) (m2 : xi_M), va_P D vwCl (xi_wld E xS0 m2) H1 → va_S (fun q => s.heap.size ≤ q) s.heap H1 locs1 → Rel m2 → W p l e room_1 s m #[Value.ref b] below meth c H1 locs1 (k + 1) (n + 3) Q (F0 m 1395 ls [])) : W p l e room_1 s m #[Value.ref b] below meth c H locs k n Q (F0 m 292 ls []) := by
  have hX' := hX
  obtain ⟨hAt, hL, hC, hn, hK, hA⟩ := hX
  have hF := xT_of hAt
  have hx := hAt.1
  have hb := hAt.2.1
  obtain ⟨v, m1, m2, e1, e2, hR2⟩ := sq_at (xs (i + 1).toNat) (xs (i + 2).toNat) hR
  refine lv_aload_n hx hb dl_292 rfl (lv_at hl 2 rfl) ?_
  refine lw_arg hX' hl hi.1 (j := 1) (by omega) (by omega) hS dl_293 dl_294 dl_295 dl_296 dl_297 ?_
  refine lw_arg hX' hl hi.1 (j := 2) (by omega) (by omega) hS dl_298 dl_299 dl_300 dl_301 dl_302 ?_
  refine xl_callV (E := E) (S := xS0) (A := fun q => s.heap.size ≤ q) (b := 0) (ci := 7) (As := [.int (xs (i + 1).toNat), .int (xs (i + 2).toNat)]) (rest := []) hF hK hC.1 rfl rfl (sn_X8_at hC _ _ _ _ e1) (xw_in 318 (by decide +kernel) rfl) (xw_in 315 (by decide +kernel) rfl) (xw_in 316 (by decide +kernel) rfl) (xw_in 317 (by decide +kernel) rfl) (xw_in 53 (by decide +kernel) rfl) ⟨by decide +kernel, by decide +kernel, by show _ = some 2; decide +kernel⟩ ⟨Nat.le_of_ble_eq_true rfl, Nat.le_of_ble_eq_true rfl⟩ hl.1 (Nat.le_of_ble_eq_true rfl) dl_303 hP hS hA ⟨(by show k ≤ 600000; omega), (by show n ≤ 7302250; omega)⟩ (fun H locs hP hS => ?_)
  refine lv_aload_n hx hb dl_306 rfl (lv_at hl 1 rfl) ?_
  refine lw_arg hX' hl hi.1 (j := 1) (by omega) (by omega) hS dl_307 dl_308 dl_309 dl_310 dl_311 ?_
  refine lw_arg hX' hl hi.1 (j := 2) (by omega) (by omega) hS dl_312 dl_313 dl_314 dl_315 dl_316 ?_
  refine xl_callV (E := E) (S := xS0) (A := fun q => s.heap.size ≤ q) (b := 15) (ci := 8) (As := [.int (xs (i + 1).toNat), .int (xs (i + 2).toNat)]) (rest := [.int v]) hF hK hC.1 rfl rfl (sn_X9_at hC _ _ _ _ e2) (xw_in 917 (by decide +kernel) rfl) (xw_in 914 (by decide +kernel) rfl) (xw_in 915 (by decide +kernel) rfl) (xw_in 916 (by decide +kernel) rfl) (xw_in 60 (by decide +kernel) rfl) ⟨by decide +kernel, by decide +kernel, by show _ = some 2; decide +kernel⟩ ⟨Nat.le_of_ble_eq_true rfl, Nat.le_of_ble_eq_true rfl⟩ hl.1 (Nat.le_of_ble_eq_true rfl) dl_317 hP hS hA ⟨(by show k ≤ 600000; omega), (by show n ≤ 7302250; omega)⟩ (fun H locs hP hS => ?_)
  refine lv_icmp_eq (tgt := 1395) hx hb dl_320 (by decide) (fun c9 => ?_) (fun c9 => absurd rfl c9)
  refine W.widen (k := k + 1) (n := n + 3) (by omega) (by omega) ?_
  exact kk H locs m2 hP hS hR2
set_option maxHeartbeats 4000000 in
theorem lc_3 (hX : xLw p s m meth c b L xs D E tys) (hi : 0 ≤ i ∧ i + 5 < L) (hl : lv_has ls 4 [(3, .int (zi i)), (2, .ref (E.1 15)), (1, .ref (E.1 0)), (0, .ref b)]) (hP : va_P D vwCl (xi_wld E xS0 m0) H) (hS : va_S (fun q => s.heap.size ≤ q) s.heap H locs) (hR : Rel m0) (hk : k + 1 ≤ 600000 ∧ n + 3 ≤ 7302250) (kk : ∀ (H1 : Heap) (locs1 : List Loc) (m2 : xi_M), va_P D vwCl (xi_wld E xS0 m2) H1 → va_S (fun q => s.heap.size ≤ q) s.heap H1 locs1 → Rel m2 → W p l e room_1 s m #[Value.ref b] below meth c H1 locs1 (k + 1) (n + 3) Q (F0 m 1395 ls [])) : W p l e room_1 s m #[Value.ref b] below meth c H locs k n Q (F0 m 325 ls []) := by
  have hX' := hX
  obtain ⟨hAt, hL, hC, hn, hK, hA⟩ := hX
  have hF := xT_of hAt
  have hx := hAt.1
  have hb := hAt.2.1
  obtain ⟨v, m1, m2, e1, e2, hR2⟩ := sq_tear (xs (i + 1).toNat) hR
  refine lv_aload_n hx hb dl_325 rfl (lv_at hl 2 rfl) ?_
  refine lw_arg hX' hl hi.1 (j := 1) (by omega) (by omega) hS dl_326 dl_327 dl_328 dl_329 dl_330 ?_
  refine xl_callV (E := E) (S := xS0) (A := fun q => s.heap.size ≤ q) (b := 0) (ci := 7) (As := [.int (xs (i + 1).toNat)]) (rest := []) hF hK hC.1 rfl rfl (sn_X8_tear hC _ _ _ _ e1) (xw_in 322 (by decide +kernel) rfl) (xw_in 319 (by decide +kernel) rfl) (xw_in 320 (by decide +kernel) rfl) (xw_in 321 (by decide +kernel) rfl) (xw_in 53 (by decide +kernel) rfl) ⟨by decide +kernel, by decide +kernel, by show _ = some 1; decide +kernel⟩ ⟨Nat.le_of_ble_eq_true rfl, Nat.le_of_ble_eq_true rfl⟩ hl.1 (Nat.le_of_ble_eq_true rfl) dl_331 hP hS hA ⟨(by show k ≤ 600000; omega), (by show n ≤ 7302250; omega)⟩ (fun H locs hP hS => ?_)
  refine lv_aload_n hx hb dl_334 rfl (lv_at hl 1 rfl) ?_
  refine lw_arg hX' hl hi.1 (j := 1) (by omega) (by omega) hS dl_335 dl_336 dl_337 dl_338 dl_339 ?_
  refine xl_callV (E := E) (S := xS0) (A := fun q => s.heap.size ≤ q) (b := 15) (ci := 8) (As := [.int (xs (i + 1).toNat)]) (rest := [.int v]) hF hK hC.1 rfl rfl (sn_X9_tear hC _ _ _ _ e2) (xw_in 921 (by decide +kernel) rfl) (xw_in 918 (by decide +kernel) rfl) (xw_in 919 (by decide +kernel) rfl) (xw_in 920 (by decide +kernel) rfl) (xw_in 60 (by decide +kernel) rfl) ⟨by decide +kernel, by decide +kernel, by show _ = some 1; decide +kernel⟩ ⟨Nat.le_of_ble_eq_true rfl, Nat.le_of_ble_eq_true rfl⟩ hl.1 (Nat.le_of_ble_eq_true rfl) dl_340 hP hS hA ⟨(by show k ≤ 600000; omega), (by show n ≤ 7302250; omega)⟩ (fun H locs hP hS => ?_)
  refine lv_icmp_eq (tgt := 1395) hx hb dl_343 (by decide) (fun c9 => ?_) (fun c9 => absurd rfl c9)
  refine W.widen (k := k + 1) (n := n + 3) (by omega) (by omega) ?_
  exact kk H locs m2 hP hS hR2
set_option maxHeartbeats 4000000 in
theorem lc_4 (hX : xLw p s m meth c b L xs D E tys) (hi : 0 ≤ i ∧ i + 5 < L) (hl : lv_has ls 4 [(3, .int (zi i)), (2, .ref (E.1 15)), (1, .ref (E.1 0)), (0, .ref b)]) (hP : va_P D vwCl (xi_wld E xS0 m0) H) (hS : va_S (fun q => s.heap.size ≤ q) s.heap H locs) (hR : Rel m0) (hk : k + 1 ≤ 600000 ∧ n + 3 ≤ 7302250) (kk : ∀ (H1 : Heap) (locs1 : List Loc) (m2 : xi_M), va_P D vwCl (xi_wld E xS0 m2) H1 → va_S (fun q => s.heap.size ≤ q) s.heap H1 locs1 → Rel m2 → W p l e room_1 s m #[Value.ref b] below meth c H1 locs1 (k + 1) (n + 3) Q (F0 m 1395 ls [])) : W p l e room_1 s m #[Value.ref b] below meth c H locs k n Q (F0 m 348 ls []) := by
  have hX' := hX
  obtain ⟨hAt, hL, hC, hn, hK, hA⟩ := hX
  have hF := xT_of hAt
  have hx := hAt.1
  have hb := hAt.2.1
  obtain ⟨v, m1, m2, e1, e2, hR2⟩ := sq_copy (xs (i + 1).toNat) (xs (i + 2).toNat) (xs (i + 3).toNat) (xs (i + 4).toNat) (xs (i + 5).toNat) hR
  refine lv_aload_n hx hb dl_348 rfl (lv_at hl 2 rfl) ?_
  refine lw_arg hX' hl hi.1 (j := 1) (by omega) (by omega) hS dl_349 dl_350 dl_351 dl_352 dl_353 ?_
  refine lw_arg hX' hl hi.1 (j := 2) (by omega) (by omega) hS dl_354 dl_355 dl_356 dl_357 dl_358 ?_
  refine lw_arg hX' hl hi.1 (j := 3) (by omega) (by omega) hS dl_359 dl_360 dl_361 dl_362 dl_363 ?_
  refine lw_arg hX' hl hi.1 (j := 4) (by omega) (by omega) hS dl_364 dl_365 dl_366 dl_367 dl_368 ?_
  refine lw_arg hX' hl hi.1 (j := 5) (by omega) (by omega) hS dl_369 dl_370 dl_371 dl_372 dl_373 ?_
  refine xl_callV (E := E) (S := xS0) (A := fun q => s.heap.size ≤ q) (b := 0) (ci := 7) (As := [.int (xs (i + 1).toNat), .int (xs (i + 2).toNat), .int (xs (i + 3).toNat), .int (xs (i + 4).toNat), .int (xs (i + 5).toNat)]) (rest := []) hF hK hC.1 rfl rfl (sn_X8_copy hC _ _ _ _ e1) (xw_in 326 (by decide +kernel) rfl) (xw_in 323 (by decide +kernel) rfl) (xw_in 324 (by decide +kernel) rfl) (xw_in 325 (by decide +kernel) rfl) (xw_in 53 (by decide +kernel) rfl) ⟨by decide +kernel, by decide +kernel, by show _ = some 5; decide +kernel⟩ ⟨Nat.le_of_ble_eq_true rfl, Nat.le_of_ble_eq_true rfl⟩ hl.1 (Nat.le_of_ble_eq_true rfl) dl_374 hP hS hA ⟨(by show k ≤ 600000; omega), (by show n ≤ 7302250; omega)⟩ (fun H locs hP hS => ?_)
  refine lv_aload_n hx hb dl_377 rfl (lv_at hl 1 rfl) ?_
  refine lw_arg hX' hl hi.1 (j := 1) (by omega) (by omega) hS dl_378 dl_379 dl_380 dl_381 dl_382 ?_
  refine lw_arg hX' hl hi.1 (j := 2) (by omega) (by omega) hS dl_383 dl_384 dl_385 dl_386 dl_387 ?_
  refine lw_arg hX' hl hi.1 (j := 3) (by omega) (by omega) hS dl_388 dl_389 dl_390 dl_391 dl_392 ?_
  refine lw_arg hX' hl hi.1 (j := 4) (by omega) (by omega) hS dl_393 dl_394 dl_395 dl_396 dl_397 ?_
  refine lw_arg hX' hl hi.1 (j := 5) (by omega) (by omega) hS dl_398 dl_399 dl_400 dl_401 dl_402 ?_
  refine xl_callV (E := E) (S := xS0) (A := fun q => s.heap.size ≤ q) (b := 15) (ci := 8) (As := [.int (xs (i + 1).toNat), .int (xs (i + 2).toNat), .int (xs (i + 3).toNat), .int (xs (i + 4).toNat), .int (xs (i + 5).toNat)]) (rest := [.int v]) hF hK hC.1 rfl rfl (sn_X9_copy hC _ _ _ _ e2) (xw_in 925 (by decide +kernel) rfl) (xw_in 922 (by decide +kernel) rfl) (xw_in 923 (by decide +kernel) rfl) (xw_in 924 (by decide +kernel) rfl) (xw_in 60 (by decide +kernel) rfl) ⟨by decide +kernel, by decide +kernel, by show _ = some 5; decide +kernel⟩ ⟨Nat.le_of_ble_eq_true rfl, Nat.le_of_ble_eq_true rfl⟩ hl.1 (Nat.le_of_ble_eq_true rfl) dl_403 hP hS hA ⟨(by show k ≤ 600000; omega), (by show n ≤ 7302250; omega)⟩ (fun H locs hP hS => ?_)
  refine lv_icmp_eq (tgt := 1395) hx hb dl_406 (by decide) (fun c9 => ?_) (fun c9 => absurd rfl c9)
  refine W.widen (k := k + 1) (n := n + 3) (by omega) (by omega) ?_
  exact kk H locs m2 hP hS hR2
set_option maxHeartbeats 4000000 in
theorem lc_5 (hX : xLw p s m meth c b L xs D E tys) (hi : 0 ≤ i ∧ i + 5 < L) (hl : lv_has ls 4 [(3, .int (zi i)), (2, .ref (E.1 15)), (1, .ref (E.1 0)), (0, .ref b)]) (hP : va_P D vwCl (xi_wld E xS0 m0) H) (hS : va_S (fun q => s.heap.size ≤ q) s.heap H locs) (hR : Rel m0) (hk : k + 1 ≤ 600000 ∧ n + 3 ≤ 7302250) (kk : ∀ (H1 : Heap) (locs1 : List Loc) (m2 : xi_M), va_P D vwCl (xi_wld E xS0 m2) H1 → va_S (fun q => s.heap.size ≤ q) s.heap H1 locs1 → Rel m2 → W p l e room_1 s m #[Value.ref b] below meth c H1 locs1 (k + 1) (n + 3) Q (F0 m 1395 ls [])) : W p l e room_1 s m #[Value.ref b] below meth c H locs k n Q (F0 m 411 ls []) := by
  have hX' := hX
  obtain ⟨hAt, hL, hC, hn, hK, hA⟩ := hX
  have hF := xT_of hAt
  have hx := hAt.1
  have hb := hAt.2.1
  obtain ⟨v, m1, m2, e1, e2, hR2⟩ := sq_mean (xs (i + 1).toNat) hR
  refine lv_aload_n hx hb dl_411 rfl (lv_at hl 2 rfl) ?_
  refine lw_arg hX' hl hi.1 (j := 1) (by omega) (by omega) hS dl_412 dl_413 dl_414 dl_415 dl_416 ?_
  refine xl_callV (E := E) (S := xS0) (A := fun q => s.heap.size ≤ q) (b := 0) (ci := 7) (As := [.int (xs (i + 1).toNat)]) (rest := []) hF hK hC.1 rfl rfl (sn_X8_mean hC _ _ _ _ e1) (xw_in 337 (by decide +kernel) rfl) (xw_in 334 (by decide +kernel) rfl) (xw_in 335 (by decide +kernel) rfl) (xw_in 336 (by decide +kernel) rfl) (xw_in 53 (by decide +kernel) rfl) ⟨by decide +kernel, by decide +kernel, by show _ = some 1; decide +kernel⟩ ⟨Nat.le_of_ble_eq_true rfl, Nat.le_of_ble_eq_true rfl⟩ hl.1 (Nat.le_of_ble_eq_true rfl) dl_417 hP hS hA ⟨(by show k ≤ 600000; omega), (by show n ≤ 7302250; omega)⟩ (fun H locs hP hS => ?_)
  refine lv_aload_n hx hb dl_420 rfl (lv_at hl 1 rfl) ?_
  refine lw_arg hX' hl hi.1 (j := 1) (by omega) (by omega) hS dl_421 dl_422 dl_423 dl_424 dl_425 ?_
  refine xl_callV (E := E) (S := xS0) (A := fun q => s.heap.size ≤ q) (b := 15) (ci := 8) (As := [.int (xs (i + 1).toNat)]) (rest := [.int v]) hF hK hC.1 rfl rfl (sn_X9_mean hC _ _ _ _ e2) (xw_in 933 (by decide +kernel) rfl) (xw_in 930 (by decide +kernel) rfl) (xw_in 931 (by decide +kernel) rfl) (xw_in 932 (by decide +kernel) rfl) (xw_in 60 (by decide +kernel) rfl) ⟨by decide +kernel, by decide +kernel, by show _ = some 1; decide +kernel⟩ ⟨Nat.le_of_ble_eq_true rfl, Nat.le_of_ble_eq_true rfl⟩ hl.1 (Nat.le_of_ble_eq_true rfl) dl_426 hP hS hA ⟨(by show k ≤ 600000; omega), (by show n ≤ 7302250; omega)⟩ (fun H locs hP hS => ?_)
  refine lv_icmp_eq (tgt := 1395) hx hb dl_429 (by decide) (fun c9 => ?_) (fun c9 => absurd rfl c9)
  refine W.widen (k := k + 1) (n := n + 3) (by omega) (by omega) ?_
  exact kk H locs m2 hP hS hR2
set_option maxHeartbeats 4000000 in
theorem lc_6 (hX : xLw p s m meth c b L xs D E tys) (hi : 0 ≤ i ∧ i + 5 < L) (hl : lv_has ls 4 [(3, .int (zi i)), (2, .ref (E.1 15)), (1, .ref (E.1 0)), (0, .ref b)]) (hP : va_P D vwCl (xi_wld E xS0 m0) H) (hS : va_S (fun q => s.heap.size ≤ q) s.heap H locs) (hR : Rel m0) (hk : k + 1 ≤ 600000 ∧ n + 3 ≤ 7302250) (kk : ∀ (H1 : Heap) (locs1 : List Loc) (m2 : xi_M), va_P D vwCl (xi_wld E xS0 m2) H1 → va_S (fun q => s.heap.size ≤ q) s.heap H1 locs1 → Rel m2 → W p l e room_1 s m #[Value.ref b] below meth c H1 locs1 (k + 1) (n + 3) Q (F0 m 1395 ls [])) : W p l e room_1 s m #[Value.ref b] below meth c H locs k n Q (F0 m 434 ls []) := by
  have hX' := hX
  obtain ⟨hAt, hL, hC, hn, hK, hA⟩ := hX
  have hF := xT_of hAt
  have hx := hAt.1
  have hb := hAt.2.1
  obtain ⟨v, m1, m2, e1, e2, hR2⟩ := sq_text (xs (i + 1).toNat) (xs (i + 2).toNat) hR
  refine lv_aload_n hx hb dl_434 rfl (lv_at hl 2 rfl) ?_
  refine lw_arg hX' hl hi.1 (j := 1) (by omega) (by omega) hS dl_435 dl_436 dl_437 dl_438 dl_439 ?_
  refine lw_arg hX' hl hi.1 (j := 2) (by omega) (by omega) hS dl_440 dl_441 dl_442 dl_443 dl_444 ?_
  refine xl_callV (E := E) (S := xS0) (A := fun q => s.heap.size ≤ q) (b := 0) (ci := 7) (As := [.int (xs (i + 1).toNat), .int (xs (i + 2).toNat)]) (rest := []) hF hK hC.1 rfl rfl (sn_X8_text hC _ _ _ _ e1) (xw_in 345 (by decide +kernel) rfl) (xw_in 342 (by decide +kernel) rfl) (xw_in 343 (by decide +kernel) rfl) (xw_in 344 (by decide +kernel) rfl) (xw_in 53 (by decide +kernel) rfl) ⟨by decide +kernel, by decide +kernel, by show _ = some 2; decide +kernel⟩ ⟨Nat.le_of_ble_eq_true rfl, Nat.le_of_ble_eq_true rfl⟩ hl.1 (Nat.le_of_ble_eq_true rfl) dl_445 hP hS hA ⟨(by show k ≤ 600000; omega), (by show n ≤ 7302250; omega)⟩ (fun H locs hP hS => ?_)
  refine lv_aload_n hx hb dl_448 rfl (lv_at hl 1 rfl) ?_
  refine lw_arg hX' hl hi.1 (j := 1) (by omega) (by omega) hS dl_449 dl_450 dl_451 dl_452 dl_453 ?_
  refine lw_arg hX' hl hi.1 (j := 2) (by omega) (by omega) hS dl_454 dl_455 dl_456 dl_457 dl_458 ?_
  refine xl_callV (E := E) (S := xS0) (A := fun q => s.heap.size ≤ q) (b := 15) (ci := 8) (As := [.int (xs (i + 1).toNat), .int (xs (i + 2).toNat)]) (rest := [.int v]) hF hK hC.1 rfl rfl (sn_X9_text hC _ _ _ _ e2) (xw_in 937 (by decide +kernel) rfl) (xw_in 934 (by decide +kernel) rfl) (xw_in 935 (by decide +kernel) rfl) (xw_in 936 (by decide +kernel) rfl) (xw_in 60 (by decide +kernel) rfl) ⟨by decide +kernel, by decide +kernel, by show _ = some 2; decide +kernel⟩ ⟨Nat.le_of_ble_eq_true rfl, Nat.le_of_ble_eq_true rfl⟩ hl.1 (Nat.le_of_ble_eq_true rfl) dl_459 hP hS hA ⟨(by show k ≤ 600000; omega), (by show n ≤ 7302250; omega)⟩ (fun H locs hP hS => ?_)
  refine lv_icmp_eq (tgt := 1395) hx hb dl_462 (by decide) (fun c9 => ?_) (fun c9 => absurd rfl c9)
  refine W.widen (k := k + 1) (n := n + 3) (by omega) (by omega) ?_
  exact kk H locs m2 hP hS hR2
set_option maxHeartbeats 4000000 in
theorem lc_7 (hX : xLw p s m meth c b L xs D E tys) (hi : 0 ≤ i ∧ i + 5 < L) (hl : lv_has ls 4 [(3, .int (zi i)), (2, .ref (E.1 15)), (1, .ref (E.1 0)), (0, .ref b)]) (hP : va_P D vwCl (xi_wld E xS0 m0) H) (hS : va_S (fun q => s.heap.size ≤ q) s.heap H locs) (hR : Rel m0) (hk : k + 1 ≤ 600000 ∧ n + 3 ≤ 7302250) (kk : ∀ (H1 : Heap) (locs1 : List Loc) (m2 : xi_M), va_P D vwCl (xi_wld E xS0 m2) H1 → va_S (fun q => s.heap.size ≤ q) s.heap H1 locs1 → Rel m2 → W p l e room_1 s m #[Value.ref b] below meth c H1 locs1 (k + 1) (n + 3) Q (F0 m 1395 ls [])) : W p l e room_1 s m #[Value.ref b] below meth c H locs k n Q (F0 m 467 ls []) := by
  have hX' := hX
  obtain ⟨hAt, hL, hC, hn, hK, hA⟩ := hX
  have hF := xT_of hAt
  have hx := hAt.1
  have hb := hAt.2.1
  obtain ⟨v, m1, m2, e1, e2, hR2⟩ := sq_put (xs (i + 1).toNat) (xs (i + 2).toNat) (xs (i + 3).toNat) hR
  refine lv_aload_n hx hb dl_467 rfl (lv_at hl 2 rfl) ?_
  refine lw_arg hX' hl hi.1 (j := 1) (by omega) (by omega) hS dl_468 dl_469 dl_470 dl_471 dl_472 ?_
  refine lw_arg hX' hl hi.1 (j := 2) (by omega) (by omega) hS dl_473 dl_474 dl_475 dl_476 dl_477 ?_
  refine lw_arg hX' hl hi.1 (j := 3) (by omega) (by omega) hS dl_478 dl_479 dl_480 dl_481 dl_482 ?_
  refine xl_callV (E := E) (S := xS0) (A := fun q => s.heap.size ≤ q) (b := 0) (ci := 7) (As := [.int (xs (i + 1).toNat), .int (xs (i + 2).toNat), .int (xs (i + 3).toNat)]) (rest := []) hF hK hC.1 rfl rfl (sn_X8_put hC _ _ _ _ e1) (xw_in 349 (by decide +kernel) rfl) (xw_in 346 (by decide +kernel) rfl) (xw_in 347 (by decide +kernel) rfl) (xw_in 348 (by decide +kernel) rfl) (xw_in 53 (by decide +kernel) rfl) ⟨by decide +kernel, by decide +kernel, by show _ = some 3; decide +kernel⟩ ⟨Nat.le_of_ble_eq_true rfl, Nat.le_of_ble_eq_true rfl⟩ hl.1 (Nat.le_of_ble_eq_true rfl) dl_483 hP hS hA ⟨(by show k ≤ 600000; omega), (by show n ≤ 7302250; omega)⟩ (fun H locs hP hS => ?_)
  refine lv_aload_n hx hb dl_486 rfl (lv_at hl 1 rfl) ?_
  refine lw_arg hX' hl hi.1 (j := 1) (by omega) (by omega) hS dl_487 dl_488 dl_489 dl_490 dl_491 ?_
  refine lw_arg hX' hl hi.1 (j := 2) (by omega) (by omega) hS dl_492 dl_493 dl_494 dl_495 dl_496 ?_
  refine lw_arg hX' hl hi.1 (j := 3) (by omega) (by omega) hS dl_497 dl_498 dl_499 dl_500 dl_501 ?_
  refine xl_callV (E := E) (S := xS0) (A := fun q => s.heap.size ≤ q) (b := 15) (ci := 8) (As := [.int (xs (i + 1).toNat), .int (xs (i + 2).toNat), .int (xs (i + 3).toNat)]) (rest := [.int v]) hF hK hC.1 rfl rfl (sn_X9_put hC _ _ _ _ e2) (xw_in 944 (by decide +kernel) rfl) (xw_in 941 (by decide +kernel) rfl) (xw_in 942 (by decide +kernel) rfl) (xw_in 943 (by decide +kernel) rfl) (xw_in 60 (by decide +kernel) rfl) ⟨by decide +kernel, by decide +kernel, by show _ = some 3; decide +kernel⟩ ⟨Nat.le_of_ble_eq_true rfl, Nat.le_of_ble_eq_true rfl⟩ hl.1 (Nat.le_of_ble_eq_true rfl) dl_502 hP hS hA ⟨(by show k ≤ 600000; omega), (by show n ≤ 7302250; omega)⟩ (fun H locs hP hS => ?_)
  refine lv_icmp_eq (tgt := 1395) hx hb dl_505 (by decide) (fun c9 => ?_) (fun c9 => absurd rfl c9)
  refine W.widen (k := k + 1) (n := n + 3) (by omega) (by omega) ?_
  exact kk H locs m2 hP hS hR2
set_option maxHeartbeats 4000000 in
theorem lc_8 (hX : xLw p s m meth c b L xs D E tys) (hi : 0 ≤ i ∧ i + 5 < L) (hl : lv_has ls 4 [(3, .int (zi i)), (2, .ref (E.1 15)), (1, .ref (E.1 0)), (0, .ref b)]) (hP : va_P D vwCl (xi_wld E xS0 m0) H) (hS : va_S (fun q => s.heap.size ≤ q) s.heap H locs) (hR : Rel m0) (hk : k + 1 ≤ 600000 ∧ n + 3 ≤ 7302250) (kk : ∀ (H1 : Heap) (locs1 : List Loc) (m2 : xi_M), va_P D vwCl (xi_wld E xS0 m2) H1 → va_S (fun q => s.heap.size ≤ q) s.heap H1 locs1 → Rel m2 → W p l e room_1 s m #[Value.ref b] below meth c H1 locs1 (k + 1) (n + 3) Q (F0 m 1395 ls [])) : W p l e room_1 s m #[Value.ref b] below meth c H locs k n Q (F0 m 510 ls []) := by
  have hX' := hX
  obtain ⟨hAt, hL, hC, hn, hK, hA⟩ := hX
  have hF := xT_of hAt
  have hx := hAt.1
  have hb := hAt.2.1
  generalize hy : xs (i + 1).toNat = y
  obtain ⟨w1, rfl, a1, b1⟩ := zi_ex y
  obtain ⟨q, h1, h2, h3⟩ := hR
  obtain ⟨m1, c1, f1, hM⟩ := cf_fault (l := l) (D := D) hC hn H.size h3 h1 w1 a1 b1
  obtain ⟨m2, e2, c2, f2⟩ := m_fault sh0 w1 a1 b1 q m1 h3 (MM_fr f1 h2)
  obtain ⟨v, hv⟩ := i_fault w1 q
  rw [hv] at hM e2
  have hR2 : Rel m2 := ⟨_, CC_fr f2 c1, c2, o_fault w1 q h3⟩
  rw [← hy] at hM e2
  refine lv_aload_n hx hb dl_510 rfl (lv_at hl 2 rfl) ?_
  refine lw_arg hX' hl hi.1 (j := 1) (by omega) (by omega) hS dl_511 dl_512 dl_513 dl_514 dl_515 ?_
  refine xl_callN (E := E) (S := xS0) (A := fun q => s.heap.size ≤ q) (b := 0) (ci := 7) (As := [.int (xs (i + 1).toNat)]) (rest := []) hF hK hC.1 rfl rfl hM (xw_in 353 (by decide +kernel) rfl) (xw_in 350 (by decide +kernel) rfl) (xw_in 351 (by decide +kernel) rfl) (xw_in 352 (by decide +kernel) rfl) (xw_in 53 (by decide +kernel) rfl) ⟨by decide +kernel, by decide +kernel, by show _ = some 1; decide +kernel⟩ ⟨Nat.le_of_ble_eq_true rfl, Nat.le_of_ble_eq_true rfl⟩ hl.1 (Nat.le_of_ble_eq_true rfl) dl_516 hP hS hA (fun q h => h) ⟨hk.1, hk.2⟩ (fun H locs hP hS => ?_)
  refine lv_aload_n hx hb dl_519 rfl (lv_at hl 1 rfl) ?_
  refine lw_arg hX' hl hi.1 (j := 1) (by omega) (by omega) hS dl_520 dl_521 dl_522 dl_523 dl_524 ?_
  refine xl_callV (E := E) (S := xS0) (A := fun q => s.heap.size ≤ q) (b := 15) (ci := 8) (As := [.int (xs (i + 1).toNat)]) (rest := [.int v]) hF hK hC.1 rfl rfl (sn_X9_fault hC _ _ _ _ e2) (xw_in 948 (by decide +kernel) rfl) (xw_in 945 (by decide +kernel) rfl) (xw_in 946 (by decide +kernel) rfl) (xw_in 947 (by decide +kernel) rfl) (xw_in 60 (by decide +kernel) rfl) ⟨by decide +kernel, by decide +kernel, by show _ = some 1; decide +kernel⟩ ⟨Nat.le_of_ble_eq_true rfl, Nat.le_of_ble_eq_true rfl⟩ hl.1 (Nat.le_of_ble_eq_true rfl) dl_525 hP hS hA ⟨hk.1, hk.2⟩ (fun H locs hP hS => ?_)
  refine lv_icmp_eq (tgt := 1395) hx hb dl_528 (by decide) (fun c9 => ?_) (fun c9 => absurd rfl c9)
  exact kk H locs m2 hP hS hR2
set_option maxHeartbeats 4000000 in
theorem lc_9 (hX : xLw p s m meth c b L xs D E tys) (hi : 0 ≤ i ∧ i + 5 < L) (hl : lv_has ls 4 [(3, .int (zi i)), (2, .ref (E.1 15)), (1, .ref (E.1 0)), (0, .ref b)]) (hP : va_P D vwCl (xi_wld E xS0 m0) H) (hS : va_S (fun q => s.heap.size ≤ q) s.heap H locs) (hR : Rel m0) (hk : k + 1 ≤ 600000 ∧ n + 3 ≤ 7302250) (kk : ∀ (H1 : Heap) (locs1 : List Loc) (m2 : xi_M), va_P D vwCl (xi_wld E xS0 m2) H1 → va_S (fun q => s.heap.size ≤ q) s.heap H1 locs1 → Rel m2 → W p l e room_1 s m #[Value.ref b] below meth c H1 locs1 (k + 1) (n + 3) Q (F0 m 1395 ls [])) : W p l e room_1 s m #[Value.ref b] below meth c H locs k n Q (F0 m 533 ls []) := by
  have hX' := hX
  obtain ⟨hAt, hL, hC, hn, hK, hA⟩ := hX
  have hF := xT_of hAt
  have hx := hAt.1
  have hb := hAt.2.1
  generalize hy : xs (i + 1).toNat = y
  obtain ⟨w1, rfl, a1, b1⟩ := zi_ex y
  obtain ⟨q, h1, h2, h3⟩ := hR
  obtain ⟨m1, c1, f1, hM⟩ := cf_republic (l := l) (D := D) hC hn H.size h3 h1 w1 a1 b1
  obtain ⟨m2, e2, c2, f2⟩ := m_republic sh0 w1 a1 b1 q m1 h3 (MM_fr f1 h2)
  obtain ⟨v, hv⟩ := i_republic w1 q
  rw [hv] at hM e2
  have hR2 : Rel m2 := ⟨_, CC_fr f2 c1, c2, o_republic w1 q h3⟩
  rw [← hy] at hM e2
  refine lv_aload_n hx hb dl_533 rfl (lv_at hl 2 rfl) ?_
  refine lw_arg hX' hl hi.1 (j := 1) (by omega) (by omega) hS dl_534 dl_535 dl_536 dl_537 dl_538 ?_
  refine xl_callN (E := E) (S := xS0) (A := fun q => s.heap.size ≤ q) (b := 0) (ci := 7) (As := [.int (xs (i + 1).toNat)]) (rest := []) hF hK hC.1 rfl rfl hM (xw_in 413 (by decide +kernel) rfl) (xw_in 410 (by decide +kernel) rfl) (xw_in 411 (by decide +kernel) rfl) (xw_in 412 (by decide +kernel) rfl) (xw_in 53 (by decide +kernel) rfl) ⟨by decide +kernel, by decide +kernel, by show _ = some 1; decide +kernel⟩ ⟨Nat.le_of_ble_eq_true rfl, Nat.le_of_ble_eq_true rfl⟩ hl.1 (Nat.le_of_ble_eq_true rfl) dl_539 hP hS hA (fun q h => h) ⟨hk.1, hk.2⟩ (fun H locs hP hS => ?_)
  refine lv_aload_n hx hb dl_542 rfl (lv_at hl 1 rfl) ?_
  refine lw_arg hX' hl hi.1 (j := 1) (by omega) (by omega) hS dl_543 dl_544 dl_545 dl_546 dl_547 ?_
  refine xl_callV (E := E) (S := xS0) (A := fun q => s.heap.size ≤ q) (b := 15) (ci := 8) (As := [.int (xs (i + 1).toNat)]) (rest := [.int v]) hF hK hC.1 rfl rfl (sn_X9_republic hC _ _ _ _ e2) (xw_in 987 (by decide +kernel) rfl) (xw_in 984 (by decide +kernel) rfl) (xw_in 985 (by decide +kernel) rfl) (xw_in 986 (by decide +kernel) rfl) (xw_in 60 (by decide +kernel) rfl) ⟨by decide +kernel, by decide +kernel, by show _ = some 1; decide +kernel⟩ ⟨Nat.le_of_ble_eq_true rfl, Nat.le_of_ble_eq_true rfl⟩ hl.1 (Nat.le_of_ble_eq_true rfl) dl_548 hP hS hA ⟨hk.1, hk.2⟩ (fun H locs hP hS => ?_)
  refine lv_icmp_eq (tgt := 1395) hx hb dl_551 (by decide) (fun c9 => ?_) (fun c9 => absurd rfl c9)
  exact kk H locs m2 hP hS hR2
set_option maxHeartbeats 4000000 in
theorem lc_10 (hX : xLw p s m meth c b L xs D E tys) (hi : 0 ≤ i ∧ i + 5 < L) (hl : lv_has ls 4 [(3, .int (zi i)), (2, .ref (E.1 15)), (1, .ref (E.1 0)), (0, .ref b)]) (hP : va_P D vwCl (xi_wld E xS0 m0) H) (hS : va_S (fun q => s.heap.size ≤ q) s.heap H locs) (hR : Rel m0) (hk : k + 1 ≤ 600000 ∧ n + 3 ≤ 7302250) (kk : ∀ (H1 : Heap) (locs1 : List Loc) (m2 : xi_M), va_P D vwCl (xi_wld E xS0 m2) H1 → va_S (fun q => s.heap.size ≤ q) s.heap H1 locs1 → Rel m2 → W p l e room_1 s m #[Value.ref b] below meth c H1 locs1 (k + 1) (n + 3) Q (F0 m 1395 ls [])) : W p l e room_1 s m #[Value.ref b] below meth c H locs k n Q (F0 m 556 ls []) := by
  have hX' := hX
  obtain ⟨hAt, hL, hC, hn, hK, hA⟩ := hX
  have hF := xT_of hAt
  have hx := hAt.1
  have hb := hAt.2.1
  obtain ⟨v, m1, m2, e1, e2, hR2⟩ := sq_player (xs (i + 1).toNat) (xs (i + 2).toNat) hR
  refine lv_aload_n hx hb dl_556 rfl (lv_at hl 2 rfl) ?_
  refine lw_arg hX' hl hi.1 (j := 1) (by omega) (by omega) hS dl_557 dl_558 dl_559 dl_560 dl_561 ?_
  refine lw_arg hX' hl hi.1 (j := 2) (by omega) (by omega) hS dl_562 dl_563 dl_564 dl_565 dl_566 ?_
  refine xl_callV (E := E) (S := xS0) (A := fun q => s.heap.size ≤ q) (b := 0) (ci := 7) (As := [.int (xs (i + 1).toNat), .int (xs (i + 2).toNat)]) (rest := []) hF hK hC.1 rfl rfl (sn_X8_player hC _ _ _ _ e1) (xw_in 423 (by decide +kernel) rfl) (xw_in 420 (by decide +kernel) rfl) (xw_in 421 (by decide +kernel) rfl) (xw_in 422 (by decide +kernel) rfl) (xw_in 53 (by decide +kernel) rfl) ⟨by decide +kernel, by decide +kernel, by show _ = some 2; decide +kernel⟩ ⟨Nat.le_of_ble_eq_true rfl, Nat.le_of_ble_eq_true rfl⟩ hl.1 (Nat.le_of_ble_eq_true rfl) dl_567 hP hS hA ⟨(by show k ≤ 600000; omega), (by show n ≤ 7302250; omega)⟩ (fun H locs hP hS => ?_)
  refine lv_aload_n hx hb dl_570 rfl (lv_at hl 1 rfl) ?_
  refine lw_arg hX' hl hi.1 (j := 1) (by omega) (by omega) hS dl_571 dl_572 dl_573 dl_574 dl_575 ?_
  refine lw_arg hX' hl hi.1 (j := 2) (by omega) (by omega) hS dl_576 dl_577 dl_578 dl_579 dl_580 ?_
  refine xl_callV (E := E) (S := xS0) (A := fun q => s.heap.size ≤ q) (b := 15) (ci := 8) (As := [.int (xs (i + 1).toNat), .int (xs (i + 2).toNat)]) (rest := [.int v]) hF hK hC.1 rfl rfl (sn_X9_player hC _ _ _ _ e2) (xw_in 994 (by decide +kernel) rfl) (xw_in 991 (by decide +kernel) rfl) (xw_in 992 (by decide +kernel) rfl) (xw_in 993 (by decide +kernel) rfl) (xw_in 60 (by decide +kernel) rfl) ⟨by decide +kernel, by decide +kernel, by show _ = some 2; decide +kernel⟩ ⟨Nat.le_of_ble_eq_true rfl, Nat.le_of_ble_eq_true rfl⟩ hl.1 (Nat.le_of_ble_eq_true rfl) dl_581 hP hS hA ⟨(by show k ≤ 600000; omega), (by show n ≤ 7302250; omega)⟩ (fun H locs hP hS => ?_)
  refine lv_icmp_eq (tgt := 1395) hx hb dl_584 (by decide) (fun c9 => ?_) (fun c9 => absurd rfl c9)
  refine W.widen (k := k + 1) (n := n + 3) (by omega) (by omega) ?_
  exact kk H locs m2 hP hS hR2
set_option maxHeartbeats 4000000 in
theorem lc_11 (hX : xLw p s m meth c b L xs D E tys) (hi : 0 ≤ i ∧ i + 5 < L) (hl : lv_has ls 4 [(3, .int (zi i)), (2, .ref (E.1 15)), (1, .ref (E.1 0)), (0, .ref b)]) (hP : va_P D vwCl (xi_wld E xS0 m0) H) (hS : va_S (fun q => s.heap.size ≤ q) s.heap H locs) (hR : Rel m0) (hk : k + 1 ≤ 600000 ∧ n + 3 ≤ 7302250) (kk : ∀ (H1 : Heap) (locs1 : List Loc) (m2 : xi_M), va_P D vwCl (xi_wld E xS0 m2) H1 → va_S (fun q => s.heap.size ≤ q) s.heap H1 locs1 → Rel m2 → W p l e room_1 s m #[Value.ref b] below meth c H1 locs1 (k + 1) (n + 3) Q (F0 m 1395 ls [])) : W p l e room_1 s m #[Value.ref b] below meth c H locs k n Q (F0 m 589 ls []) := by
  have hX' := hX
  obtain ⟨hAt, hL, hC, hn, hK, hA⟩ := hX
  have hF := xT_of hAt
  have hx := hAt.1
  have hb := hAt.2.1
  obtain ⟨v, m1, m2, e1, e2, hR2⟩ := sq_mark (xs (i + 1).toNat) (xs (i + 2).toNat) hR
  refine lv_aload_n hx hb dl_589 rfl (lv_at hl 2 rfl) ?_
  refine lw_arg hX' hl hi.1 (j := 1) (by omega) (by omega) hS dl_590 dl_591 dl_592 dl_593 dl_594 ?_
  refine lw_arg hX' hl hi.1 (j := 2) (by omega) (by omega) hS dl_595 dl_596 dl_597 dl_598 dl_599 ?_
  refine xl_callV (E := E) (S := xS0) (A := fun q => s.heap.size ≤ q) (b := 0) (ci := 7) (As := [.int (xs (i + 1).toNat), .int (xs (i + 2).toNat)]) (rest := []) hF hK hC.1 rfl rfl (sn_X8_mark hC _ _ _ _ e1) (xw_in 480 (by decide +kernel) rfl) (xw_in 477 (by decide +kernel) rfl) (xw_in 478 (by decide +kernel) rfl) (xw_in 479 (by decide +kernel) rfl) (xw_in 53 (by decide +kernel) rfl) ⟨by decide +kernel, by decide +kernel, by show _ = some 2; decide +kernel⟩ ⟨Nat.le_of_ble_eq_true rfl, Nat.le_of_ble_eq_true rfl⟩ hl.1 (Nat.le_of_ble_eq_true rfl) dl_600 hP hS hA ⟨(by show k ≤ 600000; omega), (by show n ≤ 7302250; omega)⟩ (fun H locs hP hS => ?_)
  refine lv_aload_n hx hb dl_603 rfl (lv_at hl 1 rfl) ?_
  refine lw_arg hX' hl hi.1 (j := 1) (by omega) (by omega) hS dl_604 dl_605 dl_606 dl_607 dl_608 ?_
  refine lw_arg hX' hl hi.1 (j := 2) (by omega) (by omega) hS dl_609 dl_610 dl_611 dl_612 dl_613 ?_
  refine xl_callV (E := E) (S := xS0) (A := fun q => s.heap.size ≤ q) (b := 15) (ci := 8) (As := [.int (xs (i + 1).toNat), .int (xs (i + 2).toNat)]) (rest := [.int v]) hF hK hC.1 rfl rfl (sn_X9_mark hC _ _ _ _ e2) (xw_in 1036 (by decide +kernel) rfl) (xw_in 1033 (by decide +kernel) rfl) (xw_in 1034 (by decide +kernel) rfl) (xw_in 1035 (by decide +kernel) rfl) (xw_in 60 (by decide +kernel) rfl) ⟨by decide +kernel, by decide +kernel, by show _ = some 2; decide +kernel⟩ ⟨Nat.le_of_ble_eq_true rfl, Nat.le_of_ble_eq_true rfl⟩ hl.1 (Nat.le_of_ble_eq_true rfl) dl_614 hP hS hA ⟨(by show k ≤ 600000; omega), (by show n ≤ 7302250; omega)⟩ (fun H locs hP hS => ?_)
  refine lv_icmp_eq (tgt := 1395) hx hb dl_617 (by decide) (fun c9 => ?_) (fun c9 => absurd rfl c9)
  refine W.widen (k := k + 1) (n := n + 3) (by omega) (by omega) ?_
  exact kk H locs m2 hP hS hR2
set_option maxHeartbeats 4000000 in
theorem lc_12 (hX : xLw p s m meth c b L xs D E tys) (hi : 0 ≤ i ∧ i + 5 < L) (hl : lv_has ls 4 [(3, .int (zi i)), (2, .ref (E.1 15)), (1, .ref (E.1 0)), (0, .ref b)]) (hP : va_P D vwCl (xi_wld E xS0 m0) H) (hS : va_S (fun q => s.heap.size ≤ q) s.heap H locs) (hR : Rel m0) (hk : k + 1 ≤ 600000 ∧ n + 3 ≤ 7302250) (kk : ∀ (H1 : Heap) (locs1 : List Loc) (m2 : xi_M), va_P D vwCl (xi_wld E xS0 m2) H1 → va_S (fun q => s.heap.size ≤ q) s.heap H1 locs1 → Rel m2 → W p l e room_1 s m #[Value.ref b] below meth c H1 locs1 (k + 1) (n + 3) Q (F0 m 1395 ls [])) : W p l e room_1 s m #[Value.ref b] below meth c H locs k n Q (F0 m 622 ls []) := by
  have hX' := hX
  obtain ⟨hAt, hL, hC, hn, hK, hA⟩ := hX
  have hF := xT_of hAt
  have hx := hAt.1
  have hb := hAt.2.1
  obtain ⟨v, m1, m2, e1, e2, hR2⟩ := sq_term  hR
  refine lv_aload_n hx hb dl_622 rfl (lv_at hl 2 rfl) ?_
  refine xl_callV (E := E) (S := xS0) (A := fun q => s.heap.size ≤ q) (b := 0) (ci := 7) (As := []) (rest := []) hF hK hC.1 rfl rfl (sn_X8_term hC _ _ _ _ e1) (xw_in 505 (by decide +kernel) rfl) (xw_in 502 (by decide +kernel) rfl) (xw_in 503 (by decide +kernel) rfl) (xw_in 504 (by decide +kernel) rfl) (xw_in 53 (by decide +kernel) rfl) ⟨by decide +kernel, by decide +kernel, by show _ = some 0; decide +kernel⟩ ⟨Nat.le_of_ble_eq_true rfl, Nat.le_of_ble_eq_true rfl⟩ hl.1 (Nat.le_of_ble_eq_true rfl) dl_623 hP hS hA ⟨(by show k ≤ 600000; omega), (by show n ≤ 7302250; omega)⟩ (fun H locs hP hS => ?_)
  refine lv_aload_n hx hb dl_626 rfl (lv_at hl 1 rfl) ?_
  refine xl_callV (E := E) (S := xS0) (A := fun q => s.heap.size ≤ q) (b := 15) (ci := 8) (As := []) (rest := [.int v]) hF hK hC.1 rfl rfl (sn_X9_term hC _ _ _ _ e2) (xw_in 1051 (by decide +kernel) rfl) (xw_in 1048 (by decide +kernel) rfl) (xw_in 1049 (by decide +kernel) rfl) (xw_in 1050 (by decide +kernel) rfl) (xw_in 60 (by decide +kernel) rfl) ⟨by decide +kernel, by decide +kernel, by show _ = some 0; decide +kernel⟩ ⟨Nat.le_of_ble_eq_true rfl, Nat.le_of_ble_eq_true rfl⟩ hl.1 (Nat.le_of_ble_eq_true rfl) dl_627 hP hS hA ⟨(by show k ≤ 600000; omega), (by show n ≤ 7302250; omega)⟩ (fun H locs hP hS => ?_)
  refine lv_icmp_eq (tgt := 1395) hx hb dl_630 (by decide) (fun c9 => ?_) (fun c9 => absurd rfl c9)
  refine W.widen (k := k + 1) (n := n + 3) (by omega) (by omega) ?_
  exact kk H locs m2 hP hS hR2
set_option maxHeartbeats 4000000 in
theorem lc_13 (hX : xLw p s m meth c b L xs D E tys) (hi : 0 ≤ i ∧ i + 5 < L) (hl : lv_has ls 4 [(3, .int (zi i)), (2, .ref (E.1 15)), (1, .ref (E.1 0)), (0, .ref b)]) (hP : va_P D vwCl (xi_wld E xS0 m0) H) (hS : va_S (fun q => s.heap.size ≤ q) s.heap H locs) (hR : Rel m0) (hk : k + 1 ≤ 600000 ∧ n + 3 ≤ 7302250) (kk : ∀ (H1 : Heap) (locs1 : List Loc) (m2 : xi_M), va_P D vwCl (xi_wld E xS0 m2) H1 → va_S (fun q => s.heap.size ≤ q) s.heap H1 locs1 → Rel m2 → W p l e room_1 s m #[Value.ref b] below meth c H1 locs1 (k + 1) (n + 3) Q (F0 m 1395 ls [])) : W p l e room_1 s m #[Value.ref b] below meth c H locs k n Q (F0 m 635 ls []) := by
  have hX' := hX
  obtain ⟨hAt, hL, hC, hn, hK, hA⟩ := hX
  have hF := xT_of hAt
  have hx := hAt.1
  have hb := hAt.2.1
  obtain ⟨v, m1, m2, e1, e2, hR2⟩ := sq_nudge (xs (i + 1).toNat) (xs (i + 2).toNat) hR
  refine lv_aload_n hx hb dl_635 rfl (lv_at hl 2 rfl) ?_
  refine lw_arg hX' hl hi.1 (j := 1) (by omega) (by omega) hS dl_636 dl_637 dl_638 dl_639 dl_640 ?_
  refine lw_arg hX' hl hi.1 (j := 2) (by omega) (by omega) hS dl_641 dl_642 dl_643 dl_644 dl_645 ?_
  refine xl_callV (E := E) (S := xS0) (A := fun q => s.heap.size ≤ q) (b := 0) (ci := 7) (As := [.int (xs (i + 1).toNat), .int (xs (i + 2).toNat)]) (rest := []) hF hK hC.1 rfl rfl (sn_X8_nudge hC _ _ _ _ e1) (xw_in 530 (by decide +kernel) rfl) (xw_in 527 (by decide +kernel) rfl) (xw_in 528 (by decide +kernel) rfl) (xw_in 529 (by decide +kernel) rfl) (xw_in 53 (by decide +kernel) rfl) ⟨by decide +kernel, by decide +kernel, by show _ = some 2; decide +kernel⟩ ⟨Nat.le_of_ble_eq_true rfl, Nat.le_of_ble_eq_true rfl⟩ hl.1 (Nat.le_of_ble_eq_true rfl) dl_646 hP hS hA ⟨(by show k ≤ 600000; omega), (by show n ≤ 7302250; omega)⟩ (fun H locs hP hS => ?_)
  refine lv_aload_n hx hb dl_649 rfl (lv_at hl 1 rfl) ?_
  refine lw_arg hX' hl hi.1 (j := 1) (by omega) (by omega) hS dl_650 dl_651 dl_652 dl_653 dl_654 ?_
  refine lw_arg hX' hl hi.1 (j := 2) (by omega) (by omega) hS dl_655 dl_656 dl_657 dl_658 dl_659 ?_
  refine xl_callV (E := E) (S := xS0) (A := fun q => s.heap.size ≤ q) (b := 15) (ci := 8) (As := [.int (xs (i + 1).toNat), .int (xs (i + 2).toNat)]) (rest := [.int v]) hF hK hC.1 rfl rfl (sn_X9_nudge hC _ _ _ _ e2) (xw_in 1069 (by decide +kernel) rfl) (xw_in 1066 (by decide +kernel) rfl) (xw_in 1067 (by decide +kernel) rfl) (xw_in 1068 (by decide +kernel) rfl) (xw_in 60 (by decide +kernel) rfl) ⟨by decide +kernel, by decide +kernel, by show _ = some 2; decide +kernel⟩ ⟨Nat.le_of_ble_eq_true rfl, Nat.le_of_ble_eq_true rfl⟩ hl.1 (Nat.le_of_ble_eq_true rfl) dl_660 hP hS hA ⟨(by show k ≤ 600000; omega), (by show n ≤ 7302250; omega)⟩ (fun H locs hP hS => ?_)
  refine lv_icmp_eq (tgt := 1395) hx hb dl_663 (by decide) (fun c9 => ?_) (fun c9 => absurd rfl c9)
  refine W.widen (k := k + 1) (n := n + 3) (by omega) (by omega) ?_
  exact kk H locs m2 hP hS hR2
end
