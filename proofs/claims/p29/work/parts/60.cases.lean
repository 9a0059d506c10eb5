variable {p : Program} {l : Launch} {e : Env} {s : State} {m : MethodId} {below : List Frame} {meth : Method} {c : Code} {b : Nat} {dC : Nat → ClassId} {dI : Nat → Nat → Nat} {cy : Nat → ClassId} {H : Heap} {locs : List Loc} {ls : Array Slot} {A : Nat → Prop} {Q : State → Prop} {cells slots N : Nat} {xs : Nat → Int32} {i : Int32}
set_option maxHeartbeats 4000000 in
set_option maxRecDepth 100000 in
theorem law_c0 (hl9 : l.stackTraces = false) (C0 : lw_At p s m meth c b N xs) (hN : N ≤ 3072) (X : fx p s m c code 7 #[Value.ref b] RL dC dI cy hp A) (hA : ∀ q, s.heap.size ≤ q → A q) (hbA : ¬ A b) {x mm ob : Nat} {of : Nat → Int64} {K : CS} {M : MS} {ss : List va_W} {w : va_W} (hR : R9 K M) (hi0 : 0 ≤ i.toInt) (hi6 : i.toInt + 6 ≤ (N : Int)) (hI : HI cy x K ss) (hM : NI cy mm M w) (hQ : PDs dC dI A (ss ++ [w ++ [(ob, .inl (cy 2, 1, .inr (.inl of)))]]) H) (hS : va_S A s.heap H locs) (hl : lv_has ls 7 [(4, .int i), (3, .ref ob), (2, .ref mm), (1, .ref x), (0, .ref b)]) (hc7 : cells ≤ 590000) (hs7 : slots ≤ 7280000) (kk : ∀ (K : CS) (M : MS) (ss : List va_W) (w : va_W) (of : Nat → Int64) (H : Heap) (locs : List Loc) (ls : Array Slot) (cells1 slots1 : Nat), R9 K M → HI cy x K ss → NI cy mm M w → PDs dC dI A (ss ++ [w ++ [(ob, .inl (cy 2, 1, .inr (.inl of)))]]) H → va_S A s.heap H locs → lv_has ls 7 [(4, .int i), (3, .ref ob), (2, .ref mm), (1, .ref x), (0, .ref b)] → cells1 ≤ cells + 20 → slots1 ≤ slots + 100 → W p l e room_1 s m #[Value.ref b] below meth c H locs cells1 slots1 Q (F0 m 1924 ls [])) : W p l e room_1 s m #[Value.ref b] below meth c H locs cells slots Q (F0 m 268 ls []) := by
  obtain ⟨-, -, hr, -, -, -, hX, hbl, hlocks, -⟩ := C0
  have hx := X.1
  have hb := X.2.1
  have hc9 : cells ≤ 599000 := by omega
  have hs9 : slots ≤ 7290000 := by omega
  have hc8 : cells + 1 ≤ 599000 := by omega
  have hs8 : slots + 6 ≤ 7290000 := by omega
  refine lv_aload_n hx hb dL_law_268 rfl (lv_at hl 3 rfl) ?_
  refine lv_aload_n hx hb dL_law_269 rfl (lv_at hl 4 rfl) ?_
  refine lv_iload hx hb dL_law_270 (lv_at hl 0 rfl) ?_
  refine lv_iconst (v := 1) hx hb dL_law_272 (by decide) ?_
  refine lv_iadd hx hb dL_law_273 ?_
  refine lv_topi (fun x_1 ex_1 => ?_)
  have tx_1 : x_1.toInt = i.toInt + 1 := ti_add (A := i.toInt) (B := 1) ex_1 rfl rfl (by omega) (by omega)
  refine va_sld hx hb hX hbl hbA hS (i := x_1) (vin (by omega) (by omega)) dL_law_274 ?_
  refine lv_topi (fun x_2 ex_2 => ?_)
  refine lv_aload_n hx hb dL_law_275 rfl (lv_at hl 4 rfl) ?_
  refine lv_iload hx hb dL_law_276 (lv_at hl 0 rfl) ?_
  refine lv_iconst (v := 2) hx hb dL_law_278 (by decide) ?_
  refine lv_iadd hx hb dL_law_279 ?_
  refine lv_topi (fun x_3 ex_3 => ?_)
  have tx_3 : x_3.toInt = i.toInt + 2 := ti_add (A := i.toInt) (B := 2) ex_3 rfl rfl (by omega) (by omega)
  refine va_sld hx hb hX hbl hbA hS (i := x_3) (vin (by omega) (by omega)) dL_law_280 ?_
  refine lv_topi (fun x_4 ex_4 => ?_)
  refine lv_aload_n hx hb dL_law_281 rfl (lv_at hl 4 rfl) ?_
  refine lv_iload hx hb dL_law_282 (lv_at hl 0 rfl) ?_
  refine lv_iconst (v := 3) hx hb dL_law_284 (by decide) ?_
  refine lv_iadd hx hb dL_law_285 ?_
  refine lv_topi (fun x_5 ex_5 => ?_)
  have tx_5 : x_5.toInt = i.toInt + 3 := ti_add (A := i.toInt) (B := 3) ex_5 rfl rfl (by omega) (by omega)
  refine va_sld hx hb hX hbl hbA hS (i := x_5) (vin (by omega) (by omega)) dL_law_286 ?_
  refine lv_topi (fun x_6 ex_6 => ?_)
  refine lv_aload_n hx hb dL_law_287 rfl (lv_at hl 4 rfl) ?_
  refine lv_iload hx hb dL_law_288 (lv_at hl 0 rfl) ?_
  refine lv_iconst (v := 4) hx hb dL_law_290 (by decide) ?_
  refine lv_iadd hx hb dL_law_291 ?_
  refine lv_topi (fun x_7 ex_7 => ?_)
  have tx_7 : x_7.toInt = i.toInt + 4 := ti_add (A := i.toInt) (B := 4) ex_7 rfl rfl (by omega) (by omega)
  refine va_sld hx hb hX hbl hbA hS (i := x_7) (vin (by omega) (by omega)) dL_law_292 ?_
  refine lv_topi (fun x_8 ex_8 => ?_)
  refine lv_aload_n hx hb dL_law_293 rfl (lv_at hl 4 rfl) ?_
  refine lv_iload hx hb dL_law_294 (lv_at hl 0 rfl) ?_
  refine lv_iconst (v := 5) hx hb dL_law_296 (by decide) ?_
  refine lv_iadd hx hb dL_law_297 ?_
  refine lv_topi (fun x_9 ex_9 => ?_)
  have tx_9 : x_9.toInt = i.toInt + 5 := ti_add (A := i.toInt) (B := 5) ex_9 rfl rfl (by omega) (by omega)
  refine va_sld hx hb hX hbl hbA hS (i := x_9) (vin (by omega) (by omega)) dL_law_298 ?_
  refine lv_topi (fun x_10 ex_10 => ?_)
  refine hc_feed X hA hI hQ hS hl (rest := []) (Nat.le_of_ble_eq_true rfl) dL_law_299 mL_19 (by omega) (by omega) x_2 x_4 x_6 x_8 x_10 (fun r_11 K_12 ss H locs hI hp_13 hQ hS => ?_)
  refine lv_pop hx hb dL_law_302 rfl ?_
  refine lv_aload_n hx hb dL_law_303 rfl (lv_at hl 2 rfl) ?_
  refine lv_aload_n hx hb dL_law_304 rfl (lv_at hl 4 rfl) ?_
  refine lv_iload hx hb dL_law_305 (lv_at hl 0 rfl) ?_
  refine lv_iconst (v := 1) hx hb dL_law_307 (by decide) ?_
  refine lv_iadd hx hb dL_law_308 ?_
  refine lv_topi (fun x_14 ex_14 => ?_)
  have tx_14 : x_14.toInt = i.toInt + 1 := ti_add (A := i.toInt) (B := 1) ex_14 rfl rfl (by omega) (by omega)
  refine va_sld hx hb hX hbl hbA hS (i := x_14) (vin (by omega) (by omega)) dL_law_309 ?_
  refine lv_topi (fun x_15 ex_15 => ?_)
  have qx_15 : x_2 = x_15 := by rw [ex_2, ex_15, show x_1 = x_14 from Int32.toInt_inj.mp (by omega)]
  subst qx_15
  refine lv_aload_n hx hb dL_law_310 rfl (lv_at hl 4 rfl) ?_
  refine lv_iload hx hb dL_law_311 (lv_at hl 0 rfl) ?_
  refine lv_iconst (v := 2) hx hb dL_law_313 (by decide) ?_
  refine lv_iadd hx hb dL_law_314 ?_
  refine lv_topi (fun x_16 ex_16 => ?_)
  have tx_16 : x_16.toInt = i.toInt + 2 := ti_add (A := i.toInt) (B := 2) ex_16 rfl rfl (by omega) (by omega)
  refine va_sld hx hb hX hbl hbA hS (i := x_16) (vin (by omega) (by omega)) dL_law_315 ?_
  refine lv_topi (fun x_17 ex_17 => ?_)
  have qx_17 : x_4 = x_17 := by rw [ex_4, ex_17, show x_3 = x_16 from Int32.toInt_inj.mp (by omega)]
  subst qx_17
  refine lv_aload_n hx hb dL_law_316 rfl (lv_at hl 4 rfl) ?_
  refine lv_iload hx hb dL_law_317 (lv_at hl 0 rfl) ?_
  refine lv_iconst (v := 3) hx hb dL_law_319 (by decide) ?_
  refine lv_iadd hx hb dL_law_320 ?_
  refine lv_topi (fun x_18 ex_18 => ?_)
  have tx_18 : x_18.toInt = i.toInt + 3 := ti_add (A := i.toInt) (B := 3) ex_18 rfl rfl (by omega) (by omega)
  refine va_sld hx hb hX hbl hbA hS (i := x_18) (vin (by omega) (by omega)) dL_law_321 ?_
  refine lv_topi (fun x_19 ex_19 => ?_)
  have qx_19 : x_6 = x_19 := by rw [ex_6, ex_19, show x_5 = x_18 from Int32.toInt_inj.mp (by omega)]
  subst qx_19
  refine lv_aload_n hx hb dL_law_322 rfl (lv_at hl 4 rfl) ?_
  refine lv_iload hx hb dL_law_323 (lv_at hl 0 rfl) ?_
  refine lv_iconst (v := 4) hx hb dL_law_325 (by decide) ?_
  refine lv_iadd hx hb dL_law_326 ?_
  refine lv_topi (fun x_20 ex_20 => ?_)
  have tx_20 : x_20.toInt = i.toInt + 4 := ti_add (A := i.toInt) (B := 4) ex_20 rfl rfl (by omega) (by omega)
  refine va_sld hx hb hX hbl hbA hS (i := x_20) (vin (by omega) (by omega)) dL_law_327 ?_
  refine lv_topi (fun x_21 ex_21 => ?_)
  have qx_21 : x_8 = x_21 := by rw [ex_8, ex_21, show x_7 = x_20 from Int32.toInt_inj.mp (by omega)]
  subst qx_21
  refine lv_aload_n hx hb dL_law_328 rfl (lv_at hl 4 rfl) ?_
  refine lv_iload hx hb dL_law_329 (lv_at hl 0 rfl) ?_
  refine lv_iconst (v := 5) hx hb dL_law_331 (by decide) ?_
  refine lv_iadd hx hb dL_law_332 ?_
  refine lv_topi (fun x_22 ex_22 => ?_)
  have tx_22 : x_22.toInt = i.toInt + 5 := ti_add (A := i.toInt) (B := 5) ex_22 rfl rfl (by omega) (by omega)
  refine va_sld hx hb hX hbl hbA hS (i := x_22) (vin (by omega) (by omega)) dL_law_333 ?_
  refine lv_topi (fun x_23 ex_23 => ?_)
  have qx_23 : x_10 = x_23 := by rw [ex_10, ex_23, show x_9 = x_22 from Int32.toInt_inj.mp (by omega)]
  subst qx_23
  have hQ := PDs.front hQ
  refine hm_feed X hA hM hQ hS hl (rest := []) (Nat.le_of_ble_eq_true rfl) dL_law_334 mL_23 (by omega) (by omega) x_2 x_4 x_6 x_8 x_10 (fun r_24 M_25 w H locs hM hp_26 hQ hS => ?_)
  have hE := a9_feed hR hp_13 hp_26
  have hR := s9_feed hR hp_13 hp_26
  have hQ := PDs.behind hQ
  refine lv_pop hx hb dL_law_337 rfl ?_
  refine lv_goto (tgt := 1924) hx hb dL_law_338 (by decide) ?_
  exact kk K_12 M_25 ss w of H locs _ cells slots hR hI hM hQ hS (lv_sub hl [0, 1, 2, 3, 4] rfl) (by omega) (by omega)
set_option maxHeartbeats 4000000 in
set_option maxRecDepth 100000 in
theorem law_c1 (hl9 : l.stackTraces = false) (C0 : lw_At p s m meth c b N xs) (hN : N ≤ 3072) (X : fx p s m c code 7 #[Value.ref b] RL dC dI cy hp A) (hA : ∀ q, s.heap.size ≤ q → A q) (hbA : ¬ A b) {x mm ob : Nat} {of : Nat → Int64} {K : CS} {M : MS} {ss : List va_W} {w : va_W} (hR : R9 K M) (hi0 : 0 ≤ i.toInt) (hi6 : i.toInt + 6 ≤ (N : Int)) (hI : HI cy x K ss) (hM : NI cy mm M w) (hQ : PDs dC dI A (ss ++ [w ++ [(ob, .inl (cy 2, 1, .inr (.inl of)))]]) H) (hS : va_S A s.heap H locs) (hl : lv_has ls 7 [(4, .int i), (3, .ref ob), (2, .ref mm), (1, .ref x), (0, .ref b)]) (hc7 : cells ≤ 590000) (hs7 : slots ≤ 7280000) (kk : ∀ (K : CS) (M : MS) (ss : List va_W) (w : va_W) (of : Nat → Int64) (H : Heap) (locs : List Loc) (ls : Array Slot) (cells1 slots1 : Nat), R9 K M → HI cy x K ss → NI cy mm M w → PDs dC dI A (ss ++ [w ++ [(ob, .inl (cy 2, 1, .inr (.inl of)))]]) H → va_S A s.heap H locs → lv_has ls 7 [(4, .int i), (3, .ref ob), (2, .ref mm), (1, .ref x), (0, .ref b)] → cells1 ≤ cells + 20 → slots1 ≤ slots + 100 → W p l e room_1 s m #[Value.ref b] below meth c H locs cells1 slots1 Q (F0 m 1924 ls [])) : W p l e room_1 s m #[Value.ref b] below meth c H locs cells slots Q (F0 m 341 ls []) := by
  obtain ⟨-, -, hr, -, -, -, hX, hbl, hlocks, -⟩ := C0
  have hx := X.1
  have hb := X.2.1
  have hc9 : cells ≤ 599000 := by omega
  have hs9 : slots ≤ 7290000 := by omega
  have hc8 : cells + 1 ≤ 599000 := by omega
  have hs8 : slots + 6 ≤ 7290000 := by omega
  refine lv_aload_n hx hb dL_law_341 rfl (lv_at hl 3 rfl) ?_
  refine lv_aload_n hx hb dL_law_342 rfl (lv_at hl 4 rfl) ?_
  refine lv_iload hx hb dL_law_343 (lv_at hl 0 rfl) ?_
  refine lv_iconst (v := 1) hx hb dL_law_345 (by decide) ?_
  refine lv_iadd hx hb dL_law_346 ?_
  refine lv_topi (fun x_1 ex_1 => ?_)
  have tx_1 : x_1.toInt = i.toInt + 1 := ti_add (A := i.toInt) (B := 1) ex_1 rfl rfl (by omega) (by omega)
  refine va_sld hx hb hX hbl hbA hS (i := x_1) (vin (by omega) (by omega)) dL_law_347 ?_
  refine lv_topi (fun x_2 ex_2 => ?_)
  refine hc_park X hA hI hQ hS hl (rest := []) (Nat.le_of_ble_eq_true rfl) dL_law_348 mL_24 (by omega) (by omega) x_2 (fun r_3 K_4 ss H locs hI hp_5 hQ hS => ?_)
  refine lv_pop hx hb dL_law_351 rfl ?_
  refine lv_aload_n hx hb dL_law_352 rfl (lv_at hl 2 rfl) ?_
  refine lv_aload_n hx hb dL_law_353 rfl (lv_at hl 4 rfl) ?_
  refine lv_iload hx hb dL_law_354 (lv_at hl 0 rfl) ?_
  refine lv_iconst (v := 1) hx hb dL_law_356 (by decide) ?_
  refine lv_iadd hx hb dL_law_357 ?_
  refine lv_topi (fun x_6 ex_6 => ?_)
  have tx_6 : x_6.toInt = i.toInt + 1 := ti_add (A := i.toInt) (B := 1) ex_6 rfl rfl (by omega) (by omega)
  refine va_sld hx hb hX hbl hbA hS (i := x_6) (vin (by omega) (by omega)) dL_law_358 ?_
  refine lv_topi (fun x_7 ex_7 => ?_)
  have qx_7 : x_2 = x_7 := by rw [ex_2, ex_7, show x_1 = x_6 from Int32.toInt_inj.mp (by omega)]
  subst qx_7
  have hQ := PDs.front hQ
  refine hm_park X hA hM hQ hS hl (rest := []) (Nat.le_of_ble_eq_true rfl) dL_law_359 mL_27 (by omega) (by omega) x_2 (fun r_8 M_9 w H locs cells1 slots1 hM hp_10 hc1 hs1 hQ hS => ?_)
  have hE := a9_park hR hp_5 hp_10
  have hR := s9_park hR hp_5 hp_10
  have hQ := PDs.behind hQ
  refine lv_pop hx hb dL_law_362 rfl ?_
  refine lv_goto (tgt := 1924) hx hb dL_law_363 (by decide) ?_
  exact kk K_4 M_9 ss w of H locs _ cells1 slots1 hR hI hM hQ hS (lv_sub hl [0, 1, 2, 3, 4] rfl) (by omega) (by omega)
set_option maxHeartbeats 4000000 in
set_option maxRecDepth 100000 in
theorem law_c2 (hl9 : l.stackTraces = false) (C0 : lw_At p s m meth c b N xs) (hN : N ≤ 3072) (X : fx p s m c code 7 #[Value.ref b] RL dC dI cy hp A) (hA : ∀ q, s.heap.size ≤ q → A q) (hbA : ¬ A b) {x mm ob : Nat} {of : Nat → Int64} {K : CS} {M : MS} {ss : List va_W} {w : va_W} (hR : R9 K M) (hi0 : 0 ≤ i.toInt) (hi6 : i.toInt + 6 ≤ (N : Int)) (hI : HI cy x K ss) (hM : NI cy mm M w) (hQ : PDs dC dI A (ss ++ [w ++ [(ob, .inl (cy 2, 1, .inr (.inl of)))]]) H) (hS : va_S A s.heap H locs) (hl : lv_has ls 7 [(4, .int i), (3, .ref ob), (2, .ref mm), (1, .ref x), (0, .ref b)]) (hc7 : cells ≤ 590000) (hs7 : slots ≤ 7280000) (kk : ∀ (K : CS) (M : MS) (ss : List va_W) (w : va_W) (of : Nat → Int64) (H : Heap) (locs : List Loc) (ls : Array Slot) (cells1 slots1 : Nat), R9 K M → HI cy x K ss → NI cy mm M w → PDs dC dI A (ss ++ [w ++ [(ob, .inl (cy 2, 1, .inr (.inl of)))]]) H → va_S A s.heap H locs → lv_has ls 7 [(4, .int i), (3, .ref ob), (2, .ref mm), (1, .ref x), (0, .ref b)] → cells1 ≤ cells + 20 → slots1 ≤ slots + 100 → W p l e room_1 s m #[Value.ref b] below meth c H locs cells1 slots1 Q (F0 m 1924 ls [])) : W p l e room_1 s m #[Value.ref b] below meth c H locs cells slots Q (F0 m 366 ls []) := by
  obtain ⟨-, -, hr, -, -, -, hX, hbl, hlocks, -⟩ := C0
  have hx := X.1
  have hb := X.2.1
  have hc9 : cells ≤ 599000 := by omega
  have hs9 : slots ≤ 7290000 := by omega
  have hc8 : cells + 1 ≤ 599000 := by omega
  have hs8 : slots + 6 ≤ 7290000 := by omega
  refine lv_aload_n hx hb dL_law_366 rfl (lv_at hl 3 rfl) ?_
  refine hc_fault X hA hI hQ hS hl (rest := []) (Nat.le_of_ble_eq_true rfl) dL_law_367 mL_28 (by omega) (by omega) (fun r_1 K_2 ss H locs hI hp_3 hQ hS => ?_)
  refine lv_pop hx hb dL_law_370 rfl ?_
  refine lv_aload_n hx hb dL_law_371 rfl (lv_at hl 2 rfl) ?_
  have hQ := PDs.front hQ
  refine hm_fault X hA hM hQ hS hl (rest := []) (Nat.le_of_ble_eq_true rfl) dL_law_372 mL_32 (by omega) (by omega) (fun r_4 M_5 w H locs hM hp_6 hQ hS => ?_)
  have hE := a9_fault hR hp_3 hp_6
  have hR := s9_fault hR hp_3 hp_6
  have hQ := PDs.behind hQ
  refine lv_pop hx hb dL_law_375 rfl ?_
  refine lv_goto (tgt := 1924) hx hb dL_law_376 (by decide) ?_
  exact kk K_2 M_5 ss w of H locs _ cells slots hR hI hM hQ hS (lv_sub hl [0, 1, 2, 3, 4] rfl) (by omega) (by omega)
set_option maxHeartbeats 4000000 in
set_option maxRecDepth 100000 in
theorem law_c3 (hl9 : l.stackTraces = false) (C0 : lw_At p s m meth c b N xs) (hN : N ≤ 3072) (X : fx p s m c code 7 #[Value.ref b] RL dC dI cy hp A) (hA : ∀ q, s.heap.size ≤ q → A q) (hbA : ¬ A b) {x mm ob : Nat} {of : Nat → Int64} {K : CS} {M : MS} {ss : List va_W} {w : va_W} (hR : R9 K M) (hi0 : 0 ≤ i.toInt) (hi6 : i.toInt + 6 ≤ (N : Int)) (hI : HI cy x K ss) (hM : NI cy mm M w) (hQ : PDs dC dI A (ss ++ [w ++ [(ob, .inl (cy 2, 1, .inr (.inl of)))]]) H) (hS : va_S A s.heap H locs) (hl : lv_has ls 7 [(4, .int i), (3, .ref ob), (2, .ref mm), (1, .ref x), (0, .ref b)]) (hc7 : cells ≤ 590000) (hs7 : slots ≤ 7280000) (kk : ∀ (K : CS) (M : MS) (ss : List va_W) (w : va_W) (of : Nat → Int64) (H : Heap) (locs : List Loc) (ls : Array Slot) (cells1 slots1 : Nat), R9 K M → HI cy x K ss → NI cy mm M w → PDs dC dI A (ss ++ [w ++ [(ob, .inl (cy 2, 1, .inr (.inl of)))]]) H → va_S A s.heap H locs → lv_has ls 7 [(4, .int i), (3, .ref ob), (2, .ref mm), (1, .ref x), (0, .ref b)] → cells1 ≤ cells + 20 → slots1 ≤ slots + 100 → W p l e room_1 s m #[Value.ref b] below meth c H locs cells1 slots1 Q (F0 m 1924 ls [])) : W p l e room_1 s m #[Value.ref b] below meth c H locs cells slots Q (F0 m 379 ls []) := by
  obtain ⟨-, -, hr, -, -, -, hX, hbl, hlocks, -⟩ := C0
  have hx := X.1
  have hb := X.2.1
  have hc9 : cells ≤ 599000 := by omega
  have hs9 : slots ≤ 7290000 := by omega
  have hc8 : cells + 1 ≤ 599000 := by omega
  have hs8 : slots + 6 ≤ 7290000 := by omega
  refine lv_aload_n hx hb dL_law_379 rfl (lv_at hl 3 rfl) ?_
  refine hc_where X hA hI hQ hS hl (rest := []) (Nat.le_of_ble_eq_true rfl) dL_law_380 mL_33 (by omega) (by omega) (fun r_1 K_2 ss H locs hI hp_3 hQ hS => ?_)
  refine lv_pop hx hb dL_law_383 rfl ?_
  refine lv_aload_n hx hb dL_law_384 rfl (lv_at hl 2 rfl) ?_
  have hQ := PDs.front hQ
  refine hm_where X hA hM hQ hS hl (rest := []) (Nat.le_of_ble_eq_true rfl) dL_law_385 mL_36 (by omega) (by omega) (fun r_4 M_5 w H locs hM hp_6 hQ hS => ?_)
  have hE := a9_where hR hp_3 hp_6
  have hR := s9_where hR hp_3 hp_6
  have hQ := PDs.behind hQ
  refine lv_pop hx hb dL_law_388 rfl ?_
  refine lv_goto (tgt := 1924) hx hb dL_law_389 (by decide) ?_
  exact kk K_2 M_5 ss w of H locs _ cells slots hR hI hM hQ hS (lv_sub hl [0, 1, 2, 3, 4] rfl) (by omega) (by omega)
set_option maxHeartbeats 4000000 in
set_option maxRecDepth 100000 in
theorem law_c4 (hl9 : l.stackTraces = false) (C0 : lw_At p s m meth c b N xs) (hN : N ≤ 3072) (X : fx p s m c code 7 #[Value.ref b] RL dC dI cy hp A) (hA : ∀ q, s.heap.size ≤ q → A q) (hbA : ¬ A b) {x mm ob : Nat} {of : Nat → Int64} {K : CS} {M : MS} {ss : List va_W} {w : va_W} (hR : R9 K M) (hi0 : 0 ≤ i.toInt) (hi6 : i.toInt + 6 ≤ (N : Int)) (hI : HI cy x K ss) (hM : NI cy mm M w) (hQ : PDs dC dI A (ss ++ [w ++ [(ob, .inl (cy 2, 1, .inr (.inl of)))]]) H) (hS : va_S A s.heap H locs) (hl : lv_has ls 7 [(4, .int i), (3, .ref ob), (2, .ref mm), (1, .ref x), (0, .ref b)]) (hc7 : cells ≤ 590000) (hs7 : slots ≤ 7280000) (kk : ∀ (K : CS) (M : MS) (ss : List va_W) (w : va_W) (of : Nat → Int64) (H : Heap) (locs : List Loc) (ls : Array Slot) (cells1 slots1 : Nat), R9 K M → HI cy x K ss → NI cy mm M w → PDs dC dI A (ss ++ [w ++ [(ob, .inl (cy 2, 1, .inr (.inl of)))]]) H → va_S A s.heap H locs → lv_has ls 7 [(4, .int i), (3, .ref ob), (2, .ref mm), (1, .ref x), (0, .ref b)] → cells1 ≤ cells + 20 → slots1 ≤ slots + 100 → W p l e room_1 s m #[Value.ref b] below meth c H locs cells1 slots1 Q (F0 m 1924 ls [])) : W p l e room_1 s m #[Value.ref b] below meth c H locs cells slots Q (F0 m 392 ls []) := by
  obtain ⟨-, -, hr, -, -, -, hX, hbl, hlocks, -⟩ := C0
  have hx := X.1
  have hb := X.2.1
  have hc9 : cells ≤ 599000 := by omega
  have hs9 : slots ≤ 7290000 := by omega
  have hc8 : cells + 1 ≤ 599000 := by omega
  have hs8 : slots + 6 ≤ 7290000 := by omega
  refine lv_aload_n hx hb dL_law_392 rfl (lv_at hl 3 rfl) ?_
  refine lv_aload_n hx hb dL_law_393 rfl (lv_at hl 4 rfl) ?_
  refine lv_iload hx hb dL_law_394 (lv_at hl 0 rfl) ?_
  refine lv_iconst (v := 1) hx hb dL_law_396 (by decide) ?_
  refine lv_iadd hx hb dL_law_397 ?_
  refine lv_topi (fun x_1 ex_1 => ?_)
  have tx_1 : x_1.toInt = i.toInt + 1 := ti_add (A := i.toInt) (B := 1) ex_1 rfl rfl (by omega) (by omega)
  refine va_sld hx hb hX hbl hbA hS (i := x_1) (vin (by omega) (by omega)) dL_law_398 ?_
  refine lv_topi (fun x_2 ex_2 => ?_)
  refine lv_aload_n hx hb dL_law_399 rfl (lv_at hl 4 rfl) ?_
  refine lv_iload hx hb dL_law_400 (lv_at hl 0 rfl) ?_
  refine lv_iconst (v := 2) hx hb dL_law_402 (by decide) ?_
  refine lv_iadd hx hb dL_law_403 ?_
  refine lv_topi (fun x_3 ex_3 => ?_)
  have tx_3 : x_3.toInt = i.toInt + 2 := ti_add (A := i.toInt) (B := 2) ex_3 rfl rfl (by omega) (by omega)
  refine va_sld hx hb hX hbl hbA hS (i := x_3) (vin (by omega) (by omega)) dL_law_404 ?_
  refine lv_topi (fun x_4 ex_4 => ?_)
  refine hc_place X hA hI hQ hS hl (rest := []) (Nat.le_of_ble_eq_true rfl) dL_law_405 mL_37 (by omega) (by omega) x_2 x_4 (fun r_5 K_6 ss H locs hI hp_7 hQ hS => ?_)
  refine lv_pop hx hb dL_law_408 rfl ?_
  refine lv_aload_n hx hb dL_law_409 rfl (lv_at hl 2 rfl) ?_
  refine lv_aload_n hx hb dL_law_410 rfl (lv_at hl 4 rfl) ?_
  refine lv_iload hx hb dL_law_411 (lv_at hl 0 rfl) ?_
  refine lv_iconst (v := 1) hx hb dL_law_413 (by decide) ?_
  refine lv_iadd hx hb dL_law_414 ?_
  refine lv_topi (fun x_8 ex_8 => ?_)
  have tx_8 : x_8.toInt = i.toInt + 1 := ti_add (A := i.toInt) (B := 1) ex_8 rfl rfl (by omega) (by omega)
  refine va_sld hx hb hX hbl hbA hS (i := x_8) (vin (by omega) (by omega)) dL_law_415 ?_
  refine lv_topi (fun x_9 ex_9 => ?_)
  have qx_9 : x_2 = x_9 := by rw [ex_2, ex_9, show x_1 = x_8 from Int32.toInt_inj.mp (by omega)]
  subst qx_9
  refine lv_aload_n hx hb dL_law_416 rfl (lv_at hl 4 rfl) ?_
  refine lv_iload hx hb dL_law_417 (lv_at hl 0 rfl) ?_
  refine lv_iconst (v := 2) hx hb dL_law_419 (by decide) ?_
  refine lv_iadd hx hb dL_law_420 ?_
  refine lv_topi (fun x_10 ex_10 => ?_)
  have tx_10 : x_10.toInt = i.toInt + 2 := ti_add (A := i.toInt) (B := 2) ex_10 rfl rfl (by omega) (by omega)
  refine va_sld hx hb hX hbl hbA hS (i := x_10) (vin (by omega) (by omega)) dL_law_421 ?_
  refine lv_topi (fun x_11 ex_11 => ?_)
  have qx_11 : x_4 = x_11 := by rw [ex_4, ex_11, show x_3 = x_10 from Int32.toInt_inj.mp (by omega)]
  subst qx_11
  have hQ := PDs.front hQ
  refine hm_place X hA hM hQ hS hl (rest := []) (Nat.le_of_ble_eq_true rfl) dL_law_422 mL_41 (by omega) (by omega) x_2 x_4 (fun r_12 M_13 w H locs hM hp_14 hQ hS => ?_)
  have hR := s9_place hR hp_7 hp_14
  have hQ := PDs.behind hQ
  refine lv_pop hx hb dL_law_425 rfl ?_
  refine lv_goto (tgt := 1924) hx hb dL_law_426 (by decide) ?_
  exact kk K_6 M_13 ss w of H locs _ cells slots hR hI hM hQ hS (lv_sub hl [0, 1, 2, 3, 4] rfl) (by omega) (by omega)
set_option maxHeartbeats 4000000 in
set_option maxRecDepth 100000 in
theorem law_c5 (hl9 : l.stackTraces = false) (C0 : lw_At p s m meth c b N xs) (hN : N ≤ 3072) (X : fx p s m c code 7 #[Value.ref b] RL dC dI cy hp A) (hA : ∀ q, s.heap.size ≤ q → A q) (hbA : ¬ A b) {x mm ob : Nat} {of : Nat → Int64} {K : CS} {M : MS} {ss : List va_W} {w : va_W} (hR : R9 K M) (hi0 : 0 ≤ i.toInt) (hi6 : i.toInt + 6 ≤ (N : Int)) (hI : HI cy x K ss) (hM : NI cy mm M w) (hQ : PDs dC dI A (ss ++ [w ++ [(ob, .inl (cy 2, 1, .inr (.inl of)))]]) H) (hS : va_S A s.heap H locs) (hl : lv_has ls 7 [(4, .int i), (3, .ref ob), (2, .ref mm), (1, .ref x), (0, .ref b)]) (hc7 : cells ≤ 590000) (hs7 : slots ≤ 7280000) (kk : ∀ (K : CS) (M : MS) (ss : List va_W) (w : va_W) (of : Nat → Int64) (H : Heap) (locs : List Loc) (ls : Array Slot) (cells1 slots1 : Nat), R9 K M → HI cy x K ss → NI cy mm M w → PDs dC dI A (ss ++ [w ++ [(ob, .inl (cy 2, 1, .inr (.inl of)))]]) H → va_S A s.heap H locs → lv_has ls 7 [(4, .int i), (3, .ref ob), (2, .ref mm), (1, .ref x), (0, .ref b)] → cells1 ≤ cells + 20 → slots1 ≤ slots + 100 → W p l e room_1 s m #[Value.ref b] below meth c H locs cells1 slots1 Q (F0 m 1924 ls [])) : W p l e room_1 s m #[Value.ref b] below meth c H locs cells slots Q (F0 m 429 ls []) := by
  obtain ⟨-, -, hr, -, -, -, hX, hbl, hlocks, -⟩ := C0
  have hx := X.1
  have hb := X.2.1
  have hc9 : cells ≤ 599000 := by omega
  have hs9 : slots ≤ 7290000 := by omega
  have hc8 : cells + 1 ≤ 599000 := by omega
  have hs8 : slots + 6 ≤ 7290000 := by omega
  refine lv_aload_n hx hb dL_law_429 rfl (lv_at hl 3 rfl) ?_
  refine lv_aload_n hx hb dL_law_430 rfl (lv_at hl 4 rfl) ?_
  refine lv_iload hx hb dL_law_431 (lv_at hl 0 rfl) ?_
  refine lv_iconst (v := 1) hx hb dL_law_433 (by decide) ?_
  refine lv_iadd hx hb dL_law_434 ?_
  refine lv_topi (fun x_1 ex_1 => ?_)
  have tx_1 : x_1.toInt = i.toInt + 1 := ti_add (A := i.toInt) (B := 1) ex_1 rfl rfl (by omega) (by omega)
  refine va_sld hx hb hX hbl hbA hS (i := x_1) (vin (by omega) (by omega)) dL_law_435 ?_
  refine lv_topi (fun x_2 ex_2 => ?_)
  refine lv_aload_n hx hb dL_law_436 rfl (lv_at hl 4 rfl) ?_
  refine lv_iload hx hb dL_law_437 (lv_at hl 0 rfl) ?_
  refine lv_iconst (v := 2) hx hb dL_law_439 (by decide) ?_
  refine lv_iadd hx hb dL_law_440 ?_
  refine lv_topi (fun x_3 ex_3 => ?_)
  have tx_3 : x_3.toInt = i.toInt + 2 := ti_add (A := i.toInt) (B := 2) ex_3 rfl rfl (by omega) (by omega)
  refine va_sld hx hb hX hbl hbA hS (i := x_3) (vin (by omega) (by omega)) dL_law_441 ?_
  refine lv_topi (fun x_4 ex_4 => ?_)
  refine hc_walker X hA hI hQ hS hl (rest := []) (Nat.le_of_ble_eq_true rfl) dL_law_442 mL_42 (by omega) (by omega) x_2 x_4 (fun r_5 K_6 ss H locs hI hp_7 hQ hS => ?_)
  refine lv_pop hx hb dL_law_445 rfl ?_
  refine lv_aload_n hx hb dL_law_446 rfl (lv_at hl 2 rfl) ?_
  refine lv_aload_n hx hb dL_law_447 rfl (lv_at hl 4 rfl) ?_
  refine lv_iload hx hb dL_law_448 (lv_at hl 0 rfl) ?_
  refine lv_iconst (v := 1) hx hb dL_law_450 (by decide) ?_
  refine lv_iadd hx hb dL_law_451 ?_
  refine lv_topi (fun x_8 ex_8 => ?_)
  have tx_8 : x_8.toInt = i.toInt + 1 := ti_add (A := i.toInt) (B := 1) ex_8 rfl rfl (by omega) (by omega)
  refine va_sld hx hb hX hbl hbA hS (i := x_8) (vin (by omega) (by omega)) dL_law_452 ?_
  refine lv_topi (fun x_9 ex_9 => ?_)
  have qx_9 : x_2 = x_9 := by rw [ex_2, ex_9, show x_1 = x_8 from Int32.toInt_inj.mp (by omega)]
  subst qx_9
  refine lv_aload_n hx hb dL_law_453 rfl (lv_at hl 4 rfl) ?_
  refine lv_iload hx hb dL_law_454 (lv_at hl 0 rfl) ?_
  refine lv_iconst (v := 2) hx hb dL_law_456 (by decide) ?_
  refine lv_iadd hx hb dL_law_457 ?_
  refine lv_topi (fun x_10 ex_10 => ?_)
  have tx_10 : x_10.toInt = i.toInt + 2 := ti_add (A := i.toInt) (B := 2) ex_10 rfl rfl (by omega) (by omega)
  refine va_sld hx hb hX hbl hbA hS (i := x_10) (vin (by omega) (by omega)) dL_law_458 ?_
  refine lv_topi (fun x_11 ex_11 => ?_)
  have qx_11 : x_4 = x_11 := by rw [ex_4, ex_11, show x_3 = x_10 from Int32.toInt_inj.mp (by omega)]
  subst qx_11
  have hQ := PDs.front hQ
  refine hm_walker X hA hM hQ hS hl (rest := []) (Nat.le_of_ble_eq_true rfl) dL_law_459 mL_45 (by omega) (by omega) x_2 x_4 (fun r_12 M_13 w H locs hM hp_14 hQ hS => ?_)
  have hR := s9_walker hR hp_7 hp_14
  have hQ := PDs.behind hQ
  refine lv_pop hx hb dL_law_462 rfl ?_
  refine lv_goto (tgt := 1924) hx hb dL_law_463 (by decide) ?_
  exact kk K_6 M_13 ss w of H locs _ cells slots hR hI hM hQ hS (lv_sub hl [0, 1, 2, 3, 4] rfl) (by omega) (by omega)
set_option maxHeartbeats 4000000 in
set_option maxRecDepth 100000 in
theorem law_c6 (hl9 : l.stackTraces = false) (C0 : lw_At p s m meth c b N xs) (hN : N ≤ 3072) (X : fx p s m c code 7 #[Value.ref b] RL dC dI cy hp A) (hA : ∀ q, s.heap.size ≤ q → A q) (hbA : ¬ A b) {x mm ob : Nat} {of : Nat → Int64} {K : CS} {M : MS} {ss : List va_W} {w : va_W} (hR : R9 K M) (hi0 : 0 ≤ i.toInt) (hi6 : i.toInt + 6 ≤ (N : Int)) (hI : HI cy x K ss) (hM : NI cy mm M w) (hQ : PDs dC dI A (ss ++ [w ++ [(ob, .inl (cy 2, 1, .inr (.inl of)))]]) H) (hS : va_S A s.heap H locs) (hl : lv_has ls 7 [(4, .int i), (3, .ref ob), (2, .ref mm), (1, .ref x), (0, .ref b)]) (hc7 : cells ≤ 590000) (hs7 : slots ≤ 7280000) (kk : ∀ (K : CS) (M : MS) (ss : List va_W) (w : va_W) (of : Nat → Int64) (H : Heap) (locs : List Loc) (ls : Array Slot) (cells1 slots1 : Nat), R9 K M → HI cy x K ss → NI cy mm M w → PDs dC dI A (ss ++ [w ++ [(ob, .inl (cy 2, 1, .inr (.inl of)))]]) H → va_S A s.heap H locs → lv_has ls 7 [(4, .int i), (3, .ref ob), (2, .ref mm), (1, .ref x), (0, .ref b)] → cells1 ≤ cells + 20 → slots1 ≤ slots + 100 → W p l e room_1 s m #[Value.ref b] below meth c H locs cells1 slots1 Q (F0 m 1924 ls [])) : W p l e room_1 s m #[Value.ref b] below meth c H locs cells slots Q (F0 m 466 ls []) := by
  obtain ⟨-, -, hr, -, -, -, hX, hbl, hlocks, -⟩ := C0
  have hx := X.1
  have hb := X.2.1
  have hc9 : cells ≤ 599000 := by omega
  have hs9 : slots ≤ 7290000 := by omega
  have hc8 : cells + 1 ≤ 599000 := by omega
  have hs8 : slots + 6 ≤ 7290000 := by omega
  refine lv_aload_n hx hb dL_law_466 rfl (lv_at hl 3 rfl) ?_
  refine lv_aload_n hx hb dL_law_467 rfl (lv_at hl 4 rfl) ?_
  refine lv_iload hx hb dL_law_468 (lv_at hl 0 rfl) ?_
  refine lv_iconst (v := 1) hx hb dL_law_470 (by decide) ?_
  refine lv_iadd hx hb dL_law_471 ?_
  refine lv_topi (fun x_1 ex_1 => ?_)
  have tx_1 : x_1.toInt = i.toInt + 1 := ti_add (A := i.toInt) (B := 1) ex_1 rfl rfl (by omega) (by omega)
  refine va_sld hx hb hX hbl hbA hS (i := x_1) (vin (by omega) (by omega)) dL_law_472 ?_
  refine lv_topi (fun x_2 ex_2 => ?_)
  refine lv_aload_n hx hb dL_law_473 rfl (lv_at hl 4 rfl) ?_
  refine lv_iload hx hb dL_law_474 (lv_at hl 0 rfl) ?_
  refine lv_iconst (v := 2) hx hb dL_law_476 (by decide) ?_
  refine lv_iadd hx hb dL_law_477 ?_
  refine lv_topi (fun x_3 ex_3 => ?_)
  have tx_3 : x_3.toInt = i.toInt + 2 := ti_add (A := i.toInt) (B := 2) ex_3 rfl rfl (by omega) (by omega)
  refine va_sld hx hb hX hbl hbA hS (i := x_3) (vin (by omega) (by omega)) dL_law_478 ?_
  refine lv_topi (fun x_4 ex_4 => ?_)
  refine lv_aload_n hx hb dL_law_479 rfl (lv_at hl 4 rfl) ?_
  refine lv_iload hx hb dL_law_480 (lv_at hl 0 rfl) ?_
  refine lv_iconst (v := 3) hx hb dL_law_482 (by decide) ?_
  refine lv_iadd hx hb dL_law_483 ?_
  refine lv_topi (fun x_5 ex_5 => ?_)
  have tx_5 : x_5.toInt = i.toInt + 3 := ti_add (A := i.toInt) (B := 3) ex_5 rfl rfl (by omega) (by omega)
  refine va_sld hx hb hX hbl hbA hS (i := x_5) (vin (by omega) (by omega)) dL_law_484 ?_
  refine lv_topi (fun x_6 ex_6 => ?_)
  refine hc_minutes X hA hI hQ hS hl (rest := []) (Nat.le_of_ble_eq_true rfl) dL_law_485 mL_46 (by omega) (by omega) x_2 x_4 x_6 (fun r_7 K_8 ss H locs hI hp_9 hQ hS => ?_)
  refine lv_pop hx hb dL_law_488 rfl ?_
  refine lv_aload_n hx hb dL_law_489 rfl (lv_at hl 2 rfl) ?_
  refine lv_aload_n hx hb dL_law_490 rfl (lv_at hl 4 rfl) ?_
  refine lv_iload hx hb dL_law_491 (lv_at hl 0 rfl) ?_
  refine lv_iconst (v := 1) hx hb dL_law_493 (by decide) ?_
  refine lv_iadd hx hb dL_law_494 ?_
  refine lv_topi (fun x_10 ex_10 => ?_)
  have tx_10 : x_10.toInt = i.toInt + 1 := ti_add (A := i.toInt) (B := 1) ex_10 rfl rfl (by omega) (by omega)
  refine va_sld hx hb hX hbl hbA hS (i := x_10) (vin (by omega) (by omega)) dL_law_495 ?_
  refine lv_topi (fun x_11 ex_11 => ?_)
  have qx_11 : x_2 = x_11 := by rw [ex_2, ex_11, show x_1 = x_10 from Int32.toInt_inj.mp (by omega)]
  subst qx_11
  refine lv_aload_n hx hb dL_law_496 rfl (lv_at hl 4 rfl) ?_
  refine lv_iload hx hb dL_law_497 (lv_at hl 0 rfl) ?_
  refine lv_iconst (v := 2) hx hb dL_law_499 (by decide) ?_
  refine lv_iadd hx hb dL_law_500 ?_
  refine lv_topi (fun x_12 ex_12 => ?_)
  have tx_12 : x_12.toInt = i.toInt + 2 := ti_add (A := i.toInt) (B := 2) ex_12 rfl rfl (by omega) (by omega)
  refine va_sld hx hb hX hbl hbA hS (i := x_12) (vin (by omega) (by omega)) dL_law_501 ?_
  refine lv_topi (fun x_13 ex_13 => ?_)
  have qx_13 : x_4 = x_13 := by rw [ex_4, ex_13, show x_3 = x_12 from Int32.toInt_inj.mp (by omega)]
  subst qx_13
  refine lv_aload_n hx hb dL_law_502 rfl (lv_at hl 4 rfl) ?_
  refine lv_iload hx hb dL_law_503 (lv_at hl 0 rfl) ?_
  refine lv_iconst (v := 3) hx hb dL_law_505 (by decide) ?_
  refine lv_iadd hx hb dL_law_506 ?_
  refine lv_topi (fun x_14 ex_14 => ?_)
  have tx_14 : x_14.toInt = i.toInt + 3 := ti_add (A := i.toInt) (B := 3) ex_14 rfl rfl (by omega) (by omega)
  refine va_sld hx hb hX hbl hbA hS (i := x_14) (vin (by omega) (by omega)) dL_law_507 ?_
  refine lv_topi (fun x_15 ex_15 => ?_)
  have qx_15 : x_6 = x_15 := by rw [ex_6, ex_15, show x_5 = x_14 from Int32.toInt_inj.mp (by omega)]
  subst qx_15
  have hQ := PDs.front hQ
  refine hm_minutes X hA hM hQ hS hl (rest := []) (Nat.le_of_ble_eq_true rfl) dL_law_508 mL_50 (by omega) (by omega) x_2 x_4 x_6 (fun r_16 M_17 w H locs hM hp_18 hQ hS => ?_)
  have hR := s9_minutes hR hp_9 hp_18
  have hQ := PDs.behind hQ
  refine lv_pop hx hb dL_law_511 rfl ?_
  refine lv_goto (tgt := 1924) hx hb dL_law_512 (by decide) ?_
  exact kk K_8 M_17 ss w of H locs _ cells slots hR hI hM hQ hS (lv_sub hl [0, 1, 2, 3, 4] rfl) (by omega) (by omega)
set_option maxHeartbeats 4000000 in
set_option maxRecDepth 100000 in
theorem law_c7 (hl9 : l.stackTraces = false) (C0 : lw_At p s m meth c b N xs) (hN : N ≤ 3072) (X : fx p s m c code 7 #[Value.ref b] RL dC dI cy hp A) (hA : ∀ q, s.heap.size ≤ q → A q) (hbA : ¬ A b) {x mm ob : Nat} {of : Nat → Int64} {K : CS} {M : MS} {ss : List va_W} {w : va_W} (hR : R9 K M) (hi0 : 0 ≤ i.toInt) (hi6 : i.toInt + 6 ≤ (N : Int)) (hI : HI cy x K ss) (hM : NI cy mm M w) (hQ : PDs dC dI A (ss ++ [w ++ [(ob, .inl (cy 2, 1, .inr (.inl of)))]]) H) (hS : va_S A s.heap H locs) (hl : lv_has ls 7 [(4, .int i), (3, .ref ob), (2, .ref mm), (1, .ref x), (0, .ref b)]) (hc7 : cells ≤ 590000) (hs7 : slots ≤ 7280000) (kk : ∀ (K : CS) (M : MS) (ss : List va_W) (w : va_W) (of : Nat → Int64) (H : Heap) (locs : List Loc) (ls : Array Slot) (cells1 slots1 : Nat), R9 K M → HI cy x K ss → NI cy mm M w → PDs dC dI A (ss ++ [w ++ [(ob, .inl (cy 2, 1, .inr (.inl of)))]]) H → va_S A s.heap H locs → lv_has ls 7 [(4, .int i), (3, .ref ob), (2, .ref mm), (1, .ref x), (0, .ref b)] → cells1 ≤ cells + 20 → slots1 ≤ slots + 100 → W p l e room_1 s m #[Value.ref b] below meth c H locs cells1 slots1 Q (F0 m 1924 ls [])) : W p l e room_1 s m #[Value.ref b] below meth c H locs cells slots Q (F0 m 515 ls []) := by
  obtain ⟨-, -, hr, -, -, -, hX, hbl, hlocks, -⟩ := C0
  have hx := X.1
  have hb := X.2.1
  have hc9 : cells ≤ 599000 := by omega
  have hs9 : slots ≤ 7290000 := by omega
  have hc8 : cells + 1 ≤ 599000 := by omega
  have hs8 : slots + 6 ≤ 7290000 := by omega
  refine lv_aload_n hx hb dL_law_515 rfl (lv_at hl 3 rfl) ?_
  refine lv_aload_n hx hb dL_law_516 rfl (lv_at hl 4 rfl) ?_
  refine lv_iload hx hb dL_law_517 (lv_at hl 0 rfl) ?_
  refine lv_iconst (v := 1) hx hb dL_law_519 (by decide) ?_
  refine lv_iadd hx hb dL_law_520 ?_
  refine lv_topi (fun x_1 ex_1 => ?_)
  have tx_1 : x_1.toInt = i.toInt + 1 := ti_add (A := i.toInt) (B := 1) ex_1 rfl rfl (by omega) (by omega)
  refine va_sld hx hb hX hbl hbA hS (i := x_1) (vin (by omega) (by omega)) dL_law_521 ?_
  refine lv_topi (fun x_2 ex_2 => ?_)
  refine lv_aload_n hx hb dL_law_522 rfl (lv_at hl 4 rfl) ?_
  refine lv_iload hx hb dL_law_523 (lv_at hl 0 rfl) ?_
  refine lv_iconst (v := 2) hx hb dL_law_525 (by decide) ?_
  refine lv_iadd hx hb dL_law_526 ?_
  refine lv_topi (fun x_3 ex_3 => ?_)
  have tx_3 : x_3.toInt = i.toInt + 2 := ti_add (A := i.toInt) (B := 2) ex_3 rfl rfl (by omega) (by omega)
  refine va_sld hx hb hX hbl hbA hS (i := x_3) (vin (by omega) (by omega)) dL_law_527 ?_
  refine lv_topi (fun x_4 ex_4 => ?_)
  refine lv_aload_n hx hb dL_law_528 rfl (lv_at hl 4 rfl) ?_
  refine lv_iload hx hb dL_law_529 (lv_at hl 0 rfl) ?_
  refine lv_iconst (v := 3) hx hb dL_law_531 (by decide) ?_
  refine lv_iadd hx hb dL_law_532 ?_
  refine lv_topi (fun x_5 ex_5 => ?_)
  have tx_5 : x_5.toInt = i.toInt + 3 := ti_add (A := i.toInt) (B := 3) ex_5 rfl rfl (by omega) (by omega)
  refine va_sld hx hb hX hbl hbA hS (i := x_5) (vin (by omega) (by omega)) dL_law_533 ?_
  refine lv_topi (fun x_6 ex_6 => ?_)
  refine hc_falls X hA hI hQ hS hl (rest := []) (Nat.le_of_ble_eq_true rfl) dL_law_534 mL_51 (by omega) (by omega) x_2 x_4 x_6 (fun r_7 K_8 ss H locs hI hp_9 hQ hS => ?_)
  refine lv_pop hx hb dL_law_537 rfl ?_
  refine lv_aload_n hx hb dL_law_538 rfl (lv_at hl 2 rfl) ?_
  refine lv_aload_n hx hb dL_law_539 rfl (lv_at hl 4 rfl) ?_
  refine lv_iload hx hb dL_law_540 (lv_at hl 0 rfl) ?_
  refine lv_iconst (v := 1) hx hb dL_law_542 (by decide) ?_
  refine lv_iadd hx hb dL_law_543 ?_
  refine lv_topi (fun x_10 ex_10 => ?_)
  have tx_10 : x_10.toInt = i.toInt + 1 := ti_add (A := i.toInt) (B := 1) ex_10 rfl rfl (by omega) (by omega)
  refine va_sld hx hb hX hbl hbA hS (i := x_10) (vin (by omega) (by omega)) dL_law_544 ?_
  refine lv_topi (fun x_11 ex_11 => ?_)
  have qx_11 : x_2 = x_11 := by rw [ex_2, ex_11, show x_1 = x_10 from Int32.toInt_inj.mp (by omega)]
  subst qx_11
  refine lv_aload_n hx hb dL_law_545 rfl (lv_at hl 4 rfl) ?_
  refine lv_iload hx hb dL_law_546 (lv_at hl 0 rfl) ?_
  refine lv_iconst (v := 2) hx hb dL_law_548 (by decide) ?_
  refine lv_iadd hx hb dL_law_549 ?_
  refine lv_topi (fun x_12 ex_12 => ?_)
  have tx_12 : x_12.toInt = i.toInt + 2 := ti_add (A := i.toInt) (B := 2) ex_12 rfl rfl (by omega) (by omega)
  refine va_sld hx hb hX hbl hbA hS (i := x_12) (vin (by omega) (by omega)) dL_law_550 ?_
  refine lv_topi (fun x_13 ex_13 => ?_)
  have qx_13 : x_4 = x_13 := by rw [ex_4, ex_13, show x_3 = x_12 from Int32.toInt_inj.mp (by omega)]
  subst qx_13
  refine lv_aload_n hx hb dL_law_551 rfl (lv_at hl 4 rfl) ?_
  refine lv_iload hx hb dL_law_552 (lv_at hl 0 rfl) ?_
  refine lv_iconst (v := 3) hx hb dL_law_554 (by decide) ?_
  refine lv_iadd hx hb dL_law_555 ?_
  refine lv_topi (fun x_14 ex_14 => ?_)
  have tx_14 : x_14.toInt = i.toInt + 3 := ti_add (A := i.toInt) (B := 3) ex_14 rfl rfl (by omega) (by omega)
  refine va_sld hx hb hX hbl hbA hS (i := x_14) (vin (by omega) (by omega)) dL_law_556 ?_
  refine lv_topi (fun x_15 ex_15 => ?_)
  have qx_15 : x_6 = x_15 := by rw [ex_6, ex_15, show x_5 = x_14 from Int32.toInt_inj.mp (by omega)]
  subst qx_15
  have hQ := PDs.front hQ
  refine hm_falls X hA hM hQ hS hl (rest := []) (Nat.le_of_ble_eq_true rfl) dL_law_557 mL_54 (by omega) (by omega) x_2 x_4 x_6 (fun r_16 M_17 w H locs hM hp_18 hQ hS => ?_)
  have hR := s9_falls hR hp_9 hp_18
  have hQ := PDs.behind hQ
  refine lv_pop hx hb dL_law_560 rfl ?_
  refine lv_goto (tgt := 1924) hx hb dL_law_561 (by decide) ?_
  exact kk K_8 M_17 ss w of H locs _ cells slots hR hI hM hQ hS (lv_sub hl [0, 1, 2, 3, 4] rfl) (by omega) (by omega)
set_option maxHeartbeats 4000000 in
set_option maxRecDepth 100000 in
theorem law_c8 (hl9 : l.stackTraces = false) (C0 : lw_At p s m meth c b N xs) (hN : N ≤ 3072) (X : fx p s m c code 7 #[Value.ref b] RL dC dI cy hp A) (hA : ∀ q, s.heap.size ≤ q → A q) (hbA : ¬ A b) {x mm ob : Nat} {of : Nat → Int64} {K : CS} {M : MS} {ss : List va_W} {w : va_W} (hR : R9 K M) (hi0 : 0 ≤ i.toInt) (hi6 : i.toInt + 6 ≤ (N : Int)) (hI : HI cy x K ss) (hM : NI cy mm M w) (hQ : PDs dC dI A (ss ++ [w ++ [(ob, .inl (cy 2, 1, .inr (.inl of)))]]) H) (hS : va_S A s.heap H locs) (hl : lv_has ls 7 [(4, .int i), (3, .ref ob), (2, .ref mm), (1, .ref x), (0, .ref b)]) (hc7 : cells ≤ 590000) (hs7 : slots ≤ 7280000) (kk : ∀ (K : CS) (M : MS) (ss : List va_W) (w : va_W) (of : Nat → Int64) (H : Heap) (locs : List Loc) (ls : Array Slot) (cells1 slots1 : Nat), R9 K M → HI cy x K ss → NI cy mm M w → PDs dC dI A (ss ++ [w ++ [(ob, .inl (cy 2, 1, .inr (.inl of)))]]) H → va_S A s.heap H locs → lv_has ls 7 [(4, .int i), (3, .ref ob), (2, .ref mm), (1, .ref x), (0, .ref b)] → cells1 ≤ cells + 20 → slots1 ≤ slots + 100 → W p l e room_1 s m #[Value.ref b] below meth c H locs cells1 slots1 Q (F0 m 1924 ls [])) : W p l e room_1 s m #[Value.ref b] below meth c H locs cells slots Q (F0 m 564 ls []) := by
  obtain ⟨-, -, hr, -, -, -, hX, hbl, hlocks, -⟩ := C0
  have hx := X.1
  have hb := X.2.1
  have hc9 : cells ≤ 599000 := by omega
  have hs9 : slots ≤ 7290000 := by omega
  have hc8 : cells + 1 ≤ 599000 := by omega
  have hs8 : slots + 6 ≤ 7290000 := by omega
  refine lv_aload_n hx hb dL_law_564 rfl (lv_at hl 3 rfl) ?_
  refine lv_aload_n hx hb dL_law_565 rfl (lv_at hl 4 rfl) ?_
  refine lv_iload hx hb dL_law_566 (lv_at hl 0 rfl) ?_
  refine lv_iconst (v := 1) hx hb dL_law_568 (by decide) ?_
  refine lv_iadd hx hb dL_law_569 ?_
  refine lv_topi (fun x_1 ex_1 => ?_)
  have tx_1 : x_1.toInt = i.toInt + 1 := ti_add (A := i.toInt) (B := 1) ex_1 rfl rfl (by omega) (by omega)
  refine va_sld hx hb hX hbl hbA hS (i := x_1) (vin (by omega) (by omega)) dL_law_570 ?_
  refine lv_topi (fun x_2 ex_2 => ?_)
  refine hc_all X hA hI hQ hS hl (rest := []) (Nat.le_of_ble_eq_true rfl) dL_law_571 mL_55 (by omega) (by omega) x_2 (fun r_3 K_4 ss H locs hI hp_5 hQ hS => ?_)
  refine lv_pop hx hb dL_law_574 rfl ?_
  refine lv_aload_n hx hb dL_law_575 rfl (lv_at hl 2 rfl) ?_
  refine lv_aload_n hx hb dL_law_576 rfl (lv_at hl 4 rfl) ?_
  refine lv_iload hx hb dL_law_577 (lv_at hl 0 rfl) ?_
  refine lv_iconst (v := 1) hx hb dL_law_579 (by decide) ?_
  refine lv_iadd hx hb dL_law_580 ?_
  refine lv_topi (fun x_6 ex_6 => ?_)
  have tx_6 : x_6.toInt = i.toInt + 1 := ti_add (A := i.toInt) (B := 1) ex_6 rfl rfl (by omega) (by omega)
  refine va_sld hx hb hX hbl hbA hS (i := x_6) (vin (by omega) (by omega)) dL_law_581 ?_
  refine lv_topi (fun x_7 ex_7 => ?_)
  have qx_7 : x_2 = x_7 := by rw [ex_2, ex_7, show x_1 = x_6 from Int32.toInt_inj.mp (by omega)]
  subst qx_7
  have hQ := PDs.front hQ
  refine hm_all X hA hM hQ hS hl (rest := []) (Nat.le_of_ble_eq_true rfl) dL_law_582 mL_58 (by omega) (by omega) x_2 (fun r_8 M_9 w H locs hM hp_10 hQ hS => ?_)
  have hR := s9_all hR hp_5 hp_10
  have hQ := PDs.behind hQ
  refine lv_pop hx hb dL_law_585 rfl ?_
  refine lv_goto (tgt := 1924) hx hb dL_law_586 (by decide) ?_
  exact kk K_4 M_9 ss w of H locs _ cells slots hR hI hM hQ hS (lv_sub hl [0, 1, 2, 3, 4] rfl) (by omega) (by omega)
set_option maxHeartbeats 4000000 in
set_option maxRecDepth 100000 in
theorem law_c9 (hl9 : l.stackTraces = false) (C0 : lw_At p s m meth c b N xs) (hN : N ≤ 3072) (X : fx p s m c code 7 #[Value.ref b] RL dC dI cy hp A) (hA : ∀ q, s.heap.size ≤ q → A q) (hbA : ¬ A b) {x mm ob : Nat} {of : Nat → Int64} {K : CS} {M : MS} {ss : List va_W} {w : va_W} (hR : R9 K M) (hi0 : 0 ≤ i.toInt) (hi6 : i.toInt + 6 ≤ (N : Int)) (hI : HI cy x K ss) (hM : NI cy mm M w) (hQ : PDs dC dI A (ss ++ [w ++ [(ob, .inl (cy 2, 1, .inr (.inl of)))]]) H) (hS : va_S A s.heap H locs) (hl : lv_has ls 7 [(4, .int i), (3, .ref ob), (2, .ref mm), (1, .ref x), (0, .ref b)]) (hc7 : cells ≤ 590000) (hs7 : slots ≤ 7280000) (kk : ∀ (K : CS) (M : MS) (ss : List va_W) (w : va_W) (of : Nat → Int64) (H : Heap) (locs : List Loc) (ls : Array Slot) (cells1 slots1 : Nat), R9 K M → HI cy x K ss → NI cy mm M w → PDs dC dI A (ss ++ [w ++ [(ob, .inl (cy 2, 1, .inr (.inl of)))]]) H → va_S A s.heap H locs → lv_has ls 7 [(4, .int i), (3, .ref ob), (2, .ref mm), (1, .ref x), (0, .ref b)] → cells1 ≤ cells + 20 → slots1 ≤ slots + 100 → W p l e room_1 s m #[Value.ref b] below meth c H locs cells1 slots1 Q (F0 m 1924 ls [])) : W p l e room_1 s m #[Value.ref b] below meth c H locs cells slots Q (F0 m 589 ls []) := by
  obtain ⟨-, -, hr, -, -, -, hX, hbl, hlocks, -⟩ := C0
  have hx := X.1
  have hb := X.2.1
  have hc9 : cells ≤ 599000 := by omega
  have hs9 : slots ≤ 7290000 := by omega
  have hc8 : cells + 1 ≤ 599000 := by omega
  have hs8 : slots + 6 ≤ 7290000 := by omega
  refine lv_aload_n hx hb dL_law_589 rfl (lv_at hl 3 rfl) ?_
  refine lv_aload_n hx hb dL_law_590 rfl (lv_at hl 4 rfl) ?_
  refine lv_iload hx hb dL_law_591 (lv_at hl 0 rfl) ?_
  refine lv_iconst (v := 1) hx hb dL_law_593 (by decide) ?_
  refine lv_iadd hx hb dL_law_594 ?_
  refine lv_topi (fun x_1 ex_1 => ?_)
  have tx_1 : x_1.toInt = i.toInt + 1 := ti_add (A := i.toInt) (B := 1) ex_1 rfl rfl (by omega) (by omega)
  refine va_sld hx hb hX hbl hbA hS (i := x_1) (vin (by omega) (by omega)) dL_law_595 ?_
  refine lv_topi (fun x_2 ex_2 => ?_)
  refine hc_quick X hA hI hQ hS hl (rest := []) (Nat.le_of_ble_eq_true rfl) dL_law_596 mL_59 (by omega) (by omega) x_2 (fun r_3 K_4 ss H locs hI hp_5 hQ hS => ?_)
  refine lv_pop hx hb dL_law_599 rfl ?_
  refine lv_aload_n hx hb dL_law_600 rfl (lv_at hl 2 rfl) ?_
  refine lv_aload_n hx hb dL_law_601 rfl (lv_at hl 4 rfl) ?_
  refine lv_iload hx hb dL_law_602 (lv_at hl 0 rfl) ?_
  refine lv_iconst (v := 1) hx hb dL_law_604 (by decide) ?_
  refine lv_iadd hx hb dL_law_605 ?_
  refine lv_topi (fun x_6 ex_6 => ?_)
  have tx_6 : x_6.toInt = i.toInt + 1 := ti_add (A := i.toInt) (B := 1) ex_6 rfl rfl (by omega) (by omega)
  refine va_sld hx hb hX hbl hbA hS (i := x_6) (vin (by omega) (by omega)) dL_law_606 ?_
  refine lv_topi (fun x_7 ex_7 => ?_)
  have qx_7 : x_2 = x_7 := by rw [ex_2, ex_7, show x_1 = x_6 from Int32.toInt_inj.mp (by omega)]
  subst qx_7
  have hQ := PDs.front hQ
  refine hm_quick X hA hM hQ hS hl (rest := []) (Nat.le_of_ble_eq_true rfl) dL_law_607 mL_62 (by omega) (by omega) x_2 (fun r_8 M_9 w H locs hM hp_10 hQ hS => ?_)
  have hR := s9_quick hR hp_5 hp_10
  have hQ := PDs.behind hQ
  refine lv_pop hx hb dL_law_610 rfl ?_
  refine lv_goto (tgt := 1924) hx hb dL_law_611 (by decide) ?_
  exact kk K_4 M_9 ss w of H locs _ cells slots hR hI hM hQ hS (lv_sub hl [0, 1, 2, 3, 4] rfl) (by omega) (by omega)
set_option maxHeartbeats 4000000 in
set_option maxRecDepth 100000 in
theorem law_c10 (hl9 : l.stackTraces = false) (C0 : lw_At p s m meth c b N xs) (hN : N ≤ 3072) (X : fx p s m c code 7 #[Value.ref b] RL dC dI cy hp A) (hA : ∀ q, s.heap.size ≤ q → A q) (hbA : ¬ A b) {x mm ob : Nat} {of : Nat → Int64} {K : CS} {M : MS} {ss : List va_W} {w : va_W} (hR : R9 K M) (hi0 : 0 ≤ i.toInt) (hi6 : i.toInt + 6 ≤ (N : Int)) (hI : HI cy x K ss) (hM : NI cy mm M w) (hQ : PDs dC dI A (ss ++ [w ++ [(ob, .inl (cy 2, 1, .inr (.inl of)))]]) H) (hS : va_S A s.heap H locs) (hl : lv_has ls 7 [(4, .int i), (3, .ref ob), (2, .ref mm), (1, .ref x), (0, .ref b)]) (hc7 : cells ≤ 590000) (hs7 : slots ≤ 7280000) (kk : ∀ (K : CS) (M : MS) (ss : List va_W) (w : va_W) (of : Nat → Int64) (H : Heap) (locs : List Loc) (ls : Array Slot) (cells1 slots1 : Nat), R9 K M → HI cy x K ss → NI cy mm M w → PDs dC dI A (ss ++ [w ++ [(ob, .inl (cy 2, 1, .inr (.inl of)))]]) H → va_S A s.heap H locs → lv_has ls 7 [(4, .int i), (3, .ref ob), (2, .ref mm), (1, .ref x), (0, .ref b)] → cells1 ≤ cells + 20 → slots1 ≤ slots + 100 → W p l e room_1 s m #[Value.ref b] below meth c H locs cells1 slots1 Q (F0 m 1924 ls [])) : W p l e room_1 s m #[Value.ref b] below meth c H locs cells slots Q (F0 m 614 ls []) := by
  obtain ⟨-, -, hr, -, -, -, hX, hbl, hlocks, -⟩ := C0
  have hx := X.1
  have hb := X.2.1
  have hc9 : cells ≤ 599000 := by omega
  have hs9 : slots ≤ 7290000 := by omega
  have hc8 : cells + 1 ≤ 599000 := by omega
  have hs8 : slots + 6 ≤ 7290000 := by omega
  refine lv_aload_n hx hb dL_law_614 rfl (lv_at hl 3 rfl) ?_
  refine lv_aload_n hx hb dL_law_615 rfl (lv_at hl 4 rfl) ?_
  refine lv_iload hx hb dL_law_616 (lv_at hl 0 rfl) ?_
  refine lv_iconst (v := 1) hx hb dL_law_618 (by decide) ?_
  refine lv_iadd hx hb dL_law_619 ?_
  refine lv_topi (fun x_1 ex_1 => ?_)
  have tx_1 : x_1.toInt = i.toInt + 1 := ti_add (A := i.toInt) (B := 1) ex_1 rfl rfl (by omega) (by omega)
  refine va_sld hx hb hX hbl hbA hS (i := x_1) (vin (by omega) (by omega)) dL_law_620 ?_
  refine lv_topi (fun x_2 ex_2 => ?_)
  refine hc_quickFalls X hA hI hQ hS hl (rest := []) (Nat.le_of_ble_eq_true rfl) dL_law_621 mL_63 (by omega) (by omega) x_2 (fun r_3 K_4 ss H locs hI hp_5 hQ hS => ?_)
  refine lv_pop hx hb dL_law_624 rfl ?_
  refine lv_aload_n hx hb dL_law_625 rfl (lv_at hl 2 rfl) ?_
  refine lv_aload_n hx hb dL_law_626 rfl (lv_at hl 4 rfl) ?_
  refine lv_iload hx hb dL_law_627 (lv_at hl 0 rfl) ?_
  refine lv_iconst (v := 1) hx hb dL_law_629 (by decide) ?_
  refine lv_iadd hx hb dL_law_630 ?_
  refine lv_topi (fun x_6 ex_6 => ?_)
  have tx_6 : x_6.toInt = i.toInt + 1 := ti_add (A := i.toInt) (B := 1) ex_6 rfl rfl (by omega) (by omega)
  refine va_sld hx hb hX hbl hbA hS (i := x_6) (vin (by omega) (by omega)) dL_law_631 ?_
  refine lv_topi (fun x_7 ex_7 => ?_)
  have qx_7 : x_2 = x_7 := by rw [ex_2, ex_7, show x_1 = x_6 from Int32.toInt_inj.mp (by omega)]
  subst qx_7
  have hQ := PDs.front hQ
  refine hm_quickFalls X hA hM hQ hS hl (rest := []) (Nat.le_of_ble_eq_true rfl) dL_law_632 mL_66 (by omega) (by omega) x_2 (fun r_8 M_9 w H locs hM hp_10 hQ hS => ?_)
  have hR := s9_quickFalls hR hp_5 hp_10
  have hQ := PDs.behind hQ
  refine lv_pop hx hb dL_law_635 rfl ?_
  refine lv_goto (tgt := 1924) hx hb dL_law_636 (by decide) ?_
  exact kk K_4 M_9 ss w of H locs _ cells slots hR hI hM hQ hS (lv_sub hl [0, 1, 2, 3, 4] rfl) (by omega) (by omega)
set_option maxHeartbeats 4000000 in
set_option maxRecDepth 100000 in
theorem law_c11 (hl9 : l.stackTraces = false) (C0 : lw_At p s m meth c b N xs) (hN : N ≤ 3072) (X : fx p s m c code 7 #[Value.ref b] RL dC dI cy hp A) (hA : ∀ q, s.heap.size ≤ q → A q) (hbA : ¬ A b) {x mm ob : Nat} {of : Nat → Int64} {K : CS} {M : MS} {ss : List va_W} {w : va_W} (hR : R9 K M) (hi0 : 0 ≤ i.toInt) (hi6 : i.toInt + 6 ≤ (N : Int)) (hI : HI cy x K ss) (hM : NI cy mm M w) (hQ : PDs dC dI A (ss ++ [w ++ [(ob, .inl (cy 2, 1, .inr (.inl of)))]]) H) (hS : va_S A s.heap H locs) (hl : lv_has ls 7 [(4, .int i), (3, .ref ob), (2, .ref mm), (1, .ref x), (0, .ref b)]) (hc7 : cells ≤ 590000) (hs7 : slots ≤ 7280000) (kk : ∀ (K : CS) (M : MS) (ss : List va_W) (w : va_W) (of : Nat → Int64) (H : Heap) (locs : List Loc) (ls : Array Slot) (cells1 slots1 : Nat), R9 K M → HI cy x K ss → NI cy mm M w → PDs dC dI A (ss ++ [w ++ [(ob, .inl (cy 2, 1, .inr (.inl of)))]]) H → va_S A s.heap H locs → lv_has ls 7 [(4, .int i), (3, .ref ob), (2, .ref mm), (1, .ref x), (0, .ref b)] → cells1 ≤ cells + 20 → slots1 ≤ slots + 100 → W p l e room_1 s m #[Value.ref b] below meth c H locs cells1 slots1 Q (F0 m 1924 ls [])) : W p l e room_1 s m #[Value.ref b] below meth c H locs cells slots Q (F0 m 639 ls []) := by
  obtain ⟨-, -, hr, -, -, -, hX, hbl, hlocks, -⟩ := C0
  have hx := X.1
  have hb := X.2.1
  have hc9 : cells ≤ 599000 := by omega
  have hs9 : slots ≤ 7290000 := by omega
  have hc8 : cells + 1 ≤ 599000 := by omega
  have hs8 : slots + 6 ≤ 7290000 := by omega
  refine lv_aload_n hx hb dL_law_639 rfl (lv_at hl 3 rfl) ?_
  refine lv_aload_n hx hb dL_law_640 rfl (lv_at hl 4 rfl) ?_
  refine lv_iload hx hb dL_law_641 (lv_at hl 0 rfl) ?_
  refine lv_iconst (v := 1) hx hb dL_law_643 (by decide) ?_
  refine lv_iadd hx hb dL_law_644 ?_
  refine lv_topi (fun x_1 ex_1 => ?_)
  have tx_1 : x_1.toInt = i.toInt + 1 := ti_add (A := i.toInt) (B := 1) ex_1 rfl rfl (by omega) (by omega)
  refine va_sld hx hb hX hbl hbA hS (i := x_1) (vin (by omega) (by omega)) dL_law_645 ?_
  refine lv_topi (fun x_2 ex_2 => ?_)
  refine lv_aload_n hx hb dL_law_646 rfl (lv_at hl 4 rfl) ?_
  refine lv_iload hx hb dL_law_647 (lv_at hl 0 rfl) ?_
  refine lv_iconst (v := 2) hx hb dL_law_649 (by decide) ?_
  refine lv_iadd hx hb dL_law_650 ?_
  refine lv_topi (fun x_3 ex_3 => ?_)
  have tx_3 : x_3.toInt = i.toInt + 2 := ti_add (A := i.toInt) (B := 2) ex_3 rfl rfl (by omega) (by omega)
  refine va_sld hx hb hX hbl hbA hS (i := x_3) (vin (by omega) (by omega)) dL_law_651 ?_
  refine lv_topi (fun x_4 ex_4 => ?_)
  refine hc_quickAt X hA hI hQ hS hl (rest := []) (Nat.le_of_ble_eq_true rfl) dL_law_652 mL_67 (by omega) (by omega) x_2 x_4 (fun r_5 K_6 ss H locs hI hp_7 hQ hS => ?_)
  refine lv_pop hx hb dL_law_655 rfl ?_
  refine lv_aload_n hx hb dL_law_656 rfl (lv_at hl 2 rfl) ?_
  refine lv_aload_n hx hb dL_law_657 rfl (lv_at hl 4 rfl) ?_
  refine lv_iload hx hb dL_law_658 (lv_at hl 0 rfl) ?_
  refine lv_iconst (v := 1) hx hb dL_law_660 (by decide) ?_
  refine lv_iadd hx hb dL_law_661 ?_
  refine lv_topi (fun x_8 ex_8 => ?_)
  have tx_8 : x_8.toInt = i.toInt + 1 := ti_add (A := i.toInt) (B := 1) ex_8 rfl rfl (by omega) (by omega)
  refine va_sld hx hb hX hbl hbA hS (i := x_8) (vin (by omega) (by omega)) dL_law_662 ?_
  refine lv_topi (fun x_9 ex_9 => ?_)
  have qx_9 : x_2 = x_9 := by rw [ex_2, ex_9, show x_1 = x_8 from Int32.toInt_inj.mp (by omega)]
  subst qx_9
  refine lv_aload_n hx hb dL_law_663 rfl (lv_at hl 4 rfl) ?_
  refine lv_iload hx hb dL_law_664 (lv_at hl 0 rfl) ?_
  refine lv_iconst (v := 2) hx hb dL_law_666 (by decide) ?_
  refine lv_iadd hx hb dL_law_667 ?_
  refine lv_topi (fun x_10 ex_10 => ?_)
  have tx_10 : x_10.toInt = i.toInt + 2 := ti_add (A := i.toInt) (B := 2) ex_10 rfl rfl (by omega) (by omega)
  refine va_sld hx hb hX hbl hbA hS (i := x_10) (vin (by omega) (by omega)) dL_law_668 ?_
  refine lv_topi (fun x_11 ex_11 => ?_)
  have qx_11 : x_4 = x_11 := by rw [ex_4, ex_11, show x_3 = x_10 from Int32.toInt_inj.mp (by omega)]
  subst qx_11
  have hQ := PDs.front hQ
  refine hm_quickAt X hA hM hQ hS hl (rest := []) (Nat.le_of_ble_eq_true rfl) dL_law_669 mL_70 (by omega) (by omega) x_2 x_4 (fun r_12 M_13 w H locs hM hp_14 hQ hS => ?_)
  have hR := s9_quickAt hR hp_7 hp_14
  have hQ := PDs.behind hQ
  refine lv_pop hx hb dL_law_672 rfl ?_
  refine lv_goto (tgt := 1924) hx hb dL_law_673 (by decide) ?_
  exact kk K_6 M_13 ss w of H locs _ cells slots hR hI hM hQ hS (lv_sub hl [0, 1, 2, 3, 4] rfl) (by omega) (by omega)
set_option maxHeartbeats 4000000 in
set_option maxRecDepth 100000 in
theorem law_c12 (hl9 : l.stackTraces = false) (C0 : lw_At p s m meth c b N xs) (hN : N ≤ 3072) (X : fx p s m c code 7 #[Value.ref b] RL dC dI cy hp A) (hA : ∀ q, s.heap.size ≤ q → A q) (hbA : ¬ A b) {x mm ob : Nat} {of : Nat → Int64} {K : CS} {M : MS} {ss : List va_W} {w : va_W} (hR : R9 K M) (hi0 : 0 ≤ i.toInt) (hi6 : i.toInt + 6 ≤ (N : Int)) (hI : HI cy x K ss) (hM : NI cy mm M w) (hQ : PDs dC dI A (ss ++ [w ++ [(ob, .inl (cy 2, 1, .inr (.inl of)))]]) H) (hS : va_S A s.heap H locs) (hl : lv_has ls 7 [(4, .int i), (3, .ref ob), (2, .ref mm), (1, .ref x), (0, .ref b)]) (hc7 : cells ≤ 590000) (hs7 : slots ≤ 7280000) (kk : ∀ (K : CS) (M : MS) (ss : List va_W) (w : va_W) (of : Nat → Int64) (H : Heap) (locs : List Loc) (ls : Array Slot) (cells1 slots1 : Nat), R9 K M → HI cy x K ss → NI cy mm M w → PDs dC dI A (ss ++ [w ++ [(ob, .inl (cy 2, 1, .inr (.inl of)))]]) H → va_S A s.heap H locs → lv_has ls 7 [(4, .int i), (3, .ref ob), (2, .ref mm), (1, .ref x), (0, .ref b)] → cells1 ≤ cells + 20 → slots1 ≤ slots + 100 → W p l e room_1 s m #[Value.ref b] below meth c H locs cells1 slots1 Q (F0 m 1924 ls [])) : W p l e room_1 s m #[Value.ref b] below meth c H locs cells slots Q (F0 m 676 ls []) := by
  obtain ⟨-, -, hr, -, -, -, hX, hbl, hlocks, -⟩ := C0
  have hx := X.1
  have hb := X.2.1
  have hc9 : cells ≤ 599000 := by omega
  have hs9 : slots ≤ 7290000 := by omega
  have hc8 : cells + 1 ≤ 599000 := by omega
  have hs8 : slots + 6 ≤ 7290000 := by omega
  refine lv_aload_n hx hb dL_law_676 rfl (lv_at hl 3 rfl) ?_
  refine lv_aload_n hx hb dL_law_677 rfl (lv_at hl 4 rfl) ?_
  refine lv_iload hx hb dL_law_678 (lv_at hl 0 rfl) ?_
  refine lv_iconst (v := 1) hx hb dL_law_680 (by decide) ?_
  refine lv_iadd hx hb dL_law_681 ?_
  refine lv_topi (fun x_1 ex_1 => ?_)
  have tx_1 : x_1.toInt = i.toInt + 1 := ti_add (A := i.toInt) (B := 1) ex_1 rfl rfl (by omega) (by omega)
  refine va_sld hx hb hX hbl hbA hS (i := x_1) (vin (by omega) (by omega)) dL_law_682 ?_
  refine lv_topi (fun x_2 ex_2 => ?_)
  refine hc_dry X hA hI hQ hS hl (rest := []) (Nat.le_of_ble_eq_true rfl) dL_law_683 mL_71 (by omega) (by omega) x_2 (fun r_3 K_4 ss H locs hI hp_5 hQ hS => ?_)
  refine lv_pop hx hb dL_law_686 rfl ?_
  refine lv_aload_n hx hb dL_law_687 rfl (lv_at hl 2 rfl) ?_
  refine lv_aload_n hx hb dL_law_688 rfl (lv_at hl 4 rfl) ?_
  refine lv_iload hx hb dL_law_689 (lv_at hl 0 rfl) ?_
  refine lv_iconst (v := 1) hx hb dL_law_691 (by decide) ?_
  refine lv_iadd hx hb dL_law_692 ?_
  refine lv_topi (fun x_6 ex_6 => ?_)
  have tx_6 : x_6.toInt = i.toInt + 1 := ti_add (A := i.toInt) (B := 1) ex_6 rfl rfl (by omega) (by omega)
  refine va_sld hx hb hX hbl hbA hS (i := x_6) (vin (by omega) (by omega)) dL_law_693 ?_
  refine lv_topi (fun x_7 ex_7 => ?_)
  have qx_7 : x_2 = x_7 := by rw [ex_2, ex_7, show x_1 = x_6 from Int32.toInt_inj.mp (by omega)]
  subst qx_7
  have hQ := PDs.front hQ
  refine hm_dry X hA hM hQ hS hl (rest := []) (Nat.le_of_ble_eq_true rfl) dL_law_694 mL_74 (by omega) (by omega) x_2 (fun r_8 M_9 w H locs hM hp_10 hQ hS => ?_)
  have hR := s9_dry hR hp_5 hp_10
  have hQ := PDs.behind hQ
  refine lv_pop hx hb dL_law_697 rfl ?_
  refine lv_goto (tgt := 1924) hx hb dL_law_698 (by decide) ?_
  exact kk K_4 M_9 ss w of H locs _ cells slots hR hI hM hQ hS (lv_sub hl [0, 1, 2, 3, 4] rfl) (by omega) (by omega)
set_option maxHeartbeats 4000000 in
set_option maxRecDepth 100000 in
theorem law_c13 (hl9 : l.stackTraces = false) (C0 : lw_At p s m meth c b N xs) (hN : N ≤ 3072) (X : fx p s m c code 7 #[Value.ref b] RL dC dI cy hp A) (hA : ∀ q, s.heap.size ≤ q → A q) (hbA : ¬ A b) {x mm ob : Nat} {of : Nat → Int64} {K : CS} {M : MS} {ss : List va_W} {w : va_W} (hR : R9 K M) (hi0 : 0 ≤ i.toInt) (hi6 : i.toInt + 6 ≤ (N : Int)) (hI : HI cy x K ss) (hM : NI cy mm M w) (hQ : PDs dC dI A (ss ++ [w ++ [(ob, .inl (cy 2, 1, .inr (.inl of)))]]) H) (hS : va_S A s.heap H locs) (hl : lv_has ls 7 [(4, .int i), (3, .ref ob), (2, .ref mm), (1, .ref x), (0, .ref b)]) (hc7 : cells ≤ 590000) (hs7 : slots ≤ 7280000) (kk : ∀ (K : CS) (M : MS) (ss : List va_W) (w : va_W) (of : Nat → Int64) (H : Heap) (locs : List Loc) (ls : Array Slot) (cells1 slots1 : Nat), R9 K M → HI cy x K ss → NI cy mm M w → PDs dC dI A (ss ++ [w ++ [(ob, .inl (cy 2, 1, .inr (.inl of)))]]) H → va_S A s.heap H locs → lv_has ls 7 [(4, .int i), (3, .ref ob), (2, .ref mm), (1, .ref x), (0, .ref b)] → cells1 ≤ cells + 20 → slots1 ≤ slots + 100 → W p l e room_1 s m #[Value.ref b] below meth c H locs cells1 slots1 Q (F0 m 1924 ls [])) : W p l e room_1 s m #[Value.ref b] below meth c H locs cells slots Q (F0 m 701 ls []) := by
  obtain ⟨-, -, hr, -, -, -, hX, hbl, hlocks, -⟩ := C0
  have hx := X.1
  have hb := X.2.1
  have hc9 : cells ≤ 599000 := by omega
  have hs9 : slots ≤ 7290000 := by omega
  have hc8 : cells + 1 ≤ 599000 := by omega
  have hs8 : slots + 6 ≤ 7290000 := by omega
  refine lv_aload_n hx hb dL_law_701 rfl (lv_at hl 3 rfl) ?_
  refine lv_aload_n hx hb dL_law_702 rfl (lv_at hl 4 rfl) ?_
  refine lv_iload hx hb dL_law_703 (lv_at hl 0 rfl) ?_
  refine lv_iconst (v := 1) hx hb dL_law_705 (by decide) ?_
  refine lv_iadd hx hb dL_law_706 ?_
  refine lv_topi (fun x_1 ex_1 => ?_)
  have tx_1 : x_1.toInt = i.toInt + 1 := ti_add (A := i.toInt) (B := 1) ex_1 rfl rfl (by omega) (by omega)
  refine va_sld hx hb hX hbl hbA hS (i := x_1) (vin (by omega) (by omega)) dL_law_707 ?_
  refine lv_topi (fun x_2 ex_2 => ?_)
  refine hc_dryMinutes X hA hI hQ hS hl (rest := []) (Nat.le_of_ble_eq_true rfl) dL_law_708 mL_75 (by omega) (by omega) x_2 (fun r_3 K_4 ss H locs hI hp_5 hQ hS => ?_)
  refine lv_pop hx hb dL_law_711 rfl ?_
  refine lv_aload_n hx hb dL_law_712 rfl (lv_at hl 2 rfl) ?_
  refine lv_aload_n hx hb dL_law_713 rfl (lv_at hl 4 rfl) ?_
  refine lv_iload hx hb dL_law_714 (lv_at hl 0 rfl) ?_
  refine lv_iconst (v := 1) hx hb dL_law_716 (by decide) ?_
  refine lv_iadd hx hb dL_law_717 ?_
  refine lv_topi (fun x_6 ex_6 => ?_)
  have tx_6 : x_6.toInt = i.toInt + 1 := ti_add (A := i.toInt) (B := 1) ex_6 rfl rfl (by omega) (by omega)
  refine va_sld hx hb hX hbl hbA hS (i := x_6) (vin (by omega) (by omega)) dL_law_718 ?_
  refine lv_topi (fun x_7 ex_7 => ?_)
  have qx_7 : x_2 = x_7 := by rw [ex_2, ex_7, show x_1 = x_6 from Int32.toInt_inj.mp (by omega)]
  subst qx_7
  have hQ := PDs.front hQ
  refine hm_dryMinutes X hA hM hQ hS hl (rest := []) (Nat.le_of_ble_eq_true rfl) dL_law_719 mL_78 (by omega) (by omega) x_2 (fun r_8 M_9 w H locs hM hp_10 hQ hS => ?_)
  have hR := s9_dryMinutes hR hp_5 hp_10
  have hQ := PDs.behind hQ
  refine lv_pop hx hb dL_law_722 rfl ?_
  refine lv_goto (tgt := 1924) hx hb dL_law_723 (by decide) ?_
  exact kk K_4 M_9 ss w of H locs _ cells slots hR hI hM hQ hS (lv_sub hl [0, 1, 2, 3, 4] rfl) (by omega) (by omega)
set_option maxHeartbeats 4000000 in
set_option maxRecDepth 100000 in
theorem law_c14 (hl9 : l.stackTraces = false) (C0 : lw_At p s m meth c b N xs) (hN : N ≤ 3072) (X : fx p s m c code 7 #[Value.ref b] RL dC dI cy hp A) (hA : ∀ q, s.heap.size ≤ q → A q) (hbA : ¬ A b) {x mm ob : Nat} {of : Nat → Int64} {K : CS} {M : MS} {ss : List va_W} {w : va_W} (hR : R9 K M) (hi0 : 0 ≤ i.toInt) (hi6 : i.toInt + 6 ≤ (N : Int)) (hI : HI cy x K ss) (hM : NI cy mm M w) (hQ : PDs dC dI A (ss ++ [w ++ [(ob, .inl (cy 2, 1, .inr (.inl of)))]]) H) (hS : va_S A s.heap H locs) (hl : lv_has ls 7 [(4, .int i), (3, .ref ob), (2, .ref mm), (1, .ref x), (0, .ref b)]) (hc7 : cells ≤ 590000) (hs7 : slots ≤ 7280000) (kk : ∀ (K : CS) (M : MS) (ss : List va_W) (w : va_W) (of : Nat → Int64) (H : Heap) (locs : List Loc) (ls : Array Slot) (cells1 slots1 : Nat), R9 K M → HI cy x K ss → NI cy mm M w → PDs dC dI A (ss ++ [w ++ [(ob, .inl (cy 2, 1, .inr (.inl of)))]]) H → va_S A s.heap H locs → lv_has ls 7 [(4, .int i), (3, .ref ob), (2, .ref mm), (1, .ref x), (0, .ref b)] → cells1 ≤ cells + 20 → slots1 ≤ slots + 100 → W p l e room_1 s m #[Value.ref b] below meth c H locs cells1 slots1 Q (F0 m 1924 ls [])) : W p l e room_1 s m #[Value.ref b] below meth c H locs cells slots Q (F0 m 726 ls []) := by
  obtain ⟨-, -, hr, -, -, -, hX, hbl, hlocks, -⟩ := C0
  have hx := X.1
  have hb := X.2.1
  have hc9 : cells ≤ 599000 := by omega
  have hs9 : slots ≤ 7290000 := by omega
  have hc8 : cells + 1 ≤ 599000 := by omega
  have hs8 : slots + 6 ≤ 7290000 := by omega
  refine lv_aload_n hx hb dL_law_726 rfl (lv_at hl 3 rfl) ?_
  refine lv_aload_n hx hb dL_law_727 rfl (lv_at hl 4 rfl) ?_
  refine lv_iload hx hb dL_law_728 (lv_at hl 0 rfl) ?_
  refine lv_iconst (v := 1) hx hb dL_law_730 (by decide) ?_
  refine lv_iadd hx hb dL_law_731 ?_
  refine lv_topi (fun x_1 ex_1 => ?_)
  have tx_1 : x_1.toInt = i.toInt + 1 := ti_add (A := i.toInt) (B := 1) ex_1 rfl rfl (by omega) (by omega)
  refine va_sld hx hb hX hbl hbA hS (i := x_1) (vin (by omega) (by omega)) dL_law_732 ?_
  refine lv_topi (fun x_2 ex_2 => ?_)
  refine lv_aload_n hx hb dL_law_733 rfl (lv_at hl 4 rfl) ?_
  refine lv_iload hx hb dL_law_734 (lv_at hl 0 rfl) ?_
  refine lv_iconst (v := 2) hx hb dL_law_736 (by decide) ?_
  refine lv_iadd hx hb dL_law_737 ?_
  refine lv_topi (fun x_3 ex_3 => ?_)
  have tx_3 : x_3.toInt = i.toInt + 2 := ti_add (A := i.toInt) (B := 2) ex_3 rfl rfl (by omega) (by omega)
  refine va_sld hx hb hX hbl hbA hS (i := x_3) (vin (by omega) (by omega)) dL_law_738 ?_
  refine lv_topi (fun x_4 ex_4 => ?_)
  refine hc_dryAt X hA hI hQ hS hl (rest := []) (Nat.le_of_ble_eq_true rfl) dL_law_739 mL_79 (by omega) (by omega) x_2 x_4 (fun r_5 K_6 ss H locs hI hp_7 hQ hS => ?_)
  refine lv_pop hx hb dL_law_742 rfl ?_
  refine lv_aload_n hx hb dL_law_743 rfl (lv_at hl 2 rfl) ?_
  refine lv_aload_n hx hb dL_law_744 rfl (lv_at hl 4 rfl) ?_
  refine lv_iload hx hb dL_law_745 (lv_at hl 0 rfl) ?_
  refine lv_iconst (v := 1) hx hb dL_law_747 (by decide) ?_
  refine lv_iadd hx hb dL_law_748 ?_
  refine lv_topi (fun x_8 ex_8 => ?_)
  have tx_8 : x_8.toInt = i.toInt + 1 := ti_add (A := i.toInt) (B := 1) ex_8 rfl rfl (by omega) (by omega)
  refine va_sld hx hb hX hbl hbA hS (i := x_8) (vin (by omega) (by omega)) dL_law_749 ?_
  refine lv_topi (fun x_9 ex_9 => ?_)
  have qx_9 : x_2 = x_9 := by rw [ex_2, ex_9, show x_1 = x_8 from Int32.toInt_inj.mp (by omega)]
  subst qx_9
  refine lv_aload_n hx hb dL_law_750 rfl (lv_at hl 4 rfl) ?_
  refine lv_iload hx hb dL_law_751 (lv_at hl 0 rfl) ?_
  refine lv_iconst (v := 2) hx hb dL_law_753 (by decide) ?_
  refine lv_iadd hx hb dL_law_754 ?_
  refine lv_topi (fun x_10 ex_10 => ?_)
  have tx_10 : x_10.toInt = i.toInt + 2 := ti_add (A := i.toInt) (B := 2) ex_10 rfl rfl (by omega) (by omega)
  refine va_sld hx hb hX hbl hbA hS (i := x_10) (vin (by omega) (by omega)) dL_law_755 ?_
  refine lv_topi (fun x_11 ex_11 => ?_)
  have qx_11 : x_4 = x_11 := by rw [ex_4, ex_11, show x_3 = x_10 from Int32.toInt_inj.mp (by omega)]
  subst qx_11
  have hQ := PDs.front hQ
  refine hm_dryAt X hA hM hQ hS hl (rest := []) (Nat.le_of_ble_eq_true rfl) dL_law_756 mL_82 (by omega) (by omega) x_2 x_4 (fun r_12 M_13 w H locs hM hp_14 hQ hS => ?_)
  have hR := s9_dryAt hR hp_7 hp_14
  have hQ := PDs.behind hQ
  refine lv_pop hx hb dL_law_759 rfl ?_
  refine lv_goto (tgt := 1924) hx hb dL_law_760 (by decide) ?_
  exact kk K_6 M_13 ss w of H locs _ cells slots hR hI hM hQ hS (lv_sub hl [0, 1, 2, 3, 4] rfl) (by omega) (by omega)
set_option maxHeartbeats 4000000 in
set_option maxRecDepth 100000 in
theorem law_c15 (hl9 : l.stackTraces = false) (C0 : lw_At p s m meth c b N xs) (hN : N ≤ 3072) (X : fx p s m c code 7 #[Value.ref b] RL dC dI cy hp A) (hA : ∀ q, s.heap.size ≤ q → A q) (hbA : ¬ A b) {x mm ob : Nat} {of : Nat → Int64} {K : CS} {M : MS} {ss : List va_W} {w : va_W} (hR : R9 K M) (hi0 : 0 ≤ i.toInt) (hi6 : i.toInt + 6 ≤ (N : Int)) (hI : HI cy x K ss) (hM : NI cy mm M w) (hQ : PDs dC dI A (ss ++ [w ++ [(ob, .inl (cy 2, 1, .inr (.inl of)))]]) H) (hS : va_S A s.heap H locs) (hl : lv_has ls 7 [(4, .int i), (3, .ref ob), (2, .ref mm), (1, .ref x), (0, .ref b)]) (hc7 : cells ≤ 590000) (hs7 : slots ≤ 7280000) (kk : ∀ (K : CS) (M : MS) (ss : List va_W) (w : va_W) (of : Nat → Int64) (H : Heap) (locs : List Loc) (ls : Array Slot) (cells1 slots1 : Nat), R9 K M → HI cy x K ss → NI cy mm M w → PDs dC dI A (ss ++ [w ++ [(ob, .inl (cy 2, 1, .inr (.inl of)))]]) H → va_S A s.heap H locs → lv_has ls 7 [(4, .int i), (3, .ref ob), (2, .ref mm), (1, .ref x), (0, .ref b)] → cells1 ≤ cells + 20 → slots1 ≤ slots + 100 → W p l e room_1 s m #[Value.ref b] below meth c H locs cells1 slots1 Q (F0 m 1924 ls [])) : W p l e room_1 s m #[Value.ref b] below meth c H locs cells slots Q (F0 m 763 ls []) := by
  obtain ⟨-, -, hr, -, -, -, hX, hbl, hlocks, -⟩ := C0
  have hx := X.1
  have hb := X.2.1
  have hc9 : cells ≤ 599000 := by omega
  have hs9 : slots ≤ 7290000 := by omega
  have hc8 : cells + 1 ≤ 599000 := by omega
  have hs8 : slots + 6 ≤ 7290000 := by omega
  refine lv_aload_n hx hb dL_law_763 rfl (lv_at hl 3 rfl) ?_
  refine lv_aload_n hx hb dL_law_764 rfl (lv_at hl 4 rfl) ?_
  refine lv_iload hx hb dL_law_765 (lv_at hl 0 rfl) ?_
  refine lv_iconst (v := 1) hx hb dL_law_767 (by decide) ?_
  refine lv_iadd hx hb dL_law_768 ?_
  refine lv_topi (fun x_1 ex_1 => ?_)
  have tx_1 : x_1.toInt = i.toInt + 1 := ti_add (A := i.toInt) (B := 1) ex_1 rfl rfl (by omega) (by omega)
  refine va_sld hx hb hX hbl hbA hS (i := x_1) (vin (by omega) (by omega)) dL_law_769 ?_
  refine lv_topi (fun x_2 ex_2 => ?_)
  refine hc_reach X hA hI hQ hS hl (rest := []) (Nat.le_of_ble_eq_true rfl) dL_law_770 mL_83 (by omega) (by omega) x_2 (fun r_3 K_4 ss H locs hI hp_5 hQ hS => ?_)
  refine lv_pop hx hb dL_law_773 rfl ?_
  refine lv_aload_n hx hb dL_law_774 rfl (lv_at hl 2 rfl) ?_
  refine lv_aload_n hx hb dL_law_775 rfl (lv_at hl 4 rfl) ?_
  refine lv_iload hx hb dL_law_776 (lv_at hl 0 rfl) ?_
  refine lv_iconst (v := 1) hx hb dL_law_778 (by decide) ?_
  refine lv_iadd hx hb dL_law_779 ?_
  refine lv_topi (fun x_6 ex_6 => ?_)
  have tx_6 : x_6.toInt = i.toInt + 1 := ti_add (A := i.toInt) (B := 1) ex_6 rfl rfl (by omega) (by omega)
  refine va_sld hx hb hX hbl hbA hS (i := x_6) (vin (by omega) (by omega)) dL_law_780 ?_
  refine lv_topi (fun x_7 ex_7 => ?_)
  have qx_7 : x_2 = x_7 := by rw [ex_2, ex_7, show x_1 = x_6 from Int32.toInt_inj.mp (by omega)]
  subst qx_7
  have hQ := PDs.front hQ
  refine hm_reach X hA hM hQ hS hl (rest := []) (Nat.le_of_ble_eq_true rfl) dL_law_781 mL_86 (by omega) (by omega) x_2 (fun r_8 M_9 w H locs hM hp_10 hQ hS => ?_)
  have hR := s9_reach hR hp_5 hp_10
  have hQ := PDs.behind hQ
  refine lv_pop hx hb dL_law_784 rfl ?_
  refine lv_goto (tgt := 1924) hx hb dL_law_785 (by decide) ?_
  exact kk K_4 M_9 ss w of H locs _ cells slots hR hI hM hQ hS (lv_sub hl [0, 1, 2, 3, 4] rfl) (by omega) (by omega)
set_option maxHeartbeats 4000000 in
set_option maxRecDepth 100000 in
theorem law_c16 (hl9 : l.stackTraces = false) (C0 : lw_At p s m meth c b N xs) (hN : N ≤ 3072) (X : fx p s m c code 7 #[Value.ref b] RL dC dI cy hp A) (hA : ∀ q, s.heap.size ≤ q → A q) (hbA : ¬ A b) {x mm ob : Nat} {of : Nat → Int64} {K : CS} {M : MS} {ss : List va_W} {w : va_W} (hR : R9 K M) (hi0 : 0 ≤ i.toInt) (hi6 : i.toInt + 6 ≤ (N : Int)) (hI : HI cy x K ss) (hM : NI cy mm M w) (hQ : PDs dC dI A (ss ++ [w ++ [(ob, .inl (cy 2, 1, .inr (.inl of)))]]) H) (hS : va_S A s.heap H locs) (hl : lv_has ls 7 [(4, .int i), (3, .ref ob), (2, .ref mm), (1, .ref x), (0, .ref b)]) (hc7 : cells ≤ 590000) (hs7 : slots ≤ 7280000) (kk : ∀ (K : CS) (M : MS) (ss : List va_W) (w : va_W) (of : Nat → Int64) (H : Heap) (locs : List Loc) (ls : Array Slot) (cells1 slots1 : Nat), R9 K M → HI cy x K ss → NI cy mm M w → PDs dC dI A (ss ++ [w ++ [(ob, .inl (cy 2, 1, .inr (.inl of)))]]) H → va_S A s.heap H locs → lv_has ls 7 [(4, .int i), (3, .ref ob), (2, .ref mm), (1, .ref x), (0, .ref b)] → cells1 ≤ cells + 20 → slots1 ≤ slots + 100 → W p l e room_1 s m #[Value.ref b] below meth c H locs cells1 slots1 Q (F0 m 1924 ls [])) : W p l e room_1 s m #[Value.ref b] below meth c H locs cells slots Q (F0 m 788 ls []) := by
  obtain ⟨-, -, hr, -, -, -, hX, hbl, hlocks, -⟩ := C0
  have hx := X.1
  have hb := X.2.1
  have hc9 : cells ≤ 599000 := by omega
  have hs9 : slots ≤ 7290000 := by omega
  have hc8 : cells + 1 ≤ 599000 := by omega
  have hs8 : slots + 6 ≤ 7290000 := by omega
  refine lv_aload_n hx hb dL_law_788 rfl (lv_at hl 3 rfl) ?_
  refine lv_aload_n hx hb dL_law_789 rfl (lv_at hl 4 rfl) ?_
  refine lv_iload hx hb dL_law_790 (lv_at hl 0 rfl) ?_
  refine lv_iconst (v := 1) hx hb dL_law_792 (by decide) ?_
  refine lv_iadd hx hb dL_law_793 ?_
  refine lv_topi (fun x_1 ex_1 => ?_)
  have tx_1 : x_1.toInt = i.toInt + 1 := ti_add (A := i.toInt) (B := 1) ex_1 rfl rfl (by omega) (by omega)
  refine va_sld hx hb hX hbl hbA hS (i := x_1) (vin (by omega) (by omega)) dL_law_794 ?_
  refine lv_topi (fun x_2 ex_2 => ?_)
  refine lv_aload_n hx hb dL_law_795 rfl (lv_at hl 4 rfl) ?_
  refine lv_iload hx hb dL_law_796 (lv_at hl 0 rfl) ?_
  refine lv_iconst (v := 2) hx hb dL_law_798 (by decide) ?_
  refine lv_iadd hx hb dL_law_799 ?_
  refine lv_topi (fun x_3 ex_3 => ?_)
  have tx_3 : x_3.toInt = i.toInt + 2 := ti_add (A := i.toInt) (B := 2) ex_3 rfl rfl (by omega) (by omega)
  refine va_sld hx hb hX hbl hbA hS (i := x_3) (vin (by omega) (by omega)) dL_law_800 ?_
  refine lv_topi (fun x_4 ex_4 => ?_)
  refine hc_reachIn X hA hI hQ hS hl (rest := []) (Nat.le_of_ble_eq_true rfl) dL_law_801 mL_87 (by omega) (by omega) x_2 x_4 (fun r_5 K_6 ss H locs hI hp_7 hQ hS => ?_)
  refine lv_pop hx hb dL_law_804 rfl ?_
  refine lv_aload_n hx hb dL_law_805 rfl (lv_at hl 2 rfl) ?_
  refine lv_aload_n hx hb dL_law_806 rfl (lv_at hl 4 rfl) ?_
  refine lv_iload hx hb dL_law_807 (lv_at hl 0 rfl) ?_
  refine lv_iconst (v := 1) hx hb dL_law_809 (by decide) ?_
  refine lv_iadd hx hb dL_law_810 ?_
  refine lv_topi (fun x_8 ex_8 => ?_)
  have tx_8 : x_8.toInt = i.toInt + 1 := ti_add (A := i.toInt) (B := 1) ex_8 rfl rfl (by omega) (by omega)
  refine va_sld hx hb hX hbl hbA hS (i := x_8) (vin (by omega) (by omega)) dL_law_811 ?_
  refine lv_topi (fun x_9 ex_9 => ?_)
  have qx_9 : x_2 = x_9 := by rw [ex_2, ex_9, show x_1 = x_8 from Int32.toInt_inj.mp (by omega)]
  subst qx_9
  refine lv_aload_n hx hb dL_law_812 rfl (lv_at hl 4 rfl) ?_
  refine lv_iload hx hb dL_law_813 (lv_at hl 0 rfl) ?_
  refine lv_iconst (v := 2) hx hb dL_law_815 (by decide) ?_
  refine lv_iadd hx hb dL_law_816 ?_
  refine lv_topi (fun x_10 ex_10 => ?_)
  have tx_10 : x_10.toInt = i.toInt + 2 := ti_add (A := i.toInt) (B := 2) ex_10 rfl rfl (by omega) (by omega)
  refine va_sld hx hb hX hbl hbA hS (i := x_10) (vin (by omega) (by omega)) dL_law_817 ?_
  refine lv_topi (fun x_11 ex_11 => ?_)
  have qx_11 : x_4 = x_11 := by rw [ex_4, ex_11, show x_3 = x_10 from Int32.toInt_inj.mp (by omega)]
  subst qx_11
  have hQ := PDs.front hQ
  refine hm_reachIn X hA hM hQ hS hl (rest := []) (Nat.le_of_ble_eq_true rfl) dL_law_818 mL_90 (by omega) (by omega) x_2 x_4 (fun r_12 M_13 w H locs hM hp_14 hQ hS => ?_)
  have hR := s9_reachIn hR hp_7 hp_14
  have hQ := PDs.behind hQ
  refine lv_pop hx hb dL_law_821 rfl ?_
  refine lv_goto (tgt := 1924) hx hb dL_law_822 (by decide) ?_
  exact kk K_6 M_13 ss w of H locs _ cells slots hR hI hM hQ hS (lv_sub hl [0, 1, 2, 3, 4] rfl) (by omega) (by omega)
set_option maxHeartbeats 4000000 in
set_option maxRecDepth 100000 in
theorem law_c17 (hl9 : l.stackTraces = false) (C0 : lw_At p s m meth c b N xs) (hN : N ≤ 3072) (X : fx p s m c code 7 #[Value.ref b] RL dC dI cy hp A) (hA : ∀ q, s.heap.size ≤ q → A q) (hbA : ¬ A b) {x mm ob : Nat} {of : Nat → Int64} {K : CS} {M : MS} {ss : List va_W} {w : va_W} (hR : R9 K M) (hi0 : 0 ≤ i.toInt) (hi6 : i.toInt + 6 ≤ (N : Int)) (hI : HI cy x K ss) (hM : NI cy mm M w) (hQ : PDs dC dI A (ss ++ [w ++ [(ob, .inl (cy 2, 1, .inr (.inl of)))]]) H) (hS : va_S A s.heap H locs) (hl : lv_has ls 7 [(4, .int i), (3, .ref ob), (2, .ref mm), (1, .ref x), (0, .ref b)]) (hc7 : cells ≤ 590000) (hs7 : slots ≤ 7280000) (kk : ∀ (K : CS) (M : MS) (ss : List va_W) (w : va_W) (of : Nat → Int64) (H : Heap) (locs : List Loc) (ls : Array Slot) (cells1 slots1 : Nat), R9 K M → HI cy x K ss → NI cy mm M w → PDs dC dI A (ss ++ [w ++ [(ob, .inl (cy 2, 1, .inr (.inl of)))]]) H → va_S A s.heap H locs → lv_has ls 7 [(4, .int i), (3, .ref ob), (2, .ref mm), (1, .ref x), (0, .ref b)] → cells1 ≤ cells + 20 → slots1 ≤ slots + 100 → W p l e room_1 s m #[Value.ref b] below meth c H locs cells1 slots1 Q (F0 m 1924 ls [])) : W p l e room_1 s m #[Value.ref b] below meth c H locs cells slots Q (F0 m 825 ls []) := by
  obtain ⟨-, -, hr, -, -, -, hX, hbl, hlocks, -⟩ := C0
  have hx := X.1
  have hb := X.2.1
  have hc9 : cells ≤ 599000 := by omega
  have hs9 : slots ≤ 7290000 := by omega
  have hc8 : cells + 1 ≤ 599000 := by omega
  have hs8 : slots + 6 ≤ 7290000 := by omega
  refine lv_aload_n hx hb dL_law_825 rfl (lv_at hl 3 rfl) ?_
  refine lv_aload_n hx hb dL_law_826 rfl (lv_at hl 4 rfl) ?_
  refine lv_iload hx hb dL_law_827 (lv_at hl 0 rfl) ?_
  refine lv_iconst (v := 1) hx hb dL_law_829 (by decide) ?_
  refine lv_iadd hx hb dL_law_830 ?_
  refine lv_topi (fun x_1 ex_1 => ?_)
  have tx_1 : x_1.toInt = i.toInt + 1 := ti_add (A := i.toInt) (B := 1) ex_1 rfl rfl (by omega) (by omega)
  refine va_sld hx hb hX hbl hbA hS (i := x_1) (vin (by omega) (by omega)) dL_law_831 ?_
  refine lv_topi (fun x_2 ex_2 => ?_)
  refine lv_aload_n hx hb dL_law_832 rfl (lv_at hl 4 rfl) ?_
  refine lv_iload hx hb dL_law_833 (lv_at hl 0 rfl) ?_
  refine lv_iconst (v := 2) hx hb dL_law_835 (by decide) ?_
  refine lv_iadd hx hb dL_law_836 ?_
  refine lv_topi (fun x_3 ex_3 => ?_)
  have tx_3 : x_3.toInt = i.toInt + 2 := ti_add (A := i.toInt) (B := 2) ex_3 rfl rfl (by omega) (by omega)
  refine va_sld hx hb hX hbl hbA hS (i := x_3) (vin (by omega) (by omega)) dL_law_837 ?_
  refine lv_topi (fun x_4 ex_4 => ?_)
  refine hc_minutesTo X hA hI hQ hS hl (rest := []) (Nat.le_of_ble_eq_true rfl) dL_law_838 mL_91 (by omega) (by omega) x_2 x_4 (fun r_5 K_6 ss H locs hI hp_7 hQ hS => ?_)
  refine lv_pop hx hb dL_law_841 rfl ?_
  refine lv_aload_n hx hb dL_law_842 rfl (lv_at hl 2 rfl) ?_
  refine lv_aload_n hx hb dL_law_843 rfl (lv_at hl 4 rfl) ?_
  refine lv_iload hx hb dL_law_844 (lv_at hl 0 rfl) ?_
  refine lv_iconst (v := 1) hx hb dL_law_846 (by decide) ?_
  refine lv_iadd hx hb dL_law_847 ?_
  refine lv_topi (fun x_8 ex_8 => ?_)
  have tx_8 : x_8.toInt = i.toInt + 1 := ti_add (A := i.toInt) (B := 1) ex_8 rfl rfl (by omega) (by omega)
  refine va_sld hx hb hX hbl hbA hS (i := x_8) (vin (by omega) (by omega)) dL_law_848 ?_
  refine lv_topi (fun x_9 ex_9 => ?_)
  have qx_9 : x_2 = x_9 := by rw [ex_2, ex_9, show x_1 = x_8 from Int32.toInt_inj.mp (by omega)]
  subst qx_9
  refine lv_aload_n hx hb dL_law_849 rfl (lv_at hl 4 rfl) ?_
  refine lv_iload hx hb dL_law_850 (lv_at hl 0 rfl) ?_
  refine lv_iconst (v := 2) hx hb dL_law_852 (by decide) ?_
  refine lv_iadd hx hb dL_law_853 ?_
  refine lv_topi (fun x_10 ex_10 => ?_)
  have tx_10 : x_10.toInt = i.toInt + 2 := ti_add (A := i.toInt) (B := 2) ex_10 rfl rfl (by omega) (by omega)
  refine va_sld hx hb hX hbl hbA hS (i := x_10) (vin (by omega) (by omega)) dL_law_854 ?_
  refine lv_topi (fun x_11 ex_11 => ?_)
  have qx_11 : x_4 = x_11 := by rw [ex_4, ex_11, show x_3 = x_10 from Int32.toInt_inj.mp (by omega)]
  subst qx_11
  have hQ := PDs.front hQ
  refine hm_minutesTo X hA hM hQ hS hl (rest := []) (Nat.le_of_ble_eq_true rfl) dL_law_855 mL_94 (by omega) (by omega) x_2 x_4 (fun r_12 M_13 w H locs hM hp_14 hQ hS => ?_)
  have hR := s9_minutesTo hR hp_7 hp_14
  have hQ := PDs.behind hQ
  refine lv_pop hx hb dL_law_858 rfl ?_
  refine lv_goto (tgt := 1924) hx hb dL_law_859 (by decide) ?_
  exact kk K_6 M_13 ss w of H locs _ cells slots hR hI hM hQ hS (lv_sub hl [0, 1, 2, 3, 4] rfl) (by omega) (by omega)
set_option maxHeartbeats 4000000 in
set_option maxRecDepth 100000 in
theorem law_c18 (hl9 : l.stackTraces = false) (C0 : lw_At p s m meth c b N xs) (hN : N ≤ 3072) (X : fx p s m c code 7 #[Value.ref b] RL dC dI cy hp A) (hA : ∀ q, s.heap.size ≤ q → A q) (hbA : ¬ A b) {x mm ob : Nat} {of : Nat → Int64} {K : CS} {M : MS} {ss : List va_W} {w : va_W} (hR : R9 K M) (hi0 : 0 ≤ i.toInt) (hi6 : i.toInt + 6 ≤ (N : Int)) (hI : HI cy x K ss) (hM : NI cy mm M w) (hQ : PDs dC dI A (ss ++ [w ++ [(ob, .inl (cy 2, 1, .inr (.inl of)))]]) H) (hS : va_S A s.heap H locs) (hl : lv_has ls 7 [(4, .int i), (3, .ref ob), (2, .ref mm), (1, .ref x), (0, .ref b)]) (hc7 : cells ≤ 590000) (hs7 : slots ≤ 7280000) (kk : ∀ (K : CS) (M : MS) (ss : List va_W) (w : va_W) (of : Nat → Int64) (H : Heap) (locs : List Loc) (ls : Array Slot) (cells1 slots1 : Nat), R9 K M → HI cy x K ss → NI cy mm M w → PDs dC dI A (ss ++ [w ++ [(ob, .inl (cy 2, 1, .inr (.inl of)))]]) H → va_S A s.heap H locs → lv_has ls 7 [(4, .int i), (3, .ref ob), (2, .ref mm), (1, .ref x), (0, .ref b)] → cells1 ≤ cells + 20 → slots1 ≤ slots + 100 → W p l e room_1 s m #[Value.ref b] below meth c H locs cells1 slots1 Q (F0 m 1924 ls [])) : W p l e room_1 s m #[Value.ref b] below meth c H locs cells slots Q (F0 m 862 ls []) := by
  obtain ⟨-, -, hr, -, -, -, hX, hbl, hlocks, -⟩ := C0
  have hx := X.1
  have hb := X.2.1
  have hc9 : cells ≤ 599000 := by omega
  have hs9 : slots ≤ 7290000 := by omega
  have hc8 : cells + 1 ≤ 599000 := by omega
  have hs8 : slots + 6 ≤ 7290000 := by omega
  refine lv_aload_n hx hb dL_law_862 rfl (lv_at hl 3 rfl) ?_
  refine hc_latest X hA hI hQ hS hl (rest := []) (Nat.le_of_ble_eq_true rfl) dL_law_863 mL_95 (by omega) (by omega) (fun r_1 K_2 ss H locs hI hp_3 hQ hS => ?_)
  refine lv_pop hx hb dL_law_866 rfl ?_
  refine lv_aload_n hx hb dL_law_867 rfl (lv_at hl 2 rfl) ?_
  have hQ := PDs.front hQ
  refine hm_latest X hA hM hQ hS hl (rest := []) (Nat.le_of_ble_eq_true rfl) dL_law_868 mL_98 (by omega) (by omega) (fun r_4 M_5 w H locs hM hp_6 hQ hS => ?_)
  have hR := s9_latest hR hp_3 hp_6
  have hQ := PDs.behind hQ
  refine lv_pop hx hb dL_law_871 rfl ?_
  refine lv_goto (tgt := 1924) hx hb dL_law_872 (by decide) ?_
  exact kk K_2 M_5 ss w of H locs _ cells slots hR hI hM hQ hS (lv_sub hl [0, 1, 2, 3, 4] rfl) (by omega) (by omega)
set_option maxHeartbeats 4000000 in
set_option maxRecDepth 100000 in
theorem law_c19 (hl9 : l.stackTraces = false) (C0 : lw_At p s m meth c b N xs) (hN : N ≤ 3072) (X : fx p s m c code 7 #[Value.ref b] RL dC dI cy hp A) (hA : ∀ q, s.heap.size ≤ q → A q) (hbA : ¬ A b) {x mm ob : Nat} {of : Nat → Int64} {K : CS} {M : MS} {ss : List va_W} {w : va_W} (hR : R9 K M) (hi0 : 0 ≤ i.toInt) (hi6 : i.toInt + 6 ≤ (N : Int)) (hI : HI cy x K ss) (hM : NI cy mm M w) (hQ : PDs dC dI A (ss ++ [w ++ [(ob, .inl (cy 2, 1, .inr (.inl of)))]]) H) (hS : va_S A s.heap H locs) (hl : lv_has ls 7 [(4, .int i), (3, .ref ob), (2, .ref mm), (1, .ref x), (0, .ref b)]) (hc7 : cells ≤ 590000) (hs7 : slots ≤ 7280000) (kk : ∀ (K : CS) (M : MS) (ss : List va_W) (w : va_W) (of : Nat → Int64) (H : Heap) (locs : List Loc) (ls : Array Slot) (cells1 slots1 : Nat), R9 K M → HI cy x K ss → NI cy mm M w → PDs dC dI A (ss ++ [w ++ [(ob, .inl (cy 2, 1, .inr (.inl of)))]]) H → va_S A s.heap H locs → lv_has ls 7 [(4, .int i), (3, .ref ob), (2, .ref mm), (1, .ref x), (0, .ref b)] → cells1 ≤ cells + 20 → slots1 ≤ slots + 100 → W p l e room_1 s m #[Value.ref b] below meth c H locs cells1 slots1 Q (F0 m 1924 ls [])) : W p l e room_1 s m #[Value.ref b] below meth c H locs cells slots Q (F0 m 875 ls []) := by
  obtain ⟨-, -, hr, -, -, -, hX, hbl, hlocks, -⟩ := C0
  have hx := X.1
  have hb := X.2.1
  have hc9 : cells ≤ 599000 := by omega
  have hs9 : slots ≤ 7290000 := by omega
  have hc8 : cells + 1 ≤ 599000 := by omega
  have hs8 : slots + 6 ≤ 7290000 := by omega
  refine lv_aload_n hx hb dL_law_875 rfl (lv_at hl 3 rfl) ?_
  refine lv_aload_n hx hb dL_law_876 rfl (lv_at hl 4 rfl) ?_
  refine lv_iload hx hb dL_law_877 (lv_at hl 0 rfl) ?_
  refine lv_iconst (v := 1) hx hb dL_law_879 (by decide) ?_
  refine lv_iadd hx hb dL_law_880 ?_
  refine lv_topi (fun x_1 ex_1 => ?_)
  have tx_1 : x_1.toInt = i.toInt + 1 := ti_add (A := i.toInt) (B := 1) ex_1 rfl rfl (by omega) (by omega)
  refine va_sld hx hb hX hbl hbA hS (i := x_1) (vin (by omega) (by omega)) dL_law_881 ?_
  refine lv_topi (fun x_2 ex_2 => ?_)
  refine hc_cut X hA hI hQ hS hl (rest := []) (Nat.le_of_ble_eq_true rfl) dL_law_882 mL_99 (by omega) (by omega) x_2 (fun r_3 K_4 ss H locs hI hp_5 hQ hS => ?_)
  refine lv_pop hx hb dL_law_885 rfl ?_
  refine lv_aload_n hx hb dL_law_886 rfl (lv_at hl 2 rfl) ?_
  refine lv_aload_n hx hb dL_law_887 rfl (lv_at hl 4 rfl) ?_
  refine lv_iload hx hb dL_law_888 (lv_at hl 0 rfl) ?_
  refine lv_iconst (v := 1) hx hb dL_law_890 (by decide) ?_
  refine lv_iadd hx hb dL_law_891 ?_
  refine lv_topi (fun x_6 ex_6 => ?_)
  have tx_6 : x_6.toInt = i.toInt + 1 := ti_add (A := i.toInt) (B := 1) ex_6 rfl rfl (by omega) (by omega)
  refine va_sld hx hb hX hbl hbA hS (i := x_6) (vin (by omega) (by omega)) dL_law_892 ?_
  refine lv_topi (fun x_7 ex_7 => ?_)
  have qx_7 : x_2 = x_7 := by rw [ex_2, ex_7, show x_1 = x_6 from Int32.toInt_inj.mp (by omega)]
  subst qx_7
  have hQ := PDs.front hQ
  refine hm_cut X hA hM hQ hS hl (rest := []) (Nat.le_of_ble_eq_true rfl) dL_law_893 mL_102 (by omega) (by omega) x_2 (fun r_8 M_9 w H locs hM hp_10 hQ hS => ?_)
  have hR := s9_cut hR hp_5 hp_10
  have hQ := PDs.behind hQ
  refine lv_pop hx hb dL_law_896 rfl ?_
  refine lv_goto (tgt := 1924) hx hb dL_law_897 (by decide) ?_
  exact kk K_4 M_9 ss w of H locs _ cells slots hR hI hM hQ hS (lv_sub hl [0, 1, 2, 3, 4] rfl) (by omega) (by omega)
set_option maxHeartbeats 4000000 in
set_option maxRecDepth 100000 in
theorem law_c20 (hl9 : l.stackTraces = false) (C0 : lw_At p s m meth c b N xs) (hN : N ≤ 3072) (X : fx p s m c code 7 #[Value.ref b] RL dC dI cy hp A) (hA : ∀ q, s.heap.size ≤ q → A q) (hbA : ¬ A b) {x mm ob : Nat} {of : Nat → Int64} {K : CS} {M : MS} {ss : List va_W} {w : va_W} (hR : R9 K M) (hi0 : 0 ≤ i.toInt) (hi6 : i.toInt + 6 ≤ (N : Int)) (hI : HI cy x K ss) (hM : NI cy mm M w) (hQ : PDs dC dI A (ss ++ [w ++ [(ob, .inl (cy 2, 1, .inr (.inl of)))]]) H) (hS : va_S A s.heap H locs) (hl : lv_has ls 7 [(4, .int i), (3, .ref ob), (2, .ref mm), (1, .ref x), (0, .ref b)]) (hc7 : cells ≤ 590000) (hs7 : slots ≤ 7280000) (kk : ∀ (K : CS) (M : MS) (ss : List va_W) (w : va_W) (of : Nat → Int64) (H : Heap) (locs : List Loc) (ls : Array Slot) (cells1 slots1 : Nat), R9 K M → HI cy x K ss → NI cy mm M w → PDs dC dI A (ss ++ [w ++ [(ob, .inl (cy 2, 1, .inr (.inl of)))]]) H → va_S A s.heap H locs → lv_has ls 7 [(4, .int i), (3, .ref ob), (2, .ref mm), (1, .ref x), (0, .ref b)] → cells1 ≤ cells + 20 → slots1 ≤ slots + 100 → W p l e room_1 s m #[Value.ref b] below meth c H locs cells1 slots1 Q (F0 m 1924 ls [])) : W p l e room_1 s m #[Value.ref b] below meth c H locs cells slots Q (F0 m 900 ls []) := by
  obtain ⟨-, -, hr, -, -, -, hX, hbl, hlocks, -⟩ := C0
  have hx := X.1
  have hb := X.2.1
  have hc9 : cells ≤ 599000 := by omega
  have hs9 : slots ≤ 7290000 := by omega
  have hc8 : cells + 1 ≤ 599000 := by omega
  have hs8 : slots + 6 ≤ 7290000 := by omega
  refine lv_aload_n hx hb dL_law_900 rfl (lv_at hl 3 rfl) ?_
  refine hc_gates X hA hI hQ hS hl (rest := []) (Nat.le_of_ble_eq_true rfl) dL_law_901 mL_103 (by omega) (by omega) (fun r_1 K_2 ss H locs hI hp_3 hQ hS => ?_)
  refine lv_pop hx hb dL_law_904 rfl ?_
  refine lv_aload_n hx hb dL_law_905 rfl (lv_at hl 2 rfl) ?_
  have hQ := PDs.front hQ
  refine hm_gates X hA hM hQ hS hl (rest := []) (Nat.le_of_ble_eq_true rfl) dL_law_906 mL_106 (by omega) (by omega) (fun r_4 M_5 w H locs hM hp_6 hQ hS => ?_)
  have hR := s9_gates hR hp_3 hp_6
  have hQ := PDs.behind hQ
  refine lv_pop hx hb dL_law_909 rfl ?_
  refine lv_goto (tgt := 1924) hx hb dL_law_910 (by decide) ?_
  exact kk K_2 M_5 ss w of H locs _ cells slots hR hI hM hQ hS (lv_sub hl [0, 1, 2, 3, 4] rfl) (by omega) (by omega)
set_option maxHeartbeats 4000000 in
set_option maxRecDepth 100000 in
theorem law_c21 (hl9 : l.stackTraces = false) (C0 : lw_At p s m meth c b N xs) (hN : N ≤ 3072) (X : fx p s m c code 7 #[Value.ref b] RL dC dI cy hp A) (hA : ∀ q, s.heap.size ≤ q → A q) (hbA : ¬ A b) {x mm ob : Nat} {of : Nat → Int64} {K : CS} {M : MS} {ss : List va_W} {w : va_W} (hR : R9 K M) (hi0 : 0 ≤ i.toInt) (hi6 : i.toInt + 6 ≤ (N : Int)) (hI : HI cy x K ss) (hM : NI cy mm M w) (hQ : PDs dC dI A (ss ++ [w ++ [(ob, .inl (cy 2, 1, .inr (.inl of)))]]) H) (hS : va_S A s.heap H locs) (hl : lv_has ls 7 [(4, .int i), (3, .ref ob), (2, .ref mm), (1, .ref x), (0, .ref b)]) (hc7 : cells ≤ 590000) (hs7 : slots ≤ 7280000) (kk : ∀ (K : CS) (M : MS) (ss : List va_W) (w : va_W) (of : Nat → Int64) (H : Heap) (locs : List Loc) (ls : Array Slot) (cells1 slots1 : Nat), R9 K M → HI cy x K ss → NI cy mm M w → PDs dC dI A (ss ++ [w ++ [(ob, .inl (cy 2, 1, .inr (.inl of)))]]) H → va_S A s.heap H locs → lv_has ls 7 [(4, .int i), (3, .ref ob), (2, .ref mm), (1, .ref x), (0, .ref b)] → cells1 ≤ cells + 20 → slots1 ≤ slots + 100 → W p l e room_1 s m #[Value.ref b] below meth c H locs cells1 slots1 Q (F0 m 1924 ls [])) : W p l e room_1 s m #[Value.ref b] below meth c H locs cells slots Q (F0 m 913 ls []) := by
  obtain ⟨-, -, hr, -, -, -, hX, hbl, hlocks, -⟩ := C0
  have hx := X.1
  have hb := X.2.1
  have hc9 : cells ≤ 599000 := by omega
  have hs9 : slots ≤ 7290000 := by omega
  have hc8 : cells + 1 ≤ 599000 := by omega
  have hs8 : slots + 6 ≤ 7290000 := by omega
  refine lv_aload_n hx hb dL_law_913 rfl (lv_at hl 3 rfl) ?_
  refine hc_toFill X hA hI hQ hS hl (rest := []) (Nat.le_of_ble_eq_true rfl) dL_law_914 mL_107 (by omega) (by omega) (fun r_1 K_2 ss H locs hI hp_3 hQ hS => ?_)
  refine lv_pop hx hb dL_law_917 rfl ?_
  refine lv_aload_n hx hb dL_law_918 rfl (lv_at hl 2 rfl) ?_
  have hQ := PDs.front hQ
  refine hm_toFill X hA hM hQ hS hl (rest := []) (Nat.le_of_ble_eq_true rfl) dL_law_919 mL_110 (by omega) (by omega) (fun r_4 M_5 w H locs hM hp_6 hQ hS => ?_)
  have hR := s9_toFill hR hp_3 hp_6
  have hQ := PDs.behind hQ
  refine lv_pop hx hb dL_law_922 rfl ?_
  refine lv_goto (tgt := 1924) hx hb dL_law_923 (by decide) ?_
  exact kk K_2 M_5 ss w of H locs _ cells slots hR hI hM hQ hS (lv_sub hl [0, 1, 2, 3, 4] rfl) (by omega) (by omega)
set_option maxHeartbeats 4000000 in
set_option maxRecDepth 100000 in
theorem law_c22 (hl9 : l.stackTraces = false) (C0 : lw_At p s m meth c b N xs) (hN : N ≤ 3072) (X : fx p s m c code 7 #[Value.ref b] RL dC dI cy hp A) (hA : ∀ q, s.heap.size ≤ q → A q) (hbA : ¬ A b) {x mm ob : Nat} {of : Nat → Int64} {K : CS} {M : MS} {ss : List va_W} {w : va_W} (hR : R9 K M) (hi0 : 0 ≤ i.toInt) (hi6 : i.toInt + 6 ≤ (N : Int)) (hI : HI cy x K ss) (hM : NI cy mm M w) (hQ : PDs dC dI A (ss ++ [w ++ [(ob, .inl (cy 2, 1, .inr (.inl of)))]]) H) (hS : va_S A s.heap H locs) (hl : lv_has ls 7 [(4, .int i), (3, .ref ob), (2, .ref mm), (1, .ref x), (0, .ref b)]) (hc7 : cells ≤ 590000) (hs7 : slots ≤ 7280000) (kk : ∀ (K : CS) (M : MS) (ss : List va_W) (w : va_W) (of : Nat → Int64) (H : Heap) (locs : List Loc) (ls : Array Slot) (cells1 slots1 : Nat), R9 K M → HI cy x K ss → NI cy mm M w → PDs dC dI A (ss ++ [w ++ [(ob, .inl (cy 2, 1, .inr (.inl of)))]]) H → va_S A s.heap H locs → lv_has ls 7 [(4, .int i), (3, .ref ob), (2, .ref mm), (1, .ref x), (0, .ref b)] → cells1 ≤ cells + 20 → slots1 ≤ slots + 100 → W p l e room_1 s m #[Value.ref b] below meth c H locs cells1 slots1 Q (F0 m 1924 ls [])) : W p l e room_1 s m #[Value.ref b] below meth c H locs cells slots Q (F0 m 926 ls []) := by
  obtain ⟨-, -, hr, -, -, -, hX, hbl, hlocks, -⟩ := C0
  have hx := X.1
  have hb := X.2.1
  have hc9 : cells ≤ 599000 := by omega
  have hs9 : slots ≤ 7290000 := by omega
  have hc8 : cells + 1 ≤ 599000 := by omega
  have hs8 : slots + 6 ≤ 7290000 := by omega
  refine lv_aload_n hx hb dL_law_926 rfl (lv_at hl 3 rfl) ?_
  refine hc_trap X hA hI hQ hS hl (rest := []) (Nat.le_of_ble_eq_true rfl) dL_law_927 mL_111 (by omega) (by omega) (fun r_1 K_2 ss H locs hI hp_3 hQ hS => ?_)
  refine lv_pop hx hb dL_law_930 rfl ?_
  refine lv_aload_n hx hb dL_law_931 rfl (lv_at hl 2 rfl) ?_
  have hQ := PDs.front hQ
  refine hm_trap X hA hM hQ hS hl (rest := []) (Nat.le_of_ble_eq_true rfl) dL_law_932 mL_114 (by omega) (by omega) (fun r_4 M_5 w H locs hM hp_6 hQ hS => ?_)
  have hR := s9_trap hR hp_3 hp_6
  have hQ := PDs.behind hQ
  refine lv_pop hx hb dL_law_935 rfl ?_
  refine lv_goto (tgt := 1924) hx hb dL_law_936 (by decide) ?_
  exact kk K_2 M_5 ss w of H locs _ cells slots hR hI hM hQ hS (lv_sub hl [0, 1, 2, 3, 4] rfl) (by omega) (by omega)
set_option maxHeartbeats 4000000 in
set_option maxRecDepth 100000 in
theorem law_c23 (hl9 : l.stackTraces = false) (C0 : lw_At p s m meth c b N xs) (hN : N ≤ 3072) (X : fx p s m c code 7 #[Value.ref b] RL dC dI cy hp A) (hA : ∀ q, s.heap.size ≤ q → A q) (hbA : ¬ A b) {x mm ob : Nat} {of : Nat → Int64} {K : CS} {M : MS} {ss : List va_W} {w : va_W} (hR : R9 K M) (hi0 : 0 ≤ i.toInt) (hi6 : i.toInt + 6 ≤ (N : Int)) (hI : HI cy x K ss) (hM : NI cy mm M w) (hQ : PDs dC dI A (ss ++ [w ++ [(ob, .inl (cy 2, 1, .inr (.inl of)))]]) H) (hS : va_S A s.heap H locs) (hl : lv_has ls 7 [(4, .int i), (3, .ref ob), (2, .ref mm), (1, .ref x), (0, .ref b)]) (hc7 : cells ≤ 590000) (hs7 : slots ≤ 7280000) (kk : ∀ (K : CS) (M : MS) (ss : List va_W) (w : va_W) (of : Nat → Int64) (H : Heap) (locs : List Loc) (ls : Array Slot) (cells1 slots1 : Nat), R9 K M → HI cy x K ss → NI cy mm M w → PDs dC dI A (ss ++ [w ++ [(ob, .inl (cy 2, 1, .inr (.inl of)))]]) H → va_S A s.heap H locs → lv_has ls 7 [(4, .int i), (3, .ref ob), (2, .ref mm), (1, .ref x), (0, .ref b)] → cells1 ≤ cells + 20 → slots1 ≤ slots + 100 → W p l e room_1 s m #[Value.ref b] below meth c H locs cells1 slots1 Q (F0 m 1924 ls [])) : W p l e room_1 s m #[Value.ref b] below meth c H locs cells slots Q (F0 m 939 ls []) := by
  obtain ⟨-, -, hr, -, -, -, hX, hbl, hlocks, -⟩ := C0
  have hx := X.1
  have hb := X.2.1
  have hc9 : cells ≤ 599000 := by omega
  have hs9 : slots ≤ 7290000 := by omega
  have hc8 : cells + 1 ≤ 599000 := by omega
  have hs8 : slots + 6 ≤ 7290000 := by omega
  refine lv_aload_n hx hb dL_law_939 rfl (lv_at hl 3 rfl) ?_
  refine lv_aload_n hx hb dL_law_940 rfl (lv_at hl 4 rfl) ?_
  refine lv_iload hx hb dL_law_941 (lv_at hl 0 rfl) ?_
  refine lv_iconst (v := 1) hx hb dL_law_943 (by decide) ?_
  refine lv_iadd hx hb dL_law_944 ?_
  refine lv_topi (fun x_1 ex_1 => ?_)
  have tx_1 : x_1.toInt = i.toInt + 1 := ti_add (A := i.toInt) (B := 1) ex_1 rfl rfl (by omega) (by omega)
  refine va_sld hx hb hX hbl hbA hS (i := x_1) (vin (by omega) (by omega)) dL_law_945 ?_
  refine lv_topi (fun x_2 ex_2 => ?_)
  refine lv_aload_n hx hb dL_law_946 rfl (lv_at hl 4 rfl) ?_
  refine lv_iload hx hb dL_law_947 (lv_at hl 0 rfl) ?_
  refine lv_iconst (v := 2) hx hb dL_law_949 (by decide) ?_
  refine lv_iadd hx hb dL_law_950 ?_
  refine lv_topi (fun x_3 ex_3 => ?_)
  have tx_3 : x_3.toInt = i.toInt + 2 := ti_add (A := i.toInt) (B := 2) ex_3 rfl rfl (by omega) (by omega)
  refine va_sld hx hb hX hbl hbA hS (i := x_3) (vin (by omega) (by omega)) dL_law_951 ?_
  refine lv_topi (fun x_4 ex_4 => ?_)
  refine hc_meet X hA hI hQ hS hl (rest := []) (Nat.le_of_ble_eq_true rfl) dL_law_952 mL_115 (by omega) (by omega) x_2 x_4 (fun r_5 K_6 ss H locs hI hp_7 hQ hS => ?_)
  refine lv_pop hx hb dL_law_955 rfl ?_
  refine lv_aload_n hx hb dL_law_956 rfl (lv_at hl 2 rfl) ?_
  refine lv_aload_n hx hb dL_law_957 rfl (lv_at hl 4 rfl) ?_
  refine lv_iload hx hb dL_law_958 (lv_at hl 0 rfl) ?_
  refine lv_iconst (v := 1) hx hb dL_law_960 (by decide) ?_
  refine lv_iadd hx hb dL_law_961 ?_
  refine lv_topi (fun x_8 ex_8 => ?_)
  have tx_8 : x_8.toInt = i.toInt + 1 := ti_add (A := i.toInt) (B := 1) ex_8 rfl rfl (by omega) (by omega)
  refine va_sld hx hb hX hbl hbA hS (i := x_8) (vin (by omega) (by omega)) dL_law_962 ?_
  refine lv_topi (fun x_9 ex_9 => ?_)
  have qx_9 : x_2 = x_9 := by rw [ex_2, ex_9, show x_1 = x_8 from Int32.toInt_inj.mp (by omega)]
  subst qx_9
  refine lv_aload_n hx hb dL_law_963 rfl (lv_at hl 4 rfl) ?_
  refine lv_iload hx hb dL_law_964 (lv_at hl 0 rfl) ?_
  refine lv_iconst (v := 2) hx hb dL_law_966 (by decide) ?_
  refine lv_iadd hx hb dL_law_967 ?_
  refine lv_topi (fun x_10 ex_10 => ?_)
  have tx_10 : x_10.toInt = i.toInt + 2 := ti_add (A := i.toInt) (B := 2) ex_10 rfl rfl (by omega) (by omega)
  refine va_sld hx hb hX hbl hbA hS (i := x_10) (vin (by omega) (by omega)) dL_law_968 ?_
  refine lv_topi (fun x_11 ex_11 => ?_)
  have qx_11 : x_4 = x_11 := by rw [ex_4, ex_11, show x_3 = x_10 from Int32.toInt_inj.mp (by omega)]
  subst qx_11
  have hQ := PDs.front hQ
  refine hm_meet X hA hM hQ hS hl (rest := []) (Nat.le_of_ble_eq_true rfl) dL_law_969 mL_118 (by omega) (by omega) x_2 x_4 (fun r_12 M_13 w H locs hM hp_14 hQ hS => ?_)
  have hR := s9_meet hR hp_7 hp_14
  have hQ := PDs.behind hQ
  refine lv_pop hx hb dL_law_972 rfl ?_
  refine lv_goto (tgt := 1924) hx hb dL_law_973 (by decide) ?_
  exact kk K_6 M_13 ss w of H locs _ cells slots hR hI hM hQ hS (lv_sub hl [0, 1, 2, 3, 4] rfl) (by omega) (by omega)
set_option maxHeartbeats 4000000 in
set_option maxRecDepth 100000 in
theorem law_c24 (hl9 : l.stackTraces = false) (C0 : lw_At p s m meth c b N xs) (hN : N ≤ 3072) (X : fx p s m c code 7 #[Value.ref b] RL dC dI cy hp A) (hA : ∀ q, s.heap.size ≤ q → A q) (hbA : ¬ A b) {x mm ob : Nat} {of : Nat → Int64} {K : CS} {M : MS} {ss : List va_W} {w : va_W} (hR : R9 K M) (hi0 : 0 ≤ i.toInt) (hi6 : i.toInt + 6 ≤ (N : Int)) (hI : HI cy x K ss) (hM : NI cy mm M w) (hQ : PDs dC dI A (ss ++ [w ++ [(ob, .inl (cy 2, 1, .inr (.inl of)))]]) H) (hS : va_S A s.heap H locs) (hl : lv_has ls 7 [(4, .int i), (3, .ref ob), (2, .ref mm), (1, .ref x), (0, .ref b)]) (hc7 : cells ≤ 590000) (hs7 : slots ≤ 7280000) (kk : ∀ (K : CS) (M : MS) (ss : List va_W) (w : va_W) (of : Nat → Int64) (H : Heap) (locs : List Loc) (ls : Array Slot) (cells1 slots1 : Nat), R9 K M → HI cy x K ss → NI cy mm M w → PDs dC dI A (ss ++ [w ++ [(ob, .inl (cy 2, 1, .inr (.inl of)))]]) H → va_S A s.heap H locs → lv_has ls 7 [(4, .int i), (3, .ref ob), (2, .ref mm), (1, .ref x), (0, .ref b)] → cells1 ≤ cells + 20 → slots1 ≤ slots + 100 → W p l e room_1 s m #[Value.ref b] below meth c H locs cells1 slots1 Q (F0 m 1924 ls [])) : W p l e room_1 s m #[Value.ref b] below meth c H locs cells slots Q (F0 m 976 ls []) := by
  obtain ⟨-, -, hr, -, -, -, hX, hbl, hlocks, -⟩ := C0
  have hx := X.1
  have hb := X.2.1
  have hc9 : cells ≤ 599000 := by omega
  have hs9 : slots ≤ 7290000 := by omega
  have hc8 : cells + 1 ≤ 599000 := by omega
  have hs8 : slots + 6 ≤ 7290000 := by omega
  refine lv_aload_n hx hb dL_law_976 rfl (lv_at hl 3 rfl) ?_
  refine lv_aload_n hx hb dL_law_977 rfl (lv_at hl 4 rfl) ?_
  refine lv_iload hx hb dL_law_978 (lv_at hl 0 rfl) ?_
  refine lv_iconst (v := 1) hx hb dL_law_980 (by decide) ?_
  refine lv_iadd hx hb dL_law_981 ?_
  refine lv_topi (fun x_1 ex_1 => ?_)
  have tx_1 : x_1.toInt = i.toInt + 1 := ti_add (A := i.toInt) (B := 1) ex_1 rfl rfl (by omega) (by omega)
  refine va_sld hx hb hX hbl hbA hS (i := x_1) (vin (by omega) (by omega)) dL_law_982 ?_
  refine lv_topi (fun x_2 ex_2 => ?_)
  refine lv_aload_n hx hb dL_law_983 rfl (lv_at hl 4 rfl) ?_
  refine lv_iload hx hb dL_law_984 (lv_at hl 0 rfl) ?_
  refine lv_iconst (v := 2) hx hb dL_law_986 (by decide) ?_
  refine lv_iadd hx hb dL_law_987 ?_
  refine lv_topi (fun x_3 ex_3 => ?_)
  have tx_3 : x_3.toInt = i.toInt + 2 := ti_add (A := i.toInt) (B := 2) ex_3 rfl rfl (by omega) (by omega)
  refine va_sld hx hb hX hbl hbA hS (i := x_3) (vin (by omega) (by omega)) dL_law_988 ?_
  refine lv_topi (fun x_4 ex_4 => ?_)
  refine hc_meetAt X hA hI hQ hS hl (rest := []) (Nat.le_of_ble_eq_true rfl) dL_law_989 mL_119 (by omega) (by omega) x_2 x_4 (fun r_5 K_6 ss H locs hI hp_7 hQ hS => ?_)
  refine lv_pop hx hb dL_law_992 rfl ?_
  refine lv_aload_n hx hb dL_law_993 rfl (lv_at hl 2 rfl) ?_
  refine lv_aload_n hx hb dL_law_994 rfl (lv_at hl 4 rfl) ?_
  refine lv_iload hx hb dL_law_995 (lv_at hl 0 rfl) ?_
  refine lv_iconst (v := 1) hx hb dL_law_997 (by decide) ?_
  refine lv_iadd hx hb dL_law_998 ?_
  refine lv_topi (fun x_8 ex_8 => ?_)
  have tx_8 : x_8.toInt = i.toInt + 1 := ti_add (A := i.toInt) (B := 1) ex_8 rfl rfl (by omega) (by omega)
  refine va_sld hx hb hX hbl hbA hS (i := x_8) (vin (by omega) (by omega)) dL_law_999 ?_
  refine lv_topi (fun x_9 ex_9 => ?_)
  have qx_9 : x_2 = x_9 := by rw [ex_2, ex_9, show x_1 = x_8 from Int32.toInt_inj.mp (by omega)]
  subst qx_9
  refine lv_aload_n hx hb dL_law_1000 rfl (lv_at hl 4 rfl) ?_
  refine lv_iload hx hb dL_law_1001 (lv_at hl 0 rfl) ?_
  refine lv_iconst (v := 2) hx hb dL_law_1003 (by decide) ?_
  refine lv_iadd hx hb dL_law_1004 ?_
  refine lv_topi (fun x_10 ex_10 => ?_)
  have tx_10 : x_10.toInt = i.toInt + 2 := ti_add (A := i.toInt) (B := 2) ex_10 rfl rfl (by omega) (by omega)
  refine va_sld hx hb hX hbl hbA hS (i := x_10) (vin (by omega) (by omega)) dL_law_1005 ?_
  refine lv_topi (fun x_11 ex_11 => ?_)
  have qx_11 : x_4 = x_11 := by rw [ex_4, ex_11, show x_3 = x_10 from Int32.toInt_inj.mp (by omega)]
  subst qx_11
  have hQ := PDs.front hQ
  refine hm_meetAt X hA hM hQ hS hl (rest := []) (Nat.le_of_ble_eq_true rfl) dL_law_1006 mL_122 (by omega) (by omega) x_2 x_4 (fun r_12 M_13 w H locs hM hp_14 hQ hS => ?_)
  have hR := s9_meetAt hR hp_7 hp_14
  have hQ := PDs.behind hQ
  refine lv_pop hx hb dL_law_1009 rfl ?_
  refine lv_goto (tgt := 1924) hx hb dL_law_1010 (by decide) ?_
  exact kk K_6 M_13 ss w of H locs _ cells slots hR hI hM hQ hS (lv_sub hl [0, 1, 2, 3, 4] rfl) (by omega) (by omega)
set_option maxHeartbeats 4000000 in
set_option maxRecDepth 100000 in
theorem law_c25 (hl9 : l.stackTraces = false) (C0 : lw_At p s m meth c b N xs) (hN : N ≤ 3072) (X : fx p s m c code 7 #[Value.ref b] RL dC dI cy hp A) (hA : ∀ q, s.heap.size ≤ q → A q) (hbA : ¬ A b) {x mm ob : Nat} {of : Nat → Int64} {K : CS} {M : MS} {ss : List va_W} {w : va_W} (hR : R9 K M) (hi0 : 0 ≤ i.toInt) (hi6 : i.toInt + 6 ≤ (N : Int)) (hI : HI cy x K ss) (hM : NI cy mm M w) (hQ : PDs dC dI A (ss ++ [w ++ [(ob, .inl (cy 2, 1, .inr (.inl of)))]]) H) (hS : va_S A s.heap H locs) (hl : lv_has ls 7 [(4, .int i), (3, .ref ob), (2, .ref mm), (1, .ref x), (0, .ref b)]) (hc7 : cells ≤ 590000) (hs7 : slots ≤ 7280000) (kk : ∀ (K : CS) (M : MS) (ss : List va_W) (w : va_W) (of : Nat → Int64) (H : Heap) (locs : List Loc) (ls : Array Slot) (cells1 slots1 : Nat), R9 K M → HI cy x K ss → NI cy mm M w → PDs dC dI A (ss ++ [w ++ [(ob, .inl (cy 2, 1, .inr (.inl of)))]]) H → va_S A s.heap H locs → lv_has ls 7 [(4, .int i), (3, .ref ob), (2, .ref mm), (1, .ref x), (0, .ref b)] → cells1 ≤ cells + 20 → slots1 ≤ slots + 100 → W p l e room_1 s m #[Value.ref b] below meth c H locs cells1 slots1 Q (F0 m 1924 ls [])) : W p l e room_1 s m #[Value.ref b] below meth c H locs cells slots Q (F0 m 1013 ls []) := by
  obtain ⟨-, -, hr, -, -, -, hX, hbl, hlocks, -⟩ := C0
  have hx := X.1
  have hb := X.2.1
  have hc9 : cells ≤ 599000 := by omega
  have hs9 : slots ≤ 7290000 := by omega
  have hc8 : cells + 1 ≤ 599000 := by omega
  have hs8 : slots + 6 ≤ 7290000 := by omega
  refine lv_aload_n hx hb dL_law_1013 rfl (lv_at hl 3 rfl) ?_
  refine lv_aload_n hx hb dL_law_1014 rfl (lv_at hl 4 rfl) ?_
  refine lv_iload hx hb dL_law_1015 (lv_at hl 0 rfl) ?_
  refine lv_iconst (v := 1) hx hb dL_law_1017 (by decide) ?_
  refine lv_iadd hx hb dL_law_1018 ?_
  refine lv_topi (fun x_1 ex_1 => ?_)
  have tx_1 : x_1.toInt = i.toInt + 1 := ti_add (A := i.toInt) (B := 1) ex_1 rfl rfl (by omega) (by omega)
  refine va_sld hx hb hX hbl hbA hS (i := x_1) (vin (by omega) (by omega)) dL_law_1019 ?_
  refine lv_topi (fun x_2 ex_2 => ?_)
  refine hc_passers X hA hI hQ hS hl (rest := []) (Nat.le_of_ble_eq_true rfl) dL_law_1020 mL_123 (by omega) (by omega) x_2 (fun r_3 K_4 ss H locs hI hp_5 hQ hS => ?_)
  refine lv_pop hx hb dL_law_1023 rfl ?_
  refine lv_aload_n hx hb dL_law_1024 rfl (lv_at hl 2 rfl) ?_
  refine lv_aload_n hx hb dL_law_1025 rfl (lv_at hl 4 rfl) ?_
  refine lv_iload hx hb dL_law_1026 (lv_at hl 0 rfl) ?_
  refine lv_iconst (v := 1) hx hb dL_law_1028 (by decide) ?_
  refine lv_iadd hx hb dL_law_1029 ?_
  refine lv_topi (fun x_6 ex_6 => ?_)
  have tx_6 : x_6.toInt = i.toInt + 1 := ti_add (A := i.toInt) (B := 1) ex_6 rfl rfl (by omega) (by omega)
  refine va_sld hx hb hX hbl hbA hS (i := x_6) (vin (by omega) (by omega)) dL_law_1030 ?_
  refine lv_topi (fun x_7 ex_7 => ?_)
  have qx_7 : x_2 = x_7 := by rw [ex_2, ex_7, show x_1 = x_6 from Int32.toInt_inj.mp (by omega)]
  subst qx_7
  have hQ := PDs.front hQ
  refine hm_passers X hA hM hQ hS hl (rest := []) (Nat.le_of_ble_eq_true rfl) dL_law_1031 mL_126 (by omega) (by omega) x_2 (fun r_8 M_9 w H locs hM hp_10 hQ hS => ?_)
  have hR := s9_passers hR hp_5 hp_10
  have hQ := PDs.behind hQ
  refine lv_pop hx hb dL_law_1034 rfl ?_
  refine lv_goto (tgt := 1924) hx hb dL_law_1035 (by decide) ?_
  exact kk K_4 M_9 ss w of H locs _ cells slots hR hI hM hQ hS (lv_sub hl [0, 1, 2, 3, 4] rfl) (by omega) (by omega)
set_option maxHeartbeats 4000000 in
set_option maxRecDepth 100000 in
theorem law_c26 (hl9 : l.stackTraces = false) (C0 : lw_At p s m meth c b N xs) (hN : N ≤ 3072) (X : fx p s m c code 7 #[Value.ref b] RL dC dI cy hp A) (hA : ∀ q, s.heap.size ≤ q → A q) (hbA : ¬ A b) {x mm ob : Nat} {of : Nat → Int64} {K : CS} {M : MS} {ss : List va_W} {w : va_W} (hR : R9 K M) (hi0 : 0 ≤ i.toInt) (hi6 : i.toInt + 6 ≤ (N : Int)) (hI : HI cy x K ss) (hM : NI cy mm M w) (hQ : PDs dC dI A (ss ++ [w ++ [(ob, .inl (cy 2, 1, .inr (.inl of)))]]) H) (hS : va_S A s.heap H locs) (hl : lv_has ls 7 [(4, .int i), (3, .ref ob), (2, .ref mm), (1, .ref x), (0, .ref b)]) (hc7 : cells ≤ 590000) (hs7 : slots ≤ 7280000) (kk : ∀ (K : CS) (M : MS) (ss : List va_W) (w : va_W) (of : Nat → Int64) (H : Heap) (locs : List Loc) (ls : Array Slot) (cells1 slots1 : Nat), R9 K M → HI cy x K ss → NI cy mm M w → PDs dC dI A (ss ++ [w ++ [(ob, .inl (cy 2, 1, .inr (.inl of)))]]) H → va_S A s.heap H locs → lv_has ls 7 [(4, .int i), (3, .ref ob), (2, .ref mm), (1, .ref x), (0, .ref b)] → cells1 ≤ cells + 20 → slots1 ≤ slots + 100 → W p l e room_1 s m #[Value.ref b] below meth c H locs cells1 slots1 Q (F0 m 1924 ls [])) : W p l e room_1 s m #[Value.ref b] below meth c H locs cells slots Q (F0 m 1038 ls []) := by
  obtain ⟨-, -, hr, -, -, -, hX, hbl, hlocks, -⟩ := C0
  have hx := X.1
  have hb := X.2.1
  have hc9 : cells ≤ 599000 := by omega
  have hs9 : slots ≤ 7290000 := by omega
  have hc8 : cells + 1 ≤ 599000 := by omega
  have hs8 : slots + 6 ≤ 7290000 := by omega
  refine lv_aload_n hx hb dL_law_1038 rfl (lv_at hl 3 rfl) ?_
  refine hc_fits X hA hI hQ hS hl (rest := []) (Nat.le_of_ble_eq_true rfl) dL_law_1039 mL_127 (by omega) (by omega) (fun r_1 K_2 ss H locs hI hp_3 hQ hS => ?_)
  refine lv_pop hx hb dL_law_1042 rfl ?_
  refine lv_aload_n hx hb dL_law_1043 rfl (lv_at hl 2 rfl) ?_
  have hQ := PDs.front hQ
  refine hm_fits X hA hM hQ hS hl (rest := []) (Nat.le_of_ble_eq_true rfl) dL_law_1044 mL_130 (by omega) (by omega) (fun r_4 M_5 w H locs hM hp_6 hQ hS => ?_)
  have hR := s9_fits hR hp_3 hp_6
  have hQ := PDs.behind hQ
  refine lv_pop hx hb dL_law_1047 rfl ?_
  refine lv_goto (tgt := 1924) hx hb dL_law_1048 (by decide) ?_
  exact kk K_2 M_5 ss w of H locs _ cells slots hR hI hM hQ hS (lv_sub hl [0, 1, 2, 3, 4] rfl) (by omega) (by omega)
set_option maxHeartbeats 4000000 in
set_option maxRecDepth 100000 in
theorem law_c27 (hl9 : l.stackTraces = false) (C0 : lw_At p s m meth c b N xs) (hN : N ≤ 3072) (X : fx p s m c code 7 #[Value.ref b] RL dC dI cy hp A) (hA : ∀ q, s.heap.size ≤ q → A q) (hbA : ¬ A b) {x mm ob : Nat} {of : Nat → Int64} {K : CS} {M : MS} {ss : List va_W} {w : va_W} (hR : R9 K M) (hi0 : 0 ≤ i.toInt) (hi6 : i.toInt + 6 ≤ (N : Int)) (hI : HI cy x K ss) (hM : NI cy mm M w) (hQ : PDs dC dI A (ss ++ [w ++ [(ob, .inl (cy 2, 1, .inr (.inl of)))]]) H) (hS : va_S A s.heap H locs) (hl : lv_has ls 7 [(4, .int i), (3, .ref ob), (2, .ref mm), (1, .ref x), (0, .ref b)]) (hc7 : cells ≤ 590000) (hs7 : slots ≤ 7280000) (kk : ∀ (K : CS) (M : MS) (ss : List va_W) (w : va_W) (of : Nat → Int64) (H : Heap) (locs : List Loc) (ls : Array Slot) (cells1 slots1 : Nat), R9 K M → HI cy x K ss → NI cy mm M w → PDs dC dI A (ss ++ [w ++ [(ob, .inl (cy 2, 1, .inr (.inl of)))]]) H → va_S A s.heap H locs → lv_has ls 7 [(4, .int i), (3, .ref ob), (2, .ref mm), (1, .ref x), (0, .ref b)] → cells1 ≤ cells + 20 → slots1 ≤ slots + 100 → W p l e room_1 s m #[Value.ref b] below meth c H locs cells1 slots1 Q (F0 m 1924 ls [])) : W p l e room_1 s m #[Value.ref b] below meth c H locs cells slots Q (F0 m 1051 ls []) := by
  obtain ⟨-, -, hr, -, -, -, hX, hbl, hlocks, -⟩ := C0
  have hx := X.1
  have hb := X.2.1
  have hc9 : cells ≤ 599000 := by omega
  have hs9 : slots ≤ 7290000 := by omega
  have hc8 : cells + 1 ≤ 599000 := by omega
  have hs8 : slots + 6 ≤ 7290000 := by omega
  refine lv_aload_n hx hb dL_law_1051 rfl (lv_at hl 3 rfl) ?_
  refine lv_aload_n hx hb dL_law_1052 rfl (lv_at hl 4 rfl) ?_
  refine lv_iload hx hb dL_law_1053 (lv_at hl 0 rfl) ?_
  refine lv_iconst (v := 1) hx hb dL_law_1055 (by decide) ?_
  refine lv_iadd hx hb dL_law_1056 ?_
  refine lv_topi (fun x_1 ex_1 => ?_)
  have tx_1 : x_1.toInt = i.toInt + 1 := ti_add (A := i.toInt) (B := 1) ex_1 rfl rfl (by omega) (by omega)
  refine va_sld hx hb hX hbl hbA hS (i := x_1) (vin (by omega) (by omega)) dL_law_1057 ?_
  refine lv_topi (fun x_2 ex_2 => ?_)
  refine hc_fitAt X hA hI hQ hS hl (rest := []) (Nat.le_of_ble_eq_true rfl) dL_law_1058 mL_131 (by omega) (by omega) x_2 (fun r_3 K_4 ss H locs hI hp_5 hQ hS => ?_)
  refine lv_aload_n hx hb dL_law_1061 rfl (lv_at hl 2 rfl) ?_
  refine lv_aload_n hx hb dL_law_1062 rfl (lv_at hl 4 rfl) ?_
  refine lv_iload hx hb dL_law_1063 (lv_at hl 0 rfl) ?_
  refine lv_iconst (v := 1) hx hb dL_law_1065 (by decide) ?_
  refine lv_iadd hx hb dL_law_1066 ?_
  refine lv_topi (fun x_6 ex_6 => ?_)
  have tx_6 : x_6.toInt = i.toInt + 1 := ti_add (A := i.toInt) (B := 1) ex_6 rfl rfl (by omega) (by omega)
  refine va_sld hx hb hX hbl hbA hS (i := x_6) (vin (by omega) (by omega)) dL_law_1067 ?_
  refine lv_topi (fun x_7 ex_7 => ?_)
  have qx_7 : x_2 = x_7 := by rw [ex_2, ex_7, show x_1 = x_6 from Int32.toInt_inj.mp (by omega)]
  subst qx_7
  have hQ := PDs.front hQ
  refine hm_fitAt X hA hM hQ hS hl (rest := [.int r_3]) (Nat.le_of_ble_eq_true rfl) dL_law_1068 mL_134 (by omega) (by omega) x_2 (fun r_8 M_9 w H locs hM hp_10 hQ hS => ?_)
  have hE := a9_fitAt hR hp_5 hp_10
  have hR := s9_fitAt hR hp_5 hp_10
  have hQ := PDs.behind hQ
  refine lv_icmp_eq (tgt := 1924) hx hb dL_law_1071 (by decide) (fun _ => ?_) (fun h_11 => ?_)
  · skip
    exact kk K_4 M_9 ss w of H locs _ cells slots hR hI hM hQ hS (lv_sub hl [0, 1, 2, 3, 4] rfl) (by omega) (by omega)
  · exact absurd (Int32.toInt_inj.mp (by omega)) h_11
set_option maxHeartbeats 4000000 in
set_option maxRecDepth 100000 in
theorem law_c28 (hl9 : l.stackTraces = false) (C0 : lw_At p s m meth c b N xs) (hN : N ≤ 3072) (X : fx p s m c code 7 #[Value.ref b] RL dC dI cy hp A) (hA : ∀ q, s.heap.size ≤ q → A q) (hbA : ¬ A b) {x mm ob : Nat} {of : Nat → Int64} {K : CS} {M : MS} {ss : List va_W} {w : va_W} (hR : R9 K M) (hi0 : 0 ≤ i.toInt) (hi6 : i.toInt + 6 ≤ (N : Int)) (hI : HI cy x K ss) (hM : NI cy mm M w) (hQ : PDs dC dI A (ss ++ [w ++ [(ob, .inl (cy 2, 1, .inr (.inl of)))]]) H) (hS : va_S A s.heap H locs) (hl : lv_has ls 7 [(4, .int i), (3, .ref ob), (2, .ref mm), (1, .ref x), (0, .ref b)]) (hc7 : cells ≤ 590000) (hs7 : slots ≤ 7280000) (kk : ∀ (K : CS) (M : MS) (ss : List va_W) (w : va_W) (of : Nat → Int64) (H : Heap) (locs : List Loc) (ls : Array Slot) (cells1 slots1 : Nat), R9 K M → HI cy x K ss → NI cy mm M w → PDs dC dI A (ss ++ [w ++ [(ob, .inl (cy 2, 1, .inr (.inl of)))]]) H → va_S A s.heap H locs → lv_has ls 7 [(4, .int i), (3, .ref ob), (2, .ref mm), (1, .ref x), (0, .ref b)] → cells1 ≤ cells + 20 → slots1 ≤ slots + 100 → W p l e room_1 s m #[Value.ref b] below meth c H locs cells1 slots1 Q (F0 m 1924 ls [])) : W p l e room_1 s m #[Value.ref b] below meth c H locs cells slots Q (F0 m 1076 ls []) := by
  obtain ⟨-, -, hr, -, -, -, hX, hbl, hlocks, -⟩ := C0
  have hx := X.1
  have hb := X.2.1
  have hc9 : cells ≤ 599000 := by omega
  have hs9 : slots ≤ 7290000 := by omega
  have hc8 : cells + 1 ≤ 599000 := by omega
  have hs8 : slots + 6 ≤ 7290000 := by omega
  refine lv_aload_n hx hb dL_law_1076 rfl (lv_at hl 3 rfl) ?_
  refine lv_aload_n hx hb dL_law_1077 rfl (lv_at hl 4 rfl) ?_
  refine lv_iload hx hb dL_law_1078 (lv_at hl 0 rfl) ?_
  refine lv_iconst (v := 1) hx hb dL_law_1080 (by decide) ?_
  refine lv_iadd hx hb dL_law_1081 ?_
  refine lv_topi (fun x_1 ex_1 => ?_)
  have tx_1 : x_1.toInt = i.toInt + 1 := ti_add (A := i.toInt) (B := 1) ex_1 rfl rfl (by omega) (by omega)
  refine va_sld hx hb hX hbl hbA hS (i := x_1) (vin (by omega) (by omega)) dL_law_1082 ?_
  refine lv_topi (fun x_2 ex_2 => ?_)
  refine lv_aload_n hx hb dL_law_1083 rfl (lv_at hl 4 rfl) ?_
  refine lv_iload hx hb dL_law_1084 (lv_at hl 0 rfl) ?_
  refine lv_iconst (v := 2) hx hb dL_law_1086 (by decide) ?_
  refine lv_iadd hx hb dL_law_1087 ?_
  refine lv_topi (fun x_3 ex_3 => ?_)
  have tx_3 : x_3.toInt = i.toInt + 2 := ti_add (A := i.toInt) (B := 2) ex_3 rfl rfl (by omega) (by omega)
  refine va_sld hx hb hX hbl hbA hS (i := x_3) (vin (by omega) (by omega)) dL_law_1088 ?_
  refine lv_topi (fun x_4 ex_4 => ?_)
  suffices hz_5 : ∀ z : Int32, z = bZ x_4 → W p l e room_1 s m #[Value.ref b] below meth c H locs cells slots Q (F0 m 1097 ls (.int z :: [.int x_2, .ref x])) from by
      refine lv_if_eq (tgt := 1096) hx hb dL_law_1089 (by decide) (fun hz9 => ?_) (fun hz9 => ?_)
      · refine lv_iconst (v := 0) hx hb dL_law_1096 (by decide) ?_
        exact hz_5 0 (bZ_0 hz9)
      · refine lv_iconst (v := 1) hx hb dL_law_1092 (by decide) ?_
        refine lv_goto (tgt := 1097) hx hb dL_law_1093 (by decide) ?_
        exact hz_5 1 (bZ_1 hz9)
  intro z_5 ez_5
  refine hc_odds X hA hI hQ hS hl (rest := []) (Nat.le_of_ble_eq_true rfl) dL_law_1097 mL_135 (by omega) (by omega) x_2 z_5 (fun r_6 K_7 ss H locs hI hp_8 hQ hS => ?_)
  refine lv_pop2_2 hx hb dL_law_1100 rfl ?_
  refine lv_aload_n hx hb dL_law_1101 rfl (lv_at hl 2 rfl) ?_
  refine lv_aload_n hx hb dL_law_1102 rfl (lv_at hl 4 rfl) ?_
  refine lv_iload hx hb dL_law_1103 (lv_at hl 0 rfl) ?_
  refine lv_iconst (v := 1) hx hb dL_law_1105 (by decide) ?_
  refine lv_iadd hx hb dL_law_1106 ?_
  refine lv_topi (fun x_9 ex_9 => ?_)
  have tx_9 : x_9.toInt = i.toInt + 1 := ti_add (A := i.toInt) (B := 1) ex_9 rfl rfl (by omega) (by omega)
  refine va_sld hx hb hX hbl hbA hS (i := x_9) (vin (by omega) (by omega)) dL_law_1107 ?_
  refine lv_topi (fun x_10 ex_10 => ?_)
  have qx_10 : x_2 = x_10 := by rw [ex_2, ex_10, show x_1 = x_9 from Int32.toInt_inj.mp (by omega)]
  subst qx_10
  refine lv_aload_n hx hb dL_law_1108 rfl (lv_at hl 4 rfl) ?_
  refine lv_iload hx hb dL_law_1109 (lv_at hl 0 rfl) ?_
  refine lv_iconst (v := 2) hx hb dL_law_1111 (by decide) ?_
  refine lv_iadd hx hb dL_law_1112 ?_
  refine lv_topi (fun x_11 ex_11 => ?_)
  have tx_11 : x_11.toInt = i.toInt + 2 := ti_add (A := i.toInt) (B := 2) ex_11 rfl rfl (by omega) (by omega)
  refine va_sld hx hb hX hbl hbA hS (i := x_11) (vin (by omega) (by omega)) dL_law_1113 ?_
  refine lv_topi (fun x_12 ex_12 => ?_)
  have qx_12 : x_4 = x_12 := by rw [ex_4, ex_12, show x_3 = x_11 from Int32.toInt_inj.mp (by omega)]
  subst qx_12
  suffices hz_13 : ∀ z : Int32, z = bZ x_4 → W p l e room_1 s m #[Value.ref b] below meth c H locs cells slots Q (F0 m 1122 ls (.int z :: [.int x_2, .ref mm])) from by
      refine lv_if_eq (tgt := 1121) hx hb dL_law_1114 (by decide) (fun hz9 => ?_) (fun hz9 => ?_)
      · refine lv_iconst (v := 0) hx hb dL_law_1121 (by decide) ?_
        exact hz_13 0 (bZ_0 hz9)
      · refine lv_iconst (v := 1) hx hb dL_law_1117 (by decide) ?_
        refine lv_goto (tgt := 1122) hx hb dL_law_1118 (by decide) ?_
        exact hz_13 1 (bZ_1 hz9)
  intro z_13 ez_13
  obtain rfl : z_5 = z_13 := ez_5.trans ez_13.symm
  have hQ := PDs.front hQ
  refine hm_odds X hA hM hQ hS hl (rest := []) (Nat.le_of_ble_eq_true rfl) dL_law_1122 mL_139 (by omega) (by omega) x_2 z_5 (fun r_14 M_15 w H locs hM hp_16 hQ hS => ?_)
  have hR := s9_odds hR hp_8 hp_16
  have hQ := PDs.behind hQ
  refine lv_pop2_2 hx hb dL_law_1125 rfl ?_
  refine lv_goto (tgt := 1924) hx hb dL_law_1126 (by decide) ?_
  exact kk K_7 M_15 ss w of H locs _ cells slots hR hI hM hQ hS (lv_sub hl [0, 1, 2, 3, 4] rfl) (by omega) (by omega)
set_option maxHeartbeats 4000000 in
set_option maxRecDepth 100000 in
theorem law_c29 (hl9 : l.stackTraces = false) (C0 : lw_At p s m meth c b N xs) (hN : N ≤ 3072) (X : fx p s m c code 7 #[Value.ref b] RL dC dI cy hp A) (hA : ∀ q, s.heap.size ≤ q → A q) (hbA : ¬ A b) {x mm ob : Nat} {of : Nat → Int64} {K : CS} {M : MS} {ss : List va_W} {w : va_W} (hR : R9 K M) (hi0 : 0 ≤ i.toInt) (hi6 : i.toInt + 6 ≤ (N : Int)) (hI : HI cy x K ss) (hM : NI cy mm M w) (hQ : PDs dC dI A (ss ++ [w ++ [(ob, .inl (cy 2, 1, .inr (.inl of)))]]) H) (hS : va_S A s.heap H locs) (hl : lv_has ls 7 [(4, .int i), (3, .ref ob), (2, .ref mm), (1, .ref x), (0, .ref b)]) (hc7 : cells ≤ 590000) (hs7 : slots ≤ 7280000) (kk : ∀ (K : CS) (M : MS) (ss : List va_W) (w : va_W) (of : Nat → Int64) (H : Heap) (locs : List Loc) (ls : Array Slot) (cells1 slots1 : Nat), R9 K M → HI cy x K ss → NI cy mm M w → PDs dC dI A (ss ++ [w ++ [(ob, .inl (cy 2, 1, .inr (.inl of)))]]) H → va_S A s.heap H locs → lv_has ls 7 [(4, .int i), (3, .ref ob), (2, .ref mm), (1, .ref x), (0, .ref b)] → cells1 ≤ cells + 20 → slots1 ≤ slots + 100 → W p l e room_1 s m #[Value.ref b] below meth c H locs cells1 slots1 Q (F0 m 1924 ls [])) : W p l e room_1 s m #[Value.ref b] below meth c H locs cells slots Q (F0 m 1129 ls []) := by
  obtain ⟨-, -, hr, -, -, -, hX, hbl, hlocks, -⟩ := C0
  have hx := X.1
  have hb := X.2.1
  have hc9 : cells ≤ 599000 := by omega
  have hs9 : slots ≤ 7290000 := by omega
  have hc8 : cells + 1 ≤ 599000 := by omega
  have hs8 : slots + 6 ≤ 7290000 := by omega
  refine lv_aload_n hx hb dL_law_1129 rfl (lv_at hl 3 rfl) ?_
  refine hc_likeliest X hA hI hQ hS hl (rest := []) (Nat.le_of_ble_eq_true rfl) dL_law_1130 mL_140 (by omega) (by omega) (fun r_1 K_2 ss H locs hI hp_3 hQ hS => ?_)
  refine lv_pop hx hb dL_law_1133 rfl ?_
  refine lv_aload_n hx hb dL_law_1134 rfl (lv_at hl 2 rfl) ?_
  have hQ := PDs.front hQ
  refine hm_likeliest X hA hM hQ hS hl (rest := []) (Nat.le_of_ble_eq_true rfl) dL_law_1135 mL_143 (by omega) (by omega) (fun r_4 M_5 w H locs hM hp_6 hQ hS => ?_)
  have hR := s9_likeliest hR hp_3 hp_6
  have hQ := PDs.behind hQ
  refine lv_pop hx hb dL_law_1138 rfl ?_
  refine lv_goto (tgt := 1924) hx hb dL_law_1139 (by decide) ?_
  exact kk K_2 M_5 ss w of H locs _ cells slots hR hI hM hQ hS (lv_sub hl [0, 1, 2, 3, 4] rfl) (by omega) (by omega)
set_option maxHeartbeats 4000000 in
set_option maxRecDepth 100000 in
theorem law_c30 (hl9 : l.stackTraces = false) (C0 : lw_At p s m meth c b N xs) (hN : N ≤ 3072) (X : fx p s m c code 7 #[Value.ref b] RL dC dI cy hp A) (hA : ∀ q, s.heap.size ≤ q → A q) (hbA : ¬ A b) {x mm ob : Nat} {of : Nat → Int64} {K : CS} {M : MS} {ss : List va_W} {w : va_W} (hR : R9 K M) (hi0 : 0 ≤ i.toInt) (hi6 : i.toInt + 6 ≤ (N : Int)) (hI : HI cy x K ss) (hM : NI cy mm M w) (hQ : PDs dC dI A (ss ++ [w ++ [(ob, .inl (cy 2, 1, .inr (.inl of)))]]) H) (hS : va_S A s.heap H locs) (hl : lv_has ls 7 [(4, .int i), (3, .ref ob), (2, .ref mm), (1, .ref x), (0, .ref b)]) (hc7 : cells ≤ 590000) (hs7 : slots ≤ 7280000) (kk : ∀ (K : CS) (M : MS) (ss : List va_W) (w : va_W) (of : Nat → Int64) (H : Heap) (locs : List Loc) (ls : Array Slot) (cells1 slots1 : Nat), R9 K M → HI cy x K ss → NI cy mm M w → PDs dC dI A (ss ++ [w ++ [(ob, .inl (cy 2, 1, .inr (.inl of)))]]) H → va_S A s.heap H locs → lv_has ls 7 [(4, .int i), (3, .ref ob), (2, .ref mm), (1, .ref x), (0, .ref b)] → cells1 ≤ cells + 20 → slots1 ≤ slots + 100 → W p l e room_1 s m #[Value.ref b] below meth c H locs cells1 slots1 Q (F0 m 1924 ls [])) : W p l e room_1 s m #[Value.ref b] below meth c H locs cells slots Q (F0 m 1142 ls []) := by
  obtain ⟨-, -, hr, -, -, -, hX, hbl, hlocks, -⟩ := C0
  have hx := X.1
  have hb := X.2.1
  have hc9 : cells ≤ 599000 := by omega
  have hs9 : slots ≤ 7290000 := by omega
  have hc8 : cells + 1 ≤ 599000 := by omega
  have hs8 : slots + 6 ≤ 7290000 := by omega
  refine lv_aload_n hx hb dL_law_1142 rfl (lv_at hl 3 rfl) ?_
  refine hc_tread X hA hI hQ hS hl (rest := []) (Nat.le_of_ble_eq_true rfl) dL_law_1143 mL_144 (by omega) (by omega) (fun r_1 K_2 ss H locs hI hp_3 hQ hS => ?_)
  refine lv_pop hx hb dL_law_1146 rfl ?_
  refine lv_aload_n hx hb dL_law_1147 rfl (lv_at hl 2 rfl) ?_
  have hQ := PDs.front hQ
  refine hm_tread X hA hM hQ hS hl (rest := []) (Nat.le_of_ble_eq_true rfl) dL_law_1148 mL_147 (by omega) (by omega) (fun r_4 M_5 w H locs hM hp_6 hQ hS => ?_)
  have hR := s9_tread hR hp_3 hp_6
  have hQ := PDs.behind hQ
  refine lv_pop hx hb dL_law_1151 rfl ?_
  refine lv_goto (tgt := 1924) hx hb dL_law_1152 (by decide) ?_
  exact kk K_2 M_5 ss w of H locs _ cells slots hR hI hM hQ hS (lv_sub hl [0, 1, 2, 3, 4] rfl) (by omega) (by omega)
set_option maxHeartbeats 4000000 in
set_option maxRecDepth 100000 in
theorem law_c31 (hl9 : l.stackTraces = false) (C0 : lw_At p s m meth c b N xs) (hN : N ≤ 3072) (X : fx p s m c code 7 #[Value.ref b] RL dC dI cy hp A) (hA : ∀ q, s.heap.size ≤ q → A q) (hbA : ¬ A b) {x mm ob : Nat} {of : Nat → Int64} {K : CS} {M : MS} {ss : List va_W} {w : va_W} (hR : R9 K M) (hi0 : 0 ≤ i.toInt) (hi6 : i.toInt + 6 ≤ (N : Int)) (hI : HI cy x K ss) (hM : NI cy mm M w) (hQ : PDs dC dI A (ss ++ [w ++ [(ob, .inl (cy 2, 1, .inr (.inl of)))]]) H) (hS : va_S A s.heap H locs) (hl : lv_has ls 7 [(4, .int i), (3, .ref ob), (2, .ref mm), (1, .ref x), (0, .ref b)]) (hc7 : cells ≤ 590000) (hs7 : slots ≤ 7280000) (kk : ∀ (K : CS) (M : MS) (ss : List va_W) (w : va_W) (of : Nat → Int64) (H : Heap) (locs : List Loc) (ls : Array Slot) (cells1 slots1 : Nat), R9 K M → HI cy x K ss → NI cy mm M w → PDs dC dI A (ss ++ [w ++ [(ob, .inl (cy 2, 1, .inr (.inl of)))]]) H → va_S A s.heap H locs → lv_has ls 7 [(4, .int i), (3, .ref ob), (2, .ref mm), (1, .ref x), (0, .ref b)] → cells1 ≤ cells + 20 → slots1 ≤ slots + 100 → W p l e room_1 s m #[Value.ref b] below meth c H locs cells1 slots1 Q (F0 m 1924 ls [])) : W p l e room_1 s m #[Value.ref b] below meth c H locs cells slots Q (F0 m 1155 ls []) := by
  obtain ⟨-, -, hr, -, -, -, hX, hbl, hlocks, -⟩ := C0
  have hx := X.1
  have hb := X.2.1
  have hc9 : cells ≤ 599000 := by omega
  have hs9 : slots ≤ 7290000 := by omega
  have hc8 : cells + 1 ≤ 599000 := by omega
  have hs8 : slots + 6 ≤ 7290000 := by omega
  refine lv_aload_n hx hb dL_law_1155 rfl (lv_at hl 3 rfl) ?_
  refine hc_treadLeaves X hA hI hQ hS hl (rest := []) (Nat.le_of_ble_eq_true rfl) dL_law_1156 mL_148 (by omega) (by omega) (fun r_1 K_2 ss H locs hI hp_3 hQ hS => ?_)
  refine lv_pop hx hb dL_law_1159 rfl ?_
  refine lv_aload_n hx hb dL_law_1160 rfl (lv_at hl 2 rfl) ?_
  have hQ := PDs.front hQ
  refine hm_treadLeaves X hA hM hQ hS hl (rest := []) (Nat.le_of_ble_eq_true rfl) dL_law_1161 mL_151 (by omega) (by omega) (fun r_4 M_5 w H locs hM hp_6 hQ hS => ?_)
  have hR := s9_treadLeaves hR hp_3 hp_6
  have hQ := PDs.behind hQ
  refine lv_pop hx hb dL_law_1164 rfl ?_
  refine lv_goto (tgt := 1924) hx hb dL_law_1165 (by decide) ?_
  exact kk K_2 M_5 ss w of H locs _ cells slots hR hI hM hQ hS (lv_sub hl [0, 1, 2, 3, 4] rfl) (by omega) (by omega)
set_option maxHeartbeats 4000000 in
set_option maxRecDepth 100000 in
theorem law_c32 (hl9 : l.stackTraces = false) (C0 : lw_At p s m meth c b N xs) (hN : N ≤ 3072) (X : fx p s m c code 7 #[Value.ref b] RL dC dI cy hp A) (hA : ∀ q, s.heap.size ≤ q → A q) (hbA : ¬ A b) {x mm ob : Nat} {of : Nat → Int64} {K : CS} {M : MS} {ss : List va_W} {w : va_W} (hR : R9 K M) (hi0 : 0 ≤ i.toInt) (hi6 : i.toInt + 6 ≤ (N : Int)) (hI : HI cy x K ss) (hM : NI cy mm M w) (hQ : PDs dC dI A (ss ++ [w ++ [(ob, .inl (cy 2, 1, .inr (.inl of)))]]) H) (hS : va_S A s.heap H locs) (hl : lv_has ls 7 [(4, .int i), (3, .ref ob), (2, .ref mm), (1, .ref x), (0, .ref b)]) (hc7 : cells ≤ 590000) (hs7 : slots ≤ 7280000) (kk : ∀ (K : CS) (M : MS) (ss : List va_W) (w : va_W) (of : Nat → Int64) (H : Heap) (locs : List Loc) (ls : Array Slot) (cells1 slots1 : Nat), R9 K M → HI cy x K ss → NI cy mm M w → PDs dC dI A (ss ++ [w ++ [(ob, .inl (cy 2, 1, .inr (.inl of)))]]) H → va_S A s.heap H locs → lv_has ls 7 [(4, .int i), (3, .ref ob), (2, .ref mm), (1, .ref x), (0, .ref b)] → cells1 ≤ cells + 20 → slots1 ≤ slots + 100 → W p l e room_1 s m #[Value.ref b] below meth c H locs cells1 slots1 Q (F0 m 1924 ls [])) : W p l e room_1 s m #[Value.ref b] below meth c H locs cells slots Q (F0 m 1168 ls []) := by
  obtain ⟨-, -, hr, -, -, -, hX, hbl, hlocks, -⟩ := C0
  have hx := X.1
  have hb := X.2.1
  have hc9 : cells ≤ 599000 := by omega
  have hs9 : slots ≤ 7290000 := by omega
  have hc8 : cells + 1 ≤ 599000 := by omega
  have hs8 : slots + 6 ≤ 7290000 := by omega
  refine lv_aload_n hx hb dL_law_1168 rfl (lv_at hl 3 rfl) ?_
  refine hc_judge X hA hI hQ hS hl (rest := []) (Nat.le_of_ble_eq_true rfl) dL_law_1169 mL_152 (by omega) (by omega) (fun r_1 K_2 ss H locs hI hp_3 hQ hS => ?_)
  refine lv_pop hx hb dL_law_1172 rfl ?_
  refine lv_aload_n hx hb dL_law_1173 rfl (lv_at hl 2 rfl) ?_
  have hQ := PDs.front hQ
  refine hm_judge X hA hM hQ hS hl (rest := []) (Nat.le_of_ble_eq_true rfl) dL_law_1174 mL_155 (by omega) (by omega) (fun r_4 M_5 w H locs hM hp_6 hQ hS => ?_)
  have hR := s9_judge hR hp_3 hp_6
  have hQ := PDs.behind hQ
  refine lv_pop hx hb dL_law_1177 rfl ?_
  refine lv_goto (tgt := 1924) hx hb dL_law_1178 (by decide) ?_
  exact kk K_2 M_5 ss w of H locs _ cells slots hR hI hM hQ hS (lv_sub hl [0, 1, 2, 3, 4] rfl) (by omega) (by omega)
set_option maxHeartbeats 4000000 in
set_option maxRecDepth 100000 in
theorem law_c33 (hl9 : l.stackTraces = false) (C0 : lw_At p s m meth c b N xs) (hN : N ≤ 3072) (X : fx p s m c code 7 #[Value.ref b] RL dC dI cy hp A) (hA : ∀ q, s.heap.size ≤ q → A q) (hbA : ¬ A b) {x mm ob : Nat} {of : Nat → Int64} {K : CS} {M : MS} {ss : List va_W} {w : va_W} (hR : R9 K M) (hi0 : 0 ≤ i.toInt) (hi6 : i.toInt + 6 ≤ (N : Int)) (hI : HI cy x K ss) (hM : NI cy mm M w) (hQ : PDs dC dI A (ss ++ [w ++ [(ob, .inl (cy 2, 1, .inr (.inl of)))]]) H) (hS : va_S A s.heap H locs) (hl : lv_has ls 7 [(4, .int i), (3, .ref ob), (2, .ref mm), (1, .ref x), (0, .ref b)]) (hc7 : cells ≤ 590000) (hs7 : slots ≤ 7280000) (kk : ∀ (K : CS) (M : MS) (ss : List va_W) (w : va_W) (of : Nat → Int64) (H : Heap) (locs : List Loc) (ls : Array Slot) (cells1 slots1 : Nat), R9 K M → HI cy x K ss → NI cy mm M w → PDs dC dI A (ss ++ [w ++ [(ob, .inl (cy 2, 1, .inr (.inl of)))]]) H → va_S A s.heap H locs → lv_has ls 7 [(4, .int i), (3, .ref ob), (2, .ref mm), (1, .ref x), (0, .ref b)] → cells1 ≤ cells + 20 → slots1 ≤ slots + 100 → W p l e room_1 s m #[Value.ref b] below meth c H locs cells1 slots1 Q (F0 m 1924 ls [])) : W p l e room_1 s m #[Value.ref b] below meth c H locs cells slots Q (F0 m 1181 ls []) := by
  obtain ⟨-, -, hr, -, -, -, hX, hbl, hlocks, -⟩ := C0
  have hx := X.1
  have hb := X.2.1
  have hc9 : cells ≤ 599000 := by omega
  have hs9 : slots ≤ 7290000 := by omega
  have hc8 : cells + 1 ≤ 599000 := by omega
  have hs8 : slots + 6 ≤ 7290000 := by omega
  refine lv_aload_n hx hb dL_law_1181 rfl (lv_at hl 3 rfl) ?_
  refine lv_aload_n hx hb dL_law_1182 rfl (lv_at hl 4 rfl) ?_
  refine lv_iload hx hb dL_law_1183 (lv_at hl 0 rfl) ?_
  refine lv_iconst (v := 1) hx hb dL_law_1185 (by decide) ?_
  refine lv_iadd hx hb dL_law_1186 ?_
  refine lv_topi (fun x_1 ex_1 => ?_)
  have tx_1 : x_1.toInt = i.toInt + 1 := ti_add (A := i.toInt) (B := 1) ex_1 rfl rfl (by omega) (by omega)
  refine va_sld hx hb hX hbl hbA hS (i := x_1) (vin (by omega) (by omega)) dL_law_1187 ?_
  refine lv_topi (fun x_2 ex_2 => ?_)
  refine lv_aload_n hx hb dL_law_1188 rfl (lv_at hl 4 rfl) ?_
  refine lv_iload hx hb dL_law_1189 (lv_at hl 0 rfl) ?_
  refine lv_iconst (v := 2) hx hb dL_law_1191 (by decide) ?_
  refine lv_iadd hx hb dL_law_1192 ?_
  refine lv_topi (fun x_3 ex_3 => ?_)
  have tx_3 : x_3.toInt = i.toInt + 2 := ti_add (A := i.toInt) (B := 2) ex_3 rfl rfl (by omega) (by omega)
  refine va_sld hx hb hX hbl hbA hS (i := x_3) (vin (by omega) (by omega)) dL_law_1193 ?_
  refine lv_topi (fun x_4 ex_4 => ?_)
  refine lv_aload_n hx hb dL_law_1194 rfl (lv_at hl 4 rfl) ?_
  refine lv_iload hx hb dL_law_1195 (lv_at hl 0 rfl) ?_
  refine lv_iconst (v := 3) hx hb dL_law_1197 (by decide) ?_
  refine lv_iadd hx hb dL_law_1198 ?_
  refine lv_topi (fun x_5 ex_5 => ?_)
  have tx_5 : x_5.toInt = i.toInt + 3 := ti_add (A := i.toInt) (B := 3) ex_5 rfl rfl (by omega) (by omega)
  refine va_sld hx hb hX hbl hbA hS (i := x_5) (vin (by omega) (by omega)) dL_law_1199 ?_
  refine lv_topi (fun x_6 ex_6 => ?_)
  suffices hz_7 : ∀ z : Int32, z = bZ x_6 → W p l e room_1 s m #[Value.ref b] below meth c H locs cells slots Q (F0 m 1208 ls (.int z :: [.int x_4, .int x_2, .ref x])) from by
      refine lv_if_eq (tgt := 1207) hx hb dL_law_1200 (by decide) (fun hz9 => ?_) (fun hz9 => ?_)
      · refine lv_iconst (v := 0) hx hb dL_law_1207 (by decide) ?_
        exact hz_7 0 (bZ_0 hz9)
      · refine lv_iconst (v := 1) hx hb dL_law_1203 (by decide) ?_
        refine lv_goto (tgt := 1208) hx hb dL_law_1204 (by decide) ?_
        exact hz_7 1 (bZ_1 hz9)
  intro z_7 ez_7
  refine hc_walkOdds X hA hI hQ hS hl (rest := []) (Nat.le_of_ble_eq_true rfl) dL_law_1208 mL_156 (by omega) (by omega) x_2 x_4 z_7 (fun r_8 K_9 ss H locs hI hp_10 hQ hS => ?_)
  refine lv_pop2_2 hx hb dL_law_1211 rfl ?_
  refine lv_aload_n hx hb dL_law_1212 rfl (lv_at hl 2 rfl) ?_
  refine lv_aload_n hx hb dL_law_1213 rfl (lv_at hl 4 rfl) ?_
  refine lv_iload hx hb dL_law_1214 (lv_at hl 0 rfl) ?_
  refine lv_iconst (v := 1) hx hb dL_law_1216 (by decide) ?_
  refine lv_iadd hx hb dL_law_1217 ?_
  refine lv_topi (fun x_11 ex_11 => ?_)
  have tx_11 : x_11.toInt = i.toInt + 1 := ti_add (A := i.toInt) (B := 1) ex_11 rfl rfl (by omega) (by omega)
  refine va_sld hx hb hX hbl hbA hS (i := x_11) (vin (by omega) (by omega)) dL_law_1218 ?_
  refine lv_topi (fun x_12 ex_12 => ?_)
  have qx_12 : x_2 = x_12 := by rw [ex_2, ex_12, show x_1 = x_11 from Int32.toInt_inj.mp (by omega)]
  subst qx_12
  refine lv_aload_n hx hb dL_law_1219 rfl (lv_at hl 4 rfl) ?_
  refine lv_iload hx hb dL_law_1220 (lv_at hl 0 rfl) ?_
  refine lv_iconst (v := 2) hx hb dL_law_1222 (by decide) ?_
  refine lv_iadd hx hb dL_law_1223 ?_
  refine lv_topi (fun x_13 ex_13 => ?_)
  have tx_13 : x_13.toInt = i.toInt + 2 := ti_add (A := i.toInt) (B := 2) ex_13 rfl rfl (by omega) (by omega)
  refine va_sld hx hb hX hbl hbA hS (i := x_13) (vin (by omega) (by omega)) dL_law_1224 ?_
  refine lv_topi (fun x_14 ex_14 => ?_)
  have qx_14 : x_4 = x_14 := by rw [ex_4, ex_14, show x_3 = x_13 from Int32.toInt_inj.mp (by omega)]
  subst qx_14
  refine lv_aload_n hx hb dL_law_1225 rfl (lv_at hl 4 rfl) ?_
  refine lv_iload hx hb dL_law_1226 (lv_at hl 0 rfl) ?_
  refine lv_iconst (v := 3) hx hb dL_law_1228 (by decide) ?_
  refine lv_iadd hx hb dL_law_1229 ?_
  refine lv_topi (fun x_15 ex_15 => ?_)
  have tx_15 : x_15.toInt = i.toInt + 3 := ti_add (A := i.toInt) (B := 3) ex_15 rfl rfl (by omega) (by omega)
  refine va_sld hx hb hX hbl hbA hS (i := x_15) (vin (by omega) (by omega)) dL_law_1230 ?_
  refine lv_topi (fun x_16 ex_16 => ?_)
  have qx_16 : x_6 = x_16 := by rw [ex_6, ex_16, show x_5 = x_15 from Int32.toInt_inj.mp (by omega)]
  subst qx_16
  suffices hz_17 : ∀ z : Int32, z = bZ x_6 → W p l e room_1 s m #[Value.ref b] below meth c H locs cells slots Q (F0 m 1239 ls (.int z :: [.int x_4, .int x_2, .ref mm])) from by
      refine lv_if_eq (tgt := 1238) hx hb dL_law_1231 (by decide) (fun hz9 => ?_) (fun hz9 => ?_)
      · refine lv_iconst (v := 0) hx hb dL_law_1238 (by decide) ?_
        exact hz_17 0 (bZ_0 hz9)
      · refine lv_iconst (v := 1) hx hb dL_law_1234 (by decide) ?_
        refine lv_goto (tgt := 1239) hx hb dL_law_1235 (by decide) ?_
        exact hz_17 1 (bZ_1 hz9)
  intro z_17 ez_17
  obtain rfl : z_7 = z_17 := ez_7.trans ez_17.symm
  have hQ := PDs.front hQ
  refine hm_walkOdds X hA hM hQ hS hl (rest := []) (Nat.le_of_ble_eq_true rfl) dL_law_1239 mL_160 (by omega) (by omega) x_2 x_4 z_7 (fun r_18 M_19 w H locs hM hp_20 hQ hS => ?_)
  have hR := s9_walkOdds hR hp_10 hp_20
  have hQ := PDs.behind hQ
  refine lv_pop2_2 hx hb dL_law_1242 rfl ?_
  refine lv_goto (tgt := 1924) hx hb dL_law_1243 (by decide) ?_
  exact kk K_9 M_19 ss w of H locs _ cells slots hR hI hM hQ hS (lv_sub hl [0, 1, 2, 3, 4] rfl) (by omega) (by omega)
set_option maxHeartbeats 4000000 in
set_option maxRecDepth 100000 in
theorem law_c34 (hl9 : l.stackTraces = false) (C0 : lw_At p s m meth c b N xs) (hN : N ≤ 3072) (X : fx p s m c code 7 #[Value.ref b] RL dC dI cy hp A) (hA : ∀ q, s.heap.size ≤ q → A q) (hbA : ¬ A b) {x mm ob : Nat} {of : Nat → Int64} {K : CS} {M : MS} {ss : List va_W} {w : va_W} (hR : R9 K M) (hi0 : 0 ≤ i.toInt) (hi6 : i.toInt + 6 ≤ (N : Int)) (hI : HI cy x K ss) (hM : NI cy mm M w) (hQ : PDs dC dI A (ss ++ [w ++ [(ob, .inl (cy 2, 1, .inr (.inl of)))]]) H) (hS : va_S A s.heap H locs) (hl : lv_has ls 7 [(4, .int i), (3, .ref ob), (2, .ref mm), (1, .ref x), (0, .ref b)]) (hc7 : cells ≤ 590000) (hs7 : slots ≤ 7280000) (kk : ∀ (K : CS) (M : MS) (ss : List va_W) (w : va_W) (of : Nat → Int64) (H : Heap) (locs : List Loc) (ls : Array Slot) (cells1 slots1 : Nat), R9 K M → HI cy x K ss → NI cy mm M w → PDs dC dI A (ss ++ [w ++ [(ob, .inl (cy 2, 1, .inr (.inl of)))]]) H → va_S A s.heap H locs → lv_has ls 7 [(4, .int i), (3, .ref ob), (2, .ref mm), (1, .ref x), (0, .ref b)] → cells1 ≤ cells + 20 → slots1 ≤ slots + 100 → W p l e room_1 s m #[Value.ref b] below meth c H locs cells1 slots1 Q (F0 m 1924 ls [])) : W p l e room_1 s m #[Value.ref b] below meth c H locs cells slots Q (F0 m 1246 ls []) := by
  obtain ⟨-, -, hr, -, -, -, hX, hbl, hlocks, -⟩ := C0
  have hx := X.1
  have hb := X.2.1
  have hc9 : cells ≤ 599000 := by omega
  have hs9 : slots ≤ 7290000 := by omega
  have hc8 : cells + 1 ≤ 599000 := by omega
  have hs8 : slots + 6 ≤ 7290000 := by omega
  refine lv_aload_n hx hb dL_law_1246 rfl (lv_at hl 3 rfl) ?_
  refine lv_aload_n hx hb dL_law_1247 rfl (lv_at hl 4 rfl) ?_
  refine lv_iload hx hb dL_law_1248 (lv_at hl 0 rfl) ?_
  refine lv_iconst (v := 1) hx hb dL_law_1250 (by decide) ?_
  refine lv_iadd hx hb dL_law_1251 ?_
  refine lv_topi (fun x_1 ex_1 => ?_)
  have tx_1 : x_1.toInt = i.toInt + 1 := ti_add (A := i.toInt) (B := 1) ex_1 rfl rfl (by omega) (by omega)
  refine va_sld hx hb hX hbl hbA hS (i := x_1) (vin (by omega) (by omega)) dL_law_1252 ?_
  refine lv_topi (fun x_2 ex_2 => ?_)
  refine lv_aload_n hx hb dL_law_1253 rfl (lv_at hl 4 rfl) ?_
  refine lv_iload hx hb dL_law_1254 (lv_at hl 0 rfl) ?_
  refine lv_iconst (v := 2) hx hb dL_law_1256 (by decide) ?_
  refine lv_iadd hx hb dL_law_1257 ?_
  refine lv_topi (fun x_3 ex_3 => ?_)
  have tx_3 : x_3.toInt = i.toInt + 2 := ti_add (A := i.toInt) (B := 2) ex_3 rfl rfl (by omega) (by omega)
  refine va_sld hx hb hX hbl hbA hS (i := x_3) (vin (by omega) (by omega)) dL_law_1258 ?_
  refine lv_topi (fun x_4 ex_4 => ?_)
  suffices hz_5 : ∀ z : Int32, z = bZ x_4 → W p l e room_1 s m #[Value.ref b] below meth c H locs cells slots Q (F0 m 1267 ls (.int z :: [.int x_2, .ref x])) from by
      refine lv_if_eq (tgt := 1266) hx hb dL_law_1259 (by decide) (fun hz9 => ?_) (fun hz9 => ?_)
      · refine lv_iconst (v := 0) hx hb dL_law_1266 (by decide) ?_
        exact hz_5 0 (bZ_0 hz9)
      · refine lv_iconst (v := 1) hx hb dL_law_1262 (by decide) ?_
        refine lv_goto (tgt := 1267) hx hb dL_law_1263 (by decide) ?_
        exact hz_5 1 (bZ_1 hz9)
  intro z_5 ez_5
  refine lv_aload_n hx hb dL_law_1267 rfl (lv_at hl 4 rfl) ?_
  refine lv_iload hx hb dL_law_1268 (lv_at hl 0 rfl) ?_
  refine lv_iconst (v := 3) hx hb dL_law_1270 (by decide) ?_
  refine lv_iadd hx hb dL_law_1271 ?_
  refine lv_topi (fun x_6 ex_6 => ?_)
  have tx_6 : x_6.toInt = i.toInt + 3 := ti_add (A := i.toInt) (B := 3) ex_6 rfl rfl (by omega) (by omega)
  refine va_sld hx hb hX hbl hbA hS (i := x_6) (vin (by omega) (by omega)) dL_law_1272 ?_
  refine lv_topi (fun x_7 ex_7 => ?_)
  suffices hz_8 : ∀ z : Int32, z = bZ x_7 → W p l e room_1 s m #[Value.ref b] below meth c H locs cells slots Q (F0 m 1281 ls (.int z :: [.int z_5, .int x_2, .ref x])) from by
      refine lv_if_eq (tgt := 1280) hx hb dL_law_1273 (by decide) (fun hz9 => ?_) (fun hz9 => ?_)
      · refine lv_iconst (v := 0) hx hb dL_law_1280 (by decide) ?_
        exact hz_8 0 (bZ_0 hz9)
      · refine lv_iconst (v := 1) hx hb dL_law_1276 (by decide) ?_
        refine lv_goto (tgt := 1281) hx hb dL_law_1277 (by decide) ?_
        exact hz_8 1 (bZ_1 hz9)
  intro z_8 ez_8
  refine lv_aload_n hx hb dL_law_1281 rfl (lv_at hl 4 rfl) ?_
  refine lv_iload hx hb dL_law_1282 (lv_at hl 0 rfl) ?_
  refine lv_iconst (v := 4) hx hb dL_law_1284 (by decide) ?_
  refine lv_iadd hx hb dL_law_1285 ?_
  refine lv_topi (fun x_9 ex_9 => ?_)
  have tx_9 : x_9.toInt = i.toInt + 4 := ti_add (A := i.toInt) (B := 4) ex_9 rfl rfl (by omega) (by omega)
  refine va_sld hx hb hX hbl hbA hS (i := x_9) (vin (by omega) (by omega)) dL_law_1286 ?_
  refine lv_topi (fun x_10 ex_10 => ?_)
  suffices hz_11 : ∀ z : Int32, z = bZ x_10 → W p l e room_1 s m #[Value.ref b] below meth c H locs cells slots Q (F0 m 1295 ls (.int z :: [.int z_8, .int z_5, .int x_2, .ref x])) from by
      refine lv_if_eq (tgt := 1294) hx hb dL_law_1287 (by decide) (fun hz9 => ?_) (fun hz9 => ?_)
      · refine lv_iconst (v := 0) hx hb dL_law_1294 (by decide) ?_
        exact hz_11 0 (bZ_0 hz9)
      · refine lv_iconst (v := 1) hx hb dL_law_1290 (by decide) ?_
        refine lv_goto (tgt := 1295) hx hb dL_law_1291 (by decide) ?_
        exact hz_11 1 (bZ_1 hz9)
  intro z_11 ez_11
  refine hc_lies X hA hI hQ hS hl (rest := []) (Nat.le_of_ble_eq_true rfl) dL_law_1295 mL_161 (by omega) (by omega) x_2 z_5 z_8 z_11 (fun r_12 K_13 ss H locs hI hp_14 hQ hS => ?_)
  refine lv_pop hx hb dL_law_1298 rfl ?_
  refine lv_aload_n hx hb dL_law_1299 rfl (lv_at hl 2 rfl) ?_
  refine lv_aload_n hx hb dL_law_1300 rfl (lv_at hl 4 rfl) ?_
  refine lv_iload hx hb dL_law_1301 (lv_at hl 0 rfl) ?_
  refine lv_iconst (v := 1) hx hb dL_law_1303 (by decide) ?_
  refine lv_iadd hx hb dL_law_1304 ?_
  refine lv_topi (fun x_15 ex_15 => ?_)
  have tx_15 : x_15.toInt = i.toInt + 1 := ti_add (A := i.toInt) (B := 1) ex_15 rfl rfl (by omega) (by omega)
  refine va_sld hx hb hX hbl hbA hS (i := x_15) (vin (by omega) (by omega)) dL_law_1305 ?_
  refine lv_topi (fun x_16 ex_16 => ?_)
  have qx_16 : x_2 = x_16 := by rw [ex_2, ex_16, show x_1 = x_15 from Int32.toInt_inj.mp (by omega)]
  subst qx_16
  refine lv_aload_n hx hb dL_law_1306 rfl (lv_at hl 4 rfl) ?_
  refine lv_iload hx hb dL_law_1307 (lv_at hl 0 rfl) ?_
  refine lv_iconst (v := 2) hx hb dL_law_1309 (by decide) ?_
  refine lv_iadd hx hb dL_law_1310 ?_
  refine lv_topi (fun x_17 ex_17 => ?_)
  have tx_17 : x_17.toInt = i.toInt + 2 := ti_add (A := i.toInt) (B := 2) ex_17 rfl rfl (by omega) (by omega)
  refine va_sld hx hb hX hbl hbA hS (i := x_17) (vin (by omega) (by omega)) dL_law_1311 ?_
  refine lv_topi (fun x_18 ex_18 => ?_)
  have qx_18 : x_4 = x_18 := by rw [ex_4, ex_18, show x_3 = x_17 from Int32.toInt_inj.mp (by omega)]
  subst qx_18
  suffices hz_19 : ∀ z : Int32, z = bZ x_4 → W p l e room_1 s m #[Value.ref b] below meth c H locs cells slots Q (F0 m 1320 ls (.int z :: [.int x_2, .ref mm])) from by
      refine lv_if_eq (tgt := 1319) hx hb dL_law_1312 (by decide) (fun hz9 => ?_) (fun hz9 => ?_)
      · refine lv_iconst (v := 0) hx hb dL_law_1319 (by decide) ?_
        exact hz_19 0 (bZ_0 hz9)
      · refine lv_iconst (v := 1) hx hb dL_law_1315 (by decide) ?_
        refine lv_goto (tgt := 1320) hx hb dL_law_1316 (by decide) ?_
        exact hz_19 1 (bZ_1 hz9)
  intro z_19 ez_19
  obtain rfl : z_5 = z_19 := ez_5.trans ez_19.symm
  refine lv_aload_n hx hb dL_law_1320 rfl (lv_at hl 4 rfl) ?_
  refine lv_iload hx hb dL_law_1321 (lv_at hl 0 rfl) ?_
  refine lv_iconst (v := 3) hx hb dL_law_1323 (by decide) ?_
  refine lv_iadd hx hb dL_law_1324 ?_
  refine lv_topi (fun x_20 ex_20 => ?_)
  have tx_20 : x_20.toInt = i.toInt + 3 := ti_add (A := i.toInt) (B := 3) ex_20 rfl rfl (by omega) (by omega)
  refine va_sld hx hb hX hbl hbA hS (i := x_20) (vin (by omega) (by omega)) dL_law_1325 ?_
  refine lv_topi (fun x_21 ex_21 => ?_)
  have qx_21 : x_7 = x_21 := by rw [ex_7, ex_21, show x_6 = x_20 from Int32.toInt_inj.mp (by omega)]
  subst qx_21
  suffices hz_22 : ∀ z : Int32, z = bZ x_7 → W p l e room_1 s m #[Value.ref b] below meth c H locs cells slots Q (F0 m 1334 ls (.int z :: [.int z_5, .int x_2, .ref mm])) from by
      refine lv_if_eq (tgt := 1333) hx hb dL_law_1326 (by decide) (fun hz9 => ?_) (fun hz9 => ?_)
      · refine lv_iconst (v := 0) hx hb dL_law_1333 (by decide) ?_
        exact hz_22 0 (bZ_0 hz9)
      · refine lv_iconst (v := 1) hx hb dL_law_1329 (by decide) ?_
        refine lv_goto (tgt := 1334) hx hb dL_law_1330 (by decide) ?_
        exact hz_22 1 (bZ_1 hz9)
  intro z_22 ez_22
  obtain rfl : z_8 = z_22 := ez_8.trans ez_22.symm
  refine lv_aload_n hx hb dL_law_1334 rfl (lv_at hl 4 rfl) ?_
  refine lv_iload hx hb dL_law_1335 (lv_at hl 0 rfl) ?_
  refine lv_iconst (v := 4) hx hb dL_law_1337 (by decide) ?_
  refine lv_iadd hx hb dL_law_1338 ?_
  refine lv_topi (fun x_23 ex_23 => ?_)
  have tx_23 : x_23.toInt = i.toInt + 4 := ti_add (A := i.toInt) (B := 4) ex_23 rfl rfl (by omega) (by omega)
  refine va_sld hx hb hX hbl hbA hS (i := x_23) (vin (by omega) (by omega)) dL_law_1339 ?_
  refine lv_topi (fun x_24 ex_24 => ?_)
  have qx_24 : x_10 = x_24 := by rw [ex_10, ex_24, show x_9 = x_23 from Int32.toInt_inj.mp (by omega)]
  subst qx_24
  suffices hz_25 : ∀ z : Int32, z = bZ x_10 → W p l e room_1 s m #[Value.ref b] below meth c H locs cells slots Q (F0 m 1348 ls (.int z :: [.int z_8, .int z_5, .int x_2, .ref mm])) from by
      refine lv_if_eq (tgt := 1347) hx hb dL_law_1340 (by decide) (fun hz9 => ?_) (fun hz9 => ?_)
      · refine lv_iconst (v := 0) hx hb dL_law_1347 (by decide) ?_
        exact hz_25 0 (bZ_0 hz9)
      · refine lv_iconst (v := 1) hx hb dL_law_1343 (by decide) ?_
        refine lv_goto (tgt := 1348) hx hb dL_law_1344 (by decide) ?_
        exact hz_25 1 (bZ_1 hz9)
  intro z_25 ez_25
  obtain rfl : z_11 = z_25 := ez_11.trans ez_25.symm
  have hQ := PDs.front hQ
  refine hm_lies X hA hM hQ hS hl (rest := []) (Nat.le_of_ble_eq_true rfl) dL_law_1348 mL_165 (by omega) (by omega) x_2 z_5 z_8 z_11 (fun r_26 M_27 w H locs hM hp_28 hQ hS => ?_)
  have hR := s9_lies hR hp_14 hp_28
  have hQ := PDs.behind hQ
  refine lv_pop hx hb dL_law_1351 rfl ?_
  refine lv_goto (tgt := 1924) hx hb dL_law_1352 (by decide) ?_
  exact kk K_13 M_27 ss w of H locs _ cells slots hR hI hM hQ hS (lv_sub hl [0, 1, 2, 3, 4] rfl) (by omega) (by omega)
set_option maxHeartbeats 4000000 in
set_option maxRecDepth 100000 in
theorem law_c35 (hl9 : l.stackTraces = false) (C0 : lw_At p s m meth c b N xs) (hN : N ≤ 3072) (X : fx p s m c code 7 #[Value.ref b] RL dC dI cy hp A) (hA : ∀ q, s.heap.size ≤ q → A q) (hbA : ¬ A b) {x mm ob : Nat} {of : Nat → Int64} {K : CS} {M : MS} {ss : List va_W} {w : va_W} (hR : R9 K M) (hi0 : 0 ≤ i.toInt) (hi6 : i.toInt + 6 ≤ (N : Int)) (hI : HI cy x K ss) (hM : NI cy mm M w) (hQ : PDs dC dI A (ss ++ [w ++ [(ob, .inl (cy 2, 1, .inr (.inl of)))]]) H) (hS : va_S A s.heap H locs) (hl : lv_has ls 7 [(4, .int i), (3, .ref ob), (2, .ref mm), (1, .ref x), (0, .ref b)]) (hc7 : cells ≤ 590000) (hs7 : slots ≤ 7280000) (kk : ∀ (K : CS) (M : MS) (ss : List va_W) (w : va_W) (of : Nat → Int64) (H : Heap) (locs : List Loc) (ls : Array Slot) (cells1 slots1 : Nat), R9 K M → HI cy x K ss → NI cy mm M w → PDs dC dI A (ss ++ [w ++ [(ob, .inl (cy 2, 1, .inr (.inl of)))]]) H → va_S A s.heap H locs → lv_has ls 7 [(4, .int i), (3, .ref ob), (2, .ref mm), (1, .ref x), (0, .ref b)] → cells1 ≤ cells + 20 → slots1 ≤ slots + 100 → W p l e room_1 s m #[Value.ref b] below meth c H locs cells1 slots1 Q (F0 m 1924 ls [])) : W p l e room_1 s m #[Value.ref b] below meth c H locs cells slots Q (F0 m 1355 ls []) := by
  obtain ⟨-, -, hr, -, -, -, hX, hbl, hlocks, -⟩ := C0
  have hx := X.1
  have hb := X.2.1
  have hc9 : cells ≤ 599000 := by omega
  have hs9 : slots ≤ 7290000 := by omega
  have hc8 : cells + 1 ≤ 599000 := by omega
  have hs8 : slots + 6 ≤ 7290000 := by omega
  refine lv_aload_n hx hb dL_law_1355 rfl (lv_at hl 3 rfl) ?_
  refine lv_aload_n hx hb dL_law_1356 rfl (lv_at hl 4 rfl) ?_
  refine lv_iload hx hb dL_law_1357 (lv_at hl 0 rfl) ?_
  refine lv_iconst (v := 1) hx hb dL_law_1359 (by decide) ?_
  refine lv_iadd hx hb dL_law_1360 ?_
  refine lv_topi (fun x_1 ex_1 => ?_)
  have tx_1 : x_1.toInt = i.toInt + 1 := ti_add (A := i.toInt) (B := 1) ex_1 rfl rfl (by omega) (by omega)
  refine va_sld hx hb hX hbl hbA hS (i := x_1) (vin (by omega) (by omega)) dL_law_1361 ?_
  refine lv_topi (fun x_2 ex_2 => ?_)
  refine hc_rests X hA hI hQ hS hl (rest := []) (Nat.le_of_ble_eq_true rfl) dL_law_1362 mL_166 (by omega) (by omega) x_2 (fun r_3 K_4 ss H locs hI hp_5 hQ hS => ?_)
  refine lv_pop hx hb dL_law_1365 rfl ?_
  refine lv_aload_n hx hb dL_law_1366 rfl (lv_at hl 2 rfl) ?_
  refine lv_aload_n hx hb dL_law_1367 rfl (lv_at hl 4 rfl) ?_
  refine lv_iload hx hb dL_law_1368 (lv_at hl 0 rfl) ?_
  refine lv_iconst (v := 1) hx hb dL_law_1370 (by decide) ?_
  refine lv_iadd hx hb dL_law_1371 ?_
  refine lv_topi (fun x_6 ex_6 => ?_)
  have tx_6 : x_6.toInt = i.toInt + 1 := ti_add (A := i.toInt) (B := 1) ex_6 rfl rfl (by omega) (by omega)
  refine va_sld hx hb hX hbl hbA hS (i := x_6) (vin (by omega) (by omega)) dL_law_1372 ?_
  refine lv_topi (fun x_7 ex_7 => ?_)
  have qx_7 : x_2 = x_7 := by rw [ex_2, ex_7, show x_1 = x_6 from Int32.toInt_inj.mp (by omega)]
  subst qx_7
  have hQ := PDs.front hQ
  refine hm_rests X hA hM hQ hS hl (rest := []) (Nat.le_of_ble_eq_true rfl) dL_law_1373 mL_169 (by omega) (by omega) x_2 (fun r_8 M_9 w H locs hM hp_10 hQ hS => ?_)
  have hR := s9_rests hR hp_5 hp_10
  have hQ := PDs.behind hQ
  refine lv_pop hx hb dL_law_1376 rfl ?_
  refine lv_goto (tgt := 1924) hx hb dL_law_1377 (by decide) ?_
  exact kk K_4 M_9 ss w of H locs _ cells slots hR hI hM hQ hS (lv_sub hl [0, 1, 2, 3, 4] rfl) (by omega) (by omega)
set_option maxHeartbeats 4000000 in
set_option maxRecDepth 100000 in
theorem law_c36 (hl9 : l.stackTraces = false) (C0 : lw_At p s m meth c b N xs) (hN : N ≤ 3072) (X : fx p s m c code 7 #[Value.ref b] RL dC dI cy hp A) (hA : ∀ q, s.heap.size ≤ q → A q) (hbA : ¬ A b) {x mm ob : Nat} {of : Nat → Int64} {K : CS} {M : MS} {ss : List va_W} {w : va_W} (hR : R9 K M) (hi0 : 0 ≤ i.toInt) (hi6 : i.toInt + 6 ≤ (N : Int)) (hI : HI cy x K ss) (hM : NI cy mm M w) (hQ : PDs dC dI A (ss ++ [w ++ [(ob, .inl (cy 2, 1, .inr (.inl of)))]]) H) (hS : va_S A s.heap H locs) (hl : lv_has ls 7 [(4, .int i), (3, .ref ob), (2, .ref mm), (1, .ref x), (0, .ref b)]) (hc7 : cells ≤ 590000) (hs7 : slots ≤ 7280000) (kk : ∀ (K : CS) (M : MS) (ss : List va_W) (w : va_W) (of : Nat → Int64) (H : Heap) (locs : List Loc) (ls : Array Slot) (cells1 slots1 : Nat), R9 K M → HI cy x K ss → NI cy mm M w → PDs dC dI A (ss ++ [w ++ [(ob, .inl (cy 2, 1, .inr (.inl of)))]]) H → va_S A s.heap H locs → lv_has ls 7 [(4, .int i), (3, .ref ob), (2, .ref mm), (1, .ref x), (0, .ref b)] → cells1 ≤ cells + 20 → slots1 ≤ slots + 100 → W p l e room_1 s m #[Value.ref b] below meth c H locs cells1 slots1 Q (F0 m 1924 ls [])) : W p l e room_1 s m #[Value.ref b] below meth c H locs cells slots Q (F0 m 1380 ls []) := by
  obtain ⟨-, -, hr, -, -, -, hX, hbl, hlocks, -⟩ := C0
  have hx := X.1
  have hb := X.2.1
  have hc9 : cells ≤ 599000 := by omega
  have hs9 : slots ≤ 7290000 := by omega
  have hc8 : cells + 1 ≤ 599000 := by omega
  have hs8 : slots + 6 ≤ 7290000 := by omega
  refine lv_aload_n hx hb dL_law_1380 rfl (lv_at hl 3 rfl) ?_
  refine lv_aload_n hx hb dL_law_1381 rfl (lv_at hl 4 rfl) ?_
  refine lv_iload hx hb dL_law_1382 (lv_at hl 0 rfl) ?_
  refine lv_iconst (v := 1) hx hb dL_law_1384 (by decide) ?_
  refine lv_iadd hx hb dL_law_1385 ?_
  refine lv_topi (fun x_1 ex_1 => ?_)
  have tx_1 : x_1.toInt = i.toInt + 1 := ti_add (A := i.toInt) (B := 1) ex_1 rfl rfl (by omega) (by omega)
  refine va_sld hx hb hX hbl hbA hS (i := x_1) (vin (by omega) (by omega)) dL_law_1386 ?_
  refine lv_topi (fun x_2 ex_2 => ?_)
  refine hc_rest X hA hI hQ hS hl (rest := []) (Nat.le_of_ble_eq_true rfl) dL_law_1387 mL_170 (by omega) (by omega) x_2 (fun r_3 K_4 ss H locs hI hp_5 hQ hS => ?_)
  refine lv_pop hx hb dL_law_1390 rfl ?_
  refine lv_aload_n hx hb dL_law_1391 rfl (lv_at hl 2 rfl) ?_
  refine lv_aload_n hx hb dL_law_1392 rfl (lv_at hl 4 rfl) ?_
  refine lv_iload hx hb dL_law_1393 (lv_at hl 0 rfl) ?_
  refine lv_iconst (v := 1) hx hb dL_law_1395 (by decide) ?_
  refine lv_iadd hx hb dL_law_1396 ?_
  refine lv_topi (fun x_6 ex_6 => ?_)
  have tx_6 : x_6.toInt = i.toInt + 1 := ti_add (A := i.toInt) (B := 1) ex_6 rfl rfl (by omega) (by omega)
  refine va_sld hx hb hX hbl hbA hS (i := x_6) (vin (by omega) (by omega)) dL_law_1397 ?_
  refine lv_topi (fun x_7 ex_7 => ?_)
  have qx_7 : x_2 = x_7 := by rw [ex_2, ex_7, show x_1 = x_6 from Int32.toInt_inj.mp (by omega)]
  subst qx_7
  have hQ := PDs.front hQ
  refine hm_rest X hA hM hQ hS hl (rest := []) (Nat.le_of_ble_eq_true rfl) dL_law_1398 mL_173 (by omega) (by omega) x_2 (fun r_8 M_9 w H locs hM hp_10 hQ hS => ?_)
  have hR := s9_rest hR hp_5 hp_10
  have hQ := PDs.behind hQ
  refine lv_pop hx hb dL_law_1401 rfl ?_
  refine lv_goto (tgt := 1924) hx hb dL_law_1402 (by decide) ?_
  exact kk K_4 M_9 ss w of H locs _ cells slots hR hI hM hQ hS (lv_sub hl [0, 1, 2, 3, 4] rfl) (by omega) (by omega)
set_option maxHeartbeats 4000000 in
set_option maxRecDepth 100000 in
theorem law_c37 (hl9 : l.stackTraces = false) (C0 : lw_At p s m meth c b N xs) (hN : N ≤ 3072) (X : fx p s m c code 7 #[Value.ref b] RL dC dI cy hp A) (hA : ∀ q, s.heap.size ≤ q → A q) (hbA : ¬ A b) {x mm ob : Nat} {of : Nat → Int64} {K : CS} {M : MS} {ss : List va_W} {w : va_W} (hR : R9 K M) (hi0 : 0 ≤ i.toInt) (hi6 : i.toInt + 6 ≤ (N : Int)) (hI : HI cy x K ss) (hM : NI cy mm M w) (hQ : PDs dC dI A (ss ++ [w ++ [(ob, .inl (cy 2, 1, .inr (.inl of)))]]) H) (hS : va_S A s.heap H locs) (hl : lv_has ls 7 [(4, .int i), (3, .ref ob), (2, .ref mm), (1, .ref x), (0, .ref b)]) (hc7 : cells ≤ 590000) (hs7 : slots ≤ 7280000) (kk : ∀ (K : CS) (M : MS) (ss : List va_W) (w : va_W) (of : Nat → Int64) (H : Heap) (locs : List Loc) (ls : Array Slot) (cells1 slots1 : Nat), R9 K M → HI cy x K ss → NI cy mm M w → PDs dC dI A (ss ++ [w ++ [(ob, .inl (cy 2, 1, .inr (.inl of)))]]) H → va_S A s.heap H locs → lv_has ls 7 [(4, .int i), (3, .ref ob), (2, .ref mm), (1, .ref x), (0, .ref b)] → cells1 ≤ cells + 20 → slots1 ≤ slots + 100 → W p l e room_1 s m #[Value.ref b] below meth c H locs cells1 slots1 Q (F0 m 1924 ls [])) : W p l e room_1 s m #[Value.ref b] below meth c H locs cells slots Q (F0 m 1405 ls []) := by
  obtain ⟨-, -, hr, -, -, -, hX, hbl, hlocks, -⟩ := C0
  have hx := X.1
  have hb := X.2.1
  have hc9 : cells ≤ 599000 := by omega
  have hs9 : slots ≤ 7290000 := by omega
  have hc8 : cells + 1 ≤ 599000 := by omega
  have hs8 : slots + 6 ≤ 7290000 := by omega
  refine lv_aload_n hx hb dL_law_1405 rfl (lv_at hl 3 rfl) ?_
  refine lv_aload_n hx hb dL_law_1406 rfl (lv_at hl 4 rfl) ?_
  refine lv_iload hx hb dL_law_1407 (lv_at hl 0 rfl) ?_
  refine lv_iconst (v := 1) hx hb dL_law_1409 (by decide) ?_
  refine lv_iadd hx hb dL_law_1410 ?_
  refine lv_topi (fun x_1 ex_1 => ?_)
  have tx_1 : x_1.toInt = i.toInt + 1 := ti_add (A := i.toInt) (B := 1) ex_1 rfl rfl (by omega) (by omega)
  refine va_sld hx hb hX hbl hbA hS (i := x_1) (vin (by omega) (by omega)) dL_law_1411 ?_
  refine lv_topi (fun x_2 ex_2 => ?_)
  refine lv_aload_n hx hb dL_law_1412 rfl (lv_at hl 4 rfl) ?_
  refine lv_iload hx hb dL_law_1413 (lv_at hl 0 rfl) ?_
  refine lv_iconst (v := 2) hx hb dL_law_1415 (by decide) ?_
  refine lv_iadd hx hb dL_law_1416 ?_
  refine lv_topi (fun x_3 ex_3 => ?_)
  have tx_3 : x_3.toInt = i.toInt + 2 := ti_add (A := i.toInt) (B := 2) ex_3 rfl rfl (by omega) (by omega)
  refine va_sld hx hb hX hbl hbA hS (i := x_3) (vin (by omega) (by omega)) dL_law_1417 ?_
  refine lv_topi (fun x_4 ex_4 => ?_)
  refine lv_aload_n hx hb dL_law_1418 rfl (lv_at hl 4 rfl) ?_
  refine lv_iload hx hb dL_law_1419 (lv_at hl 0 rfl) ?_
  refine lv_iconst (v := 3) hx hb dL_law_1421 (by decide) ?_
  refine lv_iadd hx hb dL_law_1422 ?_
  refine lv_topi (fun x_5 ex_5 => ?_)
  have tx_5 : x_5.toInt = i.toInt + 3 := ti_add (A := i.toInt) (B := 3) ex_5 rfl rfl (by omega) (by omega)
  refine va_sld hx hb hX hbl hbA hS (i := x_5) (vin (by omega) (by omega)) dL_law_1423 ?_
  refine lv_topi (fun x_6 ex_6 => ?_)
  suffices hz_7 : ∀ z : Int32, z = bZ x_6 → W p l e room_1 s m #[Value.ref b] below meth c H locs cells slots Q (F0 m 1432 ls (.int z :: [.int x_4, .int x_2, .ref x])) from by
      refine lv_if_eq (tgt := 1431) hx hb dL_law_1424 (by decide) (fun hz9 => ?_) (fun hz9 => ?_)
      · refine lv_iconst (v := 0) hx hb dL_law_1431 (by decide) ?_
        exact hz_7 0 (bZ_0 hz9)
      · refine lv_iconst (v := 1) hx hb dL_law_1427 (by decide) ?_
        refine lv_goto (tgt := 1432) hx hb dL_law_1428 (by decide) ?_
        exact hz_7 1 (bZ_1 hz9)
  intro z_7 ez_7
  refine hc_fallOdds X hA hI hQ hS hl (rest := []) (Nat.le_of_ble_eq_true rfl) dL_law_1432 mL_174 (by omega) (by omega) x_2 x_4 z_7 (fun r_8 K_9 ss H locs hI hp_10 hQ hS => ?_)
  refine lv_pop2_2 hx hb dL_law_1435 rfl ?_
  refine lv_aload_n hx hb dL_law_1436 rfl (lv_at hl 2 rfl) ?_
  refine lv_aload_n hx hb dL_law_1437 rfl (lv_at hl 4 rfl) ?_
  refine lv_iload hx hb dL_law_1438 (lv_at hl 0 rfl) ?_
  refine lv_iconst (v := 1) hx hb dL_law_1440 (by decide) ?_
  refine lv_iadd hx hb dL_law_1441 ?_
  refine lv_topi (fun x_11 ex_11 => ?_)
  have tx_11 : x_11.toInt = i.toInt + 1 := ti_add (A := i.toInt) (B := 1) ex_11 rfl rfl (by omega) (by omega)
  refine va_sld hx hb hX hbl hbA hS (i := x_11) (vin (by omega) (by omega)) dL_law_1442 ?_
  refine lv_topi (fun x_12 ex_12 => ?_)
  have qx_12 : x_2 = x_12 := by rw [ex_2, ex_12, show x_1 = x_11 from Int32.toInt_inj.mp (by omega)]
  subst qx_12
  refine lv_aload_n hx hb dL_law_1443 rfl (lv_at hl 4 rfl) ?_
  refine lv_iload hx hb dL_law_1444 (lv_at hl 0 rfl) ?_
  refine lv_iconst (v := 2) hx hb dL_law_1446 (by decide) ?_
  refine lv_iadd hx hb dL_law_1447 ?_
  refine lv_topi (fun x_13 ex_13 => ?_)
  have tx_13 : x_13.toInt = i.toInt + 2 := ti_add (A := i.toInt) (B := 2) ex_13 rfl rfl (by omega) (by omega)
  refine va_sld hx hb hX hbl hbA hS (i := x_13) (vin (by omega) (by omega)) dL_law_1448 ?_
  refine lv_topi (fun x_14 ex_14 => ?_)
  have qx_14 : x_4 = x_14 := by rw [ex_4, ex_14, show x_3 = x_13 from Int32.toInt_inj.mp (by omega)]
  subst qx_14
  refine lv_aload_n hx hb dL_law_1449 rfl (lv_at hl 4 rfl) ?_
  refine lv_iload hx hb dL_law_1450 (lv_at hl 0 rfl) ?_
  refine lv_iconst (v := 3) hx hb dL_law_1452 (by decide) ?_
  refine lv_iadd hx hb dL_law_1453 ?_
  refine lv_topi (fun x_15 ex_15 => ?_)
  have tx_15 : x_15.toInt = i.toInt + 3 := ti_add (A := i.toInt) (B := 3) ex_15 rfl rfl (by omega) (by omega)
  refine va_sld hx hb hX hbl hbA hS (i := x_15) (vin (by omega) (by omega)) dL_law_1454 ?_
  refine lv_topi (fun x_16 ex_16 => ?_)
  have qx_16 : x_6 = x_16 := by rw [ex_6, ex_16, show x_5 = x_15 from Int32.toInt_inj.mp (by omega)]
  subst qx_16
  suffices hz_17 : ∀ z : Int32, z = bZ x_6 → W p l e room_1 s m #[Value.ref b] below meth c H locs cells slots Q (F0 m 1463 ls (.int z :: [.int x_4, .int x_2, .ref mm])) from by
      refine lv_if_eq (tgt := 1462) hx hb dL_law_1455 (by decide) (fun hz9 => ?_) (fun hz9 => ?_)
      · refine lv_iconst (v := 0) hx hb dL_law_1462 (by decide) ?_
        exact hz_17 0 (bZ_0 hz9)
      · refine lv_iconst (v := 1) hx hb dL_law_1458 (by decide) ?_
        refine lv_goto (tgt := 1463) hx hb dL_law_1459 (by decide) ?_
        exact hz_17 1 (bZ_1 hz9)
  intro z_17 ez_17
  obtain rfl : z_7 = z_17 := ez_7.trans ez_17.symm
  have hQ := PDs.front hQ
  refine hm_fallOdds X hA hM hQ hS hl (rest := []) (Nat.le_of_ble_eq_true rfl) dL_law_1463 mL_177 (by omega) (by omega) x_2 x_4 z_7 (fun r_18 M_19 w H locs hM hp_20 hQ hS => ?_)
  have hR := s9_fallOdds hR hp_10 hp_20
  have hQ := PDs.behind hQ
  refine lv_pop2_2 hx hb dL_law_1466 rfl ?_
  refine lv_goto (tgt := 1924) hx hb dL_law_1467 (by decide) ?_
  exact kk K_9 M_19 ss w of H locs _ cells slots hR hI hM hQ hS (lv_sub hl [0, 1, 2, 3, 4] rfl) (by omega) (by omega)
set_option maxHeartbeats 4000000 in
set_option maxRecDepth 100000 in
theorem law_c38 (hl9 : l.stackTraces = false) (C0 : lw_At p s m meth c b N xs) (hN : N ≤ 3072) (X : fx p s m c code 7 #[Value.ref b] RL dC dI cy hp A) (hA : ∀ q, s.heap.size ≤ q → A q) (hbA : ¬ A b) {x mm ob : Nat} {of : Nat → Int64} {K : CS} {M : MS} {ss : List va_W} {w : va_W} (hR : R9 K M) (hi0 : 0 ≤ i.toInt) (hi6 : i.toInt + 6 ≤ (N : Int)) (hI : HI cy x K ss) (hM : NI cy mm M w) (hQ : PDs dC dI A (ss ++ [w ++ [(ob, .inl (cy 2, 1, .inr (.inl of)))]]) H) (hS : va_S A s.heap H locs) (hl : lv_has ls 7 [(4, .int i), (3, .ref ob), (2, .ref mm), (1, .ref x), (0, .ref b)]) (hc7 : cells ≤ 590000) (hs7 : slots ≤ 7280000) (kk : ∀ (K : CS) (M : MS) (ss : List va_W) (w : va_W) (of : Nat → Int64) (H : Heap) (locs : List Loc) (ls : Array Slot) (cells1 slots1 : Nat), R9 K M → HI cy x K ss → NI cy mm M w → PDs dC dI A (ss ++ [w ++ [(ob, .inl (cy 2, 1, .inr (.inl of)))]]) H → va_S A s.heap H locs → lv_has ls 7 [(4, .int i), (3, .ref ob), (2, .ref mm), (1, .ref x), (0, .ref b)] → cells1 ≤ cells + 20 → slots1 ≤ slots + 100 → W p l e room_1 s m #[Value.ref b] below meth c H locs cells1 slots1 Q (F0 m 1924 ls [])) : W p l e room_1 s m #[Value.ref b] below meth c H locs cells slots Q (F0 m 1470 ls []) := by
  obtain ⟨-, -, hr, -, -, -, hX, hbl, hlocks, -⟩ := C0
  have hx := X.1
  have hb := X.2.1
  have hc9 : cells ≤ 599000 := by omega
  have hs9 : slots ≤ 7290000 := by omega
  have hc8 : cells + 1 ≤ 599000 := by omega
  have hs8 : slots + 6 ≤ 7290000 := by omega
  refine lv_aload_n hx hb dL_law_1470 rfl (lv_at hl 3 rfl) ?_
  refine lv_aload_n hx hb dL_law_1471 rfl (lv_at hl 4 rfl) ?_
  refine lv_iload hx hb dL_law_1472 (lv_at hl 0 rfl) ?_
  refine lv_iconst (v := 1) hx hb dL_law_1474 (by decide) ?_
  refine lv_iadd hx hb dL_law_1475 ?_
  refine lv_topi (fun x_1 ex_1 => ?_)
  have tx_1 : x_1.toInt = i.toInt + 1 := ti_add (A := i.toInt) (B := 1) ex_1 rfl rfl (by omega) (by omega)
  refine va_sld hx hb hX hbl hbA hS (i := x_1) (vin (by omega) (by omega)) dL_law_1476 ?_
  refine lv_topi (fun x_2 ex_2 => ?_)
  refine lv_aload_n hx hb dL_law_1477 rfl (lv_at hl 4 rfl) ?_
  refine lv_iload hx hb dL_law_1478 (lv_at hl 0 rfl) ?_
  refine lv_iconst (v := 2) hx hb dL_law_1480 (by decide) ?_
  refine lv_iadd hx hb dL_law_1481 ?_
  refine lv_topi (fun x_3 ex_3 => ?_)
  have tx_3 : x_3.toInt = i.toInt + 2 := ti_add (A := i.toInt) (B := 2) ex_3 rfl rfl (by omega) (by omega)
  refine va_sld hx hb hX hbl hbA hS (i := x_3) (vin (by omega) (by omega)) dL_law_1482 ?_
  refine lv_topi (fun x_4 ex_4 => ?_)
  suffices hz_5 : ∀ z : Int32, z = bZ x_4 → W p l e room_1 s m #[Value.ref b] below meth c H locs cells slots Q (F0 m 1491 ls (.int z :: [.int x_2, .ref x])) from by
      refine lv_if_eq (tgt := 1490) hx hb dL_law_1483 (by decide) (fun hz9 => ?_) (fun hz9 => ?_)
      · refine lv_iconst (v := 0) hx hb dL_law_1490 (by decide) ?_
        exact hz_5 0 (bZ_0 hz9)
      · refine lv_iconst (v := 1) hx hb dL_law_1486 (by decide) ?_
        refine lv_goto (tgt := 1491) hx hb dL_law_1487 (by decide) ?_
        exact hz_5 1 (bZ_1 hz9)
  intro z_5 ez_5
  refine hc_mean X hA hI hQ hS hl (rest := []) (Nat.le_of_ble_eq_true rfl) dL_law_1491 mL_178 (by omega) (by omega) x_2 z_5 (fun r_6 K_7 ss H locs hI hp_8 hQ hS => ?_)
  refine lv_pop2_2 hx hb dL_law_1494 rfl ?_
  refine lv_aload_n hx hb dL_law_1495 rfl (lv_at hl 2 rfl) ?_
  refine lv_aload_n hx hb dL_law_1496 rfl (lv_at hl 4 rfl) ?_
  refine lv_iload hx hb dL_law_1497 (lv_at hl 0 rfl) ?_
  refine lv_iconst (v := 1) hx hb dL_law_1499 (by decide) ?_
  refine lv_iadd hx hb dL_law_1500 ?_
  refine lv_topi (fun x_9 ex_9 => ?_)
  have tx_9 : x_9.toInt = i.toInt + 1 := ti_add (A := i.toInt) (B := 1) ex_9 rfl rfl (by omega) (by omega)
  refine va_sld hx hb hX hbl hbA hS (i := x_9) (vin (by omega) (by omega)) dL_law_1501 ?_
  refine lv_topi (fun x_10 ex_10 => ?_)
  have qx_10 : x_2 = x_10 := by rw [ex_2, ex_10, show x_1 = x_9 from Int32.toInt_inj.mp (by omega)]
  subst qx_10
  refine lv_aload_n hx hb dL_law_1502 rfl (lv_at hl 4 rfl) ?_
  refine lv_iload hx hb dL_law_1503 (lv_at hl 0 rfl) ?_
  refine lv_iconst (v := 2) hx hb dL_law_1505 (by decide) ?_
  refine lv_iadd hx hb dL_law_1506 ?_
  refine lv_topi (fun x_11 ex_11 => ?_)
  have tx_11 : x_11.toInt = i.toInt + 2 := ti_add (A := i.toInt) (B := 2) ex_11 rfl rfl (by omega) (by omega)
  refine va_sld hx hb hX hbl hbA hS (i := x_11) (vin (by omega) (by omega)) dL_law_1507 ?_
  refine lv_topi (fun x_12 ex_12 => ?_)
  have qx_12 : x_4 = x_12 := by rw [ex_4, ex_12, show x_3 = x_11 from Int32.toInt_inj.mp (by omega)]
  subst qx_12
  suffices hz_13 : ∀ z : Int32, z = bZ x_4 → W p l e room_1 s m #[Value.ref b] below meth c H locs cells slots Q (F0 m 1516 ls (.int z :: [.int x_2, .ref mm])) from by
      refine lv_if_eq (tgt := 1515) hx hb dL_law_1508 (by decide) (fun hz9 => ?_) (fun hz9 => ?_)
      · refine lv_iconst (v := 0) hx hb dL_law_1515 (by decide) ?_
        exact hz_13 0 (bZ_0 hz9)
      · refine lv_iconst (v := 1) hx hb dL_law_1511 (by decide) ?_
        refine lv_goto (tgt := 1516) hx hb dL_law_1512 (by decide) ?_
        exact hz_13 1 (bZ_1 hz9)
  intro z_13 ez_13
  obtain rfl : z_5 = z_13 := ez_5.trans ez_13.symm
  have hQ := PDs.front hQ
  refine hm_mean X hA hM hQ hS hl (rest := []) (Nat.le_of_ble_eq_true rfl) dL_law_1516 mL_181 (by omega) (by omega) x_2 z_5 (fun r_14 M_15 w H locs hM hp_16 hQ hS => ?_)
  have hR := s9_mean hR hp_8 hp_16
  have hQ := PDs.behind hQ
  refine lv_pop2_2 hx hb dL_law_1519 rfl ?_
  refine lv_goto (tgt := 1924) hx hb dL_law_1520 (by decide) ?_
  exact kk K_7 M_15 ss w of H locs _ cells slots hR hI hM hQ hS (lv_sub hl [0, 1, 2, 3, 4] rfl) (by omega) (by omega)
set_option maxHeartbeats 4000000 in
set_option maxRecDepth 100000 in
theorem law_c39 (hl9 : l.stackTraces = false) (C0 : lw_At p s m meth c b N xs) (hN : N ≤ 3072) (X : fx p s m c code 7 #[Value.ref b] RL dC dI cy hp A) (hA : ∀ q, s.heap.size ≤ q → A q) (hbA : ¬ A b) {x mm ob : Nat} {of : Nat → Int64} {K : CS} {M : MS} {ss : List va_W} {w : va_W} (hR : R9 K M) (hi0 : 0 ≤ i.toInt) (hi6 : i.toInt + 6 ≤ (N : Int)) (hI : HI cy x K ss) (hM : NI cy mm M w) (hQ : PDs dC dI A (ss ++ [w ++ [(ob, .inl (cy 2, 1, .inr (.inl of)))]]) H) (hS : va_S A s.heap H locs) (hl : lv_has ls 7 [(4, .int i), (3, .ref ob), (2, .ref mm), (1, .ref x), (0, .ref b)]) (hc7 : cells ≤ 590000) (hs7 : slots ≤ 7280000) (kk : ∀ (K : CS) (M : MS) (ss : List va_W) (w : va_W) (of : Nat → Int64) (H : Heap) (locs : List Loc) (ls : Array Slot) (cells1 slots1 : Nat), R9 K M → HI cy x K ss → NI cy mm M w → PDs dC dI A (ss ++ [w ++ [(ob, .inl (cy 2, 1, .inr (.inl of)))]]) H → va_S A s.heap H locs → lv_has ls 7 [(4, .int i), (3, .ref ob), (2, .ref mm), (1, .ref x), (0, .ref b)] → cells1 ≤ cells + 20 → slots1 ≤ slots + 100 → W p l e room_1 s m #[Value.ref b] below meth c H locs cells1 slots1 Q (F0 m 1924 ls [])) : W p l e room_1 s m #[Value.ref b] below meth c H locs cells slots Q (F0 m 1523 ls []) := by
  obtain ⟨-, -, hr, -, -, -, hX, hbl, hlocks, -⟩ := C0
  have hx := X.1
  have hb := X.2.1
  have hc9 : cells ≤ 599000 := by omega
  have hs9 : slots ≤ 7290000 := by omega
  have hc8 : cells + 1 ≤ 599000 := by omega
  have hs8 : slots + 6 ≤ 7290000 := by omega
  refine lv_aload_n hx hb dL_law_1523 rfl (lv_at hl 3 rfl) ?_
  refine lv_aload_n hx hb dL_law_1524 rfl (lv_at hl 4 rfl) ?_
  refine lv_iload hx hb dL_law_1525 (lv_at hl 0 rfl) ?_
  refine lv_iconst (v := 1) hx hb dL_law_1527 (by decide) ?_
  refine lv_iadd hx hb dL_law_1528 ?_
  refine lv_topi (fun x_1 ex_1 => ?_)
  have tx_1 : x_1.toInt = i.toInt + 1 := ti_add (A := i.toInt) (B := 1) ex_1 rfl rfl (by omega) (by omega)
  refine va_sld hx hb hX hbl hbA hS (i := x_1) (vin (by omega) (by omega)) dL_law_1529 ?_
  refine lv_topi (fun x_2 ex_2 => ?_)
  refine lv_aload_n hx hb dL_law_1530 rfl (lv_at hl 4 rfl) ?_
  refine lv_iload hx hb dL_law_1531 (lv_at hl 0 rfl) ?_
  refine lv_iconst (v := 2) hx hb dL_law_1533 (by decide) ?_
  refine lv_iadd hx hb dL_law_1534 ?_
  refine lv_topi (fun x_3 ex_3 => ?_)
  have tx_3 : x_3.toInt = i.toInt + 2 := ti_add (A := i.toInt) (B := 2) ex_3 rfl rfl (by omega) (by omega)
  refine va_sld hx hb hX hbl hbA hS (i := x_3) (vin (by omega) (by omega)) dL_law_1535 ?_
  refine lv_topi (fun x_4 ex_4 => ?_)
  refine lv_aload_n hx hb dL_law_1536 rfl (lv_at hl 4 rfl) ?_
  refine lv_iload hx hb dL_law_1537 (lv_at hl 0 rfl) ?_
  refine lv_iconst (v := 3) hx hb dL_law_1539 (by decide) ?_
  refine lv_iadd hx hb dL_law_1540 ?_
  refine lv_topi (fun x_5 ex_5 => ?_)
  have tx_5 : x_5.toInt = i.toInt + 3 := ti_add (A := i.toInt) (B := 3) ex_5 rfl rfl (by omega) (by omega)
  refine va_sld hx hb hX hbl hbA hS (i := x_5) (vin (by omega) (by omega)) dL_law_1541 ?_
  refine lv_topi (fun x_6 ex_6 => ?_)
  refine hc_ramble X hA hI hQ hS hl (rest := []) (Nat.le_of_ble_eq_true rfl) dL_law_1542 mL_182 (by omega) (by omega) x_2 x_4 x_6 (fun r_7 K_8 ss H locs hI hp_9 hQ hS => ?_)
  refine lv_pop hx hb dL_law_1545 rfl ?_
  refine lv_aload_n hx hb dL_law_1546 rfl (lv_at hl 2 rfl) ?_
  refine lv_aload_n hx hb dL_law_1547 rfl (lv_at hl 4 rfl) ?_
  refine lv_iload hx hb dL_law_1548 (lv_at hl 0 rfl) ?_
  refine lv_iconst (v := 1) hx hb dL_law_1550 (by decide) ?_
  refine lv_iadd hx hb dL_law_1551 ?_
  refine lv_topi (fun x_10 ex_10 => ?_)
  have tx_10 : x_10.toInt = i.toInt + 1 := ti_add (A := i.toInt) (B := 1) ex_10 rfl rfl (by omega) (by omega)
  refine va_sld hx hb hX hbl hbA hS (i := x_10) (vin (by omega) (by omega)) dL_law_1552 ?_
  refine lv_topi (fun x_11 ex_11 => ?_)
  have qx_11 : x_2 = x_11 := by rw [ex_2, ex_11, show x_1 = x_10 from Int32.toInt_inj.mp (by omega)]
  subst qx_11
  refine lv_aload_n hx hb dL_law_1553 rfl (lv_at hl 4 rfl) ?_
  refine lv_iload hx hb dL_law_1554 (lv_at hl 0 rfl) ?_
  refine lv_iconst (v := 2) hx hb dL_law_1556 (by decide) ?_
  refine lv_iadd hx hb dL_law_1557 ?_
  refine lv_topi (fun x_12 ex_12 => ?_)
  have tx_12 : x_12.toInt = i.toInt + 2 := ti_add (A := i.toInt) (B := 2) ex_12 rfl rfl (by omega) (by omega)
  refine va_sld hx hb hX hbl hbA hS (i := x_12) (vin (by omega) (by omega)) dL_law_1558 ?_
  refine lv_topi (fun x_13 ex_13 => ?_)
  have qx_13 : x_4 = x_13 := by rw [ex_4, ex_13, show x_3 = x_12 from Int32.toInt_inj.mp (by omega)]
  subst qx_13
  refine lv_aload_n hx hb dL_law_1559 rfl (lv_at hl 4 rfl) ?_
  refine lv_iload hx hb dL_law_1560 (lv_at hl 0 rfl) ?_
  refine lv_iconst (v := 3) hx hb dL_law_1562 (by decide) ?_
  refine lv_iadd hx hb dL_law_1563 ?_
  refine lv_topi (fun x_14 ex_14 => ?_)
  have tx_14 : x_14.toInt = i.toInt + 3 := ti_add (A := i.toInt) (B := 3) ex_14 rfl rfl (by omega) (by omega)
  refine va_sld hx hb hX hbl hbA hS (i := x_14) (vin (by omega) (by omega)) dL_law_1564 ?_
  refine lv_topi (fun x_15 ex_15 => ?_)
  have qx_15 : x_6 = x_15 := by rw [ex_6, ex_15, show x_5 = x_14 from Int32.toInt_inj.mp (by omega)]
  subst qx_15
  have hQ := PDs.front hQ
  refine hm_ramble X hA hM hQ hS hl (rest := []) (Nat.le_of_ble_eq_true rfl) dL_law_1565 mL_185 (by omega) (by omega) x_2 x_4 x_6 (fun r_16 M_17 w H locs hM hp_18 hQ hS => ?_)
  have hR := s9_ramble hR hp_9 hp_18
  have hQ := PDs.behind hQ
  refine lv_pop hx hb dL_law_1568 rfl ?_
  refine lv_goto (tgt := 1924) hx hb dL_law_1569 (by decide) ?_
  exact kk K_8 M_17 ss w of H locs _ cells slots hR hI hM hQ hS (lv_sub hl [0, 1, 2, 3, 4] rfl) (by omega) (by omega)
set_option maxHeartbeats 4000000 in
set_option maxRecDepth 100000 in
theorem law_c40 (hl9 : l.stackTraces = false) (C0 : lw_At p s m meth c b N xs) (hN : N ≤ 3072) (X : fx p s m c code 7 #[Value.ref b] RL dC dI cy hp A) (hA : ∀ q, s.heap.size ≤ q → A q) (hbA : ¬ A b) {x mm ob : Nat} {of : Nat → Int64} {K : CS} {M : MS} {ss : List va_W} {w : va_W} (hR : R9 K M) (hi0 : 0 ≤ i.toInt) (hi6 : i.toInt + 6 ≤ (N : Int)) (hI : HI cy x K ss) (hM : NI cy mm M w) (hQ : PDs dC dI A (ss ++ [w ++ [(ob, .inl (cy 2, 1, .inr (.inl of)))]]) H) (hS : va_S A s.heap H locs) (hl : lv_has ls 7 [(4, .int i), (3, .ref ob), (2, .ref mm), (1, .ref x), (0, .ref b)]) (hc7 : cells ≤ 590000) (hs7 : slots ≤ 7280000) (kk : ∀ (K : CS) (M : MS) (ss : List va_W) (w : va_W) (of : Nat → Int64) (H : Heap) (locs : List Loc) (ls : Array Slot) (cells1 slots1 : Nat), R9 K M → HI cy x K ss → NI cy mm M w → PDs dC dI A (ss ++ [w ++ [(ob, .inl (cy 2, 1, .inr (.inl of)))]]) H → va_S A s.heap H locs → lv_has ls 7 [(4, .int i), (3, .ref ob), (2, .ref mm), (1, .ref x), (0, .ref b)] → cells1 ≤ cells + 20 → slots1 ≤ slots + 100 → W p l e room_1 s m #[Value.ref b] below meth c H locs cells1 slots1 Q (F0 m 1924 ls [])) : W p l e room_1 s m #[Value.ref b] below meth c H locs cells slots Q (F0 m 1572 ls []) := by
  obtain ⟨-, -, hr, -, -, -, hX, hbl, hlocks, -⟩ := C0
  have hx := X.1
  have hb := X.2.1
  have hc9 : cells ≤ 599000 := by omega
  have hs9 : slots ≤ 7290000 := by omega
  have hc8 : cells + 1 ≤ 599000 := by omega
  have hs8 : slots + 6 ≤ 7290000 := by omega
  refine lv_aload_n hx hb dL_law_1572 rfl (lv_at hl 3 rfl) ?_
  refine lv_aload_n hx hb dL_law_1573 rfl (lv_at hl 4 rfl) ?_
  refine lv_iload hx hb dL_law_1574 (lv_at hl 0 rfl) ?_
  refine lv_iconst (v := 1) hx hb dL_law_1576 (by decide) ?_
  refine lv_iadd hx hb dL_law_1577 ?_
  refine lv_topi (fun x_1 ex_1 => ?_)
  have tx_1 : x_1.toInt = i.toInt + 1 := ti_add (A := i.toInt) (B := 1) ex_1 rfl rfl (by omega) (by omega)
  refine va_sld hx hb hX hbl hbA hS (i := x_1) (vin (by omega) (by omega)) dL_law_1578 ?_
  refine lv_topi (fun x_2 ex_2 => ?_)
  refine lv_aload_n hx hb dL_law_1579 rfl (lv_at hl 4 rfl) ?_
  refine lv_iload hx hb dL_law_1580 (lv_at hl 0 rfl) ?_
  refine lv_iconst (v := 2) hx hb dL_law_1582 (by decide) ?_
  refine lv_iadd hx hb dL_law_1583 ?_
  refine lv_topi (fun x_3 ex_3 => ?_)
  have tx_3 : x_3.toInt = i.toInt + 2 := ti_add (A := i.toInt) (B := 2) ex_3 rfl rfl (by omega) (by omega)
  refine va_sld hx hb hX hbl hbA hS (i := x_3) (vin (by omega) (by omega)) dL_law_1584 ?_
  refine lv_topi (fun x_4 ex_4 => ?_)
  refine lv_aload_n hx hb dL_law_1585 rfl (lv_at hl 4 rfl) ?_
  refine lv_iload hx hb dL_law_1586 (lv_at hl 0 rfl) ?_
  refine lv_iconst (v := 3) hx hb dL_law_1588 (by decide) ?_
  refine lv_iadd hx hb dL_law_1589 ?_
  refine lv_topi (fun x_5 ex_5 => ?_)
  have tx_5 : x_5.toInt = i.toInt + 3 := ti_add (A := i.toInt) (B := 3) ex_5 rfl rfl (by omega) (by omega)
  refine va_sld hx hb hX hbl hbA hS (i := x_5) (vin (by omega) (by omega)) dL_law_1590 ?_
  refine lv_topi (fun x_6 ex_6 => ?_)
  refine hc_rambleFalls X hA hI hQ hS hl (rest := []) (Nat.le_of_ble_eq_true rfl) dL_law_1591 mL_186 (by omega) (by omega) x_2 x_4 x_6 (fun r_7 K_8 ss H locs hI hp_9 hQ hS => ?_)
  refine lv_pop hx hb dL_law_1594 rfl ?_
  refine lv_aload_n hx hb dL_law_1595 rfl (lv_at hl 2 rfl) ?_
  refine lv_aload_n hx hb dL_law_1596 rfl (lv_at hl 4 rfl) ?_
  refine lv_iload hx hb dL_law_1597 (lv_at hl 0 rfl) ?_
  refine lv_iconst (v := 1) hx hb dL_law_1599 (by decide) ?_
  refine lv_iadd hx hb dL_law_1600 ?_
  refine lv_topi (fun x_10 ex_10 => ?_)
  have tx_10 : x_10.toInt = i.toInt + 1 := ti_add (A := i.toInt) (B := 1) ex_10 rfl rfl (by omega) (by omega)
  refine va_sld hx hb hX hbl hbA hS (i := x_10) (vin (by omega) (by omega)) dL_law_1601 ?_
  refine lv_topi (fun x_11 ex_11 => ?_)
  have qx_11 : x_2 = x_11 := by rw [ex_2, ex_11, show x_1 = x_10 from Int32.toInt_inj.mp (by omega)]
  subst qx_11
  refine lv_aload_n hx hb dL_law_1602 rfl (lv_at hl 4 rfl) ?_
  refine lv_iload hx hb dL_law_1603 (lv_at hl 0 rfl) ?_
  refine lv_iconst (v := 2) hx hb dL_law_1605 (by decide) ?_
  refine lv_iadd hx hb dL_law_1606 ?_
  refine lv_topi (fun x_12 ex_12 => ?_)
  have tx_12 : x_12.toInt = i.toInt + 2 := ti_add (A := i.toInt) (B := 2) ex_12 rfl rfl (by omega) (by omega)
  refine va_sld hx hb hX hbl hbA hS (i := x_12) (vin (by omega) (by omega)) dL_law_1607 ?_
  refine lv_topi (fun x_13 ex_13 => ?_)
  have qx_13 : x_4 = x_13 := by rw [ex_4, ex_13, show x_3 = x_12 from Int32.toInt_inj.mp (by omega)]
  subst qx_13
  refine lv_aload_n hx hb dL_law_1608 rfl (lv_at hl 4 rfl) ?_
  refine lv_iload hx hb dL_law_1609 (lv_at hl 0 rfl) ?_
  refine lv_iconst (v := 3) hx hb dL_law_1611 (by decide) ?_
  refine lv_iadd hx hb dL_law_1612 ?_
  refine lv_topi (fun x_14 ex_14 => ?_)
  have tx_14 : x_14.toInt = i.toInt + 3 := ti_add (A := i.toInt) (B := 3) ex_14 rfl rfl (by omega) (by omega)
  refine va_sld hx hb hX hbl hbA hS (i := x_14) (vin (by omega) (by omega)) dL_law_1613 ?_
  refine lv_topi (fun x_15 ex_15 => ?_)
  have qx_15 : x_6 = x_15 := by rw [ex_6, ex_15, show x_5 = x_14 from Int32.toInt_inj.mp (by omega)]
  subst qx_15
  have hQ := PDs.front hQ
  refine hm_rambleFalls X hA hM hQ hS hl (rest := []) (Nat.le_of_ble_eq_true rfl) dL_law_1614 mL_189 (by omega) (by omega) x_2 x_4 x_6 (fun r_16 M_17 w H locs hM hp_18 hQ hS => ?_)
  have hR := s9_rambleFalls hR hp_9 hp_18
  have hQ := PDs.behind hQ
  refine lv_pop hx hb dL_law_1617 rfl ?_
  refine lv_goto (tgt := 1924) hx hb dL_law_1618 (by decide) ?_
  exact kk K_8 M_17 ss w of H locs _ cells slots hR hI hM hQ hS (lv_sub hl [0, 1, 2, 3, 4] rfl) (by omega) (by omega)
set_option maxHeartbeats 4000000 in
set_option maxRecDepth 100000 in
theorem law_c41 (hl9 : l.stackTraces = false) (C0 : lw_At p s m meth c b N xs) (hN : N ≤ 3072) (X : fx p s m c code 7 #[Value.ref b] RL dC dI cy hp A) (hA : ∀ q, s.heap.size ≤ q → A q) (hbA : ¬ A b) {x mm ob : Nat} {of : Nat → Int64} {K : CS} {M : MS} {ss : List va_W} {w : va_W} (hR : R9 K M) (hi0 : 0 ≤ i.toInt) (hi6 : i.toInt + 6 ≤ (N : Int)) (hI : HI cy x K ss) (hM : NI cy mm M w) (hQ : PDs dC dI A (ss ++ [w ++ [(ob, .inl (cy 2, 1, .inr (.inl of)))]]) H) (hS : va_S A s.heap H locs) (hl : lv_has ls 7 [(4, .int i), (3, .ref ob), (2, .ref mm), (1, .ref x), (0, .ref b)]) (hc7 : cells ≤ 590000) (hs7 : slots ≤ 7280000) (kk : ∀ (K : CS) (M : MS) (ss : List va_W) (w : va_W) (of : Nat → Int64) (H : Heap) (locs : List Loc) (ls : Array Slot) (cells1 slots1 : Nat), R9 K M → HI cy x K ss → NI cy mm M w → PDs dC dI A (ss ++ [w ++ [(ob, .inl (cy 2, 1, .inr (.inl of)))]]) H → va_S A s.heap H locs → lv_has ls 7 [(4, .int i), (3, .ref ob), (2, .ref mm), (1, .ref x), (0, .ref b)] → cells1 ≤ cells + 20 → slots1 ≤ slots + 100 → W p l e room_1 s m #[Value.ref b] below meth c H locs cells1 slots1 Q (F0 m 1924 ls [])) : W p l e room_1 s m #[Value.ref b] below meth c H locs cells slots Q (F0 m 1621 ls []) := by
  obtain ⟨-, -, hr, -, -, -, hX, hbl, hlocks, -⟩ := C0
  have hx := X.1
  have hb := X.2.1
  have hc9 : cells ≤ 599000 := by omega
  have hs9 : slots ≤ 7290000 := by omega
  have hc8 : cells + 1 ≤ 599000 := by omega
  have hs8 : slots + 6 ≤ 7290000 := by omega
  refine lv_aload_n hx hb dL_law_1621 rfl (lv_at hl 3 rfl) ?_
  refine lv_aload_n hx hb dL_law_1622 rfl (lv_at hl 4 rfl) ?_
  refine lv_iload hx hb dL_law_1623 (lv_at hl 0 rfl) ?_
  refine lv_iconst (v := 1) hx hb dL_law_1625 (by decide) ?_
  refine lv_iadd hx hb dL_law_1626 ?_
  refine lv_topi (fun x_1 ex_1 => ?_)
  have tx_1 : x_1.toInt = i.toInt + 1 := ti_add (A := i.toInt) (B := 1) ex_1 rfl rfl (by omega) (by omega)
  refine va_sld hx hb hX hbl hbA hS (i := x_1) (vin (by omega) (by omega)) dL_law_1627 ?_
  refine lv_topi (fun x_2 ex_2 => ?_)
  refine lv_aload_n hx hb dL_law_1628 rfl (lv_at hl 4 rfl) ?_
  refine lv_iload hx hb dL_law_1629 (lv_at hl 0 rfl) ?_
  refine lv_iconst (v := 2) hx hb dL_law_1631 (by decide) ?_
  refine lv_iadd hx hb dL_law_1632 ?_
  refine lv_topi (fun x_3 ex_3 => ?_)
  have tx_3 : x_3.toInt = i.toInt + 2 := ti_add (A := i.toInt) (B := 2) ex_3 rfl rfl (by omega) (by omega)
  refine va_sld hx hb hX hbl hbA hS (i := x_3) (vin (by omega) (by omega)) dL_law_1633 ?_
  refine lv_topi (fun x_4 ex_4 => ?_)
  refine lv_aload_n hx hb dL_law_1634 rfl (lv_at hl 4 rfl) ?_
  refine lv_iload hx hb dL_law_1635 (lv_at hl 0 rfl) ?_
  refine lv_iconst (v := 3) hx hb dL_law_1637 (by decide) ?_
  refine lv_iadd hx hb dL_law_1638 ?_
  refine lv_topi (fun x_5 ex_5 => ?_)
  have tx_5 : x_5.toInt = i.toInt + 3 := ti_add (A := i.toInt) (B := 3) ex_5 rfl rfl (by omega) (by omega)
  refine va_sld hx hb hX hbl hbA hS (i := x_5) (vin (by omega) (by omega)) dL_law_1639 ?_
  refine lv_topi (fun x_6 ex_6 => ?_)
  refine hc_strayed X hA hI hQ hS hl (rest := []) (Nat.le_of_ble_eq_true rfl) dL_law_1640 mL_190 (by omega) (by omega) x_2 x_4 x_6 (fun r_7 K_8 ss H locs hI hp_9 hQ hS => ?_)
  refine lv_pop hx hb dL_law_1643 rfl ?_
  refine lv_aload_n hx hb dL_law_1644 rfl (lv_at hl 2 rfl) ?_
  refine lv_aload_n hx hb dL_law_1645 rfl (lv_at hl 4 rfl) ?_
  refine lv_iload hx hb dL_law_1646 (lv_at hl 0 rfl) ?_
  refine lv_iconst (v := 1) hx hb dL_law_1648 (by decide) ?_
  refine lv_iadd hx hb dL_law_1649 ?_
  refine lv_topi (fun x_10 ex_10 => ?_)
  have tx_10 : x_10.toInt = i.toInt + 1 := ti_add (A := i.toInt) (B := 1) ex_10 rfl rfl (by omega) (by omega)
  refine va_sld hx hb hX hbl hbA hS (i := x_10) (vin (by omega) (by omega)) dL_law_1650 ?_
  refine lv_topi (fun x_11 ex_11 => ?_)
  have qx_11 : x_2 = x_11 := by rw [ex_2, ex_11, show x_1 = x_10 from Int32.toInt_inj.mp (by omega)]
  subst qx_11
  refine lv_aload_n hx hb dL_law_1651 rfl (lv_at hl 4 rfl) ?_
  refine lv_iload hx hb dL_law_1652 (lv_at hl 0 rfl) ?_
  refine lv_iconst (v := 2) hx hb dL_law_1654 (by decide) ?_
  refine lv_iadd hx hb dL_law_1655 ?_
  refine lv_topi (fun x_12 ex_12 => ?_)
  have tx_12 : x_12.toInt = i.toInt + 2 := ti_add (A := i.toInt) (B := 2) ex_12 rfl rfl (by omega) (by omega)
  refine va_sld hx hb hX hbl hbA hS (i := x_12) (vin (by omega) (by omega)) dL_law_1656 ?_
  refine lv_topi (fun x_13 ex_13 => ?_)
  have qx_13 : x_4 = x_13 := by rw [ex_4, ex_13, show x_3 = x_12 from Int32.toInt_inj.mp (by omega)]
  subst qx_13
  refine lv_aload_n hx hb dL_law_1657 rfl (lv_at hl 4 rfl) ?_
  refine lv_iload hx hb dL_law_1658 (lv_at hl 0 rfl) ?_
  refine lv_iconst (v := 3) hx hb dL_law_1660 (by decide) ?_
  refine lv_iadd hx hb dL_law_1661 ?_
  refine lv_topi (fun x_14 ex_14 => ?_)
  have tx_14 : x_14.toInt = i.toInt + 3 := ti_add (A := i.toInt) (B := 3) ex_14 rfl rfl (by omega) (by omega)
  refine va_sld hx hb hX hbl hbA hS (i := x_14) (vin (by omega) (by omega)) dL_law_1662 ?_
  refine lv_topi (fun x_15 ex_15 => ?_)
  have qx_15 : x_6 = x_15 := by rw [ex_6, ex_15, show x_5 = x_14 from Int32.toInt_inj.mp (by omega)]
  subst qx_15
  have hQ := PDs.front hQ
  refine hm_strayed X hA hM hQ hS hl (rest := []) (Nat.le_of_ble_eq_true rfl) dL_law_1663 mL_193 (by omega) (by omega) x_2 x_4 x_6 (fun r_16 M_17 w H locs hM hp_18 hQ hS => ?_)
  have hR := s9_strayed hR hp_9 hp_18
  have hQ := PDs.behind hQ
  refine lv_pop hx hb dL_law_1666 rfl ?_
  refine lv_goto (tgt := 1924) hx hb dL_law_1667 (by decide) ?_
  exact kk K_8 M_17 ss w of H locs _ cells slots hR hI hM hQ hS (lv_sub hl [0, 1, 2, 3, 4] rfl) (by omega) (by omega)
set_option maxHeartbeats 4000000 in
set_option maxRecDepth 100000 in
theorem law_c42 (hl9 : l.stackTraces = false) (C0 : lw_At p s m meth c b N xs) (hN : N ≤ 3072) (X : fx p s m c code 7 #[Value.ref b] RL dC dI cy hp A) (hA : ∀ q, s.heap.size ≤ q → A q) (hbA : ¬ A b) {x mm ob : Nat} {of : Nat → Int64} {K : CS} {M : MS} {ss : List va_W} {w : va_W} (hR : R9 K M) (hi0 : 0 ≤ i.toInt) (hi6 : i.toInt + 6 ≤ (N : Int)) (hI : HI cy x K ss) (hM : NI cy mm M w) (hQ : PDs dC dI A (ss ++ [w ++ [(ob, .inl (cy 2, 1, .inr (.inl of)))]]) H) (hS : va_S A s.heap H locs) (hl : lv_has ls 7 [(4, .int i), (3, .ref ob), (2, .ref mm), (1, .ref x), (0, .ref b)]) (hc7 : cells ≤ 590000) (hs7 : slots ≤ 7280000) (kk : ∀ (K : CS) (M : MS) (ss : List va_W) (w : va_W) (of : Nat → Int64) (H : Heap) (locs : List Loc) (ls : Array Slot) (cells1 slots1 : Nat), R9 K M → HI cy x K ss → NI cy mm M w → PDs dC dI A (ss ++ [w ++ [(ob, .inl (cy 2, 1, .inr (.inl of)))]]) H → va_S A s.heap H locs → lv_has ls 7 [(4, .int i), (3, .ref ob), (2, .ref mm), (1, .ref x), (0, .ref b)] → cells1 ≤ cells + 20 → slots1 ≤ slots + 100 → W p l e room_1 s m #[Value.ref b] below meth c H locs cells1 slots1 Q (F0 m 1924 ls [])) : W p l e room_1 s m #[Value.ref b] below meth c H locs cells slots Q (F0 m 1670 ls []) := by
  obtain ⟨-, -, hr, -, -, -, hX, hbl, hlocks, -⟩ := C0
  have hx := X.1
  have hb := X.2.1
  have hc9 : cells ≤ 599000 := by omega
  have hs9 : slots ≤ 7290000 := by omega
  have hc8 : cells + 1 ≤ 599000 := by omega
  have hs8 : slots + 6 ≤ 7290000 := by omega
  refine lv_aload_n hx hb dL_law_1670 rfl (lv_at hl 3 rfl) ?_
  refine lv_aload_n hx hb dL_law_1671 rfl (lv_at hl 4 rfl) ?_
  refine lv_iload hx hb dL_law_1672 (lv_at hl 0 rfl) ?_
  refine lv_iconst (v := 1) hx hb dL_law_1674 (by decide) ?_
  refine lv_iadd hx hb dL_law_1675 ?_
  refine lv_topi (fun x_1 ex_1 => ?_)
  have tx_1 : x_1.toInt = i.toInt + 1 := ti_add (A := i.toInt) (B := 1) ex_1 rfl rfl (by omega) (by omega)
  refine va_sld hx hb hX hbl hbA hS (i := x_1) (vin (by omega) (by omega)) dL_law_1676 ?_
  refine lv_topi (fun x_2 ex_2 => ?_)
  refine lv_aload_n hx hb dL_law_1677 rfl (lv_at hl 4 rfl) ?_
  refine lv_iload hx hb dL_law_1678 (lv_at hl 0 rfl) ?_
  refine lv_iconst (v := 2) hx hb dL_law_1680 (by decide) ?_
  refine lv_iadd hx hb dL_law_1681 ?_
  refine lv_topi (fun x_3 ex_3 => ?_)
  have tx_3 : x_3.toInt = i.toInt + 2 := ti_add (A := i.toInt) (B := 2) ex_3 rfl rfl (by omega) (by omega)
  refine va_sld hx hb hX hbl hbA hS (i := x_3) (vin (by omega) (by omega)) dL_law_1682 ?_
  refine lv_topi (fun x_4 ex_4 => ?_)
  refine hc_step X hA hI hQ hS hl (rest := []) (Nat.le_of_ble_eq_true rfl) dL_law_1683 mL_194 (by omega) (by omega) x_2 x_4 (fun r_5 K_6 ss H locs hI hp_7 hQ hS => ?_)
  refine lv_pop hx hb dL_law_1686 rfl ?_
  refine lv_aload_n hx hb dL_law_1687 rfl (lv_at hl 2 rfl) ?_
  refine lv_aload_n hx hb dL_law_1688 rfl (lv_at hl 4 rfl) ?_
  refine lv_iload hx hb dL_law_1689 (lv_at hl 0 rfl) ?_
  refine lv_iconst (v := 1) hx hb dL_law_1691 (by decide) ?_
  refine lv_iadd hx hb dL_law_1692 ?_
  refine lv_topi (fun x_8 ex_8 => ?_)
  have tx_8 : x_8.toInt = i.toInt + 1 := ti_add (A := i.toInt) (B := 1) ex_8 rfl rfl (by omega) (by omega)
  refine va_sld hx hb hX hbl hbA hS (i := x_8) (vin (by omega) (by omega)) dL_law_1693 ?_
  refine lv_topi (fun x_9 ex_9 => ?_)
  have qx_9 : x_2 = x_9 := by rw [ex_2, ex_9, show x_1 = x_8 from Int32.toInt_inj.mp (by omega)]
  subst qx_9
  refine lv_aload_n hx hb dL_law_1694 rfl (lv_at hl 4 rfl) ?_
  refine lv_iload hx hb dL_law_1695 (lv_at hl 0 rfl) ?_
  refine lv_iconst (v := 2) hx hb dL_law_1697 (by decide) ?_
  refine lv_iadd hx hb dL_law_1698 ?_
  refine lv_topi (fun x_10 ex_10 => ?_)
  have tx_10 : x_10.toInt = i.toInt + 2 := ti_add (A := i.toInt) (B := 2) ex_10 rfl rfl (by omega) (by omega)
  refine va_sld hx hb hX hbl hbA hS (i := x_10) (vin (by omega) (by omega)) dL_law_1699 ?_
  refine lv_topi (fun x_11 ex_11 => ?_)
  have qx_11 : x_4 = x_11 := by rw [ex_4, ex_11, show x_3 = x_10 from Int32.toInt_inj.mp (by omega)]
  subst qx_11
  have hQ := PDs.front hQ
  refine hm_step X hA hM hQ hS hl (rest := []) (Nat.le_of_ble_eq_true rfl) dL_law_1700 mL_197 (by omega) (by omega) x_2 x_4 (fun r_12 M_13 w H locs hM hp_14 hQ hS => ?_)
  have hE := a9_step hR hp_7 hp_14
  have hR := s9_step hR hp_7 hp_14
  have hQ := PDs.behind hQ
  refine lv_pop hx hb dL_law_1703 rfl ?_
  refine lv_goto (tgt := 1924) hx hb dL_law_1704 (by decide) ?_
  exact kk K_6 M_13 ss w of H locs _ cells slots hR hI hM hQ hS (lv_sub hl [0, 1, 2, 3, 4] rfl) (by omega) (by omega)
set_option maxHeartbeats 4000000 in
set_option maxRecDepth 100000 in
theorem law_c43 (hl9 : l.stackTraces = false) (C0 : lw_At p s m meth c b N xs) (hN : N ≤ 3072) (X : fx p s m c code 7 #[Value.ref b] RL dC dI cy hp A) (hA : ∀ q, s.heap.size ≤ q → A q) (hbA : ¬ A b) {x mm ob : Nat} {of : Nat → Int64} {K : CS} {M : MS} {ss : List va_W} {w : va_W} (hR : R9 K M) (hi0 : 0 ≤ i.toInt) (hi6 : i.toInt + 6 ≤ (N : Int)) (hI : HI cy x K ss) (hM : NI cy mm M w) (hQ : PDs dC dI A (ss ++ [w ++ [(ob, .inl (cy 2, 1, .inr (.inl of)))]]) H) (hS : va_S A s.heap H locs) (hl : lv_has ls 7 [(4, .int i), (3, .ref ob), (2, .ref mm), (1, .ref x), (0, .ref b)]) (hc7 : cells ≤ 590000) (hs7 : slots ≤ 7280000) (kk : ∀ (K : CS) (M : MS) (ss : List va_W) (w : va_W) (of : Nat → Int64) (H : Heap) (locs : List Loc) (ls : Array Slot) (cells1 slots1 : Nat), R9 K M → HI cy x K ss → NI cy mm M w → PDs dC dI A (ss ++ [w ++ [(ob, .inl (cy 2, 1, .inr (.inl of)))]]) H → va_S A s.heap H locs → lv_has ls 7 [(4, .int i), (3, .ref ob), (2, .ref mm), (1, .ref x), (0, .ref b)] → cells1 ≤ cells + 20 → slots1 ≤ slots + 100 → W p l e room_1 s m #[Value.ref b] below meth c H locs cells1 slots1 Q (F0 m 1924 ls [])) : W p l e room_1 s m #[Value.ref b] below meth c H locs cells slots Q (F0 m 1707 ls []) := by
  obtain ⟨-, -, hr, -, -, -, hX, hbl, hlocks, -⟩ := C0
  have hx := X.1
  have hb := X.2.1
  have hc9 : cells ≤ 599000 := by omega
  have hs9 : slots ≤ 7290000 := by omega
  have hc8 : cells + 1 ≤ 599000 := by omega
  have hs8 : slots + 6 ≤ 7290000 := by omega
  refine lv_aload_n hx hb dL_law_1707 rfl (lv_at hl 3 rfl) ?_
  refine lv_aload_n hx hb dL_law_1708 rfl (lv_at hl 4 rfl) ?_
  refine lv_iload hx hb dL_law_1709 (lv_at hl 0 rfl) ?_
  refine lv_iconst (v := 1) hx hb dL_law_1711 (by decide) ?_
  refine lv_iadd hx hb dL_law_1712 ?_
  refine lv_topi (fun x_1 ex_1 => ?_)
  have tx_1 : x_1.toInt = i.toInt + 1 := ti_add (A := i.toInt) (B := 1) ex_1 rfl rfl (by omega) (by omega)
  refine va_sld hx hb hX hbl hbA hS (i := x_1) (vin (by omega) (by omega)) dL_law_1713 ?_
  refine lv_topi (fun x_2 ex_2 => ?_)
  refine hc_dig X hA hI hQ hS hl (rest := []) (Nat.le_of_ble_eq_true rfl) dL_law_1714 mL_198 (by omega) (by omega) x_2 (fun r_3 K_4 ss H locs hI hp_5 hQ hS => ?_)
  refine lv_pop hx hb dL_law_1717 rfl ?_
  refine lv_aload_n hx hb dL_law_1718 rfl (lv_at hl 2 rfl) ?_
  refine lv_aload_n hx hb dL_law_1719 rfl (lv_at hl 4 rfl) ?_
  refine lv_iload hx hb dL_law_1720 (lv_at hl 0 rfl) ?_
  refine lv_iconst (v := 1) hx hb dL_law_1722 (by decide) ?_
  refine lv_iadd hx hb dL_law_1723 ?_
  refine lv_topi (fun x_6 ex_6 => ?_)
  have tx_6 : x_6.toInt = i.toInt + 1 := ti_add (A := i.toInt) (B := 1) ex_6 rfl rfl (by omega) (by omega)
  refine va_sld hx hb hX hbl hbA hS (i := x_6) (vin (by omega) (by omega)) dL_law_1724 ?_
  refine lv_topi (fun x_7 ex_7 => ?_)
  have qx_7 : x_2 = x_7 := by rw [ex_2, ex_7, show x_1 = x_6 from Int32.toInt_inj.mp (by omega)]
  subst qx_7
  have hQ := PDs.front hQ
  refine hm_dig X hA hM hQ hS hl (rest := []) (Nat.le_of_ble_eq_true rfl) dL_law_1725 mL_202 (by omega) (by omega) x_2 (fun r_8 M_9 w H locs hM hp_10 hQ hS => ?_)
  have hE := a9_dig hR hp_5 hp_10
  have hR := s9_dig hR hp_5 hp_10
  have hQ := PDs.behind hQ
  refine lv_pop hx hb dL_law_1728 rfl ?_
  refine lv_goto (tgt := 1924) hx hb dL_law_1729 (by decide) ?_
  exact kk K_4 M_9 ss w of H locs _ cells slots hR hI hM hQ hS (lv_sub hl [0, 1, 2, 3, 4] rfl) (by omega) (by omega)
set_option maxHeartbeats 4000000 in
set_option maxRecDepth 100000 in
theorem law_c44 (hl9 : l.stackTraces = false) (C0 : lw_At p s m meth c b N xs) (hN : N ≤ 3072) (X : fx p s m c code 7 #[Value.ref b] RL dC dI cy hp A) (hA : ∀ q, s.heap.size ≤ q → A q) (hbA : ¬ A b) {x mm ob : Nat} {of : Nat → Int64} {K : CS} {M : MS} {ss : List va_W} {w : va_W} (hR : R9 K M) (hi0 : 0 ≤ i.toInt) (hi6 : i.toInt + 6 ≤ (N : Int)) (hI : HI cy x K ss) (hM : NI cy mm M w) (hQ : PDs dC dI A (ss ++ [w ++ [(ob, .inl (cy 2, 1, .inr (.inl of)))]]) H) (hS : va_S A s.heap H locs) (hl : lv_has ls 7 [(4, .int i), (3, .ref ob), (2, .ref mm), (1, .ref x), (0, .ref b)]) (hc7 : cells ≤ 590000) (hs7 : slots ≤ 7280000) (kk : ∀ (K : CS) (M : MS) (ss : List va_W) (w : va_W) (of : Nat → Int64) (H : Heap) (locs : List Loc) (ls : Array Slot) (cells1 slots1 : Nat), R9 K M → HI cy x K ss → NI cy mm M w → PDs dC dI A (ss ++ [w ++ [(ob, .inl (cy 2, 1, .inr (.inl of)))]]) H → va_S A s.heap H locs → lv_has ls 7 [(4, .int i), (3, .ref ob), (2, .ref mm), (1, .ref x), (0, .ref b)] → cells1 ≤ cells + 20 → slots1 ≤ slots + 100 → W p l e room_1 s m #[Value.ref b] below meth c H locs cells1 slots1 Q (F0 m 1924 ls [])) : W p l e room_1 s m #[Value.ref b] below meth c H locs cells slots Q (F0 m 1732 ls []) := by
  obtain ⟨-, -, hr, -, -, -, hX, hbl, hlocks, -⟩ := C0
  have hx := X.1
  have hb := X.2.1
  have hc9 : cells ≤ 599000 := by omega
  have hs9 : slots ≤ 7290000 := by omega
  have hc8 : cells + 1 ≤ 599000 := by omega
  have hs8 : slots + 6 ≤ 7290000 := by omega
  refine lv_aload_n hx hb dL_law_1732 rfl (lv_at hl 3 rfl) ?_
  refine lv_aload_n hx hb dL_law_1733 rfl (lv_at hl 4 rfl) ?_
  refine lv_iload hx hb dL_law_1734 (lv_at hl 0 rfl) ?_
  refine lv_iconst (v := 1) hx hb dL_law_1736 (by decide) ?_
  refine lv_iadd hx hb dL_law_1737 ?_
  refine lv_topi (fun x_1 ex_1 => ?_)
  have tx_1 : x_1.toInt = i.toInt + 1 := ti_add (A := i.toInt) (B := 1) ex_1 rfl rfl (by omega) (by omega)
  refine va_sld hx hb hX hbl hbA hS (i := x_1) (vin (by omega) (by omega)) dL_law_1738 ?_
  refine lv_topi (fun x_2 ex_2 => ?_)
  refine hc_fill X hA hI hQ hS hl (rest := []) (Nat.le_of_ble_eq_true rfl) dL_law_1739 mL_203 (by omega) (by omega) x_2 (fun r_3 K_4 ss H locs hI hp_5 hQ hS => ?_)
  refine lv_pop hx hb dL_law_1742 rfl ?_
  refine lv_aload_n hx hb dL_law_1743 rfl (lv_at hl 2 rfl) ?_
  refine lv_aload_n hx hb dL_law_1744 rfl (lv_at hl 4 rfl) ?_
  refine lv_iload hx hb dL_law_1745 (lv_at hl 0 rfl) ?_
  refine lv_iconst (v := 1) hx hb dL_law_1747 (by decide) ?_
  refine lv_iadd hx hb dL_law_1748 ?_
  refine lv_topi (fun x_6 ex_6 => ?_)
  have tx_6 : x_6.toInt = i.toInt + 1 := ti_add (A := i.toInt) (B := 1) ex_6 rfl rfl (by omega) (by omega)
  refine va_sld hx hb hX hbl hbA hS (i := x_6) (vin (by omega) (by omega)) dL_law_1749 ?_
  refine lv_topi (fun x_7 ex_7 => ?_)
  have qx_7 : x_2 = x_7 := by rw [ex_2, ex_7, show x_1 = x_6 from Int32.toInt_inj.mp (by omega)]
  subst qx_7
  have hQ := PDs.front hQ
  refine hm_fill X hA hM hQ hS hl (rest := []) (Nat.le_of_ble_eq_true rfl) dL_law_1750 mL_206 (by omega) (by omega) x_2 (fun r_8 M_9 w H locs hM hp_10 hQ hS => ?_)
  have hE := a9_fill hR hp_5 hp_10
  have hR := s9_fill hR hp_5 hp_10
  have hQ := PDs.behind hQ
  refine lv_pop hx hb dL_law_1753 rfl ?_
  refine lv_goto (tgt := 1924) hx hb dL_law_1754 (by decide) ?_
  exact kk K_4 M_9 ss w of H locs _ cells slots hR hI hM hQ hS (lv_sub hl [0, 1, 2, 3, 4] rfl) (by omega) (by omega)
set_option maxHeartbeats 4000000 in
set_option maxRecDepth 100000 in
theorem law_c45 (hl9 : l.stackTraces = false) (C0 : lw_At p s m meth c b N xs) (hN : N ≤ 3072) (X : fx p s m c code 7 #[Value.ref b] RL dC dI cy hp A) (hA : ∀ q, s.heap.size ≤ q → A q) (hbA : ¬ A b) {x mm ob : Nat} {of : Nat → Int64} {K : CS} {M : MS} {ss : List va_W} {w : va_W} (hR : R9 K M) (hi0 : 0 ≤ i.toInt) (hi6 : i.toInt + 6 ≤ (N : Int)) (hI : HI cy x K ss) (hM : NI cy mm M w) (hQ : PDs dC dI A (ss ++ [w ++ [(ob, .inl (cy 2, 1, .inr (.inl of)))]]) H) (hS : va_S A s.heap H locs) (hl : lv_has ls 7 [(4, .int i), (3, .ref ob), (2, .ref mm), (1, .ref x), (0, .ref b)]) (hc7 : cells ≤ 590000) (hs7 : slots ≤ 7280000) (kk : ∀ (K : CS) (M : MS) (ss : List va_W) (w : va_W) (of : Nat → Int64) (H : Heap) (locs : List Loc) (ls : Array Slot) (cells1 slots1 : Nat), R9 K M → HI cy x K ss → NI cy mm M w → PDs dC dI A (ss ++ [w ++ [(ob, .inl (cy 2, 1, .inr (.inl of)))]]) H → va_S A s.heap H locs → lv_has ls 7 [(4, .int i), (3, .ref ob), (2, .ref mm), (1, .ref x), (0, .ref b)] → cells1 ≤ cells + 20 → slots1 ≤ slots + 100 → W p l e room_1 s m #[Value.ref b] below meth c H locs cells1 slots1 Q (F0 m 1924 ls [])) : W p l e room_1 s m #[Value.ref b] below meth c H locs cells slots Q (F0 m 1757 ls []) := by
  obtain ⟨-, -, hr, -, -, -, hX, hbl, hlocks, -⟩ := C0
  have hx := X.1
  have hb := X.2.1
  have hc9 : cells ≤ 599000 := by omega
  have hs9 : slots ≤ 7290000 := by omega
  have hc8 : cells + 1 ≤ 599000 := by omega
  have hs8 : slots + 6 ≤ 7290000 := by omega
  refine lv_aload_n hx hb dL_law_1757 rfl (lv_at hl 3 rfl) ?_
  refine lv_aload_n hx hb dL_law_1758 rfl (lv_at hl 4 rfl) ?_
  refine lv_iload hx hb dL_law_1759 (lv_at hl 0 rfl) ?_
  refine lv_iconst (v := 1) hx hb dL_law_1761 (by decide) ?_
  refine lv_iadd hx hb dL_law_1762 ?_
  refine lv_topi (fun x_1 ex_1 => ?_)
  have tx_1 : x_1.toInt = i.toInt + 1 := ti_add (A := i.toInt) (B := 1) ex_1 rfl rfl (by omega) (by omega)
  refine va_sld hx hb hX hbl hbA hS (i := x_1) (vin (by omega) (by omega)) dL_law_1763 ?_
  refine lv_topi (fun x_2 ex_2 => ?_)
  refine hc_gate X hA hI hQ hS hl (rest := []) (Nat.le_of_ble_eq_true rfl) dL_law_1764 mL_207 (by omega) (by omega) x_2 (fun r_3 K_4 ss H locs hI hp_5 hQ hS => ?_)
  refine lv_pop hx hb dL_law_1767 rfl ?_
  refine lv_aload_n hx hb dL_law_1768 rfl (lv_at hl 2 rfl) ?_
  refine lv_aload_n hx hb dL_law_1769 rfl (lv_at hl 4 rfl) ?_
  refine lv_iload hx hb dL_law_1770 (lv_at hl 0 rfl) ?_
  refine lv_iconst (v := 1) hx hb dL_law_1772 (by decide) ?_
  refine lv_iadd hx hb dL_law_1773 ?_
  refine lv_topi (fun x_6 ex_6 => ?_)
  have tx_6 : x_6.toInt = i.toInt + 1 := ti_add (A := i.toInt) (B := 1) ex_6 rfl rfl (by omega) (by omega)
  refine va_sld hx hb hX hbl hbA hS (i := x_6) (vin (by omega) (by omega)) dL_law_1774 ?_
  refine lv_topi (fun x_7 ex_7 => ?_)
  have qx_7 : x_2 = x_7 := by rw [ex_2, ex_7, show x_1 = x_6 from Int32.toInt_inj.mp (by omega)]
  subst qx_7
  have hQ := PDs.front hQ
  refine hm_gate X hA hM hQ hS hl (rest := []) (Nat.le_of_ble_eq_true rfl) dL_law_1775 mL_210 (by omega) (by omega) x_2 (fun r_8 M_9 w H locs hM hp_10 hQ hS => ?_)
  have hE := a9_gate hR hp_5 hp_10
  have hR := s9_gate hR hp_5 hp_10
  have hQ := PDs.behind hQ
  refine lv_pop hx hb dL_law_1778 rfl ?_
  refine lv_goto (tgt := 1924) hx hb dL_law_1779 (by decide) ?_
  exact kk K_4 M_9 ss w of H locs _ cells slots hR hI hM hQ hS (lv_sub hl [0, 1, 2, 3, 4] rfl) (by omega) (by omega)
set_option maxHeartbeats 4000000 in
set_option maxRecDepth 100000 in
theorem law_c46 (hl9 : l.stackTraces = false) (C0 : lw_At p s m meth c b N xs) (hN : N ≤ 3072) (X : fx p s m c code 7 #[Value.ref b] RL dC dI cy hp A) (hA : ∀ q, s.heap.size ≤ q → A q) (hbA : ¬ A b) {x mm ob : Nat} {of : Nat → Int64} {K : CS} {M : MS} {ss : List va_W} {w : va_W} (hR : R9 K M) (hi0 : 0 ≤ i.toInt) (hi6 : i.toInt + 6 ≤ (N : Int)) (hI : HI cy x K ss) (hM : NI cy mm M w) (hQ : PDs dC dI A (ss ++ [w ++ [(ob, .inl (cy 2, 1, .inr (.inl of)))]]) H) (hS : va_S A s.heap H locs) (hl : lv_has ls 7 [(4, .int i), (3, .ref ob), (2, .ref mm), (1, .ref x), (0, .ref b)]) (hc7 : cells ≤ 590000) (hs7 : slots ≤ 7280000) (kk : ∀ (K : CS) (M : MS) (ss : List va_W) (w : va_W) (of : Nat → Int64) (H : Heap) (locs : List Loc) (ls : Array Slot) (cells1 slots1 : Nat), R9 K M → HI cy x K ss → NI cy mm M w → PDs dC dI A (ss ++ [w ++ [(ob, .inl (cy 2, 1, .inr (.inl of)))]]) H → va_S A s.heap H locs → lv_has ls 7 [(4, .int i), (3, .ref ob), (2, .ref mm), (1, .ref x), (0, .ref b)] → cells1 ≤ cells + 20 → slots1 ≤ slots + 100 → W p l e room_1 s m #[Value.ref b] below meth c H locs cells1 slots1 Q (F0 m 1924 ls [])) : W p l e room_1 s m #[Value.ref b] below meth c H locs cells slots Q (F0 m 1782 ls []) := by
  obtain ⟨-, -, hr, -, -, -, hX, hbl, hlocks, -⟩ := C0
  have hx := X.1
  have hb := X.2.1
  have hc9 : cells ≤ 599000 := by omega
  have hs9 : slots ≤ 7290000 := by omega
  have hc8 : cells + 1 ≤ 599000 := by omega
  have hs8 : slots + 6 ≤ 7290000 := by omega
  refine lv_aload_n hx hb dL_law_1782 rfl (lv_at hl 3 rfl) ?_
  refine lv_aload_n hx hb dL_law_1783 rfl (lv_at hl 4 rfl) ?_
  refine lv_iload hx hb dL_law_1784 (lv_at hl 0 rfl) ?_
  refine lv_iconst (v := 1) hx hb dL_law_1786 (by decide) ?_
  refine lv_iadd hx hb dL_law_1787 ?_
  refine lv_topi (fun x_1 ex_1 => ?_)
  have tx_1 : x_1.toInt = i.toInt + 1 := ti_add (A := i.toInt) (B := 1) ex_1 rfl rfl (by omega) (by omega)
  refine va_sld hx hb hX hbl hbA hS (i := x_1) (vin (by omega) (by omega)) dL_law_1788 ?_
  refine lv_topi (fun x_2 ex_2 => ?_)
  refine hc_hedge X hA hI hQ hS hl (rest := []) (Nat.le_of_ble_eq_true rfl) dL_law_1789 mL_211 (by omega) (by omega) x_2 (fun r_3 K_4 ss H locs hI hp_5 hQ hS => ?_)
  refine lv_pop hx hb dL_law_1792 rfl ?_
  refine lv_aload_n hx hb dL_law_1793 rfl (lv_at hl 2 rfl) ?_
  refine lv_aload_n hx hb dL_law_1794 rfl (lv_at hl 4 rfl) ?_
  refine lv_iload hx hb dL_law_1795 (lv_at hl 0 rfl) ?_
  refine lv_iconst (v := 1) hx hb dL_law_1797 (by decide) ?_
  refine lv_iadd hx hb dL_law_1798 ?_
  refine lv_topi (fun x_6 ex_6 => ?_)
  have tx_6 : x_6.toInt = i.toInt + 1 := ti_add (A := i.toInt) (B := 1) ex_6 rfl rfl (by omega) (by omega)
  refine va_sld hx hb hX hbl hbA hS (i := x_6) (vin (by omega) (by omega)) dL_law_1799 ?_
  refine lv_topi (fun x_7 ex_7 => ?_)
  have qx_7 : x_2 = x_7 := by rw [ex_2, ex_7, show x_1 = x_6 from Int32.toInt_inj.mp (by omega)]
  subst qx_7
  have hQ := PDs.front hQ
  refine hm_hedge X hA hM hQ hS hl (rest := []) (Nat.le_of_ble_eq_true rfl) dL_law_1800 mL_214 (by omega) (by omega) x_2 (fun r_8 M_9 w H locs hM hp_10 hQ hS => ?_)
  have hE := a9_hedge hR hp_5 hp_10
  have hR := s9_hedge hR hp_5 hp_10
  have hQ := PDs.behind hQ
  refine lv_pop hx hb dL_law_1803 rfl ?_
  refine lv_goto (tgt := 1924) hx hb dL_law_1804 (by decide) ?_
  exact kk K_4 M_9 ss w of H locs _ cells slots hR hI hM hQ hS (lv_sub hl [0, 1, 2, 3, 4] rfl) (by omega) (by omega)
set_option maxHeartbeats 4000000 in
set_option maxRecDepth 100000 in
theorem law_c47 (hl9 : l.stackTraces = false) (C0 : lw_At p s m meth c b N xs) (hN : N ≤ 3072) (X : fx p s m c code 7 #[Value.ref b] RL dC dI cy hp A) (hA : ∀ q, s.heap.size ≤ q → A q) (hbA : ¬ A b) {x mm ob : Nat} {of : Nat → Int64} {K : CS} {M : MS} {ss : List va_W} {w : va_W} (hR : R9 K M) (hi0 : 0 ≤ i.toInt) (hi6 : i.toInt + 6 ≤ (N : Int)) (hI : HI cy x K ss) (hM : NI cy mm M w) (hQ : PDs dC dI A (ss ++ [w ++ [(ob, .inl (cy 2, 1, .inr (.inl of)))]]) H) (hS : va_S A s.heap H locs) (hl : lv_has ls 7 [(4, .int i), (3, .ref ob), (2, .ref mm), (1, .ref x), (0, .ref b)]) (hc7 : cells ≤ 590000) (hs7 : slots ≤ 7280000) (kk : ∀ (K : CS) (M : MS) (ss : List va_W) (w : va_W) (of : Nat → Int64) (H : Heap) (locs : List Loc) (ls : Array Slot) (cells1 slots1 : Nat), R9 K M → HI cy x K ss → NI cy mm M w → PDs dC dI A (ss ++ [w ++ [(ob, .inl (cy 2, 1, .inr (.inl of)))]]) H → va_S A s.heap H locs → lv_has ls 7 [(4, .int i), (3, .ref ob), (2, .ref mm), (1, .ref x), (0, .ref b)] → cells1 ≤ cells + 20 → slots1 ≤ slots + 100 → W p l e room_1 s m #[Value.ref b] below meth c H locs cells1 slots1 Q (F0 m 1924 ls [])) : W p l e room_1 s m #[Value.ref b] below meth c H locs cells slots Q (F0 m 1807 ls []) := by
  obtain ⟨-, -, hr, -, -, -, hX, hbl, hlocks, -⟩ := C0
  have hx := X.1
  have hb := X.2.1
  have hc9 : cells ≤ 599000 := by omega
  have hs9 : slots ≤ 7290000 := by omega
  have hc8 : cells + 1 ≤ 599000 := by omega
  have hs8 : slots + 6 ≤ 7290000 := by omega
  refine lv_aload_n hx hb dL_law_1807 rfl (lv_at hl 3 rfl) ?_
  refine hc_undo X hA hI hQ hS hl (rest := []) (Nat.le_of_ble_eq_true rfl) dL_law_1808 mL_215 (by omega) (by omega) (fun r_1 K_2 ss H locs hI hp_3 hQ hS => ?_)
  refine lv_pop hx hb dL_law_1811 rfl ?_
  refine lv_aload_n hx hb dL_law_1812 rfl (lv_at hl 2 rfl) ?_
  have hQ := PDs.front hQ
  refine hm_undo X hA hM hQ hS hl (rest := []) (Nat.le_of_ble_eq_true rfl) dL_law_1813 mL_219 (by omega) (by omega) (fun r_4 M_5 w H locs hM hp_6 hQ hS => ?_)
  have hE := a9_undo hR hp_3 hp_6
  have hR := s9_undo hR hp_3 hp_6
  have hQ := PDs.behind hQ
  refine lv_pop hx hb dL_law_1816 rfl ?_
  refine lv_goto (tgt := 1924) hx hb dL_law_1817 (by decide) ?_
  exact kk K_2 M_5 ss w of H locs _ cells slots hR hI hM hQ hS (lv_sub hl [0, 1, 2, 3, 4] rfl) (by omega) (by omega)
set_option maxHeartbeats 4000000 in
set_option maxRecDepth 100000 in
theorem law_c48 (hl9 : l.stackTraces = false) (C0 : lw_At p s m meth c b N xs) (hN : N ≤ 3072) (X : fx p s m c code 7 #[Value.ref b] RL dC dI cy hp A) (hA : ∀ q, s.heap.size ≤ q → A q) (hbA : ¬ A b) {x mm ob : Nat} {of : Nat → Int64} {K : CS} {M : MS} {ss : List va_W} {w : va_W} (hR : R9 K M) (hi0 : 0 ≤ i.toInt) (hi6 : i.toInt + 6 ≤ (N : Int)) (hI : HI cy x K ss) (hM : NI cy mm M w) (hQ : PDs dC dI A (ss ++ [w ++ [(ob, .inl (cy 2, 1, .inr (.inl of)))]]) H) (hS : va_S A s.heap H locs) (hl : lv_has ls 7 [(4, .int i), (3, .ref ob), (2, .ref mm), (1, .ref x), (0, .ref b)]) (hc7 : cells ≤ 590000) (hs7 : slots ≤ 7280000) (kk : ∀ (K : CS) (M : MS) (ss : List va_W) (w : va_W) (of : Nat → Int64) (H : Heap) (locs : List Loc) (ls : Array Slot) (cells1 slots1 : Nat), R9 K M → HI cy x K ss → NI cy mm M w → PDs dC dI A (ss ++ [w ++ [(ob, .inl (cy 2, 1, .inr (.inl of)))]]) H → va_S A s.heap H locs → lv_has ls 7 [(4, .int i), (3, .ref ob), (2, .ref mm), (1, .ref x), (0, .ref b)] → cells1 ≤ cells + 20 → slots1 ≤ slots + 100 → W p l e room_1 s m #[Value.ref b] below meth c H locs cells1 slots1 Q (F0 m 1924 ls [])) : W p l e room_1 s m #[Value.ref b] below meth c H locs cells slots Q (F0 m 1820 ls []) := by
  obtain ⟨-, -, hr, -, -, -, hX, hbl, hlocks, -⟩ := C0
  have hx := X.1
  have hb := X.2.1
  have hc9 : cells ≤ 599000 := by omega
  have hs9 : slots ≤ 7290000 := by omega
  have hc8 : cells + 1 ≤ 599000 := by omega
  have hs8 : slots + 6 ≤ 7290000 := by omega
  refine lv_aload_n hx hb dL_law_1820 rfl (lv_at hl 3 rfl) ?_
  refine hc_image X hA hI hQ hS hl (rest := []) (Nat.le_of_ble_eq_true rfl) dL_law_1821 mL_220 (by omega) (by omega) (fun r_1 K_2 ss H locs hI hp_3 hQ hS => ?_)
  refine lv_pop hx hb dL_law_1824 rfl ?_
  refine lv_aload_n hx hb dL_law_1825 rfl (lv_at hl 2 rfl) ?_
  have hQ := PDs.front hQ
  refine hm_image X hA hM hQ hS hl (rest := []) (Nat.le_of_ble_eq_true rfl) dL_law_1826 mL_223 (by omega) (by omega) (fun r_4 M_5 w H locs hM hp_6 hQ hS => ?_)
  have hE := a9_image hR hp_3 hp_6
  have hR := s9_image hR hp_3 hp_6
  have hQ := PDs.behind hQ
  refine lv_pop hx hb dL_law_1829 rfl ?_
  refine lv_goto (tgt := 1924) hx hb dL_law_1830 (by decide) ?_
  exact kk K_2 M_5 ss w of H locs _ cells slots hR hI hM hQ hS (lv_sub hl [0, 1, 2, 3, 4] rfl) (by omega) (by omega)
set_option maxHeartbeats 4000000 in
set_option maxRecDepth 100000 in
theorem law_c49 (hl9 : l.stackTraces = false) (C0 : lw_At p s m meth c b N xs) (hN : N ≤ 3072) (X : fx p s m c code 7 #[Value.ref b] RL dC dI cy hp A) (hA : ∀ q, s.heap.size ≤ q → A q) (hbA : ¬ A b) {x mm ob : Nat} {of : Nat → Int64} {K : CS} {M : MS} {ss : List va_W} {w : va_W} (hR : R9 K M) (hi0 : 0 ≤ i.toInt) (hi6 : i.toInt + 6 ≤ (N : Int)) (hI : HI cy x K ss) (hM : NI cy mm M w) (hQ : PDs dC dI A (ss ++ [w ++ [(ob, .inl (cy 2, 1, .inr (.inl of)))]]) H) (hS : va_S A s.heap H locs) (hl : lv_has ls 7 [(4, .int i), (3, .ref ob), (2, .ref mm), (1, .ref x), (0, .ref b)]) (hc7 : cells ≤ 590000) (hs7 : slots ≤ 7280000) (kk : ∀ (K : CS) (M : MS) (ss : List va_W) (w : va_W) (of : Nat → Int64) (H : Heap) (locs : List Loc) (ls : Array Slot) (cells1 slots1 : Nat), R9 K M → HI cy x K ss → NI cy mm M w → PDs dC dI A (ss ++ [w ++ [(ob, .inl (cy 2, 1, .inr (.inl of)))]]) H → va_S A s.heap H locs → lv_has ls 7 [(4, .int i), (3, .ref ob), (2, .ref mm), (1, .ref x), (0, .ref b)] → cells1 ≤ cells + 20 → slots1 ≤ slots + 100 → W p l e room_1 s m #[Value.ref b] below meth c H locs cells1 slots1 Q (F0 m 1924 ls [])) : W p l e room_1 s m #[Value.ref b] below meth c H locs cells slots Q (F0 m 1833 ls []) := by
  obtain ⟨-, -, hr, -, -, -, hX, hbl, hlocks, -⟩ := C0
  have hx := X.1
  have hb := X.2.1
  have hc9 : cells ≤ 599000 := by omega
  have hs9 : slots ≤ 7290000 := by omega
  have hc8 : cells + 1 ≤ 599000 := by omega
  have hs8 : slots + 6 ≤ 7290000 := by omega
  refine lv_aload_n hx hb dL_law_1833 rfl (lv_at hl 3 rfl) ?_
  refine lv_aload_n hx hb dL_law_1834 rfl (lv_at hl 4 rfl) ?_
  refine lv_iload hx hb dL_law_1835 (lv_at hl 0 rfl) ?_
  refine lv_iconst (v := 1) hx hb dL_law_1837 (by decide) ?_
  refine lv_iadd hx hb dL_law_1838 ?_
  refine lv_topi (fun x_1 ex_1 => ?_)
  have tx_1 : x_1.toInt = i.toInt + 1 := ti_add (A := i.toInt) (B := 1) ex_1 rfl rfl (by omega) (by omega)
  refine va_sld hx hb hX hbl hbA hS (i := x_1) (vin (by omega) (by omega)) dL_law_1839 ?_
  refine lv_topi (fun x_2 ex_2 => ?_)
  refine hc_back X hA hI hQ hS hl (rest := []) (Nat.le_of_ble_eq_true rfl) dL_law_1840 mL_224 (by omega) (by omega) x_2 (fun r_3 K_4 ss H locs hI hp_5 hQ hS => ?_)
  refine lv_pop hx hb dL_law_1843 rfl ?_
  refine lv_aload_n hx hb dL_law_1844 rfl (lv_at hl 2 rfl) ?_
  refine lv_aload_n hx hb dL_law_1845 rfl (lv_at hl 4 rfl) ?_
  refine lv_iload hx hb dL_law_1846 (lv_at hl 0 rfl) ?_
  refine lv_iconst (v := 1) hx hb dL_law_1848 (by decide) ?_
  refine lv_iadd hx hb dL_law_1849 ?_
  refine lv_topi (fun x_6 ex_6 => ?_)
  have tx_6 : x_6.toInt = i.toInt + 1 := ti_add (A := i.toInt) (B := 1) ex_6 rfl rfl (by omega) (by omega)
  refine va_sld hx hb hX hbl hbA hS (i := x_6) (vin (by omega) (by omega)) dL_law_1850 ?_
  refine lv_topi (fun x_7 ex_7 => ?_)
  have qx_7 : x_2 = x_7 := by rw [ex_2, ex_7, show x_1 = x_6 from Int32.toInt_inj.mp (by omega)]
  subst qx_7
  have hQ := PDs.front hQ
  refine hm_back X hA hM hQ hS hl (rest := []) (Nat.le_of_ble_eq_true rfl) dL_law_1851 mL_227 (by omega) (by omega) x_2 (fun r_8 M_9 w H locs hM hp_10 hQ hS => ?_)
  have hE := a9_back hR hp_5 hp_10
  have hR := s9_back hR hp_5 hp_10
  have hQ := PDs.behind hQ
  refine lv_pop hx hb dL_law_1854 rfl ?_
  refine lv_goto (tgt := 1924) hx hb dL_law_1855 (by decide) ?_
  exact kk K_4 M_9 ss w of H locs _ cells slots hR hI hM hQ hS (lv_sub hl [0, 1, 2, 3, 4] rfl) (by omega) (by omega)
set_option maxHeartbeats 4000000 in
set_option maxRecDepth 100000 in
theorem law_c50 (hl9 : l.stackTraces = false) (C0 : lw_At p s m meth c b N xs) (hN : N ≤ 3072) (X : fx p s m c code 7 #[Value.ref b] RL dC dI cy hp A) (hA : ∀ q, s.heap.size ≤ q → A q) (hbA : ¬ A b) {x mm ob : Nat} {of : Nat → Int64} {K : CS} {M : MS} {ss : List va_W} {w : va_W} (hR : R9 K M) (hi0 : 0 ≤ i.toInt) (hi6 : i.toInt + 6 ≤ (N : Int)) (hI : HI cy x K ss) (hM : NI cy mm M w) (hQ : PDs dC dI A (ss ++ [w ++ [(ob, .inl (cy 2, 1, .inr (.inl of)))]]) H) (hS : va_S A s.heap H locs) (hl : lv_has ls 7 [(4, .int i), (3, .ref ob), (2, .ref mm), (1, .ref x), (0, .ref b)]) (hc7 : cells ≤ 590000) (hs7 : slots ≤ 7280000) (kk : ∀ (K : CS) (M : MS) (ss : List va_W) (w : va_W) (of : Nat → Int64) (H : Heap) (locs : List Loc) (ls : Array Slot) (cells1 slots1 : Nat), R9 K M → HI cy x K ss → NI cy mm M w → PDs dC dI A (ss ++ [w ++ [(ob, .inl (cy 2, 1, .inr (.inl of)))]]) H → va_S A s.heap H locs → lv_has ls 7 [(4, .int i), (3, .ref ob), (2, .ref mm), (1, .ref x), (0, .ref b)] → cells1 ≤ cells + 20 → slots1 ≤ slots + 100 → W p l e room_1 s m #[Value.ref b] below meth c H locs cells1 slots1 Q (F0 m 1924 ls [])) : W p l e room_1 s m #[Value.ref b] below meth c H locs cells slots Q (F0 m 1858 ls []) := by
  obtain ⟨-, -, hr, -, -, -, hX, hbl, hlocks, -⟩ := C0
  have hx := X.1
  have hb := X.2.1
  have hc9 : cells ≤ 599000 := by omega
  have hs9 : slots ≤ 7290000 := by omega
  have hc8 : cells + 1 ≤ 599000 := by omega
  have hs8 : slots + 6 ≤ 7290000 := by omega
  refine lv_aload_n hx hb dL_law_1858 rfl (lv_at hl 3 rfl) ?_
  refine lv_aload_n hx hb dL_law_1859 rfl (lv_at hl 4 rfl) ?_
  refine lv_iload hx hb dL_law_1860 (lv_at hl 0 rfl) ?_
  refine lv_iconst (v := 1) hx hb dL_law_1862 (by decide) ?_
  refine lv_iadd hx hb dL_law_1863 ?_
  refine lv_topi (fun x_1 ex_1 => ?_)
  have tx_1 : x_1.toInt = i.toInt + 1 := ti_add (A := i.toInt) (B := 1) ex_1 rfl rfl (by omega) (by omega)
  refine va_sld hx hb hX hbl hbA hS (i := x_1) (vin (by omega) (by omega)) dL_law_1864 ?_
  refine lv_topi (fun x_2 ex_2 => ?_)
  refine lv_aload_n hx hb dL_law_1865 rfl (lv_at hl 1 rfl) ?_
  refine hc_led X hA x_2 hl9 hI hQ hS hl (rest := []) (Nat.le_of_ble_eq_true rfl) dL_law_1866 (by omega) (by omega) (fun r_3 of ss H locs hI hQ hS => ?_)
  have hc9 : cells + 1 ≤ 599000 := hc8
  have hs9 : slots + 6 ≤ 7290000 := hs8
  refine lv_istore (lv' := [(5, .int r_3), (4, .int i), (3, .ref ob), (2, .ref mm), (1, .ref x), (0, .ref b)]) hx hb dL_law_1869 hl (by decide) rfl (fun ls hl => ?_)
  refine lv_aload_n hx hb dL_law_1871 rfl (lv_at hl 3 rfl) ?_
  refine lv_aload_n hx hb dL_law_1872 rfl (lv_at hl 5 rfl) ?_
  refine lv_iload hx hb dL_law_1873 (lv_at hl 1 rfl) ?_
  refine lv_iconst (v := 1) hx hb dL_law_1875 (by decide) ?_
  refine lv_iadd hx hb dL_law_1876 ?_
  refine lv_topi (fun x_4 ex_4 => ?_)
  have tx_4 : x_4.toInt = i.toInt + 1 := ti_add (A := i.toInt) (B := 1) ex_4 rfl rfl (by omega) (by omega)
  refine va_sld hx hb hX hbl hbA hS (i := x_4) (vin (by omega) (by omega)) dL_law_1877 ?_
  refine lv_topi (fun x_5 ex_5 => ?_)
  have qx_5 : x_2 = x_5 := by rw [ex_2, ex_5, show x_1 = x_4 from Int32.toInt_inj.mp (by omega)]
  subst qx_5
  have hQ := PDs.front hQ
  refine hm_led X hA hM hQ hS hl (rest := []) (Nat.le_of_ble_eq_true rfl) dL_law_1878 mL_233 (by omega) (by omega) x_2 (fun r_6 M_7 w H locs hM hp_8 hQ hS => ?_)
  have hR := s9_led hR hp_8
  have hQ := PDs.behind hQ
  refine lv_istore (lv' := [(6, .int r_6), (5, .int r_3), (4, .int i), (3, .ref ob), (2, .ref mm), (1, .ref x), (0, .ref b)]) hx hb dL_law_1881 hl (by decide) rfl (fun ls hl => ?_)
  refine lv_goto (tgt := 1924) hx hb dL_law_1883 (by decide) ?_
  exact kk K M_7 ss w of H locs _ (cells + 1) (slots + 6) hR hI hM hQ hS (lv_sub hl [2, 3, 4, 5, 6] rfl) (by omega) (by omega)
set_option maxHeartbeats 4000000 in
set_option maxRecDepth 100000 in
theorem law_c51 (hl9 : l.stackTraces = false) (C0 : lw_At p s m meth c b N xs) (hN : N ≤ 3072) (X : fx p s m c code 7 #[Value.ref b] RL dC dI cy hp A) (hA : ∀ q, s.heap.size ≤ q → A q) (hbA : ¬ A b) {x mm ob : Nat} {of : Nat → Int64} {K : CS} {M : MS} {ss : List va_W} {w : va_W} (hR : R9 K M) (hi0 : 0 ≤ i.toInt) (hi6 : i.toInt + 6 ≤ (N : Int)) (hI : HI cy x K ss) (hM : NI cy mm M w) (hQ : PDs dC dI A (ss ++ [w ++ [(ob, .inl (cy 2, 1, .inr (.inl of)))]]) H) (hS : va_S A s.heap H locs) (hl : lv_has ls 7 [(4, .int i), (3, .ref ob), (2, .ref mm), (1, .ref x), (0, .ref b)]) (hc7 : cells ≤ 590000) (hs7 : slots ≤ 7280000) (kk : ∀ (K : CS) (M : MS) (ss : List va_W) (w : va_W) (of : Nat → Int64) (H : Heap) (locs : List Loc) (ls : Array Slot) (cells1 slots1 : Nat), R9 K M → HI cy x K ss → NI cy mm M w → PDs dC dI A (ss ++ [w ++ [(ob, .inl (cy 2, 1, .inr (.inl of)))]]) H → va_S A s.heap H locs → lv_has ls 7 [(4, .int i), (3, .ref ob), (2, .ref mm), (1, .ref x), (0, .ref b)] → cells1 ≤ cells + 20 → slots1 ≤ slots + 100 → W p l e room_1 s m #[Value.ref b] below meth c H locs cells1 slots1 Q (F0 m 1924 ls [])) : W p l e room_1 s m #[Value.ref b] below meth c H locs cells slots Q (F0 m 1886 ls []) := by
  obtain ⟨-, -, hr, -, -, -, hX, hbl, hlocks, -⟩ := C0
  have hx := X.1
  have hb := X.2.1
  have hc9 : cells ≤ 599000 := by omega
  have hs9 : slots ≤ 7290000 := by omega
  have hc8 : cells + 1 ≤ 599000 := by omega
  have hs8 : slots + 6 ≤ 7290000 := by omega
  refine lv_aload_n hx hb dL_law_1886 rfl (lv_at hl 3 rfl) ?_
  refine lv_aload_n hx hb dL_law_1887 rfl (lv_at hl 4 rfl) ?_
  refine lv_iload hx hb dL_law_1888 (lv_at hl 0 rfl) ?_
  refine lv_iconst (v := 1) hx hb dL_law_1890 (by decide) ?_
  refine lv_iadd hx hb dL_law_1891 ?_
  refine lv_topi (fun x_1 ex_1 => ?_)
  have tx_1 : x_1.toInt = i.toInt + 1 := ti_add (A := i.toInt) (B := 1) ex_1 rfl rfl (by omega) (by omega)
  refine va_sld hx hb hX hbl hbA hS (i := x_1) (vin (by omega) (by omega)) dL_law_1892 ?_
  refine lv_topi (fun x_2 ex_2 => ?_)
  refine hc_size X hA hI hQ hS hl (rest := []) (Nat.le_of_ble_eq_true rfl) dL_law_1893 mL_234 (by omega) (by omega) x_2 (fun r_3 K_4 ss H locs hI hp_5 hQ hS => ?_)
  refine lv_pop hx hb dL_law_1896 rfl ?_
  refine lv_aload_n hx hb dL_law_1897 rfl (lv_at hl 2 rfl) ?_
  refine lv_aload_n hx hb dL_law_1898 rfl (lv_at hl 4 rfl) ?_
  refine lv_iload hx hb dL_law_1899 (lv_at hl 0 rfl) ?_
  refine lv_iconst (v := 1) hx hb dL_law_1901 (by decide) ?_
  refine lv_iadd hx hb dL_law_1902 ?_
  refine lv_topi (fun x_6 ex_6 => ?_)
  have tx_6 : x_6.toInt = i.toInt + 1 := ti_add (A := i.toInt) (B := 1) ex_6 rfl rfl (by omega) (by omega)
  refine va_sld hx hb hX hbl hbA hS (i := x_6) (vin (by omega) (by omega)) dL_law_1903 ?_
  refine lv_topi (fun x_7 ex_7 => ?_)
  have qx_7 : x_2 = x_7 := by rw [ex_2, ex_7, show x_1 = x_6 from Int32.toInt_inj.mp (by omega)]
  subst qx_7
  have hQ := PDs.front hQ
  refine hm_size X hA hM hQ hS hl (rest := []) (Nat.le_of_ble_eq_true rfl) dL_law_1904 mL_237 (by omega) (by omega) x_2 (fun r_8 M_9 w H locs hM hp_10 hQ hS => ?_)
  have hR := s9_size hR hp_5 hp_10
  have hQ := PDs.behind hQ
  refine lv_pop hx hb dL_law_1907 rfl ?_
  refine lv_goto (tgt := 1924) hx hb dL_law_1908 (by decide) ?_
  exact kk K_4 M_9 ss w of H locs _ cells slots hR hI hM hQ hS (lv_sub hl [0, 1, 2, 3, 4] rfl) (by omega) (by omega)
set_option maxHeartbeats 4000000 in
set_option maxRecDepth 100000 in
theorem law_c52 (hl9 : l.stackTraces = false) (C0 : lw_At p s m meth c b N xs) (hN : N ≤ 3072) (X : fx p s m c code 7 #[Value.ref b] RL dC dI cy hp A) (hA : ∀ q, s.heap.size ≤ q → A q) (hbA : ¬ A b) {x mm ob : Nat} {of : Nat → Int64} {K : CS} {M : MS} {ss : List va_W} {w : va_W} (hR : R9 K M) (hi0 : 0 ≤ i.toInt) (hi6 : i.toInt + 6 ≤ (N : Int)) (hI : HI cy x K ss) (hM : NI cy mm M w) (hQ : PDs dC dI A (ss ++ [w ++ [(ob, .inl (cy 2, 1, .inr (.inl of)))]]) H) (hS : va_S A s.heap H locs) (hl : lv_has ls 7 [(4, .int i), (3, .ref ob), (2, .ref mm), (1, .ref x), (0, .ref b)]) (hc7 : cells ≤ 590000) (hs7 : slots ≤ 7280000) (kk : ∀ (K : CS) (M : MS) (ss : List va_W) (w : va_W) (of : Nat → Int64) (H : Heap) (locs : List Loc) (ls : Array Slot) (cells1 slots1 : Nat), R9 K M → HI cy x K ss → NI cy mm M w → PDs dC dI A (ss ++ [w ++ [(ob, .inl (cy 2, 1, .inr (.inl of)))]]) H → va_S A s.heap H locs → lv_has ls 7 [(4, .int i), (3, .ref ob), (2, .ref mm), (1, .ref x), (0, .ref b)] → cells1 ≤ cells + 20 → slots1 ≤ slots + 100 → W p l e room_1 s m #[Value.ref b] below meth c H locs cells1 slots1 Q (F0 m 1924 ls [])) : W p l e room_1 s m #[Value.ref b] below meth c H locs cells slots Q (F0 m 1911 ls []) := by
  obtain ⟨-, -, hr, -, -, -, hX, hbl, hlocks, -⟩ := C0
  have hx := X.1
  have hb := X.2.1
  have hc9 : cells ≤ 599000 := by omega
  have hs9 : slots ≤ 7290000 := by omega
  have hc8 : cells + 1 ≤ 599000 := by omega
  have hs8 : slots + 6 ≤ 7290000 := by omega
  refine lv_aload_n hx hb dL_law_1911 rfl (lv_at hl 3 rfl) ?_
  refine hc_trouble X hA hI hQ hS hl (rest := []) (Nat.le_of_ble_eq_true rfl) dL_law_1912 mL_238 (by omega) (by omega) (fun r_1 K_2 ss H locs hI hp_3 hQ hS => ?_)
  refine lv_pop hx hb dL_law_1915 rfl ?_
  refine lv_aload_n hx hb dL_law_1916 rfl (lv_at hl 2 rfl) ?_
  have hQ := PDs.front hQ
  refine hm_trouble X hA hM hQ hS hl (rest := []) (Nat.le_of_ble_eq_true rfl) dL_law_1917 mL_241 (by omega) (by omega) (fun r_4 M_5 w H locs hM hp_6 hQ hS => ?_)
  have hR := s9_trouble hR hp_3 hp_6
  have hQ := PDs.behind hQ
  refine lv_pop hx hb dL_law_1920 rfl ?_
  refine lv_goto (tgt := 1924) hx hb dL_law_1921 (by decide) ?_
  exact kk K_2 M_5 ss w of H locs _ cells slots hR hI hM hQ hS (lv_sub hl [0, 1, 2, 3, 4] rfl) (by omega) (by omega)
