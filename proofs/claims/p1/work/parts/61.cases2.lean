variable {p : Program} {l : Launch} {e : Env} {s : State} {m : MethodId} {below : List Frame} {meth : Method} {c : Code} {b : Nat} {xs : Nat → Int32} {dC : Nat → ClassId} {dI : Nat → Nat → Nat} {cy : Nat → ClassId} {H : Heap} {locs : List Loc} {ls : Array Slot}
set_option maxHeartbeats 4000000 in
set_option maxRecDepth 100000 in
theorem law_c28 (hl9 : l.stackTraces = false) (C0 : lw_At p s m meth c b 6 xs) (X : fx p s m c code 7 #[Value.ref b] RL dC dI cy) (hZ : zx (fun q : Nat => s.heap.size ≤ q) s s.heap) (xx tp bt nw gr gs n1 n2 n3 tr kp im wy ow fl cs ds gu u0 u1 fc td tg t0 t1 t2 t3 t4 t5 t6 t7 dr dg dq d0 d1 d2 d3 d4 d5 d6 d7 mm b0 b1 b2 b3 b4 b5 b6 b7 b8 ob : Nat) (hP : va_P (dC, dI) vwCl [(xx, .inr (10, [.ref tp, .ref nw, .ref tr, .ref kp, .ref im, .ref wy, .ref ow, .ref fl, .ref cs, .ref ds, .ref gu, .ref fc, .ref td, .ref dr, .int 0, .int 0, .int 0])), (tp, .inr (8, [.ref bt, .int 0, .int 0, .int 0, .int 0, .int 0, .int 0, .int 0, .int 0])), (bt, .inl (cy 0, 800, .inl ((fun _ => 0)))), (nw, .inr (6, [.ref gr, .ref n1, .ref n2, .ref n3, .int 0])), (gr, .inr (4, [.int 0, .int 0, .int 0, .ref gs])), (td, .inr (7, [.ref tg, .int 0, .int 0, .int 0, .int 0, .ref t0, .int 0, .ref t1, .ref t2, .ref t3, .ref t4, .int 0, .ref t5, .ref t6, .ref t7])), (dr, .inr (7, [.ref dg, .int 0, .int 0, .int 0, .int 0, .ref d0, .int 0, .ref d1, .ref d2, .ref d3, .ref d4, .int 0, .ref d5, .ref d6, .ref d7])), (dg, .inr (4, [.int 0, .int 0, .int 0, .ref dq])), (gu, .inr (5, [.ref u0, .ref u1, .int 0])), (mm, .inr (12, [.int 0, .int 0, .int (-1), .null, .null, .ref b0, .int 0, .int 0, .int 0, .int 0, .int 0, .int 0, .int 0, .int 0, .int 0, .long 0, .ref b1, .ref b2, .ref b3, .ref b4, .int 0, .int 0, .ref b5, .ref b6, .ref b7, .int 0, .ref b8, .int 0, .int 0, .int 0, .int 0])), (b0, .inl (cy 0, 800, .inl ((fun _ => 0)))), (ob, .inl (cy 2, 1, .inr (.inl ((fun _ => 0)))))] H) (hD : va_D (fun q : Nat => s.heap.size ≤ q) [(xx, .inr (10, [.ref tp, .ref nw, .ref tr, .ref kp, .ref im, .ref wy, .ref ow, .ref fl, .ref cs, .ref ds, .ref gu, .ref fc, .ref td, .ref dr, .int 0, .int 0, .int 0])), (tp, .inr (8, [.ref bt, .int 0, .int 0, .int 0, .int 0, .int 0, .int 0, .int 0, .int 0])), (bt, .inl (cy 0, 800, .inl ((fun _ => 0)))), (nw, .inr (6, [.ref gr, .ref n1, .ref n2, .ref n3, .int 0])), (gr, .inr (4, [.int 0, .int 0, .int 0, .ref gs])), (td, .inr (7, [.ref tg, .int 0, .int 0, .int 0, .int 0, .ref t0, .int 0, .ref t1, .ref t2, .ref t3, .ref t4, .int 0, .ref t5, .ref t6, .ref t7])), (dr, .inr (7, [.ref dg, .int 0, .int 0, .int 0, .int 0, .ref d0, .int 0, .ref d1, .ref d2, .ref d3, .ref d4, .int 0, .ref d5, .ref d6, .ref d7])), (dg, .inr (4, [.int 0, .int 0, .int 0, .ref dq])), (gu, .inr (5, [.ref u0, .ref u1, .int 0])), (mm, .inr (12, [.int 0, .int 0, .int (-1), .null, .null, .ref b0, .int 0, .int 0, .int 0, .int 0, .int 0, .int 0, .int 0, .int 0, .int 0, .long 0, .ref b1, .ref b2, .ref b3, .ref b4, .int 0, .int 0, .ref b5, .ref b6, .ref b7, .int 0, .ref b8, .int 0, .int 0, .int 0, .int 0])), (b0, .inl (cy 0, 800, .inl ((fun _ => 0)))), (ob, .inl (cy 2, 1, .inr (.inl ((fun _ => 0)))))]) (hS : va_S (fun q : Nat => s.heap.size ≤ q) s.heap H locs) (hl : lv_has ls 7 [(4, .int 0), (3, .ref ob), (2, .ref mm), (1, .ref xx), (0, .ref b)]) : W p l e room_1 s m #[Value.ref b] below meth c H locs 211 4770 (lw_Z below #[Value.ref b] s) (F0 m 1076 ls []) := by
  have C0' := C0
  obtain ⟨-, -, hr, -, -, -, hX, hbl, hlocks, -⟩ := C0'
  have hx := X.1
  have hb := X.2.1
  have hK := X.2.2.2.2.2.1
  have hA : ∀ q : Nat, s.heap.size ≤ q → (fun q : Nat => s.heap.size ≤ q) q := fun _ h => h
  have hbA : ¬ (fun q : Nat => s.heap.size ≤ q) b := Nat.not_le.mpr hbl
  refine lv_aload_n hx hb dL_law_1076 rfl (lv_at hl 3 rfl) ?_
  refine lv_aload_n hx hb dL_law_1077 rfl (lv_at hl 4 rfl) ?_
  refine lv_iload hx hb dL_law_1078 (lv_at hl 0 rfl) ?_
  refine lv_iconst (v := 1) hx hb dL_law_1080 (by decide) ?_
  refine lv_iadd hx hb dL_law_1081 ?_
  refine lv_topi (fun x_1 ex_1 => ?_)
  have ex_1 : x_1 = 1 := ex_1.trans (by decide)
  subst ex_1
  refine va_sld hx hb hX hbl hbA hS (i := 1) (by unfold vp_in; decide) dL_law_1082 ?_
  refine lv_topi (fun x_2 ex_2 => ?_)
  refine lv_aload_n hx hb dL_law_1083 rfl (lv_at hl 4 rfl) ?_
  refine lv_iload hx hb dL_law_1084 (lv_at hl 0 rfl) ?_
  refine lv_iconst (v := 2) hx hb dL_law_1086 (by decide) ?_
  refine lv_iadd hx hb dL_law_1087 ?_
  refine lv_topi (fun x_3 ex_3 => ?_)
  have ex_3 : x_3 = 2 := ex_3.trans (by decide)
  subst ex_3
  refine va_sld hx hb hX hbl hbA hS (i := 2) (by unfold vp_in; decide) dL_law_1088 ?_
  refine lv_topi (fun x_4 ex_4 => ?_)
  suffices hz_5 : ∀ z : Int32, W p l e room_1 s m #[Value.ref b] below meth c H locs 211 4770 (lw_Z below #[Value.ref b] s) (F0 m 1097 ls (.int z :: [.int x_2, .ref xx])) from by
      refine lv_if_eq (tgt := 1096) hx hb dL_law_1089 (by decide) (fun _ => ?_) (fun _ => ?_)
      · refine lv_iconst (v := 0) hx hb dL_law_1096 (by decide) ?_
        exact hz_5 0
      · refine lv_iconst (v := 1) hx hb dL_law_1092 (by decide) ?_
        refine lv_goto (tgt := 1097) hx hb dL_law_1093 (by decide) ?_
        exact hz_5 1
  intro z_5
  refine fL (wr := [(tp, .inr (8, [.ref bt, .int 0, .int 0, .int 0, .int 0, .int 0, .int 0, .int 0, .int 0])), (bt, .inl (cy 0, 800, .inl ((fun _ => 0)))), (nw, .inr (6, [.ref gr, .ref n1, .ref n2, .ref n3, .int 0])), (gr, .inr (4, [.int 0, .int 0, .int 0, .ref gs])), (dr, .inr (7, [.ref dg, .int 0, .int 0, .int 0, .int 0, .ref d0, .int 0, .ref d1, .ref d2, .ref d3, .ref d4, .int 0, .ref d5, .ref d6, .ref d7])), (dg, .inr (4, [.int 0, .int 0, .int 0, .ref dq])), (gu, .inr (5, [.ref u0, .ref u1, .int 0])), (mm, .inr (12, [.int 0, .int 0, .int (-1), .null, .null, .ref b0, .int 0, .int 0, .int 0, .int 0, .int 0, .int 0, .int 0, .int 0, .int 0, .long 0, .ref b1, .ref b2, .ref b3, .ref b4, .int 0, .int 0, .ref b5, .ref b6, .ref b7, .int 0, .ref b8, .int 0, .int 0, .int 0, .int 0])), (b0, .inl (cy 0, 800, .inl ((fun _ => 0)))), (ob, .inl (cy 2, 1, .inr (.inl ((fun _ => 0)))))]) (rV_L (wc := [(xx, .inr (10, [.ref tp, .ref nw, .ref tr, .ref kp, .ref im, .ref wy, .ref ow, .ref fl, .ref cs, .ref ds, .ref gu, .ref fc, .ref td, .ref dr, .int 0, .int 0, .int 0])), (td, .inr (7, [.ref tg, .int 0, .int 0, .int 0, .int 0, .ref t0, .int 0, .ref t1, .ref t2, .ref t3, .ref t4, .int 0, .ref t5, .ref t6, .ref t7]))]) (As := [.int x_2, .int z_5]) (rest := []) X (tX11_odds l dC dI cy xx (.ref tp) (.ref nw) (.ref tr) (.ref kp) (.ref im) (.ref wy) (.ref ow) (.ref fl) (.ref cs) (.ref ds) (.ref gu) (.ref fc) td (.ref dr) (.int 0) (.int 0) (.int 0) tg t0 t1 t2 t3 t4 t5 t6 t7 x_2 z_5) kX11_odds vX11_odds mL_135 hP hD [0, 5] (by decide) rfl 0 (ci := 10) rfl rfl rfl hl rfl rfl (Nat.le_of_ble_eq_true rfl) dL_law_1097 ⟨Nat.le_of_ble_eq_true rfl, Nat.le_of_ble_eq_true rfl⟩ ⟨Nat.le_of_ble_eq_true rfl, Nat.le_of_ble_eq_true rfl⟩) hP hD hS hA [0, 5] [1, 2, 3, 4, 6, 7, 8, 9, 10, 11] rfl rfl (by decide) (by decide) (fun r_6 u_8 H locs k_7 hP hD hS => ?_)
  have hP : va_P (dC, dI) vwCl [(tp, .inr (8, [.ref bt, .int 0, .int 0, .int 0, .int 0, .int 0, .int 0, .int 0, .int 0])), (bt, .inl (cy 0, 800, .inl ((fun _ => 0)))), (nw, .inr (6, [.ref gr, .ref n1, .ref n2, .ref n3, .int 0])), (gr, .inr (4, [.int 0, .int 0, .int 0, .ref gs])), (dr, .inr (7, [.ref dg, .int 0, .int 0, .int 0, .int 0, .ref d0, .int 0, .ref d1, .ref d2, .ref d3, .ref d4, .int 0, .ref d5, .ref d6, .ref d7])), (dg, .inr (4, [.int 0, .int 0, .int 0, .ref dq])), (gu, .inr (5, [.ref u0, .ref u1, .int 0])), (mm, .inr (12, [.int 0, .int 0, .int (-1), .null, .null, .ref b0, .int 0, .int 0, .int 0, .int 0, .int 0, .int 0, .int 0, .int 0, .int 0, .long 0, .ref b1, .ref b2, .ref b3, .ref b4, .int 0, .int 0, .ref b5, .ref b6, .ref b7, .int 0, .ref b8, .int 0, .int 0, .int 0, .int 0])), (b0, .inl (cy 0, 800, .inl ((fun _ => 0)))), (ob, .inl (cy 2, 1, .inr (.inl ((fun _ => 0)))))] H := hP
  have hD : va_D (fun q : Nat => s.heap.size ≤ q) [(tp, .inr (8, [.ref bt, .int 0, .int 0, .int 0, .int 0, .int 0, .int 0, .int 0, .int 0])), (bt, .inl (cy 0, 800, .inl ((fun _ => 0)))), (nw, .inr (6, [.ref gr, .ref n1, .ref n2, .ref n3, .int 0])), (gr, .inr (4, [.int 0, .int 0, .int 0, .ref gs])), (dr, .inr (7, [.ref dg, .int 0, .int 0, .int 0, .int 0, .ref d0, .int 0, .ref d1, .ref d2, .ref d3, .ref d4, .int 0, .ref d5, .ref d6, .ref d7])), (dg, .inr (4, [.int 0, .int 0, .int 0, .ref dq])), (gu, .inr (5, [.ref u0, .ref u1, .int 0])), (mm, .inr (12, [.int 0, .int 0, .int (-1), .null, .null, .ref b0, .int 0, .int 0, .int 0, .int 0, .int 0, .int 0, .int 0, .int 0, .int 0, .long 0, .ref b1, .ref b2, .ref b3, .ref b4, .int 0, .int 0, .ref b5, .ref b6, .ref b7, .int 0, .ref b8, .int 0, .int 0, .int 0, .int 0])), (b0, .inl (cy 0, 800, .inl ((fun _ => 0)))), (ob, .inl (cy 2, 1, .inr (.inl ((fun _ => 0)))))] := hD
  have er_6 : r_6 = -1 := k_7
  subst er_6
  refine lv_aload_n hx hb dL_law_1100 rfl (lv_at hl 2 rfl) ?_
  refine lv_aload_n hx hb dL_law_1101 rfl (lv_at hl 4 rfl) ?_
  refine lv_iload hx hb dL_law_1102 (lv_at hl 0 rfl) ?_
  refine lv_iconst (v := 1) hx hb dL_law_1104 (by decide) ?_
  refine lv_iadd hx hb dL_law_1105 ?_
  refine lv_topi (fun x_9 ex_9 => ?_)
  have ex_9 : x_9 = 1 := ex_9.trans (by decide)
  subst ex_9
  refine va_sld hx hb hX hbl hbA hS (i := 1) (by unfold vp_in; decide) dL_law_1106 ?_
  refine lv_topi (fun x_10 ex_10 => ?_)
  refine lv_aload_n hx hb dL_law_1107 rfl (lv_at hl 4 rfl) ?_
  refine lv_iload hx hb dL_law_1108 (lv_at hl 0 rfl) ?_
  refine lv_iconst (v := 2) hx hb dL_law_1110 (by decide) ?_
  refine lv_iadd hx hb dL_law_1111 ?_
  refine lv_topi (fun x_11 ex_11 => ?_)
  have ex_11 : x_11 = 2 := ex_11.trans (by decide)
  subst ex_11
  refine va_sld hx hb hX hbl hbA hS (i := 2) (by unfold vp_in; decide) dL_law_1112 ?_
  refine lv_topi (fun x_12 ex_12 => ?_)
  suffices hz_13 : ∀ z : Int32, W p l e room_1 s m #[Value.ref b] below meth c H locs 211 4770 (lw_Z below #[Value.ref b] s) (F0 m 1121 ls (.int z :: [.int x_10, .ref mm, .long (-1)])) from by
      refine lv_if_eq (tgt := 1120) hx hb dL_law_1113 (by decide) (fun _ => ?_) (fun _ => ?_)
      · refine lv_iconst (v := 0) hx hb dL_law_1120 (by decide) ?_
        exact hz_13 0
      · refine lv_iconst (v := 1) hx hb dL_law_1116 (by decide) ?_
        refine lv_goto (tgt := 1121) hx hb dL_law_1117 (by decide) ?_
        exact hz_13 1
  intro z_13
  refine fL (wr := [(tp, .inr (8, [.ref bt, .int 0, .int 0, .int 0, .int 0, .int 0, .int 0, .int 0, .int 0])), (bt, .inl (cy 0, 800, .inl ((fun _ => 0)))), (nw, .inr (6, [.ref gr, .ref n1, .ref n2, .ref n3, .int 0])), (gr, .inr (4, [.int 0, .int 0, .int 0, .ref gs])), (dr, .inr (7, [.ref dg, .int 0, .int 0, .int 0, .int 0, .ref d0, .int 0, .ref d1, .ref d2, .ref d3, .ref d4, .int 0, .ref d5, .ref d6, .ref d7])), (dg, .inr (4, [.int 0, .int 0, .int 0, .ref dq])), (gu, .inr (5, [.ref u0, .ref u1, .int 0])), (b0, .inl (cy 0, 800, .inl ((fun _ => 0)))), (ob, .inl (cy 2, 1, .inr (.inl ((fun _ => 0)))))]) (rV_L (wc := [(mm, .inr (12, [.int 0, .int 0, .int (-1), .null, .null, .ref b0, .int 0, .int 0, .int 0, .int 0, .int 0, .int 0, .int 0, .int 0, .int 0, .long 0, .ref b1, .ref b2, .ref b3, .ref b4, .int 0, .int 0, .ref b5, .ref b6, .ref b7, .int 0, .ref b8, .int 0, .int 0, .int 0, .int 0]))]) (As := [.int x_10, .int z_13]) (rest := [.long (-1)]) X (tX13_odds l dC dI cy mm 0 0 (-1) .null (.ref b0) 0 0 0 0 0 0 0 0 0 0 (.ref b1) (.ref b2) (.ref b3) (.ref b4) 0 0 (.ref b5) (.ref b6) (.ref b7) 0 (.ref b8) 0 0 0 0 x_10 z_13) kX13_odds vX13_odds mL_139 hP hD [7] (by decide) rfl 0 (ci := 12) rfl rfl rfl hl rfl rfl (Nat.le_of_ble_eq_true rfl) dL_law_1121 ⟨Nat.le_of_ble_eq_true rfl, Nat.le_of_ble_eq_true rfl⟩ ⟨Nat.le_of_ble_eq_true rfl, Nat.le_of_ble_eq_true rfl⟩) hP hD hS hA [7] [0, 1, 2, 3, 4, 5, 6, 8, 9] rfl rfl (by decide) (by decide) (fun r_14 u_16 H locs k_15 hP hD hS => ?_)
  have hP : va_P (dC, dI) vwCl [(tp, .inr (8, [.ref bt, .int 0, .int 0, .int 0, .int 0, .int 0, .int 0, .int 0, .int 0])), (bt, .inl (cy 0, 800, .inl ((fun _ => 0)))), (nw, .inr (6, [.ref gr, .ref n1, .ref n2, .ref n3, .int 0])), (gr, .inr (4, [.int 0, .int 0, .int 0, .ref gs])), (dr, .inr (7, [.ref dg, .int 0, .int 0, .int 0, .int 0, .ref d0, .int 0, .ref d1, .ref d2, .ref d3, .ref d4, .int 0, .ref d5, .ref d6, .ref d7])), (dg, .inr (4, [.int 0, .int 0, .int 0, .ref dq])), (gu, .inr (5, [.ref u0, .ref u1, .int 0])), (b0, .inl (cy 0, 800, .inl ((fun _ => 0)))), (ob, .inl (cy 2, 1, .inr (.inl ((fun _ => 0)))))] H := hP
  have hD : va_D (fun q : Nat => s.heap.size ≤ q) [(tp, .inr (8, [.ref bt, .int 0, .int 0, .int 0, .int 0, .int 0, .int 0, .int 0, .int 0])), (bt, .inl (cy 0, 800, .inl ((fun _ => 0)))), (nw, .inr (6, [.ref gr, .ref n1, .ref n2, .ref n3, .int 0])), (gr, .inr (4, [.int 0, .int 0, .int 0, .ref gs])), (dr, .inr (7, [.ref dg, .int 0, .int 0, .int 0, .int 0, .ref d0, .int 0, .ref d1, .ref d2, .ref d3, .ref d4, .int 0, .ref d5, .ref d6, .ref d7])), (dg, .inr (4, [.int 0, .int 0, .int 0, .ref dq])), (gu, .inr (5, [.ref u0, .ref u1, .int 0])), (b0, .inl (cy 0, 800, .inl ((fun _ => 0)))), (ob, .inl (cy 2, 1, .inr (.inl ((fun _ => 0)))))] := hD
  have er_14 : r_14 = -1 := k_15
  subst er_14
  refine W.lcmp hx hb dL_law_1124 ?_
  refine lv_topi (fun x_17 ex_17 => ?_)
  have ex_17 : x_17 = 0 := ex_17.trans (by decide)
  subst ex_17
  refine lv_if_eq (tgt := 1956) hx hb dL_law_1125 (by decide) (fun _ => ?_) (fun h_18 => absurd (by decide) h_18)
  exact law_end hl9 C0 X hZ (Nat.le_of_ble_eq_true rfl) (Nat.le_of_ble_eq_true rfl) hS (lv_sub hl [0, 4] rfl)
set_option maxHeartbeats 4000000 in
set_option maxRecDepth 100000 in
theorem law_c29 (hl9 : l.stackTraces = false) (C0 : lw_At p s m meth c b 6 xs) (X : fx p s m c code 7 #[Value.ref b] RL dC dI cy) (hZ : zx (fun q : Nat => s.heap.size ≤ q) s s.heap) (xx tp bt nw gr gs n1 n2 n3 tr kp im wy ow fl cs ds gu u0 u1 fc td tg t0 t1 t2 t3 t4 t5 t6 t7 dr dg dq d0 d1 d2 d3 d4 d5 d6 d7 mm b0 b1 b2 b3 b4 b5 b6 b7 b8 ob : Nat) (hP : va_P (dC, dI) vwCl [(xx, .inr (10, [.ref tp, .ref nw, .ref tr, .ref kp, .ref im, .ref wy, .ref ow, .ref fl, .ref cs, .ref ds, .ref gu, .ref fc, .ref td, .ref dr, .int 0, .int 0, .int 0])), (tp, .inr (8, [.ref bt, .int 0, .int 0, .int 0, .int 0, .int 0, .int 0, .int 0, .int 0])), (bt, .inl (cy 0, 800, .inl ((fun _ => 0)))), (nw, .inr (6, [.ref gr, .ref n1, .ref n2, .ref n3, .int 0])), (gr, .inr (4, [.int 0, .int 0, .int 0, .ref gs])), (td, .inr (7, [.ref tg, .int 0, .int 0, .int 0, .int 0, .ref t0, .int 0, .ref t1, .ref t2, .ref t3, .ref t4, .int 0, .ref t5, .ref t6, .ref t7])), (dr, .inr (7, [.ref dg, .int 0, .int 0, .int 0, .int 0, .ref d0, .int 0, .ref d1, .ref d2, .ref d3, .ref d4, .int 0, .ref d5, .ref d6, .ref d7])), (dg, .inr (4, [.int 0, .int 0, .int 0, .ref dq])), (gu, .inr (5, [.ref u0, .ref u1, .int 0])), (mm, .inr (12, [.int 0, .int 0, .int (-1), .null, .null, .ref b0, .int 0, .int 0, .int 0, .int 0, .int 0, .int 0, .int 0, .int 0, .int 0, .long 0, .ref b1, .ref b2, .ref b3, .ref b4, .int 0, .int 0, .ref b5, .ref b6, .ref b7, .int 0, .ref b8, .int 0, .int 0, .int 0, .int 0])), (b0, .inl (cy 0, 800, .inl ((fun _ => 0)))), (ob, .inl (cy 2, 1, .inr (.inl ((fun _ => 0)))))] H) (hD : va_D (fun q : Nat => s.heap.size ≤ q) [(xx, .inr (10, [.ref tp, .ref nw, .ref tr, .ref kp, .ref im, .ref wy, .ref ow, .ref fl, .ref cs, .ref ds, .ref gu, .ref fc, .ref td, .ref dr, .int 0, .int 0, .int 0])), (tp, .inr (8, [.ref bt, .int 0, .int 0, .int 0, .int 0, .int 0, .int 0, .int 0, .int 0])), (bt, .inl (cy 0, 800, .inl ((fun _ => 0)))), (nw, .inr (6, [.ref gr, .ref n1, .ref n2, .ref n3, .int 0])), (gr, .inr (4, [.int 0, .int 0, .int 0, .ref gs])), (td, .inr (7, [.ref tg, .int 0, .int 0, .int 0, .int 0, .ref t0, .int 0, .ref t1, .ref t2, .ref t3, .ref t4, .int 0, .ref t5, .ref t6, .ref t7])), (dr, .inr (7, [.ref dg, .int 0, .int 0, .int 0, .int 0, .ref d0, .int 0, .ref d1, .ref d2, .ref d3, .ref d4, .int 0, .ref d5, .ref d6, .ref d7])), (dg, .inr (4, [.int 0, .int 0, .int 0, .ref dq])), (gu, .inr (5, [.ref u0, .ref u1, .int 0])), (mm, .inr (12, [.int 0, .int 0, .int (-1), .null, .null, .ref b0, .int 0, .int 0, .int 0, .int 0, .int 0, .int 0, .int 0, .int 0, .int 0, .long 0, .ref b1, .ref b2, .ref b3, .ref b4, .int 0, .int 0, .ref b5, .ref b6, .ref b7, .int 0, .ref b8, .int 0, .int 0, .int 0, .int 0])), (b0, .inl (cy 0, 800, .inl ((fun _ => 0)))), (ob, .inl (cy 2, 1, .inr (.inl ((fun _ => 0)))))]) (hS : va_S (fun q : Nat => s.heap.size ≤ q) s.heap H locs) (hl : lv_has ls 7 [(4, .int 0), (3, .ref ob), (2, .ref mm), (1, .ref xx), (0, .ref b)]) : W p l e room_1 s m #[Value.ref b] below meth c H locs 211 4770 (lw_Z below #[Value.ref b] s) (F0 m 1130 ls []) := by
  have C0' := C0
  obtain ⟨-, -, hr, -, -, -, hX, hbl, hlocks, -⟩ := C0'
  have hx := X.1
  have hb := X.2.1
  have hK := X.2.2.2.2.2.1
  have hA : ∀ q : Nat, s.heap.size ≤ q → (fun q : Nat => s.heap.size ≤ q) q := fun _ h => h
  have hbA : ¬ (fun q : Nat => s.heap.size ≤ q) b := Nat.not_le.mpr hbl
  refine lv_aload_n hx hb dL_law_1130 rfl (lv_at hl 3 rfl) ?_
  refine fI (wr := [(tp, .inr (8, [.ref bt, .int 0, .int 0, .int 0, .int 0, .int 0, .int 0, .int 0, .int 0])), (bt, .inl (cy 0, 800, .inl ((fun _ => 0)))), (td, .inr (7, [.ref tg, .int 0, .int 0, .int 0, .int 0, .ref t0, .int 0, .ref t1, .ref t2, .ref t3, .ref t4, .int 0, .ref t5, .ref t6, .ref t7])), (dr, .inr (7, [.ref dg, .int 0, .int 0, .int 0, .int 0, .ref d0, .int 0, .ref d1, .ref d2, .ref d3, .ref d4, .int 0, .ref d5, .ref d6, .ref d7])), (dg, .inr (4, [.int 0, .int 0, .int 0, .ref dq])), (gu, .inr (5, [.ref u0, .ref u1, .int 0])), (mm, .inr (12, [.int 0, .int 0, .int (-1), .null, .null, .ref b0, .int 0, .int 0, .int 0, .int 0, .int 0, .int 0, .int 0, .int 0, .int 0, .long 0, .ref b1, .ref b2, .ref b3, .ref b4, .int 0, .int 0, .ref b5, .ref b6, .ref b7, .int 0, .ref b8, .int 0, .int 0, .int 0, .int 0])), (b0, .inl (cy 0, 800, .inl ((fun _ => 0)))), (ob, .inl (cy 2, 1, .inr (.inl ((fun _ => 0)))))]) (rV_I (wc := [(xx, .inr (10, [.ref tp, .ref nw, .ref tr, .ref kp, .ref im, .ref wy, .ref ow, .ref fl, .ref cs, .ref ds, .ref gu, .ref fc, .ref td, .ref dr, .int 0, .int 0, .int 0])), (nw, .inr (6, [.ref gr, .ref n1, .ref n2, .ref n3, .int 0])), (gr, .inr (4, [.int 0, .int 0, .int 0, .ref gs]))]) (As := []) (rest := []) X (tX11_likeliest l dC dI cy xx (.ref tp) nw (.ref tr) (.ref kp) (.ref im) (.ref wy) (.ref ow) (.ref fl) (.ref cs) (.ref ds) (.ref gu) (.ref fc) (.ref td) (.ref dr) (.int 0) (.int 0) (.int 0) gr gs n1 n2 n3) kX11_likeliest vX11_likeliest mL_140 hP hD [0, 3, 4] (by decide) rfl 0 (ci := 10) rfl rfl rfl hl rfl rfl (Nat.le_of_ble_eq_true rfl) dL_law_1131 ⟨Nat.le_of_ble_eq_true rfl, Nat.le_of_ble_eq_true rfl⟩ ⟨Nat.le_of_ble_eq_true rfl, Nat.le_of_ble_eq_true rfl⟩) hP hD hS hA [0, 3, 4] [1, 2, 5, 6, 7, 8, 9, 10, 11] rfl rfl (by decide) (by decide) (fun r_1 u_3 H locs k_2 hP hD hS => ?_)
  have hP : va_P (dC, dI) vwCl [(tp, .inr (8, [.ref bt, .int 0, .int 0, .int 0, .int 0, .int 0, .int 0, .int 0, .int 0])), (bt, .inl (cy 0, 800, .inl ((fun _ => 0)))), (td, .inr (7, [.ref tg, .int 0, .int 0, .int 0, .int 0, .ref t0, .int 0, .ref t1, .ref t2, .ref t3, .ref t4, .int 0, .ref t5, .ref t6, .ref t7])), (dr, .inr (7, [.ref dg, .int 0, .int 0, .int 0, .int 0, .ref d0, .int 0, .ref d1, .ref d2, .ref d3, .ref d4, .int 0, .ref d5, .ref d6, .ref d7])), (dg, .inr (4, [.int 0, .int 0, .int 0, .ref dq])), (gu, .inr (5, [.ref u0, .ref u1, .int 0])), (mm, .inr (12, [.int 0, .int 0, .int (-1), .null, .null, .ref b0, .int 0, .int 0, .int 0, .int 0, .int 0, .int 0, .int 0, .int 0, .int 0, .long 0, .ref b1, .ref b2, .ref b3, .ref b4, .int 0, .int 0, .ref b5, .ref b6, .ref b7, .int 0, .ref b8, .int 0, .int 0, .int 0, .int 0])), (b0, .inl (cy 0, 800, .inl ((fun _ => 0)))), (ob, .inl (cy 2, 1, .inr (.inl ((fun _ => 0)))))] H := hP
  have hD : va_D (fun q : Nat => s.heap.size ≤ q) [(tp, .inr (8, [.ref bt, .int 0, .int 0, .int 0, .int 0, .int 0, .int 0, .int 0, .int 0])), (bt, .inl (cy 0, 800, .inl ((fun _ => 0)))), (td, .inr (7, [.ref tg, .int 0, .int 0, .int 0, .int 0, .ref t0, .int 0, .ref t1, .ref t2, .ref t3, .ref t4, .int 0, .ref t5, .ref t6, .ref t7])), (dr, .inr (7, [.ref dg, .int 0, .int 0, .int 0, .int 0, .ref d0, .int 0, .ref d1, .ref d2, .ref d3, .ref d4, .int 0, .ref d5, .ref d6, .ref d7])), (dg, .inr (4, [.int 0, .int 0, .int 0, .ref dq])), (gu, .inr (5, [.ref u0, .ref u1, .int 0])), (mm, .inr (12, [.int 0, .int 0, .int (-1), .null, .null, .ref b0, .int 0, .int 0, .int 0, .int 0, .int 0, .int 0, .int 0, .int 0, .int 0, .long 0, .ref b1, .ref b2, .ref b3, .ref b4, .int 0, .int 0, .ref b5, .ref b6, .ref b7, .int 0, .ref b8, .int 0, .int 0, .int 0, .int 0])), (b0, .inl (cy 0, 800, .inl ((fun _ => 0)))), (ob, .inl (cy 2, 1, .inr (.inl ((fun _ => 0)))))] := hD
  have er_1 : r_1 = -1 := k_2
  subst er_1
  refine lv_aload_n hx hb dL_law_1134 rfl (lv_at hl 2 rfl) ?_
  refine fI (wr := [(tp, .inr (8, [.ref bt, .int 0, .int 0, .int 0, .int 0, .int 0, .int 0, .int 0, .int 0])), (bt, .inl (cy 0, 800, .inl ((fun _ => 0)))), (td, .inr (7, [.ref tg, .int 0, .int 0, .int 0, .int 0, .ref t0, .int 0, .ref t1, .ref t2, .ref t3, .ref t4, .int 0, .ref t5, .ref t6, .ref t7])), (dr, .inr (7, [.ref dg, .int 0, .int 0, .int 0, .int 0, .ref d0, .int 0, .ref d1, .ref d2, .ref d3, .ref d4, .int 0, .ref d5, .ref d6, .ref d7])), (dg, .inr (4, [.int 0, .int 0, .int 0, .ref dq])), (gu, .inr (5, [.ref u0, .ref u1, .int 0])), (b0, .inl (cy 0, 800, .inl ((fun _ => 0)))), (ob, .inl (cy 2, 1, .inr (.inl ((fun _ => 0)))))]) (rV_I (wc := [(mm, .inr (12, [.int 0, .int 0, .int (-1), .null, .null, .ref b0, .int 0, .int 0, .int 0, .int 0, .int 0, .int 0, .int 0, .int 0, .int 0, .long 0, .ref b1, .ref b2, .ref b3, .ref b4, .int 0, .int 0, .ref b5, .ref b6, .ref b7, .int 0, .ref b8, .int 0, .int 0, .int 0, .int 0]))]) (As := []) (rest := [.int (-1)]) X (tX13_likeliest l dC dI cy mm 0 0 (-1) .null (.ref b0) 0 0 0 0 0 0 0 0 0 0 (.ref b1) (.ref b2) (.ref b3) (.ref b4) 0 0 (.ref b5) (.ref b6) (.ref b7) 0 (.ref b8) 0 0 0 0) kX13_likeliest vX13_likeliest mL_143 hP hD [6] (by decide) rfl 0 (ci := 12) rfl rfl rfl hl rfl rfl (Nat.le_of_ble_eq_true rfl) dL_law_1135 ⟨Nat.le_of_ble_eq_true rfl, Nat.le_of_ble_eq_true rfl⟩ ⟨Nat.le_of_ble_eq_true rfl, Nat.le_of_ble_eq_true rfl⟩) hP hD hS hA [6] [0, 1, 2, 3, 4, 5, 7, 8] rfl rfl (by decide) (by decide) (fun r_4 u_6 H locs k_5 hP hD hS => ?_)
  have hP : va_P (dC, dI) vwCl [(tp, .inr (8, [.ref bt, .int 0, .int 0, .int 0, .int 0, .int 0, .int 0, .int 0, .int 0])), (bt, .inl (cy 0, 800, .inl ((fun _ => 0)))), (td, .inr (7, [.ref tg, .int 0, .int 0, .int 0, .int 0, .ref t0, .int 0, .ref t1, .ref t2, .ref t3, .ref t4, .int 0, .ref t5, .ref t6, .ref t7])), (dr, .inr (7, [.ref dg, .int 0, .int 0, .int 0, .int 0, .ref d0, .int 0, .ref d1, .ref d2, .ref d3, .ref d4, .int 0, .ref d5, .ref d6, .ref d7])), (dg, .inr (4, [.int 0, .int 0, .int 0, .ref dq])), (gu, .inr (5, [.ref u0, .ref u1, .int 0])), (b0, .inl (cy 0, 800, .inl ((fun _ => 0)))), (ob, .inl (cy 2, 1, .inr (.inl ((fun _ => 0)))))] H := hP
  have hD : va_D (fun q : Nat => s.heap.size ≤ q) [(tp, .inr (8, [.ref bt, .int 0, .int 0, .int 0, .int 0, .int 0, .int 0, .int 0, .int 0])), (bt, .inl (cy 0, 800, .inl ((fun _ => 0)))), (td, .inr (7, [.ref tg, .int 0, .int 0, .int 0, .int 0, .ref t0, .int 0, .ref t1, .ref t2, .ref t3, .ref t4, .int 0, .ref t5, .ref t6, .ref t7])), (dr, .inr (7, [.ref dg, .int 0, .int 0, .int 0, .int 0, .ref d0, .int 0, .ref d1, .ref d2, .ref d3, .ref d4, .int 0, .ref d5, .ref d6, .ref d7])), (dg, .inr (4, [.int 0, .int 0, .int 0, .ref dq])), (gu, .inr (5, [.ref u0, .ref u1, .int 0])), (b0, .inl (cy 0, 800, .inl ((fun _ => 0)))), (ob, .inl (cy 2, 1, .inr (.inl ((fun _ => 0)))))] := hD
  have er_4 : r_4 = -1 := k_5
  subst er_4
  refine lv_icmp_eq (tgt := 1956) hx hb dL_law_1138 (by decide) (fun _ => ?_) (fun h_7 => absurd (by decide) h_7)
  exact law_end hl9 C0 X hZ (Nat.le_of_ble_eq_true rfl) (Nat.le_of_ble_eq_true rfl) hS (lv_sub hl [0, 4] rfl)
set_option maxHeartbeats 4000000 in
set_option maxRecDepth 100000 in
theorem law_c30 (hl9 : l.stackTraces = false) (C0 : lw_At p s m meth c b 6 xs) (X : fx p s m c code 7 #[Value.ref b] RL dC dI cy) (hZ : zx (fun q : Nat => s.heap.size ≤ q) s s.heap) (xx tp bt nw gr gs n1 n2 n3 tr kp im wy ow fl cs ds gu u0 u1 fc td tg t0 t1 t2 t3 t4 t5 t6 t7 dr dg dq d0 d1 d2 d3 d4 d5 d6 d7 mm b0 b1 b2 b3 b4 b5 b6 b7 b8 ob : Nat) (hP : va_P (dC, dI) vwCl [(xx, .inr (10, [.ref tp, .ref nw, .ref tr, .ref kp, .ref im, .ref wy, .ref ow, .ref fl, .ref cs, .ref ds, .ref gu, .ref fc, .ref td, .ref dr, .int 0, .int 0, .int 0])), (tp, .inr (8, [.ref bt, .int 0, .int 0, .int 0, .int 0, .int 0, .int 0, .int 0, .int 0])), (bt, .inl (cy 0, 800, .inl ((fun _ => 0)))), (nw, .inr (6, [.ref gr, .ref n1, .ref n2, .ref n3, .int 0])), (gr, .inr (4, [.int 0, .int 0, .int 0, .ref gs])), (td, .inr (7, [.ref tg, .int 0, .int 0, .int 0, .int 0, .ref t0, .int 0, .ref t1, .ref t2, .ref t3, .ref t4, .int 0, .ref t5, .ref t6, .ref t7])), (dr, .inr (7, [.ref dg, .int 0, .int 0, .int 0, .int 0, .ref d0, .int 0, .ref d1, .ref d2, .ref d3, .ref d4, .int 0, .ref d5, .ref d6, .ref d7])), (dg, .inr (4, [.int 0, .int 0, .int 0, .ref dq])), (gu, .inr (5, [.ref u0, .ref u1, .int 0])), (mm, .inr (12, [.int 0, .int 0, .int (-1), .null, .null, .ref b0, .int 0, .int 0, .int 0, .int 0, .int 0, .int 0, .int 0, .int 0, .int 0, .long 0, .ref b1, .ref b2, .ref b3, .ref b4, .int 0, .int 0, .ref b5, .ref b6, .ref b7, .int 0, .ref b8, .int 0, .int 0, .int 0, .int 0])), (b0, .inl (cy 0, 800, .inl ((fun _ => 0)))), (ob, .inl (cy 2, 1, .inr (.inl ((fun _ => 0)))))] H) (hD : va_D (fun q : Nat => s.heap.size ≤ q) [(xx, .inr (10, [.ref tp, .ref nw, .ref tr, .ref kp, .ref im, .ref wy, .ref ow, .ref fl, .ref cs, .ref ds, .ref gu, .ref fc, .ref td, .ref dr, .int 0, .int 0, .int 0])), (tp, .inr (8, [.ref bt, .int 0, .int 0, .int 0, .int 0, .int 0, .int 0, .int 0, .int 0])), (bt, .inl (cy 0, 800, .inl ((fun _ => 0)))), (nw, .inr (6, [.ref gr, .ref n1, .ref n2, .ref n3, .int 0])), (gr, .inr (4, [.int 0, .int 0, .int 0, .ref gs])), (td, .inr (7, [.ref tg, .int 0, .int 0, .int 0, .int 0, .ref t0, .int 0, .ref t1, .ref t2, .ref t3, .ref t4, .int 0, .ref t5, .ref t6, .ref t7])), (dr, .inr (7, [.ref dg, .int 0, .int 0, .int 0, .int 0, .ref d0, .int 0, .ref d1, .ref d2, .ref d3, .ref d4, .int 0, .ref d5, .ref d6, .ref d7])), (dg, .inr (4, [.int 0, .int 0, .int 0, .ref dq])), (gu, .inr (5, [.ref u0, .ref u1, .int 0])), (mm, .inr (12, [.int 0, .int 0, .int (-1), .null, .null, .ref b0, .int 0, .int 0, .int 0, .int 0, .int 0, .int 0, .int 0, .int 0, .int 0, .long 0, .ref b1, .ref b2, .ref b3, .ref b4, .int 0, .int 0, .ref b5, .ref b6, .ref b7, .int 0, .ref b8, .int 0, .int 0, .int 0, .int 0])), (b0, .inl (cy 0, 800, .inl ((fun _ => 0)))), (ob, .inl (cy 2, 1, .inr (.inl ((fun _ => 0)))))]) (hS : va_S (fun q : Nat => s.heap.size ≤ q) s.heap H locs) (hl : lv_has ls 7 [(4, .int 0), (3, .ref ob), (2, .ref mm), (1, .ref xx), (0, .ref b)]) : W p l e room_1 s m #[Value.ref b] below meth c H locs 211 4770 (lw_Z below #[Value.ref b] s) (F0 m 1143 ls []) := by
  have C0' := C0
  obtain ⟨-, -, hr, -, -, -, hX, hbl, hlocks, -⟩ := C0'
  have hx := X.1
  have hb := X.2.1
  have hK := X.2.2.2.2.2.1
  have hA : ∀ q : Nat, s.heap.size ≤ q → (fun q : Nat => s.heap.size ≤ q) q := fun _ h => h
  have hbA : ¬ (fun q : Nat => s.heap.size ≤ q) b := Nat.not_le.mpr hbl
  refine lv_aload_n hx hb dL_law_1143 rfl (lv_at hl 3 rfl) ?_
  refine fI (wr := [(tp, .inr (8, [.ref bt, .int 0, .int 0, .int 0, .int 0, .int 0, .int 0, .int 0, .int 0])), (bt, .inl (cy 0, 800, .inl ((fun _ => 0)))), (td, .inr (7, [.ref tg, .int 0, .int 0, .int 0, .int 0, .ref t0, .int 0, .ref t1, .ref t2, .ref t3, .ref t4, .int 0, .ref t5, .ref t6, .ref t7])), (dr, .inr (7, [.ref dg, .int 0, .int 0, .int 0, .int 0, .ref d0, .int 0, .ref d1, .ref d2, .ref d3, .ref d4, .int 0, .ref d5, .ref d6, .ref d7])), (dg, .inr (4, [.int 0, .int 0, .int 0, .ref dq])), (gu, .inr (5, [.ref u0, .ref u1, .int 0])), (mm, .inr (12, [.int 0, .int 0, .int (-1), .null, .null, .ref b0, .int 0, .int 0, .int 0, .int 0, .int 0, .int 0, .int 0, .int 0, .int 0, .long 0, .ref b1, .ref b2, .ref b3, .ref b4, .int 0, .int 0, .ref b5, .ref b6, .ref b7, .int 0, .ref b8, .int 0, .int 0, .int 0, .int 0])), (b0, .inl (cy 0, 800, .inl ((fun _ => 0)))), (ob, .inl (cy 2, 1, .inr (.inl ((fun _ => 0)))))]) (rV_I (wc := [(xx, .inr (10, [.ref tp, .ref nw, .ref tr, .ref kp, .ref im, .ref wy, .ref ow, .ref fl, .ref cs, .ref ds, .ref gu, .ref fc, .ref td, .ref dr, .int 0, .int 0, .int 0])), (nw, .inr (6, [.ref gr, .ref n1, .ref n2, .ref n3, .int 0])), (gr, .inr (4, [.int 0, .int 0, .int 0, .ref gs]))]) (As := []) (rest := []) X (tX11_tread l dC dI cy xx (.ref tp) nw (.ref tr) (.ref kp) (.ref im) (.ref wy) (.ref ow) (.ref fl) (.ref cs) (.ref ds) (.ref gu) (.ref fc) (.ref td) (.ref dr) (.int 0) (.int 0) (.int 0) gr gs n1 n2 n3) kX11_tread vX11_tread mL_144 hP hD [0, 3, 4] (by decide) rfl 0 (ci := 10) rfl rfl rfl hl rfl rfl (Nat.le_of_ble_eq_true rfl) dL_law_1144 ⟨Nat.le_of_ble_eq_true rfl, Nat.le_of_ble_eq_true rfl⟩ ⟨Nat.le_of_ble_eq_true rfl, Nat.le_of_ble_eq_true rfl⟩) hP hD hS hA [0, 3, 4] [1, 2, 5, 6, 7, 8, 9, 10, 11] rfl rfl (by decide) (by decide) (fun r_1 u_3 H locs k_2 hP hD hS => ?_)
  have hP : va_P (dC, dI) vwCl [(tp, .inr (8, [.ref bt, .int 0, .int 0, .int 0, .int 0, .int 0, .int 0, .int 0, .int 0])), (bt, .inl (cy 0, 800, .inl ((fun _ => 0)))), (td, .inr (7, [.ref tg, .int 0, .int 0, .int 0, .int 0, .ref t0, .int 0, .ref t1, .ref t2, .ref t3, .ref t4, .int 0, .ref t5, .ref t6, .ref t7])), (dr, .inr (7, [.ref dg, .int 0, .int 0, .int 0, .int 0, .ref d0, .int 0, .ref d1, .ref d2, .ref d3, .ref d4, .int 0, .ref d5, .ref d6, .ref d7])), (dg, .inr (4, [.int 0, .int 0, .int 0, .ref dq])), (gu, .inr (5, [.ref u0, .ref u1, .int 0])), (mm, .inr (12, [.int 0, .int 0, .int (-1), .null, .null, .ref b0, .int 0, .int 0, .int 0, .int 0, .int 0, .int 0, .int 0, .int 0, .int 0, .long 0, .ref b1, .ref b2, .ref b3, .ref b4, .int 0, .int 0, .ref b5, .ref b6, .ref b7, .int 0, .ref b8, .int 0, .int 0, .int 0, .int 0])), (b0, .inl (cy 0, 800, .inl ((fun _ => 0)))), (ob, .inl (cy 2, 1, .inr (.inl ((fun _ => 0)))))] H := hP
  have hD : va_D (fun q : Nat => s.heap.size ≤ q) [(tp, .inr (8, [.ref bt, .int 0, .int 0, .int 0, .int 0, .int 0, .int 0, .int 0, .int 0])), (bt, .inl (cy 0, 800, .inl ((fun _ => 0)))), (td, .inr (7, [.ref tg, .int 0, .int 0, .int 0, .int 0, .ref t0, .int 0, .ref t1, .ref t2, .ref t3, .ref t4, .int 0, .ref t5, .ref t6, .ref t7])), (dr, .inr (7, [.ref dg, .int 0, .int 0, .int 0, .int 0, .ref d0, .int 0, .ref d1, .ref d2, .ref d3, .ref d4, .int 0, .ref d5, .ref d6, .ref d7])), (dg, .inr (4, [.int 0, .int 0, .int 0, .ref dq])), (gu, .inr (5, [.ref u0, .ref u1, .int 0])), (mm, .inr (12, [.int 0, .int 0, .int (-1), .null, .null, .ref b0, .int 0, .int 0, .int 0, .int 0, .int 0, .int 0, .int 0, .int 0, .int 0, .long 0, .ref b1, .ref b2, .ref b3, .ref b4, .int 0, .int 0, .ref b5, .ref b6, .ref b7, .int 0, .ref b8, .int 0, .int 0, .int 0, .int 0])), (b0, .inl (cy 0, 800, .inl ((fun _ => 0)))), (ob, .inl (cy 2, 1, .inr (.inl ((fun _ => 0)))))] := hD
  have er_1 : r_1 = -1 := k_2
  subst er_1
  refine lv_aload_n hx hb dL_law_1147 rfl (lv_at hl 2 rfl) ?_
  refine fI (wr := [(tp, .inr (8, [.ref bt, .int 0, .int 0, .int 0, .int 0, .int 0, .int 0, .int 0, .int 0])), (bt, .inl (cy 0, 800, .inl ((fun _ => 0)))), (td, .inr (7, [.ref tg, .int 0, .int 0, .int 0, .int 0, .ref t0, .int 0, .ref t1, .ref t2, .ref t3, .ref t4, .int 0, .ref t5, .ref t6, .ref t7])), (dr, .inr (7, [.ref dg, .int 0, .int 0, .int 0, .int 0, .ref d0, .int 0, .ref d1, .ref d2, .ref d3, .ref d4, .int 0, .ref d5, .ref d6, .ref d7])), (dg, .inr (4, [.int 0, .int 0, .int 0, .ref dq])), (gu, .inr (5, [.ref u0, .ref u1, .int 0])), (b0, .inl (cy 0, 800, .inl ((fun _ => 0)))), (ob, .inl (cy 2, 1, .inr (.inl ((fun _ => 0)))))]) (rV_I (wc := [(mm, .inr (12, [.int 0, .int 0, .int (-1), .null, .null, .ref b0, .int 0, .int 0, .int 0, .int 0, .int 0, .int 0, .int 0, .int 0, .int 0, .long 0, .ref b1, .ref b2, .ref b3, .ref b4, .int 0, .int 0, .ref b5, .ref b6, .ref b7, .int 0, .ref b8, .int 0, .int 0, .int 0, .int 0]))]) (As := []) (rest := [.int (-1)]) X (tX13_tread l dC dI cy mm 0 0 (-1) .null (.ref b0) 0 0 0 0 0 0 0 0 0 0 (.ref b1) (.ref b2) (.ref b3) (.ref b4) 0 0 (.ref b5) (.ref b6) (.ref b7) 0 (.ref b8) 0 0 0 0) kX13_tread vX13_tread mL_147 hP hD [6] (by decide) rfl 0 (ci := 12) rfl rfl rfl hl rfl rfl (Nat.le_of_ble_eq_true rfl) dL_law_1148 ⟨Nat.le_of_ble_eq_true rfl, Nat.le_of_ble_eq_true rfl⟩ ⟨Nat.le_of_ble_eq_true rfl, Nat.le_of_ble_eq_true rfl⟩) hP hD hS hA [6] [0, 1, 2, 3, 4, 5, 7, 8] rfl rfl (by decide) (by decide) (fun r_4 u_6 H locs k_5 hP hD hS => ?_)
  have hP : va_P (dC, dI) vwCl [(tp, .inr (8, [.ref bt, .int 0, .int 0, .int 0, .int 0, .int 0, .int 0, .int 0, .int 0])), (bt, .inl (cy 0, 800, .inl ((fun _ => 0)))), (td, .inr (7, [.ref tg, .int 0, .int 0, .int 0, .int 0, .ref t0, .int 0, .ref t1, .ref t2, .ref t3, .ref t4, .int 0, .ref t5, .ref t6, .ref t7])), (dr, .inr (7, [.ref dg, .int 0, .int 0, .int 0, .int 0, .ref d0, .int 0, .ref d1, .ref d2, .ref d3, .ref d4, .int 0, .ref d5, .ref d6, .ref d7])), (dg, .inr (4, [.int 0, .int 0, .int 0, .ref dq])), (gu, .inr (5, [.ref u0, .ref u1, .int 0])), (b0, .inl (cy 0, 800, .inl ((fun _ => 0)))), (ob, .inl (cy 2, 1, .inr (.inl ((fun _ => 0)))))] H := hP
  have hD : va_D (fun q : Nat => s.heap.size ≤ q) [(tp, .inr (8, [.ref bt, .int 0, .int 0, .int 0, .int 0, .int 0, .int 0, .int 0, .int 0])), (bt, .inl (cy 0, 800, .inl ((fun _ => 0)))), (td, .inr (7, [.ref tg, .int 0, .int 0, .int 0, .int 0, .ref t0, .int 0, .ref t1, .ref t2, .ref t3, .ref t4, .int 0, .ref t5, .ref t6, .ref t7])), (dr, .inr (7, [.ref dg, .int 0, .int 0, .int 0, .int 0, .ref d0, .int 0, .ref d1, .ref d2, .ref d3, .ref d4, .int 0, .ref d5, .ref d6, .ref d7])), (dg, .inr (4, [.int 0, .int 0, .int 0, .ref dq])), (gu, .inr (5, [.ref u0, .ref u1, .int 0])), (b0, .inl (cy 0, 800, .inl ((fun _ => 0)))), (ob, .inl (cy 2, 1, .inr (.inl ((fun _ => 0)))))] := hD
  have er_4 : r_4 = -1 := k_5
  subst er_4
  refine lv_icmp_eq (tgt := 1956) hx hb dL_law_1151 (by decide) (fun _ => ?_) (fun h_7 => absurd (by decide) h_7)
  exact law_end hl9 C0 X hZ (Nat.le_of_ble_eq_true rfl) (Nat.le_of_ble_eq_true rfl) hS (lv_sub hl [0, 4] rfl)
set_option maxHeartbeats 4000000 in
set_option maxRecDepth 100000 in
theorem law_c31 (hl9 : l.stackTraces = false) (C0 : lw_At p s m meth c b 6 xs) (X : fx p s m c code 7 #[Value.ref b] RL dC dI cy) (hZ : zx (fun q : Nat => s.heap.size ≤ q) s s.heap) (xx tp bt nw gr gs n1 n2 n3 tr kp im wy ow fl cs ds gu u0 u1 fc td tg t0 t1 t2 t3 t4 t5 t6 t7 dr dg dq d0 d1 d2 d3 d4 d5 d6 d7 mm b0 b1 b2 b3 b4 b5 b6 b7 b8 ob : Nat) (hP : va_P (dC, dI) vwCl [(xx, .inr (10, [.ref tp, .ref nw, .ref tr, .ref kp, .ref im, .ref wy, .ref ow, .ref fl, .ref cs, .ref ds, .ref gu, .ref fc, .ref td, .ref dr, .int 0, .int 0, .int 0])), (tp, .inr (8, [.ref bt, .int 0, .int 0, .int 0, .int 0, .int 0, .int 0, .int 0, .int 0])), (bt, .inl (cy 0, 800, .inl ((fun _ => 0)))), (nw, .inr (6, [.ref gr, .ref n1, .ref n2, .ref n3, .int 0])), (gr, .inr (4, [.int 0, .int 0, .int 0, .ref gs])), (td, .inr (7, [.ref tg, .int 0, .int 0, .int 0, .int 0, .ref t0, .int 0, .ref t1, .ref t2, .ref t3, .ref t4, .int 0, .ref t5, .ref t6, .ref t7])), (dr, .inr (7, [.ref dg, .int 0, .int 0, .int 0, .int 0, .ref d0, .int 0, .ref d1, .ref d2, .ref d3, .ref d4, .int 0, .ref d5, .ref d6, .ref d7])), (dg, .inr (4, [.int 0, .int 0, .int 0, .ref dq])), (gu, .inr (5, [.ref u0, .ref u1, .int 0])), (mm, .inr (12, [.int 0, .int 0, .int (-1), .null, .null, .ref b0, .int 0, .int 0, .int 0, .int 0, .int 0, .int 0, .int 0, .int 0, .int 0, .long 0, .ref b1, .ref b2, .ref b3, .ref b4, .int 0, .int 0, .ref b5, .ref b6, .ref b7, .int 0, .ref b8, .int 0, .int 0, .int 0, .int 0])), (b0, .inl (cy 0, 800, .inl ((fun _ => 0)))), (ob, .inl (cy 2, 1, .inr (.inl ((fun _ => 0)))))] H) (hD : va_D (fun q : Nat => s.heap.size ≤ q) [(xx, .inr (10, [.ref tp, .ref nw, .ref tr, .ref kp, .ref im, .ref wy, .ref ow, .ref fl, .ref cs, .ref ds, .ref gu, .ref fc, .ref td, .ref dr, .int 0, .int 0, .int 0])), (tp, .inr (8, [.ref bt, .int 0, .int 0, .int 0, .int 0, .int 0, .int 0, .int 0, .int 0])), (bt, .inl (cy 0, 800, .inl ((fun _ => 0)))), (nw, .inr (6, [.ref gr, .ref n1, .ref n2, .ref n3, .int 0])), (gr, .inr (4, [.int 0, .int 0, .int 0, .ref gs])), (td, .inr (7, [.ref tg, .int 0, .int 0, .int 0, .int 0, .ref t0, .int 0, .ref t1, .ref t2, .ref t3, .ref t4, .int 0, .ref t5, .ref t6, .ref t7])), (dr, .inr (7, [.ref dg, .int 0, .int 0, .int 0, .int 0, .ref d0, .int 0, .ref d1, .ref d2, .ref d3, .ref d4, .int 0, .ref d5, .ref d6, .ref d7])), (dg, .inr (4, [.int 0, .int 0, .int 0, .ref dq])), (gu, .inr (5, [.ref u0, .ref u1, .int 0])), (mm, .inr (12, [.int 0, .int 0, .int (-1), .null, .null, .ref b0, .int 0, .int 0, .int 0, .int 0, .int 0, .int 0, .int 0, .int 0, .int 0, .long 0, .ref b1, .ref b2, .ref b3, .ref b4, .int 0, .int 0, .ref b5, .ref b6, .ref b7, .int 0, .ref b8, .int 0, .int 0, .int 0, .int 0])), (b0, .inl (cy 0, 800, .inl ((fun _ => 0)))), (ob, .inl (cy 2, 1, .inr (.inl ((fun _ => 0)))))]) (hS : va_S (fun q : Nat => s.heap.size ≤ q) s.heap H locs) (hl : lv_has ls 7 [(4, .int 0), (3, .ref ob), (2, .ref mm), (1, .ref xx), (0, .ref b)]) : W p l e room_1 s m #[Value.ref b] below meth c H locs 211 4770 (lw_Z below #[Value.ref b] s) (F0 m 1156 ls []) := by
  have C0' := C0
  obtain ⟨-, -, hr, -, -, -, hX, hbl, hlocks, -⟩ := C0'
  have hx := X.1
  have hb := X.2.1
  have hK := X.2.2.2.2.2.1
  have hA : ∀ q : Nat, s.heap.size ≤ q → (fun q : Nat => s.heap.size ≤ q) q := fun _ h => h
  have hbA : ¬ (fun q : Nat => s.heap.size ≤ q) b := Nat.not_le.mpr hbl
  refine lv_aload_n hx hb dL_law_1156 rfl (lv_at hl 3 rfl) ?_
  refine fI (wr := [(tp, .inr (8, [.ref bt, .int 0, .int 0, .int 0, .int 0, .int 0, .int 0, .int 0, .int 0])), (bt, .inl (cy 0, 800, .inl ((fun _ => 0)))), (td, .inr (7, [.ref tg, .int 0, .int 0, .int 0, .int 0, .ref t0, .int 0, .ref t1, .ref t2, .ref t3, .ref t4, .int 0, .ref t5, .ref t6, .ref t7])), (dr, .inr (7, [.ref dg, .int 0, .int 0, .int 0, .int 0, .ref d0, .int 0, .ref d1, .ref d2, .ref d3, .ref d4, .int 0, .ref d5, .ref d6, .ref d7])), (dg, .inr (4, [.int 0, .int 0, .int 0, .ref dq])), (gu, .inr (5, [.ref u0, .ref u1, .int 0])), (mm, .inr (12, [.int 0, .int 0, .int (-1), .null, .null, .ref b0, .int 0, .int 0, .int 0, .int 0, .int 0, .int 0, .int 0, .int 0, .int 0, .long 0, .ref b1, .ref b2, .ref b3, .ref b4, .int 0, .int 0, .ref b5, .ref b6, .ref b7, .int 0, .ref b8, .int 0, .int 0, .int 0, .int 0])), (b0, .inl (cy 0, 800, .inl ((fun _ => 0)))), (ob, .inl (cy 2, 1, .inr (.inl ((fun _ => 0)))))]) (rV_I (wc := [(xx, .inr (10, [.ref tp, .ref nw, .ref tr, .ref kp, .ref im, .ref wy, .ref ow, .ref fl, .ref cs, .ref ds, .ref gu, .ref fc, .ref td, .ref dr, .int 0, .int 0, .int 0])), (nw, .inr (6, [.ref gr, .ref n1, .ref n2, .ref n3, .int 0])), (gr, .inr (4, [.int 0, .int 0, .int 0, .ref gs]))]) (As := []) (rest := []) X (tX11_treadLeaves l dC dI cy xx (.ref tp) nw (.ref tr) (.ref kp) (.ref im) (.ref wy) (.ref ow) (.ref fl) (.ref cs) (.ref ds) (.ref gu) (.ref fc) (.ref td) (.ref dr) (.int 0) (.int 0) (.int 0) gr gs n1 n2 n3) kX11_treadLeaves vX11_treadLeaves mL_148 hP hD [0, 3, 4] (by decide) rfl 0 (ci := 10) rfl rfl rfl hl rfl rfl (Nat.le_of_ble_eq_true rfl) dL_law_1157 ⟨Nat.le_of_ble_eq_true rfl, Nat.le_of_ble_eq_true rfl⟩ ⟨Nat.le_of_ble_eq_true rfl, Nat.le_of_ble_eq_true rfl⟩) hP hD hS hA [0, 3, 4] [1, 2, 5, 6, 7, 8, 9, 10, 11] rfl rfl (by decide) (by decide) (fun r_1 u_3 H locs k_2 hP hD hS => ?_)
  have hP : va_P (dC, dI) vwCl [(tp, .inr (8, [.ref bt, .int 0, .int 0, .int 0, .int 0, .int 0, .int 0, .int 0, .int 0])), (bt, .inl (cy 0, 800, .inl ((fun _ => 0)))), (td, .inr (7, [.ref tg, .int 0, .int 0, .int 0, .int 0, .ref t0, .int 0, .ref t1, .ref t2, .ref t3, .ref t4, .int 0, .ref t5, .ref t6, .ref t7])), (dr, .inr (7, [.ref dg, .int 0, .int 0, .int 0, .int 0, .ref d0, .int 0, .ref d1, .ref d2, .ref d3, .ref d4, .int 0, .ref d5, .ref d6, .ref d7])), (dg, .inr (4, [.int 0, .int 0, .int 0, .ref dq])), (gu, .inr (5, [.ref u0, .ref u1, .int 0])), (mm, .inr (12, [.int 0, .int 0, .int (-1), .null, .null, .ref b0, .int 0, .int 0, .int 0, .int 0, .int 0, .int 0, .int 0, .int 0, .int 0, .long 0, .ref b1, .ref b2, .ref b3, .ref b4, .int 0, .int 0, .ref b5, .ref b6, .ref b7, .int 0, .ref b8, .int 0, .int 0, .int 0, .int 0])), (b0, .inl (cy 0, 800, .inl ((fun _ => 0)))), (ob, .inl (cy 2, 1, .inr (.inl ((fun _ => 0)))))] H := hP
  have hD : va_D (fun q : Nat => s.heap.size ≤ q) [(tp, .inr (8, [.ref bt, .int 0, .int 0, .int 0, .int 0, .int 0, .int 0, .int 0, .int 0])), (bt, .inl (cy 0, 800, .inl ((fun _ => 0)))), (td, .inr (7, [.ref tg, .int 0, .int 0, .int 0, .int 0, .ref t0, .int 0, .ref t1, .ref t2, .ref t3, .ref t4, .int 0, .ref t5, .ref t6, .ref t7])), (dr, .inr (7, [.ref dg, .int 0, .int 0, .int 0, .int 0, .ref d0, .int 0, .ref d1, .ref d2, .ref d3, .ref d4, .int 0, .ref d5, .ref d6, .ref d7])), (dg, .inr (4, [.int 0, .int 0, .int 0, .ref dq])), (gu, .inr (5, [.ref u0, .ref u1, .int 0])), (mm, .inr (12, [.int 0, .int 0, .int (-1), .null, .null, .ref b0, .int 0, .int 0, .int 0, .int 0, .int 0, .int 0, .int 0, .int 0, .int 0, .long 0, .ref b1, .ref b2, .ref b3, .ref b4, .int 0, .int 0, .ref b5, .ref b6, .ref b7, .int 0, .ref b8, .int 0, .int 0, .int 0, .int 0])), (b0, .inl (cy 0, 800, .inl ((fun _ => 0)))), (ob, .inl (cy 2, 1, .inr (.inl ((fun _ => 0)))))] := hD
  have er_1 : r_1 = -1 := k_2
  subst er_1
  refine lv_aload_n hx hb dL_law_1160 rfl (lv_at hl 2 rfl) ?_
  refine fI (wr := [(tp, .inr (8, [.ref bt, .int 0, .int 0, .int 0, .int 0, .int 0, .int 0, .int 0, .int 0])), (bt, .inl (cy 0, 800, .inl ((fun _ => 0)))), (td, .inr (7, [.ref tg, .int 0, .int 0, .int 0, .int 0, .ref t0, .int 0, .ref t1, .ref t2, .ref t3, .ref t4, .int 0, .ref t5, .ref t6, .ref t7])), (dr, .inr (7, [.ref dg, .int 0, .int 0, .int 0, .int 0, .ref d0, .int 0, .ref d1, .ref d2, .ref d3, .ref d4, .int 0, .ref d5, .ref d6, .ref d7])), (dg, .inr (4, [.int 0, .int 0, .int 0, .ref dq])), (gu, .inr (5, [.ref u0, .ref u1, .int 0])), (b0, .inl (cy 0, 800, .inl ((fun _ => 0)))), (ob, .inl (cy 2, 1, .inr (.inl ((fun _ => 0)))))]) (rV_I (wc := [(mm, .inr (12, [.int 0, .int 0, .int (-1), .null, .null, .ref b0, .int 0, .int 0, .int 0, .int 0, .int 0, .int 0, .int 0, .int 0, .int 0, .long 0, .ref b1, .ref b2, .ref b3, .ref b4, .int 0, .int 0, .ref b5, .ref b6, .ref b7, .int 0, .ref b8, .int 0, .int 0, .int 0, .int 0]))]) (As := []) (rest := [.int (-1)]) X (tX13_treadLeaves l dC dI cy mm 0 0 (-1) .null (.ref b0) 0 0 0 0 0 0 0 0 0 0 (.ref b1) (.ref b2) (.ref b3) (.ref b4) 0 0 (.ref b5) (.ref b6) (.ref b7) 0 (.ref b8) 0 0 0 0) kX13_treadLeaves vX13_treadLeaves mL_151 hP hD [6] (by decide) rfl 0 (ci := 12) rfl rfl rfl hl rfl rfl (Nat.le_of_ble_eq_true rfl) dL_law_1161 ⟨Nat.le_of_ble_eq_true rfl, Nat.le_of_ble_eq_true rfl⟩ ⟨Nat.le_of_ble_eq_true rfl, Nat.le_of_ble_eq_true rfl⟩) hP hD hS hA [6] [0, 1, 2, 3, 4, 5, 7, 8] rfl rfl (by decide) (by decide) (fun r_4 u_6 H locs k_5 hP hD hS => ?_)
  have hP : va_P (dC, dI) vwCl [(tp, .inr (8, [.ref bt, .int 0, .int 0, .int 0, .int 0, .int 0, .int 0, .int 0, .int 0])), (bt, .inl (cy 0, 800, .inl ((fun _ => 0)))), (td, .inr (7, [.ref tg, .int 0, .int 0, .int 0, .int 0, .ref t0, .int 0, .ref t1, .ref t2, .ref t3, .ref t4, .int 0, .ref t5, .ref t6, .ref t7])), (dr, .inr (7, [.ref dg, .int 0, .int 0, .int 0, .int 0, .ref d0, .int 0, .ref d1, .ref d2, .ref d3, .ref d4, .int 0, .ref d5, .ref d6, .ref d7])), (dg, .inr (4, [.int 0, .int 0, .int 0, .ref dq])), (gu, .inr (5, [.ref u0, .ref u1, .int 0])), (b0, .inl (cy 0, 800, .inl ((fun _ => 0)))), (ob, .inl (cy 2, 1, .inr (.inl ((fun _ => 0)))))] H := hP
  have hD : va_D (fun q : Nat => s.heap.size ≤ q) [(tp, .inr (8, [.ref bt, .int 0, .int 0, .int 0, .int 0, .int 0, .int 0, .int 0, .int 0])), (bt, .inl (cy 0, 800, .inl ((fun _ => 0)))), (td, .inr (7, [.ref tg, .int 0, .int 0, .int 0, .int 0, .ref t0, .int 0, .ref t1, .ref t2, .ref t3, .ref t4, .int 0, .ref t5, .ref t6, .ref t7])), (dr, .inr (7, [.ref dg, .int 0, .int 0, .int 0, .int 0, .ref d0, .int 0, .ref d1, .ref d2, .ref d3, .ref d4, .int 0, .ref d5, .ref d6, .ref d7])), (dg, .inr (4, [.int 0, .int 0, .int 0, .ref dq])), (gu, .inr (5, [.ref u0, .ref u1, .int 0])), (b0, .inl (cy 0, 800, .inl ((fun _ => 0)))), (ob, .inl (cy 2, 1, .inr (.inl ((fun _ => 0)))))] := hD
  have er_4 : r_4 = -1 := k_5
  subst er_4
  refine lv_icmp_eq (tgt := 1956) hx hb dL_law_1164 (by decide) (fun _ => ?_) (fun h_7 => absurd (by decide) h_7)
  exact law_end hl9 C0 X hZ (Nat.le_of_ble_eq_true rfl) (Nat.le_of_ble_eq_true rfl) hS (lv_sub hl [0, 4] rfl)
set_option maxHeartbeats 4000000 in
set_option maxRecDepth 100000 in
theorem law_c32 (hl9 : l.stackTraces = false) (C0 : lw_At p s m meth c b 6 xs) (X : fx p s m c code 7 #[Value.ref b] RL dC dI cy) (hZ : zx (fun q : Nat => s.heap.size ≤ q) s s.heap) (xx tp bt nw gr gs n1 n2 n3 tr kp im wy ow fl cs ds gu u0 u1 fc td tg t0 t1 t2 t3 t4 t5 t6 t7 dr dg dq d0 d1 d2 d3 d4 d5 d6 d7 mm b0 b1 b2 b3 b4 b5 b6 b7 b8 ob : Nat) (hP : va_P (dC, dI) vwCl [(xx, .inr (10, [.ref tp, .ref nw, .ref tr, .ref kp, .ref im, .ref wy, .ref ow, .ref fl, .ref cs, .ref ds, .ref gu, .ref fc, .ref td, .ref dr, .int 0, .int 0, .int 0])), (tp, .inr (8, [.ref bt, .int 0, .int 0, .int 0, .int 0, .int 0, .int 0, .int 0, .int 0])), (bt, .inl (cy 0, 800, .inl ((fun _ => 0)))), (nw, .inr (6, [.ref gr, .ref n1, .ref n2, .ref n3, .int 0])), (gr, .inr (4, [.int 0, .int 0, .int 0, .ref gs])), (td, .inr (7, [.ref tg, .int 0, .int 0, .int 0, .int 0, .ref t0, .int 0, .ref t1, .ref t2, .ref t3, .ref t4, .int 0, .ref t5, .ref t6, .ref t7])), (dr, .inr (7, [.ref dg, .int 0, .int 0, .int 0, .int 0, .ref d0, .int 0, .ref d1, .ref d2, .ref d3, .ref d4, .int 0, .ref d5, .ref d6, .ref d7])), (dg, .inr (4, [.int 0, .int 0, .int 0, .ref dq])), (gu, .inr (5, [.ref u0, .ref u1, .int 0])), (mm, .inr (12, [.int 0, .int 0, .int (-1), .null, .null, .ref b0, .int 0, .int 0, .int 0, .int 0, .int 0, .int 0, .int 0, .int 0, .int 0, .long 0, .ref b1, .ref b2, .ref b3, .ref b4, .int 0, .int 0, .ref b5, .ref b6, .ref b7, .int 0, .ref b8, .int 0, .int 0, .int 0, .int 0])), (b0, .inl (cy 0, 800, .inl ((fun _ => 0)))), (ob, .inl (cy 2, 1, .inr (.inl ((fun _ => 0)))))] H) (hD : va_D (fun q : Nat => s.heap.size ≤ q) [(xx, .inr (10, [.ref tp, .ref nw, .ref tr, .ref kp, .ref im, .ref wy, .ref ow, .ref fl, .ref cs, .ref ds, .ref gu, .ref fc, .ref td, .ref dr, .int 0, .int 0, .int 0])), (tp, .inr (8, [.ref bt, .int 0, .int 0, .int 0, .int 0, .int 0, .int 0, .int 0, .int 0])), (bt, .inl (cy 0, 800, .inl ((fun _ => 0)))), (nw, .inr (6, [.ref gr, .ref n1, .ref n2, .ref n3, .int 0])), (gr, .inr (4, [.int 0, .int 0, .int 0, .ref gs])), (td, .inr (7, [.ref tg, .int 0, .int 0, .int 0, .int 0, .ref t0, .int 0, .ref t1, .ref t2, .ref t3, .ref t4, .int 0, .ref t5, .ref t6, .ref t7])), (dr, .inr (7, [.ref dg, .int 0, .int 0, .int 0, .int 0, .ref d0, .int 0, .ref d1, .ref d2, .ref d3, .ref d4, .int 0, .ref d5, .ref d6, .ref d7])), (dg, .inr (4, [.int 0, .int 0, .int 0, .ref dq])), (gu, .inr (5, [.ref u0, .ref u1, .int 0])), (mm, .inr (12, [.int 0, .int 0, .int (-1), .null, .null, .ref b0, .int 0, .int 0, .int 0, .int 0, .int 0, .int 0, .int 0, .int 0, .int 0, .long 0, .ref b1, .ref b2, .ref b3, .ref b4, .int 0, .int 0, .ref b5, .ref b6, .ref b7, .int 0, .ref b8, .int 0, .int 0, .int 0, .int 0])), (b0, .inl (cy 0, 800, .inl ((fun _ => 0)))), (ob, .inl (cy 2, 1, .inr (.inl ((fun _ => 0)))))]) (hS : va_S (fun q : Nat => s.heap.size ≤ q) s.heap H locs) (hl : lv_has ls 7 [(4, .int 0), (3, .ref ob), (2, .ref mm), (1, .ref xx), (0, .ref b)]) : W p l e room_1 s m #[Value.ref b] below meth c H locs 211 4770 (lw_Z below #[Value.ref b] s) (F0 m 1169 ls []) := by
  have C0' := C0
  obtain ⟨-, -, hr, -, -, -, hX, hbl, hlocks, -⟩ := C0'
  have hx := X.1
  have hb := X.2.1
  have hK := X.2.2.2.2.2.1
  have hA : ∀ q : Nat, s.heap.size ≤ q → (fun q : Nat => s.heap.size ≤ q) q := fun _ h => h
  have hbA : ¬ (fun q : Nat => s.heap.size ≤ q) b := Nat.not_le.mpr hbl
  refine lv_aload_n hx hb dL_law_1169 rfl (lv_at hl 3 rfl) ?_
  refine fI (wr := [(tp, .inr (8, [.ref bt, .int 0, .int 0, .int 0, .int 0, .int 0, .int 0, .int 0, .int 0])), (bt, .inl (cy 0, 800, .inl ((fun _ => 0)))), (td, .inr (7, [.ref tg, .int 0, .int 0, .int 0, .int 0, .ref t0, .int 0, .ref t1, .ref t2, .ref t3, .ref t4, .int 0, .ref t5, .ref t6, .ref t7])), (dr, .inr (7, [.ref dg, .int 0, .int 0, .int 0, .int 0, .ref d0, .int 0, .ref d1, .ref d2, .ref d3, .ref d4, .int 0, .ref d5, .ref d6, .ref d7])), (dg, .inr (4, [.int 0, .int 0, .int 0, .ref dq])), (gu, .inr (5, [.ref u0, .ref u1, .int 0])), (mm, .inr (12, [.int 0, .int 0, .int (-1), .null, .null, .ref b0, .int 0, .int 0, .int 0, .int 0, .int 0, .int 0, .int 0, .int 0, .int 0, .long 0, .ref b1, .ref b2, .ref b3, .ref b4, .int 0, .int 0, .ref b5, .ref b6, .ref b7, .int 0, .ref b8, .int 0, .int 0, .int 0, .int 0])), (b0, .inl (cy 0, 800, .inl ((fun _ => 0)))), (ob, .inl (cy 2, 1, .inr (.inl ((fun _ => 0)))))]) (rV_I (wc := [(xx, .inr (10, [.ref tp, .ref nw, .ref tr, .ref kp, .ref im, .ref wy, .ref ow, .ref fl, .ref cs, .ref ds, .ref gu, .ref fc, .ref td, .ref dr, .int 0, .int 0, .int 0])), (nw, .inr (6, [.ref gr, .ref n1, .ref n2, .ref n3, .int 0])), (gr, .inr (4, [.int 0, .int 0, .int 0, .ref gs]))]) (As := []) (rest := []) X (tX11_judge l dC dI cy xx (.ref tp) nw (.ref tr) (.ref kp) (.ref im) (.ref wy) (.ref ow) (.ref fl) (.ref cs) (.ref ds) (.ref gu) (.ref fc) (.ref td) (.ref dr) (.int 0) (.int 0) (.int 0) gr gs n1 n2 n3) kX11_judge vX11_judge mL_152 hP hD [0, 3, 4] (by decide) rfl 0 (ci := 10) rfl rfl rfl hl rfl rfl (Nat.le_of_ble_eq_true rfl) dL_law_1170 ⟨Nat.le_of_ble_eq_true rfl, Nat.le_of_ble_eq_true rfl⟩ ⟨Nat.le_of_ble_eq_true rfl, Nat.le_of_ble_eq_true rfl⟩) hP hD hS hA [0, 3, 4] [1, 2, 5, 6, 7, 8, 9, 10, 11] rfl rfl (by decide) (by decide) (fun r_1 u_3 H locs k_2 hP hD hS => ?_)
  have hP : va_P (dC, dI) vwCl [(tp, .inr (8, [.ref bt, .int 0, .int 0, .int 0, .int 0, .int 0, .int 0, .int 0, .int 0])), (bt, .inl (cy 0, 800, .inl ((fun _ => 0)))), (td, .inr (7, [.ref tg, .int 0, .int 0, .int 0, .int 0, .ref t0, .int 0, .ref t1, .ref t2, .ref t3, .ref t4, .int 0, .ref t5, .ref t6, .ref t7])), (dr, .inr (7, [.ref dg, .int 0, .int 0, .int 0, .int 0, .ref d0, .int 0, .ref d1, .ref d2, .ref d3, .ref d4, .int 0, .ref d5, .ref d6, .ref d7])), (dg, .inr (4, [.int 0, .int 0, .int 0, .ref dq])), (gu, .inr (5, [.ref u0, .ref u1, .int 0])), (mm, .inr (12, [.int 0, .int 0, .int (-1), .null, .null, .ref b0, .int 0, .int 0, .int 0, .int 0, .int 0, .int 0, .int 0, .int 0, .int 0, .long 0, .ref b1, .ref b2, .ref b3, .ref b4, .int 0, .int 0, .ref b5, .ref b6, .ref b7, .int 0, .ref b8, .int 0, .int 0, .int 0, .int 0])), (b0, .inl (cy 0, 800, .inl ((fun _ => 0)))), (ob, .inl (cy 2, 1, .inr (.inl ((fun _ => 0)))))] H := hP
  have hD : va_D (fun q : Nat => s.heap.size ≤ q) [(tp, .inr (8, [.ref bt, .int 0, .int 0, .int 0, .int 0, .int 0, .int 0, .int 0, .int 0])), (bt, .inl (cy 0, 800, .inl ((fun _ => 0)))), (td, .inr (7, [.ref tg, .int 0, .int 0, .int 0, .int 0, .ref t0, .int 0, .ref t1, .ref t2, .ref t3, .ref t4, .int 0, .ref t5, .ref t6, .ref t7])), (dr, .inr (7, [.ref dg, .int 0, .int 0, .int 0, .int 0, .ref d0, .int 0, .ref d1, .ref d2, .ref d3, .ref d4, .int 0, .ref d5, .ref d6, .ref d7])), (dg, .inr (4, [.int 0, .int 0, .int 0, .ref dq])), (gu, .inr (5, [.ref u0, .ref u1, .int 0])), (mm, .inr (12, [.int 0, .int 0, .int (-1), .null, .null, .ref b0, .int 0, .int 0, .int 0, .int 0, .int 0, .int 0, .int 0, .int 0, .int 0, .long 0, .ref b1, .ref b2, .ref b3, .ref b4, .int 0, .int 0, .ref b5, .ref b6, .ref b7, .int 0, .ref b8, .int 0, .int 0, .int 0, .int 0])), (b0, .inl (cy 0, 800, .inl ((fun _ => 0)))), (ob, .inl (cy 2, 1, .inr (.inl ((fun _ => 0)))))] := hD
  have er_1 : r_1 = -1 := k_2
  subst er_1
  refine lv_aload_n hx hb dL_law_1173 rfl (lv_at hl 2 rfl) ?_
  refine fI (wr := [(tp, .inr (8, [.ref bt, .int 0, .int 0, .int 0, .int 0, .int 0, .int 0, .int 0, .int 0])), (bt, .inl (cy 0, 800, .inl ((fun _ => 0)))), (td, .inr (7, [.ref tg, .int 0, .int 0, .int 0, .int 0, .ref t0, .int 0, .ref t1, .ref t2, .ref t3, .ref t4, .int 0, .ref t5, .ref t6, .ref t7])), (dr, .inr (7, [.ref dg, .int 0, .int 0, .int 0, .int 0, .ref d0, .int 0, .ref d1, .ref d2, .ref d3, .ref d4, .int 0, .ref d5, .ref d6, .ref d7])), (dg, .inr (4, [.int 0, .int 0, .int 0, .ref dq])), (gu, .inr (5, [.ref u0, .ref u1, .int 0])), (b0, .inl (cy 0, 800, .inl ((fun _ => 0)))), (ob, .inl (cy 2, 1, .inr (.inl ((fun _ => 0)))))]) (rV_I (wc := [(mm, .inr (12, [.int 0, .int 0, .int (-1), .null, .null, .ref b0, .int 0, .int 0, .int 0, .int 0, .int 0, .int 0, .int 0, .int 0, .int 0, .long 0, .ref b1, .ref b2, .ref b3, .ref b4, .int 0, .int 0, .ref b5, .ref b6, .ref b7, .int 0, .ref b8, .int 0, .int 0, .int 0, .int 0]))]) (As := []) (rest := [.int (-1)]) X (tX13_judge l dC dI cy mm 0 0 (-1) .null (.ref b0) 0 0 0 0 0 0 0 0 0 0 (.ref b1) (.ref b2) (.ref b3) (.ref b4) 0 0 (.ref b5) (.ref b6) (.ref b7) 0 (.ref b8) 0 0 0 0) kX13_judge vX13_judge mL_155 hP hD [6] (by decide) rfl 0 (ci := 12) rfl rfl rfl hl rfl rfl (Nat.le_of_ble_eq_true rfl) dL_law_1174 ⟨Nat.le_of_ble_eq_true rfl, Nat.le_of_ble_eq_true rfl⟩ ⟨Nat.le_of_ble_eq_true rfl, Nat.le_of_ble_eq_true rfl⟩) hP hD hS hA [6] [0, 1, 2, 3, 4, 5, 7, 8] rfl rfl (by decide) (by decide) (fun r_4 u_6 H locs k_5 hP hD hS => ?_)
  have hP : va_P (dC, dI) vwCl [(tp, .inr (8, [.ref bt, .int 0, .int 0, .int 0, .int 0, .int 0, .int 0, .int 0, .int 0])), (bt, .inl (cy 0, 800, .inl ((fun _ => 0)))), (td, .inr (7, [.ref tg, .int 0, .int 0, .int 0, .int 0, .ref t0, .int 0, .ref t1, .ref t2, .ref t3, .ref t4, .int 0, .ref t5, .ref t6, .ref t7])), (dr, .inr (7, [.ref dg, .int 0, .int 0, .int 0, .int 0, .ref d0, .int 0, .ref d1, .ref d2, .ref d3, .ref d4, .int 0, .ref d5, .ref d6, .ref d7])), (dg, .inr (4, [.int 0, .int 0, .int 0, .ref dq])), (gu, .inr (5, [.ref u0, .ref u1, .int 0])), (b0, .inl (cy 0, 800, .inl ((fun _ => 0)))), (ob, .inl (cy 2, 1, .inr (.inl ((fun _ => 0)))))] H := hP
  have hD : va_D (fun q : Nat => s.heap.size ≤ q) [(tp, .inr (8, [.ref bt, .int 0, .int 0, .int 0, .int 0, .int 0, .int 0, .int 0, .int 0])), (bt, .inl (cy 0, 800, .inl ((fun _ => 0)))), (td, .inr (7, [.ref tg, .int 0, .int 0, .int 0, .int 0, .ref t0, .int 0, .ref t1, .ref t2, .ref t3, .ref t4, .int 0, .ref t5, .ref t6, .ref t7])), (dr, .inr (7, [.ref dg, .int 0, .int 0, .int 0, .int 0, .ref d0, .int 0, .ref d1, .ref d2, .ref d3, .ref d4, .int 0, .ref d5, .ref d6, .ref d7])), (dg, .inr (4, [.int 0, .int 0, .int 0, .ref dq])), (gu, .inr (5, [.ref u0, .ref u1, .int 0])), (b0, .inl (cy 0, 800, .inl ((fun _ => 0)))), (ob, .inl (cy 2, 1, .inr (.inl ((fun _ => 0)))))] := hD
  have er_4 : r_4 = -1 := k_5
  subst er_4
  refine lv_icmp_eq (tgt := 1956) hx hb dL_law_1177 (by decide) (fun _ => ?_) (fun h_7 => absurd (by decide) h_7)
  exact law_end hl9 C0 X hZ (Nat.le_of_ble_eq_true rfl) (Nat.le_of_ble_eq_true rfl) hS (lv_sub hl [0, 4] rfl)
set_option maxHeartbeats 4000000 in
set_option maxRecDepth 100000 in
theorem law_c33 (hl9 : l.stackTraces = false) (C0 : lw_At p s m meth c b 6 xs) (X : fx p s m c code 7 #[Value.ref b] RL dC dI cy) (hZ : zx (fun q : Nat => s.heap.size ≤ q) s s.heap) (xx tp bt nw gr gs n1 n2 n3 tr kp im wy ow fl cs ds gu u0 u1 fc td tg t0 t1 t2 t3 t4 t5 t6 t7 dr dg dq d0 d1 d2 d3 d4 d5 d6 d7 mm b0 b1 b2 b3 b4 b5 b6 b7 b8 ob : Nat) (hP : va_P (dC, dI) vwCl [(xx, .inr (10, [.ref tp, .ref nw, .ref tr, .ref kp, .ref im, .ref wy, .ref ow, .ref fl, .ref cs, .ref ds, .ref gu, .ref fc, .ref td, .ref dr, .int 0, .int 0, .int 0])), (tp, .inr (8, [.ref bt, .int 0, .int 0, .int 0, .int 0, .int 0, .int 0, .int 0, .int 0])), (bt, .inl (cy 0, 800, .inl ((fun _ => 0)))), (nw, .inr (6, [.ref gr, .ref n1, .ref n2, .ref n3, .int 0])), (gr, .inr (4, [.int 0, .int 0, .int 0, .ref gs])), (td, .inr (7, [.ref tg, .int 0, .int 0, .int 0, .int 0, .ref t0, .int 0, .ref t1, .ref t2, .ref t3, .ref t4, .int 0, .ref t5, .ref t6, .ref t7])), (dr, .inr (7, [.ref dg, .int 0, .int 0, .int 0, .int 0, .ref d0, .int 0, .ref d1, .ref d2, .ref d3, .ref d4, .int 0, .ref d5, .ref d6, .ref d7])), (dg, .inr (4, [.int 0, .int 0, .int 0, .ref dq])), (gu, .inr (5, [.ref u0, .ref u1, .int 0])), (mm, .inr (12, [.int 0, .int 0, .int (-1), .null, .null, .ref b0, .int 0, .int 0, .int 0, .int 0, .int 0, .int 0, .int 0, .int 0, .int 0, .long 0, .ref b1, .ref b2, .ref b3, .ref b4, .int 0, .int 0, .ref b5, .ref b6, .ref b7, .int 0, .ref b8, .int 0, .int 0, .int 0, .int 0])), (b0, .inl (cy 0, 800, .inl ((fun _ => 0)))), (ob, .inl (cy 2, 1, .inr (.inl ((fun _ => 0)))))] H) (hD : va_D (fun q : Nat => s.heap.size ≤ q) [(xx, .inr (10, [.ref tp, .ref nw, .ref tr, .ref kp, .ref im, .ref wy, .ref ow, .ref fl, .ref cs, .ref ds, .ref gu, .ref fc, .ref td, .ref dr, .int 0, .int 0, .int 0])), (tp, .inr (8, [.ref bt, .int 0, .int 0, .int 0, .int 0, .int 0, .int 0, .int 0, .int 0])), (bt, .inl (cy 0, 800, .inl ((fun _ => 0)))), (nw, .inr (6, [.ref gr, .ref n1, .ref n2, .ref n3, .int 0])), (gr, .inr (4, [.int 0, .int 0, .int 0, .ref gs])), (td, .inr (7, [.ref tg, .int 0, .int 0, .int 0, .int 0, .ref t0, .int 0, .ref t1, .ref t2, .ref t3, .ref t4, .int 0, .ref t5, .ref t6, .ref t7])), (dr, .inr (7, [.ref dg, .int 0, .int 0, .int 0, .int 0, .ref d0, .int 0, .ref d1, .ref d2, .ref d3, .ref d4, .int 0, .ref d5, .ref d6, .ref d7])), (dg, .inr (4, [.int 0, .int 0, .int 0, .ref dq])), (gu, .inr (5, [.ref u0, .ref u1, .int 0])), (mm, .inr (12, [.int 0, .int 0, .int (-1), .null, .null, .ref b0, .int 0, .int 0, .int 0, .int 0, .int 0, .int 0, .int 0, .int 0, .int 0, .long 0, .ref b1, .ref b2, .ref b3, .ref b4, .int 0, .int 0, .ref b5, .ref b6, .ref b7, .int 0, .ref b8, .int 0, .int 0, .int 0, .int 0])), (b0, .inl (cy 0, 800, .inl ((fun _ => 0)))), (ob, .inl (cy 2, 1, .inr (.inl ((fun _ => 0)))))]) (hS : va_S (fun q : Nat => s.heap.size ≤ q) s.heap H locs) (hl : lv_has ls 7 [(4, .int 0), (3, .ref ob), (2, .ref mm), (1, .ref xx), (0, .ref b)]) : W p l e room_1 s m #[Value.ref b] below meth c H locs 211 4770 (lw_Z below #[Value.ref b] s) (F0 m 1182 ls []) := by
  have C0' := C0
  obtain ⟨-, -, hr, -, -, -, hX, hbl, hlocks, -⟩ := C0'
  have hx := X.1
  have hb := X.2.1
  have hK := X.2.2.2.2.2.1
  have hA : ∀ q : Nat, s.heap.size ≤ q → (fun q : Nat => s.heap.size ≤ q) q := fun _ h => h
  have hbA : ¬ (fun q : Nat => s.heap.size ≤ q) b := Nat.not_le.mpr hbl
  refine lv_aload_n hx hb dL_law_1182 rfl (lv_at hl 3 rfl) ?_
  refine lv_aload_n hx hb dL_law_1183 rfl (lv_at hl 4 rfl) ?_
  refine lv_iload hx hb dL_law_1184 (lv_at hl 0 rfl) ?_
  refine lv_iconst (v := 1) hx hb dL_law_1186 (by decide) ?_
  refine lv_iadd hx hb dL_law_1187 ?_
  refine lv_topi (fun x_1 ex_1 => ?_)
  have ex_1 : x_1 = 1 := ex_1.trans (by decide)
  subst ex_1
  refine va_sld hx hb hX hbl hbA hS (i := 1) (by unfold vp_in; decide) dL_law_1188 ?_
  refine lv_topi (fun x_2 ex_2 => ?_)
  refine lv_aload_n hx hb dL_law_1189 rfl (lv_at hl 4 rfl) ?_
  refine lv_iload hx hb dL_law_1190 (lv_at hl 0 rfl) ?_
  refine lv_iconst (v := 2) hx hb dL_law_1192 (by decide) ?_
  refine lv_iadd hx hb dL_law_1193 ?_
  refine lv_topi (fun x_3 ex_3 => ?_)
  have ex_3 : x_3 = 2 := ex_3.trans (by decide)
  subst ex_3
  refine va_sld hx hb hX hbl hbA hS (i := 2) (by unfold vp_in; decide) dL_law_1194 ?_
  refine lv_topi (fun x_4 ex_4 => ?_)
  refine lv_aload_n hx hb dL_law_1195 rfl (lv_at hl 4 rfl) ?_
  refine lv_iload hx hb dL_law_1196 (lv_at hl 0 rfl) ?_
  refine lv_iconst (v := 3) hx hb dL_law_1198 (by decide) ?_
  refine lv_iadd hx hb dL_law_1199 ?_
  refine lv_topi (fun x_5 ex_5 => ?_)
  have ex_5 : x_5 = 3 := ex_5.trans (by decide)
  subst ex_5
  refine va_sld hx hb hX hbl hbA hS (i := 3) (by unfold vp_in; decide) dL_law_1200 ?_
  refine lv_topi (fun x_6 ex_6 => ?_)
  suffices hz_7 : ∀ z : Int32, W p l e room_1 s m #[Value.ref b] below meth c H locs 211 4770 (lw_Z below #[Value.ref b] s) (F0 m 1209 ls (.int z :: [.int x_4, .int x_2, .ref xx])) from by
      refine lv_if_eq (tgt := 1208) hx hb dL_law_1201 (by decide) (fun _ => ?_) (fun _ => ?_)
      · refine lv_iconst (v := 0) hx hb dL_law_1208 (by decide) ?_
        exact hz_7 0
      · refine lv_iconst (v := 1) hx hb dL_law_1204 (by decide) ?_
        refine lv_goto (tgt := 1209) hx hb dL_law_1205 (by decide) ?_
        exact hz_7 1
  intro z_7
  refine fL (wr := [(tp, .inr (8, [.ref bt, .int 0, .int 0, .int 0, .int 0, .int 0, .int 0, .int 0, .int 0])), (bt, .inl (cy 0, 800, .inl ((fun _ => 0)))), (td, .inr (7, [.ref tg, .int 0, .int 0, .int 0, .int 0, .ref t0, .int 0, .ref t1, .ref t2, .ref t3, .ref t4, .int 0, .ref t5, .ref t6, .ref t7])), (dr, .inr (7, [.ref dg, .int 0, .int 0, .int 0, .int 0, .ref d0, .int 0, .ref d1, .ref d2, .ref d3, .ref d4, .int 0, .ref d5, .ref d6, .ref d7])), (dg, .inr (4, [.int 0, .int 0, .int 0, .ref dq])), (gu, .inr (5, [.ref u0, .ref u1, .int 0])), (mm, .inr (12, [.int 0, .int 0, .int (-1), .null, .null, .ref b0, .int 0, .int 0, .int 0, .int 0, .int 0, .int 0, .int 0, .int 0, .int 0, .long 0, .ref b1, .ref b2, .ref b3, .ref b4, .int 0, .int 0, .ref b5, .ref b6, .ref b7, .int 0, .ref b8, .int 0, .int 0, .int 0, .int 0])), (b0, .inl (cy 0, 800, .inl ((fun _ => 0)))), (ob, .inl (cy 2, 1, .inr (.inl ((fun _ => 0)))))]) (rV_L (wc := [(xx, .inr (10, [.ref tp, .ref nw, .ref tr, .ref kp, .ref im, .ref wy, .ref ow, .ref fl, .ref cs, .ref ds, .ref gu, .ref fc, .ref td, .ref dr, .int 0, .int 0, .int 0])), (nw, .inr (6, [.ref gr, .ref n1, .ref n2, .ref n3, .int 0])), (gr, .inr (4, [.int 0, .int 0, .int 0, .ref gs]))]) (As := [.int x_2, .int x_4, .int z_7]) (rest := []) X (tX11_walkOdds l dC dI cy xx (.ref tp) nw (.ref tr) (.ref kp) (.ref im) (.ref wy) (.ref ow) (.ref fl) (.ref cs) (.ref ds) (.ref gu) (.ref fc) (.ref td) (.ref dr) (.int 0) (.int 0) (.int 0) gr gs n1 n2 n3 x_2 x_4 z_7) kX11_walkOdds vX11_walkOdds mL_156 hP hD [0, 3, 4] (by decide) rfl 0 (ci := 10) rfl rfl rfl hl rfl rfl (Nat.le_of_ble_eq_true rfl) dL_law_1209 ⟨Nat.le_of_ble_eq_true rfl, Nat.le_of_ble_eq_true rfl⟩ ⟨Nat.le_of_ble_eq_true rfl, Nat.le_of_ble_eq_true rfl⟩) hP hD hS hA [0, 3, 4] [1, 2, 5, 6, 7, 8, 9, 10, 11] rfl rfl (by decide) (by decide) (fun r_8 u_10 H locs k_9 hP hD hS => ?_)
  have hP : va_P (dC, dI) vwCl [(tp, .inr (8, [.ref bt, .int 0, .int 0, .int 0, .int 0, .int 0, .int 0, .int 0, .int 0])), (bt, .inl (cy 0, 800, .inl ((fun _ => 0)))), (td, .inr (7, [.ref tg, .int 0, .int 0, .int 0, .int 0, .ref t0, .int 0, .ref t1, .ref t2, .ref t3, .ref t4, .int 0, .ref t5, .ref t6, .ref t7])), (dr, .inr (7, [.ref dg, .int 0, .int 0, .int 0, .int 0, .ref d0, .int 0, .ref d1, .ref d2, .ref d3, .ref d4, .int 0, .ref d5, .ref d6, .ref d7])), (dg, .inr (4, [.int 0, .int 0, .int 0, .ref dq])), (gu, .inr (5, [.ref u0, .ref u1, .int 0])), (mm, .inr (12, [.int 0, .int 0, .int (-1), .null, .null, .ref b0, .int 0, .int 0, .int 0, .int 0, .int 0, .int 0, .int 0, .int 0, .int 0, .long 0, .ref b1, .ref b2, .ref b3, .ref b4, .int 0, .int 0, .ref b5, .ref b6, .ref b7, .int 0, .ref b8, .int 0, .int 0, .int 0, .int 0])), (b0, .inl (cy 0, 800, .inl ((fun _ => 0)))), (ob, .inl (cy 2, 1, .inr (.inl ((fun _ => 0)))))] H := hP
  have hD : va_D (fun q : Nat => s.heap.size ≤ q) [(tp, .inr (8, [.ref bt, .int 0, .int 0, .int 0, .int 0, .int 0, .int 0, .int 0, .int 0])), (bt, .inl (cy 0, 800, .inl ((fun _ => 0)))), (td, .inr (7, [.ref tg, .int 0, .int 0, .int 0, .int 0, .ref t0, .int 0, .ref t1, .ref t2, .ref t3, .ref t4, .int 0, .ref t5, .ref t6, .ref t7])), (dr, .inr (7, [.ref dg, .int 0, .int 0, .int 0, .int 0, .ref d0, .int 0, .ref d1, .ref d2, .ref d3, .ref d4, .int 0, .ref d5, .ref d6, .ref d7])), (dg, .inr (4, [.int 0, .int 0, .int 0, .ref dq])), (gu, .inr (5, [.ref u0, .ref u1, .int 0])), (mm, .inr (12, [.int 0, .int 0, .int (-1), .null, .null, .ref b0, .int 0, .int 0, .int 0, .int 0, .int 0, .int 0, .int 0, .int 0, .int 0, .long 0, .ref b1, .ref b2, .ref b3, .ref b4, .int 0, .int 0, .ref b5, .ref b6, .ref b7, .int 0, .ref b8, .int 0, .int 0, .int 0, .int 0])), (b0, .inl (cy 0, 800, .inl ((fun _ => 0)))), (ob, .inl (cy 2, 1, .inr (.inl ((fun _ => 0)))))] := hD
  have er_8 : r_8 = -1 := k_9
  subst er_8
  refine lv_aload_n hx hb dL_law_1212 rfl (lv_at hl 2 rfl) ?_
  refine lv_aload_n hx hb dL_law_1213 rfl (lv_at hl 4 rfl) ?_
  refine lv_iload hx hb dL_law_1214 (lv_at hl 0 rfl) ?_
  refine lv_iconst (v := 1) hx hb dL_law_1216 (by decide) ?_
  refine lv_iadd hx hb dL_law_1217 ?_
  refine lv_topi (fun x_11 ex_11 => ?_)
  have ex_11 : x_11 = 1 := ex_11.trans (by decide)
  subst ex_11
  refine va_sld hx hb hX hbl hbA hS (i := 1) (by unfold vp_in; decide) dL_law_1218 ?_
  refine lv_topi (fun x_12 ex_12 => ?_)
  refine lv_aload_n hx hb dL_law_1219 rfl (lv_at hl 4 rfl) ?_
  refine lv_iload hx hb dL_law_1220 (lv_at hl 0 rfl) ?_
  refine lv_iconst (v := 2) hx hb dL_law_1222 (by decide) ?_
  refine lv_iadd hx hb dL_law_1223 ?_
  refine lv_topi (fun x_13 ex_13 => ?_)
  have ex_13 : x_13 = 2 := ex_13.trans (by decide)
  subst ex_13
  refine va_sld hx hb hX hbl hbA hS (i := 2) (by unfold vp_in; decide) dL_law_1224 ?_
  refine lv_topi (fun x_14 ex_14 => ?_)
  refine lv_aload_n hx hb dL_law_1225 rfl (lv_at hl 4 rfl) ?_
  refine lv_iload hx hb dL_law_1226 (lv_at hl 0 rfl) ?_
  refine lv_iconst (v := 3) hx hb dL_law_1228 (by decide) ?_
  refine lv_iadd hx hb dL_law_1229 ?_
  refine lv_topi (fun x_15 ex_15 => ?_)
  have ex_15 : x_15 = 3 := ex_15.trans (by decide)
  subst ex_15
  refine va_sld hx hb hX hbl hbA hS (i := 3) (by unfold vp_in; decide) dL_law_1230 ?_
  refine lv_topi (fun x_16 ex_16 => ?_)
  suffices hz_17 : ∀ z : Int32, W p l e room_1 s m #[Value.ref b] below meth c H locs 211 4770 (lw_Z below #[Value.ref b] s) (F0 m 1239 ls (.int z :: [.int x_14, .int x_12, .ref mm, .long (-1)])) from by
      refine lv_if_eq (tgt := 1238) hx hb dL_law_1231 (by decide) (fun _ => ?_) (fun _ => ?_)
      · refine lv_iconst (v := 0) hx hb dL_law_1238 (by decide) ?_
        exact hz_17 0
      · refine lv_iconst (v := 1) hx hb dL_law_1234 (by decide) ?_
        refine lv_goto (tgt := 1239) hx hb dL_law_1235 (by decide) ?_
        exact hz_17 1
  intro z_17
  refine fL (wr := [(tp, .inr (8, [.ref bt, .int 0, .int 0, .int 0, .int 0, .int 0, .int 0, .int 0, .int 0])), (bt, .inl (cy 0, 800, .inl ((fun _ => 0)))), (td, .inr (7, [.ref tg, .int 0, .int 0, .int 0, .int 0, .ref t0, .int 0, .ref t1, .ref t2, .ref t3, .ref t4, .int 0, .ref t5, .ref t6, .ref t7])), (dr, .inr (7, [.ref dg, .int 0, .int 0, .int 0, .int 0, .ref d0, .int 0, .ref d1, .ref d2, .ref d3, .ref d4, .int 0, .ref d5, .ref d6, .ref d7])), (dg, .inr (4, [.int 0, .int 0, .int 0, .ref dq])), (gu, .inr (5, [.ref u0, .ref u1, .int 0])), (b0, .inl (cy 0, 800, .inl ((fun _ => 0)))), (ob, .inl (cy 2, 1, .inr (.inl ((fun _ => 0)))))]) (rV_L (wc := [(mm, .inr (12, [.int 0, .int 0, .int (-1), .null, .null, .ref b0, .int 0, .int 0, .int 0, .int 0, .int 0, .int 0, .int 0, .int 0, .int 0, .long 0, .ref b1, .ref b2, .ref b3, .ref b4, .int 0, .int 0, .ref b5, .ref b6, .ref b7, .int 0, .ref b8, .int 0, .int 0, .int 0, .int 0]))]) (As := [.int x_12, .int x_14, .int z_17]) (rest := [.long (-1)]) X (tX13_walkOdds l dC dI cy mm 0 0 (-1) .null (.ref b0) 0 0 0 0 0 0 0 0 0 0 (.ref b1) (.ref b2) (.ref b3) (.ref b4) 0 0 (.ref b5) (.ref b6) (.ref b7) 0 (.ref b8) 0 0 0 0 x_12 x_14 z_17) kX13_walkOdds vX13_walkOdds mL_160 hP hD [6] (by decide) rfl 0 (ci := 12) rfl rfl rfl hl rfl rfl (Nat.le_of_ble_eq_true rfl) dL_law_1239 ⟨Nat.le_of_ble_eq_true rfl, Nat.le_of_ble_eq_true rfl⟩ ⟨Nat.le_of_ble_eq_true rfl, Nat.le_of_ble_eq_true rfl⟩) hP hD hS hA [6] [0, 1, 2, 3, 4, 5, 7, 8] rfl rfl (by decide) (by decide) (fun r_18 u_20 H locs k_19 hP hD hS => ?_)
  have hP : va_P (dC, dI) vwCl [(tp, .inr (8, [.ref bt, .int 0, .int 0, .int 0, .int 0, .int 0, .int 0, .int 0, .int 0])), (bt, .inl (cy 0, 800, .inl ((fun _ => 0)))), (td, .inr (7, [.ref tg, .int 0, .int 0, .int 0, .int 0, .ref t0, .int 0, .ref t1, .ref t2, .ref t3, .ref t4, .int 0, .ref t5, .ref t6, .ref t7])), (dr, .inr (7, [.ref dg, .int 0, .int 0, .int 0, .int 0, .ref d0, .int 0, .ref d1, .ref d2, .ref d3, .ref d4, .int 0, .ref d5, .ref d6, .ref d7])), (dg, .inr (4, [.int 0, .int 0, .int 0, .ref dq])), (gu, .inr (5, [.ref u0, .ref u1, .int 0])), (b0, .inl (cy 0, 800, .inl ((fun _ => 0)))), (ob, .inl (cy 2, 1, .inr (.inl ((fun _ => 0)))))] H := hP
  have hD : va_D (fun q : Nat => s.heap.size ≤ q) [(tp, .inr (8, [.ref bt, .int 0, .int 0, .int 0, .int 0, .int 0, .int 0, .int 0, .int 0])), (bt, .inl (cy 0, 800, .inl ((fun _ => 0)))), (td, .inr (7, [.ref tg, .int 0, .int 0, .int 0, .int 0, .ref t0, .int 0, .ref t1, .ref t2, .ref t3, .ref t4, .int 0, .ref t5, .ref t6, .ref t7])), (dr, .inr (7, [.ref dg, .int 0, .int 0, .int 0, .int 0, .ref d0, .int 0, .ref d1, .ref d2, .ref d3, .ref d4, .int 0, .ref d5, .ref d6, .ref d7])), (dg, .inr (4, [.int 0, .int 0, .int 0, .ref dq])), (gu, .inr (5, [.ref u0, .ref u1, .int 0])), (b0, .inl (cy 0, 800, .inl ((fun _ => 0)))), (ob, .inl (cy 2, 1, .inr (.inl ((fun _ => 0)))))] := hD
  have er_18 : r_18 = -1 := k_19
  subst er_18
  refine W.lcmp hx hb dL_law_1242 ?_
  refine lv_topi (fun x_21 ex_21 => ?_)
  have ex_21 : x_21 = 0 := ex_21.trans (by decide)
  subst ex_21
  refine lv_if_eq (tgt := 1956) hx hb dL_law_1243 (by decide) (fun _ => ?_) (fun h_22 => absurd (by decide) h_22)
  exact law_end hl9 C0 X hZ (Nat.le_of_ble_eq_true rfl) (Nat.le_of_ble_eq_true rfl) hS (lv_sub hl [0, 4] rfl)
set_option maxHeartbeats 4000000 in
set_option maxRecDepth 100000 in
theorem law_c34 (hl9 : l.stackTraces = false) (C0 : lw_At p s m meth c b 6 xs) (X : fx p s m c code 7 #[Value.ref b] RL dC dI cy) (hZ : zx (fun q : Nat => s.heap.size ≤ q) s s.heap) (xx tp bt nw gr gs n1 n2 n3 tr kp im wy ow fl cs ds gu u0 u1 fc td tg t0 t1 t2 t3 t4 t5 t6 t7 dr dg dq d0 d1 d2 d3 d4 d5 d6 d7 mm b0 b1 b2 b3 b4 b5 b6 b7 b8 ob : Nat) (hP : va_P (dC, dI) vwCl [(xx, .inr (10, [.ref tp, .ref nw, .ref tr, .ref kp, .ref im, .ref wy, .ref ow, .ref fl, .ref cs, .ref ds, .ref gu, .ref fc, .ref td, .ref dr, .int 0, .int 0, .int 0])), (tp, .inr (8, [.ref bt, .int 0, .int 0, .int 0, .int 0, .int 0, .int 0, .int 0, .int 0])), (bt, .inl (cy 0, 800, .inl ((fun _ => 0)))), (nw, .inr (6, [.ref gr, .ref n1, .ref n2, .ref n3, .int 0])), (gr, .inr (4, [.int 0, .int 0, .int 0, .ref gs])), (td, .inr (7, [.ref tg, .int 0, .int 0, .int 0, .int 0, .ref t0, .int 0, .ref t1, .ref t2, .ref t3, .ref t4, .int 0, .ref t5, .ref t6, .ref t7])), (dr, .inr (7, [.ref dg, .int 0, .int 0, .int 0, .int 0, .ref d0, .int 0, .ref d1, .ref d2, .ref d3, .ref d4, .int 0, .ref d5, .ref d6, .ref d7])), (dg, .inr (4, [.int 0, .int 0, .int 0, .ref dq])), (gu, .inr (5, [.ref u0, .ref u1, .int 0])), (mm, .inr (12, [.int 0, .int 0, .int (-1), .null, .null, .ref b0, .int 0, .int 0, .int 0, .int 0, .int 0, .int 0, .int 0, .int 0, .int 0, .long 0, .ref b1, .ref b2, .ref b3, .ref b4, .int 0, .int 0, .ref b5, .ref b6, .ref b7, .int 0, .ref b8, .int 0, .int 0, .int 0, .int 0])), (b0, .inl (cy 0, 800, .inl ((fun _ => 0)))), (ob, .inl (cy 2, 1, .inr (.inl ((fun _ => 0)))))] H) (hD : va_D (fun q : Nat => s.heap.size ≤ q) [(xx, .inr (10, [.ref tp, .ref nw, .ref tr, .ref kp, .ref im, .ref wy, .ref ow, .ref fl, .ref cs, .ref ds, .ref gu, .ref fc, .ref td, .ref dr, .int 0, .int 0, .int 0])), (tp, .inr (8, [.ref bt, .int 0, .int 0, .int 0, .int 0, .int 0, .int 0, .int 0, .int 0])), (bt, .inl (cy 0, 800, .inl ((fun _ => 0)))), (nw, .inr (6, [.ref gr, .ref n1, .ref n2, .ref n3, .int 0])), (gr, .inr (4, [.int 0, .int 0, .int 0, .ref gs])), (td, .inr (7, [.ref tg, .int 0, .int 0, .int 0, .int 0, .ref t0, .int 0, .ref t1, .ref t2, .ref t3, .ref t4, .int 0, .ref t5, .ref t6, .ref t7])), (dr, .inr (7, [.ref dg, .int 0, .int 0, .int 0, .int 0, .ref d0, .int 0, .ref d1, .ref d2, .ref d3, .ref d4, .int 0, .ref d5, .ref d6, .ref d7])), (dg, .inr (4, [.int 0, .int 0, .int 0, .ref dq])), (gu, .inr (5, [.ref u0, .ref u1, .int 0])), (mm, .inr (12, [.int 0, .int 0, .int (-1), .null, .null, .ref b0, .int 0, .int 0, .int 0, .int 0, .int 0, .int 0, .int 0, .int 0, .int 0, .long 0, .ref b1, .ref b2, .ref b3, .ref b4, .int 0, .int 0, .ref b5, .ref b6, .ref b7, .int 0, .ref b8, .int 0, .int 0, .int 0, .int 0])), (b0, .inl (cy 0, 800, .inl ((fun _ => 0)))), (ob, .inl (cy 2, 1, .inr (.inl ((fun _ => 0)))))]) (hS : va_S (fun q : Nat => s.heap.size ≤ q) s.heap H locs) (hl : lv_has ls 7 [(4, .int 0), (3, .ref ob), (2, .ref mm), (1, .ref xx), (0, .ref b)]) : W p l e room_1 s m #[Value.ref b] below meth c H locs 211 4770 (lw_Z below #[Value.ref b] s) (F0 m 1248 ls []) := by
  have C0' := C0
  obtain ⟨-, -, hr, -, -, -, hX, hbl, hlocks, -⟩ := C0'
  have hx := X.1
  have hb := X.2.1
  have hK := X.2.2.2.2.2.1
  have hA : ∀ q : Nat, s.heap.size ≤ q → (fun q : Nat => s.heap.size ≤ q) q := fun _ h => h
  have hbA : ¬ (fun q : Nat => s.heap.size ≤ q) b := Nat.not_le.mpr hbl
  refine lv_aload_n hx hb dL_law_1248 rfl (lv_at hl 3 rfl) ?_
  refine lv_aload_n hx hb dL_law_1249 rfl (lv_at hl 4 rfl) ?_
  refine lv_iload hx hb dL_law_1250 (lv_at hl 0 rfl) ?_
  refine lv_iconst (v := 1) hx hb dL_law_1252 (by decide) ?_
  refine lv_iadd hx hb dL_law_1253 ?_
  refine lv_topi (fun x_1 ex_1 => ?_)
  have ex_1 : x_1 = 1 := ex_1.trans (by decide)
  subst ex_1
  refine va_sld hx hb hX hbl hbA hS (i := 1) (by unfold vp_in; decide) dL_law_1254 ?_
  refine lv_topi (fun x_2 ex_2 => ?_)
  refine lv_aload_n hx hb dL_law_1255 rfl (lv_at hl 4 rfl) ?_
  refine lv_iload hx hb dL_law_1256 (lv_at hl 0 rfl) ?_
  refine lv_iconst (v := 2) hx hb dL_law_1258 (by decide) ?_
  refine lv_iadd hx hb dL_law_1259 ?_
  refine lv_topi (fun x_3 ex_3 => ?_)
  have ex_3 : x_3 = 2 := ex_3.trans (by decide)
  subst ex_3
  refine va_sld hx hb hX hbl hbA hS (i := 2) (by unfold vp_in; decide) dL_law_1260 ?_
  refine lv_topi (fun x_4 ex_4 => ?_)
  suffices hz_5 : ∀ z : Int32, W p l e room_1 s m #[Value.ref b] below meth c H locs 211 4770 (lw_Z below #[Value.ref b] s) (F0 m 1269 ls (.int z :: [.int x_2, .ref xx])) from by
      refine lv_if_eq (tgt := 1268) hx hb dL_law_1261 (by decide) (fun _ => ?_) (fun _ => ?_)
      · refine lv_iconst (v := 0) hx hb dL_law_1268 (by decide) ?_
        exact hz_5 0
      · refine lv_iconst (v := 1) hx hb dL_law_1264 (by decide) ?_
        refine lv_goto (tgt := 1269) hx hb dL_law_1265 (by decide) ?_
        exact hz_5 1
  intro z_5
  refine lv_aload_n hx hb dL_law_1269 rfl (lv_at hl 4 rfl) ?_
  refine lv_iload hx hb dL_law_1270 (lv_at hl 0 rfl) ?_
  refine lv_iconst (v := 3) hx hb dL_law_1272 (by decide) ?_
  refine lv_iadd hx hb dL_law_1273 ?_
  refine lv_topi (fun x_6 ex_6 => ?_)
  have ex_6 : x_6 = 3 := ex_6.trans (by decide)
  subst ex_6
  refine va_sld hx hb hX hbl hbA hS (i := 3) (by unfold vp_in; decide) dL_law_1274 ?_
  refine lv_topi (fun x_7 ex_7 => ?_)
  suffices hz_8 : ∀ z : Int32, W p l e room_1 s m #[Value.ref b] below meth c H locs 211 4770 (lw_Z below #[Value.ref b] s) (F0 m 1283 ls (.int z :: [.int z_5, .int x_2, .ref xx])) from by
      refine lv_if_eq (tgt := 1282) hx hb dL_law_1275 (by decide) (fun _ => ?_) (fun _ => ?_)
      · refine lv_iconst (v := 0) hx hb dL_law_1282 (by decide) ?_
        exact hz_8 0
      · refine lv_iconst (v := 1) hx hb dL_law_1278 (by decide) ?_
        refine lv_goto (tgt := 1283) hx hb dL_law_1279 (by decide) ?_
        exact hz_8 1
  intro z_8
  refine lv_aload_n hx hb dL_law_1283 rfl (lv_at hl 4 rfl) ?_
  refine lv_iload hx hb dL_law_1284 (lv_at hl 0 rfl) ?_
  refine lv_iconst (v := 4) hx hb dL_law_1286 (by decide) ?_
  refine lv_iadd hx hb dL_law_1287 ?_
  refine lv_topi (fun x_9 ex_9 => ?_)
  have ex_9 : x_9 = 4 := ex_9.trans (by decide)
  subst ex_9
  refine va_sld hx hb hX hbl hbA hS (i := 4) (by unfold vp_in; decide) dL_law_1288 ?_
  refine lv_topi (fun x_10 ex_10 => ?_)
  suffices hz_11 : ∀ z : Int32, W p l e room_1 s m #[Value.ref b] below meth c H locs 211 4770 (lw_Z below #[Value.ref b] s) (F0 m 1297 ls (.int z :: [.int z_8, .int z_5, .int x_2, .ref xx])) from by
      refine lv_if_eq (tgt := 1296) hx hb dL_law_1289 (by decide) (fun _ => ?_) (fun _ => ?_)
      · refine lv_iconst (v := 0) hx hb dL_law_1296 (by decide) ?_
        exact hz_11 0
      · refine lv_iconst (v := 1) hx hb dL_law_1292 (by decide) ?_
        refine lv_goto (tgt := 1297) hx hb dL_law_1293 (by decide) ?_
        exact hz_11 1
  intro z_11
  refine fI (wr := [(tp, .inr (8, [.ref bt, .int 0, .int 0, .int 0, .int 0, .int 0, .int 0, .int 0, .int 0])), (bt, .inl (cy 0, 800, .inl ((fun _ => 0)))), (td, .inr (7, [.ref tg, .int 0, .int 0, .int 0, .int 0, .ref t0, .int 0, .ref t1, .ref t2, .ref t3, .ref t4, .int 0, .ref t5, .ref t6, .ref t7])), (dr, .inr (7, [.ref dg, .int 0, .int 0, .int 0, .int 0, .ref d0, .int 0, .ref d1, .ref d2, .ref d3, .ref d4, .int 0, .ref d5, .ref d6, .ref d7])), (dg, .inr (4, [.int 0, .int 0, .int 0, .ref dq])), (gu, .inr (5, [.ref u0, .ref u1, .int 0])), (mm, .inr (12, [.int 0, .int 0, .int (-1), .null, .null, .ref b0, .int 0, .int 0, .int 0, .int 0, .int 0, .int 0, .int 0, .int 0, .int 0, .long 0, .ref b1, .ref b2, .ref b3, .ref b4, .int 0, .int 0, .ref b5, .ref b6, .ref b7, .int 0, .ref b8, .int 0, .int 0, .int 0, .int 0])), (b0, .inl (cy 0, 800, .inl ((fun _ => 0)))), (ob, .inl (cy 2, 1, .inr (.inl ((fun _ => 0)))))]) (rV_I (wc := [(xx, .inr (10, [.ref tp, .ref nw, .ref tr, .ref kp, .ref im, .ref wy, .ref ow, .ref fl, .ref cs, .ref ds, .ref gu, .ref fc, .ref td, .ref dr, .int 0, .int 0, .int 0])), (nw, .inr (6, [.ref gr, .ref n1, .ref n2, .ref n3, .int 0])), (gr, .inr (4, [.int 0, .int 0, .int 0, .ref gs]))]) (As := [.int x_2, .int z_5, .int z_8, .int z_11]) (rest := []) X (tX11_lies l dC dI cy xx (.ref tp) nw (.ref tr) (.ref kp) (.ref im) (.ref wy) (.ref ow) (.ref fl) (.ref cs) (.ref ds) (.ref gu) (.ref fc) (.ref td) (.ref dr) (.int 0) (.int 0) (.int 0) gr gs n1 n2 n3 x_2 z_5 z_8 z_11) kX11_lies vX11_lies mL_161 hP hD [0, 3, 4] (by decide) rfl 0 (ci := 10) rfl rfl rfl hl rfl rfl (Nat.le_of_ble_eq_true rfl) dL_law_1297 ⟨Nat.le_of_ble_eq_true rfl, Nat.le_of_ble_eq_true rfl⟩ ⟨Nat.le_of_ble_eq_true rfl, Nat.le_of_ble_eq_true rfl⟩) hP hD hS hA [0, 3, 4] [1, 2, 5, 6, 7, 8, 9, 10, 11] rfl rfl (by decide) (by decide) (fun r_12 u_14 H locs k_13 hP hD hS => ?_)
  have hP : va_P (dC, dI) vwCl [(tp, .inr (8, [.ref bt, .int 0, .int 0, .int 0, .int 0, .int 0, .int 0, .int 0, .int 0])), (bt, .inl (cy 0, 800, .inl ((fun _ => 0)))), (td, .inr (7, [.ref tg, .int 0, .int 0, .int 0, .int 0, .ref t0, .int 0, .ref t1, .ref t2, .ref t3, .ref t4, .int 0, .ref t5, .ref t6, .ref t7])), (dr, .inr (7, [.ref dg, .int 0, .int 0, .int 0, .int 0, .ref d0, .int 0, .ref d1, .ref d2, .ref d3, .ref d4, .int 0, .ref d5, .ref d6, .ref d7])), (dg, .inr (4, [.int 0, .int 0, .int 0, .ref dq])), (gu, .inr (5, [.ref u0, .ref u1, .int 0])), (mm, .inr (12, [.int 0, .int 0, .int (-1), .null, .null, .ref b0, .int 0, .int 0, .int 0, .int 0, .int 0, .int 0, .int 0, .int 0, .int 0, .long 0, .ref b1, .ref b2, .ref b3, .ref b4, .int 0, .int 0, .ref b5, .ref b6, .ref b7, .int 0, .ref b8, .int 0, .int 0, .int 0, .int 0])), (b0, .inl (cy 0, 800, .inl ((fun _ => 0)))), (ob, .inl (cy 2, 1, .inr (.inl ((fun _ => 0)))))] H := hP
  have hD : va_D (fun q : Nat => s.heap.size ≤ q) [(tp, .inr (8, [.ref bt, .int 0, .int 0, .int 0, .int 0, .int 0, .int 0, .int 0, .int 0])), (bt, .inl (cy 0, 800, .inl ((fun _ => 0)))), (td, .inr (7, [.ref tg, .int 0, .int 0, .int 0, .int 0, .ref t0, .int 0, .ref t1, .ref t2, .ref t3, .ref t4, .int 0, .ref t5, .ref t6, .ref t7])), (dr, .inr (7, [.ref dg, .int 0, .int 0, .int 0, .int 0, .ref d0, .int 0, .ref d1, .ref d2, .ref d3, .ref d4, .int 0, .ref d5, .ref d6, .ref d7])), (dg, .inr (4, [.int 0, .int 0, .int 0, .ref dq])), (gu, .inr (5, [.ref u0, .ref u1, .int 0])), (mm, .inr (12, [.int 0, .int 0, .int (-1), .null, .null, .ref b0, .int 0, .int 0, .int 0, .int 0, .int 0, .int 0, .int 0, .int 0, .int 0, .long 0, .ref b1, .ref b2, .ref b3, .ref b4, .int 0, .int 0, .ref b5, .ref b6, .ref b7, .int 0, .ref b8, .int 0, .int 0, .int 0, .int 0])), (b0, .inl (cy 0, 800, .inl ((fun _ => 0)))), (ob, .inl (cy 2, 1, .inr (.inl ((fun _ => 0)))))] := hD
  have er_12 : r_12 = -100 := k_13
  subst er_12
  refine lv_aload_n hx hb dL_law_1300 rfl (lv_at hl 2 rfl) ?_
  refine lv_aload_n hx hb dL_law_1301 rfl (lv_at hl 4 rfl) ?_
  refine lv_iload hx hb dL_law_1302 (lv_at hl 0 rfl) ?_
  refine lv_iconst (v := 1) hx hb dL_law_1304 (by decide) ?_
  refine lv_iadd hx hb dL_law_1305 ?_
  refine lv_topi (fun x_15 ex_15 => ?_)
  have ex_15 : x_15 = 1 := ex_15.trans (by decide)
  subst ex_15
  refine va_sld hx hb hX hbl hbA hS (i := 1) (by unfold vp_in; decide) dL_law_1306 ?_
  refine lv_topi (fun x_16 ex_16 => ?_)
  refine lv_aload_n hx hb dL_law_1307 rfl (lv_at hl 4 rfl) ?_
  refine lv_iload hx hb dL_law_1308 (lv_at hl 0 rfl) ?_
  refine lv_iconst (v := 2) hx hb dL_law_1310 (by decide) ?_
  refine lv_iadd hx hb dL_law_1311 ?_
  refine lv_topi (fun x_17 ex_17 => ?_)
  have ex_17 : x_17 = 2 := ex_17.trans (by decide)
  subst ex_17
  refine va_sld hx hb hX hbl hbA hS (i := 2) (by unfold vp_in; decide) dL_law_1312 ?_
  refine lv_topi (fun x_18 ex_18 => ?_)
  suffices hz_19 : ∀ z : Int32, W p l e room_1 s m #[Value.ref b] below meth c H locs 211 4770 (lw_Z below #[Value.ref b] s) (F0 m 1321 ls (.int z :: [.int x_16, .ref mm, .int (-100)])) from by
      refine lv_if_eq (tgt := 1320) hx hb dL_law_1313 (by decide) (fun _ => ?_) (fun _ => ?_)
      · refine lv_iconst (v := 0) hx hb dL_law_1320 (by decide) ?_
        exact hz_19 0
      · refine lv_iconst (v := 1) hx hb dL_law_1316 (by decide) ?_
        refine lv_goto (tgt := 1321) hx hb dL_law_1317 (by decide) ?_
        exact hz_19 1
  intro z_19
  refine lv_aload_n hx hb dL_law_1321 rfl (lv_at hl 4 rfl) ?_
  refine lv_iload hx hb dL_law_1322 (lv_at hl 0 rfl) ?_
  refine lv_iconst (v := 3) hx hb dL_law_1324 (by decide) ?_
  refine lv_iadd hx hb dL_law_1325 ?_
  refine lv_topi (fun x_20 ex_20 => ?_)
  have ex_20 : x_20 = 3 := ex_20.trans (by decide)
  subst ex_20
  refine va_sld hx hb hX hbl hbA hS (i := 3) (by unfold vp_in; decide) dL_law_1326 ?_
  refine lv_topi (fun x_21 ex_21 => ?_)
  suffices hz_22 : ∀ z : Int32, W p l e room_1 s m #[Value.ref b] below meth c H locs 211 4770 (lw_Z below #[Value.ref b] s) (F0 m 1335 ls (.int z :: [.int z_19, .int x_16, .ref mm, .int (-100)])) from by
      refine lv_if_eq (tgt := 1334) hx hb dL_law_1327 (by decide) (fun _ => ?_) (fun _ => ?_)
      · refine lv_iconst (v := 0) hx hb dL_law_1334 (by decide) ?_
        exact hz_22 0
      · refine lv_iconst (v := 1) hx hb dL_law_1330 (by decide) ?_
        refine lv_goto (tgt := 1335) hx hb dL_law_1331 (by decide) ?_
        exact hz_22 1
  intro z_22
  refine lv_aload_n hx hb dL_law_1335 rfl (lv_at hl 4 rfl) ?_
  refine lv_iload hx hb dL_law_1336 (lv_at hl 0 rfl) ?_
  refine lv_iconst (v := 4) hx hb dL_law_1338 (by decide) ?_
  refine lv_iadd hx hb dL_law_1339 ?_
  refine lv_topi (fun x_23 ex_23 => ?_)
  have ex_23 : x_23 = 4 := ex_23.trans (by decide)
  subst ex_23
  refine va_sld hx hb hX hbl hbA hS (i := 4) (by unfold vp_in; decide) dL_law_1340 ?_
  refine lv_topi (fun x_24 ex_24 => ?_)
  suffices hz_25 : ∀ z : Int32, W p l e room_1 s m #[Value.ref b] below meth c H locs 211 4770 (lw_Z below #[Value.ref b] s) (F0 m 1349 ls (.int z :: [.int z_22, .int z_19, .int x_16, .ref mm, .int (-100)])) from by
      refine lv_if_eq (tgt := 1348) hx hb dL_law_1341 (by decide) (fun _ => ?_) (fun _ => ?_)
      · refine lv_iconst (v := 0) hx hb dL_law_1348 (by decide) ?_
        exact hz_25 0
      · refine lv_iconst (v := 1) hx hb dL_law_1344 (by decide) ?_
        refine lv_goto (tgt := 1349) hx hb dL_law_1345 (by decide) ?_
        exact hz_25 1
  intro z_25
  refine fI (wr := [(tp, .inr (8, [.ref bt, .int 0, .int 0, .int 0, .int 0, .int 0, .int 0, .int 0, .int 0])), (bt, .inl (cy 0, 800, .inl ((fun _ => 0)))), (td, .inr (7, [.ref tg, .int 0, .int 0, .int 0, .int 0, .ref t0, .int 0, .ref t1, .ref t2, .ref t3, .ref t4, .int 0, .ref t5, .ref t6, .ref t7])), (dr, .inr (7, [.ref dg, .int 0, .int 0, .int 0, .int 0, .ref d0, .int 0, .ref d1, .ref d2, .ref d3, .ref d4, .int 0, .ref d5, .ref d6, .ref d7])), (dg, .inr (4, [.int 0, .int 0, .int 0, .ref dq])), (gu, .inr (5, [.ref u0, .ref u1, .int 0])), (b0, .inl (cy 0, 800, .inl ((fun _ => 0)))), (ob, .inl (cy 2, 1, .inr (.inl ((fun _ => 0)))))]) (rV_I (wc := [(mm, .inr (12, [.int 0, .int 0, .int (-1), .null, .null, .ref b0, .int 0, .int 0, .int 0, .int 0, .int 0, .int 0, .int 0, .int 0, .int 0, .long 0, .ref b1, .ref b2, .ref b3, .ref b4, .int 0, .int 0, .ref b5, .ref b6, .ref b7, .int 0, .ref b8, .int 0, .int 0, .int 0, .int 0]))]) (As := [.int x_16, .int z_19, .int z_22, .int z_25]) (rest := [.int (-100)]) X (tX13_lies l dC dI cy mm 0 0 (-1) .null (.ref b0) 0 0 0 0 0 0 0 0 0 0 (.ref b1) (.ref b2) (.ref b3) (.ref b4) 0 0 (.ref b5) (.ref b6) (.ref b7) 0 (.ref b8) 0 0 0 0 x_16 z_19 z_22 z_25) kX13_lies vX13_lies mL_165 hP hD [6] (by decide) rfl 0 (ci := 12) rfl rfl rfl hl rfl rfl (Nat.le_of_ble_eq_true rfl) dL_law_1349 ⟨Nat.le_of_ble_eq_true rfl, Nat.le_of_ble_eq_true rfl⟩ ⟨Nat.le_of_ble_eq_true rfl, Nat.le_of_ble_eq_true rfl⟩) hP hD hS hA [6] [0, 1, 2, 3, 4, 5, 7, 8] rfl rfl (by decide) (by decide) (fun r_26 u_28 H locs k_27 hP hD hS => ?_)
  have hP : va_P (dC, dI) vwCl [(tp, .inr (8, [.ref bt, .int 0, .int 0, .int 0, .int 0, .int 0, .int 0, .int 0, .int 0])), (bt, .inl (cy 0, 800, .inl ((fun _ => 0)))), (td, .inr (7, [.ref tg, .int 0, .int 0, .int 0, .int 0, .ref t0, .int 0, .ref t1, .ref t2, .ref t3, .ref t4, .int 0, .ref t5, .ref t6, .ref t7])), (dr, .inr (7, [.ref dg, .int 0, .int 0, .int 0, .int 0, .ref d0, .int 0, .ref d1, .ref d2, .ref d3, .ref d4, .int 0, .ref d5, .ref d6, .ref d7])), (dg, .inr (4, [.int 0, .int 0, .int 0, .ref dq])), (gu, .inr (5, [.ref u0, .ref u1, .int 0])), (b0, .inl (cy 0, 800, .inl ((fun _ => 0)))), (ob, .inl (cy 2, 1, .inr (.inl ((fun _ => 0)))))] H := hP
  have hD : va_D (fun q : Nat => s.heap.size ≤ q) [(tp, .inr (8, [.ref bt, .int 0, .int 0, .int 0, .int 0, .int 0, .int 0, .int 0, .int 0])), (bt, .inl (cy 0, 800, .inl ((fun _ => 0)))), (td, .inr (7, [.ref tg, .int 0, .int 0, .int 0, .int 0, .ref t0, .int 0, .ref t1, .ref t2, .ref t3, .ref t4, .int 0, .ref t5, .ref t6, .ref t7])), (dr, .inr (7, [.ref dg, .int 0, .int 0, .int 0, .int 0, .ref d0, .int 0, .ref d1, .ref d2, .ref d3, .ref d4, .int 0, .ref d5, .ref d6, .ref d7])), (dg, .inr (4, [.int 0, .int 0, .int 0, .ref dq])), (gu, .inr (5, [.ref u0, .ref u1, .int 0])), (b0, .inl (cy 0, 800, .inl ((fun _ => 0)))), (ob, .inl (cy 2, 1, .inr (.inl ((fun _ => 0)))))] := hD
  have er_26 : r_26 = -100 := k_27
  subst er_26
  refine lv_icmp_eq (tgt := 1956) hx hb dL_law_1352 (by decide) (fun _ => ?_) (fun h_29 => absurd (by decide) h_29)
  exact law_end hl9 C0 X hZ (Nat.le_of_ble_eq_true rfl) (Nat.le_of_ble_eq_true rfl) hS (lv_sub hl [0, 4] rfl)
set_option maxHeartbeats 4000000 in
set_option maxRecDepth 100000 in
theorem law_c35 (hl9 : l.stackTraces = false) (C0 : lw_At p s m meth c b 6 xs) (X : fx p s m c code 7 #[Value.ref b] RL dC dI cy) (hZ : zx (fun q : Nat => s.heap.size ≤ q) s s.heap) (xx tp bt nw gr gs n1 n2 n3 tr kp im wy ow fl cs ds gu u0 u1 fc td tg t0 t1 t2 t3 t4 t5 t6 t7 dr dg dq d0 d1 d2 d3 d4 d5 d6 d7 mm b0 b1 b2 b3 b4 b5 b6 b7 b8 ob : Nat) (hP : va_P (dC, dI) vwCl [(xx, .inr (10, [.ref tp, .ref nw, .ref tr, .ref kp, .ref im, .ref wy, .ref ow, .ref fl, .ref cs, .ref ds, .ref gu, .ref fc, .ref td, .ref dr, .int 0, .int 0, .int 0])), (tp, .inr (8, [.ref bt, .int 0, .int 0, .int 0, .int 0, .int 0, .int 0, .int 0, .int 0])), (bt, .inl (cy 0, 800, .inl ((fun _ => 0)))), (nw, .inr (6, [.ref gr, .ref n1, .ref n2, .ref n3, .int 0])), (gr, .inr (4, [.int 0, .int 0, .int 0, .ref gs])), (td, .inr (7, [.ref tg, .int 0, .int 0, .int 0, .int 0, .ref t0, .int 0, .ref t1, .ref t2, .ref t3, .ref t4, .int 0, .ref t5, .ref t6, .ref t7])), (dr, .inr (7, [.ref dg, .int 0, .int 0, .int 0, .int 0, .ref d0, .int 0, .ref d1, .ref d2, .ref d3, .ref d4, .int 0, .ref d5, .ref d6, .ref d7])), (dg, .inr (4, [.int 0, .int 0, .int 0, .ref dq])), (gu, .inr (5, [.ref u0, .ref u1, .int 0])), (mm, .inr (12, [.int 0, .int 0, .int (-1), .null, .null, .ref b0, .int 0, .int 0, .int 0, .int 0, .int 0, .int 0, .int 0, .int 0, .int 0, .long 0, .ref b1, .ref b2, .ref b3, .ref b4, .int 0, .int 0, .ref b5, .ref b6, .ref b7, .int 0, .ref b8, .int 0, .int 0, .int 0, .int 0])), (b0, .inl (cy 0, 800, .inl ((fun _ => 0)))), (ob, .inl (cy 2, 1, .inr (.inl ((fun _ => 0)))))] H) (hD : va_D (fun q : Nat => s.heap.size ≤ q) [(xx, .inr (10, [.ref tp, .ref nw, .ref tr, .ref kp, .ref im, .ref wy, .ref ow, .ref fl, .ref cs, .ref ds, .ref gu, .ref fc, .ref td, .ref dr, .int 0, .int 0, .int 0])), (tp, .inr (8, [.ref bt, .int 0, .int 0, .int 0, .int 0, .int 0, .int 0, .int 0, .int 0])), (bt, .inl (cy 0, 800, .inl ((fun _ => 0)))), (nw, .inr (6, [.ref gr, .ref n1, .ref n2, .ref n3, .int 0])), (gr, .inr (4, [.int 0, .int 0, .int 0, .ref gs])), (td, .inr (7, [.ref tg, .int 0, .int 0, .int 0, .int 0, .ref t0, .int 0, .ref t1, .ref t2, .ref t3, .ref t4, .int 0, .ref t5, .ref t6, .ref t7])), (dr, .inr (7, [.ref dg, .int 0, .int 0, .int 0, .int 0, .ref d0, .int 0, .ref d1, .ref d2, .ref d3, .ref d4, .int 0, .ref d5, .ref d6, .ref d7])), (dg, .inr (4, [.int 0, .int 0, .int 0, .ref dq])), (gu, .inr (5, [.ref u0, .ref u1, .int 0])), (mm, .inr (12, [.int 0, .int 0, .int (-1), .null, .null, .ref b0, .int 0, .int 0, .int 0, .int 0, .int 0, .int 0, .int 0, .int 0, .int 0, .long 0, .ref b1, .ref b2, .ref b3, .ref b4, .int 0, .int 0, .ref b5, .ref b6, .ref b7, .int 0, .ref b8, .int 0, .int 0, .int 0, .int 0])), (b0, .inl (cy 0, 800, .inl ((fun _ => 0)))), (ob, .inl (cy 2, 1, .inr (.inl ((fun _ => 0)))))]) (hS : va_S (fun q : Nat => s.heap.size ≤ q) s.heap H locs) (hl : lv_has ls 7 [(4, .int 0), (3, .ref ob), (2, .ref mm), (1, .ref xx), (0, .ref b)]) : W p l e room_1 s m #[Value.ref b] below meth c H locs 211 4770 (lw_Z below #[Value.ref b] s) (F0 m 1357 ls []) := by
  have C0' := C0
  obtain ⟨-, -, hr, -, -, -, hX, hbl, hlocks, -⟩ := C0'
  have hx := X.1
  have hb := X.2.1
  have hK := X.2.2.2.2.2.1
  have hA : ∀ q : Nat, s.heap.size ≤ q → (fun q : Nat => s.heap.size ≤ q) q := fun _ h => h
  have hbA : ¬ (fun q : Nat => s.heap.size ≤ q) b := Nat.not_le.mpr hbl
  refine lv_aload_n hx hb dL_law_1357 rfl (lv_at hl 3 rfl) ?_
  refine lv_aload_n hx hb dL_law_1358 rfl (lv_at hl 4 rfl) ?_
  refine lv_iload hx hb dL_law_1359 (lv_at hl 0 rfl) ?_
  refine lv_iconst (v := 1) hx hb dL_law_1361 (by decide) ?_
  refine lv_iadd hx hb dL_law_1362 ?_
  refine lv_topi (fun x_1 ex_1 => ?_)
  have ex_1 : x_1 = 1 := ex_1.trans (by decide)
  subst ex_1
  refine va_sld hx hb hX hbl hbA hS (i := 1) (by unfold vp_in; decide) dL_law_1363 ?_
  refine lv_topi (fun x_2 ex_2 => ?_)
  refine fI (wr := [(tp, .inr (8, [.ref bt, .int 0, .int 0, .int 0, .int 0, .int 0, .int 0, .int 0, .int 0])), (bt, .inl (cy 0, 800, .inl ((fun _ => 0)))), (td, .inr (7, [.ref tg, .int 0, .int 0, .int 0, .int 0, .ref t0, .int 0, .ref t1, .ref t2, .ref t3, .ref t4, .int 0, .ref t5, .ref t6, .ref t7])), (dr, .inr (7, [.ref dg, .int 0, .int 0, .int 0, .int 0, .ref d0, .int 0, .ref d1, .ref d2, .ref d3, .ref d4, .int 0, .ref d5, .ref d6, .ref d7])), (dg, .inr (4, [.int 0, .int 0, .int 0, .ref dq])), (gu, .inr (5, [.ref u0, .ref u1, .int 0])), (mm, .inr (12, [.int 0, .int 0, .int (-1), .null, .null, .ref b0, .int 0, .int 0, .int 0, .int 0, .int 0, .int 0, .int 0, .int 0, .int 0, .long 0, .ref b1, .ref b2, .ref b3, .ref b4, .int 0, .int 0, .ref b5, .ref b6, .ref b7, .int 0, .ref b8, .int 0, .int 0, .int 0, .int 0])), (b0, .inl (cy 0, 800, .inl ((fun _ => 0)))), (ob, .inl (cy 2, 1, .inr (.inl ((fun _ => 0)))))]) (rV_I (wc := [(xx, .inr (10, [.ref tp, .ref nw, .ref tr, .ref kp, .ref im, .ref wy, .ref ow, .ref fl, .ref cs, .ref ds, .ref gu, .ref fc, .ref td, .ref dr, .int 0, .int 0, .int 0])), (nw, .inr (6, [.ref gr, .ref n1, .ref n2, .ref n3, .int 0])), (gr, .inr (4, [.int 0, .int 0, .int 0, .ref gs]))]) (As := [.int x_2]) (rest := []) X (tX11_rests l dC dI cy xx (.ref tp) nw (.ref tr) (.ref kp) (.ref im) (.ref wy) (.ref ow) (.ref fl) (.ref cs) (.ref ds) (.ref gu) (.ref fc) (.ref td) (.ref dr) (.int 0) (.int 0) (.int 0) gr gs n1 n2 n3 x_2) kX11_rests vX11_rests mL_166 hP hD [0, 3, 4] (by decide) rfl 0 (ci := 10) rfl rfl rfl hl rfl rfl (Nat.le_of_ble_eq_true rfl) dL_law_1364 ⟨Nat.le_of_ble_eq_true rfl, Nat.le_of_ble_eq_true rfl⟩ ⟨Nat.le_of_ble_eq_true rfl, Nat.le_of_ble_eq_true rfl⟩) hP hD hS hA [0, 3, 4] [1, 2, 5, 6, 7, 8, 9, 10, 11] rfl rfl (by decide) (by decide) (fun r_3 u_5 H locs k_4 hP hD hS => ?_)
  have hP : va_P (dC, dI) vwCl [(tp, .inr (8, [.ref bt, .int 0, .int 0, .int 0, .int 0, .int 0, .int 0, .int 0, .int 0])), (bt, .inl (cy 0, 800, .inl ((fun _ => 0)))), (td, .inr (7, [.ref tg, .int 0, .int 0, .int 0, .int 0, .ref t0, .int 0, .ref t1, .ref t2, .ref t3, .ref t4, .int 0, .ref t5, .ref t6, .ref t7])), (dr, .inr (7, [.ref dg, .int 0, .int 0, .int 0, .int 0, .ref d0, .int 0, .ref d1, .ref d2, .ref d3, .ref d4, .int 0, .ref d5, .ref d6, .ref d7])), (dg, .inr (4, [.int 0, .int 0, .int 0, .ref dq])), (gu, .inr (5, [.ref u0, .ref u1, .int 0])), (mm, .inr (12, [.int 0, .int 0, .int (-1), .null, .null, .ref b0, .int 0, .int 0, .int 0, .int 0, .int 0, .int 0, .int 0, .int 0, .int 0, .long 0, .ref b1, .ref b2, .ref b3, .ref b4, .int 0, .int 0, .ref b5, .ref b6, .ref b7, .int 0, .ref b8, .int 0, .int 0, .int 0, .int 0])), (b0, .inl (cy 0, 800, .inl ((fun _ => 0)))), (ob, .inl (cy 2, 1, .inr (.inl ((fun _ => 0)))))] H := hP
  have hD : va_D (fun q : Nat => s.heap.size ≤ q) [(tp, .inr (8, [.ref bt, .int 0, .int 0, .int 0, .int 0, .int 0, .int 0, .int 0, .int 0])), (bt, .inl (cy 0, 800, .inl ((fun _ => 0)))), (td, .inr (7, [.ref tg, .int 0, .int 0, .int 0, .int 0, .ref t0, .int 0, .ref t1, .ref t2, .ref t3, .ref t4, .int 0, .ref t5, .ref t6, .ref t7])), (dr, .inr (7, [.ref dg, .int 0, .int 0, .int 0, .int 0, .ref d0, .int 0, .ref d1, .ref d2, .ref d3, .ref d4, .int 0, .ref d5, .ref d6, .ref d7])), (dg, .inr (4, [.int 0, .int 0, .int 0, .ref dq])), (gu, .inr (5, [.ref u0, .ref u1, .int 0])), (mm, .inr (12, [.int 0, .int 0, .int (-1), .null, .null, .ref b0, .int 0, .int 0, .int 0, .int 0, .int 0, .int 0, .int 0, .int 0, .int 0, .long 0, .ref b1, .ref b2, .ref b3, .ref b4, .int 0, .int 0, .ref b5, .ref b6, .ref b7, .int 0, .ref b8, .int 0, .int 0, .int 0, .int 0])), (b0, .inl (cy 0, 800, .inl ((fun _ => 0)))), (ob, .inl (cy 2, 1, .inr (.inl ((fun _ => 0)))))] := hD
  have er_3 : r_3 = -1 := k_4
  subst er_3
  refine lv_aload_n hx hb dL_law_1367 rfl (lv_at hl 2 rfl) ?_
  refine lv_aload_n hx hb dL_law_1368 rfl (lv_at hl 4 rfl) ?_
  refine lv_iload hx hb dL_law_1369 (lv_at hl 0 rfl) ?_
  refine lv_iconst (v := 1) hx hb dL_law_1371 (by decide) ?_
  refine lv_iadd hx hb dL_law_1372 ?_
  refine lv_topi (fun x_6 ex_6 => ?_)
  have ex_6 : x_6 = 1 := ex_6.trans (by decide)
  subst ex_6
  refine va_sld hx hb hX hbl hbA hS (i := 1) (by unfold vp_in; decide) dL_law_1373 ?_
  refine lv_topi (fun x_7 ex_7 => ?_)
  refine fI (wr := [(tp, .inr (8, [.ref bt, .int 0, .int 0, .int 0, .int 0, .int 0, .int 0, .int 0, .int 0])), (bt, .inl (cy 0, 800, .inl ((fun _ => 0)))), (td, .inr (7, [.ref tg, .int 0, .int 0, .int 0, .int 0, .ref t0, .int 0, .ref t1, .ref t2, .ref t3, .ref t4, .int 0, .ref t5, .ref t6, .ref t7])), (dr, .inr (7, [.ref dg, .int 0, .int 0, .int 0, .int 0, .ref d0, .int 0, .ref d1, .ref d2, .ref d3, .ref d4, .int 0, .ref d5, .ref d6, .ref d7])), (dg, .inr (4, [.int 0, .int 0, .int 0, .ref dq])), (gu, .inr (5, [.ref u0, .ref u1, .int 0])), (b0, .inl (cy 0, 800, .inl ((fun _ => 0)))), (ob, .inl (cy 2, 1, .inr (.inl ((fun _ => 0)))))]) (rV_I (wc := [(mm, .inr (12, [.int 0, .int 0, .int (-1), .null, .null, .ref b0, .int 0, .int 0, .int 0, .int 0, .int 0, .int 0, .int 0, .int 0, .int 0, .long 0, .ref b1, .ref b2, .ref b3, .ref b4, .int 0, .int 0, .ref b5, .ref b6, .ref b7, .int 0, .ref b8, .int 0, .int 0, .int 0, .int 0]))]) (As := [.int x_7]) (rest := [.int (-1)]) X (tX13_rests l dC dI cy mm 0 0 (-1) .null (.ref b0) 0 0 0 0 0 0 0 0 0 0 (.ref b1) (.ref b2) (.ref b3) (.ref b4) 0 0 (.ref b5) (.ref b6) (.ref b7) 0 (.ref b8) 0 0 0 0 x_7) kX13_rests vX13_rests mL_169 hP hD [6] (by decide) rfl 0 (ci := 12) rfl rfl rfl hl rfl rfl (Nat.le_of_ble_eq_true rfl) dL_law_1374 ⟨Nat.le_of_ble_eq_true rfl, Nat.le_of_ble_eq_true rfl⟩ ⟨Nat.le_of_ble_eq_true rfl, Nat.le_of_ble_eq_true rfl⟩) hP hD hS hA [6] [0, 1, 2, 3, 4, 5, 7, 8] rfl rfl (by decide) (by decide) (fun r_8 u_10 H locs k_9 hP hD hS => ?_)
  have hP : va_P (dC, dI) vwCl [(tp, .inr (8, [.ref bt, .int 0, .int 0, .int 0, .int 0, .int 0, .int 0, .int 0, .int 0])), (bt, .inl (cy 0, 800, .inl ((fun _ => 0)))), (td, .inr (7, [.ref tg, .int 0, .int 0, .int 0, .int 0, .ref t0, .int 0, .ref t1, .ref t2, .ref t3, .ref t4, .int 0, .ref t5, .ref t6, .ref t7])), (dr, .inr (7, [.ref dg, .int 0, .int 0, .int 0, .int 0, .ref d0, .int 0, .ref d1, .ref d2, .ref d3, .ref d4, .int 0, .ref d5, .ref d6, .ref d7])), (dg, .inr (4, [.int 0, .int 0, .int 0, .ref dq])), (gu, .inr (5, [.ref u0, .ref u1, .int 0])), (b0, .inl (cy 0, 800, .inl ((fun _ => 0)))), (ob, .inl (cy 2, 1, .inr (.inl ((fun _ => 0)))))] H := hP
  have hD : va_D (fun q : Nat => s.heap.size ≤ q) [(tp, .inr (8, [.ref bt, .int 0, .int 0, .int 0, .int 0, .int 0, .int 0, .int 0, .int 0])), (bt, .inl (cy 0, 800, .inl ((fun _ => 0)))), (td, .inr (7, [.ref tg, .int 0, .int 0, .int 0, .int 0, .ref t0, .int 0, .ref t1, .ref t2, .ref t3, .ref t4, .int 0, .ref t5, .ref t6, .ref t7])), (dr, .inr (7, [.ref dg, .int 0, .int 0, .int 0, .int 0, .ref d0, .int 0, .ref d1, .ref d2, .ref d3, .ref d4, .int 0, .ref d5, .ref d6, .ref d7])), (dg, .inr (4, [.int 0, .int 0, .int 0, .ref dq])), (gu, .inr (5, [.ref u0, .ref u1, .int 0])), (b0, .inl (cy 0, 800, .inl ((fun _ => 0)))), (ob, .inl (cy 2, 1, .inr (.inl ((fun _ => 0)))))] := hD
  have er_8 : r_8 = -1 := k_9
  subst er_8
  refine lv_icmp_eq (tgt := 1956) hx hb dL_law_1377 (by decide) (fun _ => ?_) (fun h_11 => absurd (by decide) h_11)
  exact law_end hl9 C0 X hZ (Nat.le_of_ble_eq_true rfl) (Nat.le_of_ble_eq_true rfl) hS (lv_sub hl [0, 4] rfl)
set_option maxHeartbeats 4000000 in
set_option maxRecDepth 100000 in
theorem law_c36 (hl9 : l.stackTraces = false) (C0 : lw_At p s m meth c b 6 xs) (X : fx p s m c code 7 #[Value.ref b] RL dC dI cy) (hZ : zx (fun q : Nat => s.heap.size ≤ q) s s.heap) (xx tp bt nw gr gs n1 n2 n3 tr kp im wy ow fl cs ds gu u0 u1 fc td tg t0 t1 t2 t3 t4 t5 t6 t7 dr dg dq d0 d1 d2 d3 d4 d5 d6 d7 mm b0 b1 b2 b3 b4 b5 b6 b7 b8 ob : Nat) (hP : va_P (dC, dI) vwCl [(xx, .inr (10, [.ref tp, .ref nw, .ref tr, .ref kp, .ref im, .ref wy, .ref ow, .ref fl, .ref cs, .ref ds, .ref gu, .ref fc, .ref td, .ref dr, .int 0, .int 0, .int 0])), (tp, .inr (8, [.ref bt, .int 0, .int 0, .int 0, .int 0, .int 0, .int 0, .int 0, .int 0])), (bt, .inl (cy 0, 800, .inl ((fun _ => 0)))), (nw, .inr (6, [.ref gr, .ref n1, .ref n2, .ref n3, .int 0])), (gr, .inr (4, [.int 0, .int 0, .int 0, .ref gs])), (td, .inr (7, [.ref tg, .int 0, .int 0, .int 0, .int 0, .ref t0, .int 0, .ref t1, .ref t2, .ref t3, .ref t4, .int 0, .ref t5, .ref t6, .ref t7])), (dr, .inr (7, [.ref dg, .int 0, .int 0, .int 0, .int 0, .ref d0, .int 0, .ref d1, .ref d2, .ref d3, .ref d4, .int 0, .ref d5, .ref d6, .ref d7])), (dg, .inr (4, [.int 0, .int 0, .int 0, .ref dq])), (gu, .inr (5, [.ref u0, .ref u1, .int 0])), (mm, .inr (12, [.int 0, .int 0, .int (-1), .null, .null, .ref b0, .int 0, .int 0, .int 0, .int 0, .int 0, .int 0, .int 0, .int 0, .int 0, .long 0, .ref b1, .ref b2, .ref b3, .ref b4, .int 0, .int 0, .ref b5, .ref b6, .ref b7, .int 0, .ref b8, .int 0, .int 0, .int 0, .int 0])), (b0, .inl (cy 0, 800, .inl ((fun _ => 0)))), (ob, .inl (cy 2, 1, .inr (.inl ((fun _ => 0)))))] H) (hD : va_D (fun q : Nat => s.heap.size ≤ q) [(xx, .inr (10, [.ref tp, .ref nw, .ref tr, .ref kp, .ref im, .ref wy, .ref ow, .ref fl, .ref cs, .ref ds, .ref gu, .ref fc, .ref td, .ref dr, .int 0, .int 0, .int 0])), (tp, .inr (8, [.ref bt, .int 0, .int 0, .int 0, .int 0, .int 0, .int 0, .int 0, .int 0])), (bt, .inl (cy 0, 800, .inl ((fun _ => 0)))), (nw, .inr (6, [.ref gr, .ref n1, .ref n2, .ref n3, .int 0])), (gr, .inr (4, [.int 0, .int 0, .int 0, .ref gs])), (td, .inr (7, [.ref tg, .int 0, .int 0, .int 0, .int 0, .ref t0, .int 0, .ref t1, .ref t2, .ref t3, .ref t4, .int 0, .ref t5, .ref t6, .ref t7])), (dr, .inr (7, [.ref dg, .int 0, .int 0, .int 0, .int 0, .ref d0, .int 0, .ref d1, .ref d2, .ref d3, .ref d4, .int 0, .ref d5, .ref d6, .ref d7])), (dg, .inr (4, [.int 0, .int 0, .int 0, .ref dq])), (gu, .inr (5, [.ref u0, .ref u1, .int 0])), (mm, .inr (12, [.int 0, .int 0, .int (-1), .null, .null, .ref b0, .int 0, .int 0, .int 0, .int 0, .int 0, .int 0, .int 0, .int 0, .int 0, .long 0, .ref b1, .ref b2, .ref b3, .ref b4, .int 0, .int 0, .ref b5, .ref b6, .ref b7, .int 0, .ref b8, .int 0, .int 0, .int 0, .int 0])), (b0, .inl (cy 0, 800, .inl ((fun _ => 0)))), (ob, .inl (cy 2, 1, .inr (.inl ((fun _ => 0)))))]) (hS : va_S (fun q : Nat => s.heap.size ≤ q) s.heap H locs) (hl : lv_has ls 7 [(4, .int 0), (3, .ref ob), (2, .ref mm), (1, .ref xx), (0, .ref b)]) : W p l e room_1 s m #[Value.ref b] below meth c H locs 211 4770 (lw_Z below #[Value.ref b] s) (F0 m 1382 ls []) := by
  have C0' := C0
  obtain ⟨-, -, hr, -, -, -, hX, hbl, hlocks, -⟩ := C0'
  have hx := X.1
  have hb := X.2.1
  have hK := X.2.2.2.2.2.1
  have hA : ∀ q : Nat, s.heap.size ≤ q → (fun q : Nat => s.heap.size ≤ q) q := fun _ h => h
  have hbA : ¬ (fun q : Nat => s.heap.size ≤ q) b := Nat.not_le.mpr hbl
  refine lv_aload_n hx hb dL_law_1382 rfl (lv_at hl 3 rfl) ?_
  refine lv_aload_n hx hb dL_law_1383 rfl (lv_at hl 4 rfl) ?_
  refine lv_iload hx hb dL_law_1384 (lv_at hl 0 rfl) ?_
  refine lv_iconst (v := 1) hx hb dL_law_1386 (by decide) ?_
  refine lv_iadd hx hb dL_law_1387 ?_
  refine lv_topi (fun x_1 ex_1 => ?_)
  have ex_1 : x_1 = 1 := ex_1.trans (by decide)
  subst ex_1
  refine va_sld hx hb hX hbl hbA hS (i := 1) (by unfold vp_in; decide) dL_law_1388 ?_
  refine lv_topi (fun x_2 ex_2 => ?_)
  refine fI (wr := [(tp, .inr (8, [.ref bt, .int 0, .int 0, .int 0, .int 0, .int 0, .int 0, .int 0, .int 0])), (bt, .inl (cy 0, 800, .inl ((fun _ => 0)))), (td, .inr (7, [.ref tg, .int 0, .int 0, .int 0, .int 0, .ref t0, .int 0, .ref t1, .ref t2, .ref t3, .ref t4, .int 0, .ref t5, .ref t6, .ref t7])), (dr, .inr (7, [.ref dg, .int 0, .int 0, .int 0, .int 0, .ref d0, .int 0, .ref d1, .ref d2, .ref d3, .ref d4, .int 0, .ref d5, .ref d6, .ref d7])), (dg, .inr (4, [.int 0, .int 0, .int 0, .ref dq])), (gu, .inr (5, [.ref u0, .ref u1, .int 0])), (mm, .inr (12, [.int 0, .int 0, .int (-1), .null, .null, .ref b0, .int 0, .int 0, .int 0, .int 0, .int 0, .int 0, .int 0, .int 0, .int 0, .long 0, .ref b1, .ref b2, .ref b3, .ref b4, .int 0, .int 0, .ref b5, .ref b6, .ref b7, .int 0, .ref b8, .int 0, .int 0, .int 0, .int 0])), (b0, .inl (cy 0, 800, .inl ((fun _ => 0)))), (ob, .inl (cy 2, 1, .inr (.inl ((fun _ => 0)))))]) (rV_I (wc := [(xx, .inr (10, [.ref tp, .ref nw, .ref tr, .ref kp, .ref im, .ref wy, .ref ow, .ref fl, .ref cs, .ref ds, .ref gu, .ref fc, .ref td, .ref dr, .int 0, .int 0, .int 0])), (nw, .inr (6, [.ref gr, .ref n1, .ref n2, .ref n3, .int 0])), (gr, .inr (4, [.int 0, .int 0, .int 0, .ref gs]))]) (As := [.int x_2]) (rest := []) X (tX11_rest l dC dI cy xx (.ref tp) nw (.ref tr) (.ref kp) (.ref im) (.ref wy) (.ref ow) (.ref fl) (.ref cs) (.ref ds) (.ref gu) (.ref fc) (.ref td) (.ref dr) (.int 0) (.int 0) (.int 0) gr gs n1 n2 n3 x_2) kX11_rest vX11_rest mL_170 hP hD [0, 3, 4] (by decide) rfl 0 (ci := 10) rfl rfl rfl hl rfl rfl (Nat.le_of_ble_eq_true rfl) dL_law_1389 ⟨Nat.le_of_ble_eq_true rfl, Nat.le_of_ble_eq_true rfl⟩ ⟨Nat.le_of_ble_eq_true rfl, Nat.le_of_ble_eq_true rfl⟩) hP hD hS hA [0, 3, 4] [1, 2, 5, 6, 7, 8, 9, 10, 11] rfl rfl (by decide) (by decide) (fun r_3 u_5 H locs k_4 hP hD hS => ?_)
  have hP : va_P (dC, dI) vwCl [(tp, .inr (8, [.ref bt, .int 0, .int 0, .int 0, .int 0, .int 0, .int 0, .int 0, .int 0])), (bt, .inl (cy 0, 800, .inl ((fun _ => 0)))), (td, .inr (7, [.ref tg, .int 0, .int 0, .int 0, .int 0, .ref t0, .int 0, .ref t1, .ref t2, .ref t3, .ref t4, .int 0, .ref t5, .ref t6, .ref t7])), (dr, .inr (7, [.ref dg, .int 0, .int 0, .int 0, .int 0, .ref d0, .int 0, .ref d1, .ref d2, .ref d3, .ref d4, .int 0, .ref d5, .ref d6, .ref d7])), (dg, .inr (4, [.int 0, .int 0, .int 0, .ref dq])), (gu, .inr (5, [.ref u0, .ref u1, .int 0])), (mm, .inr (12, [.int 0, .int 0, .int (-1), .null, .null, .ref b0, .int 0, .int 0, .int 0, .int 0, .int 0, .int 0, .int 0, .int 0, .int 0, .long 0, .ref b1, .ref b2, .ref b3, .ref b4, .int 0, .int 0, .ref b5, .ref b6, .ref b7, .int 0, .ref b8, .int 0, .int 0, .int 0, .int 0])), (b0, .inl (cy 0, 800, .inl ((fun _ => 0)))), (ob, .inl (cy 2, 1, .inr (.inl ((fun _ => 0)))))] H := hP
  have hD : va_D (fun q : Nat => s.heap.size ≤ q) [(tp, .inr (8, [.ref bt, .int 0, .int 0, .int 0, .int 0, .int 0, .int 0, .int 0, .int 0])), (bt, .inl (cy 0, 800, .inl ((fun _ => 0)))), (td, .inr (7, [.ref tg, .int 0, .int 0, .int 0, .int 0, .ref t0, .int 0, .ref t1, .ref t2, .ref t3, .ref t4, .int 0, .ref t5, .ref t6, .ref t7])), (dr, .inr (7, [.ref dg, .int 0, .int 0, .int 0, .int 0, .ref d0, .int 0, .ref d1, .ref d2, .ref d3, .ref d4, .int 0, .ref d5, .ref d6, .ref d7])), (dg, .inr (4, [.int 0, .int 0, .int 0, .ref dq])), (gu, .inr (5, [.ref u0, .ref u1, .int 0])), (mm, .inr (12, [.int 0, .int 0, .int (-1), .null, .null, .ref b0, .int 0, .int 0, .int 0, .int 0, .int 0, .int 0, .int 0, .int 0, .int 0, .long 0, .ref b1, .ref b2, .ref b3, .ref b4, .int 0, .int 0, .ref b5, .ref b6, .ref b7, .int 0, .ref b8, .int 0, .int 0, .int 0, .int 0])), (b0, .inl (cy 0, 800, .inl ((fun _ => 0)))), (ob, .inl (cy 2, 1, .inr (.inl ((fun _ => 0)))))] := hD
  have er_3 : r_3 = -1 := k_4
  subst er_3
  refine lv_aload_n hx hb dL_law_1392 rfl (lv_at hl 2 rfl) ?_
  refine lv_aload_n hx hb dL_law_1393 rfl (lv_at hl 4 rfl) ?_
  refine lv_iload hx hb dL_law_1394 (lv_at hl 0 rfl) ?_
  refine lv_iconst (v := 1) hx hb dL_law_1396 (by decide) ?_
  refine lv_iadd hx hb dL_law_1397 ?_
  refine lv_topi (fun x_6 ex_6 => ?_)
  have ex_6 : x_6 = 1 := ex_6.trans (by decide)
  subst ex_6
  refine va_sld hx hb hX hbl hbA hS (i := 1) (by unfold vp_in; decide) dL_law_1398 ?_
  refine lv_topi (fun x_7 ex_7 => ?_)
  refine fI (wr := [(tp, .inr (8, [.ref bt, .int 0, .int 0, .int 0, .int 0, .int 0, .int 0, .int 0, .int 0])), (bt, .inl (cy 0, 800, .inl ((fun _ => 0)))), (td, .inr (7, [.ref tg, .int 0, .int 0, .int 0, .int 0, .ref t0, .int 0, .ref t1, .ref t2, .ref t3, .ref t4, .int 0, .ref t5, .ref t6, .ref t7])), (dr, .inr (7, [.ref dg, .int 0, .int 0, .int 0, .int 0, .ref d0, .int 0, .ref d1, .ref d2, .ref d3, .ref d4, .int 0, .ref d5, .ref d6, .ref d7])), (dg, .inr (4, [.int 0, .int 0, .int 0, .ref dq])), (gu, .inr (5, [.ref u0, .ref u1, .int 0])), (b0, .inl (cy 0, 800, .inl ((fun _ => 0)))), (ob, .inl (cy 2, 1, .inr (.inl ((fun _ => 0)))))]) (rV_I (wc := [(mm, .inr (12, [.int 0, .int 0, .int (-1), .null, .null, .ref b0, .int 0, .int 0, .int 0, .int 0, .int 0, .int 0, .int 0, .int 0, .int 0, .long 0, .ref b1, .ref b2, .ref b3, .ref b4, .int 0, .int 0, .ref b5, .ref b6, .ref b7, .int 0, .ref b8, .int 0, .int 0, .int 0, .int 0]))]) (As := [.int x_7]) (rest := [.int (-1)]) X (tX13_rest l dC dI cy mm 0 0 (-1) .null (.ref b0) 0 0 0 0 0 0 0 0 0 0 (.ref b1) (.ref b2) (.ref b3) (.ref b4) 0 0 (.ref b5) (.ref b6) (.ref b7) 0 (.ref b8) 0 0 0 0 x_7) kX13_rest vX13_rest mL_173 hP hD [6] (by decide) rfl 0 (ci := 12) rfl rfl rfl hl rfl rfl (Nat.le_of_ble_eq_true rfl) dL_law_1399 ⟨Nat.le_of_ble_eq_true rfl, Nat.le_of_ble_eq_true rfl⟩ ⟨Nat.le_of_ble_eq_true rfl, Nat.le_of_ble_eq_true rfl⟩) hP hD hS hA [6] [0, 1, 2, 3, 4, 5, 7, 8] rfl rfl (by decide) (by decide) (fun r_8 u_10 H locs k_9 hP hD hS => ?_)
  have hP : va_P (dC, dI) vwCl [(tp, .inr (8, [.ref bt, .int 0, .int 0, .int 0, .int 0, .int 0, .int 0, .int 0, .int 0])), (bt, .inl (cy 0, 800, .inl ((fun _ => 0)))), (td, .inr (7, [.ref tg, .int 0, .int 0, .int 0, .int 0, .ref t0, .int 0, .ref t1, .ref t2, .ref t3, .ref t4, .int 0, .ref t5, .ref t6, .ref t7])), (dr, .inr (7, [.ref dg, .int 0, .int 0, .int 0, .int 0, .ref d0, .int 0, .ref d1, .ref d2, .ref d3, .ref d4, .int 0, .ref d5, .ref d6, .ref d7])), (dg, .inr (4, [.int 0, .int 0, .int 0, .ref dq])), (gu, .inr (5, [.ref u0, .ref u1, .int 0])), (b0, .inl (cy 0, 800, .inl ((fun _ => 0)))), (ob, .inl (cy 2, 1, .inr (.inl ((fun _ => 0)))))] H := hP
  have hD : va_D (fun q : Nat => s.heap.size ≤ q) [(tp, .inr (8, [.ref bt, .int 0, .int 0, .int 0, .int 0, .int 0, .int 0, .int 0, .int 0])), (bt, .inl (cy 0, 800, .inl ((fun _ => 0)))), (td, .inr (7, [.ref tg, .int 0, .int 0, .int 0, .int 0, .ref t0, .int 0, .ref t1, .ref t2, .ref t3, .ref t4, .int 0, .ref t5, .ref t6, .ref t7])), (dr, .inr (7, [.ref dg, .int 0, .int 0, .int 0, .int 0, .ref d0, .int 0, .ref d1, .ref d2, .ref d3, .ref d4, .int 0, .ref d5, .ref d6, .ref d7])), (dg, .inr (4, [.int 0, .int 0, .int 0, .ref dq])), (gu, .inr (5, [.ref u0, .ref u1, .int 0])), (b0, .inl (cy 0, 800, .inl ((fun _ => 0)))), (ob, .inl (cy 2, 1, .inr (.inl ((fun _ => 0)))))] := hD
  have er_8 : r_8 = -1 := k_9
  subst er_8
  refine lv_icmp_eq (tgt := 1956) hx hb dL_law_1402 (by decide) (fun _ => ?_) (fun h_11 => absurd (by decide) h_11)
  exact law_end hl9 C0 X hZ (Nat.le_of_ble_eq_true rfl) (Nat.le_of_ble_eq_true rfl) hS (lv_sub hl [0, 4] rfl)
set_option maxHeartbeats 4000000 in
set_option maxRecDepth 100000 in
theorem law_c37 (hl9 : l.stackTraces = false) (C0 : lw_At p s m meth c b 6 xs) (X : fx p s m c code 7 #[Value.ref b] RL dC dI cy) (hZ : zx (fun q : Nat => s.heap.size ≤ q) s s.heap) (xx tp bt nw gr gs n1 n2 n3 tr kp im wy ow fl cs ds gu u0 u1 fc td tg t0 t1 t2 t3 t4 t5 t6 t7 dr dg dq d0 d1 d2 d3 d4 d5 d6 d7 mm b0 b1 b2 b3 b4 b5 b6 b7 b8 ob : Nat) (hP : va_P (dC, dI) vwCl [(xx, .inr (10, [.ref tp, .ref nw, .ref tr, .ref kp, .ref im, .ref wy, .ref ow, .ref fl, .ref cs, .ref ds, .ref gu, .ref fc, .ref td, .ref dr, .int 0, .int 0, .int 0])), (tp, .inr (8, [.ref bt, .int 0, .int 0, .int 0, .int 0, .int 0, .int 0, .int 0, .int 0])), (bt, .inl (cy 0, 800, .inl ((fun _ => 0)))), (nw, .inr (6, [.ref gr, .ref n1, .ref n2, .ref n3, .int 0])), (gr, .inr (4, [.int 0, .int 0, .int 0, .ref gs])), (td, .inr (7, [.ref tg, .int 0, .int 0, .int 0, .int 0, .ref t0, .int 0, .ref t1, .ref t2, .ref t3, .ref t4, .int 0, .ref t5, .ref t6, .ref t7])), (dr, .inr (7, [.ref dg, .int 0, .int 0, .int 0, .int 0, .ref d0, .int 0, .ref d1, .ref d2, .ref d3, .ref d4, .int 0, .ref d5, .ref d6, .ref d7])), (dg, .inr (4, [.int 0, .int 0, .int 0, .ref dq])), (gu, .inr (5, [.ref u0, .ref u1, .int 0])), (mm, .inr (12, [.int 0, .int 0, .int (-1), .null, .null, .ref b0, .int 0, .int 0, .int 0, .int 0, .int 0, .int 0, .int 0, .int 0, .int 0, .long 0, .ref b1, .ref b2, .ref b3, .ref b4, .int 0, .int 0, .ref b5, .ref b6, .ref b7, .int 0, .ref b8, .int 0, .int 0, .int 0, .int 0])), (b0, .inl (cy 0, 800, .inl ((fun _ => 0)))), (ob, .inl (cy 2, 1, .inr (.inl ((fun _ => 0)))))] H) (hD : va_D (fun q : Nat => s.heap.size ≤ q) [(xx, .inr (10, [.ref tp, .ref nw, .ref tr, .ref kp, .ref im, .ref wy, .ref ow, .ref fl, .ref cs, .ref ds, .ref gu, .ref fc, .ref td, .ref dr, .int 0, .int 0, .int 0])), (tp, .inr (8, [.ref bt, .int 0, .int 0, .int 0, .int 0, .int 0, .int 0, .int 0, .int 0])), (bt, .inl (cy 0, 800, .inl ((fun _ => 0)))), (nw, .inr (6, [.ref gr, .ref n1, .ref n2, .ref n3, .int 0])), (gr, .inr (4, [.int 0, .int 0, .int 0, .ref gs])), (td, .inr (7, [.ref tg, .int 0, .int 0, .int 0, .int 0, .ref t0, .int 0, .ref t1, .ref t2, .ref t3, .ref t4, .int 0, .ref t5, .ref t6, .ref t7])), (dr, .inr (7, [.ref dg, .int 0, .int 0, .int 0, .int 0, .ref d0, .int 0, .ref d1, .ref d2, .ref d3, .ref d4, .int 0, .ref d5, .ref d6, .ref d7])), (dg, .inr (4, [.int 0, .int 0, .int 0, .ref dq])), (gu, .inr (5, [.ref u0, .ref u1, .int 0])), (mm, .inr (12, [.int 0, .int 0, .int (-1), .null, .null, .ref b0, .int 0, .int 0, .int 0, .int 0, .int 0, .int 0, .int 0, .int 0, .int 0, .long 0, .ref b1, .ref b2, .ref b3, .ref b4, .int 0, .int 0, .ref b5, .ref b6, .ref b7, .int 0, .ref b8, .int 0, .int 0, .int 0, .int 0])), (b0, .inl (cy 0, 800, .inl ((fun _ => 0)))), (ob, .inl (cy 2, 1, .inr (.inl ((fun _ => 0)))))]) (hS : va_S (fun q : Nat => s.heap.size ≤ q) s.heap H locs) (hl : lv_has ls 7 [(4, .int 0), (3, .ref ob), (2, .ref mm), (1, .ref xx), (0, .ref b)]) : W p l e room_1 s m #[Value.ref b] below meth c H locs 211 4770 (lw_Z below #[Value.ref b] s) (F0 m 1407 ls []) := by
  have C0' := C0
  obtain ⟨-, -, hr, -, -, -, hX, hbl, hlocks, -⟩ := C0'
  have hx := X.1
  have hb := X.2.1
  have hK := X.2.2.2.2.2.1
  have hA : ∀ q : Nat, s.heap.size ≤ q → (fun q : Nat => s.heap.size ≤ q) q := fun _ h => h
  have hbA : ¬ (fun q : Nat => s.heap.size ≤ q) b := Nat.not_le.mpr hbl
  refine lv_aload_n hx hb dL_law_1407 rfl (lv_at hl 3 rfl) ?_
  refine lv_aload_n hx hb dL_law_1408 rfl (lv_at hl 4 rfl) ?_
  refine lv_iload hx hb dL_law_1409 (lv_at hl 0 rfl) ?_
  refine lv_iconst (v := 1) hx hb dL_law_1411 (by decide) ?_
  refine lv_iadd hx hb dL_law_1412 ?_
  refine lv_topi (fun x_1 ex_1 => ?_)
  have ex_1 : x_1 = 1 := ex_1.trans (by decide)
  subst ex_1
  refine va_sld hx hb hX hbl hbA hS (i := 1) (by unfold vp_in; decide) dL_law_1413 ?_
  refine lv_topi (fun x_2 ex_2 => ?_)
  refine lv_aload_n hx hb dL_law_1414 rfl (lv_at hl 4 rfl) ?_
  refine lv_iload hx hb dL_law_1415 (lv_at hl 0 rfl) ?_
  refine lv_iconst (v := 2) hx hb dL_law_1417 (by decide) ?_
  refine lv_iadd hx hb dL_law_1418 ?_
  refine lv_topi (fun x_3 ex_3 => ?_)
  have ex_3 : x_3 = 2 := ex_3.trans (by decide)
  subst ex_3
  refine va_sld hx hb hX hbl hbA hS (i := 2) (by unfold vp_in; decide) dL_law_1419 ?_
  refine lv_topi (fun x_4 ex_4 => ?_)
  refine lv_aload_n hx hb dL_law_1420 rfl (lv_at hl 4 rfl) ?_
  refine lv_iload hx hb dL_law_1421 (lv_at hl 0 rfl) ?_
  refine lv_iconst (v := 3) hx hb dL_law_1423 (by decide) ?_
  refine lv_iadd hx hb dL_law_1424 ?_
  refine lv_topi (fun x_5 ex_5 => ?_)
  have ex_5 : x_5 = 3 := ex_5.trans (by decide)
  subst ex_5
  refine va_sld hx hb hX hbl hbA hS (i := 3) (by unfold vp_in; decide) dL_law_1425 ?_
  refine lv_topi (fun x_6 ex_6 => ?_)
  suffices hz_7 : ∀ z : Int32, W p l e room_1 s m #[Value.ref b] below meth c H locs 211 4770 (lw_Z below #[Value.ref b] s) (F0 m 1434 ls (.int z :: [.int x_4, .int x_2, .ref xx])) from by
      refine lv_if_eq (tgt := 1433) hx hb dL_law_1426 (by decide) (fun _ => ?_) (fun _ => ?_)
      · refine lv_iconst (v := 0) hx hb dL_law_1433 (by decide) ?_
        exact hz_7 0
      · refine lv_iconst (v := 1) hx hb dL_law_1429 (by decide) ?_
        refine lv_goto (tgt := 1434) hx hb dL_law_1430 (by decide) ?_
        exact hz_7 1
  intro z_7
  refine fL (wr := [(tp, .inr (8, [.ref bt, .int 0, .int 0, .int 0, .int 0, .int 0, .int 0, .int 0, .int 0])), (bt, .inl (cy 0, 800, .inl ((fun _ => 0)))), (nw, .inr (6, [.ref gr, .ref n1, .ref n2, .ref n3, .int 0])), (gr, .inr (4, [.int 0, .int 0, .int 0, .ref gs])), (dr, .inr (7, [.ref dg, .int 0, .int 0, .int 0, .int 0, .ref d0, .int 0, .ref d1, .ref d2, .ref d3, .ref d4, .int 0, .ref d5, .ref d6, .ref d7])), (dg, .inr (4, [.int 0, .int 0, .int 0, .ref dq])), (gu, .inr (5, [.ref u0, .ref u1, .int 0])), (mm, .inr (12, [.int 0, .int 0, .int (-1), .null, .null, .ref b0, .int 0, .int 0, .int 0, .int 0, .int 0, .int 0, .int 0, .int 0, .int 0, .long 0, .ref b1, .ref b2, .ref b3, .ref b4, .int 0, .int 0, .ref b5, .ref b6, .ref b7, .int 0, .ref b8, .int 0, .int 0, .int 0, .int 0])), (b0, .inl (cy 0, 800, .inl ((fun _ => 0)))), (ob, .inl (cy 2, 1, .inr (.inl ((fun _ => 0)))))]) (rV_L (wc := [(xx, .inr (10, [.ref tp, .ref nw, .ref tr, .ref kp, .ref im, .ref wy, .ref ow, .ref fl, .ref cs, .ref ds, .ref gu, .ref fc, .ref td, .ref dr, .int 0, .int 0, .int 0])), (td, .inr (7, [.ref tg, .int 0, .int 0, .int 0, .int 0, .ref t0, .int 0, .ref t1, .ref t2, .ref t3, .ref t4, .int 0, .ref t5, .ref t6, .ref t7]))]) (As := [.int x_2, .int x_4, .int z_7]) (rest := []) X (tX11_fallOdds l dC dI cy xx (.ref tp) (.ref nw) (.ref tr) (.ref kp) (.ref im) (.ref wy) (.ref ow) (.ref fl) (.ref cs) (.ref ds) (.ref gu) (.ref fc) td (.ref dr) (.int 0) (.int 0) (.int 0) tg t0 t1 t2 t3 t4 t5 t6 t7 x_2 x_4 z_7) kX11_fallOdds vX11_fallOdds mL_174 hP hD [0, 5] (by decide) rfl 0 (ci := 10) rfl rfl rfl hl rfl rfl (Nat.le_of_ble_eq_true rfl) dL_law_1434 ⟨Nat.le_of_ble_eq_true rfl, Nat.le_of_ble_eq_true rfl⟩ ⟨Nat.le_of_ble_eq_true rfl, Nat.le_of_ble_eq_true rfl⟩) hP hD hS hA [0, 5] [1, 2, 3, 4, 6, 7, 8, 9, 10, 11] rfl rfl (by decide) (by decide) (fun r_8 u_10 H locs k_9 hP hD hS => ?_)
  have hP : va_P (dC, dI) vwCl [(tp, .inr (8, [.ref bt, .int 0, .int 0, .int 0, .int 0, .int 0, .int 0, .int 0, .int 0])), (bt, .inl (cy 0, 800, .inl ((fun _ => 0)))), (nw, .inr (6, [.ref gr, .ref n1, .ref n2, .ref n3, .int 0])), (gr, .inr (4, [.int 0, .int 0, .int 0, .ref gs])), (dr, .inr (7, [.ref dg, .int 0, .int 0, .int 0, .int 0, .ref d0, .int 0, .ref d1, .ref d2, .ref d3, .ref d4, .int 0, .ref d5, .ref d6, .ref d7])), (dg, .inr (4, [.int 0, .int 0, .int 0, .ref dq])), (gu, .inr (5, [.ref u0, .ref u1, .int 0])), (mm, .inr (12, [.int 0, .int 0, .int (-1), .null, .null, .ref b0, .int 0, .int 0, .int 0, .int 0, .int 0, .int 0, .int 0, .int 0, .int 0, .long 0, .ref b1, .ref b2, .ref b3, .ref b4, .int 0, .int 0, .ref b5, .ref b6, .ref b7, .int 0, .ref b8, .int 0, .int 0, .int 0, .int 0])), (b0, .inl (cy 0, 800, .inl ((fun _ => 0)))), (ob, .inl (cy 2, 1, .inr (.inl ((fun _ => 0)))))] H := hP
  have hD : va_D (fun q : Nat => s.heap.size ≤ q) [(tp, .inr (8, [.ref bt, .int 0, .int 0, .int 0, .int 0, .int 0, .int 0, .int 0, .int 0])), (bt, .inl (cy 0, 800, .inl ((fun _ => 0)))), (nw, .inr (6, [.ref gr, .ref n1, .ref n2, .ref n3, .int 0])), (gr, .inr (4, [.int 0, .int 0, .int 0, .ref gs])), (dr, .inr (7, [.ref dg, .int 0, .int 0, .int 0, .int 0, .ref d0, .int 0, .ref d1, .ref d2, .ref d3, .ref d4, .int 0, .ref d5, .ref d6, .ref d7])), (dg, .inr (4, [.int 0, .int 0, .int 0, .ref dq])), (gu, .inr (5, [.ref u0, .ref u1, .int 0])), (mm, .inr (12, [.int 0, .int 0, .int (-1), .null, .null, .ref b0, .int 0, .int 0, .int 0, .int 0, .int 0, .int 0, .int 0, .int 0, .int 0, .long 0, .ref b1, .ref b2, .ref b3, .ref b4, .int 0, .int 0, .ref b5, .ref b6, .ref b7, .int 0, .ref b8, .int 0, .int 0, .int 0, .int 0])), (b0, .inl (cy 0, 800, .inl ((fun _ => 0)))), (ob, .inl (cy 2, 1, .inr (.inl ((fun _ => 0)))))] := hD
  have er_8 : r_8 = -1 := k_9
  subst er_8
  refine lv_aload_n hx hb dL_law_1437 rfl (lv_at hl 2 rfl) ?_
  refine lv_aload_n hx hb dL_law_1438 rfl (lv_at hl 4 rfl) ?_
  refine lv_iload hx hb dL_law_1439 (lv_at hl 0 rfl) ?_
  refine lv_iconst (v := 1) hx hb dL_law_1441 (by decide) ?_
  refine lv_iadd hx hb dL_law_1442 ?_
  refine lv_topi (fun x_11 ex_11 => ?_)
  have ex_11 : x_11 = 1 := ex_11.trans (by decide)
  subst ex_11
  refine va_sld hx hb hX hbl hbA hS (i := 1) (by unfold vp_in; decide) dL_law_1443 ?_
  refine lv_topi (fun x_12 ex_12 => ?_)
  refine lv_aload_n hx hb dL_law_1444 rfl (lv_at hl 4 rfl) ?_
  refine lv_iload hx hb dL_law_1445 (lv_at hl 0 rfl) ?_
  refine lv_iconst (v := 2) hx hb dL_law_1447 (by decide) ?_
  refine lv_iadd hx hb dL_law_1448 ?_
  refine lv_topi (fun x_13 ex_13 => ?_)
  have ex_13 : x_13 = 2 := ex_13.trans (by decide)
  subst ex_13
  refine va_sld hx hb hX hbl hbA hS (i := 2) (by unfold vp_in; decide) dL_law_1449 ?_
  refine lv_topi (fun x_14 ex_14 => ?_)
  refine lv_aload_n hx hb dL_law_1450 rfl (lv_at hl 4 rfl) ?_
  refine lv_iload hx hb dL_law_1451 (lv_at hl 0 rfl) ?_
  refine lv_iconst (v := 3) hx hb dL_law_1453 (by decide) ?_
  refine lv_iadd hx hb dL_law_1454 ?_
  refine lv_topi (fun x_15 ex_15 => ?_)
  have ex_15 : x_15 = 3 := ex_15.trans (by decide)
  subst ex_15
  refine va_sld hx hb hX hbl hbA hS (i := 3) (by unfold vp_in; decide) dL_law_1455 ?_
  refine lv_topi (fun x_16 ex_16 => ?_)
  suffices hz_17 : ∀ z : Int32, W p l e room_1 s m #[Value.ref b] below meth c H locs 211 4770 (lw_Z below #[Value.ref b] s) (F0 m 1464 ls (.int z :: [.int x_14, .int x_12, .ref mm, .long (-1)])) from by
      refine lv_if_eq (tgt := 1463) hx hb dL_law_1456 (by decide) (fun _ => ?_) (fun _ => ?_)
      · refine lv_iconst (v := 0) hx hb dL_law_1463 (by decide) ?_
        exact hz_17 0
      · refine lv_iconst (v := 1) hx hb dL_law_1459 (by decide) ?_
        refine lv_goto (tgt := 1464) hx hb dL_law_1460 (by decide) ?_
        exact hz_17 1
  intro z_17
  refine fL (wr := [(tp, .inr (8, [.ref bt, .int 0, .int 0, .int 0, .int 0, .int 0, .int 0, .int 0, .int 0])), (bt, .inl (cy 0, 800, .inl ((fun _ => 0)))), (nw, .inr (6, [.ref gr, .ref n1, .ref n2, .ref n3, .int 0])), (gr, .inr (4, [.int 0, .int 0, .int 0, .ref gs])), (dr, .inr (7, [.ref dg, .int 0, .int 0, .int 0, .int 0, .ref d0, .int 0, .ref d1, .ref d2, .ref d3, .ref d4, .int 0, .ref d5, .ref d6, .ref d7])), (dg, .inr (4, [.int 0, .int 0, .int 0, .ref dq])), (gu, .inr (5, [.ref u0, .ref u1, .int 0])), (b0, .inl (cy 0, 800, .inl ((fun _ => 0)))), (ob, .inl (cy 2, 1, .inr (.inl ((fun _ => 0)))))]) (rV_L (wc := [(mm, .inr (12, [.int 0, .int 0, .int (-1), .null, .null, .ref b0, .int 0, .int 0, .int 0, .int 0, .int 0, .int 0, .int 0, .int 0, .int 0, .long 0, .ref b1, .ref b2, .ref b3, .ref b4, .int 0, .int 0, .ref b5, .ref b6, .ref b7, .int 0, .ref b8, .int 0, .int 0, .int 0, .int 0]))]) (As := [.int x_12, .int x_14, .int z_17]) (rest := [.long (-1)]) X (tX13_fallOdds l dC dI cy mm 0 0 (-1) .null (.ref b0) 0 0 0 0 0 0 0 0 0 0 (.ref b1) (.ref b2) (.ref b3) (.ref b4) 0 0 (.ref b5) (.ref b6) (.ref b7) 0 (.ref b8) 0 0 0 0 x_12 x_14 z_17) kX13_fallOdds vX13_fallOdds mL_177 hP hD [7] (by decide) rfl 0 (ci := 12) rfl rfl rfl hl rfl rfl (Nat.le_of_ble_eq_true rfl) dL_law_1464 ⟨Nat.le_of_ble_eq_true rfl, Nat.le_of_ble_eq_true rfl⟩ ⟨Nat.le_of_ble_eq_true rfl, Nat.le_of_ble_eq_true rfl⟩) hP hD hS hA [7] [0, 1, 2, 3, 4, 5, 6, 8, 9] rfl rfl (by decide) (by decide) (fun r_18 u_20 H locs k_19 hP hD hS => ?_)
  have hP : va_P (dC, dI) vwCl [(tp, .inr (8, [.ref bt, .int 0, .int 0, .int 0, .int 0, .int 0, .int 0, .int 0, .int 0])), (bt, .inl (cy 0, 800, .inl ((fun _ => 0)))), (nw, .inr (6, [.ref gr, .ref n1, .ref n2, .ref n3, .int 0])), (gr, .inr (4, [.int 0, .int 0, .int 0, .ref gs])), (dr, .inr (7, [.ref dg, .int 0, .int 0, .int 0, .int 0, .ref d0, .int 0, .ref d1, .ref d2, .ref d3, .ref d4, .int 0, .ref d5, .ref d6, .ref d7])), (dg, .inr (4, [.int 0, .int 0, .int 0, .ref dq])), (gu, .inr (5, [.ref u0, .ref u1, .int 0])), (b0, .inl (cy 0, 800, .inl ((fun _ => 0)))), (ob, .inl (cy 2, 1, .inr (.inl ((fun _ => 0)))))] H := hP
  have hD : va_D (fun q : Nat => s.heap.size ≤ q) [(tp, .inr (8, [.ref bt, .int 0, .int 0, .int 0, .int 0, .int 0, .int 0, .int 0, .int 0])), (bt, .inl (cy 0, 800, .inl ((fun _ => 0)))), (nw, .inr (6, [.ref gr, .ref n1, .ref n2, .ref n3, .int 0])), (gr, .inr (4, [.int 0, .int 0, .int 0, .ref gs])), (dr, .inr (7, [.ref dg, .int 0, .int 0, .int 0, .int 0, .ref d0, .int 0, .ref d1, .ref d2, .ref d3, .ref d4, .int 0, .ref d5, .ref d6, .ref d7])), (dg, .inr (4, [.int 0, .int 0, .int 0, .ref dq])), (gu, .inr (5, [.ref u0, .ref u1, .int 0])), (b0, .inl (cy 0, 800, .inl ((fun _ => 0)))), (ob, .inl (cy 2, 1, .inr (.inl ((fun _ => 0)))))] := hD
  have er_18 : r_18 = -1 := k_19
  subst er_18
  refine W.lcmp hx hb dL_law_1467 ?_
  refine lv_topi (fun x_21 ex_21 => ?_)
  have ex_21 : x_21 = 0 := ex_21.trans (by decide)
  subst ex_21
  refine lv_if_eq (tgt := 1956) hx hb dL_law_1468 (by decide) (fun _ => ?_) (fun h_22 => absurd (by decide) h_22)
  exact law_end hl9 C0 X hZ (Nat.le_of_ble_eq_true rfl) (Nat.le_of_ble_eq_true rfl) hS (lv_sub hl [0, 4] rfl)
set_option maxHeartbeats 4000000 in
set_option maxRecDepth 100000 in
theorem law_c38 (hl9 : l.stackTraces = false) (C0 : lw_At p s m meth c b 6 xs) (X : fx p s m c code 7 #[Value.ref b] RL dC dI cy) (hZ : zx (fun q : Nat => s.heap.size ≤ q) s s.heap) (xx tp bt nw gr gs n1 n2 n3 tr kp im wy ow fl cs ds gu u0 u1 fc td tg t0 t1 t2 t3 t4 t5 t6 t7 dr dg dq d0 d1 d2 d3 d4 d5 d6 d7 mm b0 b1 b2 b3 b4 b5 b6 b7 b8 ob : Nat) (hP : va_P (dC, dI) vwCl [(xx, .inr (10, [.ref tp, .ref nw, .ref tr, .ref kp, .ref im, .ref wy, .ref ow, .ref fl, .ref cs, .ref ds, .ref gu, .ref fc, .ref td, .ref dr, .int 0, .int 0, .int 0])), (tp, .inr (8, [.ref bt, .int 0, .int 0, .int 0, .int 0, .int 0, .int 0, .int 0, .int 0])), (bt, .inl (cy 0, 800, .inl ((fun _ => 0)))), (nw, .inr (6, [.ref gr, .ref n1, .ref n2, .ref n3, .int 0])), (gr, .inr (4, [.int 0, .int 0, .int 0, .ref gs])), (td, .inr (7, [.ref tg, .int 0, .int 0, .int 0, .int 0, .ref t0, .int 0, .ref t1, .ref t2, .ref t3, .ref t4, .int 0, .ref t5, .ref t6, .ref t7])), (dr, .inr (7, [.ref dg, .int 0, .int 0, .int 0, .int 0, .ref d0, .int 0, .ref d1, .ref d2, .ref d3, .ref d4, .int 0, .ref d5, .ref d6, .ref d7])), (dg, .inr (4, [.int 0, .int 0, .int 0, .ref dq])), (gu, .inr (5, [.ref u0, .ref u1, .int 0])), (mm, .inr (12, [.int 0, .int 0, .int (-1), .null, .null, .ref b0, .int 0, .int 0, .int 0, .int 0, .int 0, .int 0, .int 0, .int 0, .int 0, .long 0, .ref b1, .ref b2, .ref b3, .ref b4, .int 0, .int 0, .ref b5, .ref b6, .ref b7, .int 0, .ref b8, .int 0, .int 0, .int 0, .int 0])), (b0, .inl (cy 0, 800, .inl ((fun _ => 0)))), (ob, .inl (cy 2, 1, .inr (.inl ((fun _ => 0)))))] H) (hD : va_D (fun q : Nat => s.heap.size ≤ q) [(xx, .inr (10, [.ref tp, .ref nw, .ref tr, .ref kp, .ref im, .ref wy, .ref ow, .ref fl, .ref cs, .ref ds, .ref gu, .ref fc, .ref td, .ref dr, .int 0, .int 0, .int 0])), (tp, .inr (8, [.ref bt, .int 0, .int 0, .int 0, .int 0, .int 0, .int 0, .int 0, .int 0])), (bt, .inl (cy 0, 800, .inl ((fun _ => 0)))), (nw, .inr (6, [.ref gr, .ref n1, .ref n2, .ref n3, .int 0])), (gr, .inr (4, [.int 0, .int 0, .int 0, .ref gs])), (td, .inr (7, [.ref tg, .int 0, .int 0, .int 0, .int 0, .ref t0, .int 0, .ref t1, .ref t2, .ref t3, .ref t4, .int 0, .ref t5, .ref t6, .ref t7])), (dr, .inr (7, [.ref dg, .int 0, .int 0, .int 0, .int 0, .ref d0, .int 0, .ref d1, .ref d2, .ref d3, .ref d4, .int 0, .ref d5, .ref d6, .ref d7])), (dg, .inr (4, [.int 0, .int 0, .int 0, .ref dq])), (gu, .inr (5, [.ref u0, .ref u1, .int 0])), (mm, .inr (12, [.int 0, .int 0, .int (-1), .null, .null, .ref b0, .int 0, .int 0, .int 0, .int 0, .int 0, .int 0, .int 0, .int 0, .int 0, .long 0, .ref b1, .ref b2, .ref b3, .ref b4, .int 0, .int 0, .ref b5, .ref b6, .ref b7, .int 0, .ref b8, .int 0, .int 0, .int 0, .int 0])), (b0, .inl (cy 0, 800, .inl ((fun _ => 0)))), (ob, .inl (cy 2, 1, .inr (.inl ((fun _ => 0)))))]) (hS : va_S (fun q : Nat => s.heap.size ≤ q) s.heap H locs) (hl : lv_has ls 7 [(4, .int 0), (3, .ref ob), (2, .ref mm), (1, .ref xx), (0, .ref b)]) : W p l e room_1 s m #[Value.ref b] below meth c H locs 211 4770 (lw_Z below #[Value.ref b] s) (F0 m 1473 ls []) := by
  have C0' := C0
  obtain ⟨-, -, hr, -, -, -, hX, hbl, hlocks, -⟩ := C0'
  have hx := X.1
  have hb := X.2.1
  have hK := X.2.2.2.2.2.1
  have hA : ∀ q : Nat, s.heap.size ≤ q → (fun q : Nat => s.heap.size ≤ q) q := fun _ h => h
  have hbA : ¬ (fun q : Nat => s.heap.size ≤ q) b := Nat.not_le.mpr hbl
  refine lv_aload_n hx hb dL_law_1473 rfl (lv_at hl 3 rfl) ?_
  refine lv_aload_n hx hb dL_law_1474 rfl (lv_at hl 4 rfl) ?_
  refine lv_iload hx hb dL_law_1475 (lv_at hl 0 rfl) ?_
  refine lv_iconst (v := 1) hx hb dL_law_1477 (by decide) ?_
  refine lv_iadd hx hb dL_law_1478 ?_
  refine lv_topi (fun x_1 ex_1 => ?_)
  have ex_1 : x_1 = 1 := ex_1.trans (by decide)
  subst ex_1
  refine va_sld hx hb hX hbl hbA hS (i := 1) (by unfold vp_in; decide) dL_law_1479 ?_
  refine lv_topi (fun x_2 ex_2 => ?_)
  refine lv_aload_n hx hb dL_law_1480 rfl (lv_at hl 4 rfl) ?_
  refine lv_iload hx hb dL_law_1481 (lv_at hl 0 rfl) ?_
  refine lv_iconst (v := 2) hx hb dL_law_1483 (by decide) ?_
  refine lv_iadd hx hb dL_law_1484 ?_
  refine lv_topi (fun x_3 ex_3 => ?_)
  have ex_3 : x_3 = 2 := ex_3.trans (by decide)
  subst ex_3
  refine va_sld hx hb hX hbl hbA hS (i := 2) (by unfold vp_in; decide) dL_law_1485 ?_
  refine lv_topi (fun x_4 ex_4 => ?_)
  suffices hz_5 : ∀ z : Int32, W p l e room_1 s m #[Value.ref b] below meth c H locs 211 4770 (lw_Z below #[Value.ref b] s) (F0 m 1494 ls (.int z :: [.int x_2, .ref xx])) from by
      refine lv_if_eq (tgt := 1493) hx hb dL_law_1486 (by decide) (fun _ => ?_) (fun _ => ?_)
      · refine lv_iconst (v := 0) hx hb dL_law_1493 (by decide) ?_
        exact hz_5 0
      · refine lv_iconst (v := 1) hx hb dL_law_1489 (by decide) ?_
        refine lv_goto (tgt := 1494) hx hb dL_law_1490 (by decide) ?_
        exact hz_5 1
  intro z_5
  refine fL (wr := [(tp, .inr (8, [.ref bt, .int 0, .int 0, .int 0, .int 0, .int 0, .int 0, .int 0, .int 0])), (bt, .inl (cy 0, 800, .inl ((fun _ => 0)))), (nw, .inr (6, [.ref gr, .ref n1, .ref n2, .ref n3, .int 0])), (gr, .inr (4, [.int 0, .int 0, .int 0, .ref gs])), (dr, .inr (7, [.ref dg, .int 0, .int 0, .int 0, .int 0, .ref d0, .int 0, .ref d1, .ref d2, .ref d3, .ref d4, .int 0, .ref d5, .ref d6, .ref d7])), (dg, .inr (4, [.int 0, .int 0, .int 0, .ref dq])), (gu, .inr (5, [.ref u0, .ref u1, .int 0])), (mm, .inr (12, [.int 0, .int 0, .int (-1), .null, .null, .ref b0, .int 0, .int 0, .int 0, .int 0, .int 0, .int 0, .int 0, .int 0, .int 0, .long 0, .ref b1, .ref b2, .ref b3, .ref b4, .int 0, .int 0, .ref b5, .ref b6, .ref b7, .int 0, .ref b8, .int 0, .int 0, .int 0, .int 0])), (b0, .inl (cy 0, 800, .inl ((fun _ => 0)))), (ob, .inl (cy 2, 1, .inr (.inl ((fun _ => 0)))))]) (rV_L (wc := [(xx, .inr (10, [.ref tp, .ref nw, .ref tr, .ref kp, .ref im, .ref wy, .ref ow, .ref fl, .ref cs, .ref ds, .ref gu, .ref fc, .ref td, .ref dr, .int 0, .int 0, .int 0])), (td, .inr (7, [.ref tg, .int 0, .int 0, .int 0, .int 0, .ref t0, .int 0, .ref t1, .ref t2, .ref t3, .ref t4, .int 0, .ref t5, .ref t6, .ref t7]))]) (As := [.int x_2, .int z_5]) (rest := []) X (tX11_mean l dC dI cy xx (.ref tp) (.ref nw) (.ref tr) (.ref kp) (.ref im) (.ref wy) (.ref ow) (.ref fl) (.ref cs) (.ref ds) (.ref gu) (.ref fc) td (.ref dr) (.int 0) (.int 0) (.int 0) tg t0 t1 t2 t3 t4 t5 t6 t7 x_2 z_5) kX11_mean vX11_mean mL_178 hP hD [0, 5] (by decide) rfl 0 (ci := 10) rfl rfl rfl hl rfl rfl (Nat.le_of_ble_eq_true rfl) dL_law_1494 ⟨Nat.le_of_ble_eq_true rfl, Nat.le_of_ble_eq_true rfl⟩ ⟨Nat.le_of_ble_eq_true rfl, Nat.le_of_ble_eq_true rfl⟩) hP hD hS hA [0, 5] [1, 2, 3, 4, 6, 7, 8, 9, 10, 11] rfl rfl (by decide) (by decide) (fun r_6 u_8 H locs k_7 hP hD hS => ?_)
  have hP : va_P (dC, dI) vwCl [(tp, .inr (8, [.ref bt, .int 0, .int 0, .int 0, .int 0, .int 0, .int 0, .int 0, .int 0])), (bt, .inl (cy 0, 800, .inl ((fun _ => 0)))), (nw, .inr (6, [.ref gr, .ref n1, .ref n2, .ref n3, .int 0])), (gr, .inr (4, [.int 0, .int 0, .int 0, .ref gs])), (dr, .inr (7, [.ref dg, .int 0, .int 0, .int 0, .int 0, .ref d0, .int 0, .ref d1, .ref d2, .ref d3, .ref d4, .int 0, .ref d5, .ref d6, .ref d7])), (dg, .inr (4, [.int 0, .int 0, .int 0, .ref dq])), (gu, .inr (5, [.ref u0, .ref u1, .int 0])), (mm, .inr (12, [.int 0, .int 0, .int (-1), .null, .null, .ref b0, .int 0, .int 0, .int 0, .int 0, .int 0, .int 0, .int 0, .int 0, .int 0, .long 0, .ref b1, .ref b2, .ref b3, .ref b4, .int 0, .int 0, .ref b5, .ref b6, .ref b7, .int 0, .ref b8, .int 0, .int 0, .int 0, .int 0])), (b0, .inl (cy 0, 800, .inl ((fun _ => 0)))), (ob, .inl (cy 2, 1, .inr (.inl ((fun _ => 0)))))] H := hP
  have hD : va_D (fun q : Nat => s.heap.size ≤ q) [(tp, .inr (8, [.ref bt, .int 0, .int 0, .int 0, .int 0, .int 0, .int 0, .int 0, .int 0])), (bt, .inl (cy 0, 800, .inl ((fun _ => 0)))), (nw, .inr (6, [.ref gr, .ref n1, .ref n2, .ref n3, .int 0])), (gr, .inr (4, [.int 0, .int 0, .int 0, .ref gs])), (dr, .inr (7, [.ref dg, .int 0, .int 0, .int 0, .int 0, .ref d0, .int 0, .ref d1, .ref d2, .ref d3, .ref d4, .int 0, .ref d5, .ref d6, .ref d7])), (dg, .inr (4, [.int 0, .int 0, .int 0, .ref dq])), (gu, .inr (5, [.ref u0, .ref u1, .int 0])), (mm, .inr (12, [.int 0, .int 0, .int (-1), .null, .null, .ref b0, .int 0, .int 0, .int 0, .int 0, .int 0, .int 0, .int 0, .int 0, .int 0, .long 0, .ref b1, .ref b2, .ref b3, .ref b4, .int 0, .int 0, .ref b5, .ref b6, .ref b7, .int 0, .ref b8, .int 0, .int 0, .int 0, .int 0])), (b0, .inl (cy 0, 800, .inl ((fun _ => 0)))), (ob, .inl (cy 2, 1, .inr (.inl ((fun _ => 0)))))] := hD
  have er_6 : r_6 = -1 := k_7
  subst er_6
  refine lv_aload_n hx hb dL_law_1497 rfl (lv_at hl 2 rfl) ?_
  refine lv_aload_n hx hb dL_law_1498 rfl (lv_at hl 4 rfl) ?_
  refine lv_iload hx hb dL_law_1499 (lv_at hl 0 rfl) ?_
  refine lv_iconst (v := 1) hx hb dL_law_1501 (by decide) ?_
  refine lv_iadd hx hb dL_law_1502 ?_
  refine lv_topi (fun x_9 ex_9 => ?_)
  have ex_9 : x_9 = 1 := ex_9.trans (by decide)
  subst ex_9
  refine va_sld hx hb hX hbl hbA hS (i := 1) (by unfold vp_in; decide) dL_law_1503 ?_
  refine lv_topi (fun x_10 ex_10 => ?_)
  refine lv_aload_n hx hb dL_law_1504 rfl (lv_at hl 4 rfl) ?_
  refine lv_iload hx hb dL_law_1505 (lv_at hl 0 rfl) ?_
  refine lv_iconst (v := 2) hx hb dL_law_1507 (by decide) ?_
  refine lv_iadd hx hb dL_law_1508 ?_
  refine lv_topi (fun x_11 ex_11 => ?_)
  have ex_11 : x_11 = 2 := ex_11.trans (by decide)
  subst ex_11
  refine va_sld hx hb hX hbl hbA hS (i := 2) (by unfold vp_in; decide) dL_law_1509 ?_
  refine lv_topi (fun x_12 ex_12 => ?_)
  suffices hz_13 : ∀ z : Int32, W p l e room_1 s m #[Value.ref b] below meth c H locs 211 4770 (lw_Z below #[Value.ref b] s) (F0 m 1518 ls (.int z :: [.int x_10, .ref mm, .long (-1)])) from by
      refine lv_if_eq (tgt := 1517) hx hb dL_law_1510 (by decide) (fun _ => ?_) (fun _ => ?_)
      · refine lv_iconst (v := 0) hx hb dL_law_1517 (by decide) ?_
        exact hz_13 0
      · refine lv_iconst (v := 1) hx hb dL_law_1513 (by decide) ?_
        refine lv_goto (tgt := 1518) hx hb dL_law_1514 (by decide) ?_
        exact hz_13 1
  intro z_13
  refine fL (wr := [(tp, .inr (8, [.ref bt, .int 0, .int 0, .int 0, .int 0, .int 0, .int 0, .int 0, .int 0])), (bt, .inl (cy 0, 800, .inl ((fun _ => 0)))), (nw, .inr (6, [.ref gr, .ref n1, .ref n2, .ref n3, .int 0])), (gr, .inr (4, [.int 0, .int 0, .int 0, .ref gs])), (dr, .inr (7, [.ref dg, .int 0, .int 0, .int 0, .int 0, .ref d0, .int 0, .ref d1, .ref d2, .ref d3, .ref d4, .int 0, .ref d5, .ref d6, .ref d7])), (dg, .inr (4, [.int 0, .int 0, .int 0, .ref dq])), (gu, .inr (5, [.ref u0, .ref u1, .int 0])), (b0, .inl (cy 0, 800, .inl ((fun _ => 0)))), (ob, .inl (cy 2, 1, .inr (.inl ((fun _ => 0)))))]) (rV_L (wc := [(mm, .inr (12, [.int 0, .int 0, .int (-1), .null, .null, .ref b0, .int 0, .int 0, .int 0, .int 0, .int 0, .int 0, .int 0, .int 0, .int 0, .long 0, .ref b1, .ref b2, .ref b3, .ref b4, .int 0, .int 0, .ref b5, .ref b6, .ref b7, .int 0, .ref b8, .int 0, .int 0, .int 0, .int 0]))]) (As := [.int x_10, .int z_13]) (rest := [.long (-1)]) X (tX13_mean l dC dI cy mm 0 0 (-1) .null (.ref b0) 0 0 0 0 0 0 0 0 0 0 (.ref b1) (.ref b2) (.ref b3) (.ref b4) 0 0 (.ref b5) (.ref b6) (.ref b7) 0 (.ref b8) 0 0 0 0 x_10 z_13) kX13_mean vX13_mean mL_181 hP hD [7] (by decide) rfl 0 (ci := 12) rfl rfl rfl hl rfl rfl (Nat.le_of_ble_eq_true rfl) dL_law_1518 ⟨Nat.le_of_ble_eq_true rfl, Nat.le_of_ble_eq_true rfl⟩ ⟨Nat.le_of_ble_eq_true rfl, Nat.le_of_ble_eq_true rfl⟩) hP hD hS hA [7] [0, 1, 2, 3, 4, 5, 6, 8, 9] rfl rfl (by decide) (by decide) (fun r_14 u_16 H locs k_15 hP hD hS => ?_)
  have hP : va_P (dC, dI) vwCl [(tp, .inr (8, [.ref bt, .int 0, .int 0, .int 0, .int 0, .int 0, .int 0, .int 0, .int 0])), (bt, .inl (cy 0, 800, .inl ((fun _ => 0)))), (nw, .inr (6, [.ref gr, .ref n1, .ref n2, .ref n3, .int 0])), (gr, .inr (4, [.int 0, .int 0, .int 0, .ref gs])), (dr, .inr (7, [.ref dg, .int 0, .int 0, .int 0, .int 0, .ref d0, .int 0, .ref d1, .ref d2, .ref d3, .ref d4, .int 0, .ref d5, .ref d6, .ref d7])), (dg, .inr (4, [.int 0, .int 0, .int 0, .ref dq])), (gu, .inr (5, [.ref u0, .ref u1, .int 0])), (b0, .inl (cy 0, 800, .inl ((fun _ => 0)))), (ob, .inl (cy 2, 1, .inr (.inl ((fun _ => 0)))))] H := hP
  have hD : va_D (fun q : Nat => s.heap.size ≤ q) [(tp, .inr (8, [.ref bt, .int 0, .int 0, .int 0, .int 0, .int 0, .int 0, .int 0, .int 0])), (bt, .inl (cy 0, 800, .inl ((fun _ => 0)))), (nw, .inr (6, [.ref gr, .ref n1, .ref n2, .ref n3, .int 0])), (gr, .inr (4, [.int 0, .int 0, .int 0, .ref gs])), (dr, .inr (7, [.ref dg, .int 0, .int 0, .int 0, .int 0, .ref d0, .int 0, .ref d1, .ref d2, .ref d3, .ref d4, .int 0, .ref d5, .ref d6, .ref d7])), (dg, .inr (4, [.int 0, .int 0, .int 0, .ref dq])), (gu, .inr (5, [.ref u0, .ref u1, .int 0])), (b0, .inl (cy 0, 800, .inl ((fun _ => 0)))), (ob, .inl (cy 2, 1, .inr (.inl ((fun _ => 0)))))] := hD
  have er_14 : r_14 = -1 := k_15
  subst er_14
  refine W.lcmp hx hb dL_law_1521 ?_
  refine lv_topi (fun x_17 ex_17 => ?_)
  have ex_17 : x_17 = 0 := ex_17.trans (by decide)
  subst ex_17
  refine lv_if_eq (tgt := 1956) hx hb dL_law_1522 (by decide) (fun _ => ?_) (fun h_18 => absurd (by decide) h_18)
  exact law_end hl9 C0 X hZ (Nat.le_of_ble_eq_true rfl) (Nat.le_of_ble_eq_true rfl) hS (lv_sub hl [0, 4] rfl)
set_option maxHeartbeats 4000000 in
set_option maxRecDepth 100000 in
theorem law_c39 (hl9 : l.stackTraces = false) (C0 : lw_At p s m meth c b 6 xs) (X : fx p s m c code 7 #[Value.ref b] RL dC dI cy) (hZ : zx (fun q : Nat => s.heap.size ≤ q) s s.heap) (xx tp bt nw gr gs n1 n2 n3 tr kp im wy ow fl cs ds gu u0 u1 fc td tg t0 t1 t2 t3 t4 t5 t6 t7 dr dg dq d0 d1 d2 d3 d4 d5 d6 d7 mm b0 b1 b2 b3 b4 b5 b6 b7 b8 ob : Nat) (hP : va_P (dC, dI) vwCl [(xx, .inr (10, [.ref tp, .ref nw, .ref tr, .ref kp, .ref im, .ref wy, .ref ow, .ref fl, .ref cs, .ref ds, .ref gu, .ref fc, .ref td, .ref dr, .int 0, .int 0, .int 0])), (tp, .inr (8, [.ref bt, .int 0, .int 0, .int 0, .int 0, .int 0, .int 0, .int 0, .int 0])), (bt, .inl (cy 0, 800, .inl ((fun _ => 0)))), (nw, .inr (6, [.ref gr, .ref n1, .ref n2, .ref n3, .int 0])), (gr, .inr (4, [.int 0, .int 0, .int 0, .ref gs])), (td, .inr (7, [.ref tg, .int 0, .int 0, .int 0, .int 0, .ref t0, .int 0, .ref t1, .ref t2, .ref t3, .ref t4, .int 0, .ref t5, .ref t6, .ref t7])), (dr, .inr (7, [.ref dg, .int 0, .int 0, .int 0, .int 0, .ref d0, .int 0, .ref d1, .ref d2, .ref d3, .ref d4, .int 0, .ref d5, .ref d6, .ref d7])), (dg, .inr (4, [.int 0, .int 0, .int 0, .ref dq])), (gu, .inr (5, [.ref u0, .ref u1, .int 0])), (mm, .inr (12, [.int 0, .int 0, .int (-1), .null, .null, .ref b0, .int 0, .int 0, .int 0, .int 0, .int 0, .int 0, .int 0, .int 0, .int 0, .long 0, .ref b1, .ref b2, .ref b3, .ref b4, .int 0, .int 0, .ref b5, .ref b6, .ref b7, .int 0, .ref b8, .int 0, .int 0, .int 0, .int 0])), (b0, .inl (cy 0, 800, .inl ((fun _ => 0)))), (ob, .inl (cy 2, 1, .inr (.inl ((fun _ => 0)))))] H) (hD : va_D (fun q : Nat => s.heap.size ≤ q) [(xx, .inr (10, [.ref tp, .ref nw, .ref tr, .ref kp, .ref im, .ref wy, .ref ow, .ref fl, .ref cs, .ref ds, .ref gu, .ref fc, .ref td, .ref dr, .int 0, .int 0, .int 0])), (tp, .inr (8, [.ref bt, .int 0, .int 0, .int 0, .int 0, .int 0, .int 0, .int 0, .int 0])), (bt, .inl (cy 0, 800, .inl ((fun _ => 0)))), (nw, .inr (6, [.ref gr, .ref n1, .ref n2, .ref n3, .int 0])), (gr, .inr (4, [.int 0, .int 0, .int 0, .ref gs])), (td, .inr (7, [.ref tg, .int 0, .int 0, .int 0, .int 0, .ref t0, .int 0, .ref t1, .ref t2, .ref t3, .ref t4, .int 0, .ref t5, .ref t6, .ref t7])), (dr, .inr (7, [.ref dg, .int 0, .int 0, .int 0, .int 0, .ref d0, .int 0, .ref d1, .ref d2, .ref d3, .ref d4, .int 0, .ref d5, .ref d6, .ref d7])), (dg, .inr (4, [.int 0, .int 0, .int 0, .ref dq])), (gu, .inr (5, [.ref u0, .ref u1, .int 0])), (mm, .inr (12, [.int 0, .int 0, .int (-1), .null, .null, .ref b0, .int 0, .int 0, .int 0, .int 0, .int 0, .int 0, .int 0, .int 0, .int 0, .long 0, .ref b1, .ref b2, .ref b3, .ref b4, .int 0, .int 0, .ref b5, .ref b6, .ref b7, .int 0, .ref b8, .int 0, .int 0, .int 0, .int 0])), (b0, .inl (cy 0, 800, .inl ((fun _ => 0)))), (ob, .inl (cy 2, 1, .inr (.inl ((fun _ => 0)))))]) (hS : va_S (fun q : Nat => s.heap.size ≤ q) s.heap H locs) (hl : lv_has ls 7 [(4, .int 0), (3, .ref ob), (2, .ref mm), (1, .ref xx), (0, .ref b)]) : W p l e room_1 s m #[Value.ref b] below meth c H locs 211 4770 (lw_Z below #[Value.ref b] s) (F0 m 1527 ls []) := by
  have C0' := C0
  obtain ⟨-, -, hr, -, -, -, hX, hbl, hlocks, -⟩ := C0'
  have hx := X.1
  have hb := X.2.1
  have hK := X.2.2.2.2.2.1
  have hA : ∀ q : Nat, s.heap.size ≤ q → (fun q : Nat => s.heap.size ≤ q) q := fun _ h => h
  have hbA : ¬ (fun q : Nat => s.heap.size ≤ q) b := Nat.not_le.mpr hbl
  refine lv_aload_n hx hb dL_law_1527 rfl (lv_at hl 3 rfl) ?_
  refine lv_aload_n hx hb dL_law_1528 rfl (lv_at hl 4 rfl) ?_
  refine lv_iload hx hb dL_law_1529 (lv_at hl 0 rfl) ?_
  refine lv_iconst (v := 1) hx hb dL_law_1531 (by decide) ?_
  refine lv_iadd hx hb dL_law_1532 ?_
  refine lv_topi (fun x_1 ex_1 => ?_)
  have ex_1 : x_1 = 1 := ex_1.trans (by decide)
  subst ex_1
  refine va_sld hx hb hX hbl hbA hS (i := 1) (by unfold vp_in; decide) dL_law_1533 ?_
  refine lv_topi (fun x_2 ex_2 => ?_)
  refine lv_aload_n hx hb dL_law_1534 rfl (lv_at hl 4 rfl) ?_
  refine lv_iload hx hb dL_law_1535 (lv_at hl 0 rfl) ?_
  refine lv_iconst (v := 2) hx hb dL_law_1537 (by decide) ?_
  refine lv_iadd hx hb dL_law_1538 ?_
  refine lv_topi (fun x_3 ex_3 => ?_)
  have ex_3 : x_3 = 2 := ex_3.trans (by decide)
  subst ex_3
  refine va_sld hx hb hX hbl hbA hS (i := 2) (by unfold vp_in; decide) dL_law_1539 ?_
  refine lv_topi (fun x_4 ex_4 => ?_)
  refine lv_aload_n hx hb dL_law_1540 rfl (lv_at hl 4 rfl) ?_
  refine lv_iload hx hb dL_law_1541 (lv_at hl 0 rfl) ?_
  refine lv_iconst (v := 3) hx hb dL_law_1543 (by decide) ?_
  refine lv_iadd hx hb dL_law_1544 ?_
  refine lv_topi (fun x_5 ex_5 => ?_)
  have ex_5 : x_5 = 3 := ex_5.trans (by decide)
  subst ex_5
  refine va_sld hx hb hX hbl hbA hS (i := 3) (by unfold vp_in; decide) dL_law_1545 ?_
  refine lv_topi (fun x_6 ex_6 => ?_)
  refine fI (wr := [(tp, .inr (8, [.ref bt, .int 0, .int 0, .int 0, .int 0, .int 0, .int 0, .int 0, .int 0])), (bt, .inl (cy 0, 800, .inl ((fun _ => 0)))), (nw, .inr (6, [.ref gr, .ref n1, .ref n2, .ref n3, .int 0])), (gr, .inr (4, [.int 0, .int 0, .int 0, .ref gs])), (dr, .inr (7, [.ref dg, .int 0, .int 0, .int 0, .int 0, .ref d0, .int 0, .ref d1, .ref d2, .ref d3, .ref d4, .int 0, .ref d5, .ref d6, .ref d7])), (dg, .inr (4, [.int 0, .int 0, .int 0, .ref dq])), (gu, .inr (5, [.ref u0, .ref u1, .int 0])), (mm, .inr (12, [.int 0, .int 0, .int (-1), .null, .null, .ref b0, .int 0, .int 0, .int 0, .int 0, .int 0, .int 0, .int 0, .int 0, .int 0, .long 0, .ref b1, .ref b2, .ref b3, .ref b4, .int 0, .int 0, .ref b5, .ref b6, .ref b7, .int 0, .ref b8, .int 0, .int 0, .int 0, .int 0])), (b0, .inl (cy 0, 800, .inl ((fun _ => 0)))), (ob, .inl (cy 2, 1, .inr (.inl ((fun _ => 0)))))]) (rV_I (wc := [(xx, .inr (10, [.ref tp, .ref nw, .ref tr, .ref kp, .ref im, .ref wy, .ref ow, .ref fl, .ref cs, .ref ds, .ref gu, .ref fc, .ref td, .ref dr, .int 0, .int 0, .int 0])), (td, .inr (7, [.ref tg, .int 0, .int 0, .int 0, .int 0, .ref t0, .int 0, .ref t1, .ref t2, .ref t3, .ref t4, .int 0, .ref t5, .ref t6, .ref t7]))]) (As := [.int x_2, .int x_4, .int x_6]) (rest := []) X (tX11_ramble l dC dI cy xx (.ref tp) (.ref nw) (.ref tr) (.ref kp) (.ref im) (.ref wy) (.ref ow) (.ref fl) (.ref cs) (.ref ds) (.ref gu) (.ref fc) td (.ref dr) (.int 0) (.int 0) (.int 0) tg t0 t1 t2 t3 t4 t5 t6 t7 x_2 x_4 x_6) kX11_ramble vX11_ramble mL_182 hP hD [0, 5] (by decide) rfl 0 (ci := 10) rfl rfl rfl hl rfl rfl (Nat.le_of_ble_eq_true rfl) dL_law_1546 ⟨Nat.le_of_ble_eq_true rfl, Nat.le_of_ble_eq_true rfl⟩ ⟨Nat.le_of_ble_eq_true rfl, Nat.le_of_ble_eq_true rfl⟩) hP hD hS hA [0, 5] [1, 2, 3, 4, 6, 7, 8, 9, 10, 11] rfl rfl (by decide) (by decide) (fun r_7 u_9 H locs k_8 hP hD hS => ?_)
  have hP : va_P (dC, dI) vwCl [(tp, .inr (8, [.ref bt, .int 0, .int 0, .int 0, .int 0, .int 0, .int 0, .int 0, .int 0])), (bt, .inl (cy 0, 800, .inl ((fun _ => 0)))), (nw, .inr (6, [.ref gr, .ref n1, .ref n2, .ref n3, .int 0])), (gr, .inr (4, [.int 0, .int 0, .int 0, .ref gs])), (dr, .inr (7, [.ref dg, .int 0, .int 0, .int 0, .int 0, .ref d0, .int 0, .ref d1, .ref d2, .ref d3, .ref d4, .int 0, .ref d5, .ref d6, .ref d7])), (dg, .inr (4, [.int 0, .int 0, .int 0, .ref dq])), (gu, .inr (5, [.ref u0, .ref u1, .int 0])), (mm, .inr (12, [.int 0, .int 0, .int (-1), .null, .null, .ref b0, .int 0, .int 0, .int 0, .int 0, .int 0, .int 0, .int 0, .int 0, .int 0, .long 0, .ref b1, .ref b2, .ref b3, .ref b4, .int 0, .int 0, .ref b5, .ref b6, .ref b7, .int 0, .ref b8, .int 0, .int 0, .int 0, .int 0])), (b0, .inl (cy 0, 800, .inl ((fun _ => 0)))), (ob, .inl (cy 2, 1, .inr (.inl ((fun _ => 0)))))] H := hP
  have hD : va_D (fun q : Nat => s.heap.size ≤ q) [(tp, .inr (8, [.ref bt, .int 0, .int 0, .int 0, .int 0, .int 0, .int 0, .int 0, .int 0])), (bt, .inl (cy 0, 800, .inl ((fun _ => 0)))), (nw, .inr (6, [.ref gr, .ref n1, .ref n2, .ref n3, .int 0])), (gr, .inr (4, [.int 0, .int 0, .int 0, .ref gs])), (dr, .inr (7, [.ref dg, .int 0, .int 0, .int 0, .int 0, .ref d0, .int 0, .ref d1, .ref d2, .ref d3, .ref d4, .int 0, .ref d5, .ref d6, .ref d7])), (dg, .inr (4, [.int 0, .int 0, .int 0, .ref dq])), (gu, .inr (5, [.ref u0, .ref u1, .int 0])), (mm, .inr (12, [.int 0, .int 0, .int (-1), .null, .null, .ref b0, .int 0, .int 0, .int 0, .int 0, .int 0, .int 0, .int 0, .int 0, .int 0, .long 0, .ref b1, .ref b2, .ref b3, .ref b4, .int 0, .int 0, .ref b5, .ref b6, .ref b7, .int 0, .ref b8, .int 0, .int 0, .int 0, .int 0])), (b0, .inl (cy 0, 800, .inl ((fun _ => 0)))), (ob, .inl (cy 2, 1, .inr (.inl ((fun _ => 0)))))] := hD
  have er_7 : r_7 = -1 := k_8
  subst er_7
  refine lv_aload_n hx hb dL_law_1549 rfl (lv_at hl 2 rfl) ?_
  refine lv_aload_n hx hb dL_law_1550 rfl (lv_at hl 4 rfl) ?_
  refine lv_iload hx hb dL_law_1551 (lv_at hl 0 rfl) ?_
  refine lv_iconst (v := 1) hx hb dL_law_1553 (by decide) ?_
  refine lv_iadd hx hb dL_law_1554 ?_
  refine lv_topi (fun x_10 ex_10 => ?_)
  have ex_10 : x_10 = 1 := ex_10.trans (by decide)
  subst ex_10
  refine va_sld hx hb hX hbl hbA hS (i := 1) (by unfold vp_in; decide) dL_law_1555 ?_
  refine lv_topi (fun x_11 ex_11 => ?_)
  refine lv_aload_n hx hb dL_law_1556 rfl (lv_at hl 4 rfl) ?_
  refine lv_iload hx hb dL_law_1557 (lv_at hl 0 rfl) ?_
  refine lv_iconst (v := 2) hx hb dL_law_1559 (by decide) ?_
  refine lv_iadd hx hb dL_law_1560 ?_
  refine lv_topi (fun x_12 ex_12 => ?_)
  have ex_12 : x_12 = 2 := ex_12.trans (by decide)
  subst ex_12
  refine va_sld hx hb hX hbl hbA hS (i := 2) (by unfold vp_in; decide) dL_law_1561 ?_
  refine lv_topi (fun x_13 ex_13 => ?_)
  refine lv_aload_n hx hb dL_law_1562 rfl (lv_at hl 4 rfl) ?_
  refine lv_iload hx hb dL_law_1563 (lv_at hl 0 rfl) ?_
  refine lv_iconst (v := 3) hx hb dL_law_1565 (by decide) ?_
  refine lv_iadd hx hb dL_law_1566 ?_
  refine lv_topi (fun x_14 ex_14 => ?_)
  have ex_14 : x_14 = 3 := ex_14.trans (by decide)
  subst ex_14
  refine va_sld hx hb hX hbl hbA hS (i := 3) (by unfold vp_in; decide) dL_law_1567 ?_
  refine lv_topi (fun x_15 ex_15 => ?_)
  refine fI (wr := [(tp, .inr (8, [.ref bt, .int 0, .int 0, .int 0, .int 0, .int 0, .int 0, .int 0, .int 0])), (bt, .inl (cy 0, 800, .inl ((fun _ => 0)))), (nw, .inr (6, [.ref gr, .ref n1, .ref n2, .ref n3, .int 0])), (gr, .inr (4, [.int 0, .int 0, .int 0, .ref gs])), (dr, .inr (7, [.ref dg, .int 0, .int 0, .int 0, .int 0, .ref d0, .int 0, .ref d1, .ref d2, .ref d3, .ref d4, .int 0, .ref d5, .ref d6, .ref d7])), (dg, .inr (4, [.int 0, .int 0, .int 0, .ref dq])), (gu, .inr (5, [.ref u0, .ref u1, .int 0])), (b0, .inl (cy 0, 800, .inl ((fun _ => 0)))), (ob, .inl (cy 2, 1, .inr (.inl ((fun _ => 0)))))]) (rV_I (wc := [(mm, .inr (12, [.int 0, .int 0, .int (-1), .null, .null, .ref b0, .int 0, .int 0, .int 0, .int 0, .int 0, .int 0, .int 0, .int 0, .int 0, .long 0, .ref b1, .ref b2, .ref b3, .ref b4, .int 0, .int 0, .ref b5, .ref b6, .ref b7, .int 0, .ref b8, .int 0, .int 0, .int 0, .int 0]))]) (As := [.int x_11, .int x_13, .int x_15]) (rest := [.int (-1)]) X (tX13_ramble l dC dI cy mm 0 0 (-1) .null (.ref b0) 0 0 0 0 0 0 0 0 0 0 (.ref b1) (.ref b2) (.ref b3) (.ref b4) 0 0 (.ref b5) (.ref b6) (.ref b7) 0 (.ref b8) 0 0 0 0 x_11 x_13 x_15) kX13_ramble vX13_ramble mL_185 hP hD [7] (by decide) rfl 0 (ci := 12) rfl rfl rfl hl rfl rfl (Nat.le_of_ble_eq_true rfl) dL_law_1568 ⟨Nat.le_of_ble_eq_true rfl, Nat.le_of_ble_eq_true rfl⟩ ⟨Nat.le_of_ble_eq_true rfl, Nat.le_of_ble_eq_true rfl⟩) hP hD hS hA [7] [0, 1, 2, 3, 4, 5, 6, 8, 9] rfl rfl (by decide) (by decide) (fun r_16 u_18 H locs k_17 hP hD hS => ?_)
  have hP : va_P (dC, dI) vwCl [(tp, .inr (8, [.ref bt, .int 0, .int 0, .int 0, .int 0, .int 0, .int 0, .int 0, .int 0])), (bt, .inl (cy 0, 800, .inl ((fun _ => 0)))), (nw, .inr (6, [.ref gr, .ref n1, .ref n2, .ref n3, .int 0])), (gr, .inr (4, [.int 0, .int 0, .int 0, .ref gs])), (dr, .inr (7, [.ref dg, .int 0, .int 0, .int 0, .int 0, .ref d0, .int 0, .ref d1, .ref d2, .ref d3, .ref d4, .int 0, .ref d5, .ref d6, .ref d7])), (dg, .inr (4, [.int 0, .int 0, .int 0, .ref dq])), (gu, .inr (5, [.ref u0, .ref u1, .int 0])), (b0, .inl (cy 0, 800, .inl ((fun _ => 0)))), (ob, .inl (cy 2, 1, .inr (.inl ((fun _ => 0)))))] H := hP
  have hD : va_D (fun q : Nat => s.heap.size ≤ q) [(tp, .inr (8, [.ref bt, .int 0, .int 0, .int 0, .int 0, .int 0, .int 0, .int 0, .int 0])), (bt, .inl (cy 0, 800, .inl ((fun _ => 0)))), (nw, .inr (6, [.ref gr, .ref n1, .ref n2, .ref n3, .int 0])), (gr, .inr (4, [.int 0, .int 0, .int 0, .ref gs])), (dr, .inr (7, [.ref dg, .int 0, .int 0, .int 0, .int 0, .ref d0, .int 0, .ref d1, .ref d2, .ref d3, .ref d4, .int 0, .ref d5, .ref d6, .ref d7])), (dg, .inr (4, [.int 0, .int 0, .int 0, .ref dq])), (gu, .inr (5, [.ref u0, .ref u1, .int 0])), (b0, .inl (cy 0, 800, .inl ((fun _ => 0)))), (ob, .inl (cy 2, 1, .inr (.inl ((fun _ => 0)))))] := hD
  have er_16 : r_16 = -1 := k_17
  subst er_16
  refine lv_icmp_eq (tgt := 1956) hx hb dL_law_1571 (by decide) (fun _ => ?_) (fun h_19 => absurd (by decide) h_19)
  exact law_end hl9 C0 X hZ (Nat.le_of_ble_eq_true rfl) (Nat.le_of_ble_eq_true rfl) hS (lv_sub hl [0, 4] rfl)
set_option maxHeartbeats 4000000 in
set_option maxRecDepth 100000 in
theorem law_c40 (hl9 : l.stackTraces = false) (C0 : lw_At p s m meth c b 6 xs) (X : fx p s m c code 7 #[Value.ref b] RL dC dI cy) (hZ : zx (fun q : Nat => s.heap.size ≤ q) s s.heap) (xx tp bt nw gr gs n1 n2 n3 tr kp im wy ow fl cs ds gu u0 u1 fc td tg t0 t1 t2 t3 t4 t5 t6 t7 dr dg dq d0 d1 d2 d3 d4 d5 d6 d7 mm b0 b1 b2 b3 b4 b5 b6 b7 b8 ob : Nat) (hP : va_P (dC, dI) vwCl [(xx, .inr (10, [.ref tp, .ref nw, .ref tr, .ref kp, .ref im, .ref wy, .ref ow, .ref fl, .ref cs, .ref ds, .ref gu, .ref fc, .ref td, .ref dr, .int 0, .int 0, .int 0])), (tp, .inr (8, [.ref bt, .int 0, .int 0, .int 0, .int 0, .int 0, .int 0, .int 0, .int 0])), (bt, .inl (cy 0, 800, .inl ((fun _ => 0)))), (nw, .inr (6, [.ref gr, .ref n1, .ref n2, .ref n3, .int 0])), (gr, .inr (4, [.int 0, .int 0, .int 0, .ref gs])), (td, .inr (7, [.ref tg, .int 0, .int 0, .int 0, .int 0, .ref t0, .int 0, .ref t1, .ref t2, .ref t3, .ref t4, .int 0, .ref t5, .ref t6, .ref t7])), (dr, .inr (7, [.ref dg, .int 0, .int 0, .int 0, .int 0, .ref d0, .int 0, .ref d1, .ref d2, .ref d3, .ref d4, .int 0, .ref d5, .ref d6, .ref d7])), (dg, .inr (4, [.int 0, .int 0, .int 0, .ref dq])), (gu, .inr (5, [.ref u0, .ref u1, .int 0])), (mm, .inr (12, [.int 0, .int 0, .int (-1), .null, .null, .ref b0, .int 0, .int 0, .int 0, .int 0, .int 0, .int 0, .int 0, .int 0, .int 0, .long 0, .ref b1, .ref b2, .ref b3, .ref b4, .int 0, .int 0, .ref b5, .ref b6, .ref b7, .int 0, .ref b8, .int 0, .int 0, .int 0, .int 0])), (b0, .inl (cy 0, 800, .inl ((fun _ => 0)))), (ob, .inl (cy 2, 1, .inr (.inl ((fun _ => 0)))))] H) (hD : va_D (fun q : Nat => s.heap.size ≤ q) [(xx, .inr (10, [.ref tp, .ref nw, .ref tr, .ref kp, .ref im, .ref wy, .ref ow, .ref fl, .ref cs, .ref ds, .ref gu, .ref fc, .ref td, .ref dr, .int 0, .int 0, .int 0])), (tp, .inr (8, [.ref bt, .int 0, .int 0, .int 0, .int 0, .int 0, .int 0, .int 0, .int 0])), (bt, .inl (cy 0, 800, .inl ((fun _ => 0)))), (nw, .inr (6, [.ref gr, .ref n1, .ref n2, .ref n3, .int 0])), (gr, .inr (4, [.int 0, .int 0, .int 0, .ref gs])), (td, .inr (7, [.ref tg, .int 0, .int 0, .int 0, .int 0, .ref t0, .int 0, .ref t1, .ref t2, .ref t3, .ref t4, .int 0, .ref t5, .ref t6, .ref t7])), (dr, .inr (7, [.ref dg, .int 0, .int 0, .int 0, .int 0, .ref d0, .int 0, .ref d1, .ref d2, .ref d3, .ref d4, .int 0, .ref d5, .ref d6, .ref d7])), (dg, .inr (4, [.int 0, .int 0, .int 0, .ref dq])), (gu, .inr (5, [.ref u0, .ref u1, .int 0])), (mm, .inr (12, [.int 0, .int 0, .int (-1), .null, .null, .ref b0, .int 0, .int 0, .int 0, .int 0, .int 0, .int 0, .int 0, .int 0, .int 0, .long 0, .ref b1, .ref b2, .ref b3, .ref b4, .int 0, .int 0, .ref b5, .ref b6, .ref b7, .int 0, .ref b8, .int 0, .int 0, .int 0, .int 0])), (b0, .inl (cy 0, 800, .inl ((fun _ => 0)))), (ob, .inl (cy 2, 1, .inr (.inl ((fun _ => 0)))))]) (hS : va_S (fun q : Nat => s.heap.size ≤ q) s.heap H locs) (hl : lv_has ls 7 [(4, .int 0), (3, .ref ob), (2, .ref mm), (1, .ref xx), (0, .ref b)]) : W p l e room_1 s m #[Value.ref b] below meth c H locs 211 4770 (lw_Z below #[Value.ref b] s) (F0 m 1576 ls []) := by
  have C0' := C0
  obtain ⟨-, -, hr, -, -, -, hX, hbl, hlocks, -⟩ := C0'
  have hx := X.1
  have hb := X.2.1
  have hK := X.2.2.2.2.2.1
  have hA : ∀ q : Nat, s.heap.size ≤ q → (fun q : Nat => s.heap.size ≤ q) q := fun _ h => h
  have hbA : ¬ (fun q : Nat => s.heap.size ≤ q) b := Nat.not_le.mpr hbl
  refine lv_aload_n hx hb dL_law_1576 rfl (lv_at hl 3 rfl) ?_
  refine lv_aload_n hx hb dL_law_1577 rfl (lv_at hl 4 rfl) ?_
  refine lv_iload hx hb dL_law_1578 (lv_at hl 0 rfl) ?_
  refine lv_iconst (v := 1) hx hb dL_law_1580 (by decide) ?_
  refine lv_iadd hx hb dL_law_1581 ?_
  refine lv_topi (fun x_1 ex_1 => ?_)
  have ex_1 : x_1 = 1 := ex_1.trans (by decide)
  subst ex_1
  refine va_sld hx hb hX hbl hbA hS (i := 1) (by unfold vp_in; decide) dL_law_1582 ?_
  refine lv_topi (fun x_2 ex_2 => ?_)
  refine lv_aload_n hx hb dL_law_1583 rfl (lv_at hl 4 rfl) ?_
  refine lv_iload hx hb dL_law_1584 (lv_at hl 0 rfl) ?_
  refine lv_iconst (v := 2) hx hb dL_law_1586 (by decide) ?_
  refine lv_iadd hx hb dL_law_1587 ?_
  refine lv_topi (fun x_3 ex_3 => ?_)
  have ex_3 : x_3 = 2 := ex_3.trans (by decide)
  subst ex_3
  refine va_sld hx hb hX hbl hbA hS (i := 2) (by unfold vp_in; decide) dL_law_1588 ?_
  refine lv_topi (fun x_4 ex_4 => ?_)
  refine lv_aload_n hx hb dL_law_1589 rfl (lv_at hl 4 rfl) ?_
  refine lv_iload hx hb dL_law_1590 (lv_at hl 0 rfl) ?_
  refine lv_iconst (v := 3) hx hb dL_law_1592 (by decide) ?_
  refine lv_iadd hx hb dL_law_1593 ?_
  refine lv_topi (fun x_5 ex_5 => ?_)
  have ex_5 : x_5 = 3 := ex_5.trans (by decide)
  subst ex_5
  refine va_sld hx hb hX hbl hbA hS (i := 3) (by unfold vp_in; decide) dL_law_1594 ?_
  refine lv_topi (fun x_6 ex_6 => ?_)
  refine fI (wr := [(tp, .inr (8, [.ref bt, .int 0, .int 0, .int 0, .int 0, .int 0, .int 0, .int 0, .int 0])), (bt, .inl (cy 0, 800, .inl ((fun _ => 0)))), (nw, .inr (6, [.ref gr, .ref n1, .ref n2, .ref n3, .int 0])), (gr, .inr (4, [.int 0, .int 0, .int 0, .ref gs])), (dr, .inr (7, [.ref dg, .int 0, .int 0, .int 0, .int 0, .ref d0, .int 0, .ref d1, .ref d2, .ref d3, .ref d4, .int 0, .ref d5, .ref d6, .ref d7])), (dg, .inr (4, [.int 0, .int 0, .int 0, .ref dq])), (gu, .inr (5, [.ref u0, .ref u1, .int 0])), (mm, .inr (12, [.int 0, .int 0, .int (-1), .null, .null, .ref b0, .int 0, .int 0, .int 0, .int 0, .int 0, .int 0, .int 0, .int 0, .int 0, .long 0, .ref b1, .ref b2, .ref b3, .ref b4, .int 0, .int 0, .ref b5, .ref b6, .ref b7, .int 0, .ref b8, .int 0, .int 0, .int 0, .int 0])), (b0, .inl (cy 0, 800, .inl ((fun _ => 0)))), (ob, .inl (cy 2, 1, .inr (.inl ((fun _ => 0)))))]) (rV_I (wc := [(xx, .inr (10, [.ref tp, .ref nw, .ref tr, .ref kp, .ref im, .ref wy, .ref ow, .ref fl, .ref cs, .ref ds, .ref gu, .ref fc, .ref td, .ref dr, .int 0, .int 0, .int 0])), (td, .inr (7, [.ref tg, .int 0, .int 0, .int 0, .int 0, .ref t0, .int 0, .ref t1, .ref t2, .ref t3, .ref t4, .int 0, .ref t5, .ref t6, .ref t7]))]) (As := [.int x_2, .int x_4, .int x_6]) (rest := []) X (tX11_rambleFalls l dC dI cy xx (.ref tp) (.ref nw) (.ref tr) (.ref kp) (.ref im) (.ref wy) (.ref ow) (.ref fl) (.ref cs) (.ref ds) (.ref gu) (.ref fc) td (.ref dr) (.int 0) (.int 0) (.int 0) tg t0 t1 t2 t3 t4 t5 t6 t7 x_2 x_4 x_6) kX11_rambleFalls vX11_rambleFalls mL_186 hP hD [0, 5] (by decide) rfl 0 (ci := 10) rfl rfl rfl hl rfl rfl (Nat.le_of_ble_eq_true rfl) dL_law_1595 ⟨Nat.le_of_ble_eq_true rfl, Nat.le_of_ble_eq_true rfl⟩ ⟨Nat.le_of_ble_eq_true rfl, Nat.le_of_ble_eq_true rfl⟩) hP hD hS hA [0, 5] [1, 2, 3, 4, 6, 7, 8, 9, 10, 11] rfl rfl (by decide) (by decide) (fun r_7 u_9 H locs k_8 hP hD hS => ?_)
  have hP : va_P (dC, dI) vwCl [(tp, .inr (8, [.ref bt, .int 0, .int 0, .int 0, .int 0, .int 0, .int 0, .int 0, .int 0])), (bt, .inl (cy 0, 800, .inl ((fun _ => 0)))), (nw, .inr (6, [.ref gr, .ref n1, .ref n2, .ref n3, .int 0])), (gr, .inr (4, [.int 0, .int 0, .int 0, .ref gs])), (dr, .inr (7, [.ref dg, .int 0, .int 0, .int 0, .int 0, .ref d0, .int 0, .ref d1, .ref d2, .ref d3, .ref d4, .int 0, .ref d5, .ref d6, .ref d7])), (dg, .inr (4, [.int 0, .int 0, .int 0, .ref dq])), (gu, .inr (5, [.ref u0, .ref u1, .int 0])), (mm, .inr (12, [.int 0, .int 0, .int (-1), .null, .null, .ref b0, .int 0, .int 0, .int 0, .int 0, .int 0, .int 0, .int 0, .int 0, .int 0, .long 0, .ref b1, .ref b2, .ref b3, .ref b4, .int 0, .int 0, .ref b5, .ref b6, .ref b7, .int 0, .ref b8, .int 0, .int 0, .int 0, .int 0])), (b0, .inl (cy 0, 800, .inl ((fun _ => 0)))), (ob, .inl (cy 2, 1, .inr (.inl ((fun _ => 0)))))] H := hP
  have hD : va_D (fun q : Nat => s.heap.size ≤ q) [(tp, .inr (8, [.ref bt, .int 0, .int 0, .int 0, .int 0, .int 0, .int 0, .int 0, .int 0])), (bt, .inl (cy 0, 800, .inl ((fun _ => 0)))), (nw, .inr (6, [.ref gr, .ref n1, .ref n2, .ref n3, .int 0])), (gr, .inr (4, [.int 0, .int 0, .int 0, .ref gs])), (dr, .inr (7, [.ref dg, .int 0, .int 0, .int 0, .int 0, .ref d0, .int 0, .ref d1, .ref d2, .ref d3, .ref d4, .int 0, .ref d5, .ref d6, .ref d7])), (dg, .inr (4, [.int 0, .int 0, .int 0, .ref dq])), (gu, .inr (5, [.ref u0, .ref u1, .int 0])), (mm, .inr (12, [.int 0, .int 0, .int (-1), .null, .null, .ref b0, .int 0, .int 0, .int 0, .int 0, .int 0, .int 0, .int 0, .int 0, .int 0, .long 0, .ref b1, .ref b2, .ref b3, .ref b4, .int 0, .int 0, .ref b5, .ref b6, .ref b7, .int 0, .ref b8, .int 0, .int 0, .int 0, .int 0])), (b0, .inl (cy 0, 800, .inl ((fun _ => 0)))), (ob, .inl (cy 2, 1, .inr (.inl ((fun _ => 0)))))] := hD
  have er_7 : r_7 = -1 := k_8
  subst er_7
  refine lv_aload_n hx hb dL_law_1598 rfl (lv_at hl 2 rfl) ?_
  refine lv_aload_n hx hb dL_law_1599 rfl (lv_at hl 4 rfl) ?_
  refine lv_iload hx hb dL_law_1600 (lv_at hl 0 rfl) ?_
  refine lv_iconst (v := 1) hx hb dL_law_1602 (by decide) ?_
  refine lv_iadd hx hb dL_law_1603 ?_
  refine lv_topi (fun x_10 ex_10 => ?_)
  have ex_10 : x_10 = 1 := ex_10.trans (by decide)
  subst ex_10
  refine va_sld hx hb hX hbl hbA hS (i := 1) (by unfold vp_in; decide) dL_law_1604 ?_
  refine lv_topi (fun x_11 ex_11 => ?_)
  refine lv_aload_n hx hb dL_law_1605 rfl (lv_at hl 4 rfl) ?_
  refine lv_iload hx hb dL_law_1606 (lv_at hl 0 rfl) ?_
  refine lv_iconst (v := 2) hx hb dL_law_1608 (by decide) ?_
  refine lv_iadd hx hb dL_law_1609 ?_
  refine lv_topi (fun x_12 ex_12 => ?_)
  have ex_12 : x_12 = 2 := ex_12.trans (by decide)
  subst ex_12
  refine va_sld hx hb hX hbl hbA hS (i := 2) (by unfold vp_in; decide) dL_law_1610 ?_
  refine lv_topi (fun x_13 ex_13 => ?_)
  refine lv_aload_n hx hb dL_law_1611 rfl (lv_at hl 4 rfl) ?_
  refine lv_iload hx hb dL_law_1612 (lv_at hl 0 rfl) ?_
  refine lv_iconst (v := 3) hx hb dL_law_1614 (by decide) ?_
  refine lv_iadd hx hb dL_law_1615 ?_
  refine lv_topi (fun x_14 ex_14 => ?_)
  have ex_14 : x_14 = 3 := ex_14.trans (by decide)
  subst ex_14
  refine va_sld hx hb hX hbl hbA hS (i := 3) (by unfold vp_in; decide) dL_law_1616 ?_
  refine lv_topi (fun x_15 ex_15 => ?_)
  refine fI (wr := [(tp, .inr (8, [.ref bt, .int 0, .int 0, .int 0, .int 0, .int 0, .int 0, .int 0, .int 0])), (bt, .inl (cy 0, 800, .inl ((fun _ => 0)))), (nw, .inr (6, [.ref gr, .ref n1, .ref n2, .ref n3, .int 0])), (gr, .inr (4, [.int 0, .int 0, .int 0, .ref gs])), (dr, .inr (7, [.ref dg, .int 0, .int 0, .int 0, .int 0, .ref d0, .int 0, .ref d1, .ref d2, .ref d3, .ref d4, .int 0, .ref d5, .ref d6, .ref d7])), (dg, .inr (4, [.int 0, .int 0, .int 0, .ref dq])), (gu, .inr (5, [.ref u0, .ref u1, .int 0])), (b0, .inl (cy 0, 800, .inl ((fun _ => 0)))), (ob, .inl (cy 2, 1, .inr (.inl ((fun _ => 0)))))]) (rV_I (wc := [(mm, .inr (12, [.int 0, .int 0, .int (-1), .null, .null, .ref b0, .int 0, .int 0, .int 0, .int 0, .int 0, .int 0, .int 0, .int 0, .int 0, .long 0, .ref b1, .ref b2, .ref b3, .ref b4, .int 0, .int 0, .ref b5, .ref b6, .ref b7, .int 0, .ref b8, .int 0, .int 0, .int 0, .int 0]))]) (As := [.int x_11, .int x_13, .int x_15]) (rest := [.int (-1)]) X (tX13_rambleFalls l dC dI cy mm 0 0 (-1) .null (.ref b0) 0 0 0 0 0 0 0 0 0 0 (.ref b1) (.ref b2) (.ref b3) (.ref b4) 0 0 (.ref b5) (.ref b6) (.ref b7) 0 (.ref b8) 0 0 0 0 x_11 x_13 x_15) kX13_rambleFalls vX13_rambleFalls mL_189 hP hD [7] (by decide) rfl 0 (ci := 12) rfl rfl rfl hl rfl rfl (Nat.le_of_ble_eq_true rfl) dL_law_1617 ⟨Nat.le_of_ble_eq_true rfl, Nat.le_of_ble_eq_true rfl⟩ ⟨Nat.le_of_ble_eq_true rfl, Nat.le_of_ble_eq_true rfl⟩) hP hD hS hA [7] [0, 1, 2, 3, 4, 5, 6, 8, 9] rfl rfl (by decide) (by decide) (fun r_16 u_18 H locs k_17 hP hD hS => ?_)
  have hP : va_P (dC, dI) vwCl [(tp, .inr (8, [.ref bt, .int 0, .int 0, .int 0, .int 0, .int 0, .int 0, .int 0, .int 0])), (bt, .inl (cy 0, 800, .inl ((fun _ => 0)))), (nw, .inr (6, [.ref gr, .ref n1, .ref n2, .ref n3, .int 0])), (gr, .inr (4, [.int 0, .int 0, .int 0, .ref gs])), (dr, .inr (7, [.ref dg, .int 0, .int 0, .int 0, .int 0, .ref d0, .int 0, .ref d1, .ref d2, .ref d3, .ref d4, .int 0, .ref d5, .ref d6, .ref d7])), (dg, .inr (4, [.int 0, .int 0, .int 0, .ref dq])), (gu, .inr (5, [.ref u0, .ref u1, .int 0])), (b0, .inl (cy 0, 800, .inl ((fun _ => 0)))), (ob, .inl (cy 2, 1, .inr (.inl ((fun _ => 0)))))] H := hP
  have hD : va_D (fun q : Nat => s.heap.size ≤ q) [(tp, .inr (8, [.ref bt, .int 0, .int 0, .int 0, .int 0, .int 0, .int 0, .int 0, .int 0])), (bt, .inl (cy 0, 800, .inl ((fun _ => 0)))), (nw, .inr (6, [.ref gr, .ref n1, .ref n2, .ref n3, .int 0])), (gr, .inr (4, [.int 0, .int 0, .int 0, .ref gs])), (dr, .inr (7, [.ref dg, .int 0, .int 0, .int 0, .int 0, .ref d0, .int 0, .ref d1, .ref d2, .ref d3, .ref d4, .int 0, .ref d5, .ref d6, .ref d7])), (dg, .inr (4, [.int 0, .int 0, .int 0, .ref dq])), (gu, .inr (5, [.ref u0, .ref u1, .int 0])), (b0, .inl (cy 0, 800, .inl ((fun _ => 0)))), (ob, .inl (cy 2, 1, .inr (.inl ((fun _ => 0)))))] := hD
  have er_16 : r_16 = -1 := k_17
  subst er_16
  refine lv_icmp_eq (tgt := 1956) hx hb dL_law_1620 (by decide) (fun _ => ?_) (fun h_19 => absurd (by decide) h_19)
  exact law_end hl9 C0 X hZ (Nat.le_of_ble_eq_true rfl) (Nat.le_of_ble_eq_true rfl) hS (lv_sub hl [0, 4] rfl)
set_option maxHeartbeats 4000000 in
set_option maxRecDepth 100000 in
theorem law_c41 (hl9 : l.stackTraces = false) (C0 : lw_At p s m meth c b 6 xs) (X : fx p s m c code 7 #[Value.ref b] RL dC dI cy) (hZ : zx (fun q : Nat => s.heap.size ≤ q) s s.heap) (xx tp bt nw gr gs n1 n2 n3 tr kp im wy ow fl cs ds gu u0 u1 fc td tg t0 t1 t2 t3 t4 t5 t6 t7 dr dg dq d0 d1 d2 d3 d4 d5 d6 d7 mm b0 b1 b2 b3 b4 b5 b6 b7 b8 ob : Nat) (hP : va_P (dC, dI) vwCl [(xx, .inr (10, [.ref tp, .ref nw, .ref tr, .ref kp, .ref im, .ref wy, .ref ow, .ref fl, .ref cs, .ref ds, .ref gu, .ref fc, .ref td, .ref dr, .int 0, .int 0, .int 0])), (tp, .inr (8, [.ref bt, .int 0, .int 0, .int 0, .int 0, .int 0, .int 0, .int 0, .int 0])), (bt, .inl (cy 0, 800, .inl ((fun _ => 0)))), (nw, .inr (6, [.ref gr, .ref n1, .ref n2, .ref n3, .int 0])), (gr, .inr (4, [.int 0, .int 0, .int 0, .ref gs])), (td, .inr (7, [.ref tg, .int 0, .int 0, .int 0, .int 0, .ref t0, .int 0, .ref t1, .ref t2, .ref t3, .ref t4, .int 0, .ref t5, .ref t6, .ref t7])), (dr, .inr (7, [.ref dg, .int 0, .int 0, .int 0, .int 0, .ref d0, .int 0, .ref d1, .ref d2, .ref d3, .ref d4, .int 0, .ref d5, .ref d6, .ref d7])), (dg, .inr (4, [.int 0, .int 0, .int 0, .ref dq])), (gu, .inr (5, [.ref u0, .ref u1, .int 0])), (mm, .inr (12, [.int 0, .int 0, .int (-1), .null, .null, .ref b0, .int 0, .int 0, .int 0, .int 0, .int 0, .int 0, .int 0, .int 0, .int 0, .long 0, .ref b1, .ref b2, .ref b3, .ref b4, .int 0, .int 0, .ref b5, .ref b6, .ref b7, .int 0, .ref b8, .int 0, .int 0, .int 0, .int 0])), (b0, .inl (cy 0, 800, .inl ((fun _ => 0)))), (ob, .inl (cy 2, 1, .inr (.inl ((fun _ => 0)))))] H) (hD : va_D (fun q : Nat => s.heap.size ≤ q) [(xx, .inr (10, [.ref tp, .ref nw, .ref tr, .ref kp, .ref im, .ref wy, .ref ow, .ref fl, .ref cs, .ref ds, .ref gu, .ref fc, .ref td, .ref dr, .int 0, .int 0, .int 0])), (tp, .inr (8, [.ref bt, .int 0, .int 0, .int 0, .int 0, .int 0, .int 0, .int 0, .int 0])), (bt, .inl (cy 0, 800, .inl ((fun _ => 0)))), (nw, .inr (6, [.ref gr, .ref n1, .ref n2, .ref n3, .int 0])), (gr, .inr (4, [.int 0, .int 0, .int 0, .ref gs])), (td, .inr (7, [.ref tg, .int 0, .int 0, .int 0, .int 0, .ref t0, .int 0, .ref t1, .ref t2, .ref t3, .ref t4, .int 0, .ref t5, .ref t6, .ref t7])), (dr, .inr (7, [.ref dg, .int 0, .int 0, .int 0, .int 0, .ref d0, .int 0, .ref d1, .ref d2, .ref d3, .ref d4, .int 0, .ref d5, .ref d6, .ref d7])), (dg, .inr (4, [.int 0, .int 0, .int 0, .ref dq])), (gu, .inr (5, [.ref u0, .ref u1, .int 0])), (mm, .inr (12, [.int 0, .int 0, .int (-1), .null, .null, .ref b0, .int 0, .int 0, .int 0, .int 0, .int 0, .int 0, .int 0, .int 0, .int 0, .long 0, .ref b1, .ref b2, .ref b3, .ref b4, .int 0, .int 0, .ref b5, .ref b6, .ref b7, .int 0, .ref b8, .int 0, .int 0, .int 0, .int 0])), (b0, .inl (cy 0, 800, .inl ((fun _ => 0)))), (ob, .inl (cy 2, 1, .inr (.inl ((fun _ => 0)))))]) (hS : va_S (fun q : Nat => s.heap.size ≤ q) s.heap H locs) (hl : lv_has ls 7 [(4, .int 0), (3, .ref ob), (2, .ref mm), (1, .ref xx), (0, .ref b)]) : W p l e room_1 s m #[Value.ref b] below meth c H locs 211 4770 (lw_Z below #[Value.ref b] s) (F0 m 1625 ls []) := by
  have C0' := C0
  obtain ⟨-, -, hr, -, -, -, hX, hbl, hlocks, -⟩ := C0'
  have hx := X.1
  have hb := X.2.1
  have hK := X.2.2.2.2.2.1
  have hA : ∀ q : Nat, s.heap.size ≤ q → (fun q : Nat => s.heap.size ≤ q) q := fun _ h => h
  have hbA : ¬ (fun q : Nat => s.heap.size ≤ q) b := Nat.not_le.mpr hbl
  refine lv_aload_n hx hb dL_law_1625 rfl (lv_at hl 3 rfl) ?_
  refine lv_aload_n hx hb dL_law_1626 rfl (lv_at hl 4 rfl) ?_
  refine lv_iload hx hb dL_law_1627 (lv_at hl 0 rfl) ?_
  refine lv_iconst (v := 1) hx hb dL_law_1629 (by decide) ?_
  refine lv_iadd hx hb dL_law_1630 ?_
  refine lv_topi (fun x_1 ex_1 => ?_)
  have ex_1 : x_1 = 1 := ex_1.trans (by decide)
  subst ex_1
  refine va_sld hx hb hX hbl hbA hS (i := 1) (by unfold vp_in; decide) dL_law_1631 ?_
  refine lv_topi (fun x_2 ex_2 => ?_)
  refine lv_aload_n hx hb dL_law_1632 rfl (lv_at hl 4 rfl) ?_
  refine lv_iload hx hb dL_law_1633 (lv_at hl 0 rfl) ?_
  refine lv_iconst (v := 2) hx hb dL_law_1635 (by decide) ?_
  refine lv_iadd hx hb dL_law_1636 ?_
  refine lv_topi (fun x_3 ex_3 => ?_)
  have ex_3 : x_3 = 2 := ex_3.trans (by decide)
  subst ex_3
  refine va_sld hx hb hX hbl hbA hS (i := 2) (by unfold vp_in; decide) dL_law_1637 ?_
  refine lv_topi (fun x_4 ex_4 => ?_)
  refine lv_aload_n hx hb dL_law_1638 rfl (lv_at hl 4 rfl) ?_
  refine lv_iload hx hb dL_law_1639 (lv_at hl 0 rfl) ?_
  refine lv_iconst (v := 3) hx hb dL_law_1641 (by decide) ?_
  refine lv_iadd hx hb dL_law_1642 ?_
  refine lv_topi (fun x_5 ex_5 => ?_)
  have ex_5 : x_5 = 3 := ex_5.trans (by decide)
  subst ex_5
  refine va_sld hx hb hX hbl hbA hS (i := 3) (by unfold vp_in; decide) dL_law_1643 ?_
  refine lv_topi (fun x_6 ex_6 => ?_)
  refine fI (wr := [(tp, .inr (8, [.ref bt, .int 0, .int 0, .int 0, .int 0, .int 0, .int 0, .int 0, .int 0])), (bt, .inl (cy 0, 800, .inl ((fun _ => 0)))), (nw, .inr (6, [.ref gr, .ref n1, .ref n2, .ref n3, .int 0])), (gr, .inr (4, [.int 0, .int 0, .int 0, .ref gs])), (dr, .inr (7, [.ref dg, .int 0, .int 0, .int 0, .int 0, .ref d0, .int 0, .ref d1, .ref d2, .ref d3, .ref d4, .int 0, .ref d5, .ref d6, .ref d7])), (dg, .inr (4, [.int 0, .int 0, .int 0, .ref dq])), (gu, .inr (5, [.ref u0, .ref u1, .int 0])), (mm, .inr (12, [.int 0, .int 0, .int (-1), .null, .null, .ref b0, .int 0, .int 0, .int 0, .int 0, .int 0, .int 0, .int 0, .int 0, .int 0, .long 0, .ref b1, .ref b2, .ref b3, .ref b4, .int 0, .int 0, .ref b5, .ref b6, .ref b7, .int 0, .ref b8, .int 0, .int 0, .int 0, .int 0])), (b0, .inl (cy 0, 800, .inl ((fun _ => 0)))), (ob, .inl (cy 2, 1, .inr (.inl ((fun _ => 0)))))]) (rV_I (wc := [(xx, .inr (10, [.ref tp, .ref nw, .ref tr, .ref kp, .ref im, .ref wy, .ref ow, .ref fl, .ref cs, .ref ds, .ref gu, .ref fc, .ref td, .ref dr, .int 0, .int 0, .int 0])), (td, .inr (7, [.ref tg, .int 0, .int 0, .int 0, .int 0, .ref t0, .int 0, .ref t1, .ref t2, .ref t3, .ref t4, .int 0, .ref t5, .ref t6, .ref t7]))]) (As := [.int x_2, .int x_4, .int x_6]) (rest := []) X (tX11_strayed l dC dI cy xx (.ref tp) (.ref nw) (.ref tr) (.ref kp) (.ref im) (.ref wy) (.ref ow) (.ref fl) (.ref cs) (.ref ds) (.ref gu) (.ref fc) td (.ref dr) (.int 0) (.int 0) (.int 0) tg t0 t1 t2 t3 t4 t5 t6 t7 x_2 x_4 x_6) kX11_strayed vX11_strayed mL_190 hP hD [0, 5] (by decide) rfl 0 (ci := 10) rfl rfl rfl hl rfl rfl (Nat.le_of_ble_eq_true rfl) dL_law_1644 ⟨Nat.le_of_ble_eq_true rfl, Nat.le_of_ble_eq_true rfl⟩ ⟨Nat.le_of_ble_eq_true rfl, Nat.le_of_ble_eq_true rfl⟩) hP hD hS hA [0, 5] [1, 2, 3, 4, 6, 7, 8, 9, 10, 11] rfl rfl (by decide) (by decide) (fun r_7 u_9 H locs k_8 hP hD hS => ?_)
  have hP : va_P (dC, dI) vwCl [(tp, .inr (8, [.ref bt, .int 0, .int 0, .int 0, .int 0, .int 0, .int 0, .int 0, .int 0])), (bt, .inl (cy 0, 800, .inl ((fun _ => 0)))), (nw, .inr (6, [.ref gr, .ref n1, .ref n2, .ref n3, .int 0])), (gr, .inr (4, [.int 0, .int 0, .int 0, .ref gs])), (dr, .inr (7, [.ref dg, .int 0, .int 0, .int 0, .int 0, .ref d0, .int 0, .ref d1, .ref d2, .ref d3, .ref d4, .int 0, .ref d5, .ref d6, .ref d7])), (dg, .inr (4, [.int 0, .int 0, .int 0, .ref dq])), (gu, .inr (5, [.ref u0, .ref u1, .int 0])), (mm, .inr (12, [.int 0, .int 0, .int (-1), .null, .null, .ref b0, .int 0, .int 0, .int 0, .int 0, .int 0, .int 0, .int 0, .int 0, .int 0, .long 0, .ref b1, .ref b2, .ref b3, .ref b4, .int 0, .int 0, .ref b5, .ref b6, .ref b7, .int 0, .ref b8, .int 0, .int 0, .int 0, .int 0])), (b0, .inl (cy 0, 800, .inl ((fun _ => 0)))), (ob, .inl (cy 2, 1, .inr (.inl ((fun _ => 0)))))] H := hP
  have hD : va_D (fun q : Nat => s.heap.size ≤ q) [(tp, .inr (8, [.ref bt, .int 0, .int 0, .int 0, .int 0, .int 0, .int 0, .int 0, .int 0])), (bt, .inl (cy 0, 800, .inl ((fun _ => 0)))), (nw, .inr (6, [.ref gr, .ref n1, .ref n2, .ref n3, .int 0])), (gr, .inr (4, [.int 0, .int 0, .int 0, .ref gs])), (dr, .inr (7, [.ref dg, .int 0, .int 0, .int 0, .int 0, .ref d0, .int 0, .ref d1, .ref d2, .ref d3, .ref d4, .int 0, .ref d5, .ref d6, .ref d7])), (dg, .inr (4, [.int 0, .int 0, .int 0, .ref dq])), (gu, .inr (5, [.ref u0, .ref u1, .int 0])), (mm, .inr (12, [.int 0, .int 0, .int (-1), .null, .null, .ref b0, .int 0, .int 0, .int 0, .int 0, .int 0, .int 0, .int 0, .int 0, .int 0, .long 0, .ref b1, .ref b2, .ref b3, .ref b4, .int 0, .int 0, .ref b5, .ref b6, .ref b7, .int 0, .ref b8, .int 0, .int 0, .int 0, .int 0])), (b0, .inl (cy 0, 800, .inl ((fun _ => 0)))), (ob, .inl (cy 2, 1, .inr (.inl ((fun _ => 0)))))] := hD
  have er_7 : r_7 = -1 := k_8
  subst er_7
  refine lv_aload_n hx hb dL_law_1647 rfl (lv_at hl 2 rfl) ?_
  refine lv_aload_n hx hb dL_law_1648 rfl (lv_at hl 4 rfl) ?_
  refine lv_iload hx hb dL_law_1649 (lv_at hl 0 rfl) ?_
  refine lv_iconst (v := 1) hx hb dL_law_1651 (by decide) ?_
  refine lv_iadd hx hb dL_law_1652 ?_
  refine lv_topi (fun x_10 ex_10 => ?_)
  have ex_10 : x_10 = 1 := ex_10.trans (by decide)
  subst ex_10
  refine va_sld hx hb hX hbl hbA hS (i := 1) (by unfold vp_in; decide) dL_law_1653 ?_
  refine lv_topi (fun x_11 ex_11 => ?_)
  refine lv_aload_n hx hb dL_law_1654 rfl (lv_at hl 4 rfl) ?_
  refine lv_iload hx hb dL_law_1655 (lv_at hl 0 rfl) ?_
  refine lv_iconst (v := 2) hx hb dL_law_1657 (by decide) ?_
  refine lv_iadd hx hb dL_law_1658 ?_
  refine lv_topi (fun x_12 ex_12 => ?_)
  have ex_12 : x_12 = 2 := ex_12.trans (by decide)
  subst ex_12
  refine va_sld hx hb hX hbl hbA hS (i := 2) (by unfold vp_in; decide) dL_law_1659 ?_
  refine lv_topi (fun x_13 ex_13 => ?_)
  refine lv_aload_n hx hb dL_law_1660 rfl (lv_at hl 4 rfl) ?_
  refine lv_iload hx hb dL_law_1661 (lv_at hl 0 rfl) ?_
  refine lv_iconst (v := 3) hx hb dL_law_1663 (by decide) ?_
  refine lv_iadd hx hb dL_law_1664 ?_
  refine lv_topi (fun x_14 ex_14 => ?_)
  have ex_14 : x_14 = 3 := ex_14.trans (by decide)
  subst ex_14
  refine va_sld hx hb hX hbl hbA hS (i := 3) (by unfold vp_in; decide) dL_law_1665 ?_
  refine lv_topi (fun x_15 ex_15 => ?_)
  refine fI (wr := [(tp, .inr (8, [.ref bt, .int 0, .int 0, .int 0, .int 0, .int 0, .int 0, .int 0, .int 0])), (bt, .inl (cy 0, 800, .inl ((fun _ => 0)))), (nw, .inr (6, [.ref gr, .ref n1, .ref n2, .ref n3, .int 0])), (gr, .inr (4, [.int 0, .int 0, .int 0, .ref gs])), (dr, .inr (7, [.ref dg, .int 0, .int 0, .int 0, .int 0, .ref d0, .int 0, .ref d1, .ref d2, .ref d3, .ref d4, .int 0, .ref d5, .ref d6, .ref d7])), (dg, .inr (4, [.int 0, .int 0, .int 0, .ref dq])), (gu, .inr (5, [.ref u0, .ref u1, .int 0])), (b0, .inl (cy 0, 800, .inl ((fun _ => 0)))), (ob, .inl (cy 2, 1, .inr (.inl ((fun _ => 0)))))]) (rV_I (wc := [(mm, .inr (12, [.int 0, .int 0, .int (-1), .null, .null, .ref b0, .int 0, .int 0, .int 0, .int 0, .int 0, .int 0, .int 0, .int 0, .int 0, .long 0, .ref b1, .ref b2, .ref b3, .ref b4, .int 0, .int 0, .ref b5, .ref b6, .ref b7, .int 0, .ref b8, .int 0, .int 0, .int 0, .int 0]))]) (As := [.int x_11, .int x_13, .int x_15]) (rest := [.int (-1)]) X (tX13_strayed l dC dI cy mm 0 0 (-1) .null (.ref b0) 0 0 0 0 0 0 0 0 0 0 (.ref b1) (.ref b2) (.ref b3) (.ref b4) 0 0 (.ref b5) (.ref b6) (.ref b7) 0 (.ref b8) 0 0 0 0 x_11 x_13 x_15) kX13_strayed vX13_strayed mL_193 hP hD [7] (by decide) rfl 0 (ci := 12) rfl rfl rfl hl rfl rfl (Nat.le_of_ble_eq_true rfl) dL_law_1666 ⟨Nat.le_of_ble_eq_true rfl, Nat.le_of_ble_eq_true rfl⟩ ⟨Nat.le_of_ble_eq_true rfl, Nat.le_of_ble_eq_true rfl⟩) hP hD hS hA [7] [0, 1, 2, 3, 4, 5, 6, 8, 9] rfl rfl (by decide) (by decide) (fun r_16 u_18 H locs k_17 hP hD hS => ?_)
  have hP : va_P (dC, dI) vwCl [(tp, .inr (8, [.ref bt, .int 0, .int 0, .int 0, .int 0, .int 0, .int 0, .int 0, .int 0])), (bt, .inl (cy 0, 800, .inl ((fun _ => 0)))), (nw, .inr (6, [.ref gr, .ref n1, .ref n2, .ref n3, .int 0])), (gr, .inr (4, [.int 0, .int 0, .int 0, .ref gs])), (dr, .inr (7, [.ref dg, .int 0, .int 0, .int 0, .int 0, .ref d0, .int 0, .ref d1, .ref d2, .ref d3, .ref d4, .int 0, .ref d5, .ref d6, .ref d7])), (dg, .inr (4, [.int 0, .int 0, .int 0, .ref dq])), (gu, .inr (5, [.ref u0, .ref u1, .int 0])), (b0, .inl (cy 0, 800, .inl ((fun _ => 0)))), (ob, .inl (cy 2, 1, .inr (.inl ((fun _ => 0)))))] H := hP
  have hD : va_D (fun q : Nat => s.heap.size ≤ q) [(tp, .inr (8, [.ref bt, .int 0, .int 0, .int 0, .int 0, .int 0, .int 0, .int 0, .int 0])), (bt, .inl (cy 0, 800, .inl ((fun _ => 0)))), (nw, .inr (6, [.ref gr, .ref n1, .ref n2, .ref n3, .int 0])), (gr, .inr (4, [.int 0, .int 0, .int 0, .ref gs])), (dr, .inr (7, [.ref dg, .int 0, .int 0, .int 0, .int 0, .ref d0, .int 0, .ref d1, .ref d2, .ref d3, .ref d4, .int 0, .ref d5, .ref d6, .ref d7])), (dg, .inr (4, [.int 0, .int 0, .int 0, .ref dq])), (gu, .inr (5, [.ref u0, .ref u1, .int 0])), (b0, .inl (cy 0, 800, .inl ((fun _ => 0)))), (ob, .inl (cy 2, 1, .inr (.inl ((fun _ => 0)))))] := hD
  have er_16 : r_16 = -1 := k_17
  subst er_16
  refine lv_icmp_eq (tgt := 1956) hx hb dL_law_1669 (by decide) (fun _ => ?_) (fun h_19 => absurd (by decide) h_19)
  exact law_end hl9 C0 X hZ (Nat.le_of_ble_eq_true rfl) (Nat.le_of_ble_eq_true rfl) hS (lv_sub hl [0, 4] rfl)
