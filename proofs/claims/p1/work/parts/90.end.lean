set_option maxHeartbeats 8000000 in
set_option maxRecDepth 100000 in
/-- YOUR PART: from the entry, for every script of at most 6 ints, the law comes to its end with true ('hflags': the launch's flags, for a law that throws: no stack traces) -/
theorem whole_start {p : Program} {e : Env} {s : State} {m : MethodId} {below : List Frame} {meth : Method} {c : Code} (l : Launch) (hflags : l.flags = flags0) {b L : Nat} {xs : Nat → Int32} (hL : L ≤ 6) (C0 : lw_At p s m meth c b L xs) : W p l e room_1 s m #[Value.ref b] below meth c s.heap [] 0 0 (lw_Z below #[Value.ref b] s) (entryFrame m ([Value.ref b] : List Value).toArray 7) := by
  obtain ⟨hx, hb, hr, hml, hown, hts, hX, hbl, hlocks, hgv⟩ := id C0
  have hl9 : l.stackTraces = false := by
    show (!l.flags.contains noTraceFlag) = false
    rw [hflags]
    decide +kernel
  obtain ⟨dC, dI, cy, X, hZ⟩ := law_in C0
  have hK := X.2.2.2.2.2.1
  have hA : ∀ q : Nat, s.heap.size ≤ q → (fun q : Nat => s.heap.size ≤ q) q := fun _ h => h
  have hbA : ¬ (fun q : Nat => s.heap.size ≤ q) b := Nat.not_le.mpr hbl
  have hS : va_S (fun q : Nat => s.heap.size ≤ q) s.heap s.heap [] := va_S.rf
  have hP : va_P (dC, dI) vwCl [] s.heap := fun k q h => by simp at h
  have hD : va_D (fun q : Nat => s.heap.size ≤ q) [] := ⟨fun i j p q h => by simp at h, fun k q h => by simp at h⟩
  have hl := lv_entry ([.ref b]) (n := 7) (Nat.le_of_ble_eq_true rfl)
  rw [lg_entry_eq]
  generalize (lg_sl ([.ref b]) ++ List.replicate (7 - (lg_sl ([.ref b])).length) Slot.unset).toArray = ls at hl ⊢
  have hl : lv_has ls 7 [(0, .ref b)] := hl
  refine r_new X kcX11 (ci := 10) rfl w_126 w_127 w_100 hP hD hS hA [.null, .null, .null, .null, .null, .null, .null, .null, .null, .null, .null, .null, .null, .null, .int 0, .int 0, .int 0] (fun j hj => by rcases (show j = 0 ∨ j = 1 ∨ j = 2 ∨ j = 3 ∨ j = 4 ∨ j = 5 ∨ j = 6 ∨ j = 7 ∨ j = 8 ∨ j = 9 ∨ j = 10 ∨ j = 11 ∨ j = 12 ∨ j = 13 ∨ j = 14 ∨ j = 15 ∨ j = 16 by omega) with rfl | rfl | rfl | rfl | rfl | rfl | rfl | rfl | rfl | rfl | rfl | rfl | rfl | rfl | rfl | rfl | rfl <;> rfl) (Nat.le_of_ble_eq_true rfl) (Nat.le_of_ble_eq_true rfl) dL_law_0 (fun q_1 H hP hD hS => ?_)
  have hP : va_P (dC, dI) vwCl [(q_1, .inr (10, [.null, .null, .null, .null, .null, .null, .null, .null, .null, .null, .null, .null, .null, .null, .int 0, .int 0, .int 0]))] H := hP
  have hD : va_D (fun q : Nat => s.heap.size ≤ q) [(q_1, .inr (10, [.null, .null, .null, .null, .null, .null, .null, .null, .null, .null, .null, .null, .null, .null, .int 0, .int 0, .int 0]))] := hD
  refine lv_dup hx hb dL_law_3 rfl ?_
  refine fV (wr := []) (rC_V (wc := [(q_1, .inr (10, [.null, .null, .null, .null, .null, .null, .null, .null, .null, .null, .null, .null, .null, .null, .int 0, .int 0, .int 0]))]) (As := []) (rest := [.ref q_1]) X (tX11_ini l dC dI cy q_1) kX11_init w_129 rfl mL_15 hP hD [0] (by decide) rfl hl rfl rfl (Nat.le_of_ble_eq_true rfl) dL_law_4 ⟨Nat.le_of_ble_eq_true rfl, Nat.le_of_ble_eq_true rfl⟩ ⟨Nat.le_of_ble_eq_true rfl, Nat.le_of_ble_eq_true rfl⟩) hP hD hS hA [0] [] rfl rfl (by decide) (by decide) (fun u_45 H locs k_44 hP hD hS => ?_)
  obtain ⟨tp_2, bt_3, nw_4, gr_5, gs_6, n1_7, n2_8, n3_9, tr_10, kp_11, im_12, wy_13, ow_14, fl_15, cs_16, ds_17, gu_18, u0_19, u1_20, fc_21, td_22, tg_23, t0_24, t1_25, t2_26, t3_27, t4_28, t5_29, t6_30, t7_31, dr_32, dg_33, dq_34, d0_35, d1_36, d2_37, d3_38, d4_39, d5_40, d6_41, d7_42⟩ := u_45
  have hP : va_P (dC, dI) vwCl [(q_1, .inr (10, [.ref tp_2, .ref nw_4, .ref tr_10, .ref kp_11, .ref im_12, .ref wy_13, .ref ow_14, .ref fl_15, .ref cs_16, .ref ds_17, .ref gu_18, .ref fc_21, .ref td_22, .ref dr_32, .int 0, .int 0, .int 0])), (tp_2, .inr (8, [.ref bt_3, .int 0, .int 0, .int 0, .int 0, .int 0, .int 0, .int 0, .int 0])), (bt_3, .inl (cy 0, 800, .inl ((fun _ => 0)))), (nw_4, .inr (6, [.ref gr_5, .ref n1_7, .ref n2_8, .ref n3_9, .int 0])), (gr_5, .inr (4, [.int 0, .int 0, .int 0, .ref gs_6])), (td_22, .inr (7, [.ref tg_23, .int 0, .int 0, .int 0, .int 0, .ref t0_24, .int 0, .ref t1_25, .ref t2_26, .ref t3_27, .ref t4_28, .int 0, .ref t5_29, .ref t6_30, .ref t7_31])), (dr_32, .inr (7, [.ref dg_33, .int 0, .int 0, .int 0, .int 0, .ref d0_35, .int 0, .ref d1_36, .ref d2_37, .ref d3_38, .ref d4_39, .int 0, .ref d5_40, .ref d6_41, .ref d7_42])), (dg_33, .inr (4, [.int 0, .int 0, .int 0, .ref dq_34])), (gu_18, .inr (5, [.ref u0_19, .ref u1_20, .int 0]))] H := hP
  have hD : va_D (fun q : Nat => s.heap.size ≤ q) [(q_1, .inr (10, [.ref tp_2, .ref nw_4, .ref tr_10, .ref kp_11, .ref im_12, .ref wy_13, .ref ow_14, .ref fl_15, .ref cs_16, .ref ds_17, .ref gu_18, .ref fc_21, .ref td_22, .ref dr_32, .int 0, .int 0, .int 0])), (tp_2, .inr (8, [.ref bt_3, .int 0, .int 0, .int 0, .int 0, .int 0, .int 0, .int 0, .int 0])), (bt_3, .inl (cy 0, 800, .inl ((fun _ => 0)))), (nw_4, .inr (6, [.ref gr_5, .ref n1_7, .ref n2_8, .ref n3_9, .int 0])), (gr_5, .inr (4, [.int 0, .int 0, .int 0, .ref gs_6])), (td_22, .inr (7, [.ref tg_23, .int 0, .int 0, .int 0, .int 0, .ref t0_24, .int 0, .ref t1_25, .ref t2_26, .ref t3_27, .ref t4_28, .int 0, .ref t5_29, .ref t6_30, .ref t7_31])), (dr_32, .inr (7, [.ref dg_33, .int 0, .int 0, .int 0, .int 0, .ref d0_35, .int 0, .ref d1_36, .ref d2_37, .ref d3_38, .ref d4_39, .int 0, .ref d5_40, .ref d6_41, .ref d7_42])), (dg_33, .inr (4, [.int 0, .int 0, .int 0, .ref dq_34])), (gu_18, .inr (5, [.ref u0_19, .ref u1_20, .int 0]))] := hD
  refine lv_astore_n (lv' := [(1, .ref q_1), (0, .ref b)]) hx hb dL_law_7 rfl hl (by decide) rfl (fun ls hl => ?_)
  refine r_new X kcX13 (ci := 12) rfl w_1328 w_1329 w_112 hP hD hS hA [.int 0, .int 0, .int 0, .null, .null, .null, .int 0, .int 0, .int 0, .int 0, .int 0, .int 0, .int 0, .int 0, .int 0, .long 0, .null, .null, .null, .null, .int 0, .int 0, .null, .null, .null, .int 0, .null, .int 0, .int 0, .int 0, .int 0] (fun j hj => by rcases (show j = 0 ∨ j = 1 ∨ j = 2 ∨ j = 3 ∨ j = 4 ∨ j = 5 ∨ j = 6 ∨ j = 7 ∨ j = 8 ∨ j = 9 ∨ j = 10 ∨ j = 11 ∨ j = 12 ∨ j = 13 ∨ j = 14 ∨ j = 15 ∨ j = 16 ∨ j = 17 ∨ j = 18 ∨ j = 19 ∨ j = 20 ∨ j = 21 ∨ j = 22 ∨ j = 23 ∨ j = 24 ∨ j = 25 ∨ j = 26 ∨ j = 27 ∨ j = 28 ∨ j = 29 ∨ j = 30 by omega) with rfl | rfl | rfl | rfl | rfl | rfl | rfl | rfl | rfl | rfl | rfl | rfl | rfl | rfl | rfl | rfl | rfl | rfl | rfl | rfl | rfl | rfl | rfl | rfl | rfl | rfl | rfl | rfl | rfl | rfl | rfl <;> rfl) (Nat.le_of_ble_eq_true rfl) (Nat.le_of_ble_eq_true rfl) dL_law_8 (fun q_46 H hP hD hS => ?_)
  have hP : va_P (dC, dI) vwCl [(q_1, .inr (10, [.ref tp_2, .ref nw_4, .ref tr_10, .ref kp_11, .ref im_12, .ref wy_13, .ref ow_14, .ref fl_15, .ref cs_16, .ref ds_17, .ref gu_18, .ref fc_21, .ref td_22, .ref dr_32, .int 0, .int 0, .int 0])), (tp_2, .inr (8, [.ref bt_3, .int 0, .int 0, .int 0, .int 0, .int 0, .int 0, .int 0, .int 0])), (bt_3, .inl (cy 0, 800, .inl ((fun _ => 0)))), (nw_4, .inr (6, [.ref gr_5, .ref n1_7, .ref n2_8, .ref n3_9, .int 0])), (gr_5, .inr (4, [.int 0, .int 0, .int 0, .ref gs_6])), (td_22, .inr (7, [.ref tg_23, .int 0, .int 0, .int 0, .int 0, .ref t0_24, .int 0, .ref t1_25, .ref t2_26, .ref t3_27, .ref t4_28, .int 0, .ref t5_29, .ref t6_30, .ref t7_31])), (dr_32, .inr (7, [.ref dg_33, .int 0, .int 0, .int 0, .int 0, .ref d0_35, .int 0, .ref d1_36, .ref d2_37, .ref d3_38, .ref d4_39, .int 0, .ref d5_40, .ref d6_41, .ref d7_42])), (dg_33, .inr (4, [.int 0, .int 0, .int 0, .ref dq_34])), (gu_18, .inr (5, [.ref u0_19, .ref u1_20, .int 0])), (q_46, .inr (12, [.int 0, .int 0, .int 0, .null, .null, .null, .int 0, .int 0, .int 0, .int 0, .int 0, .int 0, .int 0, .int 0, .int 0, .long 0, .null, .null, .null, .null, .int 0, .int 0, .null, .null, .null, .int 0, .null, .int 0, .int 0, .int 0, .int 0]))] H := hP
  have hD : va_D (fun q : Nat => s.heap.size ≤ q) [(q_1, .inr (10, [.ref tp_2, .ref nw_4, .ref tr_10, .ref kp_11, .ref im_12, .ref wy_13, .ref ow_14, .ref fl_15, .ref cs_16, .ref ds_17, .ref gu_18, .ref fc_21, .ref td_22, .ref dr_32, .int 0, .int 0, .int 0])), (tp_2, .inr (8, [.ref bt_3, .int 0, .int 0, .int 0, .int 0, .int 0, .int 0, .int 0, .int 0])), (bt_3, .inl (cy 0, 800, .inl ((fun _ => 0)))), (nw_4, .inr (6, [.ref gr_5, .ref n1_7, .ref n2_8, .ref n3_9, .int 0])), (gr_5, .inr (4, [.int 0, .int 0, .int 0, .ref gs_6])), (td_22, .inr (7, [.ref tg_23, .int 0, .int 0, .int 0, .int 0, .ref t0_24, .int 0, .ref t1_25, .ref t2_26, .ref t3_27, .ref t4_28, .int 0, .ref t5_29, .ref t6_30, .ref t7_31])), (dr_32, .inr (7, [.ref dg_33, .int 0, .int 0, .int 0, .int 0, .ref d0_35, .int 0, .ref d1_36, .ref d2_37, .ref d3_38, .ref d4_39, .int 0, .ref d5_40, .ref d6_41, .ref d7_42])), (dg_33, .inr (4, [.int 0, .int 0, .int 0, .ref dq_34])), (gu_18, .inr (5, [.ref u0_19, .ref u1_20, .int 0])), (q_46, .inr (12, [.int 0, .int 0, .int 0, .null, .null, .null, .int 0, .int 0, .int 0, .int 0, .int 0, .int 0, .int 0, .int 0, .int 0, .long 0, .null, .null, .null, .null, .int 0, .int 0, .null, .null, .null, .int 0, .null, .int 0, .int 0, .int 0, .int 0]))] := hD
  refine lv_dup hx hb dL_law_11 rfl ?_
  refine fV (wr := [(q_1, .inr (10, [.ref tp_2, .ref nw_4, .ref tr_10, .ref kp_11, .ref im_12, .ref wy_13, .ref ow_14, .ref fl_15, .ref cs_16, .ref ds_17, .ref gu_18, .ref fc_21, .ref td_22, .ref dr_32, .int 0, .int 0, .int 0])), (tp_2, .inr (8, [.ref bt_3, .int 0, .int 0, .int 0, .int 0, .int 0, .int 0, .int 0, .int 0])), (bt_3, .inl (cy 0, 800, .inl ((fun _ => 0)))), (nw_4, .inr (6, [.ref gr_5, .ref n1_7, .ref n2_8, .ref n3_9, .int 0])), (gr_5, .inr (4, [.int 0, .int 0, .int 0, .ref gs_6])), (td_22, .inr (7, [.ref tg_23, .int 0, .int 0, .int 0, .int 0, .ref t0_24, .int 0, .ref t1_25, .ref t2_26, .ref t3_27, .ref t4_28, .int 0, .ref t5_29, .ref t6_30, .ref t7_31])), (dr_32, .inr (7, [.ref dg_33, .int 0, .int 0, .int 0, .int 0, .ref d0_35, .int 0, .ref d1_36, .ref d2_37, .ref d3_38, .ref d4_39, .int 0, .ref d5_40, .ref d6_41, .ref d7_42])), (dg_33, .inr (4, [.int 0, .int 0, .int 0, .ref dq_34])), (gu_18, .inr (5, [.ref u0_19, .ref u1_20, .int 0]))]) (rC_V (wc := [(q_46, .inr (12, [.int 0, .int 0, .int 0, .null, .null, .null, .int 0, .int 0, .int 0, .int 0, .int 0, .int 0, .int 0, .int 0, .int 0, .long 0, .null, .null, .null, .null, .int 0, .int 0, .null, .null, .null, .int 0, .null, .int 0, .int 0, .int 0, .int 0]))]) (As := []) (rest := [.ref q_46]) X (tX13_ini l dC dI cy q_46) kX13_init w_1331 rfl mL_18 hP hD [9] (by decide) rfl hl rfl rfl (Nat.le_of_ble_eq_true rfl) dL_law_12 ⟨Nat.le_of_ble_eq_true rfl, Nat.le_of_ble_eq_true rfl⟩ ⟨Nat.le_of_ble_eq_true rfl, Nat.le_of_ble_eq_true rfl⟩) hP hD hS hA [9] [0, 1, 2, 3, 4, 5, 6, 7, 8] rfl rfl (by decide) (by decide) (fun u_58 H locs k_57 hP hD hS => ?_)
  obtain ⟨b0_47, b1_48, b2_49, b3_50, b4_51, b5_52, b6_53, b7_54, b8_55⟩ := u_58
  have hP : va_P (dC, dI) vwCl [(q_1, .inr (10, [.ref tp_2, .ref nw_4, .ref tr_10, .ref kp_11, .ref im_12, .ref wy_13, .ref ow_14, .ref fl_15, .ref cs_16, .ref ds_17, .ref gu_18, .ref fc_21, .ref td_22, .ref dr_32, .int 0, .int 0, .int 0])), (tp_2, .inr (8, [.ref bt_3, .int 0, .int 0, .int 0, .int 0, .int 0, .int 0, .int 0, .int 0])), (bt_3, .inl (cy 0, 800, .inl ((fun _ => 0)))), (nw_4, .inr (6, [.ref gr_5, .ref n1_7, .ref n2_8, .ref n3_9, .int 0])), (gr_5, .inr (4, [.int 0, .int 0, .int 0, .ref gs_6])), (td_22, .inr (7, [.ref tg_23, .int 0, .int 0, .int 0, .int 0, .ref t0_24, .int 0, .ref t1_25, .ref t2_26, .ref t3_27, .ref t4_28, .int 0, .ref t5_29, .ref t6_30, .ref t7_31])), (dr_32, .inr (7, [.ref dg_33, .int 0, .int 0, .int 0, .int 0, .ref d0_35, .int 0, .ref d1_36, .ref d2_37, .ref d3_38, .ref d4_39, .int 0, .ref d5_40, .ref d6_41, .ref d7_42])), (dg_33, .inr (4, [.int 0, .int 0, .int 0, .ref dq_34])), (gu_18, .inr (5, [.ref u0_19, .ref u1_20, .int 0])), (q_46, .inr (12, [.int 0, .int 0, .int (-1), .null, .null, .ref b0_47, .int 0, .int 0, .int 0, .int 0, .int 0, .int 0, .int 0, .int 0, .int 0, .long 0, .ref b1_48, .ref b2_49, .ref b3_50, .ref b4_51, .int 0, .int 0, .ref b5_52, .ref b6_53, .ref b7_54, .int 0, .ref b8_55, .int 0, .int 0, .int 0, .int 0])), (b0_47, .inl (cy 0, 800, .inl ((fun _ => 0))))] H := hP
  have hD : va_D (fun q : Nat => s.heap.size ≤ q) [(q_1, .inr (10, [.ref tp_2, .ref nw_4, .ref tr_10, .ref kp_11, .ref im_12, .ref wy_13, .ref ow_14, .ref fl_15, .ref cs_16, .ref ds_17, .ref gu_18, .ref fc_21, .ref td_22, .ref dr_32, .int 0, .int 0, .int 0])), (tp_2, .inr (8, [.ref bt_3, .int 0, .int 0, .int 0, .int 0, .int 0, .int 0, .int 0, .int 0])), (bt_3, .inl (cy 0, 800, .inl ((fun _ => 0)))), (nw_4, .inr (6, [.ref gr_5, .ref n1_7, .ref n2_8, .ref n3_9, .int 0])), (gr_5, .inr (4, [.int 0, .int 0, .int 0, .ref gs_6])), (td_22, .inr (7, [.ref tg_23, .int 0, .int 0, .int 0, .int 0, .ref t0_24, .int 0, .ref t1_25, .ref t2_26, .ref t3_27, .ref t4_28, .int 0, .ref t5_29, .ref t6_30, .ref t7_31])), (dr_32, .inr (7, [.ref dg_33, .int 0, .int 0, .int 0, .int 0, .ref d0_35, .int 0, .ref d1_36, .ref d2_37, .ref d3_38, .ref d4_39, .int 0, .ref d5_40, .ref d6_41, .ref d7_42])), (dg_33, .inr (4, [.int 0, .int 0, .int 0, .ref dq_34])), (gu_18, .inr (5, [.ref u0_19, .ref u1_20, .int 0])), (q_46, .inr (12, [.int 0, .int 0, .int (-1), .null, .null, .ref b0_47, .int 0, .int 0, .int 0, .int 0, .int 0, .int 0, .int 0, .int 0, .int 0, .long 0, .ref b1_48, .ref b2_49, .ref b3_50, .ref b4_51, .int 0, .int 0, .ref b5_52, .ref b6_53, .ref b7_54, .int 0, .ref b8_55, .int 0, .int 0, .int 0, .int 0])), (b0_47, .inl (cy 0, 800, .inl ((fun _ => 0))))] := hD
  refine lv_astore_n (lv' := [(2, .ref q_46), (1, .ref q_1), (0, .ref b)]) hx hb dL_law_15 rfl hl (by decide) rfl (fun ls hl => ?_)
  refine lv_iconst (v := 1) hx hb dL_law_16 (by decide) ?_
  refine r_newa X (atype := .long) (ty := .long) (t0 := 2) (N' := 1) (a0 := (1, .inr (.inl (fun _ => 0)))) rfl w_348 rfl hP hD hS hA (fun _ => rfl) (by decide) (by decide) (Nat.le_of_ble_eq_true rfl) (Nat.le_of_ble_eq_true rfl) (Nat.le_of_ble_eq_true rfl) dL_law_17 (fun q_59 H hP hD hS => ?_)
  have hP : va_P (dC, dI) vwCl [(q_1, .inr (10, [.ref tp_2, .ref nw_4, .ref tr_10, .ref kp_11, .ref im_12, .ref wy_13, .ref ow_14, .ref fl_15, .ref cs_16, .ref ds_17, .ref gu_18, .ref fc_21, .ref td_22, .ref dr_32, .int 0, .int 0, .int 0])), (tp_2, .inr (8, [.ref bt_3, .int 0, .int 0, .int 0, .int 0, .int 0, .int 0, .int 0, .int 0])), (bt_3, .inl (cy 0, 800, .inl ((fun _ => 0)))), (nw_4, .inr (6, [.ref gr_5, .ref n1_7, .ref n2_8, .ref n3_9, .int 0])), (gr_5, .inr (4, [.int 0, .int 0, .int 0, .ref gs_6])), (td_22, .inr (7, [.ref tg_23, .int 0, .int 0, .int 0, .int 0, .ref t0_24, .int 0, .ref t1_25, .ref t2_26, .ref t3_27, .ref t4_28, .int 0, .ref t5_29, .ref t6_30, .ref t7_31])), (dr_32, .inr (7, [.ref dg_33, .int 0, .int 0, .int 0, .int 0, .ref d0_35, .int 0, .ref d1_36, .ref d2_37, .ref d3_38, .ref d4_39, .int 0, .ref d5_40, .ref d6_41, .ref d7_42])), (dg_33, .inr (4, [.int 0, .int 0, .int 0, .ref dq_34])), (gu_18, .inr (5, [.ref u0_19, .ref u1_20, .int 0])), (q_46, .inr (12, [.int 0, .int 0, .int (-1), .null, .null, .ref b0_47, .int 0, .int 0, .int 0, .int 0, .int 0, .int 0, .int 0, .int 0, .int 0, .long 0, .ref b1_48, .ref b2_49, .ref b3_50, .ref b4_51, .int 0, .int 0, .ref b5_52, .ref b6_53, .ref b7_54, .int 0, .ref b8_55, .int 0, .int 0, .int 0, .int 0])), (b0_47, .inl (cy 0, 800, .inl ((fun _ => 0)))), (q_59, .inl (cy 2, 1, .inr (.inl ((fun _ => 0)))))] H := hP
  have hD : va_D (fun q : Nat => s.heap.size ≤ q) [(q_1, .inr (10, [.ref tp_2, .ref nw_4, .ref tr_10, .ref kp_11, .ref im_12, .ref wy_13, .ref ow_14, .ref fl_15, .ref cs_16, .ref ds_17, .ref gu_18, .ref fc_21, .ref td_22, .ref dr_32, .int 0, .int 0, .int 0])), (tp_2, .inr (8, [.ref bt_3, .int 0, .int 0, .int 0, .int 0, .int 0, .int 0, .int 0, .int 0])), (bt_3, .inl (cy 0, 800, .inl ((fun _ => 0)))), (nw_4, .inr (6, [.ref gr_5, .ref n1_7, .ref n2_8, .ref n3_9, .int 0])), (gr_5, .inr (4, [.int 0, .int 0, .int 0, .ref gs_6])), (td_22, .inr (7, [.ref tg_23, .int 0, .int 0, .int 0, .int 0, .ref t0_24, .int 0, .ref t1_25, .ref t2_26, .ref t3_27, .ref t4_28, .int 0, .ref t5_29, .ref t6_30, .ref t7_31])), (dr_32, .inr (7, [.ref dg_33, .int 0, .int 0, .int 0, .int 0, .ref d0_35, .int 0, .ref d1_36, .ref d2_37, .ref d3_38, .ref d4_39, .int 0, .ref d5_40, .ref d6_41, .ref d7_42])), (dg_33, .inr (4, [.int 0, .int 0, .int 0, .ref dq_34])), (gu_18, .inr (5, [.ref u0_19, .ref u1_20, .int 0])), (q_46, .inr (12, [.int 0, .int 0, .int (-1), .null, .null, .ref b0_47, .int 0, .int 0, .int 0, .int 0, .int 0, .int 0, .int 0, .int 0, .int 0, .long 0, .ref b1_48, .ref b2_49, .ref b3_50, .ref b4_51, .int 0, .int 0, .ref b5_52, .ref b6_53, .ref b7_54, .int 0, .ref b8_55, .int 0, .int 0, .int 0, .int 0])), (b0_47, .inl (cy 0, 800, .inl ((fun _ => 0)))), (q_59, .inl (cy 2, 1, .inr (.inl ((fun _ => 0)))))] := hD
  refine lv_astore_n (lv' := [(3, .ref q_59), (2, .ref q_46), (1, .ref q_1), (0, .ref b)]) hx hb dL_law_19 rfl hl (by decide) rfl (fun ls hl => ?_)
  refine lv_iconst (v := 0) hx hb dL_law_20 (by decide) ?_
  refine lv_istore (lv' := [(4, .int 0), (3, .ref q_59), (2, .ref q_46), (1, .ref q_1), (0, .ref b)]) hx hb dL_law_21 hl (by decide) rfl (fun ls hl => ?_)
  have hP := hP.sub (ws' := [(q_1, .inr (10, [.ref tp_2, .ref nw_4, .ref tr_10, .ref kp_11, .ref im_12, .ref wy_13, .ref ow_14, .ref fl_15, .ref cs_16, .ref ds_17, .ref gu_18, .ref fc_21, .ref td_22, .ref dr_32, .int 0, .int 0, .int 0])), (tp_2, .inr (8, [.ref bt_3, .int 0, .int 0, .int 0, .int 0, .int 0, .int 0, .int 0, .int 0])), (bt_3, .inl (cy 0, 800, .inl ((fun _ => 0)))), (nw_4, .inr (6, [.ref gr_5, .ref n1_7, .ref n2_8, .ref n3_9, .int 0])), (gr_5, .inr (4, [.int 0, .int 0, .int 0, .ref gs_6])), (td_22, .inr (7, [.ref tg_23, .int 0, .int 0, .int 0, .int 0, .ref t0_24, .int 0, .ref t1_25, .ref t2_26, .ref t3_27, .ref t4_28, .int 0, .ref t5_29, .ref t6_30, .ref t7_31])), (dr_32, .inr (7, [.ref dg_33, .int 0, .int 0, .int 0, .int 0, .ref d0_35, .int 0, .ref d1_36, .ref d2_37, .ref d3_38, .ref d4_39, .int 0, .ref d5_40, .ref d6_41, .ref d7_42])), (dg_33, .inr (4, [.int 0, .int 0, .int 0, .ref dq_34])), (gu_18, .inr (5, [.ref u0_19, .ref u1_20, .int 0])), (q_46, .inr (12, [.int 0, .int 0, .int (-1), .null, .null, .ref b0_47, .int 0, .int 0, .int 0, .int 0, .int 0, .int 0, .int 0, .int 0, .int 0, .long 0, .ref b1_48, .ref b2_49, .ref b3_50, .ref b4_51, .int 0, .int 0, .ref b5_52, .ref b6_53, .ref b7_54, .int 0, .ref b8_55, .int 0, .int 0, .int 0, .int 0])), (b0_47, .inl (cy 0, 800, .inl ((fun _ => 0)))), (q_59, .inl (cy 2, 1, .inr (.inl ((fun _ => 0)))))]) [0, 1, 2, 3, 4, 5, 6, 7, 8, 9, 10, 11] rfl
  have hD := hD.sub (ws' := [(q_1, .inr (10, [.ref tp_2, .ref nw_4, .ref tr_10, .ref kp_11, .ref im_12, .ref wy_13, .ref ow_14, .ref fl_15, .ref cs_16, .ref ds_17, .ref gu_18, .ref fc_21, .ref td_22, .ref dr_32, .int 0, .int 0, .int 0])), (tp_2, .inr (8, [.ref bt_3, .int 0, .int 0, .int 0, .int 0, .int 0, .int 0, .int 0, .int 0])), (bt_3, .inl (cy 0, 800, .inl ((fun _ => 0)))), (nw_4, .inr (6, [.ref gr_5, .ref n1_7, .ref n2_8, .ref n3_9, .int 0])), (gr_5, .inr (4, [.int 0, .int 0, .int 0, .ref gs_6])), (td_22, .inr (7, [.ref tg_23, .int 0, .int 0, .int 0, .int 0, .ref t0_24, .int 0, .ref t1_25, .ref t2_26, .ref t3_27, .ref t4_28, .int 0, .ref t5_29, .ref t6_30, .ref t7_31])), (dr_32, .inr (7, [.ref dg_33, .int 0, .int 0, .int 0, .int 0, .ref d0_35, .int 0, .ref d1_36, .ref d2_37, .ref d3_38, .ref d4_39, .int 0, .ref d5_40, .ref d6_41, .ref d7_42])), (dg_33, .inr (4, [.int 0, .int 0, .int 0, .ref dq_34])), (gu_18, .inr (5, [.ref u0_19, .ref u1_20, .int 0])), (q_46, .inr (12, [.int 0, .int 0, .int (-1), .null, .null, .ref b0_47, .int 0, .int 0, .int 0, .int 0, .int 0, .int 0, .int 0, .int 0, .int 0, .long 0, .ref b1_48, .ref b2_49, .ref b3_50, .ref b4_51, .int 0, .int 0, .ref b5_52, .ref b6_53, .ref b7_54, .int 0, .ref b8_55, .int 0, .int 0, .int 0, .int 0])), (b0_47, .inl (cy 0, 800, .inl ((fun _ => 0)))), (q_59, .inl (cy 2, 1, .inr (.inl ((fun _ => 0)))))]) [0, 1, 2, 3, 4, 5, 6, 7, 8, 9, 10, 11] (by decide) rfl
  rcases (show L = 0 ∨ L = 1 ∨ L = 2 ∨ L = 3 ∨ L = 4 ∨ L = 5 ∨ L = 6 by omega) with hL6 | hL6 | hL6 | hL6 | hL6 | hL6 | hL6
  · subst hL6
    refine lv_iload hx hb dL_law_23 (lv_at hl 0 rfl) ?_
    refine lv_aload_n hx hb dL_law_25 rfl (lv_at hl 4 rfl) ?_
    refine va_slen hx hb hX hbl hbA hS dL_law_26 ?_
    refine lv_bipush (v := 6) hx hb dL_law_27 (by decide) ?_
    refine lv_isub hx hb dL_law_29 ?_
    refine lv_icmp_gt (tgt := 1962) hx hb dL_law_30 (by decide) (fun _ => ?_) (fun h => absurd (by decide) h)
    refine lv_iconst (v := 1) hx hb dL_law_1962 (by decide) ?_
    refine va_forget (fun q hq => hS.2.2 q hq) ?_
    refine W.widen (k := 600002) (n := 7302232) (Nat.le_of_ble_eq_true rfl) (Nat.le_of_ble_eq_true rfl) ?_
    exact lw_ret hx hb hr hlocks dL_law_1963
  · subst hL6
    refine lv_iload hx hb dL_law_23 (lv_at hl 0 rfl) ?_
    refine lv_aload_n hx hb dL_law_25 rfl (lv_at hl 4 rfl) ?_
    refine va_slen hx hb hX hbl hbA hS dL_law_26 ?_
    refine lv_bipush (v := 6) hx hb dL_law_27 (by decide) ?_
    refine lv_isub hx hb dL_law_29 ?_
    refine lv_icmp_gt (tgt := 1962) hx hb dL_law_30 (by decide) (fun _ => ?_) (fun h => absurd (by decide) h)
    refine lv_iconst (v := 1) hx hb dL_law_1962 (by decide) ?_
    refine va_forget (fun q hq => hS.2.2 q hq) ?_
    refine W.widen (k := 600002) (n := 7302232) (Nat.le_of_ble_eq_true rfl) (Nat.le_of_ble_eq_true rfl) ?_
    exact lw_ret hx hb hr hlocks dL_law_1963
  · subst hL6
    refine lv_iload hx hb dL_law_23 (lv_at hl 0 rfl) ?_
    refine lv_aload_n hx hb dL_law_25 rfl (lv_at hl 4 rfl) ?_
    refine va_slen hx hb hX hbl hbA hS dL_law_26 ?_
    refine lv_bipush (v := 6) hx hb dL_law_27 (by decide) ?_
    refine lv_isub hx hb dL_law_29 ?_
    refine lv_icmp_gt (tgt := 1962) hx hb dL_law_30 (by decide) (fun _ => ?_) (fun h => absurd (by decide) h)
    refine lv_iconst (v := 1) hx hb dL_law_1962 (by decide) ?_
    refine va_forget (fun q hq => hS.2.2 q hq) ?_
    refine W.widen (k := 600002) (n := 7302232) (Nat.le_of_ble_eq_true rfl) (Nat.le_of_ble_eq_true rfl) ?_
    exact lw_ret hx hb hr hlocks dL_law_1963
  · subst hL6
    refine lv_iload hx hb dL_law_23 (lv_at hl 0 rfl) ?_
    refine lv_aload_n hx hb dL_law_25 rfl (lv_at hl 4 rfl) ?_
    refine va_slen hx hb hX hbl hbA hS dL_law_26 ?_
    refine lv_bipush (v := 6) hx hb dL_law_27 (by decide) ?_
    refine lv_isub hx hb dL_law_29 ?_
    refine lv_icmp_gt (tgt := 1962) hx hb dL_law_30 (by decide) (fun _ => ?_) (fun h => absurd (by decide) h)
    refine lv_iconst (v := 1) hx hb dL_law_1962 (by decide) ?_
    refine va_forget (fun q hq => hS.2.2 q hq) ?_
    refine W.widen (k := 600002) (n := 7302232) (Nat.le_of_ble_eq_true rfl) (Nat.le_of_ble_eq_true rfl) ?_
    exact lw_ret hx hb hr hlocks dL_law_1963
  · subst hL6
    refine lv_iload hx hb dL_law_23 (lv_at hl 0 rfl) ?_
    refine lv_aload_n hx hb dL_law_25 rfl (lv_at hl 4 rfl) ?_
    refine va_slen hx hb hX hbl hbA hS dL_law_26 ?_
    refine lv_bipush (v := 6) hx hb dL_law_27 (by decide) ?_
    refine lv_isub hx hb dL_law_29 ?_
    refine lv_icmp_gt (tgt := 1962) hx hb dL_law_30 (by decide) (fun _ => ?_) (fun h => absurd (by decide) h)
    refine lv_iconst (v := 1) hx hb dL_law_1962 (by decide) ?_
    refine va_forget (fun q hq => hS.2.2 q hq) ?_
    refine W.widen (k := 600002) (n := 7302232) (Nat.le_of_ble_eq_true rfl) (Nat.le_of_ble_eq_true rfl) ?_
    exact lw_ret hx hb hr hlocks dL_law_1963
  · subst hL6
    refine lv_iload hx hb dL_law_23 (lv_at hl 0 rfl) ?_
    refine lv_aload_n hx hb dL_law_25 rfl (lv_at hl 4 rfl) ?_
    refine va_slen hx hb hX hbl hbA hS dL_law_26 ?_
    refine lv_bipush (v := 6) hx hb dL_law_27 (by decide) ?_
    refine lv_isub hx hb dL_law_29 ?_
    refine lv_icmp_gt (tgt := 1962) hx hb dL_law_30 (by decide) (fun _ => ?_) (fun h => absurd (by decide) h)
    refine lv_iconst (v := 1) hx hb dL_law_1962 (by decide) ?_
    refine va_forget (fun q hq => hS.2.2 q hq) ?_
    refine W.widen (k := 600002) (n := 7302232) (Nat.le_of_ble_eq_true rfl) (Nat.le_of_ble_eq_true rfl) ?_
    exact lw_ret hx hb hr hlocks dL_law_1963
  · subst hL6
    refine lv_iload hx hb dL_law_23 (lv_at hl 0 rfl) ?_
    refine lv_aload_n hx hb dL_law_25 rfl (lv_at hl 4 rfl) ?_
    refine va_slen hx hb hX hbl hbA hS dL_law_26 ?_
    refine lv_bipush (v := 6) hx hb dL_law_27 (by decide) ?_
    refine lv_isub hx hb dL_law_29 ?_
    refine lv_icmp_gt (tgt := 1962) hx hb dL_law_30 (by decide) (fun h => absurd h (by decide)) (fun _ => ?_)
    refine lv_aload_n hx hb dL_law_33 rfl (lv_at hl 4 rfl) ?_
    refine lv_iload hx hb dL_law_34 (lv_at hl 0 rfl) ?_
    refine va_sld hx hb hX hbl hbA hS (i := 0) (by unfold vp_in; decide) dL_law_36 ?_
    refine lv_bipush (v := 63) hx hb dL_law_37 (by decide) ?_
    refine lv_iand hx hb dL_law_39 ?_
    refine lv_topi (fun v ev => ?_)
    have hl : lv_has ls 7 [(4, .int 0), (3, .ref q_59), (2, .ref q_46), (1, .ref q_1), (0, .ref b)] := hl
    by_cases h0 : v = 0
    · refine lv_tableIn (off := 228) (tgt := 268) hx hb dL_law_40 (by rw [h0]; decide) (by rw [h0]; decide) (by rw [h0]; rfl) (by decide) ?_
      exact law_c0 hl9 C0 X hZ q_1 tp_2 bt_3 nw_4 gr_5 gs_6 n1_7 n2_8 n3_9 tr_10 kp_11 im_12 wy_13 ow_14 fl_15 cs_16 ds_17 gu_18 u0_19 u1_20 fc_21 td_22 tg_23 t0_24 t1_25 t2_26 t3_27 t4_28 t5_29 t6_30 t7_31 dr_32 dg_33 dq_34 d0_35 d1_36 d2_37 d3_38 d4_39 d5_40 d6_41 d7_42 q_46 b0_47 b1_48 b2_49 b3_50 b4_51 b5_52 b6_53 b7_54 b8_55 q_59 hP hD hS hl
    by_cases h1 : v = 1
    · refine lv_tableIn (off := 301) (tgt := 341) hx hb dL_law_40 (by rw [h1]; decide) (by rw [h1]; decide) (by rw [h1]; rfl) (by decide) ?_
      exact law_c1 hl9 C0 X hZ q_1 tp_2 bt_3 nw_4 gr_5 gs_6 n1_7 n2_8 n3_9 tr_10 kp_11 im_12 wy_13 ow_14 fl_15 cs_16 ds_17 gu_18 u0_19 u1_20 fc_21 td_22 tg_23 t0_24 t1_25 t2_26 t3_27 t4_28 t5_29 t6_30 t7_31 dr_32 dg_33 dq_34 d0_35 d1_36 d2_37 d3_38 d4_39 d5_40 d6_41 d7_42 q_46 b0_47 b1_48 b2_49 b3_50 b4_51 b5_52 b6_53 b7_54 b8_55 q_59 hP hD hS hl
    by_cases h2 : v = 2
    · refine lv_tableIn (off := 326) (tgt := 366) hx hb dL_law_40 (by rw [h2]; decide) (by rw [h2]; decide) (by rw [h2]; rfl) (by decide) ?_
      exact law_c2 hl9 C0 X hZ q_1 tp_2 bt_3 nw_4 gr_5 gs_6 n1_7 n2_8 n3_9 tr_10 kp_11 im_12 wy_13 ow_14 fl_15 cs_16 ds_17 gu_18 u0_19 u1_20 fc_21 td_22 tg_23 t0_24 t1_25 t2_26 t3_27 t4_28 t5_29 t6_30 t7_31 dr_32 dg_33 dq_34 d0_35 d1_36 d2_37 d3_38 d4_39 d5_40 d6_41 d7_42 q_46 b0_47 b1_48 b2_49 b3_50 b4_51 b5_52 b6_53 b7_54 b8_55 q_59 hP hD hS hl
    by_cases h3 : v = 3
    · refine lv_tableIn (off := 339) (tgt := 379) hx hb dL_law_40 (by rw [h3]; decide) (by rw [h3]; decide) (by rw [h3]; rfl) (by decide) ?_
      exact law_c3 hl9 C0 X hZ q_1 tp_2 bt_3 nw_4 gr_5 gs_6 n1_7 n2_8 n3_9 tr_10 kp_11 im_12 wy_13 ow_14 fl_15 cs_16 ds_17 gu_18 u0_19 u1_20 fc_21 td_22 tg_23 t0_24 t1_25 t2_26 t3_27 t4_28 t5_29 t6_30 t7_31 dr_32 dg_33 dq_34 d0_35 d1_36 d2_37 d3_38 d4_39 d5_40 d6_41 d7_42 q_46 b0_47 b1_48 b2_49 b3_50 b4_51 b5_52 b6_53 b7_54 b8_55 q_59 hP hD hS hl
    by_cases h4 : v = 4
    · refine lv_tableIn (off := 352) (tgt := 392) hx hb dL_law_40 (by rw [h4]; decide) (by rw [h4]; decide) (by rw [h4]; rfl) (by decide) ?_
      exact law_c4 hl9 C0 X hZ q_1 tp_2 bt_3 nw_4 gr_5 gs_6 n1_7 n2_8 n3_9 tr_10 kp_11 im_12 wy_13 ow_14 fl_15 cs_16 ds_17 gu_18 u0_19 u1_20 fc_21 td_22 tg_23 t0_24 t1_25 t2_26 t3_27 t4_28 t5_29 t6_30 t7_31 dr_32 dg_33 dq_34 d0_35 d1_36 d2_37 d3_38 d4_39 d5_40 d6_41 d7_42 q_46 b0_47 b1_48 b2_49 b3_50 b4_51 b5_52 b6_53 b7_54 b8_55 q_59 hP hD hS hl
    by_cases h5 : v = 5
    · refine lv_tableIn (off := 389) (tgt := 429) hx hb dL_law_40 (by rw [h5]; decide) (by rw [h5]; decide) (by rw [h5]; rfl) (by decide) ?_
      exact law_c5 hl9 C0 X hZ q_1 tp_2 bt_3 nw_4 gr_5 gs_6 n1_7 n2_8 n3_9 tr_10 kp_11 im_12 wy_13 ow_14 fl_15 cs_16 ds_17 gu_18 u0_19 u1_20 fc_21 td_22 tg_23 t0_24 t1_25 t2_26 t3_27 t4_28 t5_29 t6_30 t7_31 dr_32 dg_33 dq_34 d0_35 d1_36 d2_37 d3_38 d4_39 d5_40 d6_41 d7_42 q_46 b0_47 b1_48 b2_49 b3_50 b4_51 b5_52 b6_53 b7_54 b8_55 q_59 hP hD hS hl
    by_cases h6 : v = 6
    · refine lv_tableIn (off := 426) (tgt := 466) hx hb dL_law_40 (by rw [h6]; decide) (by rw [h6]; decide) (by rw [h6]; rfl) (by decide) ?_
      exact law_c6 hl9 C0 X hZ q_1 tp_2 bt_3 nw_4 gr_5 gs_6 n1_7 n2_8 n3_9 tr_10 kp_11 im_12 wy_13 ow_14 fl_15 cs_16 ds_17 gu_18 u0_19 u1_20 fc_21 td_22 tg_23 t0_24 t1_25 t2_26 t3_27 t4_28 t5_29 t6_30 t7_31 dr_32 dg_33 dq_34 d0_35 d1_36 d2_37 d3_38 d4_39 d5_40 d6_41 d7_42 q_46 b0_47 b1_48 b2_49 b3_50 b4_51 b5_52 b6_53 b7_54 b8_55 q_59 hP hD hS hl
    by_cases h7 : v = 7
    · refine lv_tableIn (off := 475) (tgt := 515) hx hb dL_law_40 (by rw [h7]; decide) (by rw [h7]; decide) (by rw [h7]; rfl) (by decide) ?_
      exact law_c7 hl9 C0 X hZ q_1 tp_2 bt_3 nw_4 gr_5 gs_6 n1_7 n2_8 n3_9 tr_10 kp_11 im_12 wy_13 ow_14 fl_15 cs_16 ds_17 gu_18 u0_19 u1_20 fc_21 td_22 tg_23 t0_24 t1_25 t2_26 t3_27 t4_28 t5_29 t6_30 t7_31 dr_32 dg_33 dq_34 d0_35 d1_36 d2_37 d3_38 d4_39 d5_40 d6_41 d7_42 q_46 b0_47 b1_48 b2_49 b3_50 b4_51 b5_52 b6_53 b7_54 b8_55 q_59 hP hD hS hl
    by_cases h8 : v = 8
    · refine lv_tableIn (off := 524) (tgt := 564) hx hb dL_law_40 (by rw [h8]; decide) (by rw [h8]; decide) (by rw [h8]; rfl) (by decide) ?_
      exact law_c8 hl9 C0 X hZ q_1 tp_2 bt_3 nw_4 gr_5 gs_6 n1_7 n2_8 n3_9 tr_10 kp_11 im_12 wy_13 ow_14 fl_15 cs_16 ds_17 gu_18 u0_19 u1_20 fc_21 td_22 tg_23 t0_24 t1_25 t2_26 t3_27 t4_28 t5_29 t6_30 t7_31 dr_32 dg_33 dq_34 d0_35 d1_36 d2_37 d3_38 d4_39 d5_40 d6_41 d7_42 q_46 b0_47 b1_48 b2_49 b3_50 b4_51 b5_52 b6_53 b7_54 b8_55 q_59 hP hD hS hl
    by_cases h9 : v = 9
    · refine lv_tableIn (off := 549) (tgt := 589) hx hb dL_law_40 (by rw [h9]; decide) (by rw [h9]; decide) (by rw [h9]; rfl) (by decide) ?_
      exact law_c9 hl9 C0 X hZ q_1 tp_2 bt_3 nw_4 gr_5 gs_6 n1_7 n2_8 n3_9 tr_10 kp_11 im_12 wy_13 ow_14 fl_15 cs_16 ds_17 gu_18 u0_19 u1_20 fc_21 td_22 tg_23 t0_24 t1_25 t2_26 t3_27 t4_28 t5_29 t6_30 t7_31 dr_32 dg_33 dq_34 d0_35 d1_36 d2_37 d3_38 d4_39 d5_40 d6_41 d7_42 q_46 b0_47 b1_48 b2_49 b3_50 b4_51 b5_52 b6_53 b7_54 b8_55 q_59 hP hD hS hl
    by_cases h10 : v = 10
    · refine lv_tableIn (off := 574) (tgt := 614) hx hb dL_law_40 (by rw [h10]; decide) (by rw [h10]; decide) (by rw [h10]; rfl) (by decide) ?_
      exact law_c10 hl9 C0 X hZ q_1 tp_2 bt_3 nw_4 gr_5 gs_6 n1_7 n2_8 n3_9 tr_10 kp_11 im_12 wy_13 ow_14 fl_15 cs_16 ds_17 gu_18 u0_19 u1_20 fc_21 td_22 tg_23 t0_24 t1_25 t2_26 t3_27 t4_28 t5_29 t6_30 t7_31 dr_32 dg_33 dq_34 d0_35 d1_36 d2_37 d3_38 d4_39 d5_40 d6_41 d7_42 q_46 b0_47 b1_48 b2_49 b3_50 b4_51 b5_52 b6_53 b7_54 b8_55 q_59 hP hD hS hl
    by_cases h11 : v = 11
    · refine lv_tableIn (off := 599) (tgt := 639) hx hb dL_law_40 (by rw [h11]; decide) (by rw [h11]; decide) (by rw [h11]; rfl) (by decide) ?_
      exact law_c11 hl9 C0 X hZ q_1 tp_2 bt_3 nw_4 gr_5 gs_6 n1_7 n2_8 n3_9 tr_10 kp_11 im_12 wy_13 ow_14 fl_15 cs_16 ds_17 gu_18 u0_19 u1_20 fc_21 td_22 tg_23 t0_24 t1_25 t2_26 t3_27 t4_28 t5_29 t6_30 t7_31 dr_32 dg_33 dq_34 d0_35 d1_36 d2_37 d3_38 d4_39 d5_40 d6_41 d7_42 q_46 b0_47 b1_48 b2_49 b3_50 b4_51 b5_52 b6_53 b7_54 b8_55 q_59 hP hD hS hl
    by_cases h12 : v = 12
    · refine lv_tableIn (off := 636) (tgt := 676) hx hb dL_law_40 (by rw [h12]; decide) (by rw [h12]; decide) (by rw [h12]; rfl) (by decide) ?_
      exact law_c12 hl9 C0 X hZ q_1 tp_2 bt_3 nw_4 gr_5 gs_6 n1_7 n2_8 n3_9 tr_10 kp_11 im_12 wy_13 ow_14 fl_15 cs_16 ds_17 gu_18 u0_19 u1_20 fc_21 td_22 tg_23 t0_24 t1_25 t2_26 t3_27 t4_28 t5_29 t6_30 t7_31 dr_32 dg_33 dq_34 d0_35 d1_36 d2_37 d3_38 d4_39 d5_40 d6_41 d7_42 q_46 b0_47 b1_48 b2_49 b3_50 b4_51 b5_52 b6_53 b7_54 b8_55 q_59 hP hD hS hl
    by_cases h13 : v = 13
    · refine lv_tableIn (off := 661) (tgt := 701) hx hb dL_law_40 (by rw [h13]; decide) (by rw [h13]; decide) (by rw [h13]; rfl) (by decide) ?_
      exact law_c13 hl9 C0 X hZ q_1 tp_2 bt_3 nw_4 gr_5 gs_6 n1_7 n2_8 n3_9 tr_10 kp_11 im_12 wy_13 ow_14 fl_15 cs_16 ds_17 gu_18 u0_19 u1_20 fc_21 td_22 tg_23 t0_24 t1_25 t2_26 t3_27 t4_28 t5_29 t6_30 t7_31 dr_32 dg_33 dq_34 d0_35 d1_36 d2_37 d3_38 d4_39 d5_40 d6_41 d7_42 q_46 b0_47 b1_48 b2_49 b3_50 b4_51 b5_52 b6_53 b7_54 b8_55 q_59 hP hD hS hl
    by_cases h14 : v = 14
    · refine lv_tableIn (off := 686) (tgt := 726) hx hb dL_law_40 (by rw [h14]; decide) (by rw [h14]; decide) (by rw [h14]; rfl) (by decide) ?_
      exact law_c14 hl9 C0 X hZ q_1 tp_2 bt_3 nw_4 gr_5 gs_6 n1_7 n2_8 n3_9 tr_10 kp_11 im_12 wy_13 ow_14 fl_15 cs_16 ds_17 gu_18 u0_19 u1_20 fc_21 td_22 tg_23 t0_24 t1_25 t2_26 t3_27 t4_28 t5_29 t6_30 t7_31 dr_32 dg_33 dq_34 d0_35 d1_36 d2_37 d3_38 d4_39 d5_40 d6_41 d7_42 q_46 b0_47 b1_48 b2_49 b3_50 b4_51 b5_52 b6_53 b7_54 b8_55 q_59 hP hD hS hl
    by_cases h15 : v = 15
    · refine lv_tableIn (off := 723) (tgt := 763) hx hb dL_law_40 (by rw [h15]; decide) (by rw [h15]; decide) (by rw [h15]; rfl) (by decide) ?_
      exact law_c15 hl9 C0 X hZ q_1 tp_2 bt_3 nw_4 gr_5 gs_6 n1_7 n2_8 n3_9 tr_10 kp_11 im_12 wy_13 ow_14 fl_15 cs_16 ds_17 gu_18 u0_19 u1_20 fc_21 td_22 tg_23 t0_24 t1_25 t2_26 t3_27 t4_28 t5_29 t6_30 t7_31 dr_32 dg_33 dq_34 d0_35 d1_36 d2_37 d3_38 d4_39 d5_40 d6_41 d7_42 q_46 b0_47 b1_48 b2_49 b3_50 b4_51 b5_52 b6_53 b7_54 b8_55 q_59 hP hD hS hl
    by_cases h16 : v = 16
    · refine lv_tableIn (off := 748) (tgt := 788) hx hb dL_law_40 (by rw [h16]; decide) (by rw [h16]; decide) (by rw [h16]; rfl) (by decide) ?_
      exact law_c16 hl9 C0 X hZ q_1 tp_2 bt_3 nw_4 gr_5 gs_6 n1_7 n2_8 n3_9 tr_10 kp_11 im_12 wy_13 ow_14 fl_15 cs_16 ds_17 gu_18 u0_19 u1_20 fc_21 td_22 tg_23 t0_24 t1_25 t2_26 t3_27 t4_28 t5_29 t6_30 t7_31 dr_32 dg_33 dq_34 d0_35 d1_36 d2_37 d3_38 d4_39 d5_40 d6_41 d7_42 q_46 b0_47 b1_48 b2_49 b3_50 b4_51 b5_52 b6_53 b7_54 b8_55 q_59 hP hD hS hl
    by_cases h17 : v = 17
    · refine lv_tableIn (off := 785) (tgt := 825) hx hb dL_law_40 (by rw [h17]; decide) (by rw [h17]; decide) (by rw [h17]; rfl) (by decide) ?_
      exact law_c17 hl9 C0 X hZ q_1 tp_2 bt_3 nw_4 gr_5 gs_6 n1_7 n2_8 n3_9 tr_10 kp_11 im_12 wy_13 ow_14 fl_15 cs_16 ds_17 gu_18 u0_19 u1_20 fc_21 td_22 tg_23 t0_24 t1_25 t2_26 t3_27 t4_28 t5_29 t6_30 t7_31 dr_32 dg_33 dq_34 d0_35 d1_36 d2_37 d3_38 d4_39 d5_40 d6_41 d7_42 q_46 b0_47 b1_48 b2_49 b3_50 b4_51 b5_52 b6_53 b7_54 b8_55 q_59 hP hD hS hl
    by_cases h18 : v = 18
    · refine lv_tableIn (off := 822) (tgt := 862) hx hb dL_law_40 (by rw [h18]; decide) (by rw [h18]; decide) (by rw [h18]; rfl) (by decide) ?_
      exact law_c18 hl9 C0 X hZ q_1 tp_2 bt_3 nw_4 gr_5 gs_6 n1_7 n2_8 n3_9 tr_10 kp_11 im_12 wy_13 ow_14 fl_15 cs_16 ds_17 gu_18 u0_19 u1_20 fc_21 td_22 tg_23 t0_24 t1_25 t2_26 t3_27 t4_28 t5_29 t6_30 t7_31 dr_32 dg_33 dq_34 d0_35 d1_36 d2_37 d3_38 d4_39 d5_40 d6_41 d7_42 q_46 b0_47 b1_48 b2_49 b3_50 b4_51 b5_52 b6_53 b7_54 b8_55 q_59 hP hD hS hl
    by_cases h19 : v = 19
    · refine lv_tableIn (off := 835) (tgt := 875) hx hb dL_law_40 (by rw [h19]; decide) (by rw [h19]; decide) (by rw [h19]; rfl) (by decide) ?_
      exact law_c19 hl9 C0 X hZ q_1 tp_2 bt_3 nw_4 gr_5 gs_6 n1_7 n2_8 n3_9 tr_10 kp_11 im_12 wy_13 ow_14 fl_15 cs_16 ds_17 gu_18 u0_19 u1_20 fc_21 td_22 tg_23 t0_24 t1_25 t2_26 t3_27 t4_28 t5_29 t6_30 t7_31 dr_32 dg_33 dq_34 d0_35 d1_36 d2_37 d3_38 d4_39 d5_40 d6_41 d7_42 q_46 b0_47 b1_48 b2_49 b3_50 b4_51 b5_52 b6_53 b7_54 b8_55 q_59 hP hD hS hl
    by_cases h20 : v = 20
    · refine lv_tableIn (off := 860) (tgt := 900) hx hb dL_law_40 (by rw [h20]; decide) (by rw [h20]; decide) (by rw [h20]; rfl) (by decide) ?_
      exact law_c20 hl9 C0 X hZ q_1 tp_2 bt_3 nw_4 gr_5 gs_6 n1_7 n2_8 n3_9 tr_10 kp_11 im_12 wy_13 ow_14 fl_15 cs_16 ds_17 gu_18 u0_19 u1_20 fc_21 td_22 tg_23 t0_24 t1_25 t2_26 t3_27 t4_28 t5_29 t6_30 t7_31 dr_32 dg_33 dq_34 d0_35 d1_36 d2_37 d3_38 d4_39 d5_40 d6_41 d7_42 q_46 b0_47 b1_48 b2_49 b3_50 b4_51 b5_52 b6_53 b7_54 b8_55 q_59 hP hD hS hl
    by_cases h21 : v = 21
    · refine lv_tableIn (off := 873) (tgt := 913) hx hb dL_law_40 (by rw [h21]; decide) (by rw [h21]; decide) (by rw [h21]; rfl) (by decide) ?_
      exact law_c21 hl9 C0 X hZ q_1 tp_2 bt_3 nw_4 gr_5 gs_6 n1_7 n2_8 n3_9 tr_10 kp_11 im_12 wy_13 ow_14 fl_15 cs_16 ds_17 gu_18 u0_19 u1_20 fc_21 td_22 tg_23 t0_24 t1_25 t2_26 t3_27 t4_28 t5_29 t6_30 t7_31 dr_32 dg_33 dq_34 d0_35 d1_36 d2_37 d3_38 d4_39 d5_40 d6_41 d7_42 q_46 b0_47 b1_48 b2_49 b3_50 b4_51 b5_52 b6_53 b7_54 b8_55 q_59 hP hD hS hl
    by_cases h22 : v = 22
    · refine lv_tableIn (off := 886) (tgt := 926) hx hb dL_law_40 (by rw [h22]; decide) (by rw [h22]; decide) (by rw [h22]; rfl) (by decide) ?_
      exact law_c22 hl9 C0 X hZ q_1 tp_2 bt_3 nw_4 gr_5 gs_6 n1_7 n2_8 n3_9 tr_10 kp_11 im_12 wy_13 ow_14 fl_15 cs_16 ds_17 gu_18 u0_19 u1_20 fc_21 td_22 tg_23 t0_24 t1_25 t2_26 t3_27 t4_28 t5_29 t6_30 t7_31 dr_32 dg_33 dq_34 d0_35 d1_36 d2_37 d3_38 d4_39 d5_40 d6_41 d7_42 q_46 b0_47 b1_48 b2_49 b3_50 b4_51 b5_52 b6_53 b7_54 b8_55 q_59 hP hD hS hl
    by_cases h23 : v = 23
    · refine lv_tableIn (off := 899) (tgt := 939) hx hb dL_law_40 (by rw [h23]; decide) (by rw [h23]; decide) (by rw [h23]; rfl) (by decide) ?_
      exact law_c23 hl9 C0 X hZ q_1 tp_2 bt_3 nw_4 gr_5 gs_6 n1_7 n2_8 n3_9 tr_10 kp_11 im_12 wy_13 ow_14 fl_15 cs_16 ds_17 gu_18 u0_19 u1_20 fc_21 td_22 tg_23 t0_24 t1_25 t2_26 t3_27 t4_28 t5_29 t6_30 t7_31 dr_32 dg_33 dq_34 d0_35 d1_36 d2_37 d3_38 d4_39 d5_40 d6_41 d7_42 q_46 b0_47 b1_48 b2_49 b3_50 b4_51 b5_52 b6_53 b7_54 b8_55 q_59 hP hD hS hl
    by_cases h24 : v = 24
    · refine lv_tableIn (off := 936) (tgt := 976) hx hb dL_law_40 (by rw [h24]; decide) (by rw [h24]; decide) (by rw [h24]; rfl) (by decide) ?_
      exact law_c24 hl9 C0 X hZ q_1 tp_2 bt_3 nw_4 gr_5 gs_6 n1_7 n2_8 n3_9 tr_10 kp_11 im_12 wy_13 ow_14 fl_15 cs_16 ds_17 gu_18 u0_19 u1_20 fc_21 td_22 tg_23 t0_24 t1_25 t2_26 t3_27 t4_28 t5_29 t6_30 t7_31 dr_32 dg_33 dq_34 d0_35 d1_36 d2_37 d3_38 d4_39 d5_40 d6_41 d7_42 q_46 b0_47 b1_48 b2_49 b3_50 b4_51 b5_52 b6_53 b7_54 b8_55 q_59 hP hD hS hl
    by_cases h25 : v = 25
    · refine lv_tableIn (off := 973) (tgt := 1013) hx hb dL_law_40 (by rw [h25]; decide) (by rw [h25]; decide) (by rw [h25]; rfl) (by decide) ?_
      exact law_c25 hl9 C0 X hZ q_1 tp_2 bt_3 nw_4 gr_5 gs_6 n1_7 n2_8 n3_9 tr_10 kp_11 im_12 wy_13 ow_14 fl_15 cs_16 ds_17 gu_18 u0_19 u1_20 fc_21 td_22 tg_23 t0_24 t1_25 t2_26 t3_27 t4_28 t5_29 t6_30 t7_31 dr_32 dg_33 dq_34 d0_35 d1_36 d2_37 d3_38 d4_39 d5_40 d6_41 d7_42 q_46 b0_47 b1_48 b2_49 b3_50 b4_51 b5_52 b6_53 b7_54 b8_55 q_59 hP hD hS hl
    by_cases h26 : v = 26
    · refine lv_tableIn (off := 998) (tgt := 1038) hx hb dL_law_40 (by rw [h26]; decide) (by rw [h26]; decide) (by rw [h26]; rfl) (by decide) ?_
      exact law_c26 hl9 C0 X hZ q_1 tp_2 bt_3 nw_4 gr_5 gs_6 n1_7 n2_8 n3_9 tr_10 kp_11 im_12 wy_13 ow_14 fl_15 cs_16 ds_17 gu_18 u0_19 u1_20 fc_21 td_22 tg_23 t0_24 t1_25 t2_26 t3_27 t4_28 t5_29 t6_30 t7_31 dr_32 dg_33 dq_34 d0_35 d1_36 d2_37 d3_38 d4_39 d5_40 d6_41 d7_42 q_46 b0_47 b1_48 b2_49 b3_50 b4_51 b5_52 b6_53 b7_54 b8_55 q_59 hP hD hS hl
    by_cases h27 : v = 27
    · refine lv_tableIn (off := 1011) (tgt := 1051) hx hb dL_law_40 (by rw [h27]; decide) (by rw [h27]; decide) (by rw [h27]; rfl) (by decide) ?_
      exact law_c27 hl9 C0 X hZ q_1 tp_2 bt_3 nw_4 gr_5 gs_6 n1_7 n2_8 n3_9 tr_10 kp_11 im_12 wy_13 ow_14 fl_15 cs_16 ds_17 gu_18 u0_19 u1_20 fc_21 td_22 tg_23 t0_24 t1_25 t2_26 t3_27 t4_28 t5_29 t6_30 t7_31 dr_32 dg_33 dq_34 d0_35 d1_36 d2_37 d3_38 d4_39 d5_40 d6_41 d7_42 q_46 b0_47 b1_48 b2_49 b3_50 b4_51 b5_52 b6_53 b7_54 b8_55 q_59 hP hD hS hl
    by_cases h28 : v = 28
    · refine lv_tableIn (off := 1036) (tgt := 1076) hx hb dL_law_40 (by rw [h28]; decide) (by rw [h28]; decide) (by rw [h28]; rfl) (by decide) ?_
      exact law_c28 hl9 C0 X hZ q_1 tp_2 bt_3 nw_4 gr_5 gs_6 n1_7 n2_8 n3_9 tr_10 kp_11 im_12 wy_13 ow_14 fl_15 cs_16 ds_17 gu_18 u0_19 u1_20 fc_21 td_22 tg_23 t0_24 t1_25 t2_26 t3_27 t4_28 t5_29 t6_30 t7_31 dr_32 dg_33 dq_34 d0_35 d1_36 d2_37 d3_38 d4_39 d5_40 d6_41 d7_42 q_46 b0_47 b1_48 b2_49 b3_50 b4_51 b5_52 b6_53 b7_54 b8_55 q_59 hP hD hS hl
    by_cases h29 : v = 29
    · refine lv_tableIn (off := 1090) (tgt := 1130) hx hb dL_law_40 (by rw [h29]; decide) (by rw [h29]; decide) (by rw [h29]; rfl) (by decide) ?_
      exact law_c29 hl9 C0 X hZ q_1 tp_2 bt_3 nw_4 gr_5 gs_6 n1_7 n2_8 n3_9 tr_10 kp_11 im_12 wy_13 ow_14 fl_15 cs_16 ds_17 gu_18 u0_19 u1_20 fc_21 td_22 tg_23 t0_24 t1_25 t2_26 t3_27 t4_28 t5_29 t6_30 t7_31 dr_32 dg_33 dq_34 d0_35 d1_36 d2_37 d3_38 d4_39 d5_40 d6_41 d7_42 q_46 b0_47 b1_48 b2_49 b3_50 b4_51 b5_52 b6_53 b7_54 b8_55 q_59 hP hD hS hl
    by_cases h30 : v = 30
    · refine lv_tableIn (off := 1103) (tgt := 1143) hx hb dL_law_40 (by rw [h30]; decide) (by rw [h30]; decide) (by rw [h30]; rfl) (by decide) ?_
      exact law_c30 hl9 C0 X hZ q_1 tp_2 bt_3 nw_4 gr_5 gs_6 n1_7 n2_8 n3_9 tr_10 kp_11 im_12 wy_13 ow_14 fl_15 cs_16 ds_17 gu_18 u0_19 u1_20 fc_21 td_22 tg_23 t0_24 t1_25 t2_26 t3_27 t4_28 t5_29 t6_30 t7_31 dr_32 dg_33 dq_34 d0_35 d1_36 d2_37 d3_38 d4_39 d5_40 d6_41 d7_42 q_46 b0_47 b1_48 b2_49 b3_50 b4_51 b5_52 b6_53 b7_54 b8_55 q_59 hP hD hS hl
    by_cases h31 : v = 31
    · refine lv_tableIn (off := 1116) (tgt := 1156) hx hb dL_law_40 (by rw [h31]; decide) (by rw [h31]; decide) (by rw [h31]; rfl) (by decide) ?_
      exact law_c31 hl9 C0 X hZ q_1 tp_2 bt_3 nw_4 gr_5 gs_6 n1_7 n2_8 n3_9 tr_10 kp_11 im_12 wy_13 ow_14 fl_15 cs_16 ds_17 gu_18 u0_19 u1_20 fc_21 td_22 tg_23 t0_24 t1_25 t2_26 t3_27 t4_28 t5_29 t6_30 t7_31 dr_32 dg_33 dq_34 d0_35 d1_36 d2_37 d3_38 d4_39 d5_40 d6_41 d7_42 q_46 b0_47 b1_48 b2_49 b3_50 b4_51 b5_52 b6_53 b7_54 b8_55 q_59 hP hD hS hl
    by_cases h32 : v = 32
    · refine lv_tableIn (off := 1129) (tgt := 1169) hx hb dL_law_40 (by rw [h32]; decide) (by rw [h32]; decide) (by rw [h32]; rfl) (by decide) ?_
      exact law_c32 hl9 C0 X hZ q_1 tp_2 bt_3 nw_4 gr_5 gs_6 n1_7 n2_8 n3_9 tr_10 kp_11 im_12 wy_13 ow_14 fl_15 cs_16 ds_17 gu_18 u0_19 u1_20 fc_21 td_22 tg_23 t0_24 t1_25 t2_26 t3_27 t4_28 t5_29 t6_30 t7_31 dr_32 dg_33 dq_34 d0_35 d1_36 d2_37 d3_38 d4_39 d5_40 d6_41 d7_42 q_46 b0_47 b1_48 b2_49 b3_50 b4_51 b5_52 b6_53 b7_54 b8_55 q_59 hP hD hS hl
    by_cases h33 : v = 33
    · refine lv_tableIn (off := 1142) (tgt := 1182) hx hb dL_law_40 (by rw [h33]; decide) (by rw [h33]; decide) (by rw [h33]; rfl) (by decide) ?_
      exact law_c33 hl9 C0 X hZ q_1 tp_2 bt_3 nw_4 gr_5 gs_6 n1_7 n2_8 n3_9 tr_10 kp_11 im_12 wy_13 ow_14 fl_15 cs_16 ds_17 gu_18 u0_19 u1_20 fc_21 td_22 tg_23 t0_24 t1_25 t2_26 t3_27 t4_28 t5_29 t6_30 t7_31 dr_32 dg_33 dq_34 d0_35 d1_36 d2_37 d3_38 d4_39 d5_40 d6_41 d7_42 q_46 b0_47 b1_48 b2_49 b3_50 b4_51 b5_52 b6_53 b7_54 b8_55 q_59 hP hD hS hl
    by_cases h34 : v = 34
    · refine lv_tableIn (off := 1208) (tgt := 1248) hx hb dL_law_40 (by rw [h34]; decide) (by rw [h34]; decide) (by rw [h34]; rfl) (by decide) ?_
      exact law_c34 hl9 C0 X hZ q_1 tp_2 bt_3 nw_4 gr_5 gs_6 n1_7 n2_8 n3_9 tr_10 kp_11 im_12 wy_13 ow_14 fl_15 cs_16 ds_17 gu_18 u0_19 u1_20 fc_21 td_22 tg_23 t0_24 t1_25 t2_26 t3_27 t4_28 t5_29 t6_30 t7_31 dr_32 dg_33 dq_34 d0_35 d1_36 d2_37 d3_38 d4_39 d5_40 d6_41 d7_42 q_46 b0_47 b1_48 b2_49 b3_50 b4_51 b5_52 b6_53 b7_54 b8_55 q_59 hP hD hS hl
    by_cases h35 : v = 35
    · refine lv_tableIn (off := 1317) (tgt := 1357) hx hb dL_law_40 (by rw [h35]; decide) (by rw [h35]; decide) (by rw [h35]; rfl) (by decide) ?_
      exact law_c35 hl9 C0 X hZ q_1 tp_2 bt_3 nw_4 gr_5 gs_6 n1_7 n2_8 n3_9 tr_10 kp_11 im_12 wy_13 ow_14 fl_15 cs_16 ds_17 gu_18 u0_19 u1_20 fc_21 td_22 tg_23 t0_24 t1_25 t2_26 t3_27 t4_28 t5_29 t6_30 t7_31 dr_32 dg_33 dq_34 d0_35 d1_36 d2_37 d3_38 d4_39 d5_40 d6_41 d7_42 q_46 b0_47 b1_48 b2_49 b3_50 b4_51 b5_52 b6_53 b7_54 b8_55 q_59 hP hD hS hl
    by_cases h36 : v = 36
    · refine lv_tableIn (off := 1342) (tgt := 1382) hx hb dL_law_40 (by rw [h36]; decide) (by rw [h36]; decide) (by rw [h36]; rfl) (by decide) ?_
      exact law_c36 hl9 C0 X hZ q_1 tp_2 bt_3 nw_4 gr_5 gs_6 n1_7 n2_8 n3_9 tr_10 kp_11 im_12 wy_13 ow_14 fl_15 cs_16 ds_17 gu_18 u0_19 u1_20 fc_21 td_22 tg_23 t0_24 t1_25 t2_26 t3_27 t4_28 t5_29 t6_30 t7_31 dr_32 dg_33 dq_34 d0_35 d1_36 d2_37 d3_38 d4_39 d5_40 d6_41 d7_42 q_46 b0_47 b1_48 b2_49 b3_50 b4_51 b5_52 b6_53 b7_54 b8_55 q_59 hP hD hS hl
    by_cases h37 : v = 37
    · refine lv_tableIn (off := 1367) (tgt := 1407) hx hb dL_law_40 (by rw [h37]; decide) (by rw [h37]; decide) (by rw [h37]; rfl) (by decide) ?_
      exact law_c37 hl9 C0 X hZ q_1 tp_2 bt_3 nw_4 gr_5 gs_6 n1_7 n2_8 n3_9 tr_10 kp_11 im_12 wy_13 ow_14 fl_15 cs_16 ds_17 gu_18 u0_19 u1_20 fc_21 td_22 tg_23 t0_24 t1_25 t2_26 t3_27 t4_28 t5_29 t6_30 t7_31 dr_32 dg_33 dq_34 d0_35 d1_36 d2_37 d3_38 d4_39 d5_40 d6_41 d7_42 q_46 b0_47 b1_48 b2_49 b3_50 b4_51 b5_52 b6_53 b7_54 b8_55 q_59 hP hD hS hl
    by_cases h38 : v = 38
    · refine lv_tableIn (off := 1433) (tgt := 1473) hx hb dL_law_40 (by rw [h38]; decide) (by rw [h38]; decide) (by rw [h38]; rfl) (by decide) ?_
      exact law_c38 hl9 C0 X hZ q_1 tp_2 bt_3 nw_4 gr_5 gs_6 n1_7 n2_8 n3_9 tr_10 kp_11 im_12 wy_13 ow_14 fl_15 cs_16 ds_17 gu_18 u0_19 u1_20 fc_21 td_22 tg_23 t0_24 t1_25 t2_26 t3_27 t4_28 t5_29 t6_30 t7_31 dr_32 dg_33 dq_34 d0_35 d1_36 d2_37 d3_38 d4_39 d5_40 d6_41 d7_42 q_46 b0_47 b1_48 b2_49 b3_50 b4_51 b5_52 b6_53 b7_54 b8_55 q_59 hP hD hS hl
    by_cases h39 : v = 39
    · refine lv_tableIn (off := 1487) (tgt := 1527) hx hb dL_law_40 (by rw [h39]; decide) (by rw [h39]; decide) (by rw [h39]; rfl) (by decide) ?_
      exact law_c39 hl9 C0 X hZ q_1 tp_2 bt_3 nw_4 gr_5 gs_6 n1_7 n2_8 n3_9 tr_10 kp_11 im_12 wy_13 ow_14 fl_15 cs_16 ds_17 gu_18 u0_19 u1_20 fc_21 td_22 tg_23 t0_24 t1_25 t2_26 t3_27 t4_28 t5_29 t6_30 t7_31 dr_32 dg_33 dq_34 d0_35 d1_36 d2_37 d3_38 d4_39 d5_40 d6_41 d7_42 q_46 b0_47 b1_48 b2_49 b3_50 b4_51 b5_52 b6_53 b7_54 b8_55 q_59 hP hD hS hl
    by_cases h40 : v = 40
    · refine lv_tableIn (off := 1536) (tgt := 1576) hx hb dL_law_40 (by rw [h40]; decide) (by rw [h40]; decide) (by rw [h40]; rfl) (by decide) ?_
      exact law_c40 hl9 C0 X hZ q_1 tp_2 bt_3 nw_4 gr_5 gs_6 n1_7 n2_8 n3_9 tr_10 kp_11 im_12 wy_13 ow_14 fl_15 cs_16 ds_17 gu_18 u0_19 u1_20 fc_21 td_22 tg_23 t0_24 t1_25 t2_26 t3_27 t4_28 t5_29 t6_30 t7_31 dr_32 dg_33 dq_34 d0_35 d1_36 d2_37 d3_38 d4_39 d5_40 d6_41 d7_42 q_46 b0_47 b1_48 b2_49 b3_50 b4_51 b5_52 b6_53 b7_54 b8_55 q_59 hP hD hS hl
    by_cases h41 : v = 41
    · refine lv_tableIn (off := 1585) (tgt := 1625) hx hb dL_law_40 (by rw [h41]; decide) (by rw [h41]; decide) (by rw [h41]; rfl) (by decide) ?_
      exact law_c41 hl9 C0 X hZ q_1 tp_2 bt_3 nw_4 gr_5 gs_6 n1_7 n2_8 n3_9 tr_10 kp_11 im_12 wy_13 ow_14 fl_15 cs_16 ds_17 gu_18 u0_19 u1_20 fc_21 td_22 tg_23 t0_24 t1_25 t2_26 t3_27 t4_28 t5_29 t6_30 t7_31 dr_32 dg_33 dq_34 d0_35 d1_36 d2_37 d3_38 d4_39 d5_40 d6_41 d7_42 q_46 b0_47 b1_48 b2_49 b3_50 b4_51 b5_52 b6_53 b7_54 b8_55 q_59 hP hD hS hl
    by_cases h42 : v = 42
    · refine lv_tableIn (off := 1634) (tgt := 1674) hx hb dL_law_40 (by rw [h42]; decide) (by rw [h42]; decide) (by rw [h42]; rfl) (by decide) ?_
      exact law_c42 hl9 C0 X hZ q_1 tp_2 bt_3 nw_4 gr_5 gs_6 n1_7 n2_8 n3_9 tr_10 kp_11 im_12 wy_13 ow_14 fl_15 cs_16 ds_17 gu_18 u0_19 u1_20 fc_21 td_22 tg_23 t0_24 t1_25 t2_26 t3_27 t4_28 t5_29 t6_30 t7_31 dr_32 dg_33 dq_34 d0_35 d1_36 d2_37 d3_38 d4_39 d5_40 d6_41 d7_42 q_46 b0_47 b1_48 b2_49 b3_50 b4_51 b5_52 b6_53 b7_54 b8_55 q_59 hP hD hS hl
    by_cases h43 : v = 43
    · refine lv_tableIn (off := 1671) (tgt := 1711) hx hb dL_law_40 (by rw [h43]; decide) (by rw [h43]; decide) (by rw [h43]; rfl) (by decide) ?_
      exact law_c43 hl9 C0 X hZ q_1 tp_2 bt_3 nw_4 gr_5 gs_6 n1_7 n2_8 n3_9 tr_10 kp_11 im_12 wy_13 ow_14 fl_15 cs_16 ds_17 gu_18 u0_19 u1_20 fc_21 td_22 tg_23 t0_24 t1_25 t2_26 t3_27 t4_28 t5_29 t6_30 t7_31 dr_32 dg_33 dq_34 d0_35 d1_36 d2_37 d3_38 d4_39 d5_40 d6_41 d7_42 q_46 b0_47 b1_48 b2_49 b3_50 b4_51 b5_52 b6_53 b7_54 b8_55 q_59 hP hD hS hl
    by_cases h44 : v = 44
    · refine lv_tableIn (off := 1696) (tgt := 1736) hx hb dL_law_40 (by rw [h44]; decide) (by rw [h44]; decide) (by rw [h44]; rfl) (by decide) ?_
      exact law_c44 hl9 C0 X hZ q_1 tp_2 bt_3 nw_4 gr_5 gs_6 n1_7 n2_8 n3_9 tr_10 kp_11 im_12 wy_13 ow_14 fl_15 cs_16 ds_17 gu_18 u0_19 u1_20 fc_21 td_22 tg_23 t0_24 t1_25 t2_26 t3_27 t4_28 t5_29 t6_30 t7_31 dr_32 dg_33 dq_34 d0_35 d1_36 d2_37 d3_38 d4_39 d5_40 d6_41 d7_42 q_46 b0_47 b1_48 b2_49 b3_50 b4_51 b5_52 b6_53 b7_54 b8_55 q_59 hP hD hS hl
    by_cases h45 : v = 45
    · refine lv_tableIn (off := 1721) (tgt := 1761) hx hb dL_law_40 (by rw [h45]; decide) (by rw [h45]; decide) (by rw [h45]; rfl) (by decide) ?_
      exact law_c45 hl9 C0 X hZ q_1 tp_2 bt_3 nw_4 gr_5 gs_6 n1_7 n2_8 n3_9 tr_10 kp_11 im_12 wy_13 ow_14 fl_15 cs_16 ds_17 gu_18 u0_19 u1_20 fc_21 td_22 tg_23 t0_24 t1_25 t2_26 t3_27 t4_28 t5_29 t6_30 t7_31 dr_32 dg_33 dq_34 d0_35 d1_36 d2_37 d3_38 d4_39 d5_40 d6_41 d7_42 q_46 b0_47 b1_48 b2_49 b3_50 b4_51 b5_52 b6_53 b7_54 b8_55 q_59 hP hD hS hl
    by_cases h46 : v = 46
    · refine lv_tableIn (off := 1746) (tgt := 1786) hx hb dL_law_40 (by rw [h46]; decide) (by rw [h46]; decide) (by rw [h46]; rfl) (by decide) ?_
      exact law_c46 hl9 C0 X hZ q_1 tp_2 bt_3 nw_4 gr_5 gs_6 n1_7 n2_8 n3_9 tr_10 kp_11 im_12 wy_13 ow_14 fl_15 cs_16 ds_17 gu_18 u0_19 u1_20 fc_21 td_22 tg_23 t0_24 t1_25 t2_26 t3_27 t4_28 t5_29 t6_30 t7_31 dr_32 dg_33 dq_34 d0_35 d1_36 d2_37 d3_38 d4_39 d5_40 d6_41 d7_42 q_46 b0_47 b1_48 b2_49 b3_50 b4_51 b5_52 b6_53 b7_54 b8_55 q_59 hP hD hS hl
    by_cases h47 : v = 47
    · refine lv_tableIn (off := 1771) (tgt := 1811) hx hb dL_law_40 (by rw [h47]; decide) (by rw [h47]; decide) (by rw [h47]; rfl) (by decide) ?_
      exact law_c47 hl9 C0 X hZ q_1 tp_2 bt_3 nw_4 gr_5 gs_6 n1_7 n2_8 n3_9 tr_10 kp_11 im_12 wy_13 ow_14 fl_15 cs_16 ds_17 gu_18 u0_19 u1_20 fc_21 td_22 tg_23 t0_24 t1_25 t2_26 t3_27 t4_28 t5_29 t6_30 t7_31 dr_32 dg_33 dq_34 d0_35 d1_36 d2_37 d3_38 d4_39 d5_40 d6_41 d7_42 q_46 b0_47 b1_48 b2_49 b3_50 b4_51 b5_52 b6_53 b7_54 b8_55 q_59 hP hD hS hl
    by_cases h48 : v = 48
    · refine lv_tableIn (off := 1784) (tgt := 1824) hx hb dL_law_40 (by rw [h48]; decide) (by rw [h48]; decide) (by rw [h48]; rfl) (by decide) ?_
      exact law_c48 hl9 C0 X hZ q_1 tp_2 bt_3 nw_4 gr_5 gs_6 n1_7 n2_8 n3_9 tr_10 kp_11 im_12 wy_13 ow_14 fl_15 cs_16 ds_17 gu_18 u0_19 u1_20 fc_21 td_22 tg_23 t0_24 t1_25 t2_26 t3_27 t4_28 t5_29 t6_30 t7_31 dr_32 dg_33 dq_34 d0_35 d1_36 d2_37 d3_38 d4_39 d5_40 d6_41 d7_42 q_46 b0_47 b1_48 b2_49 b3_50 b4_51 b5_52 b6_53 b7_54 b8_55 q_59 hP hD hS hl
    by_cases h49 : v = 49
    · refine lv_tableIn (off := 1797) (tgt := 1837) hx hb dL_law_40 (by rw [h49]; decide) (by rw [h49]; decide) (by rw [h49]; rfl) (by decide) ?_
      exact law_c49 hl9 C0 X hZ q_1 tp_2 bt_3 nw_4 gr_5 gs_6 n1_7 n2_8 n3_9 tr_10 kp_11 im_12 wy_13 ow_14 fl_15 cs_16 ds_17 gu_18 u0_19 u1_20 fc_21 td_22 tg_23 t0_24 t1_25 t2_26 t3_27 t4_28 t5_29 t6_30 t7_31 dr_32 dg_33 dq_34 d0_35 d1_36 d2_37 d3_38 d4_39 d5_40 d6_41 d7_42 q_46 b0_47 b1_48 b2_49 b3_50 b4_51 b5_52 b6_53 b7_54 b8_55 q_59 hP hD hS hl
    by_cases h50 : v = 50
    · refine lv_tableIn (off := 1822) (tgt := 1862) hx hb dL_law_40 (by rw [h50]; decide) (by rw [h50]; decide) (by rw [h50]; rfl) (by decide) ?_
      exact law_c50 hl9 C0 X hZ q_1 tp_2 bt_3 nw_4 gr_5 gs_6 n1_7 n2_8 n3_9 tr_10 kp_11 im_12 wy_13 ow_14 fl_15 cs_16 ds_17 gu_18 u0_19 u1_20 fc_21 td_22 tg_23 t0_24 t1_25 t2_26 t3_27 t4_28 t5_29 t6_30 t7_31 dr_32 dg_33 dq_34 d0_35 d1_36 d2_37 d3_38 d4_39 d5_40 d6_41 d7_42 q_46 b0_47 b1_48 b2_49 b3_50 b4_51 b5_52 b6_53 b7_54 b8_55 q_59 hP hD hS hl
    by_cases h51 : v = 51
    · refine lv_tableIn (off := 1878) (tgt := 1918) hx hb dL_law_40 (by rw [h51]; decide) (by rw [h51]; decide) (by rw [h51]; rfl) (by decide) ?_
      exact law_c51 hl9 C0 X hZ q_1 tp_2 bt_3 nw_4 gr_5 gs_6 n1_7 n2_8 n3_9 tr_10 kp_11 im_12 wy_13 ow_14 fl_15 cs_16 ds_17 gu_18 u0_19 u1_20 fc_21 td_22 tg_23 t0_24 t1_25 t2_26 t3_27 t4_28 t5_29 t6_30 t7_31 dr_32 dg_33 dq_34 d0_35 d1_36 d2_37 d3_38 d4_39 d5_40 d6_41 d7_42 q_46 b0_47 b1_48 b2_49 b3_50 b4_51 b5_52 b6_53 b7_54 b8_55 q_59 hP hD hS hl
    by_cases h52 : v = 52
    · refine lv_tableIn (off := 1903) (tgt := 1943) hx hb dL_law_40 (by rw [h52]; decide) (by rw [h52]; decide) (by rw [h52]; rfl) (by decide) ?_
      exact law_c52 hl9 C0 X hZ q_1 tp_2 bt_3 nw_4 gr_5 gs_6 n1_7 n2_8 n3_9 tr_10 kp_11 im_12 wy_13 ow_14 fl_15 cs_16 ds_17 gu_18 u0_19 u1_20 fc_21 td_22 tg_23 t0_24 t1_25 t2_26 t3_27 t4_28 t5_29 t6_30 t7_31 dr_32 dg_33 dq_34 d0_35 d1_36 d2_37 d3_38 d4_39 d5_40 d6_41 d7_42 q_46 b0_47 b1_48 b2_49 b3_50 b4_51 b5_52 b6_53 b7_54 b8_55 q_59 hP hD hS hl
    have h0 : v.toInt ≠ 0 := c_ne h0
    have h1 : v.toInt ≠ 1 := c_ne h1
    have h2 : v.toInt ≠ 2 := c_ne h2
    have h3 : v.toInt ≠ 3 := c_ne h3
    have h4 : v.toInt ≠ 4 := c_ne h4
    have h5 : v.toInt ≠ 5 := c_ne h5
    have h6 : v.toInt ≠ 6 := c_ne h6
    have h7 : v.toInt ≠ 7 := c_ne h7
    have h8 : v.toInt ≠ 8 := c_ne h8
    have h9 : v.toInt ≠ 9 := c_ne h9
    have h10 : v.toInt ≠ 10 := c_ne h10
    have h11 : v.toInt ≠ 11 := c_ne h11
    have h12 : v.toInt ≠ 12 := c_ne h12
    have h13 : v.toInt ≠ 13 := c_ne h13
    have h14 : v.toInt ≠ 14 := c_ne h14
    have h15 : v.toInt ≠ 15 := c_ne h15
    have h16 : v.toInt ≠ 16 := c_ne h16
    have h17 : v.toInt ≠ 17 := c_ne h17
    have h18 : v.toInt ≠ 18 := c_ne h18
    have h19 : v.toInt ≠ 19 := c_ne h19
    have h20 : v.toInt ≠ 20 := c_ne h20
    have h21 : v.toInt ≠ 21 := c_ne h21
    have h22 : v.toInt ≠ 22 := c_ne h22
    have h23 : v.toInt ≠ 23 := c_ne h23
    have h24 : v.toInt ≠ 24 := c_ne h24
    have h25 : v.toInt ≠ 25 := c_ne h25
    have h26 : v.toInt ≠ 26 := c_ne h26
    have h27 : v.toInt ≠ 27 := c_ne h27
    have h28 : v.toInt ≠ 28 := c_ne h28
    have h29 : v.toInt ≠ 29 := c_ne h29
    have h30 : v.toInt ≠ 30 := c_ne h30
    have h31 : v.toInt ≠ 31 := c_ne h31
    have h32 : v.toInt ≠ 32 := c_ne h32
    have h33 : v.toInt ≠ 33 := c_ne h33
    have h34 : v.toInt ≠ 34 := c_ne h34
    have h35 : v.toInt ≠ 35 := c_ne h35
    have h36 : v.toInt ≠ 36 := c_ne h36
    have h37 : v.toInt ≠ 37 := c_ne h37
    have h38 : v.toInt ≠ 38 := c_ne h38
    have h39 : v.toInt ≠ 39 := c_ne h39
    have h40 : v.toInt ≠ 40 := c_ne h40
    have h41 : v.toInt ≠ 41 := c_ne h41
    have h42 : v.toInt ≠ 42 := c_ne h42
    have h43 : v.toInt ≠ 43 := c_ne h43
    have h44 : v.toInt ≠ 44 := c_ne h44
    have h45 : v.toInt ≠ 45 := c_ne h45
    have h46 : v.toInt ≠ 46 := c_ne h46
    have h47 : v.toInt ≠ 47 := c_ne h47
    have h48 : v.toInt ≠ 48 := c_ne h48
    have h49 : v.toInt ≠ 49 := c_ne h49
    have h50 : v.toInt ≠ 50 := c_ne h50
    have h51 : v.toInt ≠ 51 := c_ne h51
    have h52 : v.toInt ≠ 52 := c_ne h52
    refine lv_tableOut (tgt := 1956) hx hb dL_law_40 (by omega) (by decide) ?_
    exact law_end hl9 C0 X hZ (Nat.le_of_ble_eq_true rfl) (Nat.le_of_ble_eq_true rfl) hS (lv_sub hl [0, 4] rfl)
-- ===== YOUR PART ENDS =====
set_option maxHeartbeats 4000000 in
theorem lw_walk (l : Launch) (hflags : l.flags = flags0) (b : Addr) (xs : List Int32) : MetFree l x (headSpec (Jvm.Cond.code x code maxLocals ret :: tables_1) room_1) (lw_P b xs) (fun _ _ _ _ _ => True) lw_Q := by
  refine MetFree.of_bodyS (code := code) (maxLocals := maxLocals) (ret := ret) (by decide) ?_ ?_
  · intro args s m h hn
    obtain ⟨meth, c, h1, h2, h3, h4, h5, h6, -, -⟩ := Cond.code_spec hn (atoms_spec (ws := Jvm.Cond.code x code maxLocals ret :: tables_1) h _ List.mem_cons_self)
    exact ⟨meth, c, h1, h2, h3, h4, h5, h6⟩
  · intro p e s m args below meth c s₁ B hml0 hP _
    obtain ⟨rfl, hx, hbd, hgv⟩ := hP
    obtain ⟨scr, harrAt, hlist, hof, hsmall⟩ := hx
    obtain ⟨hcb, hkn, -, -⟩ := State.arrayAt?_spec harrAt
    have hown : s.vm.findClass R_law = some m.cls := findClass_of_methodNamed B.named
    have hts0 : ∀ c ∈ (Jvm.Cond.code x code maxLocals ret :: tables_1), c.before #[Value.ref b] s = true := atoms_spec (ws := Jvm.Cond.code x code maxLocals ret :: tables_1) B.pre
    have hts : ∀ w ∈ lw_tbl, w.before #[Value.ref b] s = true := k2_hts_sels lw_privs (fun w hw => hts0 w (List.mem_cons_of_mem _ hw)) lw_privs_ok
    have hml : c.maxLocals = 7 := B.maxLocals_eq (hts0 _ List.mem_cons_self)
    have X₀ : Stand p l e room_1 s m #[Value.ref b] below meth c s₁ [] 0 0 := Stand.of_body B
    have hh0 : s₁.heap = s.heap := by rw [B.state]; rfl
    have hsz : scr.slots.size = xs.length := by rw [← Array.length_toList, hlist, List.length_map]
    have hval : ∀ j : Nat, j < xs.length → scr.slots[j]? = some (.int (xs.getD j 0)) := fun j hj => by
      rw [← Array.getElem?_toList, hlist]
      simp [hj]
    have hbl : b < s.heap.size := (Array.getElem?_eq_some_iff.mp hcb).1
    have hX : va_X b xs.length (fun j => xs.getD j 0) s s.heap := ⟨scr, hcb, hof, hkn, hsz, hval⟩
    have K : W p l e room_1 s m #[Value.ref b] below meth c s₁.heap [] 0 0 (lw_Z below #[Value.ref b] s) (entryFrame m ([Value.ref b] : List Value).toArray 7) := by
      rw [hh0]
      exact whole_start l hflags hbd ⟨B.exec, B.bytes, B.returns, hml, hown, hts, hX, hbl, B.notSynchronized, hgv⟩
    obtain ⟨t, a1, o, b1, b2, b3⟩ := K s₁ rfl X₀
    exact ⟨t, o, a1, b1, b2, b3⟩
theorem lw_pre_spec {args : Array Value} {s : State} (h : (Jvm.Cond.and given_1 narrow_1).before args s = true) (hr : rest_1_c.before args s = true) : ∃ (b : Addr) (xs : List Int32), lw_P b xs args s := by
  have hs := flat_of_before _ h
  have hq := flat_of_before _ hr
  have hc : (Cond.count 1).before args s = true := hs _ (by decide +kernel)
  have harr : (Cond.arrayOf (.arg 0) .int).before args s = true := hs _ (by decide +kernel)
  have hle : (Cond.le (.length (.arg 0)) (.int 6)).before args s = true := hs _ (by decide +kernel)
  have hlen : (Cond.isInt (.length (.arg 0))).before args s = true := hq _ (by decide +kernel)
  have hall : (Cond.all (.arg 0) (.isInt (.elem (.arg 0) (.index 0)))).before args s = true := hq _ (by decide +kernel)
  obtain ⟨b, xs, hb, hx⟩ := State.ints_of_pre rfl harr hlen hall
  have hsm : xs.length < 2 ^ 31 := hx.choose_spec.2.2.2
  have hev : (Term.length (.arg 0)).eval args s none [] s = some (.int xs.length.toInt32) := hx.length_eval hb
  have hv := Cond.le_ints hev (show (Term.int 6).eval args s none [] s = some (.int 6) from rfl)
  have hd : xs.length.toInt32 ≤ 6 := by
    simpa [Cond.before, Cond.holds, hv] using hle
  have hN : xs.length ≤ 6 := (Int32.ofNat_le_ofNat hsm (by decide)).mp (show Int32.ofNat xs.length ≤ Int32.ofNat 6 from hd)
  exact ⟨b, xs, Cond.one_arg hc (show args[0]? = some (.ref b) from hb), hx, hN, h⟩
theorem lw_comes (l : Launch) (hflags : l.flags = flags0) : Comes l x (Jvm.Cond.code x code maxLocals ret :: tables_1) room_1 (fun tb e args s => Calls_1 tb e args s ∧ rest_1 tb e args s ∧ Pre_1 tb e args s)
    (fun _ _ args s o t => lw_Q args s o t) := by
  intro p e ha hc hk s m args below hf hfit hheap happ hpre
  obtain ⟨b, xs, hP⟩ := lw_pre_spec hpre.2.2 hpre.2.1
  obtain ⟨k, o, h1, h2, h3, hQ⟩ := lw_walk l hflags b xs p e ha hc hk s m args below hf ((Spec.applies_iff_loose hf).mp happ).1 hP trivial
  exact ⟨k, o, h1, h2, h3, hQ⟩
theorem lw_frame {s t : State} {o : Outcome} {args : Array Value} (h : Framed s o t [] 600002 7302232) :
    Framed s o t (fieldLocs frame_1_writes args s ++ arrayLocs frame_1_arrays args s ++ staticLocs frame_1_statics s) 600002 7302232 := h
theorem lw_limb (L : Cond) (hL : ∀ (args : Array Value) (s t : State), L.after args s (.returned (some (.int 1))) t = true) :
    ArmFor flags0 classFile x code maxLocals ret World_1 tables_1 room_1 Calls_1 rest_1 Pre_1
      (fun tb e a s o t => postC L tb e a s o t ∧ Framed s o t (fieldLocs frame_1_writes a s ++ arrayLocs frame_1_arrays a s ++ staticLocs frame_1_statics s) 600002 7302232) := by
  intro l hflags _ _ p e ha hc hk s m args below hf hfit hheap happ hpre
  obtain ⟨k, o, h1, h2, h3, rfl, hF⟩ := lw_comes l hflags p e ha hc hk s m args below hf hfit hheap happ hpre
  exact ⟨k, _, h1, h2, h3, hL args s _, lw_frame hF⟩
theorem i_vc : Claimed_1_1 ∧ Claimed_1_2 := ⟨lw_limb limb_1_1 (fun args s t => by simp [limb_1_1, Cond.after, Cond.holds, Cond.value]), lw_limb limb_1_2 (fun args s t => Cond.after_iff.mpr (by
  first | (rw [show limb_1_2 = Cond.eq .result (.int 1) from rfl, Cond.eq_ints (x := 1) (y := 1) rfl rfl]; simp; done) | (simp [limb_1_2, Cond.value, Term.eval]; done)))⟩
