section
set_option maxHeartbeats 4000000 in
set_option maxRecDepth 100000 in
theorem sX12_ini (l : Launch) (dC : Nat → ClassId) (dI : Nat → Nat → Nat) (cy : Nat → ClassId) (h0 : Nat) : ctV l dC dI cy hp yX12_init cX12_init 1 ({ frames := 1, cells := 9, slots := 59, locals := 12 } : Room) [.ref h0] [(h0, .inr (11, [.int 0, .int 0, .int 0, .int 0, .int 0, .int 0, .int 0, .int 0, .null, .null, .null, .null, .null, .null, .null, .null, .null]))] (S := Nat × Nat × Nat × Nat × Nat × Nat × Nat × Nat × Nat) (fun u => True) (fun u => [(h0, .inr (11, [.int 0, .int 0, .int 0, .int 0, .int 0, .int 0, .int 0, .int 0, .ref u.1, .ref u.2.1, .ref u.2.2.1, .ref u.2.2.2.1, .ref u.2.2.2.2.1, .ref u.2.2.2.2.2.1, .ref u.2.2.2.2.2.2.1, .ref u.2.2.2.2.2.2.2.1, .ref u.2.2.2.2.2.2.2.2])), (u.1, .inl (cy 1, 20, .inl ((fun _ => 0)))), (u.2.1, .inl (cy 1, 5, .inl ((fun _ => 0)))), (u.2.2.1, .inl (cy 1, 4, .inl ((fun _ => 0)))), (u.2.2.2.1, .inl (cy 1, 4, .inl ((fun _ => 0)))), (u.2.2.2.2.1, .inl (cy 1, 4, .inl ((fun _ => 0)))), (u.2.2.2.2.2.1, .inl (cy 1, 6, .inl ((fun _ => 0)))), (u.2.2.2.2.2.2.1, .inl (cy 1, 6, .inl ((fun _ => 0)))), (u.2.2.2.2.2.2.2.1, .inl (cy 3, 6, .inl ((fun _ => 0)))), (u.2.2.2.2.2.2.2.2, .inl (cy 2, 4, .inr (.inl ((fun _ => 0)))))]) := by
  refine ctV.of (by decide +kernel) (Nat.le_of_ble_eq_true rfl) ?_
  intro p e s m args below meth c A ls Q hQ X hr hlocks hin hA hP hD hS hl
  have hx := X.1
  have hb := X.2.1
  have hK := X.2.2.2.2.2.1
  have hl : lv_has ls 1 [(0, .ref h0)] := hl
  refine lv_aload_n hx hb dX12_init_0 rfl (lv_at hl 0 rfl) ?_
  refine r_oinit X hl w_1445 dX12_init_1 (Nat.le_of_ble_eq_true rfl) (Nat.le_of_ble_eq_true rfl) ?_
  refine lv_aload_n hx hb dX12_init_4 rfl (lv_at hl 0 rfl) ?_
  refine lv_bipush (v := 20) hx hb dX12_init_5 (by decide) ?_
  refine r_newa X (atype := .int) (ty := .int) (t0 := 1) (N' := 20) (a0 := (20, .inl (fun _ => 0))) rfl w_207 rfl hP hD hS hA (fun _ => rfl) (by decide) (by decide) (Nat.le_of_ble_eq_true rfl) (Nat.le_of_ble_eq_true rfl) (Nat.le_of_ble_eq_true rfl) dX12_init_7 (fun q_1 H hP hD hS => ?_)
  have hPD := vPD (ws' := [(h0, .inr (11, [.int 0, .int 0, .int 0, .int 0, .int 0, .int 0, .int 0, .int 0, .null, .null, .null, .null, .null, .null, .null, .null, .null])), (q_1, .inl (cy 1, 20, .inl ((fun _ => 0))))]) hP hD rfl
  have hP := hPD.1
  have hD := hPD.2
  refine r_putF X kcX12 (ci := 11) rfl hP hD hS hin 0 rfl 8 (by decide) w_1456 rfl rfl rfl rfl (Nat.le_of_ble_eq_true rfl) dX12_init_9 (fun H locs hP hD hS => ?_)
  have hPD := vPD (ws' := [(h0, .inr (11, [.int 0, .int 0, .int 0, .int 0, .int 0, .int 0, .int 0, .int 0, .ref q_1, .null, .null, .null, .null, .null, .null, .null, .null])), (q_1, .inl (cy 1, 20, .inl ((fun _ => 0))))]) hP hD rfl
  have hP := hPD.1
  have hD := hPD.2
  refine lv_aload_n hx hb dX12_init_12 rfl (lv_at hl 0 rfl) ?_
  refine lv_iconst (v := 5) hx hb dX12_init_13 (by decide) ?_
  refine r_newa X (atype := .int) (ty := .int) (t0 := 1) (N' := 5) (a0 := (5, .inl (fun _ => 0))) rfl w_207 rfl hP hD hS hA (fun _ => rfl) (by decide) (by decide) (Nat.le_of_ble_eq_true rfl) (Nat.le_of_ble_eq_true rfl) (Nat.le_of_ble_eq_true rfl) dX12_init_14 (fun q_2 H hP hD hS => ?_)
  have hPD := vPD (ws' := [(h0, .inr (11, [.int 0, .int 0, .int 0, .int 0, .int 0, .int 0, .int 0, .int 0, .ref q_1, .null, .null, .null, .null, .null, .null, .null, .null])), (q_1, .inl (cy 1, 20, .inl ((fun _ => 0)))), (q_2, .inl (cy 1, 5, .inl ((fun _ => 0))))]) hP hD rfl
  have hP := hPD.1
  have hD := hPD.2
  refine r_putF X kcX12 (ci := 11) rfl hP hD hS hin 0 rfl 9 (by decide) w_1458 rfl rfl rfl rfl (Nat.le_of_ble_eq_true rfl) dX12_init_16 (fun H locs hP hD hS => ?_)
  have hPD := vPD (ws' := [(h0, .inr (11, [.int 0, .int 0, .int 0, .int 0, .int 0, .int 0, .int 0, .int 0, .ref q_1, .ref q_2, .null, .null, .null, .null, .null, .null, .null])), (q_1, .inl (cy 1, 20, .inl ((fun _ => 0)))), (q_2, .inl (cy 1, 5, .inl ((fun _ => 0))))]) hP hD rfl
  have hP := hPD.1
  have hD := hPD.2
  refine lv_aload_n hx hb dX12_init_19 rfl (lv_at hl 0 rfl) ?_
  refine lv_iconst (v := 4) hx hb dX12_init_20 (by decide) ?_
  refine r_newa X (atype := .int) (ty := .int) (t0 := 1) (N' := 4) (a0 := (4, .inl (fun _ => 0))) rfl w_207 rfl hP hD hS hA (fun _ => rfl) (by decide) (by decide) (Nat.le_of_ble_eq_true rfl) (Nat.le_of_ble_eq_true rfl) (Nat.le_of_ble_eq_true rfl) dX12_init_21 (fun q_3 H hP hD hS => ?_)
  have hPD := vPD (ws' := [(h0, .inr (11, [.int 0, .int 0, .int 0, .int 0, .int 0, .int 0, .int 0, .int 0, .ref q_1, .ref q_2, .null, .null, .null, .null, .null, .null, .null])), (q_1, .inl (cy 1, 20, .inl ((fun _ => 0)))), (q_2, .inl (cy 1, 5, .inl ((fun _ => 0)))), (q_3, .inl (cy 1, 4, .inl ((fun _ => 0))))]) hP hD rfl
  have hP := hPD.1
  have hD := hPD.2
  refine r_putF X kcX12 (ci := 11) rfl hP hD hS hin 0 rfl 10 (by decide) w_1460 rfl rfl rfl rfl (Nat.le_of_ble_eq_true rfl) dX12_init_23 (fun H locs hP hD hS => ?_)
  have hPD := vPD (ws' := [(h0, .inr (11, [.int 0, .int 0, .int 0, .int 0, .int 0, .int 0, .int 0, .int 0, .ref q_1, .ref q_2, .ref q_3, .null, .null, .null, .null, .null, .null])), (q_1, .inl (cy 1, 20, .inl ((fun _ => 0)))), (q_2, .inl (cy 1, 5, .inl ((fun _ => 0)))), (q_3, .inl (cy 1, 4, .inl ((fun _ => 0))))]) hP hD rfl
  have hP := hPD.1
  have hD := hPD.2
  refine lv_aload_n hx hb dX12_init_26 rfl (lv_at hl 0 rfl) ?_
  refine lv_iconst (v := 4) hx hb dX12_init_27 (by decide) ?_
  refine r_newa X (atype := .int) (ty := .int) (t0 := 1) (N' := 4) (a0 := (4, .inl (fun _ => 0))) rfl w_207 rfl hP hD hS hA (fun _ => rfl) (by decide) (by decide) (Nat.le_of_ble_eq_true rfl) (Nat.le_of_ble_eq_true rfl) (Nat.le_of_ble_eq_true rfl) dX12_init_28 (fun q_4 H hP hD hS => ?_)
  have hPD := vPD (ws' := [(h0, .inr (11, [.int 0, .int 0, .int 0, .int 0, .int 0, .int 0, .int 0, .int 0, .ref q_1, .ref q_2, .ref q_3, .null, .null, .null, .null, .null, .null])), (q_1, .inl (cy 1, 20, .inl ((fun _ => 0)))), (q_2, .inl (cy 1, 5, .inl ((fun _ => 0)))), (q_3, .inl (cy 1, 4, .inl ((fun _ => 0)))), (q_4, .inl (cy 1, 4, .inl ((fun _ => 0))))]) hP hD rfl
  have hP := hPD.1
  have hD := hPD.2
  refine r_putF X kcX12 (ci := 11) rfl hP hD hS hin 0 rfl 11 (by decide) w_1462 rfl rfl rfl rfl (Nat.le_of_ble_eq_true rfl) dX12_init_30 (fun H locs hP hD hS => ?_)
  have hPD := vPD (ws' := [(h0, .inr (11, [.int 0, .int 0, .int 0, .int 0, .int 0, .int 0, .int 0, .int 0, .ref q_1, .ref q_2, .ref q_3, .ref q_4, .null, .null, .null, .null, .null])), (q_1, .inl (cy 1, 20, .inl ((fun _ => 0)))), (q_2, .inl (cy 1, 5, .inl ((fun _ => 0)))), (q_3, .inl (cy 1, 4, .inl ((fun _ => 0)))), (q_4, .inl (cy 1, 4, .inl ((fun _ => 0))))]) hP hD rfl
  have hP := hPD.1
  have hD := hPD.2
  refine lv_aload_n hx hb dX12_init_33 rfl (lv_at hl 0 rfl) ?_
  refine lv_iconst (v := 4) hx hb dX12_init_34 (by decide) ?_
  refine r_newa X (atype := .int) (ty := .int) (t0 := 1) (N' := 4) (a0 := (4, .inl (fun _ => 0))) rfl w_207 rfl hP hD hS hA (fun _ => rfl) (by decide) (by decide) (Nat.le_of_ble_eq_true rfl) (Nat.le_of_ble_eq_true rfl) (Nat.le_of_ble_eq_true rfl) dX12_init_35 (fun q_5 H hP hD hS => ?_)
  have hPD := vPD (ws' := [(h0, .inr (11, [.int 0, .int 0, .int 0, .int 0, .int 0, .int 0, .int 0, .int 0, .ref q_1, .ref q_2, .ref q_3, .ref q_4, .null, .null, .null, .null, .null])), (q_1, .inl (cy 1, 20, .inl ((fun _ => 0)))), (q_2, .inl (cy 1, 5, .inl ((fun _ => 0)))), (q_3, .inl (cy 1, 4, .inl ((fun _ => 0)))), (q_4, .inl (cy 1, 4, .inl ((fun _ => 0)))), (q_5, .inl (cy 1, 4, .inl ((fun _ => 0))))]) hP hD rfl
  have hP := hPD.1
  have hD := hPD.2
  refine r_putF X kcX12 (ci := 11) rfl hP hD hS hin 0 rfl 12 (by decide) w_1464 rfl rfl rfl rfl (Nat.le_of_ble_eq_true rfl) dX12_init_37 (fun H locs hP hD hS => ?_)
  have hPD := vPD (ws' := [(h0, .inr (11, [.int 0, .int 0, .int 0, .int 0, .int 0, .int 0, .int 0, .int 0, .ref q_1, .ref q_2, .ref q_3, .ref q_4, .ref q_5, .null, .null, .null, .null])), (q_1, .inl (cy 1, 20, .inl ((fun _ => 0)))), (q_2, .inl (cy 1, 5, .inl ((fun _ => 0)))), (q_3, .inl (cy 1, 4, .inl ((fun _ => 0)))), (q_4, .inl (cy 1, 4, .inl ((fun _ => 0)))), (q_5, .inl (cy 1, 4, .inl ((fun _ => 0))))]) hP hD rfl
  have hP := hPD.1
  have hD := hPD.2
  refine lv_aload_n hx hb dX12_init_40 rfl (lv_at hl 0 rfl) ?_
  refine lv_bipush (v := 6) hx hb dX12_init_41 (by decide) ?_
  refine r_newa X (atype := .int) (ty := .int) (t0 := 1) (N' := 6) (a0 := (6, .inl (fun _ => 0))) rfl w_207 rfl hP hD hS hA (fun _ => rfl) (by decide) (by decide) (Nat.le_of_ble_eq_true rfl) (Nat.le_of_ble_eq_true rfl) (Nat.le_of_ble_eq_true rfl) dX12_init_43 (fun q_6 H hP hD hS => ?_)
  have hPD := vPD (ws' := [(h0, .inr (11, [.int 0, .int 0, .int 0, .int 0, .int 0, .int 0, .int 0, .int 0, .ref q_1, .ref q_2, .ref q_3, .ref q_4, .ref q_5, .null, .null, .null, .null])), (q_1, .inl (cy 1, 20, .inl ((fun _ => 0)))), (q_2, .inl (cy 1, 5, .inl ((fun _ => 0)))), (q_3, .inl (cy 1, 4, .inl ((fun _ => 0)))), (q_4, .inl (cy 1, 4, .inl ((fun _ => 0)))), (q_5, .inl (cy 1, 4, .inl ((fun _ => 0)))), (q_6, .inl (cy 1, 6, .inl ((fun _ => 0))))]) hP hD rfl
  have hP := hPD.1
  have hD := hPD.2
  refine r_putF X kcX12 (ci := 11) rfl hP hD hS hin 0 rfl 13 (by decide) w_1466 rfl rfl rfl rfl (Nat.le_of_ble_eq_true rfl) dX12_init_45 (fun H locs hP hD hS => ?_)
  have hPD := vPD (ws' := [(h0, .inr (11, [.int 0, .int 0, .int 0, .int 0, .int 0, .int 0, .int 0, .int 0, .ref q_1, .ref q_2, .ref q_3, .ref q_4, .ref q_5, .ref q_6, .null, .null, .null])), (q_1, .inl (cy 1, 20, .inl ((fun _ => 0)))), (q_2, .inl (cy 1, 5, .inl ((fun _ => 0)))), (q_3, .inl (cy 1, 4, .inl ((fun _ => 0)))), (q_4, .inl (cy 1, 4, .inl ((fun _ => 0)))), (q_5, .inl (cy 1, 4, .inl ((fun _ => 0)))), (q_6, .inl (cy 1, 6, .inl ((fun _ => 0))))]) hP hD rfl
  have hP := hPD.1
  have hD := hPD.2
  refine lv_aload_n hx hb dX12_init_48 rfl (lv_at hl 0 rfl) ?_
  refine lv_bipush (v := 6) hx hb dX12_init_49 (by decide) ?_
  refine r_newa X (atype := .int) (ty := .int) (t0 := 1) (N' := 6) (a0 := (6, .inl (fun _ => 0))) rfl w_207 rfl hP hD hS hA (fun _ => rfl) (by decide) (by decide) (Nat.le_of_ble_eq_true rfl) (Nat.le_of_ble_eq_true rfl) (Nat.le_of_ble_eq_true rfl) dX12_init_51 (fun q_7 H hP hD hS => ?_)
  have hPD := vPD (ws' := [(h0, .inr (11, [.int 0, .int 0, .int 0, .int 0, .int 0, .int 0, .int 0, .int 0, .ref q_1, .ref q_2, .ref q_3, .ref q_4, .ref q_5, .ref q_6, .null, .null, .null])), (q_1, .inl (cy 1, 20, .inl ((fun _ => 0)))), (q_2, .inl (cy 1, 5, .inl ((fun _ => 0)))), (q_3, .inl (cy 1, 4, .inl ((fun _ => 0)))), (q_4, .inl (cy 1, 4, .inl ((fun _ => 0)))), (q_5, .inl (cy 1, 4, .inl ((fun _ => 0)))), (q_6, .inl (cy 1, 6, .inl ((fun _ => 0)))), (q_7, .inl (cy 1, 6, .inl ((fun _ => 0))))]) hP hD rfl
  have hP := hPD.1
  have hD := hPD.2
  refine r_putF X kcX12 (ci := 11) rfl hP hD hS hin 0 rfl 14 (by decide) w_1468 rfl rfl rfl rfl (Nat.le_of_ble_eq_true rfl) dX12_init_53 (fun H locs hP hD hS => ?_)
  have hPD := vPD (ws' := [(h0, .inr (11, [.int 0, .int 0, .int 0, .int 0, .int 0, .int 0, .int 0, .int 0, .ref q_1, .ref q_2, .ref q_3, .ref q_4, .ref q_5, .ref q_6, .ref q_7, .null, .null])), (q_1, .inl (cy 1, 20, .inl ((fun _ => 0)))), (q_2, .inl (cy 1, 5, .inl ((fun _ => 0)))), (q_3, .inl (cy 1, 4, .inl ((fun _ => 0)))), (q_4, .inl (cy 1, 4, .inl ((fun _ => 0)))), (q_5, .inl (cy 1, 4, .inl ((fun _ => 0)))), (q_6, .inl (cy 1, 6, .inl ((fun _ => 0)))), (q_7, .inl (cy 1, 6, .inl ((fun _ => 0))))]) hP hD rfl
  have hP := hPD.1
  have hD := hPD.2
  refine lv_aload_n hx hb dX12_init_56 rfl (lv_at hl 0 rfl) ?_
  refine lv_bipush (v := 6) hx hb dX12_init_57 (by decide) ?_
  refine r_newa X (atype := .boolean) (ty := .boolean) (t0 := 3) (N' := 6) (a0 := (6, .inl (fun _ => 0))) rfl w_449 rfl hP hD hS hA (fun _ => rfl) (by decide) (by decide) (Nat.le_of_ble_eq_true rfl) (Nat.le_of_ble_eq_true rfl) (Nat.le_of_ble_eq_true rfl) dX12_init_59 (fun q_8 H hP hD hS => ?_)
  have hPD := vPD (ws' := [(h0, .inr (11, [.int 0, .int 0, .int 0, .int 0, .int 0, .int 0, .int 0, .int 0, .ref q_1, .ref q_2, .ref q_3, .ref q_4, .ref q_5, .ref q_6, .ref q_7, .null, .null])), (q_1, .inl (cy 1, 20, .inl ((fun _ => 0)))), (q_2, .inl (cy 1, 5, .inl ((fun _ => 0)))), (q_3, .inl (cy 1, 4, .inl ((fun _ => 0)))), (q_4, .inl (cy 1, 4, .inl ((fun _ => 0)))), (q_5, .inl (cy 1, 4, .inl ((fun _ => 0)))), (q_6, .inl (cy 1, 6, .inl ((fun _ => 0)))), (q_7, .inl (cy 1, 6, .inl ((fun _ => 0)))), (q_8, .inl (cy 3, 6, .inl ((fun _ => 0))))]) hP hD rfl
  have hP := hPD.1
  have hD := hPD.2
  refine r_putF X kcX12 (ci := 11) rfl hP hD hS hin 0 rfl 15 (by decide) w_1470 rfl rfl rfl rfl (Nat.le_of_ble_eq_true rfl) dX12_init_61 (fun H locs hP hD hS => ?_)
  have hPD := vPD (ws' := [(h0, .inr (11, [.int 0, .int 0, .int 0, .int 0, .int 0, .int 0, .int 0, .int 0, .ref q_1, .ref q_2, .ref q_3, .ref q_4, .ref q_5, .ref q_6, .ref q_7, .ref q_8, .null])), (q_1, .inl (cy 1, 20, .inl ((fun _ => 0)))), (q_2, .inl (cy 1, 5, .inl ((fun _ => 0)))), (q_3, .inl (cy 1, 4, .inl ((fun _ => 0)))), (q_4, .inl (cy 1, 4, .inl ((fun _ => 0)))), (q_5, .inl (cy 1, 4, .inl ((fun _ => 0)))), (q_6, .inl (cy 1, 6, .inl ((fun _ => 0)))), (q_7, .inl (cy 1, 6, .inl ((fun _ => 0)))), (q_8, .inl (cy 3, 6, .inl ((fun _ => 0))))]) hP hD rfl
  have hP := hPD.1
  have hD := hPD.2
  refine lv_aload_n hx hb dX12_init_64 rfl (lv_at hl 0 rfl) ?_
  refine lv_iconst (v := 4) hx hb dX12_init_65 (by decide) ?_
  refine r_newa X (atype := .long) (ty := .long) (t0 := 2) (N' := 4) (a0 := (4, .inr (.inl (fun _ => 0)))) rfl w_348 rfl hP hD hS hA (fun _ => rfl) (by decide) (by decide) (Nat.le_of_ble_eq_true rfl) (Nat.le_of_ble_eq_true rfl) (Nat.le_of_ble_eq_true rfl) dX12_init_66 (fun q_9 H hP hD hS => ?_)
  have hPD := vPD (ws' := [(h0, .inr (11, [.int 0, .int 0, .int 0, .int 0, .int 0, .int 0, .int 0, .int 0, .ref q_1, .ref q_2, .ref q_3, .ref q_4, .ref q_5, .ref q_6, .ref q_7, .ref q_8, .null])), (q_1, .inl (cy 1, 20, .inl ((fun _ => 0)))), (q_2, .inl (cy 1, 5, .inl ((fun _ => 0)))), (q_3, .inl (cy 1, 4, .inl ((fun _ => 0)))), (q_4, .inl (cy 1, 4, .inl ((fun _ => 0)))), (q_5, .inl (cy 1, 4, .inl ((fun _ => 0)))), (q_6, .inl (cy 1, 6, .inl ((fun _ => 0)))), (q_7, .inl (cy 1, 6, .inl ((fun _ => 0)))), (q_8, .inl (cy 3, 6, .inl ((fun _ => 0)))), (q_9, .inl (cy 2, 4, .inr (.inl ((fun _ => 0)))))]) hP hD rfl
  have hP := hPD.1
  have hD := hPD.2
  refine r_putF X kcX12 (ci := 11) rfl hP hD hS hin 0 rfl 16 (by decide) w_1472 rfl rfl rfl rfl (Nat.le_of_ble_eq_true rfl) dX12_init_68 (fun H locs hP hD hS => ?_)
  have hPD := vPD (ws' := [(h0, .inr (11, [.int 0, .int 0, .int 0, .int 0, .int 0, .int 0, .int 0, .int 0, .ref q_1, .ref q_2, .ref q_3, .ref q_4, .ref q_5, .ref q_6, .ref q_7, .ref q_8, .ref q_9])), (q_1, .inl (cy 1, 20, .inl ((fun _ => 0)))), (q_2, .inl (cy 1, 5, .inl ((fun _ => 0)))), (q_3, .inl (cy 1, 4, .inl ((fun _ => 0)))), (q_4, .inl (cy 1, 4, .inl ((fun _ => 0)))), (q_5, .inl (cy 1, 4, .inl ((fun _ => 0)))), (q_6, .inl (cy 1, 6, .inl ((fun _ => 0)))), (q_7, .inl (cy 1, 6, .inl ((fun _ => 0)))), (q_8, .inl (cy 3, 6, .inl ((fun _ => 0)))), (q_9, .inl (cy 2, 4, .inr (.inl ((fun _ => 0)))))]) hP hD rfl
  have hP := hPD.1
  have hD := hPD.2
  exact eV hQ X hr hlocks hP hD hS (q_1, q_2, q_3, q_4, q_5, q_6, q_7, q_8, q_9) [0, 1, 2, 3, 4, 5, 6, 7, 8, 9] (by decide +kernel) rfl trivial (Nat.le_of_ble_eq_true rfl) (Nat.le_of_ble_eq_true rfl) dX12_init_71
set_option maxHeartbeats 4000000 in
set_option maxRecDepth 100000 in
theorem sX13_ini (l : Launch) (dC : Nat → ClassId) (dI : Nat → Nat → Nat) (cy : Nat → ClassId) (h0 : Nat) : ctV l dC dI cy hp yX13_init cX13_init 1 ({ frames := 1, cells := 9, slots := 1907, locals := 12 } : Room) [.ref h0] [(h0, .inr (12, [.int 0, .int 0, .int 0, .null, .null, .null, .int 0, .int 0, .int 0, .int 0, .int 0, .int 0, .int 0, .int 0, .int 0, .long 0, .null, .null, .null, .null, .int 0, .int 0, .null, .null, .null, .int 0, .null, .int 0, .int 0, .int 0, .int 0]))] (S := Nat × Nat × Nat × Nat × Nat × Nat × Nat × Nat × Nat) (fun u => True) (fun u => [(h0, .inr (12, [.int 0, .int 0, .int (-1), .null, .null, .ref u.1, .int 0, .int 0, .int 0, .int 0, .int 0, .int 0, .int 0, .int 0, .int 0, .long 0, .ref u.2.1, .ref u.2.2.1, .ref u.2.2.2.1, .ref u.2.2.2.2.1, .int 0, .int 0, .ref u.2.2.2.2.2.1, .ref u.2.2.2.2.2.2.1, .ref u.2.2.2.2.2.2.2.1, .int 0, .ref u.2.2.2.2.2.2.2.2, .int 0, .int 0, .int 0, .int 0])), (u.1, .inl (cy 0, 800, .inl ((fun _ => 0)))), (u.2.1, .inl (cy 1, 32, .inl ((fun _ => 0)))), (u.2.2.1, .inl (cy 1, 20, .inl ((fun _ => 0)))), (u.2.2.2.1, .inl (cy 1, 512, .inl ((fun _ => 0)))), (u.2.2.2.2.1, .inl (cy 1, 96, .inl ((fun _ => 0)))), (u.2.2.2.2.2.1, .inl (cy 1, 20, .inl ((fun _ => 0)))), (u.2.2.2.2.2.2.1, .inl (cy 1, 20, .inl ((fun _ => 0)))), (u.2.2.2.2.2.2.2.1, .inl (cy 1, 402, .inl ((fun _ => 0)))), (u.2.2.2.2.2.2.2.2, .inl (cy 1, 5, .inl ((fun _ => 0))))]) := by
  refine ctV.of (by decide +kernel) (Nat.le_of_ble_eq_true rfl) ?_
  intro p e s m args below meth c A ls Q hQ X hr hlocks hin hA hP hD hS hl
  have hx := X.1
  have hb := X.2.1
  have hK := X.2.2.2.2.2.1
  have hl : lv_has ls 1 [(0, .ref h0)] := hl
  refine lv_aload_n hx hb dX13_init_0 rfl (lv_at hl 0 rfl) ?_
  refine r_oinit X hl w_1333 dX13_init_1 (Nat.le_of_ble_eq_true rfl) (Nat.le_of_ble_eq_true rfl) ?_
  refine lv_aload_n hx hb dX13_init_4 rfl (lv_at hl 0 rfl) ?_
  refine lv_iconst (v := -1) hx hb dX13_init_5 (by decide) ?_
  refine r_put X kcX13 (ci := 12) rfl hP hD hS 0 rfl 2 (by decide) fX13_9 rfl rfl rfl (Nat.le_of_ble_eq_true rfl) dX13_init_6 (fun H locs hP hD hS => ?_)
  have hPD := vPD (ws' := [(h0, .inr (12, [.int 0, .int 0, .int (-1), .null, .null, .null, .int 0, .int 0, .int 0, .int 0, .int 0, .int 0, .int 0, .int 0, .int 0, .long 0, .null, .null, .null, .null, .int 0, .int 0, .null, .null, .null, .int 0, .null, .int 0, .int 0, .int 0, .int 0]))]) hP hD rfl
  have hP := hPD.1
  have hD := hPD.2
  refine lv_aload_n hx hb dX13_init_9 rfl (lv_at hl 0 rfl) ?_
  refine lv_sipush (v := 800) hx hb dX13_init_10 (by decide) ?_
  refine r_newa X (atype := .byte) (ty := .byte) (t0 := 0) (N' := 800) (a0 := (800, .inl (fun _ => 0))) rfl w_171 rfl hP hD hS hA (fun _ => rfl) (by decide) (by decide) (Nat.le_of_ble_eq_true rfl) (Nat.le_of_ble_eq_true rfl) (Nat.le_of_ble_eq_true rfl) dX13_init_13 (fun q_1 H hP hD hS => ?_)
  have hPD := vPD (ws' := [(h0, .inr (12, [.int 0, .int 0, .int (-1), .null, .null, .null, .int 0, .int 0, .int 0, .int 0, .int 0, .int 0, .int 0, .int 0, .int 0, .long 0, .null, .null, .null, .null, .int 0, .int 0, .null, .null, .null, .int 0, .null, .int 0, .int 0, .int 0, .int 0])), (q_1, .inl (cy 0, 800, .inl ((fun _ => 0))))]) hP hD rfl
  have hP := hPD.1
  have hD := hPD.2
  refine r_putF X kcX13 (ci := 12) rfl hP hD hS hin 0 rfl 5 (by decide) w_1339 rfl rfl rfl rfl (Nat.le_of_ble_eq_true rfl) dX13_init_15 (fun H locs hP hD hS => ?_)
  have hPD := vPD (ws' := [(h0, .inr (12, [.int 0, .int 0, .int (-1), .null, .null, .ref q_1, .int 0, .int 0, .int 0, .int 0, .int 0, .int 0, .int 0, .int 0, .int 0, .long 0, .null, .null, .null, .null, .int 0, .int 0, .null, .null, .null, .int 0, .null, .int 0, .int 0, .int 0, .int 0])), (q_1, .inl (cy 0, 800, .inl ((fun _ => 0))))]) hP hD rfl
  have hP := hPD.1
  have hD := hPD.2
  refine lv_aload_n hx hb dX13_init_18 rfl (lv_at hl 0 rfl) ?_
  refine lv_bipush (v := 32) hx hb dX13_init_19 (by decide) ?_
  refine r_newa X (atype := .int) (ty := .int) (t0 := 1) (N' := 32) (a0 := (32, .inl (fun _ => 0))) rfl w_207 rfl hP hD hS hA (fun _ => rfl) (by decide) (by decide) (Nat.le_of_ble_eq_true rfl) (Nat.le_of_ble_eq_true rfl) (Nat.le_of_ble_eq_true rfl) dX13_init_21 (fun q_2 H hP hD hS => ?_)
  have hPD := vPD (ws' := [(h0, .inr (12, [.int 0, .int 0, .int (-1), .null, .null, .ref q_1, .int 0, .int 0, .int 0, .int 0, .int 0, .int 0, .int 0, .int 0, .int 0, .long 0, .null, .null, .null, .null, .int 0, .int 0, .null, .null, .null, .int 0, .null, .int 0, .int 0, .int 0, .int 0])), (q_1, .inl (cy 0, 800, .inl ((fun _ => 0)))), (q_2, .inl (cy 1, 32, .inl ((fun _ => 0))))]) hP hD rfl
  have hP := hPD.1
  have hD := hPD.2
  refine r_putF X kcX13 (ci := 12) rfl hP hD hS hin 0 rfl 16 (by decide) w_1350 rfl rfl rfl rfl (Nat.le_of_ble_eq_true rfl) dX13_init_23 (fun H locs hP hD hS => ?_)
  have hPD := vPD (ws' := [(h0, .inr (12, [.int 0, .int 0, .int (-1), .null, .null, .ref q_1, .int 0, .int 0, .int 0, .int 0, .int 0, .int 0, .int 0, .int 0, .int 0, .long 0, .ref q_2, .null, .null, .null, .int 0, .int 0, .null, .null, .null, .int 0, .null, .int 0, .int 0, .int 0, .int 0])), (q_1, .inl (cy 0, 800, .inl ((fun _ => 0)))), (q_2, .inl (cy 1, 32, .inl ((fun _ => 0))))]) hP hD rfl
  have hP := hPD.1
  have hD := hPD.2
  refine lv_aload_n hx hb dX13_init_26 rfl (lv_at hl 0 rfl) ?_
  refine lv_bipush (v := 20) hx hb dX13_init_27 (by decide) ?_
  refine r_newa X (atype := .int) (ty := .int) (t0 := 1) (N' := 20) (a0 := (20, .inl (fun _ => 0))) rfl w_207 rfl hP hD hS hA (fun _ => rfl) (by decide) (by decide) (Nat.le_of_ble_eq_true rfl) (Nat.le_of_ble_eq_true rfl) (Nat.le_of_ble_eq_true rfl) dX13_init_29 (fun q_3 H hP hD hS => ?_)
  have hPD := vPD (ws' := [(h0, .inr (12, [.int 0, .int 0, .int (-1), .null, .null, .ref q_1, .int 0, .int 0, .int 0, .int 0, .int 0, .int 0, .int 0, .int 0, .int 0, .long 0, .ref q_2, .null, .null, .null, .int 0, .int 0, .null, .null, .null, .int 0, .null, .int 0, .int 0, .int 0, .int 0])), (q_1, .inl (cy 0, 800, .inl ((fun _ => 0)))), (q_2, .inl (cy 1, 32, .inl ((fun _ => 0)))), (q_3, .inl (cy 1, 20, .inl ((fun _ => 0))))]) hP hD rfl
  have hP := hPD.1
  have hD := hPD.2
  refine r_putF X kcX13 (ci := 12) rfl hP hD hS hin 0 rfl 17 (by decide) w_1351 rfl rfl rfl rfl (Nat.le_of_ble_eq_true rfl) dX13_init_31 (fun H locs hP hD hS => ?_)
  have hPD := vPD (ws' := [(h0, .inr (12, [.int 0, .int 0, .int (-1), .null, .null, .ref q_1, .int 0, .int 0, .int 0, .int 0, .int 0, .int 0, .int 0, .int 0, .int 0, .long 0, .ref q_2, .ref q_3, .null, .null, .int 0, .int 0, .null, .null, .null, .int 0, .null, .int 0, .int 0, .int 0, .int 0])), (q_1, .inl (cy 0, 800, .inl ((fun _ => 0)))), (q_2, .inl (cy 1, 32, .inl ((fun _ => 0)))), (q_3, .inl (cy 1, 20, .inl ((fun _ => 0))))]) hP hD rfl
  have hP := hPD.1
  have hD := hPD.2
  refine lv_aload_n hx hb dX13_init_34 rfl (lv_at hl 0 rfl) ?_
  refine lv_sipush (v := 512) hx hb dX13_init_35 (by decide) ?_
  refine r_newa X (atype := .int) (ty := .int) (t0 := 1) (N' := 512) (a0 := (512, .inl (fun _ => 0))) rfl w_207 rfl hP hD hS hA (fun _ => rfl) (by decide) (by decide) (Nat.le_of_ble_eq_true rfl) (Nat.le_of_ble_eq_true rfl) (Nat.le_of_ble_eq_true rfl) dX13_init_38 (fun q_4 H hP hD hS => ?_)
  have hPD := vPD (ws' := [(h0, .inr (12, [.int 0, .int 0, .int (-1), .null, .null, .ref q_1, .int 0, .int 0, .int 0, .int 0, .int 0, .int 0, .int 0, .int 0, .int 0, .long 0, .ref q_2, .ref q_3, .null, .null, .int 0, .int 0, .null, .null, .null, .int 0, .null, .int 0, .int 0, .int 0, .int 0])), (q_1, .inl (cy 0, 800, .inl ((fun _ => 0)))), (q_2, .inl (cy 1, 32, .inl ((fun _ => 0)))), (q_3, .inl (cy 1, 20, .inl ((fun _ => 0)))), (q_4, .inl (cy 1, 512, .inl ((fun _ => 0))))]) hP hD rfl
  have hP := hPD.1
  have hD := hPD.2
  refine r_putF X kcX13 (ci := 12) rfl hP hD hS hin 0 rfl 18 (by decide) w_1352 rfl rfl rfl rfl (Nat.le_of_ble_eq_true rfl) dX13_init_40 (fun H locs hP hD hS => ?_)
  have hPD := vPD (ws' := [(h0, .inr (12, [.int 0, .int 0, .int (-1), .null, .null, .ref q_1, .int 0, .int 0, .int 0, .int 0, .int 0, .int 0, .int 0, .int 0, .int 0, .long 0, .ref q_2, .ref q_3, .ref q_4, .null, .int 0, .int 0, .null, .null, .null, .int 0, .null, .int 0, .int 0, .int 0, .int 0])), (q_1, .inl (cy 0, 800, .inl ((fun _ => 0)))), (q_2, .inl (cy 1, 32, .inl ((fun _ => 0)))), (q_3, .inl (cy 1, 20, .inl ((fun _ => 0)))), (q_4, .inl (cy 1, 512, .inl ((fun _ => 0))))]) hP hD rfl
  have hP := hPD.1
  have hD := hPD.2
  refine lv_aload_n hx hb dX13_init_43 rfl (lv_at hl 0 rfl) ?_
  refine lv_bipush (v := 96) hx hb dX13_init_44 (by decide) ?_
  refine r_newa X (atype := .int) (ty := .int) (t0 := 1) (N' := 96) (a0 := (96, .inl (fun _ => 0))) rfl w_207 rfl hP hD hS hA (fun _ => rfl) (by decide) (by decide) (Nat.le_of_ble_eq_true rfl) (Nat.le_of_ble_eq_true rfl) (Nat.le_of_ble_eq_true rfl) dX13_init_46 (fun q_5 H hP hD hS => ?_)
  have hPD := vPD (ws' := [(h0, .inr (12, [.int 0, .int 0, .int (-1), .null, .null, .ref q_1, .int 0, .int 0, .int 0, .int 0, .int 0, .int 0, .int 0, .int 0, .int 0, .long 0, .ref q_2, .ref q_3, .ref q_4, .null, .int 0, .int 0, .null, .null, .null, .int 0, .null, .int 0, .int 0, .int 0, .int 0])), (q_1, .inl (cy 0, 800, .inl ((fun _ => 0)))), (q_2, .inl (cy 1, 32, .inl ((fun _ => 0)))), (q_3, .inl (cy 1, 20, .inl ((fun _ => 0)))), (q_4, .inl (cy 1, 512, .inl ((fun _ => 0)))), (q_5, .inl (cy 1, 96, .inl ((fun _ => 0))))]) hP hD rfl
  have hP := hPD.1
  have hD := hPD.2
  refine r_putF X kcX13 (ci := 12) rfl hP hD hS hin 0 rfl 19 (by decide) w_1353 rfl rfl rfl rfl (Nat.le_of_ble_eq_true rfl) dX13_init_48 (fun H locs hP hD hS => ?_)
  have hPD := vPD (ws' := [(h0, .inr (12, [.int 0, .int 0, .int (-1), .null, .null, .ref q_1, .int 0, .int 0, .int 0, .int 0, .int 0, .int 0, .int 0, .int 0, .int 0, .long 0, .ref q_2, .ref q_3, .ref q_4, .ref q_5, .int 0, .int 0, .null, .null, .null, .int 0, .null, .int 0, .int 0, .int 0, .int 0])), (q_1, .inl (cy 0, 800, .inl ((fun _ => 0)))), (q_2, .inl (cy 1, 32, .inl ((fun _ => 0)))), (q_3, .inl (cy 1, 20, .inl ((fun _ => 0)))), (q_4, .inl (cy 1, 512, .inl ((fun _ => 0)))), (q_5, .inl (cy 1, 96, .inl ((fun _ => 0))))]) hP hD rfl
  have hP := hPD.1
  have hD := hPD.2
  refine lv_aload_n hx hb dX13_init_51 rfl (lv_at hl 0 rfl) ?_
  refine lv_bipush (v := 20) hx hb dX13_init_52 (by decide) ?_
  refine r_newa X (atype := .int) (ty := .int) (t0 := 1) (N' := 20) (a0 := (20, .inl (fun _ => 0))) rfl w_207 rfl hP hD hS hA (fun _ => rfl) (by decide) (by decide) (Nat.le_of_ble_eq_true rfl) (Nat.le_of_ble_eq_true rfl) (Nat.le_of_ble_eq_true rfl) dX13_init_54 (fun q_6 H hP hD hS => ?_)
  have hPD := vPD (ws' := [(h0, .inr (12, [.int 0, .int 0, .int (-1), .null, .null, .ref q_1, .int 0, .int 0, .int 0, .int 0, .int 0, .int 0, .int 0, .int 0, .int 0, .long 0, .ref q_2, .ref q_3, .ref q_4, .ref q_5, .int 0, .int 0, .null, .null, .null, .int 0, .null, .int 0, .int 0, .int 0, .int 0])), (q_1, .inl (cy 0, 800, .inl ((fun _ => 0)))), (q_2, .inl (cy 1, 32, .inl ((fun _ => 0)))), (q_3, .inl (cy 1, 20, .inl ((fun _ => 0)))), (q_4, .inl (cy 1, 512, .inl ((fun _ => 0)))), (q_5, .inl (cy 1, 96, .inl ((fun _ => 0)))), (q_6, .inl (cy 1, 20, .inl ((fun _ => 0))))]) hP hD rfl
  have hP := hPD.1
  have hD := hPD.2
  refine r_putF X kcX13 (ci := 12) rfl hP hD hS hin 0 rfl 22 (by decide) w_1356 rfl rfl rfl rfl (Nat.le_of_ble_eq_true rfl) dX13_init_56 (fun H locs hP hD hS => ?_)
  have hPD := vPD (ws' := [(h0, .inr (12, [.int 0, .int 0, .int (-1), .null, .null, .ref q_1, .int 0, .int 0, .int 0, .int 0, .int 0, .int 0, .int 0, .int 0, .int 0, .long 0, .ref q_2, .ref q_3, .ref q_4, .ref q_5, .int 0, .int 0, .ref q_6, .null, .null, .int 0, .null, .int 0, .int 0, .int 0, .int 0])), (q_1, .inl (cy 0, 800, .inl ((fun _ => 0)))), (q_2, .inl (cy 1, 32, .inl ((fun _ => 0)))), (q_3, .inl (cy 1, 20, .inl ((fun _ => 0)))), (q_4, .inl (cy 1, 512, .inl ((fun _ => 0)))), (q_5, .inl (cy 1, 96, .inl ((fun _ => 0)))), (q_6, .inl (cy 1, 20, .inl ((fun _ => 0))))]) hP hD rfl
  have hP := hPD.1
  have hD := hPD.2
  refine lv_aload_n hx hb dX13_init_59 rfl (lv_at hl 0 rfl) ?_
  refine lv_bipush (v := 20) hx hb dX13_init_60 (by decide) ?_
  refine r_newa X (atype := .int) (ty := .int) (t0 := 1) (N' := 20) (a0 := (20, .inl (fun _ => 0))) rfl w_207 rfl hP hD hS hA (fun _ => rfl) (by decide) (by decide) (Nat.le_of_ble_eq_true rfl) (Nat.le_of_ble_eq_true rfl) (Nat.le_of_ble_eq_true rfl) dX13_init_62 (fun q_7 H hP hD hS => ?_)
  have hPD := vPD (ws' := [(h0, .inr (12, [.int 0, .int 0, .int (-1), .null, .null, .ref q_1, .int 0, .int 0, .int 0, .int 0, .int 0, .int 0, .int 0, .int 0, .int 0, .long 0, .ref q_2, .ref q_3, .ref q_4, .ref q_5, .int 0, .int 0, .ref q_6, .null, .null, .int 0, .null, .int 0, .int 0, .int 0, .int 0])), (q_1, .inl (cy 0, 800, .inl ((fun _ => 0)))), (q_2, .inl (cy 1, 32, .inl ((fun _ => 0)))), (q_3, .inl (cy 1, 20, .inl ((fun _ => 0)))), (q_4, .inl (cy 1, 512, .inl ((fun _ => 0)))), (q_5, .inl (cy 1, 96, .inl ((fun _ => 0)))), (q_6, .inl (cy 1, 20, .inl ((fun _ => 0)))), (q_7, .inl (cy 1, 20, .inl ((fun _ => 0))))]) hP hD rfl
  have hP := hPD.1
  have hD := hPD.2
  refine r_putF X kcX13 (ci := 12) rfl hP hD hS hin 0 rfl 23 (by decide) w_1357 rfl rfl rfl rfl (Nat.le_of_ble_eq_true rfl) dX13_init_64 (fun H locs hP hD hS => ?_)
  have hPD := vPD (ws' := [(h0, .inr (12, [.int 0, .int 0, .int (-1), .null, .null, .ref q_1, .int 0, .int 0, .int 0, .int 0, .int 0, .int 0, .int 0, .int 0, .int 0, .long 0, .ref q_2, .ref q_3, .ref q_4, .ref q_5, .int 0, .int 0, .ref q_6, .ref q_7, .null, .int 0, .null, .int 0, .int 0, .int 0, .int 0])), (q_1, .inl (cy 0, 800, .inl ((fun _ => 0)))), (q_2, .inl (cy 1, 32, .inl ((fun _ => 0)))), (q_3, .inl (cy 1, 20, .inl ((fun _ => 0)))), (q_4, .inl (cy 1, 512, .inl ((fun _ => 0)))), (q_5, .inl (cy 1, 96, .inl ((fun _ => 0)))), (q_6, .inl (cy 1, 20, .inl ((fun _ => 0)))), (q_7, .inl (cy 1, 20, .inl ((fun _ => 0))))]) hP hD rfl
  have hP := hPD.1
  have hD := hPD.2
  refine lv_aload_n hx hb dX13_init_67 rfl (lv_at hl 0 rfl) ?_
  refine lv_sipush (v := 402) hx hb dX13_init_68 (by decide) ?_
  refine r_newa X (atype := .int) (ty := .int) (t0 := 1) (N' := 402) (a0 := (402, .inl (fun _ => 0))) rfl w_207 rfl hP hD hS hA (fun _ => rfl) (by decide) (by decide) (Nat.le_of_ble_eq_true rfl) (Nat.le_of_ble_eq_true rfl) (Nat.le_of_ble_eq_true rfl) dX13_init_71 (fun q_8 H hP hD hS => ?_)
  have hPD := vPD (ws' := [(h0, .inr (12, [.int 0, .int 0, .int (-1), .null, .null, .ref q_1, .int 0, .int 0, .int 0, .int 0, .int 0, .int 0, .int 0, .int 0, .int 0, .long 0, .ref q_2, .ref q_3, .ref q_4, .ref q_5, .int 0, .int 0, .ref q_6, .ref q_7, .null, .int 0, .null, .int 0, .int 0, .int 0, .int 0])), (q_1, .inl (cy 0, 800, .inl ((fun _ => 0)))), (q_2, .inl (cy 1, 32, .inl ((fun _ => 0)))), (q_3, .inl (cy 1, 20, .inl ((fun _ => 0)))), (q_4, .inl (cy 1, 512, .inl ((fun _ => 0)))), (q_5, .inl (cy 1, 96, .inl ((fun _ => 0)))), (q_6, .inl (cy 1, 20, .inl ((fun _ => 0)))), (q_7, .inl (cy 1, 20, .inl ((fun _ => 0)))), (q_8, .inl (cy 1, 402, .inl ((fun _ => 0))))]) hP hD rfl
  have hP := hPD.1
  have hD := hPD.2
  refine r_putF X kcX13 (ci := 12) rfl hP hD hS hin 0 rfl 24 (by decide) w_1358 rfl rfl rfl rfl (Nat.le_of_ble_eq_true rfl) dX13_init_73 (fun H locs hP hD hS => ?_)
  have hPD := vPD (ws' := [(h0, .inr (12, [.int 0, .int 0, .int (-1), .null, .null, .ref q_1, .int 0, .int 0, .int 0, .int 0, .int 0, .int 0, .int 0, .int 0, .int 0, .long 0, .ref q_2, .ref q_3, .ref q_4, .ref q_5, .int 0, .int 0, .ref q_6, .ref q_7, .ref q_8, .int 0, .null, .int 0, .int 0, .int 0, .int 0])), (q_1, .inl (cy 0, 800, .inl ((fun _ => 0)))), (q_2, .inl (cy 1, 32, .inl ((fun _ => 0)))), (q_3, .inl (cy 1, 20, .inl ((fun _ => 0)))), (q_4, .inl (cy 1, 512, .inl ((fun _ => 0)))), (q_5, .inl (cy 1, 96, .inl ((fun _ => 0)))), (q_6, .inl (cy 1, 20, .inl ((fun _ => 0)))), (q_7, .inl (cy 1, 20, .inl ((fun _ => 0)))), (q_8, .inl (cy 1, 402, .inl ((fun _ => 0))))]) hP hD rfl
  have hP := hPD.1
  have hD := hPD.2
  refine lv_aload_n hx hb dX13_init_76 rfl (lv_at hl 0 rfl) ?_
  refine lv_iconst (v := 5) hx hb dX13_init_77 (by decide) ?_
  refine r_newa X (atype := .int) (ty := .int) (t0 := 1) (N' := 5) (a0 := (5, .inl (fun _ => 0))) rfl w_207 rfl hP hD hS hA (fun _ => rfl) (by decide) (by decide) (Nat.le_of_ble_eq_true rfl) (Nat.le_of_ble_eq_true rfl) (Nat.le_of_ble_eq_true rfl) dX13_init_78 (fun q_9 H hP hD hS => ?_)
  have hPD := vPD (ws' := [(h0, .inr (12, [.int 0, .int 0, .int (-1), .null, .null, .ref q_1, .int 0, .int 0, .int 0, .int 0, .int 0, .int 0, .int 0, .int 0, .int 0, .long 0, .ref q_2, .ref q_3, .ref q_4, .ref q_5, .int 0, .int 0, .ref q_6, .ref q_7, .ref q_8, .int 0, .null, .int 0, .int 0, .int 0, .int 0])), (q_1, .inl (cy 0, 800, .inl ((fun _ => 0)))), (q_2, .inl (cy 1, 32, .inl ((fun _ => 0)))), (q_3, .inl (cy 1, 20, .inl ((fun _ => 0)))), (q_4, .inl (cy 1, 512, .inl ((fun _ => 0)))), (q_5, .inl (cy 1, 96, .inl ((fun _ => 0)))), (q_6, .inl (cy 1, 20, .inl ((fun _ => 0)))), (q_7, .inl (cy 1, 20, .inl ((fun _ => 0)))), (q_8, .inl (cy 1, 402, .inl ((fun _ => 0)))), (q_9, .inl (cy 1, 5, .inl ((fun _ => 0))))]) hP hD rfl
  have hP := hPD.1
  have hD := hPD.2
  refine r_putF X kcX13 (ci := 12) rfl hP hD hS hin 0 rfl 26 (by decide) w_1360 rfl rfl rfl rfl (Nat.le_of_ble_eq_true rfl) dX13_init_80 (fun H locs hP hD hS => ?_)
  have hPD := vPD (ws' := [(h0, .inr (12, [.int 0, .int 0, .int (-1), .null, .null, .ref q_1, .int 0, .int 0, .int 0, .int 0, .int 0, .int 0, .int 0, .int 0, .int 0, .long 0, .ref q_2, .ref q_3, .ref q_4, .ref q_5, .int 0, .int 0, .ref q_6, .ref q_7, .ref q_8, .int 0, .ref q_9, .int 0, .int 0, .int 0, .int 0])), (q_1, .inl (cy 0, 800, .inl ((fun _ => 0)))), (q_2, .inl (cy 1, 32, .inl ((fun _ => 0)))), (q_3, .inl (cy 1, 20, .inl ((fun _ => 0)))), (q_4, .inl (cy 1, 512, .inl ((fun _ => 0)))), (q_5, .inl (cy 1, 96, .inl ((fun _ => 0)))), (q_6, .inl (cy 1, 20, .inl ((fun _ => 0)))), (q_7, .inl (cy 1, 20, .inl ((fun _ => 0)))), (q_8, .inl (cy 1, 402, .inl ((fun _ => 0)))), (q_9, .inl (cy 1, 5, .inl ((fun _ => 0))))]) hP hD rfl
  have hP := hPD.1
  have hD := hPD.2
  exact eV hQ X hr hlocks hP hD hS (q_1, q_2, q_3, q_4, q_5, q_6, q_7, q_8, q_9) [0, 1, 2, 3, 4, 5, 6, 7, 8, 9] (by decide +kernel) rfl trivial (Nat.le_of_ble_eq_true rfl) (Nat.le_of_ble_eq_true rfl) dX13_init_83
end
section
/-- behind the bytes from lo to hi that stand together -/
def rnN (f : Nat → Int32) (n lo hi : Int) : Nat → Nat → Nat
  | 0, i => i
  | k + 1, i => if (i : Int) < n ∧ lo ≤ (f i).toInt ∧ (f i).toInt ≤ hi then rnN f n lo hi k (i + 1) else i
theorem rnN_succ (f : Nat → Int32) (n lo hi : Int) (k i : Nat) : rnN f n lo hi (k + 1) i = if (i : Int) < n ∧ lo ≤ (f i).toInt ∧ (f i).toInt ≤ hi then rnN f n lo hi k (i + 1) else i := rfl
theorem rnN_st {f : Nat → Int32} {n lo hi : Int} : ∀ (k i : Nat), n ≤ (i : Int) + (k : Int) → rnN f n lo hi (k + 1) i = rnN f n lo hi k i
  | 0, i, h => by
    rw [rnN_succ, if_neg (by omega)]
    rfl
  | k + 1, i, h => by
    rw [rnN_succ f n lo hi (k + 1) i, rnN_succ f n lo hi k i, rnN_st k (i + 1) (by omega)]
theorem rnN_ge {f : Nat → Int32} {n lo hi : Int} : ∀ (k i : Nat), i ≤ rnN f n lo hi k i
  | 0, i => Nat.le_refl _
  | k + 1, i => by
    rw [rnN_succ]
    split
    · exact Nat.le_trans (Nat.le_succ i) (rnN_ge k (i + 1))
    · exact Nat.le_refl _
theorem rnN_in {f : Nat → Int32} {n lo hi : Int} : ∀ (k i j : Nat), i ≤ j → j < rnN f n lo hi k i → (j : Int) < n ∧ lo ≤ (f j).toInt ∧ (f j).toInt ≤ hi
  | 0, i, j, h, h1 => absurd h1 (Nat.not_lt.mpr h)
  | k + 1, i, j, h, h1 => by
    rw [rnN_succ] at h1
    split at h1
    · rename_i hc
      rcases Nat.lt_or_eq_of_le h with h2 | h2
      · exact rnN_in k (i + 1) j h2 h1
      · subst h2; exact hc
    · exact absurd h1 (Nat.not_lt.mpr h)
def rn (f : Nat → Int32) (n lo hi i : Int) : Int := ((rnN f n lo hi 800 i.toNat : Nat) : Int)
theorem rn_eq {f : Nat → Int32} {n lo hi i : Int} (h0 : 0 ≤ i) (hn : n ≤ 800) : rn f n lo hi i = if i < n ∧ lo ≤ (f i.toNat).toInt ∧ (f i.toNat).toInt ≤ hi then rn f n lo hi (i + 1) else i := by
  have hi' : ((i.toNat : Nat) : Int) = i := by omega
  have h1 : rnN f n lo hi 800 i.toNat = if ((i.toNat : Nat) : Int) < n ∧ lo ≤ (f i.toNat).toInt ∧ (f i.toNat).toInt ≤ hi then rnN f n lo hi 800 (i.toNat + 1) else i.toNat := (rnN_st 800 i.toNat (by omega)).symm.trans (rnN_succ f n lo hi 800 i.toNat)
  have h2 : (i + 1).toNat = i.toNat + 1 := by omega
  rw [hi'] at h1
  unfold rn
  rw [h2, h1]
  by_cases hc : i < n ∧ lo ≤ (f i.toNat).toInt ∧ (f i.toNat).toInt ≤ hi
  · rw [if_pos hc, if_pos hc]
  · rw [if_neg hc, if_neg hc]; exact hi'
theorem rn_ge {f : Nat → Int32} {n lo hi i : Int} (h0 : 0 ≤ i) : i ≤ rn f n lo hi i := by
  have := rnN_ge (f := f) (n := n) (lo := lo) (hi := hi) 800 i.toNat
  unfold rn
  omega
theorem rn_in {f : Nat → Int32} {n lo hi i k : Int} (h0 : 0 ≤ i) (h1 : i ≤ k) (h2 : k < rn f n lo hi i) : k < n ∧ lo ≤ (f k.toNat).toInt ∧ (f k.toNat).toInt ≤ hi := by
  unfold rn at h2
  have h3 := rnN_in 800 i.toNat k.toNat (by omega) (show k.toNat < rnN f n lo hi 800 i.toNat by omega)
  rw [show ((k.toNat : Nat) : Int) = k by omega] at h3
  exact h3
theorem rn_up {f : Nat → Int32} {n lo hi i j : Int} (h0 : 0 ≤ i) (hn : n ≤ 800) (h1 : i < n) (h2 : lo ≤ (f i.toNat).toInt) (h3 : (f i.toNat).toInt ≤ hi) (hj : j = i + 1) : rn f n lo hi i = rn f n lo hi j := by
  rw [rn_eq h0 hn, if_pos ⟨h1, h2, h3⟩, hj]
theorem rn_no {f : Nat → Int32} {n lo hi i : Int} (h0 : 0 ≤ i) (hn : n ≤ 800) (h : ¬ (i < n ∧ lo ≤ (f i.toNat).toInt ∧ (f i.toNat).toInt ≤ hi)) : rn f n lo hi i = i := by
  rw [rn_eq h0 hn, if_neg h]
theorem rn_c {f : Nat → Int32} {n i r lo hi lo' hi' : Int} (h : r = rn f n lo hi i) (e1 : lo = lo') (e2 : hi = hi') : r = rn f n lo' hi' i := by
  subst e1 e2; exact h
/-- a token that is looked for from i on: where it starts, where it stops, its sort (0 bad, 1 word, 2 whole, 3 a semicolon, 4 the end) -/
def tS (f : Nat → Int32) (n i : Int) : Int := rn f n 32 32 i
def tE (f : Nat → Int32) (n i : Int) : Int := if n ≤ tS f n i then tS f n i else if tS f n i < rn f n 97 122 (tS f n i) then rn f n 97 122 (tS f n i) else if tS f n i < rn f n 48 57 (tS f n i) then rn f n 48 57 (tS f n i) else tS f n i + 1
def tK (f : Nat → Int32) (n i : Int) : Int := if n ≤ tS f n i then 4 else if tS f n i < rn f n 97 122 (tS f n i) then (if rn f n 97 122 (tS f n i) - tS f n i ≤ 8 then 1 else 0) else if tS f n i < rn f n 48 57 (tS f n i) then (if rn f n 48 57 (tS f n i) - tS f n i ≤ 3 then 2 else 0) else if (f (tS f n i).toNat).toInt = 59 then 3 else 0
theorem tS_ge {f : Nat → Int32} {n i : Int} (h0 : 0 ≤ i) : i ≤ tS f n i := rn_ge h0
/-- a word's letters -/
theorem tK_w {f : Nat → Int32} {n i : Int} (h0 : 0 ≤ i) (h : tK f n i = 1) : tE f n i - tS f n i ≤ 8 ∧ tS f n i < tE f n i ∧ ∀ k : Int, tS f n i ≤ k → k < tE f n i → k < n ∧ 97 ≤ (f k.toNat).toInt ∧ (f k.toNat).toInt ≤ 122 := by
  have h1 := tS_ge (f := f) (n := n) h0
  have h2 : ¬ n ≤ tS f n i ∧ tS f n i < rn f n 97 122 (tS f n i) ∧ rn f n 97 122 (tS f n i) - tS f n i ≤ 8 := by
    unfold tK at h
    by_cases a1 : n ≤ tS f n i
    · rw [if_pos a1] at h; omega
    · rw [if_neg a1] at h
      by_cases a2 : tS f n i < rn f n 97 122 (tS f n i)
      · rw [if_pos a2] at h
        by_cases a3 : rn f n 97 122 (tS f n i) - tS f n i ≤ 8
        · exact ⟨a1, a2, a3⟩
        · rw [if_neg a3] at h; omega
      · rw [if_neg a2] at h
        exfalso
        revert h
        (repeat' split) <;> omega
  have h3 : tE f n i = rn f n 97 122 (tS f n i) := by
    unfold tE
    rw [if_neg h2.1, if_pos h2.2.1]
  rw [h3]
  exact ⟨h2.2.2, h2.2.1, fun k k1 k2 => rn_in (by omega) k1 k2⟩
theorem tK_n {f : Nat → Int32} {n i : Int} (h0 : 0 ≤ i) (h : tK f n i = 2) : tE f n i - tS f n i ≤ 3 ∧ tS f n i < tE f n i ∧ ∀ k : Int, tS f n i ≤ k → k < tE f n i → k < n ∧ 48 ≤ (f k.toNat).toInt ∧ (f k.toNat).toInt ≤ 57 := by
  have h1 := tS_ge (f := f) (n := n) h0
  have h2 : ¬ n ≤ tS f n i ∧ ¬ tS f n i < rn f n 97 122 (tS f n i) ∧ tS f n i < rn f n 48 57 (tS f n i) ∧ rn f n 48 57 (tS f n i) - tS f n i ≤ 3 := by
    unfold tK at h
    by_cases a1 : n ≤ tS f n i
    · rw [if_pos a1] at h; omega
    · rw [if_neg a1] at h
      by_cases a2 : tS f n i < rn f n 97 122 (tS f n i)
      · rw [if_pos a2] at h
        exfalso
        revert h
        split <;> omega
      · rw [if_neg a2] at h
        by_cases a3 : tS f n i < rn f n 48 57 (tS f n i)
        · rw [if_pos a3] at h
          by_cases a4 : rn f n 48 57 (tS f n i) - tS f n i ≤ 3
          · exact ⟨a1, a2, a3, a4⟩
          · rw [if_neg a4] at h; omega
        · rw [if_neg a3] at h
          exfalso
          revert h
          split <;> omega
  have h3 : tE f n i = rn f n 48 57 (tS f n i) := by
    unfold tE
    rw [if_neg h2.1, if_neg h2.2.1, if_pos h2.2.2.1]
  rw [h3]
  exact ⟨h2.2.2.2, h2.2.2.1, fun k k1 k2 => rn_in (by omega) k1 k2⟩
/-- the class looks at the token from j on -/
def LkC (f : Nat → Int32) (n j tok st sp : Int) : Prop := 0 ≤ j ∧ tok = tK f n j ∧ st = tS f n j ∧ sp = tE f n j
theorem nx {f : Nat → Int32} {n i s a d mx sp tok : Int} (h0 : 0 ≤ i) (hn : n ≤ 800) (hs : s = rn f n 32 32 i) (ha : a = rn f n 97 122 s) (hd : d = rn f n 48 57 s) (hmx : a - s ≤ mx ∧ d - s ≤ mx ∧ (mx = a - s ∨ mx = d - s))
    (hc : (n ≤ s ∧ tok = 4 ∧ sp = s + mx) ∨ (s < n ∧ 0 < a - s ∧ sp = s + mx ∧ ((a - s ≤ 8 ∧ tok = 1) ∨ (8 < a - s ∧ tok = 0))) ∨ (s < n ∧ a - s ≤ 0 ∧ 0 < d - s ∧ sp = s + mx ∧ ((d - s ≤ 3 ∧ tok = 2) ∨ (3 < d - s ∧ tok = 0))) ∨ (s < n ∧ a - s ≤ 0 ∧ d - s ≤ 0 ∧ sp = s + 1 ∧ (((f s.toNat).toInt = 59 ∧ tok = 3) ∨ ((f s.toNat).toInt ≠ 59 ∧ tok = 0)))) : LkC f n i tok s sp := by
  have hs' : tS f n i = s := hs.symm
  have h1 : i ≤ s := by rw [hs]; exact rn_ge h0
  have h2 : s ≤ a := by rw [ha]; exact rn_ge (by omega)
  have h3 : s ≤ d := by rw [hd]; exact rn_ge (by omega)
  refine ⟨h0, ?_⟩
  unfold tK tE
  rw [hs', ← ha, ← hd]
  rcases hc with ⟨c1, c2, c3⟩ | ⟨c1, c2, c3, c4⟩ | ⟨c1, c2, c3, c4, c5⟩ | ⟨c1, c2, c3, c4, c5⟩
  · have e1 : a = s := by rw [ha]; exact rn_no (by omega) hn (fun q => by omega)
    have e2 : d = s := by rw [hd]; exact rn_no (by omega) hn (fun q => by omega)
    rw [if_pos c1, if_pos c1]
    exact ⟨c2, rfl, by omega⟩
  · have q1 := rn_in (f := f) (n := n) (lo := 97) (hi := 122) (i := s) (k := s) (by omega) (Int.le_refl _) (by omega)
    have e2 : d = s := by rw [hd]; exact rn_no (by omega) hn (fun q => by omega)
    rw [if_neg (show ¬ n ≤ s by omega), if_neg (show ¬ n ≤ s by omega), if_pos (show s < a by omega), if_pos (show s < a by omega)]
    refine ⟨?_, rfl, by omega⟩
    split <;> omega
  · rw [if_neg (show ¬ n ≤ s by omega), if_neg (show ¬ n ≤ s by omega), if_neg (show ¬ s < a by omega), if_neg (show ¬ s < a by omega), if_pos (show s < d by omega), if_pos (show s < d by omega)]
    refine ⟨?_, rfl, by omega⟩
    split <;> omega
  · rw [if_neg (show ¬ n ≤ s by omega), if_neg (show ¬ n ≤ s by omega), if_neg (show ¬ s < a by omega), if_neg (show ¬ s < a by omega), if_neg (show ¬ s < d by omega), if_neg (show ¬ s < d by omega)]
    refine ⟨?_, rfl, by omega⟩
    split <;> omega
/-- digits, letters as numbers -/
def nmI (f : Nat → Int32) (s : Nat) : Nat → Int
  | 0 => 0
  | k + 1 => 10 * nmI f s k + ((f (s + k)).toInt - 48)
def cdI (f : Nat → Int32) (s : Nat) : Nat → Int
  | 0 => 0
  | k + 1 => 32 * cdI f s k + ((f (s + k)).toInt - 96)
theorem nm_bd {f : Nat → Int32} {s : Nat} : ∀ (k : Nat), (∀ j, j < k → 48 ≤ (f (s + j)).toInt ∧ (f (s + j)).toInt ≤ 57) → 0 ≤ nmI f s k ∧ (k ≤ 3 → nmI f s k ≤ 999) ∧ (k ≤ 2 → nmI f s k ≤ 99) ∧ (k ≤ 1 → nmI f s k ≤ 9) ∧ (k ≤ 0 → nmI f s k = 0)
  | 0, _ => by unfold nmI; omega
  | k + 1, h => by
    have h1 := nm_bd k (fun j hj => h j (by omega))
    have h2 := h k (by omega)
    unfold nmI
    omega
theorem cd_bd {f : Nat → Int32} {s : Nat} : ∀ (k : Nat), (∀ j, j < k → 97 ≤ (f (s + j)).toInt ∧ (f (s + j)).toInt ≤ 122) → 0 ≤ cdI f s k ∧ cdI f s k < ((32 ^ k : Nat) : Int)
  | 0, _ => by show (0 : Int) ≤ 0 ∧ (0 : Int) < ((32 ^ 0 : Nat) : Int); decide
  | k + 1, h => by
    have h1 := cd_bd k (fun j hj => h j (by omega))
    have h2 := h k (by omega)
    have h3 : (32 : Nat) ^ (k + 1) = 32 ^ k * 32 := Nat.pow_succ ..
    rw [h3]
    unfold cdI
    omega
/-- unlike words have unlike numbers -/
theorem cd_inj {f g : Nat → Int32} {s t : Nat} : ∀ (k m : Nat), (∀ j, j < k → 97 ≤ (f (s + j)).toInt ∧ (f (s + j)).toInt ≤ 122) → (∀ j, j < m → 97 ≤ (g (t + j)).toInt ∧ (g (t + j)).toInt ≤ 122) → cdI f s k = cdI g t m → k = m ∧ ∀ j, j < k → (f (s + j)).toInt = (g (t + j)).toInt
  | 0, 0, _, _, _ => ⟨rfl, fun j hj => absurd hj (Nat.not_lt_zero j)⟩
  | 0, m + 1, _, hg, e => by
    have h1 := cd_bd m (fun j hj => hg j (by omega))
    have h2 := hg m (by omega)
    unfold cdI at e
    omega
  | k + 1, 0, hf, _, e => by
    have h1 := cd_bd k (fun j hj => hf j (by omega))
    have h2 := hf k (by omega)
    unfold cdI at e
    omega
  | k + 1, m + 1, hf, hg, e => by
    have h2 := hf k (by omega)
    have h4 := hg m (by omega)
    unfold cdI at e
    have e1 : cdI f s k = cdI g t m := by omega
    obtain ⟨hk, hj⟩ := cd_inj k m (fun j hj => hf j (by omega)) (fun j hj => hg j (by omega)) e1
    subst hk
    refine ⟨rfl, fun j hj' => ?_⟩
    rcases Nat.lt_or_eq_of_le (Nat.le_of_lt_succ hj') with h | h
    · exact hj j h
    · subst h; omega
theorem cd_eq {f g : Nat → Int32} {s t : Nat} : ∀ (k : Nat), (∀ j, j < k → (f (s + j)).toInt = (g (t + j)).toInt) → cdI f s k = cdI g t k
  | 0, _ => rfl
  | k + 1, h => by
    unfold cdI
    rw [cd_eq k (fun j hj => h j (by omega)), h k (by omega)]
/-- a whole's number, a word's -/
def tN (f : Nat → Int32) (n i : Int) : Int := nmI f (tS f n i).toNat (tE f n i - tS f n i).toNat
def tC (f : Nat → Int32) (n i : Int) : Int := cdI f (tS f n i).toNat (tE f n i - tS f n i).toNat
/-- the token is this word -/
def isWd (f : Nat → Int32) (tok st sp : Int) (sn : Nat) (sf : Nat → Int32) : Prop := tok = 1 ∧ sp - st = (sn : Int) ∧ ∀ k : Nat, k < sn → (f (st.toNat + k)).toInt = (sf k).toInt
def isW (f : Nat → Int32) (n : Int) (sn : Nat) (sf : Nat → Int32) (j : Int) : Prop := isWd f (tK f n j) (tS f n j) (tE f n j) sn sf
/-- by its number -/
theorem isW_cd {f : Nat → Int32} {n : Int} {sn : Nat} {sf : Nat → Int32} {j : Int} (h0 : 0 ≤ j) (hs : ∀ k, k < sn → 97 ≤ (sf k).toInt ∧ (sf k).toInt ≤ 122) : isW f n sn sf j ↔ tK f n j = 1 ∧ tC f n j = cdI sf 0 sn := by
  constructor
  · intro h
    obtain ⟨h1, h2, h3⟩ := h
    refine ⟨h1, ?_⟩
    unfold tC
    rw [show (tE f n j - tS f n j).toNat = sn by omega]
    exact cd_eq sn (fun k hk => by rw [Nat.zero_add]; exact h3 k hk)
  · intro h
    obtain ⟨h1, h2⟩ := h
    obtain ⟨a1, a2, a3⟩ := tK_w h0 h1
    have h4 := tS_ge (f := f) (n := n) h0
    unfold tC at h2
    obtain ⟨b1, b2⟩ := cd_inj _ _ (fun k hk => by
      have := a3 (tS f n j + k) (by omega) (by omega)
      rw [show (tS f n j + (k : Int)).toNat = (tS f n j).toNat + k by omega] at this
      exact this.2) (fun k hk => by rw [Nat.zero_add]; exact hs k hk) h2
    refine ⟨h1, by omega, fun k hk => ?_⟩
    have := b2 k (by omega)
    rw [Nat.zero_add] at this
    exact this
/-- what is noted, and from where on is looked: (0, j) the token from j on; (k, j) the fault k at it -/
def fl (k : Int) (σ : Int × Int) : Int × Int := if σ.1 = 0 then (k, σ.2) else σ
def go (f : Nat → Int32) (n : Int) (σ : Int × Int) : Int × Int := if σ.1 = 0 then (0, tE f n σ.2) else σ
noncomputable def wd1 (f : Nat → Int32) (n : Int) (sn : Nat) (sf : Nat → Int32) (σ : Int × Int) : Int × Int := @ite _ (isW f n sn sf σ.2) (Classical.propDecidable _) σ (fl 1 σ)
noncomputable def nd (f : Nat → Int32) (n : Int) (sn : Nat) (sf : Nat → Int32) (σ : Int × Int) : Int × Int := go f n (wd1 f n sn sf σ)
def wa (f : Nat → Int32) (n lo hi : Int) (σ : Int × Int) : Int × Int := if tK f n σ.2 ≠ 2 then fl 1 σ else if tN f n σ.2 < lo ∨ hi < tN f n σ.2 then fl 4 σ else σ
def rW (f : Nat → Int32) (n lo hi : Int) (σ : Int × Int) : Int × Int := go f n (wa f n lo hi σ)
noncomputable def rP (f : Nat → Int32) (n : Int) (sn : Nat) (sf : Nat → Int32) (lo hi : Int) (σ : Int × Int) : Int × Int := rW f n lo hi (nd f n sn sf σ)
theorem pn {k x : Int} (h : k ≠ 0) : (k, x).1 ≠ 0 := h
theorem fl_o {k : Int} {σ : Int × Int} (h : σ.1 ≠ 0) : fl k σ = σ := if_neg h
theorem fl_z {k : Int} {σ : Int × Int} (h : σ.1 = 0) : fl k σ = (k, σ.2) := if_pos h
theorem go_o {f : Nat → Int32} {n : Int} {σ : Int × Int} (h : σ.1 ≠ 0) : go f n σ = σ := if_neg h
theorem go_z {f : Nat → Int32} {n : Int} {σ : Int × Int} (h : σ.1 = 0) : go f n σ = (0, tE f n σ.2) := if_pos h
theorem wd1_o {f : Nat → Int32} {n : Int} {sn : Nat} {sf : Nat → Int32} {σ : Int × Int} (h : σ.1 ≠ 0) : wd1 f n sn sf σ = σ := by
  unfold wd1
  by_cases hw : isW f n sn sf σ.2
  · rw [if_pos hw]
  · rw [if_neg hw, fl_o h]
theorem wd1_y {f : Nat → Int32} {n : Int} {sn : Nat} {sf : Nat → Int32} {σ : Int × Int} (h : isW f n sn sf σ.2) : wd1 f n sn sf σ = σ := by
  unfold wd1
  rw [if_pos h]
theorem wd1_n {f : Nat → Int32} {n : Int} {sn : Nat} {sf : Nat → Int32} {σ : Int × Int} (h : ¬ isW f n sn sf σ.2) : wd1 f n sn sf σ = fl 1 σ := by
  unfold wd1
  rw [if_neg h]
theorem nd_o {f : Nat → Int32} {n : Int} {sn : Nat} {sf : Nat → Int32} {σ : Int × Int} (h : σ.1 ≠ 0) : nd f n sn sf σ = σ := by
  unfold nd
  rw [wd1_o h, go_o h]
theorem wa_o {f : Nat → Int32} {n lo hi : Int} {σ : Int × Int} (h : σ.1 ≠ 0) : wa f n lo hi σ = σ := by
  unfold wa
  rw [fl_o h, fl_o h]
  (repeat' split) <;> rfl
theorem rW_o {f : Nat → Int32} {n lo hi : Int} {σ : Int × Int} (h : σ.1 ≠ 0) : rW f n lo hi σ = σ := by
  unfold rW
  rw [wa_o h, go_o h]
theorem rP_o {f : Nat → Int32} {n : Int} {sn : Nat} {sf : Nat → Int32} {lo hi : Int} {σ : Int × Int} (h : σ.1 ≠ 0) : rP f n sn sf lo hi σ = σ := by
  unfold rP
  rw [nd_o h, rW_o h]
/-- what a reading method of the class leaves -/
def OcC (f : Nat → Int32) (n : Int) (σ : Int × Int) (r tok st sp fa fat : Int) : Prop := (r = 1 ∧ σ.1 = 0 ∧ LkC f n σ.2 tok st sp) ∨ (r = 0 ∧ σ.1 ≠ 0 ∧ fa = σ.1 ∧ fat = tS f n σ.2)
end
section
/-- a text of small letters -/
def asc (sn : Nat) (sf : Nat → Int32) : Prop := ∀ k, k < sn → 97 ≤ (sf k).toInt ∧ (sf k).toInt ≤ 122
/-- a text's letter -/
def ch1 (sf : Nat → Int32) (i r : Int) : Prop := 0 ≤ (sf i.toNat).toInt → (sf i.toNat).toInt ≤ 127 → r = (sf i.toNat).toInt
theorem i32_nat {x : Int32} (h0 : 0 ≤ x.toInt) : x = Int32.ofNat x.toInt.toNat := by
  have h1 := ti_bd x
  apply Int32.toInt_inj.mp
  rw [Int32.toInt_ofNat_of_lt (by omega)]
  omega
theorem ch_id {x y z : Int32} (e1 : y = x &&& 255) (e2 : (y.toUInt32 % 65536).toInt32 = z) (h0 : 0 ≤ x.toInt) (h1 : x.toInt ≤ 127) : z.toInt = x.toInt := by
  have key : ∀ n : Fin 128, (((Int32.ofNat n.val &&& 255).toUInt32 % 65536).toInt32).toInt = (Int32.ofNat n.val).toInt := by decide +kernel
  have h2 := key ⟨x.toInt.toNat, by omega⟩
  rw [← i32_nat h0] at h2
  rw [← e2, e1]
  exact h2
theorem ch_b {x y : Int32} (e : x.toInt8.toInt32 = y) (h0 : 0 ≤ x.toInt) (h1 : x.toInt ≤ 127) : y.toInt = x.toInt := by
  have key : ∀ n : Fin 128, ((Int32.ofNat n.val).toInt8.toInt32).toInt = (Int32.ofNat n.val).toInt := by decide +kernel
  have h2 := key ⟨x.toInt.toNat, by omega⟩
  rw [← i32_nat h0] at h2
  rw [← e]
  exact h2
theorem ch_c {x y : Int32} (e : (x.toUInt32 % 65536).toInt32 = y) (h0 : 0 ≤ x.toInt) (h1 : x.toInt ≤ 127) : y.toInt = x.toInt := by
  have key : ∀ n : Fin 128, (((Int32.ofNat n.val).toUInt32 % 65536).toInt32).toInt = (Int32.ofNat n.val).toInt := by decide +kernel
  have h2 := key ⟨x.toInt.toNat, by omega⟩
  rw [← i32_nat h0] at h2
  rw [← e]
  exact h2
theorem ch1_of {sf : Nat → Int32} {i x y z : Int32} (e0 : sf (Int32.toNatClampNeg i) = x) (e1 : y = x &&& 255) (e2 : (y.toUInt32 % 65536).toInt32 = z) : ch1 sf i.toInt z.toInt := by
  intro h0 h1
  have e : sf i.toInt.toNat = x := e0
  rw [e] at h0 h1 ⊢
  exact ch_id e1 e2 h0 h1
/-- the letters ahead of i are the text's -/
def wpre (f : Nat → Int32) (st : Int) (sf : Nat → Int32) (i : Int) : Prop := ∀ k : Nat, (k : Int) < i → (f (st.toNat + k)).toInt = (sf k).toInt
theorem wpre_0 {f : Nat → Int32} {st : Int} {sf : Nat → Int32} : wpre f st sf 0 := fun k hk => by omega
theorem rd_st {f : Nat → Int32} {st i : Int} {a x : Int32} (h0 : 0 ≤ i) (hs : 0 ≤ st) (e1 : a.toInt = st + i) (ex : x = f a.toNatClampNeg) : (f (st.toNat + i.toNat)).toInt = x.toInt := by
  have e2 : a.toNatClampNeg = a.toInt.toNat := rfl
  rw [ex, e2, e1, show (st + i).toNat = st.toNat + i.toNat by omega]
theorem ch1_at {sn : Nat} {sf : Nat → Int32} {i r : Int} (ha : asc sn sf) (h0 : 0 ≤ i) (h1 : i < (sn : Int)) (hr : ch1 sf i r) : r = (sf i.toNat).toInt := by
  have := ha i.toNat (by omega)
  exact hr (by omega) (by omega)
theorem wpre_up {f : Nat → Int32} {st : Int} {sn : Nat} {sf : Nat → Int32} {i a x r : Int32} {i' : Int} (h : wpre f st sf i.toInt) (ha : asc sn sf) (h0 : 0 ≤ i.toInt) (h1 : i.toInt < (sn : Int)) (hs : 0 ≤ st) (e1 : a.toInt = st + i.toInt) (ex : x = f a.toNatClampNeg) (hr : ch1 sf i.toInt r.toInt) (heq : x.toInt = r.toInt) (e : i' = i.toInt + 1) : wpre f st sf i' := by
  intro k hk
  by_cases hc : (k : Int) < i.toInt
  · exact h k hc
  · have hk' : k = i.toInt.toNat := by omega
    subst hk'
    rw [rd_st h0 hs e1 ex, heq]
    exact ch1_at ha h0 h1 hr
theorem wd_mis {f : Nat → Int32} {tok st sp : Int} {sn : Nat} {sf : Nat → Int32} {i a x r : Int32} (ha : asc sn sf) (h0 : 0 ≤ i.toInt) (h1 : i.toInt < (sn : Int)) (hs : 0 ≤ st) (e1 : a.toInt = st + i.toInt) (ex : x = f a.toNatClampNeg) (hr : ch1 sf i.toInt r.toInt) (hne : x.toInt ≠ r.toInt) : ¬ isWd f tok st sp sn sf := by
  intro hw
  have h2 := hw.2.2 i.toInt.toNat (by omega)
  rw [rd_st h0 hs e1 ex] at h2
  exact hne (h2.trans (ch1_at ha h0 h1 hr).symm)
/-- what isWord of the class says -/
def wdP (f : Nat → Int32) (tok st sp : Int) (sn : Nat) (sf : Nat → Int32) (r : Int) : Prop := asc sn sf → ((r = 1 ∧ isWd f tok st sp sn sf) ∨ (r = 0 ∧ ¬ isWd f tok st sp sn sf))
theorem wdP.no {f : Nat → Int32} {tok st sp : Int} {sn : Nat} {sf : Nat → Int32} {r : Int} (h : wdP f tok st sp sn sf r) (ha : asc sn sf) (hr : r = 0) : ¬ isWd f tok st sp sn sf := by
  rcases h ha with q | q
  · omega
  · exact q.2
theorem wdP.yes {f : Nat → Int32} {tok st sp : Int} {sn : Nat} {sf : Nat → Int32} {r : Int} (h : wdP f tok st sp sn sf r) (ha : asc sn sf) (hr : r ≠ 0) : isWd f tok st sp sn sf := by
  rcases h ha with q | q
  · exact q.2
  · omega
theorem LkC.wd {f : Nat → Int32} {n j tok st sp : Int} {sn : Nat} {sf : Nat → Int32} (h : LkC f n j tok st sp) : isWd f tok st sp sn sf ↔ isW f n sn sf j := by
  obtain ⟨-, h1, h2, h3⟩ := h
  subst h1 h2 h3
  exact Iff.rfl
/-- readWord of the class -/
def qW (f : Nat → Int32) (n : Int) (sn : Nat) (sf : Nat → Int32) (tok st sp r tok1 st1 sp1 fa fat : Int) : Prop := ∀ σ : Int × Int, σ.1 = 0 → asc sn sf → LkC f n σ.2 tok st sp → OcC f n (nd f n sn sf σ) r tok1 st1 sp1 fa fat
theorem qW_n {f : Nat → Int32} {n : Int} {sn : Nat} {sf : Nat → Int32} {tok st sp rw9 r tok1 st1 sp1 fa fat : Int} (hw : wdP f tok st sp sn sf rw9) (h9 : rw9 = 0) (h1 : r = 0) (hf : fa = 1) (ht : fat = st) : qW f n sn sf tok st sp r tok1 st1 sp1 fa fat := by
  intro σ hσ ha hk
  have h2 := hw.no ha h9
  rw [hk.wd] at h2
  refine Or.inr ⟨h1, ?_⟩
  unfold nd
  rw [wd1_n h2, fl_z hσ, go_o (pn (show (1 : Int) ≠ 0 by decide))]
  exact ⟨pn (by decide), hf, ht.trans hk.2.2.1⟩
theorem qW_y {f : Nat → Int32} {n : Int} {sn : Nat} {sf : Nat → Int32} {tok st sp rw9 r tok1 st1 sp1 fa fat : Int} (hw : wdP f tok st sp sn sf rw9) (h9 : rw9 ≠ 0) (h1 : r = 1) (hn : LkC f n sp tok1 st1 sp1) : qW f n sn sf tok st sp r tok1 st1 sp1 fa fat := by
  intro σ hσ ha hk
  have h2 := hw.yes ha h9
  rw [hk.wd] at h2
  refine Or.inl ⟨h1, ?_⟩
  unfold nd
  rw [wd1_y h2, go_z hσ]
  refine ⟨rfl, ?_⟩
  have h3 : sp = tE f n σ.2 := hk.2.2.2
  rw [← h3]
  exact hn
/-- digits -/
def dgs (f : Nat → Int32) (st sp : Int) : Prop := sp - st ≤ 3 ∧ ∀ k : Int, st ≤ k → k < sp → 48 ≤ (f k.toNat).toInt ∧ (f k.toNat).toInt ≤ 57
theorem dgs_nat {f : Nat → Int32} {st sp : Int} (hd : dgs f st sp) (h0 : 0 ≤ st) {m : Nat} (hm : st + (m : Int) ≤ sp) : ∀ j, j < m → 48 ≤ (f (st.toNat + j)).toInt ∧ (f (st.toNat + j)).toInt ≤ 57 := fun j hj => by
  have := hd.2 (st + j) (by omega) (by omega)
  rw [show (st + (j : Int)).toNat = st.toNat + j by omega] at this
  exact this
theorem nm_up {f : Nat → Int32} {st sp i' : Int} {nu i b x y v : Int32} (hd : dgs f st sp) (hn : nu.toInt = nmI f st.toNat (i.toInt - st).toNat) (h0 : 0 ≤ st) (h1 : st ≤ i.toInt) (h2 : i.toInt < sp) (e1 : x = nu * 10) (eb : b = f i.toNatClampNeg) (e2 : y = x + b) (e3 : v = y - 48) (hi : i' = i.toInt + 1) : v.toInt = nmI f st.toNat (i' - st).toNat := by
  have hl := hd.1
  have g1 := nm_bd (f := f) (s := st.toNat) (i.toInt - st).toNat (dgs_nat hd h0 (by omega))
  have g2 := hd.2 i.toInt h1 h2
  have e4 : (f i.toInt.toNat).toInt = b.toInt := by rw [eb]; rfl
  have t1 : x.toInt = nu.toInt * 10 := ti_mulk (A := nu.toInt) (B := 10) e1 rfl (by decide) (by omega) (by omega)
  have t2 : y.toInt = nu.toInt * 10 + b.toInt := ti_add (A := nu.toInt * 10) (B := b.toInt) e2 t1 rfl (by omega) (by omega)
  have t3 : v.toInt = nu.toInt * 10 + b.toInt - 48 := ti_sub (A := nu.toInt * 10 + b.toInt) (B := 48) e3 t2 (by decide) (by omega) (by omega)
  rw [show (i' - st).toNat = (i.toInt - st).toNat + 1 by omega]
  show _ = 10 * nmI f st.toNat (i.toInt - st).toNat + ((f (st.toNat + (i.toInt - st).toNat)).toInt - 48)
  rw [show st.toNat + (i.toInt - st).toNat = i.toInt.toNat by omega]
  omega
theorem LkC.dg {f : Nat → Int32} {n j tok st sp : Int} (h : LkC f n j tok st sp) (ht : tok = 2) : dgs f st sp := by
  obtain ⟨h0, h1, h2, h3⟩ := h
  subst h1 h2 h3
  obtain ⟨a1, a2, a3⟩ := tK_n h0 ht
  exact ⟨a1, fun k k1 k2 => (a3 k k1 k2).2⟩
/-- readWhole of the class -/
def qN (f : Nat → Int32) (n lo hi tok st sp r num1 tok1 st1 sp1 fa fat : Int) : Prop := ∀ σ : Int × Int, σ.1 = 0 → LkC f n σ.2 tok st sp → OcC f n (rW f n lo hi σ) r tok1 st1 sp1 fa fat ∧ (r = 1 → num1 = tN f n σ.2)
theorem qN_1 {f : Nat → Int32} {n lo hi tok st sp r num1 tok1 st1 sp1 fa fat : Int} (ht : tok ≠ 2) (h1 : r = 0) (hf : fa = 1) (hs : fat = st) : qN f n lo hi tok st sp r num1 tok1 st1 sp1 fa fat := by
  intro σ hσ hk
  have h2 : tK f n σ.2 ≠ 2 := by rw [← hk.2.1]; exact ht
  refine ⟨Or.inr ⟨h1, ?_⟩, fun q => by omega⟩
  unfold rW wa
  rw [if_pos h2, fl_z hσ, go_o (pn (show (1 : Int) ≠ 0 by decide))]
  exact ⟨pn (by decide), hf, hs.trans hk.2.2.1⟩
theorem LkC.num {f : Nat → Int32} {n j tok st sp nu : Int} (h : LkC f n j tok st sp) (hn : nu = nmI f st.toNat (sp - st).toNat) : nu = tN f n j := by
  obtain ⟨-, h1, h2, h3⟩ := h
  subst h1 h2 h3
  exact hn
theorem qN_4 {f : Nat → Int32} {n lo hi tok st sp r num1 tok1 st1 sp1 fa fat nu : Int} (ht : tok = 2) (hn : dgs f st sp → nu = nmI f st.toNat (sp - st).toNat) (hb : nu < lo ∨ hi < nu) (h1 : r = 0) (hf : fa = 4) (hs : fat = st) : qN f n lo hi tok st sp r num1 tok1 st1 sp1 fa fat := by
  intro σ hσ hk
  have h2 : ¬ tK f n σ.2 ≠ 2 := by rw [← hk.2.1]; exact fun q => q ht
  have h3 := hk.num (hn (hk.dg ht))
  refine ⟨Or.inr ⟨h1, ?_⟩, fun q => by omega⟩
  unfold rW wa
  rw [if_neg h2, if_pos (by rw [← h3]; exact hb), fl_z hσ, go_o (pn (show (4 : Int) ≠ 0 by decide))]
  exact ⟨pn (by decide), hf, hs.trans hk.2.2.1⟩
theorem qN_y {f : Nat → Int32} {n lo hi tok st sp r tok1 st1 sp1 fa fat nu : Int} (ht : tok = 2) (hn : dgs f st sp → nu = nmI f st.toNat (sp - st).toNat) (hb : ¬ (nu < lo ∨ hi < nu)) (h1 : r = 1) (hx : LkC f n sp tok1 st1 sp1) : qN f n lo hi tok st sp r nu tok1 st1 sp1 fa fat := by
  intro σ hσ hk
  have h2 : ¬ tK f n σ.2 ≠ 2 := by rw [← hk.2.1]; exact fun q => q ht
  have h3 := hk.num (hn (hk.dg ht))
  refine ⟨Or.inl ⟨h1, ?_⟩, fun _ => h3⟩
  unfold rW wa
  rw [if_neg h2, if_neg (by rw [← h3]; exact hb), go_z hσ]
  refine ⟨rfl, ?_⟩
  have h4 : sp = tE f n σ.2 := hk.2.2.2
  rw [← h4]
  exact hx
/-- letters -/
def wds (f : Nat → Int32) (st sp : Int) : Prop := sp - st ≤ 8 ∧ ∀ k : Int, st ≤ k → k < sp → 97 ≤ (f k.toNat).toInt ∧ (f k.toNat).toInt ≤ 122
theorem wds_nat {f : Nat → Int32} {st sp : Int} (hd : wds f st sp) (h0 : 0 ≤ st) {m : Nat} (hm : st + (m : Int) ≤ sp) : ∀ j, j < m → 97 ≤ (f (st.toNat + j)).toInt ∧ (f (st.toNat + j)).toInt ≤ 122 := fun j hj => by
  have := hd.2 (st + j) (by omega) (by omega)
  rw [show (st + (j : Int)).toNat = st.toNat + j by omega] at this
  exact this
theorem cd_8 {f : Nat → Int32} {s m : Nat} (h : ∀ j, j < m → 97 ≤ (f (s + j)).toInt ∧ (f (s + j)).toInt ≤ 122) (hm : m ≤ 8) : 0 ≤ cdI f s m ∧ cdI f s m < 1099511627776 := by
  have h1 := cd_bd m h
  have h2 : (32 : Nat) ^ m ≤ 32 ^ 8 := Nat.pow_le_pow_right (by decide) hm
  have h3 : (32 : Nat) ^ 8 = 1099511627776 := by decide
  omega
theorem bm_64 {z : Int} (h1 : -9223372036854775808 ≤ z) (h2 : z ≤ 9223372036854775807) : z.bmod (2 ^ 64) = z := by
  rw [Int.bmod_def]
  split <;> omega
theorem cd_up {f : Nat → Int32} {st sp i' : Int} {c x q v : Int64} {i b y z : Int32} (hd : wds f st sp) (hc : c.toInt = cdI f st.toNat (i.toInt - st).toNat) (h0 : 0 ≤ st) (h1 : st ≤ i.toInt) (h2 : i.toInt < sp) (e1 : x = c * 32) (eb : b = f i.toNatClampNeg) (e2 : y = b - 97) (e3 : z = y + 1) (e4 : z.toInt64 = q) (e5 : v = x + q) (hi : i' = i.toInt + 1) : v.toInt = cdI f st.toNat (i' - st).toNat := by
  have hl := hd.1
  have g1 := cd_8 (f := f) (s := st.toNat) (m := (i.toInt - st).toNat) (wds_nat hd h0 (by omega)) (by omega)
  have g2 := hd.2 i.toInt h1 h2
  have e6 : (f i.toInt.toNat).toInt = b.toInt := by rw [eb]; rfl
  have t2 : y.toInt = b.toInt - 97 := ti_sub (A := b.toInt) (B := 97) e2 rfl (by decide) (by omega) (by omega)
  have t3 : z.toInt = b.toInt - 97 + 1 := ti_add (A := b.toInt - 97) (B := 1) e3 t2 (by decide) (by omega) (by omega)
  have t4 : q.toInt = b.toInt - 97 + 1 := by rw [← e4, Int32.toInt_toInt64, t3]
  have t1 : x.toInt = c.toInt * 32 := by
    rw [e1, Int64.toInt_mul, show (32 : Int64).toInt = 32 by decide]
    exact bm_64 (by omega) (by omega)
  have t5 : v.toInt = c.toInt * 32 + (b.toInt - 97 + 1) := by
    rw [e5, Int64.toInt_add, t1, t4]
    exact bm_64 (by omega) (by omega)
  rw [show (i' - st).toNat = (i.toInt - st).toNat + 1 by omega]
  show _ = 32 * cdI f st.toNat (i.toInt - st).toNat + ((f (st.toNat + (i.toInt - st).toNat)).toInt - 96)
  rw [show st.toNat + (i.toInt - st).toNat = i.toInt.toNat by omega]
  omega
theorem LkC.wl {f : Nat → Int32} {n j tok st sp : Int} (h : LkC f n j tok st sp) (ht : tok = 1) : wds f st sp := by
  obtain ⟨h0, h1, h2, h3⟩ := h
  subst h1 h2 h3
  obtain ⟨a1, a2, a3⟩ := tK_w h0 ht
  exact ⟨a1, fun k k1 k2 => (a3 k k1 k2).2⟩
/-- a place of a walker, by column and row; z = 0: no hedge -/
def hg (g : Nat → Int32) (z c : Int) (σ : Int × Int) : Int × Int := if z = 0 ∧ (g c.toNat).toInt = 3 then fl 7 σ else σ
def sC (f : Nat → Int32) (n w : Int) (σ : Int × Int) : Int := w * tN f n (rW f n 0 (w - 1) σ).2 + tN f n σ.2
def rPl (f : Nat → Int32) (n w d : Int) (g : Nat → Int32) (z : Int) (σ : Int × Int) : Int × Int := go f n (hg g z (sC f n w σ) (wa f n 0 (d - 1) (rW f n 0 (w - 1) σ)))
theorem hg_o {g : Nat → Int32} {z c : Int} {σ : Int × Int} (h : σ.1 ≠ 0) : hg g z c σ = σ := by
  unfold hg
  rw [fl_o h]
  split <;> rfl
theorem rPl_o {f : Nat → Int32} {n w d : Int} {g : Nat → Int32} {z : Int} {σ : Int × Int} (h : σ.1 ≠ 0) : rPl f n w d g z σ = σ := by
  unfold rPl
  rw [rW_o h, wa_o h, hg_o h, go_o h]
theorem rW_0 {f : Nat → Int32} {n lo hi : Int} {σ : Int × Int} (h : (rW f n lo hi σ).1 = 0) : σ.1 = 0 ∧ tK f n σ.2 = 2 ∧ lo ≤ tN f n σ.2 ∧ tN f n σ.2 ≤ hi ∧ rW f n lo hi σ = (0, tE f n σ.2) := by
  have h1 : σ.1 = 0 := Classical.byContradiction (fun q => by rw [rW_o q] at h; exact q h)
  by_cases h2 : tK f n σ.2 ≠ 2
  · unfold rW wa at h
    rw [if_pos h2, fl_z h1, go_o (pn (show (1 : Int) ≠ 0 by decide))] at h
    exact absurd h (pn (by decide))
  · by_cases h3 : tN f n σ.2 < lo ∨ hi < tN f n σ.2
    · unfold rW wa at h
      rw [if_neg h2, if_pos h3, fl_z h1, go_o (pn (show (4 : Int) ≠ 0 by decide))] at h
      exact absurd h (pn (by decide))
    · refine ⟨h1, by omega, by omega, by omega, ?_⟩
      unfold rW wa
      rw [if_neg h2, if_neg h3, go_z h1]
def ceP (c r : Int) : Prop := 0 ≤ c → c ≤ 127 → r = 1
/-- none of the first i letters is c; where the first c stands -/
def ixN (sf : Nat → Int32) (i c : Int) : Prop := ∀ k : Nat, (k : Int) < i → (sf k).toInt ≠ c
def ixP (sf : Nat → Int32) (sn : Nat) (c r : Int) : Prop := 0 ≤ c → c ≤ 127 → (r = -1 ∧ ∀ k : Nat, (k : Int) < (sn : Int) → (sf k).toInt ≠ c) ∨ (0 ≤ r ∧ r < (sn : Int) ∧ (sf r.toNat).toInt = c ∧ ∀ k : Nat, (k : Int) < r → (sf k).toInt ≠ c)
theorem ixN_0 {sf : Nat → Int32} {i c : Int} (h : i ≤ 0) : ixN sf i c := fun k hk => by omega
theorem ixN_up {sf : Nat → Int32} {c i' : Int} {i x : Int32} (h : ixN sf i.toInt c) (ex : sf (Int32.toNatClampNeg i) = x) (hx : x.toInt ≠ c) (h0 : 0 ≤ i.toInt) (e : i' = i.toInt + 1) : ixN sf i' c := by
  intro k hk
  by_cases hc : (k : Int) < i.toInt
  · exact h k hc
  · have hk' : k = i.toNatClampNeg := by
      have e1 : i.toNatClampNeg = i.toInt.toNat := rfl
      omega
    rw [hk', ex]
    exact hx
end
section
set_option maxHeartbeats 4000000 in
set_option maxRecDepth 100000 in
theorem gJ1_charAt (l : Launch) (dC : Nat → ClassId) (dI : Nat → Nat → Nat) (cy : Nat → ClassId) (sa : Nat) (sv : Nat) (sn : Nat) (sf : Nat → Int32) (p1 : Int32) (hsn : sn < 1000) (hp1 : 0 ≤ p1.toInt ∧ p1.toInt < (sn : Int)) : ctI l dC dI cy (andX hp (sO sa sv sn sf)) yJ1_charAt_3b067 cJ1_charAt_3b067 2 .char ({ frames := 2, cells := 0, slots := 0, locals := 43 } : Room) [.ref sv, .int p1] [] (S := Unit) (fun r _ => (narrow .char (.int r) = .int r) ∧ (ch1 sf p1.toInt r.toInt)) (fun _ => []) := by
  refine ctI.of (by decide +kernel) (Nat.le_of_ble_eq_true rfl) ?_
  intro p e s m args below meth c A ls Q hQ X hr hlocks hin hA hP hD hS hl
  have hx := X.1
  have hb := X.2.1
  have hK := X.2.2.2.2.2.1
  have hl : lv_has ls 2 [(0, .ref sv), (1, .int p1)] := hl
  have dy_1 := ti_bd p1
  refine lv_iload_n hx hb dJ1_charAt_3b067_0 rfl (lv_at hl 1 rfl) ?_
  refine lv_aload_n hx hb dJ1_charAt_3b067_1 rfl (lv_at hl 0 rfl) ?_
  obtain ⟨x_2, ex_2⟩ : ∃ y : Int32, Int32.ofNat sn = y := ⟨_, rfl⟩
  have tx_2 : x_2.toInt = (sn : Int) := by rw [← ex_2]; exact Int32.toInt_ofNat_of_lt (by omega)
  refine va_tlen hx hb X.2.2.2.2.2.2.2.2.2.2.2 hS ex_2 dJ1_charAt_3b067_2 ?_
  refine sl_Vc (rS_V (As := [.int p1, .int x_2]) (rest := []) X hp_st (fun _ _ _ h => h.1) (sJ0_checkIndex l dC dI cy p1 x_2 (by first | decide | omega)) kJ0_checkIndex_df160 w_579 mJ1_9 hP hD hS hA [] (by decide) rfl hl rfl rfl (Nat.le_of_ble_eq_true rfl) dJ1_charAt_3b067_3 ⟨(Nat.le_of_ble_eq_true rfl), (Nat.le_of_ble_eq_true rfl)⟩ ⟨(Nat.le_of_ble_eq_true rfl), (Nat.le_of_ble_eq_true rfl)⟩) hP hD hS hA [] [] rfl rfl rfl (fun u_5 H locs k_4 hP hD hS => ?_)
  have hPD := vPD (ws' := []) hP hD rfl
  have hP := hPD.1
  have hD := hPD.2
  refine lv_aload_n hx hb dJ1_charAt_3b067_6 rfl (lv_at hl 0 rfl) ?_
  refine lv_iload_n hx hb dJ1_charAt_3b067_7 rfl (lv_at hl 1 rfl) ?_
  obtain ⟨x_6, ex_6⟩ : ∃ y : Int32, sf (Int32.toNatClampNeg p1) = y := ⟨_, rfl⟩
  refine va_tb hx hb X.2.2.2.2.2.2.2.2.2.2.2 hS (i := p1) (vin (by omega) (by omega)) (v := .int x_6) (by rw [ex_6]) dJ1_charAt_3b067_8 ?_
  refine lv_sipush (v := 255) hx hb dJ1_charAt_3b067_9 (by decide) ?_
  refine lv_iand hx hb dJ1_charAt_3b067_12 ?_
  have dy_7 := ti_bd x_6
  refine lv_topi (fun x_8 ex_8 => ?_)
  have tx_8 : 0 ≤ x_8.toInt ∧ x_8.toInt ≤ 255 := ti_andr ex_8 (by decide)
  obtain ⟨x_9, ex_9⟩ : ∃ y : Int32, (x_8.toUInt32 % 65536).toInt32 = y := ⟨_, rfl⟩
  refine lv_i2c hx hb dJ1_charAt_3b067_13 ex_9 ?_
  exact eI hQ X hr hlocks hP hD hS () [] (by decide) rfl (by rw [← ex_9]; exact pk_nc _) (show (narrow .char (.int x_9) = .int x_9) ∧ (ch1 sf p1.toInt x_9.toInt) from ⟨(by rw [← ex_9]; exact pk_nc _), (ch1_of ex_6 ex_8 ex_9)⟩) (Nat.le_of_ble_eq_true rfl) (Nat.le_of_ble_eq_true rfl) dJ1_charAt_3b067_14
set_option maxHeartbeats 4000000 in
set_option maxRecDepth 100000 in
theorem gJ0_charAt (l : Launch) (dC : Nat → ClassId) (dI : Nat → Nat → Nat) (cy : Nat → ClassId) (sa : Nat) (sv : Nat) (sn : Nat) (sf : Nat → Int32) (p1 : Int32) (hsn : sn < 1000) (hp1 : 0 ≤ p1.toInt ∧ p1.toInt < (sn : Int)) : ctI l dC dI cy (andX hp (sO sa sv sn sf)) yJ0_charAt_5068e cJ0_charAt_5068e 2 .char ({ frames := 3, cells := 0, slots := 0, locals := 64 } : Room) [.ref sa, .int p1] [] (S := Unit) (fun r _ => (ch1 sf p1.toInt r.toInt)) (fun _ => []) := by
  refine ctI.of (by decide +kernel) (Nat.le_of_ble_eq_true rfl) ?_
  intro p e s m args below meth c A ls Q hQ X hr hlocks hin hA hP hD hS hl
  have hx := X.1
  have hb := X.2.1
  have hK := X.2.2.2.2.2.1
  have hl : lv_has ls 2 [(0, .ref sa), (1, .int p1)] := hl
  have dy_1 := ti_bd p1
  refine lv_aload_n hx hb dJ0_charAt_5068e_0 rfl (lv_at hl 0 rfl) ?_
  refine sl_Ic (rVo_I (wc := []) (As := []) (rest := []) X (andX_st hp_st (sO_st sa sv sn sf)) X.2.2.2.2.2.2.2 (sJ0_isLatin1 l dC dI cy sa _ _ _) kJ0_isLatin1_aae02 vJ0_isLatin1_aae02 mJ0_492 hP hD hS hA [] rfl rfl X.2.2.2.2.2.2.2.2.1 hl rfl rfl (Nat.le_of_ble_eq_true rfl) dJ0_charAt_5068e_1 ⟨(Nat.le_of_ble_eq_true rfl), (Nat.le_of_ble_eq_true rfl)⟩ ⟨(Nat.le_of_ble_eq_true rfl), (Nat.le_of_ble_eq_true rfl)⟩) hP hD hS hA [] [] rfl rfl rfl (fun r_2 u_4 H locs k_3 hP hD hS => ?_)
  have k_3 : (r_2 = 1) := k_3
  have hPD := vPD (ws' := []) hP hD rfl
  have hP := hPD.1
  have hD := hPD.2
  have er_2 : r_2 = 1 := k_3
  subst er_2
  refine lv_if_eq (tgt := 16) hx hb dJ0_charAt_5068e_4 (by decide) (fun h_5 => absurd h_5 (by decide)) (fun _ => ?_)
  refine lv_aload_n hx hb dJ0_charAt_5068e_7 rfl (lv_at hl 0 rfl) ?_
  refine vk_getf hx hb X.2.2.2.2.2.2.2.2.2.2.1 hS X.2.2.2.1 (X.2.2.2.2.1 _ w_2043) (fun _ h9 => h9) dJ0_charAt_5068e_8 ?_
  refine lv_iload_n hx hb dJ0_charAt_5068e_11 rfl (lv_at hl 1 rfl) ?_
  refine sl_Ic (rS_I (As := [.ref sv, .int p1]) (rest := []) X (andX_st hp_st (sO_st sa sv sn sf)) (fun _ _ _ h => h) (gJ1_charAt l dC dI cy _ sv _ _ p1 hsn hp1) kJ1_charAt_3b067 w_576 mJ0_495 hP hD hS hA [] (by decide) rfl hl rfl rfl (Nat.le_of_ble_eq_true rfl) dJ0_charAt_5068e_12 ⟨(Nat.le_of_ble_eq_true rfl), (Nat.le_of_ble_eq_true rfl)⟩ ⟨(Nat.le_of_ble_eq_true rfl), (Nat.le_of_ble_eq_true rfl)⟩) hP hD hS hA [] [] rfl rfl rfl (fun r_6 u_8 H locs k_7 hP hD hS => ?_)
  have k_7 : (narrow .char (.int r_6) = .int r_6) ∧ (ch1 sf p1.toInt r_6.toInt) := k_7
  obtain ⟨k_7_0, k_7_1⟩ := k_7
  have hPD := vPD (ws' := []) hP hD rfl
  have hP := hPD.1
  have hD := hPD.2
  exact eI hQ X hr hlocks hP hD hS () [] (by decide) rfl k_7_0 (show (ch1 sf p1.toInt r_6.toInt) from k_7_1) (Nat.le_of_ble_eq_true rfl) (Nat.le_of_ble_eq_true rfl) dJ0_charAt_5068e_15
set_option maxHeartbeats 4000000 in
set_option maxRecDepth 100000 in
theorem gJ1_canEncode (l : Launch) (dC : Nat → ClassId) (dI : Nat → Nat → Nat) (cy : Nat → ClassId) (p1 : Int32) : ctI l dC dI cy hp yJ1_canEncode_9a6ad cJ1_canEncode_9a6ad 1 .boolean ({ frames := 0, cells := 0, slots := 0, locals := 0 } : Room) [.int p1] [] (S := Unit) (fun r _ => (0 ≤ r.toInt ∧ r.toInt ≤ 1) ∧ (ceP p1.toInt r.toInt)) (fun _ => []) := by
  refine ctI.of (by decide +kernel) (Nat.le_of_ble_eq_true rfl) ?_
  intro p e s m args below meth c A ls Q hQ X hr hlocks hin hA hP hD hS hl
  have hx := X.1
  have hb := X.2.1
  have hK := X.2.2.2.2.2.1
  have hl : lv_has ls 1 [(0, .int p1)] := hl
  have dy_1 := ti_bd p1
  refine lv_iload_n hx hb dJ1_canEncode_9a6ad_0 rfl (lv_at hl 0 rfl) ?_
  refine lv_if_lt (tgt := 15) hx hb dJ1_canEncode_9a6ad_1 (by decide) (fun h_2 => ?_) (fun h_2 => ?_)
  · have h_2 : p1.toInt < 0 := c_lt h_2
    refine lv_iconst (v := 0) hx hb dJ1_canEncode_9a6ad_15 (by decide) ?_
    exact eI hQ X hr hlocks hP hD hS () [] (by decide) rfl rfl (show (0 ≤ (0 : Int32).toInt ∧ (0 : Int32).toInt ≤ 1) ∧ (ceP p1.toInt (0 : Int32).toInt) from ⟨(by first | decide | (have h9_0 : (0 : Int32).toInt = 0 := (by decide); omega) | (refine ⟨by decide, ?_⟩; omega) | omega), (fun h8 h9 => by first | rfl | (exfalso; omega))⟩) (Nat.le_of_ble_eq_true rfl) (Nat.le_of_ble_eq_true rfl) dJ1_canEncode_9a6ad_16
  · have h_2 : 0 ≤ p1.toInt := c_nlt h_2
    refine lv_iload_n hx hb dJ1_canEncode_9a6ad_4 rfl (lv_at hl 0 rfl) ?_
    refine lv_sipush (v := 255) hx hb dJ1_canEncode_9a6ad_5 (by decide) ?_
    refine lv_icmp_gt (tgt := 15) hx hb dJ1_canEncode_9a6ad_8 (by decide) (fun h_3 => ?_) (fun h_3 => ?_)
    · have h_3 : 255 < p1.toInt := c_lt h_3
      refine lv_iconst (v := 0) hx hb dJ1_canEncode_9a6ad_15 (by decide) ?_
      exact eI hQ X hr hlocks hP hD hS () [] (by decide) rfl rfl (show (0 ≤ (0 : Int32).toInt ∧ (0 : Int32).toInt ≤ 1) ∧ (ceP p1.toInt (0 : Int32).toInt) from ⟨(by first | decide | (have h9_0 : (0 : Int32).toInt = 0 := (by decide); omega) | (refine ⟨by decide, ?_⟩; omega) | omega), (fun h8 h9 => by first | rfl | (exfalso; omega))⟩) (Nat.le_of_ble_eq_true rfl) (Nat.le_of_ble_eq_true rfl) dJ1_canEncode_9a6ad_16
    · have h_3 : p1.toInt ≤ 255 := c_nlt h_3
      refine lv_iconst (v := 1) hx hb dJ1_canEncode_9a6ad_11 (by decide) ?_
      refine lv_goto (tgt := 16) hx hb dJ1_canEncode_9a6ad_12 (by decide) ?_
      exact eI hQ X hr hlocks hP hD hS () [] (by decide) rfl rfl (show (0 ≤ (1 : Int32).toInt ∧ (1 : Int32).toInt ≤ 1) ∧ (ceP p1.toInt (1 : Int32).toInt) from ⟨(by first | decide | (have h9_0 : (1 : Int32).toInt = 1 := (by decide); omega) | (refine ⟨by decide, ?_⟩; omega) | omega), (fun h8 h9 => by first | rfl | (exfalso; omega))⟩) (Nat.le_of_ble_eq_true rfl) (Nat.le_of_ble_eq_true rfl) dJ1_canEncode_9a6ad_16
set_option maxHeartbeats 4000000 in
set_option maxRecDepth 100000 in
theorem gJ1_indexOfChar (l : Launch) (dC : Nat → ClassId) (dI : Nat → Nat → Nat) (cy : Nat → ClassId) (sa : Nat) (sv : Nat) (sn : Nat) (sf : Nat → Int32) (p1 : Int32) (p2 : Int32) (p3 : Int32) (hsn : sn < 1000) (hp2 : 0 ≤ p2.toInt ∧ p2.toInt ≤ 1000) (hp3 : 0 ≤ p3.toInt ∧ p3.toInt ≤ 1000) (hp4 : p3.toInt = (sn : Int)) (hp5 : p2.toInt = 0) : ctI l dC dI cy (andX hp (sO sa sv sn sf)) yJ1_indexOfChar_4cfef cJ1_indexOfChar_4cfef 6 .int ({ frames := 0, cells := 0, slots := 0, locals := 0 } : Room) [.ref sv, .int p1, .int p2, .int p3] [] (S := Unit) (fun r _ => ((-1) ≤ r.toInt ∧ r.toInt ≤ 999) ∧ (r.toInt < (sn : Int)) ∧ (ixP sf sn p1.toInt r.toInt)) (fun _ => []) := by
  refine ctI.of (by decide +kernel) (Nat.le_of_ble_eq_true rfl) ?_
  intro p e s m args below meth c A ls Q hQ X hr hlocks hin hA hP hD hS hl
  have hx := X.1
  have hb := X.2.1
  have hK := X.2.2.2.2.2.1
  have hl : lv_has ls 6 [(0, .ref sv), (1, .int p1), (2, .int p2), (3, .int p3)] := hl
  have dy_1 := ti_bd p1
  refine lv_iload_n hx hb dJ1_indexOfChar_4cfef_0 rfl (lv_at hl 1 rfl) ?_
  obtain ⟨x_2, ex_2⟩ : ∃ y : Int32, p1.toInt8.toInt32 = y := ⟨_, rfl⟩
  refine lv_i2b hx hb dJ1_indexOfChar_4cfef_1 ex_2 ?_
  refine lv_istore (lv' := [(4, .int x_2), (0, .ref sv), (1, .int p1), (2, .int p2), (3, .int p3)]) hx hb dJ1_indexOfChar_4cfef_2 hl (by decide) rfl (fun ls hl => ?_)
  refine lv_iload_n hx hb dJ1_indexOfChar_4cfef_4 rfl (lv_at hl 3 rfl) ?_
  refine lv_istore (lv' := [(5, .int p2), (4, .int x_2), (0, .ref sv), (1, .int p1), (2, .int p2), (3, .int p3)]) hx hb dJ1_indexOfChar_4cfef_5 hl (by decide) rfl (fun ls hl => ?_)
  have lp_3 : ∀ (nlp_3 : Nat) (i_4 : Int32) (H : Heap) (locs : List Loc) (ls : Array Slot), (0 ≤ i_4.toInt ∧ i_4.toInt ≤ 1000) → (0 ≤ p1.toInt → p1.toInt ≤ 127 → ixN sf i_4.toInt p1.toInt) → (i_4.toInt ≤ (sn : Int)) → (1001 - i_4.toInt ≤ (nlp_3 : Int)) → va_P (dC, dI) vwCl [] H → va_D A [] → va_S A s.heap H locs → lv_has ls 6 [(5, .int i_4), (4, .int x_2), (0, .ref sv), (1, .int p1), (2, .int p2), (3, .int p3)] → W p l e ({ frames := 0, cells := 0, slots := 0, locals := 0 } : Room) s m args below meth c H locs 0 0 Q (F0 m 7 ls []) := by
    intro nlp_3
    induction nlp_3 with
    | zero =>
      intro i_4 H locs ls b_5 b_6 b_7 hmlp_3 hP hD hS hl
      exfalso
      have di_4 := ti_bd i_4
      omega
    | succ nlp_3 ihlp_3 =>
      intro i_4 H locs ls b_5 b_6 b_7 hmlp_3 hP hD hS hl
      refine lv_iload hx hb dJ1_indexOfChar_4cfef_7 (lv_at hl 0 rfl) ?_
      refine lv_iload_n hx hb dJ1_indexOfChar_4cfef_9 rfl (lv_at hl 5 rfl) ?_
      refine lv_icmp_ge (tgt := 31) hx hb dJ1_indexOfChar_4cfef_10 (by decide) (fun h_8 => ?_) (fun h_8 => ?_)
      · have h_8 : p3.toInt ≤ i_4.toInt := c_le h_8
        refine lv_iconst (v := -1) hx hb dJ1_indexOfChar_4cfef_31 (by decide) ?_
        exact eI hQ X hr hlocks hP hD hS () [] (by decide) rfl rfl (show ((-1) ≤ (-1 : Int32).toInt ∧ (-1 : Int32).toInt ≤ 999) ∧ ((-1 : Int32).toInt < (sn : Int)) ∧ (ixP sf sn p1.toInt (-1 : Int32).toInt) from ⟨(by first | decide | omega | (refine ⟨by decide, ?_⟩; omega) | (have h9_0 : (-1 : Int32).toInt = (-1) := (by decide); omega)), (by first | decide | omega | (refine ⟨by decide, ?_⟩; omega) | (have h9_0 : (-1 : Int32).toInt = (-1) := (by decide); omega)), (fun h8 h9 => Or.inl ⟨by decide, fun k hk => b_6 h8 h9 k (by omega)⟩)⟩) (Nat.le_of_ble_eq_true rfl) (Nat.le_of_ble_eq_true rfl) dJ1_indexOfChar_4cfef_32
      · have h_8 : i_4.toInt < p3.toInt := c_nle h_8
        refine lv_aload_n hx hb dJ1_indexOfChar_4cfef_13 rfl (lv_at hl 2 rfl) ?_
        refine lv_iload hx hb dJ1_indexOfChar_4cfef_14 (lv_at hl 0 rfl) ?_
        obtain ⟨x_9, ex_9⟩ : ∃ y : Int32, sf (Int32.toNatClampNeg i_4) = y := ⟨_, rfl⟩
        refine va_tb hx hb X.2.2.2.2.2.2.2.2.2.2.2 hS (i := i_4) (vin (by omega) (by omega)) (v := .int x_9) (by rw [ex_9]) dJ1_indexOfChar_4cfef_16 ?_
        refine lv_iload hx hb dJ1_indexOfChar_4cfef_17 (lv_at hl 1 rfl) ?_
        refine lv_icmp_ne (tgt := 25) hx hb dJ1_indexOfChar_4cfef_19 (by decide) (fun h_10 => ?_) (fun h_10 => ?_)
        · have h_10 : x_9.toInt ≠ x_2.toInt := c_ne h_10
          obtain ⟨x_11, ex_11⟩ : ∃ y : Int32, y = i_4 + 1 := ⟨_, rfl⟩
          have tx_11 : x_11.toInt = i_4.toInt + 1 := ti_add (A := i_4.toInt) (B := 1) ex_11 rfl rfl (by omega) (by omega)
          refine lv_iinc (v := x_11) (lv' := [(5, .int x_11), (4, .int x_2), (0, .ref sv), (1, .int p1), (2, .int p2), (3, .int p3)]) hx hb dJ1_indexOfChar_4cfef_25 hl (k := 0) rfl (by rw [ex_11]; rfl) (by decide) rfl (fun ls hl => ?_)
          refine lv_goto (tgt := 7) hx hb dJ1_indexOfChar_4cfef_28 (by decide) ?_
          exact ihlp_3 x_11 _ _ _ (by omega) (show 0 ≤ p1.toInt → p1.toInt ≤ 127 → ixN sf x_11.toInt p1.toInt from (fun h8 h9 => ixN_up (b_6 h8 h9) ex_9 (by have := ch_b ex_2 h8 h9; omega) (by omega) (by omega))) (show x_11.toInt ≤ (sn : Int) by omega) (show 1001 - x_11.toInt ≤ (nlp_3 : Int) by omega) hP hD hS (lv_sub hl [0, 1, 2, 3, 4, 5] rfl)
        · have h_10 : x_9.toInt = x_2.toInt := c_eq h_10
          refine lv_iload hx hb dJ1_indexOfChar_4cfef_22 (lv_at hl 0 rfl) ?_
          exact eI hQ X hr hlocks hP hD hS () [] (by decide) rfl rfl (show ((-1) ≤ i_4.toInt ∧ i_4.toInt ≤ 999) ∧ (i_4.toInt < (sn : Int)) ∧ (ixP sf sn p1.toInt i_4.toInt) from ⟨(by omega), (by omega), (fun h8 h9 => Or.inr ⟨by omega, by omega, by rw [show (sf i_4.toInt.toNat) = x_9 from ex_9]; have := ch_b ex_2 h8 h9; omega, fun k hk => b_6 h8 h9 k (by omega)⟩)⟩) (Nat.le_of_ble_eq_true rfl) (Nat.le_of_ble_eq_true rfl) dJ1_indexOfChar_4cfef_24
  exact lp_3 1001 p2 _ _ _ (by omega) (show 0 ≤ p1.toInt → p1.toInt ≤ 127 → ixN sf p2.toInt p1.toInt from (fun _ _ => ixN_0 (by omega))) (show p2.toInt ≤ (sn : Int) by omega) (show 1001 - p2.toInt ≤ ((1001 : Nat) : Int) by omega) hP hD hS hl
set_option maxHeartbeats 4000000 in
set_option maxRecDepth 100000 in
theorem gJ1_indexOf (l : Launch) (dC : Nat → ClassId) (dI : Nat → Nat → Nat) (cy : Nat → ClassId) (sa : Nat) (sv : Nat) (sn : Nat) (sf : Nat → Int32) (p1 : Int32) (p3 : Int32) (hsn : sn < 1000) (hp3 : 0 ≤ p3.toInt ∧ p3.toInt ≤ 1000) (hp4 : p3.toInt = (sn : Int)) : ctI l dC dI cy (andX hp (sO sa sv sn sf)) yJ1_indexOf_4cfef cJ1_indexOf_4cfef 4 .int ({ frames := 1, cells := 0, slots := 0, locals := 25 } : Room) [.ref sv, .int p1, .int 0, .int p3] [] (S := Unit) (fun r _ => ((-1) ≤ r.toInt ∧ r.toInt ≤ 999) ∧ (r.toInt < (sn : Int)) ∧ (ixP sf sn p1.toInt r.toInt)) (fun _ => []) := by
  refine ctI.of (by decide +kernel) (Nat.le_of_ble_eq_true rfl) ?_
  intro p e s m args below meth c A ls Q hQ X hr hlocks hin hA hP hD hS hl
  have hx := X.1
  have hb := X.2.1
  have hK := X.2.2.2.2.2.1
  have hl : lv_has ls 4 [(0, .ref sv), (1, .int p1), (2, .int 0), (3, .int p3)] := hl
  have dy_1 := ti_bd p1
  refine lv_iload_n hx hb dJ1_indexOf_4cfef_0 rfl (lv_at hl 1 rfl) ?_
  refine sl_Ic (rS_I (As := [.int p1]) (rest := []) X hp_st (fun _ _ _ h => h.1) (gJ1_canEncode l dC dI cy p1) kJ1_canEncode_9a6ad w_660 mJ1_88 hP hD hS hA [] (by decide) rfl hl rfl rfl (Nat.le_of_ble_eq_true rfl) dJ1_indexOf_4cfef_1 ⟨(Nat.le_of_ble_eq_true rfl), (Nat.le_of_ble_eq_true rfl)⟩ ⟨(Nat.le_of_ble_eq_true rfl), (Nat.le_of_ble_eq_true rfl)⟩) hP hD hS hA [] [] rfl rfl rfl (fun r_2 u_4 H locs k_3 hP hD hS => ?_)
  have k_3 : (0 ≤ r_2.toInt ∧ r_2.toInt ≤ 1) ∧ (ceP p1.toInt r_2.toInt) := k_3
  obtain ⟨k_3_0, k_3_1⟩ := k_3
  have hPD := vPD (ws' := []) hP hD rfl
  have hP := hPD.1
  have hD := hPD.2
  refine lv_if_ne (tgt := 9) hx hb dJ1_indexOf_4cfef_4 (by decide) (fun h_5 => ?_) (fun h_5 => ?_)
  · have h_5 : r_2.toInt ≠ 0 := c_ne h_5
    refine lv_iload_n hx hb dJ1_indexOf_4cfef_9 rfl (lv_at hl 2 rfl) ?_
    refine lv_iconst (v := 0) hx hb dJ1_indexOf_4cfef_10 (by decide) ?_
    refine va_mmax hx hb (X.2.2.1.trans hl.1.symm) X.2.2.2.1 (X.2.2.2.2.1 _ w_662) (X.2.2.2.2.1 _ w_546) (X.2.2.2.2.1 _ w_113) (X.2.2.2.2.1 _ w_547) (Nat.le_of_ble_eq_true rfl) (Nat.le_of_ble_eq_true rfl) (Nat.le_of_ble_eq_true rfl) (Nat.le_of_ble_eq_true rfl) dJ1_indexOf_4cfef_11 ?_
    refine lv_topi (fun x_6 ex_6 => ?_)
    have tx_6 := ti_max ex_6
    have kx_6 : Int32.toInt 0 = 0 := by decide
    have kx_6 : Int32.toInt 0 = 0 := by decide
    refine lv_istore_n (lv' := [(2, .int x_6), (0, .ref sv), (1, .int p1), (3, .int p3)]) hx hb dJ1_indexOf_4cfef_14 rfl hl (by decide) rfl (fun ls hl => ?_)
    refine lv_iload_n hx hb dJ1_indexOf_4cfef_15 rfl (lv_at hl 3 rfl) ?_
    refine lv_aload_n hx hb dJ1_indexOf_4cfef_16 rfl (lv_at hl 1 rfl) ?_
    obtain ⟨x_7, ex_7⟩ : ∃ y : Int32, Int32.ofNat sn = y := ⟨_, rfl⟩
    have tx_7 : x_7.toInt = (sn : Int) := by rw [← ex_7]; exact Int32.toInt_ofNat_of_lt (by omega)
    refine va_tlen hx hb X.2.2.2.2.2.2.2.2.2.2.2 hS ex_7 dJ1_indexOf_4cfef_17 ?_
    refine va_mmin hx hb (X.2.2.1.trans hl.1.symm) X.2.2.2.1 (X.2.2.2.2.1 _ w_663) (X.2.2.2.2.1 _ w_527) (X.2.2.2.2.1 _ w_113) (X.2.2.2.2.1 _ w_528) (Nat.le_of_ble_eq_true rfl) (Nat.le_of_ble_eq_true rfl) (Nat.le_of_ble_eq_true rfl) (Nat.le_of_ble_eq_true rfl) dJ1_indexOf_4cfef_18 ?_
    refine lv_topi (fun x_8 ex_8 => ?_)
    have tx_8 := ti_min ex_8
    refine lv_istore_n (lv' := [(3, .int x_8), (2, .int x_6), (0, .ref sv), (1, .int p1)]) hx hb dJ1_indexOf_4cfef_21 rfl hl (by decide) rfl (fun ls hl => ?_)
    refine lv_iload_n hx hb dJ1_indexOf_4cfef_22 rfl (lv_at hl 1 rfl) ?_
    refine lv_iload_n hx hb dJ1_indexOf_4cfef_23 rfl (lv_at hl 0 rfl) ?_
    refine lv_icmp_lt (tgt := 29) hx hb dJ1_indexOf_4cfef_24 (by decide) (fun h_9 => ?_) (fun h_9 => ?_)
    · have h_9 : x_6.toInt < x_8.toInt := c_lt h_9
      refine lv_aload_n hx hb dJ1_indexOf_4cfef_29 rfl (lv_at hl 2 rfl) ?_
      refine lv_iload_n hx hb dJ1_indexOf_4cfef_30 rfl (lv_at hl 3 rfl) ?_
      refine lv_iload_n hx hb dJ1_indexOf_4cfef_31 rfl (lv_at hl 1 rfl) ?_
      refine lv_iload_n hx hb dJ1_indexOf_4cfef_32 rfl (lv_at hl 0 rfl) ?_
      refine sl_Ic (rS_I (As := [.ref sv, .int p1, .int x_6, .int x_8]) (rest := []) X (andX_st hp_st (sO_st sa sv sn sf)) (fun _ _ _ h => h) (gJ1_indexOfChar l dC dI cy _ sv _ _ p1 x_6 x_8 hsn (by first | decide | omega) (by first | decide | omega) (by first | decide | omega) (by first | decide | omega)) kJ1_indexOfChar_4cfef w_665 mJ1_95 hP hD hS hA [] (by decide) rfl hl rfl rfl (Nat.le_of_ble_eq_true rfl) dJ1_indexOf_4cfef_33 ⟨(Nat.le_of_ble_eq_true rfl), (Nat.le_of_ble_eq_true rfl)⟩ ⟨(Nat.le_of_ble_eq_true rfl), (Nat.le_of_ble_eq_true rfl)⟩) hP hD hS hA [] [] rfl rfl rfl (fun r_10 u_12 H locs k_11 hP hD hS => ?_)
      have k_11 : ((-1) ≤ r_10.toInt ∧ r_10.toInt ≤ 999) ∧ (r_10.toInt < (sn : Int)) ∧ (ixP sf sn p1.toInt r_10.toInt) := k_11
      obtain ⟨k_11_0, k_11_1, k_11_2⟩ := k_11
      have hPD := vPD (ws' := []) hP hD rfl
      have hP := hPD.1
      have hD := hPD.2
      exact eI hQ X hr hlocks hP hD hS () [] (by decide) rfl rfl (show ((-1) ≤ r_10.toInt ∧ r_10.toInt ≤ 999) ∧ (r_10.toInt < (sn : Int)) ∧ (ixP sf sn p1.toInt r_10.toInt) from ⟨k_11_0, k_11_1, (by assumption)⟩) (Nat.le_of_ble_eq_true rfl) (Nat.le_of_ble_eq_true rfl) dJ1_indexOf_4cfef_36
    · have h_9 : x_8.toInt ≤ x_6.toInt := c_nlt h_9
      refine lv_iconst (v := -1) hx hb dJ1_indexOf_4cfef_27 (by decide) ?_
      exact eI hQ X hr hlocks hP hD hS () [] (by decide) rfl rfl (show ((-1) ≤ (-1 : Int32).toInt ∧ (-1 : Int32).toInt ≤ 999) ∧ ((-1 : Int32).toInt < (sn : Int)) ∧ (ixP sf sn p1.toInt (-1 : Int32).toInt) from ⟨(by first | decide | omega | (refine ⟨by decide, ?_⟩; omega) | (have h9_0 : (-1 : Int32).toInt = (-1) := (by decide); omega)), (by first | decide | omega | (refine ⟨by decide, ?_⟩; omega) | (have h9_0 : (-1 : Int32).toInt = (-1) := (by decide); omega)), (fun h8 h9 => by first | (exfalso; have h7 := k_3_1 h8 h9; omega) | exact Or.inl ⟨by decide, fun k hk => by omega⟩)⟩) (Nat.le_of_ble_eq_true rfl) (Nat.le_of_ble_eq_true rfl) dJ1_indexOf_4cfef_28
  · have h_5 : r_2.toInt = 0 := c_eq h_5
    refine lv_iconst (v := -1) hx hb dJ1_indexOf_4cfef_7 (by decide) ?_
    exact eI hQ X hr hlocks hP hD hS () [] (by decide) rfl rfl (show ((-1) ≤ (-1 : Int32).toInt ∧ (-1 : Int32).toInt ≤ 999) ∧ ((-1 : Int32).toInt < (sn : Int)) ∧ (ixP sf sn p1.toInt (-1 : Int32).toInt) from ⟨(by first | decide | omega | (refine ⟨by decide, ?_⟩; omega) | (have h9_0 : (-1 : Int32).toInt = (-1) := (by decide); omega)), (by first | decide | omega | (refine ⟨by decide, ?_⟩; omega) | (have h9_0 : (-1 : Int32).toInt = (-1) := (by decide); omega)), (fun h8 h9 => by first | (exfalso; have h7 := k_3_1 h8 h9; omega) | exact Or.inl ⟨by decide, fun k hk => by omega⟩)⟩) (Nat.le_of_ble_eq_true rfl) (Nat.le_of_ble_eq_true rfl) dJ1_indexOf_4cfef_8
set_option maxHeartbeats 4000000 in
set_option maxRecDepth 100000 in
theorem gJ0_indexOf2 (l : Launch) (dC : Nat → ClassId) (dI : Nat → Nat → Nat) (cy : Nat → ClassId) (sa : Nat) (sv : Nat) (sn : Nat) (sf : Nat → Int32) (p1 : Int32) (hsn : sn < 1000) : ctI l dC dI cy (andX hp (sO sa sv sn sf)) yJ0_indexOf_7cf53 cJ0_indexOf_7cf53 3 .int ({ frames := 2, cells := 0, slots := 0, locals := 48 } : Room) [.ref sa, .int p1, .int 0] [] (S := Unit) (fun r _ => ((-1) ≤ r.toInt ∧ r.toInt ≤ 999) ∧ (r.toInt < (sn : Int)) ∧ (ixP sf sn p1.toInt r.toInt)) (fun _ => []) := by
  refine ctI.of (by decide +kernel) (Nat.le_of_ble_eq_true rfl) ?_
  intro p e s m args below meth c A ls Q hQ X hr hlocks hin hA hP hD hS hl
  have hx := X.1
  have hb := X.2.1
  have hK := X.2.2.2.2.2.1
  have hl : lv_has ls 3 [(0, .ref sa), (1, .int p1), (2, .int 0)] := hl
  have dy_1 := ti_bd p1
  refine lv_aload_n hx hb dJ0_indexOf_7cf53_0 rfl (lv_at hl 0 rfl) ?_
  refine sl_Ic (rVo_I (wc := []) (As := []) (rest := []) X (andX_st hp_st (sO_st sa sv sn sf)) X.2.2.2.2.2.2.2 (sJ0_isLatin1 l dC dI cy sa _ _ _) kJ0_isLatin1_aae02 vJ0_isLatin1_aae02 mJ0_492 hP hD hS hA [] rfl rfl X.2.2.2.2.2.2.2.2.1 hl rfl rfl (Nat.le_of_ble_eq_true rfl) dJ0_indexOf_7cf53_1 ⟨(Nat.le_of_ble_eq_true rfl), (Nat.le_of_ble_eq_true rfl)⟩ ⟨(Nat.le_of_ble_eq_true rfl), (Nat.le_of_ble_eq_true rfl)⟩) hP hD hS hA [] [] rfl rfl rfl (fun r_2 u_4 H locs k_3 hP hD hS => ?_)
  have k_3 : (r_2 = 1) := k_3
  have hPD := vPD (ws' := []) hP hD rfl
  have hP := hPD.1
  have hD := hPD.2
  have er_2 : r_2 = 1 := k_3
  subst er_2
  refine lv_if_eq (tgt := 23) hx hb dJ0_indexOf_7cf53_4 (by decide) (fun h_5 => absurd h_5 (by decide)) (fun _ => ?_)
  refine lv_aload_n hx hb dJ0_indexOf_7cf53_7 rfl (lv_at hl 0 rfl) ?_
  refine vk_getf hx hb X.2.2.2.2.2.2.2.2.2.2.1 hS X.2.2.2.1 (X.2.2.2.2.1 _ w_2043) (fun _ h9 => h9) dJ0_indexOf_7cf53_8 ?_
  refine lv_iload_n hx hb dJ0_indexOf_7cf53_11 rfl (lv_at hl 1 rfl) ?_
  refine lv_iload_n hx hb dJ0_indexOf_7cf53_12 rfl (lv_at hl 2 rfl) ?_
  refine lv_aload_n hx hb dJ0_indexOf_7cf53_13 rfl (lv_at hl 0 rfl) ?_
  refine sl_Ic (rVo_I (wc := []) (As := []) (rest := [.int 0, .int p1, .ref sv]) X (andX_st hp_st (sO_st sa sv sn sf)) X.2.2.2.2.2.2.2 (sJ0_length l dC dI cy sa _ _ _ hsn) kJ0_length_8abf5 vJ0_length_8abf5 mJ0_505 hP hD hS hA [] rfl rfl X.2.2.2.2.2.2.2.2.1 hl rfl rfl (Nat.le_of_ble_eq_true rfl) dJ0_indexOf_7cf53_14 ⟨(Nat.le_of_ble_eq_true rfl), (Nat.le_of_ble_eq_true rfl)⟩ ⟨(Nat.le_of_ble_eq_true rfl), (Nat.le_of_ble_eq_true rfl)⟩) hP hD hS hA [] [] rfl rfl rfl (fun r_6 u_8 H locs k_7 hP hD hS => ?_)
  have k_7 : (0 ≤ r_6.toInt ∧ r_6.toInt ≤ 1000) ∧ (r_6.toInt = (sn : Int)) := k_7
  obtain ⟨k_7_0, k_7_1⟩ := k_7
  have hPD := vPD (ws' := []) hP hD rfl
  have hP := hPD.1
  have hD := hPD.2
  refine sl_Ic (rS_I (As := [.ref sv, .int p1, .int 0, .int r_6]) (rest := []) X (andX_st hp_st (sO_st sa sv sn sf)) (fun _ _ _ h => h) (gJ1_indexOf l dC dI cy _ sv _ _ p1 r_6 hsn (by first | decide | omega) (by first | decide | omega)) kJ1_indexOf_4cfef w_657 mJ0_637 hP hD hS hA [] (by decide) rfl hl rfl rfl (Nat.le_of_ble_eq_true rfl) dJ0_indexOf_7cf53_17 ⟨(Nat.le_of_ble_eq_true rfl), (Nat.le_of_ble_eq_true rfl)⟩ ⟨(Nat.le_of_ble_eq_true rfl), (Nat.le_of_ble_eq_true rfl)⟩) hP hD hS hA [] [] rfl rfl rfl (fun r_9 u_11 H locs k_10 hP hD hS => ?_)
  have k_10 : ((-1) ≤ r_9.toInt ∧ r_9.toInt ≤ 999) ∧ (r_9.toInt < (sn : Int)) ∧ (ixP sf sn p1.toInt r_9.toInt) := k_10
  obtain ⟨k_10_0, k_10_1, k_10_2⟩ := k_10
  have hPD := vPD (ws' := []) hP hD rfl
  have hP := hPD.1
  have hD := hPD.2
  refine lv_goto (tgt := 36) hx hb dJ0_indexOf_7cf53_20 (by decide) ?_
  exact eI hQ X hr hlocks hP hD hS () [] (by decide) rfl rfl (show ((-1) ≤ r_9.toInt ∧ r_9.toInt ≤ 999) ∧ (r_9.toInt < (sn : Int)) ∧ (ixP sf sn p1.toInt r_9.toInt) from ⟨k_10_0, k_10_1, (by assumption)⟩) (Nat.le_of_ble_eq_true rfl) (Nat.le_of_ble_eq_true rfl) dJ0_indexOf_7cf53_36
set_option maxHeartbeats 4000000 in
set_option maxRecDepth 100000 in
theorem gJ0_indexOf (l : Launch) (dC : Nat → ClassId) (dI : Nat → Nat → Nat) (cy : Nat → ClassId) (sa : Nat) (sv : Nat) (sn : Nat) (sf : Nat → Int32) (p1 : Int32) (hsn : sn < 1000) : ctI l dC dI cy (andX hp (sO sa sv sn sf)) yJ0_indexOf_0f7a4 cJ0_indexOf_0f7a4 2 .int ({ frames := 3, cells := 0, slots := 0, locals := 70 } : Room) [.ref sa, .int p1] [] (S := Unit) (fun r _ => ((-1) ≤ r.toInt ∧ r.toInt ≤ 999) ∧ (r.toInt < (sn : Int)) ∧ (ixP sf sn p1.toInt r.toInt)) (fun _ => []) := by
  refine ctI.of (by decide +kernel) (Nat.le_of_ble_eq_true rfl) ?_
  intro p e s m args below meth c A ls Q hQ X hr hlocks hin hA hP hD hS hl
  have hx := X.1
  have hb := X.2.1
  have hK := X.2.2.2.2.2.1
  have hl : lv_has ls 2 [(0, .ref sa), (1, .int p1)] := hl
  have dy_1 := ti_bd p1
  refine lv_aload_n hx hb dJ0_indexOf_0f7a4_0 rfl (lv_at hl 0 rfl) ?_
  refine lv_iload_n hx hb dJ0_indexOf_0f7a4_1 rfl (lv_at hl 1 rfl) ?_
  refine lv_iconst (v := 0) hx hb dJ0_indexOf_0f7a4_2 (by decide) ?_
  refine sl_Ic (rVo_I (wc := []) (As := [.int p1, .int 0]) (rest := []) X (andX_st hp_st (sO_st sa sv sn sf)) X.2.2.2.2.2.2.2 (gJ0_indexOf2 l dC dI cy sa _ _ _ p1 hsn) kJ0_indexOf_7cf53 vJ0_indexOf_7cf53 mJ0_633 hP hD hS hA [] rfl rfl X.2.2.2.2.2.2.2.2.1 hl rfl rfl (Nat.le_of_ble_eq_true rfl) dJ0_indexOf_0f7a4_3 ⟨(Nat.le_of_ble_eq_true rfl), (Nat.le_of_ble_eq_true rfl)⟩ ⟨(Nat.le_of_ble_eq_true rfl), (Nat.le_of_ble_eq_true rfl)⟩) hP hD hS hA [] [] rfl rfl rfl (fun r_2 u_4 H locs k_3 hP hD hS => ?_)
  have k_3 : ((-1) ≤ r_2.toInt ∧ r_2.toInt ≤ 999) ∧ (r_2.toInt < (sn : Int)) ∧ (ixP sf sn p1.toInt r_2.toInt) := k_3
  obtain ⟨k_3_0, k_3_1, k_3_2⟩ := k_3
  have hPD := vPD (ws' := []) hP hD rfl
  have hP := hPD.1
  have hD := hPD.2
  exact eI hQ X hr hlocks hP hD hS () [] (by decide) rfl rfl (show ((-1) ≤ r_2.toInt ∧ r_2.toInt ≤ 999) ∧ (r_2.toInt < (sn : Int)) ∧ (ixP sf sn p1.toInt r_2.toInt) from ⟨(by omega), (by omega), (by assumption)⟩) (Nat.le_of_ble_eq_true rfl) (Nat.le_of_ble_eq_true rfl) dJ0_indexOf_0f7a4_6
end
