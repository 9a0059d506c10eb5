set_option maxHeartbeats 4000000 in
set_option maxRecDepth 100000 in
theorem tX4_ini (l : Launch) (dC : Nat → ClassId) (dI : Nat → Nat → Nat) (cy : Nat → ClassId) (h0 : Nat) : ctV l dC dI cy yX4_init cX4_init 1 ({ frames := 1, cells := 1, slots := 20, locals := 12 }) [.ref h0] [(h0, .inr (4, [.int 0, .int 0, .int 0, .null]))] (S := Nat) (fun _ => True) (fun q1 => [(h0, .inr (4, [.int 0, .int 0, .int 0, .ref q1]))]) := by
  refine ctV.of (by decide +kernel) (Nat.le_of_ble_eq_true rfl) ?_
  intro p e s m args below meth c A ls X hr hlocks hin hA hP hD hS hl
  have hx := X.1
  have hb := X.2.1
  have hK := X.2.2.2.2.2.1
  have hl : lv_has ls 1 [(0, .ref h0)] := hl
  refine lv_aload_n hx hb dX4_init_0 rfl (lv_at hl 0 rfl) ?_
  refine r_oinit X hl w_183 dX4_init_1 (Nat.le_of_ble_eq_true rfl) (Nat.le_of_ble_eq_true rfl) ?_
  refine lv_aload_n hx hb dX4_init_4 rfl (lv_at hl 0 rfl) ?_
  refine lv_bipush (v := 20) hx hb dX4_init_5 (by decide) ?_
  refine r_newa X (atype := .int) (ty := .int) (t0 := 1) (N' := 20) (a0 := (20, .inl (fun _ => 0))) rfl w_207 rfl hP hD hS hA (fun _ => rfl) (by decide) (by decide) (Nat.le_of_ble_eq_true rfl) (Nat.le_of_ble_eq_true rfl) (Nat.le_of_ble_eq_true rfl) dX4_init_7 (fun q_1 H hP hD hS => ?_)
  have hP : va_P (dC, dI) vwCl [(h0, .inr (4, [.int 0, .int 0, .int 0, .null])), (q_1, .inl (cy 1, 20, .inl ((fun _ => 0))))] H := hP
  have hD : va_D A [(h0, .inr (4, [.int 0, .int 0, .int 0, .null])), (q_1, .inl (cy 1, 20, .inl ((fun _ => 0))))] := hD
  refine r_putF X kcX4 (ci := 4) rfl hP hD hS hin 0 rfl 3 (by decide) w_197 rfl rfl rfl rfl (Nat.le_of_ble_eq_true rfl) dX4_init_9 (fun H locs hP hD hS => ?_)
  have hP : va_P (dC, dI) vwCl [(h0, .inr (4, [.int 0, .int 0, .int 0, .ref q_1])), (q_1, .inl (cy 1, 20, .inl ((fun _ => 0))))] H := hP
  have hD : va_D A [(h0, .inr (4, [.int 0, .int 0, .int 0, .ref q_1])), (q_1, .inl (cy 1, 20, .inl ((fun _ => 0))))] := hD
  exact eV X hr hlocks hP hD hS q_1 [0] (by decide) rfl trivial (Nat.le_of_ble_eq_true rfl) (Nat.le_of_ble_eq_true rfl) dX4_init_12
set_option maxHeartbeats 4000000 in
set_option maxRecDepth 100000 in
theorem tX6_ini (l : Launch) (dC : Nat → ClassId) (dI : Nat → Nat → Nat) (cy : Nat → ClassId) (h0 : Nat) : ctV l dC dI cy yX6_init cX6_init 1 ({ frames := 2, cells := 5, slots := 36, locals := 32 }) [.ref h0] [(h0, .inr (6, [.null, .null, .null, .null, .int 0]))] (S := Nat × Nat × Nat × Nat × Nat) (fun _ => True) (fun u => match u with | (g1, g2, a1, a2, a3) => [(h0, .inr (6, [.ref g1, .ref a1, .ref a2, .ref a3, .int 0])), (g1, .inr (4, [.int 0, .int 0, .int 0, .ref g2]))]) := by
  refine ctV.of (by decide +kernel) (Nat.le_of_ble_eq_true rfl) ?_
  intro p e s m args below meth c A ls X hr hlocks hin hA hP hD hS hl
  have hx := X.1
  have hb := X.2.1
  have hK := X.2.2.2.2.2.1
  have hl : lv_has ls 1 [(0, .ref h0)] := hl
  refine lv_aload_n hx hb dX6_init_0 rfl (lv_at hl 0 rfl) ?_
  refine r_oinit X hl w_177 dX6_init_1 (Nat.le_of_ble_eq_true rfl) (Nat.le_of_ble_eq_true rfl) ?_
  refine lv_aload_n hx hb dX6_init_4 rfl (lv_at hl 0 rfl) ?_
  refine r_new X kcX4 (ci := 4) rfl w_178 w_179 w_103 hP hD hS hA [.int 0, .int 0, .int 0, .null] (fun j hj => by rcases (show j = 0 ∨ j = 1 ∨ j = 2 ∨ j = 3 by omega) with rfl | rfl | rfl | rfl <;> rfl) (Nat.le_of_ble_eq_true rfl) (Nat.le_of_ble_eq_true rfl) dX6_init_5 (fun q_1 H hP hD hS => ?_)
  have hP : va_P (dC, dI) vwCl [(h0, .inr (6, [.null, .null, .null, .null, .int 0])), (q_1, .inr (4, [.int 0, .int 0, .int 0, .null]))] H := hP
  have hD : va_D A [(h0, .inr (6, [.null, .null, .null, .null, .int 0])), (q_1, .inr (4, [.int 0, .int 0, .int 0, .null]))] := hD
  refine lv_dup hx hb dX6_init_8 rfl ?_
  refine fV (wr := [(h0, .inr (6, [.null, .null, .null, .null, .int 0]))]) (rC_V (wc := [(q_1, .inr (4, [.int 0, .int 0, .int 0, .null]))]) (As := []) (rest := [.ref q_1, .ref h0]) X (tX4_ini l dC dI cy q_1) kX4_init w_181 rfl mX6_11 hP hD [1] (by decide) rfl hl rfl rfl (Nat.le_of_ble_eq_true rfl) dX6_init_9 ⟨Nat.le_of_ble_eq_true rfl, Nat.le_of_ble_eq_true rfl⟩ ⟨Nat.le_of_ble_eq_true rfl, Nat.le_of_ble_eq_true rfl⟩) hP hD hS hA [1] [0] rfl rfl (by decide) (by decide) (fun u_5 H locs k_4 hP hD hS => ?_)
  obtain ⟨q1_2, eu_5⟩ : ∃ z, z = u_5 := ⟨_, rfl⟩
  subst eu_5
  have hP : va_P (dC, dI) vwCl [(h0, .inr (6, [.null, .null, .null, .null, .int 0])), (q_1, .inr (4, [.int 0, .int 0, .int 0, .ref q1_2]))] H := hP
  have hD : va_D A [(h0, .inr (6, [.null, .null, .null, .null, .int 0])), (q_1, .inr (4, [.int 0, .int 0, .int 0, .ref q1_2]))] := hD
  refine r_putF X kcX6 (ci := 6) rfl hP hD hS hin 0 rfl 0 (by decide) w_208 rfl rfl rfl rfl (Nat.le_of_ble_eq_true rfl) dX6_init_12 (fun H locs hP hD hS => ?_)
  have hP : va_P (dC, dI) vwCl [(h0, .inr (6, [.ref q_1, .null, .null, .null, .int 0])), (q_1, .inr (4, [.int 0, .int 0, .int 0, .ref q1_2]))] H := hP
  have hD : va_D A [(h0, .inr (6, [.ref q_1, .null, .null, .null, .int 0])), (q_1, .inr (4, [.int 0, .int 0, .int 0, .ref q1_2]))] := hD
  refine lv_aload_n hx hb dX6_init_15 rfl (lv_at hl 0 rfl) ?_
  refine lv_iconst (v := 4) hx hb dX6_init_16 (by decide) ?_
  refine r_newa X (atype := .int) (ty := .int) (t0 := 1) (N' := 4) (a0 := (4, .inl (fun _ => 0))) rfl w_207 rfl hP hD hS hA (fun _ => rfl) (by decide) (by decide) (Nat.le_of_ble_eq_true rfl) (Nat.le_of_ble_eq_true rfl) (Nat.le_of_ble_eq_true rfl) dX6_init_17 (fun q_6 H hP hD hS => ?_)
  have hP : va_P (dC, dI) vwCl [(h0, .inr (6, [.ref q_1, .null, .null, .null, .int 0])), (q_1, .inr (4, [.int 0, .int 0, .int 0, .ref q1_2])), (q_6, .inl (cy 1, 4, .inl ((fun _ => 0))))] H := hP
  have hD : va_D A [(h0, .inr (6, [.ref q_1, .null, .null, .null, .int 0])), (q_1, .inr (4, [.int 0, .int 0, .int 0, .ref q1_2])), (q_6, .inl (cy 1, 4, .inl ((fun _ => 0))))] := hD
  refine r_putF X kcX6 (ci := 6) rfl hP hD hS hin 0 rfl 1 (by decide) w_211 rfl rfl rfl rfl (Nat.le_of_ble_eq_true rfl) dX6_init_19 (fun H locs hP hD hS => ?_)
  have hP : va_P (dC, dI) vwCl [(h0, .inr (6, [.ref q_1, .ref q_6, .null, .null, .int 0])), (q_1, .inr (4, [.int 0, .int 0, .int 0, .ref q1_2])), (q_6, .inl (cy 1, 4, .inl ((fun _ => 0))))] H := hP
  have hD : va_D A [(h0, .inr (6, [.ref q_1, .ref q_6, .null, .null, .int 0])), (q_1, .inr (4, [.int 0, .int 0, .int 0, .ref q1_2])), (q_6, .inl (cy 1, 4, .inl ((fun _ => 0))))] := hD
  refine lv_aload_n hx hb dX6_init_22 rfl (lv_at hl 0 rfl) ?_
  refine lv_iconst (v := 4) hx hb dX6_init_23 (by decide) ?_
  refine r_newa X (atype := .int) (ty := .int) (t0 := 1) (N' := 4) (a0 := (4, .inl (fun _ => 0))) rfl w_207 rfl hP hD hS hA (fun _ => rfl) (by decide) (by decide) (Nat.le_of_ble_eq_true rfl) (Nat.le_of_ble_eq_true rfl) (Nat.le_of_ble_eq_true rfl) dX6_init_24 (fun q_7 H hP hD hS => ?_)
  have hP : va_P (dC, dI) vwCl [(h0, .inr (6, [.ref q_1, .ref q_6, .null, .null, .int 0])), (q_1, .inr (4, [.int 0, .int 0, .int 0, .ref q1_2])), (q_6, .inl (cy 1, 4, .inl ((fun _ => 0)))), (q_7, .inl (cy 1, 4, .inl ((fun _ => 0))))] H := hP
  have hD : va_D A [(h0, .inr (6, [.ref q_1, .ref q_6, .null, .null, .int 0])), (q_1, .inr (4, [.int 0, .int 0, .int 0, .ref q1_2])), (q_6, .inl (cy 1, 4, .inl ((fun _ => 0)))), (q_7, .inl (cy 1, 4, .inl ((fun _ => 0))))] := hD
  refine r_putF X kcX6 (ci := 6) rfl hP hD hS hin 0 rfl 2 (by decide) w_214 rfl rfl rfl rfl (Nat.le_of_ble_eq_true rfl) dX6_init_26 (fun H locs hP hD hS => ?_)
  have hP : va_P (dC, dI) vwCl [(h0, .inr (6, [.ref q_1, .ref q_6, .ref q_7, .null, .int 0])), (q_1, .inr (4, [.int 0, .int 0, .int 0, .ref q1_2])), (q_6, .inl (cy 1, 4, .inl ((fun _ => 0)))), (q_7, .inl (cy 1, 4, .inl ((fun _ => 0))))] H := hP
  have hD : va_D A [(h0, .inr (6, [.ref q_1, .ref q_6, .ref q_7, .null, .int 0])), (q_1, .inr (4, [.int 0, .int 0, .int 0, .ref q1_2])), (q_6, .inl (cy 1, 4, .inl ((fun _ => 0)))), (q_7, .inl (cy 1, 4, .inl ((fun _ => 0))))] := hD
  refine lv_aload_n hx hb dX6_init_29 rfl (lv_at hl 0 rfl) ?_
  refine lv_iconst (v := 4) hx hb dX6_init_30 (by decide) ?_
  refine r_newa X (atype := .int) (ty := .int) (t0 := 1) (N' := 4) (a0 := (4, .inl (fun _ => 0))) rfl w_207 rfl hP hD hS hA (fun _ => rfl) (by decide) (by decide) (Nat.le_of_ble_eq_true rfl) (Nat.le_of_ble_eq_true rfl) (Nat.le_of_ble_eq_true rfl) dX6_init_31 (fun q_8 H hP hD hS => ?_)
  have hP : va_P (dC, dI) vwCl [(h0, .inr (6, [.ref q_1, .ref q_6, .ref q_7, .null, .int 0])), (q_1, .inr (4, [.int 0, .int 0, .int 0, .ref q1_2])), (q_6, .inl (cy 1, 4, .inl ((fun _ => 0)))), (q_7, .inl (cy 1, 4, .inl ((fun _ => 0)))), (q_8, .inl (cy 1, 4, .inl ((fun _ => 0))))] H := hP
  have hD : va_D A [(h0, .inr (6, [.ref q_1, .ref q_6, .ref q_7, .null, .int 0])), (q_1, .inr (4, [.int 0, .int 0, .int 0, .ref q1_2])), (q_6, .inl (cy 1, 4, .inl ((fun _ => 0)))), (q_7, .inl (cy 1, 4, .inl ((fun _ => 0)))), (q_8, .inl (cy 1, 4, .inl ((fun _ => 0))))] := hD
  refine r_putF X kcX6 (ci := 6) rfl hP hD hS hin 0 rfl 3 (by decide) w_216 rfl rfl rfl rfl (Nat.le_of_ble_eq_true rfl) dX6_init_33 (fun H locs hP hD hS => ?_)
  have hP : va_P (dC, dI) vwCl [(h0, .inr (6, [.ref q_1, .ref q_6, .ref q_7, .ref q_8, .int 0])), (q_1, .inr (4, [.int 0, .int 0, .int 0, .ref q1_2])), (q_6, .inl (cy 1, 4, .inl ((fun _ => 0)))), (q_7, .inl (cy 1, 4, .inl ((fun _ => 0)))), (q_8, .inl (cy 1, 4, .inl ((fun _ => 0))))] H := hP
  have hD : va_D A [(h0, .inr (6, [.ref q_1, .ref q_6, .ref q_7, .ref q_8, .int 0])), (q_1, .inr (4, [.int 0, .int 0, .int 0, .ref q1_2])), (q_6, .inl (cy 1, 4, .inl ((fun _ => 0)))), (q_7, .inl (cy 1, 4, .inl ((fun _ => 0)))), (q_8, .inl (cy 1, 4, .inl ((fun _ => 0))))] := hD
  exact eV X hr hlocks hP hD hS (q_1, q1_2, q_6, q_7, q_8) [0, 1] (by decide) rfl trivial (Nat.le_of_ble_eq_true rfl) (Nat.le_of_ble_eq_true rfl) dX6_init_36
set_option maxHeartbeats 4000000 in
set_option maxRecDepth 100000 in
theorem tX10_ini (l : Launch) (dC : Nat → ClassId) (dI : Nat → Nat → Nat) (cy : Nat → ClassId) (h0 : Nat) : ctV l dC dI cy yX10_init cX10_init 1 ({ frames := 1, cells := 6, slots := 242, locals := 12 }) [.ref h0] [(h0, .inr (9, [.null, .null, .null, .null, .null, .null, .int 0, .int 0]))] (S := Unit) (fun _ => True) (fun _ => []) := by
  refine ctV.of (by decide +kernel) (Nat.le_of_ble_eq_true rfl) ?_
  intro p e s m args below meth c A ls X hr hlocks hin hA hP hD hS hl
  have hx := X.1
  have hb := X.2.1
  have hK := X.2.2.2.2.2.1
  have hl : lv_has ls 1 [(0, .ref h0)] := hl
  refine lv_aload_n hx hb dX10_init_0 rfl (lv_at hl 0 rfl) ?_
  refine r_oinit X hl w_236 dX10_init_1 (Nat.le_of_ble_eq_true rfl) (Nat.le_of_ble_eq_true rfl) ?_
  refine lv_aload_n hx hb dX10_init_4 rfl (lv_at hl 0 rfl) ?_
  refine lv_bipush (v := 80) hx hb dX10_init_5 (by decide) ?_
  refine r_newa X (atype := .int) (ty := .int) (t0 := 1) (N' := 80) (a0 := (80, .inl (fun _ => 0))) rfl w_207 rfl hP hD hS hA (fun _ => rfl) (by decide) (by decide) (Nat.le_of_ble_eq_true rfl) (Nat.le_of_ble_eq_true rfl) (Nat.le_of_ble_eq_true rfl) dX10_init_7 (fun q_1 H hP hD hS => ?_)
  have hP : va_P (dC, dI) vwCl [(h0, .inr (9, [.null, .null, .null, .null, .null, .null, .int 0, .int 0])), (q_1, .inl (cy 1, 80, .inl ((fun _ => 0))))] H := hP
  have hD : va_D A [(h0, .inr (9, [.null, .null, .null, .null, .null, .null, .int 0, .int 0])), (q_1, .inl (cy 1, 80, .inl ((fun _ => 0))))] := hD
  refine r_putF X kcX10 (ci := 9) rfl hP hD hS hin 0 rfl 0 (by decide) w_237 rfl rfl rfl rfl (Nat.le_of_ble_eq_true rfl) dX10_init_9 (fun H locs hP hD hS => ?_)
  have hP : va_P (dC, dI) vwCl [(h0, .inr (9, [.ref q_1, .null, .null, .null, .null, .null, .int 0, .int 0])), (q_1, .inl (cy 1, 80, .inl ((fun _ => 0))))] H := hP
  have hD : va_D A [(h0, .inr (9, [.ref q_1, .null, .null, .null, .null, .null, .int 0, .int 0])), (q_1, .inl (cy 1, 80, .inl ((fun _ => 0))))] := hD
  refine lv_aload_n hx hb dX10_init_12 rfl (lv_at hl 0 rfl) ?_
  refine lv_bipush (v := 80) hx hb dX10_init_13 (by decide) ?_
  refine r_newa X (atype := .int) (ty := .int) (t0 := 1) (N' := 80) (a0 := (80, .inl (fun _ => 0))) rfl w_207 rfl hP hD hS hA (fun _ => rfl) (by decide) (by decide) (Nat.le_of_ble_eq_true rfl) (Nat.le_of_ble_eq_true rfl) (Nat.le_of_ble_eq_true rfl) dX10_init_15 (fun q_2 H hP hD hS => ?_)
  have hP : va_P (dC, dI) vwCl [(h0, .inr (9, [.ref q_1, .null, .null, .null, .null, .null, .int 0, .int 0])), (q_1, .inl (cy 1, 80, .inl ((fun _ => 0)))), (q_2, .inl (cy 1, 80, .inl ((fun _ => 0))))] H := hP
  have hD : va_D A [(h0, .inr (9, [.ref q_1, .null, .null, .null, .null, .null, .int 0, .int 0])), (q_1, .inl (cy 1, 80, .inl ((fun _ => 0)))), (q_2, .inl (cy 1, 80, .inl ((fun _ => 0))))] := hD
  refine r_putF X kcX10 (ci := 9) rfl hP hD hS hin 0 rfl 1 (by decide) w_238 rfl rfl rfl rfl (Nat.le_of_ble_eq_true rfl) dX10_init_17 (fun H locs hP hD hS => ?_)
  have hP : va_P (dC, dI) vwCl [(h0, .inr (9, [.ref q_1, .ref q_2, .null, .null, .null, .null, .int 0, .int 0])), (q_1, .inl (cy 1, 80, .inl ((fun _ => 0)))), (q_2, .inl (cy 1, 80, .inl ((fun _ => 0))))] H := hP
  have hD : va_D A [(h0, .inr (9, [.ref q_1, .ref q_2, .null, .null, .null, .null, .int 0, .int 0])), (q_1, .inl (cy 1, 80, .inl ((fun _ => 0)))), (q_2, .inl (cy 1, 80, .inl ((fun _ => 0))))] := hD
  refine lv_aload_n hx hb dX10_init_20 rfl (lv_at hl 0 rfl) ?_
  refine lv_bipush (v := 20) hx hb dX10_init_21 (by decide) ?_
  refine r_newa X (atype := .int) (ty := .int) (t0 := 1) (N' := 20) (a0 := (20, .inl (fun _ => 0))) rfl w_207 rfl hP hD hS hA (fun _ => rfl) (by decide) (by decide) (Nat.le_of_ble_eq_true rfl) (Nat.le_of_ble_eq_true rfl) (Nat.le_of_ble_eq_true rfl) dX10_init_23 (fun q_3 H hP hD hS => ?_)
  have hP : va_P (dC, dI) vwCl [(h0, .inr (9, [.ref q_1, .ref q_2, .null, .null, .null, .null, .int 0, .int 0])), (q_1, .inl (cy 1, 80, .inl ((fun _ => 0)))), (q_2, .inl (cy 1, 80, .inl ((fun _ => 0)))), (q_3, .inl (cy 1, 20, .inl ((fun _ => 0))))] H := hP
  have hD : va_D A [(h0, .inr (9, [.ref q_1, .ref q_2, .null, .null, .null, .null, .int 0, .int 0])), (q_1, .inl (cy 1, 80, .inl ((fun _ => 0)))), (q_2, .inl (cy 1, 80, .inl ((fun _ => 0)))), (q_3, .inl (cy 1, 20, .inl ((fun _ => 0))))] := hD
  refine r_putF X kcX10 (ci := 9) rfl hP hD hS hin 0 rfl 2 (by decide) w_239 rfl rfl rfl rfl (Nat.le_of_ble_eq_true rfl) dX10_init_25 (fun H locs hP hD hS => ?_)
  have hP : va_P (dC, dI) vwCl [(h0, .inr (9, [.ref q_1, .ref q_2, .ref q_3, .null, .null, .null, .int 0, .int 0])), (q_1, .inl (cy 1, 80, .inl ((fun _ => 0)))), (q_2, .inl (cy 1, 80, .inl ((fun _ => 0)))), (q_3, .inl (cy 1, 20, .inl ((fun _ => 0))))] H := hP
  have hD : va_D A [(h0, .inr (9, [.ref q_1, .ref q_2, .ref q_3, .null, .null, .null, .int 0, .int 0])), (q_1, .inl (cy 1, 80, .inl ((fun _ => 0)))), (q_2, .inl (cy 1, 80, .inl ((fun _ => 0)))), (q_3, .inl (cy 1, 20, .inl ((fun _ => 0))))] := hD
  refine lv_aload_n hx hb dX10_init_28 rfl (lv_at hl 0 rfl) ?_
  refine lv_bipush (v := 20) hx hb dX10_init_29 (by decide) ?_
  refine r_newa X (atype := .int) (ty := .int) (t0 := 1) (N' := 20) (a0 := (20, .inl (fun _ => 0))) rfl w_207 rfl hP hD hS hA (fun _ => rfl) (by decide) (by decide) (Nat.le_of_ble_eq_true rfl) (Nat.le_of_ble_eq_true rfl) (Nat.le_of_ble_eq_true rfl) dX10_init_31 (fun q_4 H hP hD hS => ?_)
  have hP : va_P (dC, dI) vwCl [(h0, .inr (9, [.ref q_1, .ref q_2, .ref q_3, .null, .null, .null, .int 0, .int 0])), (q_1, .inl (cy 1, 80, .inl ((fun _ => 0)))), (q_2, .inl (cy 1, 80, .inl ((fun _ => 0)))), (q_3, .inl (cy 1, 20, .inl ((fun _ => 0)))), (q_4, .inl (cy 1, 20, .inl ((fun _ => 0))))] H := hP
  have hD : va_D A [(h0, .inr (9, [.ref q_1, .ref q_2, .ref q_3, .null, .null, .null, .int 0, .int 0])), (q_1, .inl (cy 1, 80, .inl ((fun _ => 0)))), (q_2, .inl (cy 1, 80, .inl ((fun _ => 0)))), (q_3, .inl (cy 1, 20, .inl ((fun _ => 0)))), (q_4, .inl (cy 1, 20, .inl ((fun _ => 0))))] := hD
  refine r_putF X kcX10 (ci := 9) rfl hP hD hS hin 0 rfl 3 (by decide) w_240 rfl rfl rfl rfl (Nat.le_of_ble_eq_true rfl) dX10_init_33 (fun H locs hP hD hS => ?_)
  have hP : va_P (dC, dI) vwCl [(h0, .inr (9, [.ref q_1, .ref q_2, .ref q_3, .ref q_4, .null, .null, .int 0, .int 0])), (q_1, .inl (cy 1, 80, .inl ((fun _ => 0)))), (q_2, .inl (cy 1, 80, .inl ((fun _ => 0)))), (q_3, .inl (cy 1, 20, .inl ((fun _ => 0)))), (q_4, .inl (cy 1, 20, .inl ((fun _ => 0))))] H := hP
  have hD : va_D A [(h0, .inr (9, [.ref q_1, .ref q_2, .ref q_3, .ref q_4, .null, .null, .int 0, .int 0])), (q_1, .inl (cy 1, 80, .inl ((fun _ => 0)))), (q_2, .inl (cy 1, 80, .inl ((fun _ => 0)))), (q_3, .inl (cy 1, 20, .inl ((fun _ => 0)))), (q_4, .inl (cy 1, 20, .inl ((fun _ => 0))))] := hD
  refine lv_aload_n hx hb dX10_init_36 rfl (lv_at hl 0 rfl) ?_
  refine lv_bipush (v := 21) hx hb dX10_init_37 (by decide) ?_
  refine r_newa X (atype := .int) (ty := .int) (t0 := 1) (N' := 21) (a0 := (21, .inl (fun _ => 0))) rfl w_207 rfl hP hD hS hA (fun _ => rfl) (by decide) (by decide) (Nat.le_of_ble_eq_true rfl) (Nat.le_of_ble_eq_true rfl) (Nat.le_of_ble_eq_true rfl) dX10_init_39 (fun q_5 H hP hD hS => ?_)
  have hP : va_P (dC, dI) vwCl [(h0, .inr (9, [.ref q_1, .ref q_2, .ref q_3, .ref q_4, .null, .null, .int 0, .int 0])), (q_1, .inl (cy 1, 80, .inl ((fun _ => 0)))), (q_2, .inl (cy 1, 80, .inl ((fun _ => 0)))), (q_3, .inl (cy 1, 20, .inl ((fun _ => 0)))), (q_4, .inl (cy 1, 20, .inl ((fun _ => 0)))), (q_5, .inl (cy 1, 21, .inl ((fun _ => 0))))] H := hP
  have hD : va_D A [(h0, .inr (9, [.ref q_1, .ref q_2, .ref q_3, .ref q_4, .null, .null, .int 0, .int 0])), (q_1, .inl (cy 1, 80, .inl ((fun _ => 0)))), (q_2, .inl (cy 1, 80, .inl ((fun _ => 0)))), (q_3, .inl (cy 1, 20, .inl ((fun _ => 0)))), (q_4, .inl (cy 1, 20, .inl ((fun _ => 0)))), (q_5, .inl (cy 1, 21, .inl ((fun _ => 0))))] := hD
  refine r_putF X kcX10 (ci := 9) rfl hP hD hS hin 0 rfl 4 (by decide) w_242 rfl rfl rfl rfl (Nat.le_of_ble_eq_true rfl) dX10_init_41 (fun H locs hP hD hS => ?_)
  have hP : va_P (dC, dI) vwCl [(h0, .inr (9, [.ref q_1, .ref q_2, .ref q_3, .ref q_4, .ref q_5, .null, .int 0, .int 0])), (q_1, .inl (cy 1, 80, .inl ((fun _ => 0)))), (q_2, .inl (cy 1, 80, .inl ((fun _ => 0)))), (q_3, .inl (cy 1, 20, .inl ((fun _ => 0)))), (q_4, .inl (cy 1, 20, .inl ((fun _ => 0)))), (q_5, .inl (cy 1, 21, .inl ((fun _ => 0))))] H := hP
  have hD : va_D A [(h0, .inr (9, [.ref q_1, .ref q_2, .ref q_3, .ref q_4, .ref q_5, .null, .int 0, .int 0])), (q_1, .inl (cy 1, 80, .inl ((fun _ => 0)))), (q_2, .inl (cy 1, 80, .inl ((fun _ => 0)))), (q_3, .inl (cy 1, 20, .inl ((fun _ => 0)))), (q_4, .inl (cy 1, 20, .inl ((fun _ => 0)))), (q_5, .inl (cy 1, 21, .inl ((fun _ => 0))))] := hD
  refine lv_aload_n hx hb dX10_init_44 rfl (lv_at hl 0 rfl) ?_
  refine lv_bipush (v := 21) hx hb dX10_init_45 (by decide) ?_
  refine r_newa X (atype := .int) (ty := .int) (t0 := 1) (N' := 21) (a0 := (21, .inl (fun _ => 0))) rfl w_207 rfl hP hD hS hA (fun _ => rfl) (by decide) (by decide) (Nat.le_of_ble_eq_true rfl) (Nat.le_of_ble_eq_true rfl) (Nat.le_of_ble_eq_true rfl) dX10_init_47 (fun q_6 H hP hD hS => ?_)
  have hP : va_P (dC, dI) vwCl [(h0, .inr (9, [.ref q_1, .ref q_2, .ref q_3, .ref q_4, .ref q_5, .null, .int 0, .int 0])), (q_1, .inl (cy 1, 80, .inl ((fun _ => 0)))), (q_2, .inl (cy 1, 80, .inl ((fun _ => 0)))), (q_3, .inl (cy 1, 20, .inl ((fun _ => 0)))), (q_4, .inl (cy 1, 20, .inl ((fun _ => 0)))), (q_5, .inl (cy 1, 21, .inl ((fun _ => 0)))), (q_6, .inl (cy 1, 21, .inl ((fun _ => 0))))] H := hP
  have hD : va_D A [(h0, .inr (9, [.ref q_1, .ref q_2, .ref q_3, .ref q_4, .ref q_5, .null, .int 0, .int 0])), (q_1, .inl (cy 1, 80, .inl ((fun _ => 0)))), (q_2, .inl (cy 1, 80, .inl ((fun _ => 0)))), (q_3, .inl (cy 1, 20, .inl ((fun _ => 0)))), (q_4, .inl (cy 1, 20, .inl ((fun _ => 0)))), (q_5, .inl (cy 1, 21, .inl ((fun _ => 0)))), (q_6, .inl (cy 1, 21, .inl ((fun _ => 0))))] := hD
  refine r_putF X kcX10 (ci := 9) rfl hP hD hS hin 0 rfl 5 (by decide) w_243 rfl rfl rfl rfl (Nat.le_of_ble_eq_true rfl) dX10_init_49 (fun H locs hP hD hS => ?_)
  have hP : va_P (dC, dI) vwCl [(h0, .inr (9, [.ref q_1, .ref q_2, .ref q_3, .ref q_4, .ref q_5, .ref q_6, .int 0, .int 0])), (q_1, .inl (cy 1, 80, .inl ((fun _ => 0)))), (q_2, .inl (cy 1, 80, .inl ((fun _ => 0)))), (q_3, .inl (cy 1, 20, .inl ((fun _ => 0)))), (q_4, .inl (cy 1, 20, .inl ((fun _ => 0)))), (q_5, .inl (cy 1, 21, .inl ((fun _ => 0)))), (q_6, .inl (cy 1, 21, .inl ((fun _ => 0))))] H := hP
  have hD : va_D A [(h0, .inr (9, [.ref q_1, .ref q_2, .ref q_3, .ref q_4, .ref q_5, .ref q_6, .int 0, .int 0])), (q_1, .inl (cy 1, 80, .inl ((fun _ => 0)))), (q_2, .inl (cy 1, 80, .inl ((fun _ => 0)))), (q_3, .inl (cy 1, 20, .inl ((fun _ => 0)))), (q_4, .inl (cy 1, 20, .inl ((fun _ => 0)))), (q_5, .inl (cy 1, 21, .inl ((fun _ => 0)))), (q_6, .inl (cy 1, 21, .inl ((fun _ => 0))))] := hD
  exact eV X hr hlocks hP hD hS () [] (by decide) rfl trivial (Nat.le_of_ble_eq_true rfl) (Nat.le_of_ble_eq_true rfl) dX10_init_52
set_option maxHeartbeats 4000000 in
set_option maxRecDepth 100000 in
theorem tX2_ini (l : Launch) (dC : Nat → ClassId) (dI : Nat → Nat → Nat) (cy : Nat → ClassId) (h0 : Nat) : ctV l dC dI cy yX2_init cX2_init 1 ({ frames := 1, cells := 3, slots := 60, locals := 12 }) [.ref h0] [(h0, .inr (2, [.null, .null, .null]))] (S := Nat × Nat × Nat) (fun _ => True) (fun u => match u with | (q1, q2, q3) => [(h0, .inr (2, [.ref q1, .ref q2, .ref q3]))]) := by
  refine ctV.of (by decide +kernel) (Nat.le_of_ble_eq_true rfl) ?_
  intro p e s m args below meth c A ls X hr hlocks hin hA hP hD hS hl
  have hx := X.1
  have hb := X.2.1
  have hK := X.2.2.2.2.2.1
  have hl : lv_has ls 1 [(0, .ref h0)] := hl
  refine lv_aload_n hx hb dX2_init_0 rfl (lv_at hl 0 rfl) ?_
  refine r_oinit X hl w_269 dX2_init_1 (Nat.le_of_ble_eq_true rfl) (Nat.le_of_ble_eq_true rfl) ?_
  refine lv_aload_n hx hb dX2_init_4 rfl (lv_at hl 0 rfl) ?_
  refine lv_bipush (v := 20) hx hb dX2_init_5 (by decide) ?_
  refine r_newa X (atype := .int) (ty := .int) (t0 := 1) (N' := 20) (a0 := (20, .inl (fun _ => 0))) rfl w_207 rfl hP hD hS hA (fun _ => rfl) (by decide) (by decide) (Nat.le_of_ble_eq_true rfl) (Nat.le_of_ble_eq_true rfl) (Nat.le_of_ble_eq_true rfl) dX2_init_7 (fun q_1 H hP hD hS => ?_)
  have hP : va_P (dC, dI) vwCl [(h0, .inr (2, [.null, .null, .null])), (q_1, .inl (cy 1, 20, .inl ((fun _ => 0))))] H := hP
  have hD : va_D A [(h0, .inr (2, [.null, .null, .null])), (q_1, .inl (cy 1, 20, .inl ((fun _ => 0))))] := hD
  refine r_putF X kcX2 (ci := 2) rfl hP hD hS hin 0 rfl 0 (by decide) w_270 rfl rfl rfl rfl (Nat.le_of_ble_eq_true rfl) dX2_init_9 (fun H locs hP hD hS => ?_)
  have hP : va_P (dC, dI) vwCl [(h0, .inr (2, [.ref q_1, .null, .null])), (q_1, .inl (cy 1, 20, .inl ((fun _ => 0))))] H := hP
  have hD : va_D A [(h0, .inr (2, [.ref q_1, .null, .null])), (q_1, .inl (cy 1, 20, .inl ((fun _ => 0))))] := hD
  refine lv_aload_n hx hb dX2_init_12 rfl (lv_at hl 0 rfl) ?_
  refine lv_bipush (v := 20) hx hb dX2_init_13 (by decide) ?_
  refine r_newa X (atype := .int) (ty := .int) (t0 := 1) (N' := 20) (a0 := (20, .inl (fun _ => 0))) rfl w_207 rfl hP hD hS hA (fun _ => rfl) (by decide) (by decide) (Nat.le_of_ble_eq_true rfl) (Nat.le_of_ble_eq_true rfl) (Nat.le_of_ble_eq_true rfl) dX2_init_15 (fun q_2 H hP hD hS => ?_)
  have hP : va_P (dC, dI) vwCl [(h0, .inr (2, [.ref q_1, .null, .null])), (q_1, .inl (cy 1, 20, .inl ((fun _ => 0)))), (q_2, .inl (cy 1, 20, .inl ((fun _ => 0))))] H := hP
  have hD : va_D A [(h0, .inr (2, [.ref q_1, .null, .null])), (q_1, .inl (cy 1, 20, .inl ((fun _ => 0)))), (q_2, .inl (cy 1, 20, .inl ((fun _ => 0))))] := hD
  refine r_putF X kcX2 (ci := 2) rfl hP hD hS hin 0 rfl 1 (by decide) w_271 rfl rfl rfl rfl (Nat.le_of_ble_eq_true rfl) dX2_init_17 (fun H locs hP hD hS => ?_)
  have hP : va_P (dC, dI) vwCl [(h0, .inr (2, [.ref q_1, .ref q_2, .null])), (q_1, .inl (cy 1, 20, .inl ((fun _ => 0)))), (q_2, .inl (cy 1, 20, .inl ((fun _ => 0))))] H := hP
  have hD : va_D A [(h0, .inr (2, [.ref q_1, .ref q_2, .null])), (q_1, .inl (cy 1, 20, .inl ((fun _ => 0)))), (q_2, .inl (cy 1, 20, .inl ((fun _ => 0))))] := hD
  refine lv_aload_n hx hb dX2_init_20 rfl (lv_at hl 0 rfl) ?_
  refine lv_bipush (v := 20) hx hb dX2_init_21 (by decide) ?_
  refine r_newa X (atype := .int) (ty := .int) (t0 := 1) (N' := 20) (a0 := (20, .inl (fun _ => 0))) rfl w_207 rfl hP hD hS hA (fun _ => rfl) (by decide) (by decide) (Nat.le_of_ble_eq_true rfl) (Nat.le_of_ble_eq_true rfl) (Nat.le_of_ble_eq_true rfl) dX2_init_23 (fun q_3 H hP hD hS => ?_)
  have hP : va_P (dC, dI) vwCl [(h0, .inr (2, [.ref q_1, .ref q_2, .null])), (q_1, .inl (cy 1, 20, .inl ((fun _ => 0)))), (q_2, .inl (cy 1, 20, .inl ((fun _ => 0)))), (q_3, .inl (cy 1, 20, .inl ((fun _ => 0))))] H := hP
  have hD : va_D A [(h0, .inr (2, [.ref q_1, .ref q_2, .null])), (q_1, .inl (cy 1, 20, .inl ((fun _ => 0)))), (q_2, .inl (cy 1, 20, .inl ((fun _ => 0)))), (q_3, .inl (cy 1, 20, .inl ((fun _ => 0))))] := hD
  refine r_putF X kcX2 (ci := 2) rfl hP hD hS hin 0 rfl 2 (by decide) w_272 rfl rfl rfl rfl (Nat.le_of_ble_eq_true rfl) dX2_init_25 (fun H locs hP hD hS => ?_)
  have hP : va_P (dC, dI) vwCl [(h0, .inr (2, [.ref q_1, .ref q_2, .ref q_3])), (q_1, .inl (cy 1, 20, .inl ((fun _ => 0)))), (q_2, .inl (cy 1, 20, .inl ((fun _ => 0)))), (q_3, .inl (cy 1, 20, .inl ((fun _ => 0))))] H := hP
  have hD : va_D A [(h0, .inr (2, [.ref q_1, .ref q_2, .ref q_3])), (q_1, .inl (cy 1, 20, .inl ((fun _ => 0)))), (q_2, .inl (cy 1, 20, .inl ((fun _ => 0)))), (q_3, .inl (cy 1, 20, .inl ((fun _ => 0))))] := hD
  exact eV X hr hlocks hP hD hS (q_1, q_2, q_3) [0] (by decide) rfl trivial (Nat.le_of_ble_eq_true rfl) (Nat.le_of_ble_eq_true rfl) dX2_init_28
set_option maxHeartbeats 4000000 in
set_option maxRecDepth 100000 in
theorem tX8_ini (l : Launch) (dC : Nat → ClassId) (dI : Nat → Nat → Nat) (cy : Nat → ClassId) (h0 : Nat) : ctV l dC dI cy yX8_init cX8_init 1 ({ frames := 1, cells := 0, slots := 0, locals := 12 }) [.ref h0] [] (S := Unit) (fun _ => True) (fun _ => []) := by
  refine ctV.of (by decide +kernel) (Nat.le_of_ble_eq_true rfl) ?_
  intro p e s m args below meth c A ls X hr hlocks hin hA hP hD hS hl
  have hx := X.1
  have hb := X.2.1
  have hK := X.2.2.2.2.2.1
  have hl : lv_has ls 1 [(0, .ref h0)] := hl
  refine lv_aload_n hx hb dX8_init_0 rfl (lv_at hl 0 rfl) ?_
  refine r_oinit X hl w_288 dX8_init_1 (Nat.le_of_ble_eq_true rfl) (Nat.le_of_ble_eq_true rfl) ?_
  exact eV X hr hlocks hP hD hS () [] (by decide) rfl trivial (Nat.le_of_ble_eq_true rfl) (Nat.le_of_ble_eq_true rfl) dX8_init_4
set_option maxHeartbeats 4000000 in
set_option maxRecDepth 100000 in
theorem tX0_ini (l : Launch) (dC : Nat → ClassId) (dI : Nat → Nat → Nat) (cy : Nat → ClassId) (h0 : Nat) : ctV l dC dI cy yX0_init cX0_init 1 ({ frames := 2, cells := 4, slots := 63, locals := 32 }) [.ref h0] [(h0, .inr (0, [.null, .int 0, .int 0, .int 0]))] (S := Unit) (fun _ => True) (fun _ => []) := by
  refine ctV.of (by decide +kernel) (Nat.le_of_ble_eq_true rfl) ?_
  intro p e s m args below meth c A ls X hr hlocks hin hA hP hD hS hl
  have hx := X.1
  have hb := X.2.1
  have hK := X.2.2.2.2.2.1
  have hl : lv_has ls 1 [(0, .ref h0)] := hl
  refine lv_aload_n hx hb dX0_init_0 rfl (lv_at hl 0 rfl) ?_
  refine fV (wr := [(h0, .inr (0, [.null, .int 0, .int 0, .int 0]))]) (rC_V (wc := []) (As := []) (rest := []) X (tX8_ini l dC dI cy h0) kX8_init w_286 rfl mX0_3 hP hD [] (by decide) rfl hl rfl rfl (Nat.le_of_ble_eq_true rfl) dX0_init_1 ⟨Nat.le_of_ble_eq_true rfl, Nat.le_of_ble_eq_true rfl⟩ ⟨Nat.le_of_ble_eq_true rfl, Nat.le_of_ble_eq_true rfl⟩) hP hD hS hA [] [0] rfl rfl (by decide) (by decide) (fun u_3 H locs k_2 hP hD hS => ?_)
  have hP : va_P (dC, dI) vwCl [(h0, .inr (0, [.null, .int 0, .int 0, .int 0]))] H := hP
  have hD : va_D A [(h0, .inr (0, [.null, .int 0, .int 0, .int 0]))] := hD
  refine lv_aload_n hx hb dX0_init_4 rfl (lv_at hl 0 rfl) ?_
  refine r_new X kcX2 (ci := 2) rfl w_289 w_265 w_105 hP hD hS hA [.null, .null, .null] (fun j hj => by rcases (show j = 0 ∨ j = 1 ∨ j = 2 by omega) with rfl | rfl | rfl <;> rfl) (Nat.le_of_ble_eq_true rfl) (Nat.le_of_ble_eq_true rfl) dX0_init_5 (fun q_4 H hP hD hS => ?_)
  have hP : va_P (dC, dI) vwCl [(h0, .inr (0, [.null, .int 0, .int 0, .int 0])), (q_4, .inr (2, [.null, .null, .null]))] H := hP
  have hD : va_D A [(h0, .inr (0, [.null, .int 0, .int 0, .int 0])), (q_4, .inr (2, [.null, .null, .null]))] := hD
  refine lv_dup hx hb dX0_init_8 rfl ?_
  refine fV (wr := [(h0, .inr (0, [.null, .int 0, .int 0, .int 0]))]) (rC_V (wc := [(q_4, .inr (2, [.null, .null, .null]))]) (As := []) (rest := [.ref q_4, .ref h0]) X (tX2_ini l dC dI cy q_4) kX2_init w_267 rfl mX0_11 hP hD [1] (by decide) rfl hl rfl rfl (Nat.le_of_ble_eq_true rfl) dX0_init_9 ⟨Nat.le_of_ble_eq_true rfl, Nat.le_of_ble_eq_true rfl⟩ ⟨Nat.le_of_ble_eq_true rfl, Nat.le_of_ble_eq_true rfl⟩) hP hD hS hA [1] [0] rfl rfl (by decide) (by decide) (fun u_10 H locs k_9 hP hD hS => ?_)
  obtain ⟨q1_5, q2_6, q3_7⟩ := u_10
  have hP : va_P (dC, dI) vwCl [(h0, .inr (0, [.null, .int 0, .int 0, .int 0])), (q_4, .inr (2, [.ref q1_5, .ref q2_6, .ref q3_7]))] H := hP
  have hD : va_D A [(h0, .inr (0, [.null, .int 0, .int 0, .int 0])), (q_4, .inr (2, [.ref q1_5, .ref q2_6, .ref q3_7]))] := hD
  refine r_putF X kcX0 (ci := 0) rfl hP hD hS hin 0 rfl 0 (by decide) w_291 rfl rfl rfl rfl (Nat.le_of_ble_eq_true rfl) dX0_init_12 (fun H locs hP hD hS => ?_)
  have hP : va_P (dC, dI) vwCl [(h0, .inr (0, [.ref q_4, .int 0, .int 0, .int 0])), (q_4, .inr (2, [.ref q1_5, .ref q2_6, .ref q3_7]))] H := hP
  have hD : va_D A [(h0, .inr (0, [.ref q_4, .int 0, .int 0, .int 0])), (q_4, .inr (2, [.ref q1_5, .ref q2_6, .ref q3_7]))] := hD
  exact eV X hr hlocks hP hD hS () [] (by decide) rfl trivial (Nat.le_of_ble_eq_true rfl) (Nat.le_of_ble_eq_true rfl) dX0_init_15
set_option maxHeartbeats 4000000 in
set_option maxRecDepth 100000 in
theorem tX1_ini (l : Launch) (dC : Nat → ClassId) (dI : Nat → Nat → Nat) (cy : Nat → ClassId) (h0 : Nat) : ctV l dC dI cy yX1_init cX1_init 2 ({ frames := 2, cells := 19, slots := 264, locals := 32 }) [.ref h0] [(h0, .inr (1, [.null, .null, .null, .int 0, .int 0, .int 0]))] (S := Unit) (fun _ => True) (fun _ => []) := by
  refine ctV.of (by decide +kernel) (Nat.le_of_ble_eq_true rfl) ?_
  intro p e s m args below meth c A ls X hr hlocks hin hA hP hD hS hl
  have hx := X.1
  have hb := X.2.1
  have hK := X.2.2.2.2.2.1
  have hl : lv_has ls 2 [(0, .ref h0)] := hl
  refine lv_aload_n hx hb dX1_init_0 rfl (lv_at hl 0 rfl) ?_
  refine fV (wr := [(h0, .inr (1, [.null, .null, .null, .int 0, .int 0, .int 0]))]) (rC_V (wc := []) (As := []) (rest := []) X (tX8_ini l dC dI cy h0) kX8_init w_286 rfl mX1_3 hP hD [] (by decide) rfl hl rfl rfl (Nat.le_of_ble_eq_true rfl) dX1_init_1 ⟨Nat.le_of_ble_eq_true rfl, Nat.le_of_ble_eq_true rfl⟩ ⟨Nat.le_of_ble_eq_true rfl, Nat.le_of_ble_eq_true rfl⟩) hP hD hS hA [] [0] rfl rfl (by decide) (by decide) (fun u_3 H locs k_2 hP hD hS => ?_)
  have hP : va_P (dC, dI) vwCl [(h0, .inr (1, [.null, .null, .null, .int 0, .int 0, .int 0]))] H := hP
  have hD : va_D A [(h0, .inr (1, [.null, .null, .null, .int 0, .int 0, .int 0]))] := hD
  refine lv_aload_n hx hb dX1_init_4 rfl (lv_at hl 0 rfl) ?_
  refine lv_iconst (v := 4) hx hb dX1_init_5 (by decide) ?_
  refine r_newq X (t0 := 4) (N' := 4) rfl X.2.2.2.2.2.2.2.1 w_310 hP hD hS hA (by decide) (by decide) (Nat.le_of_ble_eq_true rfl) (Nat.le_of_ble_eq_true rfl) (Nat.le_of_ble_eq_true rfl) dX1_init_6 (fun q_4 H hP hD hS => ?_)
  have hP : va_P (dC, dI) vwCl [(h0, .inr (1, [.null, .null, .null, .int 0, .int 0, .int 0])), (q_4, .inl (cy 4, 4, .inr (.inr (.inr (.inr ((fun _ => none)))))))] H := hP
  have hD : va_D A [(h0, .inr (1, [.null, .null, .null, .int 0, .int 0, .int 0])), (q_4, .inl (cy 4, 4, .inr (.inr (.inr (.inr ((fun _ => none)))))))] := hD
  refine r_putF X kcX1 (ci := 1) rfl hP hD hS hin 0 rfl 0 (by decide) w_313 rfl rfl rfl rfl (Nat.le_of_ble_eq_true rfl) dX1_init_9 (fun H locs hP hD hS => ?_)
  have hP : va_P (dC, dI) vwCl [(h0, .inr (1, [.ref q_4, .null, .null, .int 0, .int 0, .int 0])), (q_4, .inl (cy 4, 4, .inr (.inr (.inr (.inr ((fun _ => none)))))))] H := hP
  have hD : va_D A [(h0, .inr (1, [.ref q_4, .null, .null, .int 0, .int 0, .int 0])), (q_4, .inl (cy 4, 4, .inr (.inr (.inr (.inr ((fun _ => none)))))))] := hD
  refine lv_aload_n hx hb dX1_init_12 rfl (lv_at hl 0 rfl) ?_
  refine lv_iconst (v := 4) hx hb dX1_init_13 (by decide) ?_
  refine r_newa X (atype := .int) (ty := .int) (t0 := 1) (N' := 4) (a0 := (4, .inl (fun _ => 0))) rfl w_207 rfl hP hD hS hA (fun _ => rfl) (by decide) (by decide) (Nat.le_of_ble_eq_true rfl) (Nat.le_of_ble_eq_true rfl) (Nat.le_of_ble_eq_true rfl) dX1_init_14 (fun q_5 H hP hD hS => ?_)
  have hP : va_P (dC, dI) vwCl [(h0, .inr (1, [.ref q_4, .null, .null, .int 0, .int 0, .int 0])), (q_4, .inl (cy 4, 4, .inr (.inr (.inr (.inr ((fun _ => none))))))), (q_5, .inl (cy 1, 4, .inl ((fun _ => 0))))] H := hP
  have hD : va_D A [(h0, .inr (1, [.ref q_4, .null, .null, .int 0, .int 0, .int 0])), (q_4, .inl (cy 4, 4, .inr (.inr (.inr (.inr ((fun _ => none))))))), (q_5, .inl (cy 1, 4, .inl ((fun _ => 0))))] := hD
  refine r_putF X kcX1 (ci := 1) rfl hP hD hS hin 0 rfl 1 (by decide) w_314 rfl rfl rfl rfl (Nat.le_of_ble_eq_true rfl) dX1_init_16 (fun H locs hP hD hS => ?_)
  have hP : va_P (dC, dI) vwCl [(h0, .inr (1, [.ref q_4, .ref q_5, .null, .int 0, .int 0, .int 0])), (q_4, .inl (cy 4, 4, .inr (.inr (.inr (.inr ((fun _ => none))))))), (q_5, .inl (cy 1, 4, .inl ((fun _ => 0))))] H := hP
  have hD : va_D A [(h0, .inr (1, [.ref q_4, .ref q_5, .null, .int 0, .int 0, .int 0])), (q_4, .inl (cy 4, 4, .inr (.inr (.inr (.inr ((fun _ => none))))))), (q_5, .inl (cy 1, 4, .inl ((fun _ => 0))))] := hD
  refine lv_aload_n hx hb dX1_init_19 rfl (lv_at hl 0 rfl) ?_
  refine lv_iconst (v := 4) hx hb dX1_init_20 (by decide) ?_
  refine r_newa X (atype := .int) (ty := .int) (t0 := 1) (N' := 4) (a0 := (4, .inl (fun _ => 0))) rfl w_207 rfl hP hD hS hA (fun _ => rfl) (by decide) (by decide) (Nat.le_of_ble_eq_true rfl) (Nat.le_of_ble_eq_true rfl) (Nat.le_of_ble_eq_true rfl) dX1_init_21 (fun q_6 H hP hD hS => ?_)
  have hP : va_P (dC, dI) vwCl [(h0, .inr (1, [.ref q_4, .ref q_5, .null, .int 0, .int 0, .int 0])), (q_4, .inl (cy 4, 4, .inr (.inr (.inr (.inr ((fun _ => none))))))), (q_5, .inl (cy 1, 4, .inl ((fun _ => 0)))), (q_6, .inl (cy 1, 4, .inl ((fun _ => 0))))] H := hP
  have hD : va_D A [(h0, .inr (1, [.ref q_4, .ref q_5, .null, .int 0, .int 0, .int 0])), (q_4, .inl (cy 4, 4, .inr (.inr (.inr (.inr ((fun _ => none))))))), (q_5, .inl (cy 1, 4, .inl ((fun _ => 0)))), (q_6, .inl (cy 1, 4, .inl ((fun _ => 0))))] := hD
  refine r_putF X kcX1 (ci := 1) rfl hP hD hS hin 0 rfl 2 (by decide) w_315 rfl rfl rfl rfl (Nat.le_of_ble_eq_true rfl) dX1_init_23 (fun H locs hP hD hS => ?_)
  have hP : va_P (dC, dI) vwCl [(h0, .inr (1, [.ref q_4, .ref q_5, .ref q_6, .int 0, .int 0, .int 0])), (q_4, .inl (cy 4, 4, .inr (.inr (.inr (.inr ((fun _ => none))))))), (q_5, .inl (cy 1, 4, .inl ((fun _ => 0)))), (q_6, .inl (cy 1, 4, .inl ((fun _ => 0))))] H := hP
  have hD : va_D A [(h0, .inr (1, [.ref q_4, .ref q_5, .ref q_6, .int 0, .int 0, .int 0])), (q_4, .inl (cy 4, 4, .inr (.inr (.inr (.inr ((fun _ => none))))))), (q_5, .inl (cy 1, 4, .inl ((fun _ => 0)))), (q_6, .inl (cy 1, 4, .inl ((fun _ => 0))))] := hD
  refine lv_iconst (v := 0) hx hb dX1_init_26 (by decide) ?_
  refine lv_istore_n (lv' := [(1, .int 0), (0, .ref h0)]) hx hb dX1_init_27 rfl hl (by decide) rfl (fun ls hl => ?_)
  refine lv_iload_n hx hb dX1_init_28 rfl (lv_at hl 0 rfl) ?_
  refine lv_iconst (v := 4) hx hb dX1_init_29 (by decide) ?_
  refine lv_icmp_ge (tgt := 52) hx hb dX1_init_30 (by decide) (fun h_7 => absurd h_7 (by decide)) (fun _ => ?_)
  refine lv_aload_n hx hb dX1_init_33 rfl (lv_at hl 1 rfl) ?_
  refine r_get X kcX1 (ci := 1) rfl hP 0 rfl 0 (by decide) fX1_11 rfl dX1_init_34 ?_
  refine lv_iload_n hx hb dX1_init_37 rfl (lv_at hl 0 rfl) ?_
  refine r_new X kcX2 (ci := 2) rfl w_310 w_265 w_105 hP hD hS hA [.null, .null, .null] (fun j hj => by rcases (show j = 0 ∨ j = 1 ∨ j = 2 by omega) with rfl | rfl | rfl <;> rfl) (Nat.le_of_ble_eq_true rfl) (Nat.le_of_ble_eq_true rfl) dX1_init_38 (fun q_8 H hP hD hS => ?_)
  have hP : va_P (dC, dI) vwCl [(h0, .inr (1, [.ref q_4, .ref q_5, .ref q_6, .int 0, .int 0, .int 0])), (q_4, .inl (cy 4, 4, .inr (.inr (.inr (.inr ((fun _ => none))))))), (q_5, .inl (cy 1, 4, .inl ((fun _ => 0)))), (q_6, .inl (cy 1, 4, .inl ((fun _ => 0)))), (q_8, .inr (2, [.null, .null, .null]))] H := hP
  have hD : va_D A [(h0, .inr (1, [.ref q_4, .ref q_5, .ref q_6, .int 0, .int 0, .int 0])), (q_4, .inl (cy 4, 4, .inr (.inr (.inr (.inr ((fun _ => none))))))), (q_5, .inl (cy 1, 4, .inl ((fun _ => 0)))), (q_6, .inl (cy 1, 4, .inl ((fun _ => 0)))), (q_8, .inr (2, [.null, .null, .null]))] := hD
  refine lv_dup hx hb dX1_init_41 rfl ?_
  refine fV (wr := [(h0, .inr (1, [.ref q_4, .ref q_5, .ref q_6, .int 0, .int 0, .int 0])), (q_4, .inl (cy 4, 4, .inr (.inr (.inr (.inr ((fun _ => none))))))), (q_5, .inl (cy 1, 4, .inl ((fun _ => 0)))), (q_6, .inl (cy 1, 4, .inl ((fun _ => 0))))]) (rC_V (wc := [(q_8, .inr (2, [.null, .null, .null]))]) (As := []) (rest := [.ref q_8, .int 0, .ref q_4]) X (tX2_ini l dC dI cy q_8) kX2_init w_267 rfl mX1_24 hP hD [4] (by decide) rfl hl rfl rfl (Nat.le_of_ble_eq_true rfl) dX1_init_42 ⟨Nat.le_of_ble_eq_true rfl, Nat.le_of_ble_eq_true rfl⟩ ⟨Nat.le_of_ble_eq_true rfl, Nat.le_of_ble_eq_true rfl⟩) hP hD hS hA [4] [0, 1, 2, 3] rfl rfl (by decide) (by decide) (fun u_14 H locs k_13 hP hD hS => ?_)
  obtain ⟨q1_9, q2_10, q3_11⟩ := u_14
  have hP : va_P (dC, dI) vwCl [(h0, .inr (1, [.ref q_4, .ref q_5, .ref q_6, .int 0, .int 0, .int 0])), (q_4, .inl (cy 4, 4, .inr (.inr (.inr (.inr ((fun _ => none))))))), (q_5, .inl (cy 1, 4, .inl ((fun _ => 0)))), (q_6, .inl (cy 1, 4, .inl ((fun _ => 0)))), (q_8, .inr (2, [.ref q1_9, .ref q2_10, .ref q3_11]))] H := hP
  have hD : va_D A [(h0, .inr (1, [.ref q_4, .ref q_5, .ref q_6, .int 0, .int 0, .int 0])), (q_4, .inl (cy 4, 4, .inr (.inr (.inr (.inr ((fun _ => none))))))), (q_5, .inl (cy 1, 4, .inl ((fun _ => 0)))), (q_6, .inl (cy 1, 4, .inl ((fun _ => 0)))), (q_8, .inr (2, [.ref q1_9, .ref q2_10, .ref q3_11]))] := hD
  refine va_astq (D := (dC, dI)) (cl := vwCl) hx hb hK hP hD hS 1 4 4 2 rfl rfl rfl rfl (i := 0) (by unfold vp_in; decide) dX1_init_45 (fun H locs hP hD hS => ?_)
  generalize va_up ((fun _ => none)) (Int32.toNatClampNeg 0) (some q_8) = f_15 at hP hD
  have hP : va_P (dC, dI) vwCl [(h0, .inr (1, [.ref q_4, .ref q_5, .ref q_6, .int 0, .int 0, .int 0])), (q_4, .inl (cy 4, 4, .inr (.inr (.inr (.inr f_15))))), (q_5, .inl (cy 1, 4, .inl ((fun _ => 0)))), (q_6, .inl (cy 1, 4, .inl ((fun _ => 0)))), (q_8, .inr (2, [.ref q1_9, .ref q2_10, .ref q3_11]))] H := hP
  have hD : va_D A [(h0, .inr (1, [.ref q_4, .ref q_5, .ref q_6, .int 0, .int 0, .int 0])), (q_4, .inl (cy 4, 4, .inr (.inr (.inr (.inr f_15))))), (q_5, .inl (cy 1, 4, .inl ((fun _ => 0)))), (q_6, .inl (cy 1, 4, .inl ((fun _ => 0)))), (q_8, .inr (2, [.ref q1_9, .ref q2_10, .ref q3_11]))] := hD
  have hP := hP.sub (ws' := [(h0, .inr (1, [.ref q_4, .ref q_5, .ref q_6, .int 0, .int 0, .int 0])), (q_4, .inl (cy 4, 4, .inr (.inr (.inr (.inr f_15))))), (q_5, .inl (cy 1, 4, .inl ((fun _ => 0)))), (q_6, .inl (cy 1, 4, .inl ((fun _ => 0))))]) [0, 1, 2, 3] rfl
  have hD := hD.sub (ws' := [(h0, .inr (1, [.ref q_4, .ref q_5, .ref q_6, .int 0, .int 0, .int 0])), (q_4, .inl (cy 4, 4, .inr (.inr (.inr (.inr f_15))))), (q_5, .inl (cy 1, 4, .inl ((fun _ => 0)))), (q_6, .inl (cy 1, 4, .inl ((fun _ => 0))))]) [0, 1, 2, 3] (by decide) rfl
  refine lv_iinc (v := 1) (lv' := [(1, .int 1), (0, .ref h0)]) hx hb dX1_init_46 hl (k := 0) rfl (by decide) (by decide) rfl (fun ls hl => ?_)
  refine lv_goto (tgt := 28) hx hb dX1_init_49 (by decide) ?_
  refine lv_iload_n hx hb dX1_init_28 rfl (lv_at hl 0 rfl) ?_
  refine lv_iconst (v := 4) hx hb dX1_init_29 (by decide) ?_
  refine lv_icmp_ge (tgt := 52) hx hb dX1_init_30 (by decide) (fun h_16 => absurd h_16 (by decide)) (fun _ => ?_)
  refine lv_aload_n hx hb dX1_init_33 rfl (lv_at hl 1 rfl) ?_
  refine r_get X kcX1 (ci := 1) rfl hP 0 rfl 0 (by decide) fX1_11 rfl dX1_init_34 ?_
  refine lv_iload_n hx hb dX1_init_37 rfl (lv_at hl 0 rfl) ?_
  refine r_new X kcX2 (ci := 2) rfl w_310 w_265 w_105 hP hD hS hA [.null, .null, .null] (fun j hj => by rcases (show j = 0 ∨ j = 1 ∨ j = 2 by omega) with rfl | rfl | rfl <;> rfl) (Nat.le_of_ble_eq_true rfl) (Nat.le_of_ble_eq_true rfl) dX1_init_38 (fun q_17 H hP hD hS => ?_)
  have hP : va_P (dC, dI) vwCl [(h0, .inr (1, [.ref q_4, .ref q_5, .ref q_6, .int 0, .int 0, .int 0])), (q_4, .inl (cy 4, 4, .inr (.inr (.inr (.inr f_15))))), (q_5, .inl (cy 1, 4, .inl ((fun _ => 0)))), (q_6, .inl (cy 1, 4, .inl ((fun _ => 0)))), (q_17, .inr (2, [.null, .null, .null]))] H := hP
  have hD : va_D A [(h0, .inr (1, [.ref q_4, .ref q_5, .ref q_6, .int 0, .int 0, .int 0])), (q_4, .inl (cy 4, 4, .inr (.inr (.inr (.inr f_15))))), (q_5, .inl (cy 1, 4, .inl ((fun _ => 0)))), (q_6, .inl (cy 1, 4, .inl ((fun _ => 0)))), (q_17, .inr (2, [.null, .null, .null]))] := hD
  refine lv_dup hx hb dX1_init_41 rfl ?_
  refine fV (wr := [(h0, .inr (1, [.ref q_4, .ref q_5, .ref q_6, .int 0, .int 0, .int 0])), (q_4, .inl (cy 4, 4, .inr (.inr (.inr (.inr f_15))))), (q_5, .inl (cy 1, 4, .inl ((fun _ => 0)))), (q_6, .inl (cy 1, 4, .inl ((fun _ => 0))))]) (rC_V (wc := [(q_17, .inr (2, [.null, .null, .null]))]) (As := []) (rest := [.ref q_17, .int 1, .ref q_4]) X (tX2_ini l dC dI cy q_17) kX2_init w_267 rfl mX1_24 hP hD [4] (by decide) rfl hl rfl rfl (Nat.le_of_ble_eq_true rfl) dX1_init_42 ⟨Nat.le_of_ble_eq_true rfl, Nat.le_of_ble_eq_true rfl⟩ ⟨Nat.le_of_ble_eq_true rfl, Nat.le_of_ble_eq_true rfl⟩) hP hD hS hA [4] [0, 1, 2, 3] rfl rfl (by decide) (by decide) (fun u_23 H locs k_22 hP hD hS => ?_)
  obtain ⟨q1_18, q2_19, q3_20⟩ := u_23
  have hP : va_P (dC, dI) vwCl [(h0, .inr (1, [.ref q_4, .ref q_5, .ref q_6, .int 0, .int 0, .int 0])), (q_4, .inl (cy 4, 4, .inr (.inr (.inr (.inr f_15))))), (q_5, .inl (cy 1, 4, .inl ((fun _ => 0)))), (q_6, .inl (cy 1, 4, .inl ((fun _ => 0)))), (q_17, .inr (2, [.ref q1_18, .ref q2_19, .ref q3_20]))] H := hP
  have hD : va_D A [(h0, .inr (1, [.ref q_4, .ref q_5, .ref q_6, .int 0, .int 0, .int 0])), (q_4, .inl (cy 4, 4, .inr (.inr (.inr (.inr f_15))))), (q_5, .inl (cy 1, 4, .inl ((fun _ => 0)))), (q_6, .inl (cy 1, 4, .inl ((fun _ => 0)))), (q_17, .inr (2, [.ref q1_18, .ref q2_19, .ref q3_20]))] := hD
  refine va_astq (D := (dC, dI)) (cl := vwCl) hx hb hK hP hD hS 1 4 4 2 rfl rfl rfl rfl (i := 1) (by unfold vp_in; decide) dX1_init_45 (fun H locs hP hD hS => ?_)
  generalize va_up f_15 (Int32.toNatClampNeg 1) (some q_17) = f_24 at hP hD
  have hP : va_P (dC, dI) vwCl [(h0, .inr (1, [.ref q_4, .ref q_5, .ref q_6, .int 0, .int 0, .int 0])), (q_4, .inl (cy 4, 4, .inr (.inr (.inr (.inr f_24))))), (q_5, .inl (cy 1, 4, .inl ((fun _ => 0)))), (q_6, .inl (cy 1, 4, .inl ((fun _ => 0)))), (q_17, .inr (2, [.ref q1_18, .ref q2_19, .ref q3_20]))] H := hP
  have hD : va_D A [(h0, .inr (1, [.ref q_4, .ref q_5, .ref q_6, .int 0, .int 0, .int 0])), (q_4, .inl (cy 4, 4, .inr (.inr (.inr (.inr f_24))))), (q_5, .inl (cy 1, 4, .inl ((fun _ => 0)))), (q_6, .inl (cy 1, 4, .inl ((fun _ => 0)))), (q_17, .inr (2, [.ref q1_18, .ref q2_19, .ref q3_20]))] := hD
  have hP := hP.sub (ws' := [(h0, .inr (1, [.ref q_4, .ref q_5, .ref q_6, .int 0, .int 0, .int 0])), (q_4, .inl (cy 4, 4, .inr (.inr (.inr (.inr f_24))))), (q_5, .inl (cy 1, 4, .inl ((fun _ => 0)))), (q_6, .inl (cy 1, 4, .inl ((fun _ => 0))))]) [0, 1, 2, 3] rfl
  have hD := hD.sub (ws' := [(h0, .inr (1, [.ref q_4, .ref q_5, .ref q_6, .int 0, .int 0, .int 0])), (q_4, .inl (cy 4, 4, .inr (.inr (.inr (.inr f_24))))), (q_5, .inl (cy 1, 4, .inl ((fun _ => 0)))), (q_6, .inl (cy 1, 4, .inl ((fun _ => 0))))]) [0, 1, 2, 3] (by decide) rfl
  refine lv_iinc (v := 2) (lv' := [(1, .int 2), (0, .ref h0)]) hx hb dX1_init_46 hl (k := 0) rfl (by decide) (by decide) rfl (fun ls hl => ?_)
  refine lv_goto (tgt := 28) hx hb dX1_init_49 (by decide) ?_
  refine lv_iload_n hx hb dX1_init_28 rfl (lv_at hl 0 rfl) ?_
  refine lv_iconst (v := 4) hx hb dX1_init_29 (by decide) ?_
  refine lv_icmp_ge (tgt := 52) hx hb dX1_init_30 (by decide) (fun h_25 => absurd h_25 (by decide)) (fun _ => ?_)
  refine lv_aload_n hx hb dX1_init_33 rfl (lv_at hl 1 rfl) ?_
  refine r_get X kcX1 (ci := 1) rfl hP 0 rfl 0 (by decide) fX1_11 rfl dX1_init_34 ?_
  refine lv_iload_n hx hb dX1_init_37 rfl (lv_at hl 0 rfl) ?_
  refine r_new X kcX2 (ci := 2) rfl w_310 w_265 w_105 hP hD hS hA [.null, .null, .null] (fun j hj => by rcases (show j = 0 ∨ j = 1 ∨ j = 2 by omega) with rfl | rfl | rfl <;> rfl) (Nat.le_of_ble_eq_true rfl) (Nat.le_of_ble_eq_true rfl) dX1_init_38 (fun q_26 H hP hD hS => ?_)
  have hP : va_P (dC, dI) vwCl [(h0, .inr (1, [.ref q_4, .ref q_5, .ref q_6, .int 0, .int 0, .int 0])), (q_4, .inl (cy 4, 4, .inr (.inr (.inr (.inr f_24))))), (q_5, .inl (cy 1, 4, .inl ((fun _ => 0)))), (q_6, .inl (cy 1, 4, .inl ((fun _ => 0)))), (q_26, .inr (2, [.null, .null, .null]))] H := hP
  have hD : va_D A [(h0, .inr (1, [.ref q_4, .ref q_5, .ref q_6, .int 0, .int 0, .int 0])), (q_4, .inl (cy 4, 4, .inr (.inr (.inr (.inr f_24))))), (q_5, .inl (cy 1, 4, .inl ((fun _ => 0)))), (q_6, .inl (cy 1, 4, .inl ((fun _ => 0)))), (q_26, .inr (2, [.null, .null, .null]))] := hD
  refine lv_dup hx hb dX1_init_41 rfl ?_
  refine fV (wr := [(h0, .inr (1, [.ref q_4, .ref q_5, .ref q_6, .int 0, .int 0, .int 0])), (q_4, .inl (cy 4, 4, .inr (.inr (.inr (.inr f_24))))), (q_5, .inl (cy 1, 4, .inl ((fun _ => 0)))), (q_6, .inl (cy 1, 4, .inl ((fun _ => 0))))]) (rC_V (wc := [(q_26, .inr (2, [.null, .null, .null]))]) (As := []) (rest := [.ref q_26, .int 2, .ref q_4]) X (tX2_ini l dC dI cy q_26) kX2_init w_267 rfl mX1_24 hP hD [4] (by decide) rfl hl rfl rfl (Nat.le_of_ble_eq_true rfl) dX1_init_42 ⟨Nat.le_of_ble_eq_true rfl, Nat.le_of_ble_eq_true rfl⟩ ⟨Nat.le_of_ble_eq_true rfl, Nat.le_of_ble_eq_true rfl⟩) hP hD hS hA [4] [0, 1, 2, 3] rfl rfl (by decide) (by decide) (fun u_32 H locs k_31 hP hD hS => ?_)
  obtain ⟨q1_27, q2_28, q3_29⟩ := u_32
  have hP : va_P (dC, dI) vwCl [(h0, .inr (1, [.ref q_4, .ref q_5, .ref q_6, .int 0, .int 0, .int 0])), (q_4, .inl (cy 4, 4, .inr (.inr (.inr (.inr f_24))))), (q_5, .inl (cy 1, 4, .inl ((fun _ => 0)))), (q_6, .inl (cy 1, 4, .inl ((fun _ => 0)))), (q_26, .inr (2, [.ref q1_27, .ref q2_28, .ref q3_29]))] H := hP
  have hD : va_D A [(h0, .inr (1, [.ref q_4, .ref q_5, .ref q_6, .int 0, .int 0, .int 0])), (q_4, .inl (cy 4, 4, .inr (.inr (.inr (.inr f_24))))), (q_5, .inl (cy 1, 4, .inl ((fun _ => 0)))), (q_6, .inl (cy 1, 4, .inl ((fun _ => 0)))), (q_26, .inr (2, [.ref q1_27, .ref q2_28, .ref q3_29]))] := hD
  refine va_astq (D := (dC, dI)) (cl := vwCl) hx hb hK hP hD hS 1 4 4 2 rfl rfl rfl rfl (i := 2) (by unfold vp_in; decide) dX1_init_45 (fun H locs hP hD hS => ?_)
  generalize va_up f_24 (Int32.toNatClampNeg 2) (some q_26) = f_33 at hP hD
  have hP : va_P (dC, dI) vwCl [(h0, .inr (1, [.ref q_4, .ref q_5, .ref q_6, .int 0, .int 0, .int 0])), (q_4, .inl (cy 4, 4, .inr (.inr (.inr (.inr f_33))))), (q_5, .inl (cy 1, 4, .inl ((fun _ => 0)))), (q_6, .inl (cy 1, 4, .inl ((fun _ => 0)))), (q_26, .inr (2, [.ref q1_27, .ref q2_28, .ref q3_29]))] H := hP
  have hD : va_D A [(h0, .inr (1, [.ref q_4, .ref q_5, .ref q_6, .int 0, .int 0, .int 0])), (q_4, .inl (cy 4, 4, .inr (.inr (.inr (.inr f_33))))), (q_5, .inl (cy 1, 4, .inl ((fun _ => 0)))), (q_6, .inl (cy 1, 4, .inl ((fun _ => 0)))), (q_26, .inr (2, [.ref q1_27, .ref q2_28, .ref q3_29]))] := hD
  have hP := hP.sub (ws' := [(h0, .inr (1, [.ref q_4, .ref q_5, .ref q_6, .int 0, .int 0, .int 0])), (q_4, .inl (cy 4, 4, .inr (.inr (.inr (.inr f_33))))), (q_5, .inl (cy 1, 4, .inl ((fun _ => 0)))), (q_6, .inl (cy 1, 4, .inl ((fun _ => 0))))]) [0, 1, 2, 3] rfl
  have hD := hD.sub (ws' := [(h0, .inr (1, [.ref q_4, .ref q_5, .ref q_6, .int 0, .int 0, .int 0])), (q_4, .inl (cy 4, 4, .inr (.inr (.inr (.inr f_33))))), (q_5, .inl (cy 1, 4, .inl ((fun _ => 0)))), (q_6, .inl (cy 1, 4, .inl ((fun _ => 0))))]) [0, 1, 2, 3] (by decide) rfl
  refine lv_iinc (v := 3) (lv' := [(1, .int 3), (0, .ref h0)]) hx hb dX1_init_46 hl (k := 0) rfl (by decide) (by decide) rfl (fun ls hl => ?_)
  refine lv_goto (tgt := 28) hx hb dX1_init_49 (by decide) ?_
  refine lv_iload_n hx hb dX1_init_28 rfl (lv_at hl 0 rfl) ?_
  refine lv_iconst (v := 4) hx hb dX1_init_29 (by decide) ?_
  refine lv_icmp_ge (tgt := 52) hx hb dX1_init_30 (by decide) (fun h_34 => absurd h_34 (by decide)) (fun _ => ?_)
  refine lv_aload_n hx hb dX1_init_33 rfl (lv_at hl 1 rfl) ?_
  refine r_get X kcX1 (ci := 1) rfl hP 0 rfl 0 (by decide) fX1_11 rfl dX1_init_34 ?_
  refine lv_iload_n hx hb dX1_init_37 rfl (lv_at hl 0 rfl) ?_
  refine r_new X kcX2 (ci := 2) rfl w_310 w_265 w_105 hP hD hS hA [.null, .null, .null] (fun j hj => by rcases (show j = 0 ∨ j = 1 ∨ j = 2 by omega) with rfl | rfl | rfl <;> rfl) (Nat.le_of_ble_eq_true rfl) (Nat.le_of_ble_eq_true rfl) dX1_init_38 (fun q_35 H hP hD hS => ?_)
  have hP : va_P (dC, dI) vwCl [(h0, .inr (1, [.ref q_4, .ref q_5, .ref q_6, .int 0, .int 0, .int 0])), (q_4, .inl (cy 4, 4, .inr (.inr (.inr (.inr f_33))))), (q_5, .inl (cy 1, 4, .inl ((fun _ => 0)))), (q_6, .inl (cy 1, 4, .inl ((fun _ => 0)))), (q_35, .inr (2, [.null, .null, .null]))] H := hP
  have hD : va_D A [(h0, .inr (1, [.ref q_4, .ref q_5, .ref q_6, .int 0, .int 0, .int 0])), (q_4, .inl (cy 4, 4, .inr (.inr (.inr (.inr f_33))))), (q_5, .inl (cy 1, 4, .inl ((fun _ => 0)))), (q_6, .inl (cy 1, 4, .inl ((fun _ => 0)))), (q_35, .inr (2, [.null, .null, .null]))] := hD
  refine lv_dup hx hb dX1_init_41 rfl ?_
  refine fV (wr := [(h0, .inr (1, [.ref q_4, .ref q_5, .ref q_6, .int 0, .int 0, .int 0])), (q_4, .inl (cy 4, 4, .inr (.inr (.inr (.inr f_33))))), (q_5, .inl (cy 1, 4, .inl ((fun _ => 0)))), (q_6, .inl (cy 1, 4, .inl ((fun _ => 0))))]) (rC_V (wc := [(q_35, .inr (2, [.null, .null, .null]))]) (As := []) (rest := [.ref q_35, .int 3, .ref q_4]) X (tX2_ini l dC dI cy q_35) kX2_init w_267 rfl mX1_24 hP hD [4] (by decide) rfl hl rfl rfl (Nat.le_of_ble_eq_true rfl) dX1_init_42 ⟨Nat.le_of_ble_eq_true rfl, Nat.le_of_ble_eq_true rfl⟩ ⟨Nat.le_of_ble_eq_true rfl, Nat.le_of_ble_eq_true rfl⟩) hP hD hS hA [4] [0, 1, 2, 3] rfl rfl (by decide) (by decide) (fun u_41 H locs k_40 hP hD hS => ?_)
  obtain ⟨q1_36, q2_37, q3_38⟩ := u_41
  have hP : va_P (dC, dI) vwCl [(h0, .inr (1, [.ref q_4, .ref q_5, .ref q_6, .int 0, .int 0, .int 0])), (q_4, .inl (cy 4, 4, .inr (.inr (.inr (.inr f_33))))), (q_5, .inl (cy 1, 4, .inl ((fun _ => 0)))), (q_6, .inl (cy 1, 4, .inl ((fun _ => 0)))), (q_35, .inr (2, [.ref q1_36, .ref q2_37, .ref q3_38]))] H := hP
  have hD : va_D A [(h0, .inr (1, [.ref q_4, .ref q_5, .ref q_6, .int 0, .int 0, .int 0])), (q_4, .inl (cy 4, 4, .inr (.inr (.inr (.inr f_33))))), (q_5, .inl (cy 1, 4, .inl ((fun _ => 0)))), (q_6, .inl (cy 1, 4, .inl ((fun _ => 0)))), (q_35, .inr (2, [.ref q1_36, .ref q2_37, .ref q3_38]))] := hD
  refine va_astq (D := (dC, dI)) (cl := vwCl) hx hb hK hP hD hS 1 4 4 2 rfl rfl rfl rfl (i := 3) (by unfold vp_in; decide) dX1_init_45 (fun H locs hP hD hS => ?_)
  generalize va_up f_33 (Int32.toNatClampNeg 3) (some q_35) = f_42 at hP hD
  have hP : va_P (dC, dI) vwCl [(h0, .inr (1, [.ref q_4, .ref q_5, .ref q_6, .int 0, .int 0, .int 0])), (q_4, .inl (cy 4, 4, .inr (.inr (.inr (.inr f_42))))), (q_5, .inl (cy 1, 4, .inl ((fun _ => 0)))), (q_6, .inl (cy 1, 4, .inl ((fun _ => 0)))), (q_35, .inr (2, [.ref q1_36, .ref q2_37, .ref q3_38]))] H := hP
  have hD : va_D A [(h0, .inr (1, [.ref q_4, .ref q_5, .ref q_6, .int 0, .int 0, .int 0])), (q_4, .inl (cy 4, 4, .inr (.inr (.inr (.inr f_42))))), (q_5, .inl (cy 1, 4, .inl ((fun _ => 0)))), (q_6, .inl (cy 1, 4, .inl ((fun _ => 0)))), (q_35, .inr (2, [.ref q1_36, .ref q2_37, .ref q3_38]))] := hD
  have hP := hP.sub (ws' := [(h0, .inr (1, [.ref q_4, .ref q_5, .ref q_6, .int 0, .int 0, .int 0])), (q_4, .inl (cy 4, 4, .inr (.inr (.inr (.inr f_42))))), (q_5, .inl (cy 1, 4, .inl ((fun _ => 0)))), (q_6, .inl (cy 1, 4, .inl ((fun _ => 0))))]) [0, 1, 2, 3] rfl
  have hD := hD.sub (ws' := [(h0, .inr (1, [.ref q_4, .ref q_5, .ref q_6, .int 0, .int 0, .int 0])), (q_4, .inl (cy 4, 4, .inr (.inr (.inr (.inr f_42))))), (q_5, .inl (cy 1, 4, .inl ((fun _ => 0)))), (q_6, .inl (cy 1, 4, .inl ((fun _ => 0))))]) [0, 1, 2, 3] (by decide) rfl
  refine lv_iinc (v := 4) (lv' := [(1, .int 4), (0, .ref h0)]) hx hb dX1_init_46 hl (k := 0) rfl (by decide) (by decide) rfl (fun ls hl => ?_)
  refine lv_goto (tgt := 28) hx hb dX1_init_49 (by decide) ?_
  refine lv_iload_n hx hb dX1_init_28 rfl (lv_at hl 0 rfl) ?_
  refine lv_iconst (v := 4) hx hb dX1_init_29 (by decide) ?_
  refine lv_icmp_ge (tgt := 52) hx hb dX1_init_30 (by decide) (fun _ => ?_) (fun h_43 => absurd (by decide) h_43)
  exact eV X hr hlocks hP hD hS () [] (by decide) rfl trivial (Nat.le_of_ble_eq_true rfl) (Nat.le_of_ble_eq_true rfl) dX1_init_52
set_option maxHeartbeats 4000000 in
set_option maxRecDepth 100000 in
theorem tX5_ini (l : Launch) (dC : Nat → ClassId) (dI : Nat → Nat → Nat) (cy : Nat → ClassId) (h0 : Nat) : ctV l dC dI cy yX5_init cX5_init 1 ({ frames := 1, cells := 2, slots := 64, locals := 12 }) [.ref h0] [(h0, .inr (5, [.null, .null, .int 0]))] (S := Nat × Nat) (fun _ => True) (fun u => match u with | (q1, q2) => [(h0, .inr (5, [.ref q1, .ref q2, .int 0]))]) := by
  refine ctV.of (by decide +kernel) (Nat.le_of_ble_eq_true rfl) ?_
  intro p e s m args below meth c A ls X hr hlocks hin hA hP hD hS hl
  have hx := X.1
  have hb := X.2.1
  have hK := X.2.2.2.2.2.1
  have hl : lv_has ls 1 [(0, .ref h0)] := hl
  refine lv_aload_n hx hb dX5_init_0 rfl (lv_at hl 0 rfl) ?_
  refine r_oinit X hl w_337 dX5_init_1 (Nat.le_of_ble_eq_true rfl) (Nat.le_of_ble_eq_true rfl) ?_
  refine lv_aload_n hx hb dX5_init_4 rfl (lv_at hl 0 rfl) ?_
  refine lv_bipush (v := 32) hx hb dX5_init_5 (by decide) ?_
  refine r_newa X (atype := .int) (ty := .int) (t0 := 1) (N' := 32) (a0 := (32, .inl (fun _ => 0))) rfl w_207 rfl hP hD hS hA (fun _ => rfl) (by decide) (by decide) (Nat.le_of_ble_eq_true rfl) (Nat.le_of_ble_eq_true rfl) (Nat.le_of_ble_eq_true rfl) dX5_init_7 (fun q_1 H hP hD hS => ?_)
  have hP : va_P (dC, dI) vwCl [(h0, .inr (5, [.null, .null, .int 0])), (q_1, .inl (cy 1, 32, .inl ((fun _ => 0))))] H := hP
  have hD : va_D A [(h0, .inr (5, [.null, .null, .int 0])), (q_1, .inl (cy 1, 32, .inl ((fun _ => 0))))] := hD
  refine r_putF X kcX5 (ci := 5) rfl hP hD hS hin 0 rfl 0 (by decide) w_338 rfl rfl rfl rfl (Nat.le_of_ble_eq_true rfl) dX5_init_9 (fun H locs hP hD hS => ?_)
  have hP : va_P (dC, dI) vwCl [(h0, .inr (5, [.ref q_1, .null, .int 0])), (q_1, .inl (cy 1, 32, .inl ((fun _ => 0))))] H := hP
  have hD : va_D A [(h0, .inr (5, [.ref q_1, .null, .int 0])), (q_1, .inl (cy 1, 32, .inl ((fun _ => 0))))] := hD
  refine lv_aload_n hx hb dX5_init_12 rfl (lv_at hl 0 rfl) ?_
  refine lv_bipush (v := 32) hx hb dX5_init_13 (by decide) ?_
  refine r_newa X (atype := .long) (ty := .long) (t0 := 2) (N' := 32) (a0 := (32, .inr (.inl (fun _ => 0)))) rfl w_348 rfl hP hD hS hA (fun _ => rfl) (by decide) (by decide) (Nat.le_of_ble_eq_true rfl) (Nat.le_of_ble_eq_true rfl) (Nat.le_of_ble_eq_true rfl) dX5_init_15 (fun q_2 H hP hD hS => ?_)
  have hP : va_P (dC, dI) vwCl [(h0, .inr (5, [.ref q_1, .null, .int 0])), (q_1, .inl (cy 1, 32, .inl ((fun _ => 0)))), (q_2, .inl (cy 2, 32, .inr (.inl ((fun _ => 0)))))] H := hP
  have hD : va_D A [(h0, .inr (5, [.ref q_1, .null, .int 0])), (q_1, .inl (cy 1, 32, .inl ((fun _ => 0)))), (q_2, .inl (cy 2, 32, .inr (.inl ((fun _ => 0)))))] := hD
  refine r_putF X kcX5 (ci := 5) rfl hP hD hS hin 0 rfl 1 (by decide) w_339 rfl rfl rfl rfl (Nat.le_of_ble_eq_true rfl) dX5_init_17 (fun H locs hP hD hS => ?_)
  have hP : va_P (dC, dI) vwCl [(h0, .inr (5, [.ref q_1, .ref q_2, .int 0])), (q_1, .inl (cy 1, 32, .inl ((fun _ => 0)))), (q_2, .inl (cy 2, 32, .inr (.inl ((fun _ => 0)))))] H := hP
  have hD : va_D A [(h0, .inr (5, [.ref q_1, .ref q_2, .int 0])), (q_1, .inl (cy 1, 32, .inl ((fun _ => 0)))), (q_2, .inl (cy 2, 32, .inr (.inl ((fun _ => 0)))))] := hD
  exact eV X hr hlocks hP hD hS (q_1, q_2) [0] (by decide) rfl trivial (Nat.le_of_ble_eq_true rfl) (Nat.le_of_ble_eq_true rfl) dX5_init_20
set_option maxHeartbeats 4000000 in
set_option maxRecDepth 100000 in
theorem tX3_ini (l : Launch) (dC : Nat → ClassId) (dI : Nat → Nat → Nat) (cy : Nat → ClassId) (h0 : Nat) : ctV l dC dI cy yX3_init cX3_init 1 ({ frames := 1, cells := 0, slots := 0, locals := 12 }) [.ref h0] [(h0, .inr (3, [.long 0, .long 0]))] (S := Unit) (fun _ => True) (fun _ => []) := by
  refine ctV.of (by decide +kernel) (Nat.le_of_ble_eq_true rfl) ?_
  intro p e s m args below meth c A ls X hr hlocks hin hA hP hD hS hl
  have hx := X.1
  have hb := X.2.1
  have hK := X.2.2.2.2.2.1
  have hl : lv_has ls 1 [(0, .ref h0)] := hl
  refine lv_aload_n hx hb dX3_init_0 rfl (lv_at hl 0 rfl) ?_
  refine r_oinit X hl w_354 dX3_init_1 (Nat.le_of_ble_eq_true rfl) (Nat.le_of_ble_eq_true rfl) ?_
  refine lv_aload_n hx hb dX3_init_4 rfl (lv_at hl 0 rfl) ?_
  refine lv_lconst (v := 1) hx hb dX3_init_5 (by decide) ?_
  refine r_put X kcX3 (ci := 3) rfl hP hD hS 0 rfl 1 (by decide) fX3_7 rfl rfl rfl (Nat.le_of_ble_eq_true rfl) dX3_init_6 (fun H locs hP hD hS => ?_)
  have hP : va_P (dC, dI) vwCl [(h0, .inr (3, [.long 0, .long 1]))] H := hP
  have hD : va_D A [(h0, .inr (3, [.long 0, .long 1]))] := hD
  exact eV X hr hlocks hP hD hS () [] (by decide) rfl trivial (Nat.le_of_ble_eq_true rfl) (Nat.le_of_ble_eq_true rfl) dX3_init_9
set_option maxHeartbeats 4000000 in
set_option maxRecDepth 100000 in
theorem tX7_ini (l : Launch) (dC : Nat → ClassId) (dI : Nat → Nat → Nat) (cy : Nat → ClassId) (h0 : Nat) : ctV l dC dI cy yX7_init cX7_init 1 ({ frames := 2, cells := 10, slots := 63, locals := 32 }) [.ref h0] [(h0, .inr (7, [.null, .int 0, .int 0, .int 0, .int 0, .null, .int 0, .null, .null, .null, .null, .int 0, .null, .null, .null]))] (S := Nat × Nat × Nat × Nat × Nat × Nat × Nat × Nat × Nat × Nat) (fun _ => True) (fun u => match u with | (g1, g2, t0, t1, t2, t3, t4, t5, t6, t7) => [(h0, .inr (7, [.ref g1, .int 0, .int 0, .int 0, .int 0, .ref t0, .int 0, .ref t1, .ref t2, .ref t3, .ref t4, .int 0, .ref t5, .ref t6, .ref t7])), (g1, .inr (4, [.int 0, .int 0, .int 0, .ref g2]))]) := by
  refine ctV.of (by decide +kernel) (Nat.le_of_ble_eq_true rfl) ?_
  intro p e s m args below meth c A ls X hr hlocks hin hA hP hD hS hl
  have hx := X.1
  have hb := X.2.1
  have hK := X.2.2.2.2.2.1
  have hl : lv_has ls 1 [(0, .ref h0)] := hl
  refine lv_aload_n hx hb dX7_init_0 rfl (lv_at hl 0 rfl) ?_
  refine r_oinit X hl w_369 dX7_init_1 (Nat.le_of_ble_eq_true rfl) (Nat.le_of_ble_eq_true rfl) ?_
  refine lv_aload_n hx hb dX7_init_4 rfl (lv_at hl 0 rfl) ?_
  refine r_new X kcX4 (ci := 4) rfl w_370 w_179 w_103 hP hD hS hA [.int 0, .int 0, .int 0, .null] (fun j hj => by rcases (show j = 0 ∨ j = 1 ∨ j = 2 ∨ j = 3 by omega) with rfl | rfl | rfl | rfl <;> rfl) (Nat.le_of_ble_eq_true rfl) (Nat.le_of_ble_eq_true rfl) dX7_init_5 (fun q_1 H hP hD hS => ?_)
  have hP : va_P (dC, dI) vwCl [(h0, .inr (7, [.null, .int 0, .int 0, .int 0, .int 0, .null, .int 0, .null, .null, .null, .null, .int 0, .null, .null, .null])), (q_1, .inr (4, [.int 0, .int 0, .int 0, .null]))] H := hP
  have hD : va_D A [(h0, .inr (7, [.null, .int 0, .int 0, .int 0, .int 0, .null, .int 0, .null, .null, .null, .null, .int 0, .null, .null, .null])), (q_1, .inr (4, [.int 0, .int 0, .int 0, .null]))] := hD
  refine lv_dup hx hb dX7_init_8 rfl ?_
  refine fV (wr := [(h0, .inr (7, [.null, .int 0, .int 0, .int 0, .int 0, .null, .int 0, .null, .null, .null, .null, .int 0, .null, .null, .null]))]) (rC_V (wc := [(q_1, .inr (4, [.int 0, .int 0, .int 0, .null]))]) (As := []) (rest := [.ref q_1, .ref h0]) X (tX4_ini l dC dI cy q_1) kX4_init w_181 rfl mX7_11 hP hD [1] (by decide) rfl hl rfl rfl (Nat.le_of_ble_eq_true rfl) dX7_init_9 ⟨Nat.le_of_ble_eq_true rfl, Nat.le_of_ble_eq_true rfl⟩ ⟨Nat.le_of_ble_eq_true rfl, Nat.le_of_ble_eq_true rfl⟩) hP hD hS hA [1] [0] rfl rfl (by decide) (by decide) (fun u_5 H locs k_4 hP hD hS => ?_)
  obtain ⟨q1_2, eu_5⟩ : ∃ z, z = u_5 := ⟨_, rfl⟩
  subst eu_5
  have hP : va_P (dC, dI) vwCl [(h0, .inr (7, [.null, .int 0, .int 0, .int 0, .int 0, .null, .int 0, .null, .null, .null, .null, .int 0, .null, .null, .null])), (q_1, .inr (4, [.int 0, .int 0, .int 0, .ref q1_2]))] H := hP
  have hD : va_D A [(h0, .inr (7, [.null, .int 0, .int 0, .int 0, .int 0, .null, .int 0, .null, .null, .null, .null, .int 0, .null, .null, .null])), (q_1, .inr (4, [.int 0, .int 0, .int 0, .ref q1_2]))] := hD
  refine r_putF X kcX7 (ci := 7) rfl hP hD hS hin 0 rfl 0 (by decide) w_372 rfl rfl rfl rfl (Nat.le_of_ble_eq_true rfl) dX7_init_12 (fun H locs hP hD hS => ?_)
  have hP : va_P (dC, dI) vwCl [(h0, .inr (7, [.ref q_1, .int 0, .int 0, .int 0, .int 0, .null, .int 0, .null, .null, .null, .null, .int 0, .null, .null, .null])), (q_1, .inr (4, [.int 0, .int 0, .int 0, .ref q1_2]))] H := hP
  have hD : va_D A [(h0, .inr (7, [.ref q_1, .int 0, .int 0, .int 0, .int 0, .null, .int 0, .null, .null, .null, .null, .int 0, .null, .null, .null])), (q_1, .inr (4, [.int 0, .int 0, .int 0, .ref q1_2]))] := hD
  refine lv_aload_n hx hb dX7_init_15 rfl (lv_at hl 0 rfl) ?_
  refine lv_iconst (v := 5) hx hb dX7_init_16 (by decide) ?_
  refine r_newa X (atype := .int) (ty := .int) (t0 := 1) (N' := 5) (a0 := (5, .inl (fun _ => 0))) rfl w_207 rfl hP hD hS hA (fun _ => rfl) (by decide) (by decide) (Nat.le_of_ble_eq_true rfl) (Nat.le_of_ble_eq_true rfl) (Nat.le_of_ble_eq_true rfl) dX7_init_17 (fun q_6 H hP hD hS => ?_)
  have hP : va_P (dC, dI) vwCl [(h0, .inr (7, [.ref q_1, .int 0, .int 0, .int 0, .int 0, .null, .int 0, .null, .null, .null, .null, .int 0, .null, .null, .null])), (q_1, .inr (4, [.int 0, .int 0, .int 0, .ref q1_2])), (q_6, .inl (cy 1, 5, .inl ((fun _ => 0))))] H := hP
  have hD : va_D A [(h0, .inr (7, [.ref q_1, .int 0, .int 0, .int 0, .int 0, .null, .int 0, .null, .null, .null, .null, .int 0, .null, .null, .null])), (q_1, .inr (4, [.int 0, .int 0, .int 0, .ref q1_2])), (q_6, .inl (cy 1, 5, .inl ((fun _ => 0))))] := hD
  refine r_putF X kcX7 (ci := 7) rfl hP hD hS hin 0 rfl 5 (by decide) w_388 rfl rfl rfl rfl (Nat.le_of_ble_eq_true rfl) dX7_init_19 (fun H locs hP hD hS => ?_)
  have hP : va_P (dC, dI) vwCl [(h0, .inr (7, [.ref q_1, .int 0, .int 0, .int 0, .int 0, .ref q_6, .int 0, .null, .null, .null, .null, .int 0, .null, .null, .null])), (q_1, .inr (4, [.int 0, .int 0, .int 0, .ref q1_2])), (q_6, .inl (cy 1, 5, .inl ((fun _ => 0))))] H := hP
  have hD : va_D A [(h0, .inr (7, [.ref q_1, .int 0, .int 0, .int 0, .int 0, .ref q_6, .int 0, .null, .null, .null, .null, .int 0, .null, .null, .null])), (q_1, .inr (4, [.int 0, .int 0, .int 0, .ref q1_2])), (q_6, .inl (cy 1, 5, .inl ((fun _ => 0))))] := hD
  refine lv_aload_n hx hb dX7_init_22 rfl (lv_at hl 0 rfl) ?_
  refine lv_iconst (v := 4) hx hb dX7_init_23 (by decide) ?_
  refine r_newa X (atype := .long) (ty := .long) (t0 := 2) (N' := 4) (a0 := (4, .inr (.inl (fun _ => 0)))) rfl w_348 rfl hP hD hS hA (fun _ => rfl) (by decide) (by decide) (Nat.le_of_ble_eq_true rfl) (Nat.le_of_ble_eq_true rfl) (Nat.le_of_ble_eq_true rfl) dX7_init_24 (fun q_7 H hP hD hS => ?_)
  have hP : va_P (dC, dI) vwCl [(h0, .inr (7, [.ref q_1, .int 0, .int 0, .int 0, .int 0, .ref q_6, .int 0, .null, .null, .null, .null, .int 0, .null, .null, .null])), (q_1, .inr (4, [.int 0, .int 0, .int 0, .ref q1_2])), (q_6, .inl (cy 1, 5, .inl ((fun _ => 0)))), (q_7, .inl (cy 2, 4, .inr (.inl ((fun _ => 0)))))] H := hP
  have hD : va_D A [(h0, .inr (7, [.ref q_1, .int 0, .int 0, .int 0, .int 0, .ref q_6, .int 0, .null, .null, .null, .null, .int 0, .null, .null, .null])), (q_1, .inr (4, [.int 0, .int 0, .int 0, .ref q1_2])), (q_6, .inl (cy 1, 5, .inl ((fun _ => 0)))), (q_7, .inl (cy 2, 4, .inr (.inl ((fun _ => 0)))))] := hD
  refine r_putF X kcX7 (ci := 7) rfl hP hD hS hin 0 rfl 7 (by decide) w_395 rfl rfl rfl rfl (Nat.le_of_ble_eq_true rfl) dX7_init_26 (fun H locs hP hD hS => ?_)
  have hP : va_P (dC, dI) vwCl [(h0, .inr (7, [.ref q_1, .int 0, .int 0, .int 0, .int 0, .ref q_6, .int 0, .ref q_7, .null, .null, .null, .int 0, .null, .null, .null])), (q_1, .inr (4, [.int 0, .int 0, .int 0, .ref q1_2])), (q_6, .inl (cy 1, 5, .inl ((fun _ => 0)))), (q_7, .inl (cy 2, 4, .inr (.inl ((fun _ => 0)))))] H := hP
  have hD : va_D A [(h0, .inr (7, [.ref q_1, .int 0, .int 0, .int 0, .int 0, .ref q_6, .int 0, .ref q_7, .null, .null, .null, .int 0, .null, .null, .null])), (q_1, .inr (4, [.int 0, .int 0, .int 0, .ref q1_2])), (q_6, .inl (cy 1, 5, .inl ((fun _ => 0)))), (q_7, .inl (cy 2, 4, .inr (.inl ((fun _ => 0)))))] := hD
  refine lv_aload_n hx hb dX7_init_29 rfl (lv_at hl 0 rfl) ?_
  refine lv_iconst (v := 4) hx hb dX7_init_30 (by decide) ?_
  refine r_newa X (atype := .int) (ty := .int) (t0 := 1) (N' := 4) (a0 := (4, .inl (fun _ => 0))) rfl w_207 rfl hP hD hS hA (fun _ => rfl) (by decide) (by decide) (Nat.le_of_ble_eq_true rfl) (Nat.le_of_ble_eq_true rfl) (Nat.le_of_ble_eq_true rfl) dX7_init_31 (fun q_8 H hP hD hS => ?_)
  have hP : va_P (dC, dI) vwCl [(h0, .inr (7, [.ref q_1, .int 0, .int 0, .int 0, .int 0, .ref q_6, .int 0, .ref q_7, .null, .null, .null, .int 0, .null, .null, .null])), (q_1, .inr (4, [.int 0, .int 0, .int 0, .ref q1_2])), (q_6, .inl (cy 1, 5, .inl ((fun _ => 0)))), (q_7, .inl (cy 2, 4, .inr (.inl ((fun _ => 0))))), (q_8, .inl (cy 1, 4, .inl ((fun _ => 0))))] H := hP
  have hD : va_D A [(h0, .inr (7, [.ref q_1, .int 0, .int 0, .int 0, .int 0, .ref q_6, .int 0, .ref q_7, .null, .null, .null, .int 0, .null, .null, .null])), (q_1, .inr (4, [.int 0, .int 0, .int 0, .ref q1_2])), (q_6, .inl (cy 1, 5, .inl ((fun _ => 0)))), (q_7, .inl (cy 2, 4, .inr (.inl ((fun _ => 0))))), (q_8, .inl (cy 1, 4, .inl ((fun _ => 0))))] := hD
  refine r_putF X kcX7 (ci := 7) rfl hP hD hS hin 0 rfl 8 (by decide) w_397 rfl rfl rfl rfl (Nat.le_of_ble_eq_true rfl) dX7_init_33 (fun H locs hP hD hS => ?_)
  have hP : va_P (dC, dI) vwCl [(h0, .inr (7, [.ref q_1, .int 0, .int 0, .int 0, .int 0, .ref q_6, .int 0, .ref q_7, .ref q_8, .null, .null, .int 0, .null, .null, .null])), (q_1, .inr (4, [.int 0, .int 0, .int 0, .ref q1_2])), (q_6, .inl (cy 1, 5, .inl ((fun _ => 0)))), (q_7, .inl (cy 2, 4, .inr (.inl ((fun _ => 0))))), (q_8, .inl (cy 1, 4, .inl ((fun _ => 0))))] H := hP
  have hD : va_D A [(h0, .inr (7, [.ref q_1, .int 0, .int 0, .int 0, .int 0, .ref q_6, .int 0, .ref q_7, .ref q_8, .null, .null, .int 0, .null, .null, .null])), (q_1, .inr (4, [.int 0, .int 0, .int 0, .ref q1_2])), (q_6, .inl (cy 1, 5, .inl ((fun _ => 0)))), (q_7, .inl (cy 2, 4, .inr (.inl ((fun _ => 0))))), (q_8, .inl (cy 1, 4, .inl ((fun _ => 0))))] := hD
  refine lv_aload_n hx hb dX7_init_36 rfl (lv_at hl 0 rfl) ?_
  refine lv_iconst (v := 4) hx hb dX7_init_37 (by decide) ?_
  refine r_newa X (atype := .int) (ty := .int) (t0 := 1) (N' := 4) (a0 := (4, .inl (fun _ => 0))) rfl w_207 rfl hP hD hS hA (fun _ => rfl) (by decide) (by decide) (Nat.le_of_ble_eq_true rfl) (Nat.le_of_ble_eq_true rfl) (Nat.le_of_ble_eq_true rfl) dX7_init_38 (fun q_9 H hP hD hS => ?_)
  have hP : va_P (dC, dI) vwCl [(h0, .inr (7, [.ref q_1, .int 0, .int 0, .int 0, .int 0, .ref q_6, .int 0, .ref q_7, .ref q_8, .null, .null, .int 0, .null, .null, .null])), (q_1, .inr (4, [.int 0, .int 0, .int 0, .ref q1_2])), (q_6, .inl (cy 1, 5, .inl ((fun _ => 0)))), (q_7, .inl (cy 2, 4, .inr (.inl ((fun _ => 0))))), (q_8, .inl (cy 1, 4, .inl ((fun _ => 0)))), (q_9, .inl (cy 1, 4, .inl ((fun _ => 0))))] H := hP
  have hD : va_D A [(h0, .inr (7, [.ref q_1, .int 0, .int 0, .int 0, .int 0, .ref q_6, .int 0, .ref q_7, .ref q_8, .null, .null, .int 0, .null, .null, .null])), (q_1, .inr (4, [.int 0, .int 0, .int 0, .ref q1_2])), (q_6, .inl (cy 1, 5, .inl ((fun _ => 0)))), (q_7, .inl (cy 2, 4, .inr (.inl ((fun _ => 0))))), (q_8, .inl (cy 1, 4, .inl ((fun _ => 0)))), (q_9, .inl (cy 1, 4, .inl ((fun _ => 0))))] := hD
  refine r_putF X kcX7 (ci := 7) rfl hP hD hS hin 0 rfl 9 (by decide) w_401 rfl rfl rfl rfl (Nat.le_of_ble_eq_true rfl) dX7_init_40 (fun H locs hP hD hS => ?_)
  have hP : va_P (dC, dI) vwCl [(h0, .inr (7, [.ref q_1, .int 0, .int 0, .int 0, .int 0, .ref q_6, .int 0, .ref q_7, .ref q_8, .ref q_9, .null, .int 0, .null, .null, .null])), (q_1, .inr (4, [.int 0, .int 0, .int 0, .ref q1_2])), (q_6, .inl (cy 1, 5, .inl ((fun _ => 0)))), (q_7, .inl (cy 2, 4, .inr (.inl ((fun _ => 0))))), (q_8, .inl (cy 1, 4, .inl ((fun _ => 0)))), (q_9, .inl (cy 1, 4, .inl ((fun _ => 0))))] H := hP
  have hD : va_D A [(h0, .inr (7, [.ref q_1, .int 0, .int 0, .int 0, .int 0, .ref q_6, .int 0, .ref q_7, .ref q_8, .ref q_9, .null, .int 0, .null, .null, .null])), (q_1, .inr (4, [.int 0, .int 0, .int 0, .ref q1_2])), (q_6, .inl (cy 1, 5, .inl ((fun _ => 0)))), (q_7, .inl (cy 2, 4, .inr (.inl ((fun _ => 0))))), (q_8, .inl (cy 1, 4, .inl ((fun _ => 0)))), (q_9, .inl (cy 1, 4, .inl ((fun _ => 0))))] := hD
  refine lv_aload_n hx hb dX7_init_43 rfl (lv_at hl 0 rfl) ?_
  refine lv_iconst (v := 4) hx hb dX7_init_44 (by decide) ?_
  refine r_newa X (atype := .int) (ty := .int) (t0 := 1) (N' := 4) (a0 := (4, .inl (fun _ => 0))) rfl w_207 rfl hP hD hS hA (fun _ => rfl) (by decide) (by decide) (Nat.le_of_ble_eq_true rfl) (Nat.le_of_ble_eq_true rfl) (Nat.le_of_ble_eq_true rfl) dX7_init_45 (fun q_10 H hP hD hS => ?_)
  have hP : va_P (dC, dI) vwCl [(h0, .inr (7, [.ref q_1, .int 0, .int 0, .int 0, .int 0, .ref q_6, .int 0, .ref q_7, .ref q_8, .ref q_9, .null, .int 0, .null, .null, .null])), (q_1, .inr (4, [.int 0, .int 0, .int 0, .ref q1_2])), (q_6, .inl (cy 1, 5, .inl ((fun _ => 0)))), (q_7, .inl (cy 2, 4, .inr (.inl ((fun _ => 0))))), (q_8, .inl (cy 1, 4, .inl ((fun _ => 0)))), (q_9, .inl (cy 1, 4, .inl ((fun _ => 0)))), (q_10, .inl (cy 1, 4, .inl ((fun _ => 0))))] H := hP
  have hD : va_D A [(h0, .inr (7, [.ref q_1, .int 0, .int 0, .int 0, .int 0, .ref q_6, .int 0, .ref q_7, .ref q_8, .ref q_9, .null, .int 0, .null, .null, .null])), (q_1, .inr (4, [.int 0, .int 0, .int 0, .ref q1_2])), (q_6, .inl (cy 1, 5, .inl ((fun _ => 0)))), (q_7, .inl (cy 2, 4, .inr (.inl ((fun _ => 0))))), (q_8, .inl (cy 1, 4, .inl ((fun _ => 0)))), (q_9, .inl (cy 1, 4, .inl ((fun _ => 0)))), (q_10, .inl (cy 1, 4, .inl ((fun _ => 0))))] := hD
  refine r_putF X kcX7 (ci := 7) rfl hP hD hS hin 0 rfl 10 (by decide) w_404 rfl rfl rfl rfl (Nat.le_of_ble_eq_true rfl) dX7_init_47 (fun H locs hP hD hS => ?_)
  have hP : va_P (dC, dI) vwCl [(h0, .inr (7, [.ref q_1, .int 0, .int 0, .int 0, .int 0, .ref q_6, .int 0, .ref q_7, .ref q_8, .ref q_9, .ref q_10, .int 0, .null, .null, .null])), (q_1, .inr (4, [.int 0, .int 0, .int 0, .ref q1_2])), (q_6, .inl (cy 1, 5, .inl ((fun _ => 0)))), (q_7, .inl (cy 2, 4, .inr (.inl ((fun _ => 0))))), (q_8, .inl (cy 1, 4, .inl ((fun _ => 0)))), (q_9, .inl (cy 1, 4, .inl ((fun _ => 0)))), (q_10, .inl (cy 1, 4, .inl ((fun _ => 0))))] H := hP
  have hD : va_D A [(h0, .inr (7, [.ref q_1, .int 0, .int 0, .int 0, .int 0, .ref q_6, .int 0, .ref q_7, .ref q_8, .ref q_9, .ref q_10, .int 0, .null, .null, .null])), (q_1, .inr (4, [.int 0, .int 0, .int 0, .ref q1_2])), (q_6, .inl (cy 1, 5, .inl ((fun _ => 0)))), (q_7, .inl (cy 2, 4, .inr (.inl ((fun _ => 0))))), (q_8, .inl (cy 1, 4, .inl ((fun _ => 0)))), (q_9, .inl (cy 1, 4, .inl ((fun _ => 0)))), (q_10, .inl (cy 1, 4, .inl ((fun _ => 0))))] := hD
  refine lv_aload_n hx hb dX7_init_50 rfl (lv_at hl 0 rfl) ?_
  refine lv_bipush (v := 6) hx hb dX7_init_51 (by decide) ?_
  refine r_newa X (atype := .int) (ty := .int) (t0 := 1) (N' := 6) (a0 := (6, .inl (fun _ => 0))) rfl w_207 rfl hP hD hS hA (fun _ => rfl) (by decide) (by decide) (Nat.le_of_ble_eq_true rfl) (Nat.le_of_ble_eq_true rfl) (Nat.le_of_ble_eq_true rfl) dX7_init_53 (fun q_11 H hP hD hS => ?_)
  have hP : va_P (dC, dI) vwCl [(h0, .inr (7, [.ref q_1, .int 0, .int 0, .int 0, .int 0, .ref q_6, .int 0, .ref q_7, .ref q_8, .ref q_9, .ref q_10, .int 0, .null, .null, .null])), (q_1, .inr (4, [.int 0, .int 0, .int 0, .ref q1_2])), (q_6, .inl (cy 1, 5, .inl ((fun _ => 0)))), (q_7, .inl (cy 2, 4, .inr (.inl ((fun _ => 0))))), (q_8, .inl (cy 1, 4, .inl ((fun _ => 0)))), (q_9, .inl (cy 1, 4, .inl ((fun _ => 0)))), (q_10, .inl (cy 1, 4, .inl ((fun _ => 0)))), (q_11, .inl (cy 1, 6, .inl ((fun _ => 0))))] H := hP
  have hD : va_D A [(h0, .inr (7, [.ref q_1, .int 0, .int 0, .int 0, .int 0, .ref q_6, .int 0, .ref q_7, .ref q_8, .ref q_9, .ref q_10, .int 0, .null, .null, .null])), (q_1, .inr (4, [.int 0, .int 0, .int 0, .ref q1_2])), (q_6, .inl (cy 1, 5, .inl ((fun _ => 0)))), (q_7, .inl (cy 2, 4, .inr (.inl ((fun _ => 0))))), (q_8, .inl (cy 1, 4, .inl ((fun _ => 0)))), (q_9, .inl (cy 1, 4, .inl ((fun _ => 0)))), (q_10, .inl (cy 1, 4, .inl ((fun _ => 0)))), (q_11, .inl (cy 1, 6, .inl ((fun _ => 0))))] := hD
  refine r_putF X kcX7 (ci := 7) rfl hP hD hS hin 0 rfl 12 (by decide) w_412 rfl rfl rfl rfl (Nat.le_of_ble_eq_true rfl) dX7_init_55 (fun H locs hP hD hS => ?_)
  have hP : va_P (dC, dI) vwCl [(h0, .inr (7, [.ref q_1, .int 0, .int 0, .int 0, .int 0, .ref q_6, .int 0, .ref q_7, .ref q_8, .ref q_9, .ref q_10, .int 0, .ref q_11, .null, .null])), (q_1, .inr (4, [.int 0, .int 0, .int 0, .ref q1_2])), (q_6, .inl (cy 1, 5, .inl ((fun _ => 0)))), (q_7, .inl (cy 2, 4, .inr (.inl ((fun _ => 0))))), (q_8, .inl (cy 1, 4, .inl ((fun _ => 0)))), (q_9, .inl (cy 1, 4, .inl ((fun _ => 0)))), (q_10, .inl (cy 1, 4, .inl ((fun _ => 0)))), (q_11, .inl (cy 1, 6, .inl ((fun _ => 0))))] H := hP
  have hD : va_D A [(h0, .inr (7, [.ref q_1, .int 0, .int 0, .int 0, .int 0, .ref q_6, .int 0, .ref q_7, .ref q_8, .ref q_9, .ref q_10, .int 0, .ref q_11, .null, .null])), (q_1, .inr (4, [.int 0, .int 0, .int 0, .ref q1_2])), (q_6, .inl (cy 1, 5, .inl ((fun _ => 0)))), (q_7, .inl (cy 2, 4, .inr (.inl ((fun _ => 0))))), (q_8, .inl (cy 1, 4, .inl ((fun _ => 0)))), (q_9, .inl (cy 1, 4, .inl ((fun _ => 0)))), (q_10, .inl (cy 1, 4, .inl ((fun _ => 0)))), (q_11, .inl (cy 1, 6, .inl ((fun _ => 0))))] := hD
  refine lv_aload_n hx hb dX7_init_58 rfl (lv_at hl 0 rfl) ?_
  refine lv_bipush (v := 6) hx hb dX7_init_59 (by decide) ?_
  refine r_newa X (atype := .int) (ty := .int) (t0 := 1) (N' := 6) (a0 := (6, .inl (fun _ => 0))) rfl w_207 rfl hP hD hS hA (fun _ => rfl) (by decide) (by decide) (Nat.le_of_ble_eq_true rfl) (Nat.le_of_ble_eq_true rfl) (Nat.le_of_ble_eq_true rfl) dX7_init_61 (fun q_12 H hP hD hS => ?_)
  have hP : va_P (dC, dI) vwCl [(h0, .inr (7, [.ref q_1, .int 0, .int 0, .int 0, .int 0, .ref q_6, .int 0, .ref q_7, .ref q_8, .ref q_9, .ref q_10, .int 0, .ref q_11, .null, .null])), (q_1, .inr (4, [.int 0, .int 0, .int 0, .ref q1_2])), (q_6, .inl (cy 1, 5, .inl ((fun _ => 0)))), (q_7, .inl (cy 2, 4, .inr (.inl ((fun _ => 0))))), (q_8, .inl (cy 1, 4, .inl ((fun _ => 0)))), (q_9, .inl (cy 1, 4, .inl ((fun _ => 0)))), (q_10, .inl (cy 1, 4, .inl ((fun _ => 0)))), (q_11, .inl (cy 1, 6, .inl ((fun _ => 0)))), (q_12, .inl (cy 1, 6, .inl ((fun _ => 0))))] H := hP
  have hD : va_D A [(h0, .inr (7, [.ref q_1, .int 0, .int 0, .int 0, .int 0, .ref q_6, .int 0, .ref q_7, .ref q_8, .ref q_9, .ref q_10, .int 0, .ref q_11, .null, .null])), (q_1, .inr (4, [.int 0, .int 0, .int 0, .ref q1_2])), (q_6, .inl (cy 1, 5, .inl ((fun _ => 0)))), (q_7, .inl (cy 2, 4, .inr (.inl ((fun _ => 0))))), (q_8, .inl (cy 1, 4, .inl ((fun _ => 0)))), (q_9, .inl (cy 1, 4, .inl ((fun _ => 0)))), (q_10, .inl (cy 1, 4, .inl ((fun _ => 0)))), (q_11, .inl (cy 1, 6, .inl ((fun _ => 0)))), (q_12, .inl (cy 1, 6, .inl ((fun _ => 0))))] := hD
  refine r_putF X kcX7 (ci := 7) rfl hP hD hS hin 0 rfl 13 (by decide) w_414 rfl rfl rfl rfl (Nat.le_of_ble_eq_true rfl) dX7_init_63 (fun H locs hP hD hS => ?_)
  have hP : va_P (dC, dI) vwCl [(h0, .inr (7, [.ref q_1, .int 0, .int 0, .int 0, .int 0, .ref q_6, .int 0, .ref q_7, .ref q_8, .ref q_9, .ref q_10, .int 0, .ref q_11, .ref q_12, .null])), (q_1, .inr (4, [.int 0, .int 0, .int 0, .ref q1_2])), (q_6, .inl (cy 1, 5, .inl ((fun _ => 0)))), (q_7, .inl (cy 2, 4, .inr (.inl ((fun _ => 0))))), (q_8, .inl (cy 1, 4, .inl ((fun _ => 0)))), (q_9, .inl (cy 1, 4, .inl ((fun _ => 0)))), (q_10, .inl (cy 1, 4, .inl ((fun _ => 0)))), (q_11, .inl (cy 1, 6, .inl ((fun _ => 0)))), (q_12, .inl (cy 1, 6, .inl ((fun _ => 0))))] H := hP
  have hD : va_D A [(h0, .inr (7, [.ref q_1, .int 0, .int 0, .int 0, .int 0, .ref q_6, .int 0, .ref q_7, .ref q_8, .ref q_9, .ref q_10, .int 0, .ref q_11, .ref q_12, .null])), (q_1, .inr (4, [.int 0, .int 0, .int 0, .ref q1_2])), (q_6, .inl (cy 1, 5, .inl ((fun _ => 0)))), (q_7, .inl (cy 2, 4, .inr (.inl ((fun _ => 0))))), (q_8, .inl (cy 1, 4, .inl ((fun _ => 0)))), (q_9, .inl (cy 1, 4, .inl ((fun _ => 0)))), (q_10, .inl (cy 1, 4, .inl ((fun _ => 0)))), (q_11, .inl (cy 1, 6, .inl ((fun _ => 0)))), (q_12, .inl (cy 1, 6, .inl ((fun _ => 0))))] := hD
  refine lv_aload_n hx hb dX7_init_66 rfl (lv_at hl 0 rfl) ?_
  refine lv_bipush (v := 6) hx hb dX7_init_67 (by decide) ?_
  refine r_newa X (atype := .boolean) (ty := .boolean) (t0 := 3) (N' := 6) (a0 := (6, .inl (fun _ => 0))) rfl w_449 rfl hP hD hS hA (fun _ => rfl) (by decide) (by decide) (Nat.le_of_ble_eq_true rfl) (Nat.le_of_ble_eq_true rfl) (Nat.le_of_ble_eq_true rfl) dX7_init_69 (fun q_13 H hP hD hS => ?_)
  have hP : va_P (dC, dI) vwCl [(h0, .inr (7, [.ref q_1, .int 0, .int 0, .int 0, .int 0, .ref q_6, .int 0, .ref q_7, .ref q_8, .ref q_9, .ref q_10, .int 0, .ref q_11, .ref q_12, .null])), (q_1, .inr (4, [.int 0, .int 0, .int 0, .ref q1_2])), (q_6, .inl (cy 1, 5, .inl ((fun _ => 0)))), (q_7, .inl (cy 2, 4, .inr (.inl ((fun _ => 0))))), (q_8, .inl (cy 1, 4, .inl ((fun _ => 0)))), (q_9, .inl (cy 1, 4, .inl ((fun _ => 0)))), (q_10, .inl (cy 1, 4, .inl ((fun _ => 0)))), (q_11, .inl (cy 1, 6, .inl ((fun _ => 0)))), (q_12, .inl (cy 1, 6, .inl ((fun _ => 0)))), (q_13, .inl (cy 3, 6, .inl ((fun _ => 0))))] H := hP
  have hD : va_D A [(h0, .inr (7, [.ref q_1, .int 0, .int 0, .int 0, .int 0, .ref q_6, .int 0, .ref q_7, .ref q_8, .ref q_9, .ref q_10, .int 0, .ref q_11, .ref q_12, .null])), (q_1, .inr (4, [.int 0, .int 0, .int 0, .ref q1_2])), (q_6, .inl (cy 1, 5, .inl ((fun _ => 0)))), (q_7, .inl (cy 2, 4, .inr (.inl ((fun _ => 0))))), (q_8, .inl (cy 1, 4, .inl ((fun _ => 0)))), (q_9, .inl (cy 1, 4, .inl ((fun _ => 0)))), (q_10, .inl (cy 1, 4, .inl ((fun _ => 0)))), (q_11, .inl (cy 1, 6, .inl ((fun _ => 0)))), (q_12, .inl (cy 1, 6, .inl ((fun _ => 0)))), (q_13, .inl (cy 3, 6, .inl ((fun _ => 0))))] := hD
  refine r_putF X kcX7 (ci := 7) rfl hP hD hS hin 0 rfl 14 (by decide) w_416 rfl rfl rfl rfl (Nat.le_of_ble_eq_true rfl) dX7_init_71 (fun H locs hP hD hS => ?_)
  have hP : va_P (dC, dI) vwCl [(h0, .inr (7, [.ref q_1, .int 0, .int 0, .int 0, .int 0, .ref q_6, .int 0, .ref q_7, .ref q_8, .ref q_9, .ref q_10, .int 0, .ref q_11, .ref q_12, .ref q_13])), (q_1, .inr (4, [.int 0, .int 0, .int 0, .ref q1_2])), (q_6, .inl (cy 1, 5, .inl ((fun _ => 0)))), (q_7, .inl (cy 2, 4, .inr (.inl ((fun _ => 0))))), (q_8, .inl (cy 1, 4, .inl ((fun _ => 0)))), (q_9, .inl (cy 1, 4, .inl ((fun _ => 0)))), (q_10, .inl (cy 1, 4, .inl ((fun _ => 0)))), (q_11, .inl (cy 1, 6, .inl ((fun _ => 0)))), (q_12, .inl (cy 1, 6, .inl ((fun _ => 0)))), (q_13, .inl (cy 3, 6, .inl ((fun _ => 0))))] H := hP
  have hD : va_D A [(h0, .inr (7, [.ref q_1, .int 0, .int 0, .int 0, .int 0, .ref q_6, .int 0, .ref q_7, .ref q_8, .ref q_9, .ref q_10, .int 0, .ref q_11, .ref q_12, .ref q_13])), (q_1, .inr (4, [.int 0, .int 0, .int 0, .ref q1_2])), (q_6, .inl (cy 1, 5, .inl ((fun _ => 0)))), (q_7, .inl (cy 2, 4, .inr (.inl ((fun _ => 0))))), (q_8, .inl (cy 1, 4, .inl ((fun _ => 0)))), (q_9, .inl (cy 1, 4, .inl ((fun _ => 0)))), (q_10, .inl (cy 1, 4, .inl ((fun _ => 0)))), (q_11, .inl (cy 1, 6, .inl ((fun _ => 0)))), (q_12, .inl (cy 1, 6, .inl ((fun _ => 0)))), (q_13, .inl (cy 3, 6, .inl ((fun _ => 0))))] := hD
  exact eV X hr hlocks hP hD hS (q_1, q1_2, q_6, q_7, q_8, q_9, q_10, q_11, q_12, q_13) [0, 1] (by decide) rfl trivial (Nat.le_of_ble_eq_true rfl) (Nat.le_of_ble_eq_true rfl) dX7_init_74
set_option maxHeartbeats 4000000 in
set_option maxRecDepth 100000 in
theorem tX9_ini (l : Launch) (dC : Nat → ClassId) (dI : Nat → Nat → Nat) (cy : Nat → ClassId) (h0 : Nat) : ctV l dC dI cy yX9_init cX9_init 1 ({ frames := 1, cells := 1, slots := 800, locals := 12 }) [.ref h0] [(h0, .inr (8, [.null, .int 0, .int 0, .int 0, .int 0, .int 0, .int 0, .int 0, .int 0]))] (S := Nat) (fun _ => True) (fun q1 => [(h0, .inr (8, [.ref q1, .int 0, .int 0, .int 0, .int 0, .int 0, .int 0, .int 0, .int 0])), (q1, .inl (cy 0, 800, .inl ((fun _ => 0))))]) := by
  refine ctV.of (by decide +kernel) (Nat.le_of_ble_eq_true rfl) ?_
  intro p e s m args below meth c A ls X hr hlocks hin hA hP hD hS hl
  have hx := X.1
  have hb := X.2.1
  have hK := X.2.2.2.2.2.1
  have hl : lv_has ls 1 [(0, .ref h0)] := hl
  refine lv_aload_n hx hb dX9_init_0 rfl (lv_at hl 0 rfl) ?_
  refine r_oinit X hl w_139 dX9_init_1 (Nat.le_of_ble_eq_true rfl) (Nat.le_of_ble_eq_true rfl) ?_
  refine lv_aload_n hx hb dX9_init_4 rfl (lv_at hl 0 rfl) ?_
  refine lv_sipush (v := 800) hx hb dX9_init_5 (by decide) ?_
  refine r_newa X (atype := .byte) (ty := .byte) (t0 := 0) (N' := 800) (a0 := (800, .inl (fun _ => 0))) rfl w_171 rfl hP hD hS hA (fun _ => rfl) (by decide) (by decide) (Nat.le_of_ble_eq_true rfl) (Nat.le_of_ble_eq_true rfl) (Nat.le_of_ble_eq_true rfl) dX9_init_8 (fun q_1 H hP hD hS => ?_)
  have hP : va_P (dC, dI) vwCl [(h0, .inr (8, [.null, .int 0, .int 0, .int 0, .int 0, .int 0, .int 0, .int 0, .int 0])), (q_1, .inl (cy 0, 800, .inl ((fun _ => 0))))] H := hP
  have hD : va_D A [(h0, .inr (8, [.null, .int 0, .int 0, .int 0, .int 0, .int 0, .int 0, .int 0, .int 0])), (q_1, .inl (cy 0, 800, .inl ((fun _ => 0))))] := hD
  refine r_putF X kcX9 (ci := 8) rfl hP hD hS hin 0 rfl 0 (by decide) w_140 rfl rfl rfl rfl (Nat.le_of_ble_eq_true rfl) dX9_init_10 (fun H locs hP hD hS => ?_)
  have hP : va_P (dC, dI) vwCl [(h0, .inr (8, [.ref q_1, .int 0, .int 0, .int 0, .int 0, .int 0, .int 0, .int 0, .int 0])), (q_1, .inl (cy 0, 800, .inl ((fun _ => 0))))] H := hP
  have hD : va_D A [(h0, .inr (8, [.ref q_1, .int 0, .int 0, .int 0, .int 0, .int 0, .int 0, .int 0, .int 0])), (q_1, .inl (cy 0, 800, .inl ((fun _ => 0))))] := hD
  exact eV X hr hlocks hP hD hS q_1 [0, 1] (by decide) rfl trivial (Nat.le_of_ble_eq_true rfl) (Nat.le_of_ble_eq_true rfl) dX9_init_13
