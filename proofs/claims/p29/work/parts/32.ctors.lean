def q3 (a0 a1 a2 : Nat) : Nat → Option Nat := fun j => match j with | 0 => some a0 | 1 => some a1 | 2 => some a2 | _ => none
theorem q3_mk (a0 a1 a2 : Nat) : va_up (va_up (va_up (fun _ => none) (Int32.toNatClampNeg 0) (some a0)) (Int32.toNatClampNeg 1) (some a1)) (Int32.toNatClampNeg 2) (some a2) = q3 a0 a1 a2 := by
  funext j
  match j with
  | 0 => rfl
  | 1 => rfl
  | 2 => rfl
  | k + 3 =>
    rw [va_up_ne _ _ (show k + 3 ≠ Int32.toNatClampNeg 2 from (show k + 3 ≠ 2 by omega))]
    rw [va_up_ne _ _ (show k + 3 ≠ Int32.toNatClampNeg 1 from (show k + 3 ≠ 1 by omega))]
    rw [va_up_ne _ _ (show k + 3 ≠ Int32.toNatClampNeg 0 from (show k + 3 ≠ 0 by omega))]
    rfl
theorem q4_mk (a0 a1 a2 a3 : Nat) : va_up (va_up (va_up (va_up (fun _ => none) (Int32.toNatClampNeg 0) (some a0)) (Int32.toNatClampNeg 1) (some a1)) (Int32.toNatClampNeg 2) (some a2)) (Int32.toNatClampNeg 3) (some a3) = q4 a0 a1 a2 a3 := by
  funext j
  match j with
  | 0 => rfl
  | 1 => rfl
  | 2 => rfl
  | 3 => rfl
  | k + 4 =>
    rw [va_up_ne _ _ (show k + 4 ≠ Int32.toNatClampNeg 3 from (show k + 4 ≠ 3 by omega))]
    rw [va_up_ne _ _ (show k + 4 ≠ Int32.toNatClampNeg 2 from (show k + 4 ≠ 2 by omega))]
    rw [va_up_ne _ _ (show k + 4 ≠ Int32.toNatClampNeg 1 from (show k + 4 ≠ 1 by omega))]
    rw [va_up_ne _ _ (show k + 4 ≠ Int32.toNatClampNeg 0 from (show k + 4 ≠ 0 by omega))]
    rfl
theorem q16_mk (a0 a1 a2 a3 a4 a5 a6 a7 a8 a9 a10 a11 a12 a13 a14 a15 : Nat) : va_up (va_up (va_up (va_up (va_up (va_up (va_up (va_up (va_up (va_up (va_up (va_up (va_up (va_up (va_up (va_up (fun _ => none) (Int32.toNatClampNeg 0) (some a0)) (Int32.toNatClampNeg 1) (some a1)) (Int32.toNatClampNeg 2) (some a2)) (Int32.toNatClampNeg 3) (some a3)) (Int32.toNatClampNeg 4) (some a4)) (Int32.toNatClampNeg 5) (some a5)) (Int32.toNatClampNeg 6) (some a6)) (Int32.toNatClampNeg 7) (some a7)) (Int32.toNatClampNeg 8) (some a8)) (Int32.toNatClampNeg 9) (some a9)) (Int32.toNatClampNeg 10) (some a10)) (Int32.toNatClampNeg 11) (some a11)) (Int32.toNatClampNeg 12) (some a12)) (Int32.toNatClampNeg 13) (some a13)) (Int32.toNatClampNeg 14) (some a14)) (Int32.toNatClampNeg 15) (some a15) = q16 a0 a1 a2 a3 a4 a5 a6 a7 a8 a9 a10 a11 a12 a13 a14 a15 := by
  funext j
  match j with
  | 0 => rfl
  | 1 => rfl
  | 2 => rfl
  | 3 => rfl
  | 4 => rfl
  | 5 => rfl
  | 6 => rfl
  | 7 => rfl
  | 8 => rfl
  | 9 => rfl
  | 10 => rfl
  | 11 => rfl
  | 12 => rfl
  | 13 => rfl
  | 14 => rfl
  | 15 => rfl
  | k + 16 =>
    rw [va_up_ne _ _ (show k + 16 ≠ Int32.toNatClampNeg 15 from (show k + 16 ≠ 15 by omega))]
    rw [va_up_ne _ _ (show k + 16 ≠ Int32.toNatClampNeg 14 from (show k + 16 ≠ 14 by omega))]
    rw [va_up_ne _ _ (show k + 16 ≠ Int32.toNatClampNeg 13 from (show k + 16 ≠ 13 by omega))]
    rw [va_up_ne _ _ (show k + 16 ≠ Int32.toNatClampNeg 12 from (show k + 16 ≠ 12 by omega))]
    rw [va_up_ne _ _ (show k + 16 ≠ Int32.toNatClampNeg 11 from (show k + 16 ≠ 11 by omega))]
    rw [va_up_ne _ _ (show k + 16 ≠ Int32.toNatClampNeg 10 from (show k + 16 ≠ 10 by omega))]
    rw [va_up_ne _ _ (show k + 16 ≠ Int32.toNatClampNeg 9 from (show k + 16 ≠ 9 by omega))]
    rw [va_up_ne _ _ (show k + 16 ≠ Int32.toNatClampNeg 8 from (show k + 16 ≠ 8 by omega))]
    rw [va_up_ne _ _ (show k + 16 ≠ Int32.toNatClampNeg 7 from (show k + 16 ≠ 7 by omega))]
    rw [va_up_ne _ _ (show k + 16 ≠ Int32.toNatClampNeg 6 from (show k + 16 ≠ 6 by omega))]
    rw [va_up_ne _ _ (show k + 16 ≠ Int32.toNatClampNeg 5 from (show k + 16 ≠ 5 by omega))]
    rw [va_up_ne _ _ (show k + 16 ≠ Int32.toNatClampNeg 4 from (show k + 16 ≠ 4 by omega))]
    rw [va_up_ne _ _ (show k + 16 ≠ Int32.toNatClampNeg 3 from (show k + 16 ≠ 3 by omega))]
    rw [va_up_ne _ _ (show k + 16 ≠ Int32.toNatClampNeg 2 from (show k + 16 ≠ 2 by omega))]
    rw [va_up_ne _ _ (show k + 16 ≠ Int32.toNatClampNeg 1 from (show k + 16 ≠ 1 by omega))]
    rw [va_up_ne _ _ (show k + 16 ≠ Int32.toNatClampNeg 0 from (show k + 16 ≠ 0 by omega))]
    rfl
set_option maxHeartbeats 4000000 in
set_option maxRecDepth 100000 in
theorem sX4_ini (l : Launch) (dC : Nat → ClassId) (dI : Nat → Nat → Nat) (cy : Nat → ClassId) (h0 : Nat) : ctV l dC dI cy hp yX4_init cX4_init 1 ({ frames := 1, cells := 1, slots := 20, locals := 12 } : Room) [.ref h0] [(h0, .inr (4, [.int 0, .int 0, .int 0, .null]))] (S := Nat) (fun u => True) (fun u => [(h0, .inr (4, [.int 0, .int 0, .int 0, .ref u])), (u, .inl (cy 1, 20, .inl ((fun _ => 0))))]) := by
  refine ctV.of (by decide +kernel) (Nat.le_of_ble_eq_true rfl) ?_
  intro p e s m args below meth c A ls Q hQ X hr hlocks hin hA hP hD hS hl
  have hx := X.1
  have hb := X.2.1
  have hK := X.2.2.2.2.2.1
  have hl : lv_has ls 1 [(0, .ref h0)] := hl
  refine lv_aload_n hx hb dX4_init_0 rfl (lv_at hl 0 rfl) ?_
  refine r_oinit X hl w_183 dX4_init_1 (Nat.le_of_ble_eq_true rfl) (Nat.le_of_ble_eq_true rfl) ?_
  refine lv_aload_n hx hb dX4_init_4 rfl (lv_at hl 0 rfl) ?_
  refine lv_bipush (v := 20) hx hb dX4_init_5 (by decide) ?_
  refine r_newa X (atype := .int) (ty := .int) (t0 := 1) (N' := 20) (a0 := (20, .inl (fun _ => 0))) rfl w_207 rfl hP hD hS hA (fun _ => rfl) (by decide) (by decide) (Nat.le_of_ble_eq_true rfl) (Nat.le_of_ble_eq_true rfl) (Nat.le_of_ble_eq_true rfl) dX4_init_7 (fun q_1 H hP hD hS => ?_)
  have hPD := vPD (ws' := [(h0, .inr (4, [.int 0, .int 0, .int 0, .null])), (q_1, .inl (cy 1, 20, .inl ((fun _ => 0))))]) hP hD rfl
  have hP := hPD.1
  have hD := hPD.2
  refine r_putF X kcX4 (ci := 4) rfl hP hD hS hin 0 rfl 3 (by decide) w_197 rfl rfl rfl rfl (Nat.le_of_ble_eq_true rfl) dX4_init_9 (fun H locs hP hD hS => ?_)
  have hPD := vPD (ws' := [(h0, .inr (4, [.int 0, .int 0, .int 0, .ref q_1])), (q_1, .inl (cy 1, 20, .inl ((fun _ => 0))))]) hP hD rfl
  have hP := hPD.1
  have hD := hPD.2
  exact eV hQ X hr hlocks hP hD hS q_1 [0, 1] (by decide) rfl trivial (Nat.le_of_ble_eq_true rfl) (Nat.le_of_ble_eq_true rfl) dX4_init_12
set_option maxHeartbeats 4000000 in
set_option maxRecDepth 100000 in
theorem sX6_ini (l : Launch) (dC : Nat → ClassId) (dI : Nat → Nat → Nat) (cy : Nat → ClassId) (h0 : Nat) : ctV l dC dI cy hp yX6_init cX6_init 1 ({ frames := 2, cells := 5, slots := 36, locals := 32 } : Room) [.ref h0] [(h0, .inr (6, [.null, .null, .null, .null, .int 0]))] (S := Nat × Nat × Nat × Nat × Nat) (fun u => True) (fun u => [(h0, .inr (6, [.ref u.1, .ref u.2.1, .ref u.2.2.1, .ref u.2.2.2.1, .int 0])), (u.1, .inr (4, [.int 0, .int 0, .int 0, .ref u.2.2.2.2])), (u.2.2.2.2, .inl (cy 1, 20, .inl ((fun _ => 0)))), (u.2.1, .inl (cy 1, 4, .inl ((fun _ => 0)))), (u.2.2.1, .inl (cy 1, 4, .inl ((fun _ => 0)))), (u.2.2.2.1, .inl (cy 1, 4, .inl ((fun _ => 0))))]) := by
  refine ctV.of (by decide +kernel) (Nat.le_of_ble_eq_true rfl) ?_
  intro p e s m args below meth c A ls Q hQ X hr hlocks hin hA hP hD hS hl
  have hx := X.1
  have hb := X.2.1
  have hK := X.2.2.2.2.2.1
  have hl : lv_has ls 1 [(0, .ref h0)] := hl
  refine lv_aload_n hx hb dX6_init_0 rfl (lv_at hl 0 rfl) ?_
  refine r_oinit X hl w_177 dX6_init_1 (Nat.le_of_ble_eq_true rfl) (Nat.le_of_ble_eq_true rfl) ?_
  refine lv_aload_n hx hb dX6_init_4 rfl (lv_at hl 0 rfl) ?_
  refine r_new X kcX4 (ci := 4) rfl w_178 w_179 w_103 hP hD hS hA [.int 0, .int 0, .int 0, .null] (fun j hj => by rcases (show j = 0 ∨ j = 1 ∨ j = 2 ∨ j = 3 by omega) with rfl | rfl | rfl | rfl <;> rfl) (Nat.le_of_ble_eq_true rfl) (Nat.le_of_ble_eq_true rfl) dX6_init_5 (fun q_1 H hP hD hS => ?_)
  have hPD := vPD (ws' := [(h0, .inr (6, [.null, .null, .null, .null, .int 0])), (q_1, .inr (4, [.int 0, .int 0, .int 0, .null]))]) hP hD rfl
  have hP := hPD.1
  have hD := hPD.2
  refine lv_dup hx hb dX6_init_8 rfl ?_
  refine sl_Vc (rC_V (As := []) (rest := [.ref q_1, .ref h0]) X hp_st (fun _ _ _ h => h) (sX4_ini l dC dI cy q_1) kX4_init w_181 rfl mX6_11 hP hD hS hA [1] (by decide) rfl hl rfl rfl (Nat.le_of_ble_eq_true rfl) dX6_init_9 ⟨(Nat.le_of_ble_eq_true rfl), (Nat.le_of_ble_eq_true rfl)⟩ ⟨(Nat.le_of_ble_eq_true rfl), (Nat.le_of_ble_eq_true rfl)⟩) hP hD hS hA [1] [true, false] rfl rfl rfl (fun u_5 H locs k_4 hP hD hS => ?_)
  obtain ⟨o_sorts_2, eu_5⟩ : ∃ z, z = u_5 := ⟨_, rfl⟩
  subst eu_5
  have hPD := vPD (ws' := [(h0, .inr (6, [.null, .null, .null, .null, .int 0])), (q_1, .inr (4, [.int 0, .int 0, .int 0, .ref o_sorts_2])), (o_sorts_2, .inl (cy 1, 20, .inl ((fun _ => 0))))]) hP hD rfl
  have hP := hPD.1
  have hD := hPD.2
  refine r_putF X kcX6 (ci := 6) rfl hP hD hS hin 0 rfl 0 (by decide) w_208 rfl rfl rfl rfl (Nat.le_of_ble_eq_true rfl) dX6_init_12 (fun H locs hP hD hS => ?_)
  have hPD := vPD (ws' := [(h0, .inr (6, [.ref q_1, .null, .null, .null, .int 0])), (q_1, .inr (4, [.int 0, .int 0, .int 0, .ref o_sorts_2])), (o_sorts_2, .inl (cy 1, 20, .inl ((fun _ => 0))))]) hP hD rfl
  have hP := hPD.1
  have hD := hPD.2
  refine lv_aload_n hx hb dX6_init_15 rfl (lv_at hl 0 rfl) ?_
  refine lv_iconst (v := 4) hx hb dX6_init_16 (by decide) ?_
  refine r_newa X (atype := .int) (ty := .int) (t0 := 1) (N' := 4) (a0 := (4, .inl (fun _ => 0))) rfl w_207 rfl hP hD hS hA (fun _ => rfl) (by decide) (by decide) (Nat.le_of_ble_eq_true rfl) (Nat.le_of_ble_eq_true rfl) (Nat.le_of_ble_eq_true rfl) dX6_init_17 (fun q_6 H hP hD hS => ?_)
  have hPD := vPD (ws' := [(h0, .inr (6, [.ref q_1, .null, .null, .null, .int 0])), (q_1, .inr (4, [.int 0, .int 0, .int 0, .ref o_sorts_2])), (o_sorts_2, .inl (cy 1, 20, .inl ((fun _ => 0)))), (q_6, .inl (cy 1, 4, .inl ((fun _ => 0))))]) hP hD rfl
  have hP := hPD.1
  have hD := hPD.2
  refine r_putF X kcX6 (ci := 6) rfl hP hD hS hin 0 rfl 1 (by decide) w_211 rfl rfl rfl rfl (Nat.le_of_ble_eq_true rfl) dX6_init_19 (fun H locs hP hD hS => ?_)
  have hPD := vPD (ws' := [(h0, .inr (6, [.ref q_1, .ref q_6, .null, .null, .int 0])), (q_1, .inr (4, [.int 0, .int 0, .int 0, .ref o_sorts_2])), (o_sorts_2, .inl (cy 1, 20, .inl ((fun _ => 0)))), (q_6, .inl (cy 1, 4, .inl ((fun _ => 0))))]) hP hD rfl
  have hP := hPD.1
  have hD := hPD.2
  refine lv_aload_n hx hb dX6_init_22 rfl (lv_at hl 0 rfl) ?_
  refine lv_iconst (v := 4) hx hb dX6_init_23 (by decide) ?_
  refine r_newa X (atype := .int) (ty := .int) (t0 := 1) (N' := 4) (a0 := (4, .inl (fun _ => 0))) rfl w_207 rfl hP hD hS hA (fun _ => rfl) (by decide) (by decide) (Nat.le_of_ble_eq_true rfl) (Nat.le_of_ble_eq_true rfl) (Nat.le_of_ble_eq_true rfl) dX6_init_24 (fun q_7 H hP hD hS => ?_)
  have hPD := vPD (ws' := [(h0, .inr (6, [.ref q_1, .ref q_6, .null, .null, .int 0])), (q_1, .inr (4, [.int 0, .int 0, .int 0, .ref o_sorts_2])), (o_sorts_2, .inl (cy 1, 20, .inl ((fun _ => 0)))), (q_6, .inl (cy 1, 4, .inl ((fun _ => 0)))), (q_7, .inl (cy 1, 4, .inl ((fun _ => 0))))]) hP hD rfl
  have hP := hPD.1
  have hD := hPD.2
  refine r_putF X kcX6 (ci := 6) rfl hP hD hS hin 0 rfl 2 (by decide) w_214 rfl rfl rfl rfl (Nat.le_of_ble_eq_true rfl) dX6_init_26 (fun H locs hP hD hS => ?_)
  have hPD := vPD (ws' := [(h0, .inr (6, [.ref q_1, .ref q_6, .ref q_7, .null, .int 0])), (q_1, .inr (4, [.int 0, .int 0, .int 0, .ref o_sorts_2])), (o_sorts_2, .inl (cy 1, 20, .inl ((fun _ => 0)))), (q_6, .inl (cy 1, 4, .inl ((fun _ => 0)))), (q_7, .inl (cy 1, 4, .inl ((fun _ => 0))))]) hP hD rfl
  have hP := hPD.1
  have hD := hPD.2
  refine lv_aload_n hx hb dX6_init_29 rfl (lv_at hl 0 rfl) ?_
  refine lv_iconst (v := 4) hx hb dX6_init_30 (by decide) ?_
  refine r_newa X (atype := .int) (ty := .int) (t0 := 1) (N' := 4) (a0 := (4, .inl (fun _ => 0))) rfl w_207 rfl hP hD hS hA (fun _ => rfl) (by decide) (by decide) (Nat.le_of_ble_eq_true rfl) (Nat.le_of_ble_eq_true rfl) (Nat.le_of_ble_eq_true rfl) dX6_init_31 (fun q_8 H hP hD hS => ?_)
  have hPD := vPD (ws' := [(h0, .inr (6, [.ref q_1, .ref q_6, .ref q_7, .null, .int 0])), (q_1, .inr (4, [.int 0, .int 0, .int 0, .ref o_sorts_2])), (o_sorts_2, .inl (cy 1, 20, .inl ((fun _ => 0)))), (q_6, .inl (cy 1, 4, .inl ((fun _ => 0)))), (q_7, .inl (cy 1, 4, .inl ((fun _ => 0)))), (q_8, .inl (cy 1, 4, .inl ((fun _ => 0))))]) hP hD rfl
  have hP := hPD.1
  have hD := hPD.2
  refine r_putF X kcX6 (ci := 6) rfl hP hD hS hin 0 rfl 3 (by decide) w_216 rfl rfl rfl rfl (Nat.le_of_ble_eq_true rfl) dX6_init_33 (fun H locs hP hD hS => ?_)
  have hPD := vPD (ws' := [(h0, .inr (6, [.ref q_1, .ref q_6, .ref q_7, .ref q_8, .int 0])), (q_1, .inr (4, [.int 0, .int 0, .int 0, .ref o_sorts_2])), (o_sorts_2, .inl (cy 1, 20, .inl ((fun _ => 0)))), (q_6, .inl (cy 1, 4, .inl ((fun _ => 0)))), (q_7, .inl (cy 1, 4, .inl ((fun _ => 0)))), (q_8, .inl (cy 1, 4, .inl ((fun _ => 0))))]) hP hD rfl
  have hP := hPD.1
  have hD := hPD.2
  exact eV hQ X hr hlocks hP hD hS (q_1, q_6, q_7, q_8, o_sorts_2) [0, 1, 2, 3, 4, 5] (by decide) rfl trivial (Nat.le_of_ble_eq_true rfl) (Nat.le_of_ble_eq_true rfl) dX6_init_36
set_option maxHeartbeats 4000000 in
set_option maxRecDepth 100000 in
theorem sX10_ini (l : Launch) (dC : Nat → ClassId) (dI : Nat → Nat → Nat) (cy : Nat → ClassId) (h0 : Nat) : ctV l dC dI cy hp yX10_init cX10_init 1 ({ frames := 1, cells := 6, slots := 242, locals := 12 } : Room) [.ref h0] [(h0, .inr (9, [.null, .null, .null, .null, .null, .null, .int 0, .int 0]))] (S := Nat × Nat × Nat × Nat × Nat × Nat) (fun u => True) (fun u => [(h0, .inr (9, [.ref u.1, .ref u.2.1, .ref u.2.2.1, .ref u.2.2.2.1, .ref u.2.2.2.2.1, .ref u.2.2.2.2.2, .int 0, .int 0])), (u.1, .inl (cy 1, 80, .inl ((fun _ => 0)))), (u.2.1, .inl (cy 1, 80, .inl ((fun _ => 0)))), (u.2.2.1, .inl (cy 1, 20, .inl ((fun _ => 0)))), (u.2.2.2.1, .inl (cy 1, 20, .inl ((fun _ => 0)))), (u.2.2.2.2.1, .inl (cy 1, 21, .inl ((fun _ => 0)))), (u.2.2.2.2.2, .inl (cy 1, 21, .inl ((fun _ => 0))))]) := by
  refine ctV.of (by decide +kernel) (Nat.le_of_ble_eq_true rfl) ?_
  intro p e s m args below meth c A ls Q hQ X hr hlocks hin hA hP hD hS hl
  have hx := X.1
  have hb := X.2.1
  have hK := X.2.2.2.2.2.1
  have hl : lv_has ls 1 [(0, .ref h0)] := hl
  refine lv_aload_n hx hb dX10_init_0 rfl (lv_at hl 0 rfl) ?_
  refine r_oinit X hl w_236 dX10_init_1 (Nat.le_of_ble_eq_true rfl) (Nat.le_of_ble_eq_true rfl) ?_
  refine lv_aload_n hx hb dX10_init_4 rfl (lv_at hl 0 rfl) ?_
  refine lv_bipush (v := 80) hx hb dX10_init_5 (by decide) ?_
  refine r_newa X (atype := .int) (ty := .int) (t0 := 1) (N' := 80) (a0 := (80, .inl (fun _ => 0))) rfl w_207 rfl hP hD hS hA (fun _ => rfl) (by decide) (by decide) (Nat.le_of_ble_eq_true rfl) (Nat.le_of_ble_eq_true rfl) (Nat.le_of_ble_eq_true rfl) dX10_init_7 (fun q_1 H hP hD hS => ?_)
  have hPD := vPD (ws' := [(h0, .inr (9, [.null, .null, .null, .null, .null, .null, .int 0, .int 0])), (q_1, .inl (cy 1, 80, .inl ((fun _ => 0))))]) hP hD rfl
  have hP := hPD.1
  have hD := hPD.2
  refine r_putF X kcX10 (ci := 9) rfl hP hD hS hin 0 rfl 0 (by decide) w_237 rfl rfl rfl rfl (Nat.le_of_ble_eq_true rfl) dX10_init_9 (fun H locs hP hD hS => ?_)
  have hPD := vPD (ws' := [(h0, .inr (9, [.ref q_1, .null, .null, .null, .null, .null, .int 0, .int 0])), (q_1, .inl (cy 1, 80, .inl ((fun _ => 0))))]) hP hD rfl
  have hP := hPD.1
  have hD := hPD.2
  refine lv_aload_n hx hb dX10_init_12 rfl (lv_at hl 0 rfl) ?_
  refine lv_bipush (v := 80) hx hb dX10_init_13 (by decide) ?_
  refine r_newa X (atype := .int) (ty := .int) (t0 := 1) (N' := 80) (a0 := (80, .inl (fun _ => 0))) rfl w_207 rfl hP hD hS hA (fun _ => rfl) (by decide) (by decide) (Nat.le_of_ble_eq_true rfl) (Nat.le_of_ble_eq_true rfl) (Nat.le_of_ble_eq_true rfl) dX10_init_15 (fun q_2 H hP hD hS => ?_)
  have hPD := vPD (ws' := [(h0, .inr (9, [.ref q_1, .null, .null, .null, .null, .null, .int 0, .int 0])), (q_1, .inl (cy 1, 80, .inl ((fun _ => 0)))), (q_2, .inl (cy 1, 80, .inl ((fun _ => 0))))]) hP hD rfl
  have hP := hPD.1
  have hD := hPD.2
  refine r_putF X kcX10 (ci := 9) rfl hP hD hS hin 0 rfl 1 (by decide) w_238 rfl rfl rfl rfl (Nat.le_of_ble_eq_true rfl) dX10_init_17 (fun H locs hP hD hS => ?_)
  have hPD := vPD (ws' := [(h0, .inr (9, [.ref q_1, .ref q_2, .null, .null, .null, .null, .int 0, .int 0])), (q_1, .inl (cy 1, 80, .inl ((fun _ => 0)))), (q_2, .inl (cy 1, 80, .inl ((fun _ => 0))))]) hP hD rfl
  have hP := hPD.1
  have hD := hPD.2
  refine lv_aload_n hx hb dX10_init_20 rfl (lv_at hl 0 rfl) ?_
  refine lv_bipush (v := 20) hx hb dX10_init_21 (by decide) ?_
  refine r_newa X (atype := .int) (ty := .int) (t0 := 1) (N' := 20) (a0 := (20, .inl (fun _ => 0))) rfl w_207 rfl hP hD hS hA (fun _ => rfl) (by decide) (by decide) (Nat.le_of_ble_eq_true rfl) (Nat.le_of_ble_eq_true rfl) (Nat.le_of_ble_eq_true rfl) dX10_init_23 (fun q_3 H hP hD hS => ?_)
  have hPD := vPD (ws' := [(h0, .inr (9, [.ref q_1, .ref q_2, .null, .null, .null, .null, .int 0, .int 0])), (q_1, .inl (cy 1, 80, .inl ((fun _ => 0)))), (q_2, .inl (cy 1, 80, .inl ((fun _ => 0)))), (q_3, .inl (cy 1, 20, .inl ((fun _ => 0))))]) hP hD rfl
  have hP := hPD.1
  have hD := hPD.2
  refine r_putF X kcX10 (ci := 9) rfl hP hD hS hin 0 rfl 2 (by decide) w_239 rfl rfl rfl rfl (Nat.le_of_ble_eq_true rfl) dX10_init_25 (fun H locs hP hD hS => ?_)
  have hPD := vPD (ws' := [(h0, .inr (9, [.ref q_1, .ref q_2, .ref q_3, .null, .null, .null, .int 0, .int 0])), (q_1, .inl (cy 1, 80, .inl ((fun _ => 0)))), (q_2, .inl (cy 1, 80, .inl ((fun _ => 0)))), (q_3, .inl (cy 1, 20, .inl ((fun _ => 0))))]) hP hD rfl
  have hP := hPD.1
  have hD := hPD.2
  refine lv_aload_n hx hb dX10_init_28 rfl (lv_at hl 0 rfl) ?_
  refine lv_bipush (v := 20) hx hb dX10_init_29 (by decide) ?_
  refine r_newa X (atype := .int) (ty := .int) (t0 := 1) (N' := 20) (a0 := (20, .inl (fun _ => 0))) rfl w_207 rfl hP hD hS hA (fun _ => rfl) (by decide) (by decide) (Nat.le_of_ble_eq_true rfl) (Nat.le_of_ble_eq_true rfl) (Nat.le_of_ble_eq_true rfl) dX10_init_31 (fun q_4 H hP hD hS => ?_)
  have hPD := vPD (ws' := [(h0, .inr (9, [.ref q_1, .ref q_2, .ref q_3, .null, .null, .null, .int 0, .int 0])), (q_1, .inl (cy 1, 80, .inl ((fun _ => 0)))), (q_2, .inl (cy 1, 80, .inl ((fun _ => 0)))), (q_3, .inl (cy 1, 20, .inl ((fun _ => 0)))), (q_4, .inl (cy 1, 20, .inl ((fun _ => 0))))]) hP hD rfl
  have hP := hPD.1
  have hD := hPD.2
  refine r_putF X kcX10 (ci := 9) rfl hP hD hS hin 0 rfl 3 (by decide) w_240 rfl rfl rfl rfl (Nat.le_of_ble_eq_true rfl) dX10_init_33 (fun H locs hP hD hS => ?_)
  have hPD := vPD (ws' := [(h0, .inr (9, [.ref q_1, .ref q_2, .ref q_3, .ref q_4, .null, .null, .int 0, .int 0])), (q_1, .inl (cy 1, 80, .inl ((fun _ => 0)))), (q_2, .inl (cy 1, 80, .inl ((fun _ => 0)))), (q_3, .inl (cy 1, 20, .inl ((fun _ => 0)))), (q_4, .inl (cy 1, 20, .inl ((fun _ => 0))))]) hP hD rfl
  have hP := hPD.1
  have hD := hPD.2
  refine lv_aload_n hx hb dX10_init_36 rfl (lv_at hl 0 rfl) ?_
  refine lv_bipush (v := 21) hx hb dX10_init_37 (by decide) ?_
  refine r_newa X (atype := .int) (ty := .int) (t0 := 1) (N' := 21) (a0 := (21, .inl (fun _ => 0))) rfl w_207 rfl hP hD hS hA (fun _ => rfl) (by decide) (by decide) (Nat.le_of_ble_eq_true rfl) (Nat.le_of_ble_eq_true rfl) (Nat.le_of_ble_eq_true rfl) dX10_init_39 (fun q_5 H hP hD hS => ?_)
  have hPD := vPD (ws' := [(h0, .inr (9, [.ref q_1, .ref q_2, .ref q_3, .ref q_4, .null, .null, .int 0, .int 0])), (q_1, .inl (cy 1, 80, .inl ((fun _ => 0)))), (q_2, .inl (cy 1, 80, .inl ((fun _ => 0)))), (q_3, .inl (cy 1, 20, .inl ((fun _ => 0)))), (q_4, .inl (cy 1, 20, .inl ((fun _ => 0)))), (q_5, .inl (cy 1, 21, .inl ((fun _ => 0))))]) hP hD rfl
  have hP := hPD.1
  have hD := hPD.2
  refine r_putF X kcX10 (ci := 9) rfl hP hD hS hin 0 rfl 4 (by decide) w_242 rfl rfl rfl rfl (Nat.le_of_ble_eq_true rfl) dX10_init_41 (fun H locs hP hD hS => ?_)
  have hPD := vPD (ws' := [(h0, .inr (9, [.ref q_1, .ref q_2, .ref q_3, .ref q_4, .ref q_5, .null, .int 0, .int 0])), (q_1, .inl (cy 1, 80, .inl ((fun _ => 0)))), (q_2, .inl (cy 1, 80, .inl ((fun _ => 0)))), (q_3, .inl (cy 1, 20, .inl ((fun _ => 0)))), (q_4, .inl (cy 1, 20, .inl ((fun _ => 0)))), (q_5, .inl (cy 1, 21, .inl ((fun _ => 0))))]) hP hD rfl
  have hP := hPD.1
  have hD := hPD.2
  refine lv_aload_n hx hb dX10_init_44 rfl (lv_at hl 0 rfl) ?_
  refine lv_bipush (v := 21) hx hb dX10_init_45 (by decide) ?_
  refine r_newa X (atype := .int) (ty := .int) (t0 := 1) (N' := 21) (a0 := (21, .inl (fun _ => 0))) rfl w_207 rfl hP hD hS hA (fun _ => rfl) (by decide) (by decide) (Nat.le_of_ble_eq_true rfl) (Nat.le_of_ble_eq_true rfl) (Nat.le_of_ble_eq_true rfl) dX10_init_47 (fun q_6 H hP hD hS => ?_)
  have hPD := vPD (ws' := [(h0, .inr (9, [.ref q_1, .ref q_2, .ref q_3, .ref q_4, .ref q_5, .null, .int 0, .int 0])), (q_1, .inl (cy 1, 80, .inl ((fun _ => 0)))), (q_2, .inl (cy 1, 80, .inl ((fun _ => 0)))), (q_3, .inl (cy 1, 20, .inl ((fun _ => 0)))), (q_4, .inl (cy 1, 20, .inl ((fun _ => 0)))), (q_5, .inl (cy 1, 21, .inl ((fun _ => 0)))), (q_6, .inl (cy 1, 21, .inl ((fun _ => 0))))]) hP hD rfl
  have hP := hPD.1
  have hD := hPD.2
  refine r_putF X kcX10 (ci := 9) rfl hP hD hS hin 0 rfl 5 (by decide) w_243 rfl rfl rfl rfl (Nat.le_of_ble_eq_true rfl) dX10_init_49 (fun H locs hP hD hS => ?_)
  have hPD := vPD (ws' := [(h0, .inr (9, [.ref q_1, .ref q_2, .ref q_3, .ref q_4, .ref q_5, .ref q_6, .int 0, .int 0])), (q_1, .inl (cy 1, 80, .inl ((fun _ => 0)))), (q_2, .inl (cy 1, 80, .inl ((fun _ => 0)))), (q_3, .inl (cy 1, 20, .inl ((fun _ => 0)))), (q_4, .inl (cy 1, 20, .inl ((fun _ => 0)))), (q_5, .inl (cy 1, 21, .inl ((fun _ => 0)))), (q_6, .inl (cy 1, 21, .inl ((fun _ => 0))))]) hP hD rfl
  have hP := hPD.1
  have hD := hPD.2
  exact eV hQ X hr hlocks hP hD hS (q_1, q_2, q_3, q_4, q_5, q_6) [0, 1, 2, 3, 4, 5, 6] (by decide) rfl trivial (Nat.le_of_ble_eq_true rfl) (Nat.le_of_ble_eq_true rfl) dX10_init_52
set_option maxHeartbeats 4000000 in
set_option maxRecDepth 100000 in
theorem sX2_ini (l : Launch) (dC : Nat → ClassId) (dI : Nat → Nat → Nat) (cy : Nat → ClassId) (h0 : Nat) : ctV l dC dI cy hp yX2_init cX2_init 1 ({ frames := 1, cells := 3, slots := 60, locals := 12 } : Room) [.ref h0] [(h0, .inr (2, [.null, .null, .null]))] (S := Nat × Nat × Nat) (fun u => True) (fun u => [(h0, .inr (2, [.ref u.1, .ref u.2.1, .ref u.2.2])), (u.1, .inl (cy 1, 20, .inl ((fun _ => 0)))), (u.2.1, .inl (cy 1, 20, .inl ((fun _ => 0)))), (u.2.2, .inl (cy 1, 20, .inl ((fun _ => 0))))]) := by
  refine ctV.of (by decide +kernel) (Nat.le_of_ble_eq_true rfl) ?_
  intro p e s m args below meth c A ls Q hQ X hr hlocks hin hA hP hD hS hl
  have hx := X.1
  have hb := X.2.1
  have hK := X.2.2.2.2.2.1
  have hl : lv_has ls 1 [(0, .ref h0)] := hl
  refine lv_aload_n hx hb dX2_init_0 rfl (lv_at hl 0 rfl) ?_
  refine r_oinit X hl w_269 dX2_init_1 (Nat.le_of_ble_eq_true rfl) (Nat.le_of_ble_eq_true rfl) ?_
  refine lv_aload_n hx hb dX2_init_4 rfl (lv_at hl 0 rfl) ?_
  refine lv_bipush (v := 20) hx hb dX2_init_5 (by decide) ?_
  refine r_newa X (atype := .int) (ty := .int) (t0 := 1) (N' := 20) (a0 := (20, .inl (fun _ => 0))) rfl w_207 rfl hP hD hS hA (fun _ => rfl) (by decide) (by decide) (Nat.le_of_ble_eq_true rfl) (Nat.le_of_ble_eq_true rfl) (Nat.le_of_ble_eq_true rfl) dX2_init_7 (fun q_1 H hP hD hS => ?_)
  have hPD := vPD (ws' := [(h0, .inr (2, [.null, .null, .null])), (q_1, .inl (cy 1, 20, .inl ((fun _ => 0))))]) hP hD rfl
  have hP := hPD.1
  have hD := hPD.2
  refine r_putF X kcX2 (ci := 2) rfl hP hD hS hin 0 rfl 0 (by decide) w_270 rfl rfl rfl rfl (Nat.le_of_ble_eq_true rfl) dX2_init_9 (fun H locs hP hD hS => ?_)
  have hPD := vPD (ws' := [(h0, .inr (2, [.ref q_1, .null, .null])), (q_1, .inl (cy 1, 20, .inl ((fun _ => 0))))]) hP hD rfl
  have hP := hPD.1
  have hD := hPD.2
  refine lv_aload_n hx hb dX2_init_12 rfl (lv_at hl 0 rfl) ?_
  refine lv_bipush (v := 20) hx hb dX2_init_13 (by decide) ?_
  refine r_newa X (atype := .int) (ty := .int) (t0 := 1) (N' := 20) (a0 := (20, .inl (fun _ => 0))) rfl w_207 rfl hP hD hS hA (fun _ => rfl) (by decide) (by decide) (Nat.le_of_ble_eq_true rfl) (Nat.le_of_ble_eq_true rfl) (Nat.le_of_ble_eq_true rfl) dX2_init_15 (fun q_2 H hP hD hS => ?_)
  have hPD := vPD (ws' := [(h0, .inr (2, [.ref q_1, .null, .null])), (q_1, .inl (cy 1, 20, .inl ((fun _ => 0)))), (q_2, .inl (cy 1, 20, .inl ((fun _ => 0))))]) hP hD rfl
  have hP := hPD.1
  have hD := hPD.2
  refine r_putF X kcX2 (ci := 2) rfl hP hD hS hin 0 rfl 1 (by decide) w_271 rfl rfl rfl rfl (Nat.le_of_ble_eq_true rfl) dX2_init_17 (fun H locs hP hD hS => ?_)
  have hPD := vPD (ws' := [(h0, .inr (2, [.ref q_1, .ref q_2, .null])), (q_1, .inl (cy 1, 20, .inl ((fun _ => 0)))), (q_2, .inl (cy 1, 20, .inl ((fun _ => 0))))]) hP hD rfl
  have hP := hPD.1
  have hD := hPD.2
  refine lv_aload_n hx hb dX2_init_20 rfl (lv_at hl 0 rfl) ?_
  refine lv_bipush (v := 20) hx hb dX2_init_21 (by decide) ?_
  refine r_newa X (atype := .int) (ty := .int) (t0 := 1) (N' := 20) (a0 := (20, .inl (fun _ => 0))) rfl w_207 rfl hP hD hS hA (fun _ => rfl) (by decide) (by decide) (Nat.le_of_ble_eq_true rfl) (Nat.le_of_ble_eq_true rfl) (Nat.le_of_ble_eq_true rfl) dX2_init_23 (fun q_3 H hP hD hS => ?_)
  have hPD := vPD (ws' := [(h0, .inr (2, [.ref q_1, .ref q_2, .null])), (q_1, .inl (cy 1, 20, .inl ((fun _ => 0)))), (q_2, .inl (cy 1, 20, .inl ((fun _ => 0)))), (q_3, .inl (cy 1, 20, .inl ((fun _ => 0))))]) hP hD rfl
  have hP := hPD.1
  have hD := hPD.2
  refine r_putF X kcX2 (ci := 2) rfl hP hD hS hin 0 rfl 2 (by decide) w_272 rfl rfl rfl rfl (Nat.le_of_ble_eq_true rfl) dX2_init_25 (fun H locs hP hD hS => ?_)
  have hPD := vPD (ws' := [(h0, .inr (2, [.ref q_1, .ref q_2, .ref q_3])), (q_1, .inl (cy 1, 20, .inl ((fun _ => 0)))), (q_2, .inl (cy 1, 20, .inl ((fun _ => 0)))), (q_3, .inl (cy 1, 20, .inl ((fun _ => 0))))]) hP hD rfl
  have hP := hPD.1
  have hD := hPD.2
  exact eV hQ X hr hlocks hP hD hS (q_1, q_2, q_3) [0, 1, 2, 3] (by decide) rfl trivial (Nat.le_of_ble_eq_true rfl) (Nat.le_of_ble_eq_true rfl) dX2_init_28
set_option maxHeartbeats 4000000 in
set_option maxRecDepth 100000 in
theorem sX8_ini (l : Launch) (dC : Nat → ClassId) (dI : Nat → Nat → Nat) (cy : Nat → ClassId) (h0 : Nat) : ctV l dC dI cy hp yX8_init cX8_init 1 ({ frames := 1, cells := 0, slots := 0, locals := 12 } : Room) [.ref h0] [] (S := Unit) (fun _ => True) (fun _ => []) := by
  refine ctV.of (by decide +kernel) (Nat.le_of_ble_eq_true rfl) ?_
  intro p e s m args below meth c A ls Q hQ X hr hlocks hin hA hP hD hS hl
  have hx := X.1
  have hb := X.2.1
  have hK := X.2.2.2.2.2.1
  have hl : lv_has ls 1 [(0, .ref h0)] := hl
  refine lv_aload_n hx hb dX8_init_0 rfl (lv_at hl 0 rfl) ?_
  refine r_oinit X hl w_288 dX8_init_1 (Nat.le_of_ble_eq_true rfl) (Nat.le_of_ble_eq_true rfl) ?_
  exact eV hQ X hr hlocks hP hD hS () [] (by decide) rfl trivial (Nat.le_of_ble_eq_true rfl) (Nat.le_of_ble_eq_true rfl) dX8_init_4
set_option maxHeartbeats 4000000 in
set_option maxRecDepth 100000 in
theorem sX0_ini (l : Launch) (dC : Nat → ClassId) (dI : Nat → Nat → Nat) (cy : Nat → ClassId) (h0 : Nat) : ctV l dC dI cy hp yX0_init cX0_init 1 ({ frames := 2, cells := 4, slots := 63, locals := 32 } : Room) [.ref h0] [(h0, .inr (0, [.null, .int 0, .int 0, .int 0]))] (S := Nat × Nat × Nat × Nat) (fun u => True) (fun u => [(h0, .inr (0, [.ref u.1, .int 0, .int 0, .int 0])), (u.1, .inr (2, [.ref u.2.1, .ref u.2.2.1, .ref u.2.2.2])), (u.2.1, .inl (cy 1, 20, .inl ((fun _ => 0)))), (u.2.2.1, .inl (cy 1, 20, .inl ((fun _ => 0)))), (u.2.2.2, .inl (cy 1, 20, .inl ((fun _ => 0))))]) := by
  refine ctV.of (by decide +kernel) (Nat.le_of_ble_eq_true rfl) ?_
  intro p e s m args below meth c A ls Q hQ X hr hlocks hin hA hP hD hS hl
  have hx := X.1
  have hb := X.2.1
  have hK := X.2.2.2.2.2.1
  have hl : lv_has ls 1 [(0, .ref h0)] := hl
  refine lv_aload_n hx hb dX0_init_0 rfl (lv_at hl 0 rfl) ?_
  refine sl_Vc (rC_V (As := []) (rest := []) X hp_st (fun _ _ _ h => h) (sX8_ini l dC dI cy h0) kX8_init w_286 rfl mX0_3 hP hD hS hA [] (by decide) rfl hl rfl rfl (Nat.le_of_ble_eq_true rfl) dX0_init_1 ⟨(Nat.le_of_ble_eq_true rfl), (Nat.le_of_ble_eq_true rfl)⟩ ⟨(Nat.le_of_ble_eq_true rfl), (Nat.le_of_ble_eq_true rfl)⟩) hP hD hS hA [] [true] rfl rfl rfl (fun u_3 H locs k_2 hP hD hS => ?_)
  have hPD := vPD (ws' := [(h0, .inr (0, [.null, .int 0, .int 0, .int 0]))]) hP hD rfl
  have hP := hPD.1
  have hD := hPD.2
  refine lv_aload_n hx hb dX0_init_4 rfl (lv_at hl 0 rfl) ?_
  refine r_new X kcX2 (ci := 2) rfl w_289 w_265 w_105 hP hD hS hA [.null, .null, .null] (fun j hj => by rcases (show j = 0 ∨ j = 1 ∨ j = 2 by omega) with rfl | rfl | rfl <;> rfl) (Nat.le_of_ble_eq_true rfl) (Nat.le_of_ble_eq_true rfl) dX0_init_5 (fun q_4 H hP hD hS => ?_)
  have hPD := vPD (ws' := [(h0, .inr (0, [.null, .int 0, .int 0, .int 0])), (q_4, .inr (2, [.null, .null, .null]))]) hP hD rfl
  have hP := hPD.1
  have hD := hPD.2
  refine lv_dup hx hb dX0_init_8 rfl ?_
  refine sl_Vc (rC_V (As := []) (rest := [.ref q_4, .ref h0]) X hp_st (fun _ _ _ h => h) (sX2_ini l dC dI cy q_4) kX2_init w_267 rfl mX0_11 hP hD hS hA [1] (by decide) rfl hl rfl rfl (Nat.le_of_ble_eq_true rfl) dX0_init_9 ⟨(Nat.le_of_ble_eq_true rfl), (Nat.le_of_ble_eq_true rfl)⟩ ⟨(Nat.le_of_ble_eq_true rfl), (Nat.le_of_ble_eq_true rfl)⟩) hP hD hS hA [1] [true, false] rfl rfl rfl (fun u_10 H locs k_9 hP hD hS => ?_)
  obtain ⟨o_fromLawn_5, o_fromDitch_6, o_ontoDitch_7⟩ := u_10
  have hPD := vPD (ws' := [(h0, .inr (0, [.null, .int 0, .int 0, .int 0])), (q_4, .inr (2, [.ref o_fromLawn_5, .ref o_fromDitch_6, .ref o_ontoDitch_7])), (o_fromLawn_5, .inl (cy 1, 20, .inl ((fun _ => 0)))), (o_fromDitch_6, .inl (cy 1, 20, .inl ((fun _ => 0)))), (o_ontoDitch_7, .inl (cy 1, 20, .inl ((fun _ => 0))))]) hP hD rfl
  have hP := hPD.1
  have hD := hPD.2
  refine r_putF X kcX0 (ci := 0) rfl hP hD hS hin 0 rfl 0 (by decide) w_291 rfl rfl rfl rfl (Nat.le_of_ble_eq_true rfl) dX0_init_12 (fun H locs hP hD hS => ?_)
  have hPD := vPD (ws' := [(h0, .inr (0, [.ref q_4, .int 0, .int 0, .int 0])), (q_4, .inr (2, [.ref o_fromLawn_5, .ref o_fromDitch_6, .ref o_ontoDitch_7])), (o_fromLawn_5, .inl (cy 1, 20, .inl ((fun _ => 0)))), (o_fromDitch_6, .inl (cy 1, 20, .inl ((fun _ => 0)))), (o_ontoDitch_7, .inl (cy 1, 20, .inl ((fun _ => 0))))]) hP hD rfl
  have hP := hPD.1
  have hD := hPD.2
  exact eV hQ X hr hlocks hP hD hS (q_4, o_fromLawn_5, o_fromDitch_6, o_ontoDitch_7) [0, 1, 2, 3, 4] (by decide) rfl trivial (Nat.le_of_ble_eq_true rfl) (Nat.le_of_ble_eq_true rfl) dX0_init_15
set_option maxHeartbeats 4000000 in
set_option maxRecDepth 100000 in
theorem sX1_ini (l : Launch) (dC : Nat → ClassId) (dI : Nat → Nat → Nat) (cy : Nat → ClassId) (h0 : Nat) : ctV l dC dI cy hp yX1_init cX1_init 2 ({ frames := 2, cells := 19, slots := 264, locals := 32 } : Room) [.ref h0] [(h0, .inr (1, [.null, .null, .null, .int 0, .int 0, .int 0]))] (S := Nat × Nat × Nat × Nat × Nat × Nat × Nat × Nat × Nat × Nat × Nat × Nat × Nat × Nat × Nat × Nat × Nat × Nat × Nat) (fun u => True) (fun u => [(h0, .inr (1, [.ref u.1, .ref u.2.1, .ref u.2.2.1, .int 0, .int 0, .int 0])), (u.1, .inl (cy 4, 4, .inr (.inr (.inr (.inr ((q4 u.2.2.2.1 u.2.2.2.2.1 u.2.2.2.2.2.1 u.2.2.2.2.2.2.1))))))), (u.2.2.2.1, .inr (2, [.ref u.2.2.2.2.2.2.2.1, .ref u.2.2.2.2.2.2.2.2.1, .ref u.2.2.2.2.2.2.2.2.2.1])), (u.2.2.2.2.2.2.2.1, .inl (cy 1, 20, .inl ((fun _ => 0)))), (u.2.2.2.2.2.2.2.2.1, .inl (cy 1, 20, .inl ((fun _ => 0)))), (u.2.2.2.2.2.2.2.2.2.1, .inl (cy 1, 20, .inl ((fun _ => 0)))), (u.2.2.2.2.1, .inr (2, [.ref u.2.2.2.2.2.2.2.2.2.2.1, .ref u.2.2.2.2.2.2.2.2.2.2.2.1, .ref u.2.2.2.2.2.2.2.2.2.2.2.2.1])), (u.2.2.2.2.2.2.2.2.2.2.1, .inl (cy 1, 20, .inl ((fun _ => 0)))), (u.2.2.2.2.2.2.2.2.2.2.2.1, .inl (cy 1, 20, .inl ((fun _ => 0)))), (u.2.2.2.2.2.2.2.2.2.2.2.2.1, .inl (cy 1, 20, .inl ((fun _ => 0)))), (u.2.2.2.2.2.1, .inr (2, [.ref u.2.2.2.2.2.2.2.2.2.2.2.2.2.1, .ref u.2.2.2.2.2.2.2.2.2.2.2.2.2.2.1, .ref u.2.2.2.2.2.2.2.2.2.2.2.2.2.2.2.1])), (u.2.2.2.2.2.2.2.2.2.2.2.2.2.1, .inl (cy 1, 20, .inl ((fun _ => 0)))), (u.2.2.2.2.2.2.2.2.2.2.2.2.2.2.1, .inl (cy 1, 20, .inl ((fun _ => 0)))), (u.2.2.2.2.2.2.2.2.2.2.2.2.2.2.2.1, .inl (cy 1, 20, .inl ((fun _ => 0)))), (u.2.2.2.2.2.2.1, .inr (2, [.ref u.2.2.2.2.2.2.2.2.2.2.2.2.2.2.2.2.1, .ref u.2.2.2.2.2.2.2.2.2.2.2.2.2.2.2.2.2.1, .ref u.2.2.2.2.2.2.2.2.2.2.2.2.2.2.2.2.2.2])), (u.2.2.2.2.2.2.2.2.2.2.2.2.2.2.2.2.1, .inl (cy 1, 20, .inl ((fun _ => 0)))), (u.2.2.2.2.2.2.2.2.2.2.2.2.2.2.2.2.2.1, .inl (cy 1, 20, .inl ((fun _ => 0)))), (u.2.2.2.2.2.2.2.2.2.2.2.2.2.2.2.2.2.2, .inl (cy 1, 20, .inl ((fun _ => 0)))), (u.2.1, .inl (cy 1, 4, .inl ((fun _ => 0)))), (u.2.2.1, .inl (cy 1, 4, .inl ((fun _ => 0))))]) := by
  refine ctV.of (by decide +kernel) (Nat.le_of_ble_eq_true rfl) ?_
  intro p e s m args below meth c A ls Q hQ X hr hlocks hin hA hP hD hS hl
  have hx := X.1
  have hb := X.2.1
  have hK := X.2.2.2.2.2.1
  have hl : lv_has ls 2 [(0, .ref h0)] := hl
  refine lv_aload_n hx hb dX1_init_0 rfl (lv_at hl 0 rfl) ?_
  refine sl_Vc (rC_V (As := []) (rest := []) X hp_st (fun _ _ _ h => h) (sX8_ini l dC dI cy h0) kX8_init w_286 rfl mX1_3 hP hD hS hA [] (by decide) rfl hl rfl rfl (Nat.le_of_ble_eq_true rfl) dX1_init_1 ⟨(Nat.le_of_ble_eq_true rfl), (Nat.le_of_ble_eq_true rfl)⟩ ⟨(Nat.le_of_ble_eq_true rfl), (Nat.le_of_ble_eq_true rfl)⟩) hP hD hS hA [] [true] rfl rfl rfl (fun u_3 H locs k_2 hP hD hS => ?_)
  have hPD := vPD (ws' := [(h0, .inr (1, [.null, .null, .null, .int 0, .int 0, .int 0]))]) hP hD rfl
  have hP := hPD.1
  have hD := hPD.2
  refine lv_aload_n hx hb dX1_init_4 rfl (lv_at hl 0 rfl) ?_
  refine lv_iconst (v := 4) hx hb dX1_init_5 (by decide) ?_
  refine r_newq X (t0 := 4) (N' := 4) rfl X.2.2.2.2.2.2.1.2.1 w_310 hP hD hS hA (by decide) (by decide) (Nat.le_of_ble_eq_true rfl) (Nat.le_of_ble_eq_true rfl) (Nat.le_of_ble_eq_true rfl) dX1_init_6 (fun q_4 H hP hD hS => ?_)
  have hPD := vPD (ws' := [(h0, .inr (1, [.null, .null, .null, .int 0, .int 0, .int 0])), (q_4, .inl (cy 4, 4, .inr (.inr (.inr (.inr ((fun _ => none)))))))]) hP hD rfl
  have hP := hPD.1
  have hD := hPD.2
  refine r_putF X kcX1 (ci := 1) rfl hP hD hS hin 0 rfl 0 (by decide) w_313 rfl rfl rfl rfl (Nat.le_of_ble_eq_true rfl) dX1_init_9 (fun H locs hP hD hS => ?_)
  have hPD := vPD (ws' := [(h0, .inr (1, [.ref q_4, .null, .null, .int 0, .int 0, .int 0])), (q_4, .inl (cy 4, 4, .inr (.inr (.inr (.inr ((fun _ => none)))))))]) hP hD rfl
  have hP := hPD.1
  have hD := hPD.2
  refine lv_aload_n hx hb dX1_init_12 rfl (lv_at hl 0 rfl) ?_
  refine lv_iconst (v := 4) hx hb dX1_init_13 (by decide) ?_
  refine r_newa X (atype := .int) (ty := .int) (t0 := 1) (N' := 4) (a0 := (4, .inl (fun _ => 0))) rfl w_207 rfl hP hD hS hA (fun _ => rfl) (by decide) (by decide) (Nat.le_of_ble_eq_true rfl) (Nat.le_of_ble_eq_true rfl) (Nat.le_of_ble_eq_true rfl) dX1_init_14 (fun q_5 H hP hD hS => ?_)
  have hPD := vPD (ws' := [(h0, .inr (1, [.ref q_4, .null, .null, .int 0, .int 0, .int 0])), (q_4, .inl (cy 4, 4, .inr (.inr (.inr (.inr ((fun _ => none))))))), (q_5, .inl (cy 1, 4, .inl ((fun _ => 0))))]) hP hD rfl
  have hP := hPD.1
  have hD := hPD.2
  refine r_putF X kcX1 (ci := 1) rfl hP hD hS hin 0 rfl 1 (by decide) w_314 rfl rfl rfl rfl (Nat.le_of_ble_eq_true rfl) dX1_init_16 (fun H locs hP hD hS => ?_)
  have hPD := vPD (ws' := [(h0, .inr (1, [.ref q_4, .ref q_5, .null, .int 0, .int 0, .int 0])), (q_4, .inl (cy 4, 4, .inr (.inr (.inr (.inr ((fun _ => none))))))), (q_5, .inl (cy 1, 4, .inl ((fun _ => 0))))]) hP hD rfl
  have hP := hPD.1
  have hD := hPD.2
  refine lv_aload_n hx hb dX1_init_19 rfl (lv_at hl 0 rfl) ?_
  refine lv_iconst (v := 4) hx hb dX1_init_20 (by decide) ?_
  refine r_newa X (atype := .int) (ty := .int) (t0 := 1) (N' := 4) (a0 := (4, .inl (fun _ => 0))) rfl w_207 rfl hP hD hS hA (fun _ => rfl) (by decide) (by decide) (Nat.le_of_ble_eq_true rfl) (Nat.le_of_ble_eq_true rfl) (Nat.le_of_ble_eq_true rfl) dX1_init_21 (fun q_6 H hP hD hS => ?_)
  have hPD := vPD (ws' := [(h0, .inr (1, [.ref q_4, .ref q_5, .null, .int 0, .int 0, .int 0])), (q_4, .inl (cy 4, 4, .inr (.inr (.inr (.inr ((fun _ => none))))))), (q_5, .inl (cy 1, 4, .inl ((fun _ => 0)))), (q_6, .inl (cy 1, 4, .inl ((fun _ => 0))))]) hP hD rfl
  have hP := hPD.1
  have hD := hPD.2
  refine r_putF X kcX1 (ci := 1) rfl hP hD hS hin 0 rfl 2 (by decide) w_315 rfl rfl rfl rfl (Nat.le_of_ble_eq_true rfl) dX1_init_23 (fun H locs hP hD hS => ?_)
  have hPD := vPD (ws' := [(h0, .inr (1, [.ref q_4, .ref q_5, .ref q_6, .int 0, .int 0, .int 0])), (q_4, .inl (cy 4, 4, .inr (.inr (.inr (.inr ((fun _ => none))))))), (q_5, .inl (cy 1, 4, .inl ((fun _ => 0)))), (q_6, .inl (cy 1, 4, .inl ((fun _ => 0))))]) hP hD rfl
  have hP := hPD.1
  have hD := hPD.2
  refine lv_iconst (v := 0) hx hb dX1_init_26 (by decide) ?_
  refine lv_istore_n (lv' := [(1, .int 0), (0, .ref h0)]) hx hb dX1_init_27 rfl hl (by decide) rfl (fun ls hl => ?_)
  refine lv_iload_n hx hb dX1_init_28 rfl (lv_at hl 0 rfl) ?_
  refine lv_iconst (v := 4) hx hb dX1_init_29 (by decide) ?_
  refine lv_icmp_ge (tgt := 52) hx hb dX1_init_30 (by decide) (fun h_7 => absurd h_7 (by decide)) (fun _ => ?_)
  refine lv_aload_n hx hb dX1_init_33 rfl (lv_at hl 1 rfl) ?_
  refine r_get X kcX1 (ci := 1) rfl hP 0 rfl 0 (by decide) fX1_11 rfl dX1_init_34 ?_
  refine lv_iload_n hx hb dX1_init_37 rfl (lv_at hl 0 rfl) ?_
  refine r_new X kcX2 (ci := 2) rfl w_310 w_265 w_105 hP hD hS hA [.null, .null, .null] (fun j hj => by rcases (show j = 0 ∨ j = 1 ∨ j = 2 by omega) with rfl | rfl | rfl <;> rfl) (Nat.le_of_ble_eq_true rfl) (Nat.le_of_ble_eq_true rfl) dX1_init_38 (fun q_8 H hP hD hS => ?_)
  have hPD := vPD (ws' := [(h0, .inr (1, [.ref q_4, .ref q_5, .ref q_6, .int 0, .int 0, .int 0])), (q_4, .inl (cy 4, 4, .inr (.inr (.inr (.inr ((fun _ => none))))))), (q_5, .inl (cy 1, 4, .inl ((fun _ => 0)))), (q_6, .inl (cy 1, 4, .inl ((fun _ => 0)))), (q_8, .inr (2, [.null, .null, .null]))]) hP hD rfl
  have hP := hPD.1
  have hD := hPD.2
  refine lv_dup hx hb dX1_init_41 rfl ?_
  refine sl_Vc (rC_V (As := []) (rest := [.ref q_8, .int 0, .ref q_4]) X hp_st (fun _ _ _ h => h) (sX2_ini l dC dI cy q_8) kX2_init w_267 rfl mX1_24 hP hD hS hA [4] (by decide) rfl hl rfl rfl (Nat.le_of_ble_eq_true rfl) dX1_init_42 ⟨(Nat.le_of_ble_eq_true rfl), (Nat.le_of_ble_eq_true rfl)⟩ ⟨(Nat.le_of_ble_eq_true rfl), (Nat.le_of_ble_eq_true rfl)⟩) hP hD hS hA [4] [true, true, true, true, false] rfl rfl rfl (fun u_14 H locs k_13 hP hD hS => ?_)
  obtain ⟨o_fromLawn_9, o_fromDitch_10, o_ontoDitch_11⟩ := u_14
  have hPD := vPD (ws' := [(h0, .inr (1, [.ref q_4, .ref q_5, .ref q_6, .int 0, .int 0, .int 0])), (q_4, .inl (cy 4, 4, .inr (.inr (.inr (.inr ((fun _ => none))))))), (q_5, .inl (cy 1, 4, .inl ((fun _ => 0)))), (q_6, .inl (cy 1, 4, .inl ((fun _ => 0)))), (q_8, .inr (2, [.ref o_fromLawn_9, .ref o_fromDitch_10, .ref o_ontoDitch_11])), (o_fromLawn_9, .inl (cy 1, 20, .inl ((fun _ => 0)))), (o_fromDitch_10, .inl (cy 1, 20, .inl ((fun _ => 0)))), (o_ontoDitch_11, .inl (cy 1, 20, .inl ((fun _ => 0))))]) hP hD rfl
  have hP := hPD.1
  have hD := hPD.2
  refine va_astq (D := (dC, dI)) (cl := vwCl) hx hb hK hP hD hS 1 4 4 2 rfl rfl rfl rfl (i := 0) (by unfold vp_in; decide) dX1_init_45 (fun H locs hP hD hS => ?_)
  have hPD := vPD (ws' := [(h0, .inr (1, [.ref q_4, .ref q_5, .ref q_6, .int 0, .int 0, .int 0])), (q_4, .inl (cy 4, 4, .inr (.inr (.inr (.inr ((va_up (fun _ => none) (Int32.toNatClampNeg 0) (some q_8)))))))), (q_5, .inl (cy 1, 4, .inl ((fun _ => 0)))), (q_6, .inl (cy 1, 4, .inl ((fun _ => 0)))), (q_8, .inr (2, [.ref o_fromLawn_9, .ref o_fromDitch_10, .ref o_ontoDitch_11])), (o_fromLawn_9, .inl (cy 1, 20, .inl ((fun _ => 0)))), (o_fromDitch_10, .inl (cy 1, 20, .inl ((fun _ => 0)))), (o_ontoDitch_11, .inl (cy 1, 20, .inl ((fun _ => 0))))]) hP hD rfl
  have hP := hPD.1
  have hD := hPD.2
  refine lv_iinc (v := 1) (lv' := [(1, .int 1), (0, .ref h0)]) hx hb dX1_init_46 hl (k := 0) rfl (by decide) (by decide) rfl (fun ls hl => ?_)
  refine lv_goto (tgt := 28) hx hb dX1_init_49 (by decide) ?_
  refine lv_iload_n hx hb dX1_init_28 rfl (lv_at hl 0 rfl) ?_
  refine lv_iconst (v := 4) hx hb dX1_init_29 (by decide) ?_
  refine lv_icmp_ge (tgt := 52) hx hb dX1_init_30 (by decide) (fun h_15 => absurd h_15 (by decide)) (fun _ => ?_)
  refine lv_aload_n hx hb dX1_init_33 rfl (lv_at hl 1 rfl) ?_
  refine r_get X kcX1 (ci := 1) rfl hP 0 rfl 0 (by decide) fX1_11 rfl dX1_init_34 ?_
  refine lv_iload_n hx hb dX1_init_37 rfl (lv_at hl 0 rfl) ?_
  refine r_new X kcX2 (ci := 2) rfl w_310 w_265 w_105 hP hD hS hA [.null, .null, .null] (fun j hj => by rcases (show j = 0 ∨ j = 1 ∨ j = 2 by omega) with rfl | rfl | rfl <;> rfl) (Nat.le_of_ble_eq_true rfl) (Nat.le_of_ble_eq_true rfl) dX1_init_38 (fun q_16 H hP hD hS => ?_)
  have hPD := vPD (ws' := [(h0, .inr (1, [.ref q_4, .ref q_5, .ref q_6, .int 0, .int 0, .int 0])), (q_4, .inl (cy 4, 4, .inr (.inr (.inr (.inr ((va_up (fun _ => none) (Int32.toNatClampNeg 0) (some q_8)))))))), (q_5, .inl (cy 1, 4, .inl ((fun _ => 0)))), (q_6, .inl (cy 1, 4, .inl ((fun _ => 0)))), (q_8, .inr (2, [.ref o_fromLawn_9, .ref o_fromDitch_10, .ref o_ontoDitch_11])), (o_fromLawn_9, .inl (cy 1, 20, .inl ((fun _ => 0)))), (o_fromDitch_10, .inl (cy 1, 20, .inl ((fun _ => 0)))), (o_ontoDitch_11, .inl (cy 1, 20, .inl ((fun _ => 0)))), (q_16, .inr (2, [.null, .null, .null]))]) hP hD rfl
  have hP := hPD.1
  have hD := hPD.2
  refine lv_dup hx hb dX1_init_41 rfl ?_
  refine sl_Vc (rC_V (As := []) (rest := [.ref q_16, .int 1, .ref q_4]) X hp_st (fun _ _ _ h => h) (sX2_ini l dC dI cy q_16) kX2_init w_267 rfl mX1_24 hP hD hS hA [8] (by decide) rfl hl rfl rfl (Nat.le_of_ble_eq_true rfl) dX1_init_42 ⟨(Nat.le_of_ble_eq_true rfl), (Nat.le_of_ble_eq_true rfl)⟩ ⟨(Nat.le_of_ble_eq_true rfl), (Nat.le_of_ble_eq_true rfl)⟩) hP hD hS hA [8] [true, true, true, true, true, true, true, true, false] rfl rfl rfl (fun u_22 H locs k_21 hP hD hS => ?_)
  obtain ⟨o_fromLawn_17, o_fromDitch_18, o_ontoDitch_19⟩ := u_22
  have hPD := vPD (ws' := [(h0, .inr (1, [.ref q_4, .ref q_5, .ref q_6, .int 0, .int 0, .int 0])), (q_4, .inl (cy 4, 4, .inr (.inr (.inr (.inr ((va_up (fun _ => none) (Int32.toNatClampNeg 0) (some q_8)))))))), (q_5, .inl (cy 1, 4, .inl ((fun _ => 0)))), (q_6, .inl (cy 1, 4, .inl ((fun _ => 0)))), (q_8, .inr (2, [.ref o_fromLawn_9, .ref o_fromDitch_10, .ref o_ontoDitch_11])), (o_fromLawn_9, .inl (cy 1, 20, .inl ((fun _ => 0)))), (o_fromDitch_10, .inl (cy 1, 20, .inl ((fun _ => 0)))), (o_ontoDitch_11, .inl (cy 1, 20, .inl ((fun _ => 0)))), (q_16, .inr (2, [.ref o_fromLawn_17, .ref o_fromDitch_18, .ref o_ontoDitch_19])), (o_fromLawn_17, .inl (cy 1, 20, .inl ((fun _ => 0)))), (o_fromDitch_18, .inl (cy 1, 20, .inl ((fun _ => 0)))), (o_ontoDitch_19, .inl (cy 1, 20, .inl ((fun _ => 0))))]) hP hD rfl
  have hP := hPD.1
  have hD := hPD.2
  refine va_astq (D := (dC, dI)) (cl := vwCl) hx hb hK hP hD hS 1 4 8 2 rfl rfl rfl rfl (i := 1) (by unfold vp_in; decide) dX1_init_45 (fun H locs hP hD hS => ?_)
  have hPD := vPD (ws' := [(h0, .inr (1, [.ref q_4, .ref q_5, .ref q_6, .int 0, .int 0, .int 0])), (q_4, .inl (cy 4, 4, .inr (.inr (.inr (.inr ((va_up (va_up (fun _ => none) (Int32.toNatClampNeg 0) (some q_8)) (Int32.toNatClampNeg 1) (some q_16)))))))), (q_5, .inl (cy 1, 4, .inl ((fun _ => 0)))), (q_6, .inl (cy 1, 4, .inl ((fun _ => 0)))), (q_8, .inr (2, [.ref o_fromLawn_9, .ref o_fromDitch_10, .ref o_ontoDitch_11])), (o_fromLawn_9, .inl (cy 1, 20, .inl ((fun _ => 0)))), (o_fromDitch_10, .inl (cy 1, 20, .inl ((fun _ => 0)))), (o_ontoDitch_11, .inl (cy 1, 20, .inl ((fun _ => 0)))), (q_16, .inr (2, [.ref o_fromLawn_17, .ref o_fromDitch_18, .ref o_ontoDitch_19])), (o_fromLawn_17, .inl (cy 1, 20, .inl ((fun _ => 0)))), (o_fromDitch_18, .inl (cy 1, 20, .inl ((fun _ => 0)))), (o_ontoDitch_19, .inl (cy 1, 20, .inl ((fun _ => 0))))]) hP hD rfl
  have hP := hPD.1
  have hD := hPD.2
  refine lv_iinc (v := 2) (lv' := [(1, .int 2), (0, .ref h0)]) hx hb dX1_init_46 hl (k := 0) rfl (by decide) (by decide) rfl (fun ls hl => ?_)
  refine lv_goto (tgt := 28) hx hb dX1_init_49 (by decide) ?_
  refine lv_iload_n hx hb dX1_init_28 rfl (lv_at hl 0 rfl) ?_
  refine lv_iconst (v := 4) hx hb dX1_init_29 (by decide) ?_
  refine lv_icmp_ge (tgt := 52) hx hb dX1_init_30 (by decide) (fun h_23 => absurd h_23 (by decide)) (fun _ => ?_)
  refine lv_aload_n hx hb dX1_init_33 rfl (lv_at hl 1 rfl) ?_
  refine r_get X kcX1 (ci := 1) rfl hP 0 rfl 0 (by decide) fX1_11 rfl dX1_init_34 ?_
  refine lv_iload_n hx hb dX1_init_37 rfl (lv_at hl 0 rfl) ?_
  refine r_new X kcX2 (ci := 2) rfl w_310 w_265 w_105 hP hD hS hA [.null, .null, .null] (fun j hj => by rcases (show j = 0 ∨ j = 1 ∨ j = 2 by omega) with rfl | rfl | rfl <;> rfl) (Nat.le_of_ble_eq_true rfl) (Nat.le_of_ble_eq_true rfl) dX1_init_38 (fun q_24 H hP hD hS => ?_)
  have hPD := vPD (ws' := [(h0, .inr (1, [.ref q_4, .ref q_5, .ref q_6, .int 0, .int 0, .int 0])), (q_4, .inl (cy 4, 4, .inr (.inr (.inr (.inr ((va_up (va_up (fun _ => none) (Int32.toNatClampNeg 0) (some q_8)) (Int32.toNatClampNeg 1) (some q_16)))))))), (q_5, .inl (cy 1, 4, .inl ((fun _ => 0)))), (q_6, .inl (cy 1, 4, .inl ((fun _ => 0)))), (q_8, .inr (2, [.ref o_fromLawn_9, .ref o_fromDitch_10, .ref o_ontoDitch_11])), (o_fromLawn_9, .inl (cy 1, 20, .inl ((fun _ => 0)))), (o_fromDitch_10, .inl (cy 1, 20, .inl ((fun _ => 0)))), (o_ontoDitch_11, .inl (cy 1, 20, .inl ((fun _ => 0)))), (q_16, .inr (2, [.ref o_fromLawn_17, .ref o_fromDitch_18, .ref o_ontoDitch_19])), (o_fromLawn_17, .inl (cy 1, 20, .inl ((fun _ => 0)))), (o_fromDitch_18, .inl (cy 1, 20, .inl ((fun _ => 0)))), (o_ontoDitch_19, .inl (cy 1, 20, .inl ((fun _ => 0)))), (q_24, .inr (2, [.null, .null, .null]))]) hP hD rfl
  have hP := hPD.1
  have hD := hPD.2
  refine lv_dup hx hb dX1_init_41 rfl ?_
  refine sl_Vc (rC_V (As := []) (rest := [.ref q_24, .int 2, .ref q_4]) X hp_st (fun _ _ _ h => h) (sX2_ini l dC dI cy q_24) kX2_init w_267 rfl mX1_24 hP hD hS hA [12] (by decide) rfl hl rfl rfl (Nat.le_of_ble_eq_true rfl) dX1_init_42 ⟨(Nat.le_of_ble_eq_true rfl), (Nat.le_of_ble_eq_true rfl)⟩ ⟨(Nat.le_of_ble_eq_true rfl), (Nat.le_of_ble_eq_true rfl)⟩) hP hD hS hA [12] [true, true, true, true, true, true, true, true, true, true, true, true, false] rfl rfl rfl (fun u_30 H locs k_29 hP hD hS => ?_)
  obtain ⟨o_fromLawn_25, o_fromDitch_26, o_ontoDitch_27⟩ := u_30
  have hPD := vPD (ws' := [(h0, .inr (1, [.ref q_4, .ref q_5, .ref q_6, .int 0, .int 0, .int 0])), (q_4, .inl (cy 4, 4, .inr (.inr (.inr (.inr ((va_up (va_up (fun _ => none) (Int32.toNatClampNeg 0) (some q_8)) (Int32.toNatClampNeg 1) (some q_16)))))))), (q_5, .inl (cy 1, 4, .inl ((fun _ => 0)))), (q_6, .inl (cy 1, 4, .inl ((fun _ => 0)))), (q_8, .inr (2, [.ref o_fromLawn_9, .ref o_fromDitch_10, .ref o_ontoDitch_11])), (o_fromLawn_9, .inl (cy 1, 20, .inl ((fun _ => 0)))), (o_fromDitch_10, .inl (cy 1, 20, .inl ((fun _ => 0)))), (o_ontoDitch_11, .inl (cy 1, 20, .inl ((fun _ => 0)))), (q_16, .inr (2, [.ref o_fromLawn_17, .ref o_fromDitch_18, .ref o_ontoDitch_19])), (o_fromLawn_17, .inl (cy 1, 20, .inl ((fun _ => 0)))), (o_fromDitch_18, .inl (cy 1, 20, .inl ((fun _ => 0)))), (o_ontoDitch_19, .inl (cy 1, 20, .inl ((fun _ => 0)))), (q_24, .inr (2, [.ref o_fromLawn_25, .ref o_fromDitch_26, .ref o_ontoDitch_27])), (o_fromLawn_25, .inl (cy 1, 20, .inl ((fun _ => 0)))), (o_fromDitch_26, .inl (cy 1, 20, .inl ((fun _ => 0)))), (o_ontoDitch_27, .inl (cy 1, 20, .inl ((fun _ => 0))))]) hP hD rfl
  have hP := hPD.1
  have hD := hPD.2
  refine va_astq (D := (dC, dI)) (cl := vwCl) hx hb hK hP hD hS 1 4 12 2 rfl rfl rfl rfl (i := 2) (by unfold vp_in; decide) dX1_init_45 (fun H locs hP hD hS => ?_)
  have hPD := vPD (ws' := [(h0, .inr (1, [.ref q_4, .ref q_5, .ref q_6, .int 0, .int 0, .int 0])), (q_4, .inl (cy 4, 4, .inr (.inr (.inr (.inr ((va_up (va_up (va_up (fun _ => none) (Int32.toNatClampNeg 0) (some q_8)) (Int32.toNatClampNeg 1) (some q_16)) (Int32.toNatClampNeg 2) (some q_24)))))))), (q_5, .inl (cy 1, 4, .inl ((fun _ => 0)))), (q_6, .inl (cy 1, 4, .inl ((fun _ => 0)))), (q_8, .inr (2, [.ref o_fromLawn_9, .ref o_fromDitch_10, .ref o_ontoDitch_11])), (o_fromLawn_9, .inl (cy 1, 20, .inl ((fun _ => 0)))), (o_fromDitch_10, .inl (cy 1, 20, .inl ((fun _ => 0)))), (o_ontoDitch_11, .inl (cy 1, 20, .inl ((fun _ => 0)))), (q_16, .inr (2, [.ref o_fromLawn_17, .ref o_fromDitch_18, .ref o_ontoDitch_19])), (o_fromLawn_17, .inl (cy 1, 20, .inl ((fun _ => 0)))), (o_fromDitch_18, .inl (cy 1, 20, .inl ((fun _ => 0)))), (o_ontoDitch_19, .inl (cy 1, 20, .inl ((fun _ => 0)))), (q_24, .inr (2, [.ref o_fromLawn_25, .ref o_fromDitch_26, .ref o_ontoDitch_27])), (o_fromLawn_25, .inl (cy 1, 20, .inl ((fun _ => 0)))), (o_fromDitch_26, .inl (cy 1, 20, .inl ((fun _ => 0)))), (o_ontoDitch_27, .inl (cy 1, 20, .inl ((fun _ => 0))))]) hP hD rfl
  have hP := hPD.1
  have hD := hPD.2
  refine lv_iinc (v := 3) (lv' := [(1, .int 3), (0, .ref h0)]) hx hb dX1_init_46 hl (k := 0) rfl (by decide) (by decide) rfl (fun ls hl => ?_)
  refine lv_goto (tgt := 28) hx hb dX1_init_49 (by decide) ?_
  refine lv_iload_n hx hb dX1_init_28 rfl (lv_at hl 0 rfl) ?_
  refine lv_iconst (v := 4) hx hb dX1_init_29 (by decide) ?_
  refine lv_icmp_ge (tgt := 52) hx hb dX1_init_30 (by decide) (fun h_31 => absurd h_31 (by decide)) (fun _ => ?_)
  refine lv_aload_n hx hb dX1_init_33 rfl (lv_at hl 1 rfl) ?_
  refine r_get X kcX1 (ci := 1) rfl hP 0 rfl 0 (by decide) fX1_11 rfl dX1_init_34 ?_
  refine lv_iload_n hx hb dX1_init_37 rfl (lv_at hl 0 rfl) ?_
  refine r_new X kcX2 (ci := 2) rfl w_310 w_265 w_105 hP hD hS hA [.null, .null, .null] (fun j hj => by rcases (show j = 0 ∨ j = 1 ∨ j = 2 by omega) with rfl | rfl | rfl <;> rfl) (Nat.le_of_ble_eq_true rfl) (Nat.le_of_ble_eq_true rfl) dX1_init_38 (fun q_32 H hP hD hS => ?_)
  have hPD := vPD (ws' := [(h0, .inr (1, [.ref q_4, .ref q_5, .ref q_6, .int 0, .int 0, .int 0])), (q_4, .inl (cy 4, 4, .inr (.inr (.inr (.inr ((va_up (va_up (va_up (fun _ => none) (Int32.toNatClampNeg 0) (some q_8)) (Int32.toNatClampNeg 1) (some q_16)) (Int32.toNatClampNeg 2) (some q_24)))))))), (q_5, .inl (cy 1, 4, .inl ((fun _ => 0)))), (q_6, .inl (cy 1, 4, .inl ((fun _ => 0)))), (q_8, .inr (2, [.ref o_fromLawn_9, .ref o_fromDitch_10, .ref o_ontoDitch_11])), (o_fromLawn_9, .inl (cy 1, 20, .inl ((fun _ => 0)))), (o_fromDitch_10, .inl (cy 1, 20, .inl ((fun _ => 0)))), (o_ontoDitch_11, .inl (cy 1, 20, .inl ((fun _ => 0)))), (q_16, .inr (2, [.ref o_fromLawn_17, .ref o_fromDitch_18, .ref o_ontoDitch_19])), (o_fromLawn_17, .inl (cy 1, 20, .inl ((fun _ => 0)))), (o_fromDitch_18, .inl (cy 1, 20, .inl ((fun _ => 0)))), (o_ontoDitch_19, .inl (cy 1, 20, .inl ((fun _ => 0)))), (q_24, .inr (2, [.ref o_fromLawn_25, .ref o_fromDitch_26, .ref o_ontoDitch_27])), (o_fromLawn_25, .inl (cy 1, 20, .inl ((fun _ => 0)))), (o_fromDitch_26, .inl (cy 1, 20, .inl ((fun _ => 0)))), (o_ontoDitch_27, .inl (cy 1, 20, .inl ((fun _ => 0)))), (q_32, .inr (2, [.null, .null, .null]))]) hP hD rfl
  have hP := hPD.1
  have hD := hPD.2
  refine lv_dup hx hb dX1_init_41 rfl ?_
  refine sl_Vc (rC_V (As := []) (rest := [.ref q_32, .int 3, .ref q_4]) X hp_st (fun _ _ _ h => h) (sX2_ini l dC dI cy q_32) kX2_init w_267 rfl mX1_24 hP hD hS hA [16] (by decide) rfl hl rfl rfl (Nat.le_of_ble_eq_true rfl) dX1_init_42 ⟨(Nat.le_of_ble_eq_true rfl), (Nat.le_of_ble_eq_true rfl)⟩ ⟨(Nat.le_of_ble_eq_true rfl), (Nat.le_of_ble_eq_true rfl)⟩) hP hD hS hA [16] [true, true, true, true, true, true, true, true, true, true, true, true, true, true, true, true, false] rfl rfl rfl (fun u_38 H locs k_37 hP hD hS => ?_)
  obtain ⟨o_fromLawn_33, o_fromDitch_34, o_ontoDitch_35⟩ := u_38
  have hPD := vPD (ws' := [(h0, .inr (1, [.ref q_4, .ref q_5, .ref q_6, .int 0, .int 0, .int 0])), (q_4, .inl (cy 4, 4, .inr (.inr (.inr (.inr ((va_up (va_up (va_up (fun _ => none) (Int32.toNatClampNeg 0) (some q_8)) (Int32.toNatClampNeg 1) (some q_16)) (Int32.toNatClampNeg 2) (some q_24)))))))), (q_5, .inl (cy 1, 4, .inl ((fun _ => 0)))), (q_6, .inl (cy 1, 4, .inl ((fun _ => 0)))), (q_8, .inr (2, [.ref o_fromLawn_9, .ref o_fromDitch_10, .ref o_ontoDitch_11])), (o_fromLawn_9, .inl (cy 1, 20, .inl ((fun _ => 0)))), (o_fromDitch_10, .inl (cy 1, 20, .inl ((fun _ => 0)))), (o_ontoDitch_11, .inl (cy 1, 20, .inl ((fun _ => 0)))), (q_16, .inr (2, [.ref o_fromLawn_17, .ref o_fromDitch_18, .ref o_ontoDitch_19])), (o_fromLawn_17, .inl (cy 1, 20, .inl ((fun _ => 0)))), (o_fromDitch_18, .inl (cy 1, 20, .inl ((fun _ => 0)))), (o_ontoDitch_19, .inl (cy 1, 20, .inl ((fun _ => 0)))), (q_24, .inr (2, [.ref o_fromLawn_25, .ref o_fromDitch_26, .ref o_ontoDitch_27])), (o_fromLawn_25, .inl (cy 1, 20, .inl ((fun _ => 0)))), (o_fromDitch_26, .inl (cy 1, 20, .inl ((fun _ => 0)))), (o_ontoDitch_27, .inl (cy 1, 20, .inl ((fun _ => 0)))), (q_32, .inr (2, [.ref o_fromLawn_33, .ref o_fromDitch_34, .ref o_ontoDitch_35])), (o_fromLawn_33, .inl (cy 1, 20, .inl ((fun _ => 0)))), (o_fromDitch_34, .inl (cy 1, 20, .inl ((fun _ => 0)))), (o_ontoDitch_35, .inl (cy 1, 20, .inl ((fun _ => 0))))]) hP hD rfl
  have hP := hPD.1
  have hD := hPD.2
  refine va_astq (D := (dC, dI)) (cl := vwCl) hx hb hK hP hD hS 1 4 16 2 rfl rfl rfl rfl (i := 3) (by unfold vp_in; decide) dX1_init_45 (fun H locs hP hD hS => ?_)
  have hPD := vPD (ws' := [(h0, .inr (1, [.ref q_4, .ref q_5, .ref q_6, .int 0, .int 0, .int 0])), (q_4, .inl (cy 4, 4, .inr (.inr (.inr (.inr ((va_up (va_up (va_up (va_up (fun _ => none) (Int32.toNatClampNeg 0) (some q_8)) (Int32.toNatClampNeg 1) (some q_16)) (Int32.toNatClampNeg 2) (some q_24)) (Int32.toNatClampNeg 3) (some q_32)))))))), (q_5, .inl (cy 1, 4, .inl ((fun _ => 0)))), (q_6, .inl (cy 1, 4, .inl ((fun _ => 0)))), (q_8, .inr (2, [.ref o_fromLawn_9, .ref o_fromDitch_10, .ref o_ontoDitch_11])), (o_fromLawn_9, .inl (cy 1, 20, .inl ((fun _ => 0)))), (o_fromDitch_10, .inl (cy 1, 20, .inl ((fun _ => 0)))), (o_ontoDitch_11, .inl (cy 1, 20, .inl ((fun _ => 0)))), (q_16, .inr (2, [.ref o_fromLawn_17, .ref o_fromDitch_18, .ref o_ontoDitch_19])), (o_fromLawn_17, .inl (cy 1, 20, .inl ((fun _ => 0)))), (o_fromDitch_18, .inl (cy 1, 20, .inl ((fun _ => 0)))), (o_ontoDitch_19, .inl (cy 1, 20, .inl ((fun _ => 0)))), (q_24, .inr (2, [.ref o_fromLawn_25, .ref o_fromDitch_26, .ref o_ontoDitch_27])), (o_fromLawn_25, .inl (cy 1, 20, .inl ((fun _ => 0)))), (o_fromDitch_26, .inl (cy 1, 20, .inl ((fun _ => 0)))), (o_ontoDitch_27, .inl (cy 1, 20, .inl ((fun _ => 0)))), (q_32, .inr (2, [.ref o_fromLawn_33, .ref o_fromDitch_34, .ref o_ontoDitch_35])), (o_fromLawn_33, .inl (cy 1, 20, .inl ((fun _ => 0)))), (o_fromDitch_34, .inl (cy 1, 20, .inl ((fun _ => 0)))), (o_ontoDitch_35, .inl (cy 1, 20, .inl ((fun _ => 0))))]) hP hD rfl
  have hP := hPD.1
  have hD := hPD.2
  refine lv_iinc (v := 4) (lv' := [(1, .int 4), (0, .ref h0)]) hx hb dX1_init_46 hl (k := 0) rfl (by decide) (by decide) rfl (fun ls hl => ?_)
  refine lv_goto (tgt := 28) hx hb dX1_init_49 (by decide) ?_
  refine lv_iload_n hx hb dX1_init_28 rfl (lv_at hl 0 rfl) ?_
  refine lv_iconst (v := 4) hx hb dX1_init_29 (by decide) ?_
  refine lv_icmp_ge (tgt := 52) hx hb dX1_init_30 (by decide) (fun _ => ?_) (fun h_39 => absurd (by decide) h_39)
  rw [q4_mk] at hP hD
  have hPD := vPD (ws' := [(h0, .inr (1, [.ref q_4, .ref q_5, .ref q_6, .int 0, .int 0, .int 0])), (q_4, .inl (cy 4, 4, .inr (.inr (.inr (.inr ((q4 q_8 q_16 q_24 q_32))))))), (q_5, .inl (cy 1, 4, .inl ((fun _ => 0)))), (q_6, .inl (cy 1, 4, .inl ((fun _ => 0)))), (q_8, .inr (2, [.ref o_fromLawn_9, .ref o_fromDitch_10, .ref o_ontoDitch_11])), (o_fromLawn_9, .inl (cy 1, 20, .inl ((fun _ => 0)))), (o_fromDitch_10, .inl (cy 1, 20, .inl ((fun _ => 0)))), (o_ontoDitch_11, .inl (cy 1, 20, .inl ((fun _ => 0)))), (q_16, .inr (2, [.ref o_fromLawn_17, .ref o_fromDitch_18, .ref o_ontoDitch_19])), (o_fromLawn_17, .inl (cy 1, 20, .inl ((fun _ => 0)))), (o_fromDitch_18, .inl (cy 1, 20, .inl ((fun _ => 0)))), (o_ontoDitch_19, .inl (cy 1, 20, .inl ((fun _ => 0)))), (q_24, .inr (2, [.ref o_fromLawn_25, .ref o_fromDitch_26, .ref o_ontoDitch_27])), (o_fromLawn_25, .inl (cy 1, 20, .inl ((fun _ => 0)))), (o_fromDitch_26, .inl (cy 1, 20, .inl ((fun _ => 0)))), (o_ontoDitch_27, .inl (cy 1, 20, .inl ((fun _ => 0)))), (q_32, .inr (2, [.ref o_fromLawn_33, .ref o_fromDitch_34, .ref o_ontoDitch_35])), (o_fromLawn_33, .inl (cy 1, 20, .inl ((fun _ => 0)))), (o_fromDitch_34, .inl (cy 1, 20, .inl ((fun _ => 0)))), (o_ontoDitch_35, .inl (cy 1, 20, .inl ((fun _ => 0))))]) hP hD rfl
  have hP := hPD.1
  have hD := hPD.2
  exact eV hQ X hr hlocks hP hD hS (q_4, q_5, q_6, q_8, q_16, q_24, q_32, o_fromLawn_9, o_fromDitch_10, o_ontoDitch_11, o_fromLawn_17, o_fromDitch_18, o_ontoDitch_19, o_fromLawn_25, o_fromDitch_26, o_ontoDitch_27, o_fromLawn_33, o_fromDitch_34, o_ontoDitch_35) [0, 1, 4, 5, 6, 7, 8, 9, 10, 11, 12, 13, 14, 15, 16, 17, 18, 19, 2, 3] (by decide +kernel) rfl trivial (Nat.le_of_ble_eq_true rfl) (Nat.le_of_ble_eq_true rfl) dX1_init_52
set_option maxHeartbeats 4000000 in
set_option maxRecDepth 100000 in
theorem sX5_ini (l : Launch) (dC : Nat → ClassId) (dI : Nat → Nat → Nat) (cy : Nat → ClassId) (h0 : Nat) : ctV l dC dI cy hp yX5_init cX5_init 1 ({ frames := 1, cells := 2, slots := 64, locals := 12 } : Room) [.ref h0] [(h0, .inr (5, [.null, .null, .int 0]))] (S := Nat × Nat) (fun u => True) (fun u => [(h0, .inr (5, [.ref u.1, .ref u.2, .int 0])), (u.1, .inl (cy 1, 32, .inl ((fun _ => 0)))), (u.2, .inl (cy 2, 32, .inr (.inl ((fun _ => 0)))))]) := by
  refine ctV.of (by decide +kernel) (Nat.le_of_ble_eq_true rfl) ?_
  intro p e s m args below meth c A ls Q hQ X hr hlocks hin hA hP hD hS hl
  have hx := X.1
  have hb := X.2.1
  have hK := X.2.2.2.2.2.1
  have hl : lv_has ls 1 [(0, .ref h0)] := hl
  refine lv_aload_n hx hb dX5_init_0 rfl (lv_at hl 0 rfl) ?_
  refine r_oinit X hl w_337 dX5_init_1 (Nat.le_of_ble_eq_true rfl) (Nat.le_of_ble_eq_true rfl) ?_
  refine lv_aload_n hx hb dX5_init_4 rfl (lv_at hl 0 rfl) ?_
  refine lv_bipush (v := 32) hx hb dX5_init_5 (by decide) ?_
  refine r_newa X (atype := .int) (ty := .int) (t0 := 1) (N' := 32) (a0 := (32, .inl (fun _ => 0))) rfl w_207 rfl hP hD hS hA (fun _ => rfl) (by decide) (by decide) (Nat.le_of_ble_eq_true rfl) (Nat.le_of_ble_eq_true rfl) (Nat.le_of_ble_eq_true rfl) dX5_init_7 (fun q_1 H hP hD hS => ?_)
  have hPD := vPD (ws' := [(h0, .inr (5, [.null, .null, .int 0])), (q_1, .inl (cy 1, 32, .inl ((fun _ => 0))))]) hP hD rfl
  have hP := hPD.1
  have hD := hPD.2
  refine r_putF X kcX5 (ci := 5) rfl hP hD hS hin 0 rfl 0 (by decide) w_338 rfl rfl rfl rfl (Nat.le_of_ble_eq_true rfl) dX5_init_9 (fun H locs hP hD hS => ?_)
  have hPD := vPD (ws' := [(h0, .inr (5, [.ref q_1, .null, .int 0])), (q_1, .inl (cy 1, 32, .inl ((fun _ => 0))))]) hP hD rfl
  have hP := hPD.1
  have hD := hPD.2
  refine lv_aload_n hx hb dX5_init_12 rfl (lv_at hl 0 rfl) ?_
  refine lv_bipush (v := 32) hx hb dX5_init_13 (by decide) ?_
  refine r_newa X (atype := .long) (ty := .long) (t0 := 2) (N' := 32) (a0 := (32, .inr (.inl (fun _ => 0)))) rfl w_348 rfl hP hD hS hA (fun _ => rfl) (by decide) (by decide) (Nat.le_of_ble_eq_true rfl) (Nat.le_of_ble_eq_true rfl) (Nat.le_of_ble_eq_true rfl) dX5_init_15 (fun q_2 H hP hD hS => ?_)
  have hPD := vPD (ws' := [(h0, .inr (5, [.ref q_1, .null, .int 0])), (q_1, .inl (cy 1, 32, .inl ((fun _ => 0)))), (q_2, .inl (cy 2, 32, .inr (.inl ((fun _ => 0)))))]) hP hD rfl
  have hP := hPD.1
  have hD := hPD.2
  refine r_putF X kcX5 (ci := 5) rfl hP hD hS hin 0 rfl 1 (by decide) w_339 rfl rfl rfl rfl (Nat.le_of_ble_eq_true rfl) dX5_init_17 (fun H locs hP hD hS => ?_)
  have hPD := vPD (ws' := [(h0, .inr (5, [.ref q_1, .ref q_2, .int 0])), (q_1, .inl (cy 1, 32, .inl ((fun _ => 0)))), (q_2, .inl (cy 2, 32, .inr (.inl ((fun _ => 0)))))]) hP hD rfl
  have hP := hPD.1
  have hD := hPD.2
  exact eV hQ X hr hlocks hP hD hS (q_1, q_2) [0, 1, 2] (by decide) rfl trivial (Nat.le_of_ble_eq_true rfl) (Nat.le_of_ble_eq_true rfl) dX5_init_20
set_option maxHeartbeats 4000000 in
set_option maxRecDepth 100000 in
theorem sX3_ini (l : Launch) (dC : Nat → ClassId) (dI : Nat → Nat → Nat) (cy : Nat → ClassId) (h0 : Nat) : ctV l dC dI cy hp yX3_init cX3_init 1 ({ frames := 1, cells := 0, slots := 0, locals := 12 } : Room) [.ref h0] [(h0, .inr (3, [.long 0, .long 0]))] (S := Unit) (fun _ => True) (fun _ => [(h0, .inr (3, [.long 0, .long 1]))]) := by
  refine ctV.of (by decide +kernel) (Nat.le_of_ble_eq_true rfl) ?_
  intro p e s m args below meth c A ls Q hQ X hr hlocks hin hA hP hD hS hl
  have hx := X.1
  have hb := X.2.1
  have hK := X.2.2.2.2.2.1
  have hl : lv_has ls 1 [(0, .ref h0)] := hl
  refine lv_aload_n hx hb dX3_init_0 rfl (lv_at hl 0 rfl) ?_
  refine r_oinit X hl w_354 dX3_init_1 (Nat.le_of_ble_eq_true rfl) (Nat.le_of_ble_eq_true rfl) ?_
  refine lv_aload_n hx hb dX3_init_4 rfl (lv_at hl 0 rfl) ?_
  refine lv_lconst (v := 1) hx hb dX3_init_5 (by decide) ?_
  refine r_put X kcX3 (ci := 3) rfl hP hD hS 0 rfl 1 (by decide) fX3_7 rfl rfl rfl (Nat.le_of_ble_eq_true rfl) dX3_init_6 (fun H locs hP hD hS => ?_)
  have hPD := vPD (ws' := [(h0, .inr (3, [.long 0, .long 1]))]) hP hD rfl
  have hP := hPD.1
  have hD := hPD.2
  exact eV hQ X hr hlocks hP hD hS () [0] (by decide) rfl trivial (Nat.le_of_ble_eq_true rfl) (Nat.le_of_ble_eq_true rfl) dX3_init_9
set_option maxHeartbeats 4000000 in
set_option maxRecDepth 100000 in
theorem sX7_ini (l : Launch) (dC : Nat → ClassId) (dI : Nat → Nat → Nat) (cy : Nat → ClassId) (h0 : Nat) : ctV l dC dI cy hp yX7_init cX7_init 1 ({ frames := 2, cells := 10, slots := 63, locals := 32 } : Room) [.ref h0] [(h0, .inr (7, [.null, .int 0, .int 0, .int 0, .int 0, .null, .int 0, .null, .null, .null, .null, .int 0, .null, .null, .null]))] (S := Nat × Nat × Nat × Nat × Nat × Nat × Nat × Nat × Nat × Nat) (fun u => True) (fun u => [(h0, .inr (7, [.ref u.1, .int 0, .int 0, .int 0, .int 0, .ref u.2.1, .int 0, .ref u.2.2.1, .ref u.2.2.2.1, .ref u.2.2.2.2.1, .ref u.2.2.2.2.2.1, .int 0, .ref u.2.2.2.2.2.2.1, .ref u.2.2.2.2.2.2.2.1, .ref u.2.2.2.2.2.2.2.2.1])), (u.1, .inr (4, [.int 0, .int 0, .int 0, .ref u.2.2.2.2.2.2.2.2.2])), (u.2.2.2.2.2.2.2.2.2, .inl (cy 1, 20, .inl ((fun _ => 0)))), (u.2.1, .inl (cy 1, 5, .inl ((fun _ => 0)))), (u.2.2.1, .inl (cy 2, 4, .inr (.inl ((fun _ => 0))))), (u.2.2.2.1, .inl (cy 1, 4, .inl ((fun _ => 0)))), (u.2.2.2.2.1, .inl (cy 1, 4, .inl ((fun _ => 0)))), (u.2.2.2.2.2.1, .inl (cy 1, 4, .inl ((fun _ => 0)))), (u.2.2.2.2.2.2.1, .inl (cy 1, 6, .inl ((fun _ => 0)))), (u.2.2.2.2.2.2.2.1, .inl (cy 1, 6, .inl ((fun _ => 0)))), (u.2.2.2.2.2.2.2.2.1, .inl (cy 3, 6, .inl ((fun _ => 0))))]) := by
  refine ctV.of (by decide +kernel) (Nat.le_of_ble_eq_true rfl) ?_
  intro p e s m args below meth c A ls Q hQ X hr hlocks hin hA hP hD hS hl
  have hx := X.1
  have hb := X.2.1
  have hK := X.2.2.2.2.2.1
  have hl : lv_has ls 1 [(0, .ref h0)] := hl
  refine lv_aload_n hx hb dX7_init_0 rfl (lv_at hl 0 rfl) ?_
  refine r_oinit X hl w_369 dX7_init_1 (Nat.le_of_ble_eq_true rfl) (Nat.le_of_ble_eq_true rfl) ?_
  refine lv_aload_n hx hb dX7_init_4 rfl (lv_at hl 0 rfl) ?_
  refine r_new X kcX4 (ci := 4) rfl w_370 w_179 w_103 hP hD hS hA [.int 0, .int 0, .int 0, .null] (fun j hj => by rcases (show j = 0 ∨ j = 1 ∨ j = 2 ∨ j = 3 by omega) with rfl | rfl | rfl | rfl <;> rfl) (Nat.le_of_ble_eq_true rfl) (Nat.le_of_ble_eq_true rfl) dX7_init_5 (fun q_1 H hP hD hS => ?_)
  have hPD := vPD (ws' := [(h0, .inr (7, [.null, .int 0, .int 0, .int 0, .int 0, .null, .int 0, .null, .null, .null, .null, .int 0, .null, .null, .null])), (q_1, .inr (4, [.int 0, .int 0, .int 0, .null]))]) hP hD rfl
  have hP := hPD.1
  have hD := hPD.2
  refine lv_dup hx hb dX7_init_8 rfl ?_
  refine sl_Vc (rC_V (As := []) (rest := [.ref q_1, .ref h0]) X hp_st (fun _ _ _ h => h) (sX4_ini l dC dI cy q_1) kX4_init w_181 rfl mX7_11 hP hD hS hA [1] (by decide) rfl hl rfl rfl (Nat.le_of_ble_eq_true rfl) dX7_init_9 ⟨(Nat.le_of_ble_eq_true rfl), (Nat.le_of_ble_eq_true rfl)⟩ ⟨(Nat.le_of_ble_eq_true rfl), (Nat.le_of_ble_eq_true rfl)⟩) hP hD hS hA [1] [true, false] rfl rfl rfl (fun u_5 H locs k_4 hP hD hS => ?_)
  obtain ⟨o_sorts_2, eu_5⟩ : ∃ z, z = u_5 := ⟨_, rfl⟩
  subst eu_5
  have hPD := vPD (ws' := [(h0, .inr (7, [.null, .int 0, .int 0, .int 0, .int 0, .null, .int 0, .null, .null, .null, .null, .int 0, .null, .null, .null])), (q_1, .inr (4, [.int 0, .int 0, .int 0, .ref o_sorts_2])), (o_sorts_2, .inl (cy 1, 20, .inl ((fun _ => 0))))]) hP hD rfl
  have hP := hPD.1
  have hD := hPD.2
  refine r_putF X kcX7 (ci := 7) rfl hP hD hS hin 0 rfl 0 (by decide) w_372 rfl rfl rfl rfl (Nat.le_of_ble_eq_true rfl) dX7_init_12 (fun H locs hP hD hS => ?_)
  have hPD := vPD (ws' := [(h0, .inr (7, [.ref q_1, .int 0, .int 0, .int 0, .int 0, .null, .int 0, .null, .null, .null, .null, .int 0, .null, .null, .null])), (q_1, .inr (4, [.int 0, .int 0, .int 0, .ref o_sorts_2])), (o_sorts_2, .inl (cy 1, 20, .inl ((fun _ => 0))))]) hP hD rfl
  have hP := hPD.1
  have hD := hPD.2
  refine lv_aload_n hx hb dX7_init_15 rfl (lv_at hl 0 rfl) ?_
  refine lv_iconst (v := 5) hx hb dX7_init_16 (by decide) ?_
  refine r_newa X (atype := .int) (ty := .int) (t0 := 1) (N' := 5) (a0 := (5, .inl (fun _ => 0))) rfl w_207 rfl hP hD hS hA (fun _ => rfl) (by decide) (by decide) (Nat.le_of_ble_eq_true rfl) (Nat.le_of_ble_eq_true rfl) (Nat.le_of_ble_eq_true rfl) dX7_init_17 (fun q_6 H hP hD hS => ?_)
  have hPD := vPD (ws' := [(h0, .inr (7, [.ref q_1, .int 0, .int 0, .int 0, .int 0, .null, .int 0, .null, .null, .null, .null, .int 0, .null, .null, .null])), (q_1, .inr (4, [.int 0, .int 0, .int 0, .ref o_sorts_2])), (o_sorts_2, .inl (cy 1, 20, .inl ((fun _ => 0)))), (q_6, .inl (cy 1, 5, .inl ((fun _ => 0))))]) hP hD rfl
  have hP := hPD.1
  have hD := hPD.2
  refine r_putF X kcX7 (ci := 7) rfl hP hD hS hin 0 rfl 5 (by decide) w_388 rfl rfl rfl rfl (Nat.le_of_ble_eq_true rfl) dX7_init_19 (fun H locs hP hD hS => ?_)
  have hPD := vPD (ws' := [(h0, .inr (7, [.ref q_1, .int 0, .int 0, .int 0, .int 0, .ref q_6, .int 0, .null, .null, .null, .null, .int 0, .null, .null, .null])), (q_1, .inr (4, [.int 0, .int 0, .int 0, .ref o_sorts_2])), (o_sorts_2, .inl (cy 1, 20, .inl ((fun _ => 0)))), (q_6, .inl (cy 1, 5, .inl ((fun _ => 0))))]) hP hD rfl
  have hP := hPD.1
  have hD := hPD.2
  refine lv_aload_n hx hb dX7_init_22 rfl (lv_at hl 0 rfl) ?_
  refine lv_iconst (v := 4) hx hb dX7_init_23 (by decide) ?_
  refine r_newa X (atype := .long) (ty := .long) (t0 := 2) (N' := 4) (a0 := (4, .inr (.inl (fun _ => 0)))) rfl w_348 rfl hP hD hS hA (fun _ => rfl) (by decide) (by decide) (Nat.le_of_ble_eq_true rfl) (Nat.le_of_ble_eq_true rfl) (Nat.le_of_ble_eq_true rfl) dX7_init_24 (fun q_7 H hP hD hS => ?_)
  have hPD := vPD (ws' := [(h0, .inr (7, [.ref q_1, .int 0, .int 0, .int 0, .int 0, .ref q_6, .int 0, .null, .null, .null, .null, .int 0, .null, .null, .null])), (q_1, .inr (4, [.int 0, .int 0, .int 0, .ref o_sorts_2])), (o_sorts_2, .inl (cy 1, 20, .inl ((fun _ => 0)))), (q_6, .inl (cy 1, 5, .inl ((fun _ => 0)))), (q_7, .inl (cy 2, 4, .inr (.inl ((fun _ => 0)))))]) hP hD rfl
  have hP := hPD.1
  have hD := hPD.2
  refine r_putF X kcX7 (ci := 7) rfl hP hD hS hin 0 rfl 7 (by decide) w_395 rfl rfl rfl rfl (Nat.le_of_ble_eq_true rfl) dX7_init_26 (fun H locs hP hD hS => ?_)
  have hPD := vPD (ws' := [(h0, .inr (7, [.ref q_1, .int 0, .int 0, .int 0, .int 0, .ref q_6, .int 0, .ref q_7, .null, .null, .null, .int 0, .null, .null, .null])), (q_1, .inr (4, [.int 0, .int 0, .int 0, .ref o_sorts_2])), (o_sorts_2, .inl (cy 1, 20, .inl ((fun _ => 0)))), (q_6, .inl (cy 1, 5, .inl ((fun _ => 0)))), (q_7, .inl (cy 2, 4, .inr (.inl ((fun _ => 0)))))]) hP hD rfl
  have hP := hPD.1
  have hD := hPD.2
  refine lv_aload_n hx hb dX7_init_29 rfl (lv_at hl 0 rfl) ?_
  refine lv_iconst (v := 4) hx hb dX7_init_30 (by decide) ?_
  refine r_newa X (atype := .int) (ty := .int) (t0 := 1) (N' := 4) (a0 := (4, .inl (fun _ => 0))) rfl w_207 rfl hP hD hS hA (fun _ => rfl) (by decide) (by decide) (Nat.le_of_ble_eq_true rfl) (Nat.le_of_ble_eq_true rfl) (Nat.le_of_ble_eq_true rfl) dX7_init_31 (fun q_8 H hP hD hS => ?_)
  have hPD := vPD (ws' := [(h0, .inr (7, [.ref q_1, .int 0, .int 0, .int 0, .int 0, .ref q_6, .int 0, .ref q_7, .null, .null, .null, .int 0, .null, .null, .null])), (q_1, .inr (4, [.int 0, .int 0, .int 0, .ref o_sorts_2])), (o_sorts_2, .inl (cy 1, 20, .inl ((fun _ => 0)))), (q_6, .inl (cy 1, 5, .inl ((fun _ => 0)))), (q_7, .inl (cy 2, 4, .inr (.inl ((fun _ => 0))))), (q_8, .inl (cy 1, 4, .inl ((fun _ => 0))))]) hP hD rfl
  have hP := hPD.1
  have hD := hPD.2
  refine r_putF X kcX7 (ci := 7) rfl hP hD hS hin 0 rfl 8 (by decide) w_397 rfl rfl rfl rfl (Nat.le_of_ble_eq_true rfl) dX7_init_33 (fun H locs hP hD hS => ?_)
  have hPD := vPD (ws' := [(h0, .inr (7, [.ref q_1, .int 0, .int 0, .int 0, .int 0, .ref q_6, .int 0, .ref q_7, .ref q_8, .null, .null, .int 0, .null, .null, .null])), (q_1, .inr (4, [.int 0, .int 0, .int 0, .ref o_sorts_2])), (o_sorts_2, .inl (cy 1, 20, .inl ((fun _ => 0)))), (q_6, .inl (cy 1, 5, .inl ((fun _ => 0)))), (q_7, .inl (cy 2, 4, .inr (.inl ((fun _ => 0))))), (q_8, .inl (cy 1, 4, .inl ((fun _ => 0))))]) hP hD rfl
  have hP := hPD.1
  have hD := hPD.2
  refine lv_aload_n hx hb dX7_init_36 rfl (lv_at hl 0 rfl) ?_
  refine lv_iconst (v := 4) hx hb dX7_init_37 (by decide) ?_
  refine r_newa X (atype := .int) (ty := .int) (t0 := 1) (N' := 4) (a0 := (4, .inl (fun _ => 0))) rfl w_207 rfl hP hD hS hA (fun _ => rfl) (by decide) (by decide) (Nat.le_of_ble_eq_true rfl) (Nat.le_of_ble_eq_true rfl) (Nat.le_of_ble_eq_true rfl) dX7_init_38 (fun q_9 H hP hD hS => ?_)
  have hPD := vPD (ws' := [(h0, .inr (7, [.ref q_1, .int 0, .int 0, .int 0, .int 0, .ref q_6, .int 0, .ref q_7, .ref q_8, .null, .null, .int 0, .null, .null, .null])), (q_1, .inr (4, [.int 0, .int 0, .int 0, .ref o_sorts_2])), (o_sorts_2, .inl (cy 1, 20, .inl ((fun _ => 0)))), (q_6, .inl (cy 1, 5, .inl ((fun _ => 0)))), (q_7, .inl (cy 2, 4, .inr (.inl ((fun _ => 0))))), (q_8, .inl (cy 1, 4, .inl ((fun _ => 0)))), (q_9, .inl (cy 1, 4, .inl ((fun _ => 0))))]) hP hD rfl
  have hP := hPD.1
  have hD := hPD.2
  refine r_putF X kcX7 (ci := 7) rfl hP hD hS hin 0 rfl 9 (by decide) w_401 rfl rfl rfl rfl (Nat.le_of_ble_eq_true rfl) dX7_init_40 (fun H locs hP hD hS => ?_)
  have hPD := vPD (ws' := [(h0, .inr (7, [.ref q_1, .int 0, .int 0, .int 0, .int 0, .ref q_6, .int 0, .ref q_7, .ref q_8, .ref q_9, .null, .int 0, .null, .null, .null])), (q_1, .inr (4, [.int 0, .int 0, .int 0, .ref o_sorts_2])), (o_sorts_2, .inl (cy 1, 20, .inl ((fun _ => 0)))), (q_6, .inl (cy 1, 5, .inl ((fun _ => 0)))), (q_7, .inl (cy 2, 4, .inr (.inl ((fun _ => 0))))), (q_8, .inl (cy 1, 4, .inl ((fun _ => 0)))), (q_9, .inl (cy 1, 4, .inl ((fun _ => 0))))]) hP hD rfl
  have hP := hPD.1
  have hD := hPD.2
  refine lv_aload_n hx hb dX7_init_43 rfl (lv_at hl 0 rfl) ?_
  refine lv_iconst (v := 4) hx hb dX7_init_44 (by decide) ?_
  refine r_newa X (atype := .int) (ty := .int) (t0 := 1) (N' := 4) (a0 := (4, .inl (fun _ => 0))) rfl w_207 rfl hP hD hS hA (fun _ => rfl) (by decide) (by decide) (Nat.le_of_ble_eq_true rfl) (Nat.le_of_ble_eq_true rfl) (Nat.le_of_ble_eq_true rfl) dX7_init_45 (fun q_10 H hP hD hS => ?_)
  have hPD := vPD (ws' := [(h0, .inr (7, [.ref q_1, .int 0, .int 0, .int 0, .int 0, .ref q_6, .int 0, .ref q_7, .ref q_8, .ref q_9, .null, .int 0, .null, .null, .null])), (q_1, .inr (4, [.int 0, .int 0, .int 0, .ref o_sorts_2])), (o_sorts_2, .inl (cy 1, 20, .inl ((fun _ => 0)))), (q_6, .inl (cy 1, 5, .inl ((fun _ => 0)))), (q_7, .inl (cy 2, 4, .inr (.inl ((fun _ => 0))))), (q_8, .inl (cy 1, 4, .inl ((fun _ => 0)))), (q_9, .inl (cy 1, 4, .inl ((fun _ => 0)))), (q_10, .inl (cy 1, 4, .inl ((fun _ => 0))))]) hP hD rfl
  have hP := hPD.1
  have hD := hPD.2
  refine r_putF X kcX7 (ci := 7) rfl hP hD hS hin 0 rfl 10 (by decide) w_404 rfl rfl rfl rfl (Nat.le_of_ble_eq_true rfl) dX7_init_47 (fun H locs hP hD hS => ?_)
  have hPD := vPD (ws' := [(h0, .inr (7, [.ref q_1, .int 0, .int 0, .int 0, .int 0, .ref q_6, .int 0, .ref q_7, .ref q_8, .ref q_9, .ref q_10, .int 0, .null, .null, .null])), (q_1, .inr (4, [.int 0, .int 0, .int 0, .ref o_sorts_2])), (o_sorts_2, .inl (cy 1, 20, .inl ((fun _ => 0)))), (q_6, .inl (cy 1, 5, .inl ((fun _ => 0)))), (q_7, .inl (cy 2, 4, .inr (.inl ((fun _ => 0))))), (q_8, .inl (cy 1, 4, .inl ((fun _ => 0)))), (q_9, .inl (cy 1, 4, .inl ((fun _ => 0)))), (q_10, .inl (cy 1, 4, .inl ((fun _ => 0))))]) hP hD rfl
  have hP := hPD.1
  have hD := hPD.2
  refine lv_aload_n hx hb dX7_init_50 rfl (lv_at hl 0 rfl) ?_
  refine lv_bipush (v := 6) hx hb dX7_init_51 (by decide) ?_
  refine r_newa X (atype := .int) (ty := .int) (t0 := 1) (N' := 6) (a0 := (6, .inl (fun _ => 0))) rfl w_207 rfl hP hD hS hA (fun _ => rfl) (by decide) (by decide) (Nat.le_of_ble_eq_true rfl) (Nat.le_of_ble_eq_true rfl) (Nat.le_of_ble_eq_true rfl) dX7_init_53 (fun q_11 H hP hD hS => ?_)
  have hPD := vPD (ws' := [(h0, .inr (7, [.ref q_1, .int 0, .int 0, .int 0, .int 0, .ref q_6, .int 0, .ref q_7, .ref q_8, .ref q_9, .ref q_10, .int 0, .null, .null, .null])), (q_1, .inr (4, [.int 0, .int 0, .int 0, .ref o_sorts_2])), (o_sorts_2, .inl (cy 1, 20, .inl ((fun _ => 0)))), (q_6, .inl (cy 1, 5, .inl ((fun _ => 0)))), (q_7, .inl (cy 2, 4, .inr (.inl ((fun _ => 0))))), (q_8, .inl (cy 1, 4, .inl ((fun _ => 0)))), (q_9, .inl (cy 1, 4, .inl ((fun _ => 0)))), (q_10, .inl (cy 1, 4, .inl ((fun _ => 0)))), (q_11, .inl (cy 1, 6, .inl ((fun _ => 0))))]) hP hD rfl
  have hP := hPD.1
  have hD := hPD.2
  refine r_putF X kcX7 (ci := 7) rfl hP hD hS hin 0 rfl 12 (by decide) w_412 rfl rfl rfl rfl (Nat.le_of_ble_eq_true rfl) dX7_init_55 (fun H locs hP hD hS => ?_)
  have hPD := vPD (ws' := [(h0, .inr (7, [.ref q_1, .int 0, .int 0, .int 0, .int 0, .ref q_6, .int 0, .ref q_7, .ref q_8, .ref q_9, .ref q_10, .int 0, .ref q_11, .null, .null])), (q_1, .inr (4, [.int 0, .int 0, .int 0, .ref o_sorts_2])), (o_sorts_2, .inl (cy 1, 20, .inl ((fun _ => 0)))), (q_6, .inl (cy 1, 5, .inl ((fun _ => 0)))), (q_7, .inl (cy 2, 4, .inr (.inl ((fun _ => 0))))), (q_8, .inl (cy 1, 4, .inl ((fun _ => 0)))), (q_9, .inl (cy 1, 4, .inl ((fun _ => 0)))), (q_10, .inl (cy 1, 4, .inl ((fun _ => 0)))), (q_11, .inl (cy 1, 6, .inl ((fun _ => 0))))]) hP hD rfl
  have hP := hPD.1
  have hD := hPD.2
  refine lv_aload_n hx hb dX7_init_58 rfl (lv_at hl 0 rfl) ?_
  refine lv_bipush (v := 6) hx hb dX7_init_59 (by decide) ?_
  refine r_newa X (atype := .int) (ty := .int) (t0 := 1) (N' := 6) (a0 := (6, .inl (fun _ => 0))) rfl w_207 rfl hP hD hS hA (fun _ => rfl) (by decide) (by decide) (Nat.le_of_ble_eq_true rfl) (Nat.le_of_ble_eq_true rfl) (Nat.le_of_ble_eq_true rfl) dX7_init_61 (fun q_12 H hP hD hS => ?_)
  have hPD := vPD (ws' := [(h0, .inr (7, [.ref q_1, .int 0, .int 0, .int 0, .int 0, .ref q_6, .int 0, .ref q_7, .ref q_8, .ref q_9, .ref q_10, .int 0, .ref q_11, .null, .null])), (q_1, .inr (4, [.int 0, .int 0, .int 0, .ref o_sorts_2])), (o_sorts_2, .inl (cy 1, 20, .inl ((fun _ => 0)))), (q_6, .inl (cy 1, 5, .inl ((fun _ => 0)))), (q_7, .inl (cy 2, 4, .inr (.inl ((fun _ => 0))))), (q_8, .inl (cy 1, 4, .inl ((fun _ => 0)))), (q_9, .inl (cy 1, 4, .inl ((fun _ => 0)))), (q_10, .inl (cy 1, 4, .inl ((fun _ => 0)))), (q_11, .inl (cy 1, 6, .inl ((fun _ => 0)))), (q_12, .inl (cy 1, 6, .inl ((fun _ => 0))))]) hP hD rfl
  have hP := hPD.1
  have hD := hPD.2
  refine r_putF X kcX7 (ci := 7) rfl hP hD hS hin 0 rfl 13 (by decide) w_414 rfl rfl rfl rfl (Nat.le_of_ble_eq_true rfl) dX7_init_63 (fun H locs hP hD hS => ?_)
  have hPD := vPD (ws' := [(h0, .inr (7, [.ref q_1, .int 0, .int 0, .int 0, .int 0, .ref q_6, .int 0, .ref q_7, .ref q_8, .ref q_9, .ref q_10, .int 0, .ref q_11, .ref q_12, .null])), (q_1, .inr (4, [.int 0, .int 0, .int 0, .ref o_sorts_2])), (o_sorts_2, .inl (cy 1, 20, .inl ((fun _ => 0)))), (q_6, .inl (cy 1, 5, .inl ((fun _ => 0)))), (q_7, .inl (cy 2, 4, .inr (.inl ((fun _ => 0))))), (q_8, .inl (cy 1, 4, .inl ((fun _ => 0)))), (q_9, .inl (cy 1, 4, .inl ((fun _ => 0)))), (q_10, .inl (cy 1, 4, .inl ((fun _ => 0)))), (q_11, .inl (cy 1, 6, .inl ((fun _ => 0)))), (q_12, .inl (cy 1, 6, .inl ((fun _ => 0))))]) hP hD rfl
  have hP := hPD.1
  have hD := hPD.2
  refine lv_aload_n hx hb dX7_init_66 rfl (lv_at hl 0 rfl) ?_
  refine lv_bipush (v := 6) hx hb dX7_init_67 (by decide) ?_
  refine r_newa X (atype := .boolean) (ty := .boolean) (t0 := 3) (N' := 6) (a0 := (6, .inl (fun _ => 0))) rfl w_449 rfl hP hD hS hA (fun _ => rfl) (by decide) (by decide) (Nat.le_of_ble_eq_true rfl) (Nat.le_of_ble_eq_true rfl) (Nat.le_of_ble_eq_true rfl) dX7_init_69 (fun q_13 H hP hD hS => ?_)
  have hPD := vPD (ws' := [(h0, .inr (7, [.ref q_1, .int 0, .int 0, .int 0, .int 0, .ref q_6, .int 0, .ref q_7, .ref q_8, .ref q_9, .ref q_10, .int 0, .ref q_11, .ref q_12, .null])), (q_1, .inr (4, [.int 0, .int 0, .int 0, .ref o_sorts_2])), (o_sorts_2, .inl (cy 1, 20, .inl ((fun _ => 0)))), (q_6, .inl (cy 1, 5, .inl ((fun _ => 0)))), (q_7, .inl (cy 2, 4, .inr (.inl ((fun _ => 0))))), (q_8, .inl (cy 1, 4, .inl ((fun _ => 0)))), (q_9, .inl (cy 1, 4, .inl ((fun _ => 0)))), (q_10, .inl (cy 1, 4, .inl ((fun _ => 0)))), (q_11, .inl (cy 1, 6, .inl ((fun _ => 0)))), (q_12, .inl (cy 1, 6, .inl ((fun _ => 0)))), (q_13, .inl (cy 3, 6, .inl ((fun _ => 0))))]) hP hD rfl
  have hP := hPD.1
  have hD := hPD.2
  refine r_putF X kcX7 (ci := 7) rfl hP hD hS hin 0 rfl 14 (by decide) w_416 rfl rfl rfl rfl (Nat.le_of_ble_eq_true rfl) dX7_init_71 (fun H locs hP hD hS => ?_)
  have hPD := vPD (ws' := [(h0, .inr (7, [.ref q_1, .int 0, .int 0, .int 0, .int 0, .ref q_6, .int 0, .ref q_7, .ref q_8, .ref q_9, .ref q_10, .int 0, .ref q_11, .ref q_12, .ref q_13])), (q_1, .inr (4, [.int 0, .int 0, .int 0, .ref o_sorts_2])), (o_sorts_2, .inl (cy 1, 20, .inl ((fun _ => 0)))), (q_6, .inl (cy 1, 5, .inl ((fun _ => 0)))), (q_7, .inl (cy 2, 4, .inr (.inl ((fun _ => 0))))), (q_8, .inl (cy 1, 4, .inl ((fun _ => 0)))), (q_9, .inl (cy 1, 4, .inl ((fun _ => 0)))), (q_10, .inl (cy 1, 4, .inl ((fun _ => 0)))), (q_11, .inl (cy 1, 6, .inl ((fun _ => 0)))), (q_12, .inl (cy 1, 6, .inl ((fun _ => 0)))), (q_13, .inl (cy 3, 6, .inl ((fun _ => 0))))]) hP hD rfl
  have hP := hPD.1
  have hD := hPD.2
  exact eV hQ X hr hlocks hP hD hS (q_1, q_6, q_7, q_8, q_9, q_10, q_11, q_12, q_13, o_sorts_2) [0, 1, 2, 3, 4, 5, 6, 7, 8, 9, 10] (by decide +kernel) rfl trivial (Nat.le_of_ble_eq_true rfl) (Nat.le_of_ble_eq_true rfl) dX7_init_74
set_option maxHeartbeats 4000000 in
set_option maxRecDepth 100000 in
theorem sX9_ini (l : Launch) (dC : Nat → ClassId) (dI : Nat → Nat → Nat) (cy : Nat → ClassId) (h0 : Nat) : ctV l dC dI cy hp yX9_init cX9_init 1 ({ frames := 1, cells := 1, slots := 800, locals := 12 } : Room) [.ref h0] [(h0, .inr (8, [.null, .int 0, .int 0, .int 0, .int 0, .int 0, .int 0, .int 0, .int 0]))] (S := Nat) (fun u => True) (fun u => [(h0, .inr (8, [.ref u, .int 0, .int 0, .int 0, .int 0, .int 0, .int 0, .int 0, .int 0])), (u, .inl (cy 0, 800, .inl ((fun _ => 0))))]) := by
  refine ctV.of (by decide +kernel) (Nat.le_of_ble_eq_true rfl) ?_
  intro p e s m args below meth c A ls Q hQ X hr hlocks hin hA hP hD hS hl
  have hx := X.1
  have hb := X.2.1
  have hK := X.2.2.2.2.2.1
  have hl : lv_has ls 1 [(0, .ref h0)] := hl
  refine lv_aload_n hx hb dX9_init_0 rfl (lv_at hl 0 rfl) ?_
  refine r_oinit X hl w_139 dX9_init_1 (Nat.le_of_ble_eq_true rfl) (Nat.le_of_ble_eq_true rfl) ?_
  refine lv_aload_n hx hb dX9_init_4 rfl (lv_at hl 0 rfl) ?_
  refine lv_sipush (v := 800) hx hb dX9_init_5 (by decide) ?_
  refine r_newa X (atype := .byte) (ty := .byte) (t0 := 0) (N' := 800) (a0 := (800, .inl (fun _ => 0))) rfl w_171 rfl hP hD hS hA (fun _ => rfl) (by decide) (by decide) (Nat.le_of_ble_eq_true rfl) (Nat.le_of_ble_eq_true rfl) (Nat.le_of_ble_eq_true rfl) dX9_init_8 (fun q_1 H hP hD hS => ?_)
  have hPD := vPD (ws' := [(h0, .inr (8, [.null, .int 0, .int 0, .int 0, .int 0, .int 0, .int 0, .int 0, .int 0])), (q_1, .inl (cy 0, 800, .inl ((fun _ => 0))))]) hP hD rfl
  have hP := hPD.1
  have hD := hPD.2
  refine r_putF X kcX9 (ci := 8) rfl hP hD hS hin 0 rfl 0 (by decide) w_140 rfl rfl rfl rfl (Nat.le_of_ble_eq_true rfl) dX9_init_10 (fun H locs hP hD hS => ?_)
  have hPD := vPD (ws' := [(h0, .inr (8, [.ref q_1, .int 0, .int 0, .int 0, .int 0, .int 0, .int 0, .int 0, .int 0])), (q_1, .inl (cy 0, 800, .inl ((fun _ => 0))))]) hP hD rfl
  have hP := hPD.1
  have hD := hPD.2
  exact eV hQ X hr hlocks hP hD hS q_1 [0, 1] (by decide) rfl trivial (Nat.le_of_ble_eq_true rfl) (Nat.le_of_ble_eq_true rfl) dX9_init_13
