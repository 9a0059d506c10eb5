set_option maxHeartbeats 4000000 in
set_option maxRecDepth 100000 in
theorem tX11_fault (l : Launch) (dC : Nat → ClassId) (dI : Nat → Nat → Nat) (cy : Nat → ClassId) (h0 : Nat) (tp : Nat) (v1 : Value) (v2 : Value) (v3 : Value) (v4 : Value) (v5 : Value) (v6 : Value) (v7 : Value) (v8 : Value) (v9 : Value) (v10 : Value) (v11 : Value) (v12 : Value) (v13 : Value) (v14 : Value) (v15 : Value) (v16 : Value) (bt : Nat) : ctI l dC dI cy yX11_fault cX11_fault 1 .int ({ frames := 0, cells := 0, slots := 0, locals := 0 }) [.ref h0] [(h0, .inr (10, [.ref tp, v1, v2, v3, v4, v5, v6, v7, v8, v9, v10, v11, v12, v13, v14, v15, v16])), (tp, .inr (8, [.ref bt, .int 0, .int 0, .int 0, .int 0, .int 0, .int 0, .int 0, .int 0]))] (S := Unit) (fun r _ => r = 0) (fun _ => []) := by
  refine ctI.of (by decide +kernel) (Nat.le_of_ble_eq_true rfl) ?_
  intro p e s m args below meth c A ls X hr hlocks hin hA hP hD hS hl
  have hx := X.1
  have hb := X.2.1
  have hK := X.2.2.2.2.2.1
  have hl : lv_has ls 1 [(0, .ref h0)] := hl
  refine lv_aload_n hx hb dX11_fault_0 rfl (lv_at hl 0 rfl) ?_
  refine r_get X kcX11 (ci := 10) rfl hP 0 rfl 0 (by decide) fX11_10 rfl dX11_fault_1 ?_
  refine r_get X kcX9 (ci := 8) rfl hP 1 rfl 7 (by decide) fX11_133 rfl dX11_fault_4 ?_
  exact eI X hr hlocks hP hD hS () [] (by decide) rfl rfl rfl (Nat.le_of_ble_eq_true rfl) (Nat.le_of_ble_eq_true rfl) dX11_fault_7
set_option maxHeartbeats 4000000 in
set_option maxRecDepth 100000 in
theorem tX11_where (l : Launch) (dC : Nat → ClassId) (dI : Nat → Nat → Nat) (cy : Nat → ClassId) (h0 : Nat) (tp : Nat) (v1 : Value) (v2 : Value) (v3 : Value) (v4 : Value) (v5 : Value) (v6 : Value) (v7 : Value) (v8 : Value) (v9 : Value) (v10 : Value) (v11 : Value) (v12 : Value) (v13 : Value) (v14 : Value) (v15 : Value) (bt : Nat) : ctI l dC dI cy yX11_where cX11_where 1 .int ({ frames := 0, cells := 0, slots := 0, locals := 0 }) [.ref h0] [(h0, .inr (10, [.ref tp, v1, v2, v3, v4, v5, v6, v7, v8, v9, v10, v11, v12, v13, v14, v15, .int 0])), (tp, .inr (8, [.ref bt, .int 0, .int 0, .int 0, .int 0, .int 0, .int 0, .int 0, .int 0]))] (S := Unit) (fun r _ => r = -1) (fun _ => []) := by
  refine ctI.of (by decide +kernel) (Nat.le_of_ble_eq_true rfl) ?_
  intro p e s m args below meth c A ls X hr hlocks hin hA hP hD hS hl
  have hx := X.1
  have hb := X.2.1
  have hK := X.2.2.2.2.2.1
  have hl : lv_has ls 1 [(0, .ref h0)] := hl
  refine lv_aload_n hx hb dX11_where_0 rfl (lv_at hl 0 rfl) ?_
  refine r_get X kcX11 (ci := 10) rfl hP 0 rfl 16 (by decide) fX11_136 rfl dX11_where_1 ?_
  refine lv_iconst (v := 4) hx hb dX11_where_4 (by decide) ?_
  refine lv_icmp_ne (tgt := 18) hx hb dX11_where_5 (by decide) (fun _ => ?_) (fun h_1 => absurd h_1 (by decide))
  refine lv_iconst (v := -1) hx hb dX11_where_18 (by decide) ?_
  exact eI X hr hlocks hP hD hS () [] (by decide) rfl rfl rfl (Nat.le_of_ble_eq_true rfl) (Nat.le_of_ble_eq_true rfl) dX11_where_19
set_option maxHeartbeats 4000000 in
set_option maxRecDepth 100000 in
theorem tX11_place (l : Launch) (dC : Nat → ClassId) (dI : Nat → Nat → Nat) (cy : Nat → ClassId) (h0 : Nat) (v0 : Value) (nw : Nat) (v2 : Value) (v3 : Value) (v4 : Value) (v5 : Value) (v6 : Value) (v7 : Value) (v8 : Value) (v9 : Value) (v10 : Value) (v11 : Value) (v12 : Value) (v13 : Value) (v14 : Value) (v15 : Value) (v16 : Value) (gr : Nat) (gs : Nat) (n1 : Nat) (n2 : Nat) (n3 : Nat) (p1 : Int32) (p2 : Int32) : ctI l dC dI cy yX11_place cX11_place 4 .int ({ frames := 1, cells := 0, slots := 0, locals := 21 }) [.ref h0, .int p1, .int p2] [(h0, .inr (10, [v0, .ref nw, v2, v3, v4, v5, v6, v7, v8, v9, v10, v11, v12, v13, v14, v15, v16])), (nw, .inr (6, [.ref gr, .ref n1, .ref n2, .ref n3, .int 0])), (gr, .inr (4, [.int 0, .int 0, .int 0, .ref gs]))] (S := Unit) (fun r _ => r = -1) (fun _ => []) := by
  refine ctI.of (by decide +kernel) (Nat.le_of_ble_eq_true rfl) ?_
  intro p e s m args below meth c A ls X hr hlocks hin hA hP hD hS hl
  have hx := X.1
  have hb := X.2.1
  have hK := X.2.2.2.2.2.1
  have hl : lv_has ls 4 [(0, .ref h0), (1, .int p1), (2, .int p2)] := hl
  refine lv_aload_n hx hb dX11_place_0 rfl (lv_at hl 0 rfl) ?_
  refine r_get X kcX11 (ci := 10) rfl hP 0 rfl 1 (by decide) fX11_19 rfl dX11_place_1 ?_
  refine r_get X kcX6 (ci := 6) rfl hP 1 rfl 0 (by decide) fX11_121 rfl dX11_place_4 ?_
  refine lv_iload_n hx hb dX11_place_7 rfl (lv_at hl 1 rfl) ?_
  refine fI (wr := [(h0, .inr (10, [v0, .ref nw, v2, v3, v4, v5, v6, v7, v8, v9, v10, v11, v12, v13, v14, v15, v16])), (nw, .inr (6, [.ref gr, .ref n1, .ref n2, .ref n3, .int 0]))]) (rV_I (wc := [(gr, .inr (4, [.int 0, .int 0, .int 0, .ref gs]))]) (As := [.int p1]) (rest := []) X (tX4_holds l dC dI cy gr gs p1) kX4_holds vX4_holds mX11_142 hP hD [2] (by decide) rfl 0 (ci := 4) rfl rfl rfl hl rfl rfl (Nat.le_of_ble_eq_true rfl) dX11_place_8 ⟨Nat.le_of_ble_eq_true rfl, Nat.le_of_ble_eq_true rfl⟩ ⟨Nat.le_of_ble_eq_true rfl, Nat.le_of_ble_eq_true rfl⟩) hP hD hS hA [2] [0, 1] rfl rfl (by decide) (by decide) (fun r_1 u_3 H locs k_2 hP hD hS => ?_)
  have hP : va_P (dC, dI) vwCl [(h0, .inr (10, [v0, .ref nw, v2, v3, v4, v5, v6, v7, v8, v9, v10, v11, v12, v13, v14, v15, v16])), (nw, .inr (6, [.ref gr, .ref n1, .ref n2, .ref n3, .int 0])), (gr, .inr (4, [.int 0, .int 0, .int 0, .ref gs]))] H := hP
  have hD : va_D A [(h0, .inr (10, [v0, .ref nw, v2, v3, v4, v5, v6, v7, v8, v9, v10, v11, v12, v13, v14, v15, v16])), (nw, .inr (6, [.ref gr, .ref n1, .ref n2, .ref n3, .int 0])), (gr, .inr (4, [.int 0, .int 0, .int 0, .ref gs]))] := hD
  have er_1 : r_1 = 0 := k_2
  subst er_1
  refine lv_if_ne (tgt := 20) hx hb dX11_place_11 (by decide) (fun h_4 => absurd (by decide) h_4) (fun _ => ?_)
  refine lv_aload_n hx hb dX11_place_14 rfl (lv_at hl 0 rfl) ?_
  refine lv_iconst (v := 1) hx hb dX11_place_15 (by decide) ?_
  refine fI (wr := [(nw, .inr (6, [.ref gr, .ref n1, .ref n2, .ref n3, .int 0])), (gr, .inr (4, [.int 0, .int 0, .int 0, .ref gs]))]) (rV_I (wc := [(h0, .inr (10, [v0, .ref nw, v2, v3, v4, v5, v6, v7, v8, v9, v10, v11, v12, v13, v14, v15, v16]))]) (As := [.int 1]) (rest := []) X (tX11_refuse l dC dI cy h0 v0 (.ref nw) v2 v3 v4 v5 v6 v7 v8 v9 v10 v11 v12 v13 v14 v15 v16 1) kX11_refuse vX11_refuse mX11_100 hP hD [0] (by decide) rfl 0 (ci := 10) rfl rfl rfl hl rfl rfl (Nat.le_of_ble_eq_true rfl) dX11_place_16 ⟨Nat.le_of_ble_eq_true rfl, Nat.le_of_ble_eq_true rfl⟩ ⟨Nat.le_of_ble_eq_true rfl, Nat.le_of_ble_eq_true rfl⟩) hP hD hS hA [0] [1, 2] rfl rfl (by decide) (by decide) (fun r_5 u_7 H locs k_6 hP hD hS => ?_)
  have hP : va_P (dC, dI) vwCl [(nw, .inr (6, [.ref gr, .ref n1, .ref n2, .ref n3, .int 0])), (gr, .inr (4, [.int 0, .int 0, .int 0, .ref gs]))] H := hP
  have hD : va_D A [(nw, .inr (6, [.ref gr, .ref n1, .ref n2, .ref n3, .int 0])), (gr, .inr (4, [.int 0, .int 0, .int 0, .ref gs]))] := hD
  have er_5 : r_5 = -1 := k_6
  subst er_5
  exact eI X hr hlocks hP hD hS () [] (by decide) rfl rfl rfl (Nat.le_of_ble_eq_true rfl) (Nat.le_of_ble_eq_true rfl) dX11_place_19
set_option maxHeartbeats 4000000 in
set_option maxRecDepth 100000 in
theorem tX11_passers (l : Launch) (dC : Nat → ClassId) (dI : Nat → Nat → Nat) (cy : Nat → ClassId) (h0 : Nat) (v0 : Value) (nw : Nat) (v2 : Value) (v3 : Value) (v4 : Value) (v5 : Value) (v6 : Value) (v7 : Value) (v8 : Value) (v9 : Value) (v10 : Value) (v11 : Value) (v12 : Value) (v13 : Value) (v14 : Value) (v15 : Value) (v16 : Value) (gr : Nat) (gs : Nat) (n1 : Nat) (n2 : Nat) (n3 : Nat) (p1 : Int32) : ctI l dC dI cy yX11_passers cX11_passers 4 .int ({ frames := 1, cells := 0, slots := 0, locals := 21 }) [.ref h0, .int p1] [(h0, .inr (10, [v0, .ref nw, v2, v3, v4, v5, v6, v7, v8, v9, v10, v11, v12, v13, v14, v15, v16])), (nw, .inr (6, [.ref gr, .ref n1, .ref n2, .ref n3, .int 0])), (gr, .inr (4, [.int 0, .int 0, .int 0, .ref gs]))] (S := Unit) (fun r _ => r = -1) (fun _ => []) := by
  refine ctI.of (by decide +kernel) (Nat.le_of_ble_eq_true rfl) ?_
  intro p e s m args below meth c A ls X hr hlocks hin hA hP hD hS hl
  have hx := X.1
  have hb := X.2.1
  have hK := X.2.2.2.2.2.1
  have hl : lv_has ls 4 [(0, .ref h0), (1, .int p1)] := hl
  refine lv_aload_n hx hb dX11_passers_0 rfl (lv_at hl 0 rfl) ?_
  refine r_get X kcX11 (ci := 10) rfl hP 0 rfl 1 (by decide) fX11_19 rfl dX11_passers_1 ?_
  refine r_get X kcX6 (ci := 6) rfl hP 1 rfl 0 (by decide) fX11_121 rfl dX11_passers_4 ?_
  refine lv_iload_n hx hb dX11_passers_7 rfl (lv_at hl 1 rfl) ?_
  refine fI (wr := [(h0, .inr (10, [v0, .ref nw, v2, v3, v4, v5, v6, v7, v8, v9, v10, v11, v12, v13, v14, v15, v16])), (nw, .inr (6, [.ref gr, .ref n1, .ref n2, .ref n3, .int 0]))]) (rV_I (wc := [(gr, .inr (4, [.int 0, .int 0, .int 0, .ref gs]))]) (As := [.int p1]) (rest := []) X (tX4_holds l dC dI cy gr gs p1) kX4_holds vX4_holds mX11_142 hP hD [2] (by decide) rfl 0 (ci := 4) rfl rfl rfl hl rfl rfl (Nat.le_of_ble_eq_true rfl) dX11_passers_8 ⟨Nat.le_of_ble_eq_true rfl, Nat.le_of_ble_eq_true rfl⟩ ⟨Nat.le_of_ble_eq_true rfl, Nat.le_of_ble_eq_true rfl⟩) hP hD hS hA [2] [0, 1] rfl rfl (by decide) (by decide) (fun r_1 u_3 H locs k_2 hP hD hS => ?_)
  have hP : va_P (dC, dI) vwCl [(h0, .inr (10, [v0, .ref nw, v2, v3, v4, v5, v6, v7, v8, v9, v10, v11, v12, v13, v14, v15, v16])), (nw, .inr (6, [.ref gr, .ref n1, .ref n2, .ref n3, .int 0])), (gr, .inr (4, [.int 0, .int 0, .int 0, .ref gs]))] H := hP
  have hD : va_D A [(h0, .inr (10, [v0, .ref nw, v2, v3, v4, v5, v6, v7, v8, v9, v10, v11, v12, v13, v14, v15, v16])), (nw, .inr (6, [.ref gr, .ref n1, .ref n2, .ref n3, .int 0])), (gr, .inr (4, [.int 0, .int 0, .int 0, .ref gs]))] := hD
  have er_1 : r_1 = 0 := k_2
  subst er_1
  refine lv_if_ne (tgt := 20) hx hb dX11_passers_11 (by decide) (fun h_4 => absurd (by decide) h_4) (fun _ => ?_)
  refine lv_aload_n hx hb dX11_passers_14 rfl (lv_at hl 0 rfl) ?_
  refine lv_iconst (v := 1) hx hb dX11_passers_15 (by decide) ?_
  refine fI (wr := [(nw, .inr (6, [.ref gr, .ref n1, .ref n2, .ref n3, .int 0])), (gr, .inr (4, [.int 0, .int 0, .int 0, .ref gs]))]) (rV_I (wc := [(h0, .inr (10, [v0, .ref nw, v2, v3, v4, v5, v6, v7, v8, v9, v10, v11, v12, v13, v14, v15, v16]))]) (As := [.int 1]) (rest := []) X (tX11_refuse l dC dI cy h0 v0 (.ref nw) v2 v3 v4 v5 v6 v7 v8 v9 v10 v11 v12 v13 v14 v15 v16 1) kX11_refuse vX11_refuse mX11_100 hP hD [0] (by decide) rfl 0 (ci := 10) rfl rfl rfl hl rfl rfl (Nat.le_of_ble_eq_true rfl) dX11_passers_16 ⟨Nat.le_of_ble_eq_true rfl, Nat.le_of_ble_eq_true rfl⟩ ⟨Nat.le_of_ble_eq_true rfl, Nat.le_of_ble_eq_true rfl⟩) hP hD hS hA [0] [1, 2] rfl rfl (by decide) (by decide) (fun r_5 u_7 H locs k_6 hP hD hS => ?_)
  have hP : va_P (dC, dI) vwCl [(nw, .inr (6, [.ref gr, .ref n1, .ref n2, .ref n3, .int 0])), (gr, .inr (4, [.int 0, .int 0, .int 0, .ref gs]))] H := hP
  have hD : va_D A [(nw, .inr (6, [.ref gr, .ref n1, .ref n2, .ref n3, .int 0])), (gr, .inr (4, [.int 0, .int 0, .int 0, .ref gs]))] := hD
  have er_5 : r_5 = -1 := k_6
  subst er_5
  exact eI X hr hlocks hP hD hS () [] (by decide) rfl rfl rfl (Nat.le_of_ble_eq_true rfl) (Nat.le_of_ble_eq_true rfl) dX11_passers_19
set_option maxHeartbeats 4000000 in
set_option maxRecDepth 100000 in
theorem tX11_walker (l : Launch) (dC : Nat → ClassId) (dI : Nat → Nat → Nat) (cy : Nat → ClassId) (h0 : Nat) (v0 : Value) (v1 : Value) (v2 : Value) (v3 : Value) (v4 : Value) (v5 : Value) (v6 : Value) (v7 : Value) (v8 : Value) (v9 : Value) (v10 : Value) (v11 : Value) (td : Nat) (v13 : Value) (v14 : Value) (v15 : Value) (v16 : Value) (tg : Nat) (t0 : Nat) (t1 : Nat) (t2 : Nat) (t3 : Nat) (t4 : Nat) (t5 : Nat) (t6 : Nat) (t7 : Nat) (p1 : Int32) (p2 : Int32) : ctI l dC dI cy yX11_walker cX11_walker 3 .int ({ frames := 1, cells := 0, slots := 0, locals := 21 }) [.ref h0, .int p1, .int p2] [(h0, .inr (10, [v0, v1, v2, v3, v4, v5, v6, v7, v8, v9, v10, v11, .ref td, v13, v14, v15, v16])), (td, .inr (7, [.ref tg, .int 0, .int 0, .int 0, .int 0, .ref t0, .int 0, .ref t1, .ref t2, .ref t3, .ref t4, .int 0, .ref t5, .ref t6, .ref t7]))] (S := Unit) (fun r _ => r = -1) (fun _ => []) := by
  refine ctI.of (by decide +kernel) (Nat.le_of_ble_eq_true rfl) ?_
  intro p e s m args below meth c A ls X hr hlocks hin hA hP hD hS hl
  have hx := X.1
  have hb := X.2.1
  have hK := X.2.2.2.2.2.1
  have hl : lv_has ls 3 [(0, .ref h0), (1, .int p1), (2, .int p2)] := hl
  refine lv_aload_n hx hb dX11_walker_0 rfl (lv_at hl 0 rfl) ?_
  refine lv_iload_n hx hb dX11_walker_1 rfl (lv_at hl 1 rfl) ?_
  refine fI (wr := []) (rV_I (wc := [(h0, .inr (10, [v0, v1, v2, v3, v4, v5, v6, v7, v8, v9, v10, v11, .ref td, v13, v14, v15, v16])), (td, .inr (7, [.ref tg, .int 0, .int 0, .int 0, .int 0, .ref t0, .int 0, .ref t1, .ref t2, .ref t3, .ref t4, .int 0, .ref t5, .ref t6, .ref t7]))]) (As := [.int p1]) (rest := []) X (tX11_isWalker l dC dI cy h0 v0 v1 v2 v3 v4 v5 v6 v7 v8 v9 v10 v11 td v13 v14 v15 v16 tg t0 t1 t2 t3 t4 t5 t6 t7 p1) kX11_isWalker vX11_isWalker mX11_159 hP hD [0, 1] (by decide) rfl 0 (ci := 10) rfl rfl rfl hl rfl rfl (Nat.le_of_ble_eq_true rfl) dX11_walker_2 ⟨Nat.le_of_ble_eq_true rfl, Nat.le_of_ble_eq_true rfl⟩ ⟨Nat.le_of_ble_eq_true rfl, Nat.le_of_ble_eq_true rfl⟩) hP hD hS hA [0, 1] [] rfl rfl (by decide) (by decide) (fun r_1 u_3 H locs k_2 hP hD hS => ?_)
  have hP : va_P (dC, dI) vwCl [(h0, .inr (10, [v0, v1, v2, v3, v4, v5, v6, v7, v8, v9, v10, v11, .ref td, v13, v14, v15, v16])), (td, .inr (7, [.ref tg, .int 0, .int 0, .int 0, .int 0, .ref t0, .int 0, .ref t1, .ref t2, .ref t3, .ref t4, .int 0, .ref t5, .ref t6, .ref t7]))] H := hP
  have hD : va_D A [(h0, .inr (10, [v0, v1, v2, v3, v4, v5, v6, v7, v8, v9, v10, v11, .ref td, v13, v14, v15, v16])), (td, .inr (7, [.ref tg, .int 0, .int 0, .int 0, .int 0, .ref t0, .int 0, .ref t1, .ref t2, .ref t3, .ref t4, .int 0, .ref t5, .ref t6, .ref t7]))] := hD
  have er_1 : r_1 = 0 := k_2
  subst er_1
  refine lv_if_ne (tgt := 14) hx hb dX11_walker_5 (by decide) (fun h_4 => absurd (by decide) h_4) (fun _ => ?_)
  refine lv_aload_n hx hb dX11_walker_8 rfl (lv_at hl 0 rfl) ?_
  refine lv_iconst (v := 1) hx hb dX11_walker_9 (by decide) ?_
  refine fI (wr := [(td, .inr (7, [.ref tg, .int 0, .int 0, .int 0, .int 0, .ref t0, .int 0, .ref t1, .ref t2, .ref t3, .ref t4, .int 0, .ref t5, .ref t6, .ref t7]))]) (rV_I (wc := [(h0, .inr (10, [v0, v1, v2, v3, v4, v5, v6, v7, v8, v9, v10, v11, .ref td, v13, v14, v15, v16]))]) (As := [.int 1]) (rest := []) X (tX11_refuse l dC dI cy h0 v0 v1 v2 v3 v4 v5 v6 v7 v8 v9 v10 v11 (.ref td) v13 v14 v15 v16 1) kX11_refuse vX11_refuse mX11_100 hP hD [0] (by decide) rfl 0 (ci := 10) rfl rfl rfl hl rfl rfl (Nat.le_of_ble_eq_true rfl) dX11_walker_10 ⟨Nat.le_of_ble_eq_true rfl, Nat.le_of_ble_eq_true rfl⟩ ⟨Nat.le_of_ble_eq_true rfl, Nat.le_of_ble_eq_true rfl⟩) hP hD hS hA [0] [1] rfl rfl (by decide) (by decide) (fun r_5 u_7 H locs k_6 hP hD hS => ?_)
  have hP : va_P (dC, dI) vwCl [(td, .inr (7, [.ref tg, .int 0, .int 0, .int 0, .int 0, .ref t0, .int 0, .ref t1, .ref t2, .ref t3, .ref t4, .int 0, .ref t5, .ref t6, .ref t7]))] H := hP
  have hD : va_D A [(td, .inr (7, [.ref tg, .int 0, .int 0, .int 0, .int 0, .ref t0, .int 0, .ref t1, .ref t2, .ref t3, .ref t4, .int 0, .ref t5, .ref t6, .ref t7]))] := hD
  have er_5 : r_5 = -1 := k_6
  subst er_5
  exact eI X hr hlocks hP hD hS () [] (by decide) rfl rfl rfl (Nat.le_of_ble_eq_true rfl) (Nat.le_of_ble_eq_true rfl) dX11_walker_13
set_option maxHeartbeats 4000000 in
set_option maxRecDepth 100000 in
theorem tX11_minutes (l : Launch) (dC : Nat → ClassId) (dI : Nat → Nat → Nat) (cy : Nat → ClassId) (h0 : Nat) (v0 : Value) (v1 : Value) (v2 : Value) (v3 : Value) (v4 : Value) (v5 : Value) (v6 : Value) (v7 : Value) (v8 : Value) (v9 : Value) (v10 : Value) (v11 : Value) (td : Nat) (v13 : Value) (v14 : Value) (v15 : Value) (v16 : Value) (tg : Nat) (t0 : Nat) (t1 : Nat) (t2 : Nat) (t3 : Nat) (t4 : Nat) (t5 : Nat) (t6 : Nat) (t7 : Nat) (p1 : Int32) (p2 : Int32) (p3 : Int32) : ctI l dC dI cy yX11_minutes cX11_minutes 4 .int ({ frames := 1, cells := 0, slots := 0, locals := 21 }) [.ref h0, .int p1, .int p2, .int p3] [(h0, .inr (10, [v0, v1, v2, v3, v4, v5, v6, v7, v8, v9, v10, v11, .ref td, v13, v14, v15, v16])), (td, .inr (7, [.ref tg, .int 0, .int 0, .int 0, .int 0, .ref t0, .int 0, .ref t1, .ref t2, .ref t3, .ref t4, .int 0, .ref t5, .ref t6, .ref t7]))] (S := Unit) (fun r _ => r = -1) (fun _ => []) := by
  refine ctI.of (by decide +kernel) (Nat.le_of_ble_eq_true rfl) ?_
  intro p e s m args below meth c A ls X hr hlocks hin hA hP hD hS hl
  have hx := X.1
  have hb := X.2.1
  have hK := X.2.2.2.2.2.1
  have hl : lv_has ls 4 [(0, .ref h0), (1, .int p1), (2, .int p2), (3, .int p3)] := hl
  refine lv_aload_n hx hb dX11_minutes_0 rfl (lv_at hl 0 rfl) ?_
  refine lv_iload_n hx hb dX11_minutes_1 rfl (lv_at hl 1 rfl) ?_
  refine fI (wr := []) (rV_I (wc := [(h0, .inr (10, [v0, v1, v2, v3, v4, v5, v6, v7, v8, v9, v10, v11, .ref td, v13, v14, v15, v16])), (td, .inr (7, [.ref tg, .int 0, .int 0, .int 0, .int 0, .ref t0, .int 0, .ref t1, .ref t2, .ref t3, .ref t4, .int 0, .ref t5, .ref t6, .ref t7]))]) (As := [.int p1]) (rest := []) X (tX11_isWalker l dC dI cy h0 v0 v1 v2 v3 v4 v5 v6 v7 v8 v9 v10 v11 td v13 v14 v15 v16 tg t0 t1 t2 t3 t4 t5 t6 t7 p1) kX11_isWalker vX11_isWalker mX11_159 hP hD [0, 1] (by decide) rfl 0 (ci := 10) rfl rfl rfl hl rfl rfl (Nat.le_of_ble_eq_true rfl) dX11_minutes_2 ⟨Nat.le_of_ble_eq_true rfl, Nat.le_of_ble_eq_true rfl⟩ ⟨Nat.le_of_ble_eq_true rfl, Nat.le_of_ble_eq_true rfl⟩) hP hD hS hA [0, 1] [] rfl rfl (by decide) (by decide) (fun r_1 u_3 H locs k_2 hP hD hS => ?_)
  have hP : va_P (dC, dI) vwCl [(h0, .inr (10, [v0, v1, v2, v3, v4, v5, v6, v7, v8, v9, v10, v11, .ref td, v13, v14, v15, v16])), (td, .inr (7, [.ref tg, .int 0, .int 0, .int 0, .int 0, .ref t0, .int 0, .ref t1, .ref t2, .ref t3, .ref t4, .int 0, .ref t5, .ref t6, .ref t7]))] H := hP
  have hD : va_D A [(h0, .inr (10, [v0, v1, v2, v3, v4, v5, v6, v7, v8, v9, v10, v11, .ref td, v13, v14, v15, v16])), (td, .inr (7, [.ref tg, .int 0, .int 0, .int 0, .int 0, .ref t0, .int 0, .ref t1, .ref t2, .ref t3, .ref t4, .int 0, .ref t5, .ref t6, .ref t7]))] := hD
  have er_1 : r_1 = 0 := k_2
  subst er_1
  refine lv_if_eq (tgt := 22) hx hb dX11_minutes_5 (by decide) (fun _ => ?_) (fun h_4 => absurd (by decide) h_4)
  refine lv_aload_n hx hb dX11_minutes_22 rfl (lv_at hl 0 rfl) ?_
  refine lv_iconst (v := 1) hx hb dX11_minutes_23 (by decide) ?_
  refine fI (wr := [(td, .inr (7, [.ref tg, .int 0, .int 0, .int 0, .int 0, .ref t0, .int 0, .ref t1, .ref t2, .ref t3, .ref t4, .int 0, .ref t5, .ref t6, .ref t7]))]) (rV_I (wc := [(h0, .inr (10, [v0, v1, v2, v3, v4, v5, v6, v7, v8, v9, v10, v11, .ref td, v13, v14, v15, v16]))]) (As := [.int 1]) (rest := []) X (tX11_refuse l dC dI cy h0 v0 v1 v2 v3 v4 v5 v6 v7 v8 v9 v10 v11 (.ref td) v13 v14 v15 v16 1) kX11_refuse vX11_refuse mX11_100 hP hD [0] (by decide) rfl 0 (ci := 10) rfl rfl rfl hl rfl rfl (Nat.le_of_ble_eq_true rfl) dX11_minutes_24 ⟨Nat.le_of_ble_eq_true rfl, Nat.le_of_ble_eq_true rfl⟩ ⟨Nat.le_of_ble_eq_true rfl, Nat.le_of_ble_eq_true rfl⟩) hP hD hS hA [0] [1] rfl rfl (by decide) (by decide) (fun r_5 u_7 H locs k_6 hP hD hS => ?_)
  have hP : va_P (dC, dI) vwCl [(td, .inr (7, [.ref tg, .int 0, .int 0, .int 0, .int 0, .ref t0, .int 0, .ref t1, .ref t2, .ref t3, .ref t4, .int 0, .ref t5, .ref t6, .ref t7]))] H := hP
  have hD : va_D A [(td, .inr (7, [.ref tg, .int 0, .int 0, .int 0, .int 0, .ref t0, .int 0, .ref t1, .ref t2, .ref t3, .ref t4, .int 0, .ref t5, .ref t6, .ref t7]))] := hD
  have er_5 : r_5 = -1 := k_6
  subst er_5
  exact eI X hr hlocks hP hD hS () [] (by decide) rfl rfl rfl (Nat.le_of_ble_eq_true rfl) (Nat.le_of_ble_eq_true rfl) dX11_minutes_27
set_option maxHeartbeats 4000000 in
set_option maxRecDepth 100000 in
theorem tX11_falls (l : Launch) (dC : Nat → ClassId) (dI : Nat → Nat → Nat) (cy : Nat → ClassId) (h0 : Nat) (v0 : Value) (v1 : Value) (v2 : Value) (v3 : Value) (v4 : Value) (v5 : Value) (v6 : Value) (v7 : Value) (v8 : Value) (v9 : Value) (v10 : Value) (v11 : Value) (td : Nat) (v13 : Value) (v14 : Value) (v15 : Value) (v16 : Value) (tg : Nat) (t0 : Nat) (t1 : Nat) (t2 : Nat) (t3 : Nat) (t4 : Nat) (t5 : Nat) (t6 : Nat) (t7 : Nat) (p1 : Int32) (p2 : Int32) (p3 : Int32) : ctI l dC dI cy yX11_falls cX11_falls 6 .int ({ frames := 1, cells := 0, slots := 0, locals := 21 }) [.ref h0, .int p1, .int p2, .int p3] [(h0, .inr (10, [v0, v1, v2, v3, v4, v5, v6, v7, v8, v9, v10, v11, .ref td, v13, v14, v15, v16])), (td, .inr (7, [.ref tg, .int 0, .int 0, .int 0, .int 0, .ref t0, .int 0, .ref t1, .ref t2, .ref t3, .ref t4, .int 0, .ref t5, .ref t6, .ref t7]))] (S := Unit) (fun r _ => r = -1) (fun _ => []) := by
  refine ctI.of (by decide +kernel) (Nat.le_of_ble_eq_true rfl) ?_
  intro p e s m args below meth c A ls X hr hlocks hin hA hP hD hS hl
  have hx := X.1
  have hb := X.2.1
  have hK := X.2.2.2.2.2.1
  have hl : lv_has ls 6 [(0, .ref h0), (1, .int p1), (2, .int p2), (3, .int p3)] := hl
  refine lv_aload_n hx hb dX11_falls_0 rfl (lv_at hl 0 rfl) ?_
  refine lv_iload_n hx hb dX11_falls_1 rfl (lv_at hl 1 rfl) ?_
  refine fI (wr := []) (rV_I (wc := [(h0, .inr (10, [v0, v1, v2, v3, v4, v5, v6, v7, v8, v9, v10, v11, .ref td, v13, v14, v15, v16])), (td, .inr (7, [.ref tg, .int 0, .int 0, .int 0, .int 0, .ref t0, .int 0, .ref t1, .ref t2, .ref t3, .ref t4, .int 0, .ref t5, .ref t6, .ref t7]))]) (As := [.int p1]) (rest := []) X (tX11_isWalker l dC dI cy h0 v0 v1 v2 v3 v4 v5 v6 v7 v8 v9 v10 v11 td v13 v14 v15 v16 tg t0 t1 t2 t3 t4 t5 t6 t7 p1) kX11_isWalker vX11_isWalker mX11_159 hP hD [0, 1] (by decide) rfl 0 (ci := 10) rfl rfl rfl hl rfl rfl (Nat.le_of_ble_eq_true rfl) dX11_falls_2 ⟨Nat.le_of_ble_eq_true rfl, Nat.le_of_ble_eq_true rfl⟩ ⟨Nat.le_of_ble_eq_true rfl, Nat.le_of_ble_eq_true rfl⟩) hP hD hS hA [0, 1] [] rfl rfl (by decide) (by decide) (fun r_1 u_3 H locs k_2 hP hD hS => ?_)
  have hP : va_P (dC, dI) vwCl [(h0, .inr (10, [v0, v1, v2, v3, v4, v5, v6, v7, v8, v9, v10, v11, .ref td, v13, v14, v15, v16])), (td, .inr (7, [.ref tg, .int 0, .int 0, .int 0, .int 0, .ref t0, .int 0, .ref t1, .ref t2, .ref t3, .ref t4, .int 0, .ref t5, .ref t6, .ref t7]))] H := hP
  have hD : va_D A [(h0, .inr (10, [v0, v1, v2, v3, v4, v5, v6, v7, v8, v9, v10, v11, .ref td, v13, v14, v15, v16])), (td, .inr (7, [.ref tg, .int 0, .int 0, .int 0, .int 0, .ref t0, .int 0, .ref t1, .ref t2, .ref t3, .ref t4, .int 0, .ref t5, .ref t6, .ref t7]))] := hD
  have er_1 : r_1 = 0 := k_2
  subst er_1
  refine lv_if_eq (tgt := 22) hx hb dX11_falls_5 (by decide) (fun _ => ?_) (fun h_4 => absurd (by decide) h_4)
  refine lv_aload_n hx hb dX11_falls_22 rfl (lv_at hl 0 rfl) ?_
  refine lv_iconst (v := 1) hx hb dX11_falls_23 (by decide) ?_
  refine fI (wr := [(td, .inr (7, [.ref tg, .int 0, .int 0, .int 0, .int 0, .ref t0, .int 0, .ref t1, .ref t2, .ref t3, .ref t4, .int 0, .ref t5, .ref t6, .ref t7]))]) (rV_I (wc := [(h0, .inr (10, [v0, v1, v2, v3, v4, v5, v6, v7, v8, v9, v10, v11, .ref td, v13, v14, v15, v16]))]) (As := [.int 1]) (rest := []) X (tX11_refuse l dC dI cy h0 v0 v1 v2 v3 v4 v5 v6 v7 v8 v9 v10 v11 (.ref td) v13 v14 v15 v16 1) kX11_refuse vX11_refuse mX11_100 hP hD [0] (by decide) rfl 0 (ci := 10) rfl rfl rfl hl rfl rfl (Nat.le_of_ble_eq_true rfl) dX11_falls_24 ⟨Nat.le_of_ble_eq_true rfl, Nat.le_of_ble_eq_true rfl⟩ ⟨Nat.le_of_ble_eq_true rfl, Nat.le_of_ble_eq_true rfl⟩) hP hD hS hA [0] [1] rfl rfl (by decide) (by decide) (fun r_5 u_7 H locs k_6 hP hD hS => ?_)
  have hP : va_P (dC, dI) vwCl [(td, .inr (7, [.ref tg, .int 0, .int 0, .int 0, .int 0, .ref t0, .int 0, .ref t1, .ref t2, .ref t3, .ref t4, .int 0, .ref t5, .ref t6, .ref t7]))] H := hP
  have hD : va_D A [(td, .inr (7, [.ref tg, .int 0, .int 0, .int 0, .int 0, .ref t0, .int 0, .ref t1, .ref t2, .ref t3, .ref t4, .int 0, .ref t5, .ref t6, .ref t7]))] := hD
  have er_5 : r_5 = -1 := k_6
  subst er_5
  exact eI X hr hlocks hP hD hS () [] (by decide) rfl rfl rfl (Nat.le_of_ble_eq_true rfl) (Nat.le_of_ble_eq_true rfl) dX11_falls_27
set_option maxHeartbeats 4000000 in
set_option maxRecDepth 100000 in
theorem tX11_quick (l : Launch) (dC : Nat → ClassId) (dI : Nat → Nat → Nat) (cy : Nat → ClassId) (h0 : Nat) (v0 : Value) (v1 : Value) (v2 : Value) (v3 : Value) (v4 : Value) (v5 : Value) (v6 : Value) (v7 : Value) (v8 : Value) (v9 : Value) (v10 : Value) (v11 : Value) (td : Nat) (v13 : Value) (v14 : Value) (v15 : Value) (v16 : Value) (tg : Nat) (t0 : Nat) (t1 : Nat) (t2 : Nat) (t3 : Nat) (t4 : Nat) (t5 : Nat) (t6 : Nat) (t7 : Nat) (p1 : Int32) : ctI l dC dI cy yX11_quick cX11_quick 2 .int ({ frames := 1, cells := 0, slots := 0, locals := 21 }) [.ref h0, .int p1] [(h0, .inr (10, [v0, v1, v2, v3, v4, v5, v6, v7, v8, v9, v10, v11, .ref td, v13, v14, v15, v16])), (td, .inr (7, [.ref tg, .int 0, .int 0, .int 0, .int 0, .ref t0, .int 0, .ref t1, .ref t2, .ref t3, .ref t4, .int 0, .ref t5, .ref t6, .ref t7]))] (S := Unit) (fun r _ => r = -1) (fun _ => []) := by
  refine ctI.of (by decide +kernel) (Nat.le_of_ble_eq_true rfl) ?_
  intro p e s m args below meth c A ls X hr hlocks hin hA hP hD hS hl
  have hx := X.1
  have hb := X.2.1
  have hK := X.2.2.2.2.2.1
  have hl : lv_has ls 2 [(0, .ref h0), (1, .int p1)] := hl
  refine lv_aload_n hx hb dX11_quick_0 rfl (lv_at hl 0 rfl) ?_
  refine lv_iload_n hx hb dX11_quick_1 rfl (lv_at hl 1 rfl) ?_
  refine fI (wr := []) (rV_I (wc := [(h0, .inr (10, [v0, v1, v2, v3, v4, v5, v6, v7, v8, v9, v10, v11, .ref td, v13, v14, v15, v16])), (td, .inr (7, [.ref tg, .int 0, .int 0, .int 0, .int 0, .ref t0, .int 0, .ref t1, .ref t2, .ref t3, .ref t4, .int 0, .ref t5, .ref t6, .ref t7]))]) (As := [.int p1]) (rest := []) X (tX11_isWalker l dC dI cy h0 v0 v1 v2 v3 v4 v5 v6 v7 v8 v9 v10 v11 td v13 v14 v15 v16 tg t0 t1 t2 t3 t4 t5 t6 t7 p1) kX11_isWalker vX11_isWalker mX11_159 hP hD [0, 1] (by decide) rfl 0 (ci := 10) rfl rfl rfl hl rfl rfl (Nat.le_of_ble_eq_true rfl) dX11_quick_2 ⟨Nat.le_of_ble_eq_true rfl, Nat.le_of_ble_eq_true rfl⟩ ⟨Nat.le_of_ble_eq_true rfl, Nat.le_of_ble_eq_true rfl⟩) hP hD hS hA [0, 1] [] rfl rfl (by decide) (by decide) (fun r_1 u_3 H locs k_2 hP hD hS => ?_)
  have hP : va_P (dC, dI) vwCl [(h0, .inr (10, [v0, v1, v2, v3, v4, v5, v6, v7, v8, v9, v10, v11, .ref td, v13, v14, v15, v16])), (td, .inr (7, [.ref tg, .int 0, .int 0, .int 0, .int 0, .ref t0, .int 0, .ref t1, .ref t2, .ref t3, .ref t4, .int 0, .ref t5, .ref t6, .ref t7]))] H := hP
  have hD : va_D A [(h0, .inr (10, [v0, v1, v2, v3, v4, v5, v6, v7, v8, v9, v10, v11, .ref td, v13, v14, v15, v16])), (td, .inr (7, [.ref tg, .int 0, .int 0, .int 0, .int 0, .ref t0, .int 0, .ref t1, .ref t2, .ref t3, .ref t4, .int 0, .ref t5, .ref t6, .ref t7]))] := hD
  have er_1 : r_1 = 0 := k_2
  subst er_1
  refine lv_if_ne (tgt := 14) hx hb dX11_quick_5 (by decide) (fun h_4 => absurd (by decide) h_4) (fun _ => ?_)
  refine lv_aload_n hx hb dX11_quick_8 rfl (lv_at hl 0 rfl) ?_
  refine lv_iconst (v := 1) hx hb dX11_quick_9 (by decide) ?_
  refine fI (wr := [(td, .inr (7, [.ref tg, .int 0, .int 0, .int 0, .int 0, .ref t0, .int 0, .ref t1, .ref t2, .ref t3, .ref t4, .int 0, .ref t5, .ref t6, .ref t7]))]) (rV_I (wc := [(h0, .inr (10, [v0, v1, v2, v3, v4, v5, v6, v7, v8, v9, v10, v11, .ref td, v13, v14, v15, v16]))]) (As := [.int 1]) (rest := []) X (tX11_refuse l dC dI cy h0 v0 v1 v2 v3 v4 v5 v6 v7 v8 v9 v10 v11 (.ref td) v13 v14 v15 v16 1) kX11_refuse vX11_refuse mX11_100 hP hD [0] (by decide) rfl 0 (ci := 10) rfl rfl rfl hl rfl rfl (Nat.le_of_ble_eq_true rfl) dX11_quick_10 ⟨Nat.le_of_ble_eq_true rfl, Nat.le_of_ble_eq_true rfl⟩ ⟨Nat.le_of_ble_eq_true rfl, Nat.le_of_ble_eq_true rfl⟩) hP hD hS hA [0] [1] rfl rfl (by decide) (by decide) (fun r_5 u_7 H locs k_6 hP hD hS => ?_)
  have hP : va_P (dC, dI) vwCl [(td, .inr (7, [.ref tg, .int 0, .int 0, .int 0, .int 0, .ref t0, .int 0, .ref t1, .ref t2, .ref t3, .ref t4, .int 0, .ref t5, .ref t6, .ref t7]))] H := hP
  have hD : va_D A [(td, .inr (7, [.ref tg, .int 0, .int 0, .int 0, .int 0, .ref t0, .int 0, .ref t1, .ref t2, .ref t3, .ref t4, .int 0, .ref t5, .ref t6, .ref t7]))] := hD
  have er_5 : r_5 = -1 := k_6
  subst er_5
  exact eI X hr hlocks hP hD hS () [] (by decide) rfl rfl rfl (Nat.le_of_ble_eq_true rfl) (Nat.le_of_ble_eq_true rfl) dX11_quick_13
set_option maxHeartbeats 4000000 in
set_option maxRecDepth 100000 in
theorem tX11_quickFalls (l : Launch) (dC : Nat → ClassId) (dI : Nat → Nat → Nat) (cy : Nat → ClassId) (h0 : Nat) (v0 : Value) (v1 : Value) (v2 : Value) (v3 : Value) (v4 : Value) (v5 : Value) (v6 : Value) (v7 : Value) (v8 : Value) (v9 : Value) (v10 : Value) (v11 : Value) (td : Nat) (v13 : Value) (v14 : Value) (v15 : Value) (v16 : Value) (tg : Nat) (t0 : Nat) (t1 : Nat) (t2 : Nat) (t3 : Nat) (t4 : Nat) (t5 : Nat) (t6 : Nat) (t7 : Nat) (p1 : Int32) : ctI l dC dI cy yX11_quickFalls cX11_quickFalls 2 .int ({ frames := 1, cells := 0, slots := 0, locals := 21 }) [.ref h0, .int p1] [(h0, .inr (10, [v0, v1, v2, v3, v4, v5, v6, v7, v8, v9, v10, v11, .ref td, v13, v14, v15, v16])), (td, .inr (7, [.ref tg, .int 0, .int 0, .int 0, .int 0, .ref t0, .int 0, .ref t1, .ref t2, .ref t3, .ref t4, .int 0, .ref t5, .ref t6, .ref t7]))] (S := Unit) (fun r _ => r = -1) (fun _ => []) := by
  refine ctI.of (by decide +kernel) (Nat.le_of_ble_eq_true rfl) ?_
  intro p e s m args below meth c A ls X hr hlocks hin hA hP hD hS hl
  have hx := X.1
  have hb := X.2.1
  have hK := X.2.2.2.2.2.1
  have hl : lv_has ls 2 [(0, .ref h0), (1, .int p1)] := hl
  refine lv_aload_n hx hb dX11_quickFalls_0 rfl (lv_at hl 0 rfl) ?_
  refine lv_iload_n hx hb dX11_quickFalls_1 rfl (lv_at hl 1 rfl) ?_
  refine fI (wr := []) (rV_I (wc := [(h0, .inr (10, [v0, v1, v2, v3, v4, v5, v6, v7, v8, v9, v10, v11, .ref td, v13, v14, v15, v16])), (td, .inr (7, [.ref tg, .int 0, .int 0, .int 0, .int 0, .ref t0, .int 0, .ref t1, .ref t2, .ref t3, .ref t4, .int 0, .ref t5, .ref t6, .ref t7]))]) (As := [.int p1]) (rest := []) X (tX11_isWalker l dC dI cy h0 v0 v1 v2 v3 v4 v5 v6 v7 v8 v9 v10 v11 td v13 v14 v15 v16 tg t0 t1 t2 t3 t4 t5 t6 t7 p1) kX11_isWalker vX11_isWalker mX11_159 hP hD [0, 1] (by decide) rfl 0 (ci := 10) rfl rfl rfl hl rfl rfl (Nat.le_of_ble_eq_true rfl) dX11_quickFalls_2 ⟨Nat.le_of_ble_eq_true rfl, Nat.le_of_ble_eq_true rfl⟩ ⟨Nat.le_of_ble_eq_true rfl, Nat.le_of_ble_eq_true rfl⟩) hP hD hS hA [0, 1] [] rfl rfl (by decide) (by decide) (fun r_1 u_3 H locs k_2 hP hD hS => ?_)
  have hP : va_P (dC, dI) vwCl [(h0, .inr (10, [v0, v1, v2, v3, v4, v5, v6, v7, v8, v9, v10, v11, .ref td, v13, v14, v15, v16])), (td, .inr (7, [.ref tg, .int 0, .int 0, .int 0, .int 0, .ref t0, .int 0, .ref t1, .ref t2, .ref t3, .ref t4, .int 0, .ref t5, .ref t6, .ref t7]))] H := hP
  have hD : va_D A [(h0, .inr (10, [v0, v1, v2, v3, v4, v5, v6, v7, v8, v9, v10, v11, .ref td, v13, v14, v15, v16])), (td, .inr (7, [.ref tg, .int 0, .int 0, .int 0, .int 0, .ref t0, .int 0, .ref t1, .ref t2, .ref t3, .ref t4, .int 0, .ref t5, .ref t6, .ref t7]))] := hD
  have er_1 : r_1 = 0 := k_2
  subst er_1
  refine lv_if_ne (tgt := 14) hx hb dX11_quickFalls_5 (by decide) (fun h_4 => absurd (by decide) h_4) (fun _ => ?_)
  refine lv_aload_n hx hb dX11_quickFalls_8 rfl (lv_at hl 0 rfl) ?_
  refine lv_iconst (v := 1) hx hb dX11_quickFalls_9 (by decide) ?_
  refine fI (wr := [(td, .inr (7, [.ref tg, .int 0, .int 0, .int 0, .int 0, .ref t0, .int 0, .ref t1, .ref t2, .ref t3, .ref t4, .int 0, .ref t5, .ref t6, .ref t7]))]) (rV_I (wc := [(h0, .inr (10, [v0, v1, v2, v3, v4, v5, v6, v7, v8, v9, v10, v11, .ref td, v13, v14, v15, v16]))]) (As := [.int 1]) (rest := []) X (tX11_refuse l dC dI cy h0 v0 v1 v2 v3 v4 v5 v6 v7 v8 v9 v10 v11 (.ref td) v13 v14 v15 v16 1) kX11_refuse vX11_refuse mX11_100 hP hD [0] (by decide) rfl 0 (ci := 10) rfl rfl rfl hl rfl rfl (Nat.le_of_ble_eq_true rfl) dX11_quickFalls_10 ⟨Nat.le_of_ble_eq_true rfl, Nat.le_of_ble_eq_true rfl⟩ ⟨Nat.le_of_ble_eq_true rfl, Nat.le_of_ble_eq_true rfl⟩) hP hD hS hA [0] [1] rfl rfl (by decide) (by decide) (fun r_5 u_7 H locs k_6 hP hD hS => ?_)
  have hP : va_P (dC, dI) vwCl [(td, .inr (7, [.ref tg, .int 0, .int 0, .int 0, .int 0, .ref t0, .int 0, .ref t1, .ref t2, .ref t3, .ref t4, .int 0, .ref t5, .ref t6, .ref t7]))] H := hP
  have hD : va_D A [(td, .inr (7, [.ref tg, .int 0, .int 0, .int 0, .int 0, .ref t0, .int 0, .ref t1, .ref t2, .ref t3, .ref t4, .int 0, .ref t5, .ref t6, .ref t7]))] := hD
  have er_5 : r_5 = -1 := k_6
  subst er_5
  exact eI X hr hlocks hP hD hS () [] (by decide) rfl rfl rfl (Nat.le_of_ble_eq_true rfl) (Nat.le_of_ble_eq_true rfl) dX11_quickFalls_13
set_option maxHeartbeats 4000000 in
set_option maxRecDepth 100000 in
theorem tX11_quickAt (l : Launch) (dC : Nat → ClassId) (dI : Nat → Nat → Nat) (cy : Nat → ClassId) (h0 : Nat) (v0 : Value) (v1 : Value) (v2 : Value) (v3 : Value) (v4 : Value) (v5 : Value) (v6 : Value) (v7 : Value) (v8 : Value) (v9 : Value) (v10 : Value) (v11 : Value) (td : Nat) (v13 : Value) (v14 : Value) (v15 : Value) (v16 : Value) (tg : Nat) (t0 : Nat) (t1 : Nat) (t2 : Nat) (t3 : Nat) (t4 : Nat) (t5 : Nat) (t6 : Nat) (t7 : Nat) (p1 : Int32) (p2 : Int32) : ctI l dC dI cy yX11_quickAt cX11_quickAt 3 .int ({ frames := 1, cells := 0, slots := 0, locals := 21 }) [.ref h0, .int p1, .int p2] [(h0, .inr (10, [v0, v1, v2, v3, v4, v5, v6, v7, v8, v9, v10, v11, .ref td, v13, v14, v15, v16])), (td, .inr (7, [.ref tg, .int 0, .int 0, .int 0, .int 0, .ref t0, .int 0, .ref t1, .ref t2, .ref t3, .ref t4, .int 0, .ref t5, .ref t6, .ref t7]))] (S := Unit) (fun r _ => r = -1) (fun _ => []) := by
  refine ctI.of (by decide +kernel) (Nat.le_of_ble_eq_true rfl) ?_
  intro p e s m args below meth c A ls X hr hlocks hin hA hP hD hS hl
  have hx := X.1
  have hb := X.2.1
  have hK := X.2.2.2.2.2.1
  have hl : lv_has ls 3 [(0, .ref h0), (1, .int p1), (2, .int p2)] := hl
  refine lv_aload_n hx hb dX11_quickAt_0 rfl (lv_at hl 0 rfl) ?_
  refine lv_iload_n hx hb dX11_quickAt_1 rfl (lv_at hl 1 rfl) ?_
  refine fI (wr := []) (rV_I (wc := [(h0, .inr (10, [v0, v1, v2, v3, v4, v5, v6, v7, v8, v9, v10, v11, .ref td, v13, v14, v15, v16])), (td, .inr (7, [.ref tg, .int 0, .int 0, .int 0, .int 0, .ref t0, .int 0, .ref t1, .ref t2, .ref t3, .ref t4, .int 0, .ref t5, .ref t6, .ref t7]))]) (As := [.int p1]) (rest := []) X (tX11_isWalker l dC dI cy h0 v0 v1 v2 v3 v4 v5 v6 v7 v8 v9 v10 v11 td v13 v14 v15 v16 tg t0 t1 t2 t3 t4 t5 t6 t7 p1) kX11_isWalker vX11_isWalker mX11_159 hP hD [0, 1] (by decide) rfl 0 (ci := 10) rfl rfl rfl hl rfl rfl (Nat.le_of_ble_eq_true rfl) dX11_quickAt_2 ⟨Nat.le_of_ble_eq_true rfl, Nat.le_of_ble_eq_true rfl⟩ ⟨Nat.le_of_ble_eq_true rfl, Nat.le_of_ble_eq_true rfl⟩) hP hD hS hA [0, 1] [] rfl rfl (by decide) (by decide) (fun r_1 u_3 H locs k_2 hP hD hS => ?_)
  have hP : va_P (dC, dI) vwCl [(h0, .inr (10, [v0, v1, v2, v3, v4, v5, v6, v7, v8, v9, v10, v11, .ref td, v13, v14, v15, v16])), (td, .inr (7, [.ref tg, .int 0, .int 0, .int 0, .int 0, .ref t0, .int 0, .ref t1, .ref t2, .ref t3, .ref t4, .int 0, .ref t5, .ref t6, .ref t7]))] H := hP
  have hD : va_D A [(h0, .inr (10, [v0, v1, v2, v3, v4, v5, v6, v7, v8, v9, v10, v11, .ref td, v13, v14, v15, v16])), (td, .inr (7, [.ref tg, .int 0, .int 0, .int 0, .int 0, .ref t0, .int 0, .ref t1, .ref t2, .ref t3, .ref t4, .int 0, .ref t5, .ref t6, .ref t7]))] := hD
  have er_1 : r_1 = 0 := k_2
  subst er_1
  refine lv_if_eq (tgt := 31) hx hb dX11_quickAt_5 (by decide) (fun _ => ?_) (fun h_4 => absurd (by decide) h_4)
  refine lv_aload_n hx hb dX11_quickAt_31 rfl (lv_at hl 0 rfl) ?_
  refine lv_iconst (v := 1) hx hb dX11_quickAt_32 (by decide) ?_
  refine fI (wr := [(td, .inr (7, [.ref tg, .int 0, .int 0, .int 0, .int 0, .ref t0, .int 0, .ref t1, .ref t2, .ref t3, .ref t4, .int 0, .ref t5, .ref t6, .ref t7]))]) (rV_I (wc := [(h0, .inr (10, [v0, v1, v2, v3, v4, v5, v6, v7, v8, v9, v10, v11, .ref td, v13, v14, v15, v16]))]) (As := [.int 1]) (rest := []) X (tX11_refuse l dC dI cy h0 v0 v1 v2 v3 v4 v5 v6 v7 v8 v9 v10 v11 (.ref td) v13 v14 v15 v16 1) kX11_refuse vX11_refuse mX11_100 hP hD [0] (by decide) rfl 0 (ci := 10) rfl rfl rfl hl rfl rfl (Nat.le_of_ble_eq_true rfl) dX11_quickAt_33 ⟨Nat.le_of_ble_eq_true rfl, Nat.le_of_ble_eq_true rfl⟩ ⟨Nat.le_of_ble_eq_true rfl, Nat.le_of_ble_eq_true rfl⟩) hP hD hS hA [0] [1] rfl rfl (by decide) (by decide) (fun r_5 u_7 H locs k_6 hP hD hS => ?_)
  have hP : va_P (dC, dI) vwCl [(td, .inr (7, [.ref tg, .int 0, .int 0, .int 0, .int 0, .ref t0, .int 0, .ref t1, .ref t2, .ref t3, .ref t4, .int 0, .ref t5, .ref t6, .ref t7]))] H := hP
  have hD : va_D A [(td, .inr (7, [.ref tg, .int 0, .int 0, .int 0, .int 0, .ref t0, .int 0, .ref t1, .ref t2, .ref t3, .ref t4, .int 0, .ref t5, .ref t6, .ref t7]))] := hD
  have er_5 : r_5 = -1 := k_6
  subst er_5
  exact eI X hr hlocks hP hD hS () [] (by decide) rfl rfl rfl (Nat.le_of_ble_eq_true rfl) (Nat.le_of_ble_eq_true rfl) dX11_quickAt_36
set_option maxHeartbeats 4000000 in
set_option maxRecDepth 100000 in
theorem tX11_dry (l : Launch) (dC : Nat → ClassId) (dI : Nat → Nat → Nat) (cy : Nat → ClassId) (h0 : Nat) (v0 : Value) (v1 : Value) (v2 : Value) (v3 : Value) (v4 : Value) (v5 : Value) (v6 : Value) (v7 : Value) (v8 : Value) (v9 : Value) (v10 : Value) (v11 : Value) (td : Nat) (v13 : Value) (v14 : Value) (v15 : Value) (v16 : Value) (tg : Nat) (t0 : Nat) (t1 : Nat) (t2 : Nat) (t3 : Nat) (t4 : Nat) (t5 : Nat) (t6 : Nat) (t7 : Nat) (p1 : Int32) : ctI l dC dI cy yX11_dry cX11_dry 2 .int ({ frames := 1, cells := 0, slots := 0, locals := 21 }) [.ref h0, .int p1] [(h0, .inr (10, [v0, v1, v2, v3, v4, v5, v6, v7, v8, v9, v10, v11, .ref td, v13, v14, v15, v16])), (td, .inr (7, [.ref tg, .int 0, .int 0, .int 0, .int 0, .ref t0, .int 0, .ref t1, .ref t2, .ref t3, .ref t4, .int 0, .ref t5, .ref t6, .ref t7]))] (S := Unit) (fun r _ => r = -1) (fun _ => []) := by
  refine ctI.of (by decide +kernel) (Nat.le_of_ble_eq_true rfl) ?_
  intro p e s m args below meth c A ls X hr hlocks hin hA hP hD hS hl
  have hx := X.1
  have hb := X.2.1
  have hK := X.2.2.2.2.2.1
  have hl : lv_has ls 2 [(0, .ref h0), (1, .int p1)] := hl
  refine lv_aload_n hx hb dX11_dry_0 rfl (lv_at hl 0 rfl) ?_
  refine lv_iload_n hx hb dX11_dry_1 rfl (lv_at hl 1 rfl) ?_
  refine fI (wr := []) (rV_I (wc := [(h0, .inr (10, [v0, v1, v2, v3, v4, v5, v6, v7, v8, v9, v10, v11, .ref td, v13, v14, v15, v16])), (td, .inr (7, [.ref tg, .int 0, .int 0, .int 0, .int 0, .ref t0, .int 0, .ref t1, .ref t2, .ref t3, .ref t4, .int 0, .ref t5, .ref t6, .ref t7]))]) (As := [.int p1]) (rest := []) X (tX11_isWalker l dC dI cy h0 v0 v1 v2 v3 v4 v5 v6 v7 v8 v9 v10 v11 td v13 v14 v15 v16 tg t0 t1 t2 t3 t4 t5 t6 t7 p1) kX11_isWalker vX11_isWalker mX11_159 hP hD [0, 1] (by decide) rfl 0 (ci := 10) rfl rfl rfl hl rfl rfl (Nat.le_of_ble_eq_true rfl) dX11_dry_2 ⟨Nat.le_of_ble_eq_true rfl, Nat.le_of_ble_eq_true rfl⟩ ⟨Nat.le_of_ble_eq_true rfl, Nat.le_of_ble_eq_true rfl⟩) hP hD hS hA [0, 1] [] rfl rfl (by decide) (by decide) (fun r_1 u_3 H locs k_2 hP hD hS => ?_)
  have hP : va_P (dC, dI) vwCl [(h0, .inr (10, [v0, v1, v2, v3, v4, v5, v6, v7, v8, v9, v10, v11, .ref td, v13, v14, v15, v16])), (td, .inr (7, [.ref tg, .int 0, .int 0, .int 0, .int 0, .ref t0, .int 0, .ref t1, .ref t2, .ref t3, .ref t4, .int 0, .ref t5, .ref t6, .ref t7]))] H := hP
  have hD : va_D A [(h0, .inr (10, [v0, v1, v2, v3, v4, v5, v6, v7, v8, v9, v10, v11, .ref td, v13, v14, v15, v16])), (td, .inr (7, [.ref tg, .int 0, .int 0, .int 0, .int 0, .ref t0, .int 0, .ref t1, .ref t2, .ref t3, .ref t4, .int 0, .ref t5, .ref t6, .ref t7]))] := hD
  have er_1 : r_1 = 0 := k_2
  subst er_1
  refine lv_if_ne (tgt := 14) hx hb dX11_dry_5 (by decide) (fun h_4 => absurd (by decide) h_4) (fun _ => ?_)
  refine lv_aload_n hx hb dX11_dry_8 rfl (lv_at hl 0 rfl) ?_
  refine lv_iconst (v := 1) hx hb dX11_dry_9 (by decide) ?_
  refine fI (wr := [(td, .inr (7, [.ref tg, .int 0, .int 0, .int 0, .int 0, .ref t0, .int 0, .ref t1, .ref t2, .ref t3, .ref t4, .int 0, .ref t5, .ref t6, .ref t7]))]) (rV_I (wc := [(h0, .inr (10, [v0, v1, v2, v3, v4, v5, v6, v7, v8, v9, v10, v11, .ref td, v13, v14, v15, v16]))]) (As := [.int 1]) (rest := []) X (tX11_refuse l dC dI cy h0 v0 v1 v2 v3 v4 v5 v6 v7 v8 v9 v10 v11 (.ref td) v13 v14 v15 v16 1) kX11_refuse vX11_refuse mX11_100 hP hD [0] (by decide) rfl 0 (ci := 10) rfl rfl rfl hl rfl rfl (Nat.le_of_ble_eq_true rfl) dX11_dry_10 ⟨Nat.le_of_ble_eq_true rfl, Nat.le_of_ble_eq_true rfl⟩ ⟨Nat.le_of_ble_eq_true rfl, Nat.le_of_ble_eq_true rfl⟩) hP hD hS hA [0] [1] rfl rfl (by decide) (by decide) (fun r_5 u_7 H locs k_6 hP hD hS => ?_)
  have hP : va_P (dC, dI) vwCl [(td, .inr (7, [.ref tg, .int 0, .int 0, .int 0, .int 0, .ref t0, .int 0, .ref t1, .ref t2, .ref t3, .ref t4, .int 0, .ref t5, .ref t6, .ref t7]))] H := hP
  have hD : va_D A [(td, .inr (7, [.ref tg, .int 0, .int 0, .int 0, .int 0, .ref t0, .int 0, .ref t1, .ref t2, .ref t3, .ref t4, .int 0, .ref t5, .ref t6, .ref t7]))] := hD
  have er_5 : r_5 = -1 := k_6
  subst er_5
  exact eI X hr hlocks hP hD hS () [] (by decide) rfl rfl rfl (Nat.le_of_ble_eq_true rfl) (Nat.le_of_ble_eq_true rfl) dX11_dry_13
set_option maxHeartbeats 4000000 in
set_option maxRecDepth 100000 in
theorem tX11_dryMinutes (l : Launch) (dC : Nat → ClassId) (dI : Nat → Nat → Nat) (cy : Nat → ClassId) (h0 : Nat) (v0 : Value) (v1 : Value) (v2 : Value) (v3 : Value) (v4 : Value) (v5 : Value) (v6 : Value) (v7 : Value) (v8 : Value) (v9 : Value) (v10 : Value) (v11 : Value) (td : Nat) (v13 : Value) (v14 : Value) (v15 : Value) (v16 : Value) (tg : Nat) (t0 : Nat) (t1 : Nat) (t2 : Nat) (t3 : Nat) (t4 : Nat) (t5 : Nat) (t6 : Nat) (t7 : Nat) (p1 : Int32) : ctI l dC dI cy yX11_dryMinutes cX11_dryMinutes 2 .int ({ frames := 1, cells := 0, slots := 0, locals := 21 }) [.ref h0, .int p1] [(h0, .inr (10, [v0, v1, v2, v3, v4, v5, v6, v7, v8, v9, v10, v11, .ref td, v13, v14, v15, v16])), (td, .inr (7, [.ref tg, .int 0, .int 0, .int 0, .int 0, .ref t0, .int 0, .ref t1, .ref t2, .ref t3, .ref t4, .int 0, .ref t5, .ref t6, .ref t7]))] (S := Unit) (fun r _ => r = -1) (fun _ => []) := by
  refine ctI.of (by decide +kernel) (Nat.le_of_ble_eq_true rfl) ?_
  intro p e s m args below meth c A ls X hr hlocks hin hA hP hD hS hl
  have hx := X.1
  have hb := X.2.1
  have hK := X.2.2.2.2.2.1
  have hl : lv_has ls 2 [(0, .ref h0), (1, .int p1)] := hl
  refine lv_aload_n hx hb dX11_dryMinutes_0 rfl (lv_at hl 0 rfl) ?_
  refine lv_iload_n hx hb dX11_dryMinutes_1 rfl (lv_at hl 1 rfl) ?_
  refine fI (wr := []) (rV_I (wc := [(h0, .inr (10, [v0, v1, v2, v3, v4, v5, v6, v7, v8, v9, v10, v11, .ref td, v13, v14, v15, v16])), (td, .inr (7, [.ref tg, .int 0, .int 0, .int 0, .int 0, .ref t0, .int 0, .ref t1, .ref t2, .ref t3, .ref t4, .int 0, .ref t5, .ref t6, .ref t7]))]) (As := [.int p1]) (rest := []) X (tX11_isWalker l dC dI cy h0 v0 v1 v2 v3 v4 v5 v6 v7 v8 v9 v10 v11 td v13 v14 v15 v16 tg t0 t1 t2 t3 t4 t5 t6 t7 p1) kX11_isWalker vX11_isWalker mX11_159 hP hD [0, 1] (by decide) rfl 0 (ci := 10) rfl rfl rfl hl rfl rfl (Nat.le_of_ble_eq_true rfl) dX11_dryMinutes_2 ⟨Nat.le_of_ble_eq_true rfl, Nat.le_of_ble_eq_true rfl⟩ ⟨Nat.le_of_ble_eq_true rfl, Nat.le_of_ble_eq_true rfl⟩) hP hD hS hA [0, 1] [] rfl rfl (by decide) (by decide) (fun r_1 u_3 H locs k_2 hP hD hS => ?_)
  have hP : va_P (dC, dI) vwCl [(h0, .inr (10, [v0, v1, v2, v3, v4, v5, v6, v7, v8, v9, v10, v11, .ref td, v13, v14, v15, v16])), (td, .inr (7, [.ref tg, .int 0, .int 0, .int 0, .int 0, .ref t0, .int 0, .ref t1, .ref t2, .ref t3, .ref t4, .int 0, .ref t5, .ref t6, .ref t7]))] H := hP
  have hD : va_D A [(h0, .inr (10, [v0, v1, v2, v3, v4, v5, v6, v7, v8, v9, v10, v11, .ref td, v13, v14, v15, v16])), (td, .inr (7, [.ref tg, .int 0, .int 0, .int 0, .int 0, .ref t0, .int 0, .ref t1, .ref t2, .ref t3, .ref t4, .int 0, .ref t5, .ref t6, .ref t7]))] := hD
  have er_1 : r_1 = 0 := k_2
  subst er_1
  refine lv_if_ne (tgt := 14) hx hb dX11_dryMinutes_5 (by decide) (fun h_4 => absurd (by decide) h_4) (fun _ => ?_)
  refine lv_aload_n hx hb dX11_dryMinutes_8 rfl (lv_at hl 0 rfl) ?_
  refine lv_iconst (v := 1) hx hb dX11_dryMinutes_9 (by decide) ?_
  refine fI (wr := [(td, .inr (7, [.ref tg, .int 0, .int 0, .int 0, .int 0, .ref t0, .int 0, .ref t1, .ref t2, .ref t3, .ref t4, .int 0, .ref t5, .ref t6, .ref t7]))]) (rV_I (wc := [(h0, .inr (10, [v0, v1, v2, v3, v4, v5, v6, v7, v8, v9, v10, v11, .ref td, v13, v14, v15, v16]))]) (As := [.int 1]) (rest := []) X (tX11_refuse l dC dI cy h0 v0 v1 v2 v3 v4 v5 v6 v7 v8 v9 v10 v11 (.ref td) v13 v14 v15 v16 1) kX11_refuse vX11_refuse mX11_100 hP hD [0] (by decide) rfl 0 (ci := 10) rfl rfl rfl hl rfl rfl (Nat.le_of_ble_eq_true rfl) dX11_dryMinutes_10 ⟨Nat.le_of_ble_eq_true rfl, Nat.le_of_ble_eq_true rfl⟩ ⟨Nat.le_of_ble_eq_true rfl, Nat.le_of_ble_eq_true rfl⟩) hP hD hS hA [0] [1] rfl rfl (by decide) (by decide) (fun r_5 u_7 H locs k_6 hP hD hS => ?_)
  have hP : va_P (dC, dI) vwCl [(td, .inr (7, [.ref tg, .int 0, .int 0, .int 0, .int 0, .ref t0, .int 0, .ref t1, .ref t2, .ref t3, .ref t4, .int 0, .ref t5, .ref t6, .ref t7]))] H := hP
  have hD : va_D A [(td, .inr (7, [.ref tg, .int 0, .int 0, .int 0, .int 0, .ref t0, .int 0, .ref t1, .ref t2, .ref t3, .ref t4, .int 0, .ref t5, .ref t6, .ref t7]))] := hD
  have er_5 : r_5 = -1 := k_6
  subst er_5
  exact eI X hr hlocks hP hD hS () [] (by decide) rfl rfl rfl (Nat.le_of_ble_eq_true rfl) (Nat.le_of_ble_eq_true rfl) dX11_dryMinutes_13
set_option maxHeartbeats 4000000 in
set_option maxRecDepth 100000 in
theorem tX11_dryAt (l : Launch) (dC : Nat → ClassId) (dI : Nat → Nat → Nat) (cy : Nat → ClassId) (h0 : Nat) (v0 : Value) (v1 : Value) (v2 : Value) (v3 : Value) (v4 : Value) (v5 : Value) (v6 : Value) (v7 : Value) (v8 : Value) (v9 : Value) (v10 : Value) (v11 : Value) (td : Nat) (v13 : Value) (v14 : Value) (v15 : Value) (v16 : Value) (tg : Nat) (t0 : Nat) (t1 : Nat) (t2 : Nat) (t3 : Nat) (t4 : Nat) (t5 : Nat) (t6 : Nat) (t7 : Nat) (p1 : Int32) (p2 : Int32) : ctI l dC dI cy yX11_dryAt cX11_dryAt 3 .int ({ frames := 1, cells := 0, slots := 0, locals := 21 }) [.ref h0, .int p1, .int p2] [(h0, .inr (10, [v0, v1, v2, v3, v4, v5, v6, v7, v8, v9, v10, v11, .ref td, v13, v14, v15, v16])), (td, .inr (7, [.ref tg, .int 0, .int 0, .int 0, .int 0, .ref t0, .int 0, .ref t1, .ref t2, .ref t3, .ref t4, .int 0, .ref t5, .ref t6, .ref t7]))] (S := Unit) (fun r _ => r = -1) (fun _ => []) := by
  refine ctI.of (by decide +kernel) (Nat.le_of_ble_eq_true rfl) ?_
  intro p e s m args below meth c A ls X hr hlocks hin hA hP hD hS hl
  have hx := X.1
  have hb := X.2.1
  have hK := X.2.2.2.2.2.1
  have hl : lv_has ls 3 [(0, .ref h0), (1, .int p1), (2, .int p2)] := hl
  refine lv_aload_n hx hb dX11_dryAt_0 rfl (lv_at hl 0 rfl) ?_
  refine lv_iload_n hx hb dX11_dryAt_1 rfl (lv_at hl 1 rfl) ?_
  refine fI (wr := []) (rV_I (wc := [(h0, .inr (10, [v0, v1, v2, v3, v4, v5, v6, v7, v8, v9, v10, v11, .ref td, v13, v14, v15, v16])), (td, .inr (7, [.ref tg, .int 0, .int 0, .int 0, .int 0, .ref t0, .int 0, .ref t1, .ref t2, .ref t3, .ref t4, .int 0, .ref t5, .ref t6, .ref t7]))]) (As := [.int p1]) (rest := []) X (tX11_isWalker l dC dI cy h0 v0 v1 v2 v3 v4 v5 v6 v7 v8 v9 v10 v11 td v13 v14 v15 v16 tg t0 t1 t2 t3 t4 t5 t6 t7 p1) kX11_isWalker vX11_isWalker mX11_159 hP hD [0, 1] (by decide) rfl 0 (ci := 10) rfl rfl rfl hl rfl rfl (Nat.le_of_ble_eq_true rfl) dX11_dryAt_2 ⟨Nat.le_of_ble_eq_true rfl, Nat.le_of_ble_eq_true rfl⟩ ⟨Nat.le_of_ble_eq_true rfl, Nat.le_of_ble_eq_true rfl⟩) hP hD hS hA [0, 1] [] rfl rfl (by decide) (by decide) (fun r_1 u_3 H locs k_2 hP hD hS => ?_)
  have hP : va_P (dC, dI) vwCl [(h0, .inr (10, [v0, v1, v2, v3, v4, v5, v6, v7, v8, v9, v10, v11, .ref td, v13, v14, v15, v16])), (td, .inr (7, [.ref tg, .int 0, .int 0, .int 0, .int 0, .ref t0, .int 0, .ref t1, .ref t2, .ref t3, .ref t4, .int 0, .ref t5, .ref t6, .ref t7]))] H := hP
  have hD : va_D A [(h0, .inr (10, [v0, v1, v2, v3, v4, v5, v6, v7, v8, v9, v10, v11, .ref td, v13, v14, v15, v16])), (td, .inr (7, [.ref tg, .int 0, .int 0, .int 0, .int 0, .ref t0, .int 0, .ref t1, .ref t2, .ref t3, .ref t4, .int 0, .ref t5, .ref t6, .ref t7]))] := hD
  have er_1 : r_1 = 0 := k_2
  subst er_1
  refine lv_if_eq (tgt := 27) hx hb dX11_dryAt_5 (by decide) (fun _ => ?_) (fun h_4 => absurd (by decide) h_4)
  refine lv_aload_n hx hb dX11_dryAt_27 rfl (lv_at hl 0 rfl) ?_
  refine lv_iconst (v := 1) hx hb dX11_dryAt_28 (by decide) ?_
  refine fI (wr := [(td, .inr (7, [.ref tg, .int 0, .int 0, .int 0, .int 0, .ref t0, .int 0, .ref t1, .ref t2, .ref t3, .ref t4, .int 0, .ref t5, .ref t6, .ref t7]))]) (rV_I (wc := [(h0, .inr (10, [v0, v1, v2, v3, v4, v5, v6, v7, v8, v9, v10, v11, .ref td, v13, v14, v15, v16]))]) (As := [.int 1]) (rest := []) X (tX11_refuse l dC dI cy h0 v0 v1 v2 v3 v4 v5 v6 v7 v8 v9 v10 v11 (.ref td) v13 v14 v15 v16 1) kX11_refuse vX11_refuse mX11_100 hP hD [0] (by decide) rfl 0 (ci := 10) rfl rfl rfl hl rfl rfl (Nat.le_of_ble_eq_true rfl) dX11_dryAt_29 ⟨Nat.le_of_ble_eq_true rfl, Nat.le_of_ble_eq_true rfl⟩ ⟨Nat.le_of_ble_eq_true rfl, Nat.le_of_ble_eq_true rfl⟩) hP hD hS hA [0] [1] rfl rfl (by decide) (by decide) (fun r_5 u_7 H locs k_6 hP hD hS => ?_)
  have hP : va_P (dC, dI) vwCl [(td, .inr (7, [.ref tg, .int 0, .int 0, .int 0, .int 0, .ref t0, .int 0, .ref t1, .ref t2, .ref t3, .ref t4, .int 0, .ref t5, .ref t6, .ref t7]))] H := hP
  have hD : va_D A [(td, .inr (7, [.ref tg, .int 0, .int 0, .int 0, .int 0, .ref t0, .int 0, .ref t1, .ref t2, .ref t3, .ref t4, .int 0, .ref t5, .ref t6, .ref t7]))] := hD
  have er_5 : r_5 = -1 := k_6
  subst er_5
  exact eI X hr hlocks hP hD hS () [] (by decide) rfl rfl rfl (Nat.le_of_ble_eq_true rfl) (Nat.le_of_ble_eq_true rfl) dX11_dryAt_32
set_option maxHeartbeats 4000000 in
set_option maxRecDepth 100000 in
theorem tX11_reach (l : Launch) (dC : Nat → ClassId) (dI : Nat → Nat → Nat) (cy : Nat → ClassId) (h0 : Nat) (v0 : Value) (v1 : Value) (v2 : Value) (v3 : Value) (v4 : Value) (v5 : Value) (v6 : Value) (v7 : Value) (v8 : Value) (v9 : Value) (v10 : Value) (v11 : Value) (td : Nat) (v13 : Value) (v14 : Value) (v15 : Value) (v16 : Value) (tg : Nat) (t0 : Nat) (t1 : Nat) (t2 : Nat) (t3 : Nat) (t4 : Nat) (t5 : Nat) (t6 : Nat) (t7 : Nat) (p1 : Int32) : ctI l dC dI cy yX11_reach cX11_reach 2 .int ({ frames := 1, cells := 0, slots := 0, locals := 21 }) [.ref h0, .int p1] [(h0, .inr (10, [v0, v1, v2, v3, v4, v5, v6, v7, v8, v9, v10, v11, .ref td, v13, v14, v15, v16])), (td, .inr (7, [.ref tg, .int 0, .int 0, .int 0, .int 0, .ref t0, .int 0, .ref t1, .ref t2, .ref t3, .ref t4, .int 0, .ref t5, .ref t6, .ref t7]))] (S := Unit) (fun r _ => r = -1) (fun _ => []) := by
  refine ctI.of (by decide +kernel) (Nat.le_of_ble_eq_true rfl) ?_
  intro p e s m args below meth c A ls X hr hlocks hin hA hP hD hS hl
  have hx := X.1
  have hb := X.2.1
  have hK := X.2.2.2.2.2.1
  have hl : lv_has ls 2 [(0, .ref h0), (1, .int p1)] := hl
  refine lv_aload_n hx hb dX11_reach_0 rfl (lv_at hl 0 rfl) ?_
  refine lv_iload_n hx hb dX11_reach_1 rfl (lv_at hl 1 rfl) ?_
  refine fI (wr := []) (rV_I (wc := [(h0, .inr (10, [v0, v1, v2, v3, v4, v5, v6, v7, v8, v9, v10, v11, .ref td, v13, v14, v15, v16])), (td, .inr (7, [.ref tg, .int 0, .int 0, .int 0, .int 0, .ref t0, .int 0, .ref t1, .ref t2, .ref t3, .ref t4, .int 0, .ref t5, .ref t6, .ref t7]))]) (As := [.int p1]) (rest := []) X (tX11_isWalker l dC dI cy h0 v0 v1 v2 v3 v4 v5 v6 v7 v8 v9 v10 v11 td v13 v14 v15 v16 tg t0 t1 t2 t3 t4 t5 t6 t7 p1) kX11_isWalker vX11_isWalker mX11_159 hP hD [0, 1] (by decide) rfl 0 (ci := 10) rfl rfl rfl hl rfl rfl (Nat.le_of_ble_eq_true rfl) dX11_reach_2 ⟨Nat.le_of_ble_eq_true rfl, Nat.le_of_ble_eq_true rfl⟩ ⟨Nat.le_of_ble_eq_true rfl, Nat.le_of_ble_eq_true rfl⟩) hP hD hS hA [0, 1] [] rfl rfl (by decide) (by decide) (fun r_1 u_3 H locs k_2 hP hD hS => ?_)
  have hP : va_P (dC, dI) vwCl [(h0, .inr (10, [v0, v1, v2, v3, v4, v5, v6, v7, v8, v9, v10, v11, .ref td, v13, v14, v15, v16])), (td, .inr (7, [.ref tg, .int 0, .int 0, .int 0, .int 0, .ref t0, .int 0, .ref t1, .ref t2, .ref t3, .ref t4, .int 0, .ref t5, .ref t6, .ref t7]))] H := hP
  have hD : va_D A [(h0, .inr (10, [v0, v1, v2, v3, v4, v5, v6, v7, v8, v9, v10, v11, .ref td, v13, v14, v15, v16])), (td, .inr (7, [.ref tg, .int 0, .int 0, .int 0, .int 0, .ref t0, .int 0, .ref t1, .ref t2, .ref t3, .ref t4, .int 0, .ref t5, .ref t6, .ref t7]))] := hD
  have er_1 : r_1 = 0 := k_2
  subst er_1
  refine lv_if_ne (tgt := 14) hx hb dX11_reach_5 (by decide) (fun h_4 => absurd (by decide) h_4) (fun _ => ?_)
  refine lv_aload_n hx hb dX11_reach_8 rfl (lv_at hl 0 rfl) ?_
  refine lv_iconst (v := 1) hx hb dX11_reach_9 (by decide) ?_
  refine fI (wr := [(td, .inr (7, [.ref tg, .int 0, .int 0, .int 0, .int 0, .ref t0, .int 0, .ref t1, .ref t2, .ref t3, .ref t4, .int 0, .ref t5, .ref t6, .ref t7]))]) (rV_I (wc := [(h0, .inr (10, [v0, v1, v2, v3, v4, v5, v6, v7, v8, v9, v10, v11, .ref td, v13, v14, v15, v16]))]) (As := [.int 1]) (rest := []) X (tX11_refuse l dC dI cy h0 v0 v1 v2 v3 v4 v5 v6 v7 v8 v9 v10 v11 (.ref td) v13 v14 v15 v16 1) kX11_refuse vX11_refuse mX11_100 hP hD [0] (by decide) rfl 0 (ci := 10) rfl rfl rfl hl rfl rfl (Nat.le_of_ble_eq_true rfl) dX11_reach_10 ⟨Nat.le_of_ble_eq_true rfl, Nat.le_of_ble_eq_true rfl⟩ ⟨Nat.le_of_ble_eq_true rfl, Nat.le_of_ble_eq_true rfl⟩) hP hD hS hA [0] [1] rfl rfl (by decide) (by decide) (fun r_5 u_7 H locs k_6 hP hD hS => ?_)
  have hP : va_P (dC, dI) vwCl [(td, .inr (7, [.ref tg, .int 0, .int 0, .int 0, .int 0, .ref t0, .int 0, .ref t1, .ref t2, .ref t3, .ref t4, .int 0, .ref t5, .ref t6, .ref t7]))] H := hP
  have hD : va_D A [(td, .inr (7, [.ref tg, .int 0, .int 0, .int 0, .int 0, .ref t0, .int 0, .ref t1, .ref t2, .ref t3, .ref t4, .int 0, .ref t5, .ref t6, .ref t7]))] := hD
  have er_5 : r_5 = -1 := k_6
  subst er_5
  exact eI X hr hlocks hP hD hS () [] (by decide) rfl rfl rfl (Nat.le_of_ble_eq_true rfl) (Nat.le_of_ble_eq_true rfl) dX11_reach_13
set_option maxHeartbeats 4000000 in
set_option maxRecDepth 100000 in
theorem tX11_reachIn (l : Launch) (dC : Nat → ClassId) (dI : Nat → Nat → Nat) (cy : Nat → ClassId) (h0 : Nat) (v0 : Value) (v1 : Value) (v2 : Value) (v3 : Value) (v4 : Value) (v5 : Value) (v6 : Value) (v7 : Value) (v8 : Value) (v9 : Value) (v10 : Value) (v11 : Value) (td : Nat) (v13 : Value) (v14 : Value) (v15 : Value) (v16 : Value) (tg : Nat) (t0 : Nat) (t1 : Nat) (t2 : Nat) (t3 : Nat) (t4 : Nat) (t5 : Nat) (t6 : Nat) (t7 : Nat) (p1 : Int32) (p2 : Int32) : ctI l dC dI cy yX11_reachIn cX11_reachIn 6 .int ({ frames := 1, cells := 0, slots := 0, locals := 21 }) [.ref h0, .int p1, .int p2] [(h0, .inr (10, [v0, v1, v2, v3, v4, v5, v6, v7, v8, v9, v10, v11, .ref td, v13, v14, v15, v16])), (td, .inr (7, [.ref tg, .int 0, .int 0, .int 0, .int 0, .ref t0, .int 0, .ref t1, .ref t2, .ref t3, .ref t4, .int 0, .ref t5, .ref t6, .ref t7]))] (S := Unit) (fun r _ => r = -1) (fun _ => []) := by
  refine ctI.of (by decide +kernel) (Nat.le_of_ble_eq_true rfl) ?_
  intro p e s m args below meth c A ls X hr hlocks hin hA hP hD hS hl
  have hx := X.1
  have hb := X.2.1
  have hK := X.2.2.2.2.2.1
  have hl : lv_has ls 6 [(0, .ref h0), (1, .int p1), (2, .int p2)] := hl
  refine lv_aload_n hx hb dX11_reachIn_0 rfl (lv_at hl 0 rfl) ?_
  refine lv_iload_n hx hb dX11_reachIn_1 rfl (lv_at hl 1 rfl) ?_
  refine fI (wr := []) (rV_I (wc := [(h0, .inr (10, [v0, v1, v2, v3, v4, v5, v6, v7, v8, v9, v10, v11, .ref td, v13, v14, v15, v16])), (td, .inr (7, [.ref tg, .int 0, .int 0, .int 0, .int 0, .ref t0, .int 0, .ref t1, .ref t2, .ref t3, .ref t4, .int 0, .ref t5, .ref t6, .ref t7]))]) (As := [.int p1]) (rest := []) X (tX11_isWalker l dC dI cy h0 v0 v1 v2 v3 v4 v5 v6 v7 v8 v9 v10 v11 td v13 v14 v15 v16 tg t0 t1 t2 t3 t4 t5 t6 t7 p1) kX11_isWalker vX11_isWalker mX11_159 hP hD [0, 1] (by decide) rfl 0 (ci := 10) rfl rfl rfl hl rfl rfl (Nat.le_of_ble_eq_true rfl) dX11_reachIn_2 ⟨Nat.le_of_ble_eq_true rfl, Nat.le_of_ble_eq_true rfl⟩ ⟨Nat.le_of_ble_eq_true rfl, Nat.le_of_ble_eq_true rfl⟩) hP hD hS hA [0, 1] [] rfl rfl (by decide) (by decide) (fun r_1 u_3 H locs k_2 hP hD hS => ?_)
  have hP : va_P (dC, dI) vwCl [(h0, .inr (10, [v0, v1, v2, v3, v4, v5, v6, v7, v8, v9, v10, v11, .ref td, v13, v14, v15, v16])), (td, .inr (7, [.ref tg, .int 0, .int 0, .int 0, .int 0, .ref t0, .int 0, .ref t1, .ref t2, .ref t3, .ref t4, .int 0, .ref t5, .ref t6, .ref t7]))] H := hP
  have hD : va_D A [(h0, .inr (10, [v0, v1, v2, v3, v4, v5, v6, v7, v8, v9, v10, v11, .ref td, v13, v14, v15, v16])), (td, .inr (7, [.ref tg, .int 0, .int 0, .int 0, .int 0, .ref t0, .int 0, .ref t1, .ref t2, .ref t3, .ref t4, .int 0, .ref t5, .ref t6, .ref t7]))] := hD
  have er_1 : r_1 = 0 := k_2
  subst er_1
  refine lv_if_ne (tgt := 14) hx hb dX11_reachIn_5 (by decide) (fun h_4 => absurd (by decide) h_4) (fun _ => ?_)
  refine lv_aload_n hx hb dX11_reachIn_8 rfl (lv_at hl 0 rfl) ?_
  refine lv_iconst (v := 1) hx hb dX11_reachIn_9 (by decide) ?_
  refine fI (wr := [(td, .inr (7, [.ref tg, .int 0, .int 0, .int 0, .int 0, .ref t0, .int 0, .ref t1, .ref t2, .ref t3, .ref t4, .int 0, .ref t5, .ref t6, .ref t7]))]) (rV_I (wc := [(h0, .inr (10, [v0, v1, v2, v3, v4, v5, v6, v7, v8, v9, v10, v11, .ref td, v13, v14, v15, v16]))]) (As := [.int 1]) (rest := []) X (tX11_refuse l dC dI cy h0 v0 v1 v2 v3 v4 v5 v6 v7 v8 v9 v10 v11 (.ref td) v13 v14 v15 v16 1) kX11_refuse vX11_refuse mX11_100 hP hD [0] (by decide) rfl 0 (ci := 10) rfl rfl rfl hl rfl rfl (Nat.le_of_ble_eq_true rfl) dX11_reachIn_10 ⟨Nat.le_of_ble_eq_true rfl, Nat.le_of_ble_eq_true rfl⟩ ⟨Nat.le_of_ble_eq_true rfl, Nat.le_of_ble_eq_true rfl⟩) hP hD hS hA [0] [1] rfl rfl (by decide) (by decide) (fun r_5 u_7 H locs k_6 hP hD hS => ?_)
  have hP : va_P (dC, dI) vwCl [(td, .inr (7, [.ref tg, .int 0, .int 0, .int 0, .int 0, .ref t0, .int 0, .ref t1, .ref t2, .ref t3, .ref t4, .int 0, .ref t5, .ref t6, .ref t7]))] H := hP
  have hD : va_D A [(td, .inr (7, [.ref tg, .int 0, .int 0, .int 0, .int 0, .ref t0, .int 0, .ref t1, .ref t2, .ref t3, .ref t4, .int 0, .ref t5, .ref t6, .ref t7]))] := hD
  have er_5 : r_5 = -1 := k_6
  subst er_5
  exact eI X hr hlocks hP hD hS () [] (by decide) rfl rfl rfl (Nat.le_of_ble_eq_true rfl) (Nat.le_of_ble_eq_true rfl) dX11_reachIn_13
set_option maxHeartbeats 4000000 in
set_option maxRecDepth 100000 in
theorem tX11_minutesTo (l : Launch) (dC : Nat → ClassId) (dI : Nat → Nat → Nat) (cy : Nat → ClassId) (h0 : Nat) (v0 : Value) (v1 : Value) (v2 : Value) (v3 : Value) (v4 : Value) (v5 : Value) (v6 : Value) (v7 : Value) (v8 : Value) (v9 : Value) (v10 : Value) (v11 : Value) (td : Nat) (v13 : Value) (v14 : Value) (v15 : Value) (v16 : Value) (tg : Nat) (t0 : Nat) (t1 : Nat) (t2 : Nat) (t3 : Nat) (t4 : Nat) (t5 : Nat) (t6 : Nat) (t7 : Nat) (p1 : Int32) (p2 : Int32) : ctI l dC dI cy yX11_minutesTo cX11_minutesTo 3 .int ({ frames := 1, cells := 0, slots := 0, locals := 21 }) [.ref h0, .int p1, .int p2] [(h0, .inr (10, [v0, v1, v2, v3, v4, v5, v6, v7, v8, v9, v10, v11, .ref td, v13, v14, v15, v16])), (td, .inr (7, [.ref tg, .int 0, .int 0, .int 0, .int 0, .ref t0, .int 0, .ref t1, .ref t2, .ref t3, .ref t4, .int 0, .ref t5, .ref t6, .ref t7]))] (S := Unit) (fun r _ => r = -1) (fun _ => []) := by
  refine ctI.of (by decide +kernel) (Nat.le_of_ble_eq_true rfl) ?_
  intro p e s m args below meth c A ls X hr hlocks hin hA hP hD hS hl
  have hx := X.1
  have hb := X.2.1
  have hK := X.2.2.2.2.2.1
  have hl : lv_has ls 3 [(0, .ref h0), (1, .int p1), (2, .int p2)] := hl
  refine lv_aload_n hx hb dX11_minutesTo_0 rfl (lv_at hl 0 rfl) ?_
  refine lv_iload_n hx hb dX11_minutesTo_1 rfl (lv_at hl 1 rfl) ?_
  refine fI (wr := []) (rV_I (wc := [(h0, .inr (10, [v0, v1, v2, v3, v4, v5, v6, v7, v8, v9, v10, v11, .ref td, v13, v14, v15, v16])), (td, .inr (7, [.ref tg, .int 0, .int 0, .int 0, .int 0, .ref t0, .int 0, .ref t1, .ref t2, .ref t3, .ref t4, .int 0, .ref t5, .ref t6, .ref t7]))]) (As := [.int p1]) (rest := []) X (tX11_isWalker l dC dI cy h0 v0 v1 v2 v3 v4 v5 v6 v7 v8 v9 v10 v11 td v13 v14 v15 v16 tg t0 t1 t2 t3 t4 t5 t6 t7 p1) kX11_isWalker vX11_isWalker mX11_159 hP hD [0, 1] (by decide) rfl 0 (ci := 10) rfl rfl rfl hl rfl rfl (Nat.le_of_ble_eq_true rfl) dX11_minutesTo_2 ⟨Nat.le_of_ble_eq_true rfl, Nat.le_of_ble_eq_true rfl⟩ ⟨Nat.le_of_ble_eq_true rfl, Nat.le_of_ble_eq_true rfl⟩) hP hD hS hA [0, 1] [] rfl rfl (by decide) (by decide) (fun r_1 u_3 H locs k_2 hP hD hS => ?_)
  have hP : va_P (dC, dI) vwCl [(h0, .inr (10, [v0, v1, v2, v3, v4, v5, v6, v7, v8, v9, v10, v11, .ref td, v13, v14, v15, v16])), (td, .inr (7, [.ref tg, .int 0, .int 0, .int 0, .int 0, .ref t0, .int 0, .ref t1, .ref t2, .ref t3, .ref t4, .int 0, .ref t5, .ref t6, .ref t7]))] H := hP
  have hD : va_D A [(h0, .inr (10, [v0, v1, v2, v3, v4, v5, v6, v7, v8, v9, v10, v11, .ref td, v13, v14, v15, v16])), (td, .inr (7, [.ref tg, .int 0, .int 0, .int 0, .int 0, .ref t0, .int 0, .ref t1, .ref t2, .ref t3, .ref t4, .int 0, .ref t5, .ref t6, .ref t7]))] := hD
  have er_1 : r_1 = 0 := k_2
  subst er_1
  refine lv_if_eq (tgt := 22) hx hb dX11_minutesTo_5 (by decide) (fun _ => ?_) (fun h_4 => absurd (by decide) h_4)
  refine lv_aload_n hx hb dX11_minutesTo_22 rfl (lv_at hl 0 rfl) ?_
  refine lv_iconst (v := 1) hx hb dX11_minutesTo_23 (by decide) ?_
  refine fI (wr := [(td, .inr (7, [.ref tg, .int 0, .int 0, .int 0, .int 0, .ref t0, .int 0, .ref t1, .ref t2, .ref t3, .ref t4, .int 0, .ref t5, .ref t6, .ref t7]))]) (rV_I (wc := [(h0, .inr (10, [v0, v1, v2, v3, v4, v5, v6, v7, v8, v9, v10, v11, .ref td, v13, v14, v15, v16]))]) (As := [.int 1]) (rest := []) X (tX11_refuse l dC dI cy h0 v0 v1 v2 v3 v4 v5 v6 v7 v8 v9 v10 v11 (.ref td) v13 v14 v15 v16 1) kX11_refuse vX11_refuse mX11_100 hP hD [0] (by decide) rfl 0 (ci := 10) rfl rfl rfl hl rfl rfl (Nat.le_of_ble_eq_true rfl) dX11_minutesTo_24 ⟨Nat.le_of_ble_eq_true rfl, Nat.le_of_ble_eq_true rfl⟩ ⟨Nat.le_of_ble_eq_true rfl, Nat.le_of_ble_eq_true rfl⟩) hP hD hS hA [0] [1] rfl rfl (by decide) (by decide) (fun r_5 u_7 H locs k_6 hP hD hS => ?_)
  have hP : va_P (dC, dI) vwCl [(td, .inr (7, [.ref tg, .int 0, .int 0, .int 0, .int 0, .ref t0, .int 0, .ref t1, .ref t2, .ref t3, .ref t4, .int 0, .ref t5, .ref t6, .ref t7]))] H := hP
  have hD : va_D A [(td, .inr (7, [.ref tg, .int 0, .int 0, .int 0, .int 0, .ref t0, .int 0, .ref t1, .ref t2, .ref t3, .ref t4, .int 0, .ref t5, .ref t6, .ref t7]))] := hD
  have er_5 : r_5 = -1 := k_6
  subst er_5
  exact eI X hr hlocks hP hD hS () [] (by decide) rfl rfl rfl (Nat.le_of_ble_eq_true rfl) (Nat.le_of_ble_eq_true rfl) dX11_minutesTo_27
set_option maxHeartbeats 4000000 in
set_option maxRecDepth 100000 in
theorem tX11_cut (l : Launch) (dC : Nat → ClassId) (dI : Nat → Nat → Nat) (cy : Nat → ClassId) (h0 : Nat) (v0 : Value) (v1 : Value) (v2 : Value) (v3 : Value) (v4 : Value) (v5 : Value) (v6 : Value) (v7 : Value) (v8 : Value) (v9 : Value) (v10 : Value) (v11 : Value) (td : Nat) (v13 : Value) (v14 : Value) (v15 : Value) (v16 : Value) (tg : Nat) (t0 : Nat) (t1 : Nat) (t2 : Nat) (t3 : Nat) (t4 : Nat) (t5 : Nat) (t6 : Nat) (t7 : Nat) (p1 : Int32) : ctI l dC dI cy yX11_cut cX11_cut 4 .int ({ frames := 1, cells := 0, slots := 0, locals := 21 }) [.ref h0, .int p1] [(h0, .inr (10, [v0, v1, v2, v3, v4, v5, v6, v7, v8, v9, v10, v11, .ref td, v13, v14, v15, v16])), (td, .inr (7, [.ref tg, .int 0, .int 0, .int 0, .int 0, .ref t0, .int 0, .ref t1, .ref t2, .ref t3, .ref t4, .int 0, .ref t5, .ref t6, .ref t7]))] (S := Unit) (fun r _ => r = -1) (fun _ => []) := by
  refine ctI.of (by decide +kernel) (Nat.le_of_ble_eq_true rfl) ?_
  intro p e s m args below meth c A ls X hr hlocks hin hA hP hD hS hl
  have hx := X.1
  have hb := X.2.1
  have hK := X.2.2.2.2.2.1
  have hl : lv_has ls 4 [(0, .ref h0), (1, .int p1)] := hl
  refine lv_aload_n hx hb dX11_cut_0 rfl (lv_at hl 0 rfl) ?_
  refine lv_iload_n hx hb dX11_cut_1 rfl (lv_at hl 1 rfl) ?_
  refine fI (wr := []) (rV_I (wc := [(h0, .inr (10, [v0, v1, v2, v3, v4, v5, v6, v7, v8, v9, v10, v11, .ref td, v13, v14, v15, v16])), (td, .inr (7, [.ref tg, .int 0, .int 0, .int 0, .int 0, .ref t0, .int 0, .ref t1, .ref t2, .ref t3, .ref t4, .int 0, .ref t5, .ref t6, .ref t7]))]) (As := [.int p1]) (rest := []) X (tX11_isWalker l dC dI cy h0 v0 v1 v2 v3 v4 v5 v6 v7 v8 v9 v10 v11 td v13 v14 v15 v16 tg t0 t1 t2 t3 t4 t5 t6 t7 p1) kX11_isWalker vX11_isWalker mX11_159 hP hD [0, 1] (by decide) rfl 0 (ci := 10) rfl rfl rfl hl rfl rfl (Nat.le_of_ble_eq_true rfl) dX11_cut_2 ⟨Nat.le_of_ble_eq_true rfl, Nat.le_of_ble_eq_true rfl⟩ ⟨Nat.le_of_ble_eq_true rfl, Nat.le_of_ble_eq_true rfl⟩) hP hD hS hA [0, 1] [] rfl rfl (by decide) (by decide) (fun r_1 u_3 H locs k_2 hP hD hS => ?_)
  have hP : va_P (dC, dI) vwCl [(h0, .inr (10, [v0, v1, v2, v3, v4, v5, v6, v7, v8, v9, v10, v11, .ref td, v13, v14, v15, v16])), (td, .inr (7, [.ref tg, .int 0, .int 0, .int 0, .int 0, .ref t0, .int 0, .ref t1, .ref t2, .ref t3, .ref t4, .int 0, .ref t5, .ref t6, .ref t7]))] H := hP
  have hD : va_D A [(h0, .inr (10, [v0, v1, v2, v3, v4, v5, v6, v7, v8, v9, v10, v11, .ref td, v13, v14, v15, v16])), (td, .inr (7, [.ref tg, .int 0, .int 0, .int 0, .int 0, .ref t0, .int 0, .ref t1, .ref t2, .ref t3, .ref t4, .int 0, .ref t5, .ref t6, .ref t7]))] := hD
  have er_1 : r_1 = 0 := k_2
  subst er_1
  refine lv_if_ne (tgt := 14) hx hb dX11_cut_5 (by decide) (fun h_4 => absurd (by decide) h_4) (fun _ => ?_)
  refine lv_aload_n hx hb dX11_cut_8 rfl (lv_at hl 0 rfl) ?_
  refine lv_iconst (v := 1) hx hb dX11_cut_9 (by decide) ?_
  refine fI (wr := [(td, .inr (7, [.ref tg, .int 0, .int 0, .int 0, .int 0, .ref t0, .int 0, .ref t1, .ref t2, .ref t3, .ref t4, .int 0, .ref t5, .ref t6, .ref t7]))]) (rV_I (wc := [(h0, .inr (10, [v0, v1, v2, v3, v4, v5, v6, v7, v8, v9, v10, v11, .ref td, v13, v14, v15, v16]))]) (As := [.int 1]) (rest := []) X (tX11_refuse l dC dI cy h0 v0 v1 v2 v3 v4 v5 v6 v7 v8 v9 v10 v11 (.ref td) v13 v14 v15 v16 1) kX11_refuse vX11_refuse mX11_100 hP hD [0] (by decide) rfl 0 (ci := 10) rfl rfl rfl hl rfl rfl (Nat.le_of_ble_eq_true rfl) dX11_cut_10 ⟨Nat.le_of_ble_eq_true rfl, Nat.le_of_ble_eq_true rfl⟩ ⟨Nat.le_of_ble_eq_true rfl, Nat.le_of_ble_eq_true rfl⟩) hP hD hS hA [0] [1] rfl rfl (by decide) (by decide) (fun r_5 u_7 H locs k_6 hP hD hS => ?_)
  have hP : va_P (dC, dI) vwCl [(td, .inr (7, [.ref tg, .int 0, .int 0, .int 0, .int 0, .ref t0, .int 0, .ref t1, .ref t2, .ref t3, .ref t4, .int 0, .ref t5, .ref t6, .ref t7]))] H := hP
  have hD : va_D A [(td, .inr (7, [.ref tg, .int 0, .int 0, .int 0, .int 0, .ref t0, .int 0, .ref t1, .ref t2, .ref t3, .ref t4, .int 0, .ref t5, .ref t6, .ref t7]))] := hD
  have er_5 : r_5 = -1 := k_6
  subst er_5
  exact eI X hr hlocks hP hD hS () [] (by decide) rfl rfl rfl (Nat.le_of_ble_eq_true rfl) (Nat.le_of_ble_eq_true rfl) dX11_cut_13
set_option maxHeartbeats 4000000 in
set_option maxRecDepth 100000 in
theorem tX11_meet (l : Launch) (dC : Nat → ClassId) (dI : Nat → Nat → Nat) (cy : Nat → ClassId) (h0 : Nat) (v0 : Value) (v1 : Value) (v2 : Value) (v3 : Value) (v4 : Value) (v5 : Value) (v6 : Value) (v7 : Value) (v8 : Value) (v9 : Value) (v10 : Value) (v11 : Value) (td : Nat) (v13 : Value) (v14 : Value) (v15 : Value) (v16 : Value) (tg : Nat) (t0 : Nat) (t1 : Nat) (t2 : Nat) (t3 : Nat) (t4 : Nat) (t5 : Nat) (t6 : Nat) (t7 : Nat) (p1 : Int32) (p2 : Int32) : ctI l dC dI cy yX11_meet cX11_meet 3 .int ({ frames := 1, cells := 0, slots := 0, locals := 21 }) [.ref h0, .int p1, .int p2] [(h0, .inr (10, [v0, v1, v2, v3, v4, v5, v6, v7, v8, v9, v10, v11, .ref td, v13, v14, v15, v16])), (td, .inr (7, [.ref tg, .int 0, .int 0, .int 0, .int 0, .ref t0, .int 0, .ref t1, .ref t2, .ref t3, .ref t4, .int 0, .ref t5, .ref t6, .ref t7]))] (S := Unit) (fun r _ => r = -1) (fun _ => []) := by
  refine ctI.of (by decide +kernel) (Nat.le_of_ble_eq_true rfl) ?_
  intro p e s m args below meth c A ls X hr hlocks hin hA hP hD hS hl
  have hx := X.1
  have hb := X.2.1
  have hK := X.2.2.2.2.2.1
  have hl : lv_has ls 3 [(0, .ref h0), (1, .int p1), (2, .int p2)] := hl
  refine lv_aload_n hx hb dX11_meet_0 rfl (lv_at hl 0 rfl) ?_
  refine lv_iload_n hx hb dX11_meet_1 rfl (lv_at hl 1 rfl) ?_
  refine fI (wr := []) (rV_I (wc := [(h0, .inr (10, [v0, v1, v2, v3, v4, v5, v6, v7, v8, v9, v10, v11, .ref td, v13, v14, v15, v16])), (td, .inr (7, [.ref tg, .int 0, .int 0, .int 0, .int 0, .ref t0, .int 0, .ref t1, .ref t2, .ref t3, .ref t4, .int 0, .ref t5, .ref t6, .ref t7]))]) (As := [.int p1]) (rest := []) X (tX11_isWalker l dC dI cy h0 v0 v1 v2 v3 v4 v5 v6 v7 v8 v9 v10 v11 td v13 v14 v15 v16 tg t0 t1 t2 t3 t4 t5 t6 t7 p1) kX11_isWalker vX11_isWalker mX11_159 hP hD [0, 1] (by decide) rfl 0 (ci := 10) rfl rfl rfl hl rfl rfl (Nat.le_of_ble_eq_true rfl) dX11_meet_2 ⟨Nat.le_of_ble_eq_true rfl, Nat.le_of_ble_eq_true rfl⟩ ⟨Nat.le_of_ble_eq_true rfl, Nat.le_of_ble_eq_true rfl⟩) hP hD hS hA [0, 1] [] rfl rfl (by decide) (by decide) (fun r_1 u_3 H locs k_2 hP hD hS => ?_)
  have hP : va_P (dC, dI) vwCl [(h0, .inr (10, [v0, v1, v2, v3, v4, v5, v6, v7, v8, v9, v10, v11, .ref td, v13, v14, v15, v16])), (td, .inr (7, [.ref tg, .int 0, .int 0, .int 0, .int 0, .ref t0, .int 0, .ref t1, .ref t2, .ref t3, .ref t4, .int 0, .ref t5, .ref t6, .ref t7]))] H := hP
  have hD : va_D A [(h0, .inr (10, [v0, v1, v2, v3, v4, v5, v6, v7, v8, v9, v10, v11, .ref td, v13, v14, v15, v16])), (td, .inr (7, [.ref tg, .int 0, .int 0, .int 0, .int 0, .ref t0, .int 0, .ref t1, .ref t2, .ref t3, .ref t4, .int 0, .ref t5, .ref t6, .ref t7]))] := hD
  have er_1 : r_1 = 0 := k_2
  subst er_1
  refine lv_if_eq (tgt := 21) hx hb dX11_meet_5 (by decide) (fun _ => ?_) (fun h_4 => absurd (by decide) h_4)
  refine lv_aload_n hx hb dX11_meet_21 rfl (lv_at hl 0 rfl) ?_
  refine lv_iconst (v := 1) hx hb dX11_meet_22 (by decide) ?_
  refine fI (wr := [(td, .inr (7, [.ref tg, .int 0, .int 0, .int 0, .int 0, .ref t0, .int 0, .ref t1, .ref t2, .ref t3, .ref t4, .int 0, .ref t5, .ref t6, .ref t7]))]) (rV_I (wc := [(h0, .inr (10, [v0, v1, v2, v3, v4, v5, v6, v7, v8, v9, v10, v11, .ref td, v13, v14, v15, v16]))]) (As := [.int 1]) (rest := []) X (tX11_refuse l dC dI cy h0 v0 v1 v2 v3 v4 v5 v6 v7 v8 v9 v10 v11 (.ref td) v13 v14 v15 v16 1) kX11_refuse vX11_refuse mX11_100 hP hD [0] (by decide) rfl 0 (ci := 10) rfl rfl rfl hl rfl rfl (Nat.le_of_ble_eq_true rfl) dX11_meet_23 ⟨Nat.le_of_ble_eq_true rfl, Nat.le_of_ble_eq_true rfl⟩ ⟨Nat.le_of_ble_eq_true rfl, Nat.le_of_ble_eq_true rfl⟩) hP hD hS hA [0] [1] rfl rfl (by decide) (by decide) (fun r_5 u_7 H locs k_6 hP hD hS => ?_)
  have hP : va_P (dC, dI) vwCl [(td, .inr (7, [.ref tg, .int 0, .int 0, .int 0, .int 0, .ref t0, .int 0, .ref t1, .ref t2, .ref t3, .ref t4, .int 0, .ref t5, .ref t6, .ref t7]))] H := hP
  have hD : va_D A [(td, .inr (7, [.ref tg, .int 0, .int 0, .int 0, .int 0, .ref t0, .int 0, .ref t1, .ref t2, .ref t3, .ref t4, .int 0, .ref t5, .ref t6, .ref t7]))] := hD
  have er_5 : r_5 = -1 := k_6
  subst er_5
  exact eI X hr hlocks hP hD hS () [] (by decide) rfl rfl rfl (Nat.le_of_ble_eq_true rfl) (Nat.le_of_ble_eq_true rfl) dX11_meet_26
set_option maxHeartbeats 4000000 in
set_option maxRecDepth 100000 in
theorem tX11_meetAt (l : Launch) (dC : Nat → ClassId) (dI : Nat → Nat → Nat) (cy : Nat → ClassId) (h0 : Nat) (v0 : Value) (v1 : Value) (v2 : Value) (v3 : Value) (v4 : Value) (v5 : Value) (v6 : Value) (v7 : Value) (v8 : Value) (v9 : Value) (v10 : Value) (v11 : Value) (td : Nat) (v13 : Value) (v14 : Value) (v15 : Value) (v16 : Value) (tg : Nat) (t0 : Nat) (t1 : Nat) (t2 : Nat) (t3 : Nat) (t4 : Nat) (t5 : Nat) (t6 : Nat) (t7 : Nat) (p1 : Int32) (p2 : Int32) : ctI l dC dI cy yX11_meetAt cX11_meetAt 4 .int ({ frames := 1, cells := 0, slots := 0, locals := 21 }) [.ref h0, .int p1, .int p2] [(h0, .inr (10, [v0, v1, v2, v3, v4, v5, v6, v7, v8, v9, v10, v11, .ref td, v13, v14, v15, v16])), (td, .inr (7, [.ref tg, .int 0, .int 0, .int 0, .int 0, .ref t0, .int 0, .ref t1, .ref t2, .ref t3, .ref t4, .int 0, .ref t5, .ref t6, .ref t7]))] (S := Unit) (fun r _ => r = -1) (fun _ => []) := by
  refine ctI.of (by decide +kernel) (Nat.le_of_ble_eq_true rfl) ?_
  intro p e s m args below meth c A ls X hr hlocks hin hA hP hD hS hl
  have hx := X.1
  have hb := X.2.1
  have hK := X.2.2.2.2.2.1
  have hl : lv_has ls 4 [(0, .ref h0), (1, .int p1), (2, .int p2)] := hl
  refine lv_aload_n hx hb dX11_meetAt_0 rfl (lv_at hl 0 rfl) ?_
  refine lv_iload_n hx hb dX11_meetAt_1 rfl (lv_at hl 1 rfl) ?_
  refine fI (wr := []) (rV_I (wc := [(h0, .inr (10, [v0, v1, v2, v3, v4, v5, v6, v7, v8, v9, v10, v11, .ref td, v13, v14, v15, v16])), (td, .inr (7, [.ref tg, .int 0, .int 0, .int 0, .int 0, .ref t0, .int 0, .ref t1, .ref t2, .ref t3, .ref t4, .int 0, .ref t5, .ref t6, .ref t7]))]) (As := [.int p1]) (rest := []) X (tX11_isWalker l dC dI cy h0 v0 v1 v2 v3 v4 v5 v6 v7 v8 v9 v10 v11 td v13 v14 v15 v16 tg t0 t1 t2 t3 t4 t5 t6 t7 p1) kX11_isWalker vX11_isWalker mX11_159 hP hD [0, 1] (by decide) rfl 0 (ci := 10) rfl rfl rfl hl rfl rfl (Nat.le_of_ble_eq_true rfl) dX11_meetAt_2 ⟨Nat.le_of_ble_eq_true rfl, Nat.le_of_ble_eq_true rfl⟩ ⟨Nat.le_of_ble_eq_true rfl, Nat.le_of_ble_eq_true rfl⟩) hP hD hS hA [0, 1] [] rfl rfl (by decide) (by decide) (fun r_1 u_3 H locs k_2 hP hD hS => ?_)
  have hP : va_P (dC, dI) vwCl [(h0, .inr (10, [v0, v1, v2, v3, v4, v5, v6, v7, v8, v9, v10, v11, .ref td, v13, v14, v15, v16])), (td, .inr (7, [.ref tg, .int 0, .int 0, .int 0, .int 0, .ref t0, .int 0, .ref t1, .ref t2, .ref t3, .ref t4, .int 0, .ref t5, .ref t6, .ref t7]))] H := hP
  have hD : va_D A [(h0, .inr (10, [v0, v1, v2, v3, v4, v5, v6, v7, v8, v9, v10, v11, .ref td, v13, v14, v15, v16])), (td, .inr (7, [.ref tg, .int 0, .int 0, .int 0, .int 0, .ref t0, .int 0, .ref t1, .ref t2, .ref t3, .ref t4, .int 0, .ref t5, .ref t6, .ref t7]))] := hD
  have er_1 : r_1 = 0 := k_2
  subst er_1
  refine lv_if_eq (tgt := 21) hx hb dX11_meetAt_5 (by decide) (fun _ => ?_) (fun h_4 => absurd (by decide) h_4)
  refine lv_aload_n hx hb dX11_meetAt_21 rfl (lv_at hl 0 rfl) ?_
  refine lv_iconst (v := 1) hx hb dX11_meetAt_22 (by decide) ?_
  refine fI (wr := [(td, .inr (7, [.ref tg, .int 0, .int 0, .int 0, .int 0, .ref t0, .int 0, .ref t1, .ref t2, .ref t3, .ref t4, .int 0, .ref t5, .ref t6, .ref t7]))]) (rV_I (wc := [(h0, .inr (10, [v0, v1, v2, v3, v4, v5, v6, v7, v8, v9, v10, v11, .ref td, v13, v14, v15, v16]))]) (As := [.int 1]) (rest := []) X (tX11_refuse l dC dI cy h0 v0 v1 v2 v3 v4 v5 v6 v7 v8 v9 v10 v11 (.ref td) v13 v14 v15 v16 1) kX11_refuse vX11_refuse mX11_100 hP hD [0] (by decide) rfl 0 (ci := 10) rfl rfl rfl hl rfl rfl (Nat.le_of_ble_eq_true rfl) dX11_meetAt_23 ⟨Nat.le_of_ble_eq_true rfl, Nat.le_of_ble_eq_true rfl⟩ ⟨Nat.le_of_ble_eq_true rfl, Nat.le_of_ble_eq_true rfl⟩) hP hD hS hA [0] [1] rfl rfl (by decide) (by decide) (fun r_5 u_7 H locs k_6 hP hD hS => ?_)
  have hP : va_P (dC, dI) vwCl [(td, .inr (7, [.ref tg, .int 0, .int 0, .int 0, .int 0, .ref t0, .int 0, .ref t1, .ref t2, .ref t3, .ref t4, .int 0, .ref t5, .ref t6, .ref t7]))] H := hP
  have hD : va_D A [(td, .inr (7, [.ref tg, .int 0, .int 0, .int 0, .int 0, .ref t0, .int 0, .ref t1, .ref t2, .ref t3, .ref t4, .int 0, .ref t5, .ref t6, .ref t7]))] := hD
  have er_5 : r_5 = -1 := k_6
  subst er_5
  exact eI X hr hlocks hP hD hS () [] (by decide) rfl rfl rfl (Nat.le_of_ble_eq_true rfl) (Nat.le_of_ble_eq_true rfl) dX11_meetAt_26
set_option maxHeartbeats 4000000 in
set_option maxRecDepth 100000 in
theorem tX11_ramble (l : Launch) (dC : Nat → ClassId) (dI : Nat → Nat → Nat) (cy : Nat → ClassId) (h0 : Nat) (v0 : Value) (v1 : Value) (v2 : Value) (v3 : Value) (v4 : Value) (v5 : Value) (v6 : Value) (v7 : Value) (v8 : Value) (v9 : Value) (v10 : Value) (v11 : Value) (td : Nat) (v13 : Value) (v14 : Value) (v15 : Value) (v16 : Value) (tg : Nat) (t0 : Nat) (t1 : Nat) (t2 : Nat) (t3 : Nat) (t4 : Nat) (t5 : Nat) (t6 : Nat) (t7 : Nat) (p1 : Int32) (p2 : Int32) (p3 : Int32) : ctI l dC dI cy yX11_ramble cX11_ramble 5 .int ({ frames := 2, cells := 0, slots := 0, locals := 45 }) [.ref h0, .int p1, .int p2, .int p3] [(h0, .inr (10, [v0, v1, v2, v3, v4, v5, v6, v7, v8, v9, v10, v11, .ref td, v13, v14, v15, v16])), (td, .inr (7, [.ref tg, .int 0, .int 0, .int 0, .int 0, .ref t0, .int 0, .ref t1, .ref t2, .ref t3, .ref t4, .int 0, .ref t5, .ref t6, .ref t7]))] (S := Unit) (fun r _ => r = -1) (fun _ => []) := by
  refine ctI.of (by decide +kernel) (Nat.le_of_ble_eq_true rfl) ?_
  intro p e s m args below meth c A ls X hr hlocks hin hA hP hD hS hl
  have hx := X.1
  have hb := X.2.1
  have hK := X.2.2.2.2.2.1
  have hl : lv_has ls 5 [(0, .ref h0), (1, .int p1), (2, .int p2), (3, .int p3)] := hl
  refine lv_aload_n hx hb dX11_ramble_0 rfl (lv_at hl 0 rfl) ?_
  refine lv_iload_n hx hb dX11_ramble_1 rfl (lv_at hl 1 rfl) ?_
  refine lv_iload_n hx hb dX11_ramble_2 rfl (lv_at hl 2 rfl) ?_
  refine lv_iload_n hx hb dX11_ramble_3 rfl (lv_at hl 3 rfl) ?_
  refine fI (wr := []) (rV_I (wc := [(h0, .inr (10, [v0, v1, v2, v3, v4, v5, v6, v7, v8, v9, v10, v11, .ref td, v13, v14, v15, v16])), (td, .inr (7, [.ref tg, .int 0, .int 0, .int 0, .int 0, .ref t0, .int 0, .ref t1, .ref t2, .ref t3, .ref t4, .int 0, .ref t5, .ref t6, .ref t7]))]) (As := [.int p1, .int p2, .int p3]) (rest := []) X (tX11_refusalOfRamble l dC dI cy h0 v0 v1 v2 v3 v4 v5 v6 v7 v8 v9 v10 v11 td v13 v14 v15 v16 tg t0 t1 t2 t3 t4 t5 t6 t7 p1 p2 p3) kX11_refusalOfRamble vX11_refusalOfRamble mX11_338 hP hD [0, 1] (by decide) rfl 0 (ci := 10) rfl rfl rfl hl rfl rfl (Nat.le_of_ble_eq_true rfl) dX11_ramble_4 ⟨Nat.le_of_ble_eq_true rfl, Nat.le_of_ble_eq_true rfl⟩ ⟨Nat.le_of_ble_eq_true rfl, Nat.le_of_ble_eq_true rfl⟩) hP hD hS hA [0, 1] [] rfl rfl (by decide) (by decide) (fun r_1 u_3 H locs k_2 hP hD hS => ?_)
  have hP : va_P (dC, dI) vwCl [(h0, .inr (10, [v0, v1, v2, v3, v4, v5, v6, v7, v8, v9, v10, v11, .ref td, v13, v14, v15, v16])), (td, .inr (7, [.ref tg, .int 0, .int 0, .int 0, .int 0, .ref t0, .int 0, .ref t1, .ref t2, .ref t3, .ref t4, .int 0, .ref t5, .ref t6, .ref t7]))] H := hP
  have hD : va_D A [(h0, .inr (10, [v0, v1, v2, v3, v4, v5, v6, v7, v8, v9, v10, v11, .ref td, v13, v14, v15, v16])), (td, .inr (7, [.ref tg, .int 0, .int 0, .int 0, .int 0, .ref t0, .int 0, .ref t1, .ref t2, .ref t3, .ref t4, .int 0, .ref t5, .ref t6, .ref t7]))] := hD
  have er_1 : r_1 = 1 := k_2
  subst er_1
  refine lv_istore (lv' := [(4, .int 1), (0, .ref h0), (1, .int p1), (2, .int p2), (3, .int p3)]) hx hb dX11_ramble_7 hl (by decide) rfl (fun ls hl => ?_)
  refine lv_iload hx hb dX11_ramble_9 (lv_at hl 0 rfl) ?_
  refine lv_if_eq (tgt := 21) hx hb dX11_ramble_11 (by decide) (fun h_4 => absurd h_4 (by decide)) (fun _ => ?_)
  refine lv_aload_n hx hb dX11_ramble_14 rfl (lv_at hl 1 rfl) ?_
  refine lv_iload hx hb dX11_ramble_15 (lv_at hl 0 rfl) ?_
  refine fI (wr := [(td, .inr (7, [.ref tg, .int 0, .int 0, .int 0, .int 0, .ref t0, .int 0, .ref t1, .ref t2, .ref t3, .ref t4, .int 0, .ref t5, .ref t6, .ref t7]))]) (rV_I (wc := [(h0, .inr (10, [v0, v1, v2, v3, v4, v5, v6, v7, v8, v9, v10, v11, .ref td, v13, v14, v15, v16]))]) (As := [.int 1]) (rest := []) X (tX11_refuse l dC dI cy h0 v0 v1 v2 v3 v4 v5 v6 v7 v8 v9 v10 v11 (.ref td) v13 v14 v15 v16 1) kX11_refuse vX11_refuse mX11_100 hP hD [0] (by decide) rfl 0 (ci := 10) rfl rfl rfl hl rfl rfl (Nat.le_of_ble_eq_true rfl) dX11_ramble_17 ⟨Nat.le_of_ble_eq_true rfl, Nat.le_of_ble_eq_true rfl⟩ ⟨Nat.le_of_ble_eq_true rfl, Nat.le_of_ble_eq_true rfl⟩) hP hD hS hA [0] [1] rfl rfl (by decide) (by decide) (fun r_5 u_7 H locs k_6 hP hD hS => ?_)
  have hP : va_P (dC, dI) vwCl [(td, .inr (7, [.ref tg, .int 0, .int 0, .int 0, .int 0, .ref t0, .int 0, .ref t1, .ref t2, .ref t3, .ref t4, .int 0, .ref t5, .ref t6, .ref t7]))] H := hP
  have hD : va_D A [(td, .inr (7, [.ref tg, .int 0, .int 0, .int 0, .int 0, .ref t0, .int 0, .ref t1, .ref t2, .ref t3, .ref t4, .int 0, .ref t5, .ref t6, .ref t7]))] := hD
  have er_5 : r_5 = -1 := k_6
  subst er_5
  exact eI X hr hlocks hP hD hS () [] (by decide) rfl rfl rfl (Nat.le_of_ble_eq_true rfl) (Nat.le_of_ble_eq_true rfl) dX11_ramble_20
set_option maxHeartbeats 4000000 in
set_option maxRecDepth 100000 in
theorem tX11_rambleFalls (l : Launch) (dC : Nat → ClassId) (dI : Nat → Nat → Nat) (cy : Nat → ClassId) (h0 : Nat) (v0 : Value) (v1 : Value) (v2 : Value) (v3 : Value) (v4 : Value) (v5 : Value) (v6 : Value) (v7 : Value) (v8 : Value) (v9 : Value) (v10 : Value) (v11 : Value) (td : Nat) (v13 : Value) (v14 : Value) (v15 : Value) (v16 : Value) (tg : Nat) (t0 : Nat) (t1 : Nat) (t2 : Nat) (t3 : Nat) (t4 : Nat) (t5 : Nat) (t6 : Nat) (t7 : Nat) (p1 : Int32) (p2 : Int32) (p3 : Int32) : ctI l dC dI cy yX11_rambleFalls cX11_rambleFalls 5 .int ({ frames := 2, cells := 0, slots := 0, locals := 45 }) [.ref h0, .int p1, .int p2, .int p3] [(h0, .inr (10, [v0, v1, v2, v3, v4, v5, v6, v7, v8, v9, v10, v11, .ref td, v13, v14, v15, v16])), (td, .inr (7, [.ref tg, .int 0, .int 0, .int 0, .int 0, .ref t0, .int 0, .ref t1, .ref t2, .ref t3, .ref t4, .int 0, .ref t5, .ref t6, .ref t7]))] (S := Unit) (fun r _ => r = -1) (fun _ => []) := by
  refine ctI.of (by decide +kernel) (Nat.le_of_ble_eq_true rfl) ?_
  intro p e s m args below meth c A ls X hr hlocks hin hA hP hD hS hl
  have hx := X.1
  have hb := X.2.1
  have hK := X.2.2.2.2.2.1
  have hl : lv_has ls 5 [(0, .ref h0), (1, .int p1), (2, .int p2), (3, .int p3)] := hl
  refine lv_aload_n hx hb dX11_rambleFalls_0 rfl (lv_at hl 0 rfl) ?_
  refine lv_iload_n hx hb dX11_rambleFalls_1 rfl (lv_at hl 1 rfl) ?_
  refine lv_iload_n hx hb dX11_rambleFalls_2 rfl (lv_at hl 2 rfl) ?_
  refine lv_iload_n hx hb dX11_rambleFalls_3 rfl (lv_at hl 3 rfl) ?_
  refine fI (wr := []) (rV_I (wc := [(h0, .inr (10, [v0, v1, v2, v3, v4, v5, v6, v7, v8, v9, v10, v11, .ref td, v13, v14, v15, v16])), (td, .inr (7, [.ref tg, .int 0, .int 0, .int 0, .int 0, .ref t0, .int 0, .ref t1, .ref t2, .ref t3, .ref t4, .int 0, .ref t5, .ref t6, .ref t7]))]) (As := [.int p1, .int p2, .int p3]) (rest := []) X (tX11_refusalOfRamble l dC dI cy h0 v0 v1 v2 v3 v4 v5 v6 v7 v8 v9 v10 v11 td v13 v14 v15 v16 tg t0 t1 t2 t3 t4 t5 t6 t7 p1 p2 p3) kX11_refusalOfRamble vX11_refusalOfRamble mX11_338 hP hD [0, 1] (by decide) rfl 0 (ci := 10) rfl rfl rfl hl rfl rfl (Nat.le_of_ble_eq_true rfl) dX11_rambleFalls_4 ⟨Nat.le_of_ble_eq_true rfl, Nat.le_of_ble_eq_true rfl⟩ ⟨Nat.le_of_ble_eq_true rfl, Nat.le_of_ble_eq_true rfl⟩) hP hD hS hA [0, 1] [] rfl rfl (by decide) (by decide) (fun r_1 u_3 H locs k_2 hP hD hS => ?_)
  have hP : va_P (dC, dI) vwCl [(h0, .inr (10, [v0, v1, v2, v3, v4, v5, v6, v7, v8, v9, v10, v11, .ref td, v13, v14, v15, v16])), (td, .inr (7, [.ref tg, .int 0, .int 0, .int 0, .int 0, .ref t0, .int 0, .ref t1, .ref t2, .ref t3, .ref t4, .int 0, .ref t5, .ref t6, .ref t7]))] H := hP
  have hD : va_D A [(h0, .inr (10, [v0, v1, v2, v3, v4, v5, v6, v7, v8, v9, v10, v11, .ref td, v13, v14, v15, v16])), (td, .inr (7, [.ref tg, .int 0, .int 0, .int 0, .int 0, .ref t0, .int 0, .ref t1, .ref t2, .ref t3, .ref t4, .int 0, .ref t5, .ref t6, .ref t7]))] := hD
  have er_1 : r_1 = 1 := k_2
  subst er_1
  refine lv_istore (lv' := [(4, .int 1), (0, .ref h0), (1, .int p1), (2, .int p2), (3, .int p3)]) hx hb dX11_rambleFalls_7 hl (by decide) rfl (fun ls hl => ?_)
  refine lv_iload hx hb dX11_rambleFalls_9 (lv_at hl 0 rfl) ?_
  refine lv_if_eq (tgt := 21) hx hb dX11_rambleFalls_11 (by decide) (fun h_4 => absurd h_4 (by decide)) (fun _ => ?_)
  refine lv_aload_n hx hb dX11_rambleFalls_14 rfl (lv_at hl 1 rfl) ?_
  refine lv_iload hx hb dX11_rambleFalls_15 (lv_at hl 0 rfl) ?_
  refine fI (wr := [(td, .inr (7, [.ref tg, .int 0, .int 0, .int 0, .int 0, .ref t0, .int 0, .ref t1, .ref t2, .ref t3, .ref t4, .int 0, .ref t5, .ref t6, .ref t7]))]) (rV_I (wc := [(h0, .inr (10, [v0, v1, v2, v3, v4, v5, v6, v7, v8, v9, v10, v11, .ref td, v13, v14, v15, v16]))]) (As := [.int 1]) (rest := []) X (tX11_refuse l dC dI cy h0 v0 v1 v2 v3 v4 v5 v6 v7 v8 v9 v10 v11 (.ref td) v13 v14 v15 v16 1) kX11_refuse vX11_refuse mX11_100 hP hD [0] (by decide) rfl 0 (ci := 10) rfl rfl rfl hl rfl rfl (Nat.le_of_ble_eq_true rfl) dX11_rambleFalls_17 ⟨Nat.le_of_ble_eq_true rfl, Nat.le_of_ble_eq_true rfl⟩ ⟨Nat.le_of_ble_eq_true rfl, Nat.le_of_ble_eq_true rfl⟩) hP hD hS hA [0] [1] rfl rfl (by decide) (by decide) (fun r_5 u_7 H locs k_6 hP hD hS => ?_)
  have hP : va_P (dC, dI) vwCl [(td, .inr (7, [.ref tg, .int 0, .int 0, .int 0, .int 0, .ref t0, .int 0, .ref t1, .ref t2, .ref t3, .ref t4, .int 0, .ref t5, .ref t6, .ref t7]))] H := hP
  have hD : va_D A [(td, .inr (7, [.ref tg, .int 0, .int 0, .int 0, .int 0, .ref t0, .int 0, .ref t1, .ref t2, .ref t3, .ref t4, .int 0, .ref t5, .ref t6, .ref t7]))] := hD
  have er_5 : r_5 = -1 := k_6
  subst er_5
  exact eI X hr hlocks hP hD hS () [] (by decide) rfl rfl rfl (Nat.le_of_ble_eq_true rfl) (Nat.le_of_ble_eq_true rfl) dX11_rambleFalls_20
set_option maxHeartbeats 4000000 in
set_option maxRecDepth 100000 in
theorem tX11_strayed (l : Launch) (dC : Nat → ClassId) (dI : Nat → Nat → Nat) (cy : Nat → ClassId) (h0 : Nat) (v0 : Value) (v1 : Value) (v2 : Value) (v3 : Value) (v4 : Value) (v5 : Value) (v6 : Value) (v7 : Value) (v8 : Value) (v9 : Value) (v10 : Value) (v11 : Value) (td : Nat) (v13 : Value) (v14 : Value) (v15 : Value) (v16 : Value) (tg : Nat) (t0 : Nat) (t1 : Nat) (t2 : Nat) (t3 : Nat) (t4 : Nat) (t5 : Nat) (t6 : Nat) (t7 : Nat) (p1 : Int32) (p2 : Int32) (p3 : Int32) : ctI l dC dI cy yX11_strayed cX11_strayed 5 .int ({ frames := 2, cells := 0, slots := 0, locals := 45 }) [.ref h0, .int p1, .int p2, .int p3] [(h0, .inr (10, [v0, v1, v2, v3, v4, v5, v6, v7, v8, v9, v10, v11, .ref td, v13, v14, v15, v16])), (td, .inr (7, [.ref tg, .int 0, .int 0, .int 0, .int 0, .ref t0, .int 0, .ref t1, .ref t2, .ref t3, .ref t4, .int 0, .ref t5, .ref t6, .ref t7]))] (S := Unit) (fun r _ => r = -1) (fun _ => []) := by
  refine ctI.of (by decide +kernel) (Nat.le_of_ble_eq_true rfl) ?_
  intro p e s m args below meth c A ls X hr hlocks hin hA hP hD hS hl
  have hx := X.1
  have hb := X.2.1
  have hK := X.2.2.2.2.2.1
  have hl : lv_has ls 5 [(0, .ref h0), (1, .int p1), (2, .int p2), (3, .int p3)] := hl
  refine lv_aload_n hx hb dX11_strayed_0 rfl (lv_at hl 0 rfl) ?_
  refine lv_iload_n hx hb dX11_strayed_1 rfl (lv_at hl 1 rfl) ?_
  refine lv_iload_n hx hb dX11_strayed_2 rfl (lv_at hl 2 rfl) ?_
  refine lv_iload_n hx hb dX11_strayed_3 rfl (lv_at hl 3 rfl) ?_
  refine fI (wr := []) (rV_I (wc := [(h0, .inr (10, [v0, v1, v2, v3, v4, v5, v6, v7, v8, v9, v10, v11, .ref td, v13, v14, v15, v16])), (td, .inr (7, [.ref tg, .int 0, .int 0, .int 0, .int 0, .ref t0, .int 0, .ref t1, .ref t2, .ref t3, .ref t4, .int 0, .ref t5, .ref t6, .ref t7]))]) (As := [.int p1, .int p2, .int p3]) (rest := []) X (tX11_refusalOfRamble l dC dI cy h0 v0 v1 v2 v3 v4 v5 v6 v7 v8 v9 v10 v11 td v13 v14 v15 v16 tg t0 t1 t2 t3 t4 t5 t6 t7 p1 p2 p3) kX11_refusalOfRamble vX11_refusalOfRamble mX11_338 hP hD [0, 1] (by decide) rfl 0 (ci := 10) rfl rfl rfl hl rfl rfl (Nat.le_of_ble_eq_true rfl) dX11_strayed_4 ⟨Nat.le_of_ble_eq_true rfl, Nat.le_of_ble_eq_true rfl⟩ ⟨Nat.le_of_ble_eq_true rfl, Nat.le_of_ble_eq_true rfl⟩) hP hD hS hA [0, 1] [] rfl rfl (by decide) (by decide) (fun r_1 u_3 H locs k_2 hP hD hS => ?_)
  have hP : va_P (dC, dI) vwCl [(h0, .inr (10, [v0, v1, v2, v3, v4, v5, v6, v7, v8, v9, v10, v11, .ref td, v13, v14, v15, v16])), (td, .inr (7, [.ref tg, .int 0, .int 0, .int 0, .int 0, .ref t0, .int 0, .ref t1, .ref t2, .ref t3, .ref t4, .int 0, .ref t5, .ref t6, .ref t7]))] H := hP
  have hD : va_D A [(h0, .inr (10, [v0, v1, v2, v3, v4, v5, v6, v7, v8, v9, v10, v11, .ref td, v13, v14, v15, v16])), (td, .inr (7, [.ref tg, .int 0, .int 0, .int 0, .int 0, .ref t0, .int 0, .ref t1, .ref t2, .ref t3, .ref t4, .int 0, .ref t5, .ref t6, .ref t7]))] := hD
  have er_1 : r_1 = 1 := k_2
  subst er_1
  refine lv_istore (lv' := [(4, .int 1), (0, .ref h0), (1, .int p1), (2, .int p2), (3, .int p3)]) hx hb dX11_strayed_7 hl (by decide) rfl (fun ls hl => ?_)
  refine lv_iload hx hb dX11_strayed_9 (lv_at hl 0 rfl) ?_
  refine lv_if_eq (tgt := 21) hx hb dX11_strayed_11 (by decide) (fun h_4 => absurd h_4 (by decide)) (fun _ => ?_)
  refine lv_aload_n hx hb dX11_strayed_14 rfl (lv_at hl 1 rfl) ?_
  refine lv_iload hx hb dX11_strayed_15 (lv_at hl 0 rfl) ?_
  refine fI (wr := [(td, .inr (7, [.ref tg, .int 0, .int 0, .int 0, .int 0, .ref t0, .int 0, .ref t1, .ref t2, .ref t3, .ref t4, .int 0, .ref t5, .ref t6, .ref t7]))]) (rV_I (wc := [(h0, .inr (10, [v0, v1, v2, v3, v4, v5, v6, v7, v8, v9, v10, v11, .ref td, v13, v14, v15, v16]))]) (As := [.int 1]) (rest := []) X (tX11_refuse l dC dI cy h0 v0 v1 v2 v3 v4 v5 v6 v7 v8 v9 v10 v11 (.ref td) v13 v14 v15 v16 1) kX11_refuse vX11_refuse mX11_100 hP hD [0] (by decide) rfl 0 (ci := 10) rfl rfl rfl hl rfl rfl (Nat.le_of_ble_eq_true rfl) dX11_strayed_17 ⟨Nat.le_of_ble_eq_true rfl, Nat.le_of_ble_eq_true rfl⟩ ⟨Nat.le_of_ble_eq_true rfl, Nat.le_of_ble_eq_true rfl⟩) hP hD hS hA [0] [1] rfl rfl (by decide) (by decide) (fun r_5 u_7 H locs k_6 hP hD hS => ?_)
  have hP : va_P (dC, dI) vwCl [(td, .inr (7, [.ref tg, .int 0, .int 0, .int 0, .int 0, .ref t0, .int 0, .ref t1, .ref t2, .ref t3, .ref t4, .int 0, .ref t5, .ref t6, .ref t7]))] H := hP
  have hD : va_D A [(td, .inr (7, [.ref tg, .int 0, .int 0, .int 0, .int 0, .ref t0, .int 0, .ref t1, .ref t2, .ref t3, .ref t4, .int 0, .ref t5, .ref t6, .ref t7]))] := hD
  have er_5 : r_5 = -1 := k_6
  subst er_5
  exact eI X hr hlocks hP hD hS () [] (by decide) rfl rfl rfl (Nat.le_of_ble_eq_true rfl) (Nat.le_of_ble_eq_true rfl) dX11_strayed_20
set_option maxHeartbeats 4000000 in
set_option maxRecDepth 100000 in
theorem tX11_step (l : Launch) (dC : Nat → ClassId) (dI : Nat → Nat → Nat) (cy : Nat → ClassId) (h0 : Nat) (v0 : Value) (v1 : Value) (v2 : Value) (v3 : Value) (v4 : Value) (v5 : Value) (v6 : Value) (v7 : Value) (v8 : Value) (v9 : Value) (v10 : Value) (v11 : Value) (td : Nat) (v13 : Value) (v14 : Value) (v15 : Value) (v16 : Value) (tg : Nat) (t0 : Nat) (t1 : Nat) (t2 : Nat) (t3 : Nat) (t4 : Nat) (t5 : Nat) (t6 : Nat) (t7 : Nat) (p1 : Int32) (p2 : Int32) : ctI l dC dI cy yX11_step cX11_step 4 .int ({ frames := 1, cells := 0, slots := 0, locals := 21 }) [.ref h0, .int p1, .int p2] [(h0, .inr (10, [v0, v1, v2, v3, v4, v5, v6, v7, v8, v9, v10, v11, .ref td, v13, v14, v15, v16])), (td, .inr (7, [.ref tg, .int 0, .int 0, .int 0, .int 0, .ref t0, .int 0, .ref t1, .ref t2, .ref t3, .ref t4, .int 0, .ref t5, .ref t6, .ref t7]))] (S := Unit) (fun r _ => r = -1) (fun _ => []) := by
  refine ctI.of (by decide +kernel) (Nat.le_of_ble_eq_true rfl) ?_
  intro p e s m args below meth c A ls X hr hlocks hin hA hP hD hS hl
  have hx := X.1
  have hb := X.2.1
  have hK := X.2.2.2.2.2.1
  have hl : lv_has ls 4 [(0, .ref h0), (1, .int p1), (2, .int p2)] := hl
  refine lv_aload_n hx hb dX11_step_0 rfl (lv_at hl 0 rfl) ?_
  refine lv_iload_n hx hb dX11_step_1 rfl (lv_at hl 1 rfl) ?_
  refine fI (wr := []) (rV_I (wc := [(h0, .inr (10, [v0, v1, v2, v3, v4, v5, v6, v7, v8, v9, v10, v11, .ref td, v13, v14, v15, v16])), (td, .inr (7, [.ref tg, .int 0, .int 0, .int 0, .int 0, .ref t0, .int 0, .ref t1, .ref t2, .ref t3, .ref t4, .int 0, .ref t5, .ref t6, .ref t7]))]) (As := [.int p1]) (rest := []) X (tX11_isWalker l dC dI cy h0 v0 v1 v2 v3 v4 v5 v6 v7 v8 v9 v10 v11 td v13 v14 v15 v16 tg t0 t1 t2 t3 t4 t5 t6 t7 p1) kX11_isWalker vX11_isWalker mX11_159 hP hD [0, 1] (by decide) rfl 0 (ci := 10) rfl rfl rfl hl rfl rfl (Nat.le_of_ble_eq_true rfl) dX11_step_2 ⟨Nat.le_of_ble_eq_true rfl, Nat.le_of_ble_eq_true rfl⟩ ⟨Nat.le_of_ble_eq_true rfl, Nat.le_of_ble_eq_true rfl⟩) hP hD hS hA [0, 1] [] rfl rfl (by decide) (by decide) (fun r_1 u_3 H locs k_2 hP hD hS => ?_)
  have hP : va_P (dC, dI) vwCl [(h0, .inr (10, [v0, v1, v2, v3, v4, v5, v6, v7, v8, v9, v10, v11, .ref td, v13, v14, v15, v16])), (td, .inr (7, [.ref tg, .int 0, .int 0, .int 0, .int 0, .ref t0, .int 0, .ref t1, .ref t2, .ref t3, .ref t4, .int 0, .ref t5, .ref t6, .ref t7]))] H := hP
  have hD : va_D A [(h0, .inr (10, [v0, v1, v2, v3, v4, v5, v6, v7, v8, v9, v10, v11, .ref td, v13, v14, v15, v16])), (td, .inr (7, [.ref tg, .int 0, .int 0, .int 0, .int 0, .ref t0, .int 0, .ref t1, .ref t2, .ref t3, .ref t4, .int 0, .ref t5, .ref t6, .ref t7]))] := hD
  have er_1 : r_1 = 0 := k_2
  subst er_1
  refine lv_if_ne (tgt := 14) hx hb dX11_step_5 (by decide) (fun h_4 => absurd (by decide) h_4) (fun _ => ?_)
  refine lv_aload_n hx hb dX11_step_8 rfl (lv_at hl 0 rfl) ?_
  refine lv_iconst (v := 1) hx hb dX11_step_9 (by decide) ?_
  refine fI (wr := [(td, .inr (7, [.ref tg, .int 0, .int 0, .int 0, .int 0, .ref t0, .int 0, .ref t1, .ref t2, .ref t3, .ref t4, .int 0, .ref t5, .ref t6, .ref t7]))]) (rV_I (wc := [(h0, .inr (10, [v0, v1, v2, v3, v4, v5, v6, v7, v8, v9, v10, v11, .ref td, v13, v14, v15, v16]))]) (As := [.int 1]) (rest := []) X (tX11_refuse l dC dI cy h0 v0 v1 v2 v3 v4 v5 v6 v7 v8 v9 v10 v11 (.ref td) v13 v14 v15 v16 1) kX11_refuse vX11_refuse mX11_100 hP hD [0] (by decide) rfl 0 (ci := 10) rfl rfl rfl hl rfl rfl (Nat.le_of_ble_eq_true rfl) dX11_step_10 ⟨Nat.le_of_ble_eq_true rfl, Nat.le_of_ble_eq_true rfl⟩ ⟨Nat.le_of_ble_eq_true rfl, Nat.le_of_ble_eq_true rfl⟩) hP hD hS hA [0] [1] rfl rfl (by decide) (by decide) (fun r_5 u_7 H locs k_6 hP hD hS => ?_)
  have hP : va_P (dC, dI) vwCl [(td, .inr (7, [.ref tg, .int 0, .int 0, .int 0, .int 0, .ref t0, .int 0, .ref t1, .ref t2, .ref t3, .ref t4, .int 0, .ref t5, .ref t6, .ref t7]))] H := hP
  have hD : va_D A [(td, .inr (7, [.ref tg, .int 0, .int 0, .int 0, .int 0, .ref t0, .int 0, .ref t1, .ref t2, .ref t3, .ref t4, .int 0, .ref t5, .ref t6, .ref t7]))] := hD
  have er_5 : r_5 = -1 := k_6
  subst er_5
  exact eI X hr hlocks hP hD hS () [] (by decide) rfl rfl rfl (Nat.le_of_ble_eq_true rfl) (Nat.le_of_ble_eq_true rfl) dX11_step_13
set_option maxHeartbeats 4000000 in
set_option maxRecDepth 100000 in
theorem tX11_all (l : Launch) (dC : Nat → ClassId) (dI : Nat → Nat → Nat) (cy : Nat → ClassId) (h0 : Nat) (v0 : Value) (nw : Nat) (v2 : Value) (v3 : Value) (v4 : Value) (v5 : Value) (v6 : Value) (v7 : Value) (v8 : Value) (v9 : Value) (v10 : Value) (v11 : Value) (v12 : Value) (v13 : Value) (v14 : Value) (v15 : Value) (v16 : Value) (gr : Nat) (gs : Nat) (n1 : Nat) (n2 : Nat) (n3 : Nat) (p1 : Int32) : ctI l dC dI cy yX11_all cX11_all 2 .int ({ frames := 1, cells := 0, slots := 0, locals := 21 }) [.ref h0, .int p1] [(h0, .inr (10, [v0, .ref nw, v2, v3, v4, v5, v6, v7, v8, v9, v10, v11, v12, v13, v14, v15, v16])), (nw, .inr (6, [.ref gr, .ref n1, .ref n2, .ref n3, .int 0])), (gr, .inr (4, [.int 0, .int 0, .int 0, .ref gs]))] (S := Unit) (fun r _ => r = -1) (fun _ => []) := by
  refine ctI.of (by decide +kernel) (Nat.le_of_ble_eq_true rfl) ?_
  intro p e s m args below meth c A ls X hr hlocks hin hA hP hD hS hl
  have hx := X.1
  have hb := X.2.1
  have hK := X.2.2.2.2.2.1
  have hl : lv_has ls 2 [(0, .ref h0), (1, .int p1)] := hl
  refine lv_aload_n hx hb dX11_all_0 rfl (lv_at hl 0 rfl) ?_
  refine fI (wr := []) (rV_I (wc := [(h0, .inr (10, [v0, .ref nw, v2, v3, v4, v5, v6, v7, v8, v9, v10, v11, v12, v13, v14, v15, v16])), (nw, .inr (6, [.ref gr, .ref n1, .ref n2, .ref n3, .int 0])), (gr, .inr (4, [.int 0, .int 0, .int 0, .ref gs]))]) (As := []) (rest := []) X (tX11_hasPark l dC dI cy h0 v0 nw v2 v3 v4 v5 v6 v7 v8 v9 v10 v11 v12 v13 v14 v15 v16 gr gs n1 n2 n3) kX11_hasPark vX11_hasPark mX11_188 hP hD [0, 1, 2] (by decide) rfl 0 (ci := 10) rfl rfl rfl hl rfl rfl (Nat.le_of_ble_eq_true rfl) dX11_all_1 ⟨Nat.le_of_ble_eq_true rfl, Nat.le_of_ble_eq_true rfl⟩ ⟨Nat.le_of_ble_eq_true rfl, Nat.le_of_ble_eq_true rfl⟩) hP hD hS hA [0, 1, 2] [] rfl rfl (by decide) (by decide) (fun r_1 u_3 H locs k_2 hP hD hS => ?_)
  have hP : va_P (dC, dI) vwCl [(h0, .inr (10, [v0, .ref nw, v2, v3, v4, v5, v6, v7, v8, v9, v10, v11, v12, v13, v14, v15, v16])), (nw, .inr (6, [.ref gr, .ref n1, .ref n2, .ref n3, .int 0])), (gr, .inr (4, [.int 0, .int 0, .int 0, .ref gs]))] H := hP
  have hD : va_D A [(h0, .inr (10, [v0, .ref nw, v2, v3, v4, v5, v6, v7, v8, v9, v10, v11, v12, v13, v14, v15, v16])), (nw, .inr (6, [.ref gr, .ref n1, .ref n2, .ref n3, .int 0])), (gr, .inr (4, [.int 0, .int 0, .int 0, .ref gs]))] := hD
  have er_1 : r_1 = 0 := k_2
  subst er_1
  refine lv_if_ne (tgt := 13) hx hb dX11_all_4 (by decide) (fun h_4 => absurd (by decide) h_4) (fun _ => ?_)
  refine lv_aload_n hx hb dX11_all_7 rfl (lv_at hl 0 rfl) ?_
  refine lv_iconst (v := 1) hx hb dX11_all_8 (by decide) ?_
  refine fI (wr := [(nw, .inr (6, [.ref gr, .ref n1, .ref n2, .ref n3, .int 0])), (gr, .inr (4, [.int 0, .int 0, .int 0, .ref gs]))]) (rV_I (wc := [(h0, .inr (10, [v0, .ref nw, v2, v3, v4, v5, v6, v7, v8, v9, v10, v11, v12, v13, v14, v15, v16]))]) (As := [.int 1]) (rest := []) X (tX11_refuse l dC dI cy h0 v0 (.ref nw) v2 v3 v4 v5 v6 v7 v8 v9 v10 v11 v12 v13 v14 v15 v16 1) kX11_refuse vX11_refuse mX11_100 hP hD [0] (by decide) rfl 0 (ci := 10) rfl rfl rfl hl rfl rfl (Nat.le_of_ble_eq_true rfl) dX11_all_9 ⟨Nat.le_of_ble_eq_true rfl, Nat.le_of_ble_eq_true rfl⟩ ⟨Nat.le_of_ble_eq_true rfl, Nat.le_of_ble_eq_true rfl⟩) hP hD hS hA [0] [1, 2] rfl rfl (by decide) (by decide) (fun r_5 u_7 H locs k_6 hP hD hS => ?_)
  have hP : va_P (dC, dI) vwCl [(nw, .inr (6, [.ref gr, .ref n1, .ref n2, .ref n3, .int 0])), (gr, .inr (4, [.int 0, .int 0, .int 0, .ref gs]))] H := hP
  have hD : va_D A [(nw, .inr (6, [.ref gr, .ref n1, .ref n2, .ref n3, .int 0])), (gr, .inr (4, [.int 0, .int 0, .int 0, .ref gs]))] := hD
  have er_5 : r_5 = -1 := k_6
  subst er_5
  exact eI X hr hlocks hP hD hS () [] (by decide) rfl rfl rfl (Nat.le_of_ble_eq_true rfl) (Nat.le_of_ble_eq_true rfl) dX11_all_12
set_option maxHeartbeats 4000000 in
set_option maxRecDepth 100000 in
theorem tX11_latest (l : Launch) (dC : Nat → ClassId) (dI : Nat → Nat → Nat) (cy : Nat → ClassId) (h0 : Nat) (v0 : Value) (nw : Nat) (v2 : Value) (v3 : Value) (v4 : Value) (v5 : Value) (v6 : Value) (v7 : Value) (v8 : Value) (v9 : Value) (v10 : Value) (v11 : Value) (v12 : Value) (v13 : Value) (v14 : Value) (v15 : Value) (v16 : Value) (gr : Nat) (gs : Nat) (n1 : Nat) (n2 : Nat) (n3 : Nat) : ctI l dC dI cy yX11_latest cX11_latest 5 .int ({ frames := 1, cells := 0, slots := 0, locals := 21 }) [.ref h0] [(h0, .inr (10, [v0, .ref nw, v2, v3, v4, v5, v6, v7, v8, v9, v10, v11, v12, v13, v14, v15, v16])), (nw, .inr (6, [.ref gr, .ref n1, .ref n2, .ref n3, .int 0])), (gr, .inr (4, [.int 0, .int 0, .int 0, .ref gs]))] (S := Unit) (fun r _ => r = -1) (fun _ => []) := by
  refine ctI.of (by decide +kernel) (Nat.le_of_ble_eq_true rfl) ?_
  intro p e s m args below meth c A ls X hr hlocks hin hA hP hD hS hl
  have hx := X.1
  have hb := X.2.1
  have hK := X.2.2.2.2.2.1
  have hl : lv_has ls 5 [(0, .ref h0)] := hl
  refine lv_aload_n hx hb dX11_latest_0 rfl (lv_at hl 0 rfl) ?_
  refine fI (wr := []) (rV_I (wc := [(h0, .inr (10, [v0, .ref nw, v2, v3, v4, v5, v6, v7, v8, v9, v10, v11, v12, v13, v14, v15, v16])), (nw, .inr (6, [.ref gr, .ref n1, .ref n2, .ref n3, .int 0])), (gr, .inr (4, [.int 0, .int 0, .int 0, .ref gs]))]) (As := []) (rest := []) X (tX11_hasPark l dC dI cy h0 v0 nw v2 v3 v4 v5 v6 v7 v8 v9 v10 v11 v12 v13 v14 v15 v16 gr gs n1 n2 n3) kX11_hasPark vX11_hasPark mX11_188 hP hD [0, 1, 2] (by decide) rfl 0 (ci := 10) rfl rfl rfl hl rfl rfl (Nat.le_of_ble_eq_true rfl) dX11_latest_1 ⟨Nat.le_of_ble_eq_true rfl, Nat.le_of_ble_eq_true rfl⟩ ⟨Nat.le_of_ble_eq_true rfl, Nat.le_of_ble_eq_true rfl⟩) hP hD hS hA [0, 1, 2] [] rfl rfl (by decide) (by decide) (fun r_1 u_3 H locs k_2 hP hD hS => ?_)
  have hP : va_P (dC, dI) vwCl [(h0, .inr (10, [v0, .ref nw, v2, v3, v4, v5, v6, v7, v8, v9, v10, v11, v12, v13, v14, v15, v16])), (nw, .inr (6, [.ref gr, .ref n1, .ref n2, .ref n3, .int 0])), (gr, .inr (4, [.int 0, .int 0, .int 0, .ref gs]))] H := hP
  have hD : va_D A [(h0, .inr (10, [v0, .ref nw, v2, v3, v4, v5, v6, v7, v8, v9, v10, v11, v12, v13, v14, v15, v16])), (nw, .inr (6, [.ref gr, .ref n1, .ref n2, .ref n3, .int 0])), (gr, .inr (4, [.int 0, .int 0, .int 0, .ref gs]))] := hD
  have er_1 : r_1 = 0 := k_2
  subst er_1
  refine lv_if_ne (tgt := 13) hx hb dX11_latest_4 (by decide) (fun h_4 => absurd (by decide) h_4) (fun _ => ?_)
  refine lv_aload_n hx hb dX11_latest_7 rfl (lv_at hl 0 rfl) ?_
  refine lv_iconst (v := 1) hx hb dX11_latest_8 (by decide) ?_
  refine fI (wr := [(nw, .inr (6, [.ref gr, .ref n1, .ref n2, .ref n3, .int 0])), (gr, .inr (4, [.int 0, .int 0, .int 0, .ref gs]))]) (rV_I (wc := [(h0, .inr (10, [v0, .ref nw, v2, v3, v4, v5, v6, v7, v8, v9, v10, v11, v12, v13, v14, v15, v16]))]) (As := [.int 1]) (rest := []) X (tX11_refuse l dC dI cy h0 v0 (.ref nw) v2 v3 v4 v5 v6 v7 v8 v9 v10 v11 v12 v13 v14 v15 v16 1) kX11_refuse vX11_refuse mX11_100 hP hD [0] (by decide) rfl 0 (ci := 10) rfl rfl rfl hl rfl rfl (Nat.le_of_ble_eq_true rfl) dX11_latest_9 ⟨Nat.le_of_ble_eq_true rfl, Nat.le_of_ble_eq_true rfl⟩ ⟨Nat.le_of_ble_eq_true rfl, Nat.le_of_ble_eq_true rfl⟩) hP hD hS hA [0] [1, 2] rfl rfl (by decide) (by decide) (fun r_5 u_7 H locs k_6 hP hD hS => ?_)
  have hP : va_P (dC, dI) vwCl [(nw, .inr (6, [.ref gr, .ref n1, .ref n2, .ref n3, .int 0])), (gr, .inr (4, [.int 0, .int 0, .int 0, .ref gs]))] H := hP
  have hD : va_D A [(nw, .inr (6, [.ref gr, .ref n1, .ref n2, .ref n3, .int 0])), (gr, .inr (4, [.int 0, .int 0, .int 0, .ref gs]))] := hD
  have er_5 : r_5 = -1 := k_6
  subst er_5
  exact eI X hr hlocks hP hD hS () [] (by decide) rfl rfl rfl (Nat.le_of_ble_eq_true rfl) (Nat.le_of_ble_eq_true rfl) dX11_latest_12
set_option maxHeartbeats 4000000 in
set_option maxRecDepth 100000 in
theorem tX11_gates (l : Launch) (dC : Nat → ClassId) (dI : Nat → Nat → Nat) (cy : Nat → ClassId) (h0 : Nat) (v0 : Value) (nw : Nat) (v2 : Value) (v3 : Value) (v4 : Value) (v5 : Value) (v6 : Value) (v7 : Value) (v8 : Value) (v9 : Value) (v10 : Value) (v11 : Value) (v12 : Value) (v13 : Value) (v14 : Value) (v15 : Value) (v16 : Value) (gr : Nat) (gs : Nat) (n1 : Nat) (n2 : Nat) (n3 : Nat) : ctI l dC dI cy yX11_gates cX11_gates 1 .int ({ frames := 1, cells := 0, slots := 0, locals := 21 }) [.ref h0] [(h0, .inr (10, [v0, .ref nw, v2, v3, v4, v5, v6, v7, v8, v9, v10, v11, v12, v13, v14, v15, v16])), (nw, .inr (6, [.ref gr, .ref n1, .ref n2, .ref n3, .int 0])), (gr, .inr (4, [.int 0, .int 0, .int 0, .ref gs]))] (S := Unit) (fun r _ => r = -1) (fun _ => []) := by
  refine ctI.of (by decide +kernel) (Nat.le_of_ble_eq_true rfl) ?_
  intro p e s m args below meth c A ls X hr hlocks hin hA hP hD hS hl
  have hx := X.1
  have hb := X.2.1
  have hK := X.2.2.2.2.2.1
  have hl : lv_has ls 1 [(0, .ref h0)] := hl
  refine lv_aload_n hx hb dX11_gates_0 rfl (lv_at hl 0 rfl) ?_
  refine fI (wr := []) (rV_I (wc := [(h0, .inr (10, [v0, .ref nw, v2, v3, v4, v5, v6, v7, v8, v9, v10, v11, v12, v13, v14, v15, v16])), (nw, .inr (6, [.ref gr, .ref n1, .ref n2, .ref n3, .int 0])), (gr, .inr (4, [.int 0, .int 0, .int 0, .ref gs]))]) (As := []) (rest := []) X (tX11_hasPark l dC dI cy h0 v0 nw v2 v3 v4 v5 v6 v7 v8 v9 v10 v11 v12 v13 v14 v15 v16 gr gs n1 n2 n3) kX11_hasPark vX11_hasPark mX11_188 hP hD [0, 1, 2] (by decide) rfl 0 (ci := 10) rfl rfl rfl hl rfl rfl (Nat.le_of_ble_eq_true rfl) dX11_gates_1 ⟨Nat.le_of_ble_eq_true rfl, Nat.le_of_ble_eq_true rfl⟩ ⟨Nat.le_of_ble_eq_true rfl, Nat.le_of_ble_eq_true rfl⟩) hP hD hS hA [0, 1, 2] [] rfl rfl (by decide) (by decide) (fun r_1 u_3 H locs k_2 hP hD hS => ?_)
  have hP : va_P (dC, dI) vwCl [(h0, .inr (10, [v0, .ref nw, v2, v3, v4, v5, v6, v7, v8, v9, v10, v11, v12, v13, v14, v15, v16])), (nw, .inr (6, [.ref gr, .ref n1, .ref n2, .ref n3, .int 0])), (gr, .inr (4, [.int 0, .int 0, .int 0, .ref gs]))] H := hP
  have hD : va_D A [(h0, .inr (10, [v0, .ref nw, v2, v3, v4, v5, v6, v7, v8, v9, v10, v11, v12, v13, v14, v15, v16])), (nw, .inr (6, [.ref gr, .ref n1, .ref n2, .ref n3, .int 0])), (gr, .inr (4, [.int 0, .int 0, .int 0, .ref gs]))] := hD
  have er_1 : r_1 = 0 := k_2
  subst er_1
  refine lv_if_ne (tgt := 13) hx hb dX11_gates_4 (by decide) (fun h_4 => absurd (by decide) h_4) (fun _ => ?_)
  refine lv_aload_n hx hb dX11_gates_7 rfl (lv_at hl 0 rfl) ?_
  refine lv_iconst (v := 1) hx hb dX11_gates_8 (by decide) ?_
  refine fI (wr := [(nw, .inr (6, [.ref gr, .ref n1, .ref n2, .ref n3, .int 0])), (gr, .inr (4, [.int 0, .int 0, .int 0, .ref gs]))]) (rV_I (wc := [(h0, .inr (10, [v0, .ref nw, v2, v3, v4, v5, v6, v7, v8, v9, v10, v11, v12, v13, v14, v15, v16]))]) (As := [.int 1]) (rest := []) X (tX11_refuse l dC dI cy h0 v0 (.ref nw) v2 v3 v4 v5 v6 v7 v8 v9 v10 v11 v12 v13 v14 v15 v16 1) kX11_refuse vX11_refuse mX11_100 hP hD [0] (by decide) rfl 0 (ci := 10) rfl rfl rfl hl rfl rfl (Nat.le_of_ble_eq_true rfl) dX11_gates_9 ⟨Nat.le_of_ble_eq_true rfl, Nat.le_of_ble_eq_true rfl⟩ ⟨Nat.le_of_ble_eq_true rfl, Nat.le_of_ble_eq_true rfl⟩) hP hD hS hA [0] [1, 2] rfl rfl (by decide) (by decide) (fun r_5 u_7 H locs k_6 hP hD hS => ?_)
  have hP : va_P (dC, dI) vwCl [(nw, .inr (6, [.ref gr, .ref n1, .ref n2, .ref n3, .int 0])), (gr, .inr (4, [.int 0, .int 0, .int 0, .ref gs]))] H := hP
  have hD : va_D A [(nw, .inr (6, [.ref gr, .ref n1, .ref n2, .ref n3, .int 0])), (gr, .inr (4, [.int 0, .int 0, .int 0, .ref gs]))] := hD
  have er_5 : r_5 = -1 := k_6
  subst er_5
  exact eI X hr hlocks hP hD hS () [] (by decide) rfl rfl rfl (Nat.le_of_ble_eq_true rfl) (Nat.le_of_ble_eq_true rfl) dX11_gates_12
set_option maxHeartbeats 4000000 in
set_option maxRecDepth 100000 in
theorem tX11_toFill (l : Launch) (dC : Nat → ClassId) (dI : Nat → Nat → Nat) (cy : Nat → ClassId) (h0 : Nat) (v0 : Value) (nw : Nat) (v2 : Value) (v3 : Value) (v4 : Value) (v5 : Value) (v6 : Value) (v7 : Value) (v8 : Value) (v9 : Value) (v10 : Value) (v11 : Value) (v12 : Value) (v13 : Value) (v14 : Value) (v15 : Value) (v16 : Value) (gr : Nat) (gs : Nat) (n1 : Nat) (n2 : Nat) (n3 : Nat) : ctI l dC dI cy yX11_toFill cX11_toFill 5 .int ({ frames := 1, cells := 0, slots := 0, locals := 21 }) [.ref h0] [(h0, .inr (10, [v0, .ref nw, v2, v3, v4, v5, v6, v7, v8, v9, v10, v11, v12, v13, v14, v15, v16])), (nw, .inr (6, [.ref gr, .ref n1, .ref n2, .ref n3, .int 0])), (gr, .inr (4, [.int 0, .int 0, .int 0, .ref gs]))] (S := Unit) (fun r _ => r = -1) (fun _ => []) := by
  refine ctI.of (by decide +kernel) (Nat.le_of_ble_eq_true rfl) ?_
  intro p e s m args below meth c A ls X hr hlocks hin hA hP hD hS hl
  have hx := X.1
  have hb := X.2.1
  have hK := X.2.2.2.2.2.1
  have hl : lv_has ls 5 [(0, .ref h0)] := hl
  refine lv_aload_n hx hb dX11_toFill_0 rfl (lv_at hl 0 rfl) ?_
  refine fI (wr := []) (rV_I (wc := [(h0, .inr (10, [v0, .ref nw, v2, v3, v4, v5, v6, v7, v8, v9, v10, v11, v12, v13, v14, v15, v16])), (nw, .inr (6, [.ref gr, .ref n1, .ref n2, .ref n3, .int 0])), (gr, .inr (4, [.int 0, .int 0, .int 0, .ref gs]))]) (As := []) (rest := []) X (tX11_hasPark l dC dI cy h0 v0 nw v2 v3 v4 v5 v6 v7 v8 v9 v10 v11 v12 v13 v14 v15 v16 gr gs n1 n2 n3) kX11_hasPark vX11_hasPark mX11_188 hP hD [0, 1, 2] (by decide) rfl 0 (ci := 10) rfl rfl rfl hl rfl rfl (Nat.le_of_ble_eq_true rfl) dX11_toFill_1 ⟨Nat.le_of_ble_eq_true rfl, Nat.le_of_ble_eq_true rfl⟩ ⟨Nat.le_of_ble_eq_true rfl, Nat.le_of_ble_eq_true rfl⟩) hP hD hS hA [0, 1, 2] [] rfl rfl (by decide) (by decide) (fun r_1 u_3 H locs k_2 hP hD hS => ?_)
  have hP : va_P (dC, dI) vwCl [(h0, .inr (10, [v0, .ref nw, v2, v3, v4, v5, v6, v7, v8, v9, v10, v11, v12, v13, v14, v15, v16])), (nw, .inr (6, [.ref gr, .ref n1, .ref n2, .ref n3, .int 0])), (gr, .inr (4, [.int 0, .int 0, .int 0, .ref gs]))] H := hP
  have hD : va_D A [(h0, .inr (10, [v0, .ref nw, v2, v3, v4, v5, v6, v7, v8, v9, v10, v11, v12, v13, v14, v15, v16])), (nw, .inr (6, [.ref gr, .ref n1, .ref n2, .ref n3, .int 0])), (gr, .inr (4, [.int 0, .int 0, .int 0, .ref gs]))] := hD
  have er_1 : r_1 = 0 := k_2
  subst er_1
  refine lv_if_ne (tgt := 13) hx hb dX11_toFill_4 (by decide) (fun h_4 => absurd (by decide) h_4) (fun _ => ?_)
  refine lv_aload_n hx hb dX11_toFill_7 rfl (lv_at hl 0 rfl) ?_
  refine lv_iconst (v := 1) hx hb dX11_toFill_8 (by decide) ?_
  refine fI (wr := [(nw, .inr (6, [.ref gr, .ref n1, .ref n2, .ref n3, .int 0])), (gr, .inr (4, [.int 0, .int 0, .int 0, .ref gs]))]) (rV_I (wc := [(h0, .inr (10, [v0, .ref nw, v2, v3, v4, v5, v6, v7, v8, v9, v10, v11, v12, v13, v14, v15, v16]))]) (As := [.int 1]) (rest := []) X (tX11_refuse l dC dI cy h0 v0 (.ref nw) v2 v3 v4 v5 v6 v7 v8 v9 v10 v11 v12 v13 v14 v15 v16 1) kX11_refuse vX11_refuse mX11_100 hP hD [0] (by decide) rfl 0 (ci := 10) rfl rfl rfl hl rfl rfl (Nat.le_of_ble_eq_true rfl) dX11_toFill_9 ⟨Nat.le_of_ble_eq_true rfl, Nat.le_of_ble_eq_true rfl⟩ ⟨Nat.le_of_ble_eq_true rfl, Nat.le_of_ble_eq_true rfl⟩) hP hD hS hA [0] [1, 2] rfl rfl (by decide) (by decide) (fun r_5 u_7 H locs k_6 hP hD hS => ?_)
  have hP : va_P (dC, dI) vwCl [(nw, .inr (6, [.ref gr, .ref n1, .ref n2, .ref n3, .int 0])), (gr, .inr (4, [.int 0, .int 0, .int 0, .ref gs]))] H := hP
  have hD : va_D A [(nw, .inr (6, [.ref gr, .ref n1, .ref n2, .ref n3, .int 0])), (gr, .inr (4, [.int 0, .int 0, .int 0, .ref gs]))] := hD
  have er_5 : r_5 = -1 := k_6
  subst er_5
  exact eI X hr hlocks hP hD hS () [] (by decide) rfl rfl rfl (Nat.le_of_ble_eq_true rfl) (Nat.le_of_ble_eq_true rfl) dX11_toFill_12
set_option maxHeartbeats 4000000 in
set_option maxRecDepth 100000 in
theorem tX11_trap (l : Launch) (dC : Nat → ClassId) (dI : Nat → Nat → Nat) (cy : Nat → ClassId) (h0 : Nat) (v0 : Value) (nw : Nat) (v2 : Value) (v3 : Value) (v4 : Value) (v5 : Value) (v6 : Value) (v7 : Value) (v8 : Value) (v9 : Value) (v10 : Value) (v11 : Value) (v12 : Value) (v13 : Value) (v14 : Value) (v15 : Value) (v16 : Value) (gr : Nat) (gs : Nat) (n1 : Nat) (n2 : Nat) (n3 : Nat) : ctI l dC dI cy yX11_trap cX11_trap 6 .int ({ frames := 1, cells := 0, slots := 0, locals := 21 }) [.ref h0] [(h0, .inr (10, [v0, .ref nw, v2, v3, v4, v5, v6, v7, v8, v9, v10, v11, v12, v13, v14, v15, v16])), (nw, .inr (6, [.ref gr, .ref n1, .ref n2, .ref n3, .int 0])), (gr, .inr (4, [.int 0, .int 0, .int 0, .ref gs]))] (S := Unit) (fun r _ => r = -1) (fun _ => []) := by
  refine ctI.of (by decide +kernel) (Nat.le_of_ble_eq_true rfl) ?_
  intro p e s m args below meth c A ls X hr hlocks hin hA hP hD hS hl
  have hx := X.1
  have hb := X.2.1
  have hK := X.2.2.2.2.2.1
  have hl : lv_has ls 6 [(0, .ref h0)] := hl
  refine lv_aload_n hx hb dX11_trap_0 rfl (lv_at hl 0 rfl) ?_
  refine fI (wr := []) (rV_I (wc := [(h0, .inr (10, [v0, .ref nw, v2, v3, v4, v5, v6, v7, v8, v9, v10, v11, v12, v13, v14, v15, v16])), (nw, .inr (6, [.ref gr, .ref n1, .ref n2, .ref n3, .int 0])), (gr, .inr (4, [.int 0, .int 0, .int 0, .ref gs]))]) (As := []) (rest := []) X (tX11_hasPark l dC dI cy h0 v0 nw v2 v3 v4 v5 v6 v7 v8 v9 v10 v11 v12 v13 v14 v15 v16 gr gs n1 n2 n3) kX11_hasPark vX11_hasPark mX11_188 hP hD [0, 1, 2] (by decide) rfl 0 (ci := 10) rfl rfl rfl hl rfl rfl (Nat.le_of_ble_eq_true rfl) dX11_trap_1 ⟨Nat.le_of_ble_eq_true rfl, Nat.le_of_ble_eq_true rfl⟩ ⟨Nat.le_of_ble_eq_true rfl, Nat.le_of_ble_eq_true rfl⟩) hP hD hS hA [0, 1, 2] [] rfl rfl (by decide) (by decide) (fun r_1 u_3 H locs k_2 hP hD hS => ?_)
  have hP : va_P (dC, dI) vwCl [(h0, .inr (10, [v0, .ref nw, v2, v3, v4, v5, v6, v7, v8, v9, v10, v11, v12, v13, v14, v15, v16])), (nw, .inr (6, [.ref gr, .ref n1, .ref n2, .ref n3, .int 0])), (gr, .inr (4, [.int 0, .int 0, .int 0, .ref gs]))] H := hP
  have hD : va_D A [(h0, .inr (10, [v0, .ref nw, v2, v3, v4, v5, v6, v7, v8, v9, v10, v11, v12, v13, v14, v15, v16])), (nw, .inr (6, [.ref gr, .ref n1, .ref n2, .ref n3, .int 0])), (gr, .inr (4, [.int 0, .int 0, .int 0, .ref gs]))] := hD
  have er_1 : r_1 = 0 := k_2
  subst er_1
  refine lv_if_ne (tgt := 13) hx hb dX11_trap_4 (by decide) (fun h_4 => absurd (by decide) h_4) (fun _ => ?_)
  refine lv_aload_n hx hb dX11_trap_7 rfl (lv_at hl 0 rfl) ?_
  refine lv_iconst (v := 1) hx hb dX11_trap_8 (by decide) ?_
  refine fI (wr := [(nw, .inr (6, [.ref gr, .ref n1, .ref n2, .ref n3, .int 0])), (gr, .inr (4, [.int 0, .int 0, .int 0, .ref gs]))]) (rV_I (wc := [(h0, .inr (10, [v0, .ref nw, v2, v3, v4, v5, v6, v7, v8, v9, v10, v11, v12, v13, v14, v15, v16]))]) (As := [.int 1]) (rest := []) X (tX11_refuse l dC dI cy h0 v0 (.ref nw) v2 v3 v4 v5 v6 v7 v8 v9 v10 v11 v12 v13 v14 v15 v16 1) kX11_refuse vX11_refuse mX11_100 hP hD [0] (by decide) rfl 0 (ci := 10) rfl rfl rfl hl rfl rfl (Nat.le_of_ble_eq_true rfl) dX11_trap_9 ⟨Nat.le_of_ble_eq_true rfl, Nat.le_of_ble_eq_true rfl⟩ ⟨Nat.le_of_ble_eq_true rfl, Nat.le_of_ble_eq_true rfl⟩) hP hD hS hA [0] [1, 2] rfl rfl (by decide) (by decide) (fun r_5 u_7 H locs k_6 hP hD hS => ?_)
  have hP : va_P (dC, dI) vwCl [(nw, .inr (6, [.ref gr, .ref n1, .ref n2, .ref n3, .int 0])), (gr, .inr (4, [.int 0, .int 0, .int 0, .ref gs]))] H := hP
  have hD : va_D A [(nw, .inr (6, [.ref gr, .ref n1, .ref n2, .ref n3, .int 0])), (gr, .inr (4, [.int 0, .int 0, .int 0, .ref gs]))] := hD
  have er_5 : r_5 = -1 := k_6
  subst er_5
  exact eI X hr hlocks hP hD hS () [] (by decide) rfl rfl rfl (Nat.le_of_ble_eq_true rfl) (Nat.le_of_ble_eq_true rfl) dX11_trap_12
set_option maxHeartbeats 4000000 in
set_option maxRecDepth 100000 in
theorem tX11_fits (l : Launch) (dC : Nat → ClassId) (dI : Nat → Nat → Nat) (cy : Nat → ClassId) (h0 : Nat) (v0 : Value) (nw : Nat) (v2 : Value) (v3 : Value) (v4 : Value) (v5 : Value) (v6 : Value) (v7 : Value) (v8 : Value) (v9 : Value) (v10 : Value) (v11 : Value) (v12 : Value) (v13 : Value) (v14 : Value) (v15 : Value) (v16 : Value) (gr : Nat) (gs : Nat) (n1 : Nat) (n2 : Nat) (n3 : Nat) : ctI l dC dI cy yX11_fits cX11_fits 1 .int ({ frames := 1, cells := 0, slots := 0, locals := 21 }) [.ref h0] [(h0, .inr (10, [v0, .ref nw, v2, v3, v4, v5, v6, v7, v8, v9, v10, v11, v12, v13, v14, v15, v16])), (nw, .inr (6, [.ref gr, .ref n1, .ref n2, .ref n3, .int 0])), (gr, .inr (4, [.int 0, .int 0, .int 0, .ref gs]))] (S := Unit) (fun r _ => r = -1) (fun _ => []) := by
  refine ctI.of (by decide +kernel) (Nat.le_of_ble_eq_true rfl) ?_
  intro p e s m args below meth c A ls X hr hlocks hin hA hP hD hS hl
  have hx := X.1
  have hb := X.2.1
  have hK := X.2.2.2.2.2.1
  have hl : lv_has ls 1 [(0, .ref h0)] := hl
  refine lv_aload_n hx hb dX11_fits_0 rfl (lv_at hl 0 rfl) ?_
  refine fI (wr := []) (rV_I (wc := [(h0, .inr (10, [v0, .ref nw, v2, v3, v4, v5, v6, v7, v8, v9, v10, v11, v12, v13, v14, v15, v16])), (nw, .inr (6, [.ref gr, .ref n1, .ref n2, .ref n3, .int 0])), (gr, .inr (4, [.int 0, .int 0, .int 0, .ref gs]))]) (As := []) (rest := []) X (tX11_hasPark l dC dI cy h0 v0 nw v2 v3 v4 v5 v6 v7 v8 v9 v10 v11 v12 v13 v14 v15 v16 gr gs n1 n2 n3) kX11_hasPark vX11_hasPark mX11_188 hP hD [0, 1, 2] (by decide) rfl 0 (ci := 10) rfl rfl rfl hl rfl rfl (Nat.le_of_ble_eq_true rfl) dX11_fits_1 ⟨Nat.le_of_ble_eq_true rfl, Nat.le_of_ble_eq_true rfl⟩ ⟨Nat.le_of_ble_eq_true rfl, Nat.le_of_ble_eq_true rfl⟩) hP hD hS hA [0, 1, 2] [] rfl rfl (by decide) (by decide) (fun r_1 u_3 H locs k_2 hP hD hS => ?_)
  have hP : va_P (dC, dI) vwCl [(h0, .inr (10, [v0, .ref nw, v2, v3, v4, v5, v6, v7, v8, v9, v10, v11, v12, v13, v14, v15, v16])), (nw, .inr (6, [.ref gr, .ref n1, .ref n2, .ref n3, .int 0])), (gr, .inr (4, [.int 0, .int 0, .int 0, .ref gs]))] H := hP
  have hD : va_D A [(h0, .inr (10, [v0, .ref nw, v2, v3, v4, v5, v6, v7, v8, v9, v10, v11, v12, v13, v14, v15, v16])), (nw, .inr (6, [.ref gr, .ref n1, .ref n2, .ref n3, .int 0])), (gr, .inr (4, [.int 0, .int 0, .int 0, .ref gs]))] := hD
  have er_1 : r_1 = 0 := k_2
  subst er_1
  refine lv_if_ne (tgt := 13) hx hb dX11_fits_4 (by decide) (fun h_4 => absurd (by decide) h_4) (fun _ => ?_)
  refine lv_aload_n hx hb dX11_fits_7 rfl (lv_at hl 0 rfl) ?_
  refine lv_iconst (v := 1) hx hb dX11_fits_8 (by decide) ?_
  refine fI (wr := [(nw, .inr (6, [.ref gr, .ref n1, .ref n2, .ref n3, .int 0])), (gr, .inr (4, [.int 0, .int 0, .int 0, .ref gs]))]) (rV_I (wc := [(h0, .inr (10, [v0, .ref nw, v2, v3, v4, v5, v6, v7, v8, v9, v10, v11, v12, v13, v14, v15, v16]))]) (As := [.int 1]) (rest := []) X (tX11_refuse l dC dI cy h0 v0 (.ref nw) v2 v3 v4 v5 v6 v7 v8 v9 v10 v11 v12 v13 v14 v15 v16 1) kX11_refuse vX11_refuse mX11_100 hP hD [0] (by decide) rfl 0 (ci := 10) rfl rfl rfl hl rfl rfl (Nat.le_of_ble_eq_true rfl) dX11_fits_9 ⟨Nat.le_of_ble_eq_true rfl, Nat.le_of_ble_eq_true rfl⟩ ⟨Nat.le_of_ble_eq_true rfl, Nat.le_of_ble_eq_true rfl⟩) hP hD hS hA [0] [1, 2] rfl rfl (by decide) (by decide) (fun r_5 u_7 H locs k_6 hP hD hS => ?_)
  have hP : va_P (dC, dI) vwCl [(nw, .inr (6, [.ref gr, .ref n1, .ref n2, .ref n3, .int 0])), (gr, .inr (4, [.int 0, .int 0, .int 0, .ref gs]))] H := hP
  have hD : va_D A [(nw, .inr (6, [.ref gr, .ref n1, .ref n2, .ref n3, .int 0])), (gr, .inr (4, [.int 0, .int 0, .int 0, .ref gs]))] := hD
  have er_5 : r_5 = -1 := k_6
  subst er_5
  exact eI X hr hlocks hP hD hS () [] (by decide) rfl rfl rfl (Nat.le_of_ble_eq_true rfl) (Nat.le_of_ble_eq_true rfl) dX11_fits_12
set_option maxHeartbeats 4000000 in
set_option maxRecDepth 100000 in
theorem tX11_likeliest (l : Launch) (dC : Nat → ClassId) (dI : Nat → Nat → Nat) (cy : Nat → ClassId) (h0 : Nat) (v0 : Value) (nw : Nat) (v2 : Value) (v3 : Value) (v4 : Value) (v5 : Value) (v6 : Value) (v7 : Value) (v8 : Value) (v9 : Value) (v10 : Value) (v11 : Value) (v12 : Value) (v13 : Value) (v14 : Value) (v15 : Value) (v16 : Value) (gr : Nat) (gs : Nat) (n1 : Nat) (n2 : Nat) (n3 : Nat) : ctI l dC dI cy yX11_likeliest cX11_likeliest 1 .int ({ frames := 1, cells := 0, slots := 0, locals := 21 }) [.ref h0] [(h0, .inr (10, [v0, .ref nw, v2, v3, v4, v5, v6, v7, v8, v9, v10, v11, v12, v13, v14, v15, v16])), (nw, .inr (6, [.ref gr, .ref n1, .ref n2, .ref n3, .int 0])), (gr, .inr (4, [.int 0, .int 0, .int 0, .ref gs]))] (S := Unit) (fun r _ => r = -1) (fun _ => []) := by
  refine ctI.of (by decide +kernel) (Nat.le_of_ble_eq_true rfl) ?_
  intro p e s m args below meth c A ls X hr hlocks hin hA hP hD hS hl
  have hx := X.1
  have hb := X.2.1
  have hK := X.2.2.2.2.2.1
  have hl : lv_has ls 1 [(0, .ref h0)] := hl
  refine lv_aload_n hx hb dX11_likeliest_0 rfl (lv_at hl 0 rfl) ?_
  refine fI (wr := []) (rV_I (wc := [(h0, .inr (10, [v0, .ref nw, v2, v3, v4, v5, v6, v7, v8, v9, v10, v11, v12, v13, v14, v15, v16])), (nw, .inr (6, [.ref gr, .ref n1, .ref n2, .ref n3, .int 0])), (gr, .inr (4, [.int 0, .int 0, .int 0, .ref gs]))]) (As := []) (rest := []) X (tX11_hasPark l dC dI cy h0 v0 nw v2 v3 v4 v5 v6 v7 v8 v9 v10 v11 v12 v13 v14 v15 v16 gr gs n1 n2 n3) kX11_hasPark vX11_hasPark mX11_188 hP hD [0, 1, 2] (by decide) rfl 0 (ci := 10) rfl rfl rfl hl rfl rfl (Nat.le_of_ble_eq_true rfl) dX11_likeliest_1 ⟨Nat.le_of_ble_eq_true rfl, Nat.le_of_ble_eq_true rfl⟩ ⟨Nat.le_of_ble_eq_true rfl, Nat.le_of_ble_eq_true rfl⟩) hP hD hS hA [0, 1, 2] [] rfl rfl (by decide) (by decide) (fun r_1 u_3 H locs k_2 hP hD hS => ?_)
  have hP : va_P (dC, dI) vwCl [(h0, .inr (10, [v0, .ref nw, v2, v3, v4, v5, v6, v7, v8, v9, v10, v11, v12, v13, v14, v15, v16])), (nw, .inr (6, [.ref gr, .ref n1, .ref n2, .ref n3, .int 0])), (gr, .inr (4, [.int 0, .int 0, .int 0, .ref gs]))] H := hP
  have hD : va_D A [(h0, .inr (10, [v0, .ref nw, v2, v3, v4, v5, v6, v7, v8, v9, v10, v11, v12, v13, v14, v15, v16])), (nw, .inr (6, [.ref gr, .ref n1, .ref n2, .ref n3, .int 0])), (gr, .inr (4, [.int 0, .int 0, .int 0, .ref gs]))] := hD
  have er_1 : r_1 = 0 := k_2
  subst er_1
  refine lv_if_ne (tgt := 13) hx hb dX11_likeliest_4 (by decide) (fun h_4 => absurd (by decide) h_4) (fun _ => ?_)
  refine lv_aload_n hx hb dX11_likeliest_7 rfl (lv_at hl 0 rfl) ?_
  refine lv_iconst (v := 1) hx hb dX11_likeliest_8 (by decide) ?_
  refine fI (wr := [(nw, .inr (6, [.ref gr, .ref n1, .ref n2, .ref n3, .int 0])), (gr, .inr (4, [.int 0, .int 0, .int 0, .ref gs]))]) (rV_I (wc := [(h0, .inr (10, [v0, .ref nw, v2, v3, v4, v5, v6, v7, v8, v9, v10, v11, v12, v13, v14, v15, v16]))]) (As := [.int 1]) (rest := []) X (tX11_refuse l dC dI cy h0 v0 (.ref nw) v2 v3 v4 v5 v6 v7 v8 v9 v10 v11 v12 v13 v14 v15 v16 1) kX11_refuse vX11_refuse mX11_100 hP hD [0] (by decide) rfl 0 (ci := 10) rfl rfl rfl hl rfl rfl (Nat.le_of_ble_eq_true rfl) dX11_likeliest_9 ⟨Nat.le_of_ble_eq_true rfl, Nat.le_of_ble_eq_true rfl⟩ ⟨Nat.le_of_ble_eq_true rfl, Nat.le_of_ble_eq_true rfl⟩) hP hD hS hA [0] [1, 2] rfl rfl (by decide) (by decide) (fun r_5 u_7 H locs k_6 hP hD hS => ?_)
  have hP : va_P (dC, dI) vwCl [(nw, .inr (6, [.ref gr, .ref n1, .ref n2, .ref n3, .int 0])), (gr, .inr (4, [.int 0, .int 0, .int 0, .ref gs]))] H := hP
  have hD : va_D A [(nw, .inr (6, [.ref gr, .ref n1, .ref n2, .ref n3, .int 0])), (gr, .inr (4, [.int 0, .int 0, .int 0, .ref gs]))] := hD
  have er_5 : r_5 = -1 := k_6
  subst er_5
  exact eI X hr hlocks hP hD hS () [] (by decide) rfl rfl rfl (Nat.le_of_ble_eq_true rfl) (Nat.le_of_ble_eq_true rfl) dX11_likeliest_12
set_option maxHeartbeats 4000000 in
set_option maxRecDepth 100000 in
theorem tX11_tread (l : Launch) (dC : Nat → ClassId) (dI : Nat → Nat → Nat) (cy : Nat → ClassId) (h0 : Nat) (v0 : Value) (nw : Nat) (v2 : Value) (v3 : Value) (v4 : Value) (v5 : Value) (v6 : Value) (v7 : Value) (v8 : Value) (v9 : Value) (v10 : Value) (v11 : Value) (v12 : Value) (v13 : Value) (v14 : Value) (v15 : Value) (v16 : Value) (gr : Nat) (gs : Nat) (n1 : Nat) (n2 : Nat) (n3 : Nat) : ctI l dC dI cy yX11_tread cX11_tread 1 .int ({ frames := 1, cells := 0, slots := 0, locals := 21 }) [.ref h0] [(h0, .inr (10, [v0, .ref nw, v2, v3, v4, v5, v6, v7, v8, v9, v10, v11, v12, v13, v14, v15, v16])), (nw, .inr (6, [.ref gr, .ref n1, .ref n2, .ref n3, .int 0])), (gr, .inr (4, [.int 0, .int 0, .int 0, .ref gs]))] (S := Unit) (fun r _ => r = -1) (fun _ => []) := by
  refine ctI.of (by decide +kernel) (Nat.le_of_ble_eq_true rfl) ?_
  intro p e s m args below meth c A ls X hr hlocks hin hA hP hD hS hl
  have hx := X.1
  have hb := X.2.1
  have hK := X.2.2.2.2.2.1
  have hl : lv_has ls 1 [(0, .ref h0)] := hl
  refine lv_aload_n hx hb dX11_tread_0 rfl (lv_at hl 0 rfl) ?_
  refine fI (wr := []) (rV_I (wc := [(h0, .inr (10, [v0, .ref nw, v2, v3, v4, v5, v6, v7, v8, v9, v10, v11, v12, v13, v14, v15, v16])), (nw, .inr (6, [.ref gr, .ref n1, .ref n2, .ref n3, .int 0])), (gr, .inr (4, [.int 0, .int 0, .int 0, .ref gs]))]) (As := []) (rest := []) X (tX11_hasPark l dC dI cy h0 v0 nw v2 v3 v4 v5 v6 v7 v8 v9 v10 v11 v12 v13 v14 v15 v16 gr gs n1 n2 n3) kX11_hasPark vX11_hasPark mX11_188 hP hD [0, 1, 2] (by decide) rfl 0 (ci := 10) rfl rfl rfl hl rfl rfl (Nat.le_of_ble_eq_true rfl) dX11_tread_1 ⟨Nat.le_of_ble_eq_true rfl, Nat.le_of_ble_eq_true rfl⟩ ⟨Nat.le_of_ble_eq_true rfl, Nat.le_of_ble_eq_true rfl⟩) hP hD hS hA [0, 1, 2] [] rfl rfl (by decide) (by decide) (fun r_1 u_3 H locs k_2 hP hD hS => ?_)
  have hP : va_P (dC, dI) vwCl [(h0, .inr (10, [v0, .ref nw, v2, v3, v4, v5, v6, v7, v8, v9, v10, v11, v12, v13, v14, v15, v16])), (nw, .inr (6, [.ref gr, .ref n1, .ref n2, .ref n3, .int 0])), (gr, .inr (4, [.int 0, .int 0, .int 0, .ref gs]))] H := hP
  have hD : va_D A [(h0, .inr (10, [v0, .ref nw, v2, v3, v4, v5, v6, v7, v8, v9, v10, v11, v12, v13, v14, v15, v16])), (nw, .inr (6, [.ref gr, .ref n1, .ref n2, .ref n3, .int 0])), (gr, .inr (4, [.int 0, .int 0, .int 0, .ref gs]))] := hD
  have er_1 : r_1 = 0 := k_2
  subst er_1
  refine lv_if_ne (tgt := 13) hx hb dX11_tread_4 (by decide) (fun h_4 => absurd (by decide) h_4) (fun _ => ?_)
  refine lv_aload_n hx hb dX11_tread_7 rfl (lv_at hl 0 rfl) ?_
  refine lv_iconst (v := 1) hx hb dX11_tread_8 (by decide) ?_
  refine fI (wr := [(nw, .inr (6, [.ref gr, .ref n1, .ref n2, .ref n3, .int 0])), (gr, .inr (4, [.int 0, .int 0, .int 0, .ref gs]))]) (rV_I (wc := [(h0, .inr (10, [v0, .ref nw, v2, v3, v4, v5, v6, v7, v8, v9, v10, v11, v12, v13, v14, v15, v16]))]) (As := [.int 1]) (rest := []) X (tX11_refuse l dC dI cy h0 v0 (.ref nw) v2 v3 v4 v5 v6 v7 v8 v9 v10 v11 v12 v13 v14 v15 v16 1) kX11_refuse vX11_refuse mX11_100 hP hD [0] (by decide) rfl 0 (ci := 10) rfl rfl rfl hl rfl rfl (Nat.le_of_ble_eq_true rfl) dX11_tread_9 ⟨Nat.le_of_ble_eq_true rfl, Nat.le_of_ble_eq_true rfl⟩ ⟨Nat.le_of_ble_eq_true rfl, Nat.le_of_ble_eq_true rfl⟩) hP hD hS hA [0] [1, 2] rfl rfl (by decide) (by decide) (fun r_5 u_7 H locs k_6 hP hD hS => ?_)
  have hP : va_P (dC, dI) vwCl [(nw, .inr (6, [.ref gr, .ref n1, .ref n2, .ref n3, .int 0])), (gr, .inr (4, [.int 0, .int 0, .int 0, .ref gs]))] H := hP
  have hD : va_D A [(nw, .inr (6, [.ref gr, .ref n1, .ref n2, .ref n3, .int 0])), (gr, .inr (4, [.int 0, .int 0, .int 0, .ref gs]))] := hD
  have er_5 : r_5 = -1 := k_6
  subst er_5
  exact eI X hr hlocks hP hD hS () [] (by decide) rfl rfl rfl (Nat.le_of_ble_eq_true rfl) (Nat.le_of_ble_eq_true rfl) dX11_tread_12
set_option maxHeartbeats 4000000 in
set_option maxRecDepth 100000 in
theorem tX11_treadLeaves (l : Launch) (dC : Nat → ClassId) (dI : Nat → Nat → Nat) (cy : Nat → ClassId) (h0 : Nat) (v0 : Value) (nw : Nat) (v2 : Value) (v3 : Value) (v4 : Value) (v5 : Value) (v6 : Value) (v7 : Value) (v8 : Value) (v9 : Value) (v10 : Value) (v11 : Value) (v12 : Value) (v13 : Value) (v14 : Value) (v15 : Value) (v16 : Value) (gr : Nat) (gs : Nat) (n1 : Nat) (n2 : Nat) (n3 : Nat) : ctI l dC dI cy yX11_treadLeaves cX11_treadLeaves 2 .int ({ frames := 1, cells := 0, slots := 0, locals := 21 }) [.ref h0] [(h0, .inr (10, [v0, .ref nw, v2, v3, v4, v5, v6, v7, v8, v9, v10, v11, v12, v13, v14, v15, v16])), (nw, .inr (6, [.ref gr, .ref n1, .ref n2, .ref n3, .int 0])), (gr, .inr (4, [.int 0, .int 0, .int 0, .ref gs]))] (S := Unit) (fun r _ => r = -1) (fun _ => []) := by
  refine ctI.of (by decide +kernel) (Nat.le_of_ble_eq_true rfl) ?_
  intro p e s m args below meth c A ls X hr hlocks hin hA hP hD hS hl
  have hx := X.1
  have hb := X.2.1
  have hK := X.2.2.2.2.2.1
  have hl : lv_has ls 2 [(0, .ref h0)] := hl
  refine lv_aload_n hx hb dX11_treadLeaves_0 rfl (lv_at hl 0 rfl) ?_
  refine fI (wr := []) (rV_I (wc := [(h0, .inr (10, [v0, .ref nw, v2, v3, v4, v5, v6, v7, v8, v9, v10, v11, v12, v13, v14, v15, v16])), (nw, .inr (6, [.ref gr, .ref n1, .ref n2, .ref n3, .int 0])), (gr, .inr (4, [.int 0, .int 0, .int 0, .ref gs]))]) (As := []) (rest := []) X (tX11_hasPark l dC dI cy h0 v0 nw v2 v3 v4 v5 v6 v7 v8 v9 v10 v11 v12 v13 v14 v15 v16 gr gs n1 n2 n3) kX11_hasPark vX11_hasPark mX11_188 hP hD [0, 1, 2] (by decide) rfl 0 (ci := 10) rfl rfl rfl hl rfl rfl (Nat.le_of_ble_eq_true rfl) dX11_treadLeaves_1 ⟨Nat.le_of_ble_eq_true rfl, Nat.le_of_ble_eq_true rfl⟩ ⟨Nat.le_of_ble_eq_true rfl, Nat.le_of_ble_eq_true rfl⟩) hP hD hS hA [0, 1, 2] [] rfl rfl (by decide) (by decide) (fun r_1 u_3 H locs k_2 hP hD hS => ?_)
  have hP : va_P (dC, dI) vwCl [(h0, .inr (10, [v0, .ref nw, v2, v3, v4, v5, v6, v7, v8, v9, v10, v11, v12, v13, v14, v15, v16])), (nw, .inr (6, [.ref gr, .ref n1, .ref n2, .ref n3, .int 0])), (gr, .inr (4, [.int 0, .int 0, .int 0, .ref gs]))] H := hP
  have hD : va_D A [(h0, .inr (10, [v0, .ref nw, v2, v3, v4, v5, v6, v7, v8, v9, v10, v11, v12, v13, v14, v15, v16])), (nw, .inr (6, [.ref gr, .ref n1, .ref n2, .ref n3, .int 0])), (gr, .inr (4, [.int 0, .int 0, .int 0, .ref gs]))] := hD
  have er_1 : r_1 = 0 := k_2
  subst er_1
  refine lv_if_ne (tgt := 13) hx hb dX11_treadLeaves_4 (by decide) (fun h_4 => absurd (by decide) h_4) (fun _ => ?_)
  refine lv_aload_n hx hb dX11_treadLeaves_7 rfl (lv_at hl 0 rfl) ?_
  refine lv_iconst (v := 1) hx hb dX11_treadLeaves_8 (by decide) ?_
  refine fI (wr := [(nw, .inr (6, [.ref gr, .ref n1, .ref n2, .ref n3, .int 0])), (gr, .inr (4, [.int 0, .int 0, .int 0, .ref gs]))]) (rV_I (wc := [(h0, .inr (10, [v0, .ref nw, v2, v3, v4, v5, v6, v7, v8, v9, v10, v11, v12, v13, v14, v15, v16]))]) (As := [.int 1]) (rest := []) X (tX11_refuse l dC dI cy h0 v0 (.ref nw) v2 v3 v4 v5 v6 v7 v8 v9 v10 v11 v12 v13 v14 v15 v16 1) kX11_refuse vX11_refuse mX11_100 hP hD [0] (by decide) rfl 0 (ci := 10) rfl rfl rfl hl rfl rfl (Nat.le_of_ble_eq_true rfl) dX11_treadLeaves_9 ⟨Nat.le_of_ble_eq_true rfl, Nat.le_of_ble_eq_true rfl⟩ ⟨Nat.le_of_ble_eq_true rfl, Nat.le_of_ble_eq_true rfl⟩) hP hD hS hA [0] [1, 2] rfl rfl (by decide) (by decide) (fun r_5 u_7 H locs k_6 hP hD hS => ?_)
  have hP : va_P (dC, dI) vwCl [(nw, .inr (6, [.ref gr, .ref n1, .ref n2, .ref n3, .int 0])), (gr, .inr (4, [.int 0, .int 0, .int 0, .ref gs]))] H := hP
  have hD : va_D A [(nw, .inr (6, [.ref gr, .ref n1, .ref n2, .ref n3, .int 0])), (gr, .inr (4, [.int 0, .int 0, .int 0, .ref gs]))] := hD
  have er_5 : r_5 = -1 := k_6
  subst er_5
  exact eI X hr hlocks hP hD hS () [] (by decide) rfl rfl rfl (Nat.le_of_ble_eq_true rfl) (Nat.le_of_ble_eq_true rfl) dX11_treadLeaves_12
set_option maxHeartbeats 4000000 in
set_option maxRecDepth 100000 in
theorem tX11_judge (l : Launch) (dC : Nat → ClassId) (dI : Nat → Nat → Nat) (cy : Nat → ClassId) (h0 : Nat) (v0 : Value) (nw : Nat) (v2 : Value) (v3 : Value) (v4 : Value) (v5 : Value) (v6 : Value) (v7 : Value) (v8 : Value) (v9 : Value) (v10 : Value) (v11 : Value) (v12 : Value) (v13 : Value) (v14 : Value) (v15 : Value) (v16 : Value) (gr : Nat) (gs : Nat) (n1 : Nat) (n2 : Nat) (n3 : Nat) : ctI l dC dI cy yX11_judge cX11_judge 3 .int ({ frames := 1, cells := 0, slots := 0, locals := 21 }) [.ref h0] [(h0, .inr (10, [v0, .ref nw, v2, v3, v4, v5, v6, v7, v8, v9, v10, v11, v12, v13, v14, v15, v16])), (nw, .inr (6, [.ref gr, .ref n1, .ref n2, .ref n3, .int 0])), (gr, .inr (4, [.int 0, .int 0, .int 0, .ref gs]))] (S := Unit) (fun r _ => r = -1) (fun _ => []) := by
  refine ctI.of (by decide +kernel) (Nat.le_of_ble_eq_true rfl) ?_
  intro p e s m args below meth c A ls X hr hlocks hin hA hP hD hS hl
  have hx := X.1
  have hb := X.2.1
  have hK := X.2.2.2.2.2.1
  have hl : lv_has ls 3 [(0, .ref h0)] := hl
  refine lv_aload_n hx hb dX11_judge_0 rfl (lv_at hl 0 rfl) ?_
  refine fI (wr := []) (rV_I (wc := [(h0, .inr (10, [v0, .ref nw, v2, v3, v4, v5, v6, v7, v8, v9, v10, v11, v12, v13, v14, v15, v16])), (nw, .inr (6, [.ref gr, .ref n1, .ref n2, .ref n3, .int 0])), (gr, .inr (4, [.int 0, .int 0, .int 0, .ref gs]))]) (As := []) (rest := []) X (tX11_hasPark l dC dI cy h0 v0 nw v2 v3 v4 v5 v6 v7 v8 v9 v10 v11 v12 v13 v14 v15 v16 gr gs n1 n2 n3) kX11_hasPark vX11_hasPark mX11_188 hP hD [0, 1, 2] (by decide) rfl 0 (ci := 10) rfl rfl rfl hl rfl rfl (Nat.le_of_ble_eq_true rfl) dX11_judge_1 ⟨Nat.le_of_ble_eq_true rfl, Nat.le_of_ble_eq_true rfl⟩ ⟨Nat.le_of_ble_eq_true rfl, Nat.le_of_ble_eq_true rfl⟩) hP hD hS hA [0, 1, 2] [] rfl rfl (by decide) (by decide) (fun r_1 u_3 H locs k_2 hP hD hS => ?_)
  have hP : va_P (dC, dI) vwCl [(h0, .inr (10, [v0, .ref nw, v2, v3, v4, v5, v6, v7, v8, v9, v10, v11, v12, v13, v14, v15, v16])), (nw, .inr (6, [.ref gr, .ref n1, .ref n2, .ref n3, .int 0])), (gr, .inr (4, [.int 0, .int 0, .int 0, .ref gs]))] H := hP
  have hD : va_D A [(h0, .inr (10, [v0, .ref nw, v2, v3, v4, v5, v6, v7, v8, v9, v10, v11, v12, v13, v14, v15, v16])), (nw, .inr (6, [.ref gr, .ref n1, .ref n2, .ref n3, .int 0])), (gr, .inr (4, [.int 0, .int 0, .int 0, .ref gs]))] := hD
  have er_1 : r_1 = 0 := k_2
  subst er_1
  refine lv_if_ne (tgt := 13) hx hb dX11_judge_4 (by decide) (fun h_4 => absurd (by decide) h_4) (fun _ => ?_)
  refine lv_aload_n hx hb dX11_judge_7 rfl (lv_at hl 0 rfl) ?_
  refine lv_iconst (v := 1) hx hb dX11_judge_8 (by decide) ?_
  refine fI (wr := [(nw, .inr (6, [.ref gr, .ref n1, .ref n2, .ref n3, .int 0])), (gr, .inr (4, [.int 0, .int 0, .int 0, .ref gs]))]) (rV_I (wc := [(h0, .inr (10, [v0, .ref nw, v2, v3, v4, v5, v6, v7, v8, v9, v10, v11, v12, v13, v14, v15, v16]))]) (As := [.int 1]) (rest := []) X (tX11_refuse l dC dI cy h0 v0 (.ref nw) v2 v3 v4 v5 v6 v7 v8 v9 v10 v11 v12 v13 v14 v15 v16 1) kX11_refuse vX11_refuse mX11_100 hP hD [0] (by decide) rfl 0 (ci := 10) rfl rfl rfl hl rfl rfl (Nat.le_of_ble_eq_true rfl) dX11_judge_9 ⟨Nat.le_of_ble_eq_true rfl, Nat.le_of_ble_eq_true rfl⟩ ⟨Nat.le_of_ble_eq_true rfl, Nat.le_of_ble_eq_true rfl⟩) hP hD hS hA [0] [1, 2] rfl rfl (by decide) (by decide) (fun r_5 u_7 H locs k_6 hP hD hS => ?_)
  have hP : va_P (dC, dI) vwCl [(nw, .inr (6, [.ref gr, .ref n1, .ref n2, .ref n3, .int 0])), (gr, .inr (4, [.int 0, .int 0, .int 0, .ref gs]))] H := hP
  have hD : va_D A [(nw, .inr (6, [.ref gr, .ref n1, .ref n2, .ref n3, .int 0])), (gr, .inr (4, [.int 0, .int 0, .int 0, .ref gs]))] := hD
  have er_5 : r_5 = -1 := k_6
  subst er_5
  exact eI X hr hlocks hP hD hS () [] (by decide) rfl rfl rfl (Nat.le_of_ble_eq_true rfl) (Nat.le_of_ble_eq_true rfl) dX11_judge_12
set_option maxHeartbeats 4000000 in
set_option maxRecDepth 100000 in
theorem tX11_rests (l : Launch) (dC : Nat → ClassId) (dI : Nat → Nat → Nat) (cy : Nat → ClassId) (h0 : Nat) (v0 : Value) (nw : Nat) (v2 : Value) (v3 : Value) (v4 : Value) (v5 : Value) (v6 : Value) (v7 : Value) (v8 : Value) (v9 : Value) (v10 : Value) (v11 : Value) (v12 : Value) (v13 : Value) (v14 : Value) (v15 : Value) (v16 : Value) (gr : Nat) (gs : Nat) (n1 : Nat) (n2 : Nat) (n3 : Nat) (p1 : Int32) : ctI l dC dI cy yX11_rests cX11_rests 5 .int ({ frames := 2, cells := 0, slots := 0, locals := 41 }) [.ref h0, .int p1] [(h0, .inr (10, [v0, .ref nw, v2, v3, v4, v5, v6, v7, v8, v9, v10, v11, v12, v13, v14, v15, v16])), (nw, .inr (6, [.ref gr, .ref n1, .ref n2, .ref n3, .int 0])), (gr, .inr (4, [.int 0, .int 0, .int 0, .ref gs]))] (S := Unit) (fun r _ => r = -1) (fun _ => []) := by
  refine ctI.of (by decide +kernel) (Nat.le_of_ble_eq_true rfl) ?_
  intro p e s m args below meth c A ls X hr hlocks hin hA hP hD hS hl
  have hx := X.1
  have hb := X.2.1
  have hK := X.2.2.2.2.2.1
  have hl : lv_has ls 5 [(0, .ref h0), (1, .int p1)] := hl
  refine lv_aload_n hx hb dX11_rests_0 rfl (lv_at hl 0 rfl) ?_
  refine lv_iload_n hx hb dX11_rests_1 rfl (lv_at hl 1 rfl) ?_
  refine fI (wr := []) (rV_I (wc := [(h0, .inr (10, [v0, .ref nw, v2, v3, v4, v5, v6, v7, v8, v9, v10, v11, v12, v13, v14, v15, v16])), (nw, .inr (6, [.ref gr, .ref n1, .ref n2, .ref n3, .int 0])), (gr, .inr (4, [.int 0, .int 0, .int 0, .ref gs]))]) (As := [.int p1]) (rest := []) X (tX11_refusalOfShame l dC dI cy h0 v0 nw v2 v3 v4 v5 v6 v7 v8 v9 v10 v11 v12 v13 v14 v15 v16 gr gs n1 n2 n3 p1) kX11_refusalOfShame vX11_refusalOfShame mX11_318 hP hD [0, 1, 2] (by decide) rfl 0 (ci := 10) rfl rfl rfl hl rfl rfl (Nat.le_of_ble_eq_true rfl) dX11_rests_2 ⟨Nat.le_of_ble_eq_true rfl, Nat.le_of_ble_eq_true rfl⟩ ⟨Nat.le_of_ble_eq_true rfl, Nat.le_of_ble_eq_true rfl⟩) hP hD hS hA [0, 1, 2] [] rfl rfl (by decide) (by decide) (fun r_1 u_3 H locs k_2 hP hD hS => ?_)
  have hP : va_P (dC, dI) vwCl [(h0, .inr (10, [v0, .ref nw, v2, v3, v4, v5, v6, v7, v8, v9, v10, v11, v12, v13, v14, v15, v16])), (nw, .inr (6, [.ref gr, .ref n1, .ref n2, .ref n3, .int 0])), (gr, .inr (4, [.int 0, .int 0, .int 0, .ref gs]))] H := hP
  have hD : va_D A [(h0, .inr (10, [v0, .ref nw, v2, v3, v4, v5, v6, v7, v8, v9, v10, v11, v12, v13, v14, v15, v16])), (nw, .inr (6, [.ref gr, .ref n1, .ref n2, .ref n3, .int 0])), (gr, .inr (4, [.int 0, .int 0, .int 0, .ref gs]))] := hD
  have er_1 : r_1 = 1 := k_2
  subst er_1
  refine lv_istore_n (lv' := [(2, .int 1), (0, .ref h0), (1, .int p1)]) hx hb dX11_rests_5 rfl hl (by decide) rfl (fun ls hl => ?_)
  refine lv_iload_n hx hb dX11_rests_6 rfl (lv_at hl 0 rfl) ?_
  refine lv_if_eq (tgt := 16) hx hb dX11_rests_7 (by decide) (fun h_4 => absurd h_4 (by decide)) (fun _ => ?_)
  refine lv_aload_n hx hb dX11_rests_10 rfl (lv_at hl 1 rfl) ?_
  refine lv_iload_n hx hb dX11_rests_11 rfl (lv_at hl 0 rfl) ?_
  refine fI (wr := [(nw, .inr (6, [.ref gr, .ref n1, .ref n2, .ref n3, .int 0])), (gr, .inr (4, [.int 0, .int 0, .int 0, .ref gs]))]) (rV_I (wc := [(h0, .inr (10, [v0, .ref nw, v2, v3, v4, v5, v6, v7, v8, v9, v10, v11, v12, v13, v14, v15, v16]))]) (As := [.int 1]) (rest := []) X (tX11_refuse l dC dI cy h0 v0 (.ref nw) v2 v3 v4 v5 v6 v7 v8 v9 v10 v11 v12 v13 v14 v15 v16 1) kX11_refuse vX11_refuse mX11_100 hP hD [0] (by decide) rfl 0 (ci := 10) rfl rfl rfl hl rfl rfl (Nat.le_of_ble_eq_true rfl) dX11_rests_12 ⟨Nat.le_of_ble_eq_true rfl, Nat.le_of_ble_eq_true rfl⟩ ⟨Nat.le_of_ble_eq_true rfl, Nat.le_of_ble_eq_true rfl⟩) hP hD hS hA [0] [1, 2] rfl rfl (by decide) (by decide) (fun r_5 u_7 H locs k_6 hP hD hS => ?_)
  have hP : va_P (dC, dI) vwCl [(nw, .inr (6, [.ref gr, .ref n1, .ref n2, .ref n3, .int 0])), (gr, .inr (4, [.int 0, .int 0, .int 0, .ref gs]))] H := hP
  have hD : va_D A [(nw, .inr (6, [.ref gr, .ref n1, .ref n2, .ref n3, .int 0])), (gr, .inr (4, [.int 0, .int 0, .int 0, .ref gs]))] := hD
  have er_5 : r_5 = -1 := k_6
  subst er_5
  exact eI X hr hlocks hP hD hS () [] (by decide) rfl rfl rfl (Nat.le_of_ble_eq_true rfl) (Nat.le_of_ble_eq_true rfl) dX11_rests_15
set_option maxHeartbeats 4000000 in
set_option maxRecDepth 100000 in
theorem tX11_rest (l : Launch) (dC : Nat → ClassId) (dI : Nat → Nat → Nat) (cy : Nat → ClassId) (h0 : Nat) (v0 : Value) (nw : Nat) (v2 : Value) (v3 : Value) (v4 : Value) (v5 : Value) (v6 : Value) (v7 : Value) (v8 : Value) (v9 : Value) (v10 : Value) (v11 : Value) (v12 : Value) (v13 : Value) (v14 : Value) (v15 : Value) (v16 : Value) (gr : Nat) (gs : Nat) (n1 : Nat) (n2 : Nat) (n3 : Nat) (p1 : Int32) : ctI l dC dI cy yX11_rest cX11_rest 4 .int ({ frames := 2, cells := 0, slots := 0, locals := 41 }) [.ref h0, .int p1] [(h0, .inr (10, [v0, .ref nw, v2, v3, v4, v5, v6, v7, v8, v9, v10, v11, v12, v13, v14, v15, v16])), (nw, .inr (6, [.ref gr, .ref n1, .ref n2, .ref n3, .int 0])), (gr, .inr (4, [.int 0, .int 0, .int 0, .ref gs]))] (S := Unit) (fun r _ => r = -1) (fun _ => []) := by
  refine ctI.of (by decide +kernel) (Nat.le_of_ble_eq_true rfl) ?_
  intro p e s m args below meth c A ls X hr hlocks hin hA hP hD hS hl
  have hx := X.1
  have hb := X.2.1
  have hK := X.2.2.2.2.2.1
  have hl : lv_has ls 4 [(0, .ref h0), (1, .int p1)] := hl
  refine lv_aload_n hx hb dX11_rest_0 rfl (lv_at hl 0 rfl) ?_
  refine lv_iload_n hx hb dX11_rest_1 rfl (lv_at hl 1 rfl) ?_
  refine fI (wr := []) (rV_I (wc := [(h0, .inr (10, [v0, .ref nw, v2, v3, v4, v5, v6, v7, v8, v9, v10, v11, v12, v13, v14, v15, v16])), (nw, .inr (6, [.ref gr, .ref n1, .ref n2, .ref n3, .int 0])), (gr, .inr (4, [.int 0, .int 0, .int 0, .ref gs]))]) (As := [.int p1]) (rest := []) X (tX11_refusalOfShame l dC dI cy h0 v0 nw v2 v3 v4 v5 v6 v7 v8 v9 v10 v11 v12 v13 v14 v15 v16 gr gs n1 n2 n3 p1) kX11_refusalOfShame vX11_refusalOfShame mX11_318 hP hD [0, 1, 2] (by decide) rfl 0 (ci := 10) rfl rfl rfl hl rfl rfl (Nat.le_of_ble_eq_true rfl) dX11_rest_2 ⟨Nat.le_of_ble_eq_true rfl, Nat.le_of_ble_eq_true rfl⟩ ⟨Nat.le_of_ble_eq_true rfl, Nat.le_of_ble_eq_true rfl⟩) hP hD hS hA [0, 1, 2] [] rfl rfl (by decide) (by decide) (fun r_1 u_3 H locs k_2 hP hD hS => ?_)
  have hP : va_P (dC, dI) vwCl [(h0, .inr (10, [v0, .ref nw, v2, v3, v4, v5, v6, v7, v8, v9, v10, v11, v12, v13, v14, v15, v16])), (nw, .inr (6, [.ref gr, .ref n1, .ref n2, .ref n3, .int 0])), (gr, .inr (4, [.int 0, .int 0, .int 0, .ref gs]))] H := hP
  have hD : va_D A [(h0, .inr (10, [v0, .ref nw, v2, v3, v4, v5, v6, v7, v8, v9, v10, v11, v12, v13, v14, v15, v16])), (nw, .inr (6, [.ref gr, .ref n1, .ref n2, .ref n3, .int 0])), (gr, .inr (4, [.int 0, .int 0, .int 0, .ref gs]))] := hD
  have er_1 : r_1 = 1 := k_2
  subst er_1
  refine lv_istore_n (lv' := [(2, .int 1), (0, .ref h0), (1, .int p1)]) hx hb dX11_rest_5 rfl hl (by decide) rfl (fun ls hl => ?_)
  refine lv_iload_n hx hb dX11_rest_6 rfl (lv_at hl 0 rfl) ?_
  refine lv_if_eq (tgt := 16) hx hb dX11_rest_7 (by decide) (fun h_4 => absurd h_4 (by decide)) (fun _ => ?_)
  refine lv_aload_n hx hb dX11_rest_10 rfl (lv_at hl 1 rfl) ?_
  refine lv_iload_n hx hb dX11_rest_11 rfl (lv_at hl 0 rfl) ?_
  refine fI (wr := [(nw, .inr (6, [.ref gr, .ref n1, .ref n2, .ref n3, .int 0])), (gr, .inr (4, [.int 0, .int 0, .int 0, .ref gs]))]) (rV_I (wc := [(h0, .inr (10, [v0, .ref nw, v2, v3, v4, v5, v6, v7, v8, v9, v10, v11, v12, v13, v14, v15, v16]))]) (As := [.int 1]) (rest := []) X (tX11_refuse l dC dI cy h0 v0 (.ref nw) v2 v3 v4 v5 v6 v7 v8 v9 v10 v11 v12 v13 v14 v15 v16 1) kX11_refuse vX11_refuse mX11_100 hP hD [0] (by decide) rfl 0 (ci := 10) rfl rfl rfl hl rfl rfl (Nat.le_of_ble_eq_true rfl) dX11_rest_12 ⟨Nat.le_of_ble_eq_true rfl, Nat.le_of_ble_eq_true rfl⟩ ⟨Nat.le_of_ble_eq_true rfl, Nat.le_of_ble_eq_true rfl⟩) hP hD hS hA [0] [1, 2] rfl rfl (by decide) (by decide) (fun r_5 u_7 H locs k_6 hP hD hS => ?_)
  have hP : va_P (dC, dI) vwCl [(nw, .inr (6, [.ref gr, .ref n1, .ref n2, .ref n3, .int 0])), (gr, .inr (4, [.int 0, .int 0, .int 0, .ref gs]))] H := hP
  have hD : va_D A [(nw, .inr (6, [.ref gr, .ref n1, .ref n2, .ref n3, .int 0])), (gr, .inr (4, [.int 0, .int 0, .int 0, .ref gs]))] := hD
  have er_5 : r_5 = -1 := k_6
  subst er_5
  exact eI X hr hlocks hP hD hS () [] (by decide) rfl rfl rfl (Nat.le_of_ble_eq_true rfl) (Nat.le_of_ble_eq_true rfl) dX11_rest_15
set_option maxHeartbeats 4000000 in
set_option maxRecDepth 100000 in
theorem tX11_image (l : Launch) (dC : Nat → ClassId) (dI : Nat → Nat → Nat) (cy : Nat → ClassId) (h0 : Nat) (v0 : Value) (nw : Nat) (v2 : Value) (v3 : Value) (v4 : Value) (v5 : Value) (v6 : Value) (v7 : Value) (v8 : Value) (v9 : Value) (v10 : Value) (v11 : Value) (v12 : Value) (v13 : Value) (v14 : Value) (v15 : Value) (v16 : Value) (gr : Nat) (gs : Nat) (n1 : Nat) (n2 : Nat) (n3 : Nat) : ctI l dC dI cy yX11_image cX11_image 1 .int ({ frames := 1, cells := 0, slots := 0, locals := 21 }) [.ref h0] [(h0, .inr (10, [v0, .ref nw, v2, v3, v4, v5, v6, v7, v8, v9, v10, v11, v12, v13, v14, v15, v16])), (nw, .inr (6, [.ref gr, .ref n1, .ref n2, .ref n3, .int 0])), (gr, .inr (4, [.int 0, .int 0, .int 0, .ref gs]))] (S := Unit) (fun r _ => r = -1) (fun _ => []) := by
  refine ctI.of (by decide +kernel) (Nat.le_of_ble_eq_true rfl) ?_
  intro p e s m args below meth c A ls X hr hlocks hin hA hP hD hS hl
  have hx := X.1
  have hb := X.2.1
  have hK := X.2.2.2.2.2.1
  have hl : lv_has ls 1 [(0, .ref h0)] := hl
  refine lv_aload_n hx hb dX11_image_0 rfl (lv_at hl 0 rfl) ?_
  refine fI (wr := []) (rV_I (wc := [(h0, .inr (10, [v0, .ref nw, v2, v3, v4, v5, v6, v7, v8, v9, v10, v11, v12, v13, v14, v15, v16])), (nw, .inr (6, [.ref gr, .ref n1, .ref n2, .ref n3, .int 0])), (gr, .inr (4, [.int 0, .int 0, .int 0, .ref gs]))]) (As := []) (rest := []) X (tX11_hasPark l dC dI cy h0 v0 nw v2 v3 v4 v5 v6 v7 v8 v9 v10 v11 v12 v13 v14 v15 v16 gr gs n1 n2 n3) kX11_hasPark vX11_hasPark mX11_188 hP hD [0, 1, 2] (by decide) rfl 0 (ci := 10) rfl rfl rfl hl rfl rfl (Nat.le_of_ble_eq_true rfl) dX11_image_1 ⟨Nat.le_of_ble_eq_true rfl, Nat.le_of_ble_eq_true rfl⟩ ⟨Nat.le_of_ble_eq_true rfl, Nat.le_of_ble_eq_true rfl⟩) hP hD hS hA [0, 1, 2] [] rfl rfl (by decide) (by decide) (fun r_1 u_3 H locs k_2 hP hD hS => ?_)
  have hP : va_P (dC, dI) vwCl [(h0, .inr (10, [v0, .ref nw, v2, v3, v4, v5, v6, v7, v8, v9, v10, v11, v12, v13, v14, v15, v16])), (nw, .inr (6, [.ref gr, .ref n1, .ref n2, .ref n3, .int 0])), (gr, .inr (4, [.int 0, .int 0, .int 0, .ref gs]))] H := hP
  have hD : va_D A [(h0, .inr (10, [v0, .ref nw, v2, v3, v4, v5, v6, v7, v8, v9, v10, v11, v12, v13, v14, v15, v16])), (nw, .inr (6, [.ref gr, .ref n1, .ref n2, .ref n3, .int 0])), (gr, .inr (4, [.int 0, .int 0, .int 0, .ref gs]))] := hD
  have er_1 : r_1 = 0 := k_2
  subst er_1
  refine lv_if_ne (tgt := 13) hx hb dX11_image_4 (by decide) (fun h_4 => absurd (by decide) h_4) (fun _ => ?_)
  refine lv_aload_n hx hb dX11_image_7 rfl (lv_at hl 0 rfl) ?_
  refine lv_iconst (v := 1) hx hb dX11_image_8 (by decide) ?_
  refine fI (wr := [(nw, .inr (6, [.ref gr, .ref n1, .ref n2, .ref n3, .int 0])), (gr, .inr (4, [.int 0, .int 0, .int 0, .ref gs]))]) (rV_I (wc := [(h0, .inr (10, [v0, .ref nw, v2, v3, v4, v5, v6, v7, v8, v9, v10, v11, v12, v13, v14, v15, v16]))]) (As := [.int 1]) (rest := []) X (tX11_refuse l dC dI cy h0 v0 (.ref nw) v2 v3 v4 v5 v6 v7 v8 v9 v10 v11 v12 v13 v14 v15 v16 1) kX11_refuse vX11_refuse mX11_100 hP hD [0] (by decide) rfl 0 (ci := 10) rfl rfl rfl hl rfl rfl (Nat.le_of_ble_eq_true rfl) dX11_image_9 ⟨Nat.le_of_ble_eq_true rfl, Nat.le_of_ble_eq_true rfl⟩ ⟨Nat.le_of_ble_eq_true rfl, Nat.le_of_ble_eq_true rfl⟩) hP hD hS hA [0] [1, 2] rfl rfl (by decide) (by decide) (fun r_5 u_7 H locs k_6 hP hD hS => ?_)
  have hP : va_P (dC, dI) vwCl [(nw, .inr (6, [.ref gr, .ref n1, .ref n2, .ref n3, .int 0])), (gr, .inr (4, [.int 0, .int 0, .int 0, .ref gs]))] H := hP
  have hD : va_D A [(nw, .inr (6, [.ref gr, .ref n1, .ref n2, .ref n3, .int 0])), (gr, .inr (4, [.int 0, .int 0, .int 0, .ref gs]))] := hD
  have er_5 : r_5 = -1 := k_6
  subst er_5
  exact eI X hr hlocks hP hD hS () [] (by decide) rfl rfl rfl (Nat.le_of_ble_eq_true rfl) (Nat.le_of_ble_eq_true rfl) dX11_image_12
set_option maxHeartbeats 4000000 in
set_option maxRecDepth 100000 in
theorem tX11_fitAt (l : Launch) (dC : Nat → ClassId) (dI : Nat → Nat → Nat) (cy : Nat → ClassId) (h0 : Nat) (v0 : Value) (v1 : Value) (v2 : Value) (v3 : Value) (v4 : Value) (v5 : Value) (v6 : Value) (v7 : Value) (v8 : Value) (v9 : Value) (gu : Nat) (v11 : Value) (v12 : Value) (v13 : Value) (v14 : Value) (v15 : Value) (v16 : Value) (u0 : Nat) (u1 : Nat) (p1 : Int32) : ctI l dC dI cy yX11_fitAt cX11_fitAt 3 .int ({ frames := 1, cells := 0, slots := 0, locals := 23 }) [.ref h0, .int p1] [(h0, .inr (10, [v0, v1, v2, v3, v4, v5, v6, v7, v8, v9, .ref gu, v11, v12, v13, v14, v15, v16])), (gu, .inr (5, [.ref u0, .ref u1, .int 0]))] (S := Unit) (fun r _ => r = -1) (fun _ => []) := by
  refine ctI.of (by decide +kernel) (Nat.le_of_ble_eq_true rfl) ?_
  intro p e s m args below meth c A ls X hr hlocks hin hA hP hD hS hl
  have hx := X.1
  have hb := X.2.1
  have hK := X.2.2.2.2.2.1
  have hl : lv_has ls 3 [(0, .ref h0), (1, .int p1)] := hl
  refine lv_iload_n hx hb dX11_fitAt_0 rfl (lv_at hl 1 rfl) ?_
  refine lv_if_ge (tgt := 8) hx hb dX11_fitAt_1 (by decide) (fun h_1 => ?_) (fun h_1 => ?_)
  · have h_1 : 0 ≤ p1.toInt := c_le h_1
    refine lv_aload_n hx hb dX11_fitAt_8 rfl (lv_at hl 0 rfl) ?_
    refine r_get X kcX11 (ci := 10) rfl hP 0 rfl 10 (by decide) fX11_67 rfl dX11_fitAt_9 ?_
    refine lv_iload_n hx hb dX11_fitAt_12 rfl (lv_at hl 1 rfl) ?_
    refine fI (wr := [(h0, .inr (10, [v0, v1, v2, v3, v4, v5, v6, v7, v8, v9, .ref gu, v11, v12, v13, v14, v15, v16]))]) (rV_I (wc := [(gu, .inr (5, [.ref u0, .ref u1, .int 0]))]) (As := [.int p1]) (rest := []) X (tX5_ith l dC dI cy gu u0 u1 p1) kX5_ith vX5_ith mX11_271 hP hD [1] (by decide) rfl 0 (ci := 5) rfl rfl rfl hl rfl rfl (Nat.le_of_ble_eq_true rfl) dX11_fitAt_13 ⟨Nat.le_of_ble_eq_true rfl, Nat.le_of_ble_eq_true rfl⟩ ⟨Nat.le_of_ble_eq_true rfl, Nat.le_of_ble_eq_true rfl⟩) hP hD hS hA [1] [0] rfl rfl (by decide) (by decide) (fun r_2 u_4 H locs k_3 hP hD hS => ?_)
    have hP : va_P (dC, dI) vwCl [(h0, .inr (10, [v0, v1, v2, v3, v4, v5, v6, v7, v8, v9, .ref gu, v11, v12, v13, v14, v15, v16])), (gu, .inr (5, [.ref u0, .ref u1, .int 0]))] H := hP
    have hD : va_D A [(h0, .inr (10, [v0, v1, v2, v3, v4, v5, v6, v7, v8, v9, .ref gu, v11, v12, v13, v14, v15, v16])), (gu, .inr (5, [.ref u0, .ref u1, .int 0]))] := hD
    have er_2 : r_2 = -1 := k_3
    subst er_2
    refine lv_istore_n (lv' := [(2, .int (-1)), (0, .ref h0), (1, .int p1)]) hx hb dX11_fitAt_16 rfl hl (by decide) rfl (fun ls hl => ?_)
    refine lv_iload_n hx hb dX11_fitAt_17 rfl (lv_at hl 0 rfl) ?_
    refine lv_iconst (v := -1) hx hb dX11_fitAt_18 (by decide) ?_
    refine lv_icmp_ne (tgt := 30) hx hb dX11_fitAt_19 (by decide) (fun h_5 => absurd (by decide) h_5) (fun _ => ?_)
    refine lv_aload_n hx hb dX11_fitAt_22 rfl (lv_at hl 1 rfl) ?_
    refine lv_iconst (v := 1) hx hb dX11_fitAt_23 (by decide) ?_
    refine fI (wr := [(gu, .inr (5, [.ref u0, .ref u1, .int 0]))]) (rV_I (wc := [(h0, .inr (10, [v0, v1, v2, v3, v4, v5, v6, v7, v8, v9, .ref gu, v11, v12, v13, v14, v15, v16]))]) (As := [.int 1]) (rest := []) X (tX11_refuse l dC dI cy h0 v0 v1 v2 v3 v4 v5 v6 v7 v8 v9 (.ref gu) v11 v12 v13 v14 v15 v16 1) kX11_refuse vX11_refuse mX11_100 hP hD [0] (by decide) rfl 0 (ci := 10) rfl rfl rfl hl rfl rfl (Nat.le_of_ble_eq_true rfl) dX11_fitAt_24 ⟨Nat.le_of_ble_eq_true rfl, Nat.le_of_ble_eq_true rfl⟩ ⟨Nat.le_of_ble_eq_true rfl, Nat.le_of_ble_eq_true rfl⟩) hP hD hS hA [0] [1] rfl rfl (by decide) (by decide) (fun r_6 u_8 H locs k_7 hP hD hS => ?_)
    have hP : va_P (dC, dI) vwCl [(gu, .inr (5, [.ref u0, .ref u1, .int 0]))] H := hP
    have hD : va_D A [(gu, .inr (5, [.ref u0, .ref u1, .int 0]))] := hD
    have er_6 : r_6 = -1 := k_7
    subst er_6
    refine lv_goto (tgt := 35) hx hb dX11_fitAt_27 (by decide) ?_
    exact eI X hr hlocks hP hD hS () [] (by decide) rfl rfl rfl (Nat.le_of_ble_eq_true rfl) (Nat.le_of_ble_eq_true rfl) dX11_fitAt_35
  · have h_1 : p1.toInt < 0 := c_nle h_1
    refine lv_iconst (v := -1) hx hb dX11_fitAt_4 (by decide) ?_
    refine lv_goto (tgt := 16) hx hb dX11_fitAt_5 (by decide) ?_
    refine lv_istore_n (lv' := [(2, .int (-1)), (0, .ref h0), (1, .int p1)]) hx hb dX11_fitAt_16 rfl hl (by decide) rfl (fun ls hl => ?_)
    refine lv_iload_n hx hb dX11_fitAt_17 rfl (lv_at hl 0 rfl) ?_
    refine lv_iconst (v := -1) hx hb dX11_fitAt_18 (by decide) ?_
    refine lv_icmp_ne (tgt := 30) hx hb dX11_fitAt_19 (by decide) (fun h_9 => absurd (by decide) h_9) (fun _ => ?_)
    refine lv_aload_n hx hb dX11_fitAt_22 rfl (lv_at hl 1 rfl) ?_
    refine lv_iconst (v := 1) hx hb dX11_fitAt_23 (by decide) ?_
    refine fI (wr := [(gu, .inr (5, [.ref u0, .ref u1, .int 0]))]) (rV_I (wc := [(h0, .inr (10, [v0, v1, v2, v3, v4, v5, v6, v7, v8, v9, .ref gu, v11, v12, v13, v14, v15, v16]))]) (As := [.int 1]) (rest := []) X (tX11_refuse l dC dI cy h0 v0 v1 v2 v3 v4 v5 v6 v7 v8 v9 (.ref gu) v11 v12 v13 v14 v15 v16 1) kX11_refuse vX11_refuse mX11_100 hP hD [0] (by decide) rfl 0 (ci := 10) rfl rfl rfl hl rfl rfl (Nat.le_of_ble_eq_true rfl) dX11_fitAt_24 ⟨Nat.le_of_ble_eq_true rfl, Nat.le_of_ble_eq_true rfl⟩ ⟨Nat.le_of_ble_eq_true rfl, Nat.le_of_ble_eq_true rfl⟩) hP hD hS hA [0] [1] rfl rfl (by decide) (by decide) (fun r_10 u_12 H locs k_11 hP hD hS => ?_)
    have hP : va_P (dC, dI) vwCl [(gu, .inr (5, [.ref u0, .ref u1, .int 0]))] H := hP
    have hD : va_D A [(gu, .inr (5, [.ref u0, .ref u1, .int 0]))] := hD
    have er_10 : r_10 = -1 := k_11
    subst er_10
    refine lv_goto (tgt := 35) hx hb dX11_fitAt_27 (by decide) ?_
    exact eI X hr hlocks hP hD hS () [] (by decide) rfl rfl rfl (Nat.le_of_ble_eq_true rfl) (Nat.le_of_ble_eq_true rfl) dX11_fitAt_35
set_option maxHeartbeats 4000000 in
set_option maxRecDepth 100000 in
theorem tX11_odds (l : Launch) (dC : Nat → ClassId) (dI : Nat → Nat → Nat) (cy : Nat → ClassId) (h0 : Nat) (v0 : Value) (v1 : Value) (v2 : Value) (v3 : Value) (v4 : Value) (v5 : Value) (v6 : Value) (v7 : Value) (v8 : Value) (v9 : Value) (v10 : Value) (v11 : Value) (td : Nat) (v13 : Value) (v14 : Value) (v15 : Value) (v16 : Value) (tg : Nat) (t0 : Nat) (t1 : Nat) (t2 : Nat) (t3 : Nat) (t4 : Nat) (t5 : Nat) (t6 : Nat) (t7 : Nat) (p1 : Int32) (p2 : Int32) : ctL l dC dI cy yX11_odds cX11_odds 3 ({ frames := 1, cells := 0, slots := 0, locals := 21 }) [.ref h0, .int p1, .int p2] [(h0, .inr (10, [v0, v1, v2, v3, v4, v5, v6, v7, v8, v9, v10, v11, .ref td, v13, v14, v15, v16])), (td, .inr (7, [.ref tg, .int 0, .int 0, .int 0, .int 0, .ref t0, .int 0, .ref t1, .ref t2, .ref t3, .ref t4, .int 0, .ref t5, .ref t6, .ref t7]))] (S := Unit) (fun r _ => r = -1) (fun _ => []) := by
  refine ctL.of (by decide +kernel) (Nat.le_of_ble_eq_true rfl) ?_
  intro p e s m args below meth c A ls X hr hlocks hin hA hP hD hS hl
  have hx := X.1
  have hb := X.2.1
  have hK := X.2.2.2.2.2.1
  have hl : lv_has ls 3 [(0, .ref h0), (1, .int p1), (2, .int p2)] := hl
  refine lv_iload_n hx hb dX11_odds_0 rfl (lv_at hl 1 rfl) ?_
  refine lv_if_lt (tgt := 15) hx hb dX11_odds_1 (by decide) (fun h_1 => ?_) (fun h_1 => ?_)
  · have h_1 : p1.toInt < 0 := c_lt h_1
    refine lv_aload_n hx hb dX11_odds_15 rfl (lv_at hl 0 rfl) ?_
    refine lv_iconst (v := 1) hx hb dX11_odds_16 (by decide) ?_
    refine fI (wr := [(td, .inr (7, [.ref tg, .int 0, .int 0, .int 0, .int 0, .ref t0, .int 0, .ref t1, .ref t2, .ref t3, .ref t4, .int 0, .ref t5, .ref t6, .ref t7]))]) (rV_I (wc := [(h0, .inr (10, [v0, v1, v2, v3, v4, v5, v6, v7, v8, v9, v10, v11, .ref td, v13, v14, v15, v16]))]) (As := [.int 1]) (rest := []) X (tX11_refuse l dC dI cy h0 v0 v1 v2 v3 v4 v5 v6 v7 v8 v9 v10 v11 (.ref td) v13 v14 v15 v16 1) kX11_refuse vX11_refuse mX11_100 hP hD [0] (by decide) rfl 0 (ci := 10) rfl rfl rfl hl rfl rfl (Nat.le_of_ble_eq_true rfl) dX11_odds_17 ⟨Nat.le_of_ble_eq_true rfl, Nat.le_of_ble_eq_true rfl⟩ ⟨Nat.le_of_ble_eq_true rfl, Nat.le_of_ble_eq_true rfl⟩) hP hD hS hA [0] [1] rfl rfl (by decide) (by decide) (fun r_2 u_4 H locs k_3 hP hD hS => ?_)
    have hP : va_P (dC, dI) vwCl [(td, .inr (7, [.ref tg, .int 0, .int 0, .int 0, .int 0, .ref t0, .int 0, .ref t1, .ref t2, .ref t3, .ref t4, .int 0, .ref t5, .ref t6, .ref t7]))] H := hP
    have hD : va_D A [(td, .inr (7, [.ref tg, .int 0, .int 0, .int 0, .int 0, .ref t0, .int 0, .ref t1, .ref t2, .ref t3, .ref t4, .int 0, .ref t5, .ref t6, .ref t7]))] := hD
    have er_2 : r_2 = -1 := k_3
    subst er_2
    refine lv_i2l (v := -1) hx hb dX11_odds_20 (by decide) ?_
    exact eL X hr hlocks hP hD hS () [] (by decide) rfl rfl (Nat.le_of_ble_eq_true rfl) (Nat.le_of_ble_eq_true rfl) dX11_odds_21
  · have h_1 : 0 ≤ p1.toInt := c_nlt h_1
    refine lv_iload_n hx hb dX11_odds_4 rfl (lv_at hl 1 rfl) ?_
    refine lv_aload_n hx hb dX11_odds_5 rfl (lv_at hl 0 rfl) ?_
    refine r_get X kcX11 (ci := 10) rfl hP 0 rfl 12 (by decide) fX11_81 rfl dX11_odds_6 ?_
    refine r_get X kcX7 (ci := 7) rfl hP 1 rfl 4 (by decide) fX11_274 rfl dX11_odds_9 ?_
    refine lv_icmp_lt (tgt := 22) hx hb dX11_odds_12 (by decide) (fun h_5 => ?_) (fun h_5 => ?_)
    · have h_5 : p1.toInt < 0 := c_lt h_5
      exfalso
      omega
    · have h_5 : 0 ≤ p1.toInt := c_nlt h_5
      refine lv_aload_n hx hb dX11_odds_15 rfl (lv_at hl 0 rfl) ?_
      refine lv_iconst (v := 1) hx hb dX11_odds_16 (by decide) ?_
      refine fI (wr := [(td, .inr (7, [.ref tg, .int 0, .int 0, .int 0, .int 0, .ref t0, .int 0, .ref t1, .ref t2, .ref t3, .ref t4, .int 0, .ref t5, .ref t6, .ref t7]))]) (rV_I (wc := [(h0, .inr (10, [v0, v1, v2, v3, v4, v5, v6, v7, v8, v9, v10, v11, .ref td, v13, v14, v15, v16]))]) (As := [.int 1]) (rest := []) X (tX11_refuse l dC dI cy h0 v0 v1 v2 v3 v4 v5 v6 v7 v8 v9 v10 v11 (.ref td) v13 v14 v15 v16 1) kX11_refuse vX11_refuse mX11_100 hP hD [0] (by decide) rfl 0 (ci := 10) rfl rfl rfl hl rfl rfl (Nat.le_of_ble_eq_true rfl) dX11_odds_17 ⟨Nat.le_of_ble_eq_true rfl, Nat.le_of_ble_eq_true rfl⟩ ⟨Nat.le_of_ble_eq_true rfl, Nat.le_of_ble_eq_true rfl⟩) hP hD hS hA [0] [1] rfl rfl (by decide) (by decide) (fun r_6 u_8 H locs k_7 hP hD hS => ?_)
      have hP : va_P (dC, dI) vwCl [(td, .inr (7, [.ref tg, .int 0, .int 0, .int 0, .int 0, .ref t0, .int 0, .ref t1, .ref t2, .ref t3, .ref t4, .int 0, .ref t5, .ref t6, .ref t7]))] H := hP
      have hD : va_D A [(td, .inr (7, [.ref tg, .int 0, .int 0, .int 0, .int 0, .ref t0, .int 0, .ref t1, .ref t2, .ref t3, .ref t4, .int 0, .ref t5, .ref t6, .ref t7]))] := hD
      have er_6 : r_6 = -1 := k_7
      subst er_6
      refine lv_i2l (v := -1) hx hb dX11_odds_20 (by decide) ?_
      exact eL X hr hlocks hP hD hS () [] (by decide) rfl rfl (Nat.le_of_ble_eq_true rfl) (Nat.le_of_ble_eq_true rfl) dX11_odds_21
set_option maxHeartbeats 4000000 in
set_option maxRecDepth 100000 in
theorem tX11_walkOdds (l : Launch) (dC : Nat → ClassId) (dI : Nat → Nat → Nat) (cy : Nat → ClassId) (h0 : Nat) (v0 : Value) (nw : Nat) (v2 : Value) (v3 : Value) (v4 : Value) (v5 : Value) (v6 : Value) (v7 : Value) (v8 : Value) (v9 : Value) (v10 : Value) (v11 : Value) (v12 : Value) (v13 : Value) (v14 : Value) (v15 : Value) (v16 : Value) (gr : Nat) (gs : Nat) (n1 : Nat) (n2 : Nat) (n3 : Nat) (p1 : Int32) (p2 : Int32) (p3 : Int32) : ctL l dC dI cy yX11_walkOdds cX11_walkOdds 4 ({ frames := 1, cells := 0, slots := 0, locals := 21 }) [.ref h0, .int p1, .int p2, .int p3] [(h0, .inr (10, [v0, .ref nw, v2, v3, v4, v5, v6, v7, v8, v9, v10, v11, v12, v13, v14, v15, v16])), (nw, .inr (6, [.ref gr, .ref n1, .ref n2, .ref n3, .int 0])), (gr, .inr (4, [.int 0, .int 0, .int 0, .ref gs]))] (S := Unit) (fun r _ => r = -1) (fun _ => []) := by
  refine ctL.of (by decide +kernel) (Nat.le_of_ble_eq_true rfl) ?_
  intro p e s m args below meth c A ls X hr hlocks hin hA hP hD hS hl
  have hx := X.1
  have hb := X.2.1
  have hK := X.2.2.2.2.2.1
  have hl : lv_has ls 4 [(0, .ref h0), (1, .int p1), (2, .int p2), (3, .int p3)] := hl
  refine lv_aload_n hx hb dX11_walkOdds_0 rfl (lv_at hl 0 rfl) ?_
  refine r_get X kcX11 (ci := 10) rfl hP 0 rfl 1 (by decide) fX11_19 rfl dX11_walkOdds_1 ?_
  refine r_get X kcX6 (ci := 6) rfl hP 1 rfl 0 (by decide) fX11_121 rfl dX11_walkOdds_4 ?_
  refine lv_iload_n hx hb dX11_walkOdds_7 rfl (lv_at hl 1 rfl) ?_
  refine fI (wr := [(h0, .inr (10, [v0, .ref nw, v2, v3, v4, v5, v6, v7, v8, v9, v10, v11, v12, v13, v14, v15, v16])), (nw, .inr (6, [.ref gr, .ref n1, .ref n2, .ref n3, .int 0]))]) (rV_I (wc := [(gr, .inr (4, [.int 0, .int 0, .int 0, .ref gs]))]) (As := [.int p1]) (rest := []) X (tX4_holds l dC dI cy gr gs p1) kX4_holds vX4_holds mX11_142 hP hD [2] (by decide) rfl 0 (ci := 4) rfl rfl rfl hl rfl rfl (Nat.le_of_ble_eq_true rfl) dX11_walkOdds_8 ⟨Nat.le_of_ble_eq_true rfl, Nat.le_of_ble_eq_true rfl⟩ ⟨Nat.le_of_ble_eq_true rfl, Nat.le_of_ble_eq_true rfl⟩) hP hD hS hA [2] [0, 1] rfl rfl (by decide) (by decide) (fun r_1 u_3 H locs k_2 hP hD hS => ?_)
  have hP : va_P (dC, dI) vwCl [(h0, .inr (10, [v0, .ref nw, v2, v3, v4, v5, v6, v7, v8, v9, v10, v11, v12, v13, v14, v15, v16])), (nw, .inr (6, [.ref gr, .ref n1, .ref n2, .ref n3, .int 0])), (gr, .inr (4, [.int 0, .int 0, .int 0, .ref gs]))] H := hP
  have hD : va_D A [(h0, .inr (10, [v0, .ref nw, v2, v3, v4, v5, v6, v7, v8, v9, v10, v11, v12, v13, v14, v15, v16])), (nw, .inr (6, [.ref gr, .ref n1, .ref n2, .ref n3, .int 0])), (gr, .inr (4, [.int 0, .int 0, .int 0, .ref gs]))] := hD
  have er_1 : r_1 = 0 := k_2
  subst er_1
  refine lv_if_ne (tgt := 21) hx hb dX11_walkOdds_11 (by decide) (fun h_4 => absurd (by decide) h_4) (fun _ => ?_)
  refine lv_aload_n hx hb dX11_walkOdds_14 rfl (lv_at hl 0 rfl) ?_
  refine lv_iconst (v := 1) hx hb dX11_walkOdds_15 (by decide) ?_
  refine fI (wr := [(nw, .inr (6, [.ref gr, .ref n1, .ref n2, .ref n3, .int 0])), (gr, .inr (4, [.int 0, .int 0, .int 0, .ref gs]))]) (rV_I (wc := [(h0, .inr (10, [v0, .ref nw, v2, v3, v4, v5, v6, v7, v8, v9, v10, v11, v12, v13, v14, v15, v16]))]) (As := [.int 1]) (rest := []) X (tX11_refuse l dC dI cy h0 v0 (.ref nw) v2 v3 v4 v5 v6 v7 v8 v9 v10 v11 v12 v13 v14 v15 v16 1) kX11_refuse vX11_refuse mX11_100 hP hD [0] (by decide) rfl 0 (ci := 10) rfl rfl rfl hl rfl rfl (Nat.le_of_ble_eq_true rfl) dX11_walkOdds_16 ⟨Nat.le_of_ble_eq_true rfl, Nat.le_of_ble_eq_true rfl⟩ ⟨Nat.le_of_ble_eq_true rfl, Nat.le_of_ble_eq_true rfl⟩) hP hD hS hA [0] [1, 2] rfl rfl (by decide) (by decide) (fun r_5 u_7 H locs k_6 hP hD hS => ?_)
  have hP : va_P (dC, dI) vwCl [(nw, .inr (6, [.ref gr, .ref n1, .ref n2, .ref n3, .int 0])), (gr, .inr (4, [.int 0, .int 0, .int 0, .ref gs]))] H := hP
  have hD : va_D A [(nw, .inr (6, [.ref gr, .ref n1, .ref n2, .ref n3, .int 0])), (gr, .inr (4, [.int 0, .int 0, .int 0, .ref gs]))] := hD
  have er_5 : r_5 = -1 := k_6
  subst er_5
  refine lv_i2l (v := -1) hx hb dX11_walkOdds_19 (by decide) ?_
  exact eL X hr hlocks hP hD hS () [] (by decide) rfl rfl (Nat.le_of_ble_eq_true rfl) (Nat.le_of_ble_eq_true rfl) dX11_walkOdds_20
set_option maxHeartbeats 4000000 in
set_option maxRecDepth 100000 in
theorem tX11_fallOdds (l : Launch) (dC : Nat → ClassId) (dI : Nat → Nat → Nat) (cy : Nat → ClassId) (h0 : Nat) (v0 : Value) (v1 : Value) (v2 : Value) (v3 : Value) (v4 : Value) (v5 : Value) (v6 : Value) (v7 : Value) (v8 : Value) (v9 : Value) (v10 : Value) (v11 : Value) (td : Nat) (v13 : Value) (v14 : Value) (v15 : Value) (v16 : Value) (tg : Nat) (t0 : Nat) (t1 : Nat) (t2 : Nat) (t3 : Nat) (t4 : Nat) (t5 : Nat) (t6 : Nat) (t7 : Nat) (p1 : Int32) (p2 : Int32) (p3 : Int32) : ctL l dC dI cy yX11_fallOdds cX11_fallOdds 4 ({ frames := 1, cells := 0, slots := 0, locals := 21 }) [.ref h0, .int p1, .int p2, .int p3] [(h0, .inr (10, [v0, v1, v2, v3, v4, v5, v6, v7, v8, v9, v10, v11, .ref td, v13, v14, v15, v16])), (td, .inr (7, [.ref tg, .int 0, .int 0, .int 0, .int 0, .ref t0, .int 0, .ref t1, .ref t2, .ref t3, .ref t4, .int 0, .ref t5, .ref t6, .ref t7]))] (S := Unit) (fun r _ => r = -1) (fun _ => []) := by
  refine ctL.of (by decide +kernel) (Nat.le_of_ble_eq_true rfl) ?_
  intro p e s m args below meth c A ls X hr hlocks hin hA hP hD hS hl
  have hx := X.1
  have hb := X.2.1
  have hK := X.2.2.2.2.2.1
  have hl : lv_has ls 4 [(0, .ref h0), (1, .int p1), (2, .int p2), (3, .int p3)] := hl
  refine lv_aload_n hx hb dX11_fallOdds_0 rfl (lv_at hl 0 rfl) ?_
  refine lv_iload_n hx hb dX11_fallOdds_1 rfl (lv_at hl 1 rfl) ?_
  refine fI (wr := []) (rV_I (wc := [(h0, .inr (10, [v0, v1, v2, v3, v4, v5, v6, v7, v8, v9, v10, v11, .ref td, v13, v14, v15, v16])), (td, .inr (7, [.ref tg, .int 0, .int 0, .int 0, .int 0, .ref t0, .int 0, .ref t1, .ref t2, .ref t3, .ref t4, .int 0, .ref t5, .ref t6, .ref t7]))]) (As := [.int p1]) (rest := []) X (tX11_isWalker l dC dI cy h0 v0 v1 v2 v3 v4 v5 v6 v7 v8 v9 v10 v11 td v13 v14 v15 v16 tg t0 t1 t2 t3 t4 t5 t6 t7 p1) kX11_isWalker vX11_isWalker mX11_159 hP hD [0, 1] (by decide) rfl 0 (ci := 10) rfl rfl rfl hl rfl rfl (Nat.le_of_ble_eq_true rfl) dX11_fallOdds_2 ⟨Nat.le_of_ble_eq_true rfl, Nat.le_of_ble_eq_true rfl⟩ ⟨Nat.le_of_ble_eq_true rfl, Nat.le_of_ble_eq_true rfl⟩) hP hD hS hA [0, 1] [] rfl rfl (by decide) (by decide) (fun r_1 u_3 H locs k_2 hP hD hS => ?_)
  have hP : va_P (dC, dI) vwCl [(h0, .inr (10, [v0, v1, v2, v3, v4, v5, v6, v7, v8, v9, v10, v11, .ref td, v13, v14, v15, v16])), (td, .inr (7, [.ref tg, .int 0, .int 0, .int 0, .int 0, .ref t0, .int 0, .ref t1, .ref t2, .ref t3, .ref t4, .int 0, .ref t5, .ref t6, .ref t7]))] H := hP
  have hD : va_D A [(h0, .inr (10, [v0, v1, v2, v3, v4, v5, v6, v7, v8, v9, v10, v11, .ref td, v13, v14, v15, v16])), (td, .inr (7, [.ref tg, .int 0, .int 0, .int 0, .int 0, .ref t0, .int 0, .ref t1, .ref t2, .ref t3, .ref t4, .int 0, .ref t5, .ref t6, .ref t7]))] := hD
  have er_1 : r_1 = 0 := k_2
  subst er_1
  refine lv_if_ne (tgt := 15) hx hb dX11_fallOdds_5 (by decide) (fun h_4 => absurd (by decide) h_4) (fun _ => ?_)
  refine lv_aload_n hx hb dX11_fallOdds_8 rfl (lv_at hl 0 rfl) ?_
  refine lv_iconst (v := 1) hx hb dX11_fallOdds_9 (by decide) ?_
  refine fI (wr := [(td, .inr (7, [.ref tg, .int 0, .int 0, .int 0, .int 0, .ref t0, .int 0, .ref t1, .ref t2, .ref t3, .ref t4, .int 0, .ref t5, .ref t6, .ref t7]))]) (rV_I (wc := [(h0, .inr (10, [v0, v1, v2, v3, v4, v5, v6, v7, v8, v9, v10, v11, .ref td, v13, v14, v15, v16]))]) (As := [.int 1]) (rest := []) X (tX11_refuse l dC dI cy h0 v0 v1 v2 v3 v4 v5 v6 v7 v8 v9 v10 v11 (.ref td) v13 v14 v15 v16 1) kX11_refuse vX11_refuse mX11_100 hP hD [0] (by decide) rfl 0 (ci := 10) rfl rfl rfl hl rfl rfl (Nat.le_of_ble_eq_true rfl) dX11_fallOdds_10 ⟨Nat.le_of_ble_eq_true rfl, Nat.le_of_ble_eq_true rfl⟩ ⟨Nat.le_of_ble_eq_true rfl, Nat.le_of_ble_eq_true rfl⟩) hP hD hS hA [0] [1] rfl rfl (by decide) (by decide) (fun r_5 u_7 H locs k_6 hP hD hS => ?_)
  have hP : va_P (dC, dI) vwCl [(td, .inr (7, [.ref tg, .int 0, .int 0, .int 0, .int 0, .ref t0, .int 0, .ref t1, .ref t2, .ref t3, .ref t4, .int 0, .ref t5, .ref t6, .ref t7]))] H := hP
  have hD : va_D A [(td, .inr (7, [.ref tg, .int 0, .int 0, .int 0, .int 0, .ref t0, .int 0, .ref t1, .ref t2, .ref t3, .ref t4, .int 0, .ref t5, .ref t6, .ref t7]))] := hD
  have er_5 : r_5 = -1 := k_6
  subst er_5
  refine lv_i2l (v := -1) hx hb dX11_fallOdds_13 (by decide) ?_
  exact eL X hr hlocks hP hD hS () [] (by decide) rfl rfl (Nat.le_of_ble_eq_true rfl) (Nat.le_of_ble_eq_true rfl) dX11_fallOdds_14
set_option maxHeartbeats 4000000 in
set_option maxRecDepth 100000 in
theorem tX11_mean (l : Launch) (dC : Nat → ClassId) (dI : Nat → Nat → Nat) (cy : Nat → ClassId) (h0 : Nat) (v0 : Value) (v1 : Value) (v2 : Value) (v3 : Value) (v4 : Value) (v5 : Value) (v6 : Value) (v7 : Value) (v8 : Value) (v9 : Value) (v10 : Value) (v11 : Value) (td : Nat) (v13 : Value) (v14 : Value) (v15 : Value) (v16 : Value) (tg : Nat) (t0 : Nat) (t1 : Nat) (t2 : Nat) (t3 : Nat) (t4 : Nat) (t5 : Nat) (t6 : Nat) (t7 : Nat) (p1 : Int32) (p2 : Int32) : ctL l dC dI cy yX11_mean cX11_mean 3 ({ frames := 1, cells := 0, slots := 0, locals := 21 }) [.ref h0, .int p1, .int p2] [(h0, .inr (10, [v0, v1, v2, v3, v4, v5, v6, v7, v8, v9, v10, v11, .ref td, v13, v14, v15, v16])), (td, .inr (7, [.ref tg, .int 0, .int 0, .int 0, .int 0, .ref t0, .int 0, .ref t1, .ref t2, .ref t3, .ref t4, .int 0, .ref t5, .ref t6, .ref t7]))] (S := Unit) (fun r _ => r = -1) (fun _ => []) := by
  refine ctL.of (by decide +kernel) (Nat.le_of_ble_eq_true rfl) ?_
  intro p e s m args below meth c A ls X hr hlocks hin hA hP hD hS hl
  have hx := X.1
  have hb := X.2.1
  have hK := X.2.2.2.2.2.1
  have hl : lv_has ls 3 [(0, .ref h0), (1, .int p1), (2, .int p2)] := hl
  refine lv_aload_n hx hb dX11_mean_0 rfl (lv_at hl 0 rfl) ?_
  refine lv_iload_n hx hb dX11_mean_1 rfl (lv_at hl 1 rfl) ?_
  refine fI (wr := []) (rV_I (wc := [(h0, .inr (10, [v0, v1, v2, v3, v4, v5, v6, v7, v8, v9, v10, v11, .ref td, v13, v14, v15, v16])), (td, .inr (7, [.ref tg, .int 0, .int 0, .int 0, .int 0, .ref t0, .int 0, .ref t1, .ref t2, .ref t3, .ref t4, .int 0, .ref t5, .ref t6, .ref t7]))]) (As := [.int p1]) (rest := []) X (tX11_isWalker l dC dI cy h0 v0 v1 v2 v3 v4 v5 v6 v7 v8 v9 v10 v11 td v13 v14 v15 v16 tg t0 t1 t2 t3 t4 t5 t6 t7 p1) kX11_isWalker vX11_isWalker mX11_159 hP hD [0, 1] (by decide) rfl 0 (ci := 10) rfl rfl rfl hl rfl rfl (Nat.le_of_ble_eq_true rfl) dX11_mean_2 ⟨Nat.le_of_ble_eq_true rfl, Nat.le_of_ble_eq_true rfl⟩ ⟨Nat.le_of_ble_eq_true rfl, Nat.le_of_ble_eq_true rfl⟩) hP hD hS hA [0, 1] [] rfl rfl (by decide) (by decide) (fun r_1 u_3 H locs k_2 hP hD hS => ?_)
  have hP : va_P (dC, dI) vwCl [(h0, .inr (10, [v0, v1, v2, v3, v4, v5, v6, v7, v8, v9, v10, v11, .ref td, v13, v14, v15, v16])), (td, .inr (7, [.ref tg, .int 0, .int 0, .int 0, .int 0, .ref t0, .int 0, .ref t1, .ref t2, .ref t3, .ref t4, .int 0, .ref t5, .ref t6, .ref t7]))] H := hP
  have hD : va_D A [(h0, .inr (10, [v0, v1, v2, v3, v4, v5, v6, v7, v8, v9, v10, v11, .ref td, v13, v14, v15, v16])), (td, .inr (7, [.ref tg, .int 0, .int 0, .int 0, .int 0, .ref t0, .int 0, .ref t1, .ref t2, .ref t3, .ref t4, .int 0, .ref t5, .ref t6, .ref t7]))] := hD
  have er_1 : r_1 = 0 := k_2
  subst er_1
  refine lv_if_ne (tgt := 15) hx hb dX11_mean_5 (by decide) (fun h_4 => absurd (by decide) h_4) (fun _ => ?_)
  refine lv_aload_n hx hb dX11_mean_8 rfl (lv_at hl 0 rfl) ?_
  refine lv_iconst (v := 1) hx hb dX11_mean_9 (by decide) ?_
  refine fI (wr := [(td, .inr (7, [.ref tg, .int 0, .int 0, .int 0, .int 0, .ref t0, .int 0, .ref t1, .ref t2, .ref t3, .ref t4, .int 0, .ref t5, .ref t6, .ref t7]))]) (rV_I (wc := [(h0, .inr (10, [v0, v1, v2, v3, v4, v5, v6, v7, v8, v9, v10, v11, .ref td, v13, v14, v15, v16]))]) (As := [.int 1]) (rest := []) X (tX11_refuse l dC dI cy h0 v0 v1 v2 v3 v4 v5 v6 v7 v8 v9 v10 v11 (.ref td) v13 v14 v15 v16 1) kX11_refuse vX11_refuse mX11_100 hP hD [0] (by decide) rfl 0 (ci := 10) rfl rfl rfl hl rfl rfl (Nat.le_of_ble_eq_true rfl) dX11_mean_10 ⟨Nat.le_of_ble_eq_true rfl, Nat.le_of_ble_eq_true rfl⟩ ⟨Nat.le_of_ble_eq_true rfl, Nat.le_of_ble_eq_true rfl⟩) hP hD hS hA [0] [1] rfl rfl (by decide) (by decide) (fun r_5 u_7 H locs k_6 hP hD hS => ?_)
  have hP : va_P (dC, dI) vwCl [(td, .inr (7, [.ref tg, .int 0, .int 0, .int 0, .int 0, .ref t0, .int 0, .ref t1, .ref t2, .ref t3, .ref t4, .int 0, .ref t5, .ref t6, .ref t7]))] H := hP
  have hD : va_D A [(td, .inr (7, [.ref tg, .int 0, .int 0, .int 0, .int 0, .ref t0, .int 0, .ref t1, .ref t2, .ref t3, .ref t4, .int 0, .ref t5, .ref t6, .ref t7]))] := hD
  have er_5 : r_5 = -1 := k_6
  subst er_5
  refine lv_i2l (v := -1) hx hb dX11_mean_13 (by decide) ?_
  exact eL X hr hlocks hP hD hS () [] (by decide) rfl rfl (Nat.le_of_ble_eq_true rfl) (Nat.le_of_ble_eq_true rfl) dX11_mean_14
set_option maxHeartbeats 4000000 in
set_option maxRecDepth 100000 in
theorem tX11_lies (l : Launch) (dC : Nat → ClassId) (dI : Nat → Nat → Nat) (cy : Nat → ClassId) (h0 : Nat) (v0 : Value) (nw : Nat) (v2 : Value) (v3 : Value) (v4 : Value) (v5 : Value) (v6 : Value) (v7 : Value) (v8 : Value) (v9 : Value) (v10 : Value) (v11 : Value) (v12 : Value) (v13 : Value) (v14 : Value) (v15 : Value) (v16 : Value) (gr : Nat) (gs : Nat) (n1 : Nat) (n2 : Nat) (n3 : Nat) (p1 : Int32) (p2 : Int32) (p3 : Int32) (p4 : Int32) : ctI l dC dI cy yX11_lies cX11_lies 6 .int ({ frames := 2, cells := 0, slots := 0, locals := 41 }) [.ref h0, .int p1, .int p2, .int p3, .int p4] [(h0, .inr (10, [v0, .ref nw, v2, v3, v4, v5, v6, v7, v8, v9, v10, v11, v12, v13, v14, v15, v16])), (nw, .inr (6, [.ref gr, .ref n1, .ref n2, .ref n3, .int 0])), (gr, .inr (4, [.int 0, .int 0, .int 0, .ref gs]))] (S := Unit) (fun r _ => r = -100) (fun _ => []) := by
  refine ctI.of (by decide +kernel) (Nat.le_of_ble_eq_true rfl) ?_
  intro p e s m args below meth c A ls X hr hlocks hin hA hP hD hS hl
  have hx := X.1
  have hb := X.2.1
  have hK := X.2.2.2.2.2.1
  have hl : lv_has ls 6 [(0, .ref h0), (1, .int p1), (2, .int p2), (3, .int p3), (4, .int p4)] := hl
  refine lv_aload_n hx hb dX11_lies_0 rfl (lv_at hl 0 rfl) ?_
  refine lv_iload_n hx hb dX11_lies_1 rfl (lv_at hl 1 rfl) ?_
  refine fI (wr := []) (rV_I (wc := [(h0, .inr (10, [v0, .ref nw, v2, v3, v4, v5, v6, v7, v8, v9, v10, v11, v12, v13, v14, v15, v16])), (nw, .inr (6, [.ref gr, .ref n1, .ref n2, .ref n3, .int 0])), (gr, .inr (4, [.int 0, .int 0, .int 0, .ref gs]))]) (As := [.int p1]) (rest := []) X (tX11_refusalOfShame l dC dI cy h0 v0 nw v2 v3 v4 v5 v6 v7 v8 v9 v10 v11 v12 v13 v14 v15 v16 gr gs n1 n2 n3 p1) kX11_refusalOfShame vX11_refusalOfShame mX11_318 hP hD [0, 1, 2] (by decide) rfl 0 (ci := 10) rfl rfl rfl hl rfl rfl (Nat.le_of_ble_eq_true rfl) dX11_lies_2 ⟨Nat.le_of_ble_eq_true rfl, Nat.le_of_ble_eq_true rfl⟩ ⟨Nat.le_of_ble_eq_true rfl, Nat.le_of_ble_eq_true rfl⟩) hP hD hS hA [0, 1, 2] [] rfl rfl (by decide) (by decide) (fun r_1 u_3 H locs k_2 hP hD hS => ?_)
  have hP : va_P (dC, dI) vwCl [(h0, .inr (10, [v0, .ref nw, v2, v3, v4, v5, v6, v7, v8, v9, v10, v11, v12, v13, v14, v15, v16])), (nw, .inr (6, [.ref gr, .ref n1, .ref n2, .ref n3, .int 0])), (gr, .inr (4, [.int 0, .int 0, .int 0, .ref gs]))] H := hP
  have hD : va_D A [(h0, .inr (10, [v0, .ref nw, v2, v3, v4, v5, v6, v7, v8, v9, v10, v11, v12, v13, v14, v15, v16])), (nw, .inr (6, [.ref gr, .ref n1, .ref n2, .ref n3, .int 0])), (gr, .inr (4, [.int 0, .int 0, .int 0, .ref gs]))] := hD
  have er_1 : r_1 = 1 := k_2
  subst er_1
  refine lv_istore (lv' := [(5, .int 1), (0, .ref h0), (1, .int p1), (2, .int p2), (3, .int p3), (4, .int p4)]) hx hb dX11_lies_5 hl (by decide) rfl (fun ls hl => ?_)
  refine lv_iload hx hb dX11_lies_7 (lv_at hl 0 rfl) ?_
  refine lv_if_eq (tgt := 22) hx hb dX11_lies_9 (by decide) (fun h_4 => absurd h_4 (by decide)) (fun _ => ?_)
  refine lv_aload_n hx hb dX11_lies_12 rfl (lv_at hl 1 rfl) ?_
  refine lv_iload hx hb dX11_lies_13 (lv_at hl 0 rfl) ?_
  refine fI (wr := [(nw, .inr (6, [.ref gr, .ref n1, .ref n2, .ref n3, .int 0])), (gr, .inr (4, [.int 0, .int 0, .int 0, .ref gs]))]) (rV_I (wc := [(h0, .inr (10, [v0, .ref nw, v2, v3, v4, v5, v6, v7, v8, v9, v10, v11, v12, v13, v14, v15, v16]))]) (As := [.int 1]) (rest := []) X (tX11_refuse l dC dI cy h0 v0 (.ref nw) v2 v3 v4 v5 v6 v7 v8 v9 v10 v11 v12 v13 v14 v15 v16 1) kX11_refuse vX11_refuse mX11_100 hP hD [0] (by decide) rfl 0 (ci := 10) rfl rfl rfl hl rfl rfl (Nat.le_of_ble_eq_true rfl) dX11_lies_15 ⟨Nat.le_of_ble_eq_true rfl, Nat.le_of_ble_eq_true rfl⟩ ⟨Nat.le_of_ble_eq_true rfl, Nat.le_of_ble_eq_true rfl⟩) hP hD hS hA [0] [1, 2] rfl rfl (by decide) (by decide) (fun r_5 u_7 H locs k_6 hP hD hS => ?_)
  have hP : va_P (dC, dI) vwCl [(nw, .inr (6, [.ref gr, .ref n1, .ref n2, .ref n3, .int 0])), (gr, .inr (4, [.int 0, .int 0, .int 0, .ref gs]))] H := hP
  have hD : va_D A [(nw, .inr (6, [.ref gr, .ref n1, .ref n2, .ref n3, .int 0])), (gr, .inr (4, [.int 0, .int 0, .int 0, .ref gs]))] := hD
  have er_5 : r_5 = -1 := k_6
  subst er_5
  refine lv_pop hx hb dX11_lies_18 rfl ?_
  refine lv_bipush (v := -100) hx hb dX11_lies_19 (by decide) ?_
  exact eI X hr hlocks hP hD hS () [] (by decide) rfl rfl rfl (Nat.le_of_ble_eq_true rfl) (Nat.le_of_ble_eq_true rfl) dX11_lies_21
set_option maxHeartbeats 4000000 in
set_option maxRecDepth 100000 in
theorem tX11_dig (l : Launch) (dC : Nat → ClassId) (dI : Nat → Nat → Nat) (cy : Nat → ClassId) (h0 : Nat) (v0 : Value) (nw : Nat) (v2 : Value) (v3 : Value) (v4 : Value) (v5 : Value) (v6 : Value) (v7 : Value) (v8 : Value) (v9 : Value) (v10 : Value) (v11 : Value) (v12 : Value) (v13 : Value) (v14 : Value) (v15 : Value) (v16 : Value) (gr : Nat) (gs : Nat) (n1 : Nat) (n2 : Nat) (n3 : Nat) (p1 : Int32) : ctI l dC dI cy yX11_dig cX11_dig 2 .boolean ({ frames := 2, cells := 0, slots := 0, locals := 44 }) [.ref h0, .int p1] [(h0, .inr (10, [v0, .ref nw, v2, v3, v4, v5, v6, v7, v8, v9, v10, v11, v12, v13, v14, v15, v16])), (nw, .inr (6, [.ref gr, .ref n1, .ref n2, .ref n3, .int 0])), (gr, .inr (4, [.int 0, .int 0, .int 0, .ref gs]))] (S := Unit) (fun r _ => r = 0) (fun _ => []) := by
  refine ctI.of (by decide +kernel) (Nat.le_of_ble_eq_true rfl) ?_
  intro p e s m args below meth c A ls X hr hlocks hin hA hP hD hS hl
  have hx := X.1
  have hb := X.2.1
  have hK := X.2.2.2.2.2.1
  have hl : lv_has ls 2 [(0, .ref h0), (1, .int p1)] := hl
  refine lv_aload_n hx hb dX11_dig_0 rfl (lv_at hl 0 rfl) ?_
  refine lv_iload_n hx hb dX11_dig_1 rfl (lv_at hl 1 rfl) ?_
  refine lv_iconst (v := 0) hx hb dX11_dig_2 (by decide) ?_
  refine lv_iconst (v := 1) hx hb dX11_dig_3 (by decide) ?_
  refine fI (wr := []) (rV_I (wc := [(h0, .inr (10, [v0, .ref nw, v2, v3, v4, v5, v6, v7, v8, v9, v10, v11, v12, v13, v14, v15, v16])), (nw, .inr (6, [.ref gr, .ref n1, .ref n2, .ref n3, .int 0])), (gr, .inr (4, [.int 0, .int 0, .int 0, .ref gs]))]) (As := [.int p1, .int 0, .int 1]) (rest := []) X (tX11_change l dC dI cy h0 v0 nw v2 v3 v4 v5 v6 v7 v8 v9 v10 v11 v12 v13 v14 v15 v16 gr gs n1 n2 n3 p1 0 1) kX11_change vX11_change mX11_350 hP hD [0, 1, 2] (by decide) rfl 0 (ci := 10) rfl rfl rfl hl rfl rfl (Nat.le_of_ble_eq_true rfl) dX11_dig_4 ⟨Nat.le_of_ble_eq_true rfl, Nat.le_of_ble_eq_true rfl⟩ ⟨Nat.le_of_ble_eq_true rfl, Nat.le_of_ble_eq_true rfl⟩) hP hD hS hA [0, 1, 2] [] rfl rfl (by decide) (by decide) (fun r_1 u_3 H locs k_2 hP hD hS => ?_)
  have hP : va_P (dC, dI) vwCl [] H := hP
  have hD : va_D A [] := hD
  have er_1 : r_1 = 0 := k_2
  subst er_1
  exact eI X hr hlocks hP hD hS () [] (by decide) rfl rfl rfl (Nat.le_of_ble_eq_true rfl) (Nat.le_of_ble_eq_true rfl) dX11_dig_7
set_option maxHeartbeats 4000000 in
set_option maxRecDepth 100000 in
theorem tX11_fill (l : Launch) (dC : Nat → ClassId) (dI : Nat → Nat → Nat) (cy : Nat → ClassId) (h0 : Nat) (v0 : Value) (nw : Nat) (v2 : Value) (v3 : Value) (v4 : Value) (v5 : Value) (v6 : Value) (v7 : Value) (v8 : Value) (v9 : Value) (v10 : Value) (v11 : Value) (v12 : Value) (v13 : Value) (v14 : Value) (v15 : Value) (v16 : Value) (gr : Nat) (gs : Nat) (n1 : Nat) (n2 : Nat) (n3 : Nat) (p1 : Int32) : ctI l dC dI cy yX11_fill cX11_fill 2 .boolean ({ frames := 2, cells := 0, slots := 0, locals := 44 }) [.ref h0, .int p1] [(h0, .inr (10, [v0, .ref nw, v2, v3, v4, v5, v6, v7, v8, v9, v10, v11, v12, v13, v14, v15, v16])), (nw, .inr (6, [.ref gr, .ref n1, .ref n2, .ref n3, .int 0])), (gr, .inr (4, [.int 0, .int 0, .int 0, .ref gs]))] (S := Unit) (fun r _ => r = 0) (fun _ => []) := by
  refine ctI.of (by decide +kernel) (Nat.le_of_ble_eq_true rfl) ?_
  intro p e s m args below meth c A ls X hr hlocks hin hA hP hD hS hl
  have hx := X.1
  have hb := X.2.1
  have hK := X.2.2.2.2.2.1
  have hl : lv_has ls 2 [(0, .ref h0), (1, .int p1)] := hl
  refine lv_aload_n hx hb dX11_fill_0 rfl (lv_at hl 0 rfl) ?_
  refine lv_iload_n hx hb dX11_fill_1 rfl (lv_at hl 1 rfl) ?_
  refine lv_iconst (v := 1) hx hb dX11_fill_2 (by decide) ?_
  refine lv_iconst (v := 0) hx hb dX11_fill_3 (by decide) ?_
  refine fI (wr := []) (rV_I (wc := [(h0, .inr (10, [v0, .ref nw, v2, v3, v4, v5, v6, v7, v8, v9, v10, v11, v12, v13, v14, v15, v16])), (nw, .inr (6, [.ref gr, .ref n1, .ref n2, .ref n3, .int 0])), (gr, .inr (4, [.int 0, .int 0, .int 0, .ref gs]))]) (As := [.int p1, .int 1, .int 0]) (rest := []) X (tX11_change l dC dI cy h0 v0 nw v2 v3 v4 v5 v6 v7 v8 v9 v10 v11 v12 v13 v14 v15 v16 gr gs n1 n2 n3 p1 1 0) kX11_change vX11_change mX11_350 hP hD [0, 1, 2] (by decide) rfl 0 (ci := 10) rfl rfl rfl hl rfl rfl (Nat.le_of_ble_eq_true rfl) dX11_fill_4 ⟨Nat.le_of_ble_eq_true rfl, Nat.le_of_ble_eq_true rfl⟩ ⟨Nat.le_of_ble_eq_true rfl, Nat.le_of_ble_eq_true rfl⟩) hP hD hS hA [0, 1, 2] [] rfl rfl (by decide) (by decide) (fun r_1 u_3 H locs k_2 hP hD hS => ?_)
  have hP : va_P (dC, dI) vwCl [] H := hP
  have hD : va_D A [] := hD
  have er_1 : r_1 = 0 := k_2
  subst er_1
  exact eI X hr hlocks hP hD hS () [] (by decide) rfl rfl rfl (Nat.le_of_ble_eq_true rfl) (Nat.le_of_ble_eq_true rfl) dX11_fill_7
set_option maxHeartbeats 4000000 in
set_option maxRecDepth 100000 in
theorem tX11_gate (l : Launch) (dC : Nat → ClassId) (dI : Nat → Nat → Nat) (cy : Nat → ClassId) (h0 : Nat) (v0 : Value) (nw : Nat) (v2 : Value) (v3 : Value) (v4 : Value) (v5 : Value) (v6 : Value) (v7 : Value) (v8 : Value) (v9 : Value) (v10 : Value) (v11 : Value) (v12 : Value) (v13 : Value) (v14 : Value) (v15 : Value) (v16 : Value) (gr : Nat) (gs : Nat) (n1 : Nat) (n2 : Nat) (n3 : Nat) (p1 : Int32) : ctI l dC dI cy yX11_gate cX11_gate 2 .boolean ({ frames := 2, cells := 0, slots := 0, locals := 44 }) [.ref h0, .int p1] [(h0, .inr (10, [v0, .ref nw, v2, v3, v4, v5, v6, v7, v8, v9, v10, v11, v12, v13, v14, v15, v16])), (nw, .inr (6, [.ref gr, .ref n1, .ref n2, .ref n3, .int 0])), (gr, .inr (4, [.int 0, .int 0, .int 0, .ref gs]))] (S := Unit) (fun r _ => r = 0) (fun _ => []) := by
  refine ctI.of (by decide +kernel) (Nat.le_of_ble_eq_true rfl) ?_
  intro p e s m args below meth c A ls X hr hlocks hin hA hP hD hS hl
  have hx := X.1
  have hb := X.2.1
  have hK := X.2.2.2.2.2.1
  have hl : lv_has ls 2 [(0, .ref h0), (1, .int p1)] := hl
  refine lv_aload_n hx hb dX11_gate_0 rfl (lv_at hl 0 rfl) ?_
  refine lv_iload_n hx hb dX11_gate_1 rfl (lv_at hl 1 rfl) ?_
  refine lv_iconst (v := 1) hx hb dX11_gate_2 (by decide) ?_
  refine lv_iconst (v := 2) hx hb dX11_gate_3 (by decide) ?_
  refine fI (wr := []) (rV_I (wc := [(h0, .inr (10, [v0, .ref nw, v2, v3, v4, v5, v6, v7, v8, v9, v10, v11, v12, v13, v14, v15, v16])), (nw, .inr (6, [.ref gr, .ref n1, .ref n2, .ref n3, .int 0])), (gr, .inr (4, [.int 0, .int 0, .int 0, .ref gs]))]) (As := [.int p1, .int 1, .int 2]) (rest := []) X (tX11_change l dC dI cy h0 v0 nw v2 v3 v4 v5 v6 v7 v8 v9 v10 v11 v12 v13 v14 v15 v16 gr gs n1 n2 n3 p1 1 2) kX11_change vX11_change mX11_350 hP hD [0, 1, 2] (by decide) rfl 0 (ci := 10) rfl rfl rfl hl rfl rfl (Nat.le_of_ble_eq_true rfl) dX11_gate_4 ⟨Nat.le_of_ble_eq_true rfl, Nat.le_of_ble_eq_true rfl⟩ ⟨Nat.le_of_ble_eq_true rfl, Nat.le_of_ble_eq_true rfl⟩) hP hD hS hA [0, 1, 2] [] rfl rfl (by decide) (by decide) (fun r_1 u_3 H locs k_2 hP hD hS => ?_)
  have hP : va_P (dC, dI) vwCl [] H := hP
  have hD : va_D A [] := hD
  have er_1 : r_1 = 0 := k_2
  subst er_1
  exact eI X hr hlocks hP hD hS () [] (by decide) rfl rfl rfl (Nat.le_of_ble_eq_true rfl) (Nat.le_of_ble_eq_true rfl) dX11_gate_7
set_option maxHeartbeats 4000000 in
set_option maxRecDepth 100000 in
theorem tX11_hedge (l : Launch) (dC : Nat → ClassId) (dI : Nat → Nat → Nat) (cy : Nat → ClassId) (h0 : Nat) (v0 : Value) (nw : Nat) (v2 : Value) (v3 : Value) (v4 : Value) (v5 : Value) (v6 : Value) (v7 : Value) (v8 : Value) (v9 : Value) (v10 : Value) (v11 : Value) (v12 : Value) (v13 : Value) (v14 : Value) (v15 : Value) (v16 : Value) (gr : Nat) (gs : Nat) (n1 : Nat) (n2 : Nat) (n3 : Nat) (p1 : Int32) : ctI l dC dI cy yX11_hedge cX11_hedge 2 .boolean ({ frames := 2, cells := 0, slots := 0, locals := 44 }) [.ref h0, .int p1] [(h0, .inr (10, [v0, .ref nw, v2, v3, v4, v5, v6, v7, v8, v9, v10, v11, v12, v13, v14, v15, v16])), (nw, .inr (6, [.ref gr, .ref n1, .ref n2, .ref n3, .int 0])), (gr, .inr (4, [.int 0, .int 0, .int 0, .ref gs]))] (S := Unit) (fun r _ => r = 0) (fun _ => []) := by
  refine ctI.of (by decide +kernel) (Nat.le_of_ble_eq_true rfl) ?_
  intro p e s m args below meth c A ls X hr hlocks hin hA hP hD hS hl
  have hx := X.1
  have hb := X.2.1
  have hK := X.2.2.2.2.2.1
  have hl : lv_has ls 2 [(0, .ref h0), (1, .int p1)] := hl
  refine lv_aload_n hx hb dX11_hedge_0 rfl (lv_at hl 0 rfl) ?_
  refine r_get X kcX11 (ci := 10) rfl hP 0 rfl 1 (by decide) fX11_19 rfl dX11_hedge_1 ?_
  refine r_get X kcX6 (ci := 6) rfl hP 1 rfl 0 (by decide) fX11_121 rfl dX11_hedge_4 ?_
  refine lv_iload_n hx hb dX11_hedge_7 rfl (lv_at hl 1 rfl) ?_
  refine fI (wr := [(h0, .inr (10, [v0, .ref nw, v2, v3, v4, v5, v6, v7, v8, v9, v10, v11, v12, v13, v14, v15, v16])), (nw, .inr (6, [.ref gr, .ref n1, .ref n2, .ref n3, .int 0]))]) (rV_I (wc := [(gr, .inr (4, [.int 0, .int 0, .int 0, .ref gs]))]) (As := [.int p1]) (rest := []) X (tX4_holds l dC dI cy gr gs p1) kX4_holds vX4_holds mX11_142 hP hD [2] (by decide) rfl 0 (ci := 4) rfl rfl rfl hl rfl rfl (Nat.le_of_ble_eq_true rfl) dX11_hedge_8 ⟨Nat.le_of_ble_eq_true rfl, Nat.le_of_ble_eq_true rfl⟩ ⟨Nat.le_of_ble_eq_true rfl, Nat.le_of_ble_eq_true rfl⟩) hP hD hS hA [2] [0, 1] rfl rfl (by decide) (by decide) (fun r_1 u_3 H locs k_2 hP hD hS => ?_)
  have hP : va_P (dC, dI) vwCl [(h0, .inr (10, [v0, .ref nw, v2, v3, v4, v5, v6, v7, v8, v9, v10, v11, v12, v13, v14, v15, v16])), (nw, .inr (6, [.ref gr, .ref n1, .ref n2, .ref n3, .int 0])), (gr, .inr (4, [.int 0, .int 0, .int 0, .ref gs]))] H := hP
  have hD : va_D A [(h0, .inr (10, [v0, .ref nw, v2, v3, v4, v5, v6, v7, v8, v9, v10, v11, v12, v13, v14, v15, v16])), (nw, .inr (6, [.ref gr, .ref n1, .ref n2, .ref n3, .int 0])), (gr, .inr (4, [.int 0, .int 0, .int 0, .ref gs]))] := hD
  have er_1 : r_1 = 0 := k_2
  subst er_1
  refine lv_if_eq (tgt := 31) hx hb dX11_hedge_11 (by decide) (fun _ => ?_) (fun h_4 => absurd (by decide) h_4)
  refine lv_aload_n hx hb dX11_hedge_31 rfl (lv_at hl 0 rfl) ?_
  refine lv_iload_n hx hb dX11_hedge_32 rfl (lv_at hl 1 rfl) ?_
  refine lv_iconst (v := 0) hx hb dX11_hedge_33 (by decide) ?_
  refine lv_iconst (v := 3) hx hb dX11_hedge_34 (by decide) ?_
  refine fI (wr := []) (rV_I (wc := [(h0, .inr (10, [v0, .ref nw, v2, v3, v4, v5, v6, v7, v8, v9, v10, v11, v12, v13, v14, v15, v16])), (nw, .inr (6, [.ref gr, .ref n1, .ref n2, .ref n3, .int 0])), (gr, .inr (4, [.int 0, .int 0, .int 0, .ref gs]))]) (As := [.int p1, .int 0, .int 3]) (rest := []) X (tX11_change l dC dI cy h0 v0 nw v2 v3 v4 v5 v6 v7 v8 v9 v10 v11 v12 v13 v14 v15 v16 gr gs n1 n2 n3 p1 0 3) kX11_change vX11_change mX11_350 hP hD [0, 1, 2] (by decide) rfl 0 (ci := 10) rfl rfl rfl hl rfl rfl (Nat.le_of_ble_eq_true rfl) dX11_hedge_35 ⟨Nat.le_of_ble_eq_true rfl, Nat.le_of_ble_eq_true rfl⟩ ⟨Nat.le_of_ble_eq_true rfl, Nat.le_of_ble_eq_true rfl⟩) hP hD hS hA [0, 1, 2] [] rfl rfl (by decide) (by decide) (fun r_5 u_7 H locs k_6 hP hD hS => ?_)
  have hP : va_P (dC, dI) vwCl [] H := hP
  have hD : va_D A [] := hD
  have er_5 : r_5 = 0 := k_6
  subst er_5
  exact eI X hr hlocks hP hD hS () [] (by decide) rfl rfl rfl (Nat.le_of_ble_eq_true rfl) (Nat.le_of_ble_eq_true rfl) dX11_hedge_38
set_option maxHeartbeats 4000000 in
set_option maxRecDepth 100000 in
theorem tX11_undo (l : Launch) (dC : Nat → ClassId) (dI : Nat → Nat → Nat) (cy : Nat → ClassId) (h0 : Nat) (v0 : Value) (v1 : Value) (v2 : Value) (v3 : Value) (v4 : Value) (v5 : Value) (v6 : Value) (v7 : Value) (v8 : Value) (v9 : Value) (v10 : Value) (v11 : Value) (v12 : Value) (v13 : Value) (v15 : Value) (v16 : Value) : ctI l dC dI cy yX11_undo cX11_undo 1 .boolean ({ frames := 1, cells := 0, slots := 0, locals := 21 }) [.ref h0] [(h0, .inr (10, [v0, v1, v2, v3, v4, v5, v6, v7, v8, v9, v10, v11, v12, v13, .int 0, v15, v16]))] (S := Unit) (fun r _ => r = 0) (fun _ => []) := by
  refine ctI.of (by decide +kernel) (Nat.le_of_ble_eq_true rfl) ?_
  intro p e s m args below meth c A ls X hr hlocks hin hA hP hD hS hl
  have hx := X.1
  have hb := X.2.1
  have hK := X.2.2.2.2.2.1
  have hl : lv_has ls 1 [(0, .ref h0)] := hl
  refine lv_aload_n hx hb dX11_undo_0 rfl (lv_at hl 0 rfl) ?_
  refine r_get X kcX11 (ci := 10) rfl hP 0 rfl 14 (by decide) fX11_115 rfl dX11_undo_1 ?_
  refine lv_if_ne (tgt := 14) hx hb dX11_undo_4 (by decide) (fun h_1 => absurd (by decide) h_1) (fun _ => ?_)
  refine lv_aload_n hx hb dX11_undo_7 rfl (lv_at hl 0 rfl) ?_
  refine lv_bipush (v := 6) hx hb dX11_undo_8 (by decide) ?_
  refine fI (wr := []) (rV_I (wc := [(h0, .inr (10, [v0, v1, v2, v3, v4, v5, v6, v7, v8, v9, v10, v11, v12, v13, .int 0, v15, v16]))]) (As := [.int 6]) (rest := []) X (tX11_report6 l dC dI cy h0 v0 v1 v2 v3 v4 v5 v6 v7 v8 v9 v10 v11 v12 v13 (.int 0) v15 v16) kX11_report vX11_report mX11_354 hP hD [0] (by decide) rfl 0 (ci := 10) rfl rfl rfl hl rfl rfl (Nat.le_of_ble_eq_true rfl) dX11_undo_10 ⟨Nat.le_of_ble_eq_true rfl, Nat.le_of_ble_eq_true rfl⟩ ⟨Nat.le_of_ble_eq_true rfl, Nat.le_of_ble_eq_true rfl⟩) hP hD hS hA [0] [] rfl rfl (by decide) (by decide) (fun r_2 u_4 H locs k_3 hP hD hS => ?_)
  have hP : va_P (dC, dI) vwCl [] H := hP
  have hD : va_D A [] := hD
  have er_2 : r_2 = 0 := k_3
  subst er_2
  exact eI X hr hlocks hP hD hS () [] (by decide) rfl rfl rfl (Nat.le_of_ble_eq_true rfl) (Nat.le_of_ble_eq_true rfl) dX11_undo_13
set_option maxHeartbeats 4000000 in
set_option maxRecDepth 100000 in
theorem tX11_back (l : Launch) (dC : Nat → ClassId) (dI : Nat → Nat → Nat) (cy : Nat → ClassId) (h0 : Nat) (v0 : Value) (v1 : Value) (v2 : Value) (v3 : Value) (v4 : Value) (v5 : Value) (v6 : Value) (v7 : Value) (v8 : Value) (v9 : Value) (v10 : Value) (v11 : Value) (v12 : Value) (v13 : Value) (v14 : Value) (v16 : Value) (p1 : Int32) : ctI l dC dI cy yX11_back cX11_back 2 .boolean ({ frames := 1, cells := 0, slots := 0, locals := 21 }) [.ref h0, .int p1] [(h0, .inr (10, [v0, v1, v2, v3, v4, v5, v6, v7, v8, v9, v10, v11, v12, v13, v14, .int 0, v16]))] (S := Unit) (fun r _ => r = 0) (fun _ => []) := by
  refine ctI.of (by decide +kernel) (Nat.le_of_ble_eq_true rfl) ?_
  intro p e s m args below meth c A ls X hr hlocks hin hA hP hD hS hl
  have hx := X.1
  have hb := X.2.1
  have hK := X.2.2.2.2.2.1
  have hl : lv_has ls 2 [(0, .ref h0), (1, .int p1)] := hl
  refine lv_iload_n hx hb dX11_back_0 rfl (lv_at hl 1 rfl) ?_
  refine lv_if_lt (tgt := 12) hx hb dX11_back_1 (by decide) (fun h_1 => ?_) (fun h_1 => ?_)
  · have h_1 : p1.toInt < 0 := c_lt h_1
    refine lv_aload_n hx hb dX11_back_12 rfl (lv_at hl 0 rfl) ?_
    refine lv_iconst (v := 1) hx hb dX11_back_13 (by decide) ?_
    refine fI (wr := []) (rV_I (wc := [(h0, .inr (10, [v0, v1, v2, v3, v4, v5, v6, v7, v8, v9, v10, v11, v12, v13, v14, .int 0, v16]))]) (As := [.int 1]) (rest := []) X (tX11_report l dC dI cy h0 v0 v1 v2 v3 v4 v5 v6 v7 v8 v9 v10 v11 v12 v13 v14 (.int 0) v16) kX11_report vX11_report mX11_354 hP hD [0] (by decide) rfl 0 (ci := 10) rfl rfl rfl hl rfl rfl (Nat.le_of_ble_eq_true rfl) dX11_back_14 ⟨Nat.le_of_ble_eq_true rfl, Nat.le_of_ble_eq_true rfl⟩ ⟨Nat.le_of_ble_eq_true rfl, Nat.le_of_ble_eq_true rfl⟩) hP hD hS hA [0] [] rfl rfl (by decide) (by decide) (fun r_2 u_4 H locs k_3 hP hD hS => ?_)
    have hP : va_P (dC, dI) vwCl [] H := hP
    have hD : va_D A [] := hD
    have er_2 : r_2 = 0 := k_3
    subst er_2
    exact eI X hr hlocks hP hD hS () [] (by decide) rfl rfl rfl (Nat.le_of_ble_eq_true rfl) (Nat.le_of_ble_eq_true rfl) dX11_back_17
  · have h_1 : 0 ≤ p1.toInt := c_nlt h_1
    refine lv_iload_n hx hb dX11_back_4 rfl (lv_at hl 1 rfl) ?_
    refine lv_aload_n hx hb dX11_back_5 rfl (lv_at hl 0 rfl) ?_
    refine r_get X kcX11 (ci := 10) rfl hP 0 rfl 15 (by decide) fX11_118 rfl dX11_back_6 ?_
    refine lv_icmp_lt (tgt := 18) hx hb dX11_back_9 (by decide) (fun h_5 => ?_) (fun h_5 => ?_)
    · have h_5 : p1.toInt < 0 := c_lt h_5
      exfalso
      omega
    · have h_5 : 0 ≤ p1.toInt := c_nlt h_5
      refine lv_aload_n hx hb dX11_back_12 rfl (lv_at hl 0 rfl) ?_
      refine lv_iconst (v := 1) hx hb dX11_back_13 (by decide) ?_
      refine fI (wr := []) (rV_I (wc := [(h0, .inr (10, [v0, v1, v2, v3, v4, v5, v6, v7, v8, v9, v10, v11, v12, v13, v14, .int 0, v16]))]) (As := [.int 1]) (rest := []) X (tX11_report l dC dI cy h0 v0 v1 v2 v3 v4 v5 v6 v7 v8 v9 v10 v11 v12 v13 v14 (.int 0) v16) kX11_report vX11_report mX11_354 hP hD [0] (by decide) rfl 0 (ci := 10) rfl rfl rfl hl rfl rfl (Nat.le_of_ble_eq_true rfl) dX11_back_14 ⟨Nat.le_of_ble_eq_true rfl, Nat.le_of_ble_eq_true rfl⟩ ⟨Nat.le_of_ble_eq_true rfl, Nat.le_of_ble_eq_true rfl⟩) hP hD hS hA [0] [] rfl rfl (by decide) (by decide) (fun r_6 u_8 H locs k_7 hP hD hS => ?_)
      have hP : va_P (dC, dI) vwCl [] H := hP
      have hD : va_D A [] := hD
      have er_6 : r_6 = 0 := k_7
      subst er_6
      exact eI X hr hlocks hP hD hS () [] (by decide) rfl rfl rfl (Nat.le_of_ble_eq_true rfl) (Nat.le_of_ble_eq_true rfl) dX11_back_17
set_option maxHeartbeats 4000000 in
set_option maxRecDepth 100000 in
theorem tX11_trouble (l : Launch) (dC : Nat → ClassId) (dI : Nat → Nat → Nat) (cy : Nat → ClassId) (h0 : Nat) (v0 : Value) (v1 : Value) (v2 : Value) (v3 : Value) (v4 : Value) (v5 : Value) (v6 : Value) (v7 : Value) (v8 : Value) (v9 : Value) (v10 : Value) (v11 : Value) (v12 : Value) (v13 : Value) (v14 : Value) (v15 : Value) : ctI l dC dI cy yX11_trouble cX11_trouble 1 .int ({ frames := 0, cells := 0, slots := 0, locals := 0 }) [.ref h0] [(h0, .inr (10, [v0, v1, v2, v3, v4, v5, v6, v7, v8, v9, v10, v11, v12, v13, v14, v15, .int 0]))] (S := Unit) (fun r _ => r = 0) (fun _ => []) := by
  refine ctI.of (by decide +kernel) (Nat.le_of_ble_eq_true rfl) ?_
  intro p e s m args below meth c A ls X hr hlocks hin hA hP hD hS hl
  have hx := X.1
  have hb := X.2.1
  have hK := X.2.2.2.2.2.1
  have hl : lv_has ls 1 [(0, .ref h0)] := hl
  refine lv_aload_n hx hb dX11_trouble_0 rfl (lv_at hl 0 rfl) ?_
  refine r_get X kcX11 (ci := 10) rfl hP 0 rfl 16 (by decide) fX11_136 rfl dX11_trouble_1 ?_
  exact eI X hr hlocks hP hD hS () [] (by decide) rfl rfl rfl (Nat.le_of_ble_eq_true rfl) (Nat.le_of_ble_eq_true rfl) dX11_trouble_4
