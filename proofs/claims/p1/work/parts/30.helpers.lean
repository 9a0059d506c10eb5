set_option maxHeartbeats 4000000 in
set_option maxRecDepth 100000 in
theorem tX4_holds (l : Launch) (dC : Nat → ClassId) (dI : Nat → Nat → Nat) (cy : Nat → ClassId) (gr : Nat) (gs : Nat) (p1 : Int32) : ctI l dC dI cy yX4_holds cX4_holds 2 .boolean ({ frames := 0, cells := 0, slots := 0, locals := 0 }) [.ref gr, .int p1] [(gr, .inr (4, [.int 0, .int 0, .int 0, .ref gs]))] (S := Unit) (fun r _ => r = 0) (fun _ => [(gr, .inr (4, [.int 0, .int 0, .int 0, .ref gs]))]) := by
  refine ctI.of (by decide +kernel) (Nat.le_of_ble_eq_true rfl) ?_
  intro p e s m args below meth c A ls X hr hlocks hin hA hP hD hS hl
  have hx := X.1
  have hb := X.2.1
  have hK := X.2.2.2.2.2.1
  have hl : lv_has ls 2 [(0, .ref gr), (1, .int p1)] := hl
  refine lv_iload_n hx hb dX4_holds_0 rfl (lv_at hl 1 rfl) ?_
  refine lv_if_lt (tgt := 16) hx hb dX4_holds_1 (by decide) (fun h_1 => ?_) (fun h_1 => ?_)
  · have h_1 : p1.toInt < 0 := c_lt h_1
    refine lv_iconst (v := 0) hx hb dX4_holds_16 (by decide) ?_
    exact eI X hr hlocks hP hD hS () [0] (by decide) rfl rfl rfl (Nat.le_of_ble_eq_true rfl) (Nat.le_of_ble_eq_true rfl) dX4_holds_17
  · have h_1 : 0 ≤ p1.toInt := c_nlt h_1
    refine lv_iload_n hx hb dX4_holds_4 rfl (lv_at hl 1 rfl) ?_
    refine lv_aload_n hx hb dX4_holds_5 rfl (lv_at hl 0 rfl) ?_
    refine r_get X kcX4 (ci := 4) rfl hP 0 rfl 2 (by decide) fX4_22 rfl dX4_holds_6 ?_
    refine lv_icmp_ge (tgt := 16) hx hb dX4_holds_9 (by decide) (fun h_2 => ?_) (fun h_2 => ?_)
    · have h_2 : 0 ≤ p1.toInt := c_le h_2
      refine lv_iconst (v := 0) hx hb dX4_holds_16 (by decide) ?_
      exact eI X hr hlocks hP hD hS () [0] (by decide) rfl rfl rfl (Nat.le_of_ble_eq_true rfl) (Nat.le_of_ble_eq_true rfl) dX4_holds_17
    · have h_2 : p1.toInt < 0 := c_nle h_2
      exfalso
      omega
set_option maxHeartbeats 4000000 in
set_option maxRecDepth 100000 in
theorem tX11_hasPark (l : Launch) (dC : Nat → ClassId) (dI : Nat → Nat → Nat) (cy : Nat → ClassId) (h0 : Nat) (v0 : Value) (nw : Nat) (v2 : Value) (v3 : Value) (v4 : Value) (v5 : Value) (v6 : Value) (v7 : Value) (v8 : Value) (v9 : Value) (v10 : Value) (v11 : Value) (v12 : Value) (v13 : Value) (v14 : Value) (v15 : Value) (v16 : Value) (gr : Nat) (gs : Nat) (n1 : Nat) (n2 : Nat) (n3 : Nat) : ctI l dC dI cy yX11_hasPark cX11_hasPark 1 .boolean ({ frames := 0, cells := 0, slots := 0, locals := 0 }) [.ref h0] [(h0, .inr (10, [v0, .ref nw, v2, v3, v4, v5, v6, v7, v8, v9, v10, v11, v12, v13, v14, v15, v16])), (nw, .inr (6, [.ref gr, .ref n1, .ref n2, .ref n3, .int 0])), (gr, .inr (4, [.int 0, .int 0, .int 0, .ref gs]))] (S := Unit) (fun r _ => r = 0) (fun _ => [(h0, .inr (10, [v0, .ref nw, v2, v3, v4, v5, v6, v7, v8, v9, v10, v11, v12, v13, v14, v15, v16])), (nw, .inr (6, [.ref gr, .ref n1, .ref n2, .ref n3, .int 0])), (gr, .inr (4, [.int 0, .int 0, .int 0, .ref gs]))]) := by
  refine ctI.of (by decide +kernel) (Nat.le_of_ble_eq_true rfl) ?_
  intro p e s m args below meth c A ls X hr hlocks hin hA hP hD hS hl
  have hx := X.1
  have hb := X.2.1
  have hK := X.2.2.2.2.2.1
  have hl : lv_has ls 1 [(0, .ref h0)] := hl
  refine lv_aload_n hx hb dX11_hasPark_0 rfl (lv_at hl 0 rfl) ?_
  refine r_get X kcX11 (ci := 10) rfl hP 0 rfl 1 (by decide) fX11_19 rfl dX11_hasPark_1 ?_
  refine r_get X kcX6 (ci := 6) rfl hP 1 rfl 0 (by decide) fX11_121 rfl dX11_hasPark_4 ?_
  refine r_get X kcX4 (ci := 4) rfl hP 2 rfl 2 (by decide) fX11_125 rfl dX11_hasPark_7 ?_
  refine lv_if_le (tgt := 17) hx hb dX11_hasPark_10 (by decide) (fun _ => ?_) (fun h_1 => absurd (by decide) h_1)
  refine lv_iconst (v := 0) hx hb dX11_hasPark_17 (by decide) ?_
  exact eI X hr hlocks hP hD hS () [0, 1, 2] (by decide) rfl rfl rfl (Nat.le_of_ble_eq_true rfl) (Nat.le_of_ble_eq_true rfl) dX11_hasPark_18
set_option maxHeartbeats 4000000 in
set_option maxRecDepth 100000 in
theorem tX11_isWalker (l : Launch) (dC : Nat → ClassId) (dI : Nat → Nat → Nat) (cy : Nat → ClassId) (h0 : Nat) (v0 : Value) (v1 : Value) (v2 : Value) (v3 : Value) (v4 : Value) (v5 : Value) (v6 : Value) (v7 : Value) (v8 : Value) (v9 : Value) (v10 : Value) (v11 : Value) (td : Nat) (v13 : Value) (v14 : Value) (v15 : Value) (v16 : Value) (tg : Nat) (t0 : Nat) (t1 : Nat) (t2 : Nat) (t3 : Nat) (t4 : Nat) (t5 : Nat) (t6 : Nat) (t7 : Nat) (p1 : Int32) : ctI l dC dI cy yX11_isWalker cX11_isWalker 2 .boolean ({ frames := 0, cells := 0, slots := 0, locals := 0 }) [.ref h0, .int p1] [(h0, .inr (10, [v0, v1, v2, v3, v4, v5, v6, v7, v8, v9, v10, v11, .ref td, v13, v14, v15, v16])), (td, .inr (7, [.ref tg, .int 0, .int 0, .int 0, .int 0, .ref t0, .int 0, .ref t1, .ref t2, .ref t3, .ref t4, .int 0, .ref t5, .ref t6, .ref t7]))] (S := Unit) (fun r _ => r = 0) (fun _ => [(h0, .inr (10, [v0, v1, v2, v3, v4, v5, v6, v7, v8, v9, v10, v11, .ref td, v13, v14, v15, v16])), (td, .inr (7, [.ref tg, .int 0, .int 0, .int 0, .int 0, .ref t0, .int 0, .ref t1, .ref t2, .ref t3, .ref t4, .int 0, .ref t5, .ref t6, .ref t7]))]) := by
  refine ctI.of (by decide +kernel) (Nat.le_of_ble_eq_true rfl) ?_
  intro p e s m args below meth c A ls X hr hlocks hin hA hP hD hS hl
  have hx := X.1
  have hb := X.2.1
  have hK := X.2.2.2.2.2.1
  have hl : lv_has ls 2 [(0, .ref h0), (1, .int p1)] := hl
  refine lv_iload_n hx hb dX11_isWalker_0 rfl (lv_at hl 1 rfl) ?_
  refine lv_if_lt (tgt := 19) hx hb dX11_isWalker_1 (by decide) (fun h_1 => ?_) (fun h_1 => ?_)
  · have h_1 : p1.toInt < 0 := c_lt h_1
    refine lv_iconst (v := 0) hx hb dX11_isWalker_19 (by decide) ?_
    exact eI X hr hlocks hP hD hS () [0, 1] (by decide) rfl rfl rfl (Nat.le_of_ble_eq_true rfl) (Nat.le_of_ble_eq_true rfl) dX11_isWalker_20
  · have h_1 : 0 ≤ p1.toInt := c_nlt h_1
    refine lv_iload_n hx hb dX11_isWalker_4 rfl (lv_at hl 1 rfl) ?_
    refine lv_aload_n hx hb dX11_isWalker_5 rfl (lv_at hl 0 rfl) ?_
    refine r_get X kcX11 (ci := 10) rfl hP 0 rfl 12 (by decide) fX11_81 rfl dX11_isWalker_6 ?_
    refine r_get X kcX7 (ci := 7) rfl hP 1 rfl 6 (by decide) fX11_223 rfl dX11_isWalker_9 ?_
    refine lv_icmp_ge (tgt := 19) hx hb dX11_isWalker_12 (by decide) (fun h_2 => ?_) (fun h_2 => ?_)
    · have h_2 : 0 ≤ p1.toInt := c_le h_2
      refine lv_iconst (v := 0) hx hb dX11_isWalker_19 (by decide) ?_
      exact eI X hr hlocks hP hD hS () [0, 1] (by decide) rfl rfl rfl (Nat.le_of_ble_eq_true rfl) (Nat.le_of_ble_eq_true rfl) dX11_isWalker_20
    · have h_2 : p1.toInt < 0 := c_nle h_2
      exfalso
      omega
set_option maxHeartbeats 4000000 in
set_option maxRecDepth 100000 in
theorem tX11_refuse (l : Launch) (dC : Nat → ClassId) (dI : Nat → Nat → Nat) (cy : Nat → ClassId) (h0 : Nat) (v0 : Value) (v1 : Value) (v2 : Value) (v3 : Value) (v4 : Value) (v5 : Value) (v6 : Value) (v7 : Value) (v8 : Value) (v9 : Value) (v10 : Value) (v11 : Value) (v12 : Value) (v13 : Value) (v14 : Value) (v15 : Value) (v16 : Value) (p1 : Int32) : ctI l dC dI cy yX11_refuse cX11_refuse 2 .int ({ frames := 0, cells := 0, slots := 0, locals := 0 }) [.ref h0, .int p1] [(h0, .inr (10, [v0, v1, v2, v3, v4, v5, v6, v7, v8, v9, v10, v11, v12, v13, v14, v15, v16]))] (S := Unit) (fun r _ => r = -1) (fun _ => []) := by
  refine ctI.of (by decide +kernel) (Nat.le_of_ble_eq_true rfl) ?_
  intro p e s m args below meth c A ls X hr hlocks hin hA hP hD hS hl
  have hx := X.1
  have hb := X.2.1
  have hK := X.2.2.2.2.2.1
  have hl : lv_has ls 2 [(0, .ref h0), (1, .int p1)] := hl
  refine lv_aload_n hx hb dX11_refuse_0 rfl (lv_at hl 0 rfl) ?_
  refine lv_iload_n hx hb dX11_refuse_1 rfl (lv_at hl 1 rfl) ?_
  refine r_put X kcX11 (ci := 10) rfl hP hD hS 0 rfl 16 (by decide) fX11_136 rfl rfl rfl (Nat.le_of_ble_eq_true rfl) dX11_refuse_2 (fun H locs hP hD hS => ?_)
  have hP : va_P (dC, dI) vwCl [(h0, .inr (10, [v0, v1, v2, v3, v4, v5, v6, v7, v8, v9, v10, v11, v12, v13, v14, v15, .int p1]))] H := hP
  have hD : va_D A [(h0, .inr (10, [v0, v1, v2, v3, v4, v5, v6, v7, v8, v9, v10, v11, v12, v13, v14, v15, .int p1]))] := hD
  refine lv_iconst (v := -1) hx hb dX11_refuse_5 (by decide) ?_
  exact eI X hr hlocks hP hD hS () [] (by decide) rfl rfl rfl (Nat.le_of_ble_eq_true rfl) (Nat.le_of_ble_eq_true rfl) dX11_refuse_6
set_option maxHeartbeats 4000000 in
set_option maxRecDepth 100000 in
theorem tX11_report (l : Launch) (dC : Nat → ClassId) (dI : Nat → Nat → Nat) (cy : Nat → ClassId) (h0 : Nat) (v0 : Value) (v1 : Value) (v2 : Value) (v3 : Value) (v4 : Value) (v5 : Value) (v6 : Value) (v7 : Value) (v8 : Value) (v9 : Value) (v10 : Value) (v11 : Value) (v12 : Value) (v13 : Value) (v14 : Value) (v15 : Value) (v16 : Value) : ctI l dC dI cy yX11_report cX11_report 2 .boolean ({ frames := 0, cells := 0, slots := 0, locals := 0 }) [.ref h0, .int 1] [(h0, .inr (10, [v0, v1, v2, v3, v4, v5, v6, v7, v8, v9, v10, v11, v12, v13, v14, v15, v16]))] (S := Unit) (fun r _ => r = 0) (fun _ => []) := by
  refine ctI.of (by decide +kernel) (Nat.le_of_ble_eq_true rfl) ?_
  intro p e s m args below meth c A ls X hr hlocks hin hA hP hD hS hl
  have hx := X.1
  have hb := X.2.1
  have hK := X.2.2.2.2.2.1
  have hl : lv_has ls 2 [(0, .ref h0), (1, .int 1)] := hl
  refine lv_aload_n hx hb dX11_report_0 rfl (lv_at hl 0 rfl) ?_
  refine lv_iload_n hx hb dX11_report_1 rfl (lv_at hl 1 rfl) ?_
  refine r_put X kcX11 (ci := 10) rfl hP hD hS 0 rfl 16 (by decide) fX11_136 rfl rfl rfl (Nat.le_of_ble_eq_true rfl) dX11_report_2 (fun H locs hP hD hS => ?_)
  have hP : va_P (dC, dI) vwCl [(h0, .inr (10, [v0, v1, v2, v3, v4, v5, v6, v7, v8, v9, v10, v11, v12, v13, v14, v15, .int 1]))] H := hP
  have hD : va_D A [(h0, .inr (10, [v0, v1, v2, v3, v4, v5, v6, v7, v8, v9, v10, v11, v12, v13, v14, v15, .int 1]))] := hD
  refine lv_iload_n hx hb dX11_report_5 rfl (lv_at hl 1 rfl) ?_
  refine lv_if_ne (tgt := 13) hx hb dX11_report_6 (by decide) (fun _ => ?_) (fun h_1 => absurd h_1 (by decide))
  refine lv_iconst (v := 0) hx hb dX11_report_13 (by decide) ?_
  exact eI X hr hlocks hP hD hS () [] (by decide) rfl rfl rfl (Nat.le_of_ble_eq_true rfl) (Nat.le_of_ble_eq_true rfl) dX11_report_14
set_option maxHeartbeats 4000000 in
set_option maxRecDepth 100000 in
theorem tX11_report6 (l : Launch) (dC : Nat → ClassId) (dI : Nat → Nat → Nat) (cy : Nat → ClassId) (h0 : Nat) (v0 : Value) (v1 : Value) (v2 : Value) (v3 : Value) (v4 : Value) (v5 : Value) (v6 : Value) (v7 : Value) (v8 : Value) (v9 : Value) (v10 : Value) (v11 : Value) (v12 : Value) (v13 : Value) (v14 : Value) (v15 : Value) (v16 : Value) : ctI l dC dI cy yX11_report cX11_report 2 .boolean ({ frames := 0, cells := 0, slots := 0, locals := 0 }) [.ref h0, .int 6] [(h0, .inr (10, [v0, v1, v2, v3, v4, v5, v6, v7, v8, v9, v10, v11, v12, v13, v14, v15, v16]))] (S := Unit) (fun r _ => r = 0) (fun _ => []) := by
  refine ctI.of (by decide +kernel) (Nat.le_of_ble_eq_true rfl) ?_
  intro p e s m args below meth c A ls X hr hlocks hin hA hP hD hS hl
  have hx := X.1
  have hb := X.2.1
  have hK := X.2.2.2.2.2.1
  have hl : lv_has ls 2 [(0, .ref h0), (1, .int 6)] := hl
  refine lv_aload_n hx hb dX11_report_0 rfl (lv_at hl 0 rfl) ?_
  refine lv_iload_n hx hb dX11_report_1 rfl (lv_at hl 1 rfl) ?_
  refine r_put X kcX11 (ci := 10) rfl hP hD hS 0 rfl 16 (by decide) fX11_136 rfl rfl rfl (Nat.le_of_ble_eq_true rfl) dX11_report_2 (fun H locs hP hD hS => ?_)
  have hP : va_P (dC, dI) vwCl [(h0, .inr (10, [v0, v1, v2, v3, v4, v5, v6, v7, v8, v9, v10, v11, v12, v13, v14, v15, .int 6]))] H := hP
  have hD : va_D A [(h0, .inr (10, [v0, v1, v2, v3, v4, v5, v6, v7, v8, v9, v10, v11, v12, v13, v14, v15, .int 6]))] := hD
  refine lv_iload_n hx hb dX11_report_5 rfl (lv_at hl 1 rfl) ?_
  refine lv_if_ne (tgt := 13) hx hb dX11_report_6 (by decide) (fun _ => ?_) (fun h_1 => absurd h_1 (by decide))
  refine lv_iconst (v := 0) hx hb dX11_report_13 (by decide) ?_
  exact eI X hr hlocks hP hD hS () [] (by decide) rfl rfl rfl (Nat.le_of_ble_eq_true rfl) (Nat.le_of_ble_eq_true rfl) dX11_report_14
set_option maxHeartbeats 4000000 in
set_option maxRecDepth 100000 in
theorem tX5_ith (l : Launch) (dC : Nat → ClassId) (dI : Nat → Nat → Nat) (cy : Nat → ClassId) (gu : Nat) (u0 : Nat) (u1 : Nat) (p1 : Int32) : ctI l dC dI cy yX5_ith cX5_ith 4 .int ({ frames := 0, cells := 0, slots := 0, locals := 0 }) [.ref gu, .int p1] [(gu, .inr (5, [.ref u0, .ref u1, .int 0]))] (S := Unit) (fun r _ => r = -1) (fun _ => [(gu, .inr (5, [.ref u0, .ref u1, .int 0]))]) := by
  refine ctI.of (by decide +kernel) (Nat.le_of_ble_eq_true rfl) ?_
  intro p e s m args below meth c A ls X hr hlocks hin hA hP hD hS hl
  have hx := X.1
  have hb := X.2.1
  have hK := X.2.2.2.2.2.1
  have hl : lv_has ls 4 [(0, .ref gu), (1, .int p1)] := hl
  refine lv_iconst (v := 0) hx hb dX5_ith_0 (by decide) ?_
  refine lv_istore_n (lv' := [(2, .int 0), (0, .ref gu), (1, .int p1)]) hx hb dX5_ith_1 rfl hl (by decide) rfl (fun ls hl => ?_)
  refine lv_iconst (v := 0) hx hb dX5_ith_2 (by decide) ?_
  refine lv_istore_n (lv' := [(3, .int 0), (2, .int 0), (0, .ref gu), (1, .int p1)]) hx hb dX5_ith_3 rfl hl (by decide) rfl (fun ls hl => ?_)
  refine lv_iload_n hx hb dX5_ith_4 rfl (lv_at hl 0 rfl) ?_
  refine lv_aload_n hx hb dX5_ith_5 rfl (lv_at hl 2 rfl) ?_
  refine r_get X kcX5 (ci := 5) rfl hP 0 rfl 2 (by decide) fX5_35 rfl dX5_ith_6 ?_
  refine lv_icmp_ge (tgt := 39) hx hb dX5_ith_9 (by decide) (fun _ => ?_) (fun h_1 => absurd (by decide) h_1)
  refine lv_iconst (v := -1) hx hb dX5_ith_39 (by decide) ?_
  exact eI X hr hlocks hP hD hS () [0] (by decide) rfl rfl rfl (Nat.le_of_ble_eq_true rfl) (Nat.le_of_ble_eq_true rfl) dX5_ith_40
set_option maxHeartbeats 4000000 in
set_option maxRecDepth 100000 in
theorem tX11_refusalOfShame (l : Launch) (dC : Nat → ClassId) (dI : Nat → Nat → Nat) (cy : Nat → ClassId) (h0 : Nat) (v0 : Value) (nw : Nat) (v2 : Value) (v3 : Value) (v4 : Value) (v5 : Value) (v6 : Value) (v7 : Value) (v8 : Value) (v9 : Value) (v10 : Value) (v11 : Value) (v12 : Value) (v13 : Value) (v14 : Value) (v15 : Value) (v16 : Value) (gr : Nat) (gs : Nat) (n1 : Nat) (n2 : Nat) (n3 : Nat) (p1 : Int32) : ctI l dC dI cy yX11_refusalOfShame cX11_refusalOfShame 2 .int ({ frames := 1, cells := 0, slots := 0, locals := 20 }) [.ref h0, .int p1] [(h0, .inr (10, [v0, .ref nw, v2, v3, v4, v5, v6, v7, v8, v9, v10, v11, v12, v13, v14, v15, v16])), (nw, .inr (6, [.ref gr, .ref n1, .ref n2, .ref n3, .int 0])), (gr, .inr (4, [.int 0, .int 0, .int 0, .ref gs]))] (S := Unit) (fun r _ => r = 1) (fun _ => [(h0, .inr (10, [v0, .ref nw, v2, v3, v4, v5, v6, v7, v8, v9, v10, v11, v12, v13, v14, v15, v16])), (nw, .inr (6, [.ref gr, .ref n1, .ref n2, .ref n3, .int 0])), (gr, .inr (4, [.int 0, .int 0, .int 0, .ref gs]))]) := by
  refine ctI.of (by decide +kernel) (Nat.le_of_ble_eq_true rfl) ?_
  intro p e s m args below meth c A ls X hr hlocks hin hA hP hD hS hl
  have hx := X.1
  have hb := X.2.1
  have hK := X.2.2.2.2.2.1
  have hl : lv_has ls 2 [(0, .ref h0), (1, .int p1)] := hl
  refine lv_aload_n hx hb dX11_refusalOfShame_0 rfl (lv_at hl 0 rfl) ?_
  refine fI (wr := []) (rV_I (wc := [(h0, .inr (10, [v0, .ref nw, v2, v3, v4, v5, v6, v7, v8, v9, v10, v11, v12, v13, v14, v15, v16])), (nw, .inr (6, [.ref gr, .ref n1, .ref n2, .ref n3, .int 0])), (gr, .inr (4, [.int 0, .int 0, .int 0, .ref gs]))]) (As := []) (rest := []) X (tX11_hasPark l dC dI cy h0 v0 nw v2 v3 v4 v5 v6 v7 v8 v9 v10 v11 v12 v13 v14 v15 v16 gr gs n1 n2 n3) kX11_hasPark vX11_hasPark mX11_188 hP hD [0, 1, 2] (by decide) rfl 0 (ci := 10) rfl rfl rfl hl rfl rfl (Nat.le_of_ble_eq_true rfl) dX11_refusalOfShame_1 ⟨Nat.le_of_ble_eq_true rfl, Nat.le_of_ble_eq_true rfl⟩ ⟨Nat.le_of_ble_eq_true rfl, Nat.le_of_ble_eq_true rfl⟩) hP hD hS hA [0, 1, 2] [] rfl rfl (by decide) (by decide) (fun r_1 u_3 H locs k_2 hP hD hS => ?_)
  have hP : va_P (dC, dI) vwCl [(h0, .inr (10, [v0, .ref nw, v2, v3, v4, v5, v6, v7, v8, v9, v10, v11, v12, v13, v14, v15, v16])), (nw, .inr (6, [.ref gr, .ref n1, .ref n2, .ref n3, .int 0])), (gr, .inr (4, [.int 0, .int 0, .int 0, .ref gs]))] H := hP
  have hD : va_D A [(h0, .inr (10, [v0, .ref nw, v2, v3, v4, v5, v6, v7, v8, v9, v10, v11, v12, v13, v14, v15, v16])), (nw, .inr (6, [.ref gr, .ref n1, .ref n2, .ref n3, .int 0])), (gr, .inr (4, [.int 0, .int 0, .int 0, .ref gs]))] := hD
  have er_1 : r_1 = 0 := k_2
  subst er_1
  refine lv_if_ne (tgt := 9) hx hb dX11_refusalOfShame_4 (by decide) (fun h_4 => absurd (by decide) h_4) (fun _ => ?_)
  refine lv_iconst (v := 1) hx hb dX11_refusalOfShame_7 (by decide) ?_
  exact eI X hr hlocks hP hD hS () [0, 1, 2] (by decide) rfl rfl rfl (Nat.le_of_ble_eq_true rfl) (Nat.le_of_ble_eq_true rfl) dX11_refusalOfShame_8
set_option maxHeartbeats 4000000 in
set_option maxRecDepth 100000 in
theorem tX11_refusalOfRamble (l : Launch) (dC : Nat → ClassId) (dI : Nat → Nat → Nat) (cy : Nat → ClassId) (h0 : Nat) (v0 : Value) (v1 : Value) (v2 : Value) (v3 : Value) (v4 : Value) (v5 : Value) (v6 : Value) (v7 : Value) (v8 : Value) (v9 : Value) (v10 : Value) (v11 : Value) (td : Nat) (v13 : Value) (v14 : Value) (v15 : Value) (v16 : Value) (tg : Nat) (t0 : Nat) (t1 : Nat) (t2 : Nat) (t3 : Nat) (t4 : Nat) (t5 : Nat) (t6 : Nat) (t7 : Nat) (p1 : Int32) (p2 : Int32) (p3 : Int32) : ctI l dC dI cy yX11_refusalOfRamble cX11_refusalOfRamble 5 .int ({ frames := 1, cells := 0, slots := 0, locals := 21 }) [.ref h0, .int p1, .int p2, .int p3] [(h0, .inr (10, [v0, v1, v2, v3, v4, v5, v6, v7, v8, v9, v10, v11, .ref td, v13, v14, v15, v16])), (td, .inr (7, [.ref tg, .int 0, .int 0, .int 0, .int 0, .ref t0, .int 0, .ref t1, .ref t2, .ref t3, .ref t4, .int 0, .ref t5, .ref t6, .ref t7]))] (S := Unit) (fun r _ => r = 1) (fun _ => [(h0, .inr (10, [v0, v1, v2, v3, v4, v5, v6, v7, v8, v9, v10, v11, .ref td, v13, v14, v15, v16])), (td, .inr (7, [.ref tg, .int 0, .int 0, .int 0, .int 0, .ref t0, .int 0, .ref t1, .ref t2, .ref t3, .ref t4, .int 0, .ref t5, .ref t6, .ref t7]))]) := by
  refine ctI.of (by decide +kernel) (Nat.le_of_ble_eq_true rfl) ?_
  intro p e s m args below meth c A ls X hr hlocks hin hA hP hD hS hl
  have hx := X.1
  have hb := X.2.1
  have hK := X.2.2.2.2.2.1
  have hl : lv_has ls 5 [(0, .ref h0), (1, .int p1), (2, .int p2), (3, .int p3)] := hl
  refine lv_aload_n hx hb dX11_refusalOfRamble_0 rfl (lv_at hl 0 rfl) ?_
  refine lv_iload_n hx hb dX11_refusalOfRamble_1 rfl (lv_at hl 1 rfl) ?_
  refine fI (wr := []) (rV_I (wc := [(h0, .inr (10, [v0, v1, v2, v3, v4, v5, v6, v7, v8, v9, v10, v11, .ref td, v13, v14, v15, v16])), (td, .inr (7, [.ref tg, .int 0, .int 0, .int 0, .int 0, .ref t0, .int 0, .ref t1, .ref t2, .ref t3, .ref t4, .int 0, .ref t5, .ref t6, .ref t7]))]) (As := [.int p1]) (rest := []) X (tX11_isWalker l dC dI cy h0 v0 v1 v2 v3 v4 v5 v6 v7 v8 v9 v10 v11 td v13 v14 v15 v16 tg t0 t1 t2 t3 t4 t5 t6 t7 p1) kX11_isWalker vX11_isWalker mX11_159 hP hD [0, 1] (by decide) rfl 0 (ci := 10) rfl rfl rfl hl rfl rfl (Nat.le_of_ble_eq_true rfl) dX11_refusalOfRamble_2 ⟨Nat.le_of_ble_eq_true rfl, Nat.le_of_ble_eq_true rfl⟩ ⟨Nat.le_of_ble_eq_true rfl, Nat.le_of_ble_eq_true rfl⟩) hP hD hS hA [0, 1] [] rfl rfl (by decide) (by decide) (fun r_1 u_3 H locs k_2 hP hD hS => ?_)
  have hP : va_P (dC, dI) vwCl [(h0, .inr (10, [v0, v1, v2, v3, v4, v5, v6, v7, v8, v9, v10, v11, .ref td, v13, v14, v15, v16])), (td, .inr (7, [.ref tg, .int 0, .int 0, .int 0, .int 0, .ref t0, .int 0, .ref t1, .ref t2, .ref t3, .ref t4, .int 0, .ref t5, .ref t6, .ref t7]))] H := hP
  have hD : va_D A [(h0, .inr (10, [v0, v1, v2, v3, v4, v5, v6, v7, v8, v9, v10, v11, .ref td, v13, v14, v15, v16])), (td, .inr (7, [.ref tg, .int 0, .int 0, .int 0, .int 0, .ref t0, .int 0, .ref t1, .ref t2, .ref t3, .ref t4, .int 0, .ref t5, .ref t6, .ref t7]))] := hD
  have er_1 : r_1 = 0 := k_2
  subst er_1
  refine lv_if_ne (tgt := 10) hx hb dX11_refusalOfRamble_5 (by decide) (fun h_4 => absurd (by decide) h_4) (fun _ => ?_)
  refine lv_iconst (v := 1) hx hb dX11_refusalOfRamble_8 (by decide) ?_
  exact eI X hr hlocks hP hD hS () [0, 1] (by decide) rfl rfl rfl (Nat.le_of_ble_eq_true rfl) (Nat.le_of_ble_eq_true rfl) dX11_refusalOfRamble_9
set_option maxHeartbeats 4000000 in
set_option maxRecDepth 100000 in
theorem tX11_change (l : Launch) (dC : Nat → ClassId) (dI : Nat → Nat → Nat) (cy : Nat → ClassId) (h0 : Nat) (v0 : Value) (nw : Nat) (v2 : Value) (v3 : Value) (v4 : Value) (v5 : Value) (v6 : Value) (v7 : Value) (v8 : Value) (v9 : Value) (v10 : Value) (v11 : Value) (v12 : Value) (v13 : Value) (v14 : Value) (v15 : Value) (v16 : Value) (gr : Nat) (gs : Nat) (n1 : Nat) (n2 : Nat) (n3 : Nat) (p1 : Int32) (p2 : Int32) (p3 : Int32) : ctI l dC dI cy yX11_change cX11_change 4 .boolean ({ frames := 1, cells := 0, slots := 0, locals := 21 }) [.ref h0, .int p1, .int p2, .int p3] [(h0, .inr (10, [v0, .ref nw, v2, v3, v4, v5, v6, v7, v8, v9, v10, v11, v12, v13, v14, v15, v16])), (nw, .inr (6, [.ref gr, .ref n1, .ref n2, .ref n3, .int 0])), (gr, .inr (4, [.int 0, .int 0, .int 0, .ref gs]))] (S := Unit) (fun r _ => r = 0) (fun _ => []) := by
  refine ctI.of (by decide +kernel) (Nat.le_of_ble_eq_true rfl) ?_
  intro p e s m args below meth c A ls X hr hlocks hin hA hP hD hS hl
  have hx := X.1
  have hb := X.2.1
  have hK := X.2.2.2.2.2.1
  have hl : lv_has ls 4 [(0, .ref h0), (1, .int p1), (2, .int p2), (3, .int p3)] := hl
  refine lv_aload_n hx hb dX11_change_0 rfl (lv_at hl 0 rfl) ?_
  refine r_get X kcX11 (ci := 10) rfl hP 0 rfl 1 (by decide) fX11_19 rfl dX11_change_1 ?_
  refine r_get X kcX6 (ci := 6) rfl hP 1 rfl 0 (by decide) fX11_121 rfl dX11_change_4 ?_
  refine lv_iload_n hx hb dX11_change_7 rfl (lv_at hl 1 rfl) ?_
  refine fI (wr := [(h0, .inr (10, [v0, .ref nw, v2, v3, v4, v5, v6, v7, v8, v9, v10, v11, v12, v13, v14, v15, v16])), (nw, .inr (6, [.ref gr, .ref n1, .ref n2, .ref n3, .int 0]))]) (rV_I (wc := [(gr, .inr (4, [.int 0, .int 0, .int 0, .ref gs]))]) (As := [.int p1]) (rest := []) X (tX4_holds l dC dI cy gr gs p1) kX4_holds vX4_holds mX11_142 hP hD [2] (by decide) rfl 0 (ci := 4) rfl rfl rfl hl rfl rfl (Nat.le_of_ble_eq_true rfl) dX11_change_8 ⟨Nat.le_of_ble_eq_true rfl, Nat.le_of_ble_eq_true rfl⟩ ⟨Nat.le_of_ble_eq_true rfl, Nat.le_of_ble_eq_true rfl⟩) hP hD hS hA [2] [0, 1] rfl rfl (by decide) (by decide) (fun r_1 u_3 H locs k_2 hP hD hS => ?_)
  have hP : va_P (dC, dI) vwCl [(h0, .inr (10, [v0, .ref nw, v2, v3, v4, v5, v6, v7, v8, v9, v10, v11, v12, v13, v14, v15, v16])), (nw, .inr (6, [.ref gr, .ref n1, .ref n2, .ref n3, .int 0])), (gr, .inr (4, [.int 0, .int 0, .int 0, .ref gs]))] H := hP
  have hD : va_D A [(h0, .inr (10, [v0, .ref nw, v2, v3, v4, v5, v6, v7, v8, v9, v10, v11, v12, v13, v14, v15, v16])), (nw, .inr (6, [.ref gr, .ref n1, .ref n2, .ref n3, .int 0])), (gr, .inr (4, [.int 0, .int 0, .int 0, .ref gs]))] := hD
  have er_1 : r_1 = 0 := k_2
  subst er_1
  refine lv_if_ne (tgt := 20) hx hb dX11_change_11 (by decide) (fun h_4 => absurd (by decide) h_4) (fun _ => ?_)
  refine lv_aload_n hx hb dX11_change_14 rfl (lv_at hl 0 rfl) ?_
  refine lv_iconst (v := 1) hx hb dX11_change_15 (by decide) ?_
  refine fI (wr := [(nw, .inr (6, [.ref gr, .ref n1, .ref n2, .ref n3, .int 0])), (gr, .inr (4, [.int 0, .int 0, .int 0, .ref gs]))]) (rV_I (wc := [(h0, .inr (10, [v0, .ref nw, v2, v3, v4, v5, v6, v7, v8, v9, v10, v11, v12, v13, v14, v15, v16]))]) (As := [.int 1]) (rest := []) X (tX11_report l dC dI cy h0 v0 (.ref nw) v2 v3 v4 v5 v6 v7 v8 v9 v10 v11 v12 v13 v14 v15 v16) kX11_report vX11_report mX11_354 hP hD [0] (by decide) rfl 0 (ci := 10) rfl rfl rfl hl rfl rfl (Nat.le_of_ble_eq_true rfl) dX11_change_16 ⟨Nat.le_of_ble_eq_true rfl, Nat.le_of_ble_eq_true rfl⟩ ⟨Nat.le_of_ble_eq_true rfl, Nat.le_of_ble_eq_true rfl⟩) hP hD hS hA [0] [1, 2] rfl rfl (by decide) (by decide) (fun r_5 u_7 H locs k_6 hP hD hS => ?_)
  have hP : va_P (dC, dI) vwCl [(nw, .inr (6, [.ref gr, .ref n1, .ref n2, .ref n3, .int 0])), (gr, .inr (4, [.int 0, .int 0, .int 0, .ref gs]))] H := hP
  have hD : va_D A [(nw, .inr (6, [.ref gr, .ref n1, .ref n2, .ref n3, .int 0])), (gr, .inr (4, [.int 0, .int 0, .int 0, .ref gs]))] := hD
  have er_5 : r_5 = 0 := k_6
  subst er_5
  exact eI X hr hlocks hP hD hS () [] (by decide) rfl rfl rfl (Nat.le_of_ble_eq_true rfl) (Nat.le_of_ble_eq_true rfl) dX11_change_19
