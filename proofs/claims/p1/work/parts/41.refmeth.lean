set_option maxHeartbeats 4000000 in
set_option maxRecDepth 100000 in
theorem tX13_fault (l : Launch) (dC : Nat → ClassId) (dI : Nat → Nat → Nat) (cy : Nat → ClassId) (h0 : Nat) (g0 : Int32) (g1 : Int32) (g2 : Int32) (g3 : Value) (g4 : Value) (g5 : Value) (g6 : Int32) (g7 : Int32) (g8 : Int32) (g9 : Int32) (g10 : Int32) (g11 : Int32) (g12 : Int32) (g14 : Int32) (g15 : Int64) (g16 : Value) (g17 : Value) (g18 : Value) (g19 : Value) (g20 : Int32) (g21 : Int32) (g22 : Value) (g23 : Value) (g24 : Value) (g25 : Int32) (g26 : Value) (g27 : Int32) (g28 : Int32) (g29 : Int32) (g30 : Int32) : ctI l dC dI cy yX13_fault cX13_fault 1 .int ({ frames := 0, cells := 0, slots := 0, locals := 0 }) [.ref h0] [(h0, .inr (12, [.int g0, .int g1, .int g2, g3, g4, g5, .int g6, .int g7, .int g8, .int g9, .int g10, .int g11, .int g12, .int 0, .int g14, .long g15, g16, g17, g18, g19, .int g20, .int g21, g22, g23, g24, .int g25, g26, .int g27, .int g28, .int g29, .int g30]))] (S := Unit) (fun r _ => r = 0) (fun _ => []) := by
  refine ctI.of (by decide +kernel) (Nat.le_of_ble_eq_true rfl) ?_
  intro p e s m args below meth c A ls X hr hlocks hin hA hP hD hS hl
  have hx := X.1
  have hb := X.2.1
  have hK := X.2.2.2.2.2.1
  have hl : lv_has ls 1 [(0, .ref h0)] := hl
  refine lv_aload_n hx hb dX13_fault_0 rfl (lv_at hl 0 rfl) ?_
  refine lv_iconst (v := 0) hx hb dX13_fault_1 (by decide) ?_
  refine r_put X kcX13 (ci := 12) rfl hP hD hS 0 rfl 0 (by decide) fX13_42 rfl rfl rfl (Nat.le_of_ble_eq_true rfl) dX13_fault_2 (fun H locs hP hD hS => ?_)
  have hP : va_P (dC, dI) vwCl [(h0, .inr (12, [.int 0, .int g1, .int g2, g3, g4, g5, .int g6, .int g7, .int g8, .int g9, .int g10, .int g11, .int g12, .int 0, .int g14, .long g15, g16, g17, g18, g19, .int g20, .int g21, g22, g23, g24, .int g25, g26, .int g27, .int g28, .int g29, .int g30]))] H := hP
  have hD : va_D A [(h0, .inr (12, [.int 0, .int g1, .int g2, g3, g4, g5, .int g6, .int g7, .int g8, .int g9, .int g10, .int g11, .int g12, .int 0, .int g14, .long g15, g16, g17, g18, g19, .int g20, .int g21, g22, g23, g24, .int g25, g26, .int g27, .int g28, .int g29, .int g30]))] := hD
  refine lv_aload_n hx hb dX13_fault_5 rfl (lv_at hl 0 rfl) ?_
  refine r_get X kcX13 (ci := 12) rfl hP 0 rfl 13 (by decide) fX13_103 rfl dX13_fault_6 ?_
  exact eI X hr hlocks hP hD hS () [] (by decide) rfl rfl rfl (Nat.le_of_ble_eq_true rfl) (Nat.le_of_ble_eq_true rfl) dX13_fault_9
set_option maxHeartbeats 4000000 in
set_option maxRecDepth 100000 in
theorem tX13_where (l : Launch) (dC : Nat → ClassId) (dI : Nat → Nat → Nat) (cy : Nat → ClassId) (h0 : Nat) (g0 : Int32) (g1 : Int32) (g3 : Value) (g4 : Value) (g5 : Value) (g6 : Int32) (g7 : Int32) (g8 : Int32) (g9 : Int32) (g10 : Int32) (g11 : Int32) (g12 : Int32) (g13 : Int32) (g14 : Int32) (g15 : Int64) (g16 : Value) (g17 : Value) (g18 : Value) (g19 : Value) (g20 : Int32) (g21 : Int32) (g22 : Value) (g23 : Value) (g24 : Value) (g25 : Int32) (g26 : Value) (g27 : Int32) (g28 : Int32) (g29 : Int32) (g30 : Int32) : ctI l dC dI cy yX13_where cX13_where 1 .int ({ frames := 0, cells := 0, slots := 0, locals := 0 }) [.ref h0] [(h0, .inr (12, [.int g0, .int g1, .int (-1), g3, g4, g5, .int g6, .int g7, .int g8, .int g9, .int g10, .int g11, .int g12, .int g13, .int g14, .long g15, g16, g17, g18, g19, .int g20, .int g21, g22, g23, g24, .int g25, g26, .int g27, .int g28, .int g29, .int g30]))] (S := Unit) (fun r _ => r = -1) (fun _ => []) := by
  refine ctI.of (by decide +kernel) (Nat.le_of_ble_eq_true rfl) ?_
  intro p e s m args below meth c A ls X hr hlocks hin hA hP hD hS hl
  have hx := X.1
  have hb := X.2.1
  have hK := X.2.2.2.2.2.1
  have hl : lv_has ls 1 [(0, .ref h0)] := hl
  refine lv_aload_n hx hb dX13_where_0 rfl (lv_at hl 0 rfl) ?_
  refine lv_iconst (v := 0) hx hb dX13_where_1 (by decide) ?_
  refine r_put X kcX13 (ci := 12) rfl hP hD hS 0 rfl 0 (by decide) fX13_42 rfl rfl rfl (Nat.le_of_ble_eq_true rfl) dX13_where_2 (fun H locs hP hD hS => ?_)
  have hP : va_P (dC, dI) vwCl [(h0, .inr (12, [.int 0, .int g1, .int (-1), g3, g4, g5, .int g6, .int g7, .int g8, .int g9, .int g10, .int g11, .int g12, .int g13, .int g14, .long g15, g16, g17, g18, g19, .int g20, .int g21, g22, g23, g24, .int g25, g26, .int g27, .int g28, .int g29, .int g30]))] H := hP
  have hD : va_D A [(h0, .inr (12, [.int 0, .int g1, .int (-1), g3, g4, g5, .int g6, .int g7, .int g8, .int g9, .int g10, .int g11, .int g12, .int g13, .int g14, .long g15, g16, g17, g18, g19, .int g20, .int g21, g22, g23, g24, .int g25, g26, .int g27, .int g28, .int g29, .int g30]))] := hD
  refine lv_aload_n hx hb dX13_where_5 rfl (lv_at hl 0 rfl) ?_
  refine r_get X kcX13 (ci := 12) rfl hP 0 rfl 2 (by decide) fX13_9 rfl dX13_where_6 ?_
  exact eI X hr hlocks hP hD hS () [] (by decide) rfl rfl rfl (Nat.le_of_ble_eq_true rfl) (Nat.le_of_ble_eq_true rfl) dX13_where_9
set_option maxHeartbeats 4000000 in
set_option maxRecDepth 100000 in
theorem tX13_place (l : Launch) (dC : Nat → ClassId) (dI : Nat → Nat → Nat) (cy : Nat → ClassId) (h0 : Nat) (g0 : Int32) (g1 : Int32) (g2 : Int32) (g4 : Value) (g5 : Value) (g6 : Int32) (g7 : Int32) (g8 : Int32) (g9 : Int32) (g10 : Int32) (g11 : Int32) (g12 : Int32) (g13 : Int32) (g14 : Int32) (g15 : Int64) (g16 : Value) (g17 : Value) (g18 : Value) (g19 : Value) (g20 : Int32) (g21 : Int32) (g22 : Value) (g23 : Value) (g24 : Value) (g25 : Int32) (g26 : Value) (g27 : Int32) (g28 : Int32) (g29 : Int32) (g30 : Int32) (p1 : Int32) (p2 : Int32) : ctI l dC dI cy yX13_place cX13_place 3 .int ({ frames := 1, cells := 0, slots := 0, locals := 21 }) [.ref h0, .int p1, .int p2] [(h0, .inr (12, [.int g0, .int g1, .int g2, .null, g4, g5, .int g6, .int g7, .int g8, .int g9, .int g10, .int g11, .int g12, .int g13, .int g14, .long g15, g16, g17, g18, g19, .int g20, .int g21, g22, g23, g24, .int g25, g26, .int g27, .int g28, .int g29, .int g30]))] (S := Unit) (fun r _ => r = -1) (fun _ => []) := by
  refine ctI.of (by decide +kernel) (Nat.le_of_ble_eq_true rfl) ?_
  intro p e s m args below meth c A ls X hr hlocks hin hA hP hD hS hl
  have hx := X.1
  have hb := X.2.1
  have hK := X.2.2.2.2.2.1
  have hl : lv_has ls 3 [(0, .ref h0), (1, .int p1), (2, .int p2)] := hl
  refine lv_aload_n hx hb dX13_place_0 rfl (lv_at hl 0 rfl) ?_
  refine lv_iconst (v := 0) hx hb dX13_place_1 (by decide) ?_
  refine r_put X kcX13 (ci := 12) rfl hP hD hS 0 rfl 0 (by decide) fX13_42 rfl rfl rfl (Nat.le_of_ble_eq_true rfl) dX13_place_2 (fun H locs hP hD hS => ?_)
  have hP : va_P (dC, dI) vwCl [(h0, .inr (12, [.int 0, .int g1, .int g2, .null, g4, g5, .int g6, .int g7, .int g8, .int g9, .int g10, .int g11, .int g12, .int g13, .int g14, .long g15, g16, g17, g18, g19, .int g20, .int g21, g22, g23, g24, .int g25, g26, .int g27, .int g28, .int g29, .int g30]))] H := hP
  have hD : va_D A [(h0, .inr (12, [.int 0, .int g1, .int g2, .null, g4, g5, .int g6, .int g7, .int g8, .int g9, .int g10, .int g11, .int g12, .int g13, .int g14, .long g15, g16, g17, g18, g19, .int g20, .int g21, g22, g23, g24, .int g25, g26, .int g27, .int g28, .int g29, .int g30]))] := hD
  refine lv_aload_n hx hb dX13_place_5 rfl (lv_at hl 0 rfl) ?_
  refine lv_iload_n hx hb dX13_place_6 rfl (lv_at hl 1 rfl) ?_
  refine fI (wr := []) (rV_I (wc := [(h0, .inr (12, [.int 0, .int g1, .int g2, .null, g4, g5, .int g6, .int g7, .int g8, .int g9, .int g10, .int g11, .int g12, .int g13, .int g14, .long g15, g16, g17, g18, g19, .int g20, .int g21, g22, g23, g24, .int g25, g26, .int g27, .int g28, .int g29, .int g30]))]) (As := [.int p1]) (rest := []) X (tX13_isPlace l dC dI cy h0 0 g1 g2 g4 g5 g6 g7 g8 g9 g10 g11 g12 g13 g14 g15 g16 g17 g18 g19 g20 g21 g22 g23 g24 g25 g26 g27 g28 g29 g30 p1) kX13_isPlace vX13_isPlace mX13_302 hP hD [0] (by decide) rfl 0 (ci := 12) rfl rfl rfl hl rfl rfl (Nat.le_of_ble_eq_true rfl) dX13_place_7 ⟨Nat.le_of_ble_eq_true rfl, Nat.le_of_ble_eq_true rfl⟩ ⟨Nat.le_of_ble_eq_true rfl, Nat.le_of_ble_eq_true rfl⟩) hP hD hS hA [0] [] rfl rfl (by decide) (by decide) (fun r_1 u_3 H locs k_2 hP hD hS => ?_)
  have hP : va_P (dC, dI) vwCl [(h0, .inr (12, [.int 0, .int g1, .int g2, .null, g4, g5, .int g6, .int g7, .int g8, .int g9, .int g10, .int g11, .int g12, .int g13, .int g14, .long g15, g16, g17, g18, g19, .int g20, .int g21, g22, g23, g24, .int g25, g26, .int g27, .int g28, .int g29, .int g30]))] H := hP
  have hD : va_D A [(h0, .inr (12, [.int 0, .int g1, .int g2, .null, g4, g5, .int g6, .int g7, .int g8, .int g9, .int g10, .int g11, .int g12, .int g13, .int g14, .long g15, g16, g17, g18, g19, .int g20, .int g21, g22, g23, g24, .int g25, g26, .int g27, .int g28, .int g29, .int g30]))] := hD
  have er_1 : r_1 = 0 := k_2
  subst er_1
  refine lv_if_eq (tgt := 22) hx hb dX13_place_10 (by decide) (fun _ => ?_) (fun h_4 => absurd (by decide) h_4)
  refine lv_aload_n hx hb dX13_place_22 rfl (lv_at hl 0 rfl) ?_
  refine lv_iconst (v := 1) hx hb dX13_place_23 (by decide) ?_
  refine fI (wr := []) (rV_I (wc := [(h0, .inr (12, [.int 0, .int g1, .int g2, .null, g4, g5, .int g6, .int g7, .int g8, .int g9, .int g10, .int g11, .int g12, .int g13, .int g14, .long g15, g16, g17, g18, g19, .int g20, .int g21, g22, g23, g24, .int g25, g26, .int g27, .int g28, .int g29, .int g30]))]) (As := [.int 1]) (rest := []) X (tX13_refused l dC dI cy h0 0 g1 g2 .null g4 g5 g6 g7 g8 g9 g10 g11 g12 g13 g14 g15 g16 g17 g18 g19 g20 g21 g22 g23 g24 g25 g26 g27 g28 g29 g30 1) kX13_refused vX13_refused mX13_48 hP hD [0] (by decide) rfl 0 (ci := 12) rfl rfl rfl hl rfl rfl (Nat.le_of_ble_eq_true rfl) dX13_place_24 ⟨Nat.le_of_ble_eq_true rfl, Nat.le_of_ble_eq_true rfl⟩ ⟨Nat.le_of_ble_eq_true rfl, Nat.le_of_ble_eq_true rfl⟩) hP hD hS hA [0] [] rfl rfl (by decide) (by decide) (fun r_5 u_7 H locs k_6 hP hD hS => ?_)
  have hP : va_P (dC, dI) vwCl [] H := hP
  have hD : va_D A [] := hD
  have er_5 : r_5 = -1 := k_6
  subst er_5
  exact eI X hr hlocks hP hD hS () [] (by decide) rfl rfl rfl (Nat.le_of_ble_eq_true rfl) (Nat.le_of_ble_eq_true rfl) dX13_place_27
set_option maxHeartbeats 4000000 in
set_option maxRecDepth 100000 in
theorem tX13_walker (l : Launch) (dC : Nat → ClassId) (dI : Nat → Nat → Nat) (cy : Nat → ClassId) (h0 : Nat) (g0 : Int32) (g1 : Int32) (g2 : Int32) (g4 : Value) (g5 : Value) (g6 : Int32) (g7 : Int32) (g8 : Int32) (g9 : Int32) (g10 : Int32) (g11 : Int32) (g12 : Int32) (g13 : Int32) (g14 : Int32) (g15 : Int64) (g16 : Value) (g17 : Value) (g18 : Value) (g19 : Value) (g20 : Int32) (g21 : Int32) (g22 : Value) (g23 : Value) (g24 : Value) (g25 : Int32) (g26 : Value) (g27 : Int32) (g28 : Int32) (g29 : Int32) (g30 : Int32) (p1 : Int32) (p2 : Int32) : ctI l dC dI cy yX13_walker cX13_walker 3 .int ({ frames := 1, cells := 0, slots := 0, locals := 21 }) [.ref h0, .int p1, .int p2] [(h0, .inr (12, [.int g0, .int g1, .int g2, .null, g4, g5, .int g6, .int g7, .int g8, .int g9, .int g10, .int g11, .int g12, .int g13, .int g14, .long g15, g16, g17, g18, g19, .int g20, .int g21, g22, g23, g24, .int g25, g26, .int g27, .int g28, .int g29, .int g30]))] (S := Unit) (fun r _ => r = -1) (fun _ => []) := by
  refine ctI.of (by decide +kernel) (Nat.le_of_ble_eq_true rfl) ?_
  intro p e s m args below meth c A ls X hr hlocks hin hA hP hD hS hl
  have hx := X.1
  have hb := X.2.1
  have hK := X.2.2.2.2.2.1
  have hl : lv_has ls 3 [(0, .ref h0), (1, .int p1), (2, .int p2)] := hl
  refine lv_aload_n hx hb dX13_walker_0 rfl (lv_at hl 0 rfl) ?_
  refine lv_iconst (v := 0) hx hb dX13_walker_1 (by decide) ?_
  refine r_put X kcX13 (ci := 12) rfl hP hD hS 0 rfl 0 (by decide) fX13_42 rfl rfl rfl (Nat.le_of_ble_eq_true rfl) dX13_walker_2 (fun H locs hP hD hS => ?_)
  have hP : va_P (dC, dI) vwCl [(h0, .inr (12, [.int 0, .int g1, .int g2, .null, g4, g5, .int g6, .int g7, .int g8, .int g9, .int g10, .int g11, .int g12, .int g13, .int g14, .long g15, g16, g17, g18, g19, .int g20, .int g21, g22, g23, g24, .int g25, g26, .int g27, .int g28, .int g29, .int g30]))] H := hP
  have hD : va_D A [(h0, .inr (12, [.int 0, .int g1, .int g2, .null, g4, g5, .int g6, .int g7, .int g8, .int g9, .int g10, .int g11, .int g12, .int g13, .int g14, .long g15, g16, g17, g18, g19, .int g20, .int g21, g22, g23, g24, .int g25, g26, .int g27, .int g28, .int g29, .int g30]))] := hD
  refine lv_aload_n hx hb dX13_walker_5 rfl (lv_at hl 0 rfl) ?_
  refine lv_iload_n hx hb dX13_walker_6 rfl (lv_at hl 1 rfl) ?_
  refine fI (wr := []) (rV_I (wc := [(h0, .inr (12, [.int 0, .int g1, .int g2, .null, g4, g5, .int g6, .int g7, .int g8, .int g9, .int g10, .int g11, .int g12, .int g13, .int g14, .long g15, g16, g17, g18, g19, .int g20, .int g21, g22, g23, g24, .int g25, g26, .int g27, .int g28, .int g29, .int g30]))]) (As := [.int p1]) (rest := []) X (tX13_isWalker l dC dI cy h0 0 g1 g2 g4 g5 g6 g7 g8 g9 g10 g11 g12 g13 g14 g15 g16 g17 g18 g19 g20 g21 g22 g23 g24 g25 g26 g27 g28 g29 g30 p1) kX13_isWalker vX13_isWalker mX13_311 hP hD [0] (by decide) rfl 0 (ci := 12) rfl rfl rfl hl rfl rfl (Nat.le_of_ble_eq_true rfl) dX13_walker_7 ⟨Nat.le_of_ble_eq_true rfl, Nat.le_of_ble_eq_true rfl⟩ ⟨Nat.le_of_ble_eq_true rfl, Nat.le_of_ble_eq_true rfl⟩) hP hD hS hA [0] [] rfl rfl (by decide) (by decide) (fun r_1 u_3 H locs k_2 hP hD hS => ?_)
  have hP : va_P (dC, dI) vwCl [(h0, .inr (12, [.int 0, .int g1, .int g2, .null, g4, g5, .int g6, .int g7, .int g8, .int g9, .int g10, .int g11, .int g12, .int g13, .int g14, .long g15, g16, g17, g18, g19, .int g20, .int g21, g22, g23, g24, .int g25, g26, .int g27, .int g28, .int g29, .int g30]))] H := hP
  have hD : va_D A [(h0, .inr (12, [.int 0, .int g1, .int g2, .null, g4, g5, .int g6, .int g7, .int g8, .int g9, .int g10, .int g11, .int g12, .int g13, .int g14, .long g15, g16, g17, g18, g19, .int g20, .int g21, g22, g23, g24, .int g25, g26, .int g27, .int g28, .int g29, .int g30]))] := hD
  have er_1 : r_1 = 0 := k_2
  subst er_1
  refine lv_if_eq (tgt := 22) hx hb dX13_walker_10 (by decide) (fun _ => ?_) (fun h_4 => absurd (by decide) h_4)
  refine lv_aload_n hx hb dX13_walker_22 rfl (lv_at hl 0 rfl) ?_
  refine lv_iconst (v := 1) hx hb dX13_walker_23 (by decide) ?_
  refine fI (wr := []) (rV_I (wc := [(h0, .inr (12, [.int 0, .int g1, .int g2, .null, g4, g5, .int g6, .int g7, .int g8, .int g9, .int g10, .int g11, .int g12, .int g13, .int g14, .long g15, g16, g17, g18, g19, .int g20, .int g21, g22, g23, g24, .int g25, g26, .int g27, .int g28, .int g29, .int g30]))]) (As := [.int 1]) (rest := []) X (tX13_refused l dC dI cy h0 0 g1 g2 .null g4 g5 g6 g7 g8 g9 g10 g11 g12 g13 g14 g15 g16 g17 g18 g19 g20 g21 g22 g23 g24 g25 g26 g27 g28 g29 g30 1) kX13_refused vX13_refused mX13_48 hP hD [0] (by decide) rfl 0 (ci := 12) rfl rfl rfl hl rfl rfl (Nat.le_of_ble_eq_true rfl) dX13_walker_24 ⟨Nat.le_of_ble_eq_true rfl, Nat.le_of_ble_eq_true rfl⟩ ⟨Nat.le_of_ble_eq_true rfl, Nat.le_of_ble_eq_true rfl⟩) hP hD hS hA [0] [] rfl rfl (by decide) (by decide) (fun r_5 u_7 H locs k_6 hP hD hS => ?_)
  have hP : va_P (dC, dI) vwCl [] H := hP
  have hD : va_D A [] := hD
  have er_5 : r_5 = -1 := k_6
  subst er_5
  exact eI X hr hlocks hP hD hS () [] (by decide) rfl rfl rfl (Nat.le_of_ble_eq_true rfl) (Nat.le_of_ble_eq_true rfl) dX13_walker_27
set_option maxHeartbeats 4000000 in
set_option maxRecDepth 100000 in
theorem tX13_minutes (l : Launch) (dC : Nat → ClassId) (dI : Nat → Nat → Nat) (cy : Nat → ClassId) (h0 : Nat) (g0 : Int32) (g1 : Int32) (g2 : Int32) (g4 : Value) (g5 : Value) (g6 : Int32) (g7 : Int32) (g8 : Int32) (g9 : Int32) (g10 : Int32) (g11 : Int32) (g12 : Int32) (g13 : Int32) (g14 : Int32) (g15 : Int64) (g16 : Value) (g17 : Value) (g18 : Value) (g19 : Value) (g20 : Int32) (g21 : Int32) (g22 : Value) (g23 : Value) (g24 : Value) (g25 : Int32) (g26 : Value) (g27 : Int32) (g28 : Int32) (g29 : Int32) (g30 : Int32) (p1 : Int32) (p2 : Int32) (p3 : Int32) : ctI l dC dI cy yX13_minutes cX13_minutes 5 .int ({ frames := 2, cells := 0, slots := 0, locals := 44 }) [.ref h0, .int p1, .int p2, .int p3] [(h0, .inr (12, [.int g0, .int g1, .int g2, .null, g4, g5, .int g6, .int g7, .int g8, .int g9, .int g10, .int g11, .int g12, .int g13, .int g14, .long g15, g16, g17, g18, g19, .int g20, .int g21, g22, g23, g24, .int g25, g26, .int g27, .int g28, .int g29, .int g30]))] (S := Unit) (fun r _ => r = -1) (fun _ => []) := by
  refine ctI.of (by decide +kernel) (Nat.le_of_ble_eq_true rfl) ?_
  intro p e s m args below meth c A ls X hr hlocks hin hA hP hD hS hl
  have hx := X.1
  have hb := X.2.1
  have hK := X.2.2.2.2.2.1
  have hl : lv_has ls 5 [(0, .ref h0), (1, .int p1), (2, .int p2), (3, .int p3)] := hl
  refine lv_aload_n hx hb dX13_minutes_0 rfl (lv_at hl 0 rfl) ?_
  refine lv_iconst (v := 0) hx hb dX13_minutes_1 (by decide) ?_
  refine r_put X kcX13 (ci := 12) rfl hP hD hS 0 rfl 0 (by decide) fX13_42 rfl rfl rfl (Nat.le_of_ble_eq_true rfl) dX13_minutes_2 (fun H locs hP hD hS => ?_)
  have hP : va_P (dC, dI) vwCl [(h0, .inr (12, [.int 0, .int g1, .int g2, .null, g4, g5, .int g6, .int g7, .int g8, .int g9, .int g10, .int g11, .int g12, .int g13, .int g14, .long g15, g16, g17, g18, g19, .int g20, .int g21, g22, g23, g24, .int g25, g26, .int g27, .int g28, .int g29, .int g30]))] H := hP
  have hD : va_D A [(h0, .inr (12, [.int 0, .int g1, .int g2, .null, g4, g5, .int g6, .int g7, .int g8, .int g9, .int g10, .int g11, .int g12, .int g13, .int g14, .long g15, g16, g17, g18, g19, .int g20, .int g21, g22, g23, g24, .int g25, g26, .int g27, .int g28, .int g29, .int g30]))] := hD
  refine lv_aload_n hx hb dX13_minutes_5 rfl (lv_at hl 0 rfl) ?_
  refine lv_iload_n hx hb dX13_minutes_6 rfl (lv_at hl 1 rfl) ?_
  refine lv_iload_n hx hb dX13_minutes_7 rfl (lv_at hl 2 rfl) ?_
  refine lv_iload_n hx hb dX13_minutes_8 rfl (lv_at hl 3 rfl) ?_
  refine fI (wr := []) (rV_I (wc := [(h0, .inr (12, [.int 0, .int g1, .int g2, .null, g4, g5, .int g6, .int g7, .int g8, .int g9, .int g10, .int g11, .int g12, .int g13, .int g14, .long g15, g16, g17, g18, g19, .int g20, .int g21, g22, g23, g24, .int g25, g26, .int g27, .int g28, .int g29, .int g30]))]) (As := [.int p1, .int p2, .int p3]) (rest := []) X (tX13_refusesStep l dC dI cy h0 0 g1 g2 g4 g5 g6 g7 g8 g9 g10 g11 g12 g13 g14 g15 g16 g17 g18 g19 g20 g21 g22 g23 g24 g25 g26 g27 g28 g29 g30 p1 p2 p3) kX13_refusesStep vX13_refusesStep mX13_314 hP hD [0] (by decide) rfl 0 (ci := 12) rfl rfl rfl hl rfl rfl (Nat.le_of_ble_eq_true rfl) dX13_minutes_9 ⟨Nat.le_of_ble_eq_true rfl, Nat.le_of_ble_eq_true rfl⟩ ⟨Nat.le_of_ble_eq_true rfl, Nat.le_of_ble_eq_true rfl⟩) hP hD hS hA [0] [] rfl rfl (by decide) (by decide) (fun r_1 u_3 H locs k_2 hP hD hS => ?_)
  have hP : va_P (dC, dI) vwCl [(h0, .inr (12, [.int 0, .int g1, .int g2, .null, g4, g5, .int g6, .int g7, .int g8, .int g9, .int g10, .int g11, .int g12, .int g13, .int g14, .long g15, g16, g17, g18, g19, .int g20, .int g21, g22, g23, g24, .int g25, g26, .int g27, .int g28, .int g29, .int g30]))] H := hP
  have hD : va_D A [(h0, .inr (12, [.int 0, .int g1, .int g2, .null, g4, g5, .int g6, .int g7, .int g8, .int g9, .int g10, .int g11, .int g12, .int g13, .int g14, .long g15, g16, g17, g18, g19, .int g20, .int g21, g22, g23, g24, .int g25, g26, .int g27, .int g28, .int g29, .int g30]))] := hD
  have er_1 : r_1 = 1 := k_2
  subst er_1
  refine lv_istore (lv' := [(4, .int 1), (0, .ref h0), (1, .int p1), (2, .int p2), (3, .int p3)]) hx hb dX13_minutes_12 hl (by decide) rfl (fun ls hl => ?_)
  refine lv_iload hx hb dX13_minutes_14 (lv_at hl 0 rfl) ?_
  refine lv_if_le (tgt := 26) hx hb dX13_minutes_16 (by decide) (fun h_4 => absurd h_4 (by decide)) (fun _ => ?_)
  refine lv_aload_n hx hb dX13_minutes_19 rfl (lv_at hl 1 rfl) ?_
  refine lv_iload hx hb dX13_minutes_20 (lv_at hl 0 rfl) ?_
  refine fI (wr := []) (rV_I (wc := [(h0, .inr (12, [.int 0, .int g1, .int g2, .null, g4, g5, .int g6, .int g7, .int g8, .int g9, .int g10, .int g11, .int g12, .int g13, .int g14, .long g15, g16, g17, g18, g19, .int g20, .int g21, g22, g23, g24, .int g25, g26, .int g27, .int g28, .int g29, .int g30]))]) (As := [.int 1]) (rest := []) X (tX13_refused l dC dI cy h0 0 g1 g2 .null g4 g5 g6 g7 g8 g9 g10 g11 g12 g13 g14 g15 g16 g17 g18 g19 g20 g21 g22 g23 g24 g25 g26 g27 g28 g29 g30 1) kX13_refused vX13_refused mX13_48 hP hD [0] (by decide) rfl 0 (ci := 12) rfl rfl rfl hl rfl rfl (Nat.le_of_ble_eq_true rfl) dX13_minutes_22 ⟨Nat.le_of_ble_eq_true rfl, Nat.le_of_ble_eq_true rfl⟩ ⟨Nat.le_of_ble_eq_true rfl, Nat.le_of_ble_eq_true rfl⟩) hP hD hS hA [0] [] rfl rfl (by decide) (by decide) (fun r_5 u_7 H locs k_6 hP hD hS => ?_)
  have hP : va_P (dC, dI) vwCl [] H := hP
  have hD : va_D A [] := hD
  have er_5 : r_5 = -1 := k_6
  subst er_5
  exact eI X hr hlocks hP hD hS () [] (by decide) rfl rfl rfl (Nat.le_of_ble_eq_true rfl) (Nat.le_of_ble_eq_true rfl) dX13_minutes_25
set_option maxHeartbeats 4000000 in
set_option maxRecDepth 100000 in
theorem tX13_falls (l : Launch) (dC : Nat → ClassId) (dI : Nat → Nat → Nat) (cy : Nat → ClassId) (h0 : Nat) (g0 : Int32) (g1 : Int32) (g2 : Int32) (g4 : Value) (g5 : Value) (g6 : Int32) (g7 : Int32) (g8 : Int32) (g9 : Int32) (g10 : Int32) (g11 : Int32) (g12 : Int32) (g13 : Int32) (g14 : Int32) (g15 : Int64) (g16 : Value) (g17 : Value) (g18 : Value) (g19 : Value) (g20 : Int32) (g21 : Int32) (g22 : Value) (g23 : Value) (g24 : Value) (g25 : Int32) (g26 : Value) (g27 : Int32) (g28 : Int32) (g29 : Int32) (g30 : Int32) (p1 : Int32) (p2 : Int32) (p3 : Int32) : ctI l dC dI cy yX13_falls cX13_falls 5 .int ({ frames := 2, cells := 0, slots := 0, locals := 44 }) [.ref h0, .int p1, .int p2, .int p3] [(h0, .inr (12, [.int g0, .int g1, .int g2, .null, g4, g5, .int g6, .int g7, .int g8, .int g9, .int g10, .int g11, .int g12, .int g13, .int g14, .long g15, g16, g17, g18, g19, .int g20, .int g21, g22, g23, g24, .int g25, g26, .int g27, .int g28, .int g29, .int g30]))] (S := Unit) (fun r _ => r = -1) (fun _ => []) := by
  refine ctI.of (by decide +kernel) (Nat.le_of_ble_eq_true rfl) ?_
  intro p e s m args below meth c A ls X hr hlocks hin hA hP hD hS hl
  have hx := X.1
  have hb := X.2.1
  have hK := X.2.2.2.2.2.1
  have hl : lv_has ls 5 [(0, .ref h0), (1, .int p1), (2, .int p2), (3, .int p3)] := hl
  refine lv_aload_n hx hb dX13_falls_0 rfl (lv_at hl 0 rfl) ?_
  refine lv_iconst (v := 0) hx hb dX13_falls_1 (by decide) ?_
  refine r_put X kcX13 (ci := 12) rfl hP hD hS 0 rfl 0 (by decide) fX13_42 rfl rfl rfl (Nat.le_of_ble_eq_true rfl) dX13_falls_2 (fun H locs hP hD hS => ?_)
  have hP : va_P (dC, dI) vwCl [(h0, .inr (12, [.int 0, .int g1, .int g2, .null, g4, g5, .int g6, .int g7, .int g8, .int g9, .int g10, .int g11, .int g12, .int g13, .int g14, .long g15, g16, g17, g18, g19, .int g20, .int g21, g22, g23, g24, .int g25, g26, .int g27, .int g28, .int g29, .int g30]))] H := hP
  have hD : va_D A [(h0, .inr (12, [.int 0, .int g1, .int g2, .null, g4, g5, .int g6, .int g7, .int g8, .int g9, .int g10, .int g11, .int g12, .int g13, .int g14, .long g15, g16, g17, g18, g19, .int g20, .int g21, g22, g23, g24, .int g25, g26, .int g27, .int g28, .int g29, .int g30]))] := hD
  refine lv_aload_n hx hb dX13_falls_5 rfl (lv_at hl 0 rfl) ?_
  refine lv_iload_n hx hb dX13_falls_6 rfl (lv_at hl 1 rfl) ?_
  refine lv_iload_n hx hb dX13_falls_7 rfl (lv_at hl 2 rfl) ?_
  refine lv_iload_n hx hb dX13_falls_8 rfl (lv_at hl 3 rfl) ?_
  refine fI (wr := []) (rV_I (wc := [(h0, .inr (12, [.int 0, .int g1, .int g2, .null, g4, g5, .int g6, .int g7, .int g8, .int g9, .int g10, .int g11, .int g12, .int g13, .int g14, .long g15, g16, g17, g18, g19, .int g20, .int g21, g22, g23, g24, .int g25, g26, .int g27, .int g28, .int g29, .int g30]))]) (As := [.int p1, .int p2, .int p3]) (rest := []) X (tX13_refusesStep l dC dI cy h0 0 g1 g2 g4 g5 g6 g7 g8 g9 g10 g11 g12 g13 g14 g15 g16 g17 g18 g19 g20 g21 g22 g23 g24 g25 g26 g27 g28 g29 g30 p1 p2 p3) kX13_refusesStep vX13_refusesStep mX13_314 hP hD [0] (by decide) rfl 0 (ci := 12) rfl rfl rfl hl rfl rfl (Nat.le_of_ble_eq_true rfl) dX13_falls_9 ⟨Nat.le_of_ble_eq_true rfl, Nat.le_of_ble_eq_true rfl⟩ ⟨Nat.le_of_ble_eq_true rfl, Nat.le_of_ble_eq_true rfl⟩) hP hD hS hA [0] [] rfl rfl (by decide) (by decide) (fun r_1 u_3 H locs k_2 hP hD hS => ?_)
  have hP : va_P (dC, dI) vwCl [(h0, .inr (12, [.int 0, .int g1, .int g2, .null, g4, g5, .int g6, .int g7, .int g8, .int g9, .int g10, .int g11, .int g12, .int g13, .int g14, .long g15, g16, g17, g18, g19, .int g20, .int g21, g22, g23, g24, .int g25, g26, .int g27, .int g28, .int g29, .int g30]))] H := hP
  have hD : va_D A [(h0, .inr (12, [.int 0, .int g1, .int g2, .null, g4, g5, .int g6, .int g7, .int g8, .int g9, .int g10, .int g11, .int g12, .int g13, .int g14, .long g15, g16, g17, g18, g19, .int g20, .int g21, g22, g23, g24, .int g25, g26, .int g27, .int g28, .int g29, .int g30]))] := hD
  have er_1 : r_1 = 1 := k_2
  subst er_1
  refine lv_istore (lv' := [(4, .int 1), (0, .ref h0), (1, .int p1), (2, .int p2), (3, .int p3)]) hx hb dX13_falls_12 hl (by decide) rfl (fun ls hl => ?_)
  refine lv_iload hx hb dX13_falls_14 (lv_at hl 0 rfl) ?_
  refine lv_if_le (tgt := 26) hx hb dX13_falls_16 (by decide) (fun h_4 => absurd h_4 (by decide)) (fun _ => ?_)
  refine lv_aload_n hx hb dX13_falls_19 rfl (lv_at hl 1 rfl) ?_
  refine lv_iload hx hb dX13_falls_20 (lv_at hl 0 rfl) ?_
  refine fI (wr := []) (rV_I (wc := [(h0, .inr (12, [.int 0, .int g1, .int g2, .null, g4, g5, .int g6, .int g7, .int g8, .int g9, .int g10, .int g11, .int g12, .int g13, .int g14, .long g15, g16, g17, g18, g19, .int g20, .int g21, g22, g23, g24, .int g25, g26, .int g27, .int g28, .int g29, .int g30]))]) (As := [.int 1]) (rest := []) X (tX13_refused l dC dI cy h0 0 g1 g2 .null g4 g5 g6 g7 g8 g9 g10 g11 g12 g13 g14 g15 g16 g17 g18 g19 g20 g21 g22 g23 g24 g25 g26 g27 g28 g29 g30 1) kX13_refused vX13_refused mX13_48 hP hD [0] (by decide) rfl 0 (ci := 12) rfl rfl rfl hl rfl rfl (Nat.le_of_ble_eq_true rfl) dX13_falls_22 ⟨Nat.le_of_ble_eq_true rfl, Nat.le_of_ble_eq_true rfl⟩ ⟨Nat.le_of_ble_eq_true rfl, Nat.le_of_ble_eq_true rfl⟩) hP hD hS hA [0] [] rfl rfl (by decide) (by decide) (fun r_5 u_7 H locs k_6 hP hD hS => ?_)
  have hP : va_P (dC, dI) vwCl [] H := hP
  have hD : va_D A [] := hD
  have er_5 : r_5 = -1 := k_6
  subst er_5
  exact eI X hr hlocks hP hD hS () [] (by decide) rfl rfl rfl (Nat.le_of_ble_eq_true rfl) (Nat.le_of_ble_eq_true rfl) dX13_falls_25
set_option maxHeartbeats 4000000 in
set_option maxRecDepth 100000 in
theorem tX13_all (l : Launch) (dC : Nat → ClassId) (dI : Nat → Nat → Nat) (cy : Nat → ClassId) (h0 : Nat) (g0 : Int32) (g1 : Int32) (g2 : Int32) (g4 : Value) (g5 : Value) (g6 : Int32) (g7 : Int32) (g8 : Int32) (g9 : Int32) (g10 : Int32) (g11 : Int32) (g12 : Int32) (g13 : Int32) (g14 : Int32) (g15 : Int64) (g16 : Value) (g17 : Value) (g18 : Value) (g19 : Value) (g20 : Int32) (g21 : Int32) (g22 : Value) (g23 : Value) (g24 : Value) (g25 : Int32) (g26 : Value) (g27 : Int32) (g28 : Int32) (g29 : Int32) (g30 : Int32) (p1 : Int32) : ctI l dC dI cy yX13_all cX13_all 2 .int ({ frames := 1, cells := 0, slots := 0, locals := 21 }) [.ref h0, .int p1] [(h0, .inr (12, [.int g0, .int g1, .int g2, .null, g4, g5, .int g6, .int g7, .int g8, .int g9, .int g10, .int g11, .int g12, .int g13, .int g14, .long g15, g16, g17, g18, g19, .int g20, .int g21, g22, g23, g24, .int g25, g26, .int g27, .int g28, .int g29, .int g30]))] (S := Unit) (fun r _ => r = -1) (fun _ => []) := by
  refine ctI.of (by decide +kernel) (Nat.le_of_ble_eq_true rfl) ?_
  intro p e s m args below meth c A ls X hr hlocks hin hA hP hD hS hl
  have hx := X.1
  have hb := X.2.1
  have hK := X.2.2.2.2.2.1
  have hl : lv_has ls 2 [(0, .ref h0), (1, .int p1)] := hl
  refine lv_aload_n hx hb dX13_all_0 rfl (lv_at hl 0 rfl) ?_
  refine lv_iconst (v := 0) hx hb dX13_all_1 (by decide) ?_
  refine r_put X kcX13 (ci := 12) rfl hP hD hS 0 rfl 0 (by decide) fX13_42 rfl rfl rfl (Nat.le_of_ble_eq_true rfl) dX13_all_2 (fun H locs hP hD hS => ?_)
  have hP : va_P (dC, dI) vwCl [(h0, .inr (12, [.int 0, .int g1, .int g2, .null, g4, g5, .int g6, .int g7, .int g8, .int g9, .int g10, .int g11, .int g12, .int g13, .int g14, .long g15, g16, g17, g18, g19, .int g20, .int g21, g22, g23, g24, .int g25, g26, .int g27, .int g28, .int g29, .int g30]))] H := hP
  have hD : va_D A [(h0, .inr (12, [.int 0, .int g1, .int g2, .null, g4, g5, .int g6, .int g7, .int g8, .int g9, .int g10, .int g11, .int g12, .int g13, .int g14, .long g15, g16, g17, g18, g19, .int g20, .int g21, g22, g23, g24, .int g25, g26, .int g27, .int g28, .int g29, .int g30]))] := hD
  refine lv_aload_n hx hb dX13_all_5 rfl (lv_at hl 0 rfl) ?_
  refine r_get X kcX13 (ci := 12) rfl hP 0 rfl 3 (by decide) fX13_269 rfl dX13_all_6 ?_
  refine lv_ifnonnullN hx hb dX13_all_9 ?_
  refine lv_aload_n hx hb dX13_all_12 rfl (lv_at hl 0 rfl) ?_
  refine lv_iconst (v := 1) hx hb dX13_all_13 (by decide) ?_
  refine fI (wr := []) (rV_I (wc := [(h0, .inr (12, [.int 0, .int g1, .int g2, .null, g4, g5, .int g6, .int g7, .int g8, .int g9, .int g10, .int g11, .int g12, .int g13, .int g14, .long g15, g16, g17, g18, g19, .int g20, .int g21, g22, g23, g24, .int g25, g26, .int g27, .int g28, .int g29, .int g30]))]) (As := [.int 1]) (rest := []) X (tX13_refused l dC dI cy h0 0 g1 g2 .null g4 g5 g6 g7 g8 g9 g10 g11 g12 g13 g14 g15 g16 g17 g18 g19 g20 g21 g22 g23 g24 g25 g26 g27 g28 g29 g30 1) kX13_refused vX13_refused mX13_48 hP hD [0] (by decide) rfl 0 (ci := 12) rfl rfl rfl hl rfl rfl (Nat.le_of_ble_eq_true rfl) dX13_all_14 ⟨Nat.le_of_ble_eq_true rfl, Nat.le_of_ble_eq_true rfl⟩ ⟨Nat.le_of_ble_eq_true rfl, Nat.le_of_ble_eq_true rfl⟩) hP hD hS hA [0] [] rfl rfl (by decide) (by decide) (fun r_1 u_3 H locs k_2 hP hD hS => ?_)
  have hP : va_P (dC, dI) vwCl [] H := hP
  have hD : va_D A [] := hD
  have er_1 : r_1 = -1 := k_2
  subst er_1
  exact eI X hr hlocks hP hD hS () [] (by decide) rfl rfl rfl (Nat.le_of_ble_eq_true rfl) (Nat.le_of_ble_eq_true rfl) dX13_all_17
set_option maxHeartbeats 4000000 in
set_option maxRecDepth 100000 in
theorem tX13_quick (l : Launch) (dC : Nat → ClassId) (dI : Nat → Nat → Nat) (cy : Nat → ClassId) (h0 : Nat) (g0 : Int32) (g1 : Int32) (g2 : Int32) (g4 : Value) (g5 : Value) (g6 : Int32) (g7 : Int32) (g8 : Int32) (g9 : Int32) (g10 : Int32) (g11 : Int32) (g12 : Int32) (g13 : Int32) (g14 : Int32) (g15 : Int64) (g16 : Value) (g17 : Value) (g18 : Value) (g19 : Value) (g20 : Int32) (g21 : Int32) (g22 : Value) (g23 : Value) (g24 : Value) (g25 : Int32) (g26 : Value) (g27 : Int32) (g28 : Int32) (g29 : Int32) (g30 : Int32) (p1 : Int32) : ctI l dC dI cy yX13_quick cX13_quick 2 .int ({ frames := 2, cells := 0, slots := 0, locals := 45 }) [.ref h0, .int p1] [(h0, .inr (12, [.int g0, .int g1, .int g2, .null, g4, g5, .int g6, .int g7, .int g8, .int g9, .int g10, .int g11, .int g12, .int g13, .int g14, .long g15, g16, g17, g18, g19, .int g20, .int g21, g22, g23, g24, .int g25, g26, .int g27, .int g28, .int g29, .int g30]))] (S := Unit) (fun r _ => r = -1) (fun _ => []) := by
  refine ctI.of (by decide +kernel) (Nat.le_of_ble_eq_true rfl) ?_
  intro p e s m args below meth c A ls X hr hlocks hin hA hP hD hS hl
  have hx := X.1
  have hb := X.2.1
  have hK := X.2.2.2.2.2.1
  have hl : lv_has ls 2 [(0, .ref h0), (1, .int p1)] := hl
  refine lv_aload_n hx hb dX13_quick_0 rfl (lv_at hl 0 rfl) ?_
  refine lv_iconst (v := 0) hx hb dX13_quick_1 (by decide) ?_
  refine r_put X kcX13 (ci := 12) rfl hP hD hS 0 rfl 0 (by decide) fX13_42 rfl rfl rfl (Nat.le_of_ble_eq_true rfl) dX13_quick_2 (fun H locs hP hD hS => ?_)
  have hP : va_P (dC, dI) vwCl [(h0, .inr (12, [.int 0, .int g1, .int g2, .null, g4, g5, .int g6, .int g7, .int g8, .int g9, .int g10, .int g11, .int g12, .int g13, .int g14, .long g15, g16, g17, g18, g19, .int g20, .int g21, g22, g23, g24, .int g25, g26, .int g27, .int g28, .int g29, .int g30]))] H := hP
  have hD : va_D A [(h0, .inr (12, [.int 0, .int g1, .int g2, .null, g4, g5, .int g6, .int g7, .int g8, .int g9, .int g10, .int g11, .int g12, .int g13, .int g14, .long g15, g16, g17, g18, g19, .int g20, .int g21, g22, g23, g24, .int g25, g26, .int g27, .int g28, .int g29, .int g30]))] := hD
  refine lv_aload_n hx hb dX13_quick_5 rfl (lv_at hl 0 rfl) ?_
  refine lv_iload_n hx hb dX13_quick_6 rfl (lv_at hl 1 rfl) ?_
  refine lv_iconst (v := 1) hx hb dX13_quick_7 (by decide) ?_
  refine lv_iconst (v := 1) hx hb dX13_quick_8 (by decide) ?_
  refine fI (wr := []) (rV_I (wc := [(h0, .inr (12, [.int 0, .int g1, .int g2, .null, g4, g5, .int g6, .int g7, .int g8, .int g9, .int g10, .int g11, .int g12, .int g13, .int g14, .long g15, g16, g17, g18, g19, .int g20, .int g21, g22, g23, g24, .int g25, g26, .int g27, .int g28, .int g29, .int g30]))]) (As := [.int p1, .int 1, .int 1]) (rest := []) X (tX13_wayPart l dC dI cy h0 0 g1 g2 g4 g5 g6 g7 g8 g9 g10 g11 g12 g13 g14 g15 g16 g17 g18 g19 g20 g21 g22 g23 g24 g25 g26 g27 g28 g29 g30 p1 1 1) kX13_wayPart vX13_wayPart mX13_331 hP hD [0] (by decide) rfl 0 (ci := 12) rfl rfl rfl hl rfl rfl (Nat.le_of_ble_eq_true rfl) dX13_quick_9 ⟨Nat.le_of_ble_eq_true rfl, Nat.le_of_ble_eq_true rfl⟩ ⟨Nat.le_of_ble_eq_true rfl, Nat.le_of_ble_eq_true rfl⟩) hP hD hS hA [0] [] rfl rfl (by decide) (by decide) (fun r_1 u_3 H locs k_2 hP hD hS => ?_)
  have hP : va_P (dC, dI) vwCl [] H := hP
  have hD : va_D A [] := hD
  have er_1 : r_1 = -1 := k_2
  subst er_1
  exact eI X hr hlocks hP hD hS () [] (by decide) rfl rfl rfl (Nat.le_of_ble_eq_true rfl) (Nat.le_of_ble_eq_true rfl) dX13_quick_12
set_option maxHeartbeats 4000000 in
set_option maxRecDepth 100000 in
theorem tX13_quickFalls (l : Launch) (dC : Nat → ClassId) (dI : Nat → Nat → Nat) (cy : Nat → ClassId) (h0 : Nat) (g0 : Int32) (g1 : Int32) (g2 : Int32) (g4 : Value) (g5 : Value) (g6 : Int32) (g7 : Int32) (g8 : Int32) (g9 : Int32) (g10 : Int32) (g11 : Int32) (g12 : Int32) (g13 : Int32) (g14 : Int32) (g15 : Int64) (g16 : Value) (g17 : Value) (g18 : Value) (g19 : Value) (g20 : Int32) (g21 : Int32) (g22 : Value) (g23 : Value) (g24 : Value) (g25 : Int32) (g26 : Value) (g27 : Int32) (g28 : Int32) (g29 : Int32) (g30 : Int32) (p1 : Int32) : ctI l dC dI cy yX13_quickFalls cX13_quickFalls 2 .int ({ frames := 2, cells := 0, slots := 0, locals := 45 }) [.ref h0, .int p1] [(h0, .inr (12, [.int g0, .int g1, .int g2, .null, g4, g5, .int g6, .int g7, .int g8, .int g9, .int g10, .int g11, .int g12, .int g13, .int g14, .long g15, g16, g17, g18, g19, .int g20, .int g21, g22, g23, g24, .int g25, g26, .int g27, .int g28, .int g29, .int g30]))] (S := Unit) (fun r _ => r = -1) (fun _ => []) := by
  refine ctI.of (by decide +kernel) (Nat.le_of_ble_eq_true rfl) ?_
  intro p e s m args below meth c A ls X hr hlocks hin hA hP hD hS hl
  have hx := X.1
  have hb := X.2.1
  have hK := X.2.2.2.2.2.1
  have hl : lv_has ls 2 [(0, .ref h0), (1, .int p1)] := hl
  refine lv_aload_n hx hb dX13_quickFalls_0 rfl (lv_at hl 0 rfl) ?_
  refine lv_iconst (v := 0) hx hb dX13_quickFalls_1 (by decide) ?_
  refine r_put X kcX13 (ci := 12) rfl hP hD hS 0 rfl 0 (by decide) fX13_42 rfl rfl rfl (Nat.le_of_ble_eq_true rfl) dX13_quickFalls_2 (fun H locs hP hD hS => ?_)
  have hP : va_P (dC, dI) vwCl [(h0, .inr (12, [.int 0, .int g1, .int g2, .null, g4, g5, .int g6, .int g7, .int g8, .int g9, .int g10, .int g11, .int g12, .int g13, .int g14, .long g15, g16, g17, g18, g19, .int g20, .int g21, g22, g23, g24, .int g25, g26, .int g27, .int g28, .int g29, .int g30]))] H := hP
  have hD : va_D A [(h0, .inr (12, [.int 0, .int g1, .int g2, .null, g4, g5, .int g6, .int g7, .int g8, .int g9, .int g10, .int g11, .int g12, .int g13, .int g14, .long g15, g16, g17, g18, g19, .int g20, .int g21, g22, g23, g24, .int g25, g26, .int g27, .int g28, .int g29, .int g30]))] := hD
  refine lv_aload_n hx hb dX13_quickFalls_5 rfl (lv_at hl 0 rfl) ?_
  refine lv_iload_n hx hb dX13_quickFalls_6 rfl (lv_at hl 1 rfl) ?_
  refine lv_iconst (v := 1) hx hb dX13_quickFalls_7 (by decide) ?_
  refine lv_iconst (v := 0) hx hb dX13_quickFalls_8 (by decide) ?_
  refine fI (wr := []) (rV_I (wc := [(h0, .inr (12, [.int 0, .int g1, .int g2, .null, g4, g5, .int g6, .int g7, .int g8, .int g9, .int g10, .int g11, .int g12, .int g13, .int g14, .long g15, g16, g17, g18, g19, .int g20, .int g21, g22, g23, g24, .int g25, g26, .int g27, .int g28, .int g29, .int g30]))]) (As := [.int p1, .int 1, .int 0]) (rest := []) X (tX13_wayPart l dC dI cy h0 0 g1 g2 g4 g5 g6 g7 g8 g9 g10 g11 g12 g13 g14 g15 g16 g17 g18 g19 g20 g21 g22 g23 g24 g25 g26 g27 g28 g29 g30 p1 1 0) kX13_wayPart vX13_wayPart mX13_331 hP hD [0] (by decide) rfl 0 (ci := 12) rfl rfl rfl hl rfl rfl (Nat.le_of_ble_eq_true rfl) dX13_quickFalls_9 ⟨Nat.le_of_ble_eq_true rfl, Nat.le_of_ble_eq_true rfl⟩ ⟨Nat.le_of_ble_eq_true rfl, Nat.le_of_ble_eq_true rfl⟩) hP hD hS hA [0] [] rfl rfl (by decide) (by decide) (fun r_1 u_3 H locs k_2 hP hD hS => ?_)
  have hP : va_P (dC, dI) vwCl [] H := hP
  have hD : va_D A [] := hD
  have er_1 : r_1 = -1 := k_2
  subst er_1
  exact eI X hr hlocks hP hD hS () [] (by decide) rfl rfl rfl (Nat.le_of_ble_eq_true rfl) (Nat.le_of_ble_eq_true rfl) dX13_quickFalls_12
set_option maxHeartbeats 4000000 in
set_option maxRecDepth 100000 in
theorem tX13_quickAt (l : Launch) (dC : Nat → ClassId) (dI : Nat → Nat → Nat) (cy : Nat → ClassId) (h0 : Nat) (g0 : Int32) (g1 : Int32) (g2 : Int32) (g4 : Value) (g5 : Value) (g6 : Int32) (g7 : Int32) (g8 : Int32) (g9 : Int32) (g10 : Int32) (g11 : Int32) (g12 : Int32) (g13 : Int32) (g14 : Int32) (g15 : Int64) (g16 : Value) (g17 : Value) (g18 : Value) (g19 : Value) (g20 : Int32) (g21 : Int32) (g22 : Value) (g23 : Value) (g24 : Value) (g25 : Int32) (g26 : Value) (g27 : Int32) (g28 : Int32) (g29 : Int32) (g30 : Int32) (p1 : Int32) (p2 : Int32) : ctI l dC dI cy yX13_quickAt cX13_quickAt 3 .int ({ frames := 2, cells := 0, slots := 0, locals := 46 }) [.ref h0, .int p1, .int p2] [(h0, .inr (12, [.int g0, .int g1, .int g2, .null, g4, g5, .int g6, .int g7, .int g8, .int g9, .int g10, .int g11, .int g12, .int g13, .int g14, .long g15, g16, g17, g18, g19, .int g20, .int g21, g22, g23, g24, .int g25, g26, .int g27, .int g28, .int g29, .int g30]))] (S := Unit) (fun r _ => r = -1) (fun _ => []) := by
  refine ctI.of (by decide +kernel) (Nat.le_of_ble_eq_true rfl) ?_
  intro p e s m args below meth c A ls X hr hlocks hin hA hP hD hS hl
  have hx := X.1
  have hb := X.2.1
  have hK := X.2.2.2.2.2.1
  have hl : lv_has ls 3 [(0, .ref h0), (1, .int p1), (2, .int p2)] := hl
  refine lv_aload_n hx hb dX13_quickAt_0 rfl (lv_at hl 0 rfl) ?_
  refine lv_iconst (v := 0) hx hb dX13_quickAt_1 (by decide) ?_
  refine r_put X kcX13 (ci := 12) rfl hP hD hS 0 rfl 0 (by decide) fX13_42 rfl rfl rfl (Nat.le_of_ble_eq_true rfl) dX13_quickAt_2 (fun H locs hP hD hS => ?_)
  have hP : va_P (dC, dI) vwCl [(h0, .inr (12, [.int 0, .int g1, .int g2, .null, g4, g5, .int g6, .int g7, .int g8, .int g9, .int g10, .int g11, .int g12, .int g13, .int g14, .long g15, g16, g17, g18, g19, .int g20, .int g21, g22, g23, g24, .int g25, g26, .int g27, .int g28, .int g29, .int g30]))] H := hP
  have hD : va_D A [(h0, .inr (12, [.int 0, .int g1, .int g2, .null, g4, g5, .int g6, .int g7, .int g8, .int g9, .int g10, .int g11, .int g12, .int g13, .int g14, .long g15, g16, g17, g18, g19, .int g20, .int g21, g22, g23, g24, .int g25, g26, .int g27, .int g28, .int g29, .int g30]))] := hD
  refine lv_aload_n hx hb dX13_quickAt_5 rfl (lv_at hl 0 rfl) ?_
  refine lv_iload_n hx hb dX13_quickAt_6 rfl (lv_at hl 1 rfl) ?_
  refine lv_iload_n hx hb dX13_quickAt_7 rfl (lv_at hl 2 rfl) ?_
  refine lv_iconst (v := 1) hx hb dX13_quickAt_8 (by decide) ?_
  refine fI (wr := []) (rV_I (wc := [(h0, .inr (12, [.int 0, .int g1, .int g2, .null, g4, g5, .int g6, .int g7, .int g8, .int g9, .int g10, .int g11, .int g12, .int g13, .int g14, .long g15, g16, g17, g18, g19, .int g20, .int g21, g22, g23, g24, .int g25, g26, .int g27, .int g28, .int g29, .int g30]))]) (As := [.int p1, .int p2, .int 1]) (rest := []) X (tX13_wayStep l dC dI cy h0 0 g1 g2 g4 g5 g6 g7 g8 g9 g10 g11 g12 g13 g14 g15 g16 g17 g18 g19 g20 g21 g22 g23 g24 g25 g26 g27 g28 g29 g30 p1 p2 1) kX13_wayStep vX13_wayStep mX13_335 hP hD [0] (by decide) rfl 0 (ci := 12) rfl rfl rfl hl rfl rfl (Nat.le_of_ble_eq_true rfl) dX13_quickAt_9 ⟨Nat.le_of_ble_eq_true rfl, Nat.le_of_ble_eq_true rfl⟩ ⟨Nat.le_of_ble_eq_true rfl, Nat.le_of_ble_eq_true rfl⟩) hP hD hS hA [0] [] rfl rfl (by decide) (by decide) (fun r_1 u_3 H locs k_2 hP hD hS => ?_)
  have hP : va_P (dC, dI) vwCl [] H := hP
  have hD : va_D A [] := hD
  have er_1 : r_1 = -1 := k_2
  subst er_1
  exact eI X hr hlocks hP hD hS () [] (by decide) rfl rfl rfl (Nat.le_of_ble_eq_true rfl) (Nat.le_of_ble_eq_true rfl) dX13_quickAt_12
set_option maxHeartbeats 4000000 in
set_option maxRecDepth 100000 in
theorem tX13_dry (l : Launch) (dC : Nat → ClassId) (dI : Nat → Nat → Nat) (cy : Nat → ClassId) (h0 : Nat) (g0 : Int32) (g1 : Int32) (g2 : Int32) (g4 : Value) (g5 : Value) (g6 : Int32) (g7 : Int32) (g8 : Int32) (g9 : Int32) (g10 : Int32) (g11 : Int32) (g12 : Int32) (g13 : Int32) (g14 : Int32) (g15 : Int64) (g16 : Value) (g17 : Value) (g18 : Value) (g19 : Value) (g20 : Int32) (g21 : Int32) (g22 : Value) (g23 : Value) (g24 : Value) (g25 : Int32) (g26 : Value) (g27 : Int32) (g28 : Int32) (g29 : Int32) (g30 : Int32) (p1 : Int32) : ctI l dC dI cy yX13_dry cX13_dry 2 .int ({ frames := 2, cells := 0, slots := 0, locals := 45 }) [.ref h0, .int p1] [(h0, .inr (12, [.int g0, .int g1, .int g2, .null, g4, g5, .int g6, .int g7, .int g8, .int g9, .int g10, .int g11, .int g12, .int g13, .int g14, .long g15, g16, g17, g18, g19, .int g20, .int g21, g22, g23, g24, .int g25, g26, .int g27, .int g28, .int g29, .int g30]))] (S := Unit) (fun r _ => r = -1) (fun _ => []) := by
  refine ctI.of (by decide +kernel) (Nat.le_of_ble_eq_true rfl) ?_
  intro p e s m args below meth c A ls X hr hlocks hin hA hP hD hS hl
  have hx := X.1
  have hb := X.2.1
  have hK := X.2.2.2.2.2.1
  have hl : lv_has ls 2 [(0, .ref h0), (1, .int p1)] := hl
  refine lv_aload_n hx hb dX13_dry_0 rfl (lv_at hl 0 rfl) ?_
  refine lv_iconst (v := 0) hx hb dX13_dry_1 (by decide) ?_
  refine r_put X kcX13 (ci := 12) rfl hP hD hS 0 rfl 0 (by decide) fX13_42 rfl rfl rfl (Nat.le_of_ble_eq_true rfl) dX13_dry_2 (fun H locs hP hD hS => ?_)
  have hP : va_P (dC, dI) vwCl [(h0, .inr (12, [.int 0, .int g1, .int g2, .null, g4, g5, .int g6, .int g7, .int g8, .int g9, .int g10, .int g11, .int g12, .int g13, .int g14, .long g15, g16, g17, g18, g19, .int g20, .int g21, g22, g23, g24, .int g25, g26, .int g27, .int g28, .int g29, .int g30]))] H := hP
  have hD : va_D A [(h0, .inr (12, [.int 0, .int g1, .int g2, .null, g4, g5, .int g6, .int g7, .int g8, .int g9, .int g10, .int g11, .int g12, .int g13, .int g14, .long g15, g16, g17, g18, g19, .int g20, .int g21, g22, g23, g24, .int g25, g26, .int g27, .int g28, .int g29, .int g30]))] := hD
  refine lv_aload_n hx hb dX13_dry_5 rfl (lv_at hl 0 rfl) ?_
  refine lv_iload_n hx hb dX13_dry_6 rfl (lv_at hl 1 rfl) ?_
  refine lv_iconst (v := 0) hx hb dX13_dry_7 (by decide) ?_
  refine lv_iconst (v := 1) hx hb dX13_dry_8 (by decide) ?_
  refine fI (wr := []) (rV_I (wc := [(h0, .inr (12, [.int 0, .int g1, .int g2, .null, g4, g5, .int g6, .int g7, .int g8, .int g9, .int g10, .int g11, .int g12, .int g13, .int g14, .long g15, g16, g17, g18, g19, .int g20, .int g21, g22, g23, g24, .int g25, g26, .int g27, .int g28, .int g29, .int g30]))]) (As := [.int p1, .int 0, .int 1]) (rest := []) X (tX13_wayPart l dC dI cy h0 0 g1 g2 g4 g5 g6 g7 g8 g9 g10 g11 g12 g13 g14 g15 g16 g17 g18 g19 g20 g21 g22 g23 g24 g25 g26 g27 g28 g29 g30 p1 0 1) kX13_wayPart vX13_wayPart mX13_331 hP hD [0] (by decide) rfl 0 (ci := 12) rfl rfl rfl hl rfl rfl (Nat.le_of_ble_eq_true rfl) dX13_dry_9 ⟨Nat.le_of_ble_eq_true rfl, Nat.le_of_ble_eq_true rfl⟩ ⟨Nat.le_of_ble_eq_true rfl, Nat.le_of_ble_eq_true rfl⟩) hP hD hS hA [0] [] rfl rfl (by decide) (by decide) (fun r_1 u_3 H locs k_2 hP hD hS => ?_)
  have hP : va_P (dC, dI) vwCl [] H := hP
  have hD : va_D A [] := hD
  have er_1 : r_1 = -1 := k_2
  subst er_1
  exact eI X hr hlocks hP hD hS () [] (by decide) rfl rfl rfl (Nat.le_of_ble_eq_true rfl) (Nat.le_of_ble_eq_true rfl) dX13_dry_12
set_option maxHeartbeats 4000000 in
set_option maxRecDepth 100000 in
theorem tX13_dryMinutes (l : Launch) (dC : Nat → ClassId) (dI : Nat → Nat → Nat) (cy : Nat → ClassId) (h0 : Nat) (g0 : Int32) (g1 : Int32) (g2 : Int32) (g4 : Value) (g5 : Value) (g6 : Int32) (g7 : Int32) (g8 : Int32) (g9 : Int32) (g10 : Int32) (g11 : Int32) (g12 : Int32) (g13 : Int32) (g14 : Int32) (g15 : Int64) (g16 : Value) (g17 : Value) (g18 : Value) (g19 : Value) (g20 : Int32) (g21 : Int32) (g22 : Value) (g23 : Value) (g24 : Value) (g25 : Int32) (g26 : Value) (g27 : Int32) (g28 : Int32) (g29 : Int32) (g30 : Int32) (p1 : Int32) : ctI l dC dI cy yX13_dryMinutes cX13_dryMinutes 2 .int ({ frames := 2, cells := 0, slots := 0, locals := 45 }) [.ref h0, .int p1] [(h0, .inr (12, [.int g0, .int g1, .int g2, .null, g4, g5, .int g6, .int g7, .int g8, .int g9, .int g10, .int g11, .int g12, .int g13, .int g14, .long g15, g16, g17, g18, g19, .int g20, .int g21, g22, g23, g24, .int g25, g26, .int g27, .int g28, .int g29, .int g30]))] (S := Unit) (fun r _ => r = -1) (fun _ => []) := by
  refine ctI.of (by decide +kernel) (Nat.le_of_ble_eq_true rfl) ?_
  intro p e s m args below meth c A ls X hr hlocks hin hA hP hD hS hl
  have hx := X.1
  have hb := X.2.1
  have hK := X.2.2.2.2.2.1
  have hl : lv_has ls 2 [(0, .ref h0), (1, .int p1)] := hl
  refine lv_aload_n hx hb dX13_dryMinutes_0 rfl (lv_at hl 0 rfl) ?_
  refine lv_iconst (v := 0) hx hb dX13_dryMinutes_1 (by decide) ?_
  refine r_put X kcX13 (ci := 12) rfl hP hD hS 0 rfl 0 (by decide) fX13_42 rfl rfl rfl (Nat.le_of_ble_eq_true rfl) dX13_dryMinutes_2 (fun H locs hP hD hS => ?_)
  have hP : va_P (dC, dI) vwCl [(h0, .inr (12, [.int 0, .int g1, .int g2, .null, g4, g5, .int g6, .int g7, .int g8, .int g9, .int g10, .int g11, .int g12, .int g13, .int g14, .long g15, g16, g17, g18, g19, .int g20, .int g21, g22, g23, g24, .int g25, g26, .int g27, .int g28, .int g29, .int g30]))] H := hP
  have hD : va_D A [(h0, .inr (12, [.int 0, .int g1, .int g2, .null, g4, g5, .int g6, .int g7, .int g8, .int g9, .int g10, .int g11, .int g12, .int g13, .int g14, .long g15, g16, g17, g18, g19, .int g20, .int g21, g22, g23, g24, .int g25, g26, .int g27, .int g28, .int g29, .int g30]))] := hD
  refine lv_aload_n hx hb dX13_dryMinutes_5 rfl (lv_at hl 0 rfl) ?_
  refine lv_iload_n hx hb dX13_dryMinutes_6 rfl (lv_at hl 1 rfl) ?_
  refine lv_iconst (v := 0) hx hb dX13_dryMinutes_7 (by decide) ?_
  refine lv_iconst (v := 0) hx hb dX13_dryMinutes_8 (by decide) ?_
  refine fI (wr := []) (rV_I (wc := [(h0, .inr (12, [.int 0, .int g1, .int g2, .null, g4, g5, .int g6, .int g7, .int g8, .int g9, .int g10, .int g11, .int g12, .int g13, .int g14, .long g15, g16, g17, g18, g19, .int g20, .int g21, g22, g23, g24, .int g25, g26, .int g27, .int g28, .int g29, .int g30]))]) (As := [.int p1, .int 0, .int 0]) (rest := []) X (tX13_wayPart l dC dI cy h0 0 g1 g2 g4 g5 g6 g7 g8 g9 g10 g11 g12 g13 g14 g15 g16 g17 g18 g19 g20 g21 g22 g23 g24 g25 g26 g27 g28 g29 g30 p1 0 0) kX13_wayPart vX13_wayPart mX13_331 hP hD [0] (by decide) rfl 0 (ci := 12) rfl rfl rfl hl rfl rfl (Nat.le_of_ble_eq_true rfl) dX13_dryMinutes_9 ⟨Nat.le_of_ble_eq_true rfl, Nat.le_of_ble_eq_true rfl⟩ ⟨Nat.le_of_ble_eq_true rfl, Nat.le_of_ble_eq_true rfl⟩) hP hD hS hA [0] [] rfl rfl (by decide) (by decide) (fun r_1 u_3 H locs k_2 hP hD hS => ?_)
  have hP : va_P (dC, dI) vwCl [] H := hP
  have hD : va_D A [] := hD
  have er_1 : r_1 = -1 := k_2
  subst er_1
  exact eI X hr hlocks hP hD hS () [] (by decide) rfl rfl rfl (Nat.le_of_ble_eq_true rfl) (Nat.le_of_ble_eq_true rfl) dX13_dryMinutes_12
set_option maxHeartbeats 4000000 in
set_option maxRecDepth 100000 in
theorem tX13_dryAt (l : Launch) (dC : Nat → ClassId) (dI : Nat → Nat → Nat) (cy : Nat → ClassId) (h0 : Nat) (g0 : Int32) (g1 : Int32) (g2 : Int32) (g4 : Value) (g5 : Value) (g6 : Int32) (g7 : Int32) (g8 : Int32) (g9 : Int32) (g10 : Int32) (g11 : Int32) (g12 : Int32) (g13 : Int32) (g14 : Int32) (g15 : Int64) (g16 : Value) (g17 : Value) (g18 : Value) (g19 : Value) (g20 : Int32) (g21 : Int32) (g22 : Value) (g23 : Value) (g24 : Value) (g25 : Int32) (g26 : Value) (g27 : Int32) (g28 : Int32) (g29 : Int32) (g30 : Int32) (p1 : Int32) (p2 : Int32) : ctI l dC dI cy yX13_dryAt cX13_dryAt 3 .int ({ frames := 2, cells := 0, slots := 0, locals := 46 }) [.ref h0, .int p1, .int p2] [(h0, .inr (12, [.int g0, .int g1, .int g2, .null, g4, g5, .int g6, .int g7, .int g8, .int g9, .int g10, .int g11, .int g12, .int g13, .int g14, .long g15, g16, g17, g18, g19, .int g20, .int g21, g22, g23, g24, .int g25, g26, .int g27, .int g28, .int g29, .int g30]))] (S := Unit) (fun r _ => r = -1) (fun _ => []) := by
  refine ctI.of (by decide +kernel) (Nat.le_of_ble_eq_true rfl) ?_
  intro p e s m args below meth c A ls X hr hlocks hin hA hP hD hS hl
  have hx := X.1
  have hb := X.2.1
  have hK := X.2.2.2.2.2.1
  have hl : lv_has ls 3 [(0, .ref h0), (1, .int p1), (2, .int p2)] := hl
  refine lv_aload_n hx hb dX13_dryAt_0 rfl (lv_at hl 0 rfl) ?_
  refine lv_iconst (v := 0) hx hb dX13_dryAt_1 (by decide) ?_
  refine r_put X kcX13 (ci := 12) rfl hP hD hS 0 rfl 0 (by decide) fX13_42 rfl rfl rfl (Nat.le_of_ble_eq_true rfl) dX13_dryAt_2 (fun H locs hP hD hS => ?_)
  have hP : va_P (dC, dI) vwCl [(h0, .inr (12, [.int 0, .int g1, .int g2, .null, g4, g5, .int g6, .int g7, .int g8, .int g9, .int g10, .int g11, .int g12, .int g13, .int g14, .long g15, g16, g17, g18, g19, .int g20, .int g21, g22, g23, g24, .int g25, g26, .int g27, .int g28, .int g29, .int g30]))] H := hP
  have hD : va_D A [(h0, .inr (12, [.int 0, .int g1, .int g2, .null, g4, g5, .int g6, .int g7, .int g8, .int g9, .int g10, .int g11, .int g12, .int g13, .int g14, .long g15, g16, g17, g18, g19, .int g20, .int g21, g22, g23, g24, .int g25, g26, .int g27, .int g28, .int g29, .int g30]))] := hD
  refine lv_aload_n hx hb dX13_dryAt_5 rfl (lv_at hl 0 rfl) ?_
  refine lv_iload_n hx hb dX13_dryAt_6 rfl (lv_at hl 1 rfl) ?_
  refine lv_iload_n hx hb dX13_dryAt_7 rfl (lv_at hl 2 rfl) ?_
  refine lv_iconst (v := 0) hx hb dX13_dryAt_8 (by decide) ?_
  refine fI (wr := []) (rV_I (wc := [(h0, .inr (12, [.int 0, .int g1, .int g2, .null, g4, g5, .int g6, .int g7, .int g8, .int g9, .int g10, .int g11, .int g12, .int g13, .int g14, .long g15, g16, g17, g18, g19, .int g20, .int g21, g22, g23, g24, .int g25, g26, .int g27, .int g28, .int g29, .int g30]))]) (As := [.int p1, .int p2, .int 0]) (rest := []) X (tX13_wayStep l dC dI cy h0 0 g1 g2 g4 g5 g6 g7 g8 g9 g10 g11 g12 g13 g14 g15 g16 g17 g18 g19 g20 g21 g22 g23 g24 g25 g26 g27 g28 g29 g30 p1 p2 0) kX13_wayStep vX13_wayStep mX13_335 hP hD [0] (by decide) rfl 0 (ci := 12) rfl rfl rfl hl rfl rfl (Nat.le_of_ble_eq_true rfl) dX13_dryAt_9 ⟨Nat.le_of_ble_eq_true rfl, Nat.le_of_ble_eq_true rfl⟩ ⟨Nat.le_of_ble_eq_true rfl, Nat.le_of_ble_eq_true rfl⟩) hP hD hS hA [0] [] rfl rfl (by decide) (by decide) (fun r_1 u_3 H locs k_2 hP hD hS => ?_)
  have hP : va_P (dC, dI) vwCl [] H := hP
  have hD : va_D A [] := hD
  have er_1 : r_1 = -1 := k_2
  subst er_1
  exact eI X hr hlocks hP hD hS () [] (by decide) rfl rfl rfl (Nat.le_of_ble_eq_true rfl) (Nat.le_of_ble_eq_true rfl) dX13_dryAt_12
set_option maxHeartbeats 4000000 in
set_option maxRecDepth 100000 in
theorem tX13_reach (l : Launch) (dC : Nat → ClassId) (dI : Nat → Nat → Nat) (cy : Nat → ClassId) (h0 : Nat) (g0 : Int32) (g1 : Int32) (g2 : Int32) (g4 : Value) (g5 : Value) (g6 : Int32) (g7 : Int32) (g8 : Int32) (g9 : Int32) (g10 : Int32) (g11 : Int32) (g12 : Int32) (g13 : Int32) (g14 : Int32) (g15 : Int64) (g16 : Value) (g17 : Value) (g18 : Value) (g19 : Value) (g20 : Int32) (g21 : Int32) (g22 : Value) (g23 : Value) (g24 : Value) (g25 : Int32) (g26 : Value) (g27 : Int32) (g28 : Int32) (g29 : Int32) (g30 : Int32) (p1 : Int32) : ctI l dC dI cy yX13_reach cX13_reach 2 .int ({ frames := 1, cells := 0, slots := 0, locals := 21 }) [.ref h0, .int p1] [(h0, .inr (12, [.int g0, .int g1, .int g2, .null, g4, g5, .int g6, .int g7, .int g8, .int g9, .int g10, .int g11, .int g12, .int g13, .int g14, .long g15, g16, g17, g18, g19, .int g20, .int g21, g22, g23, g24, .int g25, g26, .int g27, .int g28, .int g29, .int g30]))] (S := Unit) (fun r _ => r = -1) (fun _ => []) := by
  refine ctI.of (by decide +kernel) (Nat.le_of_ble_eq_true rfl) ?_
  intro p e s m args below meth c A ls X hr hlocks hin hA hP hD hS hl
  have hx := X.1
  have hb := X.2.1
  have hK := X.2.2.2.2.2.1
  have hl : lv_has ls 2 [(0, .ref h0), (1, .int p1)] := hl
  refine lv_aload_n hx hb dX13_reach_0 rfl (lv_at hl 0 rfl) ?_
  refine lv_iconst (v := 0) hx hb dX13_reach_1 (by decide) ?_
  refine r_put X kcX13 (ci := 12) rfl hP hD hS 0 rfl 0 (by decide) fX13_42 rfl rfl rfl (Nat.le_of_ble_eq_true rfl) dX13_reach_2 (fun H locs hP hD hS => ?_)
  have hP : va_P (dC, dI) vwCl [(h0, .inr (12, [.int 0, .int g1, .int g2, .null, g4, g5, .int g6, .int g7, .int g8, .int g9, .int g10, .int g11, .int g12, .int g13, .int g14, .long g15, g16, g17, g18, g19, .int g20, .int g21, g22, g23, g24, .int g25, g26, .int g27, .int g28, .int g29, .int g30]))] H := hP
  have hD : va_D A [(h0, .inr (12, [.int 0, .int g1, .int g2, .null, g4, g5, .int g6, .int g7, .int g8, .int g9, .int g10, .int g11, .int g12, .int g13, .int g14, .long g15, g16, g17, g18, g19, .int g20, .int g21, g22, g23, g24, .int g25, g26, .int g27, .int g28, .int g29, .int g30]))] := hD
  refine lv_aload_n hx hb dX13_reach_5 rfl (lv_at hl 0 rfl) ?_
  refine lv_iload_n hx hb dX13_reach_6 rfl (lv_at hl 1 rfl) ?_
  refine fI (wr := []) (rV_I (wc := [(h0, .inr (12, [.int 0, .int g1, .int g2, .null, g4, g5, .int g6, .int g7, .int g8, .int g9, .int g10, .int g11, .int g12, .int g13, .int g14, .long g15, g16, g17, g18, g19, .int g20, .int g21, g22, g23, g24, .int g25, g26, .int g27, .int g28, .int g29, .int g30]))]) (As := [.int p1]) (rest := []) X (tX13_isWalker l dC dI cy h0 0 g1 g2 g4 g5 g6 g7 g8 g9 g10 g11 g12 g13 g14 g15 g16 g17 g18 g19 g20 g21 g22 g23 g24 g25 g26 g27 g28 g29 g30 p1) kX13_isWalker vX13_isWalker mX13_311 hP hD [0] (by decide) rfl 0 (ci := 12) rfl rfl rfl hl rfl rfl (Nat.le_of_ble_eq_true rfl) dX13_reach_7 ⟨Nat.le_of_ble_eq_true rfl, Nat.le_of_ble_eq_true rfl⟩ ⟨Nat.le_of_ble_eq_true rfl, Nat.le_of_ble_eq_true rfl⟩) hP hD hS hA [0] [] rfl rfl (by decide) (by decide) (fun r_1 u_3 H locs k_2 hP hD hS => ?_)
  have hP : va_P (dC, dI) vwCl [(h0, .inr (12, [.int 0, .int g1, .int g2, .null, g4, g5, .int g6, .int g7, .int g8, .int g9, .int g10, .int g11, .int g12, .int g13, .int g14, .long g15, g16, g17, g18, g19, .int g20, .int g21, g22, g23, g24, .int g25, g26, .int g27, .int g28, .int g29, .int g30]))] H := hP
  have hD : va_D A [(h0, .inr (12, [.int 0, .int g1, .int g2, .null, g4, g5, .int g6, .int g7, .int g8, .int g9, .int g10, .int g11, .int g12, .int g13, .int g14, .long g15, g16, g17, g18, g19, .int g20, .int g21, g22, g23, g24, .int g25, g26, .int g27, .int g28, .int g29, .int g30]))] := hD
  have er_1 : r_1 = 0 := k_2
  subst er_1
  refine lv_if_ne (tgt := 19) hx hb dX13_reach_10 (by decide) (fun h_4 => absurd (by decide) h_4) (fun _ => ?_)
  refine lv_aload_n hx hb dX13_reach_13 rfl (lv_at hl 0 rfl) ?_
  refine lv_iconst (v := 1) hx hb dX13_reach_14 (by decide) ?_
  refine fI (wr := []) (rV_I (wc := [(h0, .inr (12, [.int 0, .int g1, .int g2, .null, g4, g5, .int g6, .int g7, .int g8, .int g9, .int g10, .int g11, .int g12, .int g13, .int g14, .long g15, g16, g17, g18, g19, .int g20, .int g21, g22, g23, g24, .int g25, g26, .int g27, .int g28, .int g29, .int g30]))]) (As := [.int 1]) (rest := []) X (tX13_refused l dC dI cy h0 0 g1 g2 .null g4 g5 g6 g7 g8 g9 g10 g11 g12 g13 g14 g15 g16 g17 g18 g19 g20 g21 g22 g23 g24 g25 g26 g27 g28 g29 g30 1) kX13_refused vX13_refused mX13_48 hP hD [0] (by decide) rfl 0 (ci := 12) rfl rfl rfl hl rfl rfl (Nat.le_of_ble_eq_true rfl) dX13_reach_15 ⟨Nat.le_of_ble_eq_true rfl, Nat.le_of_ble_eq_true rfl⟩ ⟨Nat.le_of_ble_eq_true rfl, Nat.le_of_ble_eq_true rfl⟩) hP hD hS hA [0] [] rfl rfl (by decide) (by decide) (fun r_5 u_7 H locs k_6 hP hD hS => ?_)
  have hP : va_P (dC, dI) vwCl [] H := hP
  have hD : va_D A [] := hD
  have er_5 : r_5 = -1 := k_6
  subst er_5
  exact eI X hr hlocks hP hD hS () [] (by decide) rfl rfl rfl (Nat.le_of_ble_eq_true rfl) (Nat.le_of_ble_eq_true rfl) dX13_reach_18
set_option maxHeartbeats 4000000 in
set_option maxRecDepth 100000 in
theorem tX13_reachIn (l : Launch) (dC : Nat → ClassId) (dI : Nat → Nat → Nat) (cy : Nat → ClassId) (h0 : Nat) (g0 : Int32) (g1 : Int32) (g2 : Int32) (g4 : Value) (g5 : Value) (g6 : Int32) (g7 : Int32) (g8 : Int32) (g9 : Int32) (g10 : Int32) (g11 : Int32) (g12 : Int32) (g13 : Int32) (g14 : Int32) (g15 : Int64) (g16 : Value) (g17 : Value) (g18 : Value) (g19 : Value) (g20 : Int32) (g21 : Int32) (g22 : Value) (g23 : Value) (g24 : Value) (g25 : Int32) (g26 : Value) (g27 : Int32) (g28 : Int32) (g29 : Int32) (g30 : Int32) (p1 : Int32) (p2 : Int32) : ctI l dC dI cy yX13_reachIn cX13_reachIn 3 .int ({ frames := 1, cells := 0, slots := 0, locals := 21 }) [.ref h0, .int p1, .int p2] [(h0, .inr (12, [.int g0, .int g1, .int g2, .null, g4, g5, .int g6, .int g7, .int g8, .int g9, .int g10, .int g11, .int g12, .int g13, .int g14, .long g15, g16, g17, g18, g19, .int g20, .int g21, g22, g23, g24, .int g25, g26, .int g27, .int g28, .int g29, .int g30]))] (S := Unit) (fun r _ => r = -1) (fun _ => []) := by
  refine ctI.of (by decide +kernel) (Nat.le_of_ble_eq_true rfl) ?_
  intro p e s m args below meth c A ls X hr hlocks hin hA hP hD hS hl
  have hx := X.1
  have hb := X.2.1
  have hK := X.2.2.2.2.2.1
  have hl : lv_has ls 3 [(0, .ref h0), (1, .int p1), (2, .int p2)] := hl
  refine lv_aload_n hx hb dX13_reachIn_0 rfl (lv_at hl 0 rfl) ?_
  refine lv_iconst (v := 0) hx hb dX13_reachIn_1 (by decide) ?_
  refine r_put X kcX13 (ci := 12) rfl hP hD hS 0 rfl 0 (by decide) fX13_42 rfl rfl rfl (Nat.le_of_ble_eq_true rfl) dX13_reachIn_2 (fun H locs hP hD hS => ?_)
  have hP : va_P (dC, dI) vwCl [(h0, .inr (12, [.int 0, .int g1, .int g2, .null, g4, g5, .int g6, .int g7, .int g8, .int g9, .int g10, .int g11, .int g12, .int g13, .int g14, .long g15, g16, g17, g18, g19, .int g20, .int g21, g22, g23, g24, .int g25, g26, .int g27, .int g28, .int g29, .int g30]))] H := hP
  have hD : va_D A [(h0, .inr (12, [.int 0, .int g1, .int g2, .null, g4, g5, .int g6, .int g7, .int g8, .int g9, .int g10, .int g11, .int g12, .int g13, .int g14, .long g15, g16, g17, g18, g19, .int g20, .int g21, g22, g23, g24, .int g25, g26, .int g27, .int g28, .int g29, .int g30]))] := hD
  refine lv_aload_n hx hb dX13_reachIn_5 rfl (lv_at hl 0 rfl) ?_
  refine lv_iload_n hx hb dX13_reachIn_6 rfl (lv_at hl 1 rfl) ?_
  refine fI (wr := []) (rV_I (wc := [(h0, .inr (12, [.int 0, .int g1, .int g2, .null, g4, g5, .int g6, .int g7, .int g8, .int g9, .int g10, .int g11, .int g12, .int g13, .int g14, .long g15, g16, g17, g18, g19, .int g20, .int g21, g22, g23, g24, .int g25, g26, .int g27, .int g28, .int g29, .int g30]))]) (As := [.int p1]) (rest := []) X (tX13_isWalker l dC dI cy h0 0 g1 g2 g4 g5 g6 g7 g8 g9 g10 g11 g12 g13 g14 g15 g16 g17 g18 g19 g20 g21 g22 g23 g24 g25 g26 g27 g28 g29 g30 p1) kX13_isWalker vX13_isWalker mX13_311 hP hD [0] (by decide) rfl 0 (ci := 12) rfl rfl rfl hl rfl rfl (Nat.le_of_ble_eq_true rfl) dX13_reachIn_7 ⟨Nat.le_of_ble_eq_true rfl, Nat.le_of_ble_eq_true rfl⟩ ⟨Nat.le_of_ble_eq_true rfl, Nat.le_of_ble_eq_true rfl⟩) hP hD hS hA [0] [] rfl rfl (by decide) (by decide) (fun r_1 u_3 H locs k_2 hP hD hS => ?_)
  have hP : va_P (dC, dI) vwCl [(h0, .inr (12, [.int 0, .int g1, .int g2, .null, g4, g5, .int g6, .int g7, .int g8, .int g9, .int g10, .int g11, .int g12, .int g13, .int g14, .long g15, g16, g17, g18, g19, .int g20, .int g21, g22, g23, g24, .int g25, g26, .int g27, .int g28, .int g29, .int g30]))] H := hP
  have hD : va_D A [(h0, .inr (12, [.int 0, .int g1, .int g2, .null, g4, g5, .int g6, .int g7, .int g8, .int g9, .int g10, .int g11, .int g12, .int g13, .int g14, .long g15, g16, g17, g18, g19, .int g20, .int g21, g22, g23, g24, .int g25, g26, .int g27, .int g28, .int g29, .int g30]))] := hD
  have er_1 : r_1 = 0 := k_2
  subst er_1
  refine lv_if_ne (tgt := 19) hx hb dX13_reachIn_10 (by decide) (fun h_4 => absurd (by decide) h_4) (fun _ => ?_)
  refine lv_aload_n hx hb dX13_reachIn_13 rfl (lv_at hl 0 rfl) ?_
  refine lv_iconst (v := 1) hx hb dX13_reachIn_14 (by decide) ?_
  refine fI (wr := []) (rV_I (wc := [(h0, .inr (12, [.int 0, .int g1, .int g2, .null, g4, g5, .int g6, .int g7, .int g8, .int g9, .int g10, .int g11, .int g12, .int g13, .int g14, .long g15, g16, g17, g18, g19, .int g20, .int g21, g22, g23, g24, .int g25, g26, .int g27, .int g28, .int g29, .int g30]))]) (As := [.int 1]) (rest := []) X (tX13_refused l dC dI cy h0 0 g1 g2 .null g4 g5 g6 g7 g8 g9 g10 g11 g12 g13 g14 g15 g16 g17 g18 g19 g20 g21 g22 g23 g24 g25 g26 g27 g28 g29 g30 1) kX13_refused vX13_refused mX13_48 hP hD [0] (by decide) rfl 0 (ci := 12) rfl rfl rfl hl rfl rfl (Nat.le_of_ble_eq_true rfl) dX13_reachIn_15 ⟨Nat.le_of_ble_eq_true rfl, Nat.le_of_ble_eq_true rfl⟩ ⟨Nat.le_of_ble_eq_true rfl, Nat.le_of_ble_eq_true rfl⟩) hP hD hS hA [0] [] rfl rfl (by decide) (by decide) (fun r_5 u_7 H locs k_6 hP hD hS => ?_)
  have hP : va_P (dC, dI) vwCl [] H := hP
  have hD : va_D A [] := hD
  have er_5 : r_5 = -1 := k_6
  subst er_5
  exact eI X hr hlocks hP hD hS () [] (by decide) rfl rfl rfl (Nat.le_of_ble_eq_true rfl) (Nat.le_of_ble_eq_true rfl) dX13_reachIn_18
set_option maxHeartbeats 4000000 in
set_option maxRecDepth 100000 in
theorem tX13_minutesTo (l : Launch) (dC : Nat → ClassId) (dI : Nat → Nat → Nat) (cy : Nat → ClassId) (h0 : Nat) (g0 : Int32) (g1 : Int32) (g2 : Int32) (g4 : Value) (g5 : Value) (g6 : Int32) (g7 : Int32) (g8 : Int32) (g9 : Int32) (g10 : Int32) (g11 : Int32) (g12 : Int32) (g13 : Int32) (g14 : Int32) (g15 : Int64) (g16 : Value) (g17 : Value) (g18 : Value) (g19 : Value) (g20 : Int32) (g21 : Int32) (g22 : Value) (g23 : Value) (g24 : Value) (g25 : Int32) (g26 : Value) (g27 : Int32) (g28 : Int32) (g29 : Int32) (g30 : Int32) (p1 : Int32) (p2 : Int32) : ctI l dC dI cy yX13_minutesTo cX13_minutesTo 3 .int ({ frames := 1, cells := 0, slots := 0, locals := 21 }) [.ref h0, .int p1, .int p2] [(h0, .inr (12, [.int g0, .int g1, .int g2, .null, g4, g5, .int g6, .int g7, .int g8, .int g9, .int g10, .int g11, .int g12, .int g13, .int g14, .long g15, g16, g17, g18, g19, .int g20, .int g21, g22, g23, g24, .int g25, g26, .int g27, .int g28, .int g29, .int g30]))] (S := Unit) (fun r _ => r = -1) (fun _ => []) := by
  refine ctI.of (by decide +kernel) (Nat.le_of_ble_eq_true rfl) ?_
  intro p e s m args below meth c A ls X hr hlocks hin hA hP hD hS hl
  have hx := X.1
  have hb := X.2.1
  have hK := X.2.2.2.2.2.1
  have hl : lv_has ls 3 [(0, .ref h0), (1, .int p1), (2, .int p2)] := hl
  refine lv_aload_n hx hb dX13_minutesTo_0 rfl (lv_at hl 0 rfl) ?_
  refine lv_iconst (v := 0) hx hb dX13_minutesTo_1 (by decide) ?_
  refine r_put X kcX13 (ci := 12) rfl hP hD hS 0 rfl 0 (by decide) fX13_42 rfl rfl rfl (Nat.le_of_ble_eq_true rfl) dX13_minutesTo_2 (fun H locs hP hD hS => ?_)
  have hP : va_P (dC, dI) vwCl [(h0, .inr (12, [.int 0, .int g1, .int g2, .null, g4, g5, .int g6, .int g7, .int g8, .int g9, .int g10, .int g11, .int g12, .int g13, .int g14, .long g15, g16, g17, g18, g19, .int g20, .int g21, g22, g23, g24, .int g25, g26, .int g27, .int g28, .int g29, .int g30]))] H := hP
  have hD : va_D A [(h0, .inr (12, [.int 0, .int g1, .int g2, .null, g4, g5, .int g6, .int g7, .int g8, .int g9, .int g10, .int g11, .int g12, .int g13, .int g14, .long g15, g16, g17, g18, g19, .int g20, .int g21, g22, g23, g24, .int g25, g26, .int g27, .int g28, .int g29, .int g30]))] := hD
  refine lv_aload_n hx hb dX13_minutesTo_5 rfl (lv_at hl 0 rfl) ?_
  refine lv_iload_n hx hb dX13_minutesTo_6 rfl (lv_at hl 1 rfl) ?_
  refine fI (wr := []) (rV_I (wc := [(h0, .inr (12, [.int 0, .int g1, .int g2, .null, g4, g5, .int g6, .int g7, .int g8, .int g9, .int g10, .int g11, .int g12, .int g13, .int g14, .long g15, g16, g17, g18, g19, .int g20, .int g21, g22, g23, g24, .int g25, g26, .int g27, .int g28, .int g29, .int g30]))]) (As := [.int p1]) (rest := []) X (tX13_isWalker l dC dI cy h0 0 g1 g2 g4 g5 g6 g7 g8 g9 g10 g11 g12 g13 g14 g15 g16 g17 g18 g19 g20 g21 g22 g23 g24 g25 g26 g27 g28 g29 g30 p1) kX13_isWalker vX13_isWalker mX13_311 hP hD [0] (by decide) rfl 0 (ci := 12) rfl rfl rfl hl rfl rfl (Nat.le_of_ble_eq_true rfl) dX13_minutesTo_7 ⟨Nat.le_of_ble_eq_true rfl, Nat.le_of_ble_eq_true rfl⟩ ⟨Nat.le_of_ble_eq_true rfl, Nat.le_of_ble_eq_true rfl⟩) hP hD hS hA [0] [] rfl rfl (by decide) (by decide) (fun r_1 u_3 H locs k_2 hP hD hS => ?_)
  have hP : va_P (dC, dI) vwCl [(h0, .inr (12, [.int 0, .int g1, .int g2, .null, g4, g5, .int g6, .int g7, .int g8, .int g9, .int g10, .int g11, .int g12, .int g13, .int g14, .long g15, g16, g17, g18, g19, .int g20, .int g21, g22, g23, g24, .int g25, g26, .int g27, .int g28, .int g29, .int g30]))] H := hP
  have hD : va_D A [(h0, .inr (12, [.int 0, .int g1, .int g2, .null, g4, g5, .int g6, .int g7, .int g8, .int g9, .int g10, .int g11, .int g12, .int g13, .int g14, .long g15, g16, g17, g18, g19, .int g20, .int g21, g22, g23, g24, .int g25, g26, .int g27, .int g28, .int g29, .int g30]))] := hD
  have er_1 : r_1 = 0 := k_2
  subst er_1
  refine lv_if_eq (tgt := 21) hx hb dX13_minutesTo_10 (by decide) (fun _ => ?_) (fun h_4 => absurd (by decide) h_4)
  refine lv_aload_n hx hb dX13_minutesTo_21 rfl (lv_at hl 0 rfl) ?_
  refine lv_iconst (v := 1) hx hb dX13_minutesTo_22 (by decide) ?_
  refine fI (wr := []) (rV_I (wc := [(h0, .inr (12, [.int 0, .int g1, .int g2, .null, g4, g5, .int g6, .int g7, .int g8, .int g9, .int g10, .int g11, .int g12, .int g13, .int g14, .long g15, g16, g17, g18, g19, .int g20, .int g21, g22, g23, g24, .int g25, g26, .int g27, .int g28, .int g29, .int g30]))]) (As := [.int 1]) (rest := []) X (tX13_refused l dC dI cy h0 0 g1 g2 .null g4 g5 g6 g7 g8 g9 g10 g11 g12 g13 g14 g15 g16 g17 g18 g19 g20 g21 g22 g23 g24 g25 g26 g27 g28 g29 g30 1) kX13_refused vX13_refused mX13_48 hP hD [0] (by decide) rfl 0 (ci := 12) rfl rfl rfl hl rfl rfl (Nat.le_of_ble_eq_true rfl) dX13_minutesTo_23 ⟨Nat.le_of_ble_eq_true rfl, Nat.le_of_ble_eq_true rfl⟩ ⟨Nat.le_of_ble_eq_true rfl, Nat.le_of_ble_eq_true rfl⟩) hP hD hS hA [0] [] rfl rfl (by decide) (by decide) (fun r_5 u_7 H locs k_6 hP hD hS => ?_)
  have hP : va_P (dC, dI) vwCl [] H := hP
  have hD : va_D A [] := hD
  have er_5 : r_5 = -1 := k_6
  subst er_5
  exact eI X hr hlocks hP hD hS () [] (by decide) rfl rfl rfl (Nat.le_of_ble_eq_true rfl) (Nat.le_of_ble_eq_true rfl) dX13_minutesTo_26
set_option maxHeartbeats 4000000 in
set_option maxRecDepth 100000 in
theorem tX13_latest (l : Launch) (dC : Nat → ClassId) (dI : Nat → Nat → Nat) (cy : Nat → ClassId) (h0 : Nat) (g0 : Int32) (g1 : Int32) (g2 : Int32) (g4 : Value) (g5 : Value) (g6 : Int32) (g7 : Int32) (g8 : Int32) (g9 : Int32) (g10 : Int32) (g11 : Int32) (g12 : Int32) (g13 : Int32) (g14 : Int32) (g15 : Int64) (g16 : Value) (g17 : Value) (g18 : Value) (g19 : Value) (g20 : Int32) (g21 : Int32) (g22 : Value) (g23 : Value) (g24 : Value) (g25 : Int32) (g26 : Value) (g27 : Int32) (g28 : Int32) (g29 : Int32) (g30 : Int32) : ctI l dC dI cy yX13_latest cX13_latest 5 .int ({ frames := 1, cells := 0, slots := 0, locals := 21 }) [.ref h0] [(h0, .inr (12, [.int g0, .int g1, .int g2, .null, g4, g5, .int g6, .int g7, .int g8, .int g9, .int g10, .int g11, .int g12, .int g13, .int g14, .long g15, g16, g17, g18, g19, .int g20, .int g21, g22, g23, g24, .int g25, g26, .int g27, .int g28, .int g29, .int g30]))] (S := Unit) (fun r _ => r = -1) (fun _ => []) := by
  refine ctI.of (by decide +kernel) (Nat.le_of_ble_eq_true rfl) ?_
  intro p e s m args below meth c A ls X hr hlocks hin hA hP hD hS hl
  have hx := X.1
  have hb := X.2.1
  have hK := X.2.2.2.2.2.1
  have hl : lv_has ls 5 [(0, .ref h0)] := hl
  refine lv_aload_n hx hb dX13_latest_0 rfl (lv_at hl 0 rfl) ?_
  refine lv_iconst (v := 0) hx hb dX13_latest_1 (by decide) ?_
  refine r_put X kcX13 (ci := 12) rfl hP hD hS 0 rfl 0 (by decide) fX13_42 rfl rfl rfl (Nat.le_of_ble_eq_true rfl) dX13_latest_2 (fun H locs hP hD hS => ?_)
  have hP : va_P (dC, dI) vwCl [(h0, .inr (12, [.int 0, .int g1, .int g2, .null, g4, g5, .int g6, .int g7, .int g8, .int g9, .int g10, .int g11, .int g12, .int g13, .int g14, .long g15, g16, g17, g18, g19, .int g20, .int g21, g22, g23, g24, .int g25, g26, .int g27, .int g28, .int g29, .int g30]))] H := hP
  have hD : va_D A [(h0, .inr (12, [.int 0, .int g1, .int g2, .null, g4, g5, .int g6, .int g7, .int g8, .int g9, .int g10, .int g11, .int g12, .int g13, .int g14, .long g15, g16, g17, g18, g19, .int g20, .int g21, g22, g23, g24, .int g25, g26, .int g27, .int g28, .int g29, .int g30]))] := hD
  refine lv_aload_n hx hb dX13_latest_5 rfl (lv_at hl 0 rfl) ?_
  refine r_get X kcX13 (ci := 12) rfl hP 0 rfl 3 (by decide) fX13_269 rfl dX13_latest_6 ?_
  refine lv_ifnonnullN hx hb dX13_latest_9 ?_
  refine lv_aload_n hx hb dX13_latest_12 rfl (lv_at hl 0 rfl) ?_
  refine lv_iconst (v := 1) hx hb dX13_latest_13 (by decide) ?_
  refine fI (wr := []) (rV_I (wc := [(h0, .inr (12, [.int 0, .int g1, .int g2, .null, g4, g5, .int g6, .int g7, .int g8, .int g9, .int g10, .int g11, .int g12, .int g13, .int g14, .long g15, g16, g17, g18, g19, .int g20, .int g21, g22, g23, g24, .int g25, g26, .int g27, .int g28, .int g29, .int g30]))]) (As := [.int 1]) (rest := []) X (tX13_refused l dC dI cy h0 0 g1 g2 .null g4 g5 g6 g7 g8 g9 g10 g11 g12 g13 g14 g15 g16 g17 g18 g19 g20 g21 g22 g23 g24 g25 g26 g27 g28 g29 g30 1) kX13_refused vX13_refused mX13_48 hP hD [0] (by decide) rfl 0 (ci := 12) rfl rfl rfl hl rfl rfl (Nat.le_of_ble_eq_true rfl) dX13_latest_14 ⟨Nat.le_of_ble_eq_true rfl, Nat.le_of_ble_eq_true rfl⟩ ⟨Nat.le_of_ble_eq_true rfl, Nat.le_of_ble_eq_true rfl⟩) hP hD hS hA [0] [] rfl rfl (by decide) (by decide) (fun r_1 u_3 H locs k_2 hP hD hS => ?_)
  have hP : va_P (dC, dI) vwCl [] H := hP
  have hD : va_D A [] := hD
  have er_1 : r_1 = -1 := k_2
  subst er_1
  exact eI X hr hlocks hP hD hS () [] (by decide) rfl rfl rfl (Nat.le_of_ble_eq_true rfl) (Nat.le_of_ble_eq_true rfl) dX13_latest_17
set_option maxHeartbeats 4000000 in
set_option maxRecDepth 100000 in
theorem tX13_cut (l : Launch) (dC : Nat → ClassId) (dI : Nat → Nat → Nat) (cy : Nat → ClassId) (h0 : Nat) (g0 : Int32) (g1 : Int32) (g2 : Int32) (g4 : Value) (g5 : Value) (g6 : Int32) (g7 : Int32) (g8 : Int32) (g9 : Int32) (g10 : Int32) (g11 : Int32) (g12 : Int32) (g13 : Int32) (g14 : Int32) (g15 : Int64) (g16 : Value) (g17 : Value) (g18 : Value) (g19 : Value) (g20 : Int32) (g21 : Int32) (g22 : Value) (g23 : Value) (g24 : Value) (g25 : Int32) (g26 : Value) (g27 : Int32) (g28 : Int32) (g29 : Int32) (g30 : Int32) (p1 : Int32) : ctI l dC dI cy yX13_cut cX13_cut 3 .int ({ frames := 1, cells := 0, slots := 0, locals := 21 }) [.ref h0, .int p1] [(h0, .inr (12, [.int g0, .int g1, .int g2, .null, g4, g5, .int g6, .int g7, .int g8, .int g9, .int g10, .int g11, .int g12, .int g13, .int g14, .long g15, g16, g17, g18, g19, .int g20, .int g21, g22, g23, g24, .int g25, g26, .int g27, .int g28, .int g29, .int g30]))] (S := Unit) (fun r _ => r = -1) (fun _ => []) := by
  refine ctI.of (by decide +kernel) (Nat.le_of_ble_eq_true rfl) ?_
  intro p e s m args below meth c A ls X hr hlocks hin hA hP hD hS hl
  have hx := X.1
  have hb := X.2.1
  have hK := X.2.2.2.2.2.1
  have hl : lv_has ls 3 [(0, .ref h0), (1, .int p1)] := hl
  refine lv_aload_n hx hb dX13_cut_0 rfl (lv_at hl 0 rfl) ?_
  refine lv_iconst (v := 0) hx hb dX13_cut_1 (by decide) ?_
  refine r_put X kcX13 (ci := 12) rfl hP hD hS 0 rfl 0 (by decide) fX13_42 rfl rfl rfl (Nat.le_of_ble_eq_true rfl) dX13_cut_2 (fun H locs hP hD hS => ?_)
  have hP : va_P (dC, dI) vwCl [(h0, .inr (12, [.int 0, .int g1, .int g2, .null, g4, g5, .int g6, .int g7, .int g8, .int g9, .int g10, .int g11, .int g12, .int g13, .int g14, .long g15, g16, g17, g18, g19, .int g20, .int g21, g22, g23, g24, .int g25, g26, .int g27, .int g28, .int g29, .int g30]))] H := hP
  have hD : va_D A [(h0, .inr (12, [.int 0, .int g1, .int g2, .null, g4, g5, .int g6, .int g7, .int g8, .int g9, .int g10, .int g11, .int g12, .int g13, .int g14, .long g15, g16, g17, g18, g19, .int g20, .int g21, g22, g23, g24, .int g25, g26, .int g27, .int g28, .int g29, .int g30]))] := hD
  refine lv_aload_n hx hb dX13_cut_5 rfl (lv_at hl 0 rfl) ?_
  refine lv_iload_n hx hb dX13_cut_6 rfl (lv_at hl 1 rfl) ?_
  refine fI (wr := []) (rV_I (wc := [(h0, .inr (12, [.int 0, .int g1, .int g2, .null, g4, g5, .int g6, .int g7, .int g8, .int g9, .int g10, .int g11, .int g12, .int g13, .int g14, .long g15, g16, g17, g18, g19, .int g20, .int g21, g22, g23, g24, .int g25, g26, .int g27, .int g28, .int g29, .int g30]))]) (As := [.int p1]) (rest := []) X (tX13_isWalker l dC dI cy h0 0 g1 g2 g4 g5 g6 g7 g8 g9 g10 g11 g12 g13 g14 g15 g16 g17 g18 g19 g20 g21 g22 g23 g24 g25 g26 g27 g28 g29 g30 p1) kX13_isWalker vX13_isWalker mX13_311 hP hD [0] (by decide) rfl 0 (ci := 12) rfl rfl rfl hl rfl rfl (Nat.le_of_ble_eq_true rfl) dX13_cut_7 ⟨Nat.le_of_ble_eq_true rfl, Nat.le_of_ble_eq_true rfl⟩ ⟨Nat.le_of_ble_eq_true rfl, Nat.le_of_ble_eq_true rfl⟩) hP hD hS hA [0] [] rfl rfl (by decide) (by decide) (fun r_1 u_3 H locs k_2 hP hD hS => ?_)
  have hP : va_P (dC, dI) vwCl [(h0, .inr (12, [.int 0, .int g1, .int g2, .null, g4, g5, .int g6, .int g7, .int g8, .int g9, .int g10, .int g11, .int g12, .int g13, .int g14, .long g15, g16, g17, g18, g19, .int g20, .int g21, g22, g23, g24, .int g25, g26, .int g27, .int g28, .int g29, .int g30]))] H := hP
  have hD : va_D A [(h0, .inr (12, [.int 0, .int g1, .int g2, .null, g4, g5, .int g6, .int g7, .int g8, .int g9, .int g10, .int g11, .int g12, .int g13, .int g14, .long g15, g16, g17, g18, g19, .int g20, .int g21, g22, g23, g24, .int g25, g26, .int g27, .int g28, .int g29, .int g30]))] := hD
  have er_1 : r_1 = 0 := k_2
  subst er_1
  refine lv_if_ne (tgt := 19) hx hb dX13_cut_10 (by decide) (fun h_4 => absurd (by decide) h_4) (fun _ => ?_)
  refine lv_aload_n hx hb dX13_cut_13 rfl (lv_at hl 0 rfl) ?_
  refine lv_iconst (v := 1) hx hb dX13_cut_14 (by decide) ?_
  refine fI (wr := []) (rV_I (wc := [(h0, .inr (12, [.int 0, .int g1, .int g2, .null, g4, g5, .int g6, .int g7, .int g8, .int g9, .int g10, .int g11, .int g12, .int g13, .int g14, .long g15, g16, g17, g18, g19, .int g20, .int g21, g22, g23, g24, .int g25, g26, .int g27, .int g28, .int g29, .int g30]))]) (As := [.int 1]) (rest := []) X (tX13_refused l dC dI cy h0 0 g1 g2 .null g4 g5 g6 g7 g8 g9 g10 g11 g12 g13 g14 g15 g16 g17 g18 g19 g20 g21 g22 g23 g24 g25 g26 g27 g28 g29 g30 1) kX13_refused vX13_refused mX13_48 hP hD [0] (by decide) rfl 0 (ci := 12) rfl rfl rfl hl rfl rfl (Nat.le_of_ble_eq_true rfl) dX13_cut_15 ⟨Nat.le_of_ble_eq_true rfl, Nat.le_of_ble_eq_true rfl⟩ ⟨Nat.le_of_ble_eq_true rfl, Nat.le_of_ble_eq_true rfl⟩) hP hD hS hA [0] [] rfl rfl (by decide) (by decide) (fun r_5 u_7 H locs k_6 hP hD hS => ?_)
  have hP : va_P (dC, dI) vwCl [] H := hP
  have hD : va_D A [] := hD
  have er_5 : r_5 = -1 := k_6
  subst er_5
  exact eI X hr hlocks hP hD hS () [] (by decide) rfl rfl rfl (Nat.le_of_ble_eq_true rfl) (Nat.le_of_ble_eq_true rfl) dX13_cut_18
set_option maxHeartbeats 4000000 in
set_option maxRecDepth 100000 in
theorem tX13_gates (l : Launch) (dC : Nat → ClassId) (dI : Nat → Nat → Nat) (cy : Nat → ClassId) (h0 : Nat) (g0 : Int32) (g1 : Int32) (g2 : Int32) (g4 : Value) (g5 : Value) (g6 : Int32) (g7 : Int32) (g8 : Int32) (g9 : Int32) (g10 : Int32) (g11 : Int32) (g12 : Int32) (g13 : Int32) (g14 : Int32) (g15 : Int64) (g16 : Value) (g17 : Value) (g18 : Value) (g19 : Value) (g20 : Int32) (g21 : Int32) (g22 : Value) (g23 : Value) (g24 : Value) (g25 : Int32) (g26 : Value) (g27 : Int32) (g28 : Int32) (g29 : Int32) (g30 : Int32) : ctI l dC dI cy yX13_gates cX13_gates 1 .int ({ frames := 1, cells := 0, slots := 0, locals := 21 }) [.ref h0] [(h0, .inr (12, [.int g0, .int g1, .int g2, .null, g4, g5, .int g6, .int g7, .int g8, .int g9, .int g10, .int g11, .int g12, .int g13, .int g14, .long g15, g16, g17, g18, g19, .int g20, .int g21, g22, g23, g24, .int g25, g26, .int g27, .int g28, .int g29, .int g30]))] (S := Unit) (fun r _ => r = -1) (fun _ => []) := by
  refine ctI.of (by decide +kernel) (Nat.le_of_ble_eq_true rfl) ?_
  intro p e s m args below meth c A ls X hr hlocks hin hA hP hD hS hl
  have hx := X.1
  have hb := X.2.1
  have hK := X.2.2.2.2.2.1
  have hl : lv_has ls 1 [(0, .ref h0)] := hl
  refine lv_aload_n hx hb dX13_gates_0 rfl (lv_at hl 0 rfl) ?_
  refine lv_iconst (v := 0) hx hb dX13_gates_1 (by decide) ?_
  refine r_put X kcX13 (ci := 12) rfl hP hD hS 0 rfl 0 (by decide) fX13_42 rfl rfl rfl (Nat.le_of_ble_eq_true rfl) dX13_gates_2 (fun H locs hP hD hS => ?_)
  have hP : va_P (dC, dI) vwCl [(h0, .inr (12, [.int 0, .int g1, .int g2, .null, g4, g5, .int g6, .int g7, .int g8, .int g9, .int g10, .int g11, .int g12, .int g13, .int g14, .long g15, g16, g17, g18, g19, .int g20, .int g21, g22, g23, g24, .int g25, g26, .int g27, .int g28, .int g29, .int g30]))] H := hP
  have hD : va_D A [(h0, .inr (12, [.int 0, .int g1, .int g2, .null, g4, g5, .int g6, .int g7, .int g8, .int g9, .int g10, .int g11, .int g12, .int g13, .int g14, .long g15, g16, g17, g18, g19, .int g20, .int g21, g22, g23, g24, .int g25, g26, .int g27, .int g28, .int g29, .int g30]))] := hD
  refine lv_aload_n hx hb dX13_gates_5 rfl (lv_at hl 0 rfl) ?_
  refine r_get X kcX13 (ci := 12) rfl hP 0 rfl 3 (by decide) fX13_269 rfl dX13_gates_6 ?_
  refine lv_ifnonnullN hx hb dX13_gates_9 ?_
  refine lv_aload_n hx hb dX13_gates_12 rfl (lv_at hl 0 rfl) ?_
  refine lv_iconst (v := 1) hx hb dX13_gates_13 (by decide) ?_
  refine fI (wr := []) (rV_I (wc := [(h0, .inr (12, [.int 0, .int g1, .int g2, .null, g4, g5, .int g6, .int g7, .int g8, .int g9, .int g10, .int g11, .int g12, .int g13, .int g14, .long g15, g16, g17, g18, g19, .int g20, .int g21, g22, g23, g24, .int g25, g26, .int g27, .int g28, .int g29, .int g30]))]) (As := [.int 1]) (rest := []) X (tX13_refused l dC dI cy h0 0 g1 g2 .null g4 g5 g6 g7 g8 g9 g10 g11 g12 g13 g14 g15 g16 g17 g18 g19 g20 g21 g22 g23 g24 g25 g26 g27 g28 g29 g30 1) kX13_refused vX13_refused mX13_48 hP hD [0] (by decide) rfl 0 (ci := 12) rfl rfl rfl hl rfl rfl (Nat.le_of_ble_eq_true rfl) dX13_gates_14 ⟨Nat.le_of_ble_eq_true rfl, Nat.le_of_ble_eq_true rfl⟩ ⟨Nat.le_of_ble_eq_true rfl, Nat.le_of_ble_eq_true rfl⟩) hP hD hS hA [0] [] rfl rfl (by decide) (by decide) (fun r_1 u_3 H locs k_2 hP hD hS => ?_)
  have hP : va_P (dC, dI) vwCl [] H := hP
  have hD : va_D A [] := hD
  have er_1 : r_1 = -1 := k_2
  subst er_1
  exact eI X hr hlocks hP hD hS () [] (by decide) rfl rfl rfl (Nat.le_of_ble_eq_true rfl) (Nat.le_of_ble_eq_true rfl) dX13_gates_17
set_option maxHeartbeats 4000000 in
set_option maxRecDepth 100000 in
theorem tX13_toFill (l : Launch) (dC : Nat → ClassId) (dI : Nat → Nat → Nat) (cy : Nat → ClassId) (h0 : Nat) (g0 : Int32) (g1 : Int32) (g2 : Int32) (g4 : Value) (g5 : Value) (g6 : Int32) (g7 : Int32) (g8 : Int32) (g9 : Int32) (g10 : Int32) (g11 : Int32) (g12 : Int32) (g13 : Int32) (g14 : Int32) (g15 : Int64) (g16 : Value) (g17 : Value) (g18 : Value) (g19 : Value) (g20 : Int32) (g21 : Int32) (g22 : Value) (g23 : Value) (g24 : Value) (g25 : Int32) (g26 : Value) (g27 : Int32) (g28 : Int32) (g29 : Int32) (g30 : Int32) : ctI l dC dI cy yX13_toFill cX13_toFill 7 .int ({ frames := 1, cells := 0, slots := 0, locals := 21 }) [.ref h0] [(h0, .inr (12, [.int g0, .int g1, .int g2, .null, g4, g5, .int g6, .int g7, .int g8, .int g9, .int g10, .int g11, .int g12, .int g13, .int g14, .long g15, g16, g17, g18, g19, .int g20, .int g21, g22, g23, g24, .int g25, g26, .int g27, .int g28, .int g29, .int g30]))] (S := Unit) (fun r _ => r = -1) (fun _ => []) := by
  refine ctI.of (by decide +kernel) (Nat.le_of_ble_eq_true rfl) ?_
  intro p e s m args below meth c A ls X hr hlocks hin hA hP hD hS hl
  have hx := X.1
  have hb := X.2.1
  have hK := X.2.2.2.2.2.1
  have hl : lv_has ls 7 [(0, .ref h0)] := hl
  refine lv_aload_n hx hb dX13_toFill_0 rfl (lv_at hl 0 rfl) ?_
  refine lv_iconst (v := 0) hx hb dX13_toFill_1 (by decide) ?_
  refine r_put X kcX13 (ci := 12) rfl hP hD hS 0 rfl 0 (by decide) fX13_42 rfl rfl rfl (Nat.le_of_ble_eq_true rfl) dX13_toFill_2 (fun H locs hP hD hS => ?_)
  have hP : va_P (dC, dI) vwCl [(h0, .inr (12, [.int 0, .int g1, .int g2, .null, g4, g5, .int g6, .int g7, .int g8, .int g9, .int g10, .int g11, .int g12, .int g13, .int g14, .long g15, g16, g17, g18, g19, .int g20, .int g21, g22, g23, g24, .int g25, g26, .int g27, .int g28, .int g29, .int g30]))] H := hP
  have hD : va_D A [(h0, .inr (12, [.int 0, .int g1, .int g2, .null, g4, g5, .int g6, .int g7, .int g8, .int g9, .int g10, .int g11, .int g12, .int g13, .int g14, .long g15, g16, g17, g18, g19, .int g20, .int g21, g22, g23, g24, .int g25, g26, .int g27, .int g28, .int g29, .int g30]))] := hD
  refine lv_aload_n hx hb dX13_toFill_5 rfl (lv_at hl 0 rfl) ?_
  refine r_get X kcX13 (ci := 12) rfl hP 0 rfl 3 (by decide) fX13_269 rfl dX13_toFill_6 ?_
  refine lv_ifnonnullN hx hb dX13_toFill_9 ?_
  refine lv_aload_n hx hb dX13_toFill_12 rfl (lv_at hl 0 rfl) ?_
  refine lv_iconst (v := 1) hx hb dX13_toFill_13 (by decide) ?_
  refine fI (wr := []) (rV_I (wc := [(h0, .inr (12, [.int 0, .int g1, .int g2, .null, g4, g5, .int g6, .int g7, .int g8, .int g9, .int g10, .int g11, .int g12, .int g13, .int g14, .long g15, g16, g17, g18, g19, .int g20, .int g21, g22, g23, g24, .int g25, g26, .int g27, .int g28, .int g29, .int g30]))]) (As := [.int 1]) (rest := []) X (tX13_refused l dC dI cy h0 0 g1 g2 .null g4 g5 g6 g7 g8 g9 g10 g11 g12 g13 g14 g15 g16 g17 g18 g19 g20 g21 g22 g23 g24 g25 g26 g27 g28 g29 g30 1) kX13_refused vX13_refused mX13_48 hP hD [0] (by decide) rfl 0 (ci := 12) rfl rfl rfl hl rfl rfl (Nat.le_of_ble_eq_true rfl) dX13_toFill_14 ⟨Nat.le_of_ble_eq_true rfl, Nat.le_of_ble_eq_true rfl⟩ ⟨Nat.le_of_ble_eq_true rfl, Nat.le_of_ble_eq_true rfl⟩) hP hD hS hA [0] [] rfl rfl (by decide) (by decide) (fun r_1 u_3 H locs k_2 hP hD hS => ?_)
  have hP : va_P (dC, dI) vwCl [] H := hP
  have hD : va_D A [] := hD
  have er_1 : r_1 = -1 := k_2
  subst er_1
  exact eI X hr hlocks hP hD hS () [] (by decide) rfl rfl rfl (Nat.le_of_ble_eq_true rfl) (Nat.le_of_ble_eq_true rfl) dX13_toFill_17
set_option maxHeartbeats 4000000 in
set_option maxRecDepth 100000 in
theorem tX13_trap (l : Launch) (dC : Nat → ClassId) (dI : Nat → Nat → Nat) (cy : Nat → ClassId) (h0 : Nat) (g0 : Int32) (g1 : Int32) (g2 : Int32) (g4 : Value) (g5 : Value) (g6 : Int32) (g7 : Int32) (g8 : Int32) (g9 : Int32) (g10 : Int32) (g11 : Int32) (g12 : Int32) (g13 : Int32) (g14 : Int32) (g15 : Int64) (g16 : Value) (g17 : Value) (g18 : Value) (g19 : Value) (g20 : Int32) (g21 : Int32) (g22 : Value) (g23 : Value) (g24 : Value) (g25 : Int32) (g26 : Value) (g27 : Int32) (g28 : Int32) (g29 : Int32) (g30 : Int32) : ctI l dC dI cy yX13_trap cX13_trap 6 .int ({ frames := 1, cells := 0, slots := 0, locals := 21 }) [.ref h0] [(h0, .inr (12, [.int g0, .int g1, .int g2, .null, g4, g5, .int g6, .int g7, .int g8, .int g9, .int g10, .int g11, .int g12, .int g13, .int g14, .long g15, g16, g17, g18, g19, .int g20, .int g21, g22, g23, g24, .int g25, g26, .int g27, .int g28, .int g29, .int g30]))] (S := Unit) (fun r _ => r = -1) (fun _ => []) := by
  refine ctI.of (by decide +kernel) (Nat.le_of_ble_eq_true rfl) ?_
  intro p e s m args below meth c A ls X hr hlocks hin hA hP hD hS hl
  have hx := X.1
  have hb := X.2.1
  have hK := X.2.2.2.2.2.1
  have hl : lv_has ls 6 [(0, .ref h0)] := hl
  refine lv_aload_n hx hb dX13_trap_0 rfl (lv_at hl 0 rfl) ?_
  refine lv_iconst (v := 0) hx hb dX13_trap_1 (by decide) ?_
  refine r_put X kcX13 (ci := 12) rfl hP hD hS 0 rfl 0 (by decide) fX13_42 rfl rfl rfl (Nat.le_of_ble_eq_true rfl) dX13_trap_2 (fun H locs hP hD hS => ?_)
  have hP : va_P (dC, dI) vwCl [(h0, .inr (12, [.int 0, .int g1, .int g2, .null, g4, g5, .int g6, .int g7, .int g8, .int g9, .int g10, .int g11, .int g12, .int g13, .int g14, .long g15, g16, g17, g18, g19, .int g20, .int g21, g22, g23, g24, .int g25, g26, .int g27, .int g28, .int g29, .int g30]))] H := hP
  have hD : va_D A [(h0, .inr (12, [.int 0, .int g1, .int g2, .null, g4, g5, .int g6, .int g7, .int g8, .int g9, .int g10, .int g11, .int g12, .int g13, .int g14, .long g15, g16, g17, g18, g19, .int g20, .int g21, g22, g23, g24, .int g25, g26, .int g27, .int g28, .int g29, .int g30]))] := hD
  refine lv_aload_n hx hb dX13_trap_5 rfl (lv_at hl 0 rfl) ?_
  refine r_get X kcX13 (ci := 12) rfl hP 0 rfl 3 (by decide) fX13_269 rfl dX13_trap_6 ?_
  refine lv_ifnonnullN hx hb dX13_trap_9 ?_
  refine lv_aload_n hx hb dX13_trap_12 rfl (lv_at hl 0 rfl) ?_
  refine lv_iconst (v := 1) hx hb dX13_trap_13 (by decide) ?_
  refine fI (wr := []) (rV_I (wc := [(h0, .inr (12, [.int 0, .int g1, .int g2, .null, g4, g5, .int g6, .int g7, .int g8, .int g9, .int g10, .int g11, .int g12, .int g13, .int g14, .long g15, g16, g17, g18, g19, .int g20, .int g21, g22, g23, g24, .int g25, g26, .int g27, .int g28, .int g29, .int g30]))]) (As := [.int 1]) (rest := []) X (tX13_refused l dC dI cy h0 0 g1 g2 .null g4 g5 g6 g7 g8 g9 g10 g11 g12 g13 g14 g15 g16 g17 g18 g19 g20 g21 g22 g23 g24 g25 g26 g27 g28 g29 g30 1) kX13_refused vX13_refused mX13_48 hP hD [0] (by decide) rfl 0 (ci := 12) rfl rfl rfl hl rfl rfl (Nat.le_of_ble_eq_true rfl) dX13_trap_14 ⟨Nat.le_of_ble_eq_true rfl, Nat.le_of_ble_eq_true rfl⟩ ⟨Nat.le_of_ble_eq_true rfl, Nat.le_of_ble_eq_true rfl⟩) hP hD hS hA [0] [] rfl rfl (by decide) (by decide) (fun r_1 u_3 H locs k_2 hP hD hS => ?_)
  have hP : va_P (dC, dI) vwCl [] H := hP
  have hD : va_D A [] := hD
  have er_1 : r_1 = -1 := k_2
  subst er_1
  exact eI X hr hlocks hP hD hS () [] (by decide) rfl rfl rfl (Nat.le_of_ble_eq_true rfl) (Nat.le_of_ble_eq_true rfl) dX13_trap_17
set_option maxHeartbeats 4000000 in
set_option maxRecDepth 100000 in
theorem tX13_meet (l : Launch) (dC : Nat → ClassId) (dI : Nat → Nat → Nat) (cy : Nat → ClassId) (h0 : Nat) (g0 : Int32) (g1 : Int32) (g2 : Int32) (g4 : Value) (g5 : Value) (g6 : Int32) (g7 : Int32) (g8 : Int32) (g9 : Int32) (g10 : Int32) (g11 : Int32) (g12 : Int32) (g13 : Int32) (g14 : Int32) (g15 : Int64) (g16 : Value) (g17 : Value) (g18 : Value) (g19 : Value) (g20 : Int32) (g21 : Int32) (g22 : Value) (g23 : Value) (g24 : Value) (g25 : Int32) (g26 : Value) (g27 : Int32) (g28 : Int32) (g29 : Int32) (g30 : Int32) (p1 : Int32) (p2 : Int32) : ctI l dC dI cy yX13_meet cX13_meet 3 .int ({ frames := 1, cells := 0, slots := 0, locals := 21 }) [.ref h0, .int p1, .int p2] [(h0, .inr (12, [.int g0, .int g1, .int g2, .null, g4, g5, .int g6, .int g7, .int g8, .int g9, .int g10, .int g11, .int g12, .int g13, .int g14, .long g15, g16, g17, g18, g19, .int g20, .int g21, g22, g23, g24, .int g25, g26, .int g27, .int g28, .int g29, .int g30]))] (S := Unit) (fun r _ => r = -1) (fun _ => []) := by
  refine ctI.of (by decide +kernel) (Nat.le_of_ble_eq_true rfl) ?_
  intro p e s m args below meth c A ls X hr hlocks hin hA hP hD hS hl
  have hx := X.1
  have hb := X.2.1
  have hK := X.2.2.2.2.2.1
  have hl : lv_has ls 3 [(0, .ref h0), (1, .int p1), (2, .int p2)] := hl
  refine lv_aload_n hx hb dX13_meet_0 rfl (lv_at hl 0 rfl) ?_
  refine lv_iconst (v := 0) hx hb dX13_meet_1 (by decide) ?_
  refine r_put X kcX13 (ci := 12) rfl hP hD hS 0 rfl 0 (by decide) fX13_42 rfl rfl rfl (Nat.le_of_ble_eq_true rfl) dX13_meet_2 (fun H locs hP hD hS => ?_)
  have hP : va_P (dC, dI) vwCl [(h0, .inr (12, [.int 0, .int g1, .int g2, .null, g4, g5, .int g6, .int g7, .int g8, .int g9, .int g10, .int g11, .int g12, .int g13, .int g14, .long g15, g16, g17, g18, g19, .int g20, .int g21, g22, g23, g24, .int g25, g26, .int g27, .int g28, .int g29, .int g30]))] H := hP
  have hD : va_D A [(h0, .inr (12, [.int 0, .int g1, .int g2, .null, g4, g5, .int g6, .int g7, .int g8, .int g9, .int g10, .int g11, .int g12, .int g13, .int g14, .long g15, g16, g17, g18, g19, .int g20, .int g21, g22, g23, g24, .int g25, g26, .int g27, .int g28, .int g29, .int g30]))] := hD
  refine lv_aload_n hx hb dX13_meet_5 rfl (lv_at hl 0 rfl) ?_
  refine lv_iload_n hx hb dX13_meet_6 rfl (lv_at hl 1 rfl) ?_
  refine fI (wr := []) (rV_I (wc := [(h0, .inr (12, [.int 0, .int g1, .int g2, .null, g4, g5, .int g6, .int g7, .int g8, .int g9, .int g10, .int g11, .int g12, .int g13, .int g14, .long g15, g16, g17, g18, g19, .int g20, .int g21, g22, g23, g24, .int g25, g26, .int g27, .int g28, .int g29, .int g30]))]) (As := [.int p1]) (rest := []) X (tX13_isWalker l dC dI cy h0 0 g1 g2 g4 g5 g6 g7 g8 g9 g10 g11 g12 g13 g14 g15 g16 g17 g18 g19 g20 g21 g22 g23 g24 g25 g26 g27 g28 g29 g30 p1) kX13_isWalker vX13_isWalker mX13_311 hP hD [0] (by decide) rfl 0 (ci := 12) rfl rfl rfl hl rfl rfl (Nat.le_of_ble_eq_true rfl) dX13_meet_7 ⟨Nat.le_of_ble_eq_true rfl, Nat.le_of_ble_eq_true rfl⟩ ⟨Nat.le_of_ble_eq_true rfl, Nat.le_of_ble_eq_true rfl⟩) hP hD hS hA [0] [] rfl rfl (by decide) (by decide) (fun r_1 u_3 H locs k_2 hP hD hS => ?_)
  have hP : va_P (dC, dI) vwCl [(h0, .inr (12, [.int 0, .int g1, .int g2, .null, g4, g5, .int g6, .int g7, .int g8, .int g9, .int g10, .int g11, .int g12, .int g13, .int g14, .long g15, g16, g17, g18, g19, .int g20, .int g21, g22, g23, g24, .int g25, g26, .int g27, .int g28, .int g29, .int g30]))] H := hP
  have hD : va_D A [(h0, .inr (12, [.int 0, .int g1, .int g2, .null, g4, g5, .int g6, .int g7, .int g8, .int g9, .int g10, .int g11, .int g12, .int g13, .int g14, .long g15, g16, g17, g18, g19, .int g20, .int g21, g22, g23, g24, .int g25, g26, .int g27, .int g28, .int g29, .int g30]))] := hD
  have er_1 : r_1 = 0 := k_2
  subst er_1
  refine lv_if_eq (tgt := 39) hx hb dX13_meet_10 (by decide) (fun _ => ?_) (fun h_4 => absurd (by decide) h_4)
  refine lv_aload_n hx hb dX13_meet_39 rfl (lv_at hl 0 rfl) ?_
  refine lv_iconst (v := 1) hx hb dX13_meet_40 (by decide) ?_
  refine fI (wr := []) (rV_I (wc := [(h0, .inr (12, [.int 0, .int g1, .int g2, .null, g4, g5, .int g6, .int g7, .int g8, .int g9, .int g10, .int g11, .int g12, .int g13, .int g14, .long g15, g16, g17, g18, g19, .int g20, .int g21, g22, g23, g24, .int g25, g26, .int g27, .int g28, .int g29, .int g30]))]) (As := [.int 1]) (rest := []) X (tX13_refused l dC dI cy h0 0 g1 g2 .null g4 g5 g6 g7 g8 g9 g10 g11 g12 g13 g14 g15 g16 g17 g18 g19 g20 g21 g22 g23 g24 g25 g26 g27 g28 g29 g30 1) kX13_refused vX13_refused mX13_48 hP hD [0] (by decide) rfl 0 (ci := 12) rfl rfl rfl hl rfl rfl (Nat.le_of_ble_eq_true rfl) dX13_meet_41 ⟨Nat.le_of_ble_eq_true rfl, Nat.le_of_ble_eq_true rfl⟩ ⟨Nat.le_of_ble_eq_true rfl, Nat.le_of_ble_eq_true rfl⟩) hP hD hS hA [0] [] rfl rfl (by decide) (by decide) (fun r_5 u_7 H locs k_6 hP hD hS => ?_)
  have hP : va_P (dC, dI) vwCl [] H := hP
  have hD : va_D A [] := hD
  have er_5 : r_5 = -1 := k_6
  subst er_5
  exact eI X hr hlocks hP hD hS () [] (by decide) rfl rfl rfl (Nat.le_of_ble_eq_true rfl) (Nat.le_of_ble_eq_true rfl) dX13_meet_44
set_option maxHeartbeats 4000000 in
set_option maxRecDepth 100000 in
theorem tX13_meetAt (l : Launch) (dC : Nat → ClassId) (dI : Nat → Nat → Nat) (cy : Nat → ClassId) (h0 : Nat) (g0 : Int32) (g1 : Int32) (g2 : Int32) (g4 : Value) (g5 : Value) (g6 : Int32) (g7 : Int32) (g8 : Int32) (g9 : Int32) (g10 : Int32) (g11 : Int32) (g12 : Int32) (g13 : Int32) (g14 : Int32) (g15 : Int64) (g16 : Value) (g17 : Value) (g18 : Value) (g19 : Value) (g20 : Int32) (g21 : Int32) (g22 : Value) (g23 : Value) (g24 : Value) (g25 : Int32) (g26 : Value) (g27 : Int32) (g28 : Int32) (g29 : Int32) (g30 : Int32) (p1 : Int32) (p2 : Int32) : ctI l dC dI cy yX13_meetAt cX13_meetAt 4 .int ({ frames := 1, cells := 0, slots := 0, locals := 21 }) [.ref h0, .int p1, .int p2] [(h0, .inr (12, [.int g0, .int g1, .int g2, .null, g4, g5, .int g6, .int g7, .int g8, .int g9, .int g10, .int g11, .int g12, .int g13, .int g14, .long g15, g16, g17, g18, g19, .int g20, .int g21, g22, g23, g24, .int g25, g26, .int g27, .int g28, .int g29, .int g30]))] (S := Unit) (fun r _ => r = -1) (fun _ => []) := by
  refine ctI.of (by decide +kernel) (Nat.le_of_ble_eq_true rfl) ?_
  intro p e s m args below meth c A ls X hr hlocks hin hA hP hD hS hl
  have hx := X.1
  have hb := X.2.1
  have hK := X.2.2.2.2.2.1
  have hl : lv_has ls 4 [(0, .ref h0), (1, .int p1), (2, .int p2)] := hl
  refine lv_aload_n hx hb dX13_meetAt_0 rfl (lv_at hl 0 rfl) ?_
  refine lv_iconst (v := 0) hx hb dX13_meetAt_1 (by decide) ?_
  refine r_put X kcX13 (ci := 12) rfl hP hD hS 0 rfl 0 (by decide) fX13_42 rfl rfl rfl (Nat.le_of_ble_eq_true rfl) dX13_meetAt_2 (fun H locs hP hD hS => ?_)
  have hP : va_P (dC, dI) vwCl [(h0, .inr (12, [.int 0, .int g1, .int g2, .null, g4, g5, .int g6, .int g7, .int g8, .int g9, .int g10, .int g11, .int g12, .int g13, .int g14, .long g15, g16, g17, g18, g19, .int g20, .int g21, g22, g23, g24, .int g25, g26, .int g27, .int g28, .int g29, .int g30]))] H := hP
  have hD : va_D A [(h0, .inr (12, [.int 0, .int g1, .int g2, .null, g4, g5, .int g6, .int g7, .int g8, .int g9, .int g10, .int g11, .int g12, .int g13, .int g14, .long g15, g16, g17, g18, g19, .int g20, .int g21, g22, g23, g24, .int g25, g26, .int g27, .int g28, .int g29, .int g30]))] := hD
  refine lv_aload_n hx hb dX13_meetAt_5 rfl (lv_at hl 0 rfl) ?_
  refine lv_iload_n hx hb dX13_meetAt_6 rfl (lv_at hl 1 rfl) ?_
  refine fI (wr := []) (rV_I (wc := [(h0, .inr (12, [.int 0, .int g1, .int g2, .null, g4, g5, .int g6, .int g7, .int g8, .int g9, .int g10, .int g11, .int g12, .int g13, .int g14, .long g15, g16, g17, g18, g19, .int g20, .int g21, g22, g23, g24, .int g25, g26, .int g27, .int g28, .int g29, .int g30]))]) (As := [.int p1]) (rest := []) X (tX13_isWalker l dC dI cy h0 0 g1 g2 g4 g5 g6 g7 g8 g9 g10 g11 g12 g13 g14 g15 g16 g17 g18 g19 g20 g21 g22 g23 g24 g25 g26 g27 g28 g29 g30 p1) kX13_isWalker vX13_isWalker mX13_311 hP hD [0] (by decide) rfl 0 (ci := 12) rfl rfl rfl hl rfl rfl (Nat.le_of_ble_eq_true rfl) dX13_meetAt_7 ⟨Nat.le_of_ble_eq_true rfl, Nat.le_of_ble_eq_true rfl⟩ ⟨Nat.le_of_ble_eq_true rfl, Nat.le_of_ble_eq_true rfl⟩) hP hD hS hA [0] [] rfl rfl (by decide) (by decide) (fun r_1 u_3 H locs k_2 hP hD hS => ?_)
  have hP : va_P (dC, dI) vwCl [(h0, .inr (12, [.int 0, .int g1, .int g2, .null, g4, g5, .int g6, .int g7, .int g8, .int g9, .int g10, .int g11, .int g12, .int g13, .int g14, .long g15, g16, g17, g18, g19, .int g20, .int g21, g22, g23, g24, .int g25, g26, .int g27, .int g28, .int g29, .int g30]))] H := hP
  have hD : va_D A [(h0, .inr (12, [.int 0, .int g1, .int g2, .null, g4, g5, .int g6, .int g7, .int g8, .int g9, .int g10, .int g11, .int g12, .int g13, .int g14, .long g15, g16, g17, g18, g19, .int g20, .int g21, g22, g23, g24, .int g25, g26, .int g27, .int g28, .int g29, .int g30]))] := hD
  have er_1 : r_1 = 0 := k_2
  subst er_1
  refine lv_if_eq (tgt := 26) hx hb dX13_meetAt_10 (by decide) (fun _ => ?_) (fun h_4 => absurd (by decide) h_4)
  refine lv_aload_n hx hb dX13_meetAt_26 rfl (lv_at hl 0 rfl) ?_
  refine lv_iconst (v := 1) hx hb dX13_meetAt_27 (by decide) ?_
  refine fI (wr := []) (rV_I (wc := [(h0, .inr (12, [.int 0, .int g1, .int g2, .null, g4, g5, .int g6, .int g7, .int g8, .int g9, .int g10, .int g11, .int g12, .int g13, .int g14, .long g15, g16, g17, g18, g19, .int g20, .int g21, g22, g23, g24, .int g25, g26, .int g27, .int g28, .int g29, .int g30]))]) (As := [.int 1]) (rest := []) X (tX13_refused l dC dI cy h0 0 g1 g2 .null g4 g5 g6 g7 g8 g9 g10 g11 g12 g13 g14 g15 g16 g17 g18 g19 g20 g21 g22 g23 g24 g25 g26 g27 g28 g29 g30 1) kX13_refused vX13_refused mX13_48 hP hD [0] (by decide) rfl 0 (ci := 12) rfl rfl rfl hl rfl rfl (Nat.le_of_ble_eq_true rfl) dX13_meetAt_28 ⟨Nat.le_of_ble_eq_true rfl, Nat.le_of_ble_eq_true rfl⟩ ⟨Nat.le_of_ble_eq_true rfl, Nat.le_of_ble_eq_true rfl⟩) hP hD hS hA [0] [] rfl rfl (by decide) (by decide) (fun r_5 u_7 H locs k_6 hP hD hS => ?_)
  have hP : va_P (dC, dI) vwCl [] H := hP
  have hD : va_D A [] := hD
  have er_5 : r_5 = -1 := k_6
  subst er_5
  exact eI X hr hlocks hP hD hS () [] (by decide) rfl rfl rfl (Nat.le_of_ble_eq_true rfl) (Nat.le_of_ble_eq_true rfl) dX13_meetAt_31
set_option maxHeartbeats 4000000 in
set_option maxRecDepth 100000 in
theorem tX13_passers (l : Launch) (dC : Nat → ClassId) (dI : Nat → Nat → Nat) (cy : Nat → ClassId) (h0 : Nat) (g0 : Int32) (g1 : Int32) (g2 : Int32) (g4 : Value) (g5 : Value) (g6 : Int32) (g7 : Int32) (g8 : Int32) (g9 : Int32) (g10 : Int32) (g11 : Int32) (g12 : Int32) (g13 : Int32) (g14 : Int32) (g15 : Int64) (g16 : Value) (g17 : Value) (g18 : Value) (g19 : Value) (g20 : Int32) (g21 : Int32) (g22 : Value) (g23 : Value) (g24 : Value) (g25 : Int32) (g26 : Value) (g27 : Int32) (g28 : Int32) (g29 : Int32) (g30 : Int32) (p1 : Int32) : ctI l dC dI cy yX13_passers cX13_passers 5 .int ({ frames := 1, cells := 0, slots := 0, locals := 21 }) [.ref h0, .int p1] [(h0, .inr (12, [.int g0, .int g1, .int g2, .null, g4, g5, .int g6, .int g7, .int g8, .int g9, .int g10, .int g11, .int g12, .int g13, .int g14, .long g15, g16, g17, g18, g19, .int g20, .int g21, g22, g23, g24, .int g25, g26, .int g27, .int g28, .int g29, .int g30]))] (S := Unit) (fun r _ => r = -1) (fun _ => []) := by
  refine ctI.of (by decide +kernel) (Nat.le_of_ble_eq_true rfl) ?_
  intro p e s m args below meth c A ls X hr hlocks hin hA hP hD hS hl
  have hx := X.1
  have hb := X.2.1
  have hK := X.2.2.2.2.2.1
  have hl : lv_has ls 5 [(0, .ref h0), (1, .int p1)] := hl
  refine lv_aload_n hx hb dX13_passers_0 rfl (lv_at hl 0 rfl) ?_
  refine lv_iconst (v := 0) hx hb dX13_passers_1 (by decide) ?_
  refine r_put X kcX13 (ci := 12) rfl hP hD hS 0 rfl 0 (by decide) fX13_42 rfl rfl rfl (Nat.le_of_ble_eq_true rfl) dX13_passers_2 (fun H locs hP hD hS => ?_)
  have hP : va_P (dC, dI) vwCl [(h0, .inr (12, [.int 0, .int g1, .int g2, .null, g4, g5, .int g6, .int g7, .int g8, .int g9, .int g10, .int g11, .int g12, .int g13, .int g14, .long g15, g16, g17, g18, g19, .int g20, .int g21, g22, g23, g24, .int g25, g26, .int g27, .int g28, .int g29, .int g30]))] H := hP
  have hD : va_D A [(h0, .inr (12, [.int 0, .int g1, .int g2, .null, g4, g5, .int g6, .int g7, .int g8, .int g9, .int g10, .int g11, .int g12, .int g13, .int g14, .long g15, g16, g17, g18, g19, .int g20, .int g21, g22, g23, g24, .int g25, g26, .int g27, .int g28, .int g29, .int g30]))] := hD
  refine lv_aload_n hx hb dX13_passers_5 rfl (lv_at hl 0 rfl) ?_
  refine lv_iload_n hx hb dX13_passers_6 rfl (lv_at hl 1 rfl) ?_
  refine fI (wr := []) (rV_I (wc := [(h0, .inr (12, [.int 0, .int g1, .int g2, .null, g4, g5, .int g6, .int g7, .int g8, .int g9, .int g10, .int g11, .int g12, .int g13, .int g14, .long g15, g16, g17, g18, g19, .int g20, .int g21, g22, g23, g24, .int g25, g26, .int g27, .int g28, .int g29, .int g30]))]) (As := [.int p1]) (rest := []) X (tX13_isPlace l dC dI cy h0 0 g1 g2 g4 g5 g6 g7 g8 g9 g10 g11 g12 g13 g14 g15 g16 g17 g18 g19 g20 g21 g22 g23 g24 g25 g26 g27 g28 g29 g30 p1) kX13_isPlace vX13_isPlace mX13_302 hP hD [0] (by decide) rfl 0 (ci := 12) rfl rfl rfl hl rfl rfl (Nat.le_of_ble_eq_true rfl) dX13_passers_7 ⟨Nat.le_of_ble_eq_true rfl, Nat.le_of_ble_eq_true rfl⟩ ⟨Nat.le_of_ble_eq_true rfl, Nat.le_of_ble_eq_true rfl⟩) hP hD hS hA [0] [] rfl rfl (by decide) (by decide) (fun r_1 u_3 H locs k_2 hP hD hS => ?_)
  have hP : va_P (dC, dI) vwCl [(h0, .inr (12, [.int 0, .int g1, .int g2, .null, g4, g5, .int g6, .int g7, .int g8, .int g9, .int g10, .int g11, .int g12, .int g13, .int g14, .long g15, g16, g17, g18, g19, .int g20, .int g21, g22, g23, g24, .int g25, g26, .int g27, .int g28, .int g29, .int g30]))] H := hP
  have hD : va_D A [(h0, .inr (12, [.int 0, .int g1, .int g2, .null, g4, g5, .int g6, .int g7, .int g8, .int g9, .int g10, .int g11, .int g12, .int g13, .int g14, .long g15, g16, g17, g18, g19, .int g20, .int g21, g22, g23, g24, .int g25, g26, .int g27, .int g28, .int g29, .int g30]))] := hD
  have er_1 : r_1 = 0 := k_2
  subst er_1
  refine lv_if_ne (tgt := 19) hx hb dX13_passers_10 (by decide) (fun h_4 => absurd (by decide) h_4) (fun _ => ?_)
  refine lv_aload_n hx hb dX13_passers_13 rfl (lv_at hl 0 rfl) ?_
  refine lv_iconst (v := 1) hx hb dX13_passers_14 (by decide) ?_
  refine fI (wr := []) (rV_I (wc := [(h0, .inr (12, [.int 0, .int g1, .int g2, .null, g4, g5, .int g6, .int g7, .int g8, .int g9, .int g10, .int g11, .int g12, .int g13, .int g14, .long g15, g16, g17, g18, g19, .int g20, .int g21, g22, g23, g24, .int g25, g26, .int g27, .int g28, .int g29, .int g30]))]) (As := [.int 1]) (rest := []) X (tX13_refused l dC dI cy h0 0 g1 g2 .null g4 g5 g6 g7 g8 g9 g10 g11 g12 g13 g14 g15 g16 g17 g18 g19 g20 g21 g22 g23 g24 g25 g26 g27 g28 g29 g30 1) kX13_refused vX13_refused mX13_48 hP hD [0] (by decide) rfl 0 (ci := 12) rfl rfl rfl hl rfl rfl (Nat.le_of_ble_eq_true rfl) dX13_passers_15 ⟨Nat.le_of_ble_eq_true rfl, Nat.le_of_ble_eq_true rfl⟩ ⟨Nat.le_of_ble_eq_true rfl, Nat.le_of_ble_eq_true rfl⟩) hP hD hS hA [0] [] rfl rfl (by decide) (by decide) (fun r_5 u_7 H locs k_6 hP hD hS => ?_)
  have hP : va_P (dC, dI) vwCl [] H := hP
  have hD : va_D A [] := hD
  have er_5 : r_5 = -1 := k_6
  subst er_5
  exact eI X hr hlocks hP hD hS () [] (by decide) rfl rfl rfl (Nat.le_of_ble_eq_true rfl) (Nat.le_of_ble_eq_true rfl) dX13_passers_18
set_option maxHeartbeats 4000000 in
set_option maxRecDepth 100000 in
theorem tX13_fits (l : Launch) (dC : Nat → ClassId) (dI : Nat → Nat → Nat) (cy : Nat → ClassId) (h0 : Nat) (g0 : Int32) (g1 : Int32) (g2 : Int32) (g4 : Value) (g5 : Value) (g6 : Int32) (g7 : Int32) (g8 : Int32) (g9 : Int32) (g10 : Int32) (g11 : Int32) (g12 : Int32) (g13 : Int32) (g14 : Int32) (g15 : Int64) (g16 : Value) (g17 : Value) (g18 : Value) (g19 : Value) (g20 : Int32) (g21 : Int32) (g22 : Value) (g23 : Value) (g24 : Value) (g25 : Int32) (g26 : Value) (g27 : Int32) (g28 : Int32) (g29 : Int32) (g30 : Int32) : ctI l dC dI cy yX13_fits cX13_fits 1 .int ({ frames := 1, cells := 0, slots := 0, locals := 21 }) [.ref h0] [(h0, .inr (12, [.int g0, .int g1, .int g2, .null, g4, g5, .int g6, .int g7, .int g8, .int g9, .int g10, .int g11, .int g12, .int g13, .int g14, .long g15, g16, g17, g18, g19, .int g20, .int g21, g22, g23, g24, .int g25, g26, .int g27, .int g28, .int g29, .int g30]))] (S := Unit) (fun r _ => r = -1) (fun _ => []) := by
  refine ctI.of (by decide +kernel) (Nat.le_of_ble_eq_true rfl) ?_
  intro p e s m args below meth c A ls X hr hlocks hin hA hP hD hS hl
  have hx := X.1
  have hb := X.2.1
  have hK := X.2.2.2.2.2.1
  have hl : lv_has ls 1 [(0, .ref h0)] := hl
  refine lv_aload_n hx hb dX13_fits_0 rfl (lv_at hl 0 rfl) ?_
  refine lv_iconst (v := 0) hx hb dX13_fits_1 (by decide) ?_
  refine r_put X kcX13 (ci := 12) rfl hP hD hS 0 rfl 0 (by decide) fX13_42 rfl rfl rfl (Nat.le_of_ble_eq_true rfl) dX13_fits_2 (fun H locs hP hD hS => ?_)
  have hP : va_P (dC, dI) vwCl [(h0, .inr (12, [.int 0, .int g1, .int g2, .null, g4, g5, .int g6, .int g7, .int g8, .int g9, .int g10, .int g11, .int g12, .int g13, .int g14, .long g15, g16, g17, g18, g19, .int g20, .int g21, g22, g23, g24, .int g25, g26, .int g27, .int g28, .int g29, .int g30]))] H := hP
  have hD : va_D A [(h0, .inr (12, [.int 0, .int g1, .int g2, .null, g4, g5, .int g6, .int g7, .int g8, .int g9, .int g10, .int g11, .int g12, .int g13, .int g14, .long g15, g16, g17, g18, g19, .int g20, .int g21, g22, g23, g24, .int g25, g26, .int g27, .int g28, .int g29, .int g30]))] := hD
  refine lv_aload_n hx hb dX13_fits_5 rfl (lv_at hl 0 rfl) ?_
  refine r_get X kcX13 (ci := 12) rfl hP 0 rfl 3 (by decide) fX13_269 rfl dX13_fits_6 ?_
  refine lv_ifnonnullN hx hb dX13_fits_9 ?_
  refine lv_aload_n hx hb dX13_fits_12 rfl (lv_at hl 0 rfl) ?_
  refine lv_iconst (v := 1) hx hb dX13_fits_13 (by decide) ?_
  refine fI (wr := []) (rV_I (wc := [(h0, .inr (12, [.int 0, .int g1, .int g2, .null, g4, g5, .int g6, .int g7, .int g8, .int g9, .int g10, .int g11, .int g12, .int g13, .int g14, .long g15, g16, g17, g18, g19, .int g20, .int g21, g22, g23, g24, .int g25, g26, .int g27, .int g28, .int g29, .int g30]))]) (As := [.int 1]) (rest := []) X (tX13_refused l dC dI cy h0 0 g1 g2 .null g4 g5 g6 g7 g8 g9 g10 g11 g12 g13 g14 g15 g16 g17 g18 g19 g20 g21 g22 g23 g24 g25 g26 g27 g28 g29 g30 1) kX13_refused vX13_refused mX13_48 hP hD [0] (by decide) rfl 0 (ci := 12) rfl rfl rfl hl rfl rfl (Nat.le_of_ble_eq_true rfl) dX13_fits_14 ⟨Nat.le_of_ble_eq_true rfl, Nat.le_of_ble_eq_true rfl⟩ ⟨Nat.le_of_ble_eq_true rfl, Nat.le_of_ble_eq_true rfl⟩) hP hD hS hA [0] [] rfl rfl (by decide) (by decide) (fun r_1 u_3 H locs k_2 hP hD hS => ?_)
  have hP : va_P (dC, dI) vwCl [] H := hP
  have hD : va_D A [] := hD
  have er_1 : r_1 = -1 := k_2
  subst er_1
  exact eI X hr hlocks hP hD hS () [] (by decide) rfl rfl rfl (Nat.le_of_ble_eq_true rfl) (Nat.le_of_ble_eq_true rfl) dX13_fits_17
set_option maxHeartbeats 4000000 in
set_option maxRecDepth 100000 in
theorem tX13_fitAt (l : Launch) (dC : Nat → ClassId) (dI : Nat → Nat → Nat) (cy : Nat → ClassId) (h0 : Nat) (g0 : Int32) (g1 : Int32) (g2 : Int32) (g4 : Value) (g5 : Value) (g6 : Int32) (g7 : Int32) (g8 : Int32) (g9 : Int32) (g10 : Int32) (g11 : Int32) (g12 : Int32) (g13 : Int32) (g14 : Int32) (g15 : Int64) (g16 : Value) (g17 : Value) (g18 : Value) (g19 : Value) (g20 : Int32) (g21 : Int32) (g22 : Value) (g23 : Value) (g24 : Value) (g25 : Int32) (g26 : Value) (g27 : Int32) (g28 : Int32) (g29 : Int32) (g30 : Int32) (p1 : Int32) : ctI l dC dI cy yX13_fitAt cX13_fitAt 3 .int ({ frames := 1, cells := 0, slots := 0, locals := 21 }) [.ref h0, .int p1] [(h0, .inr (12, [.int g0, .int g1, .int g2, .null, g4, g5, .int g6, .int g7, .int g8, .int g9, .int g10, .int g11, .int g12, .int g13, .int g14, .long g15, g16, g17, g18, g19, .int g20, .int g21, g22, g23, g24, .int g25, g26, .int g27, .int g28, .int g29, .int g30]))] (S := Unit) (fun r _ => r = -1) (fun _ => []) := by
  refine ctI.of (by decide +kernel) (Nat.le_of_ble_eq_true rfl) ?_
  intro p e s m args below meth c A ls X hr hlocks hin hA hP hD hS hl
  have hx := X.1
  have hb := X.2.1
  have hK := X.2.2.2.2.2.1
  have hl : lv_has ls 3 [(0, .ref h0), (1, .int p1)] := hl
  refine lv_aload_n hx hb dX13_fitAt_0 rfl (lv_at hl 0 rfl) ?_
  refine lv_iconst (v := 0) hx hb dX13_fitAt_1 (by decide) ?_
  refine r_put X kcX13 (ci := 12) rfl hP hD hS 0 rfl 0 (by decide) fX13_42 rfl rfl rfl (Nat.le_of_ble_eq_true rfl) dX13_fitAt_2 (fun H locs hP hD hS => ?_)
  have hP : va_P (dC, dI) vwCl [(h0, .inr (12, [.int 0, .int g1, .int g2, .null, g4, g5, .int g6, .int g7, .int g8, .int g9, .int g10, .int g11, .int g12, .int g13, .int g14, .long g15, g16, g17, g18, g19, .int g20, .int g21, g22, g23, g24, .int g25, g26, .int g27, .int g28, .int g29, .int g30]))] H := hP
  have hD : va_D A [(h0, .inr (12, [.int 0, .int g1, .int g2, .null, g4, g5, .int g6, .int g7, .int g8, .int g9, .int g10, .int g11, .int g12, .int g13, .int g14, .long g15, g16, g17, g18, g19, .int g20, .int g21, g22, g23, g24, .int g25, g26, .int g27, .int g28, .int g29, .int g30]))] := hD
  refine lv_aload_n hx hb dX13_fitAt_5 rfl (lv_at hl 0 rfl) ?_
  refine r_get X kcX13 (ci := 12) rfl hP 0 rfl 3 (by decide) fX13_269 rfl dX13_fitAt_6 ?_
  refine lv_ifnullN (tgt := 16) hx hb dX13_fitAt_9 (by decide) ?_
  refine lv_aload_n hx hb dX13_fitAt_16 rfl (lv_at hl 0 rfl) ?_
  refine lv_iconst (v := 1) hx hb dX13_fitAt_17 (by decide) ?_
  refine fI (wr := []) (rV_I (wc := [(h0, .inr (12, [.int 0, .int g1, .int g2, .null, g4, g5, .int g6, .int g7, .int g8, .int g9, .int g10, .int g11, .int g12, .int g13, .int g14, .long g15, g16, g17, g18, g19, .int g20, .int g21, g22, g23, g24, .int g25, g26, .int g27, .int g28, .int g29, .int g30]))]) (As := [.int 1]) (rest := []) X (tX13_refused l dC dI cy h0 0 g1 g2 .null g4 g5 g6 g7 g8 g9 g10 g11 g12 g13 g14 g15 g16 g17 g18 g19 g20 g21 g22 g23 g24 g25 g26 g27 g28 g29 g30 1) kX13_refused vX13_refused mX13_48 hP hD [0] (by decide) rfl 0 (ci := 12) rfl rfl rfl hl rfl rfl (Nat.le_of_ble_eq_true rfl) dX13_fitAt_18 ⟨Nat.le_of_ble_eq_true rfl, Nat.le_of_ble_eq_true rfl⟩ ⟨Nat.le_of_ble_eq_true rfl, Nat.le_of_ble_eq_true rfl⟩) hP hD hS hA [0] [] rfl rfl (by decide) (by decide) (fun r_1 u_3 H locs k_2 hP hD hS => ?_)
  have hP : va_P (dC, dI) vwCl [] H := hP
  have hD : va_D A [] := hD
  have er_1 : r_1 = -1 := k_2
  subst er_1
  exact eI X hr hlocks hP hD hS () [] (by decide) rfl rfl rfl (Nat.le_of_ble_eq_true rfl) (Nat.le_of_ble_eq_true rfl) dX13_fitAt_21
set_option maxHeartbeats 4000000 in
set_option maxRecDepth 100000 in
theorem tX13_likeliest (l : Launch) (dC : Nat → ClassId) (dI : Nat → Nat → Nat) (cy : Nat → ClassId) (h0 : Nat) (g0 : Int32) (g1 : Int32) (g2 : Int32) (g4 : Value) (g5 : Value) (g6 : Int32) (g7 : Int32) (g8 : Int32) (g9 : Int32) (g10 : Int32) (g11 : Int32) (g12 : Int32) (g13 : Int32) (g14 : Int32) (g15 : Int64) (g16 : Value) (g17 : Value) (g18 : Value) (g19 : Value) (g20 : Int32) (g21 : Int32) (g22 : Value) (g23 : Value) (g24 : Value) (g25 : Int32) (g26 : Value) (g27 : Int32) (g28 : Int32) (g29 : Int32) (g30 : Int32) : ctI l dC dI cy yX13_likeliest cX13_likeliest 5 .int ({ frames := 1, cells := 0, slots := 0, locals := 21 }) [.ref h0] [(h0, .inr (12, [.int g0, .int g1, .int g2, .null, g4, g5, .int g6, .int g7, .int g8, .int g9, .int g10, .int g11, .int g12, .int g13, .int g14, .long g15, g16, g17, g18, g19, .int g20, .int g21, g22, g23, g24, .int g25, g26, .int g27, .int g28, .int g29, .int g30]))] (S := Unit) (fun r _ => r = -1) (fun _ => []) := by
  refine ctI.of (by decide +kernel) (Nat.le_of_ble_eq_true rfl) ?_
  intro p e s m args below meth c A ls X hr hlocks hin hA hP hD hS hl
  have hx := X.1
  have hb := X.2.1
  have hK := X.2.2.2.2.2.1
  have hl : lv_has ls 5 [(0, .ref h0)] := hl
  refine lv_aload_n hx hb dX13_likeliest_0 rfl (lv_at hl 0 rfl) ?_
  refine lv_iconst (v := 0) hx hb dX13_likeliest_1 (by decide) ?_
  refine r_put X kcX13 (ci := 12) rfl hP hD hS 0 rfl 0 (by decide) fX13_42 rfl rfl rfl (Nat.le_of_ble_eq_true rfl) dX13_likeliest_2 (fun H locs hP hD hS => ?_)
  have hP : va_P (dC, dI) vwCl [(h0, .inr (12, [.int 0, .int g1, .int g2, .null, g4, g5, .int g6, .int g7, .int g8, .int g9, .int g10, .int g11, .int g12, .int g13, .int g14, .long g15, g16, g17, g18, g19, .int g20, .int g21, g22, g23, g24, .int g25, g26, .int g27, .int g28, .int g29, .int g30]))] H := hP
  have hD : va_D A [(h0, .inr (12, [.int 0, .int g1, .int g2, .null, g4, g5, .int g6, .int g7, .int g8, .int g9, .int g10, .int g11, .int g12, .int g13, .int g14, .long g15, g16, g17, g18, g19, .int g20, .int g21, g22, g23, g24, .int g25, g26, .int g27, .int g28, .int g29, .int g30]))] := hD
  refine lv_aload_n hx hb dX13_likeliest_5 rfl (lv_at hl 0 rfl) ?_
  refine r_get X kcX13 (ci := 12) rfl hP 0 rfl 3 (by decide) fX13_269 rfl dX13_likeliest_6 ?_
  refine lv_ifnonnullN hx hb dX13_likeliest_9 ?_
  refine lv_aload_n hx hb dX13_likeliest_12 rfl (lv_at hl 0 rfl) ?_
  refine lv_iconst (v := 1) hx hb dX13_likeliest_13 (by decide) ?_
  refine fI (wr := []) (rV_I (wc := [(h0, .inr (12, [.int 0, .int g1, .int g2, .null, g4, g5, .int g6, .int g7, .int g8, .int g9, .int g10, .int g11, .int g12, .int g13, .int g14, .long g15, g16, g17, g18, g19, .int g20, .int g21, g22, g23, g24, .int g25, g26, .int g27, .int g28, .int g29, .int g30]))]) (As := [.int 1]) (rest := []) X (tX13_refused l dC dI cy h0 0 g1 g2 .null g4 g5 g6 g7 g8 g9 g10 g11 g12 g13 g14 g15 g16 g17 g18 g19 g20 g21 g22 g23 g24 g25 g26 g27 g28 g29 g30 1) kX13_refused vX13_refused mX13_48 hP hD [0] (by decide) rfl 0 (ci := 12) rfl rfl rfl hl rfl rfl (Nat.le_of_ble_eq_true rfl) dX13_likeliest_14 ⟨Nat.le_of_ble_eq_true rfl, Nat.le_of_ble_eq_true rfl⟩ ⟨Nat.le_of_ble_eq_true rfl, Nat.le_of_ble_eq_true rfl⟩) hP hD hS hA [0] [] rfl rfl (by decide) (by decide) (fun r_1 u_3 H locs k_2 hP hD hS => ?_)
  have hP : va_P (dC, dI) vwCl [] H := hP
  have hD : va_D A [] := hD
  have er_1 : r_1 = -1 := k_2
  subst er_1
  exact eI X hr hlocks hP hD hS () [] (by decide) rfl rfl rfl (Nat.le_of_ble_eq_true rfl) (Nat.le_of_ble_eq_true rfl) dX13_likeliest_17
set_option maxHeartbeats 4000000 in
set_option maxRecDepth 100000 in
theorem tX13_tread (l : Launch) (dC : Nat → ClassId) (dI : Nat → Nat → Nat) (cy : Nat → ClassId) (h0 : Nat) (g0 : Int32) (g1 : Int32) (g2 : Int32) (g4 : Value) (g5 : Value) (g6 : Int32) (g7 : Int32) (g8 : Int32) (g9 : Int32) (g10 : Int32) (g11 : Int32) (g12 : Int32) (g13 : Int32) (g14 : Int32) (g15 : Int64) (g16 : Value) (g17 : Value) (g18 : Value) (g19 : Value) (g20 : Int32) (g21 : Int32) (g22 : Value) (g23 : Value) (g24 : Value) (g25 : Int32) (g26 : Value) (g27 : Int32) (g28 : Int32) (g29 : Int32) (g30 : Int32) : ctI l dC dI cy yX13_tread cX13_tread 1 .int ({ frames := 1, cells := 0, slots := 0, locals := 21 }) [.ref h0] [(h0, .inr (12, [.int g0, .int g1, .int g2, .null, g4, g5, .int g6, .int g7, .int g8, .int g9, .int g10, .int g11, .int g12, .int g13, .int g14, .long g15, g16, g17, g18, g19, .int g20, .int g21, g22, g23, g24, .int g25, g26, .int g27, .int g28, .int g29, .int g30]))] (S := Unit) (fun r _ => r = -1) (fun _ => []) := by
  refine ctI.of (by decide +kernel) (Nat.le_of_ble_eq_true rfl) ?_
  intro p e s m args below meth c A ls X hr hlocks hin hA hP hD hS hl
  have hx := X.1
  have hb := X.2.1
  have hK := X.2.2.2.2.2.1
  have hl : lv_has ls 1 [(0, .ref h0)] := hl
  refine lv_aload_n hx hb dX13_tread_0 rfl (lv_at hl 0 rfl) ?_
  refine lv_iconst (v := 0) hx hb dX13_tread_1 (by decide) ?_
  refine r_put X kcX13 (ci := 12) rfl hP hD hS 0 rfl 0 (by decide) fX13_42 rfl rfl rfl (Nat.le_of_ble_eq_true rfl) dX13_tread_2 (fun H locs hP hD hS => ?_)
  have hP : va_P (dC, dI) vwCl [(h0, .inr (12, [.int 0, .int g1, .int g2, .null, g4, g5, .int g6, .int g7, .int g8, .int g9, .int g10, .int g11, .int g12, .int g13, .int g14, .long g15, g16, g17, g18, g19, .int g20, .int g21, g22, g23, g24, .int g25, g26, .int g27, .int g28, .int g29, .int g30]))] H := hP
  have hD : va_D A [(h0, .inr (12, [.int 0, .int g1, .int g2, .null, g4, g5, .int g6, .int g7, .int g8, .int g9, .int g10, .int g11, .int g12, .int g13, .int g14, .long g15, g16, g17, g18, g19, .int g20, .int g21, g22, g23, g24, .int g25, g26, .int g27, .int g28, .int g29, .int g30]))] := hD
  refine lv_aload_n hx hb dX13_tread_5 rfl (lv_at hl 0 rfl) ?_
  refine r_get X kcX13 (ci := 12) rfl hP 0 rfl 3 (by decide) fX13_269 rfl dX13_tread_6 ?_
  refine lv_ifnonnullN hx hb dX13_tread_9 ?_
  refine lv_aload_n hx hb dX13_tread_12 rfl (lv_at hl 0 rfl) ?_
  refine lv_iconst (v := 1) hx hb dX13_tread_13 (by decide) ?_
  refine fI (wr := []) (rV_I (wc := [(h0, .inr (12, [.int 0, .int g1, .int g2, .null, g4, g5, .int g6, .int g7, .int g8, .int g9, .int g10, .int g11, .int g12, .int g13, .int g14, .long g15, g16, g17, g18, g19, .int g20, .int g21, g22, g23, g24, .int g25, g26, .int g27, .int g28, .int g29, .int g30]))]) (As := [.int 1]) (rest := []) X (tX13_refused l dC dI cy h0 0 g1 g2 .null g4 g5 g6 g7 g8 g9 g10 g11 g12 g13 g14 g15 g16 g17 g18 g19 g20 g21 g22 g23 g24 g25 g26 g27 g28 g29 g30 1) kX13_refused vX13_refused mX13_48 hP hD [0] (by decide) rfl 0 (ci := 12) rfl rfl rfl hl rfl rfl (Nat.le_of_ble_eq_true rfl) dX13_tread_14 ⟨Nat.le_of_ble_eq_true rfl, Nat.le_of_ble_eq_true rfl⟩ ⟨Nat.le_of_ble_eq_true rfl, Nat.le_of_ble_eq_true rfl⟩) hP hD hS hA [0] [] rfl rfl (by decide) (by decide) (fun r_1 u_3 H locs k_2 hP hD hS => ?_)
  have hP : va_P (dC, dI) vwCl [] H := hP
  have hD : va_D A [] := hD
  have er_1 : r_1 = -1 := k_2
  subst er_1
  refine lv_goto (tgt := 28) hx hb dX13_tread_17 (by decide) ?_
  exact eI X hr hlocks hP hD hS () [] (by decide) rfl rfl rfl (Nat.le_of_ble_eq_true rfl) (Nat.le_of_ble_eq_true rfl) dX13_tread_28
set_option maxHeartbeats 4000000 in
set_option maxRecDepth 100000 in
theorem tX13_treadLeaves (l : Launch) (dC : Nat → ClassId) (dI : Nat → Nat → Nat) (cy : Nat → ClassId) (h0 : Nat) (g0 : Int32) (g1 : Int32) (g2 : Int32) (g4 : Value) (g5 : Value) (g6 : Int32) (g7 : Int32) (g8 : Int32) (g9 : Int32) (g10 : Int32) (g11 : Int32) (g12 : Int32) (g13 : Int32) (g14 : Int32) (g15 : Int64) (g16 : Value) (g17 : Value) (g18 : Value) (g19 : Value) (g20 : Int32) (g21 : Int32) (g22 : Value) (g23 : Value) (g24 : Value) (g25 : Int32) (g26 : Value) (g27 : Int32) (g28 : Int32) (g29 : Int32) (g30 : Int32) : ctI l dC dI cy yX13_treadLeaves cX13_treadLeaves 1 .int ({ frames := 1, cells := 0, slots := 0, locals := 21 }) [.ref h0] [(h0, .inr (12, [.int g0, .int g1, .int g2, .null, g4, g5, .int g6, .int g7, .int g8, .int g9, .int g10, .int g11, .int g12, .int g13, .int g14, .long g15, g16, g17, g18, g19, .int g20, .int g21, g22, g23, g24, .int g25, g26, .int g27, .int g28, .int g29, .int g30]))] (S := Unit) (fun r _ => r = -1) (fun _ => []) := by
  refine ctI.of (by decide +kernel) (Nat.le_of_ble_eq_true rfl) ?_
  intro p e s m args below meth c A ls X hr hlocks hin hA hP hD hS hl
  have hx := X.1
  have hb := X.2.1
  have hK := X.2.2.2.2.2.1
  have hl : lv_has ls 1 [(0, .ref h0)] := hl
  refine lv_aload_n hx hb dX13_treadLeaves_0 rfl (lv_at hl 0 rfl) ?_
  refine lv_iconst (v := 0) hx hb dX13_treadLeaves_1 (by decide) ?_
  refine r_put X kcX13 (ci := 12) rfl hP hD hS 0 rfl 0 (by decide) fX13_42 rfl rfl rfl (Nat.le_of_ble_eq_true rfl) dX13_treadLeaves_2 (fun H locs hP hD hS => ?_)
  have hP : va_P (dC, dI) vwCl [(h0, .inr (12, [.int 0, .int g1, .int g2, .null, g4, g5, .int g6, .int g7, .int g8, .int g9, .int g10, .int g11, .int g12, .int g13, .int g14, .long g15, g16, g17, g18, g19, .int g20, .int g21, g22, g23, g24, .int g25, g26, .int g27, .int g28, .int g29, .int g30]))] H := hP
  have hD : va_D A [(h0, .inr (12, [.int 0, .int g1, .int g2, .null, g4, g5, .int g6, .int g7, .int g8, .int g9, .int g10, .int g11, .int g12, .int g13, .int g14, .long g15, g16, g17, g18, g19, .int g20, .int g21, g22, g23, g24, .int g25, g26, .int g27, .int g28, .int g29, .int g30]))] := hD
  refine lv_aload_n hx hb dX13_treadLeaves_5 rfl (lv_at hl 0 rfl) ?_
  refine r_get X kcX13 (ci := 12) rfl hP 0 rfl 3 (by decide) fX13_269 rfl dX13_treadLeaves_6 ?_
  refine lv_ifnonnullN hx hb dX13_treadLeaves_9 ?_
  refine lv_aload_n hx hb dX13_treadLeaves_12 rfl (lv_at hl 0 rfl) ?_
  refine lv_iconst (v := 1) hx hb dX13_treadLeaves_13 (by decide) ?_
  refine fI (wr := []) (rV_I (wc := [(h0, .inr (12, [.int 0, .int g1, .int g2, .null, g4, g5, .int g6, .int g7, .int g8, .int g9, .int g10, .int g11, .int g12, .int g13, .int g14, .long g15, g16, g17, g18, g19, .int g20, .int g21, g22, g23, g24, .int g25, g26, .int g27, .int g28, .int g29, .int g30]))]) (As := [.int 1]) (rest := []) X (tX13_refused l dC dI cy h0 0 g1 g2 .null g4 g5 g6 g7 g8 g9 g10 g11 g12 g13 g14 g15 g16 g17 g18 g19 g20 g21 g22 g23 g24 g25 g26 g27 g28 g29 g30 1) kX13_refused vX13_refused mX13_48 hP hD [0] (by decide) rfl 0 (ci := 12) rfl rfl rfl hl rfl rfl (Nat.le_of_ble_eq_true rfl) dX13_treadLeaves_14 ⟨Nat.le_of_ble_eq_true rfl, Nat.le_of_ble_eq_true rfl⟩ ⟨Nat.le_of_ble_eq_true rfl, Nat.le_of_ble_eq_true rfl⟩) hP hD hS hA [0] [] rfl rfl (by decide) (by decide) (fun r_1 u_3 H locs k_2 hP hD hS => ?_)
  have hP : va_P (dC, dI) vwCl [] H := hP
  have hD : va_D A [] := hD
  have er_1 : r_1 = -1 := k_2
  subst er_1
  exact eI X hr hlocks hP hD hS () [] (by decide) rfl rfl rfl (Nat.le_of_ble_eq_true rfl) (Nat.le_of_ble_eq_true rfl) dX13_treadLeaves_17
set_option maxHeartbeats 4000000 in
set_option maxRecDepth 100000 in
theorem tX13_judge (l : Launch) (dC : Nat → ClassId) (dI : Nat → Nat → Nat) (cy : Nat → ClassId) (h0 : Nat) (g0 : Int32) (g1 : Int32) (g2 : Int32) (g4 : Value) (g5 : Value) (g6 : Int32) (g7 : Int32) (g8 : Int32) (g9 : Int32) (g10 : Int32) (g11 : Int32) (g12 : Int32) (g13 : Int32) (g14 : Int32) (g15 : Int64) (g16 : Value) (g17 : Value) (g18 : Value) (g19 : Value) (g20 : Int32) (g21 : Int32) (g22 : Value) (g23 : Value) (g24 : Value) (g25 : Int32) (g26 : Value) (g27 : Int32) (g28 : Int32) (g29 : Int32) (g30 : Int32) : ctI l dC dI cy yX13_judge cX13_judge 2 .int ({ frames := 1, cells := 0, slots := 0, locals := 21 }) [.ref h0] [(h0, .inr (12, [.int g0, .int g1, .int g2, .null, g4, g5, .int g6, .int g7, .int g8, .int g9, .int g10, .int g11, .int g12, .int g13, .int g14, .long g15, g16, g17, g18, g19, .int g20, .int g21, g22, g23, g24, .int g25, g26, .int g27, .int g28, .int g29, .int g30]))] (S := Unit) (fun r _ => r = -1) (fun _ => []) := by
  refine ctI.of (by decide +kernel) (Nat.le_of_ble_eq_true rfl) ?_
  intro p e s m args below meth c A ls X hr hlocks hin hA hP hD hS hl
  have hx := X.1
  have hb := X.2.1
  have hK := X.2.2.2.2.2.1
  have hl : lv_has ls 2 [(0, .ref h0)] := hl
  refine lv_aload_n hx hb dX13_judge_0 rfl (lv_at hl 0 rfl) ?_
  refine lv_iconst (v := 0) hx hb dX13_judge_1 (by decide) ?_
  refine r_put X kcX13 (ci := 12) rfl hP hD hS 0 rfl 0 (by decide) fX13_42 rfl rfl rfl (Nat.le_of_ble_eq_true rfl) dX13_judge_2 (fun H locs hP hD hS => ?_)
  have hP : va_P (dC, dI) vwCl [(h0, .inr (12, [.int 0, .int g1, .int g2, .null, g4, g5, .int g6, .int g7, .int g8, .int g9, .int g10, .int g11, .int g12, .int g13, .int g14, .long g15, g16, g17, g18, g19, .int g20, .int g21, g22, g23, g24, .int g25, g26, .int g27, .int g28, .int g29, .int g30]))] H := hP
  have hD : va_D A [(h0, .inr (12, [.int 0, .int g1, .int g2, .null, g4, g5, .int g6, .int g7, .int g8, .int g9, .int g10, .int g11, .int g12, .int g13, .int g14, .long g15, g16, g17, g18, g19, .int g20, .int g21, g22, g23, g24, .int g25, g26, .int g27, .int g28, .int g29, .int g30]))] := hD
  refine lv_aload_n hx hb dX13_judge_5 rfl (lv_at hl 0 rfl) ?_
  refine r_get X kcX13 (ci := 12) rfl hP 0 rfl 3 (by decide) fX13_269 rfl dX13_judge_6 ?_
  refine lv_ifnonnullN hx hb dX13_judge_9 ?_
  refine lv_aload_n hx hb dX13_judge_12 rfl (lv_at hl 0 rfl) ?_
  refine lv_iconst (v := 1) hx hb dX13_judge_13 (by decide) ?_
  refine fI (wr := []) (rV_I (wc := [(h0, .inr (12, [.int 0, .int g1, .int g2, .null, g4, g5, .int g6, .int g7, .int g8, .int g9, .int g10, .int g11, .int g12, .int g13, .int g14, .long g15, g16, g17, g18, g19, .int g20, .int g21, g22, g23, g24, .int g25, g26, .int g27, .int g28, .int g29, .int g30]))]) (As := [.int 1]) (rest := []) X (tX13_refused l dC dI cy h0 0 g1 g2 .null g4 g5 g6 g7 g8 g9 g10 g11 g12 g13 g14 g15 g16 g17 g18 g19 g20 g21 g22 g23 g24 g25 g26 g27 g28 g29 g30 1) kX13_refused vX13_refused mX13_48 hP hD [0] (by decide) rfl 0 (ci := 12) rfl rfl rfl hl rfl rfl (Nat.le_of_ble_eq_true rfl) dX13_judge_14 ⟨Nat.le_of_ble_eq_true rfl, Nat.le_of_ble_eq_true rfl⟩ ⟨Nat.le_of_ble_eq_true rfl, Nat.le_of_ble_eq_true rfl⟩) hP hD hS hA [0] [] rfl rfl (by decide) (by decide) (fun r_1 u_3 H locs k_2 hP hD hS => ?_)
  have hP : va_P (dC, dI) vwCl [] H := hP
  have hD : va_D A [] := hD
  have er_1 : r_1 = -1 := k_2
  subst er_1
  exact eI X hr hlocks hP hD hS () [] (by decide) rfl rfl rfl (Nat.le_of_ble_eq_true rfl) (Nat.le_of_ble_eq_true rfl) dX13_judge_17
set_option maxHeartbeats 4000000 in
set_option maxRecDepth 100000 in
theorem tX13_rests (l : Launch) (dC : Nat → ClassId) (dI : Nat → Nat → Nat) (cy : Nat → ClassId) (h0 : Nat) (g0 : Int32) (g1 : Int32) (g2 : Int32) (g4 : Value) (g5 : Value) (g6 : Int32) (g7 : Int32) (g8 : Int32) (g9 : Int32) (g10 : Int32) (g11 : Int32) (g12 : Int32) (g13 : Int32) (g14 : Int32) (g15 : Int64) (g16 : Value) (g17 : Value) (g18 : Value) (g19 : Value) (g20 : Int32) (g21 : Int32) (g22 : Value) (g23 : Value) (g24 : Value) (g25 : Int32) (g26 : Value) (g27 : Int32) (g28 : Int32) (g29 : Int32) (g30 : Int32) (p1 : Int32) : ctI l dC dI cy yX13_rests cX13_rests 5 .int ({ frames := 1, cells := 0, slots := 0, locals := 21 }) [.ref h0, .int p1] [(h0, .inr (12, [.int g0, .int g1, .int g2, .null, g4, g5, .int g6, .int g7, .int g8, .int g9, .int g10, .int g11, .int g12, .int g13, .int g14, .long g15, g16, g17, g18, g19, .int g20, .int g21, g22, g23, g24, .int g25, g26, .int g27, .int g28, .int g29, .int g30]))] (S := Unit) (fun r _ => r = -1) (fun _ => []) := by
  refine ctI.of (by decide +kernel) (Nat.le_of_ble_eq_true rfl) ?_
  intro p e s m args below meth c A ls X hr hlocks hin hA hP hD hS hl
  have hx := X.1
  have hb := X.2.1
  have hK := X.2.2.2.2.2.1
  have hl : lv_has ls 5 [(0, .ref h0), (1, .int p1)] := hl
  refine lv_aload_n hx hb dX13_rests_0 rfl (lv_at hl 0 rfl) ?_
  refine lv_iconst (v := 0) hx hb dX13_rests_1 (by decide) ?_
  refine r_put X kcX13 (ci := 12) rfl hP hD hS 0 rfl 0 (by decide) fX13_42 rfl rfl rfl (Nat.le_of_ble_eq_true rfl) dX13_rests_2 (fun H locs hP hD hS => ?_)
  have hP : va_P (dC, dI) vwCl [(h0, .inr (12, [.int 0, .int g1, .int g2, .null, g4, g5, .int g6, .int g7, .int g8, .int g9, .int g10, .int g11, .int g12, .int g13, .int g14, .long g15, g16, g17, g18, g19, .int g20, .int g21, g22, g23, g24, .int g25, g26, .int g27, .int g28, .int g29, .int g30]))] H := hP
  have hD : va_D A [(h0, .inr (12, [.int 0, .int g1, .int g2, .null, g4, g5, .int g6, .int g7, .int g8, .int g9, .int g10, .int g11, .int g12, .int g13, .int g14, .long g15, g16, g17, g18, g19, .int g20, .int g21, g22, g23, g24, .int g25, g26, .int g27, .int g28, .int g29, .int g30]))] := hD
  refine lv_aload_n hx hb dX13_rests_5 rfl (lv_at hl 0 rfl) ?_
  refine lv_iload_n hx hb dX13_rests_6 rfl (lv_at hl 1 rfl) ?_
  refine fI (wr := []) (rV_I (wc := [(h0, .inr (12, [.int 0, .int g1, .int g2, .null, g4, g5, .int g6, .int g7, .int g8, .int g9, .int g10, .int g11, .int g12, .int g13, .int g14, .long g15, g16, g17, g18, g19, .int g20, .int g21, g22, g23, g24, .int g25, g26, .int g27, .int g28, .int g29, .int g30]))]) (As := [.int p1]) (rest := []) X (tX13_refusesShame l dC dI cy h0 0 g1 g2 g4 g5 g6 g7 g8 g9 g10 g11 g12 g13 g14 g15 g16 g17 g18 g19 g20 g21 g22 g23 g24 g25 g26 g27 g28 g29 g30 p1) kX13_refusesShame vX13_refusesShame mX13_405 hP hD [0] (by decide) rfl 0 (ci := 12) rfl rfl rfl hl rfl rfl (Nat.le_of_ble_eq_true rfl) dX13_rests_7 ⟨Nat.le_of_ble_eq_true rfl, Nat.le_of_ble_eq_true rfl⟩ ⟨Nat.le_of_ble_eq_true rfl, Nat.le_of_ble_eq_true rfl⟩) hP hD hS hA [0] [] rfl rfl (by decide) (by decide) (fun r_1 u_3 H locs k_2 hP hD hS => ?_)
  have hP : va_P (dC, dI) vwCl [(h0, .inr (12, [.int 0, .int g1, .int g2, .null, g4, g5, .int g6, .int g7, .int g8, .int g9, .int g10, .int g11, .int g12, .int g13, .int g14, .long g15, g16, g17, g18, g19, .int g20, .int g21, g22, g23, g24, .int g25, g26, .int g27, .int g28, .int g29, .int g30]))] H := hP
  have hD : va_D A [(h0, .inr (12, [.int 0, .int g1, .int g2, .null, g4, g5, .int g6, .int g7, .int g8, .int g9, .int g10, .int g11, .int g12, .int g13, .int g14, .long g15, g16, g17, g18, g19, .int g20, .int g21, g22, g23, g24, .int g25, g26, .int g27, .int g28, .int g29, .int g30]))] := hD
  have er_1 : r_1 = 1 := k_2
  subst er_1
  refine lv_istore_n (lv' := [(2, .int 1), (0, .ref h0), (1, .int p1)]) hx hb dX13_rests_10 rfl hl (by decide) rfl (fun ls hl => ?_)
  refine lv_iload_n hx hb dX13_rests_11 rfl (lv_at hl 0 rfl) ?_
  refine lv_if_le (tgt := 21) hx hb dX13_rests_12 (by decide) (fun h_4 => absurd h_4 (by decide)) (fun _ => ?_)
  refine lv_aload_n hx hb dX13_rests_15 rfl (lv_at hl 1 rfl) ?_
  refine lv_iload_n hx hb dX13_rests_16 rfl (lv_at hl 0 rfl) ?_
  refine fI (wr := []) (rV_I (wc := [(h0, .inr (12, [.int 0, .int g1, .int g2, .null, g4, g5, .int g6, .int g7, .int g8, .int g9, .int g10, .int g11, .int g12, .int g13, .int g14, .long g15, g16, g17, g18, g19, .int g20, .int g21, g22, g23, g24, .int g25, g26, .int g27, .int g28, .int g29, .int g30]))]) (As := [.int 1]) (rest := []) X (tX13_refused l dC dI cy h0 0 g1 g2 .null g4 g5 g6 g7 g8 g9 g10 g11 g12 g13 g14 g15 g16 g17 g18 g19 g20 g21 g22 g23 g24 g25 g26 g27 g28 g29 g30 1) kX13_refused vX13_refused mX13_48 hP hD [0] (by decide) rfl 0 (ci := 12) rfl rfl rfl hl rfl rfl (Nat.le_of_ble_eq_true rfl) dX13_rests_17 ⟨Nat.le_of_ble_eq_true rfl, Nat.le_of_ble_eq_true rfl⟩ ⟨Nat.le_of_ble_eq_true rfl, Nat.le_of_ble_eq_true rfl⟩) hP hD hS hA [0] [] rfl rfl (by decide) (by decide) (fun r_5 u_7 H locs k_6 hP hD hS => ?_)
  have hP : va_P (dC, dI) vwCl [] H := hP
  have hD : va_D A [] := hD
  have er_5 : r_5 = -1 := k_6
  subst er_5
  exact eI X hr hlocks hP hD hS () [] (by decide) rfl rfl rfl (Nat.le_of_ble_eq_true rfl) (Nat.le_of_ble_eq_true rfl) dX13_rests_20
set_option maxHeartbeats 4000000 in
set_option maxRecDepth 100000 in
theorem tX13_rest (l : Launch) (dC : Nat → ClassId) (dI : Nat → Nat → Nat) (cy : Nat → ClassId) (h0 : Nat) (g0 : Int32) (g1 : Int32) (g2 : Int32) (g4 : Value) (g5 : Value) (g6 : Int32) (g7 : Int32) (g8 : Int32) (g9 : Int32) (g10 : Int32) (g11 : Int32) (g12 : Int32) (g13 : Int32) (g14 : Int32) (g15 : Int64) (g16 : Value) (g17 : Value) (g18 : Value) (g19 : Value) (g20 : Int32) (g21 : Int32) (g22 : Value) (g23 : Value) (g24 : Value) (g25 : Int32) (g26 : Value) (g27 : Int32) (g28 : Int32) (g29 : Int32) (g30 : Int32) (p1 : Int32) : ctI l dC dI cy yX13_rest cX13_rest 4 .int ({ frames := 1, cells := 0, slots := 0, locals := 21 }) [.ref h0, .int p1] [(h0, .inr (12, [.int g0, .int g1, .int g2, .null, g4, g5, .int g6, .int g7, .int g8, .int g9, .int g10, .int g11, .int g12, .int g13, .int g14, .long g15, g16, g17, g18, g19, .int g20, .int g21, g22, g23, g24, .int g25, g26, .int g27, .int g28, .int g29, .int g30]))] (S := Unit) (fun r _ => r = -1) (fun _ => []) := by
  refine ctI.of (by decide +kernel) (Nat.le_of_ble_eq_true rfl) ?_
  intro p e s m args below meth c A ls X hr hlocks hin hA hP hD hS hl
  have hx := X.1
  have hb := X.2.1
  have hK := X.2.2.2.2.2.1
  have hl : lv_has ls 4 [(0, .ref h0), (1, .int p1)] := hl
  refine lv_aload_n hx hb dX13_rest_0 rfl (lv_at hl 0 rfl) ?_
  refine lv_iconst (v := 0) hx hb dX13_rest_1 (by decide) ?_
  refine r_put X kcX13 (ci := 12) rfl hP hD hS 0 rfl 0 (by decide) fX13_42 rfl rfl rfl (Nat.le_of_ble_eq_true rfl) dX13_rest_2 (fun H locs hP hD hS => ?_)
  have hP : va_P (dC, dI) vwCl [(h0, .inr (12, [.int 0, .int g1, .int g2, .null, g4, g5, .int g6, .int g7, .int g8, .int g9, .int g10, .int g11, .int g12, .int g13, .int g14, .long g15, g16, g17, g18, g19, .int g20, .int g21, g22, g23, g24, .int g25, g26, .int g27, .int g28, .int g29, .int g30]))] H := hP
  have hD : va_D A [(h0, .inr (12, [.int 0, .int g1, .int g2, .null, g4, g5, .int g6, .int g7, .int g8, .int g9, .int g10, .int g11, .int g12, .int g13, .int g14, .long g15, g16, g17, g18, g19, .int g20, .int g21, g22, g23, g24, .int g25, g26, .int g27, .int g28, .int g29, .int g30]))] := hD
  refine lv_aload_n hx hb dX13_rest_5 rfl (lv_at hl 0 rfl) ?_
  refine lv_iload_n hx hb dX13_rest_6 rfl (lv_at hl 1 rfl) ?_
  refine fI (wr := []) (rV_I (wc := [(h0, .inr (12, [.int 0, .int g1, .int g2, .null, g4, g5, .int g6, .int g7, .int g8, .int g9, .int g10, .int g11, .int g12, .int g13, .int g14, .long g15, g16, g17, g18, g19, .int g20, .int g21, g22, g23, g24, .int g25, g26, .int g27, .int g28, .int g29, .int g30]))]) (As := [.int p1]) (rest := []) X (tX13_refusesShame l dC dI cy h0 0 g1 g2 g4 g5 g6 g7 g8 g9 g10 g11 g12 g13 g14 g15 g16 g17 g18 g19 g20 g21 g22 g23 g24 g25 g26 g27 g28 g29 g30 p1) kX13_refusesShame vX13_refusesShame mX13_405 hP hD [0] (by decide) rfl 0 (ci := 12) rfl rfl rfl hl rfl rfl (Nat.le_of_ble_eq_true rfl) dX13_rest_7 ⟨Nat.le_of_ble_eq_true rfl, Nat.le_of_ble_eq_true rfl⟩ ⟨Nat.le_of_ble_eq_true rfl, Nat.le_of_ble_eq_true rfl⟩) hP hD hS hA [0] [] rfl rfl (by decide) (by decide) (fun r_1 u_3 H locs k_2 hP hD hS => ?_)
  have hP : va_P (dC, dI) vwCl [(h0, .inr (12, [.int 0, .int g1, .int g2, .null, g4, g5, .int g6, .int g7, .int g8, .int g9, .int g10, .int g11, .int g12, .int g13, .int g14, .long g15, g16, g17, g18, g19, .int g20, .int g21, g22, g23, g24, .int g25, g26, .int g27, .int g28, .int g29, .int g30]))] H := hP
  have hD : va_D A [(h0, .inr (12, [.int 0, .int g1, .int g2, .null, g4, g5, .int g6, .int g7, .int g8, .int g9, .int g10, .int g11, .int g12, .int g13, .int g14, .long g15, g16, g17, g18, g19, .int g20, .int g21, g22, g23, g24, .int g25, g26, .int g27, .int g28, .int g29, .int g30]))] := hD
  have er_1 : r_1 = 1 := k_2
  subst er_1
  refine lv_istore_n (lv' := [(2, .int 1), (0, .ref h0), (1, .int p1)]) hx hb dX13_rest_10 rfl hl (by decide) rfl (fun ls hl => ?_)
  refine lv_iload_n hx hb dX13_rest_11 rfl (lv_at hl 0 rfl) ?_
  refine lv_if_le (tgt := 21) hx hb dX13_rest_12 (by decide) (fun h_4 => absurd h_4 (by decide)) (fun _ => ?_)
  refine lv_aload_n hx hb dX13_rest_15 rfl (lv_at hl 1 rfl) ?_
  refine lv_iload_n hx hb dX13_rest_16 rfl (lv_at hl 0 rfl) ?_
  refine fI (wr := []) (rV_I (wc := [(h0, .inr (12, [.int 0, .int g1, .int g2, .null, g4, g5, .int g6, .int g7, .int g8, .int g9, .int g10, .int g11, .int g12, .int g13, .int g14, .long g15, g16, g17, g18, g19, .int g20, .int g21, g22, g23, g24, .int g25, g26, .int g27, .int g28, .int g29, .int g30]))]) (As := [.int 1]) (rest := []) X (tX13_refused l dC dI cy h0 0 g1 g2 .null g4 g5 g6 g7 g8 g9 g10 g11 g12 g13 g14 g15 g16 g17 g18 g19 g20 g21 g22 g23 g24 g25 g26 g27 g28 g29 g30 1) kX13_refused vX13_refused mX13_48 hP hD [0] (by decide) rfl 0 (ci := 12) rfl rfl rfl hl rfl rfl (Nat.le_of_ble_eq_true rfl) dX13_rest_17 ⟨Nat.le_of_ble_eq_true rfl, Nat.le_of_ble_eq_true rfl⟩ ⟨Nat.le_of_ble_eq_true rfl, Nat.le_of_ble_eq_true rfl⟩) hP hD hS hA [0] [] rfl rfl (by decide) (by decide) (fun r_5 u_7 H locs k_6 hP hD hS => ?_)
  have hP : va_P (dC, dI) vwCl [] H := hP
  have hD : va_D A [] := hD
  have er_5 : r_5 = -1 := k_6
  subst er_5
  exact eI X hr hlocks hP hD hS () [] (by decide) rfl rfl rfl (Nat.le_of_ble_eq_true rfl) (Nat.le_of_ble_eq_true rfl) dX13_rest_20
set_option maxHeartbeats 4000000 in
set_option maxRecDepth 100000 in
theorem tX13_ramble (l : Launch) (dC : Nat → ClassId) (dI : Nat → Nat → Nat) (cy : Nat → ClassId) (h0 : Nat) (g0 : Int32) (g1 : Int32) (g2 : Int32) (g4 : Value) (g5 : Value) (g6 : Int32) (g7 : Int32) (g8 : Int32) (g9 : Int32) (g10 : Int32) (g11 : Int32) (g12 : Int32) (g13 : Int32) (g14 : Int32) (g15 : Int64) (g16 : Value) (g17 : Value) (g18 : Value) (g19 : Value) (g20 : Int32) (g21 : Int32) (g22 : Value) (g23 : Value) (g24 : Value) (g25 : Int32) (g26 : Value) (g27 : Int32) (g28 : Int32) (g29 : Int32) (g30 : Int32) (p1 : Int32) (p2 : Int32) (p3 : Int32) : ctI l dC dI cy yX13_ramble cX13_ramble 5 .int ({ frames := 2, cells := 0, slots := 0, locals := 44 }) [.ref h0, .int p1, .int p2, .int p3] [(h0, .inr (12, [.int g0, .int g1, .int g2, .null, g4, g5, .int g6, .int g7, .int g8, .int g9, .int g10, .int g11, .int g12, .int g13, .int g14, .long g15, g16, g17, g18, g19, .int g20, .int g21, g22, g23, g24, .int g25, g26, .int g27, .int g28, .int g29, .int g30]))] (S := Unit) (fun r _ => r = -1) (fun _ => []) := by
  refine ctI.of (by decide +kernel) (Nat.le_of_ble_eq_true rfl) ?_
  intro p e s m args below meth c A ls X hr hlocks hin hA hP hD hS hl
  have hx := X.1
  have hb := X.2.1
  have hK := X.2.2.2.2.2.1
  have hl : lv_has ls 5 [(0, .ref h0), (1, .int p1), (2, .int p2), (3, .int p3)] := hl
  refine lv_aload_n hx hb dX13_ramble_0 rfl (lv_at hl 0 rfl) ?_
  refine lv_iconst (v := 0) hx hb dX13_ramble_1 (by decide) ?_
  refine r_put X kcX13 (ci := 12) rfl hP hD hS 0 rfl 0 (by decide) fX13_42 rfl rfl rfl (Nat.le_of_ble_eq_true rfl) dX13_ramble_2 (fun H locs hP hD hS => ?_)
  have hP : va_P (dC, dI) vwCl [(h0, .inr (12, [.int 0, .int g1, .int g2, .null, g4, g5, .int g6, .int g7, .int g8, .int g9, .int g10, .int g11, .int g12, .int g13, .int g14, .long g15, g16, g17, g18, g19, .int g20, .int g21, g22, g23, g24, .int g25, g26, .int g27, .int g28, .int g29, .int g30]))] H := hP
  have hD : va_D A [(h0, .inr (12, [.int 0, .int g1, .int g2, .null, g4, g5, .int g6, .int g7, .int g8, .int g9, .int g10, .int g11, .int g12, .int g13, .int g14, .long g15, g16, g17, g18, g19, .int g20, .int g21, g22, g23, g24, .int g25, g26, .int g27, .int g28, .int g29, .int g30]))] := hD
  refine lv_aload_n hx hb dX13_ramble_5 rfl (lv_at hl 0 rfl) ?_
  refine lv_iload_n hx hb dX13_ramble_6 rfl (lv_at hl 1 rfl) ?_
  refine lv_iload_n hx hb dX13_ramble_7 rfl (lv_at hl 2 rfl) ?_
  refine lv_iload_n hx hb dX13_ramble_8 rfl (lv_at hl 3 rfl) ?_
  refine fI (wr := []) (rV_I (wc := [(h0, .inr (12, [.int 0, .int g1, .int g2, .null, g4, g5, .int g6, .int g7, .int g8, .int g9, .int g10, .int g11, .int g12, .int g13, .int g14, .long g15, g16, g17, g18, g19, .int g20, .int g21, g22, g23, g24, .int g25, g26, .int g27, .int g28, .int g29, .int g30]))]) (As := [.int p1, .int p2, .int p3]) (rest := []) X (tX13_refusesSeed l dC dI cy h0 0 g1 g2 g4 g5 g6 g7 g8 g9 g10 g11 g12 g13 g14 g15 g16 g17 g18 g19 g20 g21 g22 g23 g24 g25 g26 g27 g28 g29 g30 p1 p2 p3) kX13_refusesSeed vX13_refusesSeed mX13_438 hP hD [0] (by decide) rfl 0 (ci := 12) rfl rfl rfl hl rfl rfl (Nat.le_of_ble_eq_true rfl) dX13_ramble_9 ⟨Nat.le_of_ble_eq_true rfl, Nat.le_of_ble_eq_true rfl⟩ ⟨Nat.le_of_ble_eq_true rfl, Nat.le_of_ble_eq_true rfl⟩) hP hD hS hA [0] [] rfl rfl (by decide) (by decide) (fun r_1 u_3 H locs k_2 hP hD hS => ?_)
  have hP : va_P (dC, dI) vwCl [(h0, .inr (12, [.int 0, .int g1, .int g2, .null, g4, g5, .int g6, .int g7, .int g8, .int g9, .int g10, .int g11, .int g12, .int g13, .int g14, .long g15, g16, g17, g18, g19, .int g20, .int g21, g22, g23, g24, .int g25, g26, .int g27, .int g28, .int g29, .int g30]))] H := hP
  have hD : va_D A [(h0, .inr (12, [.int 0, .int g1, .int g2, .null, g4, g5, .int g6, .int g7, .int g8, .int g9, .int g10, .int g11, .int g12, .int g13, .int g14, .long g15, g16, g17, g18, g19, .int g20, .int g21, g22, g23, g24, .int g25, g26, .int g27, .int g28, .int g29, .int g30]))] := hD
  have er_1 : r_1 = 1 := k_2
  subst er_1
  refine lv_istore (lv' := [(4, .int 1), (0, .ref h0), (1, .int p1), (2, .int p2), (3, .int p3)]) hx hb dX13_ramble_12 hl (by decide) rfl (fun ls hl => ?_)
  refine lv_iload hx hb dX13_ramble_14 (lv_at hl 0 rfl) ?_
  refine lv_if_le (tgt := 26) hx hb dX13_ramble_16 (by decide) (fun h_4 => absurd h_4 (by decide)) (fun _ => ?_)
  refine lv_aload_n hx hb dX13_ramble_19 rfl (lv_at hl 1 rfl) ?_
  refine lv_iload hx hb dX13_ramble_20 (lv_at hl 0 rfl) ?_
  refine fI (wr := []) (rV_I (wc := [(h0, .inr (12, [.int 0, .int g1, .int g2, .null, g4, g5, .int g6, .int g7, .int g8, .int g9, .int g10, .int g11, .int g12, .int g13, .int g14, .long g15, g16, g17, g18, g19, .int g20, .int g21, g22, g23, g24, .int g25, g26, .int g27, .int g28, .int g29, .int g30]))]) (As := [.int 1]) (rest := []) X (tX13_refused l dC dI cy h0 0 g1 g2 .null g4 g5 g6 g7 g8 g9 g10 g11 g12 g13 g14 g15 g16 g17 g18 g19 g20 g21 g22 g23 g24 g25 g26 g27 g28 g29 g30 1) kX13_refused vX13_refused mX13_48 hP hD [0] (by decide) rfl 0 (ci := 12) rfl rfl rfl hl rfl rfl (Nat.le_of_ble_eq_true rfl) dX13_ramble_22 ⟨Nat.le_of_ble_eq_true rfl, Nat.le_of_ble_eq_true rfl⟩ ⟨Nat.le_of_ble_eq_true rfl, Nat.le_of_ble_eq_true rfl⟩) hP hD hS hA [0] [] rfl rfl (by decide) (by decide) (fun r_5 u_7 H locs k_6 hP hD hS => ?_)
  have hP : va_P (dC, dI) vwCl [] H := hP
  have hD : va_D A [] := hD
  have er_5 : r_5 = -1 := k_6
  subst er_5
  exact eI X hr hlocks hP hD hS () [] (by decide) rfl rfl rfl (Nat.le_of_ble_eq_true rfl) (Nat.le_of_ble_eq_true rfl) dX13_ramble_25
set_option maxHeartbeats 4000000 in
set_option maxRecDepth 100000 in
theorem tX13_rambleFalls (l : Launch) (dC : Nat → ClassId) (dI : Nat → Nat → Nat) (cy : Nat → ClassId) (h0 : Nat) (g0 : Int32) (g1 : Int32) (g2 : Int32) (g4 : Value) (g5 : Value) (g6 : Int32) (g7 : Int32) (g8 : Int32) (g9 : Int32) (g10 : Int32) (g11 : Int32) (g12 : Int32) (g13 : Int32) (g14 : Int32) (g15 : Int64) (g16 : Value) (g17 : Value) (g18 : Value) (g19 : Value) (g20 : Int32) (g21 : Int32) (g22 : Value) (g23 : Value) (g24 : Value) (g25 : Int32) (g26 : Value) (g27 : Int32) (g28 : Int32) (g29 : Int32) (g30 : Int32) (p1 : Int32) (p2 : Int32) (p3 : Int32) : ctI l dC dI cy yX13_rambleFalls cX13_rambleFalls 5 .int ({ frames := 2, cells := 0, slots := 0, locals := 44 }) [.ref h0, .int p1, .int p2, .int p3] [(h0, .inr (12, [.int g0, .int g1, .int g2, .null, g4, g5, .int g6, .int g7, .int g8, .int g9, .int g10, .int g11, .int g12, .int g13, .int g14, .long g15, g16, g17, g18, g19, .int g20, .int g21, g22, g23, g24, .int g25, g26, .int g27, .int g28, .int g29, .int g30]))] (S := Unit) (fun r _ => r = -1) (fun _ => []) := by
  refine ctI.of (by decide +kernel) (Nat.le_of_ble_eq_true rfl) ?_
  intro p e s m args below meth c A ls X hr hlocks hin hA hP hD hS hl
  have hx := X.1
  have hb := X.2.1
  have hK := X.2.2.2.2.2.1
  have hl : lv_has ls 5 [(0, .ref h0), (1, .int p1), (2, .int p2), (3, .int p3)] := hl
  refine lv_aload_n hx hb dX13_rambleFalls_0 rfl (lv_at hl 0 rfl) ?_
  refine lv_iconst (v := 0) hx hb dX13_rambleFalls_1 (by decide) ?_
  refine r_put X kcX13 (ci := 12) rfl hP hD hS 0 rfl 0 (by decide) fX13_42 rfl rfl rfl (Nat.le_of_ble_eq_true rfl) dX13_rambleFalls_2 (fun H locs hP hD hS => ?_)
  have hP : va_P (dC, dI) vwCl [(h0, .inr (12, [.int 0, .int g1, .int g2, .null, g4, g5, .int g6, .int g7, .int g8, .int g9, .int g10, .int g11, .int g12, .int g13, .int g14, .long g15, g16, g17, g18, g19, .int g20, .int g21, g22, g23, g24, .int g25, g26, .int g27, .int g28, .int g29, .int g30]))] H := hP
  have hD : va_D A [(h0, .inr (12, [.int 0, .int g1, .int g2, .null, g4, g5, .int g6, .int g7, .int g8, .int g9, .int g10, .int g11, .int g12, .int g13, .int g14, .long g15, g16, g17, g18, g19, .int g20, .int g21, g22, g23, g24, .int g25, g26, .int g27, .int g28, .int g29, .int g30]))] := hD
  refine lv_aload_n hx hb dX13_rambleFalls_5 rfl (lv_at hl 0 rfl) ?_
  refine lv_iload_n hx hb dX13_rambleFalls_6 rfl (lv_at hl 1 rfl) ?_
  refine lv_iload_n hx hb dX13_rambleFalls_7 rfl (lv_at hl 2 rfl) ?_
  refine lv_iload_n hx hb dX13_rambleFalls_8 rfl (lv_at hl 3 rfl) ?_
  refine fI (wr := []) (rV_I (wc := [(h0, .inr (12, [.int 0, .int g1, .int g2, .null, g4, g5, .int g6, .int g7, .int g8, .int g9, .int g10, .int g11, .int g12, .int g13, .int g14, .long g15, g16, g17, g18, g19, .int g20, .int g21, g22, g23, g24, .int g25, g26, .int g27, .int g28, .int g29, .int g30]))]) (As := [.int p1, .int p2, .int p3]) (rest := []) X (tX13_refusesSeed l dC dI cy h0 0 g1 g2 g4 g5 g6 g7 g8 g9 g10 g11 g12 g13 g14 g15 g16 g17 g18 g19 g20 g21 g22 g23 g24 g25 g26 g27 g28 g29 g30 p1 p2 p3) kX13_refusesSeed vX13_refusesSeed mX13_438 hP hD [0] (by decide) rfl 0 (ci := 12) rfl rfl rfl hl rfl rfl (Nat.le_of_ble_eq_true rfl) dX13_rambleFalls_9 ⟨Nat.le_of_ble_eq_true rfl, Nat.le_of_ble_eq_true rfl⟩ ⟨Nat.le_of_ble_eq_true rfl, Nat.le_of_ble_eq_true rfl⟩) hP hD hS hA [0] [] rfl rfl (by decide) (by decide) (fun r_1 u_3 H locs k_2 hP hD hS => ?_)
  have hP : va_P (dC, dI) vwCl [(h0, .inr (12, [.int 0, .int g1, .int g2, .null, g4, g5, .int g6, .int g7, .int g8, .int g9, .int g10, .int g11, .int g12, .int g13, .int g14, .long g15, g16, g17, g18, g19, .int g20, .int g21, g22, g23, g24, .int g25, g26, .int g27, .int g28, .int g29, .int g30]))] H := hP
  have hD : va_D A [(h0, .inr (12, [.int 0, .int g1, .int g2, .null, g4, g5, .int g6, .int g7, .int g8, .int g9, .int g10, .int g11, .int g12, .int g13, .int g14, .long g15, g16, g17, g18, g19, .int g20, .int g21, g22, g23, g24, .int g25, g26, .int g27, .int g28, .int g29, .int g30]))] := hD
  have er_1 : r_1 = 1 := k_2
  subst er_1
  refine lv_istore (lv' := [(4, .int 1), (0, .ref h0), (1, .int p1), (2, .int p2), (3, .int p3)]) hx hb dX13_rambleFalls_12 hl (by decide) rfl (fun ls hl => ?_)
  refine lv_iload hx hb dX13_rambleFalls_14 (lv_at hl 0 rfl) ?_
  refine lv_if_le (tgt := 26) hx hb dX13_rambleFalls_16 (by decide) (fun h_4 => absurd h_4 (by decide)) (fun _ => ?_)
  refine lv_aload_n hx hb dX13_rambleFalls_19 rfl (lv_at hl 1 rfl) ?_
  refine lv_iload hx hb dX13_rambleFalls_20 (lv_at hl 0 rfl) ?_
  refine fI (wr := []) (rV_I (wc := [(h0, .inr (12, [.int 0, .int g1, .int g2, .null, g4, g5, .int g6, .int g7, .int g8, .int g9, .int g10, .int g11, .int g12, .int g13, .int g14, .long g15, g16, g17, g18, g19, .int g20, .int g21, g22, g23, g24, .int g25, g26, .int g27, .int g28, .int g29, .int g30]))]) (As := [.int 1]) (rest := []) X (tX13_refused l dC dI cy h0 0 g1 g2 .null g4 g5 g6 g7 g8 g9 g10 g11 g12 g13 g14 g15 g16 g17 g18 g19 g20 g21 g22 g23 g24 g25 g26 g27 g28 g29 g30 1) kX13_refused vX13_refused mX13_48 hP hD [0] (by decide) rfl 0 (ci := 12) rfl rfl rfl hl rfl rfl (Nat.le_of_ble_eq_true rfl) dX13_rambleFalls_22 ⟨Nat.le_of_ble_eq_true rfl, Nat.le_of_ble_eq_true rfl⟩ ⟨Nat.le_of_ble_eq_true rfl, Nat.le_of_ble_eq_true rfl⟩) hP hD hS hA [0] [] rfl rfl (by decide) (by decide) (fun r_5 u_7 H locs k_6 hP hD hS => ?_)
  have hP : va_P (dC, dI) vwCl [] H := hP
  have hD : va_D A [] := hD
  have er_5 : r_5 = -1 := k_6
  subst er_5
  exact eI X hr hlocks hP hD hS () [] (by decide) rfl rfl rfl (Nat.le_of_ble_eq_true rfl) (Nat.le_of_ble_eq_true rfl) dX13_rambleFalls_25
set_option maxHeartbeats 4000000 in
set_option maxRecDepth 100000 in
theorem tX13_strayed (l : Launch) (dC : Nat → ClassId) (dI : Nat → Nat → Nat) (cy : Nat → ClassId) (h0 : Nat) (g0 : Int32) (g1 : Int32) (g2 : Int32) (g4 : Value) (g5 : Value) (g6 : Int32) (g7 : Int32) (g8 : Int32) (g9 : Int32) (g10 : Int32) (g11 : Int32) (g12 : Int32) (g13 : Int32) (g14 : Int32) (g15 : Int64) (g16 : Value) (g17 : Value) (g18 : Value) (g19 : Value) (g20 : Int32) (g21 : Int32) (g22 : Value) (g23 : Value) (g24 : Value) (g25 : Int32) (g26 : Value) (g27 : Int32) (g28 : Int32) (g29 : Int32) (g30 : Int32) (p1 : Int32) (p2 : Int32) (p3 : Int32) : ctI l dC dI cy yX13_strayed cX13_strayed 5 .int ({ frames := 2, cells := 0, slots := 0, locals := 44 }) [.ref h0, .int p1, .int p2, .int p3] [(h0, .inr (12, [.int g0, .int g1, .int g2, .null, g4, g5, .int g6, .int g7, .int g8, .int g9, .int g10, .int g11, .int g12, .int g13, .int g14, .long g15, g16, g17, g18, g19, .int g20, .int g21, g22, g23, g24, .int g25, g26, .int g27, .int g28, .int g29, .int g30]))] (S := Unit) (fun r _ => r = -1) (fun _ => []) := by
  refine ctI.of (by decide +kernel) (Nat.le_of_ble_eq_true rfl) ?_
  intro p e s m args below meth c A ls X hr hlocks hin hA hP hD hS hl
  have hx := X.1
  have hb := X.2.1
  have hK := X.2.2.2.2.2.1
  have hl : lv_has ls 5 [(0, .ref h0), (1, .int p1), (2, .int p2), (3, .int p3)] := hl
  refine lv_aload_n hx hb dX13_strayed_0 rfl (lv_at hl 0 rfl) ?_
  refine lv_iconst (v := 0) hx hb dX13_strayed_1 (by decide) ?_
  refine r_put X kcX13 (ci := 12) rfl hP hD hS 0 rfl 0 (by decide) fX13_42 rfl rfl rfl (Nat.le_of_ble_eq_true rfl) dX13_strayed_2 (fun H locs hP hD hS => ?_)
  have hP : va_P (dC, dI) vwCl [(h0, .inr (12, [.int 0, .int g1, .int g2, .null, g4, g5, .int g6, .int g7, .int g8, .int g9, .int g10, .int g11, .int g12, .int g13, .int g14, .long g15, g16, g17, g18, g19, .int g20, .int g21, g22, g23, g24, .int g25, g26, .int g27, .int g28, .int g29, .int g30]))] H := hP
  have hD : va_D A [(h0, .inr (12, [.int 0, .int g1, .int g2, .null, g4, g5, .int g6, .int g7, .int g8, .int g9, .int g10, .int g11, .int g12, .int g13, .int g14, .long g15, g16, g17, g18, g19, .int g20, .int g21, g22, g23, g24, .int g25, g26, .int g27, .int g28, .int g29, .int g30]))] := hD
  refine lv_aload_n hx hb dX13_strayed_5 rfl (lv_at hl 0 rfl) ?_
  refine lv_iload_n hx hb dX13_strayed_6 rfl (lv_at hl 1 rfl) ?_
  refine lv_iload_n hx hb dX13_strayed_7 rfl (lv_at hl 2 rfl) ?_
  refine lv_iload_n hx hb dX13_strayed_8 rfl (lv_at hl 3 rfl) ?_
  refine fI (wr := []) (rV_I (wc := [(h0, .inr (12, [.int 0, .int g1, .int g2, .null, g4, g5, .int g6, .int g7, .int g8, .int g9, .int g10, .int g11, .int g12, .int g13, .int g14, .long g15, g16, g17, g18, g19, .int g20, .int g21, g22, g23, g24, .int g25, g26, .int g27, .int g28, .int g29, .int g30]))]) (As := [.int p1, .int p2, .int p3]) (rest := []) X (tX13_refusesSeed l dC dI cy h0 0 g1 g2 g4 g5 g6 g7 g8 g9 g10 g11 g12 g13 g14 g15 g16 g17 g18 g19 g20 g21 g22 g23 g24 g25 g26 g27 g28 g29 g30 p1 p2 p3) kX13_refusesSeed vX13_refusesSeed mX13_438 hP hD [0] (by decide) rfl 0 (ci := 12) rfl rfl rfl hl rfl rfl (Nat.le_of_ble_eq_true rfl) dX13_strayed_9 ⟨Nat.le_of_ble_eq_true rfl, Nat.le_of_ble_eq_true rfl⟩ ⟨Nat.le_of_ble_eq_true rfl, Nat.le_of_ble_eq_true rfl⟩) hP hD hS hA [0] [] rfl rfl (by decide) (by decide) (fun r_1 u_3 H locs k_2 hP hD hS => ?_)
  have hP : va_P (dC, dI) vwCl [(h0, .inr (12, [.int 0, .int g1, .int g2, .null, g4, g5, .int g6, .int g7, .int g8, .int g9, .int g10, .int g11, .int g12, .int g13, .int g14, .long g15, g16, g17, g18, g19, .int g20, .int g21, g22, g23, g24, .int g25, g26, .int g27, .int g28, .int g29, .int g30]))] H := hP
  have hD : va_D A [(h0, .inr (12, [.int 0, .int g1, .int g2, .null, g4, g5, .int g6, .int g7, .int g8, .int g9, .int g10, .int g11, .int g12, .int g13, .int g14, .long g15, g16, g17, g18, g19, .int g20, .int g21, g22, g23, g24, .int g25, g26, .int g27, .int g28, .int g29, .int g30]))] := hD
  have er_1 : r_1 = 1 := k_2
  subst er_1
  refine lv_istore (lv' := [(4, .int 1), (0, .ref h0), (1, .int p1), (2, .int p2), (3, .int p3)]) hx hb dX13_strayed_12 hl (by decide) rfl (fun ls hl => ?_)
  refine lv_iload hx hb dX13_strayed_14 (lv_at hl 0 rfl) ?_
  refine lv_if_le (tgt := 26) hx hb dX13_strayed_16 (by decide) (fun h_4 => absurd h_4 (by decide)) (fun _ => ?_)
  refine lv_aload_n hx hb dX13_strayed_19 rfl (lv_at hl 1 rfl) ?_
  refine lv_iload hx hb dX13_strayed_20 (lv_at hl 0 rfl) ?_
  refine fI (wr := []) (rV_I (wc := [(h0, .inr (12, [.int 0, .int g1, .int g2, .null, g4, g5, .int g6, .int g7, .int g8, .int g9, .int g10, .int g11, .int g12, .int g13, .int g14, .long g15, g16, g17, g18, g19, .int g20, .int g21, g22, g23, g24, .int g25, g26, .int g27, .int g28, .int g29, .int g30]))]) (As := [.int 1]) (rest := []) X (tX13_refused l dC dI cy h0 0 g1 g2 .null g4 g5 g6 g7 g8 g9 g10 g11 g12 g13 g14 g15 g16 g17 g18 g19 g20 g21 g22 g23 g24 g25 g26 g27 g28 g29 g30 1) kX13_refused vX13_refused mX13_48 hP hD [0] (by decide) rfl 0 (ci := 12) rfl rfl rfl hl rfl rfl (Nat.le_of_ble_eq_true rfl) dX13_strayed_22 ⟨Nat.le_of_ble_eq_true rfl, Nat.le_of_ble_eq_true rfl⟩ ⟨Nat.le_of_ble_eq_true rfl, Nat.le_of_ble_eq_true rfl⟩) hP hD hS hA [0] [] rfl rfl (by decide) (by decide) (fun r_5 u_7 H locs k_6 hP hD hS => ?_)
  have hP : va_P (dC, dI) vwCl [] H := hP
  have hD : va_D A [] := hD
  have er_5 : r_5 = -1 := k_6
  subst er_5
  exact eI X hr hlocks hP hD hS () [] (by decide) rfl rfl rfl (Nat.le_of_ble_eq_true rfl) (Nat.le_of_ble_eq_true rfl) dX13_strayed_25
set_option maxHeartbeats 4000000 in
set_option maxRecDepth 100000 in
theorem tX13_step (l : Launch) (dC : Nat → ClassId) (dI : Nat → Nat → Nat) (cy : Nat → ClassId) (h0 : Nat) (g0 : Int32) (g1 : Int32) (g2 : Int32) (g4 : Value) (g5 : Value) (g6 : Int32) (g7 : Int32) (g8 : Int32) (g9 : Int32) (g10 : Int32) (g11 : Int32) (g12 : Int32) (g13 : Int32) (g14 : Int32) (g15 : Int64) (g16 : Value) (g17 : Value) (g18 : Value) (g19 : Value) (g20 : Int32) (g21 : Int32) (g22 : Value) (g23 : Value) (g24 : Value) (g25 : Int32) (g26 : Value) (g27 : Int32) (g28 : Int32) (g29 : Int32) (g30 : Int32) (p1 : Int32) (p2 : Int32) : ctI l dC dI cy yX13_step cX13_step 5 .int ({ frames := 1, cells := 0, slots := 0, locals := 21 }) [.ref h0, .int p1, .int p2] [(h0, .inr (12, [.int g0, .int g1, .int g2, .null, g4, g5, .int g6, .int g7, .int g8, .int g9, .int g10, .int g11, .int g12, .int g13, .int g14, .long g15, g16, g17, g18, g19, .int g20, .int g21, g22, g23, g24, .int g25, g26, .int g27, .int g28, .int g29, .int g30]))] (S := Unit) (fun r _ => r = -1) (fun _ => []) := by
  refine ctI.of (by decide +kernel) (Nat.le_of_ble_eq_true rfl) ?_
  intro p e s m args below meth c A ls X hr hlocks hin hA hP hD hS hl
  have hx := X.1
  have hb := X.2.1
  have hK := X.2.2.2.2.2.1
  have hl : lv_has ls 5 [(0, .ref h0), (1, .int p1), (2, .int p2)] := hl
  refine lv_aload_n hx hb dX13_step_0 rfl (lv_at hl 0 rfl) ?_
  refine lv_iconst (v := 0) hx hb dX13_step_1 (by decide) ?_
  refine r_put X kcX13 (ci := 12) rfl hP hD hS 0 rfl 0 (by decide) fX13_42 rfl rfl rfl (Nat.le_of_ble_eq_true rfl) dX13_step_2 (fun H locs hP hD hS => ?_)
  have hP : va_P (dC, dI) vwCl [(h0, .inr (12, [.int 0, .int g1, .int g2, .null, g4, g5, .int g6, .int g7, .int g8, .int g9, .int g10, .int g11, .int g12, .int g13, .int g14, .long g15, g16, g17, g18, g19, .int g20, .int g21, g22, g23, g24, .int g25, g26, .int g27, .int g28, .int g29, .int g30]))] H := hP
  have hD : va_D A [(h0, .inr (12, [.int 0, .int g1, .int g2, .null, g4, g5, .int g6, .int g7, .int g8, .int g9, .int g10, .int g11, .int g12, .int g13, .int g14, .long g15, g16, g17, g18, g19, .int g20, .int g21, g22, g23, g24, .int g25, g26, .int g27, .int g28, .int g29, .int g30]))] := hD
  refine lv_aload_n hx hb dX13_step_5 rfl (lv_at hl 0 rfl) ?_
  refine lv_iload_n hx hb dX13_step_6 rfl (lv_at hl 1 rfl) ?_
  refine fI (wr := []) (rV_I (wc := [(h0, .inr (12, [.int 0, .int g1, .int g2, .null, g4, g5, .int g6, .int g7, .int g8, .int g9, .int g10, .int g11, .int g12, .int g13, .int g14, .long g15, g16, g17, g18, g19, .int g20, .int g21, g22, g23, g24, .int g25, g26, .int g27, .int g28, .int g29, .int g30]))]) (As := [.int p1]) (rest := []) X (tX13_isWalker l dC dI cy h0 0 g1 g2 g4 g5 g6 g7 g8 g9 g10 g11 g12 g13 g14 g15 g16 g17 g18 g19 g20 g21 g22 g23 g24 g25 g26 g27 g28 g29 g30 p1) kX13_isWalker vX13_isWalker mX13_311 hP hD [0] (by decide) rfl 0 (ci := 12) rfl rfl rfl hl rfl rfl (Nat.le_of_ble_eq_true rfl) dX13_step_7 ⟨Nat.le_of_ble_eq_true rfl, Nat.le_of_ble_eq_true rfl⟩ ⟨Nat.le_of_ble_eq_true rfl, Nat.le_of_ble_eq_true rfl⟩) hP hD hS hA [0] [] rfl rfl (by decide) (by decide) (fun r_1 u_3 H locs k_2 hP hD hS => ?_)
  have hP : va_P (dC, dI) vwCl [(h0, .inr (12, [.int 0, .int g1, .int g2, .null, g4, g5, .int g6, .int g7, .int g8, .int g9, .int g10, .int g11, .int g12, .int g13, .int g14, .long g15, g16, g17, g18, g19, .int g20, .int g21, g22, g23, g24, .int g25, g26, .int g27, .int g28, .int g29, .int g30]))] H := hP
  have hD : va_D A [(h0, .inr (12, [.int 0, .int g1, .int g2, .null, g4, g5, .int g6, .int g7, .int g8, .int g9, .int g10, .int g11, .int g12, .int g13, .int g14, .long g15, g16, g17, g18, g19, .int g20, .int g21, g22, g23, g24, .int g25, g26, .int g27, .int g28, .int g29, .int g30]))] := hD
  have er_1 : r_1 = 0 := k_2
  subst er_1
  refine lv_if_ne (tgt := 19) hx hb dX13_step_10 (by decide) (fun h_4 => absurd (by decide) h_4) (fun _ => ?_)
  refine lv_aload_n hx hb dX13_step_13 rfl (lv_at hl 0 rfl) ?_
  refine lv_iconst (v := 1) hx hb dX13_step_14 (by decide) ?_
  refine fI (wr := []) (rV_I (wc := [(h0, .inr (12, [.int 0, .int g1, .int g2, .null, g4, g5, .int g6, .int g7, .int g8, .int g9, .int g10, .int g11, .int g12, .int g13, .int g14, .long g15, g16, g17, g18, g19, .int g20, .int g21, g22, g23, g24, .int g25, g26, .int g27, .int g28, .int g29, .int g30]))]) (As := [.int 1]) (rest := []) X (tX13_refused l dC dI cy h0 0 g1 g2 .null g4 g5 g6 g7 g8 g9 g10 g11 g12 g13 g14 g15 g16 g17 g18 g19 g20 g21 g22 g23 g24 g25 g26 g27 g28 g29 g30 1) kX13_refused vX13_refused mX13_48 hP hD [0] (by decide) rfl 0 (ci := 12) rfl rfl rfl hl rfl rfl (Nat.le_of_ble_eq_true rfl) dX13_step_15 ⟨Nat.le_of_ble_eq_true rfl, Nat.le_of_ble_eq_true rfl⟩ ⟨Nat.le_of_ble_eq_true rfl, Nat.le_of_ble_eq_true rfl⟩) hP hD hS hA [0] [] rfl rfl (by decide) (by decide) (fun r_5 u_7 H locs k_6 hP hD hS => ?_)
  have hP : va_P (dC, dI) vwCl [] H := hP
  have hD : va_D A [] := hD
  have er_5 : r_5 = -1 := k_6
  subst er_5
  exact eI X hr hlocks hP hD hS () [] (by decide) rfl rfl rfl (Nat.le_of_ble_eq_true rfl) (Nat.le_of_ble_eq_true rfl) dX13_step_18
set_option maxHeartbeats 4000000 in
set_option maxRecDepth 100000 in
theorem tX13_image (l : Launch) (dC : Nat → ClassId) (dI : Nat → Nat → Nat) (cy : Nat → ClassId) (h0 : Nat) (g0 : Int32) (g1 : Int32) (g2 : Int32) (g4 : Value) (g5 : Value) (g6 : Int32) (g7 : Int32) (g8 : Int32) (g9 : Int32) (g10 : Int32) (g11 : Int32) (g12 : Int32) (g13 : Int32) (g14 : Int32) (g15 : Int64) (g16 : Value) (g17 : Value) (g18 : Value) (g19 : Value) (g20 : Int32) (g21 : Int32) (g22 : Value) (g23 : Value) (g24 : Value) (g25 : Int32) (g26 : Value) (g27 : Int32) (g28 : Int32) (g29 : Int32) (g30 : Int32) : ctI l dC dI cy yX13_image cX13_image 2 .int ({ frames := 1, cells := 0, slots := 0, locals := 21 }) [.ref h0] [(h0, .inr (12, [.int g0, .int g1, .int g2, .null, g4, g5, .int g6, .int g7, .int g8, .int g9, .int g10, .int g11, .int g12, .int g13, .int g14, .long g15, g16, g17, g18, g19, .int g20, .int g21, g22, g23, g24, .int g25, g26, .int g27, .int g28, .int g29, .int g30]))] (S := Unit) (fun r _ => r = -1) (fun _ => []) := by
  refine ctI.of (by decide +kernel) (Nat.le_of_ble_eq_true rfl) ?_
  intro p e s m args below meth c A ls X hr hlocks hin hA hP hD hS hl
  have hx := X.1
  have hb := X.2.1
  have hK := X.2.2.2.2.2.1
  have hl : lv_has ls 2 [(0, .ref h0)] := hl
  refine lv_aload_n hx hb dX13_image_0 rfl (lv_at hl 0 rfl) ?_
  refine lv_iconst (v := 0) hx hb dX13_image_1 (by decide) ?_
  refine r_put X kcX13 (ci := 12) rfl hP hD hS 0 rfl 0 (by decide) fX13_42 rfl rfl rfl (Nat.le_of_ble_eq_true rfl) dX13_image_2 (fun H locs hP hD hS => ?_)
  have hP : va_P (dC, dI) vwCl [(h0, .inr (12, [.int 0, .int g1, .int g2, .null, g4, g5, .int g6, .int g7, .int g8, .int g9, .int g10, .int g11, .int g12, .int g13, .int g14, .long g15, g16, g17, g18, g19, .int g20, .int g21, g22, g23, g24, .int g25, g26, .int g27, .int g28, .int g29, .int g30]))] H := hP
  have hD : va_D A [(h0, .inr (12, [.int 0, .int g1, .int g2, .null, g4, g5, .int g6, .int g7, .int g8, .int g9, .int g10, .int g11, .int g12, .int g13, .int g14, .long g15, g16, g17, g18, g19, .int g20, .int g21, g22, g23, g24, .int g25, g26, .int g27, .int g28, .int g29, .int g30]))] := hD
  refine lv_aload_n hx hb dX13_image_5 rfl (lv_at hl 0 rfl) ?_
  refine r_get X kcX13 (ci := 12) rfl hP 0 rfl 3 (by decide) fX13_269 rfl dX13_image_6 ?_
  refine lv_ifnonnullN hx hb dX13_image_9 ?_
  refine lv_aload_n hx hb dX13_image_12 rfl (lv_at hl 0 rfl) ?_
  refine lv_iconst (v := 1) hx hb dX13_image_13 (by decide) ?_
  refine fI (wr := []) (rV_I (wc := [(h0, .inr (12, [.int 0, .int g1, .int g2, .null, g4, g5, .int g6, .int g7, .int g8, .int g9, .int g10, .int g11, .int g12, .int g13, .int g14, .long g15, g16, g17, g18, g19, .int g20, .int g21, g22, g23, g24, .int g25, g26, .int g27, .int g28, .int g29, .int g30]))]) (As := [.int 1]) (rest := []) X (tX13_refused l dC dI cy h0 0 g1 g2 .null g4 g5 g6 g7 g8 g9 g10 g11 g12 g13 g14 g15 g16 g17 g18 g19 g20 g21 g22 g23 g24 g25 g26 g27 g28 g29 g30 1) kX13_refused vX13_refused mX13_48 hP hD [0] (by decide) rfl 0 (ci := 12) rfl rfl rfl hl rfl rfl (Nat.le_of_ble_eq_true rfl) dX13_image_14 ⟨Nat.le_of_ble_eq_true rfl, Nat.le_of_ble_eq_true rfl⟩ ⟨Nat.le_of_ble_eq_true rfl, Nat.le_of_ble_eq_true rfl⟩) hP hD hS hA [0] [] rfl rfl (by decide) (by decide) (fun r_1 u_3 H locs k_2 hP hD hS => ?_)
  have hP : va_P (dC, dI) vwCl [] H := hP
  have hD : va_D A [] := hD
  have er_1 : r_1 = -1 := k_2
  subst er_1
  exact eI X hr hlocks hP hD hS () [] (by decide) rfl rfl rfl (Nat.le_of_ble_eq_true rfl) (Nat.le_of_ble_eq_true rfl) dX13_image_17
set_option maxHeartbeats 4000000 in
set_option maxRecDepth 100000 in
theorem tX13_odds (l : Launch) (dC : Nat → ClassId) (dI : Nat → Nat → Nat) (cy : Nat → ClassId) (h0 : Nat) (g0 : Int32) (g1 : Int32) (g2 : Int32) (g4 : Value) (g5 : Value) (g6 : Int32) (g7 : Int32) (g8 : Int32) (g9 : Int32) (g10 : Int32) (g11 : Int32) (g12 : Int32) (g13 : Int32) (g14 : Int32) (g15 : Int64) (g16 : Value) (g17 : Value) (g18 : Value) (g19 : Value) (g20 : Int32) (g21 : Int32) (g22 : Value) (g23 : Value) (g24 : Value) (g25 : Int32) (g26 : Value) (g27 : Int32) (g28 : Int32) (g29 : Int32) (g30 : Int32) (p1 : Int32) (p2 : Int32) : ctL l dC dI cy yX13_odds cX13_odds 8 ({ frames := 1, cells := 0, slots := 0, locals := 21 }) [.ref h0, .int p1, .int p2] [(h0, .inr (12, [.int g0, .int g1, .int g2, .null, g4, g5, .int g6, .int g7, .int g8, .int g9, .int g10, .int g11, .int g12, .int g13, .int g14, .long g15, g16, g17, g18, g19, .int g20, .int g21, g22, g23, g24, .int g25, g26, .int g27, .int g28, .int g29, .int g30]))] (S := Unit) (fun r _ => r = -1) (fun _ => []) := by
  refine ctL.of (by decide +kernel) (Nat.le_of_ble_eq_true rfl) ?_
  intro p e s m args below meth c A ls X hr hlocks hin hA hP hD hS hl
  have hx := X.1
  have hb := X.2.1
  have hK := X.2.2.2.2.2.1
  have hl : lv_has ls 8 [(0, .ref h0), (1, .int p1), (2, .int p2)] := hl
  refine lv_aload_n hx hb dX13_odds_0 rfl (lv_at hl 0 rfl) ?_
  refine lv_iconst (v := 0) hx hb dX13_odds_1 (by decide) ?_
  refine r_put X kcX13 (ci := 12) rfl hP hD hS 0 rfl 0 (by decide) fX13_42 rfl rfl rfl (Nat.le_of_ble_eq_true rfl) dX13_odds_2 (fun H locs hP hD hS => ?_)
  have hP : va_P (dC, dI) vwCl [(h0, .inr (12, [.int 0, .int g1, .int g2, .null, g4, g5, .int g6, .int g7, .int g8, .int g9, .int g10, .int g11, .int g12, .int g13, .int g14, .long g15, g16, g17, g18, g19, .int g20, .int g21, g22, g23, g24, .int g25, g26, .int g27, .int g28, .int g29, .int g30]))] H := hP
  have hD : va_D A [(h0, .inr (12, [.int 0, .int g1, .int g2, .null, g4, g5, .int g6, .int g7, .int g8, .int g9, .int g10, .int g11, .int g12, .int g13, .int g14, .long g15, g16, g17, g18, g19, .int g20, .int g21, g22, g23, g24, .int g25, g26, .int g27, .int g28, .int g29, .int g30]))] := hD
  refine lv_aload_n hx hb dX13_odds_5 rfl (lv_at hl 0 rfl) ?_
  refine r_get X kcX13 (ci := 12) rfl hP 0 rfl 3 (by decide) fX13_269 rfl dX13_odds_6 ?_
  refine lv_ifnullN (tgt := 27) hx hb dX13_odds_9 (by decide) ?_
  refine lv_aload_n hx hb dX13_odds_27 rfl (lv_at hl 0 rfl) ?_
  refine lv_iconst (v := 1) hx hb dX13_odds_28 (by decide) ?_
  refine fI (wr := []) (rV_I (wc := [(h0, .inr (12, [.int 0, .int g1, .int g2, .null, g4, g5, .int g6, .int g7, .int g8, .int g9, .int g10, .int g11, .int g12, .int g13, .int g14, .long g15, g16, g17, g18, g19, .int g20, .int g21, g22, g23, g24, .int g25, g26, .int g27, .int g28, .int g29, .int g30]))]) (As := [.int 1]) (rest := []) X (tX13_refused l dC dI cy h0 0 g1 g2 .null g4 g5 g6 g7 g8 g9 g10 g11 g12 g13 g14 g15 g16 g17 g18 g19 g20 g21 g22 g23 g24 g25 g26 g27 g28 g29 g30 1) kX13_refused vX13_refused mX13_48 hP hD [0] (by decide) rfl 0 (ci := 12) rfl rfl rfl hl rfl rfl (Nat.le_of_ble_eq_true rfl) dX13_odds_29 ⟨Nat.le_of_ble_eq_true rfl, Nat.le_of_ble_eq_true rfl⟩ ⟨Nat.le_of_ble_eq_true rfl, Nat.le_of_ble_eq_true rfl⟩) hP hD hS hA [0] [] rfl rfl (by decide) (by decide) (fun r_1 u_3 H locs k_2 hP hD hS => ?_)
  have hP : va_P (dC, dI) vwCl [] H := hP
  have hD : va_D A [] := hD
  have er_1 : r_1 = -1 := k_2
  subst er_1
  refine lv_i2l (v := -1) hx hb dX13_odds_32 (by decide) ?_
  exact eL X hr hlocks hP hD hS () [] (by decide) rfl rfl (Nat.le_of_ble_eq_true rfl) (Nat.le_of_ble_eq_true rfl) dX13_odds_33
set_option maxHeartbeats 4000000 in
set_option maxRecDepth 100000 in
theorem tX13_walkOdds (l : Launch) (dC : Nat → ClassId) (dI : Nat → Nat → Nat) (cy : Nat → ClassId) (h0 : Nat) (g0 : Int32) (g1 : Int32) (g2 : Int32) (g4 : Value) (g5 : Value) (g6 : Int32) (g7 : Int32) (g8 : Int32) (g9 : Int32) (g10 : Int32) (g11 : Int32) (g12 : Int32) (g13 : Int32) (g14 : Int32) (g15 : Int64) (g16 : Value) (g17 : Value) (g18 : Value) (g19 : Value) (g20 : Int32) (g21 : Int32) (g22 : Value) (g23 : Value) (g24 : Value) (g25 : Int32) (g26 : Value) (g27 : Int32) (g28 : Int32) (g29 : Int32) (g30 : Int32) (p1 : Int32) (p2 : Int32) (p3 : Int32) : ctL l dC dI cy yX13_walkOdds cX13_walkOdds 9 ({ frames := 1, cells := 0, slots := 0, locals := 21 }) [.ref h0, .int p1, .int p2, .int p3] [(h0, .inr (12, [.int g0, .int g1, .int g2, .null, g4, g5, .int g6, .int g7, .int g8, .int g9, .int g10, .int g11, .int g12, .int g13, .int g14, .long g15, g16, g17, g18, g19, .int g20, .int g21, g22, g23, g24, .int g25, g26, .int g27, .int g28, .int g29, .int g30]))] (S := Unit) (fun r _ => r = -1) (fun _ => []) := by
  refine ctL.of (by decide +kernel) (Nat.le_of_ble_eq_true rfl) ?_
  intro p e s m args below meth c A ls X hr hlocks hin hA hP hD hS hl
  have hx := X.1
  have hb := X.2.1
  have hK := X.2.2.2.2.2.1
  have hl : lv_has ls 9 [(0, .ref h0), (1, .int p1), (2, .int p2), (3, .int p3)] := hl
  refine lv_aload_n hx hb dX13_walkOdds_0 rfl (lv_at hl 0 rfl) ?_
  refine lv_iconst (v := 0) hx hb dX13_walkOdds_1 (by decide) ?_
  refine r_put X kcX13 (ci := 12) rfl hP hD hS 0 rfl 0 (by decide) fX13_42 rfl rfl rfl (Nat.le_of_ble_eq_true rfl) dX13_walkOdds_2 (fun H locs hP hD hS => ?_)
  have hP : va_P (dC, dI) vwCl [(h0, .inr (12, [.int 0, .int g1, .int g2, .null, g4, g5, .int g6, .int g7, .int g8, .int g9, .int g10, .int g11, .int g12, .int g13, .int g14, .long g15, g16, g17, g18, g19, .int g20, .int g21, g22, g23, g24, .int g25, g26, .int g27, .int g28, .int g29, .int g30]))] H := hP
  have hD : va_D A [(h0, .inr (12, [.int 0, .int g1, .int g2, .null, g4, g5, .int g6, .int g7, .int g8, .int g9, .int g10, .int g11, .int g12, .int g13, .int g14, .long g15, g16, g17, g18, g19, .int g20, .int g21, g22, g23, g24, .int g25, g26, .int g27, .int g28, .int g29, .int g30]))] := hD
  refine lv_aload_n hx hb dX13_walkOdds_5 rfl (lv_at hl 0 rfl) ?_
  refine lv_iload_n hx hb dX13_walkOdds_6 rfl (lv_at hl 1 rfl) ?_
  refine fI (wr := []) (rV_I (wc := [(h0, .inr (12, [.int 0, .int g1, .int g2, .null, g4, g5, .int g6, .int g7, .int g8, .int g9, .int g10, .int g11, .int g12, .int g13, .int g14, .long g15, g16, g17, g18, g19, .int g20, .int g21, g22, g23, g24, .int g25, g26, .int g27, .int g28, .int g29, .int g30]))]) (As := [.int p1]) (rest := []) X (tX13_isPlace l dC dI cy h0 0 g1 g2 g4 g5 g6 g7 g8 g9 g10 g11 g12 g13 g14 g15 g16 g17 g18 g19 g20 g21 g22 g23 g24 g25 g26 g27 g28 g29 g30 p1) kX13_isPlace vX13_isPlace mX13_302 hP hD [0] (by decide) rfl 0 (ci := 12) rfl rfl rfl hl rfl rfl (Nat.le_of_ble_eq_true rfl) dX13_walkOdds_7 ⟨Nat.le_of_ble_eq_true rfl, Nat.le_of_ble_eq_true rfl⟩ ⟨Nat.le_of_ble_eq_true rfl, Nat.le_of_ble_eq_true rfl⟩) hP hD hS hA [0] [] rfl rfl (by decide) (by decide) (fun r_1 u_3 H locs k_2 hP hD hS => ?_)
  have hP : va_P (dC, dI) vwCl [(h0, .inr (12, [.int 0, .int g1, .int g2, .null, g4, g5, .int g6, .int g7, .int g8, .int g9, .int g10, .int g11, .int g12, .int g13, .int g14, .long g15, g16, g17, g18, g19, .int g20, .int g21, g22, g23, g24, .int g25, g26, .int g27, .int g28, .int g29, .int g30]))] H := hP
  have hD : va_D A [(h0, .inr (12, [.int 0, .int g1, .int g2, .null, g4, g5, .int g6, .int g7, .int g8, .int g9, .int g10, .int g11, .int g12, .int g13, .int g14, .long g15, g16, g17, g18, g19, .int g20, .int g21, g22, g23, g24, .int g25, g26, .int g27, .int g28, .int g29, .int g30]))] := hD
  have er_1 : r_1 = 0 := k_2
  subst er_1
  refine lv_if_ne (tgt := 20) hx hb dX13_walkOdds_10 (by decide) (fun h_4 => absurd (by decide) h_4) (fun _ => ?_)
  refine lv_aload_n hx hb dX13_walkOdds_13 rfl (lv_at hl 0 rfl) ?_
  refine lv_iconst (v := 1) hx hb dX13_walkOdds_14 (by decide) ?_
  refine fI (wr := []) (rV_I (wc := [(h0, .inr (12, [.int 0, .int g1, .int g2, .null, g4, g5, .int g6, .int g7, .int g8, .int g9, .int g10, .int g11, .int g12, .int g13, .int g14, .long g15, g16, g17, g18, g19, .int g20, .int g21, g22, g23, g24, .int g25, g26, .int g27, .int g28, .int g29, .int g30]))]) (As := [.int 1]) (rest := []) X (tX13_refused l dC dI cy h0 0 g1 g2 .null g4 g5 g6 g7 g8 g9 g10 g11 g12 g13 g14 g15 g16 g17 g18 g19 g20 g21 g22 g23 g24 g25 g26 g27 g28 g29 g30 1) kX13_refused vX13_refused mX13_48 hP hD [0] (by decide) rfl 0 (ci := 12) rfl rfl rfl hl rfl rfl (Nat.le_of_ble_eq_true rfl) dX13_walkOdds_15 ⟨Nat.le_of_ble_eq_true rfl, Nat.le_of_ble_eq_true rfl⟩ ⟨Nat.le_of_ble_eq_true rfl, Nat.le_of_ble_eq_true rfl⟩) hP hD hS hA [0] [] rfl rfl (by decide) (by decide) (fun r_5 u_7 H locs k_6 hP hD hS => ?_)
  have hP : va_P (dC, dI) vwCl [] H := hP
  have hD : va_D A [] := hD
  have er_5 : r_5 = -1 := k_6
  subst er_5
  refine lv_i2l (v := -1) hx hb dX13_walkOdds_18 (by decide) ?_
  exact eL X hr hlocks hP hD hS () [] (by decide) rfl rfl (Nat.le_of_ble_eq_true rfl) (Nat.le_of_ble_eq_true rfl) dX13_walkOdds_19
set_option maxHeartbeats 4000000 in
set_option maxRecDepth 100000 in
theorem tX13_fallOdds (l : Launch) (dC : Nat → ClassId) (dI : Nat → Nat → Nat) (cy : Nat → ClassId) (h0 : Nat) (g0 : Int32) (g1 : Int32) (g2 : Int32) (g4 : Value) (g5 : Value) (g6 : Int32) (g7 : Int32) (g8 : Int32) (g9 : Int32) (g10 : Int32) (g11 : Int32) (g12 : Int32) (g13 : Int32) (g14 : Int32) (g15 : Int64) (g16 : Value) (g17 : Value) (g18 : Value) (g19 : Value) (g20 : Int32) (g21 : Int32) (g22 : Value) (g23 : Value) (g24 : Value) (g25 : Int32) (g26 : Value) (g27 : Int32) (g28 : Int32) (g29 : Int32) (g30 : Int32) (p1 : Int32) (p2 : Int32) (p3 : Int32) : ctL l dC dI cy yX13_fallOdds cX13_fallOdds 12 ({ frames := 1, cells := 0, slots := 0, locals := 21 }) [.ref h0, .int p1, .int p2, .int p3] [(h0, .inr (12, [.int g0, .int g1, .int g2, .null, g4, g5, .int g6, .int g7, .int g8, .int g9, .int g10, .int g11, .int g12, .int g13, .int g14, .long g15, g16, g17, g18, g19, .int g20, .int g21, g22, g23, g24, .int g25, g26, .int g27, .int g28, .int g29, .int g30]))] (S := Unit) (fun r _ => r = -1) (fun _ => []) := by
  refine ctL.of (by decide +kernel) (Nat.le_of_ble_eq_true rfl) ?_
  intro p e s m args below meth c A ls X hr hlocks hin hA hP hD hS hl
  have hx := X.1
  have hb := X.2.1
  have hK := X.2.2.2.2.2.1
  have hl : lv_has ls 12 [(0, .ref h0), (1, .int p1), (2, .int p2), (3, .int p3)] := hl
  refine lv_aload_n hx hb dX13_fallOdds_0 rfl (lv_at hl 0 rfl) ?_
  refine lv_iconst (v := 0) hx hb dX13_fallOdds_1 (by decide) ?_
  refine r_put X kcX13 (ci := 12) rfl hP hD hS 0 rfl 0 (by decide) fX13_42 rfl rfl rfl (Nat.le_of_ble_eq_true rfl) dX13_fallOdds_2 (fun H locs hP hD hS => ?_)
  have hP : va_P (dC, dI) vwCl [(h0, .inr (12, [.int 0, .int g1, .int g2, .null, g4, g5, .int g6, .int g7, .int g8, .int g9, .int g10, .int g11, .int g12, .int g13, .int g14, .long g15, g16, g17, g18, g19, .int g20, .int g21, g22, g23, g24, .int g25, g26, .int g27, .int g28, .int g29, .int g30]))] H := hP
  have hD : va_D A [(h0, .inr (12, [.int 0, .int g1, .int g2, .null, g4, g5, .int g6, .int g7, .int g8, .int g9, .int g10, .int g11, .int g12, .int g13, .int g14, .long g15, g16, g17, g18, g19, .int g20, .int g21, g22, g23, g24, .int g25, g26, .int g27, .int g28, .int g29, .int g30]))] := hD
  refine lv_aload_n hx hb dX13_fallOdds_5 rfl (lv_at hl 0 rfl) ?_
  refine lv_iload_n hx hb dX13_fallOdds_6 rfl (lv_at hl 1 rfl) ?_
  refine fI (wr := []) (rV_I (wc := [(h0, .inr (12, [.int 0, .int g1, .int g2, .null, g4, g5, .int g6, .int g7, .int g8, .int g9, .int g10, .int g11, .int g12, .int g13, .int g14, .long g15, g16, g17, g18, g19, .int g20, .int g21, g22, g23, g24, .int g25, g26, .int g27, .int g28, .int g29, .int g30]))]) (As := [.int p1]) (rest := []) X (tX13_isWalker l dC dI cy h0 0 g1 g2 g4 g5 g6 g7 g8 g9 g10 g11 g12 g13 g14 g15 g16 g17 g18 g19 g20 g21 g22 g23 g24 g25 g26 g27 g28 g29 g30 p1) kX13_isWalker vX13_isWalker mX13_311 hP hD [0] (by decide) rfl 0 (ci := 12) rfl rfl rfl hl rfl rfl (Nat.le_of_ble_eq_true rfl) dX13_fallOdds_7 ⟨Nat.le_of_ble_eq_true rfl, Nat.le_of_ble_eq_true rfl⟩ ⟨Nat.le_of_ble_eq_true rfl, Nat.le_of_ble_eq_true rfl⟩) hP hD hS hA [0] [] rfl rfl (by decide) (by decide) (fun r_1 u_3 H locs k_2 hP hD hS => ?_)
  have hP : va_P (dC, dI) vwCl [(h0, .inr (12, [.int 0, .int g1, .int g2, .null, g4, g5, .int g6, .int g7, .int g8, .int g9, .int g10, .int g11, .int g12, .int g13, .int g14, .long g15, g16, g17, g18, g19, .int g20, .int g21, g22, g23, g24, .int g25, g26, .int g27, .int g28, .int g29, .int g30]))] H := hP
  have hD : va_D A [(h0, .inr (12, [.int 0, .int g1, .int g2, .null, g4, g5, .int g6, .int g7, .int g8, .int g9, .int g10, .int g11, .int g12, .int g13, .int g14, .long g15, g16, g17, g18, g19, .int g20, .int g21, g22, g23, g24, .int g25, g26, .int g27, .int g28, .int g29, .int g30]))] := hD
  have er_1 : r_1 = 0 := k_2
  subst er_1
  refine lv_if_ne (tgt := 20) hx hb dX13_fallOdds_10 (by decide) (fun h_4 => absurd (by decide) h_4) (fun _ => ?_)
  refine lv_aload_n hx hb dX13_fallOdds_13 rfl (lv_at hl 0 rfl) ?_
  refine lv_iconst (v := 1) hx hb dX13_fallOdds_14 (by decide) ?_
  refine fI (wr := []) (rV_I (wc := [(h0, .inr (12, [.int 0, .int g1, .int g2, .null, g4, g5, .int g6, .int g7, .int g8, .int g9, .int g10, .int g11, .int g12, .int g13, .int g14, .long g15, g16, g17, g18, g19, .int g20, .int g21, g22, g23, g24, .int g25, g26, .int g27, .int g28, .int g29, .int g30]))]) (As := [.int 1]) (rest := []) X (tX13_refused l dC dI cy h0 0 g1 g2 .null g4 g5 g6 g7 g8 g9 g10 g11 g12 g13 g14 g15 g16 g17 g18 g19 g20 g21 g22 g23 g24 g25 g26 g27 g28 g29 g30 1) kX13_refused vX13_refused mX13_48 hP hD [0] (by decide) rfl 0 (ci := 12) rfl rfl rfl hl rfl rfl (Nat.le_of_ble_eq_true rfl) dX13_fallOdds_15 ⟨Nat.le_of_ble_eq_true rfl, Nat.le_of_ble_eq_true rfl⟩ ⟨Nat.le_of_ble_eq_true rfl, Nat.le_of_ble_eq_true rfl⟩) hP hD hS hA [0] [] rfl rfl (by decide) (by decide) (fun r_5 u_7 H locs k_6 hP hD hS => ?_)
  have hP : va_P (dC, dI) vwCl [] H := hP
  have hD : va_D A [] := hD
  have er_5 : r_5 = -1 := k_6
  subst er_5
  refine lv_i2l (v := -1) hx hb dX13_fallOdds_18 (by decide) ?_
  exact eL X hr hlocks hP hD hS () [] (by decide) rfl rfl (Nat.le_of_ble_eq_true rfl) (Nat.le_of_ble_eq_true rfl) dX13_fallOdds_19
set_option maxHeartbeats 4000000 in
set_option maxRecDepth 100000 in
theorem tX13_mean (l : Launch) (dC : Nat → ClassId) (dI : Nat → Nat → Nat) (cy : Nat → ClassId) (h0 : Nat) (g0 : Int32) (g1 : Int32) (g2 : Int32) (g4 : Value) (g5 : Value) (g6 : Int32) (g7 : Int32) (g8 : Int32) (g9 : Int32) (g10 : Int32) (g11 : Int32) (g12 : Int32) (g13 : Int32) (g14 : Int32) (g15 : Int64) (g16 : Value) (g17 : Value) (g18 : Value) (g19 : Value) (g20 : Int32) (g21 : Int32) (g22 : Value) (g23 : Value) (g24 : Value) (g25 : Int32) (g26 : Value) (g27 : Int32) (g28 : Int32) (g29 : Int32) (g30 : Int32) (p1 : Int32) (p2 : Int32) : ctL l dC dI cy yX13_mean cX13_mean 4 ({ frames := 1, cells := 0, slots := 0, locals := 21 }) [.ref h0, .int p1, .int p2] [(h0, .inr (12, [.int g0, .int g1, .int g2, .null, g4, g5, .int g6, .int g7, .int g8, .int g9, .int g10, .int g11, .int g12, .int g13, .int g14, .long g15, g16, g17, g18, g19, .int g20, .int g21, g22, g23, g24, .int g25, g26, .int g27, .int g28, .int g29, .int g30]))] (S := Unit) (fun r _ => r = -1) (fun _ => []) := by
  refine ctL.of (by decide +kernel) (Nat.le_of_ble_eq_true rfl) ?_
  intro p e s m args below meth c A ls X hr hlocks hin hA hP hD hS hl
  have hx := X.1
  have hb := X.2.1
  have hK := X.2.2.2.2.2.1
  have hl : lv_has ls 4 [(0, .ref h0), (1, .int p1), (2, .int p2)] := hl
  refine lv_aload_n hx hb dX13_mean_0 rfl (lv_at hl 0 rfl) ?_
  refine lv_iconst (v := 0) hx hb dX13_mean_1 (by decide) ?_
  refine r_put X kcX13 (ci := 12) rfl hP hD hS 0 rfl 0 (by decide) fX13_42 rfl rfl rfl (Nat.le_of_ble_eq_true rfl) dX13_mean_2 (fun H locs hP hD hS => ?_)
  have hP : va_P (dC, dI) vwCl [(h0, .inr (12, [.int 0, .int g1, .int g2, .null, g4, g5, .int g6, .int g7, .int g8, .int g9, .int g10, .int g11, .int g12, .int g13, .int g14, .long g15, g16, g17, g18, g19, .int g20, .int g21, g22, g23, g24, .int g25, g26, .int g27, .int g28, .int g29, .int g30]))] H := hP
  have hD : va_D A [(h0, .inr (12, [.int 0, .int g1, .int g2, .null, g4, g5, .int g6, .int g7, .int g8, .int g9, .int g10, .int g11, .int g12, .int g13, .int g14, .long g15, g16, g17, g18, g19, .int g20, .int g21, g22, g23, g24, .int g25, g26, .int g27, .int g28, .int g29, .int g30]))] := hD
  refine lv_aload_n hx hb dX13_mean_5 rfl (lv_at hl 0 rfl) ?_
  refine lv_iload_n hx hb dX13_mean_6 rfl (lv_at hl 1 rfl) ?_
  refine fI (wr := []) (rV_I (wc := [(h0, .inr (12, [.int 0, .int g1, .int g2, .null, g4, g5, .int g6, .int g7, .int g8, .int g9, .int g10, .int g11, .int g12, .int g13, .int g14, .long g15, g16, g17, g18, g19, .int g20, .int g21, g22, g23, g24, .int g25, g26, .int g27, .int g28, .int g29, .int g30]))]) (As := [.int p1]) (rest := []) X (tX13_isWalker l dC dI cy h0 0 g1 g2 g4 g5 g6 g7 g8 g9 g10 g11 g12 g13 g14 g15 g16 g17 g18 g19 g20 g21 g22 g23 g24 g25 g26 g27 g28 g29 g30 p1) kX13_isWalker vX13_isWalker mX13_311 hP hD [0] (by decide) rfl 0 (ci := 12) rfl rfl rfl hl rfl rfl (Nat.le_of_ble_eq_true rfl) dX13_mean_7 ⟨Nat.le_of_ble_eq_true rfl, Nat.le_of_ble_eq_true rfl⟩ ⟨Nat.le_of_ble_eq_true rfl, Nat.le_of_ble_eq_true rfl⟩) hP hD hS hA [0] [] rfl rfl (by decide) (by decide) (fun r_1 u_3 H locs k_2 hP hD hS => ?_)
  have hP : va_P (dC, dI) vwCl [(h0, .inr (12, [.int 0, .int g1, .int g2, .null, g4, g5, .int g6, .int g7, .int g8, .int g9, .int g10, .int g11, .int g12, .int g13, .int g14, .long g15, g16, g17, g18, g19, .int g20, .int g21, g22, g23, g24, .int g25, g26, .int g27, .int g28, .int g29, .int g30]))] H := hP
  have hD : va_D A [(h0, .inr (12, [.int 0, .int g1, .int g2, .null, g4, g5, .int g6, .int g7, .int g8, .int g9, .int g10, .int g11, .int g12, .int g13, .int g14, .long g15, g16, g17, g18, g19, .int g20, .int g21, g22, g23, g24, .int g25, g26, .int g27, .int g28, .int g29, .int g30]))] := hD
  have er_1 : r_1 = 0 := k_2
  subst er_1
  refine lv_if_ne (tgt := 20) hx hb dX13_mean_10 (by decide) (fun h_4 => absurd (by decide) h_4) (fun _ => ?_)
  refine lv_aload_n hx hb dX13_mean_13 rfl (lv_at hl 0 rfl) ?_
  refine lv_iconst (v := 1) hx hb dX13_mean_14 (by decide) ?_
  refine fI (wr := []) (rV_I (wc := [(h0, .inr (12, [.int 0, .int g1, .int g2, .null, g4, g5, .int g6, .int g7, .int g8, .int g9, .int g10, .int g11, .int g12, .int g13, .int g14, .long g15, g16, g17, g18, g19, .int g20, .int g21, g22, g23, g24, .int g25, g26, .int g27, .int g28, .int g29, .int g30]))]) (As := [.int 1]) (rest := []) X (tX13_refused l dC dI cy h0 0 g1 g2 .null g4 g5 g6 g7 g8 g9 g10 g11 g12 g13 g14 g15 g16 g17 g18 g19 g20 g21 g22 g23 g24 g25 g26 g27 g28 g29 g30 1) kX13_refused vX13_refused mX13_48 hP hD [0] (by decide) rfl 0 (ci := 12) rfl rfl rfl hl rfl rfl (Nat.le_of_ble_eq_true rfl) dX13_mean_15 ⟨Nat.le_of_ble_eq_true rfl, Nat.le_of_ble_eq_true rfl⟩ ⟨Nat.le_of_ble_eq_true rfl, Nat.le_of_ble_eq_true rfl⟩) hP hD hS hA [0] [] rfl rfl (by decide) (by decide) (fun r_5 u_7 H locs k_6 hP hD hS => ?_)
  have hP : va_P (dC, dI) vwCl [] H := hP
  have hD : va_D A [] := hD
  have er_5 : r_5 = -1 := k_6
  subst er_5
  refine lv_i2l (v := -1) hx hb dX13_mean_18 (by decide) ?_
  exact eL X hr hlocks hP hD hS () [] (by decide) rfl rfl (Nat.le_of_ble_eq_true rfl) (Nat.le_of_ble_eq_true rfl) dX13_mean_19
set_option maxHeartbeats 4000000 in
set_option maxRecDepth 100000 in
theorem tX13_lies (l : Launch) (dC : Nat → ClassId) (dI : Nat → Nat → Nat) (cy : Nat → ClassId) (h0 : Nat) (g0 : Int32) (g1 : Int32) (g2 : Int32) (g4 : Value) (g5 : Value) (g6 : Int32) (g7 : Int32) (g8 : Int32) (g9 : Int32) (g10 : Int32) (g11 : Int32) (g12 : Int32) (g13 : Int32) (g14 : Int32) (g15 : Int64) (g16 : Value) (g17 : Value) (g18 : Value) (g19 : Value) (g20 : Int32) (g21 : Int32) (g22 : Value) (g23 : Value) (g24 : Value) (g25 : Int32) (g26 : Value) (g27 : Int32) (g28 : Int32) (g29 : Int32) (g30 : Int32) (p1 : Int32) (p2 : Int32) (p3 : Int32) (p4 : Int32) : ctI l dC dI cy yX13_lies cX13_lies 6 .int ({ frames := 2, cells := 0, slots := 0, locals := 42 }) [.ref h0, .int p1, .int p2, .int p3, .int p4] [(h0, .inr (12, [.int g0, .int g1, .int g2, .null, g4, g5, .int g6, .int g7, .int g8, .int g9, .int g10, .int g11, .int g12, .int g13, .int g14, .long g15, g16, g17, g18, g19, .int g20, .int g21, g22, g23, g24, .int g25, g26, .int g27, .int g28, .int g29, .int g30]))] (S := Unit) (fun r _ => r = -100) (fun _ => []) := by
  refine ctI.of (by decide +kernel) (Nat.le_of_ble_eq_true rfl) ?_
  intro p e s m args below meth c A ls X hr hlocks hin hA hP hD hS hl
  have hx := X.1
  have hb := X.2.1
  have hK := X.2.2.2.2.2.1
  have hl : lv_has ls 6 [(0, .ref h0), (1, .int p1), (2, .int p2), (3, .int p3), (4, .int p4)] := hl
  refine lv_aload_n hx hb dX13_lies_0 rfl (lv_at hl 0 rfl) ?_
  refine lv_iconst (v := 0) hx hb dX13_lies_1 (by decide) ?_
  refine r_put X kcX13 (ci := 12) rfl hP hD hS 0 rfl 0 (by decide) fX13_42 rfl rfl rfl (Nat.le_of_ble_eq_true rfl) dX13_lies_2 (fun H locs hP hD hS => ?_)
  have hP : va_P (dC, dI) vwCl [(h0, .inr (12, [.int 0, .int g1, .int g2, .null, g4, g5, .int g6, .int g7, .int g8, .int g9, .int g10, .int g11, .int g12, .int g13, .int g14, .long g15, g16, g17, g18, g19, .int g20, .int g21, g22, g23, g24, .int g25, g26, .int g27, .int g28, .int g29, .int g30]))] H := hP
  have hD : va_D A [(h0, .inr (12, [.int 0, .int g1, .int g2, .null, g4, g5, .int g6, .int g7, .int g8, .int g9, .int g10, .int g11, .int g12, .int g13, .int g14, .long g15, g16, g17, g18, g19, .int g20, .int g21, g22, g23, g24, .int g25, g26, .int g27, .int g28, .int g29, .int g30]))] := hD
  refine lv_aload_n hx hb dX13_lies_5 rfl (lv_at hl 0 rfl) ?_
  refine lv_iload_n hx hb dX13_lies_6 rfl (lv_at hl 1 rfl) ?_
  refine fI (wr := []) (rV_I (wc := [(h0, .inr (12, [.int 0, .int g1, .int g2, .null, g4, g5, .int g6, .int g7, .int g8, .int g9, .int g10, .int g11, .int g12, .int g13, .int g14, .long g15, g16, g17, g18, g19, .int g20, .int g21, g22, g23, g24, .int g25, g26, .int g27, .int g28, .int g29, .int g30]))]) (As := [.int p1]) (rest := []) X (tX13_refusesShame l dC dI cy h0 0 g1 g2 g4 g5 g6 g7 g8 g9 g10 g11 g12 g13 g14 g15 g16 g17 g18 g19 g20 g21 g22 g23 g24 g25 g26 g27 g28 g29 g30 p1) kX13_refusesShame vX13_refusesShame mX13_405 hP hD [0] (by decide) rfl 0 (ci := 12) rfl rfl rfl hl rfl rfl (Nat.le_of_ble_eq_true rfl) dX13_lies_7 ⟨Nat.le_of_ble_eq_true rfl, Nat.le_of_ble_eq_true rfl⟩ ⟨Nat.le_of_ble_eq_true rfl, Nat.le_of_ble_eq_true rfl⟩) hP hD hS hA [0] [] rfl rfl (by decide) (by decide) (fun r_1 u_3 H locs k_2 hP hD hS => ?_)
  have hP : va_P (dC, dI) vwCl [(h0, .inr (12, [.int 0, .int g1, .int g2, .null, g4, g5, .int g6, .int g7, .int g8, .int g9, .int g10, .int g11, .int g12, .int g13, .int g14, .long g15, g16, g17, g18, g19, .int g20, .int g21, g22, g23, g24, .int g25, g26, .int g27, .int g28, .int g29, .int g30]))] H := hP
  have hD : va_D A [(h0, .inr (12, [.int 0, .int g1, .int g2, .null, g4, g5, .int g6, .int g7, .int g8, .int g9, .int g10, .int g11, .int g12, .int g13, .int g14, .long g15, g16, g17, g18, g19, .int g20, .int g21, g22, g23, g24, .int g25, g26, .int g27, .int g28, .int g29, .int g30]))] := hD
  have er_1 : r_1 = 1 := k_2
  subst er_1
  refine lv_istore (lv' := [(5, .int 1), (0, .ref h0), (1, .int p1), (2, .int p2), (3, .int p3), (4, .int p4)]) hx hb dX13_lies_10 hl (by decide) rfl (fun ls hl => ?_)
  refine lv_iload hx hb dX13_lies_12 (lv_at hl 0 rfl) ?_
  refine lv_if_le (tgt := 26) hx hb dX13_lies_14 (by decide) (fun h_4 => absurd h_4 (by decide)) (fun _ => ?_)
  refine lv_aload_n hx hb dX13_lies_17 rfl (lv_at hl 1 rfl) ?_
  refine lv_iload hx hb dX13_lies_18 (lv_at hl 0 rfl) ?_
  refine fI (wr := []) (rV_I (wc := [(h0, .inr (12, [.int 0, .int g1, .int g2, .null, g4, g5, .int g6, .int g7, .int g8, .int g9, .int g10, .int g11, .int g12, .int g13, .int g14, .long g15, g16, g17, g18, g19, .int g20, .int g21, g22, g23, g24, .int g25, g26, .int g27, .int g28, .int g29, .int g30]))]) (As := [.int 1]) (rest := []) X (tX13_lost l dC dI cy h0 0 g1 g2 .null g4 g5 g6 g7 g8 g9 g10 g11 g12 g13 g14 g15 g16 g17 g18 g19 g20 g21 g22 g23 g24 g25 g26 g27 g28 g29 g30 1) kX13_lost vX13_lost mX13_408 hP hD [0] (by decide) rfl 0 (ci := 12) rfl rfl rfl hl rfl rfl (Nat.le_of_ble_eq_true rfl) dX13_lies_20 ⟨Nat.le_of_ble_eq_true rfl, Nat.le_of_ble_eq_true rfl⟩ ⟨Nat.le_of_ble_eq_true rfl, Nat.le_of_ble_eq_true rfl⟩) hP hD hS hA [0] [] rfl rfl (by decide) (by decide) (fun r_5 u_7 H locs k_6 hP hD hS => ?_)
  have hP : va_P (dC, dI) vwCl [] H := hP
  have hD : va_D A [] := hD
  have er_5 : r_5 = -100 := k_6
  subst er_5
  refine lv_goto (tgt := 50) hx hb dX13_lies_23 (by decide) ?_
  exact eI X hr hlocks hP hD hS () [] (by decide) rfl rfl rfl (Nat.le_of_ble_eq_true rfl) (Nat.le_of_ble_eq_true rfl) dX13_lies_50
set_option maxHeartbeats 4000000 in
set_option maxRecDepth 100000 in
theorem tX13_dig (l : Launch) (dC : Nat → ClassId) (dI : Nat → Nat → Nat) (cy : Nat → ClassId) (h0 : Nat) (g0 : Int32) (g1 : Int32) (g2 : Int32) (g4 : Value) (g5 : Value) (g6 : Int32) (g7 : Int32) (g8 : Int32) (g9 : Int32) (g10 : Int32) (g11 : Int32) (g12 : Int32) (g13 : Int32) (g14 : Int32) (g15 : Int64) (g16 : Value) (g17 : Value) (g18 : Value) (g19 : Value) (g20 : Int32) (g21 : Int32) (g22 : Value) (g23 : Value) (g24 : Value) (g25 : Int32) (g26 : Value) (g27 : Int32) (g28 : Int32) (g29 : Int32) (g30 : Int32) (p1 : Int32) : ctI l dC dI cy yX13_dig cX13_dig 2 .boolean ({ frames := 3, cells := 0, slots := 0, locals := 65 }) [.ref h0, .int p1] [(h0, .inr (12, [.int g0, .int g1, .int g2, .null, g4, g5, .int g6, .int g7, .int g8, .int g9, .int g10, .int g11, .int g12, .int g13, .int g14, .long g15, g16, g17, g18, g19, .int g20, .int g21, g22, g23, g24, .int g25, g26, .int g27, .int g28, .int g29, .int g30]))] (S := Unit) (fun r _ => r = 0) (fun _ => []) := by
  refine ctI.of (by decide +kernel) (Nat.le_of_ble_eq_true rfl) ?_
  intro p e s m args below meth c A ls X hr hlocks hin hA hP hD hS hl
  have hx := X.1
  have hb := X.2.1
  have hK := X.2.2.2.2.2.1
  have hl : lv_has ls 2 [(0, .ref h0), (1, .int p1)] := hl
  refine lv_aload_n hx hb dX13_dig_0 rfl (lv_at hl 0 rfl) ?_
  refine lv_iconst (v := 0) hx hb dX13_dig_1 (by decide) ?_
  refine r_put X kcX13 (ci := 12) rfl hP hD hS 0 rfl 0 (by decide) fX13_42 rfl rfl rfl (Nat.le_of_ble_eq_true rfl) dX13_dig_2 (fun H locs hP hD hS => ?_)
  have hP : va_P (dC, dI) vwCl [(h0, .inr (12, [.int 0, .int g1, .int g2, .null, g4, g5, .int g6, .int g7, .int g8, .int g9, .int g10, .int g11, .int g12, .int g13, .int g14, .long g15, g16, g17, g18, g19, .int g20, .int g21, g22, g23, g24, .int g25, g26, .int g27, .int g28, .int g29, .int g30]))] H := hP
  have hD : va_D A [(h0, .inr (12, [.int 0, .int g1, .int g2, .null, g4, g5, .int g6, .int g7, .int g8, .int g9, .int g10, .int g11, .int g12, .int g13, .int g14, .long g15, g16, g17, g18, g19, .int g20, .int g21, g22, g23, g24, .int g25, g26, .int g27, .int g28, .int g29, .int g30]))] := hD
  refine lv_aload_n hx hb dX13_dig_5 rfl (lv_at hl 0 rfl) ?_
  refine lv_iload_n hx hb dX13_dig_6 rfl (lv_at hl 1 rfl) ?_
  refine lv_iconst (v := 0) hx hb dX13_dig_7 (by decide) ?_
  refine lv_iconst (v := 1) hx hb dX13_dig_8 (by decide) ?_
  refine fI (wr := []) (rV_I (wc := [(h0, .inr (12, [.int 0, .int g1, .int g2, .null, g4, g5, .int g6, .int g7, .int g8, .int g9, .int g10, .int g11, .int g12, .int g13, .int g14, .long g15, g16, g17, g18, g19, .int g20, .int g21, g22, g23, g24, .int g25, g26, .int g27, .int g28, .int g29, .int g30]))]) (As := [.int p1, .int 0, .int 1]) (rest := []) X (tX13_becomes l dC dI cy h0 0 g1 g2 g4 g5 g6 g7 g8 g9 g10 g11 g12 g13 g14 g15 g16 g17 g18 g19 g20 g21 g22 g23 g24 g25 g26 g27 g28 g29 g30 p1 0 1) kX13_becomes vX13_becomes mX13_454 hP hD [0] (by decide) rfl 0 (ci := 12) rfl rfl rfl hl rfl rfl (Nat.le_of_ble_eq_true rfl) dX13_dig_9 ⟨Nat.le_of_ble_eq_true rfl, Nat.le_of_ble_eq_true rfl⟩ ⟨Nat.le_of_ble_eq_true rfl, Nat.le_of_ble_eq_true rfl⟩) hP hD hS hA [0] [] rfl rfl (by decide) (by decide) (fun r_1 u_3 H locs k_2 hP hD hS => ?_)
  have hP : va_P (dC, dI) vwCl [] H := hP
  have hD : va_D A [] := hD
  have er_1 : r_1 = 0 := k_2
  subst er_1
  exact eI X hr hlocks hP hD hS () [] (by decide) rfl rfl rfl (Nat.le_of_ble_eq_true rfl) (Nat.le_of_ble_eq_true rfl) dX13_dig_12
set_option maxHeartbeats 4000000 in
set_option maxRecDepth 100000 in
theorem tX13_fill (l : Launch) (dC : Nat → ClassId) (dI : Nat → Nat → Nat) (cy : Nat → ClassId) (h0 : Nat) (g0 : Int32) (g1 : Int32) (g2 : Int32) (g4 : Value) (g5 : Value) (g6 : Int32) (g7 : Int32) (g8 : Int32) (g9 : Int32) (g10 : Int32) (g11 : Int32) (g12 : Int32) (g13 : Int32) (g14 : Int32) (g15 : Int64) (g16 : Value) (g17 : Value) (g18 : Value) (g19 : Value) (g20 : Int32) (g21 : Int32) (g22 : Value) (g23 : Value) (g24 : Value) (g25 : Int32) (g26 : Value) (g27 : Int32) (g28 : Int32) (g29 : Int32) (g30 : Int32) (p1 : Int32) : ctI l dC dI cy yX13_fill cX13_fill 2 .boolean ({ frames := 3, cells := 0, slots := 0, locals := 65 }) [.ref h0, .int p1] [(h0, .inr (12, [.int g0, .int g1, .int g2, .null, g4, g5, .int g6, .int g7, .int g8, .int g9, .int g10, .int g11, .int g12, .int g13, .int g14, .long g15, g16, g17, g18, g19, .int g20, .int g21, g22, g23, g24, .int g25, g26, .int g27, .int g28, .int g29, .int g30]))] (S := Unit) (fun r _ => r = 0) (fun _ => []) := by
  refine ctI.of (by decide +kernel) (Nat.le_of_ble_eq_true rfl) ?_
  intro p e s m args below meth c A ls X hr hlocks hin hA hP hD hS hl
  have hx := X.1
  have hb := X.2.1
  have hK := X.2.2.2.2.2.1
  have hl : lv_has ls 2 [(0, .ref h0), (1, .int p1)] := hl
  refine lv_aload_n hx hb dX13_fill_0 rfl (lv_at hl 0 rfl) ?_
  refine lv_iconst (v := 0) hx hb dX13_fill_1 (by decide) ?_
  refine r_put X kcX13 (ci := 12) rfl hP hD hS 0 rfl 0 (by decide) fX13_42 rfl rfl rfl (Nat.le_of_ble_eq_true rfl) dX13_fill_2 (fun H locs hP hD hS => ?_)
  have hP : va_P (dC, dI) vwCl [(h0, .inr (12, [.int 0, .int g1, .int g2, .null, g4, g5, .int g6, .int g7, .int g8, .int g9, .int g10, .int g11, .int g12, .int g13, .int g14, .long g15, g16, g17, g18, g19, .int g20, .int g21, g22, g23, g24, .int g25, g26, .int g27, .int g28, .int g29, .int g30]))] H := hP
  have hD : va_D A [(h0, .inr (12, [.int 0, .int g1, .int g2, .null, g4, g5, .int g6, .int g7, .int g8, .int g9, .int g10, .int g11, .int g12, .int g13, .int g14, .long g15, g16, g17, g18, g19, .int g20, .int g21, g22, g23, g24, .int g25, g26, .int g27, .int g28, .int g29, .int g30]))] := hD
  refine lv_aload_n hx hb dX13_fill_5 rfl (lv_at hl 0 rfl) ?_
  refine lv_iload_n hx hb dX13_fill_6 rfl (lv_at hl 1 rfl) ?_
  refine lv_iconst (v := 1) hx hb dX13_fill_7 (by decide) ?_
  refine lv_iconst (v := 0) hx hb dX13_fill_8 (by decide) ?_
  refine fI (wr := []) (rV_I (wc := [(h0, .inr (12, [.int 0, .int g1, .int g2, .null, g4, g5, .int g6, .int g7, .int g8, .int g9, .int g10, .int g11, .int g12, .int g13, .int g14, .long g15, g16, g17, g18, g19, .int g20, .int g21, g22, g23, g24, .int g25, g26, .int g27, .int g28, .int g29, .int g30]))]) (As := [.int p1, .int 1, .int 0]) (rest := []) X (tX13_becomes l dC dI cy h0 0 g1 g2 g4 g5 g6 g7 g8 g9 g10 g11 g12 g13 g14 g15 g16 g17 g18 g19 g20 g21 g22 g23 g24 g25 g26 g27 g28 g29 g30 p1 1 0) kX13_becomes vX13_becomes mX13_454 hP hD [0] (by decide) rfl 0 (ci := 12) rfl rfl rfl hl rfl rfl (Nat.le_of_ble_eq_true rfl) dX13_fill_9 ⟨Nat.le_of_ble_eq_true rfl, Nat.le_of_ble_eq_true rfl⟩ ⟨Nat.le_of_ble_eq_true rfl, Nat.le_of_ble_eq_true rfl⟩) hP hD hS hA [0] [] rfl rfl (by decide) (by decide) (fun r_1 u_3 H locs k_2 hP hD hS => ?_)
  have hP : va_P (dC, dI) vwCl [] H := hP
  have hD : va_D A [] := hD
  have er_1 : r_1 = 0 := k_2
  subst er_1
  exact eI X hr hlocks hP hD hS () [] (by decide) rfl rfl rfl (Nat.le_of_ble_eq_true rfl) (Nat.le_of_ble_eq_true rfl) dX13_fill_12
set_option maxHeartbeats 4000000 in
set_option maxRecDepth 100000 in
theorem tX13_gate (l : Launch) (dC : Nat → ClassId) (dI : Nat → Nat → Nat) (cy : Nat → ClassId) (h0 : Nat) (g0 : Int32) (g1 : Int32) (g2 : Int32) (g4 : Value) (g5 : Value) (g6 : Int32) (g7 : Int32) (g8 : Int32) (g9 : Int32) (g10 : Int32) (g11 : Int32) (g12 : Int32) (g13 : Int32) (g14 : Int32) (g15 : Int64) (g16 : Value) (g17 : Value) (g18 : Value) (g19 : Value) (g20 : Int32) (g21 : Int32) (g22 : Value) (g23 : Value) (g24 : Value) (g25 : Int32) (g26 : Value) (g27 : Int32) (g28 : Int32) (g29 : Int32) (g30 : Int32) (p1 : Int32) : ctI l dC dI cy yX13_gate cX13_gate 2 .boolean ({ frames := 3, cells := 0, slots := 0, locals := 65 }) [.ref h0, .int p1] [(h0, .inr (12, [.int g0, .int g1, .int g2, .null, g4, g5, .int g6, .int g7, .int g8, .int g9, .int g10, .int g11, .int g12, .int g13, .int g14, .long g15, g16, g17, g18, g19, .int g20, .int g21, g22, g23, g24, .int g25, g26, .int g27, .int g28, .int g29, .int g30]))] (S := Unit) (fun r _ => r = 0) (fun _ => []) := by
  refine ctI.of (by decide +kernel) (Nat.le_of_ble_eq_true rfl) ?_
  intro p e s m args below meth c A ls X hr hlocks hin hA hP hD hS hl
  have hx := X.1
  have hb := X.2.1
  have hK := X.2.2.2.2.2.1
  have hl : lv_has ls 2 [(0, .ref h0), (1, .int p1)] := hl
  refine lv_aload_n hx hb dX13_gate_0 rfl (lv_at hl 0 rfl) ?_
  refine lv_iconst (v := 0) hx hb dX13_gate_1 (by decide) ?_
  refine r_put X kcX13 (ci := 12) rfl hP hD hS 0 rfl 0 (by decide) fX13_42 rfl rfl rfl (Nat.le_of_ble_eq_true rfl) dX13_gate_2 (fun H locs hP hD hS => ?_)
  have hP : va_P (dC, dI) vwCl [(h0, .inr (12, [.int 0, .int g1, .int g2, .null, g4, g5, .int g6, .int g7, .int g8, .int g9, .int g10, .int g11, .int g12, .int g13, .int g14, .long g15, g16, g17, g18, g19, .int g20, .int g21, g22, g23, g24, .int g25, g26, .int g27, .int g28, .int g29, .int g30]))] H := hP
  have hD : va_D A [(h0, .inr (12, [.int 0, .int g1, .int g2, .null, g4, g5, .int g6, .int g7, .int g8, .int g9, .int g10, .int g11, .int g12, .int g13, .int g14, .long g15, g16, g17, g18, g19, .int g20, .int g21, g22, g23, g24, .int g25, g26, .int g27, .int g28, .int g29, .int g30]))] := hD
  refine lv_aload_n hx hb dX13_gate_5 rfl (lv_at hl 0 rfl) ?_
  refine lv_iload_n hx hb dX13_gate_6 rfl (lv_at hl 1 rfl) ?_
  refine lv_iconst (v := 1) hx hb dX13_gate_7 (by decide) ?_
  refine lv_iconst (v := 2) hx hb dX13_gate_8 (by decide) ?_
  refine fI (wr := []) (rV_I (wc := [(h0, .inr (12, [.int 0, .int g1, .int g2, .null, g4, g5, .int g6, .int g7, .int g8, .int g9, .int g10, .int g11, .int g12, .int g13, .int g14, .long g15, g16, g17, g18, g19, .int g20, .int g21, g22, g23, g24, .int g25, g26, .int g27, .int g28, .int g29, .int g30]))]) (As := [.int p1, .int 1, .int 2]) (rest := []) X (tX13_becomes l dC dI cy h0 0 g1 g2 g4 g5 g6 g7 g8 g9 g10 g11 g12 g13 g14 g15 g16 g17 g18 g19 g20 g21 g22 g23 g24 g25 g26 g27 g28 g29 g30 p1 1 2) kX13_becomes vX13_becomes mX13_454 hP hD [0] (by decide) rfl 0 (ci := 12) rfl rfl rfl hl rfl rfl (Nat.le_of_ble_eq_true rfl) dX13_gate_9 ⟨Nat.le_of_ble_eq_true rfl, Nat.le_of_ble_eq_true rfl⟩ ⟨Nat.le_of_ble_eq_true rfl, Nat.le_of_ble_eq_true rfl⟩) hP hD hS hA [0] [] rfl rfl (by decide) (by decide) (fun r_1 u_3 H locs k_2 hP hD hS => ?_)
  have hP : va_P (dC, dI) vwCl [] H := hP
  have hD : va_D A [] := hD
  have er_1 : r_1 = 0 := k_2
  subst er_1
  exact eI X hr hlocks hP hD hS () [] (by decide) rfl rfl rfl (Nat.le_of_ble_eq_true rfl) (Nat.le_of_ble_eq_true rfl) dX13_gate_12
set_option maxHeartbeats 4000000 in
set_option maxRecDepth 100000 in
theorem tX13_hedge (l : Launch) (dC : Nat → ClassId) (dI : Nat → Nat → Nat) (cy : Nat → ClassId) (h0 : Nat) (g0 : Int32) (g1 : Int32) (g2 : Int32) (g4 : Value) (g5 : Value) (g6 : Int32) (g7 : Int32) (g8 : Int32) (g9 : Int32) (g10 : Int32) (g11 : Int32) (g12 : Int32) (g13 : Int32) (g14 : Int32) (g15 : Int64) (g16 : Value) (g17 : Value) (g18 : Value) (g19 : Value) (g20 : Int32) (g21 : Int32) (g22 : Value) (g23 : Value) (g24 : Value) (g25 : Int32) (g26 : Value) (g27 : Int32) (g28 : Int32) (g29 : Int32) (g30 : Int32) (p1 : Int32) : ctI l dC dI cy yX13_hedge cX13_hedge 2 .boolean ({ frames := 3, cells := 0, slots := 0, locals := 65 }) [.ref h0, .int p1] [(h0, .inr (12, [.int g0, .int g1, .int g2, .null, g4, g5, .int g6, .int g7, .int g8, .int g9, .int g10, .int g11, .int g12, .int g13, .int g14, .long g15, g16, g17, g18, g19, .int g20, .int g21, g22, g23, g24, .int g25, g26, .int g27, .int g28, .int g29, .int g30]))] (S := Unit) (fun r _ => r = 0) (fun _ => []) := by
  refine ctI.of (by decide +kernel) (Nat.le_of_ble_eq_true rfl) ?_
  intro p e s m args below meth c A ls X hr hlocks hin hA hP hD hS hl
  have hx := X.1
  have hb := X.2.1
  have hK := X.2.2.2.2.2.1
  have hl : lv_has ls 2 [(0, .ref h0), (1, .int p1)] := hl
  refine lv_aload_n hx hb dX13_hedge_0 rfl (lv_at hl 0 rfl) ?_
  refine lv_iconst (v := 0) hx hb dX13_hedge_1 (by decide) ?_
  refine r_put X kcX13 (ci := 12) rfl hP hD hS 0 rfl 0 (by decide) fX13_42 rfl rfl rfl (Nat.le_of_ble_eq_true rfl) dX13_hedge_2 (fun H locs hP hD hS => ?_)
  have hP : va_P (dC, dI) vwCl [(h0, .inr (12, [.int 0, .int g1, .int g2, .null, g4, g5, .int g6, .int g7, .int g8, .int g9, .int g10, .int g11, .int g12, .int g13, .int g14, .long g15, g16, g17, g18, g19, .int g20, .int g21, g22, g23, g24, .int g25, g26, .int g27, .int g28, .int g29, .int g30]))] H := hP
  have hD : va_D A [(h0, .inr (12, [.int 0, .int g1, .int g2, .null, g4, g5, .int g6, .int g7, .int g8, .int g9, .int g10, .int g11, .int g12, .int g13, .int g14, .long g15, g16, g17, g18, g19, .int g20, .int g21, g22, g23, g24, .int g25, g26, .int g27, .int g28, .int g29, .int g30]))] := hD
  refine lv_aload_n hx hb dX13_hedge_5 rfl (lv_at hl 0 rfl) ?_
  refine lv_iload_n hx hb dX13_hedge_6 rfl (lv_at hl 1 rfl) ?_
  refine lv_iconst (v := 0) hx hb dX13_hedge_7 (by decide) ?_
  refine lv_iconst (v := 3) hx hb dX13_hedge_8 (by decide) ?_
  refine fI (wr := []) (rV_I (wc := [(h0, .inr (12, [.int 0, .int g1, .int g2, .null, g4, g5, .int g6, .int g7, .int g8, .int g9, .int g10, .int g11, .int g12, .int g13, .int g14, .long g15, g16, g17, g18, g19, .int g20, .int g21, g22, g23, g24, .int g25, g26, .int g27, .int g28, .int g29, .int g30]))]) (As := [.int p1, .int 0, .int 3]) (rest := []) X (tX13_becomes l dC dI cy h0 0 g1 g2 g4 g5 g6 g7 g8 g9 g10 g11 g12 g13 g14 g15 g16 g17 g18 g19 g20 g21 g22 g23 g24 g25 g26 g27 g28 g29 g30 p1 0 3) kX13_becomes vX13_becomes mX13_454 hP hD [0] (by decide) rfl 0 (ci := 12) rfl rfl rfl hl rfl rfl (Nat.le_of_ble_eq_true rfl) dX13_hedge_9 ⟨Nat.le_of_ble_eq_true rfl, Nat.le_of_ble_eq_true rfl⟩ ⟨Nat.le_of_ble_eq_true rfl, Nat.le_of_ble_eq_true rfl⟩) hP hD hS hA [0] [] rfl rfl (by decide) (by decide) (fun r_1 u_3 H locs k_2 hP hD hS => ?_)
  have hP : va_P (dC, dI) vwCl [] H := hP
  have hD : va_D A [] := hD
  have er_1 : r_1 = 0 := k_2
  subst er_1
  exact eI X hr hlocks hP hD hS () [] (by decide) rfl rfl rfl (Nat.le_of_ble_eq_true rfl) (Nat.le_of_ble_eq_true rfl) dX13_hedge_12
set_option maxHeartbeats 4000000 in
set_option maxRecDepth 100000 in
theorem tX13_undo (l : Launch) (dC : Nat → ClassId) (dI : Nat → Nat → Nat) (cy : Nat → ClassId) (h0 : Nat) (g0 : Int32) (g1 : Int32) (g2 : Int32) (g4 : Value) (g5 : Value) (g6 : Int32) (g7 : Int32) (g8 : Int32) (g9 : Int32) (g10 : Int32) (g11 : Int32) (g12 : Int32) (g13 : Int32) (g14 : Int32) (g15 : Int64) (g16 : Value) (g17 : Value) (g18 : Value) (g19 : Value) (g20 : Int32) (g21 : Int32) (g22 : Value) (g23 : Value) (g24 : Value) (g25 : Int32) (g26 : Value) (g27 : Int32) (g28 : Int32) (g29 : Int32) (g30 : Int32) : ctI l dC dI cy yX13_undo cX13_undo 2 .boolean ({ frames := 2, cells := 0, slots := 0, locals := 42 }) [.ref h0] [(h0, .inr (12, [.int g0, .int g1, .int g2, .null, g4, g5, .int g6, .int g7, .int g8, .int g9, .int g10, .int g11, .int g12, .int g13, .int g14, .long g15, g16, g17, g18, g19, .int g20, .int g21, g22, g23, g24, .int g25, g26, .int g27, .int g28, .int g29, .int g30]))] (S := Unit) (fun r _ => r = 0) (fun _ => []) := by
  refine ctI.of (by decide +kernel) (Nat.le_of_ble_eq_true rfl) ?_
  intro p e s m args below meth c A ls X hr hlocks hin hA hP hD hS hl
  have hx := X.1
  have hb := X.2.1
  have hK := X.2.2.2.2.2.1
  have hl : lv_has ls 2 [(0, .ref h0)] := hl
  refine lv_aload_n hx hb dX13_undo_0 rfl (lv_at hl 0 rfl) ?_
  refine lv_iconst (v := 0) hx hb dX13_undo_1 (by decide) ?_
  refine r_put X kcX13 (ci := 12) rfl hP hD hS 0 rfl 0 (by decide) fX13_42 rfl rfl rfl (Nat.le_of_ble_eq_true rfl) dX13_undo_2 (fun H locs hP hD hS => ?_)
  have hP : va_P (dC, dI) vwCl [(h0, .inr (12, [.int 0, .int g1, .int g2, .null, g4, g5, .int g6, .int g7, .int g8, .int g9, .int g10, .int g11, .int g12, .int g13, .int g14, .long g15, g16, g17, g18, g19, .int g20, .int g21, g22, g23, g24, .int g25, g26, .int g27, .int g28, .int g29, .int g30]))] H := hP
  have hD : va_D A [(h0, .inr (12, [.int 0, .int g1, .int g2, .null, g4, g5, .int g6, .int g7, .int g8, .int g9, .int g10, .int g11, .int g12, .int g13, .int g14, .long g15, g16, g17, g18, g19, .int g20, .int g21, g22, g23, g24, .int g25, g26, .int g27, .int g28, .int g29, .int g30]))] := hD
  refine lv_aload_n hx hb dX13_undo_5 rfl (lv_at hl 0 rfl) ?_
  refine r_get X kcX13 (ci := 12) rfl hP 0 rfl 3 (by decide) fX13_269 rfl dX13_undo_6 ?_
  refine lv_ifnullN (tgt := 19) hx hb dX13_undo_9 (by decide) ?_
  refine lv_aload_n hx hb dX13_undo_19 rfl (lv_at hl 0 rfl) ?_
  refine lv_bipush (v := 6) hx hb dX13_undo_20 (by decide) ?_
  refine fI (wr := []) (rV_I (wc := [(h0, .inr (12, [.int 0, .int g1, .int g2, .null, g4, g5, .int g6, .int g7, .int g8, .int g9, .int g10, .int g11, .int g12, .int g13, .int g14, .long g15, g16, g17, g18, g19, .int g20, .int g21, g22, g23, g24, .int g25, g26, .int g27, .int g28, .int g29, .int g30]))]) (As := [.int 6]) (rest := []) X (tX13_denied l dC dI cy h0 0 g1 g2 .null g4 g5 g6 g7 g8 g9 g10 g11 g12 g13 g14 g15 g16 g17 g18 g19 g20 g21 g22 g23 g24 g25 g26 g27 g28 g29 g30 6) kX13_denied vX13_denied mX13_448 hP hD [0] (by decide) rfl 0 (ci := 12) rfl rfl rfl hl rfl rfl (Nat.le_of_ble_eq_true rfl) dX13_undo_22 ⟨Nat.le_of_ble_eq_true rfl, Nat.le_of_ble_eq_true rfl⟩ ⟨Nat.le_of_ble_eq_true rfl, Nat.le_of_ble_eq_true rfl⟩) hP hD hS hA [0] [] rfl rfl (by decide) (by decide) (fun r_1 u_3 H locs k_2 hP hD hS => ?_)
  have hP : va_P (dC, dI) vwCl [] H := hP
  have hD : va_D A [] := hD
  have er_1 : r_1 = 0 := k_2
  subst er_1
  exact eI X hr hlocks hP hD hS () [] (by decide) rfl rfl rfl (Nat.le_of_ble_eq_true rfl) (Nat.le_of_ble_eq_true rfl) dX13_undo_25
set_option maxHeartbeats 4000000 in
set_option maxRecDepth 100000 in
theorem tX13_back (l : Launch) (dC : Nat → ClassId) (dI : Nat → Nat → Nat) (cy : Nat → ClassId) (h0 : Nat) (g0 : Int32) (g1 : Int32) (g2 : Int32) (g4 : Value) (g5 : Value) (g6 : Int32) (g7 : Int32) (g8 : Int32) (g9 : Int32) (g10 : Int32) (g11 : Int32) (g12 : Int32) (g13 : Int32) (g14 : Int32) (g15 : Int64) (g16 : Value) (g17 : Value) (g18 : Value) (g19 : Value) (g20 : Int32) (g21 : Int32) (g22 : Value) (g23 : Value) (g24 : Value) (g25 : Int32) (g26 : Value) (g27 : Int32) (g28 : Int32) (g29 : Int32) (g30 : Int32) (p1 : Int32) : ctI l dC dI cy yX13_back cX13_back 3 .boolean ({ frames := 2, cells := 0, slots := 0, locals := 42 }) [.ref h0, .int p1] [(h0, .inr (12, [.int g0, .int g1, .int g2, .null, g4, g5, .int g6, .int g7, .int g8, .int g9, .int g10, .int g11, .int g12, .int g13, .int g14, .long g15, g16, g17, g18, g19, .int g20, .int g21, g22, g23, g24, .int g25, g26, .int g27, .int g28, .int g29, .int g30]))] (S := Unit) (fun r _ => r = 0) (fun _ => []) := by
  refine ctI.of (by decide +kernel) (Nat.le_of_ble_eq_true rfl) ?_
  intro p e s m args below meth c A ls X hr hlocks hin hA hP hD hS hl
  have hx := X.1
  have hb := X.2.1
  have hK := X.2.2.2.2.2.1
  have hl : lv_has ls 3 [(0, .ref h0), (1, .int p1)] := hl
  refine lv_aload_n hx hb dX13_back_0 rfl (lv_at hl 0 rfl) ?_
  refine lv_iconst (v := 0) hx hb dX13_back_1 (by decide) ?_
  refine r_put X kcX13 (ci := 12) rfl hP hD hS 0 rfl 0 (by decide) fX13_42 rfl rfl rfl (Nat.le_of_ble_eq_true rfl) dX13_back_2 (fun H locs hP hD hS => ?_)
  have hP : va_P (dC, dI) vwCl [(h0, .inr (12, [.int 0, .int g1, .int g2, .null, g4, g5, .int g6, .int g7, .int g8, .int g9, .int g10, .int g11, .int g12, .int g13, .int g14, .long g15, g16, g17, g18, g19, .int g20, .int g21, g22, g23, g24, .int g25, g26, .int g27, .int g28, .int g29, .int g30]))] H := hP
  have hD : va_D A [(h0, .inr (12, [.int 0, .int g1, .int g2, .null, g4, g5, .int g6, .int g7, .int g8, .int g9, .int g10, .int g11, .int g12, .int g13, .int g14, .long g15, g16, g17, g18, g19, .int g20, .int g21, g22, g23, g24, .int g25, g26, .int g27, .int g28, .int g29, .int g30]))] := hD
  refine lv_aload_n hx hb dX13_back_5 rfl (lv_at hl 0 rfl) ?_
  refine r_get X kcX13 (ci := 12) rfl hP 0 rfl 3 (by decide) fX13_269 rfl dX13_back_6 ?_
  refine lv_ifnullN (tgt := 24) hx hb dX13_back_9 (by decide) ?_
  refine lv_aload_n hx hb dX13_back_24 rfl (lv_at hl 0 rfl) ?_
  refine lv_iconst (v := 1) hx hb dX13_back_25 (by decide) ?_
  refine fI (wr := []) (rV_I (wc := [(h0, .inr (12, [.int 0, .int g1, .int g2, .null, g4, g5, .int g6, .int g7, .int g8, .int g9, .int g10, .int g11, .int g12, .int g13, .int g14, .long g15, g16, g17, g18, g19, .int g20, .int g21, g22, g23, g24, .int g25, g26, .int g27, .int g28, .int g29, .int g30]))]) (As := [.int 1]) (rest := []) X (tX13_denied l dC dI cy h0 0 g1 g2 .null g4 g5 g6 g7 g8 g9 g10 g11 g12 g13 g14 g15 g16 g17 g18 g19 g20 g21 g22 g23 g24 g25 g26 g27 g28 g29 g30 1) kX13_denied vX13_denied mX13_448 hP hD [0] (by decide) rfl 0 (ci := 12) rfl rfl rfl hl rfl rfl (Nat.le_of_ble_eq_true rfl) dX13_back_26 ⟨Nat.le_of_ble_eq_true rfl, Nat.le_of_ble_eq_true rfl⟩ ⟨Nat.le_of_ble_eq_true rfl, Nat.le_of_ble_eq_true rfl⟩) hP hD hS hA [0] [] rfl rfl (by decide) (by decide) (fun r_1 u_3 H locs k_2 hP hD hS => ?_)
  have hP : va_P (dC, dI) vwCl [] H := hP
  have hD : va_D A [] := hD
  have er_1 : r_1 = 0 := k_2
  subst er_1
  exact eI X hr hlocks hP hD hS () [] (by decide) rfl rfl rfl (Nat.le_of_ble_eq_true rfl) (Nat.le_of_ble_eq_true rfl) dX13_back_29
set_option maxHeartbeats 4000000 in
set_option maxRecDepth 100000 in
theorem tX13_trouble (l : Launch) (dC : Nat → ClassId) (dI : Nat → Nat → Nat) (cy : Nat → ClassId) (h0 : Nat) (g0 : Int32) (g2 : Int32) (g3 : Value) (g4 : Value) (g5 : Value) (g6 : Int32) (g7 : Int32) (g8 : Int32) (g9 : Int32) (g10 : Int32) (g11 : Int32) (g12 : Int32) (g13 : Int32) (g14 : Int32) (g15 : Int64) (g16 : Value) (g17 : Value) (g18 : Value) (g19 : Value) (g20 : Int32) (g21 : Int32) (g22 : Value) (g23 : Value) (g24 : Value) (g25 : Int32) (g26 : Value) (g27 : Int32) (g28 : Int32) (g29 : Int32) (g30 : Int32) : ctI l dC dI cy yX13_trouble cX13_trouble 1 .int ({ frames := 0, cells := 0, slots := 0, locals := 0 }) [.ref h0] [(h0, .inr (12, [.int g0, .int 0, .int g2, g3, g4, g5, .int g6, .int g7, .int g8, .int g9, .int g10, .int g11, .int g12, .int g13, .int g14, .long g15, g16, g17, g18, g19, .int g20, .int g21, g22, g23, g24, .int g25, g26, .int g27, .int g28, .int g29, .int g30]))] (S := Unit) (fun r _ => r = 0) (fun _ => []) := by
  refine ctI.of (by decide +kernel) (Nat.le_of_ble_eq_true rfl) ?_
  intro p e s m args below meth c A ls X hr hlocks hin hA hP hD hS hl
  have hx := X.1
  have hb := X.2.1
  have hK := X.2.2.2.2.2.1
  have hl : lv_has ls 1 [(0, .ref h0)] := hl
  refine lv_aload_n hx hb dX13_trouble_0 rfl (lv_at hl 0 rfl) ?_
  refine lv_iconst (v := 0) hx hb dX13_trouble_1 (by decide) ?_
  refine r_put X kcX13 (ci := 12) rfl hP hD hS 0 rfl 0 (by decide) fX13_42 rfl rfl rfl (Nat.le_of_ble_eq_true rfl) dX13_trouble_2 (fun H locs hP hD hS => ?_)
  have hP : va_P (dC, dI) vwCl [(h0, .inr (12, [.int 0, .int 0, .int g2, g3, g4, g5, .int g6, .int g7, .int g8, .int g9, .int g10, .int g11, .int g12, .int g13, .int g14, .long g15, g16, g17, g18, g19, .int g20, .int g21, g22, g23, g24, .int g25, g26, .int g27, .int g28, .int g29, .int g30]))] H := hP
  have hD : va_D A [(h0, .inr (12, [.int 0, .int 0, .int g2, g3, g4, g5, .int g6, .int g7, .int g8, .int g9, .int g10, .int g11, .int g12, .int g13, .int g14, .long g15, g16, g17, g18, g19, .int g20, .int g21, g22, g23, g24, .int g25, g26, .int g27, .int g28, .int g29, .int g30]))] := hD
  refine lv_aload_n hx hb dX13_trouble_5 rfl (lv_at hl 0 rfl) ?_
  refine r_get X kcX13 (ci := 12) rfl hP 0 rfl 1 (by decide) fX13_45 rfl dX13_trouble_6 ?_
  exact eI X hr hlocks hP hD hS () [] (by decide) rfl rfl rfl (Nat.le_of_ble_eq_true rfl) (Nat.le_of_ble_eq_true rfl) dX13_trouble_9
set_option maxHeartbeats 4000000 in
set_option maxRecDepth 100000 in
theorem tX13_led (l : Launch) (dC : Nat → ClassId) (dI : Nat → Nat → Nat) (cy : Nat → ClassId) (h0 : Nat) (g0 : Int32) (g1 : Int32) (g2 : Int32) (g4 : Value) (g5 : Value) (g6 : Int32) (g7 : Int32) (g8 : Int32) (g9 : Int32) (g10 : Int32) (g11 : Int32) (g12 : Int32) (g13 : Int32) (g14 : Int32) (g15 : Int64) (g16 : Value) (g17 : Value) (g18 : Value) (g19 : Value) (g20 : Int32) (g21 : Int32) (g22 : Value) (g23 : Value) (g24 : Value) (g25 : Int32) (g26 : Value) (g27 : Int32) (g28 : Int32) (g29 : Int32) (g30 : Int32) (p1 : Int32) : ctI l dC dI cy yX13_led cX13_led 4 .int ({ frames := 0, cells := 0, slots := 0, locals := 0 }) [.ref h0, .int p1] [(h0, .inr (12, [.int g0, .int g1, .int g2, .null, g4, g5, .int g6, .int g7, .int g8, .int g9, .int g10, .int g11, .int g12, .int g13, .int g14, .long g15, g16, g17, g18, g19, .int g20, .int g21, g22, g23, g24, .int g25, g26, .int g27, .int g28, .int g29, .int g30]))] (S := Unit) (fun r _ => r = 0) (fun _ => [(h0, .inr (12, [.int 1, .int g1, .int g2, .null, g4, g5, .int g6, .int g7, .int g8, .int g9, .int g10, .int g11, .int g12, .int g13, .int g14, .long g15, g16, g17, g18, g19, .int g20, .int g21, g22, g23, g24, .int g25, g26, .int g27, .int g28, .int g29, .int g30]))]) := by
  refine ctI.of (by decide +kernel) (Nat.le_of_ble_eq_true rfl) ?_
  intro p e s m args below meth c A ls X hr hlocks hin hA hP hD hS hl
  have hx := X.1
  have hb := X.2.1
  have hK := X.2.2.2.2.2.1
  have hl : lv_has ls 4 [(0, .ref h0), (1, .int p1)] := hl
  refine lv_aload_n hx hb dX13_led_0 rfl (lv_at hl 0 rfl) ?_
  refine lv_iconst (v := 0) hx hb dX13_led_1 (by decide) ?_
  refine r_put X kcX13 (ci := 12) rfl hP hD hS 0 rfl 0 (by decide) fX13_42 rfl rfl rfl (Nat.le_of_ble_eq_true rfl) dX13_led_2 (fun H locs hP hD hS => ?_)
  have hP : va_P (dC, dI) vwCl [(h0, .inr (12, [.int 0, .int g1, .int g2, .null, g4, g5, .int g6, .int g7, .int g8, .int g9, .int g10, .int g11, .int g12, .int g13, .int g14, .long g15, g16, g17, g18, g19, .int g20, .int g21, g22, g23, g24, .int g25, g26, .int g27, .int g28, .int g29, .int g30]))] H := hP
  have hD : va_D A [(h0, .inr (12, [.int 0, .int g1, .int g2, .null, g4, g5, .int g6, .int g7, .int g8, .int g9, .int g10, .int g11, .int g12, .int g13, .int g14, .long g15, g16, g17, g18, g19, .int g20, .int g21, g22, g23, g24, .int g25, g26, .int g27, .int g28, .int g29, .int g30]))] := hD
  refine lv_iconst (v := 0) hx hb dX13_led_5 (by decide) ?_
  refine lv_istore_n (lv' := [(2, .int 0), (0, .ref h0), (1, .int p1)]) hx hb dX13_led_6 rfl hl (by decide) rfl (fun ls hl => ?_)
  refine lv_aload_n hx hb dX13_led_7 rfl (lv_at hl 1 rfl) ?_
  refine r_get X kcX13 (ci := 12) rfl hP 0 rfl 3 (by decide) fX13_269 rfl dX13_led_8 ?_
  refine lv_ifnullN (tgt := 18) hx hb dX13_led_11 (by decide) ?_
  refine lv_iconst (v := 0) hx hb dX13_led_18 (by decide) ?_
  refine lv_istore_n (lv' := [(3, .int 0), (2, .int 0), (0, .ref h0), (1, .int p1)]) hx hb dX13_led_19 rfl hl (by decide) rfl (fun ls hl => ?_)
  refine lv_aload_n hx hb dX13_led_20 rfl (lv_at hl 2 rfl) ?_
  refine r_get X kcX13 (ci := 12) rfl hP 0 rfl 3 (by decide) fX13_269 rfl dX13_led_21 ?_
  refine lv_ifnullN (tgt := 69) hx hb dX13_led_24 (by decide) ?_
  refine lv_aload_n hx hb dX13_led_69 rfl (lv_at hl 2 rfl) ?_
  refine lv_iconst (v := 1) hx hb dX13_led_70 (by decide) ?_
  refine r_put X kcX13 (ci := 12) rfl hP hD hS 0 rfl 0 (by decide) fX13_42 rfl rfl rfl (Nat.le_of_ble_eq_true rfl) dX13_led_71 (fun H locs hP hD hS => ?_)
  have hP : va_P (dC, dI) vwCl [(h0, .inr (12, [.int 1, .int g1, .int g2, .null, g4, g5, .int g6, .int g7, .int g8, .int g9, .int g10, .int g11, .int g12, .int g13, .int g14, .long g15, g16, g17, g18, g19, .int g20, .int g21, g22, g23, g24, .int g25, g26, .int g27, .int g28, .int g29, .int g30]))] H := hP
  have hD : va_D A [(h0, .inr (12, [.int 1, .int g1, .int g2, .null, g4, g5, .int g6, .int g7, .int g8, .int g9, .int g10, .int g11, .int g12, .int g13, .int g14, .long g15, g16, g17, g18, g19, .int g20, .int g21, g22, g23, g24, .int g25, g26, .int g27, .int g28, .int g29, .int g30]))] := hD
  refine lv_iconst (v := 0) hx hb dX13_led_74 (by decide) ?_
  exact eI X hr hlocks hP hD hS () [0] (by decide) rfl rfl rfl (Nat.le_of_ble_eq_true rfl) (Nat.le_of_ble_eq_true rfl) dX13_led_75
set_option maxHeartbeats 4000000 in
set_option maxRecDepth 100000 in
theorem tX13_in (l : Launch) (dC : Nat → ClassId) (dI : Nat → Nat → Nat) (cy : Nat → ClassId) (p1 : Int32) : ctI l dC dI cy yX13_in cX13_in 3 .boolean ({ frames := 0, cells := 0, slots := 0, locals := 0 }) [.int p1, .int 0, .int 8] [] (S := Unit) (fun r _ => (r.toInt = 1 ∧ 0 ≤ p1.toInt ∧ p1.toInt ≤ 8) ∨ (r.toInt = 0 ∧ (p1.toInt < 0 ∨ 8 < p1.toInt))) (fun _ => []) := by
  refine ctI.of (by decide +kernel) (Nat.le_of_ble_eq_true rfl) ?_
  intro p e s m args below meth c A ls X hr hlocks hin hA hP hD hS hl
  have hx := X.1
  have hb := X.2.1
  have hK := X.2.2.2.2.2.1
  have hl : lv_has ls 3 [(0, .int p1), (1, .int 0), (2, .int 8)] := hl
  refine lv_iload_n hx hb dX13_in_0 rfl (lv_at hl 0 rfl) ?_
  refine lv_iload_n hx hb dX13_in_1 rfl (lv_at hl 1 rfl) ?_
  refine lv_icmp_lt (tgt := 14) hx hb dX13_in_2 (by decide) (fun h_1 => ?_) (fun h_1 => ?_)
  · have h_1 : p1.toInt < 0 := c_lt h_1
    refine lv_iconst (v := 0) hx hb dX13_in_14 (by decide) ?_
    exact eI X hr hlocks hP hD hS () [] (by decide) rfl rfl (Or.inr ⟨by decide, by omega⟩) (Nat.le_of_ble_eq_true rfl) (Nat.le_of_ble_eq_true rfl) dX13_in_15
  · have h_1 : 0 ≤ p1.toInt := c_nlt h_1
    refine lv_iload_n hx hb dX13_in_5 rfl (lv_at hl 0 rfl) ?_
    refine lv_iload_n hx hb dX13_in_6 rfl (lv_at hl 2 rfl) ?_
    refine lv_icmp_gt (tgt := 14) hx hb dX13_in_7 (by decide) (fun h_2 => ?_) (fun h_2 => ?_)
    · have h_2 : 8 < p1.toInt := c_lt h_2
      refine lv_iconst (v := 0) hx hb dX13_in_14 (by decide) ?_
      exact eI X hr hlocks hP hD hS () [] (by decide) rfl rfl (Or.inr ⟨by decide, by omega⟩) (Nat.le_of_ble_eq_true rfl) (Nat.le_of_ble_eq_true rfl) dX13_in_15
    · have h_2 : p1.toInt ≤ 8 := c_nlt h_2
      refine lv_iconst (v := 1) hx hb dX13_in_10 (by decide) ?_
      refine lv_goto (tgt := 15) hx hb dX13_in_11 (by decide) ?_
      exact eI X hr hlocks hP hD hS () [] (by decide) rfl rfl (Or.inl ⟨by decide, by omega, by omega⟩) (Nat.le_of_ble_eq_true rfl) (Nat.le_of_ble_eq_true rfl) dX13_in_15
