set_option maxHeartbeats 4000000 in
set_option maxRecDepth 100000 in
theorem tX13_thrown (l : Launch) (dC : Nat → ClassId) (dI : Nat → Nat → Nat) (cy : Nat → ClassId) (h0 : Nat) (g1 : Int32) (g2 : Int32) (g3 : Value) (g4 : Value) (g5 : Value) (g6 : Int32) (g7 : Int32) (g8 : Int32) (g9 : Int32) (g10 : Int32) (g11 : Int32) (g12 : Int32) (g13 : Int32) (g14 : Int32) (g15 : Int64) (g16 : Value) (g17 : Value) (g18 : Value) (g19 : Value) (g20 : Int32) (g21 : Int32) (g22 : Value) (g23 : Value) (g24 : Value) (g25 : Int32) (g26 : Value) (g27 : Int32) (g28 : Int32) (g29 : Int32) (g30 : Int32) : ctI l dC dI cy yX13_thrown cX13_thrown 1 .int ({ frames := 0, cells := 0, slots := 0, locals := 0 }) [.ref h0] [(h0, .inr (12, [.int 1, .int g1, .int g2, g3, g4, g5, .int g6, .int g7, .int g8, .int g9, .int g10, .int g11, .int g12, .int g13, .int g14, .long g15, g16, g17, g18, g19, .int g20, .int g21, g22, g23, g24, .int g25, g26, .int g27, .int g28, .int g29, .int g30]))] (S := Unit) (fun r _ => r = 1) (fun _ => []) := by
  refine ctI.of (by decide +kernel) (Nat.le_of_ble_eq_true rfl) ?_
  intro p e s m args below meth c A ls X hr hlocks hin hA hP hD hS hl
  have hx := X.1
  have hb := X.2.1
  have hK := X.2.2.2.2.2.1
  have hl : lv_has ls 1 [(0, .ref h0)] := hl
  refine lv_aload_n hx hb dX13_thrown_0 rfl (lv_at hl 0 rfl) ?_
  refine r_get X kcX13 (ci := 12) rfl hP 0 rfl 0 (by decide) fX13_42 rfl dX13_thrown_1 ?_
  exact eI X hr hlocks hP hD hS () [] (by decide) rfl rfl rfl (Nat.le_of_ble_eq_true rfl) (Nat.le_of_ble_eq_true rfl) dX13_thrown_4
set_option maxHeartbeats 4000000 in
set_option maxRecDepth 100000 in
theorem tX13_refused (l : Launch) (dC : Nat → ClassId) (dI : Nat → Nat → Nat) (cy : Nat → ClassId) (h0 : Nat) (g0 : Int32) (g1 : Int32) (g2 : Int32) (g3 : Value) (g4 : Value) (g5 : Value) (g6 : Int32) (g7 : Int32) (g8 : Int32) (g9 : Int32) (g10 : Int32) (g11 : Int32) (g12 : Int32) (g13 : Int32) (g14 : Int32) (g15 : Int64) (g16 : Value) (g17 : Value) (g18 : Value) (g19 : Value) (g20 : Int32) (g21 : Int32) (g22 : Value) (g23 : Value) (g24 : Value) (g25 : Int32) (g26 : Value) (g27 : Int32) (g28 : Int32) (g29 : Int32) (g30 : Int32) (p1 : Int32) : ctI l dC dI cy yX13_refused cX13_refused 2 .int ({ frames := 0, cells := 0, slots := 0, locals := 0 }) [.ref h0, .int p1] [(h0, .inr (12, [.int g0, .int g1, .int g2, g3, g4, g5, .int g6, .int g7, .int g8, .int g9, .int g10, .int g11, .int g12, .int g13, .int g14, .long g15, g16, g17, g18, g19, .int g20, .int g21, g22, g23, g24, .int g25, g26, .int g27, .int g28, .int g29, .int g30]))] (S := Unit) (fun r _ => r = -1) (fun _ => []) := by
  refine ctI.of (by decide +kernel) (Nat.le_of_ble_eq_true rfl) ?_
  intro p e s m args below meth c A ls X hr hlocks hin hA hP hD hS hl
  have hx := X.1
  have hb := X.2.1
  have hK := X.2.2.2.2.2.1
  have hl : lv_has ls 2 [(0, .ref h0), (1, .int p1)] := hl
  refine lv_aload_n hx hb dX13_refused_0 rfl (lv_at hl 0 rfl) ?_
  refine lv_iload_n hx hb dX13_refused_1 rfl (lv_at hl 1 rfl) ?_
  refine r_put X kcX13 (ci := 12) rfl hP hD hS 0 rfl 1 (by decide) fX13_45 rfl rfl rfl (Nat.le_of_ble_eq_true rfl) dX13_refused_2 (fun H locs hP hD hS => ?_)
  have hP : va_P (dC, dI) vwCl [(h0, .inr (12, [.int g0, .int p1, .int g2, g3, g4, g5, .int g6, .int g7, .int g8, .int g9, .int g10, .int g11, .int g12, .int g13, .int g14, .long g15, g16, g17, g18, g19, .int g20, .int g21, g22, g23, g24, .int g25, g26, .int g27, .int g28, .int g29, .int g30]))] H := hP
  have hD : va_D A [(h0, .inr (12, [.int g0, .int p1, .int g2, g3, g4, g5, .int g6, .int g7, .int g8, .int g9, .int g10, .int g11, .int g12, .int g13, .int g14, .long g15, g16, g17, g18, g19, .int g20, .int g21, g22, g23, g24, .int g25, g26, .int g27, .int g28, .int g29, .int g30]))] := hD
  refine lv_aload_n hx hb dX13_refused_5 rfl (lv_at hl 0 rfl) ?_
  refine lv_iconst (v := -1) hx hb dX13_refused_6 (by decide) ?_
  refine r_put X kcX13 (ci := 12) rfl hP hD hS 0 rfl 2 (by decide) fX13_9 rfl rfl rfl (Nat.le_of_ble_eq_true rfl) dX13_refused_7 (fun H locs hP hD hS => ?_)
  have hP : va_P (dC, dI) vwCl [(h0, .inr (12, [.int g0, .int p1, .int (-1), g3, g4, g5, .int g6, .int g7, .int g8, .int g9, .int g10, .int g11, .int g12, .int g13, .int g14, .long g15, g16, g17, g18, g19, .int g20, .int g21, g22, g23, g24, .int g25, g26, .int g27, .int g28, .int g29, .int g30]))] H := hP
  have hD : va_D A [(h0, .inr (12, [.int g0, .int p1, .int (-1), g3, g4, g5, .int g6, .int g7, .int g8, .int g9, .int g10, .int g11, .int g12, .int g13, .int g14, .long g15, g16, g17, g18, g19, .int g20, .int g21, g22, g23, g24, .int g25, g26, .int g27, .int g28, .int g29, .int g30]))] := hD
  refine lv_iconst (v := -1) hx hb dX13_refused_10 (by decide) ?_
  exact eI X hr hlocks hP hD hS () [] (by decide) rfl rfl rfl (Nat.le_of_ble_eq_true rfl) (Nat.le_of_ble_eq_true rfl) dX13_refused_11
set_option maxHeartbeats 4000000 in
set_option maxRecDepth 100000 in
theorem tX13_lost (l : Launch) (dC : Nat → ClassId) (dI : Nat → Nat → Nat) (cy : Nat → ClassId) (h0 : Nat) (g0 : Int32) (g1 : Int32) (g2 : Int32) (g3 : Value) (g4 : Value) (g5 : Value) (g6 : Int32) (g7 : Int32) (g8 : Int32) (g9 : Int32) (g10 : Int32) (g11 : Int32) (g12 : Int32) (g13 : Int32) (g14 : Int32) (g15 : Int64) (g16 : Value) (g17 : Value) (g18 : Value) (g19 : Value) (g20 : Int32) (g21 : Int32) (g22 : Value) (g23 : Value) (g24 : Value) (g25 : Int32) (g26 : Value) (g27 : Int32) (g28 : Int32) (g29 : Int32) (g30 : Int32) (p1 : Int32) : ctI l dC dI cy yX13_lost cX13_lost 2 .int ({ frames := 1, cells := 0, slots := 0, locals := 21 }) [.ref h0, .int p1] [(h0, .inr (12, [.int g0, .int g1, .int g2, g3, g4, g5, .int g6, .int g7, .int g8, .int g9, .int g10, .int g11, .int g12, .int g13, .int g14, .long g15, g16, g17, g18, g19, .int g20, .int g21, g22, g23, g24, .int g25, g26, .int g27, .int g28, .int g29, .int g30]))] (S := Unit) (fun r _ => r = -100) (fun _ => []) := by
  refine ctI.of (by decide +kernel) (Nat.le_of_ble_eq_true rfl) ?_
  intro p e s m args below meth c A ls X hr hlocks hin hA hP hD hS hl
  have hx := X.1
  have hb := X.2.1
  have hK := X.2.2.2.2.2.1
  have hl : lv_has ls 2 [(0, .ref h0), (1, .int p1)] := hl
  refine lv_aload_n hx hb dX13_lost_0 rfl (lv_at hl 0 rfl) ?_
  refine lv_iload_n hx hb dX13_lost_1 rfl (lv_at hl 1 rfl) ?_
  refine fI (wr := []) (rV_I (wc := [(h0, .inr (12, [.int g0, .int g1, .int g2, g3, g4, g5, .int g6, .int g7, .int g8, .int g9, .int g10, .int g11, .int g12, .int g13, .int g14, .long g15, g16, g17, g18, g19, .int g20, .int g21, g22, g23, g24, .int g25, g26, .int g27, .int g28, .int g29, .int g30]))]) (As := [.int p1]) (rest := []) X (tX13_refused l dC dI cy h0 g0 g1 g2 g3 g4 g5 g6 g7 g8 g9 g10 g11 g12 g13 g14 g15 g16 g17 g18 g19 g20 g21 g22 g23 g24 g25 g26 g27 g28 g29 g30 p1) kX13_refused vX13_refused mX13_48 hP hD [0] (by decide) rfl 0 (ci := 12) rfl rfl rfl hl rfl rfl (Nat.le_of_ble_eq_true rfl) dX13_lost_2 ⟨Nat.le_of_ble_eq_true rfl, Nat.le_of_ble_eq_true rfl⟩ ⟨Nat.le_of_ble_eq_true rfl, Nat.le_of_ble_eq_true rfl⟩) hP hD hS hA [0] [] rfl rfl (by decide) (by decide) (fun r_1 u_3 H locs k_2 hP hD hS => ?_)
  have hP : va_P (dC, dI) vwCl [] H := hP
  have hD : va_D A [] := hD
  have er_1 : r_1 = -1 := k_2
  subst er_1
  refine lv_pop hx hb dX13_lost_5 rfl ?_
  refine lv_bipush (v := -100) hx hb dX13_lost_6 (by decide) ?_
  exact eI X hr hlocks hP hD hS () [] (by decide) rfl rfl rfl (Nat.le_of_ble_eq_true rfl) (Nat.le_of_ble_eq_true rfl) dX13_lost_8
set_option maxHeartbeats 4000000 in
set_option maxRecDepth 100000 in
theorem tX13_denied (l : Launch) (dC : Nat → ClassId) (dI : Nat → Nat → Nat) (cy : Nat → ClassId) (h0 : Nat) (g0 : Int32) (g1 : Int32) (g2 : Int32) (g3 : Value) (g4 : Value) (g5 : Value) (g6 : Int32) (g7 : Int32) (g8 : Int32) (g9 : Int32) (g10 : Int32) (g11 : Int32) (g12 : Int32) (g13 : Int32) (g14 : Int32) (g15 : Int64) (g16 : Value) (g17 : Value) (g18 : Value) (g19 : Value) (g20 : Int32) (g21 : Int32) (g22 : Value) (g23 : Value) (g24 : Value) (g25 : Int32) (g26 : Value) (g27 : Int32) (g28 : Int32) (g29 : Int32) (g30 : Int32) (p1 : Int32) : ctI l dC dI cy yX13_denied cX13_denied 2 .boolean ({ frames := 1, cells := 0, slots := 0, locals := 21 }) [.ref h0, .int p1] [(h0, .inr (12, [.int g0, .int g1, .int g2, g3, g4, g5, .int g6, .int g7, .int g8, .int g9, .int g10, .int g11, .int g12, .int g13, .int g14, .long g15, g16, g17, g18, g19, .int g20, .int g21, g22, g23, g24, .int g25, g26, .int g27, .int g28, .int g29, .int g30]))] (S := Unit) (fun r _ => r = 0) (fun _ => []) := by
  refine ctI.of (by decide +kernel) (Nat.le_of_ble_eq_true rfl) ?_
  intro p e s m args below meth c A ls X hr hlocks hin hA hP hD hS hl
  have hx := X.1
  have hb := X.2.1
  have hK := X.2.2.2.2.2.1
  have hl : lv_has ls 2 [(0, .ref h0), (1, .int p1)] := hl
  refine lv_aload_n hx hb dX13_denied_0 rfl (lv_at hl 0 rfl) ?_
  refine lv_iload_n hx hb dX13_denied_1 rfl (lv_at hl 1 rfl) ?_
  refine fI (wr := []) (rV_I (wc := [(h0, .inr (12, [.int g0, .int g1, .int g2, g3, g4, g5, .int g6, .int g7, .int g8, .int g9, .int g10, .int g11, .int g12, .int g13, .int g14, .long g15, g16, g17, g18, g19, .int g20, .int g21, g22, g23, g24, .int g25, g26, .int g27, .int g28, .int g29, .int g30]))]) (As := [.int p1]) (rest := []) X (tX13_refused l dC dI cy h0 g0 g1 g2 g3 g4 g5 g6 g7 g8 g9 g10 g11 g12 g13 g14 g15 g16 g17 g18 g19 g20 g21 g22 g23 g24 g25 g26 g27 g28 g29 g30 p1) kX13_refused vX13_refused mX13_48 hP hD [0] (by decide) rfl 0 (ci := 12) rfl rfl rfl hl rfl rfl (Nat.le_of_ble_eq_true rfl) dX13_denied_2 ⟨Nat.le_of_ble_eq_true rfl, Nat.le_of_ble_eq_true rfl⟩ ⟨Nat.le_of_ble_eq_true rfl, Nat.le_of_ble_eq_true rfl⟩) hP hD hS hA [0] [] rfl rfl (by decide) (by decide) (fun r_1 u_3 H locs k_2 hP hD hS => ?_)
  have hP : va_P (dC, dI) vwCl [] H := hP
  have hD : va_D A [] := hD
  have er_1 : r_1 = -1 := k_2
  subst er_1
  refine lv_pop hx hb dX13_denied_5 rfl ?_
  refine lv_iconst (v := 0) hx hb dX13_denied_6 (by decide) ?_
  exact eI X hr hlocks hP hD hS () [] (by decide) rfl rfl rfl (Nat.le_of_ble_eq_true rfl) (Nat.le_of_ble_eq_true rfl) dX13_denied_7
set_option maxHeartbeats 4000000 in
set_option maxRecDepth 100000 in
theorem tX13_isPlace (l : Launch) (dC : Nat → ClassId) (dI : Nat → Nat → Nat) (cy : Nat → ClassId) (h0 : Nat) (g0 : Int32) (g1 : Int32) (g2 : Int32) (g4 : Value) (g5 : Value) (g6 : Int32) (g7 : Int32) (g8 : Int32) (g9 : Int32) (g10 : Int32) (g11 : Int32) (g12 : Int32) (g13 : Int32) (g14 : Int32) (g15 : Int64) (g16 : Value) (g17 : Value) (g18 : Value) (g19 : Value) (g20 : Int32) (g21 : Int32) (g22 : Value) (g23 : Value) (g24 : Value) (g25 : Int32) (g26 : Value) (g27 : Int32) (g28 : Int32) (g29 : Int32) (g30 : Int32) (p1 : Int32) : ctI l dC dI cy yX13_isPlace cX13_isPlace 2 .boolean ({ frames := 0, cells := 0, slots := 0, locals := 0 }) [.ref h0, .int p1] [(h0, .inr (12, [.int g0, .int g1, .int g2, .null, g4, g5, .int g6, .int g7, .int g8, .int g9, .int g10, .int g11, .int g12, .int g13, .int g14, .long g15, g16, g17, g18, g19, .int g20, .int g21, g22, g23, g24, .int g25, g26, .int g27, .int g28, .int g29, .int g30]))] (S := Unit) (fun r _ => r = 0) (fun _ => [(h0, .inr (12, [.int g0, .int g1, .int g2, .null, g4, g5, .int g6, .int g7, .int g8, .int g9, .int g10, .int g11, .int g12, .int g13, .int g14, .long g15, g16, g17, g18, g19, .int g20, .int g21, g22, g23, g24, .int g25, g26, .int g27, .int g28, .int g29, .int g30]))]) := by
  refine ctI.of (by decide +kernel) (Nat.le_of_ble_eq_true rfl) ?_
  intro p e s m args below meth c A ls X hr hlocks hin hA hP hD hS hl
  have hx := X.1
  have hb := X.2.1
  have hK := X.2.2.2.2.2.1
  have hl : lv_has ls 2 [(0, .ref h0), (1, .int p1)] := hl
  refine lv_aload_n hx hb dX13_isPlace_0 rfl (lv_at hl 0 rfl) ?_
  refine r_get X kcX13 (ci := 12) rfl hP 0 rfl 3 (by decide) fX13_269 rfl dX13_isPlace_1 ?_
  refine lv_ifnullN (tgt := 23) hx hb dX13_isPlace_4 (by decide) ?_
  refine lv_iconst (v := 0) hx hb dX13_isPlace_23 (by decide) ?_
  exact eI X hr hlocks hP hD hS () [0] (by decide) rfl rfl rfl (Nat.le_of_ble_eq_true rfl) (Nat.le_of_ble_eq_true rfl) dX13_isPlace_24
set_option maxHeartbeats 4000000 in
set_option maxRecDepth 100000 in
theorem tX13_isWalker (l : Launch) (dC : Nat → ClassId) (dI : Nat → Nat → Nat) (cy : Nat → ClassId) (h0 : Nat) (g0 : Int32) (g1 : Int32) (g2 : Int32) (g4 : Value) (g5 : Value) (g6 : Int32) (g7 : Int32) (g8 : Int32) (g9 : Int32) (g10 : Int32) (g11 : Int32) (g12 : Int32) (g13 : Int32) (g14 : Int32) (g15 : Int64) (g16 : Value) (g17 : Value) (g18 : Value) (g19 : Value) (g20 : Int32) (g21 : Int32) (g22 : Value) (g23 : Value) (g24 : Value) (g25 : Int32) (g26 : Value) (g27 : Int32) (g28 : Int32) (g29 : Int32) (g30 : Int32) (p1 : Int32) : ctI l dC dI cy yX13_isWalker cX13_isWalker 2 .boolean ({ frames := 0, cells := 0, slots := 0, locals := 0 }) [.ref h0, .int p1] [(h0, .inr (12, [.int g0, .int g1, .int g2, .null, g4, g5, .int g6, .int g7, .int g8, .int g9, .int g10, .int g11, .int g12, .int g13, .int g14, .long g15, g16, g17, g18, g19, .int g20, .int g21, g22, g23, g24, .int g25, g26, .int g27, .int g28, .int g29, .int g30]))] (S := Unit) (fun r _ => r = 0) (fun _ => [(h0, .inr (12, [.int g0, .int g1, .int g2, .null, g4, g5, .int g6, .int g7, .int g8, .int g9, .int g10, .int g11, .int g12, .int g13, .int g14, .long g15, g16, g17, g18, g19, .int g20, .int g21, g22, g23, g24, .int g25, g26, .int g27, .int g28, .int g29, .int g30]))]) := by
  refine ctI.of (by decide +kernel) (Nat.le_of_ble_eq_true rfl) ?_
  intro p e s m args below meth c A ls X hr hlocks hin hA hP hD hS hl
  have hx := X.1
  have hb := X.2.1
  have hK := X.2.2.2.2.2.1
  have hl : lv_has ls 2 [(0, .ref h0), (1, .int p1)] := hl
  refine lv_aload_n hx hb dX13_isWalker_0 rfl (lv_at hl 0 rfl) ?_
  refine r_get X kcX13 (ci := 12) rfl hP 0 rfl 3 (by decide) fX13_269 rfl dX13_isWalker_1 ?_
  refine lv_ifnullN (tgt := 26) hx hb dX13_isWalker_4 (by decide) ?_
  refine lv_iconst (v := 0) hx hb dX13_isWalker_26 (by decide) ?_
  exact eI X hr hlocks hP hD hS () [0] (by decide) rfl rfl rfl (Nat.le_of_ble_eq_true rfl) (Nat.le_of_ble_eq_true rfl) dX13_isWalker_27
set_option maxHeartbeats 4000000 in
set_option maxRecDepth 100000 in
theorem tX13_refusesStep (l : Launch) (dC : Nat → ClassId) (dI : Nat → Nat → Nat) (cy : Nat → ClassId) (h0 : Nat) (g0 : Int32) (g1 : Int32) (g2 : Int32) (g4 : Value) (g5 : Value) (g6 : Int32) (g7 : Int32) (g8 : Int32) (g9 : Int32) (g10 : Int32) (g11 : Int32) (g12 : Int32) (g13 : Int32) (g14 : Int32) (g15 : Int64) (g16 : Value) (g17 : Value) (g18 : Value) (g19 : Value) (g20 : Int32) (g21 : Int32) (g22 : Value) (g23 : Value) (g24 : Value) (g25 : Int32) (g26 : Value) (g27 : Int32) (g28 : Int32) (g29 : Int32) (g30 : Int32) (p1 : Int32) (p2 : Int32) (p3 : Int32) : ctI l dC dI cy yX13_refusesStep cX13_refusesStep 4 .int ({ frames := 1, cells := 0, slots := 0, locals := 21 }) [.ref h0, .int p1, .int p2, .int p3] [(h0, .inr (12, [.int g0, .int g1, .int g2, .null, g4, g5, .int g6, .int g7, .int g8, .int g9, .int g10, .int g11, .int g12, .int g13, .int g14, .long g15, g16, g17, g18, g19, .int g20, .int g21, g22, g23, g24, .int g25, g26, .int g27, .int g28, .int g29, .int g30]))] (S := Unit) (fun r _ => r = 1) (fun _ => [(h0, .inr (12, [.int g0, .int g1, .int g2, .null, g4, g5, .int g6, .int g7, .int g8, .int g9, .int g10, .int g11, .int g12, .int g13, .int g14, .long g15, g16, g17, g18, g19, .int g20, .int g21, g22, g23, g24, .int g25, g26, .int g27, .int g28, .int g29, .int g30]))]) := by
  refine ctI.of (by decide +kernel) (Nat.le_of_ble_eq_true rfl) ?_
  intro p e s m args below meth c A ls X hr hlocks hin hA hP hD hS hl
  have hx := X.1
  have hb := X.2.1
  have hK := X.2.2.2.2.2.1
  have hl : lv_has ls 4 [(0, .ref h0), (1, .int p1), (2, .int p2), (3, .int p3)] := hl
  refine lv_aload_n hx hb dX13_refusesStep_0 rfl (lv_at hl 0 rfl) ?_
  refine lv_iload_n hx hb dX13_refusesStep_1 rfl (lv_at hl 1 rfl) ?_
  refine fI (wr := []) (rV_I (wc := [(h0, .inr (12, [.int g0, .int g1, .int g2, .null, g4, g5, .int g6, .int g7, .int g8, .int g9, .int g10, .int g11, .int g12, .int g13, .int g14, .long g15, g16, g17, g18, g19, .int g20, .int g21, g22, g23, g24, .int g25, g26, .int g27, .int g28, .int g29, .int g30]))]) (As := [.int p1]) (rest := []) X (tX13_isWalker l dC dI cy h0 g0 g1 g2 g4 g5 g6 g7 g8 g9 g10 g11 g12 g13 g14 g15 g16 g17 g18 g19 g20 g21 g22 g23 g24 g25 g26 g27 g28 g29 g30 p1) kX13_isWalker vX13_isWalker mX13_311 hP hD [0] (by decide) rfl 0 (ci := 12) rfl rfl rfl hl rfl rfl (Nat.le_of_ble_eq_true rfl) dX13_refusesStep_2 ⟨Nat.le_of_ble_eq_true rfl, Nat.le_of_ble_eq_true rfl⟩ ⟨Nat.le_of_ble_eq_true rfl, Nat.le_of_ble_eq_true rfl⟩) hP hD hS hA [0] [] rfl rfl (by decide) (by decide) (fun r_1 u_3 H locs k_2 hP hD hS => ?_)
  have hP : va_P (dC, dI) vwCl [(h0, .inr (12, [.int g0, .int g1, .int g2, .null, g4, g5, .int g6, .int g7, .int g8, .int g9, .int g10, .int g11, .int g12, .int g13, .int g14, .long g15, g16, g17, g18, g19, .int g20, .int g21, g22, g23, g24, .int g25, g26, .int g27, .int g28, .int g29, .int g30]))] H := hP
  have hD : va_D A [(h0, .inr (12, [.int g0, .int g1, .int g2, .null, g4, g5, .int g6, .int g7, .int g8, .int g9, .int g10, .int g11, .int g12, .int g13, .int g14, .long g15, g16, g17, g18, g19, .int g20, .int g21, g22, g23, g24, .int g25, g26, .int g27, .int g28, .int g29, .int g30]))] := hD
  have er_1 : r_1 = 0 := k_2
  subst er_1
  refine lv_if_eq (tgt := 16) hx hb dX13_refusesStep_5 (by decide) (fun _ => ?_) (fun h_4 => absurd (by decide) h_4)
  refine lv_iconst (v := 1) hx hb dX13_refusesStep_16 (by decide) ?_
  refine lv_goto (tgt := 34) hx hb dX13_refusesStep_17 (by decide) ?_
  exact eI X hr hlocks hP hD hS () [0] (by decide) rfl rfl rfl (Nat.le_of_ble_eq_true rfl) (Nat.le_of_ble_eq_true rfl) dX13_refusesStep_34
set_option maxHeartbeats 4000000 in
set_option maxRecDepth 100000 in
theorem tX13_refusesShame (l : Launch) (dC : Nat → ClassId) (dI : Nat → Nat → Nat) (cy : Nat → ClassId) (h0 : Nat) (g0 : Int32) (g1 : Int32) (g2 : Int32) (g4 : Value) (g5 : Value) (g6 : Int32) (g7 : Int32) (g8 : Int32) (g9 : Int32) (g10 : Int32) (g11 : Int32) (g12 : Int32) (g13 : Int32) (g14 : Int32) (g15 : Int64) (g16 : Value) (g17 : Value) (g18 : Value) (g19 : Value) (g20 : Int32) (g21 : Int32) (g22 : Value) (g23 : Value) (g24 : Value) (g25 : Int32) (g26 : Value) (g27 : Int32) (g28 : Int32) (g29 : Int32) (g30 : Int32) (p1 : Int32) : ctI l dC dI cy yX13_refusesShame cX13_refusesShame 2 .int ({ frames := 0, cells := 0, slots := 0, locals := 0 }) [.ref h0, .int p1] [(h0, .inr (12, [.int g0, .int g1, .int g2, .null, g4, g5, .int g6, .int g7, .int g8, .int g9, .int g10, .int g11, .int g12, .int g13, .int g14, .long g15, g16, g17, g18, g19, .int g20, .int g21, g22, g23, g24, .int g25, g26, .int g27, .int g28, .int g29, .int g30]))] (S := Unit) (fun r _ => r = 1) (fun _ => [(h0, .inr (12, [.int g0, .int g1, .int g2, .null, g4, g5, .int g6, .int g7, .int g8, .int g9, .int g10, .int g11, .int g12, .int g13, .int g14, .long g15, g16, g17, g18, g19, .int g20, .int g21, g22, g23, g24, .int g25, g26, .int g27, .int g28, .int g29, .int g30]))]) := by
  refine ctI.of (by decide +kernel) (Nat.le_of_ble_eq_true rfl) ?_
  intro p e s m args below meth c A ls X hr hlocks hin hA hP hD hS hl
  have hx := X.1
  have hb := X.2.1
  have hK := X.2.2.2.2.2.1
  have hl : lv_has ls 2 [(0, .ref h0), (1, .int p1)] := hl
  refine lv_aload_n hx hb dX13_refusesShame_0 rfl (lv_at hl 0 rfl) ?_
  refine r_get X kcX13 (ci := 12) rfl hP 0 rfl 3 (by decide) fX13_269 rfl dX13_refusesShame_1 ?_
  refine lv_ifnonnullN hx hb dX13_refusesShame_4 ?_
  refine lv_iconst (v := 1) hx hb dX13_refusesShame_7 (by decide) ?_
  refine lv_goto (tgt := 26) hx hb dX13_refusesShame_8 (by decide) ?_
  exact eI X hr hlocks hP hD hS () [0] (by decide) rfl rfl rfl (Nat.le_of_ble_eq_true rfl) (Nat.le_of_ble_eq_true rfl) dX13_refusesShame_26
set_option maxHeartbeats 4000000 in
set_option maxRecDepth 100000 in
theorem tX13_refusesSeed (l : Launch) (dC : Nat → ClassId) (dI : Nat → Nat → Nat) (cy : Nat → ClassId) (h0 : Nat) (g0 : Int32) (g1 : Int32) (g2 : Int32) (g4 : Value) (g5 : Value) (g6 : Int32) (g7 : Int32) (g8 : Int32) (g9 : Int32) (g10 : Int32) (g11 : Int32) (g12 : Int32) (g13 : Int32) (g14 : Int32) (g15 : Int64) (g16 : Value) (g17 : Value) (g18 : Value) (g19 : Value) (g20 : Int32) (g21 : Int32) (g22 : Value) (g23 : Value) (g24 : Value) (g25 : Int32) (g26 : Value) (g27 : Int32) (g28 : Int32) (g29 : Int32) (g30 : Int32) (p1 : Int32) (p2 : Int32) (p3 : Int32) : ctI l dC dI cy yX13_refusesSeed cX13_refusesSeed 4 .int ({ frames := 1, cells := 0, slots := 0, locals := 21 }) [.ref h0, .int p1, .int p2, .int p3] [(h0, .inr (12, [.int g0, .int g1, .int g2, .null, g4, g5, .int g6, .int g7, .int g8, .int g9, .int g10, .int g11, .int g12, .int g13, .int g14, .long g15, g16, g17, g18, g19, .int g20, .int g21, g22, g23, g24, .int g25, g26, .int g27, .int g28, .int g29, .int g30]))] (S := Unit) (fun r _ => r = 1) (fun _ => [(h0, .inr (12, [.int g0, .int g1, .int g2, .null, g4, g5, .int g6, .int g7, .int g8, .int g9, .int g10, .int g11, .int g12, .int g13, .int g14, .long g15, g16, g17, g18, g19, .int g20, .int g21, g22, g23, g24, .int g25, g26, .int g27, .int g28, .int g29, .int g30]))]) := by
  refine ctI.of (by decide +kernel) (Nat.le_of_ble_eq_true rfl) ?_
  intro p e s m args below meth c A ls X hr hlocks hin hA hP hD hS hl
  have hx := X.1
  have hb := X.2.1
  have hK := X.2.2.2.2.2.1
  have hl : lv_has ls 4 [(0, .ref h0), (1, .int p1), (2, .int p2), (3, .int p3)] := hl
  refine lv_aload_n hx hb dX13_refusesSeed_0 rfl (lv_at hl 0 rfl) ?_
  refine lv_iload_n hx hb dX13_refusesSeed_1 rfl (lv_at hl 1 rfl) ?_
  refine fI (wr := []) (rV_I (wc := [(h0, .inr (12, [.int g0, .int g1, .int g2, .null, g4, g5, .int g6, .int g7, .int g8, .int g9, .int g10, .int g11, .int g12, .int g13, .int g14, .long g15, g16, g17, g18, g19, .int g20, .int g21, g22, g23, g24, .int g25, g26, .int g27, .int g28, .int g29, .int g30]))]) (As := [.int p1]) (rest := []) X (tX13_isWalker l dC dI cy h0 g0 g1 g2 g4 g5 g6 g7 g8 g9 g10 g11 g12 g13 g14 g15 g16 g17 g18 g19 g20 g21 g22 g23 g24 g25 g26 g27 g28 g29 g30 p1) kX13_isWalker vX13_isWalker mX13_311 hP hD [0] (by decide) rfl 0 (ci := 12) rfl rfl rfl hl rfl rfl (Nat.le_of_ble_eq_true rfl) dX13_refusesSeed_2 ⟨Nat.le_of_ble_eq_true rfl, Nat.le_of_ble_eq_true rfl⟩ ⟨Nat.le_of_ble_eq_true rfl, Nat.le_of_ble_eq_true rfl⟩) hP hD hS hA [0] [] rfl rfl (by decide) (by decide) (fun r_1 u_3 H locs k_2 hP hD hS => ?_)
  have hP : va_P (dC, dI) vwCl [(h0, .inr (12, [.int g0, .int g1, .int g2, .null, g4, g5, .int g6, .int g7, .int g8, .int g9, .int g10, .int g11, .int g12, .int g13, .int g14, .long g15, g16, g17, g18, g19, .int g20, .int g21, g22, g23, g24, .int g25, g26, .int g27, .int g28, .int g29, .int g30]))] H := hP
  have hD : va_D A [(h0, .inr (12, [.int g0, .int g1, .int g2, .null, g4, g5, .int g6, .int g7, .int g8, .int g9, .int g10, .int g11, .int g12, .int g13, .int g14, .long g15, g16, g17, g18, g19, .int g20, .int g21, g22, g23, g24, .int g25, g26, .int g27, .int g28, .int g29, .int g30]))] := hD
  have er_1 : r_1 = 0 := k_2
  subst er_1
  refine lv_if_ne (tgt := 12) hx hb dX13_refusesSeed_5 (by decide) (fun h_4 => absurd (by decide) h_4) (fun _ => ?_)
  refine lv_iconst (v := 1) hx hb dX13_refusesSeed_8 (by decide) ?_
  refine lv_goto (tgt := 38) hx hb dX13_refusesSeed_9 (by decide) ?_
  exact eI X hr hlocks hP hD hS () [0] (by decide) rfl rfl rfl (Nat.le_of_ble_eq_true rfl) (Nat.le_of_ble_eq_true rfl) dX13_refusesSeed_38
set_option maxHeartbeats 4000000 in
set_option maxRecDepth 100000 in
theorem tX13_wayPart (l : Launch) (dC : Nat → ClassId) (dI : Nat → Nat → Nat) (cy : Nat → ClassId) (h0 : Nat) (g0 : Int32) (g1 : Int32) (g2 : Int32) (g4 : Value) (g5 : Value) (g6 : Int32) (g7 : Int32) (g8 : Int32) (g9 : Int32) (g10 : Int32) (g11 : Int32) (g12 : Int32) (g13 : Int32) (g14 : Int32) (g15 : Int64) (g16 : Value) (g17 : Value) (g18 : Value) (g19 : Value) (g20 : Int32) (g21 : Int32) (g22 : Value) (g23 : Value) (g24 : Value) (g25 : Int32) (g26 : Value) (g27 : Int32) (g28 : Int32) (g29 : Int32) (g30 : Int32) (p1 : Int32) (p2 : Int32) (p3 : Int32) : ctI l dC dI cy yX13_wayPart cX13_wayPart 5 .int ({ frames := 1, cells := 0, slots := 0, locals := 21 }) [.ref h0, .int p1, .int p2, .int p3] [(h0, .inr (12, [.int g0, .int g1, .int g2, .null, g4, g5, .int g6, .int g7, .int g8, .int g9, .int g10, .int g11, .int g12, .int g13, .int g14, .long g15, g16, g17, g18, g19, .int g20, .int g21, g22, g23, g24, .int g25, g26, .int g27, .int g28, .int g29, .int g30]))] (S := Unit) (fun r _ => r = -1) (fun _ => []) := by
  refine ctI.of (by decide +kernel) (Nat.le_of_ble_eq_true rfl) ?_
  intro p e s m args below meth c A ls X hr hlocks hin hA hP hD hS hl
  have hx := X.1
  have hb := X.2.1
  have hK := X.2.2.2.2.2.1
  have hl : lv_has ls 5 [(0, .ref h0), (1, .int p1), (2, .int p2), (3, .int p3)] := hl
  refine lv_aload_n hx hb dX13_wayPart_0 rfl (lv_at hl 0 rfl) ?_
  refine lv_iload_n hx hb dX13_wayPart_1 rfl (lv_at hl 1 rfl) ?_
  refine fI (wr := []) (rV_I (wc := [(h0, .inr (12, [.int g0, .int g1, .int g2, .null, g4, g5, .int g6, .int g7, .int g8, .int g9, .int g10, .int g11, .int g12, .int g13, .int g14, .long g15, g16, g17, g18, g19, .int g20, .int g21, g22, g23, g24, .int g25, g26, .int g27, .int g28, .int g29, .int g30]))]) (As := [.int p1]) (rest := []) X (tX13_isWalker l dC dI cy h0 g0 g1 g2 g4 g5 g6 g7 g8 g9 g10 g11 g12 g13 g14 g15 g16 g17 g18 g19 g20 g21 g22 g23 g24 g25 g26 g27 g28 g29 g30 p1) kX13_isWalker vX13_isWalker mX13_311 hP hD [0] (by decide) rfl 0 (ci := 12) rfl rfl rfl hl rfl rfl (Nat.le_of_ble_eq_true rfl) dX13_wayPart_2 ⟨Nat.le_of_ble_eq_true rfl, Nat.le_of_ble_eq_true rfl⟩ ⟨Nat.le_of_ble_eq_true rfl, Nat.le_of_ble_eq_true rfl⟩) hP hD hS hA [0] [] rfl rfl (by decide) (by decide) (fun r_1 u_3 H locs k_2 hP hD hS => ?_)
  have hP : va_P (dC, dI) vwCl [(h0, .inr (12, [.int g0, .int g1, .int g2, .null, g4, g5, .int g6, .int g7, .int g8, .int g9, .int g10, .int g11, .int g12, .int g13, .int g14, .long g15, g16, g17, g18, g19, .int g20, .int g21, g22, g23, g24, .int g25, g26, .int g27, .int g28, .int g29, .int g30]))] H := hP
  have hD : va_D A [(h0, .inr (12, [.int g0, .int g1, .int g2, .null, g4, g5, .int g6, .int g7, .int g8, .int g9, .int g10, .int g11, .int g12, .int g13, .int g14, .long g15, g16, g17, g18, g19, .int g20, .int g21, g22, g23, g24, .int g25, g26, .int g27, .int g28, .int g29, .int g30]))] := hD
  have er_1 : r_1 = 0 := k_2
  subst er_1
  refine lv_if_ne (tgt := 14) hx hb dX13_wayPart_5 (by decide) (fun h_4 => absurd (by decide) h_4) (fun _ => ?_)
  refine lv_aload_n hx hb dX13_wayPart_8 rfl (lv_at hl 0 rfl) ?_
  refine lv_iconst (v := 1) hx hb dX13_wayPart_9 (by decide) ?_
  refine fI (wr := []) (rV_I (wc := [(h0, .inr (12, [.int g0, .int g1, .int g2, .null, g4, g5, .int g6, .int g7, .int g8, .int g9, .int g10, .int g11, .int g12, .int g13, .int g14, .long g15, g16, g17, g18, g19, .int g20, .int g21, g22, g23, g24, .int g25, g26, .int g27, .int g28, .int g29, .int g30]))]) (As := [.int 1]) (rest := []) X (tX13_refused l dC dI cy h0 g0 g1 g2 .null g4 g5 g6 g7 g8 g9 g10 g11 g12 g13 g14 g15 g16 g17 g18 g19 g20 g21 g22 g23 g24 g25 g26 g27 g28 g29 g30 1) kX13_refused vX13_refused mX13_48 hP hD [0] (by decide) rfl 0 (ci := 12) rfl rfl rfl hl rfl rfl (Nat.le_of_ble_eq_true rfl) dX13_wayPart_10 ⟨Nat.le_of_ble_eq_true rfl, Nat.le_of_ble_eq_true rfl⟩ ⟨Nat.le_of_ble_eq_true rfl, Nat.le_of_ble_eq_true rfl⟩) hP hD hS hA [0] [] rfl rfl (by decide) (by decide) (fun r_5 u_7 H locs k_6 hP hD hS => ?_)
  have hP : va_P (dC, dI) vwCl [] H := hP
  have hD : va_D A [] := hD
  have er_5 : r_5 = -1 := k_6
  subst er_5
  exact eI X hr hlocks hP hD hS () [] (by decide) rfl rfl rfl (Nat.le_of_ble_eq_true rfl) (Nat.le_of_ble_eq_true rfl) dX13_wayPart_13
set_option maxHeartbeats 4000000 in
set_option maxRecDepth 100000 in
theorem tX13_wayStep (l : Launch) (dC : Nat → ClassId) (dI : Nat → Nat → Nat) (cy : Nat → ClassId) (h0 : Nat) (g0 : Int32) (g1 : Int32) (g2 : Int32) (g4 : Value) (g5 : Value) (g6 : Int32) (g7 : Int32) (g8 : Int32) (g9 : Int32) (g10 : Int32) (g11 : Int32) (g12 : Int32) (g13 : Int32) (g14 : Int32) (g15 : Int64) (g16 : Value) (g17 : Value) (g18 : Value) (g19 : Value) (g20 : Int32) (g21 : Int32) (g22 : Value) (g23 : Value) (g24 : Value) (g25 : Int32) (g26 : Value) (g27 : Int32) (g28 : Int32) (g29 : Int32) (g30 : Int32) (p1 : Int32) (p2 : Int32) (p3 : Int32) : ctI l dC dI cy yX13_wayStep cX13_wayStep 6 .int ({ frames := 1, cells := 0, slots := 0, locals := 21 }) [.ref h0, .int p1, .int p2, .int p3] [(h0, .inr (12, [.int g0, .int g1, .int g2, .null, g4, g5, .int g6, .int g7, .int g8, .int g9, .int g10, .int g11, .int g12, .int g13, .int g14, .long g15, g16, g17, g18, g19, .int g20, .int g21, g22, g23, g24, .int g25, g26, .int g27, .int g28, .int g29, .int g30]))] (S := Unit) (fun r _ => r = -1) (fun _ => []) := by
  refine ctI.of (by decide +kernel) (Nat.le_of_ble_eq_true rfl) ?_
  intro p e s m args below meth c A ls X hr hlocks hin hA hP hD hS hl
  have hx := X.1
  have hb := X.2.1
  have hK := X.2.2.2.2.2.1
  have hl : lv_has ls 6 [(0, .ref h0), (1, .int p1), (2, .int p2), (3, .int p3)] := hl
  refine lv_aload_n hx hb dX13_wayStep_0 rfl (lv_at hl 0 rfl) ?_
  refine lv_iload_n hx hb dX13_wayStep_1 rfl (lv_at hl 1 rfl) ?_
  refine fI (wr := []) (rV_I (wc := [(h0, .inr (12, [.int g0, .int g1, .int g2, .null, g4, g5, .int g6, .int g7, .int g8, .int g9, .int g10, .int g11, .int g12, .int g13, .int g14, .long g15, g16, g17, g18, g19, .int g20, .int g21, g22, g23, g24, .int g25, g26, .int g27, .int g28, .int g29, .int g30]))]) (As := [.int p1]) (rest := []) X (tX13_isWalker l dC dI cy h0 g0 g1 g2 g4 g5 g6 g7 g8 g9 g10 g11 g12 g13 g14 g15 g16 g17 g18 g19 g20 g21 g22 g23 g24 g25 g26 g27 g28 g29 g30 p1) kX13_isWalker vX13_isWalker mX13_311 hP hD [0] (by decide) rfl 0 (ci := 12) rfl rfl rfl hl rfl rfl (Nat.le_of_ble_eq_true rfl) dX13_wayStep_2 ⟨Nat.le_of_ble_eq_true rfl, Nat.le_of_ble_eq_true rfl⟩ ⟨Nat.le_of_ble_eq_true rfl, Nat.le_of_ble_eq_true rfl⟩) hP hD hS hA [0] [] rfl rfl (by decide) (by decide) (fun r_1 u_3 H locs k_2 hP hD hS => ?_)
  have hP : va_P (dC, dI) vwCl [(h0, .inr (12, [.int g0, .int g1, .int g2, .null, g4, g5, .int g6, .int g7, .int g8, .int g9, .int g10, .int g11, .int g12, .int g13, .int g14, .long g15, g16, g17, g18, g19, .int g20, .int g21, g22, g23, g24, .int g25, g26, .int g27, .int g28, .int g29, .int g30]))] H := hP
  have hD : va_D A [(h0, .inr (12, [.int g0, .int g1, .int g2, .null, g4, g5, .int g6, .int g7, .int g8, .int g9, .int g10, .int g11, .int g12, .int g13, .int g14, .long g15, g16, g17, g18, g19, .int g20, .int g21, g22, g23, g24, .int g25, g26, .int g27, .int g28, .int g29, .int g30]))] := hD
  have er_1 : r_1 = 0 := k_2
  subst er_1
  refine lv_if_eq (tgt := 12) hx hb dX13_wayStep_5 (by decide) (fun _ => ?_) (fun h_4 => absurd (by decide) h_4)
  refine lv_aload_n hx hb dX13_wayStep_12 rfl (lv_at hl 0 rfl) ?_
  refine lv_iconst (v := 1) hx hb dX13_wayStep_13 (by decide) ?_
  refine fI (wr := []) (rV_I (wc := [(h0, .inr (12, [.int g0, .int g1, .int g2, .null, g4, g5, .int g6, .int g7, .int g8, .int g9, .int g10, .int g11, .int g12, .int g13, .int g14, .long g15, g16, g17, g18, g19, .int g20, .int g21, g22, g23, g24, .int g25, g26, .int g27, .int g28, .int g29, .int g30]))]) (As := [.int 1]) (rest := []) X (tX13_refused l dC dI cy h0 g0 g1 g2 .null g4 g5 g6 g7 g8 g9 g10 g11 g12 g13 g14 g15 g16 g17 g18 g19 g20 g21 g22 g23 g24 g25 g26 g27 g28 g29 g30 1) kX13_refused vX13_refused mX13_48 hP hD [0] (by decide) rfl 0 (ci := 12) rfl rfl rfl hl rfl rfl (Nat.le_of_ble_eq_true rfl) dX13_wayStep_14 ⟨Nat.le_of_ble_eq_true rfl, Nat.le_of_ble_eq_true rfl⟩ ⟨Nat.le_of_ble_eq_true rfl, Nat.le_of_ble_eq_true rfl⟩) hP hD hS hA [0] [] rfl rfl (by decide) (by decide) (fun r_5 u_7 H locs k_6 hP hD hS => ?_)
  have hP : va_P (dC, dI) vwCl [] H := hP
  have hD : va_D A [] := hD
  have er_5 : r_5 = -1 := k_6
  subst er_5
  exact eI X hr hlocks hP hD hS () [] (by decide) rfl rfl rfl (Nat.le_of_ble_eq_true rfl) (Nat.le_of_ble_eq_true rfl) dX13_wayStep_17
set_option maxHeartbeats 4000000 in
set_option maxRecDepth 100000 in
theorem tX13_becomes (l : Launch) (dC : Nat → ClassId) (dI : Nat → Nat → Nat) (cy : Nat → ClassId) (h0 : Nat) (g0 : Int32) (g1 : Int32) (g2 : Int32) (g4 : Value) (g5 : Value) (g6 : Int32) (g7 : Int32) (g8 : Int32) (g9 : Int32) (g10 : Int32) (g11 : Int32) (g12 : Int32) (g13 : Int32) (g14 : Int32) (g15 : Int64) (g16 : Value) (g17 : Value) (g18 : Value) (g19 : Value) (g20 : Int32) (g21 : Int32) (g22 : Value) (g23 : Value) (g24 : Value) (g25 : Int32) (g26 : Value) (g27 : Int32) (g28 : Int32) (g29 : Int32) (g30 : Int32) (p1 : Int32) (p2 : Int32) (p3 : Int32) : ctI l dC dI cy yX13_becomes cX13_becomes 4 .boolean ({ frames := 2, cells := 0, slots := 0, locals := 42 }) [.ref h0, .int p1, .int p2, .int p3] [(h0, .inr (12, [.int g0, .int g1, .int g2, .null, g4, g5, .int g6, .int g7, .int g8, .int g9, .int g10, .int g11, .int g12, .int g13, .int g14, .long g15, g16, g17, g18, g19, .int g20, .int g21, g22, g23, g24, .int g25, g26, .int g27, .int g28, .int g29, .int g30]))] (S := Unit) (fun r _ => r = 0) (fun _ => []) := by
  refine ctI.of (by decide +kernel) (Nat.le_of_ble_eq_true rfl) ?_
  intro p e s m args below meth c A ls X hr hlocks hin hA hP hD hS hl
  have hx := X.1
  have hb := X.2.1
  have hK := X.2.2.2.2.2.1
  have hl : lv_has ls 4 [(0, .ref h0), (1, .int p1), (2, .int p2), (3, .int p3)] := hl
  refine lv_aload_n hx hb dX13_becomes_0 rfl (lv_at hl 0 rfl) ?_
  refine lv_iload_n hx hb dX13_becomes_1 rfl (lv_at hl 1 rfl) ?_
  refine fI (wr := []) (rV_I (wc := [(h0, .inr (12, [.int g0, .int g1, .int g2, .null, g4, g5, .int g6, .int g7, .int g8, .int g9, .int g10, .int g11, .int g12, .int g13, .int g14, .long g15, g16, g17, g18, g19, .int g20, .int g21, g22, g23, g24, .int g25, g26, .int g27, .int g28, .int g29, .int g30]))]) (As := [.int p1]) (rest := []) X (tX13_isPlace l dC dI cy h0 g0 g1 g2 g4 g5 g6 g7 g8 g9 g10 g11 g12 g13 g14 g15 g16 g17 g18 g19 g20 g21 g22 g23 g24 g25 g26 g27 g28 g29 g30 p1) kX13_isPlace vX13_isPlace mX13_302 hP hD [0] (by decide) rfl 0 (ci := 12) rfl rfl rfl hl rfl rfl (Nat.le_of_ble_eq_true rfl) dX13_becomes_2 ⟨Nat.le_of_ble_eq_true rfl, Nat.le_of_ble_eq_true rfl⟩ ⟨Nat.le_of_ble_eq_true rfl, Nat.le_of_ble_eq_true rfl⟩) hP hD hS hA [0] [] rfl rfl (by decide) (by decide) (fun r_1 u_3 H locs k_2 hP hD hS => ?_)
  have hP : va_P (dC, dI) vwCl [(h0, .inr (12, [.int g0, .int g1, .int g2, .null, g4, g5, .int g6, .int g7, .int g8, .int g9, .int g10, .int g11, .int g12, .int g13, .int g14, .long g15, g16, g17, g18, g19, .int g20, .int g21, g22, g23, g24, .int g25, g26, .int g27, .int g28, .int g29, .int g30]))] H := hP
  have hD : va_D A [(h0, .inr (12, [.int g0, .int g1, .int g2, .null, g4, g5, .int g6, .int g7, .int g8, .int g9, .int g10, .int g11, .int g12, .int g13, .int g14, .long g15, g16, g17, g18, g19, .int g20, .int g21, g22, g23, g24, .int g25, g26, .int g27, .int g28, .int g29, .int g30]))] := hD
  have er_1 : r_1 = 0 := k_2
  subst er_1
  refine lv_if_ne (tgt := 14) hx hb dX13_becomes_5 (by decide) (fun h_4 => absurd (by decide) h_4) (fun _ => ?_)
  refine lv_aload_n hx hb dX13_becomes_8 rfl (lv_at hl 0 rfl) ?_
  refine lv_iconst (v := 1) hx hb dX13_becomes_9 (by decide) ?_
  refine fI (wr := []) (rV_I (wc := [(h0, .inr (12, [.int g0, .int g1, .int g2, .null, g4, g5, .int g6, .int g7, .int g8, .int g9, .int g10, .int g11, .int g12, .int g13, .int g14, .long g15, g16, g17, g18, g19, .int g20, .int g21, g22, g23, g24, .int g25, g26, .int g27, .int g28, .int g29, .int g30]))]) (As := [.int 1]) (rest := []) X (tX13_denied l dC dI cy h0 g0 g1 g2 .null g4 g5 g6 g7 g8 g9 g10 g11 g12 g13 g14 g15 g16 g17 g18 g19 g20 g21 g22 g23 g24 g25 g26 g27 g28 g29 g30 1) kX13_denied vX13_denied mX13_448 hP hD [0] (by decide) rfl 0 (ci := 12) rfl rfl rfl hl rfl rfl (Nat.le_of_ble_eq_true rfl) dX13_becomes_10 ⟨Nat.le_of_ble_eq_true rfl, Nat.le_of_ble_eq_true rfl⟩ ⟨Nat.le_of_ble_eq_true rfl, Nat.le_of_ble_eq_true rfl⟩) hP hD hS hA [0] [] rfl rfl (by decide) (by decide) (fun r_5 u_7 H locs k_6 hP hD hS => ?_)
  have hP : va_P (dC, dI) vwCl [] H := hP
  have hD : va_D A [] := hD
  have er_5 : r_5 = 0 := k_6
  subst er_5
  exact eI X hr hlocks hP hD hS () [] (by decide) rfl rfl rfl (Nat.le_of_ble_eq_true rfl) (Nat.le_of_ble_eq_true rfl) dX13_becomes_13
