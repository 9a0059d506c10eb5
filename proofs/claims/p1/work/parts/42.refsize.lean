set_option maxHeartbeats 4000000 in
set_option maxRecDepth 100000 in
theorem tX13_size (l : Launch) (dC : Nat → ClassId) (dI : Nat → Nat → Nat) (cy : Nat → ClassId) (h0 : Nat) (g0 : Int32) (g1 : Int32) (g2 : Int32) (g4 : Value) (g5 : Value) (g7 : Int32) (g8 : Int32) (g9 : Int32) (g10 : Int32) (g11 : Int32) (g12 : Int32) (g13 : Int32) (g14 : Int32) (g15 : Int64) (g16 : Value) (g17 : Value) (g18 : Value) (g19 : Value) (g20 : Int32) (g21 : Int32) (g22 : Value) (g23 : Value) (g24 : Value) (g25 : Int32) (g26 : Value) (g27 : Int32) (g28 : Int32) (g29 : Int32) (g30 : Int32) (p1 : Int32) : ctI l dC dI cy yX13_size cX13_size 2 .int ({ frames := 1, cells := 0, slots := 0, locals := 22 }) [.ref h0, .int p1] [(h0, .inr (12, [.int g0, .int g1, .int g2, .null, g4, g5, .int 0, .int g7, .int g8, .int g9, .int g10, .int g11, .int g12, .int g13, .int g14, .long g15, g16, g17, g18, g19, .int g20, .int g21, g22, g23, g24, .int g25, g26, .int g27, .int g28, .int g29, .int g30]))] (S := Unit) (fun r _ => r = szR p1) (fun _ => []) := by
  refine ctI.of (by decide +kernel) (Nat.le_of_ble_eq_true rfl) ?_
  intro p e s m args below meth c A ls X hr hlocks hin hA hP hD hS hl
  have hx := X.1
  have hb := X.2.1
  have hK := X.2.2.2.2.2.1
  have hl : lv_has ls 2 [(0, .ref h0), (1, .int p1)] := hl
  refine lv_aload_n hx hb dX13_size_0 rfl (lv_at hl 0 rfl) ?_
  refine lv_iconst (v := 0) hx hb dX13_size_1 (by decide) ?_
  refine r_put X kcX13 (ci := 12) rfl hP hD hS 0 rfl 0 (by decide) fX13_42 rfl rfl rfl (Nat.le_of_ble_eq_true rfl) dX13_size_2 (fun H locs hP hD hS => ?_)
  have hP : va_P (dC, dI) vwCl [(h0, .inr (12, [.int 0, .int g1, .int g2, .null, g4, g5, .int 0, .int g7, .int g8, .int g9, .int g10, .int g11, .int g12, .int g13, .int g14, .long g15, g16, g17, g18, g19, .int g20, .int g21, g22, g23, g24, .int g25, g26, .int g27, .int g28, .int g29, .int g30]))] H := hP
  have hD : va_D A [(h0, .inr (12, [.int 0, .int g1, .int g2, .null, g4, g5, .int 0, .int g7, .int g8, .int g9, .int g10, .int g11, .int g12, .int g13, .int g14, .long g15, g16, g17, g18, g19, .int g20, .int g21, g22, g23, g24, .int g25, g26, .int g27, .int g28, .int g29, .int g30]))] := hD
  refine lv_iload_n hx hb dX13_size_5 rfl (lv_at hl 1 rfl) ?_
  refine lv_bipush (v := 9) hx hb dX13_size_6 (by decide) ?_
  refine lv_icmp_ne (tgt := 16) hx hb dX13_size_8 (by decide) (fun h_1 => ?_) (fun h_1 => ?_)
  · have h_1 : p1.toInt ≠ 9 := c_ne h_1
    refine lv_iload_n hx hb dX13_size_16 rfl (lv_at hl 1 rfl) ?_
    refine lv_iconst (v := 0) hx hb dX13_size_17 (by decide) ?_
    refine lv_bipush (v := 8) hx hb dX13_size_18 (by decide) ?_
    refine fI (wr := [(h0, .inr (12, [.int 0, .int g1, .int g2, .null, g4, g5, .int 0, .int g7, .int g8, .int g9, .int g10, .int g11, .int g12, .int g13, .int g14, .long g15, g16, g17, g18, g19, .int g20, .int g21, g22, g23, g24, .int g25, g26, .int g27, .int g28, .int g29, .int g30]))]) (rS_I (wc := []) (As := [.int p1, .int 0, .int 8]) (rest := []) X (tX13_in l dC dI cy p1) kX13_in w_1572 mX13_124 hP hD [] (by decide) rfl hl rfl rfl (Nat.le_of_ble_eq_true rfl) dX13_size_20 ⟨Nat.le_of_ble_eq_true rfl, Nat.le_of_ble_eq_true rfl⟩ ⟨Nat.le_of_ble_eq_true rfl, Nat.le_of_ble_eq_true rfl⟩) hP hD hS hA [] [0] rfl rfl (by decide) (by decide) (fun r_2 u_4 H locs k_3 hP hD hS => ?_)
    have hP : va_P (dC, dI) vwCl [(h0, .inr (12, [.int 0, .int g1, .int g2, .null, g4, g5, .int 0, .int g7, .int g8, .int g9, .int g10, .int g11, .int g12, .int g13, .int g14, .long g15, g16, g17, g18, g19, .int g20, .int g21, g22, g23, g24, .int g25, g26, .int g27, .int g28, .int g29, .int g30]))] H := hP
    have hD : va_D A [(h0, .inr (12, [.int 0, .int g1, .int g2, .null, g4, g5, .int 0, .int g7, .int g8, .int g9, .int g10, .int g11, .int g12, .int g13, .int g14, .long g15, g16, g17, g18, g19, .int g20, .int g21, g22, g23, g24, .int g25, g26, .int g27, .int g28, .int g29, .int g30]))] := hD
    have k_3 : (r_2.toInt = 1 ∧ 0 ≤ p1.toInt ∧ p1.toInt ≤ 8) ∨ (r_2.toInt = 0 ∧ (p1.toInt < 0 ∨ 8 < p1.toInt)) := k_3
    refine lv_if_ne (tgt := 28) hx hb dX13_size_23 (by decide) (fun h_5 => ?_) (fun h_5 => ?_)
    · have h_5 : r_2.toInt ≠ 0 := c_ne h_5
      refine lv_aload_n hx hb dX13_size_28 rfl (lv_at hl 0 rfl) ?_
      refine r_get X kcX13 (ci := 12) rfl hP 0 rfl 3 (by decide) fX13_269 rfl dX13_size_29 ?_
      refine lv_ifnonnullN hx hb dX13_size_32 ?_
      refine lv_iconst (v := 0) hx hb dX13_size_35 (by decide) ?_
      exact eI X hr hlocks hP hD hS () [] (by decide) rfl rfl (by rw [szR, if_pos (by omega)]) (Nat.le_of_ble_eq_true rfl) (Nat.le_of_ble_eq_true rfl) dX13_size_36
    · have h_5 : r_2.toInt = 0 := c_eq h_5
      refine lv_iconst (v := -1) hx hb dX13_size_26 (by decide) ?_
      exact eI X hr hlocks hP hD hS () [] (by decide) rfl rfl (by rw [szR, if_neg (by omega)]) (Nat.le_of_ble_eq_true rfl) (Nat.le_of_ble_eq_true rfl) dX13_size_27
  · have h_1 : p1.toInt = 9 := c_eq h_1
    refine lv_aload_n hx hb dX13_size_11 rfl (lv_at hl 0 rfl) ?_
    refine r_get X kcX13 (ci := 12) rfl hP 0 rfl 6 (by decide) fX13_262 rfl dX13_size_12 ?_
    exact eI X hr hlocks hP hD hS () [] (by decide) rfl rfl (by rw [szR, if_pos (by omega)]) (Nat.le_of_ble_eq_true rfl) (Nat.le_of_ble_eq_true rfl) dX13_size_15
