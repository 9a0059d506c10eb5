set_option maxHeartbeats 4000000 in
set_option maxRecDepth 100000 in
theorem tX13_feed (l : Launch) (dC : Nat → ClassId) (dI : Nat → Nat → Nat) (cy : Nat → ClassId) (h0 : Nat) (g0 : Int32) (g1 : Int32) (g2 : Int32) (g3 : Value) (g4 : Value) (g7 : Int32) (g8 : Int32) (g9 : Int32) (g10 : Int32) (g11 : Int32) (g12 : Int32) (g13 : Int32) (g14 : Int32) (g15 : Int64) (g16 : Value) (g17 : Value) (g18 : Value) (g19 : Value) (g20 : Int32) (g21 : Int32) (g22 : Value) (g23 : Value) (g24 : Value) (g25 : Int32) (g26 : Value) (g27 : Int32) (g28 : Int32) (g29 : Int32) (g30 : Int32) (tp : Nat) (fb : Nat → Int32) (p1 : Int32) (p2 : Int32) (p3 : Int32) (p4 : Int32) (p5 : Int32) : ctI l dC dI cy yX13_feed cX13_feed 8 .int ({ frames := 0, cells := 0, slots := 0, locals := 0 }) [.ref h0, .int p1, .int p2, .int p3, .int p4, .int p5] [(h0, .inr (12, [.int g0, .int g1, .int g2, g3, g4, .ref tp, .int 0, .int g7, .int g8, .int g9, .int g10, .int g11, .int g12, .int g13, .int g14, .long g15, g16, g17, g18, g19, .int g20, .int g21, g22, g23, g24, .int g25, g26, .int g27, .int g28, .int g29, .int g30])), (tp, .inl (cy 0, 800, .inl fb))] (S := Unit) (fun r _ => r = 20) (fun _ => []) := by
  refine ctI.of (by decide +kernel) (Nat.le_of_ble_eq_true rfl) ?_
  intro p e s m args below meth c A ls X hr hlocks hin hA hP hD hS hl
  have hx := X.1
  have hb := X.2.1
  have hK := X.2.2.2.2.2.1
  have hl : lv_has ls 8 [(0, .ref h0), (1, .int p1), (2, .int p2), (3, .int p3), (4, .int p4), (5, .int p5)] := hl
  refine lv_aload_n hx hb dX13_feed_0 rfl (lv_at hl 0 rfl) ?_
  refine lv_iconst (v := 0) hx hb dX13_feed_1 (by decide) ?_
  refine r_put X kcX13 (ci := 12) rfl hP hD hS 0 rfl 0 (by decide) fX13_42 rfl rfl rfl (Nat.le_of_ble_eq_true rfl) dX13_feed_2 (fun H locs hP hD hS => ?_)
  have hP : va_P (dC, dI) vwCl [(h0, .inr (12, [.int 0, .int g1, .int g2, g3, g4, .ref tp, .int 0, .int g7, .int g8, .int g9, .int g10, .int g11, .int g12, .int g13, .int g14, .long g15, g16, g17, g18, g19, .int g20, .int g21, g22, g23, g24, .int g25, g26, .int g27, .int g28, .int g29, .int g30])), (tp, .inl (cy 0, 800, .inl fb))] H := hP
  have hD : va_D A [(h0, .inr (12, [.int 0, .int g1, .int g2, g3, g4, .ref tp, .int 0, .int g7, .int g8, .int g9, .int g10, .int g11, .int g12, .int g13, .int g14, .long g15, g16, g17, g18, g19, .int g20, .int g21, g22, g23, g24, .int g25, g26, .int g27, .int g28, .int g29, .int g30])), (tp, .inl (cy 0, 800, .inl fb))] := hD
  refine lv_aload_n hx hb dX13_feed_5 rfl (lv_at hl 0 rfl) ?_
  refine r_get X kcX13 (ci := 12) rfl hP 0 rfl 6 (by decide) fX13_262 rfl dX13_feed_6 ?_
  refine lv_bipush (v := 20) hx hb dX13_feed_9 (by decide) ?_
  refine lv_iadd hx hb dX13_feed_11 ?_
  refine lv_topi (fun x_1 ex_1 => ?_)
  have ex_1 : x_1 = 20 := ex_1.trans (by decide)
  subst ex_1
  refine lv_sipush (v := 800) hx hb dX13_feed_12 (by decide) ?_
  refine lv_icmp_le (tgt := 20) hx hb dX13_feed_15 (by decide) (fun _ => ?_) (fun h_2 => absurd (by decide) h_2)
  refine lv_iconst (v := 0) hx hb dX13_feed_20 (by decide) ?_
  refine lv_istore (lv' := [(6, .int 0), (0, .ref h0), (1, .int p1), (2, .int p2), (3, .int p3), (4, .int p4), (5, .int p5)]) hx hb dX13_feed_21 hl (by decide) rfl (fun ls hl => ?_)
  refine lv_iload hx hb dX13_feed_23 (lv_at hl 0 rfl) ?_
  refine lv_bipush (v := 20) hx hb dX13_feed_25 (by decide) ?_
  refine lv_icmp_ge (tgt := 117) hx hb dX13_feed_27 (by decide) (fun h_3 => absurd h_3 (by decide)) (fun _ => ?_)
  refine lv_iload hx hb dX13_feed_30 (lv_at hl 0 rfl) ?_
  refine lv_iconst (v := 4) hx hb dX13_feed_32 (by decide) ?_
  refine lv_icmp_ge (tgt := 40) hx hb dX13_feed_33 (by decide) (fun h_4 => absurd h_4 (by decide)) (fun _ => ?_)
  refine lv_iload_n hx hb dX13_feed_36 rfl (lv_at hl 2 rfl) ?_
  refine lv_goto (tgt := 76) hx hb dX13_feed_37 (by decide) ?_
  refine lv_istore (lv' := [(7, .int p1), (6, .int 0), (0, .ref h0), (1, .int p1), (2, .int p2), (3, .int p3), (4, .int p4), (5, .int p5)]) hx hb dX13_feed_76 hl (by decide) rfl (fun ls hl => ?_)
  refine lv_aload_n hx hb dX13_feed_78 rfl (lv_at hl 2 rfl) ?_
  refine r_get X kcX13 (ci := 12) rfl hP 0 rfl 5 (by decide) fX13_13 rfl dX13_feed_79 ?_
  refine lv_aload_n hx hb dX13_feed_82 rfl (lv_at hl 2 rfl) ?_
  refine r_get X kcX13 (ci := 12) rfl hP 0 rfl 6 (by decide) fX13_262 rfl dX13_feed_83 ?_
  refine lv_iload hx hb dX13_feed_86 (lv_at hl 0 rfl) ?_
  refine lv_bipush (v := 24) hx hb dX13_feed_88 (by decide) ?_
  refine lv_bipush (v := 8) hx hb dX13_feed_90 (by decide) ?_
  refine lv_iload hx hb dX13_feed_92 (lv_at hl 1 rfl) ?_
  refine lv_iconst (v := 4) hx hb dX13_feed_94 (by decide) ?_
  refine lv_irem hx hb dX13_feed_95 (by decide) ?_
  refine lv_topi (fun x_5 ex_5 => ?_)
  have ex_5 : x_5 = 0 := ex_5.trans (by decide)
  subst ex_5
  refine lv_imul hx hb dX13_feed_96 ?_
  refine lv_topi (fun x_6 ex_6 => ?_)
  have ex_6 : x_6 = 0 := ex_6.trans (by decide)
  subst ex_6
  refine lv_isub hx hb dX13_feed_97 ?_
  refine lv_topi (fun x_7 ex_7 => ?_)
  have ex_7 : x_7 = 24 := ex_7.trans (by decide)
  subst ex_7
  refine lv_ishr hx hb dX13_feed_98 ?_
  refine lv_topi (fun x_8 ex_8 => ?_)
  obtain ⟨x_9, ex_9⟩ : ∃ y : Int32, x_8.toInt8.toInt32 = y := ⟨_, rfl⟩
  refine lv_i2b hx hb dX13_feed_99 ex_9 ?_
  refine va_bast (D := (dC, dI)) (cl := vwCl) hx hb hK hP hD hS 1 0 rfl rfl (i := 0) (by unfold vp_in; decide) dX13_feed_100 (fun H locs hP hD hS => ?_)
  generalize upd fb (Int32.toNatClampNeg 0) (vp_nar .byte x_9) = f_10 at hP hD
  have hP : va_P (dC, dI) vwCl [(h0, .inr (12, [.int 0, .int g1, .int g2, g3, g4, .ref tp, .int 0, .int g7, .int g8, .int g9, .int g10, .int g11, .int g12, .int g13, .int g14, .long g15, g16, g17, g18, g19, .int g20, .int g21, g22, g23, g24, .int g25, g26, .int g27, .int g28, .int g29, .int g30])), (tp, .inl (cy 0, 800, .inl f_10))] H := hP
  have hD : va_D A [(h0, .inr (12, [.int 0, .int g1, .int g2, g3, g4, .ref tp, .int 0, .int g7, .int g8, .int g9, .int g10, .int g11, .int g12, .int g13, .int g14, .long g15, g16, g17, g18, g19, .int g20, .int g21, g22, g23, g24, .int g25, g26, .int g27, .int g28, .int g29, .int g30])), (tp, .inl (cy 0, 800, .inl f_10))] := hD
  refine lv_aload_n hx hb dX13_feed_101 rfl (lv_at hl 2 rfl) ?_
  refine lv_dup hx hb dX13_feed_102 rfl ?_
  refine r_get X kcX13 (ci := 12) rfl hP 0 rfl 6 (by decide) fX13_262 rfl dX13_feed_103 ?_
  refine lv_iconst (v := 1) hx hb dX13_feed_106 (by decide) ?_
  refine lv_iadd hx hb dX13_feed_107 ?_
  refine lv_topi (fun x_11 ex_11 => ?_)
  have ex_11 : x_11 = 1 := ex_11.trans (by decide)
  subst ex_11
  refine r_put X kcX13 (ci := 12) rfl hP hD hS 0 rfl 6 (by decide) fX13_262 rfl rfl rfl (Nat.le_of_ble_eq_true rfl) dX13_feed_108 (fun H locs hP hD hS => ?_)
  have hP : va_P (dC, dI) vwCl [(h0, .inr (12, [.int 0, .int g1, .int g2, g3, g4, .ref tp, .int 1, .int g7, .int g8, .int g9, .int g10, .int g11, .int g12, .int g13, .int g14, .long g15, g16, g17, g18, g19, .int g20, .int g21, g22, g23, g24, .int g25, g26, .int g27, .int g28, .int g29, .int g30])), (tp, .inl (cy 0, 800, .inl f_10))] H := hP
  have hD : va_D A [(h0, .inr (12, [.int 0, .int g1, .int g2, g3, g4, .ref tp, .int 1, .int g7, .int g8, .int g9, .int g10, .int g11, .int g12, .int g13, .int g14, .long g15, g16, g17, g18, g19, .int g20, .int g21, g22, g23, g24, .int g25, g26, .int g27, .int g28, .int g29, .int g30])), (tp, .inl (cy 0, 800, .inl f_10))] := hD
  refine lv_iinc (v := 1) (lv' := [(6, .int 1), (7, .int p1), (0, .ref h0), (1, .int p1), (2, .int p2), (3, .int p3), (4, .int p4), (5, .int p5)]) hx hb dX13_feed_111 hl (k := 1) rfl (by decide) (by decide) rfl (fun ls hl => ?_)
  refine lv_goto (tgt := 23) hx hb dX13_feed_114 (by decide) ?_
  refine lv_iload hx hb dX13_feed_23 (lv_at hl 0 rfl) ?_
  refine lv_bipush (v := 20) hx hb dX13_feed_25 (by decide) ?_
  refine lv_icmp_ge (tgt := 117) hx hb dX13_feed_27 (by decide) (fun h_12 => absurd h_12 (by decide)) (fun _ => ?_)
  refine lv_iload hx hb dX13_feed_30 (lv_at hl 0 rfl) ?_
  refine lv_iconst (v := 4) hx hb dX13_feed_32 (by decide) ?_
  refine lv_icmp_ge (tgt := 40) hx hb dX13_feed_33 (by decide) (fun h_13 => absurd h_13 (by decide)) (fun _ => ?_)
  refine lv_iload_n hx hb dX13_feed_36 rfl (lv_at hl 3 rfl) ?_
  refine lv_goto (tgt := 76) hx hb dX13_feed_37 (by decide) ?_
  refine lv_istore (lv' := [(7, .int p1), (6, .int 1), (0, .ref h0), (1, .int p1), (2, .int p2), (3, .int p3), (4, .int p4), (5, .int p5)]) hx hb dX13_feed_76 hl (by decide) rfl (fun ls hl => ?_)
  refine lv_aload_n hx hb dX13_feed_78 rfl (lv_at hl 2 rfl) ?_
  refine r_get X kcX13 (ci := 12) rfl hP 0 rfl 5 (by decide) fX13_13 rfl dX13_feed_79 ?_
  refine lv_aload_n hx hb dX13_feed_82 rfl (lv_at hl 2 rfl) ?_
  refine r_get X kcX13 (ci := 12) rfl hP 0 rfl 6 (by decide) fX13_262 rfl dX13_feed_83 ?_
  refine lv_iload hx hb dX13_feed_86 (lv_at hl 0 rfl) ?_
  refine lv_bipush (v := 24) hx hb dX13_feed_88 (by decide) ?_
  refine lv_bipush (v := 8) hx hb dX13_feed_90 (by decide) ?_
  refine lv_iload hx hb dX13_feed_92 (lv_at hl 1 rfl) ?_
  refine lv_iconst (v := 4) hx hb dX13_feed_94 (by decide) ?_
  refine lv_irem hx hb dX13_feed_95 (by decide) ?_
  refine lv_topi (fun x_14 ex_14 => ?_)
  have ex_14 : x_14 = 1 := ex_14.trans (by decide)
  subst ex_14
  refine lv_imul hx hb dX13_feed_96 ?_
  refine lv_topi (fun x_15 ex_15 => ?_)
  have ex_15 : x_15 = 8 := ex_15.trans (by decide)
  subst ex_15
  refine lv_isub hx hb dX13_feed_97 ?_
  refine lv_topi (fun x_16 ex_16 => ?_)
  have ex_16 : x_16 = 16 := ex_16.trans (by decide)
  subst ex_16
  refine lv_ishr hx hb dX13_feed_98 ?_
  refine lv_topi (fun x_17 ex_17 => ?_)
  obtain ⟨x_18, ex_18⟩ : ∃ y : Int32, x_17.toInt8.toInt32 = y := ⟨_, rfl⟩
  refine lv_i2b hx hb dX13_feed_99 ex_18 ?_
  refine va_bast (D := (dC, dI)) (cl := vwCl) hx hb hK hP hD hS 1 0 rfl rfl (i := 1) (by unfold vp_in; decide) dX13_feed_100 (fun H locs hP hD hS => ?_)
  generalize upd f_10 (Int32.toNatClampNeg 1) (vp_nar .byte x_18) = f_19 at hP hD
  have hP : va_P (dC, dI) vwCl [(h0, .inr (12, [.int 0, .int g1, .int g2, g3, g4, .ref tp, .int 1, .int g7, .int g8, .int g9, .int g10, .int g11, .int g12, .int g13, .int g14, .long g15, g16, g17, g18, g19, .int g20, .int g21, g22, g23, g24, .int g25, g26, .int g27, .int g28, .int g29, .int g30])), (tp, .inl (cy 0, 800, .inl f_19))] H := hP
  have hD : va_D A [(h0, .inr (12, [.int 0, .int g1, .int g2, g3, g4, .ref tp, .int 1, .int g7, .int g8, .int g9, .int g10, .int g11, .int g12, .int g13, .int g14, .long g15, g16, g17, g18, g19, .int g20, .int g21, g22, g23, g24, .int g25, g26, .int g27, .int g28, .int g29, .int g30])), (tp, .inl (cy 0, 800, .inl f_19))] := hD
  refine lv_aload_n hx hb dX13_feed_101 rfl (lv_at hl 2 rfl) ?_
  refine lv_dup hx hb dX13_feed_102 rfl ?_
  refine r_get X kcX13 (ci := 12) rfl hP 0 rfl 6 (by decide) fX13_262 rfl dX13_feed_103 ?_
  refine lv_iconst (v := 1) hx hb dX13_feed_106 (by decide) ?_
  refine lv_iadd hx hb dX13_feed_107 ?_
  refine lv_topi (fun x_20 ex_20 => ?_)
  have ex_20 : x_20 = 2 := ex_20.trans (by decide)
  subst ex_20
  refine r_put X kcX13 (ci := 12) rfl hP hD hS 0 rfl 6 (by decide) fX13_262 rfl rfl rfl (Nat.le_of_ble_eq_true rfl) dX13_feed_108 (fun H locs hP hD hS => ?_)
  have hP : va_P (dC, dI) vwCl [(h0, .inr (12, [.int 0, .int g1, .int g2, g3, g4, .ref tp, .int 2, .int g7, .int g8, .int g9, .int g10, .int g11, .int g12, .int g13, .int g14, .long g15, g16, g17, g18, g19, .int g20, .int g21, g22, g23, g24, .int g25, g26, .int g27, .int g28, .int g29, .int g30])), (tp, .inl (cy 0, 800, .inl f_19))] H := hP
  have hD : va_D A [(h0, .inr (12, [.int 0, .int g1, .int g2, g3, g4, .ref tp, .int 2, .int g7, .int g8, .int g9, .int g10, .int g11, .int g12, .int g13, .int g14, .long g15, g16, g17, g18, g19, .int g20, .int g21, g22, g23, g24, .int g25, g26, .int g27, .int g28, .int g29, .int g30])), (tp, .inl (cy 0, 800, .inl f_19))] := hD
  refine lv_iinc (v := 2) (lv' := [(6, .int 2), (7, .int p1), (0, .ref h0), (1, .int p1), (2, .int p2), (3, .int p3), (4, .int p4), (5, .int p5)]) hx hb dX13_feed_111 hl (k := 1) rfl (by decide) (by decide) rfl (fun ls hl => ?_)
  refine lv_goto (tgt := 23) hx hb dX13_feed_114 (by decide) ?_
  refine lv_iload hx hb dX13_feed_23 (lv_at hl 0 rfl) ?_
  refine lv_bipush (v := 20) hx hb dX13_feed_25 (by decide) ?_
  refine lv_icmp_ge (tgt := 117) hx hb dX13_feed_27 (by decide) (fun h_21 => absurd h_21 (by decide)) (fun _ => ?_)
  refine lv_iload hx hb dX13_feed_30 (lv_at hl 0 rfl) ?_
  refine lv_iconst (v := 4) hx hb dX13_feed_32 (by decide) ?_
  refine lv_icmp_ge (tgt := 40) hx hb dX13_feed_33 (by decide) (fun h_22 => absurd h_22 (by decide)) (fun _ => ?_)
  refine lv_iload_n hx hb dX13_feed_36 rfl (lv_at hl 3 rfl) ?_
  refine lv_goto (tgt := 76) hx hb dX13_feed_37 (by decide) ?_
  refine lv_istore (lv' := [(7, .int p1), (6, .int 2), (0, .ref h0), (1, .int p1), (2, .int p2), (3, .int p3), (4, .int p4), (5, .int p5)]) hx hb dX13_feed_76 hl (by decide) rfl (fun ls hl => ?_)
  refine lv_aload_n hx hb dX13_feed_78 rfl (lv_at hl 2 rfl) ?_
  refine r_get X kcX13 (ci := 12) rfl hP 0 rfl 5 (by decide) fX13_13 rfl dX13_feed_79 ?_
  refine lv_aload_n hx hb dX13_feed_82 rfl (lv_at hl 2 rfl) ?_
  refine r_get X kcX13 (ci := 12) rfl hP 0 rfl 6 (by decide) fX13_262 rfl dX13_feed_83 ?_
  refine lv_iload hx hb dX13_feed_86 (lv_at hl 0 rfl) ?_
  refine lv_bipush (v := 24) hx hb dX13_feed_88 (by decide) ?_
  refine lv_bipush (v := 8) hx hb dX13_feed_90 (by decide) ?_
  refine lv_iload hx hb dX13_feed_92 (lv_at hl 1 rfl) ?_
  refine lv_iconst (v := 4) hx hb dX13_feed_94 (by decide) ?_
  refine lv_irem hx hb dX13_feed_95 (by decide) ?_
  refine lv_topi (fun x_23 ex_23 => ?_)
  have ex_23 : x_23 = 2 := ex_23.trans (by decide)
  subst ex_23
  refine lv_imul hx hb dX13_feed_96 ?_
  refine lv_topi (fun x_24 ex_24 => ?_)
  have ex_24 : x_24 = 16 := ex_24.trans (by decide)
  subst ex_24
  refine lv_isub hx hb dX13_feed_97 ?_
  refine lv_topi (fun x_25 ex_25 => ?_)
  have ex_25 : x_25 = 8 := ex_25.trans (by decide)
  subst ex_25
  refine lv_ishr hx hb dX13_feed_98 ?_
  refine lv_topi (fun x_26 ex_26 => ?_)
  obtain ⟨x_27, ex_27⟩ : ∃ y : Int32, x_26.toInt8.toInt32 = y := ⟨_, rfl⟩
  refine lv_i2b hx hb dX13_feed_99 ex_27 ?_
  refine va_bast (D := (dC, dI)) (cl := vwCl) hx hb hK hP hD hS 1 0 rfl rfl (i := 2) (by unfold vp_in; decide) dX13_feed_100 (fun H locs hP hD hS => ?_)
  generalize upd f_19 (Int32.toNatClampNeg 2) (vp_nar .byte x_27) = f_28 at hP hD
  have hP : va_P (dC, dI) vwCl [(h0, .inr (12, [.int 0, .int g1, .int g2, g3, g4, .ref tp, .int 2, .int g7, .int g8, .int g9, .int g10, .int g11, .int g12, .int g13, .int g14, .long g15, g16, g17, g18, g19, .int g20, .int g21, g22, g23, g24, .int g25, g26, .int g27, .int g28, .int g29, .int g30])), (tp, .inl (cy 0, 800, .inl f_28))] H := hP
  have hD : va_D A [(h0, .inr (12, [.int 0, .int g1, .int g2, g3, g4, .ref tp, .int 2, .int g7, .int g8, .int g9, .int g10, .int g11, .int g12, .int g13, .int g14, .long g15, g16, g17, g18, g19, .int g20, .int g21, g22, g23, g24, .int g25, g26, .int g27, .int g28, .int g29, .int g30])), (tp, .inl (cy 0, 800, .inl f_28))] := hD
  refine lv_aload_n hx hb dX13_feed_101 rfl (lv_at hl 2 rfl) ?_
  refine lv_dup hx hb dX13_feed_102 rfl ?_
  refine r_get X kcX13 (ci := 12) rfl hP 0 rfl 6 (by decide) fX13_262 rfl dX13_feed_103 ?_
  refine lv_iconst (v := 1) hx hb dX13_feed_106 (by decide) ?_
  refine lv_iadd hx hb dX13_feed_107 ?_
  refine lv_topi (fun x_29 ex_29 => ?_)
  have ex_29 : x_29 = 3 := ex_29.trans (by decide)
  subst ex_29
  refine r_put X kcX13 (ci := 12) rfl hP hD hS 0 rfl 6 (by decide) fX13_262 rfl rfl rfl (Nat.le_of_ble_eq_true rfl) dX13_feed_108 (fun H locs hP hD hS => ?_)
  have hP : va_P (dC, dI) vwCl [(h0, .inr (12, [.int 0, .int g1, .int g2, g3, g4, .ref tp, .int 3, .int g7, .int g8, .int g9, .int g10, .int g11, .int g12, .int g13, .int g14, .long g15, g16, g17, g18, g19, .int g20, .int g21, g22, g23, g24, .int g25, g26, .int g27, .int g28, .int g29, .int g30])), (tp, .inl (cy 0, 800, .inl f_28))] H := hP
  have hD : va_D A [(h0, .inr (12, [.int 0, .int g1, .int g2, g3, g4, .ref tp, .int 3, .int g7, .int g8, .int g9, .int g10, .int g11, .int g12, .int g13, .int g14, .long g15, g16, g17, g18, g19, .int g20, .int g21, g22, g23, g24, .int g25, g26, .int g27, .int g28, .int g29, .int g30])), (tp, .inl (cy 0, 800, .inl f_28))] := hD
  refine lv_iinc (v := 3) (lv' := [(6, .int 3), (7, .int p1), (0, .ref h0), (1, .int p1), (2, .int p2), (3, .int p3), (4, .int p4), (5, .int p5)]) hx hb dX13_feed_111 hl (k := 1) rfl (by decide) (by decide) rfl (fun ls hl => ?_)
  refine lv_goto (tgt := 23) hx hb dX13_feed_114 (by decide) ?_
  refine lv_iload hx hb dX13_feed_23 (lv_at hl 0 rfl) ?_
  refine lv_bipush (v := 20) hx hb dX13_feed_25 (by decide) ?_
  refine lv_icmp_ge (tgt := 117) hx hb dX13_feed_27 (by decide) (fun h_30 => absurd h_30 (by decide)) (fun _ => ?_)
  refine lv_iload hx hb dX13_feed_30 (lv_at hl 0 rfl) ?_
  refine lv_iconst (v := 4) hx hb dX13_feed_32 (by decide) ?_
  refine lv_icmp_ge (tgt := 40) hx hb dX13_feed_33 (by decide) (fun h_31 => absurd h_31 (by decide)) (fun _ => ?_)
  refine lv_iload_n hx hb dX13_feed_36 rfl (lv_at hl 3 rfl) ?_
  refine lv_goto (tgt := 76) hx hb dX13_feed_37 (by decide) ?_
  refine lv_istore (lv' := [(7, .int p1), (6, .int 3), (0, .ref h0), (1, .int p1), (2, .int p2), (3, .int p3), (4, .int p4), (5, .int p5)]) hx hb dX13_feed_76 hl (by decide) rfl (fun ls hl => ?_)
  refine lv_aload_n hx hb dX13_feed_78 rfl (lv_at hl 2 rfl) ?_
  refine r_get X kcX13 (ci := 12) rfl hP 0 rfl 5 (by decide) fX13_13 rfl dX13_feed_79 ?_
  refine lv_aload_n hx hb dX13_feed_82 rfl (lv_at hl 2 rfl) ?_
  refine r_get X kcX13 (ci := 12) rfl hP 0 rfl 6 (by decide) fX13_262 rfl dX13_feed_83 ?_
  refine lv_iload hx hb dX13_feed_86 (lv_at hl 0 rfl) ?_
  refine lv_bipush (v := 24) hx hb dX13_feed_88 (by decide) ?_
  refine lv_bipush (v := 8) hx hb dX13_feed_90 (by decide) ?_
  refine lv_iload hx hb dX13_feed_92 (lv_at hl 1 rfl) ?_
  refine lv_iconst (v := 4) hx hb dX13_feed_94 (by decide) ?_
  refine lv_irem hx hb dX13_feed_95 (by decide) ?_
  refine lv_topi (fun x_32 ex_32 => ?_)
  have ex_32 : x_32 = 3 := ex_32.trans (by decide)
  subst ex_32
  refine lv_imul hx hb dX13_feed_96 ?_
  refine lv_topi (fun x_33 ex_33 => ?_)
  have ex_33 : x_33 = 24 := ex_33.trans (by decide)
  subst ex_33
  refine lv_isub hx hb dX13_feed_97 ?_
  refine lv_topi (fun x_34 ex_34 => ?_)
  have ex_34 : x_34 = 0 := ex_34.trans (by decide)
  subst ex_34
  refine lv_ishr hx hb dX13_feed_98 ?_
  refine lv_topi (fun x_35 ex_35 => ?_)
  obtain ⟨x_36, ex_36⟩ : ∃ y : Int32, x_35.toInt8.toInt32 = y := ⟨_, rfl⟩
  refine lv_i2b hx hb dX13_feed_99 ex_36 ?_
  refine va_bast (D := (dC, dI)) (cl := vwCl) hx hb hK hP hD hS 1 0 rfl rfl (i := 3) (by unfold vp_in; decide) dX13_feed_100 (fun H locs hP hD hS => ?_)
  generalize upd f_28 (Int32.toNatClampNeg 3) (vp_nar .byte x_36) = f_37 at hP hD
  have hP : va_P (dC, dI) vwCl [(h0, .inr (12, [.int 0, .int g1, .int g2, g3, g4, .ref tp, .int 3, .int g7, .int g8, .int g9, .int g10, .int g11, .int g12, .int g13, .int g14, .long g15, g16, g17, g18, g19, .int g20, .int g21, g22, g23, g24, .int g25, g26, .int g27, .int g28, .int g29, .int g30])), (tp, .inl (cy 0, 800, .inl f_37))] H := hP
  have hD : va_D A [(h0, .inr (12, [.int 0, .int g1, .int g2, g3, g4, .ref tp, .int 3, .int g7, .int g8, .int g9, .int g10, .int g11, .int g12, .int g13, .int g14, .long g15, g16, g17, g18, g19, .int g20, .int g21, g22, g23, g24, .int g25, g26, .int g27, .int g28, .int g29, .int g30])), (tp, .inl (cy 0, 800, .inl f_37))] := hD
  refine lv_aload_n hx hb dX13_feed_101 rfl (lv_at hl 2 rfl) ?_
  refine lv_dup hx hb dX13_feed_102 rfl ?_
  refine r_get X kcX13 (ci := 12) rfl hP 0 rfl 6 (by decide) fX13_262 rfl dX13_feed_103 ?_
  refine lv_iconst (v := 1) hx hb dX13_feed_106 (by decide) ?_
  refine lv_iadd hx hb dX13_feed_107 ?_
  refine lv_topi (fun x_38 ex_38 => ?_)
  have ex_38 : x_38 = 4 := ex_38.trans (by decide)
  subst ex_38
  refine r_put X kcX13 (ci := 12) rfl hP hD hS 0 rfl 6 (by decide) fX13_262 rfl rfl rfl (Nat.le_of_ble_eq_true rfl) dX13_feed_108 (fun H locs hP hD hS => ?_)
  have hP : va_P (dC, dI) vwCl [(h0, .inr (12, [.int 0, .int g1, .int g2, g3, g4, .ref tp, .int 4, .int g7, .int g8, .int g9, .int g10, .int g11, .int g12, .int g13, .int g14, .long g15, g16, g17, g18, g19, .int g20, .int g21, g22, g23, g24, .int g25, g26, .int g27, .int g28, .int g29, .int g30])), (tp, .inl (cy 0, 800, .inl f_37))] H := hP
  have hD : va_D A [(h0, .inr (12, [.int 0, .int g1, .int g2, g3, g4, .ref tp, .int 4, .int g7, .int g8, .int g9, .int g10, .int g11, .int g12, .int g13, .int g14, .long g15, g16, g17, g18, g19, .int g20, .int g21, g22, g23, g24, .int g25, g26, .int g27, .int g28, .int g29, .int g30])), (tp, .inl (cy 0, 800, .inl f_37))] := hD
  refine lv_iinc (v := 4) (lv' := [(6, .int 4), (7, .int p1), (0, .ref h0), (1, .int p1), (2, .int p2), (3, .int p3), (4, .int p4), (5, .int p5)]) hx hb dX13_feed_111 hl (k := 1) rfl (by decide) (by decide) rfl (fun ls hl => ?_)
  refine lv_goto (tgt := 23) hx hb dX13_feed_114 (by decide) ?_
  refine lv_iload hx hb dX13_feed_23 (lv_at hl 0 rfl) ?_
  refine lv_bipush (v := 20) hx hb dX13_feed_25 (by decide) ?_
  refine lv_icmp_ge (tgt := 117) hx hb dX13_feed_27 (by decide) (fun h_39 => absurd h_39 (by decide)) (fun _ => ?_)
  refine lv_iload hx hb dX13_feed_30 (lv_at hl 0 rfl) ?_
  refine lv_iconst (v := 4) hx hb dX13_feed_32 (by decide) ?_
  refine lv_icmp_ge (tgt := 40) hx hb dX13_feed_33 (by decide) (fun _ => ?_) (fun h_40 => absurd (by decide) h_40)
  refine lv_iload hx hb dX13_feed_40 (lv_at hl 0 rfl) ?_
  refine lv_bipush (v := 8) hx hb dX13_feed_42 (by decide) ?_
  refine lv_icmp_ge (tgt := 51) hx hb dX13_feed_44 (by decide) (fun h_41 => absurd h_41 (by decide)) (fun _ => ?_)
  refine lv_iload_n hx hb dX13_feed_47 rfl (lv_at hl 4 rfl) ?_
  refine lv_goto (tgt := 76) hx hb dX13_feed_48 (by decide) ?_
  refine lv_istore (lv' := [(7, .int p2), (6, .int 4), (0, .ref h0), (1, .int p1), (2, .int p2), (3, .int p3), (4, .int p4), (5, .int p5)]) hx hb dX13_feed_76 hl (by decide) rfl (fun ls hl => ?_)
  refine lv_aload_n hx hb dX13_feed_78 rfl (lv_at hl 2 rfl) ?_
  refine r_get X kcX13 (ci := 12) rfl hP 0 rfl 5 (by decide) fX13_13 rfl dX13_feed_79 ?_
  refine lv_aload_n hx hb dX13_feed_82 rfl (lv_at hl 2 rfl) ?_
  refine r_get X kcX13 (ci := 12) rfl hP 0 rfl 6 (by decide) fX13_262 rfl dX13_feed_83 ?_
  refine lv_iload hx hb dX13_feed_86 (lv_at hl 0 rfl) ?_
  refine lv_bipush (v := 24) hx hb dX13_feed_88 (by decide) ?_
  refine lv_bipush (v := 8) hx hb dX13_feed_90 (by decide) ?_
  refine lv_iload hx hb dX13_feed_92 (lv_at hl 1 rfl) ?_
  refine lv_iconst (v := 4) hx hb dX13_feed_94 (by decide) ?_
  refine lv_irem hx hb dX13_feed_95 (by decide) ?_
  refine lv_topi (fun x_42 ex_42 => ?_)
  have ex_42 : x_42 = 0 := ex_42.trans (by decide)
  subst ex_42
  refine lv_imul hx hb dX13_feed_96 ?_
  refine lv_topi (fun x_43 ex_43 => ?_)
  have ex_43 : x_43 = 0 := ex_43.trans (by decide)
  subst ex_43
  refine lv_isub hx hb dX13_feed_97 ?_
  refine lv_topi (fun x_44 ex_44 => ?_)
  have ex_44 : x_44 = 24 := ex_44.trans (by decide)
  subst ex_44
  refine lv_ishr hx hb dX13_feed_98 ?_
  refine lv_topi (fun x_45 ex_45 => ?_)
  obtain ⟨x_46, ex_46⟩ : ∃ y : Int32, x_45.toInt8.toInt32 = y := ⟨_, rfl⟩
  refine lv_i2b hx hb dX13_feed_99 ex_46 ?_
  refine va_bast (D := (dC, dI)) (cl := vwCl) hx hb hK hP hD hS 1 0 rfl rfl (i := 4) (by unfold vp_in; decide) dX13_feed_100 (fun H locs hP hD hS => ?_)
  generalize upd f_37 (Int32.toNatClampNeg 4) (vp_nar .byte x_46) = f_47 at hP hD
  have hP : va_P (dC, dI) vwCl [(h0, .inr (12, [.int 0, .int g1, .int g2, g3, g4, .ref tp, .int 4, .int g7, .int g8, .int g9, .int g10, .int g11, .int g12, .int g13, .int g14, .long g15, g16, g17, g18, g19, .int g20, .int g21, g22, g23, g24, .int g25, g26, .int g27, .int g28, .int g29, .int g30])), (tp, .inl (cy 0, 800, .inl f_47))] H := hP
  have hD : va_D A [(h0, .inr (12, [.int 0, .int g1, .int g2, g3, g4, .ref tp, .int 4, .int g7, .int g8, .int g9, .int g10, .int g11, .int g12, .int g13, .int g14, .long g15, g16, g17, g18, g19, .int g20, .int g21, g22, g23, g24, .int g25, g26, .int g27, .int g28, .int g29, .int g30])), (tp, .inl (cy 0, 800, .inl f_47))] := hD
  refine lv_aload_n hx hb dX13_feed_101 rfl (lv_at hl 2 rfl) ?_
  refine lv_dup hx hb dX13_feed_102 rfl ?_
  refine r_get X kcX13 (ci := 12) rfl hP 0 rfl 6 (by decide) fX13_262 rfl dX13_feed_103 ?_
  refine lv_iconst (v := 1) hx hb dX13_feed_106 (by decide) ?_
  refine lv_iadd hx hb dX13_feed_107 ?_
  refine lv_topi (fun x_48 ex_48 => ?_)
  have ex_48 : x_48 = 5 := ex_48.trans (by decide)
  subst ex_48
  refine r_put X kcX13 (ci := 12) rfl hP hD hS 0 rfl 6 (by decide) fX13_262 rfl rfl rfl (Nat.le_of_ble_eq_true rfl) dX13_feed_108 (fun H locs hP hD hS => ?_)
  have hP : va_P (dC, dI) vwCl [(h0, .inr (12, [.int 0, .int g1, .int g2, g3, g4, .ref tp, .int 5, .int g7, .int g8, .int g9, .int g10, .int g11, .int g12, .int g13, .int g14, .long g15, g16, g17, g18, g19, .int g20, .int g21, g22, g23, g24, .int g25, g26, .int g27, .int g28, .int g29, .int g30])), (tp, .inl (cy 0, 800, .inl f_47))] H := hP
  have hD : va_D A [(h0, .inr (12, [.int 0, .int g1, .int g2, g3, g4, .ref tp, .int 5, .int g7, .int g8, .int g9, .int g10, .int g11, .int g12, .int g13, .int g14, .long g15, g16, g17, g18, g19, .int g20, .int g21, g22, g23, g24, .int g25, g26, .int g27, .int g28, .int g29, .int g30])), (tp, .inl (cy 0, 800, .inl f_47))] := hD
  refine lv_iinc (v := 5) (lv' := [(6, .int 5), (7, .int p2), (0, .ref h0), (1, .int p1), (2, .int p2), (3, .int p3), (4, .int p4), (5, .int p5)]) hx hb dX13_feed_111 hl (k := 1) rfl (by decide) (by decide) rfl (fun ls hl => ?_)
  refine lv_goto (tgt := 23) hx hb dX13_feed_114 (by decide) ?_
  refine lv_iload hx hb dX13_feed_23 (lv_at hl 0 rfl) ?_
  refine lv_bipush (v := 20) hx hb dX13_feed_25 (by decide) ?_
  refine lv_icmp_ge (tgt := 117) hx hb dX13_feed_27 (by decide) (fun h_49 => absurd h_49 (by decide)) (fun _ => ?_)
  refine lv_iload hx hb dX13_feed_30 (lv_at hl 0 rfl) ?_
  refine lv_iconst (v := 4) hx hb dX13_feed_32 (by decide) ?_
  refine lv_icmp_ge (tgt := 40) hx hb dX13_feed_33 (by decide) (fun _ => ?_) (fun h_50 => absurd (by decide) h_50)
  refine lv_iload hx hb dX13_feed_40 (lv_at hl 0 rfl) ?_
  refine lv_bipush (v := 8) hx hb dX13_feed_42 (by decide) ?_
  refine lv_icmp_ge (tgt := 51) hx hb dX13_feed_44 (by decide) (fun h_51 => absurd h_51 (by decide)) (fun _ => ?_)
  refine lv_iload_n hx hb dX13_feed_47 rfl (lv_at hl 4 rfl) ?_
  refine lv_goto (tgt := 76) hx hb dX13_feed_48 (by decide) ?_
  refine lv_istore (lv' := [(7, .int p2), (6, .int 5), (0, .ref h0), (1, .int p1), (2, .int p2), (3, .int p3), (4, .int p4), (5, .int p5)]) hx hb dX13_feed_76 hl (by decide) rfl (fun ls hl => ?_)
  refine lv_aload_n hx hb dX13_feed_78 rfl (lv_at hl 2 rfl) ?_
  refine r_get X kcX13 (ci := 12) rfl hP 0 rfl 5 (by decide) fX13_13 rfl dX13_feed_79 ?_
  refine lv_aload_n hx hb dX13_feed_82 rfl (lv_at hl 2 rfl) ?_
  refine r_get X kcX13 (ci := 12) rfl hP 0 rfl 6 (by decide) fX13_262 rfl dX13_feed_83 ?_
  refine lv_iload hx hb dX13_feed_86 (lv_at hl 0 rfl) ?_
  refine lv_bipush (v := 24) hx hb dX13_feed_88 (by decide) ?_
  refine lv_bipush (v := 8) hx hb dX13_feed_90 (by decide) ?_
  refine lv_iload hx hb dX13_feed_92 (lv_at hl 1 rfl) ?_
  refine lv_iconst (v := 4) hx hb dX13_feed_94 (by decide) ?_
  refine lv_irem hx hb dX13_feed_95 (by decide) ?_
  refine lv_topi (fun x_52 ex_52 => ?_)
  have ex_52 : x_52 = 1 := ex_52.trans (by decide)
  subst ex_52
  refine lv_imul hx hb dX13_feed_96 ?_
  refine lv_topi (fun x_53 ex_53 => ?_)
  have ex_53 : x_53 = 8 := ex_53.trans (by decide)
  subst ex_53
  refine lv_isub hx hb dX13_feed_97 ?_
  refine lv_topi (fun x_54 ex_54 => ?_)
  have ex_54 : x_54 = 16 := ex_54.trans (by decide)
  subst ex_54
  refine lv_ishr hx hb dX13_feed_98 ?_
  refine lv_topi (fun x_55 ex_55 => ?_)
  obtain ⟨x_56, ex_56⟩ : ∃ y : Int32, x_55.toInt8.toInt32 = y := ⟨_, rfl⟩
  refine lv_i2b hx hb dX13_feed_99 ex_56 ?_
  refine va_bast (D := (dC, dI)) (cl := vwCl) hx hb hK hP hD hS 1 0 rfl rfl (i := 5) (by unfold vp_in; decide) dX13_feed_100 (fun H locs hP hD hS => ?_)
  generalize upd f_47 (Int32.toNatClampNeg 5) (vp_nar .byte x_56) = f_57 at hP hD
  have hP : va_P (dC, dI) vwCl [(h0, .inr (12, [.int 0, .int g1, .int g2, g3, g4, .ref tp, .int 5, .int g7, .int g8, .int g9, .int g10, .int g11, .int g12, .int g13, .int g14, .long g15, g16, g17, g18, g19, .int g20, .int g21, g22, g23, g24, .int g25, g26, .int g27, .int g28, .int g29, .int g30])), (tp, .inl (cy 0, 800, .inl f_57))] H := hP
  have hD : va_D A [(h0, .inr (12, [.int 0, .int g1, .int g2, g3, g4, .ref tp, .int 5, .int g7, .int g8, .int g9, .int g10, .int g11, .int g12, .int g13, .int g14, .long g15, g16, g17, g18, g19, .int g20, .int g21, g22, g23, g24, .int g25, g26, .int g27, .int g28, .int g29, .int g30])), (tp, .inl (cy 0, 800, .inl f_57))] := hD
  refine lv_aload_n hx hb dX13_feed_101 rfl (lv_at hl 2 rfl) ?_
  refine lv_dup hx hb dX13_feed_102 rfl ?_
  refine r_get X kcX13 (ci := 12) rfl hP 0 rfl 6 (by decide) fX13_262 rfl dX13_feed_103 ?_
  refine lv_iconst (v := 1) hx hb dX13_feed_106 (by decide) ?_
  refine lv_iadd hx hb dX13_feed_107 ?_
  refine lv_topi (fun x_58 ex_58 => ?_)
  have ex_58 : x_58 = 6 := ex_58.trans (by decide)
  subst ex_58
  refine r_put X kcX13 (ci := 12) rfl hP hD hS 0 rfl 6 (by decide) fX13_262 rfl rfl rfl (Nat.le_of_ble_eq_true rfl) dX13_feed_108 (fun H locs hP hD hS => ?_)
  have hP : va_P (dC, dI) vwCl [(h0, .inr (12, [.int 0, .int g1, .int g2, g3, g4, .ref tp, .int 6, .int g7, .int g8, .int g9, .int g10, .int g11, .int g12, .int g13, .int g14, .long g15, g16, g17, g18, g19, .int g20, .int g21, g22, g23, g24, .int g25, g26, .int g27, .int g28, .int g29, .int g30])), (tp, .inl (cy 0, 800, .inl f_57))] H := hP
  have hD : va_D A [(h0, .inr (12, [.int 0, .int g1, .int g2, g3, g4, .ref tp, .int 6, .int g7, .int g8, .int g9, .int g10, .int g11, .int g12, .int g13, .int g14, .long g15, g16, g17, g18, g19, .int g20, .int g21, g22, g23, g24, .int g25, g26, .int g27, .int g28, .int g29, .int g30])), (tp, .inl (cy 0, 800, .inl f_57))] := hD
  refine lv_iinc (v := 6) (lv' := [(6, .int 6), (7, .int p2), (0, .ref h0), (1, .int p1), (2, .int p2), (3, .int p3), (4, .int p4), (5, .int p5)]) hx hb dX13_feed_111 hl (k := 1) rfl (by decide) (by decide) rfl (fun ls hl => ?_)
  refine lv_goto (tgt := 23) hx hb dX13_feed_114 (by decide) ?_
  refine lv_iload hx hb dX13_feed_23 (lv_at hl 0 rfl) ?_
  refine lv_bipush (v := 20) hx hb dX13_feed_25 (by decide) ?_
  refine lv_icmp_ge (tgt := 117) hx hb dX13_feed_27 (by decide) (fun h_59 => absurd h_59 (by decide)) (fun _ => ?_)
  refine lv_iload hx hb dX13_feed_30 (lv_at hl 0 rfl) ?_
  refine lv_iconst (v := 4) hx hb dX13_feed_32 (by decide) ?_
  refine lv_icmp_ge (tgt := 40) hx hb dX13_feed_33 (by decide) (fun _ => ?_) (fun h_60 => absurd (by decide) h_60)
  refine lv_iload hx hb dX13_feed_40 (lv_at hl 0 rfl) ?_
  refine lv_bipush (v := 8) hx hb dX13_feed_42 (by decide) ?_
  refine lv_icmp_ge (tgt := 51) hx hb dX13_feed_44 (by decide) (fun h_61 => absurd h_61 (by decide)) (fun _ => ?_)
  refine lv_iload_n hx hb dX13_feed_47 rfl (lv_at hl 4 rfl) ?_
  refine lv_goto (tgt := 76) hx hb dX13_feed_48 (by decide) ?_
  refine lv_istore (lv' := [(7, .int p2), (6, .int 6), (0, .ref h0), (1, .int p1), (2, .int p2), (3, .int p3), (4, .int p4), (5, .int p5)]) hx hb dX13_feed_76 hl (by decide) rfl (fun ls hl => ?_)
  refine lv_aload_n hx hb dX13_feed_78 rfl (lv_at hl 2 rfl) ?_
  refine r_get X kcX13 (ci := 12) rfl hP 0 rfl 5 (by decide) fX13_13 rfl dX13_feed_79 ?_
  refine lv_aload_n hx hb dX13_feed_82 rfl (lv_at hl 2 rfl) ?_
  refine r_get X kcX13 (ci := 12) rfl hP 0 rfl 6 (by decide) fX13_262 rfl dX13_feed_83 ?_
  refine lv_iload hx hb dX13_feed_86 (lv_at hl 0 rfl) ?_
  refine lv_bipush (v := 24) hx hb dX13_feed_88 (by decide) ?_
  refine lv_bipush (v := 8) hx hb dX13_feed_90 (by decide) ?_
  refine lv_iload hx hb dX13_feed_92 (lv_at hl 1 rfl) ?_
  refine lv_iconst (v := 4) hx hb dX13_feed_94 (by decide) ?_
  refine lv_irem hx hb dX13_feed_95 (by decide) ?_
  refine lv_topi (fun x_62 ex_62 => ?_)
  have ex_62 : x_62 = 2 := ex_62.trans (by decide)
  subst ex_62
  refine lv_imul hx hb dX13_feed_96 ?_
  refine lv_topi (fun x_63 ex_63 => ?_)
  have ex_63 : x_63 = 16 := ex_63.trans (by decide)
  subst ex_63
  refine lv_isub hx hb dX13_feed_97 ?_
  refine lv_topi (fun x_64 ex_64 => ?_)
  have ex_64 : x_64 = 8 := ex_64.trans (by decide)
  subst ex_64
  refine lv_ishr hx hb dX13_feed_98 ?_
  refine lv_topi (fun x_65 ex_65 => ?_)
  obtain ⟨x_66, ex_66⟩ : ∃ y : Int32, x_65.toInt8.toInt32 = y := ⟨_, rfl⟩
  refine lv_i2b hx hb dX13_feed_99 ex_66 ?_
  refine va_bast (D := (dC, dI)) (cl := vwCl) hx hb hK hP hD hS 1 0 rfl rfl (i := 6) (by unfold vp_in; decide) dX13_feed_100 (fun H locs hP hD hS => ?_)
  generalize upd f_57 (Int32.toNatClampNeg 6) (vp_nar .byte x_66) = f_67 at hP hD
  have hP : va_P (dC, dI) vwCl [(h0, .inr (12, [.int 0, .int g1, .int g2, g3, g4, .ref tp, .int 6, .int g7, .int g8, .int g9, .int g10, .int g11, .int g12, .int g13, .int g14, .long g15, g16, g17, g18, g19, .int g20, .int g21, g22, g23, g24, .int g25, g26, .int g27, .int g28, .int g29, .int g30])), (tp, .inl (cy 0, 800, .inl f_67))] H := hP
  have hD : va_D A [(h0, .inr (12, [.int 0, .int g1, .int g2, g3, g4, .ref tp, .int 6, .int g7, .int g8, .int g9, .int g10, .int g11, .int g12, .int g13, .int g14, .long g15, g16, g17, g18, g19, .int g20, .int g21, g22, g23, g24, .int g25, g26, .int g27, .int g28, .int g29, .int g30])), (tp, .inl (cy 0, 800, .inl f_67))] := hD
  refine lv_aload_n hx hb dX13_feed_101 rfl (lv_at hl 2 rfl) ?_
  refine lv_dup hx hb dX13_feed_102 rfl ?_
  refine r_get X kcX13 (ci := 12) rfl hP 0 rfl 6 (by decide) fX13_262 rfl dX13_feed_103 ?_
  refine lv_iconst (v := 1) hx hb dX13_feed_106 (by decide) ?_
  refine lv_iadd hx hb dX13_feed_107 ?_
  refine lv_topi (fun x_68 ex_68 => ?_)
  have ex_68 : x_68 = 7 := ex_68.trans (by decide)
  subst ex_68
  refine r_put X kcX13 (ci := 12) rfl hP hD hS 0 rfl 6 (by decide) fX13_262 rfl rfl rfl (Nat.le_of_ble_eq_true rfl) dX13_feed_108 (fun H locs hP hD hS => ?_)
  have hP : va_P (dC, dI) vwCl [(h0, .inr (12, [.int 0, .int g1, .int g2, g3, g4, .ref tp, .int 7, .int g7, .int g8, .int g9, .int g10, .int g11, .int g12, .int g13, .int g14, .long g15, g16, g17, g18, g19, .int g20, .int g21, g22, g23, g24, .int g25, g26, .int g27, .int g28, .int g29, .int g30])), (tp, .inl (cy 0, 800, .inl f_67))] H := hP
  have hD : va_D A [(h0, .inr (12, [.int 0, .int g1, .int g2, g3, g4, .ref tp, .int 7, .int g7, .int g8, .int g9, .int g10, .int g11, .int g12, .int g13, .int g14, .long g15, g16, g17, g18, g19, .int g20, .int g21, g22, g23, g24, .int g25, g26, .int g27, .int g28, .int g29, .int g30])), (tp, .inl (cy 0, 800, .inl f_67))] := hD
  refine lv_iinc (v := 7) (lv' := [(6, .int 7), (7, .int p2), (0, .ref h0), (1, .int p1), (2, .int p2), (3, .int p3), (4, .int p4), (5, .int p5)]) hx hb dX13_feed_111 hl (k := 1) rfl (by decide) (by decide) rfl (fun ls hl => ?_)
  refine lv_goto (tgt := 23) hx hb dX13_feed_114 (by decide) ?_
  refine lv_iload hx hb dX13_feed_23 (lv_at hl 0 rfl) ?_
  refine lv_bipush (v := 20) hx hb dX13_feed_25 (by decide) ?_
  refine lv_icmp_ge (tgt := 117) hx hb dX13_feed_27 (by decide) (fun h_69 => absurd h_69 (by decide)) (fun _ => ?_)
  refine lv_iload hx hb dX13_feed_30 (lv_at hl 0 rfl) ?_
  refine lv_iconst (v := 4) hx hb dX13_feed_32 (by decide) ?_
  refine lv_icmp_ge (tgt := 40) hx hb dX13_feed_33 (by decide) (fun _ => ?_) (fun h_70 => absurd (by decide) h_70)
  refine lv_iload hx hb dX13_feed_40 (lv_at hl 0 rfl) ?_
  refine lv_bipush (v := 8) hx hb dX13_feed_42 (by decide) ?_
  refine lv_icmp_ge (tgt := 51) hx hb dX13_feed_44 (by decide) (fun h_71 => absurd h_71 (by decide)) (fun _ => ?_)
  refine lv_iload_n hx hb dX13_feed_47 rfl (lv_at hl 4 rfl) ?_
  refine lv_goto (tgt := 76) hx hb dX13_feed_48 (by decide) ?_
  refine lv_istore (lv' := [(7, .int p2), (6, .int 7), (0, .ref h0), (1, .int p1), (2, .int p2), (3, .int p3), (4, .int p4), (5, .int p5)]) hx hb dX13_feed_76 hl (by decide) rfl (fun ls hl => ?_)
  refine lv_aload_n hx hb dX13_feed_78 rfl (lv_at hl 2 rfl) ?_
  refine r_get X kcX13 (ci := 12) rfl hP 0 rfl 5 (by decide) fX13_13 rfl dX13_feed_79 ?_
  refine lv_aload_n hx hb dX13_feed_82 rfl (lv_at hl 2 rfl) ?_
  refine r_get X kcX13 (ci := 12) rfl hP 0 rfl 6 (by decide) fX13_262 rfl dX13_feed_83 ?_
  refine lv_iload hx hb dX13_feed_86 (lv_at hl 0 rfl) ?_
  refine lv_bipush (v := 24) hx hb dX13_feed_88 (by decide) ?_
  refine lv_bipush (v := 8) hx hb dX13_feed_90 (by decide) ?_
  refine lv_iload hx hb dX13_feed_92 (lv_at hl 1 rfl) ?_
  refine lv_iconst (v := 4) hx hb dX13_feed_94 (by decide) ?_
  refine lv_irem hx hb dX13_feed_95 (by decide) ?_
  refine lv_topi (fun x_72 ex_72 => ?_)
  have ex_72 : x_72 = 3 := ex_72.trans (by decide)
  subst ex_72
  refine lv_imul hx hb dX13_feed_96 ?_
  refine lv_topi (fun x_73 ex_73 => ?_)
  have ex_73 : x_73 = 24 := ex_73.trans (by decide)
  subst ex_73
  refine lv_isub hx hb dX13_feed_97 ?_
  refine lv_topi (fun x_74 ex_74 => ?_)
  have ex_74 : x_74 = 0 := ex_74.trans (by decide)
  subst ex_74
  refine lv_ishr hx hb dX13_feed_98 ?_
  refine lv_topi (fun x_75 ex_75 => ?_)
  obtain ⟨x_76, ex_76⟩ : ∃ y : Int32, x_75.toInt8.toInt32 = y := ⟨_, rfl⟩
  refine lv_i2b hx hb dX13_feed_99 ex_76 ?_
  refine va_bast (D := (dC, dI)) (cl := vwCl) hx hb hK hP hD hS 1 0 rfl rfl (i := 7) (by unfold vp_in; decide) dX13_feed_100 (fun H locs hP hD hS => ?_)
  generalize upd f_67 (Int32.toNatClampNeg 7) (vp_nar .byte x_76) = f_77 at hP hD
  have hP : va_P (dC, dI) vwCl [(h0, .inr (12, [.int 0, .int g1, .int g2, g3, g4, .ref tp, .int 7, .int g7, .int g8, .int g9, .int g10, .int g11, .int g12, .int g13, .int g14, .long g15, g16, g17, g18, g19, .int g20, .int g21, g22, g23, g24, .int g25, g26, .int g27, .int g28, .int g29, .int g30])), (tp, .inl (cy 0, 800, .inl f_77))] H := hP
  have hD : va_D A [(h0, .inr (12, [.int 0, .int g1, .int g2, g3, g4, .ref tp, .int 7, .int g7, .int g8, .int g9, .int g10, .int g11, .int g12, .int g13, .int g14, .long g15, g16, g17, g18, g19, .int g20, .int g21, g22, g23, g24, .int g25, g26, .int g27, .int g28, .int g29, .int g30])), (tp, .inl (cy 0, 800, .inl f_77))] := hD
  refine lv_aload_n hx hb dX13_feed_101 rfl (lv_at hl 2 rfl) ?_
  refine lv_dup hx hb dX13_feed_102 rfl ?_
  refine r_get X kcX13 (ci := 12) rfl hP 0 rfl 6 (by decide) fX13_262 rfl dX13_feed_103 ?_
  refine lv_iconst (v := 1) hx hb dX13_feed_106 (by decide) ?_
  refine lv_iadd hx hb dX13_feed_107 ?_
  refine lv_topi (fun x_78 ex_78 => ?_)
  have ex_78 : x_78 = 8 := ex_78.trans (by decide)
  subst ex_78
  refine r_put X kcX13 (ci := 12) rfl hP hD hS 0 rfl 6 (by decide) fX13_262 rfl rfl rfl (Nat.le_of_ble_eq_true rfl) dX13_feed_108 (fun H locs hP hD hS => ?_)
  have hP : va_P (dC, dI) vwCl [(h0, .inr (12, [.int 0, .int g1, .int g2, g3, g4, .ref tp, .int 8, .int g7, .int g8, .int g9, .int g10, .int g11, .int g12, .int g13, .int g14, .long g15, g16, g17, g18, g19, .int g20, .int g21, g22, g23, g24, .int g25, g26, .int g27, .int g28, .int g29, .int g30])), (tp, .inl (cy 0, 800, .inl f_77))] H := hP
  have hD : va_D A [(h0, .inr (12, [.int 0, .int g1, .int g2, g3, g4, .ref tp, .int 8, .int g7, .int g8, .int g9, .int g10, .int g11, .int g12, .int g13, .int g14, .long g15, g16, g17, g18, g19, .int g20, .int g21, g22, g23, g24, .int g25, g26, .int g27, .int g28, .int g29, .int g30])), (tp, .inl (cy 0, 800, .inl f_77))] := hD
  refine lv_iinc (v := 8) (lv' := [(6, .int 8), (7, .int p2), (0, .ref h0), (1, .int p1), (2, .int p2), (3, .int p3), (4, .int p4), (5, .int p5)]) hx hb dX13_feed_111 hl (k := 1) rfl (by decide) (by decide) rfl (fun ls hl => ?_)
  refine lv_goto (tgt := 23) hx hb dX13_feed_114 (by decide) ?_
  refine lv_iload hx hb dX13_feed_23 (lv_at hl 0 rfl) ?_
  refine lv_bipush (v := 20) hx hb dX13_feed_25 (by decide) ?_
  refine lv_icmp_ge (tgt := 117) hx hb dX13_feed_27 (by decide) (fun h_79 => absurd h_79 (by decide)) (fun _ => ?_)
  refine lv_iload hx hb dX13_feed_30 (lv_at hl 0 rfl) ?_
  refine lv_iconst (v := 4) hx hb dX13_feed_32 (by decide) ?_
  refine lv_icmp_ge (tgt := 40) hx hb dX13_feed_33 (by decide) (fun _ => ?_) (fun h_80 => absurd (by decide) h_80)
  refine lv_iload hx hb dX13_feed_40 (lv_at hl 0 rfl) ?_
  refine lv_bipush (v := 8) hx hb dX13_feed_42 (by decide) ?_
  refine lv_icmp_ge (tgt := 51) hx hb dX13_feed_44 (by decide) (fun _ => ?_) (fun h_81 => absurd (by decide) h_81)
  refine lv_iload hx hb dX13_feed_51 (lv_at hl 0 rfl) ?_
  refine lv_bipush (v := 12) hx hb dX13_feed_53 (by decide) ?_
  refine lv_icmp_ge (tgt := 62) hx hb dX13_feed_55 (by decide) (fun h_82 => absurd h_82 (by decide)) (fun _ => ?_)
  refine lv_iload_n hx hb dX13_feed_58 rfl (lv_at hl 5 rfl) ?_
  refine lv_goto (tgt := 76) hx hb dX13_feed_59 (by decide) ?_
  refine lv_istore (lv' := [(7, .int p3), (6, .int 8), (0, .ref h0), (1, .int p1), (2, .int p2), (3, .int p3), (4, .int p4), (5, .int p5)]) hx hb dX13_feed_76 hl (by decide) rfl (fun ls hl => ?_)
  refine lv_aload_n hx hb dX13_feed_78 rfl (lv_at hl 2 rfl) ?_
  refine r_get X kcX13 (ci := 12) rfl hP 0 rfl 5 (by decide) fX13_13 rfl dX13_feed_79 ?_
  refine lv_aload_n hx hb dX13_feed_82 rfl (lv_at hl 2 rfl) ?_
  refine r_get X kcX13 (ci := 12) rfl hP 0 rfl 6 (by decide) fX13_262 rfl dX13_feed_83 ?_
  refine lv_iload hx hb dX13_feed_86 (lv_at hl 0 rfl) ?_
  refine lv_bipush (v := 24) hx hb dX13_feed_88 (by decide) ?_
  refine lv_bipush (v := 8) hx hb dX13_feed_90 (by decide) ?_
  refine lv_iload hx hb dX13_feed_92 (lv_at hl 1 rfl) ?_
  refine lv_iconst (v := 4) hx hb dX13_feed_94 (by decide) ?_
  refine lv_irem hx hb dX13_feed_95 (by decide) ?_
  refine lv_topi (fun x_83 ex_83 => ?_)
  have ex_83 : x_83 = 0 := ex_83.trans (by decide)
  subst ex_83
  refine lv_imul hx hb dX13_feed_96 ?_
  refine lv_topi (fun x_84 ex_84 => ?_)
  have ex_84 : x_84 = 0 := ex_84.trans (by decide)
  subst ex_84
  refine lv_isub hx hb dX13_feed_97 ?_
  refine lv_topi (fun x_85 ex_85 => ?_)
  have ex_85 : x_85 = 24 := ex_85.trans (by decide)
  subst ex_85
  refine lv_ishr hx hb dX13_feed_98 ?_
  refine lv_topi (fun x_86 ex_86 => ?_)
  obtain ⟨x_87, ex_87⟩ : ∃ y : Int32, x_86.toInt8.toInt32 = y := ⟨_, rfl⟩
  refine lv_i2b hx hb dX13_feed_99 ex_87 ?_
  refine va_bast (D := (dC, dI)) (cl := vwCl) hx hb hK hP hD hS 1 0 rfl rfl (i := 8) (by unfold vp_in; decide) dX13_feed_100 (fun H locs hP hD hS => ?_)
  generalize upd f_77 (Int32.toNatClampNeg 8) (vp_nar .byte x_87) = f_88 at hP hD
  have hP : va_P (dC, dI) vwCl [(h0, .inr (12, [.int 0, .int g1, .int g2, g3, g4, .ref tp, .int 8, .int g7, .int g8, .int g9, .int g10, .int g11, .int g12, .int g13, .int g14, .long g15, g16, g17, g18, g19, .int g20, .int g21, g22, g23, g24, .int g25, g26, .int g27, .int g28, .int g29, .int g30])), (tp, .inl (cy 0, 800, .inl f_88))] H := hP
  have hD : va_D A [(h0, .inr (12, [.int 0, .int g1, .int g2, g3, g4, .ref tp, .int 8, .int g7, .int g8, .int g9, .int g10, .int g11, .int g12, .int g13, .int g14, .long g15, g16, g17, g18, g19, .int g20, .int g21, g22, g23, g24, .int g25, g26, .int g27, .int g28, .int g29, .int g30])), (tp, .inl (cy 0, 800, .inl f_88))] := hD
  refine lv_aload_n hx hb dX13_feed_101 rfl (lv_at hl 2 rfl) ?_
  refine lv_dup hx hb dX13_feed_102 rfl ?_
  refine r_get X kcX13 (ci := 12) rfl hP 0 rfl 6 (by decide) fX13_262 rfl dX13_feed_103 ?_
  refine lv_iconst (v := 1) hx hb dX13_feed_106 (by decide) ?_
  refine lv_iadd hx hb dX13_feed_107 ?_
  refine lv_topi (fun x_89 ex_89 => ?_)
  have ex_89 : x_89 = 9 := ex_89.trans (by decide)
  subst ex_89
  refine r_put X kcX13 (ci := 12) rfl hP hD hS 0 rfl 6 (by decide) fX13_262 rfl rfl rfl (Nat.le_of_ble_eq_true rfl) dX13_feed_108 (fun H locs hP hD hS => ?_)
  have hP : va_P (dC, dI) vwCl [(h0, .inr (12, [.int 0, .int g1, .int g2, g3, g4, .ref tp, .int 9, .int g7, .int g8, .int g9, .int g10, .int g11, .int g12, .int g13, .int g14, .long g15, g16, g17, g18, g19, .int g20, .int g21, g22, g23, g24, .int g25, g26, .int g27, .int g28, .int g29, .int g30])), (tp, .inl (cy 0, 800, .inl f_88))] H := hP
  have hD : va_D A [(h0, .inr (12, [.int 0, .int g1, .int g2, g3, g4, .ref tp, .int 9, .int g7, .int g8, .int g9, .int g10, .int g11, .int g12, .int g13, .int g14, .long g15, g16, g17, g18, g19, .int g20, .int g21, g22, g23, g24, .int g25, g26, .int g27, .int g28, .int g29, .int g30])), (tp, .inl (cy 0, 800, .inl f_88))] := hD
  refine lv_iinc (v := 9) (lv' := [(6, .int 9), (7, .int p3), (0, .ref h0), (1, .int p1), (2, .int p2), (3, .int p3), (4, .int p4), (5, .int p5)]) hx hb dX13_feed_111 hl (k := 1) rfl (by decide) (by decide) rfl (fun ls hl => ?_)
  refine lv_goto (tgt := 23) hx hb dX13_feed_114 (by decide) ?_
  refine lv_iload hx hb dX13_feed_23 (lv_at hl 0 rfl) ?_
  refine lv_bipush (v := 20) hx hb dX13_feed_25 (by decide) ?_
  refine lv_icmp_ge (tgt := 117) hx hb dX13_feed_27 (by decide) (fun h_90 => absurd h_90 (by decide)) (fun _ => ?_)
  refine lv_iload hx hb dX13_feed_30 (lv_at hl 0 rfl) ?_
  refine lv_iconst (v := 4) hx hb dX13_feed_32 (by decide) ?_
  refine lv_icmp_ge (tgt := 40) hx hb dX13_feed_33 (by decide) (fun _ => ?_) (fun h_91 => absurd (by decide) h_91)
  refine lv_iload hx hb dX13_feed_40 (lv_at hl 0 rfl) ?_
  refine lv_bipush (v := 8) hx hb dX13_feed_42 (by decide) ?_
  refine lv_icmp_ge (tgt := 51) hx hb dX13_feed_44 (by decide) (fun _ => ?_) (fun h_92 => absurd (by decide) h_92)
  refine lv_iload hx hb dX13_feed_51 (lv_at hl 0 rfl) ?_
  refine lv_bipush (v := 12) hx hb dX13_feed_53 (by decide) ?_
  refine lv_icmp_ge (tgt := 62) hx hb dX13_feed_55 (by decide) (fun h_93 => absurd h_93 (by decide)) (fun _ => ?_)
  refine lv_iload_n hx hb dX13_feed_58 rfl (lv_at hl 5 rfl) ?_
  refine lv_goto (tgt := 76) hx hb dX13_feed_59 (by decide) ?_
  refine lv_istore (lv' := [(7, .int p3), (6, .int 9), (0, .ref h0), (1, .int p1), (2, .int p2), (3, .int p3), (4, .int p4), (5, .int p5)]) hx hb dX13_feed_76 hl (by decide) rfl (fun ls hl => ?_)
  refine lv_aload_n hx hb dX13_feed_78 rfl (lv_at hl 2 rfl) ?_
  refine r_get X kcX13 (ci := 12) rfl hP 0 rfl 5 (by decide) fX13_13 rfl dX13_feed_79 ?_
  refine lv_aload_n hx hb dX13_feed_82 rfl (lv_at hl 2 rfl) ?_
  refine r_get X kcX13 (ci := 12) rfl hP 0 rfl 6 (by decide) fX13_262 rfl dX13_feed_83 ?_
  refine lv_iload hx hb dX13_feed_86 (lv_at hl 0 rfl) ?_
  refine lv_bipush (v := 24) hx hb dX13_feed_88 (by decide) ?_
  refine lv_bipush (v := 8) hx hb dX13_feed_90 (by decide) ?_
  refine lv_iload hx hb dX13_feed_92 (lv_at hl 1 rfl) ?_
  refine lv_iconst (v := 4) hx hb dX13_feed_94 (by decide) ?_
  refine lv_irem hx hb dX13_feed_95 (by decide) ?_
  refine lv_topi (fun x_94 ex_94 => ?_)
  have ex_94 : x_94 = 1 := ex_94.trans (by decide)
  subst ex_94
  refine lv_imul hx hb dX13_feed_96 ?_
  refine lv_topi (fun x_95 ex_95 => ?_)
  have ex_95 : x_95 = 8 := ex_95.trans (by decide)
  subst ex_95
  refine lv_isub hx hb dX13_feed_97 ?_
  refine lv_topi (fun x_96 ex_96 => ?_)
  have ex_96 : x_96 = 16 := ex_96.trans (by decide)
  subst ex_96
  refine lv_ishr hx hb dX13_feed_98 ?_
  refine lv_topi (fun x_97 ex_97 => ?_)
  obtain ⟨x_98, ex_98⟩ : ∃ y : Int32, x_97.toInt8.toInt32 = y := ⟨_, rfl⟩
  refine lv_i2b hx hb dX13_feed_99 ex_98 ?_
  refine va_bast (D := (dC, dI)) (cl := vwCl) hx hb hK hP hD hS 1 0 rfl rfl (i := 9) (by unfold vp_in; decide) dX13_feed_100 (fun H locs hP hD hS => ?_)
  generalize upd f_88 (Int32.toNatClampNeg 9) (vp_nar .byte x_98) = f_99 at hP hD
  have hP : va_P (dC, dI) vwCl [(h0, .inr (12, [.int 0, .int g1, .int g2, g3, g4, .ref tp, .int 9, .int g7, .int g8, .int g9, .int g10, .int g11, .int g12, .int g13, .int g14, .long g15, g16, g17, g18, g19, .int g20, .int g21, g22, g23, g24, .int g25, g26, .int g27, .int g28, .int g29, .int g30])), (tp, .inl (cy 0, 800, .inl f_99))] H := hP
  have hD : va_D A [(h0, .inr (12, [.int 0, .int g1, .int g2, g3, g4, .ref tp, .int 9, .int g7, .int g8, .int g9, .int g10, .int g11, .int g12, .int g13, .int g14, .long g15, g16, g17, g18, g19, .int g20, .int g21, g22, g23, g24, .int g25, g26, .int g27, .int g28, .int g29, .int g30])), (tp, .inl (cy 0, 800, .inl f_99))] := hD
  refine lv_aload_n hx hb dX13_feed_101 rfl (lv_at hl 2 rfl) ?_
  refine lv_dup hx hb dX13_feed_102 rfl ?_
  refine r_get X kcX13 (ci := 12) rfl hP 0 rfl 6 (by decide) fX13_262 rfl dX13_feed_103 ?_
  refine lv_iconst (v := 1) hx hb dX13_feed_106 (by decide) ?_
  refine lv_iadd hx hb dX13_feed_107 ?_
  refine lv_topi (fun x_100 ex_100 => ?_)
  have ex_100 : x_100 = 10 := ex_100.trans (by decide)
  subst ex_100
  refine r_put X kcX13 (ci := 12) rfl hP hD hS 0 rfl 6 (by decide) fX13_262 rfl rfl rfl (Nat.le_of_ble_eq_true rfl) dX13_feed_108 (fun H locs hP hD hS => ?_)
  have hP : va_P (dC, dI) vwCl [(h0, .inr (12, [.int 0, .int g1, .int g2, g3, g4, .ref tp, .int 10, .int g7, .int g8, .int g9, .int g10, .int g11, .int g12, .int g13, .int g14, .long g15, g16, g17, g18, g19, .int g20, .int g21, g22, g23, g24, .int g25, g26, .int g27, .int g28, .int g29, .int g30])), (tp, .inl (cy 0, 800, .inl f_99))] H := hP
  have hD : va_D A [(h0, .inr (12, [.int 0, .int g1, .int g2, g3, g4, .ref tp, .int 10, .int g7, .int g8, .int g9, .int g10, .int g11, .int g12, .int g13, .int g14, .long g15, g16, g17, g18, g19, .int g20, .int g21, g22, g23, g24, .int g25, g26, .int g27, .int g28, .int g29, .int g30])), (tp, .inl (cy 0, 800, .inl f_99))] := hD
  refine lv_iinc (v := 10) (lv' := [(6, .int 10), (7, .int p3), (0, .ref h0), (1, .int p1), (2, .int p2), (3, .int p3), (4, .int p4), (5, .int p5)]) hx hb dX13_feed_111 hl (k := 1) rfl (by decide) (by decide) rfl (fun ls hl => ?_)
  refine lv_goto (tgt := 23) hx hb dX13_feed_114 (by decide) ?_
  refine lv_iload hx hb dX13_feed_23 (lv_at hl 0 rfl) ?_
  refine lv_bipush (v := 20) hx hb dX13_feed_25 (by decide) ?_
  refine lv_icmp_ge (tgt := 117) hx hb dX13_feed_27 (by decide) (fun h_101 => absurd h_101 (by decide)) (fun _ => ?_)
  refine lv_iload hx hb dX13_feed_30 (lv_at hl 0 rfl) ?_
  refine lv_iconst (v := 4) hx hb dX13_feed_32 (by decide) ?_
  refine lv_icmp_ge (tgt := 40) hx hb dX13_feed_33 (by decide) (fun _ => ?_) (fun h_102 => absurd (by decide) h_102)
  refine lv_iload hx hb dX13_feed_40 (lv_at hl 0 rfl) ?_
  refine lv_bipush (v := 8) hx hb dX13_feed_42 (by decide) ?_
  refine lv_icmp_ge (tgt := 51) hx hb dX13_feed_44 (by decide) (fun _ => ?_) (fun h_103 => absurd (by decide) h_103)
  refine lv_iload hx hb dX13_feed_51 (lv_at hl 0 rfl) ?_
  refine lv_bipush (v := 12) hx hb dX13_feed_53 (by decide) ?_
  refine lv_icmp_ge (tgt := 62) hx hb dX13_feed_55 (by decide) (fun h_104 => absurd h_104 (by decide)) (fun _ => ?_)
  refine lv_iload_n hx hb dX13_feed_58 rfl (lv_at hl 5 rfl) ?_
  refine lv_goto (tgt := 76) hx hb dX13_feed_59 (by decide) ?_
  refine lv_istore (lv' := [(7, .int p3), (6, .int 10), (0, .ref h0), (1, .int p1), (2, .int p2), (3, .int p3), (4, .int p4), (5, .int p5)]) hx hb dX13_feed_76 hl (by decide) rfl (fun ls hl => ?_)
  refine lv_aload_n hx hb dX13_feed_78 rfl (lv_at hl 2 rfl) ?_
  refine r_get X kcX13 (ci := 12) rfl hP 0 rfl 5 (by decide) fX13_13 rfl dX13_feed_79 ?_
  refine lv_aload_n hx hb dX13_feed_82 rfl (lv_at hl 2 rfl) ?_
  refine r_get X kcX13 (ci := 12) rfl hP 0 rfl 6 (by decide) fX13_262 rfl dX13_feed_83 ?_
  refine lv_iload hx hb dX13_feed_86 (lv_at hl 0 rfl) ?_
  refine lv_bipush (v := 24) hx hb dX13_feed_88 (by decide) ?_
  refine lv_bipush (v := 8) hx hb dX13_feed_90 (by decide) ?_
  refine lv_iload hx hb dX13_feed_92 (lv_at hl 1 rfl) ?_
  refine lv_iconst (v := 4) hx hb dX13_feed_94 (by decide) ?_
  refine lv_irem hx hb dX13_feed_95 (by decide) ?_
  refine lv_topi (fun x_105 ex_105 => ?_)
  have ex_105 : x_105 = 2 := ex_105.trans (by decide)
  subst ex_105
  refine lv_imul hx hb dX13_feed_96 ?_
  refine lv_topi (fun x_106 ex_106 => ?_)
  have ex_106 : x_106 = 16 := ex_106.trans (by decide)
  subst ex_106
  refine lv_isub hx hb dX13_feed_97 ?_
  refine lv_topi (fun x_107 ex_107 => ?_)
  have ex_107 : x_107 = 8 := ex_107.trans (by decide)
  subst ex_107
  refine lv_ishr hx hb dX13_feed_98 ?_
  refine lv_topi (fun x_108 ex_108 => ?_)
  obtain ⟨x_109, ex_109⟩ : ∃ y : Int32, x_108.toInt8.toInt32 = y := ⟨_, rfl⟩
  refine lv_i2b hx hb dX13_feed_99 ex_109 ?_
  refine va_bast (D := (dC, dI)) (cl := vwCl) hx hb hK hP hD hS 1 0 rfl rfl (i := 10) (by unfold vp_in; decide) dX13_feed_100 (fun H locs hP hD hS => ?_)
  generalize upd f_99 (Int32.toNatClampNeg 10) (vp_nar .byte x_109) = f_110 at hP hD
  have hP : va_P (dC, dI) vwCl [(h0, .inr (12, [.int 0, .int g1, .int g2, g3, g4, .ref tp, .int 10, .int g7, .int g8, .int g9, .int g10, .int g11, .int g12, .int g13, .int g14, .long g15, g16, g17, g18, g19, .int g20, .int g21, g22, g23, g24, .int g25, g26, .int g27, .int g28, .int g29, .int g30])), (tp, .inl (cy 0, 800, .inl f_110))] H := hP
  have hD : va_D A [(h0, .inr (12, [.int 0, .int g1, .int g2, g3, g4, .ref tp, .int 10, .int g7, .int g8, .int g9, .int g10, .int g11, .int g12, .int g13, .int g14, .long g15, g16, g17, g18, g19, .int g20, .int g21, g22, g23, g24, .int g25, g26, .int g27, .int g28, .int g29, .int g30])), (tp, .inl (cy 0, 800, .inl f_110))] := hD
  refine lv_aload_n hx hb dX13_feed_101 rfl (lv_at hl 2 rfl) ?_
  refine lv_dup hx hb dX13_feed_102 rfl ?_
  refine r_get X kcX13 (ci := 12) rfl hP 0 rfl 6 (by decide) fX13_262 rfl dX13_feed_103 ?_
  refine lv_iconst (v := 1) hx hb dX13_feed_106 (by decide) ?_
  refine lv_iadd hx hb dX13_feed_107 ?_
  refine lv_topi (fun x_111 ex_111 => ?_)
  have ex_111 : x_111 = 11 := ex_111.trans (by decide)
  subst ex_111
  refine r_put X kcX13 (ci := 12) rfl hP hD hS 0 rfl 6 (by decide) fX13_262 rfl rfl rfl (Nat.le_of_ble_eq_true rfl) dX13_feed_108 (fun H locs hP hD hS => ?_)
  have hP : va_P (dC, dI) vwCl [(h0, .inr (12, [.int 0, .int g1, .int g2, g3, g4, .ref tp, .int 11, .int g7, .int g8, .int g9, .int g10, .int g11, .int g12, .int g13, .int g14, .long g15, g16, g17, g18, g19, .int g20, .int g21, g22, g23, g24, .int g25, g26, .int g27, .int g28, .int g29, .int g30])), (tp, .inl (cy 0, 800, .inl f_110))] H := hP
  have hD : va_D A [(h0, .inr (12, [.int 0, .int g1, .int g2, g3, g4, .ref tp, .int 11, .int g7, .int g8, .int g9, .int g10, .int g11, .int g12, .int g13, .int g14, .long g15, g16, g17, g18, g19, .int g20, .int g21, g22, g23, g24, .int g25, g26, .int g27, .int g28, .int g29, .int g30])), (tp, .inl (cy 0, 800, .inl f_110))] := hD
  refine lv_iinc (v := 11) (lv' := [(6, .int 11), (7, .int p3), (0, .ref h0), (1, .int p1), (2, .int p2), (3, .int p3), (4, .int p4), (5, .int p5)]) hx hb dX13_feed_111 hl (k := 1) rfl (by decide) (by decide) rfl (fun ls hl => ?_)
  refine lv_goto (tgt := 23) hx hb dX13_feed_114 (by decide) ?_
  refine lv_iload hx hb dX13_feed_23 (lv_at hl 0 rfl) ?_
  refine lv_bipush (v := 20) hx hb dX13_feed_25 (by decide) ?_
  refine lv_icmp_ge (tgt := 117) hx hb dX13_feed_27 (by decide) (fun h_112 => absurd h_112 (by decide)) (fun _ => ?_)
  refine lv_iload hx hb dX13_feed_30 (lv_at hl 0 rfl) ?_
  refine lv_iconst (v := 4) hx hb dX13_feed_32 (by decide) ?_
  refine lv_icmp_ge (tgt := 40) hx hb dX13_feed_33 (by decide) (fun _ => ?_) (fun h_113 => absurd (by decide) h_113)
  refine lv_iload hx hb dX13_feed_40 (lv_at hl 0 rfl) ?_
  refine lv_bipush (v := 8) hx hb dX13_feed_42 (by decide) ?_
  refine lv_icmp_ge (tgt := 51) hx hb dX13_feed_44 (by decide) (fun _ => ?_) (fun h_114 => absurd (by decide) h_114)
  refine lv_iload hx hb dX13_feed_51 (lv_at hl 0 rfl) ?_
  refine lv_bipush (v := 12) hx hb dX13_feed_53 (by decide) ?_
  refine lv_icmp_ge (tgt := 62) hx hb dX13_feed_55 (by decide) (fun h_115 => absurd h_115 (by decide)) (fun _ => ?_)
  refine lv_iload_n hx hb dX13_feed_58 rfl (lv_at hl 5 rfl) ?_
  refine lv_goto (tgt := 76) hx hb dX13_feed_59 (by decide) ?_
  refine lv_istore (lv' := [(7, .int p3), (6, .int 11), (0, .ref h0), (1, .int p1), (2, .int p2), (3, .int p3), (4, .int p4), (5, .int p5)]) hx hb dX13_feed_76 hl (by decide) rfl (fun ls hl => ?_)
  refine lv_aload_n hx hb dX13_feed_78 rfl (lv_at hl 2 rfl) ?_
  refine r_get X kcX13 (ci := 12) rfl hP 0 rfl 5 (by decide) fX13_13 rfl dX13_feed_79 ?_
  refine lv_aload_n hx hb dX13_feed_82 rfl (lv_at hl 2 rfl) ?_
  refine r_get X kcX13 (ci := 12) rfl hP 0 rfl 6 (by decide) fX13_262 rfl dX13_feed_83 ?_
  refine lv_iload hx hb dX13_feed_86 (lv_at hl 0 rfl) ?_
  refine lv_bipush (v := 24) hx hb dX13_feed_88 (by decide) ?_
  refine lv_bipush (v := 8) hx hb dX13_feed_90 (by decide) ?_
  refine lv_iload hx hb dX13_feed_92 (lv_at hl 1 rfl) ?_
  refine lv_iconst (v := 4) hx hb dX13_feed_94 (by decide) ?_
  refine lv_irem hx hb dX13_feed_95 (by decide) ?_
  refine lv_topi (fun x_116 ex_116 => ?_)
  have ex_116 : x_116 = 3 := ex_116.trans (by decide)
  subst ex_116
  refine lv_imul hx hb dX13_feed_96 ?_
  refine lv_topi (fun x_117 ex_117 => ?_)
  have ex_117 : x_117 = 24 := ex_117.trans (by decide)
  subst ex_117
  refine lv_isub hx hb dX13_feed_97 ?_
  refine lv_topi (fun x_118 ex_118 => ?_)
  have ex_118 : x_118 = 0 := ex_118.trans (by decide)
  subst ex_118
  refine lv_ishr hx hb dX13_feed_98 ?_
  refine lv_topi (fun x_119 ex_119 => ?_)
  obtain ⟨x_120, ex_120⟩ : ∃ y : Int32, x_119.toInt8.toInt32 = y := ⟨_, rfl⟩
  refine lv_i2b hx hb dX13_feed_99 ex_120 ?_
  refine va_bast (D := (dC, dI)) (cl := vwCl) hx hb hK hP hD hS 1 0 rfl rfl (i := 11) (by unfold vp_in; decide) dX13_feed_100 (fun H locs hP hD hS => ?_)
  generalize upd f_110 (Int32.toNatClampNeg 11) (vp_nar .byte x_120) = f_121 at hP hD
  have hP : va_P (dC, dI) vwCl [(h0, .inr (12, [.int 0, .int g1, .int g2, g3, g4, .ref tp, .int 11, .int g7, .int g8, .int g9, .int g10, .int g11, .int g12, .int g13, .int g14, .long g15, g16, g17, g18, g19, .int g20, .int g21, g22, g23, g24, .int g25, g26, .int g27, .int g28, .int g29, .int g30])), (tp, .inl (cy 0, 800, .inl f_121))] H := hP
  have hD : va_D A [(h0, .inr (12, [.int 0, .int g1, .int g2, g3, g4, .ref tp, .int 11, .int g7, .int g8, .int g9, .int g10, .int g11, .int g12, .int g13, .int g14, .long g15, g16, g17, g18, g19, .int g20, .int g21, g22, g23, g24, .int g25, g26, .int g27, .int g28, .int g29, .int g30])), (tp, .inl (cy 0, 800, .inl f_121))] := hD
  refine lv_aload_n hx hb dX13_feed_101 rfl (lv_at hl 2 rfl) ?_
  refine lv_dup hx hb dX13_feed_102 rfl ?_
  refine r_get X kcX13 (ci := 12) rfl hP 0 rfl 6 (by decide) fX13_262 rfl dX13_feed_103 ?_
  refine lv_iconst (v := 1) hx hb dX13_feed_106 (by decide) ?_
  refine lv_iadd hx hb dX13_feed_107 ?_
  refine lv_topi (fun x_122 ex_122 => ?_)
  have ex_122 : x_122 = 12 := ex_122.trans (by decide)
  subst ex_122
  refine r_put X kcX13 (ci := 12) rfl hP hD hS 0 rfl 6 (by decide) fX13_262 rfl rfl rfl (Nat.le_of_ble_eq_true rfl) dX13_feed_108 (fun H locs hP hD hS => ?_)
  have hP : va_P (dC, dI) vwCl [(h0, .inr (12, [.int 0, .int g1, .int g2, g3, g4, .ref tp, .int 12, .int g7, .int g8, .int g9, .int g10, .int g11, .int g12, .int g13, .int g14, .long g15, g16, g17, g18, g19, .int g20, .int g21, g22, g23, g24, .int g25, g26, .int g27, .int g28, .int g29, .int g30])), (tp, .inl (cy 0, 800, .inl f_121))] H := hP
  have hD : va_D A [(h0, .inr (12, [.int 0, .int g1, .int g2, g3, g4, .ref tp, .int 12, .int g7, .int g8, .int g9, .int g10, .int g11, .int g12, .int g13, .int g14, .long g15, g16, g17, g18, g19, .int g20, .int g21, g22, g23, g24, .int g25, g26, .int g27, .int g28, .int g29, .int g30])), (tp, .inl (cy 0, 800, .inl f_121))] := hD
  refine lv_iinc (v := 12) (lv' := [(6, .int 12), (7, .int p3), (0, .ref h0), (1, .int p1), (2, .int p2), (3, .int p3), (4, .int p4), (5, .int p5)]) hx hb dX13_feed_111 hl (k := 1) rfl (by decide) (by decide) rfl (fun ls hl => ?_)
  refine lv_goto (tgt := 23) hx hb dX13_feed_114 (by decide) ?_
  refine lv_iload hx hb dX13_feed_23 (lv_at hl 0 rfl) ?_
  refine lv_bipush (v := 20) hx hb dX13_feed_25 (by decide) ?_
  refine lv_icmp_ge (tgt := 117) hx hb dX13_feed_27 (by decide) (fun h_123 => absurd h_123 (by decide)) (fun _ => ?_)
  refine lv_iload hx hb dX13_feed_30 (lv_at hl 0 rfl) ?_
  refine lv_iconst (v := 4) hx hb dX13_feed_32 (by decide) ?_
  refine lv_icmp_ge (tgt := 40) hx hb dX13_feed_33 (by decide) (fun _ => ?_) (fun h_124 => absurd (by decide) h_124)
  refine lv_iload hx hb dX13_feed_40 (lv_at hl 0 rfl) ?_
  refine lv_bipush (v := 8) hx hb dX13_feed_42 (by decide) ?_
  refine lv_icmp_ge (tgt := 51) hx hb dX13_feed_44 (by decide) (fun _ => ?_) (fun h_125 => absurd (by decide) h_125)
  refine lv_iload hx hb dX13_feed_51 (lv_at hl 0 rfl) ?_
  refine lv_bipush (v := 12) hx hb dX13_feed_53 (by decide) ?_
  refine lv_icmp_ge (tgt := 62) hx hb dX13_feed_55 (by decide) (fun _ => ?_) (fun h_126 => absurd (by decide) h_126)
  refine lv_iload hx hb dX13_feed_62 (lv_at hl 0 rfl) ?_
  refine lv_bipush (v := 16) hx hb dX13_feed_64 (by decide) ?_
  refine lv_icmp_ge (tgt := 74) hx hb dX13_feed_66 (by decide) (fun h_127 => absurd h_127 (by decide)) (fun _ => ?_)
  refine lv_iload hx hb dX13_feed_69 (lv_at hl 6 rfl) ?_
  refine lv_goto (tgt := 76) hx hb dX13_feed_71 (by decide) ?_
  refine lv_istore (lv' := [(7, .int p4), (6, .int 12), (0, .ref h0), (1, .int p1), (2, .int p2), (3, .int p3), (4, .int p4), (5, .int p5)]) hx hb dX13_feed_76 hl (by decide) rfl (fun ls hl => ?_)
  refine lv_aload_n hx hb dX13_feed_78 rfl (lv_at hl 2 rfl) ?_
  refine r_get X kcX13 (ci := 12) rfl hP 0 rfl 5 (by decide) fX13_13 rfl dX13_feed_79 ?_
  refine lv_aload_n hx hb dX13_feed_82 rfl (lv_at hl 2 rfl) ?_
  refine r_get X kcX13 (ci := 12) rfl hP 0 rfl 6 (by decide) fX13_262 rfl dX13_feed_83 ?_
  refine lv_iload hx hb dX13_feed_86 (lv_at hl 0 rfl) ?_
  refine lv_bipush (v := 24) hx hb dX13_feed_88 (by decide) ?_
  refine lv_bipush (v := 8) hx hb dX13_feed_90 (by decide) ?_
  refine lv_iload hx hb dX13_feed_92 (lv_at hl 1 rfl) ?_
  refine lv_iconst (v := 4) hx hb dX13_feed_94 (by decide) ?_
  refine lv_irem hx hb dX13_feed_95 (by decide) ?_
  refine lv_topi (fun x_128 ex_128 => ?_)
  have ex_128 : x_128 = 0 := ex_128.trans (by decide)
  subst ex_128
  refine lv_imul hx hb dX13_feed_96 ?_
  refine lv_topi (fun x_129 ex_129 => ?_)
  have ex_129 : x_129 = 0 := ex_129.trans (by decide)
  subst ex_129
  refine lv_isub hx hb dX13_feed_97 ?_
  refine lv_topi (fun x_130 ex_130 => ?_)
  have ex_130 : x_130 = 24 := ex_130.trans (by decide)
  subst ex_130
  refine lv_ishr hx hb dX13_feed_98 ?_
  refine lv_topi (fun x_131 ex_131 => ?_)
  obtain ⟨x_132, ex_132⟩ : ∃ y : Int32, x_131.toInt8.toInt32 = y := ⟨_, rfl⟩
  refine lv_i2b hx hb dX13_feed_99 ex_132 ?_
  refine va_bast (D := (dC, dI)) (cl := vwCl) hx hb hK hP hD hS 1 0 rfl rfl (i := 12) (by unfold vp_in; decide) dX13_feed_100 (fun H locs hP hD hS => ?_)
  generalize upd f_121 (Int32.toNatClampNeg 12) (vp_nar .byte x_132) = f_133 at hP hD
  have hP : va_P (dC, dI) vwCl [(h0, .inr (12, [.int 0, .int g1, .int g2, g3, g4, .ref tp, .int 12, .int g7, .int g8, .int g9, .int g10, .int g11, .int g12, .int g13, .int g14, .long g15, g16, g17, g18, g19, .int g20, .int g21, g22, g23, g24, .int g25, g26, .int g27, .int g28, .int g29, .int g30])), (tp, .inl (cy 0, 800, .inl f_133))] H := hP
  have hD : va_D A [(h0, .inr (12, [.int 0, .int g1, .int g2, g3, g4, .ref tp, .int 12, .int g7, .int g8, .int g9, .int g10, .int g11, .int g12, .int g13, .int g14, .long g15, g16, g17, g18, g19, .int g20, .int g21, g22, g23, g24, .int g25, g26, .int g27, .int g28, .int g29, .int g30])), (tp, .inl (cy 0, 800, .inl f_133))] := hD
  refine lv_aload_n hx hb dX13_feed_101 rfl (lv_at hl 2 rfl) ?_
  refine lv_dup hx hb dX13_feed_102 rfl ?_
  refine r_get X kcX13 (ci := 12) rfl hP 0 rfl 6 (by decide) fX13_262 rfl dX13_feed_103 ?_
  refine lv_iconst (v := 1) hx hb dX13_feed_106 (by decide) ?_
  refine lv_iadd hx hb dX13_feed_107 ?_
  refine lv_topi (fun x_134 ex_134 => ?_)
  have ex_134 : x_134 = 13 := ex_134.trans (by decide)
  subst ex_134
  refine r_put X kcX13 (ci := 12) rfl hP hD hS 0 rfl 6 (by decide) fX13_262 rfl rfl rfl (Nat.le_of_ble_eq_true rfl) dX13_feed_108 (fun H locs hP hD hS => ?_)
  have hP : va_P (dC, dI) vwCl [(h0, .inr (12, [.int 0, .int g1, .int g2, g3, g4, .ref tp, .int 13, .int g7, .int g8, .int g9, .int g10, .int g11, .int g12, .int g13, .int g14, .long g15, g16, g17, g18, g19, .int g20, .int g21, g22, g23, g24, .int g25, g26, .int g27, .int g28, .int g29, .int g30])), (tp, .inl (cy 0, 800, .inl f_133))] H := hP
  have hD : va_D A [(h0, .inr (12, [.int 0, .int g1, .int g2, g3, g4, .ref tp, .int 13, .int g7, .int g8, .int g9, .int g10, .int g11, .int g12, .int g13, .int g14, .long g15, g16, g17, g18, g19, .int g20, .int g21, g22, g23, g24, .int g25, g26, .int g27, .int g28, .int g29, .int g30])), (tp, .inl (cy 0, 800, .inl f_133))] := hD
  refine lv_iinc (v := 13) (lv' := [(6, .int 13), (7, .int p4), (0, .ref h0), (1, .int p1), (2, .int p2), (3, .int p3), (4, .int p4), (5, .int p5)]) hx hb dX13_feed_111 hl (k := 1) rfl (by decide) (by decide) rfl (fun ls hl => ?_)
  refine lv_goto (tgt := 23) hx hb dX13_feed_114 (by decide) ?_
  refine lv_iload hx hb dX13_feed_23 (lv_at hl 0 rfl) ?_
  refine lv_bipush (v := 20) hx hb dX13_feed_25 (by decide) ?_
  refine lv_icmp_ge (tgt := 117) hx hb dX13_feed_27 (by decide) (fun h_135 => absurd h_135 (by decide)) (fun _ => ?_)
  refine lv_iload hx hb dX13_feed_30 (lv_at hl 0 rfl) ?_
  refine lv_iconst (v := 4) hx hb dX13_feed_32 (by decide) ?_
  refine lv_icmp_ge (tgt := 40) hx hb dX13_feed_33 (by decide) (fun _ => ?_) (fun h_136 => absurd (by decide) h_136)
  refine lv_iload hx hb dX13_feed_40 (lv_at hl 0 rfl) ?_
  refine lv_bipush (v := 8) hx hb dX13_feed_42 (by decide) ?_
  refine lv_icmp_ge (tgt := 51) hx hb dX13_feed_44 (by decide) (fun _ => ?_) (fun h_137 => absurd (by decide) h_137)
  refine lv_iload hx hb dX13_feed_51 (lv_at hl 0 rfl) ?_
  refine lv_bipush (v := 12) hx hb dX13_feed_53 (by decide) ?_
  refine lv_icmp_ge (tgt := 62) hx hb dX13_feed_55 (by decide) (fun _ => ?_) (fun h_138 => absurd (by decide) h_138)
  refine lv_iload hx hb dX13_feed_62 (lv_at hl 0 rfl) ?_
  refine lv_bipush (v := 16) hx hb dX13_feed_64 (by decide) ?_
  refine lv_icmp_ge (tgt := 74) hx hb dX13_feed_66 (by decide) (fun h_139 => absurd h_139 (by decide)) (fun _ => ?_)
  refine lv_iload hx hb dX13_feed_69 (lv_at hl 6 rfl) ?_
  refine lv_goto (tgt := 76) hx hb dX13_feed_71 (by decide) ?_
  refine lv_istore (lv' := [(7, .int p4), (6, .int 13), (0, .ref h0), (1, .int p1), (2, .int p2), (3, .int p3), (4, .int p4), (5, .int p5)]) hx hb dX13_feed_76 hl (by decide) rfl (fun ls hl => ?_)
  refine lv_aload_n hx hb dX13_feed_78 rfl (lv_at hl 2 rfl) ?_
  refine r_get X kcX13 (ci := 12) rfl hP 0 rfl 5 (by decide) fX13_13 rfl dX13_feed_79 ?_
  refine lv_aload_n hx hb dX13_feed_82 rfl (lv_at hl 2 rfl) ?_
  refine r_get X kcX13 (ci := 12) rfl hP 0 rfl 6 (by decide) fX13_262 rfl dX13_feed_83 ?_
  refine lv_iload hx hb dX13_feed_86 (lv_at hl 0 rfl) ?_
  refine lv_bipush (v := 24) hx hb dX13_feed_88 (by decide) ?_
  refine lv_bipush (v := 8) hx hb dX13_feed_90 (by decide) ?_
  refine lv_iload hx hb dX13_feed_92 (lv_at hl 1 rfl) ?_
  refine lv_iconst (v := 4) hx hb dX13_feed_94 (by decide) ?_
  refine lv_irem hx hb dX13_feed_95 (by decide) ?_
  refine lv_topi (fun x_140 ex_140 => ?_)
  have ex_140 : x_140 = 1 := ex_140.trans (by decide)
  subst ex_140
  refine lv_imul hx hb dX13_feed_96 ?_
  refine lv_topi (fun x_141 ex_141 => ?_)
  have ex_141 : x_141 = 8 := ex_141.trans (by decide)
  subst ex_141
  refine lv_isub hx hb dX13_feed_97 ?_
  refine lv_topi (fun x_142 ex_142 => ?_)
  have ex_142 : x_142 = 16 := ex_142.trans (by decide)
  subst ex_142
  refine lv_ishr hx hb dX13_feed_98 ?_
  refine lv_topi (fun x_143 ex_143 => ?_)
  obtain ⟨x_144, ex_144⟩ : ∃ y : Int32, x_143.toInt8.toInt32 = y := ⟨_, rfl⟩
  refine lv_i2b hx hb dX13_feed_99 ex_144 ?_
  refine va_bast (D := (dC, dI)) (cl := vwCl) hx hb hK hP hD hS 1 0 rfl rfl (i := 13) (by unfold vp_in; decide) dX13_feed_100 (fun H locs hP hD hS => ?_)
  generalize upd f_133 (Int32.toNatClampNeg 13) (vp_nar .byte x_144) = f_145 at hP hD
  have hP : va_P (dC, dI) vwCl [(h0, .inr (12, [.int 0, .int g1, .int g2, g3, g4, .ref tp, .int 13, .int g7, .int g8, .int g9, .int g10, .int g11, .int g12, .int g13, .int g14, .long g15, g16, g17, g18, g19, .int g20, .int g21, g22, g23, g24, .int g25, g26, .int g27, .int g28, .int g29, .int g30])), (tp, .inl (cy 0, 800, .inl f_145))] H := hP
  have hD : va_D A [(h0, .inr (12, [.int 0, .int g1, .int g2, g3, g4, .ref tp, .int 13, .int g7, .int g8, .int g9, .int g10, .int g11, .int g12, .int g13, .int g14, .long g15, g16, g17, g18, g19, .int g20, .int g21, g22, g23, g24, .int g25, g26, .int g27, .int g28, .int g29, .int g30])), (tp, .inl (cy 0, 800, .inl f_145))] := hD
  refine lv_aload_n hx hb dX13_feed_101 rfl (lv_at hl 2 rfl) ?_
  refine lv_dup hx hb dX13_feed_102 rfl ?_
  refine r_get X kcX13 (ci := 12) rfl hP 0 rfl 6 (by decide) fX13_262 rfl dX13_feed_103 ?_
  refine lv_iconst (v := 1) hx hb dX13_feed_106 (by decide) ?_
  refine lv_iadd hx hb dX13_feed_107 ?_
  refine lv_topi (fun x_146 ex_146 => ?_)
  have ex_146 : x_146 = 14 := ex_146.trans (by decide)
  subst ex_146
  refine r_put X kcX13 (ci := 12) rfl hP hD hS 0 rfl 6 (by decide) fX13_262 rfl rfl rfl (Nat.le_of_ble_eq_true rfl) dX13_feed_108 (fun H locs hP hD hS => ?_)
  have hP : va_P (dC, dI) vwCl [(h0, .inr (12, [.int 0, .int g1, .int g2, g3, g4, .ref tp, .int 14, .int g7, .int g8, .int g9, .int g10, .int g11, .int g12, .int g13, .int g14, .long g15, g16, g17, g18, g19, .int g20, .int g21, g22, g23, g24, .int g25, g26, .int g27, .int g28, .int g29, .int g30])), (tp, .inl (cy 0, 800, .inl f_145))] H := hP
  have hD : va_D A [(h0, .inr (12, [.int 0, .int g1, .int g2, g3, g4, .ref tp, .int 14, .int g7, .int g8, .int g9, .int g10, .int g11, .int g12, .int g13, .int g14, .long g15, g16, g17, g18, g19, .int g20, .int g21, g22, g23, g24, .int g25, g26, .int g27, .int g28, .int g29, .int g30])), (tp, .inl (cy 0, 800, .inl f_145))] := hD
  refine lv_iinc (v := 14) (lv' := [(6, .int 14), (7, .int p4), (0, .ref h0), (1, .int p1), (2, .int p2), (3, .int p3), (4, .int p4), (5, .int p5)]) hx hb dX13_feed_111 hl (k := 1) rfl (by decide) (by decide) rfl (fun ls hl => ?_)
  refine lv_goto (tgt := 23) hx hb dX13_feed_114 (by decide) ?_
  refine lv_iload hx hb dX13_feed_23 (lv_at hl 0 rfl) ?_
  refine lv_bipush (v := 20) hx hb dX13_feed_25 (by decide) ?_
  refine lv_icmp_ge (tgt := 117) hx hb dX13_feed_27 (by decide) (fun h_147 => absurd h_147 (by decide)) (fun _ => ?_)
  refine lv_iload hx hb dX13_feed_30 (lv_at hl 0 rfl) ?_
  refine lv_iconst (v := 4) hx hb dX13_feed_32 (by decide) ?_
  refine lv_icmp_ge (tgt := 40) hx hb dX13_feed_33 (by decide) (fun _ => ?_) (fun h_148 => absurd (by decide) h_148)
  refine lv_iload hx hb dX13_feed_40 (lv_at hl 0 rfl) ?_
  refine lv_bipush (v := 8) hx hb dX13_feed_42 (by decide) ?_
  refine lv_icmp_ge (tgt := 51) hx hb dX13_feed_44 (by decide) (fun _ => ?_) (fun h_149 => absurd (by decide) h_149)
  refine lv_iload hx hb dX13_feed_51 (lv_at hl 0 rfl) ?_
  refine lv_bipush (v := 12) hx hb dX13_feed_53 (by decide) ?_
  refine lv_icmp_ge (tgt := 62) hx hb dX13_feed_55 (by decide) (fun _ => ?_) (fun h_150 => absurd (by decide) h_150)
  refine lv_iload hx hb dX13_feed_62 (lv_at hl 0 rfl) ?_
  refine lv_bipush (v := 16) hx hb dX13_feed_64 (by decide) ?_
  refine lv_icmp_ge (tgt := 74) hx hb dX13_feed_66 (by decide) (fun h_151 => absurd h_151 (by decide)) (fun _ => ?_)
  refine lv_iload hx hb dX13_feed_69 (lv_at hl 6 rfl) ?_
  refine lv_goto (tgt := 76) hx hb dX13_feed_71 (by decide) ?_
  refine lv_istore (lv' := [(7, .int p4), (6, .int 14), (0, .ref h0), (1, .int p1), (2, .int p2), (3, .int p3), (4, .int p4), (5, .int p5)]) hx hb dX13_feed_76 hl (by decide) rfl (fun ls hl => ?_)
  refine lv_aload_n hx hb dX13_feed_78 rfl (lv_at hl 2 rfl) ?_
  refine r_get X kcX13 (ci := 12) rfl hP 0 rfl 5 (by decide) fX13_13 rfl dX13_feed_79 ?_
  refine lv_aload_n hx hb dX13_feed_82 rfl (lv_at hl 2 rfl) ?_
  refine r_get X kcX13 (ci := 12) rfl hP 0 rfl 6 (by decide) fX13_262 rfl dX13_feed_83 ?_
  refine lv_iload hx hb dX13_feed_86 (lv_at hl 0 rfl) ?_
  refine lv_bipush (v := 24) hx hb dX13_feed_88 (by decide) ?_
  refine lv_bipush (v := 8) hx hb dX13_feed_90 (by decide) ?_
  refine lv_iload hx hb dX13_feed_92 (lv_at hl 1 rfl) ?_
  refine lv_iconst (v := 4) hx hb dX13_feed_94 (by decide) ?_
  refine lv_irem hx hb dX13_feed_95 (by decide) ?_
  refine lv_topi (fun x_152 ex_152 => ?_)
  have ex_152 : x_152 = 2 := ex_152.trans (by decide)
  subst ex_152
  refine lv_imul hx hb dX13_feed_96 ?_
  refine lv_topi (fun x_153 ex_153 => ?_)
  have ex_153 : x_153 = 16 := ex_153.trans (by decide)
  subst ex_153
  refine lv_isub hx hb dX13_feed_97 ?_
  refine lv_topi (fun x_154 ex_154 => ?_)
  have ex_154 : x_154 = 8 := ex_154.trans (by decide)
  subst ex_154
  refine lv_ishr hx hb dX13_feed_98 ?_
  refine lv_topi (fun x_155 ex_155 => ?_)
  obtain ⟨x_156, ex_156⟩ : ∃ y : Int32, x_155.toInt8.toInt32 = y := ⟨_, rfl⟩
  refine lv_i2b hx hb dX13_feed_99 ex_156 ?_
  refine va_bast (D := (dC, dI)) (cl := vwCl) hx hb hK hP hD hS 1 0 rfl rfl (i := 14) (by unfold vp_in; decide) dX13_feed_100 (fun H locs hP hD hS => ?_)
  generalize upd f_145 (Int32.toNatClampNeg 14) (vp_nar .byte x_156) = f_157 at hP hD
  have hP : va_P (dC, dI) vwCl [(h0, .inr (12, [.int 0, .int g1, .int g2, g3, g4, .ref tp, .int 14, .int g7, .int g8, .int g9, .int g10, .int g11, .int g12, .int g13, .int g14, .long g15, g16, g17, g18, g19, .int g20, .int g21, g22, g23, g24, .int g25, g26, .int g27, .int g28, .int g29, .int g30])), (tp, .inl (cy 0, 800, .inl f_157))] H := hP
  have hD : va_D A [(h0, .inr (12, [.int 0, .int g1, .int g2, g3, g4, .ref tp, .int 14, .int g7, .int g8, .int g9, .int g10, .int g11, .int g12, .int g13, .int g14, .long g15, g16, g17, g18, g19, .int g20, .int g21, g22, g23, g24, .int g25, g26, .int g27, .int g28, .int g29, .int g30])), (tp, .inl (cy 0, 800, .inl f_157))] := hD
  refine lv_aload_n hx hb dX13_feed_101 rfl (lv_at hl 2 rfl) ?_
  refine lv_dup hx hb dX13_feed_102 rfl ?_
  refine r_get X kcX13 (ci := 12) rfl hP 0 rfl 6 (by decide) fX13_262 rfl dX13_feed_103 ?_
  refine lv_iconst (v := 1) hx hb dX13_feed_106 (by decide) ?_
  refine lv_iadd hx hb dX13_feed_107 ?_
  refine lv_topi (fun x_158 ex_158 => ?_)
  have ex_158 : x_158 = 15 := ex_158.trans (by decide)
  subst ex_158
  refine r_put X kcX13 (ci := 12) rfl hP hD hS 0 rfl 6 (by decide) fX13_262 rfl rfl rfl (Nat.le_of_ble_eq_true rfl) dX13_feed_108 (fun H locs hP hD hS => ?_)
  have hP : va_P (dC, dI) vwCl [(h0, .inr (12, [.int 0, .int g1, .int g2, g3, g4, .ref tp, .int 15, .int g7, .int g8, .int g9, .int g10, .int g11, .int g12, .int g13, .int g14, .long g15, g16, g17, g18, g19, .int g20, .int g21, g22, g23, g24, .int g25, g26, .int g27, .int g28, .int g29, .int g30])), (tp, .inl (cy 0, 800, .inl f_157))] H := hP
  have hD : va_D A [(h0, .inr (12, [.int 0, .int g1, .int g2, g3, g4, .ref tp, .int 15, .int g7, .int g8, .int g9, .int g10, .int g11, .int g12, .int g13, .int g14, .long g15, g16, g17, g18, g19, .int g20, .int g21, g22, g23, g24, .int g25, g26, .int g27, .int g28, .int g29, .int g30])), (tp, .inl (cy 0, 800, .inl f_157))] := hD
  refine lv_iinc (v := 15) (lv' := [(6, .int 15), (7, .int p4), (0, .ref h0), (1, .int p1), (2, .int p2), (3, .int p3), (4, .int p4), (5, .int p5)]) hx hb dX13_feed_111 hl (k := 1) rfl (by decide) (by decide) rfl (fun ls hl => ?_)
  refine lv_goto (tgt := 23) hx hb dX13_feed_114 (by decide) ?_
  refine lv_iload hx hb dX13_feed_23 (lv_at hl 0 rfl) ?_
  refine lv_bipush (v := 20) hx hb dX13_feed_25 (by decide) ?_
  refine lv_icmp_ge (tgt := 117) hx hb dX13_feed_27 (by decide) (fun h_159 => absurd h_159 (by decide)) (fun _ => ?_)
  refine lv_iload hx hb dX13_feed_30 (lv_at hl 0 rfl) ?_
  refine lv_iconst (v := 4) hx hb dX13_feed_32 (by decide) ?_
  refine lv_icmp_ge (tgt := 40) hx hb dX13_feed_33 (by decide) (fun _ => ?_) (fun h_160 => absurd (by decide) h_160)
  refine lv_iload hx hb dX13_feed_40 (lv_at hl 0 rfl) ?_
  refine lv_bipush (v := 8) hx hb dX13_feed_42 (by decide) ?_
  refine lv_icmp_ge (tgt := 51) hx hb dX13_feed_44 (by decide) (fun _ => ?_) (fun h_161 => absurd (by decide) h_161)
  refine lv_iload hx hb dX13_feed_51 (lv_at hl 0 rfl) ?_
  refine lv_bipush (v := 12) hx hb dX13_feed_53 (by decide) ?_
  refine lv_icmp_ge (tgt := 62) hx hb dX13_feed_55 (by decide) (fun _ => ?_) (fun h_162 => absurd (by decide) h_162)
  refine lv_iload hx hb dX13_feed_62 (lv_at hl 0 rfl) ?_
  refine lv_bipush (v := 16) hx hb dX13_feed_64 (by decide) ?_
  refine lv_icmp_ge (tgt := 74) hx hb dX13_feed_66 (by decide) (fun h_163 => absurd h_163 (by decide)) (fun _ => ?_)
  refine lv_iload hx hb dX13_feed_69 (lv_at hl 6 rfl) ?_
  refine lv_goto (tgt := 76) hx hb dX13_feed_71 (by decide) ?_
  refine lv_istore (lv' := [(7, .int p4), (6, .int 15), (0, .ref h0), (1, .int p1), (2, .int p2), (3, .int p3), (4, .int p4), (5, .int p5)]) hx hb dX13_feed_76 hl (by decide) rfl (fun ls hl => ?_)
  refine lv_aload_n hx hb dX13_feed_78 rfl (lv_at hl 2 rfl) ?_
  refine r_get X kcX13 (ci := 12) rfl hP 0 rfl 5 (by decide) fX13_13 rfl dX13_feed_79 ?_
  refine lv_aload_n hx hb dX13_feed_82 rfl (lv_at hl 2 rfl) ?_
  refine r_get X kcX13 (ci := 12) rfl hP 0 rfl 6 (by decide) fX13_262 rfl dX13_feed_83 ?_
  refine lv_iload hx hb dX13_feed_86 (lv_at hl 0 rfl) ?_
  refine lv_bipush (v := 24) hx hb dX13_feed_88 (by decide) ?_
  refine lv_bipush (v := 8) hx hb dX13_feed_90 (by decide) ?_
  refine lv_iload hx hb dX13_feed_92 (lv_at hl 1 rfl) ?_
  refine lv_iconst (v := 4) hx hb dX13_feed_94 (by decide) ?_
  refine lv_irem hx hb dX13_feed_95 (by decide) ?_
  refine lv_topi (fun x_164 ex_164 => ?_)
  have ex_164 : x_164 = 3 := ex_164.trans (by decide)
  subst ex_164
  refine lv_imul hx hb dX13_feed_96 ?_
  refine lv_topi (fun x_165 ex_165 => ?_)
  have ex_165 : x_165 = 24 := ex_165.trans (by decide)
  subst ex_165
  refine lv_isub hx hb dX13_feed_97 ?_
  refine lv_topi (fun x_166 ex_166 => ?_)
  have ex_166 : x_166 = 0 := ex_166.trans (by decide)
  subst ex_166
  refine lv_ishr hx hb dX13_feed_98 ?_
  refine lv_topi (fun x_167 ex_167 => ?_)
  obtain ⟨x_168, ex_168⟩ : ∃ y : Int32, x_167.toInt8.toInt32 = y := ⟨_, rfl⟩
  refine lv_i2b hx hb dX13_feed_99 ex_168 ?_
  refine va_bast (D := (dC, dI)) (cl := vwCl) hx hb hK hP hD hS 1 0 rfl rfl (i := 15) (by unfold vp_in; decide) dX13_feed_100 (fun H locs hP hD hS => ?_)
  generalize upd f_157 (Int32.toNatClampNeg 15) (vp_nar .byte x_168) = f_169 at hP hD
  have hP : va_P (dC, dI) vwCl [(h0, .inr (12, [.int 0, .int g1, .int g2, g3, g4, .ref tp, .int 15, .int g7, .int g8, .int g9, .int g10, .int g11, .int g12, .int g13, .int g14, .long g15, g16, g17, g18, g19, .int g20, .int g21, g22, g23, g24, .int g25, g26, .int g27, .int g28, .int g29, .int g30])), (tp, .inl (cy 0, 800, .inl f_169))] H := hP
  have hD : va_D A [(h0, .inr (12, [.int 0, .int g1, .int g2, g3, g4, .ref tp, .int 15, .int g7, .int g8, .int g9, .int g10, .int g11, .int g12, .int g13, .int g14, .long g15, g16, g17, g18, g19, .int g20, .int g21, g22, g23, g24, .int g25, g26, .int g27, .int g28, .int g29, .int g30])), (tp, .inl (cy 0, 800, .inl f_169))] := hD
  refine lv_aload_n hx hb dX13_feed_101 rfl (lv_at hl 2 rfl) ?_
  refine lv_dup hx hb dX13_feed_102 rfl ?_
  refine r_get X kcX13 (ci := 12) rfl hP 0 rfl 6 (by decide) fX13_262 rfl dX13_feed_103 ?_
  refine lv_iconst (v := 1) hx hb dX13_feed_106 (by decide) ?_
  refine lv_iadd hx hb dX13_feed_107 ?_
  refine lv_topi (fun x_170 ex_170 => ?_)
  have ex_170 : x_170 = 16 := ex_170.trans (by decide)
  subst ex_170
  refine r_put X kcX13 (ci := 12) rfl hP hD hS 0 rfl 6 (by decide) fX13_262 rfl rfl rfl (Nat.le_of_ble_eq_true rfl) dX13_feed_108 (fun H locs hP hD hS => ?_)
  have hP : va_P (dC, dI) vwCl [(h0, .inr (12, [.int 0, .int g1, .int g2, g3, g4, .ref tp, .int 16, .int g7, .int g8, .int g9, .int g10, .int g11, .int g12, .int g13, .int g14, .long g15, g16, g17, g18, g19, .int g20, .int g21, g22, g23, g24, .int g25, g26, .int g27, .int g28, .int g29, .int g30])), (tp, .inl (cy 0, 800, .inl f_169))] H := hP
  have hD : va_D A [(h0, .inr (12, [.int 0, .int g1, .int g2, g3, g4, .ref tp, .int 16, .int g7, .int g8, .int g9, .int g10, .int g11, .int g12, .int g13, .int g14, .long g15, g16, g17, g18, g19, .int g20, .int g21, g22, g23, g24, .int g25, g26, .int g27, .int g28, .int g29, .int g30])), (tp, .inl (cy 0, 800, .inl f_169))] := hD
  refine lv_iinc (v := 16) (lv' := [(6, .int 16), (7, .int p4), (0, .ref h0), (1, .int p1), (2, .int p2), (3, .int p3), (4, .int p4), (5, .int p5)]) hx hb dX13_feed_111 hl (k := 1) rfl (by decide) (by decide) rfl (fun ls hl => ?_)
  refine lv_goto (tgt := 23) hx hb dX13_feed_114 (by decide) ?_
  refine lv_iload hx hb dX13_feed_23 (lv_at hl 0 rfl) ?_
  refine lv_bipush (v := 20) hx hb dX13_feed_25 (by decide) ?_
  refine lv_icmp_ge (tgt := 117) hx hb dX13_feed_27 (by decide) (fun h_171 => absurd h_171 (by decide)) (fun _ => ?_)
  refine lv_iload hx hb dX13_feed_30 (lv_at hl 0 rfl) ?_
  refine lv_iconst (v := 4) hx hb dX13_feed_32 (by decide) ?_
  refine lv_icmp_ge (tgt := 40) hx hb dX13_feed_33 (by decide) (fun _ => ?_) (fun h_172 => absurd (by decide) h_172)
  refine lv_iload hx hb dX13_feed_40 (lv_at hl 0 rfl) ?_
  refine lv_bipush (v := 8) hx hb dX13_feed_42 (by decide) ?_
  refine lv_icmp_ge (tgt := 51) hx hb dX13_feed_44 (by decide) (fun _ => ?_) (fun h_173 => absurd (by decide) h_173)
  refine lv_iload hx hb dX13_feed_51 (lv_at hl 0 rfl) ?_
  refine lv_bipush (v := 12) hx hb dX13_feed_53 (by decide) ?_
  refine lv_icmp_ge (tgt := 62) hx hb dX13_feed_55 (by decide) (fun _ => ?_) (fun h_174 => absurd (by decide) h_174)
  refine lv_iload hx hb dX13_feed_62 (lv_at hl 0 rfl) ?_
  refine lv_bipush (v := 16) hx hb dX13_feed_64 (by decide) ?_
  refine lv_icmp_ge (tgt := 74) hx hb dX13_feed_66 (by decide) (fun _ => ?_) (fun h_175 => absurd (by decide) h_175)
  refine lv_iload hx hb dX13_feed_74 (lv_at hl 7 rfl) ?_
  refine lv_istore (lv' := [(7, .int p5), (6, .int 16), (0, .ref h0), (1, .int p1), (2, .int p2), (3, .int p3), (4, .int p4), (5, .int p5)]) hx hb dX13_feed_76 hl (by decide) rfl (fun ls hl => ?_)
  refine lv_aload_n hx hb dX13_feed_78 rfl (lv_at hl 2 rfl) ?_
  refine r_get X kcX13 (ci := 12) rfl hP 0 rfl 5 (by decide) fX13_13 rfl dX13_feed_79 ?_
  refine lv_aload_n hx hb dX13_feed_82 rfl (lv_at hl 2 rfl) ?_
  refine r_get X kcX13 (ci := 12) rfl hP 0 rfl 6 (by decide) fX13_262 rfl dX13_feed_83 ?_
  refine lv_iload hx hb dX13_feed_86 (lv_at hl 0 rfl) ?_
  refine lv_bipush (v := 24) hx hb dX13_feed_88 (by decide) ?_
  refine lv_bipush (v := 8) hx hb dX13_feed_90 (by decide) ?_
  refine lv_iload hx hb dX13_feed_92 (lv_at hl 1 rfl) ?_
  refine lv_iconst (v := 4) hx hb dX13_feed_94 (by decide) ?_
  refine lv_irem hx hb dX13_feed_95 (by decide) ?_
  refine lv_topi (fun x_176 ex_176 => ?_)
  have ex_176 : x_176 = 0 := ex_176.trans (by decide)
  subst ex_176
  refine lv_imul hx hb dX13_feed_96 ?_
  refine lv_topi (fun x_177 ex_177 => ?_)
  have ex_177 : x_177 = 0 := ex_177.trans (by decide)
  subst ex_177
  refine lv_isub hx hb dX13_feed_97 ?_
  refine lv_topi (fun x_178 ex_178 => ?_)
  have ex_178 : x_178 = 24 := ex_178.trans (by decide)
  subst ex_178
  refine lv_ishr hx hb dX13_feed_98 ?_
  refine lv_topi (fun x_179 ex_179 => ?_)
  obtain ⟨x_180, ex_180⟩ : ∃ y : Int32, x_179.toInt8.toInt32 = y := ⟨_, rfl⟩
  refine lv_i2b hx hb dX13_feed_99 ex_180 ?_
  refine va_bast (D := (dC, dI)) (cl := vwCl) hx hb hK hP hD hS 1 0 rfl rfl (i := 16) (by unfold vp_in; decide) dX13_feed_100 (fun H locs hP hD hS => ?_)
  generalize upd f_169 (Int32.toNatClampNeg 16) (vp_nar .byte x_180) = f_181 at hP hD
  have hP : va_P (dC, dI) vwCl [(h0, .inr (12, [.int 0, .int g1, .int g2, g3, g4, .ref tp, .int 16, .int g7, .int g8, .int g9, .int g10, .int g11, .int g12, .int g13, .int g14, .long g15, g16, g17, g18, g19, .int g20, .int g21, g22, g23, g24, .int g25, g26, .int g27, .int g28, .int g29, .int g30])), (tp, .inl (cy 0, 800, .inl f_181))] H := hP
  have hD : va_D A [(h0, .inr (12, [.int 0, .int g1, .int g2, g3, g4, .ref tp, .int 16, .int g7, .int g8, .int g9, .int g10, .int g11, .int g12, .int g13, .int g14, .long g15, g16, g17, g18, g19, .int g20, .int g21, g22, g23, g24, .int g25, g26, .int g27, .int g28, .int g29, .int g30])), (tp, .inl (cy 0, 800, .inl f_181))] := hD
  refine lv_aload_n hx hb dX13_feed_101 rfl (lv_at hl 2 rfl) ?_
  refine lv_dup hx hb dX13_feed_102 rfl ?_
  refine r_get X kcX13 (ci := 12) rfl hP 0 rfl 6 (by decide) fX13_262 rfl dX13_feed_103 ?_
  refine lv_iconst (v := 1) hx hb dX13_feed_106 (by decide) ?_
  refine lv_iadd hx hb dX13_feed_107 ?_
  refine lv_topi (fun x_182 ex_182 => ?_)
  have ex_182 : x_182 = 17 := ex_182.trans (by decide)
  subst ex_182
  refine r_put X kcX13 (ci := 12) rfl hP hD hS 0 rfl 6 (by decide) fX13_262 rfl rfl rfl (Nat.le_of_ble_eq_true rfl) dX13_feed_108 (fun H locs hP hD hS => ?_)
  have hP : va_P (dC, dI) vwCl [(h0, .inr (12, [.int 0, .int g1, .int g2, g3, g4, .ref tp, .int 17, .int g7, .int g8, .int g9, .int g10, .int g11, .int g12, .int g13, .int g14, .long g15, g16, g17, g18, g19, .int g20, .int g21, g22, g23, g24, .int g25, g26, .int g27, .int g28, .int g29, .int g30])), (tp, .inl (cy 0, 800, .inl f_181))] H := hP
  have hD : va_D A [(h0, .inr (12, [.int 0, .int g1, .int g2, g3, g4, .ref tp, .int 17, .int g7, .int g8, .int g9, .int g10, .int g11, .int g12, .int g13, .int g14, .long g15, g16, g17, g18, g19, .int g20, .int g21, g22, g23, g24, .int g25, g26, .int g27, .int g28, .int g29, .int g30])), (tp, .inl (cy 0, 800, .inl f_181))] := hD
  refine lv_iinc (v := 17) (lv' := [(6, .int 17), (7, .int p5), (0, .ref h0), (1, .int p1), (2, .int p2), (3, .int p3), (4, .int p4), (5, .int p5)]) hx hb dX13_feed_111 hl (k := 1) rfl (by decide) (by decide) rfl (fun ls hl => ?_)
  refine lv_goto (tgt := 23) hx hb dX13_feed_114 (by decide) ?_
  refine lv_iload hx hb dX13_feed_23 (lv_at hl 0 rfl) ?_
  refine lv_bipush (v := 20) hx hb dX13_feed_25 (by decide) ?_
  refine lv_icmp_ge (tgt := 117) hx hb dX13_feed_27 (by decide) (fun h_183 => absurd h_183 (by decide)) (fun _ => ?_)
  refine lv_iload hx hb dX13_feed_30 (lv_at hl 0 rfl) ?_
  refine lv_iconst (v := 4) hx hb dX13_feed_32 (by decide) ?_
  refine lv_icmp_ge (tgt := 40) hx hb dX13_feed_33 (by decide) (fun _ => ?_) (fun h_184 => absurd (by decide) h_184)
  refine lv_iload hx hb dX13_feed_40 (lv_at hl 0 rfl) ?_
  refine lv_bipush (v := 8) hx hb dX13_feed_42 (by decide) ?_
  refine lv_icmp_ge (tgt := 51) hx hb dX13_feed_44 (by decide) (fun _ => ?_) (fun h_185 => absurd (by decide) h_185)
  refine lv_iload hx hb dX13_feed_51 (lv_at hl 0 rfl) ?_
  refine lv_bipush (v := 12) hx hb dX13_feed_53 (by decide) ?_
  refine lv_icmp_ge (tgt := 62) hx hb dX13_feed_55 (by decide) (fun _ => ?_) (fun h_186 => absurd (by decide) h_186)
  refine lv_iload hx hb dX13_feed_62 (lv_at hl 0 rfl) ?_
  refine lv_bipush (v := 16) hx hb dX13_feed_64 (by decide) ?_
  refine lv_icmp_ge (tgt := 74) hx hb dX13_feed_66 (by decide) (fun _ => ?_) (fun h_187 => absurd (by decide) h_187)
  refine lv_iload hx hb dX13_feed_74 (lv_at hl 7 rfl) ?_
  refine lv_istore (lv' := [(7, .int p5), (6, .int 17), (0, .ref h0), (1, .int p1), (2, .int p2), (3, .int p3), (4, .int p4), (5, .int p5)]) hx hb dX13_feed_76 hl (by decide) rfl (fun ls hl => ?_)
  refine lv_aload_n hx hb dX13_feed_78 rfl (lv_at hl 2 rfl) ?_
  refine r_get X kcX13 (ci := 12) rfl hP 0 rfl 5 (by decide) fX13_13 rfl dX13_feed_79 ?_
  refine lv_aload_n hx hb dX13_feed_82 rfl (lv_at hl 2 rfl) ?_
  refine r_get X kcX13 (ci := 12) rfl hP 0 rfl 6 (by decide) fX13_262 rfl dX13_feed_83 ?_
  refine lv_iload hx hb dX13_feed_86 (lv_at hl 0 rfl) ?_
  refine lv_bipush (v := 24) hx hb dX13_feed_88 (by decide) ?_
  refine lv_bipush (v := 8) hx hb dX13_feed_90 (by decide) ?_
  refine lv_iload hx hb dX13_feed_92 (lv_at hl 1 rfl) ?_
  refine lv_iconst (v := 4) hx hb dX13_feed_94 (by decide) ?_
  refine lv_irem hx hb dX13_feed_95 (by decide) ?_
  refine lv_topi (fun x_188 ex_188 => ?_)
  have ex_188 : x_188 = 1 := ex_188.trans (by decide)
  subst ex_188
  refine lv_imul hx hb dX13_feed_96 ?_
  refine lv_topi (fun x_189 ex_189 => ?_)
  have ex_189 : x_189 = 8 := ex_189.trans (by decide)
  subst ex_189
  refine lv_isub hx hb dX13_feed_97 ?_
  refine lv_topi (fun x_190 ex_190 => ?_)
  have ex_190 : x_190 = 16 := ex_190.trans (by decide)
  subst ex_190
  refine lv_ishr hx hb dX13_feed_98 ?_
  refine lv_topi (fun x_191 ex_191 => ?_)
  obtain ⟨x_192, ex_192⟩ : ∃ y : Int32, x_191.toInt8.toInt32 = y := ⟨_, rfl⟩
  refine lv_i2b hx hb dX13_feed_99 ex_192 ?_
  refine va_bast (D := (dC, dI)) (cl := vwCl) hx hb hK hP hD hS 1 0 rfl rfl (i := 17) (by unfold vp_in; decide) dX13_feed_100 (fun H locs hP hD hS => ?_)
  generalize upd f_181 (Int32.toNatClampNeg 17) (vp_nar .byte x_192) = f_193 at hP hD
  have hP : va_P (dC, dI) vwCl [(h0, .inr (12, [.int 0, .int g1, .int g2, g3, g4, .ref tp, .int 17, .int g7, .int g8, .int g9, .int g10, .int g11, .int g12, .int g13, .int g14, .long g15, g16, g17, g18, g19, .int g20, .int g21, g22, g23, g24, .int g25, g26, .int g27, .int g28, .int g29, .int g30])), (tp, .inl (cy 0, 800, .inl f_193))] H := hP
  have hD : va_D A [(h0, .inr (12, [.int 0, .int g1, .int g2, g3, g4, .ref tp, .int 17, .int g7, .int g8, .int g9, .int g10, .int g11, .int g12, .int g13, .int g14, .long g15, g16, g17, g18, g19, .int g20, .int g21, g22, g23, g24, .int g25, g26, .int g27, .int g28, .int g29, .int g30])), (tp, .inl (cy 0, 800, .inl f_193))] := hD
  refine lv_aload_n hx hb dX13_feed_101 rfl (lv_at hl 2 rfl) ?_
  refine lv_dup hx hb dX13_feed_102 rfl ?_
  refine r_get X kcX13 (ci := 12) rfl hP 0 rfl 6 (by decide) fX13_262 rfl dX13_feed_103 ?_
  refine lv_iconst (v := 1) hx hb dX13_feed_106 (by decide) ?_
  refine lv_iadd hx hb dX13_feed_107 ?_
  refine lv_topi (fun x_194 ex_194 => ?_)
  have ex_194 : x_194 = 18 := ex_194.trans (by decide)
  subst ex_194
  refine r_put X kcX13 (ci := 12) rfl hP hD hS 0 rfl 6 (by decide) fX13_262 rfl rfl rfl (Nat.le_of_ble_eq_true rfl) dX13_feed_108 (fun H locs hP hD hS => ?_)
  have hP : va_P (dC, dI) vwCl [(h0, .inr (12, [.int 0, .int g1, .int g2, g3, g4, .ref tp, .int 18, .int g7, .int g8, .int g9, .int g10, .int g11, .int g12, .int g13, .int g14, .long g15, g16, g17, g18, g19, .int g20, .int g21, g22, g23, g24, .int g25, g26, .int g27, .int g28, .int g29, .int g30])), (tp, .inl (cy 0, 800, .inl f_193))] H := hP
  have hD : va_D A [(h0, .inr (12, [.int 0, .int g1, .int g2, g3, g4, .ref tp, .int 18, .int g7, .int g8, .int g9, .int g10, .int g11, .int g12, .int g13, .int g14, .long g15, g16, g17, g18, g19, .int g20, .int g21, g22, g23, g24, .int g25, g26, .int g27, .int g28, .int g29, .int g30])), (tp, .inl (cy 0, 800, .inl f_193))] := hD
  refine lv_iinc (v := 18) (lv' := [(6, .int 18), (7, .int p5), (0, .ref h0), (1, .int p1), (2, .int p2), (3, .int p3), (4, .int p4), (5, .int p5)]) hx hb dX13_feed_111 hl (k := 1) rfl (by decide) (by decide) rfl (fun ls hl => ?_)
  refine lv_goto (tgt := 23) hx hb dX13_feed_114 (by decide) ?_
  refine lv_iload hx hb dX13_feed_23 (lv_at hl 0 rfl) ?_
  refine lv_bipush (v := 20) hx hb dX13_feed_25 (by decide) ?_
  refine lv_icmp_ge (tgt := 117) hx hb dX13_feed_27 (by decide) (fun h_195 => absurd h_195 (by decide)) (fun _ => ?_)
  refine lv_iload hx hb dX13_feed_30 (lv_at hl 0 rfl) ?_
  refine lv_iconst (v := 4) hx hb dX13_feed_32 (by decide) ?_
  refine lv_icmp_ge (tgt := 40) hx hb dX13_feed_33 (by decide) (fun _ => ?_) (fun h_196 => absurd (by decide) h_196)
  refine lv_iload hx hb dX13_feed_40 (lv_at hl 0 rfl) ?_
  refine lv_bipush (v := 8) hx hb dX13_feed_42 (by decide) ?_
  refine lv_icmp_ge (tgt := 51) hx hb dX13_feed_44 (by decide) (fun _ => ?_) (fun h_197 => absurd (by decide) h_197)
  refine lv_iload hx hb dX13_feed_51 (lv_at hl 0 rfl) ?_
  refine lv_bipush (v := 12) hx hb dX13_feed_53 (by decide) ?_
  refine lv_icmp_ge (tgt := 62) hx hb dX13_feed_55 (by decide) (fun _ => ?_) (fun h_198 => absurd (by decide) h_198)
  refine lv_iload hx hb dX13_feed_62 (lv_at hl 0 rfl) ?_
  refine lv_bipush (v := 16) hx hb dX13_feed_64 (by decide) ?_
  refine lv_icmp_ge (tgt := 74) hx hb dX13_feed_66 (by decide) (fun _ => ?_) (fun h_199 => absurd (by decide) h_199)
  refine lv_iload hx hb dX13_feed_74 (lv_at hl 7 rfl) ?_
  refine lv_istore (lv' := [(7, .int p5), (6, .int 18), (0, .ref h0), (1, .int p1), (2, .int p2), (3, .int p3), (4, .int p4), (5, .int p5)]) hx hb dX13_feed_76 hl (by decide) rfl (fun ls hl => ?_)
  refine lv_aload_n hx hb dX13_feed_78 rfl (lv_at hl 2 rfl) ?_
  refine r_get X kcX13 (ci := 12) rfl hP 0 rfl 5 (by decide) fX13_13 rfl dX13_feed_79 ?_
  refine lv_aload_n hx hb dX13_feed_82 rfl (lv_at hl 2 rfl) ?_
  refine r_get X kcX13 (ci := 12) rfl hP 0 rfl 6 (by decide) fX13_262 rfl dX13_feed_83 ?_
  refine lv_iload hx hb dX13_feed_86 (lv_at hl 0 rfl) ?_
  refine lv_bipush (v := 24) hx hb dX13_feed_88 (by decide) ?_
  refine lv_bipush (v := 8) hx hb dX13_feed_90 (by decide) ?_
  refine lv_iload hx hb dX13_feed_92 (lv_at hl 1 rfl) ?_
  refine lv_iconst (v := 4) hx hb dX13_feed_94 (by decide) ?_
  refine lv_irem hx hb dX13_feed_95 (by decide) ?_
  refine lv_topi (fun x_200 ex_200 => ?_)
  have ex_200 : x_200 = 2 := ex_200.trans (by decide)
  subst ex_200
  refine lv_imul hx hb dX13_feed_96 ?_
  refine lv_topi (fun x_201 ex_201 => ?_)
  have ex_201 : x_201 = 16 := ex_201.trans (by decide)
  subst ex_201
  refine lv_isub hx hb dX13_feed_97 ?_
  refine lv_topi (fun x_202 ex_202 => ?_)
  have ex_202 : x_202 = 8 := ex_202.trans (by decide)
  subst ex_202
  refine lv_ishr hx hb dX13_feed_98 ?_
  refine lv_topi (fun x_203 ex_203 => ?_)
  obtain ⟨x_204, ex_204⟩ : ∃ y : Int32, x_203.toInt8.toInt32 = y := ⟨_, rfl⟩
  refine lv_i2b hx hb dX13_feed_99 ex_204 ?_
  refine va_bast (D := (dC, dI)) (cl := vwCl) hx hb hK hP hD hS 1 0 rfl rfl (i := 18) (by unfold vp_in; decide) dX13_feed_100 (fun H locs hP hD hS => ?_)
  generalize upd f_193 (Int32.toNatClampNeg 18) (vp_nar .byte x_204) = f_205 at hP hD
  have hP : va_P (dC, dI) vwCl [(h0, .inr (12, [.int 0, .int g1, .int g2, g3, g4, .ref tp, .int 18, .int g7, .int g8, .int g9, .int g10, .int g11, .int g12, .int g13, .int g14, .long g15, g16, g17, g18, g19, .int g20, .int g21, g22, g23, g24, .int g25, g26, .int g27, .int g28, .int g29, .int g30])), (tp, .inl (cy 0, 800, .inl f_205))] H := hP
  have hD : va_D A [(h0, .inr (12, [.int 0, .int g1, .int g2, g3, g4, .ref tp, .int 18, .int g7, .int g8, .int g9, .int g10, .int g11, .int g12, .int g13, .int g14, .long g15, g16, g17, g18, g19, .int g20, .int g21, g22, g23, g24, .int g25, g26, .int g27, .int g28, .int g29, .int g30])), (tp, .inl (cy 0, 800, .inl f_205))] := hD
  refine lv_aload_n hx hb dX13_feed_101 rfl (lv_at hl 2 rfl) ?_
  refine lv_dup hx hb dX13_feed_102 rfl ?_
  refine r_get X kcX13 (ci := 12) rfl hP 0 rfl 6 (by decide) fX13_262 rfl dX13_feed_103 ?_
  refine lv_iconst (v := 1) hx hb dX13_feed_106 (by decide) ?_
  refine lv_iadd hx hb dX13_feed_107 ?_
  refine lv_topi (fun x_206 ex_206 => ?_)
  have ex_206 : x_206 = 19 := ex_206.trans (by decide)
  subst ex_206
  refine r_put X kcX13 (ci := 12) rfl hP hD hS 0 rfl 6 (by decide) fX13_262 rfl rfl rfl (Nat.le_of_ble_eq_true rfl) dX13_feed_108 (fun H locs hP hD hS => ?_)
  have hP : va_P (dC, dI) vwCl [(h0, .inr (12, [.int 0, .int g1, .int g2, g3, g4, .ref tp, .int 19, .int g7, .int g8, .int g9, .int g10, .int g11, .int g12, .int g13, .int g14, .long g15, g16, g17, g18, g19, .int g20, .int g21, g22, g23, g24, .int g25, g26, .int g27, .int g28, .int g29, .int g30])), (tp, .inl (cy 0, 800, .inl f_205))] H := hP
  have hD : va_D A [(h0, .inr (12, [.int 0, .int g1, .int g2, g3, g4, .ref tp, .int 19, .int g7, .int g8, .int g9, .int g10, .int g11, .int g12, .int g13, .int g14, .long g15, g16, g17, g18, g19, .int g20, .int g21, g22, g23, g24, .int g25, g26, .int g27, .int g28, .int g29, .int g30])), (tp, .inl (cy 0, 800, .inl f_205))] := hD
  refine lv_iinc (v := 19) (lv' := [(6, .int 19), (7, .int p5), (0, .ref h0), (1, .int p1), (2, .int p2), (3, .int p3), (4, .int p4), (5, .int p5)]) hx hb dX13_feed_111 hl (k := 1) rfl (by decide) (by decide) rfl (fun ls hl => ?_)
  refine lv_goto (tgt := 23) hx hb dX13_feed_114 (by decide) ?_
  refine lv_iload hx hb dX13_feed_23 (lv_at hl 0 rfl) ?_
  refine lv_bipush (v := 20) hx hb dX13_feed_25 (by decide) ?_
  refine lv_icmp_ge (tgt := 117) hx hb dX13_feed_27 (by decide) (fun h_207 => absurd h_207 (by decide)) (fun _ => ?_)
  refine lv_iload hx hb dX13_feed_30 (lv_at hl 0 rfl) ?_
  refine lv_iconst (v := 4) hx hb dX13_feed_32 (by decide) ?_
  refine lv_icmp_ge (tgt := 40) hx hb dX13_feed_33 (by decide) (fun _ => ?_) (fun h_208 => absurd (by decide) h_208)
  refine lv_iload hx hb dX13_feed_40 (lv_at hl 0 rfl) ?_
  refine lv_bipush (v := 8) hx hb dX13_feed_42 (by decide) ?_
  refine lv_icmp_ge (tgt := 51) hx hb dX13_feed_44 (by decide) (fun _ => ?_) (fun h_209 => absurd (by decide) h_209)
  refine lv_iload hx hb dX13_feed_51 (lv_at hl 0 rfl) ?_
  refine lv_bipush (v := 12) hx hb dX13_feed_53 (by decide) ?_
  refine lv_icmp_ge (tgt := 62) hx hb dX13_feed_55 (by decide) (fun _ => ?_) (fun h_210 => absurd (by decide) h_210)
  refine lv_iload hx hb dX13_feed_62 (lv_at hl 0 rfl) ?_
  refine lv_bipush (v := 16) hx hb dX13_feed_64 (by decide) ?_
  refine lv_icmp_ge (tgt := 74) hx hb dX13_feed_66 (by decide) (fun _ => ?_) (fun h_211 => absurd (by decide) h_211)
  refine lv_iload hx hb dX13_feed_74 (lv_at hl 7 rfl) ?_
  refine lv_istore (lv' := [(7, .int p5), (6, .int 19), (0, .ref h0), (1, .int p1), (2, .int p2), (3, .int p3), (4, .int p4), (5, .int p5)]) hx hb dX13_feed_76 hl (by decide) rfl (fun ls hl => ?_)
  refine lv_aload_n hx hb dX13_feed_78 rfl (lv_at hl 2 rfl) ?_
  refine r_get X kcX13 (ci := 12) rfl hP 0 rfl 5 (by decide) fX13_13 rfl dX13_feed_79 ?_
  refine lv_aload_n hx hb dX13_feed_82 rfl (lv_at hl 2 rfl) ?_
  refine r_get X kcX13 (ci := 12) rfl hP 0 rfl 6 (by decide) fX13_262 rfl dX13_feed_83 ?_
  refine lv_iload hx hb dX13_feed_86 (lv_at hl 0 rfl) ?_
  refine lv_bipush (v := 24) hx hb dX13_feed_88 (by decide) ?_
  refine lv_bipush (v := 8) hx hb dX13_feed_90 (by decide) ?_
  refine lv_iload hx hb dX13_feed_92 (lv_at hl 1 rfl) ?_
  refine lv_iconst (v := 4) hx hb dX13_feed_94 (by decide) ?_
  refine lv_irem hx hb dX13_feed_95 (by decide) ?_
  refine lv_topi (fun x_212 ex_212 => ?_)
  have ex_212 : x_212 = 3 := ex_212.trans (by decide)
  subst ex_212
  refine lv_imul hx hb dX13_feed_96 ?_
  refine lv_topi (fun x_213 ex_213 => ?_)
  have ex_213 : x_213 = 24 := ex_213.trans (by decide)
  subst ex_213
  refine lv_isub hx hb dX13_feed_97 ?_
  refine lv_topi (fun x_214 ex_214 => ?_)
  have ex_214 : x_214 = 0 := ex_214.trans (by decide)
  subst ex_214
  refine lv_ishr hx hb dX13_feed_98 ?_
  refine lv_topi (fun x_215 ex_215 => ?_)
  obtain ⟨x_216, ex_216⟩ : ∃ y : Int32, x_215.toInt8.toInt32 = y := ⟨_, rfl⟩
  refine lv_i2b hx hb dX13_feed_99 ex_216 ?_
  refine va_bast (D := (dC, dI)) (cl := vwCl) hx hb hK hP hD hS 1 0 rfl rfl (i := 19) (by unfold vp_in; decide) dX13_feed_100 (fun H locs hP hD hS => ?_)
  generalize upd f_205 (Int32.toNatClampNeg 19) (vp_nar .byte x_216) = f_217 at hP hD
  have hP : va_P (dC, dI) vwCl [(h0, .inr (12, [.int 0, .int g1, .int g2, g3, g4, .ref tp, .int 19, .int g7, .int g8, .int g9, .int g10, .int g11, .int g12, .int g13, .int g14, .long g15, g16, g17, g18, g19, .int g20, .int g21, g22, g23, g24, .int g25, g26, .int g27, .int g28, .int g29, .int g30])), (tp, .inl (cy 0, 800, .inl f_217))] H := hP
  have hD : va_D A [(h0, .inr (12, [.int 0, .int g1, .int g2, g3, g4, .ref tp, .int 19, .int g7, .int g8, .int g9, .int g10, .int g11, .int g12, .int g13, .int g14, .long g15, g16, g17, g18, g19, .int g20, .int g21, g22, g23, g24, .int g25, g26, .int g27, .int g28, .int g29, .int g30])), (tp, .inl (cy 0, 800, .inl f_217))] := hD
  refine lv_aload_n hx hb dX13_feed_101 rfl (lv_at hl 2 rfl) ?_
  refine lv_dup hx hb dX13_feed_102 rfl ?_
  refine r_get X kcX13 (ci := 12) rfl hP 0 rfl 6 (by decide) fX13_262 rfl dX13_feed_103 ?_
  refine lv_iconst (v := 1) hx hb dX13_feed_106 (by decide) ?_
  refine lv_iadd hx hb dX13_feed_107 ?_
  refine lv_topi (fun x_218 ex_218 => ?_)
  have ex_218 : x_218 = 20 := ex_218.trans (by decide)
  subst ex_218
  refine r_put X kcX13 (ci := 12) rfl hP hD hS 0 rfl 6 (by decide) fX13_262 rfl rfl rfl (Nat.le_of_ble_eq_true rfl) dX13_feed_108 (fun H locs hP hD hS => ?_)
  have hP : va_P (dC, dI) vwCl [(h0, .inr (12, [.int 0, .int g1, .int g2, g3, g4, .ref tp, .int 20, .int g7, .int g8, .int g9, .int g10, .int g11, .int g12, .int g13, .int g14, .long g15, g16, g17, g18, g19, .int g20, .int g21, g22, g23, g24, .int g25, g26, .int g27, .int g28, .int g29, .int g30])), (tp, .inl (cy 0, 800, .inl f_217))] H := hP
  have hD : va_D A [(h0, .inr (12, [.int 0, .int g1, .int g2, g3, g4, .ref tp, .int 20, .int g7, .int g8, .int g9, .int g10, .int g11, .int g12, .int g13, .int g14, .long g15, g16, g17, g18, g19, .int g20, .int g21, g22, g23, g24, .int g25, g26, .int g27, .int g28, .int g29, .int g30])), (tp, .inl (cy 0, 800, .inl f_217))] := hD
  refine lv_iinc (v := 20) (lv' := [(6, .int 20), (7, .int p5), (0, .ref h0), (1, .int p1), (2, .int p2), (3, .int p3), (4, .int p4), (5, .int p5)]) hx hb dX13_feed_111 hl (k := 1) rfl (by decide) (by decide) rfl (fun ls hl => ?_)
  refine lv_goto (tgt := 23) hx hb dX13_feed_114 (by decide) ?_
  refine lv_iload hx hb dX13_feed_23 (lv_at hl 0 rfl) ?_
  refine lv_bipush (v := 20) hx hb dX13_feed_25 (by decide) ?_
  refine lv_icmp_ge (tgt := 117) hx hb dX13_feed_27 (by decide) (fun _ => ?_) (fun h_219 => absurd (by decide) h_219)
  refine lv_aload_n hx hb dX13_feed_117 rfl (lv_at hl 2 rfl) ?_
  refine r_get X kcX13 (ci := 12) rfl hP 0 rfl 6 (by decide) fX13_262 rfl dX13_feed_118 ?_
  exact eI X hr hlocks hP hD hS () [] (by decide) rfl rfl rfl (Nat.le_of_ble_eq_true rfl) (Nat.le_of_ble_eq_true rfl) dX13_feed_121
