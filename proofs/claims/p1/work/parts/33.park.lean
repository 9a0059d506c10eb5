set_option maxHeartbeats 4000000 in
set_option maxRecDepth 100000 in
theorem tX9_runEnd (l : Launch) (dC : Nat → ClassId) (dI : Nat → Nat → Nat) (cy : Nat → ClassId) (tp : Nat) (bt : Nat) (p2 : Int32) (p3 : Int32) (fa : Int32) (tk : Int32) : ctI l dC dI cy yX9_runEnd cX9_runEnd 5 .int ({ frames := 0, cells := 0, slots := 0, locals := 0 }) [.ref tp, .int 0, .int p2, .int p3] [(tp, .inr (8, [.ref bt, .int 0, .int 0, .int tk, .int 0, .int 0, .int 0, .int 0, .int fa]))] (S := Unit) (fun r _ => r = 0) (fun _ => [(tp, .inr (8, [.ref bt, .int 0, .int 0, .int tk, .int 0, .int 0, .int 0, .int 0, .int fa]))]) := by
  refine ctI.of (by decide +kernel) (Nat.le_of_ble_eq_true rfl) ?_
  intro p e s m args below meth c A ls X hr hlocks hin hA hP hD hS hl
  have hx := X.1
  have hb := X.2.1
  have hK := X.2.2.2.2.2.1
  have hl : lv_has ls 5 [(0, .ref tp), (1, .int 0), (2, .int p2), (3, .int p3)] := hl
  refine lv_iload_n hx hb dX9_runEnd_0 rfl (lv_at hl 1 rfl) ?_
  refine lv_istore (lv' := [(4, .int 0), (0, .ref tp), (1, .int 0), (2, .int p2), (3, .int p3)]) hx hb dX9_runEnd_1 hl (by decide) rfl (fun ls hl => ?_)
  refine lv_iload hx hb dX9_runEnd_3 (lv_at hl 0 rfl) ?_
  refine lv_aload_n hx hb dX9_runEnd_5 rfl (lv_at hl 1 rfl) ?_
  refine r_get X kcX9 (ci := 8) rfl hP 0 rfl 2 (by decide) fX9_25 rfl dX9_runEnd_6 ?_
  refine lv_icmp_ge (tgt := 40) hx hb dX9_runEnd_9 (by decide) (fun _ => ?_) (fun h_1 => absurd (by decide) h_1)
  refine lv_iload hx hb dX9_runEnd_40 (lv_at hl 0 rfl) ?_
  exact eI X hr hlocks hP hD hS () [0] (by decide) rfl rfl rfl (Nat.le_of_ble_eq_true rfl) (Nat.le_of_ble_eq_true rfl) dX9_runEnd_42
set_option maxHeartbeats 4000000 in
set_option maxRecDepth 100000 in
theorem tX9_next (l : Launch) (dC : Nat → ClassId) (dI : Nat → Nat → Nat) (cy : Nat → ClassId) (tp : Nat) (bt : Nat) : ctV l dC dI cy yX9_next cX9_next 3 ({ frames := 1, cells := 0, slots := 0, locals := 24 }) [.ref tp] [(tp, .inr (8, [.ref bt, .int 0, .int 0, .int 0, .int 0, .int 0, .int 0, .int 0, .int (-1)]))] (S := Unit) (fun _ => True) (fun _ => [(tp, .inr (8, [.ref bt, .int 0, .int 0, .int 4, .int 0, .int 0, .int 0, .int 0, .int (-1)]))]) := by
  refine ctV.of (by decide +kernel) (Nat.le_of_ble_eq_true rfl) ?_
  intro p e s m args below meth c A ls X hr hlocks hin hA hP hD hS hl
  have hx := X.1
  have hb := X.2.1
  have hK := X.2.2.2.2.2.1
  have hl : lv_has ls 3 [(0, .ref tp)] := hl
  refine lv_aload_n hx hb dX9_next_0 rfl (lv_at hl 0 rfl) ?_
  refine lv_aload_n hx hb dX9_next_1 rfl (lv_at hl 0 rfl) ?_
  refine lv_aload_n hx hb dX9_next_2 rfl (lv_at hl 0 rfl) ?_
  refine r_get X kcX9 (ci := 8) rfl hP 0 rfl 5 (by decide) fX9_28 rfl dX9_next_3 ?_
  refine lv_bipush (v := 32) hx hb dX9_next_6 (by decide) ?_
  refine lv_bipush (v := 32) hx hb dX9_next_8 (by decide) ?_
  refine fI (wr := []) (rV_I (wc := [(tp, .inr (8, [.ref bt, .int 0, .int 0, .int 0, .int 0, .int 0, .int 0, .int 0, .int (-1)]))]) (As := [.int 0, .int 32, .int 32]) (rest := [.ref tp]) X (tX9_runEnd l dC dI cy tp bt 32 32 (-1) 0) kX9_runEnd vX9_runEnd mX9_227 hP hD [0] (by decide) rfl 0 (ci := 8) rfl rfl rfl hl rfl rfl (Nat.le_of_ble_eq_true rfl) dX9_next_10 ⟨Nat.le_of_ble_eq_true rfl, Nat.le_of_ble_eq_true rfl⟩ ⟨Nat.le_of_ble_eq_true rfl, Nat.le_of_ble_eq_true rfl⟩) hP hD hS hA [0] [] rfl rfl (by decide) (by decide) (fun r_1 u_3 H locs k_2 hP hD hS => ?_)
  have hP : va_P (dC, dI) vwCl [(tp, .inr (8, [.ref bt, .int 0, .int 0, .int 0, .int 0, .int 0, .int 0, .int 0, .int (-1)]))] H := hP
  have hD : va_D A [(tp, .inr (8, [.ref bt, .int 0, .int 0, .int 0, .int 0, .int 0, .int 0, .int 0, .int (-1)]))] := hD
  have er_1 : r_1 = 0 := k_2
  subst er_1
  refine r_put X kcX9 (ci := 8) rfl hP hD hS 0 rfl 4 (by decide) fX9_119 rfl rfl rfl (Nat.le_of_ble_eq_true rfl) dX9_next_13 (fun H locs hP hD hS => ?_)
  have hP : va_P (dC, dI) vwCl [(tp, .inr (8, [.ref bt, .int 0, .int 0, .int 0, .int 0, .int 0, .int 0, .int 0, .int (-1)]))] H := hP
  have hD : va_D A [(tp, .inr (8, [.ref bt, .int 0, .int 0, .int 0, .int 0, .int 0, .int 0, .int 0, .int (-1)]))] := hD
  refine lv_aload_n hx hb dX9_next_16 rfl (lv_at hl 0 rfl) ?_
  refine lv_aload_n hx hb dX9_next_17 rfl (lv_at hl 0 rfl) ?_
  refine r_get X kcX9 (ci := 8) rfl hP 0 rfl 4 (by decide) fX9_119 rfl dX9_next_18 ?_
  refine lv_bipush (v := 97) hx hb dX9_next_21 (by decide) ?_
  refine lv_bipush (v := 122) hx hb dX9_next_23 (by decide) ?_
  refine fI (wr := []) (rV_I (wc := [(tp, .inr (8, [.ref bt, .int 0, .int 0, .int 0, .int 0, .int 0, .int 0, .int 0, .int (-1)]))]) (As := [.int 0, .int 97, .int 122]) (rest := []) X (tX9_runEnd l dC dI cy tp bt 97 122 (-1) 0) kX9_runEnd vX9_runEnd mX9_227 hP hD [0] (by decide) rfl 0 (ci := 8) rfl rfl rfl hl rfl rfl (Nat.le_of_ble_eq_true rfl) dX9_next_25 ⟨Nat.le_of_ble_eq_true rfl, Nat.le_of_ble_eq_true rfl⟩ ⟨Nat.le_of_ble_eq_true rfl, Nat.le_of_ble_eq_true rfl⟩) hP hD hS hA [0] [] rfl rfl (by decide) (by decide) (fun r_4 u_6 H locs k_5 hP hD hS => ?_)
  have hP : va_P (dC, dI) vwCl [(tp, .inr (8, [.ref bt, .int 0, .int 0, .int 0, .int 0, .int 0, .int 0, .int 0, .int (-1)]))] H := hP
  have hD : va_D A [(tp, .inr (8, [.ref bt, .int 0, .int 0, .int 0, .int 0, .int 0, .int 0, .int 0, .int (-1)]))] := hD
  have er_4 : r_4 = 0 := k_5
  subst er_4
  refine lv_aload_n hx hb dX9_next_28 rfl (lv_at hl 0 rfl) ?_
  refine r_get X kcX9 (ci := 8) rfl hP 0 rfl 4 (by decide) fX9_119 rfl dX9_next_29 ?_
  refine lv_isub hx hb dX9_next_32 ?_
  refine lv_topi (fun x_7 ex_7 => ?_)
  have ex_7 : x_7 = 0 := ex_7.trans (by decide)
  subst ex_7
  refine lv_istore_n (lv' := [(1, .int 0), (0, .ref tp)]) hx hb dX9_next_33 rfl hl (by decide) rfl (fun ls hl => ?_)
  refine lv_aload_n hx hb dX9_next_34 rfl (lv_at hl 1 rfl) ?_
  refine lv_aload_n hx hb dX9_next_35 rfl (lv_at hl 1 rfl) ?_
  refine r_get X kcX9 (ci := 8) rfl hP 0 rfl 4 (by decide) fX9_119 rfl dX9_next_36 ?_
  refine lv_bipush (v := 48) hx hb dX9_next_39 (by decide) ?_
  refine lv_bipush (v := 57) hx hb dX9_next_41 (by decide) ?_
  refine fI (wr := []) (rV_I (wc := [(tp, .inr (8, [.ref bt, .int 0, .int 0, .int 0, .int 0, .int 0, .int 0, .int 0, .int (-1)]))]) (As := [.int 0, .int 48, .int 57]) (rest := []) X (tX9_runEnd l dC dI cy tp bt 48 57 (-1) 0) kX9_runEnd vX9_runEnd mX9_227 hP hD [0] (by decide) rfl 0 (ci := 8) rfl rfl rfl hl rfl rfl (Nat.le_of_ble_eq_true rfl) dX9_next_43 ⟨Nat.le_of_ble_eq_true rfl, Nat.le_of_ble_eq_true rfl⟩ ⟨Nat.le_of_ble_eq_true rfl, Nat.le_of_ble_eq_true rfl⟩) hP hD hS hA [0] [] rfl rfl (by decide) (by decide) (fun r_8 u_10 H locs k_9 hP hD hS => ?_)
  have hP : va_P (dC, dI) vwCl [(tp, .inr (8, [.ref bt, .int 0, .int 0, .int 0, .int 0, .int 0, .int 0, .int 0, .int (-1)]))] H := hP
  have hD : va_D A [(tp, .inr (8, [.ref bt, .int 0, .int 0, .int 0, .int 0, .int 0, .int 0, .int 0, .int (-1)]))] := hD
  have er_8 : r_8 = 0 := k_9
  subst er_8
  refine lv_aload_n hx hb dX9_next_46 rfl (lv_at hl 1 rfl) ?_
  refine r_get X kcX9 (ci := 8) rfl hP 0 rfl 4 (by decide) fX9_119 rfl dX9_next_47 ?_
  refine lv_isub hx hb dX9_next_50 ?_
  refine lv_topi (fun x_11 ex_11 => ?_)
  have ex_11 : x_11 = 0 := ex_11.trans (by decide)
  subst ex_11
  refine lv_istore_n (lv' := [(2, .int 0), (1, .int 0), (0, .ref tp)]) hx hb dX9_next_51 rfl hl (by decide) rfl (fun ls hl => ?_)
  refine lv_aload_n hx hb dX9_next_52 rfl (lv_at hl 2 rfl) ?_
  refine lv_aload_n hx hb dX9_next_53 rfl (lv_at hl 2 rfl) ?_
  refine r_get X kcX9 (ci := 8) rfl hP 0 rfl 4 (by decide) fX9_119 rfl dX9_next_54 ?_
  refine lv_iload_n hx hb dX9_next_57 rfl (lv_at hl 1 rfl) ?_
  refine lv_iload_n hx hb dX9_next_58 rfl (lv_at hl 0 rfl) ?_
  refine va_mmax hx hb (X.2.2.1.trans hl.1.symm) X.2.2.2.1 (X.2.2.2.2.1 _ w_545) (X.2.2.2.2.1 _ w_546) (X.2.2.2.2.1 _ w_113) (X.2.2.2.2.1 _ w_547) (Nat.le_of_ble_eq_true rfl) (Nat.le_of_ble_eq_true rfl) (Nat.le_of_ble_eq_true rfl) (Nat.le_of_ble_eq_true rfl) dX9_next_59 ?_
  refine lv_topi (fun x_12 ex_12 => ?_)
  have ex_12 : x_12 = 0 := ex_12.trans (by decide)
  subst ex_12
  refine lv_iadd hx hb dX9_next_62 ?_
  refine lv_topi (fun x_13 ex_13 => ?_)
  have ex_13 : x_13 = 0 := ex_13.trans (by decide)
  subst ex_13
  refine r_put X kcX9 (ci := 8) rfl hP hD hS 0 rfl 5 (by decide) fX9_28 rfl rfl rfl (Nat.le_of_ble_eq_true rfl) dX9_next_63 (fun H locs hP hD hS => ?_)
  have hP : va_P (dC, dI) vwCl [(tp, .inr (8, [.ref bt, .int 0, .int 0, .int 0, .int 0, .int 0, .int 0, .int 0, .int (-1)]))] H := hP
  have hD : va_D A [(tp, .inr (8, [.ref bt, .int 0, .int 0, .int 0, .int 0, .int 0, .int 0, .int 0, .int (-1)]))] := hD
  refine lv_aload_n hx hb dX9_next_66 rfl (lv_at hl 2 rfl) ?_
  refine r_get X kcX9 (ci := 8) rfl hP 0 rfl 4 (by decide) fX9_119 rfl dX9_next_67 ?_
  refine lv_aload_n hx hb dX9_next_70 rfl (lv_at hl 2 rfl) ?_
  refine r_get X kcX9 (ci := 8) rfl hP 0 rfl 2 (by decide) fX9_25 rfl dX9_next_71 ?_
  refine lv_icmp_lt (tgt := 85) hx hb dX9_next_74 (by decide) (fun h_14 => absurd h_14 (by decide)) (fun _ => ?_)
  refine lv_aload_n hx hb dX9_next_77 rfl (lv_at hl 2 rfl) ?_
  refine lv_iconst (v := 4) hx hb dX9_next_78 (by decide) ?_
  refine r_put X kcX9 (ci := 8) rfl hP hD hS 0 rfl 3 (by decide) fX9_66 rfl rfl rfl (Nat.le_of_ble_eq_true rfl) dX9_next_79 (fun H locs hP hD hS => ?_)
  have hP : va_P (dC, dI) vwCl [(tp, .inr (8, [.ref bt, .int 0, .int 0, .int 4, .int 0, .int 0, .int 0, .int 0, .int (-1)]))] H := hP
  have hD : va_D A [(tp, .inr (8, [.ref bt, .int 0, .int 0, .int 4, .int 0, .int 0, .int 0, .int 0, .int (-1)]))] := hD
  refine lv_goto (tgt := 161) hx hb dX9_next_82 (by decide) ?_
  exact eV X hr hlocks hP hD hS () [0] (by decide) rfl trivial (Nat.le_of_ble_eq_true rfl) (Nat.le_of_ble_eq_true rfl) dX9_next_161
set_option maxHeartbeats 4000000 in
set_option maxRecDepth 100000 in
theorem tX9_isWord (l : Launch) (dC : Nat → ClassId) (dI : Nat → Nat → Nat) (cy : Nat → ClassId) (tp : Nat) (bt : Nat) (sx : Nat) : ctI l dC dI cy yX9_isWord cX9_isWord 3 .boolean ({ frames := 0, cells := 0, slots := 0, locals := 0 }) [.ref tp, .ref sx] [(tp, .inr (8, [.ref bt, .int 0, .int 0, .int 4, .int 0, .int 0, .int 0, .int 0, .int (-1)]))] (S := Unit) (fun r _ => r = 0) (fun _ => [(tp, .inr (8, [.ref bt, .int 0, .int 0, .int 4, .int 0, .int 0, .int 0, .int 0, .int (-1)]))]) := by
  refine ctI.of (by decide +kernel) (Nat.le_of_ble_eq_true rfl) ?_
  intro p e s m args below meth c A ls X hr hlocks hin hA hP hD hS hl
  have hx := X.1
  have hb := X.2.1
  have hK := X.2.2.2.2.2.1
  have hl : lv_has ls 3 [(0, .ref tp), (1, .ref sx)] := hl
  refine lv_aload_n hx hb dX9_isWord_0 rfl (lv_at hl 0 rfl) ?_
  refine r_get X kcX9 (ci := 8) rfl hP 0 rfl 3 (by decide) fX9_66 rfl dX9_isWord_1 ?_
  refine lv_iconst (v := 1) hx hb dX9_isWord_4 (by decide) ?_
  refine lv_icmp_ne (tgt := 24) hx hb dX9_isWord_5 (by decide) (fun _ => ?_) (fun h_1 => absurd h_1 (by decide))
  refine lv_iconst (v := 0) hx hb dX9_isWord_24 (by decide) ?_
  exact eI X hr hlocks hP hD hS () [0] (by decide) rfl rfl rfl (Nat.le_of_ble_eq_true rfl) (Nat.le_of_ble_eq_true rfl) dX9_isWord_25
set_option maxHeartbeats 4000000 in
set_option maxRecDepth 100000 in
theorem tX9_lineWord (l : Launch) (dC : Nat → ClassId) (dI : Nat → Nat → Nat) (cy : Nat → ClassId) (tp : Nat) (bt : Nat) : ctI l dC dI cy yX9_lineWord cX9_lineWord 1 .int ({ frames := 1, cells := 0, slots := 0, locals := 22 }) [.ref tp] [(tp, .inr (8, [.ref bt, .int 0, .int 0, .int 4, .int 0, .int 0, .int 0, .int 0, .int (-1)]))] (S := Unit) (fun r _ => r = -1) (fun _ => [(tp, .inr (8, [.ref bt, .int 0, .int 0, .int 4, .int 0, .int 0, .int 0, .int 0, .int (-1)]))]) := by
  refine ctI.of (by decide +kernel) (Nat.le_of_ble_eq_true rfl) ?_
  intro p e s m args below meth c A ls X hr hlocks hin hA hP hD hS hl
  have hx := X.1
  have hb := X.2.1
  have hK := X.2.2.2.2.2.1
  have hl : lv_has ls 1 [(0, .ref tp)] := hl
  refine lv_aload_n hx hb dX9_lineWord_0 rfl (lv_at hl 0 rfl) ?_
  obtain ⟨q_1, hq_1⟩ := X.2.2.2.2.2.2.2.2.2 ("HahaLawn$Tape", 203, "park") (List.mem_of_getElem? (i := 0) rfl)
  refine va_ldcS hx hb X.2.2.2.1 hq_1 dX9_lineWord_1 ?_
  refine fI (wr := []) (rV_I (wc := [(tp, .inr (8, [.ref bt, .int 0, .int 0, .int 4, .int 0, .int 0, .int 0, .int 0, .int (-1)]))]) (As := [.ref q_1]) (rest := []) X (tX9_isWord l dC dI cy tp bt q_1) kX9_isWord vX9_isWord mX9_183 hP hD [0] (by decide) rfl 0 (ci := 8) rfl rfl rfl hl rfl rfl (Nat.le_of_ble_eq_true rfl) dX9_lineWord_3 ⟨Nat.le_of_ble_eq_true rfl, Nat.le_of_ble_eq_true rfl⟩ ⟨Nat.le_of_ble_eq_true rfl, Nat.le_of_ble_eq_true rfl⟩) hP hD hS hA [0] [] rfl rfl (by decide) (by decide) (fun r_2 u_4 H locs k_3 hP hD hS => ?_)
  have hP : va_P (dC, dI) vwCl [(tp, .inr (8, [.ref bt, .int 0, .int 0, .int 4, .int 0, .int 0, .int 0, .int 0, .int (-1)]))] H := hP
  have hD : va_D A [(tp, .inr (8, [.ref bt, .int 0, .int 0, .int 4, .int 0, .int 0, .int 0, .int 0, .int (-1)]))] := hD
  have er_2 : r_2 = 0 := k_3
  subst er_2
  refine lv_if_eq (tgt := 11) hx hb dX9_lineWord_6 (by decide) (fun _ => ?_) (fun h_5 => absurd (by decide) h_5)
  refine lv_aload_n hx hb dX9_lineWord_11 rfl (lv_at hl 0 rfl) ?_
  obtain ⟨q_6, hq_6⟩ := X.2.2.2.2.2.2.2.2.2 ("HahaLawn$Tape", 205, "row") (List.mem_of_getElem? (i := 1) rfl)
  refine va_ldcS hx hb X.2.2.2.1 hq_6 dX9_lineWord_12 ?_
  refine fI (wr := []) (rV_I (wc := [(tp, .inr (8, [.ref bt, .int 0, .int 0, .int 4, .int 0, .int 0, .int 0, .int 0, .int (-1)]))]) (As := [.ref q_6]) (rest := []) X (tX9_isWord l dC dI cy tp bt q_6) kX9_isWord vX9_isWord mX9_183 hP hD [0] (by decide) rfl 0 (ci := 8) rfl rfl rfl hl rfl rfl (Nat.le_of_ble_eq_true rfl) dX9_lineWord_14 ⟨Nat.le_of_ble_eq_true rfl, Nat.le_of_ble_eq_true rfl⟩ ⟨Nat.le_of_ble_eq_true rfl, Nat.le_of_ble_eq_true rfl⟩) hP hD hS hA [0] [] rfl rfl (by decide) (by decide) (fun r_7 u_9 H locs k_8 hP hD hS => ?_)
  have hP : va_P (dC, dI) vwCl [(tp, .inr (8, [.ref bt, .int 0, .int 0, .int 4, .int 0, .int 0, .int 0, .int 0, .int (-1)]))] H := hP
  have hD : va_D A [(tp, .inr (8, [.ref bt, .int 0, .int 0, .int 4, .int 0, .int 0, .int 0, .int 0, .int (-1)]))] := hD
  have er_7 : r_7 = 0 := k_8
  subst er_7
  refine lv_if_eq (tgt := 22) hx hb dX9_lineWord_17 (by decide) (fun _ => ?_) (fun h_10 => absurd (by decide) h_10)
  refine lv_aload_n hx hb dX9_lineWord_22 rfl (lv_at hl 0 rfl) ?_
  obtain ⟨q_11, hq_11⟩ := X.2.2.2.2.2.2.2.2.2 ("HahaLawn$Tape", 207, "walker") (List.mem_of_getElem? (i := 2) rfl)
  refine va_ldcS hx hb X.2.2.2.1 hq_11 dX9_lineWord_23 ?_
  refine fI (wr := []) (rV_I (wc := [(tp, .inr (8, [.ref bt, .int 0, .int 0, .int 4, .int 0, .int 0, .int 0, .int 0, .int (-1)]))]) (As := [.ref q_11]) (rest := []) X (tX9_isWord l dC dI cy tp bt q_11) kX9_isWord vX9_isWord mX9_183 hP hD [0] (by decide) rfl 0 (ci := 8) rfl rfl rfl hl rfl rfl (Nat.le_of_ble_eq_true rfl) dX9_lineWord_25 ⟨Nat.le_of_ble_eq_true rfl, Nat.le_of_ble_eq_true rfl⟩ ⟨Nat.le_of_ble_eq_true rfl, Nat.le_of_ble_eq_true rfl⟩) hP hD hS hA [0] [] rfl rfl (by decide) (by decide) (fun r_12 u_14 H locs k_13 hP hD hS => ?_)
  have hP : va_P (dC, dI) vwCl [(tp, .inr (8, [.ref bt, .int 0, .int 0, .int 4, .int 0, .int 0, .int 0, .int 0, .int (-1)]))] H := hP
  have hD : va_D A [(tp, .inr (8, [.ref bt, .int 0, .int 0, .int 4, .int 0, .int 0, .int 0, .int 0, .int (-1)]))] := hD
  have er_12 : r_12 = 0 := k_13
  subst er_12
  refine lv_if_eq (tgt := 33) hx hb dX9_lineWord_28 (by decide) (fun _ => ?_) (fun h_15 => absurd (by decide) h_15)
  refine lv_aload_n hx hb dX9_lineWord_33 rfl (lv_at hl 0 rfl) ?_
  obtain ⟨q_16, hq_16⟩ := X.2.2.2.2.2.2.2.2.2 ("HahaLawn$Tape", 209, "walk") (List.mem_of_getElem? (i := 3) rfl)
  refine va_ldcS hx hb X.2.2.2.1 hq_16 dX9_lineWord_34 ?_
  refine fI (wr := []) (rV_I (wc := [(tp, .inr (8, [.ref bt, .int 0, .int 0, .int 4, .int 0, .int 0, .int 0, .int 0, .int (-1)]))]) (As := [.ref q_16]) (rest := []) X (tX9_isWord l dC dI cy tp bt q_16) kX9_isWord vX9_isWord mX9_183 hP hD [0] (by decide) rfl 0 (ci := 8) rfl rfl rfl hl rfl rfl (Nat.le_of_ble_eq_true rfl) dX9_lineWord_36 ⟨Nat.le_of_ble_eq_true rfl, Nat.le_of_ble_eq_true rfl⟩ ⟨Nat.le_of_ble_eq_true rfl, Nat.le_of_ble_eq_true rfl⟩) hP hD hS hA [0] [] rfl rfl (by decide) (by decide) (fun r_17 u_19 H locs k_18 hP hD hS => ?_)
  have hP : va_P (dC, dI) vwCl [(tp, .inr (8, [.ref bt, .int 0, .int 0, .int 4, .int 0, .int 0, .int 0, .int 0, .int (-1)]))] H := hP
  have hD : va_D A [(tp, .inr (8, [.ref bt, .int 0, .int 0, .int 4, .int 0, .int 0, .int 0, .int 0, .int (-1)]))] := hD
  have er_17 : r_17 = 0 := k_18
  subst er_17
  refine lv_if_eq (tgt := 46) hx hb dX9_lineWord_39 (by decide) (fun _ => ?_) (fun h_20 => absurd (by decide) h_20)
  refine lv_iconst (v := -1) hx hb dX9_lineWord_46 (by decide) ?_
  exact eI X hr hlocks hP hD hS () [0] (by decide) rfl rfl rfl (Nat.le_of_ble_eq_true rfl) (Nat.le_of_ble_eq_true rfl) dX9_lineWord_47
set_option maxHeartbeats 4000000 in
set_option maxRecDepth 100000 in
theorem tX9_wrong (l : Launch) (dC : Nat → ClassId) (dI : Nat → Nat → Nat) (cy : Nat → ClassId) (tp : Nat) (bt : Nat) : ctI l dC dI cy yX9_wrong cX9_wrong 2 .boolean ({ frames := 0, cells := 0, slots := 0, locals := 0 }) [.ref tp, .int 1] [(tp, .inr (8, [.ref bt, .int 0, .int 0, .int 4, .int 0, .int 0, .int 0, .int 0, .int (-1)]))] (S := Unit) (fun r _ => r = 0) (fun _ => []) := by
  refine ctI.of (by decide +kernel) (Nat.le_of_ble_eq_true rfl) ?_
  intro p e s m args below meth c A ls X hr hlocks hin hA hP hD hS hl
  have hx := X.1
  have hb := X.2.1
  have hK := X.2.2.2.2.2.1
  have hl : lv_has ls 2 [(0, .ref tp), (1, .int 1)] := hl
  refine lv_aload_n hx hb dX9_wrong_0 rfl (lv_at hl 0 rfl) ?_
  refine lv_iload_n hx hb dX9_wrong_1 rfl (lv_at hl 1 rfl) ?_
  refine r_put X kcX9 (ci := 8) rfl hP hD hS 0 rfl 7 (by decide) fX9_31 rfl rfl rfl (Nat.le_of_ble_eq_true rfl) dX9_wrong_2 (fun H locs hP hD hS => ?_)
  have hP : va_P (dC, dI) vwCl [(tp, .inr (8, [.ref bt, .int 0, .int 0, .int 4, .int 0, .int 0, .int 0, .int 1, .int (-1)]))] H := hP
  have hD : va_D A [(tp, .inr (8, [.ref bt, .int 0, .int 0, .int 4, .int 0, .int 0, .int 0, .int 1, .int (-1)]))] := hD
  refine lv_aload_n hx hb dX9_wrong_5 rfl (lv_at hl 0 rfl) ?_
  refine lv_aload_n hx hb dX9_wrong_6 rfl (lv_at hl 0 rfl) ?_
  refine r_get X kcX9 (ci := 8) rfl hP 0 rfl 4 (by decide) fX9_119 rfl dX9_wrong_7 ?_
  refine r_put X kcX9 (ci := 8) rfl hP hD hS 0 rfl 8 (by decide) fX9_34 rfl rfl rfl (Nat.le_of_ble_eq_true rfl) dX9_wrong_10 (fun H locs hP hD hS => ?_)
  have hP : va_P (dC, dI) vwCl [(tp, .inr (8, [.ref bt, .int 0, .int 0, .int 4, .int 0, .int 0, .int 0, .int 1, .int 0]))] H := hP
  have hD : va_D A [(tp, .inr (8, [.ref bt, .int 0, .int 0, .int 4, .int 0, .int 0, .int 0, .int 1, .int 0]))] := hD
  refine lv_iconst (v := 0) hx hb dX9_wrong_13 (by decide) ?_
  exact eI X hr hlocks hP hD hS () [] (by decide) rfl rfl rfl (Nat.le_of_ble_eq_true rfl) (Nat.le_of_ble_eq_true rfl) dX9_wrong_14
set_option maxHeartbeats 4000000 in
set_option maxRecDepth 100000 in
theorem tX4_resize (l : Launch) (dC : Nat → ClassId) (dI : Nat → Nat → Nat) (cy : Nat → ClassId) (gr : Nat) (gs : Nat) : ctV l dC dI cy yX4_resize cX4_resize 3 ({ frames := 0, cells := 0, slots := 0, locals := 0 }) [.ref gr, .int 0, .int 0] [(gr, .inr (4, [.int 0, .int 0, .int 0, .ref gs]))] (S := Unit) (fun _ => True) (fun _ => [(gr, .inr (4, [.int 0, .int 0, .int 0, .ref gs]))]) := by
  refine ctV.of (by decide +kernel) (Nat.le_of_ble_eq_true rfl) ?_
  intro p e s m args below meth c A ls X hr hlocks hin hA hP hD hS hl
  have hx := X.1
  have hb := X.2.1
  have hK := X.2.2.2.2.2.1
  have hl : lv_has ls 3 [(0, .ref gr), (1, .int 0), (2, .int 0)] := hl
  refine lv_aload_n hx hb dX4_resize_0 rfl (lv_at hl 0 rfl) ?_
  refine lv_iload_n hx hb dX4_resize_1 rfl (lv_at hl 1 rfl) ?_
  refine r_put X kcX4 (ci := 4) rfl hP hD hS 0 rfl 0 (by decide) fX4_15 rfl rfl rfl (Nat.le_of_ble_eq_true rfl) dX4_resize_2 (fun H locs hP hD hS => ?_)
  have hP : va_P (dC, dI) vwCl [(gr, .inr (4, [.int 0, .int 0, .int 0, .ref gs]))] H := hP
  have hD : va_D A [(gr, .inr (4, [.int 0, .int 0, .int 0, .ref gs]))] := hD
  refine lv_aload_n hx hb dX4_resize_5 rfl (lv_at hl 0 rfl) ?_
  refine lv_iload_n hx hb dX4_resize_6 rfl (lv_at hl 2 rfl) ?_
  refine r_put X kcX4 (ci := 4) rfl hP hD hS 0 rfl 1 (by decide) fX4_19 rfl rfl rfl (Nat.le_of_ble_eq_true rfl) dX4_resize_7 (fun H locs hP hD hS => ?_)
  have hP : va_P (dC, dI) vwCl [(gr, .inr (4, [.int 0, .int 0, .int 0, .ref gs]))] H := hP
  have hD : va_D A [(gr, .inr (4, [.int 0, .int 0, .int 0, .ref gs]))] := hD
  refine lv_aload_n hx hb dX4_resize_10 rfl (lv_at hl 0 rfl) ?_
  refine lv_iload_n hx hb dX4_resize_11 rfl (lv_at hl 1 rfl) ?_
  refine lv_iload_n hx hb dX4_resize_12 rfl (lv_at hl 2 rfl) ?_
  refine lv_imul hx hb dX4_resize_13 ?_
  refine lv_topi (fun x_1 ex_1 => ?_)
  have ex_1 : x_1 = 0 := ex_1.trans (by decide)
  subst ex_1
  refine r_put X kcX4 (ci := 4) rfl hP hD hS 0 rfl 2 (by decide) fX4_22 rfl rfl rfl (Nat.le_of_ble_eq_true rfl) dX4_resize_14 (fun H locs hP hD hS => ?_)
  have hP : va_P (dC, dI) vwCl [(gr, .inr (4, [.int 0, .int 0, .int 0, .ref gs]))] H := hP
  have hD : va_D A [(gr, .inr (4, [.int 0, .int 0, .int 0, .ref gs]))] := hD
  exact eV X hr hlocks hP hD hS () [0] (by decide) rfl trivial (Nat.le_of_ble_eq_true rfl) (Nat.le_of_ble_eq_true rfl) dX4_resize_17
set_option maxHeartbeats 4000000 in
set_option maxRecDepth 100000 in
theorem tX7_clear (l : Launch) (dC : Nat → ClassId) (dI : Nat → Nat → Nat) (cy : Nat → ClassId) (dr : Nat) (dg : Nat) (dq : Nat) (t0 : Nat) (t1 : Nat) (t2 : Nat) (t3 : Nat) (t4 : Nat) (t5 : Nat) (t6 : Nat) (t7 : Nat) : ctV l dC dI cy yX7_clear cX7_clear 1 ({ frames := 1, cells := 0, slots := 0, locals := 22 }) [.ref dr] [(dr, .inr (7, [.ref dg, .int 0, .int 0, .int 0, .int 0, .ref t0, .int 0, .ref t1, .ref t2, .ref t3, .ref t4, .int 0, .ref t5, .ref t6, .ref t7])), (dg, .inr (4, [.int 0, .int 0, .int 0, .ref dq]))] (S := Unit) (fun _ => True) (fun _ => []) := by
  refine ctV.of (by decide +kernel) (Nat.le_of_ble_eq_true rfl) ?_
  intro p e s m args below meth c A ls X hr hlocks hin hA hP hD hS hl
  have hx := X.1
  have hb := X.2.1
  have hK := X.2.2.2.2.2.1
  have hl : lv_has ls 1 [(0, .ref dr)] := hl
  refine lv_aload_n hx hb dX7_clear_0 rfl (lv_at hl 0 rfl) ?_
  refine r_get X kcX7 (ci := 7) rfl hP 0 rfl 0 (by decide) fX7_12 rfl dX7_clear_1 ?_
  refine lv_iconst (v := 0) hx hb dX7_clear_4 (by decide) ?_
  refine lv_iconst (v := 0) hx hb dX7_clear_5 (by decide) ?_
  refine fV (wr := [(dr, .inr (7, [.ref dg, .int 0, .int 0, .int 0, .int 0, .ref t0, .int 0, .ref t1, .ref t2, .ref t3, .ref t4, .int 0, .ref t5, .ref t6, .ref t7]))]) (rV_V (wc := [(dg, .inr (4, [.int 0, .int 0, .int 0, .ref dq]))]) (As := [.int 0, .int 0]) (rest := []) X (tX4_resize l dC dI cy dg dq) kX4_resize vX4_resize mX7_45 hP hD [1] (by decide) rfl 0 (ci := 4) rfl rfl rfl hl rfl rfl (Nat.le_of_ble_eq_true rfl) dX7_clear_6 ⟨Nat.le_of_ble_eq_true rfl, Nat.le_of_ble_eq_true rfl⟩ ⟨Nat.le_of_ble_eq_true rfl, Nat.le_of_ble_eq_true rfl⟩) hP hD hS hA [1] [0] rfl rfl (by decide) (by decide) (fun u_3 H locs k_2 hP hD hS => ?_)
  have hP : va_P (dC, dI) vwCl [(dr, .inr (7, [.ref dg, .int 0, .int 0, .int 0, .int 0, .ref t0, .int 0, .ref t1, .ref t2, .ref t3, .ref t4, .int 0, .ref t5, .ref t6, .ref t7])), (dg, .inr (4, [.int 0, .int 0, .int 0, .ref dq]))] H := hP
  have hD : va_D A [(dr, .inr (7, [.ref dg, .int 0, .int 0, .int 0, .int 0, .ref t0, .int 0, .ref t1, .ref t2, .ref t3, .ref t4, .int 0, .ref t5, .ref t6, .ref t7])), (dg, .inr (4, [.int 0, .int 0, .int 0, .ref dq]))] := hD
  refine lv_aload_n hx hb dX7_clear_9 rfl (lv_at hl 0 rfl) ?_
  refine lv_iconst (v := 0) hx hb dX7_clear_10 (by decide) ?_
  refine r_put X kcX7 (ci := 7) rfl hP hD hS 0 rfl 3 (by decide) fX7_49 rfl rfl rfl (Nat.le_of_ble_eq_true rfl) dX7_clear_11 (fun H locs hP hD hS => ?_)
  have hP : va_P (dC, dI) vwCl [(dr, .inr (7, [.ref dg, .int 0, .int 0, .int 0, .int 0, .ref t0, .int 0, .ref t1, .ref t2, .ref t3, .ref t4, .int 0, .ref t5, .ref t6, .ref t7])), (dg, .inr (4, [.int 0, .int 0, .int 0, .ref dq]))] H := hP
  have hD : va_D A [(dr, .inr (7, [.ref dg, .int 0, .int 0, .int 0, .int 0, .ref t0, .int 0, .ref t1, .ref t2, .ref t3, .ref t4, .int 0, .ref t5, .ref t6, .ref t7])), (dg, .inr (4, [.int 0, .int 0, .int 0, .ref dq]))] := hD
  refine lv_aload_n hx hb dX7_clear_14 rfl (lv_at hl 0 rfl) ?_
  refine lv_iconst (v := 0) hx hb dX7_clear_15 (by decide) ?_
  refine r_put X kcX7 (ci := 7) rfl hP hD hS 0 rfl 4 (by decide) fX7_53 rfl rfl rfl (Nat.le_of_ble_eq_true rfl) dX7_clear_16 (fun H locs hP hD hS => ?_)
  have hP : va_P (dC, dI) vwCl [(dr, .inr (7, [.ref dg, .int 0, .int 0, .int 0, .int 0, .ref t0, .int 0, .ref t1, .ref t2, .ref t3, .ref t4, .int 0, .ref t5, .ref t6, .ref t7])), (dg, .inr (4, [.int 0, .int 0, .int 0, .ref dq]))] H := hP
  have hD : va_D A [(dr, .inr (7, [.ref dg, .int 0, .int 0, .int 0, .int 0, .ref t0, .int 0, .ref t1, .ref t2, .ref t3, .ref t4, .int 0, .ref t5, .ref t6, .ref t7])), (dg, .inr (4, [.int 0, .int 0, .int 0, .ref dq]))] := hD
  refine lv_aload_n hx hb dX7_clear_19 rfl (lv_at hl 0 rfl) ?_
  refine lv_iconst (v := 0) hx hb dX7_clear_20 (by decide) ?_
  refine r_put X kcX7 (ci := 7) rfl hP hD hS 0 rfl 6 (by decide) fX7_56 rfl rfl rfl (Nat.le_of_ble_eq_true rfl) dX7_clear_21 (fun H locs hP hD hS => ?_)
  have hP : va_P (dC, dI) vwCl [(dr, .inr (7, [.ref dg, .int 0, .int 0, .int 0, .int 0, .ref t0, .int 0, .ref t1, .ref t2, .ref t3, .ref t4, .int 0, .ref t5, .ref t6, .ref t7])), (dg, .inr (4, [.int 0, .int 0, .int 0, .ref dq]))] H := hP
  have hD : va_D A [(dr, .inr (7, [.ref dg, .int 0, .int 0, .int 0, .int 0, .ref t0, .int 0, .ref t1, .ref t2, .ref t3, .ref t4, .int 0, .ref t5, .ref t6, .ref t7])), (dg, .inr (4, [.int 0, .int 0, .int 0, .ref dq]))] := hD
  refine lv_aload_n hx hb dX7_clear_24 rfl (lv_at hl 0 rfl) ?_
  refine lv_iconst (v := 0) hx hb dX7_clear_25 (by decide) ?_
  refine r_put X kcX7 (ci := 7) rfl hP hD hS 0 rfl 11 (by decide) fX7_59 rfl rfl rfl (Nat.le_of_ble_eq_true rfl) dX7_clear_26 (fun H locs hP hD hS => ?_)
  have hP : va_P (dC, dI) vwCl [(dr, .inr (7, [.ref dg, .int 0, .int 0, .int 0, .int 0, .ref t0, .int 0, .ref t1, .ref t2, .ref t3, .ref t4, .int 0, .ref t5, .ref t6, .ref t7])), (dg, .inr (4, [.int 0, .int 0, .int 0, .ref dq]))] H := hP
  have hD : va_D A [(dr, .inr (7, [.ref dg, .int 0, .int 0, .int 0, .int 0, .ref t0, .int 0, .ref t1, .ref t2, .ref t3, .ref t4, .int 0, .ref t5, .ref t6, .ref t7])), (dg, .inr (4, [.int 0, .int 0, .int 0, .ref dq]))] := hD
  exact eV X hr hlocks hP hD hS () [] (by decide) rfl trivial (Nat.le_of_ble_eq_true rfl) (Nat.le_of_ble_eq_true rfl) dX7_clear_29
set_option maxHeartbeats 4000000 in
set_option maxRecDepth 100000 in
theorem tX9_read (l : Launch) (dC : Nat → ClassId) (dI : Nat → Nat → Nat) (cy : Nat → ClassId) (tp : Nat) (bt : Nat) (dr : Nat) (dg : Nat) (dq : Nat) (t0 : Nat) (t1 : Nat) (t2 : Nat) (t3 : Nat) (t4 : Nat) (t5 : Nat) (t6 : Nat) (t7 : Nat) : ctI l dC dI cy yX9_read cX9_read 5 .boolean ({ frames := 2, cells := 0, slots := 0, locals := 46 }) [.ref tp, .int 0, .ref dr] [(tp, .inr (8, [.ref bt, .int 0, .int 0, .int 0, .int 0, .int 0, .int 0, .int 0, .int 0])), (dr, .inr (7, [.ref dg, .int 0, .int 0, .int 0, .int 0, .ref t0, .int 0, .ref t1, .ref t2, .ref t3, .ref t4, .int 0, .ref t5, .ref t6, .ref t7])), (dg, .inr (4, [.int 0, .int 0, .int 0, .ref dq]))] (S := Unit) (fun r _ => r = 0) (fun _ => []) := by
  refine ctI.of (by decide +kernel) (Nat.le_of_ble_eq_true rfl) ?_
  intro p e s m args below meth c A ls X hr hlocks hin hA hP hD hS hl
  have hx := X.1
  have hb := X.2.1
  have hK := X.2.2.2.2.2.1
  have hl : lv_has ls 5 [(0, .ref tp), (1, .int 0), (2, .ref dr)] := hl
  refine lv_aload_n hx hb dX9_read_0 rfl (lv_at hl 0 rfl) ?_
  refine lv_iload_n hx hb dX9_read_1 rfl (lv_at hl 1 rfl) ?_
  refine lv_aload_n hx hb dX9_read_2 rfl (lv_at hl 0 rfl) ?_
  refine r_get X kcX9 (ci := 8) rfl hP 0 rfl 1 (by decide) fX9_15 rfl dX9_read_3 ?_
  refine va_mmin hx hb (X.2.2.1.trans hl.1.symm) X.2.2.2.1 (X.2.2.2.2.1 _ w_526) (X.2.2.2.2.1 _ w_527) (X.2.2.2.2.1 _ w_113) (X.2.2.2.2.1 _ w_528) (Nat.le_of_ble_eq_true rfl) (Nat.le_of_ble_eq_true rfl) (Nat.le_of_ble_eq_true rfl) (Nat.le_of_ble_eq_true rfl) dX9_read_6 ?_
  refine lv_topi (fun x_1 ex_1 => ?_)
  have ex_1 : x_1 = 0 := ex_1.trans (by decide)
  subst ex_1
  refine r_put X kcX9 (ci := 8) rfl hP hD hS 0 rfl 2 (by decide) fX9_25 rfl rfl rfl (Nat.le_of_ble_eq_true rfl) dX9_read_9 (fun H locs hP hD hS => ?_)
  have hP : va_P (dC, dI) vwCl [(tp, .inr (8, [.ref bt, .int 0, .int 0, .int 0, .int 0, .int 0, .int 0, .int 0, .int 0])), (dr, .inr (7, [.ref dg, .int 0, .int 0, .int 0, .int 0, .ref t0, .int 0, .ref t1, .ref t2, .ref t3, .ref t4, .int 0, .ref t5, .ref t6, .ref t7])), (dg, .inr (4, [.int 0, .int 0, .int 0, .ref dq]))] H := hP
  have hD : va_D A [(tp, .inr (8, [.ref bt, .int 0, .int 0, .int 0, .int 0, .int 0, .int 0, .int 0, .int 0])), (dr, .inr (7, [.ref dg, .int 0, .int 0, .int 0, .int 0, .ref t0, .int 0, .ref t1, .ref t2, .ref t3, .ref t4, .int 0, .ref t5, .ref t6, .ref t7])), (dg, .inr (4, [.int 0, .int 0, .int 0, .ref dq]))] := hD
  refine lv_aload_n hx hb dX9_read_12 rfl (lv_at hl 0 rfl) ?_
  refine lv_iconst (v := 0) hx hb dX9_read_13 (by decide) ?_
  refine r_put X kcX9 (ci := 8) rfl hP hD hS 0 rfl 1 (by decide) fX9_15 rfl rfl rfl (Nat.le_of_ble_eq_true rfl) dX9_read_14 (fun H locs hP hD hS => ?_)
  have hP : va_P (dC, dI) vwCl [(tp, .inr (8, [.ref bt, .int 0, .int 0, .int 0, .int 0, .int 0, .int 0, .int 0, .int 0])), (dr, .inr (7, [.ref dg, .int 0, .int 0, .int 0, .int 0, .ref t0, .int 0, .ref t1, .ref t2, .ref t3, .ref t4, .int 0, .ref t5, .ref t6, .ref t7])), (dg, .inr (4, [.int 0, .int 0, .int 0, .ref dq]))] H := hP
  have hD : va_D A [(tp, .inr (8, [.ref bt, .int 0, .int 0, .int 0, .int 0, .int 0, .int 0, .int 0, .int 0])), (dr, .inr (7, [.ref dg, .int 0, .int 0, .int 0, .int 0, .ref t0, .int 0, .ref t1, .ref t2, .ref t3, .ref t4, .int 0, .ref t5, .ref t6, .ref t7])), (dg, .inr (4, [.int 0, .int 0, .int 0, .ref dq]))] := hD
  refine lv_aload_n hx hb dX9_read_17 rfl (lv_at hl 0 rfl) ?_
  refine lv_iconst (v := 0) hx hb dX9_read_18 (by decide) ?_
  refine r_put X kcX9 (ci := 8) rfl hP hD hS 0 rfl 5 (by decide) fX9_28 rfl rfl rfl (Nat.le_of_ble_eq_true rfl) dX9_read_19 (fun H locs hP hD hS => ?_)
  have hP : va_P (dC, dI) vwCl [(tp, .inr (8, [.ref bt, .int 0, .int 0, .int 0, .int 0, .int 0, .int 0, .int 0, .int 0])), (dr, .inr (7, [.ref dg, .int 0, .int 0, .int 0, .int 0, .ref t0, .int 0, .ref t1, .ref t2, .ref t3, .ref t4, .int 0, .ref t5, .ref t6, .ref t7])), (dg, .inr (4, [.int 0, .int 0, .int 0, .ref dq]))] H := hP
  have hD : va_D A [(tp, .inr (8, [.ref bt, .int 0, .int 0, .int 0, .int 0, .int 0, .int 0, .int 0, .int 0])), (dr, .inr (7, [.ref dg, .int 0, .int 0, .int 0, .int 0, .ref t0, .int 0, .ref t1, .ref t2, .ref t3, .ref t4, .int 0, .ref t5, .ref t6, .ref t7])), (dg, .inr (4, [.int 0, .int 0, .int 0, .ref dq]))] := hD
  refine lv_aload_n hx hb dX9_read_22 rfl (lv_at hl 0 rfl) ?_
  refine lv_iconst (v := 0) hx hb dX9_read_23 (by decide) ?_
  refine r_put X kcX9 (ci := 8) rfl hP hD hS 0 rfl 7 (by decide) fX9_31 rfl rfl rfl (Nat.le_of_ble_eq_true rfl) dX9_read_24 (fun H locs hP hD hS => ?_)
  have hP : va_P (dC, dI) vwCl [(tp, .inr (8, [.ref bt, .int 0, .int 0, .int 0, .int 0, .int 0, .int 0, .int 0, .int 0])), (dr, .inr (7, [.ref dg, .int 0, .int 0, .int 0, .int 0, .ref t0, .int 0, .ref t1, .ref t2, .ref t3, .ref t4, .int 0, .ref t5, .ref t6, .ref t7])), (dg, .inr (4, [.int 0, .int 0, .int 0, .ref dq]))] H := hP
  have hD : va_D A [(tp, .inr (8, [.ref bt, .int 0, .int 0, .int 0, .int 0, .int 0, .int 0, .int 0, .int 0])), (dr, .inr (7, [.ref dg, .int 0, .int 0, .int 0, .int 0, .ref t0, .int 0, .ref t1, .ref t2, .ref t3, .ref t4, .int 0, .ref t5, .ref t6, .ref t7])), (dg, .inr (4, [.int 0, .int 0, .int 0, .ref dq]))] := hD
  refine lv_aload_n hx hb dX9_read_27 rfl (lv_at hl 0 rfl) ?_
  refine lv_iconst (v := -1) hx hb dX9_read_28 (by decide) ?_
  refine r_put X kcX9 (ci := 8) rfl hP hD hS 0 rfl 8 (by decide) fX9_34 rfl rfl rfl (Nat.le_of_ble_eq_true rfl) dX9_read_29 (fun H locs hP hD hS => ?_)
  have hP : va_P (dC, dI) vwCl [(tp, .inr (8, [.ref bt, .int 0, .int 0, .int 0, .int 0, .int 0, .int 0, .int 0, .int (-1)])), (dr, .inr (7, [.ref dg, .int 0, .int 0, .int 0, .int 0, .ref t0, .int 0, .ref t1, .ref t2, .ref t3, .ref t4, .int 0, .ref t5, .ref t6, .ref t7])), (dg, .inr (4, [.int 0, .int 0, .int 0, .ref dq]))] H := hP
  have hD : va_D A [(tp, .inr (8, [.ref bt, .int 0, .int 0, .int 0, .int 0, .int 0, .int 0, .int 0, .int (-1)])), (dr, .inr (7, [.ref dg, .int 0, .int 0, .int 0, .int 0, .ref t0, .int 0, .ref t1, .ref t2, .ref t3, .ref t4, .int 0, .ref t5, .ref t6, .ref t7])), (dg, .inr (4, [.int 0, .int 0, .int 0, .ref dq]))] := hD
  refine lv_aload_n hx hb dX9_read_32 rfl (lv_at hl 2 rfl) ?_
  refine fV (wr := [(tp, .inr (8, [.ref bt, .int 0, .int 0, .int 0, .int 0, .int 0, .int 0, .int 0, .int (-1)]))]) (rV_V (wc := [(dr, .inr (7, [.ref dg, .int 0, .int 0, .int 0, .int 0, .ref t0, .int 0, .ref t1, .ref t2, .ref t3, .ref t4, .int 0, .ref t5, .ref t6, .ref t7])), (dg, .inr (4, [.int 0, .int 0, .int 0, .ref dq]))]) (As := []) (rest := []) X (tX7_clear l dC dI cy dr dg dq t0 t1 t2 t3 t4 t5 t6 t7) kX7_clear vX7_clear mX9_37 hP hD [1, 2] (by decide) rfl 0 (ci := 7) rfl rfl rfl hl rfl rfl (Nat.le_of_ble_eq_true rfl) dX9_read_33 ⟨Nat.le_of_ble_eq_true rfl, Nat.le_of_ble_eq_true rfl⟩ ⟨Nat.le_of_ble_eq_true rfl, Nat.le_of_ble_eq_true rfl⟩) hP hD hS hA [1, 2] [0] rfl rfl (by decide) (by decide) (fun u_4 H locs k_3 hP hD hS => ?_)
  have hP : va_P (dC, dI) vwCl [(tp, .inr (8, [.ref bt, .int 0, .int 0, .int 0, .int 0, .int 0, .int 0, .int 0, .int (-1)]))] H := hP
  have hD : va_D A [(tp, .inr (8, [.ref bt, .int 0, .int 0, .int 0, .int 0, .int 0, .int 0, .int 0, .int (-1)]))] := hD
  refine lv_aload_n hx hb dX9_read_36 rfl (lv_at hl 0 rfl) ?_
  refine fV (wr := []) (rV_V (wc := [(tp, .inr (8, [.ref bt, .int 0, .int 0, .int 0, .int 0, .int 0, .int 0, .int 0, .int (-1)]))]) (As := []) (rest := []) X (tX9_next l dC dI cy tp bt) kX9_next vX9_next mX9_42 hP hD [0] (by decide) rfl 0 (ci := 8) rfl rfl rfl hl rfl rfl (Nat.le_of_ble_eq_true rfl) dX9_read_37 ⟨Nat.le_of_ble_eq_true rfl, Nat.le_of_ble_eq_true rfl⟩ ⟨Nat.le_of_ble_eq_true rfl, Nat.le_of_ble_eq_true rfl⟩) hP hD hS hA [0] [] rfl rfl (by decide) (by decide) (fun u_7 H locs k_6 hP hD hS => ?_)
  have hP : va_P (dC, dI) vwCl [(tp, .inr (8, [.ref bt, .int 0, .int 0, .int 4, .int 0, .int 0, .int 0, .int 0, .int (-1)]))] H := hP
  have hD : va_D A [(tp, .inr (8, [.ref bt, .int 0, .int 0, .int 4, .int 0, .int 0, .int 0, .int 0, .int (-1)]))] := hD
  refine lv_iconst (v := 0) hx hb dX9_read_40 (by decide) ?_
  refine lv_istore_n (lv' := [(3, .int 0), (0, .ref tp), (1, .int 0), (2, .ref dr)]) hx hb dX9_read_41 rfl hl (by decide) rfl (fun ls hl => ?_)
  refine lv_iload_n hx hb dX9_read_42 rfl (lv_at hl 0 rfl) ?_
  refine lv_sipush (v := 800) hx hb dX9_read_43 (by decide) ?_
  refine lv_icmp_gt (tgt := 192) hx hb dX9_read_46 (by decide) (fun h_8 => absurd h_8 (by decide)) (fun _ => ?_)
  refine lv_aload_n hx hb dX9_read_49 rfl (lv_at hl 1 rfl) ?_
  refine fI (wr := []) (rV_I (wc := [(tp, .inr (8, [.ref bt, .int 0, .int 0, .int 4, .int 0, .int 0, .int 0, .int 0, .int (-1)]))]) (As := []) (rest := []) X (tX9_lineWord l dC dI cy tp bt) kX9_lineWord vX9_lineWord mX9_45 hP hD [0] (by decide) rfl 0 (ci := 8) rfl rfl rfl hl rfl rfl (Nat.le_of_ble_eq_true rfl) dX9_read_50 ⟨Nat.le_of_ble_eq_true rfl, Nat.le_of_ble_eq_true rfl⟩ ⟨Nat.le_of_ble_eq_true rfl, Nat.le_of_ble_eq_true rfl⟩) hP hD hS hA [0] [] rfl rfl (by decide) (by decide) (fun r_9 u_11 H locs k_10 hP hD hS => ?_)
  have hP : va_P (dC, dI) vwCl [(tp, .inr (8, [.ref bt, .int 0, .int 0, .int 4, .int 0, .int 0, .int 0, .int 0, .int (-1)]))] H := hP
  have hD : va_D A [(tp, .inr (8, [.ref bt, .int 0, .int 0, .int 4, .int 0, .int 0, .int 0, .int 0, .int (-1)]))] := hD
  have er_9 : r_9 = -1 := k_10
  subst er_9
  refine lv_tableOut (tgt := 124) hx hb dX9_read_53 (by decide) (by decide) ?_
  refine lv_aload_n hx hb dX9_read_124 rfl (lv_at hl 1 rfl) ?_
  refine lv_iconst (v := 1) hx hb dX9_read_125 (by decide) ?_
  refine fI (wr := []) (rV_I (wc := [(tp, .inr (8, [.ref bt, .int 0, .int 0, .int 4, .int 0, .int 0, .int 0, .int 0, .int (-1)]))]) (As := [.int 1]) (rest := []) X (tX9_wrong l dC dI cy tp bt) kX9_wrong vX9_wrong mX9_62 hP hD [0] (by decide) rfl 0 (ci := 8) rfl rfl rfl hl rfl rfl (Nat.le_of_ble_eq_true rfl) dX9_read_126 ⟨Nat.le_of_ble_eq_true rfl, Nat.le_of_ble_eq_true rfl⟩ ⟨Nat.le_of_ble_eq_true rfl, Nat.le_of_ble_eq_true rfl⟩) hP hD hS hA [0] [] rfl rfl (by decide) (by decide) (fun r_12 u_14 H locs k_13 hP hD hS => ?_)
  have hP : va_P (dC, dI) vwCl [] H := hP
  have hD : va_D A [] := hD
  have er_12 : r_12 = 0 := k_13
  subst er_12
  refine lv_istore (lv' := [(4, .int 0), (3, .int 0), (0, .ref tp), (1, .int 0), (2, .ref dr)]) hx hb dX9_read_129 hl (by decide) rfl (fun ls hl => ?_)
  refine lv_iload hx hb dX9_read_131 (lv_at hl 0 rfl) ?_
  refine lv_if_ne (tgt := 138) hx hb dX9_read_133 (by decide) (fun h_15 => absurd (by decide) h_15) (fun _ => ?_)
  refine lv_iconst (v := 0) hx hb dX9_read_136 (by decide) ?_
  exact eI X hr hlocks hP hD hS () [] (by decide) rfl rfl rfl (Nat.le_of_ble_eq_true rfl) (Nat.le_of_ble_eq_true rfl) dX9_read_137
set_option maxHeartbeats 4000000 in
set_option maxRecDepth 100000 in
theorem tX11_park (l : Launch) (dC : Nat → ClassId) (dI : Nat → Nat → Nat) (cy : Nat → ClassId) (h0 : Nat) (tp : Nat) (v1 : Value) (v2 : Value) (v3 : Value) (v4 : Value) (v5 : Value) (v6 : Value) (v7 : Value) (v8 : Value) (v9 : Value) (v10 : Value) (v11 : Value) (v12 : Value) (dr : Nat) (v14 : Value) (v15 : Value) (v16 : Value) (bt : Nat) (dg : Nat) (dq : Nat) (t0 : Nat) (t1 : Nat) (t2 : Nat) (t3 : Nat) (t4 : Nat) (t5 : Nat) (t6 : Nat) (t7 : Nat) (p1 : Int32) : ctI l dC dI cy yX11_park cX11_park 3 .int ({ frames := 3, cells := 0, slots := 0, locals := 70 }) [.ref h0, .int p1] [(h0, .inr (10, [.ref tp, v1, v2, v3, v4, v5, v6, v7, v8, v9, v10, v11, v12, .ref dr, v14, v15, v16])), (tp, .inr (8, [.ref bt, .int 0, .int 0, .int 0, .int 0, .int 0, .int 0, .int 0, .int 0])), (dr, .inr (7, [.ref dg, .int 0, .int 0, .int 0, .int 0, .ref t0, .int 0, .ref t1, .ref t2, .ref t3, .ref t4, .int 0, .ref t5, .ref t6, .ref t7])), (dg, .inr (4, [.int 0, .int 0, .int 0, .ref dq]))] (S := Unit) (fun r _ => r = -1) (fun _ => []) := by
  refine ctI.of (by decide +kernel) (Nat.le_of_ble_eq_true rfl) ?_
  intro p e s m args below meth c A ls X hr hlocks hin hA hP hD hS hl
  have hx := X.1
  have hb := X.2.1
  have hK := X.2.2.2.2.2.1
  have hl : lv_has ls 3 [(0, .ref h0), (1, .int p1)] := hl
  refine lv_iload_n hx hb dX11_park_0 rfl (lv_at hl 1 rfl) ?_
  refine lv_if_lt (tgt := 15) hx hb dX11_park_1 (by decide) (fun h_1 => ?_) (fun h_1 => ?_)
  · have h_1 : p1.toInt < 0 := c_lt h_1
    refine lv_aload_n hx hb dX11_park_15 rfl (lv_at hl 0 rfl) ?_
    refine lv_iconst (v := 2) hx hb dX11_park_16 (by decide) ?_
    refine fI (wr := [(tp, .inr (8, [.ref bt, .int 0, .int 0, .int 0, .int 0, .int 0, .int 0, .int 0, .int 0])), (dr, .inr (7, [.ref dg, .int 0, .int 0, .int 0, .int 0, .ref t0, .int 0, .ref t1, .ref t2, .ref t3, .ref t4, .int 0, .ref t5, .ref t6, .ref t7])), (dg, .inr (4, [.int 0, .int 0, .int 0, .ref dq]))]) (rV_I (wc := [(h0, .inr (10, [.ref tp, v1, v2, v3, v4, v5, v6, v7, v8, v9, v10, v11, v12, .ref dr, v14, v15, v16]))]) (As := [.int 2]) (rest := []) X (tX11_refuse l dC dI cy h0 (.ref tp) v1 v2 v3 v4 v5 v6 v7 v8 v9 v10 v11 v12 (.ref dr) v14 v15 v16 2) kX11_refuse vX11_refuse mX11_100 hP hD [0] (by decide) rfl 0 (ci := 10) rfl rfl rfl hl rfl rfl (Nat.le_of_ble_eq_true rfl) dX11_park_17 ⟨Nat.le_of_ble_eq_true rfl, Nat.le_of_ble_eq_true rfl⟩ ⟨Nat.le_of_ble_eq_true rfl, Nat.le_of_ble_eq_true rfl⟩) hP hD hS hA [0] [1, 2, 3] rfl rfl (by decide) (by decide) (fun r_2 u_4 H locs k_3 hP hD hS => ?_)
    have hP : va_P (dC, dI) vwCl [(tp, .inr (8, [.ref bt, .int 0, .int 0, .int 0, .int 0, .int 0, .int 0, .int 0, .int 0])), (dr, .inr (7, [.ref dg, .int 0, .int 0, .int 0, .int 0, .ref t0, .int 0, .ref t1, .ref t2, .ref t3, .ref t4, .int 0, .ref t5, .ref t6, .ref t7])), (dg, .inr (4, [.int 0, .int 0, .int 0, .ref dq]))] H := hP
    have hD : va_D A [(tp, .inr (8, [.ref bt, .int 0, .int 0, .int 0, .int 0, .int 0, .int 0, .int 0, .int 0])), (dr, .inr (7, [.ref dg, .int 0, .int 0, .int 0, .int 0, .ref t0, .int 0, .ref t1, .ref t2, .ref t3, .ref t4, .int 0, .ref t5, .ref t6, .ref t7])), (dg, .inr (4, [.int 0, .int 0, .int 0, .ref dq]))] := hD
    have er_2 : r_2 = -1 := k_3
    subst er_2
    exact eI X hr hlocks hP hD hS () [] (by decide) rfl rfl rfl (Nat.le_of_ble_eq_true rfl) (Nat.le_of_ble_eq_true rfl) dX11_park_20
  · have h_1 : 0 ≤ p1.toInt := c_nlt h_1
    refine lv_iload_n hx hb dX11_park_4 rfl (lv_at hl 1 rfl) ?_
    refine lv_aload_n hx hb dX11_park_5 rfl (lv_at hl 0 rfl) ?_
    refine r_get X kcX11 (ci := 10) rfl hP 0 rfl 0 (by decide) fX11_10 rfl dX11_park_6 ?_
    refine r_get X kcX9 (ci := 8) rfl hP 1 rfl 1 (by decide) fX11_96 rfl dX11_park_9 ?_
    refine lv_icmp_le (tgt := 21) hx hb dX11_park_12 (by decide) (fun h_5 => ?_) (fun h_5 => ?_)
    · have h_5 : p1.toInt ≤ 0 := c_le h_5
      have ep : p1 = 0 := Int32.toInt_inj.mp (by show p1.toInt = 0; omega)
      subst ep
      refine lv_aload_n hx hb dX11_park_21 rfl (lv_at hl 0 rfl) ?_
      refine r_get X kcX11 (ci := 10) rfl hP 0 rfl 0 (by decide) fX11_10 rfl dX11_park_22 ?_
      refine lv_iload_n hx hb dX11_park_25 rfl (lv_at hl 1 rfl) ?_
      refine lv_aload_n hx hb dX11_park_26 rfl (lv_at hl 0 rfl) ?_
      refine r_get X kcX11 (ci := 10) rfl hP 0 rfl 13 (by decide) fX11_85 rfl dX11_park_27 ?_
      refine fI (wr := [(h0, .inr (10, [.ref tp, v1, v2, v3, v4, v5, v6, v7, v8, v9, v10, v11, v12, .ref dr, v14, v15, v16]))]) (rV_I (wc := [(tp, .inr (8, [.ref bt, .int 0, .int 0, .int 0, .int 0, .int 0, .int 0, .int 0, .int 0])), (dr, .inr (7, [.ref dg, .int 0, .int 0, .int 0, .int 0, .ref t0, .int 0, .ref t1, .ref t2, .ref t3, .ref t4, .int 0, .ref t5, .ref t6, .ref t7])), (dg, .inr (4, [.int 0, .int 0, .int 0, .ref dq]))]) (As := [.int 0, .ref dr]) (rest := []) X (tX9_read l dC dI cy tp bt dr dg dq t0 t1 t2 t3 t4 t5 t6 t7) kX9_read vX9_read mX11_104 hP hD [1, 2, 3] (by decide) rfl 0 (ci := 8) rfl rfl rfl hl rfl rfl (Nat.le_of_ble_eq_true rfl) dX11_park_30 ⟨Nat.le_of_ble_eq_true rfl, Nat.le_of_ble_eq_true rfl⟩ ⟨Nat.le_of_ble_eq_true rfl, Nat.le_of_ble_eq_true rfl⟩) hP hD hS hA [1, 2, 3] [0] rfl rfl (by decide) (by decide) (fun r_6 u_8 H locs k_7 hP hD hS => ?_)
      have hP : va_P (dC, dI) vwCl [(h0, .inr (10, [.ref tp, v1, v2, v3, v4, v5, v6, v7, v8, v9, v10, v11, v12, .ref dr, v14, v15, v16]))] H := hP
      have hD : va_D A [(h0, .inr (10, [.ref tp, v1, v2, v3, v4, v5, v6, v7, v8, v9, v10, v11, v12, .ref dr, v14, v15, v16]))] := hD
      have er_6 : r_6 = 0 := k_7
      subst er_6
      refine lv_if_ne (tgt := 42) hx hb dX11_park_33 (by decide) (fun h_9 => absurd (by decide) h_9) (fun _ => ?_)
      refine lv_aload_n hx hb dX11_park_36 rfl (lv_at hl 0 rfl) ?_
      refine lv_iconst (v := 4) hx hb dX11_park_37 (by decide) ?_
      refine fI (wr := []) (rV_I (wc := [(h0, .inr (10, [.ref tp, v1, v2, v3, v4, v5, v6, v7, v8, v9, v10, v11, v12, .ref dr, v14, v15, v16]))]) (As := [.int 4]) (rest := []) X (tX11_refuse l dC dI cy h0 (.ref tp) v1 v2 v3 v4 v5 v6 v7 v8 v9 v10 v11 v12 (.ref dr) v14 v15 v16 4) kX11_refuse vX11_refuse mX11_100 hP hD [0] (by decide) rfl 0 (ci := 10) rfl rfl rfl hl rfl rfl (Nat.le_of_ble_eq_true rfl) dX11_park_38 ⟨Nat.le_of_ble_eq_true rfl, Nat.le_of_ble_eq_true rfl⟩ ⟨Nat.le_of_ble_eq_true rfl, Nat.le_of_ble_eq_true rfl⟩) hP hD hS hA [0] [] rfl rfl (by decide) (by decide) (fun r_10 u_12 H locs k_11 hP hD hS => ?_)
      have hP : va_P (dC, dI) vwCl [] H := hP
      have hD : va_D A [] := hD
      have er_10 : r_10 = -1 := k_11
      subst er_10
      exact eI X hr hlocks hP hD hS () [] (by decide) rfl rfl rfl (Nat.le_of_ble_eq_true rfl) (Nat.le_of_ble_eq_true rfl) dX11_park_41
    · have h_5 : 0 < p1.toInt := c_nle h_5
      refine lv_aload_n hx hb dX11_park_15 rfl (lv_at hl 0 rfl) ?_
      refine lv_iconst (v := 2) hx hb dX11_park_16 (by decide) ?_
      refine fI (wr := [(tp, .inr (8, [.ref bt, .int 0, .int 0, .int 0, .int 0, .int 0, .int 0, .int 0, .int 0])), (dr, .inr (7, [.ref dg, .int 0, .int 0, .int 0, .int 0, .ref t0, .int 0, .ref t1, .ref t2, .ref t3, .ref t4, .int 0, .ref t5, .ref t6, .ref t7])), (dg, .inr (4, [.int 0, .int 0, .int 0, .ref dq]))]) (rV_I (wc := [(h0, .inr (10, [.ref tp, v1, v2, v3, v4, v5, v6, v7, v8, v9, v10, v11, v12, .ref dr, v14, v15, v16]))]) (As := [.int 2]) (rest := []) X (tX11_refuse l dC dI cy h0 (.ref tp) v1 v2 v3 v4 v5 v6 v7 v8 v9 v10 v11 v12 (.ref dr) v14 v15 v16 2) kX11_refuse vX11_refuse mX11_100 hP hD [0] (by decide) rfl 0 (ci := 10) rfl rfl rfl hl rfl rfl (Nat.le_of_ble_eq_true rfl) dX11_park_17 ⟨Nat.le_of_ble_eq_true rfl, Nat.le_of_ble_eq_true rfl⟩ ⟨Nat.le_of_ble_eq_true rfl, Nat.le_of_ble_eq_true rfl⟩) hP hD hS hA [0] [1, 2, 3] rfl rfl (by decide) (by decide) (fun r_13 u_15 H locs k_14 hP hD hS => ?_)
      have hP : va_P (dC, dI) vwCl [(tp, .inr (8, [.ref bt, .int 0, .int 0, .int 0, .int 0, .int 0, .int 0, .int 0, .int 0])), (dr, .inr (7, [.ref dg, .int 0, .int 0, .int 0, .int 0, .ref t0, .int 0, .ref t1, .ref t2, .ref t3, .ref t4, .int 0, .ref t5, .ref t6, .ref t7])), (dg, .inr (4, [.int 0, .int 0, .int 0, .ref dq]))] H := hP
      have hD : va_D A [(tp, .inr (8, [.ref bt, .int 0, .int 0, .int 0, .int 0, .int 0, .int 0, .int 0, .int 0])), (dr, .inr (7, [.ref dg, .int 0, .int 0, .int 0, .int 0, .ref t0, .int 0, .ref t1, .ref t2, .ref t3, .ref t4, .int 0, .ref t5, .ref t6, .ref t7])), (dg, .inr (4, [.int 0, .int 0, .int 0, .ref dq]))] := hD
      have er_13 : r_13 = -1 := k_14
      subst er_13
      exact eI X hr hlocks hP hD hS () [] (by decide) rfl rfl rfl (Nat.le_of_ble_eq_true rfl) (Nat.le_of_ble_eq_true rfl) dX11_park_20
