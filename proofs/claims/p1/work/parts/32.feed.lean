set_option maxHeartbeats 4000000 in
set_option maxRecDepth 100000 in
theorem tX9_hasRoom (l : Launch) (dC : Nat → ClassId) (dI : Nat → Nat → Nat) (cy : Nat → ClassId) (tp : Nat) (bt : Nat) : ctI l dC dI cy yX9_hasRoom cX9_hasRoom 1 .boolean ({ frames := 0, cells := 0, slots := 0, locals := 0 }) [.ref tp] [(tp, .inr (8, [.ref bt, .int 0, .int 0, .int 0, .int 0, .int 0, .int 0, .int 0, .int 0]))] (S := Unit) (fun r _ => r = 1) (fun _ => [(tp, .inr (8, [.ref bt, .int 0, .int 0, .int 0, .int 0, .int 0, .int 0, .int 0, .int 0]))]) := by
  refine ctI.of (by decide +kernel) (Nat.le_of_ble_eq_true rfl) ?_
  intro p e s m args below meth c A ls X hr hlocks hin hA hP hD hS hl
  have hx := X.1
  have hb := X.2.1
  have hK := X.2.2.2.2.2.1
  have hl : lv_has ls 1 [(0, .ref tp)] := hl
  refine lv_aload_n hx hb dX9_hasRoom_0 rfl (lv_at hl 0 rfl) ?_
  refine r_get X kcX9 (ci := 8) rfl hP 0 rfl 1 (by decide) fX9_15 rfl dX9_hasRoom_1 ?_
  refine lv_bipush (v := 20) hx hb dX9_hasRoom_4 (by decide) ?_
  refine lv_iadd hx hb dX9_hasRoom_6 ?_
  refine lv_topi (fun x_1 ex_1 => ?_)
  have ex_1 : x_1 = 20 := ex_1.trans (by decide)
  subst ex_1
  refine lv_sipush (v := 800) hx hb dX9_hasRoom_7 (by decide) ?_
  refine lv_icmp_gt (tgt := 17) hx hb dX9_hasRoom_10 (by decide) (fun h_2 => absurd h_2 (by decide)) (fun _ => ?_)
  refine lv_iconst (v := 1) hx hb dX9_hasRoom_13 (by decide) ?_
  refine lv_goto (tgt := 18) hx hb dX9_hasRoom_14 (by decide) ?_
  exact eI X hr hlocks hP hD hS () [0] (by decide) rfl rfl rfl (Nat.le_of_ble_eq_true rfl) (Nat.le_of_ble_eq_true rfl) dX9_hasRoom_18
set_option maxHeartbeats 4000000 in
set_option maxRecDepth 100000 in
theorem tX9_append0 (l : Launch) (dC : Nat → ClassId) (dI : Nat → Nat → Nat) (cy : Nat → ClassId) (tp : Nat) (bt : Nat) (fb : Nat → Int32) (p1 : Int32) : ctV l dC dI cy yX9_append cX9_append 2 ({ frames := 0, cells := 0, slots := 0, locals := 0 }) [.ref tp, .int p1] [(tp, .inr (8, [.ref bt, .int 0, .int 0, .int 0, .int 0, .int 0, .int 0, .int 0, .int 0])), (bt, .inl (cy 0, 800, .inl fb))] (S := (Nat → Int32)) (fun _ => True) (fun f2 => [(tp, .inr (8, [.ref bt, .int 4, .int 0, .int 0, .int 0, .int 0, .int 0, .int 0, .int 0])), (bt, .inl (cy 0, 800, .inl f2))]) := by
  refine ctV.of (by decide +kernel) (Nat.le_of_ble_eq_true rfl) ?_
  intro p e s m args below meth c A ls X hr hlocks hin hA hP hD hS hl
  have hx := X.1
  have hb := X.2.1
  have hK := X.2.2.2.2.2.1
  have hl : lv_has ls 2 [(0, .ref tp), (1, .int p1)] := hl
  refine lv_aload_n hx hb dX9_append_0 rfl (lv_at hl 0 rfl) ?_
  refine r_get X kcX9 (ci := 8) rfl hP 0 rfl 1 (by decide) fX9_15 rfl dX9_append_1 ?_
  refine lv_iconst (v := 4) hx hb dX9_append_4 (by decide) ?_
  refine lv_iadd hx hb dX9_append_5 ?_
  refine lv_topi (fun x_1 ex_1 => ?_)
  have ex_1 : x_1 = 4 := ex_1.trans (by decide)
  subst ex_1
  refine lv_sipush (v := 800) hx hb dX9_append_6 (by decide) ?_
  refine lv_icmp_gt (tgt := 81) hx hb dX9_append_9 (by decide) (fun h_2 => absurd h_2 (by decide)) (fun _ => ?_)
  refine lv_aload_n hx hb dX9_append_12 rfl (lv_at hl 0 rfl) ?_
  refine r_get X kcX9 (ci := 8) rfl hP 0 rfl 0 (by decide) fX9_11 rfl dX9_append_13 ?_
  refine lv_aload_n hx hb dX9_append_16 rfl (lv_at hl 0 rfl) ?_
  refine r_get X kcX9 (ci := 8) rfl hP 0 rfl 1 (by decide) fX9_15 rfl dX9_append_17 ?_
  refine lv_iload_n hx hb dX9_append_20 rfl (lv_at hl 1 rfl) ?_
  refine lv_bipush (v := 24) hx hb dX9_append_21 (by decide) ?_
  refine lv_ishr hx hb dX9_append_23 ?_
  refine lv_topi (fun x_3 ex_3 => ?_)
  obtain ⟨x_4, ex_4⟩ : ∃ y : Int32, x_3.toInt8.toInt32 = y := ⟨_, rfl⟩
  refine lv_i2b hx hb dX9_append_24 ex_4 ?_
  refine va_bast (D := (dC, dI)) (cl := vwCl) hx hb hK hP hD hS 1 0 rfl rfl (i := 0) (by unfold vp_in; decide) dX9_append_25 (fun H locs hP hD hS => ?_)
  generalize upd fb (Int32.toNatClampNeg 0) (vp_nar .byte x_4) = f_5 at hP hD
  have hP : va_P (dC, dI) vwCl [(tp, .inr (8, [.ref bt, .int 0, .int 0, .int 0, .int 0, .int 0, .int 0, .int 0, .int 0])), (bt, .inl (cy 0, 800, .inl f_5))] H := hP
  have hD : va_D A [(tp, .inr (8, [.ref bt, .int 0, .int 0, .int 0, .int 0, .int 0, .int 0, .int 0, .int 0])), (bt, .inl (cy 0, 800, .inl f_5))] := hD
  refine lv_aload_n hx hb dX9_append_26 rfl (lv_at hl 0 rfl) ?_
  refine r_get X kcX9 (ci := 8) rfl hP 0 rfl 0 (by decide) fX9_11 rfl dX9_append_27 ?_
  refine lv_aload_n hx hb dX9_append_30 rfl (lv_at hl 0 rfl) ?_
  refine r_get X kcX9 (ci := 8) rfl hP 0 rfl 1 (by decide) fX9_15 rfl dX9_append_31 ?_
  refine lv_iconst (v := 1) hx hb dX9_append_34 (by decide) ?_
  refine lv_iadd hx hb dX9_append_35 ?_
  refine lv_topi (fun x_6 ex_6 => ?_)
  have ex_6 : x_6 = 1 := ex_6.trans (by decide)
  subst ex_6
  refine lv_iload_n hx hb dX9_append_36 rfl (lv_at hl 1 rfl) ?_
  refine lv_bipush (v := 16) hx hb dX9_append_37 (by decide) ?_
  refine lv_ishr hx hb dX9_append_39 ?_
  refine lv_topi (fun x_7 ex_7 => ?_)
  obtain ⟨x_8, ex_8⟩ : ∃ y : Int32, x_7.toInt8.toInt32 = y := ⟨_, rfl⟩
  refine lv_i2b hx hb dX9_append_40 ex_8 ?_
  refine va_bast (D := (dC, dI)) (cl := vwCl) hx hb hK hP hD hS 1 0 rfl rfl (i := 1) (by unfold vp_in; decide) dX9_append_41 (fun H locs hP hD hS => ?_)
  generalize upd f_5 (Int32.toNatClampNeg 1) (vp_nar .byte x_8) = f_9 at hP hD
  have hP : va_P (dC, dI) vwCl [(tp, .inr (8, [.ref bt, .int 0, .int 0, .int 0, .int 0, .int 0, .int 0, .int 0, .int 0])), (bt, .inl (cy 0, 800, .inl f_9))] H := hP
  have hD : va_D A [(tp, .inr (8, [.ref bt, .int 0, .int 0, .int 0, .int 0, .int 0, .int 0, .int 0, .int 0])), (bt, .inl (cy 0, 800, .inl f_9))] := hD
  refine lv_aload_n hx hb dX9_append_42 rfl (lv_at hl 0 rfl) ?_
  refine r_get X kcX9 (ci := 8) rfl hP 0 rfl 0 (by decide) fX9_11 rfl dX9_append_43 ?_
  refine lv_aload_n hx hb dX9_append_46 rfl (lv_at hl 0 rfl) ?_
  refine r_get X kcX9 (ci := 8) rfl hP 0 rfl 1 (by decide) fX9_15 rfl dX9_append_47 ?_
  refine lv_iconst (v := 2) hx hb dX9_append_50 (by decide) ?_
  refine lv_iadd hx hb dX9_append_51 ?_
  refine lv_topi (fun x_10 ex_10 => ?_)
  have ex_10 : x_10 = 2 := ex_10.trans (by decide)
  subst ex_10
  refine lv_iload_n hx hb dX9_append_52 rfl (lv_at hl 1 rfl) ?_
  refine lv_bipush (v := 8) hx hb dX9_append_53 (by decide) ?_
  refine lv_ishr hx hb dX9_append_55 ?_
  refine lv_topi (fun x_11 ex_11 => ?_)
  obtain ⟨x_12, ex_12⟩ : ∃ y : Int32, x_11.toInt8.toInt32 = y := ⟨_, rfl⟩
  refine lv_i2b hx hb dX9_append_56 ex_12 ?_
  refine va_bast (D := (dC, dI)) (cl := vwCl) hx hb hK hP hD hS 1 0 rfl rfl (i := 2) (by unfold vp_in; decide) dX9_append_57 (fun H locs hP hD hS => ?_)
  generalize upd f_9 (Int32.toNatClampNeg 2) (vp_nar .byte x_12) = f_13 at hP hD
  have hP : va_P (dC, dI) vwCl [(tp, .inr (8, [.ref bt, .int 0, .int 0, .int 0, .int 0, .int 0, .int 0, .int 0, .int 0])), (bt, .inl (cy 0, 800, .inl f_13))] H := hP
  have hD : va_D A [(tp, .inr (8, [.ref bt, .int 0, .int 0, .int 0, .int 0, .int 0, .int 0, .int 0, .int 0])), (bt, .inl (cy 0, 800, .inl f_13))] := hD
  refine lv_aload_n hx hb dX9_append_58 rfl (lv_at hl 0 rfl) ?_
  refine r_get X kcX9 (ci := 8) rfl hP 0 rfl 0 (by decide) fX9_11 rfl dX9_append_59 ?_
  refine lv_aload_n hx hb dX9_append_62 rfl (lv_at hl 0 rfl) ?_
  refine r_get X kcX9 (ci := 8) rfl hP 0 rfl 1 (by decide) fX9_15 rfl dX9_append_63 ?_
  refine lv_iconst (v := 3) hx hb dX9_append_66 (by decide) ?_
  refine lv_iadd hx hb dX9_append_67 ?_
  refine lv_topi (fun x_14 ex_14 => ?_)
  have ex_14 : x_14 = 3 := ex_14.trans (by decide)
  subst ex_14
  refine lv_iload_n hx hb dX9_append_68 rfl (lv_at hl 1 rfl) ?_
  obtain ⟨x_15, ex_15⟩ : ∃ y : Int32, p1.toInt8.toInt32 = y := ⟨_, rfl⟩
  refine lv_i2b hx hb dX9_append_69 ex_15 ?_
  refine va_bast (D := (dC, dI)) (cl := vwCl) hx hb hK hP hD hS 1 0 rfl rfl (i := 3) (by unfold vp_in; decide) dX9_append_70 (fun H locs hP hD hS => ?_)
  generalize upd f_13 (Int32.toNatClampNeg 3) (vp_nar .byte x_15) = f_16 at hP hD
  have hP : va_P (dC, dI) vwCl [(tp, .inr (8, [.ref bt, .int 0, .int 0, .int 0, .int 0, .int 0, .int 0, .int 0, .int 0])), (bt, .inl (cy 0, 800, .inl f_16))] H := hP
  have hD : va_D A [(tp, .inr (8, [.ref bt, .int 0, .int 0, .int 0, .int 0, .int 0, .int 0, .int 0, .int 0])), (bt, .inl (cy 0, 800, .inl f_16))] := hD
  refine lv_aload_n hx hb dX9_append_71 rfl (lv_at hl 0 rfl) ?_
  refine lv_dup hx hb dX9_append_72 rfl ?_
  refine r_get X kcX9 (ci := 8) rfl hP 0 rfl 1 (by decide) fX9_15 rfl dX9_append_73 ?_
  refine lv_iconst (v := 4) hx hb dX9_append_76 (by decide) ?_
  refine lv_iadd hx hb dX9_append_77 ?_
  refine lv_topi (fun x_17 ex_17 => ?_)
  have ex_17 : x_17 = 4 := ex_17.trans (by decide)
  subst ex_17
  refine r_put X kcX9 (ci := 8) rfl hP hD hS 0 rfl 1 (by decide) fX9_15 rfl rfl rfl (Nat.le_of_ble_eq_true rfl) dX9_append_78 (fun H locs hP hD hS => ?_)
  have hP : va_P (dC, dI) vwCl [(tp, .inr (8, [.ref bt, .int 4, .int 0, .int 0, .int 0, .int 0, .int 0, .int 0, .int 0])), (bt, .inl (cy 0, 800, .inl f_16))] H := hP
  have hD : va_D A [(tp, .inr (8, [.ref bt, .int 4, .int 0, .int 0, .int 0, .int 0, .int 0, .int 0, .int 0])), (bt, .inl (cy 0, 800, .inl f_16))] := hD
  exact eV X hr hlocks hP hD hS f_16 [0, 1] (by decide) rfl trivial (Nat.le_of_ble_eq_true rfl) (Nat.le_of_ble_eq_true rfl) dX9_append_81
set_option maxHeartbeats 4000000 in
set_option maxRecDepth 100000 in
theorem tX9_append4 (l : Launch) (dC : Nat → ClassId) (dI : Nat → Nat → Nat) (cy : Nat → ClassId) (tp : Nat) (bt : Nat) (fb : Nat → Int32) (p1 : Int32) : ctV l dC dI cy yX9_append cX9_append 2 ({ frames := 0, cells := 0, slots := 0, locals := 0 }) [.ref tp, .int p1] [(tp, .inr (8, [.ref bt, .int 4, .int 0, .int 0, .int 0, .int 0, .int 0, .int 0, .int 0])), (bt, .inl (cy 0, 800, .inl fb))] (S := (Nat → Int32)) (fun _ => True) (fun f2 => [(tp, .inr (8, [.ref bt, .int 8, .int 0, .int 0, .int 0, .int 0, .int 0, .int 0, .int 0])), (bt, .inl (cy 0, 800, .inl f2))]) := by
  refine ctV.of (by decide +kernel) (Nat.le_of_ble_eq_true rfl) ?_
  intro p e s m args below meth c A ls X hr hlocks hin hA hP hD hS hl
  have hx := X.1
  have hb := X.2.1
  have hK := X.2.2.2.2.2.1
  have hl : lv_has ls 2 [(0, .ref tp), (1, .int p1)] := hl
  refine lv_aload_n hx hb dX9_append_0 rfl (lv_at hl 0 rfl) ?_
  refine r_get X kcX9 (ci := 8) rfl hP 0 rfl 1 (by decide) fX9_15 rfl dX9_append_1 ?_
  refine lv_iconst (v := 4) hx hb dX9_append_4 (by decide) ?_
  refine lv_iadd hx hb dX9_append_5 ?_
  refine lv_topi (fun x_1 ex_1 => ?_)
  have ex_1 : x_1 = 8 := ex_1.trans (by decide)
  subst ex_1
  refine lv_sipush (v := 800) hx hb dX9_append_6 (by decide) ?_
  refine lv_icmp_gt (tgt := 81) hx hb dX9_append_9 (by decide) (fun h_2 => absurd h_2 (by decide)) (fun _ => ?_)
  refine lv_aload_n hx hb dX9_append_12 rfl (lv_at hl 0 rfl) ?_
  refine r_get X kcX9 (ci := 8) rfl hP 0 rfl 0 (by decide) fX9_11 rfl dX9_append_13 ?_
  refine lv_aload_n hx hb dX9_append_16 rfl (lv_at hl 0 rfl) ?_
  refine r_get X kcX9 (ci := 8) rfl hP 0 rfl 1 (by decide) fX9_15 rfl dX9_append_17 ?_
  refine lv_iload_n hx hb dX9_append_20 rfl (lv_at hl 1 rfl) ?_
  refine lv_bipush (v := 24) hx hb dX9_append_21 (by decide) ?_
  refine lv_ishr hx hb dX9_append_23 ?_
  refine lv_topi (fun x_3 ex_3 => ?_)
  obtain ⟨x_4, ex_4⟩ : ∃ y : Int32, x_3.toInt8.toInt32 = y := ⟨_, rfl⟩
  refine lv_i2b hx hb dX9_append_24 ex_4 ?_
  refine va_bast (D := (dC, dI)) (cl := vwCl) hx hb hK hP hD hS 1 0 rfl rfl (i := 4) (by unfold vp_in; decide) dX9_append_25 (fun H locs hP hD hS => ?_)
  generalize upd fb (Int32.toNatClampNeg 4) (vp_nar .byte x_4) = f_5 at hP hD
  have hP : va_P (dC, dI) vwCl [(tp, .inr (8, [.ref bt, .int 4, .int 0, .int 0, .int 0, .int 0, .int 0, .int 0, .int 0])), (bt, .inl (cy 0, 800, .inl f_5))] H := hP
  have hD : va_D A [(tp, .inr (8, [.ref bt, .int 4, .int 0, .int 0, .int 0, .int 0, .int 0, .int 0, .int 0])), (bt, .inl (cy 0, 800, .inl f_5))] := hD
  refine lv_aload_n hx hb dX9_append_26 rfl (lv_at hl 0 rfl) ?_
  refine r_get X kcX9 (ci := 8) rfl hP 0 rfl 0 (by decide) fX9_11 rfl dX9_append_27 ?_
  refine lv_aload_n hx hb dX9_append_30 rfl (lv_at hl 0 rfl) ?_
  refine r_get X kcX9 (ci := 8) rfl hP 0 rfl 1 (by decide) fX9_15 rfl dX9_append_31 ?_
  refine lv_iconst (v := 1) hx hb dX9_append_34 (by decide) ?_
  refine lv_iadd hx hb dX9_append_35 ?_
  refine lv_topi (fun x_6 ex_6 => ?_)
  have ex_6 : x_6 = 5 := ex_6.trans (by decide)
  subst ex_6
  refine lv_iload_n hx hb dX9_append_36 rfl (lv_at hl 1 rfl) ?_
  refine lv_bipush (v := 16) hx hb dX9_append_37 (by decide) ?_
  refine lv_ishr hx hb dX9_append_39 ?_
  refine lv_topi (fun x_7 ex_7 => ?_)
  obtain ⟨x_8, ex_8⟩ : ∃ y : Int32, x_7.toInt8.toInt32 = y := ⟨_, rfl⟩
  refine lv_i2b hx hb dX9_append_40 ex_8 ?_
  refine va_bast (D := (dC, dI)) (cl := vwCl) hx hb hK hP hD hS 1 0 rfl rfl (i := 5) (by unfold vp_in; decide) dX9_append_41 (fun H locs hP hD hS => ?_)
  generalize upd f_5 (Int32.toNatClampNeg 5) (vp_nar .byte x_8) = f_9 at hP hD
  have hP : va_P (dC, dI) vwCl [(tp, .inr (8, [.ref bt, .int 4, .int 0, .int 0, .int 0, .int 0, .int 0, .int 0, .int 0])), (bt, .inl (cy 0, 800, .inl f_9))] H := hP
  have hD : va_D A [(tp, .inr (8, [.ref bt, .int 4, .int 0, .int 0, .int 0, .int 0, .int 0, .int 0, .int 0])), (bt, .inl (cy 0, 800, .inl f_9))] := hD
  refine lv_aload_n hx hb dX9_append_42 rfl (lv_at hl 0 rfl) ?_
  refine r_get X kcX9 (ci := 8) rfl hP 0 rfl 0 (by decide) fX9_11 rfl dX9_append_43 ?_
  refine lv_aload_n hx hb dX9_append_46 rfl (lv_at hl 0 rfl) ?_
  refine r_get X kcX9 (ci := 8) rfl hP 0 rfl 1 (by decide) fX9_15 rfl dX9_append_47 ?_
  refine lv_iconst (v := 2) hx hb dX9_append_50 (by decide) ?_
  refine lv_iadd hx hb dX9_append_51 ?_
  refine lv_topi (fun x_10 ex_10 => ?_)
  have ex_10 : x_10 = 6 := ex_10.trans (by decide)
  subst ex_10
  refine lv_iload_n hx hb dX9_append_52 rfl (lv_at hl 1 rfl) ?_
  refine lv_bipush (v := 8) hx hb dX9_append_53 (by decide) ?_
  refine lv_ishr hx hb dX9_append_55 ?_
  refine lv_topi (fun x_11 ex_11 => ?_)
  obtain ⟨x_12, ex_12⟩ : ∃ y : Int32, x_11.toInt8.toInt32 = y := ⟨_, rfl⟩
  refine lv_i2b hx hb dX9_append_56 ex_12 ?_
  refine va_bast (D := (dC, dI)) (cl := vwCl) hx hb hK hP hD hS 1 0 rfl rfl (i := 6) (by unfold vp_in; decide) dX9_append_57 (fun H locs hP hD hS => ?_)
  generalize upd f_9 (Int32.toNatClampNeg 6) (vp_nar .byte x_12) = f_13 at hP hD
  have hP : va_P (dC, dI) vwCl [(tp, .inr (8, [.ref bt, .int 4, .int 0, .int 0, .int 0, .int 0, .int 0, .int 0, .int 0])), (bt, .inl (cy 0, 800, .inl f_13))] H := hP
  have hD : va_D A [(tp, .inr (8, [.ref bt, .int 4, .int 0, .int 0, .int 0, .int 0, .int 0, .int 0, .int 0])), (bt, .inl (cy 0, 800, .inl f_13))] := hD
  refine lv_aload_n hx hb dX9_append_58 rfl (lv_at hl 0 rfl) ?_
  refine r_get X kcX9 (ci := 8) rfl hP 0 rfl 0 (by decide) fX9_11 rfl dX9_append_59 ?_
  refine lv_aload_n hx hb dX9_append_62 rfl (lv_at hl 0 rfl) ?_
  refine r_get X kcX9 (ci := 8) rfl hP 0 rfl 1 (by decide) fX9_15 rfl dX9_append_63 ?_
  refine lv_iconst (v := 3) hx hb dX9_append_66 (by decide) ?_
  refine lv_iadd hx hb dX9_append_67 ?_
  refine lv_topi (fun x_14 ex_14 => ?_)
  have ex_14 : x_14 = 7 := ex_14.trans (by decide)
  subst ex_14
  refine lv_iload_n hx hb dX9_append_68 rfl (lv_at hl 1 rfl) ?_
  obtain ⟨x_15, ex_15⟩ : ∃ y : Int32, p1.toInt8.toInt32 = y := ⟨_, rfl⟩
  refine lv_i2b hx hb dX9_append_69 ex_15 ?_
  refine va_bast (D := (dC, dI)) (cl := vwCl) hx hb hK hP hD hS 1 0 rfl rfl (i := 7) (by unfold vp_in; decide) dX9_append_70 (fun H locs hP hD hS => ?_)
  generalize upd f_13 (Int32.toNatClampNeg 7) (vp_nar .byte x_15) = f_16 at hP hD
  have hP : va_P (dC, dI) vwCl [(tp, .inr (8, [.ref bt, .int 4, .int 0, .int 0, .int 0, .int 0, .int 0, .int 0, .int 0])), (bt, .inl (cy 0, 800, .inl f_16))] H := hP
  have hD : va_D A [(tp, .inr (8, [.ref bt, .int 4, .int 0, .int 0, .int 0, .int 0, .int 0, .int 0, .int 0])), (bt, .inl (cy 0, 800, .inl f_16))] := hD
  refine lv_aload_n hx hb dX9_append_71 rfl (lv_at hl 0 rfl) ?_
  refine lv_dup hx hb dX9_append_72 rfl ?_
  refine r_get X kcX9 (ci := 8) rfl hP 0 rfl 1 (by decide) fX9_15 rfl dX9_append_73 ?_
  refine lv_iconst (v := 4) hx hb dX9_append_76 (by decide) ?_
  refine lv_iadd hx hb dX9_append_77 ?_
  refine lv_topi (fun x_17 ex_17 => ?_)
  have ex_17 : x_17 = 8 := ex_17.trans (by decide)
  subst ex_17
  refine r_put X kcX9 (ci := 8) rfl hP hD hS 0 rfl 1 (by decide) fX9_15 rfl rfl rfl (Nat.le_of_ble_eq_true rfl) dX9_append_78 (fun H locs hP hD hS => ?_)
  have hP : va_P (dC, dI) vwCl [(tp, .inr (8, [.ref bt, .int 8, .int 0, .int 0, .int 0, .int 0, .int 0, .int 0, .int 0])), (bt, .inl (cy 0, 800, .inl f_16))] H := hP
  have hD : va_D A [(tp, .inr (8, [.ref bt, .int 8, .int 0, .int 0, .int 0, .int 0, .int 0, .int 0, .int 0])), (bt, .inl (cy 0, 800, .inl f_16))] := hD
  exact eV X hr hlocks hP hD hS f_16 [0, 1] (by decide) rfl trivial (Nat.le_of_ble_eq_true rfl) (Nat.le_of_ble_eq_true rfl) dX9_append_81
set_option maxHeartbeats 4000000 in
set_option maxRecDepth 100000 in
theorem tX9_append8 (l : Launch) (dC : Nat → ClassId) (dI : Nat → Nat → Nat) (cy : Nat → ClassId) (tp : Nat) (bt : Nat) (fb : Nat → Int32) (p1 : Int32) : ctV l dC dI cy yX9_append cX9_append 2 ({ frames := 0, cells := 0, slots := 0, locals := 0 }) [.ref tp, .int p1] [(tp, .inr (8, [.ref bt, .int 8, .int 0, .int 0, .int 0, .int 0, .int 0, .int 0, .int 0])), (bt, .inl (cy 0, 800, .inl fb))] (S := (Nat → Int32)) (fun _ => True) (fun f2 => [(tp, .inr (8, [.ref bt, .int 12, .int 0, .int 0, .int 0, .int 0, .int 0, .int 0, .int 0])), (bt, .inl (cy 0, 800, .inl f2))]) := by
  refine ctV.of (by decide +kernel) (Nat.le_of_ble_eq_true rfl) ?_
  intro p e s m args below meth c A ls X hr hlocks hin hA hP hD hS hl
  have hx := X.1
  have hb := X.2.1
  have hK := X.2.2.2.2.2.1
  have hl : lv_has ls 2 [(0, .ref tp), (1, .int p1)] := hl
  refine lv_aload_n hx hb dX9_append_0 rfl (lv_at hl 0 rfl) ?_
  refine r_get X kcX9 (ci := 8) rfl hP 0 rfl 1 (by decide) fX9_15 rfl dX9_append_1 ?_
  refine lv_iconst (v := 4) hx hb dX9_append_4 (by decide) ?_
  refine lv_iadd hx hb dX9_append_5 ?_
  refine lv_topi (fun x_1 ex_1 => ?_)
  have ex_1 : x_1 = 12 := ex_1.trans (by decide)
  subst ex_1
  refine lv_sipush (v := 800) hx hb dX9_append_6 (by decide) ?_
  refine lv_icmp_gt (tgt := 81) hx hb dX9_append_9 (by decide) (fun h_2 => absurd h_2 (by decide)) (fun _ => ?_)
  refine lv_aload_n hx hb dX9_append_12 rfl (lv_at hl 0 rfl) ?_
  refine r_get X kcX9 (ci := 8) rfl hP 0 rfl 0 (by decide) fX9_11 rfl dX9_append_13 ?_
  refine lv_aload_n hx hb dX9_append_16 rfl (lv_at hl 0 rfl) ?_
  refine r_get X kcX9 (ci := 8) rfl hP 0 rfl 1 (by decide) fX9_15 rfl dX9_append_17 ?_
  refine lv_iload_n hx hb dX9_append_20 rfl (lv_at hl 1 rfl) ?_
  refine lv_bipush (v := 24) hx hb dX9_append_21 (by decide) ?_
  refine lv_ishr hx hb dX9_append_23 ?_
  refine lv_topi (fun x_3 ex_3 => ?_)
  obtain ⟨x_4, ex_4⟩ : ∃ y : Int32, x_3.toInt8.toInt32 = y := ⟨_, rfl⟩
  refine lv_i2b hx hb dX9_append_24 ex_4 ?_
  refine va_bast (D := (dC, dI)) (cl := vwCl) hx hb hK hP hD hS 1 0 rfl rfl (i := 8) (by unfold vp_in; decide) dX9_append_25 (fun H locs hP hD hS => ?_)
  generalize upd fb (Int32.toNatClampNeg 8) (vp_nar .byte x_4) = f_5 at hP hD
  have hP : va_P (dC, dI) vwCl [(tp, .inr (8, [.ref bt, .int 8, .int 0, .int 0, .int 0, .int 0, .int 0, .int 0, .int 0])), (bt, .inl (cy 0, 800, .inl f_5))] H := hP
  have hD : va_D A [(tp, .inr (8, [.ref bt, .int 8, .int 0, .int 0, .int 0, .int 0, .int 0, .int 0, .int 0])), (bt, .inl (cy 0, 800, .inl f_5))] := hD
  refine lv_aload_n hx hb dX9_append_26 rfl (lv_at hl 0 rfl) ?_
  refine r_get X kcX9 (ci := 8) rfl hP 0 rfl 0 (by decide) fX9_11 rfl dX9_append_27 ?_
  refine lv_aload_n hx hb dX9_append_30 rfl (lv_at hl 0 rfl) ?_
  refine r_get X kcX9 (ci := 8) rfl hP 0 rfl 1 (by decide) fX9_15 rfl dX9_append_31 ?_
  refine lv_iconst (v := 1) hx hb dX9_append_34 (by decide) ?_
  refine lv_iadd hx hb dX9_append_35 ?_
  refine lv_topi (fun x_6 ex_6 => ?_)
  have ex_6 : x_6 = 9 := ex_6.trans (by decide)
  subst ex_6
  refine lv_iload_n hx hb dX9_append_36 rfl (lv_at hl 1 rfl) ?_
  refine lv_bipush (v := 16) hx hb dX9_append_37 (by decide) ?_
  refine lv_ishr hx hb dX9_append_39 ?_
  refine lv_topi (fun x_7 ex_7 => ?_)
  obtain ⟨x_8, ex_8⟩ : ∃ y : Int32, x_7.toInt8.toInt32 = y := ⟨_, rfl⟩
  refine lv_i2b hx hb dX9_append_40 ex_8 ?_
  refine va_bast (D := (dC, dI)) (cl := vwCl) hx hb hK hP hD hS 1 0 rfl rfl (i := 9) (by unfold vp_in; decide) dX9_append_41 (fun H locs hP hD hS => ?_)
  generalize upd f_5 (Int32.toNatClampNeg 9) (vp_nar .byte x_8) = f_9 at hP hD
  have hP : va_P (dC, dI) vwCl [(tp, .inr (8, [.ref bt, .int 8, .int 0, .int 0, .int 0, .int 0, .int 0, .int 0, .int 0])), (bt, .inl (cy 0, 800, .inl f_9))] H := hP
  have hD : va_D A [(tp, .inr (8, [.ref bt, .int 8, .int 0, .int 0, .int 0, .int 0, .int 0, .int 0, .int 0])), (bt, .inl (cy 0, 800, .inl f_9))] := hD
  refine lv_aload_n hx hb dX9_append_42 rfl (lv_at hl 0 rfl) ?_
  refine r_get X kcX9 (ci := 8) rfl hP 0 rfl 0 (by decide) fX9_11 rfl dX9_append_43 ?_
  refine lv_aload_n hx hb dX9_append_46 rfl (lv_at hl 0 rfl) ?_
  refine r_get X kcX9 (ci := 8) rfl hP 0 rfl 1 (by decide) fX9_15 rfl dX9_append_47 ?_
  refine lv_iconst (v := 2) hx hb dX9_append_50 (by decide) ?_
  refine lv_iadd hx hb dX9_append_51 ?_
  refine lv_topi (fun x_10 ex_10 => ?_)
  have ex_10 : x_10 = 10 := ex_10.trans (by decide)
  subst ex_10
  refine lv_iload_n hx hb dX9_append_52 rfl (lv_at hl 1 rfl) ?_
  refine lv_bipush (v := 8) hx hb dX9_append_53 (by decide) ?_
  refine lv_ishr hx hb dX9_append_55 ?_
  refine lv_topi (fun x_11 ex_11 => ?_)
  obtain ⟨x_12, ex_12⟩ : ∃ y : Int32, x_11.toInt8.toInt32 = y := ⟨_, rfl⟩
  refine lv_i2b hx hb dX9_append_56 ex_12 ?_
  refine va_bast (D := (dC, dI)) (cl := vwCl) hx hb hK hP hD hS 1 0 rfl rfl (i := 10) (by unfold vp_in; decide) dX9_append_57 (fun H locs hP hD hS => ?_)
  generalize upd f_9 (Int32.toNatClampNeg 10) (vp_nar .byte x_12) = f_13 at hP hD
  have hP : va_P (dC, dI) vwCl [(tp, .inr (8, [.ref bt, .int 8, .int 0, .int 0, .int 0, .int 0, .int 0, .int 0, .int 0])), (bt, .inl (cy 0, 800, .inl f_13))] H := hP
  have hD : va_D A [(tp, .inr (8, [.ref bt, .int 8, .int 0, .int 0, .int 0, .int 0, .int 0, .int 0, .int 0])), (bt, .inl (cy 0, 800, .inl f_13))] := hD
  refine lv_aload_n hx hb dX9_append_58 rfl (lv_at hl 0 rfl) ?_
  refine r_get X kcX9 (ci := 8) rfl hP 0 rfl 0 (by decide) fX9_11 rfl dX9_append_59 ?_
  refine lv_aload_n hx hb dX9_append_62 rfl (lv_at hl 0 rfl) ?_
  refine r_get X kcX9 (ci := 8) rfl hP 0 rfl 1 (by decide) fX9_15 rfl dX9_append_63 ?_
  refine lv_iconst (v := 3) hx hb dX9_append_66 (by decide) ?_
  refine lv_iadd hx hb dX9_append_67 ?_
  refine lv_topi (fun x_14 ex_14 => ?_)
  have ex_14 : x_14 = 11 := ex_14.trans (by decide)
  subst ex_14
  refine lv_iload_n hx hb dX9_append_68 rfl (lv_at hl 1 rfl) ?_
  obtain ⟨x_15, ex_15⟩ : ∃ y : Int32, p1.toInt8.toInt32 = y := ⟨_, rfl⟩
  refine lv_i2b hx hb dX9_append_69 ex_15 ?_
  refine va_bast (D := (dC, dI)) (cl := vwCl) hx hb hK hP hD hS 1 0 rfl rfl (i := 11) (by unfold vp_in; decide) dX9_append_70 (fun H locs hP hD hS => ?_)
  generalize upd f_13 (Int32.toNatClampNeg 11) (vp_nar .byte x_15) = f_16 at hP hD
  have hP : va_P (dC, dI) vwCl [(tp, .inr (8, [.ref bt, .int 8, .int 0, .int 0, .int 0, .int 0, .int 0, .int 0, .int 0])), (bt, .inl (cy 0, 800, .inl f_16))] H := hP
  have hD : va_D A [(tp, .inr (8, [.ref bt, .int 8, .int 0, .int 0, .int 0, .int 0, .int 0, .int 0, .int 0])), (bt, .inl (cy 0, 800, .inl f_16))] := hD
  refine lv_aload_n hx hb dX9_append_71 rfl (lv_at hl 0 rfl) ?_
  refine lv_dup hx hb dX9_append_72 rfl ?_
  refine r_get X kcX9 (ci := 8) rfl hP 0 rfl 1 (by decide) fX9_15 rfl dX9_append_73 ?_
  refine lv_iconst (v := 4) hx hb dX9_append_76 (by decide) ?_
  refine lv_iadd hx hb dX9_append_77 ?_
  refine lv_topi (fun x_17 ex_17 => ?_)
  have ex_17 : x_17 = 12 := ex_17.trans (by decide)
  subst ex_17
  refine r_put X kcX9 (ci := 8) rfl hP hD hS 0 rfl 1 (by decide) fX9_15 rfl rfl rfl (Nat.le_of_ble_eq_true rfl) dX9_append_78 (fun H locs hP hD hS => ?_)
  have hP : va_P (dC, dI) vwCl [(tp, .inr (8, [.ref bt, .int 12, .int 0, .int 0, .int 0, .int 0, .int 0, .int 0, .int 0])), (bt, .inl (cy 0, 800, .inl f_16))] H := hP
  have hD : va_D A [(tp, .inr (8, [.ref bt, .int 12, .int 0, .int 0, .int 0, .int 0, .int 0, .int 0, .int 0])), (bt, .inl (cy 0, 800, .inl f_16))] := hD
  exact eV X hr hlocks hP hD hS f_16 [0, 1] (by decide) rfl trivial (Nat.le_of_ble_eq_true rfl) (Nat.le_of_ble_eq_true rfl) dX9_append_81
set_option maxHeartbeats 4000000 in
set_option maxRecDepth 100000 in
theorem tX9_append12 (l : Launch) (dC : Nat → ClassId) (dI : Nat → Nat → Nat) (cy : Nat → ClassId) (tp : Nat) (bt : Nat) (fb : Nat → Int32) (p1 : Int32) : ctV l dC dI cy yX9_append cX9_append 2 ({ frames := 0, cells := 0, slots := 0, locals := 0 }) [.ref tp, .int p1] [(tp, .inr (8, [.ref bt, .int 12, .int 0, .int 0, .int 0, .int 0, .int 0, .int 0, .int 0])), (bt, .inl (cy 0, 800, .inl fb))] (S := (Nat → Int32)) (fun _ => True) (fun f2 => [(tp, .inr (8, [.ref bt, .int 16, .int 0, .int 0, .int 0, .int 0, .int 0, .int 0, .int 0])), (bt, .inl (cy 0, 800, .inl f2))]) := by
  refine ctV.of (by decide +kernel) (Nat.le_of_ble_eq_true rfl) ?_
  intro p e s m args below meth c A ls X hr hlocks hin hA hP hD hS hl
  have hx := X.1
  have hb := X.2.1
  have hK := X.2.2.2.2.2.1
  have hl : lv_has ls 2 [(0, .ref tp), (1, .int p1)] := hl
  refine lv_aload_n hx hb dX9_append_0 rfl (lv_at hl 0 rfl) ?_
  refine r_get X kcX9 (ci := 8) rfl hP 0 rfl 1 (by decide) fX9_15 rfl dX9_append_1 ?_
  refine lv_iconst (v := 4) hx hb dX9_append_4 (by decide) ?_
  refine lv_iadd hx hb dX9_append_5 ?_
  refine lv_topi (fun x_1 ex_1 => ?_)
  have ex_1 : x_1 = 16 := ex_1.trans (by decide)
  subst ex_1
  refine lv_sipush (v := 800) hx hb dX9_append_6 (by decide) ?_
  refine lv_icmp_gt (tgt := 81) hx hb dX9_append_9 (by decide) (fun h_2 => absurd h_2 (by decide)) (fun _ => ?_)
  refine lv_aload_n hx hb dX9_append_12 rfl (lv_at hl 0 rfl) ?_
  refine r_get X kcX9 (ci := 8) rfl hP 0 rfl 0 (by decide) fX9_11 rfl dX9_append_13 ?_
  refine lv_aload_n hx hb dX9_append_16 rfl (lv_at hl 0 rfl) ?_
  refine r_get X kcX9 (ci := 8) rfl hP 0 rfl 1 (by decide) fX9_15 rfl dX9_append_17 ?_
  refine lv_iload_n hx hb dX9_append_20 rfl (lv_at hl 1 rfl) ?_
  refine lv_bipush (v := 24) hx hb dX9_append_21 (by decide) ?_
  refine lv_ishr hx hb dX9_append_23 ?_
  refine lv_topi (fun x_3 ex_3 => ?_)
  obtain ⟨x_4, ex_4⟩ : ∃ y : Int32, x_3.toInt8.toInt32 = y := ⟨_, rfl⟩
  refine lv_i2b hx hb dX9_append_24 ex_4 ?_
  refine va_bast (D := (dC, dI)) (cl := vwCl) hx hb hK hP hD hS 1 0 rfl rfl (i := 12) (by unfold vp_in; decide) dX9_append_25 (fun H locs hP hD hS => ?_)
  generalize upd fb (Int32.toNatClampNeg 12) (vp_nar .byte x_4) = f_5 at hP hD
  have hP : va_P (dC, dI) vwCl [(tp, .inr (8, [.ref bt, .int 12, .int 0, .int 0, .int 0, .int 0, .int 0, .int 0, .int 0])), (bt, .inl (cy 0, 800, .inl f_5))] H := hP
  have hD : va_D A [(tp, .inr (8, [.ref bt, .int 12, .int 0, .int 0, .int 0, .int 0, .int 0, .int 0, .int 0])), (bt, .inl (cy 0, 800, .inl f_5))] := hD
  refine lv_aload_n hx hb dX9_append_26 rfl (lv_at hl 0 rfl) ?_
  refine r_get X kcX9 (ci := 8) rfl hP 0 rfl 0 (by decide) fX9_11 rfl dX9_append_27 ?_
  refine lv_aload_n hx hb dX9_append_30 rfl (lv_at hl 0 rfl) ?_
  refine r_get X kcX9 (ci := 8) rfl hP 0 rfl 1 (by decide) fX9_15 rfl dX9_append_31 ?_
  refine lv_iconst (v := 1) hx hb dX9_append_34 (by decide) ?_
  refine lv_iadd hx hb dX9_append_35 ?_
  refine lv_topi (fun x_6 ex_6 => ?_)
  have ex_6 : x_6 = 13 := ex_6.trans (by decide)
  subst ex_6
  refine lv_iload_n hx hb dX9_append_36 rfl (lv_at hl 1 rfl) ?_
  refine lv_bipush (v := 16) hx hb dX9_append_37 (by decide) ?_
  refine lv_ishr hx hb dX9_append_39 ?_
  refine lv_topi (fun x_7 ex_7 => ?_)
  obtain ⟨x_8, ex_8⟩ : ∃ y : Int32, x_7.toInt8.toInt32 = y := ⟨_, rfl⟩
  refine lv_i2b hx hb dX9_append_40 ex_8 ?_
  refine va_bast (D := (dC, dI)) (cl := vwCl) hx hb hK hP hD hS 1 0 rfl rfl (i := 13) (by unfold vp_in; decide) dX9_append_41 (fun H locs hP hD hS => ?_)
  generalize upd f_5 (Int32.toNatClampNeg 13) (vp_nar .byte x_8) = f_9 at hP hD
  have hP : va_P (dC, dI) vwCl [(tp, .inr (8, [.ref bt, .int 12, .int 0, .int 0, .int 0, .int 0, .int 0, .int 0, .int 0])), (bt, .inl (cy 0, 800, .inl f_9))] H := hP
  have hD : va_D A [(tp, .inr (8, [.ref bt, .int 12, .int 0, .int 0, .int 0, .int 0, .int 0, .int 0, .int 0])), (bt, .inl (cy 0, 800, .inl f_9))] := hD
  refine lv_aload_n hx hb dX9_append_42 rfl (lv_at hl 0 rfl) ?_
  refine r_get X kcX9 (ci := 8) rfl hP 0 rfl 0 (by decide) fX9_11 rfl dX9_append_43 ?_
  refine lv_aload_n hx hb dX9_append_46 rfl (lv_at hl 0 rfl) ?_
  refine r_get X kcX9 (ci := 8) rfl hP 0 rfl 1 (by decide) fX9_15 rfl dX9_append_47 ?_
  refine lv_iconst (v := 2) hx hb dX9_append_50 (by decide) ?_
  refine lv_iadd hx hb dX9_append_51 ?_
  refine lv_topi (fun x_10 ex_10 => ?_)
  have ex_10 : x_10 = 14 := ex_10.trans (by decide)
  subst ex_10
  refine lv_iload_n hx hb dX9_append_52 rfl (lv_at hl 1 rfl) ?_
  refine lv_bipush (v := 8) hx hb dX9_append_53 (by decide) ?_
  refine lv_ishr hx hb dX9_append_55 ?_
  refine lv_topi (fun x_11 ex_11 => ?_)
  obtain ⟨x_12, ex_12⟩ : ∃ y : Int32, x_11.toInt8.toInt32 = y := ⟨_, rfl⟩
  refine lv_i2b hx hb dX9_append_56 ex_12 ?_
  refine va_bast (D := (dC, dI)) (cl := vwCl) hx hb hK hP hD hS 1 0 rfl rfl (i := 14) (by unfold vp_in; decide) dX9_append_57 (fun H locs hP hD hS => ?_)
  generalize upd f_9 (Int32.toNatClampNeg 14) (vp_nar .byte x_12) = f_13 at hP hD
  have hP : va_P (dC, dI) vwCl [(tp, .inr (8, [.ref bt, .int 12, .int 0, .int 0, .int 0, .int 0, .int 0, .int 0, .int 0])), (bt, .inl (cy 0, 800, .inl f_13))] H := hP
  have hD : va_D A [(tp, .inr (8, [.ref bt, .int 12, .int 0, .int 0, .int 0, .int 0, .int 0, .int 0, .int 0])), (bt, .inl (cy 0, 800, .inl f_13))] := hD
  refine lv_aload_n hx hb dX9_append_58 rfl (lv_at hl 0 rfl) ?_
  refine r_get X kcX9 (ci := 8) rfl hP 0 rfl 0 (by decide) fX9_11 rfl dX9_append_59 ?_
  refine lv_aload_n hx hb dX9_append_62 rfl (lv_at hl 0 rfl) ?_
  refine r_get X kcX9 (ci := 8) rfl hP 0 rfl 1 (by decide) fX9_15 rfl dX9_append_63 ?_
  refine lv_iconst (v := 3) hx hb dX9_append_66 (by decide) ?_
  refine lv_iadd hx hb dX9_append_67 ?_
  refine lv_topi (fun x_14 ex_14 => ?_)
  have ex_14 : x_14 = 15 := ex_14.trans (by decide)
  subst ex_14
  refine lv_iload_n hx hb dX9_append_68 rfl (lv_at hl 1 rfl) ?_
  obtain ⟨x_15, ex_15⟩ : ∃ y : Int32, p1.toInt8.toInt32 = y := ⟨_, rfl⟩
  refine lv_i2b hx hb dX9_append_69 ex_15 ?_
  refine va_bast (D := (dC, dI)) (cl := vwCl) hx hb hK hP hD hS 1 0 rfl rfl (i := 15) (by unfold vp_in; decide) dX9_append_70 (fun H locs hP hD hS => ?_)
  generalize upd f_13 (Int32.toNatClampNeg 15) (vp_nar .byte x_15) = f_16 at hP hD
  have hP : va_P (dC, dI) vwCl [(tp, .inr (8, [.ref bt, .int 12, .int 0, .int 0, .int 0, .int 0, .int 0, .int 0, .int 0])), (bt, .inl (cy 0, 800, .inl f_16))] H := hP
  have hD : va_D A [(tp, .inr (8, [.ref bt, .int 12, .int 0, .int 0, .int 0, .int 0, .int 0, .int 0, .int 0])), (bt, .inl (cy 0, 800, .inl f_16))] := hD
  refine lv_aload_n hx hb dX9_append_71 rfl (lv_at hl 0 rfl) ?_
  refine lv_dup hx hb dX9_append_72 rfl ?_
  refine r_get X kcX9 (ci := 8) rfl hP 0 rfl 1 (by decide) fX9_15 rfl dX9_append_73 ?_
  refine lv_iconst (v := 4) hx hb dX9_append_76 (by decide) ?_
  refine lv_iadd hx hb dX9_append_77 ?_
  refine lv_topi (fun x_17 ex_17 => ?_)
  have ex_17 : x_17 = 16 := ex_17.trans (by decide)
  subst ex_17
  refine r_put X kcX9 (ci := 8) rfl hP hD hS 0 rfl 1 (by decide) fX9_15 rfl rfl rfl (Nat.le_of_ble_eq_true rfl) dX9_append_78 (fun H locs hP hD hS => ?_)
  have hP : va_P (dC, dI) vwCl [(tp, .inr (8, [.ref bt, .int 16, .int 0, .int 0, .int 0, .int 0, .int 0, .int 0, .int 0])), (bt, .inl (cy 0, 800, .inl f_16))] H := hP
  have hD : va_D A [(tp, .inr (8, [.ref bt, .int 16, .int 0, .int 0, .int 0, .int 0, .int 0, .int 0, .int 0])), (bt, .inl (cy 0, 800, .inl f_16))] := hD
  exact eV X hr hlocks hP hD hS f_16 [0, 1] (by decide) rfl trivial (Nat.le_of_ble_eq_true rfl) (Nat.le_of_ble_eq_true rfl) dX9_append_81
set_option maxHeartbeats 4000000 in
set_option maxRecDepth 100000 in
theorem tX9_append16 (l : Launch) (dC : Nat → ClassId) (dI : Nat → Nat → Nat) (cy : Nat → ClassId) (tp : Nat) (bt : Nat) (fb : Nat → Int32) (p1 : Int32) : ctV l dC dI cy yX9_append cX9_append 2 ({ frames := 0, cells := 0, slots := 0, locals := 0 }) [.ref tp, .int p1] [(tp, .inr (8, [.ref bt, .int 16, .int 0, .int 0, .int 0, .int 0, .int 0, .int 0, .int 0])), (bt, .inl (cy 0, 800, .inl fb))] (S := (Nat → Int32)) (fun _ => True) (fun f2 => [(tp, .inr (8, [.ref bt, .int 20, .int 0, .int 0, .int 0, .int 0, .int 0, .int 0, .int 0])), (bt, .inl (cy 0, 800, .inl f2))]) := by
  refine ctV.of (by decide +kernel) (Nat.le_of_ble_eq_true rfl) ?_
  intro p e s m args below meth c A ls X hr hlocks hin hA hP hD hS hl
  have hx := X.1
  have hb := X.2.1
  have hK := X.2.2.2.2.2.1
  have hl : lv_has ls 2 [(0, .ref tp), (1, .int p1)] := hl
  refine lv_aload_n hx hb dX9_append_0 rfl (lv_at hl 0 rfl) ?_
  refine r_get X kcX9 (ci := 8) rfl hP 0 rfl 1 (by decide) fX9_15 rfl dX9_append_1 ?_
  refine lv_iconst (v := 4) hx hb dX9_append_4 (by decide) ?_
  refine lv_iadd hx hb dX9_append_5 ?_
  refine lv_topi (fun x_1 ex_1 => ?_)
  have ex_1 : x_1 = 20 := ex_1.trans (by decide)
  subst ex_1
  refine lv_sipush (v := 800) hx hb dX9_append_6 (by decide) ?_
  refine lv_icmp_gt (tgt := 81) hx hb dX9_append_9 (by decide) (fun h_2 => absurd h_2 (by decide)) (fun _ => ?_)
  refine lv_aload_n hx hb dX9_append_12 rfl (lv_at hl 0 rfl) ?_
  refine r_get X kcX9 (ci := 8) rfl hP 0 rfl 0 (by decide) fX9_11 rfl dX9_append_13 ?_
  refine lv_aload_n hx hb dX9_append_16 rfl (lv_at hl 0 rfl) ?_
  refine r_get X kcX9 (ci := 8) rfl hP 0 rfl 1 (by decide) fX9_15 rfl dX9_append_17 ?_
  refine lv_iload_n hx hb dX9_append_20 rfl (lv_at hl 1 rfl) ?_
  refine lv_bipush (v := 24) hx hb dX9_append_21 (by decide) ?_
  refine lv_ishr hx hb dX9_append_23 ?_
  refine lv_topi (fun x_3 ex_3 => ?_)
  obtain ⟨x_4, ex_4⟩ : ∃ y : Int32, x_3.toInt8.toInt32 = y := ⟨_, rfl⟩
  refine lv_i2b hx hb dX9_append_24 ex_4 ?_
  refine va_bast (D := (dC, dI)) (cl := vwCl) hx hb hK hP hD hS 1 0 rfl rfl (i := 16) (by unfold vp_in; decide) dX9_append_25 (fun H locs hP hD hS => ?_)
  generalize upd fb (Int32.toNatClampNeg 16) (vp_nar .byte x_4) = f_5 at hP hD
  have hP : va_P (dC, dI) vwCl [(tp, .inr (8, [.ref bt, .int 16, .int 0, .int 0, .int 0, .int 0, .int 0, .int 0, .int 0])), (bt, .inl (cy 0, 800, .inl f_5))] H := hP
  have hD : va_D A [(tp, .inr (8, [.ref bt, .int 16, .int 0, .int 0, .int 0, .int 0, .int 0, .int 0, .int 0])), (bt, .inl (cy 0, 800, .inl f_5))] := hD
  refine lv_aload_n hx hb dX9_append_26 rfl (lv_at hl 0 rfl) ?_
  refine r_get X kcX9 (ci := 8) rfl hP 0 rfl 0 (by decide) fX9_11 rfl dX9_append_27 ?_
  refine lv_aload_n hx hb dX9_append_30 rfl (lv_at hl 0 rfl) ?_
  refine r_get X kcX9 (ci := 8) rfl hP 0 rfl 1 (by decide) fX9_15 rfl dX9_append_31 ?_
  refine lv_iconst (v := 1) hx hb dX9_append_34 (by decide) ?_
  refine lv_iadd hx hb dX9_append_35 ?_
  refine lv_topi (fun x_6 ex_6 => ?_)
  have ex_6 : x_6 = 17 := ex_6.trans (by decide)
  subst ex_6
  refine lv_iload_n hx hb dX9_append_36 rfl (lv_at hl 1 rfl) ?_
  refine lv_bipush (v := 16) hx hb dX9_append_37 (by decide) ?_
  refine lv_ishr hx hb dX9_append_39 ?_
  refine lv_topi (fun x_7 ex_7 => ?_)
  obtain ⟨x_8, ex_8⟩ : ∃ y : Int32, x_7.toInt8.toInt32 = y := ⟨_, rfl⟩
  refine lv_i2b hx hb dX9_append_40 ex_8 ?_
  refine va_bast (D := (dC, dI)) (cl := vwCl) hx hb hK hP hD hS 1 0 rfl rfl (i := 17) (by unfold vp_in; decide) dX9_append_41 (fun H locs hP hD hS => ?_)
  generalize upd f_5 (Int32.toNatClampNeg 17) (vp_nar .byte x_8) = f_9 at hP hD
  have hP : va_P (dC, dI) vwCl [(tp, .inr (8, [.ref bt, .int 16, .int 0, .int 0, .int 0, .int 0, .int 0, .int 0, .int 0])), (bt, .inl (cy 0, 800, .inl f_9))] H := hP
  have hD : va_D A [(tp, .inr (8, [.ref bt, .int 16, .int 0, .int 0, .int 0, .int 0, .int 0, .int 0, .int 0])), (bt, .inl (cy 0, 800, .inl f_9))] := hD
  refine lv_aload_n hx hb dX9_append_42 rfl (lv_at hl 0 rfl) ?_
  refine r_get X kcX9 (ci := 8) rfl hP 0 rfl 0 (by decide) fX9_11 rfl dX9_append_43 ?_
  refine lv_aload_n hx hb dX9_append_46 rfl (lv_at hl 0 rfl) ?_
  refine r_get X kcX9 (ci := 8) rfl hP 0 rfl 1 (by decide) fX9_15 rfl dX9_append_47 ?_
  refine lv_iconst (v := 2) hx hb dX9_append_50 (by decide) ?_
  refine lv_iadd hx hb dX9_append_51 ?_
  refine lv_topi (fun x_10 ex_10 => ?_)
  have ex_10 : x_10 = 18 := ex_10.trans (by decide)
  subst ex_10
  refine lv_iload_n hx hb dX9_append_52 rfl (lv_at hl 1 rfl) ?_
  refine lv_bipush (v := 8) hx hb dX9_append_53 (by decide) ?_
  refine lv_ishr hx hb dX9_append_55 ?_
  refine lv_topi (fun x_11 ex_11 => ?_)
  obtain ⟨x_12, ex_12⟩ : ∃ y : Int32, x_11.toInt8.toInt32 = y := ⟨_, rfl⟩
  refine lv_i2b hx hb dX9_append_56 ex_12 ?_
  refine va_bast (D := (dC, dI)) (cl := vwCl) hx hb hK hP hD hS 1 0 rfl rfl (i := 18) (by unfold vp_in; decide) dX9_append_57 (fun H locs hP hD hS => ?_)
  generalize upd f_9 (Int32.toNatClampNeg 18) (vp_nar .byte x_12) = f_13 at hP hD
  have hP : va_P (dC, dI) vwCl [(tp, .inr (8, [.ref bt, .int 16, .int 0, .int 0, .int 0, .int 0, .int 0, .int 0, .int 0])), (bt, .inl (cy 0, 800, .inl f_13))] H := hP
  have hD : va_D A [(tp, .inr (8, [.ref bt, .int 16, .int 0, .int 0, .int 0, .int 0, .int 0, .int 0, .int 0])), (bt, .inl (cy 0, 800, .inl f_13))] := hD
  refine lv_aload_n hx hb dX9_append_58 rfl (lv_at hl 0 rfl) ?_
  refine r_get X kcX9 (ci := 8) rfl hP 0 rfl 0 (by decide) fX9_11 rfl dX9_append_59 ?_
  refine lv_aload_n hx hb dX9_append_62 rfl (lv_at hl 0 rfl) ?_
  refine r_get X kcX9 (ci := 8) rfl hP 0 rfl 1 (by decide) fX9_15 rfl dX9_append_63 ?_
  refine lv_iconst (v := 3) hx hb dX9_append_66 (by decide) ?_
  refine lv_iadd hx hb dX9_append_67 ?_
  refine lv_topi (fun x_14 ex_14 => ?_)
  have ex_14 : x_14 = 19 := ex_14.trans (by decide)
  subst ex_14
  refine lv_iload_n hx hb dX9_append_68 rfl (lv_at hl 1 rfl) ?_
  obtain ⟨x_15, ex_15⟩ : ∃ y : Int32, p1.toInt8.toInt32 = y := ⟨_, rfl⟩
  refine lv_i2b hx hb dX9_append_69 ex_15 ?_
  refine va_bast (D := (dC, dI)) (cl := vwCl) hx hb hK hP hD hS 1 0 rfl rfl (i := 19) (by unfold vp_in; decide) dX9_append_70 (fun H locs hP hD hS => ?_)
  generalize upd f_13 (Int32.toNatClampNeg 19) (vp_nar .byte x_15) = f_16 at hP hD
  have hP : va_P (dC, dI) vwCl [(tp, .inr (8, [.ref bt, .int 16, .int 0, .int 0, .int 0, .int 0, .int 0, .int 0, .int 0])), (bt, .inl (cy 0, 800, .inl f_16))] H := hP
  have hD : va_D A [(tp, .inr (8, [.ref bt, .int 16, .int 0, .int 0, .int 0, .int 0, .int 0, .int 0, .int 0])), (bt, .inl (cy 0, 800, .inl f_16))] := hD
  refine lv_aload_n hx hb dX9_append_71 rfl (lv_at hl 0 rfl) ?_
  refine lv_dup hx hb dX9_append_72 rfl ?_
  refine r_get X kcX9 (ci := 8) rfl hP 0 rfl 1 (by decide) fX9_15 rfl dX9_append_73 ?_
  refine lv_iconst (v := 4) hx hb dX9_append_76 (by decide) ?_
  refine lv_iadd hx hb dX9_append_77 ?_
  refine lv_topi (fun x_17 ex_17 => ?_)
  have ex_17 : x_17 = 20 := ex_17.trans (by decide)
  subst ex_17
  refine r_put X kcX9 (ci := 8) rfl hP hD hS 0 rfl 1 (by decide) fX9_15 rfl rfl rfl (Nat.le_of_ble_eq_true rfl) dX9_append_78 (fun H locs hP hD hS => ?_)
  have hP : va_P (dC, dI) vwCl [(tp, .inr (8, [.ref bt, .int 20, .int 0, .int 0, .int 0, .int 0, .int 0, .int 0, .int 0])), (bt, .inl (cy 0, 800, .inl f_16))] H := hP
  have hD : va_D A [(tp, .inr (8, [.ref bt, .int 20, .int 0, .int 0, .int 0, .int 0, .int 0, .int 0, .int 0])), (bt, .inl (cy 0, 800, .inl f_16))] := hD
  exact eV X hr hlocks hP hD hS f_16 [0, 1] (by decide) rfl trivial (Nat.le_of_ble_eq_true rfl) (Nat.le_of_ble_eq_true rfl) dX9_append_81
set_option maxHeartbeats 4000000 in
set_option maxRecDepth 100000 in
theorem tX11_feed (l : Launch) (dC : Nat → ClassId) (dI : Nat → Nat → Nat) (cy : Nat → ClassId) (h0 : Nat) (tp : Nat) (v1 : Value) (v2 : Value) (v3 : Value) (v4 : Value) (v5 : Value) (v6 : Value) (v7 : Value) (v8 : Value) (v9 : Value) (v10 : Value) (v11 : Value) (v12 : Value) (v13 : Value) (v14 : Value) (v15 : Value) (v16 : Value) (bt : Nat) (fb : Nat → Int32) (p1 : Int32) (p2 : Int32) (p3 : Int32) (p4 : Int32) (p5 : Int32) : ctI l dC dI cy yX11_feed cX11_feed 6 .int ({ frames := 1, cells := 0, slots := 0, locals := 21 }) [.ref h0, .int p1, .int p2, .int p3, .int p4, .int p5] [(h0, .inr (10, [.ref tp, v1, v2, v3, v4, v5, v6, v7, v8, v9, v10, v11, v12, v13, v14, v15, v16])), (tp, .inr (8, [.ref bt, .int 0, .int 0, .int 0, .int 0, .int 0, .int 0, .int 0, .int 0])), (bt, .inl (cy 0, 800, .inl fb))] (S := Unit) (fun r _ => r = 20) (fun _ => []) := by
  refine ctI.of (by decide +kernel) (Nat.le_of_ble_eq_true rfl) ?_
  intro p e s m args below meth c A ls X hr hlocks hin hA hP hD hS hl
  have hx := X.1
  have hb := X.2.1
  have hK := X.2.2.2.2.2.1
  have hl : lv_has ls 6 [(0, .ref h0), (1, .int p1), (2, .int p2), (3, .int p3), (4, .int p4), (5, .int p5)] := hl
  refine lv_aload_n hx hb dX11_feed_0 rfl (lv_at hl 0 rfl) ?_
  refine r_get X kcX11 (ci := 10) rfl hP 0 rfl 0 (by decide) fX11_10 rfl dX11_feed_1 ?_
  refine fI (wr := [(h0, .inr (10, [.ref tp, v1, v2, v3, v4, v5, v6, v7, v8, v9, v10, v11, v12, v13, v14, v15, v16])), (bt, .inl (cy 0, 800, .inl fb))]) (rV_I (wc := [(tp, .inr (8, [.ref bt, .int 0, .int 0, .int 0, .int 0, .int 0, .int 0, .int 0, .int 0]))]) (As := []) (rest := []) X (tX9_hasRoom l dC dI cy tp bt) kX9_hasRoom vX9_hasRoom mX11_88 hP hD [1] (by decide) rfl 0 (ci := 8) rfl rfl rfl hl rfl rfl (Nat.le_of_ble_eq_true rfl) dX11_feed_4 ⟨Nat.le_of_ble_eq_true rfl, Nat.le_of_ble_eq_true rfl⟩ ⟨Nat.le_of_ble_eq_true rfl, Nat.le_of_ble_eq_true rfl⟩) hP hD hS hA [1] [0, 2] rfl rfl (by decide) (by decide) (fun r_1 u_3 H locs k_2 hP hD hS => ?_)
  have hP : va_P (dC, dI) vwCl [(h0, .inr (10, [.ref tp, v1, v2, v3, v4, v5, v6, v7, v8, v9, v10, v11, v12, v13, v14, v15, v16])), (bt, .inl (cy 0, 800, .inl fb)), (tp, .inr (8, [.ref bt, .int 0, .int 0, .int 0, .int 0, .int 0, .int 0, .int 0, .int 0]))] H := hP
  have hD : va_D A [(h0, .inr (10, [.ref tp, v1, v2, v3, v4, v5, v6, v7, v8, v9, v10, v11, v12, v13, v14, v15, v16])), (bt, .inl (cy 0, 800, .inl fb)), (tp, .inr (8, [.ref bt, .int 0, .int 0, .int 0, .int 0, .int 0, .int 0, .int 0, .int 0]))] := hD
  have er_1 : r_1 = 1 := k_2
  subst er_1
  refine lv_if_ne (tgt := 12) hx hb dX11_feed_7 (by decide) (fun _ => ?_) (fun h_4 => absurd h_4 (by decide))
  refine lv_aload_n hx hb dX11_feed_12 rfl (lv_at hl 0 rfl) ?_
  refine r_get X kcX11 (ci := 10) rfl hP 0 rfl 0 (by decide) fX11_10 rfl dX11_feed_13 ?_
  refine lv_iload_n hx hb dX11_feed_16 rfl (lv_at hl 1 rfl) ?_
  refine fV (wr := [(h0, .inr (10, [.ref tp, v1, v2, v3, v4, v5, v6, v7, v8, v9, v10, v11, v12, v13, v14, v15, v16]))]) (rV_V (wc := [(tp, .inr (8, [.ref bt, .int 0, .int 0, .int 0, .int 0, .int 0, .int 0, .int 0, .int 0])), (bt, .inl (cy 0, 800, .inl fb))]) (As := [.int p1]) (rest := []) X (tX9_append0 l dC dI cy tp bt fb p1) kX9_append vX9_append mX11_92 hP hD [2, 1] (by decide) rfl 0 (ci := 8) rfl rfl rfl hl rfl rfl (Nat.le_of_ble_eq_true rfl) dX11_feed_17 ⟨Nat.le_of_ble_eq_true rfl, Nat.le_of_ble_eq_true rfl⟩ ⟨Nat.le_of_ble_eq_true rfl, Nat.le_of_ble_eq_true rfl⟩) hP hD hS hA [2, 1] [0] rfl rfl (by decide) (by decide) (fun u_8 H locs k_7 hP hD hS => ?_)
  obtain ⟨f2_5, eu_8⟩ : ∃ z, z = u_8 := ⟨_, rfl⟩
  subst eu_8
  have hP : va_P (dC, dI) vwCl [(h0, .inr (10, [.ref tp, v1, v2, v3, v4, v5, v6, v7, v8, v9, v10, v11, v12, v13, v14, v15, v16])), (tp, .inr (8, [.ref bt, .int 4, .int 0, .int 0, .int 0, .int 0, .int 0, .int 0, .int 0])), (bt, .inl (cy 0, 800, .inl f2_5))] H := hP
  have hD : va_D A [(h0, .inr (10, [.ref tp, v1, v2, v3, v4, v5, v6, v7, v8, v9, v10, v11, v12, v13, v14, v15, v16])), (tp, .inr (8, [.ref bt, .int 4, .int 0, .int 0, .int 0, .int 0, .int 0, .int 0, .int 0])), (bt, .inl (cy 0, 800, .inl f2_5))] := hD
  refine lv_aload_n hx hb dX11_feed_20 rfl (lv_at hl 0 rfl) ?_
  refine r_get X kcX11 (ci := 10) rfl hP 0 rfl 0 (by decide) fX11_10 rfl dX11_feed_21 ?_
  refine lv_iload_n hx hb dX11_feed_24 rfl (lv_at hl 2 rfl) ?_
  refine fV (wr := [(h0, .inr (10, [.ref tp, v1, v2, v3, v4, v5, v6, v7, v8, v9, v10, v11, v12, v13, v14, v15, v16]))]) (rV_V (wc := [(tp, .inr (8, [.ref bt, .int 4, .int 0, .int 0, .int 0, .int 0, .int 0, .int 0, .int 0])), (bt, .inl (cy 0, 800, .inl f2_5))]) (As := [.int p2]) (rest := []) X (tX9_append4 l dC dI cy tp bt f2_5 p2) kX9_append vX9_append mX11_92 hP hD [1, 2] (by decide) rfl 0 (ci := 8) rfl rfl rfl hl rfl rfl (Nat.le_of_ble_eq_true rfl) dX11_feed_25 ⟨Nat.le_of_ble_eq_true rfl, Nat.le_of_ble_eq_true rfl⟩ ⟨Nat.le_of_ble_eq_true rfl, Nat.le_of_ble_eq_true rfl⟩) hP hD hS hA [1, 2] [0] rfl rfl (by decide) (by decide) (fun u_12 H locs k_11 hP hD hS => ?_)
  obtain ⟨f2_9, eu_12⟩ : ∃ z, z = u_12 := ⟨_, rfl⟩
  subst eu_12
  have hP : va_P (dC, dI) vwCl [(h0, .inr (10, [.ref tp, v1, v2, v3, v4, v5, v6, v7, v8, v9, v10, v11, v12, v13, v14, v15, v16])), (tp, .inr (8, [.ref bt, .int 8, .int 0, .int 0, .int 0, .int 0, .int 0, .int 0, .int 0])), (bt, .inl (cy 0, 800, .inl f2_9))] H := hP
  have hD : va_D A [(h0, .inr (10, [.ref tp, v1, v2, v3, v4, v5, v6, v7, v8, v9, v10, v11, v12, v13, v14, v15, v16])), (tp, .inr (8, [.ref bt, .int 8, .int 0, .int 0, .int 0, .int 0, .int 0, .int 0, .int 0])), (bt, .inl (cy 0, 800, .inl f2_9))] := hD
  refine lv_aload_n hx hb dX11_feed_28 rfl (lv_at hl 0 rfl) ?_
  refine r_get X kcX11 (ci := 10) rfl hP 0 rfl 0 (by decide) fX11_10 rfl dX11_feed_29 ?_
  refine lv_iload_n hx hb dX11_feed_32 rfl (lv_at hl 3 rfl) ?_
  refine fV (wr := [(h0, .inr (10, [.ref tp, v1, v2, v3, v4, v5, v6, v7, v8, v9, v10, v11, v12, v13, v14, v15, v16]))]) (rV_V (wc := [(tp, .inr (8, [.ref bt, .int 8, .int 0, .int 0, .int 0, .int 0, .int 0, .int 0, .int 0])), (bt, .inl (cy 0, 800, .inl f2_9))]) (As := [.int p3]) (rest := []) X (tX9_append8 l dC dI cy tp bt f2_9 p3) kX9_append vX9_append mX11_92 hP hD [1, 2] (by decide) rfl 0 (ci := 8) rfl rfl rfl hl rfl rfl (Nat.le_of_ble_eq_true rfl) dX11_feed_33 ⟨Nat.le_of_ble_eq_true rfl, Nat.le_of_ble_eq_true rfl⟩ ⟨Nat.le_of_ble_eq_true rfl, Nat.le_of_ble_eq_true rfl⟩) hP hD hS hA [1, 2] [0] rfl rfl (by decide) (by decide) (fun u_16 H locs k_15 hP hD hS => ?_)
  obtain ⟨f2_13, eu_16⟩ : ∃ z, z = u_16 := ⟨_, rfl⟩
  subst eu_16
  have hP : va_P (dC, dI) vwCl [(h0, .inr (10, [.ref tp, v1, v2, v3, v4, v5, v6, v7, v8, v9, v10, v11, v12, v13, v14, v15, v16])), (tp, .inr (8, [.ref bt, .int 12, .int 0, .int 0, .int 0, .int 0, .int 0, .int 0, .int 0])), (bt, .inl (cy 0, 800, .inl f2_13))] H := hP
  have hD : va_D A [(h0, .inr (10, [.ref tp, v1, v2, v3, v4, v5, v6, v7, v8, v9, v10, v11, v12, v13, v14, v15, v16])), (tp, .inr (8, [.ref bt, .int 12, .int 0, .int 0, .int 0, .int 0, .int 0, .int 0, .int 0])), (bt, .inl (cy 0, 800, .inl f2_13))] := hD
  refine lv_aload_n hx hb dX11_feed_36 rfl (lv_at hl 0 rfl) ?_
  refine r_get X kcX11 (ci := 10) rfl hP 0 rfl 0 (by decide) fX11_10 rfl dX11_feed_37 ?_
  refine lv_iload hx hb dX11_feed_40 (lv_at hl 4 rfl) ?_
  refine fV (wr := [(h0, .inr (10, [.ref tp, v1, v2, v3, v4, v5, v6, v7, v8, v9, v10, v11, v12, v13, v14, v15, v16]))]) (rV_V (wc := [(tp, .inr (8, [.ref bt, .int 12, .int 0, .int 0, .int 0, .int 0, .int 0, .int 0, .int 0])), (bt, .inl (cy 0, 800, .inl f2_13))]) (As := [.int p4]) (rest := []) X (tX9_append12 l dC dI cy tp bt f2_13 p4) kX9_append vX9_append mX11_92 hP hD [1, 2] (by decide) rfl 0 (ci := 8) rfl rfl rfl hl rfl rfl (Nat.le_of_ble_eq_true rfl) dX11_feed_42 ⟨Nat.le_of_ble_eq_true rfl, Nat.le_of_ble_eq_true rfl⟩ ⟨Nat.le_of_ble_eq_true rfl, Nat.le_of_ble_eq_true rfl⟩) hP hD hS hA [1, 2] [0] rfl rfl (by decide) (by decide) (fun u_20 H locs k_19 hP hD hS => ?_)
  obtain ⟨f2_17, eu_20⟩ : ∃ z, z = u_20 := ⟨_, rfl⟩
  subst eu_20
  have hP : va_P (dC, dI) vwCl [(h0, .inr (10, [.ref tp, v1, v2, v3, v4, v5, v6, v7, v8, v9, v10, v11, v12, v13, v14, v15, v16])), (tp, .inr (8, [.ref bt, .int 16, .int 0, .int 0, .int 0, .int 0, .int 0, .int 0, .int 0])), (bt, .inl (cy 0, 800, .inl f2_17))] H := hP
  have hD : va_D A [(h0, .inr (10, [.ref tp, v1, v2, v3, v4, v5, v6, v7, v8, v9, v10, v11, v12, v13, v14, v15, v16])), (tp, .inr (8, [.ref bt, .int 16, .int 0, .int 0, .int 0, .int 0, .int 0, .int 0, .int 0])), (bt, .inl (cy 0, 800, .inl f2_17))] := hD
  refine lv_aload_n hx hb dX11_feed_45 rfl (lv_at hl 0 rfl) ?_
  refine r_get X kcX11 (ci := 10) rfl hP 0 rfl 0 (by decide) fX11_10 rfl dX11_feed_46 ?_
  refine lv_iload hx hb dX11_feed_49 (lv_at hl 5 rfl) ?_
  refine fV (wr := [(h0, .inr (10, [.ref tp, v1, v2, v3, v4, v5, v6, v7, v8, v9, v10, v11, v12, v13, v14, v15, v16]))]) (rV_V (wc := [(tp, .inr (8, [.ref bt, .int 16, .int 0, .int 0, .int 0, .int 0, .int 0, .int 0, .int 0])), (bt, .inl (cy 0, 800, .inl f2_17))]) (As := [.int p5]) (rest := []) X (tX9_append16 l dC dI cy tp bt f2_17 p5) kX9_append vX9_append mX11_92 hP hD [1, 2] (by decide) rfl 0 (ci := 8) rfl rfl rfl hl rfl rfl (Nat.le_of_ble_eq_true rfl) dX11_feed_51 ⟨Nat.le_of_ble_eq_true rfl, Nat.le_of_ble_eq_true rfl⟩ ⟨Nat.le_of_ble_eq_true rfl, Nat.le_of_ble_eq_true rfl⟩) hP hD hS hA [1, 2] [0] rfl rfl (by decide) (by decide) (fun u_24 H locs k_23 hP hD hS => ?_)
  obtain ⟨f2_21, eu_24⟩ : ∃ z, z = u_24 := ⟨_, rfl⟩
  subst eu_24
  have hP : va_P (dC, dI) vwCl [(h0, .inr (10, [.ref tp, v1, v2, v3, v4, v5, v6, v7, v8, v9, v10, v11, v12, v13, v14, v15, v16])), (tp, .inr (8, [.ref bt, .int 20, .int 0, .int 0, .int 0, .int 0, .int 0, .int 0, .int 0])), (bt, .inl (cy 0, 800, .inl f2_21))] H := hP
  have hD : va_D A [(h0, .inr (10, [.ref tp, v1, v2, v3, v4, v5, v6, v7, v8, v9, v10, v11, v12, v13, v14, v15, v16])), (tp, .inr (8, [.ref bt, .int 20, .int 0, .int 0, .int 0, .int 0, .int 0, .int 0, .int 0])), (bt, .inl (cy 0, 800, .inl f2_21))] := hD
  refine lv_aload_n hx hb dX11_feed_54 rfl (lv_at hl 0 rfl) ?_
  refine r_get X kcX11 (ci := 10) rfl hP 0 rfl 0 (by decide) fX11_10 rfl dX11_feed_55 ?_
  refine r_get X kcX9 (ci := 8) rfl hP 1 rfl 1 (by decide) fX11_96 rfl dX11_feed_58 ?_
  exact eI X hr hlocks hP hD hS () [] (by decide) rfl rfl rfl (Nat.le_of_ble_eq_true rfl) (Nat.le_of_ble_eq_true rfl) dX11_feed_61
