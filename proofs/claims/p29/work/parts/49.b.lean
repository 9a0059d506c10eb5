set_option maxHeartbeats 4000000 in
set_option maxRecDepth 100000 in
theorem g9_append (l : Launch) (dC : Nat → ClassId) (dI : Nat → Nat → Nat) (cy : Nat → ClassId) (h0 : Nat) (t_bytes : Nat) (t_length : Int32) (t_end : Int32) (t_token : Int32) (t_start : Int32) (t_stop : Int32) (t_number : Int32) (t_fault : Int32) (t_faultAt : Int32) (t_bytesf : Nat → Int32) (p1 : Int32) (ht_length : 0 ≤ t_length.toInt ∧ t_length.toInt ≤ 800) : ctV l dC dI cy hp yX9_append cX9_append 2 ({ frames := 0, cells := 0, slots := 0, locals := 0 } : Room) [.ref h0, .int p1] [(h0, .inr (8, [.ref t_bytes, .int t_length, .int t_end, .int t_token, .int t_start, .int t_stop, .int t_number, .int t_fault, .int t_faultAt])), (t_bytes, .inl (cy 0, 800, .inl t_bytesf))] (S := (Nat → Int32) × Int32) (fun u => (0 ≤ u.2.toInt ∧ u.2.toInt ≤ 800) ∧ ((t_length.toInt + 4 ≤ 800 ∧ u.2.toInt = t_length.toInt + 4) ∨ (800 < t_length.toInt + 4 ∧ u.2.toInt = t_length.toInt)) ∧ (apB t_bytesf u.1 t_length.toInt u.2.toInt p1)) (fun u => [(h0, .inr (8, [.ref t_bytes, .int u.2, .int t_end, .int t_token, .int t_start, .int t_stop, .int t_number, .int t_fault, .int t_faultAt])), (t_bytes, .inl (cy 0, 800, .inl u.1))]) := by
  refine ctV.of (by decide +kernel) (Nat.le_of_ble_eq_true rfl) ?_
  intro p e s m args below meth c A ls Q hQ X hr hlocks hin hA hP hD hS hl
  have hx := X.1
  have hb := X.2.1
  have hK := X.2.2.2.2.2.1
  have hl : lv_has ls 2 [(0, .ref h0), (1, .int p1)] := hl
  have dy_1 := ti_bd p1
  refine lv_aload_n hx hb dX9_append_0 rfl (lv_at hl 0 rfl) ?_
  refine r_get X kcX9 (ci := 8) rfl hP 0 rfl 1 (by decide) fX9_15 rfl dX9_append_1 ?_
  refine lv_iconst (v := 4) hx hb dX9_append_4 (by decide) ?_
  refine lv_iadd hx hb dX9_append_5 ?_
  refine lv_topi (fun x_2 ex_2 => ?_)
  have tx_2 : x_2.toInt = t_length.toInt + 4 := ti_add (A := t_length.toInt) (B := 4) ex_2 rfl rfl (by omega) (by omega)
  refine lv_sipush (v := 800) hx hb dX9_append_6 (by decide) ?_
  refine lv_icmp_gt (tgt := 81) hx hb dX9_append_9 (by decide) (fun h_3 => ?_) (fun h_3 => ?_)
  · have h_3 : 800 < x_2.toInt := c_lt h_3
    exact eV hQ X hr hlocks hP hD hS (t_bytesf, t_length) [0, 1] (by decide) rfl (show (0 ≤ t_length.toInt ∧ t_length.toInt ≤ 800) ∧ ((t_length.toInt + 4 ≤ 800 ∧ t_length.toInt = t_length.toInt + 4) ∨ (800 < t_length.toInt + 4 ∧ t_length.toInt = t_length.toInt)) ∧ (apB t_bytesf t_bytesf t_length.toInt t_length.toInt p1) from ⟨ht_length, (by omega), (fun h9 => by exfalso; omega)⟩) (Nat.le_of_ble_eq_true rfl) (Nat.le_of_ble_eq_true rfl) dX9_append_81
  · have h_3 : x_2.toInt ≤ 800 := c_nlt h_3
    refine lv_aload_n hx hb dX9_append_12 rfl (lv_at hl 0 rfl) ?_
    refine r_get X kcX9 (ci := 8) rfl hP 0 rfl 0 (by decide) fX9_11 rfl dX9_append_13 ?_
    refine lv_aload_n hx hb dX9_append_16 rfl (lv_at hl 0 rfl) ?_
    refine r_get X kcX9 (ci := 8) rfl hP 0 rfl 1 (by decide) fX9_15 rfl dX9_append_17 ?_
    refine lv_iload_n hx hb dX9_append_20 rfl (lv_at hl 1 rfl) ?_
    refine lv_bipush (v := 24) hx hb dX9_append_21 (by decide) ?_
    refine lv_ishr hx hb dX9_append_23 ?_
    refine lv_topi (fun x_4 ex_4 => ?_)
    obtain ⟨x_5, ex_5⟩ : ∃ y : Int32, x_4.toInt8.toInt32 = y := ⟨_, rfl⟩
    refine lv_i2b hx hb dX9_append_24 ex_5 ?_
    refine va_bast (D := (dC, dI)) (cl := vwCl) hx hb hK hP hD hS 1 0 rfl rfl (i := t_length) (vin (by omega) (by omega)) dX9_append_25 (fun H locs hP hD hS => ?_)
    generalize ef_6 : upd t_bytesf (Int32.toNatClampNeg t_length) (vp_nar .byte x_5) = f_6 at hP hD
    have hPD := vPD (ws' := [(h0, .inr (8, [.ref t_bytes, .int t_length, .int t_end, .int t_token, .int t_start, .int t_stop, .int t_number, .int t_fault, .int t_faultAt])), (t_bytes, .inl (cy 0, 800, .inl f_6))]) hP hD rfl
    have hP := hPD.1
    have hD := hPD.2
    refine lv_aload_n hx hb dX9_append_26 rfl (lv_at hl 0 rfl) ?_
    refine r_get X kcX9 (ci := 8) rfl hP 0 rfl 0 (by decide) fX9_11 rfl dX9_append_27 ?_
    refine lv_aload_n hx hb dX9_append_30 rfl (lv_at hl 0 rfl) ?_
    refine r_get X kcX9 (ci := 8) rfl hP 0 rfl 1 (by decide) fX9_15 rfl dX9_append_31 ?_
    refine lv_iconst (v := 1) hx hb dX9_append_34 (by decide) ?_
    refine lv_iadd hx hb dX9_append_35 ?_
    refine lv_topi (fun x_7 ex_7 => ?_)
    have tx_7 : x_7.toInt = t_length.toInt + 1 := ti_add (A := t_length.toInt) (B := 1) ex_7 rfl rfl (by omega) (by omega)
    refine lv_iload_n hx hb dX9_append_36 rfl (lv_at hl 1 rfl) ?_
    refine lv_bipush (v := 16) hx hb dX9_append_37 (by decide) ?_
    refine lv_ishr hx hb dX9_append_39 ?_
    refine lv_topi (fun x_8 ex_8 => ?_)
    obtain ⟨x_9, ex_9⟩ : ∃ y : Int32, x_8.toInt8.toInt32 = y := ⟨_, rfl⟩
    refine lv_i2b hx hb dX9_append_40 ex_9 ?_
    refine va_bast (D := (dC, dI)) (cl := vwCl) hx hb hK hP hD hS 1 0 rfl rfl (i := x_7) (vin (by omega) (by omega)) dX9_append_41 (fun H locs hP hD hS => ?_)
    generalize ef_10 : upd f_6 (Int32.toNatClampNeg x_7) (vp_nar .byte x_9) = f_10 at hP hD
    have hPD := vPD (ws' := [(h0, .inr (8, [.ref t_bytes, .int t_length, .int t_end, .int t_token, .int t_start, .int t_stop, .int t_number, .int t_fault, .int t_faultAt])), (t_bytes, .inl (cy 0, 800, .inl f_10))]) hP hD rfl
    have hP := hPD.1
    have hD := hPD.2
    refine lv_aload_n hx hb dX9_append_42 rfl (lv_at hl 0 rfl) ?_
    refine r_get X kcX9 (ci := 8) rfl hP 0 rfl 0 (by decide) fX9_11 rfl dX9_append_43 ?_
    refine lv_aload_n hx hb dX9_append_46 rfl (lv_at hl 0 rfl) ?_
    refine r_get X kcX9 (ci := 8) rfl hP 0 rfl 1 (by decide) fX9_15 rfl dX9_append_47 ?_
    refine lv_iconst (v := 2) hx hb dX9_append_50 (by decide) ?_
    refine lv_iadd hx hb dX9_append_51 ?_
    refine lv_topi (fun x_11 ex_11 => ?_)
    have tx_11 : x_11.toInt = t_length.toInt + 2 := ti_add (A := t_length.toInt) (B := 2) ex_11 rfl rfl (by omega) (by omega)
    refine lv_iload_n hx hb dX9_append_52 rfl (lv_at hl 1 rfl) ?_
    refine lv_bipush (v := 8) hx hb dX9_append_53 (by decide) ?_
    refine lv_ishr hx hb dX9_append_55 ?_
    refine lv_topi (fun x_12 ex_12 => ?_)
    obtain ⟨x_13, ex_13⟩ : ∃ y : Int32, x_12.toInt8.toInt32 = y := ⟨_, rfl⟩
    refine lv_i2b hx hb dX9_append_56 ex_13 ?_
    refine va_bast (D := (dC, dI)) (cl := vwCl) hx hb hK hP hD hS 1 0 rfl rfl (i := x_11) (vin (by omega) (by omega)) dX9_append_57 (fun H locs hP hD hS => ?_)
    generalize ef_14 : upd f_10 (Int32.toNatClampNeg x_11) (vp_nar .byte x_13) = f_14 at hP hD
    have hPD := vPD (ws' := [(h0, .inr (8, [.ref t_bytes, .int t_length, .int t_end, .int t_token, .int t_start, .int t_stop, .int t_number, .int t_fault, .int t_faultAt])), (t_bytes, .inl (cy 0, 800, .inl f_14))]) hP hD rfl
    have hP := hPD.1
    have hD := hPD.2
    refine lv_aload_n hx hb dX9_append_58 rfl (lv_at hl 0 rfl) ?_
    refine r_get X kcX9 (ci := 8) rfl hP 0 rfl 0 (by decide) fX9_11 rfl dX9_append_59 ?_
    refine lv_aload_n hx hb dX9_append_62 rfl (lv_at hl 0 rfl) ?_
    refine r_get X kcX9 (ci := 8) rfl hP 0 rfl 1 (by decide) fX9_15 rfl dX9_append_63 ?_
    refine lv_iconst (v := 3) hx hb dX9_append_66 (by decide) ?_
    refine lv_iadd hx hb dX9_append_67 ?_
    refine lv_topi (fun x_15 ex_15 => ?_)
    have tx_15 : x_15.toInt = t_length.toInt + 3 := ti_add (A := t_length.toInt) (B := 3) ex_15 rfl rfl (by omega) (by omega)
    refine lv_iload_n hx hb dX9_append_68 rfl (lv_at hl 1 rfl) ?_
    obtain ⟨x_16, ex_16⟩ : ∃ y : Int32, p1.toInt8.toInt32 = y := ⟨_, rfl⟩
    refine lv_i2b hx hb dX9_append_69 ex_16 ?_
    refine va_bast (D := (dC, dI)) (cl := vwCl) hx hb hK hP hD hS 1 0 rfl rfl (i := x_15) (vin (by omega) (by omega)) dX9_append_70 (fun H locs hP hD hS => ?_)
    generalize ef_17 : upd f_14 (Int32.toNatClampNeg x_15) (vp_nar .byte x_16) = f_17 at hP hD
    have hPD := vPD (ws' := [(h0, .inr (8, [.ref t_bytes, .int t_length, .int t_end, .int t_token, .int t_start, .int t_stop, .int t_number, .int t_fault, .int t_faultAt])), (t_bytes, .inl (cy 0, 800, .inl f_17))]) hP hD rfl
    have hP := hPD.1
    have hD := hPD.2
    refine lv_aload_n hx hb dX9_append_71 rfl (lv_at hl 0 rfl) ?_
    refine lv_dup hx hb dX9_append_72 rfl ?_
    refine r_get X kcX9 (ci := 8) rfl hP 0 rfl 1 (by decide) fX9_15 rfl dX9_append_73 ?_
    refine lv_iconst (v := 4) hx hb dX9_append_76 (by decide) ?_
    refine lv_iadd hx hb dX9_append_77 ?_
    refine lv_topi (fun x_18 ex_18 => ?_)
    have tx_18 : x_18.toInt = t_length.toInt + 4 := ti_add (A := t_length.toInt) (B := 4) ex_18 rfl rfl (by omega) (by omega)
    refine r_put X kcX9 (ci := 8) rfl hP hD hS 0 rfl 1 (by decide) fX9_15 rfl rfl rfl (Nat.le_of_ble_eq_true rfl) dX9_append_78 (fun H locs hP hD hS => ?_)
    have hPD := vPD (ws' := [(h0, .inr (8, [.ref t_bytes, .int x_18, .int t_end, .int t_token, .int t_start, .int t_stop, .int t_number, .int t_fault, .int t_faultAt])), (t_bytes, .inl (cy 0, 800, .inl f_17))]) hP hD rfl
    have hP := hPD.1
    have hD := hPD.2
    exact eV hQ X hr hlocks hP hD hS (f_17, x_18) [0, 1] (by decide) rfl (show (0 ≤ x_18.toInt ∧ x_18.toInt ≤ 800) ∧ ((t_length.toInt + 4 ≤ 800 ∧ x_18.toInt = t_length.toInt + 4) ∨ (800 < t_length.toInt + 4 ∧ x_18.toInt = t_length.toInt)) ∧ (apB t_bytesf f_17 t_length.toInt x_18.toInt p1) from ⟨(by omega), (by omega), (apB_of ef_6 ef_10 ef_14 ef_17 (by omega) (by omega) (by omega) (by omega) ex_4 ex_5 ex_8 ex_9 ex_12 ex_13 ex_16 (by omega))⟩) (Nat.le_of_ble_eq_true rfl) (Nat.le_of_ble_eq_true rfl) dX9_append_81
set_option maxHeartbeats 4000000 in
set_option maxRecDepth 100000 in
theorem gX11_feed (l : Launch) (dC : Nat → ClassId) (dI : Nat → Nat → Nat) (cy : Nat → ClassId) (h0 : Nat) (h_tape : Nat) (h_now : Nat) (h_trial : Nat) (h_kept : Nat) (h_images : Nat) (h_way : Nat) (h_otherWay : Nat) (h_flood : Nat) (h_cutSearch : Nat) (h_drySearch : Nat) (h_guess : Nat) (h_fraction : Nat) (h_told : Nat) (h_draft : Nat) (h_keptCount : Int32) (h_imageCount : Int32) (h_trouble : Int32) (h_tape_bytes : Nat) (h_tape_length : Int32) (h_tape_end : Int32) (h_tape_token : Int32) (h_tape_start : Int32) (h_tape_stop : Int32) (h_tape_number : Int32) (h_tape_fault : Int32) (h_tape_faultAt : Int32) (h_tape_bytesf : Nat → Int32) (p1 : Int32) (p2 : Int32) (p3 : Int32) (p4 : Int32) (p5 : Int32) (hh_keptCount : 0 ≤ h_keptCount.toInt ∧ h_keptCount.toInt ≤ 16) (hh_imageCount : 0 ≤ h_imageCount.toInt ∧ h_imageCount.toInt ≤ 3) (hh_tape_length : 0 ≤ h_tape_length.toInt ∧ h_tape_length.toInt ≤ 800) : ctI l dC dI cy hp yX11_feed cX11_feed 6 .int ({ frames := 1, cells := 0, slots := 0, locals := 21 } : Room) [.ref h0, .int p1, .int p2, .int p3, .int p4, .int p5] [(h0, .inr (10, [.ref h_tape, .ref h_now, .ref h_trial, .ref h_kept, .ref h_images, .ref h_way, .ref h_otherWay, .ref h_flood, .ref h_cutSearch, .ref h_drySearch, .ref h_guess, .ref h_fraction, .ref h_told, .ref h_draft, .int h_keptCount, .int h_imageCount, .int h_trouble])), (h_tape, .inr (8, [.ref h_tape_bytes, .int h_tape_length, .int h_tape_end, .int h_tape_token, .int h_tape_start, .int h_tape_stop, .int h_tape_number, .int h_tape_fault, .int h_tape_faultAt])), (h_tape_bytes, .inl (cy 0, 800, .inl h_tape_bytesf))] (S := (Nat → Int32) × Int32) (fun r u => (0 ≤ u.2.toInt ∧ u.2.toInt ≤ 800) ∧ ((h_tape_length.toInt + 20 ≤ 800 ∧ u.2.toInt = h_tape_length.toInt + 20 ∧ r.toInt = h_tape_length.toInt + 20) ∨ (800 < h_tape_length.toInt + 20 ∧ u.2.toInt = h_tape_length.toInt ∧ r.toInt = -1)) ∧ (fdB h_tape_bytesf u.1 h_tape_length.toInt u.2.toInt p1 p2 p3 p4 p5) ∧ (800 < h_tape_length.toInt + 20 → u.1 = h_tape_bytesf)) (fun u => [(h0, .inr (10, [.ref h_tape, .ref h_now, .ref h_trial, .ref h_kept, .ref h_images, .ref h_way, .ref h_otherWay, .ref h_flood, .ref h_cutSearch, .ref h_drySearch, .ref h_guess, .ref h_fraction, .ref h_told, .ref h_draft, .int h_keptCount, .int h_imageCount, .int h_trouble])), (h_tape, .inr (8, [.ref h_tape_bytes, .int u.2, .int h_tape_end, .int h_tape_token, .int h_tape_start, .int h_tape_stop, .int h_tape_number, .int h_tape_fault, .int h_tape_faultAt])), (h_tape_bytes, .inl (cy 0, 800, .inl u.1))]) := by
  refine ctI.of (by decide +kernel) (Nat.le_of_ble_eq_true rfl) ?_
  intro p e s m args below meth c A ls Q hQ X hr hlocks hin hA hP hD hS hl
  have hx := X.1
  have hb := X.2.1
  have hK := X.2.2.2.2.2.1
  have hl : lv_has ls 6 [(0, .ref h0), (1, .int p1), (2, .int p2), (3, .int p3), (4, .int p4), (5, .int p5)] := hl
  have dy_1 := ti_bd p1
  have dy_2 := ti_bd p2
  have dy_3 := ti_bd p3
  have dy_4 := ti_bd p4
  have dy_5 := ti_bd p5
  refine lv_aload_n hx hb dX11_feed_0 rfl (lv_at hl 0 rfl) ?_
  refine r_get X kcX11 (ci := 10) rfl hP 0 rfl 0 (by decide) fX11_10 rfl dX11_feed_1 ?_
  refine sl_Ic (rV_I (As := []) (rest := []) X hp_st (fun _ _ _ h => h) (sX9_hasRoom l dC dI cy h_tape h_tape_bytes h_tape_length h_tape_end h_tape_token h_tape_start h_tape_stop h_tape_number h_tape_fault h_tape_faultAt hh_tape_length) kX9_hasRoom vX9_hasRoom mX11_88 hP hD hS hA [1] (by decide) rfl 0 (ci := 8) rfl rfl rfl hl rfl rfl (Nat.le_of_ble_eq_true rfl) dX11_feed_4 ⟨(Nat.le_of_ble_eq_true rfl), (Nat.le_of_ble_eq_true rfl)⟩ ⟨(Nat.le_of_ble_eq_true rfl), (Nat.le_of_ble_eq_true rfl)⟩) hP hD hS hA [1] [true, false, true] rfl rfl rfl (fun r_6 u_8 H locs k_7 hP hD hS => ?_)
  have k_7 : (0 ≤ r_6.toInt ∧ r_6.toInt ≤ 1) ∧ ((r_6.toInt = 1 ∧ h_tape_length.toInt + 20 ≤ 800) ∨ (r_6.toInt = 0 ∧ 800 < h_tape_length.toInt + 20)) := k_7
  obtain ⟨k_7_0, k_7_1⟩ := k_7
  have hPD := vPD (ws' := [(h0, .inr (10, [.ref h_tape, .ref h_now, .ref h_trial, .ref h_kept, .ref h_images, .ref h_way, .ref h_otherWay, .ref h_flood, .ref h_cutSearch, .ref h_drySearch, .ref h_guess, .ref h_fraction, .ref h_told, .ref h_draft, .int h_keptCount, .int h_imageCount, .int h_trouble])), (h_tape_bytes, .inl (cy 0, 800, .inl h_tape_bytesf)), (h_tape, .inr (8, [.ref h_tape_bytes, .int h_tape_length, .int h_tape_end, .int h_tape_token, .int h_tape_start, .int h_tape_stop, .int h_tape_number, .int h_tape_fault, .int h_tape_faultAt]))]) hP hD rfl
  have hP := hPD.1
  have hD := hPD.2
  refine lv_if_ne (tgt := 12) hx hb dX11_feed_7 (by decide) (fun h_9 => ?_) (fun h_9 => ?_)
  · have h_9 : r_6.toInt ≠ 0 := c_ne h_9
    refine lv_aload_n hx hb dX11_feed_12 rfl (lv_at hl 0 rfl) ?_
    refine r_get X kcX11 (ci := 10) rfl hP 0 rfl 0 (by decide) fX11_10 rfl dX11_feed_13 ?_
    refine lv_iload_n hx hb dX11_feed_16 rfl (lv_at hl 1 rfl) ?_
    refine sl_Vc (rV_V (As := [.int p1]) (rest := []) X hp_st (fun _ _ _ h => h) (g9_append l dC dI cy h_tape h_tape_bytes h_tape_length h_tape_end h_tape_token h_tape_start h_tape_stop h_tape_number h_tape_fault h_tape_faultAt h_tape_bytesf p1 hh_tape_length) kX9_append vX9_append mX11_92 hP hD hS hA [2, 1] (by decide) rfl 0 (ci := 8) rfl rfl rfl hl rfl rfl (Nat.le_of_ble_eq_true rfl) dX11_feed_17 ⟨(Nat.le_of_ble_eq_true rfl), (Nat.le_of_ble_eq_true rfl)⟩ ⟨(Nat.le_of_ble_eq_true rfl), (Nat.le_of_ble_eq_true rfl)⟩) hP hD hS hA [2, 1] [true, false, false] rfl rfl rfl (fun u_14 H locs k_13 hP hD hS => ?_)
    obtain ⟨t_bytesf1_10, t_length1_11⟩ := u_14
    have k_13 : (0 ≤ t_length1_11.toInt ∧ t_length1_11.toInt ≤ 800) ∧ ((h_tape_length.toInt + 4 ≤ 800 ∧ t_length1_11.toInt = h_tape_length.toInt + 4) ∨ (800 < h_tape_length.toInt + 4 ∧ t_length1_11.toInt = h_tape_length.toInt)) ∧ (apB h_tape_bytesf t_bytesf1_10 h_tape_length.toInt t_length1_11.toInt p1) := k_13
    obtain ⟨k_13_0, k_13_1, k_13_2⟩ := k_13
    have hPD := vPD (ws' := [(h0, .inr (10, [.ref h_tape, .ref h_now, .ref h_trial, .ref h_kept, .ref h_images, .ref h_way, .ref h_otherWay, .ref h_flood, .ref h_cutSearch, .ref h_drySearch, .ref h_guess, .ref h_fraction, .ref h_told, .ref h_draft, .int h_keptCount, .int h_imageCount, .int h_trouble])), (h_tape, .inr (8, [.ref h_tape_bytes, .int t_length1_11, .int h_tape_end, .int h_tape_token, .int h_tape_start, .int h_tape_stop, .int h_tape_number, .int h_tape_fault, .int h_tape_faultAt])), (h_tape_bytes, .inl (cy 0, 800, .inl t_bytesf1_10))]) hP hD rfl
    have hP := hPD.1
    have hD := hPD.2
    refine lv_aload_n hx hb dX11_feed_20 rfl (lv_at hl 0 rfl) ?_
    refine r_get X kcX11 (ci := 10) rfl hP 0 rfl 0 (by decide) fX11_10 rfl dX11_feed_21 ?_
    refine lv_iload_n hx hb dX11_feed_24 rfl (lv_at hl 2 rfl) ?_
    refine sl_Vc (rV_V (As := [.int p2]) (rest := []) X hp_st (fun _ _ _ h => h) (g9_append l dC dI cy h_tape h_tape_bytes t_length1_11 h_tape_end h_tape_token h_tape_start h_tape_stop h_tape_number h_tape_fault h_tape_faultAt t_bytesf1_10 p2 k_13_0) kX9_append vX9_append mX11_92 hP hD hS hA [1, 2] (by decide) rfl 0 (ci := 8) rfl rfl rfl hl rfl rfl (Nat.le_of_ble_eq_true rfl) dX11_feed_25 ⟨(Nat.le_of_ble_eq_true rfl), (Nat.le_of_ble_eq_true rfl)⟩ ⟨(Nat.le_of_ble_eq_true rfl), (Nat.le_of_ble_eq_true rfl)⟩) hP hD hS hA [1, 2] [true, false, false] rfl rfl rfl (fun u_19 H locs k_18 hP hD hS => ?_)
    obtain ⟨t_bytesf1_15, t_length1_16⟩ := u_19
    have k_18 : (0 ≤ t_length1_16.toInt ∧ t_length1_16.toInt ≤ 800) ∧ ((t_length1_11.toInt + 4 ≤ 800 ∧ t_length1_16.toInt = t_length1_11.toInt + 4) ∨ (800 < t_length1_11.toInt + 4 ∧ t_length1_16.toInt = t_length1_11.toInt)) ∧ (apB t_bytesf1_10 t_bytesf1_15 t_length1_11.toInt t_length1_16.toInt p2) := k_18
    obtain ⟨k_18_0, k_18_1, k_18_2⟩ := k_18
    have hPD := vPD (ws' := [(h0, .inr (10, [.ref h_tape, .ref h_now, .ref h_trial, .ref h_kept, .ref h_images, .ref h_way, .ref h_otherWay, .ref h_flood, .ref h_cutSearch, .ref h_drySearch, .ref h_guess, .ref h_fraction, .ref h_told, .ref h_draft, .int h_keptCount, .int h_imageCount, .int h_trouble])), (h_tape, .inr (8, [.ref h_tape_bytes, .int t_length1_16, .int h_tape_end, .int h_tape_token, .int h_tape_start, .int h_tape_stop, .int h_tape_number, .int h_tape_fault, .int h_tape_faultAt])), (h_tape_bytes, .inl (cy 0, 800, .inl t_bytesf1_15))]) hP hD rfl
    have hP := hPD.1
    have hD := hPD.2
    refine lv_aload_n hx hb dX11_feed_28 rfl (lv_at hl 0 rfl) ?_
    refine r_get X kcX11 (ci := 10) rfl hP 0 rfl 0 (by decide) fX11_10 rfl dX11_feed_29 ?_
    refine lv_iload_n hx hb dX11_feed_32 rfl (lv_at hl 3 rfl) ?_
    refine sl_Vc (rV_V (As := [.int p3]) (rest := []) X hp_st (fun _ _ _ h => h) (g9_append l dC dI cy h_tape h_tape_bytes t_length1_16 h_tape_end h_tape_token h_tape_start h_tape_stop h_tape_number h_tape_fault h_tape_faultAt t_bytesf1_15 p3 k_18_0) kX9_append vX9_append mX11_92 hP hD hS hA [1, 2] (by decide) rfl 0 (ci := 8) rfl rfl rfl hl rfl rfl (Nat.le_of_ble_eq_true rfl) dX11_feed_33 ⟨(Nat.le_of_ble_eq_true rfl), (Nat.le_of_ble_eq_true rfl)⟩ ⟨(Nat.le_of_ble_eq_true rfl), (Nat.le_of_ble_eq_true rfl)⟩) hP hD hS hA [1, 2] [true, false, false] rfl rfl rfl (fun u_24 H locs k_23 hP hD hS => ?_)
    obtain ⟨t_bytesf1_20, t_length1_21⟩ := u_24
    have k_23 : (0 ≤ t_length1_21.toInt ∧ t_length1_21.toInt ≤ 800) ∧ ((t_length1_16.toInt + 4 ≤ 800 ∧ t_length1_21.toInt = t_length1_16.toInt + 4) ∨ (800 < t_length1_16.toInt + 4 ∧ t_length1_21.toInt = t_length1_16.toInt)) ∧ (apB t_bytesf1_15 t_bytesf1_20 t_length1_16.toInt t_length1_21.toInt p3) := k_23
    obtain ⟨k_23_0, k_23_1, k_23_2⟩ := k_23
    have hPD := vPD (ws' := [(h0, .inr (10, [.ref h_tape, .ref h_now, .ref h_trial, .ref h_kept, .ref h_images, .ref h_way, .ref h_otherWay, .ref h_flood, .ref h_cutSearch, .ref h_drySearch, .ref h_guess, .ref h_fraction, .ref h_told, .ref h_draft, .int h_keptCount, .int h_imageCount, .int h_trouble])), (h_tape, .inr (8, [.ref h_tape_bytes, .int t_length1_21, .int h_tape_end, .int h_tape_token, .int h_tape_start, .int h_tape_stop, .int h_tape_number, .int h_tape_fault, .int h_tape_faultAt])), (h_tape_bytes, .inl (cy 0, 800, .inl t_bytesf1_20))]) hP hD rfl
    have hP := hPD.1
    have hD := hPD.2
    refine lv_aload_n hx hb dX11_feed_36 rfl (lv_at hl 0 rfl) ?_
    refine r_get X kcX11 (ci := 10) rfl hP 0 rfl 0 (by decide) fX11_10 rfl dX11_feed_37 ?_
    refine lv_iload hx hb dX11_feed_40 (lv_at hl 4 rfl) ?_
    refine sl_Vc (rV_V (As := [.int p4]) (rest := []) X hp_st (fun _ _ _ h => h) (g9_append l dC dI cy h_tape h_tape_bytes t_length1_21 h_tape_end h_tape_token h_tape_start h_tape_stop h_tape_number h_tape_fault h_tape_faultAt t_bytesf1_20 p4 k_23_0) kX9_append vX9_append mX11_92 hP hD hS hA [1, 2] (by decide) rfl 0 (ci := 8) rfl rfl rfl hl rfl rfl (Nat.le_of_ble_eq_true rfl) dX11_feed_42 ⟨(Nat.le_of_ble_eq_true rfl), (Nat.le_of_ble_eq_true rfl)⟩ ⟨(Nat.le_of_ble_eq_true rfl), (Nat.le_of_ble_eq_true rfl)⟩) hP hD hS hA [1, 2] [true, false, false] rfl rfl rfl (fun u_29 H locs k_28 hP hD hS => ?_)
    obtain ⟨t_bytesf1_25, t_length1_26⟩ := u_29
    have k_28 : (0 ≤ t_length1_26.toInt ∧ t_length1_26.toInt ≤ 800) ∧ ((t_length1_21.toInt + 4 ≤ 800 ∧ t_length1_26.toInt = t_length1_21.toInt + 4) ∨ (800 < t_length1_21.toInt + 4 ∧ t_length1_26.toInt = t_length1_21.toInt)) ∧ (apB t_bytesf1_20 t_bytesf1_25 t_length1_21.toInt t_length1_26.toInt p4) := k_28
    obtain ⟨k_28_0, k_28_1, k_28_2⟩ := k_28
    have hPD := vPD (ws' := [(h0, .inr (10, [.ref h_tape, .ref h_now, .ref h_trial, .ref h_kept, .ref h_images, .ref h_way, .ref h_otherWay, .ref h_flood, .ref h_cutSearch, .ref h_drySearch, .ref h_guess, .ref h_fraction, .ref h_told, .ref h_draft, .int h_keptCount, .int h_imageCount, .int h_trouble])), (h_tape, .inr (8, [.ref h_tape_bytes, .int t_length1_26, .int h_tape_end, .int h_tape_token, .int h_tape_start, .int h_tape_stop, .int h_tape_number, .int h_tape_fault, .int h_tape_faultAt])), (h_tape_bytes, .inl (cy 0, 800, .inl t_bytesf1_25))]) hP hD rfl
    have hP := hPD.1
    have hD := hPD.2
    refine lv_aload_n hx hb dX11_feed_45 rfl (lv_at hl 0 rfl) ?_
    refine r_get X kcX11 (ci := 10) rfl hP 0 rfl 0 (by decide) fX11_10 rfl dX11_feed_46 ?_
    refine lv_iload hx hb dX11_feed_49 (lv_at hl 5 rfl) ?_
    refine sl_Vc (rV_V (As := [.int p5]) (rest := []) X hp_st (fun _ _ _ h => h) (g9_append l dC dI cy h_tape h_tape_bytes t_length1_26 h_tape_end h_tape_token h_tape_start h_tape_stop h_tape_number h_tape_fault h_tape_faultAt t_bytesf1_25 p5 k_28_0) kX9_append vX9_append mX11_92 hP hD hS hA [1, 2] (by decide) rfl 0 (ci := 8) rfl rfl rfl hl rfl rfl (Nat.le_of_ble_eq_true rfl) dX11_feed_51 ⟨(Nat.le_of_ble_eq_true rfl), (Nat.le_of_ble_eq_true rfl)⟩ ⟨(Nat.le_of_ble_eq_true rfl), (Nat.le_of_ble_eq_true rfl)⟩) hP hD hS hA [1, 2] [true, false, false] rfl rfl rfl (fun u_34 H locs k_33 hP hD hS => ?_)
    obtain ⟨t_bytesf1_30, t_length1_31⟩ := u_34
    have k_33 : (0 ≤ t_length1_31.toInt ∧ t_length1_31.toInt ≤ 800) ∧ ((t_length1_26.toInt + 4 ≤ 800 ∧ t_length1_31.toInt = t_length1_26.toInt + 4) ∨ (800 < t_length1_26.toInt + 4 ∧ t_length1_31.toInt = t_length1_26.toInt)) ∧ (apB t_bytesf1_25 t_bytesf1_30 t_length1_26.toInt t_length1_31.toInt p5) := k_33
    obtain ⟨k_33_0, k_33_1, k_33_2⟩ := k_33
    have hPD := vPD (ws' := [(h0, .inr (10, [.ref h_tape, .ref h_now, .ref h_trial, .ref h_kept, .ref h_images, .ref h_way, .ref h_otherWay, .ref h_flood, .ref h_cutSearch, .ref h_drySearch, .ref h_guess, .ref h_fraction, .ref h_told, .ref h_draft, .int h_keptCount, .int h_imageCount, .int h_trouble])), (h_tape, .inr (8, [.ref h_tape_bytes, .int t_length1_31, .int h_tape_end, .int h_tape_token, .int h_tape_start, .int h_tape_stop, .int h_tape_number, .int h_tape_fault, .int h_tape_faultAt])), (h_tape_bytes, .inl (cy 0, 800, .inl t_bytesf1_30))]) hP hD rfl
    have hP := hPD.1
    have hD := hPD.2
    refine lv_aload_n hx hb dX11_feed_54 rfl (lv_at hl 0 rfl) ?_
    refine r_get X kcX11 (ci := 10) rfl hP 0 rfl 0 (by decide) fX11_10 rfl dX11_feed_55 ?_
    refine r_get X kcX9 (ci := 8) rfl hP 1 rfl 1 (by decide) fX11_96 rfl dX11_feed_58 ?_
    exact eI hQ X hr hlocks hP hD hS (t_bytesf1_30, t_length1_31) [0, 1, 2] (by decide) rfl rfl (show (0 ≤ t_length1_31.toInt ∧ t_length1_31.toInt ≤ 800) ∧ ((h_tape_length.toInt + 20 ≤ 800 ∧ t_length1_31.toInt = h_tape_length.toInt + 20 ∧ t_length1_31.toInt = h_tape_length.toInt + 20) ∨ (800 < h_tape_length.toInt + 20 ∧ t_length1_31.toInt = h_tape_length.toInt ∧ t_length1_31.toInt = -1)) ∧ (fdB h_tape_bytesf t_bytesf1_30 h_tape_length.toInt t_length1_31.toInt p1 p2 p3 p4 p5) ∧ (800 < h_tape_length.toInt + 20 → t_bytesf1_30 = h_tape_bytesf) from ⟨k_33_0, (Or.inl ⟨by omega, by omega, by omega⟩), (fdB_of (by omega) k_13_2 k_18_2 k_23_2 k_28_2 k_33_2), (fun h9 => by exfalso; omega)⟩) (Nat.le_of_ble_eq_true rfl) (Nat.le_of_ble_eq_true rfl) dX11_feed_61
  · have h_9 : r_6.toInt = 0 := c_eq h_9
    refine lv_iconst (v := -1) hx hb dX11_feed_10 (by decide) ?_
    exact eI hQ X hr hlocks hP hD hS (h_tape_bytesf, h_tape_length) [0, 2, 1] (by decide) rfl rfl (show (0 ≤ h_tape_length.toInt ∧ h_tape_length.toInt ≤ 800) ∧ ((h_tape_length.toInt + 20 ≤ 800 ∧ h_tape_length.toInt = h_tape_length.toInt + 20 ∧ (-1 : Int32).toInt = h_tape_length.toInt + 20) ∨ (800 < h_tape_length.toInt + 20 ∧ h_tape_length.toInt = h_tape_length.toInt ∧ (-1 : Int32).toInt = -1)) ∧ (fdB h_tape_bytesf h_tape_bytesf h_tape_length.toInt h_tape_length.toInt p1 p2 p3 p4 p5) ∧ (800 < h_tape_length.toInt + 20 → h_tape_bytesf = h_tape_bytesf) from ⟨hh_tape_length, (Or.inr ⟨by omega, by omega, by decide⟩), (fun h9 => by exfalso; omega), (fun _ => rfl)⟩) (Nat.le_of_ble_eq_true rfl) (Nat.le_of_ble_eq_true rfl) dX11_feed_11
set_option maxHeartbeats 4000000 in
set_option maxRecDepth 100000 in
theorem gX11_fault (l : Launch) (dC : Nat → ClassId) (dI : Nat → Nat → Nat) (cy : Nat → ClassId) (h0 : Nat) (h_tape : Nat) (h_now : Nat) (h_trial : Nat) (h_kept : Nat) (h_images : Nat) (h_way : Nat) (h_otherWay : Nat) (h_flood : Nat) (h_cutSearch : Nat) (h_drySearch : Nat) (h_guess : Nat) (h_fraction : Nat) (h_told : Nat) (h_draft : Nat) (h_keptCount : Int32) (h_imageCount : Int32) (h_trouble : Int32) (h_tape_bytes : Nat) (h_tape_length : Int32) (h_tape_end : Int32) (h_tape_token : Int32) (h_tape_start : Int32) (h_tape_stop : Int32) (h_tape_number : Int32) (h_tape_fault : Int32) (h_tape_faultAt : Int32) (hh_keptCount : 0 ≤ h_keptCount.toInt ∧ h_keptCount.toInt ≤ 16) (hh_imageCount : 0 ≤ h_imageCount.toInt ∧ h_imageCount.toInt ≤ 3) (hh_tape_length : 0 ≤ h_tape_length.toInt ∧ h_tape_length.toInt ≤ 800) : ctI l dC dI cy hp yX11_fault cX11_fault 1 .int ({ frames := 0, cells := 0, slots := 0, locals := 0 } : Room) [.ref h0] [(h0, .inr (10, [.ref h_tape, .ref h_now, .ref h_trial, .ref h_kept, .ref h_images, .ref h_way, .ref h_otherWay, .ref h_flood, .ref h_cutSearch, .ref h_drySearch, .ref h_guess, .ref h_fraction, .ref h_told, .ref h_draft, .int h_keptCount, .int h_imageCount, .int h_trouble])), (h_tape, .inr (8, [.ref h_tape_bytes, .int h_tape_length, .int h_tape_end, .int h_tape_token, .int h_tape_start, .int h_tape_stop, .int h_tape_number, .int h_tape_fault, .int h_tape_faultAt]))] (S := Unit) (fun r _ => (r.toInt = h_tape_fault.toInt)) (fun _ => [(h0, .inr (10, [.ref h_tape, .ref h_now, .ref h_trial, .ref h_kept, .ref h_images, .ref h_way, .ref h_otherWay, .ref h_flood, .ref h_cutSearch, .ref h_drySearch, .ref h_guess, .ref h_fraction, .ref h_told, .ref h_draft, .int h_keptCount, .int h_imageCount, .int h_trouble])), (h_tape, .inr (8, [.ref h_tape_bytes, .int h_tape_length, .int h_tape_end, .int h_tape_token, .int h_tape_start, .int h_tape_stop, .int h_tape_number, .int h_tape_fault, .int h_tape_faultAt]))]) := by
  refine ctI.of (by decide +kernel) (Nat.le_of_ble_eq_true rfl) ?_
  intro p e s m args below meth c A ls Q hQ X hr hlocks hin hA hP hD hS hl
  have hx := X.1
  have hb := X.2.1
  have hK := X.2.2.2.2.2.1
  have hl : lv_has ls 1 [(0, .ref h0)] := hl
  refine lv_aload_n hx hb dX11_fault_0 rfl (lv_at hl 0 rfl) ?_
  refine r_get X kcX11 (ci := 10) rfl hP 0 rfl 0 (by decide) fX11_10 rfl dX11_fault_1 ?_
  refine r_get X kcX9 (ci := 8) rfl hP 1 rfl 7 (by decide) fX11_133 rfl dX11_fault_4 ?_
  exact eI hQ X hr hlocks hP hD hS () [0, 1] (by decide) rfl rfl (show (h_tape_fault.toInt = h_tape_fault.toInt) from (by omega)) (Nat.le_of_ble_eq_true rfl) (Nat.le_of_ble_eq_true rfl) dX11_fault_7
set_option maxHeartbeats 4000000 in
set_option maxRecDepth 100000 in
theorem gX13_feed (l : Launch) (dC : Nat → ClassId) (dI : Nat → Nat → Nat) (cy : Nat → ClassId) (h0 : Nat) (m_thrown : Int32) (m_trouble : Int32) (m_where : Int32) (m_park : Value) (m_read : Value) (m_tape : Nat) (m_taped : Int32) (m_size : Int32) (m_spot : Int32) (m_sort : Int32) (m_place : Int32) (m_letters : Int32) (m_number : Int32) (m_fault : Int32) (m_wrongAt : Int32) (m_word : Int64) (m_v : Nat) (m_x : Nat) (m_past : Nat) (m_kept : Nat) (m_acts : Int32) (m_images : Int32) (m_left : Nat) (m_far : Nat) (m_line : Nat) (m_fitsNow : Int32) (m_ditchIn : Nat) (m_treadLeft : Int32) (m_rambledTo : Int32) (m_rambledFalls : Int32) (m_rambledIn : Int32) (m_tapef : Nat → Int32) (p1 : Int32) (p2 : Int32) (p3 : Int32) (p4 : Int32) (p5 : Int32) (hm_taped : 0 ≤ m_taped.toInt ∧ m_taped.toInt ≤ 800) (hm_size : 0 ≤ m_size.toInt ∧ m_size.toInt ≤ 800) (hm_spot : 0 ≤ m_spot.toInt ∧ m_spot.toInt ≤ 800) (hm_place : 0 ≤ m_place.toInt ∧ m_place.toInt ≤ 800) (hm_acts : 0 ≤ m_acts.toInt ∧ m_acts.toInt ≤ 16) (hm_images : 0 ≤ m_images.toInt ∧ m_images.toInt ≤ 3) : ctI l dC dI cy hp yX13_feed cX13_feed 8 .int ({ frames := 0, cells := 0, slots := 0, locals := 0 } : Room) [.ref h0, .int p1, .int p2, .int p3, .int p4, .int p5] [(h0, .inr (12, [.int m_thrown, .int m_trouble, .int m_where, m_park, m_read, .ref m_tape, .int m_taped, .int m_size, .int m_spot, .int m_sort, .int m_place, .int m_letters, .int m_number, .int m_fault, .int m_wrongAt, .long m_word, .ref m_v, .ref m_x, .ref m_past, .ref m_kept, .int m_acts, .int m_images, .ref m_left, .ref m_far, .ref m_line, .int m_fitsNow, .ref m_ditchIn, .int m_treadLeft, .int m_rambledTo, .int m_rambledFalls, .int m_rambledIn])), (m_tape, .inl (cy 0, 800, .inl m_tapef))] (S := Int32 × (Nat → Int32) × Int32) (fun r u => (0 ≤ u.2.2.toInt ∧ u.2.2.toInt ≤ 800) ∧ ((m_taped.toInt + 20 ≤ 800 ∧ u.2.2.toInt = m_taped.toInt + 20 ∧ r.toInt = m_taped.toInt + 20) ∨ (800 < m_taped.toInt + 20 ∧ u.2.2.toInt = m_taped.toInt ∧ r.toInt = -1)) ∧ (fdB m_tapef u.2.1 m_taped.toInt u.2.2.toInt p1 p2 p3 p4 p5) ∧ (800 < m_taped.toInt + 20 → u.2.1 = m_tapef)) (fun u => [(h0, .inr (12, [.int u.1, .int m_trouble, .int m_where, m_park, m_read, .ref m_tape, .int u.2.2, .int m_size, .int m_spot, .int m_sort, .int m_place, .int m_letters, .int m_number, .int m_fault, .int m_wrongAt, .long m_word, .ref m_v, .ref m_x, .ref m_past, .ref m_kept, .int m_acts, .int m_images, .ref m_left, .ref m_far, .ref m_line, .int m_fitsNow, .ref m_ditchIn, .int m_treadLeft, .int m_rambledTo, .int m_rambledFalls, .int m_rambledIn])), (m_tape, .inl (cy 0, 800, .inl u.2.1))]) := by
  refine ctI.of (by decide +kernel) (Nat.le_of_ble_eq_true rfl) ?_
  intro p e s m args below meth c A ls Q hQ X hr hlocks hin hA hP hD hS hl
  have hx := X.1
  have hb := X.2.1
  have hK := X.2.2.2.2.2.1
  have hl : lv_has ls 8 [(0, .ref h0), (1, .int p1), (2, .int p2), (3, .int p3), (4, .int p4), (5, .int p5)] := hl
  have dy_1 := ti_bd p1
  have dy_2 := ti_bd p2
  have dy_3 := ti_bd p3
  have dy_4 := ti_bd p4
  have dy_5 := ti_bd p5
  refine lv_aload_n hx hb dX13_feed_0 rfl (lv_at hl 0 rfl) ?_
  refine lv_iconst (v := 0) hx hb dX13_feed_1 (by decide) ?_
  refine r_put X kcX13 (ci := 12) rfl hP hD hS 0 rfl 0 (by decide) fX13_42 rfl rfl rfl (Nat.le_of_ble_eq_true rfl) dX13_feed_2 (fun H locs hP hD hS => ?_)
  have hPD := vPD (ws' := [(h0, .inr (12, [.int 0, .int m_trouble, .int m_where, m_park, m_read, .ref m_tape, .int m_taped, .int m_size, .int m_spot, .int m_sort, .int m_place, .int m_letters, .int m_number, .int m_fault, .int m_wrongAt, .long m_word, .ref m_v, .ref m_x, .ref m_past, .ref m_kept, .int m_acts, .int m_images, .ref m_left, .ref m_far, .ref m_line, .int m_fitsNow, .ref m_ditchIn, .int m_treadLeft, .int m_rambledTo, .int m_rambledFalls, .int m_rambledIn])), (m_tape, .inl (cy 0, 800, .inl m_tapef))]) hP hD rfl
  have hP := hPD.1
  have hD := hPD.2
  refine lv_aload_n hx hb dX13_feed_5 rfl (lv_at hl 0 rfl) ?_
  refine r_get X kcX13 (ci := 12) rfl hP 0 rfl 6 (by decide) fX13_262 rfl dX13_feed_6 ?_
  refine lv_bipush (v := 20) hx hb dX13_feed_9 (by decide) ?_
  refine lv_iadd hx hb dX13_feed_11 ?_
  refine lv_topi (fun x_6 ex_6 => ?_)
  have tx_6 : x_6.toInt = m_taped.toInt + 20 := ti_add (A := m_taped.toInt) (B := 20) ex_6 rfl rfl (by omega) (by omega)
  refine lv_sipush (v := 800) hx hb dX13_feed_12 (by decide) ?_
  refine lv_icmp_le (tgt := 20) hx hb dX13_feed_15 (by decide) (fun h_7 => ?_) (fun h_7 => ?_)
  · have h_7 : x_6.toInt ≤ 800 := c_le h_7
    refine lv_iconst (v := 0) hx hb dX13_feed_20 (by decide) ?_
    refine lv_istore (lv' := [(6, .int 0), (0, .ref h0), (1, .int p1), (2, .int p2), (3, .int p3), (4, .int p4), (5, .int p5)]) hx hb dX13_feed_21 hl (by decide) rfl (fun ls hl => ?_)
    have lp_8 : ∀ (nlp_8 : Nat) (i_9 : Int32) (f_11 : Nat → Int32) (i_12 : Int32) (H : Heap) (locs : List Loc) (ls : Array Slot), (0 ≤ i_9.toInt ∧ i_9.toInt ≤ 20) → (0 ≤ i_12.toInt ∧ i_12.toInt ≤ 800) → (f_11 = fdN m_tapef m_taped.toInt.toNat p1 p2 p3 p4 p5 (Int.toNat i_9.toInt)) → (i_12.toInt = m_taped.toInt + i_9.toInt) → (21 - i_9.toInt ≤ (nlp_8 : Int)) → va_P (dC, dI) vwCl [(h0, .inr (12, [.int 0, .int m_trouble, .int m_where, m_park, m_read, .ref m_tape, .int i_12, .int m_size, .int m_spot, .int m_sort, .int m_place, .int m_letters, .int m_number, .int m_fault, .int m_wrongAt, .long m_word, .ref m_v, .ref m_x, .ref m_past, .ref m_kept, .int m_acts, .int m_images, .ref m_left, .ref m_far, .ref m_line, .int m_fitsNow, .ref m_ditchIn, .int m_treadLeft, .int m_rambledTo, .int m_rambledFalls, .int m_rambledIn])), (m_tape, .inl (cy 0, 800, .inl f_11))] H → va_D A [(h0, .inr (12, [.int 0, .int m_trouble, .int m_where, m_park, m_read, .ref m_tape, .int i_12, .int m_size, .int m_spot, .int m_sort, .int m_place, .int m_letters, .int m_number, .int m_fault, .int m_wrongAt, .long m_word, .ref m_v, .ref m_x, .ref m_past, .ref m_kept, .int m_acts, .int m_images, .ref m_left, .ref m_far, .ref m_line, .int m_fitsNow, .ref m_ditchIn, .int m_treadLeft, .int m_rambledTo, .int m_rambledFalls, .int m_rambledIn])), (m_tape, .inl (cy 0, 800, .inl f_11))] → va_S A s.heap H locs → lv_has ls 8 [(6, .int i_9), (0, .ref h0), (1, .int p1), (2, .int p2), (3, .int p3), (4, .int p4), (5, .int p5)] → W p l e ({ frames := 0, cells := 0, slots := 0, locals := 0 } : Room) s m args below meth c H locs 0 0 Q (F0 m 23 ls []) := by
      intro nlp_8
      induction nlp_8 with
      | zero =>
        intro i_9 f_11 i_12 H locs ls b_10 b_13 b_14 b_15 hmlp_8 hP hD hS hl
        exfalso
        have di_9 := ti_bd i_9
        have di_12 := ti_bd i_12
        omega
      | succ nlp_8 ihlp_8 =>
        intro i_9 f_11 i_12 H locs ls b_10 b_13 b_14 b_15 hmlp_8 hP hD hS hl
        refine lv_iload hx hb dX13_feed_23 (lv_at hl 0 rfl) ?_
        refine lv_bipush (v := 20) hx hb dX13_feed_25 (by decide) ?_
        refine lv_icmp_ge (tgt := 117) hx hb dX13_feed_27 (by decide) (fun h_16 => ?_) (fun h_16 => ?_)
        · have h_16 : 20 ≤ i_9.toInt := c_le h_16
          refine lv_aload_n hx hb dX13_feed_117 rfl (lv_at hl 1 rfl) ?_
          refine r_get X kcX13 (ci := 12) rfl hP 0 rfl 6 (by decide) fX13_262 rfl dX13_feed_118 ?_
          exact eI hQ X hr hlocks hP hD hS ((0 : Int32), f_11, i_12) [0, 1] (by decide) rfl rfl (show (0 ≤ i_12.toInt ∧ i_12.toInt ≤ 800) ∧ ((m_taped.toInt + 20 ≤ 800 ∧ i_12.toInt = m_taped.toInt + 20 ∧ i_12.toInt = m_taped.toInt + 20) ∨ (800 < m_taped.toInt + 20 ∧ i_12.toInt = m_taped.toInt ∧ i_12.toInt = -1)) ∧ (fdB m_tapef f_11 m_taped.toInt i_12.toInt p1 p2 p3 p4 p5) ∧ (800 < m_taped.toInt + 20 → f_11 = m_tapef) from ⟨b_13, (Or.inl ⟨by omega, by omega, by omega⟩), (fun h9 => ⟨by omega, by have h8 := b_14; rw [show i_9.toInt = 20 by omega] at h8; exact h8⟩), (fun h9 => by exfalso; omega)⟩) (Nat.le_of_ble_eq_true rfl) (Nat.le_of_ble_eq_true rfl) dX13_feed_121
        · have h_16 : i_9.toInt < 20 := c_nle h_16
          refine lv_iload hx hb dX13_feed_30 (lv_at hl 0 rfl) ?_
          refine lv_iconst (v := 4) hx hb dX13_feed_32 (by decide) ?_
          refine lv_icmp_ge (tgt := 40) hx hb dX13_feed_33 (by decide) (fun h_17 => ?_) (fun h_17 => ?_)
          · have h_17 : 4 ≤ i_9.toInt := c_le h_17
            refine lv_iload hx hb dX13_feed_40 (lv_at hl 0 rfl) ?_
            refine lv_bipush (v := 8) hx hb dX13_feed_42 (by decide) ?_
            refine lv_icmp_ge (tgt := 51) hx hb dX13_feed_44 (by decide) (fun h_18 => ?_) (fun h_18 => ?_)
            · have h_18 : 8 ≤ i_9.toInt := c_le h_18
              refine lv_iload hx hb dX13_feed_51 (lv_at hl 0 rfl) ?_
              refine lv_bipush (v := 12) hx hb dX13_feed_53 (by decide) ?_
              refine lv_icmp_ge (tgt := 62) hx hb dX13_feed_55 (by decide) (fun h_19 => ?_) (fun h_19 => ?_)
              · have h_19 : 12 ≤ i_9.toInt := c_le h_19
                refine lv_iload hx hb dX13_feed_62 (lv_at hl 0 rfl) ?_
                refine lv_bipush (v := 16) hx hb dX13_feed_64 (by decide) ?_
                refine lv_icmp_ge (tgt := 74) hx hb dX13_feed_66 (by decide) (fun h_20 => ?_) (fun h_20 => ?_)
                · have h_20 : 16 ≤ i_9.toInt := c_le h_20
                  refine lv_iload hx hb dX13_feed_74 (lv_at hl 6 rfl) ?_
                  refine lv_istore (lv' := [(7, .int p5), (6, .int i_9), (0, .ref h0), (1, .int p1), (2, .int p2), (3, .int p3), (4, .int p4), (5, .int p5)]) hx hb dX13_feed_76 hl (by decide) rfl (fun ls hl => ?_)
                  refine lv_aload_n hx hb dX13_feed_78 rfl (lv_at hl 2 rfl) ?_
                  refine r_get X kcX13 (ci := 12) rfl hP 0 rfl 5 (by decide) fX13_13 rfl dX13_feed_79 ?_
                  refine lv_aload_n hx hb dX13_feed_82 rfl (lv_at hl 2 rfl) ?_
                  refine r_get X kcX13 (ci := 12) rfl hP 0 rfl 6 (by decide) fX13_262 rfl dX13_feed_83 ?_
                  refine lv_iload hx hb dX13_feed_86 (lv_at hl 0 rfl) ?_
                  refine lv_bipush (v := 24) hx hb dX13_feed_88 (by decide) ?_
                  refine lv_bipush (v := 8) hx hb dX13_feed_90 (by decide) ?_
                  refine lv_iload hx hb dX13_feed_92 (lv_at hl 1 rfl) ?_
                  refine lv_iconst (v := 4) hx hb dX13_feed_94 (by decide) ?_
                  refine lv_irem hx hb dX13_feed_95 (by decide) ?_
                  refine lv_topi (fun x_21 ex_21 => ?_)
                  have tx_21 : 0 ≤ x_21.toInt ∧ x_21.toInt < 4 ∧ x_21.toInt ≤ i_9.toInt ∧ x_21.toInt = i_9.toInt % 4 := ti_rem ex_21 (by omega) (by decide)
                  refine lv_imul hx hb dX13_feed_96 ?_
                  refine lv_topi (fun x_22 ex_22 => ?_)
                  have tx_22 : x_22.toInt = 8 * x_21.toInt := ti_mulk (A := 8) (B := x_21.toInt) ex_22 rfl rfl (by omega) (by omega)
                  refine lv_isub hx hb dX13_feed_97 ?_
                  refine lv_topi (fun x_23 ex_23 => ?_)
                  have tx_23 : x_23.toInt = 24 - x_22.toInt := ti_sub (A := 24) (B := x_22.toInt) ex_23 rfl rfl (by omega) (by omega)
                  refine lv_ishr hx hb dX13_feed_98 ?_
                  refine lv_topi (fun x_24 ex_24 => ?_)
                  obtain ⟨x_25, ex_25⟩ : ∃ y : Int32, x_24.toInt8.toInt32 = y := ⟨_, rfl⟩
                  refine lv_i2b hx hb dX13_feed_99 ex_25 ?_
                  refine va_bast (D := (dC, dI)) (cl := vwCl) hx hb hK hP hD hS 1 0 rfl rfl (i := i_12) (vin (by omega) (by omega)) dX13_feed_100 (fun H locs hP hD hS => ?_)
                  generalize ef_26 : upd f_11 (Int32.toNatClampNeg i_12) (vp_nar .byte x_25) = f_26 at hP hD
                  have hPD := vPD (ws' := [(h0, .inr (12, [.int 0, .int m_trouble, .int m_where, m_park, m_read, .ref m_tape, .int i_12, .int m_size, .int m_spot, .int m_sort, .int m_place, .int m_letters, .int m_number, .int m_fault, .int m_wrongAt, .long m_word, .ref m_v, .ref m_x, .ref m_past, .ref m_kept, .int m_acts, .int m_images, .ref m_left, .ref m_far, .ref m_line, .int m_fitsNow, .ref m_ditchIn, .int m_treadLeft, .int m_rambledTo, .int m_rambledFalls, .int m_rambledIn])), (m_tape, .inl (cy 0, 800, .inl f_26))]) hP hD rfl
                  have hP := hPD.1
                  have hD := hPD.2
                  refine lv_aload_n hx hb dX13_feed_101 rfl (lv_at hl 2 rfl) ?_
                  refine lv_dup hx hb dX13_feed_102 rfl ?_
                  refine r_get X kcX13 (ci := 12) rfl hP 0 rfl 6 (by decide) fX13_262 rfl dX13_feed_103 ?_
                  refine lv_iconst (v := 1) hx hb dX13_feed_106 (by decide) ?_
                  refine lv_iadd hx hb dX13_feed_107 ?_
                  refine lv_topi (fun x_27 ex_27 => ?_)
                  have tx_27 : x_27.toInt = i_12.toInt + 1 := ti_add (A := i_12.toInt) (B := 1) ex_27 rfl rfl (by omega) (by omega)
                  refine r_put X kcX13 (ci := 12) rfl hP hD hS 0 rfl 6 (by decide) fX13_262 rfl rfl rfl (Nat.le_of_ble_eq_true rfl) dX13_feed_108 (fun H locs hP hD hS => ?_)
                  have hPD := vPD (ws' := [(h0, .inr (12, [.int 0, .int m_trouble, .int m_where, m_park, m_read, .ref m_tape, .int x_27, .int m_size, .int m_spot, .int m_sort, .int m_place, .int m_letters, .int m_number, .int m_fault, .int m_wrongAt, .long m_word, .ref m_v, .ref m_x, .ref m_past, .ref m_kept, .int m_acts, .int m_images, .ref m_left, .ref m_far, .ref m_line, .int m_fitsNow, .ref m_ditchIn, .int m_treadLeft, .int m_rambledTo, .int m_rambledFalls, .int m_rambledIn])), (m_tape, .inl (cy 0, 800, .inl f_26))]) hP hD rfl
                  have hP := hPD.1
                  have hD := hPD.2
                  obtain ⟨x_28, ex_28⟩ : ∃ y : Int32, y = i_9 + 1 := ⟨_, rfl⟩
                  have tx_28 : x_28.toInt = i_9.toInt + 1 := ti_add (A := i_9.toInt) (B := 1) ex_28 rfl rfl (by omega) (by omega)
                  refine lv_iinc (v := x_28) (lv' := [(6, .int x_28), (7, .int p5), (0, .ref h0), (1, .int p1), (2, .int p2), (3, .int p3), (4, .int p4), (5, .int p5)]) hx hb dX13_feed_111 hl (k := 1) rfl (by rw [ex_28]; rfl) (by decide) rfl (fun ls hl => ?_)
                  refine lv_goto (tgt := 23) hx hb dX13_feed_114 (by decide) ?_
                  exact ihlp_8 x_28 f_26 x_27 _ _ _ (by omega) (by omega) (show f_26 = fdN m_tapef m_taped.toInt.toNat p1 p2 p3 p4 p5 (Int.toNat x_28.toInt) from (fd_up (k := i_9.toInt) (v := p5) (s := x_23) (x := x_24) (m := x_21.toInt) b_14 ef_26 (by omega) (by omega) (by omega) (pk5_4 (by omega)) (by omega) (by omega) ex_24 ex_25 (by omega))) (show x_27.toInt = m_taped.toInt + x_28.toInt by omega) (show 21 - x_28.toInt ≤ (nlp_8 : Int) by omega) hP hD hS (lv_sub hl [0, 2, 3, 4, 5, 6, 7] rfl)
                · have h_20 : i_9.toInt < 16 := c_nle h_20
                  refine lv_iload hx hb dX13_feed_69 (lv_at hl 5 rfl) ?_
                  refine lv_goto (tgt := 76) hx hb dX13_feed_71 (by decide) ?_
                  refine lv_istore (lv' := [(7, .int p4), (6, .int i_9), (0, .ref h0), (1, .int p1), (2, .int p2), (3, .int p3), (4, .int p4), (5, .int p5)]) hx hb dX13_feed_76 hl (by decide) rfl (fun ls hl => ?_)
                  refine lv_aload_n hx hb dX13_feed_78 rfl (lv_at hl 2 rfl) ?_
                  refine r_get X kcX13 (ci := 12) rfl hP 0 rfl 5 (by decide) fX13_13 rfl dX13_feed_79 ?_
                  refine lv_aload_n hx hb dX13_feed_82 rfl (lv_at hl 2 rfl) ?_
                  refine r_get X kcX13 (ci := 12) rfl hP 0 rfl 6 (by decide) fX13_262 rfl dX13_feed_83 ?_
                  refine lv_iload hx hb dX13_feed_86 (lv_at hl 0 rfl) ?_
                  refine lv_bipush (v := 24) hx hb dX13_feed_88 (by decide) ?_
                  refine lv_bipush (v := 8) hx hb dX13_feed_90 (by decide) ?_
                  refine lv_iload hx hb dX13_feed_92 (lv_at hl 1 rfl) ?_
                  refine lv_iconst (v := 4) hx hb dX13_feed_94 (by decide) ?_
                  refine lv_irem hx hb dX13_feed_95 (by decide) ?_
                  refine lv_topi (fun x_29 ex_29 => ?_)
                  have tx_29 : 0 ≤ x_29.toInt ∧ x_29.toInt < 4 ∧ x_29.toInt ≤ i_9.toInt ∧ x_29.toInt = i_9.toInt % 4 := ti_rem ex_29 (by omega) (by decide)
                  refine lv_imul hx hb dX13_feed_96 ?_
                  refine lv_topi (fun x_30 ex_30 => ?_)
                  have tx_30 : x_30.toInt = 8 * x_29.toInt := ti_mulk (A := 8) (B := x_29.toInt) ex_30 rfl rfl (by omega) (by omega)
                  refine lv_isub hx hb dX13_feed_97 ?_
                  refine lv_topi (fun x_31 ex_31 => ?_)
                  have tx_31 : x_31.toInt = 24 - x_30.toInt := ti_sub (A := 24) (B := x_30.toInt) ex_31 rfl rfl (by omega) (by omega)
                  refine lv_ishr hx hb dX13_feed_98 ?_
                  refine lv_topi (fun x_32 ex_32 => ?_)
                  obtain ⟨x_33, ex_33⟩ : ∃ y : Int32, x_32.toInt8.toInt32 = y := ⟨_, rfl⟩
                  refine lv_i2b hx hb dX13_feed_99 ex_33 ?_
                  refine va_bast (D := (dC, dI)) (cl := vwCl) hx hb hK hP hD hS 1 0 rfl rfl (i := i_12) (vin (by omega) (by omega)) dX13_feed_100 (fun H locs hP hD hS => ?_)
                  generalize ef_34 : upd f_11 (Int32.toNatClampNeg i_12) (vp_nar .byte x_33) = f_34 at hP hD
                  have hPD := vPD (ws' := [(h0, .inr (12, [.int 0, .int m_trouble, .int m_where, m_park, m_read, .ref m_tape, .int i_12, .int m_size, .int m_spot, .int m_sort, .int m_place, .int m_letters, .int m_number, .int m_fault, .int m_wrongAt, .long m_word, .ref m_v, .ref m_x, .ref m_past, .ref m_kept, .int m_acts, .int m_images, .ref m_left, .ref m_far, .ref m_line, .int m_fitsNow, .ref m_ditchIn, .int m_treadLeft, .int m_rambledTo, .int m_rambledFalls, .int m_rambledIn])), (m_tape, .inl (cy 0, 800, .inl f_34))]) hP hD rfl
                  have hP := hPD.1
                  have hD := hPD.2
                  refine lv_aload_n hx hb dX13_feed_101 rfl (lv_at hl 2 rfl) ?_
                  refine lv_dup hx hb dX13_feed_102 rfl ?_
                  refine r_get X kcX13 (ci := 12) rfl hP 0 rfl 6 (by decide) fX13_262 rfl dX13_feed_103 ?_
                  refine lv_iconst (v := 1) hx hb dX13_feed_106 (by decide) ?_
                  refine lv_iadd hx hb dX13_feed_107 ?_
                  refine lv_topi (fun x_35 ex_35 => ?_)
                  have tx_35 : x_35.toInt = i_12.toInt + 1 := ti_add (A := i_12.toInt) (B := 1) ex_35 rfl rfl (by omega) (by omega)
                  refine r_put X kcX13 (ci := 12) rfl hP hD hS 0 rfl 6 (by decide) fX13_262 rfl rfl rfl (Nat.le_of_ble_eq_true rfl) dX13_feed_108 (fun H locs hP hD hS => ?_)
                  have hPD := vPD (ws' := [(h0, .inr (12, [.int 0, .int m_trouble, .int m_where, m_park, m_read, .ref m_tape, .int x_35, .int m_size, .int m_spot, .int m_sort, .int m_place, .int m_letters, .int m_number, .int m_fault, .int m_wrongAt, .long m_word, .ref m_v, .ref m_x, .ref m_past, .ref m_kept, .int m_acts, .int m_images, .ref m_left, .ref m_far, .ref m_line, .int m_fitsNow, .ref m_ditchIn, .int m_treadLeft, .int m_rambledTo, .int m_rambledFalls, .int m_rambledIn])), (m_tape, .inl (cy 0, 800, .inl f_34))]) hP hD rfl
                  have hP := hPD.1
                  have hD := hPD.2
                  obtain ⟨x_36, ex_36⟩ : ∃ y : Int32, y = i_9 + 1 := ⟨_, rfl⟩
                  have tx_36 : x_36.toInt = i_9.toInt + 1 := ti_add (A := i_9.toInt) (B := 1) ex_36 rfl rfl (by omega) (by omega)
                  refine lv_iinc (v := x_36) (lv' := [(6, .int x_36), (7, .int p4), (0, .ref h0), (1, .int p1), (2, .int p2), (3, .int p3), (4, .int p4), (5, .int p5)]) hx hb dX13_feed_111 hl (k := 1) rfl (by rw [ex_36]; rfl) (by decide) rfl (fun ls hl => ?_)
                  refine lv_goto (tgt := 23) hx hb dX13_feed_114 (by decide) ?_
                  exact ihlp_8 x_36 f_34 x_35 _ _ _ (by omega) (by omega) (show f_34 = fdN m_tapef m_taped.toInt.toNat p1 p2 p3 p4 p5 (Int.toNat x_36.toInt) from (fd_up (k := i_9.toInt) (v := p4) (s := x_31) (x := x_32) (m := x_29.toInt) b_14 ef_34 (by omega) (by omega) (by omega) (pk5_3 (by omega) (by omega)) (by omega) (by omega) ex_32 ex_33 (by omega))) (show x_35.toInt = m_taped.toInt + x_36.toInt by omega) (show 21 - x_36.toInt ≤ (nlp_8 : Int) by omega) hP hD hS (lv_sub hl [0, 2, 3, 4, 5, 6, 7] rfl)
              · have h_19 : i_9.toInt < 12 := c_nle h_19
                refine lv_iload_n hx hb dX13_feed_58 rfl (lv_at hl 4 rfl) ?_
                refine lv_goto (tgt := 76) hx hb dX13_feed_59 (by decide) ?_
                refine lv_istore (lv' := [(7, .int p3), (6, .int i_9), (0, .ref h0), (1, .int p1), (2, .int p2), (3, .int p3), (4, .int p4), (5, .int p5)]) hx hb dX13_feed_76 hl (by decide) rfl (fun ls hl => ?_)
                refine lv_aload_n hx hb dX13_feed_78 rfl (lv_at hl 2 rfl) ?_
                refine r_get X kcX13 (ci := 12) rfl hP 0 rfl 5 (by decide) fX13_13 rfl dX13_feed_79 ?_
                refine lv_aload_n hx hb dX13_feed_82 rfl (lv_at hl 2 rfl) ?_
                refine r_get X kcX13 (ci := 12) rfl hP 0 rfl 6 (by decide) fX13_262 rfl dX13_feed_83 ?_
                refine lv_iload hx hb dX13_feed_86 (lv_at hl 0 rfl) ?_
                refine lv_bipush (v := 24) hx hb dX13_feed_88 (by decide) ?_
                refine lv_bipush (v := 8) hx hb dX13_feed_90 (by decide) ?_
                refine lv_iload hx hb dX13_feed_92 (lv_at hl 1 rfl) ?_
                refine lv_iconst (v := 4) hx hb dX13_feed_94 (by decide) ?_
                refine lv_irem hx hb dX13_feed_95 (by decide) ?_
                refine lv_topi (fun x_37 ex_37 => ?_)
                have tx_37 : 0 ≤ x_37.toInt ∧ x_37.toInt < 4 ∧ x_37.toInt ≤ i_9.toInt ∧ x_37.toInt = i_9.toInt % 4 := ti_rem ex_37 (by omega) (by decide)
                refine lv_imul hx hb dX13_feed_96 ?_
                refine lv_topi (fun x_38 ex_38 => ?_)
                have tx_38 : x_38.toInt = 8 * x_37.toInt := ti_mulk (A := 8) (B := x_37.toInt) ex_38 rfl rfl (by omega) (by omega)
                refine lv_isub hx hb dX13_feed_97 ?_
                refine lv_topi (fun x_39 ex_39 => ?_)
                have tx_39 : x_39.toInt = 24 - x_38.toInt := ti_sub (A := 24) (B := x_38.toInt) ex_39 rfl rfl (by omega) (by omega)
                refine lv_ishr hx hb dX13_feed_98 ?_
                refine lv_topi (fun x_40 ex_40 => ?_)
                obtain ⟨x_41, ex_41⟩ : ∃ y : Int32, x_40.toInt8.toInt32 = y := ⟨_, rfl⟩
                refine lv_i2b hx hb dX13_feed_99 ex_41 ?_
                refine va_bast (D := (dC, dI)) (cl := vwCl) hx hb hK hP hD hS 1 0 rfl rfl (i := i_12) (vin (by omega) (by omega)) dX13_feed_100 (fun H locs hP hD hS => ?_)
                generalize ef_42 : upd f_11 (Int32.toNatClampNeg i_12) (vp_nar .byte x_41) = f_42 at hP hD
                have hPD := vPD (ws' := [(h0, .inr (12, [.int 0, .int m_trouble, .int m_where, m_park, m_read, .ref m_tape, .int i_12, .int m_size, .int m_spot, .int m_sort, .int m_place, .int m_letters, .int m_number, .int m_fault, .int m_wrongAt, .long m_word, .ref m_v, .ref m_x, .ref m_past, .ref m_kept, .int m_acts, .int m_images, .ref m_left, .ref m_far, .ref m_line, .int m_fitsNow, .ref m_ditchIn, .int m_treadLeft, .int m_rambledTo, .int m_rambledFalls, .int m_rambledIn])), (m_tape, .inl (cy 0, 800, .inl f_42))]) hP hD rfl
                have hP := hPD.1
                have hD := hPD.2
                refine lv_aload_n hx hb dX13_feed_101 rfl (lv_at hl 2 rfl) ?_
                refine lv_dup hx hb dX13_feed_102 rfl ?_
                refine r_get X kcX13 (ci := 12) rfl hP 0 rfl 6 (by decide) fX13_262 rfl dX13_feed_103 ?_
                refine lv_iconst (v := 1) hx hb dX13_feed_106 (by decide) ?_
                refine lv_iadd hx hb dX13_feed_107 ?_
                refine lv_topi (fun x_43 ex_43 => ?_)
                have tx_43 : x_43.toInt = i_12.toInt + 1 := ti_add (A := i_12.toInt) (B := 1) ex_43 rfl rfl (by omega) (by omega)
                refine r_put X kcX13 (ci := 12) rfl hP hD hS 0 rfl 6 (by decide) fX13_262 rfl rfl rfl (Nat.le_of_ble_eq_true rfl) dX13_feed_108 (fun H locs hP hD hS => ?_)
                have hPD := vPD (ws' := [(h0, .inr (12, [.int 0, .int m_trouble, .int m_where, m_park, m_read, .ref m_tape, .int x_43, .int m_size, .int m_spot, .int m_sort, .int m_place, .int m_letters, .int m_number, .int m_fault, .int m_wrongAt, .long m_word, .ref m_v, .ref m_x, .ref m_past, .ref m_kept, .int m_acts, .int m_images, .ref m_left, .ref m_far, .ref m_line, .int m_fitsNow, .ref m_ditchIn, .int m_treadLeft, .int m_rambledTo, .int m_rambledFalls, .int m_rambledIn])), (m_tape, .inl (cy 0, 800, .inl f_42))]) hP hD rfl
                have hP := hPD.1
                have hD := hPD.2
                obtain ⟨x_44, ex_44⟩ : ∃ y : Int32, y = i_9 + 1 := ⟨_, rfl⟩
                have tx_44 : x_44.toInt = i_9.toInt + 1 := ti_add (A := i_9.toInt) (B := 1) ex_44 rfl rfl (by omega) (by omega)
                refine lv_iinc (v := x_44) (lv' := [(6, .int x_44), (7, .int p3), (0, .ref h0), (1, .int p1), (2, .int p2), (3, .int p3), (4, .int p4), (5, .int p5)]) hx hb dX13_feed_111 hl (k := 1) rfl (by rw [ex_44]; rfl) (by decide) rfl (fun ls hl => ?_)
                refine lv_goto (tgt := 23) hx hb dX13_feed_114 (by decide) ?_
                exact ihlp_8 x_44 f_42 x_43 _ _ _ (by omega) (by omega) (show f_42 = fdN m_tapef m_taped.toInt.toNat p1 p2 p3 p4 p5 (Int.toNat x_44.toInt) from (fd_up (k := i_9.toInt) (v := p3) (s := x_39) (x := x_40) (m := x_37.toInt) b_14 ef_42 (by omega) (by omega) (by omega) (pk5_2 (by omega) (by omega)) (by omega) (by omega) ex_40 ex_41 (by omega))) (show x_43.toInt = m_taped.toInt + x_44.toInt by omega) (show 21 - x_44.toInt ≤ (nlp_8 : Int) by omega) hP hD hS (lv_sub hl [0, 2, 3, 4, 5, 6, 7] rfl)
            · have h_18 : i_9.toInt < 8 := c_nle h_18
              refine lv_iload_n hx hb dX13_feed_47 rfl (lv_at hl 3 rfl) ?_
              refine lv_goto (tgt := 76) hx hb dX13_feed_48 (by decide) ?_
              refine lv_istore (lv' := [(7, .int p2), (6, .int i_9), (0, .ref h0), (1, .int p1), (2, .int p2), (3, .int p3), (4, .int p4), (5, .int p5)]) hx hb dX13_feed_76 hl (by decide) rfl (fun ls hl => ?_)
              refine lv_aload_n hx hb dX13_feed_78 rfl (lv_at hl 2 rfl) ?_
              refine r_get X kcX13 (ci := 12) rfl hP 0 rfl 5 (by decide) fX13_13 rfl dX13_feed_79 ?_
              refine lv_aload_n hx hb dX13_feed_82 rfl (lv_at hl 2 rfl) ?_
              refine r_get X kcX13 (ci := 12) rfl hP 0 rfl 6 (by decide) fX13_262 rfl dX13_feed_83 ?_
              refine lv_iload hx hb dX13_feed_86 (lv_at hl 0 rfl) ?_
              refine lv_bipush (v := 24) hx hb dX13_feed_88 (by decide) ?_
              refine lv_bipush (v := 8) hx hb dX13_feed_90 (by decide) ?_
              refine lv_iload hx hb dX13_feed_92 (lv_at hl 1 rfl) ?_
              refine lv_iconst (v := 4) hx hb dX13_feed_94 (by decide) ?_
              refine lv_irem hx hb dX13_feed_95 (by decide) ?_
              refine lv_topi (fun x_45 ex_45 => ?_)
              have tx_45 : 0 ≤ x_45.toInt ∧ x_45.toInt < 4 ∧ x_45.toInt ≤ i_9.toInt ∧ x_45.toInt = i_9.toInt % 4 := ti_rem ex_45 (by omega) (by decide)
              refine lv_imul hx hb dX13_feed_96 ?_
              refine lv_topi (fun x_46 ex_46 => ?_)
              have tx_46 : x_46.toInt = 8 * x_45.toInt := ti_mulk (A := 8) (B := x_45.toInt) ex_46 rfl rfl (by omega) (by omega)
              refine lv_isub hx hb dX13_feed_97 ?_
              refine lv_topi (fun x_47 ex_47 => ?_)
              have tx_47 : x_47.toInt = 24 - x_46.toInt := ti_sub (A := 24) (B := x_46.toInt) ex_47 rfl rfl (by omega) (by omega)
              refine lv_ishr hx hb dX13_feed_98 ?_
              refine lv_topi (fun x_48 ex_48 => ?_)
              obtain ⟨x_49, ex_49⟩ : ∃ y : Int32, x_48.toInt8.toInt32 = y := ⟨_, rfl⟩
              refine lv_i2b hx hb dX13_feed_99 ex_49 ?_
              refine va_bast (D := (dC, dI)) (cl := vwCl) hx hb hK hP hD hS 1 0 rfl rfl (i := i_12) (vin (by omega) (by omega)) dX13_feed_100 (fun H locs hP hD hS => ?_)
              generalize ef_50 : upd f_11 (Int32.toNatClampNeg i_12) (vp_nar .byte x_49) = f_50 at hP hD
              have hPD := vPD (ws' := [(h0, .inr (12, [.int 0, .int m_trouble, .int m_where, m_park, m_read, .ref m_tape, .int i_12, .int m_size, .int m_spot, .int m_sort, .int m_place, .int m_letters, .int m_number, .int m_fault, .int m_wrongAt, .long m_word, .ref m_v, .ref m_x, .ref m_past, .ref m_kept, .int m_acts, .int m_images, .ref m_left, .ref m_far, .ref m_line, .int m_fitsNow, .ref m_ditchIn, .int m_treadLeft, .int m_rambledTo, .int m_rambledFalls, .int m_rambledIn])), (m_tape, .inl (cy 0, 800, .inl f_50))]) hP hD rfl
              have hP := hPD.1
              have hD := hPD.2
              refine lv_aload_n hx hb dX13_feed_101 rfl (lv_at hl 2 rfl) ?_
              refine lv_dup hx hb dX13_feed_102 rfl ?_
              refine r_get X kcX13 (ci := 12) rfl hP 0 rfl 6 (by decide) fX13_262 rfl dX13_feed_103 ?_
              refine lv_iconst (v := 1) hx hb dX13_feed_106 (by decide) ?_
              refine lv_iadd hx hb dX13_feed_107 ?_
              refine lv_topi (fun x_51 ex_51 => ?_)
              have tx_51 : x_51.toInt = i_12.toInt + 1 := ti_add (A := i_12.toInt) (B := 1) ex_51 rfl rfl (by omega) (by omega)
              refine r_put X kcX13 (ci := 12) rfl hP hD hS 0 rfl 6 (by decide) fX13_262 rfl rfl rfl (Nat.le_of_ble_eq_true rfl) dX13_feed_108 (fun H locs hP hD hS => ?_)
              have hPD := vPD (ws' := [(h0, .inr (12, [.int 0, .int m_trouble, .int m_where, m_park, m_read, .ref m_tape, .int x_51, .int m_size, .int m_spot, .int m_sort, .int m_place, .int m_letters, .int m_number, .int m_fault, .int m_wrongAt, .long m_word, .ref m_v, .ref m_x, .ref m_past, .ref m_kept, .int m_acts, .int m_images, .ref m_left, .ref m_far, .ref m_line, .int m_fitsNow, .ref m_ditchIn, .int m_treadLeft, .int m_rambledTo, .int m_rambledFalls, .int m_rambledIn])), (m_tape, .inl (cy 0, 800, .inl f_50))]) hP hD rfl
              have hP := hPD.1
              have hD := hPD.2
              obtain ⟨x_52, ex_52⟩ : ∃ y : Int32, y = i_9 + 1 := ⟨_, rfl⟩
              have tx_52 : x_52.toInt = i_9.toInt + 1 := ti_add (A := i_9.toInt) (B := 1) ex_52 rfl rfl (by omega) (by omega)
              refine lv_iinc (v := x_52) (lv' := [(6, .int x_52), (7, .int p2), (0, .ref h0), (1, .int p1), (2, .int p2), (3, .int p3), (4, .int p4), (5, .int p5)]) hx hb dX13_feed_111 hl (k := 1) rfl (by rw [ex_52]; rfl) (by decide) rfl (fun ls hl => ?_)
              refine lv_goto (tgt := 23) hx hb dX13_feed_114 (by decide) ?_
              exact ihlp_8 x_52 f_50 x_51 _ _ _ (by omega) (by omega) (show f_50 = fdN m_tapef m_taped.toInt.toNat p1 p2 p3 p4 p5 (Int.toNat x_52.toInt) from (fd_up (k := i_9.toInt) (v := p2) (s := x_47) (x := x_48) (m := x_45.toInt) b_14 ef_50 (by omega) (by omega) (by omega) (pk5_1 (by omega) (by omega)) (by omega) (by omega) ex_48 ex_49 (by omega))) (show x_51.toInt = m_taped.toInt + x_52.toInt by omega) (show 21 - x_52.toInt ≤ (nlp_8 : Int) by omega) hP hD hS (lv_sub hl [0, 2, 3, 4, 5, 6, 7] rfl)
          · have h_17 : i_9.toInt < 4 := c_nle h_17
            refine lv_iload_n hx hb dX13_feed_36 rfl (lv_at hl 2 rfl) ?_
            refine lv_goto (tgt := 76) hx hb dX13_feed_37 (by decide) ?_
            refine lv_istore (lv' := [(7, .int p1), (6, .int i_9), (0, .ref h0), (1, .int p1), (2, .int p2), (3, .int p3), (4, .int p4), (5, .int p5)]) hx hb dX13_feed_76 hl (by decide) rfl (fun ls hl => ?_)
            refine lv_aload_n hx hb dX13_feed_78 rfl (lv_at hl 2 rfl) ?_
            refine r_get X kcX13 (ci := 12) rfl hP 0 rfl 5 (by decide) fX13_13 rfl dX13_feed_79 ?_
            refine lv_aload_n hx hb dX13_feed_82 rfl (lv_at hl 2 rfl) ?_
            refine r_get X kcX13 (ci := 12) rfl hP 0 rfl 6 (by decide) fX13_262 rfl dX13_feed_83 ?_
            refine lv_iload hx hb dX13_feed_86 (lv_at hl 0 rfl) ?_
            refine lv_bipush (v := 24) hx hb dX13_feed_88 (by decide) ?_
            refine lv_bipush (v := 8) hx hb dX13_feed_90 (by decide) ?_
            refine lv_iload hx hb dX13_feed_92 (lv_at hl 1 rfl) ?_
            refine lv_iconst (v := 4) hx hb dX13_feed_94 (by decide) ?_
            refine lv_irem hx hb dX13_feed_95 (by decide) ?_
            refine lv_topi (fun x_53 ex_53 => ?_)
            have tx_53 : 0 ≤ x_53.toInt ∧ x_53.toInt < 4 ∧ x_53.toInt ≤ i_9.toInt ∧ x_53.toInt = i_9.toInt % 4 := ti_rem ex_53 (by omega) (by decide)
            refine lv_imul hx hb dX13_feed_96 ?_
            refine lv_topi (fun x_54 ex_54 => ?_)
            have tx_54 : x_54.toInt = 8 * x_53.toInt := ti_mulk (A := 8) (B := x_53.toInt) ex_54 rfl rfl (by omega) (by omega)
            refine lv_isub hx hb dX13_feed_97 ?_
            refine lv_topi (fun x_55 ex_55 => ?_)
            have tx_55 : x_55.toInt = 24 - x_54.toInt := ti_sub (A := 24) (B := x_54.toInt) ex_55 rfl rfl (by omega) (by omega)
            refine lv_ishr hx hb dX13_feed_98 ?_
            refine lv_topi (fun x_56 ex_56 => ?_)
            obtain ⟨x_57, ex_57⟩ : ∃ y : Int32, x_56.toInt8.toInt32 = y := ⟨_, rfl⟩
            refine lv_i2b hx hb dX13_feed_99 ex_57 ?_
            refine va_bast (D := (dC, dI)) (cl := vwCl) hx hb hK hP hD hS 1 0 rfl rfl (i := i_12) (vin (by omega) (by omega)) dX13_feed_100 (fun H locs hP hD hS => ?_)
            generalize ef_58 : upd f_11 (Int32.toNatClampNeg i_12) (vp_nar .byte x_57) = f_58 at hP hD
            have hPD := vPD (ws' := [(h0, .inr (12, [.int 0, .int m_trouble, .int m_where, m_park, m_read, .ref m_tape, .int i_12, .int m_size, .int m_spot, .int m_sort, .int m_place, .int m_letters, .int m_number, .int m_fault, .int m_wrongAt, .long m_word, .ref m_v, .ref m_x, .ref m_past, .ref m_kept, .int m_acts, .int m_images, .ref m_left, .ref m_far, .ref m_line, .int m_fitsNow, .ref m_ditchIn, .int m_treadLeft, .int m_rambledTo, .int m_rambledFalls, .int m_rambledIn])), (m_tape, .inl (cy 0, 800, .inl f_58))]) hP hD rfl
            have hP := hPD.1
            have hD := hPD.2
            refine lv_aload_n hx hb dX13_feed_101 rfl (lv_at hl 2 rfl) ?_
            refine lv_dup hx hb dX13_feed_102 rfl ?_
            refine r_get X kcX13 (ci := 12) rfl hP 0 rfl 6 (by decide) fX13_262 rfl dX13_feed_103 ?_
            refine lv_iconst (v := 1) hx hb dX13_feed_106 (by decide) ?_
            refine lv_iadd hx hb dX13_feed_107 ?_
            refine lv_topi (fun x_59 ex_59 => ?_)
            have tx_59 : x_59.toInt = i_12.toInt + 1 := ti_add (A := i_12.toInt) (B := 1) ex_59 rfl rfl (by omega) (by omega)
            refine r_put X kcX13 (ci := 12) rfl hP hD hS 0 rfl 6 (by decide) fX13_262 rfl rfl rfl (Nat.le_of_ble_eq_true rfl) dX13_feed_108 (fun H locs hP hD hS => ?_)
            have hPD := vPD (ws' := [(h0, .inr (12, [.int 0, .int m_trouble, .int m_where, m_park, m_read, .ref m_tape, .int x_59, .int m_size, .int m_spot, .int m_sort, .int m_place, .int m_letters, .int m_number, .int m_fault, .int m_wrongAt, .long m_word, .ref m_v, .ref m_x, .ref m_past, .ref m_kept, .int m_acts, .int m_images, .ref m_left, .ref m_far, .ref m_line, .int m_fitsNow, .ref m_ditchIn, .int m_treadLeft, .int m_rambledTo, .int m_rambledFalls, .int m_rambledIn])), (m_tape, .inl (cy 0, 800, .inl f_58))]) hP hD rfl
            have hP := hPD.1
            have hD := hPD.2
            obtain ⟨x_60, ex_60⟩ : ∃ y : Int32, y = i_9 + 1 := ⟨_, rfl⟩
            have tx_60 : x_60.toInt = i_9.toInt + 1 := ti_add (A := i_9.toInt) (B := 1) ex_60 rfl rfl (by omega) (by omega)
            refine lv_iinc (v := x_60) (lv' := [(6, .int x_60), (7, .int p1), (0, .ref h0), (1, .int p1), (2, .int p2), (3, .int p3), (4, .int p4), (5, .int p5)]) hx hb dX13_feed_111 hl (k := 1) rfl (by rw [ex_60]; rfl) (by decide) rfl (fun ls hl => ?_)
            refine lv_goto (tgt := 23) hx hb dX13_feed_114 (by decide) ?_
            exact ihlp_8 x_60 f_58 x_59 _ _ _ (by omega) (by omega) (show f_58 = fdN m_tapef m_taped.toInt.toNat p1 p2 p3 p4 p5 (Int.toNat x_60.toInt) from (fd_up (k := i_9.toInt) (v := p1) (s := x_55) (x := x_56) (m := x_53.toInt) b_14 ef_58 (by omega) (by omega) (by omega) (pk5_0 (by omega) (by omega)) (by omega) (by omega) ex_56 ex_57 (by omega))) (show x_59.toInt = m_taped.toInt + x_60.toInt by omega) (show 21 - x_60.toInt ≤ (nlp_8 : Int) by omega) hP hD hS (lv_sub hl [0, 2, 3, 4, 5, 6, 7] rfl)
    exact lp_8 21 0 m_tapef m_taped _ _ _ (by decide) (by omega) (show m_tapef = fdN m_tapef m_taped.toInt.toNat p1 p2 p3 p4 p5 (Int.toNat 0) from rfl) (show m_taped.toInt = m_taped.toInt + 0 by omega) (show 21 - 0 ≤ ((21 : Nat) : Int) by omega) hP hD hS hl
  · have h_7 : 800 < x_6.toInt := c_nle h_7
    refine lv_iconst (v := -1) hx hb dX13_feed_18 (by decide) ?_
    exact eI hQ X hr hlocks hP hD hS ((0 : Int32), m_tapef, m_taped) [0, 1] (by decide) rfl rfl (show (0 ≤ m_taped.toInt ∧ m_taped.toInt ≤ 800) ∧ ((m_taped.toInt + 20 ≤ 800 ∧ m_taped.toInt = m_taped.toInt + 20 ∧ (-1 : Int32).toInt = m_taped.toInt + 20) ∨ (800 < m_taped.toInt + 20 ∧ m_taped.toInt = m_taped.toInt ∧ (-1 : Int32).toInt = -1)) ∧ (fdB m_tapef m_tapef m_taped.toInt m_taped.toInt p1 p2 p3 p4 p5) ∧ (800 < m_taped.toInt + 20 → m_tapef = m_tapef) from ⟨hm_taped, (Or.inr ⟨by omega, by omega, by decide⟩), (fun h9 => by exfalso; omega), (fun _ => rfl)⟩) (Nat.le_of_ble_eq_true rfl) (Nat.le_of_ble_eq_true rfl) dX13_feed_19
set_option maxHeartbeats 4000000 in
set_option maxRecDepth 100000 in
theorem gX13_fault (l : Launch) (dC : Nat → ClassId) (dI : Nat → Nat → Nat) (cy : Nat → ClassId) (h0 : Nat) (m_thrown : Int32) (m_trouble : Int32) (m_where : Int32) (m_park : Value) (m_read : Value) (m_tape : Nat) (m_taped : Int32) (m_size : Int32) (m_spot : Int32) (m_sort : Int32) (m_place : Int32) (m_letters : Int32) (m_number : Int32) (m_fault : Int32) (m_wrongAt : Int32) (m_word : Int64) (m_v : Nat) (m_x : Nat) (m_past : Nat) (m_kept : Nat) (m_acts : Int32) (m_images : Int32) (m_left : Nat) (m_far : Nat) (m_line : Nat) (m_fitsNow : Int32) (m_ditchIn : Nat) (m_treadLeft : Int32) (m_rambledTo : Int32) (m_rambledFalls : Int32) (m_rambledIn : Int32) (hm_taped : 0 ≤ m_taped.toInt ∧ m_taped.toInt ≤ 800) (hm_size : 0 ≤ m_size.toInt ∧ m_size.toInt ≤ 800) (hm_spot : 0 ≤ m_spot.toInt ∧ m_spot.toInt ≤ 800) (hm_place : 0 ≤ m_place.toInt ∧ m_place.toInt ≤ 800) (hm_acts : 0 ≤ m_acts.toInt ∧ m_acts.toInt ≤ 16) (hm_images : 0 ≤ m_images.toInt ∧ m_images.toInt ≤ 3) : ctI l dC dI cy hp yX13_fault cX13_fault 1 .int ({ frames := 0, cells := 0, slots := 0, locals := 0 } : Room) [.ref h0] [(h0, .inr (12, [.int m_thrown, .int m_trouble, .int m_where, m_park, m_read, .ref m_tape, .int m_taped, .int m_size, .int m_spot, .int m_sort, .int m_place, .int m_letters, .int m_number, .int m_fault, .int m_wrongAt, .long m_word, .ref m_v, .ref m_x, .ref m_past, .ref m_kept, .int m_acts, .int m_images, .ref m_left, .ref m_far, .ref m_line, .int m_fitsNow, .ref m_ditchIn, .int m_treadLeft, .int m_rambledTo, .int m_rambledFalls, .int m_rambledIn]))] (S := Int32) (fun r u => (r.toInt = m_fault.toInt)) (fun u => [(h0, .inr (12, [.int u, .int m_trouble, .int m_where, m_park, m_read, .ref m_tape, .int m_taped, .int m_size, .int m_spot, .int m_sort, .int m_place, .int m_letters, .int m_number, .int m_fault, .int m_wrongAt, .long m_word, .ref m_v, .ref m_x, .ref m_past, .ref m_kept, .int m_acts, .int m_images, .ref m_left, .ref m_far, .ref m_line, .int m_fitsNow, .ref m_ditchIn, .int m_treadLeft, .int m_rambledTo, .int m_rambledFalls, .int m_rambledIn]))]) := by
  refine ctI.of (by decide +kernel) (Nat.le_of_ble_eq_true rfl) ?_
  intro p e s m args below meth c A ls Q hQ X hr hlocks hin hA hP hD hS hl
  have hx := X.1
  have hb := X.2.1
  have hK := X.2.2.2.2.2.1
  have hl : lv_has ls 1 [(0, .ref h0)] := hl
  refine lv_aload_n hx hb dX13_fault_0 rfl (lv_at hl 0 rfl) ?_
  refine lv_iconst (v := 0) hx hb dX13_fault_1 (by decide) ?_
  refine r_put X kcX13 (ci := 12) rfl hP hD hS 0 rfl 0 (by decide) fX13_42 rfl rfl rfl (Nat.le_of_ble_eq_true rfl) dX13_fault_2 (fun H locs hP hD hS => ?_)
  have hPD := vPD (ws' := [(h0, .inr (12, [.int 0, .int m_trouble, .int m_where, m_park, m_read, .ref m_tape, .int m_taped, .int m_size, .int m_spot, .int m_sort, .int m_place, .int m_letters, .int m_number, .int m_fault, .int m_wrongAt, .long m_word, .ref m_v, .ref m_x, .ref m_past, .ref m_kept, .int m_acts, .int m_images, .ref m_left, .ref m_far, .ref m_line, .int m_fitsNow, .ref m_ditchIn, .int m_treadLeft, .int m_rambledTo, .int m_rambledFalls, .int m_rambledIn]))]) hP hD rfl
  have hP := hPD.1
  have hD := hPD.2
  refine lv_aload_n hx hb dX13_fault_5 rfl (lv_at hl 0 rfl) ?_
  refine r_get X kcX13 (ci := 12) rfl hP 0 rfl 13 (by decide) fX13_103 rfl dX13_fault_6 ?_
  exact eI hQ X hr hlocks hP hD hS ((0 : Int32)) [0] (by decide) rfl rfl (show (m_fault.toInt = m_fault.toInt) from (by omega)) (Nat.le_of_ble_eq_true rfl) (Nat.le_of_ble_eq_true rfl) dX13_fault_9
