/-- a number's byte -/
def bB (a s : Int32) : Int32 := (a >>> (s &&& 31)).toInt8.toInt32
def sh4 (j : Nat) : Int32 := if j % 4 = 0 then 24 else if j % 4 = 1 then 16 else if j % 4 = 2 then 8 else 0
def pk5 (a b c d e : Int32) (j : Nat) : Int32 := if j < 4 then a else if j < 8 then b else if j < 12 then c else if j < 16 then d else e
/-- the j-th of twenty bytes that are fed -/
def fBy (a b c d e : Int32) (j : Nat) : Int32 := bB (pk5 a b c d e j) (sh4 j)
theorem b8_bd (z : Int32) : -128 ≤ (z.toInt8.toInt32).toInt ∧ (z.toInt8.toInt32).toInt ≤ 127 := by
  rw [Int8.toInt_toInt32]
  have h1 := Int8.le_toInt z.toInt8
  have h2 := Int8.toInt_lt z.toInt8
  exact ⟨by simpa using h1, by have : (z.toInt8).toInt < 128 := by simpa using h2
                               omega⟩
/-- four bytes behind L -/
def apB (f f1 : Nat → Int32) (L L1 : Int) (a : Int32) : Prop := L + 4 ≤ 800 → L1 = L + 4 ∧ (∀ j : Nat, (j : Int) < L → f1 j = f j) ∧ f1 L.toNat = bB a 24 ∧ f1 (L.toNat + 1) = bB a 16 ∧ f1 (L.toNat + 2) = bB a 8 ∧ f1 (L.toNat + 3) = bB a 0
theorem apB_of {f f1 f2 f3 f4 : Nat → Int32} {L1 : Int} {a i0 i1 i2 i3 x0 x1 x2 y0 y1 y2 y3 : Int32} (e0 : upd f (Int32.toNatClampNeg i0) (vp_nar .byte y0) = f1) (e1 : upd f1 (Int32.toNatClampNeg i1) (vp_nar .byte y1) = f2) (e2 : upd f2 (Int32.toNatClampNeg i2) (vp_nar .byte y2) = f3) (e3 : upd f3 (Int32.toNatClampNeg i3) (vp_nar .byte y3) = f4) (h0 : 0 ≤ i0.toInt) (h1 : i1.toInt = i0.toInt + 1) (h2 : i2.toInt = i0.toInt + 2) (h3 : i3.toInt = i0.toInt + 3)
    (a0 : x0 = a >>> (24 &&& 31)) (b0 : x0.toInt8.toInt32 = y0) (a1 : x1 = a >>> (16 &&& 31)) (b1 : x1.toInt8.toInt32 = y1) (a2 : x2 = a >>> (8 &&& 31)) (b2 : x2.toInt8.toInt32 = y2) (b3 : a.toInt8.toInt32 = y3) (hL : L1 = i0.toInt + 4) : apB f f4 i0.toInt L1 a := by
  intro _
  have n0 : i0.toNatClampNeg = i0.toInt.toNat := rfl
  have n1 : i1.toNatClampNeg = i1.toInt.toNat := rfl
  have n2 : i2.toNatClampNeg = i2.toInt.toNat := rfl
  have n3 : i3.toNatClampNeg = i3.toInt.toNat := rfl
  have c0 : vp_nar .byte y0 = bB a 24 := by rw [← b0, pk_vb, a0]; rfl
  have c1 : vp_nar .byte y1 = bB a 16 := by rw [← b1, pk_vb, a1]; rfl
  have c2 : vp_nar .byte y2 = bB a 8 := by rw [← b2, pk_vb, a2]; rfl
  have c3 : vp_nar .byte y3 = bB a 0 := by rw [← b3, pk_vb]; unfold bB; rw [sh0]
  rw [← e3, ← e2, ← e1, ← e0, c0, c1, c2, c3]
  unfold upd
  refine ⟨hL, fun j hj => ?_, ?_, ?_, ?_, ?_⟩
  · rw [if_neg (by omega), if_neg (by omega), if_neg (by omega), if_neg (by omega)]
  · rw [if_neg (by omega), if_neg (by omega), if_neg (by omega), if_pos (by omega)]
  · rw [if_neg (by omega), if_neg (by omega), if_pos (by omega)]
  · rw [if_neg (by omega), if_pos (by omega)]
  · rw [if_pos (by omega)]
/-- twenty bytes behind L -/
def fdB (f f1 : Nat → Int32) (L L1 : Int) (a b c d e : Int32) : Prop := L + 20 ≤ 800 → L1 = L + 20 ∧ (∀ j : Nat, (j : Int) < L → f1 j = f j) ∧ ∀ j : Nat, j < 20 → f1 (L.toNat + j) = fBy a b c d e j
theorem fdB_of {f f1 f2 f3 f4 f5 : Nat → Int32} {L L1 L2 L3 L4 L5 : Int} {a b c d e : Int32} (h0 : 0 ≤ L) (k1 : apB f f1 L L1 a) (k2 : apB f1 f2 L1 L2 b) (k3 : apB f2 f3 L2 L3 c) (k4 : apB f3 f4 L3 L4 d) (k5 : apB f4 f5 L4 L5 e) : fdB f f5 L L5 a b c d e := by
  intro hL
  obtain ⟨l1, s1, a0, a1, a2, a3⟩ := k1 (by omega)
  obtain ⟨l2, s2, b0, b1, b2, b3⟩ := k2 (by omega)
  obtain ⟨l3, s3, c0, c1, c2, c3⟩ := k3 (by omega)
  obtain ⟨l4, s4, d0, d1, d2, d3⟩ := k4 (by omega)
  obtain ⟨l5, s5, g0, g1, g2, g3⟩ := k5 (by omega)
  subst l1 l2 l3 l4
  refine ⟨by omega, fun j hj => ?_, fun j hj => ?_⟩
  · rw [s5 j (by omega), s4 j (by omega), s3 j (by omega), s2 j (by omega), s1 j hj]
  · rw [show (L + 4).toNat = L.toNat + 4 by omega] at b0 b1 b2 b3
    rw [show (L + 4 + 4).toNat = L.toNat + 8 by omega] at c0 c1 c2 c3
    rw [show (L + 4 + 4 + 4).toNat = L.toNat + 12 by omega] at d0 d1 d2 d3
    rw [show (L + 4 + 4 + 4 + 4).toNat = L.toNat + 16 by omega] at g0 g1 g2 g3
    rcases (show j = 0 ∨ j = 1 ∨ j = 2 ∨ j = 3 ∨ j = 4 ∨ j = 5 ∨ j = 6 ∨ j = 7 ∨ j = 8 ∨ j = 9 ∨ j = 10 ∨ j = 11 ∨ j = 12 ∨ j = 13 ∨ j = 14 ∨ j = 15 ∨ j = 16 ∨ j = 17 ∨ j = 18 ∨ j = 19 by omega) with rfl | rfl | rfl | rfl | rfl | rfl | rfl | rfl | rfl | rfl | rfl | rfl | rfl | rfl | rfl | rfl | rfl | rfl | rfl | rfl
    · rw [s5 _ (by omega), s4 _ (by omega), s3 _ (by omega), s2 _ (by omega)]; exact a0
    · rw [s5 _ (by omega), s4 _ (by omega), s3 _ (by omega), s2 _ (by omega)]; exact a1
    · rw [s5 _ (by omega), s4 _ (by omega), s3 _ (by omega), s2 _ (by omega)]; exact a2
    · rw [s5 _ (by omega), s4 _ (by omega), s3 _ (by omega), s2 _ (by omega)]; exact a3
    · rw [s5 _ (by omega), s4 _ (by omega), s3 _ (by omega)]; exact b0
    · rw [s5 _ (by omega), s4 _ (by omega), s3 _ (by omega)]; exact b1
    · rw [s5 _ (by omega), s4 _ (by omega), s3 _ (by omega)]; exact b2
    · rw [s5 _ (by omega), s4 _ (by omega), s3 _ (by omega)]; exact b3
    · rw [s5 _ (by omega), s4 _ (by omega)]; exact c0
    · rw [s5 _ (by omega), s4 _ (by omega)]; exact c1
    · rw [s5 _ (by omega), s4 _ (by omega)]; exact c2
    · rw [s5 _ (by omega), s4 _ (by omega)]; exact c3
    · rw [s5 _ (by omega)]; exact d0
    · rw [s5 _ (by omega)]; exact d1
    · rw [s5 _ (by omega)]; exact d2
    · rw [s5 _ (by omega)]; exact d3
    · exact g0
    · exact g1
    · exact g2
    · exact g3
set_option maxHeartbeats 4000000 in
set_option maxRecDepth 100000 in
theorem g9_append (l : Launch) (dC : Nat → ClassId) (dI : Nat → Nat → Nat) (cy : Nat → ClassId) (h0 : Nat) (t_bytes : Nat) (t_length : Int32) (t_end : Int32) (t_token : Int32) (t_start : Int32) (t_stop : Int32) (t_number : Int32) (t_fault : Int32) (t_faultAt : Int32) (t_bytesf : Nat → Int32) (p1 : Int32) (ht_length : 0 ≤ t_length.toInt ∧ t_length.toInt ≤ 800) : ctV l dC dI cy hp yX9_append cX9_append 2 ({ frames := 0, cells := 0, slots := 0, locals := 0 } : Room) [.ref h0, .int p1] [(h0, .inr (8, [.ref t_bytes, .int t_length, .int t_end, .int t_token, .int t_start, .int t_stop, .int t_number, .int t_fault, .int t_faultAt])), (t_bytes, .inl (cy 0, 800, .inl t_bytesf))] (S := (Nat → Int32) × Int32) (fun u => (0 ≤ u.2.toInt ∧ u.2.toInt ≤ 800) ∧ ((t_length.toInt + 4 ≤ 800 ∧ u.2.toInt = t_length.toInt + 4) ∨ (800 < t_length.toInt + 4 ∧ u.2.toInt = t_length.toInt)) ∧ (apB t_bytesf u.1 t_length.toInt u.2.toInt p1)) (fun u => [(h0, .inr (8, [.ref t_bytes, .int u.2, .int t_end, .int t_token, .int t_start, .int t_stop, .int t_number, .int t_fault, .int t_faultAt])), (t_bytes, .inl (cy 0, 800, .inl u.1))]) := by
  refine ctV.of (by decide +kernel) (Nat.le_of_ble_eq_true rfl) ?_
  intro p e s m args below meth c A ls Q hQ X hr hlocks hin hA hP hD hS hl
  have hx := X.1
  have hb := X.2.1
  have hK := X.2.2.2.2.2.1
  have hl : lv_has ls 2 [(0, .ref h0), (1, .int p1)] := hl
  have dy_1 := ti_bd p1
  refine lv_aload_n hx hb dX9_append_0 rfl (lv_at hl 0 rfl) ?_
  refine r_get X kcX9 (ci := 8) rfl hP 0 rfl 1 (by decide) fX9_15 rfl dX9_append_1 ?_
  refine lv_iconst (v := 4) hx hb dX9_append_4 (by decide) ?_
  refine lv_iadd hx hb dX9_append_5 ?_
  refine lv_topi (fun x_2 ex_2 => ?_)
  have tx_2 : x_2.toInt = t_length.toInt + 4 := ti_add (A := t_length.toInt) (B := 4) ex_2 rfl rfl (by omega) (by omega)
  refine lv_sipush (v := 800) hx hb dX9_append_6 (by decide) ?_
  refine lv_icmp_gt (tgt := 81) hx hb dX9_append_9 (by decide) (fun h_3 => ?_) (fun h_3 => ?_)
  · have h_3 : 800 < x_2.toInt := c_lt h_3
    exact eV hQ X hr hlocks hP hD hS (t_bytesf, t_length) [0, 1] (by decide) rfl (show (0 ≤ t_length.toInt ∧ t_length.toInt ≤ 800) ∧ ((t_length.toInt + 4 ≤ 800 ∧ t_length.toInt = t_length.toInt + 4) ∨ (800 < t_length.toInt + 4 ∧ t_length.toInt = t_length.toInt)) ∧ (apB t_bytesf t_bytesf t_length.toInt t_length.toInt p1) from ⟨(by omega), (by omega), (fun h9 => by exfalso; omega)⟩) (Nat.le_of_ble_eq_true rfl) (Nat.le_of_ble_eq_true rfl) dX9_append_81
  · have h_3 : x_2.toInt ≤ 800 := c_nlt h_3
    refine lv_aload_n hx hb dX9_append_12 rfl (lv_at hl 0 rfl) ?_
    refine r_get X kcX9 (ci := 8) rfl hP 0 rfl 0 (by decide) fX9_11 rfl dX9_append_13 ?_
    refine lv_aload_n hx hb dX9_append_16 rfl (lv_at hl 0 rfl) ?_
    refine r_get X kcX9 (ci := 8) rfl hP 0 rfl 1 (by decide) fX9_15 rfl dX9_append_17 ?_
    refine lv_iload_n hx hb dX9_append_20 rfl (lv_at hl 1 rfl) ?_
    refine lv_bipush (v := 24) hx hb dX9_append_21 (by decide) ?_
    refine lv_ishr hx hb dX9_append_23 ?_
    refine lv_topi (fun x_4 ex_4 => ?_)
    obtain ⟨x_5, ex_5⟩ : ∃ y : Int32, x_4.toInt8.toInt32 = y := ⟨_, rfl⟩
    refine lv_i2b hx hb dX9_append_24 ex_5 ?_
    refine va_bast (D := (dC, dI)) (cl := vwCl) hx hb hK hP hD hS 1 0 rfl rfl (i := t_length) (vin (by omega) (by omega)) dX9_append_25 (fun H locs hP hD hS => ?_)
    generalize ef_6 : upd t_bytesf (Int32.toNatClampNeg t_length) (vp_nar .byte x_5) = f_6 at hP hD
    have hP : va_P (dC, dI) vwCl [(h0, .inr (8, [.ref t_bytes, .int t_length, .int t_end, .int t_token, .int t_start, .int t_stop, .int t_number, .int t_fault, .int t_faultAt])), (t_bytes, .inl (cy 0, 800, .inl f_6))] H := hP
    have hD : va_D A [(h0, .inr (8, [.ref t_bytes, .int t_length, .int t_end, .int t_token, .int t_start, .int t_stop, .int t_number, .int t_fault, .int t_faultAt])), (t_bytes, .inl (cy 0, 800, .inl f_6))] := hD
    refine lv_aload_n hx hb dX9_append_26 rfl (lv_at hl 0 rfl) ?_
    refine r_get X kcX9 (ci := 8) rfl hP 0 rfl 0 (by decide) fX9_11 rfl dX9_append_27 ?_
    refine lv_aload_n hx hb dX9_append_30 rfl (lv_at hl 0 rfl) ?_
    refine r_get X kcX9 (ci := 8) rfl hP 0 rfl 1 (by decide) fX9_15 rfl dX9_append_31 ?_
    refine lv_iconst (v := 1) hx hb dX9_append_34 (by decide) ?_
    refine lv_iadd hx hb dX9_append_35 ?_
    refine lv_topi (fun x_7 ex_7 => ?_)
    have tx_7 : x_7.toInt = t_length.toInt + 1 := ti_add (A := t_length.toInt) (B := 1) ex_7 rfl rfl (by omega) (by omega)
    refine lv_iload_n hx hb dX9_append_36 rfl (lv_at hl 1 rfl) ?_
    refine lv_bipush (v := 16) hx hb dX9_append_37 (by decide) ?_
    refine lv_ishr hx hb dX9_append_39 ?_
    refine lv_topi (fun x_8 ex_8 => ?_)
    obtain ⟨x_9, ex_9⟩ : ∃ y : Int32, x_8.toInt8.toInt32 = y := ⟨_, rfl⟩
    refine lv_i2b hx hb dX9_append_40 ex_9 ?_
    refine va_bast (D := (dC, dI)) (cl := vwCl) hx hb hK hP hD hS 1 0 rfl rfl (i := x_7) (vin (by omega) (by omega)) dX9_append_41 (fun H locs hP hD hS => ?_)
    generalize ef_10 : upd f_6 (Int32.toNatClampNeg x_7) (vp_nar .byte x_9) = f_10 at hP hD
    have hP : va_P (dC, dI) vwCl [(h0, .inr (8, [.ref t_bytes, .int t_length, .int t_end, .int t_token, .int t_start, .int t_stop, .int t_number, .int t_fault, .int t_faultAt])), (t_bytes, .inl (cy 0, 800, .inl f_10))] H := hP
    have hD : va_D A [(h0, .inr (8, [.ref t_bytes, .int t_length, .int t_end, .int t_token, .int t_start, .int t_stop, .int t_number, .int t_fault, .int t_faultAt])), (t_bytes, .inl (cy 0, 800, .inl f_10))] := hD
    refine lv_aload_n hx hb dX9_append_42 rfl (lv_at hl 0 rfl) ?_
    refine r_get X kcX9 (ci := 8) rfl hP 0 rfl 0 (by decide) fX9_11 rfl dX9_append_43 ?_
    refine lv_aload_n hx hb dX9_append_46 rfl (lv_at hl 0 rfl) ?_
    refine r_get X kcX9 (ci := 8) rfl hP 0 rfl 1 (by decide) fX9_15 rfl dX9_append_47 ?_
    refine lv_iconst (v := 2) hx hb dX9_append_50 (by decide) ?_
    refine lv_iadd hx hb dX9_append_51 ?_
    refine lv_topi (fun x_11 ex_11 => ?_)
    have tx_11 : x_11.toInt = t_length.toInt + 2 := ti_add (A := t_length.toInt) (B := 2) ex_11 rfl rfl (by omega) (by omega)
    refine lv_iload_n hx hb dX9_append_52 rfl (lv_at hl 1 rfl) ?_
    refine lv_bipush (v := 8) hx hb dX9_append_53 (by decide) ?_
    refine lv_ishr hx hb dX9_append_55 ?_
    refine lv_topi (fun x_12 ex_12 => ?_)
    obtain ⟨x_13, ex_13⟩ : ∃ y : Int32, x_12.toInt8.toInt32 = y := ⟨_, rfl⟩
    refine lv_i2b hx hb dX9_append_56 ex_13 ?_
    refine va_bast (D := (dC, dI)) (cl := vwCl) hx hb hK hP hD hS 1 0 rfl rfl (i := x_11) (vin (by omega) (by omega)) dX9_append_57 (fun H locs hP hD hS => ?_)
    generalize ef_14 : upd f_10 (Int32.toNatClampNeg x_11) (vp_nar .byte x_13) = f_14 at hP hD
    have hP : va_P (dC, dI) vwCl [(h0, .inr (8, [.ref t_bytes, .int t_length, .int t_end, .int t_token, .int t_start, .int t_stop, .int t_number, .int t_fault, .int t_faultAt])), (t_bytes, .inl (cy 0, 800, .inl f_14))] H := hP
    have hD : va_D A [(h0, .inr (8, [.ref t_bytes, .int t_length, .int t_end, .int t_token, .int t_start, .int t_stop, .int t_number, .int t_fault, .int t_faultAt])), (t_bytes, .inl (cy 0, 800, .inl f_14))] := hD
    refine lv_aload_n hx hb dX9_append_58 rfl (lv_at hl 0 rfl) ?_
    refine r_get X kcX9 (ci := 8) rfl hP 0 rfl 0 (by decide) fX9_11 rfl dX9_append_59 ?_
    refine lv_aload_n hx hb dX9_append_62 rfl (lv_at hl 0 rfl) ?_
    refine r_get X kcX9 (ci := 8) rfl hP 0 rfl 1 (by decide) fX9_15 rfl dX9_append_63 ?_
    refine lv_iconst (v := 3) hx hb dX9_append_66 (by decide) ?_
    refine lv_iadd hx hb dX9_append_67 ?_
    refine lv_topi (fun x_15 ex_15 => ?_)
    have tx_15 : x_15.toInt = t_length.toInt + 3 := ti_add (A := t_length.toInt) (B := 3) ex_15 rfl rfl (by omega) (by omega)
    refine lv_iload_n hx hb dX9_append_68 rfl (lv_at hl 1 rfl) ?_
    obtain ⟨x_16, ex_16⟩ : ∃ y : Int32, p1.toInt8.toInt32 = y := ⟨_, rfl⟩
    refine lv_i2b hx hb dX9_append_69 ex_16 ?_
    refine va_bast (D := (dC, dI)) (cl := vwCl) hx hb hK hP hD hS 1 0 rfl rfl (i := x_15) (vin (by omega) (by omega)) dX9_append_70 (fun H locs hP hD hS => ?_)
    generalize ef_17 : upd f_14 (Int32.toNatClampNeg x_15) (vp_nar .byte x_16) = f_17 at hP hD
    have hP : va_P (dC, dI) vwCl [(h0, .inr (8, [.ref t_bytes, .int t_length, .int t_end, .int t_token, .int t_start, .int t_stop, .int t_number, .int t_fault, .int t_faultAt])), (t_bytes, .inl (cy 0, 800, .inl f_17))] H := hP
    have hD : va_D A [(h0, .inr (8, [.ref t_bytes, .int t_length, .int t_end, .int t_token, .int t_start, .int t_stop, .int t_number, .int t_fault, .int t_faultAt])), (t_bytes, .inl (cy 0, 800, .inl f_17))] := hD
    refine lv_aload_n hx hb dX9_append_71 rfl (lv_at hl 0 rfl) ?_
    refine lv_dup hx hb dX9_append_72 rfl ?_
    refine r_get X kcX9 (ci := 8) rfl hP 0 rfl 1 (by decide) fX9_15 rfl dX9_append_73 ?_
    refine lv_iconst (v := 4) hx hb dX9_append_76 (by decide) ?_
    refine lv_iadd hx hb dX9_append_77 ?_
    refine lv_topi (fun x_18 ex_18 => ?_)
    have tx_18 : x_18.toInt = t_length.toInt + 4 := ti_add (A := t_length.toInt) (B := 4) ex_18 rfl rfl (by omega) (by omega)
    refine r_put X kcX9 (ci := 8) rfl hP hD hS 0 rfl 1 (by decide) fX9_15 rfl rfl rfl (Nat.le_of_ble_eq_true rfl) dX9_append_78 (fun H locs hP hD hS => ?_)
    have hP : va_P (dC, dI) vwCl [(h0, .inr (8, [.ref t_bytes, .int x_18, .int t_end, .int t_token, .int t_start, .int t_stop, .int t_number, .int t_fault, .int t_faultAt])), (t_bytes, .inl (cy 0, 800, .inl f_17))] H := hP
    have hD : va_D A [(h0, .inr (8, [.ref t_bytes, .int x_18, .int t_end, .int t_token, .int t_start, .int t_stop, .int t_number, .int t_fault, .int t_faultAt])), (t_bytes, .inl (cy 0, 800, .inl f_17))] := hD
    exact eV hQ X hr hlocks hP hD hS (f_17, x_18) [0, 1] (by decide) rfl (show (0 ≤ x_18.toInt ∧ x_18.toInt ≤ 800) ∧ ((t_length.toInt + 4 ≤ 800 ∧ x_18.toInt = t_length.toInt + 4) ∨ (800 < t_length.toInt + 4 ∧ x_18.toInt = t_length.toInt)) ∧ (apB t_bytesf f_17 t_length.toInt x_18.toInt p1) from ⟨(by omega), (by omega), (apB_of ef_6 ef_10 ef_14 ef_17 (by omega) (by omega) (by omega) (by omega) ex_4 ex_5 ex_8 ex_9 ex_12 ex_13 ex_16 (by omega))⟩) (Nat.le_of_ble_eq_true rfl) (Nat.le_of_ble_eq_true rfl) dX9_append_81
