set_option maxHeartbeats 4000000 in
set_option maxRecDepth 100000 in
theorem g9_lineWord (l : Launch) (dC : Nat → ClassId) (dI : Nat → Nat → Nat) (cy : Nat → ClassId) (h0 : Nat) (t_bytes : Nat) (t_length : Int32) (t_end : Int32) (t_token : Int32) (t_start : Int32) (t_stop : Int32) (t_number : Int32) (t_fault : Int32) (t_faultAt : Int32) (t_bytesf : Nat → Int32) (ht_length : 0 ≤ t_length.toInt ∧ t_length.toInt ≤ 800) (ht_end : 0 ≤ t_end.toInt ∧ t_end.toInt ≤ 800) (ht_start : 0 ≤ t_start.toInt ∧ t_start.toInt ≤ 800) (ht_stop : 0 ≤ t_stop.toInt ∧ t_stop.toInt ≤ 800) (hrel : t_start.toInt ≤ t_stop.toInt ∧ t_stop.toInt ≤ t_end.toInt) : ctI l dC dI cy hp yX9_lineWord cX9_lineWord 1 .int ({ frames := 5, cells := 0, slots := 0, locals := 107 } : Room) [.ref h0] [(h0, .inr (8, [.ref t_bytes, .int t_length, .int t_end, .int t_token, .int t_start, .int t_stop, .int t_number, .int t_fault, .int t_faultAt])), (t_bytes, .inl (cy 0, 800, .inl t_bytesf))] (S := Unit) (fun r _ => ((-1) ≤ r.toInt ∧ r.toInt ≤ 3) ∧ (fwP t_bytesf t_token.toInt t_start.toInt t_stop.toInt (lw t_bytesf) t_end.toInt r.toInt)) (fun _ => [(h0, .inr (8, [.ref t_bytes, .int t_length, .int t_end, .int t_token, .int t_start, .int t_stop, .int t_number, .int t_fault, .int t_faultAt])), (t_bytes, .inl (cy 0, 800, .inl t_bytesf))]) := by
  refine ctI.of (by decide +kernel) (Nat.le_of_ble_eq_true rfl) ?_
  intro p e s m args below meth c A ls Q hQ X hr hlocks hin hA hP hD hS hl
  have hx := X.1
  have hb := X.2.1
  have hK := X.2.2.2.2.2.1
  have hl : lv_has ls 1 [(0, .ref h0)] := hl
  refine lv_aload_n hx hb dX9_lineWord_0 rfl (lv_at hl 0 rfl) ?_
  obtain ⟨q_1, v_2, hq_1, hv_2⟩ := X.2.2.2.2.2.2.2.2.2.2 ("HahaLawn$Tape", 203, "park") (List.mem_of_getElem? (i := 0) rfl)
  refine va_ldcS hx hb X.2.2.2.1 hq_1 dX9_lineWord_1 ?_
  refine fI (wr := []) (rVe_I (wc := [(h0, .inr (8, [.ref t_bytes, .int t_length, .int t_end, .int t_token, .int t_start, .int t_stop, .int t_number, .int t_fault, .int t_faultAt])), (t_bytes, .inl (cy 0, 800, .inl t_bytesf))]) (As := [.ref q_1]) (rest := []) X (andX_st hp_st (sO_st q_1 v_2 4 (txB "park"))) ⟨X.2.2.2.2.2.2.2, hv_2⟩ (g9_isWord l dC dI cy h0 t_bytes t_length t_end t_token t_start t_stop t_number t_fault t_faultAt t_bytesf q_1 v_2 4 (txB "park") ht_length ht_end ht_start ht_stop hrel (by first | omega | decide)) kX9_isWord vX9_isWord mX9_183 hP hD hS hA [0, 1] (by decide) rfl 0 (ci := 8) rfl rfl rfl hl rfl rfl (Nat.le_of_ble_eq_true rfl) dX9_lineWord_3 ⟨(Nat.le_of_ble_eq_true rfl), (Nat.le_of_ble_eq_true rfl)⟩ ⟨(Nat.le_of_ble_eq_true rfl), (Nat.le_of_ble_eq_true rfl)⟩) hP hD hS hA [0, 1] [] rfl rfl (by decide) (by decide) (fun r_3 u_5 H locs k_4 hP hD hS => ?_)
  have k_4 : (0 ≤ r_3.toInt ∧ r_3.toInt ≤ 1) ∧ (wdP t_bytesf t_token.toInt t_start.toInt t_stop.toInt 4 (txB "park") r_3.toInt) := k_4
  obtain ⟨k_4_0, k_4_1⟩ := k_4
  have hP : va_P (dC, dI) vwCl [(h0, .inr (8, [.ref t_bytes, .int t_length, .int t_end, .int t_token, .int t_start, .int t_stop, .int t_number, .int t_fault, .int t_faultAt])), (t_bytes, .inl (cy 0, 800, .inl t_bytesf))] H := hP
  have hD : va_D A [(h0, .inr (8, [.ref t_bytes, .int t_length, .int t_end, .int t_token, .int t_start, .int t_stop, .int t_number, .int t_fault, .int t_faultAt])), (t_bytes, .inl (cy 0, 800, .inl t_bytesf))] := hD
  refine lv_if_eq (tgt := 11) hx hb dX9_lineWord_6 (by decide) (fun h_6 => ?_) (fun h_6 => ?_)
  · have h_6 : r_3.toInt = 0 := c_eq h_6
    refine lv_aload_n hx hb dX9_lineWord_11 rfl (lv_at hl 0 rfl) ?_
    obtain ⟨q_7, v_8, hq_7, hv_8⟩ := X.2.2.2.2.2.2.2.2.2.2 ("HahaLawn$Tape", 205, "row") (List.mem_of_getElem? (i := 1) rfl)
    refine va_ldcS hx hb X.2.2.2.1 hq_7 dX9_lineWord_12 ?_
    refine fI (wr := []) (rVe_I (wc := [(h0, .inr (8, [.ref t_bytes, .int t_length, .int t_end, .int t_token, .int t_start, .int t_stop, .int t_number, .int t_fault, .int t_faultAt])), (t_bytes, .inl (cy 0, 800, .inl t_bytesf))]) (As := [.ref q_7]) (rest := []) X (andX_st hp_st (sO_st q_7 v_8 3 (txB "row"))) ⟨X.2.2.2.2.2.2.2, hv_8⟩ (g9_isWord l dC dI cy h0 t_bytes t_length t_end t_token t_start t_stop t_number t_fault t_faultAt t_bytesf q_7 v_8 3 (txB "row") ht_length ht_end ht_start ht_stop hrel (by first | omega | decide)) kX9_isWord vX9_isWord mX9_183 hP hD hS hA [0, 1] (by decide) rfl 0 (ci := 8) rfl rfl rfl hl rfl rfl (Nat.le_of_ble_eq_true rfl) dX9_lineWord_14 ⟨(Nat.le_of_ble_eq_true rfl), (Nat.le_of_ble_eq_true rfl)⟩ ⟨(Nat.le_of_ble_eq_true rfl), (Nat.le_of_ble_eq_true rfl)⟩) hP hD hS hA [0, 1] [] rfl rfl (by decide) (by decide) (fun r_9 u_11 H locs k_10 hP hD hS => ?_)
    have k_10 : (0 ≤ r_9.toInt ∧ r_9.toInt ≤ 1) ∧ (wdP t_bytesf t_token.toInt t_start.toInt t_stop.toInt 3 (txB "row") r_9.toInt) := k_10
    obtain ⟨k_10_0, k_10_1⟩ := k_10
    have hP : va_P (dC, dI) vwCl [(h0, .inr (8, [.ref t_bytes, .int t_length, .int t_end, .int t_token, .int t_start, .int t_stop, .int t_number, .int t_fault, .int t_faultAt])), (t_bytes, .inl (cy 0, 800, .inl t_bytesf))] H := hP
    have hD : va_D A [(h0, .inr (8, [.ref t_bytes, .int t_length, .int t_end, .int t_token, .int t_start, .int t_stop, .int t_number, .int t_fault, .int t_faultAt])), (t_bytes, .inl (cy 0, 800, .inl t_bytesf))] := hD
    refine lv_if_eq (tgt := 22) hx hb dX9_lineWord_17 (by decide) (fun h_12 => ?_) (fun h_12 => ?_)
    · have h_12 : r_9.toInt = 0 := c_eq h_12
      refine lv_aload_n hx hb dX9_lineWord_22 rfl (lv_at hl 0 rfl) ?_
      obtain ⟨q_13, v_14, hq_13, hv_14⟩ := X.2.2.2.2.2.2.2.2.2.2 ("HahaLawn$Tape", 207, "walker") (List.mem_of_getElem? (i := 2) rfl)
      refine va_ldcS hx hb X.2.2.2.1 hq_13 dX9_lineWord_23 ?_
      refine fI (wr := []) (rVe_I (wc := [(h0, .inr (8, [.ref t_bytes, .int t_length, .int t_end, .int t_token, .int t_start, .int t_stop, .int t_number, .int t_fault, .int t_faultAt])), (t_bytes, .inl (cy 0, 800, .inl t_bytesf))]) (As := [.ref q_13]) (rest := []) X (andX_st hp_st (sO_st q_13 v_14 6 (txB "walker"))) ⟨X.2.2.2.2.2.2.2, hv_14⟩ (g9_isWord l dC dI cy h0 t_bytes t_length t_end t_token t_start t_stop t_number t_fault t_faultAt t_bytesf q_13 v_14 6 (txB "walker") ht_length ht_end ht_start ht_stop hrel (by first | omega | decide)) kX9_isWord vX9_isWord mX9_183 hP hD hS hA [0, 1] (by decide) rfl 0 (ci := 8) rfl rfl rfl hl rfl rfl (Nat.le_of_ble_eq_true rfl) dX9_lineWord_25 ⟨(Nat.le_of_ble_eq_true rfl), (Nat.le_of_ble_eq_true rfl)⟩ ⟨(Nat.le_of_ble_eq_true rfl), (Nat.le_of_ble_eq_true rfl)⟩) hP hD hS hA [0, 1] [] rfl rfl (by decide) (by decide) (fun r_15 u_17 H locs k_16 hP hD hS => ?_)
      have k_16 : (0 ≤ r_15.toInt ∧ r_15.toInt ≤ 1) ∧ (wdP t_bytesf t_token.toInt t_start.toInt t_stop.toInt 6 (txB "walker") r_15.toInt) := k_16
      obtain ⟨k_16_0, k_16_1⟩ := k_16
      have hP : va_P (dC, dI) vwCl [(h0, .inr (8, [.ref t_bytes, .int t_length, .int t_end, .int t_token, .int t_start, .int t_stop, .int t_number, .int t_fault, .int t_faultAt])), (t_bytes, .inl (cy 0, 800, .inl t_bytesf))] H := hP
      have hD : va_D A [(h0, .inr (8, [.ref t_bytes, .int t_length, .int t_end, .int t_token, .int t_start, .int t_stop, .int t_number, .int t_fault, .int t_faultAt])), (t_bytes, .inl (cy 0, 800, .inl t_bytesf))] := hD
      refine lv_if_eq (tgt := 33) hx hb dX9_lineWord_28 (by decide) (fun h_18 => ?_) (fun h_18 => ?_)
      · have h_18 : r_15.toInt = 0 := c_eq h_18
        refine lv_aload_n hx hb dX9_lineWord_33 rfl (lv_at hl 0 rfl) ?_
        obtain ⟨q_19, v_20, hq_19, hv_20⟩ := X.2.2.2.2.2.2.2.2.2.2 ("HahaLawn$Tape", 209, "walk") (List.mem_of_getElem? (i := 3) rfl)
        refine va_ldcS hx hb X.2.2.2.1 hq_19 dX9_lineWord_34 ?_
        refine fI (wr := []) (rVe_I (wc := [(h0, .inr (8, [.ref t_bytes, .int t_length, .int t_end, .int t_token, .int t_start, .int t_stop, .int t_number, .int t_fault, .int t_faultAt])), (t_bytes, .inl (cy 0, 800, .inl t_bytesf))]) (As := [.ref q_19]) (rest := []) X (andX_st hp_st (sO_st q_19 v_20 4 (txB "walk"))) ⟨X.2.2.2.2.2.2.2, hv_20⟩ (g9_isWord l dC dI cy h0 t_bytes t_length t_end t_token t_start t_stop t_number t_fault t_faultAt t_bytesf q_19 v_20 4 (txB "walk") ht_length ht_end ht_start ht_stop hrel (by first | omega | decide)) kX9_isWord vX9_isWord mX9_183 hP hD hS hA [0, 1] (by decide) rfl 0 (ci := 8) rfl rfl rfl hl rfl rfl (Nat.le_of_ble_eq_true rfl) dX9_lineWord_36 ⟨(Nat.le_of_ble_eq_true rfl), (Nat.le_of_ble_eq_true rfl)⟩ ⟨(Nat.le_of_ble_eq_true rfl), (Nat.le_of_ble_eq_true rfl)⟩) hP hD hS hA [0, 1] [] rfl rfl (by decide) (by decide) (fun r_21 u_23 H locs k_22 hP hD hS => ?_)
        have k_22 : (0 ≤ r_21.toInt ∧ r_21.toInt ≤ 1) ∧ (wdP t_bytesf t_token.toInt t_start.toInt t_stop.toInt 4 (txB "walk") r_21.toInt) := k_22
        obtain ⟨k_22_0, k_22_1⟩ := k_22
        have hP : va_P (dC, dI) vwCl [(h0, .inr (8, [.ref t_bytes, .int t_length, .int t_end, .int t_token, .int t_start, .int t_stop, .int t_number, .int t_fault, .int t_faultAt])), (t_bytes, .inl (cy 0, 800, .inl t_bytesf))] H := hP
        have hD : va_D A [(h0, .inr (8, [.ref t_bytes, .int t_length, .int t_end, .int t_token, .int t_start, .int t_stop, .int t_number, .int t_fault, .int t_faultAt])), (t_bytes, .inl (cy 0, 800, .inl t_bytesf))] := hD
        refine lv_if_eq (tgt := 46) hx hb dX9_lineWord_39 (by decide) (fun h_24 => ?_) (fun h_24 => ?_)
        · have h_24 : r_21.toInt = 0 := c_eq h_24
          refine lv_iconst (v := -1) hx hb dX9_lineWord_46 (by decide) ?_
          exact eI hQ X hr hlocks hP hD hS () [0, 1] (by decide) rfl rfl (show ((-1) ≤ (-1 : Int32).toInt ∧ (-1 : Int32).toInt ≤ 3) ∧ (fwP t_bytesf t_token.toInt t_start.toInt t_stop.toInt (lw t_bytesf) t_end.toInt (-1 : Int32).toInt) from ⟨(by first | omega | decide | (refine ⟨by decide, ?_⟩; omega) | (have h9_0 : (-1 : Int32).toInt = (-1) := (by decide); omega)), (fun j hk => by show _ = lw t_bytesf t_end.toInt j; unfold lw; rw [wch_n (fun h7 => k_4_1.no asc_park (by omega) (hk.wd.mpr h7)) (fun h7 => k_10_1.no asc_row (by omega) (hk.wd.mpr h7)) (fun h7 => k_16_1.no asc_walker (by omega) (hk.wd.mpr h7)) (fun h7 => k_22_1.no asc_walk (by omega) (hk.wd.mpr h7))]; decide)⟩) (Nat.le_of_ble_eq_true rfl) (Nat.le_of_ble_eq_true rfl) dX9_lineWord_47
        · have h_24 : r_21.toInt ≠ 0 := c_ne h_24
          refine lv_iconst (v := 3) hx hb dX9_lineWord_42 (by decide) ?_
          refine lv_goto (tgt := 47) hx hb dX9_lineWord_43 (by decide) ?_
          exact eI hQ X hr hlocks hP hD hS () [0, 1] (by decide) rfl rfl (show ((-1) ≤ (3 : Int32).toInt ∧ (3 : Int32).toInt ≤ 3) ∧ (fwP t_bytesf t_token.toInt t_start.toInt t_stop.toInt (lw t_bytesf) t_end.toInt (3 : Int32).toInt) from ⟨(by first | omega | decide | (refine ⟨by decide, ?_⟩; omega) | (have h9_0 : (3 : Int32).toInt = 3 := (by decide); omega)), (fun j hk => by show _ = lw t_bytesf t_end.toInt j; unfold lw; rw [wch_3 (fun h7 => k_4_1.no asc_park (by omega) (hk.wd.mpr h7)) (fun h7 => k_10_1.no asc_row (by omega) (hk.wd.mpr h7)) (fun h7 => k_16_1.no asc_walker (by omega) (hk.wd.mpr h7)) (hk.wd.mp (k_22_1.yes asc_walk (by omega)))]; decide)⟩) (Nat.le_of_ble_eq_true rfl) (Nat.le_of_ble_eq_true rfl) dX9_lineWord_47
      · have h_18 : r_15.toInt ≠ 0 := c_ne h_18
        refine lv_iconst (v := 2) hx hb dX9_lineWord_31 (by decide) ?_
        exact eI hQ X hr hlocks hP hD hS () [0, 1] (by decide) rfl rfl (show ((-1) ≤ (2 : Int32).toInt ∧ (2 : Int32).toInt ≤ 3) ∧ (fwP t_bytesf t_token.toInt t_start.toInt t_stop.toInt (lw t_bytesf) t_end.toInt (2 : Int32).toInt) from ⟨(by first | omega | decide | (refine ⟨by decide, ?_⟩; omega) | (have h9_0 : (2 : Int32).toInt = 2 := (by decide); omega)), (fun j hk => by show _ = lw t_bytesf t_end.toInt j; unfold lw; rw [wch_2 (fun h7 => k_4_1.no asc_park (by omega) (hk.wd.mpr h7)) (fun h7 => k_10_1.no asc_row (by omega) (hk.wd.mpr h7)) (hk.wd.mp (k_16_1.yes asc_walker (by omega)))]; decide)⟩) (Nat.le_of_ble_eq_true rfl) (Nat.le_of_ble_eq_true rfl) dX9_lineWord_32
    · have h_12 : r_9.toInt ≠ 0 := c_ne h_12
      refine lv_iconst (v := 1) hx hb dX9_lineWord_20 (by decide) ?_
      exact eI hQ X hr hlocks hP hD hS () [0, 1] (by decide) rfl rfl (show ((-1) ≤ (1 : Int32).toInt ∧ (1 : Int32).toInt ≤ 3) ∧ (fwP t_bytesf t_token.toInt t_start.toInt t_stop.toInt (lw t_bytesf) t_end.toInt (1 : Int32).toInt) from ⟨(by first | omega | decide | (refine ⟨by decide, ?_⟩; omega) | (have h9_0 : (1 : Int32).toInt = 1 := (by decide); omega)), (fun j hk => by show _ = lw t_bytesf t_end.toInt j; unfold lw; rw [wch_1 (fun h7 => k_4_1.no asc_park (by omega) (hk.wd.mpr h7)) (hk.wd.mp (k_10_1.yes asc_row (by omega)))]; decide)⟩) (Nat.le_of_ble_eq_true rfl) (Nat.le_of_ble_eq_true rfl) dX9_lineWord_21
  · have h_6 : r_3.toInt ≠ 0 := c_ne h_6
    refine lv_iconst (v := 0) hx hb dX9_lineWord_9 (by decide) ?_
    exact eI hQ X hr hlocks hP hD hS () [0, 1] (by decide) rfl rfl (show ((-1) ≤ (0 : Int32).toInt ∧ (0 : Int32).toInt ≤ 3) ∧ (fwP t_bytesf t_token.toInt t_start.toInt t_stop.toInt (lw t_bytesf) t_end.toInt (0 : Int32).toInt) from ⟨(by first | omega | decide | (refine ⟨by decide, ?_⟩; omega) | (have h9_0 : (0 : Int32).toInt = 0 := (by decide); omega)), (fun j hk => by show _ = lw t_bytesf t_end.toInt j; unfold lw; rw [wch_0 (hk.wd.mp (k_4_1.yes asc_park (by omega)))]; decide)⟩) (Nat.le_of_ble_eq_true rfl) (Nat.le_of_ble_eq_true rfl) dX9_lineWord_10
set_option maxHeartbeats 4000000 in
set_option maxRecDepth 100000 in
theorem g9_kindOfWord (l : Launch) (dC : Nat → ClassId) (dI : Nat → Nat → Nat) (cy : Nat → ClassId) (h0 : Nat) (t_bytes : Nat) (t_length : Int32) (t_end : Int32) (t_token : Int32) (t_start : Int32) (t_stop : Int32) (t_number : Int32) (t_fault : Int32) (t_faultAt : Int32) (t_bytesf : Nat → Int32) (ht_length : 0 ≤ t_length.toInt ∧ t_length.toInt ≤ 800) (ht_end : 0 ≤ t_end.toInt ∧ t_end.toInt ≤ 800) (ht_start : 0 ≤ t_start.toInt ∧ t_start.toInt ≤ 800) (ht_stop : 0 ≤ t_stop.toInt ∧ t_stop.toInt ≤ 800) (hrel : t_start.toInt ≤ t_stop.toInt ∧ t_stop.toInt ≤ t_end.toInt) : ctI l dC dI cy hp yX9_kindOfWord cX9_kindOfWord 1 .int ({ frames := 5, cells := 0, slots := 0, locals := 107 } : Room) [.ref h0] [(h0, .inr (8, [.ref t_bytes, .int t_length, .int t_end, .int t_token, .int t_start, .int t_stop, .int t_number, .int t_fault, .int t_faultAt])), (t_bytes, .inl (cy 0, 800, .inl t_bytesf))] (S := Unit) (fun r _ => ((-1) ≤ r.toInt ∧ r.toInt ≤ 3) ∧ (fwP t_bytesf t_token.toInt t_start.toInt t_stop.toInt (kd t_bytesf) t_end.toInt r.toInt)) (fun _ => [(h0, .inr (8, [.ref t_bytes, .int t_length, .int t_end, .int t_token, .int t_start, .int t_stop, .int t_number, .int t_fault, .int t_faultAt])), (t_bytes, .inl (cy 0, 800, .inl t_bytesf))]) := by
  refine ctI.of (by decide +kernel) (Nat.le_of_ble_eq_true rfl) ?_
  intro p e s m args below meth c A ls Q hQ X hr hlocks hin hA hP hD hS hl
  have hx := X.1
  have hb := X.2.1
  have hK := X.2.2.2.2.2.1
  have hl : lv_has ls 1 [(0, .ref h0)] := hl
  refine lv_aload_n hx hb dX9_kindOfWord_0 rfl (lv_at hl 0 rfl) ?_
  obtain ⟨q_1, v_2, hq_1, hv_2⟩ := X.2.2.2.2.2.2.2.2.2.2 ("HahaLawn$Tape", 211, "guest") (List.mem_of_getElem? (i := 9) rfl)
  refine va_ldcS hx hb X.2.2.2.1 hq_1 dX9_kindOfWord_1 ?_
  refine fI (wr := []) (rVe_I (wc := [(h0, .inr (8, [.ref t_bytes, .int t_length, .int t_end, .int t_token, .int t_start, .int t_stop, .int t_number, .int t_fault, .int t_faultAt])), (t_bytes, .inl (cy 0, 800, .inl t_bytesf))]) (As := [.ref q_1]) (rest := []) X (andX_st hp_st (sO_st q_1 v_2 5 (txB "guest"))) ⟨X.2.2.2.2.2.2.2, hv_2⟩ (g9_isWord l dC dI cy h0 t_bytes t_length t_end t_token t_start t_stop t_number t_fault t_faultAt t_bytesf q_1 v_2 5 (txB "guest") ht_length ht_end ht_start ht_stop hrel (by first | omega | decide)) kX9_isWord vX9_isWord mX9_183 hP hD hS hA [0, 1] (by decide) rfl 0 (ci := 8) rfl rfl rfl hl rfl rfl (Nat.le_of_ble_eq_true rfl) dX9_kindOfWord_3 ⟨(Nat.le_of_ble_eq_true rfl), (Nat.le_of_ble_eq_true rfl)⟩ ⟨(Nat.le_of_ble_eq_true rfl), (Nat.le_of_ble_eq_true rfl)⟩) hP hD hS hA [0, 1] [] rfl rfl (by decide) (by decide) (fun r_3 u_5 H locs k_4 hP hD hS => ?_)
  have k_4 : (0 ≤ r_3.toInt ∧ r_3.toInt ≤ 1) ∧ (wdP t_bytesf t_token.toInt t_start.toInt t_stop.toInt 5 (txB "guest") r_3.toInt) := k_4
  obtain ⟨k_4_0, k_4_1⟩ := k_4
  have hP : va_P (dC, dI) vwCl [(h0, .inr (8, [.ref t_bytes, .int t_length, .int t_end, .int t_token, .int t_start, .int t_stop, .int t_number, .int t_fault, .int t_faultAt])), (t_bytes, .inl (cy 0, 800, .inl t_bytesf))] H := hP
  have hD : va_D A [(h0, .inr (8, [.ref t_bytes, .int t_length, .int t_end, .int t_token, .int t_start, .int t_stop, .int t_number, .int t_fault, .int t_faultAt])), (t_bytes, .inl (cy 0, 800, .inl t_bytesf))] := hD
  refine lv_if_eq (tgt := 11) hx hb dX9_kindOfWord_6 (by decide) (fun h_6 => ?_) (fun h_6 => ?_)
  · have h_6 : r_3.toInt = 0 := c_eq h_6
    refine lv_aload_n hx hb dX9_kindOfWord_11 rfl (lv_at hl 0 rfl) ?_
    obtain ⟨q_7, v_8, hq_7, hv_8⟩ := X.2.2.2.2.2.2.2.2.2.2 ("HahaLawn$Tape", 213, "child") (List.mem_of_getElem? (i := 10) rfl)
    refine va_ldcS hx hb X.2.2.2.1 hq_7 dX9_kindOfWord_12 ?_
    refine fI (wr := []) (rVe_I (wc := [(h0, .inr (8, [.ref t_bytes, .int t_length, .int t_end, .int t_token, .int t_start, .int t_stop, .int t_number, .int t_fault, .int t_faultAt])), (t_bytes, .inl (cy 0, 800, .inl t_bytesf))]) (As := [.ref q_7]) (rest := []) X (andX_st hp_st (sO_st q_7 v_8 5 (txB "child"))) ⟨X.2.2.2.2.2.2.2, hv_8⟩ (g9_isWord l dC dI cy h0 t_bytes t_length t_end t_token t_start t_stop t_number t_fault t_faultAt t_bytesf q_7 v_8 5 (txB "child") ht_length ht_end ht_start ht_stop hrel (by first | omega | decide)) kX9_isWord vX9_isWord mX9_183 hP hD hS hA [0, 1] (by decide) rfl 0 (ci := 8) rfl rfl rfl hl rfl rfl (Nat.le_of_ble_eq_true rfl) dX9_kindOfWord_14 ⟨(Nat.le_of_ble_eq_true rfl), (Nat.le_of_ble_eq_true rfl)⟩ ⟨(Nat.le_of_ble_eq_true rfl), (Nat.le_of_ble_eq_true rfl)⟩) hP hD hS hA [0, 1] [] rfl rfl (by decide) (by decide) (fun r_9 u_11 H locs k_10 hP hD hS => ?_)
    have k_10 : (0 ≤ r_9.toInt ∧ r_9.toInt ≤ 1) ∧ (wdP t_bytesf t_token.toInt t_start.toInt t_stop.toInt 5 (txB "child") r_9.toInt) := k_10
    obtain ⟨k_10_0, k_10_1⟩ := k_10
    have hP : va_P (dC, dI) vwCl [(h0, .inr (8, [.ref t_bytes, .int t_length, .int t_end, .int t_token, .int t_start, .int t_stop, .int t_number, .int t_fault, .int t_faultAt])), (t_bytes, .inl (cy 0, 800, .inl t_bytesf))] H := hP
    have hD : va_D A [(h0, .inr (8, [.ref t_bytes, .int t_length, .int t_end, .int t_token, .int t_start, .int t_stop, .int t_number, .int t_fault, .int t_faultAt])), (t_bytes, .inl (cy 0, 800, .inl t_bytesf))] := hD
    refine lv_if_eq (tgt := 22) hx hb dX9_kindOfWord_17 (by decide) (fun h_12 => ?_) (fun h_12 => ?_)
    · have h_12 : r_9.toInt = 0 := c_eq h_12
      refine lv_aload_n hx hb dX9_kindOfWord_22 rfl (lv_at hl 0 rfl) ?_
      obtain ⟨q_13, v_14, hq_13, hv_14⟩ := X.2.2.2.2.2.2.2.2.2.2 ("HahaLawn$Tape", 215, "colonel") (List.mem_of_getElem? (i := 11) rfl)
      refine va_ldcS hx hb X.2.2.2.1 hq_13 dX9_kindOfWord_23 ?_
      refine fI (wr := []) (rVe_I (wc := [(h0, .inr (8, [.ref t_bytes, .int t_length, .int t_end, .int t_token, .int t_start, .int t_stop, .int t_number, .int t_fault, .int t_faultAt])), (t_bytes, .inl (cy 0, 800, .inl t_bytesf))]) (As := [.ref q_13]) (rest := []) X (andX_st hp_st (sO_st q_13 v_14 7 (txB "colonel"))) ⟨X.2.2.2.2.2.2.2, hv_14⟩ (g9_isWord l dC dI cy h0 t_bytes t_length t_end t_token t_start t_stop t_number t_fault t_faultAt t_bytesf q_13 v_14 7 (txB "colonel") ht_length ht_end ht_start ht_stop hrel (by first | omega | decide)) kX9_isWord vX9_isWord mX9_183 hP hD hS hA [0, 1] (by decide) rfl 0 (ci := 8) rfl rfl rfl hl rfl rfl (Nat.le_of_ble_eq_true rfl) dX9_kindOfWord_25 ⟨(Nat.le_of_ble_eq_true rfl), (Nat.le_of_ble_eq_true rfl)⟩ ⟨(Nat.le_of_ble_eq_true rfl), (Nat.le_of_ble_eq_true rfl)⟩) hP hD hS hA [0, 1] [] rfl rfl (by decide) (by decide) (fun r_15 u_17 H locs k_16 hP hD hS => ?_)
      have k_16 : (0 ≤ r_15.toInt ∧ r_15.toInt ≤ 1) ∧ (wdP t_bytesf t_token.toInt t_start.toInt t_stop.toInt 7 (txB "colonel") r_15.toInt) := k_16
      obtain ⟨k_16_0, k_16_1⟩ := k_16
      have hP : va_P (dC, dI) vwCl [(h0, .inr (8, [.ref t_bytes, .int t_length, .int t_end, .int t_token, .int t_start, .int t_stop, .int t_number, .int t_fault, .int t_faultAt])), (t_bytes, .inl (cy 0, 800, .inl t_bytesf))] H := hP
      have hD : va_D A [(h0, .inr (8, [.ref t_bytes, .int t_length, .int t_end, .int t_token, .int t_start, .int t_stop, .int t_number, .int t_fault, .int t_faultAt])), (t_bytes, .inl (cy 0, 800, .inl t_bytesf))] := hD
      refine lv_if_eq (tgt := 33) hx hb dX9_kindOfWord_28 (by decide) (fun h_18 => ?_) (fun h_18 => ?_)
      · have h_18 : r_15.toInt = 0 := c_eq h_18
        refine lv_aload_n hx hb dX9_kindOfWord_33 rfl (lv_at hl 0 rfl) ?_
        obtain ⟨q_19, v_20, hq_19, hv_20⟩ := X.2.2.2.2.2.2.2.2.2.2 ("HahaLawn$Tape", 217, "keeper") (List.mem_of_getElem? (i := 12) rfl)
        refine va_ldcS hx hb X.2.2.2.1 hq_19 dX9_kindOfWord_34 ?_
        refine fI (wr := []) (rVe_I (wc := [(h0, .inr (8, [.ref t_bytes, .int t_length, .int t_end, .int t_token, .int t_start, .int t_stop, .int t_number, .int t_fault, .int t_faultAt])), (t_bytes, .inl (cy 0, 800, .inl t_bytesf))]) (As := [.ref q_19]) (rest := []) X (andX_st hp_st (sO_st q_19 v_20 6 (txB "keeper"))) ⟨X.2.2.2.2.2.2.2, hv_20⟩ (g9_isWord l dC dI cy h0 t_bytes t_length t_end t_token t_start t_stop t_number t_fault t_faultAt t_bytesf q_19 v_20 6 (txB "keeper") ht_length ht_end ht_start ht_stop hrel (by first | omega | decide)) kX9_isWord vX9_isWord mX9_183 hP hD hS hA [0, 1] (by decide) rfl 0 (ci := 8) rfl rfl rfl hl rfl rfl (Nat.le_of_ble_eq_true rfl) dX9_kindOfWord_36 ⟨(Nat.le_of_ble_eq_true rfl), (Nat.le_of_ble_eq_true rfl)⟩ ⟨(Nat.le_of_ble_eq_true rfl), (Nat.le_of_ble_eq_true rfl)⟩) hP hD hS hA [0, 1] [] rfl rfl (by decide) (by decide) (fun r_21 u_23 H locs k_22 hP hD hS => ?_)
        have k_22 : (0 ≤ r_21.toInt ∧ r_21.toInt ≤ 1) ∧ (wdP t_bytesf t_token.toInt t_start.toInt t_stop.toInt 6 (txB "keeper") r_21.toInt) := k_22
        obtain ⟨k_22_0, k_22_1⟩ := k_22
        have hP : va_P (dC, dI) vwCl [(h0, .inr (8, [.ref t_bytes, .int t_length, .int t_end, .int t_token, .int t_start, .int t_stop, .int t_number, .int t_fault, .int t_faultAt])), (t_bytes, .inl (cy 0, 800, .inl t_bytesf))] H := hP
        have hD : va_D A [(h0, .inr (8, [.ref t_bytes, .int t_length, .int t_end, .int t_token, .int t_start, .int t_stop, .int t_number, .int t_fault, .int t_faultAt])), (t_bytes, .inl (cy 0, 800, .inl t_bytesf))] := hD
        refine lv_if_eq (tgt := 46) hx hb dX9_kindOfWord_39 (by decide) (fun h_24 => ?_) (fun h_24 => ?_)
        · have h_24 : r_21.toInt = 0 := c_eq h_24
          refine lv_iconst (v := -1) hx hb dX9_kindOfWord_46 (by decide) ?_
          exact eI hQ X hr hlocks hP hD hS () [0, 1] (by decide) rfl rfl (show ((-1) ≤ (-1 : Int32).toInt ∧ (-1 : Int32).toInt ≤ 3) ∧ (fwP t_bytesf t_token.toInt t_start.toInt t_stop.toInt (kd t_bytesf) t_end.toInt (-1 : Int32).toInt) from ⟨(by first | omega | decide | (refine ⟨by decide, ?_⟩; omega) | (have h9_0 : (-1 : Int32).toInt = (-1) := (by decide); omega)), (fun j hk => by show _ = kd t_bytesf t_end.toInt j; unfold kd; rw [wch_n (fun h7 => k_4_1.no asc_guest (by omega) (hk.wd.mpr h7)) (fun h7 => k_10_1.no asc_child (by omega) (hk.wd.mpr h7)) (fun h7 => k_16_1.no asc_colonel (by omega) (hk.wd.mpr h7)) (fun h7 => k_22_1.no asc_keeper (by omega) (hk.wd.mpr h7))]; decide)⟩) (Nat.le_of_ble_eq_true rfl) (Nat.le_of_ble_eq_true rfl) dX9_kindOfWord_47
        · have h_24 : r_21.toInt ≠ 0 := c_ne h_24
          refine lv_iconst (v := 3) hx hb dX9_kindOfWord_42 (by decide) ?_
          refine lv_goto (tgt := 47) hx hb dX9_kindOfWord_43 (by decide) ?_
          exact eI hQ X hr hlocks hP hD hS () [0, 1] (by decide) rfl rfl (show ((-1) ≤ (3 : Int32).toInt ∧ (3 : Int32).toInt ≤ 3) ∧ (fwP t_bytesf t_token.toInt t_start.toInt t_stop.toInt (kd t_bytesf) t_end.toInt (3 : Int32).toInt) from ⟨(by first | omega | decide | (refine ⟨by decide, ?_⟩; omega) | (have h9_0 : (3 : Int32).toInt = 3 := (by decide); omega)), (fun j hk => by show _ = kd t_bytesf t_end.toInt j; unfold kd; rw [wch_3 (fun h7 => k_4_1.no asc_guest (by omega) (hk.wd.mpr h7)) (fun h7 => k_10_1.no asc_child (by omega) (hk.wd.mpr h7)) (fun h7 => k_16_1.no asc_colonel (by omega) (hk.wd.mpr h7)) (hk.wd.mp (k_22_1.yes asc_keeper (by omega)))]; decide)⟩) (Nat.le_of_ble_eq_true rfl) (Nat.le_of_ble_eq_true rfl) dX9_kindOfWord_47
      · have h_18 : r_15.toInt ≠ 0 := c_ne h_18
        refine lv_iconst (v := 2) hx hb dX9_kindOfWord_31 (by decide) ?_
        exact eI hQ X hr hlocks hP hD hS () [0, 1] (by decide) rfl rfl (show ((-1) ≤ (2 : Int32).toInt ∧ (2 : Int32).toInt ≤ 3) ∧ (fwP t_bytesf t_token.toInt t_start.toInt t_stop.toInt (kd t_bytesf) t_end.toInt (2 : Int32).toInt) from ⟨(by first | omega | decide | (refine ⟨by decide, ?_⟩; omega) | (have h9_0 : (2 : Int32).toInt = 2 := (by decide); omega)), (fun j hk => by show _ = kd t_bytesf t_end.toInt j; unfold kd; rw [wch_2 (fun h7 => k_4_1.no asc_guest (by omega) (hk.wd.mpr h7)) (fun h7 => k_10_1.no asc_child (by omega) (hk.wd.mpr h7)) (hk.wd.mp (k_16_1.yes asc_colonel (by omega)))]; decide)⟩) (Nat.le_of_ble_eq_true rfl) (Nat.le_of_ble_eq_true rfl) dX9_kindOfWord_32
    · have h_12 : r_9.toInt ≠ 0 := c_ne h_12
      refine lv_iconst (v := 1) hx hb dX9_kindOfWord_20 (by decide) ?_
      exact eI hQ X hr hlocks hP hD hS () [0, 1] (by decide) rfl rfl (show ((-1) ≤ (1 : Int32).toInt ∧ (1 : Int32).toInt ≤ 3) ∧ (fwP t_bytesf t_token.toInt t_start.toInt t_stop.toInt (kd t_bytesf) t_end.toInt (1 : Int32).toInt) from ⟨(by first | omega | decide | (refine ⟨by decide, ?_⟩; omega) | (have h9_0 : (1 : Int32).toInt = 1 := (by decide); omega)), (fun j hk => by show _ = kd t_bytesf t_end.toInt j; unfold kd; rw [wch_1 (fun h7 => k_4_1.no asc_guest (by omega) (hk.wd.mpr h7)) (hk.wd.mp (k_10_1.yes asc_child (by omega)))]; decide)⟩) (Nat.le_of_ble_eq_true rfl) (Nat.le_of_ble_eq_true rfl) dX9_kindOfWord_21
  · have h_6 : r_3.toInt ≠ 0 := c_ne h_6
    refine lv_iconst (v := 0) hx hb dX9_kindOfWord_9 (by decide) ?_
    exact eI hQ X hr hlocks hP hD hS () [0, 1] (by decide) rfl rfl (show ((-1) ≤ (0 : Int32).toInt ∧ (0 : Int32).toInt ≤ 3) ∧ (fwP t_bytesf t_token.toInt t_start.toInt t_stop.toInt (kd t_bytesf) t_end.toInt (0 : Int32).toInt) from ⟨(by first | omega | decide | (refine ⟨by decide, ?_⟩; omega) | (have h9_0 : (0 : Int32).toInt = 0 := (by decide); omega)), (fun j hk => by show _ = kd t_bytesf t_end.toInt j; unfold kd; rw [wch_0 (hk.wd.mp (k_4_1.yes asc_guest (by omega)))]; decide)⟩) (Nat.le_of_ble_eq_true rfl) (Nat.le_of_ble_eq_true rfl) dX9_kindOfWord_10
set_option maxHeartbeats 4000000 in
set_option maxRecDepth 100000 in
theorem g4_sortAt (l : Launch) (dC : Nat → ClassId) (dI : Nat → Nat → Nat) (cy : Nat → ClassId) (h0 : Nat) (g_wide : Int32) (g_deep : Int32) (g_count : Int32) (g_sorts : Nat) (g_sortsf : Nat → Int32) (p1 : Int32) (hg_wide : 0 ≤ g_wide.toInt ∧ g_wide.toInt ≤ 5) (hg_deep : 0 ≤ g_deep.toInt ∧ g_deep.toInt ≤ 4) (hg_count : 0 ≤ g_count.toInt ∧ g_count.toInt ≤ 20) : ctI l dC dI cy hp yX4_sortAt cX4_sortAt 2 .int ({ frames := 1, cells := 0, slots := 0, locals := 21 } : Room) [.ref h0, .int p1] [(h0, .inr (4, [.int g_wide, .int g_deep, .int g_count, .ref g_sorts])), (g_sorts, .inl (cy 1, 20, .inl g_sortsf))] (S := Unit) (fun r _ => (saP g_count.toInt g_sortsf p1.toInt r.toInt)) (fun _ => [(h0, .inr (4, [.int g_wide, .int g_deep, .int g_count, .ref g_sorts])), (g_sorts, .inl (cy 1, 20, .inl g_sortsf))]) := by
  refine ctI.of (by decide +kernel) (Nat.le_of_ble_eq_true rfl) ?_
  intro p e s m args below meth c A ls Q hQ X hr hlocks hin hA hP hD hS hl
  have hx := X.1
  have hb := X.2.1
  have hK := X.2.2.2.2.2.1
  have hl : lv_has ls 2 [(0, .ref h0), (1, .int p1)] := hl
  have dy_1 := ti_bd p1
  refine lv_aload_n hx hb dX4_sortAt_0 rfl (lv_at hl 0 rfl) ?_
  refine lv_iload_n hx hb dX4_sortAt_1 rfl (lv_at hl 1 rfl) ?_
  refine fI (wr := [(g_sorts, .inl (cy 1, 20, .inl g_sortsf))]) (rV_I (wc := [(h0, .inr (4, [.int g_wide, .int g_deep, .int g_count, .ref g_sorts]))]) (As := [.int p1]) (rest := []) X hp_st (fun _ _ _ h => h) (sX4_holds l dC dI cy h0 g_wide g_deep g_count g_sorts p1 hg_wide hg_deep hg_count) kX4_holds vX4_holds mX4_25 hP hD hS hA [0] (by decide) rfl 0 (ci := 4) rfl rfl rfl hl rfl rfl (Nat.le_of_ble_eq_true rfl) dX4_sortAt_2 ⟨(Nat.le_of_ble_eq_true rfl), (Nat.le_of_ble_eq_true rfl)⟩ ⟨(Nat.le_of_ble_eq_true rfl), (Nat.le_of_ble_eq_true rfl)⟩) hP hD hS hA [0] [1] rfl rfl (by decide) (by decide) (fun r_2 u_4 H locs k_3 hP hD hS => ?_)
  have k_3 : (0 ≤ r_2.toInt ∧ r_2.toInt ≤ 1) ∧ ((r_2.toInt = 1 ∧ 0 ≤ p1.toInt ∧ p1.toInt < g_count.toInt) ∨ (r_2.toInt = 0 ∧ (p1.toInt < 0 ∨ g_count.toInt ≤ p1.toInt))) := k_3
  obtain ⟨k_3_0, k_3_1⟩ := k_3
  have hP : va_P (dC, dI) vwCl [(g_sorts, .inl (cy 1, 20, .inl g_sortsf)), (h0, .inr (4, [.int g_wide, .int g_deep, .int g_count, .ref g_sorts]))] H := hP
  have hD : va_D A [(g_sorts, .inl (cy 1, 20, .inl g_sortsf)), (h0, .inr (4, [.int g_wide, .int g_deep, .int g_count, .ref g_sorts]))] := hD
  refine lv_if_eq (tgt := 17) hx hb dX4_sortAt_5 (by decide) (fun h_5 => ?_) (fun h_5 => ?_)
  · have h_5 : r_2.toInt = 0 := c_eq h_5
    refine lv_iconst (v := 3) hx hb dX4_sortAt_17 (by decide) ?_
    exact eI hQ X hr hlocks hP hD hS () [1, 0] (by decide) rfl rfl (show (saP g_count.toInt g_sortsf p1.toInt (3 : Int32).toInt) from (Or.inr ⟨by omega, by decide⟩)) (Nat.le_of_ble_eq_true rfl) (Nat.le_of_ble_eq_true rfl) dX4_sortAt_18
  · have h_5 : r_2.toInt ≠ 0 := c_ne h_5
    refine lv_aload_n hx hb dX4_sortAt_8 rfl (lv_at hl 0 rfl) ?_
    refine r_get X kcX4 (ci := 4) rfl hP 1 rfl 3 (by decide) fX4_9 rfl dX4_sortAt_9 ?_
    refine lv_iload_n hx hb dX4_sortAt_12 rfl (lv_at hl 1 rfl) ?_
    refine va_iald (D := (dC, dI)) (cl := vwCl) hx hb hK hP 0 1 rfl rfl (i := p1) (vin (by omega) (by omega)) dX4_sortAt_13 ?_
    refine lv_topi (fun x_6 ex_6 => ?_)
    refine lv_goto (tgt := 18) hx hb dX4_sortAt_14 (by decide) ?_
    exact eI hQ X hr hlocks hP hD hS () [1, 0] (by decide) rfl rfl (show (saP g_count.toInt g_sortsf p1.toInt x_6.toInt) from (Or.inl ⟨by omega, by omega, by rw [ex_6]; rfl⟩)) (Nat.le_of_ble_eq_true rfl) (Nat.le_of_ble_eq_true rfl) dX4_sortAt_18
set_option maxHeartbeats 4000000 in
set_option maxRecDepth 100000 in
theorem g4_resize (l : Launch) (dC : Nat → ClassId) (dI : Nat → Nat → Nat) (cy : Nat → ClassId) (h0 : Nat) (g_wide : Int32) (g_deep : Int32) (g_count : Int32) (g_sorts : Nat) (p1 : Int32) (p2 : Int32) (hg_wide : 0 ≤ g_wide.toInt ∧ g_wide.toInt ≤ 5) (hg_deep : 0 ≤ g_deep.toInt ∧ g_deep.toInt ≤ 4) (hg_count : 0 ≤ g_count.toInt ∧ g_count.toInt ≤ 20) (hp1 : 0 ≤ p1.toInt ∧ p1.toInt ≤ 5) (hp2 : 0 ≤ p2.toInt ∧ p2.toInt ≤ 4) : ctV l dC dI cy hp yX4_resize cX4_resize 3 ({ frames := 0, cells := 0, slots := 0, locals := 0 } : Room) [.ref h0, .int p1, .int p2] [(h0, .inr (4, [.int g_wide, .int g_deep, .int g_count, .ref g_sorts]))] (S := Int32 × Int32 × Int32) (fun u => (0 ≤ u.1.toInt ∧ u.1.toInt ≤ 5) ∧ (0 ≤ u.2.1.toInt ∧ u.2.1.toInt ≤ 4) ∧ (0 ≤ u.2.2.toInt ∧ u.2.2.toInt ≤ 20) ∧ (u.1.toInt = p1.toInt) ∧ (u.2.1.toInt = p2.toInt) ∧ (u.2.2.toInt = p1.toInt * p2.toInt)) (fun u => [(h0, .inr (4, [.int u.1, .int u.2.1, .int u.2.2, .ref g_sorts]))]) := by
  refine ctV.of (by decide +kernel) (Nat.le_of_ble_eq_true rfl) ?_
  intro p e s m args below meth c A ls Q hQ X hr hlocks hin hA hP hD hS hl
  have hx := X.1
  have hb := X.2.1
  have hK := X.2.2.2.2.2.1
  have hl : lv_has ls 3 [(0, .ref h0), (1, .int p1), (2, .int p2)] := hl
  refine lv_aload_n hx hb dX4_resize_0 rfl (lv_at hl 0 rfl) ?_
  refine lv_iload_n hx hb dX4_resize_1 rfl (lv_at hl 1 rfl) ?_
  refine r_put X kcX4 (ci := 4) rfl hP hD hS 0 rfl 0 (by decide) fX4_15 rfl rfl rfl (Nat.le_of_ble_eq_true rfl) dX4_resize_2 (fun H locs hP hD hS => ?_)
  have hP : va_P (dC, dI) vwCl [(h0, .inr (4, [.int p1, .int g_deep, .int g_count, .ref g_sorts]))] H := hP
  have hD : va_D A [(h0, .inr (4, [.int p1, .int g_deep, .int g_count, .ref g_sorts]))] := hD
  refine lv_aload_n hx hb dX4_resize_5 rfl (lv_at hl 0 rfl) ?_
  refine lv_iload_n hx hb dX4_resize_6 rfl (lv_at hl 2 rfl) ?_
  refine r_put X kcX4 (ci := 4) rfl hP hD hS 0 rfl 1 (by decide) fX4_19 rfl rfl rfl (Nat.le_of_ble_eq_true rfl) dX4_resize_7 (fun H locs hP hD hS => ?_)
  have hP : va_P (dC, dI) vwCl [(h0, .inr (4, [.int p1, .int p2, .int g_count, .ref g_sorts]))] H := hP
  have hD : va_D A [(h0, .inr (4, [.int p1, .int p2, .int g_count, .ref g_sorts]))] := hD
  refine lv_aload_n hx hb dX4_resize_10 rfl (lv_at hl 0 rfl) ?_
  refine lv_iload_n hx hb dX4_resize_11 rfl (lv_at hl 1 rfl) ?_
  refine lv_iload_n hx hb dX4_resize_12 rfl (lv_at hl 2 rfl) ?_
  refine lv_imul hx hb dX4_resize_13 ?_
  refine lv_topi (fun x_1 ex_1 => ?_)
  have tx_1 : x_1.toInt = p1.toInt * p2.toInt ∧ 0 ≤ p1.toInt * p2.toInt ∧ p1.toInt * p2.toInt ≤ 20 := ti_mulq (A := 5) (B := 4) ex_1 (by omega) (by omega) (by omega) (by omega) (by decide)
  refine r_put X kcX4 (ci := 4) rfl hP hD hS 0 rfl 2 (by decide) fX4_22 rfl rfl rfl (Nat.le_of_ble_eq_true rfl) dX4_resize_14 (fun H locs hP hD hS => ?_)
  have hP : va_P (dC, dI) vwCl [(h0, .inr (4, [.int p1, .int p2, .int x_1, .ref g_sorts]))] H := hP
  have hD : va_D A [(h0, .inr (4, [.int p1, .int p2, .int x_1, .ref g_sorts]))] := hD
  exact eV hQ X hr hlocks hP hD hS (p1, p2, x_1) [0] (by decide) rfl (show (0 ≤ p1.toInt ∧ p1.toInt ≤ 5) ∧ (0 ≤ p2.toInt ∧ p2.toInt ≤ 4) ∧ (0 ≤ x_1.toInt ∧ x_1.toInt ≤ 20) ∧ (p1.toInt = p1.toInt) ∧ (p2.toInt = p2.toInt) ∧ (x_1.toInt = p1.toInt * p2.toInt) from ⟨hp1, hp2, (by omega), (by omega), (by omega), (by omega)⟩) (Nat.le_of_ble_eq_true rfl) (Nat.le_of_ble_eq_true rfl) dX4_resize_17
set_option maxHeartbeats 4000000 in
set_option maxRecDepth 100000 in
theorem g9_readPlace (l : Launch) (dC : Nat → ClassId) (dI : Nat → Nat → Nat) (cy : Nat → ClassId) (h0 : Nat) (t_bytes : Nat) (t_length : Int32) (t_end : Int32) (t_token : Int32) (t_start : Int32) (t_stop : Int32) (t_number : Int32) (t_fault : Int32) (t_faultAt : Int32) (t_bytesf : Nat → Int32) (h1 : Nat) (g_wide : Int32) (g_deep : Int32) (g_count : Int32) (g_sorts : Nat) (g_sortsf : Nat → Int32) (p2 : Int32) (ht_length : 0 ≤ t_length.toInt ∧ t_length.toInt ≤ 800) (ht_end : 0 ≤ t_end.toInt ∧ t_end.toInt ≤ 800) (ht_start : 0 ≤ t_start.toInt ∧ t_start.toInt ≤ 800) (ht_stop : 0 ≤ t_stop.toInt ∧ t_stop.toInt ≤ 800) (hrel : t_start.toInt ≤ t_stop.toInt ∧ t_stop.toInt ≤ t_end.toInt) (hg_wide : 0 ≤ g_wide.toInt ∧ g_wide.toInt ≤ 5) (hg_deep : 0 ≤ g_deep.toInt ∧ g_deep.toInt ≤ 4) (hg_count : 0 ≤ g_count.toInt ∧ g_count.toInt ≤ 20) : ctI l dC dI cy hp yX9_readPlace cX9_readPlace 5 .boolean ({ frames := 3, cells := 0, slots := 0, locals := 69 } : Room) [.ref h0, .ref h1, .int p2] [(h0, .inr (8, [.ref t_bytes, .int t_length, .int t_end, .int t_token, .int t_start, .int t_stop, .int t_number, .int t_fault, .int t_faultAt])), (t_bytes, .inl (cy 0, 800, .inl t_bytesf)), (h1, .inr (4, [.int g_wide, .int g_deep, .int g_count, .ref g_sorts])), (g_sorts, .inl (cy 1, 20, .inl g_sortsf))] (S := Int32 × Int32 × Int32 × Int32 × Int32 × Int32) (fun r u => (0 ≤ r.toInt ∧ r.toInt ≤ 1) ∧ (0 ≤ u.2.1.toInt ∧ u.2.1.toInt ≤ 800) ∧ (0 ≤ u.2.2.1.toInt ∧ u.2.2.1.toInt ≤ 800) ∧ (u.2.1.toInt ≤ u.2.2.1.toInt ∧ u.2.2.1.toInt ≤ t_end.toInt) ∧ ((r.toInt = 1 ∧ 0 ≤ u.2.2.2.2.2.toInt ∧ u.2.2.2.2.2.toInt ≤ 19) ∨ r.toInt = 0) ∧ (qP t_bytesf t_end.toInt g_wide.toInt g_deep.toInt g_count.toInt g_sortsf p2.toInt t_token.toInt t_start.toInt t_stop.toInt r.toInt u.2.2.2.2.2.toInt u.1.toInt u.2.1.toInt u.2.2.1.toInt u.2.2.2.1.toInt u.2.2.2.2.1.toInt) ∧ (r.toInt ≠ 0 → u.2.2.2.1.toInt = t_fault.toInt)) (fun u => [(h0, .inr (8, [.ref t_bytes, .int t_length, .int t_end, .int u.1, .int u.2.1, .int u.2.2.1, .int u.2.2.2.2.2, .int u.2.2.2.1, .int u.2.2.2.2.1])), (t_bytes, .inl (cy 0, 800, .inl t_bytesf)), (h1, .inr (4, [.int g_wide, .int g_deep, .int g_count, .ref g_sorts])), (g_sorts, .inl (cy 1, 20, .inl g_sortsf))]) := by
  refine ctI.of (by decide +kernel) (Nat.le_of_ble_eq_true rfl) ?_
  intro p e s m args below meth c A ls Q hQ X hr hlocks hin hA hP hD hS hl
  have hx := X.1
  have hb := X.2.1
  have hK := X.2.2.2.2.2.1
  have hl : lv_has ls 5 [(0, .ref h0), (1, .ref h1), (2, .int p2)] := hl
  have dy_1 := ti_bd p2
  refine lv_aload_n hx hb dX9_readPlace_0 rfl (lv_at hl 0 rfl) ?_
  refine lv_iconst (v := 0) hx hb dX9_readPlace_1 (by decide) ?_
  refine lv_aload_n hx hb dX9_readPlace_2 rfl (lv_at hl 1 rfl) ?_
  refine r_get X kcX4 (ci := 4) rfl hP 2 rfl 0 (by decide) fX9_109 rfl dX9_readPlace_3 ?_
  refine lv_iconst (v := 1) hx hb dX9_readPlace_6 (by decide) ?_
  refine lv_isub hx hb dX9_readPlace_7 ?_
  refine lv_topi (fun x_2 ex_2 => ?_)
  have tx_2 : x_2.toInt = g_wide.toInt - 1 := ti_sub (A := g_wide.toInt) (B := 1) ex_2 rfl rfl (by omega) (by omega)
  refine fI (wr := [(h1, .inr (4, [.int g_wide, .int g_deep, .int g_count, .ref g_sorts])), (g_sorts, .inl (cy 1, 20, .inl g_sortsf))]) (rV_I (wc := [(h0, .inr (8, [.ref t_bytes, .int t_length, .int t_end, .int t_token, .int t_start, .int t_stop, .int t_number, .int t_fault, .int t_faultAt])), (t_bytes, .inl (cy 0, 800, .inl t_bytesf))]) (As := [.int 0, .int x_2]) (rest := []) X hp_st (fun _ _ _ h => h) (g9_readWhole l dC dI cy h0 t_bytes t_length t_end t_token t_start t_stop t_number t_fault t_faultAt t_bytesf 0 x_2 ht_length ht_end ht_start ht_stop hrel) kX9_readWhole vX9_readWhole mX9_82 hP hD hS hA [0, 1] (by decide) rfl 0 (ci := 8) rfl rfl rfl hl rfl rfl (Nat.le_of_ble_eq_true rfl) dX9_readPlace_8 ⟨(Nat.le_of_ble_eq_true rfl), (Nat.le_of_ble_eq_true rfl)⟩ ⟨(Nat.le_of_ble_eq_true rfl), (Nat.le_of_ble_eq_true rfl)⟩) hP hD hS hA [0, 1] [2, 3] rfl rfl (by decide) (by decide) (fun r_9 u_11 H locs k_10 hP hD hS => ?_)
  obtain ⟨t_token1_3, t_start1_4, t_stop1_5, t_fault1_6, t_faultAt1_7, t_number1_8⟩ := u_11
  have k_10 : (0 ≤ r_9.toInt ∧ r_9.toInt ≤ 1) ∧ (0 ≤ t_start1_4.toInt ∧ t_start1_4.toInt ≤ 800) ∧ (0 ≤ t_stop1_5.toInt ∧ t_stop1_5.toInt ≤ 800) ∧ (t_start1_4.toInt ≤ t_stop1_5.toInt ∧ t_stop1_5.toInt ≤ t_end.toInt) ∧ (t_stop.toInt ≤ t_stop1_5.toInt) ∧ ((r_9.toInt = 1 ∧ (0 : Int32).toInt ≤ t_number1_8.toInt ∧ t_number1_8.toInt ≤ x_2.toInt) ∨ r_9.toInt = 0) ∧ (qN t_bytesf t_end.toInt (0 : Int32).toInt x_2.toInt t_token.toInt t_start.toInt t_stop.toInt r_9.toInt t_number1_8.toInt t_token1_3.toInt t_start1_4.toInt t_stop1_5.toInt t_fault1_6.toInt t_faultAt1_7.toInt) ∧ (r_9.toInt ≠ 0 → t_fault1_6.toInt = t_fault.toInt) := k_10
  have kc_12 : (0 : Int32).toInt = 0 := by decide
  obtain ⟨k_10_0, k_10_1, k_10_2, k_10_3, k_10_4, k_10_5, k_10_6, k_10_7⟩ := k_10
  have hP : va_P (dC, dI) vwCl [(h1, .inr (4, [.int g_wide, .int g_deep, .int g_count, .ref g_sorts])), (g_sorts, .inl (cy 1, 20, .inl g_sortsf)), (h0, .inr (8, [.ref t_bytes, .int t_length, .int t_end, .int t_token1_3, .int t_start1_4, .int t_stop1_5, .int t_number1_8, .int t_fault1_6, .int t_faultAt1_7])), (t_bytes, .inl (cy 0, 800, .inl t_bytesf))] H := hP
  have hD : va_D A [(h1, .inr (4, [.int g_wide, .int g_deep, .int g_count, .ref g_sorts])), (g_sorts, .inl (cy 1, 20, .inl g_sortsf)), (h0, .inr (8, [.ref t_bytes, .int t_length, .int t_end, .int t_token1_3, .int t_start1_4, .int t_stop1_5, .int t_number1_8, .int t_fault1_6, .int t_faultAt1_7])), (t_bytes, .inl (cy 0, 800, .inl t_bytesf))] := hD
  refine lv_if_ne (tgt := 16) hx hb dX9_readPlace_11 (by decide) (fun h_13 => ?_) (fun h_13 => ?_)
  · have h_13 : r_9.toInt ≠ 0 := c_ne h_13
    refine lv_aload_n hx hb dX9_readPlace_16 rfl (lv_at hl 0 rfl) ?_
    refine r_get X kcX9 (ci := 8) rfl hP 2 rfl 6 (by decide) fX9_86 rfl dX9_readPlace_17 ?_
    refine lv_istore_n (lv' := [(3, .int t_number1_8), (0, .ref h0), (1, .ref h1), (2, .int p2)]) hx hb dX9_readPlace_20 rfl hl (by decide) rfl (fun ls hl => ?_)
    refine lv_aload_n hx hb dX9_readPlace_21 rfl (lv_at hl 1 rfl) ?_
    refine r_get X kcX9 (ci := 8) rfl hP 2 rfl 4 (by decide) fX9_119 rfl dX9_readPlace_22 ?_
    refine lv_istore (lv' := [(4, .int t_start1_4), (3, .int t_number1_8), (0, .ref h0), (1, .ref h1), (2, .int p2)]) hx hb dX9_readPlace_25 hl (by decide) rfl (fun ls hl => ?_)
    refine lv_aload_n hx hb dX9_readPlace_27 rfl (lv_at hl 2 rfl) ?_
    refine lv_iconst (v := 0) hx hb dX9_readPlace_28 (by decide) ?_
    refine lv_aload_n hx hb dX9_readPlace_29 rfl (lv_at hl 3 rfl) ?_
    refine r_get X kcX4 (ci := 4) rfl hP 0 rfl 1 (by decide) fX9_198 rfl dX9_readPlace_30 ?_
    refine lv_iconst (v := 1) hx hb dX9_readPlace_33 (by decide) ?_
    refine lv_isub hx hb dX9_readPlace_34 ?_
    refine lv_topi (fun x_14 ex_14 => ?_)
    have tx_14 : x_14.toInt = g_deep.toInt - 1 := ti_sub (A := g_deep.toInt) (B := 1) ex_14 rfl rfl (by omega) (by omega)
    refine fI (wr := [(h1, .inr (4, [.int g_wide, .int g_deep, .int g_count, .ref g_sorts])), (g_sorts, .inl (cy 1, 20, .inl g_sortsf))]) (rV_I (wc := [(h0, .inr (8, [.ref t_bytes, .int t_length, .int t_end, .int t_token1_3, .int t_start1_4, .int t_stop1_5, .int t_number1_8, .int t_fault1_6, .int t_faultAt1_7])), (t_bytes, .inl (cy 0, 800, .inl t_bytesf))]) (As := [.int 0, .int x_14]) (rest := []) X hp_st (fun _ _ _ h => h) (g9_readWhole l dC dI cy h0 t_bytes t_length t_end t_token1_3 t_start1_4 t_stop1_5 t_number1_8 t_fault1_6 t_faultAt1_7 t_bytesf 0 x_14 ht_length ht_end k_10_1 k_10_2 k_10_3) kX9_readWhole vX9_readWhole mX9_82 hP hD hS hA [2, 3] (by decide) rfl 0 (ci := 8) rfl rfl rfl hl rfl rfl (Nat.le_of_ble_eq_true rfl) dX9_readPlace_35 ⟨(Nat.le_of_ble_eq_true rfl), (Nat.le_of_ble_eq_true rfl)⟩ ⟨(Nat.le_of_ble_eq_true rfl), (Nat.le_of_ble_eq_true rfl)⟩) hP hD hS hA [2, 3] [0, 1] rfl rfl (by decide) (by decide) (fun r_21 u_23 H locs k_22 hP hD hS => ?_)
    obtain ⟨t_token1_15, t_start1_16, t_stop1_17, t_fault1_18, t_faultAt1_19, t_number1_20⟩ := u_23
    have k_22 : (0 ≤ r_21.toInt ∧ r_21.toInt ≤ 1) ∧ (0 ≤ t_start1_16.toInt ∧ t_start1_16.toInt ≤ 800) ∧ (0 ≤ t_stop1_17.toInt ∧ t_stop1_17.toInt ≤ 800) ∧ (t_start1_16.toInt ≤ t_stop1_17.toInt ∧ t_stop1_17.toInt ≤ t_end.toInt) ∧ (t_stop1_5.toInt ≤ t_stop1_17.toInt) ∧ ((r_21.toInt = 1 ∧ (0 : Int32).toInt ≤ t_number1_20.toInt ∧ t_number1_20.toInt ≤ x_14.toInt) ∨ r_21.toInt = 0) ∧ (qN t_bytesf t_end.toInt (0 : Int32).toInt x_14.toInt t_token1_3.toInt t_start1_4.toInt t_stop1_5.toInt r_21.toInt t_number1_20.toInt t_token1_15.toInt t_start1_16.toInt t_stop1_17.toInt t_fault1_18.toInt t_faultAt1_19.toInt) ∧ (r_21.toInt ≠ 0 → t_fault1_18.toInt = t_fault1_6.toInt) := k_22
    have kc_24 : (0 : Int32).toInt = 0 := by decide
    obtain ⟨k_22_0, k_22_1, k_22_2, k_22_3, k_22_4, k_22_5, k_22_6, k_22_7⟩ := k_22
    have hP : va_P (dC, dI) vwCl [(h1, .inr (4, [.int g_wide, .int g_deep, .int g_count, .ref g_sorts])), (g_sorts, .inl (cy 1, 20, .inl g_sortsf)), (h0, .inr (8, [.ref t_bytes, .int t_length, .int t_end, .int t_token1_15, .int t_start1_16, .int t_stop1_17, .int t_number1_20, .int t_fault1_18, .int t_faultAt1_19])), (t_bytes, .inl (cy 0, 800, .inl t_bytesf))] H := hP
    have hD : va_D A [(h1, .inr (4, [.int g_wide, .int g_deep, .int g_count, .ref g_sorts])), (g_sorts, .inl (cy 1, 20, .inl g_sortsf)), (h0, .inr (8, [.ref t_bytes, .int t_length, .int t_end, .int t_token1_15, .int t_start1_16, .int t_stop1_17, .int t_number1_20, .int t_fault1_18, .int t_faultAt1_19])), (t_bytes, .inl (cy 0, 800, .inl t_bytesf))] := hD
    refine lv_if_ne (tgt := 43) hx hb dX9_readPlace_38 (by decide) (fun h_25 => ?_) (fun h_25 => ?_)
    · have h_25 : r_21.toInt ≠ 0 := c_ne h_25
      refine lv_aload_n hx hb dX9_readPlace_43 rfl (lv_at hl 2 rfl) ?_
      refine lv_aload_n hx hb dX9_readPlace_44 rfl (lv_at hl 2 rfl) ?_
      refine r_get X kcX9 (ci := 8) rfl hP 2 rfl 6 (by decide) fX9_86 rfl dX9_readPlace_45 ?_
      refine lv_aload_n hx hb dX9_readPlace_48 rfl (lv_at hl 3 rfl) ?_
      refine r_get X kcX4 (ci := 4) rfl hP 0 rfl 0 (by decide) fX9_109 rfl dX9_readPlace_49 ?_
      refine lv_imul hx hb dX9_readPlace_52 ?_
      refine lv_topi (fun x_26 ex_26 => ?_)
      have tx_26 : x_26.toInt = t_number1_20.toInt * g_wide.toInt ∧ 0 ≤ t_number1_20.toInt * g_wide.toInt ∧ t_number1_20.toInt * g_wide.toInt ≤ 15 := ti_mulq (A := 3) (B := 5) ex_26 (by omega) (by omega) (by omega) (by omega) (by decide)
      refine lv_iload_n hx hb dX9_readPlace_53 rfl (lv_at hl 1 rfl) ?_
      refine lv_iadd hx hb dX9_readPlace_54 ?_
      refine lv_topi (fun x_27 ex_27 => ?_)
      have tx_27 : x_27.toInt = x_26.toInt + t_number1_8.toInt := ti_add (A := x_26.toInt) (B := t_number1_8.toInt) ex_27 rfl rfl (by omega) (by omega)
      refine r_put X kcX9 (ci := 8) rfl hP hD hS 2 rfl 6 (by decide) fX9_86 rfl rfl rfl (Nat.le_of_ble_eq_true rfl) dX9_readPlace_55 (fun H locs hP hD hS => ?_)
      have hP : va_P (dC, dI) vwCl [(h1, .inr (4, [.int g_wide, .int g_deep, .int g_count, .ref g_sorts])), (g_sorts, .inl (cy 1, 20, .inl g_sortsf)), (h0, .inr (8, [.ref t_bytes, .int t_length, .int t_end, .int t_token1_15, .int t_start1_16, .int t_stop1_17, .int x_27, .int t_fault1_18, .int t_faultAt1_19])), (t_bytes, .inl (cy 0, 800, .inl t_bytesf))] H := hP
      have hD : va_D A [(h1, .inr (4, [.int g_wide, .int g_deep, .int g_count, .ref g_sorts])), (g_sorts, .inl (cy 1, 20, .inl g_sortsf)), (h0, .inr (8, [.ref t_bytes, .int t_length, .int t_end, .int t_token1_15, .int t_start1_16, .int t_stop1_17, .int x_27, .int t_fault1_18, .int t_faultAt1_19])), (t_bytes, .inl (cy 0, 800, .inl t_bytesf))] := hD
      refine lv_iload_n hx hb dX9_readPlace_58 rfl (lv_at hl 4 rfl) ?_
      refine lv_if_ne (tgt := 87) hx hb dX9_readPlace_59 (by decide) (fun h_28 => ?_) (fun h_28 => ?_)
      · have h_28 : p2.toInt ≠ 0 := c_ne h_28
        refine lv_iconst (v := 1) hx hb dX9_readPlace_87 (by decide) ?_
        exact eI hQ X hr hlocks hP hD hS (t_token1_15, t_start1_16, t_stop1_17, t_fault1_18, t_faultAt1_19, x_27) [2, 3, 0, 1] (by decide) rfl rfl (show (0 ≤ (1 : Int32).toInt ∧ (1 : Int32).toInt ≤ 1) ∧ (0 ≤ t_start1_16.toInt ∧ t_start1_16.toInt ≤ 800) ∧ (0 ≤ t_stop1_17.toInt ∧ t_stop1_17.toInt ≤ 800) ∧ (t_start1_16.toInt ≤ t_stop1_17.toInt ∧ t_stop1_17.toInt ≤ t_end.toInt) ∧ (((1 : Int32).toInt = 1 ∧ 0 ≤ x_27.toInt ∧ x_27.toInt ≤ 19) ∨ (1 : Int32).toInt = 0) ∧ (qP t_bytesf t_end.toInt g_wide.toInt g_deep.toInt g_count.toInt g_sortsf p2.toInt t_token.toInt t_start.toInt t_stop.toInt (1 : Int32).toInt x_27.toInt t_token1_15.toInt t_start1_16.toInt t_stop1_17.toInt t_fault1_18.toInt t_faultAt1_19.toInt) ∧ ((1 : Int32).toInt ≠ 0 → t_fault1_18.toInt = t_fault.toInt) from ⟨(by first | omega | decide | (refine ⟨by decide, ?_⟩; omega) | (have h9_0 : (1 : Int32).toInt = 1 := (by decide); omega)), k_22_1, k_22_2, k_22_3, (Or.inl ⟨by decide, by omega, by omega⟩), (qP_y (r3 := 0) k_10_6 (by decide) (by omega) (by omega) k_22_6 (by decide) (by omega) (by omega) (by decide) (show x_27.toInt = g_wide.toInt * _ + _ by rw [Int.mul_comm]; omega) (Or.inl (by omega))), (by first | omega | decide | (refine ⟨by decide, ?_⟩; omega) | (have h9_0 : (1 : Int32).toInt = 1 := (by decide); omega))⟩) (Nat.le_of_ble_eq_true rfl) (Nat.le_of_ble_eq_true rfl) dX9_readPlace_88
      · have h_28 : p2.toInt = 0 := c_eq h_28
        refine lv_aload_n hx hb dX9_readPlace_62 rfl (lv_at hl 3 rfl) ?_
        refine lv_aload_n hx hb dX9_readPlace_63 rfl (lv_at hl 2 rfl) ?_
        refine r_get X kcX9 (ci := 8) rfl hP 2 rfl 6 (by decide) fX9_86 rfl dX9_readPlace_64 ?_
        refine fI (wr := [(h0, .inr (8, [.ref t_bytes, .int t_length, .int t_end, .int t_token1_15, .int t_start1_16, .int t_stop1_17, .int x_27, .int t_fault1_18, .int t_faultAt1_19])), (t_bytes, .inl (cy 0, 800, .inl t_bytesf))]) (rV_I (wc := [(h1, .inr (4, [.int g_wide, .int g_deep, .int g_count, .ref g_sorts])), (g_sorts, .inl (cy 1, 20, .inl g_sortsf))]) (As := [.int x_27]) (rest := []) X hp_st (fun _ _ _ h => h) (g4_sortAt l dC dI cy h1 g_wide g_deep g_count g_sorts g_sortsf x_27 hg_wide hg_deep hg_count) kX4_sortAt vX4_sortAt mX9_200 hP hD hS hA [0, 1] (by decide) rfl 0 (ci := 4) rfl rfl rfl hl rfl rfl (Nat.le_of_ble_eq_true rfl) dX9_readPlace_67 ⟨(Nat.le_of_ble_eq_true rfl), (Nat.le_of_ble_eq_true rfl)⟩ ⟨(Nat.le_of_ble_eq_true rfl), (Nat.le_of_ble_eq_true rfl)⟩) hP hD hS hA [0, 1] [2, 3] rfl rfl (by decide) (by decide) (fun r_29 u_31 H locs k_30 hP hD hS => ?_)
        have k_30 : (saP g_count.toInt g_sortsf x_27.toInt r_29.toInt) := k_30
        have hP : va_P (dC, dI) vwCl [(h0, .inr (8, [.ref t_bytes, .int t_length, .int t_end, .int t_token1_15, .int t_start1_16, .int t_stop1_17, .int x_27, .int t_fault1_18, .int t_faultAt1_19])), (t_bytes, .inl (cy 0, 800, .inl t_bytesf)), (h1, .inr (4, [.int g_wide, .int g_deep, .int g_count, .ref g_sorts])), (g_sorts, .inl (cy 1, 20, .inl g_sortsf))] H := hP
        have hD : va_D A [(h0, .inr (8, [.ref t_bytes, .int t_length, .int t_end, .int t_token1_15, .int t_start1_16, .int t_stop1_17, .int x_27, .int t_fault1_18, .int t_faultAt1_19])), (t_bytes, .inl (cy 0, 800, .inl t_bytesf)), (h1, .inr (4, [.int g_wide, .int g_deep, .int g_count, .ref g_sorts])), (g_sorts, .inl (cy 1, 20, .inl g_sortsf))] := hD
        refine lv_iconst (v := 3) hx hb dX9_readPlace_70 (by decide) ?_
        refine lv_icmp_ne (tgt := 87) hx hb dX9_readPlace_71 (by decide) (fun h_32 => ?_) (fun h_32 => ?_)
        · have h_32 : r_29.toInt ≠ 3 := c_ne h_32
          refine lv_iconst (v := 1) hx hb dX9_readPlace_87 (by decide) ?_
          exact eI hQ X hr hlocks hP hD hS (t_token1_15, t_start1_16, t_stop1_17, t_fault1_18, t_faultAt1_19, x_27) [0, 1, 2, 3] (by decide) rfl rfl (show (0 ≤ (1 : Int32).toInt ∧ (1 : Int32).toInt ≤ 1) ∧ (0 ≤ t_start1_16.toInt ∧ t_start1_16.toInt ≤ 800) ∧ (0 ≤ t_stop1_17.toInt ∧ t_stop1_17.toInt ≤ 800) ∧ (t_start1_16.toInt ≤ t_stop1_17.toInt ∧ t_stop1_17.toInt ≤ t_end.toInt) ∧ (((1 : Int32).toInt = 1 ∧ 0 ≤ x_27.toInt ∧ x_27.toInt ≤ 19) ∨ (1 : Int32).toInt = 0) ∧ (qP t_bytesf t_end.toInt g_wide.toInt g_deep.toInt g_count.toInt g_sortsf p2.toInt t_token.toInt t_start.toInt t_stop.toInt (1 : Int32).toInt x_27.toInt t_token1_15.toInt t_start1_16.toInt t_stop1_17.toInt t_fault1_18.toInt t_faultAt1_19.toInt) ∧ ((1 : Int32).toInt ≠ 0 → t_fault1_18.toInt = t_fault.toInt) from ⟨(by first | omega | decide | (refine ⟨by decide, ?_⟩; omega) | (have h9_0 : (1 : Int32).toInt = 1 := (by decide); omega)), k_22_1, k_22_2, k_22_3, (Or.inl ⟨by decide, by omega, by omega⟩), (qP_y (r3 := r_29.toInt) k_10_6 (by decide) (by omega) (by omega) k_22_6 (by decide) (by omega) (by omega) (by decide) (show x_27.toInt = g_wide.toInt * _ + _ by rw [Int.mul_comm]; omega) (Or.inr ⟨k_30, by omega⟩)), (by first | omega | decide | (refine ⟨by decide, ?_⟩; omega) | (have h9_0 : (1 : Int32).toInt = 1 := (by decide); omega))⟩) (Nat.le_of_ble_eq_true rfl) (Nat.le_of_ble_eq_true rfl) dX9_readPlace_88
        · have h_32 : r_29.toInt = 3 := c_eq h_32
          refine lv_aload_n hx hb dX9_readPlace_74 rfl (lv_at hl 2 rfl) ?_
          refine lv_iload hx hb dX9_readPlace_75 (lv_at hl 0 rfl) ?_
          refine r_put X kcX9 (ci := 8) rfl hP hD hS 0 rfl 4 (by decide) fX9_119 rfl rfl rfl (Nat.le_of_ble_eq_true rfl) dX9_readPlace_77 (fun H locs hP hD hS => ?_)
          have hP : va_P (dC, dI) vwCl [(h0, .inr (8, [.ref t_bytes, .int t_length, .int t_end, .int t_token1_15, .int t_start1_4, .int t_stop1_17, .int x_27, .int t_fault1_18, .int t_faultAt1_19])), (t_bytes, .inl (cy 0, 800, .inl t_bytesf)), (h1, .inr (4, [.int g_wide, .int g_deep, .int g_count, .ref g_sorts])), (g_sorts, .inl (cy 1, 20, .inl g_sortsf))] H := hP
          have hD : va_D A [(h0, .inr (8, [.ref t_bytes, .int t_length, .int t_end, .int t_token1_15, .int t_start1_4, .int t_stop1_17, .int x_27, .int t_fault1_18, .int t_faultAt1_19])), (t_bytes, .inl (cy 0, 800, .inl t_bytesf)), (h1, .inr (4, [.int g_wide, .int g_deep, .int g_count, .ref g_sorts])), (g_sorts, .inl (cy 1, 20, .inl g_sortsf))] := hD
          refine lv_aload_n hx hb dX9_readPlace_80 rfl (lv_at hl 2 rfl) ?_
          refine lv_bipush (v := 7) hx hb dX9_readPlace_81 (by decide) ?_
          refine fI (wr := [(t_bytes, .inl (cy 0, 800, .inl t_bytesf)), (h1, .inr (4, [.int g_wide, .int g_deep, .int g_count, .ref g_sorts])), (g_sorts, .inl (cy 1, 20, .inl g_sortsf))]) (rV_I (wc := [(h0, .inr (8, [.ref t_bytes, .int t_length, .int t_end, .int t_token1_15, .int t_start1_4, .int t_stop1_17, .int x_27, .int t_fault1_18, .int t_faultAt1_19]))]) (As := [.int 7]) (rest := []) X hp_st (fun _ _ _ h => h) (g9_wrong l dC dI cy h0 t_bytes t_length t_end t_token1_15 t_start1_4 t_stop1_17 x_27 t_fault1_18 t_faultAt1_19 7 ht_length ht_end k_10_1 k_22_2) kX9_wrong vX9_wrong mX9_62 hP hD hS hA [0] (by decide) rfl 0 (ci := 8) rfl rfl rfl hl rfl rfl (Nat.le_of_ble_eq_true rfl) dX9_readPlace_83 ⟨(Nat.le_of_ble_eq_true rfl), (Nat.le_of_ble_eq_true rfl)⟩ ⟨(Nat.le_of_ble_eq_true rfl), (Nat.le_of_ble_eq_true rfl)⟩) hP hD hS hA [0] [1, 2, 3] rfl rfl (by decide) (by decide) (fun r_35 u_37 H locs k_36 hP hD hS => ?_)
          obtain ⟨t_fault1_33, t_faultAt1_34⟩ := u_37
          have k_36 : (r_35 = 0) ∧ (t_fault1_33.toInt = (7 : Int32).toInt) ∧ (t_faultAt1_34.toInt = t_start1_4.toInt) := k_36
          have kc_38 : (7 : Int32).toInt = 7 := by decide
          obtain ⟨k_36_0, k_36_1, k_36_2⟩ := k_36
          have hP : va_P (dC, dI) vwCl [(t_bytes, .inl (cy 0, 800, .inl t_bytesf)), (h1, .inr (4, [.int g_wide, .int g_deep, .int g_count, .ref g_sorts])), (g_sorts, .inl (cy 1, 20, .inl g_sortsf)), (h0, .inr (8, [.ref t_bytes, .int t_length, .int t_end, .int t_token1_15, .int t_start1_4, .int t_stop1_17, .int x_27, .int t_fault1_33, .int t_faultAt1_34]))] H := hP
          have hD : va_D A [(t_bytes, .inl (cy 0, 800, .inl t_bytesf)), (h1, .inr (4, [.int g_wide, .int g_deep, .int g_count, .ref g_sorts])), (g_sorts, .inl (cy 1, 20, .inl g_sortsf)), (h0, .inr (8, [.ref t_bytes, .int t_length, .int t_end, .int t_token1_15, .int t_start1_4, .int t_stop1_17, .int x_27, .int t_fault1_33, .int t_faultAt1_34]))] := hD
          have er_35 : r_35 = 0 := k_36_0
          subst er_35
          exact eI hQ X hr hlocks hP hD hS (t_token1_15, t_start1_4, t_stop1_17, t_fault1_33, t_faultAt1_34, x_27) [3, 0, 1, 2] (by decide) rfl rfl (show (0 ≤ (0 : Int32).toInt ∧ (0 : Int32).toInt ≤ 1) ∧ (0 ≤ t_start1_4.toInt ∧ t_start1_4.toInt ≤ 800) ∧ (0 ≤ t_stop1_17.toInt ∧ t_stop1_17.toInt ≤ 800) ∧ (t_start1_4.toInt ≤ t_stop1_17.toInt ∧ t_stop1_17.toInt ≤ t_end.toInt) ∧ (((0 : Int32).toInt = 1 ∧ 0 ≤ x_27.toInt ∧ x_27.toInt ≤ 19) ∨ (0 : Int32).toInt = 0) ∧ (qP t_bytesf t_end.toInt g_wide.toInt g_deep.toInt g_count.toInt g_sortsf p2.toInt t_token.toInt t_start.toInt t_stop.toInt (0 : Int32).toInt x_27.toInt t_token1_15.toInt t_start1_4.toInt t_stop1_17.toInt t_fault1_33.toInt t_faultAt1_34.toInt) ∧ ((0 : Int32).toInt ≠ 0 → t_fault1_33.toInt = t_fault.toInt) from ⟨(by first | omega | decide | (refine ⟨by decide, ?_⟩; omega) | (have h9_0 : (0 : Int32).toInt = 0 := (by decide); omega)), k_10_1, k_22_2, (by omega), (Or.inr (by decide)), (qP_7 k_10_6 (by decide) (by omega) (by omega) k_22_6 (by decide) (by omega) (by omega) (by decide) (show x_27.toInt = g_wide.toInt * _ + _ by rw [Int.mul_comm]; omega) (by omega) k_30 (by omega) (by have kc : (7 : Int32).toInt = 7 := (by decide); omega) (by omega)), (by first | omega | decide | (refine ⟨by decide, ?_⟩; omega) | (have h9_0 : (0 : Int32).toInt = 0 := (by decide); omega))⟩) (Nat.le_of_ble_eq_true rfl) (Nat.le_of_ble_eq_true rfl) dX9_readPlace_86
    · have h_25 : r_21.toInt = 0 := c_eq h_25
      refine lv_iconst (v := 0) hx hb dX9_readPlace_41 (by decide) ?_
      exact eI hQ X hr hlocks hP hD hS (t_token1_15, t_start1_16, t_stop1_17, t_fault1_18, t_faultAt1_19, t_number1_20) [2, 3, 0, 1] (by decide) rfl rfl (show (0 ≤ (0 : Int32).toInt ∧ (0 : Int32).toInt ≤ 1) ∧ (0 ≤ t_start1_16.toInt ∧ t_start1_16.toInt ≤ 800) ∧ (0 ≤ t_stop1_17.toInt ∧ t_stop1_17.toInt ≤ 800) ∧ (t_start1_16.toInt ≤ t_stop1_17.toInt ∧ t_stop1_17.toInt ≤ t_end.toInt) ∧ (((0 : Int32).toInt = 1 ∧ 0 ≤ t_number1_20.toInt ∧ t_number1_20.toInt ≤ 19) ∨ (0 : Int32).toInt = 0) ∧ (qP t_bytesf t_end.toInt g_wide.toInt g_deep.toInt g_count.toInt g_sortsf p2.toInt t_token.toInt t_start.toInt t_stop.toInt (0 : Int32).toInt t_number1_20.toInt t_token1_15.toInt t_start1_16.toInt t_stop1_17.toInt t_fault1_18.toInt t_faultAt1_19.toInt) ∧ ((0 : Int32).toInt ≠ 0 → t_fault1_18.toInt = t_fault.toInt) from ⟨(by first | omega | decide | (refine ⟨by decide, ?_⟩; omega) | (have h9_0 : (0 : Int32).toInt = 0 := (by decide); omega)), k_22_1, k_22_2, k_22_3, (Or.inr (by decide)), (qP_2 k_10_6 (by decide) (by omega) (by omega) k_22_6 (by decide) (by omega) (by omega) (by decide)), (by first | omega | decide | (refine ⟨by decide, ?_⟩; omega) | (have h9_0 : (0 : Int32).toInt = 0 := (by decide); omega))⟩) (Nat.le_of_ble_eq_true rfl) (Nat.le_of_ble_eq_true rfl) dX9_readPlace_42
  · have h_13 : r_9.toInt = 0 := c_eq h_13
    refine lv_iconst (v := 0) hx hb dX9_readPlace_14 (by decide) ?_
    exact eI hQ X hr hlocks hP hD hS (t_token1_3, t_start1_4, t_stop1_5, t_fault1_6, t_faultAt1_7, t_number1_8) [2, 3, 0, 1] (by decide) rfl rfl (show (0 ≤ (0 : Int32).toInt ∧ (0 : Int32).toInt ≤ 1) ∧ (0 ≤ t_start1_4.toInt ∧ t_start1_4.toInt ≤ 800) ∧ (0 ≤ t_stop1_5.toInt ∧ t_stop1_5.toInt ≤ 800) ∧ (t_start1_4.toInt ≤ t_stop1_5.toInt ∧ t_stop1_5.toInt ≤ t_end.toInt) ∧ (((0 : Int32).toInt = 1 ∧ 0 ≤ t_number1_8.toInt ∧ t_number1_8.toInt ≤ 19) ∨ (0 : Int32).toInt = 0) ∧ (qP t_bytesf t_end.toInt g_wide.toInt g_deep.toInt g_count.toInt g_sortsf p2.toInt t_token.toInt t_start.toInt t_stop.toInt (0 : Int32).toInt t_number1_8.toInt t_token1_3.toInt t_start1_4.toInt t_stop1_5.toInt t_fault1_6.toInt t_faultAt1_7.toInt) ∧ ((0 : Int32).toInt ≠ 0 → t_fault1_6.toInt = t_fault.toInt) from ⟨(by first | omega | decide | (refine ⟨by decide, ?_⟩; omega) | (have h9_0 : (0 : Int32).toInt = 0 := (by decide); omega)), k_10_1, k_10_2, k_10_3, (Or.inr (by decide)), (qP_1 k_10_6 (by decide) (by omega) (by omega) (by decide)), (by first | omega | decide | (refine ⟨by decide, ?_⟩; omega) | (have h9_0 : (0 : Int32).toInt = 0 := (by decide); omega))⟩) (Nat.le_of_ble_eq_true rfl) (Nat.le_of_ble_eq_true rfl) dX9_readPlace_15
