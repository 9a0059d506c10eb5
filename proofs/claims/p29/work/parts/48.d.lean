set_option maxHeartbeats 4000000 in
set_option maxRecDepth 100000 in
theorem g9_runEnd (l : Launch) (dC : Nat → ClassId) (dI : Nat → Nat → Nat) (cy : Nat → ClassId) (h0 : Nat) (t_bytes : Nat) (t_length : Int32) (t_end : Int32) (t_token : Int32) (t_start : Int32) (t_stop : Int32) (t_number : Int32) (t_fault : Int32) (t_faultAt : Int32) (t_bytesf : Nat → Int32) (p1 : Int32) (p2 : Int32) (p3 : Int32) (ht_length : 0 ≤ t_length.toInt ∧ t_length.toInt ≤ 800) (ht_end : 0 ≤ t_end.toInt ∧ t_end.toInt ≤ 800) (hp1 : 0 ≤ p1.toInt ∧ p1.toInt ≤ 800) (hpe : p1.toInt ≤ t_end.toInt) : ctI l dC dI cy hp yX9_runEnd cX9_runEnd 5 .int ({ frames := 0, cells := 0, slots := 0, locals := 0 } : Room) [.ref h0, .int p1, .int p2, .int p3] [(h0, .inr (8, [.ref t_bytes, .int t_length, .int t_end, .int t_token, .int t_start, .int t_stop, .int t_number, .int t_fault, .int t_faultAt])), (t_bytes, .inl (cy 0, 800, .inl t_bytesf))] (S := Unit) (fun r _ => (0 ≤ r.toInt ∧ r.toInt ≤ 800) ∧ (p1.toInt ≤ r.toInt ∧ r.toInt ≤ t_end.toInt) ∧ (r.toInt = rn t_bytesf t_end.toInt p2.toInt p3.toInt p1.toInt)) (fun _ => [(h0, .inr (8, [.ref t_bytes, .int t_length, .int t_end, .int t_token, .int t_start, .int t_stop, .int t_number, .int t_fault, .int t_faultAt])), (t_bytes, .inl (cy 0, 800, .inl t_bytesf))]) := by
  refine ctI.of (by decide +kernel) (Nat.le_of_ble_eq_true rfl) ?_
  intro p e s m args below meth c A ls Q hQ X hr hlocks hin hA hP hD hS hl
  have hx := X.1
  have hb := X.2.1
  have hK := X.2.2.2.2.2.1
  have hl : lv_has ls 5 [(0, .ref h0), (1, .int p1), (2, .int p2), (3, .int p3)] := hl
  have dy_1 := ti_bd p2
  have dy_2 := ti_bd p3
  refine lv_iload_n hx hb dX9_runEnd_0 rfl (lv_at hl 1 rfl) ?_
  refine lv_istore (lv' := [(4, .int p1), (0, .ref h0), (1, .int p1), (2, .int p2), (3, .int p3)]) hx hb dX9_runEnd_1 hl (by decide) rfl (fun ls hl => ?_)
  have lp_3 : ∀ (nlp_3 : Nat) (i_4 : Int32) (H : Heap) (locs : List Loc) (ls : Array Slot), (0 ≤ i_4.toInt ∧ i_4.toInt ≤ 800) → (rn t_bytesf t_end.toInt p2.toInt p3.toInt p1.toInt = rn t_bytesf t_end.toInt p2.toInt p3.toInt i_4.toInt) → (p1.toInt ≤ i_4.toInt) → (i_4.toInt ≤ t_end.toInt) → (801 - i_4.toInt ≤ (nlp_3 : Int)) → va_P (dC, dI) vwCl [(h0, .inr (8, [.ref t_bytes, .int t_length, .int t_end, .int t_token, .int t_start, .int t_stop, .int t_number, .int t_fault, .int t_faultAt])), (t_bytes, .inl (cy 0, 800, .inl t_bytesf))] H → va_D A [(h0, .inr (8, [.ref t_bytes, .int t_length, .int t_end, .int t_token, .int t_start, .int t_stop, .int t_number, .int t_fault, .int t_faultAt])), (t_bytes, .inl (cy 0, 800, .inl t_bytesf))] → va_S A s.heap H locs → lv_has ls 5 [(4, .int i_4), (0, .ref h0), (1, .int p1), (2, .int p2), (3, .int p3)] → W p l e ({ frames := 0, cells := 0, slots := 0, locals := 0 } : Room) s m args below meth c H locs 0 0 Q (F0 m 3 ls []) := by
    intro nlp_3
    induction nlp_3 with
    | zero =>
      intro i_4 H locs ls b_5 b_6 b_7 b_8 hmlp_3 hP hD hS hl
      exfalso
      have di_4 := ti_bd i_4
      omega
    | succ nlp_3 ihlp_3 =>
      intro i_4 H locs ls b_5 b_6 b_7 b_8 hmlp_3 hP hD hS hl
      refine lv_iload hx hb dX9_runEnd_3 (lv_at hl 0 rfl) ?_
      refine lv_aload_n hx hb dX9_runEnd_5 rfl (lv_at hl 1 rfl) ?_
      refine r_get X kcX9 (ci := 8) rfl hP 0 rfl 2 (by decide) fX9_25 rfl dX9_runEnd_6 ?_
      refine lv_icmp_ge (tgt := 40) hx hb dX9_runEnd_9 (by decide) (fun h_9 => ?_) (fun h_9 => ?_)
      · have h_9 : t_end.toInt ≤ i_4.toInt := c_le h_9
        refine lv_iload hx hb dX9_runEnd_40 (lv_at hl 0 rfl) ?_
        exact eI hQ X hr hlocks hP hD hS () [0, 1] (by decide) rfl rfl (show (0 ≤ i_4.toInt ∧ i_4.toInt ≤ 800) ∧ (p1.toInt ≤ i_4.toInt ∧ i_4.toInt ≤ t_end.toInt) ∧ (i_4.toInt = rn t_bytesf t_end.toInt p2.toInt p3.toInt p1.toInt) from ⟨b_5, (by omega), (by rw [b_6]; exact (rn_no (by omega) (by omega) (fun h9 => by omega)).symm)⟩) (Nat.le_of_ble_eq_true rfl) (Nat.le_of_ble_eq_true rfl) dX9_runEnd_42
      · have h_9 : i_4.toInt < t_end.toInt := c_nle h_9
        refine lv_aload_n hx hb dX9_runEnd_12 rfl (lv_at hl 1 rfl) ?_
        refine r_get X kcX9 (ci := 8) rfl hP 0 rfl 0 (by decide) fX9_11 rfl dX9_runEnd_13 ?_
        refine lv_iload hx hb dX9_runEnd_16 (lv_at hl 0 rfl) ?_
        refine va_bald (D := (dC, dI)) (cl := vwCl) hx hb hK hP 1 0 rfl rfl (i := i_4) (vin (by omega) (by omega)) dX9_runEnd_18 ?_
        refine lv_topi (fun x_10 ex_10 => ?_)
        refine lv_iload_n hx hb dX9_runEnd_19 rfl (lv_at hl 3 rfl) ?_
        refine lv_icmp_lt (tgt := 40) hx hb dX9_runEnd_20 (by decide) (fun h_11 => ?_) (fun h_11 => ?_)
        · have h_11 : x_10.toInt < p2.toInt := c_lt h_11
          refine lv_iload hx hb dX9_runEnd_40 (lv_at hl 0 rfl) ?_
          exact eI hQ X hr hlocks hP hD hS () [0, 1] (by decide) rfl rfl (show (0 ≤ i_4.toInt ∧ i_4.toInt ≤ 800) ∧ (p1.toInt ≤ i_4.toInt ∧ i_4.toInt ≤ t_end.toInt) ∧ (i_4.toInt = rn t_bytesf t_end.toInt p2.toInt p3.toInt p1.toInt) from ⟨b_5, (by omega), (by rw [b_6]; exact (rn_no (by omega) (by omega) (fun h9 => by have qx_10 : (t_bytesf i_4.toInt.toNat).toInt = x_10.toInt := rd_at ex_10 rfl; omega)).symm)⟩) (Nat.le_of_ble_eq_true rfl) (Nat.le_of_ble_eq_true rfl) dX9_runEnd_42
        · have h_11 : p2.toInt ≤ x_10.toInt := c_nlt h_11
          refine lv_aload_n hx hb dX9_runEnd_23 rfl (lv_at hl 1 rfl) ?_
          refine r_get X kcX9 (ci := 8) rfl hP 0 rfl 0 (by decide) fX9_11 rfl dX9_runEnd_24 ?_
          refine lv_iload hx hb dX9_runEnd_27 (lv_at hl 0 rfl) ?_
          refine va_bald (D := (dC, dI)) (cl := vwCl) hx hb hK hP 1 0 rfl rfl (i := i_4) (vin (by omega) (by omega)) dX9_runEnd_29 ?_
          refine lv_topi (fun x_12 ex_12 => ?_)
          have qx_12 : x_10 = x_12 := ex_10.trans ex_12.symm
          subst qx_12
          refine lv_iload_n hx hb dX9_runEnd_30 rfl (lv_at hl 4 rfl) ?_
          refine lv_icmp_gt (tgt := 40) hx hb dX9_runEnd_31 (by decide) (fun h_13 => ?_) (fun h_13 => ?_)
          · have h_13 : p3.toInt < x_10.toInt := c_lt h_13
            refine lv_iload hx hb dX9_runEnd_40 (lv_at hl 0 rfl) ?_
            exact eI hQ X hr hlocks hP hD hS () [0, 1] (by decide) rfl rfl (show (0 ≤ i_4.toInt ∧ i_4.toInt ≤ 800) ∧ (p1.toInt ≤ i_4.toInt ∧ i_4.toInt ≤ t_end.toInt) ∧ (i_4.toInt = rn t_bytesf t_end.toInt p2.toInt p3.toInt p1.toInt) from ⟨b_5, (by omega), (by rw [b_6]; exact (rn_no (by omega) (by omega) (fun h9 => by have qx_10 : (t_bytesf i_4.toInt.toNat).toInt = x_10.toInt := rd_at ex_10 rfl; omega)).symm)⟩) (Nat.le_of_ble_eq_true rfl) (Nat.le_of_ble_eq_true rfl) dX9_runEnd_42
          · have h_13 : x_10.toInt ≤ p3.toInt := c_nlt h_13
            obtain ⟨x_14, ex_14⟩ : ∃ y : Int32, y = i_4 + 1 := ⟨_, rfl⟩
            have tx_14 : x_14.toInt = i_4.toInt + 1 := ti_add (A := i_4.toInt) (B := 1) ex_14 rfl rfl (by omega) (by omega)
            refine lv_iinc (v := x_14) (lv' := [(4, .int x_14), (0, .ref h0), (1, .int p1), (2, .int p2), (3, .int p3)]) hx hb dX9_runEnd_34 hl (k := 0) rfl (by rw [ex_14]; rfl) (by decide) rfl (fun ls hl => ?_)
            refine lv_goto (tgt := 3) hx hb dX9_runEnd_37 (by decide) ?_
            exact ihlp_3 x_14 _ _ _ (by omega) (show rn t_bytesf t_end.toInt p2.toInt p3.toInt p1.toInt = rn t_bytesf t_end.toInt p2.toInt p3.toInt x_14.toInt from (by rw [b_6]; exact rn_up (by omega) (by omega) (by omega) (by have qx_10 : (t_bytesf i_4.toInt.toNat).toInt = x_10.toInt := rd_at ex_10 rfl; omega) (by have qx_10 : (t_bytesf i_4.toInt.toNat).toInt = x_10.toInt := rd_at ex_10 rfl; omega) (by omega))) (show p1.toInt ≤ x_14.toInt by omega) (show x_14.toInt ≤ t_end.toInt by omega) (show 801 - x_14.toInt ≤ (nlp_3 : Int) by omega) hP hD hS (lv_sub hl [0, 1, 2, 3, 4] rfl)
  exact lp_3 801 p1 _ _ _ (by omega) (show rn t_bytesf t_end.toInt p2.toInt p3.toInt p1.toInt = rn t_bytesf t_end.toInt p2.toInt p3.toInt p1.toInt from rfl) (show p1.toInt ≤ p1.toInt by omega) (show p1.toInt ≤ t_end.toInt by omega) (show 801 - p1.toInt ≤ ((801 : Nat) : Int) by omega) hP hD hS hl
set_option maxHeartbeats 4000000 in
set_option maxRecDepth 100000 in
theorem g9_next (l : Launch) (dC : Nat → ClassId) (dI : Nat → Nat → Nat) (cy : Nat → ClassId) (h0 : Nat) (t_bytes : Nat) (t_length : Int32) (t_end : Int32) (t_token : Int32) (t_start : Int32) (t_stop : Int32) (t_number : Int32) (t_fault : Int32) (t_faultAt : Int32) (t_bytesf : Nat → Int32) (ht_length : 0 ≤ t_length.toInt ∧ t_length.toInt ≤ 800) (ht_end : 0 ≤ t_end.toInt ∧ t_end.toInt ≤ 800) (ht_stop : 0 ≤ t_stop.toInt ∧ t_stop.toInt ≤ 800) (hpe : t_stop.toInt ≤ t_end.toInt) : ctV l dC dI cy hp yX9_next cX9_next 3 ({ frames := 1, cells := 0, slots := 0, locals := 24 } : Room) [.ref h0] [(h0, .inr (8, [.ref t_bytes, .int t_length, .int t_end, .int t_token, .int t_start, .int t_stop, .int t_number, .int t_fault, .int t_faultAt])), (t_bytes, .inl (cy 0, 800, .inl t_bytesf))] (S := Int32 × Int32 × Int32) (fun u => (0 ≤ u.2.2.toInt ∧ u.2.2.toInt ≤ 800) ∧ (0 ≤ u.2.1.toInt ∧ u.2.1.toInt ≤ 800) ∧ (u.2.1.toInt ≤ u.2.2.toInt ∧ u.2.2.toInt ≤ t_end.toInt) ∧ (t_stop.toInt ≤ u.2.1.toInt) ∧ (LkC t_bytesf t_end.toInt t_stop.toInt u.1.toInt u.2.1.toInt u.2.2.toInt)) (fun u => [(h0, .inr (8, [.ref t_bytes, .int t_length, .int t_end, .int u.1, .int u.2.1, .int u.2.2, .int t_number, .int t_fault, .int t_faultAt])), (t_bytes, .inl (cy 0, 800, .inl t_bytesf))]) := by
  refine ctV.of (by decide +kernel) (Nat.le_of_ble_eq_true rfl) ?_
  intro p e s m args below meth c A ls Q hQ X hr hlocks hin hA hP hD hS hl
  have hx := X.1
  have hb := X.2.1
  have hK := X.2.2.2.2.2.1
  have hl : lv_has ls 3 [(0, .ref h0)] := hl
  refine lv_aload_n hx hb dX9_next_0 rfl (lv_at hl 0 rfl) ?_
  refine lv_aload_n hx hb dX9_next_1 rfl (lv_at hl 0 rfl) ?_
  refine lv_aload_n hx hb dX9_next_2 rfl (lv_at hl 0 rfl) ?_
  refine r_get X kcX9 (ci := 8) rfl hP 0 rfl 5 (by decide) fX9_28 rfl dX9_next_3 ?_
  refine lv_bipush (v := 32) hx hb dX9_next_6 (by decide) ?_
  refine lv_bipush (v := 32) hx hb dX9_next_8 (by decide) ?_
  refine sl_Ic (rV_I (As := [.int t_stop, .int 32, .int 32]) (rest := [.ref h0]) X hp_st (fun _ _ _ h => h) (g9_runEnd l dC dI cy h0 t_bytes t_length t_end t_token t_start t_stop t_number t_fault t_faultAt t_bytesf t_stop 32 32 ht_length ht_end ht_stop hpe) kX9_runEnd vX9_runEnd mX9_227 hP hD hS hA [0, 1] (by decide) rfl 0 (ci := 8) rfl rfl rfl hl rfl rfl (Nat.le_of_ble_eq_true rfl) dX9_next_10 ⟨(Nat.le_of_ble_eq_true rfl), (Nat.le_of_ble_eq_true rfl)⟩ ⟨(Nat.le_of_ble_eq_true rfl), (Nat.le_of_ble_eq_true rfl)⟩) hP hD hS hA [0, 1] [false, false] rfl rfl rfl (fun r_1 u_3 H locs k_2 hP hD hS => ?_)
  have k_2 : (0 ≤ r_1.toInt ∧ r_1.toInt ≤ 800) ∧ (t_stop.toInt ≤ r_1.toInt ∧ r_1.toInt ≤ t_end.toInt) ∧ (r_1.toInt = rn t_bytesf t_end.toInt (32 : Int32).toInt (32 : Int32).toInt t_stop.toInt) := k_2
  have kc_4 : (32 : Int32).toInt = 32 := by decide
  obtain ⟨k_2_0, k_2_1, k_2_2⟩ := k_2
  have hPD := vPD (ws' := [(h0, .inr (8, [.ref t_bytes, .int t_length, .int t_end, .int t_token, .int t_start, .int t_stop, .int t_number, .int t_fault, .int t_faultAt])), (t_bytes, .inl (cy 0, 800, .inl t_bytesf))]) hP hD rfl
  have hP := hPD.1
  have hD := hPD.2
  refine r_put X kcX9 (ci := 8) rfl hP hD hS 0 rfl 4 (by decide) fX9_119 rfl rfl rfl (Nat.le_of_ble_eq_true rfl) dX9_next_13 (fun H locs hP hD hS => ?_)
  have hPD := vPD (ws' := [(h0, .inr (8, [.ref t_bytes, .int t_length, .int t_end, .int t_token, .int r_1, .int t_stop, .int t_number, .int t_fault, .int t_faultAt])), (t_bytes, .inl (cy 0, 800, .inl t_bytesf))]) hP hD rfl
  have hP := hPD.1
  have hD := hPD.2
  refine lv_aload_n hx hb dX9_next_16 rfl (lv_at hl 0 rfl) ?_
  refine lv_aload_n hx hb dX9_next_17 rfl (lv_at hl 0 rfl) ?_
  refine r_get X kcX9 (ci := 8) rfl hP 0 rfl 4 (by decide) fX9_119 rfl dX9_next_18 ?_
  refine lv_bipush (v := 97) hx hb dX9_next_21 (by decide) ?_
  refine lv_bipush (v := 122) hx hb dX9_next_23 (by decide) ?_
  refine sl_Ic (rV_I (As := [.int r_1, .int 97, .int 122]) (rest := []) X hp_st (fun _ _ _ h => h) (g9_runEnd l dC dI cy h0 t_bytes t_length t_end t_token r_1 t_stop t_number t_fault t_faultAt t_bytesf r_1 97 122 ht_length ht_end k_2_0 (by omega)) kX9_runEnd vX9_runEnd mX9_227 hP hD hS hA [0, 1] (by decide) rfl 0 (ci := 8) rfl rfl rfl hl rfl rfl (Nat.le_of_ble_eq_true rfl) dX9_next_25 ⟨(Nat.le_of_ble_eq_true rfl), (Nat.le_of_ble_eq_true rfl)⟩ ⟨(Nat.le_of_ble_eq_true rfl), (Nat.le_of_ble_eq_true rfl)⟩) hP hD hS hA [0, 1] [false, false] rfl rfl rfl (fun r_5 u_7 H locs k_6 hP hD hS => ?_)
  have k_6 : (0 ≤ r_5.toInt ∧ r_5.toInt ≤ 800) ∧ (r_1.toInt ≤ r_5.toInt ∧ r_5.toInt ≤ t_end.toInt) ∧ (r_5.toInt = rn t_bytesf t_end.toInt (97 : Int32).toInt (122 : Int32).toInt r_1.toInt) := k_6
  have kc_8 : (122 : Int32).toInt = 122 := by decide
  have kc_9 : (97 : Int32).toInt = 97 := by decide
  obtain ⟨k_6_0, k_6_1, k_6_2⟩ := k_6
  have hPD := vPD (ws' := [(h0, .inr (8, [.ref t_bytes, .int t_length, .int t_end, .int t_token, .int r_1, .int t_stop, .int t_number, .int t_fault, .int t_faultAt])), (t_bytes, .inl (cy 0, 800, .inl t_bytesf))]) hP hD rfl
  have hP := hPD.1
  have hD := hPD.2
  refine lv_aload_n hx hb dX9_next_28 rfl (lv_at hl 0 rfl) ?_
  refine r_get X kcX9 (ci := 8) rfl hP 0 rfl 4 (by decide) fX9_119 rfl dX9_next_29 ?_
  refine lv_isub hx hb dX9_next_32 ?_
  refine lv_topi (fun x_10 ex_10 => ?_)
  have tx_10 : x_10.toInt = r_5.toInt - r_1.toInt := ti_sub (A := r_5.toInt) (B := r_1.toInt) ex_10 rfl rfl (by omega) (by omega)
  refine lv_istore_n (lv' := [(1, .int x_10), (0, .ref h0)]) hx hb dX9_next_33 rfl hl (by decide) rfl (fun ls hl => ?_)
  refine lv_aload_n hx hb dX9_next_34 rfl (lv_at hl 1 rfl) ?_
  refine lv_aload_n hx hb dX9_next_35 rfl (lv_at hl 1 rfl) ?_
  refine r_get X kcX9 (ci := 8) rfl hP 0 rfl 4 (by decide) fX9_119 rfl dX9_next_36 ?_
  refine lv_bipush (v := 48) hx hb dX9_next_39 (by decide) ?_
  refine lv_bipush (v := 57) hx hb dX9_next_41 (by decide) ?_
  refine sl_Ic (rV_I (As := [.int r_1, .int 48, .int 57]) (rest := []) X hp_st (fun _ _ _ h => h) (g9_runEnd l dC dI cy h0 t_bytes t_length t_end t_token r_1 t_stop t_number t_fault t_faultAt t_bytesf r_1 48 57 ht_length ht_end k_2_0 (by omega)) kX9_runEnd vX9_runEnd mX9_227 hP hD hS hA [0, 1] (by decide) rfl 0 (ci := 8) rfl rfl rfl hl rfl rfl (Nat.le_of_ble_eq_true rfl) dX9_next_43 ⟨(Nat.le_of_ble_eq_true rfl), (Nat.le_of_ble_eq_true rfl)⟩ ⟨(Nat.le_of_ble_eq_true rfl), (Nat.le_of_ble_eq_true rfl)⟩) hP hD hS hA [0, 1] [false, false] rfl rfl rfl (fun r_11 u_13 H locs k_12 hP hD hS => ?_)
  have k_12 : (0 ≤ r_11.toInt ∧ r_11.toInt ≤ 800) ∧ (r_1.toInt ≤ r_11.toInt ∧ r_11.toInt ≤ t_end.toInt) ∧ (r_11.toInt = rn t_bytesf t_end.toInt (48 : Int32).toInt (57 : Int32).toInt r_1.toInt) := k_12
  have kc_14 : (48 : Int32).toInt = 48 := by decide
  have kc_15 : (57 : Int32).toInt = 57 := by decide
  obtain ⟨k_12_0, k_12_1, k_12_2⟩ := k_12
  have hPD := vPD (ws' := [(h0, .inr (8, [.ref t_bytes, .int t_length, .int t_end, .int t_token, .int r_1, .int t_stop, .int t_number, .int t_fault, .int t_faultAt])), (t_bytes, .inl (cy 0, 800, .inl t_bytesf))]) hP hD rfl
  have hP := hPD.1
  have hD := hPD.2
  refine lv_aload_n hx hb dX9_next_46 rfl (lv_at hl 1 rfl) ?_
  refine r_get X kcX9 (ci := 8) rfl hP 0 rfl 4 (by decide) fX9_119 rfl dX9_next_47 ?_
  refine lv_isub hx hb dX9_next_50 ?_
  refine lv_topi (fun x_16 ex_16 => ?_)
  have tx_16 : x_16.toInt = r_11.toInt - r_1.toInt := ti_sub (A := r_11.toInt) (B := r_1.toInt) ex_16 rfl rfl (by omega) (by omega)
  refine lv_istore_n (lv' := [(2, .int x_16), (1, .int x_10), (0, .ref h0)]) hx hb dX9_next_51 rfl hl (by decide) rfl (fun ls hl => ?_)
  refine lv_aload_n hx hb dX9_next_52 rfl (lv_at hl 2 rfl) ?_
  refine lv_aload_n hx hb dX9_next_53 rfl (lv_at hl 2 rfl) ?_
  refine r_get X kcX9 (ci := 8) rfl hP 0 rfl 4 (by decide) fX9_119 rfl dX9_next_54 ?_
  refine lv_iload_n hx hb dX9_next_57 rfl (lv_at hl 1 rfl) ?_
  refine lv_iload_n hx hb dX9_next_58 rfl (lv_at hl 0 rfl) ?_
  refine va_mmax hx hb (X.2.2.1.trans hl.1.symm) X.2.2.2.1 (X.2.2.2.2.1 _ w_545) (X.2.2.2.2.1 _ w_546) (X.2.2.2.2.1 _ w_113) (X.2.2.2.2.1 _ w_547) (Nat.le_of_ble_eq_true rfl) (Nat.le_of_ble_eq_true rfl) (Nat.le_of_ble_eq_true rfl) (Nat.le_of_ble_eq_true rfl) dX9_next_59 ?_
  refine lv_topi (fun x_17 ex_17 => ?_)
  have tx_17 := ti_max ex_17
  refine lv_iadd hx hb dX9_next_62 ?_
  refine lv_topi (fun x_18 ex_18 => ?_)
  have tx_18 : x_18.toInt = r_1.toInt + x_17.toInt := ti_add (A := r_1.toInt) (B := x_17.toInt) ex_18 rfl rfl (by omega) (by omega)
  refine r_put X kcX9 (ci := 8) rfl hP hD hS 0 rfl 5 (by decide) fX9_28 rfl rfl rfl (Nat.le_of_ble_eq_true rfl) dX9_next_63 (fun H locs hP hD hS => ?_)
  have hPD := vPD (ws' := [(h0, .inr (8, [.ref t_bytes, .int t_length, .int t_end, .int t_token, .int r_1, .int x_18, .int t_number, .int t_fault, .int t_faultAt])), (t_bytes, .inl (cy 0, 800, .inl t_bytesf))]) hP hD rfl
  have hP := hPD.1
  have hD := hPD.2
  refine lv_aload_n hx hb dX9_next_66 rfl (lv_at hl 2 rfl) ?_
  refine r_get X kcX9 (ci := 8) rfl hP 0 rfl 4 (by decide) fX9_119 rfl dX9_next_67 ?_
  refine lv_aload_n hx hb dX9_next_70 rfl (lv_at hl 2 rfl) ?_
  refine r_get X kcX9 (ci := 8) rfl hP 0 rfl 2 (by decide) fX9_25 rfl dX9_next_71 ?_
  refine lv_icmp_lt (tgt := 85) hx hb dX9_next_74 (by decide) (fun h_19 => ?_) (fun h_19 => ?_)
  · have h_19 : r_1.toInt < t_end.toInt := c_lt h_19
    refine lv_iload_n hx hb dX9_next_85 rfl (lv_at hl 1 rfl) ?_
    refine lv_if_le (tgt := 107) hx hb dX9_next_86 (by decide) (fun h_20 => ?_) (fun h_20 => ?_)
    · have h_20 : x_10.toInt ≤ 0 := c_le h_20
      refine lv_iload_n hx hb dX9_next_107 rfl (lv_at hl 0 rfl) ?_
      refine lv_if_le (tgt := 128) hx hb dX9_next_108 (by decide) (fun h_21 => ?_) (fun h_21 => ?_)
      · have h_21 : x_16.toInt ≤ 0 := c_le h_21
        refine lv_aload_n hx hb dX9_next_128 rfl (lv_at hl 2 rfl) ?_
        refine lv_aload_n hx hb dX9_next_129 rfl (lv_at hl 2 rfl) ?_
        refine r_get X kcX9 (ci := 8) rfl hP 0 rfl 0 (by decide) fX9_11 rfl dX9_next_130 ?_
        refine lv_aload_n hx hb dX9_next_133 rfl (lv_at hl 2 rfl) ?_
        refine r_get X kcX9 (ci := 8) rfl hP 0 rfl 4 (by decide) fX9_119 rfl dX9_next_134 ?_
        refine va_bald (D := (dC, dI)) (cl := vwCl) hx hb hK hP 1 0 rfl rfl (i := r_1) (vin (by omega) (by omega)) dX9_next_137 ?_
        refine lv_topi (fun x_22 ex_22 => ?_)
        refine lv_bipush (v := 59) hx hb dX9_next_138 (by decide) ?_
        refine lv_icmp_ne (tgt := 147) hx hb dX9_next_140 (by decide) (fun h_23 => ?_) (fun h_23 => ?_)
        · have h_23 : x_22.toInt ≠ 59 := c_ne h_23
          refine lv_iconst (v := 0) hx hb dX9_next_147 (by decide) ?_
          refine r_put X kcX9 (ci := 8) rfl hP hD hS 0 rfl 3 (by decide) fX9_66 rfl rfl rfl (Nat.le_of_ble_eq_true rfl) dX9_next_148 (fun H locs hP hD hS => ?_)
          have hPD := vPD (ws' := [(h0, .inr (8, [.ref t_bytes, .int t_length, .int t_end, .int 0, .int r_1, .int x_18, .int t_number, .int t_fault, .int t_faultAt])), (t_bytes, .inl (cy 0, 800, .inl t_bytesf))]) hP hD rfl
          have hP := hPD.1
          have hD := hPD.2
          refine lv_aload_n hx hb dX9_next_151 rfl (lv_at hl 2 rfl) ?_
          refine lv_aload_n hx hb dX9_next_152 rfl (lv_at hl 2 rfl) ?_
          refine r_get X kcX9 (ci := 8) rfl hP 0 rfl 4 (by decide) fX9_119 rfl dX9_next_153 ?_
          refine lv_iconst (v := 1) hx hb dX9_next_156 (by decide) ?_
          refine lv_iadd hx hb dX9_next_157 ?_
          refine lv_topi (fun x_24 ex_24 => ?_)
          have tx_24 : x_24.toInt = r_1.toInt + 1 := ti_add (A := r_1.toInt) (B := 1) ex_24 rfl rfl (by omega) (by omega)
          refine r_put X kcX9 (ci := 8) rfl hP hD hS 0 rfl 5 (by decide) fX9_28 rfl rfl rfl (Nat.le_of_ble_eq_true rfl) dX9_next_158 (fun H locs hP hD hS => ?_)
          have hPD := vPD (ws' := [(h0, .inr (8, [.ref t_bytes, .int t_length, .int t_end, .int 0, .int r_1, .int x_24, .int t_number, .int t_fault, .int t_faultAt])), (t_bytes, .inl (cy 0, 800, .inl t_bytesf))]) hP hD rfl
          have hP := hPD.1
          have hD := hPD.2
          exact eV hQ X hr hlocks hP hD hS ((0 : Int32), r_1, x_24) [0, 1] (by decide) rfl (show (0 ≤ x_24.toInt ∧ x_24.toInt ≤ 800) ∧ (0 ≤ r_1.toInt ∧ r_1.toInt ≤ 800) ∧ (r_1.toInt ≤ x_24.toInt ∧ x_24.toInt ≤ t_end.toInt) ∧ (t_stop.toInt ≤ r_1.toInt) ∧ (LkC t_bytesf t_end.toInt t_stop.toInt (0 : Int32).toInt r_1.toInt x_24.toInt) from ⟨(by omega), k_2_0, (by omega), (by omega), (nx (a := r_5.toInt) (d := r_11.toInt) (mx := x_17.toInt) (by omega) (by omega) (rn_c k_2_2 (by decide) (by decide)) (rn_c k_6_2 (by decide) (by decide)) (rn_c k_12_2 (by decide) (by decide)) (by omega) (by have qx_22 : (t_bytesf r_1.toInt.toNat).toInt = x_22.toInt := rd_at ex_22 rfl; have kc0 : (0 : Int32).toInt = 0 := (by decide); omega))⟩) (Nat.le_of_ble_eq_true rfl) (Nat.le_of_ble_eq_true rfl) dX9_next_161
        · have h_23 : x_22.toInt = 59 := c_eq h_23
          refine lv_iconst (v := 3) hx hb dX9_next_143 (by decide) ?_
          refine lv_goto (tgt := 148) hx hb dX9_next_144 (by decide) ?_
          refine r_put X kcX9 (ci := 8) rfl hP hD hS 0 rfl 3 (by decide) fX9_66 rfl rfl rfl (Nat.le_of_ble_eq_true rfl) dX9_next_148 (fun H locs hP hD hS => ?_)
          have hPD := vPD (ws' := [(h0, .inr (8, [.ref t_bytes, .int t_length, .int t_end, .int 3, .int r_1, .int x_18, .int t_number, .int t_fault, .int t_faultAt])), (t_bytes, .inl (cy 0, 800, .inl t_bytesf))]) hP hD rfl
          have hP := hPD.1
          have hD := hPD.2
          refine lv_aload_n hx hb dX9_next_151 rfl (lv_at hl 2 rfl) ?_
          refine lv_aload_n hx hb dX9_next_152 rfl (lv_at hl 2 rfl) ?_
          refine r_get X kcX9 (ci := 8) rfl hP 0 rfl 4 (by decide) fX9_119 rfl dX9_next_153 ?_
          refine lv_iconst (v := 1) hx hb dX9_next_156 (by decide) ?_
          refine lv_iadd hx hb dX9_next_157 ?_
          refine lv_topi (fun x_25 ex_25 => ?_)
          have tx_25 : x_25.toInt = r_1.toInt + 1 := ti_add (A := r_1.toInt) (B := 1) ex_25 rfl rfl (by omega) (by omega)
          refine r_put X kcX9 (ci := 8) rfl hP hD hS 0 rfl 5 (by decide) fX9_28 rfl rfl rfl (Nat.le_of_ble_eq_true rfl) dX9_next_158 (fun H locs hP hD hS => ?_)
          have hPD := vPD (ws' := [(h0, .inr (8, [.ref t_bytes, .int t_length, .int t_end, .int 3, .int r_1, .int x_25, .int t_number, .int t_fault, .int t_faultAt])), (t_bytes, .inl (cy 0, 800, .inl t_bytesf))]) hP hD rfl
          have hP := hPD.1
          have hD := hPD.2
          exact eV hQ X hr hlocks hP hD hS ((3 : Int32), r_1, x_25) [0, 1] (by decide) rfl (show (0 ≤ x_25.toInt ∧ x_25.toInt ≤ 800) ∧ (0 ≤ r_1.toInt ∧ r_1.toInt ≤ 800) ∧ (r_1.toInt ≤ x_25.toInt ∧ x_25.toInt ≤ t_end.toInt) ∧ (t_stop.toInt ≤ r_1.toInt) ∧ (LkC t_bytesf t_end.toInt t_stop.toInt (3 : Int32).toInt r_1.toInt x_25.toInt) from ⟨(by omega), k_2_0, (by omega), (by omega), (nx (a := r_5.toInt) (d := r_11.toInt) (mx := x_17.toInt) (by omega) (by omega) (rn_c k_2_2 (by decide) (by decide)) (rn_c k_6_2 (by decide) (by decide)) (rn_c k_12_2 (by decide) (by decide)) (by omega) (by have qx_22 : (t_bytesf r_1.toInt.toNat).toInt = x_22.toInt := rd_at ex_22 rfl; have kc0 : (3 : Int32).toInt = 3 := (by decide); omega))⟩) (Nat.le_of_ble_eq_true rfl) (Nat.le_of_ble_eq_true rfl) dX9_next_161
      · have h_21 : 0 < x_16.toInt := c_nle h_21
        refine lv_aload_n hx hb dX9_next_111 rfl (lv_at hl 2 rfl) ?_
        refine lv_iload_n hx hb dX9_next_112 rfl (lv_at hl 0 rfl) ?_
        refine lv_iconst (v := 3) hx hb dX9_next_113 (by decide) ?_
        refine lv_icmp_gt (tgt := 121) hx hb dX9_next_114 (by decide) (fun h_26 => ?_) (fun h_26 => ?_)
        · have h_26 : 3 < x_16.toInt := c_lt h_26
          refine lv_iconst (v := 0) hx hb dX9_next_121 (by decide) ?_
          refine r_put X kcX9 (ci := 8) rfl hP hD hS 0 rfl 3 (by decide) fX9_66 rfl rfl rfl (Nat.le_of_ble_eq_true rfl) dX9_next_122 (fun H locs hP hD hS => ?_)
          have hPD := vPD (ws' := [(h0, .inr (8, [.ref t_bytes, .int t_length, .int t_end, .int 0, .int r_1, .int x_18, .int t_number, .int t_fault, .int t_faultAt])), (t_bytes, .inl (cy 0, 800, .inl t_bytesf))]) hP hD rfl
          have hP := hPD.1
          have hD := hPD.2
          refine lv_goto (tgt := 161) hx hb dX9_next_125 (by decide) ?_
          exact eV hQ X hr hlocks hP hD hS ((0 : Int32), r_1, x_18) [0, 1] (by decide) rfl (show (0 ≤ x_18.toInt ∧ x_18.toInt ≤ 800) ∧ (0 ≤ r_1.toInt ∧ r_1.toInt ≤ 800) ∧ (r_1.toInt ≤ x_18.toInt ∧ x_18.toInt ≤ t_end.toInt) ∧ (t_stop.toInt ≤ r_1.toInt) ∧ (LkC t_bytesf t_end.toInt t_stop.toInt (0 : Int32).toInt r_1.toInt x_18.toInt) from ⟨(by omega), k_2_0, (by omega), (by omega), (nx (a := r_5.toInt) (d := r_11.toInt) (mx := x_17.toInt) (by omega) (by omega) (rn_c k_2_2 (by decide) (by decide)) (rn_c k_6_2 (by decide) (by decide)) (rn_c k_12_2 (by decide) (by decide)) (by omega) (by have kc0 : (0 : Int32).toInt = 0 := (by decide); omega))⟩) (Nat.le_of_ble_eq_true rfl) (Nat.le_of_ble_eq_true rfl) dX9_next_161
        · have h_26 : x_16.toInt ≤ 3 := c_nlt h_26
          refine lv_iconst (v := 2) hx hb dX9_next_117 (by decide) ?_
          refine lv_goto (tgt := 122) hx hb dX9_next_118 (by decide) ?_
          refine r_put X kcX9 (ci := 8) rfl hP hD hS 0 rfl 3 (by decide) fX9_66 rfl rfl rfl (Nat.le_of_ble_eq_true rfl) dX9_next_122 (fun H locs hP hD hS => ?_)
          have hPD := vPD (ws' := [(h0, .inr (8, [.ref t_bytes, .int t_length, .int t_end, .int 2, .int r_1, .int x_18, .int t_number, .int t_fault, .int t_faultAt])), (t_bytes, .inl (cy 0, 800, .inl t_bytesf))]) hP hD rfl
          have hP := hPD.1
          have hD := hPD.2
          refine lv_goto (tgt := 161) hx hb dX9_next_125 (by decide) ?_
          exact eV hQ X hr hlocks hP hD hS ((2 : Int32), r_1, x_18) [0, 1] (by decide) rfl (show (0 ≤ x_18.toInt ∧ x_18.toInt ≤ 800) ∧ (0 ≤ r_1.toInt ∧ r_1.toInt ≤ 800) ∧ (r_1.toInt ≤ x_18.toInt ∧ x_18.toInt ≤ t_end.toInt) ∧ (t_stop.toInt ≤ r_1.toInt) ∧ (LkC t_bytesf t_end.toInt t_stop.toInt (2 : Int32).toInt r_1.toInt x_18.toInt) from ⟨(by omega), k_2_0, (by omega), (by omega), (nx (a := r_5.toInt) (d := r_11.toInt) (mx := x_17.toInt) (by omega) (by omega) (rn_c k_2_2 (by decide) (by decide)) (rn_c k_6_2 (by decide) (by decide)) (rn_c k_12_2 (by decide) (by decide)) (by omega) (by have kc0 : (2 : Int32).toInt = 2 := (by decide); omega))⟩) (Nat.le_of_ble_eq_true rfl) (Nat.le_of_ble_eq_true rfl) dX9_next_161
    · have h_20 : 0 < x_10.toInt := c_nle h_20
      refine lv_aload_n hx hb dX9_next_89 rfl (lv_at hl 2 rfl) ?_
      refine lv_iload_n hx hb dX9_next_90 rfl (lv_at hl 1 rfl) ?_
      refine lv_bipush (v := 8) hx hb dX9_next_91 (by decide) ?_
      refine lv_icmp_gt (tgt := 100) hx hb dX9_next_93 (by decide) (fun h_27 => ?_) (fun h_27 => ?_)
      · have h_27 : 8 < x_10.toInt := c_lt h_27
        refine lv_iconst (v := 0) hx hb dX9_next_100 (by decide) ?_
        refine r_put X kcX9 (ci := 8) rfl hP hD hS 0 rfl 3 (by decide) fX9_66 rfl rfl rfl (Nat.le_of_ble_eq_true rfl) dX9_next_101 (fun H locs hP hD hS => ?_)
        have hPD := vPD (ws' := [(h0, .inr (8, [.ref t_bytes, .int t_length, .int t_end, .int 0, .int r_1, .int x_18, .int t_number, .int t_fault, .int t_faultAt])), (t_bytes, .inl (cy 0, 800, .inl t_bytesf))]) hP hD rfl
        have hP := hPD.1
        have hD := hPD.2
        refine lv_goto (tgt := 161) hx hb dX9_next_104 (by decide) ?_
        exact eV hQ X hr hlocks hP hD hS ((0 : Int32), r_1, x_18) [0, 1] (by decide) rfl (show (0 ≤ x_18.toInt ∧ x_18.toInt ≤ 800) ∧ (0 ≤ r_1.toInt ∧ r_1.toInt ≤ 800) ∧ (r_1.toInt ≤ x_18.toInt ∧ x_18.toInt ≤ t_end.toInt) ∧ (t_stop.toInt ≤ r_1.toInt) ∧ (LkC t_bytesf t_end.toInt t_stop.toInt (0 : Int32).toInt r_1.toInt x_18.toInt) from ⟨(by omega), k_2_0, (by omega), (by omega), (nx (a := r_5.toInt) (d := r_11.toInt) (mx := x_17.toInt) (by omega) (by omega) (rn_c k_2_2 (by decide) (by decide)) (rn_c k_6_2 (by decide) (by decide)) (rn_c k_12_2 (by decide) (by decide)) (by omega) (by have kc0 : (0 : Int32).toInt = 0 := (by decide); omega))⟩) (Nat.le_of_ble_eq_true rfl) (Nat.le_of_ble_eq_true rfl) dX9_next_161
      · have h_27 : x_10.toInt ≤ 8 := c_nlt h_27
        refine lv_iconst (v := 1) hx hb dX9_next_96 (by decide) ?_
        refine lv_goto (tgt := 101) hx hb dX9_next_97 (by decide) ?_
        refine r_put X kcX9 (ci := 8) rfl hP hD hS 0 rfl 3 (by decide) fX9_66 rfl rfl rfl (Nat.le_of_ble_eq_true rfl) dX9_next_101 (fun H locs hP hD hS => ?_)
        have hPD := vPD (ws' := [(h0, .inr (8, [.ref t_bytes, .int t_length, .int t_end, .int 1, .int r_1, .int x_18, .int t_number, .int t_fault, .int t_faultAt])), (t_bytes, .inl (cy 0, 800, .inl t_bytesf))]) hP hD rfl
        have hP := hPD.1
        have hD := hPD.2
        refine lv_goto (tgt := 161) hx hb dX9_next_104 (by decide) ?_
        exact eV hQ X hr hlocks hP hD hS ((1 : Int32), r_1, x_18) [0, 1] (by decide) rfl (show (0 ≤ x_18.toInt ∧ x_18.toInt ≤ 800) ∧ (0 ≤ r_1.toInt ∧ r_1.toInt ≤ 800) ∧ (r_1.toInt ≤ x_18.toInt ∧ x_18.toInt ≤ t_end.toInt) ∧ (t_stop.toInt ≤ r_1.toInt) ∧ (LkC t_bytesf t_end.toInt t_stop.toInt (1 : Int32).toInt r_1.toInt x_18.toInt) from ⟨(by omega), k_2_0, (by omega), (by omega), (nx (a := r_5.toInt) (d := r_11.toInt) (mx := x_17.toInt) (by omega) (by omega) (rn_c k_2_2 (by decide) (by decide)) (rn_c k_6_2 (by decide) (by decide)) (rn_c k_12_2 (by decide) (by decide)) (by omega) (by have kc0 : (1 : Int32).toInt = 1 := (by decide); omega))⟩) (Nat.le_of_ble_eq_true rfl) (Nat.le_of_ble_eq_true rfl) dX9_next_161
  · have h_19 : t_end.toInt ≤ r_1.toInt := c_nlt h_19
    refine lv_aload_n hx hb dX9_next_77 rfl (lv_at hl 2 rfl) ?_
    refine lv_iconst (v := 4) hx hb dX9_next_78 (by decide) ?_
    refine r_put X kcX9 (ci := 8) rfl hP hD hS 0 rfl 3 (by decide) fX9_66 rfl rfl rfl (Nat.le_of_ble_eq_true rfl) dX9_next_79 (fun H locs hP hD hS => ?_)
    have hPD := vPD (ws' := [(h0, .inr (8, [.ref t_bytes, .int t_length, .int t_end, .int 4, .int r_1, .int x_18, .int t_number, .int t_fault, .int t_faultAt])), (t_bytes, .inl (cy 0, 800, .inl t_bytesf))]) hP hD rfl
    have hP := hPD.1
    have hD := hPD.2
    refine lv_goto (tgt := 161) hx hb dX9_next_82 (by decide) ?_
    exact eV hQ X hr hlocks hP hD hS ((4 : Int32), r_1, x_18) [0, 1] (by decide) rfl (show (0 ≤ x_18.toInt ∧ x_18.toInt ≤ 800) ∧ (0 ≤ r_1.toInt ∧ r_1.toInt ≤ 800) ∧ (r_1.toInt ≤ x_18.toInt ∧ x_18.toInt ≤ t_end.toInt) ∧ (t_stop.toInt ≤ r_1.toInt) ∧ (LkC t_bytesf t_end.toInt t_stop.toInt (4 : Int32).toInt r_1.toInt x_18.toInt) from ⟨(by omega), k_2_0, (by omega), (by omega), (nx (a := r_5.toInt) (d := r_11.toInt) (mx := x_17.toInt) (by omega) (by omega) (rn_c k_2_2 (by decide) (by decide)) (rn_c k_6_2 (by decide) (by decide)) (rn_c k_12_2 (by decide) (by decide)) (by omega) (by have kc0 : (4 : Int32).toInt = 4 := (by decide); omega))⟩) (Nat.le_of_ble_eq_true rfl) (Nat.le_of_ble_eq_true rfl) dX9_next_161
set_option maxHeartbeats 4000000 in
set_option maxRecDepth 100000 in
theorem g9_wrong (l : Launch) (dC : Nat → ClassId) (dI : Nat → Nat → Nat) (cy : Nat → ClassId) (h0 : Nat) (t_bytes : Nat) (t_length : Int32) (t_end : Int32) (t_token : Int32) (t_start : Int32) (t_stop : Int32) (t_number : Int32) (t_fault : Int32) (t_faultAt : Int32) (p1 : Int32) (ht_length : 0 ≤ t_length.toInt ∧ t_length.toInt ≤ 800) (ht_end : 0 ≤ t_end.toInt ∧ t_end.toInt ≤ 800) (ht_start : 0 ≤ t_start.toInt ∧ t_start.toInt ≤ 800) (ht_stop : 0 ≤ t_stop.toInt ∧ t_stop.toInt ≤ 800) : ctI l dC dI cy hp yX9_wrong cX9_wrong 2 .boolean ({ frames := 0, cells := 0, slots := 0, locals := 0 } : Room) [.ref h0, .int p1] [(h0, .inr (8, [.ref t_bytes, .int t_length, .int t_end, .int t_token, .int t_start, .int t_stop, .int t_number, .int t_fault, .int t_faultAt]))] (S := Int32 × Int32) (fun r u => (r = 0) ∧ (u.1.toInt = p1.toInt) ∧ (u.2.toInt = t_start.toInt)) (fun u => [(h0, .inr (8, [.ref t_bytes, .int t_length, .int t_end, .int t_token, .int t_start, .int t_stop, .int t_number, .int u.1, .int u.2]))]) := by
  refine ctI.of (by decide +kernel) (Nat.le_of_ble_eq_true rfl) ?_
  intro p e s m args below meth c A ls Q hQ X hr hlocks hin hA hP hD hS hl
  have hx := X.1
  have hb := X.2.1
  have hK := X.2.2.2.2.2.1
  have hl : lv_has ls 2 [(0, .ref h0), (1, .int p1)] := hl
  have dy_1 := ti_bd p1
  refine lv_aload_n hx hb dX9_wrong_0 rfl (lv_at hl 0 rfl) ?_
  refine lv_iload_n hx hb dX9_wrong_1 rfl (lv_at hl 1 rfl) ?_
  refine r_put X kcX9 (ci := 8) rfl hP hD hS 0 rfl 7 (by decide) fX9_31 rfl rfl rfl (Nat.le_of_ble_eq_true rfl) dX9_wrong_2 (fun H locs hP hD hS => ?_)
  have hPD := vPD (ws' := [(h0, .inr (8, [.ref t_bytes, .int t_length, .int t_end, .int t_token, .int t_start, .int t_stop, .int t_number, .int p1, .int t_faultAt]))]) hP hD rfl
  have hP := hPD.1
  have hD := hPD.2
  refine lv_aload_n hx hb dX9_wrong_5 rfl (lv_at hl 0 rfl) ?_
  refine lv_aload_n hx hb dX9_wrong_6 rfl (lv_at hl 0 rfl) ?_
  refine r_get X kcX9 (ci := 8) rfl hP 0 rfl 4 (by decide) fX9_119 rfl dX9_wrong_7 ?_
  refine r_put X kcX9 (ci := 8) rfl hP hD hS 0 rfl 8 (by decide) fX9_34 rfl rfl rfl (Nat.le_of_ble_eq_true rfl) dX9_wrong_10 (fun H locs hP hD hS => ?_)
  have hPD := vPD (ws' := [(h0, .inr (8, [.ref t_bytes, .int t_length, .int t_end, .int t_token, .int t_start, .int t_stop, .int t_number, .int p1, .int t_start]))]) hP hD rfl
  have hP := hPD.1
  have hD := hPD.2
  refine lv_iconst (v := 0) hx hb dX9_wrong_13 (by decide) ?_
  exact eI hQ X hr hlocks hP hD hS (p1, t_start) [0] (by decide) rfl rfl (show ((0 : Int32) = 0) ∧ (p1.toInt = p1.toInt) ∧ (t_start.toInt = t_start.toInt) from ⟨rfl, (by omega), (by omega)⟩) (Nat.le_of_ble_eq_true rfl) (Nat.le_of_ble_eq_true rfl) dX9_wrong_14
set_option maxHeartbeats 4000000 in
set_option maxRecDepth 100000 in
theorem g9_isWord (l : Launch) (dC : Nat → ClassId) (dI : Nat → Nat → Nat) (cy : Nat → ClassId) (h0 : Nat) (t_bytes : Nat) (t_length : Int32) (t_end : Int32) (t_token : Int32) (t_start : Int32) (t_stop : Int32) (t_number : Int32) (t_fault : Int32) (t_faultAt : Int32) (t_bytesf : Nat → Int32) (sa : Nat) (sv : Nat) (sn : Nat) (sf : Nat → Int32) (ht_length : 0 ≤ t_length.toInt ∧ t_length.toInt ≤ 800) (ht_end : 0 ≤ t_end.toInt ∧ t_end.toInt ≤ 800) (ht_start : 0 ≤ t_start.toInt ∧ t_start.toInt ≤ 800) (ht_stop : 0 ≤ t_stop.toInt ∧ t_stop.toInt ≤ 800) (hrel : t_start.toInt ≤ t_stop.toInt ∧ t_stop.toInt ≤ t_end.toInt) (hsn : sn < 1000) : ctI l dC dI cy (andX hp (sO sa sv sn sf)) yX9_isWord cX9_isWord 3 .boolean ({ frames := 4, cells := 0, slots := 0, locals := 85 } : Room) [.ref h0, .ref sa] [(h0, .inr (8, [.ref t_bytes, .int t_length, .int t_end, .int t_token, .int t_start, .int t_stop, .int t_number, .int t_fault, .int t_faultAt])), (t_bytes, .inl (cy 0, 800, .inl t_bytesf))] (S := Unit) (fun r _ => (0 ≤ r.toInt ∧ r.toInt ≤ 1) ∧ (wdP t_bytesf t_token.toInt t_start.toInt t_stop.toInt sn sf r.toInt)) (fun _ => [(h0, .inr (8, [.ref t_bytes, .int t_length, .int t_end, .int t_token, .int t_start, .int t_stop, .int t_number, .int t_fault, .int t_faultAt])), (t_bytes, .inl (cy 0, 800, .inl t_bytesf))]) := by
  refine ctI.of (by decide +kernel) (Nat.le_of_ble_eq_true rfl) ?_
  intro p e s m args below meth c A ls Q hQ X hr hlocks hin hA hP hD hS hl
  have hx := X.1
  have hb := X.2.1
  have hK := X.2.2.2.2.2.1
  have hl : lv_has ls 3 [(0, .ref h0), (1, .ref sa)] := hl
  refine lv_aload_n hx hb dX9_isWord_0 rfl (lv_at hl 0 rfl) ?_
  refine r_get X kcX9 (ci := 8) rfl hP 0 rfl 3 (by decide) fX9_66 rfl dX9_isWord_1 ?_
  refine lv_iconst (v := 1) hx hb dX9_isWord_4 (by decide) ?_
  refine lv_icmp_ne (tgt := 24) hx hb dX9_isWord_5 (by decide) (fun h_1 => ?_) (fun h_1 => ?_)
  · have h_1 : t_token.toInt ≠ 1 := c_ne h_1
    refine lv_iconst (v := 0) hx hb dX9_isWord_24 (by decide) ?_
    exact eI hQ X hr hlocks hP hD hS () [0, 1] (by decide) rfl rfl (show (0 ≤ (0 : Int32).toInt ∧ (0 : Int32).toInt ≤ 1) ∧ (wdP t_bytesf t_token.toInt t_start.toInt t_stop.toInt sn sf (0 : Int32).toInt) from ⟨(by first | decide | (have h9_0 : (0 : Int32).toInt = 0 := (by decide); omega) | (refine ⟨by decide, ?_⟩; omega) | omega), (fun ha => Or.inr ⟨by decide, fun h9 => by have h8 := h9.1; have h7 := h9.2.1; omega⟩)⟩) (Nat.le_of_ble_eq_true rfl) (Nat.le_of_ble_eq_true rfl) dX9_isWord_25
  · have h_1 : t_token.toInt = 1 := c_eq h_1
    refine lv_aload_n hx hb dX9_isWord_8 rfl (lv_at hl 0 rfl) ?_
    refine r_get X kcX9 (ci := 8) rfl hP 0 rfl 5 (by decide) fX9_28 rfl dX9_isWord_9 ?_
    refine lv_aload_n hx hb dX9_isWord_12 rfl (lv_at hl 0 rfl) ?_
    refine r_get X kcX9 (ci := 8) rfl hP 0 rfl 4 (by decide) fX9_119 rfl dX9_isWord_13 ?_
    refine lv_isub hx hb dX9_isWord_16 ?_
    refine lv_topi (fun x_2 ex_2 => ?_)
    have tx_2 : x_2.toInt = t_stop.toInt - t_start.toInt := ti_sub (A := t_stop.toInt) (B := t_start.toInt) ex_2 rfl rfl (by omega) (by omega)
    refine lv_aload_n hx hb dX9_isWord_17 rfl (lv_at hl 1 rfl) ?_
    refine sl_Ic (rVo_I (wc := []) (As := []) (rest := [.int x_2]) X (andX_st hp_st (sO_st sa sv sn sf)) X.2.2.2.2.2.2.2 (sJ0_length l dC dI cy sa _ _ _ hsn) kJ0_length_8abf5 vJ0_length_8abf5 mX9_219 hP hD hS hA [] rfl rfl X.2.2.2.2.2.2.2.2.1 hl rfl rfl (Nat.le_of_ble_eq_true rfl) dX9_isWord_18 ⟨(Nat.le_of_ble_eq_true rfl), (Nat.le_of_ble_eq_true rfl)⟩ ⟨(Nat.le_of_ble_eq_true rfl), (Nat.le_of_ble_eq_true rfl)⟩) hP hD hS hA [] [true, true] rfl rfl rfl (fun r_3 u_5 H locs k_4 hP hD hS => ?_)
    have k_4 : (0 ≤ r_3.toInt ∧ r_3.toInt ≤ 1000) ∧ (r_3.toInt = (sn : Int)) := k_4
    obtain ⟨k_4_0, k_4_1⟩ := k_4
    have hPD := vPD (ws' := [(h0, .inr (8, [.ref t_bytes, .int t_length, .int t_end, .int t_token, .int t_start, .int t_stop, .int t_number, .int t_fault, .int t_faultAt])), (t_bytes, .inl (cy 0, 800, .inl t_bytesf))]) hP hD rfl
    have hP := hPD.1
    have hD := hPD.2
    refine lv_icmp_eq (tgt := 26) hx hb dX9_isWord_21 (by decide) (fun h_6 => ?_) (fun h_6 => ?_)
    · have h_6 : x_2.toInt = r_3.toInt := c_eq h_6
      refine lv_iconst (v := 0) hx hb dX9_isWord_26 (by decide) ?_
      refine lv_istore_n (lv' := [(2, .int 0), (0, .ref h0), (1, .ref sa)]) hx hb dX9_isWord_27 rfl hl (by decide) rfl (fun ls hl => ?_)
      have lp_7 : ∀ (nlp_7 : Nat) (i_8 : Int32) (H : Heap) (locs : List Loc) (ls : Array Slot), (0 ≤ i_8.toInt ∧ i_8.toInt ≤ 1000) → (asc sn sf → wpre t_bytesf t_start.toInt sf i_8.toInt) → (i_8.toInt ≤ (sn : Int)) → (1001 - i_8.toInt ≤ (nlp_7 : Int)) → va_P (dC, dI) vwCl [(h0, .inr (8, [.ref t_bytes, .int t_length, .int t_end, .int t_token, .int t_start, .int t_stop, .int t_number, .int t_fault, .int t_faultAt])), (t_bytes, .inl (cy 0, 800, .inl t_bytesf))] H → va_D A [(h0, .inr (8, [.ref t_bytes, .int t_length, .int t_end, .int t_token, .int t_start, .int t_stop, .int t_number, .int t_fault, .int t_faultAt])), (t_bytes, .inl (cy 0, 800, .inl t_bytesf))] → va_S A s.heap H locs → lv_has ls 3 [(2, .int i_8), (0, .ref h0), (1, .ref sa)] → W p l e ({ frames := 4, cells := 0, slots := 0, locals := 85 } : Room) s m args below meth c H locs 0 0 Q (F0 m 28 ls []) := by
        intro nlp_7
        induction nlp_7 with
        | zero =>
          intro i_8 H locs ls b_9 b_10 b_11 hmlp_7 hP hD hS hl
          exfalso
          have di_8 := ti_bd i_8
          omega
        | succ nlp_7 ihlp_7 =>
          intro i_8 H locs ls b_9 b_10 b_11 hmlp_7 hP hD hS hl
          refine lv_iload_n hx hb dX9_isWord_28 rfl (lv_at hl 0 rfl) ?_
          refine lv_aload_n hx hb dX9_isWord_29 rfl (lv_at hl 2 rfl) ?_
          refine sl_Ic (rVo_I (wc := []) (As := []) (rest := [.int i_8]) X (andX_st hp_st (sO_st sa sv sn sf)) X.2.2.2.2.2.2.2 (sJ0_length l dC dI cy sa _ _ _ hsn) kJ0_length_8abf5 vJ0_length_8abf5 mX9_219 hP hD hS hA [] rfl rfl X.2.2.2.2.2.2.2.2.1 hl rfl rfl (Nat.le_of_ble_eq_true rfl) dX9_isWord_30 ⟨(Nat.le_of_ble_eq_true rfl), (Nat.le_of_ble_eq_true rfl)⟩ ⟨(Nat.le_of_ble_eq_true rfl), (Nat.le_of_ble_eq_true rfl)⟩) hP hD hS hA [] [true, true] rfl rfl rfl (fun r_12 u_14 H locs k_13 hP hD hS => ?_)
          have k_13 : (0 ≤ r_12.toInt ∧ r_12.toInt ≤ 1000) ∧ (r_12.toInt = (sn : Int)) := k_13
          obtain ⟨k_13_0, k_13_1⟩ := k_13
          have hPD := vPD (ws' := [(h0, .inr (8, [.ref t_bytes, .int t_length, .int t_end, .int t_token, .int t_start, .int t_stop, .int t_number, .int t_fault, .int t_faultAt])), (t_bytes, .inl (cy 0, 800, .inl t_bytesf))]) hP hD rfl
          have hP := hPD.1
          have hD := hPD.2
          refine lv_icmp_ge (tgt := 63) hx hb dX9_isWord_33 (by decide) (fun h_15 => ?_) (fun h_15 => ?_)
          · have h_15 : r_12.toInt ≤ i_8.toInt := c_le h_15
            refine lv_iconst (v := 1) hx hb dX9_isWord_63 (by decide) ?_
            exact eI hQ X hr hlocks hP hD hS () [0, 1] (by decide) rfl rfl (show (0 ≤ (1 : Int32).toInt ∧ (1 : Int32).toInt ≤ 1) ∧ (wdP t_bytesf t_token.toInt t_start.toInt t_stop.toInt sn sf (1 : Int32).toInt) from ⟨(by first | decide | (have h9_0 : (1 : Int32).toInt = 1 := (by decide); omega) | (refine ⟨by decide, ?_⟩; omega) | omega), (fun ha => Or.inl ⟨by decide, by omega, by omega, fun k hk => b_10 ha k (by omega)⟩)⟩) (Nat.le_of_ble_eq_true rfl) (Nat.le_of_ble_eq_true rfl) dX9_isWord_64
          · have h_15 : i_8.toInt < r_12.toInt := c_nle h_15
            refine lv_aload_n hx hb dX9_isWord_36 rfl (lv_at hl 1 rfl) ?_
            refine r_get X kcX9 (ci := 8) rfl hP 0 rfl 0 (by decide) fX9_11 rfl dX9_isWord_37 ?_
            refine lv_aload_n hx hb dX9_isWord_40 rfl (lv_at hl 1 rfl) ?_
            refine r_get X kcX9 (ci := 8) rfl hP 0 rfl 4 (by decide) fX9_119 rfl dX9_isWord_41 ?_
            refine lv_iload_n hx hb dX9_isWord_44 rfl (lv_at hl 0 rfl) ?_
            refine lv_iadd hx hb dX9_isWord_45 ?_
            refine lv_topi (fun x_16 ex_16 => ?_)
            have tx_16 : x_16.toInt = t_start.toInt + i_8.toInt := ti_add (A := t_start.toInt) (B := i_8.toInt) ex_16 rfl rfl (by omega) (by omega)
            refine va_bald (D := (dC, dI)) (cl := vwCl) hx hb hK hP 1 0 rfl rfl (i := x_16) (vin (by omega) (by omega)) dX9_isWord_46 ?_
            refine lv_topi (fun x_17 ex_17 => ?_)
            refine lv_aload_n hx hb dX9_isWord_47 rfl (lv_at hl 2 rfl) ?_
            refine lv_iload_n hx hb dX9_isWord_48 rfl (lv_at hl 0 rfl) ?_
            refine sl_Ic (rVo_I (wc := []) (As := [.int i_8]) (rest := [.int x_17]) X (andX_st hp_st (sO_st sa sv sn sf)) X.2.2.2.2.2.2.2 (gJ0_charAt l dC dI cy sa _ _ _ i_8 hsn (by first | decide | omega)) kJ0_charAt_5068e vJ0_charAt_5068e mX9_221 hP hD hS hA [] rfl rfl X.2.2.2.2.2.2.2.2.1 hl rfl rfl (Nat.le_of_ble_eq_true rfl) dX9_isWord_49 ⟨(Nat.le_of_ble_eq_true rfl), (Nat.le_of_ble_eq_true rfl)⟩ ⟨(Nat.le_of_ble_eq_true rfl), (Nat.le_of_ble_eq_true rfl)⟩) hP hD hS hA [] [true, true] rfl rfl rfl (fun r_18 u_20 H locs k_19 hP hD hS => ?_)
            have k_19 : (ch1 sf i_8.toInt r_18.toInt) := k_19
            have hPD := vPD (ws' := [(h0, .inr (8, [.ref t_bytes, .int t_length, .int t_end, .int t_token, .int t_start, .int t_stop, .int t_number, .int t_fault, .int t_faultAt])), (t_bytes, .inl (cy 0, 800, .inl t_bytesf))]) hP hD rfl
            have hP := hPD.1
            have hD := hPD.2
            refine lv_icmp_eq (tgt := 57) hx hb dX9_isWord_52 (by decide) (fun h_21 => ?_) (fun h_21 => ?_)
            · have h_21 : x_17.toInt = r_18.toInt := c_eq h_21
              obtain ⟨x_22, ex_22⟩ : ∃ y : Int32, y = i_8 + 1 := ⟨_, rfl⟩
              have tx_22 : x_22.toInt = i_8.toInt + 1 := ti_add (A := i_8.toInt) (B := 1) ex_22 rfl rfl (by omega) (by omega)
              refine lv_iinc (v := x_22) (lv' := [(2, .int x_22), (0, .ref h0), (1, .ref sa)]) hx hb dX9_isWord_57 hl (k := 0) rfl (by rw [ex_22]; rfl) (by decide) rfl (fun ls hl => ?_)
              refine lv_goto (tgt := 28) hx hb dX9_isWord_60 (by decide) ?_
              exact ihlp_7 x_22 _ _ _ (by omega) (show asc sn sf → wpre t_bytesf t_start.toInt sf x_22.toInt from (fun ha => wpre_up (i := i_8) (a := x_16) (x := x_17) (r := r_18) (b_10 ha) ha (by omega) (by omega) (by omega) (by omega) ex_17 k_19 (by omega) (by omega))) (show x_22.toInt ≤ (sn : Int) by omega) (show 1001 - x_22.toInt ≤ (nlp_7 : Int) by omega) hP hD hS (lv_sub hl [0, 1, 2] rfl)
            · have h_21 : x_17.toInt ≠ r_18.toInt := c_ne h_21
              refine lv_iconst (v := 0) hx hb dX9_isWord_55 (by decide) ?_
              exact eI hQ X hr hlocks hP hD hS () [0, 1] (by decide) rfl rfl (show (0 ≤ (0 : Int32).toInt ∧ (0 : Int32).toInt ≤ 1) ∧ (wdP t_bytesf t_token.toInt t_start.toInt t_stop.toInt sn sf (0 : Int32).toInt) from ⟨(by first | decide | (have h9_0 : (0 : Int32).toInt = 0 := (by decide); omega) | (refine ⟨by decide, ?_⟩; omega) | omega), (fun ha => Or.inr ⟨by decide, wd_mis ha (i := i_8) (a := x_16) (x := x_17) (r := r_18) (by omega) (by omega) (by omega) (by omega) ex_17 k_19 (by omega)⟩)⟩) (Nat.le_of_ble_eq_true rfl) (Nat.le_of_ble_eq_true rfl) dX9_isWord_56
      exact lp_7 1001 0 _ _ _ (by decide) (show asc sn sf → wpre t_bytesf t_start.toInt sf 0 from (fun _ => wpre_0)) (show 0 ≤ (sn : Int) by omega) (show 1001 - 0 ≤ ((1001 : Nat) : Int) by omega) hP hD hS hl
    · have h_6 : x_2.toInt ≠ r_3.toInt := c_ne h_6
      refine lv_iconst (v := 0) hx hb dX9_isWord_24 (by decide) ?_
      exact eI hQ X hr hlocks hP hD hS () [0, 1] (by decide) rfl rfl (show (0 ≤ (0 : Int32).toInt ∧ (0 : Int32).toInt ≤ 1) ∧ (wdP t_bytesf t_token.toInt t_start.toInt t_stop.toInt sn sf (0 : Int32).toInt) from ⟨(by first | decide | (have h9_0 : (0 : Int32).toInt = 0 := (by decide); omega) | (refine ⟨by decide, ?_⟩; omega) | omega), (fun ha => Or.inr ⟨by decide, fun h9 => by have h8 := h9.1; have h7 := h9.2.1; omega⟩)⟩) (Nat.le_of_ble_eq_true rfl) (Nat.le_of_ble_eq_true rfl) dX9_isWord_25
set_option maxHeartbeats 4000000 in
set_option maxRecDepth 100000 in
theorem g9_readWord (l : Launch) (dC : Nat → ClassId) (dI : Nat → Nat → Nat) (cy : Nat → ClassId) (h0 : Nat) (t_bytes : Nat) (t_length : Int32) (t_end : Int32) (t_token : Int32) (t_start : Int32) (t_stop : Int32) (t_number : Int32) (t_fault : Int32) (t_faultAt : Int32) (t_bytesf : Nat → Int32) (sa : Nat) (sv : Nat) (sn : Nat) (sf : Nat → Int32) (ht_length : 0 ≤ t_length.toInt ∧ t_length.toInt ≤ 800) (ht_end : 0 ≤ t_end.toInt ∧ t_end.toInt ≤ 800) (ht_start : 0 ≤ t_start.toInt ∧ t_start.toInt ≤ 800) (ht_stop : 0 ≤ t_stop.toInt ∧ t_stop.toInt ≤ 800) (hrel : t_start.toInt ≤ t_stop.toInt ∧ t_stop.toInt ≤ t_end.toInt) (hsn : sn < 1000) : ctI l dC dI cy (andX hp (sO sa sv sn sf)) yX9_readWord cX9_readWord 2 .boolean ({ frames := 5, cells := 0, slots := 0, locals := 107 } : Room) [.ref h0, .ref sa] [(h0, .inr (8, [.ref t_bytes, .int t_length, .int t_end, .int t_token, .int t_start, .int t_stop, .int t_number, .int t_fault, .int t_faultAt])), (t_bytes, .inl (cy 0, 800, .inl t_bytesf))] (S := Int32 × Int32 × Int32 × Int32 × Int32) (fun r u => (0 ≤ r.toInt ∧ r.toInt ≤ 1) ∧ (0 ≤ u.2.1.toInt ∧ u.2.1.toInt ≤ 800) ∧ (0 ≤ u.2.2.1.toInt ∧ u.2.2.1.toInt ≤ 800) ∧ (u.2.1.toInt ≤ u.2.2.1.toInt ∧ u.2.2.1.toInt ≤ t_end.toInt) ∧ (qW t_bytesf t_end.toInt sn sf t_token.toInt t_start.toInt t_stop.toInt r.toInt u.1.toInt u.2.1.toInt u.2.2.1.toInt u.2.2.2.1.toInt u.2.2.2.2.toInt) ∧ (r.toInt ≠ 0 → u.2.2.2.1.toInt = t_fault.toInt)) (fun u => [(h0, .inr (8, [.ref t_bytes, .int t_length, .int t_end, .int u.1, .int u.2.1, .int u.2.2.1, .int t_number, .int u.2.2.2.1, .int u.2.2.2.2])), (t_bytes, .inl (cy 0, 800, .inl t_bytesf))]) := by
  refine ctI.of (by decide +kernel) (Nat.le_of_ble_eq_true rfl) ?_
  intro p e s m args below meth c A ls Q hQ X hr hlocks hin hA hP hD hS hl
  have hx := X.1
  have hb := X.2.1
  have hK := X.2.2.2.2.2.1
  have hl : lv_has ls 2 [(0, .ref h0), (1, .ref sa)] := hl
  refine lv_aload_n hx hb dX9_readWord_0 rfl (lv_at hl 0 rfl) ?_
  refine lv_aload_n hx hb dX9_readWord_1 rfl (lv_at hl 1 rfl) ?_
  refine sl_Ic (rV_I (As := [.ref sa]) (rest := []) X (andX_st hp_st (sO_st sa sv sn sf)) (fun _ _ _ h => h) (g9_isWord l dC dI cy h0 t_bytes t_length t_end t_token t_start t_stop t_number t_fault t_faultAt t_bytesf sa _ _ _ ht_length ht_end ht_start ht_stop hrel hsn) kX9_isWord vX9_isWord mX9_183 hP hD hS hA [0, 1] (by decide) rfl 0 (ci := 8) rfl rfl rfl hl rfl rfl (Nat.le_of_ble_eq_true rfl) dX9_readWord_2 ⟨(Nat.le_of_ble_eq_true rfl), (Nat.le_of_ble_eq_true rfl)⟩ ⟨(Nat.le_of_ble_eq_true rfl), (Nat.le_of_ble_eq_true rfl)⟩) hP hD hS hA [0, 1] [false, false] rfl rfl rfl (fun r_1 u_3 H locs k_2 hP hD hS => ?_)
  have k_2 : (0 ≤ r_1.toInt ∧ r_1.toInt ≤ 1) ∧ (wdP t_bytesf t_token.toInt t_start.toInt t_stop.toInt sn sf r_1.toInt) := k_2
  obtain ⟨k_2_0, k_2_1⟩ := k_2
  have hPD := vPD (ws' := [(h0, .inr (8, [.ref t_bytes, .int t_length, .int t_end, .int t_token, .int t_start, .int t_stop, .int t_number, .int t_fault, .int t_faultAt])), (t_bytes, .inl (cy 0, 800, .inl t_bytesf))]) hP hD rfl
  have hP := hPD.1
  have hD := hPD.2
  refine lv_if_ne (tgt := 14) hx hb dX9_readWord_5 (by decide) (fun h_4 => ?_) (fun h_4 => ?_)
  · have h_4 : r_1.toInt ≠ 0 := c_ne h_4
    refine lv_aload_n hx hb dX9_readWord_14 rfl (lv_at hl 0 rfl) ?_
    refine sl_Vc (rV_V (As := []) (rest := []) X hp_st (fun _ _ _ h => h.1) (g9_next l dC dI cy h0 t_bytes t_length t_end t_token t_start t_stop t_number t_fault t_faultAt t_bytesf ht_length ht_end ht_stop (by omega)) kX9_next vX9_next mX9_42 hP hD hS hA [0, 1] (by decide) rfl 0 (ci := 8) rfl rfl rfl hl rfl rfl (Nat.le_of_ble_eq_true rfl) dX9_readWord_15 ⟨(Nat.le_of_ble_eq_true rfl), (Nat.le_of_ble_eq_true rfl)⟩ ⟨(Nat.le_of_ble_eq_true rfl), (Nat.le_of_ble_eq_true rfl)⟩) hP hD hS hA [0, 1] [false, false] rfl rfl rfl (fun u_10 H locs k_9 hP hD hS => ?_)
    obtain ⟨t_token1_5, t_start1_6, t_stop1_7⟩ := u_10
    have k_9 : (0 ≤ t_stop1_7.toInt ∧ t_stop1_7.toInt ≤ 800) ∧ (0 ≤ t_start1_6.toInt ∧ t_start1_6.toInt ≤ 800) ∧ (t_start1_6.toInt ≤ t_stop1_7.toInt ∧ t_stop1_7.toInt ≤ t_end.toInt) ∧ (t_stop.toInt ≤ t_start1_6.toInt) ∧ (LkC t_bytesf t_end.toInt t_stop.toInt t_token1_5.toInt t_start1_6.toInt t_stop1_7.toInt) := k_9
    obtain ⟨k_9_0, k_9_1, k_9_2, k_9_3, k_9_4⟩ := k_9
    have hPD := vPD (ws' := [(h0, .inr (8, [.ref t_bytes, .int t_length, .int t_end, .int t_token1_5, .int t_start1_6, .int t_stop1_7, .int t_number, .int t_fault, .int t_faultAt])), (t_bytes, .inl (cy 0, 800, .inl t_bytesf))]) hP hD rfl
    have hP := hPD.1
    have hD := hPD.2
    refine lv_iconst (v := 1) hx hb dX9_readWord_18 (by decide) ?_
    exact eI hQ X hr hlocks hP hD hS (t_token1_5, t_start1_6, t_stop1_7, t_fault, t_faultAt) [0, 1] (by decide) rfl rfl (show (0 ≤ (1 : Int32).toInt ∧ (1 : Int32).toInt ≤ 1) ∧ (0 ≤ t_start1_6.toInt ∧ t_start1_6.toInt ≤ 800) ∧ (0 ≤ t_stop1_7.toInt ∧ t_stop1_7.toInt ≤ 800) ∧ (t_start1_6.toInt ≤ t_stop1_7.toInt ∧ t_stop1_7.toInt ≤ t_end.toInt) ∧ (qW t_bytesf t_end.toInt sn sf t_token.toInt t_start.toInt t_stop.toInt (1 : Int32).toInt t_token1_5.toInt t_start1_6.toInt t_stop1_7.toInt t_fault.toInt t_faultAt.toInt) ∧ ((1 : Int32).toInt ≠ 0 → t_fault.toInt = t_fault.toInt) from ⟨(by first | decide | (have h9_0 : (1 : Int32).toInt = 1 := (by decide); omega) | (refine ⟨by decide, ?_⟩; omega) | omega), k_9_1, k_9_0, k_9_2, (qW_y k_2_1 (by omega) (by decide) k_9_4), (by first | decide | (have h9_0 : (1 : Int32).toInt = 1 := (by decide); omega) | (refine ⟨by decide, ?_⟩; omega) | omega)⟩) (Nat.le_of_ble_eq_true rfl) (Nat.le_of_ble_eq_true rfl) dX9_readWord_19
  · have h_4 : r_1.toInt = 0 := c_eq h_4
    refine lv_aload_n hx hb dX9_readWord_8 rfl (lv_at hl 0 rfl) ?_
    refine lv_iconst (v := 1) hx hb dX9_readWord_9 (by decide) ?_
    refine sl_Ic (rV_I (As := [.int 1]) (rest := []) X hp_st (fun _ _ _ h => h.1) (g9_wrong l dC dI cy h0 t_bytes t_length t_end t_token t_start t_stop t_number t_fault t_faultAt 1 ht_length ht_end ht_start ht_stop) kX9_wrong vX9_wrong mX9_62 hP hD hS hA [0] (by decide) rfl 0 (ci := 8) rfl rfl rfl hl rfl rfl (Nat.le_of_ble_eq_true rfl) dX9_readWord_10 ⟨(Nat.le_of_ble_eq_true rfl), (Nat.le_of_ble_eq_true rfl)⟩ ⟨(Nat.le_of_ble_eq_true rfl), (Nat.le_of_ble_eq_true rfl)⟩) hP hD hS hA [0] [false, true] rfl rfl rfl (fun r_13 u_15 H locs k_14 hP hD hS => ?_)
    obtain ⟨t_fault1_11, t_faultAt1_12⟩ := u_15
    have k_14 : (r_13 = 0) ∧ (t_fault1_11.toInt = (1 : Int32).toInt) ∧ (t_faultAt1_12.toInt = t_start.toInt) := k_14
    have kc_16 : (1 : Int32).toInt = 1 := by decide
    obtain ⟨k_14_0, k_14_1, k_14_2⟩ := k_14
    have hPD := vPD (ws' := [(t_bytes, .inl (cy 0, 800, .inl t_bytesf)), (h0, .inr (8, [.ref t_bytes, .int t_length, .int t_end, .int t_token, .int t_start, .int t_stop, .int t_number, .int t_fault1_11, .int t_faultAt1_12]))]) hP hD rfl
    have hP := hPD.1
    have hD := hPD.2
    have er_13 : r_13 = 0 := k_14_0
    subst er_13
    exact eI hQ X hr hlocks hP hD hS (t_token, t_start, t_stop, t_fault1_11, t_faultAt1_12) [1, 0] (by decide) rfl rfl (show (0 ≤ (0 : Int32).toInt ∧ (0 : Int32).toInt ≤ 1) ∧ (0 ≤ t_start.toInt ∧ t_start.toInt ≤ 800) ∧ (0 ≤ t_stop.toInt ∧ t_stop.toInt ≤ 800) ∧ (t_start.toInt ≤ t_stop.toInt ∧ t_stop.toInt ≤ t_end.toInt) ∧ (qW t_bytesf t_end.toInt sn sf t_token.toInt t_start.toInt t_stop.toInt (0 : Int32).toInt t_token.toInt t_start.toInt t_stop.toInt t_fault1_11.toInt t_faultAt1_12.toInt) ∧ ((0 : Int32).toInt ≠ 0 → t_fault1_11.toInt = t_fault.toInt) from ⟨(by first | decide | (have h9_0 : (0 : Int32).toInt = 0 := (by decide); omega) | (refine ⟨by decide, ?_⟩; omega) | omega), ht_start, ht_stop, hrel, (qW_n k_2_1 (by omega) (by decide) (by have kc : (1 : Int32).toInt = 1 := (by decide); omega) (by omega)), (by first | decide | (have h9_0 : (0 : Int32).toInt = 0 := (by decide); omega) | (refine ⟨by decide, ?_⟩; omega) | omega)⟩) (Nat.le_of_ble_eq_true rfl) (Nat.le_of_ble_eq_true rfl) dX9_readWord_13
set_option maxHeartbeats 4000000 in
set_option maxRecDepth 100000 in
theorem g9_readWhole (l : Launch) (dC : Nat → ClassId) (dI : Nat → Nat → Nat) (cy : Nat → ClassId) (h0 : Nat) (t_bytes : Nat) (t_length : Int32) (t_end : Int32) (t_token : Int32) (t_start : Int32) (t_stop : Int32) (t_number : Int32) (t_fault : Int32) (t_faultAt : Int32) (t_bytesf : Nat → Int32) (p1 : Int32) (p2 : Int32) (ht_length : 0 ≤ t_length.toInt ∧ t_length.toInt ≤ 800) (ht_end : 0 ≤ t_end.toInt ∧ t_end.toInt ≤ 800) (ht_start : 0 ≤ t_start.toInt ∧ t_start.toInt ≤ 800) (ht_stop : 0 ≤ t_stop.toInt ∧ t_stop.toInt ≤ 800) (hrel : t_start.toInt ≤ t_stop.toInt ∧ t_stop.toInt ≤ t_end.toInt) : ctI l dC dI cy hp yX9_readWhole cX9_readWhole 4 .boolean ({ frames := 2, cells := 0, slots := 0, locals := 46 } : Room) [.ref h0, .int p1, .int p2] [(h0, .inr (8, [.ref t_bytes, .int t_length, .int t_end, .int t_token, .int t_start, .int t_stop, .int t_number, .int t_fault, .int t_faultAt])), (t_bytes, .inl (cy 0, 800, .inl t_bytesf))] (S := Int32 × Int32 × Int32 × Int32 × Int32 × Int32) (fun r u => (0 ≤ r.toInt ∧ r.toInt ≤ 1) ∧ (0 ≤ u.2.1.toInt ∧ u.2.1.toInt ≤ 800) ∧ (0 ≤ u.2.2.1.toInt ∧ u.2.2.1.toInt ≤ 800) ∧ (u.2.1.toInt ≤ u.2.2.1.toInt ∧ u.2.2.1.toInt ≤ t_end.toInt) ∧ (t_stop.toInt ≤ u.2.2.1.toInt) ∧ ((r.toInt = 1 ∧ p1.toInt ≤ u.2.2.2.2.2.toInt ∧ u.2.2.2.2.2.toInt ≤ p2.toInt) ∨ r.toInt = 0) ∧ (qN t_bytesf t_end.toInt p1.toInt p2.toInt t_token.toInt t_start.toInt t_stop.toInt r.toInt u.2.2.2.2.2.toInt u.1.toInt u.2.1.toInt u.2.2.1.toInt u.2.2.2.1.toInt u.2.2.2.2.1.toInt) ∧ (r.toInt ≠ 0 → u.2.2.2.1.toInt = t_fault.toInt)) (fun u => [(h0, .inr (8, [.ref t_bytes, .int t_length, .int t_end, .int u.1, .int u.2.1, .int u.2.2.1, .int u.2.2.2.2.2, .int u.2.2.2.1, .int u.2.2.2.2.1])), (t_bytes, .inl (cy 0, 800, .inl t_bytesf))]) := by
  refine ctI.of (by decide +kernel) (Nat.le_of_ble_eq_true rfl) ?_
  intro p e s m args below meth c A ls Q hQ X hr hlocks hin hA hP hD hS hl
  have hx := X.1
  have hb := X.2.1
  have hK := X.2.2.2.2.2.1
  have hl : lv_has ls 4 [(0, .ref h0), (1, .int p1), (2, .int p2)] := hl
  have dy_1 := ti_bd p1
  have dy_2 := ti_bd p2
  refine lv_aload_n hx hb dX9_readWhole_0 rfl (lv_at hl 0 rfl) ?_
  refine r_get X kcX9 (ci := 8) rfl hP 0 rfl 3 (by decide) fX9_66 rfl dX9_readWhole_1 ?_
  refine lv_iconst (v := 2) hx hb dX9_readWhole_4 (by decide) ?_
  refine lv_icmp_eq (tgt := 14) hx hb dX9_readWhole_5 (by decide) (fun h_3 => ?_) (fun h_3 => ?_)
  · have h_3 : t_token.toInt = 2 := c_eq h_3
    refine lv_aload_n hx hb dX9_readWhole_14 rfl (lv_at hl 0 rfl) ?_
    refine lv_iconst (v := 0) hx hb dX9_readWhole_15 (by decide) ?_
    refine r_put X kcX9 (ci := 8) rfl hP hD hS 0 rfl 6 (by decide) fX9_86 rfl rfl rfl (Nat.le_of_ble_eq_true rfl) dX9_readWhole_16 (fun H locs hP hD hS => ?_)
    have hPD := vPD (ws' := [(h0, .inr (8, [.ref t_bytes, .int t_length, .int t_end, .int t_token, .int t_start, .int t_stop, .int 0, .int t_fault, .int t_faultAt])), (t_bytes, .inl (cy 0, 800, .inl t_bytesf))]) hP hD rfl
    have hP := hPD.1
    have hD := hPD.2
    refine lv_aload_n hx hb dX9_readWhole_19 rfl (lv_at hl 0 rfl) ?_
    refine r_get X kcX9 (ci := 8) rfl hP 0 rfl 4 (by decide) fX9_119 rfl dX9_readWhole_20 ?_
    refine lv_istore_n (lv' := [(3, .int t_start), (0, .ref h0), (1, .int p1), (2, .int p2)]) hx hb dX9_readWhole_23 rfl hl (by decide) rfl (fun ls hl => ?_)
    have lp_4 : ∀ (nlp_4 : Nat) (i_5 : Int32) (i_7 : Int32) (H : Heap) (locs : List Loc) (ls : Array Slot), (0 ≤ i_5.toInt ∧ i_5.toInt ≤ 800) → (dgs t_bytesf t_start.toInt t_stop.toInt → i_7.toInt = nmI t_bytesf t_start.toInt.toNat (i_5.toInt - t_start.toInt).toNat) → (t_start.toInt ≤ i_5.toInt) → (i_5.toInt ≤ t_stop.toInt) → (801 - i_5.toInt ≤ (nlp_4 : Int)) → va_P (dC, dI) vwCl [(h0, .inr (8, [.ref t_bytes, .int t_length, .int t_end, .int t_token, .int t_start, .int t_stop, .int i_7, .int t_fault, .int t_faultAt])), (t_bytes, .inl (cy 0, 800, .inl t_bytesf))] H → va_D A [(h0, .inr (8, [.ref t_bytes, .int t_length, .int t_end, .int t_token, .int t_start, .int t_stop, .int i_7, .int t_fault, .int t_faultAt])), (t_bytes, .inl (cy 0, 800, .inl t_bytesf))] → va_S A s.heap H locs → lv_has ls 4 [(3, .int i_5), (0, .ref h0), (1, .int p1), (2, .int p2)] → W p l e ({ frames := 2, cells := 0, slots := 0, locals := 46 } : Room) s m args below meth c H locs 0 0 Q (F0 m 24 ls []) := by
      intro nlp_4
      induction nlp_4 with
      | zero =>
        intro i_5 i_7 H locs ls b_6 b_8 b_9 b_10 hmlp_4 hP hD hS hl
        exfalso
        have di_5 := ti_bd i_5
        have di_7 := ti_bd i_7
        omega
      | succ nlp_4 ihlp_4 =>
        intro i_5 i_7 H locs ls b_6 b_8 b_9 b_10 hmlp_4 hP hD hS hl
        refine lv_iload_n hx hb dX9_readWhole_24 rfl (lv_at hl 0 rfl) ?_
        refine lv_aload_n hx hb dX9_readWhole_25 rfl (lv_at hl 1 rfl) ?_
        refine r_get X kcX9 (ci := 8) rfl hP 0 rfl 5 (by decide) fX9_28 rfl dX9_readWhole_26 ?_
        refine lv_icmp_ge (tgt := 59) hx hb dX9_readWhole_29 (by decide) (fun h_11 => ?_) (fun h_11 => ?_)
        · have h_11 : t_stop.toInt ≤ i_5.toInt := c_le h_11
          refine lv_aload_n hx hb dX9_readWhole_59 rfl (lv_at hl 1 rfl) ?_
          refine r_get X kcX9 (ci := 8) rfl hP 0 rfl 6 (by decide) fX9_86 rfl dX9_readWhole_60 ?_
          refine lv_iload_n hx hb dX9_readWhole_63 rfl (lv_at hl 2 rfl) ?_
          refine lv_icmp_lt (tgt := 75) hx hb dX9_readWhole_64 (by decide) (fun h_12 => ?_) (fun h_12 => ?_)
          · have h_12 : i_7.toInt < p1.toInt := c_lt h_12
            refine lv_aload_n hx hb dX9_readWhole_75 rfl (lv_at hl 1 rfl) ?_
            refine lv_iconst (v := 4) hx hb dX9_readWhole_76 (by decide) ?_
            refine sl_Ic (rV_I (As := [.int 4]) (rest := []) X hp_st (fun _ _ _ h => h) (g9_wrong l dC dI cy h0 t_bytes t_length t_end t_token t_start t_stop i_7 t_fault t_faultAt 4 ht_length ht_end ht_start ht_stop) kX9_wrong vX9_wrong mX9_62 hP hD hS hA [0] (by decide) rfl 0 (ci := 8) rfl rfl rfl hl rfl rfl (Nat.le_of_ble_eq_true rfl) dX9_readWhole_77 ⟨(Nat.le_of_ble_eq_true rfl), (Nat.le_of_ble_eq_true rfl)⟩ ⟨(Nat.le_of_ble_eq_true rfl), (Nat.le_of_ble_eq_true rfl)⟩) hP hD hS hA [0] [false, true] rfl rfl rfl (fun r_15 u_17 H locs k_16 hP hD hS => ?_)
            obtain ⟨t_fault1_13, t_faultAt1_14⟩ := u_17
            have k_16 : (r_15 = 0) ∧ (t_fault1_13.toInt = (4 : Int32).toInt) ∧ (t_faultAt1_14.toInt = t_start.toInt) := k_16
            have kc_18 : (4 : Int32).toInt = 4 := by decide
            obtain ⟨k_16_0, k_16_1, k_16_2⟩ := k_16
            have hPD := vPD (ws' := [(t_bytes, .inl (cy 0, 800, .inl t_bytesf)), (h0, .inr (8, [.ref t_bytes, .int t_length, .int t_end, .int t_token, .int t_start, .int t_stop, .int i_7, .int t_fault1_13, .int t_faultAt1_14]))]) hP hD rfl
            have hP := hPD.1
            have hD := hPD.2
            have er_15 : r_15 = 0 := k_16_0
            subst er_15
            exact eI hQ X hr hlocks hP hD hS (t_token, t_start, t_stop, t_fault1_13, t_faultAt1_14, i_7) [1, 0] (by decide) rfl rfl (show (0 ≤ (0 : Int32).toInt ∧ (0 : Int32).toInt ≤ 1) ∧ (0 ≤ t_start.toInt ∧ t_start.toInt ≤ 800) ∧ (0 ≤ t_stop.toInt ∧ t_stop.toInt ≤ 800) ∧ (t_start.toInt ≤ t_stop.toInt ∧ t_stop.toInt ≤ t_end.toInt) ∧ (t_stop.toInt ≤ t_stop.toInt) ∧ (((0 : Int32).toInt = 1 ∧ p1.toInt ≤ i_7.toInt ∧ i_7.toInt ≤ p2.toInt) ∨ (0 : Int32).toInt = 0) ∧ (qN t_bytesf t_end.toInt p1.toInt p2.toInt t_token.toInt t_start.toInt t_stop.toInt (0 : Int32).toInt i_7.toInt t_token.toInt t_start.toInt t_stop.toInt t_fault1_13.toInt t_faultAt1_14.toInt) ∧ ((0 : Int32).toInt ≠ 0 → t_fault1_13.toInt = t_fault.toInt) from ⟨(by first | decide | (have h9_0 : (0 : Int32).toInt = 0 := (by decide); omega) | (refine ⟨by decide, ?_⟩; omega) | omega), ht_start, ht_stop, hrel, (by omega), (Or.inr (by decide)), (qN_4 (nu := i_7.toInt) (by omega) (fun hd => by rw [show t_stop.toInt = i_5.toInt by omega]; exact b_8 hd) (by omega) (by decide) (by have kc : (4 : Int32).toInt = 4 := (by decide); omega) (by omega)), (by first | decide | (have h9_0 : (0 : Int32).toInt = 0 := (by decide); omega) | (refine ⟨by decide, ?_⟩; omega) | omega)⟩) (Nat.le_of_ble_eq_true rfl) (Nat.le_of_ble_eq_true rfl) dX9_readWhole_80
          · have h_12 : p1.toInt ≤ i_7.toInt := c_nlt h_12
            refine lv_aload_n hx hb dX9_readWhole_67 rfl (lv_at hl 1 rfl) ?_
            refine r_get X kcX9 (ci := 8) rfl hP 0 rfl 6 (by decide) fX9_86 rfl dX9_readWhole_68 ?_
            refine lv_iload_n hx hb dX9_readWhole_71 rfl (lv_at hl 3 rfl) ?_
            refine lv_icmp_le (tgt := 81) hx hb dX9_readWhole_72 (by decide) (fun h_19 => ?_) (fun h_19 => ?_)
            · have h_19 : i_7.toInt ≤ p2.toInt := c_le h_19
              refine lv_aload_n hx hb dX9_readWhole_81 rfl (lv_at hl 1 rfl) ?_
              refine sl_Vc (rV_V (As := []) (rest := []) X hp_st (fun _ _ _ h => h) (g9_next l dC dI cy h0 t_bytes t_length t_end t_token t_start t_stop i_7 t_fault t_faultAt t_bytesf ht_length ht_end ht_stop (by omega)) kX9_next vX9_next mX9_42 hP hD hS hA [0, 1] (by decide) rfl 0 (ci := 8) rfl rfl rfl hl rfl rfl (Nat.le_of_ble_eq_true rfl) dX9_readWhole_82 ⟨(Nat.le_of_ble_eq_true rfl), (Nat.le_of_ble_eq_true rfl)⟩ ⟨(Nat.le_of_ble_eq_true rfl), (Nat.le_of_ble_eq_true rfl)⟩) hP hD hS hA [0, 1] [false, false] rfl rfl rfl (fun u_25 H locs k_24 hP hD hS => ?_)
              obtain ⟨t_token1_20, t_start1_21, t_stop1_22⟩ := u_25
              have k_24 : (0 ≤ t_stop1_22.toInt ∧ t_stop1_22.toInt ≤ 800) ∧ (0 ≤ t_start1_21.toInt ∧ t_start1_21.toInt ≤ 800) ∧ (t_start1_21.toInt ≤ t_stop1_22.toInt ∧ t_stop1_22.toInt ≤ t_end.toInt) ∧ (t_stop.toInt ≤ t_start1_21.toInt) ∧ (LkC t_bytesf t_end.toInt t_stop.toInt t_token1_20.toInt t_start1_21.toInt t_stop1_22.toInt) := k_24
              obtain ⟨k_24_0, k_24_1, k_24_2, k_24_3, k_24_4⟩ := k_24
              have hPD := vPD (ws' := [(h0, .inr (8, [.ref t_bytes, .int t_length, .int t_end, .int t_token1_20, .int t_start1_21, .int t_stop1_22, .int i_7, .int t_fault, .int t_faultAt])), (t_bytes, .inl (cy 0, 800, .inl t_bytesf))]) hP hD rfl
              have hP := hPD.1
              have hD := hPD.2
              refine lv_iconst (v := 1) hx hb dX9_readWhole_85 (by decide) ?_
              exact eI hQ X hr hlocks hP hD hS (t_token1_20, t_start1_21, t_stop1_22, t_fault, t_faultAt, i_7) [0, 1] (by decide) rfl rfl (show (0 ≤ (1 : Int32).toInt ∧ (1 : Int32).toInt ≤ 1) ∧ (0 ≤ t_start1_21.toInt ∧ t_start1_21.toInt ≤ 800) ∧ (0 ≤ t_stop1_22.toInt ∧ t_stop1_22.toInt ≤ 800) ∧ (t_start1_21.toInt ≤ t_stop1_22.toInt ∧ t_stop1_22.toInt ≤ t_end.toInt) ∧ (t_stop.toInt ≤ t_stop1_22.toInt) ∧ (((1 : Int32).toInt = 1 ∧ p1.toInt ≤ i_7.toInt ∧ i_7.toInt ≤ p2.toInt) ∨ (1 : Int32).toInt = 0) ∧ (qN t_bytesf t_end.toInt p1.toInt p2.toInt t_token.toInt t_start.toInt t_stop.toInt (1 : Int32).toInt i_7.toInt t_token1_20.toInt t_start1_21.toInt t_stop1_22.toInt t_fault.toInt t_faultAt.toInt) ∧ ((1 : Int32).toInt ≠ 0 → t_fault.toInt = t_fault.toInt) from ⟨(by first | decide | (have h9_0 : (1 : Int32).toInt = 1 := (by decide); omega) | (refine ⟨by decide, ?_⟩; omega) | omega), k_24_1, k_24_0, k_24_2, (by omega), (Or.inl ⟨by decide, by omega, by omega⟩), (qN_y (by omega) (fun hd => by rw [show t_stop.toInt = i_5.toInt by omega]; exact b_8 hd) (by omega) (by decide) k_24_4), (by first | decide | (have h9_0 : (1 : Int32).toInt = 1 := (by decide); omega) | (refine ⟨by decide, ?_⟩; omega) | omega)⟩) (Nat.le_of_ble_eq_true rfl) (Nat.le_of_ble_eq_true rfl) dX9_readWhole_86
            · have h_19 : p2.toInt < i_7.toInt := c_nle h_19
              refine lv_aload_n hx hb dX9_readWhole_75 rfl (lv_at hl 1 rfl) ?_
              refine lv_iconst (v := 4) hx hb dX9_readWhole_76 (by decide) ?_
              refine sl_Ic (rV_I (As := [.int 4]) (rest := []) X hp_st (fun _ _ _ h => h) (g9_wrong l dC dI cy h0 t_bytes t_length t_end t_token t_start t_stop i_7 t_fault t_faultAt 4 ht_length ht_end ht_start ht_stop) kX9_wrong vX9_wrong mX9_62 hP hD hS hA [0] (by decide) rfl 0 (ci := 8) rfl rfl rfl hl rfl rfl (Nat.le_of_ble_eq_true rfl) dX9_readWhole_77 ⟨(Nat.le_of_ble_eq_true rfl), (Nat.le_of_ble_eq_true rfl)⟩ ⟨(Nat.le_of_ble_eq_true rfl), (Nat.le_of_ble_eq_true rfl)⟩) hP hD hS hA [0] [false, true] rfl rfl rfl (fun r_28 u_30 H locs k_29 hP hD hS => ?_)
              obtain ⟨t_fault1_26, t_faultAt1_27⟩ := u_30
              have k_29 : (r_28 = 0) ∧ (t_fault1_26.toInt = (4 : Int32).toInt) ∧ (t_faultAt1_27.toInt = t_start.toInt) := k_29
              have kc_31 : (4 : Int32).toInt = 4 := by decide
              obtain ⟨k_29_0, k_29_1, k_29_2⟩ := k_29
              have hPD := vPD (ws' := [(t_bytes, .inl (cy 0, 800, .inl t_bytesf)), (h0, .inr (8, [.ref t_bytes, .int t_length, .int t_end, .int t_token, .int t_start, .int t_stop, .int i_7, .int t_fault1_26, .int t_faultAt1_27]))]) hP hD rfl
              have hP := hPD.1
              have hD := hPD.2
              have er_28 : r_28 = 0 := k_29_0
              subst er_28
              exact eI hQ X hr hlocks hP hD hS (t_token, t_start, t_stop, t_fault1_26, t_faultAt1_27, i_7) [1, 0] (by decide) rfl rfl (show (0 ≤ (0 : Int32).toInt ∧ (0 : Int32).toInt ≤ 1) ∧ (0 ≤ t_start.toInt ∧ t_start.toInt ≤ 800) ∧ (0 ≤ t_stop.toInt ∧ t_stop.toInt ≤ 800) ∧ (t_start.toInt ≤ t_stop.toInt ∧ t_stop.toInt ≤ t_end.toInt) ∧ (t_stop.toInt ≤ t_stop.toInt) ∧ (((0 : Int32).toInt = 1 ∧ p1.toInt ≤ i_7.toInt ∧ i_7.toInt ≤ p2.toInt) ∨ (0 : Int32).toInt = 0) ∧ (qN t_bytesf t_end.toInt p1.toInt p2.toInt t_token.toInt t_start.toInt t_stop.toInt (0 : Int32).toInt i_7.toInt t_token.toInt t_start.toInt t_stop.toInt t_fault1_26.toInt t_faultAt1_27.toInt) ∧ ((0 : Int32).toInt ≠ 0 → t_fault1_26.toInt = t_fault.toInt) from ⟨(by first | decide | (have h9_0 : (0 : Int32).toInt = 0 := (by decide); omega) | (refine ⟨by decide, ?_⟩; omega) | omega), ht_start, ht_stop, hrel, (by omega), (Or.inr (by decide)), (qN_4 (nu := i_7.toInt) (by omega) (fun hd => by rw [show t_stop.toInt = i_5.toInt by omega]; exact b_8 hd) (by omega) (by decide) (by have kc : (4 : Int32).toInt = 4 := (by decide); omega) (by omega)), (by first | decide | (have h9_0 : (0 : Int32).toInt = 0 := (by decide); omega) | (refine ⟨by decide, ?_⟩; omega) | omega)⟩) (Nat.le_of_ble_eq_true rfl) (Nat.le_of_ble_eq_true rfl) dX9_readWhole_80
        · have h_11 : i_5.toInt < t_stop.toInt := c_nle h_11
          refine lv_aload_n hx hb dX9_readWhole_32 rfl (lv_at hl 1 rfl) ?_
          refine lv_aload_n hx hb dX9_readWhole_33 rfl (lv_at hl 1 rfl) ?_
          refine r_get X kcX9 (ci := 8) rfl hP 0 rfl 6 (by decide) fX9_86 rfl dX9_readWhole_34 ?_
          refine lv_bipush (v := 10) hx hb dX9_readWhole_37 (by decide) ?_
          refine lv_imul hx hb dX9_readWhole_39 ?_
          have dy_32 := ti_bd i_7
          refine lv_topi (fun x_33 ex_33 => ?_)
          refine lv_aload_n hx hb dX9_readWhole_40 rfl (lv_at hl 1 rfl) ?_
          refine r_get X kcX9 (ci := 8) rfl hP 0 rfl 0 (by decide) fX9_11 rfl dX9_readWhole_41 ?_
          refine lv_iload_n hx hb dX9_readWhole_44 rfl (lv_at hl 0 rfl) ?_
          refine va_bald (D := (dC, dI)) (cl := vwCl) hx hb hK hP 1 0 rfl rfl (i := i_5) (vin (by omega) (by omega)) dX9_readWhole_45 ?_
          refine lv_topi (fun x_34 ex_34 => ?_)
          refine lv_iadd hx hb dX9_readWhole_46 ?_
          have dy_35 := ti_bd x_33
          have dy_36 := ti_bd x_34
          refine lv_topi (fun x_37 ex_37 => ?_)
          refine lv_bipush (v := 48) hx hb dX9_readWhole_47 (by decide) ?_
          refine lv_isub hx hb dX9_readWhole_49 ?_
          have dy_38 := ti_bd x_37
          refine lv_topi (fun x_39 ex_39 => ?_)
          refine r_put X kcX9 (ci := 8) rfl hP hD hS 0 rfl 6 (by decide) fX9_86 rfl rfl rfl (Nat.le_of_ble_eq_true rfl) dX9_readWhole_50 (fun H locs hP hD hS => ?_)
          have hPD := vPD (ws' := [(h0, .inr (8, [.ref t_bytes, .int t_length, .int t_end, .int t_token, .int t_start, .int t_stop, .int x_39, .int t_fault, .int t_faultAt])), (t_bytes, .inl (cy 0, 800, .inl t_bytesf))]) hP hD rfl
          have hP := hPD.1
          have hD := hPD.2
          obtain ⟨x_40, ex_40⟩ : ∃ y : Int32, y = i_5 + 1 := ⟨_, rfl⟩
          have tx_40 : x_40.toInt = i_5.toInt + 1 := ti_add (A := i_5.toInt) (B := 1) ex_40 rfl rfl (by omega) (by omega)
          refine lv_iinc (v := x_40) (lv' := [(3, .int x_40), (0, .ref h0), (1, .int p1), (2, .int p2)]) hx hb dX9_readWhole_53 hl (k := 0) rfl (by rw [ex_40]; rfl) (by decide) rfl (fun ls hl => ?_)
          refine lv_goto (tgt := 24) hx hb dX9_readWhole_56 (by decide) ?_
          exact ihlp_4 x_40 x_39 _ _ _ (by omega) (show dgs t_bytesf t_start.toInt t_stop.toInt → x_39.toInt = nmI t_bytesf t_start.toInt.toNat (x_40.toInt - t_start.toInt).toNat from (fun hd => nm_up (i := i_5) hd (b_8 hd) (by omega) (by omega) (by omega) ex_33 ex_34 ex_37 ex_39 (by omega))) (show t_start.toInt ≤ x_40.toInt by omega) (show x_40.toInt ≤ t_stop.toInt by omega) (show 801 - x_40.toInt ≤ (nlp_4 : Int) by omega) hP hD hS (lv_sub hl [0, 1, 2, 3] rfl)
    exact lp_4 801 t_start 0 _ _ _ (by omega) (show dgs t_bytesf t_start.toInt t_stop.toInt → 0 = nmI t_bytesf t_start.toInt.toNat (t_start.toInt - t_start.toInt).toNat from (fun _ => by rw [Int.sub_self]; rfl)) (show t_start.toInt ≤ t_start.toInt by omega) (show t_start.toInt ≤ t_stop.toInt by omega) (show 801 - t_start.toInt ≤ ((801 : Nat) : Int) by omega) hP hD hS hl
  · have h_3 : t_token.toInt ≠ 2 := c_ne h_3
    refine lv_aload_n hx hb dX9_readWhole_8 rfl (lv_at hl 0 rfl) ?_
    refine lv_iconst (v := 1) hx hb dX9_readWhole_9 (by decide) ?_
    refine sl_Ic (rV_I (As := [.int 1]) (rest := []) X hp_st (fun _ _ _ h => h) (g9_wrong l dC dI cy h0 t_bytes t_length t_end t_token t_start t_stop t_number t_fault t_faultAt 1 ht_length ht_end ht_start ht_stop) kX9_wrong vX9_wrong mX9_62 hP hD hS hA [0] (by decide) rfl 0 (ci := 8) rfl rfl rfl hl rfl rfl (Nat.le_of_ble_eq_true rfl) dX9_readWhole_10 ⟨(Nat.le_of_ble_eq_true rfl), (Nat.le_of_ble_eq_true rfl)⟩ ⟨(Nat.le_of_ble_eq_true rfl), (Nat.le_of_ble_eq_true rfl)⟩) hP hD hS hA [0] [false, true] rfl rfl rfl (fun r_43 u_45 H locs k_44 hP hD hS => ?_)
    obtain ⟨t_fault1_41, t_faultAt1_42⟩ := u_45
    have k_44 : (r_43 = 0) ∧ (t_fault1_41.toInt = (1 : Int32).toInt) ∧ (t_faultAt1_42.toInt = t_start.toInt) := k_44
    have kc_46 : (1 : Int32).toInt = 1 := by decide
    obtain ⟨k_44_0, k_44_1, k_44_2⟩ := k_44
    have hPD := vPD (ws' := [(t_bytes, .inl (cy 0, 800, .inl t_bytesf)), (h0, .inr (8, [.ref t_bytes, .int t_length, .int t_end, .int t_token, .int t_start, .int t_stop, .int t_number, .int t_fault1_41, .int t_faultAt1_42]))]) hP hD rfl
    have hP := hPD.1
    have hD := hPD.2
    have er_43 : r_43 = 0 := k_44_0
    subst er_43
    exact eI hQ X hr hlocks hP hD hS (t_token, t_start, t_stop, t_fault1_41, t_faultAt1_42, t_number) [1, 0] (by decide) rfl rfl (show (0 ≤ (0 : Int32).toInt ∧ (0 : Int32).toInt ≤ 1) ∧ (0 ≤ t_start.toInt ∧ t_start.toInt ≤ 800) ∧ (0 ≤ t_stop.toInt ∧ t_stop.toInt ≤ 800) ∧ (t_start.toInt ≤ t_stop.toInt ∧ t_stop.toInt ≤ t_end.toInt) ∧ (t_stop.toInt ≤ t_stop.toInt) ∧ (((0 : Int32).toInt = 1 ∧ p1.toInt ≤ t_number.toInt ∧ t_number.toInt ≤ p2.toInt) ∨ (0 : Int32).toInt = 0) ∧ (qN t_bytesf t_end.toInt p1.toInt p2.toInt t_token.toInt t_start.toInt t_stop.toInt (0 : Int32).toInt t_number.toInt t_token.toInt t_start.toInt t_stop.toInt t_fault1_41.toInt t_faultAt1_42.toInt) ∧ ((0 : Int32).toInt ≠ 0 → t_fault1_41.toInt = t_fault.toInt) from ⟨(by first | decide | (have h9_0 : (0 : Int32).toInt = 0 := (by decide); omega) | (refine ⟨by decide, ?_⟩; omega) | omega), ht_start, ht_stop, hrel, (by omega), (Or.inr (by decide)), (qN_1 (by omega) (by decide) (by have kc : (1 : Int32).toInt = 1 := (by decide); omega) (by omega)), (by first | decide | (have h9_0 : (0 : Int32).toInt = 0 := (by decide); omega) | (refine ⟨by decide, ?_⟩; omega) | omega)⟩) (Nat.le_of_ble_eq_true rfl) (Nat.le_of_ble_eq_true rfl) dX9_readWhole_13
set_option maxHeartbeats 4000000 in
set_option maxRecDepth 100000 in
theorem g9_nameCode (l : Launch) (dC : Nat → ClassId) (dI : Nat → Nat → Nat) (cy : Nat → ClassId) (h0 : Nat) (t_bytes : Nat) (t_length : Int32) (t_end : Int32) (t_token : Int32) (t_start : Int32) (t_stop : Int32) (t_number : Int32) (t_fault : Int32) (t_faultAt : Int32) (t_bytesf : Nat → Int32) (ht_length : 0 ≤ t_length.toInt ∧ t_length.toInt ≤ 800) (ht_end : 0 ≤ t_end.toInt ∧ t_end.toInt ≤ 800) (ht_start : 0 ≤ t_start.toInt ∧ t_start.toInt ≤ 800) (ht_stop : 0 ≤ t_stop.toInt ∧ t_stop.toInt ≤ 800) (hrel : t_start.toInt ≤ t_stop.toInt ∧ t_stop.toInt ≤ t_end.toInt) : ctL l dC dI cy hp yX9_nameCode cX9_nameCode 4 ({ frames := 0, cells := 0, slots := 0, locals := 0 } : Room) [.ref h0] [(h0, .inr (8, [.ref t_bytes, .int t_length, .int t_end, .int t_token, .int t_start, .int t_stop, .int t_number, .int t_fault, .int t_faultAt])), (t_bytes, .inl (cy 0, 800, .inl t_bytesf))] (S := Unit) (fun r _ => (wds t_bytesf t_start.toInt t_stop.toInt → r.toInt = cdI t_bytesf t_start.toInt.toNat (t_stop.toInt - t_start.toInt).toNat)) (fun _ => [(h0, .inr (8, [.ref t_bytes, .int t_length, .int t_end, .int t_token, .int t_start, .int t_stop, .int t_number, .int t_fault, .int t_faultAt])), (t_bytes, .inl (cy 0, 800, .inl t_bytesf))]) := by
  refine ctL.of (by decide +kernel) (Nat.le_of_ble_eq_true rfl) ?_
  intro p e s m args below meth c A ls Q hQ X hr hlocks hin hA hP hD hS hl
  have hx := X.1
  have hb := X.2.1
  have hK := X.2.2.2.2.2.1
  have hl : lv_has ls 4 [(0, .ref h0)] := hl
  refine lv_lconst (v := 0) hx hb dX9_nameCode_0 (by decide) ?_
  refine lv_lstore_n (lv' := [(1, .long 0), (0, .ref h0)]) hx hb dX9_nameCode_1 rfl hl (by decide) rfl (fun ls hl => ?_)
  refine lv_aload_n hx hb dX9_nameCode_2 rfl (lv_at hl 1 rfl) ?_
  refine r_get X kcX9 (ci := 8) rfl hP 0 rfl 4 (by decide) fX9_119 rfl dX9_nameCode_3 ?_
  refine lv_istore_n (lv' := [(3, .int t_start), (1, .long 0), (0, .ref h0)]) hx hb dX9_nameCode_6 rfl hl (by decide) rfl (fun ls hl => ?_)
  have lp_1 : ∀ (nlp_1 : Nat) (i_2 : Int32) (i_4 : Int64) (H : Heap) (locs : List Loc) (ls : Array Slot), (0 ≤ i_2.toInt ∧ i_2.toInt ≤ 800) → (wds t_bytesf t_start.toInt t_stop.toInt → (i_4).toInt = cdI t_bytesf t_start.toInt.toNat (i_2.toInt - t_start.toInt).toNat) → (t_start.toInt ≤ i_2.toInt) → (i_2.toInt ≤ t_stop.toInt) → (801 - i_2.toInt ≤ (nlp_1 : Int)) → va_P (dC, dI) vwCl [(h0, .inr (8, [.ref t_bytes, .int t_length, .int t_end, .int t_token, .int t_start, .int t_stop, .int t_number, .int t_fault, .int t_faultAt])), (t_bytes, .inl (cy 0, 800, .inl t_bytesf))] H → va_D A [(h0, .inr (8, [.ref t_bytes, .int t_length, .int t_end, .int t_token, .int t_start, .int t_stop, .int t_number, .int t_fault, .int t_faultAt])), (t_bytes, .inl (cy 0, 800, .inl t_bytesf))] → va_S A s.heap H locs → lv_has ls 4 [(3, .int i_2), (1, .long i_4), (0, .ref h0)] → W p l e ({ frames := 0, cells := 0, slots := 0, locals := 0 } : Room) s m args below meth c H locs 0 0 Q (F0 m 7 ls []) := by
    intro nlp_1
    induction nlp_1 with
    | zero =>
      intro i_2 i_4 H locs ls b_3 b_5 b_6 b_7 hmlp_1 hP hD hS hl
      exfalso
      have di_2 := ti_bd i_2
      omega
    | succ nlp_1 ihlp_1 =>
      intro i_2 i_4 H locs ls b_3 b_5 b_6 b_7 hmlp_1 hP hD hS hl
      refine lv_iload_n hx hb dX9_nameCode_7 rfl (lv_at hl 0 rfl) ?_
      refine lv_aload_n hx hb dX9_nameCode_8 rfl (lv_at hl 2 rfl) ?_
      refine r_get X kcX9 (ci := 8) rfl hP 0 rfl 5 (by decide) fX9_28 rfl dX9_nameCode_9 ?_
      refine lv_icmp_ge (tgt := 40) hx hb dX9_nameCode_12 (by decide) (fun h_8 => ?_) (fun h_8 => ?_)
      · have h_8 : t_stop.toInt ≤ i_2.toInt := c_le h_8
        refine lv_lload_n hx hb dX9_nameCode_40 rfl (lv_at hl 1 rfl) ?_
        exact eL hQ X hr hlocks hP hD hS () [0, 1] (by decide) rfl (show (wds t_bytesf t_start.toInt t_stop.toInt → i_4.toInt = cdI t_bytesf t_start.toInt.toNat (t_stop.toInt - t_start.toInt).toNat) from (fun hd => by rw [show t_stop.toInt = i_2.toInt by omega]; exact b_5 hd)) (Nat.le_of_ble_eq_true rfl) (Nat.le_of_ble_eq_true rfl) dX9_nameCode_41
      · have h_8 : i_2.toInt < t_stop.toInt := c_nle h_8
        refine lv_lload_n hx hb dX9_nameCode_15 rfl (lv_at hl 1 rfl) ?_
        refine lv_ldc2 (v := 32) hx hb X.2.2.2.1 (X.2.2.2.2.1 _ w_718) dX9_nameCode_16 ?_
        refine lv_lmul hx hb dX9_nameCode_19 ?_
        refine lv_topl (fun x_9 ex_9 => ?_)
        refine lv_aload_n hx hb dX9_nameCode_20 rfl (lv_at hl 2 rfl) ?_
        refine r_get X kcX9 (ci := 8) rfl hP 0 rfl 0 (by decide) fX9_11 rfl dX9_nameCode_21 ?_
        refine lv_iload_n hx hb dX9_nameCode_24 rfl (lv_at hl 0 rfl) ?_
        refine va_bald (D := (dC, dI)) (cl := vwCl) hx hb hK hP 1 0 rfl rfl (i := i_2) (vin (by omega) (by omega)) dX9_nameCode_25 ?_
        refine lv_topi (fun x_10 ex_10 => ?_)
        refine lv_bipush (v := 97) hx hb dX9_nameCode_26 (by decide) ?_
        refine lv_isub hx hb dX9_nameCode_28 ?_
        have dy_11 := ti_bd x_10
        refine lv_topi (fun x_12 ex_12 => ?_)
        refine lv_iconst (v := 1) hx hb dX9_nameCode_29 (by decide) ?_
        refine lv_iadd hx hb dX9_nameCode_30 ?_
        have dy_13 := ti_bd x_12
        refine lv_topi (fun x_14 ex_14 => ?_)
        obtain ⟨x_15, ex_15⟩ : ∃ y : Int64, x_14.toInt64 = y := ⟨_, rfl⟩
        refine lv_i2l hx hb dX9_nameCode_31 ex_15 ?_
        refine lv_ladd hx hb dX9_nameCode_32 ?_
        refine lv_topl (fun x_16 ex_16 => ?_)
        refine lv_lstore_n (lv' := [(1, .long x_16), (3, .int i_2), (0, .ref h0)]) hx hb dX9_nameCode_33 rfl hl (by decide) rfl (fun ls hl => ?_)
        obtain ⟨x_17, ex_17⟩ : ∃ y : Int32, y = i_2 + 1 := ⟨_, rfl⟩
        have tx_17 : x_17.toInt = i_2.toInt + 1 := ti_add (A := i_2.toInt) (B := 1) ex_17 rfl rfl (by omega) (by omega)
        refine lv_iinc (v := x_17) (lv' := [(3, .int x_17), (1, .long x_16), (0, .ref h0)]) hx hb dX9_nameCode_34 hl (k := 1) rfl (by rw [ex_17]; rfl) (by decide) rfl (fun ls hl => ?_)
        refine lv_goto (tgt := 7) hx hb dX9_nameCode_37 (by decide) ?_
        exact ihlp_1 x_17 x_16 _ _ _ (by omega) (show wds t_bytesf t_start.toInt t_stop.toInt → (x_16).toInt = cdI t_bytesf t_start.toInt.toNat (x_17.toInt - t_start.toInt).toNat from (fun hd => cd_up (i := i_2) hd (b_5 hd) (by omega) (by omega) (by omega) ex_9 ex_10 ex_12 ex_14 ex_15 ex_16 (by omega))) (show t_start.toInt ≤ x_17.toInt by omega) (show x_17.toInt ≤ t_stop.toInt by omega) (show 801 - x_17.toInt ≤ (nlp_1 : Int) by omega) hP hD hS (lv_sub hl [0, 1, 2] rfl)
  exact lp_1 801 t_start 0 _ _ _ (by omega) (show wds t_bytesf t_start.toInt t_stop.toInt → ((0 : Int64)).toInt = cdI t_bytesf t_start.toInt.toNat (t_start.toInt - t_start.toInt).toNat from (fun _ => by rw [Int.sub_self]; rfl)) (show t_start.toInt ≤ t_start.toInt by omega) (show t_start.toInt ≤ t_stop.toInt by omega) (show 801 - t_start.toInt ≤ ((801 : Nat) : Int) by omega) hP hD hS hl
