set_option maxHeartbeats 4000000 in
set_option maxRecDepth 100000 in
theorem sX9_hasRoom (l : Launch) (dC : Nat → ClassId) (dI : Nat → Nat → Nat) (cy : Nat → ClassId) (h0 : Nat) (t_bytes : Nat) (t_length : Int32) (t_end : Int32) (t_token : Int32) (t_start : Int32) (t_stop : Int32) (t_number : Int32) (t_fault : Int32) (t_faultAt : Int32) (ht_length : 0 ≤ t_length.toInt ∧ t_length.toInt ≤ 800) : ctI l dC dI cy hp yX9_hasRoom cX9_hasRoom 1 .boolean ({ frames := 0, cells := 0, slots := 0, locals := 0 } : Room) [.ref h0] [(h0, .inr (8, [.ref t_bytes, .int t_length, .int t_end, .int t_token, .int t_start, .int t_stop, .int t_number, .int t_fault, .int t_faultAt]))] (S := Unit) (fun r _ => (0 ≤ r.toInt ∧ r.toInt ≤ 1) ∧ ((r.toInt = 1 ∧ t_length.toInt + 20 ≤ 800) ∨ (r.toInt = 0 ∧ 800 < t_length.toInt + 20))) (fun _ => [(h0, .inr (8, [.ref t_bytes, .int t_length, .int t_end, .int t_token, .int t_start, .int t_stop, .int t_number, .int t_fault, .int t_faultAt]))]) := by
  refine ctI.of (by decide +kernel) (Nat.le_of_ble_eq_true rfl) ?_
  intro p e s m args below meth c A ls Q hQ X hr hlocks hin hA hP hD hS hl
  have hx := X.1
  have hb := X.2.1
  have hK := X.2.2.2.2.2.1
  have hl : lv_has ls 1 [(0, .ref h0)] := hl
  refine lv_aload_n hx hb dX9_hasRoom_0 rfl (lv_at hl 0 rfl) ?_
  refine r_get X kcX9 (ci := 8) rfl hP 0 rfl 1 (by decide) fX9_15 rfl dX9_hasRoom_1 ?_
  refine lv_bipush (v := 20) hx hb dX9_hasRoom_4 (by decide) ?_
  refine lv_iadd hx hb dX9_hasRoom_6 ?_
  refine lv_topi (fun x_1 ex_1 => ?_)
  have tx_1 : x_1.toInt = t_length.toInt + 20 := ti_add (A := t_length.toInt) (B := 20) ex_1 rfl rfl (by omega) (by omega)
  refine lv_sipush (v := 800) hx hb dX9_hasRoom_7 (by decide) ?_
  refine lv_icmp_gt (tgt := 17) hx hb dX9_hasRoom_10 (by decide) (fun h_2 => ?_) (fun h_2 => ?_)
  · have h_2 : 800 < x_1.toInt := c_lt h_2
    refine lv_iconst (v := 0) hx hb dX9_hasRoom_17 (by decide) ?_
    exact eI hQ X hr hlocks hP hD hS () [0] (by decide) rfl rfl (show (0 ≤ (0 : Int32).toInt ∧ (0 : Int32).toInt ≤ 1) ∧ (((0 : Int32).toInt = 1 ∧ t_length.toInt + 20 ≤ 800) ∨ ((0 : Int32).toInt = 0 ∧ 800 < t_length.toInt + 20)) from ⟨(by decide), (Or.inr ⟨by decide, by omega⟩)⟩) (Nat.le_of_ble_eq_true rfl) (Nat.le_of_ble_eq_true rfl) dX9_hasRoom_18
  · have h_2 : x_1.toInt ≤ 800 := c_nlt h_2
    refine lv_iconst (v := 1) hx hb dX9_hasRoom_13 (by decide) ?_
    refine lv_goto (tgt := 18) hx hb dX9_hasRoom_14 (by decide) ?_
    exact eI hQ X hr hlocks hP hD hS () [0] (by decide) rfl rfl (show (0 ≤ (1 : Int32).toInt ∧ (1 : Int32).toInt ≤ 1) ∧ (((1 : Int32).toInt = 1 ∧ t_length.toInt + 20 ≤ 800) ∨ ((1 : Int32).toInt = 0 ∧ 800 < t_length.toInt + 20)) from ⟨(by decide), (Or.inl ⟨by decide, by omega⟩)⟩) (Nat.le_of_ble_eq_true rfl) (Nat.le_of_ble_eq_true rfl) dX9_hasRoom_18
