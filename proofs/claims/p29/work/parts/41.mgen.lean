section
set_option maxHeartbeats 4000000 in
set_option maxRecDepth 100000 in
theorem sX13_refused (l : Launch) (dC : Nat → ClassId) (dI : Nat → Nat → Nat) (cy : Nat → ClassId) (h0 : Nat) (m_thrown : Int32) (m_trouble : Int32) (m_where : Int32) (m_park : Value) (m_read : Value) (m_tape : Nat) (m_taped : Int32) (m_size : Int32) (m_spot : Int32) (m_sort : Int32) (m_place : Int32) (m_letters : Int32) (m_number : Int32) (m_fault : Int32) (m_wrongAt : Int32) (m_word : Int64) (m_v : Nat) (m_x : Nat) (m_past : Nat) (m_kept : Nat) (m_acts : Int32) (m_images : Int32) (m_left : Nat) (m_far : Nat) (m_line : Nat) (m_fitsNow : Int32) (m_ditchIn : Nat) (m_treadLeft : Int32) (m_rambledTo : Int32) (m_rambledFalls : Int32) (m_rambledIn : Int32) (p1 : Int32) (hm_taped : 0 ≤ m_taped.toInt ∧ m_taped.toInt ≤ 800) (hm_size : 0 ≤ m_size.toInt ∧ m_size.toInt ≤ 800) (hm_spot : 0 ≤ m_spot.toInt ∧ m_spot.toInt ≤ 800) (hm_place : 0 ≤ m_place.toInt ∧ m_place.toInt ≤ 800) (hm_acts : 0 ≤ m_acts.toInt ∧ m_acts.toInt ≤ 16) (hm_images : 0 ≤ m_images.toInt ∧ m_images.toInt ≤ 3) : ctI l dC dI cy hp yX13_refused cX13_refused 2 .int ({ frames := 0, cells := 0, slots := 0, locals := 0 } : Room) [.ref h0, .int p1] [(h0, .inr (12, [.int m_thrown, .int m_trouble, .int m_where, m_park, m_read, .ref m_tape, .int m_taped, .int m_size, .int m_spot, .int m_sort, .int m_place, .int m_letters, .int m_number, .int m_fault, .int m_wrongAt, .long m_word, .ref m_v, .ref m_x, .ref m_past, .ref m_kept, .int m_acts, .int m_images, .ref m_left, .ref m_far, .ref m_line, .int m_fitsNow, .ref m_ditchIn, .int m_treadLeft, .int m_rambledTo, .int m_rambledFalls, .int m_rambledIn]))] (S := Int32 × Int32) (fun r u => (r = -1) ∧ (u.2.toInt = -1)) (fun u => [(h0, .inr (12, [.int m_thrown, .int u.1, .int u.2, m_park, m_read, .ref m_tape, .int m_taped, .int m_size, .int m_spot, .int m_sort, .int m_place, .int m_letters, .int m_number, .int m_fault, .int m_wrongAt, .long m_word, .ref m_v, .ref m_x, .ref m_past, .ref m_kept, .int m_acts, .int m_images, .ref m_left, .ref m_far, .ref m_line, .int m_fitsNow, .ref m_ditchIn, .int m_treadLeft, .int m_rambledTo, .int m_rambledFalls, .int m_rambledIn]))]) := by
  refine ctI.of (by decide +kernel) (Nat.le_of_ble_eq_true rfl) ?_
  intro p e s m args below meth c A ls Q hQ X hr hlocks hin hA hP hD hS hl
  have hx := X.1
  have hb := X.2.1
  have hK := X.2.2.2.2.2.1
  have hl : lv_has ls 2 [(0, .ref h0), (1, .int p1)] := hl
  have dy_1 := ti_bd p1
  refine lv_aload_n hx hb dX13_refused_0 rfl (lv_at hl 0 rfl) ?_
  refine lv_iload_n hx hb dX13_refused_1 rfl (lv_at hl 1 rfl) ?_
  refine r_put X kcX13 (ci := 12) rfl hP hD hS 0 rfl 1 (by decide) fX13_45 rfl rfl rfl (Nat.le_of_ble_eq_true rfl) dX13_refused_2 (fun H locs hP hD hS => ?_)
  have hPD := vPD (ws' := [(h0, .inr (12, [.int m_thrown, .int p1, .int m_where, m_park, m_read, .ref m_tape, .int m_taped, .int m_size, .int m_spot, .int m_sort, .int m_place, .int m_letters, .int m_number, .int m_fault, .int m_wrongAt, .long m_word, .ref m_v, .ref m_x, .ref m_past, .ref m_kept, .int m_acts, .int m_images, .ref m_left, .ref m_far, .ref m_line, .int m_fitsNow, .ref m_ditchIn, .int m_treadLeft, .int m_rambledTo, .int m_rambledFalls, .int m_rambledIn]))]) hP hD rfl
  have hP := hPD.1
  have hD := hPD.2
  refine lv_aload_n hx hb dX13_refused_5 rfl (lv_at hl 0 rfl) ?_
  refine lv_iconst (v := -1) hx hb dX13_refused_6 (by decide) ?_
  refine r_put X kcX13 (ci := 12) rfl hP hD hS 0 rfl 2 (by decide) fX13_9 rfl rfl rfl (Nat.le_of_ble_eq_true rfl) dX13_refused_7 (fun H locs hP hD hS => ?_)
  have hPD := vPD (ws' := [(h0, .inr (12, [.int m_thrown, .int p1, .int (-1), m_park, m_read, .ref m_tape, .int m_taped, .int m_size, .int m_spot, .int m_sort, .int m_place, .int m_letters, .int m_number, .int m_fault, .int m_wrongAt, .long m_word, .ref m_v, .ref m_x, .ref m_past, .ref m_kept, .int m_acts, .int m_images, .ref m_left, .ref m_far, .ref m_line, .int m_fitsNow, .ref m_ditchIn, .int m_treadLeft, .int m_rambledTo, .int m_rambledFalls, .int m_rambledIn]))]) hP hD rfl
  have hP := hPD.1
  have hD := hPD.2
  refine lv_iconst (v := -1) hx hb dX13_refused_10 (by decide) ?_
  exact eI hQ X hr hlocks hP hD hS (p1, (-1 : Int32)) [0] (by decide) rfl rfl (show ((-1 : Int32) = -1) ∧ ((-1 : Int32).toInt = -1) from ⟨rfl, (by first | decide | omega | (refine ⟨by decide, ?_⟩; omega) | (have h9_0 : (-1 : Int32).toInt = (-1) := (by decide); omega))⟩) (Nat.le_of_ble_eq_true rfl) (Nat.le_of_ble_eq_true rfl) dX13_refused_11
set_option maxHeartbeats 4000000 in
set_option maxRecDepth 100000 in
theorem sX13_lost (l : Launch) (dC : Nat → ClassId) (dI : Nat → Nat → Nat) (cy : Nat → ClassId) (h0 : Nat) (m_thrown : Int32) (m_trouble : Int32) (m_where : Int32) (m_park : Value) (m_read : Value) (m_tape : Nat) (m_taped : Int32) (m_size : Int32) (m_spot : Int32) (m_sort : Int32) (m_place : Int32) (m_letters : Int32) (m_number : Int32) (m_fault : Int32) (m_wrongAt : Int32) (m_word : Int64) (m_v : Nat) (m_x : Nat) (m_past : Nat) (m_kept : Nat) (m_acts : Int32) (m_images : Int32) (m_left : Nat) (m_far : Nat) (m_line : Nat) (m_fitsNow : Int32) (m_ditchIn : Nat) (m_treadLeft : Int32) (m_rambledTo : Int32) (m_rambledFalls : Int32) (m_rambledIn : Int32) (p1 : Int32) (hm_taped : 0 ≤ m_taped.toInt ∧ m_taped.toInt ≤ 800) (hm_size : 0 ≤ m_size.toInt ∧ m_size.toInt ≤ 800) (hm_spot : 0 ≤ m_spot.toInt ∧ m_spot.toInt ≤ 800) (hm_place : 0 ≤ m_place.toInt ∧ m_place.toInt ≤ 800) (hm_acts : 0 ≤ m_acts.toInt ∧ m_acts.toInt ≤ 16) (hm_images : 0 ≤ m_images.toInt ∧ m_images.toInt ≤ 3) : ctI l dC dI cy hp yX13_lost cX13_lost 2 .int ({ frames := 1, cells := 0, slots := 0, locals := 21 } : Room) [.ref h0, .int p1] [(h0, .inr (12, [.int m_thrown, .int m_trouble, .int m_where, m_park, m_read, .ref m_tape, .int m_taped, .int m_size, .int m_spot, .int m_sort, .int m_place, .int m_letters, .int m_number, .int m_fault, .int m_wrongAt, .long m_word, .ref m_v, .ref m_x, .ref m_past, .ref m_kept, .int m_acts, .int m_images, .ref m_left, .ref m_far, .ref m_line, .int m_fitsNow, .ref m_ditchIn, .int m_treadLeft, .int m_rambledTo, .int m_rambledFalls, .int m_rambledIn]))] (S := Int32 × Int32) (fun r u => (r = -100) ∧ (u.2.toInt = -1)) (fun u => [(h0, .inr (12, [.int m_thrown, .int u.1, .int u.2, m_park, m_read, .ref m_tape, .int m_taped, .int m_size, .int m_spot, .int m_sort, .int m_place, .int m_letters, .int m_number, .int m_fault, .int m_wrongAt, .long m_word, .ref m_v, .ref m_x, .ref m_past, .ref m_kept, .int m_acts, .int m_images, .ref m_left, .ref m_far, .ref m_line, .int m_fitsNow, .ref m_ditchIn, .int m_treadLeft, .int m_rambledTo, .int m_rambledFalls, .int m_rambledIn]))]) := by
  refine ctI.of (by decide +kernel) (Nat.le_of_ble_eq_true rfl) ?_
  intro p e s m args below meth c A ls Q hQ X hr hlocks hin hA hP hD hS hl
  have hx := X.1
  have hb := X.2.1
  have hK := X.2.2.2.2.2.1
  have hl : lv_has ls 2 [(0, .ref h0), (1, .int p1)] := hl
  have dy_1 := ti_bd p1
  refine lv_aload_n hx hb dX13_lost_0 rfl (lv_at hl 0 rfl) ?_
  refine lv_iload_n hx hb dX13_lost_1 rfl (lv_at hl 1 rfl) ?_
  refine sl_Ic (rV_I (As := [.int p1]) (rest := []) X hp_st (fun _ _ _ h => h) (sX13_refused l dC dI cy h0 m_thrown m_trouble m_where m_park m_read m_tape m_taped m_size m_spot m_sort m_place m_letters m_number m_fault m_wrongAt m_word m_v m_x m_past m_kept m_acts m_images m_left m_far m_line m_fitsNow m_ditchIn m_treadLeft m_rambledTo m_rambledFalls m_rambledIn p1 hm_taped hm_size hm_spot hm_place hm_acts hm_images) kX13_refused vX13_refused mX13_48 hP hD hS hA [0] (by decide) rfl 0 (ci := 12) rfl rfl rfl hl rfl rfl (Nat.le_of_ble_eq_true rfl) dX13_lost_2 ⟨(Nat.le_of_ble_eq_true rfl), (Nat.le_of_ble_eq_true rfl)⟩ ⟨(Nat.le_of_ble_eq_true rfl), (Nat.le_of_ble_eq_true rfl)⟩) hP hD hS hA [0] [false] rfl rfl rfl (fun r_4 u_6 H locs k_5 hP hD hS => ?_)
  obtain ⟨m_trouble1_2, m_where1_3⟩ := u_6
  have k_5 : (r_4 = -1) ∧ (m_where1_3.toInt = -1) := k_5
  obtain ⟨k_5_0, k_5_1⟩ := k_5
  have hPD := vPD (ws' := [(h0, .inr (12, [.int m_thrown, .int m_trouble1_2, .int m_where1_3, m_park, m_read, .ref m_tape, .int m_taped, .int m_size, .int m_spot, .int m_sort, .int m_place, .int m_letters, .int m_number, .int m_fault, .int m_wrongAt, .long m_word, .ref m_v, .ref m_x, .ref m_past, .ref m_kept, .int m_acts, .int m_images, .ref m_left, .ref m_far, .ref m_line, .int m_fitsNow, .ref m_ditchIn, .int m_treadLeft, .int m_rambledTo, .int m_rambledFalls, .int m_rambledIn]))]) hP hD rfl
  have hP := hPD.1
  have hD := hPD.2
  have er_4 : r_4 = -1 := k_5_0
  subst er_4
  refine lv_pop hx hb dX13_lost_5 rfl ?_
  refine lv_bipush (v := -100) hx hb dX13_lost_6 (by decide) ?_
  exact eI hQ X hr hlocks hP hD hS (m_trouble1_2, m_where1_3) [0] (by decide) rfl rfl (show ((-100 : Int32) = -100) ∧ (m_where1_3.toInt = -1) from ⟨rfl, k_5_1⟩) (Nat.le_of_ble_eq_true rfl) (Nat.le_of_ble_eq_true rfl) dX13_lost_8
set_option maxHeartbeats 4000000 in
set_option maxRecDepth 100000 in
theorem sX13_denied (l : Launch) (dC : Nat → ClassId) (dI : Nat → Nat → Nat) (cy : Nat → ClassId) (h0 : Nat) (m_thrown : Int32) (m_trouble : Int32) (m_where : Int32) (m_park : Value) (m_read : Value) (m_tape : Nat) (m_taped : Int32) (m_size : Int32) (m_spot : Int32) (m_sort : Int32) (m_place : Int32) (m_letters : Int32) (m_number : Int32) (m_fault : Int32) (m_wrongAt : Int32) (m_word : Int64) (m_v : Nat) (m_x : Nat) (m_past : Nat) (m_kept : Nat) (m_acts : Int32) (m_images : Int32) (m_left : Nat) (m_far : Nat) (m_line : Nat) (m_fitsNow : Int32) (m_ditchIn : Nat) (m_treadLeft : Int32) (m_rambledTo : Int32) (m_rambledFalls : Int32) (m_rambledIn : Int32) (p1 : Int32) (hm_taped : 0 ≤ m_taped.toInt ∧ m_taped.toInt ≤ 800) (hm_size : 0 ≤ m_size.toInt ∧ m_size.toInt ≤ 800) (hm_spot : 0 ≤ m_spot.toInt ∧ m_spot.toInt ≤ 800) (hm_place : 0 ≤ m_place.toInt ∧ m_place.toInt ≤ 800) (hm_acts : 0 ≤ m_acts.toInt ∧ m_acts.toInt ≤ 16) (hm_images : 0 ≤ m_images.toInt ∧ m_images.toInt ≤ 3) : ctI l dC dI cy hp yX13_denied cX13_denied 2 .boolean ({ frames := 1, cells := 0, slots := 0, locals := 21 } : Room) [.ref h0, .int p1] [(h0, .inr (12, [.int m_thrown, .int m_trouble, .int m_where, m_park, m_read, .ref m_tape, .int m_taped, .int m_size, .int m_spot, .int m_sort, .int m_place, .int m_letters, .int m_number, .int m_fault, .int m_wrongAt, .long m_word, .ref m_v, .ref m_x, .ref m_past, .ref m_kept, .int m_acts, .int m_images, .ref m_left, .ref m_far, .ref m_line, .int m_fitsNow, .ref m_ditchIn, .int m_treadLeft, .int m_rambledTo, .int m_rambledFalls, .int m_rambledIn]))] (S := Int32 × Int32) (fun r u => (r = 0) ∧ (u.2.toInt = -1)) (fun u => [(h0, .inr (12, [.int m_thrown, .int u.1, .int u.2, m_park, m_read, .ref m_tape, .int m_taped, .int m_size, .int m_spot, .int m_sort, .int m_place, .int m_letters, .int m_number, .int m_fault, .int m_wrongAt, .long m_word, .ref m_v, .ref m_x, .ref m_past, .ref m_kept, .int m_acts, .int m_images, .ref m_left, .ref m_far, .ref m_line, .int m_fitsNow, .ref m_ditchIn, .int m_treadLeft, .int m_rambledTo, .int m_rambledFalls, .int m_rambledIn]))]) := by
  refine ctI.of (by decide +kernel) (Nat.le_of_ble_eq_true rfl) ?_
  intro p e s m args below meth c A ls Q hQ X hr hlocks hin hA hP hD hS hl
  have hx := X.1
  have hb := X.2.1
  have hK := X.2.2.2.2.2.1
  have hl : lv_has ls 2 [(0, .ref h0), (1, .int p1)] := hl
  have dy_1 := ti_bd p1
  refine lv_aload_n hx hb dX13_denied_0 rfl (lv_at hl 0 rfl) ?_
  refine lv_iload_n hx hb dX13_denied_1 rfl (lv_at hl 1 rfl) ?_
  refine sl_Ic (rV_I (As := [.int p1]) (rest := []) X hp_st (fun _ _ _ h => h) (sX13_refused l dC dI cy h0 m_thrown m_trouble m_where m_park m_read m_tape m_taped m_size m_spot m_sort m_place m_letters m_number m_fault m_wrongAt m_word m_v m_x m_past m_kept m_acts m_images m_left m_far m_line m_fitsNow m_ditchIn m_treadLeft m_rambledTo m_rambledFalls m_rambledIn p1 hm_taped hm_size hm_spot hm_place hm_acts hm_images) kX13_refused vX13_refused mX13_48 hP hD hS hA [0] (by decide) rfl 0 (ci := 12) rfl rfl rfl hl rfl rfl (Nat.le_of_ble_eq_true rfl) dX13_denied_2 ⟨(Nat.le_of_ble_eq_true rfl), (Nat.le_of_ble_eq_true rfl)⟩ ⟨(Nat.le_of_ble_eq_true rfl), (Nat.le_of_ble_eq_true rfl)⟩) hP hD hS hA [0] [false] rfl rfl rfl (fun r_4 u_6 H locs k_5 hP hD hS => ?_)
  obtain ⟨m_trouble1_2, m_where1_3⟩ := u_6
  have k_5 : (r_4 = -1) ∧ (m_where1_3.toInt = -1) := k_5
  obtain ⟨k_5_0, k_5_1⟩ := k_5
  have hPD := vPD (ws' := [(h0, .inr (12, [.int m_thrown, .int m_trouble1_2, .int m_where1_3, m_park, m_read, .ref m_tape, .int m_taped, .int m_size, .int m_spot, .int m_sort, .int m_place, .int m_letters, .int m_number, .int m_fault, .int m_wrongAt, .long m_word, .ref m_v, .ref m_x, .ref m_past, .ref m_kept, .int m_acts, .int m_images, .ref m_left, .ref m_far, .ref m_line, .int m_fitsNow, .ref m_ditchIn, .int m_treadLeft, .int m_rambledTo, .int m_rambledFalls, .int m_rambledIn]))]) hP hD rfl
  have hP := hPD.1
  have hD := hPD.2
  have er_4 : r_4 = -1 := k_5_0
  subst er_4
  refine lv_pop hx hb dX13_denied_5 rfl ?_
  refine lv_iconst (v := 0) hx hb dX13_denied_6 (by decide) ?_
  exact eI hQ X hr hlocks hP hD hS (m_trouble1_2, m_where1_3) [0] (by decide) rfl rfl (show ((0 : Int32) = 0) ∧ (m_where1_3.toInt = -1) from ⟨rfl, k_5_1⟩) (Nat.le_of_ble_eq_true rfl) (Nat.le_of_ble_eq_true rfl) dX13_denied_7
set_option maxHeartbeats 4000000 in
set_option maxRecDepth 100000 in
theorem sX13_good (l : Launch) (dC : Nat → ClassId) (dI : Nat → Nat → Nat) (cy : Nat → ClassId) (h0 : Nat) (m_thrown : Int32) (m_trouble : Int32) (m_where : Int32) (m_park : Value) (m_read : Value) (m_tape : Nat) (m_taped : Int32) (m_size : Int32) (m_spot : Int32) (m_sort : Int32) (m_place : Int32) (m_letters : Int32) (m_number : Int32) (m_fault : Int32) (m_wrongAt : Int32) (m_word : Int64) (m_v : Nat) (m_x : Nat) (m_past : Nat) (m_kept : Nat) (m_acts : Int32) (m_images : Int32) (m_left : Nat) (m_far : Nat) (m_line : Nat) (m_fitsNow : Int32) (m_ditchIn : Nat) (m_treadLeft : Int32) (m_rambledTo : Int32) (m_rambledFalls : Int32) (m_rambledIn : Int32) (p1 : Int32) (hm_taped : 0 ≤ m_taped.toInt ∧ m_taped.toInt ≤ 800) (hm_size : 0 ≤ m_size.toInt ∧ m_size.toInt ≤ 800) (hm_spot : 0 ≤ m_spot.toInt ∧ m_spot.toInt ≤ 800) (hm_place : 0 ≤ m_place.toInt ∧ m_place.toInt ≤ 800) (hm_acts : 0 ≤ m_acts.toInt ∧ m_acts.toInt ≤ 16) (hm_images : 0 ≤ m_images.toInt ∧ m_images.toInt ≤ 3) : ctI l dC dI cy hp yX13_good cX13_good 2 .int ({ frames := 0, cells := 0, slots := 0, locals := 0 } : Room) [.ref h0, .int p1] [(h0, .inr (12, [.int m_thrown, .int m_trouble, .int m_where, m_park, m_read, .ref m_tape, .int m_taped, .int m_size, .int m_spot, .int m_sort, .int m_place, .int m_letters, .int m_number, .int m_fault, .int m_wrongAt, .long m_word, .ref m_v, .ref m_x, .ref m_past, .ref m_kept, .int m_acts, .int m_images, .ref m_left, .ref m_far, .ref m_line, .int m_fitsNow, .ref m_ditchIn, .int m_treadLeft, .int m_rambledTo, .int m_rambledFalls, .int m_rambledIn]))] (S := Int32 × Int32) (fun r u => (r.toInt = p1.toInt) ∧ (u.2.toInt = -1)) (fun u => [(h0, .inr (12, [.int m_thrown, .int u.1, .int u.2, m_park, m_read, .ref m_tape, .int m_taped, .int m_size, .int m_spot, .int m_sort, .int m_place, .int m_letters, .int m_number, .int m_fault, .int m_wrongAt, .long m_word, .ref m_v, .ref m_x, .ref m_past, .ref m_kept, .int m_acts, .int m_images, .ref m_left, .ref m_far, .ref m_line, .int m_fitsNow, .ref m_ditchIn, .int m_treadLeft, .int m_rambledTo, .int m_rambledFalls, .int m_rambledIn]))]) := by
  refine ctI.of (by decide +kernel) (Nat.le_of_ble_eq_true rfl) ?_
  intro p e s m args below meth c A ls Q hQ X hr hlocks hin hA hP hD hS hl
  have hx := X.1
  have hb := X.2.1
  have hK := X.2.2.2.2.2.1
  have hl : lv_has ls 2 [(0, .ref h0), (1, .int p1)] := hl
  have dy_1 := ti_bd p1
  refine lv_aload_n hx hb dX13_good_0 rfl (lv_at hl 0 rfl) ?_
  refine lv_iconst (v := 0) hx hb dX13_good_1 (by decide) ?_
  refine r_put X kcX13 (ci := 12) rfl hP hD hS 0 rfl 1 (by decide) fX13_45 rfl rfl rfl (Nat.le_of_ble_eq_true rfl) dX13_good_2 (fun H locs hP hD hS => ?_)
  have hPD := vPD (ws' := [(h0, .inr (12, [.int m_thrown, .int 0, .int m_where, m_park, m_read, .ref m_tape, .int m_taped, .int m_size, .int m_spot, .int m_sort, .int m_place, .int m_letters, .int m_number, .int m_fault, .int m_wrongAt, .long m_word, .ref m_v, .ref m_x, .ref m_past, .ref m_kept, .int m_acts, .int m_images, .ref m_left, .ref m_far, .ref m_line, .int m_fitsNow, .ref m_ditchIn, .int m_treadLeft, .int m_rambledTo, .int m_rambledFalls, .int m_rambledIn]))]) hP hD rfl
  have hP := hPD.1
  have hD := hPD.2
  refine lv_aload_n hx hb dX13_good_5 rfl (lv_at hl 0 rfl) ?_
  refine lv_iconst (v := -1) hx hb dX13_good_6 (by decide) ?_
  refine r_put X kcX13 (ci := 12) rfl hP hD hS 0 rfl 2 (by decide) fX13_9 rfl rfl rfl (Nat.le_of_ble_eq_true rfl) dX13_good_7 (fun H locs hP hD hS => ?_)
  have hPD := vPD (ws' := [(h0, .inr (12, [.int m_thrown, .int 0, .int (-1), m_park, m_read, .ref m_tape, .int m_taped, .int m_size, .int m_spot, .int m_sort, .int m_place, .int m_letters, .int m_number, .int m_fault, .int m_wrongAt, .long m_word, .ref m_v, .ref m_x, .ref m_past, .ref m_kept, .int m_acts, .int m_images, .ref m_left, .ref m_far, .ref m_line, .int m_fitsNow, .ref m_ditchIn, .int m_treadLeft, .int m_rambledTo, .int m_rambledFalls, .int m_rambledIn]))]) hP hD rfl
  have hP := hPD.1
  have hD := hPD.2
  refine lv_iload_n hx hb dX13_good_10 rfl (lv_at hl 1 rfl) ?_
  exact eI hQ X hr hlocks hP hD hS ((0 : Int32), (-1 : Int32)) [0] (by decide) rfl rfl (show (p1.toInt = p1.toInt) ∧ ((-1 : Int32).toInt = -1) from ⟨(by omega), (by first | decide | omega | (refine ⟨by decide, ?_⟩; omega) | (have h9_0 : (-1 : Int32).toInt = (-1) := (by decide); omega))⟩) (Nat.le_of_ble_eq_true rfl) (Nat.le_of_ble_eq_true rfl) dX13_good_11
set_option maxHeartbeats 4000000 in
set_option maxRecDepth 100000 in
theorem sX13_granted (l : Launch) (dC : Nat → ClassId) (dI : Nat → Nat → Nat) (cy : Nat → ClassId) (h0 : Nat) (m_thrown : Int32) (m_trouble : Int32) (m_where : Int32) (m_park : Value) (m_read : Value) (m_tape : Nat) (m_taped : Int32) (m_size : Int32) (m_spot : Int32) (m_sort : Int32) (m_place : Int32) (m_letters : Int32) (m_number : Int32) (m_fault : Int32) (m_wrongAt : Int32) (m_word : Int64) (m_v : Nat) (m_x : Nat) (m_past : Nat) (m_kept : Nat) (m_acts : Int32) (m_images : Int32) (m_left : Nat) (m_far : Nat) (m_line : Nat) (m_fitsNow : Int32) (m_ditchIn : Nat) (m_treadLeft : Int32) (m_rambledTo : Int32) (m_rambledFalls : Int32) (m_rambledIn : Int32) (hm_taped : 0 ≤ m_taped.toInt ∧ m_taped.toInt ≤ 800) (hm_size : 0 ≤ m_size.toInt ∧ m_size.toInt ≤ 800) (hm_spot : 0 ≤ m_spot.toInt ∧ m_spot.toInt ≤ 800) (hm_place : 0 ≤ m_place.toInt ∧ m_place.toInt ≤ 800) (hm_acts : 0 ≤ m_acts.toInt ∧ m_acts.toInt ≤ 16) (hm_images : 0 ≤ m_images.toInt ∧ m_images.toInt ≤ 3) : ctI l dC dI cy hp yX13_granted cX13_granted 1 .boolean ({ frames := 1, cells := 0, slots := 0, locals := 21 } : Room) [.ref h0] [(h0, .inr (12, [.int m_thrown, .int m_trouble, .int m_where, m_park, m_read, .ref m_tape, .int m_taped, .int m_size, .int m_spot, .int m_sort, .int m_place, .int m_letters, .int m_number, .int m_fault, .int m_wrongAt, .long m_word, .ref m_v, .ref m_x, .ref m_past, .ref m_kept, .int m_acts, .int m_images, .ref m_left, .ref m_far, .ref m_line, .int m_fitsNow, .ref m_ditchIn, .int m_treadLeft, .int m_rambledTo, .int m_rambledFalls, .int m_rambledIn]))] (S := Int32 × Int32) (fun r u => (r = 1) ∧ (u.2.toInt = -1)) (fun u => [(h0, .inr (12, [.int m_thrown, .int u.1, .int u.2, m_park, m_read, .ref m_tape, .int m_taped, .int m_size, .int m_spot, .int m_sort, .int m_place, .int m_letters, .int m_number, .int m_fault, .int m_wrongAt, .long m_word, .ref m_v, .ref m_x, .ref m_past, .ref m_kept, .int m_acts, .int m_images, .ref m_left, .ref m_far, .ref m_line, .int m_fitsNow, .ref m_ditchIn, .int m_treadLeft, .int m_rambledTo, .int m_rambledFalls, .int m_rambledIn]))]) := by
  refine ctI.of (by decide +kernel) (Nat.le_of_ble_eq_true rfl) ?_
  intro p e s m args below meth c A ls Q hQ X hr hlocks hin hA hP hD hS hl
  have hx := X.1
  have hb := X.2.1
  have hK := X.2.2.2.2.2.1
  have hl : lv_has ls 1 [(0, .ref h0)] := hl
  refine lv_aload_n hx hb dX13_granted_0 rfl (lv_at hl 0 rfl) ?_
  refine lv_iconst (v := 0) hx hb dX13_granted_1 (by decide) ?_
  refine sl_Ic (rV_I (As := [.int 0]) (rest := []) X hp_st (fun _ _ _ h => h) (sX13_good l dC dI cy h0 m_thrown m_trouble m_where m_park m_read m_tape m_taped m_size m_spot m_sort m_place m_letters m_number m_fault m_wrongAt m_word m_v m_x m_past m_kept m_acts m_images m_left m_far m_line m_fitsNow m_ditchIn m_treadLeft m_rambledTo m_rambledFalls m_rambledIn 0 hm_taped hm_size hm_spot hm_place hm_acts hm_images) kX13_good vX13_good mX13_52 hP hD hS hA [0] (by decide) rfl 0 (ci := 12) rfl rfl rfl hl rfl rfl (Nat.le_of_ble_eq_true rfl) dX13_granted_2 ⟨(Nat.le_of_ble_eq_true rfl), (Nat.le_of_ble_eq_true rfl)⟩ ⟨(Nat.le_of_ble_eq_true rfl), (Nat.le_of_ble_eq_true rfl)⟩) hP hD hS hA [0] [false] rfl rfl rfl (fun r_3 u_5 H locs k_4 hP hD hS => ?_)
  obtain ⟨m_trouble1_1, m_where1_2⟩ := u_5
  have k_4 : (r_3.toInt = (0 : Int32).toInt) ∧ (m_where1_2.toInt = -1) := k_4
  have kc_6 : (0 : Int32).toInt = 0 := by decide
  obtain ⟨k_4_0, k_4_1⟩ := k_4
  have hPD := vPD (ws' := [(h0, .inr (12, [.int m_thrown, .int m_trouble1_1, .int m_where1_2, m_park, m_read, .ref m_tape, .int m_taped, .int m_size, .int m_spot, .int m_sort, .int m_place, .int m_letters, .int m_number, .int m_fault, .int m_wrongAt, .long m_word, .ref m_v, .ref m_x, .ref m_past, .ref m_kept, .int m_acts, .int m_images, .ref m_left, .ref m_far, .ref m_line, .int m_fitsNow, .ref m_ditchIn, .int m_treadLeft, .int m_rambledTo, .int m_rambledFalls, .int m_rambledIn]))]) hP hD rfl
  have hP := hPD.1
  have hD := hPD.2
  refine lv_pop hx hb dX13_granted_5 rfl ?_
  refine lv_iconst (v := 1) hx hb dX13_granted_6 (by decide) ?_
  exact eI hQ X hr hlocks hP hD hS (m_trouble1_1, m_where1_2) [0] (by decide) rfl rfl (show ((1 : Int32) = 1) ∧ (m_where1_2.toInt = -1) from ⟨rfl, k_4_1⟩) (Nat.le_of_ble_eq_true rfl) (Nat.le_of_ble_eq_true rfl) dX13_granted_7
set_option maxHeartbeats 4000000 in
set_option maxRecDepth 100000 in
theorem sX13_in (l : Launch) (dC : Nat → ClassId) (dI : Nat → Nat → Nat) (cy : Nat → ClassId) (p1 : Int32) (p2 : Int32) (p3 : Int32) : ctI l dC dI cy hp yX13_in cX13_in 3 .boolean ({ frames := 0, cells := 0, slots := 0, locals := 0 } : Room) [.int p1, .int p2, .int p3] [] (S := Unit) (fun r _ => (0 ≤ r.toInt ∧ r.toInt ≤ 1) ∧ ((r.toInt = 1 ∧ p2.toInt ≤ p1.toInt ∧ p1.toInt ≤ p3.toInt) ∨ (r.toInt = 0 ∧ (p1.toInt < p2.toInt ∨ p3.toInt < p1.toInt)))) (fun _ => []) := by
  refine ctI.of (by decide +kernel) (Nat.le_of_ble_eq_true rfl) ?_
  intro p e s m args below meth c A ls Q hQ X hr hlocks hin hA hP hD hS hl
  have hx := X.1
  have hb := X.2.1
  have hK := X.2.2.2.2.2.1
  have hl : lv_has ls 3 [(0, .int p1), (1, .int p2), (2, .int p3)] := hl
  have dy_1 := ti_bd p1
  have dy_2 := ti_bd p2
  have dy_3 := ti_bd p3
  refine lv_iload_n hx hb dX13_in_0 rfl (lv_at hl 0 rfl) ?_
  refine lv_iload_n hx hb dX13_in_1 rfl (lv_at hl 1 rfl) ?_
  refine lv_icmp_lt (tgt := 14) hx hb dX13_in_2 (by decide) (fun h_4 => ?_) (fun h_4 => ?_)
  · have h_4 : p1.toInt < p2.toInt := c_lt h_4
    refine lv_iconst (v := 0) hx hb dX13_in_14 (by decide) ?_
    exact eI hQ X hr hlocks hP hD hS () [] (by decide) rfl rfl (show (0 ≤ (0 : Int32).toInt ∧ (0 : Int32).toInt ≤ 1) ∧ (((0 : Int32).toInt = 1 ∧ p2.toInt ≤ p1.toInt ∧ p1.toInt ≤ p3.toInt) ∨ ((0 : Int32).toInt = 0 ∧ (p1.toInt < p2.toInt ∨ p3.toInt < p1.toInt))) from ⟨(by decide), (Or.inr ⟨by decide, by omega⟩)⟩) (Nat.le_of_ble_eq_true rfl) (Nat.le_of_ble_eq_true rfl) dX13_in_15
  · have h_4 : p2.toInt ≤ p1.toInt := c_nlt h_4
    refine lv_iload_n hx hb dX13_in_5 rfl (lv_at hl 0 rfl) ?_
    refine lv_iload_n hx hb dX13_in_6 rfl (lv_at hl 2 rfl) ?_
    refine lv_icmp_gt (tgt := 14) hx hb dX13_in_7 (by decide) (fun h_5 => ?_) (fun h_5 => ?_)
    · have h_5 : p3.toInt < p1.toInt := c_lt h_5
      refine lv_iconst (v := 0) hx hb dX13_in_14 (by decide) ?_
      exact eI hQ X hr hlocks hP hD hS () [] (by decide) rfl rfl (show (0 ≤ (0 : Int32).toInt ∧ (0 : Int32).toInt ≤ 1) ∧ (((0 : Int32).toInt = 1 ∧ p2.toInt ≤ p1.toInt ∧ p1.toInt ≤ p3.toInt) ∨ ((0 : Int32).toInt = 0 ∧ (p1.toInt < p2.toInt ∨ p3.toInt < p1.toInt))) from ⟨(by decide), (Or.inr ⟨by decide, by omega⟩)⟩) (Nat.le_of_ble_eq_true rfl) (Nat.le_of_ble_eq_true rfl) dX13_in_15
    · have h_5 : p1.toInt ≤ p3.toInt := c_nlt h_5
      refine lv_iconst (v := 1) hx hb dX13_in_10 (by decide) ?_
      refine lv_goto (tgt := 15) hx hb dX13_in_11 (by decide) ?_
      exact eI hQ X hr hlocks hP hD hS () [] (by decide) rfl rfl (show (0 ≤ (1 : Int32).toInt ∧ (1 : Int32).toInt ≤ 1) ∧ (((1 : Int32).toInt = 1 ∧ p2.toInt ≤ p1.toInt ∧ p1.toInt ≤ p3.toInt) ∨ ((1 : Int32).toInt = 0 ∧ (p1.toInt < p2.toInt ∨ p3.toInt < p1.toInt))) from ⟨(by decide), (Or.inl ⟨by decide, by omega, by omega⟩)⟩) (Nat.le_of_ble_eq_true rfl) (Nat.le_of_ble_eq_true rfl) dX13_in_15
set_option maxHeartbeats 4000000 in
set_option maxRecDepth 100000 in
theorem sX13_bit (l : Launch) (dC : Nat → ClassId) (dI : Nat → Nat → Nat) (cy : Nat → ClassId) (p1 : Int32) (p2 : Int32) : ctI l dC dI cy hp yX13_bit cX13_bit 2 .boolean ({ frames := 0, cells := 0, slots := 0, locals := 0 } : Room) [.int p1, .int p2] [] (S := Unit) (fun r _ => (0 ≤ r.toInt ∧ r.toInt ≤ 1) ∧ (btQ p1 p2.toInt r.toInt)) (fun _ => []) := by
  refine ctI.of (by decide +kernel) (Nat.le_of_ble_eq_true rfl) ?_
  intro p e s m args below meth c A ls Q hQ X hr hlocks hin hA hP hD hS hl
  have hx := X.1
  have hb := X.2.1
  have hK := X.2.2.2.2.2.1
  have hl : lv_has ls 2 [(0, .int p1), (1, .int p2)] := hl
  have dy_1 := ti_bd p1
  have dy_2 := ti_bd p2
  refine lv_iload_n hx hb dX13_bit_0 rfl (lv_at hl 0 rfl) ?_
  refine lv_iload_n hx hb dX13_bit_1 rfl (lv_at hl 1 rfl) ?_
  refine lv_ishr hx hb dX13_bit_2 ?_
  refine lv_topi (fun x_3 ex_3 => ?_)
  refine lv_iconst (v := 1) hx hb dX13_bit_3 (by decide) ?_
  refine lv_iand hx hb dX13_bit_4 ?_
  have dy_4 := ti_bd x_3
  refine lv_topi (fun x_5 ex_5 => ?_)
  have tx_5 : x_5.toInt = 0 ∨ x_5.toInt = 1 := ti_and1 ex_5
  refine lv_iconst (v := 1) hx hb dX13_bit_5 (by decide) ?_
  refine lv_icmp_ne (tgt := 13) hx hb dX13_bit_6 (by decide) (fun h_6 => ?_) (fun h_6 => ?_)
  · have h_6 : x_5.toInt ≠ 1 := c_ne h_6
    refine lv_iconst (v := 0) hx hb dX13_bit_13 (by decide) ?_
    exact eI hQ X hr hlocks hP hD hS () [] (by decide) rfl rfl (show (0 ≤ (0 : Int32).toInt ∧ (0 : Int32).toInt ≤ 1) ∧ (btQ p1 p2.toInt (0 : Int32).toInt) from ⟨(by first | decide | (have h9_0 : (0 : Int32).toInt = 0 := (by decide); omega) | (refine ⟨by decide, ?_⟩; omega) | omega), (btQ_of ex_3 ex_5 (Or.inr ⟨by omega, by decide⟩))⟩) (Nat.le_of_ble_eq_true rfl) (Nat.le_of_ble_eq_true rfl) dX13_bit_14
  · have h_6 : x_5.toInt = 1 := c_eq h_6
    refine lv_iconst (v := 1) hx hb dX13_bit_9 (by decide) ?_
    refine lv_goto (tgt := 14) hx hb dX13_bit_10 (by decide) ?_
    exact eI hQ X hr hlocks hP hD hS () [] (by decide) rfl rfl (show (0 ≤ (1 : Int32).toInt ∧ (1 : Int32).toInt ≤ 1) ∧ (btQ p1 p2.toInt (1 : Int32).toInt) from ⟨(by first | decide | (have h9_0 : (1 : Int32).toInt = 1 := (by decide); omega) | (refine ⟨by decide, ?_⟩; omega) | omega), (btQ_of ex_3 ex_5 (Or.inl ⟨by omega, by decide⟩))⟩) (Nat.le_of_ble_eq_true rfl) (Nat.le_of_ble_eq_true rfl) dX13_bit_14
set_option maxHeartbeats 4000000 in
set_option maxRecDepth 100000 in
theorem sX13_bits (l : Launch) (dC : Nat → ClassId) (dI : Nat → Nat → Nat) (cy : Nat → ClassId) (p1 : Int32) : ctI l dC dI cy hp yX13_bits cX13_bits 3 .int ({ frames := 0, cells := 0, slots := 0, locals := 0 } : Room) [.int p1] [] (S := Unit) (fun r _ => True) (fun _ => []) := by
  refine ctI.of (by decide +kernel) (Nat.le_of_ble_eq_true rfl) ?_
  intro p e s m args below meth c A ls Q hQ X hr hlocks hin hA hP hD hS hl
  have hx := X.1
  have hb := X.2.1
  have hK := X.2.2.2.2.2.1
  have hl : lv_has ls 3 [(0, .int p1)] := hl
  have dy_1 := ti_bd p1
  refine lv_iconst (v := 0) hx hb dX13_bits_0 (by decide) ?_
  refine lv_istore_n (lv' := [(1, .int 0), (0, .int p1)]) hx hb dX13_bits_1 rfl hl (by decide) rfl (fun ls hl => ?_)
  refine lv_iload_n hx hb dX13_bits_2 rfl (lv_at hl 1 rfl) ?_
  refine lv_istore_n (lv' := [(2, .int p1), (1, .int 0), (0, .int p1)]) hx hb dX13_bits_3 rfl hl (by decide) rfl (fun ls hl => ?_)
  have hbl := p1.toBitVec.isLt
  have lp_2 : ∀ (nlp_2 : Nat) (i_3 : Int32) (i_4 : Int32) (H : Heap) (locs : List Loc) (ls : Array Slot), (((i_3.toBitVec.toNat : Nat) : Int) + 1 ≤ (nlp_2 : Int)) → va_P (dC, dI) vwCl [] H → va_D A [] → va_S A s.heap H locs → lv_has ls 3 [(2, .int i_3), (1, .int i_4), (0, .int p1)] → W p l e ({ frames := 0, cells := 0, slots := 0, locals := 0 } : Room) s m args below meth c H locs 0 0 Q (F0 m 4 ls []) := by
    intro nlp_2
    induction nlp_2 with
    | zero =>
      intro i_3 i_4 H locs ls hmlp_2 hP hD hS hl
      exfalso
      have di_3 := ti_bd i_3
      have di_4 := ti_bd i_4
      omega
    | succ nlp_2 ihlp_2 =>
      intro i_3 i_4 H locs ls hmlp_2 hP hD hS hl
      refine lv_iload_n hx hb dX13_bits_4 rfl (lv_at hl 0 rfl) ?_
      refine lv_if_eq (tgt := 20) hx hb dX13_bits_5 (by decide) (fun h_5 => ?_) (fun h_5 => ?_)
      · have h_5 : i_3.toInt = 0 := c_eq h_5
        refine lv_iload_n hx hb dX13_bits_20 rfl (lv_at hl 1 rfl) ?_
        exact eI hQ X hr hlocks hP hD hS () [] (by decide) rfl rfl trivial (Nat.le_of_ble_eq_true rfl) (Nat.le_of_ble_eq_true rfl) dX13_bits_21
      · have h_5 : i_3.toInt ≠ 0 := c_ne h_5
        have dy_7 := ti_bd i_4
        obtain ⟨x_6, ex_6⟩ : ∃ y : Int32, y = i_4 + 1 := ⟨_, rfl⟩
        refine lv_iinc (v := x_6) (lv' := [(1, .int x_6), (2, .int i_3), (0, .int p1)]) hx hb dX13_bits_8 hl (k := 1) rfl (by rw [ex_6]; rfl) (by decide) rfl (fun ls hl => ?_)
        refine lv_iload_n hx hb dX13_bits_11 rfl (lv_at hl 1 rfl) ?_
        refine lv_iload_n hx hb dX13_bits_12 rfl (lv_at hl 1 rfl) ?_
        refine lv_iconst (v := 1) hx hb dX13_bits_13 (by decide) ?_
        refine lv_isub hx hb dX13_bits_14 ?_
        have dy_8 := ti_bd i_3
        refine lv_topi (fun x_9 ex_9 => ?_)
        refine lv_iand hx hb dX13_bits_15 ?_
        have dy_10 := ti_bd x_9
        refine lv_topi (fun x_11 ex_11 => ?_)
        refine lv_istore_n (lv' := [(2, .int x_11), (1, .int x_6), (0, .int p1)]) hx hb dX13_bits_16 rfl hl (by decide) rfl (fun ls hl => ?_)
        refine lv_goto (tgt := 4) hx hb dX13_bits_17 (by decide) ?_
        have hbt := bt_lt ex_9 ex_11 (by omega)
        exact ihlp_2 x_11 x_6 _ _ _  (show ((x_11.toBitVec.toNat : Nat) : Int) + 1 ≤ (nlp_2 : Int) by omega) hP hD hS (lv_sub hl [0, 1, 2] rfl)
  exact lp_2 4294967297 p1 0 _ _ _  (show ((p1.toBitVec.toNat : Nat) : Int) + 1 ≤ ((4294967297 : Nat) : Int) by omega) hP hD hS hl
set_option maxHeartbeats 4000000 in
set_option maxRecDepth 100000 in
theorem sX13_common (l : Launch) (dC : Nat → ClassId) (dI : Nat → Nat → Nat) (cy : Nat → ClassId) (p1 : Int64) (p2 : Int64) : ctL l dC dI cy hp yX13_common cX13_common 10 ({ frames := 0, cells := 0, slots := 0, locals := 0 } : Room) [.long p1, .long p2] [] (S := Unit) (fun r _ => (¬ p2 = 0 → ¬ r = 0) ∧ (0 ≤ p1.toInt → 0 ≤ p2.toInt → r.toInt = ((Nat.gcd p1.toInt.toNat p2.toInt.toNat : Nat) : Int))) (fun _ => []) := by
  refine ctL.of (by decide +kernel) (Nat.le_of_ble_eq_true rfl) ?_
  intro p e s m args below meth c A ls Q hQ X hr hlocks hin hA hP hD hS hl
  have hx := X.1
  have hb := X.2.1
  have hK := X.2.2.2.2.2.1
  have hl : lv_has ls 10 [(0, .long p1), (2, .long p2)] := hl
  refine lv_lload_n hx hb dX13_common_0 rfl (lv_at hl 0 rfl) ?_
  refine lv_lstore (lv' := [(4, .long p1), (0, .long p1), (2, .long p2)]) hx hb dX13_common_1 hl (by decide) rfl (fun ls hl => ?_)
  refine lv_lload_n hx hb dX13_common_3 rfl (lv_at hl 2 rfl) ?_
  refine lv_lstore (lv' := [(6, .long p2), (4, .long p1), (0, .long p1), (2, .long p2)]) hx hb dX13_common_4 hl (by decide) rfl (fun ls hl => ?_)
  have hcl := (show p2.toInt.natAbs ≤ 9223372036854775808 by have h1 : -9223372036854775808 ≤ p2.toInt := Int64.le_toInt p2; have h2 : p2.toInt < 9223372036854775808 := Int64.toInt_lt p2; omega)
  have lp_1 : ∀ (nlp_1 : Nat) (i_2 : Int64) (i_3 : Int64) (H : Heap) (locs : List Loc) (ls : Array Slot), (¬ p2 = 0 → ¬ (i_3 = 0 ∧ i_2 = 0)) → (0 ≤ p1.toInt → 0 ≤ p2.toInt → euI p1.toInt p2.toInt (i_3).toInt (i_2).toInt) → (((i_2.toInt.natAbs : Nat) : Int) + 1 ≤ (nlp_1 : Int)) → va_P (dC, dI) vwCl [] H → va_D A [] → va_S A s.heap H locs → lv_has ls 10 [(6, .long i_2), (4, .long i_3), (0, .long p1), (2, .long p2)] → W p l e ({ frames := 0, cells := 0, slots := 0, locals := 0 } : Room) s m args below meth c H locs 0 0 Q (F0 m 6 ls []) := by
    intro nlp_1
    induction nlp_1 with
    | zero =>
      intro i_2 i_3 H locs ls b_4 b_5 hmlp_1 hP hD hS hl
      exfalso
      omega
    | succ nlp_1 ihlp_1 =>
      intro i_2 i_3 H locs ls b_4 b_5 hmlp_1 hP hD hS hl
      refine lv_lload hx hb dX13_common_6 (lv_at hl 0 rfl) ?_
      refine lv_lconst (v := 0) hx hb dX13_common_8 (by decide) ?_
      refine W.lcmp hx hb dX13_common_9 ?_
      refine lv_topi (fun x_6 ex_6 => ?_)
      refine lv_if_eq (tgt := 31) hx hb dX13_common_10 (by decide) (fun h_7 => ?_) (fun h_7 => ?_)
      · have h_7 : x_6.toInt = 0 := c_eq h_7
        refine lv_lload hx hb dX13_common_31 (lv_at hl 1 rfl) ?_
        exact eL hQ X hr hlocks hP hD hS () [] (by decide) rfl (show (¬ p2 = 0 → ¬ i_3 = 0) ∧ (0 ≤ p1.toInt → 0 ≤ p2.toInt → i_3.toInt = ((Nat.gcd p1.toInt.toNat p2.toInt.toNat : Nat) : Int)) from ⟨(fun h9 h8 => b_4 h9 ⟨h8, z_cmp ex_6 (by omega)⟩), (fun h8 h9 => euI_g (b_5 h8 h9) (zr_i ex_6 rfl (by omega)))⟩) (Nat.le_of_ble_eq_true rfl) (Nat.le_of_ble_eq_true rfl) dX13_common_33
      · have h_7 : x_6.toInt ≠ 0 := c_ne h_7
        refine lv_lload hx hb dX13_common_13 (lv_at hl 1 rfl) ?_
        refine lv_lload hx hb dX13_common_15 (lv_at hl 0 rfl) ?_
        refine lv_lrem hx hb dX13_common_17 (nz_cmp ex_6 (by omega)) ?_
        refine lv_topl (fun x_8 ex_8 => ?_)
        refine lv_lstore (lv' := [(8, .long x_8), (6, .long i_2), (4, .long i_3), (0, .long p1), (2, .long p2)]) hx hb dX13_common_18 hl (by decide) rfl (fun ls hl => ?_)
        refine lv_lload hx hb dX13_common_20 (lv_at hl 1 rfl) ?_
        refine lv_lstore (lv' := [(4, .long i_2), (8, .long x_8), (6, .long i_2), (0, .long p1), (2, .long p2)]) hx hb dX13_common_22 hl (by decide) rfl (fun ls hl => ?_)
        refine lv_lload hx hb dX13_common_24 (lv_at hl 1 rfl) ?_
        refine lv_lstore (lv' := [(6, .long x_8), (4, .long i_2), (8, .long x_8), (0, .long p1), (2, .long p2)]) hx hb dX13_common_26 hl (by decide) rfl (fun ls hl => ?_)
        refine lv_goto (tgt := 6) hx hb dX13_common_28 (by decide) ?_
        have hlr := lrem_lt ex_8 (nz_cmp ex_6 (by omega))
        exact ihlp_1 x_8 i_2 _ _ _ (show ¬ p2 = 0 → ¬ (i_2 = 0 ∧ x_8 = 0) from (fun _ h8 => nz_cmp ex_6 (by omega) h8.1)) (show 0 ≤ p1.toInt → 0 ≤ p2.toInt → euI p1.toInt p2.toInt (i_2).toInt (x_8).toInt from (fun h8 h9 => (euI_up (b_5 h8 h9) (nr_i ex_6 rfl (by omega)) ex_8).1)) (show ((x_8.toInt.natAbs : Nat) : Int) + 1 ≤ (nlp_1 : Int) by omega) hP hD hS (lv_sub hl [0, 1, 3, 4] rfl)
  exact lp_1 9223372036854775809 p2 p1 _ _ _ (show ¬ p2 = 0 → ¬ (p1 = 0 ∧ p2 = 0) from (fun h9 h8 => h9 h8.2)) (show 0 ≤ p1.toInt → 0 ≤ p2.toInt → euI p1.toInt p2.toInt (p1).toInt (p2).toInt from (fun h8 h9 => euI_0 h8 h9)) (show ((p2.toInt.natAbs : Nat) : Int) + 1 ≤ ((9223372036854775809 : Nat) : Int) by omega) hP hD hS hl
set_option maxHeartbeats 4000000 in
set_option maxRecDepth 100000 in
theorem sX13_fraction (l : Launch) (dC : Nat → ClassId) (dI : Nat → Nat → Nat) (cy : Nat → ClassId) (h0 : Nat) (m_thrown : Int32) (m_trouble : Int32) (m_where : Int32) (m_park : Value) (m_read : Value) (m_tape : Nat) (m_taped : Int32) (m_size : Int32) (m_spot : Int32) (m_sort : Int32) (m_place : Int32) (m_letters : Int32) (m_number : Int32) (m_fault : Int32) (m_wrongAt : Int32) (m_word : Int64) (m_v : Nat) (m_x : Nat) (m_past : Nat) (m_kept : Nat) (m_acts : Int32) (m_images : Int32) (m_left : Nat) (m_far : Nat) (m_line : Nat) (m_fitsNow : Int32) (m_ditchIn : Nat) (m_treadLeft : Int32) (m_rambledTo : Int32) (m_rambledFalls : Int32) (m_rambledIn : Int32) (p1 : Int64) (p2 : Int64) (p3 : Int32) (hm_taped : 0 ≤ m_taped.toInt ∧ m_taped.toInt ≤ 800) (hm_size : 0 ≤ m_size.toInt ∧ m_size.toInt ≤ 800) (hm_spot : 0 ≤ m_spot.toInt ∧ m_spot.toInt ≤ 800) (hm_place : 0 ≤ m_place.toInt ∧ m_place.toInt ≤ 800) (hm_acts : 0 ≤ m_acts.toInt ∧ m_acts.toInt ≤ 16) (hm_images : 0 ≤ m_images.toInt ∧ m_images.toInt ≤ 3) : ctL l dC dI cy hp yX13_fraction cX13_fraction 6 ({ frames := 1, cells := 0, slots := 0, locals := 29 } : Room) [.ref h0, .long p1, .long p2, .int p3] [(h0, .inr (12, [.int m_thrown, .int m_trouble, .int m_where, m_park, m_read, .ref m_tape, .int m_taped, .int m_size, .int m_spot, .int m_sort, .int m_place, .int m_letters, .int m_number, .int m_fault, .int m_wrongAt, .long m_word, .ref m_v, .ref m_x, .ref m_past, .ref m_kept, .int m_acts, .int m_images, .ref m_left, .ref m_far, .ref m_line, .int m_fitsNow, .ref m_ditchIn, .int m_treadLeft, .int m_rambledTo, .int m_rambledFalls, .int m_rambledIn]))] (S := Int32 × Int32) (fun r u => (frM p1.toInt p2.toInt p3.toInt r.toInt) ∧ (u.2.toInt = -1)) (fun u => [(h0, .inr (12, [.int m_thrown, .int u.1, .int u.2, m_park, m_read, .ref m_tape, .int m_taped, .int m_size, .int m_spot, .int m_sort, .int m_place, .int m_letters, .int m_number, .int m_fault, .int m_wrongAt, .long m_word, .ref m_v, .ref m_x, .ref m_past, .ref m_kept, .int m_acts, .int m_images, .ref m_left, .ref m_far, .ref m_line, .int m_fitsNow, .ref m_ditchIn, .int m_treadLeft, .int m_rambledTo, .int m_rambledFalls, .int m_rambledIn]))]) := by
  refine ctL.of (by decide +kernel) (Nat.le_of_ble_eq_true rfl) ?_
  intro p e s m args below meth c A ls Q hQ X hr hlocks hin hA hP hD hS hl
  have hx := X.1
  have hb := X.2.1
  have hK := X.2.2.2.2.2.1
  have hl : lv_has ls 6 [(0, .ref h0), (1, .long p1), (3, .long p2), (5, .int p3)] := hl
  have dy_1 := ti_bd p3
  refine lv_aload_n hx hb dX13_fraction_0 rfl (lv_at hl 0 rfl) ?_
  refine lv_iconst (v := 0) hx hb dX13_fraction_1 (by decide) ?_
  refine sl_Ic (rV_I (As := [.int 0]) (rest := []) X hp_st (fun _ _ _ h => h) (sX13_good l dC dI cy h0 m_thrown m_trouble m_where m_park m_read m_tape m_taped m_size m_spot m_sort m_place m_letters m_number m_fault m_wrongAt m_word m_v m_x m_past m_kept m_acts m_images m_left m_far m_line m_fitsNow m_ditchIn m_treadLeft m_rambledTo m_rambledFalls m_rambledIn 0 hm_taped hm_size hm_spot hm_place hm_acts hm_images) kX13_good vX13_good mX13_52 hP hD hS hA [0] (by decide) rfl 0 (ci := 12) rfl rfl rfl hl rfl rfl (Nat.le_of_ble_eq_true rfl) dX13_fraction_2 ⟨(Nat.le_of_ble_eq_true rfl), (Nat.le_of_ble_eq_true rfl)⟩ ⟨(Nat.le_of_ble_eq_true rfl), (Nat.le_of_ble_eq_true rfl)⟩) hP hD hS hA [0] [false] rfl rfl rfl (fun r_4 u_6 H locs k_5 hP hD hS => ?_)
  obtain ⟨m_trouble1_2, m_where1_3⟩ := u_6
  have k_5 : (r_4.toInt = (0 : Int32).toInt) ∧ (m_where1_3.toInt = -1) := k_5
  have kc_7 : (0 : Int32).toInt = 0 := by decide
  obtain ⟨k_5_0, k_5_1⟩ := k_5
  have hPD := vPD (ws' := [(h0, .inr (12, [.int m_thrown, .int m_trouble1_2, .int m_where1_3, m_park, m_read, .ref m_tape, .int m_taped, .int m_size, .int m_spot, .int m_sort, .int m_place, .int m_letters, .int m_number, .int m_fault, .int m_wrongAt, .long m_word, .ref m_v, .ref m_x, .ref m_past, .ref m_kept, .int m_acts, .int m_images, .ref m_left, .ref m_far, .ref m_line, .int m_fitsNow, .ref m_ditchIn, .int m_treadLeft, .int m_rambledTo, .int m_rambledFalls, .int m_rambledIn]))]) hP hD rfl
  have hP := hPD.1
  have hD := hPD.2
  refine lv_pop hx hb dX13_fraction_5 rfl ?_
  refine lv_lload_n hx hb dX13_fraction_6 rfl (lv_at hl 2 rfl) ?_
  refine lv_lconst (v := 0) hx hb dX13_fraction_7 (by decide) ?_
  refine W.lcmp hx hb dX13_fraction_8 ?_
  refine lv_topi (fun x_8 ex_8 => ?_)
  refine lv_if_ne (tgt := 23) hx hb dX13_fraction_9 (by decide) (fun h_9 => ?_) (fun h_9 => ?_)
  · have h_9 : x_8.toInt ≠ 0 := c_ne h_9
    refine lv_iload hx hb dX13_fraction_23 (lv_at hl 3 rfl) ?_
    refine lv_if_eq (tgt := 32) hx hb dX13_fraction_25 (by decide) (fun h_10 => ?_) (fun h_10 => ?_)
    · have h_10 : p3.toInt = 0 := c_eq h_10
      refine lv_lload_n hx hb dX13_fraction_32 rfl (lv_at hl 1 rfl) ?_
      refine lv_lload_n hx hb dX13_fraction_33 rfl (lv_at hl 1 rfl) ?_
      refine lv_lload_n hx hb dX13_fraction_34 rfl (lv_at hl 2 rfl) ?_
      refine sl_Lc (rS_L (As := [.long p1, .long p2]) (rest := [.long p1]) X hp_st (fun _ _ _ h => h) (sX13_common l dC dI cy p1 p2) kX13_common w_1876 mX13_55 hP hD hS hA [] (by decide) rfl hl rfl rfl (Nat.le_of_ble_eq_true rfl) dX13_fraction_35 ⟨(Nat.le_of_ble_eq_true rfl), (Nat.le_of_ble_eq_true rfl)⟩ ⟨(Nat.le_of_ble_eq_true rfl), (Nat.le_of_ble_eq_true rfl)⟩) hP hD hS hA [] [true] rfl rfl rfl (fun r_11 u_13 H locs k_12 hP hD hS => ?_)
      have k_12 : (¬ p2 = 0 → ¬ r_11 = 0) ∧ (0 ≤ p1.toInt → 0 ≤ p2.toInt → r_11.toInt = ((Nat.gcd p1.toInt.toNat p2.toInt.toNat : Nat) : Int)) := k_12
      obtain ⟨k_12_0, k_12_1⟩ := k_12
      have hPD := vPD (ws' := [(h0, .inr (12, [.int m_thrown, .int m_trouble1_2, .int m_where1_3, m_park, m_read, .ref m_tape, .int m_taped, .int m_size, .int m_spot, .int m_sort, .int m_place, .int m_letters, .int m_number, .int m_fault, .int m_wrongAt, .long m_word, .ref m_v, .ref m_x, .ref m_past, .ref m_kept, .int m_acts, .int m_images, .ref m_left, .ref m_far, .ref m_line, .int m_fitsNow, .ref m_ditchIn, .int m_treadLeft, .int m_rambledTo, .int m_rambledFalls, .int m_rambledIn]))]) hP hD rfl
      have hP := hPD.1
      have hD := hPD.2
      refine lv_ldiv hx hb dX13_fraction_38 (k_12_0 (nz_cmp ex_8 (by omega))) ?_
      refine lv_topl (fun x_14 ex_14 => ?_)
      exact eL hQ X hr hlocks hP hD hS (m_trouble1_2, m_where1_3) [0] (by decide) rfl (show (frM p1.toInt p2.toInt p3.toInt x_14.toInt) ∧ (m_where1_3.toInt = -1) from ⟨(fr_of k_12_1 rfl rfl (nr_i ex_8 rfl (by omega)) (by first | exact Or.inl ⟨by omega, ex_14⟩ | exact Or.inr ⟨by omega, ex_14⟩)), k_5_1⟩) (Nat.le_of_ble_eq_true rfl) (Nat.le_of_ble_eq_true rfl) dX13_fraction_39
    · have h_10 : p3.toInt ≠ 0 := c_ne h_10
      refine lv_lload_n hx hb dX13_fraction_28 rfl (lv_at hl 2 rfl) ?_
      refine lv_goto (tgt := 33) hx hb dX13_fraction_29 (by decide) ?_
      refine lv_lload_n hx hb dX13_fraction_33 rfl (lv_at hl 1 rfl) ?_
      refine lv_lload_n hx hb dX13_fraction_34 rfl (lv_at hl 2 rfl) ?_
      refine sl_Lc (rS_L (As := [.long p1, .long p2]) (rest := [.long p2]) X hp_st (fun _ _ _ h => h) (sX13_common l dC dI cy p1 p2) kX13_common w_1876 mX13_55 hP hD hS hA [] (by decide) rfl hl rfl rfl (Nat.le_of_ble_eq_true rfl) dX13_fraction_35 ⟨(Nat.le_of_ble_eq_true rfl), (Nat.le_of_ble_eq_true rfl)⟩ ⟨(Nat.le_of_ble_eq_true rfl), (Nat.le_of_ble_eq_true rfl)⟩) hP hD hS hA [] [true] rfl rfl rfl (fun r_15 u_17 H locs k_16 hP hD hS => ?_)
      have k_16 : (¬ p2 = 0 → ¬ r_15 = 0) ∧ (0 ≤ p1.toInt → 0 ≤ p2.toInt → r_15.toInt = ((Nat.gcd p1.toInt.toNat p2.toInt.toNat : Nat) : Int)) := k_16
      obtain ⟨k_16_0, k_16_1⟩ := k_16
      have hPD := vPD (ws' := [(h0, .inr (12, [.int m_thrown, .int m_trouble1_2, .int m_where1_3, m_park, m_read, .ref m_tape, .int m_taped, .int m_size, .int m_spot, .int m_sort, .int m_place, .int m_letters, .int m_number, .int m_fault, .int m_wrongAt, .long m_word, .ref m_v, .ref m_x, .ref m_past, .ref m_kept, .int m_acts, .int m_images, .ref m_left, .ref m_far, .ref m_line, .int m_fitsNow, .ref m_ditchIn, .int m_treadLeft, .int m_rambledTo, .int m_rambledFalls, .int m_rambledIn]))]) hP hD rfl
      have hP := hPD.1
      have hD := hPD.2
      refine lv_ldiv hx hb dX13_fraction_38 (k_16_0 (nz_cmp ex_8 (by omega))) ?_
      refine lv_topl (fun x_18 ex_18 => ?_)
      exact eL hQ X hr hlocks hP hD hS (m_trouble1_2, m_where1_3) [0] (by decide) rfl (show (frM p1.toInt p2.toInt p3.toInt x_18.toInt) ∧ (m_where1_3.toInt = -1) from ⟨(fr_of k_16_1 rfl rfl (nr_i ex_8 rfl (by omega)) (by first | exact Or.inl ⟨by omega, ex_18⟩ | exact Or.inr ⟨by omega, ex_18⟩)), k_5_1⟩) (Nat.le_of_ble_eq_true rfl) (Nat.le_of_ble_eq_true rfl) dX13_fraction_39
  · have h_9 : x_8.toInt = 0 := c_eq h_9
    refine lv_iload hx hb dX13_fraction_12 (lv_at hl 3 rfl) ?_
    refine lv_if_eq (tgt := 21) hx hb dX13_fraction_14 (by decide) (fun h_19 => ?_) (fun h_19 => ?_)
    · have h_19 : p3.toInt = 0 := c_eq h_19
      refine lv_lconst (v := 0) hx hb dX13_fraction_21 (by decide) ?_
      exact eL hQ X hr hlocks hP hD hS (m_trouble1_2, m_where1_3) [0] (by decide) rfl (show (frM p1.toInt p2.toInt p3.toInt (0 : Int64).toInt) ∧ (m_where1_3.toInt = -1) from ⟨(fr_0 (zr_i ex_8 rfl (by omega)) (Or.inr ⟨by omega, by decide⟩)), k_5_1⟩) (Nat.le_of_ble_eq_true rfl) (Nat.le_of_ble_eq_true rfl) dX13_fraction_22
    · have h_19 : p3.toInt ≠ 0 := c_ne h_19
      refine lv_lconst (v := 1) hx hb dX13_fraction_17 (by decide) ?_
      refine lv_goto (tgt := 22) hx hb dX13_fraction_18 (by decide) ?_
      exact eL hQ X hr hlocks hP hD hS (m_trouble1_2, m_where1_3) [0] (by decide) rfl (show (frM p1.toInt p2.toInt p3.toInt (1 : Int64).toInt) ∧ (m_where1_3.toInt = -1) from ⟨(fr_0 (zr_i ex_8 rfl (by omega)) (Or.inl ⟨by omega, by decide⟩)), k_5_1⟩) (Nat.le_of_ble_eq_true rfl) (Nat.le_of_ble_eq_true rfl) dX13_fraction_22
set_option maxHeartbeats 4000000 in
set_option maxRecDepth 100000 in
theorem sX13_byteAt (l : Launch) (dC : Nat → ClassId) (dI : Nat → Nat → Nat) (cy : Nat → ClassId) (h0 : Nat) (m_thrown : Int32) (m_trouble : Int32) (m_where : Int32) (m_park : Value) (m_read : Value) (m_tape : Nat) (m_taped : Int32) (m_size : Int32) (m_spot : Int32) (m_sort : Int32) (m_place : Int32) (m_letters : Int32) (m_number : Int32) (m_fault : Int32) (m_wrongAt : Int32) (m_word : Int64) (m_v : Nat) (m_x : Nat) (m_past : Nat) (m_kept : Nat) (m_acts : Int32) (m_images : Int32) (m_left : Nat) (m_far : Nat) (m_line : Nat) (m_fitsNow : Int32) (m_ditchIn : Nat) (m_treadLeft : Int32) (m_rambledTo : Int32) (m_rambledFalls : Int32) (m_rambledIn : Int32) (m_tapef : Nat → Int32) (p1 : Int32) (hm_taped : 0 ≤ m_taped.toInt ∧ m_taped.toInt ≤ 800) (hm_size : 0 ≤ m_size.toInt ∧ m_size.toInt ≤ 800) (hm_spot : 0 ≤ m_spot.toInt ∧ m_spot.toInt ≤ 800) (hm_place : 0 ≤ m_place.toInt ∧ m_place.toInt ≤ 800) (hm_acts : 0 ≤ m_acts.toInt ∧ m_acts.toInt ≤ 16) (hm_images : 0 ≤ m_images.toInt ∧ m_images.toInt ≤ 3) (hp1 : 0 ≤ p1.toInt) : ctI l dC dI cy hp yX13_byteAt cX13_byteAt 2 .int ({ frames := 0, cells := 0, slots := 0, locals := 0 } : Room) [.ref h0, .int p1] [(h0, .inr (12, [.int m_thrown, .int m_trouble, .int m_where, m_park, m_read, .ref m_tape, .int m_taped, .int m_size, .int m_spot, .int m_sort, .int m_place, .int m_letters, .int m_number, .int m_fault, .int m_wrongAt, .long m_word, .ref m_v, .ref m_x, .ref m_past, .ref m_kept, .int m_acts, .int m_images, .ref m_left, .ref m_far, .ref m_line, .int m_fitsNow, .ref m_ditchIn, .int m_treadLeft, .int m_rambledTo, .int m_rambledFalls, .int m_rambledIn])), (m_tape, .inl (cy 0, 800, .inl m_tapef))] (S := Unit) (fun r _ => ((-1) ≤ r.toInt ∧ r.toInt ≤ 255) ∧ (r.toInt = byF m_tapef m_size.toInt p1.toInt) ∧ (r.toInt = -1 ∨ (p1.toInt < m_size.toInt ∧ 0 ≤ r.toInt))) (fun _ => [(h0, .inr (12, [.int m_thrown, .int m_trouble, .int m_where, m_park, m_read, .ref m_tape, .int m_taped, .int m_size, .int m_spot, .int m_sort, .int m_place, .int m_letters, .int m_number, .int m_fault, .int m_wrongAt, .long m_word, .ref m_v, .ref m_x, .ref m_past, .ref m_kept, .int m_acts, .int m_images, .ref m_left, .ref m_far, .ref m_line, .int m_fitsNow, .ref m_ditchIn, .int m_treadLeft, .int m_rambledTo, .int m_rambledFalls, .int m_rambledIn])), (m_tape, .inl (cy 0, 800, .inl m_tapef))]) := by
  refine ctI.of (by decide +kernel) (Nat.le_of_ble_eq_true rfl) ?_
  intro p e s m args below meth c A ls Q hQ X hr hlocks hin hA hP hD hS hl
  have hx := X.1
  have hb := X.2.1
  have hK := X.2.2.2.2.2.1
  have hl : lv_has ls 2 [(0, .ref h0), (1, .int p1)] := hl
  have dy_1 := ti_bd p1
  refine lv_iload_n hx hb dX13_byteAt_0 rfl (lv_at hl 1 rfl) ?_
  refine lv_aload_n hx hb dX13_byteAt_1 rfl (lv_at hl 0 rfl) ?_
  refine r_get X kcX13 (ci := 12) rfl hP 0 rfl 7 (by decide) fX13_59 rfl dX13_byteAt_2 ?_
  refine lv_icmp_ge (tgt := 21) hx hb dX13_byteAt_5 (by decide) (fun h_2 => ?_) (fun h_2 => ?_)
  · have h_2 : m_size.toInt ≤ p1.toInt := c_le h_2
    refine lv_iconst (v := -1) hx hb dX13_byteAt_21 (by decide) ?_
    exact eI hQ X hr hlocks hP hD hS () [0, 1] (by decide) rfl rfl (show ((-1) ≤ (-1 : Int32).toInt ∧ (-1 : Int32).toInt ≤ 255) ∧ ((-1 : Int32).toInt = byF m_tapef m_size.toInt p1.toInt) ∧ ((-1 : Int32).toInt = -1 ∨ (p1.toInt < m_size.toInt ∧ 0 ≤ (-1 : Int32).toInt)) from ⟨(by first | decide | omega | (refine ⟨by decide, ?_⟩; omega) | (have h9_0 : (-1 : Int32).toInt = (-1) := (by decide); omega)), (by unfold byF; rw [if_neg (by omega)]; decide), (Or.inl (by decide))⟩) (Nat.le_of_ble_eq_true rfl) (Nat.le_of_ble_eq_true rfl) dX13_byteAt_22
  · have h_2 : p1.toInt < m_size.toInt := c_nle h_2
    refine lv_aload_n hx hb dX13_byteAt_8 rfl (lv_at hl 0 rfl) ?_
    refine r_get X kcX13 (ci := 12) rfl hP 0 rfl 5 (by decide) fX13_13 rfl dX13_byteAt_9 ?_
    refine lv_iload_n hx hb dX13_byteAt_12 rfl (lv_at hl 1 rfl) ?_
    refine va_bald (D := (dC, dI)) (cl := vwCl) hx hb hK hP 1 0 rfl rfl (i := p1) (vin (by omega) (by omega)) dX13_byteAt_13 ?_
    refine lv_topi (fun x_3 ex_3 => ?_)
    refine lv_sipush (v := 255) hx hb dX13_byteAt_14 (by decide) ?_
    refine lv_iand hx hb dX13_byteAt_17 ?_
    have dy_4 := ti_bd x_3
    refine lv_topi (fun x_5 ex_5 => ?_)
    have tx_5 : 0 ≤ x_5.toInt ∧ x_5.toInt ≤ 255 := ti_andr ex_5 (by decide)
    refine lv_goto (tgt := 22) hx hb dX13_byteAt_18 (by decide) ?_
    exact eI hQ X hr hlocks hP hD hS () [0, 1] (by decide) rfl rfl (show ((-1) ≤ x_5.toInt ∧ x_5.toInt ≤ 255) ∧ (x_5.toInt = byF m_tapef m_size.toInt p1.toInt) ∧ (x_5.toInt = -1 ∨ (p1.toInt < m_size.toInt ∧ 0 ≤ x_5.toInt)) from ⟨(by omega), (by unfold byF; rw [if_pos (by omega), ex_5, ex_3]; rfl), (Or.inr (by omega))⟩) (Nat.le_of_ble_eq_true rfl) (Nat.le_of_ble_eq_true rfl) dX13_byteAt_22
set_option maxHeartbeats 4000000 in
set_option maxRecDepth 100000 in
theorem sX13_goesOn_o (l : Launch) (dC : Nat → ClassId) (dI : Nat → Nat → Nat) (cy : Nat → ClassId) (h0 : Nat) (m_thrown : Int32) (m_trouble : Int32) (m_where : Int32) (m_park : Value) (m_read : Value) (m_tape : Nat) (m_taped : Int32) (m_size : Int32) (m_spot : Int32) (m_place : Int32) (m_letters : Int32) (m_number : Int32) (m_fault : Int32) (m_wrongAt : Int32) (m_word : Int64) (m_v : Nat) (m_x : Nat) (m_past : Nat) (m_kept : Nat) (m_acts : Int32) (m_images : Int32) (m_left : Nat) (m_far : Nat) (m_line : Nat) (m_fitsNow : Int32) (m_ditchIn : Nat) (m_treadLeft : Int32) (m_rambledTo : Int32) (m_rambledFalls : Int32) (m_rambledIn : Int32) (hm_taped : 0 ≤ m_taped.toInt ∧ m_taped.toInt ≤ 800) (hm_size : 0 ≤ m_size.toInt ∧ m_size.toInt ≤ 800) (hm_spot : 0 ≤ m_spot.toInt ∧ m_spot.toInt ≤ 800) (hm_place : 0 ≤ m_place.toInt ∧ m_place.toInt ≤ 800) (hm_acts : 0 ≤ m_acts.toInt ∧ m_acts.toInt ≤ 16) (hm_images : 0 ≤ m_images.toInt ∧ m_images.toInt ≤ 3) : ctV l dC dI cy hp yX13_goesOn cX13_goesOn 3 ({ frames := 0, cells := 0, slots := 0, locals := 0 } : Room) [.ref h0] [(h0, .inr (12, [.int m_thrown, .int m_trouble, .int m_where, m_park, m_read, .ref m_tape, .int m_taped, .int m_size, .int m_spot, .int 5, .int m_place, .int m_letters, .int m_number, .int m_fault, .int m_wrongAt, .long m_word, .ref m_v, .ref m_x, .ref m_past, .ref m_kept, .int m_acts, .int m_images, .ref m_left, .ref m_far, .ref m_line, .int m_fitsNow, .ref m_ditchIn, .int m_treadLeft, .int m_rambledTo, .int m_rambledFalls, .int m_rambledIn]))] (S := Unit) (fun _ => True) (fun _ => [(h0, .inr (12, [.int m_thrown, .int m_trouble, .int m_where, m_park, m_read, .ref m_tape, .int m_taped, .int m_size, .int m_spot, .int 5, .int m_place, .int m_letters, .int m_number, .int m_fault, .int m_wrongAt, .long m_word, .ref m_v, .ref m_x, .ref m_past, .ref m_kept, .int m_acts, .int m_images, .ref m_left, .ref m_far, .ref m_line, .int m_fitsNow, .ref m_ditchIn, .int m_treadLeft, .int m_rambledTo, .int m_rambledFalls, .int m_rambledIn]))]) := by
  refine ctV.of (by decide +kernel) (Nat.le_of_ble_eq_true rfl) ?_
  intro p e s m args below meth c A ls Q hQ X hr hlocks hin hA hP hD hS hl
  have hx := X.1
  have hb := X.2.1
  have hK := X.2.2.2.2.2.1
  have hl : lv_has ls 3 [(0, .ref h0)] := hl
  refine lv_aload_n hx hb dX13_goesOn_0 rfl (lv_at hl 0 rfl) ?_
  refine r_get X kcX13 (ci := 12) rfl hP 0 rfl 9 (by decide) fX13_74 rfl dX13_goesOn_1 ?_
  refine lv_iconst (v := 5) hx hb dX13_goesOn_4 (by decide) ?_
  refine lv_icmp_ne (tgt := 9) hx hb dX13_goesOn_5 (by decide) (fun h_1 => absurd (by decide) h_1) (fun _ => ?_)
  exact eV hQ X hr hlocks hP hD hS () [0] (by decide) rfl trivial (Nat.le_of_ble_eq_true rfl) (Nat.le_of_ble_eq_true rfl) dX13_goesOn_8
set_option maxHeartbeats 4000000 in
set_option maxRecDepth 100000 in
theorem sX13_flaw_o (l : Launch) (dC : Nat → ClassId) (dI : Nat → Nat → Nat) (cy : Nat → ClassId) (h0 : Nat) (m_thrown : Int32) (m_trouble : Int32) (m_where : Int32) (m_park : Value) (m_read : Value) (m_tape : Nat) (m_taped : Int32) (m_size : Int32) (m_spot : Int32) (m_place : Int32) (m_letters : Int32) (m_number : Int32) (m_fault : Int32) (m_wrongAt : Int32) (m_word : Int64) (m_v : Nat) (m_x : Nat) (m_past : Nat) (m_kept : Nat) (m_acts : Int32) (m_images : Int32) (m_left : Nat) (m_far : Nat) (m_line : Nat) (m_fitsNow : Int32) (m_ditchIn : Nat) (m_treadLeft : Int32) (m_rambledTo : Int32) (m_rambledFalls : Int32) (m_rambledIn : Int32) (p1 : Int32) (hm_taped : 0 ≤ m_taped.toInt ∧ m_taped.toInt ≤ 800) (hm_size : 0 ≤ m_size.toInt ∧ m_size.toInt ≤ 800) (hm_spot : 0 ≤ m_spot.toInt ∧ m_spot.toInt ≤ 800) (hm_place : 0 ≤ m_place.toInt ∧ m_place.toInt ≤ 800) (hm_acts : 0 ≤ m_acts.toInt ∧ m_acts.toInt ≤ 16) (hm_images : 0 ≤ m_images.toInt ∧ m_images.toInt ≤ 3) : ctV l dC dI cy hp yX13_flaw cX13_flaw 2 ({ frames := 0, cells := 0, slots := 0, locals := 0 } : Room) [.ref h0, .int p1] [(h0, .inr (12, [.int m_thrown, .int m_trouble, .int m_where, m_park, m_read, .ref m_tape, .int m_taped, .int m_size, .int m_spot, .int 5, .int m_place, .int m_letters, .int m_number, .int m_fault, .int m_wrongAt, .long m_word, .ref m_v, .ref m_x, .ref m_past, .ref m_kept, .int m_acts, .int m_images, .ref m_left, .ref m_far, .ref m_line, .int m_fitsNow, .ref m_ditchIn, .int m_treadLeft, .int m_rambledTo, .int m_rambledFalls, .int m_rambledIn]))] (S := Unit) (fun _ => True) (fun _ => [(h0, .inr (12, [.int m_thrown, .int m_trouble, .int m_where, m_park, m_read, .ref m_tape, .int m_taped, .int m_size, .int m_spot, .int 5, .int m_place, .int m_letters, .int m_number, .int m_fault, .int m_wrongAt, .long m_word, .ref m_v, .ref m_x, .ref m_past, .ref m_kept, .int m_acts, .int m_images, .ref m_left, .ref m_far, .ref m_line, .int m_fitsNow, .ref m_ditchIn, .int m_treadLeft, .int m_rambledTo, .int m_rambledFalls, .int m_rambledIn]))]) := by
  refine ctV.of (by decide +kernel) (Nat.le_of_ble_eq_true rfl) ?_
  intro p e s m args below meth c A ls Q hQ X hr hlocks hin hA hP hD hS hl
  have hx := X.1
  have hb := X.2.1
  have hK := X.2.2.2.2.2.1
  have hl : lv_has ls 2 [(0, .ref h0), (1, .int p1)] := hl
  have dy_1 := ti_bd p1
  refine lv_aload_n hx hb dX13_flaw_0 rfl (lv_at hl 0 rfl) ?_
  refine r_get X kcX13 (ci := 12) rfl hP 0 rfl 9 (by decide) fX13_74 rfl dX13_flaw_1 ?_
  refine lv_iconst (v := 5) hx hb dX13_flaw_4 (by decide) ?_
  refine lv_icmp_ne (tgt := 9) hx hb dX13_flaw_5 (by decide) (fun h_2 => absurd (by decide) h_2) (fun _ => ?_)
  exact eV hQ X hr hlocks hP hD hS () [0] (by decide) rfl trivial (Nat.le_of_ble_eq_true rfl) (Nat.le_of_ble_eq_true rfl) dX13_flaw_8
end
section
set_option maxHeartbeats 4000000 in
set_option maxRecDepth 100000 in
theorem sX12_isUnsure (l : Launch) (dC : Nat → ClassId) (dI : Nat → Nat → Nat) (cy : Nat → ClassId) (h0 : Nat) (k_wide : Int32) (k_deep : Int32) (k_errs : Int32) (k_slips : Int32) (k_rows : Int32) (k_walkers : Int32) (k_walks : Int32) (k_unsures : Int32) (k_sort : Nat) (k_unsure : Nat) (k_kind : Nat) (k_at : Nat) (k_to : Nat) (k_from : Nat) (k_steps : Nat) (k_fell : Nat) (k_name : Nat) (k_unsuref : Nat → Int32) (p1 : Int32) (hk_wide : 0 ≤ k_wide.toInt ∧ k_wide.toInt ≤ 5) (hk_deep : 0 ≤ k_deep.toInt ∧ k_deep.toInt ≤ 4) (hk_rows : 0 ≤ k_rows.toInt ∧ k_rows.toInt ≤ 4) (hk_walkers : 0 ≤ k_walkers.toInt ∧ k_walkers.toInt ≤ 4) (hk_walks : 0 ≤ k_walks.toInt ∧ k_walks.toInt ≤ 6) (hk_unsures : 0 ≤ k_unsures.toInt ∧ k_unsures.toInt ≤ 5) : ctI l dC dI cy hp yX12_isUnsure cX12_isUnsure 3 .boolean ({ frames := 0, cells := 0, slots := 0, locals := 0 } : Room) [.ref h0, .int p1] [(h0, .inr (11, [.int k_wide, .int k_deep, .int k_errs, .int k_slips, .int k_rows, .int k_walkers, .int k_walks, .int k_unsures, .ref k_sort, .ref k_unsure, .ref k_kind, .ref k_at, .ref k_to, .ref k_from, .ref k_steps, .ref k_fell, .ref k_name])), (k_unsure, .inl (cy 1, 5, .inl k_unsuref))] (S := Unit) (fun r _ => (0 ≤ r.toInt ∧ r.toInt ≤ 1)) (fun _ => [(h0, .inr (11, [.int k_wide, .int k_deep, .int k_errs, .int k_slips, .int k_rows, .int k_walkers, .int k_walks, .int k_unsures, .ref k_sort, .ref k_unsure, .ref k_kind, .ref k_at, .ref k_to, .ref k_from, .ref k_steps, .ref k_fell, .ref k_name])), (k_unsure, .inl (cy 1, 5, .inl k_unsuref))]) := by
  refine ctI.of (by decide +kernel) (Nat.le_of_ble_eq_true rfl) ?_
  intro p e s m args below meth c A ls Q hQ X hr hlocks hin hA hP hD hS hl
  have hx := X.1
  have hb := X.2.1
  have hK := X.2.2.2.2.2.1
  have hl : lv_has ls 3 [(0, .ref h0), (1, .int p1)] := hl
  have dy_1 := ti_bd p1
  refine lv_iconst (v := 0) hx hb dX12_isUnsure_0 (by decide) ?_
  refine lv_istore_n (lv' := [(2, .int 0), (0, .ref h0), (1, .int p1)]) hx hb dX12_isUnsure_1 rfl hl (by decide) rfl (fun ls hl => ?_)
  have lp_2 : ∀ (nlp_2 : Nat) (i_3 : Int32) (H : Heap) (locs : List Loc) (ls : Array Slot), (0 ≤ i_3.toInt ∧ i_3.toInt ≤ 5) → (6 - i_3.toInt ≤ (nlp_2 : Int)) → va_P (dC, dI) vwCl [(h0, .inr (11, [.int k_wide, .int k_deep, .int k_errs, .int k_slips, .int k_rows, .int k_walkers, .int k_walks, .int k_unsures, .ref k_sort, .ref k_unsure, .ref k_kind, .ref k_at, .ref k_to, .ref k_from, .ref k_steps, .ref k_fell, .ref k_name])), (k_unsure, .inl (cy 1, 5, .inl k_unsuref))] H → va_D A [(h0, .inr (11, [.int k_wide, .int k_deep, .int k_errs, .int k_slips, .int k_rows, .int k_walkers, .int k_walks, .int k_unsures, .ref k_sort, .ref k_unsure, .ref k_kind, .ref k_at, .ref k_to, .ref k_from, .ref k_steps, .ref k_fell, .ref k_name])), (k_unsure, .inl (cy 1, 5, .inl k_unsuref))] → va_S A s.heap H locs → lv_has ls 3 [(2, .int i_3), (0, .ref h0), (1, .int p1)] → W p l e ({ frames := 0, cells := 0, slots := 0, locals := 0 } : Room) s m args below meth c H locs 0 0 Q (F0 m 2 ls []) := by
    intro nlp_2
    induction nlp_2 with
    | zero =>
      intro i_3 H locs ls b_4 hmlp_2 hP hD hS hl
      exfalso
      have di_3 := ti_bd i_3
      omega
    | succ nlp_2 ihlp_2 =>
      intro i_3 H locs ls b_4 hmlp_2 hP hD hS hl
      refine lv_iload_n hx hb dX12_isUnsure_2 rfl (lv_at hl 0 rfl) ?_
      refine lv_aload_n hx hb dX12_isUnsure_3 rfl (lv_at hl 1 rfl) ?_
      refine r_get X kcX12 (ci := 11) rfl hP 0 rfl 7 (by decide) fX12_45 rfl dX12_isUnsure_4 ?_
      refine lv_icmp_ge (tgt := 28) hx hb dX12_isUnsure_7 (by decide) (fun h_5 => ?_) (fun h_5 => ?_)
      · have h_5 : k_unsures.toInt ≤ i_3.toInt := c_le h_5
        refine lv_iconst (v := 0) hx hb dX12_isUnsure_28 (by decide) ?_
        exact eI hQ X hr hlocks hP hD hS () [0, 1] (by decide) rfl rfl (show (0 ≤ (0 : Int32).toInt ∧ (0 : Int32).toInt ≤ 1) from (by first | decide | (have h9_0 : (0 : Int32).toInt = 0 := (by decide); omega) | (refine ⟨by decide, ?_⟩; omega) | omega)) (Nat.le_of_ble_eq_true rfl) (Nat.le_of_ble_eq_true rfl) dX12_isUnsure_29
      · have h_5 : i_3.toInt < k_unsures.toInt := c_nle h_5
        refine lv_aload_n hx hb dX12_isUnsure_10 rfl (lv_at hl 1 rfl) ?_
        refine r_get X kcX12 (ci := 11) rfl hP 0 rfl 9 (by decide) fX12_15 rfl dX12_isUnsure_11 ?_
        refine lv_iload_n hx hb dX12_isUnsure_14 rfl (lv_at hl 0 rfl) ?_
        refine va_iald (D := (dC, dI)) (cl := vwCl) hx hb hK hP 1 1 rfl rfl (i := i_3) (vin (by omega) (by omega)) dX12_isUnsure_15 ?_
        refine lv_topi (fun x_6 ex_6 => ?_)
        refine lv_iload_n hx hb dX12_isUnsure_16 rfl (lv_at hl 2 rfl) ?_
        refine lv_icmp_ne (tgt := 22) hx hb dX12_isUnsure_17 (by decide) (fun h_7 => ?_) (fun h_7 => ?_)
        · have h_7 : x_6.toInt ≠ p1.toInt := c_ne h_7
          obtain ⟨x_8, ex_8⟩ : ∃ y : Int32, y = i_3 + 1 := ⟨_, rfl⟩
          have tx_8 : x_8.toInt = i_3.toInt + 1 := ti_add (A := i_3.toInt) (B := 1) ex_8 rfl rfl (by omega) (by omega)
          refine lv_iinc (v := x_8) (lv' := [(2, .int x_8), (0, .ref h0), (1, .int p1)]) hx hb dX12_isUnsure_22 hl (k := 0) rfl (by rw [ex_8]; rfl) (by decide) rfl (fun ls hl => ?_)
          refine lv_goto (tgt := 2) hx hb dX12_isUnsure_25 (by decide) ?_
          exact ihlp_2 x_8 _ _ _ (by omega) (show 6 - x_8.toInt ≤ (nlp_2 : Int) by omega) hP hD hS (lv_sub hl [0, 1, 2] rfl)
        · have h_7 : x_6.toInt = p1.toInt := c_eq h_7
          refine lv_iconst (v := 1) hx hb dX12_isUnsure_20 (by decide) ?_
          exact eI hQ X hr hlocks hP hD hS () [0, 1] (by decide) rfl rfl (show (0 ≤ (1 : Int32).toInt ∧ (1 : Int32).toInt ≤ 1) from (by first | decide | (have h9_0 : (1 : Int32).toInt = 1 := (by decide); omega) | (refine ⟨by decide, ?_⟩; omega) | omega)) (Nat.le_of_ble_eq_true rfl) (Nat.le_of_ble_eq_true rfl) dX12_isUnsure_21
  exact lp_2 6 0 _ _ _ (by decide) (show 6 - 0 ≤ ((6 : Nat) : Int) by omega) hP hD hS hl
end
