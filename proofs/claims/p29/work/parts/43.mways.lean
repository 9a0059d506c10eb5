set_option maxHeartbeats 4000000 in
set_option maxRecDepth 100000 in
theorem sX13_places (l : Launch) (dC : Nat → ClassId) (dI : Nat → Nat → Nat) (cy : Nat → ClassId) (h0 : Nat) (m_thrown : Int32) (m_trouble : Int32) (m_where : Int32) (m_park : Nat) (m_read : Value) (m_tape : Nat) (m_taped : Int32) (m_size : Int32) (m_spot : Int32) (m_sort : Int32) (m_place : Int32) (m_letters : Int32) (m_number : Int32) (m_fault : Int32) (m_wrongAt : Int32) (m_word : Int64) (m_v : Nat) (m_x : Nat) (m_past : Nat) (m_kept : Nat) (m_acts : Int32) (m_images : Int32) (m_left : Nat) (m_far : Nat) (m_line : Nat) (m_fitsNow : Int32) (m_ditchIn : Nat) (m_treadLeft : Int32) (m_rambledTo : Int32) (m_rambledFalls : Int32) (m_rambledIn : Int32) (m_park_wide : Int32) (m_park_deep : Int32) (m_park_errs : Int32) (m_park_slips : Int32) (m_park_rows : Int32) (m_park_walkers : Int32) (m_park_walks : Int32) (m_park_unsures : Int32) (m_park_sort : Nat) (m_park_unsure : Nat) (m_park_kind : Nat) (m_park_at : Nat) (m_park_to : Nat) (m_park_from : Nat) (m_park_steps : Nat) (m_park_fell : Nat) (m_park_name : Nat) (hm_taped : 0 ≤ m_taped.toInt ∧ m_taped.toInt ≤ 800) (hm_size : 0 ≤ m_size.toInt ∧ m_size.toInt ≤ 800) (hm_spot : 0 ≤ m_spot.toInt ∧ m_spot.toInt ≤ 800) (hm_place : 0 ≤ m_place.toInt ∧ m_place.toInt ≤ 800) (hm_acts : 0 ≤ m_acts.toInt ∧ m_acts.toInt ≤ 16) (hm_images : 0 ≤ m_images.toInt ∧ m_images.toInt ≤ 3) (hm_park_wide : 2 ≤ m_park_wide.toInt ∧ m_park_wide.toInt ≤ 5) (hm_park_deep : 2 ≤ m_park_deep.toInt ∧ m_park_deep.toInt ≤ 4) (hm_park_rows : 0 ≤ m_park_rows.toInt ∧ m_park_rows.toInt ≤ 4) (hm_park_walkers : 0 ≤ m_park_walkers.toInt ∧ m_park_walkers.toInt ≤ 4) (hm_park_walks : 0 ≤ m_park_walks.toInt ∧ m_park_walks.toInt ≤ 6) (hm_park_unsures : 0 ≤ m_park_unsures.toInt ∧ m_park_unsures.toInt ≤ 5) : ctI l dC dI cy hp yX13_places cX13_places 1 .int ({ frames := 0, cells := 0, slots := 0, locals := 0 } : Room) [.ref h0] [(h0, .inr (12, [.int m_thrown, .int m_trouble, .int m_where, .ref m_park, m_read, .ref m_tape, .int m_taped, .int m_size, .int m_spot, .int m_sort, .int m_place, .int m_letters, .int m_number, .int m_fault, .int m_wrongAt, .long m_word, .ref m_v, .ref m_x, .ref m_past, .ref m_kept, .int m_acts, .int m_images, .ref m_left, .ref m_far, .ref m_line, .int m_fitsNow, .ref m_ditchIn, .int m_treadLeft, .int m_rambledTo, .int m_rambledFalls, .int m_rambledIn])), (m_park, .inr (11, [.int m_park_wide, .int m_park_deep, .int m_park_errs, .int m_park_slips, .int m_park_rows, .int m_park_walkers, .int m_park_walks, .int m_park_unsures, .ref m_park_sort, .ref m_park_unsure, .ref m_park_kind, .ref m_park_at, .ref m_park_to, .ref m_park_from, .ref m_park_steps, .ref m_park_fell, .ref m_park_name]))] (S := Unit) (fun r _ => (4 ≤ r.toInt ∧ r.toInt ≤ 20) ∧ (r.toInt = (m_park_wide.toInt * m_park_deep.toInt))) (fun _ => [(h0, .inr (12, [.int m_thrown, .int m_trouble, .int m_where, .ref m_park, m_read, .ref m_tape, .int m_taped, .int m_size, .int m_spot, .int m_sort, .int m_place, .int m_letters, .int m_number, .int m_fault, .int m_wrongAt, .long m_word, .ref m_v, .ref m_x, .ref m_past, .ref m_kept, .int m_acts, .int m_images, .ref m_left, .ref m_far, .ref m_line, .int m_fitsNow, .ref m_ditchIn, .int m_treadLeft, .int m_rambledTo, .int m_rambledFalls, .int m_rambledIn])), (m_park, .inr (11, [.int m_park_wide, .int m_park_deep, .int m_park_errs, .int m_park_slips, .int m_park_rows, .int m_park_walkers, .int m_park_walks, .int m_park_unsures, .ref m_park_sort, .ref m_park_unsure, .ref m_park_kind, .ref m_park_at, .ref m_park_to, .ref m_park_from, .ref m_park_steps, .ref m_park_fell, .ref m_park_name]))]) := by
  refine ctI.of (by decide +kernel) (Nat.le_of_ble_eq_true rfl) ?_
  intro p e s m args below meth c A ls Q hQ X hr hlocks hin hA hP hD hS hl
  have hx := X.1
  have hb := X.2.1
  have hK := X.2.2.2.2.2.1
  have hl : lv_has ls 1 [(0, .ref h0)] := hl
  have hpl : 4 ≤ (m_park_wide.toInt * m_park_deep.toInt) ∧ (m_park_wide.toInt * m_park_deep.toInt) ≤ 20 := pl_bd (by omega) (by omega) (by omega) (by omega)
  refine lv_aload_n hx hb dX13_places_0 rfl (lv_at hl 0 rfl) ?_
  refine r_get X kcX13 (ci := 12) rfl hP 0 rfl 3 (by decide) fX13_269 rfl dX13_places_1 ?_
  refine r_get X kcX12 (ci := 11) rfl hP 1 rfl 0 (by decide) fX13_158 rfl dX13_places_4 ?_
  refine lv_aload_n hx hb dX13_places_7 rfl (lv_at hl 0 rfl) ?_
  refine r_get X kcX13 (ci := 12) rfl hP 0 rfl 3 (by decide) fX13_269 rfl dX13_places_8 ?_
  refine r_get X kcX12 (ci := 11) rfl hP 1 rfl 1 (by decide) fX13_166 rfl dX13_places_11 ?_
  refine lv_imul hx hb dX13_places_14 ?_
  refine lv_topi (fun x_1 ex_1 => ?_)
  have tx_1 : x_1.toInt = m_park_wide.toInt * m_park_deep.toInt ∧ 0 ≤ m_park_wide.toInt * m_park_deep.toInt ∧ m_park_wide.toInt * m_park_deep.toInt ≤ 20 := ti_mulq (A := 5) (B := 4) ex_1 (by omega) (by omega) (by omega) (by omega) (by decide)
  exact eI hQ X hr hlocks hP hD hS () [0, 1] (by decide) rfl rfl (show (4 ≤ x_1.toInt ∧ x_1.toInt ≤ 20) ∧ (x_1.toInt = (m_park_wide.toInt * m_park_deep.toInt)) from ⟨(by omega), (by omega)⟩) (Nat.le_of_ble_eq_true rfl) (Nat.le_of_ble_eq_true rfl) dX13_places_15
set_option maxHeartbeats 4000000 in
set_option maxRecDepth 100000 in
theorem sX13_isPlace (l : Launch) (dC : Nat → ClassId) (dI : Nat → Nat → Nat) (cy : Nat → ClassId) (h0 : Nat) (m_thrown : Int32) (m_trouble : Int32) (m_where : Int32) (m_park : Nat) (m_read : Value) (m_tape : Nat) (m_taped : Int32) (m_size : Int32) (m_spot : Int32) (m_sort : Int32) (m_place : Int32) (m_letters : Int32) (m_number : Int32) (m_fault : Int32) (m_wrongAt : Int32) (m_word : Int64) (m_v : Nat) (m_x : Nat) (m_past : Nat) (m_kept : Nat) (m_acts : Int32) (m_images : Int32) (m_left : Nat) (m_far : Nat) (m_line : Nat) (m_fitsNow : Int32) (m_ditchIn : Nat) (m_treadLeft : Int32) (m_rambledTo : Int32) (m_rambledFalls : Int32) (m_rambledIn : Int32) (m_park_wide : Int32) (m_park_deep : Int32) (m_park_errs : Int32) (m_park_slips : Int32) (m_park_rows : Int32) (m_park_walkers : Int32) (m_park_walks : Int32) (m_park_unsures : Int32) (m_park_sort : Nat) (m_park_unsure : Nat) (m_park_kind : Nat) (m_park_at : Nat) (m_park_to : Nat) (m_park_from : Nat) (m_park_steps : Nat) (m_park_fell : Nat) (m_park_name : Nat) (p1 : Int32) (hm_taped : 0 ≤ m_taped.toInt ∧ m_taped.toInt ≤ 800) (hm_size : 0 ≤ m_size.toInt ∧ m_size.toInt ≤ 800) (hm_spot : 0 ≤ m_spot.toInt ∧ m_spot.toInt ≤ 800) (hm_place : 0 ≤ m_place.toInt ∧ m_place.toInt ≤ 800) (hm_acts : 0 ≤ m_acts.toInt ∧ m_acts.toInt ≤ 16) (hm_images : 0 ≤ m_images.toInt ∧ m_images.toInt ≤ 3) (hm_park_wide : 2 ≤ m_park_wide.toInt ∧ m_park_wide.toInt ≤ 5) (hm_park_deep : 2 ≤ m_park_deep.toInt ∧ m_park_deep.toInt ≤ 4) (hm_park_rows : 0 ≤ m_park_rows.toInt ∧ m_park_rows.toInt ≤ 4) (hm_park_walkers : 0 ≤ m_park_walkers.toInt ∧ m_park_walkers.toInt ≤ 4) (hm_park_walks : 0 ≤ m_park_walks.toInt ∧ m_park_walks.toInt ≤ 6) (hm_park_unsures : 0 ≤ m_park_unsures.toInt ∧ m_park_unsures.toInt ≤ 5) : ctI l dC dI cy hp yX13_isPlace cX13_isPlace 2 .boolean ({ frames := 1, cells := 0, slots := 0, locals := 20 } : Room) [.ref h0, .int p1] [(h0, .inr (12, [.int m_thrown, .int m_trouble, .int m_where, .ref m_park, m_read, .ref m_tape, .int m_taped, .int m_size, .int m_spot, .int m_sort, .int m_place, .int m_letters, .int m_number, .int m_fault, .int m_wrongAt, .long m_word, .ref m_v, .ref m_x, .ref m_past, .ref m_kept, .int m_acts, .int m_images, .ref m_left, .ref m_far, .ref m_line, .int m_fitsNow, .ref m_ditchIn, .int m_treadLeft, .int m_rambledTo, .int m_rambledFalls, .int m_rambledIn])), (m_park, .inr (11, [.int m_park_wide, .int m_park_deep, .int m_park_errs, .int m_park_slips, .int m_park_rows, .int m_park_walkers, .int m_park_walks, .int m_park_unsures, .ref m_park_sort, .ref m_park_unsure, .ref m_park_kind, .ref m_park_at, .ref m_park_to, .ref m_park_from, .ref m_park_steps, .ref m_park_fell, .ref m_park_name]))] (S := Unit) (fun r _ => (0 ≤ r.toInt ∧ r.toInt ≤ 1) ∧ ((r.toInt = 1 ∧ 0 ≤ p1.toInt ∧ p1.toInt < (m_park_wide.toInt * m_park_deep.toInt)) ∨ (r.toInt = 0 ∧ (p1.toInt < 0 ∨ (m_park_wide.toInt * m_park_deep.toInt) ≤ p1.toInt)))) (fun _ => [(h0, .inr (12, [.int m_thrown, .int m_trouble, .int m_where, .ref m_park, m_read, .ref m_tape, .int m_taped, .int m_size, .int m_spot, .int m_sort, .int m_place, .int m_letters, .int m_number, .int m_fault, .int m_wrongAt, .long m_word, .ref m_v, .ref m_x, .ref m_past, .ref m_kept, .int m_acts, .int m_images, .ref m_left, .ref m_far, .ref m_line, .int m_fitsNow, .ref m_ditchIn, .int m_treadLeft, .int m_rambledTo, .int m_rambledFalls, .int m_rambledIn])), (m_park, .inr (11, [.int m_park_wide, .int m_park_deep, .int m_park_errs, .int m_park_slips, .int m_park_rows, .int m_park_walkers, .int m_park_walks, .int m_park_unsures, .ref m_park_sort, .ref m_park_unsure, .ref m_park_kind, .ref m_park_at, .ref m_park_to, .ref m_park_from, .ref m_park_steps, .ref m_park_fell, .ref m_park_name]))]) := by
  refine ctI.of (by decide +kernel) (Nat.le_of_ble_eq_true rfl) ?_
  intro p e s m args below meth c A ls Q hQ X hr hlocks hin hA hP hD hS hl
  have hx := X.1
  have hb := X.2.1
  have hK := X.2.2.2.2.2.1
  have hl : lv_has ls 2 [(0, .ref h0), (1, .int p1)] := hl
  have dy_1 := ti_bd p1
  have hpl : 4 ≤ (m_park_wide.toInt * m_park_deep.toInt) ∧ (m_park_wide.toInt * m_park_deep.toInt) ≤ 20 := pl_bd (by omega) (by omega) (by omega) (by omega)
  refine lv_aload_n hx hb dX13_isPlace_0 rfl (lv_at hl 0 rfl) ?_
  refine r_get X kcX13 (ci := 12) rfl hP 0 rfl 3 (by decide) fX13_269 rfl dX13_isPlace_1 ?_
  refine lv_ifnull hx hb dX13_isPlace_4 ?_
  refine lv_iload_n hx hb dX13_isPlace_7 rfl (lv_at hl 1 rfl) ?_
  refine lv_if_lt (tgt := 23) hx hb dX13_isPlace_8 (by decide) (fun h_2 => ?_) (fun h_2 => ?_)
  · have h_2 : p1.toInt < 0 := c_lt h_2
    refine lv_iconst (v := 0) hx hb dX13_isPlace_23 (by decide) ?_
    exact eI hQ X hr hlocks hP hD hS () [0, 1] (by decide) rfl rfl (show (0 ≤ (0 : Int32).toInt ∧ (0 : Int32).toInt ≤ 1) ∧ (((0 : Int32).toInt = 1 ∧ 0 ≤ p1.toInt ∧ p1.toInt < (m_park_wide.toInt * m_park_deep.toInt)) ∨ ((0 : Int32).toInt = 0 ∧ (p1.toInt < 0 ∨ (m_park_wide.toInt * m_park_deep.toInt) ≤ p1.toInt))) from ⟨(by decide), (Or.inr ⟨by decide, by omega⟩)⟩) (Nat.le_of_ble_eq_true rfl) (Nat.le_of_ble_eq_true rfl) dX13_isPlace_24
  · have h_2 : 0 ≤ p1.toInt := c_nlt h_2
    refine lv_iload_n hx hb dX13_isPlace_11 rfl (lv_at hl 1 rfl) ?_
    refine lv_aload_n hx hb dX13_isPlace_12 rfl (lv_at hl 0 rfl) ?_
    refine sl_Ic (rV_I (As := []) (rest := [.int p1]) X hp_st (fun _ _ _ h => h) (sX13_places l dC dI cy h0 m_thrown m_trouble m_where m_park m_read m_tape m_taped m_size m_spot m_sort m_place m_letters m_number m_fault m_wrongAt m_word m_v m_x m_past m_kept m_acts m_images m_left m_far m_line m_fitsNow m_ditchIn m_treadLeft m_rambledTo m_rambledFalls m_rambledIn m_park_wide m_park_deep m_park_errs m_park_slips m_park_rows m_park_walkers m_park_walks m_park_unsures m_park_sort m_park_unsure m_park_kind m_park_at m_park_to m_park_from m_park_steps m_park_fell m_park_name hm_taped hm_size hm_spot hm_place hm_acts hm_images hm_park_wide hm_park_deep hm_park_rows hm_park_walkers hm_park_walks hm_park_unsures) kX13_places vX13_places mX13_277 hP hD hS hA [0, 1] (by decide) rfl 0 (ci := 12) rfl rfl rfl hl rfl rfl (Nat.le_of_ble_eq_true rfl) dX13_isPlace_13 ⟨(Nat.le_of_ble_eq_true rfl), (Nat.le_of_ble_eq_true rfl)⟩ ⟨(Nat.le_of_ble_eq_true rfl), (Nat.le_of_ble_eq_true rfl)⟩) hP hD hS hA [0, 1] [false, false] rfl rfl rfl (fun r_3 u_5 H locs k_4 hP hD hS => ?_)
    have k_4 : (4 ≤ r_3.toInt ∧ r_3.toInt ≤ 20) ∧ (r_3.toInt = (m_park_wide.toInt * m_park_deep.toInt)) := k_4
    obtain ⟨k_4_0, k_4_1⟩ := k_4
    have hPD := vPD (ws' := [(h0, .inr (12, [.int m_thrown, .int m_trouble, .int m_where, .ref m_park, m_read, .ref m_tape, .int m_taped, .int m_size, .int m_spot, .int m_sort, .int m_place, .int m_letters, .int m_number, .int m_fault, .int m_wrongAt, .long m_word, .ref m_v, .ref m_x, .ref m_past, .ref m_kept, .int m_acts, .int m_images, .ref m_left, .ref m_far, .ref m_line, .int m_fitsNow, .ref m_ditchIn, .int m_treadLeft, .int m_rambledTo, .int m_rambledFalls, .int m_rambledIn])), (m_park, .inr (11, [.int m_park_wide, .int m_park_deep, .int m_park_errs, .int m_park_slips, .int m_park_rows, .int m_park_walkers, .int m_park_walks, .int m_park_unsures, .ref m_park_sort, .ref m_park_unsure, .ref m_park_kind, .ref m_park_at, .ref m_park_to, .ref m_park_from, .ref m_park_steps, .ref m_park_fell, .ref m_park_name]))]) hP hD rfl
    have hP := hPD.1
    have hD := hPD.2
    refine lv_icmp_ge (tgt := 23) hx hb dX13_isPlace_16 (by decide) (fun h_6 => ?_) (fun h_6 => ?_)
    · have h_6 : r_3.toInt ≤ p1.toInt := c_le h_6
      refine lv_iconst (v := 0) hx hb dX13_isPlace_23 (by decide) ?_
      exact eI hQ X hr hlocks hP hD hS () [0, 1] (by decide) rfl rfl (show (0 ≤ (0 : Int32).toInt ∧ (0 : Int32).toInt ≤ 1) ∧ (((0 : Int32).toInt = 1 ∧ 0 ≤ p1.toInt ∧ p1.toInt < (m_park_wide.toInt * m_park_deep.toInt)) ∨ ((0 : Int32).toInt = 0 ∧ (p1.toInt < 0 ∨ (m_park_wide.toInt * m_park_deep.toInt) ≤ p1.toInt))) from ⟨(by decide), (Or.inr ⟨by decide, by omega⟩)⟩) (Nat.le_of_ble_eq_true rfl) (Nat.le_of_ble_eq_true rfl) dX13_isPlace_24
    · have h_6 : p1.toInt < r_3.toInt := c_nle h_6
      refine lv_iconst (v := 1) hx hb dX13_isPlace_19 (by decide) ?_
      refine lv_goto (tgt := 24) hx hb dX13_isPlace_20 (by decide) ?_
      exact eI hQ X hr hlocks hP hD hS () [0, 1] (by decide) rfl rfl (show (0 ≤ (1 : Int32).toInt ∧ (1 : Int32).toInt ≤ 1) ∧ (((1 : Int32).toInt = 1 ∧ 0 ≤ p1.toInt ∧ p1.toInt < (m_park_wide.toInt * m_park_deep.toInt)) ∨ ((1 : Int32).toInt = 0 ∧ (p1.toInt < 0 ∨ (m_park_wide.toInt * m_park_deep.toInt) ≤ p1.toInt))) from ⟨(by decide), (Or.inl ⟨by decide, by omega, by omega⟩)⟩) (Nat.le_of_ble_eq_true rfl) (Nat.le_of_ble_eq_true rfl) dX13_isPlace_24
set_option maxHeartbeats 4000000 in
set_option maxRecDepth 100000 in
theorem sX13_isPlace_z (l : Launch) (dC : Nat → ClassId) (dI : Nat → Nat → Nat) (cy : Nat → ClassId) (h0 : Nat) (m_thrown : Int32) (m_trouble : Int32) (m_where : Int32) (m_read : Value) (m_tape : Nat) (m_taped : Int32) (m_size : Int32) (m_spot : Int32) (m_sort : Int32) (m_place : Int32) (m_letters : Int32) (m_number : Int32) (m_fault : Int32) (m_wrongAt : Int32) (m_word : Int64) (m_v : Nat) (m_x : Nat) (m_past : Nat) (m_kept : Nat) (m_acts : Int32) (m_images : Int32) (m_left : Nat) (m_far : Nat) (m_line : Nat) (m_fitsNow : Int32) (m_ditchIn : Nat) (m_treadLeft : Int32) (m_rambledTo : Int32) (m_rambledFalls : Int32) (m_rambledIn : Int32) (p1 : Int32) (hm_taped : 0 ≤ m_taped.toInt ∧ m_taped.toInt ≤ 800) (hm_size : 0 ≤ m_size.toInt ∧ m_size.toInt ≤ 800) (hm_spot : 0 ≤ m_spot.toInt ∧ m_spot.toInt ≤ 800) (hm_place : 0 ≤ m_place.toInt ∧ m_place.toInt ≤ 800) (hm_acts : 0 ≤ m_acts.toInt ∧ m_acts.toInt ≤ 16) (hm_images : 0 ≤ m_images.toInt ∧ m_images.toInt ≤ 3) : ctI l dC dI cy hp yX13_isPlace cX13_isPlace 2 .boolean ({ frames := 0, cells := 0, slots := 0, locals := 0 } : Room) [.ref h0, .int p1] [(h0, .inr (12, [.int m_thrown, .int m_trouble, .int m_where, .null, m_read, .ref m_tape, .int m_taped, .int m_size, .int m_spot, .int m_sort, .int m_place, .int m_letters, .int m_number, .int m_fault, .int m_wrongAt, .long m_word, .ref m_v, .ref m_x, .ref m_past, .ref m_kept, .int m_acts, .int m_images, .ref m_left, .ref m_far, .ref m_line, .int m_fitsNow, .ref m_ditchIn, .int m_treadLeft, .int m_rambledTo, .int m_rambledFalls, .int m_rambledIn]))] (S := Unit) (fun r _ => (r = 0)) (fun _ => [(h0, .inr (12, [.int m_thrown, .int m_trouble, .int m_where, .null, m_read, .ref m_tape, .int m_taped, .int m_size, .int m_spot, .int m_sort, .int m_place, .int m_letters, .int m_number, .int m_fault, .int m_wrongAt, .long m_word, .ref m_v, .ref m_x, .ref m_past, .ref m_kept, .int m_acts, .int m_images, .ref m_left, .ref m_far, .ref m_line, .int m_fitsNow, .ref m_ditchIn, .int m_treadLeft, .int m_rambledTo, .int m_rambledFalls, .int m_rambledIn]))]) := by
  refine ctI.of (by decide +kernel) (Nat.le_of_ble_eq_true rfl) ?_
  intro p e s m args below meth c A ls Q hQ X hr hlocks hin hA hP hD hS hl
  have hx := X.1
  have hb := X.2.1
  have hK := X.2.2.2.2.2.1
  have hl : lv_has ls 2 [(0, .ref h0), (1, .int p1)] := hl
  have dy_1 := ti_bd p1
  refine lv_aload_n hx hb dX13_isPlace_0 rfl (lv_at hl 0 rfl) ?_
  refine r_get X kcX13 (ci := 12) rfl hP 0 rfl 3 (by decide) fX13_269 rfl dX13_isPlace_1 ?_
  refine lv_ifnullN (tgt := 23) hx hb dX13_isPlace_4 (by decide) ?_
  refine lv_iconst (v := 0) hx hb dX13_isPlace_23 (by decide) ?_
  exact eI hQ X hr hlocks hP hD hS () [0] (by decide) rfl rfl (show ((0 : Int32) = 0) from rfl) (Nat.le_of_ble_eq_true rfl) (Nat.le_of_ble_eq_true rfl) dX13_isPlace_24
set_option maxHeartbeats 4000000 in
set_option maxRecDepth 100000 in
theorem sX13_isWalker (l : Launch) (dC : Nat → ClassId) (dI : Nat → Nat → Nat) (cy : Nat → ClassId) (h0 : Nat) (m_thrown : Int32) (m_trouble : Int32) (m_where : Int32) (m_park : Nat) (m_read : Value) (m_tape : Nat) (m_taped : Int32) (m_size : Int32) (m_spot : Int32) (m_sort : Int32) (m_place : Int32) (m_letters : Int32) (m_number : Int32) (m_fault : Int32) (m_wrongAt : Int32) (m_word : Int64) (m_v : Nat) (m_x : Nat) (m_past : Nat) (m_kept : Nat) (m_acts : Int32) (m_images : Int32) (m_left : Nat) (m_far : Nat) (m_line : Nat) (m_fitsNow : Int32) (m_ditchIn : Nat) (m_treadLeft : Int32) (m_rambledTo : Int32) (m_rambledFalls : Int32) (m_rambledIn : Int32) (m_park_wide : Int32) (m_park_deep : Int32) (m_park_errs : Int32) (m_park_slips : Int32) (m_park_rows : Int32) (m_park_walkers : Int32) (m_park_walks : Int32) (m_park_unsures : Int32) (m_park_sort : Nat) (m_park_unsure : Nat) (m_park_kind : Nat) (m_park_at : Nat) (m_park_to : Nat) (m_park_from : Nat) (m_park_steps : Nat) (m_park_fell : Nat) (m_park_name : Nat) (p1 : Int32) (hm_taped : 0 ≤ m_taped.toInt ∧ m_taped.toInt ≤ 800) (hm_size : 0 ≤ m_size.toInt ∧ m_size.toInt ≤ 800) (hm_spot : 0 ≤ m_spot.toInt ∧ m_spot.toInt ≤ 800) (hm_place : 0 ≤ m_place.toInt ∧ m_place.toInt ≤ 800) (hm_acts : 0 ≤ m_acts.toInt ∧ m_acts.toInt ≤ 16) (hm_images : 0 ≤ m_images.toInt ∧ m_images.toInt ≤ 3) (hm_park_wide : 2 ≤ m_park_wide.toInt ∧ m_park_wide.toInt ≤ 5) (hm_park_deep : 2 ≤ m_park_deep.toInt ∧ m_park_deep.toInt ≤ 4) (hm_park_rows : 0 ≤ m_park_rows.toInt ∧ m_park_rows.toInt ≤ 4) (hm_park_walkers : 0 ≤ m_park_walkers.toInt ∧ m_park_walkers.toInt ≤ 4) (hm_park_walks : 0 ≤ m_park_walks.toInt ∧ m_park_walks.toInt ≤ 6) (hm_park_unsures : 0 ≤ m_park_unsures.toInt ∧ m_park_unsures.toInt ≤ 5) : ctI l dC dI cy hp yX13_isWalker cX13_isWalker 2 .boolean ({ frames := 0, cells := 0, slots := 0, locals := 0 } : Room) [.ref h0, .int p1] [(h0, .inr (12, [.int m_thrown, .int m_trouble, .int m_where, .ref m_park, m_read, .ref m_tape, .int m_taped, .int m_size, .int m_spot, .int m_sort, .int m_place, .int m_letters, .int m_number, .int m_fault, .int m_wrongAt, .long m_word, .ref m_v, .ref m_x, .ref m_past, .ref m_kept, .int m_acts, .int m_images, .ref m_left, .ref m_far, .ref m_line, .int m_fitsNow, .ref m_ditchIn, .int m_treadLeft, .int m_rambledTo, .int m_rambledFalls, .int m_rambledIn])), (m_park, .inr (11, [.int m_park_wide, .int m_park_deep, .int m_park_errs, .int m_park_slips, .int m_park_rows, .int m_park_walkers, .int m_park_walks, .int m_park_unsures, .ref m_park_sort, .ref m_park_unsure, .ref m_park_kind, .ref m_park_at, .ref m_park_to, .ref m_park_from, .ref m_park_steps, .ref m_park_fell, .ref m_park_name]))] (S := Unit) (fun r _ => (0 ≤ r.toInt ∧ r.toInt ≤ 1) ∧ ((r.toInt = 1 ∧ 0 ≤ p1.toInt ∧ p1.toInt < m_park_walkers.toInt) ∨ (r.toInt = 0 ∧ (p1.toInt < 0 ∨ m_park_walkers.toInt ≤ p1.toInt)))) (fun _ => [(h0, .inr (12, [.int m_thrown, .int m_trouble, .int m_where, .ref m_park, m_read, .ref m_tape, .int m_taped, .int m_size, .int m_spot, .int m_sort, .int m_place, .int m_letters, .int m_number, .int m_fault, .int m_wrongAt, .long m_word, .ref m_v, .ref m_x, .ref m_past, .ref m_kept, .int m_acts, .int m_images, .ref m_left, .ref m_far, .ref m_line, .int m_fitsNow, .ref m_ditchIn, .int m_treadLeft, .int m_rambledTo, .int m_rambledFalls, .int m_rambledIn])), (m_park, .inr (11, [.int m_park_wide, .int m_park_deep, .int m_park_errs, .int m_park_slips, .int m_park_rows, .int m_park_walkers, .int m_park_walks, .int m_park_unsures, .ref m_park_sort, .ref m_park_unsure, .ref m_park_kind, .ref m_park_at, .ref m_park_to, .ref m_park_from, .ref m_park_steps, .ref m_park_fell, .ref m_park_name]))]) := by
  refine ctI.of (by decide +kernel) (Nat.le_of_ble_eq_true rfl) ?_
  intro p e s m args below meth c A ls Q hQ X hr hlocks hin hA hP hD hS hl
  have hx := X.1
  have hb := X.2.1
  have hK := X.2.2.2.2.2.1
  have hl : lv_has ls 2 [(0, .ref h0), (1, .int p1)] := hl
  have dy_1 := ti_bd p1
  have hpl : 4 ≤ (m_park_wide.toInt * m_park_deep.toInt) ∧ (m_park_wide.toInt * m_park_deep.toInt) ≤ 20 := pl_bd (by omega) (by omega) (by omega) (by omega)
  refine lv_aload_n hx hb dX13_isWalker_0 rfl (lv_at hl 0 rfl) ?_
  refine r_get X kcX13 (ci := 12) rfl hP 0 rfl 3 (by decide) fX13_269 rfl dX13_isWalker_1 ?_
  refine lv_ifnull hx hb dX13_isWalker_4 ?_
  refine lv_iload_n hx hb dX13_isWalker_7 rfl (lv_at hl 1 rfl) ?_
  refine lv_if_lt (tgt := 26) hx hb dX13_isWalker_8 (by decide) (fun h_2 => ?_) (fun h_2 => ?_)
  · have h_2 : p1.toInt < 0 := c_lt h_2
    refine lv_iconst (v := 0) hx hb dX13_isWalker_26 (by decide) ?_
    exact eI hQ X hr hlocks hP hD hS () [0, 1] (by decide) rfl rfl (show (0 ≤ (0 : Int32).toInt ∧ (0 : Int32).toInt ≤ 1) ∧ (((0 : Int32).toInt = 1 ∧ 0 ≤ p1.toInt ∧ p1.toInt < m_park_walkers.toInt) ∨ ((0 : Int32).toInt = 0 ∧ (p1.toInt < 0 ∨ m_park_walkers.toInt ≤ p1.toInt))) from ⟨(by decide), (Or.inr ⟨by decide, by omega⟩)⟩) (Nat.le_of_ble_eq_true rfl) (Nat.le_of_ble_eq_true rfl) dX13_isWalker_27
  · have h_2 : 0 ≤ p1.toInt := c_nlt h_2
    refine lv_iload_n hx hb dX13_isWalker_11 rfl (lv_at hl 1 rfl) ?_
    refine lv_aload_n hx hb dX13_isWalker_12 rfl (lv_at hl 0 rfl) ?_
    refine r_get X kcX13 (ci := 12) rfl hP 0 rfl 3 (by decide) fX13_269 rfl dX13_isWalker_13 ?_
    refine r_get X kcX12 (ci := 11) rfl hP 1 rfl 5 (by decide) fX13_206 rfl dX13_isWalker_16 ?_
    refine lv_icmp_ge (tgt := 26) hx hb dX13_isWalker_19 (by decide) (fun h_3 => ?_) (fun h_3 => ?_)
    · have h_3 : m_park_walkers.toInt ≤ p1.toInt := c_le h_3
      refine lv_iconst (v := 0) hx hb dX13_isWalker_26 (by decide) ?_
      exact eI hQ X hr hlocks hP hD hS () [0, 1] (by decide) rfl rfl (show (0 ≤ (0 : Int32).toInt ∧ (0 : Int32).toInt ≤ 1) ∧ (((0 : Int32).toInt = 1 ∧ 0 ≤ p1.toInt ∧ p1.toInt < m_park_walkers.toInt) ∨ ((0 : Int32).toInt = 0 ∧ (p1.toInt < 0 ∨ m_park_walkers.toInt ≤ p1.toInt))) from ⟨(by decide), (Or.inr ⟨by decide, by omega⟩)⟩) (Nat.le_of_ble_eq_true rfl) (Nat.le_of_ble_eq_true rfl) dX13_isWalker_27
    · have h_3 : p1.toInt < m_park_walkers.toInt := c_nle h_3
      refine lv_iconst (v := 1) hx hb dX13_isWalker_22 (by decide) ?_
      refine lv_goto (tgt := 27) hx hb dX13_isWalker_23 (by decide) ?_
      exact eI hQ X hr hlocks hP hD hS () [0, 1] (by decide) rfl rfl (show (0 ≤ (1 : Int32).toInt ∧ (1 : Int32).toInt ≤ 1) ∧ (((1 : Int32).toInt = 1 ∧ 0 ≤ p1.toInt ∧ p1.toInt < m_park_walkers.toInt) ∨ ((1 : Int32).toInt = 0 ∧ (p1.toInt < 0 ∨ m_park_walkers.toInt ≤ p1.toInt))) from ⟨(by decide), (Or.inl ⟨by decide, by omega, by omega⟩)⟩) (Nat.le_of_ble_eq_true rfl) (Nat.le_of_ble_eq_true rfl) dX13_isWalker_27
set_option maxHeartbeats 4000000 in
set_option maxRecDepth 100000 in
theorem sX13_isWalker_z (l : Launch) (dC : Nat → ClassId) (dI : Nat → Nat → Nat) (cy : Nat → ClassId) (h0 : Nat) (m_thrown : Int32) (m_trouble : Int32) (m_where : Int32) (m_read : Value) (m_tape : Nat) (m_taped : Int32) (m_size : Int32) (m_spot : Int32) (m_sort : Int32) (m_place : Int32) (m_letters : Int32) (m_number : Int32) (m_fault : Int32) (m_wrongAt : Int32) (m_word : Int64) (m_v : Nat) (m_x : Nat) (m_past : Nat) (m_kept : Nat) (m_acts : Int32) (m_images : Int32) (m_left : Nat) (m_far : Nat) (m_line : Nat) (m_fitsNow : Int32) (m_ditchIn : Nat) (m_treadLeft : Int32) (m_rambledTo : Int32) (m_rambledFalls : Int32) (m_rambledIn : Int32) (p1 : Int32) (hm_taped : 0 ≤ m_taped.toInt ∧ m_taped.toInt ≤ 800) (hm_size : 0 ≤ m_size.toInt ∧ m_size.toInt ≤ 800) (hm_spot : 0 ≤ m_spot.toInt ∧ m_spot.toInt ≤ 800) (hm_place : 0 ≤ m_place.toInt ∧ m_place.toInt ≤ 800) (hm_acts : 0 ≤ m_acts.toInt ∧ m_acts.toInt ≤ 16) (hm_images : 0 ≤ m_images.toInt ∧ m_images.toInt ≤ 3) : ctI l dC dI cy hp yX13_isWalker cX13_isWalker 2 .boolean ({ frames := 0, cells := 0, slots := 0, locals := 0 } : Room) [.ref h0, .int p1] [(h0, .inr (12, [.int m_thrown, .int m_trouble, .int m_where, .null, m_read, .ref m_tape, .int m_taped, .int m_size, .int m_spot, .int m_sort, .int m_place, .int m_letters, .int m_number, .int m_fault, .int m_wrongAt, .long m_word, .ref m_v, .ref m_x, .ref m_past, .ref m_kept, .int m_acts, .int m_images, .ref m_left, .ref m_far, .ref m_line, .int m_fitsNow, .ref m_ditchIn, .int m_treadLeft, .int m_rambledTo, .int m_rambledFalls, .int m_rambledIn]))] (S := Unit) (fun r _ => (r = 0)) (fun _ => [(h0, .inr (12, [.int m_thrown, .int m_trouble, .int m_where, .null, m_read, .ref m_tape, .int m_taped, .int m_size, .int m_spot, .int m_sort, .int m_place, .int m_letters, .int m_number, .int m_fault, .int m_wrongAt, .long m_word, .ref m_v, .ref m_x, .ref m_past, .ref m_kept, .int m_acts, .int m_images, .ref m_left, .ref m_far, .ref m_line, .int m_fitsNow, .ref m_ditchIn, .int m_treadLeft, .int m_rambledTo, .int m_rambledFalls, .int m_rambledIn]))]) := by
  refine ctI.of (by decide +kernel) (Nat.le_of_ble_eq_true rfl) ?_
  intro p e s m args below meth c A ls Q hQ X hr hlocks hin hA hP hD hS hl
  have hx := X.1
  have hb := X.2.1
  have hK := X.2.2.2.2.2.1
  have hl : lv_has ls 2 [(0, .ref h0), (1, .int p1)] := hl
  have dy_1 := ti_bd p1
  refine lv_aload_n hx hb dX13_isWalker_0 rfl (lv_at hl 0 rfl) ?_
  refine r_get X kcX13 (ci := 12) rfl hP 0 rfl 3 (by decide) fX13_269 rfl dX13_isWalker_1 ?_
  refine lv_ifnullN (tgt := 26) hx hb dX13_isWalker_4 (by decide) ?_
  refine lv_iconst (v := 0) hx hb dX13_isWalker_26 (by decide) ?_
  exact eI hQ X hr hlocks hP hD hS () [0] (by decide) rfl rfl (show ((0 : Int32) = 0) from rfl) (Nat.le_of_ble_eq_true rfl) (Nat.le_of_ble_eq_true rfl) dX13_isWalker_27
set_option maxHeartbeats 4000000 in
set_option maxRecDepth 100000 in
theorem sX13_works (l : Launch) (dC : Nat → ClassId) (dI : Nat → Nat → Nat) (cy : Nat → ClassId) (h0 : Nat) (m_thrown : Int32) (m_trouble : Int32) (m_where : Int32) (m_park : Value) (m_read : Value) (m_tape : Nat) (m_taped : Int32) (m_size : Int32) (m_spot : Int32) (m_sort : Int32) (m_place : Int32) (m_letters : Int32) (m_number : Int32) (m_fault : Int32) (m_wrongAt : Int32) (m_word : Int64) (m_v : Nat) (m_x : Nat) (m_past : Nat) (m_kept : Nat) (m_acts : Int32) (m_images : Int32) (m_left : Nat) (m_far : Nat) (m_line : Nat) (m_fitsNow : Int32) (m_ditchIn : Nat) (m_treadLeft : Int32) (m_rambledTo : Int32) (m_rambledFalls : Int32) (m_rambledIn : Int32) (m_vf : Nat → Int32) (m_xf : Nat → Int32) (hm_taped : 0 ≤ m_taped.toInt ∧ m_taped.toInt ≤ 800) (hm_size : 0 ≤ m_size.toInt ∧ m_size.toInt ≤ 800) (hm_spot : 0 ≤ m_spot.toInt ∧ m_spot.toInt ≤ 800) (hm_place : 0 ≤ m_place.toInt ∧ m_place.toInt ≤ 800) (hm_acts : 0 ≤ m_acts.toInt ∧ m_acts.toInt ≤ 16) (hm_images : 0 ≤ m_images.toInt ∧ m_images.toInt ≤ 3) : ctV l dC dI cy hp yX13_works cX13_works 2 ({ frames := 0, cells := 0, slots := 0, locals := 0 } : Room) [.ref h0] [(h0, .inr (12, [.int m_thrown, .int m_trouble, .int m_where, m_park, m_read, .ref m_tape, .int m_taped, .int m_size, .int m_spot, .int m_sort, .int m_place, .int m_letters, .int m_number, .int m_fault, .int m_wrongAt, .long m_word, .ref m_v, .ref m_x, .ref m_past, .ref m_kept, .int m_acts, .int m_images, .ref m_left, .ref m_far, .ref m_line, .int m_fitsNow, .ref m_ditchIn, .int m_treadLeft, .int m_rambledTo, .int m_rambledFalls, .int m_rambledIn])), (m_v, .inl (cy 1, 32, .inl m_vf)), (m_x, .inl (cy 1, 20, .inl m_xf))] (S := (Nat → Int32)) (fun u => (cpZ m_vf u 20)) (fun u => [(h0, .inr (12, [.int m_thrown, .int m_trouble, .int m_where, m_park, m_read, .ref m_tape, .int m_taped, .int m_size, .int m_spot, .int m_sort, .int m_place, .int m_letters, .int m_number, .int m_fault, .int m_wrongAt, .long m_word, .ref m_v, .ref m_x, .ref m_past, .ref m_kept, .int m_acts, .int m_images, .ref m_left, .ref m_far, .ref m_line, .int m_fitsNow, .ref m_ditchIn, .int m_treadLeft, .int m_rambledTo, .int m_rambledFalls, .int m_rambledIn])), (m_v, .inl (cy 1, 32, .inl m_vf)), (m_x, .inl (cy 1, 20, .inl u))]) := by
  refine ctV.of (by decide +kernel) (Nat.le_of_ble_eq_true rfl) ?_
  intro p e s m args below meth c A ls Q hQ X hr hlocks hin hA hP hD hS hl
  have hx := X.1
  have hb := X.2.1
  have hK := X.2.2.2.2.2.1
  have hl : lv_has ls 2 [(0, .ref h0)] := hl
  refine lv_iconst (v := 0) hx hb dX13_works_0 (by decide) ?_
  refine lv_istore_n (lv' := [(1, .int 0), (0, .ref h0)]) hx hb dX13_works_1 rfl hl (by decide) rfl (fun ls hl => ?_)
  have lp_1 : ∀ (nlp_1 : Nat) (i_2 : Int32) (f_4 : Nat → Int32) (H : Heap) (locs : List Loc) (ls : Array Slot), (0 ≤ i_2.toInt ∧ i_2.toInt ≤ 20) → (cpZ m_vf f_4 i_2.toInt) → (21 - i_2.toInt ≤ (nlp_1 : Int)) → va_P (dC, dI) vwCl [(h0, .inr (12, [.int m_thrown, .int m_trouble, .int m_where, m_park, m_read, .ref m_tape, .int m_taped, .int m_size, .int m_spot, .int m_sort, .int m_place, .int m_letters, .int m_number, .int m_fault, .int m_wrongAt, .long m_word, .ref m_v, .ref m_x, .ref m_past, .ref m_kept, .int m_acts, .int m_images, .ref m_left, .ref m_far, .ref m_line, .int m_fitsNow, .ref m_ditchIn, .int m_treadLeft, .int m_rambledTo, .int m_rambledFalls, .int m_rambledIn])), (m_v, .inl (cy 1, 32, .inl m_vf)), (m_x, .inl (cy 1, 20, .inl f_4))] H → va_D A [(h0, .inr (12, [.int m_thrown, .int m_trouble, .int m_where, m_park, m_read, .ref m_tape, .int m_taped, .int m_size, .int m_spot, .int m_sort, .int m_place, .int m_letters, .int m_number, .int m_fault, .int m_wrongAt, .long m_word, .ref m_v, .ref m_x, .ref m_past, .ref m_kept, .int m_acts, .int m_images, .ref m_left, .ref m_far, .ref m_line, .int m_fitsNow, .ref m_ditchIn, .int m_treadLeft, .int m_rambledTo, .int m_rambledFalls, .int m_rambledIn])), (m_v, .inl (cy 1, 32, .inl m_vf)), (m_x, .inl (cy 1, 20, .inl f_4))] → va_S A s.heap H locs → lv_has ls 2 [(1, .int i_2), (0, .ref h0)] → W p l e ({ frames := 0, cells := 0, slots := 0, locals := 0 } : Room) s m args below meth c H locs 0 0 Q (F0 m 2 ls []) := by
    intro nlp_1
    induction nlp_1 with
    | zero =>
      intro i_2 f_4 H locs ls b_3 b_5 hmlp_1 hP hD hS hl
      exfalso
      have di_2 := ti_bd i_2
      omega
    | succ nlp_1 ihlp_1 =>
      intro i_2 f_4 H locs ls b_3 b_5 hmlp_1 hP hD hS hl
      refine lv_iload_n hx hb dX13_works_2 rfl (lv_at hl 0 rfl) ?_
      refine lv_bipush (v := 20) hx hb dX13_works_3 (by decide) ?_
      refine lv_icmp_ge (tgt := 26) hx hb dX13_works_5 (by decide) (fun h_6 => ?_) (fun h_6 => ?_)
      · have h_6 : 20 ≤ i_2.toInt := c_le h_6
        exact eV hQ X hr hlocks hP hD hS f_4 [0, 1, 2] (by decide) rfl (show (cpZ m_vf f_4 20) from (cpZ_le b_5 (by omega))) (Nat.le_of_ble_eq_true rfl) (Nat.le_of_ble_eq_true rfl) dX13_works_26
      · have h_6 : i_2.toInt < 20 := c_nle h_6
        refine lv_aload_n hx hb dX13_works_8 rfl (lv_at hl 1 rfl) ?_
        refine r_get X kcX13 (ci := 12) rfl hP 0 rfl 17 (by decide) fX13_21 rfl dX13_works_9 ?_
        refine lv_iload_n hx hb dX13_works_12 rfl (lv_at hl 0 rfl) ?_
        refine lv_aload_n hx hb dX13_works_13 rfl (lv_at hl 1 rfl) ?_
        refine r_get X kcX13 (ci := 12) rfl hP 0 rfl 16 (by decide) fX13_17 rfl dX13_works_14 ?_
        refine lv_iload_n hx hb dX13_works_17 rfl (lv_at hl 0 rfl) ?_
        refine va_iald (D := (dC, dI)) (cl := vwCl) hx hb hK hP 1 1 rfl rfl (i := i_2) (vin (by omega) (by omega)) dX13_works_18 ?_
        refine lv_topi (fun x_7 ex_7 => ?_)
        refine va_iast (D := (dC, dI)) (cl := vwCl) hx hb hK hP hD hS 2 1 rfl rfl (i := i_2) (vin (by omega) (by omega)) dX13_works_19 (fun H locs hP hD hS => ?_)
        generalize ef_8 : upd f_4 (Int32.toNatClampNeg i_2) x_7 = f_8 at hP hD
        have hPD := vPD (ws' := [(h0, .inr (12, [.int m_thrown, .int m_trouble, .int m_where, m_park, m_read, .ref m_tape, .int m_taped, .int m_size, .int m_spot, .int m_sort, .int m_place, .int m_letters, .int m_number, .int m_fault, .int m_wrongAt, .long m_word, .ref m_v, .ref m_x, .ref m_past, .ref m_kept, .int m_acts, .int m_images, .ref m_left, .ref m_far, .ref m_line, .int m_fitsNow, .ref m_ditchIn, .int m_treadLeft, .int m_rambledTo, .int m_rambledFalls, .int m_rambledIn])), (m_v, .inl (cy 1, 32, .inl m_vf)), (m_x, .inl (cy 1, 20, .inl f_8))]) hP hD rfl
        have hP := hPD.1
        have hD := hPD.2
        obtain ⟨x_9, ex_9⟩ : ∃ y : Int32, y = i_2 + 1 := ⟨_, rfl⟩
        have tx_9 : x_9.toInt = i_2.toInt + 1 := ti_add (A := i_2.toInt) (B := 1) ex_9 rfl rfl (by omega) (by omega)
        refine lv_iinc (v := x_9) (lv' := [(1, .int x_9), (0, .ref h0)]) hx hb dX13_works_20 hl (k := 0) rfl (by rw [ex_9]; rfl) (by decide) rfl (fun ls hl => ?_)
        refine lv_goto (tgt := 2) hx hb dX13_works_23 (by decide) ?_
        exact ihlp_1 x_9 f_8 _ _ _ (by omega) (show cpZ m_vf f_8 x_9.toInt from (cpZ_up b_5 ef_8 rfl (by omega) ex_7 (by omega))) (show 21 - x_9.toInt ≤ (nlp_1 : Int) by omega) hP hD hS (lv_sub hl [0, 1] rfl)
  exact lp_1 21 0 m_xf _ _ _ (by decide) (show cpZ m_vf m_xf 0 from (cpZ_0 (by decide))) (show 21 - 0 ≤ ((21 : Nat) : Int) by omega) hP hD hS hl
set_option maxHeartbeats 4000000 in
set_option maxRecDepth 100000 in
theorem sX13_onto (l : Launch) (dC : Nat → ClassId) (dI : Nat → Nat → Nat) (cy : Nat → ClassId) (h0 : Nat) (m_thrown : Int32) (m_trouble : Int32) (m_where : Int32) (m_park : Nat) (m_read : Value) (m_tape : Nat) (m_taped : Int32) (m_size : Int32) (m_spot : Int32) (m_sort : Int32) (m_place : Int32) (m_letters : Int32) (m_number : Int32) (m_fault : Int32) (m_wrongAt : Int32) (m_word : Int64) (m_v : Nat) (m_x : Nat) (m_past : Nat) (m_kept : Nat) (m_acts : Int32) (m_images : Int32) (m_left : Nat) (m_far : Nat) (m_line : Nat) (m_fitsNow : Int32) (m_ditchIn : Nat) (m_treadLeft : Int32) (m_rambledTo : Int32) (m_rambledFalls : Int32) (m_rambledIn : Int32) (m_park_wide : Int32) (m_park_deep : Int32) (m_park_errs : Int32) (m_park_slips : Int32) (m_park_rows : Int32) (m_park_walkers : Int32) (m_park_walks : Int32) (m_park_unsures : Int32) (m_park_sort : Nat) (m_park_unsure : Nat) (m_park_kind : Nat) (m_park_at : Nat) (m_park_to : Nat) (m_park_from : Nat) (m_park_steps : Nat) (m_park_fell : Nat) (m_park_name : Nat) (p1 : Int32) (p2 : Int32) (hm_taped : 0 ≤ m_taped.toInt ∧ m_taped.toInt ≤ 800) (hm_size : 0 ≤ m_size.toInt ∧ m_size.toInt ≤ 800) (hm_spot : 0 ≤ m_spot.toInt ∧ m_spot.toInt ≤ 800) (hm_place : 0 ≤ m_place.toInt ∧ m_place.toInt ≤ 800) (hm_acts : 0 ≤ m_acts.toInt ∧ m_acts.toInt ≤ 16) (hm_images : 0 ≤ m_images.toInt ∧ m_images.toInt ≤ 3) (hm_park_wide : 2 ≤ m_park_wide.toInt ∧ m_park_wide.toInt ≤ 5) (hm_park_deep : 2 ≤ m_park_deep.toInt ∧ m_park_deep.toInt ≤ 4) (hm_park_rows : 0 ≤ m_park_rows.toInt ∧ m_park_rows.toInt ≤ 4) (hm_park_walkers : 0 ≤ m_park_walkers.toInt ∧ m_park_walkers.toInt ≤ 4) (hm_park_walks : 0 ≤ m_park_walks.toInt ∧ m_park_walks.toInt ≤ 6) (hm_park_unsures : 0 ≤ m_park_unsures.toInt ∧ m_park_unsures.toInt ≤ 5) (hp1 : 0 ≤ p1.toInt ∧ p1.toInt ≤ 19) (hc9 : 0 ≤ p1.toInt ∧ p1.toInt < (m_park_wide.toInt * m_park_deep.toInt)) : ctI l dC dI cy hp yX13_onto cX13_onto 4 .int ({ frames := 1, cells := 0, slots := 0, locals := 20 } : Room) [.ref h0, .int p1, .int p2] [(h0, .inr (12, [.int m_thrown, .int m_trouble, .int m_where, .ref m_park, m_read, .ref m_tape, .int m_taped, .int m_size, .int m_spot, .int m_sort, .int m_place, .int m_letters, .int m_number, .int m_fault, .int m_wrongAt, .long m_word, .ref m_v, .ref m_x, .ref m_past, .ref m_kept, .int m_acts, .int m_images, .ref m_left, .ref m_far, .ref m_line, .int m_fitsNow, .ref m_ditchIn, .int m_treadLeft, .int m_rambledTo, .int m_rambledFalls, .int m_rambledIn])), (m_park, .inr (11, [.int m_park_wide, .int m_park_deep, .int m_park_errs, .int m_park_slips, .int m_park_rows, .int m_park_walkers, .int m_park_walks, .int m_park_unsures, .ref m_park_sort, .ref m_park_unsure, .ref m_park_kind, .ref m_park_at, .ref m_park_to, .ref m_park_from, .ref m_park_steps, .ref m_park_fell, .ref m_park_name]))] (S := Unit) (fun r _ => ((-2) ≤ r.toInt ∧ r.toInt ≤ 19) ∧ (r.toInt = onF m_park_wide.toInt m_park_deep.toInt p1.toInt p2.toInt) ∧ (r.toInt = -2 ∨ (0 ≤ r.toInt ∧ r.toInt < (m_park_wide.toInt * m_park_deep.toInt)))) (fun _ => [(h0, .inr (12, [.int m_thrown, .int m_trouble, .int m_where, .ref m_park, m_read, .ref m_tape, .int m_taped, .int m_size, .int m_spot, .int m_sort, .int m_place, .int m_letters, .int m_number, .int m_fault, .int m_wrongAt, .long m_word, .ref m_v, .ref m_x, .ref m_past, .ref m_kept, .int m_acts, .int m_images, .ref m_left, .ref m_far, .ref m_line, .int m_fitsNow, .ref m_ditchIn, .int m_treadLeft, .int m_rambledTo, .int m_rambledFalls, .int m_rambledIn])), (m_park, .inr (11, [.int m_park_wide, .int m_park_deep, .int m_park_errs, .int m_park_slips, .int m_park_rows, .int m_park_walkers, .int m_park_walks, .int m_park_unsures, .ref m_park_sort, .ref m_park_unsure, .ref m_park_kind, .ref m_park_at, .ref m_park_to, .ref m_park_from, .ref m_park_steps, .ref m_park_fell, .ref m_park_name]))]) := by
  refine ctI.of (by decide +kernel) (Nat.le_of_ble_eq_true rfl) ?_
  intro p e s m args below meth c A ls Q hQ X hr hlocks hin hA hP hD hS hl
  have hx := X.1
  have hb := X.2.1
  have hK := X.2.2.2.2.2.1
  have hl : lv_has ls 4 [(0, .ref h0), (1, .int p1), (2, .int p2)] := hl
  have dy_1 := ti_bd p2
  have hpl : 4 ≤ (m_park_wide.toInt * m_park_deep.toInt) ∧ (m_park_wide.toInt * m_park_deep.toInt) ≤ 20 := pl_bd (by omega) (by omega) (by omega) (by omega)
  have hE : p1.toInt % m_park_wide.toInt + 1 < m_park_wide.toInt → p1.toInt + 1 < (m_park_wide.toInt * m_park_deep.toInt) := on_east (by omega) (by omega)
  have hW : 0 < p1.toInt % m_park_wide.toInt → 0 < p1.toInt := on_west (by omega)
  refine lv_iload_n hx hb dX13_onto_0 rfl (lv_at hl 1 rfl) ?_
  refine lv_aload_n hx hb dX13_onto_1 rfl (lv_at hl 0 rfl) ?_
  refine r_get X kcX13 (ci := 12) rfl hP 0 rfl 3 (by decide) fX13_269 rfl dX13_onto_2 ?_
  refine r_get X kcX12 (ci := 11) rfl hP 1 rfl 0 (by decide) fX13_158 rfl dX13_onto_5 ?_
  refine lv_irem hx hb dX13_onto_8 (fun hz => by have hz := c_eq hz; rw [Int32.toInt_zero] at hz; omega) ?_
  refine lv_topi (fun x_2 ex_2 => ?_)
  have tx_2 : 0 ≤ x_2.toInt ∧ x_2.toInt < m_park_wide.toInt ∧ x_2.toInt ≤ p1.toInt ∧ x_2.toInt = p1.toInt % m_park_wide.toInt := ti_rem ex_2 (by omega) (by omega)
  refine lv_istore_n (lv' := [(3, .int x_2), (0, .ref h0), (1, .int p1), (2, .int p2)]) hx hb dX13_onto_9 rfl hl (by decide) rfl (fun ls hl => ?_)
  refine lv_iload_n hx hb dX13_onto_10 rfl (lv_at hl 3 rfl) ?_
  refine lv_if_ne (tgt := 40) hx hb dX13_onto_11 (by decide) (fun h_3 => ?_) (fun h_3 => ?_)
  · have h_3 : p2.toInt ≠ 0 := c_ne h_3
    refine lv_iload_n hx hb dX13_onto_40 rfl (lv_at hl 3 rfl) ?_
    refine lv_iconst (v := 2) hx hb dX13_onto_41 (by decide) ?_
    refine lv_icmp_ne (tgt := 76) hx hb dX13_onto_42 (by decide) (fun h_4 => ?_) (fun h_4 => ?_)
    · have h_4 : p2.toInt ≠ 2 := c_ne h_4
      refine lv_iload_n hx hb dX13_onto_76 rfl (lv_at hl 3 rfl) ?_
      refine lv_iconst (v := 1) hx hb dX13_onto_77 (by decide) ?_
      refine lv_icmp_ne (tgt := 103) hx hb dX13_onto_78 (by decide) (fun h_5 => ?_) (fun h_5 => ?_)
      · have h_5 : p2.toInt ≠ 1 := c_ne h_5
        refine lv_iload_n hx hb dX13_onto_103 rfl (lv_at hl 0 rfl) ?_
        refine lv_if_le (tgt := 113) hx hb dX13_onto_104 (by decide) (fun h_6 => ?_) (fun h_6 => ?_)
        · have h_6 : x_2.toInt ≤ 0 := c_le h_6
          refine lv_bipush (v := -2) hx hb dX13_onto_113 (by decide) ?_
          exact eI hQ X hr hlocks hP hD hS () [0, 1] (by decide) rfl rfl (show ((-2) ≤ (-2 : Int32).toInt ∧ (-2 : Int32).toInt ≤ 19) ∧ ((-2 : Int32).toInt = onF m_park_wide.toInt m_park_deep.toInt p1.toInt p2.toInt) ∧ ((-2 : Int32).toInt = -2 ∨ (0 ≤ (-2 : Int32).toInt ∧ (-2 : Int32).toInt < (m_park_wide.toInt * m_park_deep.toInt))) from ⟨(by first | decide | omega | (refine ⟨by decide, ?_⟩; omega) | (have h9_0 : (-2 : Int32).toInt = (-2) := (by decide); omega)), (by have hc : (-2 : Int32).toInt = (-2) := (by decide); rw [hc]; unfold onF; (repeat' split) <;> omega), (by first | decide | omega | (refine ⟨by decide, ?_⟩; omega) | (have h9_0 : (-2 : Int32).toInt = (-2) := (by decide); omega))⟩) (Nat.le_of_ble_eq_true rfl) (Nat.le_of_ble_eq_true rfl) dX13_onto_115
        · have h_6 : 0 < x_2.toInt := c_nle h_6
          refine lv_iload_n hx hb dX13_onto_107 rfl (lv_at hl 2 rfl) ?_
          refine lv_iconst (v := 1) hx hb dX13_onto_108 (by decide) ?_
          refine lv_isub hx hb dX13_onto_109 ?_
          refine lv_topi (fun x_7 ex_7 => ?_)
          have tx_7 : x_7.toInt = p1.toInt - 1 := ti_sub (A := p1.toInt) (B := 1) ex_7 rfl rfl (by omega) (by omega)
          refine lv_goto (tgt := 115) hx hb dX13_onto_110 (by decide) ?_
          exact eI hQ X hr hlocks hP hD hS () [0, 1] (by decide) rfl rfl (show ((-2) ≤ x_7.toInt ∧ x_7.toInt ≤ 19) ∧ (x_7.toInt = onF m_park_wide.toInt m_park_deep.toInt p1.toInt p2.toInt) ∧ (x_7.toInt = -2 ∨ (0 ≤ x_7.toInt ∧ x_7.toInt < (m_park_wide.toInt * m_park_deep.toInt))) from ⟨(by omega), (by unfold onF; (repeat' split) <;> omega), (by omega)⟩) (Nat.le_of_ble_eq_true rfl) (Nat.le_of_ble_eq_true rfl) dX13_onto_115
      · have h_5 : p2.toInt = 1 := c_eq h_5
        refine lv_iload_n hx hb dX13_onto_81 rfl (lv_at hl 0 rfl) ?_
        refine lv_iconst (v := 1) hx hb dX13_onto_82 (by decide) ?_
        refine lv_iadd hx hb dX13_onto_83 ?_
        refine lv_topi (fun x_8 ex_8 => ?_)
        have tx_8 : x_8.toInt = x_2.toInt + 1 := ti_add (A := x_2.toInt) (B := 1) ex_8 rfl rfl (by omega) (by omega)
        refine lv_aload_n hx hb dX13_onto_84 rfl (lv_at hl 1 rfl) ?_
        refine r_get X kcX13 (ci := 12) rfl hP 0 rfl 3 (by decide) fX13_269 rfl dX13_onto_85 ?_
        refine r_get X kcX12 (ci := 11) rfl hP 1 rfl 0 (by decide) fX13_158 rfl dX13_onto_88 ?_
        refine lv_icmp_ge (tgt := 100) hx hb dX13_onto_91 (by decide) (fun h_9 => ?_) (fun h_9 => ?_)
        · have h_9 : m_park_wide.toInt ≤ x_8.toInt := c_le h_9
          refine lv_bipush (v := -2) hx hb dX13_onto_100 (by decide) ?_
          exact eI hQ X hr hlocks hP hD hS () [0, 1] (by decide) rfl rfl (show ((-2) ≤ (-2 : Int32).toInt ∧ (-2 : Int32).toInt ≤ 19) ∧ ((-2 : Int32).toInt = onF m_park_wide.toInt m_park_deep.toInt p1.toInt p2.toInt) ∧ ((-2 : Int32).toInt = -2 ∨ (0 ≤ (-2 : Int32).toInt ∧ (-2 : Int32).toInt < (m_park_wide.toInt * m_park_deep.toInt))) from ⟨(by first | decide | omega | (refine ⟨by decide, ?_⟩; omega) | (have h9_0 : (-2 : Int32).toInt = (-2) := (by decide); omega)), (by have hc : (-2 : Int32).toInt = (-2) := (by decide); rw [hc]; unfold onF; (repeat' split) <;> omega), (by first | decide | omega | (refine ⟨by decide, ?_⟩; omega) | (have h9_0 : (-2 : Int32).toInt = (-2) := (by decide); omega))⟩) (Nat.le_of_ble_eq_true rfl) (Nat.le_of_ble_eq_true rfl) dX13_onto_102
        · have h_9 : x_8.toInt < m_park_wide.toInt := c_nle h_9
          refine lv_iload_n hx hb dX13_onto_94 rfl (lv_at hl 2 rfl) ?_
          refine lv_iconst (v := 1) hx hb dX13_onto_95 (by decide) ?_
          refine lv_iadd hx hb dX13_onto_96 ?_
          refine lv_topi (fun x_10 ex_10 => ?_)
          have tx_10 : x_10.toInt = p1.toInt + 1 := ti_add (A := p1.toInt) (B := 1) ex_10 rfl rfl (by omega) (by omega)
          refine lv_goto (tgt := 102) hx hb dX13_onto_97 (by decide) ?_
          exact eI hQ X hr hlocks hP hD hS () [0, 1] (by decide) rfl rfl (show ((-2) ≤ x_10.toInt ∧ x_10.toInt ≤ 19) ∧ (x_10.toInt = onF m_park_wide.toInt m_park_deep.toInt p1.toInt p2.toInt) ∧ (x_10.toInt = -2 ∨ (0 ≤ x_10.toInt ∧ x_10.toInt < (m_park_wide.toInt * m_park_deep.toInt))) from ⟨(by omega), (by unfold onF; (repeat' split) <;> omega), (by omega)⟩) (Nat.le_of_ble_eq_true rfl) (Nat.le_of_ble_eq_true rfl) dX13_onto_102
    · have h_4 : p2.toInt = 2 := c_eq h_4
      refine lv_iload_n hx hb dX13_onto_45 rfl (lv_at hl 2 rfl) ?_
      refine lv_aload_n hx hb dX13_onto_46 rfl (lv_at hl 1 rfl) ?_
      refine r_get X kcX13 (ci := 12) rfl hP 0 rfl 3 (by decide) fX13_269 rfl dX13_onto_47 ?_
      refine r_get X kcX12 (ci := 11) rfl hP 1 rfl 0 (by decide) fX13_158 rfl dX13_onto_50 ?_
      refine lv_iadd hx hb dX13_onto_53 ?_
      refine lv_topi (fun x_11 ex_11 => ?_)
      have tx_11 : x_11.toInt = p1.toInt + m_park_wide.toInt := ti_add (A := p1.toInt) (B := m_park_wide.toInt) ex_11 rfl rfl (by omega) (by omega)
      refine lv_aload_n hx hb dX13_onto_54 rfl (lv_at hl 1 rfl) ?_
      refine sl_Ic (rV_I (As := []) (rest := [.int x_11]) X hp_st (fun _ _ _ h => h) (sX13_places l dC dI cy h0 m_thrown m_trouble m_where m_park m_read m_tape m_taped m_size m_spot m_sort m_place m_letters m_number m_fault m_wrongAt m_word m_v m_x m_past m_kept m_acts m_images m_left m_far m_line m_fitsNow m_ditchIn m_treadLeft m_rambledTo m_rambledFalls m_rambledIn m_park_wide m_park_deep m_park_errs m_park_slips m_park_rows m_park_walkers m_park_walks m_park_unsures m_park_sort m_park_unsure m_park_kind m_park_at m_park_to m_park_from m_park_steps m_park_fell m_park_name hm_taped hm_size hm_spot hm_place hm_acts hm_images hm_park_wide hm_park_deep hm_park_rows hm_park_walkers hm_park_walks hm_park_unsures) kX13_places vX13_places mX13_277 hP hD hS hA [0, 1] (by decide) rfl 0 (ci := 12) rfl rfl rfl hl rfl rfl (Nat.le_of_ble_eq_true rfl) dX13_onto_55 ⟨(Nat.le_of_ble_eq_true rfl), (Nat.le_of_ble_eq_true rfl)⟩ ⟨(Nat.le_of_ble_eq_true rfl), (Nat.le_of_ble_eq_true rfl)⟩) hP hD hS hA [0, 1] [false, false] rfl rfl rfl (fun r_12 u_14 H locs k_13 hP hD hS => ?_)
      have k_13 : (4 ≤ r_12.toInt ∧ r_12.toInt ≤ 20) ∧ (r_12.toInt = (m_park_wide.toInt * m_park_deep.toInt)) := k_13
      obtain ⟨k_13_0, k_13_1⟩ := k_13
      have hPD := vPD (ws' := [(h0, .inr (12, [.int m_thrown, .int m_trouble, .int m_where, .ref m_park, m_read, .ref m_tape, .int m_taped, .int m_size, .int m_spot, .int m_sort, .int m_place, .int m_letters, .int m_number, .int m_fault, .int m_wrongAt, .long m_word, .ref m_v, .ref m_x, .ref m_past, .ref m_kept, .int m_acts, .int m_images, .ref m_left, .ref m_far, .ref m_line, .int m_fitsNow, .ref m_ditchIn, .int m_treadLeft, .int m_rambledTo, .int m_rambledFalls, .int m_rambledIn])), (m_park, .inr (11, [.int m_park_wide, .int m_park_deep, .int m_park_errs, .int m_park_slips, .int m_park_rows, .int m_park_walkers, .int m_park_walks, .int m_park_unsures, .ref m_park_sort, .ref m_park_unsure, .ref m_park_kind, .ref m_park_at, .ref m_park_to, .ref m_park_from, .ref m_park_steps, .ref m_park_fell, .ref m_park_name]))]) hP hD rfl
      have hP := hPD.1
      have hD := hPD.2
      refine lv_icmp_ge (tgt := 73) hx hb dX13_onto_58 (by decide) (fun h_15 => ?_) (fun h_15 => ?_)
      · have h_15 : r_12.toInt ≤ x_11.toInt := c_le h_15
        refine lv_bipush (v := -2) hx hb dX13_onto_73 (by decide) ?_
        exact eI hQ X hr hlocks hP hD hS () [0, 1] (by decide) rfl rfl (show ((-2) ≤ (-2 : Int32).toInt ∧ (-2 : Int32).toInt ≤ 19) ∧ ((-2 : Int32).toInt = onF m_park_wide.toInt m_park_deep.toInt p1.toInt p2.toInt) ∧ ((-2 : Int32).toInt = -2 ∨ (0 ≤ (-2 : Int32).toInt ∧ (-2 : Int32).toInt < (m_park_wide.toInt * m_park_deep.toInt))) from ⟨(by first | decide | omega | (refine ⟨by decide, ?_⟩; omega) | (have h9_0 : (-2 : Int32).toInt = (-2) := (by decide); omega)), (by have hc : (-2 : Int32).toInt = (-2) := (by decide); rw [hc]; unfold onF; (repeat' split) <;> omega), (by first | decide | omega | (refine ⟨by decide, ?_⟩; omega) | (have h9_0 : (-2 : Int32).toInt = (-2) := (by decide); omega))⟩) (Nat.le_of_ble_eq_true rfl) (Nat.le_of_ble_eq_true rfl) dX13_onto_75
      · have h_15 : x_11.toInt < r_12.toInt := c_nle h_15
        refine lv_iload_n hx hb dX13_onto_61 rfl (lv_at hl 2 rfl) ?_
        refine lv_aload_n hx hb dX13_onto_62 rfl (lv_at hl 1 rfl) ?_
        refine r_get X kcX13 (ci := 12) rfl hP 0 rfl 3 (by decide) fX13_269 rfl dX13_onto_63 ?_
        refine r_get X kcX12 (ci := 11) rfl hP 1 rfl 0 (by decide) fX13_158 rfl dX13_onto_66 ?_
        refine lv_iadd hx hb dX13_onto_69 ?_
        refine lv_topi (fun x_16 ex_16 => ?_)
        have tx_16 : x_16.toInt = p1.toInt + m_park_wide.toInt := ti_add (A := p1.toInt) (B := m_park_wide.toInt) ex_16 rfl rfl (by omega) (by omega)
        refine lv_goto (tgt := 75) hx hb dX13_onto_70 (by decide) ?_
        exact eI hQ X hr hlocks hP hD hS () [0, 1] (by decide) rfl rfl (show ((-2) ≤ x_16.toInt ∧ x_16.toInt ≤ 19) ∧ (x_16.toInt = onF m_park_wide.toInt m_park_deep.toInt p1.toInt p2.toInt) ∧ (x_16.toInt = -2 ∨ (0 ≤ x_16.toInt ∧ x_16.toInt < (m_park_wide.toInt * m_park_deep.toInt))) from ⟨(by omega), (by unfold onF; (repeat' split) <;> omega), (by omega)⟩) (Nat.le_of_ble_eq_true rfl) (Nat.le_of_ble_eq_true rfl) dX13_onto_75
  · have h_3 : p2.toInt = 0 := c_eq h_3
    refine lv_iload_n hx hb dX13_onto_14 rfl (lv_at hl 2 rfl) ?_
    refine lv_aload_n hx hb dX13_onto_15 rfl (lv_at hl 1 rfl) ?_
    refine r_get X kcX13 (ci := 12) rfl hP 0 rfl 3 (by decide) fX13_269 rfl dX13_onto_16 ?_
    refine r_get X kcX12 (ci := 11) rfl hP 1 rfl 0 (by decide) fX13_158 rfl dX13_onto_19 ?_
    refine lv_icmp_ge (tgt := 30) hx hb dX13_onto_22 (by decide) (fun h_17 => ?_) (fun h_17 => ?_)
    · have h_17 : m_park_wide.toInt ≤ p1.toInt := c_le h_17
      refine lv_iload_n hx hb dX13_onto_30 rfl (lv_at hl 2 rfl) ?_
      refine lv_aload_n hx hb dX13_onto_31 rfl (lv_at hl 1 rfl) ?_
      refine r_get X kcX13 (ci := 12) rfl hP 0 rfl 3 (by decide) fX13_269 rfl dX13_onto_32 ?_
      refine r_get X kcX12 (ci := 11) rfl hP 1 rfl 0 (by decide) fX13_158 rfl dX13_onto_35 ?_
      refine lv_isub hx hb dX13_onto_38 ?_
      refine lv_topi (fun x_18 ex_18 => ?_)
      have tx_18 : x_18.toInt = p1.toInt - m_park_wide.toInt := ti_sub (A := p1.toInt) (B := m_park_wide.toInt) ex_18 rfl rfl (by omega) (by omega)
      exact eI hQ X hr hlocks hP hD hS () [0, 1] (by decide) rfl rfl (show ((-2) ≤ x_18.toInt ∧ x_18.toInt ≤ 19) ∧ (x_18.toInt = onF m_park_wide.toInt m_park_deep.toInt p1.toInt p2.toInt) ∧ (x_18.toInt = -2 ∨ (0 ≤ x_18.toInt ∧ x_18.toInt < (m_park_wide.toInt * m_park_deep.toInt))) from ⟨(by omega), (by unfold onF; (repeat' split) <;> omega), (by omega)⟩) (Nat.le_of_ble_eq_true rfl) (Nat.le_of_ble_eq_true rfl) dX13_onto_39
    · have h_17 : p1.toInt < m_park_wide.toInt := c_nle h_17
      refine lv_bipush (v := -2) hx hb dX13_onto_25 (by decide) ?_
      refine lv_goto (tgt := 39) hx hb dX13_onto_27 (by decide) ?_
      exact eI hQ X hr hlocks hP hD hS () [0, 1] (by decide) rfl rfl (show ((-2) ≤ (-2 : Int32).toInt ∧ (-2 : Int32).toInt ≤ 19) ∧ ((-2 : Int32).toInt = onF m_park_wide.toInt m_park_deep.toInt p1.toInt p2.toInt) ∧ ((-2 : Int32).toInt = -2 ∨ (0 ≤ (-2 : Int32).toInt ∧ (-2 : Int32).toInt < (m_park_wide.toInt * m_park_deep.toInt))) from ⟨(by first | decide | omega | (refine ⟨by decide, ?_⟩; omega) | (have h9_0 : (-2 : Int32).toInt = (-2) := (by decide); omega)), (by have hc : (-2 : Int32).toInt = (-2) := (by decide); rw [hc]; unfold onF; (repeat' split) <;> omega), (by first | decide | omega | (refine ⟨by decide, ?_⟩; omega) | (have h9_0 : (-2 : Int32).toInt = (-2) := (by decide); omega))⟩) (Nat.le_of_ble_eq_true rfl) (Nat.le_of_ble_eq_true rfl) dX13_onto_39
set_option maxHeartbeats 4000000 in
set_option maxRecDepth 100000 in
theorem sX13_ontoDitch (l : Launch) (dC : Nat → ClassId) (dI : Nat → Nat → Nat) (cy : Nat → ClassId) (p1 : Int32) (p2 : Int32) : ctI l dC dI cy hp yX13_ontoDitch cX13_ontoDitch 2 .int ({ frames := 0, cells := 0, slots := 0, locals := 0 } : Room) [.int p1, .int p2] [] (S := Unit) (fun r _ => ((-2) ≤ r.toInt ∧ r.toInt ≤ 4) ∧ (r.toInt = odF p1.toInt p2.toInt)) (fun _ => []) := by
  refine ctI.of (by decide +kernel) (Nat.le_of_ble_eq_true rfl) ?_
  intro p e s m args below meth c A ls Q hQ X hr hlocks hin hA hP hD hS hl
  have hx := X.1
  have hb := X.2.1
  have hK := X.2.2.2.2.2.1
  have hl : lv_has ls 2 [(0, .int p1), (1, .int p2)] := hl
  have dy_1 := ti_bd p1
  have dy_2 := ti_bd p2
  refine lv_iload_n hx hb dX13_ontoDitch_0 rfl (lv_at hl 0 rfl) ?_
  by_cases h_3 : p1 = 0
  · refine lv_tableIn (off := 27) (tgt := 28) hx hb dX13_ontoDitch_1 (by rw [h_3]; decide) (by rw [h_3]; decide) (by rw [h_3]; rfl) (by decide) ?_
    have th_3 : p1.toInt = 0 := c_eq h_3
    refine lv_iload_n hx hb dX13_ontoDitch_28 rfl (lv_at hl 1 rfl) ?_
    refine lv_iconst (v := 2) hx hb dX13_ontoDitch_29 (by decide) ?_
    refine lv_icmp_ne (tgt := 37) hx hb dX13_ontoDitch_30 (by decide) (fun h_4 => ?_) (fun h_4 => ?_)
    · have h_4 : p2.toInt ≠ 2 := c_ne h_4
      refine lv_iload_n hx hb dX13_ontoDitch_37 rfl (lv_at hl 1 rfl) ?_
      refine lv_if_ne (tgt := 46) hx hb dX13_ontoDitch_38 (by decide) (fun h_5 => ?_) (fun h_5 => ?_)
      · have h_5 : p2.toInt ≠ 0 := c_ne h_5
        refine lv_iconst (v := 1) hx hb dX13_ontoDitch_46 (by decide) ?_
        exact eI hQ X hr hlocks hP hD hS () [] (by decide) rfl rfl (show ((-2) ≤ (1 : Int32).toInt ∧ (1 : Int32).toInt ≤ 4) ∧ ((1 : Int32).toInt = odF p1.toInt p2.toInt) from ⟨(by first | decide | (have h9_0 : (1 : Int32).toInt = 1 := (by decide); omega) | (refine ⟨by decide, ?_⟩; omega) | omega), (by have hc : (1 : Int32).toInt = 1 := (by decide); rw [hc]; unfold odF; (repeat' split) <;> omega)⟩) (Nat.le_of_ble_eq_true rfl) (Nat.le_of_ble_eq_true rfl) dX13_ontoDitch_47
      · have h_5 : p2.toInt = 0 := c_eq h_5
        refine lv_bipush (v := -2) hx hb dX13_ontoDitch_41 (by decide) ?_
        refine lv_goto (tgt := 47) hx hb dX13_ontoDitch_43 (by decide) ?_
        exact eI hQ X hr hlocks hP hD hS () [] (by decide) rfl rfl (show ((-2) ≤ (-2 : Int32).toInt ∧ (-2 : Int32).toInt ≤ 4) ∧ ((-2 : Int32).toInt = odF p1.toInt p2.toInt) from ⟨(by first | decide | omega | (refine ⟨by decide, ?_⟩; omega) | (have h9_0 : (-2 : Int32).toInt = (-2) := (by decide); omega)), (by have hc : (-2 : Int32).toInt = (-2) := (by decide); rw [hc]; unfold odF; (repeat' split) <;> omega)⟩) (Nat.le_of_ble_eq_true rfl) (Nat.le_of_ble_eq_true rfl) dX13_ontoDitch_47
    · have h_4 : p2.toInt = 2 := c_eq h_4
      refine lv_iconst (v := 3) hx hb dX13_ontoDitch_33 (by decide) ?_
      refine lv_goto (tgt := 47) hx hb dX13_ontoDitch_34 (by decide) ?_
      exact eI hQ X hr hlocks hP hD hS () [] (by decide) rfl rfl (show ((-2) ≤ (3 : Int32).toInt ∧ (3 : Int32).toInt ≤ 4) ∧ ((3 : Int32).toInt = odF p1.toInt p2.toInt) from ⟨(by first | decide | (have h9_0 : (3 : Int32).toInt = 3 := (by decide); omega) | (refine ⟨by decide, ?_⟩; omega) | omega), (by have hc : (3 : Int32).toInt = 3 := (by decide); rw [hc]; unfold odF; (repeat' split) <;> omega)⟩) (Nat.le_of_ble_eq_true rfl) (Nat.le_of_ble_eq_true rfl) dX13_ontoDitch_47
  by_cases h_6 : p1 = 1
  · refine lv_tableIn (off := 47) (tgt := 48) hx hb dX13_ontoDitch_1 (by rw [h_6]; decide) (by rw [h_6]; decide) (by rw [h_6]; rfl) (by decide) ?_
    have th_6 : p1.toInt = 1 := c_eq h_6
    refine lv_bipush (v := -2) hx hb dX13_ontoDitch_48 (by decide) ?_
    exact eI hQ X hr hlocks hP hD hS () [] (by decide) rfl rfl (show ((-2) ≤ (-2 : Int32).toInt ∧ (-2 : Int32).toInt ≤ 4) ∧ ((-2 : Int32).toInt = odF p1.toInt p2.toInt) from ⟨(by first | decide | omega | (refine ⟨by decide, ?_⟩; omega) | (have h9_0 : (-2 : Int32).toInt = (-2) := (by decide); omega)), (by have hc : (-2 : Int32).toInt = (-2) := (by decide); rw [hc]; unfold odF; (repeat' split) <;> omega)⟩) (Nat.le_of_ble_eq_true rfl) (Nat.le_of_ble_eq_true rfl) dX13_ontoDitch_50
  by_cases h_7 : p1 = 2
  · refine lv_tableIn (off := 50) (tgt := 51) hx hb dX13_ontoDitch_1 (by rw [h_7]; decide) (by rw [h_7]; decide) (by rw [h_7]; rfl) (by decide) ?_
    have th_7 : p1.toInt = 2 := c_eq h_7
    refine lv_iconst (v := 1) hx hb dX13_ontoDitch_51 (by decide) ?_
    exact eI hQ X hr hlocks hP hD hS () [] (by decide) rfl rfl (show ((-2) ≤ (1 : Int32).toInt ∧ (1 : Int32).toInt ≤ 4) ∧ ((1 : Int32).toInt = odF p1.toInt p2.toInt) from ⟨(by first | decide | (have h9_0 : (1 : Int32).toInt = 1 := (by decide); omega) | (refine ⟨by decide, ?_⟩; omega) | omega), (by have hc : (1 : Int32).toInt = 1 := (by decide); rw [hc]; unfold odF; (repeat' split) <;> omega)⟩) (Nat.le_of_ble_eq_true rfl) (Nat.le_of_ble_eq_true rfl) dX13_ontoDitch_52
  have h_3 : p1.toInt ≠ 0 := c_ne h_3
  have h_6 : p1.toInt ≠ 1 := c_ne h_6
  have h_7 : p1.toInt ≠ 2 := c_ne h_7
  refine lv_tableOut (tgt := 53) hx hb dX13_ontoDitch_1 (by omega) (by decide) ?_
  refine lv_iload_n hx hb dX13_ontoDitch_53 rfl (lv_at hl 1 rfl) ?_
  refine lv_iconst (v := 2) hx hb dX13_ontoDitch_54 (by decide) ?_
  refine lv_icmp_ne (tgt := 62) hx hb dX13_ontoDitch_55 (by decide) (fun h_8 => ?_) (fun h_8 => ?_)
  · have h_8 : p2.toInt ≠ 2 := c_ne h_8
    refine lv_iload_n hx hb dX13_ontoDitch_62 rfl (lv_at hl 1 rfl) ?_
    refine lv_if_ne (tgt := 70) hx hb dX13_ontoDitch_63 (by decide) (fun h_9 => ?_) (fun h_9 => ?_)
    · have h_9 : p2.toInt ≠ 0 := c_ne h_9
      refine lv_iconst (v := 1) hx hb dX13_ontoDitch_70 (by decide) ?_
      exact eI hQ X hr hlocks hP hD hS () [] (by decide) rfl rfl (show ((-2) ≤ (1 : Int32).toInt ∧ (1 : Int32).toInt ≤ 4) ∧ ((1 : Int32).toInt = odF p1.toInt p2.toInt) from ⟨(by first | decide | (have h9_0 : (1 : Int32).toInt = 1 := (by decide); omega) | (refine ⟨by decide, ?_⟩; omega) | omega), (by have hc : (1 : Int32).toInt = 1 := (by decide); rw [hc]; unfold odF; (repeat' split) <;> omega)⟩) (Nat.le_of_ble_eq_true rfl) (Nat.le_of_ble_eq_true rfl) dX13_ontoDitch_71
    · have h_9 : p2.toInt = 0 := c_eq h_9
      refine lv_iconst (v := 4) hx hb dX13_ontoDitch_66 (by decide) ?_
      refine lv_goto (tgt := 71) hx hb dX13_ontoDitch_67 (by decide) ?_
      exact eI hQ X hr hlocks hP hD hS () [] (by decide) rfl rfl (show ((-2) ≤ (4 : Int32).toInt ∧ (4 : Int32).toInt ≤ 4) ∧ ((4 : Int32).toInt = odF p1.toInt p2.toInt) from ⟨(by first | decide | (have h9_0 : (4 : Int32).toInt = 4 := (by decide); omega) | (refine ⟨by decide, ?_⟩; omega) | omega), (by have hc : (4 : Int32).toInt = 4 := (by decide); rw [hc]; unfold odF; (repeat' split) <;> omega)⟩) (Nat.le_of_ble_eq_true rfl) (Nat.le_of_ble_eq_true rfl) dX13_ontoDitch_71
  · have h_8 : p2.toInt = 2 := c_eq h_8
    refine lv_iconst (v := 2) hx hb dX13_ontoDitch_58 (by decide) ?_
    refine lv_goto (tgt := 71) hx hb dX13_ontoDitch_59 (by decide) ?_
    exact eI hQ X hr hlocks hP hD hS () [] (by decide) rfl rfl (show ((-2) ≤ (2 : Int32).toInt ∧ (2 : Int32).toInt ≤ 4) ∧ ((2 : Int32).toInt = odF p1.toInt p2.toInt) from ⟨(by first | decide | (have h9_0 : (2 : Int32).toInt = 2 := (by decide); omega) | (refine ⟨by decide, ?_⟩; omega) | omega), (by have hc : (2 : Int32).toInt = 2 := (by decide); rw [hc]; unfold odF; (repeat' split) <;> omega)⟩) (Nat.le_of_ble_eq_true rfl) (Nat.le_of_ble_eq_true rfl) dX13_ontoDitch_71
set_option maxHeartbeats 4000000 in
set_option maxRecDepth 100000 in
theorem sX13_lasts (l : Launch) (dC : Nat → ClassId) (dI : Nat → Nat → Nat) (cy : Nat → ClassId) (h0 : Nat) (m_thrown : Int32) (m_trouble : Int32) (m_where : Int32) (m_park : Nat) (m_read : Value) (m_tape : Nat) (m_taped : Int32) (m_size : Int32) (m_spot : Int32) (m_sort : Int32) (m_place : Int32) (m_letters : Int32) (m_number : Int32) (m_fault : Int32) (m_wrongAt : Int32) (m_word : Int64) (m_v : Nat) (m_x : Nat) (m_past : Nat) (m_kept : Nat) (m_acts : Int32) (m_images : Int32) (m_left : Nat) (m_far : Nat) (m_line : Nat) (m_fitsNow : Int32) (m_ditchIn : Nat) (m_treadLeft : Int32) (m_rambledTo : Int32) (m_rambledFalls : Int32) (m_rambledIn : Int32) (m_park_wide : Int32) (m_park_deep : Int32) (m_park_errs : Int32) (m_park_slips : Int32) (m_park_rows : Int32) (m_park_walkers : Int32) (m_park_walks : Int32) (m_park_unsures : Int32) (m_park_sort : Nat) (m_park_unsure : Nat) (m_park_kind : Nat) (m_park_at : Nat) (m_park_to : Nat) (m_park_from : Nat) (m_park_steps : Nat) (m_park_fell : Nat) (m_park_name : Nat) (m_xf : Nat → Int32) (p1 : Int32) (p2 : Int32) (p3 : Int32) (hm_taped : 0 ≤ m_taped.toInt ∧ m_taped.toInt ≤ 800) (hm_size : 0 ≤ m_size.toInt ∧ m_size.toInt ≤ 800) (hm_spot : 0 ≤ m_spot.toInt ∧ m_spot.toInt ≤ 800) (hm_place : 0 ≤ m_place.toInt ∧ m_place.toInt ≤ 800) (hm_acts : 0 ≤ m_acts.toInt ∧ m_acts.toInt ≤ 16) (hm_images : 0 ≤ m_images.toInt ∧ m_images.toInt ≤ 3) (hm_park_wide : 2 ≤ m_park_wide.toInt ∧ m_park_wide.toInt ≤ 5) (hm_park_deep : 2 ≤ m_park_deep.toInt ∧ m_park_deep.toInt ≤ 4) (hm_park_rows : 0 ≤ m_park_rows.toInt ∧ m_park_rows.toInt ≤ 4) (hm_park_walkers : 0 ≤ m_park_walkers.toInt ∧ m_park_walkers.toInt ≤ 4) (hm_park_walks : 0 ≤ m_park_walks.toInt ∧ m_park_walks.toInt ≤ 6) (hm_park_unsures : 0 ≤ m_park_unsures.toInt ∧ m_park_unsures.toInt ≤ 5) (hp2 : 0 ≤ p2.toInt ∧ p2.toInt ≤ 19) (hc9 : 0 ≤ p2.toInt ∧ p2.toInt < (m_park_wide.toInt * m_park_deep.toInt)) : ctI l dC dI cy hp yX13_lasts cX13_lasts 5 .int ({ frames := 2, cells := 0, slots := 0, locals := 43 } : Room) [.ref h0, .int p1, .int p2, .int p3] [(h0, .inr (12, [.int m_thrown, .int m_trouble, .int m_where, .ref m_park, m_read, .ref m_tape, .int m_taped, .int m_size, .int m_spot, .int m_sort, .int m_place, .int m_letters, .int m_number, .int m_fault, .int m_wrongAt, .long m_word, .ref m_v, .ref m_x, .ref m_past, .ref m_kept, .int m_acts, .int m_images, .ref m_left, .ref m_far, .ref m_line, .int m_fitsNow, .ref m_ditchIn, .int m_treadLeft, .int m_rambledTo, .int m_rambledFalls, .int m_rambledIn])), (m_park, .inr (11, [.int m_park_wide, .int m_park_deep, .int m_park_errs, .int m_park_slips, .int m_park_rows, .int m_park_walkers, .int m_park_walks, .int m_park_unsures, .ref m_park_sort, .ref m_park_unsure, .ref m_park_kind, .ref m_park_at, .ref m_park_to, .ref m_park_from, .ref m_park_steps, .ref m_park_fell, .ref m_park_name])), (m_x, .inl (cy 1, 20, .inl m_xf))] (S := Unit) (fun r _ => ((-2) ≤ r.toInt ∧ r.toInt ≤ 4) ∧ (r.toInt = laF m_park_wide.toInt m_park_deep.toInt m_xf p1.toInt p2.toInt p3.toInt) ∧ (r.toInt = -2 ∨ 1 ≤ r.toInt) ∧ (r.toInt = -2 ∨ onF m_park_wide.toInt m_park_deep.toInt p2.toInt p3.toInt ≠ -2)) (fun _ => [(h0, .inr (12, [.int m_thrown, .int m_trouble, .int m_where, .ref m_park, m_read, .ref m_tape, .int m_taped, .int m_size, .int m_spot, .int m_sort, .int m_place, .int m_letters, .int m_number, .int m_fault, .int m_wrongAt, .long m_word, .ref m_v, .ref m_x, .ref m_past, .ref m_kept, .int m_acts, .int m_images, .ref m_left, .ref m_far, .ref m_line, .int m_fitsNow, .ref m_ditchIn, .int m_treadLeft, .int m_rambledTo, .int m_rambledFalls, .int m_rambledIn])), (m_park, .inr (11, [.int m_park_wide, .int m_park_deep, .int m_park_errs, .int m_park_slips, .int m_park_rows, .int m_park_walkers, .int m_park_walks, .int m_park_unsures, .ref m_park_sort, .ref m_park_unsure, .ref m_park_kind, .ref m_park_at, .ref m_park_to, .ref m_park_from, .ref m_park_steps, .ref m_park_fell, .ref m_park_name])), (m_x, .inl (cy 1, 20, .inl m_xf))]) := by
  refine ctI.of (by decide +kernel) (Nat.le_of_ble_eq_true rfl) ?_
  intro p e s m args below meth c A ls Q hQ X hr hlocks hin hA hP hD hS hl
  have hx := X.1
  have hb := X.2.1
  have hK := X.2.2.2.2.2.1
  have hl : lv_has ls 5 [(0, .ref h0), (1, .int p1), (2, .int p2), (3, .int p3)] := hl
  have dy_1 := ti_bd p1
  have dy_2 := ti_bd p3
  have hpl : 4 ≤ (m_park_wide.toInt * m_park_deep.toInt) ∧ (m_park_wide.toInt * m_park_deep.toInt) ≤ 20 := pl_bd (by omega) (by omega) (by omega) (by omega)
  have hod := od_bd p1.toInt p3.toInt
  refine lv_aload_n hx hb dX13_lasts_0 rfl (lv_at hl 0 rfl) ?_
  refine lv_iload_n hx hb dX13_lasts_1 rfl (lv_at hl 2 rfl) ?_
  refine lv_iload_n hx hb dX13_lasts_2 rfl (lv_at hl 3 rfl) ?_
  refine sl_Ic (rV_I (As := [.int p2, .int p3]) (rest := []) X hp_st (fun _ _ _ h => h) (sX13_onto l dC dI cy h0 m_thrown m_trouble m_where m_park m_read m_tape m_taped m_size m_spot m_sort m_place m_letters m_number m_fault m_wrongAt m_word m_v m_x m_past m_kept m_acts m_images m_left m_far m_line m_fitsNow m_ditchIn m_treadLeft m_rambledTo m_rambledFalls m_rambledIn m_park_wide m_park_deep m_park_errs m_park_slips m_park_rows m_park_walkers m_park_walks m_park_unsures m_park_sort m_park_unsure m_park_kind m_park_at m_park_to m_park_from m_park_steps m_park_fell m_park_name p2 p3 hm_taped hm_size hm_spot hm_place hm_acts hm_images hm_park_wide hm_park_deep hm_park_rows hm_park_walkers hm_park_walks hm_park_unsures hp2 hc9) kX13_onto vX13_onto mX13_280 hP hD hS hA [0, 1] (by decide) rfl 0 (ci := 12) rfl rfl rfl hl rfl rfl (Nat.le_of_ble_eq_true rfl) dX13_lasts_3 ⟨(Nat.le_of_ble_eq_true rfl), (Nat.le_of_ble_eq_true rfl)⟩ ⟨(Nat.le_of_ble_eq_true rfl), (Nat.le_of_ble_eq_true rfl)⟩) hP hD hS hA [0, 1] [false, false, true] rfl rfl rfl (fun r_3 u_5 H locs k_4 hP hD hS => ?_)
  have k_4 : ((-2) ≤ r_3.toInt ∧ r_3.toInt ≤ 19) ∧ (r_3.toInt = onF m_park_wide.toInt m_park_deep.toInt p2.toInt p3.toInt) ∧ (r_3.toInt = -2 ∨ (0 ≤ r_3.toInt ∧ r_3.toInt < (m_park_wide.toInt * m_park_deep.toInt))) := k_4
  obtain ⟨k_4_0, k_4_1, k_4_2⟩ := k_4
  have hPD := vPD (ws' := [(m_x, .inl (cy 1, 20, .inl m_xf)), (h0, .inr (12, [.int m_thrown, .int m_trouble, .int m_where, .ref m_park, m_read, .ref m_tape, .int m_taped, .int m_size, .int m_spot, .int m_sort, .int m_place, .int m_letters, .int m_number, .int m_fault, .int m_wrongAt, .long m_word, .ref m_v, .ref m_x, .ref m_past, .ref m_kept, .int m_acts, .int m_images, .ref m_left, .ref m_far, .ref m_line, .int m_fitsNow, .ref m_ditchIn, .int m_treadLeft, .int m_rambledTo, .int m_rambledFalls, .int m_rambledIn])), (m_park, .inr (11, [.int m_park_wide, .int m_park_deep, .int m_park_errs, .int m_park_slips, .int m_park_rows, .int m_park_walkers, .int m_park_walks, .int m_park_unsures, .ref m_park_sort, .ref m_park_unsure, .ref m_park_kind, .ref m_park_at, .ref m_park_to, .ref m_park_from, .ref m_park_steps, .ref m_park_fell, .ref m_park_name]))]) hP hD rfl
  have hP := hPD.1
  have hD := hPD.2
  have kf_6 : r_3.toInt = onF m_park_wide.toInt m_park_deep.toInt p2.toInt p3.toInt := by assumption
  refine lv_istore (lv' := [(4, .int r_3), (0, .ref h0), (1, .int p1), (2, .int p2), (3, .int p3)]) hx hb dX13_lasts_6 hl (by decide) rfl (fun ls hl => ?_)
  refine lv_iload hx hb dX13_lasts_8 (lv_at hl 0 rfl) ?_
  refine lv_bipush (v := -2) hx hb dX13_lasts_10 (by decide) ?_
  refine lv_icmp_eq (tgt := 26) hx hb dX13_lasts_12 (by decide) (fun h_7 => ?_) (fun h_7 => ?_)
  · have h_7 : r_3.toInt = (-2) := c_eq h_7
    refine lv_bipush (v := -2) hx hb dX13_lasts_26 (by decide) ?_
    exact eI hQ X hr hlocks hP hD hS () [1, 2, 0] (by decide) rfl rfl (show ((-2) ≤ (-2 : Int32).toInt ∧ (-2 : Int32).toInt ≤ 4) ∧ ((-2 : Int32).toInt = laF m_park_wide.toInt m_park_deep.toInt m_xf p1.toInt p2.toInt p3.toInt) ∧ ((-2 : Int32).toInt = -2 ∨ 1 ≤ (-2 : Int32).toInt) ∧ ((-2 : Int32).toInt = -2 ∨ onF m_park_wide.toInt m_park_deep.toInt p2.toInt p3.toInt ≠ -2) from ⟨(by first | decide | omega | (refine ⟨by decide, ?_⟩; omega) | (have h9_0 : (-2 : Int32).toInt = (-2) := (by decide); omega)), (by have hc : (-2 : Int32).toInt = (-2) := (by decide); rw [hc]; unfold laF; (repeat' split) <;> omega), (Or.inl (by decide)), (Or.inl (by decide))⟩) (Nat.le_of_ble_eq_true rfl) (Nat.le_of_ble_eq_true rfl) dX13_lasts_28
  · have h_7 : r_3.toInt ≠ (-2) := c_ne h_7
    refine lv_aload_n hx hb dX13_lasts_15 rfl (lv_at hl 1 rfl) ?_
    refine r_get X kcX13 (ci := 12) rfl hP 1 rfl 17 (by decide) fX13_21 rfl dX13_lasts_16 ?_
    refine lv_iload hx hb dX13_lasts_19 (lv_at hl 0 rfl) ?_
    refine va_iald (D := (dC, dI)) (cl := vwCl) hx hb hK hP 0 1 rfl rfl (i := r_3) (vin (by omega) (by omega)) dX13_lasts_21 ?_
    refine lv_topi (fun x_8 ex_8 => ?_)
    have gx_8 : (m_xf (onF m_park_wide.toInt m_park_deep.toInt p2.toInt p3.toInt).toNat).toInt = x_8.toInt := rd_at ex_8 kf_6
    refine lv_iconst (v := 3) hx hb dX13_lasts_22 (by decide) ?_
    refine lv_icmp_ne (tgt := 29) hx hb dX13_lasts_23 (by decide) (fun h_9 => ?_) (fun h_9 => ?_)
    · have h_9 : x_8.toInt ≠ 3 := c_ne h_9
      refine lv_aload_n hx hb dX13_lasts_29 rfl (lv_at hl 1 rfl) ?_
      refine r_get X kcX13 (ci := 12) rfl hP 1 rfl 17 (by decide) fX13_21 rfl dX13_lasts_30 ?_
      refine lv_iload hx hb dX13_lasts_33 (lv_at hl 0 rfl) ?_
      refine va_iald (D := (dC, dI)) (cl := vwCl) hx hb hK hP 0 1 rfl rfl (i := r_3) (vin (by omega) (by omega)) dX13_lasts_35 ?_
      refine lv_topi (fun x_10 ex_10 => ?_)
      have qx_10 : x_8 = x_10 := ex_8.trans ex_10.symm
      subst qx_10
      refine lv_iconst (v := 1) hx hb dX13_lasts_36 (by decide) ?_
      refine lv_icmp_ne (tgt := 46) hx hb dX13_lasts_37 (by decide) (fun h_11 => ?_) (fun h_11 => ?_)
      · have h_11 : x_8.toInt ≠ 1 := c_ne h_11
        refine lv_aload_n hx hb dX13_lasts_46 rfl (lv_at hl 1 rfl) ?_
        refine r_get X kcX13 (ci := 12) rfl hP 1 rfl 17 (by decide) fX13_21 rfl dX13_lasts_47 ?_
        refine lv_iload_n hx hb dX13_lasts_50 rfl (lv_at hl 3 rfl) ?_
        refine va_iald (D := (dC, dI)) (cl := vwCl) hx hb hK hP 0 1 rfl rfl (i := p2) (vin (by omega) (by omega)) dX13_lasts_51 ?_
        refine lv_topi (fun x_12 ex_12 => ?_)
        have gx_12 : (m_xf (p2.toInt).toNat).toInt = x_12.toInt := rd_at ex_12 rfl
        refine lv_iconst (v := 1) hx hb dX13_lasts_52 (by decide) ?_
        refine lv_icmp_ne (tgt := 61) hx hb dX13_lasts_53 (by decide) (fun h_13 => ?_) (fun h_13 => ?_)
        · have h_13 : x_12.toInt ≠ 1 := c_ne h_13
          refine lv_iconst (v := 1) hx hb dX13_lasts_61 (by decide) ?_
          exact eI hQ X hr hlocks hP hD hS () [1, 2, 0] (by decide) rfl rfl (show ((-2) ≤ (1 : Int32).toInt ∧ (1 : Int32).toInt ≤ 4) ∧ ((1 : Int32).toInt = laF m_park_wide.toInt m_park_deep.toInt m_xf p1.toInt p2.toInt p3.toInt) ∧ ((1 : Int32).toInt = -2 ∨ 1 ≤ (1 : Int32).toInt) ∧ ((1 : Int32).toInt = -2 ∨ onF m_park_wide.toInt m_park_deep.toInt p2.toInt p3.toInt ≠ -2) from ⟨(by first | decide | (have h9_0 : (1 : Int32).toInt = 1 := (by decide); omega) | (refine ⟨by decide, ?_⟩; omega) | omega), (by have hc : (1 : Int32).toInt = 1 := (by decide); rw [hc]; unfold laF; (repeat' split) <;> omega), (Or.inr (by first | decide | omega)), (Or.inr (by first | decide | omega))⟩) (Nat.le_of_ble_eq_true rfl) (Nat.le_of_ble_eq_true rfl) dX13_lasts_62
        · have h_13 : x_12.toInt = 1 := c_eq h_13
          refine lv_iload_n hx hb dX13_lasts_56 rfl (lv_at hl 4 rfl) ?_
          refine lv_iconst (v := 2) hx hb dX13_lasts_57 (by decide) ?_
          refine lv_icmp_eq (tgt := 63) hx hb dX13_lasts_58 (by decide) (fun h_14 => ?_) (fun h_14 => ?_)
          · have h_14 : p3.toInt = 2 := c_eq h_14
            refine lv_iload_n hx hb dX13_lasts_63 rfl (lv_at hl 2 rfl) ?_
            refine lv_iconst (v := 2) hx hb dX13_lasts_64 (by decide) ?_
            refine lv_icmp_ne (tgt := 72) hx hb dX13_lasts_65 (by decide) (fun h_15 => ?_) (fun h_15 => ?_)
            · have h_15 : p1.toInt ≠ 2 := c_ne h_15
              refine lv_iload_n hx hb dX13_lasts_72 rfl (lv_at hl 2 rfl) ?_
              refine lv_iconst (v := 3) hx hb dX13_lasts_73 (by decide) ?_
              refine lv_icmp_ne (tgt := 81) hx hb dX13_lasts_74 (by decide) (fun h_16 => ?_) (fun h_16 => ?_)
              · have h_16 : p1.toInt ≠ 3 := c_ne h_16
                refine lv_bipush (v := -2) hx hb dX13_lasts_81 (by decide) ?_
                exact eI hQ X hr hlocks hP hD hS () [1, 2, 0] (by decide) rfl rfl (show ((-2) ≤ (-2 : Int32).toInt ∧ (-2 : Int32).toInt ≤ 4) ∧ ((-2 : Int32).toInt = laF m_park_wide.toInt m_park_deep.toInt m_xf p1.toInt p2.toInt p3.toInt) ∧ ((-2 : Int32).toInt = -2 ∨ 1 ≤ (-2 : Int32).toInt) ∧ ((-2 : Int32).toInt = -2 ∨ onF m_park_wide.toInt m_park_deep.toInt p2.toInt p3.toInt ≠ -2) from ⟨(by first | decide | omega | (refine ⟨by decide, ?_⟩; omega) | (have h9_0 : (-2 : Int32).toInt = (-2) := (by decide); omega)), (by have hc : (-2 : Int32).toInt = (-2) := (by decide); rw [hc]; unfold laF; (repeat' split) <;> omega), (Or.inl (by decide)), (Or.inl (by decide))⟩) (Nat.le_of_ble_eq_true rfl) (Nat.le_of_ble_eq_true rfl) dX13_lasts_83
              · have h_16 : p1.toInt = 3 := c_eq h_16
                refine lv_iconst (v := 4) hx hb dX13_lasts_77 (by decide) ?_
                refine lv_goto (tgt := 83) hx hb dX13_lasts_78 (by decide) ?_
                exact eI hQ X hr hlocks hP hD hS () [1, 2, 0] (by decide) rfl rfl (show ((-2) ≤ (4 : Int32).toInt ∧ (4 : Int32).toInt ≤ 4) ∧ ((4 : Int32).toInt = laF m_park_wide.toInt m_park_deep.toInt m_xf p1.toInt p2.toInt p3.toInt) ∧ ((4 : Int32).toInt = -2 ∨ 1 ≤ (4 : Int32).toInt) ∧ ((4 : Int32).toInt = -2 ∨ onF m_park_wide.toInt m_park_deep.toInt p2.toInt p3.toInt ≠ -2) from ⟨(by first | decide | (have h9_0 : (4 : Int32).toInt = 4 := (by decide); omega) | (refine ⟨by decide, ?_⟩; omega) | omega), (by have hc : (4 : Int32).toInt = 4 := (by decide); rw [hc]; unfold laF; (repeat' split) <;> omega), (Or.inr (by first | decide | omega)), (Or.inr (by first | decide | omega))⟩) (Nat.le_of_ble_eq_true rfl) (Nat.le_of_ble_eq_true rfl) dX13_lasts_83
            · have h_15 : p1.toInt = 2 := c_eq h_15
              refine lv_iconst (v := 1) hx hb dX13_lasts_68 (by decide) ?_
              refine lv_goto (tgt := 83) hx hb dX13_lasts_69 (by decide) ?_
              exact eI hQ X hr hlocks hP hD hS () [1, 2, 0] (by decide) rfl rfl (show ((-2) ≤ (1 : Int32).toInt ∧ (1 : Int32).toInt ≤ 4) ∧ ((1 : Int32).toInt = laF m_park_wide.toInt m_park_deep.toInt m_xf p1.toInt p2.toInt p3.toInt) ∧ ((1 : Int32).toInt = -2 ∨ 1 ≤ (1 : Int32).toInt) ∧ ((1 : Int32).toInt = -2 ∨ onF m_park_wide.toInt m_park_deep.toInt p2.toInt p3.toInt ≠ -2) from ⟨(by first | decide | (have h9_0 : (1 : Int32).toInt = 1 := (by decide); omega) | (refine ⟨by decide, ?_⟩; omega) | omega), (by have hc : (1 : Int32).toInt = 1 := (by decide); rw [hc]; unfold laF; (repeat' split) <;> omega), (Or.inr (by first | decide | omega)), (Or.inr (by first | decide | omega))⟩) (Nat.le_of_ble_eq_true rfl) (Nat.le_of_ble_eq_true rfl) dX13_lasts_83
          · have h_14 : p3.toInt ≠ 2 := c_ne h_14
            refine lv_iconst (v := 1) hx hb dX13_lasts_61 (by decide) ?_
            exact eI hQ X hr hlocks hP hD hS () [1, 2, 0] (by decide) rfl rfl (show ((-2) ≤ (1 : Int32).toInt ∧ (1 : Int32).toInt ≤ 4) ∧ ((1 : Int32).toInt = laF m_park_wide.toInt m_park_deep.toInt m_xf p1.toInt p2.toInt p3.toInt) ∧ ((1 : Int32).toInt = -2 ∨ 1 ≤ (1 : Int32).toInt) ∧ ((1 : Int32).toInt = -2 ∨ onF m_park_wide.toInt m_park_deep.toInt p2.toInt p3.toInt ≠ -2) from ⟨(by first | decide | (have h9_0 : (1 : Int32).toInt = 1 := (by decide); omega) | (refine ⟨by decide, ?_⟩; omega) | omega), (by have hc : (1 : Int32).toInt = 1 := (by decide); rw [hc]; unfold laF; (repeat' split) <;> omega), (Or.inr (by first | decide | omega)), (Or.inr (by first | decide | omega))⟩) (Nat.le_of_ble_eq_true rfl) (Nat.le_of_ble_eq_true rfl) dX13_lasts_62
      · have h_11 : x_8.toInt = 1 := c_eq h_11
        refine lv_iload_n hx hb dX13_lasts_40 rfl (lv_at hl 2 rfl) ?_
        refine lv_iload_n hx hb dX13_lasts_41 rfl (lv_at hl 4 rfl) ?_
        refine sl_Ic (rS_I (As := [.int p1, .int p3]) (rest := []) X hp_st (fun _ _ _ h => h) (sX13_ontoDitch l dC dI cy p1 p3) kX13_ontoDitch w_1681 mX13_283 hP hD hS hA [] (by decide) rfl hl rfl rfl (Nat.le_of_ble_eq_true rfl) dX13_lasts_42 ⟨(Nat.le_of_ble_eq_true rfl), (Nat.le_of_ble_eq_true rfl)⟩ ⟨(Nat.le_of_ble_eq_true rfl), (Nat.le_of_ble_eq_true rfl)⟩) hP hD hS hA [] [true, true, true] rfl rfl rfl (fun r_17 u_19 H locs k_18 hP hD hS => ?_)
        have k_18 : ((-2) ≤ r_17.toInt ∧ r_17.toInt ≤ 4) ∧ (r_17.toInt = odF p1.toInt p3.toInt) := k_18
        obtain ⟨k_18_0, k_18_1⟩ := k_18
        have hPD := vPD (ws' := [(m_x, .inl (cy 1, 20, .inl m_xf)), (h0, .inr (12, [.int m_thrown, .int m_trouble, .int m_where, .ref m_park, m_read, .ref m_tape, .int m_taped, .int m_size, .int m_spot, .int m_sort, .int m_place, .int m_letters, .int m_number, .int m_fault, .int m_wrongAt, .long m_word, .ref m_v, .ref m_x, .ref m_past, .ref m_kept, .int m_acts, .int m_images, .ref m_left, .ref m_far, .ref m_line, .int m_fitsNow, .ref m_ditchIn, .int m_treadLeft, .int m_rambledTo, .int m_rambledFalls, .int m_rambledIn])), (m_park, .inr (11, [.int m_park_wide, .int m_park_deep, .int m_park_errs, .int m_park_slips, .int m_park_rows, .int m_park_walkers, .int m_park_walks, .int m_park_unsures, .ref m_park_sort, .ref m_park_unsure, .ref m_park_kind, .ref m_park_at, .ref m_park_to, .ref m_park_from, .ref m_park_steps, .ref m_park_fell, .ref m_park_name]))]) hP hD rfl
        have hP := hPD.1
        have hD := hPD.2
        exact eI hQ X hr hlocks hP hD hS () [1, 2, 0] (by decide) rfl rfl (show ((-2) ≤ r_17.toInt ∧ r_17.toInt ≤ 4) ∧ (r_17.toInt = laF m_park_wide.toInt m_park_deep.toInt m_xf p1.toInt p2.toInt p3.toInt) ∧ (r_17.toInt = -2 ∨ 1 ≤ r_17.toInt) ∧ (r_17.toInt = -2 ∨ onF m_park_wide.toInt m_park_deep.toInt p2.toInt p3.toInt ≠ -2) from ⟨k_18_0, (by unfold laF; (repeat' split) <;> omega), (by omega), (by omega)⟩) (Nat.le_of_ble_eq_true rfl) (Nat.le_of_ble_eq_true rfl) dX13_lasts_45
    · have h_9 : x_8.toInt = 3 := c_eq h_9
      refine lv_bipush (v := -2) hx hb dX13_lasts_26 (by decide) ?_
      exact eI hQ X hr hlocks hP hD hS () [1, 2, 0] (by decide) rfl rfl (show ((-2) ≤ (-2 : Int32).toInt ∧ (-2 : Int32).toInt ≤ 4) ∧ ((-2 : Int32).toInt = laF m_park_wide.toInt m_park_deep.toInt m_xf p1.toInt p2.toInt p3.toInt) ∧ ((-2 : Int32).toInt = -2 ∨ 1 ≤ (-2 : Int32).toInt) ∧ ((-2 : Int32).toInt = -2 ∨ onF m_park_wide.toInt m_park_deep.toInt p2.toInt p3.toInt ≠ -2) from ⟨(by first | decide | omega | (refine ⟨by decide, ?_⟩; omega) | (have h9_0 : (-2 : Int32).toInt = (-2) := (by decide); omega)), (by have hc : (-2 : Int32).toInt = (-2) := (by decide); rw [hc]; unfold laF; (repeat' split) <;> omega), (Or.inl (by decide)), (Or.inl (by decide))⟩) (Nat.le_of_ble_eq_true rfl) (Nat.le_of_ble_eq_true rfl) dX13_lasts_28
set_option maxHeartbeats 4000000 in
set_option maxRecDepth 100000 in
theorem sX13_isFall (l : Launch) (dC : Nat → ClassId) (dI : Nat → Nat → Nat) (cy : Nat → ClassId) (h0 : Nat) (m_thrown : Int32) (m_trouble : Int32) (m_where : Int32) (m_park : Nat) (m_read : Value) (m_tape : Nat) (m_taped : Int32) (m_size : Int32) (m_spot : Int32) (m_sort : Int32) (m_place : Int32) (m_letters : Int32) (m_number : Int32) (m_fault : Int32) (m_wrongAt : Int32) (m_word : Int64) (m_v : Nat) (m_x : Nat) (m_past : Nat) (m_kept : Nat) (m_acts : Int32) (m_images : Int32) (m_left : Nat) (m_far : Nat) (m_line : Nat) (m_fitsNow : Int32) (m_ditchIn : Nat) (m_treadLeft : Int32) (m_rambledTo : Int32) (m_rambledFalls : Int32) (m_rambledIn : Int32) (m_park_wide : Int32) (m_park_deep : Int32) (m_park_errs : Int32) (m_park_slips : Int32) (m_park_rows : Int32) (m_park_walkers : Int32) (m_park_walks : Int32) (m_park_unsures : Int32) (m_park_sort : Nat) (m_park_unsure : Nat) (m_park_kind : Nat) (m_park_at : Nat) (m_park_to : Nat) (m_park_from : Nat) (m_park_steps : Nat) (m_park_fell : Nat) (m_park_name : Nat) (m_xf : Nat → Int32) (p1 : Int32) (p2 : Int32) (p3 : Int32) (hm_taped : 0 ≤ m_taped.toInt ∧ m_taped.toInt ≤ 800) (hm_size : 0 ≤ m_size.toInt ∧ m_size.toInt ≤ 800) (hm_spot : 0 ≤ m_spot.toInt ∧ m_spot.toInt ≤ 800) (hm_place : 0 ≤ m_place.toInt ∧ m_place.toInt ≤ 800) (hm_acts : 0 ≤ m_acts.toInt ∧ m_acts.toInt ≤ 16) (hm_images : 0 ≤ m_images.toInt ∧ m_images.toInt ≤ 3) (hm_park_wide : 2 ≤ m_park_wide.toInt ∧ m_park_wide.toInt ≤ 5) (hm_park_deep : 2 ≤ m_park_deep.toInt ∧ m_park_deep.toInt ≤ 4) (hm_park_rows : 0 ≤ m_park_rows.toInt ∧ m_park_rows.toInt ≤ 4) (hm_park_walkers : 0 ≤ m_park_walkers.toInt ∧ m_park_walkers.toInt ≤ 4) (hm_park_walks : 0 ≤ m_park_walks.toInt ∧ m_park_walks.toInt ≤ 6) (hm_park_unsures : 0 ≤ m_park_unsures.toInt ∧ m_park_unsures.toInt ≤ 5) (hp2 : 0 ≤ p2.toInt ∧ p2.toInt ≤ 19) (hc9 : 0 ≤ p2.toInt ∧ p2.toInt < (m_park_wide.toInt * m_park_deep.toInt)) (hon : onF m_park_wide.toInt m_park_deep.toInt p2.toInt p3.toInt ≠ -2) : ctI l dC dI cy hp yX13_isFall cX13_isFall 4 .boolean ({ frames := 2, cells := 0, slots := 0, locals := 43 } : Room) [.ref h0, .int p1, .int p2, .int p3] [(h0, .inr (12, [.int m_thrown, .int m_trouble, .int m_where, .ref m_park, m_read, .ref m_tape, .int m_taped, .int m_size, .int m_spot, .int m_sort, .int m_place, .int m_letters, .int m_number, .int m_fault, .int m_wrongAt, .long m_word, .ref m_v, .ref m_x, .ref m_past, .ref m_kept, .int m_acts, .int m_images, .ref m_left, .ref m_far, .ref m_line, .int m_fitsNow, .ref m_ditchIn, .int m_treadLeft, .int m_rambledTo, .int m_rambledFalls, .int m_rambledIn])), (m_park, .inr (11, [.int m_park_wide, .int m_park_deep, .int m_park_errs, .int m_park_slips, .int m_park_rows, .int m_park_walkers, .int m_park_walks, .int m_park_unsures, .ref m_park_sort, .ref m_park_unsure, .ref m_park_kind, .ref m_park_at, .ref m_park_to, .ref m_park_from, .ref m_park_steps, .ref m_park_fell, .ref m_park_name])), (m_x, .inl (cy 1, 20, .inl m_xf))] (S := Unit) (fun r _ => (0 ≤ r.toInt ∧ r.toInt ≤ 1) ∧ (r.toInt = faF m_park_wide.toInt m_park_deep.toInt m_xf p1.toInt p2.toInt p3.toInt)) (fun _ => [(h0, .inr (12, [.int m_thrown, .int m_trouble, .int m_where, .ref m_park, m_read, .ref m_tape, .int m_taped, .int m_size, .int m_spot, .int m_sort, .int m_place, .int m_letters, .int m_number, .int m_fault, .int m_wrongAt, .long m_word, .ref m_v, .ref m_x, .ref m_past, .ref m_kept, .int m_acts, .int m_images, .ref m_left, .ref m_far, .ref m_line, .int m_fitsNow, .ref m_ditchIn, .int m_treadLeft, .int m_rambledTo, .int m_rambledFalls, .int m_rambledIn])), (m_park, .inr (11, [.int m_park_wide, .int m_park_deep, .int m_park_errs, .int m_park_slips, .int m_park_rows, .int m_park_walkers, .int m_park_walks, .int m_park_unsures, .ref m_park_sort, .ref m_park_unsure, .ref m_park_kind, .ref m_park_at, .ref m_park_to, .ref m_park_from, .ref m_park_steps, .ref m_park_fell, .ref m_park_name])), (m_x, .inl (cy 1, 20, .inl m_xf))]) := by
  refine ctI.of (by decide +kernel) (Nat.le_of_ble_eq_true rfl) ?_
  intro p e s m args below meth c A ls Q hQ X hr hlocks hin hA hP hD hS hl
  have hx := X.1
  have hb := X.2.1
  have hK := X.2.2.2.2.2.1
  have hl : lv_has ls 4 [(0, .ref h0), (1, .int p1), (2, .int p2), (3, .int p3)] := hl
  have dy_1 := ti_bd p1
  have dy_2 := ti_bd p3
  have hpl : 4 ≤ (m_park_wide.toInt * m_park_deep.toInt) ∧ (m_park_wide.toInt * m_park_deep.toInt) ≤ 20 := pl_bd (by omega) (by omega) (by omega) (by omega)
  refine lv_iload_n hx hb dX13_isFall_0 rfl (lv_at hl 1 rfl) ?_
  refine lv_if_ne (tgt := 28) hx hb dX13_isFall_1 (by decide) (fun h_3 => ?_) (fun h_3 => ?_)
  · have h_3 : p1.toInt ≠ 0 := c_ne h_3
    refine lv_iconst (v := 0) hx hb dX13_isFall_28 (by decide) ?_
    exact eI hQ X hr hlocks hP hD hS () [0, 1, 2] (by decide) rfl rfl (show (0 ≤ (0 : Int32).toInt ∧ (0 : Int32).toInt ≤ 1) ∧ ((0 : Int32).toInt = faF m_park_wide.toInt m_park_deep.toInt m_xf p1.toInt p2.toInt p3.toInt) from ⟨(by first | decide | (have h9_0 : (0 : Int32).toInt = 0 := (by decide); omega) | (refine ⟨by decide, ?_⟩; omega) | omega), (by have hc : (0 : Int32).toInt = 0 := (by decide); rw [hc]; unfold faF; (repeat' split) <;> omega)⟩) (Nat.le_of_ble_eq_true rfl) (Nat.le_of_ble_eq_true rfl) dX13_isFall_29
  · have h_3 : p1.toInt = 0 := c_eq h_3
    refine lv_iload_n hx hb dX13_isFall_4 rfl (lv_at hl 3 rfl) ?_
    refine lv_iconst (v := 2) hx hb dX13_isFall_5 (by decide) ?_
    refine lv_icmp_ne (tgt := 28) hx hb dX13_isFall_6 (by decide) (fun h_4 => ?_) (fun h_4 => ?_)
    · have h_4 : p3.toInt ≠ 2 := c_ne h_4
      refine lv_iconst (v := 0) hx hb dX13_isFall_28 (by decide) ?_
      exact eI hQ X hr hlocks hP hD hS () [0, 1, 2] (by decide) rfl rfl (show (0 ≤ (0 : Int32).toInt ∧ (0 : Int32).toInt ≤ 1) ∧ ((0 : Int32).toInt = faF m_park_wide.toInt m_park_deep.toInt m_xf p1.toInt p2.toInt p3.toInt) from ⟨(by first | decide | (have h9_0 : (0 : Int32).toInt = 0 := (by decide); omega) | (refine ⟨by decide, ?_⟩; omega) | omega), (by have hc : (0 : Int32).toInt = 0 := (by decide); rw [hc]; unfold faF; (repeat' split) <;> omega)⟩) (Nat.le_of_ble_eq_true rfl) (Nat.le_of_ble_eq_true rfl) dX13_isFall_29
    · have h_4 : p3.toInt = 2 := c_eq h_4
      refine lv_aload_n hx hb dX13_isFall_9 rfl (lv_at hl 0 rfl) ?_
      refine r_get X kcX13 (ci := 12) rfl hP 0 rfl 17 (by decide) fX13_21 rfl dX13_isFall_10 ?_
      refine lv_aload_n hx hb dX13_isFall_13 rfl (lv_at hl 0 rfl) ?_
      refine lv_iload_n hx hb dX13_isFall_14 rfl (lv_at hl 2 rfl) ?_
      refine lv_iload_n hx hb dX13_isFall_15 rfl (lv_at hl 3 rfl) ?_
      refine sl_Ic (rV_I (As := [.int p2, .int p3]) (rest := [.ref m_x]) X hp_st (fun _ _ _ h => h) (sX13_onto l dC dI cy h0 m_thrown m_trouble m_where m_park m_read m_tape m_taped m_size m_spot m_sort m_place m_letters m_number m_fault m_wrongAt m_word m_v m_x m_past m_kept m_acts m_images m_left m_far m_line m_fitsNow m_ditchIn m_treadLeft m_rambledTo m_rambledFalls m_rambledIn m_park_wide m_park_deep m_park_errs m_park_slips m_park_rows m_park_walkers m_park_walks m_park_unsures m_park_sort m_park_unsure m_park_kind m_park_at m_park_to m_park_from m_park_steps m_park_fell m_park_name p2 p3 hm_taped hm_size hm_spot hm_place hm_acts hm_images hm_park_wide hm_park_deep hm_park_rows hm_park_walkers hm_park_walks hm_park_unsures hp2 hc9) kX13_onto vX13_onto mX13_280 hP hD hS hA [0, 1] (by decide) rfl 0 (ci := 12) rfl rfl rfl hl rfl rfl (Nat.le_of_ble_eq_true rfl) dX13_isFall_16 ⟨(Nat.le_of_ble_eq_true rfl), (Nat.le_of_ble_eq_true rfl)⟩ ⟨(Nat.le_of_ble_eq_true rfl), (Nat.le_of_ble_eq_true rfl)⟩) hP hD hS hA [0, 1] [false, false, true] rfl rfl rfl (fun r_5 u_7 H locs k_6 hP hD hS => ?_)
      have k_6 : ((-2) ≤ r_5.toInt ∧ r_5.toInt ≤ 19) ∧ (r_5.toInt = onF m_park_wide.toInt m_park_deep.toInt p2.toInt p3.toInt) ∧ (r_5.toInt = -2 ∨ (0 ≤ r_5.toInt ∧ r_5.toInt < (m_park_wide.toInt * m_park_deep.toInt))) := k_6
      obtain ⟨k_6_0, k_6_1, k_6_2⟩ := k_6
      have hPD := vPD (ws' := [(m_x, .inl (cy 1, 20, .inl m_xf)), (h0, .inr (12, [.int m_thrown, .int m_trouble, .int m_where, .ref m_park, m_read, .ref m_tape, .int m_taped, .int m_size, .int m_spot, .int m_sort, .int m_place, .int m_letters, .int m_number, .int m_fault, .int m_wrongAt, .long m_word, .ref m_v, .ref m_x, .ref m_past, .ref m_kept, .int m_acts, .int m_images, .ref m_left, .ref m_far, .ref m_line, .int m_fitsNow, .ref m_ditchIn, .int m_treadLeft, .int m_rambledTo, .int m_rambledFalls, .int m_rambledIn])), (m_park, .inr (11, [.int m_park_wide, .int m_park_deep, .int m_park_errs, .int m_park_slips, .int m_park_rows, .int m_park_walkers, .int m_park_walks, .int m_park_unsures, .ref m_park_sort, .ref m_park_unsure, .ref m_park_kind, .ref m_park_at, .ref m_park_to, .ref m_park_from, .ref m_park_steps, .ref m_park_fell, .ref m_park_name]))]) hP hD rfl
      have hP := hPD.1
      have hD := hPD.2
      have kf_8 : r_5.toInt = onF m_park_wide.toInt m_park_deep.toInt p2.toInt p3.toInt := by assumption
      refine va_iald (D := (dC, dI)) (cl := vwCl) hx hb hK hP 0 1 rfl rfl (i := r_5) (vin (by omega) (by omega)) dX13_isFall_19 ?_
      refine lv_topi (fun x_9 ex_9 => ?_)
      have gx_9 : (m_xf (onF m_park_wide.toInt m_park_deep.toInt p2.toInt p3.toInt).toNat).toInt = x_9.toInt := rd_at ex_9 kf_8
      refine lv_iconst (v := 1) hx hb dX13_isFall_20 (by decide) ?_
      refine lv_icmp_ne (tgt := 28) hx hb dX13_isFall_21 (by decide) (fun h_10 => ?_) (fun h_10 => ?_)
      · have h_10 : x_9.toInt ≠ 1 := c_ne h_10
        refine lv_iconst (v := 0) hx hb dX13_isFall_28 (by decide) ?_
        exact eI hQ X hr hlocks hP hD hS () [1, 2, 0] (by decide) rfl rfl (show (0 ≤ (0 : Int32).toInt ∧ (0 : Int32).toInt ≤ 1) ∧ ((0 : Int32).toInt = faF m_park_wide.toInt m_park_deep.toInt m_xf p1.toInt p2.toInt p3.toInt) from ⟨(by first | decide | (have h9_0 : (0 : Int32).toInt = 0 := (by decide); omega) | (refine ⟨by decide, ?_⟩; omega) | omega), (by have hc : (0 : Int32).toInt = 0 := (by decide); rw [hc]; unfold faF; (repeat' split) <;> omega)⟩) (Nat.le_of_ble_eq_true rfl) (Nat.le_of_ble_eq_true rfl) dX13_isFall_29
      · have h_10 : x_9.toInt = 1 := c_eq h_10
        refine lv_iconst (v := 1) hx hb dX13_isFall_24 (by decide) ?_
        refine lv_goto (tgt := 29) hx hb dX13_isFall_25 (by decide) ?_
        exact eI hQ X hr hlocks hP hD hS () [1, 2, 0] (by decide) rfl rfl (show (0 ≤ (1 : Int32).toInt ∧ (1 : Int32).toInt ≤ 1) ∧ ((1 : Int32).toInt = faF m_park_wide.toInt m_park_deep.toInt m_xf p1.toInt p2.toInt p3.toInt) from ⟨(by first | decide | (have h9_0 : (1 : Int32).toInt = 1 := (by decide); omega) | (refine ⟨by decide, ?_⟩; omega) | omega), (by have hc : (1 : Int32).toInt = 1 := (by decide); rw [hc]; unfold faF; (repeat' split) <;> omega)⟩) (Nat.le_of_ble_eq_true rfl) (Nat.le_of_ble_eq_true rfl) dX13_isFall_29
set_option maxHeartbeats 4000000 in
set_option maxRecDepth 100000 in
theorem sX13_weighs (l : Launch) (dC : Nat → ClassId) (dI : Nat → Nat → Nat) (cy : Nat → ClassId) (h0 : Nat) (m_thrown : Int32) (m_trouble : Int32) (m_where : Int32) (m_park : Nat) (m_read : Value) (m_tape : Nat) (m_taped : Int32) (m_size : Int32) (m_spot : Int32) (m_sort : Int32) (m_place : Int32) (m_letters : Int32) (m_number : Int32) (m_fault : Int32) (m_wrongAt : Int32) (m_word : Int64) (m_v : Nat) (m_x : Nat) (m_past : Nat) (m_kept : Nat) (m_acts : Int32) (m_images : Int32) (m_left : Nat) (m_far : Nat) (m_line : Nat) (m_fitsNow : Int32) (m_ditchIn : Nat) (m_treadLeft : Int32) (m_rambledTo : Int32) (m_rambledFalls : Int32) (m_rambledIn : Int32) (m_park_wide : Int32) (m_park_deep : Int32) (m_park_errs : Int32) (m_park_slips : Int32) (m_park_rows : Int32) (m_park_walkers : Int32) (m_park_walks : Int32) (m_park_unsures : Int32) (m_park_sort : Nat) (m_park_unsure : Nat) (m_park_kind : Nat) (m_park_at : Nat) (m_park_to : Nat) (m_park_from : Nat) (m_park_steps : Nat) (m_park_fell : Nat) (m_park_name : Nat) (m_xf : Nat → Int32) (p1 : Int32) (p2 : Int32) (p3 : Int32) (p4 : Int32) (hm_taped : 0 ≤ m_taped.toInt ∧ m_taped.toInt ≤ 800) (hm_size : 0 ≤ m_size.toInt ∧ m_size.toInt ≤ 800) (hm_spot : 0 ≤ m_spot.toInt ∧ m_spot.toInt ≤ 800) (hm_place : 0 ≤ m_place.toInt ∧ m_place.toInt ≤ 800) (hm_acts : 0 ≤ m_acts.toInt ∧ m_acts.toInt ≤ 16) (hm_images : 0 ≤ m_images.toInt ∧ m_images.toInt ≤ 3) (hm_park_wide : 2 ≤ m_park_wide.toInt ∧ m_park_wide.toInt ≤ 5) (hm_park_deep : 2 ≤ m_park_deep.toInt ∧ m_park_deep.toInt ≤ 4) (hm_park_rows : 0 ≤ m_park_rows.toInt ∧ m_park_rows.toInt ≤ 4) (hm_park_walkers : 0 ≤ m_park_walkers.toInt ∧ m_park_walkers.toInt ≤ 4) (hm_park_walks : 0 ≤ m_park_walks.toInt ∧ m_park_walks.toInt ≤ 6) (hm_park_unsures : 0 ≤ m_park_unsures.toInt ∧ m_park_unsures.toInt ≤ 5) (hp2 : 0 ≤ p2.toInt ∧ p2.toInt ≤ 19) (hc9 : 0 ≤ p2.toInt ∧ p2.toInt < (m_park_wide.toInt * m_park_deep.toInt)) (hla : laF m_park_wide.toInt m_park_deep.toInt m_xf p1.toInt p2.toInt p3.toInt ≠ -2) : ctI l dC dI cy hp yX13_weighs cX13_weighs 7 .int ({ frames := 3, cells := 0, slots := 0, locals := 67 } : Room) [.ref h0, .int p1, .int p2, .int p3, .int p4] [(h0, .inr (12, [.int m_thrown, .int m_trouble, .int m_where, .ref m_park, m_read, .ref m_tape, .int m_taped, .int m_size, .int m_spot, .int m_sort, .int m_place, .int m_letters, .int m_number, .int m_fault, .int m_wrongAt, .long m_word, .ref m_v, .ref m_x, .ref m_past, .ref m_kept, .int m_acts, .int m_images, .ref m_left, .ref m_far, .ref m_line, .int m_fitsNow, .ref m_ditchIn, .int m_treadLeft, .int m_rambledTo, .int m_rambledFalls, .int m_rambledIn])), (m_park, .inr (11, [.int m_park_wide, .int m_park_deep, .int m_park_errs, .int m_park_slips, .int m_park_rows, .int m_park_walkers, .int m_park_walks, .int m_park_unsures, .ref m_park_sort, .ref m_park_unsure, .ref m_park_kind, .ref m_park_at, .ref m_park_to, .ref m_park_from, .ref m_park_steps, .ref m_park_fell, .ref m_park_name])), (m_x, .inl (cy 1, 20, .inl m_xf))] (S := Unit) (fun r _ => (1 ≤ r.toInt ∧ r.toInt ≤ 4001) ∧ (r.toInt = weF m_park_wide.toInt m_park_deep.toInt m_xf p1.toInt p2.toInt p3.toInt p4.toInt)) (fun _ => [(h0, .inr (12, [.int m_thrown, .int m_trouble, .int m_where, .ref m_park, m_read, .ref m_tape, .int m_taped, .int m_size, .int m_spot, .int m_sort, .int m_place, .int m_letters, .int m_number, .int m_fault, .int m_wrongAt, .long m_word, .ref m_v, .ref m_x, .ref m_past, .ref m_kept, .int m_acts, .int m_images, .ref m_left, .ref m_far, .ref m_line, .int m_fitsNow, .ref m_ditchIn, .int m_treadLeft, .int m_rambledTo, .int m_rambledFalls, .int m_rambledIn])), (m_park, .inr (11, [.int m_park_wide, .int m_park_deep, .int m_park_errs, .int m_park_slips, .int m_park_rows, .int m_park_walkers, .int m_park_walks, .int m_park_unsures, .ref m_park_sort, .ref m_park_unsure, .ref m_park_kind, .ref m_park_at, .ref m_park_to, .ref m_park_from, .ref m_park_steps, .ref m_park_fell, .ref m_park_name])), (m_x, .inl (cy 1, 20, .inl m_xf))]) := by
  refine ctI.of (by decide +kernel) (Nat.le_of_ble_eq_true rfl) ?_
  intro p e s m args below meth c A ls Q hQ X hr hlocks hin hA hP hD hS hl
  have hx := X.1
  have hb := X.2.1
  have hK := X.2.2.2.2.2.1
  have hl : lv_has ls 7 [(0, .ref h0), (1, .int p1), (2, .int p2), (3, .int p3), (4, .int p4)] := hl
  have dy_1 := ti_bd p1
  have dy_2 := ti_bd p3
  have dy_3 := ti_bd p4
  have hpl : 4 ≤ (m_park_wide.toInt * m_park_deep.toInt) ∧ (m_park_wide.toInt * m_park_deep.toInt) ≤ 20 := pl_bd (by omega) (by omega) (by omega) (by omega)
  have hon := la_on hla
  have hlb := la_bd m_park_wide.toInt m_park_deep.toInt m_xf p1.toInt p2.toInt p3.toInt
  have hfb := fa_bd m_park_wide.toInt m_park_deep.toInt m_xf p1.toInt p2.toInt p3.toInt
  refine lv_aload_n hx hb dX13_weighs_0 rfl (lv_at hl 0 rfl) ?_
  refine lv_iload_n hx hb dX13_weighs_1 rfl (lv_at hl 1 rfl) ?_
  refine lv_iload_n hx hb dX13_weighs_2 rfl (lv_at hl 2 rfl) ?_
  refine lv_iload_n hx hb dX13_weighs_3 rfl (lv_at hl 3 rfl) ?_
  refine sl_Ic (rV_I (As := [.int p1, .int p2, .int p3]) (rest := []) X hp_st (fun _ _ _ h => h) (sX13_isFall l dC dI cy h0 m_thrown m_trouble m_where m_park m_read m_tape m_taped m_size m_spot m_sort m_place m_letters m_number m_fault m_wrongAt m_word m_v m_x m_past m_kept m_acts m_images m_left m_far m_line m_fitsNow m_ditchIn m_treadLeft m_rambledTo m_rambledFalls m_rambledIn m_park_wide m_park_deep m_park_errs m_park_slips m_park_rows m_park_walkers m_park_walks m_park_unsures m_park_sort m_park_unsure m_park_kind m_park_at m_park_to m_park_from m_park_steps m_park_fell m_park_name m_xf p1 p2 p3 hm_taped hm_size hm_spot hm_place hm_acts hm_images hm_park_wide hm_park_deep hm_park_rows hm_park_walkers hm_park_walks hm_park_unsures hp2 hc9 (by omega)) kX13_isFall vX13_isFall mX13_286 hP hD hS hA [0, 1, 2] (by decide) rfl 0 (ci := 12) rfl rfl rfl hl rfl rfl (Nat.le_of_ble_eq_true rfl) dX13_weighs_4 ⟨(Nat.le_of_ble_eq_true rfl), (Nat.le_of_ble_eq_true rfl)⟩ ⟨(Nat.le_of_ble_eq_true rfl), (Nat.le_of_ble_eq_true rfl)⟩) hP hD hS hA [0, 1, 2] [false, false, false] rfl rfl rfl (fun r_4 u_6 H locs k_5 hP hD hS => ?_)
  have k_5 : (0 ≤ r_4.toInt ∧ r_4.toInt ≤ 1) ∧ (r_4.toInt = faF m_park_wide.toInt m_park_deep.toInt m_xf p1.toInt p2.toInt p3.toInt) := k_5
  obtain ⟨k_5_0, k_5_1⟩ := k_5
  have hPD := vPD (ws' := [(h0, .inr (12, [.int m_thrown, .int m_trouble, .int m_where, .ref m_park, m_read, .ref m_tape, .int m_taped, .int m_size, .int m_spot, .int m_sort, .int m_place, .int m_letters, .int m_number, .int m_fault, .int m_wrongAt, .long m_word, .ref m_v, .ref m_x, .ref m_past, .ref m_kept, .int m_acts, .int m_images, .ref m_left, .ref m_far, .ref m_line, .int m_fitsNow, .ref m_ditchIn, .int m_treadLeft, .int m_rambledTo, .int m_rambledFalls, .int m_rambledIn])), (m_park, .inr (11, [.int m_park_wide, .int m_park_deep, .int m_park_errs, .int m_park_slips, .int m_park_rows, .int m_park_walkers, .int m_park_walks, .int m_park_unsures, .ref m_park_sort, .ref m_park_unsure, .ref m_park_kind, .ref m_park_at, .ref m_park_to, .ref m_park_from, .ref m_park_steps, .ref m_park_fell, .ref m_park_name])), (m_x, .inl (cy 1, 20, .inl m_xf))]) hP hD rfl
  have hP := hPD.1
  have hD := hPD.2
  refine lv_if_eq (tgt := 14) hx hb dX13_weighs_7 (by decide) (fun h_7 => ?_) (fun h_7 => ?_)
  · have h_7 : r_4.toInt = 0 := c_eq h_7
    refine lv_iconst (v := 0) hx hb dX13_weighs_14 (by decide) ?_
    refine lv_istore (lv' := [(5, .int 0), (0, .ref h0), (1, .int p1), (2, .int p2), (3, .int p3), (4, .int p4)]) hx hb dX13_weighs_15 hl (by decide) rfl (fun ls hl => ?_)
    refine lv_aload_n hx hb dX13_weighs_17 rfl (lv_at hl 1 rfl) ?_
    refine lv_iload_n hx hb dX13_weighs_18 rfl (lv_at hl 2 rfl) ?_
    refine lv_iload_n hx hb dX13_weighs_19 rfl (lv_at hl 3 rfl) ?_
    refine lv_iload_n hx hb dX13_weighs_20 rfl (lv_at hl 4 rfl) ?_
    refine sl_Ic (rV_I (As := [.int p1, .int p2, .int p3]) (rest := []) X hp_st (fun _ _ _ h => h) (sX13_lasts l dC dI cy h0 m_thrown m_trouble m_where m_park m_read m_tape m_taped m_size m_spot m_sort m_place m_letters m_number m_fault m_wrongAt m_word m_v m_x m_past m_kept m_acts m_images m_left m_far m_line m_fitsNow m_ditchIn m_treadLeft m_rambledTo m_rambledFalls m_rambledIn m_park_wide m_park_deep m_park_errs m_park_slips m_park_rows m_park_walkers m_park_walks m_park_unsures m_park_sort m_park_unsure m_park_kind m_park_at m_park_to m_park_from m_park_steps m_park_fell m_park_name m_xf p1 p2 p3 hm_taped hm_size hm_spot hm_place hm_acts hm_images hm_park_wide hm_park_deep hm_park_rows hm_park_walkers hm_park_walks hm_park_unsures hp2 hc9) kX13_lasts vX13_lasts mX13_289 hP hD hS hA [0, 1, 2] (by decide) rfl 0 (ci := 12) rfl rfl rfl hl rfl rfl (Nat.le_of_ble_eq_true rfl) dX13_weighs_21 ⟨(Nat.le_of_ble_eq_true rfl), (Nat.le_of_ble_eq_true rfl)⟩ ⟨(Nat.le_of_ble_eq_true rfl), (Nat.le_of_ble_eq_true rfl)⟩) hP hD hS hA [0, 1, 2] [false, false, false] rfl rfl rfl (fun r_8 u_10 H locs k_9 hP hD hS => ?_)
    have k_9 : ((-2) ≤ r_8.toInt ∧ r_8.toInt ≤ 4) ∧ (r_8.toInt = laF m_park_wide.toInt m_park_deep.toInt m_xf p1.toInt p2.toInt p3.toInt) ∧ (r_8.toInt = -2 ∨ 1 ≤ r_8.toInt) ∧ (r_8.toInt = -2 ∨ onF m_park_wide.toInt m_park_deep.toInt p2.toInt p3.toInt ≠ -2) := k_9
    obtain ⟨k_9_0, k_9_1, k_9_2, k_9_3⟩ := k_9
    have hPD := vPD (ws' := [(h0, .inr (12, [.int m_thrown, .int m_trouble, .int m_where, .ref m_park, m_read, .ref m_tape, .int m_taped, .int m_size, .int m_spot, .int m_sort, .int m_place, .int m_letters, .int m_number, .int m_fault, .int m_wrongAt, .long m_word, .ref m_v, .ref m_x, .ref m_past, .ref m_kept, .int m_acts, .int m_images, .ref m_left, .ref m_far, .ref m_line, .int m_fitsNow, .ref m_ditchIn, .int m_treadLeft, .int m_rambledTo, .int m_rambledFalls, .int m_rambledIn])), (m_park, .inr (11, [.int m_park_wide, .int m_park_deep, .int m_park_errs, .int m_park_slips, .int m_park_rows, .int m_park_walkers, .int m_park_walks, .int m_park_unsures, .ref m_park_sort, .ref m_park_unsure, .ref m_park_kind, .ref m_park_at, .ref m_park_to, .ref m_park_from, .ref m_park_steps, .ref m_park_fell, .ref m_park_name])), (m_x, .inl (cy 1, 20, .inl m_xf))]) hP hD rfl
    have hP := hPD.1
    have hD := hPD.2
    refine lv_istore (lv' := [(6, .int r_8), (5, .int 0), (0, .ref h0), (1, .int p1), (2, .int p2), (3, .int p3), (4, .int p4)]) hx hb dX13_weighs_24 hl (by decide) rfl (fun ls hl => ?_)
    refine lv_iload hx hb dX13_weighs_26 (lv_at hl 6 rfl) ?_
    refine lv_if_eq (tgt := 43) hx hb dX13_weighs_28 (by decide) (fun h_11 => ?_) (fun h_11 => ?_)
    · have h_11 : p4.toInt = 0 := c_eq h_11
      refine lv_sipush (v := 1000) hx hb dX13_weighs_43 (by decide) ?_
      refine lv_iload hx hb dX13_weighs_46 (lv_at hl 1 rfl) ?_
      refine lv_imul hx hb dX13_weighs_48 ?_
      refine lv_topi (fun x_12 ex_12 => ?_)
      have ex_12 : x_12 = 0 := ex_12.trans (by decide)
      subst ex_12
      refine lv_iload hx hb dX13_weighs_49 (lv_at hl 0 rfl) ?_
      refine lv_iadd hx hb dX13_weighs_51 ?_
      refine lv_topi (fun x_13 ex_13 => ?_)
      have tx_13 : x_13.toInt = 0 + r_8.toInt := ti_add (A := 0) (B := r_8.toInt) ex_13 rfl rfl (by omega) (by omega)
      exact eI hQ X hr hlocks hP hD hS () [0, 1, 2] (by decide) rfl rfl (show (1 ≤ x_13.toInt ∧ x_13.toInt ≤ 4001) ∧ (x_13.toInt = weF m_park_wide.toInt m_park_deep.toInt m_xf p1.toInt p2.toInt p3.toInt p4.toInt) from ⟨(by omega), (by unfold weF; split <;> omega)⟩) (Nat.le_of_ble_eq_true rfl) (Nat.le_of_ble_eq_true rfl) dX13_weighs_52
    · have h_11 : p4.toInt ≠ 0 := c_ne h_11
      refine lv_sipush (v := 1000) hx hb dX13_weighs_31 (by decide) ?_
      refine lv_iload hx hb dX13_weighs_34 (lv_at hl 0 rfl) ?_
      refine lv_imul hx hb dX13_weighs_36 ?_
      refine lv_topi (fun x_14 ex_14 => ?_)
      have tx_14 : x_14.toInt = 1000 * r_8.toInt := ti_mulk (A := 1000) (B := r_8.toInt) ex_14 rfl rfl (by omega) (by omega)
      refine lv_iload hx hb dX13_weighs_37 (lv_at hl 1 rfl) ?_
      refine lv_iadd hx hb dX13_weighs_39 ?_
      refine lv_topi (fun x_15 ex_15 => ?_)
      have tx_15 : x_15.toInt = x_14.toInt + 0 := ti_add (A := x_14.toInt) (B := 0) ex_15 rfl rfl (by omega) (by omega)
      refine lv_goto (tgt := 52) hx hb dX13_weighs_40 (by decide) ?_
      exact eI hQ X hr hlocks hP hD hS () [0, 1, 2] (by decide) rfl rfl (show (1 ≤ x_15.toInt ∧ x_15.toInt ≤ 4001) ∧ (x_15.toInt = weF m_park_wide.toInt m_park_deep.toInt m_xf p1.toInt p2.toInt p3.toInt p4.toInt) from ⟨(by omega), (by unfold weF; split <;> omega)⟩) (Nat.le_of_ble_eq_true rfl) (Nat.le_of_ble_eq_true rfl) dX13_weighs_52
  · have h_7 : r_4.toInt ≠ 0 := c_ne h_7
    refine lv_iconst (v := 1) hx hb dX13_weighs_10 (by decide) ?_
    refine lv_goto (tgt := 15) hx hb dX13_weighs_11 (by decide) ?_
    refine lv_istore (lv' := [(5, .int 1), (0, .ref h0), (1, .int p1), (2, .int p2), (3, .int p3), (4, .int p4)]) hx hb dX13_weighs_15 hl (by decide) rfl (fun ls hl => ?_)
    refine lv_aload_n hx hb dX13_weighs_17 rfl (lv_at hl 1 rfl) ?_
    refine lv_iload_n hx hb dX13_weighs_18 rfl (lv_at hl 2 rfl) ?_
    refine lv_iload_n hx hb dX13_weighs_19 rfl (lv_at hl 3 rfl) ?_
    refine lv_iload_n hx hb dX13_weighs_20 rfl (lv_at hl 4 rfl) ?_
    refine sl_Ic (rV_I (As := [.int p1, .int p2, .int p3]) (rest := []) X hp_st (fun _ _ _ h => h) (sX13_lasts l dC dI cy h0 m_thrown m_trouble m_where m_park m_read m_tape m_taped m_size m_spot m_sort m_place m_letters m_number m_fault m_wrongAt m_word m_v m_x m_past m_kept m_acts m_images m_left m_far m_line m_fitsNow m_ditchIn m_treadLeft m_rambledTo m_rambledFalls m_rambledIn m_park_wide m_park_deep m_park_errs m_park_slips m_park_rows m_park_walkers m_park_walks m_park_unsures m_park_sort m_park_unsure m_park_kind m_park_at m_park_to m_park_from m_park_steps m_park_fell m_park_name m_xf p1 p2 p3 hm_taped hm_size hm_spot hm_place hm_acts hm_images hm_park_wide hm_park_deep hm_park_rows hm_park_walkers hm_park_walks hm_park_unsures hp2 hc9) kX13_lasts vX13_lasts mX13_289 hP hD hS hA [0, 1, 2] (by decide) rfl 0 (ci := 12) rfl rfl rfl hl rfl rfl (Nat.le_of_ble_eq_true rfl) dX13_weighs_21 ⟨(Nat.le_of_ble_eq_true rfl), (Nat.le_of_ble_eq_true rfl)⟩ ⟨(Nat.le_of_ble_eq_true rfl), (Nat.le_of_ble_eq_true rfl)⟩) hP hD hS hA [0, 1, 2] [false, false, false] rfl rfl rfl (fun r_16 u_18 H locs k_17 hP hD hS => ?_)
    have k_17 : ((-2) ≤ r_16.toInt ∧ r_16.toInt ≤ 4) ∧ (r_16.toInt = laF m_park_wide.toInt m_park_deep.toInt m_xf p1.toInt p2.toInt p3.toInt) ∧ (r_16.toInt = -2 ∨ 1 ≤ r_16.toInt) ∧ (r_16.toInt = -2 ∨ onF m_park_wide.toInt m_park_deep.toInt p2.toInt p3.toInt ≠ -2) := k_17
    obtain ⟨k_17_0, k_17_1, k_17_2, k_17_3⟩ := k_17
    have hPD := vPD (ws' := [(h0, .inr (12, [.int m_thrown, .int m_trouble, .int m_where, .ref m_park, m_read, .ref m_tape, .int m_taped, .int m_size, .int m_spot, .int m_sort, .int m_place, .int m_letters, .int m_number, .int m_fault, .int m_wrongAt, .long m_word, .ref m_v, .ref m_x, .ref m_past, .ref m_kept, .int m_acts, .int m_images, .ref m_left, .ref m_far, .ref m_line, .int m_fitsNow, .ref m_ditchIn, .int m_treadLeft, .int m_rambledTo, .int m_rambledFalls, .int m_rambledIn])), (m_park, .inr (11, [.int m_park_wide, .int m_park_deep, .int m_park_errs, .int m_park_slips, .int m_park_rows, .int m_park_walkers, .int m_park_walks, .int m_park_unsures, .ref m_park_sort, .ref m_park_unsure, .ref m_park_kind, .ref m_park_at, .ref m_park_to, .ref m_park_from, .ref m_park_steps, .ref m_park_fell, .ref m_park_name])), (m_x, .inl (cy 1, 20, .inl m_xf))]) hP hD rfl
    have hP := hPD.1
    have hD := hPD.2
    refine lv_istore (lv' := [(6, .int r_16), (5, .int 1), (0, .ref h0), (1, .int p1), (2, .int p2), (3, .int p3), (4, .int p4)]) hx hb dX13_weighs_24 hl (by decide) rfl (fun ls hl => ?_)
    refine lv_iload hx hb dX13_weighs_26 (lv_at hl 6 rfl) ?_
    refine lv_if_eq (tgt := 43) hx hb dX13_weighs_28 (by decide) (fun h_19 => ?_) (fun h_19 => ?_)
    · have h_19 : p4.toInt = 0 := c_eq h_19
      refine lv_sipush (v := 1000) hx hb dX13_weighs_43 (by decide) ?_
      refine lv_iload hx hb dX13_weighs_46 (lv_at hl 1 rfl) ?_
      refine lv_imul hx hb dX13_weighs_48 ?_
      refine lv_topi (fun x_20 ex_20 => ?_)
      have ex_20 : x_20 = 1000 := ex_20.trans (by decide)
      subst ex_20
      refine lv_iload hx hb dX13_weighs_49 (lv_at hl 0 rfl) ?_
      refine lv_iadd hx hb dX13_weighs_51 ?_
      refine lv_topi (fun x_21 ex_21 => ?_)
      have tx_21 : x_21.toInt = 1000 + r_16.toInt := ti_add (A := 1000) (B := r_16.toInt) ex_21 rfl rfl (by omega) (by omega)
      exact eI hQ X hr hlocks hP hD hS () [0, 1, 2] (by decide) rfl rfl (show (1 ≤ x_21.toInt ∧ x_21.toInt ≤ 4001) ∧ (x_21.toInt = weF m_park_wide.toInt m_park_deep.toInt m_xf p1.toInt p2.toInt p3.toInt p4.toInt) from ⟨(by omega), (by unfold weF; split <;> omega)⟩) (Nat.le_of_ble_eq_true rfl) (Nat.le_of_ble_eq_true rfl) dX13_weighs_52
    · have h_19 : p4.toInt ≠ 0 := c_ne h_19
      refine lv_sipush (v := 1000) hx hb dX13_weighs_31 (by decide) ?_
      refine lv_iload hx hb dX13_weighs_34 (lv_at hl 0 rfl) ?_
      refine lv_imul hx hb dX13_weighs_36 ?_
      refine lv_topi (fun x_22 ex_22 => ?_)
      have tx_22 : x_22.toInt = 1000 * r_16.toInt := ti_mulk (A := 1000) (B := r_16.toInt) ex_22 rfl rfl (by omega) (by omega)
      refine lv_iload hx hb dX13_weighs_37 (lv_at hl 1 rfl) ?_
      refine lv_iadd hx hb dX13_weighs_39 ?_
      refine lv_topi (fun x_23 ex_23 => ?_)
      have tx_23 : x_23.toInt = x_22.toInt + 1 := ti_add (A := x_22.toInt) (B := 1) ex_23 rfl rfl (by omega) (by omega)
      refine lv_goto (tgt := 52) hx hb dX13_weighs_40 (by decide) ?_
      exact eI hQ X hr hlocks hP hD hS () [0, 1, 2] (by decide) rfl rfl (show (1 ≤ x_23.toInt ∧ x_23.toInt ≤ 4001) ∧ (x_23.toInt = weF m_park_wide.toInt m_park_deep.toInt m_xf p1.toInt p2.toInt p3.toInt p4.toInt) from ⟨(by omega), (by unfold weF; split <;> omega)⟩) (Nat.le_of_ble_eq_true rfl) (Nat.le_of_ble_eq_true rfl) dX13_weighs_52
set_option maxHeartbeats 4000000 in
set_option maxRecDepth 100000 in
theorem sX13_leaves (l : Launch) (dC : Nat → ClassId) (dI : Nat → Nat → Nat) (cy : Nat → ClassId) (h0 : Nat) (m_thrown : Int32) (m_trouble : Int32) (m_where : Int32) (m_park : Nat) (m_read : Value) (m_tape : Nat) (m_taped : Int32) (m_size : Int32) (m_spot : Int32) (m_sort : Int32) (m_place : Int32) (m_letters : Int32) (m_number : Int32) (m_fault : Int32) (m_wrongAt : Int32) (m_word : Int64) (m_v : Nat) (m_x : Nat) (m_past : Nat) (m_kept : Nat) (m_acts : Int32) (m_images : Int32) (m_left : Nat) (m_far : Nat) (m_line : Nat) (m_fitsNow : Int32) (m_ditchIn : Nat) (m_treadLeft : Int32) (m_rambledTo : Int32) (m_rambledFalls : Int32) (m_rambledIn : Int32) (m_park_wide : Int32) (m_park_deep : Int32) (m_park_errs : Int32) (m_park_slips : Int32) (m_park_rows : Int32) (m_park_walkers : Int32) (m_park_walks : Int32) (m_park_unsures : Int32) (m_park_sort : Nat) (m_park_unsure : Nat) (m_park_kind : Nat) (m_park_at : Nat) (m_park_to : Nat) (m_park_from : Nat) (m_park_steps : Nat) (m_park_fell : Nat) (m_park_name : Nat) (m_park_kindf : Nat → Int32) (m_park_tof : Nat → Int32) (m_xf : Nat → Int32) (m_leftf : Nat → Int32) (p1 : Int32) (p2 : Int32) (hm_taped : 0 ≤ m_taped.toInt ∧ m_taped.toInt ≤ 800) (hm_size : 0 ≤ m_size.toInt ∧ m_size.toInt ≤ 800) (hm_spot : 0 ≤ m_spot.toInt ∧ m_spot.toInt ≤ 800) (hm_place : 0 ≤ m_place.toInt ∧ m_place.toInt ≤ 800) (hm_acts : 0 ≤ m_acts.toInt ∧ m_acts.toInt ≤ 16) (hm_images : 0 ≤ m_images.toInt ∧ m_images.toInt ≤ 3) (hm_park_wide : 2 ≤ m_park_wide.toInt ∧ m_park_wide.toInt ≤ 5) (hm_park_deep : 2 ≤ m_park_deep.toInt ∧ m_park_deep.toInt ≤ 4) (hm_park_rows : 0 ≤ m_park_rows.toInt ∧ m_park_rows.toInt ≤ 4) (hm_park_walkers : 0 ≤ m_park_walkers.toInt ∧ m_park_walkers.toInt ≤ 4) (hm_park_walks : 0 ≤ m_park_walks.toInt ∧ m_park_walks.toInt ≤ 6) (hm_park_unsures : 0 ≤ m_park_unsures.toInt ∧ m_park_unsures.toInt ≤ 5) (hm_park_tof : rb m_park_tof 4 0 19) (hm_leftf : rb m_leftf 20 0 9999999) (hp1 : 0 ≤ p1.toInt ∧ p1.toInt ≤ 3) : ctV l dC dI cy hp yX13_leaves cX13_leaves 8 ({ frames := 4, cells := 0, slots := 0, locals := 93 } : Room) [.ref h0, .int p1, .int p2] [(h0, .inr (12, [.int m_thrown, .int m_trouble, .int m_where, .ref m_park, m_read, .ref m_tape, .int m_taped, .int m_size, .int m_spot, .int m_sort, .int m_place, .int m_letters, .int m_number, .int m_fault, .int m_wrongAt, .long m_word, .ref m_v, .ref m_x, .ref m_past, .ref m_kept, .int m_acts, .int m_images, .ref m_left, .ref m_far, .ref m_line, .int m_fitsNow, .ref m_ditchIn, .int m_treadLeft, .int m_rambledTo, .int m_rambledFalls, .int m_rambledIn])), (m_park, .inr (11, [.int m_park_wide, .int m_park_deep, .int m_park_errs, .int m_park_slips, .int m_park_rows, .int m_park_walkers, .int m_park_walks, .int m_park_unsures, .ref m_park_sort, .ref m_park_unsure, .ref m_park_kind, .ref m_park_at, .ref m_park_to, .ref m_park_from, .ref m_park_steps, .ref m_park_fell, .ref m_park_name])), (m_park_kind, .inl (cy 1, 4, .inl m_park_kindf)), (m_park_to, .inl (cy 1, 4, .inl m_park_tof)), (m_x, .inl (cy 1, 20, .inl m_xf)), (m_left, .inl (cy 1, 20, .inl m_leftf))] (S := (Nat → Int32)) (fun u => (rb u 20 0 9999999) ∧ (stI m_park_wide.toInt m_park_deep.toInt m_xf (m_park_kindf (Int.toNat p1.toInt)).toInt p2.toInt u)) (fun u => [(h0, .inr (12, [.int m_thrown, .int m_trouble, .int m_where, .ref m_park, m_read, .ref m_tape, .int m_taped, .int m_size, .int m_spot, .int m_sort, .int m_place, .int m_letters, .int m_number, .int m_fault, .int m_wrongAt, .long m_word, .ref m_v, .ref m_x, .ref m_past, .ref m_kept, .int m_acts, .int m_images, .ref m_left, .ref m_far, .ref m_line, .int m_fitsNow, .ref m_ditchIn, .int m_treadLeft, .int m_rambledTo, .int m_rambledFalls, .int m_rambledIn])), (m_park, .inr (11, [.int m_park_wide, .int m_park_deep, .int m_park_errs, .int m_park_slips, .int m_park_rows, .int m_park_walkers, .int m_park_walks, .int m_park_unsures, .ref m_park_sort, .ref m_park_unsure, .ref m_park_kind, .ref m_park_at, .ref m_park_to, .ref m_park_from, .ref m_park_steps, .ref m_park_fell, .ref m_park_name])), (m_park_kind, .inl (cy 1, 4, .inl m_park_kindf)), (m_park_to, .inl (cy 1, 4, .inl m_park_tof)), (m_x, .inl (cy 1, 20, .inl m_xf)), (m_left, .inl (cy 1, 20, .inl u))]) := by
  refine ctV.of (by decide +kernel) (Nat.le_of_ble_eq_true rfl) ?_
  intro p e s m args below meth c A ls Q hQ X hr hlocks hin hA hP hD hS hl
  have hx := X.1
  have hb := X.2.1
  have hK := X.2.2.2.2.2.1
  have hl : lv_has ls 8 [(0, .ref h0), (1, .int p1), (2, .int p2)] := hl
  have dy_1 := ti_bd p2
  have hpl : 4 ≤ (m_park_wide.toInt * m_park_deep.toInt) ∧ (m_park_wide.toInt * m_park_deep.toInt) ≤ 20 := pl_bd (by omega) (by omega) (by omega) (by omega)
  refine lv_aload_n hx hb dX13_leaves_0 rfl (lv_at hl 0 rfl) ?_
  refine r_get X kcX13 (ci := 12) rfl hP 0 rfl 3 (by decide) fX13_269 rfl dX13_leaves_1 ?_
  refine r_get X kcX12 (ci := 11) rfl hP 1 rfl 10 (by decide) fX13_238 rfl dX13_leaves_4 ?_
  refine lv_iload_n hx hb dX13_leaves_7 rfl (lv_at hl 1 rfl) ?_
  refine va_iald (D := (dC, dI)) (cl := vwCl) hx hb hK hP 2 1 rfl rfl (i := p1) (vin (by omega) (by omega)) dX13_leaves_8 ?_
  refine lv_topi (fun x_2 ex_2 => ?_)
  have gx_2 : (m_park_kindf (p1.toInt).toNat).toInt = x_2.toInt := rd_at ex_2 rfl
  refine lv_istore_n (lv' := [(3, .int x_2), (0, .ref h0), (1, .int p1), (2, .int p2)]) hx hb dX13_leaves_9 rfl hl (by decide) rfl (fun ls hl => ?_)
  refine lv_iconst (v := 0) hx hb dX13_leaves_10 (by decide) ?_
  refine lv_istore (lv' := [(4, .int 0), (3, .int x_2), (0, .ref h0), (1, .int p1), (2, .int p2)]) hx hb dX13_leaves_11 hl (by decide) rfl (fun ls hl => ?_)
  have lp_3 : ∀ (nlp_3 : Nat) (i_4 : Int32) (f_6 : Nat → Int32) (H : Heap) (locs : List Loc) (ls : Array Slot), (0 ≤ i_4.toInt ∧ i_4.toInt ≤ 20) → (rb f_6 20 0 9999999) → (i_4.toInt ≤ (m_park_wide.toInt * m_park_deep.toInt)) → (faI f_6 i_4.toInt) → (21 - i_4.toInt ≤ (nlp_3 : Int)) → va_P (dC, dI) vwCl [(h0, .inr (12, [.int m_thrown, .int m_trouble, .int m_where, .ref m_park, m_read, .ref m_tape, .int m_taped, .int m_size, .int m_spot, .int m_sort, .int m_place, .int m_letters, .int m_number, .int m_fault, .int m_wrongAt, .long m_word, .ref m_v, .ref m_x, .ref m_past, .ref m_kept, .int m_acts, .int m_images, .ref m_left, .ref m_far, .ref m_line, .int m_fitsNow, .ref m_ditchIn, .int m_treadLeft, .int m_rambledTo, .int m_rambledFalls, .int m_rambledIn])), (m_park, .inr (11, [.int m_park_wide, .int m_park_deep, .int m_park_errs, .int m_park_slips, .int m_park_rows, .int m_park_walkers, .int m_park_walks, .int m_park_unsures, .ref m_park_sort, .ref m_park_unsure, .ref m_park_kind, .ref m_park_at, .ref m_park_to, .ref m_park_from, .ref m_park_steps, .ref m_park_fell, .ref m_park_name])), (m_park_kind, .inl (cy 1, 4, .inl m_park_kindf)), (m_park_to, .inl (cy 1, 4, .inl m_park_tof)), (m_x, .inl (cy 1, 20, .inl m_xf)), (m_left, .inl (cy 1, 20, .inl f_6))] H → va_D A [(h0, .inr (12, [.int m_thrown, .int m_trouble, .int m_where, .ref m_park, m_read, .ref m_tape, .int m_taped, .int m_size, .int m_spot, .int m_sort, .int m_place, .int m_letters, .int m_number, .int m_fault, .int m_wrongAt, .long m_word, .ref m_v, .ref m_x, .ref m_past, .ref m_kept, .int m_acts, .int m_images, .ref m_left, .ref m_far, .ref m_line, .int m_fitsNow, .ref m_ditchIn, .int m_treadLeft, .int m_rambledTo, .int m_rambledFalls, .int m_rambledIn])), (m_park, .inr (11, [.int m_park_wide, .int m_park_deep, .int m_park_errs, .int m_park_slips, .int m_park_rows, .int m_park_walkers, .int m_park_walks, .int m_park_unsures, .ref m_park_sort, .ref m_park_unsure, .ref m_park_kind, .ref m_park_at, .ref m_park_to, .ref m_park_from, .ref m_park_steps, .ref m_park_fell, .ref m_park_name])), (m_park_kind, .inl (cy 1, 4, .inl m_park_kindf)), (m_park_to, .inl (cy 1, 4, .inl m_park_tof)), (m_x, .inl (cy 1, 20, .inl m_xf)), (m_left, .inl (cy 1, 20, .inl f_6))] → va_S A s.heap H locs → lv_has ls 8 [(4, .int i_4), (3, .int x_2), (0, .ref h0), (1, .int p1), (2, .int p2)] → W p l e ({ frames := 4, cells := 0, slots := 0, locals := 93 } : Room) s m args below meth c H locs 0 0 Q (F0 m 13 ls []) := by
    intro nlp_3
    induction nlp_3 with
    | zero =>
      intro i_4 f_6 H locs ls b_5 b_7 b_8 b_9 hmlp_3 hP hD hS hl
      exfalso
      have di_4 := ti_bd i_4
      omega
    | succ nlp_3 ihlp_3 =>
      intro i_4 f_6 H locs ls b_5 b_7 b_8 b_9 hmlp_3 hP hD hS hl
      refine lv_iload hx hb dX13_leaves_13 (lv_at hl 0 rfl) ?_
      refine lv_aload_n hx hb dX13_leaves_15 rfl (lv_at hl 2 rfl) ?_
      refine sl_Ic (rV_I (As := []) (rest := [.int i_4]) X hp_st (fun _ _ _ h => h) (sX13_places l dC dI cy h0 m_thrown m_trouble m_where m_park m_read m_tape m_taped m_size m_spot m_sort m_place m_letters m_number m_fault m_wrongAt m_word m_v m_x m_past m_kept m_acts m_images m_left m_far m_line m_fitsNow m_ditchIn m_treadLeft m_rambledTo m_rambledFalls m_rambledIn m_park_wide m_park_deep m_park_errs m_park_slips m_park_rows m_park_walkers m_park_walks m_park_unsures m_park_sort m_park_unsure m_park_kind m_park_at m_park_to m_park_from m_park_steps m_park_fell m_park_name hm_taped hm_size hm_spot hm_place hm_acts hm_images hm_park_wide hm_park_deep hm_park_rows hm_park_walkers hm_park_walks hm_park_unsures) kX13_places vX13_places mX13_277 hP hD hS hA [0, 1] (by decide) rfl 0 (ci := 12) rfl rfl rfl hl rfl rfl (Nat.le_of_ble_eq_true rfl) dX13_leaves_16 ⟨(Nat.le_of_ble_eq_true rfl), (Nat.le_of_ble_eq_true rfl)⟩ ⟨(Nat.le_of_ble_eq_true rfl), (Nat.le_of_ble_eq_true rfl)⟩) hP hD hS hA [0, 1] [false, false, true, true, true, true] rfl rfl rfl (fun r_10 u_12 H locs k_11 hP hD hS => ?_)
      have k_11 : (4 ≤ r_10.toInt ∧ r_10.toInt ≤ 20) ∧ (r_10.toInt = (m_park_wide.toInt * m_park_deep.toInt)) := k_11
      obtain ⟨k_11_0, k_11_1⟩ := k_11
      have hPD := vPD (ws' := [(m_park_kind, .inl (cy 1, 4, .inl m_park_kindf)), (m_park_to, .inl (cy 1, 4, .inl m_park_tof)), (m_x, .inl (cy 1, 20, .inl m_xf)), (m_left, .inl (cy 1, 20, .inl f_6)), (h0, .inr (12, [.int m_thrown, .int m_trouble, .int m_where, .ref m_park, m_read, .ref m_tape, .int m_taped, .int m_size, .int m_spot, .int m_sort, .int m_place, .int m_letters, .int m_number, .int m_fault, .int m_wrongAt, .long m_word, .ref m_v, .ref m_x, .ref m_past, .ref m_kept, .int m_acts, .int m_images, .ref m_left, .ref m_far, .ref m_line, .int m_fitsNow, .ref m_ditchIn, .int m_treadLeft, .int m_rambledTo, .int m_rambledFalls, .int m_rambledIn])), (m_park, .inr (11, [.int m_park_wide, .int m_park_deep, .int m_park_errs, .int m_park_slips, .int m_park_rows, .int m_park_walkers, .int m_park_walks, .int m_park_unsures, .ref m_park_sort, .ref m_park_unsure, .ref m_park_kind, .ref m_park_at, .ref m_park_to, .ref m_park_from, .ref m_park_steps, .ref m_park_fell, .ref m_park_name]))]) hP hD rfl
      have hP := hPD.1
      have hD := hPD.2
      refine lv_icmp_ge (tgt := 38) hx hb dX13_leaves_19 (by decide) (fun h_13 => ?_) (fun h_13 => ?_)
      · have h_13 : r_10.toInt ≤ i_4.toInt := c_le h_13
        refine lv_aload_n hx hb dX13_leaves_38 rfl (lv_at hl 2 rfl) ?_
        refine r_get X kcX13 (ci := 12) rfl hP 4 rfl 22 (by decide) fX13_30 rfl dX13_leaves_39 ?_
        refine lv_aload_n hx hb dX13_leaves_42 rfl (lv_at hl 2 rfl) ?_
        refine r_get X kcX13 (ci := 12) rfl hP 4 rfl 3 (by decide) fX13_269 rfl dX13_leaves_43 ?_
        refine r_get X kcX12 (ci := 11) rfl hP 5 rfl 12 (by decide) fX13_243 rfl dX13_leaves_46 ?_
        refine lv_iload_n hx hb dX13_leaves_49 rfl (lv_at hl 3 rfl) ?_
        refine va_iald (D := (dC, dI)) (cl := vwCl) hx hb hK hP 1 1 rfl rfl (i := p1) (vin (by omega) (by omega)) dX13_leaves_50 ?_
        refine lv_topi (fun x_14 ex_14 => ?_)
        have bx_14 : 0 ≤ x_14.toInt ∧ x_14.toInt ≤ 19 := rb_at hm_park_tof ex_14 (by omega) (by omega)
        refine lv_iconst (v := 0) hx hb dX13_leaves_51 (by decide) ?_
        refine va_iast (D := (dC, dI)) (cl := vwCl) hx hb hK hP hD hS 3 1 rfl rfl (i := x_14) (vin (by omega) (by omega)) dX13_leaves_52 (fun H locs hP hD hS => ?_)
        generalize ef_15 : upd f_6 (Int32.toNatClampNeg x_14) 0 = f_15 at hP hD
        have bf_15 : rb f_15 20 0 9999999 := by rw [← ef_15]; exact rb_upd b_7 (by decide) (by decide)
        have hPD := vPD (ws' := [(m_park_kind, .inl (cy 1, 4, .inl m_park_kindf)), (m_park_to, .inl (cy 1, 4, .inl m_park_tof)), (m_x, .inl (cy 1, 20, .inl m_xf)), (m_left, .inl (cy 1, 20, .inl f_15)), (h0, .inr (12, [.int m_thrown, .int m_trouble, .int m_where, .ref m_park, m_read, .ref m_tape, .int m_taped, .int m_size, .int m_spot, .int m_sort, .int m_place, .int m_letters, .int m_number, .int m_fault, .int m_wrongAt, .long m_word, .ref m_v, .ref m_x, .ref m_past, .ref m_kept, .int m_acts, .int m_images, .ref m_left, .ref m_far, .ref m_line, .int m_fitsNow, .ref m_ditchIn, .int m_treadLeft, .int m_rambledTo, .int m_rambledFalls, .int m_rambledIn])), (m_park, .inr (11, [.int m_park_wide, .int m_park_deep, .int m_park_errs, .int m_park_slips, .int m_park_rows, .int m_park_walkers, .int m_park_walks, .int m_park_unsures, .ref m_park_sort, .ref m_park_unsure, .ref m_park_kind, .ref m_park_at, .ref m_park_to, .ref m_park_from, .ref m_park_steps, .ref m_park_fell, .ref m_park_name]))]) hP hD rfl
        have hP := hPD.1
        have hD := hPD.2
        refine lv_iconst (v := 1) hx hb dX13_leaves_53 (by decide) ?_
        refine lv_istore (lv' := [(4, .int 1), (3, .int x_2), (0, .ref h0), (1, .int p1), (2, .int p2)]) hx hb dX13_leaves_54 hl (by decide) rfl (fun ls hl => ?_)
        have hsm := sm_b20 bf_15
        have lp_16 : ∀ (nlp_16 : Nat) (i_17 : Int32) (f_19 : Nat → Int32) (H : Heap) (locs : List Loc) (ls : Array Slot), (0 ≤ i_17.toInt ∧ i_17.toInt ≤ 1) → (rb f_19 20 0 9999999) → (supI m_park_wide.toInt m_park_deep.toInt m_xf x_2.toInt p2.toInt f_19) → (i_17.toInt = 0 → fpI m_park_wide.toInt m_park_deep.toInt m_xf x_2.toInt p2.toInt f_19 (4 * (m_park_wide.toInt * m_park_deep.toInt))) → (sm f_19 20 + i_17.toInt + 1 ≤ (nlp_16 : Int)) → va_P (dC, dI) vwCl [(m_park_kind, .inl (cy 1, 4, .inl m_park_kindf)), (m_park_to, .inl (cy 1, 4, .inl m_park_tof)), (m_x, .inl (cy 1, 20, .inl m_xf)), (m_left, .inl (cy 1, 20, .inl f_19)), (h0, .inr (12, [.int m_thrown, .int m_trouble, .int m_where, .ref m_park, m_read, .ref m_tape, .int m_taped, .int m_size, .int m_spot, .int m_sort, .int m_place, .int m_letters, .int m_number, .int m_fault, .int m_wrongAt, .long m_word, .ref m_v, .ref m_x, .ref m_past, .ref m_kept, .int m_acts, .int m_images, .ref m_left, .ref m_far, .ref m_line, .int m_fitsNow, .ref m_ditchIn, .int m_treadLeft, .int m_rambledTo, .int m_rambledFalls, .int m_rambledIn])), (m_park, .inr (11, [.int m_park_wide, .int m_park_deep, .int m_park_errs, .int m_park_slips, .int m_park_rows, .int m_park_walkers, .int m_park_walks, .int m_park_unsures, .ref m_park_sort, .ref m_park_unsure, .ref m_park_kind, .ref m_park_at, .ref m_park_to, .ref m_park_from, .ref m_park_steps, .ref m_park_fell, .ref m_park_name]))] H → va_D A [(m_park_kind, .inl (cy 1, 4, .inl m_park_kindf)), (m_park_to, .inl (cy 1, 4, .inl m_park_tof)), (m_x, .inl (cy 1, 20, .inl m_xf)), (m_left, .inl (cy 1, 20, .inl f_19)), (h0, .inr (12, [.int m_thrown, .int m_trouble, .int m_where, .ref m_park, m_read, .ref m_tape, .int m_taped, .int m_size, .int m_spot, .int m_sort, .int m_place, .int m_letters, .int m_number, .int m_fault, .int m_wrongAt, .long m_word, .ref m_v, .ref m_x, .ref m_past, .ref m_kept, .int m_acts, .int m_images, .ref m_left, .ref m_far, .ref m_line, .int m_fitsNow, .ref m_ditchIn, .int m_treadLeft, .int m_rambledTo, .int m_rambledFalls, .int m_rambledIn])), (m_park, .inr (11, [.int m_park_wide, .int m_park_deep, .int m_park_errs, .int m_park_slips, .int m_park_rows, .int m_park_walkers, .int m_park_walks, .int m_park_unsures, .ref m_park_sort, .ref m_park_unsure, .ref m_park_kind, .ref m_park_at, .ref m_park_to, .ref m_park_from, .ref m_park_steps, .ref m_park_fell, .ref m_park_name]))] → va_S A s.heap H locs → lv_has ls 8 [(4, .int i_17), (3, .int x_2), (0, .ref h0), (1, .int p1), (2, .int p2)] → W p l e ({ frames := 4, cells := 0, slots := 0, locals := 93 } : Room) s m args below meth c H locs 0 0 Q (F0 m 56 ls []) := by
          intro nlp_16
          induction nlp_16 with
          | zero =>
            intro i_17 f_19 H locs ls b_18 b_20 b_21 b_22 hmlp_16 hP hD hS hl
            exfalso
            have di_17 := ti_bd i_17
            have hzs := sm_b20 b_20
            omega
          | succ nlp_16 ihlp_16 =>
            intro i_17 f_19 H locs ls b_18 b_20 b_21 b_22 hmlp_16 hP hD hS hl
            refine lv_iload hx hb dX13_leaves_56 (lv_at hl 0 rfl) ?_
            refine lv_if_eq (tgt := 189) hx hb dX13_leaves_58 (by decide) (fun h_23 => ?_) (fun h_23 => ?_)
            · have h_23 : i_17.toInt = 0 := c_eq h_23
              exact eV hQ X hr hlocks hP hD hS f_19 [4, 5, 0, 1, 2, 3] (by decide) rfl (show (rb f_19 20 0 9999999) ∧ (stI m_park_wide.toInt m_park_deep.toInt m_xf (m_park_kindf (Int.toNat p1.toInt)).toInt p2.toInt f_19) from ⟨b_20, (by rw [gx_2]; exact st_of b_21 (b_22 (by omega)))⟩) (Nat.le_of_ble_eq_true rfl) (Nat.le_of_ble_eq_true rfl) dX13_leaves_189
            · have h_23 : i_17.toInt ≠ 0 := c_ne h_23
              refine lv_iconst (v := 0) hx hb dX13_leaves_61 (by decide) ?_
              refine lv_istore (lv' := [(4, .int 0), (3, .int x_2), (0, .ref h0), (1, .int p1), (2, .int p2)]) hx hb dX13_leaves_62 hl (by decide) rfl (fun ls hl => ?_)
              refine lv_iconst (v := 0) hx hb dX13_leaves_64 (by decide) ?_
              refine lv_istore (lv' := [(5, .int 0), (4, .int 0), (3, .int x_2), (0, .ref h0), (1, .int p1), (2, .int p2)]) hx hb dX13_leaves_65 hl (by decide) rfl (fun ls hl => ?_)
              have lp_24 : ∀ (nlp_24 : Nat) (i_25 : Int32) (i_27 : Int32) (f_29 : Nat → Int32) (H : Heap) (locs : List Loc) (ls : Array Slot), (0 ≤ i_25.toInt ∧ i_25.toInt ≤ 20) → (0 ≤ i_27.toInt ∧ i_27.toInt ≤ 1) → (rb f_29 20 0 9999999) → (i_25.toInt ≤ (m_park_wide.toInt * m_park_deep.toInt)) → (supI m_park_wide.toInt m_park_deep.toInt m_xf x_2.toInt p2.toInt f_29) → (i_27.toInt = 0 → fpI m_park_wide.toInt m_park_deep.toInt m_xf x_2.toInt p2.toInt f_29 (4 * i_25.toInt)) → (sm f_29 20 + i_27.toInt ≤ sm f_19 20) → (21 - i_25.toInt ≤ (nlp_24 : Int)) → va_P (dC, dI) vwCl [(m_park_kind, .inl (cy 1, 4, .inl m_park_kindf)), (m_park_to, .inl (cy 1, 4, .inl m_park_tof)), (m_x, .inl (cy 1, 20, .inl m_xf)), (m_left, .inl (cy 1, 20, .inl f_29)), (h0, .inr (12, [.int m_thrown, .int m_trouble, .int m_where, .ref m_park, m_read, .ref m_tape, .int m_taped, .int m_size, .int m_spot, .int m_sort, .int m_place, .int m_letters, .int m_number, .int m_fault, .int m_wrongAt, .long m_word, .ref m_v, .ref m_x, .ref m_past, .ref m_kept, .int m_acts, .int m_images, .ref m_left, .ref m_far, .ref m_line, .int m_fitsNow, .ref m_ditchIn, .int m_treadLeft, .int m_rambledTo, .int m_rambledFalls, .int m_rambledIn])), (m_park, .inr (11, [.int m_park_wide, .int m_park_deep, .int m_park_errs, .int m_park_slips, .int m_park_rows, .int m_park_walkers, .int m_park_walks, .int m_park_unsures, .ref m_park_sort, .ref m_park_unsure, .ref m_park_kind, .ref m_park_at, .ref m_park_to, .ref m_park_from, .ref m_park_steps, .ref m_park_fell, .ref m_park_name]))] H → va_D A [(m_park_kind, .inl (cy 1, 4, .inl m_park_kindf)), (m_park_to, .inl (cy 1, 4, .inl m_park_tof)), (m_x, .inl (cy 1, 20, .inl m_xf)), (m_left, .inl (cy 1, 20, .inl f_29)), (h0, .inr (12, [.int m_thrown, .int m_trouble, .int m_where, .ref m_park, m_read, .ref m_tape, .int m_taped, .int m_size, .int m_spot, .int m_sort, .int m_place, .int m_letters, .int m_number, .int m_fault, .int m_wrongAt, .long m_word, .ref m_v, .ref m_x, .ref m_past, .ref m_kept, .int m_acts, .int m_images, .ref m_left, .ref m_far, .ref m_line, .int m_fitsNow, .ref m_ditchIn, .int m_treadLeft, .int m_rambledTo, .int m_rambledFalls, .int m_rambledIn])), (m_park, .inr (11, [.int m_park_wide, .int m_park_deep, .int m_park_errs, .int m_park_slips, .int m_park_rows, .int m_park_walkers, .int m_park_walks, .int m_park_unsures, .ref m_park_sort, .ref m_park_unsure, .ref m_park_kind, .ref m_park_at, .ref m_park_to, .ref m_park_from, .ref m_park_steps, .ref m_park_fell, .ref m_park_name]))] → va_S A s.heap H locs → lv_has ls 8 [(5, .int i_25), (4, .int i_27), (3, .int x_2), (0, .ref h0), (1, .int p1), (2, .int p2)] → W p l e ({ frames := 4, cells := 0, slots := 0, locals := 93 } : Room) s m args below meth c H locs 0 0 Q (F0 m 67 ls []) := by
                intro nlp_24
                induction nlp_24 with
                | zero =>
                  intro i_25 i_27 f_29 H locs ls b_26 b_28 b_30 b_31 b_32 b_33 b_34 hmlp_24 hP hD hS hl
                  exfalso
                  have di_25 := ti_bd i_25
                  have di_27 := ti_bd i_27
                  omega
                | succ nlp_24 ihlp_24 =>
                  intro i_25 i_27 f_29 H locs ls b_26 b_28 b_30 b_31 b_32 b_33 b_34 hmlp_24 hP hD hS hl
                  refine lv_iload hx hb dX13_leaves_67 (lv_at hl 0 rfl) ?_
                  refine lv_aload_n hx hb dX13_leaves_69 rfl (lv_at hl 3 rfl) ?_
                  refine sl_Ic (rV_I (As := []) (rest := [.int i_25]) X hp_st (fun _ _ _ h => h) (sX13_places l dC dI cy h0 m_thrown m_trouble m_where m_park m_read m_tape m_taped m_size m_spot m_sort m_place m_letters m_number m_fault m_wrongAt m_word m_v m_x m_past m_kept m_acts m_images m_left m_far m_line m_fitsNow m_ditchIn m_treadLeft m_rambledTo m_rambledFalls m_rambledIn m_park_wide m_park_deep m_park_errs m_park_slips m_park_rows m_park_walkers m_park_walks m_park_unsures m_park_sort m_park_unsure m_park_kind m_park_at m_park_to m_park_from m_park_steps m_park_fell m_park_name hm_taped hm_size hm_spot hm_place hm_acts hm_images hm_park_wide hm_park_deep hm_park_rows hm_park_walkers hm_park_walks hm_park_unsures) kX13_places vX13_places mX13_277 hP hD hS hA [4, 5] (by decide) rfl 0 (ci := 12) rfl rfl rfl hl rfl rfl (Nat.le_of_ble_eq_true rfl) dX13_leaves_70 ⟨(Nat.le_of_ble_eq_true rfl), (Nat.le_of_ble_eq_true rfl)⟩ ⟨(Nat.le_of_ble_eq_true rfl), (Nat.le_of_ble_eq_true rfl)⟩) hP hD hS hA [4, 5] [true, true, true, true, false, false] rfl rfl rfl (fun r_35 u_37 H locs k_36 hP hD hS => ?_)
                  have k_36 : (4 ≤ r_35.toInt ∧ r_35.toInt ≤ 20) ∧ (r_35.toInt = (m_park_wide.toInt * m_park_deep.toInt)) := k_36
                  obtain ⟨k_36_0, k_36_1⟩ := k_36
                  have hPD := vPD (ws' := [(m_park_kind, .inl (cy 1, 4, .inl m_park_kindf)), (m_park_to, .inl (cy 1, 4, .inl m_park_tof)), (m_x, .inl (cy 1, 20, .inl m_xf)), (m_left, .inl (cy 1, 20, .inl f_29)), (h0, .inr (12, [.int m_thrown, .int m_trouble, .int m_where, .ref m_park, m_read, .ref m_tape, .int m_taped, .int m_size, .int m_spot, .int m_sort, .int m_place, .int m_letters, .int m_number, .int m_fault, .int m_wrongAt, .long m_word, .ref m_v, .ref m_x, .ref m_past, .ref m_kept, .int m_acts, .int m_images, .ref m_left, .ref m_far, .ref m_line, .int m_fitsNow, .ref m_ditchIn, .int m_treadLeft, .int m_rambledTo, .int m_rambledFalls, .int m_rambledIn])), (m_park, .inr (11, [.int m_park_wide, .int m_park_deep, .int m_park_errs, .int m_park_slips, .int m_park_rows, .int m_park_walkers, .int m_park_walks, .int m_park_unsures, .ref m_park_sort, .ref m_park_unsure, .ref m_park_kind, .ref m_park_at, .ref m_park_to, .ref m_park_from, .ref m_park_steps, .ref m_park_fell, .ref m_park_name]))]) hP hD rfl
                  have hP := hPD.1
                  have hD := hPD.2
                  refine lv_icmp_ge (tgt := 186) hx hb dX13_leaves_73 (by decide) (fun h_38 => ?_) (fun h_38 => ?_)
                  · have h_38 : r_35.toInt ≤ i_25.toInt := c_le h_38
                    refine lv_goto (tgt := 56) hx hb dX13_leaves_186 (by decide) ?_
                    exact ihlp_16 i_27 f_29 _ _ _ (by omega) b_30 (show supI m_park_wide.toInt m_park_deep.toInt m_xf x_2.toInt p2.toInt f_29 from b_32) (show i_27.toInt = 0 → fpI m_park_wide.toInt m_park_deep.toInt m_xf x_2.toInt p2.toInt f_29 (4 * (m_park_wide.toInt * m_park_deep.toInt)) from (fun h9 => fpI_eq (b_33 h9) (by omega))) (show sm f_29 20 + i_27.toInt + 1 ≤ (nlp_16 : Int) by omega) hP hD hS (lv_sub hl [1, 2, 3, 4, 5] rfl)
                  · have h_38 : i_25.toInt < r_35.toInt := c_nle h_38
                    refine lv_iconst (v := 0) hx hb dX13_leaves_76 (by decide) ?_
                    refine lv_istore (lv' := [(6, .int 0), (5, .int i_25), (4, .int i_27), (3, .int x_2), (0, .ref h0), (1, .int p1), (2, .int p2)]) hx hb dX13_leaves_77 hl (by decide) rfl (fun ls hl => ?_)
                    have lp_39 : ∀ (nlp_39 : Nat) (i_40 : Int32) (i_42 : Int32) (f_44 : Nat → Int32) (H : Heap) (locs : List Loc) (ls : Array Slot), (0 ≤ i_40.toInt ∧ i_40.toInt ≤ 4) → (0 ≤ i_42.toInt ∧ i_42.toInt ≤ 1) → (rb f_44 20 0 9999999) → (supI m_park_wide.toInt m_park_deep.toInt m_xf x_2.toInt p2.toInt f_44) → (i_42.toInt = 0 → fpI m_park_wide.toInt m_park_deep.toInt m_xf x_2.toInt p2.toInt f_44 (4 * i_25.toInt + i_40.toInt)) → (sm f_44 20 + i_42.toInt ≤ sm f_19 20) → (5 - i_40.toInt ≤ (nlp_39 : Int)) → va_P (dC, dI) vwCl [(m_park_kind, .inl (cy 1, 4, .inl m_park_kindf)), (m_park_to, .inl (cy 1, 4, .inl m_park_tof)), (m_x, .inl (cy 1, 20, .inl m_xf)), (m_left, .inl (cy 1, 20, .inl f_44)), (h0, .inr (12, [.int m_thrown, .int m_trouble, .int m_where, .ref m_park, m_read, .ref m_tape, .int m_taped, .int m_size, .int m_spot, .int m_sort, .int m_place, .int m_letters, .int m_number, .int m_fault, .int m_wrongAt, .long m_word, .ref m_v, .ref m_x, .ref m_past, .ref m_kept, .int m_acts, .int m_images, .ref m_left, .ref m_far, .ref m_line, .int m_fitsNow, .ref m_ditchIn, .int m_treadLeft, .int m_rambledTo, .int m_rambledFalls, .int m_rambledIn])), (m_park, .inr (11, [.int m_park_wide, .int m_park_deep, .int m_park_errs, .int m_park_slips, .int m_park_rows, .int m_park_walkers, .int m_park_walks, .int m_park_unsures, .ref m_park_sort, .ref m_park_unsure, .ref m_park_kind, .ref m_park_at, .ref m_park_to, .ref m_park_from, .ref m_park_steps, .ref m_park_fell, .ref m_park_name]))] H → va_D A [(m_park_kind, .inl (cy 1, 4, .inl m_park_kindf)), (m_park_to, .inl (cy 1, 4, .inl m_park_tof)), (m_x, .inl (cy 1, 20, .inl m_xf)), (m_left, .inl (cy 1, 20, .inl f_44)), (h0, .inr (12, [.int m_thrown, .int m_trouble, .int m_where, .ref m_park, m_read, .ref m_tape, .int m_taped, .int m_size, .int m_spot, .int m_sort, .int m_place, .int m_letters, .int m_number, .int m_fault, .int m_wrongAt, .long m_word, .ref m_v, .ref m_x, .ref m_past, .ref m_kept, .int m_acts, .int m_images, .ref m_left, .ref m_far, .ref m_line, .int m_fitsNow, .ref m_ditchIn, .int m_treadLeft, .int m_rambledTo, .int m_rambledFalls, .int m_rambledIn])), (m_park, .inr (11, [.int m_park_wide, .int m_park_deep, .int m_park_errs, .int m_park_slips, .int m_park_rows, .int m_park_walkers, .int m_park_walks, .int m_park_unsures, .ref m_park_sort, .ref m_park_unsure, .ref m_park_kind, .ref m_park_at, .ref m_park_to, .ref m_park_from, .ref m_park_steps, .ref m_park_fell, .ref m_park_name]))] → va_S A s.heap H locs → lv_has ls 8 [(6, .int i_40), (5, .int i_25), (4, .int i_42), (3, .int x_2), (0, .ref h0), (1, .int p1), (2, .int p2)] → W p l e ({ frames := 4, cells := 0, slots := 0, locals := 93 } : Room) s m args below meth c H locs 0 0 Q (F0 m 79 ls []) := by
                      intro nlp_39
                      induction nlp_39 with
                      | zero =>
                        intro i_40 i_42 f_44 H locs ls b_41 b_43 b_45 b_46 b_47 b_48 hmlp_39 hP hD hS hl
                        exfalso
                        have di_40 := ti_bd i_40
                        have di_42 := ti_bd i_42
                        omega
                      | succ nlp_39 ihlp_39 =>
                        intro i_40 i_42 f_44 H locs ls b_41 b_43 b_45 b_46 b_47 b_48 hmlp_39 hP hD hS hl
                        refine lv_iload hx hb dX13_leaves_79 (lv_at hl 0 rfl) ?_
                        refine lv_iconst (v := 4) hx hb dX13_leaves_81 (by decide) ?_
                        refine lv_icmp_ge (tgt := 180) hx hb dX13_leaves_82 (by decide) (fun h_49 => ?_) (fun h_49 => ?_)
                        · have h_49 : 4 ≤ i_40.toInt := c_le h_49
                          obtain ⟨x_50, ex_50⟩ : ∃ y : Int32, y = i_25 + 1 := ⟨_, rfl⟩
                          have tx_50 : x_50.toInt = i_25.toInt + 1 := ti_add (A := i_25.toInt) (B := 1) ex_50 rfl rfl (by omega) (by omega)
                          refine lv_iinc (v := x_50) (lv' := [(5, .int x_50), (6, .int i_40), (4, .int i_42), (3, .int x_2), (0, .ref h0), (1, .int p1), (2, .int p2)]) hx hb dX13_leaves_180 hl (k := 1) rfl (by rw [ex_50]; rfl) (by decide) rfl (fun ls hl => ?_)
                          refine lv_goto (tgt := 67) hx hb dX13_leaves_183 (by decide) ?_
                          exact ihlp_24 x_50 i_42 f_44 _ _ _ (by omega) (by omega) b_45 (show x_50.toInt ≤ (m_park_wide.toInt * m_park_deep.toInt) by omega) (show supI m_park_wide.toInt m_park_deep.toInt m_xf x_2.toInt p2.toInt f_44 from b_46) (show i_42.toInt = 0 → fpI m_park_wide.toInt m_park_deep.toInt m_xf x_2.toInt p2.toInt f_44 (4 * x_50.toInt) from (fun h9 => fpI_eq (b_47 h9) (by omega))) (show sm f_44 20 + i_42.toInt ≤ sm f_19 20 by omega) (show 21 - x_50.toInt ≤ (nlp_24 : Int) by omega) hP hD hS (lv_sub hl [0, 2, 3, 4, 5, 6] rfl)
                        · have h_49 : i_40.toInt < 4 := c_nle h_49
                          refine lv_aload_n hx hb dX13_leaves_85 rfl (lv_at hl 4 rfl) ?_
                          refine lv_iload_n hx hb dX13_leaves_86 rfl (lv_at hl 3 rfl) ?_
                          refine lv_iload hx hb dX13_leaves_87 (lv_at hl 1 rfl) ?_
                          refine lv_iload hx hb dX13_leaves_89 (lv_at hl 0 rfl) ?_
                          refine sl_Ic (rV_I (As := [.int x_2, .int i_25, .int i_40]) (rest := []) X hp_st (fun _ _ _ h => h) (sX13_lasts l dC dI cy h0 m_thrown m_trouble m_where m_park m_read m_tape m_taped m_size m_spot m_sort m_place m_letters m_number m_fault m_wrongAt m_word m_v m_x m_past m_kept m_acts m_images m_left m_far m_line m_fitsNow m_ditchIn m_treadLeft m_rambledTo m_rambledFalls m_rambledIn m_park_wide m_park_deep m_park_errs m_park_slips m_park_rows m_park_walkers m_park_walks m_park_unsures m_park_sort m_park_unsure m_park_kind m_park_at m_park_to m_park_from m_park_steps m_park_fell m_park_name m_xf x_2 i_25 i_40 hm_taped hm_size hm_spot hm_place hm_acts hm_images hm_park_wide hm_park_deep hm_park_rows hm_park_walkers hm_park_walks hm_park_unsures (by first | decide | omega) (by omega)) kX13_lasts vX13_lasts mX13_289 hP hD hS hA [4, 5, 2] (by decide) rfl 0 (ci := 12) rfl rfl rfl hl rfl rfl (Nat.le_of_ble_eq_true rfl) dX13_leaves_91 ⟨(Nat.le_of_ble_eq_true rfl), (Nat.le_of_ble_eq_true rfl)⟩ ⟨(Nat.le_of_ble_eq_true rfl), (Nat.le_of_ble_eq_true rfl)⟩) hP hD hS hA [4, 5, 2] [true, true, false, true, false, false] rfl rfl rfl (fun r_51 u_53 H locs k_52 hP hD hS => ?_)
                          have k_52 : ((-2) ≤ r_51.toInt ∧ r_51.toInt ≤ 4) ∧ (r_51.toInt = laF m_park_wide.toInt m_park_deep.toInt m_xf x_2.toInt i_25.toInt i_40.toInt) ∧ (r_51.toInt = -2 ∨ 1 ≤ r_51.toInt) ∧ (r_51.toInt = -2 ∨ onF m_park_wide.toInt m_park_deep.toInt i_25.toInt i_40.toInt ≠ -2) := k_52
                          obtain ⟨k_52_0, k_52_1, k_52_2, k_52_3⟩ := k_52
                          have hPD := vPD (ws' := [(m_park_kind, .inl (cy 1, 4, .inl m_park_kindf)), (m_park_to, .inl (cy 1, 4, .inl m_park_tof)), (m_left, .inl (cy 1, 20, .inl f_44)), (h0, .inr (12, [.int m_thrown, .int m_trouble, .int m_where, .ref m_park, m_read, .ref m_tape, .int m_taped, .int m_size, .int m_spot, .int m_sort, .int m_place, .int m_letters, .int m_number, .int m_fault, .int m_wrongAt, .long m_word, .ref m_v, .ref m_x, .ref m_past, .ref m_kept, .int m_acts, .int m_images, .ref m_left, .ref m_far, .ref m_line, .int m_fitsNow, .ref m_ditchIn, .int m_treadLeft, .int m_rambledTo, .int m_rambledFalls, .int m_rambledIn])), (m_park, .inr (11, [.int m_park_wide, .int m_park_deep, .int m_park_errs, .int m_park_slips, .int m_park_rows, .int m_park_walkers, .int m_park_walks, .int m_park_unsures, .ref m_park_sort, .ref m_park_unsure, .ref m_park_kind, .ref m_park_at, .ref m_park_to, .ref m_park_from, .ref m_park_steps, .ref m_park_fell, .ref m_park_name])), (m_x, .inl (cy 1, 20, .inl m_xf))]) hP hD rfl
                          have hP := hPD.1
                          have hD := hPD.2
                          refine lv_bipush (v := -2) hx hb dX13_leaves_94 (by decide) ?_
                          refine lv_icmp_eq (tgt := 174) hx hb dX13_leaves_96 (by decide) (fun h_54 => ?_) (fun h_54 => ?_)
                          · have h_54 : r_51.toInt = (-2) := c_eq h_54
                            obtain ⟨x_55, ex_55⟩ : ∃ y : Int32, y = i_40 + 1 := ⟨_, rfl⟩
                            have tx_55 : x_55.toInt = i_40.toInt + 1 := ti_add (A := i_40.toInt) (B := 1) ex_55 rfl rfl (by omega) (by omega)
                            refine lv_iinc (v := x_55) (lv' := [(6, .int x_55), (5, .int i_25), (4, .int i_42), (3, .int x_2), (0, .ref h0), (1, .int p1), (2, .int p2)]) hx hb dX13_leaves_174 hl (k := 0) rfl (by rw [ex_55]; rfl) (by decide) rfl (fun ls hl => ?_)
                            refine lv_goto (tgt := 79) hx hb dX13_leaves_177 (by decide) ?_
                            exact ihlp_39 x_55 i_42 f_44 _ _ _ (by omega) (by omega) b_45 (show supI m_park_wide.toInt m_park_deep.toInt m_xf x_2.toInt p2.toInt f_44 from b_46) (show i_42.toInt = 0 → fpI m_park_wide.toInt m_park_deep.toInt m_xf x_2.toInt p2.toInt f_44 (4 * i_25.toInt + x_55.toInt) from (fun h9 => fpI_up (b_47 h9) i_25.toInt i_40.toInt rfl (by omega) (by omega) (by omega) (by omega))) (show sm f_44 20 + i_42.toInt ≤ sm f_19 20 by omega) (show 5 - x_55.toInt ≤ (nlp_39 : Int) by omega) (hP.sub [0, 1, 5, 2, 3, 4] rfl) (hD.sub [0, 1, 5, 2, 3, 4] (by decide) rfl) hS (lv_sub hl [0, 1, 2, 3, 4, 5, 6] rfl)
                          · have h_54 : r_51.toInt ≠ (-2) := c_ne h_54
                            refine lv_aload_n hx hb dX13_leaves_99 rfl (lv_at hl 4 rfl) ?_
                            refine r_get X kcX13 (ci := 12) rfl hP 3 rfl 22 (by decide) fX13_30 rfl dX13_leaves_100 ?_
                            refine lv_aload_n hx hb dX13_leaves_103 rfl (lv_at hl 4 rfl) ?_
                            refine lv_iload hx hb dX13_leaves_104 (lv_at hl 1 rfl) ?_
                            refine lv_iload hx hb dX13_leaves_106 (lv_at hl 0 rfl) ?_
                            refine sl_Ic (rV_I (As := [.int i_25, .int i_40]) (rest := [.ref m_left]) X hp_st (fun _ _ _ h => h) (sX13_onto l dC dI cy h0 m_thrown m_trouble m_where m_park m_read m_tape m_taped m_size m_spot m_sort m_place m_letters m_number m_fault m_wrongAt m_word m_v m_x m_past m_kept m_acts m_images m_left m_far m_line m_fitsNow m_ditchIn m_treadLeft m_rambledTo m_rambledFalls m_rambledIn m_park_wide m_park_deep m_park_errs m_park_slips m_park_rows m_park_walkers m_park_walks m_park_unsures m_park_sort m_park_unsure m_park_kind m_park_at m_park_to m_park_from m_park_steps m_park_fell m_park_name i_25 i_40 hm_taped hm_size hm_spot hm_place hm_acts hm_images hm_park_wide hm_park_deep hm_park_rows hm_park_walkers hm_park_walks hm_park_unsures (by first | decide | omega) (by omega)) kX13_onto vX13_onto mX13_280 hP hD hS hA [3, 4] (by decide) rfl 0 (ci := 12) rfl rfl rfl hl rfl rfl (Nat.le_of_ble_eq_true rfl) dX13_leaves_108 ⟨(Nat.le_of_ble_eq_true rfl), (Nat.le_of_ble_eq_true rfl)⟩ ⟨(Nat.le_of_ble_eq_true rfl), (Nat.le_of_ble_eq_true rfl)⟩) hP hD hS hA [3, 4] [true, true, true, false, false, true] rfl rfl rfl (fun r_56 u_58 H locs k_57 hP hD hS => ?_)
                            have k_57 : ((-2) ≤ r_56.toInt ∧ r_56.toInt ≤ 19) ∧ (r_56.toInt = onF m_park_wide.toInt m_park_deep.toInt i_25.toInt i_40.toInt) ∧ (r_56.toInt = -2 ∨ (0 ≤ r_56.toInt ∧ r_56.toInt < (m_park_wide.toInt * m_park_deep.toInt))) := k_57
                            obtain ⟨k_57_0, k_57_1, k_57_2⟩ := k_57
                            have hPD := vPD (ws' := [(m_park_kind, .inl (cy 1, 4, .inl m_park_kindf)), (m_park_to, .inl (cy 1, 4, .inl m_park_tof)), (m_left, .inl (cy 1, 20, .inl f_44)), (m_x, .inl (cy 1, 20, .inl m_xf)), (h0, .inr (12, [.int m_thrown, .int m_trouble, .int m_where, .ref m_park, m_read, .ref m_tape, .int m_taped, .int m_size, .int m_spot, .int m_sort, .int m_place, .int m_letters, .int m_number, .int m_fault, .int m_wrongAt, .long m_word, .ref m_v, .ref m_x, .ref m_past, .ref m_kept, .int m_acts, .int m_images, .ref m_left, .ref m_far, .ref m_line, .int m_fitsNow, .ref m_ditchIn, .int m_treadLeft, .int m_rambledTo, .int m_rambledFalls, .int m_rambledIn])), (m_park, .inr (11, [.int m_park_wide, .int m_park_deep, .int m_park_errs, .int m_park_slips, .int m_park_rows, .int m_park_walkers, .int m_park_walks, .int m_park_unsures, .ref m_park_sort, .ref m_park_unsure, .ref m_park_kind, .ref m_park_at, .ref m_park_to, .ref m_park_from, .ref m_park_steps, .ref m_park_fell, .ref m_park_name]))]) hP hD rfl
                            have hP := hPD.1
                            have hD := hPD.2
                            have kf_59 : r_56.toInt = onF m_park_wide.toInt m_park_deep.toInt i_25.toInt i_40.toInt := by assumption
                            refine va_iald (D := (dC, dI)) (cl := vwCl) hx hb hK hP 2 1 rfl rfl (i := r_56) (vin (by omega) (by omega)) dX13_leaves_111 ?_
                            refine lv_topi (fun x_60 ex_60 => ?_)
                            have bx_60 : 0 ≤ x_60.toInt ∧ x_60.toInt ≤ 9999999 := rb_at b_45 ex_60 (by omega) (by omega)
                            have gx_60 : (f_44 (onF m_park_wide.toInt m_park_deep.toInt i_25.toInt i_40.toInt).toNat).toInt = x_60.toInt := rd_at ex_60 kf_59
                            refine lv_ldcw (v := 9999999) hx hb X.2.2.2.1 (X.2.2.2.2.1 _ w_1715) dX13_leaves_112 ?_
                            refine lv_icmp_ne (tgt := 121) hx hb dX13_leaves_115 (by decide) (fun h_61 => ?_) (fun h_61 => ?_)
                            · have h_61 : x_60.toInt ≠ 9999999 := c_ne h_61
                              refine lv_aload_n hx hb dX13_leaves_121 rfl (lv_at hl 4 rfl) ?_
                              refine lv_iload_n hx hb dX13_leaves_122 rfl (lv_at hl 3 rfl) ?_
                              refine lv_iload hx hb dX13_leaves_123 (lv_at hl 1 rfl) ?_
                              refine lv_iload hx hb dX13_leaves_125 (lv_at hl 0 rfl) ?_
                              refine lv_iload_n hx hb dX13_leaves_127 rfl (lv_at hl 6 rfl) ?_
                              refine sl_Ic (rV_I (As := [.int x_2, .int i_25, .int i_40, .int p2]) (rest := []) X hp_st (fun _ _ _ h => h) (sX13_weighs l dC dI cy h0 m_thrown m_trouble m_where m_park m_read m_tape m_taped m_size m_spot m_sort m_place m_letters m_number m_fault m_wrongAt m_word m_v m_x m_past m_kept m_acts m_images m_left m_far m_line m_fitsNow m_ditchIn m_treadLeft m_rambledTo m_rambledFalls m_rambledIn m_park_wide m_park_deep m_park_errs m_park_slips m_park_rows m_park_walkers m_park_walks m_park_unsures m_park_sort m_park_unsure m_park_kind m_park_at m_park_to m_park_from m_park_steps m_park_fell m_park_name m_xf x_2 i_25 i_40 p2 hm_taped hm_size hm_spot hm_place hm_acts hm_images hm_park_wide hm_park_deep hm_park_rows hm_park_walkers hm_park_walks hm_park_unsures (by first | decide | omega) (by omega) (by omega)) kX13_weighs vX13_weighs mX13_294 hP hD hS hA [4, 5, 3] (by decide) rfl 0 (ci := 12) rfl rfl rfl hl rfl rfl (Nat.le_of_ble_eq_true rfl) dX13_leaves_128 ⟨(Nat.le_of_ble_eq_true rfl), (Nat.le_of_ble_eq_true rfl)⟩ ⟨(Nat.le_of_ble_eq_true rfl), (Nat.le_of_ble_eq_true rfl)⟩) hP hD hS hA [4, 5, 3] [true, true, true, false, false, false] rfl rfl rfl (fun r_62 u_64 H locs k_63 hP hD hS => ?_)
                              have k_63 : (1 ≤ r_62.toInt ∧ r_62.toInt ≤ 4001) ∧ (r_62.toInt = weF m_park_wide.toInt m_park_deep.toInt m_xf x_2.toInt i_25.toInt i_40.toInt p2.toInt) := k_63
                              obtain ⟨k_63_0, k_63_1⟩ := k_63
                              have hPD := vPD (ws' := [(m_park_kind, .inl (cy 1, 4, .inl m_park_kindf)), (m_park_to, .inl (cy 1, 4, .inl m_park_tof)), (m_left, .inl (cy 1, 20, .inl f_44)), (h0, .inr (12, [.int m_thrown, .int m_trouble, .int m_where, .ref m_park, m_read, .ref m_tape, .int m_taped, .int m_size, .int m_spot, .int m_sort, .int m_place, .int m_letters, .int m_number, .int m_fault, .int m_wrongAt, .long m_word, .ref m_v, .ref m_x, .ref m_past, .ref m_kept, .int m_acts, .int m_images, .ref m_left, .ref m_far, .ref m_line, .int m_fitsNow, .ref m_ditchIn, .int m_treadLeft, .int m_rambledTo, .int m_rambledFalls, .int m_rambledIn])), (m_park, .inr (11, [.int m_park_wide, .int m_park_deep, .int m_park_errs, .int m_park_slips, .int m_park_rows, .int m_park_walkers, .int m_park_walks, .int m_park_unsures, .ref m_park_sort, .ref m_park_unsure, .ref m_park_kind, .ref m_park_at, .ref m_park_to, .ref m_park_from, .ref m_park_steps, .ref m_park_fell, .ref m_park_name])), (m_x, .inl (cy 1, 20, .inl m_xf))]) hP hD rfl
                              have hP := hPD.1
                              have hD := hPD.2
                              refine lv_aload_n hx hb dX13_leaves_131 rfl (lv_at hl 4 rfl) ?_
                              refine r_get X kcX13 (ci := 12) rfl hP 3 rfl 22 (by decide) fX13_30 rfl dX13_leaves_132 ?_
                              refine lv_aload_n hx hb dX13_leaves_135 rfl (lv_at hl 4 rfl) ?_
                              refine lv_iload hx hb dX13_leaves_136 (lv_at hl 1 rfl) ?_
                              refine lv_iload hx hb dX13_leaves_138 (lv_at hl 0 rfl) ?_
                              refine sl_Ic (rV_I (As := [.int i_25, .int i_40]) (rest := [.ref m_left, .int r_62]) X hp_st (fun _ _ _ h => h) (sX13_onto l dC dI cy h0 m_thrown m_trouble m_where m_park m_read m_tape m_taped m_size m_spot m_sort m_place m_letters m_number m_fault m_wrongAt m_word m_v m_x m_past m_kept m_acts m_images m_left m_far m_line m_fitsNow m_ditchIn m_treadLeft m_rambledTo m_rambledFalls m_rambledIn m_park_wide m_park_deep m_park_errs m_park_slips m_park_rows m_park_walkers m_park_walks m_park_unsures m_park_sort m_park_unsure m_park_kind m_park_at m_park_to m_park_from m_park_steps m_park_fell m_park_name i_25 i_40 hm_taped hm_size hm_spot hm_place hm_acts hm_images hm_park_wide hm_park_deep hm_park_rows hm_park_walkers hm_park_walks hm_park_unsures (by first | decide | omega) (by omega)) kX13_onto vX13_onto mX13_280 hP hD hS hA [3, 4] (by decide) rfl 0 (ci := 12) rfl rfl rfl hl rfl rfl (Nat.le_of_ble_eq_true rfl) dX13_leaves_140 ⟨(Nat.le_of_ble_eq_true rfl), (Nat.le_of_ble_eq_true rfl)⟩ ⟨(Nat.le_of_ble_eq_true rfl), (Nat.le_of_ble_eq_true rfl)⟩) hP hD hS hA [3, 4] [true, true, true, false, false, true] rfl rfl rfl (fun r_65 u_67 H locs k_66 hP hD hS => ?_)
                              have k_66 : ((-2) ≤ r_65.toInt ∧ r_65.toInt ≤ 19) ∧ (r_65.toInt = onF m_park_wide.toInt m_park_deep.toInt i_25.toInt i_40.toInt) ∧ (r_65.toInt = -2 ∨ (0 ≤ r_65.toInt ∧ r_65.toInt < (m_park_wide.toInt * m_park_deep.toInt))) := k_66
                              obtain ⟨k_66_0, k_66_1, k_66_2⟩ := k_66
                              have hPD := vPD (ws' := [(m_park_kind, .inl (cy 1, 4, .inl m_park_kindf)), (m_park_to, .inl (cy 1, 4, .inl m_park_tof)), (m_left, .inl (cy 1, 20, .inl f_44)), (m_x, .inl (cy 1, 20, .inl m_xf)), (h0, .inr (12, [.int m_thrown, .int m_trouble, .int m_where, .ref m_park, m_read, .ref m_tape, .int m_taped, .int m_size, .int m_spot, .int m_sort, .int m_place, .int m_letters, .int m_number, .int m_fault, .int m_wrongAt, .long m_word, .ref m_v, .ref m_x, .ref m_past, .ref m_kept, .int m_acts, .int m_images, .ref m_left, .ref m_far, .ref m_line, .int m_fitsNow, .ref m_ditchIn, .int m_treadLeft, .int m_rambledTo, .int m_rambledFalls, .int m_rambledIn])), (m_park, .inr (11, [.int m_park_wide, .int m_park_deep, .int m_park_errs, .int m_park_slips, .int m_park_rows, .int m_park_walkers, .int m_park_walks, .int m_park_unsures, .ref m_park_sort, .ref m_park_unsure, .ref m_park_kind, .ref m_park_at, .ref m_park_to, .ref m_park_from, .ref m_park_steps, .ref m_park_fell, .ref m_park_name]))]) hP hD rfl
                              have hP := hPD.1
                              have hD := hPD.2
                              have kf_68 : r_65.toInt = onF m_park_wide.toInt m_park_deep.toInt i_25.toInt i_40.toInt := by assumption
                              refine va_iald (D := (dC, dI)) (cl := vwCl) hx hb hK hP 2 1 rfl rfl (i := r_65) (vin (by omega) (by omega)) dX13_leaves_143 ?_
                              refine lv_topi (fun x_69 ex_69 => ?_)
                              have bx_69 : 0 ≤ x_69.toInt ∧ x_69.toInt ≤ 9999999 := rb_at b_45 ex_69 (by omega) (by omega)
                              have gx_69 : (f_44 (onF m_park_wide.toInt m_park_deep.toInt i_25.toInt i_40.toInt).toNat).toInt = x_69.toInt := rd_at ex_69 kf_68
                              refine lv_iadd hx hb dX13_leaves_144 ?_
                              refine lv_topi (fun x_70 ex_70 => ?_)
                              have tx_70 : x_70.toInt = r_62.toInt + x_69.toInt := ti_add (A := r_62.toInt) (B := x_69.toInt) ex_70 rfl rfl (by omega) (by omega)
                              refine lv_istore (lv' := [(7, .int x_70), (6, .int i_40), (5, .int i_25), (4, .int i_42), (3, .int x_2), (0, .ref h0), (1, .int p1), (2, .int p2)]) hx hb dX13_leaves_145 hl (by decide) rfl (fun ls hl => ?_)
                              refine lv_iload hx hb dX13_leaves_147 (lv_at hl 0 rfl) ?_
                              refine lv_aload_n hx hb dX13_leaves_149 rfl (lv_at hl 5 rfl) ?_
                              refine r_get X kcX13 (ci := 12) rfl hP 4 rfl 22 (by decide) fX13_30 rfl dX13_leaves_150 ?_
                              refine lv_iload hx hb dX13_leaves_153 (lv_at hl 2 rfl) ?_
                              refine va_iald (D := (dC, dI)) (cl := vwCl) hx hb hK hP 2 1 rfl rfl (i := i_25) (vin (by omega) (by omega)) dX13_leaves_155 ?_
                              refine lv_topi (fun x_71 ex_71 => ?_)
                              have bx_71 : 0 ≤ x_71.toInt ∧ x_71.toInt ≤ 9999999 := rb_at b_45 ex_71 (by omega) (by omega)
                              have gx_71 : (f_44 (i_25.toInt).toNat).toInt = x_71.toInt := rd_at ex_71 rfl
                              refine lv_icmp_lt (tgt := 162) hx hb dX13_leaves_156 (by decide) (fun h_72 => ?_) (fun h_72 => ?_)
                              · have h_72 : x_70.toInt < x_71.toInt := c_lt h_72
                                refine lv_aload_n hx hb dX13_leaves_162 rfl (lv_at hl 5 rfl) ?_
                                refine r_get X kcX13 (ci := 12) rfl hP 4 rfl 22 (by decide) fX13_30 rfl dX13_leaves_163 ?_
                                refine lv_iload hx hb dX13_leaves_166 (lv_at hl 2 rfl) ?_
                                refine lv_iload hx hb dX13_leaves_168 (lv_at hl 0 rfl) ?_
                                refine va_iast (D := (dC, dI)) (cl := vwCl) hx hb hK hP hD hS 2 1 rfl rfl (i := i_25) (vin (by omega) (by omega)) dX13_leaves_170 (fun H locs hP hD hS => ?_)
                                generalize ef_73 : upd f_44 (Int32.toNatClampNeg i_25) x_70 = f_73 at hP hD
                                have bf_73 : rb f_73 20 0 9999999 := by rw [← ef_73]; exact rb_upd b_45 (by omega) (by omega)
                                have hPD := vPD (ws' := [(m_park_kind, .inl (cy 1, 4, .inl m_park_kindf)), (m_park_to, .inl (cy 1, 4, .inl m_park_tof)), (m_left, .inl (cy 1, 20, .inl f_73)), (m_x, .inl (cy 1, 20, .inl m_xf)), (h0, .inr (12, [.int m_thrown, .int m_trouble, .int m_where, .ref m_park, m_read, .ref m_tape, .int m_taped, .int m_size, .int m_spot, .int m_sort, .int m_place, .int m_letters, .int m_number, .int m_fault, .int m_wrongAt, .long m_word, .ref m_v, .ref m_x, .ref m_past, .ref m_kept, .int m_acts, .int m_images, .ref m_left, .ref m_far, .ref m_line, .int m_fitsNow, .ref m_ditchIn, .int m_treadLeft, .int m_rambledTo, .int m_rambledFalls, .int m_rambledIn])), (m_park, .inr (11, [.int m_park_wide, .int m_park_deep, .int m_park_errs, .int m_park_slips, .int m_park_rows, .int m_park_walkers, .int m_park_walks, .int m_park_unsures, .ref m_park_sort, .ref m_park_unsure, .ref m_park_kind, .ref m_park_at, .ref m_park_to, .ref m_park_from, .ref m_park_steps, .ref m_park_fell, .ref m_park_name]))]) hP hD rfl
                                have hP := hPD.1
                                have hD := hPD.2
                                refine lv_iconst (v := 1) hx hb dX13_leaves_171 (by decide) ?_
                                refine lv_istore (lv' := [(4, .int 1), (7, .int x_70), (6, .int i_40), (5, .int i_25), (3, .int x_2), (0, .ref h0), (1, .int p1), (2, .int p2)]) hx hb dX13_leaves_172 hl (by decide) rfl (fun ls hl => ?_)
                                obtain ⟨x_74, ex_74⟩ : ∃ y : Int32, y = i_40 + 1 := ⟨_, rfl⟩
                                have tx_74 : x_74.toInt = i_40.toInt + 1 := ti_add (A := i_40.toInt) (B := 1) ex_74 rfl rfl (by omega) (by omega)
                                refine lv_iinc (v := x_74) (lv' := [(6, .int x_74), (4, .int 1), (7, .int x_70), (5, .int i_25), (3, .int x_2), (0, .ref h0), (1, .int p1), (2, .int p2)]) hx hb dX13_leaves_174 hl (k := 2) rfl (by rw [ex_74]; rfl) (by decide) rfl (fun ls hl => ?_)
                                refine lv_goto (tgt := 79) hx hb dX13_leaves_177 (by decide) ?_
                                have hsl := sm_lt (f := f_44) (i := i_25) (v := x_70) (by omega) (by omega) (by omega)
                                rw [ef_73] at hsl
                                exact ihlp_39 x_74 1 f_73 _ _ _ (by omega) (by decide) bf_73 (show supI m_park_wide.toInt m_park_deep.toInt m_xf x_2.toInt p2.toInt f_73 from (by rw [← ef_73]; exact sup_up (s := i_40.toInt) (by omega) (by omega) b_46 b_45 (by omega) (by omega) (by omega) (by omega) (by omega) (by omega) (by omega) (by omega))) (show 1 = 0 → fpI m_park_wide.toInt m_park_deep.toInt m_xf x_2.toInt p2.toInt f_73 (4 * i_25.toInt + x_74.toInt) from (fun h9 => absurd h9 (by decide))) (show sm f_73 20 + 1 ≤ sm f_19 20 by omega) (show 5 - x_74.toInt ≤ (nlp_39 : Int) by omega) (hP.sub [0, 1, 3, 2, 4, 5] rfl) (hD.sub [0, 1, 3, 2, 4, 5] (by decide) rfl) hS (lv_sub hl [0, 3, 1, 4, 5, 6, 7] rfl)
                              · have h_72 : x_71.toInt ≤ x_70.toInt := c_nlt h_72
                                refine lv_goto (tgt := 174) hx hb dX13_leaves_159 (by decide) ?_
                                obtain ⟨x_75, ex_75⟩ : ∃ y : Int32, y = i_40 + 1 := ⟨_, rfl⟩
                                have tx_75 : x_75.toInt = i_40.toInt + 1 := ti_add (A := i_40.toInt) (B := 1) ex_75 rfl rfl (by omega) (by omega)
                                refine lv_iinc (v := x_75) (lv' := [(6, .int x_75), (7, .int x_70), (5, .int i_25), (4, .int i_42), (3, .int x_2), (0, .ref h0), (1, .int p1), (2, .int p2)]) hx hb dX13_leaves_174 hl (k := 1) rfl (by rw [ex_75]; rfl) (by decide) rfl (fun ls hl => ?_)
                                refine lv_goto (tgt := 79) hx hb dX13_leaves_177 (by decide) ?_
                                exact ihlp_39 x_75 i_42 f_44 _ _ _ (by omega) (by omega) b_45 (show supI m_park_wide.toInt m_park_deep.toInt m_xf x_2.toInt p2.toInt f_44 from b_46) (show i_42.toInt = 0 → fpI m_park_wide.toInt m_park_deep.toInt m_xf x_2.toInt p2.toInt f_44 (4 * i_25.toInt + x_75.toInt) from (fun h9 => fpI_up (b_47 h9) i_25.toInt i_40.toInt rfl (by omega) (by omega) (by omega) (by omega))) (show sm f_44 20 + i_42.toInt ≤ sm f_19 20 by omega) (show 5 - x_75.toInt ≤ (nlp_39 : Int) by omega) (hP.sub [0, 1, 3, 2, 4, 5] rfl) (hD.sub [0, 1, 3, 2, 4, 5] (by decide) rfl) hS (lv_sub hl [0, 2, 3, 4, 5, 6, 7] rfl)
                            · have h_61 : x_60.toInt = 9999999 := c_eq h_61
                              refine lv_goto (tgt := 174) hx hb dX13_leaves_118 (by decide) ?_
                              obtain ⟨x_76, ex_76⟩ : ∃ y : Int32, y = i_40 + 1 := ⟨_, rfl⟩
                              have tx_76 : x_76.toInt = i_40.toInt + 1 := ti_add (A := i_40.toInt) (B := 1) ex_76 rfl rfl (by omega) (by omega)
                              refine lv_iinc (v := x_76) (lv' := [(6, .int x_76), (5, .int i_25), (4, .int i_42), (3, .int x_2), (0, .ref h0), (1, .int p1), (2, .int p2)]) hx hb dX13_leaves_174 hl (k := 0) rfl (by rw [ex_76]; rfl) (by decide) rfl (fun ls hl => ?_)
                              refine lv_goto (tgt := 79) hx hb dX13_leaves_177 (by decide) ?_
                              exact ihlp_39 x_76 i_42 f_44 _ _ _ (by omega) (by omega) b_45 (show supI m_park_wide.toInt m_park_deep.toInt m_xf x_2.toInt p2.toInt f_44 from b_46) (show i_42.toInt = 0 → fpI m_park_wide.toInt m_park_deep.toInt m_xf x_2.toInt p2.toInt f_44 (4 * i_25.toInt + x_76.toInt) from (fun h9 => fpI_up (b_47 h9) i_25.toInt i_40.toInt rfl (by omega) (by omega) (by omega) (by omega))) (show sm f_44 20 + i_42.toInt ≤ sm f_19 20 by omega) (show 5 - x_76.toInt ≤ (nlp_39 : Int) by omega) (hP.sub [0, 1, 3, 2, 4, 5] rfl) (hD.sub [0, 1, 3, 2, 4, 5] (by decide) rfl) hS (lv_sub hl [0, 1, 2, 3, 4, 5, 6] rfl)
                    exact lp_39 5 0 i_27 f_29 _ _ _ (by decide) (by omega) b_30 (show supI m_park_wide.toInt m_park_deep.toInt m_xf x_2.toInt p2.toInt f_29 from b_32) (show i_27.toInt = 0 → fpI m_park_wide.toInt m_park_deep.toInt m_xf x_2.toInt p2.toInt f_29 (4 * i_25.toInt + 0) from (fun h9 => fpI_eq (b_33 h9) (by omega))) (show sm f_29 20 + i_27.toInt ≤ sm f_19 20 by omega) (show 5 - 0 ≤ ((5 : Nat) : Int) by omega) hP hD hS hl
              exact lp_24 21 0 0 f_19 _ _ _ (by decide) (by decide) b_20 (show 0 ≤ (m_park_wide.toInt * m_park_deep.toInt) by omega) (show supI m_park_wide.toInt m_park_deep.toInt m_xf x_2.toInt p2.toInt f_19 from b_21) (show 0 = 0 → fpI m_park_wide.toInt m_park_deep.toInt m_xf x_2.toInt p2.toInt f_19 (4 * 0) from (fun _ => fpI_0 (by omega))) (show sm f_19 20 + 0 ≤ sm f_19 20 by omega) (show 21 - 0 ≤ ((21 : Nat) : Int) by omega) hP hD hS hl
        exact lp_16 200000002 1 f_15 _ _ _ (by decide) bf_15 (show supI m_park_wide.toInt m_park_deep.toInt m_xf x_2.toInt p2.toInt f_15 from (by rw [← ef_15]; exact sup_1 b_9 (by omega) (by omega) (by decide))) (show 1 = 0 → fpI m_park_wide.toInt m_park_deep.toInt m_xf x_2.toInt p2.toInt f_15 (4 * (m_park_wide.toInt * m_park_deep.toInt)) from (fun h9 => absurd h9 (by decide))) (show sm f_15 20 + 1 + 1 ≤ ((200000002 : Nat) : Int) by omega) hP hD hS hl
      · have h_13 : i_4.toInt < r_10.toInt := c_nle h_13
        refine lv_aload_n hx hb dX13_leaves_22 rfl (lv_at hl 2 rfl) ?_
        refine r_get X kcX13 (ci := 12) rfl hP 4 rfl 22 (by decide) fX13_30 rfl dX13_leaves_23 ?_
        refine lv_iload hx hb dX13_leaves_26 (lv_at hl 0 rfl) ?_
        refine lv_ldcw (v := 9999999) hx hb X.2.2.2.1 (X.2.2.2.2.1 _ w_1715) dX13_leaves_28 ?_
        refine va_iast (D := (dC, dI)) (cl := vwCl) hx hb hK hP hD hS 3 1 rfl rfl (i := i_4) (vin (by omega) (by omega)) dX13_leaves_31 (fun H locs hP hD hS => ?_)
        generalize ef_77 : upd f_6 (Int32.toNatClampNeg i_4) 9999999 = f_77 at hP hD
        have bf_77 : rb f_77 20 0 9999999 := by rw [← ef_77]; exact rb_upd b_7 (by decide) (by decide)
        have hPD := vPD (ws' := [(m_park_kind, .inl (cy 1, 4, .inl m_park_kindf)), (m_park_to, .inl (cy 1, 4, .inl m_park_tof)), (m_x, .inl (cy 1, 20, .inl m_xf)), (m_left, .inl (cy 1, 20, .inl f_77)), (h0, .inr (12, [.int m_thrown, .int m_trouble, .int m_where, .ref m_park, m_read, .ref m_tape, .int m_taped, .int m_size, .int m_spot, .int m_sort, .int m_place, .int m_letters, .int m_number, .int m_fault, .int m_wrongAt, .long m_word, .ref m_v, .ref m_x, .ref m_past, .ref m_kept, .int m_acts, .int m_images, .ref m_left, .ref m_far, .ref m_line, .int m_fitsNow, .ref m_ditchIn, .int m_treadLeft, .int m_rambledTo, .int m_rambledFalls, .int m_rambledIn])), (m_park, .inr (11, [.int m_park_wide, .int m_park_deep, .int m_park_errs, .int m_park_slips, .int m_park_rows, .int m_park_walkers, .int m_park_walks, .int m_park_unsures, .ref m_park_sort, .ref m_park_unsure, .ref m_park_kind, .ref m_park_at, .ref m_park_to, .ref m_park_from, .ref m_park_steps, .ref m_park_fell, .ref m_park_name]))]) hP hD rfl
        have hP := hPD.1
        have hD := hPD.2
        obtain ⟨x_78, ex_78⟩ : ∃ y : Int32, y = i_4 + 1 := ⟨_, rfl⟩
        have tx_78 : x_78.toInt = i_4.toInt + 1 := ti_add (A := i_4.toInt) (B := 1) ex_78 rfl rfl (by omega) (by omega)
        refine lv_iinc (v := x_78) (lv' := [(4, .int x_78), (3, .int x_2), (0, .ref h0), (1, .int p1), (2, .int p2)]) hx hb dX13_leaves_32 hl (k := 0) rfl (by rw [ex_78]; rfl) (by decide) rfl (fun ls hl => ?_)
        refine lv_goto (tgt := 13) hx hb dX13_leaves_35 (by decide) ?_
        exact ihlp_3 x_78 f_77 _ _ _ (by omega) bf_77 (show x_78.toInt ≤ (m_park_wide.toInt * m_park_deep.toInt) by omega) (show faI f_77 x_78.toInt from (by rw [← ef_77]; exact faI_up b_9 (by omega) (by decide) (by omega))) (show 21 - x_78.toInt ≤ (nlp_3 : Int) by omega) (hP.sub [4, 5, 0, 1, 2, 3] rfl) (hD.sub [4, 5, 0, 1, 2, 3] (by decide) rfl) hS (lv_sub hl [0, 1, 2, 3, 4] rfl)
  exact lp_3 21 0 m_leftf _ _ _ (by decide) hm_leftf (show 0 ≤ (m_park_wide.toInt * m_park_deep.toInt) by omega) (show faI m_leftf 0 from faI_0) (show 21 - 0 ≤ ((21 : Nat) : Int) by omega) hP hD hS hl
set_option maxHeartbeats 4000000 in
set_option maxRecDepth 100000 in
theorem sX13_comes (l : Launch) (dC : Nat → ClassId) (dI : Nat → Nat → Nat) (cy : Nat → ClassId) (h0 : Nat) (m_thrown : Int32) (m_trouble : Int32) (m_where : Int32) (m_park : Nat) (m_read : Value) (m_tape : Nat) (m_taped : Int32) (m_size : Int32) (m_spot : Int32) (m_sort : Int32) (m_place : Int32) (m_letters : Int32) (m_number : Int32) (m_fault : Int32) (m_wrongAt : Int32) (m_word : Int64) (m_v : Nat) (m_x : Nat) (m_past : Nat) (m_kept : Nat) (m_acts : Int32) (m_images : Int32) (m_left : Nat) (m_far : Nat) (m_line : Nat) (m_fitsNow : Int32) (m_ditchIn : Nat) (m_treadLeft : Int32) (m_rambledTo : Int32) (m_rambledFalls : Int32) (m_rambledIn : Int32) (m_park_wide : Int32) (m_park_deep : Int32) (m_park_errs : Int32) (m_park_slips : Int32) (m_park_rows : Int32) (m_park_walkers : Int32) (m_park_walks : Int32) (m_park_unsures : Int32) (m_park_sort : Nat) (m_park_unsure : Nat) (m_park_kind : Nat) (m_park_at : Nat) (m_park_to : Nat) (m_park_from : Nat) (m_park_steps : Nat) (m_park_fell : Nat) (m_park_name : Nat) (m_park_kindf : Nat → Int32) (m_vf : Nat → Int32) (m_xf : Nat → Int32) (m_farf : Nat → Int32) (p1 : Int32) (hm_taped : 0 ≤ m_taped.toInt ∧ m_taped.toInt ≤ 800) (hm_size : 0 ≤ m_size.toInt ∧ m_size.toInt ≤ 800) (hm_spot : 0 ≤ m_spot.toInt ∧ m_spot.toInt ≤ 800) (hm_place : 0 ≤ m_place.toInt ∧ m_place.toInt ≤ 800) (hm_acts : 0 ≤ m_acts.toInt ∧ m_acts.toInt ≤ 16) (hm_images : 0 ≤ m_images.toInt ∧ m_images.toInt ≤ 3) (hm_park_wide : 2 ≤ m_park_wide.toInt ∧ m_park_wide.toInt ≤ 5) (hm_park_deep : 2 ≤ m_park_deep.toInt ∧ m_park_deep.toInt ≤ 4) (hm_park_rows : 0 ≤ m_park_rows.toInt ∧ m_park_rows.toInt ≤ 4) (hm_park_walkers : 0 ≤ m_park_walkers.toInt ∧ m_park_walkers.toInt ≤ 4) (hm_park_walks : 0 ≤ m_park_walks.toInt ∧ m_park_walks.toInt ≤ 6) (hm_park_unsures : 0 ≤ m_park_unsures.toInt ∧ m_park_unsures.toInt ≤ 5) (hm_farf : rb m_farf 20 0 9999999) (hvI : rI m_vf 1 (m_park_wide.toInt * m_park_deep.toInt)) (hp1 : 0 ≤ p1.toInt ∧ p1.toInt ≤ 3) : ctV l dC dI cy hp yX13_comes cX13_comes 7 ({ frames := 3, cells := 0, slots := 0, locals := 67 } : Room) [.ref h0, .int p1] [(h0, .inr (12, [.int m_thrown, .int m_trouble, .int m_where, .ref m_park, m_read, .ref m_tape, .int m_taped, .int m_size, .int m_spot, .int m_sort, .int m_place, .int m_letters, .int m_number, .int m_fault, .int m_wrongAt, .long m_word, .ref m_v, .ref m_x, .ref m_past, .ref m_kept, .int m_acts, .int m_images, .ref m_left, .ref m_far, .ref m_line, .int m_fitsNow, .ref m_ditchIn, .int m_treadLeft, .int m_rambledTo, .int m_rambledFalls, .int m_rambledIn])), (m_park, .inr (11, [.int m_park_wide, .int m_park_deep, .int m_park_errs, .int m_park_slips, .int m_park_rows, .int m_park_walkers, .int m_park_walks, .int m_park_unsures, .ref m_park_sort, .ref m_park_unsure, .ref m_park_kind, .ref m_park_at, .ref m_park_to, .ref m_park_from, .ref m_park_steps, .ref m_park_fell, .ref m_park_name])), (m_park_kind, .inl (cy 1, 4, .inl m_park_kindf)), (m_v, .inl (cy 1, 32, .inl m_vf)), (m_x, .inl (cy 1, 20, .inl m_xf)), (m_far, .inl (cy 1, 20, .inl m_farf))] (S := (Nat → Int32)) (fun u => (rb u 20 0 9999999)) (fun u => [(h0, .inr (12, [.int m_thrown, .int m_trouble, .int m_where, .ref m_park, m_read, .ref m_tape, .int m_taped, .int m_size, .int m_spot, .int m_sort, .int m_place, .int m_letters, .int m_number, .int m_fault, .int m_wrongAt, .long m_word, .ref m_v, .ref m_x, .ref m_past, .ref m_kept, .int m_acts, .int m_images, .ref m_left, .ref m_far, .ref m_line, .int m_fitsNow, .ref m_ditchIn, .int m_treadLeft, .int m_rambledTo, .int m_rambledFalls, .int m_rambledIn])), (m_park, .inr (11, [.int m_park_wide, .int m_park_deep, .int m_park_errs, .int m_park_slips, .int m_park_rows, .int m_park_walkers, .int m_park_walks, .int m_park_unsures, .ref m_park_sort, .ref m_park_unsure, .ref m_park_kind, .ref m_park_at, .ref m_park_to, .ref m_park_from, .ref m_park_steps, .ref m_park_fell, .ref m_park_name])), (m_park_kind, .inl (cy 1, 4, .inl m_park_kindf)), (m_v, .inl (cy 1, 32, .inl m_vf)), (m_x, .inl (cy 1, 20, .inl m_xf)), (m_far, .inl (cy 1, 20, .inl u))]) := by
  refine ctV.of (by decide +kernel) (Nat.le_of_ble_eq_true rfl) ?_
  intro p e s m args below meth c A ls Q hQ X hr hlocks hin hA hP hD hS hl
  have hx := X.1
  have hb := X.2.1
  have hK := X.2.2.2.2.2.1
  have hl : lv_has ls 7 [(0, .ref h0), (1, .int p1)] := hl
  have hpl : 4 ≤ (m_park_wide.toInt * m_park_deep.toInt) ∧ (m_park_wide.toInt * m_park_deep.toInt) ≤ 20 := pl_bd (by omega) (by omega) (by omega) (by omega)
  refine lv_aload_n hx hb dX13_comes_0 rfl (lv_at hl 0 rfl) ?_
  refine r_get X kcX13 (ci := 12) rfl hP 0 rfl 3 (by decide) fX13_269 rfl dX13_comes_1 ?_
  refine r_get X kcX12 (ci := 11) rfl hP 1 rfl 10 (by decide) fX13_238 rfl dX13_comes_4 ?_
  refine lv_iload_n hx hb dX13_comes_7 rfl (lv_at hl 1 rfl) ?_
  refine va_iald (D := (dC, dI)) (cl := vwCl) hx hb hK hP 2 1 rfl rfl (i := p1) (vin (by omega) (by omega)) dX13_comes_8 ?_
  refine lv_topi (fun x_1 ex_1 => ?_)
  have gx_1 : (m_park_kindf (p1.toInt).toNat).toInt = x_1.toInt := rd_at ex_1 rfl
  refine lv_istore_n (lv' := [(2, .int x_1), (0, .ref h0), (1, .int p1)]) hx hb dX13_comes_9 rfl hl (by decide) rfl (fun ls hl => ?_)
  refine lv_iconst (v := 0) hx hb dX13_comes_10 (by decide) ?_
  refine lv_istore_n (lv' := [(3, .int 0), (2, .int x_1), (0, .ref h0), (1, .int p1)]) hx hb dX13_comes_11 rfl hl (by decide) rfl (fun ls hl => ?_)
  have lp_2 : ∀ (nlp_2 : Nat) (i_3 : Int32) (f_5 : Nat → Int32) (H : Heap) (locs : List Loc) (ls : Array Slot), (0 ≤ i_3.toInt ∧ i_3.toInt ≤ 20) → (rb f_5 20 0 9999999) → (i_3.toInt ≤ (m_park_wide.toInt * m_park_deep.toInt)) → (21 - i_3.toInt ≤ (nlp_2 : Int)) → va_P (dC, dI) vwCl [(h0, .inr (12, [.int m_thrown, .int m_trouble, .int m_where, .ref m_park, m_read, .ref m_tape, .int m_taped, .int m_size, .int m_spot, .int m_sort, .int m_place, .int m_letters, .int m_number, .int m_fault, .int m_wrongAt, .long m_word, .ref m_v, .ref m_x, .ref m_past, .ref m_kept, .int m_acts, .int m_images, .ref m_left, .ref m_far, .ref m_line, .int m_fitsNow, .ref m_ditchIn, .int m_treadLeft, .int m_rambledTo, .int m_rambledFalls, .int m_rambledIn])), (m_park, .inr (11, [.int m_park_wide, .int m_park_deep, .int m_park_errs, .int m_park_slips, .int m_park_rows, .int m_park_walkers, .int m_park_walks, .int m_park_unsures, .ref m_park_sort, .ref m_park_unsure, .ref m_park_kind, .ref m_park_at, .ref m_park_to, .ref m_park_from, .ref m_park_steps, .ref m_park_fell, .ref m_park_name])), (m_park_kind, .inl (cy 1, 4, .inl m_park_kindf)), (m_v, .inl (cy 1, 32, .inl m_vf)), (m_x, .inl (cy 1, 20, .inl m_xf)), (m_far, .inl (cy 1, 20, .inl f_5))] H → va_D A [(h0, .inr (12, [.int m_thrown, .int m_trouble, .int m_where, .ref m_park, m_read, .ref m_tape, .int m_taped, .int m_size, .int m_spot, .int m_sort, .int m_place, .int m_letters, .int m_number, .int m_fault, .int m_wrongAt, .long m_word, .ref m_v, .ref m_x, .ref m_past, .ref m_kept, .int m_acts, .int m_images, .ref m_left, .ref m_far, .ref m_line, .int m_fitsNow, .ref m_ditchIn, .int m_treadLeft, .int m_rambledTo, .int m_rambledFalls, .int m_rambledIn])), (m_park, .inr (11, [.int m_park_wide, .int m_park_deep, .int m_park_errs, .int m_park_slips, .int m_park_rows, .int m_park_walkers, .int m_park_walks, .int m_park_unsures, .ref m_park_sort, .ref m_park_unsure, .ref m_park_kind, .ref m_park_at, .ref m_park_to, .ref m_park_from, .ref m_park_steps, .ref m_park_fell, .ref m_park_name])), (m_park_kind, .inl (cy 1, 4, .inl m_park_kindf)), (m_v, .inl (cy 1, 32, .inl m_vf)), (m_x, .inl (cy 1, 20, .inl m_xf)), (m_far, .inl (cy 1, 20, .inl f_5))] → va_S A s.heap H locs → lv_has ls 7 [(3, .int i_3), (2, .int x_1), (0, .ref h0), (1, .int p1)] → W p l e ({ frames := 3, cells := 0, slots := 0, locals := 67 } : Room) s m args below meth c H locs 0 0 Q (F0 m 12 ls []) := by
    intro nlp_2
    induction nlp_2 with
    | zero =>
      intro i_3 f_5 H locs ls b_4 b_6 b_7 hmlp_2 hP hD hS hl
      exfalso
      have di_3 := ti_bd i_3
      omega
    | succ nlp_2 ihlp_2 =>
      intro i_3 f_5 H locs ls b_4 b_6 b_7 hmlp_2 hP hD hS hl
      refine lv_iload_n hx hb dX13_comes_12 rfl (lv_at hl 0 rfl) ?_
      refine lv_aload_n hx hb dX13_comes_13 rfl (lv_at hl 2 rfl) ?_
      refine sl_Ic (rV_I (As := []) (rest := [.int i_3]) X hp_st (fun _ _ _ h => h) (sX13_places l dC dI cy h0 m_thrown m_trouble m_where m_park m_read m_tape m_taped m_size m_spot m_sort m_place m_letters m_number m_fault m_wrongAt m_word m_v m_x m_past m_kept m_acts m_images m_left m_far m_line m_fitsNow m_ditchIn m_treadLeft m_rambledTo m_rambledFalls m_rambledIn m_park_wide m_park_deep m_park_errs m_park_slips m_park_rows m_park_walkers m_park_walks m_park_unsures m_park_sort m_park_unsure m_park_kind m_park_at m_park_to m_park_from m_park_steps m_park_fell m_park_name hm_taped hm_size hm_spot hm_place hm_acts hm_images hm_park_wide hm_park_deep hm_park_rows hm_park_walkers hm_park_walks hm_park_unsures) kX13_places vX13_places mX13_277 hP hD hS hA [0, 1] (by decide) rfl 0 (ci := 12) rfl rfl rfl hl rfl rfl (Nat.le_of_ble_eq_true rfl) dX13_comes_14 ⟨(Nat.le_of_ble_eq_true rfl), (Nat.le_of_ble_eq_true rfl)⟩ ⟨(Nat.le_of_ble_eq_true rfl), (Nat.le_of_ble_eq_true rfl)⟩) hP hD hS hA [0, 1] [false, false, true, true, true, true] rfl rfl rfl (fun r_8 u_10 H locs k_9 hP hD hS => ?_)
      have k_9 : (4 ≤ r_8.toInt ∧ r_8.toInt ≤ 20) ∧ (r_8.toInt = (m_park_wide.toInt * m_park_deep.toInt)) := k_9
      obtain ⟨k_9_0, k_9_1⟩ := k_9
      have hPD := vPD (ws' := [(m_park_kind, .inl (cy 1, 4, .inl m_park_kindf)), (m_v, .inl (cy 1, 32, .inl m_vf)), (m_x, .inl (cy 1, 20, .inl m_xf)), (m_far, .inl (cy 1, 20, .inl f_5)), (h0, .inr (12, [.int m_thrown, .int m_trouble, .int m_where, .ref m_park, m_read, .ref m_tape, .int m_taped, .int m_size, .int m_spot, .int m_sort, .int m_place, .int m_letters, .int m_number, .int m_fault, .int m_wrongAt, .long m_word, .ref m_v, .ref m_x, .ref m_past, .ref m_kept, .int m_acts, .int m_images, .ref m_left, .ref m_far, .ref m_line, .int m_fitsNow, .ref m_ditchIn, .int m_treadLeft, .int m_rambledTo, .int m_rambledFalls, .int m_rambledIn])), (m_park, .inr (11, [.int m_park_wide, .int m_park_deep, .int m_park_errs, .int m_park_slips, .int m_park_rows, .int m_park_walkers, .int m_park_walks, .int m_park_unsures, .ref m_park_sort, .ref m_park_unsure, .ref m_park_kind, .ref m_park_at, .ref m_park_to, .ref m_park_from, .ref m_park_steps, .ref m_park_fell, .ref m_park_name]))]) hP hD rfl
      have hP := hPD.1
      have hD := hPD.2
      refine lv_icmp_ge (tgt := 35) hx hb dX13_comes_17 (by decide) (fun h_11 => ?_) (fun h_11 => ?_)
      · have h_11 : r_8.toInt ≤ i_3.toInt := c_le h_11
        refine lv_aload_n hx hb dX13_comes_35 rfl (lv_at hl 2 rfl) ?_
        refine r_get X kcX13 (ci := 12) rfl hP 4 rfl 23 (by decide) fX13_33 rfl dX13_comes_36 ?_
        refine lv_aload_n hx hb dX13_comes_39 rfl (lv_at hl 2 rfl) ?_
        refine r_get X kcX13 (ci := 12) rfl hP 4 rfl 16 (by decide) fX13_17 rfl dX13_comes_40 ?_
        refine lv_bipush (v := 20) hx hb dX13_comes_43 (by decide) ?_
        refine lv_iload_n hx hb dX13_comes_45 rfl (lv_at hl 3 rfl) ?_
        refine lv_iadd hx hb dX13_comes_46 ?_
        refine lv_topi (fun x_12 ex_12 => ?_)
        have tx_12 : x_12.toInt = 20 + p1.toInt := ti_add (A := 20) (B := p1.toInt) ex_12 rfl rfl (by omega) (by omega)
        refine va_iald (D := (dC, dI)) (cl := vwCl) hx hb hK hP 1 1 rfl rfl (i := x_12) (vin (by omega) (by omega)) dX13_comes_47 ?_
        refine lv_topi (fun x_13 ex_13 => ?_)
        have bx_13 : 0 ≤ x_13.toInt ∧ x_13.toInt < (m_park_wide.toInt * m_park_deep.toInt) := rI_at (by assumption) ex_13 (by omega) (by omega)
        refine lv_iconst (v := 0) hx hb dX13_comes_48 (by decide) ?_
        refine va_iast (D := (dC, dI)) (cl := vwCl) hx hb hK hP hD hS 3 1 rfl rfl (i := x_13) (vin (by omega) (by omega)) dX13_comes_49 (fun H locs hP hD hS => ?_)
        generalize ef_14 : upd f_5 (Int32.toNatClampNeg x_13) 0 = f_14 at hP hD
        have bf_14 : rb f_14 20 0 9999999 := by rw [← ef_14]; exact rb_upd b_6 (by decide) (by decide)
        have hPD := vPD (ws' := [(m_park_kind, .inl (cy 1, 4, .inl m_park_kindf)), (m_v, .inl (cy 1, 32, .inl m_vf)), (m_x, .inl (cy 1, 20, .inl m_xf)), (m_far, .inl (cy 1, 20, .inl f_14)), (h0, .inr (12, [.int m_thrown, .int m_trouble, .int m_where, .ref m_park, m_read, .ref m_tape, .int m_taped, .int m_size, .int m_spot, .int m_sort, .int m_place, .int m_letters, .int m_number, .int m_fault, .int m_wrongAt, .long m_word, .ref m_v, .ref m_x, .ref m_past, .ref m_kept, .int m_acts, .int m_images, .ref m_left, .ref m_far, .ref m_line, .int m_fitsNow, .ref m_ditchIn, .int m_treadLeft, .int m_rambledTo, .int m_rambledFalls, .int m_rambledIn])), (m_park, .inr (11, [.int m_park_wide, .int m_park_deep, .int m_park_errs, .int m_park_slips, .int m_park_rows, .int m_park_walkers, .int m_park_walks, .int m_park_unsures, .ref m_park_sort, .ref m_park_unsure, .ref m_park_kind, .ref m_park_at, .ref m_park_to, .ref m_park_from, .ref m_park_steps, .ref m_park_fell, .ref m_park_name]))]) hP hD rfl
        have hP := hPD.1
        have hD := hPD.2
        refine lv_iconst (v := 1) hx hb dX13_comes_50 (by decide) ?_
        refine lv_istore_n (lv' := [(3, .int 1), (2, .int x_1), (0, .ref h0), (1, .int p1)]) hx hb dX13_comes_51 rfl hl (by decide) rfl (fun ls hl => ?_)
        have hsm := sm_b20 bf_14
        have lp_15 : ∀ (nlp_15 : Nat) (i_16 : Int32) (f_18 : Nat → Int32) (H : Heap) (locs : List Loc) (ls : Array Slot), (0 ≤ i_16.toInt ∧ i_16.toInt ≤ 1) → (rb f_18 20 0 9999999) → (sm f_18 20 + i_16.toInt + 1 ≤ (nlp_15 : Int)) → va_P (dC, dI) vwCl [(m_park_kind, .inl (cy 1, 4, .inl m_park_kindf)), (m_v, .inl (cy 1, 32, .inl m_vf)), (m_x, .inl (cy 1, 20, .inl m_xf)), (m_far, .inl (cy 1, 20, .inl f_18)), (h0, .inr (12, [.int m_thrown, .int m_trouble, .int m_where, .ref m_park, m_read, .ref m_tape, .int m_taped, .int m_size, .int m_spot, .int m_sort, .int m_place, .int m_letters, .int m_number, .int m_fault, .int m_wrongAt, .long m_word, .ref m_v, .ref m_x, .ref m_past, .ref m_kept, .int m_acts, .int m_images, .ref m_left, .ref m_far, .ref m_line, .int m_fitsNow, .ref m_ditchIn, .int m_treadLeft, .int m_rambledTo, .int m_rambledFalls, .int m_rambledIn])), (m_park, .inr (11, [.int m_park_wide, .int m_park_deep, .int m_park_errs, .int m_park_slips, .int m_park_rows, .int m_park_walkers, .int m_park_walks, .int m_park_unsures, .ref m_park_sort, .ref m_park_unsure, .ref m_park_kind, .ref m_park_at, .ref m_park_to, .ref m_park_from, .ref m_park_steps, .ref m_park_fell, .ref m_park_name]))] H → va_D A [(m_park_kind, .inl (cy 1, 4, .inl m_park_kindf)), (m_v, .inl (cy 1, 32, .inl m_vf)), (m_x, .inl (cy 1, 20, .inl m_xf)), (m_far, .inl (cy 1, 20, .inl f_18)), (h0, .inr (12, [.int m_thrown, .int m_trouble, .int m_where, .ref m_park, m_read, .ref m_tape, .int m_taped, .int m_size, .int m_spot, .int m_sort, .int m_place, .int m_letters, .int m_number, .int m_fault, .int m_wrongAt, .long m_word, .ref m_v, .ref m_x, .ref m_past, .ref m_kept, .int m_acts, .int m_images, .ref m_left, .ref m_far, .ref m_line, .int m_fitsNow, .ref m_ditchIn, .int m_treadLeft, .int m_rambledTo, .int m_rambledFalls, .int m_rambledIn])), (m_park, .inr (11, [.int m_park_wide, .int m_park_deep, .int m_park_errs, .int m_park_slips, .int m_park_rows, .int m_park_walkers, .int m_park_walks, .int m_park_unsures, .ref m_park_sort, .ref m_park_unsure, .ref m_park_kind, .ref m_park_at, .ref m_park_to, .ref m_park_from, .ref m_park_steps, .ref m_park_fell, .ref m_park_name]))] → va_S A s.heap H locs → lv_has ls 7 [(3, .int i_16), (2, .int x_1), (0, .ref h0), (1, .int p1)] → W p l e ({ frames := 3, cells := 0, slots := 0, locals := 67 } : Room) s m args below meth c H locs 0 0 Q (F0 m 52 ls []) := by
          intro nlp_15
          induction nlp_15 with
          | zero =>
            intro i_16 f_18 H locs ls b_17 b_19 hmlp_15 hP hD hS hl
            exfalso
            have di_16 := ti_bd i_16
            have hzs := sm_b20 b_19
            omega
          | succ nlp_15 ihlp_15 =>
            intro i_16 f_18 H locs ls b_17 b_19 hmlp_15 hP hD hS hl
            refine lv_iload_n hx hb dX13_comes_52 rfl (lv_at hl 0 rfl) ?_
            refine lv_if_eq (tgt := 179) hx hb dX13_comes_53 (by decide) (fun h_20 => ?_) (fun h_20 => ?_)
            · have h_20 : i_16.toInt = 0 := c_eq h_20
              exact eV hQ X hr hlocks hP hD hS f_18 [4, 5, 0, 1, 2, 3] (by decide) rfl (show (rb f_18 20 0 9999999) from b_19) (Nat.le_of_ble_eq_true rfl) (Nat.le_of_ble_eq_true rfl) dX13_comes_179
            · have h_20 : i_16.toInt ≠ 0 := c_ne h_20
              refine lv_iconst (v := 0) hx hb dX13_comes_56 (by decide) ?_
              refine lv_istore_n (lv' := [(3, .int 0), (2, .int x_1), (0, .ref h0), (1, .int p1)]) hx hb dX13_comes_57 rfl hl (by decide) rfl (fun ls hl => ?_)
              refine lv_iconst (v := 0) hx hb dX13_comes_58 (by decide) ?_
              refine lv_istore (lv' := [(4, .int 0), (3, .int 0), (2, .int x_1), (0, .ref h0), (1, .int p1)]) hx hb dX13_comes_59 hl (by decide) rfl (fun ls hl => ?_)
              have lp_21 : ∀ (nlp_21 : Nat) (i_22 : Int32) (i_24 : Int32) (f_26 : Nat → Int32) (H : Heap) (locs : List Loc) (ls : Array Slot), (0 ≤ i_22.toInt ∧ i_22.toInt ≤ 20) → (0 ≤ i_24.toInt ∧ i_24.toInt ≤ 1) → (rb f_26 20 0 9999999) → (i_22.toInt ≤ (m_park_wide.toInt * m_park_deep.toInt)) → (sm f_26 20 + i_24.toInt ≤ sm f_18 20) → (21 - i_22.toInt ≤ (nlp_21 : Int)) → va_P (dC, dI) vwCl [(m_park_kind, .inl (cy 1, 4, .inl m_park_kindf)), (m_v, .inl (cy 1, 32, .inl m_vf)), (m_x, .inl (cy 1, 20, .inl m_xf)), (m_far, .inl (cy 1, 20, .inl f_26)), (h0, .inr (12, [.int m_thrown, .int m_trouble, .int m_where, .ref m_park, m_read, .ref m_tape, .int m_taped, .int m_size, .int m_spot, .int m_sort, .int m_place, .int m_letters, .int m_number, .int m_fault, .int m_wrongAt, .long m_word, .ref m_v, .ref m_x, .ref m_past, .ref m_kept, .int m_acts, .int m_images, .ref m_left, .ref m_far, .ref m_line, .int m_fitsNow, .ref m_ditchIn, .int m_treadLeft, .int m_rambledTo, .int m_rambledFalls, .int m_rambledIn])), (m_park, .inr (11, [.int m_park_wide, .int m_park_deep, .int m_park_errs, .int m_park_slips, .int m_park_rows, .int m_park_walkers, .int m_park_walks, .int m_park_unsures, .ref m_park_sort, .ref m_park_unsure, .ref m_park_kind, .ref m_park_at, .ref m_park_to, .ref m_park_from, .ref m_park_steps, .ref m_park_fell, .ref m_park_name]))] H → va_D A [(m_park_kind, .inl (cy 1, 4, .inl m_park_kindf)), (m_v, .inl (cy 1, 32, .inl m_vf)), (m_x, .inl (cy 1, 20, .inl m_xf)), (m_far, .inl (cy 1, 20, .inl f_26)), (h0, .inr (12, [.int m_thrown, .int m_trouble, .int m_where, .ref m_park, m_read, .ref m_tape, .int m_taped, .int m_size, .int m_spot, .int m_sort, .int m_place, .int m_letters, .int m_number, .int m_fault, .int m_wrongAt, .long m_word, .ref m_v, .ref m_x, .ref m_past, .ref m_kept, .int m_acts, .int m_images, .ref m_left, .ref m_far, .ref m_line, .int m_fitsNow, .ref m_ditchIn, .int m_treadLeft, .int m_rambledTo, .int m_rambledFalls, .int m_rambledIn])), (m_park, .inr (11, [.int m_park_wide, .int m_park_deep, .int m_park_errs, .int m_park_slips, .int m_park_rows, .int m_park_walkers, .int m_park_walks, .int m_park_unsures, .ref m_park_sort, .ref m_park_unsure, .ref m_park_kind, .ref m_park_at, .ref m_park_to, .ref m_park_from, .ref m_park_steps, .ref m_park_fell, .ref m_park_name]))] → va_S A s.heap H locs → lv_has ls 7 [(4, .int i_22), (3, .int i_24), (2, .int x_1), (0, .ref h0), (1, .int p1)] → W p l e ({ frames := 3, cells := 0, slots := 0, locals := 67 } : Room) s m args below meth c H locs 0 0 Q (F0 m 61 ls []) := by
                intro nlp_21
                induction nlp_21 with
                | zero =>
                  intro i_22 i_24 f_26 H locs ls b_23 b_25 b_27 b_28 b_29 hmlp_21 hP hD hS hl
                  exfalso
                  have di_22 := ti_bd i_22
                  have di_24 := ti_bd i_24
                  omega
                | succ nlp_21 ihlp_21 =>
                  intro i_22 i_24 f_26 H locs ls b_23 b_25 b_27 b_28 b_29 hmlp_21 hP hD hS hl
                  refine lv_iload hx hb dX13_comes_61 (lv_at hl 0 rfl) ?_
                  refine lv_aload_n hx hb dX13_comes_63 rfl (lv_at hl 3 rfl) ?_
                  refine sl_Ic (rV_I (As := []) (rest := [.int i_22]) X hp_st (fun _ _ _ h => h) (sX13_places l dC dI cy h0 m_thrown m_trouble m_where m_park m_read m_tape m_taped m_size m_spot m_sort m_place m_letters m_number m_fault m_wrongAt m_word m_v m_x m_past m_kept m_acts m_images m_left m_far m_line m_fitsNow m_ditchIn m_treadLeft m_rambledTo m_rambledFalls m_rambledIn m_park_wide m_park_deep m_park_errs m_park_slips m_park_rows m_park_walkers m_park_walks m_park_unsures m_park_sort m_park_unsure m_park_kind m_park_at m_park_to m_park_from m_park_steps m_park_fell m_park_name hm_taped hm_size hm_spot hm_place hm_acts hm_images hm_park_wide hm_park_deep hm_park_rows hm_park_walkers hm_park_walks hm_park_unsures) kX13_places vX13_places mX13_277 hP hD hS hA [4, 5] (by decide) rfl 0 (ci := 12) rfl rfl rfl hl rfl rfl (Nat.le_of_ble_eq_true rfl) dX13_comes_64 ⟨(Nat.le_of_ble_eq_true rfl), (Nat.le_of_ble_eq_true rfl)⟩ ⟨(Nat.le_of_ble_eq_true rfl), (Nat.le_of_ble_eq_true rfl)⟩) hP hD hS hA [4, 5] [true, true, true, true, false, false] rfl rfl rfl (fun r_30 u_32 H locs k_31 hP hD hS => ?_)
                  have k_31 : (4 ≤ r_30.toInt ∧ r_30.toInt ≤ 20) ∧ (r_30.toInt = (m_park_wide.toInt * m_park_deep.toInt)) := k_31
                  obtain ⟨k_31_0, k_31_1⟩ := k_31
                  have hPD := vPD (ws' := [(m_park_kind, .inl (cy 1, 4, .inl m_park_kindf)), (m_v, .inl (cy 1, 32, .inl m_vf)), (m_x, .inl (cy 1, 20, .inl m_xf)), (m_far, .inl (cy 1, 20, .inl f_26)), (h0, .inr (12, [.int m_thrown, .int m_trouble, .int m_where, .ref m_park, m_read, .ref m_tape, .int m_taped, .int m_size, .int m_spot, .int m_sort, .int m_place, .int m_letters, .int m_number, .int m_fault, .int m_wrongAt, .long m_word, .ref m_v, .ref m_x, .ref m_past, .ref m_kept, .int m_acts, .int m_images, .ref m_left, .ref m_far, .ref m_line, .int m_fitsNow, .ref m_ditchIn, .int m_treadLeft, .int m_rambledTo, .int m_rambledFalls, .int m_rambledIn])), (m_park, .inr (11, [.int m_park_wide, .int m_park_deep, .int m_park_errs, .int m_park_slips, .int m_park_rows, .int m_park_walkers, .int m_park_walks, .int m_park_unsures, .ref m_park_sort, .ref m_park_unsure, .ref m_park_kind, .ref m_park_at, .ref m_park_to, .ref m_park_from, .ref m_park_steps, .ref m_park_fell, .ref m_park_name]))]) hP hD rfl
                  have hP := hPD.1
                  have hD := hPD.2
                  refine lv_icmp_ge (tgt := 176) hx hb dX13_comes_67 (by decide) (fun h_33 => ?_) (fun h_33 => ?_)
                  · have h_33 : r_30.toInt ≤ i_22.toInt := c_le h_33
                    refine lv_goto (tgt := 52) hx hb dX13_comes_176 (by decide) ?_
                    exact ihlp_15 i_24 f_26 _ _ _ (by omega) b_27 (show sm f_26 20 + i_24.toInt + 1 ≤ (nlp_15 : Int) by omega) hP hD hS (lv_sub hl [1, 2, 3, 4] rfl)
                  · have h_33 : i_22.toInt < r_30.toInt := c_nle h_33
                    refine lv_iconst (v := 0) hx hb dX13_comes_70 (by decide) ?_
                    refine lv_istore (lv' := [(5, .int 0), (4, .int i_22), (3, .int i_24), (2, .int x_1), (0, .ref h0), (1, .int p1)]) hx hb dX13_comes_71 hl (by decide) rfl (fun ls hl => ?_)
                    have lp_34 : ∀ (nlp_34 : Nat) (i_35 : Int32) (i_37 : Int32) (f_39 : Nat → Int32) (H : Heap) (locs : List Loc) (ls : Array Slot), (0 ≤ i_35.toInt ∧ i_35.toInt ≤ 4) → (0 ≤ i_37.toInt ∧ i_37.toInt ≤ 1) → (rb f_39 20 0 9999999) → (sm f_39 20 + i_37.toInt ≤ sm f_18 20) → (5 - i_35.toInt ≤ (nlp_34 : Int)) → va_P (dC, dI) vwCl [(m_park_kind, .inl (cy 1, 4, .inl m_park_kindf)), (m_v, .inl (cy 1, 32, .inl m_vf)), (m_x, .inl (cy 1, 20, .inl m_xf)), (m_far, .inl (cy 1, 20, .inl f_39)), (h0, .inr (12, [.int m_thrown, .int m_trouble, .int m_where, .ref m_park, m_read, .ref m_tape, .int m_taped, .int m_size, .int m_spot, .int m_sort, .int m_place, .int m_letters, .int m_number, .int m_fault, .int m_wrongAt, .long m_word, .ref m_v, .ref m_x, .ref m_past, .ref m_kept, .int m_acts, .int m_images, .ref m_left, .ref m_far, .ref m_line, .int m_fitsNow, .ref m_ditchIn, .int m_treadLeft, .int m_rambledTo, .int m_rambledFalls, .int m_rambledIn])), (m_park, .inr (11, [.int m_park_wide, .int m_park_deep, .int m_park_errs, .int m_park_slips, .int m_park_rows, .int m_park_walkers, .int m_park_walks, .int m_park_unsures, .ref m_park_sort, .ref m_park_unsure, .ref m_park_kind, .ref m_park_at, .ref m_park_to, .ref m_park_from, .ref m_park_steps, .ref m_park_fell, .ref m_park_name]))] H → va_D A [(m_park_kind, .inl (cy 1, 4, .inl m_park_kindf)), (m_v, .inl (cy 1, 32, .inl m_vf)), (m_x, .inl (cy 1, 20, .inl m_xf)), (m_far, .inl (cy 1, 20, .inl f_39)), (h0, .inr (12, [.int m_thrown, .int m_trouble, .int m_where, .ref m_park, m_read, .ref m_tape, .int m_taped, .int m_size, .int m_spot, .int m_sort, .int m_place, .int m_letters, .int m_number, .int m_fault, .int m_wrongAt, .long m_word, .ref m_v, .ref m_x, .ref m_past, .ref m_kept, .int m_acts, .int m_images, .ref m_left, .ref m_far, .ref m_line, .int m_fitsNow, .ref m_ditchIn, .int m_treadLeft, .int m_rambledTo, .int m_rambledFalls, .int m_rambledIn])), (m_park, .inr (11, [.int m_park_wide, .int m_park_deep, .int m_park_errs, .int m_park_slips, .int m_park_rows, .int m_park_walkers, .int m_park_walks, .int m_park_unsures, .ref m_park_sort, .ref m_park_unsure, .ref m_park_kind, .ref m_park_at, .ref m_park_to, .ref m_park_from, .ref m_park_steps, .ref m_park_fell, .ref m_park_name]))] → va_S A s.heap H locs → lv_has ls 7 [(5, .int i_35), (4, .int i_22), (3, .int i_37), (2, .int x_1), (0, .ref h0), (1, .int p1)] → W p l e ({ frames := 3, cells := 0, slots := 0, locals := 67 } : Room) s m args below meth c H locs 0 0 Q (F0 m 73 ls []) := by
                      intro nlp_34
                      induction nlp_34 with
                      | zero =>
                        intro i_35 i_37 f_39 H locs ls b_36 b_38 b_40 b_41 hmlp_34 hP hD hS hl
                        exfalso
                        have di_35 := ti_bd i_35
                        have di_37 := ti_bd i_37
                        omega
                      | succ nlp_34 ihlp_34 =>
                        intro i_35 i_37 f_39 H locs ls b_36 b_38 b_40 b_41 hmlp_34 hP hD hS hl
                        refine lv_iload hx hb dX13_comes_73 (lv_at hl 0 rfl) ?_
                        refine lv_iconst (v := 4) hx hb dX13_comes_75 (by decide) ?_
                        refine lv_icmp_ge (tgt := 170) hx hb dX13_comes_76 (by decide) (fun h_42 => ?_) (fun h_42 => ?_)
                        · have h_42 : 4 ≤ i_35.toInt := c_le h_42
                          obtain ⟨x_43, ex_43⟩ : ∃ y : Int32, y = i_22 + 1 := ⟨_, rfl⟩
                          have tx_43 : x_43.toInt = i_22.toInt + 1 := ti_add (A := i_22.toInt) (B := 1) ex_43 rfl rfl (by omega) (by omega)
                          refine lv_iinc (v := x_43) (lv' := [(4, .int x_43), (5, .int i_35), (3, .int i_37), (2, .int x_1), (0, .ref h0), (1, .int p1)]) hx hb dX13_comes_170 hl (k := 1) rfl (by rw [ex_43]; rfl) (by decide) rfl (fun ls hl => ?_)
                          refine lv_goto (tgt := 61) hx hb dX13_comes_173 (by decide) ?_
                          exact ihlp_21 x_43 i_37 f_39 _ _ _ (by omega) (by omega) b_40 (show x_43.toInt ≤ (m_park_wide.toInt * m_park_deep.toInt) by omega) (show sm f_39 20 + i_37.toInt ≤ sm f_18 20 by omega) (show 21 - x_43.toInt ≤ (nlp_21 : Int) by omega) hP hD hS (lv_sub hl [0, 2, 3, 4, 5] rfl)
                        · have h_42 : i_35.toInt < 4 := c_nle h_42
                          refine lv_aload_n hx hb dX13_comes_79 rfl (lv_at hl 4 rfl) ?_
                          refine r_get X kcX13 (ci := 12) rfl hP 4 rfl 23 (by decide) fX13_33 rfl dX13_comes_80 ?_
                          refine lv_iload hx hb dX13_comes_83 (lv_at hl 1 rfl) ?_
                          refine va_iald (D := (dC, dI)) (cl := vwCl) hx hb hK hP 3 1 rfl rfl (i := i_22) (vin (by omega) (by omega)) dX13_comes_85 ?_
                          refine lv_topi (fun x_44 ex_44 => ?_)
                          have bx_44 : 0 ≤ x_44.toInt ∧ x_44.toInt ≤ 9999999 := rb_at b_40 ex_44 (by omega) (by omega)
                          have gx_44 : (f_39 (i_22.toInt).toNat).toInt = x_44.toInt := rd_at ex_44 rfl
                          refine lv_ldcw (v := 9999999) hx hb X.2.2.2.1 (X.2.2.2.2.1 _ w_1715) dX13_comes_86 ?_
                          refine lv_icmp_ge (tgt := 170) hx hb dX13_comes_89 (by decide) (fun h_45 => ?_) (fun h_45 => ?_)
                          · have h_45 : 9999999 ≤ x_44.toInt := c_le h_45
                            obtain ⟨x_46, ex_46⟩ : ∃ y : Int32, y = i_22 + 1 := ⟨_, rfl⟩
                            have tx_46 : x_46.toInt = i_22.toInt + 1 := ti_add (A := i_22.toInt) (B := 1) ex_46 rfl rfl (by omega) (by omega)
                            refine lv_iinc (v := x_46) (lv' := [(4, .int x_46), (5, .int i_35), (3, .int i_37), (2, .int x_1), (0, .ref h0), (1, .int p1)]) hx hb dX13_comes_170 hl (k := 1) rfl (by rw [ex_46]; rfl) (by decide) rfl (fun ls hl => ?_)
                            refine lv_goto (tgt := 61) hx hb dX13_comes_173 (by decide) ?_
                            exact ihlp_21 x_46 i_37 f_39 _ _ _ (by omega) (by omega) b_40 (show x_46.toInt ≤ (m_park_wide.toInt * m_park_deep.toInt) by omega) (show sm f_39 20 + i_37.toInt ≤ sm f_18 20 by omega) (show 21 - x_46.toInt ≤ (nlp_21 : Int) by omega) hP hD hS (lv_sub hl [0, 2, 3, 4, 5] rfl)
                          · have h_45 : x_44.toInt < 9999999 := c_nle h_45
                            refine lv_aload_n hx hb dX13_comes_92 rfl (lv_at hl 4 rfl) ?_
                            refine lv_iload_n hx hb dX13_comes_93 rfl (lv_at hl 3 rfl) ?_
                            refine lv_iload hx hb dX13_comes_94 (lv_at hl 1 rfl) ?_
                            refine lv_iload hx hb dX13_comes_96 (lv_at hl 0 rfl) ?_
                            refine sl_Ic (rV_I (As := [.int x_1, .int i_22, .int i_35]) (rest := []) X hp_st (fun _ _ _ h => h) (sX13_lasts l dC dI cy h0 m_thrown m_trouble m_where m_park m_read m_tape m_taped m_size m_spot m_sort m_place m_letters m_number m_fault m_wrongAt m_word m_v m_x m_past m_kept m_acts m_images m_left m_far m_line m_fitsNow m_ditchIn m_treadLeft m_rambledTo m_rambledFalls m_rambledIn m_park_wide m_park_deep m_park_errs m_park_slips m_park_rows m_park_walkers m_park_walks m_park_unsures m_park_sort m_park_unsure m_park_kind m_park_at m_park_to m_park_from m_park_steps m_park_fell m_park_name m_xf x_1 i_22 i_35 hm_taped hm_size hm_spot hm_place hm_acts hm_images hm_park_wide hm_park_deep hm_park_rows hm_park_walkers hm_park_walks hm_park_unsures (by first | decide | omega) (by omega)) kX13_lasts vX13_lasts mX13_289 hP hD hS hA [4, 5, 2] (by decide) rfl 0 (ci := 12) rfl rfl rfl hl rfl rfl (Nat.le_of_ble_eq_true rfl) dX13_comes_98 ⟨(Nat.le_of_ble_eq_true rfl), (Nat.le_of_ble_eq_true rfl)⟩ ⟨(Nat.le_of_ble_eq_true rfl), (Nat.le_of_ble_eq_true rfl)⟩) hP hD hS hA [4, 5, 2] [true, true, false, true, false, false] rfl rfl rfl (fun r_47 u_49 H locs k_48 hP hD hS => ?_)
                            have k_48 : ((-2) ≤ r_47.toInt ∧ r_47.toInt ≤ 4) ∧ (r_47.toInt = laF m_park_wide.toInt m_park_deep.toInt m_xf x_1.toInt i_22.toInt i_35.toInt) ∧ (r_47.toInt = -2 ∨ 1 ≤ r_47.toInt) ∧ (r_47.toInt = -2 ∨ onF m_park_wide.toInt m_park_deep.toInt i_22.toInt i_35.toInt ≠ -2) := k_48
                            obtain ⟨k_48_0, k_48_1, k_48_2, k_48_3⟩ := k_48
                            have hPD := vPD (ws' := [(m_park_kind, .inl (cy 1, 4, .inl m_park_kindf)), (m_v, .inl (cy 1, 32, .inl m_vf)), (m_far, .inl (cy 1, 20, .inl f_39)), (h0, .inr (12, [.int m_thrown, .int m_trouble, .int m_where, .ref m_park, m_read, .ref m_tape, .int m_taped, .int m_size, .int m_spot, .int m_sort, .int m_place, .int m_letters, .int m_number, .int m_fault, .int m_wrongAt, .long m_word, .ref m_v, .ref m_x, .ref m_past, .ref m_kept, .int m_acts, .int m_images, .ref m_left, .ref m_far, .ref m_line, .int m_fitsNow, .ref m_ditchIn, .int m_treadLeft, .int m_rambledTo, .int m_rambledFalls, .int m_rambledIn])), (m_park, .inr (11, [.int m_park_wide, .int m_park_deep, .int m_park_errs, .int m_park_slips, .int m_park_rows, .int m_park_walkers, .int m_park_walks, .int m_park_unsures, .ref m_park_sort, .ref m_park_unsure, .ref m_park_kind, .ref m_park_at, .ref m_park_to, .ref m_park_from, .ref m_park_steps, .ref m_park_fell, .ref m_park_name])), (m_x, .inl (cy 1, 20, .inl m_xf))]) hP hD rfl
                            have hP := hPD.1
                            have hD := hPD.2
                            refine lv_istore (lv' := [(6, .int r_47), (5, .int i_35), (4, .int i_22), (3, .int i_37), (2, .int x_1), (0, .ref h0), (1, .int p1)]) hx hb dX13_comes_101 hl (by decide) rfl (fun ls hl => ?_)
                            refine lv_iload hx hb dX13_comes_103 (lv_at hl 0 rfl) ?_
                            refine lv_bipush (v := -2) hx hb dX13_comes_105 (by decide) ?_
                            refine lv_icmp_eq (tgt := 164) hx hb dX13_comes_107 (by decide) (fun h_50 => ?_) (fun h_50 => ?_)
                            · have h_50 : r_47.toInt = (-2) := c_eq h_50
                              obtain ⟨x_51, ex_51⟩ : ∃ y : Int32, y = i_35 + 1 := ⟨_, rfl⟩
                              have tx_51 : x_51.toInt = i_35.toInt + 1 := ti_add (A := i_35.toInt) (B := 1) ex_51 rfl rfl (by omega) (by omega)
                              refine lv_iinc (v := x_51) (lv' := [(5, .int x_51), (6, .int r_47), (4, .int i_22), (3, .int i_37), (2, .int x_1), (0, .ref h0), (1, .int p1)]) hx hb dX13_comes_164 hl (k := 1) rfl (by rw [ex_51]; rfl) (by decide) rfl (fun ls hl => ?_)
                              refine lv_goto (tgt := 73) hx hb dX13_comes_167 (by decide) ?_
                              exact ihlp_34 x_51 i_37 f_39 _ _ _ (by omega) (by omega) b_40 (show sm f_39 20 + i_37.toInt ≤ sm f_18 20 by omega) (show 5 - x_51.toInt ≤ (nlp_34 : Int) by omega) (hP.sub [0, 1, 5, 2, 3, 4] rfl) (hD.sub [0, 1, 5, 2, 3, 4] (by decide) rfl) hS (lv_sub hl [0, 2, 3, 4, 5, 6] rfl)
                            · have h_50 : r_47.toInt ≠ (-2) := c_ne h_50
                              refine lv_aload_n hx hb dX13_comes_110 rfl (lv_at hl 5 rfl) ?_
                              refine r_get X kcX13 (ci := 12) rfl hP 3 rfl 23 (by decide) fX13_33 rfl dX13_comes_111 ?_
                              refine lv_iload hx hb dX13_comes_114 (lv_at hl 2 rfl) ?_
                              refine va_iald (D := (dC, dI)) (cl := vwCl) hx hb hK hP 2 1 rfl rfl (i := i_22) (vin (by omega) (by omega)) dX13_comes_116 ?_
                              refine lv_topi (fun x_52 ex_52 => ?_)
                              have qx_52 : x_44 = x_52 := ex_44.trans ex_52.symm
                              subst qx_52
                              refine lv_iload hx hb dX13_comes_117 (lv_at hl 0 rfl) ?_
                              refine lv_iadd hx hb dX13_comes_119 ?_
                              refine lv_topi (fun x_53 ex_53 => ?_)
                              have tx_53 : x_53.toInt = x_44.toInt + r_47.toInt := ti_add (A := x_44.toInt) (B := r_47.toInt) ex_53 rfl rfl (by omega) (by omega)
                              refine lv_aload_n hx hb dX13_comes_120 rfl (lv_at hl 5 rfl) ?_
                              refine r_get X kcX13 (ci := 12) rfl hP 3 rfl 23 (by decide) fX13_33 rfl dX13_comes_121 ?_
                              refine lv_aload_n hx hb dX13_comes_124 rfl (lv_at hl 5 rfl) ?_
                              refine lv_iload hx hb dX13_comes_125 (lv_at hl 2 rfl) ?_
                              refine lv_iload hx hb dX13_comes_127 (lv_at hl 1 rfl) ?_
                              refine sl_Ic (rV_I (As := [.int i_22, .int i_35]) (rest := [.ref m_far, .int x_53]) X hp_st (fun _ _ _ h => h) (sX13_onto l dC dI cy h0 m_thrown m_trouble m_where m_park m_read m_tape m_taped m_size m_spot m_sort m_place m_letters m_number m_fault m_wrongAt m_word m_v m_x m_past m_kept m_acts m_images m_left m_far m_line m_fitsNow m_ditchIn m_treadLeft m_rambledTo m_rambledFalls m_rambledIn m_park_wide m_park_deep m_park_errs m_park_slips m_park_rows m_park_walkers m_park_walks m_park_unsures m_park_sort m_park_unsure m_park_kind m_park_at m_park_to m_park_from m_park_steps m_park_fell m_park_name i_22 i_35 hm_taped hm_size hm_spot hm_place hm_acts hm_images hm_park_wide hm_park_deep hm_park_rows hm_park_walkers hm_park_walks hm_park_unsures (by first | decide | omega) (by omega)) kX13_onto vX13_onto mX13_280 hP hD hS hA [3, 4] (by decide) rfl 0 (ci := 12) rfl rfl rfl hl rfl rfl (Nat.le_of_ble_eq_true rfl) dX13_comes_129 ⟨(Nat.le_of_ble_eq_true rfl), (Nat.le_of_ble_eq_true rfl)⟩ ⟨(Nat.le_of_ble_eq_true rfl), (Nat.le_of_ble_eq_true rfl)⟩) hP hD hS hA [3, 4] [true, true, true, false, false, true] rfl rfl rfl (fun r_54 u_56 H locs k_55 hP hD hS => ?_)
                              have k_55 : ((-2) ≤ r_54.toInt ∧ r_54.toInt ≤ 19) ∧ (r_54.toInt = onF m_park_wide.toInt m_park_deep.toInt i_22.toInt i_35.toInt) ∧ (r_54.toInt = -2 ∨ (0 ≤ r_54.toInt ∧ r_54.toInt < (m_park_wide.toInt * m_park_deep.toInt))) := k_55
                              obtain ⟨k_55_0, k_55_1, k_55_2⟩ := k_55
                              have hPD := vPD (ws' := [(m_park_kind, .inl (cy 1, 4, .inl m_park_kindf)), (m_v, .inl (cy 1, 32, .inl m_vf)), (m_far, .inl (cy 1, 20, .inl f_39)), (m_x, .inl (cy 1, 20, .inl m_xf)), (h0, .inr (12, [.int m_thrown, .int m_trouble, .int m_where, .ref m_park, m_read, .ref m_tape, .int m_taped, .int m_size, .int m_spot, .int m_sort, .int m_place, .int m_letters, .int m_number, .int m_fault, .int m_wrongAt, .long m_word, .ref m_v, .ref m_x, .ref m_past, .ref m_kept, .int m_acts, .int m_images, .ref m_left, .ref m_far, .ref m_line, .int m_fitsNow, .ref m_ditchIn, .int m_treadLeft, .int m_rambledTo, .int m_rambledFalls, .int m_rambledIn])), (m_park, .inr (11, [.int m_park_wide, .int m_park_deep, .int m_park_errs, .int m_park_slips, .int m_park_rows, .int m_park_walkers, .int m_park_walks, .int m_park_unsures, .ref m_park_sort, .ref m_park_unsure, .ref m_park_kind, .ref m_park_at, .ref m_park_to, .ref m_park_from, .ref m_park_steps, .ref m_park_fell, .ref m_park_name]))]) hP hD rfl
                              have hP := hPD.1
                              have hD := hPD.2
                              have kf_57 : r_54.toInt = onF m_park_wide.toInt m_park_deep.toInt i_22.toInt i_35.toInt := by assumption
                              refine va_iald (D := (dC, dI)) (cl := vwCl) hx hb hK hP 2 1 rfl rfl (i := r_54) (vin (by omega) (by omega)) dX13_comes_132 ?_
                              refine lv_topi (fun x_58 ex_58 => ?_)
                              have bx_58 : 0 ≤ x_58.toInt ∧ x_58.toInt ≤ 9999999 := rb_at b_40 ex_58 (by omega) (by omega)
                              have gx_58 : (f_39 (onF m_park_wide.toInt m_park_deep.toInt i_22.toInt i_35.toInt).toNat).toInt = x_58.toInt := rd_at ex_58 kf_57
                              refine lv_icmp_lt (tgt := 139) hx hb dX13_comes_133 (by decide) (fun h_59 => ?_) (fun h_59 => ?_)
                              · have h_59 : x_53.toInt < x_58.toInt := c_lt h_59
                                refine lv_aload_n hx hb dX13_comes_139 rfl (lv_at hl 5 rfl) ?_
                                refine r_get X kcX13 (ci := 12) rfl hP 4 rfl 23 (by decide) fX13_33 rfl dX13_comes_140 ?_
                                refine lv_aload_n hx hb dX13_comes_143 rfl (lv_at hl 5 rfl) ?_
                                refine lv_iload hx hb dX13_comes_144 (lv_at hl 2 rfl) ?_
                                refine lv_iload hx hb dX13_comes_146 (lv_at hl 1 rfl) ?_
                                refine sl_Ic (rV_I (As := [.int i_22, .int i_35]) (rest := [.ref m_far]) X hp_st (fun _ _ _ h => h) (sX13_onto l dC dI cy h0 m_thrown m_trouble m_where m_park m_read m_tape m_taped m_size m_spot m_sort m_place m_letters m_number m_fault m_wrongAt m_word m_v m_x m_past m_kept m_acts m_images m_left m_far m_line m_fitsNow m_ditchIn m_treadLeft m_rambledTo m_rambledFalls m_rambledIn m_park_wide m_park_deep m_park_errs m_park_slips m_park_rows m_park_walkers m_park_walks m_park_unsures m_park_sort m_park_unsure m_park_kind m_park_at m_park_to m_park_from m_park_steps m_park_fell m_park_name i_22 i_35 hm_taped hm_size hm_spot hm_place hm_acts hm_images hm_park_wide hm_park_deep hm_park_rows hm_park_walkers hm_park_walks hm_park_unsures (by first | decide | omega) (by omega)) kX13_onto vX13_onto mX13_280 hP hD hS hA [4, 5] (by decide) rfl 0 (ci := 12) rfl rfl rfl hl rfl rfl (Nat.le_of_ble_eq_true rfl) dX13_comes_148 ⟨(Nat.le_of_ble_eq_true rfl), (Nat.le_of_ble_eq_true rfl)⟩ ⟨(Nat.le_of_ble_eq_true rfl), (Nat.le_of_ble_eq_true rfl)⟩) hP hD hS hA [4, 5] [true, true, true, true, false, false] rfl rfl rfl (fun r_60 u_62 H locs k_61 hP hD hS => ?_)
                                have k_61 : ((-2) ≤ r_60.toInt ∧ r_60.toInt ≤ 19) ∧ (r_60.toInt = onF m_park_wide.toInt m_park_deep.toInt i_22.toInt i_35.toInt) ∧ (r_60.toInt = -2 ∨ (0 ≤ r_60.toInt ∧ r_60.toInt < (m_park_wide.toInt * m_park_deep.toInt))) := k_61
                                obtain ⟨k_61_0, k_61_1, k_61_2⟩ := k_61
                                have hPD := vPD (ws' := [(m_park_kind, .inl (cy 1, 4, .inl m_park_kindf)), (m_v, .inl (cy 1, 32, .inl m_vf)), (m_far, .inl (cy 1, 20, .inl f_39)), (m_x, .inl (cy 1, 20, .inl m_xf)), (h0, .inr (12, [.int m_thrown, .int m_trouble, .int m_where, .ref m_park, m_read, .ref m_tape, .int m_taped, .int m_size, .int m_spot, .int m_sort, .int m_place, .int m_letters, .int m_number, .int m_fault, .int m_wrongAt, .long m_word, .ref m_v, .ref m_x, .ref m_past, .ref m_kept, .int m_acts, .int m_images, .ref m_left, .ref m_far, .ref m_line, .int m_fitsNow, .ref m_ditchIn, .int m_treadLeft, .int m_rambledTo, .int m_rambledFalls, .int m_rambledIn])), (m_park, .inr (11, [.int m_park_wide, .int m_park_deep, .int m_park_errs, .int m_park_slips, .int m_park_rows, .int m_park_walkers, .int m_park_walks, .int m_park_unsures, .ref m_park_sort, .ref m_park_unsure, .ref m_park_kind, .ref m_park_at, .ref m_park_to, .ref m_park_from, .ref m_park_steps, .ref m_park_fell, .ref m_park_name]))]) hP hD rfl
                                have hP := hPD.1
                                have hD := hPD.2
                                have kf_63 : r_60.toInt = onF m_park_wide.toInt m_park_deep.toInt i_22.toInt i_35.toInt := by assumption
                                refine lv_aload_n hx hb dX13_comes_151 rfl (lv_at hl 5 rfl) ?_
                                refine r_get X kcX13 (ci := 12) rfl hP 4 rfl 23 (by decide) fX13_33 rfl dX13_comes_152 ?_
                                refine lv_iload hx hb dX13_comes_155 (lv_at hl 2 rfl) ?_
                                refine va_iald (D := (dC, dI)) (cl := vwCl) hx hb hK hP 2 1 rfl rfl (i := i_22) (vin (by omega) (by omega)) dX13_comes_157 ?_
                                refine lv_topi (fun x_64 ex_64 => ?_)
                                have qx_64 : x_44 = x_64 := ex_44.trans ex_64.symm
                                subst qx_64
                                refine lv_iload hx hb dX13_comes_158 (lv_at hl 0 rfl) ?_
                                refine lv_iadd hx hb dX13_comes_160 ?_
                                refine lv_topi (fun x_65 ex_65 => ?_)
                                have tx_65 : x_65.toInt = x_44.toInt + r_47.toInt := ti_add (A := x_44.toInt) (B := r_47.toInt) ex_65 rfl rfl (by omega) (by omega)
                                refine va_iast (D := (dC, dI)) (cl := vwCl) hx hb hK hP hD hS 2 1 rfl rfl (i := r_60) (vin (by omega) (by omega)) dX13_comes_161 (fun H locs hP hD hS => ?_)
                                generalize ef_66 : upd f_39 (Int32.toNatClampNeg r_60) x_65 = f_66 at hP hD
                                have bf_66 : rb f_66 20 0 9999999 := by rw [← ef_66]; exact rb_upd b_40 (by omega) (by omega)
                                have hPD := vPD (ws' := [(m_park_kind, .inl (cy 1, 4, .inl m_park_kindf)), (m_v, .inl (cy 1, 32, .inl m_vf)), (m_far, .inl (cy 1, 20, .inl f_66)), (m_x, .inl (cy 1, 20, .inl m_xf)), (h0, .inr (12, [.int m_thrown, .int m_trouble, .int m_where, .ref m_park, m_read, .ref m_tape, .int m_taped, .int m_size, .int m_spot, .int m_sort, .int m_place, .int m_letters, .int m_number, .int m_fault, .int m_wrongAt, .long m_word, .ref m_v, .ref m_x, .ref m_past, .ref m_kept, .int m_acts, .int m_images, .ref m_left, .ref m_far, .ref m_line, .int m_fitsNow, .ref m_ditchIn, .int m_treadLeft, .int m_rambledTo, .int m_rambledFalls, .int m_rambledIn])), (m_park, .inr (11, [.int m_park_wide, .int m_park_deep, .int m_park_errs, .int m_park_slips, .int m_park_rows, .int m_park_walkers, .int m_park_walks, .int m_park_unsures, .ref m_park_sort, .ref m_park_unsure, .ref m_park_kind, .ref m_park_at, .ref m_park_to, .ref m_park_from, .ref m_park_steps, .ref m_park_fell, .ref m_park_name]))]) hP hD rfl
                                have hP := hPD.1
                                have hD := hPD.2
                                refine lv_iconst (v := 1) hx hb dX13_comes_162 (by decide) ?_
                                refine lv_istore_n (lv' := [(3, .int 1), (6, .int r_47), (5, .int i_35), (4, .int i_22), (2, .int x_1), (0, .ref h0), (1, .int p1)]) hx hb dX13_comes_163 rfl hl (by decide) rfl (fun ls hl => ?_)
                                obtain ⟨x_67, ex_67⟩ : ∃ y : Int32, y = i_35 + 1 := ⟨_, rfl⟩
                                have tx_67 : x_67.toInt = i_35.toInt + 1 := ti_add (A := i_35.toInt) (B := 1) ex_67 rfl rfl (by omega) (by omega)
                                refine lv_iinc (v := x_67) (lv' := [(5, .int x_67), (3, .int 1), (6, .int r_47), (4, .int i_22), (2, .int x_1), (0, .ref h0), (1, .int p1)]) hx hb dX13_comes_164 hl (k := 2) rfl (by rw [ex_67]; rfl) (by decide) rfl (fun ls hl => ?_)
                                refine lv_goto (tgt := 73) hx hb dX13_comes_167 (by decide) ?_
                                have hon9 : (f_39 r_60.toInt.toNat).toInt = (f_39 (onF m_park_wide.toInt m_park_deep.toInt i_22.toInt i_35.toInt).toNat).toInt := by rw [kf_63]
                                have hsl := sm_lt (f := f_39) (i := r_60) (v := x_65) (by omega) (by omega) (by omega)
                                rw [ef_66] at hsl
                                exact ihlp_34 x_67 1 f_66 _ _ _ (by omega) (by decide) bf_66 (show sm f_66 20 + 1 ≤ sm f_18 20 by omega) (show 5 - x_67.toInt ≤ (nlp_34 : Int) by omega) (hP.sub [0, 1, 3, 2, 4, 5] rfl) (hD.sub [0, 1, 3, 2, 4, 5] (by decide) rfl) hS (lv_sub hl [0, 3, 1, 4, 5, 6] rfl)
                              · have h_59 : x_58.toInt ≤ x_53.toInt := c_nlt h_59
                                refine lv_goto (tgt := 164) hx hb dX13_comes_136 (by decide) ?_
                                obtain ⟨x_68, ex_68⟩ : ∃ y : Int32, y = i_35 + 1 := ⟨_, rfl⟩
                                have tx_68 : x_68.toInt = i_35.toInt + 1 := ti_add (A := i_35.toInt) (B := 1) ex_68 rfl rfl (by omega) (by omega)
                                refine lv_iinc (v := x_68) (lv' := [(5, .int x_68), (6, .int r_47), (4, .int i_22), (3, .int i_37), (2, .int x_1), (0, .ref h0), (1, .int p1)]) hx hb dX13_comes_164 hl (k := 1) rfl (by rw [ex_68]; rfl) (by decide) rfl (fun ls hl => ?_)
                                refine lv_goto (tgt := 73) hx hb dX13_comes_167 (by decide) ?_
                                exact ihlp_34 x_68 i_37 f_39 _ _ _ (by omega) (by omega) b_40 (show sm f_39 20 + i_37.toInt ≤ sm f_18 20 by omega) (show 5 - x_68.toInt ≤ (nlp_34 : Int) by omega) (hP.sub [0, 1, 3, 2, 4, 5] rfl) (hD.sub [0, 1, 3, 2, 4, 5] (by decide) rfl) hS (lv_sub hl [0, 2, 3, 4, 5, 6] rfl)
                    exact lp_34 5 0 i_24 f_26 _ _ _ (by decide) (by omega) b_27 (show sm f_26 20 + i_24.toInt ≤ sm f_18 20 by omega) (show 5 - 0 ≤ ((5 : Nat) : Int) by omega) hP hD hS hl
              exact lp_21 21 0 0 f_18 _ _ _ (by decide) (by decide) b_19 (show 0 ≤ (m_park_wide.toInt * m_park_deep.toInt) by omega) (show sm f_18 20 + 0 ≤ sm f_18 20 by omega) (show 21 - 0 ≤ ((21 : Nat) : Int) by omega) hP hD hS hl
        exact lp_15 200000002 1 f_14 _ _ _ (by decide) bf_14 (show sm f_14 20 + 1 + 1 ≤ ((200000002 : Nat) : Int) by omega) hP hD hS hl
      · have h_11 : i_3.toInt < r_8.toInt := c_nle h_11
        refine lv_aload_n hx hb dX13_comes_20 rfl (lv_at hl 2 rfl) ?_
        refine r_get X kcX13 (ci := 12) rfl hP 4 rfl 23 (by decide) fX13_33 rfl dX13_comes_21 ?_
        refine lv_iload_n hx hb dX13_comes_24 rfl (lv_at hl 0 rfl) ?_
        refine lv_ldcw (v := 9999999) hx hb X.2.2.2.1 (X.2.2.2.2.1 _ w_1715) dX13_comes_25 ?_
        refine va_iast (D := (dC, dI)) (cl := vwCl) hx hb hK hP hD hS 3 1 rfl rfl (i := i_3) (vin (by omega) (by omega)) dX13_comes_28 (fun H locs hP hD hS => ?_)
        generalize ef_69 : upd f_5 (Int32.toNatClampNeg i_3) 9999999 = f_69 at hP hD
        have bf_69 : rb f_69 20 0 9999999 := by rw [← ef_69]; exact rb_upd b_6 (by decide) (by decide)
        have hPD := vPD (ws' := [(m_park_kind, .inl (cy 1, 4, .inl m_park_kindf)), (m_v, .inl (cy 1, 32, .inl m_vf)), (m_x, .inl (cy 1, 20, .inl m_xf)), (m_far, .inl (cy 1, 20, .inl f_69)), (h0, .inr (12, [.int m_thrown, .int m_trouble, .int m_where, .ref m_park, m_read, .ref m_tape, .int m_taped, .int m_size, .int m_spot, .int m_sort, .int m_place, .int m_letters, .int m_number, .int m_fault, .int m_wrongAt, .long m_word, .ref m_v, .ref m_x, .ref m_past, .ref m_kept, .int m_acts, .int m_images, .ref m_left, .ref m_far, .ref m_line, .int m_fitsNow, .ref m_ditchIn, .int m_treadLeft, .int m_rambledTo, .int m_rambledFalls, .int m_rambledIn])), (m_park, .inr (11, [.int m_park_wide, .int m_park_deep, .int m_park_errs, .int m_park_slips, .int m_park_rows, .int m_park_walkers, .int m_park_walks, .int m_park_unsures, .ref m_park_sort, .ref m_park_unsure, .ref m_park_kind, .ref m_park_at, .ref m_park_to, .ref m_park_from, .ref m_park_steps, .ref m_park_fell, .ref m_park_name]))]) hP hD rfl
        have hP := hPD.1
        have hD := hPD.2
        obtain ⟨x_70, ex_70⟩ : ∃ y : Int32, y = i_3 + 1 := ⟨_, rfl⟩
        have tx_70 : x_70.toInt = i_3.toInt + 1 := ti_add (A := i_3.toInt) (B := 1) ex_70 rfl rfl (by omega) (by omega)
        refine lv_iinc (v := x_70) (lv' := [(3, .int x_70), (2, .int x_1), (0, .ref h0), (1, .int p1)]) hx hb dX13_comes_29 hl (k := 0) rfl (by rw [ex_70]; rfl) (by decide) rfl (fun ls hl => ?_)
        refine lv_goto (tgt := 12) hx hb dX13_comes_32 (by decide) ?_
        exact ihlp_2 x_70 f_69 _ _ _ (by omega) bf_69 (show x_70.toInt ≤ (m_park_wide.toInt * m_park_deep.toInt) by omega) (show 21 - x_70.toInt ≤ (nlp_2 : Int) by omega) (hP.sub [4, 5, 0, 1, 2, 3] rfl) (hD.sub [4, 5, 0, 1, 2, 3] (by decide) rfl) hS (lv_sub hl [0, 1, 2, 3] rfl)
  exact lp_2 21 0 m_farf _ _ _ (by decide) hm_farf (show 0 ≤ (m_park_wide.toInt * m_park_deep.toInt) by omega) (show 21 - 0 ≤ ((21 : Nat) : Int) by omega) hP hD hS hl
set_option maxHeartbeats 4000000 in
set_option maxRecDepth 100000 in
theorem sX13_way (l : Launch) (dC : Nat → ClassId) (dI : Nat → Nat → Nat) (cy : Nat → ClassId) (h0 : Nat) (m_thrown : Int32) (m_trouble : Int32) (m_where : Int32) (m_park : Nat) (m_read : Value) (m_tape : Nat) (m_taped : Int32) (m_size : Int32) (m_spot : Int32) (m_sort : Int32) (m_place : Int32) (m_letters : Int32) (m_number : Int32) (m_fault : Int32) (m_wrongAt : Int32) (m_word : Int64) (m_v : Nat) (m_x : Nat) (m_past : Nat) (m_kept : Nat) (m_acts : Int32) (m_images : Int32) (m_left : Nat) (m_far : Nat) (m_line : Nat) (m_fitsNow : Int32) (m_ditchIn : Nat) (m_treadLeft : Int32) (m_rambledTo : Int32) (m_rambledFalls : Int32) (m_rambledIn : Int32) (m_park_wide : Int32) (m_park_deep : Int32) (m_park_errs : Int32) (m_park_slips : Int32) (m_park_rows : Int32) (m_park_walkers : Int32) (m_park_walks : Int32) (m_park_unsures : Int32) (m_park_sort : Nat) (m_park_unsure : Nat) (m_park_kind : Nat) (m_park_at : Nat) (m_park_to : Nat) (m_park_from : Nat) (m_park_steps : Nat) (m_park_fell : Nat) (m_park_name : Nat) (m_park_kindf : Nat → Int32) (m_park_tof : Nat → Int32) (m_vf : Nat → Int32) (m_xf : Nat → Int32) (m_leftf : Nat → Int32) (p1 : Int32) (p2 : Int32) (hm_taped : 0 ≤ m_taped.toInt ∧ m_taped.toInt ≤ 800) (hm_size : 0 ≤ m_size.toInt ∧ m_size.toInt ≤ 800) (hm_spot : 0 ≤ m_spot.toInt ∧ m_spot.toInt ≤ 800) (hm_place : 0 ≤ m_place.toInt ∧ m_place.toInt ≤ 800) (hm_acts : 0 ≤ m_acts.toInt ∧ m_acts.toInt ≤ 16) (hm_images : 0 ≤ m_images.toInt ∧ m_images.toInt ≤ 3) (hm_park_wide : 2 ≤ m_park_wide.toInt ∧ m_park_wide.toInt ≤ 5) (hm_park_deep : 2 ≤ m_park_deep.toInt ∧ m_park_deep.toInt ≤ 4) (hm_park_rows : 0 ≤ m_park_rows.toInt ∧ m_park_rows.toInt ≤ 4) (hm_park_walkers : 0 ≤ m_park_walkers.toInt ∧ m_park_walkers.toInt ≤ 4) (hm_park_walks : 0 ≤ m_park_walks.toInt ∧ m_park_walks.toInt ≤ 6) (hm_park_unsures : 0 ≤ m_park_unsures.toInt ∧ m_park_unsures.toInt ≤ 5) (hm_park_tof : rb m_park_tof 4 0 19) (hm_leftf : rb m_leftf 20 0 9999999) (hvI : rI m_vf 1 (m_park_wide.toInt * m_park_deep.toInt)) (hp1 : 0 ≤ p1.toInt ∧ p1.toInt ≤ 3) : ctI l dC dI cy hp yX13_way cX13_way 3 .int ({ frames := 5, cells := 0, slots := 0, locals := 120 } : Room) [.ref h0, .int p1, .int p2] [(h0, .inr (12, [.int m_thrown, .int m_trouble, .int m_where, .ref m_park, m_read, .ref m_tape, .int m_taped, .int m_size, .int m_spot, .int m_sort, .int m_place, .int m_letters, .int m_number, .int m_fault, .int m_wrongAt, .long m_word, .ref m_v, .ref m_x, .ref m_past, .ref m_kept, .int m_acts, .int m_images, .ref m_left, .ref m_far, .ref m_line, .int m_fitsNow, .ref m_ditchIn, .int m_treadLeft, .int m_rambledTo, .int m_rambledFalls, .int m_rambledIn])), (m_park, .inr (11, [.int m_park_wide, .int m_park_deep, .int m_park_errs, .int m_park_slips, .int m_park_rows, .int m_park_walkers, .int m_park_walks, .int m_park_unsures, .ref m_park_sort, .ref m_park_unsure, .ref m_park_kind, .ref m_park_at, .ref m_park_to, .ref m_park_from, .ref m_park_steps, .ref m_park_fell, .ref m_park_name])), (m_park_kind, .inl (cy 1, 4, .inl m_park_kindf)), (m_park_to, .inl (cy 1, 4, .inl m_park_tof)), (m_v, .inl (cy 1, 32, .inl m_vf)), (m_x, .inl (cy 1, 20, .inl m_xf)), (m_left, .inl (cy 1, 20, .inl m_leftf))] (S := (Nat → Int32)) (fun r u => (0 ≤ r.toInt ∧ r.toInt ≤ 9999999) ∧ (rb u 20 0 9999999) ∧ (stI m_park_wide.toInt m_park_deep.toInt m_xf (m_park_kindf (Int.toNat p1.toInt)).toInt p2.toInt u) ∧ (r.toInt = (u (Int.toNat (m_vf (Int.toNat (20 + p1.toInt))).toInt)).toInt)) (fun u => [(h0, .inr (12, [.int m_thrown, .int m_trouble, .int m_where, .ref m_park, m_read, .ref m_tape, .int m_taped, .int m_size, .int m_spot, .int m_sort, .int m_place, .int m_letters, .int m_number, .int m_fault, .int m_wrongAt, .long m_word, .ref m_v, .ref m_x, .ref m_past, .ref m_kept, .int m_acts, .int m_images, .ref m_left, .ref m_far, .ref m_line, .int m_fitsNow, .ref m_ditchIn, .int m_treadLeft, .int m_rambledTo, .int m_rambledFalls, .int m_rambledIn])), (m_park, .inr (11, [.int m_park_wide, .int m_park_deep, .int m_park_errs, .int m_park_slips, .int m_park_rows, .int m_park_walkers, .int m_park_walks, .int m_park_unsures, .ref m_park_sort, .ref m_park_unsure, .ref m_park_kind, .ref m_park_at, .ref m_park_to, .ref m_park_from, .ref m_park_steps, .ref m_park_fell, .ref m_park_name])), (m_park_kind, .inl (cy 1, 4, .inl m_park_kindf)), (m_park_to, .inl (cy 1, 4, .inl m_park_tof)), (m_v, .inl (cy 1, 32, .inl m_vf)), (m_x, .inl (cy 1, 20, .inl m_xf)), (m_left, .inl (cy 1, 20, .inl u))]) := by
  refine ctI.of (by decide +kernel) (Nat.le_of_ble_eq_true rfl) ?_
  intro p e s m args below meth c A ls Q hQ X hr hlocks hin hA hP hD hS hl
  have hx := X.1
  have hb := X.2.1
  have hK := X.2.2.2.2.2.1
  have hl : lv_has ls 3 [(0, .ref h0), (1, .int p1), (2, .int p2)] := hl
  have dy_1 := ti_bd p2
  have hpl : 4 ≤ (m_park_wide.toInt * m_park_deep.toInt) ∧ (m_park_wide.toInt * m_park_deep.toInt) ≤ 20 := pl_bd (by omega) (by omega) (by omega) (by omega)
  refine lv_aload_n hx hb dX13_way_0 rfl (lv_at hl 0 rfl) ?_
  refine lv_iload_n hx hb dX13_way_1 rfl (lv_at hl 1 rfl) ?_
  refine lv_iload_n hx hb dX13_way_2 rfl (lv_at hl 2 rfl) ?_
  refine sl_Vc (rV_V (As := [.int p1, .int p2]) (rest := []) X hp_st (fun _ _ _ h => h) (sX13_leaves l dC dI cy h0 m_thrown m_trouble m_where m_park m_read m_tape m_taped m_size m_spot m_sort m_place m_letters m_number m_fault m_wrongAt m_word m_v m_x m_past m_kept m_acts m_images m_left m_far m_line m_fitsNow m_ditchIn m_treadLeft m_rambledTo m_rambledFalls m_rambledIn m_park_wide m_park_deep m_park_errs m_park_slips m_park_rows m_park_walkers m_park_walks m_park_unsures m_park_sort m_park_unsure m_park_kind m_park_at m_park_to m_park_from m_park_steps m_park_fell m_park_name m_park_kindf m_park_tof m_xf m_leftf p1 p2 hm_taped hm_size hm_spot hm_place hm_acts hm_images hm_park_wide hm_park_deep hm_park_rows hm_park_walkers hm_park_walks hm_park_unsures hm_park_tof hm_leftf hp1) kX13_leaves vX13_leaves mX13_298 hP hD hS hA [0, 1, 2, 3, 5, 6] (by decide) rfl 0 (ci := 12) rfl rfl rfl hl rfl rfl (Nat.le_of_ble_eq_true rfl) dX13_way_3 ⟨(Nat.le_of_ble_eq_true rfl), (Nat.le_of_ble_eq_true rfl)⟩ ⟨(Nat.le_of_ble_eq_true rfl), (Nat.le_of_ble_eq_true rfl)⟩) hP hD hS hA [0, 1, 2, 3, 5, 6] [false, false, false, false, true, false, false] rfl rfl rfl (fun u_5 H locs k_4 hP hD hS => ?_)
  obtain ⟨m_leftf1_2, eu_5⟩ : ∃ z, z = u_5 := ⟨_, rfl⟩
  subst eu_5
  have k_4 : (rb m_leftf1_2 20 0 9999999) ∧ (stI m_park_wide.toInt m_park_deep.toInt m_xf (m_park_kindf (Int.toNat p1.toInt)).toInt p2.toInt m_leftf1_2) := k_4
  obtain ⟨k_4_0, k_4_1⟩ := k_4
  have hPD := vPD (ws' := [(m_v, .inl (cy 1, 32, .inl m_vf)), (h0, .inr (12, [.int m_thrown, .int m_trouble, .int m_where, .ref m_park, m_read, .ref m_tape, .int m_taped, .int m_size, .int m_spot, .int m_sort, .int m_place, .int m_letters, .int m_number, .int m_fault, .int m_wrongAt, .long m_word, .ref m_v, .ref m_x, .ref m_past, .ref m_kept, .int m_acts, .int m_images, .ref m_left, .ref m_far, .ref m_line, .int m_fitsNow, .ref m_ditchIn, .int m_treadLeft, .int m_rambledTo, .int m_rambledFalls, .int m_rambledIn])), (m_park, .inr (11, [.int m_park_wide, .int m_park_deep, .int m_park_errs, .int m_park_slips, .int m_park_rows, .int m_park_walkers, .int m_park_walks, .int m_park_unsures, .ref m_park_sort, .ref m_park_unsure, .ref m_park_kind, .ref m_park_at, .ref m_park_to, .ref m_park_from, .ref m_park_steps, .ref m_park_fell, .ref m_park_name])), (m_park_kind, .inl (cy 1, 4, .inl m_park_kindf)), (m_park_to, .inl (cy 1, 4, .inl m_park_tof)), (m_x, .inl (cy 1, 20, .inl m_xf)), (m_left, .inl (cy 1, 20, .inl m_leftf1_2))]) hP hD rfl
  have hP := hPD.1
  have hD := hPD.2
  refine lv_aload_n hx hb dX13_way_6 rfl (lv_at hl 0 rfl) ?_
  refine r_get X kcX13 (ci := 12) rfl hP 1 rfl 22 (by decide) fX13_30 rfl dX13_way_7 ?_
  refine lv_aload_n hx hb dX13_way_10 rfl (lv_at hl 0 rfl) ?_
  refine r_get X kcX13 (ci := 12) rfl hP 1 rfl 16 (by decide) fX13_17 rfl dX13_way_11 ?_
  refine lv_bipush (v := 20) hx hb dX13_way_14 (by decide) ?_
  refine lv_iload_n hx hb dX13_way_16 rfl (lv_at hl 1 rfl) ?_
  refine lv_iadd hx hb dX13_way_17 ?_
  refine lv_topi (fun x_6 ex_6 => ?_)
  have tx_6 : x_6.toInt = 20 + p1.toInt := ti_add (A := 20) (B := p1.toInt) ex_6 rfl rfl (by omega) (by omega)
  refine va_iald (D := (dC, dI)) (cl := vwCl) hx hb hK hP 0 1 rfl rfl (i := x_6) (vin (by omega) (by omega)) dX13_way_18 ?_
  refine lv_topi (fun x_7 ex_7 => ?_)
  have bx_7 : 0 ≤ x_7.toInt ∧ x_7.toInt < (m_park_wide.toInt * m_park_deep.toInt) := rI_at (by assumption) ex_7 (by omega) (by omega)
  have gx_7 : (m_vf (Int.toNat (20 + p1.toInt))).toInt = x_7.toInt := rd_at ex_7 (by omega)
  refine va_iald (D := (dC, dI)) (cl := vwCl) hx hb hK hP 6 1 rfl rfl (i := x_7) (vin (by omega) (by omega)) dX13_way_19 ?_
  refine lv_topi (fun x_8 ex_8 => ?_)
  have bx_8 : 0 ≤ x_8.toInt ∧ x_8.toInt ≤ 9999999 := rb_at k_4_0 ex_8 (by omega) (by omega)
  have gx_8 : (m_leftf1_2 (x_7.toInt).toNat).toInt = x_8.toInt := rd_at ex_8 rfl
  exact eI hQ X hr hlocks hP hD hS m_leftf1_2 [1, 2, 3, 4, 0, 5, 6] (by decide) rfl rfl (show (0 ≤ x_8.toInt ∧ x_8.toInt ≤ 9999999) ∧ (rb m_leftf1_2 20 0 9999999) ∧ (stI m_park_wide.toInt m_park_deep.toInt m_xf (m_park_kindf (Int.toNat p1.toInt)).toInt p2.toInt m_leftf1_2) ∧ (x_8.toInt = (m_leftf1_2 (Int.toNat (m_vf (Int.toNat (20 + p1.toInt))).toInt)).toInt) from ⟨(by omega), k_4_0, k_4_1, (by rw [gx_7]; exact gx_8.symm)⟩) (Nat.le_of_ble_eq_true rfl) (Nat.le_of_ble_eq_true rfl) dX13_way_20
set_option maxHeartbeats 4000000 in
set_option maxRecDepth 100000 in
theorem sX13_stepFrom (l : Launch) (dC : Nat → ClassId) (dI : Nat → Nat → Nat) (cy : Nat → ClassId) (h0 : Nat) (m_thrown : Int32) (m_trouble : Int32) (m_where : Int32) (m_park : Nat) (m_read : Value) (m_tape : Nat) (m_taped : Int32) (m_size : Int32) (m_spot : Int32) (m_sort : Int32) (m_place : Int32) (m_letters : Int32) (m_number : Int32) (m_fault : Int32) (m_wrongAt : Int32) (m_word : Int64) (m_v : Nat) (m_x : Nat) (m_past : Nat) (m_kept : Nat) (m_acts : Int32) (m_images : Int32) (m_left : Nat) (m_far : Nat) (m_line : Nat) (m_fitsNow : Int32) (m_ditchIn : Nat) (m_treadLeft : Int32) (m_rambledTo : Int32) (m_rambledFalls : Int32) (m_rambledIn : Int32) (m_park_wide : Int32) (m_park_deep : Int32) (m_park_errs : Int32) (m_park_slips : Int32) (m_park_rows : Int32) (m_park_walkers : Int32) (m_park_walks : Int32) (m_park_unsures : Int32) (m_park_sort : Nat) (m_park_unsure : Nat) (m_park_kind : Nat) (m_park_at : Nat) (m_park_to : Nat) (m_park_from : Nat) (m_park_steps : Nat) (m_park_fell : Nat) (m_park_name : Nat) (m_park_kindf : Nat → Int32) (m_xf : Nat → Int32) (m_leftf : Nat → Int32) (p1 : Int32) (p2 : Int32) (p3 : Int32) (hm_taped : 0 ≤ m_taped.toInt ∧ m_taped.toInt ≤ 800) (hm_size : 0 ≤ m_size.toInt ∧ m_size.toInt ≤ 800) (hm_spot : 0 ≤ m_spot.toInt ∧ m_spot.toInt ≤ 800) (hm_place : 0 ≤ m_place.toInt ∧ m_place.toInt ≤ 800) (hm_acts : 0 ≤ m_acts.toInt ∧ m_acts.toInt ≤ 16) (hm_images : 0 ≤ m_images.toInt ∧ m_images.toInt ≤ 3) (hm_park_wide : 2 ≤ m_park_wide.toInt ∧ m_park_wide.toInt ≤ 5) (hm_park_deep : 2 ≤ m_park_deep.toInt ∧ m_park_deep.toInt ≤ 4) (hm_park_rows : 0 ≤ m_park_rows.toInt ∧ m_park_rows.toInt ≤ 4) (hm_park_walkers : 0 ≤ m_park_walkers.toInt ∧ m_park_walkers.toInt ≤ 4) (hm_park_walks : 0 ≤ m_park_walks.toInt ∧ m_park_walks.toInt ≤ 6) (hm_park_unsures : 0 ≤ m_park_unsures.toInt ∧ m_park_unsures.toInt ≤ 5) (hm_leftf : rb m_leftf 20 0 9999999) (hp1 : 0 ≤ p1.toInt ∧ p1.toInt ≤ 3) (hp2 : 0 ≤ p2.toInt ∧ p2.toInt ≤ 19) (hc9 : 0 ≤ p2.toInt ∧ p2.toInt < (m_park_wide.toInt * m_park_deep.toInt)) (hst : stI m_park_wide.toInt m_park_deep.toInt m_xf (m_park_kindf (Int.toNat p1.toInt)).toInt p3.toInt m_leftf) (hsg : 0 < (m_leftf (Int.toNat p2.toInt)).toInt) (hsf : (m_leftf (Int.toNat p2.toInt)).toInt ≠ 9999999) : ctI l dC dI cy hp yX13_stepFrom cX13_stepFrom 6 .int ({ frames := 4, cells := 0, slots := 0, locals := 93 } : Room) [.ref h0, .int p1, .int p2, .int p3] [(h0, .inr (12, [.int m_thrown, .int m_trouble, .int m_where, .ref m_park, m_read, .ref m_tape, .int m_taped, .int m_size, .int m_spot, .int m_sort, .int m_place, .int m_letters, .int m_number, .int m_fault, .int m_wrongAt, .long m_word, .ref m_v, .ref m_x, .ref m_past, .ref m_kept, .int m_acts, .int m_images, .ref m_left, .ref m_far, .ref m_line, .int m_fitsNow, .ref m_ditchIn, .int m_treadLeft, .int m_rambledTo, .int m_rambledFalls, .int m_rambledIn])), (m_park, .inr (11, [.int m_park_wide, .int m_park_deep, .int m_park_errs, .int m_park_slips, .int m_park_rows, .int m_park_walkers, .int m_park_walks, .int m_park_unsures, .ref m_park_sort, .ref m_park_unsure, .ref m_park_kind, .ref m_park_at, .ref m_park_to, .ref m_park_from, .ref m_park_steps, .ref m_park_fell, .ref m_park_name])), (m_park_kind, .inl (cy 1, 4, .inl m_park_kindf)), (m_x, .inl (cy 1, 20, .inl m_xf)), (m_left, .inl (cy 1, 20, .inl m_leftf))] (S := Unit) (fun r _ => (0 ≤ r.toInt ∧ r.toInt ≤ 3) ∧ (laF m_park_wide.toInt m_park_deep.toInt m_xf (m_park_kindf (Int.toNat p1.toInt)).toInt p2.toInt r.toInt ≠ -2) ∧ ((m_leftf (Int.toNat (onF m_park_wide.toInt m_park_deep.toInt p2.toInt r.toInt))).toInt ≠ 9999999) ∧ (weF m_park_wide.toInt m_park_deep.toInt m_xf (m_park_kindf (Int.toNat p1.toInt)).toInt p2.toInt r.toInt p3.toInt + (m_leftf (Int.toNat (onF m_park_wide.toInt m_park_deep.toInt p2.toInt r.toInt))).toInt = (m_leftf (Int.toNat p2.toInt)).toInt)) (fun _ => [(h0, .inr (12, [.int m_thrown, .int m_trouble, .int m_where, .ref m_park, m_read, .ref m_tape, .int m_taped, .int m_size, .int m_spot, .int m_sort, .int m_place, .int m_letters, .int m_number, .int m_fault, .int m_wrongAt, .long m_word, .ref m_v, .ref m_x, .ref m_past, .ref m_kept, .int m_acts, .int m_images, .ref m_left, .ref m_far, .ref m_line, .int m_fitsNow, .ref m_ditchIn, .int m_treadLeft, .int m_rambledTo, .int m_rambledFalls, .int m_rambledIn])), (m_park, .inr (11, [.int m_park_wide, .int m_park_deep, .int m_park_errs, .int m_park_slips, .int m_park_rows, .int m_park_walkers, .int m_park_walks, .int m_park_unsures, .ref m_park_sort, .ref m_park_unsure, .ref m_park_kind, .ref m_park_at, .ref m_park_to, .ref m_park_from, .ref m_park_steps, .ref m_park_fell, .ref m_park_name])), (m_park_kind, .inl (cy 1, 4, .inl m_park_kindf)), (m_x, .inl (cy 1, 20, .inl m_xf)), (m_left, .inl (cy 1, 20, .inl m_leftf))]) := by
  refine ctI.of (by decide +kernel) (Nat.le_of_ble_eq_true rfl) ?_
  intro p e s m args below meth c A ls Q hQ X hr hlocks hin hA hP hD hS hl
  have hx := X.1
  have hb := X.2.1
  have hK := X.2.2.2.2.2.1
  have hl : lv_has ls 6 [(0, .ref h0), (1, .int p1), (2, .int p2), (3, .int p3)] := hl
  have dy_1 := ti_bd p3
  have hpl : 4 ≤ (m_park_wide.toInt * m_park_deep.toInt) ∧ (m_park_wide.toInt * m_park_deep.toInt) ≤ 20 := pl_bd (by omega) (by omega) (by omega) (by omega)
  refine lv_aload_n hx hb dX13_stepFrom_0 rfl (lv_at hl 0 rfl) ?_
  refine r_get X kcX13 (ci := 12) rfl hP 0 rfl 3 (by decide) fX13_269 rfl dX13_stepFrom_1 ?_
  refine r_get X kcX12 (ci := 11) rfl hP 1 rfl 10 (by decide) fX13_238 rfl dX13_stepFrom_4 ?_
  refine lv_iload_n hx hb dX13_stepFrom_7 rfl (lv_at hl 1 rfl) ?_
  refine va_iald (D := (dC, dI)) (cl := vwCl) hx hb hK hP 2 1 rfl rfl (i := p1) (vin (by omega) (by omega)) dX13_stepFrom_8 ?_
  refine lv_topi (fun x_2 ex_2 => ?_)
  have gx_2 : (m_park_kindf (p1.toInt).toNat).toInt = x_2.toInt := rd_at ex_2 rfl
  refine lv_istore (lv' := [(4, .int x_2), (0, .ref h0), (1, .int p1), (2, .int p2), (3, .int p3)]) hx hb dX13_stepFrom_9 hl (by decide) rfl (fun ls hl => ?_)
  rw [gx_2] at hst
  obtain ⟨s0, hs0, hs4, hsl, hsf, hse⟩ := hst p2.toInt (by omega) (by omega) (by omega) (by omega)
  refine lv_iconst (v := 0) hx hb dX13_stepFrom_11 (by decide) ?_
  refine lv_istore (lv' := [(5, .int 0), (4, .int x_2), (0, .ref h0), (1, .int p1), (2, .int p2), (3, .int p3)]) hx hb dX13_stepFrom_12 hl (by decide) rfl (fun ls hl => ?_)
  have lp_3 : ∀ (nlp_3 : Nat) (i_4 : Int32) (H : Heap) (locs : List Loc) (ls : Array Slot), (0 ≤ i_4.toInt ∧ i_4.toInt ≤ 3) → (i_4.toInt ≤ s0) → (4 - i_4.toInt ≤ (nlp_3 : Int)) → va_P (dC, dI) vwCl [(h0, .inr (12, [.int m_thrown, .int m_trouble, .int m_where, .ref m_park, m_read, .ref m_tape, .int m_taped, .int m_size, .int m_spot, .int m_sort, .int m_place, .int m_letters, .int m_number, .int m_fault, .int m_wrongAt, .long m_word, .ref m_v, .ref m_x, .ref m_past, .ref m_kept, .int m_acts, .int m_images, .ref m_left, .ref m_far, .ref m_line, .int m_fitsNow, .ref m_ditchIn, .int m_treadLeft, .int m_rambledTo, .int m_rambledFalls, .int m_rambledIn])), (m_park, .inr (11, [.int m_park_wide, .int m_park_deep, .int m_park_errs, .int m_park_slips, .int m_park_rows, .int m_park_walkers, .int m_park_walks, .int m_park_unsures, .ref m_park_sort, .ref m_park_unsure, .ref m_park_kind, .ref m_park_at, .ref m_park_to, .ref m_park_from, .ref m_park_steps, .ref m_park_fell, .ref m_park_name])), (m_park_kind, .inl (cy 1, 4, .inl m_park_kindf)), (m_x, .inl (cy 1, 20, .inl m_xf)), (m_left, .inl (cy 1, 20, .inl m_leftf))] H → va_D A [(h0, .inr (12, [.int m_thrown, .int m_trouble, .int m_where, .ref m_park, m_read, .ref m_tape, .int m_taped, .int m_size, .int m_spot, .int m_sort, .int m_place, .int m_letters, .int m_number, .int m_fault, .int m_wrongAt, .long m_word, .ref m_v, .ref m_x, .ref m_past, .ref m_kept, .int m_acts, .int m_images, .ref m_left, .ref m_far, .ref m_line, .int m_fitsNow, .ref m_ditchIn, .int m_treadLeft, .int m_rambledTo, .int m_rambledFalls, .int m_rambledIn])), (m_park, .inr (11, [.int m_park_wide, .int m_park_deep, .int m_park_errs, .int m_park_slips, .int m_park_rows, .int m_park_walkers, .int m_park_walks, .int m_park_unsures, .ref m_park_sort, .ref m_park_unsure, .ref m_park_kind, .ref m_park_at, .ref m_park_to, .ref m_park_from, .ref m_park_steps, .ref m_park_fell, .ref m_park_name])), (m_park_kind, .inl (cy 1, 4, .inl m_park_kindf)), (m_x, .inl (cy 1, 20, .inl m_xf)), (m_left, .inl (cy 1, 20, .inl m_leftf))] → va_S A s.heap H locs → lv_has ls 6 [(5, .int i_4), (4, .int x_2), (0, .ref h0), (1, .int p1), (2, .int p2), (3, .int p3)] → W p l e ({ frames := 4, cells := 0, slots := 0, locals := 93 } : Room) s m args below meth c H locs 0 0 Q (F0 m 14 ls []) := by
    intro nlp_3
    induction nlp_3 with
    | zero =>
      intro i_4 H locs ls b_5 b_6 hmlp_3 hP hD hS hl
      exfalso
      have di_4 := ti_bd i_4
      omega
    | succ nlp_3 ihlp_3 =>
      intro i_4 H locs ls b_5 b_6 hmlp_3 hP hD hS hl
      refine lv_aload_n hx hb dX13_stepFrom_14 rfl (lv_at hl 2 rfl) ?_
      refine lv_iload hx hb dX13_stepFrom_15 (lv_at hl 1 rfl) ?_
      refine lv_iload_n hx hb dX13_stepFrom_17 rfl (lv_at hl 4 rfl) ?_
      refine lv_iload hx hb dX13_stepFrom_18 (lv_at hl 0 rfl) ?_
      refine sl_Ic (rV_I (As := [.int x_2, .int p2, .int i_4]) (rest := []) X hp_st (fun _ _ _ h => h) (sX13_lasts l dC dI cy h0 m_thrown m_trouble m_where m_park m_read m_tape m_taped m_size m_spot m_sort m_place m_letters m_number m_fault m_wrongAt m_word m_v m_x m_past m_kept m_acts m_images m_left m_far m_line m_fitsNow m_ditchIn m_treadLeft m_rambledTo m_rambledFalls m_rambledIn m_park_wide m_park_deep m_park_errs m_park_slips m_park_rows m_park_walkers m_park_walks m_park_unsures m_park_sort m_park_unsure m_park_kind m_park_at m_park_to m_park_from m_park_steps m_park_fell m_park_name m_xf x_2 p2 i_4 hm_taped hm_size hm_spot hm_place hm_acts hm_images hm_park_wide hm_park_deep hm_park_rows hm_park_walkers hm_park_walks hm_park_unsures hp2 hc9) kX13_lasts vX13_lasts mX13_289 hP hD hS hA [0, 1, 3] (by decide) rfl 0 (ci := 12) rfl rfl rfl hl rfl rfl (Nat.le_of_ble_eq_true rfl) dX13_stepFrom_20 ⟨(Nat.le_of_ble_eq_true rfl), (Nat.le_of_ble_eq_true rfl)⟩ ⟨(Nat.le_of_ble_eq_true rfl), (Nat.le_of_ble_eq_true rfl)⟩) hP hD hS hA [0, 1, 3] [false, false, true, false, true] rfl rfl rfl (fun r_7 u_9 H locs k_8 hP hD hS => ?_)
      have k_8 : ((-2) ≤ r_7.toInt ∧ r_7.toInt ≤ 4) ∧ (r_7.toInt = laF m_park_wide.toInt m_park_deep.toInt m_xf x_2.toInt p2.toInt i_4.toInt) ∧ (r_7.toInt = -2 ∨ 1 ≤ r_7.toInt) ∧ (r_7.toInt = -2 ∨ onF m_park_wide.toInt m_park_deep.toInt p2.toInt i_4.toInt ≠ -2) := k_8
      obtain ⟨k_8_0, k_8_1, k_8_2, k_8_3⟩ := k_8
      have hPD := vPD (ws' := [(m_park_kind, .inl (cy 1, 4, .inl m_park_kindf)), (m_left, .inl (cy 1, 20, .inl m_leftf)), (h0, .inr (12, [.int m_thrown, .int m_trouble, .int m_where, .ref m_park, m_read, .ref m_tape, .int m_taped, .int m_size, .int m_spot, .int m_sort, .int m_place, .int m_letters, .int m_number, .int m_fault, .int m_wrongAt, .long m_word, .ref m_v, .ref m_x, .ref m_past, .ref m_kept, .int m_acts, .int m_images, .ref m_left, .ref m_far, .ref m_line, .int m_fitsNow, .ref m_ditchIn, .int m_treadLeft, .int m_rambledTo, .int m_rambledFalls, .int m_rambledIn])), (m_park, .inr (11, [.int m_park_wide, .int m_park_deep, .int m_park_errs, .int m_park_slips, .int m_park_rows, .int m_park_walkers, .int m_park_walks, .int m_park_unsures, .ref m_park_sort, .ref m_park_unsure, .ref m_park_kind, .ref m_park_at, .ref m_park_to, .ref m_park_from, .ref m_park_steps, .ref m_park_fell, .ref m_park_name])), (m_x, .inl (cy 1, 20, .inl m_xf))]) hP hD rfl
      have hP := hPD.1
      have hD := hPD.2
      refine lv_bipush (v := -2) hx hb dX13_stepFrom_23 (by decide) ?_
      refine lv_icmp_eq (tgt := 78) hx hb dX13_stepFrom_25 (by decide) (fun h_10 => ?_) (fun h_10 => ?_)
      · have h_10 : r_7.toInt = (-2) := c_eq h_10
        obtain ⟨x_11, ex_11⟩ : ∃ y : Int32, y = i_4 + 1 := ⟨_, rfl⟩
        have tx_11 : x_11.toInt = i_4.toInt + 1 := ti_add (A := i_4.toInt) (B := 1) ex_11 rfl rfl (by omega) (by omega)
        refine lv_iinc (v := x_11) (lv' := [(5, .int x_11), (4, .int x_2), (0, .ref h0), (1, .int p1), (2, .int p2), (3, .int p3)]) hx hb dX13_stepFrom_78 hl (k := 0) rfl (by rw [ex_11]; rfl) (by decide) rfl (fun ls hl => ?_)
        refine lv_goto (tgt := 14) hx hb dX13_stepFrom_81 (by decide) ?_
        have hlt : i_4.toInt + 1 ≤ s0 := by
          rcases Int.lt_or_eq_of_le b_6 with h9 | h9
          · omega
          · exfalso; subst h9; omega
        exact ihlp_3 x_11 _ _ _ (by omega) (show x_11.toInt ≤ s0 from (by omega)) (show 4 - x_11.toInt ≤ (nlp_3 : Int) by omega) (hP.sub [2, 3, 0, 4, 1] rfl) (hD.sub [2, 3, 0, 4, 1] (by decide) rfl) hS (lv_sub hl [0, 1, 2, 3, 4, 5] rfl)
      · have h_10 : r_7.toInt ≠ (-2) := c_ne h_10
        refine lv_aload_n hx hb dX13_stepFrom_28 rfl (lv_at hl 2 rfl) ?_
        refine r_get X kcX13 (ci := 12) rfl hP 2 rfl 22 (by decide) fX13_30 rfl dX13_stepFrom_29 ?_
        refine lv_aload_n hx hb dX13_stepFrom_32 rfl (lv_at hl 2 rfl) ?_
        refine lv_iload_n hx hb dX13_stepFrom_33 rfl (lv_at hl 4 rfl) ?_
        refine lv_iload hx hb dX13_stepFrom_34 (lv_at hl 0 rfl) ?_
        refine sl_Ic (rV_I (As := [.int p2, .int i_4]) (rest := [.ref m_left]) X hp_st (fun _ _ _ h => h) (sX13_onto l dC dI cy h0 m_thrown m_trouble m_where m_park m_read m_tape m_taped m_size m_spot m_sort m_place m_letters m_number m_fault m_wrongAt m_word m_v m_x m_past m_kept m_acts m_images m_left m_far m_line m_fitsNow m_ditchIn m_treadLeft m_rambledTo m_rambledFalls m_rambledIn m_park_wide m_park_deep m_park_errs m_park_slips m_park_rows m_park_walkers m_park_walks m_park_unsures m_park_sort m_park_unsure m_park_kind m_park_at m_park_to m_park_from m_park_steps m_park_fell m_park_name p2 i_4 hm_taped hm_size hm_spot hm_place hm_acts hm_images hm_park_wide hm_park_deep hm_park_rows hm_park_walkers hm_park_walks hm_park_unsures hp2 hc9) kX13_onto vX13_onto mX13_280 hP hD hS hA [2, 3] (by decide) rfl 0 (ci := 12) rfl rfl rfl hl rfl rfl (Nat.le_of_ble_eq_true rfl) dX13_stepFrom_36 ⟨(Nat.le_of_ble_eq_true rfl), (Nat.le_of_ble_eq_true rfl)⟩ ⟨(Nat.le_of_ble_eq_true rfl), (Nat.le_of_ble_eq_true rfl)⟩) hP hD hS hA [2, 3] [true, true, false, false, true] rfl rfl rfl (fun r_12 u_14 H locs k_13 hP hD hS => ?_)
        have k_13 : ((-2) ≤ r_12.toInt ∧ r_12.toInt ≤ 19) ∧ (r_12.toInt = onF m_park_wide.toInt m_park_deep.toInt p2.toInt i_4.toInt) ∧ (r_12.toInt = -2 ∨ (0 ≤ r_12.toInt ∧ r_12.toInt < (m_park_wide.toInt * m_park_deep.toInt))) := k_13
        obtain ⟨k_13_0, k_13_1, k_13_2⟩ := k_13
        have hPD := vPD (ws' := [(m_park_kind, .inl (cy 1, 4, .inl m_park_kindf)), (m_left, .inl (cy 1, 20, .inl m_leftf)), (m_x, .inl (cy 1, 20, .inl m_xf)), (h0, .inr (12, [.int m_thrown, .int m_trouble, .int m_where, .ref m_park, m_read, .ref m_tape, .int m_taped, .int m_size, .int m_spot, .int m_sort, .int m_place, .int m_letters, .int m_number, .int m_fault, .int m_wrongAt, .long m_word, .ref m_v, .ref m_x, .ref m_past, .ref m_kept, .int m_acts, .int m_images, .ref m_left, .ref m_far, .ref m_line, .int m_fitsNow, .ref m_ditchIn, .int m_treadLeft, .int m_rambledTo, .int m_rambledFalls, .int m_rambledIn])), (m_park, .inr (11, [.int m_park_wide, .int m_park_deep, .int m_park_errs, .int m_park_slips, .int m_park_rows, .int m_park_walkers, .int m_park_walks, .int m_park_unsures, .ref m_park_sort, .ref m_park_unsure, .ref m_park_kind, .ref m_park_at, .ref m_park_to, .ref m_park_from, .ref m_park_steps, .ref m_park_fell, .ref m_park_name]))]) hP hD rfl
        have hP := hPD.1
        have hD := hPD.2
        have kf_15 : r_12.toInt = onF m_park_wide.toInt m_park_deep.toInt p2.toInt i_4.toInt := by assumption
        refine va_iald (D := (dC, dI)) (cl := vwCl) hx hb hK hP 1 1 rfl rfl (i := r_12) (vin (by omega) (by omega)) dX13_stepFrom_39 ?_
        refine lv_topi (fun x_16 ex_16 => ?_)
        have bx_16 : 0 ≤ x_16.toInt ∧ x_16.toInt ≤ 9999999 := rb_at hm_leftf ex_16 (by omega) (by omega)
        have gx_16 : (m_leftf (onF m_park_wide.toInt m_park_deep.toInt p2.toInt i_4.toInt).toNat).toInt = x_16.toInt := rd_at ex_16 kf_15
        refine lv_ldcw (v := 9999999) hx hb X.2.2.2.1 (X.2.2.2.2.1 _ w_1715) dX13_stepFrom_40 ?_
        refine lv_icmp_eq (tgt := 78) hx hb dX13_stepFrom_43 (by decide) (fun h_17 => ?_) (fun h_17 => ?_)
        · have h_17 : x_16.toInt = 9999999 := c_eq h_17
          obtain ⟨x_18, ex_18⟩ : ∃ y : Int32, y = i_4 + 1 := ⟨_, rfl⟩
          have tx_18 : x_18.toInt = i_4.toInt + 1 := ti_add (A := i_4.toInt) (B := 1) ex_18 rfl rfl (by omega) (by omega)
          refine lv_iinc (v := x_18) (lv' := [(5, .int x_18), (4, .int x_2), (0, .ref h0), (1, .int p1), (2, .int p2), (3, .int p3)]) hx hb dX13_stepFrom_78 hl (k := 0) rfl (by rw [ex_18]; rfl) (by decide) rfl (fun ls hl => ?_)
          refine lv_goto (tgt := 14) hx hb dX13_stepFrom_81 (by decide) ?_
          have hlt : i_4.toInt + 1 ≤ s0 := by
            rcases Int.lt_or_eq_of_le b_6 with h9 | h9
            · omega
            · exfalso; subst h9; omega
          exact ihlp_3 x_18 _ _ _ (by omega) (show x_18.toInt ≤ s0 from (by omega)) (show 4 - x_18.toInt ≤ (nlp_3 : Int) by omega) (hP.sub [3, 4, 0, 2, 1] rfl) (hD.sub [3, 4, 0, 2, 1] (by decide) rfl) hS (lv_sub hl [0, 1, 2, 3, 4, 5] rfl)
        · have h_17 : x_16.toInt ≠ 9999999 := c_ne h_17
          refine lv_aload_n hx hb dX13_stepFrom_46 rfl (lv_at hl 2 rfl) ?_
          refine lv_iload hx hb dX13_stepFrom_47 (lv_at hl 1 rfl) ?_
          refine lv_iload_n hx hb dX13_stepFrom_49 rfl (lv_at hl 4 rfl) ?_
          refine lv_iload hx hb dX13_stepFrom_50 (lv_at hl 0 rfl) ?_
          refine lv_iload_n hx hb dX13_stepFrom_52 rfl (lv_at hl 5 rfl) ?_
          refine sl_Ic (rV_I (As := [.int x_2, .int p2, .int i_4, .int p3]) (rest := []) X hp_st (fun _ _ _ h => h) (sX13_weighs l dC dI cy h0 m_thrown m_trouble m_where m_park m_read m_tape m_taped m_size m_spot m_sort m_place m_letters m_number m_fault m_wrongAt m_word m_v m_x m_past m_kept m_acts m_images m_left m_far m_line m_fitsNow m_ditchIn m_treadLeft m_rambledTo m_rambledFalls m_rambledIn m_park_wide m_park_deep m_park_errs m_park_slips m_park_rows m_park_walkers m_park_walks m_park_unsures m_park_sort m_park_unsure m_park_kind m_park_at m_park_to m_park_from m_park_steps m_park_fell m_park_name m_xf x_2 p2 i_4 p3 hm_taped hm_size hm_spot hm_place hm_acts hm_images hm_park_wide hm_park_deep hm_park_rows hm_park_walkers hm_park_walks hm_park_unsures hp2 hc9 (by omega)) kX13_weighs vX13_weighs mX13_294 hP hD hS hA [3, 4, 2] (by decide) rfl 0 (ci := 12) rfl rfl rfl hl rfl rfl (Nat.le_of_ble_eq_true rfl) dX13_stepFrom_53 ⟨(Nat.le_of_ble_eq_true rfl), (Nat.le_of_ble_eq_true rfl)⟩ ⟨(Nat.le_of_ble_eq_true rfl), (Nat.le_of_ble_eq_true rfl)⟩) hP hD hS hA [3, 4, 2] [true, true, false, false, false] rfl rfl rfl (fun r_19 u_21 H locs k_20 hP hD hS => ?_)
          have k_20 : (1 ≤ r_19.toInt ∧ r_19.toInt ≤ 4001) ∧ (r_19.toInt = weF m_park_wide.toInt m_park_deep.toInt m_xf x_2.toInt p2.toInt i_4.toInt p3.toInt) := k_20
          obtain ⟨k_20_0, k_20_1⟩ := k_20
          have hPD := vPD (ws' := [(m_park_kind, .inl (cy 1, 4, .inl m_park_kindf)), (m_left, .inl (cy 1, 20, .inl m_leftf)), (h0, .inr (12, [.int m_thrown, .int m_trouble, .int m_where, .ref m_park, m_read, .ref m_tape, .int m_taped, .int m_size, .int m_spot, .int m_sort, .int m_place, .int m_letters, .int m_number, .int m_fault, .int m_wrongAt, .long m_word, .ref m_v, .ref m_x, .ref m_past, .ref m_kept, .int m_acts, .int m_images, .ref m_left, .ref m_far, .ref m_line, .int m_fitsNow, .ref m_ditchIn, .int m_treadLeft, .int m_rambledTo, .int m_rambledFalls, .int m_rambledIn])), (m_park, .inr (11, [.int m_park_wide, .int m_park_deep, .int m_park_errs, .int m_park_slips, .int m_park_rows, .int m_park_walkers, .int m_park_walks, .int m_park_unsures, .ref m_park_sort, .ref m_park_unsure, .ref m_park_kind, .ref m_park_at, .ref m_park_to, .ref m_park_from, .ref m_park_steps, .ref m_park_fell, .ref m_park_name])), (m_x, .inl (cy 1, 20, .inl m_xf))]) hP hD rfl
          have hP := hPD.1
          have hD := hPD.2
          refine lv_aload_n hx hb dX13_stepFrom_56 rfl (lv_at hl 2 rfl) ?_
          refine r_get X kcX13 (ci := 12) rfl hP 2 rfl 22 (by decide) fX13_30 rfl dX13_stepFrom_57 ?_
          refine lv_aload_n hx hb dX13_stepFrom_60 rfl (lv_at hl 2 rfl) ?_
          refine lv_iload_n hx hb dX13_stepFrom_61 rfl (lv_at hl 4 rfl) ?_
          refine lv_iload hx hb dX13_stepFrom_62 (lv_at hl 0 rfl) ?_
          refine sl_Ic (rV_I (As := [.int p2, .int i_4]) (rest := [.ref m_left, .int r_19]) X hp_st (fun _ _ _ h => h) (sX13_onto l dC dI cy h0 m_thrown m_trouble m_where m_park m_read m_tape m_taped m_size m_spot m_sort m_place m_letters m_number m_fault m_wrongAt m_word m_v m_x m_past m_kept m_acts m_images m_left m_far m_line m_fitsNow m_ditchIn m_treadLeft m_rambledTo m_rambledFalls m_rambledIn m_park_wide m_park_deep m_park_errs m_park_slips m_park_rows m_park_walkers m_park_walks m_park_unsures m_park_sort m_park_unsure m_park_kind m_park_at m_park_to m_park_from m_park_steps m_park_fell m_park_name p2 i_4 hm_taped hm_size hm_spot hm_place hm_acts hm_images hm_park_wide hm_park_deep hm_park_rows hm_park_walkers hm_park_walks hm_park_unsures hp2 hc9) kX13_onto vX13_onto mX13_280 hP hD hS hA [2, 3] (by decide) rfl 0 (ci := 12) rfl rfl rfl hl rfl rfl (Nat.le_of_ble_eq_true rfl) dX13_stepFrom_64 ⟨(Nat.le_of_ble_eq_true rfl), (Nat.le_of_ble_eq_true rfl)⟩ ⟨(Nat.le_of_ble_eq_true rfl), (Nat.le_of_ble_eq_true rfl)⟩) hP hD hS hA [2, 3] [true, true, false, false, true] rfl rfl rfl (fun r_22 u_24 H locs k_23 hP hD hS => ?_)
          have k_23 : ((-2) ≤ r_22.toInt ∧ r_22.toInt ≤ 19) ∧ (r_22.toInt = onF m_park_wide.toInt m_park_deep.toInt p2.toInt i_4.toInt) ∧ (r_22.toInt = -2 ∨ (0 ≤ r_22.toInt ∧ r_22.toInt < (m_park_wide.toInt * m_park_deep.toInt))) := k_23
          obtain ⟨k_23_0, k_23_1, k_23_2⟩ := k_23
          have hPD := vPD (ws' := [(m_park_kind, .inl (cy 1, 4, .inl m_park_kindf)), (m_left, .inl (cy 1, 20, .inl m_leftf)), (m_x, .inl (cy 1, 20, .inl m_xf)), (h0, .inr (12, [.int m_thrown, .int m_trouble, .int m_where, .ref m_park, m_read, .ref m_tape, .int m_taped, .int m_size, .int m_spot, .int m_sort, .int m_place, .int m_letters, .int m_number, .int m_fault, .int m_wrongAt, .long m_word, .ref m_v, .ref m_x, .ref m_past, .ref m_kept, .int m_acts, .int m_images, .ref m_left, .ref m_far, .ref m_line, .int m_fitsNow, .ref m_ditchIn, .int m_treadLeft, .int m_rambledTo, .int m_rambledFalls, .int m_rambledIn])), (m_park, .inr (11, [.int m_park_wide, .int m_park_deep, .int m_park_errs, .int m_park_slips, .int m_park_rows, .int m_park_walkers, .int m_park_walks, .int m_park_unsures, .ref m_park_sort, .ref m_park_unsure, .ref m_park_kind, .ref m_park_at, .ref m_park_to, .ref m_park_from, .ref m_park_steps, .ref m_park_fell, .ref m_park_name]))]) hP hD rfl
          have hP := hPD.1
          have hD := hPD.2
          have kf_25 : r_22.toInt = onF m_park_wide.toInt m_park_deep.toInt p2.toInt i_4.toInt := by assumption
          refine va_iald (D := (dC, dI)) (cl := vwCl) hx hb hK hP 1 1 rfl rfl (i := r_22) (vin (by omega) (by omega)) dX13_stepFrom_67 ?_
          refine lv_topi (fun x_26 ex_26 => ?_)
          have bx_26 : 0 ≤ x_26.toInt ∧ x_26.toInt ≤ 9999999 := rb_at hm_leftf ex_26 (by omega) (by omega)
          have gx_26 : (m_leftf (onF m_park_wide.toInt m_park_deep.toInt p2.toInt i_4.toInt).toNat).toInt = x_26.toInt := rd_at ex_26 kf_25
          refine lv_iadd hx hb dX13_stepFrom_68 ?_
          refine lv_topi (fun x_27 ex_27 => ?_)
          have tx_27 : x_27.toInt = r_19.toInt + x_26.toInt := ti_add (A := r_19.toInt) (B := x_26.toInt) ex_27 rfl rfl (by omega) (by omega)
          refine lv_aload_n hx hb dX13_stepFrom_69 rfl (lv_at hl 2 rfl) ?_
          refine r_get X kcX13 (ci := 12) rfl hP 3 rfl 22 (by decide) fX13_30 rfl dX13_stepFrom_70 ?_
          refine lv_iload_n hx hb dX13_stepFrom_73 rfl (lv_at hl 4 rfl) ?_
          refine va_iald (D := (dC, dI)) (cl := vwCl) hx hb hK hP 1 1 rfl rfl (i := p2) (vin (by omega) (by omega)) dX13_stepFrom_74 ?_
          refine lv_topi (fun x_28 ex_28 => ?_)
          have bx_28 : 0 ≤ x_28.toInt ∧ x_28.toInt ≤ 9999999 := rb_at hm_leftf ex_28 (by omega) (by omega)
          have gx_28 : (m_leftf (p2.toInt).toNat).toInt = x_28.toInt := rd_at ex_28 rfl
          refine lv_icmp_eq (tgt := 84) hx hb dX13_stepFrom_75 (by decide) (fun h_29 => ?_) (fun h_29 => ?_)
          · have h_29 : x_27.toInt = x_28.toInt := c_eq h_29
            refine lv_iload hx hb dX13_stepFrom_84 (lv_at hl 0 rfl) ?_
            exact eI hQ X hr hlocks hP hD hS () [3, 4, 0, 2, 1] (by decide) rfl rfl (show (0 ≤ i_4.toInt ∧ i_4.toInt ≤ 3) ∧ (laF m_park_wide.toInt m_park_deep.toInt m_xf (m_park_kindf (Int.toNat p1.toInt)).toInt p2.toInt i_4.toInt ≠ -2) ∧ ((m_leftf (Int.toNat (onF m_park_wide.toInt m_park_deep.toInt p2.toInt i_4.toInt))).toInt ≠ 9999999) ∧ (weF m_park_wide.toInt m_park_deep.toInt m_xf (m_park_kindf (Int.toNat p1.toInt)).toInt p2.toInt i_4.toInt p3.toInt + (m_leftf (Int.toNat (onF m_park_wide.toInt m_park_deep.toInt p2.toInt i_4.toInt))).toInt = (m_leftf (Int.toNat p2.toInt)).toInt) from ⟨b_5, (by rw [gx_2]; omega), (by omega), (by rw [gx_2]; omega)⟩) (Nat.le_of_ble_eq_true rfl) (Nat.le_of_ble_eq_true rfl) dX13_stepFrom_86
          · have h_29 : x_27.toInt ≠ x_28.toInt := c_ne h_29
            obtain ⟨x_30, ex_30⟩ : ∃ y : Int32, y = i_4 + 1 := ⟨_, rfl⟩
            have tx_30 : x_30.toInt = i_4.toInt + 1 := ti_add (A := i_4.toInt) (B := 1) ex_30 rfl rfl (by omega) (by omega)
            refine lv_iinc (v := x_30) (lv' := [(5, .int x_30), (4, .int x_2), (0, .ref h0), (1, .int p1), (2, .int p2), (3, .int p3)]) hx hb dX13_stepFrom_78 hl (k := 0) rfl (by rw [ex_30]; rfl) (by decide) rfl (fun ls hl => ?_)
            refine lv_goto (tgt := 14) hx hb dX13_stepFrom_81 (by decide) ?_
            have hlt : i_4.toInt + 1 ≤ s0 := by
              rcases Int.lt_or_eq_of_le b_6 with h9 | h9
              · omega
              · exfalso; subst h9; omega
            exact ihlp_3 x_30 _ _ _ (by omega) (show x_30.toInt ≤ s0 from (by omega)) (show 4 - x_30.toInt ≤ (nlp_3 : Int) by omega) (hP.sub [3, 4, 0, 2, 1] rfl) (hD.sub [3, 4, 0, 2, 1] (by decide) rfl) hS (lv_sub hl [0, 1, 2, 3, 4, 5] rfl)
  exact lp_3 4 0 _ _ _ (by decide) (show 0 ≤ s0 from hs0) (show 4 - 0 ≤ ((4 : Nat) : Int) by omega) hP hD hS hl
set_option maxHeartbeats 4000000 in
set_option maxRecDepth 100000 in
theorem sX13_lines (l : Launch) (dC : Nat → ClassId) (dI : Nat → Nat → Nat) (cy : Nat → ClassId) (h0 : Nat) (m_thrown : Int32) (m_trouble : Int32) (m_where : Int32) (m_park : Nat) (m_read : Value) (m_tape : Nat) (m_taped : Int32) (m_size : Int32) (m_spot : Int32) (m_sort : Int32) (m_place : Int32) (m_letters : Int32) (m_number : Int32) (m_fault : Int32) (m_wrongAt : Int32) (m_word : Int64) (m_v : Nat) (m_x : Nat) (m_past : Nat) (m_kept : Nat) (m_acts : Int32) (m_images : Int32) (m_left : Nat) (m_far : Nat) (m_line : Nat) (m_fitsNow : Int32) (m_ditchIn : Nat) (m_treadLeft : Int32) (m_rambledTo : Int32) (m_rambledFalls : Int32) (m_rambledIn : Int32) (m_park_wide : Int32) (m_park_deep : Int32) (m_park_errs : Int32) (m_park_slips : Int32) (m_park_rows : Int32) (m_park_walkers : Int32) (m_park_walks : Int32) (m_park_unsures : Int32) (m_park_sort : Nat) (m_park_unsure : Nat) (m_park_kind : Nat) (m_park_at : Nat) (m_park_to : Nat) (m_park_from : Nat) (m_park_steps : Nat) (m_park_fell : Nat) (m_park_name : Nat) (m_park_kindf : Nat → Int32) (m_park_tof : Nat → Int32) (m_vf : Nat → Int32) (m_xf : Nat → Int32) (m_leftf : Nat → Int32) (m_linef : Nat → Int32) (p1 : Int32) (p2 : Int32) (hm_taped : 0 ≤ m_taped.toInt ∧ m_taped.toInt ≤ 800) (hm_size : 0 ≤ m_size.toInt ∧ m_size.toInt ≤ 800) (hm_spot : 0 ≤ m_spot.toInt ∧ m_spot.toInt ≤ 800) (hm_place : 0 ≤ m_place.toInt ∧ m_place.toInt ≤ 800) (hm_acts : 0 ≤ m_acts.toInt ∧ m_acts.toInt ≤ 16) (hm_images : 0 ≤ m_images.toInt ∧ m_images.toInt ≤ 3) (hm_park_wide : 2 ≤ m_park_wide.toInt ∧ m_park_wide.toInt ≤ 5) (hm_park_deep : 2 ≤ m_park_deep.toInt ∧ m_park_deep.toInt ≤ 4) (hm_park_rows : 0 ≤ m_park_rows.toInt ∧ m_park_rows.toInt ≤ 4) (hm_park_walkers : 0 ≤ m_park_walkers.toInt ∧ m_park_walkers.toInt ≤ 4) (hm_park_walks : 0 ≤ m_park_walks.toInt ∧ m_park_walks.toInt ≤ 6) (hm_park_unsures : 0 ≤ m_park_unsures.toInt ∧ m_park_unsures.toInt ≤ 5) (hm_park_tof : rb m_park_tof 4 0 19) (hm_leftf : rb m_leftf 20 0 9999999) (hvI : rI m_vf 1 (m_park_wide.toInt * m_park_deep.toInt)) (hp1 : 0 ≤ p1.toInt ∧ p1.toInt ≤ 3) (hp2 : 0 ≤ p2.toInt ∧ p2.toInt ≤ 1) : ctI l dC dI cy hp yX13_lines cX13_lines 7 .boolean ({ frames := 6, cells := 0, slots := 0, locals := 142 } : Room) [.ref h0, .int p1, .int p2] [(h0, .inr (12, [.int m_thrown, .int m_trouble, .int m_where, .ref m_park, m_read, .ref m_tape, .int m_taped, .int m_size, .int m_spot, .int m_sort, .int m_place, .int m_letters, .int m_number, .int m_fault, .int m_wrongAt, .long m_word, .ref m_v, .ref m_x, .ref m_past, .ref m_kept, .int m_acts, .int m_images, .ref m_left, .ref m_far, .ref m_line, .int m_fitsNow, .ref m_ditchIn, .int m_treadLeft, .int m_rambledTo, .int m_rambledFalls, .int m_rambledIn])), (m_park, .inr (11, [.int m_park_wide, .int m_park_deep, .int m_park_errs, .int m_park_slips, .int m_park_rows, .int m_park_walkers, .int m_park_walks, .int m_park_unsures, .ref m_park_sort, .ref m_park_unsure, .ref m_park_kind, .ref m_park_at, .ref m_park_to, .ref m_park_from, .ref m_park_steps, .ref m_park_fell, .ref m_park_name])), (m_park_kind, .inl (cy 1, 4, .inl m_park_kindf)), (m_park_to, .inl (cy 1, 4, .inl m_park_tof)), (m_v, .inl (cy 1, 32, .inl m_vf)), (m_x, .inl (cy 1, 20, .inl m_xf)), (m_left, .inl (cy 1, 20, .inl m_leftf)), (m_line, .inl (cy 1, 402, .inl m_linef))] (S := (Nat → Int32) × (Nat → Int32)) (fun r u => (0 ≤ r.toInt ∧ r.toInt ≤ 1) ∧ (rb u.1 20 0 9999999)) (fun u => [(h0, .inr (12, [.int m_thrown, .int m_trouble, .int m_where, .ref m_park, m_read, .ref m_tape, .int m_taped, .int m_size, .int m_spot, .int m_sort, .int m_place, .int m_letters, .int m_number, .int m_fault, .int m_wrongAt, .long m_word, .ref m_v, .ref m_x, .ref m_past, .ref m_kept, .int m_acts, .int m_images, .ref m_left, .ref m_far, .ref m_line, .int m_fitsNow, .ref m_ditchIn, .int m_treadLeft, .int m_rambledTo, .int m_rambledFalls, .int m_rambledIn])), (m_park, .inr (11, [.int m_park_wide, .int m_park_deep, .int m_park_errs, .int m_park_slips, .int m_park_rows, .int m_park_walkers, .int m_park_walks, .int m_park_unsures, .ref m_park_sort, .ref m_park_unsure, .ref m_park_kind, .ref m_park_at, .ref m_park_to, .ref m_park_from, .ref m_park_steps, .ref m_park_fell, .ref m_park_name])), (m_park_kind, .inl (cy 1, 4, .inl m_park_kindf)), (m_park_to, .inl (cy 1, 4, .inl m_park_tof)), (m_v, .inl (cy 1, 32, .inl m_vf)), (m_x, .inl (cy 1, 20, .inl m_xf)), (m_left, .inl (cy 1, 20, .inl u.1)), (m_line, .inl (cy 1, 402, .inl u.2))]) := by
  refine ctI.of (by decide +kernel) (Nat.le_of_ble_eq_true rfl) ?_
  intro p e s m args below meth c A ls Q hQ X hr hlocks hin hA hP hD hS hl
  have hx := X.1
  have hb := X.2.1
  have hK := X.2.2.2.2.2.1
  have hl : lv_has ls 7 [(0, .ref h0), (1, .int p1), (2, .int p2)] := hl
  have hpl : 4 ≤ (m_park_wide.toInt * m_park_deep.toInt) ∧ (m_park_wide.toInt * m_park_deep.toInt) ≤ 20 := pl_bd (by omega) (by omega) (by omega) (by omega)
  refine lv_aload_n hx hb dX13_lines_0 rfl (lv_at hl 0 rfl) ?_
  refine lv_iload_n hx hb dX13_lines_1 rfl (lv_at hl 1 rfl) ?_
  refine lv_iconst (v := 1) hx hb dX13_lines_2 (by decide) ?_
  refine sl_Ic (rV_I (As := [.int p1, .int 1]) (rest := []) X hp_st (fun _ _ _ h => h) (sX13_way l dC dI cy h0 m_thrown m_trouble m_where m_park m_read m_tape m_taped m_size m_spot m_sort m_place m_letters m_number m_fault m_wrongAt m_word m_v m_x m_past m_kept m_acts m_images m_left m_far m_line m_fitsNow m_ditchIn m_treadLeft m_rambledTo m_rambledFalls m_rambledIn m_park_wide m_park_deep m_park_errs m_park_slips m_park_rows m_park_walkers m_park_walks m_park_unsures m_park_sort m_park_unsure m_park_kind m_park_at m_park_to m_park_from m_park_steps m_park_fell m_park_name m_park_kindf m_park_tof m_vf m_xf m_leftf p1 1 hm_taped hm_size hm_spot hm_place hm_acts hm_images hm_park_wide hm_park_deep hm_park_rows hm_park_walkers hm_park_walks hm_park_unsures hm_park_tof hm_leftf hvI hp1) kX13_way vX13_way mX13_323 hP hD hS hA [0, 1, 2, 3, 4, 5, 6] (by decide) rfl 0 (ci := 12) rfl rfl rfl hl rfl rfl (Nat.le_of_ble_eq_true rfl) dX13_lines_3 ⟨(Nat.le_of_ble_eq_true rfl), (Nat.le_of_ble_eq_true rfl)⟩ ⟨(Nat.le_of_ble_eq_true rfl), (Nat.le_of_ble_eq_true rfl)⟩) hP hD hS hA [0, 1, 2, 3, 4, 5, 6] [false, false, false, false, false, false, false, true] rfl rfl rfl (fun r_2 u_4 H locs k_3 hP hD hS => ?_)
  obtain ⟨m_leftf1_1, eu_4⟩ : ∃ z, z = u_4 := ⟨_, rfl⟩
  subst eu_4
  have k_3 : (0 ≤ r_2.toInt ∧ r_2.toInt ≤ 9999999) ∧ (rb m_leftf1_1 20 0 9999999) ∧ (stI m_park_wide.toInt m_park_deep.toInt m_xf (m_park_kindf (Int.toNat p1.toInt)).toInt (1 : Int32).toInt m_leftf1_1) ∧ (r_2.toInt = (m_leftf1_1 (Int.toNat (m_vf (Int.toNat (20 + p1.toInt))).toInt)).toInt) := k_3
  have kc_5 : (1 : Int32).toInt = 1 := by decide
  obtain ⟨k_3_0, k_3_1, k_3_2, k_3_3⟩ := k_3
  have hPD := vPD (ws' := [(m_line, .inl (cy 1, 402, .inl m_linef)), (h0, .inr (12, [.int m_thrown, .int m_trouble, .int m_where, .ref m_park, m_read, .ref m_tape, .int m_taped, .int m_size, .int m_spot, .int m_sort, .int m_place, .int m_letters, .int m_number, .int m_fault, .int m_wrongAt, .long m_word, .ref m_v, .ref m_x, .ref m_past, .ref m_kept, .int m_acts, .int m_images, .ref m_left, .ref m_far, .ref m_line, .int m_fitsNow, .ref m_ditchIn, .int m_treadLeft, .int m_rambledTo, .int m_rambledFalls, .int m_rambledIn])), (m_park, .inr (11, [.int m_park_wide, .int m_park_deep, .int m_park_errs, .int m_park_slips, .int m_park_rows, .int m_park_walkers, .int m_park_walks, .int m_park_unsures, .ref m_park_sort, .ref m_park_unsure, .ref m_park_kind, .ref m_park_at, .ref m_park_to, .ref m_park_from, .ref m_park_steps, .ref m_park_fell, .ref m_park_name])), (m_park_kind, .inl (cy 1, 4, .inl m_park_kindf)), (m_park_to, .inl (cy 1, 4, .inl m_park_tof)), (m_v, .inl (cy 1, 32, .inl m_vf)), (m_x, .inl (cy 1, 20, .inl m_xf)), (m_left, .inl (cy 1, 20, .inl m_leftf1_1))]) hP hD rfl
  have hP := hPD.1
  have hD := hPD.2
  refine lv_ldcw (v := 9999999) hx hb X.2.2.2.1 (X.2.2.2.2.1 _ w_1715) dX13_lines_6 ?_
  refine lv_icmp_ne (tgt := 14) hx hb dX13_lines_9 (by decide) (fun h_6 => ?_) (fun h_6 => ?_)
  · have h_6 : r_2.toInt ≠ 9999999 := c_ne h_6
    refine lv_aload_n hx hb dX13_lines_14 rfl (lv_at hl 0 rfl) ?_
    refine r_get X kcX13 (ci := 12) rfl hP 1 rfl 16 (by decide) fX13_17 rfl dX13_lines_15 ?_
    refine lv_bipush (v := 20) hx hb dX13_lines_18 (by decide) ?_
    refine lv_iload_n hx hb dX13_lines_20 rfl (lv_at hl 1 rfl) ?_
    refine lv_iadd hx hb dX13_lines_21 ?_
    refine lv_topi (fun x_7 ex_7 => ?_)
    have tx_7 : x_7.toInt = 20 + p1.toInt := ti_add (A := 20) (B := p1.toInt) ex_7 rfl rfl (by omega) (by omega)
    refine va_iald (D := (dC, dI)) (cl := vwCl) hx hb hK hP 5 1 rfl rfl (i := x_7) (vin (by omega) (by omega)) dX13_lines_22 ?_
    refine lv_topi (fun x_8 ex_8 => ?_)
    have bx_8 : 0 ≤ x_8.toInt ∧ x_8.toInt < (m_park_wide.toInt * m_park_deep.toInt) := rI_at (by assumption) ex_8 (by omega) (by omega)
    have gv : (m_vf (Int.toNat (20 + p1.toInt))).toInt = x_8.toInt := rd_at ex_8 (by omega)
    rw [gv] at k_3_3
    refine lv_istore_n (lv' := [(3, .int x_8), (0, .ref h0), (1, .int p1), (2, .int p2)]) hx hb dX13_lines_23 rfl hl (by decide) rfl (fun ls hl => ?_)
    refine lv_iconst (v := 0) hx hb dX13_lines_24 (by decide) ?_
    refine lv_istore (lv' := [(4, .int 0), (3, .int x_8), (0, .ref h0), (1, .int p1), (2, .int p2)]) hx hb dX13_lines_25 hl (by decide) rfl (fun ls hl => ?_)
    have hcn := cn_bd m_leftf1_1 (m_leftf1_1 (Int.toNat x_8.toInt)).toInt 20
    have lp_9 : ∀ (nlp_9 : Nat) (i_10 : Int32) (i_12 : Int32) (f_14 : Nat → Int32) (H : Heap) (locs : List Loc) (ls : Array Slot), (0 ≤ i_10.toInt ∧ i_10.toInt ≤ 80) → (0 ≤ i_12.toInt ∧ i_12.toInt ≤ 19) → (i_12.toInt < (m_park_wide.toInt * m_park_deep.toInt)) → ((m_leftf1_1 (Int.toNat i_12.toInt)).toInt ≠ 9999999) → (i_10.toInt + 4 * cn m_leftf1_1 (m_leftf1_1 (Int.toNat i_12.toInt)).toInt 20 ≤ 80) → (cn m_leftf1_1 (m_leftf1_1 (Int.toNat i_12.toInt)).toInt 20 + 1 ≤ (nlp_9 : Int)) → va_P (dC, dI) vwCl [(m_line, .inl (cy 1, 402, .inl f_14)), (h0, .inr (12, [.int m_thrown, .int m_trouble, .int m_where, .ref m_park, m_read, .ref m_tape, .int m_taped, .int m_size, .int m_spot, .int m_sort, .int m_place, .int m_letters, .int m_number, .int m_fault, .int m_wrongAt, .long m_word, .ref m_v, .ref m_x, .ref m_past, .ref m_kept, .int m_acts, .int m_images, .ref m_left, .ref m_far, .ref m_line, .int m_fitsNow, .ref m_ditchIn, .int m_treadLeft, .int m_rambledTo, .int m_rambledFalls, .int m_rambledIn])), (m_park, .inr (11, [.int m_park_wide, .int m_park_deep, .int m_park_errs, .int m_park_slips, .int m_park_rows, .int m_park_walkers, .int m_park_walks, .int m_park_unsures, .ref m_park_sort, .ref m_park_unsure, .ref m_park_kind, .ref m_park_at, .ref m_park_to, .ref m_park_from, .ref m_park_steps, .ref m_park_fell, .ref m_park_name])), (m_park_kind, .inl (cy 1, 4, .inl m_park_kindf)), (m_park_to, .inl (cy 1, 4, .inl m_park_tof)), (m_v, .inl (cy 1, 32, .inl m_vf)), (m_x, .inl (cy 1, 20, .inl m_xf)), (m_left, .inl (cy 1, 20, .inl m_leftf1_1))] H → va_D A [(m_line, .inl (cy 1, 402, .inl f_14)), (h0, .inr (12, [.int m_thrown, .int m_trouble, .int m_where, .ref m_park, m_read, .ref m_tape, .int m_taped, .int m_size, .int m_spot, .int m_sort, .int m_place, .int m_letters, .int m_number, .int m_fault, .int m_wrongAt, .long m_word, .ref m_v, .ref m_x, .ref m_past, .ref m_kept, .int m_acts, .int m_images, .ref m_left, .ref m_far, .ref m_line, .int m_fitsNow, .ref m_ditchIn, .int m_treadLeft, .int m_rambledTo, .int m_rambledFalls, .int m_rambledIn])), (m_park, .inr (11, [.int m_park_wide, .int m_park_deep, .int m_park_errs, .int m_park_slips, .int m_park_rows, .int m_park_walkers, .int m_park_walks, .int m_park_unsures, .ref m_park_sort, .ref m_park_unsure, .ref m_park_kind, .ref m_park_at, .ref m_park_to, .ref m_park_from, .ref m_park_steps, .ref m_park_fell, .ref m_park_name])), (m_park_kind, .inl (cy 1, 4, .inl m_park_kindf)), (m_park_to, .inl (cy 1, 4, .inl m_park_tof)), (m_v, .inl (cy 1, 32, .inl m_vf)), (m_x, .inl (cy 1, 20, .inl m_xf)), (m_left, .inl (cy 1, 20, .inl m_leftf1_1))] → va_S A s.heap H locs → lv_has ls 7 [(4, .int i_10), (3, .int i_12), (0, .ref h0), (1, .int p1), (2, .int p2)] → W p l e ({ frames := 6, cells := 0, slots := 0, locals := 142 } : Room) s m args below meth c H locs 0 0 Q (F0 m 27 ls []) := by
      intro nlp_9
      induction nlp_9 with
      | zero =>
        intro i_10 i_12 f_14 H locs ls b_11 b_13 b_15 b_16 b_17 hmlp_9 hP hD hS hl
        exfalso
        have di_10 := ti_bd i_10
        have di_12 := ti_bd i_12
        have hcn := cn_bd m_leftf1_1 (m_leftf1_1 (Int.toNat i_12.toInt)).toInt 20
        omega
      | succ nlp_9 ihlp_9 =>
        intro i_10 i_12 f_14 H locs ls b_11 b_13 b_15 b_16 b_17 hmlp_9 hP hD hS hl
        refine lv_aload_n hx hb dX13_lines_27 rfl (lv_at hl 2 rfl) ?_
        refine r_get X kcX13 (ci := 12) rfl hP 1 rfl 22 (by decide) fX13_30 rfl dX13_lines_28 ?_
        refine lv_iload_n hx hb dX13_lines_31 rfl (lv_at hl 1 rfl) ?_
        refine va_iald (D := (dC, dI)) (cl := vwCl) hx hb hK hP 7 1 rfl rfl (i := i_12) (vin (by omega) (by omega)) dX13_lines_32 ?_
        refine lv_topi (fun x_18 ex_18 => ?_)
        have bx_18 : 0 ≤ x_18.toInt ∧ x_18.toInt ≤ 9999999 := rb_at k_3_1 ex_18 (by omega) (by omega)
        have gx_18 : (m_leftf1_1 (i_12.toInt).toNat).toInt = x_18.toInt := rd_at ex_18 rfl
        refine lv_if_le (tgt := 104) hx hb dX13_lines_33 (by decide) (fun h_19 => ?_) (fun h_19 => ?_)
        · have h_19 : x_18.toInt ≤ 0 := c_le h_19
          have lp_20 : ∀ (nlp_20 : Nat) (i_21 : Int32) (f_23 : Nat → Int32) (H : Heap) (locs : List Loc) (ls : Array Slot), (0 ≤ i_21.toInt ∧ i_21.toInt ≤ 201) → (202 - i_21.toInt ≤ (nlp_20 : Int)) → va_P (dC, dI) vwCl [(m_line, .inl (cy 1, 402, .inl f_23)), (h0, .inr (12, [.int m_thrown, .int m_trouble, .int m_where, .ref m_park, m_read, .ref m_tape, .int m_taped, .int m_size, .int m_spot, .int m_sort, .int m_place, .int m_letters, .int m_number, .int m_fault, .int m_wrongAt, .long m_word, .ref m_v, .ref m_x, .ref m_past, .ref m_kept, .int m_acts, .int m_images, .ref m_left, .ref m_far, .ref m_line, .int m_fitsNow, .ref m_ditchIn, .int m_treadLeft, .int m_rambledTo, .int m_rambledFalls, .int m_rambledIn])), (m_park, .inr (11, [.int m_park_wide, .int m_park_deep, .int m_park_errs, .int m_park_slips, .int m_park_rows, .int m_park_walkers, .int m_park_walks, .int m_park_unsures, .ref m_park_sort, .ref m_park_unsure, .ref m_park_kind, .ref m_park_at, .ref m_park_to, .ref m_park_from, .ref m_park_steps, .ref m_park_fell, .ref m_park_name])), (m_park_kind, .inl (cy 1, 4, .inl m_park_kindf)), (m_park_to, .inl (cy 1, 4, .inl m_park_tof)), (m_v, .inl (cy 1, 32, .inl m_vf)), (m_x, .inl (cy 1, 20, .inl m_xf)), (m_left, .inl (cy 1, 20, .inl m_leftf1_1))] H → va_D A [(m_line, .inl (cy 1, 402, .inl f_23)), (h0, .inr (12, [.int m_thrown, .int m_trouble, .int m_where, .ref m_park, m_read, .ref m_tape, .int m_taped, .int m_size, .int m_spot, .int m_sort, .int m_place, .int m_letters, .int m_number, .int m_fault, .int m_wrongAt, .long m_word, .ref m_v, .ref m_x, .ref m_past, .ref m_kept, .int m_acts, .int m_images, .ref m_left, .ref m_far, .ref m_line, .int m_fitsNow, .ref m_ditchIn, .int m_treadLeft, .int m_rambledTo, .int m_rambledFalls, .int m_rambledIn])), (m_park, .inr (11, [.int m_park_wide, .int m_park_deep, .int m_park_errs, .int m_park_slips, .int m_park_rows, .int m_park_walkers, .int m_park_walks, .int m_park_unsures, .ref m_park_sort, .ref m_park_unsure, .ref m_park_kind, .ref m_park_at, .ref m_park_to, .ref m_park_from, .ref m_park_steps, .ref m_park_fell, .ref m_park_name])), (m_park_kind, .inl (cy 1, 4, .inl m_park_kindf)), (m_park_to, .inl (cy 1, 4, .inl m_park_tof)), (m_v, .inl (cy 1, 32, .inl m_vf)), (m_x, .inl (cy 1, 20, .inl m_xf)), (m_left, .inl (cy 1, 20, .inl m_leftf1_1))] → va_S A s.heap H locs → lv_has ls 7 [(4, .int i_21), (3, .int i_12), (0, .ref h0), (1, .int p1), (2, .int p2)] → W p l e ({ frames := 6, cells := 0, slots := 0, locals := 142 } : Room) s m args below meth c H locs 0 0 Q (F0 m 104 ls []) := by
            intro nlp_20
            induction nlp_20 with
            | zero =>
              intro i_21 f_23 H locs ls b_22 hmlp_20 hP hD hS hl
              exfalso
              have di_21 := ti_bd i_21
              omega
            | succ nlp_20 ihlp_20 =>
              intro i_21 f_23 H locs ls b_22 hmlp_20 hP hD hS hl
              refine lv_iload hx hb dX13_lines_104 (lv_at hl 0 rfl) ?_
              refine lv_sipush (v := 200) hx hb dX13_lines_106 (by decide) ?_
              refine lv_icmp_gt (tgt := 132) hx hb dX13_lines_109 (by decide) (fun h_24 => ?_) (fun h_24 => ?_)
              · have h_24 : 200 < i_21.toInt := c_lt h_24
                refine lv_iconst (v := 1) hx hb dX13_lines_132 (by decide) ?_
                exact eI hQ X hr hlocks hP hD hS (m_leftf1_1, f_23) [1, 2, 3, 4, 5, 6, 7, 0] (by decide +kernel) rfl rfl (show (0 ≤ (1 : Int32).toInt ∧ (1 : Int32).toInt ≤ 1) ∧ (rb m_leftf1_1 20 0 9999999) from ⟨(by first | decide | (have h9_0 : (1 : Int32).toInt = 1 := (by decide); omega) | (refine ⟨by decide, ?_⟩; omega) | omega), k_3_1⟩) (Nat.le_of_ble_eq_true rfl) (Nat.le_of_ble_eq_true rfl) dX13_lines_133
              · have h_24 : i_21.toInt ≤ 200 := c_nlt h_24
                refine lv_aload_n hx hb dX13_lines_112 rfl (lv_at hl 2 rfl) ?_
                refine r_get X kcX13 (ci := 12) rfl hP 1 rfl 24 (by decide) fX13_36 rfl dX13_lines_113 ?_
                refine lv_sipush (v := 201) hx hb dX13_lines_116 (by decide) ?_
                refine lv_iload_n hx hb dX13_lines_119 rfl (lv_at hl 4 rfl) ?_
                refine lv_imul hx hb dX13_lines_120 ?_
                refine lv_topi (fun x_25 ex_25 => ?_)
                have tx_25 : x_25.toInt = 201 * p2.toInt := ti_mulk (A := 201) (B := p2.toInt) ex_25 rfl rfl (by omega) (by omega)
                refine lv_iload hx hb dX13_lines_121 (lv_at hl 0 rfl) ?_
                refine lv_iadd hx hb dX13_lines_123 ?_
                refine lv_topi (fun x_26 ex_26 => ?_)
                have tx_26 : x_26.toInt = x_25.toInt + i_21.toInt := ti_add (A := x_25.toInt) (B := i_21.toInt) ex_26 rfl rfl (by omega) (by omega)
                refine lv_iload_n hx hb dX13_lines_124 rfl (lv_at hl 1 rfl) ?_
                refine va_iast (D := (dC, dI)) (cl := vwCl) hx hb hK hP hD hS 0 1 rfl rfl (i := x_26) (vin (by omega) (by omega)) dX13_lines_125 (fun H locs hP hD hS => ?_)
                generalize ef_27 : upd f_23 (Int32.toNatClampNeg x_26) i_12 = f_27 at hP hD
                have hPD := vPD (ws' := [(m_line, .inl (cy 1, 402, .inl f_27)), (h0, .inr (12, [.int m_thrown, .int m_trouble, .int m_where, .ref m_park, m_read, .ref m_tape, .int m_taped, .int m_size, .int m_spot, .int m_sort, .int m_place, .int m_letters, .int m_number, .int m_fault, .int m_wrongAt, .long m_word, .ref m_v, .ref m_x, .ref m_past, .ref m_kept, .int m_acts, .int m_images, .ref m_left, .ref m_far, .ref m_line, .int m_fitsNow, .ref m_ditchIn, .int m_treadLeft, .int m_rambledTo, .int m_rambledFalls, .int m_rambledIn])), (m_park, .inr (11, [.int m_park_wide, .int m_park_deep, .int m_park_errs, .int m_park_slips, .int m_park_rows, .int m_park_walkers, .int m_park_walks, .int m_park_unsures, .ref m_park_sort, .ref m_park_unsure, .ref m_park_kind, .ref m_park_at, .ref m_park_to, .ref m_park_from, .ref m_park_steps, .ref m_park_fell, .ref m_park_name])), (m_park_kind, .inl (cy 1, 4, .inl m_park_kindf)), (m_park_to, .inl (cy 1, 4, .inl m_park_tof)), (m_v, .inl (cy 1, 32, .inl m_vf)), (m_x, .inl (cy 1, 20, .inl m_xf)), (m_left, .inl (cy 1, 20, .inl m_leftf1_1))]) hP hD rfl
                have hP := hPD.1
                have hD := hPD.2
                obtain ⟨x_28, ex_28⟩ : ∃ y : Int32, y = i_21 + 1 := ⟨_, rfl⟩
                have tx_28 : x_28.toInt = i_21.toInt + 1 := ti_add (A := i_21.toInt) (B := 1) ex_28 rfl rfl (by omega) (by omega)
                refine lv_iinc (v := x_28) (lv' := [(4, .int x_28), (3, .int i_12), (0, .ref h0), (1, .int p1), (2, .int p2)]) hx hb dX13_lines_126 hl (k := 0) rfl (by rw [ex_28]; rfl) (by decide) rfl (fun ls hl => ?_)
                refine lv_goto (tgt := 104) hx hb dX13_lines_129 (by decide) ?_
                exact ihlp_20 x_28 f_27 _ _ _ (by omega) (show 202 - x_28.toInt ≤ (nlp_20 : Int) by omega) hP hD hS (lv_sub hl [0, 1, 2, 3, 4] rfl)
          exact lp_20 202 i_10 f_14 _ _ _ (by omega) (show 202 - i_10.toInt ≤ ((202 : Nat) : Int) by omega) hP hD hS hl
        · have h_19 : 0 < x_18.toInt := c_nle h_19
          refine lv_aload_n hx hb dX13_lines_36 rfl (lv_at hl 2 rfl) ?_
          refine lv_iload_n hx hb dX13_lines_37 rfl (lv_at hl 3 rfl) ?_
          refine lv_iload_n hx hb dX13_lines_38 rfl (lv_at hl 1 rfl) ?_
          refine lv_iconst (v := 1) hx hb dX13_lines_39 (by decide) ?_
          refine sl_Ic (rV_I (As := [.int p1, .int i_12, .int 1]) (rest := []) X hp_st (fun _ _ _ h => h) (sX13_stepFrom l dC dI cy h0 m_thrown m_trouble m_where m_park m_read m_tape m_taped m_size m_spot m_sort m_place m_letters m_number m_fault m_wrongAt m_word m_v m_x m_past m_kept m_acts m_images m_left m_far m_line m_fitsNow m_ditchIn m_treadLeft m_rambledTo m_rambledFalls m_rambledIn m_park_wide m_park_deep m_park_errs m_park_slips m_park_rows m_park_walkers m_park_walks m_park_unsures m_park_sort m_park_unsure m_park_kind m_park_at m_park_to m_park_from m_park_steps m_park_fell m_park_name m_park_kindf m_xf m_leftf1_1 p1 i_12 1 hm_taped hm_size hm_spot hm_place hm_acts hm_images hm_park_wide hm_park_deep hm_park_rows hm_park_walkers hm_park_walks hm_park_unsures k_3_1 hp1 b_13 (by omega) (by assumption) (by first | decide | omega) b_16) kX13_stepFrom vX13_stepFrom mX13_327 hP hD hS hA [1, 2, 3, 6, 7] (by decide) rfl 0 (ci := 12) rfl rfl rfl hl rfl rfl (Nat.le_of_ble_eq_true rfl) dX13_lines_40 ⟨(Nat.le_of_ble_eq_true rfl), (Nat.le_of_ble_eq_true rfl)⟩ ⟨(Nat.le_of_ble_eq_true rfl), (Nat.le_of_ble_eq_true rfl)⟩) hP hD hS hA [1, 2, 3, 6, 7] [true, false, false, false, true, true, false, false] rfl rfl rfl (fun r_29 u_31 H locs k_30 hP hD hS => ?_)
          have k_30 : (0 ≤ r_29.toInt ∧ r_29.toInt ≤ 3) ∧ (laF m_park_wide.toInt m_park_deep.toInt m_xf (m_park_kindf (Int.toNat p1.toInt)).toInt i_12.toInt r_29.toInt ≠ -2) ∧ ((m_leftf1_1 (Int.toNat (onF m_park_wide.toInt m_park_deep.toInt i_12.toInt r_29.toInt))).toInt ≠ 9999999) ∧ (weF m_park_wide.toInt m_park_deep.toInt m_xf (m_park_kindf (Int.toNat p1.toInt)).toInt i_12.toInt r_29.toInt (1 : Int32).toInt + (m_leftf1_1 (Int.toNat (onF m_park_wide.toInt m_park_deep.toInt i_12.toInt r_29.toInt))).toInt = (m_leftf1_1 (Int.toNat i_12.toInt)).toInt) := k_30
          have kc_32 : (1 : Int32).toInt = 1 := by decide
          obtain ⟨k_30_0, k_30_1, k_30_2, k_30_3⟩ := k_30
          have hPD := vPD (ws' := [(m_line, .inl (cy 1, 402, .inl f_14)), (m_park_to, .inl (cy 1, 4, .inl m_park_tof)), (m_v, .inl (cy 1, 32, .inl m_vf)), (h0, .inr (12, [.int m_thrown, .int m_trouble, .int m_where, .ref m_park, m_read, .ref m_tape, .int m_taped, .int m_size, .int m_spot, .int m_sort, .int m_place, .int m_letters, .int m_number, .int m_fault, .int m_wrongAt, .long m_word, .ref m_v, .ref m_x, .ref m_past, .ref m_kept, .int m_acts, .int m_images, .ref m_left, .ref m_far, .ref m_line, .int m_fitsNow, .ref m_ditchIn, .int m_treadLeft, .int m_rambledTo, .int m_rambledFalls, .int m_rambledIn])), (m_park, .inr (11, [.int m_park_wide, .int m_park_deep, .int m_park_errs, .int m_park_slips, .int m_park_rows, .int m_park_walkers, .int m_park_walks, .int m_park_unsures, .ref m_park_sort, .ref m_park_unsure, .ref m_park_kind, .ref m_park_at, .ref m_park_to, .ref m_park_from, .ref m_park_steps, .ref m_park_fell, .ref m_park_name])), (m_park_kind, .inl (cy 1, 4, .inl m_park_kindf)), (m_x, .inl (cy 1, 20, .inl m_xf)), (m_left, .inl (cy 1, 20, .inl m_leftf1_1))]) hP hD rfl
          have hP := hPD.1
          have hD := hPD.2
          have hlo := la_on (show laF m_park_wide.toInt m_park_deep.toInt m_xf (m_park_kindf (Int.toNat p1.toInt)).toInt i_12.toInt r_29.toInt ≠ -2 by omega)
          have hwb := we_bd (1 : Int32).toInt (show laF m_park_wide.toInt m_park_deep.toInt m_xf (m_park_kindf (Int.toNat p1.toInt)).toInt i_12.toInt r_29.toInt ≠ -2 by omega)
          have hob := on_bd (w := m_park_wide.toInt) (d := m_park_deep.toInt) (c := i_12.toInt) (s := r_29.toInt) (by omega) (by omega) (by omega)
          have hlb := la_bd m_park_wide.toInt m_park_deep.toInt m_xf (m_park_kindf (Int.toNat p1.toInt)).toInt i_12.toInt r_29.toInt
          have hcl := cn_lt m_leftf1_1 (a := (m_leftf1_1 (Int.toNat (onF m_park_wide.toInt m_park_deep.toInt i_12.toInt r_29.toInt))).toInt) (b := (m_leftf1_1 (Int.toNat i_12.toInt)).toInt) (by omega) (Int.toNat (onF m_park_wide.toInt m_park_deep.toInt i_12.toInt r_29.toInt)) rfl 20 (by omega)
          have hcb := cn_bd m_leftf1_1 (m_leftf1_1 (Int.toNat (onF m_park_wide.toInt m_park_deep.toInt i_12.toInt r_29.toInt))).toInt 20
          refine lv_istore (lv' := [(5, .int r_29), (4, .int i_10), (3, .int i_12), (0, .ref h0), (1, .int p1), (2, .int p2)]) hx hb dX13_lines_43 hl (by decide) rfl (fun ls hl => ?_)
          refine lv_iload hx hb dX13_lines_45 (lv_at hl 1 rfl) ?_
          refine lv_aload_n hx hb dX13_lines_47 rfl (lv_at hl 3 rfl) ?_
          refine lv_aload_n hx hb dX13_lines_48 rfl (lv_at hl 3 rfl) ?_
          refine r_get X kcX13 (ci := 12) rfl hP 3 rfl 3 (by decide) fX13_269 rfl dX13_lines_49 ?_
          refine r_get X kcX12 (ci := 11) rfl hP 4 rfl 10 (by decide) fX13_238 rfl dX13_lines_52 ?_
          refine lv_iload_n hx hb dX13_lines_55 rfl (lv_at hl 4 rfl) ?_
          refine va_iald (D := (dC, dI)) (cl := vwCl) hx hb hK hP 5 1 rfl rfl (i := p1) (vin (by omega) (by omega)) dX13_lines_56 ?_
          refine lv_topi (fun x_33 ex_33 => ?_)
          have gx_33 : (m_park_kindf (p1.toInt).toNat).toInt = x_33.toInt := rd_at ex_33 rfl
          refine lv_iload_n hx hb dX13_lines_57 rfl (lv_at hl 2 rfl) ?_
          refine lv_iload hx hb dX13_lines_58 (lv_at hl 0 rfl) ?_
          refine sl_Ic (rV_I (As := [.int x_33, .int i_12, .int r_29]) (rest := [.int i_10]) X hp_st (fun _ _ _ h => h) (sX13_lasts l dC dI cy h0 m_thrown m_trouble m_where m_park m_read m_tape m_taped m_size m_spot m_sort m_place m_letters m_number m_fault m_wrongAt m_word m_v m_x m_past m_kept m_acts m_images m_left m_far m_line m_fitsNow m_ditchIn m_treadLeft m_rambledTo m_rambledFalls m_rambledIn m_park_wide m_park_deep m_park_errs m_park_slips m_park_rows m_park_walkers m_park_walks m_park_unsures m_park_sort m_park_unsure m_park_kind m_park_at m_park_to m_park_from m_park_steps m_park_fell m_park_name m_xf x_33 i_12 r_29 hm_taped hm_size hm_spot hm_place hm_acts hm_images hm_park_wide hm_park_deep hm_park_rows hm_park_walkers hm_park_walks hm_park_unsures b_13 (by omega)) kX13_lasts vX13_lasts mX13_289 hP hD hS hA [3, 4, 6] (by decide) rfl 0 (ci := 12) rfl rfl rfl hl rfl rfl (Nat.le_of_ble_eq_true rfl) dX13_lines_60 ⟨(Nat.le_of_ble_eq_true rfl), (Nat.le_of_ble_eq_true rfl)⟩ ⟨(Nat.le_of_ble_eq_true rfl), (Nat.le_of_ble_eq_true rfl)⟩) hP hD hS hA [3, 4, 6] [true, true, true, false, false, true, false, true] rfl rfl rfl (fun r_34 u_36 H locs k_35 hP hD hS => ?_)
          have k_35 : ((-2) ≤ r_34.toInt ∧ r_34.toInt ≤ 4) ∧ (r_34.toInt = laF m_park_wide.toInt m_park_deep.toInt m_xf x_33.toInt i_12.toInt r_29.toInt) ∧ (r_34.toInt = -2 ∨ 1 ≤ r_34.toInt) ∧ (r_34.toInt = -2 ∨ onF m_park_wide.toInt m_park_deep.toInt i_12.toInt r_29.toInt ≠ -2) := k_35
          obtain ⟨k_35_0, k_35_1, k_35_2, k_35_3⟩ := k_35
          have hPD := vPD (ws' := [(m_line, .inl (cy 1, 402, .inl f_14)), (m_park_to, .inl (cy 1, 4, .inl m_park_tof)), (m_v, .inl (cy 1, 32, .inl m_vf)), (m_park_kind, .inl (cy 1, 4, .inl m_park_kindf)), (m_left, .inl (cy 1, 20, .inl m_leftf1_1)), (h0, .inr (12, [.int m_thrown, .int m_trouble, .int m_where, .ref m_park, m_read, .ref m_tape, .int m_taped, .int m_size, .int m_spot, .int m_sort, .int m_place, .int m_letters, .int m_number, .int m_fault, .int m_wrongAt, .long m_word, .ref m_v, .ref m_x, .ref m_past, .ref m_kept, .int m_acts, .int m_images, .ref m_left, .ref m_far, .ref m_line, .int m_fitsNow, .ref m_ditchIn, .int m_treadLeft, .int m_rambledTo, .int m_rambledFalls, .int m_rambledIn])), (m_park, .inr (11, [.int m_park_wide, .int m_park_deep, .int m_park_errs, .int m_park_slips, .int m_park_rows, .int m_park_walkers, .int m_park_walks, .int m_park_unsures, .ref m_park_sort, .ref m_park_unsure, .ref m_park_kind, .ref m_park_at, .ref m_park_to, .ref m_park_from, .ref m_park_steps, .ref m_park_fell, .ref m_park_name])), (m_x, .inl (cy 1, 20, .inl m_xf))]) hP hD rfl
          have hP := hPD.1
          have hD := hPD.2
          have hlk : r_34.toInt = laF m_park_wide.toInt m_park_deep.toInt m_xf (m_park_kindf (Int.toNat p1.toInt)).toInt i_12.toInt r_29.toInt := by rw [gx_33]; assumption
          refine lv_iadd hx hb dX13_lines_63 ?_
          refine lv_topi (fun x_37 ex_37 => ?_)
          have tx_37 : x_37.toInt = i_10.toInt + r_34.toInt := ti_add (A := i_10.toInt) (B := r_34.toInt) ex_37 rfl rfl (by omega) (by omega)
          refine lv_istore (lv' := [(6, .int x_37), (5, .int r_29), (4, .int i_10), (3, .int i_12), (0, .ref h0), (1, .int p1), (2, .int p2)]) hx hb dX13_lines_64 hl (by decide) rfl (fun ls hl => ?_)
          have lp_38 : ∀ (nlp_38 : Nat) (i_39 : Int32) (f_41 : Nat → Int32) (H : Heap) (locs : List Loc) (ls : Array Slot), (0 ≤ i_39.toInt ∧ i_39.toInt ≤ 84) → (i_39.toInt ≤ x_37.toInt) → (85 - i_39.toInt ≤ (nlp_38 : Int)) → va_P (dC, dI) vwCl [(m_line, .inl (cy 1, 402, .inl f_41)), (m_park_to, .inl (cy 1, 4, .inl m_park_tof)), (m_v, .inl (cy 1, 32, .inl m_vf)), (m_park_kind, .inl (cy 1, 4, .inl m_park_kindf)), (m_left, .inl (cy 1, 20, .inl m_leftf1_1)), (h0, .inr (12, [.int m_thrown, .int m_trouble, .int m_where, .ref m_park, m_read, .ref m_tape, .int m_taped, .int m_size, .int m_spot, .int m_sort, .int m_place, .int m_letters, .int m_number, .int m_fault, .int m_wrongAt, .long m_word, .ref m_v, .ref m_x, .ref m_past, .ref m_kept, .int m_acts, .int m_images, .ref m_left, .ref m_far, .ref m_line, .int m_fitsNow, .ref m_ditchIn, .int m_treadLeft, .int m_rambledTo, .int m_rambledFalls, .int m_rambledIn])), (m_park, .inr (11, [.int m_park_wide, .int m_park_deep, .int m_park_errs, .int m_park_slips, .int m_park_rows, .int m_park_walkers, .int m_park_walks, .int m_park_unsures, .ref m_park_sort, .ref m_park_unsure, .ref m_park_kind, .ref m_park_at, .ref m_park_to, .ref m_park_from, .ref m_park_steps, .ref m_park_fell, .ref m_park_name])), (m_x, .inl (cy 1, 20, .inl m_xf))] H → va_D A [(m_line, .inl (cy 1, 402, .inl f_41)), (m_park_to, .inl (cy 1, 4, .inl m_park_tof)), (m_v, .inl (cy 1, 32, .inl m_vf)), (m_park_kind, .inl (cy 1, 4, .inl m_park_kindf)), (m_left, .inl (cy 1, 20, .inl m_leftf1_1)), (h0, .inr (12, [.int m_thrown, .int m_trouble, .int m_where, .ref m_park, m_read, .ref m_tape, .int m_taped, .int m_size, .int m_spot, .int m_sort, .int m_place, .int m_letters, .int m_number, .int m_fault, .int m_wrongAt, .long m_word, .ref m_v, .ref m_x, .ref m_past, .ref m_kept, .int m_acts, .int m_images, .ref m_left, .ref m_far, .ref m_line, .int m_fitsNow, .ref m_ditchIn, .int m_treadLeft, .int m_rambledTo, .int m_rambledFalls, .int m_rambledIn])), (m_park, .inr (11, [.int m_park_wide, .int m_park_deep, .int m_park_errs, .int m_park_slips, .int m_park_rows, .int m_park_walkers, .int m_park_walks, .int m_park_unsures, .ref m_park_sort, .ref m_park_unsure, .ref m_park_kind, .ref m_park_at, .ref m_park_to, .ref m_park_from, .ref m_park_steps, .ref m_park_fell, .ref m_park_name])), (m_x, .inl (cy 1, 20, .inl m_xf))] → va_S A s.heap H locs → lv_has ls 7 [(6, .int x_37), (5, .int r_29), (4, .int i_39), (3, .int i_12), (0, .ref h0), (1, .int p1), (2, .int p2)] → W p l e ({ frames := 6, cells := 0, slots := 0, locals := 142 } : Room) s m args below meth c H locs 0 0 Q (F0 m 66 ls []) := by
            intro nlp_38
            induction nlp_38 with
            | zero =>
              intro i_39 f_41 H locs ls b_40 b_42 hmlp_38 hP hD hS hl
              exfalso
              have di_39 := ti_bd i_39
              omega
            | succ nlp_38 ihlp_38 =>
              intro i_39 f_41 H locs ls b_40 b_42 hmlp_38 hP hD hS hl
              refine lv_iload hx hb dX13_lines_66 (lv_at hl 2 rfl) ?_
              refine lv_iload hx hb dX13_lines_68 (lv_at hl 0 rfl) ?_
              refine lv_icmp_ge (tgt := 93) hx hb dX13_lines_70 (by decide) (fun h_43 => ?_) (fun h_43 => ?_)
              · have h_43 : x_37.toInt ≤ i_39.toInt := c_le h_43
                refine lv_aload_n hx hb dX13_lines_93 rfl (lv_at hl 4 rfl) ?_
                refine lv_iload_n hx hb dX13_lines_94 rfl (lv_at hl 3 rfl) ?_
                refine lv_iload hx hb dX13_lines_95 (lv_at hl 1 rfl) ?_
                refine sl_Ic (rV_I (As := [.int i_12, .int r_29]) (rest := []) X hp_st (fun _ _ _ h => h) (sX13_onto l dC dI cy h0 m_thrown m_trouble m_where m_park m_read m_tape m_taped m_size m_spot m_sort m_place m_letters m_number m_fault m_wrongAt m_word m_v m_x m_past m_kept m_acts m_images m_left m_far m_line m_fitsNow m_ditchIn m_treadLeft m_rambledTo m_rambledFalls m_rambledIn m_park_wide m_park_deep m_park_errs m_park_slips m_park_rows m_park_walkers m_park_walks m_park_unsures m_park_sort m_park_unsure m_park_kind m_park_at m_park_to m_park_from m_park_steps m_park_fell m_park_name i_12 r_29 hm_taped hm_size hm_spot hm_place hm_acts hm_images hm_park_wide hm_park_deep hm_park_rows hm_park_walkers hm_park_walks hm_park_unsures b_13 (by omega)) kX13_onto vX13_onto mX13_280 hP hD hS hA [5, 6] (by decide) rfl 0 (ci := 12) rfl rfl rfl hl rfl rfl (Nat.le_of_ble_eq_true rfl) dX13_lines_97 ⟨(Nat.le_of_ble_eq_true rfl), (Nat.le_of_ble_eq_true rfl)⟩ ⟨(Nat.le_of_ble_eq_true rfl), (Nat.le_of_ble_eq_true rfl)⟩) hP hD hS hA [5, 6] [true, true, true, true, true, false, false, true] rfl rfl rfl (fun r_44 u_46 H locs k_45 hP hD hS => ?_)
                have k_45 : ((-2) ≤ r_44.toInt ∧ r_44.toInt ≤ 19) ∧ (r_44.toInt = onF m_park_wide.toInt m_park_deep.toInt i_12.toInt r_29.toInt) ∧ (r_44.toInt = -2 ∨ (0 ≤ r_44.toInt ∧ r_44.toInt < (m_park_wide.toInt * m_park_deep.toInt))) := k_45
                obtain ⟨k_45_0, k_45_1, k_45_2⟩ := k_45
                have hPD := vPD (ws' := [(m_line, .inl (cy 1, 402, .inl f_41)), (m_park_to, .inl (cy 1, 4, .inl m_park_tof)), (m_v, .inl (cy 1, 32, .inl m_vf)), (m_park_kind, .inl (cy 1, 4, .inl m_park_kindf)), (m_left, .inl (cy 1, 20, .inl m_leftf1_1)), (m_x, .inl (cy 1, 20, .inl m_xf)), (h0, .inr (12, [.int m_thrown, .int m_trouble, .int m_where, .ref m_park, m_read, .ref m_tape, .int m_taped, .int m_size, .int m_spot, .int m_sort, .int m_place, .int m_letters, .int m_number, .int m_fault, .int m_wrongAt, .long m_word, .ref m_v, .ref m_x, .ref m_past, .ref m_kept, .int m_acts, .int m_images, .ref m_left, .ref m_far, .ref m_line, .int m_fitsNow, .ref m_ditchIn, .int m_treadLeft, .int m_rambledTo, .int m_rambledFalls, .int m_rambledIn])), (m_park, .inr (11, [.int m_park_wide, .int m_park_deep, .int m_park_errs, .int m_park_slips, .int m_park_rows, .int m_park_walkers, .int m_park_walks, .int m_park_unsures, .ref m_park_sort, .ref m_park_unsure, .ref m_park_kind, .ref m_park_at, .ref m_park_to, .ref m_park_from, .ref m_park_steps, .ref m_park_fell, .ref m_park_name]))]) hP hD rfl
                have hP := hPD.1
                have hD := hPD.2
                have kf_47 : r_44.toInt = onF m_park_wide.toInt m_park_deep.toInt i_12.toInt r_29.toInt := by assumption
                have hcx : (m_leftf1_1 (Int.toNat r_44.toInt)).toInt = (m_leftf1_1 (Int.toNat (onF m_park_wide.toInt m_park_deep.toInt i_12.toInt r_29.toInt))).toInt := by rw [kf_47]
                have hcy : cn m_leftf1_1 (m_leftf1_1 (Int.toNat r_44.toInt)).toInt 20 = cn m_leftf1_1 (m_leftf1_1 (Int.toNat (onF m_park_wide.toInt m_park_deep.toInt i_12.toInt r_29.toInt))).toInt 20 := by rw [hcx]
                refine lv_istore_n (lv' := [(3, .int r_44), (6, .int x_37), (5, .int r_29), (4, .int i_39), (0, .ref h0), (1, .int p1), (2, .int p2)]) hx hb dX13_lines_100 rfl hl (by decide) rfl (fun ls hl => ?_)
                refine lv_goto (tgt := 27) hx hb dX13_lines_101 (by decide) ?_
                exact ihlp_9 i_39 r_44 f_41 _ _ _ (by omega) (by omega) (show r_44.toInt < (m_park_wide.toInt * m_park_deep.toInt) by omega) (show (m_leftf1_1 (Int.toNat r_44.toInt)).toInt ≠ 9999999 by omega) (show i_39.toInt + 4 * cn m_leftf1_1 (m_leftf1_1 (Int.toNat r_44.toInt)).toInt 20 ≤ 80 by omega) (show cn m_leftf1_1 (m_leftf1_1 (Int.toNat r_44.toInt)).toInt 20 + 1 ≤ (nlp_9 : Int) by omega) (hP.sub [0, 6, 7, 3, 1, 2, 5, 4] rfl) (hD.sub [0, 6, 7, 3, 1, 2, 5, 4] (by decide +kernel) rfl) hS (lv_sub hl [3, 0, 4, 5, 6] rfl)
              · have h_43 : i_39.toInt < x_37.toInt := c_nle h_43
                refine lv_aload_n hx hb dX13_lines_73 rfl (lv_at hl 4 rfl) ?_
                refine r_get X kcX13 (ci := 12) rfl hP 5 rfl 24 (by decide) fX13_36 rfl dX13_lines_74 ?_
                refine lv_sipush (v := 201) hx hb dX13_lines_77 (by decide) ?_
                refine lv_iload_n hx hb dX13_lines_80 rfl (lv_at hl 6 rfl) ?_
                refine lv_imul hx hb dX13_lines_81 ?_
                refine lv_topi (fun x_48 ex_48 => ?_)
                have tx_48 : x_48.toInt = 201 * p2.toInt := ti_mulk (A := 201) (B := p2.toInt) ex_48 rfl rfl (by omega) (by omega)
                refine lv_iload hx hb dX13_lines_82 (lv_at hl 2 rfl) ?_
                refine lv_iadd hx hb dX13_lines_84 ?_
                refine lv_topi (fun x_49 ex_49 => ?_)
                have tx_49 : x_49.toInt = x_48.toInt + i_39.toInt := ti_add (A := x_48.toInt) (B := i_39.toInt) ex_49 rfl rfl (by omega) (by omega)
                refine lv_iload_n hx hb dX13_lines_85 rfl (lv_at hl 3 rfl) ?_
                refine va_iast (D := (dC, dI)) (cl := vwCl) hx hb hK hP hD hS 0 1 rfl rfl (i := x_49) (vin (by omega) (by omega)) dX13_lines_86 (fun H locs hP hD hS => ?_)
                generalize ef_50 : upd f_41 (Int32.toNatClampNeg x_49) i_12 = f_50 at hP hD
                have hPD := vPD (ws' := [(m_line, .inl (cy 1, 402, .inl f_50)), (m_park_to, .inl (cy 1, 4, .inl m_park_tof)), (m_v, .inl (cy 1, 32, .inl m_vf)), (m_park_kind, .inl (cy 1, 4, .inl m_park_kindf)), (m_left, .inl (cy 1, 20, .inl m_leftf1_1)), (h0, .inr (12, [.int m_thrown, .int m_trouble, .int m_where, .ref m_park, m_read, .ref m_tape, .int m_taped, .int m_size, .int m_spot, .int m_sort, .int m_place, .int m_letters, .int m_number, .int m_fault, .int m_wrongAt, .long m_word, .ref m_v, .ref m_x, .ref m_past, .ref m_kept, .int m_acts, .int m_images, .ref m_left, .ref m_far, .ref m_line, .int m_fitsNow, .ref m_ditchIn, .int m_treadLeft, .int m_rambledTo, .int m_rambledFalls, .int m_rambledIn])), (m_park, .inr (11, [.int m_park_wide, .int m_park_deep, .int m_park_errs, .int m_park_slips, .int m_park_rows, .int m_park_walkers, .int m_park_walks, .int m_park_unsures, .ref m_park_sort, .ref m_park_unsure, .ref m_park_kind, .ref m_park_at, .ref m_park_to, .ref m_park_from, .ref m_park_steps, .ref m_park_fell, .ref m_park_name])), (m_x, .inl (cy 1, 20, .inl m_xf))]) hP hD rfl
                have hP := hPD.1
                have hD := hPD.2
                obtain ⟨x_51, ex_51⟩ : ∃ y : Int32, y = i_39 + 1 := ⟨_, rfl⟩
                have tx_51 : x_51.toInt = i_39.toInt + 1 := ti_add (A := i_39.toInt) (B := 1) ex_51 rfl rfl (by omega) (by omega)
                refine lv_iinc (v := x_51) (lv' := [(4, .int x_51), (6, .int x_37), (5, .int r_29), (3, .int i_12), (0, .ref h0), (1, .int p1), (2, .int p2)]) hx hb dX13_lines_87 hl (k := 2) rfl (by rw [ex_51]; rfl) (by decide) rfl (fun ls hl => ?_)
                refine lv_goto (tgt := 66) hx hb dX13_lines_90 (by decide) ?_
                exact ihlp_38 x_51 f_50 _ _ _ (by omega) (show x_51.toInt ≤ x_37.toInt by omega) (show 85 - x_51.toInt ≤ (nlp_38 : Int) by omega) hP hD hS (lv_sub hl [1, 2, 0, 3, 4, 5, 6] rfl)
          exact lp_38 85 i_10 f_14 _ _ _ (by omega) (show i_10.toInt ≤ x_37.toInt by omega) (show 85 - i_10.toInt ≤ ((85 : Nat) : Int) by omega) hP hD hS hl
    exact lp_9 21 0 x_8 m_linef _ _ _ (by decide) (by omega) (show x_8.toInt < (m_park_wide.toInt * m_park_deep.toInt) by omega) (show (m_leftf1_1 (Int.toNat x_8.toInt)).toInt ≠ 9999999 by omega) (show 0 + 4 * cn m_leftf1_1 (m_leftf1_1 (Int.toNat x_8.toInt)).toInt 20 ≤ 80 by omega) (show cn m_leftf1_1 (m_leftf1_1 (Int.toNat x_8.toInt)).toInt 20 + 1 ≤ ((21 : Nat) : Int) by omega) hP hD hS hl
  · have h_6 : r_2.toInt = 9999999 := c_eq h_6
    refine lv_iconst (v := 0) hx hb dX13_lines_12 (by decide) ?_
    exact eI hQ X hr hlocks hP hD hS (m_leftf1_1, m_linef) [1, 2, 3, 4, 5, 6, 7, 0] (by decide +kernel) rfl rfl (show (0 ≤ (0 : Int32).toInt ∧ (0 : Int32).toInt ≤ 1) ∧ (rb m_leftf1_1 20 0 9999999) from ⟨(by first | decide | (have h9_0 : (0 : Int32).toInt = 0 := (by decide); omega) | (refine ⟨by decide, ?_⟩; omega) | omega), k_3_1⟩) (Nat.le_of_ble_eq_true rfl) (Nat.le_of_ble_eq_true rfl) dX13_lines_13
set_option maxHeartbeats 4000000 in
set_option maxRecDepth 100000 in
theorem sX13_wayStep (l : Launch) (dC : Nat → ClassId) (dI : Nat → Nat → Nat) (cy : Nat → ClassId) (h0 : Nat) (m_thrown : Int32) (m_trouble : Int32) (m_where : Int32) (m_park : Nat) (m_read : Value) (m_tape : Nat) (m_taped : Int32) (m_size : Int32) (m_spot : Int32) (m_sort : Int32) (m_place : Int32) (m_letters : Int32) (m_number : Int32) (m_fault : Int32) (m_wrongAt : Int32) (m_word : Int64) (m_v : Nat) (m_x : Nat) (m_past : Nat) (m_kept : Nat) (m_acts : Int32) (m_images : Int32) (m_left : Nat) (m_far : Nat) (m_line : Nat) (m_fitsNow : Int32) (m_ditchIn : Nat) (m_treadLeft : Int32) (m_rambledTo : Int32) (m_rambledFalls : Int32) (m_rambledIn : Int32) (m_park_wide : Int32) (m_park_deep : Int32) (m_park_errs : Int32) (m_park_slips : Int32) (m_park_rows : Int32) (m_park_walkers : Int32) (m_park_walks : Int32) (m_park_unsures : Int32) (m_park_sort : Nat) (m_park_unsure : Nat) (m_park_kind : Nat) (m_park_at : Nat) (m_park_to : Nat) (m_park_from : Nat) (m_park_steps : Nat) (m_park_fell : Nat) (m_park_name : Nat) (m_park_kindf : Nat → Int32) (m_park_tof : Nat → Int32) (m_vf : Nat → Int32) (m_xf : Nat → Int32) (m_leftf : Nat → Int32) (p1 : Int32) (p2 : Int32) (p3 : Int32) (hm_taped : 0 ≤ m_taped.toInt ∧ m_taped.toInt ≤ 800) (hm_size : 0 ≤ m_size.toInt ∧ m_size.toInt ≤ 800) (hm_spot : 0 ≤ m_spot.toInt ∧ m_spot.toInt ≤ 800) (hm_place : 0 ≤ m_place.toInt ∧ m_place.toInt ≤ 800) (hm_acts : 0 ≤ m_acts.toInt ∧ m_acts.toInt ≤ 16) (hm_images : 0 ≤ m_images.toInt ∧ m_images.toInt ≤ 3) (hm_park_wide : 2 ≤ m_park_wide.toInt ∧ m_park_wide.toInt ≤ 5) (hm_park_deep : 2 ≤ m_park_deep.toInt ∧ m_park_deep.toInt ≤ 4) (hm_park_rows : 0 ≤ m_park_rows.toInt ∧ m_park_rows.toInt ≤ 4) (hm_park_walkers : 0 ≤ m_park_walkers.toInt ∧ m_park_walkers.toInt ≤ 4) (hm_park_walks : 0 ≤ m_park_walks.toInt ∧ m_park_walks.toInt ≤ 6) (hm_park_unsures : 0 ≤ m_park_unsures.toInt ∧ m_park_unsures.toInt ≤ 5) (hm_park_tof : rb m_park_tof 4 0 19) (hm_leftf : rb m_leftf 20 0 9999999) (hvI : rI m_vf 1 (m_park_wide.toInt * m_park_deep.toInt)) : ctI l dC dI cy hp yX13_wayStep cX13_wayStep 6 .int ({ frames := 6, cells := 0, slots := 0, locals := 142 } : Room) [.ref h0, .int p1, .int p2, .int p3] [(h0, .inr (12, [.int m_thrown, .int m_trouble, .int m_where, .ref m_park, m_read, .ref m_tape, .int m_taped, .int m_size, .int m_spot, .int m_sort, .int m_place, .int m_letters, .int m_number, .int m_fault, .int m_wrongAt, .long m_word, .ref m_v, .ref m_x, .ref m_past, .ref m_kept, .int m_acts, .int m_images, .ref m_left, .ref m_far, .ref m_line, .int m_fitsNow, .ref m_ditchIn, .int m_treadLeft, .int m_rambledTo, .int m_rambledFalls, .int m_rambledIn])), (m_park, .inr (11, [.int m_park_wide, .int m_park_deep, .int m_park_errs, .int m_park_slips, .int m_park_rows, .int m_park_walkers, .int m_park_walks, .int m_park_unsures, .ref m_park_sort, .ref m_park_unsure, .ref m_park_kind, .ref m_park_at, .ref m_park_to, .ref m_park_from, .ref m_park_steps, .ref m_park_fell, .ref m_park_name])), (m_park_kind, .inl (cy 1, 4, .inl m_park_kindf)), (m_park_to, .inl (cy 1, 4, .inl m_park_tof)), (m_v, .inl (cy 1, 32, .inl m_vf)), (m_x, .inl (cy 1, 20, .inl m_xf)), (m_left, .inl (cy 1, 20, .inl m_leftf))] (S := (Nat → Int32) × (Nat → Int32) × Int32 × Int32) (fun r u => (rb u.2.1 20 0 9999999) ∧ (u.2.2.2.toInt = -1)) (fun u => [(h0, .inr (12, [.int m_thrown, .int u.2.2.1, .int u.2.2.2, .ref m_park, m_read, .ref m_tape, .int m_taped, .int m_size, .int m_spot, .int m_sort, .int m_place, .int m_letters, .int m_number, .int m_fault, .int m_wrongAt, .long m_word, .ref m_v, .ref m_x, .ref m_past, .ref m_kept, .int m_acts, .int m_images, .ref m_left, .ref m_far, .ref m_line, .int m_fitsNow, .ref m_ditchIn, .int m_treadLeft, .int m_rambledTo, .int m_rambledFalls, .int m_rambledIn])), (m_park, .inr (11, [.int m_park_wide, .int m_park_deep, .int m_park_errs, .int m_park_slips, .int m_park_rows, .int m_park_walkers, .int m_park_walks, .int m_park_unsures, .ref m_park_sort, .ref m_park_unsure, .ref m_park_kind, .ref m_park_at, .ref m_park_to, .ref m_park_from, .ref m_park_steps, .ref m_park_fell, .ref m_park_name])), (m_park_kind, .inl (cy 1, 4, .inl m_park_kindf)), (m_park_to, .inl (cy 1, 4, .inl m_park_tof)), (m_v, .inl (cy 1, 32, .inl m_vf)), (m_x, .inl (cy 1, 20, .inl u.1)), (m_left, .inl (cy 1, 20, .inl u.2.1))]) := by
  refine ctI.of (by decide +kernel) (Nat.le_of_ble_eq_true rfl) ?_
  intro p e s m args below meth c A ls Q hQ X hr hlocks hin hA hP hD hS hl
  have hx := X.1
  have hb := X.2.1
  have hK := X.2.2.2.2.2.1
  have hl : lv_has ls 6 [(0, .ref h0), (1, .int p1), (2, .int p2), (3, .int p3)] := hl
  have dy_1 := ti_bd p1
  have dy_2 := ti_bd p2
  have dy_3 := ti_bd p3
  have hpl : 4 ≤ (m_park_wide.toInt * m_park_deep.toInt) ∧ (m_park_wide.toInt * m_park_deep.toInt) ≤ 20 := pl_bd (by omega) (by omega) (by omega) (by omega)
  refine lv_aload_n hx hb dX13_wayStep_0 rfl (lv_at hl 0 rfl) ?_
  refine lv_iload_n hx hb dX13_wayStep_1 rfl (lv_at hl 1 rfl) ?_
  refine sl_Ic (rV_I (As := [.int p1]) (rest := []) X hp_st (fun _ _ _ h => h) (sX13_isWalker l dC dI cy h0 m_thrown m_trouble m_where m_park m_read m_tape m_taped m_size m_spot m_sort m_place m_letters m_number m_fault m_wrongAt m_word m_v m_x m_past m_kept m_acts m_images m_left m_far m_line m_fitsNow m_ditchIn m_treadLeft m_rambledTo m_rambledFalls m_rambledIn m_park_wide m_park_deep m_park_errs m_park_slips m_park_rows m_park_walkers m_park_walks m_park_unsures m_park_sort m_park_unsure m_park_kind m_park_at m_park_to m_park_from m_park_steps m_park_fell m_park_name p1 hm_taped hm_size hm_spot hm_place hm_acts hm_images hm_park_wide hm_park_deep hm_park_rows hm_park_walkers hm_park_walks hm_park_unsures) kX13_isWalker vX13_isWalker mX13_311 hP hD hS hA [0, 1] (by decide) rfl 0 (ci := 12) rfl rfl rfl hl rfl rfl (Nat.le_of_ble_eq_true rfl) dX13_wayStep_2 ⟨(Nat.le_of_ble_eq_true rfl), (Nat.le_of_ble_eq_true rfl)⟩ ⟨(Nat.le_of_ble_eq_true rfl), (Nat.le_of_ble_eq_true rfl)⟩) hP hD hS hA [0, 1] [false, false, true, true, true, true, true] rfl rfl rfl (fun r_4 u_6 H locs k_5 hP hD hS => ?_)
  have k_5 : (0 ≤ r_4.toInt ∧ r_4.toInt ≤ 1) ∧ ((r_4.toInt = 1 ∧ 0 ≤ p1.toInt ∧ p1.toInt < m_park_walkers.toInt) ∨ (r_4.toInt = 0 ∧ (p1.toInt < 0 ∨ m_park_walkers.toInt ≤ p1.toInt))) := k_5
  obtain ⟨k_5_0, k_5_1⟩ := k_5
  have hPD := vPD (ws' := [(m_park_kind, .inl (cy 1, 4, .inl m_park_kindf)), (m_park_to, .inl (cy 1, 4, .inl m_park_tof)), (m_v, .inl (cy 1, 32, .inl m_vf)), (m_x, .inl (cy 1, 20, .inl m_xf)), (m_left, .inl (cy 1, 20, .inl m_leftf)), (h0, .inr (12, [.int m_thrown, .int m_trouble, .int m_where, .ref m_park, m_read, .ref m_tape, .int m_taped, .int m_size, .int m_spot, .int m_sort, .int m_place, .int m_letters, .int m_number, .int m_fault, .int m_wrongAt, .long m_word, .ref m_v, .ref m_x, .ref m_past, .ref m_kept, .int m_acts, .int m_images, .ref m_left, .ref m_far, .ref m_line, .int m_fitsNow, .ref m_ditchIn, .int m_treadLeft, .int m_rambledTo, .int m_rambledFalls, .int m_rambledIn])), (m_park, .inr (11, [.int m_park_wide, .int m_park_deep, .int m_park_errs, .int m_park_slips, .int m_park_rows, .int m_park_walkers, .int m_park_walks, .int m_park_unsures, .ref m_park_sort, .ref m_park_unsure, .ref m_park_kind, .ref m_park_at, .ref m_park_to, .ref m_park_from, .ref m_park_steps, .ref m_park_fell, .ref m_park_name]))]) hP hD rfl
  have hP := hPD.1
  have hD := hPD.2
  refine lv_if_eq (tgt := 12) hx hb dX13_wayStep_5 (by decide) (fun h_7 => ?_) (fun h_7 => ?_)
  · have h_7 : r_4.toInt = 0 := c_eq h_7
    refine lv_aload_n hx hb dX13_wayStep_12 rfl (lv_at hl 0 rfl) ?_
    refine lv_iconst (v := 1) hx hb dX13_wayStep_13 (by decide) ?_
    refine sl_Ic (rV_I (As := [.int 1]) (rest := []) X hp_st (fun _ _ _ h => h) (sX13_refused l dC dI cy h0 m_thrown m_trouble m_where (.ref m_park) m_read m_tape m_taped m_size m_spot m_sort m_place m_letters m_number m_fault m_wrongAt m_word m_v m_x m_past m_kept m_acts m_images m_left m_far m_line m_fitsNow m_ditchIn m_treadLeft m_rambledTo m_rambledFalls m_rambledIn 1 hm_taped hm_size hm_spot hm_place hm_acts hm_images) kX13_refused vX13_refused mX13_48 hP hD hS hA [5] (by decide) rfl 0 (ci := 12) rfl rfl rfl hl rfl rfl (Nat.le_of_ble_eq_true rfl) dX13_wayStep_14 ⟨(Nat.le_of_ble_eq_true rfl), (Nat.le_of_ble_eq_true rfl)⟩ ⟨(Nat.le_of_ble_eq_true rfl), (Nat.le_of_ble_eq_true rfl)⟩) hP hD hS hA [5] [true, true, true, true, true, false, true] rfl rfl rfl (fun r_10 u_12 H locs k_11 hP hD hS => ?_)
    obtain ⟨m_trouble1_8, m_where1_9⟩ := u_12
    have k_11 : (r_10 = -1) ∧ (m_where1_9.toInt = -1) := k_11
    obtain ⟨k_11_0, k_11_1⟩ := k_11
    have hPD := vPD (ws' := [(m_park_kind, .inl (cy 1, 4, .inl m_park_kindf)), (m_park_to, .inl (cy 1, 4, .inl m_park_tof)), (m_v, .inl (cy 1, 32, .inl m_vf)), (m_x, .inl (cy 1, 20, .inl m_xf)), (m_left, .inl (cy 1, 20, .inl m_leftf)), (m_park, .inr (11, [.int m_park_wide, .int m_park_deep, .int m_park_errs, .int m_park_slips, .int m_park_rows, .int m_park_walkers, .int m_park_walks, .int m_park_unsures, .ref m_park_sort, .ref m_park_unsure, .ref m_park_kind, .ref m_park_at, .ref m_park_to, .ref m_park_from, .ref m_park_steps, .ref m_park_fell, .ref m_park_name])), (h0, .inr (12, [.int m_thrown, .int m_trouble1_8, .int m_where1_9, .ref m_park, m_read, .ref m_tape, .int m_taped, .int m_size, .int m_spot, .int m_sort, .int m_place, .int m_letters, .int m_number, .int m_fault, .int m_wrongAt, .long m_word, .ref m_v, .ref m_x, .ref m_past, .ref m_kept, .int m_acts, .int m_images, .ref m_left, .ref m_far, .ref m_line, .int m_fitsNow, .ref m_ditchIn, .int m_treadLeft, .int m_rambledTo, .int m_rambledFalls, .int m_rambledIn]))]) hP hD rfl
    have hP := hPD.1
    have hD := hPD.2
    have er_10 : r_10 = -1 := k_11_0
    subst er_10
    exact eI hQ X hr hlocks hP hD hS (m_xf, m_leftf, m_trouble1_8, m_where1_9) [6, 5, 0, 1, 2, 3, 4] (by decide) rfl rfl (show (rb m_leftf 20 0 9999999) ∧ (m_where1_9.toInt = -1) from ⟨hm_leftf, k_11_1⟩) (Nat.le_of_ble_eq_true rfl) (Nat.le_of_ble_eq_true rfl) dX13_wayStep_17
  · have h_7 : r_4.toInt ≠ 0 := c_ne h_7
    refine lv_iload_n hx hb dX13_wayStep_8 rfl (lv_at hl 2 rfl) ?_
    refine lv_if_ge (tgt := 18) hx hb dX13_wayStep_9 (by decide) (fun h_13 => ?_) (fun h_13 => ?_)
    · have h_13 : 0 ≤ p2.toInt := c_le h_13
      refine lv_aload_n hx hb dX13_wayStep_18 rfl (lv_at hl 0 rfl) ?_
      refine sl_Vc (rV_V (As := []) (rest := []) X hp_st (fun _ _ _ h => h) (sX13_works l dC dI cy h0 m_thrown m_trouble m_where (.ref m_park) m_read m_tape m_taped m_size m_spot m_sort m_place m_letters m_number m_fault m_wrongAt m_word m_v m_x m_past m_kept m_acts m_images m_left m_far m_line m_fitsNow m_ditchIn m_treadLeft m_rambledTo m_rambledFalls m_rambledIn m_vf m_xf hm_taped hm_size hm_spot hm_place hm_acts hm_images) kX13_works vX13_works mX13_317 hP hD hS hA [5, 2, 3] (by decide) rfl 0 (ci := 12) rfl rfl rfl hl rfl rfl (Nat.le_of_ble_eq_true rfl) dX13_wayStep_19 ⟨(Nat.le_of_ble_eq_true rfl), (Nat.le_of_ble_eq_true rfl)⟩ ⟨(Nat.le_of_ble_eq_true rfl), (Nat.le_of_ble_eq_true rfl)⟩) hP hD hS hA [5, 2, 3] [true, true, false, false, true, false, true] rfl rfl rfl (fun u_17 H locs k_16 hP hD hS => ?_)
      obtain ⟨m_xf1_14, eu_17⟩ : ∃ z, z = u_17 := ⟨_, rfl⟩
      subst eu_17
      have k_16 : (cpZ m_vf m_xf1_14 20) := k_16
      have hPD := vPD (ws' := [(m_park_kind, .inl (cy 1, 4, .inl m_park_kindf)), (m_park_to, .inl (cy 1, 4, .inl m_park_tof)), (m_left, .inl (cy 1, 20, .inl m_leftf)), (m_park, .inr (11, [.int m_park_wide, .int m_park_deep, .int m_park_errs, .int m_park_slips, .int m_park_rows, .int m_park_walkers, .int m_park_walks, .int m_park_unsures, .ref m_park_sort, .ref m_park_unsure, .ref m_park_kind, .ref m_park_at, .ref m_park_to, .ref m_park_from, .ref m_park_steps, .ref m_park_fell, .ref m_park_name])), (h0, .inr (12, [.int m_thrown, .int m_trouble, .int m_where, .ref m_park, m_read, .ref m_tape, .int m_taped, .int m_size, .int m_spot, .int m_sort, .int m_place, .int m_letters, .int m_number, .int m_fault, .int m_wrongAt, .long m_word, .ref m_v, .ref m_x, .ref m_past, .ref m_kept, .int m_acts, .int m_images, .ref m_left, .ref m_far, .ref m_line, .int m_fitsNow, .ref m_ditchIn, .int m_treadLeft, .int m_rambledTo, .int m_rambledFalls, .int m_rambledIn])), (m_v, .inl (cy 1, 32, .inl m_vf)), (m_x, .inl (cy 1, 20, .inl m_xf1_14))]) hP hD rfl
      have hP := hPD.1
      have hD := hPD.2
      refine lv_aload_n hx hb dX13_wayStep_22 rfl (lv_at hl 0 rfl) ?_
      refine lv_iload_n hx hb dX13_wayStep_23 rfl (lv_at hl 1 rfl) ?_
      refine lv_iload_n hx hb dX13_wayStep_24 rfl (lv_at hl 3 rfl) ?_
      refine sl_Ic (rV_I (As := [.int p1, .int p3]) (rest := []) X hp_st (fun _ _ _ h => h) (sX13_way l dC dI cy h0 m_thrown m_trouble m_where m_park m_read m_tape m_taped m_size m_spot m_sort m_place m_letters m_number m_fault m_wrongAt m_word m_v m_x m_past m_kept m_acts m_images m_left m_far m_line m_fitsNow m_ditchIn m_treadLeft m_rambledTo m_rambledFalls m_rambledIn m_park_wide m_park_deep m_park_errs m_park_slips m_park_rows m_park_walkers m_park_walks m_park_unsures m_park_sort m_park_unsure m_park_kind m_park_at m_park_to m_park_from m_park_steps m_park_fell m_park_name m_park_kindf m_park_tof m_vf m_xf1_14 m_leftf p1 p3 hm_taped hm_size hm_spot hm_place hm_acts hm_images hm_park_wide hm_park_deep hm_park_rows hm_park_walkers hm_park_walks hm_park_unsures hm_park_tof hm_leftf hvI (by first | decide | omega)) kX13_way vX13_way mX13_323 hP hD hS hA [4, 3, 0, 1, 5, 6, 2] (by decide) rfl 0 (ci := 12) rfl rfl rfl hl rfl rfl (Nat.le_of_ble_eq_true rfl) dX13_wayStep_25 ⟨(Nat.le_of_ble_eq_true rfl), (Nat.le_of_ble_eq_true rfl)⟩ ⟨(Nat.le_of_ble_eq_true rfl), (Nat.le_of_ble_eq_true rfl)⟩) hP hD hS hA [4, 3, 0, 1, 5, 6, 2] [false, false, false, false, false, false, false] rfl rfl rfl (fun r_19 u_21 H locs k_20 hP hD hS => ?_)
      obtain ⟨m_leftf1_18, eu_21⟩ : ∃ z, z = u_21 := ⟨_, rfl⟩
      subst eu_21
      have k_20 : (0 ≤ r_19.toInt ∧ r_19.toInt ≤ 9999999) ∧ (rb m_leftf1_18 20 0 9999999) ∧ (stI m_park_wide.toInt m_park_deep.toInt m_xf1_14 (m_park_kindf (Int.toNat p1.toInt)).toInt p3.toInt m_leftf1_18) ∧ (r_19.toInt = (m_leftf1_18 (Int.toNat (m_vf (Int.toNat (20 + p1.toInt))).toInt)).toInt) := k_20
      obtain ⟨k_20_0, k_20_1, k_20_2, k_20_3⟩ := k_20
      have hPD := vPD (ws' := [(h0, .inr (12, [.int m_thrown, .int m_trouble, .int m_where, .ref m_park, m_read, .ref m_tape, .int m_taped, .int m_size, .int m_spot, .int m_sort, .int m_place, .int m_letters, .int m_number, .int m_fault, .int m_wrongAt, .long m_word, .ref m_v, .ref m_x, .ref m_past, .ref m_kept, .int m_acts, .int m_images, .ref m_left, .ref m_far, .ref m_line, .int m_fitsNow, .ref m_ditchIn, .int m_treadLeft, .int m_rambledTo, .int m_rambledFalls, .int m_rambledIn])), (m_park, .inr (11, [.int m_park_wide, .int m_park_deep, .int m_park_errs, .int m_park_slips, .int m_park_rows, .int m_park_walkers, .int m_park_walks, .int m_park_unsures, .ref m_park_sort, .ref m_park_unsure, .ref m_park_kind, .ref m_park_at, .ref m_park_to, .ref m_park_from, .ref m_park_steps, .ref m_park_fell, .ref m_park_name])), (m_park_kind, .inl (cy 1, 4, .inl m_park_kindf)), (m_park_to, .inl (cy 1, 4, .inl m_park_tof)), (m_v, .inl (cy 1, 32, .inl m_vf)), (m_x, .inl (cy 1, 20, .inl m_xf1_14)), (m_left, .inl (cy 1, 20, .inl m_leftf1_18))]) hP hD rfl
      have hP := hPD.1
      have hD := hPD.2
      refine lv_ldcw (v := 9999999) hx hb X.2.2.2.1 (X.2.2.2.2.1 _ w_1715) dX13_wayStep_28 ?_
      refine lv_icmp_ne (tgt := 40) hx hb dX13_wayStep_31 (by decide) (fun h_22 => ?_) (fun h_22 => ?_)
      · have h_22 : r_19.toInt ≠ 9999999 := c_ne h_22
        refine lv_aload_n hx hb dX13_wayStep_40 rfl (lv_at hl 0 rfl) ?_
        refine r_get X kcX13 (ci := 12) rfl hP 0 rfl 16 (by decide) fX13_17 rfl dX13_wayStep_41 ?_
        refine lv_bipush (v := 20) hx hb dX13_wayStep_44 (by decide) ?_
        refine lv_iload_n hx hb dX13_wayStep_46 rfl (lv_at hl 1 rfl) ?_
        refine lv_iadd hx hb dX13_wayStep_47 ?_
        refine lv_topi (fun x_23 ex_23 => ?_)
        have tx_23 : x_23.toInt = 20 + p1.toInt := ti_add (A := 20) (B := p1.toInt) ex_23 rfl rfl (by omega) (by omega)
        refine va_iald (D := (dC, dI)) (cl := vwCl) hx hb hK hP 4 1 rfl rfl (i := x_23) (vin (by omega) (by omega)) dX13_wayStep_48 ?_
        refine lv_topi (fun x_24 ex_24 => ?_)
        have bx_24 : 0 ≤ x_24.toInt ∧ x_24.toInt < (m_park_wide.toInt * m_park_deep.toInt) := rI_at (by assumption) ex_24 (by omega) (by omega)
        have gv : (m_vf (Int.toNat (20 + p1.toInt))).toInt = x_24.toInt := rd_at ex_24 (by omega)
        rw [gv] at k_20_3
        refine lv_istore (lv' := [(4, .int x_24), (0, .ref h0), (1, .int p1), (2, .int p2), (3, .int p3)]) hx hb dX13_wayStep_49 hl (by decide) rfl (fun ls hl => ?_)
        refine lv_iconst (v := 0) hx hb dX13_wayStep_51 (by decide) ?_
        refine lv_istore (lv' := [(5, .int 0), (4, .int x_24), (0, .ref h0), (1, .int p1), (2, .int p2), (3, .int p3)]) hx hb dX13_wayStep_52 hl (by decide) rfl (fun ls hl => ?_)
        have lp_25 : ∀ (nlp_25 : Nat) (i_26 : Int32) (i_28 : Int32) (H : Heap) (locs : List Loc) (ls : Array Slot), (0 ≤ i_26.toInt) → (0 ≤ i_28.toInt ∧ i_28.toInt ≤ 19) → (i_28.toInt < (m_park_wide.toInt * m_park_deep.toInt)) → ((m_leftf1_18 (Int.toNat i_28.toInt)).toInt ≠ 9999999) → (i_26.toInt ≤ p2.toInt) → (p2.toInt - i_26.toInt + 1 ≤ (nlp_25 : Int)) → va_P (dC, dI) vwCl [(h0, .inr (12, [.int m_thrown, .int m_trouble, .int m_where, .ref m_park, m_read, .ref m_tape, .int m_taped, .int m_size, .int m_spot, .int m_sort, .int m_place, .int m_letters, .int m_number, .int m_fault, .int m_wrongAt, .long m_word, .ref m_v, .ref m_x, .ref m_past, .ref m_kept, .int m_acts, .int m_images, .ref m_left, .ref m_far, .ref m_line, .int m_fitsNow, .ref m_ditchIn, .int m_treadLeft, .int m_rambledTo, .int m_rambledFalls, .int m_rambledIn])), (m_park, .inr (11, [.int m_park_wide, .int m_park_deep, .int m_park_errs, .int m_park_slips, .int m_park_rows, .int m_park_walkers, .int m_park_walks, .int m_park_unsures, .ref m_park_sort, .ref m_park_unsure, .ref m_park_kind, .ref m_park_at, .ref m_park_to, .ref m_park_from, .ref m_park_steps, .ref m_park_fell, .ref m_park_name])), (m_park_kind, .inl (cy 1, 4, .inl m_park_kindf)), (m_park_to, .inl (cy 1, 4, .inl m_park_tof)), (m_v, .inl (cy 1, 32, .inl m_vf)), (m_x, .inl (cy 1, 20, .inl m_xf1_14)), (m_left, .inl (cy 1, 20, .inl m_leftf1_18))] H → va_D A [(h0, .inr (12, [.int m_thrown, .int m_trouble, .int m_where, .ref m_park, m_read, .ref m_tape, .int m_taped, .int m_size, .int m_spot, .int m_sort, .int m_place, .int m_letters, .int m_number, .int m_fault, .int m_wrongAt, .long m_word, .ref m_v, .ref m_x, .ref m_past, .ref m_kept, .int m_acts, .int m_images, .ref m_left, .ref m_far, .ref m_line, .int m_fitsNow, .ref m_ditchIn, .int m_treadLeft, .int m_rambledTo, .int m_rambledFalls, .int m_rambledIn])), (m_park, .inr (11, [.int m_park_wide, .int m_park_deep, .int m_park_errs, .int m_park_slips, .int m_park_rows, .int m_park_walkers, .int m_park_walks, .int m_park_unsures, .ref m_park_sort, .ref m_park_unsure, .ref m_park_kind, .ref m_park_at, .ref m_park_to, .ref m_park_from, .ref m_park_steps, .ref m_park_fell, .ref m_park_name])), (m_park_kind, .inl (cy 1, 4, .inl m_park_kindf)), (m_park_to, .inl (cy 1, 4, .inl m_park_tof)), (m_v, .inl (cy 1, 32, .inl m_vf)), (m_x, .inl (cy 1, 20, .inl m_xf1_14)), (m_left, .inl (cy 1, 20, .inl m_leftf1_18))] → va_S A s.heap H locs → lv_has ls 6 [(5, .int i_26), (4, .int i_28), (0, .ref h0), (1, .int p1), (2, .int p2), (3, .int p3)] → W p l e ({ frames := 6, cells := 0, slots := 0, locals := 142 } : Room) s m args below meth c H locs 0 0 Q (F0 m 54 ls []) := by
          intro nlp_25
          induction nlp_25 with
          | zero =>
            intro i_26 i_28 H locs ls b_27 b_29 b_30 b_31 b_32 hmlp_25 hP hD hS hl
            exfalso
            have di_26 := ti_bd i_26
            have di_28 := ti_bd i_28
            omega
          | succ nlp_25 ihlp_25 =>
            intro i_26 i_28 H locs ls b_27 b_29 b_30 b_31 b_32 hmlp_25 hP hD hS hl
            refine lv_iload hx hb dX13_wayStep_54 (lv_at hl 0 rfl) ?_
            refine lv_iload_n hx hb dX13_wayStep_56 rfl (lv_at hl 4 rfl) ?_
            refine lv_icmp_ge (tgt := 92) hx hb dX13_wayStep_57 (by decide) (fun h_33 => ?_) (fun h_33 => ?_)
            · have h_33 : p2.toInt ≤ i_26.toInt := c_le h_33
              refine lv_aload_n hx hb dX13_wayStep_92 rfl (lv_at hl 2 rfl) ?_
              refine r_get X kcX13 (ci := 12) rfl hP 0 rfl 22 (by decide) fX13_30 rfl dX13_wayStep_93 ?_
              refine lv_iload hx hb dX13_wayStep_96 (lv_at hl 1 rfl) ?_
              refine va_iald (D := (dC, dI)) (cl := vwCl) hx hb hK hP 6 1 rfl rfl (i := i_28) (vin (by omega) (by omega)) dX13_wayStep_98 ?_
              refine lv_topi (fun x_34 ex_34 => ?_)
              have bx_34 : 0 ≤ x_34.toInt ∧ x_34.toInt ≤ 9999999 := rb_at k_20_1 ex_34 (by omega) (by omega)
              have gx_34 : (m_leftf1_18 (i_28.toInt).toNat).toInt = x_34.toInt := rd_at ex_34 rfl
              refine lv_if_le (tgt := 117) hx hb dX13_wayStep_99 (by decide) (fun h_35 => ?_) (fun h_35 => ?_)
              · have h_35 : x_34.toInt ≤ 0 := c_le h_35
                refine lv_aload_n hx hb dX13_wayStep_117 rfl (lv_at hl 2 rfl) ?_
                refine lv_iconst (v := 1) hx hb dX13_wayStep_118 (by decide) ?_
                refine sl_Ic (rV_I (As := [.int 1]) (rest := []) X hp_st (fun _ _ _ h => h) (sX13_refused l dC dI cy h0 m_thrown m_trouble m_where (.ref m_park) m_read m_tape m_taped m_size m_spot m_sort m_place m_letters m_number m_fault m_wrongAt m_word m_v m_x m_past m_kept m_acts m_images m_left m_far m_line m_fitsNow m_ditchIn m_treadLeft m_rambledTo m_rambledFalls m_rambledIn 1 hm_taped hm_size hm_spot hm_place hm_acts hm_images) kX13_refused vX13_refused mX13_48 hP hD hS hA [0] (by decide) rfl 0 (ci := 12) rfl rfl rfl hl rfl rfl (Nat.le_of_ble_eq_true rfl) dX13_wayStep_119 ⟨(Nat.le_of_ble_eq_true rfl), (Nat.le_of_ble_eq_true rfl)⟩ ⟨(Nat.le_of_ble_eq_true rfl), (Nat.le_of_ble_eq_true rfl)⟩) hP hD hS hA [0] [false, true, true, true, true, true, true] rfl rfl rfl (fun r_38 u_40 H locs k_39 hP hD hS => ?_)
                obtain ⟨m_trouble1_36, m_where1_37⟩ := u_40
                have k_39 : (r_38 = -1) ∧ (m_where1_37.toInt = -1) := k_39
                obtain ⟨k_39_0, k_39_1⟩ := k_39
                have hPD := vPD (ws' := [(m_park, .inr (11, [.int m_park_wide, .int m_park_deep, .int m_park_errs, .int m_park_slips, .int m_park_rows, .int m_park_walkers, .int m_park_walks, .int m_park_unsures, .ref m_park_sort, .ref m_park_unsure, .ref m_park_kind, .ref m_park_at, .ref m_park_to, .ref m_park_from, .ref m_park_steps, .ref m_park_fell, .ref m_park_name])), (m_park_kind, .inl (cy 1, 4, .inl m_park_kindf)), (m_park_to, .inl (cy 1, 4, .inl m_park_tof)), (m_v, .inl (cy 1, 32, .inl m_vf)), (m_x, .inl (cy 1, 20, .inl m_xf1_14)), (m_left, .inl (cy 1, 20, .inl m_leftf1_18)), (h0, .inr (12, [.int m_thrown, .int m_trouble1_36, .int m_where1_37, .ref m_park, m_read, .ref m_tape, .int m_taped, .int m_size, .int m_spot, .int m_sort, .int m_place, .int m_letters, .int m_number, .int m_fault, .int m_wrongAt, .long m_word, .ref m_v, .ref m_x, .ref m_past, .ref m_kept, .int m_acts, .int m_images, .ref m_left, .ref m_far, .ref m_line, .int m_fitsNow, .ref m_ditchIn, .int m_treadLeft, .int m_rambledTo, .int m_rambledFalls, .int m_rambledIn]))]) hP hD rfl
                have hP := hPD.1
                have hD := hPD.2
                have er_38 : r_38 = -1 := k_39_0
                subst er_38
                exact eI hQ X hr hlocks hP hD hS (m_xf1_14, m_leftf1_18, m_trouble1_36, m_where1_37) [6, 0, 1, 2, 3, 4, 5] (by decide) rfl rfl (show (rb m_leftf1_18 20 0 9999999) ∧ (m_where1_37.toInt = -1) from ⟨k_20_1, k_39_1⟩) (Nat.le_of_ble_eq_true rfl) (Nat.le_of_ble_eq_true rfl) dX13_wayStep_122
              · have h_35 : 0 < x_34.toInt := c_nle h_35
                refine lv_aload_n hx hb dX13_wayStep_102 rfl (lv_at hl 2 rfl) ?_
                refine lv_aload_n hx hb dX13_wayStep_103 rfl (lv_at hl 2 rfl) ?_
                refine lv_iload_n hx hb dX13_wayStep_104 rfl (lv_at hl 3 rfl) ?_
                refine lv_iload hx hb dX13_wayStep_105 (lv_at hl 1 rfl) ?_
                refine lv_iload_n hx hb dX13_wayStep_107 rfl (lv_at hl 5 rfl) ?_
                refine sl_Ic (rV_I (As := [.int p1, .int i_28, .int p3]) (rest := [.ref h0]) X hp_st (fun _ _ _ h => h) (sX13_stepFrom l dC dI cy h0 m_thrown m_trouble m_where m_park m_read m_tape m_taped m_size m_spot m_sort m_place m_letters m_number m_fault m_wrongAt m_word m_v m_x m_past m_kept m_acts m_images m_left m_far m_line m_fitsNow m_ditchIn m_treadLeft m_rambledTo m_rambledFalls m_rambledIn m_park_wide m_park_deep m_park_errs m_park_slips m_park_rows m_park_walkers m_park_walks m_park_unsures m_park_sort m_park_unsure m_park_kind m_park_at m_park_to m_park_from m_park_steps m_park_fell m_park_name m_park_kindf m_xf1_14 m_leftf1_18 p1 i_28 p3 hm_taped hm_size hm_spot hm_place hm_acts hm_images hm_park_wide hm_park_deep hm_park_rows hm_park_walkers hm_park_walks hm_park_unsures k_20_1 (by first | decide | omega) b_29 (by omega) k_20_2 (by first | decide | omega) b_31) kX13_stepFrom vX13_stepFrom mX13_327 hP hD hS hA [0, 1, 2, 5, 6] (by decide) rfl 0 (ci := 12) rfl rfl rfl hl rfl rfl (Nat.le_of_ble_eq_true rfl) dX13_wayStep_108 ⟨(Nat.le_of_ble_eq_true rfl), (Nat.le_of_ble_eq_true rfl)⟩ ⟨(Nat.le_of_ble_eq_true rfl), (Nat.le_of_ble_eq_true rfl)⟩) hP hD hS hA [0, 1, 2, 5, 6] [false, false, false, true, true, false, false] rfl rfl rfl (fun r_41 u_43 H locs k_42 hP hD hS => ?_)
                have k_42 : (0 ≤ r_41.toInt ∧ r_41.toInt ≤ 3) ∧ (laF m_park_wide.toInt m_park_deep.toInt m_xf1_14 (m_park_kindf (Int.toNat p1.toInt)).toInt i_28.toInt r_41.toInt ≠ -2) ∧ ((m_leftf1_18 (Int.toNat (onF m_park_wide.toInt m_park_deep.toInt i_28.toInt r_41.toInt))).toInt ≠ 9999999) ∧ (weF m_park_wide.toInt m_park_deep.toInt m_xf1_14 (m_park_kindf (Int.toNat p1.toInt)).toInt i_28.toInt r_41.toInt p3.toInt + (m_leftf1_18 (Int.toNat (onF m_park_wide.toInt m_park_deep.toInt i_28.toInt r_41.toInt))).toInt = (m_leftf1_18 (Int.toNat i_28.toInt)).toInt) := k_42
                obtain ⟨k_42_0, k_42_1, k_42_2, k_42_3⟩ := k_42
                have hPD := vPD (ws' := [(m_park_to, .inl (cy 1, 4, .inl m_park_tof)), (m_v, .inl (cy 1, 32, .inl m_vf)), (h0, .inr (12, [.int m_thrown, .int m_trouble, .int m_where, .ref m_park, m_read, .ref m_tape, .int m_taped, .int m_size, .int m_spot, .int m_sort, .int m_place, .int m_letters, .int m_number, .int m_fault, .int m_wrongAt, .long m_word, .ref m_v, .ref m_x, .ref m_past, .ref m_kept, .int m_acts, .int m_images, .ref m_left, .ref m_far, .ref m_line, .int m_fitsNow, .ref m_ditchIn, .int m_treadLeft, .int m_rambledTo, .int m_rambledFalls, .int m_rambledIn])), (m_park, .inr (11, [.int m_park_wide, .int m_park_deep, .int m_park_errs, .int m_park_slips, .int m_park_rows, .int m_park_walkers, .int m_park_walks, .int m_park_unsures, .ref m_park_sort, .ref m_park_unsure, .ref m_park_kind, .ref m_park_at, .ref m_park_to, .ref m_park_from, .ref m_park_steps, .ref m_park_fell, .ref m_park_name])), (m_park_kind, .inl (cy 1, 4, .inl m_park_kindf)), (m_x, .inl (cy 1, 20, .inl m_xf1_14)), (m_left, .inl (cy 1, 20, .inl m_leftf1_18))]) hP hD rfl
                have hP := hPD.1
                have hD := hPD.2
                refine sl_Ic (rV_I (As := [.int r_41]) (rest := []) X hp_st (fun _ _ _ h => h) (sX13_good l dC dI cy h0 m_thrown m_trouble m_where (.ref m_park) m_read m_tape m_taped m_size m_spot m_sort m_place m_letters m_number m_fault m_wrongAt m_word m_v m_x m_past m_kept m_acts m_images m_left m_far m_line m_fitsNow m_ditchIn m_treadLeft m_rambledTo m_rambledFalls m_rambledIn r_41 hm_taped hm_size hm_spot hm_place hm_acts hm_images) kX13_good vX13_good mX13_52 hP hD hS hA [2] (by decide) rfl 0 (ci := 12) rfl rfl rfl hl rfl rfl (Nat.le_of_ble_eq_true rfl) dX13_wayStep_111 ⟨(Nat.le_of_ble_eq_true rfl), (Nat.le_of_ble_eq_true rfl)⟩ ⟨(Nat.le_of_ble_eq_true rfl), (Nat.le_of_ble_eq_true rfl)⟩) hP hD hS hA [2] [true, true, false, true, true, true, true] rfl rfl rfl (fun r_46 u_48 H locs k_47 hP hD hS => ?_)
                obtain ⟨m_trouble1_44, m_where1_45⟩ := u_48
                have k_47 : (r_46.toInt = r_41.toInt) ∧ (m_where1_45.toInt = -1) := k_47
                obtain ⟨k_47_0, k_47_1⟩ := k_47
                have hPD := vPD (ws' := [(m_park_to, .inl (cy 1, 4, .inl m_park_tof)), (m_v, .inl (cy 1, 32, .inl m_vf)), (m_park, .inr (11, [.int m_park_wide, .int m_park_deep, .int m_park_errs, .int m_park_slips, .int m_park_rows, .int m_park_walkers, .int m_park_walks, .int m_park_unsures, .ref m_park_sort, .ref m_park_unsure, .ref m_park_kind, .ref m_park_at, .ref m_park_to, .ref m_park_from, .ref m_park_steps, .ref m_park_fell, .ref m_park_name])), (m_park_kind, .inl (cy 1, 4, .inl m_park_kindf)), (m_x, .inl (cy 1, 20, .inl m_xf1_14)), (m_left, .inl (cy 1, 20, .inl m_leftf1_18)), (h0, .inr (12, [.int m_thrown, .int m_trouble1_44, .int m_where1_45, .ref m_park, m_read, .ref m_tape, .int m_taped, .int m_size, .int m_spot, .int m_sort, .int m_place, .int m_letters, .int m_number, .int m_fault, .int m_wrongAt, .long m_word, .ref m_v, .ref m_x, .ref m_past, .ref m_kept, .int m_acts, .int m_images, .ref m_left, .ref m_far, .ref m_line, .int m_fitsNow, .ref m_ditchIn, .int m_treadLeft, .int m_rambledTo, .int m_rambledFalls, .int m_rambledIn]))]) hP hD rfl
                have hP := hPD.1
                have hD := hPD.2
                refine lv_goto (tgt := 122) hx hb dX13_wayStep_114 (by decide) ?_
                exact eI hQ X hr hlocks hP hD hS (m_xf1_14, m_leftf1_18, m_trouble1_44, m_where1_45) [6, 2, 3, 0, 1, 4, 5] (by decide) rfl rfl (show (rb m_leftf1_18 20 0 9999999) ∧ (m_where1_45.toInt = -1) from ⟨k_20_1, k_47_1⟩) (Nat.le_of_ble_eq_true rfl) (Nat.le_of_ble_eq_true rfl) dX13_wayStep_122
            · have h_33 : i_26.toInt < p2.toInt := c_nle h_33
              refine lv_aload_n hx hb dX13_wayStep_60 rfl (lv_at hl 2 rfl) ?_
              refine r_get X kcX13 (ci := 12) rfl hP 0 rfl 22 (by decide) fX13_30 rfl dX13_wayStep_61 ?_
              refine lv_iload hx hb dX13_wayStep_64 (lv_at hl 1 rfl) ?_
              refine va_iald (D := (dC, dI)) (cl := vwCl) hx hb hK hP 6 1 rfl rfl (i := i_28) (vin (by omega) (by omega)) dX13_wayStep_66 ?_
              refine lv_topi (fun x_49 ex_49 => ?_)
              have bx_49 : 0 ≤ x_49.toInt ∧ x_49.toInt ≤ 9999999 := rb_at k_20_1 ex_49 (by omega) (by omega)
              have gx_49 : (m_leftf1_18 (i_28.toInt).toNat).toInt = x_49.toInt := rd_at ex_49 rfl
              refine lv_if_le (tgt := 92) hx hb dX13_wayStep_67 (by decide) (fun h_50 => ?_) (fun h_50 => ?_)
              · have h_50 : x_49.toInt ≤ 0 := c_le h_50
                refine lv_aload_n hx hb dX13_wayStep_92 rfl (lv_at hl 2 rfl) ?_
                refine r_get X kcX13 (ci := 12) rfl hP 0 rfl 22 (by decide) fX13_30 rfl dX13_wayStep_93 ?_
                refine lv_iload hx hb dX13_wayStep_96 (lv_at hl 1 rfl) ?_
                refine va_iald (D := (dC, dI)) (cl := vwCl) hx hb hK hP 6 1 rfl rfl (i := i_28) (vin (by omega) (by omega)) dX13_wayStep_98 ?_
                refine lv_topi (fun x_51 ex_51 => ?_)
                have qx_51 : x_49 = x_51 := ex_49.trans ex_51.symm
                subst qx_51
                refine lv_if_le (tgt := 117) hx hb dX13_wayStep_99 (by decide) (fun h_52 => ?_) (fun h_52 => ?_)
                · have h_52 : x_49.toInt ≤ 0 := c_le h_52
                  refine lv_aload_n hx hb dX13_wayStep_117 rfl (lv_at hl 2 rfl) ?_
                  refine lv_iconst (v := 1) hx hb dX13_wayStep_118 (by decide) ?_
                  refine sl_Ic (rV_I (As := [.int 1]) (rest := []) X hp_st (fun _ _ _ h => h) (sX13_refused l dC dI cy h0 m_thrown m_trouble m_where (.ref m_park) m_read m_tape m_taped m_size m_spot m_sort m_place m_letters m_number m_fault m_wrongAt m_word m_v m_x m_past m_kept m_acts m_images m_left m_far m_line m_fitsNow m_ditchIn m_treadLeft m_rambledTo m_rambledFalls m_rambledIn 1 hm_taped hm_size hm_spot hm_place hm_acts hm_images) kX13_refused vX13_refused mX13_48 hP hD hS hA [0] (by decide) rfl 0 (ci := 12) rfl rfl rfl hl rfl rfl (Nat.le_of_ble_eq_true rfl) dX13_wayStep_119 ⟨(Nat.le_of_ble_eq_true rfl), (Nat.le_of_ble_eq_true rfl)⟩ ⟨(Nat.le_of_ble_eq_true rfl), (Nat.le_of_ble_eq_true rfl)⟩) hP hD hS hA [0] [false, true, true, true, true, true, true] rfl rfl rfl (fun r_55 u_57 H locs k_56 hP hD hS => ?_)
                  obtain ⟨m_trouble1_53, m_where1_54⟩ := u_57
                  have k_56 : (r_55 = -1) ∧ (m_where1_54.toInt = -1) := k_56
                  obtain ⟨k_56_0, k_56_1⟩ := k_56
                  have hPD := vPD (ws' := [(m_park, .inr (11, [.int m_park_wide, .int m_park_deep, .int m_park_errs, .int m_park_slips, .int m_park_rows, .int m_park_walkers, .int m_park_walks, .int m_park_unsures, .ref m_park_sort, .ref m_park_unsure, .ref m_park_kind, .ref m_park_at, .ref m_park_to, .ref m_park_from, .ref m_park_steps, .ref m_park_fell, .ref m_park_name])), (m_park_kind, .inl (cy 1, 4, .inl m_park_kindf)), (m_park_to, .inl (cy 1, 4, .inl m_park_tof)), (m_v, .inl (cy 1, 32, .inl m_vf)), (m_x, .inl (cy 1, 20, .inl m_xf1_14)), (m_left, .inl (cy 1, 20, .inl m_leftf1_18)), (h0, .inr (12, [.int m_thrown, .int m_trouble1_53, .int m_where1_54, .ref m_park, m_read, .ref m_tape, .int m_taped, .int m_size, .int m_spot, .int m_sort, .int m_place, .int m_letters, .int m_number, .int m_fault, .int m_wrongAt, .long m_word, .ref m_v, .ref m_x, .ref m_past, .ref m_kept, .int m_acts, .int m_images, .ref m_left, .ref m_far, .ref m_line, .int m_fitsNow, .ref m_ditchIn, .int m_treadLeft, .int m_rambledTo, .int m_rambledFalls, .int m_rambledIn]))]) hP hD rfl
                  have hP := hPD.1
                  have hD := hPD.2
                  have er_55 : r_55 = -1 := k_56_0
                  subst er_55
                  exact eI hQ X hr hlocks hP hD hS (m_xf1_14, m_leftf1_18, m_trouble1_53, m_where1_54) [6, 0, 1, 2, 3, 4, 5] (by decide) rfl rfl (show (rb m_leftf1_18 20 0 9999999) ∧ (m_where1_54.toInt = -1) from ⟨k_20_1, k_56_1⟩) (Nat.le_of_ble_eq_true rfl) (Nat.le_of_ble_eq_true rfl) dX13_wayStep_122
                · have h_52 : 0 < x_49.toInt := c_nle h_52
                  exfalso
                  omega
              · have h_50 : 0 < x_49.toInt := c_nle h_50
                refine lv_aload_n hx hb dX13_wayStep_70 rfl (lv_at hl 2 rfl) ?_
                refine lv_iload hx hb dX13_wayStep_71 (lv_at hl 1 rfl) ?_
                refine lv_aload_n hx hb dX13_wayStep_73 rfl (lv_at hl 2 rfl) ?_
                refine lv_iload_n hx hb dX13_wayStep_74 rfl (lv_at hl 3 rfl) ?_
                refine lv_iload hx hb dX13_wayStep_75 (lv_at hl 1 rfl) ?_
                refine lv_iload_n hx hb dX13_wayStep_77 rfl (lv_at hl 5 rfl) ?_
                refine sl_Ic (rV_I (As := [.int p1, .int i_28, .int p3]) (rest := [.int i_28, .ref h0]) X hp_st (fun _ _ _ h => h) (sX13_stepFrom l dC dI cy h0 m_thrown m_trouble m_where m_park m_read m_tape m_taped m_size m_spot m_sort m_place m_letters m_number m_fault m_wrongAt m_word m_v m_x m_past m_kept m_acts m_images m_left m_far m_line m_fitsNow m_ditchIn m_treadLeft m_rambledTo m_rambledFalls m_rambledIn m_park_wide m_park_deep m_park_errs m_park_slips m_park_rows m_park_walkers m_park_walks m_park_unsures m_park_sort m_park_unsure m_park_kind m_park_at m_park_to m_park_from m_park_steps m_park_fell m_park_name m_park_kindf m_xf1_14 m_leftf1_18 p1 i_28 p3 hm_taped hm_size hm_spot hm_place hm_acts hm_images hm_park_wide hm_park_deep hm_park_rows hm_park_walkers hm_park_walks hm_park_unsures k_20_1 (by first | decide | omega) b_29 (by omega) k_20_2 (by first | decide | omega) b_31) kX13_stepFrom vX13_stepFrom mX13_327 hP hD hS hA [0, 1, 2, 5, 6] (by decide) rfl 0 (ci := 12) rfl rfl rfl hl rfl rfl (Nat.le_of_ble_eq_true rfl) dX13_wayStep_78 ⟨(Nat.le_of_ble_eq_true rfl), (Nat.le_of_ble_eq_true rfl)⟩ ⟨(Nat.le_of_ble_eq_true rfl), (Nat.le_of_ble_eq_true rfl)⟩) hP hD hS hA [0, 1, 2, 5, 6] [false, false, false, true, true, false, false] rfl rfl rfl (fun r_58 u_60 H locs k_59 hP hD hS => ?_)
                have k_59 : (0 ≤ r_58.toInt ∧ r_58.toInt ≤ 3) ∧ (laF m_park_wide.toInt m_park_deep.toInt m_xf1_14 (m_park_kindf (Int.toNat p1.toInt)).toInt i_28.toInt r_58.toInt ≠ -2) ∧ ((m_leftf1_18 (Int.toNat (onF m_park_wide.toInt m_park_deep.toInt i_28.toInt r_58.toInt))).toInt ≠ 9999999) ∧ (weF m_park_wide.toInt m_park_deep.toInt m_xf1_14 (m_park_kindf (Int.toNat p1.toInt)).toInt i_28.toInt r_58.toInt p3.toInt + (m_leftf1_18 (Int.toNat (onF m_park_wide.toInt m_park_deep.toInt i_28.toInt r_58.toInt))).toInt = (m_leftf1_18 (Int.toNat i_28.toInt)).toInt) := k_59
                obtain ⟨k_59_0, k_59_1, k_59_2, k_59_3⟩ := k_59
                have hPD := vPD (ws' := [(m_park_to, .inl (cy 1, 4, .inl m_park_tof)), (m_v, .inl (cy 1, 32, .inl m_vf)), (h0, .inr (12, [.int m_thrown, .int m_trouble, .int m_where, .ref m_park, m_read, .ref m_tape, .int m_taped, .int m_size, .int m_spot, .int m_sort, .int m_place, .int m_letters, .int m_number, .int m_fault, .int m_wrongAt, .long m_word, .ref m_v, .ref m_x, .ref m_past, .ref m_kept, .int m_acts, .int m_images, .ref m_left, .ref m_far, .ref m_line, .int m_fitsNow, .ref m_ditchIn, .int m_treadLeft, .int m_rambledTo, .int m_rambledFalls, .int m_rambledIn])), (m_park, .inr (11, [.int m_park_wide, .int m_park_deep, .int m_park_errs, .int m_park_slips, .int m_park_rows, .int m_park_walkers, .int m_park_walks, .int m_park_unsures, .ref m_park_sort, .ref m_park_unsure, .ref m_park_kind, .ref m_park_at, .ref m_park_to, .ref m_park_from, .ref m_park_steps, .ref m_park_fell, .ref m_park_name])), (m_park_kind, .inl (cy 1, 4, .inl m_park_kindf)), (m_x, .inl (cy 1, 20, .inl m_xf1_14)), (m_left, .inl (cy 1, 20, .inl m_leftf1_18))]) hP hD rfl
                have hP := hPD.1
                have hD := hPD.2
                have hlo := la_on (show laF m_park_wide.toInt m_park_deep.toInt m_xf1_14 (m_park_kindf (Int.toNat p1.toInt)).toInt i_28.toInt r_58.toInt ≠ -2 by omega)
                refine sl_Ic (rV_I (As := [.int i_28, .int r_58]) (rest := []) X hp_st (fun _ _ _ h => h) (sX13_onto l dC dI cy h0 m_thrown m_trouble m_where m_park m_read m_tape m_taped m_size m_spot m_sort m_place m_letters m_number m_fault m_wrongAt m_word m_v m_x m_past m_kept m_acts m_images m_left m_far m_line m_fitsNow m_ditchIn m_treadLeft m_rambledTo m_rambledFalls m_rambledIn m_park_wide m_park_deep m_park_errs m_park_slips m_park_rows m_park_walkers m_park_walks m_park_unsures m_park_sort m_park_unsure m_park_kind m_park_at m_park_to m_park_from m_park_steps m_park_fell m_park_name i_28 r_58 hm_taped hm_size hm_spot hm_place hm_acts hm_images hm_park_wide hm_park_deep hm_park_rows hm_park_walkers hm_park_walks hm_park_unsures b_29 (by omega)) kX13_onto vX13_onto mX13_280 hP hD hS hA [2, 3] (by decide) rfl 0 (ci := 12) rfl rfl rfl hl rfl rfl (Nat.le_of_ble_eq_true rfl) dX13_wayStep_81 ⟨(Nat.le_of_ble_eq_true rfl), (Nat.le_of_ble_eq_true rfl)⟩ ⟨(Nat.le_of_ble_eq_true rfl), (Nat.le_of_ble_eq_true rfl)⟩) hP hD hS hA [2, 3] [true, true, false, false, true, true, true] rfl rfl rfl (fun r_61 u_63 H locs k_62 hP hD hS => ?_)
                have k_62 : ((-2) ≤ r_61.toInt ∧ r_61.toInt ≤ 19) ∧ (r_61.toInt = onF m_park_wide.toInt m_park_deep.toInt i_28.toInt r_58.toInt) ∧ (r_61.toInt = -2 ∨ (0 ≤ r_61.toInt ∧ r_61.toInt < (m_park_wide.toInt * m_park_deep.toInt))) := k_62
                obtain ⟨k_62_0, k_62_1, k_62_2⟩ := k_62
                have hPD := vPD (ws' := [(m_park_to, .inl (cy 1, 4, .inl m_park_tof)), (m_v, .inl (cy 1, 32, .inl m_vf)), (m_park_kind, .inl (cy 1, 4, .inl m_park_kindf)), (m_x, .inl (cy 1, 20, .inl m_xf1_14)), (m_left, .inl (cy 1, 20, .inl m_leftf1_18)), (h0, .inr (12, [.int m_thrown, .int m_trouble, .int m_where, .ref m_park, m_read, .ref m_tape, .int m_taped, .int m_size, .int m_spot, .int m_sort, .int m_place, .int m_letters, .int m_number, .int m_fault, .int m_wrongAt, .long m_word, .ref m_v, .ref m_x, .ref m_past, .ref m_kept, .int m_acts, .int m_images, .ref m_left, .ref m_far, .ref m_line, .int m_fitsNow, .ref m_ditchIn, .int m_treadLeft, .int m_rambledTo, .int m_rambledFalls, .int m_rambledIn])), (m_park, .inr (11, [.int m_park_wide, .int m_park_deep, .int m_park_errs, .int m_park_slips, .int m_park_rows, .int m_park_walkers, .int m_park_walks, .int m_park_unsures, .ref m_park_sort, .ref m_park_unsure, .ref m_park_kind, .ref m_park_at, .ref m_park_to, .ref m_park_from, .ref m_park_steps, .ref m_park_fell, .ref m_park_name]))]) hP hD rfl
                have hP := hPD.1
                have hD := hPD.2
                have kf_64 : r_61.toInt = onF m_park_wide.toInt m_park_deep.toInt i_28.toInt r_58.toInt := by assumption
                have hcx : (m_leftf1_18 (Int.toNat r_61.toInt)).toInt = (m_leftf1_18 (Int.toNat (onF m_park_wide.toInt m_park_deep.toInt i_28.toInt r_58.toInt))).toInt := by rw [kf_64]
                refine lv_istore (lv' := [(4, .int r_61), (5, .int i_26), (0, .ref h0), (1, .int p1), (2, .int p2), (3, .int p3)]) hx hb dX13_wayStep_84 hl (by decide) rfl (fun ls hl => ?_)
                have dy_66 := ti_bd i_26
                obtain ⟨x_65, ex_65⟩ : ∃ y : Int32, y = i_26 + 1 := ⟨_, rfl⟩
                have tx_65 : x_65.toInt = i_26.toInt + 1 := ti_add (A := i_26.toInt) (B := 1) ex_65 rfl rfl (by omega) (by omega)
                refine lv_iinc (v := x_65) (lv' := [(5, .int x_65), (4, .int r_61), (0, .ref h0), (1, .int p1), (2, .int p2), (3, .int p3)]) hx hb dX13_wayStep_86 hl (k := 1) rfl (by rw [ex_65]; rfl) (by decide) rfl (fun ls hl => ?_)
                refine lv_goto (tgt := 54) hx hb dX13_wayStep_89 (by decide) ?_
                exact ihlp_25 x_65 r_61 _ _ _ (by omega) (by omega) (show r_61.toInt < (m_park_wide.toInt * m_park_deep.toInt) by omega) (show (m_leftf1_18 (Int.toNat r_61.toInt)).toInt ≠ 9999999 by omega) (show x_65.toInt ≤ p2.toInt by omega) (show p2.toInt - x_65.toInt + 1 ≤ (nlp_25 : Int) by omega) (hP.sub [5, 6, 2, 0, 1, 3, 4] rfl) (hD.sub [5, 6, 2, 0, 1, 3, 4] (by decide) rfl) hS (lv_sub hl [0, 1, 2, 3, 4, 5] rfl)
        exact lp_25 2147483649 0 x_24 _ _ _ (by decide) (by omega) (show x_24.toInt < (m_park_wide.toInt * m_park_deep.toInt) by omega) (show (m_leftf1_18 (Int.toNat x_24.toInt)).toInt ≠ 9999999 by omega) (show 0 ≤ p2.toInt by omega) (show p2.toInt - 0 + 1 ≤ ((2147483649 : Nat) : Int) by omega) hP hD hS hl
      · have h_22 : r_19.toInt = 9999999 := c_eq h_22
        refine lv_aload_n hx hb dX13_wayStep_34 rfl (lv_at hl 0 rfl) ?_
        refine lv_iconst (v := 1) hx hb dX13_wayStep_35 (by decide) ?_
        refine sl_Ic (rV_I (As := [.int 1]) (rest := []) X hp_st (fun _ _ _ h => h) (sX13_refused l dC dI cy h0 m_thrown m_trouble m_where (.ref m_park) m_read m_tape m_taped m_size m_spot m_sort m_place m_letters m_number m_fault m_wrongAt m_word m_v m_x m_past m_kept m_acts m_images m_left m_far m_line m_fitsNow m_ditchIn m_treadLeft m_rambledTo m_rambledFalls m_rambledIn 1 hm_taped hm_size hm_spot hm_place hm_acts hm_images) kX13_refused vX13_refused mX13_48 hP hD hS hA [0] (by decide) rfl 0 (ci := 12) rfl rfl rfl hl rfl rfl (Nat.le_of_ble_eq_true rfl) dX13_wayStep_36 ⟨(Nat.le_of_ble_eq_true rfl), (Nat.le_of_ble_eq_true rfl)⟩ ⟨(Nat.le_of_ble_eq_true rfl), (Nat.le_of_ble_eq_true rfl)⟩) hP hD hS hA [0] [false, true, true, true, true, true, true] rfl rfl rfl (fun r_69 u_71 H locs k_70 hP hD hS => ?_)
        obtain ⟨m_trouble1_67, m_where1_68⟩ := u_71
        have k_70 : (r_69 = -1) ∧ (m_where1_68.toInt = -1) := k_70
        obtain ⟨k_70_0, k_70_1⟩ := k_70
        have hPD := vPD (ws' := [(m_park, .inr (11, [.int m_park_wide, .int m_park_deep, .int m_park_errs, .int m_park_slips, .int m_park_rows, .int m_park_walkers, .int m_park_walks, .int m_park_unsures, .ref m_park_sort, .ref m_park_unsure, .ref m_park_kind, .ref m_park_at, .ref m_park_to, .ref m_park_from, .ref m_park_steps, .ref m_park_fell, .ref m_park_name])), (m_park_kind, .inl (cy 1, 4, .inl m_park_kindf)), (m_park_to, .inl (cy 1, 4, .inl m_park_tof)), (m_v, .inl (cy 1, 32, .inl m_vf)), (m_x, .inl (cy 1, 20, .inl m_xf1_14)), (m_left, .inl (cy 1, 20, .inl m_leftf1_18)), (h0, .inr (12, [.int m_thrown, .int m_trouble1_67, .int m_where1_68, .ref m_park, m_read, .ref m_tape, .int m_taped, .int m_size, .int m_spot, .int m_sort, .int m_place, .int m_letters, .int m_number, .int m_fault, .int m_wrongAt, .long m_word, .ref m_v, .ref m_x, .ref m_past, .ref m_kept, .int m_acts, .int m_images, .ref m_left, .ref m_far, .ref m_line, .int m_fitsNow, .ref m_ditchIn, .int m_treadLeft, .int m_rambledTo, .int m_rambledFalls, .int m_rambledIn]))]) hP hD rfl
        have hP := hPD.1
        have hD := hPD.2
        have er_69 : r_69 = -1 := k_70_0
        subst er_69
        exact eI hQ X hr hlocks hP hD hS (m_xf1_14, m_leftf1_18, m_trouble1_67, m_where1_68) [6, 0, 1, 2, 3, 4, 5] (by decide) rfl rfl (show (rb m_leftf1_18 20 0 9999999) ∧ (m_where1_68.toInt = -1) from ⟨k_20_1, k_70_1⟩) (Nat.le_of_ble_eq_true rfl) (Nat.le_of_ble_eq_true rfl) dX13_wayStep_39
    · have h_13 : p2.toInt < 0 := c_nle h_13
      refine lv_aload_n hx hb dX13_wayStep_12 rfl (lv_at hl 0 rfl) ?_
      refine lv_iconst (v := 1) hx hb dX13_wayStep_13 (by decide) ?_
      refine sl_Ic (rV_I (As := [.int 1]) (rest := []) X hp_st (fun _ _ _ h => h) (sX13_refused l dC dI cy h0 m_thrown m_trouble m_where (.ref m_park) m_read m_tape m_taped m_size m_spot m_sort m_place m_letters m_number m_fault m_wrongAt m_word m_v m_x m_past m_kept m_acts m_images m_left m_far m_line m_fitsNow m_ditchIn m_treadLeft m_rambledTo m_rambledFalls m_rambledIn 1 hm_taped hm_size hm_spot hm_place hm_acts hm_images) kX13_refused vX13_refused mX13_48 hP hD hS hA [5] (by decide) rfl 0 (ci := 12) rfl rfl rfl hl rfl rfl (Nat.le_of_ble_eq_true rfl) dX13_wayStep_14 ⟨(Nat.le_of_ble_eq_true rfl), (Nat.le_of_ble_eq_true rfl)⟩ ⟨(Nat.le_of_ble_eq_true rfl), (Nat.le_of_ble_eq_true rfl)⟩) hP hD hS hA [5] [true, true, true, true, true, false, true] rfl rfl rfl (fun r_74 u_76 H locs k_75 hP hD hS => ?_)
      obtain ⟨m_trouble1_72, m_where1_73⟩ := u_76
      have k_75 : (r_74 = -1) ∧ (m_where1_73.toInt = -1) := k_75
      obtain ⟨k_75_0, k_75_1⟩ := k_75
      have hPD := vPD (ws' := [(m_park_kind, .inl (cy 1, 4, .inl m_park_kindf)), (m_park_to, .inl (cy 1, 4, .inl m_park_tof)), (m_v, .inl (cy 1, 32, .inl m_vf)), (m_x, .inl (cy 1, 20, .inl m_xf)), (m_left, .inl (cy 1, 20, .inl m_leftf)), (m_park, .inr (11, [.int m_park_wide, .int m_park_deep, .int m_park_errs, .int m_park_slips, .int m_park_rows, .int m_park_walkers, .int m_park_walks, .int m_park_unsures, .ref m_park_sort, .ref m_park_unsure, .ref m_park_kind, .ref m_park_at, .ref m_park_to, .ref m_park_from, .ref m_park_steps, .ref m_park_fell, .ref m_park_name])), (h0, .inr (12, [.int m_thrown, .int m_trouble1_72, .int m_where1_73, .ref m_park, m_read, .ref m_tape, .int m_taped, .int m_size, .int m_spot, .int m_sort, .int m_place, .int m_letters, .int m_number, .int m_fault, .int m_wrongAt, .long m_word, .ref m_v, .ref m_x, .ref m_past, .ref m_kept, .int m_acts, .int m_images, .ref m_left, .ref m_far, .ref m_line, .int m_fitsNow, .ref m_ditchIn, .int m_treadLeft, .int m_rambledTo, .int m_rambledFalls, .int m_rambledIn]))]) hP hD rfl
      have hP := hPD.1
      have hD := hPD.2
      have er_74 : r_74 = -1 := k_75_0
      subst er_74
      exact eI hQ X hr hlocks hP hD hS (m_xf, m_leftf, m_trouble1_72, m_where1_73) [6, 5, 0, 1, 2, 3, 4] (by decide) rfl rfl (show (rb m_leftf 20 0 9999999) ∧ (m_where1_73.toInt = -1) from ⟨hm_leftf, k_75_1⟩) (Nat.le_of_ble_eq_true rfl) (Nat.le_of_ble_eq_true rfl) dX13_wayStep_17
set_option maxHeartbeats 4000000 in
set_option maxRecDepth 100000 in
theorem sX13_wayStep_z (l : Launch) (dC : Nat → ClassId) (dI : Nat → Nat → Nat) (cy : Nat → ClassId) (h0 : Nat) (m_thrown : Int32) (m_trouble : Int32) (m_where : Int32) (m_read : Value) (m_tape : Nat) (m_taped : Int32) (m_size : Int32) (m_spot : Int32) (m_sort : Int32) (m_place : Int32) (m_letters : Int32) (m_number : Int32) (m_fault : Int32) (m_wrongAt : Int32) (m_word : Int64) (m_v : Nat) (m_x : Nat) (m_past : Nat) (m_kept : Nat) (m_acts : Int32) (m_images : Int32) (m_left : Nat) (m_far : Nat) (m_line : Nat) (m_fitsNow : Int32) (m_ditchIn : Nat) (m_treadLeft : Int32) (m_rambledTo : Int32) (m_rambledFalls : Int32) (m_rambledIn : Int32) (p1 : Int32) (p2 : Int32) (p3 : Int32) (hm_taped : 0 ≤ m_taped.toInt ∧ m_taped.toInt ≤ 800) (hm_size : 0 ≤ m_size.toInt ∧ m_size.toInt ≤ 800) (hm_spot : 0 ≤ m_spot.toInt ∧ m_spot.toInt ≤ 800) (hm_place : 0 ≤ m_place.toInt ∧ m_place.toInt ≤ 800) (hm_acts : 0 ≤ m_acts.toInt ∧ m_acts.toInt ≤ 16) (hm_images : 0 ≤ m_images.toInt ∧ m_images.toInt ≤ 3) : ctI l dC dI cy hp yX13_wayStep cX13_wayStep 6 .int ({ frames := 1, cells := 0, slots := 0, locals := 21 } : Room) [.ref h0, .int p1, .int p2, .int p3] [(h0, .inr (12, [.int m_thrown, .int m_trouble, .int m_where, .null, m_read, .ref m_tape, .int m_taped, .int m_size, .int m_spot, .int m_sort, .int m_place, .int m_letters, .int m_number, .int m_fault, .int m_wrongAt, .long m_word, .ref m_v, .ref m_x, .ref m_past, .ref m_kept, .int m_acts, .int m_images, .ref m_left, .ref m_far, .ref m_line, .int m_fitsNow, .ref m_ditchIn, .int m_treadLeft, .int m_rambledTo, .int m_rambledFalls, .int m_rambledIn]))] (S := Int32 × Int32) (fun r u => (u.2.toInt = -1)) (fun u => [(h0, .inr (12, [.int m_thrown, .int u.1, .int u.2, .null, m_read, .ref m_tape, .int m_taped, .int m_size, .int m_spot, .int m_sort, .int m_place, .int m_letters, .int m_number, .int m_fault, .int m_wrongAt, .long m_word, .ref m_v, .ref m_x, .ref m_past, .ref m_kept, .int m_acts, .int m_images, .ref m_left, .ref m_far, .ref m_line, .int m_fitsNow, .ref m_ditchIn, .int m_treadLeft, .int m_rambledTo, .int m_rambledFalls, .int m_rambledIn]))]) := by
  refine ctI.of (by decide +kernel) (Nat.le_of_ble_eq_true rfl) ?_
  intro p e s m args below meth c A ls Q hQ X hr hlocks hin hA hP hD hS hl
  have hx := X.1
  have hb := X.2.1
  have hK := X.2.2.2.2.2.1
  have hl : lv_has ls 6 [(0, .ref h0), (1, .int p1), (2, .int p2), (3, .int p3)] := hl
  have dy_1 := ti_bd p1
  have dy_2 := ti_bd p2
  have dy_3 := ti_bd p3
  refine lv_aload_n hx hb dX13_wayStep_0 rfl (lv_at hl 0 rfl) ?_
  refine lv_iload_n hx hb dX13_wayStep_1 rfl (lv_at hl 1 rfl) ?_
  refine sl_Ic (rV_I (As := [.int p1]) (rest := []) X hp_st (fun _ _ _ h => h) (sX13_isWalker_z l dC dI cy h0 m_thrown m_trouble m_where m_read m_tape m_taped m_size m_spot m_sort m_place m_letters m_number m_fault m_wrongAt m_word m_v m_x m_past m_kept m_acts m_images m_left m_far m_line m_fitsNow m_ditchIn m_treadLeft m_rambledTo m_rambledFalls m_rambledIn p1 hm_taped hm_size hm_spot hm_place hm_acts hm_images) kX13_isWalker vX13_isWalker mX13_311 hP hD hS hA [0] (by decide) rfl 0 (ci := 12) rfl rfl rfl hl rfl rfl (Nat.le_of_ble_eq_true rfl) dX13_wayStep_2 ⟨(Nat.le_of_ble_eq_true rfl), (Nat.le_of_ble_eq_true rfl)⟩ ⟨(Nat.le_of_ble_eq_true rfl), (Nat.le_of_ble_eq_true rfl)⟩) hP hD hS hA [0] [false] rfl rfl rfl (fun r_4 u_6 H locs k_5 hP hD hS => ?_)
  have k_5 : (r_4 = 0) := k_5
  have hPD := vPD (ws' := [(h0, .inr (12, [.int m_thrown, .int m_trouble, .int m_where, .null, m_read, .ref m_tape, .int m_taped, .int m_size, .int m_spot, .int m_sort, .int m_place, .int m_letters, .int m_number, .int m_fault, .int m_wrongAt, .long m_word, .ref m_v, .ref m_x, .ref m_past, .ref m_kept, .int m_acts, .int m_images, .ref m_left, .ref m_far, .ref m_line, .int m_fitsNow, .ref m_ditchIn, .int m_treadLeft, .int m_rambledTo, .int m_rambledFalls, .int m_rambledIn]))]) hP hD rfl
  have hP := hPD.1
  have hD := hPD.2
  have er_4 : r_4 = 0 := k_5
  subst er_4
  refine lv_if_eq (tgt := 12) hx hb dX13_wayStep_5 (by decide) (fun _ => ?_) (fun h_7 => absurd (by decide) h_7)
  refine lv_aload_n hx hb dX13_wayStep_12 rfl (lv_at hl 0 rfl) ?_
  refine lv_iconst (v := 1) hx hb dX13_wayStep_13 (by decide) ?_
  refine sl_Ic (rV_I (As := [.int 1]) (rest := []) X hp_st (fun _ _ _ h => h) (sX13_refused l dC dI cy h0 m_thrown m_trouble m_where .null m_read m_tape m_taped m_size m_spot m_sort m_place m_letters m_number m_fault m_wrongAt m_word m_v m_x m_past m_kept m_acts m_images m_left m_far m_line m_fitsNow m_ditchIn m_treadLeft m_rambledTo m_rambledFalls m_rambledIn 1 hm_taped hm_size hm_spot hm_place hm_acts hm_images) kX13_refused vX13_refused mX13_48 hP hD hS hA [0] (by decide) rfl 0 (ci := 12) rfl rfl rfl hl rfl rfl (Nat.le_of_ble_eq_true rfl) dX13_wayStep_14 ⟨(Nat.le_of_ble_eq_true rfl), (Nat.le_of_ble_eq_true rfl)⟩ ⟨(Nat.le_of_ble_eq_true rfl), (Nat.le_of_ble_eq_true rfl)⟩) hP hD hS hA [0] [false] rfl rfl rfl (fun r_10 u_12 H locs k_11 hP hD hS => ?_)
  obtain ⟨m_trouble1_8, m_where1_9⟩ := u_12
  have k_11 : (r_10 = -1) ∧ (m_where1_9.toInt = -1) := k_11
  obtain ⟨k_11_0, k_11_1⟩ := k_11
  have hPD := vPD (ws' := [(h0, .inr (12, [.int m_thrown, .int m_trouble1_8, .int m_where1_9, .null, m_read, .ref m_tape, .int m_taped, .int m_size, .int m_spot, .int m_sort, .int m_place, .int m_letters, .int m_number, .int m_fault, .int m_wrongAt, .long m_word, .ref m_v, .ref m_x, .ref m_past, .ref m_kept, .int m_acts, .int m_images, .ref m_left, .ref m_far, .ref m_line, .int m_fitsNow, .ref m_ditchIn, .int m_treadLeft, .int m_rambledTo, .int m_rambledFalls, .int m_rambledIn]))]) hP hD rfl
  have hP := hPD.1
  have hD := hPD.2
  have er_10 : r_10 = -1 := k_11_0
  subst er_10
  exact eI hQ X hr hlocks hP hD hS (m_trouble1_8, m_where1_9) [0] (by decide) rfl rfl (show (m_where1_9.toInt = -1) from k_11_1) (Nat.le_of_ble_eq_true rfl) (Nat.le_of_ble_eq_true rfl) dX13_wayStep_17
