set_option maxHeartbeats 4000000 in
set_option maxRecDepth 100000 in
theorem sX10_minutesInAll (l : Launch) (dC : Nat → ClassId) (dI : Nat → Nat → Nat) (cy : Nat → ClassId) (h0 : Nat) (y_targets : Nat) (y_weights : Nat) (y_left : Nat) (y_steps : Nat) (y_places : Nat) (y_arrivals : Nat) (y_length : Int32) (y_fallCount : Int32) (y_arrivalsf : Nat → Int32) (hy_length : 0 ≤ y_length.toInt ∧ y_length.toInt ≤ 20) (hy_arrivalsf : rbk y_arrivalsf 21 (-2) 4) : ctI l dC dI cy hp yX10_minutesInAll cX10_minutesInAll 1 .int ({ frames := 0, cells := 0, slots := 0, locals := 0 } : Room) [.ref h0] [(h0, .inr (9, [.ref y_targets, .ref y_weights, .ref y_left, .ref y_steps, .ref y_places, .ref y_arrivals, .int y_length, .int y_fallCount])), (y_arrivals, .inl (cy 1, 21, .inl y_arrivalsf))] (S := Unit) (fun r _ => ((-40) ≤ r.toInt ∧ r.toInt ≤ 80)) (fun _ => [(h0, .inr (9, [.ref y_targets, .ref y_weights, .ref y_left, .ref y_steps, .ref y_places, .ref y_arrivals, .int y_length, .int y_fallCount])), (y_arrivals, .inl (cy 1, 21, .inl y_arrivalsf))]) := by
  refine ctI.of (by decide +kernel) (Nat.le_of_ble_eq_true rfl) ?_
  intro p e s m args below meth c A ls Q hQ X hr hlocks hin hA hP hD hS hl
  have hx := X.1
  have hb := X.2.1
  have hK := X.2.2.2.2.2.1
  have hl : lv_has ls 1 [(0, .ref h0)] := hl
  refine lv_aload_n hx hb dX10_minutesInAll_0 rfl (lv_at hl 0 rfl) ?_
  refine r_get X kcX10 (ci := 9) rfl hP 0 rfl 5 (by decide) fX10_27 rfl dX10_minutesInAll_1 ?_
  refine lv_aload_n hx hb dX10_minutesInAll_4 rfl (lv_at hl 0 rfl) ?_
  refine r_get X kcX10 (ci := 9) rfl hP 0 rfl 6 (by decide) fX10_30 rfl dX10_minutesInAll_5 ?_
  refine va_iald (D := (dC, dI)) (cl := vwCl) hx hb hK hP 1 1 rfl rfl (i := y_length) (vin (by omega) (by omega)) dX10_minutesInAll_8 ?_
  refine lv_topi (fun x_1 ex_1 => ?_)
  have bx_1 : (-2) * y_length.toInt ≤ x_1.toInt ∧ x_1.toInt ≤ 4 * y_length.toInt := rbk_at hy_arrivalsf ex_1 (by omega) (by omega)
  exact eI hQ X hr hlocks hP hD hS () [0, 1] (by decide) rfl rfl (show ((-40) ≤ x_1.toInt ∧ x_1.toInt ≤ 80) from (by omega)) (Nat.le_of_ble_eq_true rfl) (Nat.le_of_ble_eq_true rfl) dX10_minutesInAll_9
set_option maxHeartbeats 4000000 in
set_option maxRecDepth 100000 in
theorem sX10_hasStep (l : Launch) (dC : Nat → ClassId) (dI : Nat → Nat → Nat) (cy : Nat → ClassId) (h0 : Nat) (y_targets : Nat) (y_weights : Nat) (y_left : Nat) (y_steps : Nat) (y_places : Nat) (y_arrivals : Nat) (y_length : Int32) (y_fallCount : Int32) (p1 : Int32) (hy_length : 0 ≤ y_length.toInt ∧ y_length.toInt ≤ 20) : ctI l dC dI cy hp yX10_hasStep cX10_hasStep 2 .boolean ({ frames := 0, cells := 0, slots := 0, locals := 0 } : Room) [.ref h0, .int p1] [(h0, .inr (9, [.ref y_targets, .ref y_weights, .ref y_left, .ref y_steps, .ref y_places, .ref y_arrivals, .int y_length, .int y_fallCount]))] (S := Unit) (fun r _ => (0 ≤ r.toInt ∧ r.toInt ≤ 1) ∧ ((r.toInt = 1 ∧ 0 ≤ p1.toInt ∧ p1.toInt < y_length.toInt) ∨ (r.toInt = 0 ∧ (p1.toInt < 0 ∨ y_length.toInt ≤ p1.toInt)))) (fun _ => [(h0, .inr (9, [.ref y_targets, .ref y_weights, .ref y_left, .ref y_steps, .ref y_places, .ref y_arrivals, .int y_length, .int y_fallCount]))]) := by
  refine ctI.of (by decide +kernel) (Nat.le_of_ble_eq_true rfl) ?_
  intro p e s m args below meth c A ls Q hQ X hr hlocks hin hA hP hD hS hl
  have hx := X.1
  have hb := X.2.1
  have hK := X.2.2.2.2.2.1
  have hl : lv_has ls 2 [(0, .ref h0), (1, .int p1)] := hl
  have dy_1 := ti_bd p1
  refine lv_iload_n hx hb dX10_hasStep_0 rfl (lv_at hl 1 rfl) ?_
  refine lv_if_lt (tgt := 16) hx hb dX10_hasStep_1 (by decide) (fun h_2 => ?_) (fun h_2 => ?_)
  · have h_2 : p1.toInt < 0 := c_lt h_2
    refine lv_iconst (v := 0) hx hb dX10_hasStep_16 (by decide) ?_
    exact eI hQ X hr hlocks hP hD hS () [0] (by decide) rfl rfl (show (0 ≤ (0 : Int32).toInt ∧ (0 : Int32).toInt ≤ 1) ∧ (((0 : Int32).toInt = 1 ∧ 0 ≤ p1.toInt ∧ p1.toInt < y_length.toInt) ∨ ((0 : Int32).toInt = 0 ∧ (p1.toInt < 0 ∨ y_length.toInt ≤ p1.toInt))) from ⟨(by decide), (Or.inr ⟨by decide, by omega⟩)⟩) (Nat.le_of_ble_eq_true rfl) (Nat.le_of_ble_eq_true rfl) dX10_hasStep_17
  · have h_2 : 0 ≤ p1.toInt := c_nlt h_2
    refine lv_iload_n hx hb dX10_hasStep_4 rfl (lv_at hl 1 rfl) ?_
    refine lv_aload_n hx hb dX10_hasStep_5 rfl (lv_at hl 0 rfl) ?_
    refine r_get X kcX10 (ci := 9) rfl hP 0 rfl 6 (by decide) fX10_30 rfl dX10_hasStep_6 ?_
    refine lv_icmp_ge (tgt := 16) hx hb dX10_hasStep_9 (by decide) (fun h_3 => ?_) (fun h_3 => ?_)
    · have h_3 : y_length.toInt ≤ p1.toInt := c_le h_3
      refine lv_iconst (v := 0) hx hb dX10_hasStep_16 (by decide) ?_
      exact eI hQ X hr hlocks hP hD hS () [0] (by decide) rfl rfl (show (0 ≤ (0 : Int32).toInt ∧ (0 : Int32).toInt ≤ 1) ∧ (((0 : Int32).toInt = 1 ∧ 0 ≤ p1.toInt ∧ p1.toInt < y_length.toInt) ∨ ((0 : Int32).toInt = 0 ∧ (p1.toInt < 0 ∨ y_length.toInt ≤ p1.toInt))) from ⟨(by decide), (Or.inr ⟨by decide, by omega⟩)⟩) (Nat.le_of_ble_eq_true rfl) (Nat.le_of_ble_eq_true rfl) dX10_hasStep_17
    · have h_3 : p1.toInt < y_length.toInt := c_nle h_3
      refine lv_iconst (v := 1) hx hb dX10_hasStep_12 (by decide) ?_
      refine lv_goto (tgt := 17) hx hb dX10_hasStep_13 (by decide) ?_
      exact eI hQ X hr hlocks hP hD hS () [0] (by decide) rfl rfl (show (0 ≤ (1 : Int32).toInt ∧ (1 : Int32).toInt ≤ 1) ∧ (((1 : Int32).toInt = 1 ∧ 0 ≤ p1.toInt ∧ p1.toInt < y_length.toInt) ∨ ((1 : Int32).toInt = 0 ∧ (p1.toInt < 0 ∨ y_length.toInt ≤ p1.toInt))) from ⟨(by decide), (Or.inl ⟨by decide, by omega, by omega⟩)⟩) (Nat.le_of_ble_eq_true rfl) (Nat.le_of_ble_eq_true rfl) dX10_hasStep_17
set_option maxHeartbeats 4000000 in
set_option maxRecDepth 100000 in
theorem sX10_placeAfter (l : Launch) (dC : Nat → ClassId) (dI : Nat → Nat → Nat) (cy : Nat → ClassId) (h0 : Nat) (y_targets : Nat) (y_weights : Nat) (y_left : Nat) (y_steps : Nat) (y_places : Nat) (y_arrivals : Nat) (y_length : Int32) (y_fallCount : Int32) (y_placesf : Nat → Int32) (y_arrivalsf : Nat → Int32) (p1 : Int32) (hy_length : 0 ≤ y_length.toInt ∧ y_length.toInt ≤ 20) (hy_placesf : rb y_placesf 21 0 19) (hy_arrivalsf : rbk y_arrivalsf 21 (-2) 4) : ctI l dC dI cy hp yX10_placeAfter cX10_placeAfter 4 .int ({ frames := 0, cells := 0, slots := 0, locals := 0 } : Room) [.ref h0, .int p1] [(h0, .inr (9, [.ref y_targets, .ref y_weights, .ref y_left, .ref y_steps, .ref y_places, .ref y_arrivals, .int y_length, .int y_fallCount])), (y_places, .inl (cy 1, 21, .inl y_placesf)), (y_arrivals, .inl (cy 1, 21, .inl y_arrivalsf))] (S := Unit) (fun r _ => True) (fun _ => [(h0, .inr (9, [.ref y_targets, .ref y_weights, .ref y_left, .ref y_steps, .ref y_places, .ref y_arrivals, .int y_length, .int y_fallCount])), (y_places, .inl (cy 1, 21, .inl y_placesf)), (y_arrivals, .inl (cy 1, 21, .inl y_arrivalsf))]) := by
  refine ctI.of (by decide +kernel) (Nat.le_of_ble_eq_true rfl) ?_
  intro p e s m args below meth c A ls Q hQ X hr hlocks hin hA hP hD hS hl
  have hx := X.1
  have hb := X.2.1
  have hK := X.2.2.2.2.2.1
  have hl : lv_has ls 4 [(0, .ref h0), (1, .int p1)] := hl
  have dy_1 := ti_bd p1
  refine lv_aload_n hx hb dX10_placeAfter_0 rfl (lv_at hl 0 rfl) ?_
  refine r_get X kcX10 (ci := 9) rfl hP 0 rfl 4 (by decide) fX10_24 rfl dX10_placeAfter_1 ?_
  refine lv_iconst (v := 0) hx hb dX10_placeAfter_4 (by decide) ?_
  refine va_iald (D := (dC, dI)) (cl := vwCl) hx hb hK hP 1 1 rfl rfl (i := 0) (by unfold vp_in; decide) dX10_placeAfter_5 ?_
  refine lv_topi (fun x_2 ex_2 => ?_)
  have bx_2 : 0 ≤ x_2.toInt ∧ x_2.toInt ≤ 19 := rb_at hy_placesf ex_2 (by decide) (by decide)
  refine lv_istore_n (lv' := [(2, .int x_2), (0, .ref h0), (1, .int p1)]) hx hb dX10_placeAfter_6 rfl hl (by decide) rfl (fun ls hl => ?_)
  refine lv_iconst (v := 1) hx hb dX10_placeAfter_7 (by decide) ?_
  refine lv_istore_n (lv' := [(3, .int 1), (2, .int x_2), (0, .ref h0), (1, .int p1)]) hx hb dX10_placeAfter_8 rfl hl (by decide) rfl (fun ls hl => ?_)
  have lp_3 : ∀ (nlp_3 : Nat) (i_4 : Int32) (i_6 : Int32) (H : Heap) (locs : List Loc) (ls : Array Slot), (1 ≤ i_4.toInt ∧ i_4.toInt ≤ 21) → (22 - i_4.toInt ≤ (nlp_3 : Int)) → va_P (dC, dI) vwCl [(h0, .inr (9, [.ref y_targets, .ref y_weights, .ref y_left, .ref y_steps, .ref y_places, .ref y_arrivals, .int y_length, .int y_fallCount])), (y_places, .inl (cy 1, 21, .inl y_placesf)), (y_arrivals, .inl (cy 1, 21, .inl y_arrivalsf))] H → va_D A [(h0, .inr (9, [.ref y_targets, .ref y_weights, .ref y_left, .ref y_steps, .ref y_places, .ref y_arrivals, .int y_length, .int y_fallCount])), (y_places, .inl (cy 1, 21, .inl y_placesf)), (y_arrivals, .inl (cy 1, 21, .inl y_arrivalsf))] → va_S A s.heap H locs → lv_has ls 4 [(3, .int i_4), (2, .int i_6), (0, .ref h0), (1, .int p1)] → W p l e ({ frames := 0, cells := 0, slots := 0, locals := 0 } : Room) s m args below meth c H locs 0 0 Q (F0 m 9 ls []) := by
    intro nlp_3
    induction nlp_3 with
    | zero =>
      intro i_4 i_6 H locs ls b_5 hmlp_3 hP hD hS hl
      exfalso
      have di_4 := ti_bd i_4
      have di_6 := ti_bd i_6
      omega
    | succ nlp_3 ihlp_3 =>
      intro i_4 i_6 H locs ls b_5 hmlp_3 hP hD hS hl
      refine lv_iload_n hx hb dX10_placeAfter_9 rfl (lv_at hl 0 rfl) ?_
      refine lv_aload_n hx hb dX10_placeAfter_10 rfl (lv_at hl 2 rfl) ?_
      refine r_get X kcX10 (ci := 9) rfl hP 0 rfl 6 (by decide) fX10_30 rfl dX10_placeAfter_11 ?_
      refine lv_icmp_gt (tgt := 40) hx hb dX10_placeAfter_14 (by decide) (fun h_7 => ?_) (fun h_7 => ?_)
      · have h_7 : y_length.toInt < i_4.toInt := c_lt h_7
        refine lv_iload_n hx hb dX10_placeAfter_40 rfl (lv_at hl 1 rfl) ?_
        exact eI hQ X hr hlocks hP hD hS () [0, 1, 2] (by decide) rfl rfl trivial (Nat.le_of_ble_eq_true rfl) (Nat.le_of_ble_eq_true rfl) dX10_placeAfter_41
      · have h_7 : i_4.toInt ≤ y_length.toInt := c_nlt h_7
        refine lv_aload_n hx hb dX10_placeAfter_17 rfl (lv_at hl 2 rfl) ?_
        refine r_get X kcX10 (ci := 9) rfl hP 0 rfl 5 (by decide) fX10_27 rfl dX10_placeAfter_18 ?_
        refine lv_iload_n hx hb dX10_placeAfter_21 rfl (lv_at hl 0 rfl) ?_
        refine va_iald (D := (dC, dI)) (cl := vwCl) hx hb hK hP 2 1 rfl rfl (i := i_4) (vin (by omega) (by omega)) dX10_placeAfter_22 ?_
        refine lv_topi (fun x_8 ex_8 => ?_)
        have bx_8 : (-2) * i_4.toInt ≤ x_8.toInt ∧ x_8.toInt ≤ 4 * i_4.toInt := rbk_at hy_arrivalsf ex_8 (by omega) (by omega)
        refine lv_iload_n hx hb dX10_placeAfter_23 rfl (lv_at hl 3 rfl) ?_
        refine lv_icmp_gt (tgt := 40) hx hb dX10_placeAfter_24 (by decide) (fun h_9 => ?_) (fun h_9 => ?_)
        · have h_9 : p1.toInt < x_8.toInt := c_lt h_9
          refine lv_iload_n hx hb dX10_placeAfter_40 rfl (lv_at hl 1 rfl) ?_
          exact eI hQ X hr hlocks hP hD hS () [0, 1, 2] (by decide) rfl rfl trivial (Nat.le_of_ble_eq_true rfl) (Nat.le_of_ble_eq_true rfl) dX10_placeAfter_41
        · have h_9 : x_8.toInt ≤ p1.toInt := c_nlt h_9
          refine lv_aload_n hx hb dX10_placeAfter_27 rfl (lv_at hl 2 rfl) ?_
          refine r_get X kcX10 (ci := 9) rfl hP 0 rfl 4 (by decide) fX10_24 rfl dX10_placeAfter_28 ?_
          refine lv_iload_n hx hb dX10_placeAfter_31 rfl (lv_at hl 0 rfl) ?_
          refine va_iald (D := (dC, dI)) (cl := vwCl) hx hb hK hP 1 1 rfl rfl (i := i_4) (vin (by omega) (by omega)) dX10_placeAfter_32 ?_
          refine lv_topi (fun x_10 ex_10 => ?_)
          have bx_10 : 0 ≤ x_10.toInt ∧ x_10.toInt ≤ 19 := rb_at hy_placesf ex_10 (by omega) (by omega)
          refine lv_istore_n (lv' := [(2, .int x_10), (3, .int i_4), (0, .ref h0), (1, .int p1)]) hx hb dX10_placeAfter_33 rfl hl (by decide) rfl (fun ls hl => ?_)
          obtain ⟨x_11, ex_11⟩ : ∃ y : Int32, y = i_4 + 1 := ⟨_, rfl⟩
          have tx_11 : x_11.toInt = i_4.toInt + 1 := ti_add (A := i_4.toInt) (B := 1) ex_11 rfl rfl (by omega) (by omega)
          refine lv_iinc (v := x_11) (lv' := [(3, .int x_11), (2, .int x_10), (0, .ref h0), (1, .int p1)]) hx hb dX10_placeAfter_34 hl (k := 1) rfl (by rw [ex_11]; rfl) (by decide) rfl (fun ls hl => ?_)
          refine lv_goto (tgt := 9) hx hb dX10_placeAfter_37 (by decide) ?_
          exact ihlp_3 x_11 x_10 _ _ _ (by omega) (show 22 - x_11.toInt ≤ (nlp_3 : Int) by omega) hP hD hS (lv_sub hl [0, 1, 2, 3] rfl)
  exact lp_3 22 1 x_2 _ _ _ (by decide) (show 22 - 1 ≤ ((22 : Nat) : Int) by omega) hP hD hS hl
set_option maxHeartbeats 4000000 in
set_option maxRecDepth 100000 in
theorem sX10_touches (l : Launch) (dC : Nat → ClassId) (dI : Nat → Nat → Nat) (cy : Nat → ClassId) (h0 : Nat) (y_targets : Nat) (y_weights : Nat) (y_left : Nat) (y_steps : Nat) (y_places : Nat) (y_arrivals : Nat) (y_length : Int32) (y_fallCount : Int32) (y_placesf : Nat → Int32) (p1 : Int32) (hy_length : 0 ≤ y_length.toInt ∧ y_length.toInt ≤ 20) (hy_placesf : rb y_placesf 21 0 19) : ctI l dC dI cy hp yX10_touches cX10_touches 3 .boolean ({ frames := 0, cells := 0, slots := 0, locals := 0 } : Room) [.ref h0, .int p1] [(h0, .inr (9, [.ref y_targets, .ref y_weights, .ref y_left, .ref y_steps, .ref y_places, .ref y_arrivals, .int y_length, .int y_fallCount])), (y_places, .inl (cy 1, 21, .inl y_placesf))] (S := Unit) (fun r _ => (0 ≤ r.toInt ∧ r.toInt ≤ 1)) (fun _ => [(h0, .inr (9, [.ref y_targets, .ref y_weights, .ref y_left, .ref y_steps, .ref y_places, .ref y_arrivals, .int y_length, .int y_fallCount])), (y_places, .inl (cy 1, 21, .inl y_placesf))]) := by
  refine ctI.of (by decide +kernel) (Nat.le_of_ble_eq_true rfl) ?_
  intro p e s m args below meth c A ls Q hQ X hr hlocks hin hA hP hD hS hl
  have hx := X.1
  have hb := X.2.1
  have hK := X.2.2.2.2.2.1
  have hl : lv_has ls 3 [(0, .ref h0), (1, .int p1)] := hl
  have dy_1 := ti_bd p1
  refine lv_iconst (v := 0) hx hb dX10_touches_0 (by decide) ?_
  refine lv_istore_n (lv' := [(2, .int 0), (0, .ref h0), (1, .int p1)]) hx hb dX10_touches_1 rfl hl (by decide) rfl (fun ls hl => ?_)
  have lp_2 : ∀ (nlp_2 : Nat) (i_3 : Int32) (H : Heap) (locs : List Loc) (ls : Array Slot), (0 ≤ i_3.toInt ∧ i_3.toInt ≤ 21) → (22 - i_3.toInt ≤ (nlp_2 : Int)) → va_P (dC, dI) vwCl [(h0, .inr (9, [.ref y_targets, .ref y_weights, .ref y_left, .ref y_steps, .ref y_places, .ref y_arrivals, .int y_length, .int y_fallCount])), (y_places, .inl (cy 1, 21, .inl y_placesf))] H → va_D A [(h0, .inr (9, [.ref y_targets, .ref y_weights, .ref y_left, .ref y_steps, .ref y_places, .ref y_arrivals, .int y_length, .int y_fallCount])), (y_places, .inl (cy 1, 21, .inl y_placesf))] → va_S A s.heap H locs → lv_has ls 3 [(2, .int i_3), (0, .ref h0), (1, .int p1)] → W p l e ({ frames := 0, cells := 0, slots := 0, locals := 0 } : Room) s m args below meth c H locs 0 0 Q (F0 m 2 ls []) := by
    intro nlp_2
    induction nlp_2 with
    | zero =>
      intro i_3 H locs ls b_4 hmlp_2 hP hD hS hl
      exfalso
      have di_3 := ti_bd i_3
      omega
    | succ nlp_2 ihlp_2 =>
      intro i_3 H locs ls b_4 hmlp_2 hP hD hS hl
      refine lv_iload_n hx hb dX10_touches_2 rfl (lv_at hl 0 rfl) ?_
      refine lv_aload_n hx hb dX10_touches_3 rfl (lv_at hl 1 rfl) ?_
      refine r_get X kcX10 (ci := 9) rfl hP 0 rfl 6 (by decide) fX10_30 rfl dX10_touches_4 ?_
      refine lv_icmp_gt (tgt := 28) hx hb dX10_touches_7 (by decide) (fun h_5 => ?_) (fun h_5 => ?_)
      · have h_5 : y_length.toInt < i_3.toInt := c_lt h_5
        refine lv_iconst (v := 0) hx hb dX10_touches_28 (by decide) ?_
        exact eI hQ X hr hlocks hP hD hS () [0, 1] (by decide) rfl rfl (show (0 ≤ (0 : Int32).toInt ∧ (0 : Int32).toInt ≤ 1) from (by first | decide | (have h9_0 : (0 : Int32).toInt = 0 := (by decide); omega) | (refine ⟨by decide, ?_⟩; omega) | omega)) (Nat.le_of_ble_eq_true rfl) (Nat.le_of_ble_eq_true rfl) dX10_touches_29
      · have h_5 : i_3.toInt ≤ y_length.toInt := c_nlt h_5
        refine lv_aload_n hx hb dX10_touches_10 rfl (lv_at hl 1 rfl) ?_
        refine r_get X kcX10 (ci := 9) rfl hP 0 rfl 4 (by decide) fX10_24 rfl dX10_touches_11 ?_
        refine lv_iload_n hx hb dX10_touches_14 rfl (lv_at hl 0 rfl) ?_
        refine va_iald (D := (dC, dI)) (cl := vwCl) hx hb hK hP 1 1 rfl rfl (i := i_3) (vin (by omega) (by omega)) dX10_touches_15 ?_
        refine lv_topi (fun x_6 ex_6 => ?_)
        have bx_6 : 0 ≤ x_6.toInt ∧ x_6.toInt ≤ 19 := rb_at hy_placesf ex_6 (by omega) (by omega)
        refine lv_iload_n hx hb dX10_touches_16 rfl (lv_at hl 2 rfl) ?_
        refine lv_icmp_ne (tgt := 22) hx hb dX10_touches_17 (by decide) (fun h_7 => ?_) (fun h_7 => ?_)
        · have h_7 : x_6.toInt ≠ p1.toInt := c_ne h_7
          obtain ⟨x_8, ex_8⟩ : ∃ y : Int32, y = i_3 + 1 := ⟨_, rfl⟩
          have tx_8 : x_8.toInt = i_3.toInt + 1 := ti_add (A := i_3.toInt) (B := 1) ex_8 rfl rfl (by omega) (by omega)
          refine lv_iinc (v := x_8) (lv' := [(2, .int x_8), (0, .ref h0), (1, .int p1)]) hx hb dX10_touches_22 hl (k := 0) rfl (by rw [ex_8]; rfl) (by decide) rfl (fun ls hl => ?_)
          refine lv_goto (tgt := 2) hx hb dX10_touches_25 (by decide) ?_
          exact ihlp_2 x_8 _ _ _ (by omega) (show 22 - x_8.toInt ≤ (nlp_2 : Int) by omega) hP hD hS (lv_sub hl [0, 1, 2] rfl)
        · have h_7 : x_6.toInt = p1.toInt := c_eq h_7
          refine lv_iconst (v := 1) hx hb dX10_touches_20 (by decide) ?_
          exact eI hQ X hr hlocks hP hD hS () [0, 1] (by decide) rfl rfl (show (0 ≤ (1 : Int32).toInt ∧ (1 : Int32).toInt ≤ 1) from (by first | decide | (have h9_0 : (1 : Int32).toInt = 1 := (by decide); omega) | (refine ⟨by decide, ?_⟩; omega) | omega)) (Nat.le_of_ble_eq_true rfl) (Nat.le_of_ble_eq_true rfl) dX10_touches_21
  exact lp_2 22 0 _ _ _ (by decide) (show 22 - 0 ≤ ((22 : Nat) : Int) by omega) hP hD hS hl
set_option maxHeartbeats 4000000 in
set_option maxRecDepth 100000 in
theorem sX10_weigh (l : Launch) (dC : Nat → ClassId) (dI : Nat → Nat → Nat) (cy : Nat → ClassId) (h0 : Nat) (y_targets : Nat) (y_weights : Nat) (y_left : Nat) (y_steps : Nat) (y_places : Nat) (y_arrivals : Nat) (y_length : Int32) (y_fallCount : Int32) (y_targetsf : Nat → Int32) (y_weightsf : Nat → Int32) (h1 : Nat) (g_wide : Int32) (g_deep : Int32) (g_count : Int32) (g_sorts : Nat) (g_sortsf : Nat → Int32) (p2 : Int32) (p3 : Int32) (hy_length : 0 ≤ y_length.toInt ∧ y_length.toInt ≤ 20) (hy_targetsf : rb y_targetsf 80 (-1) 19) (hg_wide : 0 ≤ g_wide.toInt ∧ g_wide.toInt ≤ 5) (hg_deep : 0 ≤ g_deep.toInt ∧ g_deep.toInt ≤ 4) (hg_count : 0 ≤ g_count.toInt ∧ g_count.toInt ≤ 20) : ctV l dC dI cy hp yX10_weigh cX10_weigh 9 ({ frames := 2, cells := 0, slots := 0, locals := 47 } : Room) [.ref h0, .ref h1, .int p2, .int p3] [(h0, .inr (9, [.ref y_targets, .ref y_weights, .ref y_left, .ref y_steps, .ref y_places, .ref y_arrivals, .int y_length, .int y_fallCount])), (y_targets, .inl (cy 1, 80, .inl y_targetsf)), (y_weights, .inl (cy 1, 80, .inl y_weightsf)), (h1, .inr (4, [.int g_wide, .int g_deep, .int g_count, .ref g_sorts])), (g_sorts, .inl (cy 1, 20, .inl g_sortsf))] (S := (Nat → Int32) × (Nat → Int32)) (fun u => (rb u.1 80 (-1) 19)) (fun u => [(h0, .inr (9, [.ref y_targets, .ref y_weights, .ref y_left, .ref y_steps, .ref y_places, .ref y_arrivals, .int y_length, .int y_fallCount])), (y_targets, .inl (cy 1, 80, .inl u.1)), (y_weights, .inl (cy 1, 80, .inl u.2)), (h1, .inr (4, [.int g_wide, .int g_deep, .int g_count, .ref g_sorts])), (g_sorts, .inl (cy 1, 20, .inl g_sortsf))]) := by
  refine ctV.of (by decide +kernel) (Nat.le_of_ble_eq_true rfl) ?_
  intro p e s m args below meth c A ls Q hQ X hr hlocks hin hA hP hD hS hl
  have hx := X.1
  have hb := X.2.1
  have hK := X.2.2.2.2.2.1
  have hl : lv_has ls 9 [(0, .ref h0), (1, .ref h1), (2, .int p2), (3, .int p3)] := hl
  have dy_1 := ti_bd p2
  have dy_2 := ti_bd p3
  refine lv_iconst (v := 0) hx hb dX10_weigh_0 (by decide) ?_
  refine lv_istore (lv' := [(4, .int 0), (0, .ref h0), (1, .ref h1), (2, .int p2), (3, .int p3)]) hx hb dX10_weigh_1 hl (by decide) rfl (fun ls hl => ?_)
  have lp_3 : ∀ (nlp_3 : Nat) (i_4 : Int32) (f_6 : Nat → Int32) (f_8 : Nat → Int32) (H : Heap) (locs : List Loc) (ls : Array Slot), (0 ≤ i_4.toInt ∧ i_4.toInt ≤ 20) → (rb f_6 80 (-1) 19) → (21 - i_4.toInt ≤ (nlp_3 : Int)) → va_P (dC, dI) vwCl [(h0, .inr (9, [.ref y_targets, .ref y_weights, .ref y_left, .ref y_steps, .ref y_places, .ref y_arrivals, .int y_length, .int y_fallCount])), (y_targets, .inl (cy 1, 80, .inl f_6)), (y_weights, .inl (cy 1, 80, .inl f_8)), (h1, .inr (4, [.int g_wide, .int g_deep, .int g_count, .ref g_sorts])), (g_sorts, .inl (cy 1, 20, .inl g_sortsf))] H → va_D A [(h0, .inr (9, [.ref y_targets, .ref y_weights, .ref y_left, .ref y_steps, .ref y_places, .ref y_arrivals, .int y_length, .int y_fallCount])), (y_targets, .inl (cy 1, 80, .inl f_6)), (y_weights, .inl (cy 1, 80, .inl f_8)), (h1, .inr (4, [.int g_wide, .int g_deep, .int g_count, .ref g_sorts])), (g_sorts, .inl (cy 1, 20, .inl g_sortsf))] → va_S A s.heap H locs → lv_has ls 9 [(4, .int i_4), (0, .ref h0), (1, .ref h1), (2, .int p2), (3, .int p3)] → W p l e ({ frames := 2, cells := 0, slots := 0, locals := 47 } : Room) s m args below meth c H locs 0 0 Q (F0 m 3 ls []) := by
    intro nlp_3
    induction nlp_3 with
    | zero =>
      intro i_4 f_6 f_8 H locs ls b_5 b_7 hmlp_3 hP hD hS hl
      exfalso
      have di_4 := ti_bd i_4
      omega
    | succ nlp_3 ihlp_3 =>
      intro i_4 f_6 f_8 H locs ls b_5 b_7 hmlp_3 hP hD hS hl
      refine lv_iload hx hb dX10_weigh_3 (lv_at hl 0 rfl) ?_
      refine lv_aload_n hx hb dX10_weigh_5 rfl (lv_at hl 2 rfl) ?_
      refine r_get X kcX4 (ci := 4) rfl hP 3 rfl 2 (by decide) fX10_47 rfl dX10_weigh_6 ?_
      refine lv_icmp_ge (tgt := 126) hx hb dX10_weigh_9 (by decide) (fun h_9 => ?_) (fun h_9 => ?_)
      · have h_9 : g_count.toInt ≤ i_4.toInt := c_le h_9
        exact eV hQ X hr hlocks hP hD hS (f_6, f_8) [0, 1, 2, 3, 4] (by decide) rfl (show (rb f_6 80 (-1) 19) from b_7) (Nat.le_of_ble_eq_true rfl) (Nat.le_of_ble_eq_true rfl) dX10_weigh_126
      · have h_9 : i_4.toInt < g_count.toInt := c_nle h_9
        refine lv_iconst (v := 0) hx hb dX10_weigh_12 (by decide) ?_
        refine lv_istore (lv' := [(5, .int 0), (4, .int i_4), (0, .ref h0), (1, .ref h1), (2, .int p2), (3, .int p3)]) hx hb dX10_weigh_13 hl (by decide) rfl (fun ls hl => ?_)
        have lp_10 : ∀ (nlp_10 : Nat) (i_11 : Int32) (f_13 : Nat → Int32) (f_15 : Nat → Int32) (H : Heap) (locs : List Loc) (ls : Array Slot), (0 ≤ i_11.toInt ∧ i_11.toInt ≤ 4) → (rb f_13 80 (-1) 19) → (5 - i_11.toInt ≤ (nlp_10 : Int)) → va_P (dC, dI) vwCl [(h0, .inr (9, [.ref y_targets, .ref y_weights, .ref y_left, .ref y_steps, .ref y_places, .ref y_arrivals, .int y_length, .int y_fallCount])), (y_targets, .inl (cy 1, 80, .inl f_13)), (y_weights, .inl (cy 1, 80, .inl f_15)), (h1, .inr (4, [.int g_wide, .int g_deep, .int g_count, .ref g_sorts])), (g_sorts, .inl (cy 1, 20, .inl g_sortsf))] H → va_D A [(h0, .inr (9, [.ref y_targets, .ref y_weights, .ref y_left, .ref y_steps, .ref y_places, .ref y_arrivals, .int y_length, .int y_fallCount])), (y_targets, .inl (cy 1, 80, .inl f_13)), (y_weights, .inl (cy 1, 80, .inl f_15)), (h1, .inr (4, [.int g_wide, .int g_deep, .int g_count, .ref g_sorts])), (g_sorts, .inl (cy 1, 20, .inl g_sortsf))] → va_S A s.heap H locs → lv_has ls 9 [(5, .int i_11), (4, .int i_4), (0, .ref h0), (1, .ref h1), (2, .int p2), (3, .int p3)] → W p l e ({ frames := 2, cells := 0, slots := 0, locals := 47 } : Room) s m args below meth c H locs 0 0 Q (F0 m 15 ls []) := by
          intro nlp_10
          induction nlp_10 with
          | zero =>
            intro i_11 f_13 f_15 H locs ls b_12 b_14 hmlp_10 hP hD hS hl
            exfalso
            have di_11 := ti_bd i_11
            omega
          | succ nlp_10 ihlp_10 =>
            intro i_11 f_13 f_15 H locs ls b_12 b_14 hmlp_10 hP hD hS hl
            refine lv_iload hx hb dX10_weigh_15 (lv_at hl 0 rfl) ?_
            refine lv_iconst (v := 4) hx hb dX10_weigh_17 (by decide) ?_
            refine lv_icmp_ge (tgt := 120) hx hb dX10_weigh_18 (by decide) (fun h_16 => ?_) (fun h_16 => ?_)
            · have h_16 : 4 ≤ i_11.toInt := c_le h_16
              obtain ⟨x_17, ex_17⟩ : ∃ y : Int32, y = i_4 + 1 := ⟨_, rfl⟩
              have tx_17 : x_17.toInt = i_4.toInt + 1 := ti_add (A := i_4.toInt) (B := 1) ex_17 rfl rfl (by omega) (by omega)
              refine lv_iinc (v := x_17) (lv' := [(4, .int x_17), (5, .int i_11), (0, .ref h0), (1, .ref h1), (2, .int p2), (3, .int p3)]) hx hb dX10_weigh_120 hl (k := 1) rfl (by rw [ex_17]; rfl) (by decide) rfl (fun ls hl => ?_)
              refine lv_goto (tgt := 3) hx hb dX10_weigh_123 (by decide) ?_
              exact ihlp_3 x_17 f_13 f_15 _ _ _ (by omega) b_14 (show 21 - x_17.toInt ≤ (nlp_3 : Int) by omega) hP hD hS (lv_sub hl [0, 2, 3, 4, 5] rfl)
            · have h_16 : i_11.toInt < 4 := c_nle h_16
              refine lv_iload hx hb dX10_weigh_21 (lv_at hl 1 rfl) ?_
              refine lv_iconst (v := 4) hx hb dX10_weigh_23 (by decide) ?_
              refine lv_imul hx hb dX10_weigh_24 ?_
              refine lv_topi (fun x_18 ex_18 => ?_)
              have tx_18 : x_18.toInt = i_4.toInt * 4 := ti_mulk (A := i_4.toInt) (B := 4) ex_18 rfl rfl (by omega) (by omega)
              refine lv_iload hx hb dX10_weigh_25 (lv_at hl 0 rfl) ?_
              refine lv_iadd hx hb dX10_weigh_27 ?_
              refine lv_topi (fun x_19 ex_19 => ?_)
              have tx_19 : x_19.toInt = x_18.toInt + i_11.toInt := ti_add (A := x_18.toInt) (B := i_11.toInt) ex_19 rfl rfl (by omega) (by omega)
              refine lv_istore (lv' := [(6, .int x_19), (5, .int i_11), (4, .int i_4), (0, .ref h0), (1, .ref h1), (2, .int p2), (3, .int p3)]) hx hb dX10_weigh_28 hl (by decide) rfl (fun ls hl => ?_)
              refine lv_aload_n hx hb dX10_weigh_30 rfl (lv_at hl 4 rfl) ?_
              refine lv_iload_n hx hb dX10_weigh_31 rfl (lv_at hl 5 rfl) ?_
              refine lv_iload hx hb dX10_weigh_32 (lv_at hl 2 rfl) ?_
              refine lv_iload hx hb dX10_weigh_34 (lv_at hl 1 rfl) ?_
              refine sl_Ic (rV_I (As := [.int p2, .int i_4, .int i_11]) (rest := []) X hp_st (fun _ _ _ h => h) (sX4_timeFor l dC dI cy h1 g_wide g_deep g_count g_sorts g_sortsf p2 i_4 i_11 hg_wide hg_deep hg_count) kX4_timeFor vX4_timeFor mX10_59 hP hD hS hA [3, 4] (by decide) rfl 0 (ci := 4) rfl rfl rfl hl rfl rfl (Nat.le_of_ble_eq_true rfl) dX10_weigh_36 ⟨(Nat.le_of_ble_eq_true rfl), (Nat.le_of_ble_eq_true rfl)⟩ ⟨(Nat.le_of_ble_eq_true rfl), (Nat.le_of_ble_eq_true rfl)⟩) hP hD hS hA [3, 4] [true, true, true, false, false] rfl rfl rfl (fun r_20 u_22 H locs k_21 hP hD hS => ?_)
              have k_21 : ((-2) ≤ r_20.toInt ∧ r_20.toInt ≤ 4) ∧ (r_20.toInt = -2 ∨ (0 ≤ i_4.toInt ∧ i_4.toInt < g_count.toInt ∧ (tgZ g_wide.toInt g_count.toInt g_sortsf i_4.toInt i_11.toInt) ≠ -1)) ∧ (r_20.toInt = tfZ g_wide.toInt g_count.toInt g_sortsf p2.toInt i_4.toInt i_11.toInt) := k_21
              obtain ⟨k_21_0, k_21_1, k_21_2⟩ := k_21
              have hPD := vPD (ws' := [(h0, .inr (9, [.ref y_targets, .ref y_weights, .ref y_left, .ref y_steps, .ref y_places, .ref y_arrivals, .int y_length, .int y_fallCount])), (y_targets, .inl (cy 1, 80, .inl f_13)), (y_weights, .inl (cy 1, 80, .inl f_15)), (h1, .inr (4, [.int g_wide, .int g_deep, .int g_count, .ref g_sorts])), (g_sorts, .inl (cy 1, 20, .inl g_sortsf))]) hP hD rfl
              have hP := hPD.1
              have hD := hPD.2
              refine lv_istore (lv' := [(7, .int r_20), (6, .int x_19), (5, .int i_11), (4, .int i_4), (0, .ref h0), (1, .ref h1), (2, .int p2), (3, .int p3)]) hx hb dX10_weigh_39 hl (by decide) rfl (fun ls hl => ?_)
              refine lv_aload_n hx hb dX10_weigh_41 rfl (lv_at hl 4 rfl) ?_
              refine r_get X kcX10 (ci := 9) rfl hP 0 rfl 0 (by decide) fX10_9 rfl dX10_weigh_42 ?_
              refine lv_iload hx hb dX10_weigh_45 (lv_at hl 1 rfl) ?_
              refine lv_iconst (v := -1) hx hb dX10_weigh_47 (by decide) ?_
              refine va_iast (D := (dC, dI)) (cl := vwCl) hx hb hK hP hD hS 1 1 rfl rfl (i := x_19) (vin (by omega) (by omega)) dX10_weigh_48 (fun H locs hP hD hS => ?_)
              generalize ef_23 : upd f_13 (Int32.toNatClampNeg x_19) (-1) = f_23 at hP hD
              have bf_23 : rb f_23 80 (-1) 19 := by rw [← ef_23]; exact rb_upd b_14 (by decide) (by decide)
              have hPD := vPD (ws' := [(h0, .inr (9, [.ref y_targets, .ref y_weights, .ref y_left, .ref y_steps, .ref y_places, .ref y_arrivals, .int y_length, .int y_fallCount])), (y_targets, .inl (cy 1, 80, .inl f_23)), (y_weights, .inl (cy 1, 80, .inl f_15)), (h1, .inr (4, [.int g_wide, .int g_deep, .int g_count, .ref g_sorts])), (g_sorts, .inl (cy 1, 20, .inl g_sortsf))]) hP hD rfl
              have hP := hPD.1
              have hD := hPD.2
              refine lv_iload hx hb dX10_weigh_49 (lv_at hl 0 rfl) ?_
              refine lv_bipush (v := -2) hx hb dX10_weigh_51 (by decide) ?_
              refine lv_icmp_eq (tgt := 114) hx hb dX10_weigh_53 (by decide) (fun h_24 => ?_) (fun h_24 => ?_)
              · have h_24 : r_20.toInt = (-2) := c_eq h_24
                obtain ⟨x_25, ex_25⟩ : ∃ y : Int32, y = i_11 + 1 := ⟨_, rfl⟩
                have tx_25 : x_25.toInt = i_11.toInt + 1 := ti_add (A := i_11.toInt) (B := 1) ex_25 rfl rfl (by omega) (by omega)
                refine lv_iinc (v := x_25) (lv' := [(5, .int x_25), (7, .int r_20), (6, .int x_19), (4, .int i_4), (0, .ref h0), (1, .ref h1), (2, .int p2), (3, .int p3)]) hx hb dX10_weigh_114 hl (k := 2) rfl (by rw [ex_25]; rfl) (by decide) rfl (fun ls hl => ?_)
                refine lv_goto (tgt := 15) hx hb dX10_weigh_117 (by decide) ?_
                exact ihlp_10 x_25 f_23 f_15 _ _ _ (by omega) bf_23 (show 5 - x_25.toInt ≤ (nlp_10 : Int) by omega) hP hD hS (lv_sub hl [0, 3, 4, 5, 6, 7] rfl)
              · have h_24 : r_20.toInt ≠ (-2) := c_ne h_24
                refine lv_aload_n hx hb dX10_weigh_56 rfl (lv_at hl 5 rfl) ?_
                refine lv_iload_n hx hb dX10_weigh_57 rfl (lv_at hl 6 rfl) ?_
                refine lv_iload hx hb dX10_weigh_58 (lv_at hl 3 rfl) ?_
                refine lv_iload hx hb dX10_weigh_60 (lv_at hl 2 rfl) ?_
                refine sl_Ic (rV_I (As := [.int p2, .int i_4, .int i_11]) (rest := []) X hp_st (fun _ _ _ h => h) (sX4_fallsFor l dC dI cy h1 g_wide g_deep g_count g_sorts g_sortsf p2 i_4 i_11 hg_wide hg_deep hg_count) kX4_fallsFor vX4_fallsFor mX10_63 hP hD hS hA [3, 4] (by decide) rfl 0 (ci := 4) rfl rfl rfl hl rfl rfl (Nat.le_of_ble_eq_true rfl) dX10_weigh_62 ⟨(Nat.le_of_ble_eq_true rfl), (Nat.le_of_ble_eq_true rfl)⟩ ⟨(Nat.le_of_ble_eq_true rfl), (Nat.le_of_ble_eq_true rfl)⟩) hP hD hS hA [3, 4] [true, true, true, false, false] rfl rfl rfl (fun r_26 u_28 H locs k_27 hP hD hS => ?_)
                have k_27 : (0 ≤ r_26.toInt ∧ r_26.toInt ≤ 1) ∧ (r_26.toInt = flZ g_wide.toInt g_count.toInt g_sortsf p2.toInt i_4.toInt i_11.toInt) := k_27
                obtain ⟨k_27_0, k_27_1⟩ := k_27
                have hPD := vPD (ws' := [(h0, .inr (9, [.ref y_targets, .ref y_weights, .ref y_left, .ref y_steps, .ref y_places, .ref y_arrivals, .int y_length, .int y_fallCount])), (y_targets, .inl (cy 1, 80, .inl f_23)), (y_weights, .inl (cy 1, 80, .inl f_15)), (h1, .inr (4, [.int g_wide, .int g_deep, .int g_count, .ref g_sorts])), (g_sorts, .inl (cy 1, 20, .inl g_sortsf))]) hP hD rfl
                have hP := hPD.1
                have hD := hPD.2
                refine lv_istore (lv' := [(8, .int r_26), (7, .int r_20), (6, .int x_19), (5, .int i_11), (4, .int i_4), (0, .ref h0), (1, .ref h1), (2, .int p2), (3, .int p3)]) hx hb dX10_weigh_65 hl (by decide) rfl (fun ls hl => ?_)
                refine lv_aload_n hx hb dX10_weigh_67 rfl (lv_at hl 5 rfl) ?_
                refine r_get X kcX10 (ci := 9) rfl hP 0 rfl 0 (by decide) fX10_9 rfl dX10_weigh_68 ?_
                refine lv_iload hx hb dX10_weigh_71 (lv_at hl 2 rfl) ?_
                refine lv_aload_n hx hb dX10_weigh_73 rfl (lv_at hl 6 rfl) ?_
                refine lv_iload hx hb dX10_weigh_74 (lv_at hl 4 rfl) ?_
                refine lv_iload hx hb dX10_weigh_76 (lv_at hl 3 rfl) ?_
                refine sl_Ic (rV_I (As := [.int i_4, .int i_11]) (rest := [.int x_19, .ref y_targets]) X hp_st (fun _ _ _ h => h) (sX4_target l dC dI cy h1 g_wide g_deep g_count g_sorts g_sortsf i_4 i_11 hg_wide hg_deep hg_count) kX4_target vX4_target mX10_66 hP hD hS hA [3, 4] (by decide) rfl 0 (ci := 4) rfl rfl rfl hl rfl rfl (Nat.le_of_ble_eq_true rfl) dX10_weigh_78 ⟨(Nat.le_of_ble_eq_true rfl), (Nat.le_of_ble_eq_true rfl)⟩ ⟨(Nat.le_of_ble_eq_true rfl), (Nat.le_of_ble_eq_true rfl)⟩) hP hD hS hA [3, 4] [true, true, true, false, false] rfl rfl rfl (fun r_29 u_31 H locs k_30 hP hD hS => ?_)
                have k_30 : ((-1) ≤ r_29.toInt ∧ r_29.toInt ≤ 19) ∧ (r_29.toInt = (tgZ g_wide.toInt g_count.toInt g_sortsf i_4.toInt i_11.toInt)) ∧ (r_29.toInt = -1 ∨ (0 ≤ r_29.toInt ∧ r_29.toInt < g_count.toInt ∧ 0 ≤ i_4.toInt ∧ i_4.toInt < g_count.toInt)) := k_30
                obtain ⟨k_30_0, k_30_1, k_30_2⟩ := k_30
                have hPD := vPD (ws' := [(h0, .inr (9, [.ref y_targets, .ref y_weights, .ref y_left, .ref y_steps, .ref y_places, .ref y_arrivals, .int y_length, .int y_fallCount])), (y_targets, .inl (cy 1, 80, .inl f_23)), (y_weights, .inl (cy 1, 80, .inl f_15)), (h1, .inr (4, [.int g_wide, .int g_deep, .int g_count, .ref g_sorts])), (g_sorts, .inl (cy 1, 20, .inl g_sortsf))]) hP hD rfl
                have hP := hPD.1
                have hD := hPD.2
                refine va_iast (D := (dC, dI)) (cl := vwCl) hx hb hK hP hD hS 1 1 rfl rfl (i := x_19) (vin (by omega) (by omega)) dX10_weigh_81 (fun H locs hP hD hS => ?_)
                generalize ef_32 : upd f_23 (Int32.toNatClampNeg x_19) r_29 = f_32 at hP hD
                have bf_32 : rb f_32 80 (-1) 19 := by rw [← ef_32]; exact rb_upd bf_23 (by omega) (by omega)
                have hPD := vPD (ws' := [(h0, .inr (9, [.ref y_targets, .ref y_weights, .ref y_left, .ref y_steps, .ref y_places, .ref y_arrivals, .int y_length, .int y_fallCount])), (y_targets, .inl (cy 1, 80, .inl f_32)), (y_weights, .inl (cy 1, 80, .inl f_15)), (h1, .inr (4, [.int g_wide, .int g_deep, .int g_count, .ref g_sorts])), (g_sorts, .inl (cy 1, 20, .inl g_sortsf))]) hP hD rfl
                have hP := hPD.1
                have hD := hPD.2
                refine lv_aload_n hx hb dX10_weigh_82 rfl (lv_at hl 5 rfl) ?_
                refine r_get X kcX10 (ci := 9) rfl hP 0 rfl 1 (by decide) fX10_15 rfl dX10_weigh_83 ?_
                refine lv_iload hx hb dX10_weigh_86 (lv_at hl 2 rfl) ?_
                refine lv_iload_n hx hb dX10_weigh_88 rfl (lv_at hl 8 rfl) ?_
                refine lv_if_eq (tgt := 104) hx hb dX10_weigh_89 (by decide) (fun h_33 => ?_) (fun h_33 => ?_)
                · have h_33 : p3.toInt = 0 := c_eq h_33
                  refine lv_iload hx hb dX10_weigh_104 (lv_at hl 1 rfl) ?_
                  refine lv_sipush (v := 1000) hx hb dX10_weigh_106 (by decide) ?_
                  refine lv_imul hx hb dX10_weigh_109 ?_
                  refine lv_topi (fun x_34 ex_34 => ?_)
                  refine lv_iload hx hb dX10_weigh_110 (lv_at hl 0 rfl) ?_
                  refine lv_iadd hx hb dX10_weigh_112 ?_
                  have dy_35 := ti_bd x_34
                  refine lv_topi (fun x_36 ex_36 => ?_)
                  refine va_iast (D := (dC, dI)) (cl := vwCl) hx hb hK hP hD hS 2 1 rfl rfl (i := x_19) (vin (by omega) (by omega)) dX10_weigh_113 (fun H locs hP hD hS => ?_)
                  generalize ef_37 : upd f_15 (Int32.toNatClampNeg x_19) x_36 = f_37 at hP hD
                  have hPD := vPD (ws' := [(h0, .inr (9, [.ref y_targets, .ref y_weights, .ref y_left, .ref y_steps, .ref y_places, .ref y_arrivals, .int y_length, .int y_fallCount])), (y_targets, .inl (cy 1, 80, .inl f_32)), (y_weights, .inl (cy 1, 80, .inl f_37)), (h1, .inr (4, [.int g_wide, .int g_deep, .int g_count, .ref g_sorts])), (g_sorts, .inl (cy 1, 20, .inl g_sortsf))]) hP hD rfl
                  have hP := hPD.1
                  have hD := hPD.2
                  obtain ⟨x_38, ex_38⟩ : ∃ y : Int32, y = i_11 + 1 := ⟨_, rfl⟩
                  have tx_38 : x_38.toInt = i_11.toInt + 1 := ti_add (A := i_11.toInt) (B := 1) ex_38 rfl rfl (by omega) (by omega)
                  refine lv_iinc (v := x_38) (lv' := [(5, .int x_38), (8, .int r_26), (7, .int r_20), (6, .int x_19), (4, .int i_4), (0, .ref h0), (1, .ref h1), (2, .int p2), (3, .int p3)]) hx hb dX10_weigh_114 hl (k := 3) rfl (by rw [ex_38]; rfl) (by decide) rfl (fun ls hl => ?_)
                  refine lv_goto (tgt := 15) hx hb dX10_weigh_117 (by decide) ?_
                  exact ihlp_10 x_38 f_32 f_37 _ _ _ (by omega) bf_32 (show 5 - x_38.toInt ≤ (nlp_10 : Int) by omega) hP hD hS (lv_sub hl [0, 4, 5, 6, 7, 8] rfl)
                · have h_33 : p3.toInt ≠ 0 := c_ne h_33
                  refine lv_iload hx hb dX10_weigh_92 (lv_at hl 0 rfl) ?_
                  refine lv_sipush (v := 1000) hx hb dX10_weigh_94 (by decide) ?_
                  refine lv_imul hx hb dX10_weigh_97 ?_
                  refine lv_topi (fun x_39 ex_39 => ?_)
                  have tx_39 : x_39.toInt = r_26.toInt * 1000 := ti_mulk (A := r_26.toInt) (B := 1000) ex_39 rfl rfl (by omega) (by omega)
                  refine lv_iload hx hb dX10_weigh_98 (lv_at hl 1 rfl) ?_
                  refine lv_iadd hx hb dX10_weigh_100 ?_
                  refine lv_topi (fun x_40 ex_40 => ?_)
                  have tx_40 : x_40.toInt = x_39.toInt + r_20.toInt := ti_add (A := x_39.toInt) (B := r_20.toInt) ex_40 rfl rfl (by omega) (by omega)
                  refine lv_goto (tgt := 113) hx hb dX10_weigh_101 (by decide) ?_
                  refine va_iast (D := (dC, dI)) (cl := vwCl) hx hb hK hP hD hS 2 1 rfl rfl (i := x_19) (vin (by omega) (by omega)) dX10_weigh_113 (fun H locs hP hD hS => ?_)
                  generalize ef_41 : upd f_15 (Int32.toNatClampNeg x_19) x_40 = f_41 at hP hD
                  have hPD := vPD (ws' := [(h0, .inr (9, [.ref y_targets, .ref y_weights, .ref y_left, .ref y_steps, .ref y_places, .ref y_arrivals, .int y_length, .int y_fallCount])), (y_targets, .inl (cy 1, 80, .inl f_32)), (y_weights, .inl (cy 1, 80, .inl f_41)), (h1, .inr (4, [.int g_wide, .int g_deep, .int g_count, .ref g_sorts])), (g_sorts, .inl (cy 1, 20, .inl g_sortsf))]) hP hD rfl
                  have hP := hPD.1
                  have hD := hPD.2
                  obtain ⟨x_42, ex_42⟩ : ∃ y : Int32, y = i_11 + 1 := ⟨_, rfl⟩
                  have tx_42 : x_42.toInt = i_11.toInt + 1 := ti_add (A := i_11.toInt) (B := 1) ex_42 rfl rfl (by omega) (by omega)
                  refine lv_iinc (v := x_42) (lv' := [(5, .int x_42), (8, .int r_26), (7, .int r_20), (6, .int x_19), (4, .int i_4), (0, .ref h0), (1, .ref h1), (2, .int p2), (3, .int p3)]) hx hb dX10_weigh_114 hl (k := 3) rfl (by rw [ex_42]; rfl) (by decide) rfl (fun ls hl => ?_)
                  refine lv_goto (tgt := 15) hx hb dX10_weigh_117 (by decide) ?_
                  exact ihlp_10 x_42 f_32 f_41 _ _ _ (by omega) bf_32 (show 5 - x_42.toInt ≤ (nlp_10 : Int) by omega) hP hD hS (lv_sub hl [0, 4, 5, 6, 7, 8] rfl)
        exact lp_10 5 0 f_6 f_8 _ _ _ (by decide) b_7 (show 5 - 0 ≤ ((5 : Nat) : Int) by omega) hP hD hS hl
  exact lp_3 21 0 y_targetsf y_weightsf _ _ _ (by decide) hy_targetsf (show 21 - 0 ≤ ((21 : Nat) : Int) by omega) hP hD hS hl
set_option maxHeartbeats 4000000 in
set_option maxRecDepth 100000 in
theorem sX10_improve (l : Launch) (dC : Nat → ClassId) (dI : Nat → Nat → Nat) (cy : Nat → ClassId) (h0 : Nat) (y_targets : Nat) (y_weights : Nat) (y_left : Nat) (y_steps : Nat) (y_places : Nat) (y_arrivals : Nat) (y_length : Int32) (y_fallCount : Int32) (y_targetsf : Nat → Int32) (y_weightsf : Nat → Int32) (y_leftf : Nat → Int32) (p1 : Int32) (hy_length : 0 ≤ y_length.toInt ∧ y_length.toInt ≤ 20) (hy_targetsf : rb y_targetsf 80 (-1) 19) (hp1 : 0 ≤ p1.toInt ∧ p1.toInt ≤ 20) : ctI l dC dI cy hp yX10_improve cX10_improve 5 .boolean ({ frames := 0, cells := 0, slots := 0, locals := 0 } : Room) [.ref h0, .int p1] [(h0, .inr (9, [.ref y_targets, .ref y_weights, .ref y_left, .ref y_steps, .ref y_places, .ref y_arrivals, .int y_length, .int y_fallCount])), (y_targets, .inl (cy 1, 80, .inl y_targetsf)), (y_weights, .inl (cy 1, 80, .inl y_weightsf)), (y_left, .inl (cy 1, 20, .inl y_leftf))] (S := (Nat → Int32)) (fun r u => (0 ≤ r.toInt ∧ r.toInt ≤ 1)) (fun u => [(h0, .inr (9, [.ref y_targets, .ref y_weights, .ref y_left, .ref y_steps, .ref y_places, .ref y_arrivals, .int y_length, .int y_fallCount])), (y_targets, .inl (cy 1, 80, .inl y_targetsf)), (y_weights, .inl (cy 1, 80, .inl y_weightsf)), (y_left, .inl (cy 1, 20, .inl u))]) := by
  refine ctI.of (by decide +kernel) (Nat.le_of_ble_eq_true rfl) ?_
  intro p e s m args below meth c A ls Q hQ X hr hlocks hin hA hP hD hS hl
  have hx := X.1
  have hb := X.2.1
  have hK := X.2.2.2.2.2.1
  have hl : lv_has ls 5 [(0, .ref h0), (1, .int p1)] := hl
  refine lv_iconst (v := 0) hx hb dX10_improve_0 (by decide) ?_
  refine lv_istore_n (lv' := [(2, .int 0), (0, .ref h0), (1, .int p1)]) hx hb dX10_improve_1 rfl hl (by decide) rfl (fun ls hl => ?_)
  refine lv_iconst (v := 0) hx hb dX10_improve_2 (by decide) ?_
  refine lv_istore_n (lv' := [(3, .int 0), (2, .int 0), (0, .ref h0), (1, .int p1)]) hx hb dX10_improve_3 rfl hl (by decide) rfl (fun ls hl => ?_)
  have lp_1 : ∀ (nlp_1 : Nat) (i_2 : Int32) (i_4 : Int32) (f_6 : Nat → Int32) (H : Heap) (locs : List Loc) (ls : Array Slot), (0 ≤ i_2.toInt ∧ i_2.toInt ≤ 80) → (0 ≤ i_4.toInt ∧ i_4.toInt ≤ 1) → (81 - i_2.toInt ≤ (nlp_1 : Int)) → va_P (dC, dI) vwCl [(h0, .inr (9, [.ref y_targets, .ref y_weights, .ref y_left, .ref y_steps, .ref y_places, .ref y_arrivals, .int y_length, .int y_fallCount])), (y_targets, .inl (cy 1, 80, .inl y_targetsf)), (y_weights, .inl (cy 1, 80, .inl y_weightsf)), (y_left, .inl (cy 1, 20, .inl f_6))] H → va_D A [(h0, .inr (9, [.ref y_targets, .ref y_weights, .ref y_left, .ref y_steps, .ref y_places, .ref y_arrivals, .int y_length, .int y_fallCount])), (y_targets, .inl (cy 1, 80, .inl y_targetsf)), (y_weights, .inl (cy 1, 80, .inl y_weightsf)), (y_left, .inl (cy 1, 20, .inl f_6))] → va_S A s.heap H locs → lv_has ls 5 [(3, .int i_2), (2, .int i_4), (0, .ref h0), (1, .int p1)] → W p l e ({ frames := 0, cells := 0, slots := 0, locals := 0 } : Room) s m args below meth c H locs 0 0 Q (F0 m 4 ls []) := by
    intro nlp_1
    induction nlp_1 with
    | zero =>
      intro i_2 i_4 f_6 H locs ls b_3 b_5 hmlp_1 hP hD hS hl
      exfalso
      have di_2 := ti_bd i_2
      have di_4 := ti_bd i_4
      omega
    | succ nlp_1 ihlp_1 =>
      intro i_2 i_4 f_6 H locs ls b_3 b_5 hmlp_1 hP hD hS hl
      refine lv_iload_n hx hb dX10_improve_4 rfl (lv_at hl 0 rfl) ?_
      refine lv_iload_n hx hb dX10_improve_5 rfl (lv_at hl 3 rfl) ?_
      refine lv_iconst (v := 4) hx hb dX10_improve_6 (by decide) ?_
      refine lv_imul hx hb dX10_improve_7 ?_
      refine lv_topi (fun x_7 ex_7 => ?_)
      have tx_7 : x_7.toInt = p1.toInt * 4 := ti_mulk (A := p1.toInt) (B := 4) ex_7 rfl rfl (by omega) (by omega)
      refine lv_icmp_ge (tgt := 72) hx hb dX10_improve_8 (by decide) (fun h_8 => ?_) (fun h_8 => ?_)
      · have h_8 : x_7.toInt ≤ i_2.toInt := c_le h_8
        refine lv_iload_n hx hb dX10_improve_72 rfl (lv_at hl 1 rfl) ?_
        exact eI hQ X hr hlocks hP hD hS f_6 [0, 1, 2, 3] (by decide) rfl (nar_b (by omega) (by omega)) (show (0 ≤ i_4.toInt ∧ i_4.toInt ≤ 1) from b_5) (Nat.le_of_ble_eq_true rfl) (Nat.le_of_ble_eq_true rfl) dX10_improve_73
      · have h_8 : i_2.toInt < x_7.toInt := c_nle h_8
        refine lv_aload_n hx hb dX10_improve_11 rfl (lv_at hl 2 rfl) ?_
        refine r_get X kcX10 (ci := 9) rfl hP 0 rfl 0 (by decide) fX10_9 rfl dX10_improve_12 ?_
        refine lv_iload_n hx hb dX10_improve_15 rfl (lv_at hl 0 rfl) ?_
        refine va_iald (D := (dC, dI)) (cl := vwCl) hx hb hK hP 1 1 rfl rfl (i := i_2) (vin (by omega) (by omega)) dX10_improve_16 ?_
        refine lv_topi (fun x_9 ex_9 => ?_)
        have bx_9 : (-1) ≤ x_9.toInt ∧ x_9.toInt ≤ 19 := rb_at hy_targetsf ex_9 (by omega) (by omega)
        refine lv_iconst (v := -1) hx hb dX10_improve_17 (by decide) ?_
        refine lv_icmp_eq (tgt := 66) hx hb dX10_improve_18 (by decide) (fun h_10 => ?_) (fun h_10 => ?_)
        · have h_10 : x_9.toInt = (-1) := c_eq h_10
          obtain ⟨x_11, ex_11⟩ : ∃ y : Int32, y = i_2 + 1 := ⟨_, rfl⟩
          have tx_11 : x_11.toInt = i_2.toInt + 1 := ti_add (A := i_2.toInt) (B := 1) ex_11 rfl rfl (by omega) (by omega)
          refine lv_iinc (v := x_11) (lv' := [(3, .int x_11), (2, .int i_4), (0, .ref h0), (1, .int p1)]) hx hb dX10_improve_66 hl (k := 0) rfl (by rw [ex_11]; rfl) (by decide) rfl (fun ls hl => ?_)
          refine lv_goto (tgt := 4) hx hb dX10_improve_69 (by decide) ?_
          exact ihlp_1 x_11 i_4 f_6 _ _ _ (by omega) (by omega) (show 81 - x_11.toInt ≤ (nlp_1 : Int) by omega) hP hD hS (lv_sub hl [0, 1, 2, 3] rfl)
        · have h_10 : x_9.toInt ≠ (-1) := c_ne h_10
          refine lv_aload_n hx hb dX10_improve_21 rfl (lv_at hl 2 rfl) ?_
          refine r_get X kcX10 (ci := 9) rfl hP 0 rfl 1 (by decide) fX10_15 rfl dX10_improve_22 ?_
          refine lv_iload_n hx hb dX10_improve_25 rfl (lv_at hl 0 rfl) ?_
          refine va_iald (D := (dC, dI)) (cl := vwCl) hx hb hK hP 2 1 rfl rfl (i := i_2) (vin (by omega) (by omega)) dX10_improve_26 ?_
          refine lv_topi (fun x_12 ex_12 => ?_)
          refine lv_aload_n hx hb dX10_improve_27 rfl (lv_at hl 2 rfl) ?_
          refine r_get X kcX10 (ci := 9) rfl hP 0 rfl 2 (by decide) fX10_18 rfl dX10_improve_28 ?_
          refine lv_aload_n hx hb dX10_improve_31 rfl (lv_at hl 2 rfl) ?_
          refine r_get X kcX10 (ci := 9) rfl hP 0 rfl 0 (by decide) fX10_9 rfl dX10_improve_32 ?_
          refine lv_iload_n hx hb dX10_improve_35 rfl (lv_at hl 0 rfl) ?_
          refine va_iald (D := (dC, dI)) (cl := vwCl) hx hb hK hP 1 1 rfl rfl (i := i_2) (vin (by omega) (by omega)) dX10_improve_36 ?_
          refine lv_topi (fun x_13 ex_13 => ?_)
          have qx_13 : x_9 = x_13 := ex_9.trans ex_13.symm
          subst qx_13
          refine va_iald (D := (dC, dI)) (cl := vwCl) hx hb hK hP 3 1 rfl rfl (i := x_9) (vin (by omega) (by omega)) dX10_improve_37 ?_
          refine lv_topi (fun x_14 ex_14 => ?_)
          refine lv_iadd hx hb dX10_improve_38 ?_
          have dy_15 := ti_bd x_12
          have dy_16 := ti_bd x_14
          refine lv_topi (fun x_17 ex_17 => ?_)
          refine lv_istore (lv' := [(4, .int x_17), (3, .int i_2), (2, .int i_4), (0, .ref h0), (1, .int p1)]) hx hb dX10_improve_39 hl (by decide) rfl (fun ls hl => ?_)
          refine lv_iload hx hb dX10_improve_41 (lv_at hl 0 rfl) ?_
          refine lv_aload_n hx hb dX10_improve_43 rfl (lv_at hl 3 rfl) ?_
          refine r_get X kcX10 (ci := 9) rfl hP 0 rfl 2 (by decide) fX10_18 rfl dX10_improve_44 ?_
          refine lv_iload_n hx hb dX10_improve_47 rfl (lv_at hl 1 rfl) ?_
          refine lv_iconst (v := 4) hx hb dX10_improve_48 (by decide) ?_
          refine lv_idiv hx hb dX10_improve_49 (by decide) ?_
          refine lv_topi (fun x_18 ex_18 => ?_)
          have tx_18 : 0 ≤ x_18.toInt ∧ x_18.toInt ≤ i_2.toInt ∧ x_18.toInt = i_2.toInt / 4 := ti_divb ex_18 (by omega) (by decide)
          refine va_iald (D := (dC, dI)) (cl := vwCl) hx hb hK hP 3 1 rfl rfl (i := x_18) (vin (by omega) (by omega)) dX10_improve_50 ?_
          refine lv_topi (fun x_19 ex_19 => ?_)
          refine lv_icmp_ge (tgt := 66) hx hb dX10_improve_51 (by decide) (fun h_20 => ?_) (fun h_20 => ?_)
          · have h_20 : x_19.toInt ≤ x_17.toInt := c_le h_20
            obtain ⟨x_21, ex_21⟩ : ∃ y : Int32, y = i_2 + 1 := ⟨_, rfl⟩
            have tx_21 : x_21.toInt = i_2.toInt + 1 := ti_add (A := i_2.toInt) (B := 1) ex_21 rfl rfl (by omega) (by omega)
            refine lv_iinc (v := x_21) (lv' := [(3, .int x_21), (4, .int x_17), (2, .int i_4), (0, .ref h0), (1, .int p1)]) hx hb dX10_improve_66 hl (k := 1) rfl (by rw [ex_21]; rfl) (by decide) rfl (fun ls hl => ?_)
            refine lv_goto (tgt := 4) hx hb dX10_improve_69 (by decide) ?_
            exact ihlp_1 x_21 i_4 f_6 _ _ _ (by omega) (by omega) (show 81 - x_21.toInt ≤ (nlp_1 : Int) by omega) hP hD hS (lv_sub hl [0, 2, 3, 4] rfl)
          · have h_20 : x_17.toInt < x_19.toInt := c_nle h_20
            refine lv_aload_n hx hb dX10_improve_54 rfl (lv_at hl 3 rfl) ?_
            refine r_get X kcX10 (ci := 9) rfl hP 0 rfl 2 (by decide) fX10_18 rfl dX10_improve_55 ?_
            refine lv_iload_n hx hb dX10_improve_58 rfl (lv_at hl 1 rfl) ?_
            refine lv_iconst (v := 4) hx hb dX10_improve_59 (by decide) ?_
            refine lv_idiv hx hb dX10_improve_60 (by decide) ?_
            refine lv_topi (fun x_22 ex_22 => ?_)
            have tx_22 : 0 ≤ x_22.toInt ∧ x_22.toInt ≤ i_2.toInt ∧ x_22.toInt = i_2.toInt / 4 := ti_divb ex_22 (by omega) (by decide)
            refine lv_iload hx hb dX10_improve_61 (lv_at hl 0 rfl) ?_
            refine va_iast (D := (dC, dI)) (cl := vwCl) hx hb hK hP hD hS 3 1 rfl rfl (i := x_22) (vin (by omega) (by omega)) dX10_improve_63 (fun H locs hP hD hS => ?_)
            generalize ef_23 : upd f_6 (Int32.toNatClampNeg x_22) x_17 = f_23 at hP hD
            have hPD := vPD (ws' := [(h0, .inr (9, [.ref y_targets, .ref y_weights, .ref y_left, .ref y_steps, .ref y_places, .ref y_arrivals, .int y_length, .int y_fallCount])), (y_targets, .inl (cy 1, 80, .inl y_targetsf)), (y_weights, .inl (cy 1, 80, .inl y_weightsf)), (y_left, .inl (cy 1, 20, .inl f_23))]) hP hD rfl
            have hP := hPD.1
            have hD := hPD.2
            refine lv_iconst (v := 1) hx hb dX10_improve_64 (by decide) ?_
            refine lv_istore_n (lv' := [(2, .int 1), (4, .int x_17), (3, .int i_2), (0, .ref h0), (1, .int p1)]) hx hb dX10_improve_65 rfl hl (by decide) rfl (fun ls hl => ?_)
            obtain ⟨x_24, ex_24⟩ : ∃ y : Int32, y = i_2 + 1 := ⟨_, rfl⟩
            have tx_24 : x_24.toInt = i_2.toInt + 1 := ti_add (A := i_2.toInt) (B := 1) ex_24 rfl rfl (by omega) (by omega)
            refine lv_iinc (v := x_24) (lv' := [(3, .int x_24), (2, .int 1), (4, .int x_17), (0, .ref h0), (1, .int p1)]) hx hb dX10_improve_66 hl (k := 2) rfl (by rw [ex_24]; rfl) (by decide) rfl (fun ls hl => ?_)
            refine lv_goto (tgt := 4) hx hb dX10_improve_69 (by decide) ?_
            exact ihlp_1 x_24 1 f_23 _ _ _ (by omega) (by decide) (show 81 - x_24.toInt ≤ (nlp_1 : Int) by omega) hP hD hS (lv_sub hl [0, 1, 3, 4] rfl)
  exact lp_1 81 0 0 y_leftf _ _ _ (by decide) (by decide) (show 81 - 0 ≤ ((81 : Nat) : Int) by omega) hP hD hS hl
set_option maxHeartbeats 4000000 in
set_option maxRecDepth 100000 in
theorem sX10_measure (l : Launch) (dC : Nat → ClassId) (dI : Nat → Nat → Nat) (cy : Nat → ClassId) (h0 : Nat) (y_targets : Nat) (y_weights : Nat) (y_left : Nat) (y_steps : Nat) (y_places : Nat) (y_arrivals : Nat) (y_length : Int32) (y_fallCount : Int32) (y_targetsf : Nat → Int32) (y_weightsf : Nat → Int32) (y_leftf : Nat → Int32) (p1 : Int32) (p2 : Int32) (hy_length : 0 ≤ y_length.toInt ∧ y_length.toInt ≤ 20) (hy_targetsf : rb y_targetsf 80 (-1) 19) (hp1 : 0 ≤ p1.toInt ∧ p1.toInt ≤ 20) : ctV l dC dI cy hp yX10_measure cX10_measure 5 ({ frames := 1, cells := 0, slots := 0, locals := 24 } : Room) [.ref h0, .int p1, .int p2] [(h0, .inr (9, [.ref y_targets, .ref y_weights, .ref y_left, .ref y_steps, .ref y_places, .ref y_arrivals, .int y_length, .int y_fallCount])), (y_targets, .inl (cy 1, 80, .inl y_targetsf)), (y_weights, .inl (cy 1, 80, .inl y_weightsf)), (y_left, .inl (cy 1, 20, .inl y_leftf))] (S := (Nat → Int32)) (fun u => True) (fun u => [(h0, .inr (9, [.ref y_targets, .ref y_weights, .ref y_left, .ref y_steps, .ref y_places, .ref y_arrivals, .int y_length, .int y_fallCount])), (y_targets, .inl (cy 1, 80, .inl y_targetsf)), (y_weights, .inl (cy 1, 80, .inl y_weightsf)), (y_left, .inl (cy 1, 20, .inl u))]) := by
  refine ctV.of (by decide +kernel) (Nat.le_of_ble_eq_true rfl) ?_
  intro p e s m args below meth c A ls Q hQ X hr hlocks hin hA hP hD hS hl
  have hx := X.1
  have hb := X.2.1
  have hK := X.2.2.2.2.2.1
  have hl : lv_has ls 5 [(0, .ref h0), (1, .int p1), (2, .int p2)] := hl
  have dy_1 := ti_bd p2
  refine lv_iconst (v := 0) hx hb dX10_measure_0 (by decide) ?_
  refine lv_istore_n (lv' := [(3, .int 0), (0, .ref h0), (1, .int p1), (2, .int p2)]) hx hb dX10_measure_1 rfl hl (by decide) rfl (fun ls hl => ?_)
  have lp_2 : ∀ (nlp_2 : Nat) (i_3 : Int32) (f_5 : Nat → Int32) (H : Heap) (locs : List Loc) (ls : Array Slot), (0 ≤ i_3.toInt ∧ i_3.toInt ≤ 20) → (21 - i_3.toInt ≤ (nlp_2 : Int)) → va_P (dC, dI) vwCl [(h0, .inr (9, [.ref y_targets, .ref y_weights, .ref y_left, .ref y_steps, .ref y_places, .ref y_arrivals, .int y_length, .int y_fallCount])), (y_targets, .inl (cy 1, 80, .inl y_targetsf)), (y_weights, .inl (cy 1, 80, .inl y_weightsf)), (y_left, .inl (cy 1, 20, .inl f_5))] H → va_D A [(h0, .inr (9, [.ref y_targets, .ref y_weights, .ref y_left, .ref y_steps, .ref y_places, .ref y_arrivals, .int y_length, .int y_fallCount])), (y_targets, .inl (cy 1, 80, .inl y_targetsf)), (y_weights, .inl (cy 1, 80, .inl y_weightsf)), (y_left, .inl (cy 1, 20, .inl f_5))] → va_S A s.heap H locs → lv_has ls 5 [(3, .int i_3), (0, .ref h0), (1, .int p1), (2, .int p2)] → W p l e ({ frames := 1, cells := 0, slots := 0, locals := 24 } : Room) s m args below meth c H locs 0 0 Q (F0 m 2 ls []) := by
    intro nlp_2
    induction nlp_2 with
    | zero =>
      intro i_3 f_5 H locs ls b_4 hmlp_2 hP hD hS hl
      exfalso
      have di_3 := ti_bd i_3
      omega
    | succ nlp_2 ihlp_2 =>
      intro i_3 f_5 H locs ls b_4 hmlp_2 hP hD hS hl
      refine lv_iload_n hx hb dX10_measure_2 rfl (lv_at hl 0 rfl) ?_
      refine lv_iload_n hx hb dX10_measure_3 rfl (lv_at hl 2 rfl) ?_
      refine lv_icmp_ge (tgt := 30) hx hb dX10_measure_4 (by decide) (fun h_6 => ?_) (fun h_6 => ?_)
      · have h_6 : p1.toInt ≤ i_3.toInt := c_le h_6
        refine lv_iconst (v := 1) hx hb dX10_measure_30 (by decide) ?_
        refine lv_istore_n (lv' := [(3, .int 1), (0, .ref h0), (1, .int p1), (2, .int p2)]) hx hb dX10_measure_31 rfl hl (by decide) rfl (fun ls hl => ?_)
        refine lv_iconst (v := 0) hx hb dX10_measure_32 (by decide) ?_
        refine lv_istore (lv' := [(4, .int 0), (3, .int 1), (0, .ref h0), (1, .int p1), (2, .int p2)]) hx hb dX10_measure_33 hl (by decide) rfl (fun ls hl => ?_)
        have lp_7 : ∀ (nlp_7 : Nat) (i_8 : Int32) (i_10 : Int32) (f_11 : Nat → Int32) (H : Heap) (locs : List Loc) (ls : Array Slot), (0 ≤ i_8.toInt ∧ i_8.toInt ≤ 20) → (21 - i_8.toInt ≤ (nlp_7 : Int)) → va_P (dC, dI) vwCl [(h0, .inr (9, [.ref y_targets, .ref y_weights, .ref y_left, .ref y_steps, .ref y_places, .ref y_arrivals, .int y_length, .int y_fallCount])), (y_targets, .inl (cy 1, 80, .inl y_targetsf)), (y_weights, .inl (cy 1, 80, .inl y_weightsf)), (y_left, .inl (cy 1, 20, .inl f_11))] H → va_D A [(h0, .inr (9, [.ref y_targets, .ref y_weights, .ref y_left, .ref y_steps, .ref y_places, .ref y_arrivals, .int y_length, .int y_fallCount])), (y_targets, .inl (cy 1, 80, .inl y_targetsf)), (y_weights, .inl (cy 1, 80, .inl y_weightsf)), (y_left, .inl (cy 1, 20, .inl f_11))] → va_S A s.heap H locs → lv_has ls 5 [(4, .int i_8), (3, .int i_10), (0, .ref h0), (1, .int p1), (2, .int p2)] → W p l e ({ frames := 1, cells := 0, slots := 0, locals := 24 } : Room) s m args below meth c H locs 0 0 Q (F0 m 35 ls []) := by
          intro nlp_7
          induction nlp_7 with
          | zero =>
            intro i_8 i_10 f_11 H locs ls b_9 hmlp_7 hP hD hS hl
            exfalso
            have di_8 := ti_bd i_8
            have di_10 := ti_bd i_10
            omega
          | succ nlp_7 ihlp_7 =>
            intro i_8 i_10 f_11 H locs ls b_9 hmlp_7 hP hD hS hl
            refine lv_iload hx hb dX10_measure_35 (lv_at hl 0 rfl) ?_
            refine lv_iload_n hx hb dX10_measure_37 rfl (lv_at hl 3 rfl) ?_
            refine lv_icmp_ge (tgt := 57) hx hb dX10_measure_38 (by decide) (fun h_12 => ?_) (fun h_12 => ?_)
            · have h_12 : p1.toInt ≤ i_8.toInt := c_le h_12
              exact eV hQ X hr hlocks hP hD hS f_11 [0, 1, 2, 3] (by decide) rfl trivial (Nat.le_of_ble_eq_true rfl) (Nat.le_of_ble_eq_true rfl) dX10_measure_57
            · have h_12 : i_8.toInt < p1.toInt := c_nle h_12
              refine lv_iload_n hx hb dX10_measure_41 rfl (lv_at hl 1 rfl) ?_
              refine lv_if_eq (tgt := 57) hx hb dX10_measure_42 (by decide) (fun h_13 => ?_) (fun h_13 => ?_)
              · have h_13 : i_10.toInt = 0 := c_eq h_13
                exact eV hQ X hr hlocks hP hD hS f_11 [0, 1, 2, 3] (by decide) rfl trivial (Nat.le_of_ble_eq_true rfl) (Nat.le_of_ble_eq_true rfl) dX10_measure_57
              · have h_13 : i_10.toInt ≠ 0 := c_ne h_13
                refine lv_aload_n hx hb dX10_measure_45 rfl (lv_at hl 2 rfl) ?_
                refine lv_iload_n hx hb dX10_measure_46 rfl (lv_at hl 3 rfl) ?_
                refine sl_Ic (rV_I (As := [.int p1]) (rest := []) X hp_st (fun _ _ _ h => h) (sX10_improve l dC dI cy h0 y_targets y_weights y_left y_steps y_places y_arrivals y_length y_fallCount y_targetsf y_weightsf f_11 p1 hy_length hy_targetsf hp1) kX10_improve vX10_improve mX10_70 hP hD hS hA [0, 1, 2, 3] (by decide) rfl 0 (ci := 9) rfl rfl rfl hl rfl rfl (Nat.le_of_ble_eq_true rfl) dX10_measure_47 ⟨(Nat.le_of_ble_eq_true rfl), (Nat.le_of_ble_eq_true rfl)⟩ ⟨(Nat.le_of_ble_eq_true rfl), (Nat.le_of_ble_eq_true rfl)⟩) hP hD hS hA [0, 1, 2, 3] [false, false, false, false] rfl rfl rfl (fun r_15 u_17 H locs k_16 hP hD hS => ?_)
                obtain ⟨y_leftf1_14, eu_17⟩ : ∃ z, z = u_17 := ⟨_, rfl⟩
                subst eu_17
                have k_16 : (0 ≤ r_15.toInt ∧ r_15.toInt ≤ 1) := k_16
                have hPD := vPD (ws' := [(h0, .inr (9, [.ref y_targets, .ref y_weights, .ref y_left, .ref y_steps, .ref y_places, .ref y_arrivals, .int y_length, .int y_fallCount])), (y_targets, .inl (cy 1, 80, .inl y_targetsf)), (y_weights, .inl (cy 1, 80, .inl y_weightsf)), (y_left, .inl (cy 1, 20, .inl y_leftf1_14))]) hP hD rfl
                have hP := hPD.1
                have hD := hPD.2
                refine lv_istore_n (lv' := [(3, .int r_15), (4, .int i_8), (0, .ref h0), (1, .int p1), (2, .int p2)]) hx hb dX10_measure_50 rfl hl (by decide) rfl (fun ls hl => ?_)
                obtain ⟨x_18, ex_18⟩ : ∃ y : Int32, y = i_8 + 1 := ⟨_, rfl⟩
                have tx_18 : x_18.toInt = i_8.toInt + 1 := ti_add (A := i_8.toInt) (B := 1) ex_18 rfl rfl (by omega) (by omega)
                refine lv_iinc (v := x_18) (lv' := [(4, .int x_18), (3, .int r_15), (0, .ref h0), (1, .int p1), (2, .int p2)]) hx hb dX10_measure_51 hl (k := 1) rfl (by rw [ex_18]; rfl) (by decide) rfl (fun ls hl => ?_)
                refine lv_goto (tgt := 35) hx hb dX10_measure_54 (by decide) ?_
                exact ihlp_7 x_18 r_15 y_leftf1_14 _ _ _ (by omega) (show 21 - x_18.toInt ≤ (nlp_7 : Int) by omega) hP hD hS (lv_sub hl [0, 1, 2, 3, 4] rfl)
        exact lp_7 21 0 1 f_5 _ _ _ (by decide) (show 21 - 0 ≤ ((21 : Nat) : Int) by omega) hP hD hS hl
      · have h_6 : i_3.toInt < p1.toInt := c_nle h_6
        refine lv_aload_n hx hb dX10_measure_7 rfl (lv_at hl 1 rfl) ?_
        refine r_get X kcX10 (ci := 9) rfl hP 0 rfl 2 (by decide) fX10_18 rfl dX10_measure_8 ?_
        refine lv_iload_n hx hb dX10_measure_11 rfl (lv_at hl 0 rfl) ?_
        refine lv_iload_n hx hb dX10_measure_12 rfl (lv_at hl 0 rfl) ?_
        refine lv_iload_n hx hb dX10_measure_13 rfl (lv_at hl 3 rfl) ?_
        refine lv_icmp_ne (tgt := 21) hx hb dX10_measure_14 (by decide) (fun h_19 => ?_) (fun h_19 => ?_)
        · have h_19 : i_3.toInt ≠ p2.toInt := c_ne h_19
          refine lv_ldc (v := 1000000) hx hb X.2.2.2.1 (X.2.2.2.2.1 _ w_881) dX10_measure_21 ?_
          refine va_iast (D := (dC, dI)) (cl := vwCl) hx hb hK hP hD hS 3 1 rfl rfl (i := i_3) (vin (by omega) (by omega)) dX10_measure_23 (fun H locs hP hD hS => ?_)
          generalize ef_20 : upd f_5 (Int32.toNatClampNeg i_3) 1000000 = f_20 at hP hD
          have hPD := vPD (ws' := [(h0, .inr (9, [.ref y_targets, .ref y_weights, .ref y_left, .ref y_steps, .ref y_places, .ref y_arrivals, .int y_length, .int y_fallCount])), (y_targets, .inl (cy 1, 80, .inl y_targetsf)), (y_weights, .inl (cy 1, 80, .inl y_weightsf)), (y_left, .inl (cy 1, 20, .inl f_20))]) hP hD rfl
          have hP := hPD.1
          have hD := hPD.2
          obtain ⟨x_21, ex_21⟩ : ∃ y : Int32, y = i_3 + 1 := ⟨_, rfl⟩
          have tx_21 : x_21.toInt = i_3.toInt + 1 := ti_add (A := i_3.toInt) (B := 1) ex_21 rfl rfl (by omega) (by omega)
          refine lv_iinc (v := x_21) (lv' := [(3, .int x_21), (0, .ref h0), (1, .int p1), (2, .int p2)]) hx hb dX10_measure_24 hl (k := 0) rfl (by rw [ex_21]; rfl) (by decide) rfl (fun ls hl => ?_)
          refine lv_goto (tgt := 2) hx hb dX10_measure_27 (by decide) ?_
          exact ihlp_2 x_21 f_20 _ _ _ (by omega) (show 21 - x_21.toInt ≤ (nlp_2 : Int) by omega) hP hD hS (lv_sub hl [0, 1, 2, 3] rfl)
        · have h_19 : i_3.toInt = p2.toInt := c_eq h_19
          refine lv_iconst (v := 0) hx hb dX10_measure_17 (by decide) ?_
          refine lv_goto (tgt := 23) hx hb dX10_measure_18 (by decide) ?_
          refine va_iast (D := (dC, dI)) (cl := vwCl) hx hb hK hP hD hS 3 1 rfl rfl (i := i_3) (vin (by omega) (by omega)) dX10_measure_23 (fun H locs hP hD hS => ?_)
          generalize ef_22 : upd f_5 (Int32.toNatClampNeg i_3) 0 = f_22 at hP hD
          have hPD := vPD (ws' := [(h0, .inr (9, [.ref y_targets, .ref y_weights, .ref y_left, .ref y_steps, .ref y_places, .ref y_arrivals, .int y_length, .int y_fallCount])), (y_targets, .inl (cy 1, 80, .inl y_targetsf)), (y_weights, .inl (cy 1, 80, .inl y_weightsf)), (y_left, .inl (cy 1, 20, .inl f_22))]) hP hD rfl
          have hP := hPD.1
          have hD := hPD.2
          obtain ⟨x_23, ex_23⟩ : ∃ y : Int32, y = i_3 + 1 := ⟨_, rfl⟩
          have tx_23 : x_23.toInt = i_3.toInt + 1 := ti_add (A := i_3.toInt) (B := 1) ex_23 rfl rfl (by omega) (by omega)
          refine lv_iinc (v := x_23) (lv' := [(3, .int x_23), (0, .ref h0), (1, .int p1), (2, .int p2)]) hx hb dX10_measure_24 hl (k := 0) rfl (by rw [ex_23]; rfl) (by decide) rfl (fun ls hl => ?_)
          refine lv_goto (tgt := 2) hx hb dX10_measure_27 (by decide) ?_
          exact ihlp_2 x_23 f_22 _ _ _ (by omega) (show 21 - x_23.toInt ≤ (nlp_2 : Int) by omega) hP hD hS (lv_sub hl [0, 1, 2, 3] rfl)
  exact lp_2 21 0 y_leftf _ _ _ (by decide) (show 21 - 0 ≤ ((21 : Nat) : Int) by omega) hP hD hS hl
set_option maxHeartbeats 4000000 in
set_option maxRecDepth 100000 in
theorem sX10_firstStep (l : Launch) (dC : Nat → ClassId) (dI : Nat → Nat → Nat) (cy : Nat → ClassId) (h0 : Nat) (y_targets : Nat) (y_weights : Nat) (y_left : Nat) (y_steps : Nat) (y_places : Nat) (y_arrivals : Nat) (y_length : Int32) (y_fallCount : Int32) (y_targetsf : Nat → Int32) (y_weightsf : Nat → Int32) (y_leftf : Nat → Int32) (p1 : Int32) (hy_length : 0 ≤ y_length.toInt ∧ y_length.toInt ≤ 20) (hy_targetsf : rb y_targetsf 80 (-1) 19) (hp1 : 0 ≤ p1.toInt ∧ p1.toInt ≤ 19) : ctI l dC dI cy hp yX10_firstStep cX10_firstStep 4 .int ({ frames := 0, cells := 0, slots := 0, locals := 0 } : Room) [.ref h0, .int p1] [(h0, .inr (9, [.ref y_targets, .ref y_weights, .ref y_left, .ref y_steps, .ref y_places, .ref y_arrivals, .int y_length, .int y_fallCount])), (y_targets, .inl (cy 1, 80, .inl y_targetsf)), (y_weights, .inl (cy 1, 80, .inl y_weightsf)), (y_left, .inl (cy 1, 20, .inl y_leftf))] (S := Unit) (fun r _ => ((-1) ≤ r.toInt ∧ r.toInt ≤ 3) ∧ (r.toInt = -1 ∨ (0 ≤ r.toInt ∧ (y_targetsf (p1.toInt * 4 + r.toInt).toNat).toInt ≠ -1))) (fun _ => [(h0, .inr (9, [.ref y_targets, .ref y_weights, .ref y_left, .ref y_steps, .ref y_places, .ref y_arrivals, .int y_length, .int y_fallCount])), (y_targets, .inl (cy 1, 80, .inl y_targetsf)), (y_weights, .inl (cy 1, 80, .inl y_weightsf)), (y_left, .inl (cy 1, 20, .inl y_leftf))]) := by
  refine ctI.of (by decide +kernel) (Nat.le_of_ble_eq_true rfl) ?_
  intro p e s m args below meth c A ls Q hQ X hr hlocks hin hA hP hD hS hl
  have hx := X.1
  have hb := X.2.1
  have hK := X.2.2.2.2.2.1
  have hl : lv_has ls 4 [(0, .ref h0), (1, .int p1)] := hl
  refine lv_iconst (v := 0) hx hb dX10_firstStep_0 (by decide) ?_
  refine lv_istore_n (lv' := [(2, .int 0), (0, .ref h0), (1, .int p1)]) hx hb dX10_firstStep_1 rfl hl (by decide) rfl (fun ls hl => ?_)
  have lp_1 : ∀ (nlp_1 : Nat) (i_2 : Int32) (H : Heap) (locs : List Loc) (ls : Array Slot), (0 ≤ i_2.toInt ∧ i_2.toInt ≤ 4) → (5 - i_2.toInt ≤ (nlp_1 : Int)) → va_P (dC, dI) vwCl [(h0, .inr (9, [.ref y_targets, .ref y_weights, .ref y_left, .ref y_steps, .ref y_places, .ref y_arrivals, .int y_length, .int y_fallCount])), (y_targets, .inl (cy 1, 80, .inl y_targetsf)), (y_weights, .inl (cy 1, 80, .inl y_weightsf)), (y_left, .inl (cy 1, 20, .inl y_leftf))] H → va_D A [(h0, .inr (9, [.ref y_targets, .ref y_weights, .ref y_left, .ref y_steps, .ref y_places, .ref y_arrivals, .int y_length, .int y_fallCount])), (y_targets, .inl (cy 1, 80, .inl y_targetsf)), (y_weights, .inl (cy 1, 80, .inl y_weightsf)), (y_left, .inl (cy 1, 20, .inl y_leftf))] → va_S A s.heap H locs → lv_has ls 4 [(2, .int i_2), (0, .ref h0), (1, .int p1)] → W p l e ({ frames := 0, cells := 0, slots := 0, locals := 0 } : Room) s m args below meth c H locs 0 0 Q (F0 m 2 ls []) := by
    intro nlp_1
    induction nlp_1 with
    | zero =>
      intro i_2 H locs ls b_3 hmlp_1 hP hD hS hl
      exfalso
      have di_2 := ti_bd i_2
      omega
    | succ nlp_1 ihlp_1 =>
      intro i_2 H locs ls b_3 hmlp_1 hP hD hS hl
      refine lv_iload_n hx hb dX10_firstStep_2 rfl (lv_at hl 0 rfl) ?_
      refine lv_iconst (v := 4) hx hb dX10_firstStep_3 (by decide) ?_
      refine lv_icmp_ge (tgt := 58) hx hb dX10_firstStep_4 (by decide) (fun h_4 => ?_) (fun h_4 => ?_)
      · have h_4 : 4 ≤ i_2.toInt := c_le h_4
        refine lv_iconst (v := -1) hx hb dX10_firstStep_58 (by decide) ?_
        exact eI hQ X hr hlocks hP hD hS () [0, 1, 2, 3] (by decide) rfl rfl (show ((-1) ≤ (-1 : Int32).toInt ∧ (-1 : Int32).toInt ≤ 3) ∧ ((-1 : Int32).toInt = -1 ∨ (0 ≤ (-1 : Int32).toInt ∧ (y_targetsf (p1.toInt * 4 + (-1 : Int32).toInt).toNat).toInt ≠ -1)) from ⟨(by decide), (Or.inl (by decide))⟩) (Nat.le_of_ble_eq_true rfl) (Nat.le_of_ble_eq_true rfl) dX10_firstStep_59
      · have h_4 : i_2.toInt < 4 := c_nle h_4
        refine lv_iload_n hx hb dX10_firstStep_7 rfl (lv_at hl 2 rfl) ?_
        refine lv_iconst (v := 4) hx hb dX10_firstStep_8 (by decide) ?_
        refine lv_imul hx hb dX10_firstStep_9 ?_
        refine lv_topi (fun x_5 ex_5 => ?_)
        have tx_5 : x_5.toInt = p1.toInt * 4 := ti_mulk (A := p1.toInt) (B := 4) ex_5 rfl rfl (by omega) (by omega)
        refine lv_iload_n hx hb dX10_firstStep_10 rfl (lv_at hl 0 rfl) ?_
        refine lv_iadd hx hb dX10_firstStep_11 ?_
        refine lv_topi (fun x_6 ex_6 => ?_)
        have tx_6 : x_6.toInt = x_5.toInt + i_2.toInt := ti_add (A := x_5.toInt) (B := i_2.toInt) ex_6 rfl rfl (by omega) (by omega)
        refine lv_istore_n (lv' := [(3, .int x_6), (2, .int i_2), (0, .ref h0), (1, .int p1)]) hx hb dX10_firstStep_12 rfl hl (by decide) rfl (fun ls hl => ?_)
        refine lv_aload_n hx hb dX10_firstStep_13 rfl (lv_at hl 2 rfl) ?_
        refine r_get X kcX10 (ci := 9) rfl hP 0 rfl 0 (by decide) fX10_9 rfl dX10_firstStep_14 ?_
        refine lv_iload_n hx hb dX10_firstStep_17 rfl (lv_at hl 0 rfl) ?_
        refine va_iald (D := (dC, dI)) (cl := vwCl) hx hb hK hP 1 1 rfl rfl (i := x_6) (vin (by omega) (by omega)) dX10_firstStep_18 ?_
        refine lv_topi (fun x_7 ex_7 => ?_)
        have bx_7 : (-1) ≤ x_7.toInt ∧ x_7.toInt ≤ 19 := rb_at hy_targetsf ex_7 (by omega) (by omega)
        have gx_7 : (y_targetsf (p1.toInt * 4 + i_2.toInt).toNat).toInt = x_7.toInt := by rw [ex_7, show Int32.toNatClampNeg x_6 = (p1.toInt * 4 + i_2.toInt).toNat from (show x_6.toInt.toNat = _ by rw [show x_6.toInt = p1.toInt * 4 + i_2.toInt by omega])]
        refine lv_iconst (v := -1) hx hb dX10_firstStep_19 (by decide) ?_
        refine lv_icmp_eq (tgt := 52) hx hb dX10_firstStep_20 (by decide) (fun h_8 => ?_) (fun h_8 => ?_)
        · have h_8 : x_7.toInt = (-1) := c_eq h_8
          obtain ⟨x_9, ex_9⟩ : ∃ y : Int32, y = i_2 + 1 := ⟨_, rfl⟩
          have tx_9 : x_9.toInt = i_2.toInt + 1 := ti_add (A := i_2.toInt) (B := 1) ex_9 rfl rfl (by omega) (by omega)
          refine lv_iinc (v := x_9) (lv' := [(2, .int x_9), (3, .int x_6), (0, .ref h0), (1, .int p1)]) hx hb dX10_firstStep_52 hl (k := 1) rfl (by rw [ex_9]; rfl) (by decide) rfl (fun ls hl => ?_)
          refine lv_goto (tgt := 2) hx hb dX10_firstStep_55 (by decide) ?_
          exact ihlp_1 x_9 _ _ _ (by omega) (show 5 - x_9.toInt ≤ (nlp_1 : Int) by omega) hP hD hS (lv_sub hl [0, 2, 3] rfl)
        · have h_8 : x_7.toInt ≠ (-1) := c_ne h_8
          refine lv_aload_n hx hb dX10_firstStep_23 rfl (lv_at hl 2 rfl) ?_
          refine r_get X kcX10 (ci := 9) rfl hP 0 rfl 1 (by decide) fX10_15 rfl dX10_firstStep_24 ?_
          refine lv_iload_n hx hb dX10_firstStep_27 rfl (lv_at hl 0 rfl) ?_
          refine va_iald (D := (dC, dI)) (cl := vwCl) hx hb hK hP 2 1 rfl rfl (i := x_6) (vin (by omega) (by omega)) dX10_firstStep_28 ?_
          refine lv_topi (fun x_10 ex_10 => ?_)
          refine lv_aload_n hx hb dX10_firstStep_29 rfl (lv_at hl 2 rfl) ?_
          refine r_get X kcX10 (ci := 9) rfl hP 0 rfl 2 (by decide) fX10_18 rfl dX10_firstStep_30 ?_
          refine lv_aload_n hx hb dX10_firstStep_33 rfl (lv_at hl 2 rfl) ?_
          refine r_get X kcX10 (ci := 9) rfl hP 0 rfl 0 (by decide) fX10_9 rfl dX10_firstStep_34 ?_
          refine lv_iload_n hx hb dX10_firstStep_37 rfl (lv_at hl 0 rfl) ?_
          refine va_iald (D := (dC, dI)) (cl := vwCl) hx hb hK hP 1 1 rfl rfl (i := x_6) (vin (by omega) (by omega)) dX10_firstStep_38 ?_
          refine lv_topi (fun x_11 ex_11 => ?_)
          have qx_11 : x_7 = x_11 := ex_7.trans ex_11.symm
          subst qx_11
          refine va_iald (D := (dC, dI)) (cl := vwCl) hx hb hK hP 3 1 rfl rfl (i := x_7) (vin (by omega) (by omega)) dX10_firstStep_39 ?_
          refine lv_topi (fun x_12 ex_12 => ?_)
          refine lv_iadd hx hb dX10_firstStep_40 ?_
          have dy_13 := ti_bd x_10
          have dy_14 := ti_bd x_12
          refine lv_topi (fun x_15 ex_15 => ?_)
          refine lv_aload_n hx hb dX10_firstStep_41 rfl (lv_at hl 2 rfl) ?_
          refine r_get X kcX10 (ci := 9) rfl hP 0 rfl 2 (by decide) fX10_18 rfl dX10_firstStep_42 ?_
          refine lv_iload_n hx hb dX10_firstStep_45 rfl (lv_at hl 3 rfl) ?_
          refine va_iald (D := (dC, dI)) (cl := vwCl) hx hb hK hP 3 1 rfl rfl (i := p1) (vin (by omega) (by omega)) dX10_firstStep_46 ?_
          refine lv_topi (fun x_16 ex_16 => ?_)
          refine lv_icmp_ne (tgt := 52) hx hb dX10_firstStep_47 (by decide) (fun h_17 => ?_) (fun h_17 => ?_)
          · have h_17 : x_15.toInt ≠ x_16.toInt := c_ne h_17
            obtain ⟨x_18, ex_18⟩ : ∃ y : Int32, y = i_2 + 1 := ⟨_, rfl⟩
            have tx_18 : x_18.toInt = i_2.toInt + 1 := ti_add (A := i_2.toInt) (B := 1) ex_18 rfl rfl (by omega) (by omega)
            refine lv_iinc (v := x_18) (lv' := [(2, .int x_18), (3, .int x_6), (0, .ref h0), (1, .int p1)]) hx hb dX10_firstStep_52 hl (k := 1) rfl (by rw [ex_18]; rfl) (by decide) rfl (fun ls hl => ?_)
            refine lv_goto (tgt := 2) hx hb dX10_firstStep_55 (by decide) ?_
            exact ihlp_1 x_18 _ _ _ (by omega) (show 5 - x_18.toInt ≤ (nlp_1 : Int) by omega) hP hD hS (lv_sub hl [0, 2, 3] rfl)
          · have h_17 : x_15.toInt = x_16.toInt := c_eq h_17
            refine lv_iload_n hx hb dX10_firstStep_50 rfl (lv_at hl 1 rfl) ?_
            exact eI hQ X hr hlocks hP hD hS () [0, 1, 2, 3] (by decide) rfl rfl (show ((-1) ≤ i_2.toInt ∧ i_2.toInt ≤ 3) ∧ (i_2.toInt = -1 ∨ (0 ≤ i_2.toInt ∧ (y_targetsf (p1.toInt * 4 + i_2.toInt).toNat).toInt ≠ -1)) from ⟨(by omega), (Or.inr ⟨by omega, by omega⟩)⟩) (Nat.le_of_ble_eq_true rfl) (Nat.le_of_ble_eq_true rfl) dX10_firstStep_51
  exact lp_1 5 0 _ _ _ (by decide) (show 5 - 0 ≤ ((5 : Nat) : Int) by omega) hP hD hS hl
set_option maxHeartbeats 4000000 in
set_option maxRecDepth 100000 in
theorem sX10_follow (l : Launch) (dC : Nat → ClassId) (dI : Nat → Nat → Nat) (cy : Nat → ClassId) (h0 : Nat) (y_targets : Nat) (y_weights : Nat) (y_left : Nat) (y_steps : Nat) (y_places : Nat) (y_arrivals : Nat) (y_length : Int32) (y_fallCount : Int32) (y_targetsf : Nat → Int32) (y_weightsf : Nat → Int32) (y_leftf : Nat → Int32) (y_stepsf : Nat → Int32) (y_placesf : Nat → Int32) (y_arrivalsf : Nat → Int32) (h1 : Nat) (g_wide : Int32) (g_deep : Int32) (g_count : Int32) (g_sorts : Nat) (g_sortsf : Nat → Int32) (p2 : Int32) (p3 : Int32) (hy_length : 0 ≤ y_length.toInt ∧ y_length.toInt ≤ 20) (hy_targetsf : rb y_targetsf 80 (-1) 19) (hy_placesf : rb y_placesf 21 0 19) (hy_arrivalsf : rbk y_arrivalsf 21 (-2) 4) (hg_wide : 0 ≤ g_wide.toInt ∧ g_wide.toInt ≤ 5) (hg_deep : 0 ≤ g_deep.toInt ∧ g_deep.toInt ≤ 4) (hg_count : 0 ≤ g_count.toInt ∧ g_count.toInt ≤ 20) : ctV l dC dI cy hp yX10_follow cX10_follow 7 ({ frames := 2, cells := 0, slots := 0, locals := 47 } : Room) [.ref h0, .ref h1, .int p2, .int p3] [(h0, .inr (9, [.ref y_targets, .ref y_weights, .ref y_left, .ref y_steps, .ref y_places, .ref y_arrivals, .int y_length, .int y_fallCount])), (y_targets, .inl (cy 1, 80, .inl y_targetsf)), (y_weights, .inl (cy 1, 80, .inl y_weightsf)), (y_left, .inl (cy 1, 20, .inl y_leftf)), (y_steps, .inl (cy 1, 20, .inl y_stepsf)), (y_places, .inl (cy 1, 21, .inl y_placesf)), (y_arrivals, .inl (cy 1, 21, .inl y_arrivalsf)), (h1, .inr (4, [.int g_wide, .int g_deep, .int g_count, .ref g_sorts])), (g_sorts, .inl (cy 1, 20, .inl g_sortsf))] (S := (Nat → Int32) × (Nat → Int32) × (Nat → Int32) × Int32 × Int32) (fun u => (rb u.2.1 21 0 19) ∧ (rbk u.2.2.1 21 (-2) 4) ∧ (0 ≤ u.2.2.2.1.toInt ∧ u.2.2.2.1.toInt ≤ 20)) (fun u => [(h0, .inr (9, [.ref y_targets, .ref y_weights, .ref y_left, .ref y_steps, .ref y_places, .ref y_arrivals, .int u.2.2.2.1, .int u.2.2.2.2])), (y_targets, .inl (cy 1, 80, .inl y_targetsf)), (y_weights, .inl (cy 1, 80, .inl y_weightsf)), (y_left, .inl (cy 1, 20, .inl y_leftf)), (y_steps, .inl (cy 1, 20, .inl u.1)), (y_places, .inl (cy 1, 21, .inl u.2.1)), (y_arrivals, .inl (cy 1, 21, .inl u.2.2.1)), (h1, .inr (4, [.int g_wide, .int g_deep, .int g_count, .ref g_sorts])), (g_sorts, .inl (cy 1, 20, .inl g_sortsf))]) := by
  refine ctV.of (by decide +kernel) (Nat.le_of_ble_eq_true rfl) ?_
  intro p e s m args below meth c A ls Q hQ X hr hlocks hin hA hP hD hS hl
  have hx := X.1
  have hb := X.2.1
  have hK := X.2.2.2.2.2.1
  have hl : lv_has ls 7 [(0, .ref h0), (1, .ref h1), (2, .int p2), (3, .int p3)] := hl
  have dy_1 := ti_bd p2
  have dy_2 := ti_bd p3
  refine lv_aload_n hx hb dX10_follow_0 rfl (lv_at hl 0 rfl) ?_
  refine r_get X kcX10 (ci := 9) rfl hP 0 rfl 4 (by decide) fX10_24 rfl dX10_follow_1 ?_
  refine lv_iconst (v := 0) hx hb dX10_follow_4 (by decide) ?_
  refine va_iald (D := (dC, dI)) (cl := vwCl) hx hb hK hP 5 1 rfl rfl (i := 0) (by unfold vp_in; decide) dX10_follow_5 ?_
  refine lv_topi (fun x_3 ex_3 => ?_)
  have bx_3 : 0 ≤ x_3.toInt ∧ x_3.toInt ≤ 19 := rb_at hy_placesf ex_3 (by decide) (by decide)
  refine lv_istore (lv' := [(4, .int x_3), (0, .ref h0), (1, .ref h1), (2, .int p2), (3, .int p3)]) hx hb dX10_follow_6 hl (by decide) rfl (fun ls hl => ?_)
  refine lv_iconst (v := 0) hx hb dX10_follow_8 (by decide) ?_
  refine lv_istore (lv' := [(5, .int 0), (4, .int x_3), (0, .ref h0), (1, .ref h1), (2, .int p2), (3, .int p3)]) hx hb dX10_follow_9 hl (by decide) rfl (fun ls hl => ?_)
  have lp_4 : ∀ (nlp_4 : Nat) (i_5 : Int32) (i_7 : Int32) (f_9 : Nat → Int32) (f_10 : Nat → Int32) (f_12 : Nat → Int32) (i_14 : Int32) (i_16 : Int32) (H : Heap) (locs : List Loc) (ls : Array Slot), (0 ≤ i_5.toInt ∧ i_5.toInt ≤ 20) → (0 ≤ i_7.toInt ∧ i_7.toInt ≤ 19) → (rb f_10 21 0 19) → (rbk f_12 21 (-2) 4) → (0 ≤ i_14.toInt ∧ i_14.toInt ≤ 20) → (21 - i_5.toInt ≤ (nlp_4 : Int)) → va_P (dC, dI) vwCl [(h0, .inr (9, [.ref y_targets, .ref y_weights, .ref y_left, .ref y_steps, .ref y_places, .ref y_arrivals, .int i_14, .int i_16])), (y_targets, .inl (cy 1, 80, .inl y_targetsf)), (y_weights, .inl (cy 1, 80, .inl y_weightsf)), (y_left, .inl (cy 1, 20, .inl y_leftf)), (y_steps, .inl (cy 1, 20, .inl f_9)), (y_places, .inl (cy 1, 21, .inl f_10)), (y_arrivals, .inl (cy 1, 21, .inl f_12)), (h1, .inr (4, [.int g_wide, .int g_deep, .int g_count, .ref g_sorts])), (g_sorts, .inl (cy 1, 20, .inl g_sortsf))] H → va_D A [(h0, .inr (9, [.ref y_targets, .ref y_weights, .ref y_left, .ref y_steps, .ref y_places, .ref y_arrivals, .int i_14, .int i_16])), (y_targets, .inl (cy 1, 80, .inl y_targetsf)), (y_weights, .inl (cy 1, 80, .inl y_weightsf)), (y_left, .inl (cy 1, 20, .inl y_leftf)), (y_steps, .inl (cy 1, 20, .inl f_9)), (y_places, .inl (cy 1, 21, .inl f_10)), (y_arrivals, .inl (cy 1, 21, .inl f_12)), (h1, .inr (4, [.int g_wide, .int g_deep, .int g_count, .ref g_sorts])), (g_sorts, .inl (cy 1, 20, .inl g_sortsf))] → va_S A s.heap H locs → lv_has ls 7 [(5, .int i_5), (4, .int i_7), (0, .ref h0), (1, .ref h1), (2, .int p2), (3, .int p3)] → W p l e ({ frames := 2, cells := 0, slots := 0, locals := 47 } : Room) s m args below meth c H locs 0 0 Q (F0 m 11 ls []) := by
    intro nlp_4
    induction nlp_4 with
    | zero =>
      intro i_5 i_7 f_9 f_10 f_12 i_14 i_16 H locs ls b_6 b_8 b_11 b_13 b_15 hmlp_4 hP hD hS hl
      exfalso
      have di_5 := ti_bd i_5
      have di_7 := ti_bd i_7
      have di_14 := ti_bd i_14
      have di_16 := ti_bd i_16
      omega
    | succ nlp_4 ihlp_4 =>
      intro i_5 i_7 f_9 f_10 f_12 i_14 i_16 H locs ls b_6 b_8 b_11 b_13 b_15 hmlp_4 hP hD hS hl
      refine lv_iload hx hb dX10_follow_11 (lv_at hl 0 rfl) ?_
      refine lv_bipush (v := 20) hx hb dX10_follow_13 (by decide) ?_
      refine lv_icmp_ge (tgt := 131) hx hb dX10_follow_15 (by decide) (fun h_17 => ?_) (fun h_17 => ?_)
      · have h_17 : 20 ≤ i_5.toInt := c_le h_17
        exact eV hQ X hr hlocks hP hD hS (f_9, f_10, f_12, i_14, i_16) [0, 1, 2, 3, 4, 5, 6, 7, 8] (by decide +kernel) rfl (show (rb f_10 21 0 19) ∧ (rbk f_12 21 (-2) 4) ∧ (0 ≤ i_14.toInt ∧ i_14.toInt ≤ 20) from ⟨b_11, b_13, b_15⟩) (Nat.le_of_ble_eq_true rfl) (Nat.le_of_ble_eq_true rfl) dX10_follow_131
      · have h_17 : i_5.toInt < 20 := c_nle h_17
        refine lv_iload hx hb dX10_follow_18 (lv_at hl 1 rfl) ?_
        refine lv_iload_n hx hb dX10_follow_20 rfl (lv_at hl 5 rfl) ?_
        refine lv_icmp_eq (tgt := 131) hx hb dX10_follow_21 (by decide) (fun h_18 => ?_) (fun h_18 => ?_)
        · have h_18 : i_7.toInt = p3.toInt := c_eq h_18
          exact eV hQ X hr hlocks hP hD hS (f_9, f_10, f_12, i_14, i_16) [0, 1, 2, 3, 4, 5, 6, 7, 8] (by decide +kernel) rfl (show (rb f_10 21 0 19) ∧ (rbk f_12 21 (-2) 4) ∧ (0 ≤ i_14.toInt ∧ i_14.toInt ≤ 20) from ⟨b_11, b_13, b_15⟩) (Nat.le_of_ble_eq_true rfl) (Nat.le_of_ble_eq_true rfl) dX10_follow_131
        · have h_18 : i_7.toInt ≠ p3.toInt := c_ne h_18
          refine lv_aload_n hx hb dX10_follow_24 rfl (lv_at hl 2 rfl) ?_
          refine lv_iload hx hb dX10_follow_25 (lv_at hl 1 rfl) ?_
          refine sl_Ic (rV_I (As := [.int i_7]) (rest := []) X hp_st (fun _ _ _ h => h) (sX10_firstStep l dC dI cy h0 y_targets y_weights y_left y_steps y_places y_arrivals i_14 i_16 y_targetsf y_weightsf y_leftf i_7 b_15 hy_targetsf b_8) kX10_firstStep vX10_firstStep mX10_73 hP hD hS hA [0, 1, 2, 3] (by decide) rfl 0 (ci := 9) rfl rfl rfl hl rfl rfl (Nat.le_of_ble_eq_true rfl) dX10_follow_27 ⟨(Nat.le_of_ble_eq_true rfl), (Nat.le_of_ble_eq_true rfl)⟩ ⟨(Nat.le_of_ble_eq_true rfl), (Nat.le_of_ble_eq_true rfl)⟩) hP hD hS hA [0, 1, 2, 3] [false, false, false, false, true, true, true, true, true] rfl rfl rfl (fun r_19 u_21 H locs k_20 hP hD hS => ?_)
          have k_20 : ((-1) ≤ r_19.toInt ∧ r_19.toInt ≤ 3) ∧ (r_19.toInt = -1 ∨ (0 ≤ r_19.toInt ∧ (y_targetsf (i_7.toInt * 4 + r_19.toInt).toNat).toInt ≠ -1)) := k_20
          obtain ⟨k_20_0, k_20_1⟩ := k_20
          have hPD := vPD (ws' := [(y_steps, .inl (cy 1, 20, .inl f_9)), (y_places, .inl (cy 1, 21, .inl f_10)), (y_arrivals, .inl (cy 1, 21, .inl f_12)), (h1, .inr (4, [.int g_wide, .int g_deep, .int g_count, .ref g_sorts])), (g_sorts, .inl (cy 1, 20, .inl g_sortsf)), (h0, .inr (9, [.ref y_targets, .ref y_weights, .ref y_left, .ref y_steps, .ref y_places, .ref y_arrivals, .int i_14, .int i_16])), (y_targets, .inl (cy 1, 80, .inl y_targetsf)), (y_weights, .inl (cy 1, 80, .inl y_weightsf)), (y_left, .inl (cy 1, 20, .inl y_leftf))]) hP hD rfl
          have hP := hPD.1
          have hD := hPD.2
          refine lv_istore (lv' := [(6, .int r_19), (5, .int i_5), (4, .int i_7), (0, .ref h0), (1, .ref h1), (2, .int p2), (3, .int p3)]) hx hb dX10_follow_30 hl (by decide) rfl (fun ls hl => ?_)
          refine lv_iload hx hb dX10_follow_32 (lv_at hl 0 rfl) ?_
          refine lv_iconst (v := -1) hx hb dX10_follow_34 (by decide) ?_
          refine lv_icmp_ne (tgt := 39) hx hb dX10_follow_35 (by decide) (fun h_22 => ?_) (fun h_22 => ?_)
          · have h_22 : r_19.toInt ≠ (-1) := c_ne h_22
            refine lv_aload_n hx hb dX10_follow_39 rfl (lv_at hl 3 rfl) ?_
            refine lv_dup hx hb dX10_follow_40 rfl ?_
            refine r_get X kcX10 (ci := 9) rfl hP 5 rfl 7 (by decide) fX10_34 rfl dX10_follow_41 ?_
            refine lv_aload_n hx hb dX10_follow_44 rfl (lv_at hl 4 rfl) ?_
            refine lv_iload_n hx hb dX10_follow_45 rfl (lv_at hl 5 rfl) ?_
            refine lv_iload hx hb dX10_follow_46 (lv_at hl 2 rfl) ?_
            refine lv_iload hx hb dX10_follow_48 (lv_at hl 0 rfl) ?_
            refine sl_Ic (rV_I (As := [.int p2, .int i_7, .int r_19]) (rest := [.int i_16, .ref h0]) X hp_st (fun _ _ _ h => h) (sX4_fallsFor l dC dI cy h1 g_wide g_deep g_count g_sorts g_sortsf p2 i_7 r_19 hg_wide hg_deep hg_count) kX4_fallsFor vX4_fallsFor mX10_63 hP hD hS hA [3, 4] (by decide) rfl 0 (ci := 4) rfl rfl rfl hl rfl rfl (Nat.le_of_ble_eq_true rfl) dX10_follow_50 ⟨(Nat.le_of_ble_eq_true rfl), (Nat.le_of_ble_eq_true rfl)⟩ ⟨(Nat.le_of_ble_eq_true rfl), (Nat.le_of_ble_eq_true rfl)⟩) hP hD hS hA [3, 4] [true, true, true, false, false, true, true, true, true] rfl rfl rfl (fun r_23 u_25 H locs k_24 hP hD hS => ?_)
            have k_24 : (0 ≤ r_23.toInt ∧ r_23.toInt ≤ 1) ∧ (r_23.toInt = flZ g_wide.toInt g_count.toInt g_sortsf p2.toInt i_7.toInt r_19.toInt) := k_24
            obtain ⟨k_24_0, k_24_1⟩ := k_24
            have hPD := vPD (ws' := [(y_steps, .inl (cy 1, 20, .inl f_9)), (y_places, .inl (cy 1, 21, .inl f_10)), (y_arrivals, .inl (cy 1, 21, .inl f_12)), (h0, .inr (9, [.ref y_targets, .ref y_weights, .ref y_left, .ref y_steps, .ref y_places, .ref y_arrivals, .int i_14, .int i_16])), (y_targets, .inl (cy 1, 80, .inl y_targetsf)), (y_weights, .inl (cy 1, 80, .inl y_weightsf)), (y_left, .inl (cy 1, 20, .inl y_leftf)), (h1, .inr (4, [.int g_wide, .int g_deep, .int g_count, .ref g_sorts])), (g_sorts, .inl (cy 1, 20, .inl g_sortsf))]) hP hD rfl
            have hP := hPD.1
            have hD := hPD.2
            refine lv_iadd hx hb dX10_follow_53 ?_
            have dy_26 := ti_bd i_16
            refine lv_topi (fun x_27 ex_27 => ?_)
            refine r_put X kcX10 (ci := 9) rfl hP hD hS 3 rfl 7 (by decide) fX10_34 rfl rfl rfl (Nat.le_of_ble_eq_true rfl) dX10_follow_54 (fun H locs hP hD hS => ?_)
            have hPD := vPD (ws' := [(y_steps, .inl (cy 1, 20, .inl f_9)), (y_places, .inl (cy 1, 21, .inl f_10)), (y_arrivals, .inl (cy 1, 21, .inl f_12)), (h0, .inr (9, [.ref y_targets, .ref y_weights, .ref y_left, .ref y_steps, .ref y_places, .ref y_arrivals, .int i_14, .int x_27])), (y_targets, .inl (cy 1, 80, .inl y_targetsf)), (y_weights, .inl (cy 1, 80, .inl y_weightsf)), (y_left, .inl (cy 1, 20, .inl y_leftf)), (h1, .inr (4, [.int g_wide, .int g_deep, .int g_count, .ref g_sorts])), (g_sorts, .inl (cy 1, 20, .inl g_sortsf))]) hP hD rfl
            have hP := hPD.1
            have hD := hPD.2
            refine lv_aload_n hx hb dX10_follow_57 rfl (lv_at hl 3 rfl) ?_
            refine r_get X kcX10 (ci := 9) rfl hP 3 rfl 5 (by decide) fX10_27 rfl dX10_follow_58 ?_
            refine lv_iload hx hb dX10_follow_61 (lv_at hl 1 rfl) ?_
            refine lv_iconst (v := 1) hx hb dX10_follow_63 (by decide) ?_
            refine lv_iadd hx hb dX10_follow_64 ?_
            refine lv_topi (fun x_28 ex_28 => ?_)
            have tx_28 : x_28.toInt = i_5.toInt + 1 := ti_add (A := i_5.toInt) (B := 1) ex_28 rfl rfl (by omega) (by omega)
            refine lv_aload_n hx hb dX10_follow_65 rfl (lv_at hl 3 rfl) ?_
            refine r_get X kcX10 (ci := 9) rfl hP 3 rfl 5 (by decide) fX10_27 rfl dX10_follow_66 ?_
            refine lv_iload hx hb dX10_follow_69 (lv_at hl 1 rfl) ?_
            refine va_iald (D := (dC, dI)) (cl := vwCl) hx hb hK hP 2 1 rfl rfl (i := i_5) (vin (by omega) (by omega)) dX10_follow_71 ?_
            refine lv_topi (fun x_29 ex_29 => ?_)
            have bx_29 : (-2) * i_5.toInt ≤ x_29.toInt ∧ x_29.toInt ≤ 4 * i_5.toInt := rbk_at b_13 ex_29 (by omega) (by omega)
            refine lv_aload_n hx hb dX10_follow_72 rfl (lv_at hl 4 rfl) ?_
            refine lv_iload_n hx hb dX10_follow_73 rfl (lv_at hl 5 rfl) ?_
            refine lv_iload hx hb dX10_follow_74 (lv_at hl 2 rfl) ?_
            refine lv_iload hx hb dX10_follow_76 (lv_at hl 0 rfl) ?_
            refine sl_Ic (rV_I (As := [.int p2, .int i_7, .int r_19]) (rest := [.int x_29, .int x_28, .ref y_arrivals]) X hp_st (fun _ _ _ h => h) (sX4_timeFor l dC dI cy h1 g_wide g_deep g_count g_sorts g_sortsf p2 i_7 r_19 hg_wide hg_deep hg_count) kX4_timeFor vX4_timeFor mX10_59 hP hD hS hA [7, 8] (by decide) rfl 0 (ci := 4) rfl rfl rfl hl rfl rfl (Nat.le_of_ble_eq_true rfl) dX10_follow_78 ⟨(Nat.le_of_ble_eq_true rfl), (Nat.le_of_ble_eq_true rfl)⟩ ⟨(Nat.le_of_ble_eq_true rfl), (Nat.le_of_ble_eq_true rfl)⟩) hP hD hS hA [7, 8] [true, true, true, true, true, true, true, false, false] rfl rfl rfl (fun r_30 u_32 H locs k_31 hP hD hS => ?_)
            have k_31 : ((-2) ≤ r_30.toInt ∧ r_30.toInt ≤ 4) ∧ (r_30.toInt = -2 ∨ (0 ≤ i_7.toInt ∧ i_7.toInt < g_count.toInt ∧ (tgZ g_wide.toInt g_count.toInt g_sortsf i_7.toInt r_19.toInt) ≠ -1)) ∧ (r_30.toInt = tfZ g_wide.toInt g_count.toInt g_sortsf p2.toInt i_7.toInt r_19.toInt) := k_31
            obtain ⟨k_31_0, k_31_1, k_31_2⟩ := k_31
            have hPD := vPD (ws' := [(y_steps, .inl (cy 1, 20, .inl f_9)), (y_places, .inl (cy 1, 21, .inl f_10)), (y_arrivals, .inl (cy 1, 21, .inl f_12)), (h0, .inr (9, [.ref y_targets, .ref y_weights, .ref y_left, .ref y_steps, .ref y_places, .ref y_arrivals, .int i_14, .int x_27])), (y_targets, .inl (cy 1, 80, .inl y_targetsf)), (y_weights, .inl (cy 1, 80, .inl y_weightsf)), (y_left, .inl (cy 1, 20, .inl y_leftf)), (h1, .inr (4, [.int g_wide, .int g_deep, .int g_count, .ref g_sorts])), (g_sorts, .inl (cy 1, 20, .inl g_sortsf))]) hP hD rfl
            have hP := hPD.1
            have hD := hPD.2
            refine lv_iadd hx hb dX10_follow_81 ?_
            refine lv_topi (fun x_33 ex_33 => ?_)
            have tx_33 : x_33.toInt = x_29.toInt + r_30.toInt := ti_add (A := x_29.toInt) (B := r_30.toInt) ex_33 rfl rfl (by omega) (by omega)
            refine va_iast (D := (dC, dI)) (cl := vwCl) hx hb hK hP hD hS 2 1 rfl rfl (i := x_28) (vin (by omega) (by omega)) dX10_follow_82 (fun H locs hP hD hS => ?_)
            generalize ef_34 : upd f_12 (Int32.toNatClampNeg x_28) x_33 = f_34 at hP hD
            have bf_34 : rbk f_34 21 (-2) 4 := by rw [← ef_34]; exact rbk_upd (i := x_28) b_13 (by omega) (by omega) (by omega)
            have hPD := vPD (ws' := [(y_steps, .inl (cy 1, 20, .inl f_9)), (y_places, .inl (cy 1, 21, .inl f_10)), (y_arrivals, .inl (cy 1, 21, .inl f_34)), (h0, .inr (9, [.ref y_targets, .ref y_weights, .ref y_left, .ref y_steps, .ref y_places, .ref y_arrivals, .int i_14, .int x_27])), (y_targets, .inl (cy 1, 80, .inl y_targetsf)), (y_weights, .inl (cy 1, 80, .inl y_weightsf)), (y_left, .inl (cy 1, 20, .inl y_leftf)), (h1, .inr (4, [.int g_wide, .int g_deep, .int g_count, .ref g_sorts])), (g_sorts, .inl (cy 1, 20, .inl g_sortsf))]) hP hD rfl
            have hP := hPD.1
            have hD := hPD.2
            refine lv_aload_n hx hb dX10_follow_83 rfl (lv_at hl 3 rfl) ?_
            refine r_get X kcX10 (ci := 9) rfl hP 3 rfl 0 (by decide) fX10_9 rfl dX10_follow_84 ?_
            refine lv_iload hx hb dX10_follow_87 (lv_at hl 2 rfl) ?_
            refine lv_iconst (v := 4) hx hb dX10_follow_89 (by decide) ?_
            refine lv_imul hx hb dX10_follow_90 ?_
            refine lv_topi (fun x_35 ex_35 => ?_)
            have tx_35 : x_35.toInt = i_7.toInt * 4 := ti_mulk (A := i_7.toInt) (B := 4) ex_35 rfl rfl (by omega) (by omega)
            refine lv_iload hx hb dX10_follow_91 (lv_at hl 0 rfl) ?_
            refine lv_iadd hx hb dX10_follow_93 ?_
            refine lv_topi (fun x_36 ex_36 => ?_)
            have tx_36 : x_36.toInt = x_35.toInt + r_19.toInt := ti_add (A := x_35.toInt) (B := r_19.toInt) ex_36 rfl rfl (by omega) (by omega)
            refine va_iald (D := (dC, dI)) (cl := vwCl) hx hb hK hP 4 1 rfl rfl (i := x_36) (vin (by omega) (by omega)) dX10_follow_94 ?_
            refine lv_topi (fun x_37 ex_37 => ?_)
            have bx_37 : (-1) ≤ x_37.toInt ∧ x_37.toInt ≤ 19 := rb_at hy_targetsf ex_37 (by omega) (by omega)
            have gx_37 : (y_targetsf (i_7.toInt * 4 + r_19.toInt).toNat).toInt = x_37.toInt := by rw [ex_37, show Int32.toNatClampNeg x_36 = (i_7.toInt * 4 + r_19.toInt).toNat from (show x_36.toInt.toNat = _ by rw [show x_36.toInt = i_7.toInt * 4 + r_19.toInt by omega])]
            refine lv_istore (lv' := [(4, .int x_37), (6, .int r_19), (5, .int i_5), (0, .ref h0), (1, .ref h1), (2, .int p2), (3, .int p3)]) hx hb dX10_follow_95 hl (by decide) rfl (fun ls hl => ?_)
            refine lv_aload_n hx hb dX10_follow_97 rfl (lv_at hl 3 rfl) ?_
            refine r_get X kcX10 (ci := 9) rfl hP 3 rfl 3 (by decide) fX10_21 rfl dX10_follow_98 ?_
            refine lv_iload hx hb dX10_follow_101 (lv_at hl 2 rfl) ?_
            refine lv_iload hx hb dX10_follow_103 (lv_at hl 1 rfl) ?_
            refine va_iast (D := (dC, dI)) (cl := vwCl) hx hb hK hP hD hS 0 1 rfl rfl (i := i_5) (vin (by omega) (by omega)) dX10_follow_105 (fun H locs hP hD hS => ?_)
            generalize ef_38 : upd f_9 (Int32.toNatClampNeg i_5) r_19 = f_38 at hP hD
            have hPD := vPD (ws' := [(y_steps, .inl (cy 1, 20, .inl f_38)), (y_places, .inl (cy 1, 21, .inl f_10)), (y_arrivals, .inl (cy 1, 21, .inl f_34)), (h0, .inr (9, [.ref y_targets, .ref y_weights, .ref y_left, .ref y_steps, .ref y_places, .ref y_arrivals, .int i_14, .int x_27])), (y_targets, .inl (cy 1, 80, .inl y_targetsf)), (y_weights, .inl (cy 1, 80, .inl y_weightsf)), (y_left, .inl (cy 1, 20, .inl y_leftf)), (h1, .inr (4, [.int g_wide, .int g_deep, .int g_count, .ref g_sorts])), (g_sorts, .inl (cy 1, 20, .inl g_sortsf))]) hP hD rfl
            have hP := hPD.1
            have hD := hPD.2
            refine lv_aload_n hx hb dX10_follow_106 rfl (lv_at hl 3 rfl) ?_
            refine r_get X kcX10 (ci := 9) rfl hP 3 rfl 4 (by decide) fX10_24 rfl dX10_follow_107 ?_
            refine lv_iload hx hb dX10_follow_110 (lv_at hl 2 rfl) ?_
            refine lv_iconst (v := 1) hx hb dX10_follow_112 (by decide) ?_
            refine lv_iadd hx hb dX10_follow_113 ?_
            refine lv_topi (fun x_39 ex_39 => ?_)
            have tx_39 : x_39.toInt = i_5.toInt + 1 := ti_add (A := i_5.toInt) (B := 1) ex_39 rfl rfl (by omega) (by omega)
            refine lv_iload hx hb dX10_follow_114 (lv_at hl 0 rfl) ?_
            refine va_iast (D := (dC, dI)) (cl := vwCl) hx hb hK hP hD hS 1 1 rfl rfl (i := x_39) (vin (by omega) (by omega)) dX10_follow_116 (fun H locs hP hD hS => ?_)
            generalize ef_40 : upd f_10 (Int32.toNatClampNeg x_39) x_37 = f_40 at hP hD
            have bf_40 : rb f_40 21 0 19 := by rw [← ef_40]; exact rb_upd b_11 (by omega) (by omega)
            have hPD := vPD (ws' := [(y_steps, .inl (cy 1, 20, .inl f_38)), (y_places, .inl (cy 1, 21, .inl f_40)), (y_arrivals, .inl (cy 1, 21, .inl f_34)), (h0, .inr (9, [.ref y_targets, .ref y_weights, .ref y_left, .ref y_steps, .ref y_places, .ref y_arrivals, .int i_14, .int x_27])), (y_targets, .inl (cy 1, 80, .inl y_targetsf)), (y_weights, .inl (cy 1, 80, .inl y_weightsf)), (y_left, .inl (cy 1, 20, .inl y_leftf)), (h1, .inr (4, [.int g_wide, .int g_deep, .int g_count, .ref g_sorts])), (g_sorts, .inl (cy 1, 20, .inl g_sortsf))]) hP hD rfl
            have hP := hPD.1
            have hD := hPD.2
            refine lv_aload_n hx hb dX10_follow_117 rfl (lv_at hl 3 rfl) ?_
            refine lv_iload hx hb dX10_follow_118 (lv_at hl 2 rfl) ?_
            refine lv_iconst (v := 1) hx hb dX10_follow_120 (by decide) ?_
            refine lv_iadd hx hb dX10_follow_121 ?_
            refine lv_topi (fun x_41 ex_41 => ?_)
            have tx_41 : x_41.toInt = i_5.toInt + 1 := ti_add (A := i_5.toInt) (B := 1) ex_41 rfl rfl (by omega) (by omega)
            refine r_put X kcX10 (ci := 9) rfl hP hD hS 3 rfl 6 (by decide) fX10_30 rfl rfl rfl (Nat.le_of_ble_eq_true rfl) dX10_follow_122 (fun H locs hP hD hS => ?_)
            have hPD := vPD (ws' := [(y_steps, .inl (cy 1, 20, .inl f_38)), (y_places, .inl (cy 1, 21, .inl f_40)), (y_arrivals, .inl (cy 1, 21, .inl f_34)), (h0, .inr (9, [.ref y_targets, .ref y_weights, .ref y_left, .ref y_steps, .ref y_places, .ref y_arrivals, .int x_41, .int x_27])), (y_targets, .inl (cy 1, 80, .inl y_targetsf)), (y_weights, .inl (cy 1, 80, .inl y_weightsf)), (y_left, .inl (cy 1, 20, .inl y_leftf)), (h1, .inr (4, [.int g_wide, .int g_deep, .int g_count, .ref g_sorts])), (g_sorts, .inl (cy 1, 20, .inl g_sortsf))]) hP hD rfl
            have hP := hPD.1
            have hD := hPD.2
            obtain ⟨x_42, ex_42⟩ : ∃ y : Int32, y = i_5 + 1 := ⟨_, rfl⟩
            have tx_42 : x_42.toInt = i_5.toInt + 1 := ti_add (A := i_5.toInt) (B := 1) ex_42 rfl rfl (by omega) (by omega)
            refine lv_iinc (v := x_42) (lv' := [(5, .int x_42), (4, .int x_37), (6, .int r_19), (0, .ref h0), (1, .ref h1), (2, .int p2), (3, .int p3)]) hx hb dX10_follow_125 hl (k := 2) rfl (by rw [ex_42]; rfl) (by decide) rfl (fun ls hl => ?_)
            refine lv_goto (tgt := 11) hx hb dX10_follow_128 (by decide) ?_
            exact ihlp_4 x_42 x_37 f_38 f_40 f_34 x_41 x_27 _ _ _ (by omega) (by omega) bf_40 bf_34 (by omega) (show 21 - x_42.toInt ≤ (nlp_4 : Int) by omega) (hP.sub [3, 4, 5, 6, 0, 1, 2, 7, 8] rfl) (hD.sub [3, 4, 5, 6, 0, 1, 2, 7, 8] (by decide +kernel) rfl) hS (lv_sub hl [0, 1, 3, 4, 5, 6] rfl)
          · have h_22 : r_19.toInt = (-1) := c_eq h_22
            exact eV hQ X hr hlocks hP hD hS (f_9, f_10, f_12, i_14, i_16) [5, 6, 7, 8, 0, 1, 2, 3, 4] (by decide +kernel) rfl (show (rb f_10 21 0 19) ∧ (rbk f_12 21 (-2) 4) ∧ (0 ≤ i_14.toInt ∧ i_14.toInt ≤ 20) from ⟨b_11, b_13, b_15⟩) (Nat.le_of_ble_eq_true rfl) (Nat.le_of_ble_eq_true rfl) dX10_follow_38
  exact lp_4 21 0 x_3 y_stepsf y_placesf y_arrivalsf y_length y_fallCount _ _ _ (by decide) (by omega) hy_placesf hy_arrivalsf (by omega) (show 21 - 0 ≤ ((21 : Nat) : Int) by omega) hP hD hS hl
set_option maxHeartbeats 4000000 in
set_option maxRecDepth 100000 in
theorem sX10_find (l : Launch) (dC : Nat → ClassId) (dI : Nat → Nat → Nat) (cy : Nat → ClassId) (h0 : Nat) (y_targets : Nat) (y_weights : Nat) (y_left : Nat) (y_steps : Nat) (y_places : Nat) (y_arrivals : Nat) (y_length : Int32) (y_fallCount : Int32) (y_targetsf : Nat → Int32) (y_weightsf : Nat → Int32) (y_leftf : Nat → Int32) (y_stepsf : Nat → Int32) (y_placesf : Nat → Int32) (y_arrivalsf : Nat → Int32) (h1 : Nat) (g_wide : Int32) (g_deep : Int32) (g_count : Int32) (g_sorts : Nat) (g_sortsf : Nat → Int32) (p2 : Int32) (p3 : Int32) (p4 : Int32) (p5 : Int32) (hy_length : 0 ≤ y_length.toInt ∧ y_length.toInt ≤ 20) (hy_targetsf : rb y_targetsf 80 (-1) 19) (hy_placesf : rb y_placesf 21 0 19) (hy_arrivalsf : rbk y_arrivalsf 21 (-2) 4) (hg_wide : 0 ≤ g_wide.toInt ∧ g_wide.toInt ≤ 5) (hg_deep : 0 ≤ g_deep.toInt ∧ g_deep.toInt ≤ 4) (hg_count : 0 ≤ g_count.toInt ∧ g_count.toInt ≤ 20) (hp3 : 0 ≤ p3.toInt ∧ p3.toInt ≤ 19) : ctI l dC dI cy hp yX10_find cX10_find 6 .boolean ({ frames := 3, cells := 0, slots := 0, locals := 75 } : Room) [.ref h0, .ref h1, .int p2, .int p3, .int p4, .int p5] [(h0, .inr (9, [.ref y_targets, .ref y_weights, .ref y_left, .ref y_steps, .ref y_places, .ref y_arrivals, .int y_length, .int y_fallCount])), (y_targets, .inl (cy 1, 80, .inl y_targetsf)), (y_weights, .inl (cy 1, 80, .inl y_weightsf)), (y_left, .inl (cy 1, 20, .inl y_leftf)), (y_steps, .inl (cy 1, 20, .inl y_stepsf)), (y_places, .inl (cy 1, 21, .inl y_placesf)), (y_arrivals, .inl (cy 1, 21, .inl y_arrivalsf)), (h1, .inr (4, [.int g_wide, .int g_deep, .int g_count, .ref g_sorts])), (g_sorts, .inl (cy 1, 20, .inl g_sortsf))] (S := (Nat → Int32) × (Nat → Int32) × (Nat → Int32) × (Nat → Int32) × (Nat → Int32) × (Nat → Int32) × Int32 × Int32) (fun r u => (0 ≤ r.toInt ∧ r.toInt ≤ 1) ∧ (rb u.1 80 (-1) 19) ∧ (rb u.2.2.2.2.1 21 0 19) ∧ (rbk u.2.2.2.2.2.1 21 (-2) 4) ∧ (0 ≤ u.2.2.2.2.2.2.1.toInt ∧ u.2.2.2.2.2.2.1.toInt ≤ 20)) (fun u => [(h0, .inr (9, [.ref y_targets, .ref y_weights, .ref y_left, .ref y_steps, .ref y_places, .ref y_arrivals, .int u.2.2.2.2.2.2.1, .int u.2.2.2.2.2.2.2])), (y_targets, .inl (cy 1, 80, .inl u.1)), (y_weights, .inl (cy 1, 80, .inl u.2.1)), (y_left, .inl (cy 1, 20, .inl u.2.2.1)), (y_steps, .inl (cy 1, 20, .inl u.2.2.2.1)), (y_places, .inl (cy 1, 21, .inl u.2.2.2.2.1)), (y_arrivals, .inl (cy 1, 21, .inl u.2.2.2.2.2.1)), (h1, .inr (4, [.int g_wide, .int g_deep, .int g_count, .ref g_sorts])), (g_sorts, .inl (cy 1, 20, .inl g_sortsf))]) := by
  refine ctI.of (by decide +kernel) (Nat.le_of_ble_eq_true rfl) ?_
  intro p e s m args below meth c A ls Q hQ X hr hlocks hin hA hP hD hS hl
  have hx := X.1
  have hb := X.2.1
  have hK := X.2.2.2.2.2.1
  have hl : lv_has ls 6 [(0, .ref h0), (1, .ref h1), (2, .int p2), (3, .int p3), (4, .int p4), (5, .int p5)] := hl
  have dy_1 := ti_bd p2
  have dy_2 := ti_bd p4
  have dy_3 := ti_bd p5
  refine lv_aload_n hx hb dX10_find_0 rfl (lv_at hl 0 rfl) ?_
  refine lv_iconst (v := 0) hx hb dX10_find_1 (by decide) ?_
  refine r_put X kcX10 (ci := 9) rfl hP hD hS 0 rfl 6 (by decide) fX10_30 rfl rfl rfl (Nat.le_of_ble_eq_true rfl) dX10_find_2 (fun H locs hP hD hS => ?_)
  have hPD := vPD (ws' := [(h0, .inr (9, [.ref y_targets, .ref y_weights, .ref y_left, .ref y_steps, .ref y_places, .ref y_arrivals, .int 0, .int y_fallCount])), (y_targets, .inl (cy 1, 80, .inl y_targetsf)), (y_weights, .inl (cy 1, 80, .inl y_weightsf)), (y_left, .inl (cy 1, 20, .inl y_leftf)), (y_steps, .inl (cy 1, 20, .inl y_stepsf)), (y_places, .inl (cy 1, 21, .inl y_placesf)), (y_arrivals, .inl (cy 1, 21, .inl y_arrivalsf)), (h1, .inr (4, [.int g_wide, .int g_deep, .int g_count, .ref g_sorts])), (g_sorts, .inl (cy 1, 20, .inl g_sortsf))]) hP hD rfl
  have hP := hPD.1
  have hD := hPD.2
  refine lv_aload_n hx hb dX10_find_5 rfl (lv_at hl 0 rfl) ?_
  refine lv_iconst (v := 0) hx hb dX10_find_6 (by decide) ?_
  refine r_put X kcX10 (ci := 9) rfl hP hD hS 0 rfl 7 (by decide) fX10_34 rfl rfl rfl (Nat.le_of_ble_eq_true rfl) dX10_find_7 (fun H locs hP hD hS => ?_)
  have hPD := vPD (ws' := [(h0, .inr (9, [.ref y_targets, .ref y_weights, .ref y_left, .ref y_steps, .ref y_places, .ref y_arrivals, .int 0, .int 0])), (y_targets, .inl (cy 1, 80, .inl y_targetsf)), (y_weights, .inl (cy 1, 80, .inl y_weightsf)), (y_left, .inl (cy 1, 20, .inl y_leftf)), (y_steps, .inl (cy 1, 20, .inl y_stepsf)), (y_places, .inl (cy 1, 21, .inl y_placesf)), (y_arrivals, .inl (cy 1, 21, .inl y_arrivalsf)), (h1, .inr (4, [.int g_wide, .int g_deep, .int g_count, .ref g_sorts])), (g_sorts, .inl (cy 1, 20, .inl g_sortsf))]) hP hD rfl
  have hP := hPD.1
  have hD := hPD.2
  refine lv_aload_n hx hb dX10_find_10 rfl (lv_at hl 0 rfl) ?_
  refine r_get X kcX10 (ci := 9) rfl hP 0 rfl 4 (by decide) fX10_24 rfl dX10_find_11 ?_
  refine lv_iconst (v := 0) hx hb dX10_find_14 (by decide) ?_
  refine lv_iload_n hx hb dX10_find_15 rfl (lv_at hl 3 rfl) ?_
  refine va_iast (D := (dC, dI)) (cl := vwCl) hx hb hK hP hD hS 5 1 rfl rfl (i := 0) (by unfold vp_in; decide) dX10_find_16 (fun H locs hP hD hS => ?_)
  generalize ef_4 : upd y_placesf (Int32.toNatClampNeg 0) p3 = f_4 at hP hD
  have bf_4 : rb f_4 21 0 19 := by rw [← ef_4]; exact rb_upd hy_placesf (by omega) (by omega)
  have hPD := vPD (ws' := [(h0, .inr (9, [.ref y_targets, .ref y_weights, .ref y_left, .ref y_steps, .ref y_places, .ref y_arrivals, .int 0, .int 0])), (y_targets, .inl (cy 1, 80, .inl y_targetsf)), (y_weights, .inl (cy 1, 80, .inl y_weightsf)), (y_left, .inl (cy 1, 20, .inl y_leftf)), (y_steps, .inl (cy 1, 20, .inl y_stepsf)), (y_places, .inl (cy 1, 21, .inl f_4)), (y_arrivals, .inl (cy 1, 21, .inl y_arrivalsf)), (h1, .inr (4, [.int g_wide, .int g_deep, .int g_count, .ref g_sorts])), (g_sorts, .inl (cy 1, 20, .inl g_sortsf))]) hP hD rfl
  have hP := hPD.1
  have hD := hPD.2
  refine lv_aload_n hx hb dX10_find_17 rfl (lv_at hl 0 rfl) ?_
  refine r_get X kcX10 (ci := 9) rfl hP 0 rfl 5 (by decide) fX10_27 rfl dX10_find_18 ?_
  refine lv_iconst (v := 0) hx hb dX10_find_21 (by decide) ?_
  refine lv_iconst (v := 0) hx hb dX10_find_22 (by decide) ?_
  refine va_iast (D := (dC, dI)) (cl := vwCl) hx hb hK hP hD hS 6 1 rfl rfl (i := 0) (by unfold vp_in; decide) dX10_find_23 (fun H locs hP hD hS => ?_)
  generalize ef_5 : upd y_arrivalsf (Int32.toNatClampNeg 0) 0 = f_5 at hP hD
  have bf_5 : rbk f_5 21 (-2) 4 := by rw [← ef_5]; exact rbk_upd (i := 0) hy_arrivalsf (by decide) (by decide) (by decide)
  have hPD := vPD (ws' := [(h0, .inr (9, [.ref y_targets, .ref y_weights, .ref y_left, .ref y_steps, .ref y_places, .ref y_arrivals, .int 0, .int 0])), (y_targets, .inl (cy 1, 80, .inl y_targetsf)), (y_weights, .inl (cy 1, 80, .inl y_weightsf)), (y_left, .inl (cy 1, 20, .inl y_leftf)), (y_steps, .inl (cy 1, 20, .inl y_stepsf)), (y_places, .inl (cy 1, 21, .inl f_4)), (y_arrivals, .inl (cy 1, 21, .inl f_5)), (h1, .inr (4, [.int g_wide, .int g_deep, .int g_count, .ref g_sorts])), (g_sorts, .inl (cy 1, 20, .inl g_sortsf))]) hP hD rfl
  have hP := hPD.1
  have hD := hPD.2
  refine lv_aload_n hx hb dX10_find_24 rfl (lv_at hl 1 rfl) ?_
  refine lv_iload_n hx hb dX10_find_25 rfl (lv_at hl 3 rfl) ?_
  refine sl_Ic (rV_I (As := [.int p3]) (rest := []) X hp_st (fun _ _ _ h => h) (sX4_holds l dC dI cy h1 g_wide g_deep g_count g_sorts p3 hg_wide hg_deep hg_count) kX4_holds vX4_holds mX10_37 hP hD hS hA [7] (by decide) rfl 0 (ci := 4) rfl rfl rfl hl rfl rfl (Nat.le_of_ble_eq_true rfl) dX10_find_26 ⟨(Nat.le_of_ble_eq_true rfl), (Nat.le_of_ble_eq_true rfl)⟩ ⟨(Nat.le_of_ble_eq_true rfl), (Nat.le_of_ble_eq_true rfl)⟩) hP hD hS hA [7] [true, true, true, true, true, true, true, false, true] rfl rfl rfl (fun r_6 u_8 H locs k_7 hP hD hS => ?_)
  have k_7 : (0 ≤ r_6.toInt ∧ r_6.toInt ≤ 1) ∧ ((r_6.toInt = 1 ∧ 0 ≤ p3.toInt ∧ p3.toInt < g_count.toInt) ∨ (r_6.toInt = 0 ∧ (p3.toInt < 0 ∨ g_count.toInt ≤ p3.toInt))) := k_7
  obtain ⟨k_7_0, k_7_1⟩ := k_7
  have hPD := vPD (ws' := [(h0, .inr (9, [.ref y_targets, .ref y_weights, .ref y_left, .ref y_steps, .ref y_places, .ref y_arrivals, .int 0, .int 0])), (y_targets, .inl (cy 1, 80, .inl y_targetsf)), (y_weights, .inl (cy 1, 80, .inl y_weightsf)), (y_left, .inl (cy 1, 20, .inl y_leftf)), (y_steps, .inl (cy 1, 20, .inl y_stepsf)), (y_places, .inl (cy 1, 21, .inl f_4)), (y_arrivals, .inl (cy 1, 21, .inl f_5)), (g_sorts, .inl (cy 1, 20, .inl g_sortsf)), (h1, .inr (4, [.int g_wide, .int g_deep, .int g_count, .ref g_sorts]))]) hP hD rfl
  have hP := hPD.1
  have hD := hPD.2
  refine lv_if_eq (tgt := 41) hx hb dX10_find_29 (by decide) (fun h_9 => ?_) (fun h_9 => ?_)
  · have h_9 : r_6.toInt = 0 := c_eq h_9
    refine lv_iconst (v := 0) hx hb dX10_find_41 (by decide) ?_
    exact eI hQ X hr hlocks hP hD hS (y_targetsf, y_weightsf, y_leftf, y_stepsf, f_4, f_5, (0 : Int32), (0 : Int32)) [0, 1, 2, 3, 4, 5, 6, 8, 7] (by decide +kernel) rfl rfl (show (0 ≤ (0 : Int32).toInt ∧ (0 : Int32).toInt ≤ 1) ∧ (rb y_targetsf 80 (-1) 19) ∧ (rb f_4 21 0 19) ∧ (rbk f_5 21 (-2) 4) ∧ (0 ≤ (0 : Int32).toInt ∧ (0 : Int32).toInt ≤ 20) from ⟨(by first | decide | (have h9_0 : (0 : Int32).toInt = 0 := (by decide); omega) | (refine ⟨by decide, ?_⟩; omega) | omega), hy_targetsf, bf_4, bf_5, (by first | decide | (have h9_0 : (0 : Int32).toInt = 0 := (by decide); omega) | (refine ⟨by decide, ?_⟩; omega) | omega)⟩) (Nat.le_of_ble_eq_true rfl) (Nat.le_of_ble_eq_true rfl) dX10_find_42
  · have h_9 : r_6.toInt ≠ 0 := c_ne h_9
    refine lv_aload_n hx hb dX10_find_32 rfl (lv_at hl 1 rfl) ?_
    refine lv_iload hx hb dX10_find_33 (lv_at hl 4 rfl) ?_
    refine sl_Ic (rV_I (As := [.int p4]) (rest := []) X hp_st (fun _ _ _ h => h) (sX4_holds l dC dI cy h1 g_wide g_deep g_count g_sorts p4 hg_wide hg_deep hg_count) kX4_holds vX4_holds mX10_37 hP hD hS hA [8] (by decide) rfl 0 (ci := 4) rfl rfl rfl hl rfl rfl (Nat.le_of_ble_eq_true rfl) dX10_find_35 ⟨(Nat.le_of_ble_eq_true rfl), (Nat.le_of_ble_eq_true rfl)⟩ ⟨(Nat.le_of_ble_eq_true rfl), (Nat.le_of_ble_eq_true rfl)⟩) hP hD hS hA [8] [true, true, true, true, true, true, true, true, false] rfl rfl rfl (fun r_10 u_12 H locs k_11 hP hD hS => ?_)
    have k_11 : (0 ≤ r_10.toInt ∧ r_10.toInt ≤ 1) ∧ ((r_10.toInt = 1 ∧ 0 ≤ p4.toInt ∧ p4.toInt < g_count.toInt) ∨ (r_10.toInt = 0 ∧ (p4.toInt < 0 ∨ g_count.toInt ≤ p4.toInt))) := k_11
    obtain ⟨k_11_0, k_11_1⟩ := k_11
    have hPD := vPD (ws' := [(h0, .inr (9, [.ref y_targets, .ref y_weights, .ref y_left, .ref y_steps, .ref y_places, .ref y_arrivals, .int 0, .int 0])), (y_targets, .inl (cy 1, 80, .inl y_targetsf)), (y_weights, .inl (cy 1, 80, .inl y_weightsf)), (y_left, .inl (cy 1, 20, .inl y_leftf)), (y_steps, .inl (cy 1, 20, .inl y_stepsf)), (y_places, .inl (cy 1, 21, .inl f_4)), (y_arrivals, .inl (cy 1, 21, .inl f_5)), (g_sorts, .inl (cy 1, 20, .inl g_sortsf)), (h1, .inr (4, [.int g_wide, .int g_deep, .int g_count, .ref g_sorts]))]) hP hD rfl
    have hP := hPD.1
    have hD := hPD.2
    refine lv_if_ne (tgt := 43) hx hb dX10_find_38 (by decide) (fun h_13 => ?_) (fun h_13 => ?_)
    · have h_13 : r_10.toInt ≠ 0 := c_ne h_13
      refine lv_aload_n hx hb dX10_find_43 rfl (lv_at hl 0 rfl) ?_
      refine lv_aload_n hx hb dX10_find_44 rfl (lv_at hl 1 rfl) ?_
      refine lv_iload_n hx hb dX10_find_45 rfl (lv_at hl 2 rfl) ?_
      refine lv_iload hx hb dX10_find_46 (lv_at hl 5 rfl) ?_
      refine sl_Vc (rV_V (As := [.ref h1, .int p2, .int p5]) (rest := []) X hp_st (fun _ _ _ h => h) (sX10_weigh l dC dI cy h0 y_targets y_weights y_left y_steps y_places y_arrivals 0 0 y_targetsf y_weightsf h1 g_wide g_deep g_count g_sorts g_sortsf p2 p5 (by first | decide | omega | (have h9_0 : Int32.toInt 0 = 0 := (by decide); omega)) hy_targetsf hg_wide hg_deep hg_count) kX10_weigh vX10_weigh mX10_43 hP hD hS hA [0, 1, 2, 8, 7] (by decide) rfl 0 (ci := 9) rfl rfl rfl hl rfl rfl (Nat.le_of_ble_eq_true rfl) dX10_find_48 ⟨(Nat.le_of_ble_eq_true rfl), (Nat.le_of_ble_eq_true rfl)⟩ ⟨(Nat.le_of_ble_eq_true rfl), (Nat.le_of_ble_eq_true rfl)⟩) hP hD hS hA [0, 1, 2, 8, 7] [false, false, false, true, true, true, true, false, false] rfl rfl rfl (fun u_18 H locs k_17 hP hD hS => ?_)
      obtain ⟨y_targetsf1_14, y_weightsf1_15⟩ := u_18
      have k_17 : (rb y_targetsf1_14 80 (-1) 19) := k_17
      have hPD := vPD (ws' := [(y_left, .inl (cy 1, 20, .inl y_leftf)), (y_steps, .inl (cy 1, 20, .inl y_stepsf)), (y_places, .inl (cy 1, 21, .inl f_4)), (y_arrivals, .inl (cy 1, 21, .inl f_5)), (h0, .inr (9, [.ref y_targets, .ref y_weights, .ref y_left, .ref y_steps, .ref y_places, .ref y_arrivals, .int 0, .int 0])), (y_targets, .inl (cy 1, 80, .inl y_targetsf1_14)), (y_weights, .inl (cy 1, 80, .inl y_weightsf1_15)), (h1, .inr (4, [.int g_wide, .int g_deep, .int g_count, .ref g_sorts])), (g_sorts, .inl (cy 1, 20, .inl g_sortsf))]) hP hD rfl
      have hP := hPD.1
      have hD := hPD.2
      refine lv_aload_n hx hb dX10_find_51 rfl (lv_at hl 0 rfl) ?_
      refine lv_aload_n hx hb dX10_find_52 rfl (lv_at hl 1 rfl) ?_
      refine r_get X kcX4 (ci := 4) rfl hP 7 rfl 2 (by decide) fX10_47 rfl dX10_find_53 ?_
      refine lv_iload hx hb dX10_find_56 (lv_at hl 4 rfl) ?_
      refine sl_Vc (rV_V (As := [.int g_count, .int p4]) (rest := []) X hp_st (fun _ _ _ h => h) (sX10_measure l dC dI cy h0 y_targets y_weights y_left y_steps y_places y_arrivals 0 0 y_targetsf1_14 y_weightsf1_15 y_leftf g_count p4 (by first | decide | omega | (have h9_0 : Int32.toInt 0 = 0 := (by decide); omega)) k_17 hg_count) kX10_measure vX10_measure mX10_50 hP hD hS hA [4, 5, 6, 0] (by decide) rfl 0 (ci := 9) rfl rfl rfl hl rfl rfl (Nat.le_of_ble_eq_true rfl) dX10_find_58 ⟨(Nat.le_of_ble_eq_true rfl), (Nat.le_of_ble_eq_true rfl)⟩ ⟨(Nat.le_of_ble_eq_true rfl), (Nat.le_of_ble_eq_true rfl)⟩) hP hD hS hA [4, 5, 6, 0] [false, true, true, true, false, false, false, true, true] rfl rfl rfl (fun u_22 H locs k_21 hP hD hS => ?_)
      obtain ⟨y_leftf1_19, eu_22⟩ : ∃ z, z = u_22 := ⟨_, rfl⟩
      subst eu_22
      have hPD := vPD (ws' := [(y_steps, .inl (cy 1, 20, .inl y_stepsf)), (y_places, .inl (cy 1, 21, .inl f_4)), (y_arrivals, .inl (cy 1, 21, .inl f_5)), (h1, .inr (4, [.int g_wide, .int g_deep, .int g_count, .ref g_sorts])), (g_sorts, .inl (cy 1, 20, .inl g_sortsf)), (h0, .inr (9, [.ref y_targets, .ref y_weights, .ref y_left, .ref y_steps, .ref y_places, .ref y_arrivals, .int 0, .int 0])), (y_targets, .inl (cy 1, 80, .inl y_targetsf1_14)), (y_weights, .inl (cy 1, 80, .inl y_weightsf1_15)), (y_left, .inl (cy 1, 20, .inl y_leftf1_19))]) hP hD rfl
      have hP := hPD.1
      have hD := hPD.2
      refine lv_aload_n hx hb dX10_find_61 rfl (lv_at hl 0 rfl) ?_
      refine r_get X kcX10 (ci := 9) rfl hP 5 rfl 2 (by decide) fX10_18 rfl dX10_find_62 ?_
      refine lv_iload_n hx hb dX10_find_65 rfl (lv_at hl 3 rfl) ?_
      refine va_iald (D := (dC, dI)) (cl := vwCl) hx hb hK hP 8 1 rfl rfl (i := p3) (vin (by omega) (by omega)) dX10_find_66 ?_
      refine lv_topi (fun x_23 ex_23 => ?_)
      refine lv_ldc (v := 1000000) hx hb X.2.2.2.1 (X.2.2.2.2.1 _ w_881) dX10_find_67 ?_
      refine lv_icmp_lt (tgt := 74) hx hb dX10_find_69 (by decide) (fun h_24 => ?_) (fun h_24 => ?_)
      · have h_24 : x_23.toInt < 1000000 := c_lt h_24
        refine lv_aload_n hx hb dX10_find_74 rfl (lv_at hl 0 rfl) ?_
        refine lv_aload_n hx hb dX10_find_75 rfl (lv_at hl 1 rfl) ?_
        refine lv_iload_n hx hb dX10_find_76 rfl (lv_at hl 2 rfl) ?_
        refine lv_iload hx hb dX10_find_77 (lv_at hl 4 rfl) ?_
        refine sl_Vc (rV_V (As := [.ref h1, .int p2, .int p4]) (rest := []) X hp_st (fun _ _ _ h => h) (sX10_follow l dC dI cy h0 y_targets y_weights y_left y_steps y_places y_arrivals 0 0 y_targetsf1_14 y_weightsf1_15 y_leftf1_19 y_stepsf f_4 f_5 h1 g_wide g_deep g_count g_sorts g_sortsf p2 p4 (by first | decide | omega | (have h9_0 : Int32.toInt 0 = 0 := (by decide); omega)) k_17 bf_4 bf_5 hg_wide hg_deep hg_count) kX10_follow vX10_follow mX10_55 hP hD hS hA [5, 6, 7, 8, 0, 1, 2, 3, 4] (by decide +kernel) rfl 0 (ci := 9) rfl rfl rfl hl rfl rfl (Nat.le_of_ble_eq_true rfl) dX10_find_79 ⟨(Nat.le_of_ble_eq_true rfl), (Nat.le_of_ble_eq_true rfl)⟩ ⟨(Nat.le_of_ble_eq_true rfl), (Nat.le_of_ble_eq_true rfl)⟩) hP hD hS hA [5, 6, 7, 8, 0, 1, 2, 3, 4] [false, false, false, false, false, false, false, false, false] rfl rfl rfl (fun u_32 H locs k_31 hP hD hS => ?_)
        obtain ⟨y_stepsf1_25, y_placesf1_26, y_arrivalsf1_27, y_length1_28, y_fallCount1_29⟩ := u_32
        have k_31 : (rb y_placesf1_26 21 0 19) ∧ (rbk y_arrivalsf1_27 21 (-2) 4) ∧ (0 ≤ y_length1_28.toInt ∧ y_length1_28.toInt ≤ 20) := k_31
        obtain ⟨k_31_0, k_31_1, k_31_2⟩ := k_31
        have hPD := vPD (ws' := [(h0, .inr (9, [.ref y_targets, .ref y_weights, .ref y_left, .ref y_steps, .ref y_places, .ref y_arrivals, .int y_length1_28, .int y_fallCount1_29])), (y_targets, .inl (cy 1, 80, .inl y_targetsf1_14)), (y_weights, .inl (cy 1, 80, .inl y_weightsf1_15)), (y_left, .inl (cy 1, 20, .inl y_leftf1_19)), (y_steps, .inl (cy 1, 20, .inl y_stepsf1_25)), (y_places, .inl (cy 1, 21, .inl y_placesf1_26)), (y_arrivals, .inl (cy 1, 21, .inl y_arrivalsf1_27)), (h1, .inr (4, [.int g_wide, .int g_deep, .int g_count, .ref g_sorts])), (g_sorts, .inl (cy 1, 20, .inl g_sortsf))]) hP hD rfl
        have hP := hPD.1
        have hD := hPD.2
        refine lv_iconst (v := 1) hx hb dX10_find_82 (by decide) ?_
        exact eI hQ X hr hlocks hP hD hS (y_targetsf1_14, y_weightsf1_15, y_leftf1_19, y_stepsf1_25, y_placesf1_26, y_arrivalsf1_27, y_length1_28, y_fallCount1_29) [0, 1, 2, 3, 4, 5, 6, 7, 8] (by decide +kernel) rfl rfl (show (0 ≤ (1 : Int32).toInt ∧ (1 : Int32).toInt ≤ 1) ∧ (rb y_targetsf1_14 80 (-1) 19) ∧ (rb y_placesf1_26 21 0 19) ∧ (rbk y_arrivalsf1_27 21 (-2) 4) ∧ (0 ≤ y_length1_28.toInt ∧ y_length1_28.toInt ≤ 20) from ⟨(by first | decide | (have h9_0 : (1 : Int32).toInt = 1 := (by decide); omega) | (refine ⟨by decide, ?_⟩; omega) | omega), k_17, k_31_0, k_31_1, k_31_2⟩) (Nat.le_of_ble_eq_true rfl) (Nat.le_of_ble_eq_true rfl) dX10_find_83
      · have h_24 : 1000000 ≤ x_23.toInt := c_nlt h_24
        refine lv_iconst (v := 0) hx hb dX10_find_72 (by decide) ?_
        exact eI hQ X hr hlocks hP hD hS (y_targetsf1_14, y_weightsf1_15, y_leftf1_19, y_stepsf, f_4, f_5, (0 : Int32), (0 : Int32)) [5, 6, 7, 8, 0, 1, 2, 3, 4] (by decide +kernel) rfl rfl (show (0 ≤ (0 : Int32).toInt ∧ (0 : Int32).toInt ≤ 1) ∧ (rb y_targetsf1_14 80 (-1) 19) ∧ (rb f_4 21 0 19) ∧ (rbk f_5 21 (-2) 4) ∧ (0 ≤ (0 : Int32).toInt ∧ (0 : Int32).toInt ≤ 20) from ⟨(by first | decide | (have h9_0 : (0 : Int32).toInt = 0 := (by decide); omega) | (refine ⟨by decide, ?_⟩; omega) | omega), k_17, bf_4, bf_5, (by first | decide | (have h9_0 : (0 : Int32).toInt = 0 := (by decide); omega) | (refine ⟨by decide, ?_⟩; omega) | omega)⟩) (Nat.le_of_ble_eq_true rfl) (Nat.le_of_ble_eq_true rfl) dX10_find_73
    · have h_13 : r_10.toInt = 0 := c_eq h_13
      refine lv_iconst (v := 0) hx hb dX10_find_41 (by decide) ?_
      exact eI hQ X hr hlocks hP hD hS (y_targetsf, y_weightsf, y_leftf, y_stepsf, f_4, f_5, (0 : Int32), (0 : Int32)) [0, 1, 2, 3, 4, 5, 6, 8, 7] (by decide +kernel) rfl rfl (show (0 ≤ (0 : Int32).toInt ∧ (0 : Int32).toInt ≤ 1) ∧ (rb y_targetsf 80 (-1) 19) ∧ (rb f_4 21 0 19) ∧ (rbk f_5 21 (-2) 4) ∧ (0 ≤ (0 : Int32).toInt ∧ (0 : Int32).toInt ≤ 20) from ⟨(by first | decide | (have h9_0 : (0 : Int32).toInt = 0 := (by decide); omega) | (refine ⟨by decide, ?_⟩; omega) | omega), hy_targetsf, bf_4, bf_5, (by first | decide | (have h9_0 : (0 : Int32).toInt = 0 := (by decide); omega) | (refine ⟨by decide, ?_⟩; omega) | omega)⟩) (Nat.le_of_ble_eq_true rfl) (Nat.le_of_ble_eq_true rfl) dX10_find_42
