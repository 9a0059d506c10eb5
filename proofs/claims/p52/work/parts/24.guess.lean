set_option maxHeartbeats 4000000 in
set_option maxRecDepth 100000 in
theorem sX5_count (l : Launch) (dC : Nat → ClassId) (dI : Nat → Nat → Nat) (cy : Nat → ClassId) (h0 : Nat) (u_ditches : Nat) (u_weights : Nat) (u_sets : Int32) (u_weightsf : Nat → Int64) (hu_sets : 0 ≤ u_sets.toInt ∧ u_sets.toInt ≤ 32) : ctI l dC dI cy hp yX5_count cX5_count 3 .int ({ frames := 0, cells := 0, slots := 0, locals := 0 } : Room) [.ref h0] [(h0, .inr (5, [.ref u_ditches, .ref u_weights, .int u_sets])), (u_weights, .inl (cy 2, 32, .inr (.inl u_weightsf)))] (S := Unit) (fun r _ => (0 ≤ r.toInt ∧ r.toInt ≤ 32)) (fun _ => [(h0, .inr (5, [.ref u_ditches, .ref u_weights, .int u_sets])), (u_weights, .inl (cy 2, 32, .inr (.inl u_weightsf)))]) := by
  refine ctI.of (by decide +kernel) (Nat.le_of_ble_eq_true rfl) ?_
  intro p e s m args below meth c A ls Q hQ X hr hlocks hin hA hP hD hS hl
  have hx := X.1
  have hb := X.2.1
  have hK := X.2.2.2.2.2.1
  have hl : lv_has ls 3 [(0, .ref h0)] := hl
  refine lv_iconst (v := 0) hx hb dX5_count_0 (by decide) ?_
  refine lv_istore_n (lv' := [(1, .int 0), (0, .ref h0)]) hx hb dX5_count_1 rfl hl (by decide) rfl (fun ls hl => ?_)
  refine lv_iconst (v := 0) hx hb dX5_count_2 (by decide) ?_
  refine lv_istore_n (lv' := [(2, .int 0), (1, .int 0), (0, .ref h0)]) hx hb dX5_count_3 rfl hl (by decide) rfl (fun ls hl => ?_)
  have lp_1 : ∀ (nlp_1 : Nat) (i_2 : Int32) (i_4 : Int32) (H : Heap) (locs : List Loc) (ls : Array Slot), (0 ≤ i_2.toInt ∧ i_2.toInt ≤ 32) → (0 ≤ i_4.toInt ∧ i_4.toInt ≤ 32) → (i_4.toInt ≤ i_2.toInt) → (33 - i_2.toInt ≤ (nlp_1 : Int)) → va_P (dC, dI) vwCl [(h0, .inr (5, [.ref u_ditches, .ref u_weights, .int u_sets])), (u_weights, .inl (cy 2, 32, .inr (.inl u_weightsf)))] H → va_D A [(h0, .inr (5, [.ref u_ditches, .ref u_weights, .int u_sets])), (u_weights, .inl (cy 2, 32, .inr (.inl u_weightsf)))] → va_S A s.heap H locs → lv_has ls 3 [(2, .int i_2), (1, .int i_4), (0, .ref h0)] → W p l e ({ frames := 0, cells := 0, slots := 0, locals := 0 } : Room) s m args below meth c H locs 0 0 Q (F0 m 4 ls []) := by
    intro nlp_1
    induction nlp_1 with
    | zero =>
      intro i_2 i_4 H locs ls b_3 b_5 b_6 hmlp_1 hP hD hS hl
      exfalso
      have di_2 := ti_bd i_2
      have di_4 := ti_bd i_4
      omega
    | succ nlp_1 ihlp_1 =>
      intro i_2 i_4 H locs ls b_3 b_5 b_6 hmlp_1 hP hD hS hl
      refine lv_iload_n hx hb dX5_count_4 rfl (lv_at hl 0 rfl) ?_
      refine lv_aload_n hx hb dX5_count_5 rfl (lv_at hl 2 rfl) ?_
      refine r_get X kcX5 (ci := 5) rfl hP 0 rfl 2 (by decide) fX5_35 rfl dX5_count_6 ?_
      refine lv_icmp_ge (tgt := 37) hx hb dX5_count_9 (by decide) (fun h_7 => ?_) (fun h_7 => ?_)
      · have h_7 : u_sets.toInt ≤ i_2.toInt := c_le h_7
        refine lv_iload_n hx hb dX5_count_37 rfl (lv_at hl 1 rfl) ?_
        exact eI hQ X hr hlocks hP hD hS () [0, 1] (by decide) rfl rfl (show (0 ≤ i_4.toInt ∧ i_4.toInt ≤ 32) from b_5) (Nat.le_of_ble_eq_true rfl) (Nat.le_of_ble_eq_true rfl) dX5_count_38
      · have h_7 : i_2.toInt < u_sets.toInt := c_nle h_7
        refine lv_iload_n hx hb dX5_count_12 rfl (lv_at hl 1 rfl) ?_
        refine lv_aload_n hx hb dX5_count_13 rfl (lv_at hl 2 rfl) ?_
        refine r_get X kcX5 (ci := 5) rfl hP 0 rfl 1 (by decide) fX5_15 rfl dX5_count_14 ?_
        refine lv_iload_n hx hb dX5_count_17 rfl (lv_at hl 0 rfl) ?_
        refine va_lald (D := (dC, dI)) (cl := vwCl) hx hb hK hP 1 2 rfl rfl (i := i_2) (vin (by omega) (by omega)) dX5_count_18 ?_
        refine lv_topl (fun x_8 ex_8 => ?_)
        refine lv_lconst (v := 0) hx hb dX5_count_19 (by decide) ?_
        refine W.lcmp hx hb dX5_count_20 ?_
        refine lv_topi (fun x_9 ex_9 => ?_)
        refine lv_if_le (tgt := 28) hx hb dX5_count_21 (by decide) (fun h_10 => ?_) (fun h_10 => ?_)
        · have h_10 : x_9.toInt ≤ 0 := c_le h_10
          refine lv_iconst (v := 0) hx hb dX5_count_28 (by decide) ?_
          refine lv_iadd hx hb dX5_count_29 ?_
          refine lv_topi (fun x_11 ex_11 => ?_)
          have tx_11 : x_11.toInt = i_4.toInt + 0 := ti_add (A := i_4.toInt) (B := 0) ex_11 rfl rfl (by omega) (by omega)
          refine lv_istore_n (lv' := [(1, .int x_11), (2, .int i_2), (0, .ref h0)]) hx hb dX5_count_30 rfl hl (by decide) rfl (fun ls hl => ?_)
          obtain ⟨x_12, ex_12⟩ : ∃ y : Int32, y = i_2 + 1 := ⟨_, rfl⟩
          have tx_12 : x_12.toInt = i_2.toInt + 1 := ti_add (A := i_2.toInt) (B := 1) ex_12 rfl rfl (by omega) (by omega)
          refine lv_iinc (v := x_12) (lv' := [(2, .int x_12), (1, .int x_11), (0, .ref h0)]) hx hb dX5_count_31 hl (k := 1) rfl (by rw [ex_12]; rfl) (by decide) rfl (fun ls hl => ?_)
          refine lv_goto (tgt := 4) hx hb dX5_count_34 (by decide) ?_
          exact ihlp_1 x_12 x_11 _ _ _ (by omega) (by omega) (show x_11.toInt ≤ x_12.toInt by omega) (show 33 - x_12.toInt ≤ (nlp_1 : Int) by omega) hP hD hS (lv_sub hl [0, 1, 2] rfl)
        · have h_10 : 0 < x_9.toInt := c_nle h_10
          refine lv_iconst (v := 1) hx hb dX5_count_24 (by decide) ?_
          refine lv_goto (tgt := 29) hx hb dX5_count_25 (by decide) ?_
          refine lv_iadd hx hb dX5_count_29 ?_
          refine lv_topi (fun x_13 ex_13 => ?_)
          have tx_13 : x_13.toInt = i_4.toInt + 1 := ti_add (A := i_4.toInt) (B := 1) ex_13 rfl rfl (by omega) (by omega)
          refine lv_istore_n (lv' := [(1, .int x_13), (2, .int i_2), (0, .ref h0)]) hx hb dX5_count_30 rfl hl (by decide) rfl (fun ls hl => ?_)
          obtain ⟨x_14, ex_14⟩ : ∃ y : Int32, y = i_2 + 1 := ⟨_, rfl⟩
          have tx_14 : x_14.toInt = i_2.toInt + 1 := ti_add (A := i_2.toInt) (B := 1) ex_14 rfl rfl (by omega) (by omega)
          refine lv_iinc (v := x_14) (lv' := [(2, .int x_14), (1, .int x_13), (0, .ref h0)]) hx hb dX5_count_31 hl (k := 1) rfl (by rw [ex_14]; rfl) (by decide) rfl (fun ls hl => ?_)
          refine lv_goto (tgt := 4) hx hb dX5_count_34 (by decide) ?_
          exact ihlp_1 x_14 x_13 _ _ _ (by omega) (by omega) (show x_13.toInt ≤ x_14.toInt by omega) (show 33 - x_14.toInt ≤ (nlp_1 : Int) by omega) hP hD hS (lv_sub hl [0, 1, 2] rfl)
  exact lp_1 33 0 0 _ _ _ (by decide) (by decide) (show 0 ≤ 0 by omega) (show 33 - 0 ≤ ((33 : Nat) : Int) by omega) hP hD hS hl
set_option maxHeartbeats 4000000 in
set_option maxRecDepth 100000 in
theorem sX5_ith (l : Launch) (dC : Nat → ClassId) (dI : Nat → Nat → Nat) (cy : Nat → ClassId) (h0 : Nat) (u_ditches : Nat) (u_weights : Nat) (u_sets : Int32) (u_weightsf : Nat → Int64) (p1 : Int32) (hu_sets : 0 ≤ u_sets.toInt ∧ u_sets.toInt ≤ 32) : ctI l dC dI cy hp yX5_ith cX5_ith 4 .int ({ frames := 0, cells := 0, slots := 0, locals := 0 } : Room) [.ref h0, .int p1] [(h0, .inr (5, [.ref u_ditches, .ref u_weights, .int u_sets])), (u_weights, .inl (cy 2, 32, .inr (.inl u_weightsf)))] (S := Unit) (fun r _ => ((-1) ≤ r.toInt ∧ r.toInt ≤ 31)) (fun _ => [(h0, .inr (5, [.ref u_ditches, .ref u_weights, .int u_sets])), (u_weights, .inl (cy 2, 32, .inr (.inl u_weightsf)))]) := by
  refine ctI.of (by decide +kernel) (Nat.le_of_ble_eq_true rfl) ?_
  intro p e s m args below meth c A ls Q hQ X hr hlocks hin hA hP hD hS hl
  have hx := X.1
  have hb := X.2.1
  have hK := X.2.2.2.2.2.1
  have hl : lv_has ls 4 [(0, .ref h0), (1, .int p1)] := hl
  have dy_1 := ti_bd p1
  refine lv_iconst (v := 0) hx hb dX5_ith_0 (by decide) ?_
  refine lv_istore_n (lv' := [(2, .int 0), (0, .ref h0), (1, .int p1)]) hx hb dX5_ith_1 rfl hl (by decide) rfl (fun ls hl => ?_)
  refine lv_iconst (v := 0) hx hb dX5_ith_2 (by decide) ?_
  refine lv_istore_n (lv' := [(3, .int 0), (2, .int 0), (0, .ref h0), (1, .int p1)]) hx hb dX5_ith_3 rfl hl (by decide) rfl (fun ls hl => ?_)
  have lp_2 : ∀ (nlp_2 : Nat) (i_3 : Int32) (i_5 : Int32) (H : Heap) (locs : List Loc) (ls : Array Slot), (0 ≤ i_3.toInt ∧ i_3.toInt ≤ 32) → (0 ≤ i_5.toInt ∧ i_5.toInt ≤ 32) → (i_5.toInt ≤ i_3.toInt) → (33 - i_3.toInt ≤ (nlp_2 : Int)) → va_P (dC, dI) vwCl [(h0, .inr (5, [.ref u_ditches, .ref u_weights, .int u_sets])), (u_weights, .inl (cy 2, 32, .inr (.inl u_weightsf)))] H → va_D A [(h0, .inr (5, [.ref u_ditches, .ref u_weights, .int u_sets])), (u_weights, .inl (cy 2, 32, .inr (.inl u_weightsf)))] → va_S A s.heap H locs → lv_has ls 4 [(3, .int i_3), (2, .int i_5), (0, .ref h0), (1, .int p1)] → W p l e ({ frames := 0, cells := 0, slots := 0, locals := 0 } : Room) s m args below meth c H locs 0 0 Q (F0 m 4 ls []) := by
    intro nlp_2
    induction nlp_2 with
    | zero =>
      intro i_3 i_5 H locs ls b_4 b_6 b_7 hmlp_2 hP hD hS hl
      exfalso
      have di_3 := ti_bd i_3
      have di_5 := ti_bd i_5
      omega
    | succ nlp_2 ihlp_2 =>
      intro i_3 i_5 H locs ls b_4 b_6 b_7 hmlp_2 hP hD hS hl
      refine lv_iload_n hx hb dX5_ith_4 rfl (lv_at hl 0 rfl) ?_
      refine lv_aload_n hx hb dX5_ith_5 rfl (lv_at hl 2 rfl) ?_
      refine r_get X kcX5 (ci := 5) rfl hP 0 rfl 2 (by decide) fX5_35 rfl dX5_ith_6 ?_
      refine lv_icmp_ge (tgt := 39) hx hb dX5_ith_9 (by decide) (fun h_8 => ?_) (fun h_8 => ?_)
      · have h_8 : u_sets.toInt ≤ i_3.toInt := c_le h_8
        refine lv_iconst (v := -1) hx hb dX5_ith_39 (by decide) ?_
        exact eI hQ X hr hlocks hP hD hS () [0, 1] (by decide) rfl rfl (show ((-1) ≤ (-1 : Int32).toInt ∧ (-1 : Int32).toInt ≤ 31) from (by first | omega | decide | (refine ⟨by decide, ?_⟩; omega) | (have h9_0 : (-1 : Int32).toInt = (-1) := (by decide); omega))) (Nat.le_of_ble_eq_true rfl) (Nat.le_of_ble_eq_true rfl) dX5_ith_40
      · have h_8 : i_3.toInt < u_sets.toInt := c_nle h_8
        refine lv_aload_n hx hb dX5_ith_12 rfl (lv_at hl 2 rfl) ?_
        refine r_get X kcX5 (ci := 5) rfl hP 0 rfl 1 (by decide) fX5_15 rfl dX5_ith_13 ?_
        refine lv_iload_n hx hb dX5_ith_16 rfl (lv_at hl 0 rfl) ?_
        refine va_lald (D := (dC, dI)) (cl := vwCl) hx hb hK hP 1 2 rfl rfl (i := i_3) (vin (by omega) (by omega)) dX5_ith_17 ?_
        refine lv_topl (fun x_9 ex_9 => ?_)
        refine lv_lconst (v := 0) hx hb dX5_ith_18 (by decide) ?_
        refine W.lcmp hx hb dX5_ith_19 ?_
        refine lv_topi (fun x_10 ex_10 => ?_)
        refine lv_if_le (tgt := 33) hx hb dX5_ith_20 (by decide) (fun h_11 => ?_) (fun h_11 => ?_)
        · have h_11 : x_10.toInt ≤ 0 := c_le h_11
          obtain ⟨x_12, ex_12⟩ : ∃ y : Int32, y = i_3 + 1 := ⟨_, rfl⟩
          have tx_12 : x_12.toInt = i_3.toInt + 1 := ti_add (A := i_3.toInt) (B := 1) ex_12 rfl rfl (by omega) (by omega)
          refine lv_iinc (v := x_12) (lv' := [(3, .int x_12), (2, .int i_5), (0, .ref h0), (1, .int p1)]) hx hb dX5_ith_33 hl (k := 0) rfl (by rw [ex_12]; rfl) (by decide) rfl (fun ls hl => ?_)
          refine lv_goto (tgt := 4) hx hb dX5_ith_36 (by decide) ?_
          exact ihlp_2 x_12 i_5 _ _ _ (by omega) (by omega) (show i_5.toInt ≤ x_12.toInt by omega) (show 33 - x_12.toInt ≤ (nlp_2 : Int) by omega) hP hD hS (lv_sub hl [0, 1, 2, 3] rfl)
        · have h_11 : 0 < x_10.toInt := c_nle h_11
          refine lv_iload_n hx hb dX5_ith_23 rfl (lv_at hl 1 rfl) ?_
          refine lv_iload_n hx hb dX5_ith_24 rfl (lv_at hl 3 rfl) ?_
          refine lv_icmp_ne (tgt := 30) hx hb dX5_ith_25 (by decide) (fun h_13 => ?_) (fun h_13 => ?_)
          · have h_13 : i_5.toInt ≠ p1.toInt := c_ne h_13
            obtain ⟨x_14, ex_14⟩ : ∃ y : Int32, y = i_5 + 1 := ⟨_, rfl⟩
            have tx_14 : x_14.toInt = i_5.toInt + 1 := ti_add (A := i_5.toInt) (B := 1) ex_14 rfl rfl (by omega) (by omega)
            refine lv_iinc (v := x_14) (lv' := [(2, .int x_14), (3, .int i_3), (0, .ref h0), (1, .int p1)]) hx hb dX5_ith_30 hl (k := 1) rfl (by rw [ex_14]; rfl) (by decide) rfl (fun ls hl => ?_)
            obtain ⟨x_15, ex_15⟩ : ∃ y : Int32, y = i_3 + 1 := ⟨_, rfl⟩
            have tx_15 : x_15.toInt = i_3.toInt + 1 := ti_add (A := i_3.toInt) (B := 1) ex_15 rfl rfl (by omega) (by omega)
            refine lv_iinc (v := x_15) (lv' := [(3, .int x_15), (2, .int x_14), (0, .ref h0), (1, .int p1)]) hx hb dX5_ith_33 hl (k := 1) rfl (by rw [ex_15]; rfl) (by decide) rfl (fun ls hl => ?_)
            refine lv_goto (tgt := 4) hx hb dX5_ith_36 (by decide) ?_
            exact ihlp_2 x_15 x_14 _ _ _ (by omega) (by omega) (show x_14.toInt ≤ x_15.toInt by omega) (show 33 - x_15.toInt ≤ (nlp_2 : Int) by omega) hP hD hS (lv_sub hl [0, 1, 2, 3] rfl)
          · have h_13 : i_5.toInt = p1.toInt := c_eq h_13
            refine lv_iload_n hx hb dX5_ith_28 rfl (lv_at hl 0 rfl) ?_
            exact eI hQ X hr hlocks hP hD hS () [0, 1] (by decide) rfl rfl (show ((-1) ≤ i_3.toInt ∧ i_3.toInt ≤ 31) from (by omega)) (Nat.le_of_ble_eq_true rfl) (Nat.le_of_ble_eq_true rfl) dX5_ith_29
  exact lp_2 33 0 0 _ _ _ (by decide) (by decide) (show 0 ≤ 0 by omega) (show 33 - 0 ≤ ((33 : Nat) : Int) by omega) hP hD hS hl
set_option maxHeartbeats 4000000 in
set_option maxRecDepth 100000 in
theorem sX5_heaviest (l : Launch) (dC : Nat → ClassId) (dI : Nat → Nat → Nat) (cy : Nat → ClassId) (h0 : Nat) (u_ditches : Nat) (u_weights : Nat) (u_sets : Int32) (u_weightsf : Nat → Int64) (hu_sets : 0 ≤ u_sets.toInt ∧ u_sets.toInt ≤ 32) : ctI l dC dI cy hp yX5_heaviest cX5_heaviest 5 .int ({ frames := 0, cells := 0, slots := 0, locals := 0 } : Room) [.ref h0] [(h0, .inr (5, [.ref u_ditches, .ref u_weights, .int u_sets])), (u_weights, .inl (cy 2, 32, .inr (.inl u_weightsf)))] (S := Unit) (fun r _ => True) (fun _ => [(h0, .inr (5, [.ref u_ditches, .ref u_weights, .int u_sets])), (u_weights, .inl (cy 2, 32, .inr (.inl u_weightsf)))]) := by
  refine ctI.of (by decide +kernel) (Nat.le_of_ble_eq_true rfl) ?_
  intro p e s m args below meth c A ls Q hQ X hr hlocks hin hA hP hD hS hl
  have hx := X.1
  have hb := X.2.1
  have hK := X.2.2.2.2.2.1
  have hl : lv_has ls 5 [(0, .ref h0)] := hl
  refine lv_bipush (v := -2) hx hb dX5_heaviest_0 (by decide) ?_
  refine lv_istore_n (lv' := [(1, .int (-2)), (0, .ref h0)]) hx hb dX5_heaviest_2 rfl hl (by decide) rfl (fun ls hl => ?_)
  refine lv_lconst (v := 0) hx hb dX5_heaviest_3 (by decide) ?_
  refine lv_lstore_n (lv' := [(2, .long 0), (1, .int (-2)), (0, .ref h0)]) hx hb dX5_heaviest_4 rfl hl (by decide) rfl (fun ls hl => ?_)
  refine lv_iconst (v := 0) hx hb dX5_heaviest_5 (by decide) ?_
  refine lv_istore (lv' := [(4, .int 0), (2, .long 0), (1, .int (-2)), (0, .ref h0)]) hx hb dX5_heaviest_6 hl (by decide) rfl (fun ls hl => ?_)
  have lp_1 : ∀ (nlp_1 : Nat) (i_2 : Int32) (i_4 : Int64) (i_5 : Int32) (H : Heap) (locs : List Loc) (ls : Array Slot), (0 ≤ i_2.toInt ∧ i_2.toInt ≤ 32) → (33 - i_2.toInt ≤ (nlp_1 : Int)) → va_P (dC, dI) vwCl [(h0, .inr (5, [.ref u_ditches, .ref u_weights, .int u_sets])), (u_weights, .inl (cy 2, 32, .inr (.inl u_weightsf)))] H → va_D A [(h0, .inr (5, [.ref u_ditches, .ref u_weights, .int u_sets])), (u_weights, .inl (cy 2, 32, .inr (.inl u_weightsf)))] → va_S A s.heap H locs → lv_has ls 5 [(4, .int i_2), (2, .long i_4), (1, .int i_5), (0, .ref h0)] → W p l e ({ frames := 0, cells := 0, slots := 0, locals := 0 } : Room) s m args below meth c H locs 0 0 Q (F0 m 8 ls []) := by
    intro nlp_1
    induction nlp_1 with
    | zero =>
      intro i_2 i_4 i_5 H locs ls b_3 hmlp_1 hP hD hS hl
      exfalso
      have di_2 := ti_bd i_2
      have di_5 := ti_bd i_5
      omega
    | succ nlp_1 ihlp_1 =>
      intro i_2 i_4 i_5 H locs ls b_3 hmlp_1 hP hD hS hl
      refine lv_iload hx hb dX5_heaviest_8 (lv_at hl 0 rfl) ?_
      refine lv_aload_n hx hb dX5_heaviest_10 rfl (lv_at hl 3 rfl) ?_
      refine r_get X kcX5 (ci := 5) rfl hP 0 rfl 2 (by decide) fX5_35 rfl dX5_heaviest_11 ?_
      refine lv_icmp_ge (tgt := 46) hx hb dX5_heaviest_14 (by decide) (fun h_6 => ?_) (fun h_6 => ?_)
      · have h_6 : u_sets.toInt ≤ i_2.toInt := c_le h_6
        refine lv_iload_n hx hb dX5_heaviest_46 rfl (lv_at hl 2 rfl) ?_
        exact eI hQ X hr hlocks hP hD hS () [0, 1] (by decide) rfl rfl trivial (Nat.le_of_ble_eq_true rfl) (Nat.le_of_ble_eq_true rfl) dX5_heaviest_47
      · have h_6 : i_2.toInt < u_sets.toInt := c_nle h_6
        refine lv_aload_n hx hb dX5_heaviest_17 rfl (lv_at hl 3 rfl) ?_
        refine r_get X kcX5 (ci := 5) rfl hP 0 rfl 1 (by decide) fX5_15 rfl dX5_heaviest_18 ?_
        refine lv_iload hx hb dX5_heaviest_21 (lv_at hl 0 rfl) ?_
        refine va_lald (D := (dC, dI)) (cl := vwCl) hx hb hK hP 1 2 rfl rfl (i := i_2) (vin (by omega) (by omega)) dX5_heaviest_23 ?_
        refine lv_topl (fun x_7 ex_7 => ?_)
        refine lv_lload_n hx hb dX5_heaviest_24 rfl (lv_at hl 1 rfl) ?_
        refine W.lcmp hx hb dX5_heaviest_25 ?_
        refine lv_topi (fun x_8 ex_8 => ?_)
        refine lv_if_le (tgt := 40) hx hb dX5_heaviest_26 (by decide) (fun h_9 => ?_) (fun h_9 => ?_)
        · have h_9 : x_8.toInt ≤ 0 := c_le h_9
          obtain ⟨x_10, ex_10⟩ : ∃ y : Int32, y = i_2 + 1 := ⟨_, rfl⟩
          have tx_10 : x_10.toInt = i_2.toInt + 1 := ti_add (A := i_2.toInt) (B := 1) ex_10 rfl rfl (by omega) (by omega)
          refine lv_iinc (v := x_10) (lv' := [(4, .int x_10), (2, .long i_4), (1, .int i_5), (0, .ref h0)]) hx hb dX5_heaviest_40 hl (k := 0) rfl (by rw [ex_10]; rfl) (by decide) rfl (fun ls hl => ?_)
          refine lv_goto (tgt := 8) hx hb dX5_heaviest_43 (by decide) ?_
          exact ihlp_1 x_10 i_4 i_5 _ _ _ (by omega) (show 33 - x_10.toInt ≤ (nlp_1 : Int) by omega) hP hD hS (lv_sub hl [0, 1, 2, 3] rfl)
        · have h_9 : 0 < x_8.toInt := c_nle h_9
          refine lv_aload_n hx hb dX5_heaviest_29 rfl (lv_at hl 3 rfl) ?_
          refine r_get X kcX5 (ci := 5) rfl hP 0 rfl 1 (by decide) fX5_15 rfl dX5_heaviest_30 ?_
          refine lv_iload hx hb dX5_heaviest_33 (lv_at hl 0 rfl) ?_
          refine va_lald (D := (dC, dI)) (cl := vwCl) hx hb hK hP 1 2 rfl rfl (i := i_2) (vin (by omega) (by omega)) dX5_heaviest_35 ?_
          refine lv_topl (fun x_11 ex_11 => ?_)
          refine lv_lstore_n (lv' := [(2, .long x_11), (4, .int i_2), (1, .int i_5), (0, .ref h0)]) hx hb dX5_heaviest_36 rfl hl (by decide) rfl (fun ls hl => ?_)
          refine lv_iload hx hb dX5_heaviest_37 (lv_at hl 1 rfl) ?_
          refine lv_istore_n (lv' := [(1, .int i_2), (2, .long x_11), (4, .int i_2), (0, .ref h0)]) hx hb dX5_heaviest_39 rfl hl (by decide) rfl (fun ls hl => ?_)
          obtain ⟨x_12, ex_12⟩ : ∃ y : Int32, y = i_2 + 1 := ⟨_, rfl⟩
          have tx_12 : x_12.toInt = i_2.toInt + 1 := ti_add (A := i_2.toInt) (B := 1) ex_12 rfl rfl (by omega) (by omega)
          refine lv_iinc (v := x_12) (lv' := [(4, .int x_12), (1, .int i_2), (2, .long x_11), (0, .ref h0)]) hx hb dX5_heaviest_40 hl (k := 2) rfl (by rw [ex_12]; rfl) (by decide) rfl (fun ls hl => ?_)
          refine lv_goto (tgt := 8) hx hb dX5_heaviest_43 (by decide) ?_
          exact ihlp_1 x_12 x_11 i_2 _ _ _ (by omega) (show 33 - x_12.toInt ≤ (nlp_1 : Int) by omega) hP hD hS (lv_sub hl [0, 2, 1, 3] rfl)
  exact lp_1 33 0 0 (-2) _ _ _ (by decide) (show 33 - 0 ≤ ((33 : Nat) : Int) by omega) hP hD hS hl
set_option maxHeartbeats 4000000 in
set_option maxRecDepth 100000 in
theorem sX5_weightOfAll (l : Launch) (dC : Nat → ClassId) (dI : Nat → Nat → Nat) (cy : Nat → ClassId) (h0 : Nat) (u_ditches : Nat) (u_weights : Nat) (u_sets : Int32) (u_weightsf : Nat → Int64) (hu_sets : 0 ≤ u_sets.toInt ∧ u_sets.toInt ≤ 32) : ctL l dC dI cy hp yX5_weightOfAll cX5_weightOfAll 4 ({ frames := 0, cells := 0, slots := 0, locals := 0 } : Room) [.ref h0] [(h0, .inr (5, [.ref u_ditches, .ref u_weights, .int u_sets])), (u_weights, .inl (cy 2, 32, .inr (.inl u_weightsf)))] (S := Unit) (fun r _ => True) (fun _ => [(h0, .inr (5, [.ref u_ditches, .ref u_weights, .int u_sets])), (u_weights, .inl (cy 2, 32, .inr (.inl u_weightsf)))]) := by
  refine ctL.of (by decide +kernel) (Nat.le_of_ble_eq_true rfl) ?_
  intro p e s m args below meth c A ls Q hQ X hr hlocks hin hA hP hD hS hl
  have hx := X.1
  have hb := X.2.1
  have hK := X.2.2.2.2.2.1
  have hl : lv_has ls 4 [(0, .ref h0)] := hl
  refine lv_lconst (v := 0) hx hb dX5_weightOfAll_0 (by decide) ?_
  refine lv_lstore_n (lv' := [(1, .long 0), (0, .ref h0)]) hx hb dX5_weightOfAll_1 rfl hl (by decide) rfl (fun ls hl => ?_)
  refine lv_iconst (v := 0) hx hb dX5_weightOfAll_2 (by decide) ?_
  refine lv_istore_n (lv' := [(3, .int 0), (1, .long 0), (0, .ref h0)]) hx hb dX5_weightOfAll_3 rfl hl (by decide) rfl (fun ls hl => ?_)
  have lp_1 : ∀ (nlp_1 : Nat) (i_2 : Int32) (i_4 : Int64) (H : Heap) (locs : List Loc) (ls : Array Slot), (0 ≤ i_2.toInt ∧ i_2.toInt ≤ 32) → (33 - i_2.toInt ≤ (nlp_1 : Int)) → va_P (dC, dI) vwCl [(h0, .inr (5, [.ref u_ditches, .ref u_weights, .int u_sets])), (u_weights, .inl (cy 2, 32, .inr (.inl u_weightsf)))] H → va_D A [(h0, .inr (5, [.ref u_ditches, .ref u_weights, .int u_sets])), (u_weights, .inl (cy 2, 32, .inr (.inl u_weightsf)))] → va_S A s.heap H locs → lv_has ls 4 [(3, .int i_2), (1, .long i_4), (0, .ref h0)] → W p l e ({ frames := 0, cells := 0, slots := 0, locals := 0 } : Room) s m args below meth c H locs 0 0 Q (F0 m 4 ls []) := by
    intro nlp_1
    induction nlp_1 with
    | zero =>
      intro i_2 i_4 H locs ls b_3 hmlp_1 hP hD hS hl
      exfalso
      have di_2 := ti_bd i_2
      omega
    | succ nlp_1 ihlp_1 =>
      intro i_2 i_4 H locs ls b_3 hmlp_1 hP hD hS hl
      refine lv_iload_n hx hb dX5_weightOfAll_4 rfl (lv_at hl 0 rfl) ?_
      refine lv_aload_n hx hb dX5_weightOfAll_5 rfl (lv_at hl 2 rfl) ?_
      refine r_get X kcX5 (ci := 5) rfl hP 0 rfl 2 (by decide) fX5_35 rfl dX5_weightOfAll_6 ?_
      refine lv_icmp_ge (tgt := 27) hx hb dX5_weightOfAll_9 (by decide) (fun h_5 => ?_) (fun h_5 => ?_)
      · have h_5 : u_sets.toInt ≤ i_2.toInt := c_le h_5
        refine lv_lload_n hx hb dX5_weightOfAll_27 rfl (lv_at hl 1 rfl) ?_
        exact eL hQ X hr hlocks hP hD hS () [0, 1] (by decide) rfl trivial (Nat.le_of_ble_eq_true rfl) (Nat.le_of_ble_eq_true rfl) dX5_weightOfAll_28
      · have h_5 : i_2.toInt < u_sets.toInt := c_nle h_5
        refine lv_lload_n hx hb dX5_weightOfAll_12 rfl (lv_at hl 1 rfl) ?_
        refine lv_aload_n hx hb dX5_weightOfAll_13 rfl (lv_at hl 2 rfl) ?_
        refine r_get X kcX5 (ci := 5) rfl hP 0 rfl 1 (by decide) fX5_15 rfl dX5_weightOfAll_14 ?_
        refine lv_iload_n hx hb dX5_weightOfAll_17 rfl (lv_at hl 0 rfl) ?_
        refine va_lald (D := (dC, dI)) (cl := vwCl) hx hb hK hP 1 2 rfl rfl (i := i_2) (vin (by omega) (by omega)) dX5_weightOfAll_18 ?_
        refine lv_topl (fun x_6 ex_6 => ?_)
        refine lv_ladd hx hb dX5_weightOfAll_19 ?_
        refine lv_topl (fun x_7 ex_7 => ?_)
        refine lv_lstore_n (lv' := [(1, .long x_7), (3, .int i_2), (0, .ref h0)]) hx hb dX5_weightOfAll_20 rfl hl (by decide) rfl (fun ls hl => ?_)
        obtain ⟨x_8, ex_8⟩ : ∃ y : Int32, y = i_2 + 1 := ⟨_, rfl⟩
        have tx_8 : x_8.toInt = i_2.toInt + 1 := ti_add (A := i_2.toInt) (B := 1) ex_8 rfl rfl (by omega) (by omega)
        refine lv_iinc (v := x_8) (lv' := [(3, .int x_8), (1, .long x_7), (0, .ref h0)]) hx hb dX5_weightOfAll_21 hl (k := 1) rfl (by rw [ex_8]; rfl) (by decide) rfl (fun ls hl => ?_)
        refine lv_goto (tgt := 4) hx hb dX5_weightOfAll_24 (by decide) ?_
        exact ihlp_1 x_8 x_7 _ _ _ (by omega) (show 33 - x_8.toInt ≤ (nlp_1 : Int) by omega) hP hD hS (lv_sub hl [0, 1, 2] rfl)
  exact lp_1 33 0 0 _ _ _ (by decide) (show 33 - 0 ≤ ((33 : Nat) : Int) by omega) hP hD hS hl
set_option maxHeartbeats 4000000 in
set_option maxRecDepth 100000 in
theorem sX5_weightOf (l : Launch) (dC : Nat → ClassId) (dI : Nat → Nat → Nat) (cy : Nat → ClassId) (h0 : Nat) (u_ditches : Nat) (u_weights : Nat) (u_sets : Int32) (u_weightsf : Nat → Int64) (p1 : Int32) (hu_sets : 0 ≤ u_sets.toInt ∧ u_sets.toInt ≤ 32) : ctL l dC dI cy hp yX5_weightOf cX5_weightOf 5 ({ frames := 0, cells := 0, slots := 0, locals := 0 } : Room) [.ref h0, .int p1] [(h0, .inr (5, [.ref u_ditches, .ref u_weights, .int u_sets])), (u_weights, .inl (cy 2, 32, .inr (.inl u_weightsf)))] (S := Unit) (fun r _ => True) (fun _ => [(h0, .inr (5, [.ref u_ditches, .ref u_weights, .int u_sets])), (u_weights, .inl (cy 2, 32, .inr (.inl u_weightsf)))]) := by
  refine ctL.of (by decide +kernel) (Nat.le_of_ble_eq_true rfl) ?_
  intro p e s m args below meth c A ls Q hQ X hr hlocks hin hA hP hD hS hl
  have hx := X.1
  have hb := X.2.1
  have hK := X.2.2.2.2.2.1
  have hl : lv_has ls 5 [(0, .ref h0), (1, .int p1)] := hl
  have dy_1 := ti_bd p1
  refine lv_lconst (v := 0) hx hb dX5_weightOf_0 (by decide) ?_
  refine lv_lstore_n (lv' := [(2, .long 0), (0, .ref h0), (1, .int p1)]) hx hb dX5_weightOf_1 rfl hl (by decide) rfl (fun ls hl => ?_)
  refine lv_iconst (v := 0) hx hb dX5_weightOf_2 (by decide) ?_
  refine lv_istore (lv' := [(4, .int 0), (2, .long 0), (0, .ref h0), (1, .int p1)]) hx hb dX5_weightOf_3 hl (by decide) rfl (fun ls hl => ?_)
  have lp_2 : ∀ (nlp_2 : Nat) (i_3 : Int32) (i_5 : Int64) (H : Heap) (locs : List Loc) (ls : Array Slot), (0 ≤ i_3.toInt ∧ i_3.toInt ≤ 32) → (33 - i_3.toInt ≤ (nlp_2 : Int)) → va_P (dC, dI) vwCl [(h0, .inr (5, [.ref u_ditches, .ref u_weights, .int u_sets])), (u_weights, .inl (cy 2, 32, .inr (.inl u_weightsf)))] H → va_D A [(h0, .inr (5, [.ref u_ditches, .ref u_weights, .int u_sets])), (u_weights, .inl (cy 2, 32, .inr (.inl u_weightsf)))] → va_S A s.heap H locs → lv_has ls 5 [(4, .int i_3), (2, .long i_5), (0, .ref h0), (1, .int p1)] → W p l e ({ frames := 0, cells := 0, slots := 0, locals := 0 } : Room) s m args below meth c H locs 0 0 Q (F0 m 5 ls []) := by
    intro nlp_2
    induction nlp_2 with
    | zero =>
      intro i_3 i_5 H locs ls b_4 hmlp_2 hP hD hS hl
      exfalso
      have di_3 := ti_bd i_3
      omega
    | succ nlp_2 ihlp_2 =>
      intro i_3 i_5 H locs ls b_4 hmlp_2 hP hD hS hl
      refine lv_iload hx hb dX5_weightOf_5 (lv_at hl 0 rfl) ?_
      refine lv_aload_n hx hb dX5_weightOf_7 rfl (lv_at hl 2 rfl) ?_
      refine r_get X kcX5 (ci := 5) rfl hP 0 rfl 2 (by decide) fX5_35 rfl dX5_weightOf_8 ?_
      refine lv_icmp_ge (tgt := 40) hx hb dX5_weightOf_11 (by decide) (fun h_6 => ?_) (fun h_6 => ?_)
      · have h_6 : u_sets.toInt ≤ i_3.toInt := c_le h_6
        refine lv_lload_n hx hb dX5_weightOf_40 rfl (lv_at hl 1 rfl) ?_
        exact eL hQ X hr hlocks hP hD hS () [0, 1] (by decide) rfl trivial (Nat.le_of_ble_eq_true rfl) (Nat.le_of_ble_eq_true rfl) dX5_weightOf_41
      · have h_6 : i_3.toInt < u_sets.toInt := c_nle h_6
        refine lv_iload hx hb dX5_weightOf_14 (lv_at hl 0 rfl) ?_
        refine lv_iload_n hx hb dX5_weightOf_16 rfl (lv_at hl 3 rfl) ?_
        refine lv_ishr hx hb dX5_weightOf_17 ?_
        refine lv_topi (fun x_7 ex_7 => ?_)
        refine lv_iconst (v := 1) hx hb dX5_weightOf_18 (by decide) ?_
        refine lv_iand hx hb dX5_weightOf_19 ?_
        have dy_8 := ti_bd x_7
        refine lv_topi (fun x_9 ex_9 => ?_)
        have tx_9 : x_9.toInt = 0 ∨ x_9.toInt = 1 := ti_and1 ex_9
        refine lv_iconst (v := 1) hx hb dX5_weightOf_20 (by decide) ?_
        refine lv_icmp_ne (tgt := 34) hx hb dX5_weightOf_21 (by decide) (fun h_10 => ?_) (fun h_10 => ?_)
        · have h_10 : x_9.toInt ≠ 1 := c_ne h_10
          obtain ⟨x_11, ex_11⟩ : ∃ y : Int32, y = i_3 + 1 := ⟨_, rfl⟩
          have tx_11 : x_11.toInt = i_3.toInt + 1 := ti_add (A := i_3.toInt) (B := 1) ex_11 rfl rfl (by omega) (by omega)
          refine lv_iinc (v := x_11) (lv' := [(4, .int x_11), (2, .long i_5), (0, .ref h0), (1, .int p1)]) hx hb dX5_weightOf_34 hl (k := 0) rfl (by rw [ex_11]; rfl) (by decide) rfl (fun ls hl => ?_)
          refine lv_goto (tgt := 5) hx hb dX5_weightOf_37 (by decide) ?_
          exact ihlp_2 x_11 i_5 _ _ _ (by omega) (show 33 - x_11.toInt ≤ (nlp_2 : Int) by omega) hP hD hS (lv_sub hl [0, 1, 2, 3] rfl)
        · have h_10 : x_9.toInt = 1 := c_eq h_10
          refine lv_lload_n hx hb dX5_weightOf_24 rfl (lv_at hl 1 rfl) ?_
          refine lv_aload_n hx hb dX5_weightOf_25 rfl (lv_at hl 2 rfl) ?_
          refine r_get X kcX5 (ci := 5) rfl hP 0 rfl 1 (by decide) fX5_15 rfl dX5_weightOf_26 ?_
          refine lv_iload hx hb dX5_weightOf_29 (lv_at hl 0 rfl) ?_
          refine va_lald (D := (dC, dI)) (cl := vwCl) hx hb hK hP 1 2 rfl rfl (i := i_3) (vin (by omega) (by omega)) dX5_weightOf_31 ?_
          refine lv_topl (fun x_12 ex_12 => ?_)
          refine lv_ladd hx hb dX5_weightOf_32 ?_
          refine lv_topl (fun x_13 ex_13 => ?_)
          refine lv_lstore_n (lv' := [(2, .long x_13), (4, .int i_3), (0, .ref h0), (1, .int p1)]) hx hb dX5_weightOf_33 rfl hl (by decide) rfl (fun ls hl => ?_)
          obtain ⟨x_14, ex_14⟩ : ∃ y : Int32, y = i_3 + 1 := ⟨_, rfl⟩
          have tx_14 : x_14.toInt = i_3.toInt + 1 := ti_add (A := i_3.toInt) (B := 1) ex_14 rfl rfl (by omega) (by omega)
          refine lv_iinc (v := x_14) (lv' := [(4, .int x_14), (2, .long x_13), (0, .ref h0), (1, .int p1)]) hx hb dX5_weightOf_34 hl (k := 1) rfl (by rw [ex_14]; rfl) (by decide) rfl (fun ls hl => ?_)
          refine lv_goto (tgt := 5) hx hb dX5_weightOf_37 (by decide) ?_
          exact ihlp_2 x_14 x_13 _ _ _ (by omega) (show 33 - x_14.toInt ≤ (nlp_2 : Int) by omega) hP hD hS (lv_sub hl [0, 1, 2, 3] rfl)
  exact lp_2 33 0 0 _ _ _ (by decide) (show 33 - 0 ≤ ((33 : Nat) : Int) by omega) hP hD hS hl
set_option maxHeartbeats 4000000 in
set_option maxRecDepth 100000 in
theorem sX5_weightOver (l : Launch) (dC : Nat → ClassId) (dI : Nat → Nat → Nat) (cy : Nat → ClassId) (h0 : Nat) (u_ditches : Nat) (u_weights : Nat) (u_sets : Int32) (u_ditchesf : Nat → Int32) (u_weightsf : Nat → Int64) (p1 : Int32) (hu_sets : 0 ≤ u_sets.toInt ∧ u_sets.toInt ≤ 32) : ctL l dC dI cy hp yX5_weightOver cX5_weightOver 5 ({ frames := 0, cells := 0, slots := 0, locals := 0 } : Room) [.ref h0, .int p1] [(h0, .inr (5, [.ref u_ditches, .ref u_weights, .int u_sets])), (u_ditches, .inl (cy 1, 32, .inl u_ditchesf)), (u_weights, .inl (cy 2, 32, .inr (.inl u_weightsf)))] (S := Unit) (fun r _ => True) (fun _ => [(h0, .inr (5, [.ref u_ditches, .ref u_weights, .int u_sets])), (u_ditches, .inl (cy 1, 32, .inl u_ditchesf)), (u_weights, .inl (cy 2, 32, .inr (.inl u_weightsf)))]) := by
  refine ctL.of (by decide +kernel) (Nat.le_of_ble_eq_true rfl) ?_
  intro p e s m args below meth c A ls Q hQ X hr hlocks hin hA hP hD hS hl
  have hx := X.1
  have hb := X.2.1
  have hK := X.2.2.2.2.2.1
  have hl : lv_has ls 5 [(0, .ref h0), (1, .int p1)] := hl
  have dy_1 := ti_bd p1
  refine lv_lconst (v := 0) hx hb dX5_weightOver_0 (by decide) ?_
  refine lv_lstore_n (lv' := [(2, .long 0), (0, .ref h0), (1, .int p1)]) hx hb dX5_weightOver_1 rfl hl (by decide) rfl (fun ls hl => ?_)
  refine lv_iconst (v := 0) hx hb dX5_weightOver_2 (by decide) ?_
  refine lv_istore (lv' := [(4, .int 0), (2, .long 0), (0, .ref h0), (1, .int p1)]) hx hb dX5_weightOver_3 hl (by decide) rfl (fun ls hl => ?_)
  have lp_2 : ∀ (nlp_2 : Nat) (i_3 : Int32) (i_5 : Int64) (H : Heap) (locs : List Loc) (ls : Array Slot), (0 ≤ i_3.toInt ∧ i_3.toInt ≤ 32) → (33 - i_3.toInt ≤ (nlp_2 : Int)) → va_P (dC, dI) vwCl [(h0, .inr (5, [.ref u_ditches, .ref u_weights, .int u_sets])), (u_ditches, .inl (cy 1, 32, .inl u_ditchesf)), (u_weights, .inl (cy 2, 32, .inr (.inl u_weightsf)))] H → va_D A [(h0, .inr (5, [.ref u_ditches, .ref u_weights, .int u_sets])), (u_ditches, .inl (cy 1, 32, .inl u_ditchesf)), (u_weights, .inl (cy 2, 32, .inr (.inl u_weightsf)))] → va_S A s.heap H locs → lv_has ls 5 [(4, .int i_3), (2, .long i_5), (0, .ref h0), (1, .int p1)] → W p l e ({ frames := 0, cells := 0, slots := 0, locals := 0 } : Room) s m args below meth c H locs 0 0 Q (F0 m 5 ls []) := by
    intro nlp_2
    induction nlp_2 with
    | zero =>
      intro i_3 i_5 H locs ls b_4 hmlp_2 hP hD hS hl
      exfalso
      have di_3 := ti_bd i_3
      omega
    | succ nlp_2 ihlp_2 =>
      intro i_3 i_5 H locs ls b_4 hmlp_2 hP hD hS hl
      refine lv_iload hx hb dX5_weightOver_5 (lv_at hl 0 rfl) ?_
      refine lv_aload_n hx hb dX5_weightOver_7 rfl (lv_at hl 2 rfl) ?_
      refine r_get X kcX5 (ci := 5) rfl hP 0 rfl 2 (by decide) fX5_35 rfl dX5_weightOver_8 ?_
      refine lv_icmp_ge (tgt := 42) hx hb dX5_weightOver_11 (by decide) (fun h_6 => ?_) (fun h_6 => ?_)
      · have h_6 : u_sets.toInt ≤ i_3.toInt := c_le h_6
        refine lv_lload_n hx hb dX5_weightOver_42 rfl (lv_at hl 1 rfl) ?_
        exact eL hQ X hr hlocks hP hD hS () [0, 1, 2] (by decide) rfl trivial (Nat.le_of_ble_eq_true rfl) (Nat.le_of_ble_eq_true rfl) dX5_weightOver_43
      · have h_6 : i_3.toInt < u_sets.toInt := c_nle h_6
        refine lv_aload_n hx hb dX5_weightOver_14 rfl (lv_at hl 2 rfl) ?_
        refine r_get X kcX5 (ci := 5) rfl hP 0 rfl 0 (by decide) fX5_11 rfl dX5_weightOver_15 ?_
        refine lv_iload hx hb dX5_weightOver_18 (lv_at hl 0 rfl) ?_
        refine va_iald (D := (dC, dI)) (cl := vwCl) hx hb hK hP 1 1 rfl rfl (i := i_3) (vin (by omega) (by omega)) dX5_weightOver_20 ?_
        refine lv_topi (fun x_7 ex_7 => ?_)
        refine lv_iload_n hx hb dX5_weightOver_21 rfl (lv_at hl 3 rfl) ?_
        refine lv_iand hx hb dX5_weightOver_22 ?_
        have dy_8 := ti_bd x_7
        refine lv_topi (fun x_9 ex_9 => ?_)
        refine lv_if_eq (tgt := 36) hx hb dX5_weightOver_23 (by decide) (fun h_10 => ?_) (fun h_10 => ?_)
        · have h_10 : x_9.toInt = 0 := c_eq h_10
          obtain ⟨x_11, ex_11⟩ : ∃ y : Int32, y = i_3 + 1 := ⟨_, rfl⟩
          have tx_11 : x_11.toInt = i_3.toInt + 1 := ti_add (A := i_3.toInt) (B := 1) ex_11 rfl rfl (by omega) (by omega)
          refine lv_iinc (v := x_11) (lv' := [(4, .int x_11), (2, .long i_5), (0, .ref h0), (1, .int p1)]) hx hb dX5_weightOver_36 hl (k := 0) rfl (by rw [ex_11]; rfl) (by decide) rfl (fun ls hl => ?_)
          refine lv_goto (tgt := 5) hx hb dX5_weightOver_39 (by decide) ?_
          exact ihlp_2 x_11 i_5 _ _ _ (by omega) (show 33 - x_11.toInt ≤ (nlp_2 : Int) by omega) hP hD hS (lv_sub hl [0, 1, 2, 3] rfl)
        · have h_10 : x_9.toInt ≠ 0 := c_ne h_10
          refine lv_lload_n hx hb dX5_weightOver_26 rfl (lv_at hl 1 rfl) ?_
          refine lv_aload_n hx hb dX5_weightOver_27 rfl (lv_at hl 2 rfl) ?_
          refine r_get X kcX5 (ci := 5) rfl hP 0 rfl 1 (by decide) fX5_15 rfl dX5_weightOver_28 ?_
          refine lv_iload hx hb dX5_weightOver_31 (lv_at hl 0 rfl) ?_
          refine va_lald (D := (dC, dI)) (cl := vwCl) hx hb hK hP 2 2 rfl rfl (i := i_3) (vin (by omega) (by omega)) dX5_weightOver_33 ?_
          refine lv_topl (fun x_12 ex_12 => ?_)
          refine lv_ladd hx hb dX5_weightOver_34 ?_
          refine lv_topl (fun x_13 ex_13 => ?_)
          refine lv_lstore_n (lv' := [(2, .long x_13), (4, .int i_3), (0, .ref h0), (1, .int p1)]) hx hb dX5_weightOver_35 rfl hl (by decide) rfl (fun ls hl => ?_)
          obtain ⟨x_14, ex_14⟩ : ∃ y : Int32, y = i_3 + 1 := ⟨_, rfl⟩
          have tx_14 : x_14.toInt = i_3.toInt + 1 := ti_add (A := i_3.toInt) (B := 1) ex_14 rfl rfl (by omega) (by omega)
          refine lv_iinc (v := x_14) (lv' := [(4, .int x_14), (2, .long x_13), (0, .ref h0), (1, .int p1)]) hx hb dX5_weightOver_36 hl (k := 1) rfl (by rw [ex_14]; rfl) (by decide) rfl (fun ls hl => ?_)
          refine lv_goto (tgt := 5) hx hb dX5_weightOver_39 (by decide) ?_
          exact ihlp_2 x_14 x_13 _ _ _ (by omega) (show 33 - x_14.toInt ≤ (nlp_2 : Int) by omega) hP hD hS (lv_sub hl [0, 1, 2, 3] rfl)
  exact lp_2 33 0 0 _ _ _ (by decide) (show 33 - 0 ≤ ((33 : Nat) : Int) by omega) hP hD hS hl
set_option maxHeartbeats 4000000 in
set_option maxRecDepth 100000 in
theorem sX5_leftAtMost (l : Launch) (dC : Nat → ClassId) (dI : Nat → Nat → Nat) (cy : Nat → ClassId) (h0 : Nat) (u_ditches : Nat) (u_weights : Nat) (u_sets : Int32) (u_weightsf : Nat → Int64) (p1 : Int32) (hu_sets : 0 ≤ u_sets.toInt ∧ u_sets.toInt ≤ 32) : ctI l dC dI cy hp yX5_leftAtMost cX5_leftAtMost 4 .int ({ frames := 1, cells := 0, slots := 0, locals := 22 } : Room) [.ref h0, .int p1] [(h0, .inr (5, [.ref u_ditches, .ref u_weights, .int u_sets])), (u_weights, .inl (cy 2, 32, .inr (.inl u_weightsf)))] (S := Unit) (fun r _ => True) (fun _ => [(h0, .inr (5, [.ref u_ditches, .ref u_weights, .int u_sets])), (u_weights, .inl (cy 2, 32, .inr (.inl u_weightsf)))]) := by
  refine ctI.of (by decide +kernel) (Nat.le_of_ble_eq_true rfl) ?_
  intro p e s m args below meth c A ls Q hQ X hr hlocks hin hA hP hD hS hl
  have hx := X.1
  have hb := X.2.1
  have hK := X.2.2.2.2.2.1
  have hl : lv_has ls 4 [(0, .ref h0), (1, .int p1)] := hl
  have dy_1 := ti_bd p1
  refine lv_iconst (v := 0) hx hb dX5_leftAtMost_0 (by decide) ?_
  refine lv_istore_n (lv' := [(2, .int 0), (0, .ref h0), (1, .int p1)]) hx hb dX5_leftAtMost_1 rfl hl (by decide) rfl (fun ls hl => ?_)
  refine lv_iconst (v := 0) hx hb dX5_leftAtMost_2 (by decide) ?_
  refine lv_istore_n (lv' := [(3, .int 0), (2, .int 0), (0, .ref h0), (1, .int p1)]) hx hb dX5_leftAtMost_3 rfl hl (by decide) rfl (fun ls hl => ?_)
  have lp_2 : ∀ (nlp_2 : Nat) (i_3 : Int32) (i_5 : Int32) (H : Heap) (locs : List Loc) (ls : Array Slot), (0 ≤ i_3.toInt ∧ i_3.toInt ≤ 32) → (0 ≤ i_5.toInt ∧ i_5.toInt ≤ 32) → (i_5.toInt ≤ i_3.toInt) → (33 - i_3.toInt ≤ (nlp_2 : Int)) → va_P (dC, dI) vwCl [(h0, .inr (5, [.ref u_ditches, .ref u_weights, .int u_sets])), (u_weights, .inl (cy 2, 32, .inr (.inl u_weightsf)))] H → va_D A [(h0, .inr (5, [.ref u_ditches, .ref u_weights, .int u_sets])), (u_weights, .inl (cy 2, 32, .inr (.inl u_weightsf)))] → va_S A s.heap H locs → lv_has ls 4 [(3, .int i_3), (2, .int i_5), (0, .ref h0), (1, .int p1)] → W p l e ({ frames := 1, cells := 0, slots := 0, locals := 22 } : Room) s m args below meth c H locs 0 0 Q (F0 m 4 ls []) := by
    intro nlp_2
    induction nlp_2 with
    | zero =>
      intro i_3 i_5 H locs ls b_4 b_6 b_7 hmlp_2 hP hD hS hl
      exfalso
      have di_3 := ti_bd i_3
      have di_5 := ti_bd i_5
      omega
    | succ nlp_2 ihlp_2 =>
      intro i_3 i_5 H locs ls b_4 b_6 b_7 hmlp_2 hP hD hS hl
      refine lv_iload_n hx hb dX5_leftAtMost_4 rfl (lv_at hl 0 rfl) ?_
      refine lv_aload_n hx hb dX5_leftAtMost_5 rfl (lv_at hl 2 rfl) ?_
      refine r_get X kcX5 (ci := 5) rfl hP 0 rfl 2 (by decide) fX5_35 rfl dX5_leftAtMost_6 ?_
      refine lv_icmp_ge (tgt := 41) hx hb dX5_leftAtMost_9 (by decide) (fun h_8 => ?_) (fun h_8 => ?_)
      · have h_8 : u_sets.toInt ≤ i_3.toInt := c_le h_8
        refine lv_iload_n hx hb dX5_leftAtMost_41 rfl (lv_at hl 1 rfl) ?_
        refine lv_aload_n hx hb dX5_leftAtMost_42 rfl (lv_at hl 2 rfl) ?_
        refine fI (wr := []) (rV_I (wc := [(h0, .inr (5, [.ref u_ditches, .ref u_weights, .int u_sets])), (u_weights, .inl (cy 2, 32, .inr (.inl u_weightsf)))]) (As := []) (rest := [.int i_5]) X hp_st (fun _ _ _ h => h) (sX5_count l dC dI cy h0 u_ditches u_weights u_sets u_weightsf hu_sets) kX5_count vX5_count mX5_51 hP hD hS hA [0, 1] (by decide) rfl 0 (ci := 5) rfl rfl rfl hl rfl rfl (Nat.le_of_ble_eq_true rfl) dX5_leftAtMost_43 ⟨(Nat.le_of_ble_eq_true rfl), (Nat.le_of_ble_eq_true rfl)⟩ ⟨(Nat.le_of_ble_eq_true rfl), (Nat.le_of_ble_eq_true rfl)⟩) hP hD hS hA [0, 1] [] rfl rfl (by decide) (by decide) (fun r_9 u_11 H locs k_10 hP hD hS => ?_)
        have k_10 : (0 ≤ r_9.toInt ∧ r_9.toInt ≤ 32) := k_10
        have hP : va_P (dC, dI) vwCl [(h0, .inr (5, [.ref u_ditches, .ref u_weights, .int u_sets])), (u_weights, .inl (cy 2, 32, .inr (.inl u_weightsf)))] H := hP
        have hD : va_D A [(h0, .inr (5, [.ref u_ditches, .ref u_weights, .int u_sets])), (u_weights, .inl (cy 2, 32, .inr (.inl u_weightsf)))] := hD
        refine lv_iload_n hx hb dX5_leftAtMost_46 rfl (lv_at hl 1 rfl) ?_
        refine lv_isub hx hb dX5_leftAtMost_47 ?_
        refine lv_topi (fun x_12 ex_12 => ?_)
        have tx_12 : x_12.toInt = r_9.toInt - i_5.toInt := ti_sub (A := r_9.toInt) (B := i_5.toInt) ex_12 rfl rfl (by omega) (by omega)
        refine va_mmax hx hb (X.2.2.1.trans hl.1.symm) X.2.2.2.1 (X.2.2.2.2.1 _ w_1122) (X.2.2.2.2.1 _ w_546) (X.2.2.2.2.1 _ w_113) (X.2.2.2.2.1 _ w_547) (Nat.le_of_ble_eq_true rfl) (Nat.le_of_ble_eq_true rfl) (Nat.le_of_ble_eq_true rfl) (Nat.le_of_ble_eq_true rfl) dX5_leftAtMost_48 ?_
        refine lv_topi (fun x_13 ex_13 => ?_)
        have tx_13 := ti_max ex_13
        exact eI hQ X hr hlocks hP hD hS () [0, 1] (by decide) rfl rfl trivial (Nat.le_of_ble_eq_true rfl) (Nat.le_of_ble_eq_true rfl) dX5_leftAtMost_51
      · have h_8 : i_3.toInt < u_sets.toInt := c_nle h_8
        refine lv_aload_n hx hb dX5_leftAtMost_12 rfl (lv_at hl 2 rfl) ?_
        refine r_get X kcX5 (ci := 5) rfl hP 0 rfl 1 (by decide) fX5_15 rfl dX5_leftAtMost_13 ?_
        refine lv_iload_n hx hb dX5_leftAtMost_16 rfl (lv_at hl 0 rfl) ?_
        refine va_lald (D := (dC, dI)) (cl := vwCl) hx hb hK hP 1 2 rfl rfl (i := i_3) (vin (by omega) (by omega)) dX5_leftAtMost_17 ?_
        refine lv_topl (fun x_14 ex_14 => ?_)
        refine lv_lconst (v := 0) hx hb dX5_leftAtMost_18 (by decide) ?_
        refine W.lcmp hx hb dX5_leftAtMost_19 ?_
        refine lv_topi (fun x_15 ex_15 => ?_)
        refine lv_if_le (tgt := 35) hx hb dX5_leftAtMost_20 (by decide) (fun h_16 => ?_) (fun h_16 => ?_)
        · have h_16 : x_15.toInt ≤ 0 := c_le h_16
          obtain ⟨x_17, ex_17⟩ : ∃ y : Int32, y = i_3 + 1 := ⟨_, rfl⟩
          have tx_17 : x_17.toInt = i_3.toInt + 1 := ti_add (A := i_3.toInt) (B := 1) ex_17 rfl rfl (by omega) (by omega)
          refine lv_iinc (v := x_17) (lv' := [(3, .int x_17), (2, .int i_5), (0, .ref h0), (1, .int p1)]) hx hb dX5_leftAtMost_35 hl (k := 0) rfl (by rw [ex_17]; rfl) (by decide) rfl (fun ls hl => ?_)
          refine lv_goto (tgt := 4) hx hb dX5_leftAtMost_38 (by decide) ?_
          exact ihlp_2 x_17 i_5 _ _ _ (by omega) (by omega) (show i_5.toInt ≤ x_17.toInt by omega) (show 33 - x_17.toInt ≤ (nlp_2 : Int) by omega) hP hD hS (lv_sub hl [0, 1, 2, 3] rfl)
        · have h_16 : 0 < x_15.toInt := c_nle h_16
          refine lv_iload_n hx hb dX5_leftAtMost_23 rfl (lv_at hl 0 rfl) ?_
          refine lv_iload_n hx hb dX5_leftAtMost_24 rfl (lv_at hl 3 rfl) ?_
          refine lv_ishr hx hb dX5_leftAtMost_25 ?_
          refine lv_topi (fun x_18 ex_18 => ?_)
          refine lv_iconst (v := 1) hx hb dX5_leftAtMost_26 (by decide) ?_
          refine lv_iand hx hb dX5_leftAtMost_27 ?_
          have dy_19 := ti_bd x_18
          refine lv_topi (fun x_20 ex_20 => ?_)
          have tx_20 : x_20.toInt = 0 ∨ x_20.toInt = 1 := ti_and1 ex_20
          refine lv_iconst (v := 1) hx hb dX5_leftAtMost_28 (by decide) ?_
          refine lv_icmp_ne (tgt := 35) hx hb dX5_leftAtMost_29 (by decide) (fun h_21 => ?_) (fun h_21 => ?_)
          · have h_21 : x_20.toInt ≠ 1 := c_ne h_21
            obtain ⟨x_22, ex_22⟩ : ∃ y : Int32, y = i_3 + 1 := ⟨_, rfl⟩
            have tx_22 : x_22.toInt = i_3.toInt + 1 := ti_add (A := i_3.toInt) (B := 1) ex_22 rfl rfl (by omega) (by omega)
            refine lv_iinc (v := x_22) (lv' := [(3, .int x_22), (2, .int i_5), (0, .ref h0), (1, .int p1)]) hx hb dX5_leftAtMost_35 hl (k := 0) rfl (by rw [ex_22]; rfl) (by decide) rfl (fun ls hl => ?_)
            refine lv_goto (tgt := 4) hx hb dX5_leftAtMost_38 (by decide) ?_
            exact ihlp_2 x_22 i_5 _ _ _ (by omega) (by omega) (show i_5.toInt ≤ x_22.toInt by omega) (show 33 - x_22.toInt ≤ (nlp_2 : Int) by omega) hP hD hS (lv_sub hl [0, 1, 2, 3] rfl)
          · have h_21 : x_20.toInt = 1 := c_eq h_21
            obtain ⟨x_23, ex_23⟩ : ∃ y : Int32, y = i_5 + 1 := ⟨_, rfl⟩
            have tx_23 : x_23.toInt = i_5.toInt + 1 := ti_add (A := i_5.toInt) (B := 1) ex_23 rfl rfl (by omega) (by omega)
            refine lv_iinc (v := x_23) (lv' := [(2, .int x_23), (3, .int i_3), (0, .ref h0), (1, .int p1)]) hx hb dX5_leftAtMost_32 hl (k := 1) rfl (by rw [ex_23]; rfl) (by decide) rfl (fun ls hl => ?_)
            obtain ⟨x_24, ex_24⟩ : ∃ y : Int32, y = i_3 + 1 := ⟨_, rfl⟩
            have tx_24 : x_24.toInt = i_3.toInt + 1 := ti_add (A := i_3.toInt) (B := 1) ex_24 rfl rfl (by omega) (by omega)
            refine lv_iinc (v := x_24) (lv' := [(3, .int x_24), (2, .int x_23), (0, .ref h0), (1, .int p1)]) hx hb dX5_leftAtMost_35 hl (k := 1) rfl (by rw [ex_24]; rfl) (by decide) rfl (fun ls hl => ?_)
            refine lv_goto (tgt := 4) hx hb dX5_leftAtMost_38 (by decide) ?_
            exact ihlp_2 x_24 x_23 _ _ _ (by omega) (by omega) (show x_23.toInt ≤ x_24.toInt by omega) (show 33 - x_24.toInt ≤ (nlp_2 : Int) by omega) hP hD hS (lv_sub hl [0, 1, 2, 3] rfl)
  exact lp_2 33 0 0 _ _ _ (by decide) (by decide) (show 0 ≤ 0 by omega) (show 33 - 0 ≤ ((33 : Nat) : Int) by omega) hP hD hS hl
set_option maxHeartbeats 4000000 in
set_option maxRecDepth 100000 in
theorem sX5_best (l : Launch) (dC : Nat → ClassId) (dI : Nat → Nat → Nat) (cy : Nat → ClassId) (h0 : Nat) (u_ditches : Nat) (u_weights : Nat) (u_sets : Int32) (u_weightsf : Nat → Int64) (p1 : Int32) (hu_sets : 0 ≤ u_sets.toInt ∧ u_sets.toInt ≤ 32) (hp1 : 0 ≤ p1.toInt ∧ p1.toInt ≤ 5) : ctI l dC dI cy hp yX5_best cX5_best 6 .int ({ frames := 2, cells := 0, slots := 0, locals := 45 } : Room) [.ref h0, .int p1] [(h0, .inr (5, [.ref u_ditches, .ref u_weights, .int u_sets])), (u_weights, .inl (cy 2, 32, .inr (.inl u_weightsf)))] (S := Unit) (fun r _ => True) (fun _ => [(h0, .inr (5, [.ref u_ditches, .ref u_weights, .int u_sets])), (u_weights, .inl (cy 2, 32, .inr (.inl u_weightsf)))]) := by
  refine ctI.of (by decide +kernel) (Nat.le_of_ble_eq_true rfl) ?_
  intro p e s m args below meth c A ls Q hQ X hr hlocks hin hA hP hD hS hl
  have hx := X.1
  have hb := X.2.1
  have hK := X.2.2.2.2.2.1
  have hl : lv_has ls 6 [(0, .ref h0), (1, .int p1)] := hl
  refine lv_aload_n hx hb dX5_best_0 rfl (lv_at hl 0 rfl) ?_
  refine fI (wr := []) (rV_I (wc := [(h0, .inr (5, [.ref u_ditches, .ref u_weights, .int u_sets])), (u_weights, .inl (cy 2, 32, .inr (.inl u_weightsf)))]) (As := []) (rest := []) X hp_st (fun _ _ _ h => h) (sX5_count l dC dI cy h0 u_ditches u_weights u_sets u_weightsf hu_sets) kX5_count vX5_count mX5_51 hP hD hS hA [0, 1] (by decide) rfl 0 (ci := 5) rfl rfl rfl hl rfl rfl (Nat.le_of_ble_eq_true rfl) dX5_best_1 ⟨(Nat.le_of_ble_eq_true rfl), (Nat.le_of_ble_eq_true rfl)⟩ ⟨(Nat.le_of_ble_eq_true rfl), (Nat.le_of_ble_eq_true rfl)⟩) hP hD hS hA [0, 1] [] rfl rfl (by decide) (by decide) (fun r_1 u_3 H locs k_2 hP hD hS => ?_)
  have k_2 : (0 ≤ r_1.toInt ∧ r_1.toInt ≤ 32) := k_2
  have hP : va_P (dC, dI) vwCl [(h0, .inr (5, [.ref u_ditches, .ref u_weights, .int u_sets])), (u_weights, .inl (cy 2, 32, .inr (.inl u_weightsf)))] H := hP
  have hD : va_D A [(h0, .inr (5, [.ref u_ditches, .ref u_weights, .int u_sets])), (u_weights, .inl (cy 2, 32, .inr (.inl u_weightsf)))] := hD
  refine lv_if_ne (tgt := 10) hx hb dX5_best_4 (by decide) (fun h_4 => ?_) (fun h_4 => ?_)
  · have h_4 : r_1.toInt ≠ 0 := c_ne h_4
    refine lv_bipush (v := -2) hx hb dX5_best_10 (by decide) ?_
    refine lv_istore_n (lv' := [(2, .int (-2)), (0, .ref h0), (1, .int p1)]) hx hb dX5_best_12 rfl hl (by decide) rfl (fun ls hl => ?_)
    refine lv_bipush (v := 33) hx hb dX5_best_13 (by decide) ?_
    refine lv_istore_n (lv' := [(3, .int 33), (2, .int (-2)), (0, .ref h0), (1, .int p1)]) hx hb dX5_best_15 rfl hl (by decide) rfl (fun ls hl => ?_)
    refine lv_iconst (v := 0) hx hb dX5_best_16 (by decide) ?_
    refine lv_istore (lv' := [(4, .int 0), (3, .int 33), (2, .int (-2)), (0, .ref h0), (1, .int p1)]) hx hb dX5_best_17 hl (by decide) rfl (fun ls hl => ?_)
    have lp_5 : ∀ (nlp_5 : Nat) (i_6 : Int32) (i_8 : Int32) (i_9 : Int32) (H : Heap) (locs : List Loc) (ls : Array Slot), (0 ≤ i_6.toInt ∧ i_6.toInt ≤ 5) → (6 - i_6.toInt ≤ (nlp_5 : Int)) → va_P (dC, dI) vwCl [(h0, .inr (5, [.ref u_ditches, .ref u_weights, .int u_sets])), (u_weights, .inl (cy 2, 32, .inr (.inl u_weightsf)))] H → va_D A [(h0, .inr (5, [.ref u_ditches, .ref u_weights, .int u_sets])), (u_weights, .inl (cy 2, 32, .inr (.inl u_weightsf)))] → va_S A s.heap H locs → lv_has ls 6 [(4, .int i_6), (3, .int i_8), (2, .int i_9), (0, .ref h0), (1, .int p1)] → W p l e ({ frames := 2, cells := 0, slots := 0, locals := 45 } : Room) s m args below meth c H locs 0 0 Q (F0 m 19 ls []) := by
      intro nlp_5
      induction nlp_5 with
      | zero =>
        intro i_6 i_8 i_9 H locs ls b_7 hmlp_5 hP hD hS hl
        exfalso
        have di_6 := ti_bd i_6
        have di_8 := ti_bd i_8
        have di_9 := ti_bd i_9
        omega
      | succ nlp_5 ihlp_5 =>
        intro i_6 i_8 i_9 H locs ls b_7 hmlp_5 hP hD hS hl
        refine lv_iload hx hb dX5_best_19 (lv_at hl 0 rfl) ?_
        refine lv_iload_n hx hb dX5_best_21 rfl (lv_at hl 4 rfl) ?_
        refine lv_icmp_ge (tgt := 51) hx hb dX5_best_22 (by decide) (fun h_10 => ?_) (fun h_10 => ?_)
        · have h_10 : p1.toInt ≤ i_6.toInt := c_le h_10
          refine lv_iload_n hx hb dX5_best_51 rfl (lv_at hl 2 rfl) ?_
          exact eI hQ X hr hlocks hP hD hS () [0, 1] (by decide) rfl rfl trivial (Nat.le_of_ble_eq_true rfl) (Nat.le_of_ble_eq_true rfl) dX5_best_52
        · have h_10 : i_6.toInt < p1.toInt := c_nle h_10
          refine lv_aload_n hx hb dX5_best_25 rfl (lv_at hl 3 rfl) ?_
          refine lv_iload hx hb dX5_best_26 (lv_at hl 0 rfl) ?_
          refine fI (wr := []) (rV_I (wc := [(h0, .inr (5, [.ref u_ditches, .ref u_weights, .int u_sets])), (u_weights, .inl (cy 2, 32, .inr (.inl u_weightsf)))]) (As := [.int i_6]) (rest := []) X hp_st (fun _ _ _ h => h) (sX5_leftAtMost l dC dI cy h0 u_ditches u_weights u_sets u_weightsf i_6 hu_sets) kX5_leftAtMost vX5_leftAtMost mX5_61 hP hD hS hA [0, 1] (by decide) rfl 0 (ci := 5) rfl rfl rfl hl rfl rfl (Nat.le_of_ble_eq_true rfl) dX5_best_28 ⟨(Nat.le_of_ble_eq_true rfl), (Nat.le_of_ble_eq_true rfl)⟩ ⟨(Nat.le_of_ble_eq_true rfl), (Nat.le_of_ble_eq_true rfl)⟩) hP hD hS hA [0, 1] [] rfl rfl (by decide) (by decide) (fun r_11 u_13 H locs k_12 hP hD hS => ?_)
          have hP : va_P (dC, dI) vwCl [(h0, .inr (5, [.ref u_ditches, .ref u_weights, .int u_sets])), (u_weights, .inl (cy 2, 32, .inr (.inl u_weightsf)))] H := hP
          have hD : va_D A [(h0, .inr (5, [.ref u_ditches, .ref u_weights, .int u_sets])), (u_weights, .inl (cy 2, 32, .inr (.inl u_weightsf)))] := hD
          refine lv_istore (lv' := [(5, .int r_11), (4, .int i_6), (3, .int i_8), (2, .int i_9), (0, .ref h0), (1, .int p1)]) hx hb dX5_best_31 hl (by decide) rfl (fun ls hl => ?_)
          refine lv_iload hx hb dX5_best_33 (lv_at hl 0 rfl) ?_
          refine lv_iload_n hx hb dX5_best_35 rfl (lv_at hl 2 rfl) ?_
          refine lv_icmp_ge (tgt := 45) hx hb dX5_best_36 (by decide) (fun h_14 => ?_) (fun h_14 => ?_)
          · have h_14 : i_8.toInt ≤ r_11.toInt := c_le h_14
            obtain ⟨x_15, ex_15⟩ : ∃ y : Int32, y = i_6 + 1 := ⟨_, rfl⟩
            have tx_15 : x_15.toInt = i_6.toInt + 1 := ti_add (A := i_6.toInt) (B := 1) ex_15 rfl rfl (by omega) (by omega)
            refine lv_iinc (v := x_15) (lv' := [(4, .int x_15), (5, .int r_11), (3, .int i_8), (2, .int i_9), (0, .ref h0), (1, .int p1)]) hx hb dX5_best_45 hl (k := 1) rfl (by rw [ex_15]; rfl) (by decide) rfl (fun ls hl => ?_)
            refine lv_goto (tgt := 19) hx hb dX5_best_48 (by decide) ?_
            exact ihlp_5 x_15 i_8 i_9 _ _ _ (by omega) (show 6 - x_15.toInt ≤ (nlp_5 : Int) by omega) hP hD hS (lv_sub hl [0, 2, 3, 4, 5] rfl)
          · have h_14 : r_11.toInt < i_8.toInt := c_nle h_14
            refine lv_iload hx hb dX5_best_39 (lv_at hl 0 rfl) ?_
            refine lv_istore_n (lv' := [(3, .int r_11), (5, .int r_11), (4, .int i_6), (2, .int i_9), (0, .ref h0), (1, .int p1)]) hx hb dX5_best_41 rfl hl (by decide) rfl (fun ls hl => ?_)
            refine lv_iload hx hb dX5_best_42 (lv_at hl 2 rfl) ?_
            refine lv_istore_n (lv' := [(2, .int i_6), (3, .int r_11), (5, .int r_11), (4, .int i_6), (0, .ref h0), (1, .int p1)]) hx hb dX5_best_44 rfl hl (by decide) rfl (fun ls hl => ?_)
            obtain ⟨x_16, ex_16⟩ : ∃ y : Int32, y = i_6 + 1 := ⟨_, rfl⟩
            have tx_16 : x_16.toInt = i_6.toInt + 1 := ti_add (A := i_6.toInt) (B := 1) ex_16 rfl rfl (by omega) (by omega)
            refine lv_iinc (v := x_16) (lv' := [(4, .int x_16), (2, .int i_6), (3, .int r_11), (5, .int r_11), (0, .ref h0), (1, .int p1)]) hx hb dX5_best_45 hl (k := 3) rfl (by rw [ex_16]; rfl) (by decide) rfl (fun ls hl => ?_)
            refine lv_goto (tgt := 19) hx hb dX5_best_48 (by decide) ?_
            exact ihlp_5 x_16 r_11 i_6 _ _ _ (by omega) (show 6 - x_16.toInt ≤ (nlp_5 : Int) by omega) hP hD hS (lv_sub hl [0, 2, 1, 4, 5] rfl)
    exact lp_5 6 0 33 (-2) _ _ _ (by decide) (show 6 - 0 ≤ ((6 : Nat) : Int) by omega) hP hD hS hl
  · have h_4 : r_1.toInt = 0 := c_eq h_4
    refine lv_bipush (v := -2) hx hb dX5_best_7 (by decide) ?_
    exact eI hQ X hr hlocks hP hD hS () [0, 1] (by decide) rfl rfl trivial (Nat.le_of_ble_eq_true rfl) (Nat.le_of_ble_eq_true rfl) dX5_best_9
set_option maxHeartbeats 4000000 in
set_option maxRecDepth 100000 in
theorem sX5_learn (l : Launch) (dC : Nat → ClassId) (dI : Nat → Nat → Nat) (cy : Nat → ClassId) (h0 : Nat) (u_ditches : Nat) (u_weights : Nat) (u_sets : Int32) (u_ditchesf : Nat → Int32) (u_weightsf : Nat → Int64) (h1 : Nat) (k_ground : Nat) (k_errs : Int32) (k_slips : Int32) (k_rows : Int32) (k_unsureCount : Int32) (k_unsure : Nat) (k_walkers : Int32) (k_names : Nat) (k_kinds : Nat) (k_starts : Nat) (k_goals : Nat) (k_walks : Int32) (k_walkStarts : Nat) (k_walkSteps : Nat) (k_walkFell : Nat) (k_ground_wide : Int32) (k_ground_deep : Int32) (k_ground_count : Int32) (k_ground_sorts : Nat) (k_ground_sortsf : Nat → Int32) (k_unsuref : Nat → Int32) (k_walkStartsf : Nat → Int32) (k_walkStepsf : Nat → Int32) (k_walkFellf : Nat → Int32) (hu_sets : 0 ≤ u_sets.toInt ∧ u_sets.toInt ≤ 32) (hk_rows : 0 ≤ k_rows.toInt ∧ k_rows.toInt ≤ 4) (hk_unsureCount : 0 ≤ k_unsureCount.toInt ∧ k_unsureCount.toInt ≤ 5) (hk_walkers : 0 ≤ k_walkers.toInt ∧ k_walkers.toInt ≤ 4) (hk_walks : 0 ≤ k_walks.toInt ∧ k_walks.toInt ≤ 6) (hk_ground_wide : 0 ≤ k_ground_wide.toInt ∧ k_ground_wide.toInt ≤ 5) (hk_ground_deep : 0 ≤ k_ground_deep.toInt ∧ k_ground_deep.toInt ≤ 4) (hk_ground_count : 0 ≤ k_ground_count.toInt ∧ k_ground_count.toInt ≤ 20) (hk_walkStepsf : rb k_walkStepsf 6 (-2147483648) 3) : ctV l dC dI cy hp yX5_learn cX5_learn 7 ({ frames := 2, cells := 0, slots := 0, locals := 47 } : Room) [.ref h0, .ref h1] [(h0, .inr (5, [.ref u_ditches, .ref u_weights, .int u_sets])), (u_ditches, .inl (cy 1, 32, .inl u_ditchesf)), (u_weights, .inl (cy 2, 32, .inr (.inl u_weightsf))), (h1, .inr (7, [.ref k_ground, .int k_errs, .int k_slips, .int k_rows, .int k_unsureCount, .ref k_unsure, .int k_walkers, .ref k_names, .ref k_kinds, .ref k_starts, .ref k_goals, .int k_walks, .ref k_walkStarts, .ref k_walkSteps, .ref k_walkFell])), (k_ground, .inr (4, [.int k_ground_wide, .int k_ground_deep, .int k_ground_count, .ref k_ground_sorts])), (k_ground_sorts, .inl (cy 1, 20, .inl k_ground_sortsf)), (k_unsure, .inl (cy 1, 5, .inl k_unsuref)), (k_walkStarts, .inl (cy 1, 6, .inl k_walkStartsf)), (k_walkSteps, .inl (cy 1, 6, .inl k_walkStepsf)), (k_walkFell, .inl (cy 3, 6, .inl k_walkFellf))] (S := (Nat → Int32) × (Nat → Int64) × Int32) (fun u => (0 ≤ u.2.2.toInt ∧ u.2.2.toInt ≤ 32)) (fun u => [(h0, .inr (5, [.ref u_ditches, .ref u_weights, .int u.2.2])), (u_ditches, .inl (cy 1, 32, .inl u.1)), (u_weights, .inl (cy 2, 32, .inr (.inl u.2.1))), (h1, .inr (7, [.ref k_ground, .int k_errs, .int k_slips, .int k_rows, .int k_unsureCount, .ref k_unsure, .int k_walkers, .ref k_names, .ref k_kinds, .ref k_starts, .ref k_goals, .int k_walks, .ref k_walkStarts, .ref k_walkSteps, .ref k_walkFell])), (k_ground, .inr (4, [.int k_ground_wide, .int k_ground_deep, .int k_ground_count, .ref k_ground_sorts])), (k_ground_sorts, .inl (cy 1, 20, .inl k_ground_sortsf)), (k_unsure, .inl (cy 1, 5, .inl k_unsuref)), (k_walkStarts, .inl (cy 1, 6, .inl k_walkStartsf)), (k_walkSteps, .inl (cy 1, 6, .inl k_walkStepsf)), (k_walkFell, .inl (cy 3, 6, .inl k_walkFellf))]) := by
  refine ctV.of (by decide +kernel) (Nat.le_of_ble_eq_true rfl) ?_
  intro p e s m args below meth c A ls Q hQ X hr hlocks hin hA hP hD hS hl
  have hx := X.1
  have hb := X.2.1
  have hK := X.2.2.2.2.2.1
  have hl : lv_has ls 7 [(0, .ref h0), (1, .ref h1)] := hl
  refine lv_aload_n hx hb dX5_learn_0 rfl (lv_at hl 1 rfl) ?_
  refine r_get X kcX7 (ci := 7) rfl hP 3 rfl 0 (by decide) fX5_19 rfl dX5_learn_1 ?_
  refine lv_iconst (v := 1) hx hb dX5_learn_4 (by decide) ?_
  refine fI (wr := [(h0, .inr (5, [.ref u_ditches, .ref u_weights, .int u_sets])), (u_ditches, .inl (cy 1, 32, .inl u_ditchesf)), (u_weights, .inl (cy 2, 32, .inr (.inl u_weightsf))), (h1, .inr (7, [.ref k_ground, .int k_errs, .int k_slips, .int k_rows, .int k_unsureCount, .ref k_unsure, .int k_walkers, .ref k_names, .ref k_kinds, .ref k_starts, .ref k_goals, .int k_walks, .ref k_walkStarts, .ref k_walkSteps, .ref k_walkFell])), (k_unsure, .inl (cy 1, 5, .inl k_unsuref)), (k_walkStarts, .inl (cy 1, 6, .inl k_walkStartsf)), (k_walkSteps, .inl (cy 1, 6, .inl k_walkStepsf)), (k_walkFell, .inl (cy 3, 6, .inl k_walkFellf))]) (rV_I (wc := [(k_ground, .inr (4, [.int k_ground_wide, .int k_ground_deep, .int k_ground_count, .ref k_ground_sorts])), (k_ground_sorts, .inl (cy 1, 20, .inl k_ground_sortsf))]) (As := [.int 1]) (rest := []) X hp_st (fun _ _ _ h => h) (sX4_bitsOf l dC dI cy k_ground k_ground_wide k_ground_deep k_ground_count k_ground_sorts k_ground_sortsf 1 hk_ground_wide hk_ground_deep hk_ground_count) kX4_bitsOf vX4_bitsOf mX5_25 hP hD hS hA [4, 5] (by decide) rfl 0 (ci := 4) rfl rfl rfl hl rfl rfl (Nat.le_of_ble_eq_true rfl) dX5_learn_5 ⟨(Nat.le_of_ble_eq_true rfl), (Nat.le_of_ble_eq_true rfl)⟩ ⟨(Nat.le_of_ble_eq_true rfl), (Nat.le_of_ble_eq_true rfl)⟩) hP hD hS hA [4, 5] [0, 1, 2, 3, 6, 7, 8, 9] rfl rfl (by decide) (by decide) (fun r_1 u_3 H locs k_2 hP hD hS => ?_)
  have k_2 : (0 ≤ k_ground_count.toInt → r_1 = boZ k_ground_sortsf (1 : Int32).toInt k_ground_count.toInt.toNat) := k_2
  have kc_4 : (1 : Int32).toInt = 1 := by decide
  have hP : va_P (dC, dI) vwCl [(h0, .inr (5, [.ref u_ditches, .ref u_weights, .int u_sets])), (u_ditches, .inl (cy 1, 32, .inl u_ditchesf)), (u_weights, .inl (cy 2, 32, .inr (.inl u_weightsf))), (h1, .inr (7, [.ref k_ground, .int k_errs, .int k_slips, .int k_rows, .int k_unsureCount, .ref k_unsure, .int k_walkers, .ref k_names, .ref k_kinds, .ref k_starts, .ref k_goals, .int k_walks, .ref k_walkStarts, .ref k_walkSteps, .ref k_walkFell])), (k_unsure, .inl (cy 1, 5, .inl k_unsuref)), (k_walkStarts, .inl (cy 1, 6, .inl k_walkStartsf)), (k_walkSteps, .inl (cy 1, 6, .inl k_walkStepsf)), (k_walkFell, .inl (cy 3, 6, .inl k_walkFellf)), (k_ground, .inr (4, [.int k_ground_wide, .int k_ground_deep, .int k_ground_count, .ref k_ground_sorts])), (k_ground_sorts, .inl (cy 1, 20, .inl k_ground_sortsf))] H := hP
  have hD : va_D A [(h0, .inr (5, [.ref u_ditches, .ref u_weights, .int u_sets])), (u_ditches, .inl (cy 1, 32, .inl u_ditchesf)), (u_weights, .inl (cy 2, 32, .inr (.inl u_weightsf))), (h1, .inr (7, [.ref k_ground, .int k_errs, .int k_slips, .int k_rows, .int k_unsureCount, .ref k_unsure, .int k_walkers, .ref k_names, .ref k_kinds, .ref k_starts, .ref k_goals, .int k_walks, .ref k_walkStarts, .ref k_walkSteps, .ref k_walkFell])), (k_unsure, .inl (cy 1, 5, .inl k_unsuref)), (k_walkStarts, .inl (cy 1, 6, .inl k_walkStartsf)), (k_walkSteps, .inl (cy 1, 6, .inl k_walkStepsf)), (k_walkFell, .inl (cy 3, 6, .inl k_walkFellf)), (k_ground, .inr (4, [.int k_ground_wide, .int k_ground_deep, .int k_ground_count, .ref k_ground_sorts])), (k_ground_sorts, .inl (cy 1, 20, .inl k_ground_sortsf))] := hD
  refine lv_istore_n (lv' := [(2, .int r_1), (0, .ref h0), (1, .ref h1)]) hx hb dX5_learn_8 rfl hl (by decide) rfl (fun ls hl => ?_)
  refine lv_aload_n hx hb dX5_learn_9 rfl (lv_at hl 1 rfl) ?_
  refine lv_iconst (v := 1) hx hb dX5_learn_10 (by decide) ?_
  refine lv_aload_n hx hb dX5_learn_11 rfl (lv_at hl 2 rfl) ?_
  refine r_get X kcX7 (ci := 7) rfl hP 3 rfl 4 (by decide) fX5_31 rfl dX5_learn_12 ?_
  refine lv_ishl hx hb dX5_learn_15 ?_
  refine lv_topi (fun x_5 ex_5 => ?_)
  have tx_5 : 1 ≤ x_5.toInt ∧ x_5.toInt ≤ 32 := ti_shl5 ex_5 (by omega) (by omega)
  refine r_put X kcX5 (ci := 5) rfl hP hD hS 0 rfl 2 (by decide) fX5_35 rfl rfl rfl (Nat.le_of_ble_eq_true rfl) dX5_learn_16 (fun H locs hP hD hS => ?_)
  have hP : va_P (dC, dI) vwCl [(h0, .inr (5, [.ref u_ditches, .ref u_weights, .int x_5])), (u_ditches, .inl (cy 1, 32, .inl u_ditchesf)), (u_weights, .inl (cy 2, 32, .inr (.inl u_weightsf))), (h1, .inr (7, [.ref k_ground, .int k_errs, .int k_slips, .int k_rows, .int k_unsureCount, .ref k_unsure, .int k_walkers, .ref k_names, .ref k_kinds, .ref k_starts, .ref k_goals, .int k_walks, .ref k_walkStarts, .ref k_walkSteps, .ref k_walkFell])), (k_unsure, .inl (cy 1, 5, .inl k_unsuref)), (k_walkStarts, .inl (cy 1, 6, .inl k_walkStartsf)), (k_walkSteps, .inl (cy 1, 6, .inl k_walkStepsf)), (k_walkFell, .inl (cy 3, 6, .inl k_walkFellf)), (k_ground, .inr (4, [.int k_ground_wide, .int k_ground_deep, .int k_ground_count, .ref k_ground_sorts])), (k_ground_sorts, .inl (cy 1, 20, .inl k_ground_sortsf))] H := hP
  have hD : va_D A [(h0, .inr (5, [.ref u_ditches, .ref u_weights, .int x_5])), (u_ditches, .inl (cy 1, 32, .inl u_ditchesf)), (u_weights, .inl (cy 2, 32, .inr (.inl u_weightsf))), (h1, .inr (7, [.ref k_ground, .int k_errs, .int k_slips, .int k_rows, .int k_unsureCount, .ref k_unsure, .int k_walkers, .ref k_names, .ref k_kinds, .ref k_starts, .ref k_goals, .int k_walks, .ref k_walkStarts, .ref k_walkSteps, .ref k_walkFell])), (k_unsure, .inl (cy 1, 5, .inl k_unsuref)), (k_walkStarts, .inl (cy 1, 6, .inl k_walkStartsf)), (k_walkSteps, .inl (cy 1, 6, .inl k_walkStepsf)), (k_walkFell, .inl (cy 3, 6, .inl k_walkFellf)), (k_ground, .inr (4, [.int k_ground_wide, .int k_ground_deep, .int k_ground_count, .ref k_ground_sorts])), (k_ground_sorts, .inl (cy 1, 20, .inl k_ground_sortsf))] := hD
  refine lv_iconst (v := 0) hx hb dX5_learn_19 (by decide) ?_
  refine lv_istore_n (lv' := [(3, .int 0), (2, .int r_1), (0, .ref h0), (1, .ref h1)]) hx hb dX5_learn_20 rfl hl (by decide) rfl (fun ls hl => ?_)
  have lp_6 : ∀ (nlp_6 : Nat) (i_7 : Int32) (f_9 : Nat → Int32) (f_10 : Nat → Int64) (H : Heap) (locs : List Loc) (ls : Array Slot), (0 ≤ i_7.toInt ∧ i_7.toInt ≤ 32) → (33 - i_7.toInt ≤ (nlp_6 : Int)) → va_P (dC, dI) vwCl [(h0, .inr (5, [.ref u_ditches, .ref u_weights, .int x_5])), (u_ditches, .inl (cy 1, 32, .inl f_9)), (u_weights, .inl (cy 2, 32, .inr (.inl f_10))), (h1, .inr (7, [.ref k_ground, .int k_errs, .int k_slips, .int k_rows, .int k_unsureCount, .ref k_unsure, .int k_walkers, .ref k_names, .ref k_kinds, .ref k_starts, .ref k_goals, .int k_walks, .ref k_walkStarts, .ref k_walkSteps, .ref k_walkFell])), (k_unsure, .inl (cy 1, 5, .inl k_unsuref)), (k_walkStarts, .inl (cy 1, 6, .inl k_walkStartsf)), (k_walkSteps, .inl (cy 1, 6, .inl k_walkStepsf)), (k_walkFell, .inl (cy 3, 6, .inl k_walkFellf)), (k_ground, .inr (4, [.int k_ground_wide, .int k_ground_deep, .int k_ground_count, .ref k_ground_sorts])), (k_ground_sorts, .inl (cy 1, 20, .inl k_ground_sortsf))] H → va_D A [(h0, .inr (5, [.ref u_ditches, .ref u_weights, .int x_5])), (u_ditches, .inl (cy 1, 32, .inl f_9)), (u_weights, .inl (cy 2, 32, .inr (.inl f_10))), (h1, .inr (7, [.ref k_ground, .int k_errs, .int k_slips, .int k_rows, .int k_unsureCount, .ref k_unsure, .int k_walkers, .ref k_names, .ref k_kinds, .ref k_starts, .ref k_goals, .int k_walks, .ref k_walkStarts, .ref k_walkSteps, .ref k_walkFell])), (k_unsure, .inl (cy 1, 5, .inl k_unsuref)), (k_walkStarts, .inl (cy 1, 6, .inl k_walkStartsf)), (k_walkSteps, .inl (cy 1, 6, .inl k_walkStepsf)), (k_walkFell, .inl (cy 3, 6, .inl k_walkFellf)), (k_ground, .inr (4, [.int k_ground_wide, .int k_ground_deep, .int k_ground_count, .ref k_ground_sorts])), (k_ground_sorts, .inl (cy 1, 20, .inl k_ground_sortsf))] → va_S A s.heap H locs → lv_has ls 7 [(3, .int i_7), (2, .int r_1), (0, .ref h0), (1, .ref h1)] → W p l e ({ frames := 2, cells := 0, slots := 0, locals := 47 } : Room) s m args below meth c H locs 0 0 Q (F0 m 21 ls []) := by
    intro nlp_6
    induction nlp_6 with
    | zero =>
      intro i_7 f_9 f_10 H locs ls b_8 hmlp_6 hP hD hS hl
      exfalso
      have di_7 := ti_bd i_7
      omega
    | succ nlp_6 ihlp_6 =>
      intro i_7 f_9 f_10 H locs ls b_8 hmlp_6 hP hD hS hl
      refine lv_iload_n hx hb dX5_learn_21 rfl (lv_at hl 0 rfl) ?_
      refine lv_aload_n hx hb dX5_learn_22 rfl (lv_at hl 2 rfl) ?_
      refine r_get X kcX5 (ci := 5) rfl hP 0 rfl 2 (by decide) fX5_35 rfl dX5_learn_23 ?_
      refine lv_icmp_ge (tgt := 113) hx hb dX5_learn_26 (by decide) (fun h_11 => ?_) (fun h_11 => ?_)
      · have h_11 : x_5.toInt ≤ i_7.toInt := c_le h_11
        exact eV hQ X hr hlocks hP hD hS (f_9, f_10, x_5) [0, 1, 2, 3, 8, 9, 4, 5, 6, 7] (by decide) rfl (show (0 ≤ x_5.toInt ∧ x_5.toInt ≤ 32) from (by omega)) (Nat.le_of_ble_eq_true rfl) (Nat.le_of_ble_eq_true rfl) dX5_learn_113
      · have h_11 : i_7.toInt < x_5.toInt := c_nle h_11
        refine lv_aload_n hx hb dX5_learn_29 rfl (lv_at hl 2 rfl) ?_
        refine r_get X kcX5 (ci := 5) rfl hP 0 rfl 0 (by decide) fX5_11 rfl dX5_learn_30 ?_
        refine lv_iload_n hx hb dX5_learn_33 rfl (lv_at hl 0 rfl) ?_
        refine lv_iload_n hx hb dX5_learn_34 rfl (lv_at hl 1 rfl) ?_
        refine lv_aload_n hx hb dX5_learn_35 rfl (lv_at hl 3 rfl) ?_
        refine lv_iload_n hx hb dX5_learn_36 rfl (lv_at hl 0 rfl) ?_
        refine fI (wr := [(h0, .inr (5, [.ref u_ditches, .ref u_weights, .int x_5])), (u_ditches, .inl (cy 1, 32, .inl f_9)), (u_weights, .inl (cy 2, 32, .inr (.inl f_10))), (k_walkStarts, .inl (cy 1, 6, .inl k_walkStartsf)), (k_walkSteps, .inl (cy 1, 6, .inl k_walkStepsf)), (k_walkFell, .inl (cy 3, 6, .inl k_walkFellf)), (k_ground, .inr (4, [.int k_ground_wide, .int k_ground_deep, .int k_ground_count, .ref k_ground_sorts])), (k_ground_sorts, .inl (cy 1, 20, .inl k_ground_sortsf))]) (rV_I (wc := [(h1, .inr (7, [.ref k_ground, .int k_errs, .int k_slips, .int k_rows, .int k_unsureCount, .ref k_unsure, .int k_walkers, .ref k_names, .ref k_kinds, .ref k_starts, .ref k_goals, .int k_walks, .ref k_walkStarts, .ref k_walkSteps, .ref k_walkFell])), (k_unsure, .inl (cy 1, 5, .inl k_unsuref))]) (As := [.int i_7]) (rest := [.int r_1, .int i_7, .ref u_ditches]) X hp_st (fun _ _ _ h => h) (sX7_unsureBits l dC dI cy h1 k_ground k_errs k_slips k_rows k_unsureCount k_unsure k_walkers k_names k_kinds k_starts k_goals k_walks k_walkStarts k_walkSteps k_walkFell k_unsuref i_7 hk_rows hk_unsureCount hk_walkers hk_walks) kX7_unsureBits vX7_unsureBits mX5_38 hP hD hS hA [3, 4] (by decide) rfl 0 (ci := 7) rfl rfl rfl hl rfl rfl (Nat.le_of_ble_eq_true rfl) dX5_learn_37 ⟨(Nat.le_of_ble_eq_true rfl), (Nat.le_of_ble_eq_true rfl)⟩ ⟨(Nat.le_of_ble_eq_true rfl), (Nat.le_of_ble_eq_true rfl)⟩) hP hD hS hA [3, 4] [0, 1, 2, 5, 6, 7, 8, 9] rfl rfl (by decide) (by decide) (fun r_12 u_14 H locs k_13 hP hD hS => ?_)
        have hP : va_P (dC, dI) vwCl [(h0, .inr (5, [.ref u_ditches, .ref u_weights, .int x_5])), (u_ditches, .inl (cy 1, 32, .inl f_9)), (u_weights, .inl (cy 2, 32, .inr (.inl f_10))), (k_walkStarts, .inl (cy 1, 6, .inl k_walkStartsf)), (k_walkSteps, .inl (cy 1, 6, .inl k_walkStepsf)), (k_walkFell, .inl (cy 3, 6, .inl k_walkFellf)), (k_ground, .inr (4, [.int k_ground_wide, .int k_ground_deep, .int k_ground_count, .ref k_ground_sorts])), (k_ground_sorts, .inl (cy 1, 20, .inl k_ground_sortsf)), (h1, .inr (7, [.ref k_ground, .int k_errs, .int k_slips, .int k_rows, .int k_unsureCount, .ref k_unsure, .int k_walkers, .ref k_names, .ref k_kinds, .ref k_starts, .ref k_goals, .int k_walks, .ref k_walkStarts, .ref k_walkSteps, .ref k_walkFell])), (k_unsure, .inl (cy 1, 5, .inl k_unsuref))] H := hP
        have hD : va_D A [(h0, .inr (5, [.ref u_ditches, .ref u_weights, .int x_5])), (u_ditches, .inl (cy 1, 32, .inl f_9)), (u_weights, .inl (cy 2, 32, .inr (.inl f_10))), (k_walkStarts, .inl (cy 1, 6, .inl k_walkStartsf)), (k_walkSteps, .inl (cy 1, 6, .inl k_walkStepsf)), (k_walkFell, .inl (cy 3, 6, .inl k_walkFellf)), (k_ground, .inr (4, [.int k_ground_wide, .int k_ground_deep, .int k_ground_count, .ref k_ground_sorts])), (k_ground_sorts, .inl (cy 1, 20, .inl k_ground_sortsf)), (h1, .inr (7, [.ref k_ground, .int k_errs, .int k_slips, .int k_rows, .int k_unsureCount, .ref k_unsure, .int k_walkers, .ref k_names, .ref k_kinds, .ref k_starts, .ref k_goals, .int k_walks, .ref k_walkStarts, .ref k_walkSteps, .ref k_walkFell])), (k_unsure, .inl (cy 1, 5, .inl k_unsuref))] := hD
        refine lv_ior hx hb dX5_learn_40 ?_
        have dy_15 := ti_bd r_1
        have dy_16 := ti_bd r_12
        refine lv_topi (fun x_17 ex_17 => ?_)
        refine va_iast (D := (dC, dI)) (cl := vwCl) hx hb hK hP hD hS 1 1 rfl rfl (i := i_7) (vin (by omega) (by omega)) dX5_learn_41 (fun H locs hP hD hS => ?_)
        generalize ef_18 : upd f_9 (Int32.toNatClampNeg i_7) x_17 = f_18 at hP hD
        have hP : va_P (dC, dI) vwCl [(h0, .inr (5, [.ref u_ditches, .ref u_weights, .int x_5])), (u_ditches, .inl (cy 1, 32, .inl f_18)), (u_weights, .inl (cy 2, 32, .inr (.inl f_10))), (k_walkStarts, .inl (cy 1, 6, .inl k_walkStartsf)), (k_walkSteps, .inl (cy 1, 6, .inl k_walkStepsf)), (k_walkFell, .inl (cy 3, 6, .inl k_walkFellf)), (k_ground, .inr (4, [.int k_ground_wide, .int k_ground_deep, .int k_ground_count, .ref k_ground_sorts])), (k_ground_sorts, .inl (cy 1, 20, .inl k_ground_sortsf)), (h1, .inr (7, [.ref k_ground, .int k_errs, .int k_slips, .int k_rows, .int k_unsureCount, .ref k_unsure, .int k_walkers, .ref k_names, .ref k_kinds, .ref k_starts, .ref k_goals, .int k_walks, .ref k_walkStarts, .ref k_walkSteps, .ref k_walkFell])), (k_unsure, .inl (cy 1, 5, .inl k_unsuref))] H := hP
        have hD : va_D A [(h0, .inr (5, [.ref u_ditches, .ref u_weights, .int x_5])), (u_ditches, .inl (cy 1, 32, .inl f_18)), (u_weights, .inl (cy 2, 32, .inr (.inl f_10))), (k_walkStarts, .inl (cy 1, 6, .inl k_walkStartsf)), (k_walkSteps, .inl (cy 1, 6, .inl k_walkStepsf)), (k_walkFell, .inl (cy 3, 6, .inl k_walkFellf)), (k_ground, .inr (4, [.int k_ground_wide, .int k_ground_deep, .int k_ground_count, .ref k_ground_sorts])), (k_ground_sorts, .inl (cy 1, 20, .inl k_ground_sortsf)), (h1, .inr (7, [.ref k_ground, .int k_errs, .int k_slips, .int k_rows, .int k_unsureCount, .ref k_unsure, .int k_walkers, .ref k_names, .ref k_kinds, .ref k_starts, .ref k_goals, .int k_walks, .ref k_walkStarts, .ref k_walkSteps, .ref k_walkFell])), (k_unsure, .inl (cy 1, 5, .inl k_unsuref))] := hD
        refine lv_lconst (v := 1) hx hb dX5_learn_42 (by decide) ?_
        refine lv_lstore (lv' := [(4, .long 1), (3, .int i_7), (2, .int r_1), (0, .ref h0), (1, .ref h1)]) hx hb dX5_learn_43 hl (by decide) rfl (fun ls hl => ?_)
        refine lv_iconst (v := 0) hx hb dX5_learn_45 (by decide) ?_
        refine lv_istore (lv' := [(6, .int 0), (4, .long 1), (3, .int i_7), (2, .int r_1), (0, .ref h0), (1, .ref h1)]) hx hb dX5_learn_46 hl (by decide) rfl (fun ls hl => ?_)
        have lp_19 : ∀ (nlp_19 : Nat) (i_20 : Int32) (i_22 : Int64) (H : Heap) (locs : List Loc) (ls : Array Slot), (0 ≤ i_20.toInt ∧ i_20.toInt ≤ 6) → (7 - i_20.toInt ≤ (nlp_19 : Int)) → va_P (dC, dI) vwCl [(h0, .inr (5, [.ref u_ditches, .ref u_weights, .int x_5])), (u_ditches, .inl (cy 1, 32, .inl f_18)), (u_weights, .inl (cy 2, 32, .inr (.inl f_10))), (k_walkStarts, .inl (cy 1, 6, .inl k_walkStartsf)), (k_walkSteps, .inl (cy 1, 6, .inl k_walkStepsf)), (k_walkFell, .inl (cy 3, 6, .inl k_walkFellf)), (k_ground, .inr (4, [.int k_ground_wide, .int k_ground_deep, .int k_ground_count, .ref k_ground_sorts])), (k_ground_sorts, .inl (cy 1, 20, .inl k_ground_sortsf)), (h1, .inr (7, [.ref k_ground, .int k_errs, .int k_slips, .int k_rows, .int k_unsureCount, .ref k_unsure, .int k_walkers, .ref k_names, .ref k_kinds, .ref k_starts, .ref k_goals, .int k_walks, .ref k_walkStarts, .ref k_walkSteps, .ref k_walkFell])), (k_unsure, .inl (cy 1, 5, .inl k_unsuref))] H → va_D A [(h0, .inr (5, [.ref u_ditches, .ref u_weights, .int x_5])), (u_ditches, .inl (cy 1, 32, .inl f_18)), (u_weights, .inl (cy 2, 32, .inr (.inl f_10))), (k_walkStarts, .inl (cy 1, 6, .inl k_walkStartsf)), (k_walkSteps, .inl (cy 1, 6, .inl k_walkStepsf)), (k_walkFell, .inl (cy 3, 6, .inl k_walkFellf)), (k_ground, .inr (4, [.int k_ground_wide, .int k_ground_deep, .int k_ground_count, .ref k_ground_sorts])), (k_ground_sorts, .inl (cy 1, 20, .inl k_ground_sortsf)), (h1, .inr (7, [.ref k_ground, .int k_errs, .int k_slips, .int k_rows, .int k_unsureCount, .ref k_unsure, .int k_walkers, .ref k_names, .ref k_kinds, .ref k_starts, .ref k_goals, .int k_walks, .ref k_walkStarts, .ref k_walkSteps, .ref k_walkFell])), (k_unsure, .inl (cy 1, 5, .inl k_unsuref))] → va_S A s.heap H locs → lv_has ls 7 [(6, .int i_20), (4, .long i_22), (3, .int i_7), (2, .int r_1), (0, .ref h0), (1, .ref h1)] → W p l e ({ frames := 2, cells := 0, slots := 0, locals := 47 } : Room) s m args below meth c H locs 0 0 Q (F0 m 48 ls []) := by
          intro nlp_19
          induction nlp_19 with
          | zero =>
            intro i_20 i_22 H locs ls b_21 hmlp_19 hP hD hS hl
            exfalso
            have di_20 := ti_bd i_20
            omega
          | succ nlp_19 ihlp_19 =>
            intro i_20 i_22 H locs ls b_21 hmlp_19 hP hD hS hl
            refine lv_iload hx hb dX5_learn_48 (lv_at hl 0 rfl) ?_
            refine lv_aload_n hx hb dX5_learn_50 rfl (lv_at hl 5 rfl) ?_
            refine r_get X kcX7 (ci := 7) rfl hP 8 rfl 11 (by decide) fX5_41 rfl dX5_learn_51 ?_
            refine lv_icmp_ge (tgt := 99) hx hb dX5_learn_54 (by decide) (fun h_23 => ?_) (fun h_23 => ?_)
            · have h_23 : k_walks.toInt ≤ i_20.toInt := c_le h_23
              refine lv_aload_n hx hb dX5_learn_99 rfl (lv_at hl 4 rfl) ?_
              refine r_get X kcX5 (ci := 5) rfl hP 0 rfl 1 (by decide) fX5_15 rfl dX5_learn_100 ?_
              refine lv_iload_n hx hb dX5_learn_103 rfl (lv_at hl 2 rfl) ?_
              refine lv_lload hx hb dX5_learn_104 (lv_at hl 1 rfl) ?_
              refine va_last (D := (dC, dI)) (cl := vwCl) hx hb hK hP hD hS 2 2 rfl rfl (i := i_7) (vin (by omega) (by omega)) dX5_learn_106 (fun H locs hP hD hS => ?_)
              generalize ef_24 : vp_updL f_10 (Int32.toNatClampNeg i_7) i_22 = f_24 at hP hD
              have hP : va_P (dC, dI) vwCl [(h0, .inr (5, [.ref u_ditches, .ref u_weights, .int x_5])), (u_ditches, .inl (cy 1, 32, .inl f_18)), (u_weights, .inl (cy 2, 32, .inr (.inl f_24))), (k_walkStarts, .inl (cy 1, 6, .inl k_walkStartsf)), (k_walkSteps, .inl (cy 1, 6, .inl k_walkStepsf)), (k_walkFell, .inl (cy 3, 6, .inl k_walkFellf)), (k_ground, .inr (4, [.int k_ground_wide, .int k_ground_deep, .int k_ground_count, .ref k_ground_sorts])), (k_ground_sorts, .inl (cy 1, 20, .inl k_ground_sortsf)), (h1, .inr (7, [.ref k_ground, .int k_errs, .int k_slips, .int k_rows, .int k_unsureCount, .ref k_unsure, .int k_walkers, .ref k_names, .ref k_kinds, .ref k_starts, .ref k_goals, .int k_walks, .ref k_walkStarts, .ref k_walkSteps, .ref k_walkFell])), (k_unsure, .inl (cy 1, 5, .inl k_unsuref))] H := hP
              have hD : va_D A [(h0, .inr (5, [.ref u_ditches, .ref u_weights, .int x_5])), (u_ditches, .inl (cy 1, 32, .inl f_18)), (u_weights, .inl (cy 2, 32, .inr (.inl f_24))), (k_walkStarts, .inl (cy 1, 6, .inl k_walkStartsf)), (k_walkSteps, .inl (cy 1, 6, .inl k_walkStepsf)), (k_walkFell, .inl (cy 3, 6, .inl k_walkFellf)), (k_ground, .inr (4, [.int k_ground_wide, .int k_ground_deep, .int k_ground_count, .ref k_ground_sorts])), (k_ground_sorts, .inl (cy 1, 20, .inl k_ground_sortsf)), (h1, .inr (7, [.ref k_ground, .int k_errs, .int k_slips, .int k_rows, .int k_unsureCount, .ref k_unsure, .int k_walkers, .ref k_names, .ref k_kinds, .ref k_starts, .ref k_goals, .int k_walks, .ref k_walkStarts, .ref k_walkSteps, .ref k_walkFell])), (k_unsure, .inl (cy 1, 5, .inl k_unsuref))] := hD
              obtain ⟨x_25, ex_25⟩ : ∃ y : Int32, y = i_7 + 1 := ⟨_, rfl⟩
              have tx_25 : x_25.toInt = i_7.toInt + 1 := ti_add (A := i_7.toInt) (B := 1) ex_25 rfl rfl (by omega) (by omega)
              refine lv_iinc (v := x_25) (lv' := [(3, .int x_25), (6, .int i_20), (4, .long i_22), (2, .int r_1), (0, .ref h0), (1, .ref h1)]) hx hb dX5_learn_107 hl (k := 2) rfl (by rw [ex_25]; rfl) (by decide) rfl (fun ls hl => ?_)
              refine lv_goto (tgt := 21) hx hb dX5_learn_110 (by decide) ?_
              exact ihlp_6 x_25 f_18 f_24 _ _ _ (by omega) (show 33 - x_25.toInt ≤ (nlp_6 : Int) by omega) (hP.sub [0, 1, 2, 8, 9, 3, 4, 5, 6, 7] rfl) (hD.sub [0, 1, 2, 8, 9, 3, 4, 5, 6, 7] (by decide) rfl) hS (lv_sub hl [0, 3, 4, 5] rfl)
            · have h_23 : i_20.toInt < k_walks.toInt := c_nle h_23
              refine lv_lload hx hb dX5_learn_57 (lv_at hl 1 rfl) ?_
              refine lv_aload_n hx hb dX5_learn_59 rfl (lv_at hl 5 rfl) ?_
              refine lv_iload hx hb dX5_learn_60 (lv_at hl 0 rfl) ?_
              refine lv_aload_n hx hb dX5_learn_62 rfl (lv_at hl 4 rfl) ?_
              refine r_get X kcX5 (ci := 5) rfl hP 0 rfl 0 (by decide) fX5_11 rfl dX5_learn_63 ?_
              refine lv_iload_n hx hb dX5_learn_66 rfl (lv_at hl 2 rfl) ?_
              refine va_iald (D := (dC, dI)) (cl := vwCl) hx hb hK hP 1 1 rfl rfl (i := i_7) (vin (by omega) (by omega)) dX5_learn_67 ?_
              refine lv_topi (fun x_26 ex_26 => ?_)
              refine fI (wr := [(h0, .inr (5, [.ref u_ditches, .ref u_weights, .int x_5])), (u_ditches, .inl (cy 1, 32, .inl f_18)), (u_weights, .inl (cy 2, 32, .inr (.inl f_10))), (k_unsure, .inl (cy 1, 5, .inl k_unsuref))]) (rV_I (wc := [(h1, .inr (7, [.ref k_ground, .int k_errs, .int k_slips, .int k_rows, .int k_unsureCount, .ref k_unsure, .int k_walkers, .ref k_names, .ref k_kinds, .ref k_starts, .ref k_goals, .int k_walks, .ref k_walkStarts, .ref k_walkSteps, .ref k_walkFell])), (k_ground, .inr (4, [.int k_ground_wide, .int k_ground_deep, .int k_ground_count, .ref k_ground_sorts])), (k_ground_sorts, .inl (cy 1, 20, .inl k_ground_sortsf)), (k_walkStarts, .inl (cy 1, 6, .inl k_walkStartsf)), (k_walkSteps, .inl (cy 1, 6, .inl k_walkStepsf)), (k_walkFell, .inl (cy 3, 6, .inl k_walkFellf))]) (As := [.int i_20, .int x_26]) (rest := [.long i_22]) X hp_st (fun _ _ _ h => h) (sX7_isToldWrongly l dC dI cy h1 k_ground k_errs k_slips k_rows k_unsureCount k_unsure k_walkers k_names k_kinds k_starts k_goals k_walks k_walkStarts k_walkSteps k_walkFell k_ground_wide k_ground_deep k_ground_count k_ground_sorts k_ground_sortsf k_walkStartsf k_walkStepsf k_walkFellf i_20 x_26 hk_rows hk_unsureCount hk_walkers hk_walks hk_ground_wide hk_ground_deep hk_ground_count hk_walkStepsf (by first | omega | decide)) kX7_isToldWrongly vX7_isToldWrongly mX5_44 hP hD hS hA [8, 6, 7, 3, 4, 5] (by decide) rfl 0 (ci := 7) rfl rfl rfl hl rfl rfl (Nat.le_of_ble_eq_true rfl) dX5_learn_68 ⟨(Nat.le_of_ble_eq_true rfl), (Nat.le_of_ble_eq_true rfl)⟩ ⟨(Nat.le_of_ble_eq_true rfl), (Nat.le_of_ble_eq_true rfl)⟩) hP hD hS hA [8, 6, 7, 3, 4, 5] [0, 1, 2, 9] rfl rfl (by decide) (by decide) (fun r_27 u_29 H locs k_28 hP hD hS => ?_)
              have k_28 : (0 ≤ r_27.toInt ∧ r_27.toInt ≤ 1) := k_28
              have hP : va_P (dC, dI) vwCl [(h0, .inr (5, [.ref u_ditches, .ref u_weights, .int x_5])), (u_ditches, .inl (cy 1, 32, .inl f_18)), (u_weights, .inl (cy 2, 32, .inr (.inl f_10))), (k_unsure, .inl (cy 1, 5, .inl k_unsuref)), (h1, .inr (7, [.ref k_ground, .int k_errs, .int k_slips, .int k_rows, .int k_unsureCount, .ref k_unsure, .int k_walkers, .ref k_names, .ref k_kinds, .ref k_starts, .ref k_goals, .int k_walks, .ref k_walkStarts, .ref k_walkSteps, .ref k_walkFell])), (k_ground, .inr (4, [.int k_ground_wide, .int k_ground_deep, .int k_ground_count, .ref k_ground_sorts])), (k_ground_sorts, .inl (cy 1, 20, .inl k_ground_sortsf)), (k_walkStarts, .inl (cy 1, 6, .inl k_walkStartsf)), (k_walkSteps, .inl (cy 1, 6, .inl k_walkStepsf)), (k_walkFell, .inl (cy 3, 6, .inl k_walkFellf))] H := hP
              have hD : va_D A [(h0, .inr (5, [.ref u_ditches, .ref u_weights, .int x_5])), (u_ditches, .inl (cy 1, 32, .inl f_18)), (u_weights, .inl (cy 2, 32, .inr (.inl f_10))), (k_unsure, .inl (cy 1, 5, .inl k_unsuref)), (h1, .inr (7, [.ref k_ground, .int k_errs, .int k_slips, .int k_rows, .int k_unsureCount, .ref k_unsure, .int k_walkers, .ref k_names, .ref k_kinds, .ref k_starts, .ref k_goals, .int k_walks, .ref k_walkStarts, .ref k_walkSteps, .ref k_walkFell])), (k_ground, .inr (4, [.int k_ground_wide, .int k_ground_deep, .int k_ground_count, .ref k_ground_sorts])), (k_ground_sorts, .inl (cy 1, 20, .inl k_ground_sortsf)), (k_walkStarts, .inl (cy 1, 6, .inl k_walkStartsf)), (k_walkSteps, .inl (cy 1, 6, .inl k_walkStepsf)), (k_walkFell, .inl (cy 3, 6, .inl k_walkFellf))] := hD
              refine lv_if_eq (tgt := 82) hx hb dX5_learn_71 (by decide) (fun h_30 => ?_) (fun h_30 => ?_)
              · have h_30 : r_27.toInt = 0 := c_eq h_30
                refine lv_bipush (v := 100) hx hb dX5_learn_82 (by decide) ?_
                refine lv_aload_n hx hb dX5_learn_84 rfl (lv_at hl 5 rfl) ?_
                refine r_get X kcX7 (ci := 7) rfl hP 4 rfl 1 (by decide) fX5_48 rfl dX5_learn_85 ?_
                refine lv_isub hx hb dX5_learn_88 ?_
                have dy_31 := ti_bd k_errs
                refine lv_topi (fun x_32 ex_32 => ?_)
                obtain ⟨x_33, ex_33⟩ : ∃ y : Int64, x_32.toInt64 = y := ⟨_, rfl⟩
                refine lv_i2l hx hb dX5_learn_89 ex_33 ?_
                refine lv_lmul hx hb dX5_learn_90 ?_
                refine lv_topl (fun x_34 ex_34 => ?_)
                refine lv_lstore (lv' := [(4, .long x_34), (6, .int i_20), (3, .int i_7), (2, .int r_1), (0, .ref h0), (1, .ref h1)]) hx hb dX5_learn_91 hl (by decide) rfl (fun ls hl => ?_)
                obtain ⟨x_35, ex_35⟩ : ∃ y : Int32, y = i_20 + 1 := ⟨_, rfl⟩
                have tx_35 : x_35.toInt = i_20.toInt + 1 := ti_add (A := i_20.toInt) (B := 1) ex_35 rfl rfl (by omega) (by omega)
                refine lv_iinc (v := x_35) (lv' := [(6, .int x_35), (4, .long x_34), (3, .int i_7), (2, .int r_1), (0, .ref h0), (1, .ref h1)]) hx hb dX5_learn_93 hl (k := 1) rfl (by rw [ex_35]; rfl) (by decide) rfl (fun ls hl => ?_)
                refine lv_goto (tgt := 48) hx hb dX5_learn_96 (by decide) ?_
                exact ihlp_19 x_35 x_34 _ _ _ (by omega) (show 7 - x_35.toInt ≤ (nlp_19 : Int) by omega) (hP.sub [0, 1, 2, 7, 8, 9, 5, 6, 4, 3] rfl) (hD.sub [0, 1, 2, 7, 8, 9, 5, 6, 4, 3] (by decide) rfl) hS (lv_sub hl [0, 1, 2, 3, 4, 5] rfl)
              · have h_30 : r_27.toInt ≠ 0 := c_ne h_30
                refine lv_aload_n hx hb dX5_learn_74 rfl (lv_at hl 5 rfl) ?_
                refine r_get X kcX7 (ci := 7) rfl hP 4 rfl 1 (by decide) fX5_48 rfl dX5_learn_75 ?_
                obtain ⟨x_36, ex_36⟩ : ∃ y : Int64, k_errs.toInt64 = y := ⟨_, rfl⟩
                refine lv_i2l hx hb dX5_learn_78 ex_36 ?_
                refine lv_goto (tgt := 90) hx hb dX5_learn_79 (by decide) ?_
                refine lv_lmul hx hb dX5_learn_90 ?_
                refine lv_topl (fun x_37 ex_37 => ?_)
                refine lv_lstore (lv' := [(4, .long x_37), (6, .int i_20), (3, .int i_7), (2, .int r_1), (0, .ref h0), (1, .ref h1)]) hx hb dX5_learn_91 hl (by decide) rfl (fun ls hl => ?_)
                obtain ⟨x_38, ex_38⟩ : ∃ y : Int32, y = i_20 + 1 := ⟨_, rfl⟩
                have tx_38 : x_38.toInt = i_20.toInt + 1 := ti_add (A := i_20.toInt) (B := 1) ex_38 rfl rfl (by omega) (by omega)
                refine lv_iinc (v := x_38) (lv' := [(6, .int x_38), (4, .long x_37), (3, .int i_7), (2, .int r_1), (0, .ref h0), (1, .ref h1)]) hx hb dX5_learn_93 hl (k := 1) rfl (by rw [ex_38]; rfl) (by decide) rfl (fun ls hl => ?_)
                refine lv_goto (tgt := 48) hx hb dX5_learn_96 (by decide) ?_
                exact ihlp_19 x_38 x_37 _ _ _ (by omega) (show 7 - x_38.toInt ≤ (nlp_19 : Int) by omega) (hP.sub [0, 1, 2, 7, 8, 9, 5, 6, 4, 3] rfl) (hD.sub [0, 1, 2, 7, 8, 9, 5, 6, 4, 3] (by decide) rfl) hS (lv_sub hl [0, 1, 2, 3, 4, 5] rfl)
        exact lp_19 7 0 1 _ _ _ (by decide) (show 7 - 0 ≤ ((7 : Nat) : Int) by omega) hP hD hS hl
  exact lp_6 33 0 u_ditchesf u_weightsf _ _ _ (by decide) (show 33 - 0 ≤ ((33 : Nat) : Int) by omega) hP hD hS hl
