set_option maxHeartbeats 4000000 in
set_option maxRecDepth 100000 in
theorem g7_hasName (l : Launch) (dC : Nat → ClassId) (dI : Nat → Nat → Nat) (cy : Nat → ClassId) (h0 : Nat) (k_ground : Nat) (k_errs : Int32) (k_slips : Int32) (k_rows : Int32) (k_unsureCount : Int32) (k_unsure : Nat) (k_walkers : Int32) (k_names : Nat) (k_kinds : Nat) (k_starts : Nat) (k_goals : Nat) (k_walks : Int32) (k_walkStarts : Nat) (k_walkSteps : Nat) (k_walkFell : Nat) (k_namesf : Nat → Int64) (p1 : Int64) (hk_rows : 0 ≤ k_rows.toInt ∧ k_rows.toInt ≤ 4) (hk_unsureCount : 0 ≤ k_unsureCount.toInt ∧ k_unsureCount.toInt ≤ 5) (hk_walkers : 0 ≤ k_walkers.toInt ∧ k_walkers.toInt ≤ 4) (hk_walks : 0 ≤ k_walks.toInt ∧ k_walks.toInt ≤ 6) : ctI l dC dI cy hp yX7_hasName cX7_hasName 4 .boolean ({ frames := 0, cells := 0, slots := 0, locals := 0 } : Room) [.ref h0, .long p1] [(h0, .inr (7, [.ref k_ground, .int k_errs, .int k_slips, .int k_rows, .int k_unsureCount, .ref k_unsure, .int k_walkers, .ref k_names, .ref k_kinds, .ref k_starts, .ref k_goals, .int k_walks, .ref k_walkStarts, .ref k_walkSteps, .ref k_walkFell])), (k_names, .inl (cy 2, 4, .inr (.inl k_namesf)))] (S := Unit) (fun r _ => (0 ≤ r.toInt ∧ r.toInt ≤ 1) ∧ (hnP k_namesf k_walkers.toInt p1 r.toInt)) (fun _ => [(h0, .inr (7, [.ref k_ground, .int k_errs, .int k_slips, .int k_rows, .int k_unsureCount, .ref k_unsure, .int k_walkers, .ref k_names, .ref k_kinds, .ref k_starts, .ref k_goals, .int k_walks, .ref k_walkStarts, .ref k_walkSteps, .ref k_walkFell])), (k_names, .inl (cy 2, 4, .inr (.inl k_namesf)))]) := by
  refine ctI.of (by decide +kernel) (Nat.le_of_ble_eq_true rfl) ?_
  intro p e s m args below meth c A ls Q hQ X hr hlocks hin hA hP hD hS hl
  have hx := X.1
  have hb := X.2.1
  have hK := X.2.2.2.2.2.1
  have hl : lv_has ls 4 [(0, .ref h0), (1, .long p1)] := hl
  refine lv_iconst (v := 0) hx hb dX7_hasName_0 (by decide) ?_
  refine lv_istore_n (lv' := [(3, .int 0), (0, .ref h0), (1, .long p1)]) hx hb dX7_hasName_1 rfl hl (by decide) rfl (fun ls hl => ?_)
  have lp_1 : ∀ (nlp_1 : Nat) (i_2 : Int32) (H : Heap) (locs : List Loc) (ls : Array Slot), (0 ≤ i_2.toInt ∧ i_2.toInt ≤ 4) → (ntl k_namesf i_2.toInt p1) → (5 - i_2.toInt ≤ (nlp_1 : Int)) → va_P (dC, dI) vwCl [(h0, .inr (7, [.ref k_ground, .int k_errs, .int k_slips, .int k_rows, .int k_unsureCount, .ref k_unsure, .int k_walkers, .ref k_names, .ref k_kinds, .ref k_starts, .ref k_goals, .int k_walks, .ref k_walkStarts, .ref k_walkSteps, .ref k_walkFell])), (k_names, .inl (cy 2, 4, .inr (.inl k_namesf)))] H → va_D A [(h0, .inr (7, [.ref k_ground, .int k_errs, .int k_slips, .int k_rows, .int k_unsureCount, .ref k_unsure, .int k_walkers, .ref k_names, .ref k_kinds, .ref k_starts, .ref k_goals, .int k_walks, .ref k_walkStarts, .ref k_walkSteps, .ref k_walkFell])), (k_names, .inl (cy 2, 4, .inr (.inl k_namesf)))] → va_S A s.heap H locs → lv_has ls 4 [(3, .int i_2), (0, .ref h0), (1, .long p1)] → W p l e ({ frames := 0, cells := 0, slots := 0, locals := 0 } : Room) s m args below meth c H locs 0 0 Q (F0 m 2 ls []) := by
    intro nlp_1
    induction nlp_1 with
    | zero =>
      intro i_2 H locs ls b_3 b_4 hmlp_1 hP hD hS hl
      exfalso
      have di_2 := ti_bd i_2
      omega
    | succ nlp_1 ihlp_1 =>
      intro i_2 H locs ls b_3 b_4 hmlp_1 hP hD hS hl
      refine lv_iload_n hx hb dX7_hasName_2 rfl (lv_at hl 0 rfl) ?_
      refine lv_aload_n hx hb dX7_hasName_3 rfl (lv_at hl 1 rfl) ?_
      refine r_get X kcX7 (ci := 7) rfl hP 0 rfl 6 (by decide) fX7_56 rfl dX7_hasName_4 ?_
      refine lv_icmp_ge (tgt := 29) hx hb dX7_hasName_7 (by decide) (fun h_5 => ?_) (fun h_5 => ?_)
      · have h_5 : k_walkers.toInt ≤ i_2.toInt := c_le h_5
        refine lv_iconst (v := 0) hx hb dX7_hasName_29 (by decide) ?_
        exact eI hQ X hr hlocks hP hD hS () [0, 1] (by decide) rfl rfl (show (0 ≤ (0 : Int32).toInt ∧ (0 : Int32).toInt ≤ 1) ∧ (hnP k_namesf k_walkers.toInt p1 (0 : Int32).toInt) from ⟨(by first | omega | decide | (refine ⟨by decide, ?_⟩; omega) | (have h9_0 : (0 : Int32).toInt = 0 := (by decide); omega)), (hnP_n b_4 (by omega) (by decide))⟩) (Nat.le_of_ble_eq_true rfl) (Nat.le_of_ble_eq_true rfl) dX7_hasName_30
      · have h_5 : i_2.toInt < k_walkers.toInt := c_nle h_5
        refine lv_aload_n hx hb dX7_hasName_10 rfl (lv_at hl 1 rfl) ?_
        refine r_get X kcX7 (ci := 7) rfl hP 0 rfl 7 (by decide) fX7_22 rfl dX7_hasName_11 ?_
        refine lv_iload_n hx hb dX7_hasName_14 rfl (lv_at hl 0 rfl) ?_
        refine va_lald (D := (dC, dI)) (cl := vwCl) hx hb hK hP 1 2 rfl rfl (i := i_2) (vin (by omega) (by omega)) dX7_hasName_15 ?_
        refine lv_topl (fun x_6 ex_6 => ?_)
        refine lv_lload_n hx hb dX7_hasName_16 rfl (lv_at hl 2 rfl) ?_
        refine W.lcmp hx hb dX7_hasName_17 ?_
        refine lv_topi (fun x_7 ex_7 => ?_)
        refine lv_if_ne (tgt := 23) hx hb dX7_hasName_18 (by decide) (fun h_8 => ?_) (fun h_8 => ?_)
        · have h_8 : x_7.toInt ≠ 0 := c_ne h_8
          obtain ⟨x_9, ex_9⟩ : ∃ y : Int32, y = i_2 + 1 := ⟨_, rfl⟩
          have tx_9 : x_9.toInt = i_2.toInt + 1 := ti_add (A := i_2.toInt) (B := 1) ex_9 rfl rfl (by omega) (by omega)
          refine lv_iinc (v := x_9) (lv' := [(3, .int x_9), (0, .ref h0), (1, .long p1)]) hx hb dX7_hasName_23 hl (k := 0) rfl (by rw [ex_9]; rfl) (by decide) rfl (fun ls hl => ?_)
          refine lv_goto (tgt := 2) hx hb dX7_hasName_26 (by decide) ?_
          exact ihlp_1 x_9 _ _ _ (by omega) (show ntl k_namesf x_9.toInt p1 from (ntl_up (i := i_2) b_4 ex_6 (lne_cmp ex_7 (by omega)) (by omega) (by omega))) (show 5 - x_9.toInt ≤ (nlp_1 : Int) by omega) hP hD hS (lv_sub hl [0, 1, 2] rfl)
        · have h_8 : x_7.toInt = 0 := c_eq h_8
          refine lv_iconst (v := 1) hx hb dX7_hasName_21 (by decide) ?_
          exact eI hQ X hr hlocks hP hD hS () [0, 1] (by decide) rfl rfl (show (0 ≤ (1 : Int32).toInt ∧ (1 : Int32).toInt ≤ 1) ∧ (hnP k_namesf k_walkers.toInt p1 (1 : Int32).toInt) from ⟨(by first | omega | decide | (refine ⟨by decide, ?_⟩; omega) | (have h9_0 : (1 : Int32).toInt = 1 := (by decide); omega)), (hnP_y (i := i_2) ex_6 (leq_cmp ex_7 (by omega)) (by omega) (by omega) (by decide))⟩) (Nat.le_of_ble_eq_true rfl) (Nat.le_of_ble_eq_true rfl) dX7_hasName_22
  exact lp_1 5 0 _ _ _ (by decide) (show ntl k_namesf 0 p1 from (ntl_0 (by omega))) (show 5 - 0 ≤ ((5 : Nat) : Int) by omega) hP hD hS hl
