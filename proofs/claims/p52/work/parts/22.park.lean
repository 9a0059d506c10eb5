set_option maxHeartbeats 4000000 in
set_option maxRecDepth 100000 in
theorem sX7_isTold (l : Launch) (dC : Nat → ClassId) (dI : Nat → Nat → Nat) (cy : Nat → ClassId) (h0 : Nat) (k_ground : Nat) (k_errs : Int32) (k_slips : Int32) (k_rows : Int32) (k_unsureCount : Int32) (k_unsure : Nat) (k_walkers : Int32) (k_names : Nat) (k_kinds : Nat) (k_starts : Nat) (k_goals : Nat) (k_walks : Int32) (k_walkStarts : Nat) (k_walkSteps : Nat) (k_walkFell : Nat) (k_ground_wide : Int32) (k_ground_deep : Int32) (k_ground_count : Int32) (k_ground_sorts : Nat) (k_ground_sortsf : Nat → Int32) (hk_rows : 0 ≤ k_rows.toInt ∧ k_rows.toInt ≤ 4) (hk_unsureCount : 0 ≤ k_unsureCount.toInt ∧ k_unsureCount.toInt ≤ 5) (hk_walkers : 0 ≤ k_walkers.toInt ∧ k_walkers.toInt ≤ 4) (hk_walks : 0 ≤ k_walks.toInt ∧ k_walks.toInt ≤ 6) (hk_ground_wide : 0 ≤ k_ground_wide.toInt ∧ k_ground_wide.toInt ≤ 5) (hk_ground_deep : 0 ≤ k_ground_deep.toInt ∧ k_ground_deep.toInt ≤ 4) (hk_ground_count : 0 ≤ k_ground_count.toInt ∧ k_ground_count.toInt ≤ 20) : ctI l dC dI cy hp yX7_isTold cX7_isTold 1 .boolean ({ frames := 0, cells := 0, slots := 0, locals := 0 } : Room) [.ref h0] [(h0, .inr (7, [.ref k_ground, .int k_errs, .int k_slips, .int k_rows, .int k_unsureCount, .ref k_unsure, .int k_walkers, .ref k_names, .ref k_kinds, .ref k_starts, .ref k_goals, .int k_walks, .ref k_walkStarts, .ref k_walkSteps, .ref k_walkFell])), (k_ground, .inr (4, [.int k_ground_wide, .int k_ground_deep, .int k_ground_count, .ref k_ground_sorts])), (k_ground_sorts, .inl (cy 1, 20, .inl k_ground_sortsf))] (S := Unit) (fun r _ => (0 ≤ r.toInt ∧ r.toInt ≤ 1) ∧ ((r.toInt = 1 ∧ 0 < k_ground_wide.toInt) ∨ (r.toInt = 0 ∧ k_ground_wide.toInt ≤ 0))) (fun _ => [(h0, .inr (7, [.ref k_ground, .int k_errs, .int k_slips, .int k_rows, .int k_unsureCount, .ref k_unsure, .int k_walkers, .ref k_names, .ref k_kinds, .ref k_starts, .ref k_goals, .int k_walks, .ref k_walkStarts, .ref k_walkSteps, .ref k_walkFell])), (k_ground, .inr (4, [.int k_ground_wide, .int k_ground_deep, .int k_ground_count, .ref k_ground_sorts])), (k_ground_sorts, .inl (cy 1, 20, .inl k_ground_sortsf))]) := by
  refine ctI.of (by decide +kernel) (Nat.le_of_ble_eq_true rfl) ?_
  intro p e s m args below meth c A ls Q hQ X hr hlocks hin hA hP hD hS hl
  have hx := X.1
  have hb := X.2.1
  have hK := X.2.2.2.2.2.1
  have hl : lv_has ls 1 [(0, .ref h0)] := hl
  refine lv_aload_n hx hb dX7_isTold_0 rfl (lv_at hl 0 rfl) ?_
  refine r_get X kcX7 (ci := 7) rfl hP 0 rfl 0 (by decide) fX7_12 rfl dX7_isTold_1 ?_
  refine r_get X kcX4 (ci := 4) rfl hP 1 rfl 0 (by decide) fX7_62 rfl dX7_isTold_4 ?_
  refine lv_if_le (tgt := 14) hx hb dX7_isTold_7 (by decide) (fun h_1 => ?_) (fun h_1 => ?_)
  · have h_1 : k_ground_wide.toInt ≤ 0 := c_le h_1
    refine lv_iconst (v := 0) hx hb dX7_isTold_14 (by decide) ?_
    exact eI hQ X hr hlocks hP hD hS () [0, 1, 2] (by decide) rfl rfl (show (0 ≤ (0 : Int32).toInt ∧ (0 : Int32).toInt ≤ 1) ∧ (((0 : Int32).toInt = 1 ∧ 0 < k_ground_wide.toInt) ∨ ((0 : Int32).toInt = 0 ∧ k_ground_wide.toInt ≤ 0)) from ⟨(by decide), (Or.inr ⟨by decide, by omega⟩)⟩) (Nat.le_of_ble_eq_true rfl) (Nat.le_of_ble_eq_true rfl) dX7_isTold_15
  · have h_1 : 0 < k_ground_wide.toInt := c_nle h_1
    refine lv_iconst (v := 1) hx hb dX7_isTold_10 (by decide) ?_
    refine lv_goto (tgt := 15) hx hb dX7_isTold_11 (by decide) ?_
    exact eI hQ X hr hlocks hP hD hS () [0, 1, 2] (by decide) rfl rfl (show (0 ≤ (1 : Int32).toInt ∧ (1 : Int32).toInt ≤ 1) ∧ (((1 : Int32).toInt = 1 ∧ 0 < k_ground_wide.toInt) ∨ ((1 : Int32).toInt = 0 ∧ k_ground_wide.toInt ≤ 0)) from ⟨(by decide), (Or.inl ⟨by decide, by omega⟩)⟩) (Nat.le_of_ble_eq_true rfl) (Nat.le_of_ble_eq_true rfl) dX7_isTold_15
set_option maxHeartbeats 4000000 in
set_option maxRecDepth 100000 in
theorem sX7_hasAllRows (l : Launch) (dC : Nat → ClassId) (dI : Nat → Nat → Nat) (cy : Nat → ClassId) (h0 : Nat) (k_ground : Nat) (k_errs : Int32) (k_slips : Int32) (k_rows : Int32) (k_unsureCount : Int32) (k_unsure : Nat) (k_walkers : Int32) (k_names : Nat) (k_kinds : Nat) (k_starts : Nat) (k_goals : Nat) (k_walks : Int32) (k_walkStarts : Nat) (k_walkSteps : Nat) (k_walkFell : Nat) (k_ground_wide : Int32) (k_ground_deep : Int32) (k_ground_count : Int32) (k_ground_sorts : Nat) (k_ground_sortsf : Nat → Int32) (hk_rows : 0 ≤ k_rows.toInt ∧ k_rows.toInt ≤ 4) (hk_unsureCount : 0 ≤ k_unsureCount.toInt ∧ k_unsureCount.toInt ≤ 5) (hk_walkers : 0 ≤ k_walkers.toInt ∧ k_walkers.toInt ≤ 4) (hk_walks : 0 ≤ k_walks.toInt ∧ k_walks.toInt ≤ 6) (hk_ground_wide : 0 ≤ k_ground_wide.toInt ∧ k_ground_wide.toInt ≤ 5) (hk_ground_deep : 0 ≤ k_ground_deep.toInt ∧ k_ground_deep.toInt ≤ 4) (hk_ground_count : 0 ≤ k_ground_count.toInt ∧ k_ground_count.toInt ≤ 20) : ctI l dC dI cy hp yX7_hasAllRows cX7_hasAllRows 1 .boolean ({ frames := 1, cells := 0, slots := 0, locals := 20 } : Room) [.ref h0] [(h0, .inr (7, [.ref k_ground, .int k_errs, .int k_slips, .int k_rows, .int k_unsureCount, .ref k_unsure, .int k_walkers, .ref k_names, .ref k_kinds, .ref k_starts, .ref k_goals, .int k_walks, .ref k_walkStarts, .ref k_walkSteps, .ref k_walkFell])), (k_ground, .inr (4, [.int k_ground_wide, .int k_ground_deep, .int k_ground_count, .ref k_ground_sorts])), (k_ground_sorts, .inl (cy 1, 20, .inl k_ground_sortsf))] (S := Unit) (fun r _ => (0 ≤ r.toInt ∧ r.toInt ≤ 1) ∧ ((r.toInt = 1 ∧ 0 < k_ground_wide.toInt ∧ k_ground_deep.toInt ≤ k_rows.toInt) ∨ (r.toInt = 0 ∧ (k_ground_wide.toInt ≤ 0 ∨ k_rows.toInt < k_ground_deep.toInt)))) (fun _ => [(h0, .inr (7, [.ref k_ground, .int k_errs, .int k_slips, .int k_rows, .int k_unsureCount, .ref k_unsure, .int k_walkers, .ref k_names, .ref k_kinds, .ref k_starts, .ref k_goals, .int k_walks, .ref k_walkStarts, .ref k_walkSteps, .ref k_walkFell])), (k_ground, .inr (4, [.int k_ground_wide, .int k_ground_deep, .int k_ground_count, .ref k_ground_sorts])), (k_ground_sorts, .inl (cy 1, 20, .inl k_ground_sortsf))]) := by
  refine ctI.of (by decide +kernel) (Nat.le_of_ble_eq_true rfl) ?_
  intro p e s m args below meth c A ls Q hQ X hr hlocks hin hA hP hD hS hl
  have hx := X.1
  have hb := X.2.1
  have hK := X.2.2.2.2.2.1
  have hl : lv_has ls 1 [(0, .ref h0)] := hl
  refine lv_aload_n hx hb dX7_hasAllRows_0 rfl (lv_at hl 0 rfl) ?_
  refine fI (wr := []) (rV_I (wc := [(h0, .inr (7, [.ref k_ground, .int k_errs, .int k_slips, .int k_rows, .int k_unsureCount, .ref k_unsure, .int k_walkers, .ref k_names, .ref k_kinds, .ref k_starts, .ref k_goals, .int k_walks, .ref k_walkStarts, .ref k_walkSteps, .ref k_walkFell])), (k_ground, .inr (4, [.int k_ground_wide, .int k_ground_deep, .int k_ground_count, .ref k_ground_sorts])), (k_ground_sorts, .inl (cy 1, 20, .inl k_ground_sortsf))]) (As := []) (rest := []) X hp_st (fun _ _ _ h => h) (sX7_isTold l dC dI cy h0 k_ground k_errs k_slips k_rows k_unsureCount k_unsure k_walkers k_names k_kinds k_starts k_goals k_walks k_walkStarts k_walkSteps k_walkFell k_ground_wide k_ground_deep k_ground_count k_ground_sorts k_ground_sortsf hk_rows hk_unsureCount hk_walkers hk_walks hk_ground_wide hk_ground_deep hk_ground_count) kX7_isTold vX7_isTold mX7_65 hP hD hS hA [0, 1, 2] (by decide) rfl 0 (ci := 7) rfl rfl rfl hl rfl rfl (Nat.le_of_ble_eq_true rfl) dX7_hasAllRows_1 ⟨(Nat.le_of_ble_eq_true rfl), (Nat.le_of_ble_eq_true rfl)⟩ ⟨(Nat.le_of_ble_eq_true rfl), (Nat.le_of_ble_eq_true rfl)⟩) hP hD hS hA [0, 1, 2] [] rfl rfl (by decide) (by decide) (fun r_1 u_3 H locs k_2 hP hD hS => ?_)
  have k_2 : (0 ≤ r_1.toInt ∧ r_1.toInt ≤ 1) ∧ ((r_1.toInt = 1 ∧ 0 < k_ground_wide.toInt) ∨ (r_1.toInt = 0 ∧ k_ground_wide.toInt ≤ 0)) := k_2
  obtain ⟨k_2_0, k_2_1⟩ := k_2
  have hP : va_P (dC, dI) vwCl [(h0, .inr (7, [.ref k_ground, .int k_errs, .int k_slips, .int k_rows, .int k_unsureCount, .ref k_unsure, .int k_walkers, .ref k_names, .ref k_kinds, .ref k_starts, .ref k_goals, .int k_walks, .ref k_walkStarts, .ref k_walkSteps, .ref k_walkFell])), (k_ground, .inr (4, [.int k_ground_wide, .int k_ground_deep, .int k_ground_count, .ref k_ground_sorts])), (k_ground_sorts, .inl (cy 1, 20, .inl k_ground_sortsf))] H := hP
  have hD : va_D A [(h0, .inr (7, [.ref k_ground, .int k_errs, .int k_slips, .int k_rows, .int k_unsureCount, .ref k_unsure, .int k_walkers, .ref k_names, .ref k_kinds, .ref k_starts, .ref k_goals, .int k_walks, .ref k_walkStarts, .ref k_walkSteps, .ref k_walkFell])), (k_ground, .inr (4, [.int k_ground_wide, .int k_ground_deep, .int k_ground_count, .ref k_ground_sorts])), (k_ground_sorts, .inl (cy 1, 20, .inl k_ground_sortsf))] := hD
  refine lv_if_eq (tgt := 25) hx hb dX7_hasAllRows_4 (by decide) (fun h_4 => ?_) (fun h_4 => ?_)
  · have h_4 : r_1.toInt = 0 := c_eq h_4
    refine lv_iconst (v := 0) hx hb dX7_hasAllRows_25 (by decide) ?_
    exact eI hQ X hr hlocks hP hD hS () [0, 1, 2] (by decide) rfl rfl (show (0 ≤ (0 : Int32).toInt ∧ (0 : Int32).toInt ≤ 1) ∧ (((0 : Int32).toInt = 1 ∧ 0 < k_ground_wide.toInt ∧ k_ground_deep.toInt ≤ k_rows.toInt) ∨ ((0 : Int32).toInt = 0 ∧ (k_ground_wide.toInt ≤ 0 ∨ k_rows.toInt < k_ground_deep.toInt))) from ⟨(by decide), (Or.inr ⟨by decide, by omega⟩)⟩) (Nat.le_of_ble_eq_true rfl) (Nat.le_of_ble_eq_true rfl) dX7_hasAllRows_26
  · have h_4 : r_1.toInt ≠ 0 := c_ne h_4
    refine lv_aload_n hx hb dX7_hasAllRows_7 rfl (lv_at hl 0 rfl) ?_
    refine r_get X kcX7 (ci := 7) rfl hP 0 rfl 3 (by decide) fX7_49 rfl dX7_hasAllRows_8 ?_
    refine lv_aload_n hx hb dX7_hasAllRows_11 rfl (lv_at hl 0 rfl) ?_
    refine r_get X kcX7 (ci := 7) rfl hP 0 rfl 0 (by decide) fX7_12 rfl dX7_hasAllRows_12 ?_
    refine r_get X kcX4 (ci := 4) rfl hP 1 rfl 1 (by decide) fX7_69 rfl dX7_hasAllRows_15 ?_
    refine lv_icmp_lt (tgt := 25) hx hb dX7_hasAllRows_18 (by decide) (fun h_5 => ?_) (fun h_5 => ?_)
    · have h_5 : k_rows.toInt < k_ground_deep.toInt := c_lt h_5
      refine lv_iconst (v := 0) hx hb dX7_hasAllRows_25 (by decide) ?_
      exact eI hQ X hr hlocks hP hD hS () [0, 1, 2] (by decide) rfl rfl (show (0 ≤ (0 : Int32).toInt ∧ (0 : Int32).toInt ≤ 1) ∧ (((0 : Int32).toInt = 1 ∧ 0 < k_ground_wide.toInt ∧ k_ground_deep.toInt ≤ k_rows.toInt) ∨ ((0 : Int32).toInt = 0 ∧ (k_ground_wide.toInt ≤ 0 ∨ k_rows.toInt < k_ground_deep.toInt))) from ⟨(by decide), (Or.inr ⟨by decide, by omega⟩)⟩) (Nat.le_of_ble_eq_true rfl) (Nat.le_of_ble_eq_true rfl) dX7_hasAllRows_26
    · have h_5 : k_ground_deep.toInt ≤ k_rows.toInt := c_nlt h_5
      refine lv_iconst (v := 1) hx hb dX7_hasAllRows_21 (by decide) ?_
      refine lv_goto (tgt := 26) hx hb dX7_hasAllRows_22 (by decide) ?_
      exact eI hQ X hr hlocks hP hD hS () [0, 1, 2] (by decide) rfl rfl (show (0 ≤ (1 : Int32).toInt ∧ (1 : Int32).toInt ≤ 1) ∧ (((1 : Int32).toInt = 1 ∧ 0 < k_ground_wide.toInt ∧ k_ground_deep.toInt ≤ k_rows.toInt) ∨ ((1 : Int32).toInt = 0 ∧ (k_ground_wide.toInt ≤ 0 ∨ k_rows.toInt < k_ground_deep.toInt))) from ⟨(by decide), (Or.inl ⟨by decide, by omega, by omega⟩)⟩) (Nat.le_of_ble_eq_true rfl) (Nat.le_of_ble_eq_true rfl) dX7_hasAllRows_26
set_option maxHeartbeats 4000000 in
set_option maxRecDepth 100000 in
theorem sX7_unsureBits (l : Launch) (dC : Nat → ClassId) (dI : Nat → Nat → Nat) (cy : Nat → ClassId) (h0 : Nat) (k_ground : Nat) (k_errs : Int32) (k_slips : Int32) (k_rows : Int32) (k_unsureCount : Int32) (k_unsure : Nat) (k_walkers : Int32) (k_names : Nat) (k_kinds : Nat) (k_starts : Nat) (k_goals : Nat) (k_walks : Int32) (k_walkStarts : Nat) (k_walkSteps : Nat) (k_walkFell : Nat) (k_unsuref : Nat → Int32) (p1 : Int32) (hk_rows : 0 ≤ k_rows.toInt ∧ k_rows.toInt ≤ 4) (hk_unsureCount : 0 ≤ k_unsureCount.toInt ∧ k_unsureCount.toInt ≤ 5) (hk_walkers : 0 ≤ k_walkers.toInt ∧ k_walkers.toInt ≤ 4) (hk_walks : 0 ≤ k_walks.toInt ∧ k_walks.toInt ≤ 6) : ctI l dC dI cy hp yX7_unsureBits cX7_unsureBits 4 .int ({ frames := 0, cells := 0, slots := 0, locals := 0 } : Room) [.ref h0, .int p1] [(h0, .inr (7, [.ref k_ground, .int k_errs, .int k_slips, .int k_rows, .int k_unsureCount, .ref k_unsure, .int k_walkers, .ref k_names, .ref k_kinds, .ref k_starts, .ref k_goals, .int k_walks, .ref k_walkStarts, .ref k_walkSteps, .ref k_walkFell])), (k_unsure, .inl (cy 1, 5, .inl k_unsuref))] (S := Unit) (fun r _ => True) (fun _ => [(h0, .inr (7, [.ref k_ground, .int k_errs, .int k_slips, .int k_rows, .int k_unsureCount, .ref k_unsure, .int k_walkers, .ref k_names, .ref k_kinds, .ref k_starts, .ref k_goals, .int k_walks, .ref k_walkStarts, .ref k_walkSteps, .ref k_walkFell])), (k_unsure, .inl (cy 1, 5, .inl k_unsuref))]) := by
  refine ctI.of (by decide +kernel) (Nat.le_of_ble_eq_true rfl) ?_
  intro p e s m args below meth c A ls Q hQ X hr hlocks hin hA hP hD hS hl
  have hx := X.1
  have hb := X.2.1
  have hK := X.2.2.2.2.2.1
  have hl : lv_has ls 4 [(0, .ref h0), (1, .int p1)] := hl
  have dy_1 := ti_bd p1
  refine lv_iconst (v := 0) hx hb dX7_unsureBits_0 (by decide) ?_
  refine lv_istore_n (lv' := [(2, .int 0), (0, .ref h0), (1, .int p1)]) hx hb dX7_unsureBits_1 rfl hl (by decide) rfl (fun ls hl => ?_)
  refine lv_iconst (v := 0) hx hb dX7_unsureBits_2 (by decide) ?_
  refine lv_istore_n (lv' := [(3, .int 0), (2, .int 0), (0, .ref h0), (1, .int p1)]) hx hb dX7_unsureBits_3 rfl hl (by decide) rfl (fun ls hl => ?_)
  have lp_2 : ∀ (nlp_2 : Nat) (i_3 : Int32) (i_5 : Int32) (H : Heap) (locs : List Loc) (ls : Array Slot), (0 ≤ i_3.toInt ∧ i_3.toInt ≤ 5) → (6 - i_3.toInt ≤ (nlp_2 : Int)) → va_P (dC, dI) vwCl [(h0, .inr (7, [.ref k_ground, .int k_errs, .int k_slips, .int k_rows, .int k_unsureCount, .ref k_unsure, .int k_walkers, .ref k_names, .ref k_kinds, .ref k_starts, .ref k_goals, .int k_walks, .ref k_walkStarts, .ref k_walkSteps, .ref k_walkFell])), (k_unsure, .inl (cy 1, 5, .inl k_unsuref))] H → va_D A [(h0, .inr (7, [.ref k_ground, .int k_errs, .int k_slips, .int k_rows, .int k_unsureCount, .ref k_unsure, .int k_walkers, .ref k_names, .ref k_kinds, .ref k_starts, .ref k_goals, .int k_walks, .ref k_walkStarts, .ref k_walkSteps, .ref k_walkFell])), (k_unsure, .inl (cy 1, 5, .inl k_unsuref))] → va_S A s.heap H locs → lv_has ls 4 [(3, .int i_3), (2, .int i_5), (0, .ref h0), (1, .int p1)] → W p l e ({ frames := 0, cells := 0, slots := 0, locals := 0 } : Room) s m args below meth c H locs 0 0 Q (F0 m 4 ls []) := by
    intro nlp_2
    induction nlp_2 with
    | zero =>
      intro i_3 i_5 H locs ls b_4 hmlp_2 hP hD hS hl
      exfalso
      have di_3 := ti_bd i_3
      have di_5 := ti_bd i_5
      omega
    | succ nlp_2 ihlp_2 =>
      intro i_3 i_5 H locs ls b_4 hmlp_2 hP hD hS hl
      refine lv_iload_n hx hb dX7_unsureBits_4 rfl (lv_at hl 0 rfl) ?_
      refine lv_aload_n hx hb dX7_unsureBits_5 rfl (lv_at hl 2 rfl) ?_
      refine r_get X kcX7 (ci := 7) rfl hP 0 rfl 4 (by decide) fX7_53 rfl dX7_unsureBits_6 ?_
      refine lv_icmp_ge (tgt := 38) hx hb dX7_unsureBits_9 (by decide) (fun h_6 => ?_) (fun h_6 => ?_)
      · have h_6 : k_unsureCount.toInt ≤ i_3.toInt := c_le h_6
        refine lv_iload_n hx hb dX7_unsureBits_38 rfl (lv_at hl 1 rfl) ?_
        exact eI hQ X hr hlocks hP hD hS () [0, 1] (by decide) rfl rfl trivial (Nat.le_of_ble_eq_true rfl) (Nat.le_of_ble_eq_true rfl) dX7_unsureBits_39
      · have h_6 : i_3.toInt < k_unsureCount.toInt := c_nle h_6
        refine lv_iload_n hx hb dX7_unsureBits_12 rfl (lv_at hl 3 rfl) ?_
        refine lv_iload_n hx hb dX7_unsureBits_13 rfl (lv_at hl 0 rfl) ?_
        refine lv_ishr hx hb dX7_unsureBits_14 ?_
        refine lv_topi (fun x_7 ex_7 => ?_)
        refine lv_iconst (v := 1) hx hb dX7_unsureBits_15 (by decide) ?_
        refine lv_iand hx hb dX7_unsureBits_16 ?_
        have dy_8 := ti_bd x_7
        refine lv_topi (fun x_9 ex_9 => ?_)
        have tx_9 : x_9.toInt = 0 ∨ x_9.toInt = 1 := ti_and1 ex_9
        refine lv_iconst (v := 1) hx hb dX7_unsureBits_17 (by decide) ?_
        refine lv_icmp_ne (tgt := 32) hx hb dX7_unsureBits_18 (by decide) (fun h_10 => ?_) (fun h_10 => ?_)
        · have h_10 : x_9.toInt ≠ 1 := c_ne h_10
          obtain ⟨x_11, ex_11⟩ : ∃ y : Int32, y = i_3 + 1 := ⟨_, rfl⟩
          have tx_11 : x_11.toInt = i_3.toInt + 1 := ti_add (A := i_3.toInt) (B := 1) ex_11 rfl rfl (by omega) (by omega)
          refine lv_iinc (v := x_11) (lv' := [(3, .int x_11), (2, .int i_5), (0, .ref h0), (1, .int p1)]) hx hb dX7_unsureBits_32 hl (k := 0) rfl (by rw [ex_11]; rfl) (by decide) rfl (fun ls hl => ?_)
          refine lv_goto (tgt := 4) hx hb dX7_unsureBits_35 (by decide) ?_
          exact ihlp_2 x_11 i_5 _ _ _ (by omega) (show 6 - x_11.toInt ≤ (nlp_2 : Int) by omega) hP hD hS (lv_sub hl [0, 1, 2, 3] rfl)
        · have h_10 : x_9.toInt = 1 := c_eq h_10
          refine lv_iload_n hx hb dX7_unsureBits_21 rfl (lv_at hl 1 rfl) ?_
          refine lv_iconst (v := 1) hx hb dX7_unsureBits_22 (by decide) ?_
          refine lv_aload_n hx hb dX7_unsureBits_23 rfl (lv_at hl 2 rfl) ?_
          refine r_get X kcX7 (ci := 7) rfl hP 0 rfl 5 (by decide) fX7_18 rfl dX7_unsureBits_24 ?_
          refine lv_iload_n hx hb dX7_unsureBits_27 rfl (lv_at hl 0 rfl) ?_
          refine va_iald (D := (dC, dI)) (cl := vwCl) hx hb hK hP 1 1 rfl rfl (i := i_3) (vin (by omega) (by omega)) dX7_unsureBits_28 ?_
          refine lv_topi (fun x_12 ex_12 => ?_)
          refine lv_ishl hx hb dX7_unsureBits_29 ?_
          have dy_13 := ti_bd x_12
          refine lv_topi (fun x_14 ex_14 => ?_)
          refine lv_ior hx hb dX7_unsureBits_30 ?_
          have dy_15 := ti_bd i_5
          have dy_16 := ti_bd x_14
          refine lv_topi (fun x_17 ex_17 => ?_)
          refine lv_istore_n (lv' := [(2, .int x_17), (3, .int i_3), (0, .ref h0), (1, .int p1)]) hx hb dX7_unsureBits_31 rfl hl (by decide) rfl (fun ls hl => ?_)
          obtain ⟨x_18, ex_18⟩ : ∃ y : Int32, y = i_3 + 1 := ⟨_, rfl⟩
          have tx_18 : x_18.toInt = i_3.toInt + 1 := ti_add (A := i_3.toInt) (B := 1) ex_18 rfl rfl (by omega) (by omega)
          refine lv_iinc (v := x_18) (lv' := [(3, .int x_18), (2, .int x_17), (0, .ref h0), (1, .int p1)]) hx hb dX7_unsureBits_32 hl (k := 1) rfl (by rw [ex_18]; rfl) (by decide) rfl (fun ls hl => ?_)
          refine lv_goto (tgt := 4) hx hb dX7_unsureBits_35 (by decide) ?_
          exact ihlp_2 x_18 x_17 _ _ _ (by omega) (show 6 - x_18.toInt ≤ (nlp_2 : Int) by omega) hP hD hS (lv_sub hl [0, 1, 2, 3] rfl)
  exact lp_2 6 0 0 _ _ _ (by decide) (show 6 - 0 ≤ ((6 : Nat) : Int) by omega) hP hD hS hl
set_option maxHeartbeats 4000000 in
set_option maxRecDepth 100000 in
theorem sX7_isUnsure (l : Launch) (dC : Nat → ClassId) (dI : Nat → Nat → Nat) (cy : Nat → ClassId) (h0 : Nat) (k_ground : Nat) (k_errs : Int32) (k_slips : Int32) (k_rows : Int32) (k_unsureCount : Int32) (k_unsure : Nat) (k_walkers : Int32) (k_names : Nat) (k_kinds : Nat) (k_starts : Nat) (k_goals : Nat) (k_walks : Int32) (k_walkStarts : Nat) (k_walkSteps : Nat) (k_walkFell : Nat) (k_unsuref : Nat → Int32) (p1 : Int32) (hk_rows : 0 ≤ k_rows.toInt ∧ k_rows.toInt ≤ 4) (hk_unsureCount : 0 ≤ k_unsureCount.toInt ∧ k_unsureCount.toInt ≤ 5) (hk_walkers : 0 ≤ k_walkers.toInt ∧ k_walkers.toInt ≤ 4) (hk_walks : 0 ≤ k_walks.toInt ∧ k_walks.toInt ≤ 6) : ctI l dC dI cy hp yX7_isUnsure cX7_isUnsure 2 .boolean ({ frames := 1, cells := 0, slots := 0, locals := 23 } : Room) [.ref h0, .int p1] [(h0, .inr (7, [.ref k_ground, .int k_errs, .int k_slips, .int k_rows, .int k_unsureCount, .ref k_unsure, .int k_walkers, .ref k_names, .ref k_kinds, .ref k_starts, .ref k_goals, .int k_walks, .ref k_walkStarts, .ref k_walkSteps, .ref k_walkFell])), (k_unsure, .inl (cy 1, 5, .inl k_unsuref))] (S := Unit) (fun r _ => (0 ≤ r.toInt ∧ r.toInt ≤ 1)) (fun _ => [(h0, .inr (7, [.ref k_ground, .int k_errs, .int k_slips, .int k_rows, .int k_unsureCount, .ref k_unsure, .int k_walkers, .ref k_names, .ref k_kinds, .ref k_starts, .ref k_goals, .int k_walks, .ref k_walkStarts, .ref k_walkSteps, .ref k_walkFell])), (k_unsure, .inl (cy 1, 5, .inl k_unsuref))]) := by
  refine ctI.of (by decide +kernel) (Nat.le_of_ble_eq_true rfl) ?_
  intro p e s m args below meth c A ls Q hQ X hr hlocks hin hA hP hD hS hl
  have hx := X.1
  have hb := X.2.1
  have hK := X.2.2.2.2.2.1
  have hl : lv_has ls 2 [(0, .ref h0), (1, .int p1)] := hl
  have dy_1 := ti_bd p1
  refine lv_aload_n hx hb dX7_isUnsure_0 rfl (lv_at hl 0 rfl) ?_
  refine lv_iconst (v := 1) hx hb dX7_isUnsure_1 (by decide) ?_
  refine lv_aload_n hx hb dX7_isUnsure_2 rfl (lv_at hl 0 rfl) ?_
  refine r_get X kcX7 (ci := 7) rfl hP 0 rfl 4 (by decide) fX7_53 rfl dX7_isUnsure_3 ?_
  refine lv_ishl hx hb dX7_isUnsure_6 ?_
  refine lv_topi (fun x_2 ex_2 => ?_)
  have tx_2 : 1 ≤ x_2.toInt ∧ x_2.toInt ≤ 32 := ti_shl5 ex_2 (by omega) (by omega)
  refine lv_iconst (v := 1) hx hb dX7_isUnsure_7 (by decide) ?_
  refine lv_isub hx hb dX7_isUnsure_8 ?_
  refine lv_topi (fun x_3 ex_3 => ?_)
  have tx_3 : x_3.toInt = x_2.toInt - 1 := ti_sub (A := x_2.toInt) (B := 1) ex_3 rfl rfl (by omega) (by omega)
  refine fI (wr := []) (rV_I (wc := [(h0, .inr (7, [.ref k_ground, .int k_errs, .int k_slips, .int k_rows, .int k_unsureCount, .ref k_unsure, .int k_walkers, .ref k_names, .ref k_kinds, .ref k_starts, .ref k_goals, .int k_walks, .ref k_walkStarts, .ref k_walkSteps, .ref k_walkFell])), (k_unsure, .inl (cy 1, 5, .inl k_unsuref))]) (As := [.int x_3]) (rest := []) X hp_st (fun _ _ _ h => h) (sX7_unsureBits l dC dI cy h0 k_ground k_errs k_slips k_rows k_unsureCount k_unsure k_walkers k_names k_kinds k_starts k_goals k_walks k_walkStarts k_walkSteps k_walkFell k_unsuref x_3 hk_rows hk_unsureCount hk_walkers hk_walks) kX7_unsureBits vX7_unsureBits mX7_72 hP hD hS hA [0, 1] (by decide) rfl 0 (ci := 7) rfl rfl rfl hl rfl rfl (Nat.le_of_ble_eq_true rfl) dX7_isUnsure_9 ⟨(Nat.le_of_ble_eq_true rfl), (Nat.le_of_ble_eq_true rfl)⟩ ⟨(Nat.le_of_ble_eq_true rfl), (Nat.le_of_ble_eq_true rfl)⟩) hP hD hS hA [0, 1] [] rfl rfl (by decide) (by decide) (fun r_4 u_6 H locs k_5 hP hD hS => ?_)
  have hP : va_P (dC, dI) vwCl [(h0, .inr (7, [.ref k_ground, .int k_errs, .int k_slips, .int k_rows, .int k_unsureCount, .ref k_unsure, .int k_walkers, .ref k_names, .ref k_kinds, .ref k_starts, .ref k_goals, .int k_walks, .ref k_walkStarts, .ref k_walkSteps, .ref k_walkFell])), (k_unsure, .inl (cy 1, 5, .inl k_unsuref))] H := hP
  have hD : va_D A [(h0, .inr (7, [.ref k_ground, .int k_errs, .int k_slips, .int k_rows, .int k_unsureCount, .ref k_unsure, .int k_walkers, .ref k_names, .ref k_kinds, .ref k_starts, .ref k_goals, .int k_walks, .ref k_walkStarts, .ref k_walkSteps, .ref k_walkFell])), (k_unsure, .inl (cy 1, 5, .inl k_unsuref))] := hD
  refine lv_iload_n hx hb dX7_isUnsure_12 rfl (lv_at hl 1 rfl) ?_
  refine lv_ishr hx hb dX7_isUnsure_13 ?_
  have dy_7 := ti_bd r_4
  refine lv_topi (fun x_8 ex_8 => ?_)
  refine lv_iconst (v := 1) hx hb dX7_isUnsure_14 (by decide) ?_
  refine lv_iand hx hb dX7_isUnsure_15 ?_
  have dy_9 := ti_bd x_8
  refine lv_topi (fun x_10 ex_10 => ?_)
  have tx_10 : x_10.toInt = 0 ∨ x_10.toInt = 1 := ti_and1 ex_10
  refine lv_iconst (v := 1) hx hb dX7_isUnsure_16 (by decide) ?_
  refine lv_icmp_ne (tgt := 24) hx hb dX7_isUnsure_17 (by decide) (fun h_11 => ?_) (fun h_11 => ?_)
  · have h_11 : x_10.toInt ≠ 1 := c_ne h_11
    refine lv_iconst (v := 0) hx hb dX7_isUnsure_24 (by decide) ?_
    exact eI hQ X hr hlocks hP hD hS () [0, 1] (by decide) rfl rfl (show (0 ≤ (0 : Int32).toInt ∧ (0 : Int32).toInt ≤ 1) from (by first | omega | decide | (refine ⟨by decide, ?_⟩; omega) | (have h9_0 : (0 : Int32).toInt = 0 := (by decide); omega))) (Nat.le_of_ble_eq_true rfl) (Nat.le_of_ble_eq_true rfl) dX7_isUnsure_25
  · have h_11 : x_10.toInt = 1 := c_eq h_11
    refine lv_iconst (v := 1) hx hb dX7_isUnsure_20 (by decide) ?_
    refine lv_goto (tgt := 25) hx hb dX7_isUnsure_21 (by decide) ?_
    exact eI hQ X hr hlocks hP hD hS () [0, 1] (by decide) rfl rfl (show (0 ≤ (1 : Int32).toInt ∧ (1 : Int32).toInt ≤ 1) from (by first | omega | decide | (refine ⟨by decide, ?_⟩; omega) | (have h9_0 : (1 : Int32).toInt = 1 := (by decide); omega))) (Nat.le_of_ble_eq_true rfl) (Nat.le_of_ble_eq_true rfl) dX7_isUnsure_25
set_option maxHeartbeats 4000000 in
set_option maxRecDepth 100000 in
theorem sX7_isToldWrongly (l : Launch) (dC : Nat → ClassId) (dI : Nat → Nat → Nat) (cy : Nat → ClassId) (h0 : Nat) (k_ground : Nat) (k_errs : Int32) (k_slips : Int32) (k_rows : Int32) (k_unsureCount : Int32) (k_unsure : Nat) (k_walkers : Int32) (k_names : Nat) (k_kinds : Nat) (k_starts : Nat) (k_goals : Nat) (k_walks : Int32) (k_walkStarts : Nat) (k_walkSteps : Nat) (k_walkFell : Nat) (k_ground_wide : Int32) (k_ground_deep : Int32) (k_ground_count : Int32) (k_ground_sorts : Nat) (k_ground_sortsf : Nat → Int32) (k_walkStartsf : Nat → Int32) (k_walkStepsf : Nat → Int32) (k_walkFellf : Nat → Int32) (p1 : Int32) (p2 : Int32) (hk_rows : 0 ≤ k_rows.toInt ∧ k_rows.toInt ≤ 4) (hk_unsureCount : 0 ≤ k_unsureCount.toInt ∧ k_unsureCount.toInt ≤ 5) (hk_walkers : 0 ≤ k_walkers.toInt ∧ k_walkers.toInt ≤ 4) (hk_walks : 0 ≤ k_walks.toInt ∧ k_walks.toInt ≤ 6) (hk_ground_wide : 0 ≤ k_ground_wide.toInt ∧ k_ground_wide.toInt ≤ 5) (hk_ground_deep : 0 ≤ k_ground_deep.toInt ∧ k_ground_deep.toInt ≤ 4) (hk_ground_count : 0 ≤ k_ground_count.toInt ∧ k_ground_count.toInt ≤ 20) (hk_walkStepsf : rb k_walkStepsf 6 (-2147483648) 3) (hp1 : 0 ≤ p1.toInt ∧ p1.toInt ≤ 5) : ctI l dC dI cy hp yX7_isToldWrongly cX7_isToldWrongly 4 .boolean ({ frames := 1, cells := 0, slots := 0, locals := 24 } : Room) [.ref h0, .int p1, .int p2] [(h0, .inr (7, [.ref k_ground, .int k_errs, .int k_slips, .int k_rows, .int k_unsureCount, .ref k_unsure, .int k_walkers, .ref k_names, .ref k_kinds, .ref k_starts, .ref k_goals, .int k_walks, .ref k_walkStarts, .ref k_walkSteps, .ref k_walkFell])), (k_ground, .inr (4, [.int k_ground_wide, .int k_ground_deep, .int k_ground_count, .ref k_ground_sorts])), (k_ground_sorts, .inl (cy 1, 20, .inl k_ground_sortsf)), (k_walkStarts, .inl (cy 1, 6, .inl k_walkStartsf)), (k_walkSteps, .inl (cy 1, 6, .inl k_walkStepsf)), (k_walkFell, .inl (cy 3, 6, .inl k_walkFellf))] (S := Unit) (fun r _ => (0 ≤ r.toInt ∧ r.toInt ≤ 1)) (fun _ => [(h0, .inr (7, [.ref k_ground, .int k_errs, .int k_slips, .int k_rows, .int k_unsureCount, .ref k_unsure, .int k_walkers, .ref k_names, .ref k_kinds, .ref k_starts, .ref k_goals, .int k_walks, .ref k_walkStarts, .ref k_walkSteps, .ref k_walkFell])), (k_ground, .inr (4, [.int k_ground_wide, .int k_ground_deep, .int k_ground_count, .ref k_ground_sorts])), (k_ground_sorts, .inl (cy 1, 20, .inl k_ground_sortsf)), (k_walkStarts, .inl (cy 1, 6, .inl k_walkStartsf)), (k_walkSteps, .inl (cy 1, 6, .inl k_walkStepsf)), (k_walkFell, .inl (cy 3, 6, .inl k_walkFellf))]) := by
  refine ctI.of (by decide +kernel) (Nat.le_of_ble_eq_true rfl) ?_
  intro p e s m args below meth c A ls Q hQ X hr hlocks hin hA hP hD hS hl
  have hx := X.1
  have hb := X.2.1
  have hK := X.2.2.2.2.2.1
  have hl : lv_has ls 4 [(0, .ref h0), (1, .int p1), (2, .int p2)] := hl
  have dy_1 := ti_bd p2
  refine lv_aload_n hx hb dX7_isToldWrongly_0 rfl (lv_at hl 0 rfl) ?_
  refine r_get X kcX7 (ci := 7) rfl hP 0 rfl 0 (by decide) fX7_12 rfl dX7_isToldWrongly_1 ?_
  refine lv_aload_n hx hb dX7_isToldWrongly_4 rfl (lv_at hl 0 rfl) ?_
  refine r_get X kcX7 (ci := 7) rfl hP 0 rfl 12 (by decide) fX7_35 rfl dX7_isToldWrongly_5 ?_
  refine lv_iload_n hx hb dX7_isToldWrongly_8 rfl (lv_at hl 1 rfl) ?_
  refine va_iald (D := (dC, dI)) (cl := vwCl) hx hb hK hP 3 1 rfl rfl (i := p1) (vin (by omega) (by omega)) dX7_isToldWrongly_9 ?_
  refine lv_topi (fun x_2 ex_2 => ?_)
  refine lv_aload_n hx hb dX7_isToldWrongly_10 rfl (lv_at hl 0 rfl) ?_
  refine r_get X kcX7 (ci := 7) rfl hP 0 rfl 13 (by decide) fX7_38 rfl dX7_isToldWrongly_11 ?_
  refine lv_iload_n hx hb dX7_isToldWrongly_14 rfl (lv_at hl 1 rfl) ?_
  refine va_iald (D := (dC, dI)) (cl := vwCl) hx hb hK hP 4 1 rfl rfl (i := p1) (vin (by omega) (by omega)) dX7_isToldWrongly_15 ?_
  refine lv_topi (fun x_3 ex_3 => ?_)
  have bx_3 : (-2147483648) ≤ x_3.toInt ∧ x_3.toInt ≤ 3 := rb_at hk_walkStepsf ex_3 (by omega) (by omega)
  refine fI (wr := [(h0, .inr (7, [.ref k_ground, .int k_errs, .int k_slips, .int k_rows, .int k_unsureCount, .ref k_unsure, .int k_walkers, .ref k_names, .ref k_kinds, .ref k_starts, .ref k_goals, .int k_walks, .ref k_walkStarts, .ref k_walkSteps, .ref k_walkFell])), (k_ground_sorts, .inl (cy 1, 20, .inl k_ground_sortsf)), (k_walkStarts, .inl (cy 1, 6, .inl k_walkStartsf)), (k_walkSteps, .inl (cy 1, 6, .inl k_walkStepsf)), (k_walkFell, .inl (cy 3, 6, .inl k_walkFellf))]) (rV_I (wc := [(k_ground, .inr (4, [.int k_ground_wide, .int k_ground_deep, .int k_ground_count, .ref k_ground_sorts]))]) (As := [.int x_2, .int x_3]) (rest := []) X hp_st (fun _ _ _ h => h) (sX4_bitsSouthOf l dC dI cy k_ground k_ground_wide k_ground_deep k_ground_count k_ground_sorts x_2 x_3 hk_ground_wide hk_ground_deep hk_ground_count (by first | omega | decide)) kX4_bitsSouthOf vX4_bitsSouthOf mX7_76 hP hD hS hA [1] (by decide) rfl 0 (ci := 4) rfl rfl rfl hl rfl rfl (Nat.le_of_ble_eq_true rfl) dX7_isToldWrongly_16 ⟨(Nat.le_of_ble_eq_true rfl), (Nat.le_of_ble_eq_true rfl)⟩ ⟨(Nat.le_of_ble_eq_true rfl), (Nat.le_of_ble_eq_true rfl)⟩) hP hD hS hA [1] [0, 2, 3, 4, 5] rfl rfl (by decide) (by decide) (fun r_4 u_6 H locs k_5 hP hD hS => ?_)
  have hP : va_P (dC, dI) vwCl [(h0, .inr (7, [.ref k_ground, .int k_errs, .int k_slips, .int k_rows, .int k_unsureCount, .ref k_unsure, .int k_walkers, .ref k_names, .ref k_kinds, .ref k_starts, .ref k_goals, .int k_walks, .ref k_walkStarts, .ref k_walkSteps, .ref k_walkFell])), (k_ground_sorts, .inl (cy 1, 20, .inl k_ground_sortsf)), (k_walkStarts, .inl (cy 1, 6, .inl k_walkStartsf)), (k_walkSteps, .inl (cy 1, 6, .inl k_walkStepsf)), (k_walkFell, .inl (cy 3, 6, .inl k_walkFellf)), (k_ground, .inr (4, [.int k_ground_wide, .int k_ground_deep, .int k_ground_count, .ref k_ground_sorts]))] H := hP
  have hD : va_D A [(h0, .inr (7, [.ref k_ground, .int k_errs, .int k_slips, .int k_rows, .int k_unsureCount, .ref k_unsure, .int k_walkers, .ref k_names, .ref k_kinds, .ref k_starts, .ref k_goals, .int k_walks, .ref k_walkStarts, .ref k_walkSteps, .ref k_walkFell])), (k_ground_sorts, .inl (cy 1, 20, .inl k_ground_sortsf)), (k_walkStarts, .inl (cy 1, 6, .inl k_walkStartsf)), (k_walkSteps, .inl (cy 1, 6, .inl k_walkStepsf)), (k_walkFell, .inl (cy 3, 6, .inl k_walkFellf)), (k_ground, .inr (4, [.int k_ground_wide, .int k_ground_deep, .int k_ground_count, .ref k_ground_sorts]))] := hD
  refine lv_iload_n hx hb dX7_isToldWrongly_19 rfl (lv_at hl 2 rfl) ?_
  refine lv_iand hx hb dX7_isToldWrongly_20 ?_
  have dy_7 := ti_bd r_4
  refine lv_topi (fun x_8 ex_8 => ?_)
  refine lv_if_eq (tgt := 28) hx hb dX7_isToldWrongly_21 (by decide) (fun h_9 => ?_) (fun h_9 => ?_)
  · have h_9 : x_8.toInt = 0 := c_eq h_9
    refine lv_iconst (v := 0) hx hb dX7_isToldWrongly_28 (by decide) ?_
    refine lv_istore_n (lv' := [(3, .int 0), (0, .ref h0), (1, .int p1), (2, .int p2)]) hx hb dX7_isToldWrongly_29 rfl hl (by decide) rfl (fun ls hl => ?_)
    refine lv_iload_n hx hb dX7_isToldWrongly_30 rfl (lv_at hl 0 rfl) ?_
    refine lv_aload_n hx hb dX7_isToldWrongly_31 rfl (lv_at hl 1 rfl) ?_
    refine r_get X kcX7 (ci := 7) rfl hP 0 rfl 14 (by decide) fX7_41 rfl dX7_isToldWrongly_32 ?_
    refine lv_iload_n hx hb dX7_isToldWrongly_35 rfl (lv_at hl 2 rfl) ?_
    refine va_zald (D := (dC, dI)) (cl := vwCl) hx hb hK hP 4 3 rfl rfl (i := p1) (vin (by omega) (by omega)) dX7_isToldWrongly_36 ?_
    refine lv_topi (fun x_10 ex_10 => ?_)
    refine lv_icmp_eq (tgt := 44) hx hb dX7_isToldWrongly_37 (by decide) (fun h_11 => ?_) (fun h_11 => ?_)
    · have h_11 : 0 = x_10.toInt := c_eq h_11
      refine lv_iconst (v := 0) hx hb dX7_isToldWrongly_44 (by decide) ?_
      exact eI hQ X hr hlocks hP hD hS () [0, 5, 1, 2, 3, 4] (by decide) rfl rfl (show (0 ≤ (0 : Int32).toInt ∧ (0 : Int32).toInt ≤ 1) from (by first | omega | decide | (refine ⟨by decide, ?_⟩; omega) | (have h9_0 : (0 : Int32).toInt = 0 := (by decide); omega))) (Nat.le_of_ble_eq_true rfl) (Nat.le_of_ble_eq_true rfl) dX7_isToldWrongly_45
    · have h_11 : 0 ≠ x_10.toInt := c_ne h_11
      refine lv_iconst (v := 1) hx hb dX7_isToldWrongly_40 (by decide) ?_
      refine lv_goto (tgt := 45) hx hb dX7_isToldWrongly_41 (by decide) ?_
      exact eI hQ X hr hlocks hP hD hS () [0, 5, 1, 2, 3, 4] (by decide) rfl rfl (show (0 ≤ (1 : Int32).toInt ∧ (1 : Int32).toInt ≤ 1) from (by first | omega | decide | (refine ⟨by decide, ?_⟩; omega) | (have h9_0 : (1 : Int32).toInt = 1 := (by decide); omega))) (Nat.le_of_ble_eq_true rfl) (Nat.le_of_ble_eq_true rfl) dX7_isToldWrongly_45
  · have h_9 : x_8.toInt ≠ 0 := c_ne h_9
    refine lv_iconst (v := 1) hx hb dX7_isToldWrongly_24 (by decide) ?_
    refine lv_goto (tgt := 29) hx hb dX7_isToldWrongly_25 (by decide) ?_
    refine lv_istore_n (lv' := [(3, .int 1), (0, .ref h0), (1, .int p1), (2, .int p2)]) hx hb dX7_isToldWrongly_29 rfl hl (by decide) rfl (fun ls hl => ?_)
    refine lv_iload_n hx hb dX7_isToldWrongly_30 rfl (lv_at hl 0 rfl) ?_
    refine lv_aload_n hx hb dX7_isToldWrongly_31 rfl (lv_at hl 1 rfl) ?_
    refine r_get X kcX7 (ci := 7) rfl hP 0 rfl 14 (by decide) fX7_41 rfl dX7_isToldWrongly_32 ?_
    refine lv_iload_n hx hb dX7_isToldWrongly_35 rfl (lv_at hl 2 rfl) ?_
    refine va_zald (D := (dC, dI)) (cl := vwCl) hx hb hK hP 4 3 rfl rfl (i := p1) (vin (by omega) (by omega)) dX7_isToldWrongly_36 ?_
    refine lv_topi (fun x_12 ex_12 => ?_)
    refine lv_icmp_eq (tgt := 44) hx hb dX7_isToldWrongly_37 (by decide) (fun h_13 => ?_) (fun h_13 => ?_)
    · have h_13 : 1 = x_12.toInt := c_eq h_13
      refine lv_iconst (v := 0) hx hb dX7_isToldWrongly_44 (by decide) ?_
      exact eI hQ X hr hlocks hP hD hS () [0, 5, 1, 2, 3, 4] (by decide) rfl rfl (show (0 ≤ (0 : Int32).toInt ∧ (0 : Int32).toInt ≤ 1) from (by first | omega | decide | (refine ⟨by decide, ?_⟩; omega) | (have h9_0 : (0 : Int32).toInt = 0 := (by decide); omega))) (Nat.le_of_ble_eq_true rfl) (Nat.le_of_ble_eq_true rfl) dX7_isToldWrongly_45
    · have h_13 : 1 ≠ x_12.toInt := c_ne h_13
      refine lv_iconst (v := 1) hx hb dX7_isToldWrongly_40 (by decide) ?_
      refine lv_goto (tgt := 45) hx hb dX7_isToldWrongly_41 (by decide) ?_
      exact eI hQ X hr hlocks hP hD hS () [0, 5, 1, 2, 3, 4] (by decide) rfl rfl (show (0 ≤ (1 : Int32).toInt ∧ (1 : Int32).toInt ≤ 1) from (by first | omega | decide | (refine ⟨by decide, ?_⟩; omega) | (have h9_0 : (1 : Int32).toInt = 1 := (by decide); omega))) (Nat.le_of_ble_eq_true rfl) (Nat.le_of_ble_eq_true rfl) dX7_isToldWrongly_45
