set_option maxHeartbeats 4000000 in
set_option maxRecDepth 100000 in
theorem sX12_isUnsure (l : Launch) (dC : Nat → ClassId) (dI : Nat → Nat → Nat) (cy : Nat → ClassId) (h0 : Nat) (k_wide : Int32) (k_deep : Int32) (k_errs : Int32) (k_slips : Int32) (k_rows : Int32) (k_walkers : Int32) (k_walks : Int32) (k_unsures : Int32) (k_sort : Nat) (k_unsure : Nat) (k_kind : Nat) (k_at : Nat) (k_to : Nat) (k_from : Nat) (k_steps : Nat) (k_fell : Nat) (k_name : Nat) (k_unsuref : Nat → Int32) (p1 : Int32) (hk_wide : 0 ≤ k_wide.toInt ∧ k_wide.toInt ≤ 5) (hk_deep : 0 ≤ k_deep.toInt ∧ k_deep.toInt ≤ 4) (hk_rows : 0 ≤ k_rows.toInt ∧ k_rows.toInt ≤ 4) (hk_walkers : 0 ≤ k_walkers.toInt ∧ k_walkers.toInt ≤ 4) (hk_walks : 0 ≤ k_walks.toInt ∧ k_walks.toInt ≤ 6) (hk_unsures : 0 ≤ k_unsures.toInt ∧ k_unsures.toInt ≤ 5) : ctI l dC dI cy hp yX12_isUnsure cX12_isUnsure 3 .boolean ({ frames := 0, cells := 0, slots := 0, locals := 0 } : Room) [.ref h0, .int p1] [(h0, .inr (11, [.int k_wide, .int k_deep, .int k_errs, .int k_slips, .int k_rows, .int k_walkers, .int k_walks, .int k_unsures, .ref k_sort, .ref k_unsure, .ref k_kind, .ref k_at, .ref k_to, .ref k_from, .ref k_steps, .ref k_fell, .ref k_name])), (k_unsure, .inl (cy 1, 5, .inl k_unsuref))] (S := Unit) (fun r _ => (0 ≤ r.toInt ∧ r.toInt ≤ 1)) (fun _ => [(h0, .inr (11, [.int k_wide, .int k_deep, .int k_errs, .int k_slips, .int k_rows, .int k_walkers, .int k_walks, .int k_unsures, .ref k_sort, .ref k_unsure, .ref k_kind, .ref k_at, .ref k_to, .ref k_from, .ref k_steps, .ref k_fell, .ref k_name])), (k_unsure, .inl (cy 1, 5, .inl k_unsuref))]) := by
  refine ctI.of (by decide +kernel) (Nat.le_of_ble_eq_true rfl) ?_
  intro p e s m args below meth c A ls Q hQ X hr hlocks hin hA hP hD hS hl
  have hx := X.1
  have hb := X.2.1
  have hK := X.2.2.2.2.2.1
  have hl : lv_has ls 3 [(0, .ref h0), (1, .int p1)] := hl
  have dy_1 := ti_bd p1
  refine lv_iconst (v := 0) hx hb dX12_isUnsure_0 (by decide) ?_
  refine lv_istore_n (lv' := [(2, .int 0), (0, .ref h0), (1, .int p1)]) hx hb dX12_isUnsure_1 rfl hl (by decide) rfl (fun ls hl => ?_)
  have lp_2 : ∀ (nlp_2 : Nat) (i_3 : Int32) (H : Heap) (locs : List Loc) (ls : Array Slot), (0 ≤ i_3.toInt ∧ i_3.toInt ≤ 5) → (6 - i_3.toInt ≤ (nlp_2 : Int)) → va_P (dC, dI) vwCl [(h0, .inr (11, [.int k_wide, .int k_deep, .int k_errs, .int k_slips, .int k_rows, .int k_walkers, .int k_walks, .int k_unsures, .ref k_sort, .ref k_unsure, .ref k_kind, .ref k_at, .ref k_to, .ref k_from, .ref k_steps, .ref k_fell, .ref k_name])), (k_unsure, .inl (cy 1, 5, .inl k_unsuref))] H → va_D A [(h0, .inr (11, [.int k_wide, .int k_deep, .int k_errs, .int k_slips, .int k_rows, .int k_walkers, .int k_walks, .int k_unsures, .ref k_sort, .ref k_unsure, .ref k_kind, .ref k_at, .ref k_to, .ref k_from, .ref k_steps, .ref k_fell, .ref k_name])), (k_unsure, .inl (cy 1, 5, .inl k_unsuref))] → va_S A s.heap H locs → lv_has ls 3 [(2, .int i_3), (0, .ref h0), (1, .int p1)] → W p l e ({ frames := 0, cells := 0, slots := 0, locals := 0 } : Room) s m args below meth c H locs 0 0 Q (F0 m 2 ls []) := by
    intro nlp_2
    induction nlp_2 with
    | zero =>
      intro i_3 H locs ls b_4 hmlp_2 hP hD hS hl
      exfalso
      have di_3 := ti_bd i_3
      omega
    | succ nlp_2 ihlp_2 =>
      intro i_3 H locs ls b_4 hmlp_2 hP hD hS hl
      refine lv_iload_n hx hb dX12_isUnsure_2 rfl (lv_at hl 0 rfl) ?_
      refine lv_aload_n hx hb dX12_isUnsure_3 rfl (lv_at hl 1 rfl) ?_
      refine r_get X kcX12 (ci := 11) rfl hP 0 rfl 7 (by decide) fX12_45 rfl dX12_isUnsure_4 ?_
      refine lv_icmp_ge (tgt := 28) hx hb dX12_isUnsure_7 (by decide) (fun h_5 => ?_) (fun h_5 => ?_)
      · have h_5 : k_unsures.toInt ≤ i_3.toInt := c_le h_5
        refine lv_iconst (v := 0) hx hb dX12_isUnsure_28 (by decide) ?_
        exact eI hQ X hr hlocks hP hD hS () [0, 1] (by decide) rfl rfl (show (0 ≤ (0 : Int32).toInt ∧ (0 : Int32).toInt ≤ 1) from (by first | omega | decide | (refine ⟨by decide, ?_⟩; omega) | (have h9_0 : (0 : Int32).toInt = 0 := (by decide); omega))) (Nat.le_of_ble_eq_true rfl) (Nat.le_of_ble_eq_true rfl) dX12_isUnsure_29
      · have h_5 : i_3.toInt < k_unsures.toInt := c_nle h_5
        refine lv_aload_n hx hb dX12_isUnsure_10 rfl (lv_at hl 1 rfl) ?_
        refine r_get X kcX12 (ci := 11) rfl hP 0 rfl 9 (by decide) fX12_15 rfl dX12_isUnsure_11 ?_
        refine lv_iload_n hx hb dX12_isUnsure_14 rfl (lv_at hl 0 rfl) ?_
        refine va_iald (D := (dC, dI)) (cl := vwCl) hx hb hK hP 1 1 rfl rfl (i := i_3) (vin (by omega) (by omega)) dX12_isUnsure_15 ?_
        refine lv_topi (fun x_6 ex_6 => ?_)
        refine lv_iload_n hx hb dX12_isUnsure_16 rfl (lv_at hl 2 rfl) ?_
        refine lv_icmp_ne (tgt := 22) hx hb dX12_isUnsure_17 (by decide) (fun h_7 => ?_) (fun h_7 => ?_)
        · have h_7 : x_6.toInt ≠ p1.toInt := c_ne h_7
          obtain ⟨x_8, ex_8⟩ : ∃ y : Int32, y = i_3 + 1 := ⟨_, rfl⟩
          have tx_8 : x_8.toInt = i_3.toInt + 1 := ti_add (A := i_3.toInt) (B := 1) ex_8 rfl rfl (by omega) (by omega)
          refine lv_iinc (v := x_8) (lv' := [(2, .int x_8), (0, .ref h0), (1, .int p1)]) hx hb dX12_isUnsure_22 hl (k := 0) rfl (by rw [ex_8]; rfl) (by decide) rfl (fun ls hl => ?_)
          refine lv_goto (tgt := 2) hx hb dX12_isUnsure_25 (by decide) ?_
          exact ihlp_2 x_8 _ _ _ (by omega) (show 6 - x_8.toInt ≤ (nlp_2 : Int) by omega) hP hD hS (lv_sub hl [0, 1, 2] rfl)
        · have h_7 : x_6.toInt = p1.toInt := c_eq h_7
          refine lv_iconst (v := 1) hx hb dX12_isUnsure_20 (by decide) ?_
          exact eI hQ X hr hlocks hP hD hS () [0, 1] (by decide) rfl rfl (show (0 ≤ (1 : Int32).toInt ∧ (1 : Int32).toInt ≤ 1) from (by first | omega | decide | (refine ⟨by decide, ?_⟩; omega) | (have h9_0 : (1 : Int32).toInt = 1 := (by decide); omega))) (Nat.le_of_ble_eq_true rfl) (Nat.le_of_ble_eq_true rfl) dX12_isUnsure_21
  exact lp_2 6 0 _ _ _ (by decide) (show 6 - 0 ≤ ((6 : Nat) : Int) by omega) hP hD hS hl
