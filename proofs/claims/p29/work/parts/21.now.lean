section
set_option maxHeartbeats 4000000 in
set_option maxRecDepth 100000 in
theorem sX6_walkersAt (l : Launch) (dC : Nat → ClassId) (dI : Nat → Nat → Nat) (cy : Nat → ClassId) (h0 : Nat) (n_ground : Nat) (n_at : Nat) (n_fell : Nat) (n_went : Nat) (n_walkers : Int32) (n_atf : Nat → Int32) (p1 : Int32) (hn_walkers : 0 ≤ n_walkers.toInt ∧ n_walkers.toInt ≤ 4) (hn_atf : rb n_atf 4 0 19) : ctI l dC dI cy hp yX6_walkersAt cX6_walkersAt 4 .int ({ frames := 0, cells := 0, slots := 0, locals := 0 } : Room) [.ref h0, .int p1] [(h0, .inr (6, [.ref n_ground, .ref n_at, .ref n_fell, .ref n_went, .int n_walkers])), (n_at, .inl (cy 1, 4, .inl n_atf))] (S := Unit) (fun r _ => (0 ≤ r.toInt ∧ r.toInt ≤ 1048575) ∧ (waP n_atf n_walkers.toInt p1.toInt r.toInt)) (fun _ => [(h0, .inr (6, [.ref n_ground, .ref n_at, .ref n_fell, .ref n_went, .int n_walkers])), (n_at, .inl (cy 1, 4, .inl n_atf))]) := by
  refine ctI.of (by decide +kernel) (Nat.le_of_ble_eq_true rfl) ?_
  intro p e s m args below meth c A ls Q hQ X hr hlocks hin hA hP hD hS hl
  have hx := X.1
  have hb := X.2.1
  have hK := X.2.2.2.2.2.1
  have hl : lv_has ls 4 [(0, .ref h0), (1, .int p1)] := hl
  have dy_1 := ti_bd p1
  refine lv_iconst (v := 0) hx hb dX6_walkersAt_0 (by decide) ?_
  refine lv_istore_n (lv' := [(2, .int 0), (0, .ref h0), (1, .int p1)]) hx hb dX6_walkersAt_1 rfl hl (by decide) rfl (fun ls hl => ?_)
  refine lv_iconst (v := 0) hx hb dX6_walkersAt_2 (by decide) ?_
  refine lv_istore_n (lv' := [(3, .int 0), (2, .int 0), (0, .ref h0), (1, .int p1)]) hx hb dX6_walkersAt_3 rfl hl (by decide) rfl (fun ls hl => ?_)
  have lp_2 : ∀ (nlp_2 : Nat) (i_3 : Int32) (i_5 : Int32) (H : Heap) (locs : List Loc) (ls : Array Slot), (0 ≤ i_3.toInt ∧ i_3.toInt ≤ 4) → (0 ≤ i_5.toInt ∧ i_5.toInt ≤ 1048575) → (waP n_atf i_3.toInt p1.toInt i_5.toInt) → (i_3.toInt ≤ n_walkers.toInt) → (5 - i_3.toInt ≤ (nlp_2 : Int)) → va_P (dC, dI) vwCl [(h0, .inr (6, [.ref n_ground, .ref n_at, .ref n_fell, .ref n_went, .int n_walkers])), (n_at, .inl (cy 1, 4, .inl n_atf))] H → va_D A [(h0, .inr (6, [.ref n_ground, .ref n_at, .ref n_fell, .ref n_went, .int n_walkers])), (n_at, .inl (cy 1, 4, .inl n_atf))] → va_S A s.heap H locs → lv_has ls 4 [(3, .int i_3), (2, .int i_5), (0, .ref h0), (1, .int p1)] → W p l e ({ frames := 0, cells := 0, slots := 0, locals := 0 } : Room) s m args below meth c H locs 0 0 Q (F0 m 4 ls []) := by
    intro nlp_2
    induction nlp_2 with
    | zero =>
      intro i_3 i_5 H locs ls b_4 b_6 b_7 b_8 hmlp_2 hP hD hS hl
      exfalso
      have di_3 := ti_bd i_3
      have di_5 := ti_bd i_5
      omega
    | succ nlp_2 ihlp_2 =>
      intro i_3 i_5 H locs ls b_4 b_6 b_7 b_8 hmlp_2 hP hD hS hl
      refine lv_iload_n hx hb dX6_walkersAt_4 rfl (lv_at hl 0 rfl) ?_
      refine lv_aload_n hx hb dX6_walkersAt_5 rfl (lv_at hl 2 rfl) ?_
      refine r_get X kcX6 (ci := 6) rfl hP 0 rfl 4 (by decide) fX6_39 rfl dX6_walkersAt_6 ?_
      refine lv_icmp_ge (tgt := 34) hx hb dX6_walkersAt_9 (by decide) (fun h_9 => ?_) (fun h_9 => ?_)
      · have h_9 : n_walkers.toInt ≤ i_3.toInt := c_le h_9
        refine lv_iload_n hx hb dX6_walkersAt_34 rfl (lv_at hl 1 rfl) ?_
        exact eI hQ X hr hlocks hP hD hS () [0, 1] (by decide) rfl rfl (show (0 ≤ i_5.toInt ∧ i_5.toInt ≤ 1048575) ∧ (waP n_atf n_walkers.toInt p1.toInt i_5.toInt) from ⟨b_6, (waP_e b_7 (by omega))⟩) (Nat.le_of_ble_eq_true rfl) (Nat.le_of_ble_eq_true rfl) dX6_walkersAt_35
      · have h_9 : i_3.toInt < n_walkers.toInt := c_nle h_9
        refine lv_aload_n hx hb dX6_walkersAt_12 rfl (lv_at hl 2 rfl) ?_
        refine r_get X kcX6 (ci := 6) rfl hP 0 rfl 1 (by decide) fX6_18 rfl dX6_walkersAt_13 ?_
        refine lv_iload_n hx hb dX6_walkersAt_16 rfl (lv_at hl 0 rfl) ?_
        refine va_iald (D := (dC, dI)) (cl := vwCl) hx hb hK hP 1 1 rfl rfl (i := i_3) (vin (by omega) (by omega)) dX6_walkersAt_17 ?_
        refine lv_topi (fun x_10 ex_10 => ?_)
        have bx_10 : 0 ≤ x_10.toInt ∧ x_10.toInt ≤ 19 := rb_at hn_atf ex_10 (by omega) (by omega)
        refine lv_iload_n hx hb dX6_walkersAt_18 rfl (lv_at hl 3 rfl) ?_
        refine lv_icmp_ne (tgt := 28) hx hb dX6_walkersAt_19 (by decide) (fun h_11 => ?_) (fun h_11 => ?_)
        · have h_11 : x_10.toInt ≠ p1.toInt := c_ne h_11
          obtain ⟨x_12, ex_12⟩ : ∃ y : Int32, y = i_3 + 1 := ⟨_, rfl⟩
          have tx_12 : x_12.toInt = i_3.toInt + 1 := ti_add (A := i_3.toInt) (B := 1) ex_12 rfl rfl (by omega) (by omega)
          refine lv_iinc (v := x_12) (lv' := [(3, .int x_12), (2, .int i_5), (0, .ref h0), (1, .int p1)]) hx hb dX6_walkersAt_28 hl (k := 0) rfl (by rw [ex_12]; rfl) (by decide) rfl (fun ls hl => ?_)
          refine lv_goto (tgt := 4) hx hb dX6_walkersAt_31 (by decide) ?_
          exact ihlp_2 x_12 i_5 _ _ _ (by omega) (by omega) (show waP n_atf x_12.toInt p1.toInt i_5.toInt from (waP_n b_7 ex_10 rfl (by omega) (by omega) rfl (by omega))) (show x_12.toInt ≤ n_walkers.toInt by omega) (show 5 - x_12.toInt ≤ (nlp_2 : Int) by omega) hP hD hS (lv_sub hl [0, 1, 2, 3] rfl)
        · have h_11 : x_10.toInt = p1.toInt := c_eq h_11
          refine lv_iload_n hx hb dX6_walkersAt_22 rfl (lv_at hl 1 rfl) ?_
          refine lv_iconst (v := 1) hx hb dX6_walkersAt_23 (by decide) ?_
          refine lv_iload_n hx hb dX6_walkersAt_24 rfl (lv_at hl 0 rfl) ?_
          refine lv_ishl hx hb dX6_walkersAt_25 ?_
          refine lv_topi (fun x_13 ex_13 => ?_)
          have tx_13 : 1 ≤ x_13.toInt ∧ x_13.toInt ≤ 32 := ti_shl5 ex_13 (by omega) (by omega)
          refine lv_ior hx hb dX6_walkersAt_26 ?_
          refine lv_topi (fun x_14 ex_14 => ?_)
          have tx_14 : 0 ≤ x_14.toInt ∧ x_14.toInt ≤ 1048575 := ti_or20 ex_14 (by omega) (by omega) (by omega) (by omega)
          refine lv_istore_n (lv' := [(2, .int x_14), (3, .int i_3), (0, .ref h0), (1, .int p1)]) hx hb dX6_walkersAt_27 rfl hl (by decide) rfl (fun ls hl => ?_)
          obtain ⟨x_15, ex_15⟩ : ∃ y : Int32, y = i_3 + 1 := ⟨_, rfl⟩
          have tx_15 : x_15.toInt = i_3.toInt + 1 := ti_add (A := i_3.toInt) (B := 1) ex_15 rfl rfl (by omega) (by omega)
          refine lv_iinc (v := x_15) (lv' := [(3, .int x_15), (2, .int x_14), (0, .ref h0), (1, .int p1)]) hx hb dX6_walkersAt_28 hl (k := 1) rfl (by rw [ex_15]; rfl) (by decide) rfl (fun ls hl => ?_)
          refine lv_goto (tgt := 4) hx hb dX6_walkersAt_31 (by decide) ?_
          exact ihlp_2 x_15 x_14 _ _ _ (by omega) (by omega) (show waP n_atf x_15.toInt p1.toInt x_14.toInt from (waP_y b_7 ex_10 rfl (by omega) (by omega) (by have h9 := ti_orp ex_14 (by omega) (by omega) (by omega) (by omega); omega) (by omega))) (show x_15.toInt ≤ n_walkers.toInt by omega) (show 5 - x_15.toInt ≤ (nlp_2 : Int) by omega) hP hD hS (lv_sub hl [0, 1, 2, 3] rfl)
  exact lp_2 5 0 0 _ _ _ (by decide) (by decide) (show waP n_atf 0 p1.toInt 0 from (waP_0 (by decide) (by decide))) (show 0 ≤ n_walkers.toInt by omega) (show 5 - 0 ≤ ((5 : Nat) : Int) by omega) hP hD hS hl
set_option maxHeartbeats 4000000 in
set_option maxRecDepth 100000 in
theorem sX6_take (l : Launch) (dC : Nat → ClassId) (dI : Nat → Nat → Nat) (cy : Nat → ClassId) (h0 : Nat) (n_ground : Nat) (n_at : Nat) (n_fell : Nat) (n_went : Nat) (n_walkers : Int32) (n_ground_wide : Int32) (n_ground_deep : Int32) (n_ground_count : Int32) (n_ground_sorts : Nat) (n_ground_sortsf : Nat → Int32) (n_atf : Nat → Int32) (n_fellf : Nat → Int32) (n_wentf : Nat → Int32) (h1 : Nat) (o_ground : Nat) (o_at : Nat) (o_fell : Nat) (o_went : Nat) (o_walkers : Int32) (o_ground_wide : Int32) (o_ground_deep : Int32) (o_ground_count : Int32) (o_ground_sorts : Nat) (o_ground_sortsf : Nat → Int32) (o_atf : Nat → Int32) (o_fellf : Nat → Int32) (o_wentf : Nat → Int32) (hn_walkers : 0 ≤ n_walkers.toInt ∧ n_walkers.toInt ≤ 4) (hn_ground_wide : 0 ≤ n_ground_wide.toInt ∧ n_ground_wide.toInt ≤ 5) (hn_ground_deep : 0 ≤ n_ground_deep.toInt ∧ n_ground_deep.toInt ≤ 4) (hn_ground_count : 0 ≤ n_ground_count.toInt ∧ n_ground_count.toInt ≤ 20) (hn_atf : rb n_atf 4 0 19) (ho_walkers : 0 ≤ o_walkers.toInt ∧ o_walkers.toInt ≤ 4) (ho_ground_wide : 0 ≤ o_ground_wide.toInt ∧ o_ground_wide.toInt ≤ 5) (ho_ground_deep : 0 ≤ o_ground_deep.toInt ∧ o_ground_deep.toInt ≤ 4) (ho_ground_count : 0 ≤ o_ground_count.toInt ∧ o_ground_count.toInt ≤ 20) (ho_atf : rb o_atf 4 0 19) : ctV l dC dI cy hp yX6_take cX6_take 2 ({ frames := 2, cells := 0, slots := 0, locals := 61 } : Room) [.ref h0, .ref h1] [(h0, .inr (6, [.ref n_ground, .ref n_at, .ref n_fell, .ref n_went, .int n_walkers])), (n_ground, .inr (4, [.int n_ground_wide, .int n_ground_deep, .int n_ground_count, .ref n_ground_sorts])), (n_ground_sorts, .inl (cy 1, 20, .inl n_ground_sortsf)), (n_at, .inl (cy 1, 4, .inl n_atf)), (n_fell, .inl (cy 1, 4, .inl n_fellf)), (n_went, .inl (cy 1, 4, .inl n_wentf)), (h1, .inr (6, [.ref o_ground, .ref o_at, .ref o_fell, .ref o_went, .int o_walkers])), (o_ground, .inr (4, [.int o_ground_wide, .int o_ground_deep, .int o_ground_count, .ref o_ground_sorts])), (o_ground_sorts, .inl (cy 1, 20, .inl o_ground_sortsf)), (o_at, .inl (cy 1, 4, .inl o_atf)), (o_fell, .inl (cy 1, 4, .inl o_fellf)), (o_went, .inl (cy 1, 4, .inl o_wentf))] (S := Int32 × Int32 × Int32 × (Nat → Int32) × (Nat → Int32) × (Nat → Int32) × (Nat → Int32) × Int32) (fun u => (0 ≤ u.1.toInt ∧ u.1.toInt ≤ 5) ∧ (0 ≤ u.2.1.toInt ∧ u.2.1.toInt ≤ 4) ∧ (0 ≤ u.2.2.1.toInt ∧ u.2.2.1.toInt ≤ 20) ∧ (rb u.2.2.2.2.1 4 0 19) ∧ (0 ≤ u.2.2.2.2.2.2.2.toInt ∧ u.2.2.2.2.2.2.2.toInt ≤ 4) ∧ (nwC o_ground_wide o_ground_deep o_ground_sortsf o_atf o_fellf o_wentf o_walkers u.1 u.2.1 u.2.2.1 u.2.2.2.1 u.2.2.2.2.1 u.2.2.2.2.2.1 u.2.2.2.2.2.2.1 u.2.2.2.2.2.2.2)) (fun u => [(h0, .inr (6, [.ref n_ground, .ref n_at, .ref n_fell, .ref n_went, .int u.2.2.2.2.2.2.2])), (n_ground, .inr (4, [.int u.1, .int u.2.1, .int u.2.2.1, .ref n_ground_sorts])), (n_ground_sorts, .inl (cy 1, 20, .inl u.2.2.2.1)), (n_at, .inl (cy 1, 4, .inl u.2.2.2.2.1)), (n_fell, .inl (cy 1, 4, .inl u.2.2.2.2.2.1)), (n_went, .inl (cy 1, 4, .inl u.2.2.2.2.2.2.1)), (h1, .inr (6, [.ref o_ground, .ref o_at, .ref o_fell, .ref o_went, .int o_walkers])), (o_ground, .inr (4, [.int o_ground_wide, .int o_ground_deep, .int o_ground_count, .ref o_ground_sorts])), (o_ground_sorts, .inl (cy 1, 20, .inl o_ground_sortsf)), (o_at, .inl (cy 1, 4, .inl o_atf)), (o_fell, .inl (cy 1, 4, .inl o_fellf)), (o_went, .inl (cy 1, 4, .inl o_wentf))]) := by
  refine ctV.of (by decide +kernel) (Nat.le_of_ble_eq_true rfl) ?_
  intro p e s m args below meth c A ls Q hQ X hr hlocks hin hA hP hD hS hl
  have hx := X.1
  have hb := X.2.1
  have hK := X.2.2.2.2.2.1
  have hl : lv_has ls 2 [(0, .ref h0), (1, .ref h1)] := hl
  refine lv_aload_n hx hb dX6_take_0 rfl (lv_at hl 0 rfl) ?_
  refine r_get X kcX6 (ci := 6) rfl hP 0 rfl 0 (by decide) fX6_12 rfl dX6_take_1 ?_
  refine lv_aload_n hx hb dX6_take_4 rfl (lv_at hl 1 rfl) ?_
  refine r_get X kcX6 (ci := 6) rfl hP 6 rfl 0 (by decide) fX6_12 rfl dX6_take_5 ?_
  refine sl_Vc (rV_V (As := [.ref o_ground]) (rest := []) X hp_st (fun _ _ _ h => h) (sX4_take l dC dI cy n_ground n_ground_wide n_ground_deep n_ground_count n_ground_sorts n_ground_sortsf o_ground o_ground_wide o_ground_deep o_ground_count o_ground_sorts o_ground_sortsf hn_ground_wide hn_ground_deep hn_ground_count ho_ground_wide ho_ground_deep ho_ground_count) kX4_take vX4_take mX6_31 hP hD hS hA [1, 2, 7, 8] (by decide) rfl 0 (ci := 4) rfl rfl rfl hl rfl rfl (Nat.le_of_ble_eq_true rfl) dX6_take_8 ⟨(Nat.le_of_ble_eq_true rfl), (Nat.le_of_ble_eq_true rfl)⟩ ⟨(Nat.le_of_ble_eq_true rfl), (Nat.le_of_ble_eq_true rfl)⟩) hP hD hS hA [1, 2, 7, 8] [true, false, false, true, true, true, true, false, false, true, true, true] rfl rfl rfl (fun u_7 H locs k_6 hP hD hS => ?_)
  obtain ⟨g_wide1_1, g_deep1_2, g_count1_3, g_sortsf1_4⟩ := u_7
  have k_6 : (0 ≤ g_wide1_1.toInt ∧ g_wide1_1.toInt ≤ 5) ∧ (0 ≤ g_deep1_2.toInt ∧ g_deep1_2.toInt ≤ 4) ∧ (0 ≤ g_count1_3.toInt ∧ g_count1_3.toInt ≤ 20) ∧ (g_wide1_1 = o_ground_wide) ∧ (g_deep1_2 = o_ground_deep) ∧ (g_count1_3.toInt = o_ground_wide.toInt * o_ground_deep.toInt) ∧ (cpZ o_ground_sortsf g_sortsf1_4 20) := k_6
  obtain ⟨k_6_0, k_6_1, k_6_2, k_6_3, k_6_4, k_6_5, k_6_6⟩ := k_6
  have hPD := vPD (ws' := [(h0, .inr (6, [.ref n_ground, .ref n_at, .ref n_fell, .ref n_went, .int n_walkers])), (n_at, .inl (cy 1, 4, .inl n_atf)), (n_fell, .inl (cy 1, 4, .inl n_fellf)), (n_went, .inl (cy 1, 4, .inl n_wentf)), (h1, .inr (6, [.ref o_ground, .ref o_at, .ref o_fell, .ref o_went, .int o_walkers])), (o_at, .inl (cy 1, 4, .inl o_atf)), (o_fell, .inl (cy 1, 4, .inl o_fellf)), (o_went, .inl (cy 1, 4, .inl o_wentf)), (n_ground, .inr (4, [.int g_wide1_1, .int g_deep1_2, .int g_count1_3, .ref n_ground_sorts])), (n_ground_sorts, .inl (cy 1, 20, .inl g_sortsf1_4)), (o_ground, .inr (4, [.int o_ground_wide, .int o_ground_deep, .int o_ground_count, .ref o_ground_sorts])), (o_ground_sorts, .inl (cy 1, 20, .inl o_ground_sortsf))]) hP hD rfl
  have hP := hPD.1
  have hD := hPD.2
  refine lv_aload_n hx hb dX6_take_11 rfl (lv_at hl 0 rfl) ?_
  refine lv_aload_n hx hb dX6_take_12 rfl (lv_at hl 1 rfl) ?_
  refine r_get X kcX6 (ci := 6) rfl hP 4 rfl 4 (by decide) fX6_39 rfl dX6_take_13 ?_
  refine r_put X kcX6 (ci := 6) rfl hP hD hS 0 rfl 4 (by decide) fX6_39 rfl rfl rfl (Nat.le_of_ble_eq_true rfl) dX6_take_16 (fun H locs hP hD hS => ?_)
  have hPD := vPD (ws' := [(h0, .inr (6, [.ref n_ground, .ref n_at, .ref n_fell, .ref n_went, .int o_walkers])), (n_at, .inl (cy 1, 4, .inl n_atf)), (n_fell, .inl (cy 1, 4, .inl n_fellf)), (n_went, .inl (cy 1, 4, .inl n_wentf)), (h1, .inr (6, [.ref o_ground, .ref o_at, .ref o_fell, .ref o_went, .int o_walkers])), (o_at, .inl (cy 1, 4, .inl o_atf)), (o_fell, .inl (cy 1, 4, .inl o_fellf)), (o_went, .inl (cy 1, 4, .inl o_wentf)), (n_ground, .inr (4, [.int g_wide1_1, .int g_deep1_2, .int g_count1_3, .ref n_ground_sorts])), (n_ground_sorts, .inl (cy 1, 20, .inl g_sortsf1_4)), (o_ground, .inr (4, [.int o_ground_wide, .int o_ground_deep, .int o_ground_count, .ref o_ground_sorts])), (o_ground_sorts, .inl (cy 1, 20, .inl o_ground_sortsf))]) hP hD rfl
  have hP := hPD.1
  have hD := hPD.2
  refine lv_aload_n hx hb dX6_take_19 rfl (lv_at hl 1 rfl) ?_
  refine r_get X kcX6 (ci := 6) rfl hP 4 rfl 1 (by decide) fX6_18 rfl dX6_take_20 ?_
  refine lv_iconst (v := 0) hx hb dX6_take_23 (by decide) ?_
  refine lv_aload_n hx hb dX6_take_24 rfl (lv_at hl 0 rfl) ?_
  refine r_get X kcX6 (ci := 6) rfl hP 0 rfl 1 (by decide) fX6_18 rfl dX6_take_25 ?_
  refine lv_iconst (v := 0) hx hb dX6_take_28 (by decide) ?_
  refine lv_iconst (v := 4) hx hb dX6_take_29 (by decide) ?_
  refine va_copyi (D := (dC, dI)) (cl := vwCl) hx hb (X.2.2.1.trans hl.1.symm) X.2.2.2.1 (X.2.2.2.2.1 _ w_1025) (X.2.2.2.2.1 _ w_759) (X.2.2.2.2.1 _ w_758) (X.2.2.2.2.1 _ w_119) hK hP hD hS 5 1 1 1 rfl rfl rfl rfl rfl (by decide) (by decide) (by decide) (by decide) (by decide) (fun _ _ => rfl) (Nat.le_of_ble_eq_true rfl) (Nat.le_of_ble_eq_true rfl) dX6_take_30 (fun H locs hP hD hS => ?_)
  generalize ef_8 : va_cpy o_atf n_atf (Int32.toNatClampNeg 0) (Int32.toNatClampNeg 0) (Int32.toNatClampNeg 4) = f_8 at hP hD
  have bf_8 : rb f_8 4 0 19 := by rw [← ef_8]; exact rb_cpy ho_atf
  have cf_8 : cpZ o_atf f_8 4 := cpZ_cpy ef_8 rfl rfl (by decide)
  have hPD := vPD (ws' := [(h0, .inr (6, [.ref n_ground, .ref n_at, .ref n_fell, .ref n_went, .int o_walkers])), (n_at, .inl (cy 1, 4, .inl f_8)), (n_fell, .inl (cy 1, 4, .inl n_fellf)), (n_went, .inl (cy 1, 4, .inl n_wentf)), (h1, .inr (6, [.ref o_ground, .ref o_at, .ref o_fell, .ref o_went, .int o_walkers])), (o_at, .inl (cy 1, 4, .inl o_atf)), (o_fell, .inl (cy 1, 4, .inl o_fellf)), (o_went, .inl (cy 1, 4, .inl o_wentf)), (n_ground, .inr (4, [.int g_wide1_1, .int g_deep1_2, .int g_count1_3, .ref n_ground_sorts])), (n_ground_sorts, .inl (cy 1, 20, .inl g_sortsf1_4)), (o_ground, .inr (4, [.int o_ground_wide, .int o_ground_deep, .int o_ground_count, .ref o_ground_sorts])), (o_ground_sorts, .inl (cy 1, 20, .inl o_ground_sortsf))]) hP hD rfl
  have hP := hPD.1
  have hD := hPD.2
  refine lv_aload_n hx hb dX6_take_33 rfl (lv_at hl 1 rfl) ?_
  refine r_get X kcX6 (ci := 6) rfl hP 4 rfl 2 (by decide) fX6_22 rfl dX6_take_34 ?_
  refine lv_iconst (v := 0) hx hb dX6_take_37 (by decide) ?_
  refine lv_aload_n hx hb dX6_take_38 rfl (lv_at hl 0 rfl) ?_
  refine r_get X kcX6 (ci := 6) rfl hP 0 rfl 2 (by decide) fX6_22 rfl dX6_take_39 ?_
  refine lv_iconst (v := 0) hx hb dX6_take_42 (by decide) ?_
  refine lv_iconst (v := 4) hx hb dX6_take_43 (by decide) ?_
  refine va_copyi (D := (dC, dI)) (cl := vwCl) hx hb (X.2.2.1.trans hl.1.symm) X.2.2.2.1 (X.2.2.2.2.1 _ w_1025) (X.2.2.2.2.1 _ w_759) (X.2.2.2.2.1 _ w_758) (X.2.2.2.2.1 _ w_119) hK hP hD hS 6 2 1 1 rfl rfl rfl rfl rfl (by decide) (by decide) (by decide) (by decide) (by decide) (fun _ _ => rfl) (Nat.le_of_ble_eq_true rfl) (Nat.le_of_ble_eq_true rfl) dX6_take_44 (fun H locs hP hD hS => ?_)
  generalize ef_9 : va_cpy o_fellf n_fellf (Int32.toNatClampNeg 0) (Int32.toNatClampNeg 0) (Int32.toNatClampNeg 4) = f_9 at hP hD
  have cf_9 : cpZ o_fellf f_9 4 := cpZ_cpy ef_9 rfl rfl (by decide)
  have hPD := vPD (ws' := [(h0, .inr (6, [.ref n_ground, .ref n_at, .ref n_fell, .ref n_went, .int o_walkers])), (n_at, .inl (cy 1, 4, .inl f_8)), (n_fell, .inl (cy 1, 4, .inl f_9)), (n_went, .inl (cy 1, 4, .inl n_wentf)), (h1, .inr (6, [.ref o_ground, .ref o_at, .ref o_fell, .ref o_went, .int o_walkers])), (o_at, .inl (cy 1, 4, .inl o_atf)), (o_fell, .inl (cy 1, 4, .inl o_fellf)), (o_went, .inl (cy 1, 4, .inl o_wentf)), (n_ground, .inr (4, [.int g_wide1_1, .int g_deep1_2, .int g_count1_3, .ref n_ground_sorts])), (n_ground_sorts, .inl (cy 1, 20, .inl g_sortsf1_4)), (o_ground, .inr (4, [.int o_ground_wide, .int o_ground_deep, .int o_ground_count, .ref o_ground_sorts])), (o_ground_sorts, .inl (cy 1, 20, .inl o_ground_sortsf))]) hP hD rfl
  have hP := hPD.1
  have hD := hPD.2
  refine lv_aload_n hx hb dX6_take_47 rfl (lv_at hl 1 rfl) ?_
  refine r_get X kcX6 (ci := 6) rfl hP 4 rfl 3 (by decide) fX6_25 rfl dX6_take_48 ?_
  refine lv_iconst (v := 0) hx hb dX6_take_51 (by decide) ?_
  refine lv_aload_n hx hb dX6_take_52 rfl (lv_at hl 0 rfl) ?_
  refine r_get X kcX6 (ci := 6) rfl hP 0 rfl 3 (by decide) fX6_25 rfl dX6_take_53 ?_
  refine lv_iconst (v := 0) hx hb dX6_take_56 (by decide) ?_
  refine lv_iconst (v := 4) hx hb dX6_take_57 (by decide) ?_
  refine va_copyi (D := (dC, dI)) (cl := vwCl) hx hb (X.2.2.1.trans hl.1.symm) X.2.2.2.1 (X.2.2.2.2.1 _ w_1025) (X.2.2.2.2.1 _ w_759) (X.2.2.2.2.1 _ w_758) (X.2.2.2.2.1 _ w_119) hK hP hD hS 7 3 1 1 rfl rfl rfl rfl rfl (by decide) (by decide) (by decide) (by decide) (by decide) (fun _ _ => rfl) (Nat.le_of_ble_eq_true rfl) (Nat.le_of_ble_eq_true rfl) dX6_take_58 (fun H locs hP hD hS => ?_)
  generalize ef_10 : va_cpy o_wentf n_wentf (Int32.toNatClampNeg 0) (Int32.toNatClampNeg 0) (Int32.toNatClampNeg 4) = f_10 at hP hD
  have cf_10 : cpZ o_wentf f_10 4 := cpZ_cpy ef_10 rfl rfl (by decide)
  have hPD := vPD (ws' := [(h0, .inr (6, [.ref n_ground, .ref n_at, .ref n_fell, .ref n_went, .int o_walkers])), (n_at, .inl (cy 1, 4, .inl f_8)), (n_fell, .inl (cy 1, 4, .inl f_9)), (n_went, .inl (cy 1, 4, .inl f_10)), (h1, .inr (6, [.ref o_ground, .ref o_at, .ref o_fell, .ref o_went, .int o_walkers])), (o_at, .inl (cy 1, 4, .inl o_atf)), (o_fell, .inl (cy 1, 4, .inl o_fellf)), (o_went, .inl (cy 1, 4, .inl o_wentf)), (n_ground, .inr (4, [.int g_wide1_1, .int g_deep1_2, .int g_count1_3, .ref n_ground_sorts])), (n_ground_sorts, .inl (cy 1, 20, .inl g_sortsf1_4)), (o_ground, .inr (4, [.int o_ground_wide, .int o_ground_deep, .int o_ground_count, .ref o_ground_sorts])), (o_ground_sorts, .inl (cy 1, 20, .inl o_ground_sortsf))]) hP hD rfl
  have hP := hPD.1
  have hD := hPD.2
  exact eV hQ X hr hlocks hP hD hS (g_wide1_1, g_deep1_2, g_count1_3, g_sortsf1_4, f_8, f_9, f_10, o_walkers) [0, 8, 9, 1, 2, 3, 4, 10, 11, 5, 6, 7] (by decide +kernel) rfl (show (0 ≤ g_wide1_1.toInt ∧ g_wide1_1.toInt ≤ 5) ∧ (0 ≤ g_deep1_2.toInt ∧ g_deep1_2.toInt ≤ 4) ∧ (0 ≤ g_count1_3.toInt ∧ g_count1_3.toInt ≤ 20) ∧ (rb f_8 4 0 19) ∧ (0 ≤ o_walkers.toInt ∧ o_walkers.toInt ≤ 4) ∧ (nwC o_ground_wide o_ground_deep o_ground_sortsf o_atf o_fellf o_wentf o_walkers g_wide1_1 g_deep1_2 g_count1_3 g_sortsf1_4 f_8 f_9 f_10 o_walkers) from ⟨k_6_0, k_6_1, k_6_2, bf_8, ho_walkers, ⟨k_6_3, k_6_4, k_6_5, k_6_6, cf_8, cf_9, cf_10, rfl⟩⟩) (Nat.le_of_ble_eq_true rfl) (Nat.le_of_ble_eq_true rfl) dX6_take_61
set_option maxHeartbeats 4000000 in
set_option maxRecDepth 100000 in
theorem sX6_begin (l : Launch) (dC : Nat → ClassId) (dI : Nat → Nat → Nat) (cy : Nat → ClassId) (h0 : Nat) (n_ground : Nat) (n_at : Nat) (n_fell : Nat) (n_went : Nat) (n_walkers : Int32) (n_ground_wide : Int32) (n_ground_deep : Int32) (n_ground_count : Int32) (n_ground_sorts : Nat) (n_ground_sortsf : Nat → Int32) (n_atf : Nat → Int32) (n_fellf : Nat → Int32) (n_wentf : Nat → Int32) (h1 : Nat) (k_ground : Nat) (k_errs : Int32) (k_slips : Int32) (k_rows : Int32) (k_unsureCount : Int32) (k_unsure : Nat) (k_walkers : Int32) (k_names : Nat) (k_kinds : Nat) (k_starts : Nat) (k_goals : Nat) (k_walks : Int32) (k_walkStarts : Nat) (k_walkSteps : Nat) (k_walkFell : Nat) (k_ground_wide : Int32) (k_ground_deep : Int32) (k_ground_count : Int32) (k_ground_sorts : Nat) (k_ground_sortsf : Nat → Int32) (k_startsf : Nat → Int32) (hn_walkers : 0 ≤ n_walkers.toInt ∧ n_walkers.toInt ≤ 4) (hn_ground_wide : 0 ≤ n_ground_wide.toInt ∧ n_ground_wide.toInt ≤ 5) (hn_ground_deep : 0 ≤ n_ground_deep.toInt ∧ n_ground_deep.toInt ≤ 4) (hn_ground_count : 0 ≤ n_ground_count.toInt ∧ n_ground_count.toInt ≤ 20) (hn_atf : rb n_atf 4 0 19) (hk_rows : 0 ≤ k_rows.toInt ∧ k_rows.toInt ≤ 4) (hk_unsureCount : 0 ≤ k_unsureCount.toInt ∧ k_unsureCount.toInt ≤ 5) (hk_walkers : 0 ≤ k_walkers.toInt ∧ k_walkers.toInt ≤ 4) (hk_walks : 0 ≤ k_walks.toInt ∧ k_walks.toInt ≤ 6) (hk_ground_wide : 0 ≤ k_ground_wide.toInt ∧ k_ground_wide.toInt ≤ 5) (hk_ground_deep : 0 ≤ k_ground_deep.toInt ∧ k_ground_deep.toInt ≤ 4) (hk_ground_count : 0 ≤ k_ground_count.toInt ∧ k_ground_count.toInt ≤ 20) (hk_startsf : rb k_startsf 4 0 19) : ctV l dC dI cy hp yX6_begin cX6_begin 3 ({ frames := 2, cells := 0, slots := 0, locals := 61 } : Room) [.ref h0, .ref h1] [(h0, .inr (6, [.ref n_ground, .ref n_at, .ref n_fell, .ref n_went, .int n_walkers])), (n_ground, .inr (4, [.int n_ground_wide, .int n_ground_deep, .int n_ground_count, .ref n_ground_sorts])), (n_ground_sorts, .inl (cy 1, 20, .inl n_ground_sortsf)), (n_at, .inl (cy 1, 4, .inl n_atf)), (n_fell, .inl (cy 1, 4, .inl n_fellf)), (n_went, .inl (cy 1, 4, .inl n_wentf)), (h1, .inr (7, [.ref k_ground, .int k_errs, .int k_slips, .int k_rows, .int k_unsureCount, .ref k_unsure, .int k_walkers, .ref k_names, .ref k_kinds, .ref k_starts, .ref k_goals, .int k_walks, .ref k_walkStarts, .ref k_walkSteps, .ref k_walkFell])), (k_ground, .inr (4, [.int k_ground_wide, .int k_ground_deep, .int k_ground_count, .ref k_ground_sorts])), (k_ground_sorts, .inl (cy 1, 20, .inl k_ground_sortsf)), (k_starts, .inl (cy 1, 4, .inl k_startsf))] (S := Int32 × Int32 × Int32 × (Nat → Int32) × (Nat → Int32) × (Nat → Int32) × (Nat → Int32) × Int32) (fun u => (0 ≤ u.1.toInt ∧ u.1.toInt ≤ 5) ∧ (0 ≤ u.2.1.toInt ∧ u.2.1.toInt ≤ 4) ∧ (0 ≤ u.2.2.1.toInt ∧ u.2.2.1.toInt ≤ 20) ∧ (rb u.2.2.2.2.1 4 0 19) ∧ (0 ≤ u.2.2.2.2.2.2.2.toInt ∧ u.2.2.2.2.2.2.2.toInt ≤ 4) ∧ (nwB k_ground_wide k_ground_deep k_ground_sortsf k_startsf k_walkers u.1 u.2.1 u.2.2.1 u.2.2.2.1 u.2.2.2.2.1 u.2.2.2.2.2.1 u.2.2.2.2.2.2.1 u.2.2.2.2.2.2.2)) (fun u => [(h0, .inr (6, [.ref n_ground, .ref n_at, .ref n_fell, .ref n_went, .int u.2.2.2.2.2.2.2])), (n_ground, .inr (4, [.int u.1, .int u.2.1, .int u.2.2.1, .ref n_ground_sorts])), (n_ground_sorts, .inl (cy 1, 20, .inl u.2.2.2.1)), (n_at, .inl (cy 1, 4, .inl u.2.2.2.2.1)), (n_fell, .inl (cy 1, 4, .inl u.2.2.2.2.2.1)), (n_went, .inl (cy 1, 4, .inl u.2.2.2.2.2.2.1)), (h1, .inr (7, [.ref k_ground, .int k_errs, .int k_slips, .int k_rows, .int k_unsureCount, .ref k_unsure, .int k_walkers, .ref k_names, .ref k_kinds, .ref k_starts, .ref k_goals, .int k_walks, .ref k_walkStarts, .ref k_walkSteps, .ref k_walkFell])), (k_ground, .inr (4, [.int k_ground_wide, .int k_ground_deep, .int k_ground_count, .ref k_ground_sorts])), (k_ground_sorts, .inl (cy 1, 20, .inl k_ground_sortsf)), (k_starts, .inl (cy 1, 4, .inl k_startsf))]) := by
  refine ctV.of (by decide +kernel) (Nat.le_of_ble_eq_true rfl) ?_
  intro p e s m args below meth c A ls Q hQ X hr hlocks hin hA hP hD hS hl
  have hx := X.1
  have hb := X.2.1
  have hK := X.2.2.2.2.2.1
  have hl : lv_has ls 3 [(0, .ref h0), (1, .ref h1)] := hl
  refine lv_aload_n hx hb dX6_begin_0 rfl (lv_at hl 0 rfl) ?_
  refine r_get X kcX6 (ci := 6) rfl hP 0 rfl 0 (by decide) fX6_12 rfl dX6_begin_1 ?_
  refine lv_aload_n hx hb dX6_begin_4 rfl (lv_at hl 1 rfl) ?_
  refine r_get X kcX7 (ci := 7) rfl hP 6 rfl 0 (by decide) fX6_28 rfl dX6_begin_5 ?_
  refine sl_Vc (rV_V (As := [.ref k_ground]) (rest := []) X hp_st (fun _ _ _ h => h) (sX4_take l dC dI cy n_ground n_ground_wide n_ground_deep n_ground_count n_ground_sorts n_ground_sortsf k_ground k_ground_wide k_ground_deep k_ground_count k_ground_sorts k_ground_sortsf hn_ground_wide hn_ground_deep hn_ground_count hk_ground_wide hk_ground_deep hk_ground_count) kX4_take vX4_take mX6_31 hP hD hS hA [1, 2, 7, 8] (by decide) rfl 0 (ci := 4) rfl rfl rfl hl rfl rfl (Nat.le_of_ble_eq_true rfl) dX6_begin_8 ⟨(Nat.le_of_ble_eq_true rfl), (Nat.le_of_ble_eq_true rfl)⟩ ⟨(Nat.le_of_ble_eq_true rfl), (Nat.le_of_ble_eq_true rfl)⟩) hP hD hS hA [1, 2, 7, 8] [true, false, false, true, true, true, true, false, false, true] rfl rfl rfl (fun u_7 H locs k_6 hP hD hS => ?_)
  obtain ⟨g_wide1_1, g_deep1_2, g_count1_3, g_sortsf1_4⟩ := u_7
  have k_6 : (0 ≤ g_wide1_1.toInt ∧ g_wide1_1.toInt ≤ 5) ∧ (0 ≤ g_deep1_2.toInt ∧ g_deep1_2.toInt ≤ 4) ∧ (0 ≤ g_count1_3.toInt ∧ g_count1_3.toInt ≤ 20) ∧ (g_wide1_1 = k_ground_wide) ∧ (g_deep1_2 = k_ground_deep) ∧ (g_count1_3.toInt = k_ground_wide.toInt * k_ground_deep.toInt) ∧ (cpZ k_ground_sortsf g_sortsf1_4 20) := k_6
  obtain ⟨k_6_0, k_6_1, k_6_2, k_6_3, k_6_4, k_6_5, k_6_6⟩ := k_6
  have hPD := vPD (ws' := [(h0, .inr (6, [.ref n_ground, .ref n_at, .ref n_fell, .ref n_went, .int n_walkers])), (n_at, .inl (cy 1, 4, .inl n_atf)), (n_fell, .inl (cy 1, 4, .inl n_fellf)), (n_went, .inl (cy 1, 4, .inl n_wentf)), (h1, .inr (7, [.ref k_ground, .int k_errs, .int k_slips, .int k_rows, .int k_unsureCount, .ref k_unsure, .int k_walkers, .ref k_names, .ref k_kinds, .ref k_starts, .ref k_goals, .int k_walks, .ref k_walkStarts, .ref k_walkSteps, .ref k_walkFell])), (k_starts, .inl (cy 1, 4, .inl k_startsf)), (n_ground, .inr (4, [.int g_wide1_1, .int g_deep1_2, .int g_count1_3, .ref n_ground_sorts])), (n_ground_sorts, .inl (cy 1, 20, .inl g_sortsf1_4)), (k_ground, .inr (4, [.int k_ground_wide, .int k_ground_deep, .int k_ground_count, .ref k_ground_sorts])), (k_ground_sorts, .inl (cy 1, 20, .inl k_ground_sortsf))]) hP hD rfl
  have hP := hPD.1
  have hD := hPD.2
  refine lv_aload_n hx hb dX6_begin_11 rfl (lv_at hl 0 rfl) ?_
  refine lv_aload_n hx hb dX6_begin_12 rfl (lv_at hl 1 rfl) ?_
  refine r_get X kcX7 (ci := 7) rfl hP 4 rfl 6 (by decide) fX6_35 rfl dX6_begin_13 ?_
  refine r_put X kcX6 (ci := 6) rfl hP hD hS 0 rfl 4 (by decide) fX6_39 rfl rfl rfl (Nat.le_of_ble_eq_true rfl) dX6_begin_16 (fun H locs hP hD hS => ?_)
  have hPD := vPD (ws' := [(h0, .inr (6, [.ref n_ground, .ref n_at, .ref n_fell, .ref n_went, .int k_walkers])), (n_at, .inl (cy 1, 4, .inl n_atf)), (n_fell, .inl (cy 1, 4, .inl n_fellf)), (n_went, .inl (cy 1, 4, .inl n_wentf)), (h1, .inr (7, [.ref k_ground, .int k_errs, .int k_slips, .int k_rows, .int k_unsureCount, .ref k_unsure, .int k_walkers, .ref k_names, .ref k_kinds, .ref k_starts, .ref k_goals, .int k_walks, .ref k_walkStarts, .ref k_walkSteps, .ref k_walkFell])), (k_starts, .inl (cy 1, 4, .inl k_startsf)), (n_ground, .inr (4, [.int g_wide1_1, .int g_deep1_2, .int g_count1_3, .ref n_ground_sorts])), (n_ground_sorts, .inl (cy 1, 20, .inl g_sortsf1_4)), (k_ground, .inr (4, [.int k_ground_wide, .int k_ground_deep, .int k_ground_count, .ref k_ground_sorts])), (k_ground_sorts, .inl (cy 1, 20, .inl k_ground_sortsf))]) hP hD rfl
  have hP := hPD.1
  have hD := hPD.2
  refine lv_iconst (v := 0) hx hb dX6_begin_19 (by decide) ?_
  refine lv_istore_n (lv' := [(2, .int 0), (0, .ref h0), (1, .ref h1)]) hx hb dX6_begin_20 rfl hl (by decide) rfl (fun ls hl => ?_)
  have lp_8 : ∀ (nlp_8 : Nat) (i_9 : Int32) (f_11 : Nat → Int32) (f_13 : Nat → Int32) (f_14 : Nat → Int32) (H : Heap) (locs : List Loc) (ls : Array Slot), (0 ≤ i_9.toInt ∧ i_9.toInt ≤ 4) → (rb f_11 4 0 19) → (cpZ k_startsf f_11 i_9.toInt) → (zrZ f_13 i_9.toInt) → (zrZ f_14 i_9.toInt) → (5 - i_9.toInt ≤ (nlp_8 : Int)) → va_P (dC, dI) vwCl [(h0, .inr (6, [.ref n_ground, .ref n_at, .ref n_fell, .ref n_went, .int k_walkers])), (n_at, .inl (cy 1, 4, .inl f_11)), (n_fell, .inl (cy 1, 4, .inl f_13)), (n_went, .inl (cy 1, 4, .inl f_14)), (h1, .inr (7, [.ref k_ground, .int k_errs, .int k_slips, .int k_rows, .int k_unsureCount, .ref k_unsure, .int k_walkers, .ref k_names, .ref k_kinds, .ref k_starts, .ref k_goals, .int k_walks, .ref k_walkStarts, .ref k_walkSteps, .ref k_walkFell])), (k_starts, .inl (cy 1, 4, .inl k_startsf)), (n_ground, .inr (4, [.int g_wide1_1, .int g_deep1_2, .int g_count1_3, .ref n_ground_sorts])), (n_ground_sorts, .inl (cy 1, 20, .inl g_sortsf1_4)), (k_ground, .inr (4, [.int k_ground_wide, .int k_ground_deep, .int k_ground_count, .ref k_ground_sorts])), (k_ground_sorts, .inl (cy 1, 20, .inl k_ground_sortsf))] H → va_D A [(h0, .inr (6, [.ref n_ground, .ref n_at, .ref n_fell, .ref n_went, .int k_walkers])), (n_at, .inl (cy 1, 4, .inl f_11)), (n_fell, .inl (cy 1, 4, .inl f_13)), (n_went, .inl (cy 1, 4, .inl f_14)), (h1, .inr (7, [.ref k_ground, .int k_errs, .int k_slips, .int k_rows, .int k_unsureCount, .ref k_unsure, .int k_walkers, .ref k_names, .ref k_kinds, .ref k_starts, .ref k_goals, .int k_walks, .ref k_walkStarts, .ref k_walkSteps, .ref k_walkFell])), (k_starts, .inl (cy 1, 4, .inl k_startsf)), (n_ground, .inr (4, [.int g_wide1_1, .int g_deep1_2, .int g_count1_3, .ref n_ground_sorts])), (n_ground_sorts, .inl (cy 1, 20, .inl g_sortsf1_4)), (k_ground, .inr (4, [.int k_ground_wide, .int k_ground_deep, .int k_ground_count, .ref k_ground_sorts])), (k_ground_sorts, .inl (cy 1, 20, .inl k_ground_sortsf))] → va_S A s.heap H locs → lv_has ls 3 [(2, .int i_9), (0, .ref h0), (1, .ref h1)] → W p l e ({ frames := 2, cells := 0, slots := 0, locals := 61 } : Room) s m args below meth c H locs 0 0 Q (F0 m 21 ls []) := by
    intro nlp_8
    induction nlp_8 with
    | zero =>
      intro i_9 f_11 f_13 f_14 H locs ls b_10 b_12 b_15 b_16 b_17 hmlp_8 hP hD hS hl
      exfalso
      have di_9 := ti_bd i_9
      omega
    | succ nlp_8 ihlp_8 =>
      intro i_9 f_11 f_13 f_14 H locs ls b_10 b_12 b_15 b_16 b_17 hmlp_8 hP hD hS hl
      refine lv_iload_n hx hb dX6_begin_21 rfl (lv_at hl 0 rfl) ?_
      refine lv_iconst (v := 4) hx hb dX6_begin_22 (by decide) ?_
      refine lv_icmp_ge (tgt := 58) hx hb dX6_begin_23 (by decide) (fun h_18 => ?_) (fun h_18 => ?_)
      · have h_18 : 4 ≤ i_9.toInt := c_le h_18
        exact eV hQ X hr hlocks hP hD hS (g_wide1_1, g_deep1_2, g_count1_3, g_sortsf1_4, f_11, f_13, f_14, k_walkers) [0, 6, 7, 1, 2, 3, 4, 8, 9, 5] (by decide +kernel) rfl (show (0 ≤ g_wide1_1.toInt ∧ g_wide1_1.toInt ≤ 5) ∧ (0 ≤ g_deep1_2.toInt ∧ g_deep1_2.toInt ≤ 4) ∧ (0 ≤ g_count1_3.toInt ∧ g_count1_3.toInt ≤ 20) ∧ (rb f_11 4 0 19) ∧ (0 ≤ k_walkers.toInt ∧ k_walkers.toInt ≤ 4) ∧ (nwB k_ground_wide k_ground_deep k_ground_sortsf k_startsf k_walkers g_wide1_1 g_deep1_2 g_count1_3 g_sortsf1_4 f_11 f_13 f_14 k_walkers) from ⟨k_6_0, k_6_1, k_6_2, b_12, hk_walkers, ⟨k_6_3, k_6_4, k_6_5, k_6_6, (by rw [show (4 : Int) = i_9.toInt by omega]; exact b_15), (by rw [show (4 : Int) = i_9.toInt by omega]; exact b_16), (by rw [show (4 : Int) = i_9.toInt by omega]; exact b_17), rfl⟩⟩) (Nat.le_of_ble_eq_true rfl) (Nat.le_of_ble_eq_true rfl) dX6_begin_58
      · have h_18 : i_9.toInt < 4 := c_nle h_18
        refine lv_aload_n hx hb dX6_begin_26 rfl (lv_at hl 1 rfl) ?_
        refine r_get X kcX6 (ci := 6) rfl hP 0 rfl 1 (by decide) fX6_18 rfl dX6_begin_27 ?_
        refine lv_iload_n hx hb dX6_begin_30 rfl (lv_at hl 0 rfl) ?_
        refine lv_aload_n hx hb dX6_begin_31 rfl (lv_at hl 2 rfl) ?_
        refine r_get X kcX7 (ci := 7) rfl hP 4 rfl 9 (by decide) fX6_40 rfl dX6_begin_32 ?_
        refine lv_iload_n hx hb dX6_begin_35 rfl (lv_at hl 0 rfl) ?_
        refine va_iald (D := (dC, dI)) (cl := vwCl) hx hb hK hP 5 1 rfl rfl (i := i_9) (vin (by omega) (by omega)) dX6_begin_36 ?_
        refine lv_topi (fun x_19 ex_19 => ?_)
        have bx_19 : 0 ≤ x_19.toInt ∧ x_19.toInt ≤ 19 := rb_at hk_startsf ex_19 (by omega) (by omega)
        refine va_iast (D := (dC, dI)) (cl := vwCl) hx hb hK hP hD hS 1 1 rfl rfl (i := i_9) (vin (by omega) (by omega)) dX6_begin_37 (fun H locs hP hD hS => ?_)
        generalize ef_20 : upd f_11 (Int32.toNatClampNeg i_9) x_19 = f_20 at hP hD
        have bf_20 : rb f_20 4 0 19 := by rw [← ef_20]; exact rb_upd b_12 (by omega) (by omega)
        have hPD := vPD (ws' := [(h0, .inr (6, [.ref n_ground, .ref n_at, .ref n_fell, .ref n_went, .int k_walkers])), (n_at, .inl (cy 1, 4, .inl f_20)), (n_fell, .inl (cy 1, 4, .inl f_13)), (n_went, .inl (cy 1, 4, .inl f_14)), (h1, .inr (7, [.ref k_ground, .int k_errs, .int k_slips, .int k_rows, .int k_unsureCount, .ref k_unsure, .int k_walkers, .ref k_names, .ref k_kinds, .ref k_starts, .ref k_goals, .int k_walks, .ref k_walkStarts, .ref k_walkSteps, .ref k_walkFell])), (k_starts, .inl (cy 1, 4, .inl k_startsf)), (n_ground, .inr (4, [.int g_wide1_1, .int g_deep1_2, .int g_count1_3, .ref n_ground_sorts])), (n_ground_sorts, .inl (cy 1, 20, .inl g_sortsf1_4)), (k_ground, .inr (4, [.int k_ground_wide, .int k_ground_deep, .int k_ground_count, .ref k_ground_sorts])), (k_ground_sorts, .inl (cy 1, 20, .inl k_ground_sortsf))]) hP hD rfl
        have hP := hPD.1
        have hD := hPD.2
        refine lv_aload_n hx hb dX6_begin_38 rfl (lv_at hl 1 rfl) ?_
        refine r_get X kcX6 (ci := 6) rfl hP 0 rfl 2 (by decide) fX6_22 rfl dX6_begin_39 ?_
        refine lv_iload_n hx hb dX6_begin_42 rfl (lv_at hl 0 rfl) ?_
        refine lv_iconst (v := 0) hx hb dX6_begin_43 (by decide) ?_
        refine va_iast (D := (dC, dI)) (cl := vwCl) hx hb hK hP hD hS 2 1 rfl rfl (i := i_9) (vin (by omega) (by omega)) dX6_begin_44 (fun H locs hP hD hS => ?_)
        generalize ef_21 : upd f_13 (Int32.toNatClampNeg i_9) 0 = f_21 at hP hD
        have hPD := vPD (ws' := [(h0, .inr (6, [.ref n_ground, .ref n_at, .ref n_fell, .ref n_went, .int k_walkers])), (n_at, .inl (cy 1, 4, .inl f_20)), (n_fell, .inl (cy 1, 4, .inl f_21)), (n_went, .inl (cy 1, 4, .inl f_14)), (h1, .inr (7, [.ref k_ground, .int k_errs, .int k_slips, .int k_rows, .int k_unsureCount, .ref k_unsure, .int k_walkers, .ref k_names, .ref k_kinds, .ref k_starts, .ref k_goals, .int k_walks, .ref k_walkStarts, .ref k_walkSteps, .ref k_walkFell])), (k_starts, .inl (cy 1, 4, .inl k_startsf)), (n_ground, .inr (4, [.int g_wide1_1, .int g_deep1_2, .int g_count1_3, .ref n_ground_sorts])), (n_ground_sorts, .inl (cy 1, 20, .inl g_sortsf1_4)), (k_ground, .inr (4, [.int k_ground_wide, .int k_ground_deep, .int k_ground_count, .ref k_ground_sorts])), (k_ground_sorts, .inl (cy 1, 20, .inl k_ground_sortsf))]) hP hD rfl
        have hP := hPD.1
        have hD := hPD.2
        refine lv_aload_n hx hb dX6_begin_45 rfl (lv_at hl 1 rfl) ?_
        refine r_get X kcX6 (ci := 6) rfl hP 0 rfl 3 (by decide) fX6_25 rfl dX6_begin_46 ?_
        refine lv_iload_n hx hb dX6_begin_49 rfl (lv_at hl 0 rfl) ?_
        refine lv_iconst (v := 0) hx hb dX6_begin_50 (by decide) ?_
        refine va_iast (D := (dC, dI)) (cl := vwCl) hx hb hK hP hD hS 3 1 rfl rfl (i := i_9) (vin (by omega) (by omega)) dX6_begin_51 (fun H locs hP hD hS => ?_)
        generalize ef_22 : upd f_14 (Int32.toNatClampNeg i_9) 0 = f_22 at hP hD
        have hPD := vPD (ws' := [(h0, .inr (6, [.ref n_ground, .ref n_at, .ref n_fell, .ref n_went, .int k_walkers])), (n_at, .inl (cy 1, 4, .inl f_20)), (n_fell, .inl (cy 1, 4, .inl f_21)), (n_went, .inl (cy 1, 4, .inl f_22)), (h1, .inr (7, [.ref k_ground, .int k_errs, .int k_slips, .int k_rows, .int k_unsureCount, .ref k_unsure, .int k_walkers, .ref k_names, .ref k_kinds, .ref k_starts, .ref k_goals, .int k_walks, .ref k_walkStarts, .ref k_walkSteps, .ref k_walkFell])), (k_starts, .inl (cy 1, 4, .inl k_startsf)), (n_ground, .inr (4, [.int g_wide1_1, .int g_deep1_2, .int g_count1_3, .ref n_ground_sorts])), (n_ground_sorts, .inl (cy 1, 20, .inl g_sortsf1_4)), (k_ground, .inr (4, [.int k_ground_wide, .int k_ground_deep, .int k_ground_count, .ref k_ground_sorts])), (k_ground_sorts, .inl (cy 1, 20, .inl k_ground_sortsf))]) hP hD rfl
        have hP := hPD.1
        have hD := hPD.2
        obtain ⟨x_23, ex_23⟩ : ∃ y : Int32, y = i_9 + 1 := ⟨_, rfl⟩
        have tx_23 : x_23.toInt = i_9.toInt + 1 := ti_add (A := i_9.toInt) (B := 1) ex_23 rfl rfl (by omega) (by omega)
        refine lv_iinc (v := x_23) (lv' := [(2, .int x_23), (0, .ref h0), (1, .ref h1)]) hx hb dX6_begin_52 hl (k := 0) rfl (by rw [ex_23]; rfl) (by decide) rfl (fun ls hl => ?_)
        refine lv_goto (tgt := 21) hx hb dX6_begin_55 (by decide) ?_
        exact ihlp_8 x_23 f_20 f_21 f_22 _ _ _ (by omega) bf_20 (show cpZ k_startsf f_20 x_23.toInt from (cpZ_up b_15 ef_20 rfl (by omega) ex_19 (by omega))) (show zrZ f_21 x_23.toInt from (zrZ_up b_16 ef_21 rfl (by omega) (by decide) (by omega))) (show zrZ f_22 x_23.toInt from (zrZ_up b_17 ef_22 rfl (by omega) (by decide) (by omega))) (show 5 - x_23.toInt ≤ (nlp_8 : Int) by omega) hP hD hS (lv_sub hl [0, 1, 2] rfl)
  exact lp_8 5 0 n_atf n_fellf n_wentf _ _ _ (by decide) hn_atf (show cpZ k_startsf n_atf 0 from (cpZ_0 (by decide))) (show zrZ n_fellf 0 from (zrZ_0 (by decide))) (show zrZ n_wentf 0 from (zrZ_0 (by decide))) (show 5 - 0 ≤ ((5 : Nat) : Int) by omega) hP hD hS hl
set_option maxHeartbeats 4000000 in
set_option maxRecDepth 100000 in
theorem sX6_go (l : Launch) (dC : Nat → ClassId) (dI : Nat → Nat → Nat) (cy : Nat → ClassId) (h0 : Nat) (n_ground : Nat) (n_at : Nat) (n_fell : Nat) (n_went : Nat) (n_walkers : Int32) (n_ground_wide : Int32) (n_ground_deep : Int32) (n_ground_count : Int32) (n_ground_sorts : Nat) (n_ground_sortsf : Nat → Int32) (n_atf : Nat → Int32) (n_fellf : Nat → Int32) (n_wentf : Nat → Int32) (p1 : Int32) (p2 : Int32) (p3 : Int32) (hn_walkers : 0 ≤ n_walkers.toInt ∧ n_walkers.toInt ≤ 4) (hn_ground_wide : 0 ≤ n_ground_wide.toInt ∧ n_ground_wide.toInt ≤ 5) (hn_ground_deep : 0 ≤ n_ground_deep.toInt ∧ n_ground_deep.toInt ≤ 4) (hn_ground_count : 0 ≤ n_ground_count.toInt ∧ n_ground_count.toInt ≤ 20) (hn_atf : rb n_atf 4 0 19) (hp1 : 0 ≤ p1.toInt ∧ p1.toInt ≤ 3) : ctV l dC dI cy hp yX6_go cX6_go 5 ({ frames := 2, cells := 0, slots := 0, locals := 47 } : Room) [.ref h0, .int p1, .int p2, .int p3] [(h0, .inr (6, [.ref n_ground, .ref n_at, .ref n_fell, .ref n_went, .int n_walkers])), (n_ground, .inr (4, [.int n_ground_wide, .int n_ground_deep, .int n_ground_count, .ref n_ground_sorts])), (n_ground_sorts, .inl (cy 1, 20, .inl n_ground_sortsf)), (n_at, .inl (cy 1, 4, .inl n_atf)), (n_fell, .inl (cy 1, 4, .inl n_fellf)), (n_went, .inl (cy 1, 4, .inl n_wentf))] (S := (Nat → Int32) × (Nat → Int32) × (Nat → Int32)) (fun u => (rb u.1 4 0 19) ∧ (goP n_ground_wide.toInt n_ground_count.toInt n_ground_sortsf n_atf n_fellf n_wentf p1 p2.toInt p3.toInt u.1 u.2.1 u.2.2)) (fun u => [(h0, .inr (6, [.ref n_ground, .ref n_at, .ref n_fell, .ref n_went, .int n_walkers])), (n_ground, .inr (4, [.int n_ground_wide, .int n_ground_deep, .int n_ground_count, .ref n_ground_sorts])), (n_ground_sorts, .inl (cy 1, 20, .inl n_ground_sortsf)), (n_at, .inl (cy 1, 4, .inl u.1)), (n_fell, .inl (cy 1, 4, .inl u.2.1)), (n_went, .inl (cy 1, 4, .inl u.2.2))]) := by
  refine ctV.of (by decide +kernel) (Nat.le_of_ble_eq_true rfl) ?_
  intro p e s m args below meth c A ls Q hQ X hr hlocks hin hA hP hD hS hl
  have hx := X.1
  have hb := X.2.1
  have hK := X.2.2.2.2.2.1
  have hl : lv_has ls 5 [(0, .ref h0), (1, .int p1), (2, .int p2), (3, .int p3)] := hl
  have dy_1 := ti_bd p2
  have dy_2 := ti_bd p3
  refine lv_aload_n hx hb dX6_go_0 rfl (lv_at hl 0 rfl) ?_
  refine r_get X kcX6 (ci := 6) rfl hP 0 rfl 0 (by decide) fX6_12 rfl dX6_go_1 ?_
  refine lv_iload_n hx hb dX6_go_4 rfl (lv_at hl 2 rfl) ?_
  refine lv_aload_n hx hb dX6_go_5 rfl (lv_at hl 0 rfl) ?_
  refine r_get X kcX6 (ci := 6) rfl hP 0 rfl 1 (by decide) fX6_18 rfl dX6_go_6 ?_
  refine lv_iload_n hx hb dX6_go_9 rfl (lv_at hl 1 rfl) ?_
  refine va_iald (D := (dC, dI)) (cl := vwCl) hx hb hK hP 3 1 rfl rfl (i := p1) (vin (by omega) (by omega)) dX6_go_10 ?_
  refine lv_topi (fun x_3 ex_3 => ?_)
  have bx_3 : 0 ≤ x_3.toInt ∧ x_3.toInt ≤ 19 := rb_at hn_atf ex_3 (by omega) (by omega)
  refine lv_iload_n hx hb dX6_go_11 rfl (lv_at hl 3 rfl) ?_
  refine sl_Ic (rV_I (As := [.int p2, .int x_3, .int p3]) (rest := []) X hp_st (fun _ _ _ h => h) (sX4_timeFor l dC dI cy n_ground n_ground_wide n_ground_deep n_ground_count n_ground_sorts n_ground_sortsf p2 x_3 p3 hn_ground_wide hn_ground_deep hn_ground_count) kX4_timeFor vX4_timeFor mX6_49 hP hD hS hA [1, 2] (by decide) rfl 0 (ci := 4) rfl rfl rfl hl rfl rfl (Nat.le_of_ble_eq_true rfl) dX6_go_12 ⟨(Nat.le_of_ble_eq_true rfl), (Nat.le_of_ble_eq_true rfl)⟩ ⟨(Nat.le_of_ble_eq_true rfl), (Nat.le_of_ble_eq_true rfl)⟩) hP hD hS hA [1, 2] [true, false, false, true, true, true] rfl rfl rfl (fun r_4 u_6 H locs k_5 hP hD hS => ?_)
  have k_5 : ((-2) ≤ r_4.toInt ∧ r_4.toInt ≤ 4) ∧ (r_4.toInt = -2 ∨ (0 ≤ x_3.toInt ∧ x_3.toInt < n_ground_count.toInt ∧ (tgZ n_ground_wide.toInt n_ground_count.toInt n_ground_sortsf x_3.toInt p3.toInt) ≠ -1)) ∧ (r_4.toInt = tfZ n_ground_wide.toInt n_ground_count.toInt n_ground_sortsf p2.toInt x_3.toInt p3.toInt) := k_5
  obtain ⟨k_5_0, k_5_1, k_5_2⟩ := k_5
  have hPD := vPD (ws' := [(h0, .inr (6, [.ref n_ground, .ref n_at, .ref n_fell, .ref n_went, .int n_walkers])), (n_at, .inl (cy 1, 4, .inl n_atf)), (n_fell, .inl (cy 1, 4, .inl n_fellf)), (n_went, .inl (cy 1, 4, .inl n_wentf)), (n_ground, .inr (4, [.int n_ground_wide, .int n_ground_deep, .int n_ground_count, .ref n_ground_sorts])), (n_ground_sorts, .inl (cy 1, 20, .inl n_ground_sortsf))]) hP hD rfl
  have hP := hPD.1
  have hD := hPD.2
  refine lv_istore (lv' := [(4, .int r_4), (0, .ref h0), (1, .int p1), (2, .int p2), (3, .int p3)]) hx hb dX6_go_15 hl (by decide) rfl (fun ls hl => ?_)
  refine lv_iload hx hb dX6_go_17 (lv_at hl 0 rfl) ?_
  refine lv_bipush (v := -2) hx hb dX6_go_19 (by decide) ?_
  refine lv_icmp_eq (tgt := 79) hx hb dX6_go_21 (by decide) (fun h_7 => ?_) (fun h_7 => ?_)
  · have h_7 : r_4.toInt = (-2) := c_eq h_7
    exact eV hQ X hr hlocks hP hD hS (n_atf, n_fellf, n_wentf) [0, 4, 5, 1, 2, 3] (by decide) rfl (show (rb n_atf 4 0 19) ∧ (goP n_ground_wide.toInt n_ground_count.toInt n_ground_sortsf n_atf n_fellf n_wentf p1 p2.toInt p3.toInt n_atf n_fellf n_wentf) from ⟨hn_atf, (goP_n ex_3 k_5_2 (by omega))⟩) (Nat.le_of_ble_eq_true rfl) (Nat.le_of_ble_eq_true rfl) dX6_go_79
  · have h_7 : r_4.toInt ≠ (-2) := c_ne h_7
    refine lv_aload_n hx hb dX6_go_24 rfl (lv_at hl 1 rfl) ?_
    refine r_get X kcX6 (ci := 6) rfl hP 0 rfl 3 (by decide) fX6_25 rfl dX6_go_25 ?_
    refine lv_iload_n hx hb dX6_go_28 rfl (lv_at hl 2 rfl) ?_
    refine lv_dup2_11 hx hb dX6_go_29 rfl rfl ?_
    refine va_iald (D := (dC, dI)) (cl := vwCl) hx hb hK hP 3 1 rfl rfl (i := p1) (vin (by omega) (by omega)) dX6_go_30 ?_
    refine lv_topi (fun x_8 ex_8 => ?_)
    refine lv_iload hx hb dX6_go_31 (lv_at hl 0 rfl) ?_
    refine lv_iadd hx hb dX6_go_33 ?_
    have dy_9 := ti_bd x_8
    refine lv_topi (fun x_10 ex_10 => ?_)
    refine va_iast (D := (dC, dI)) (cl := vwCl) hx hb hK hP hD hS 3 1 rfl rfl (i := p1) (vin (by omega) (by omega)) dX6_go_34 (fun H locs hP hD hS => ?_)
    generalize ef_11 : upd n_wentf (Int32.toNatClampNeg p1) x_10 = f_11 at hP hD
    have hPD := vPD (ws' := [(h0, .inr (6, [.ref n_ground, .ref n_at, .ref n_fell, .ref n_went, .int n_walkers])), (n_at, .inl (cy 1, 4, .inl n_atf)), (n_fell, .inl (cy 1, 4, .inl n_fellf)), (n_went, .inl (cy 1, 4, .inl f_11)), (n_ground, .inr (4, [.int n_ground_wide, .int n_ground_deep, .int n_ground_count, .ref n_ground_sorts])), (n_ground_sorts, .inl (cy 1, 20, .inl n_ground_sortsf))]) hP hD rfl
    have hP := hPD.1
    have hD := hPD.2
    refine lv_aload_n hx hb dX6_go_35 rfl (lv_at hl 1 rfl) ?_
    refine r_get X kcX6 (ci := 6) rfl hP 0 rfl 2 (by decide) fX6_22 rfl dX6_go_36 ?_
    refine lv_iload_n hx hb dX6_go_39 rfl (lv_at hl 2 rfl) ?_
    refine lv_dup2_11 hx hb dX6_go_40 rfl rfl ?_
    refine va_iald (D := (dC, dI)) (cl := vwCl) hx hb hK hP 2 1 rfl rfl (i := p1) (vin (by omega) (by omega)) dX6_go_41 ?_
    refine lv_topi (fun x_12 ex_12 => ?_)
    refine lv_aload_n hx hb dX6_go_42 rfl (lv_at hl 1 rfl) ?_
    refine r_get X kcX6 (ci := 6) rfl hP 0 rfl 0 (by decide) fX6_12 rfl dX6_go_43 ?_
    refine lv_iload_n hx hb dX6_go_46 rfl (lv_at hl 3 rfl) ?_
    refine lv_aload_n hx hb dX6_go_47 rfl (lv_at hl 1 rfl) ?_
    refine r_get X kcX6 (ci := 6) rfl hP 0 rfl 1 (by decide) fX6_18 rfl dX6_go_48 ?_
    refine lv_iload_n hx hb dX6_go_51 rfl (lv_at hl 2 rfl) ?_
    refine va_iald (D := (dC, dI)) (cl := vwCl) hx hb hK hP 1 1 rfl rfl (i := p1) (vin (by omega) (by omega)) dX6_go_52 ?_
    refine lv_topi (fun x_13 ex_13 => ?_)
    have qx_13 : x_3 = x_13 := ex_3.trans ex_13.symm
    subst qx_13
    refine lv_iload_n hx hb dX6_go_53 rfl (lv_at hl 4 rfl) ?_
    refine sl_Ic (rV_I (As := [.int p2, .int x_3, .int p3]) (rest := [.int x_12, .int p1, .ref n_fell]) X hp_st (fun _ _ _ h => h) (sX4_fallsFor l dC dI cy n_ground n_ground_wide n_ground_deep n_ground_count n_ground_sorts n_ground_sortsf p2 x_3 p3 hn_ground_wide hn_ground_deep hn_ground_count) kX4_fallsFor vX4_fallsFor mX6_53 hP hD hS hA [4, 5] (by decide) rfl 0 (ci := 4) rfl rfl rfl hl rfl rfl (Nat.le_of_ble_eq_true rfl) dX6_go_54 ⟨(Nat.le_of_ble_eq_true rfl), (Nat.le_of_ble_eq_true rfl)⟩ ⟨(Nat.le_of_ble_eq_true rfl), (Nat.le_of_ble_eq_true rfl)⟩) hP hD hS hA [4, 5] [true, true, true, true, false, false] rfl rfl rfl (fun r_14 u_16 H locs k_15 hP hD hS => ?_)
    have k_15 : (0 ≤ r_14.toInt ∧ r_14.toInt ≤ 1) ∧ (r_14.toInt = flZ n_ground_wide.toInt n_ground_count.toInt n_ground_sortsf p2.toInt x_3.toInt p3.toInt) := k_15
    obtain ⟨k_15_0, k_15_1⟩ := k_15
    have hPD := vPD (ws' := [(h0, .inr (6, [.ref n_ground, .ref n_at, .ref n_fell, .ref n_went, .int n_walkers])), (n_at, .inl (cy 1, 4, .inl n_atf)), (n_fell, .inl (cy 1, 4, .inl n_fellf)), (n_went, .inl (cy 1, 4, .inl f_11)), (n_ground, .inr (4, [.int n_ground_wide, .int n_ground_deep, .int n_ground_count, .ref n_ground_sorts])), (n_ground_sorts, .inl (cy 1, 20, .inl n_ground_sortsf))]) hP hD rfl
    have hP := hPD.1
    have hD := hPD.2
    refine lv_iadd hx hb dX6_go_57 ?_
    have dy_17 := ti_bd x_12
    refine lv_topi (fun x_18 ex_18 => ?_)
    refine va_iast (D := (dC, dI)) (cl := vwCl) hx hb hK hP hD hS 2 1 rfl rfl (i := p1) (vin (by omega) (by omega)) dX6_go_58 (fun H locs hP hD hS => ?_)
    generalize ef_19 : upd n_fellf (Int32.toNatClampNeg p1) x_18 = f_19 at hP hD
    have hPD := vPD (ws' := [(h0, .inr (6, [.ref n_ground, .ref n_at, .ref n_fell, .ref n_went, .int n_walkers])), (n_at, .inl (cy 1, 4, .inl n_atf)), (n_fell, .inl (cy 1, 4, .inl f_19)), (n_went, .inl (cy 1, 4, .inl f_11)), (n_ground, .inr (4, [.int n_ground_wide, .int n_ground_deep, .int n_ground_count, .ref n_ground_sorts])), (n_ground_sorts, .inl (cy 1, 20, .inl n_ground_sortsf))]) hP hD rfl
    have hP := hPD.1
    have hD := hPD.2
    refine lv_aload_n hx hb dX6_go_59 rfl (lv_at hl 1 rfl) ?_
    refine r_get X kcX6 (ci := 6) rfl hP 0 rfl 1 (by decide) fX6_18 rfl dX6_go_60 ?_
    refine lv_iload_n hx hb dX6_go_63 rfl (lv_at hl 2 rfl) ?_
    refine lv_aload_n hx hb dX6_go_64 rfl (lv_at hl 1 rfl) ?_
    refine r_get X kcX6 (ci := 6) rfl hP 0 rfl 0 (by decide) fX6_12 rfl dX6_go_65 ?_
    refine lv_aload_n hx hb dX6_go_68 rfl (lv_at hl 1 rfl) ?_
    refine r_get X kcX6 (ci := 6) rfl hP 0 rfl 1 (by decide) fX6_18 rfl dX6_go_69 ?_
    refine lv_iload_n hx hb dX6_go_72 rfl (lv_at hl 2 rfl) ?_
    refine va_iald (D := (dC, dI)) (cl := vwCl) hx hb hK hP 1 1 rfl rfl (i := p1) (vin (by omega) (by omega)) dX6_go_73 ?_
    refine lv_topi (fun x_20 ex_20 => ?_)
    have qx_20 : x_3 = x_20 := ex_3.trans ex_20.symm
    subst qx_20
    refine lv_iload_n hx hb dX6_go_74 rfl (lv_at hl 4 rfl) ?_
    refine sl_Ic (rV_I (As := [.int x_3, .int p3]) (rest := [.int p1, .ref n_at]) X hp_st (fun _ _ _ h => h) (sX4_target l dC dI cy n_ground n_ground_wide n_ground_deep n_ground_count n_ground_sorts n_ground_sortsf x_3 p3 hn_ground_wide hn_ground_deep hn_ground_count) kX4_target vX4_target mX6_56 hP hD hS hA [4, 5] (by decide) rfl 0 (ci := 4) rfl rfl rfl hl rfl rfl (Nat.le_of_ble_eq_true rfl) dX6_go_75 ⟨(Nat.le_of_ble_eq_true rfl), (Nat.le_of_ble_eq_true rfl)⟩ ⟨(Nat.le_of_ble_eq_true rfl), (Nat.le_of_ble_eq_true rfl)⟩) hP hD hS hA [4, 5] [true, true, true, true, false, false] rfl rfl rfl (fun r_21 u_23 H locs k_22 hP hD hS => ?_)
    have k_22 : ((-1) ≤ r_21.toInt ∧ r_21.toInt ≤ 19) ∧ (r_21.toInt = (tgZ n_ground_wide.toInt n_ground_count.toInt n_ground_sortsf x_3.toInt p3.toInt)) ∧ (r_21.toInt = -1 ∨ (0 ≤ r_21.toInt ∧ r_21.toInt < n_ground_count.toInt ∧ 0 ≤ x_3.toInt ∧ x_3.toInt < n_ground_count.toInt)) := k_22
    obtain ⟨k_22_0, k_22_1, k_22_2⟩ := k_22
    have hPD := vPD (ws' := [(h0, .inr (6, [.ref n_ground, .ref n_at, .ref n_fell, .ref n_went, .int n_walkers])), (n_at, .inl (cy 1, 4, .inl n_atf)), (n_fell, .inl (cy 1, 4, .inl f_19)), (n_went, .inl (cy 1, 4, .inl f_11)), (n_ground, .inr (4, [.int n_ground_wide, .int n_ground_deep, .int n_ground_count, .ref n_ground_sorts])), (n_ground_sorts, .inl (cy 1, 20, .inl n_ground_sortsf))]) hP hD rfl
    have hP := hPD.1
    have hD := hPD.2
    refine va_iast (D := (dC, dI)) (cl := vwCl) hx hb hK hP hD hS 1 1 rfl rfl (i := p1) (vin (by omega) (by omega)) dX6_go_78 (fun H locs hP hD hS => ?_)
    generalize ef_24 : upd n_atf (Int32.toNatClampNeg p1) r_21 = f_24 at hP hD
    have bf_24 : rb f_24 4 0 19 := by rw [← ef_24]; exact rb_upd hn_atf (by omega) (by omega)
    have hPD := vPD (ws' := [(h0, .inr (6, [.ref n_ground, .ref n_at, .ref n_fell, .ref n_went, .int n_walkers])), (n_at, .inl (cy 1, 4, .inl f_24)), (n_fell, .inl (cy 1, 4, .inl f_19)), (n_went, .inl (cy 1, 4, .inl f_11)), (n_ground, .inr (4, [.int n_ground_wide, .int n_ground_deep, .int n_ground_count, .ref n_ground_sorts])), (n_ground_sorts, .inl (cy 1, 20, .inl n_ground_sortsf))]) hP hD rfl
    have hP := hPD.1
    have hD := hPD.2
    exact eV hQ X hr hlocks hP hD hS (f_24, f_19, f_11) [0, 4, 5, 1, 2, 3] (by decide) rfl (show (rb f_24 4 0 19) ∧ (goP n_ground_wide.toInt n_ground_count.toInt n_ground_sortsf n_atf n_fellf n_wentf p1 p2.toInt p3.toInt f_24 f_19 f_11) from ⟨bf_24, (goP_y ex_3 k_5_2 (by omega) k_15_1 k_22_1 ex_8 ex_10 ex_12 ex_18 ef_11 ef_19 ef_24)⟩) (Nat.le_of_ble_eq_true rfl) (Nat.le_of_ble_eq_true rfl) dX6_go_79
end
section
set_option maxHeartbeats 4000000 in
set_option maxRecDepth 100000 in
theorem sX7_isTold (l : Launch) (dC : Nat → ClassId) (dI : Nat → Nat → Nat) (cy : Nat → ClassId) (h0 : Nat) (k_ground : Nat) (k_errs : Int32) (k_slips : Int32) (k_rows : Int32) (k_unsureCount : Int32) (k_unsure : Nat) (k_walkers : Int32) (k_names : Nat) (k_kinds : Nat) (k_starts : Nat) (k_goals : Nat) (k_walks : Int32) (k_walkStarts : Nat) (k_walkSteps : Nat) (k_walkFell : Nat) (k_ground_wide : Int32) (k_ground_deep : Int32) (k_ground_count : Int32) (k_ground_sorts : Nat) (k_ground_sortsf : Nat → Int32) (hk_rows : 0 ≤ k_rows.toInt ∧ k_rows.toInt ≤ 4) (hk_unsureCount : 0 ≤ k_unsureCount.toInt ∧ k_unsureCount.toInt ≤ 5) (hk_walkers : 0 ≤ k_walkers.toInt ∧ k_walkers.toInt ≤ 4) (hk_walks : 0 ≤ k_walks.toInt ∧ k_walks.toInt ≤ 6) (hk_ground_wide : 0 ≤ k_ground_wide.toInt ∧ k_ground_wide.toInt ≤ 5) (hk_ground_deep : 0 ≤ k_ground_deep.toInt ∧ k_ground_deep.toInt ≤ 4) (hk_ground_count : 0 ≤ k_ground_count.toInt ∧ k_ground_count.toInt ≤ 20) : ctI l dC dI cy hp yX7_isTold cX7_isTold 1 .boolean ({ frames := 0, cells := 0, slots := 0, locals := 0 } : Room) [.ref h0] [(h0, .inr (7, [.ref k_ground, .int k_errs, .int k_slips, .int k_rows, .int k_unsureCount, .ref k_unsure, .int k_walkers, .ref k_names, .ref k_kinds, .ref k_starts, .ref k_goals, .int k_walks, .ref k_walkStarts, .ref k_walkSteps, .ref k_walkFell])), (k_ground, .inr (4, [.int k_ground_wide, .int k_ground_deep, .int k_ground_count, .ref k_ground_sorts])), (k_ground_sorts, .inl (cy 1, 20, .inl k_ground_sortsf))] (S := Unit) (fun r _ => (0 ≤ r.toInt ∧ r.toInt ≤ 1) ∧ ((r.toInt = 1 ∧ 0 < k_ground_wide.toInt) ∨ (r.toInt = 0 ∧ k_ground_wide.toInt ≤ 0))) (fun _ => [(h0, .inr (7, [.ref k_ground, .int k_errs, .int k_slips, .int k_rows, .int k_unsureCount, .ref k_unsure, .int k_walkers, .ref k_names, .ref k_kinds, .ref k_starts, .ref k_goals, .int k_walks, .ref k_walkStarts, .ref k_walkSteps, .ref k_walkFell])), (k_ground, .inr (4, [.int k_ground_wide, .int k_ground_deep, .int k_ground_count, .ref k_ground_sorts])), (k_ground_sorts, .inl (cy 1, 20, .inl k_ground_sortsf))]) := by
  refine ctI.of (by decide +kernel) (Nat.le_of_ble_eq_true rfl) ?_
  intro p e s m args below meth c A ls Q hQ X hr hlocks hin hA hP hD hS hl
  have hx := X.1
  have hb := X.2.1
  have hK := X.2.2.2.2.2.1
  have hl : lv_has ls 1 [(0, .ref h0)] := hl
  refine lv_aload_n hx hb dX7_isTold_0 rfl (lv_at hl 0 rfl) ?_
  refine r_get X kcX7 (ci := 7) rfl hP 0 rfl 0 (by decide) fX7_12 rfl dX7_isTold_1 ?_
  refine r_get X kcX4 (ci := 4) rfl hP 1 rfl 0 (by decide) fX7_62 rfl dX7_isTold_4 ?_
  refine lv_if_le (tgt := 14) hx hb dX7_isTold_7 (by decide) (fun h_1 => ?_) (fun h_1 => ?_)
  · have h_1 : k_ground_wide.toInt ≤ 0 := c_le h_1
    refine lv_iconst (v := 0) hx hb dX7_isTold_14 (by decide) ?_
    exact eI hQ X hr hlocks hP hD hS () [0, 1, 2] (by decide) rfl rfl (show (0 ≤ (0 : Int32).toInt ∧ (0 : Int32).toInt ≤ 1) ∧ (((0 : Int32).toInt = 1 ∧ 0 < k_ground_wide.toInt) ∨ ((0 : Int32).toInt = 0 ∧ k_ground_wide.toInt ≤ 0)) from ⟨(by decide), (Or.inr ⟨by decide, by omega⟩)⟩) (Nat.le_of_ble_eq_true rfl) (Nat.le_of_ble_eq_true rfl) dX7_isTold_15
  · have h_1 : 0 < k_ground_wide.toInt := c_nle h_1
    refine lv_iconst (v := 1) hx hb dX7_isTold_10 (by decide) ?_
    refine lv_goto (tgt := 15) hx hb dX7_isTold_11 (by decide) ?_
    exact eI hQ X hr hlocks hP hD hS () [0, 1, 2] (by decide) rfl rfl (show (0 ≤ (1 : Int32).toInt ∧ (1 : Int32).toInt ≤ 1) ∧ (((1 : Int32).toInt = 1 ∧ 0 < k_ground_wide.toInt) ∨ ((1 : Int32).toInt = 0 ∧ k_ground_wide.toInt ≤ 0)) from ⟨(by decide), (Or.inl ⟨by decide, by omega⟩)⟩) (Nat.le_of_ble_eq_true rfl) (Nat.le_of_ble_eq_true rfl) dX7_isTold_15
set_option maxHeartbeats 4000000 in
set_option maxRecDepth 100000 in
theorem sX7_hasAllRows (l : Launch) (dC : Nat → ClassId) (dI : Nat → Nat → Nat) (cy : Nat → ClassId) (h0 : Nat) (k_ground : Nat) (k_errs : Int32) (k_slips : Int32) (k_rows : Int32) (k_unsureCount : Int32) (k_unsure : Nat) (k_walkers : Int32) (k_names : Nat) (k_kinds : Nat) (k_starts : Nat) (k_goals : Nat) (k_walks : Int32) (k_walkStarts : Nat) (k_walkSteps : Nat) (k_walkFell : Nat) (k_ground_wide : Int32) (k_ground_deep : Int32) (k_ground_count : Int32) (k_ground_sorts : Nat) (k_ground_sortsf : Nat → Int32) (hk_rows : 0 ≤ k_rows.toInt ∧ k_rows.toInt ≤ 4) (hk_unsureCount : 0 ≤ k_unsureCount.toInt ∧ k_unsureCount.toInt ≤ 5) (hk_walkers : 0 ≤ k_walkers.toInt ∧ k_walkers.toInt ≤ 4) (hk_walks : 0 ≤ k_walks.toInt ∧ k_walks.toInt ≤ 6) (hk_ground_wide : 0 ≤ k_ground_wide.toInt ∧ k_ground_wide.toInt ≤ 5) (hk_ground_deep : 0 ≤ k_ground_deep.toInt ∧ k_ground_deep.toInt ≤ 4) (hk_ground_count : 0 ≤ k_ground_count.toInt ∧ k_ground_count.toInt ≤ 20) : ctI l dC dI cy hp yX7_hasAllRows cX7_hasAllRows 1 .boolean ({ frames := 1, cells := 0, slots := 0, locals := 20 } : Room) [.ref h0] [(h0, .inr (7, [.ref k_ground, .int k_errs, .int k_slips, .int k_rows, .int k_unsureCount, .ref k_unsure, .int k_walkers, .ref k_names, .ref k_kinds, .ref k_starts, .ref k_goals, .int k_walks, .ref k_walkStarts, .ref k_walkSteps, .ref k_walkFell])), (k_ground, .inr (4, [.int k_ground_wide, .int k_ground_deep, .int k_ground_count, .ref k_ground_sorts])), (k_ground_sorts, .inl (cy 1, 20, .inl k_ground_sortsf))] (S := Unit) (fun r _ => (0 ≤ r.toInt ∧ r.toInt ≤ 1) ∧ ((r.toInt = 1 ∧ 0 < k_ground_wide.toInt ∧ k_ground_deep.toInt ≤ k_rows.toInt) ∨ (r.toInt = 0 ∧ (k_ground_wide.toInt ≤ 0 ∨ k_rows.toInt < k_ground_deep.toInt)))) (fun _ => [(h0, .inr (7, [.ref k_ground, .int k_errs, .int k_slips, .int k_rows, .int k_unsureCount, .ref k_unsure, .int k_walkers, .ref k_names, .ref k_kinds, .ref k_starts, .ref k_goals, .int k_walks, .ref k_walkStarts, .ref k_walkSteps, .ref k_walkFell])), (k_ground, .inr (4, [.int k_ground_wide, .int k_ground_deep, .int k_ground_count, .ref k_ground_sorts])), (k_ground_sorts, .inl (cy 1, 20, .inl k_ground_sortsf))]) := by
  refine ctI.of (by decide +kernel) (Nat.le_of_ble_eq_true rfl) ?_
  intro p e s m args below meth c A ls Q hQ X hr hlocks hin hA hP hD hS hl
  have hx := X.1
  have hb := X.2.1
  have hK := X.2.2.2.2.2.1
  have hl : lv_has ls 1 [(0, .ref h0)] := hl
  refine lv_aload_n hx hb dX7_hasAllRows_0 rfl (lv_at hl 0 rfl) ?_
  refine sl_Ic (rV_I (As := []) (rest := []) X hp_st (fun _ _ _ h => h) (sX7_isTold l dC dI cy h0 k_ground k_errs k_slips k_rows k_unsureCount k_unsure k_walkers k_names k_kinds k_starts k_goals k_walks k_walkStarts k_walkSteps k_walkFell k_ground_wide k_ground_deep k_ground_count k_ground_sorts k_ground_sortsf hk_rows hk_unsureCount hk_walkers hk_walks hk_ground_wide hk_ground_deep hk_ground_count) kX7_isTold vX7_isTold mX7_65 hP hD hS hA [0, 1, 2] (by decide) rfl 0 (ci := 7) rfl rfl rfl hl rfl rfl (Nat.le_of_ble_eq_true rfl) dX7_hasAllRows_1 ⟨(Nat.le_of_ble_eq_true rfl), (Nat.le_of_ble_eq_true rfl)⟩ ⟨(Nat.le_of_ble_eq_true rfl), (Nat.le_of_ble_eq_true rfl)⟩) hP hD hS hA [0, 1, 2] [false, false, false] rfl rfl rfl (fun r_1 u_3 H locs k_2 hP hD hS => ?_)
  have k_2 : (0 ≤ r_1.toInt ∧ r_1.toInt ≤ 1) ∧ ((r_1.toInt = 1 ∧ 0 < k_ground_wide.toInt) ∨ (r_1.toInt = 0 ∧ k_ground_wide.toInt ≤ 0)) := k_2
  obtain ⟨k_2_0, k_2_1⟩ := k_2
  have hPD := vPD (ws' := [(h0, .inr (7, [.ref k_ground, .int k_errs, .int k_slips, .int k_rows, .int k_unsureCount, .ref k_unsure, .int k_walkers, .ref k_names, .ref k_kinds, .ref k_starts, .ref k_goals, .int k_walks, .ref k_walkStarts, .ref k_walkSteps, .ref k_walkFell])), (k_ground, .inr (4, [.int k_ground_wide, .int k_ground_deep, .int k_ground_count, .ref k_ground_sorts])), (k_ground_sorts, .inl (cy 1, 20, .inl k_ground_sortsf))]) hP hD rfl
  have hP := hPD.1
  have hD := hPD.2
  refine lv_if_eq (tgt := 25) hx hb dX7_hasAllRows_4 (by decide) (fun h_4 => ?_) (fun h_4 => ?_)
  · have h_4 : r_1.toInt = 0 := c_eq h_4
    refine lv_iconst (v := 0) hx hb dX7_hasAllRows_25 (by decide) ?_
    exact eI hQ X hr hlocks hP hD hS () [0, 1, 2] (by decide) rfl rfl (show (0 ≤ (0 : Int32).toInt ∧ (0 : Int32).toInt ≤ 1) ∧ (((0 : Int32).toInt = 1 ∧ 0 < k_ground_wide.toInt ∧ k_ground_deep.toInt ≤ k_rows.toInt) ∨ ((0 : Int32).toInt = 0 ∧ (k_ground_wide.toInt ≤ 0 ∨ k_rows.toInt < k_ground_deep.toInt))) from ⟨(by decide), (Or.inr ⟨by decide, by omega⟩)⟩) (Nat.le_of_ble_eq_true rfl) (Nat.le_of_ble_eq_true rfl) dX7_hasAllRows_26
  · have h_4 : r_1.toInt ≠ 0 := c_ne h_4
    refine lv_aload_n hx hb dX7_hasAllRows_7 rfl (lv_at hl 0 rfl) ?_
    refine r_get X kcX7 (ci := 7) rfl hP 0 rfl 3 (by decide) fX7_49 rfl dX7_hasAllRows_8 ?_
    refine lv_aload_n hx hb dX7_hasAllRows_11 rfl (lv_at hl 0 rfl) ?_
    refine r_get X kcX7 (ci := 7) rfl hP 0 rfl 0 (by decide) fX7_12 rfl dX7_hasAllRows_12 ?_
    refine r_get X kcX4 (ci := 4) rfl hP 1 rfl 1 (by decide) fX7_69 rfl dX7_hasAllRows_15 ?_
    refine lv_icmp_lt (tgt := 25) hx hb dX7_hasAllRows_18 (by decide) (fun h_5 => ?_) (fun h_5 => ?_)
    · have h_5 : k_rows.toInt < k_ground_deep.toInt := c_lt h_5
      refine lv_iconst (v := 0) hx hb dX7_hasAllRows_25 (by decide) ?_
      exact eI hQ X hr hlocks hP hD hS () [0, 1, 2] (by decide) rfl rfl (show (0 ≤ (0 : Int32).toInt ∧ (0 : Int32).toInt ≤ 1) ∧ (((0 : Int32).toInt = 1 ∧ 0 < k_ground_wide.toInt ∧ k_ground_deep.toInt ≤ k_rows.toInt) ∨ ((0 : Int32).toInt = 0 ∧ (k_ground_wide.toInt ≤ 0 ∨ k_rows.toInt < k_ground_deep.toInt))) from ⟨(by decide), (Or.inr ⟨by decide, by omega⟩)⟩) (Nat.le_of_ble_eq_true rfl) (Nat.le_of_ble_eq_true rfl) dX7_hasAllRows_26
    · have h_5 : k_ground_deep.toInt ≤ k_rows.toInt := c_nlt h_5
      refine lv_iconst (v := 1) hx hb dX7_hasAllRows_21 (by decide) ?_
      refine lv_goto (tgt := 26) hx hb dX7_hasAllRows_22 (by decide) ?_
      exact eI hQ X hr hlocks hP hD hS () [0, 1, 2] (by decide) rfl rfl (show (0 ≤ (1 : Int32).toInt ∧ (1 : Int32).toInt ≤ 1) ∧ (((1 : Int32).toInt = 1 ∧ 0 < k_ground_wide.toInt ∧ k_ground_deep.toInt ≤ k_rows.toInt) ∨ ((1 : Int32).toInt = 0 ∧ (k_ground_wide.toInt ≤ 0 ∨ k_rows.toInt < k_ground_deep.toInt))) from ⟨(by decide), (Or.inl ⟨by decide, by omega, by omega⟩)⟩) (Nat.le_of_ble_eq_true rfl) (Nat.le_of_ble_eq_true rfl) dX7_hasAllRows_26
end
