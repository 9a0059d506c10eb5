set_option maxHeartbeats 4000000 in
set_option maxRecDepth 100000 in
theorem sX6_walkersAt (l : Launch) (dC : Nat → ClassId) (dI : Nat → Nat → Nat) (cy : Nat → ClassId) (h0 : Nat) (n_ground : Nat) (n_at : Nat) (n_fell : Nat) (n_went : Nat) (n_walkers : Int32) (n_atf : Nat → Int32) (p1 : Int32) (hn_walkers : 0 ≤ n_walkers.toInt ∧ n_walkers.toInt ≤ 4) (hn_atf : rb n_atf 4 0 19) : ctI l dC dI cy hp yX6_walkersAt cX6_walkersAt 4 .int ({ frames := 0, cells := 0, slots := 0, locals := 0 } : Room) [.ref h0, .int p1] [(h0, .inr (6, [.ref n_ground, .ref n_at, .ref n_fell, .ref n_went, .int n_walkers])), (n_at, .inl (cy 1, 4, .inl n_atf))] (S := Unit) (fun r _ => True) (fun _ => [(h0, .inr (6, [.ref n_ground, .ref n_at, .ref n_fell, .ref n_went, .int n_walkers])), (n_at, .inl (cy 1, 4, .inl n_atf))]) := by
  refine ctI.of (by decide +kernel) (Nat.le_of_ble_eq_true rfl) ?_
  intro p e s m args below meth c A ls Q hQ X hr hlocks hin hA hP hD hS hl
  have hx := X.1
  have hb := X.2.1
  have hK := X.2.2.2.2.2.1
  have hl : lv_has ls 4 [(0, .ref h0), (1, .int p1)] := hl
  have dy_1 := ti_bd p1
  refine lv_iconst (v := 0) hx hb dX6_walkersAt_0 (by decide) ?_
  refine lv_istore_n (lv' := [(2, .int 0), (0, .ref h0), (1, .int p1)]) hx hb dX6_walkersAt_1 rfl hl (by decide) rfl (fun ls hl => ?_)
  refine lv_iconst (v := 0) hx hb dX6_walkersAt_2 (by decide) ?_
  refine lv_istore_n (lv' := [(3, .int 0), (2, .int 0), (0, .ref h0), (1, .int p1)]) hx hb dX6_walkersAt_3 rfl hl (by decide) rfl (fun ls hl => ?_)
  have lp_2 : ∀ (nlp_2 : Nat) (i_3 : Int32) (i_5 : Int32) (H : Heap) (locs : List Loc) (ls : Array Slot), (0 ≤ i_3.toInt ∧ i_3.toInt ≤ 4) → (5 - i_3.toInt ≤ (nlp_2 : Int)) → va_P (dC, dI) vwCl [(h0, .inr (6, [.ref n_ground, .ref n_at, .ref n_fell, .ref n_went, .int n_walkers])), (n_at, .inl (cy 1, 4, .inl n_atf))] H → va_D A [(h0, .inr (6, [.ref n_ground, .ref n_at, .ref n_fell, .ref n_went, .int n_walkers])), (n_at, .inl (cy 1, 4, .inl n_atf))] → va_S A s.heap H locs → lv_has ls 4 [(3, .int i_3), (2, .int i_5), (0, .ref h0), (1, .int p1)] → W p l e ({ frames := 0, cells := 0, slots := 0, locals := 0 } : Room) s m args below meth c H locs 0 0 Q (F0 m 4 ls []) := by
    intro nlp_2
    induction nlp_2 with
    | zero =>
      intro i_3 i_5 H locs ls b_4 hmlp_2 hP hD hS hl
      exfalso
      have di_3 := ti_bd i_3
      have di_5 := ti_bd i_5
      omega
    | succ nlp_2 ihlp_2 =>
      intro i_3 i_5 H locs ls b_4 hmlp_2 hP hD hS hl
      refine lv_iload_n hx hb dX6_walkersAt_4 rfl (lv_at hl 0 rfl) ?_
      refine lv_aload_n hx hb dX6_walkersAt_5 rfl (lv_at hl 2 rfl) ?_
      refine r_get X kcX6 (ci := 6) rfl hP 0 rfl 4 (by decide) fX6_39 rfl dX6_walkersAt_6 ?_
      refine lv_icmp_ge (tgt := 34) hx hb dX6_walkersAt_9 (by decide) (fun h_6 => ?_) (fun h_6 => ?_)
      · have h_6 : n_walkers.toInt ≤ i_3.toInt := c_le h_6
        refine lv_iload_n hx hb dX6_walkersAt_34 rfl (lv_at hl 1 rfl) ?_
        exact eI hQ X hr hlocks hP hD hS () [0, 1] (by decide) rfl rfl trivial (Nat.le_of_ble_eq_true rfl) (Nat.le_of_ble_eq_true rfl) dX6_walkersAt_35
      · have h_6 : i_3.toInt < n_walkers.toInt := c_nle h_6
        refine lv_aload_n hx hb dX6_walkersAt_12 rfl (lv_at hl 2 rfl) ?_
        refine r_get X kcX6 (ci := 6) rfl hP 0 rfl 1 (by decide) fX6_18 rfl dX6_walkersAt_13 ?_
        refine lv_iload_n hx hb dX6_walkersAt_16 rfl (lv_at hl 0 rfl) ?_
        refine va_iald (D := (dC, dI)) (cl := vwCl) hx hb hK hP 1 1 rfl rfl (i := i_3) (vin (by omega) (by omega)) dX6_walkersAt_17 ?_
        refine lv_topi (fun x_7 ex_7 => ?_)
        have bx_7 : 0 ≤ x_7.toInt ∧ x_7.toInt ≤ 19 := rb_at hn_atf ex_7 (by omega) (by omega)
        refine lv_iload_n hx hb dX6_walkersAt_18 rfl (lv_at hl 3 rfl) ?_
        refine lv_icmp_ne (tgt := 28) hx hb dX6_walkersAt_19 (by decide) (fun h_8 => ?_) (fun h_8 => ?_)
        · have h_8 : x_7.toInt ≠ p1.toInt := c_ne h_8
          obtain ⟨x_9, ex_9⟩ : ∃ y : Int32, y = i_3 + 1 := ⟨_, rfl⟩
          have tx_9 : x_9.toInt = i_3.toInt + 1 := ti_add (A := i_3.toInt) (B := 1) ex_9 rfl rfl (by omega) (by omega)
          refine lv_iinc (v := x_9) (lv' := [(3, .int x_9), (2, .int i_5), (0, .ref h0), (1, .int p1)]) hx hb dX6_walkersAt_28 hl (k := 0) rfl (by rw [ex_9]; rfl) (by decide) rfl (fun ls hl => ?_)
          refine lv_goto (tgt := 4) hx hb dX6_walkersAt_31 (by decide) ?_
          exact ihlp_2 x_9 i_5 _ _ _ (by omega) (show 5 - x_9.toInt ≤ (nlp_2 : Int) by omega) hP hD hS (lv_sub hl [0, 1, 2, 3] rfl)
        · have h_8 : x_7.toInt = p1.toInt := c_eq h_8
          refine lv_iload_n hx hb dX6_walkersAt_22 rfl (lv_at hl 1 rfl) ?_
          refine lv_iconst (v := 1) hx hb dX6_walkersAt_23 (by decide) ?_
          refine lv_iload_n hx hb dX6_walkersAt_24 rfl (lv_at hl 0 rfl) ?_
          refine lv_ishl hx hb dX6_walkersAt_25 ?_
          refine lv_topi (fun x_10 ex_10 => ?_)
          have tx_10 : 1 ≤ x_10.toInt ∧ x_10.toInt ≤ 32 := ti_shl5 ex_10 (by omega) (by omega)
          refine lv_ior hx hb dX6_walkersAt_26 ?_
          have dy_11 := ti_bd i_5
          refine lv_topi (fun x_12 ex_12 => ?_)
          refine lv_istore_n (lv' := [(2, .int x_12), (3, .int i_3), (0, .ref h0), (1, .int p1)]) hx hb dX6_walkersAt_27 rfl hl (by decide) rfl (fun ls hl => ?_)
          obtain ⟨x_13, ex_13⟩ : ∃ y : Int32, y = i_3 + 1 := ⟨_, rfl⟩
          have tx_13 : x_13.toInt = i_3.toInt + 1 := ti_add (A := i_3.toInt) (B := 1) ex_13 rfl rfl (by omega) (by omega)
          refine lv_iinc (v := x_13) (lv' := [(3, .int x_13), (2, .int x_12), (0, .ref h0), (1, .int p1)]) hx hb dX6_walkersAt_28 hl (k := 1) rfl (by rw [ex_13]; rfl) (by decide) rfl (fun ls hl => ?_)
          refine lv_goto (tgt := 4) hx hb dX6_walkersAt_31 (by decide) ?_
          exact ihlp_2 x_13 x_12 _ _ _ (by omega) (show 5 - x_13.toInt ≤ (nlp_2 : Int) by omega) hP hD hS (lv_sub hl [0, 1, 2, 3] rfl)
  exact lp_2 5 0 0 _ _ _ (by decide) (show 5 - 0 ≤ ((5 : Nat) : Int) by omega) hP hD hS hl
set_option maxHeartbeats 4000000 in
set_option maxRecDepth 100000 in
theorem sX6_take (l : Launch) (dC : Nat → ClassId) (dI : Nat → Nat → Nat) (cy : Nat → ClassId) (h0 : Nat) (n_ground : Nat) (n_at : Nat) (n_fell : Nat) (n_went : Nat) (n_walkers : Int32) (n_ground_wide : Int32) (n_ground_deep : Int32) (n_ground_count : Int32) (n_ground_sorts : Nat) (n_ground_sortsf : Nat → Int32) (n_atf : Nat → Int32) (n_fellf : Nat → Int32) (n_wentf : Nat → Int32) (h1 : Nat) (o_ground : Nat) (o_at : Nat) (o_fell : Nat) (o_went : Nat) (o_walkers : Int32) (o_ground_wide : Int32) (o_ground_deep : Int32) (o_ground_count : Int32) (o_ground_sorts : Nat) (o_ground_sortsf : Nat → Int32) (o_atf : Nat → Int32) (o_fellf : Nat → Int32) (o_wentf : Nat → Int32) (hn_walkers : 0 ≤ n_walkers.toInt ∧ n_walkers.toInt ≤ 4) (hn_ground_wide : 0 ≤ n_ground_wide.toInt ∧ n_ground_wide.toInt ≤ 5) (hn_ground_deep : 0 ≤ n_ground_deep.toInt ∧ n_ground_deep.toInt ≤ 4) (hn_ground_count : 0 ≤ n_ground_count.toInt ∧ n_ground_count.toInt ≤ 20) (hn_atf : rb n_atf 4 0 19) (ho_walkers : 0 ≤ o_walkers.toInt ∧ o_walkers.toInt ≤ 4) (ho_ground_wide : 0 ≤ o_ground_wide.toInt ∧ o_ground_wide.toInt ≤ 5) (ho_ground_deep : 0 ≤ o_ground_deep.toInt ∧ o_ground_deep.toInt ≤ 4) (ho_ground_count : 0 ≤ o_ground_count.toInt ∧ o_ground_count.toInt ≤ 20) (ho_atf : rb o_atf 4 0 19) : ctV l dC dI cy hp yX6_take cX6_take 2 ({ frames := 2, cells := 0, slots := 0, locals := 61 } : Room) [.ref h0, .ref h1] [(h0, .inr (6, [.ref n_ground, .ref n_at, .ref n_fell, .ref n_went, .int n_walkers])), (n_ground, .inr (4, [.int n_ground_wide, .int n_ground_deep, .int n_ground_count, .ref n_ground_sorts])), (n_ground_sorts, .inl (cy 1, 20, .inl n_ground_sortsf)), (n_at, .inl (cy 1, 4, .inl n_atf)), (n_fell, .inl (cy 1, 4, .inl n_fellf)), (n_went, .inl (cy 1, 4, .inl n_wentf)), (h1, .inr (6, [.ref o_ground, .ref o_at, .ref o_fell, .ref o_went, .int o_walkers])), (o_ground, .inr (4, [.int o_ground_wide, .int o_ground_deep, .int o_ground_count, .ref o_ground_sorts])), (o_ground_sorts, .inl (cy 1, 20, .inl o_ground_sortsf)), (o_at, .inl (cy 1, 4, .inl o_atf)), (o_fell, .inl (cy 1, 4, .inl o_fellf)), (o_went, .inl (cy 1, 4, .inl o_wentf))] (S := Int32 × Int32 × Int32 × (Nat → Int32) × (Nat → Int32) × (Nat → Int32) × (Nat → Int32) × Int32) (fun u => (0 ≤ u.1.toInt ∧ u.1.toInt ≤ 5) ∧ (0 ≤ u.2.1.toInt ∧ u.2.1.toInt ≤ 4) ∧ (0 ≤ u.2.2.1.toInt ∧ u.2.2.1.toInt ≤ 20) ∧ (rb u.2.2.2.2.1 4 0 19) ∧ (0 ≤ u.2.2.2.2.2.2.2.toInt ∧ u.2.2.2.2.2.2.2.toInt ≤ 4)) (fun u => [(h0, .inr (6, [.ref n_ground, .ref n_at, .ref n_fell, .ref n_went, .int u.2.2.2.2.2.2.2])), (n_ground, .inr (4, [.int u.1, .int u.2.1, .int u.2.2.1, .ref n_ground_sorts])), (n_ground_sorts, .inl (cy 1, 20, .inl u.2.2.2.1)), (n_at, .inl (cy 1, 4, .inl u.2.2.2.2.1)), (n_fell, .inl (cy 1, 4, .inl u.2.2.2.2.2.1)), (n_went, .inl (cy 1, 4, .inl u.2.2.2.2.2.2.1)), (h1, .inr (6, [.ref o_ground, .ref o_at, .ref o_fell, .ref o_went, .int o_walkers])), (o_ground, .inr (4, [.int o_ground_wide, .int o_ground_deep, .int o_ground_count, .ref o_ground_sorts])), (o_ground_sorts, .inl (cy 1, 20, .inl o_ground_sortsf)), (o_at, .inl (cy 1, 4, .inl o_atf)), (o_fell, .inl (cy 1, 4, .inl o_fellf)), (o_went, .inl (cy 1, 4, .inl o_wentf))]) := by
  refine ctV.of (by decide +kernel) (Nat.le_of_ble_eq_true rfl) ?_
  intro p e s m args below meth c A ls Q hQ X hr hlocks hin hA hP hD hS hl
  have hx := X.1
  have hb := X.2.1
  have hK := X.2.2.2.2.2.1
  have hl : lv_has ls 2 [(0, .ref h0), (1, .ref h1)] := hl
  refine lv_aload_n hx hb dX6_take_0 rfl (lv_at hl 0 rfl) ?_
  refine r_get X kcX6 (ci := 6) rfl hP 0 rfl 0 (by decide) fX6_12 rfl dX6_take_1 ?_
  refine lv_aload_n hx hb dX6_take_4 rfl (lv_at hl 1 rfl) ?_
  refine r_get X kcX6 (ci := 6) rfl hP 6 rfl 0 (by decide) fX6_12 rfl dX6_take_5 ?_
  refine fV (wr := [(h0, .inr (6, [.ref n_ground, .ref n_at, .ref n_fell, .ref n_went, .int n_walkers])), (n_at, .inl (cy 1, 4, .inl n_atf)), (n_fell, .inl (cy 1, 4, .inl n_fellf)), (n_went, .inl (cy 1, 4, .inl n_wentf)), (h1, .inr (6, [.ref o_ground, .ref o_at, .ref o_fell, .ref o_went, .int o_walkers])), (o_at, .inl (cy 1, 4, .inl o_atf)), (o_fell, .inl (cy 1, 4, .inl o_fellf)), (o_went, .inl (cy 1, 4, .inl o_wentf))]) (rV_V (wc := [(n_ground, .inr (4, [.int n_ground_wide, .int n_ground_deep, .int n_ground_count, .ref n_ground_sorts])), (n_ground_sorts, .inl (cy 1, 20, .inl n_ground_sortsf)), (o_ground, .inr (4, [.int o_ground_wide, .int o_ground_deep, .int o_ground_count, .ref o_ground_sorts])), (o_ground_sorts, .inl (cy 1, 20, .inl o_ground_sortsf))]) (As := [.ref o_ground]) (rest := []) X hp_st (fun _ _ _ h => h) (sX4_take l dC dI cy n_ground n_ground_wide n_ground_deep n_ground_count n_ground_sorts n_ground_sortsf o_ground o_ground_wide o_ground_deep o_ground_count o_ground_sorts o_ground_sortsf hn_ground_wide hn_ground_deep hn_ground_count ho_ground_wide ho_ground_deep ho_ground_count) kX4_take vX4_take mX6_31 hP hD hS hA [1, 2, 7, 8] (by decide) rfl 0 (ci := 4) rfl rfl rfl hl rfl rfl (Nat.le_of_ble_eq_true rfl) dX6_take_8 ⟨(Nat.le_of_ble_eq_true rfl), (Nat.le_of_ble_eq_true rfl)⟩ ⟨(Nat.le_of_ble_eq_true rfl), (Nat.le_of_ble_eq_true rfl)⟩) hP hD hS hA [1, 2, 7, 8] [0, 3, 4, 5, 6, 9, 10, 11] rfl rfl (by decide) (by decide) (fun u_7 H locs k_6 hP hD hS => ?_)
  obtain ⟨g_wide1_1, g_deep1_2, g_count1_3, g_sortsf1_4⟩ := u_7
  have k_6 : (0 ≤ g_wide1_1.toInt ∧ g_wide1_1.toInt ≤ 5) ∧ (0 ≤ g_deep1_2.toInt ∧ g_deep1_2.toInt ≤ 4) ∧ (0 ≤ g_count1_3.toInt ∧ g_count1_3.toInt ≤ 20) ∧ (g_wide1_1 = o_ground_wide) ∧ (g_deep1_2 = o_ground_deep) := k_6
  obtain ⟨k_6_0, k_6_1, k_6_2, k_6_3, k_6_4⟩ := k_6
  have hP : va_P (dC, dI) vwCl [(h0, .inr (6, [.ref n_ground, .ref n_at, .ref n_fell, .ref n_went, .int n_walkers])), (n_at, .inl (cy 1, 4, .inl n_atf)), (n_fell, .inl (cy 1, 4, .inl n_fellf)), (n_went, .inl (cy 1, 4, .inl n_wentf)), (h1, .inr (6, [.ref o_ground, .ref o_at, .ref o_fell, .ref o_went, .int o_walkers])), (o_at, .inl (cy 1, 4, .inl o_atf)), (o_fell, .inl (cy 1, 4, .inl o_fellf)), (o_went, .inl (cy 1, 4, .inl o_wentf)), (n_ground, .inr (4, [.int g_wide1_1, .int g_deep1_2, .int g_count1_3, .ref n_ground_sorts])), (n_ground_sorts, .inl (cy 1, 20, .inl g_sortsf1_4)), (o_ground, .inr (4, [.int o_ground_wide, .int o_ground_deep, .int o_ground_count, .ref o_ground_sorts])), (o_ground_sorts, .inl (cy 1, 20, .inl o_ground_sortsf))] H := hP
  have hD : va_D A [(h0, .inr (6, [.ref n_ground, .ref n_at, .ref n_fell, .ref n_went, .int n_walkers])), (n_at, .inl (cy 1, 4, .inl n_atf)), (n_fell, .inl (cy 1, 4, .inl n_fellf)), (n_went, .inl (cy 1, 4, .inl n_wentf)), (h1, .inr (6, [.ref o_ground, .ref o_at, .ref o_fell, .ref o_went, .int o_walkers])), (o_at, .inl (cy 1, 4, .inl o_atf)), (o_fell, .inl (cy 1, 4, .inl o_fellf)), (o_went, .inl (cy 1, 4, .inl o_wentf)), (n_ground, .inr (4, [.int g_wide1_1, .int g_deep1_2, .int g_count1_3, .ref n_ground_sorts])), (n_ground_sorts, .inl (cy 1, 20, .inl g_sortsf1_4)), (o_ground, .inr (4, [.int o_ground_wide, .int o_ground_deep, .int o_ground_count, .ref o_ground_sorts])), (o_ground_sorts, .inl (cy 1, 20, .inl o_ground_sortsf))] := hD
  refine lv_aload_n hx hb dX6_take_11 rfl (lv_at hl 0 rfl) ?_
  refine lv_aload_n hx hb dX6_take_12 rfl (lv_at hl 1 rfl) ?_
  refine r_get X kcX6 (ci := 6) rfl hP 4 rfl 4 (by decide) fX6_39 rfl dX6_take_13 ?_
  refine r_put X kcX6 (ci := 6) rfl hP hD hS 0 rfl 4 (by decide) fX6_39 rfl rfl rfl (Nat.le_of_ble_eq_true rfl) dX6_take_16 (fun H locs hP hD hS => ?_)
  have hP : va_P (dC, dI) vwCl [(h0, .inr (6, [.ref n_ground, .ref n_at, .ref n_fell, .ref n_went, .int o_walkers])), (n_at, .inl (cy 1, 4, .inl n_atf)), (n_fell, .inl (cy 1, 4, .inl n_fellf)), (n_went, .inl (cy 1, 4, .inl n_wentf)), (h1, .inr (6, [.ref o_ground, .ref o_at, .ref o_fell, .ref o_went, .int o_walkers])), (o_at, .inl (cy 1, 4, .inl o_atf)), (o_fell, .inl (cy 1, 4, .inl o_fellf)), (o_went, .inl (cy 1, 4, .inl o_wentf)), (n_ground, .inr (4, [.int g_wide1_1, .int g_deep1_2, .int g_count1_3, .ref n_ground_sorts])), (n_ground_sorts, .inl (cy 1, 20, .inl g_sortsf1_4)), (o_ground, .inr (4, [.int o_ground_wide, .int o_ground_deep, .int o_ground_count, .ref o_ground_sorts])), (o_ground_sorts, .inl (cy 1, 20, .inl o_ground_sortsf))] H := hP
  have hD : va_D A [(h0, .inr (6, [.ref n_ground, .ref n_at, .ref n_fell, .ref n_went, .int o_walkers])), (n_at, .inl (cy 1, 4, .inl n_atf)), (n_fell, .inl (cy 1, 4, .inl n_fellf)), (n_went, .inl (cy 1, 4, .inl n_wentf)), (h1, .inr (6, [.ref o_ground, .ref o_at, .ref o_fell, .ref o_went, .int o_walkers])), (o_at, .inl (cy 1, 4, .inl o_atf)), (o_fell, .inl (cy 1, 4, .inl o_fellf)), (o_went, .inl (cy 1, 4, .inl o_wentf)), (n_ground, .inr (4, [.int g_wide1_1, .int g_deep1_2, .int g_count1_3, .ref n_ground_sorts])), (n_ground_sorts, .inl (cy 1, 20, .inl g_sortsf1_4)), (o_ground, .inr (4, [.int o_ground_wide, .int o_ground_deep, .int o_ground_count, .ref o_ground_sorts])), (o_ground_sorts, .inl (cy 1, 20, .inl o_ground_sortsf))] := hD
  refine lv_aload_n hx hb dX6_take_19 rfl (lv_at hl 1 rfl) ?_
  refine r_get X kcX6 (ci := 6) rfl hP 4 rfl 1 (by decide) fX6_18 rfl dX6_take_20 ?_
  refine lv_iconst (v := 0) hx hb dX6_take_23 (by decide) ?_
  refine lv_aload_n hx hb dX6_take_24 rfl (lv_at hl 0 rfl) ?_
  refine r_get X kcX6 (ci := 6) rfl hP 0 rfl 1 (by decide) fX6_18 rfl dX6_take_25 ?_
  refine lv_iconst (v := 0) hx hb dX6_take_28 (by decide) ?_
  refine lv_iconst (v := 4) hx hb dX6_take_29 (by decide) ?_
  refine va_copyi (D := (dC, dI)) (cl := vwCl) hx hb (X.2.2.1.trans hl.1.symm) X.2.2.2.1 (X.2.2.2.2.1 _ w_1025) (X.2.2.2.2.1 _ w_759) (X.2.2.2.2.1 _ w_758) (X.2.2.2.2.1 _ w_119) hK hP hD hS 5 1 1 1 rfl rfl rfl rfl rfl (by decide) (by decide) (by decide) (by decide) (by decide) (fun _ _ => rfl) (Nat.le_of_ble_eq_true rfl) (Nat.le_of_ble_eq_true rfl) dX6_take_30 (fun H locs hP hD hS => ?_)
  generalize ef_8 : va_cpy o_atf n_atf (Int32.toNatClampNeg 0) (Int32.toNatClampNeg 0) (Int32.toNatClampNeg 4) = f_8 at hP hD
  have bf_8 : rb f_8 4 0 19 := by rw [← ef_8]; exact rb_cpy ho_atf
  have hP : va_P (dC, dI) vwCl [(h0, .inr (6, [.ref n_ground, .ref n_at, .ref n_fell, .ref n_went, .int o_walkers])), (n_at, .inl (cy 1, 4, .inl f_8)), (n_fell, .inl (cy 1, 4, .inl n_fellf)), (n_went, .inl (cy 1, 4, .inl n_wentf)), (h1, .inr (6, [.ref o_ground, .ref o_at, .ref o_fell, .ref o_went, .int o_walkers])), (o_at, .inl (cy 1, 4, .inl o_atf)), (o_fell, .inl (cy 1, 4, .inl o_fellf)), (o_went, .inl (cy 1, 4, .inl o_wentf)), (n_ground, .inr (4, [.int g_wide1_1, .int g_deep1_2, .int g_count1_3, .ref n_ground_sorts])), (n_ground_sorts, .inl (cy 1, 20, .inl g_sortsf1_4)), (o_ground, .inr (4, [.int o_ground_wide, .int o_ground_deep, .int o_ground_count, .ref o_ground_sorts])), (o_ground_sorts, .inl (cy 1, 20, .inl o_ground_sortsf))] H := hP
  have hD : va_D A [(h0, .inr (6, [.ref n_ground, .ref n_at, .ref n_fell, .ref n_went, .int o_walkers])), (n_at, .inl (cy 1, 4, .inl f_8)), (n_fell, .inl (cy 1, 4, .inl n_fellf)), (n_went, .inl (cy 1, 4, .inl n_wentf)), (h1, .inr (6, [.ref o_ground, .ref o_at, .ref o_fell, .ref o_went, .int o_walkers])), (o_at, .inl (cy 1, 4, .inl o_atf)), (o_fell, .inl (cy 1, 4, .inl o_fellf)), (o_went, .inl (cy 1, 4, .inl o_wentf)), (n_ground, .inr (4, [.int g_wide1_1, .int g_deep1_2, .int g_count1_3, .ref n_ground_sorts])), (n_ground_sorts, .inl (cy 1, 20, .inl g_sortsf1_4)), (o_ground, .inr (4, [.int o_ground_wide, .int o_ground_deep, .int o_ground_count, .ref o_ground_sorts])), (o_ground_sorts, .inl (cy 1, 20, .inl o_ground_sortsf))] := hD
  refine lv_aload_n hx hb dX6_take_33 rfl (lv_at hl 1 rfl) ?_
  refine r_get X kcX6 (ci := 6) rfl hP 4 rfl 2 (by decide) fX6_22 rfl dX6_take_34 ?_
  refine lv_iconst (v := 0) hx hb dX6_take_37 (by decide) ?_
  refine lv_aload_n hx hb dX6_take_38 rfl (lv_at hl 0 rfl) ?_
  refine r_get X kcX6 (ci := 6) rfl hP 0 rfl 2 (by decide) fX6_22 rfl dX6_take_39 ?_
  refine lv_iconst (v := 0) hx hb dX6_take_42 (by decide) ?_
  refine lv_iconst (v := 4) hx hb dX6_take_43 (by decide) ?_
  refine va_copyi (D := (dC, dI)) (cl := vwCl) hx hb (X.2.2.1.trans hl.1.symm) X.2.2.2.1 (X.2.2.2.2.1 _ w_1025) (X.2.2.2.2.1 _ w_759) (X.2.2.2.2.1 _ w_758) (X.2.2.2.2.1 _ w_119) hK hP hD hS 6 2 1 1 rfl rfl rfl rfl rfl (by decide) (by decide) (by decide) (by decide) (by decide) (fun _ _ => rfl) (Nat.le_of_ble_eq_true rfl) (Nat.le_of_ble_eq_true rfl) dX6_take_44 (fun H locs hP hD hS => ?_)
  generalize ef_9 : va_cpy o_fellf n_fellf (Int32.toNatClampNeg 0) (Int32.toNatClampNeg 0) (Int32.toNatClampNeg 4) = f_9 at hP hD
  have hP : va_P (dC, dI) vwCl [(h0, .inr (6, [.ref n_ground, .ref n_at, .ref n_fell, .ref n_went, .int o_walkers])), (n_at, .inl (cy 1, 4, .inl f_8)), (n_fell, .inl (cy 1, 4, .inl f_9)), (n_went, .inl (cy 1, 4, .inl n_wentf)), (h1, .inr (6, [.ref o_ground, .ref o_at, .ref o_fell, .ref o_went, .int o_walkers])), (o_at, .inl (cy 1, 4, .inl o_atf)), (o_fell, .inl (cy 1, 4, .inl o_fellf)), (o_went, .inl (cy 1, 4, .inl o_wentf)), (n_ground, .inr (4, [.int g_wide1_1, .int g_deep1_2, .int g_count1_3, .ref n_ground_sorts])), (n_ground_sorts, .inl (cy 1, 20, .inl g_sortsf1_4)), (o_ground, .inr (4, [.int o_ground_wide, .int o_ground_deep, .int o_ground_count, .ref o_ground_sorts])), (o_ground_sorts, .inl (cy 1, 20, .inl o_ground_sortsf))] H := hP
  have hD : va_D A [(h0, .inr (6, [.ref n_ground, .ref n_at, .ref n_fell, .ref n_went, .int o_walkers])), (n_at, .inl (cy 1, 4, .inl f_8)), (n_fell, .inl (cy 1, 4, .inl f_9)), (n_went, .inl (cy 1, 4, .inl n_wentf)), (h1, .inr (6, [.ref o_ground, .ref o_at, .ref o_fell, .ref o_went, .int o_walkers])), (o_at, .inl (cy 1, 4, .inl o_atf)), (o_fell, .inl (cy 1, 4, .inl o_fellf)), (o_went, .inl (cy 1, 4, .inl o_wentf)), (n_ground, .inr (4, [.int g_wide1_1, .int g_deep1_2, .int g_count1_3, .ref n_ground_sorts])), (n_ground_sorts, .inl (cy 1, 20, .inl g_sortsf1_4)), (o_ground, .inr (4, [.int o_ground_wide, .int o_ground_deep, .int o_ground_count, .ref o_ground_sorts])), (o_ground_sorts, .inl (cy 1, 20, .inl o_ground_sortsf))] := hD
  refine lv_aload_n hx hb dX6_take_47 rfl (lv_at hl 1 rfl) ?_
  refine r_get X kcX6 (ci := 6) rfl hP 4 rfl 3 (by decide) fX6_25 rfl dX6_take_48 ?_
  refine lv_iconst (v := 0) hx hb dX6_take_51 (by decide) ?_
  refine lv_aload_n hx hb dX6_take_52 rfl (lv_at hl 0 rfl) ?_
  refine r_get X kcX6 (ci := 6) rfl hP 0 rfl 3 (by decide) fX6_25 rfl dX6_take_53 ?_
  refine lv_iconst (v := 0) hx hb dX6_take_56 (by decide) ?_
  refine lv_iconst (v := 4) hx hb dX6_take_57 (by decide) ?_
  refine va_copyi (D := (dC, dI)) (cl := vwCl) hx hb (X.2.2.1.trans hl.1.symm) X.2.2.2.1 (X.2.2.2.2.1 _ w_1025) (X.2.2.2.2.1 _ w_759) (X.2.2.2.2.1 _ w_758) (X.2.2.2.2.1 _ w_119) hK hP hD hS 7 3 1 1 rfl rfl rfl rfl rfl (by decide) (by decide) (by decide) (by decide) (by decide) (fun _ _ => rfl) (Nat.le_of_ble_eq_true rfl) (Nat.le_of_ble_eq_true rfl) dX6_take_58 (fun H locs hP hD hS => ?_)
  generalize ef_10 : va_cpy o_wentf n_wentf (Int32.toNatClampNeg 0) (Int32.toNatClampNeg 0) (Int32.toNatClampNeg 4) = f_10 at hP hD
  have hP : va_P (dC, dI) vwCl [(h0, .inr (6, [.ref n_ground, .ref n_at, .ref n_fell, .ref n_went, .int o_walkers])), (n_at, .inl (cy 1, 4, .inl f_8)), (n_fell, .inl (cy 1, 4, .inl f_9)), (n_went, .inl (cy 1, 4, .inl f_10)), (h1, .inr (6, [.ref o_ground, .ref o_at, .ref o_fell, .ref o_went, .int o_walkers])), (o_at, .inl (cy 1, 4, .inl o_atf)), (o_fell, .inl (cy 1, 4, .inl o_fellf)), (o_went, .inl (cy 1, 4, .inl o_wentf)), (n_ground, .inr (4, [.int g_wide1_1, .int g_deep1_2, .int g_count1_3, .ref n_ground_sorts])), (n_ground_sorts, .inl (cy 1, 20, .inl g_sortsf1_4)), (o_ground, .inr (4, [.int o_ground_wide, .int o_ground_deep, .int o_ground_count, .ref o_ground_sorts])), (o_ground_sorts, .inl (cy 1, 20, .inl o_ground_sortsf))] H := hP
  have hD : va_D A [(h0, .inr (6, [.ref n_ground, .ref n_at, .ref n_fell, .ref n_went, .int o_walkers])), (n_at, .inl (cy 1, 4, .inl f_8)), (n_fell, .inl (cy 1, 4, .inl f_9)), (n_went, .inl (cy 1, 4, .inl f_10)), (h1, .inr (6, [.ref o_ground, .ref o_at, .ref o_fell, .ref o_went, .int o_walkers])), (o_at, .inl (cy 1, 4, .inl o_atf)), (o_fell, .inl (cy 1, 4, .inl o_fellf)), (o_went, .inl (cy 1, 4, .inl o_wentf)), (n_ground, .inr (4, [.int g_wide1_1, .int g_deep1_2, .int g_count1_3, .ref n_ground_sorts])), (n_ground_sorts, .inl (cy 1, 20, .inl g_sortsf1_4)), (o_ground, .inr (4, [.int o_ground_wide, .int o_ground_deep, .int o_ground_count, .ref o_ground_sorts])), (o_ground_sorts, .inl (cy 1, 20, .inl o_ground_sortsf))] := hD
  exact eV hQ X hr hlocks hP hD hS (g_wide1_1, g_deep1_2, g_count1_3, g_sortsf1_4, f_8, f_9, f_10, o_walkers) [0, 8, 9, 1, 2, 3, 4, 10, 11, 5, 6, 7] (by decide) rfl (show (0 ≤ g_wide1_1.toInt ∧ g_wide1_1.toInt ≤ 5) ∧ (0 ≤ g_deep1_2.toInt ∧ g_deep1_2.toInt ≤ 4) ∧ (0 ≤ g_count1_3.toInt ∧ g_count1_3.toInt ≤ 20) ∧ (rb f_8 4 0 19) ∧ (0 ≤ o_walkers.toInt ∧ o_walkers.toInt ≤ 4) from ⟨k_6_0, k_6_1, k_6_2, bf_8, ho_walkers⟩) (Nat.le_of_ble_eq_true rfl) (Nat.le_of_ble_eq_true rfl) dX6_take_61
set_option maxHeartbeats 4000000 in
set_option maxRecDepth 100000 in
theorem sX6_go (l : Launch) (dC : Nat → ClassId) (dI : Nat → Nat → Nat) (cy : Nat → ClassId) (h0 : Nat) (n_ground : Nat) (n_at : Nat) (n_fell : Nat) (n_went : Nat) (n_walkers : Int32) (n_ground_wide : Int32) (n_ground_deep : Int32) (n_ground_count : Int32) (n_ground_sorts : Nat) (n_ground_sortsf : Nat → Int32) (n_atf : Nat → Int32) (n_fellf : Nat → Int32) (n_wentf : Nat → Int32) (p1 : Int32) (p2 : Int32) (p3 : Int32) (hn_walkers : 0 ≤ n_walkers.toInt ∧ n_walkers.toInt ≤ 4) (hn_ground_wide : 0 ≤ n_ground_wide.toInt ∧ n_ground_wide.toInt ≤ 5) (hn_ground_deep : 0 ≤ n_ground_deep.toInt ∧ n_ground_deep.toInt ≤ 4) (hn_ground_count : 0 ≤ n_ground_count.toInt ∧ n_ground_count.toInt ≤ 20) (hn_atf : rb n_atf 4 0 19) (hp1 : 0 ≤ p1.toInt ∧ p1.toInt ≤ 3) : ctV l dC dI cy hp yX6_go cX6_go 5 ({ frames := 2, cells := 0, slots := 0, locals := 47 } : Room) [.ref h0, .int p1, .int p2, .int p3] [(h0, .inr (6, [.ref n_ground, .ref n_at, .ref n_fell, .ref n_went, .int n_walkers])), (n_ground, .inr (4, [.int n_ground_wide, .int n_ground_deep, .int n_ground_count, .ref n_ground_sorts])), (n_ground_sorts, .inl (cy 1, 20, .inl n_ground_sortsf)), (n_at, .inl (cy 1, 4, .inl n_atf)), (n_fell, .inl (cy 1, 4, .inl n_fellf)), (n_went, .inl (cy 1, 4, .inl n_wentf))] (S := (Nat → Int32) × (Nat → Int32) × (Nat → Int32)) (fun u => (rb u.1 4 0 19)) (fun u => [(h0, .inr (6, [.ref n_ground, .ref n_at, .ref n_fell, .ref n_went, .int n_walkers])), (n_ground, .inr (4, [.int n_ground_wide, .int n_ground_deep, .int n_ground_count, .ref n_ground_sorts])), (n_ground_sorts, .inl (cy 1, 20, .inl n_ground_sortsf)), (n_at, .inl (cy 1, 4, .inl u.1)), (n_fell, .inl (cy 1, 4, .inl u.2.1)), (n_went, .inl (cy 1, 4, .inl u.2.2))]) := by
  refine ctV.of (by decide +kernel) (Nat.le_of_ble_eq_true rfl) ?_
  intro p e s m args below meth c A ls Q hQ X hr hlocks hin hA hP hD hS hl
  have hx := X.1
  have hb := X.2.1
  have hK := X.2.2.2.2.2.1
  have hl : lv_has ls 5 [(0, .ref h0), (1, .int p1), (2, .int p2), (3, .int p3)] := hl
  have dy_1 := ti_bd p2
  have dy_2 := ti_bd p3
  refine lv_aload_n hx hb dX6_go_0 rfl (lv_at hl 0 rfl) ?_
  refine r_get X kcX6 (ci := 6) rfl hP 0 rfl 0 (by decide) fX6_12 rfl dX6_go_1 ?_
  refine lv_iload_n hx hb dX6_go_4 rfl (lv_at hl 2 rfl) ?_
  refine lv_aload_n hx hb dX6_go_5 rfl (lv_at hl 0 rfl) ?_
  refine r_get X kcX6 (ci := 6) rfl hP 0 rfl 1 (by decide) fX6_18 rfl dX6_go_6 ?_
  refine lv_iload_n hx hb dX6_go_9 rfl (lv_at hl 1 rfl) ?_
  refine va_iald (D := (dC, dI)) (cl := vwCl) hx hb hK hP 3 1 rfl rfl (i := p1) (vin (by omega) (by omega)) dX6_go_10 ?_
  refine lv_topi (fun x_3 ex_3 => ?_)
  have bx_3 : 0 ≤ x_3.toInt ∧ x_3.toInt ≤ 19 := rb_at hn_atf ex_3 (by omega) (by omega)
  refine lv_iload_n hx hb dX6_go_11 rfl (lv_at hl 3 rfl) ?_
  refine fI (wr := [(h0, .inr (6, [.ref n_ground, .ref n_at, .ref n_fell, .ref n_went, .int n_walkers])), (n_at, .inl (cy 1, 4, .inl n_atf)), (n_fell, .inl (cy 1, 4, .inl n_fellf)), (n_went, .inl (cy 1, 4, .inl n_wentf))]) (rV_I (wc := [(n_ground, .inr (4, [.int n_ground_wide, .int n_ground_deep, .int n_ground_count, .ref n_ground_sorts])), (n_ground_sorts, .inl (cy 1, 20, .inl n_ground_sortsf))]) (As := [.int p2, .int x_3, .int p3]) (rest := []) X hp_st (fun _ _ _ h => h) (sX4_timeFor l dC dI cy n_ground n_ground_wide n_ground_deep n_ground_count n_ground_sorts n_ground_sortsf p2 x_3 p3 hn_ground_wide hn_ground_deep hn_ground_count) kX4_timeFor vX4_timeFor mX6_49 hP hD hS hA [1, 2] (by decide) rfl 0 (ci := 4) rfl rfl rfl hl rfl rfl (Nat.le_of_ble_eq_true rfl) dX6_go_12 ⟨(Nat.le_of_ble_eq_true rfl), (Nat.le_of_ble_eq_true rfl)⟩ ⟨(Nat.le_of_ble_eq_true rfl), (Nat.le_of_ble_eq_true rfl)⟩) hP hD hS hA [1, 2] [0, 3, 4, 5] rfl rfl (by decide) (by decide) (fun r_4 u_6 H locs k_5 hP hD hS => ?_)
  have k_5 : ((-2) ≤ r_4.toInt ∧ r_4.toInt ≤ 4) ∧ (r_4.toInt = -2 ∨ (0 ≤ x_3.toInt ∧ x_3.toInt < n_ground_count.toInt ∧ (tgZ n_ground_wide.toInt n_ground_count.toInt n_ground_sortsf x_3.toInt p3.toInt) ≠ -1)) := k_5
  obtain ⟨k_5_0, k_5_1⟩ := k_5
  have hP : va_P (dC, dI) vwCl [(h0, .inr (6, [.ref n_ground, .ref n_at, .ref n_fell, .ref n_went, .int n_walkers])), (n_at, .inl (cy 1, 4, .inl n_atf)), (n_fell, .inl (cy 1, 4, .inl n_fellf)), (n_went, .inl (cy 1, 4, .inl n_wentf)), (n_ground, .inr (4, [.int n_ground_wide, .int n_ground_deep, .int n_ground_count, .ref n_ground_sorts])), (n_ground_sorts, .inl (cy 1, 20, .inl n_ground_sortsf))] H := hP
  have hD : va_D A [(h0, .inr (6, [.ref n_ground, .ref n_at, .ref n_fell, .ref n_went, .int n_walkers])), (n_at, .inl (cy 1, 4, .inl n_atf)), (n_fell, .inl (cy 1, 4, .inl n_fellf)), (n_went, .inl (cy 1, 4, .inl n_wentf)), (n_ground, .inr (4, [.int n_ground_wide, .int n_ground_deep, .int n_ground_count, .ref n_ground_sorts])), (n_ground_sorts, .inl (cy 1, 20, .inl n_ground_sortsf))] := hD
  refine lv_istore (lv' := [(4, .int r_4), (0, .ref h0), (1, .int p1), (2, .int p2), (3, .int p3)]) hx hb dX6_go_15 hl (by decide) rfl (fun ls hl => ?_)
  refine lv_iload hx hb dX6_go_17 (lv_at hl 0 rfl) ?_
  refine lv_bipush (v := -2) hx hb dX6_go_19 (by decide) ?_
  refine lv_icmp_eq (tgt := 79) hx hb dX6_go_21 (by decide) (fun h_7 => ?_) (fun h_7 => ?_)
  · have h_7 : r_4.toInt = (-2) := c_eq h_7
    exact eV hQ X hr hlocks hP hD hS (n_atf, n_fellf, n_wentf) [0, 4, 5, 1, 2, 3] (by decide) rfl (show (rb n_atf 4 0 19) from hn_atf) (Nat.le_of_ble_eq_true rfl) (Nat.le_of_ble_eq_true rfl) dX6_go_79
  · have h_7 : r_4.toInt ≠ (-2) := c_ne h_7
    refine lv_aload_n hx hb dX6_go_24 rfl (lv_at hl 1 rfl) ?_
    refine r_get X kcX6 (ci := 6) rfl hP 0 rfl 3 (by decide) fX6_25 rfl dX6_go_25 ?_
    refine lv_iload_n hx hb dX6_go_28 rfl (lv_at hl 2 rfl) ?_
    refine lv_dup2_11 hx hb dX6_go_29 rfl rfl ?_
    refine va_iald (D := (dC, dI)) (cl := vwCl) hx hb hK hP 3 1 rfl rfl (i := p1) (vin (by omega) (by omega)) dX6_go_30 ?_
    refine lv_topi (fun x_8 ex_8 => ?_)
    refine lv_iload hx hb dX6_go_31 (lv_at hl 0 rfl) ?_
    refine lv_iadd hx hb dX6_go_33 ?_
    have dy_9 := ti_bd x_8
    refine lv_topi (fun x_10 ex_10 => ?_)
    refine va_iast (D := (dC, dI)) (cl := vwCl) hx hb hK hP hD hS 3 1 rfl rfl (i := p1) (vin (by omega) (by omega)) dX6_go_34 (fun H locs hP hD hS => ?_)
    generalize ef_11 : upd n_wentf (Int32.toNatClampNeg p1) x_10 = f_11 at hP hD
    have hP : va_P (dC, dI) vwCl [(h0, .inr (6, [.ref n_ground, .ref n_at, .ref n_fell, .ref n_went, .int n_walkers])), (n_at, .inl (cy 1, 4, .inl n_atf)), (n_fell, .inl (cy 1, 4, .inl n_fellf)), (n_went, .inl (cy 1, 4, .inl f_11)), (n_ground, .inr (4, [.int n_ground_wide, .int n_ground_deep, .int n_ground_count, .ref n_ground_sorts])), (n_ground_sorts, .inl (cy 1, 20, .inl n_ground_sortsf))] H := hP
    have hD : va_D A [(h0, .inr (6, [.ref n_ground, .ref n_at, .ref n_fell, .ref n_went, .int n_walkers])), (n_at, .inl (cy 1, 4, .inl n_atf)), (n_fell, .inl (cy 1, 4, .inl n_fellf)), (n_went, .inl (cy 1, 4, .inl f_11)), (n_ground, .inr (4, [.int n_ground_wide, .int n_ground_deep, .int n_ground_count, .ref n_ground_sorts])), (n_ground_sorts, .inl (cy 1, 20, .inl n_ground_sortsf))] := hD
    refine lv_aload_n hx hb dX6_go_35 rfl (lv_at hl 1 rfl) ?_
    refine r_get X kcX6 (ci := 6) rfl hP 0 rfl 2 (by decide) fX6_22 rfl dX6_go_36 ?_
    refine lv_iload_n hx hb dX6_go_39 rfl (lv_at hl 2 rfl) ?_
    refine lv_dup2_11 hx hb dX6_go_40 rfl rfl ?_
    refine va_iald (D := (dC, dI)) (cl := vwCl) hx hb hK hP 2 1 rfl rfl (i := p1) (vin (by omega) (by omega)) dX6_go_41 ?_
    refine lv_topi (fun x_12 ex_12 => ?_)
    refine lv_aload_n hx hb dX6_go_42 rfl (lv_at hl 1 rfl) ?_
    refine r_get X kcX6 (ci := 6) rfl hP 0 rfl 0 (by decide) fX6_12 rfl dX6_go_43 ?_
    refine lv_iload_n hx hb dX6_go_46 rfl (lv_at hl 3 rfl) ?_
    refine lv_aload_n hx hb dX6_go_47 rfl (lv_at hl 1 rfl) ?_
    refine r_get X kcX6 (ci := 6) rfl hP 0 rfl 1 (by decide) fX6_18 rfl dX6_go_48 ?_
    refine lv_iload_n hx hb dX6_go_51 rfl (lv_at hl 2 rfl) ?_
    refine va_iald (D := (dC, dI)) (cl := vwCl) hx hb hK hP 1 1 rfl rfl (i := p1) (vin (by omega) (by omega)) dX6_go_52 ?_
    refine lv_topi (fun x_13 ex_13 => ?_)
    have qx_13 : x_3 = x_13 := ex_3.trans ex_13.symm
    subst qx_13
    refine lv_iload_n hx hb dX6_go_53 rfl (lv_at hl 4 rfl) ?_
    refine fI (wr := [(h0, .inr (6, [.ref n_ground, .ref n_at, .ref n_fell, .ref n_went, .int n_walkers])), (n_at, .inl (cy 1, 4, .inl n_atf)), (n_fell, .inl (cy 1, 4, .inl n_fellf)), (n_went, .inl (cy 1, 4, .inl f_11))]) (rV_I (wc := [(n_ground, .inr (4, [.int n_ground_wide, .int n_ground_deep, .int n_ground_count, .ref n_ground_sorts])), (n_ground_sorts, .inl (cy 1, 20, .inl n_ground_sortsf))]) (As := [.int p2, .int x_3, .int p3]) (rest := [.int x_12, .int p1, .ref n_fell]) X hp_st (fun _ _ _ h => h) (sX4_fallsFor l dC dI cy n_ground n_ground_wide n_ground_deep n_ground_count n_ground_sorts n_ground_sortsf p2 x_3 p3 hn_ground_wide hn_ground_deep hn_ground_count) kX4_fallsFor vX4_fallsFor mX6_53 hP hD hS hA [4, 5] (by decide) rfl 0 (ci := 4) rfl rfl rfl hl rfl rfl (Nat.le_of_ble_eq_true rfl) dX6_go_54 ⟨(Nat.le_of_ble_eq_true rfl), (Nat.le_of_ble_eq_true rfl)⟩ ⟨(Nat.le_of_ble_eq_true rfl), (Nat.le_of_ble_eq_true rfl)⟩) hP hD hS hA [4, 5] [0, 1, 2, 3] rfl rfl (by decide) (by decide) (fun r_14 u_16 H locs k_15 hP hD hS => ?_)
    have k_15 : (0 ≤ r_14.toInt ∧ r_14.toInt ≤ 1) := k_15
    have hP : va_P (dC, dI) vwCl [(h0, .inr (6, [.ref n_ground, .ref n_at, .ref n_fell, .ref n_went, .int n_walkers])), (n_at, .inl (cy 1, 4, .inl n_atf)), (n_fell, .inl (cy 1, 4, .inl n_fellf)), (n_went, .inl (cy 1, 4, .inl f_11)), (n_ground, .inr (4, [.int n_ground_wide, .int n_ground_deep, .int n_ground_count, .ref n_ground_sorts])), (n_ground_sorts, .inl (cy 1, 20, .inl n_ground_sortsf))] H := hP
    have hD : va_D A [(h0, .inr (6, [.ref n_ground, .ref n_at, .ref n_fell, .ref n_went, .int n_walkers])), (n_at, .inl (cy 1, 4, .inl n_atf)), (n_fell, .inl (cy 1, 4, .inl n_fellf)), (n_went, .inl (cy 1, 4, .inl f_11)), (n_ground, .inr (4, [.int n_ground_wide, .int n_ground_deep, .int n_ground_count, .ref n_ground_sorts])), (n_ground_sorts, .inl (cy 1, 20, .inl n_ground_sortsf))] := hD
    refine lv_iadd hx hb dX6_go_57 ?_
    have dy_17 := ti_bd x_12
    refine lv_topi (fun x_18 ex_18 => ?_)
    refine va_iast (D := (dC, dI)) (cl := vwCl) hx hb hK hP hD hS 2 1 rfl rfl (i := p1) (vin (by omega) (by omega)) dX6_go_58 (fun H locs hP hD hS => ?_)
    generalize ef_19 : upd n_fellf (Int32.toNatClampNeg p1) x_18 = f_19 at hP hD
    have hP : va_P (dC, dI) vwCl [(h0, .inr (6, [.ref n_ground, .ref n_at, .ref n_fell, .ref n_went, .int n_walkers])), (n_at, .inl (cy 1, 4, .inl n_atf)), (n_fell, .inl (cy 1, 4, .inl f_19)), (n_went, .inl (cy 1, 4, .inl f_11)), (n_ground, .inr (4, [.int n_ground_wide, .int n_ground_deep, .int n_ground_count, .ref n_ground_sorts])), (n_ground_sorts, .inl (cy 1, 20, .inl n_ground_sortsf))] H := hP
    have hD : va_D A [(h0, .inr (6, [.ref n_ground, .ref n_at, .ref n_fell, .ref n_went, .int n_walkers])), (n_at, .inl (cy 1, 4, .inl n_atf)), (n_fell, .inl (cy 1, 4, .inl f_19)), (n_went, .inl (cy 1, 4, .inl f_11)), (n_ground, .inr (4, [.int n_ground_wide, .int n_ground_deep, .int n_ground_count, .ref n_ground_sorts])), (n_ground_sorts, .inl (cy 1, 20, .inl n_ground_sortsf))] := hD
    refine lv_aload_n hx hb dX6_go_59 rfl (lv_at hl 1 rfl) ?_
    refine r_get X kcX6 (ci := 6) rfl hP 0 rfl 1 (by decide) fX6_18 rfl dX6_go_60 ?_
    refine lv_iload_n hx hb dX6_go_63 rfl (lv_at hl 2 rfl) ?_
    refine lv_aload_n hx hb dX6_go_64 rfl (lv_at hl 1 rfl) ?_
    refine r_get X kcX6 (ci := 6) rfl hP 0 rfl 0 (by decide) fX6_12 rfl dX6_go_65 ?_
    refine lv_aload_n hx hb dX6_go_68 rfl (lv_at hl 1 rfl) ?_
    refine r_get X kcX6 (ci := 6) rfl hP 0 rfl 1 (by decide) fX6_18 rfl dX6_go_69 ?_
    refine lv_iload_n hx hb dX6_go_72 rfl (lv_at hl 2 rfl) ?_
    refine va_iald (D := (dC, dI)) (cl := vwCl) hx hb hK hP 1 1 rfl rfl (i := p1) (vin (by omega) (by omega)) dX6_go_73 ?_
    refine lv_topi (fun x_20 ex_20 => ?_)
    have qx_20 : x_3 = x_20 := ex_3.trans ex_20.symm
    subst qx_20
    refine lv_iload_n hx hb dX6_go_74 rfl (lv_at hl 4 rfl) ?_
    refine fI (wr := [(h0, .inr (6, [.ref n_ground, .ref n_at, .ref n_fell, .ref n_went, .int n_walkers])), (n_at, .inl (cy 1, 4, .inl n_atf)), (n_fell, .inl (cy 1, 4, .inl f_19)), (n_went, .inl (cy 1, 4, .inl f_11))]) (rV_I (wc := [(n_ground, .inr (4, [.int n_ground_wide, .int n_ground_deep, .int n_ground_count, .ref n_ground_sorts])), (n_ground_sorts, .inl (cy 1, 20, .inl n_ground_sortsf))]) (As := [.int x_3, .int p3]) (rest := [.int p1, .ref n_at]) X hp_st (fun _ _ _ h => h) (sX4_target l dC dI cy n_ground n_ground_wide n_ground_deep n_ground_count n_ground_sorts n_ground_sortsf x_3 p3 hn_ground_wide hn_ground_deep hn_ground_count) kX4_target vX4_target mX6_56 hP hD hS hA [4, 5] (by decide) rfl 0 (ci := 4) rfl rfl rfl hl rfl rfl (Nat.le_of_ble_eq_true rfl) dX6_go_75 ⟨(Nat.le_of_ble_eq_true rfl), (Nat.le_of_ble_eq_true rfl)⟩ ⟨(Nat.le_of_ble_eq_true rfl), (Nat.le_of_ble_eq_true rfl)⟩) hP hD hS hA [4, 5] [0, 1, 2, 3] rfl rfl (by decide) (by decide) (fun r_21 u_23 H locs k_22 hP hD hS => ?_)
    have k_22 : ((-1) ≤ r_21.toInt ∧ r_21.toInt ≤ 19) ∧ (r_21.toInt = (tgZ n_ground_wide.toInt n_ground_count.toInt n_ground_sortsf x_3.toInt p3.toInt)) ∧ (r_21.toInt = -1 ∨ (0 ≤ r_21.toInt ∧ r_21.toInt < n_ground_count.toInt ∧ 0 ≤ x_3.toInt ∧ x_3.toInt < n_ground_count.toInt)) := k_22
    obtain ⟨k_22_0, k_22_1, k_22_2⟩ := k_22
    have hP : va_P (dC, dI) vwCl [(h0, .inr (6, [.ref n_ground, .ref n_at, .ref n_fell, .ref n_went, .int n_walkers])), (n_at, .inl (cy 1, 4, .inl n_atf)), (n_fell, .inl (cy 1, 4, .inl f_19)), (n_went, .inl (cy 1, 4, .inl f_11)), (n_ground, .inr (4, [.int n_ground_wide, .int n_ground_deep, .int n_ground_count, .ref n_ground_sorts])), (n_ground_sorts, .inl (cy 1, 20, .inl n_ground_sortsf))] H := hP
    have hD : va_D A [(h0, .inr (6, [.ref n_ground, .ref n_at, .ref n_fell, .ref n_went, .int n_walkers])), (n_at, .inl (cy 1, 4, .inl n_atf)), (n_fell, .inl (cy 1, 4, .inl f_19)), (n_went, .inl (cy 1, 4, .inl f_11)), (n_ground, .inr (4, [.int n_ground_wide, .int n_ground_deep, .int n_ground_count, .ref n_ground_sorts])), (n_ground_sorts, .inl (cy 1, 20, .inl n_ground_sortsf))] := hD
    refine va_iast (D := (dC, dI)) (cl := vwCl) hx hb hK hP hD hS 1 1 rfl rfl (i := p1) (vin (by omega) (by omega)) dX6_go_78 (fun H locs hP hD hS => ?_)
    generalize ef_24 : upd n_atf (Int32.toNatClampNeg p1) r_21 = f_24 at hP hD
    have bf_24 : rb f_24 4 0 19 := by rw [← ef_24]; exact rb_upd hn_atf (by omega) (by omega)
    have hP : va_P (dC, dI) vwCl [(h0, .inr (6, [.ref n_ground, .ref n_at, .ref n_fell, .ref n_went, .int n_walkers])), (n_at, .inl (cy 1, 4, .inl f_24)), (n_fell, .inl (cy 1, 4, .inl f_19)), (n_went, .inl (cy 1, 4, .inl f_11)), (n_ground, .inr (4, [.int n_ground_wide, .int n_ground_deep, .int n_ground_count, .ref n_ground_sorts])), (n_ground_sorts, .inl (cy 1, 20, .inl n_ground_sortsf))] H := hP
    have hD : va_D A [(h0, .inr (6, [.ref n_ground, .ref n_at, .ref n_fell, .ref n_went, .int n_walkers])), (n_at, .inl (cy 1, 4, .inl f_24)), (n_fell, .inl (cy 1, 4, .inl f_19)), (n_went, .inl (cy 1, 4, .inl f_11)), (n_ground, .inr (4, [.int n_ground_wide, .int n_ground_deep, .int n_ground_count, .ref n_ground_sorts])), (n_ground_sorts, .inl (cy 1, 20, .inl n_ground_sortsf))] := hD
    exact eV hQ X hr hlocks hP hD hS (f_24, f_19, f_11) [0, 4, 5, 1, 2, 3] (by decide) rfl (show (rb f_24 4 0 19) from bf_24) (Nat.le_of_ble_eq_true rfl) (Nat.le_of_ble_eq_true rfl) dX6_go_79
