set_option maxHeartbeats 4000000 in
set_option maxRecDepth 100000 in
theorem sX4_holds (l : Launch) (dC : Nat → ClassId) (dI : Nat → Nat → Nat) (cy : Nat → ClassId) (h0 : Nat) (g_wide : Int32) (g_deep : Int32) (g_count : Int32) (g_sorts : Nat) (p1 : Int32) (hg_wide : 0 ≤ g_wide.toInt ∧ g_wide.toInt ≤ 5) (hg_deep : 0 ≤ g_deep.toInt ∧ g_deep.toInt ≤ 4) (hg_count : 0 ≤ g_count.toInt ∧ g_count.toInt ≤ 20) : ctI l dC dI cy hp yX4_holds cX4_holds 2 .boolean ({ frames := 0, cells := 0, slots := 0, locals := 0 } : Room) [.ref h0, .int p1] [(h0, .inr (4, [.int g_wide, .int g_deep, .int g_count, .ref g_sorts]))] (S := Unit) (fun r _ => (0 ≤ r.toInt ∧ r.toInt ≤ 1) ∧ ((r.toInt = 1 ∧ 0 ≤ p1.toInt ∧ p1.toInt < g_count.toInt) ∨ (r.toInt = 0 ∧ (p1.toInt < 0 ∨ g_count.toInt ≤ p1.toInt)))) (fun _ => [(h0, .inr (4, [.int g_wide, .int g_deep, .int g_count, .ref g_sorts]))]) := by
  refine ctI.of (by decide +kernel) (Nat.le_of_ble_eq_true rfl) ?_
  intro p e s m args below meth c A ls Q hQ X hr hlocks hin hA hP hD hS hl
  have hx := X.1
  have hb := X.2.1
  have hK := X.2.2.2.2.2.1
  have hl : lv_has ls 2 [(0, .ref h0), (1, .int p1)] := hl
  have dy_1 := ti_bd p1
  refine lv_iload_n hx hb dX4_holds_0 rfl (lv_at hl 1 rfl) ?_
  refine lv_if_lt (tgt := 16) hx hb dX4_holds_1 (by decide) (fun h_2 => ?_) (fun h_2 => ?_)
  · have h_2 : p1.toInt < 0 := c_lt h_2
    refine lv_iconst (v := 0) hx hb dX4_holds_16 (by decide) ?_
    exact eI hQ X hr hlocks hP hD hS () [0] (by decide) rfl rfl (show (0 ≤ (0 : Int32).toInt ∧ (0 : Int32).toInt ≤ 1) ∧ (((0 : Int32).toInt = 1 ∧ 0 ≤ p1.toInt ∧ p1.toInt < g_count.toInt) ∨ ((0 : Int32).toInt = 0 ∧ (p1.toInt < 0 ∨ g_count.toInt ≤ p1.toInt))) from ⟨(by decide), (Or.inr ⟨by decide, by omega⟩)⟩) (Nat.le_of_ble_eq_true rfl) (Nat.le_of_ble_eq_true rfl) dX4_holds_17
  · have h_2 : 0 ≤ p1.toInt := c_nlt h_2
    refine lv_iload_n hx hb dX4_holds_4 rfl (lv_at hl 1 rfl) ?_
    refine lv_aload_n hx hb dX4_holds_5 rfl (lv_at hl 0 rfl) ?_
    refine r_get X kcX4 (ci := 4) rfl hP 0 rfl 2 (by decide) fX4_22 rfl dX4_holds_6 ?_
    refine lv_icmp_ge (tgt := 16) hx hb dX4_holds_9 (by decide) (fun h_3 => ?_) (fun h_3 => ?_)
    · have h_3 : g_count.toInt ≤ p1.toInt := c_le h_3
      refine lv_iconst (v := 0) hx hb dX4_holds_16 (by decide) ?_
      exact eI hQ X hr hlocks hP hD hS () [0] (by decide) rfl rfl (show (0 ≤ (0 : Int32).toInt ∧ (0 : Int32).toInt ≤ 1) ∧ (((0 : Int32).toInt = 1 ∧ 0 ≤ p1.toInt ∧ p1.toInt < g_count.toInt) ∨ ((0 : Int32).toInt = 0 ∧ (p1.toInt < 0 ∨ g_count.toInt ≤ p1.toInt))) from ⟨(by decide), (Or.inr ⟨by decide, by omega⟩)⟩) (Nat.le_of_ble_eq_true rfl) (Nat.le_of_ble_eq_true rfl) dX4_holds_17
    · have h_3 : p1.toInt < g_count.toInt := c_nle h_3
      refine lv_iconst (v := 1) hx hb dX4_holds_12 (by decide) ?_
      refine lv_goto (tgt := 17) hx hb dX4_holds_13 (by decide) ?_
      exact eI hQ X hr hlocks hP hD hS () [0] (by decide) rfl rfl (show (0 ≤ (1 : Int32).toInt ∧ (1 : Int32).toInt ≤ 1) ∧ (((1 : Int32).toInt = 1 ∧ 0 ≤ p1.toInt ∧ p1.toInt < g_count.toInt) ∨ ((1 : Int32).toInt = 0 ∧ (p1.toInt < 0 ∨ g_count.toInt ≤ p1.toInt))) from ⟨(by decide), (Or.inl ⟨by decide, by omega, by omega⟩)⟩) (Nat.le_of_ble_eq_true rfl) (Nat.le_of_ble_eq_true rfl) dX4_holds_17
set_option maxHeartbeats 4000000 in
set_option maxRecDepth 100000 in
theorem sX4_resize (l : Launch) (dC : Nat → ClassId) (dI : Nat → Nat → Nat) (cy : Nat → ClassId) (h0 : Nat) (g_wide : Int32) (g_deep : Int32) (g_count : Int32) (g_sorts : Nat) (p1 : Int32) (p2 : Int32) (hg_wide : 0 ≤ g_wide.toInt ∧ g_wide.toInt ≤ 5) (hg_deep : 0 ≤ g_deep.toInt ∧ g_deep.toInt ≤ 4) (hg_count : 0 ≤ g_count.toInt ∧ g_count.toInt ≤ 20) (hp1 : 0 ≤ p1.toInt ∧ p1.toInt ≤ 5) (hp2 : 0 ≤ p2.toInt ∧ p2.toInt ≤ 4) : ctV l dC dI cy hp yX4_resize cX4_resize 3 ({ frames := 0, cells := 0, slots := 0, locals := 0 } : Room) [.ref h0, .int p1, .int p2] [(h0, .inr (4, [.int g_wide, .int g_deep, .int g_count, .ref g_sorts]))] (S := Int32 × Int32 × Int32) (fun u => (0 ≤ u.1.toInt ∧ u.1.toInt ≤ 5) ∧ (0 ≤ u.2.1.toInt ∧ u.2.1.toInt ≤ 4) ∧ (0 ≤ u.2.2.toInt ∧ u.2.2.toInt ≤ 20) ∧ (u.1 = p1) ∧ (u.2.1 = p2) ∧ (u.2.2.toInt = p1.toInt * p2.toInt)) (fun u => [(h0, .inr (4, [.int u.1, .int u.2.1, .int u.2.2, .ref g_sorts]))]) := by
  refine ctV.of (by decide +kernel) (Nat.le_of_ble_eq_true rfl) ?_
  intro p e s m args below meth c A ls Q hQ X hr hlocks hin hA hP hD hS hl
  have hx := X.1
  have hb := X.2.1
  have hK := X.2.2.2.2.2.1
  have hl : lv_has ls 3 [(0, .ref h0), (1, .int p1), (2, .int p2)] := hl
  refine lv_aload_n hx hb dX4_resize_0 rfl (lv_at hl 0 rfl) ?_
  refine lv_iload_n hx hb dX4_resize_1 rfl (lv_at hl 1 rfl) ?_
  refine r_put X kcX4 (ci := 4) rfl hP hD hS 0 rfl 0 (by decide) fX4_15 rfl rfl rfl (Nat.le_of_ble_eq_true rfl) dX4_resize_2 (fun H locs hP hD hS => ?_)
  have hPD := vPD (ws' := [(h0, .inr (4, [.int p1, .int g_deep, .int g_count, .ref g_sorts]))]) hP hD rfl
  have hP := hPD.1
  have hD := hPD.2
  refine lv_aload_n hx hb dX4_resize_5 rfl (lv_at hl 0 rfl) ?_
  refine lv_iload_n hx hb dX4_resize_6 rfl (lv_at hl 2 rfl) ?_
  refine r_put X kcX4 (ci := 4) rfl hP hD hS 0 rfl 1 (by decide) fX4_19 rfl rfl rfl (Nat.le_of_ble_eq_true rfl) dX4_resize_7 (fun H locs hP hD hS => ?_)
  have hPD := vPD (ws' := [(h0, .inr (4, [.int p1, .int p2, .int g_count, .ref g_sorts]))]) hP hD rfl
  have hP := hPD.1
  have hD := hPD.2
  refine lv_aload_n hx hb dX4_resize_10 rfl (lv_at hl 0 rfl) ?_
  refine lv_iload_n hx hb dX4_resize_11 rfl (lv_at hl 1 rfl) ?_
  refine lv_iload_n hx hb dX4_resize_12 rfl (lv_at hl 2 rfl) ?_
  refine lv_imul hx hb dX4_resize_13 ?_
  refine lv_topi (fun x_1 ex_1 => ?_)
  have tx_1 : x_1.toInt = p1.toInt * p2.toInt ∧ 0 ≤ p1.toInt * p2.toInt ∧ p1.toInt * p2.toInt ≤ 20 := ti_mulr (A := 5) (B := 4) ex_1 (by omega) (by omega) (by omega) (by omega) (by decide)
  refine r_put X kcX4 (ci := 4) rfl hP hD hS 0 rfl 2 (by decide) fX4_22 rfl rfl rfl (Nat.le_of_ble_eq_true rfl) dX4_resize_14 (fun H locs hP hD hS => ?_)
  have hPD := vPD (ws' := [(h0, .inr (4, [.int p1, .int p2, .int x_1, .ref g_sorts]))]) hP hD rfl
  have hP := hPD.1
  have hD := hPD.2
  exact eV hQ X hr hlocks hP hD hS (p1, p2, x_1) [0] (by decide) rfl (show (0 ≤ p1.toInt ∧ p1.toInt ≤ 5) ∧ (0 ≤ p2.toInt ∧ p2.toInt ≤ 4) ∧ (0 ≤ x_1.toInt ∧ x_1.toInt ≤ 20) ∧ (p1 = p1) ∧ (p2 = p2) ∧ (x_1.toInt = p1.toInt * p2.toInt) from ⟨hp1, hp2, (by omega), rfl, rfl, (by omega)⟩) (Nat.le_of_ble_eq_true rfl) (Nat.le_of_ble_eq_true rfl) dX4_resize_17
set_option maxHeartbeats 4000000 in
set_option maxRecDepth 100000 in
theorem sX4_allBits (l : Launch) (dC : Nat → ClassId) (dI : Nat → Nat → Nat) (cy : Nat → ClassId) (h0 : Nat) (g_wide : Int32) (g_deep : Int32) (g_count : Int32) (g_sorts : Nat) (hg_wide : 0 ≤ g_wide.toInt ∧ g_wide.toInt ≤ 5) (hg_deep : 0 ≤ g_deep.toInt ∧ g_deep.toInt ≤ 4) (hg_count : 0 ≤ g_count.toInt ∧ g_count.toInt ≤ 20) : ctI l dC dI cy hp yX4_allBits cX4_allBits 1 .int ({ frames := 0, cells := 0, slots := 0, locals := 0 } : Room) [.ref h0] [(h0, .inr (4, [.int g_wide, .int g_deep, .int g_count, .ref g_sorts]))] (S := Unit) (fun r _ => True) (fun _ => [(h0, .inr (4, [.int g_wide, .int g_deep, .int g_count, .ref g_sorts]))]) := by
  refine ctI.of (by decide +kernel) (Nat.le_of_ble_eq_true rfl) ?_
  intro p e s m args below meth c A ls Q hQ X hr hlocks hin hA hP hD hS hl
  have hx := X.1
  have hb := X.2.1
  have hK := X.2.2.2.2.2.1
  have hl : lv_has ls 1 [(0, .ref h0)] := hl
  refine lv_iconst (v := 1) hx hb dX4_allBits_0 (by decide) ?_
  refine lv_aload_n hx hb dX4_allBits_1 rfl (lv_at hl 0 rfl) ?_
  refine r_get X kcX4 (ci := 4) rfl hP 0 rfl 2 (by decide) fX4_22 rfl dX4_allBits_2 ?_
  refine lv_ishl hx hb dX4_allBits_5 ?_
  refine lv_topi (fun x_1 ex_1 => ?_)
  refine lv_iconst (v := 1) hx hb dX4_allBits_6 (by decide) ?_
  refine lv_isub hx hb dX4_allBits_7 ?_
  have dy_2 := ti_bd x_1
  refine lv_topi (fun x_3 ex_3 => ?_)
  exact eI hQ X hr hlocks hP hD hS () [0] (by decide) rfl rfl trivial (Nat.le_of_ble_eq_true rfl) (Nat.le_of_ble_eq_true rfl) dX4_allBits_8
set_option maxHeartbeats 4000000 in
set_option maxRecDepth 100000 in
theorem sX4_sortAt (l : Launch) (dC : Nat → ClassId) (dI : Nat → Nat → Nat) (cy : Nat → ClassId) (h0 : Nat) (g_wide : Int32) (g_deep : Int32) (g_count : Int32) (g_sorts : Nat) (g_sortsf : Nat → Int32) (p1 : Int32) (hg_wide : 0 ≤ g_wide.toInt ∧ g_wide.toInt ≤ 5) (hg_deep : 0 ≤ g_deep.toInt ∧ g_deep.toInt ≤ 4) (hg_count : 0 ≤ g_count.toInt ∧ g_count.toInt ≤ 20) : ctI l dC dI cy hp yX4_sortAt cX4_sortAt 2 .int ({ frames := 1, cells := 0, slots := 0, locals := 21 } : Room) [.ref h0, .int p1] [(h0, .inr (4, [.int g_wide, .int g_deep, .int g_count, .ref g_sorts])), (g_sorts, .inl (cy 1, 20, .inl g_sortsf))] (S := Unit) (fun r _ => (saZ g_count.toInt g_sortsf p1.toInt r.toInt)) (fun _ => [(h0, .inr (4, [.int g_wide, .int g_deep, .int g_count, .ref g_sorts])), (g_sorts, .inl (cy 1, 20, .inl g_sortsf))]) := by
  refine ctI.of (by decide +kernel) (Nat.le_of_ble_eq_true rfl) ?_
  intro p e s m args below meth c A ls Q hQ X hr hlocks hin hA hP hD hS hl
  have hx := X.1
  have hb := X.2.1
  have hK := X.2.2.2.2.2.1
  have hl : lv_has ls 2 [(0, .ref h0), (1, .int p1)] := hl
  have dy_1 := ti_bd p1
  refine lv_aload_n hx hb dX4_sortAt_0 rfl (lv_at hl 0 rfl) ?_
  refine lv_iload_n hx hb dX4_sortAt_1 rfl (lv_at hl 1 rfl) ?_
  refine sl_Ic (rV_I (As := [.int p1]) (rest := []) X hp_st (fun _ _ _ h => h) (sX4_holds l dC dI cy h0 g_wide g_deep g_count g_sorts p1 hg_wide hg_deep hg_count) kX4_holds vX4_holds mX4_25 hP hD hS hA [0] (by decide) rfl 0 (ci := 4) rfl rfl rfl hl rfl rfl (Nat.le_of_ble_eq_true rfl) dX4_sortAt_2 ⟨(Nat.le_of_ble_eq_true rfl), (Nat.le_of_ble_eq_true rfl)⟩ ⟨(Nat.le_of_ble_eq_true rfl), (Nat.le_of_ble_eq_true rfl)⟩) hP hD hS hA [0] [false, true] rfl rfl rfl (fun r_2 u_4 H locs k_3 hP hD hS => ?_)
  have k_3 : (0 ≤ r_2.toInt ∧ r_2.toInt ≤ 1) ∧ ((r_2.toInt = 1 ∧ 0 ≤ p1.toInt ∧ p1.toInt < g_count.toInt) ∨ (r_2.toInt = 0 ∧ (p1.toInt < 0 ∨ g_count.toInt ≤ p1.toInt))) := k_3
  obtain ⟨k_3_0, k_3_1⟩ := k_3
  have hPD := vPD (ws' := [(g_sorts, .inl (cy 1, 20, .inl g_sortsf)), (h0, .inr (4, [.int g_wide, .int g_deep, .int g_count, .ref g_sorts]))]) hP hD rfl
  have hP := hPD.1
  have hD := hPD.2
  refine lv_if_eq (tgt := 17) hx hb dX4_sortAt_5 (by decide) (fun h_5 => ?_) (fun h_5 => ?_)
  · have h_5 : r_2.toInt = 0 := c_eq h_5
    refine lv_iconst (v := 3) hx hb dX4_sortAt_17 (by decide) ?_
    exact eI hQ X hr hlocks hP hD hS () [1, 0] (by decide) rfl rfl (show (saZ g_count.toInt g_sortsf p1.toInt (3 : Int32).toInt) from (Or.inr ⟨by omega, by decide⟩)) (Nat.le_of_ble_eq_true rfl) (Nat.le_of_ble_eq_true rfl) dX4_sortAt_18
  · have h_5 : r_2.toInt ≠ 0 := c_ne h_5
    refine lv_aload_n hx hb dX4_sortAt_8 rfl (lv_at hl 0 rfl) ?_
    refine r_get X kcX4 (ci := 4) rfl hP 1 rfl 3 (by decide) fX4_9 rfl dX4_sortAt_9 ?_
    refine lv_iload_n hx hb dX4_sortAt_12 rfl (lv_at hl 1 rfl) ?_
    refine va_iald (D := (dC, dI)) (cl := vwCl) hx hb hK hP 0 1 rfl rfl (i := p1) (vin (by omega) (by omega)) dX4_sortAt_13 ?_
    refine lv_topi (fun x_6 ex_6 => ?_)
    refine lv_goto (tgt := 18) hx hb dX4_sortAt_14 (by decide) ?_
    exact eI hQ X hr hlocks hP hD hS () [1, 0] (by decide) rfl rfl (show (saZ g_count.toInt g_sortsf p1.toInt x_6.toInt) from (Or.inl ⟨by omega, by omega, by rw [ex_6]; rfl⟩)) (Nat.le_of_ble_eq_true rfl) (Nat.le_of_ble_eq_true rfl) dX4_sortAt_18
set_option maxHeartbeats 4000000 in
set_option maxRecDepth 100000 in
theorem sX4_put (l : Launch) (dC : Nat → ClassId) (dI : Nat → Nat → Nat) (cy : Nat → ClassId) (h0 : Nat) (g_wide : Int32) (g_deep : Int32) (g_count : Int32) (g_sorts : Nat) (g_sortsf : Nat → Int32) (p1 : Int32) (p2 : Int32) (hg_wide : 0 ≤ g_wide.toInt ∧ g_wide.toInt ≤ 5) (hg_deep : 0 ≤ g_deep.toInt ∧ g_deep.toInt ≤ 4) (hg_count : 0 ≤ g_count.toInt ∧ g_count.toInt ≤ 20) : ctV l dC dI cy hp yX4_put cX4_put 3 ({ frames := 1, cells := 0, slots := 0, locals := 21 } : Room) [.ref h0, .int p1, .int p2] [(h0, .inr (4, [.int g_wide, .int g_deep, .int g_count, .ref g_sorts])), (g_sorts, .inl (cy 1, 20, .inl g_sortsf))] (S := (Nat → Int32)) (fun u => (ptZ g_count.toInt g_sortsf u p1 p2)) (fun u => [(h0, .inr (4, [.int g_wide, .int g_deep, .int g_count, .ref g_sorts])), (g_sorts, .inl (cy 1, 20, .inl u))]) := by
  refine ctV.of (by decide +kernel) (Nat.le_of_ble_eq_true rfl) ?_
  intro p e s m args below meth c A ls Q hQ X hr hlocks hin hA hP hD hS hl
  have hx := X.1
  have hb := X.2.1
  have hK := X.2.2.2.2.2.1
  have hl : lv_has ls 3 [(0, .ref h0), (1, .int p1), (2, .int p2)] := hl
  have dy_1 := ti_bd p1
  have dy_2 := ti_bd p2
  refine lv_aload_n hx hb dX4_put_0 rfl (lv_at hl 0 rfl) ?_
  refine lv_iload_n hx hb dX4_put_1 rfl (lv_at hl 1 rfl) ?_
  refine sl_Ic (rV_I (As := [.int p1]) (rest := []) X hp_st (fun _ _ _ h => h) (sX4_holds l dC dI cy h0 g_wide g_deep g_count g_sorts p1 hg_wide hg_deep hg_count) kX4_holds vX4_holds mX4_25 hP hD hS hA [0] (by decide) rfl 0 (ci := 4) rfl rfl rfl hl rfl rfl (Nat.le_of_ble_eq_true rfl) dX4_put_2 ⟨(Nat.le_of_ble_eq_true rfl), (Nat.le_of_ble_eq_true rfl)⟩ ⟨(Nat.le_of_ble_eq_true rfl), (Nat.le_of_ble_eq_true rfl)⟩) hP hD hS hA [0] [false, true] rfl rfl rfl (fun r_3 u_5 H locs k_4 hP hD hS => ?_)
  have k_4 : (0 ≤ r_3.toInt ∧ r_3.toInt ≤ 1) ∧ ((r_3.toInt = 1 ∧ 0 ≤ p1.toInt ∧ p1.toInt < g_count.toInt) ∨ (r_3.toInt = 0 ∧ (p1.toInt < 0 ∨ g_count.toInt ≤ p1.toInt))) := k_4
  obtain ⟨k_4_0, k_4_1⟩ := k_4
  have hPD := vPD (ws' := [(g_sorts, .inl (cy 1, 20, .inl g_sortsf)), (h0, .inr (4, [.int g_wide, .int g_deep, .int g_count, .ref g_sorts]))]) hP hD rfl
  have hP := hPD.1
  have hD := hPD.2
  refine lv_if_eq (tgt := 15) hx hb dX4_put_5 (by decide) (fun h_6 => ?_) (fun h_6 => ?_)
  · have h_6 : r_3.toInt = 0 := c_eq h_6
    exact eV hQ X hr hlocks hP hD hS g_sortsf [1, 0] (by decide) rfl (show (ptZ g_count.toInt g_sortsf g_sortsf p1 p2) from (fun h8 h9 => by exfalso; omega)) (Nat.le_of_ble_eq_true rfl) (Nat.le_of_ble_eq_true rfl) dX4_put_15
  · have h_6 : r_3.toInt ≠ 0 := c_ne h_6
    refine lv_aload_n hx hb dX4_put_8 rfl (lv_at hl 0 rfl) ?_
    refine r_get X kcX4 (ci := 4) rfl hP 1 rfl 3 (by decide) fX4_9 rfl dX4_put_9 ?_
    refine lv_iload_n hx hb dX4_put_12 rfl (lv_at hl 1 rfl) ?_
    refine lv_iload_n hx hb dX4_put_13 rfl (lv_at hl 2 rfl) ?_
    refine va_iast (D := (dC, dI)) (cl := vwCl) hx hb hK hP hD hS 0 1 rfl rfl (i := p1) (vin (by omega) (by omega)) dX4_put_14 (fun H locs hP hD hS => ?_)
    generalize ef_7 : upd g_sortsf (Int32.toNatClampNeg p1) p2 = f_7 at hP hD
    have hPD := vPD (ws' := [(g_sorts, .inl (cy 1, 20, .inl f_7)), (h0, .inr (4, [.int g_wide, .int g_deep, .int g_count, .ref g_sorts]))]) hP hD rfl
    have hP := hPD.1
    have hD := hPD.2
    exact eV hQ X hr hlocks hP hD hS f_7 [1, 0] (by decide) rfl (show (ptZ g_count.toInt g_sortsf f_7 p1 p2) from (fun _ _ => ef_7.symm)) (Nat.le_of_ble_eq_true rfl) (Nat.le_of_ble_eq_true rfl) dX4_put_15
set_option maxHeartbeats 4000000 in
set_option maxRecDepth 100000 in
theorem sX4_bitsOf (l : Launch) (dC : Nat → ClassId) (dI : Nat → Nat → Nat) (cy : Nat → ClassId) (h0 : Nat) (g_wide : Int32) (g_deep : Int32) (g_count : Int32) (g_sorts : Nat) (g_sortsf : Nat → Int32) (p1 : Int32) (hg_wide : 0 ≤ g_wide.toInt ∧ g_wide.toInt ≤ 5) (hg_deep : 0 ≤ g_deep.toInt ∧ g_deep.toInt ≤ 4) (hg_count : 0 ≤ g_count.toInt ∧ g_count.toInt ≤ 20) : ctI l dC dI cy hp yX4_bitsOf cX4_bitsOf 4 .int ({ frames := 0, cells := 0, slots := 0, locals := 0 } : Room) [.ref h0, .int p1] [(h0, .inr (4, [.int g_wide, .int g_deep, .int g_count, .ref g_sorts])), (g_sorts, .inl (cy 1, 20, .inl g_sortsf))] (S := Unit) (fun r _ => (0 ≤ g_count.toInt → r = boZ g_sortsf p1.toInt g_count.toInt.toNat)) (fun _ => [(h0, .inr (4, [.int g_wide, .int g_deep, .int g_count, .ref g_sorts])), (g_sorts, .inl (cy 1, 20, .inl g_sortsf))]) := by
  refine ctI.of (by decide +kernel) (Nat.le_of_ble_eq_true rfl) ?_
  intro p e s m args below meth c A ls Q hQ X hr hlocks hin hA hP hD hS hl
  have hx := X.1
  have hb := X.2.1
  have hK := X.2.2.2.2.2.1
  have hl : lv_has ls 4 [(0, .ref h0), (1, .int p1)] := hl
  have dy_1 := ti_bd p1
  refine lv_iconst (v := 0) hx hb dX4_bitsOf_0 (by decide) ?_
  refine lv_istore_n (lv' := [(2, .int 0), (0, .ref h0), (1, .int p1)]) hx hb dX4_bitsOf_1 rfl hl (by decide) rfl (fun ls hl => ?_)
  refine lv_iconst (v := 0) hx hb dX4_bitsOf_2 (by decide) ?_
  refine lv_istore_n (lv' := [(3, .int 0), (2, .int 0), (0, .ref h0), (1, .int p1)]) hx hb dX4_bitsOf_3 rfl hl (by decide) rfl (fun ls hl => ?_)
  have lp_2 : ∀ (nlp_2 : Nat) (i_3 : Int32) (i_5 : Int32) (H : Heap) (locs : List Loc) (ls : Array Slot), (0 ≤ i_3.toInt ∧ i_3.toInt ≤ 20) → (i_5 = boZ g_sortsf p1.toInt (Int.toNat i_3.toInt)) → (i_3.toInt ≤ g_count.toInt) → (21 - i_3.toInt ≤ (nlp_2 : Int)) → va_P (dC, dI) vwCl [(h0, .inr (4, [.int g_wide, .int g_deep, .int g_count, .ref g_sorts])), (g_sorts, .inl (cy 1, 20, .inl g_sortsf))] H → va_D A [(h0, .inr (4, [.int g_wide, .int g_deep, .int g_count, .ref g_sorts])), (g_sorts, .inl (cy 1, 20, .inl g_sortsf))] → va_S A s.heap H locs → lv_has ls 4 [(3, .int i_3), (2, .int i_5), (0, .ref h0), (1, .int p1)] → W p l e ({ frames := 0, cells := 0, slots := 0, locals := 0 } : Room) s m args below meth c H locs 0 0 Q (F0 m 4 ls []) := by
    intro nlp_2
    induction nlp_2 with
    | zero =>
      intro i_3 i_5 H locs ls b_4 b_6 b_7 hmlp_2 hP hD hS hl
      exfalso
      have di_3 := ti_bd i_3
      have di_5 := ti_bd i_5
      omega
    | succ nlp_2 ihlp_2 =>
      intro i_3 i_5 H locs ls b_4 b_6 b_7 hmlp_2 hP hD hS hl
      refine lv_iload_n hx hb dX4_bitsOf_4 rfl (lv_at hl 0 rfl) ?_
      refine lv_aload_n hx hb dX4_bitsOf_5 rfl (lv_at hl 2 rfl) ?_
      refine r_get X kcX4 (ci := 4) rfl hP 0 rfl 2 (by decide) fX4_22 rfl dX4_bitsOf_6 ?_
      refine lv_icmp_ge (tgt := 34) hx hb dX4_bitsOf_9 (by decide) (fun h_8 => ?_) (fun h_8 => ?_)
      · have h_8 : g_count.toInt ≤ i_3.toInt := c_le h_8
        refine lv_iload_n hx hb dX4_bitsOf_34 rfl (lv_at hl 1 rfl) ?_
        exact eI hQ X hr hlocks hP hD hS () [0, 1] (by decide) rfl rfl (show (0 ≤ g_count.toInt → i_5 = boZ g_sortsf p1.toInt g_count.toInt.toNat) from (fun _ => by have h9 := b_6; rw [show i_3.toInt = g_count.toInt by omega] at h9; exact h9)) (Nat.le_of_ble_eq_true rfl) (Nat.le_of_ble_eq_true rfl) dX4_bitsOf_35
      · have h_8 : i_3.toInt < g_count.toInt := c_nle h_8
        refine lv_aload_n hx hb dX4_bitsOf_12 rfl (lv_at hl 2 rfl) ?_
        refine r_get X kcX4 (ci := 4) rfl hP 0 rfl 3 (by decide) fX4_9 rfl dX4_bitsOf_13 ?_
        refine lv_iload_n hx hb dX4_bitsOf_16 rfl (lv_at hl 0 rfl) ?_
        refine va_iald (D := (dC, dI)) (cl := vwCl) hx hb hK hP 1 1 rfl rfl (i := i_3) (vin (by omega) (by omega)) dX4_bitsOf_17 ?_
        refine lv_topi (fun x_9 ex_9 => ?_)
        refine lv_iload_n hx hb dX4_bitsOf_18 rfl (lv_at hl 3 rfl) ?_
        refine lv_icmp_ne (tgt := 28) hx hb dX4_bitsOf_19 (by decide) (fun h_10 => ?_) (fun h_10 => ?_)
        · have h_10 : x_9.toInt ≠ p1.toInt := c_ne h_10
          obtain ⟨x_11, ex_11⟩ : ∃ y : Int32, y = i_3 + 1 := ⟨_, rfl⟩
          have tx_11 : x_11.toInt = i_3.toInt + 1 := ti_add (A := i_3.toInt) (B := 1) ex_11 rfl rfl (by omega) (by omega)
          refine lv_iinc (v := x_11) (lv' := [(3, .int x_11), (2, .int i_5), (0, .ref h0), (1, .int p1)]) hx hb dX4_bitsOf_28 hl (k := 0) rfl (by rw [ex_11]; rfl) (by decide) rfl (fun ls hl => ?_)
          refine lv_goto (tgt := 4) hx hb dX4_bitsOf_31 (by decide) ?_
          exact ihlp_2 x_11 i_5 _ _ _ (by omega) (show i_5 = boZ g_sortsf p1.toInt (Int.toNat x_11.toInt) from (boZ_n (i := i_3) b_6 rfl (by omega) ex_9 (by omega) (by omega))) (show x_11.toInt ≤ g_count.toInt by omega) (show 21 - x_11.toInt ≤ (nlp_2 : Int) by omega) hP hD hS (lv_sub hl [0, 1, 2, 3] rfl)
        · have h_10 : x_9.toInt = p1.toInt := c_eq h_10
          refine lv_iload_n hx hb dX4_bitsOf_22 rfl (lv_at hl 1 rfl) ?_
          refine lv_iconst (v := 1) hx hb dX4_bitsOf_23 (by decide) ?_
          refine lv_iload_n hx hb dX4_bitsOf_24 rfl (lv_at hl 0 rfl) ?_
          refine lv_ishl hx hb dX4_bitsOf_25 ?_
          refine lv_topi (fun x_12 ex_12 => ?_)
          have tx_12 : 0 ≤ x_12.toInt ∧ x_12.toInt ≤ 1048575 := ti_shl1 ex_12 (by omega) (by omega)
          refine lv_ior hx hb dX4_bitsOf_26 ?_
          have dy_13 := ti_bd i_5
          refine lv_topi (fun x_14 ex_14 => ?_)
          refine lv_istore_n (lv' := [(2, .int x_14), (3, .int i_3), (0, .ref h0), (1, .int p1)]) hx hb dX4_bitsOf_27 rfl hl (by decide) rfl (fun ls hl => ?_)
          obtain ⟨x_15, ex_15⟩ : ∃ y : Int32, y = i_3 + 1 := ⟨_, rfl⟩
          have tx_15 : x_15.toInt = i_3.toInt + 1 := ti_add (A := i_3.toInt) (B := 1) ex_15 rfl rfl (by omega) (by omega)
          refine lv_iinc (v := x_15) (lv' := [(3, .int x_15), (2, .int x_14), (0, .ref h0), (1, .int p1)]) hx hb dX4_bitsOf_28 hl (k := 1) rfl (by rw [ex_15]; rfl) (by decide) rfl (fun ls hl => ?_)
          refine lv_goto (tgt := 4) hx hb dX4_bitsOf_31 (by decide) ?_
          exact ihlp_2 x_15 x_14 _ _ _ (by omega) (show x_14 = boZ g_sortsf p1.toInt (Int.toNat x_15.toInt) from (boZ_y (i := i_3) b_6 rfl (by omega) ex_9 (by omega) ex_12 ex_14 (by omega))) (show x_15.toInt ≤ g_count.toInt by omega) (show 21 - x_15.toInt ≤ (nlp_2 : Int) by omega) hP hD hS (lv_sub hl [0, 1, 2, 3] rfl)
  exact lp_2 21 0 0 _ _ _ (by decide) (show (0 : Int32) = boZ g_sortsf p1.toInt (Int.toNat 0) from rfl) (show 0 ≤ g_count.toInt by omega) (show 21 - 0 ≤ ((21 : Nat) : Int) by omega) hP hD hS hl
set_option maxHeartbeats 4000000 in
set_option maxRecDepth 100000 in
theorem sX4_target (l : Launch) (dC : Nat → ClassId) (dI : Nat → Nat → Nat) (cy : Nat → ClassId) (h0 : Nat) (g_wide : Int32) (g_deep : Int32) (g_count : Int32) (g_sorts : Nat) (g_sortsf : Nat → Int32) (p1 : Int32) (p2 : Int32) (hg_wide : 0 ≤ g_wide.toInt ∧ g_wide.toInt ≤ 5) (hg_deep : 0 ≤ g_deep.toInt ∧ g_deep.toInt ≤ 4) (hg_count : 0 ≤ g_count.toInt ∧ g_count.toInt ≤ 20) : ctI l dC dI cy hp yX4_target cX4_target 4 .int ({ frames := 0, cells := 0, slots := 0, locals := 0 } : Room) [.ref h0, .int p1, .int p2] [(h0, .inr (4, [.int g_wide, .int g_deep, .int g_count, .ref g_sorts])), (g_sorts, .inl (cy 1, 20, .inl g_sortsf))] (S := Unit) (fun r _ => ((-1) ≤ r.toInt ∧ r.toInt ≤ 19) ∧ (r.toInt = (tgZ g_wide.toInt g_count.toInt g_sortsf p1.toInt p2.toInt)) ∧ (r.toInt = -1 ∨ (0 ≤ r.toInt ∧ r.toInt < g_count.toInt ∧ 0 ≤ p1.toInt ∧ p1.toInt < g_count.toInt))) (fun _ => [(h0, .inr (4, [.int g_wide, .int g_deep, .int g_count, .ref g_sorts])), (g_sorts, .inl (cy 1, 20, .inl g_sortsf))]) := by
  refine ctI.of (by decide +kernel) (Nat.le_of_ble_eq_true rfl) ?_
  intro p e s m args below meth c A ls Q hQ X hr hlocks hin hA hP hD hS hl
  have hx := X.1
  have hb := X.2.1
  have hK := X.2.2.2.2.2.1
  have hl : lv_has ls 4 [(0, .ref h0), (1, .int p1), (2, .int p2)] := hl
  have dy_1 := ti_bd p1
  have dy_2 := ti_bd p2
  refine lv_iload_n hx hb dX4_target_0 rfl (lv_at hl 1 rfl) ?_
  refine lv_if_lt (tgt := 19) hx hb dX4_target_1 (by decide) (fun h_3 => ?_) (fun h_3 => ?_)
  · have h_3 : p1.toInt < 0 := c_lt h_3
    refine lv_iconst (v := -1) hx hb dX4_target_19 (by decide) ?_
    exact eI hQ X hr hlocks hP hD hS () [0, 1] (by decide) rfl rfl (show ((-1) ≤ (-1 : Int32).toInt ∧ (-1 : Int32).toInt ≤ 19) ∧ ((-1 : Int32).toInt = (tgZ g_wide.toInt g_count.toInt g_sortsf p1.toInt p2.toInt)) ∧ ((-1 : Int32).toInt = -1 ∨ (0 ≤ (-1 : Int32).toInt ∧ (-1 : Int32).toInt < g_count.toInt ∧ 0 ≤ p1.toInt ∧ p1.toInt < g_count.toInt)) from ⟨(by decide), (by unfold tgZ; rw [if_pos (by omega)]; decide), (Or.inl (by decide))⟩) (Nat.le_of_ble_eq_true rfl) (Nat.le_of_ble_eq_true rfl) dX4_target_20
  · have h_3 : 0 ≤ p1.toInt := c_nlt h_3
    refine lv_iload_n hx hb dX4_target_4 rfl (lv_at hl 1 rfl) ?_
    refine lv_aload_n hx hb dX4_target_5 rfl (lv_at hl 0 rfl) ?_
    refine r_get X kcX4 (ci := 4) rfl hP 0 rfl 2 (by decide) fX4_22 rfl dX4_target_6 ?_
    refine lv_icmp_ge (tgt := 19) hx hb dX4_target_9 (by decide) (fun h_4 => ?_) (fun h_4 => ?_)
    · have h_4 : g_count.toInt ≤ p1.toInt := c_le h_4
      refine lv_iconst (v := -1) hx hb dX4_target_19 (by decide) ?_
      exact eI hQ X hr hlocks hP hD hS () [0, 1] (by decide) rfl rfl (show ((-1) ≤ (-1 : Int32).toInt ∧ (-1 : Int32).toInt ≤ 19) ∧ ((-1 : Int32).toInt = (tgZ g_wide.toInt g_count.toInt g_sortsf p1.toInt p2.toInt)) ∧ ((-1 : Int32).toInt = -1 ∨ (0 ≤ (-1 : Int32).toInt ∧ (-1 : Int32).toInt < g_count.toInt ∧ 0 ≤ p1.toInt ∧ p1.toInt < g_count.toInt)) from ⟨(by decide), (by unfold tgZ; rw [if_pos (by omega)]; decide), (Or.inl (by decide))⟩) (Nat.le_of_ble_eq_true rfl) (Nat.le_of_ble_eq_true rfl) dX4_target_20
    · have h_4 : p1.toInt < g_count.toInt := c_nle h_4
      refine lv_aload_n hx hb dX4_target_12 rfl (lv_at hl 0 rfl) ?_
      refine r_get X kcX4 (ci := 4) rfl hP 0 rfl 0 (by decide) fX4_15 rfl dX4_target_13 ?_
      refine lv_if_gt (tgt := 21) hx hb dX4_target_16 (by decide) (fun h_5 => ?_) (fun h_5 => ?_)
      · have h_5 : 0 < g_wide.toInt := c_lt h_5
        refine lv_iconst (v := -1) hx hb dX4_target_21 (by decide) ?_
        refine lv_istore_n (lv' := [(3, .int (-1)), (0, .ref h0), (1, .int p1), (2, .int p2)]) hx hb dX4_target_22 rfl hl (by decide) rfl (fun ls hl => ?_)
        refine lv_iload_n hx hb dX4_target_23 rfl (lv_at hl 3 rfl) ?_
        refine lv_if_ne (tgt := 37) hx hb dX4_target_24 (by decide) (fun h_6 => ?_) (fun h_6 => ?_)
        · have h_6 : p2.toInt ≠ 0 := c_ne h_6
          refine lv_iload_n hx hb dX4_target_37 rfl (lv_at hl 3 rfl) ?_
          refine lv_iconst (v := 2) hx hb dX4_target_38 (by decide) ?_
          refine lv_icmp_ne (tgt := 52) hx hb dX4_target_39 (by decide) (fun h_7 => ?_) (fun h_7 => ?_)
          · have h_7 : p2.toInt ≠ 2 := c_ne h_7
            refine lv_iload_n hx hb dX4_target_52 rfl (lv_at hl 3 rfl) ?_
            refine lv_iconst (v := 1) hx hb dX4_target_53 (by decide) ?_
            refine lv_icmp_ne (tgt := 79) hx hb dX4_target_54 (by decide) (fun h_8 => ?_) (fun h_8 => ?_)
            · have h_8 : p2.toInt ≠ 1 := c_ne h_8
              refine lv_iload_n hx hb dX4_target_79 rfl (lv_at hl 3 rfl) ?_
              refine lv_iconst (v := 3) hx hb dX4_target_80 (by decide) ?_
              refine lv_icmp_ne (tgt := 97) hx hb dX4_target_81 (by decide) (fun h_9 => ?_) (fun h_9 => ?_)
              · have h_9 : p2.toInt ≠ 3 := c_ne h_9
                refine lv_iload_n hx hb dX4_target_97 rfl (lv_at hl 0 rfl) ?_
                refine lv_if_lt (tgt := 119) hx hb dX4_target_98 (by decide) (fun _ => ?_) (fun h_10 => absurd (by decide) h_10)
                refine lv_iconst (v := -1) hx hb dX4_target_119 (by decide) ?_
                refine lv_goto (tgt := 124) hx hb dX4_target_120 (by decide) ?_
                exact eI hQ X hr hlocks hP hD hS () [0, 1] (by decide) rfl rfl (show ((-1) ≤ (-1 : Int32).toInt ∧ (-1 : Int32).toInt ≤ 19) ∧ ((-1 : Int32).toInt = (tgZ g_wide.toInt g_count.toInt g_sortsf p1.toInt p2.toInt)) ∧ ((-1 : Int32).toInt = -1 ∨ (0 ≤ (-1 : Int32).toInt ∧ (-1 : Int32).toInt < g_count.toInt ∧ 0 ≤ p1.toInt ∧ p1.toInt < g_count.toInt)) from ⟨(by decide), (by unfold tgZ; rw [if_neg (by omega)]; (repeat (first | rw [if_pos (by omega)] | rw [if_neg (by omega)])); unfold tg2; rw [if_pos (by omega)]; decide), (Or.inl (by decide))⟩) (Nat.le_of_ble_eq_true rfl) (Nat.le_of_ble_eq_true rfl) dX4_target_124
              · have h_9 : p2.toInt = 3 := c_eq h_9
                refine lv_iload_n hx hb dX4_target_84 rfl (lv_at hl 2 rfl) ?_
                refine lv_aload_n hx hb dX4_target_85 rfl (lv_at hl 1 rfl) ?_
                refine r_get X kcX4 (ci := 4) rfl hP 0 rfl 0 (by decide) fX4_15 rfl dX4_target_86 ?_
                refine lv_irem hx hb dX4_target_89 (fun hz => by have hz := c_eq hz; rw [Int32.toInt_zero] at hz; omega) ?_
                refine lv_topi (fun x_11 ex_11 => ?_)
                have tx_11 : 0 ≤ x_11.toInt ∧ x_11.toInt < g_wide.toInt ∧ x_11.toInt ≤ p1.toInt ∧ x_11.toInt = p1.toInt % g_wide.toInt := ti_rem ex_11 (by omega) (by omega)
                refine lv_if_le (tgt := 97) hx hb dX4_target_90 (by decide) (fun h_12 => ?_) (fun h_12 => ?_)
                · have h_12 : x_11.toInt ≤ 0 := c_le h_12
                  refine lv_iload_n hx hb dX4_target_97 rfl (lv_at hl 0 rfl) ?_
                  refine lv_if_lt (tgt := 119) hx hb dX4_target_98 (by decide) (fun _ => ?_) (fun h_13 => absurd (by decide) h_13)
                  refine lv_iconst (v := -1) hx hb dX4_target_119 (by decide) ?_
                  refine lv_goto (tgt := 124) hx hb dX4_target_120 (by decide) ?_
                  exact eI hQ X hr hlocks hP hD hS () [0, 1] (by decide) rfl rfl (show ((-1) ≤ (-1 : Int32).toInt ∧ (-1 : Int32).toInt ≤ 19) ∧ ((-1 : Int32).toInt = (tgZ g_wide.toInt g_count.toInt g_sortsf p1.toInt p2.toInt)) ∧ ((-1 : Int32).toInt = -1 ∨ (0 ≤ (-1 : Int32).toInt ∧ (-1 : Int32).toInt < g_count.toInt ∧ 0 ≤ p1.toInt ∧ p1.toInt < g_count.toInt)) from ⟨(by decide), (by unfold tgZ; rw [if_neg (by omega)]; (repeat (first | rw [if_pos (by omega)] | rw [if_neg (by omega)])); unfold tg2; rw [if_pos (by omega)]; decide), (Or.inl (by decide))⟩) (Nat.le_of_ble_eq_true rfl) (Nat.le_of_ble_eq_true rfl) dX4_target_124
                · have h_12 : 0 < x_11.toInt := c_nle h_12
                  refine lv_iload_n hx hb dX4_target_93 rfl (lv_at hl 2 rfl) ?_
                  refine lv_iconst (v := 1) hx hb dX4_target_94 (by decide) ?_
                  refine lv_isub hx hb dX4_target_95 ?_
                  refine lv_topi (fun x_14 ex_14 => ?_)
                  have tx_14 : x_14.toInt = p1.toInt - 1 := ti_sub (A := p1.toInt) (B := 1) ex_14 rfl rfl (by omega) (by omega)
                  refine lv_istore_n (lv' := [(3, .int x_14), (0, .ref h0), (1, .int p1), (2, .int p2)]) hx hb dX4_target_96 rfl hl (by decide) rfl (fun ls hl => ?_)
                  refine lv_iload_n hx hb dX4_target_97 rfl (lv_at hl 0 rfl) ?_
                  refine lv_if_lt (tgt := 119) hx hb dX4_target_98 (by decide) (fun h_15 => ?_) (fun h_15 => ?_)
                  · have h_15 : x_14.toInt < 0 := c_lt h_15
                    refine lv_iconst (v := -1) hx hb dX4_target_119 (by decide) ?_
                    refine lv_goto (tgt := 124) hx hb dX4_target_120 (by decide) ?_
                    exact eI hQ X hr hlocks hP hD hS () [0, 1] (by decide) rfl rfl (show ((-1) ≤ (-1 : Int32).toInt ∧ (-1 : Int32).toInt ≤ 19) ∧ ((-1 : Int32).toInt = (tgZ g_wide.toInt g_count.toInt g_sortsf p1.toInt p2.toInt)) ∧ ((-1 : Int32).toInt = -1 ∨ (0 ≤ (-1 : Int32).toInt ∧ (-1 : Int32).toInt < g_count.toInt ∧ 0 ≤ p1.toInt ∧ p1.toInt < g_count.toInt)) from ⟨(by decide), (by first | (exfalso; omega) | (unfold tgZ; rw [if_neg (by omega)]; (repeat (first | rw [if_pos (by omega)] | rw [if_neg (by omega)])); rw [← tx_14]; unfold tg2; rw [if_pos (by omega)]; decide)), (Or.inl (by decide))⟩) (Nat.le_of_ble_eq_true rfl) (Nat.le_of_ble_eq_true rfl) dX4_target_124
                  · have h_15 : 0 ≤ x_14.toInt := c_nlt h_15
                    refine lv_iload_n hx hb dX4_target_101 rfl (lv_at hl 0 rfl) ?_
                    refine lv_aload_n hx hb dX4_target_102 rfl (lv_at hl 1 rfl) ?_
                    refine r_get X kcX4 (ci := 4) rfl hP 0 rfl 2 (by decide) fX4_22 rfl dX4_target_103 ?_
                    refine lv_icmp_ge (tgt := 119) hx hb dX4_target_106 (by decide) (fun h_16 => ?_) (fun h_16 => ?_)
                    · have h_16 : g_count.toInt ≤ x_14.toInt := c_le h_16
                      refine lv_iconst (v := -1) hx hb dX4_target_119 (by decide) ?_
                      refine lv_goto (tgt := 124) hx hb dX4_target_120 (by decide) ?_
                      exact eI hQ X hr hlocks hP hD hS () [0, 1] (by decide) rfl rfl (show ((-1) ≤ (-1 : Int32).toInt ∧ (-1 : Int32).toInt ≤ 19) ∧ ((-1 : Int32).toInt = (tgZ g_wide.toInt g_count.toInt g_sortsf p1.toInt p2.toInt)) ∧ ((-1 : Int32).toInt = -1 ∨ (0 ≤ (-1 : Int32).toInt ∧ (-1 : Int32).toInt < g_count.toInt ∧ 0 ≤ p1.toInt ∧ p1.toInt < g_count.toInt)) from ⟨(by decide), (by first | (exfalso; omega) | (unfold tgZ; rw [if_neg (by omega)]; (repeat (first | rw [if_pos (by omega)] | rw [if_neg (by omega)])); rw [← tx_14]; unfold tg2; rw [if_pos (by omega)]; decide)), (Or.inl (by decide))⟩) (Nat.le_of_ble_eq_true rfl) (Nat.le_of_ble_eq_true rfl) dX4_target_124
                    · have h_16 : x_14.toInt < g_count.toInt := c_nle h_16
                      refine lv_aload_n hx hb dX4_target_109 rfl (lv_at hl 1 rfl) ?_
                      refine r_get X kcX4 (ci := 4) rfl hP 0 rfl 3 (by decide) fX4_9 rfl dX4_target_110 ?_
                      refine lv_iload_n hx hb dX4_target_113 rfl (lv_at hl 0 rfl) ?_
                      refine va_iald (D := (dC, dI)) (cl := vwCl) hx hb hK hP 1 1 rfl rfl (i := x_14) (vin (by omega) (by omega)) dX4_target_114 ?_
                      refine lv_topi (fun x_17 ex_17 => ?_)
                      have gx_17 : (g_sortsf x_14.toInt.toNat).toInt = x_17.toInt := by rw [ex_17]; rfl
                      refine lv_iconst (v := 3) hx hb dX4_target_115 (by decide) ?_
                      refine lv_icmp_ne (tgt := 123) hx hb dX4_target_116 (by decide) (fun h_18 => ?_) (fun h_18 => ?_)
                      · have h_18 : x_17.toInt ≠ 3 := c_ne h_18
                        refine lv_iload_n hx hb dX4_target_123 rfl (lv_at hl 0 rfl) ?_
                        exact eI hQ X hr hlocks hP hD hS () [0, 1] (by decide) rfl rfl (show ((-1) ≤ x_14.toInt ∧ x_14.toInt ≤ 19) ∧ (x_14.toInt = (tgZ g_wide.toInt g_count.toInt g_sortsf p1.toInt p2.toInt)) ∧ (x_14.toInt = -1 ∨ (0 ≤ x_14.toInt ∧ x_14.toInt < g_count.toInt ∧ 0 ≤ p1.toInt ∧ p1.toInt < g_count.toInt)) from ⟨(by omega), (by first | (exfalso; omega) | (unfold tgZ; rw [if_neg (by omega)]; (repeat (first | rw [if_pos (by omega)] | rw [if_neg (by omega)])); rw [← tx_14]; unfold tg2; rw [if_neg (by omega)])), (Or.inr ⟨by omega, by omega, by omega, by omega⟩)⟩) (Nat.le_of_ble_eq_true rfl) (Nat.le_of_ble_eq_true rfl) dX4_target_124
                      · have h_18 : x_17.toInt = 3 := c_eq h_18
                        refine lv_iconst (v := -1) hx hb dX4_target_119 (by decide) ?_
                        refine lv_goto (tgt := 124) hx hb dX4_target_120 (by decide) ?_
                        exact eI hQ X hr hlocks hP hD hS () [0, 1] (by decide) rfl rfl (show ((-1) ≤ (-1 : Int32).toInt ∧ (-1 : Int32).toInt ≤ 19) ∧ ((-1 : Int32).toInt = (tgZ g_wide.toInt g_count.toInt g_sortsf p1.toInt p2.toInt)) ∧ ((-1 : Int32).toInt = -1 ∨ (0 ≤ (-1 : Int32).toInt ∧ (-1 : Int32).toInt < g_count.toInt ∧ 0 ≤ p1.toInt ∧ p1.toInt < g_count.toInt)) from ⟨(by decide), (by first | (exfalso; omega) | (unfold tgZ; rw [if_neg (by omega)]; (repeat (first | rw [if_pos (by omega)] | rw [if_neg (by omega)])); rw [← tx_14]; unfold tg2; rw [if_pos (by omega)]; decide)), (Or.inl (by decide))⟩) (Nat.le_of_ble_eq_true rfl) (Nat.le_of_ble_eq_true rfl) dX4_target_124
            · have h_8 : p2.toInt = 1 := c_eq h_8
              refine lv_iload_n hx hb dX4_target_57 rfl (lv_at hl 2 rfl) ?_
              refine lv_aload_n hx hb dX4_target_58 rfl (lv_at hl 1 rfl) ?_
              refine r_get X kcX4 (ci := 4) rfl hP 0 rfl 0 (by decide) fX4_15 rfl dX4_target_59 ?_
              refine lv_irem hx hb dX4_target_62 (fun hz => by have hz := c_eq hz; rw [Int32.toInt_zero] at hz; omega) ?_
              refine lv_topi (fun x_19 ex_19 => ?_)
              have tx_19 : 0 ≤ x_19.toInt ∧ x_19.toInt < g_wide.toInt ∧ x_19.toInt ≤ p1.toInt ∧ x_19.toInt = p1.toInt % g_wide.toInt := ti_rem ex_19 (by omega) (by omega)
              refine lv_aload_n hx hb dX4_target_63 rfl (lv_at hl 1 rfl) ?_
              refine r_get X kcX4 (ci := 4) rfl hP 0 rfl 0 (by decide) fX4_15 rfl dX4_target_64 ?_
              refine lv_iconst (v := 1) hx hb dX4_target_67 (by decide) ?_
              refine lv_isub hx hb dX4_target_68 ?_
              refine lv_topi (fun x_20 ex_20 => ?_)
              have tx_20 : x_20.toInt = g_wide.toInt - 1 := ti_sub (A := g_wide.toInt) (B := 1) ex_20 rfl rfl (by omega) (by omega)
              refine lv_icmp_ge (tgt := 79) hx hb dX4_target_69 (by decide) (fun h_21 => ?_) (fun h_21 => ?_)
              · have h_21 : x_20.toInt ≤ x_19.toInt := c_le h_21
                refine lv_iload_n hx hb dX4_target_79 rfl (lv_at hl 3 rfl) ?_
                refine lv_iconst (v := 3) hx hb dX4_target_80 (by decide) ?_
                refine lv_icmp_ne (tgt := 97) hx hb dX4_target_81 (by decide) (fun h_22 => ?_) (fun h_22 => ?_)
                · have h_22 : p2.toInt ≠ 3 := c_ne h_22
                  refine lv_iload_n hx hb dX4_target_97 rfl (lv_at hl 0 rfl) ?_
                  refine lv_if_lt (tgt := 119) hx hb dX4_target_98 (by decide) (fun _ => ?_) (fun h_23 => absurd (by decide) h_23)
                  refine lv_iconst (v := -1) hx hb dX4_target_119 (by decide) ?_
                  refine lv_goto (tgt := 124) hx hb dX4_target_120 (by decide) ?_
                  exact eI hQ X hr hlocks hP hD hS () [0, 1] (by decide) rfl rfl (show ((-1) ≤ (-1 : Int32).toInt ∧ (-1 : Int32).toInt ≤ 19) ∧ ((-1 : Int32).toInt = (tgZ g_wide.toInt g_count.toInt g_sortsf p1.toInt p2.toInt)) ∧ ((-1 : Int32).toInt = -1 ∨ (0 ≤ (-1 : Int32).toInt ∧ (-1 : Int32).toInt < g_count.toInt ∧ 0 ≤ p1.toInt ∧ p1.toInt < g_count.toInt)) from ⟨(by decide), (by unfold tgZ; rw [if_neg (by omega)]; (repeat (first | rw [if_pos (by omega)] | rw [if_neg (by omega)])); unfold tg2; rw [if_pos (by omega)]; decide), (Or.inl (by decide))⟩) (Nat.le_of_ble_eq_true rfl) (Nat.le_of_ble_eq_true rfl) dX4_target_124
                · have h_22 : p2.toInt = 3 := c_eq h_22
                  exfalso
                  omega
              · have h_21 : x_19.toInt < x_20.toInt := c_nle h_21
                refine lv_iload_n hx hb dX4_target_72 rfl (lv_at hl 2 rfl) ?_
                refine lv_iconst (v := 1) hx hb dX4_target_73 (by decide) ?_
                refine lv_iadd hx hb dX4_target_74 ?_
                refine lv_topi (fun x_24 ex_24 => ?_)
                have tx_24 : x_24.toInt = p1.toInt + 1 := ti_add (A := p1.toInt) (B := 1) ex_24 rfl rfl (by omega) (by omega)
                refine lv_istore_n (lv' := [(3, .int x_24), (0, .ref h0), (1, .int p1), (2, .int p2)]) hx hb dX4_target_75 rfl hl (by decide) rfl (fun ls hl => ?_)
                refine lv_goto (tgt := 97) hx hb dX4_target_76 (by decide) ?_
                refine lv_iload_n hx hb dX4_target_97 rfl (lv_at hl 0 rfl) ?_
                refine lv_if_lt (tgt := 119) hx hb dX4_target_98 (by decide) (fun h_25 => ?_) (fun h_25 => ?_)
                · have h_25 : x_24.toInt < 0 := c_lt h_25
                  exfalso
                  omega
                · have h_25 : 0 ≤ x_24.toInt := c_nlt h_25
                  refine lv_iload_n hx hb dX4_target_101 rfl (lv_at hl 0 rfl) ?_
                  refine lv_aload_n hx hb dX4_target_102 rfl (lv_at hl 1 rfl) ?_
                  refine r_get X kcX4 (ci := 4) rfl hP 0 rfl 2 (by decide) fX4_22 rfl dX4_target_103 ?_
                  refine lv_icmp_ge (tgt := 119) hx hb dX4_target_106 (by decide) (fun h_26 => ?_) (fun h_26 => ?_)
                  · have h_26 : g_count.toInt ≤ x_24.toInt := c_le h_26
                    refine lv_iconst (v := -1) hx hb dX4_target_119 (by decide) ?_
                    refine lv_goto (tgt := 124) hx hb dX4_target_120 (by decide) ?_
                    exact eI hQ X hr hlocks hP hD hS () [0, 1] (by decide) rfl rfl (show ((-1) ≤ (-1 : Int32).toInt ∧ (-1 : Int32).toInt ≤ 19) ∧ ((-1 : Int32).toInt = (tgZ g_wide.toInt g_count.toInt g_sortsf p1.toInt p2.toInt)) ∧ ((-1 : Int32).toInt = -1 ∨ (0 ≤ (-1 : Int32).toInt ∧ (-1 : Int32).toInt < g_count.toInt ∧ 0 ≤ p1.toInt ∧ p1.toInt < g_count.toInt)) from ⟨(by decide), (by first | (exfalso; omega) | (unfold tgZ; rw [if_neg (by omega)]; (repeat (first | rw [if_pos (by omega)] | rw [if_neg (by omega)])); rw [← tx_24]; unfold tg2; rw [if_pos (by omega)]; decide)), (Or.inl (by decide))⟩) (Nat.le_of_ble_eq_true rfl) (Nat.le_of_ble_eq_true rfl) dX4_target_124
                  · have h_26 : x_24.toInt < g_count.toInt := c_nle h_26
                    refine lv_aload_n hx hb dX4_target_109 rfl (lv_at hl 1 rfl) ?_
                    refine r_get X kcX4 (ci := 4) rfl hP 0 rfl 3 (by decide) fX4_9 rfl dX4_target_110 ?_
                    refine lv_iload_n hx hb dX4_target_113 rfl (lv_at hl 0 rfl) ?_
                    refine va_iald (D := (dC, dI)) (cl := vwCl) hx hb hK hP 1 1 rfl rfl (i := x_24) (vin (by omega) (by omega)) dX4_target_114 ?_
                    refine lv_topi (fun x_27 ex_27 => ?_)
                    have gx_27 : (g_sortsf x_24.toInt.toNat).toInt = x_27.toInt := by rw [ex_27]; rfl
                    refine lv_iconst (v := 3) hx hb dX4_target_115 (by decide) ?_
                    refine lv_icmp_ne (tgt := 123) hx hb dX4_target_116 (by decide) (fun h_28 => ?_) (fun h_28 => ?_)
                    · have h_28 : x_27.toInt ≠ 3 := c_ne h_28
                      refine lv_iload_n hx hb dX4_target_123 rfl (lv_at hl 0 rfl) ?_
                      exact eI hQ X hr hlocks hP hD hS () [0, 1] (by decide) rfl rfl (show ((-1) ≤ x_24.toInt ∧ x_24.toInt ≤ 19) ∧ (x_24.toInt = (tgZ g_wide.toInt g_count.toInt g_sortsf p1.toInt p2.toInt)) ∧ (x_24.toInt = -1 ∨ (0 ≤ x_24.toInt ∧ x_24.toInt < g_count.toInt ∧ 0 ≤ p1.toInt ∧ p1.toInt < g_count.toInt)) from ⟨(by omega), (by first | (exfalso; omega) | (unfold tgZ; rw [if_neg (by omega)]; (repeat (first | rw [if_pos (by omega)] | rw [if_neg (by omega)])); rw [← tx_24]; unfold tg2; rw [if_neg (by omega)])), (Or.inr ⟨by omega, by omega, by omega, by omega⟩)⟩) (Nat.le_of_ble_eq_true rfl) (Nat.le_of_ble_eq_true rfl) dX4_target_124
                    · have h_28 : x_27.toInt = 3 := c_eq h_28
                      refine lv_iconst (v := -1) hx hb dX4_target_119 (by decide) ?_
                      refine lv_goto (tgt := 124) hx hb dX4_target_120 (by decide) ?_
                      exact eI hQ X hr hlocks hP hD hS () [0, 1] (by decide) rfl rfl (show ((-1) ≤ (-1 : Int32).toInt ∧ (-1 : Int32).toInt ≤ 19) ∧ ((-1 : Int32).toInt = (tgZ g_wide.toInt g_count.toInt g_sortsf p1.toInt p2.toInt)) ∧ ((-1 : Int32).toInt = -1 ∨ (0 ≤ (-1 : Int32).toInt ∧ (-1 : Int32).toInt < g_count.toInt ∧ 0 ≤ p1.toInt ∧ p1.toInt < g_count.toInt)) from ⟨(by decide), (by first | (exfalso; omega) | (unfold tgZ; rw [if_neg (by omega)]; (repeat (first | rw [if_pos (by omega)] | rw [if_neg (by omega)])); rw [← tx_24]; unfold tg2; rw [if_pos (by omega)]; decide)), (Or.inl (by decide))⟩) (Nat.le_of_ble_eq_true rfl) (Nat.le_of_ble_eq_true rfl) dX4_target_124
          · have h_7 : p2.toInt = 2 := c_eq h_7
            refine lv_iload_n hx hb dX4_target_42 rfl (lv_at hl 2 rfl) ?_
            refine lv_aload_n hx hb dX4_target_43 rfl (lv_at hl 1 rfl) ?_
            refine r_get X kcX4 (ci := 4) rfl hP 0 rfl 0 (by decide) fX4_15 rfl dX4_target_44 ?_
            refine lv_iadd hx hb dX4_target_47 ?_
            refine lv_topi (fun x_29 ex_29 => ?_)
            have tx_29 : x_29.toInt = p1.toInt + g_wide.toInt := ti_add (A := p1.toInt) (B := g_wide.toInt) ex_29 rfl rfl (by omega) (by omega)
            refine lv_istore_n (lv' := [(3, .int x_29), (0, .ref h0), (1, .int p1), (2, .int p2)]) hx hb dX4_target_48 rfl hl (by decide) rfl (fun ls hl => ?_)
            refine lv_goto (tgt := 97) hx hb dX4_target_49 (by decide) ?_
            refine lv_iload_n hx hb dX4_target_97 rfl (lv_at hl 0 rfl) ?_
            refine lv_if_lt (tgt := 119) hx hb dX4_target_98 (by decide) (fun h_30 => ?_) (fun h_30 => ?_)
            · have h_30 : x_29.toInt < 0 := c_lt h_30
              exfalso
              omega
            · have h_30 : 0 ≤ x_29.toInt := c_nlt h_30
              refine lv_iload_n hx hb dX4_target_101 rfl (lv_at hl 0 rfl) ?_
              refine lv_aload_n hx hb dX4_target_102 rfl (lv_at hl 1 rfl) ?_
              refine r_get X kcX4 (ci := 4) rfl hP 0 rfl 2 (by decide) fX4_22 rfl dX4_target_103 ?_
              refine lv_icmp_ge (tgt := 119) hx hb dX4_target_106 (by decide) (fun h_31 => ?_) (fun h_31 => ?_)
              · have h_31 : g_count.toInt ≤ x_29.toInt := c_le h_31
                refine lv_iconst (v := -1) hx hb dX4_target_119 (by decide) ?_
                refine lv_goto (tgt := 124) hx hb dX4_target_120 (by decide) ?_
                exact eI hQ X hr hlocks hP hD hS () [0, 1] (by decide) rfl rfl (show ((-1) ≤ (-1 : Int32).toInt ∧ (-1 : Int32).toInt ≤ 19) ∧ ((-1 : Int32).toInt = (tgZ g_wide.toInt g_count.toInt g_sortsf p1.toInt p2.toInt)) ∧ ((-1 : Int32).toInt = -1 ∨ (0 ≤ (-1 : Int32).toInt ∧ (-1 : Int32).toInt < g_count.toInt ∧ 0 ≤ p1.toInt ∧ p1.toInt < g_count.toInt)) from ⟨(by decide), (by first | (exfalso; omega) | (unfold tgZ; rw [if_neg (by omega)]; (repeat (first | rw [if_pos (by omega)] | rw [if_neg (by omega)])); rw [← tx_29]; unfold tg2; rw [if_pos (by omega)]; decide)), (Or.inl (by decide))⟩) (Nat.le_of_ble_eq_true rfl) (Nat.le_of_ble_eq_true rfl) dX4_target_124
              · have h_31 : x_29.toInt < g_count.toInt := c_nle h_31
                refine lv_aload_n hx hb dX4_target_109 rfl (lv_at hl 1 rfl) ?_
                refine r_get X kcX4 (ci := 4) rfl hP 0 rfl 3 (by decide) fX4_9 rfl dX4_target_110 ?_
                refine lv_iload_n hx hb dX4_target_113 rfl (lv_at hl 0 rfl) ?_
                refine va_iald (D := (dC, dI)) (cl := vwCl) hx hb hK hP 1 1 rfl rfl (i := x_29) (vin (by omega) (by omega)) dX4_target_114 ?_
                refine lv_topi (fun x_32 ex_32 => ?_)
                have gx_32 : (g_sortsf x_29.toInt.toNat).toInt = x_32.toInt := by rw [ex_32]; rfl
                refine lv_iconst (v := 3) hx hb dX4_target_115 (by decide) ?_
                refine lv_icmp_ne (tgt := 123) hx hb dX4_target_116 (by decide) (fun h_33 => ?_) (fun h_33 => ?_)
                · have h_33 : x_32.toInt ≠ 3 := c_ne h_33
                  refine lv_iload_n hx hb dX4_target_123 rfl (lv_at hl 0 rfl) ?_
                  exact eI hQ X hr hlocks hP hD hS () [0, 1] (by decide) rfl rfl (show ((-1) ≤ x_29.toInt ∧ x_29.toInt ≤ 19) ∧ (x_29.toInt = (tgZ g_wide.toInt g_count.toInt g_sortsf p1.toInt p2.toInt)) ∧ (x_29.toInt = -1 ∨ (0 ≤ x_29.toInt ∧ x_29.toInt < g_count.toInt ∧ 0 ≤ p1.toInt ∧ p1.toInt < g_count.toInt)) from ⟨(by omega), (by first | (exfalso; omega) | (unfold tgZ; rw [if_neg (by omega)]; (repeat (first | rw [if_pos (by omega)] | rw [if_neg (by omega)])); rw [← tx_29]; unfold tg2; rw [if_neg (by omega)])), (Or.inr ⟨by omega, by omega, by omega, by omega⟩)⟩) (Nat.le_of_ble_eq_true rfl) (Nat.le_of_ble_eq_true rfl) dX4_target_124
                · have h_33 : x_32.toInt = 3 := c_eq h_33
                  refine lv_iconst (v := -1) hx hb dX4_target_119 (by decide) ?_
                  refine lv_goto (tgt := 124) hx hb dX4_target_120 (by decide) ?_
                  exact eI hQ X hr hlocks hP hD hS () [0, 1] (by decide) rfl rfl (show ((-1) ≤ (-1 : Int32).toInt ∧ (-1 : Int32).toInt ≤ 19) ∧ ((-1 : Int32).toInt = (tgZ g_wide.toInt g_count.toInt g_sortsf p1.toInt p2.toInt)) ∧ ((-1 : Int32).toInt = -1 ∨ (0 ≤ (-1 : Int32).toInt ∧ (-1 : Int32).toInt < g_count.toInt ∧ 0 ≤ p1.toInt ∧ p1.toInt < g_count.toInt)) from ⟨(by decide), (by first | (exfalso; omega) | (unfold tgZ; rw [if_neg (by omega)]; (repeat (first | rw [if_pos (by omega)] | rw [if_neg (by omega)])); rw [← tx_29]; unfold tg2; rw [if_pos (by omega)]; decide)), (Or.inl (by decide))⟩) (Nat.le_of_ble_eq_true rfl) (Nat.le_of_ble_eq_true rfl) dX4_target_124
        · have h_6 : p2.toInt = 0 := c_eq h_6
          refine lv_iload_n hx hb dX4_target_27 rfl (lv_at hl 2 rfl) ?_
          refine lv_aload_n hx hb dX4_target_28 rfl (lv_at hl 1 rfl) ?_
          refine r_get X kcX4 (ci := 4) rfl hP 0 rfl 0 (by decide) fX4_15 rfl dX4_target_29 ?_
          refine lv_isub hx hb dX4_target_32 ?_
          refine lv_topi (fun x_34 ex_34 => ?_)
          have tx_34 : x_34.toInt = p1.toInt - g_wide.toInt := ti_sub (A := p1.toInt) (B := g_wide.toInt) ex_34 rfl rfl (by omega) (by omega)
          refine lv_istore_n (lv' := [(3, .int x_34), (0, .ref h0), (1, .int p1), (2, .int p2)]) hx hb dX4_target_33 rfl hl (by decide) rfl (fun ls hl => ?_)
          refine lv_goto (tgt := 97) hx hb dX4_target_34 (by decide) ?_
          refine lv_iload_n hx hb dX4_target_97 rfl (lv_at hl 0 rfl) ?_
          refine lv_if_lt (tgt := 119) hx hb dX4_target_98 (by decide) (fun h_35 => ?_) (fun h_35 => ?_)
          · have h_35 : x_34.toInt < 0 := c_lt h_35
            refine lv_iconst (v := -1) hx hb dX4_target_119 (by decide) ?_
            refine lv_goto (tgt := 124) hx hb dX4_target_120 (by decide) ?_
            exact eI hQ X hr hlocks hP hD hS () [0, 1] (by decide) rfl rfl (show ((-1) ≤ (-1 : Int32).toInt ∧ (-1 : Int32).toInt ≤ 19) ∧ ((-1 : Int32).toInt = (tgZ g_wide.toInt g_count.toInt g_sortsf p1.toInt p2.toInt)) ∧ ((-1 : Int32).toInt = -1 ∨ (0 ≤ (-1 : Int32).toInt ∧ (-1 : Int32).toInt < g_count.toInt ∧ 0 ≤ p1.toInt ∧ p1.toInt < g_count.toInt)) from ⟨(by decide), (by first | (exfalso; omega) | (unfold tgZ; rw [if_neg (by omega)]; (repeat (first | rw [if_pos (by omega)] | rw [if_neg (by omega)])); rw [← tx_34]; unfold tg2; rw [if_pos (by omega)]; decide)), (Or.inl (by decide))⟩) (Nat.le_of_ble_eq_true rfl) (Nat.le_of_ble_eq_true rfl) dX4_target_124
          · have h_35 : 0 ≤ x_34.toInt := c_nlt h_35
            refine lv_iload_n hx hb dX4_target_101 rfl (lv_at hl 0 rfl) ?_
            refine lv_aload_n hx hb dX4_target_102 rfl (lv_at hl 1 rfl) ?_
            refine r_get X kcX4 (ci := 4) rfl hP 0 rfl 2 (by decide) fX4_22 rfl dX4_target_103 ?_
            refine lv_icmp_ge (tgt := 119) hx hb dX4_target_106 (by decide) (fun h_36 => ?_) (fun h_36 => ?_)
            · have h_36 : g_count.toInt ≤ x_34.toInt := c_le h_36
              refine lv_iconst (v := -1) hx hb dX4_target_119 (by decide) ?_
              refine lv_goto (tgt := 124) hx hb dX4_target_120 (by decide) ?_
              exact eI hQ X hr hlocks hP hD hS () [0, 1] (by decide) rfl rfl (show ((-1) ≤ (-1 : Int32).toInt ∧ (-1 : Int32).toInt ≤ 19) ∧ ((-1 : Int32).toInt = (tgZ g_wide.toInt g_count.toInt g_sortsf p1.toInt p2.toInt)) ∧ ((-1 : Int32).toInt = -1 ∨ (0 ≤ (-1 : Int32).toInt ∧ (-1 : Int32).toInt < g_count.toInt ∧ 0 ≤ p1.toInt ∧ p1.toInt < g_count.toInt)) from ⟨(by decide), (by first | (exfalso; omega) | (unfold tgZ; rw [if_neg (by omega)]; (repeat (first | rw [if_pos (by omega)] | rw [if_neg (by omega)])); rw [← tx_34]; unfold tg2; rw [if_pos (by omega)]; decide)), (Or.inl (by decide))⟩) (Nat.le_of_ble_eq_true rfl) (Nat.le_of_ble_eq_true rfl) dX4_target_124
            · have h_36 : x_34.toInt < g_count.toInt := c_nle h_36
              refine lv_aload_n hx hb dX4_target_109 rfl (lv_at hl 1 rfl) ?_
              refine r_get X kcX4 (ci := 4) rfl hP 0 rfl 3 (by decide) fX4_9 rfl dX4_target_110 ?_
              refine lv_iload_n hx hb dX4_target_113 rfl (lv_at hl 0 rfl) ?_
              refine va_iald (D := (dC, dI)) (cl := vwCl) hx hb hK hP 1 1 rfl rfl (i := x_34) (vin (by omega) (by omega)) dX4_target_114 ?_
              refine lv_topi (fun x_37 ex_37 => ?_)
              have gx_37 : (g_sortsf x_34.toInt.toNat).toInt = x_37.toInt := by rw [ex_37]; rfl
              refine lv_iconst (v := 3) hx hb dX4_target_115 (by decide) ?_
              refine lv_icmp_ne (tgt := 123) hx hb dX4_target_116 (by decide) (fun h_38 => ?_) (fun h_38 => ?_)
              · have h_38 : x_37.toInt ≠ 3 := c_ne h_38
                refine lv_iload_n hx hb dX4_target_123 rfl (lv_at hl 0 rfl) ?_
                exact eI hQ X hr hlocks hP hD hS () [0, 1] (by decide) rfl rfl (show ((-1) ≤ x_34.toInt ∧ x_34.toInt ≤ 19) ∧ (x_34.toInt = (tgZ g_wide.toInt g_count.toInt g_sortsf p1.toInt p2.toInt)) ∧ (x_34.toInt = -1 ∨ (0 ≤ x_34.toInt ∧ x_34.toInt < g_count.toInt ∧ 0 ≤ p1.toInt ∧ p1.toInt < g_count.toInt)) from ⟨(by omega), (by first | (exfalso; omega) | (unfold tgZ; rw [if_neg (by omega)]; (repeat (first | rw [if_pos (by omega)] | rw [if_neg (by omega)])); rw [← tx_34]; unfold tg2; rw [if_neg (by omega)])), (Or.inr ⟨by omega, by omega, by omega, by omega⟩)⟩) (Nat.le_of_ble_eq_true rfl) (Nat.le_of_ble_eq_true rfl) dX4_target_124
              · have h_38 : x_37.toInt = 3 := c_eq h_38
                refine lv_iconst (v := -1) hx hb dX4_target_119 (by decide) ?_
                refine lv_goto (tgt := 124) hx hb dX4_target_120 (by decide) ?_
                exact eI hQ X hr hlocks hP hD hS () [0, 1] (by decide) rfl rfl (show ((-1) ≤ (-1 : Int32).toInt ∧ (-1 : Int32).toInt ≤ 19) ∧ ((-1 : Int32).toInt = (tgZ g_wide.toInt g_count.toInt g_sortsf p1.toInt p2.toInt)) ∧ ((-1 : Int32).toInt = -1 ∨ (0 ≤ (-1 : Int32).toInt ∧ (-1 : Int32).toInt < g_count.toInt ∧ 0 ≤ p1.toInt ∧ p1.toInt < g_count.toInt)) from ⟨(by decide), (by first | (exfalso; omega) | (unfold tgZ; rw [if_neg (by omega)]; (repeat (first | rw [if_pos (by omega)] | rw [if_neg (by omega)])); rw [← tx_34]; unfold tg2; rw [if_pos (by omega)]; decide)), (Or.inl (by decide))⟩) (Nat.le_of_ble_eq_true rfl) (Nat.le_of_ble_eq_true rfl) dX4_target_124
      · have h_5 : g_wide.toInt ≤ 0 := c_nlt h_5
        refine lv_iconst (v := -1) hx hb dX4_target_19 (by decide) ?_
        exact eI hQ X hr hlocks hP hD hS () [0, 1] (by decide) rfl rfl (show ((-1) ≤ (-1 : Int32).toInt ∧ (-1 : Int32).toInt ≤ 19) ∧ ((-1 : Int32).toInt = (tgZ g_wide.toInt g_count.toInt g_sortsf p1.toInt p2.toInt)) ∧ ((-1 : Int32).toInt = -1 ∨ (0 ≤ (-1 : Int32).toInt ∧ (-1 : Int32).toInt < g_count.toInt ∧ 0 ≤ p1.toInt ∧ p1.toInt < g_count.toInt)) from ⟨(by decide), (by unfold tgZ; rw [if_pos (by omega)]; decide), (Or.inl (by decide))⟩) (Nat.le_of_ble_eq_true rfl) (Nat.le_of_ble_eq_true rfl) dX4_target_20
set_option maxHeartbeats 4000000 in
set_option maxRecDepth 100000 in
theorem sX4_timeOntoDitch (l : Launch) (dC : Nat → ClassId) (dI : Nat → Nat → Nat) (cy : Nat → ClassId) (p1 : Int32) (p2 : Int32) : ctI l dC dI cy hp yX4_timeOntoDitch cX4_timeOntoDitch 2 .int ({ frames := 0, cells := 0, slots := 0, locals := 0 } : Room) [.int p1, .int p2] [] (S := Unit) (fun r _ => ((-2) ≤ r.toInt ∧ r.toInt ≤ 4) ∧ (r.toInt = oD p1.toInt p2.toInt)) (fun _ => []) := by
  refine ctI.of (by decide +kernel) (Nat.le_of_ble_eq_true rfl) ?_
  intro p e s m args below meth c A ls Q hQ X hr hlocks hin hA hP hD hS hl
  have hx := X.1
  have hb := X.2.1
  have hK := X.2.2.2.2.2.1
  have hl : lv_has ls 2 [(0, .int p1), (1, .int p2)] := hl
  have dy_1 := ti_bd p1
  have dy_2 := ti_bd p2
  refine lv_iload_n hx hb dX4_timeOntoDitch_0 rfl (lv_at hl 0 rfl) ?_
  refine lv_iconst (v := 1) hx hb dX4_timeOntoDitch_1 (by decide) ?_
  refine lv_icmp_ne (tgt := 8) hx hb dX4_timeOntoDitch_2 (by decide) (fun h_3 => ?_) (fun h_3 => ?_)
  · have h_3 : p1.toInt ≠ 1 := c_ne h_3
    refine lv_iload_n hx hb dX4_timeOntoDitch_8 rfl (lv_at hl 0 rfl) ?_
    refine lv_iconst (v := 2) hx hb dX4_timeOntoDitch_9 (by decide) ?_
    refine lv_icmp_eq (tgt := 23) hx hb dX4_timeOntoDitch_10 (by decide) (fun h_4 => ?_) (fun h_4 => ?_)
    · have h_4 : p1.toInt = 2 := c_eq h_4
      refine lv_iconst (v := 1) hx hb dX4_timeOntoDitch_23 (by decide) ?_
      exact eI hQ X hr hlocks hP hD hS () [] (by decide) rfl rfl (show ((-2) ≤ (1 : Int32).toInt ∧ (1 : Int32).toInt ≤ 4) ∧ ((1 : Int32).toInt = oD p1.toInt p2.toInt) from ⟨(by first | decide | (have h9_0 : (1 : Int32).toInt = 1 := (by decide); omega) | (refine ⟨by decide, ?_⟩; omega) | omega), (by have h9_0 : (1 : Int32).toInt = 1 := (by decide); unfold oD; (repeat' split) <;> omega)⟩) (Nat.le_of_ble_eq_true rfl) (Nat.le_of_ble_eq_true rfl) dX4_timeOntoDitch_24
    · have h_4 : p1.toInt ≠ 2 := c_ne h_4
      refine lv_iload_n hx hb dX4_timeOntoDitch_13 rfl (lv_at hl 1 rfl) ?_
      refine lv_iconst (v := 1) hx hb dX4_timeOntoDitch_14 (by decide) ?_
      refine lv_icmp_eq (tgt := 23) hx hb dX4_timeOntoDitch_15 (by decide) (fun h_5 => ?_) (fun h_5 => ?_)
      · have h_5 : p2.toInt = 1 := c_eq h_5
        refine lv_iconst (v := 1) hx hb dX4_timeOntoDitch_23 (by decide) ?_
        exact eI hQ X hr hlocks hP hD hS () [] (by decide) rfl rfl (show ((-2) ≤ (1 : Int32).toInt ∧ (1 : Int32).toInt ≤ 4) ∧ ((1 : Int32).toInt = oD p1.toInt p2.toInt) from ⟨(by first | decide | (have h9_0 : (1 : Int32).toInt = 1 := (by decide); omega) | (refine ⟨by decide, ?_⟩; omega) | omega), (by have h9_0 : (1 : Int32).toInt = 1 := (by decide); unfold oD; (repeat' split) <;> omega)⟩) (Nat.le_of_ble_eq_true rfl) (Nat.le_of_ble_eq_true rfl) dX4_timeOntoDitch_24
      · have h_5 : p2.toInt ≠ 1 := c_ne h_5
        refine lv_iload_n hx hb dX4_timeOntoDitch_18 rfl (lv_at hl 1 rfl) ?_
        refine lv_iconst (v := 3) hx hb dX4_timeOntoDitch_19 (by decide) ?_
        refine lv_icmp_ne (tgt := 25) hx hb dX4_timeOntoDitch_20 (by decide) (fun h_6 => ?_) (fun h_6 => ?_)
        · have h_6 : p2.toInt ≠ 3 := c_ne h_6
          refine lv_iload_n hx hb dX4_timeOntoDitch_25 rfl (lv_at hl 0 rfl) ?_
          refine lv_iconst (v := 3) hx hb dX4_timeOntoDitch_26 (by decide) ?_
          refine lv_icmp_ne (tgt := 41) hx hb dX4_timeOntoDitch_27 (by decide) (fun h_7 => ?_) (fun h_7 => ?_)
          · have h_7 : p1.toInt ≠ 3 := c_ne h_7
            refine lv_iload_n hx hb dX4_timeOntoDitch_41 rfl (lv_at hl 1 rfl) ?_
            refine lv_iconst (v := 2) hx hb dX4_timeOntoDitch_42 (by decide) ?_
            refine lv_icmp_ne (tgt := 50) hx hb dX4_timeOntoDitch_43 (by decide) (fun h_8 => ?_) (fun h_8 => ?_)
            · have h_8 : p2.toInt ≠ 2 := c_ne h_8
              refine lv_bipush (v := -2) hx hb dX4_timeOntoDitch_50 (by decide) ?_
              exact eI hQ X hr hlocks hP hD hS () [] (by decide) rfl rfl (show ((-2) ≤ (-2 : Int32).toInt ∧ (-2 : Int32).toInt ≤ 4) ∧ ((-2 : Int32).toInt = oD p1.toInt p2.toInt) from ⟨(by first | decide | omega | (refine ⟨by decide, ?_⟩; omega) | (have h9_0 : (-2 : Int32).toInt = (-2) := (by decide); omega)), (by have h9_0 : (-2 : Int32).toInt = (-2) := (by decide); unfold oD; (repeat' split) <;> omega)⟩) (Nat.le_of_ble_eq_true rfl) (Nat.le_of_ble_eq_true rfl) dX4_timeOntoDitch_52
            · have h_8 : p2.toInt = 2 := c_eq h_8
              refine lv_iconst (v := 3) hx hb dX4_timeOntoDitch_46 (by decide) ?_
              refine lv_goto (tgt := 52) hx hb dX4_timeOntoDitch_47 (by decide) ?_
              exact eI hQ X hr hlocks hP hD hS () [] (by decide) rfl rfl (show ((-2) ≤ (3 : Int32).toInt ∧ (3 : Int32).toInt ≤ 4) ∧ ((3 : Int32).toInt = oD p1.toInt p2.toInt) from ⟨(by first | decide | (have h9_0 : (3 : Int32).toInt = 3 := (by decide); omega) | (refine ⟨by decide, ?_⟩; omega) | omega), (by have h9_0 : (3 : Int32).toInt = 3 := (by decide); unfold oD; (repeat' split) <;> omega)⟩) (Nat.le_of_ble_eq_true rfl) (Nat.le_of_ble_eq_true rfl) dX4_timeOntoDitch_52
          · have h_7 : p1.toInt = 3 := c_eq h_7
            refine lv_iload_n hx hb dX4_timeOntoDitch_30 rfl (lv_at hl 1 rfl) ?_
            refine lv_iconst (v := 2) hx hb dX4_timeOntoDitch_31 (by decide) ?_
            refine lv_icmp_ne (tgt := 39) hx hb dX4_timeOntoDitch_32 (by decide) (fun h_9 => ?_) (fun h_9 => ?_)
            · have h_9 : p2.toInt ≠ 2 := c_ne h_9
              refine lv_iconst (v := 4) hx hb dX4_timeOntoDitch_39 (by decide) ?_
              exact eI hQ X hr hlocks hP hD hS () [] (by decide) rfl rfl (show ((-2) ≤ (4 : Int32).toInt ∧ (4 : Int32).toInt ≤ 4) ∧ ((4 : Int32).toInt = oD p1.toInt p2.toInt) from ⟨(by first | decide | (have h9_0 : (4 : Int32).toInt = 4 := (by decide); omega) | (refine ⟨by decide, ?_⟩; omega) | omega), (by have h9_0 : (4 : Int32).toInt = 4 := (by decide); unfold oD; (repeat' split) <;> omega)⟩) (Nat.le_of_ble_eq_true rfl) (Nat.le_of_ble_eq_true rfl) dX4_timeOntoDitch_40
            · have h_9 : p2.toInt = 2 := c_eq h_9
              refine lv_iconst (v := 2) hx hb dX4_timeOntoDitch_35 (by decide) ?_
              refine lv_goto (tgt := 40) hx hb dX4_timeOntoDitch_36 (by decide) ?_
              exact eI hQ X hr hlocks hP hD hS () [] (by decide) rfl rfl (show ((-2) ≤ (2 : Int32).toInt ∧ (2 : Int32).toInt ≤ 4) ∧ ((2 : Int32).toInt = oD p1.toInt p2.toInt) from ⟨(by first | decide | (have h9_0 : (2 : Int32).toInt = 2 := (by decide); omega) | (refine ⟨by decide, ?_⟩; omega) | omega), (by have h9_0 : (2 : Int32).toInt = 2 := (by decide); unfold oD; (repeat' split) <;> omega)⟩) (Nat.le_of_ble_eq_true rfl) (Nat.le_of_ble_eq_true rfl) dX4_timeOntoDitch_40
        · have h_6 : p2.toInt = 3 := c_eq h_6
          refine lv_iconst (v := 1) hx hb dX4_timeOntoDitch_23 (by decide) ?_
          exact eI hQ X hr hlocks hP hD hS () [] (by decide) rfl rfl (show ((-2) ≤ (1 : Int32).toInt ∧ (1 : Int32).toInt ≤ 4) ∧ ((1 : Int32).toInt = oD p1.toInt p2.toInt) from ⟨(by first | decide | (have h9_0 : (1 : Int32).toInt = 1 := (by decide); omega) | (refine ⟨by decide, ?_⟩; omega) | omega), (by have h9_0 : (1 : Int32).toInt = 1 := (by decide); unfold oD; (repeat' split) <;> omega)⟩) (Nat.le_of_ble_eq_true rfl) (Nat.le_of_ble_eq_true rfl) dX4_timeOntoDitch_24
  · have h_3 : p1.toInt = 1 := c_eq h_3
    refine lv_bipush (v := -2) hx hb dX4_timeOntoDitch_5 (by decide) ?_
    exact eI hQ X hr hlocks hP hD hS () [] (by decide) rfl rfl (show ((-2) ≤ (-2 : Int32).toInt ∧ (-2 : Int32).toInt ≤ 4) ∧ ((-2 : Int32).toInt = oD p1.toInt p2.toInt) from ⟨(by first | decide | omega | (refine ⟨by decide, ?_⟩; omega) | (have h9_0 : (-2 : Int32).toInt = (-2) := (by decide); omega)), (by have h9_0 : (-2 : Int32).toInt = (-2) := (by decide); unfold oD; (repeat' split) <;> omega)⟩) (Nat.le_of_ble_eq_true rfl) (Nat.le_of_ble_eq_true rfl) dX4_timeOntoDitch_7
set_option maxHeartbeats 4000000 in
set_option maxRecDepth 100000 in
theorem sX4_timeOutOfDitch (l : Launch) (dC : Nat → ClassId) (dI : Nat → Nat → Nat) (cy : Nat → ClassId) (p1 : Int32) (p2 : Int32) : ctI l dC dI cy hp yX4_timeOutOfDitch cX4_timeOutOfDitch 2 .int ({ frames := 0, cells := 0, slots := 0, locals := 0 } : Room) [.int p1, .int p2] [] (S := Unit) (fun r _ => ((-2) ≤ r.toInt ∧ r.toInt ≤ 4) ∧ (r.toInt = oU p1.toInt p2.toInt)) (fun _ => []) := by
  refine ctI.of (by decide +kernel) (Nat.le_of_ble_eq_true rfl) ?_
  intro p e s m args below meth c A ls Q hQ X hr hlocks hin hA hP hD hS hl
  have hx := X.1
  have hb := X.2.1
  have hK := X.2.2.2.2.2.1
  have hl : lv_has ls 2 [(0, .int p1), (1, .int p2)] := hl
  have dy_1 := ti_bd p1
  have dy_2 := ti_bd p2
  refine lv_iload_n hx hb dX4_timeOutOfDitch_0 rfl (lv_at hl 0 rfl) ?_
  refine lv_iconst (v := 2) hx hb dX4_timeOutOfDitch_1 (by decide) ?_
  refine lv_icmp_eq (tgt := 10) hx hb dX4_timeOutOfDitch_2 (by decide) (fun h_3 => ?_) (fun h_3 => ?_)
  · have h_3 : p1.toInt = 2 := c_eq h_3
    refine lv_iconst (v := 1) hx hb dX4_timeOutOfDitch_10 (by decide) ?_
    exact eI hQ X hr hlocks hP hD hS () [] (by decide) rfl rfl (show ((-2) ≤ (1 : Int32).toInt ∧ (1 : Int32).toInt ≤ 4) ∧ ((1 : Int32).toInt = oU p1.toInt p2.toInt) from ⟨(by first | decide | (have h9_0 : (1 : Int32).toInt = 1 := (by decide); omega) | (refine ⟨by decide, ?_⟩; omega) | omega), (by have h9_0 : (1 : Int32).toInt = 1 := (by decide); unfold oU; (repeat' split) <;> omega)⟩) (Nat.le_of_ble_eq_true rfl) (Nat.le_of_ble_eq_true rfl) dX4_timeOutOfDitch_11
  · have h_3 : p1.toInt ≠ 2 := c_ne h_3
    refine lv_iload_n hx hb dX4_timeOutOfDitch_5 rfl (lv_at hl 1 rfl) ?_
    refine lv_iconst (v := 2) hx hb dX4_timeOutOfDitch_6 (by decide) ?_
    refine lv_icmp_eq (tgt := 12) hx hb dX4_timeOutOfDitch_7 (by decide) (fun h_4 => ?_) (fun h_4 => ?_)
    · have h_4 : p2.toInt = 2 := c_eq h_4
      refine lv_iload_n hx hb dX4_timeOutOfDitch_12 rfl (lv_at hl 0 rfl) ?_
      refine lv_iconst (v := 3) hx hb dX4_timeOutOfDitch_13 (by decide) ?_
      refine lv_icmp_ne (tgt := 21) hx hb dX4_timeOutOfDitch_14 (by decide) (fun h_5 => ?_) (fun h_5 => ?_)
      · have h_5 : p1.toInt ≠ 3 := c_ne h_5
        refine lv_bipush (v := -2) hx hb dX4_timeOutOfDitch_21 (by decide) ?_
        exact eI hQ X hr hlocks hP hD hS () [] (by decide) rfl rfl (show ((-2) ≤ (-2 : Int32).toInt ∧ (-2 : Int32).toInt ≤ 4) ∧ ((-2 : Int32).toInt = oU p1.toInt p2.toInt) from ⟨(by first | decide | omega | (refine ⟨by decide, ?_⟩; omega) | (have h9_0 : (-2 : Int32).toInt = (-2) := (by decide); omega)), (by have h9_0 : (-2 : Int32).toInt = (-2) := (by decide); unfold oU; (repeat' split) <;> omega)⟩) (Nat.le_of_ble_eq_true rfl) (Nat.le_of_ble_eq_true rfl) dX4_timeOutOfDitch_23
      · have h_5 : p1.toInt = 3 := c_eq h_5
        refine lv_iconst (v := 4) hx hb dX4_timeOutOfDitch_17 (by decide) ?_
        refine lv_goto (tgt := 23) hx hb dX4_timeOutOfDitch_18 (by decide) ?_
        exact eI hQ X hr hlocks hP hD hS () [] (by decide) rfl rfl (show ((-2) ≤ (4 : Int32).toInt ∧ (4 : Int32).toInt ≤ 4) ∧ ((4 : Int32).toInt = oU p1.toInt p2.toInt) from ⟨(by first | decide | (have h9_0 : (4 : Int32).toInt = 4 := (by decide); omega) | (refine ⟨by decide, ?_⟩; omega) | omega), (by have h9_0 : (4 : Int32).toInt = 4 := (by decide); unfold oU; (repeat' split) <;> omega)⟩) (Nat.le_of_ble_eq_true rfl) (Nat.le_of_ble_eq_true rfl) dX4_timeOutOfDitch_23
    · have h_4 : p2.toInt ≠ 2 := c_ne h_4
      refine lv_iconst (v := 1) hx hb dX4_timeOutOfDitch_10 (by decide) ?_
      exact eI hQ X hr hlocks hP hD hS () [] (by decide) rfl rfl (show ((-2) ≤ (1 : Int32).toInt ∧ (1 : Int32).toInt ≤ 4) ∧ ((1 : Int32).toInt = oU p1.toInt p2.toInt) from ⟨(by first | decide | (have h9_0 : (1 : Int32).toInt = 1 := (by decide); omega) | (refine ⟨by decide, ?_⟩; omega) | omega), (by have h9_0 : (1 : Int32).toInt = 1 := (by decide); unfold oU; (repeat' split) <;> omega)⟩) (Nat.le_of_ble_eq_true rfl) (Nat.le_of_ble_eq_true rfl) dX4_timeOutOfDitch_11
set_option maxHeartbeats 4000000 in
set_option maxRecDepth 100000 in
theorem sX4_isFallOntoDitch (l : Launch) (dC : Nat → ClassId) (dI : Nat → Nat → Nat) (cy : Nat → ClassId) (p1 : Int32) (p2 : Int32) : ctI l dC dI cy hp yX4_isFallOntoDitch cX4_isFallOntoDitch 2 .boolean ({ frames := 0, cells := 0, slots := 0, locals := 0 } : Room) [.int p1, .int p2] [] (S := Unit) (fun r _ => (0 ≤ r.toInt ∧ r.toInt ≤ 1) ∧ ((r.toInt = 1 ∧ p1.toInt = 0 ∧ p2.toInt = 2) ∨ (r.toInt = 0 ∧ (p1.toInt ≠ 0 ∨ p2.toInt ≠ 2)))) (fun _ => []) := by
  refine ctI.of (by decide +kernel) (Nat.le_of_ble_eq_true rfl) ?_
  intro p e s m args below meth c A ls Q hQ X hr hlocks hin hA hP hD hS hl
  have hx := X.1
  have hb := X.2.1
  have hK := X.2.2.2.2.2.1
  have hl : lv_has ls 2 [(0, .int p1), (1, .int p2)] := hl
  have dy_1 := ti_bd p1
  have dy_2 := ti_bd p2
  refine lv_iload_n hx hb dX4_isFallOntoDitch_0 rfl (lv_at hl 0 rfl) ?_
  refine lv_if_ne (tgt := 13) hx hb dX4_isFallOntoDitch_1 (by decide) (fun h_3 => ?_) (fun h_3 => ?_)
  · have h_3 : p1.toInt ≠ 0 := c_ne h_3
    refine lv_iconst (v := 0) hx hb dX4_isFallOntoDitch_13 (by decide) ?_
    exact eI hQ X hr hlocks hP hD hS () [] (by decide) rfl rfl (show (0 ≤ (0 : Int32).toInt ∧ (0 : Int32).toInt ≤ 1) ∧ (((0 : Int32).toInt = 1 ∧ p1.toInt = 0 ∧ p2.toInt = 2) ∨ ((0 : Int32).toInt = 0 ∧ (p1.toInt ≠ 0 ∨ p2.toInt ≠ 2))) from ⟨(by first | decide | (have h9_0 : (0 : Int32).toInt = 0 := (by decide); omega) | (refine ⟨by decide, ?_⟩; omega) | omega), (Or.inr ⟨by decide, by omega⟩)⟩) (Nat.le_of_ble_eq_true rfl) (Nat.le_of_ble_eq_true rfl) dX4_isFallOntoDitch_14
  · have h_3 : p1.toInt = 0 := c_eq h_3
    refine lv_iload_n hx hb dX4_isFallOntoDitch_4 rfl (lv_at hl 1 rfl) ?_
    refine lv_iconst (v := 2) hx hb dX4_isFallOntoDitch_5 (by decide) ?_
    refine lv_icmp_ne (tgt := 13) hx hb dX4_isFallOntoDitch_6 (by decide) (fun h_4 => ?_) (fun h_4 => ?_)
    · have h_4 : p2.toInt ≠ 2 := c_ne h_4
      refine lv_iconst (v := 0) hx hb dX4_isFallOntoDitch_13 (by decide) ?_
      exact eI hQ X hr hlocks hP hD hS () [] (by decide) rfl rfl (show (0 ≤ (0 : Int32).toInt ∧ (0 : Int32).toInt ≤ 1) ∧ (((0 : Int32).toInt = 1 ∧ p1.toInt = 0 ∧ p2.toInt = 2) ∨ ((0 : Int32).toInt = 0 ∧ (p1.toInt ≠ 0 ∨ p2.toInt ≠ 2))) from ⟨(by first | decide | (have h9_0 : (0 : Int32).toInt = 0 := (by decide); omega) | (refine ⟨by decide, ?_⟩; omega) | omega), (Or.inr ⟨by decide, by omega⟩)⟩) (Nat.le_of_ble_eq_true rfl) (Nat.le_of_ble_eq_true rfl) dX4_isFallOntoDitch_14
    · have h_4 : p2.toInt = 2 := c_eq h_4
      refine lv_iconst (v := 1) hx hb dX4_isFallOntoDitch_9 (by decide) ?_
      refine lv_goto (tgt := 14) hx hb dX4_isFallOntoDitch_10 (by decide) ?_
      exact eI hQ X hr hlocks hP hD hS () [] (by decide) rfl rfl (show (0 ≤ (1 : Int32).toInt ∧ (1 : Int32).toInt ≤ 1) ∧ (((1 : Int32).toInt = 1 ∧ p1.toInt = 0 ∧ p2.toInt = 2) ∨ ((1 : Int32).toInt = 0 ∧ (p1.toInt ≠ 0 ∨ p2.toInt ≠ 2))) from ⟨(by first | decide | (have h9_0 : (1 : Int32).toInt = 1 := (by decide); omega) | (refine ⟨by decide, ?_⟩; omega) | omega), (Or.inl ⟨by decide, by omega, by omega⟩)⟩) (Nat.le_of_ble_eq_true rfl) (Nat.le_of_ble_eq_true rfl) dX4_isFallOntoDitch_14
set_option maxHeartbeats 4000000 in
set_option maxRecDepth 100000 in
theorem sX4_timeFor (l : Launch) (dC : Nat → ClassId) (dI : Nat → Nat → Nat) (cy : Nat → ClassId) (h0 : Nat) (g_wide : Int32) (g_deep : Int32) (g_count : Int32) (g_sorts : Nat) (g_sortsf : Nat → Int32) (p1 : Int32) (p2 : Int32) (p3 : Int32) (hg_wide : 0 ≤ g_wide.toInt ∧ g_wide.toInt ≤ 5) (hg_deep : 0 ≤ g_deep.toInt ∧ g_deep.toInt ≤ 4) (hg_count : 0 ≤ g_count.toInt ∧ g_count.toInt ≤ 20) : ctI l dC dI cy hp yX4_timeFor cX4_timeFor 5 .int ({ frames := 1, cells := 0, slots := 0, locals := 23 } : Room) [.ref h0, .int p1, .int p2, .int p3] [(h0, .inr (4, [.int g_wide, .int g_deep, .int g_count, .ref g_sorts])), (g_sorts, .inl (cy 1, 20, .inl g_sortsf))] (S := Unit) (fun r _ => ((-2) ≤ r.toInt ∧ r.toInt ≤ 4) ∧ (r.toInt = -2 ∨ (0 ≤ p2.toInt ∧ p2.toInt < g_count.toInt ∧ (tgZ g_wide.toInt g_count.toInt g_sortsf p2.toInt p3.toInt) ≠ -1)) ∧ (r.toInt = tfZ g_wide.toInt g_count.toInt g_sortsf p1.toInt p2.toInt p3.toInt)) (fun _ => [(h0, .inr (4, [.int g_wide, .int g_deep, .int g_count, .ref g_sorts])), (g_sorts, .inl (cy 1, 20, .inl g_sortsf))]) := by
  refine ctI.of (by decide +kernel) (Nat.le_of_ble_eq_true rfl) ?_
  intro p e s m args below meth c A ls Q hQ X hr hlocks hin hA hP hD hS hl
  have hx := X.1
  have hb := X.2.1
  have hK := X.2.2.2.2.2.1
  have hl : lv_has ls 5 [(0, .ref h0), (1, .int p1), (2, .int p2), (3, .int p3)] := hl
  have dy_1 := ti_bd p1
  have dy_2 := ti_bd p2
  have dy_3 := ti_bd p3
  refine lv_aload_n hx hb dX4_timeFor_0 rfl (lv_at hl 0 rfl) ?_
  refine lv_iload_n hx hb dX4_timeFor_1 rfl (lv_at hl 2 rfl) ?_
  refine lv_iload_n hx hb dX4_timeFor_2 rfl (lv_at hl 3 rfl) ?_
  refine sl_Ic (rV_I (As := [.int p2, .int p3]) (rest := []) X hp_st (fun _ _ _ h => h) (sX4_target l dC dI cy h0 g_wide g_deep g_count g_sorts g_sortsf p2 p3 hg_wide hg_deep hg_count) kX4_target vX4_target mX4_29 hP hD hS hA [0, 1] (by decide) rfl 0 (ci := 4) rfl rfl rfl hl rfl rfl (Nat.le_of_ble_eq_true rfl) dX4_timeFor_3 ⟨(Nat.le_of_ble_eq_true rfl), (Nat.le_of_ble_eq_true rfl)⟩ ⟨(Nat.le_of_ble_eq_true rfl), (Nat.le_of_ble_eq_true rfl)⟩) hP hD hS hA [0, 1] [false, false] rfl rfl rfl (fun r_4 u_6 H locs k_5 hP hD hS => ?_)
  have k_5 : ((-1) ≤ r_4.toInt ∧ r_4.toInt ≤ 19) ∧ (r_4.toInt = (tgZ g_wide.toInt g_count.toInt g_sortsf p2.toInt p3.toInt)) ∧ (r_4.toInt = -1 ∨ (0 ≤ r_4.toInt ∧ r_4.toInt < g_count.toInt ∧ 0 ≤ p2.toInt ∧ p2.toInt < g_count.toInt)) := k_5
  obtain ⟨k_5_0, k_5_1, k_5_2⟩ := k_5
  have hPD := vPD (ws' := [(h0, .inr (4, [.int g_wide, .int g_deep, .int g_count, .ref g_sorts])), (g_sorts, .inl (cy 1, 20, .inl g_sortsf))]) hP hD rfl
  have hP := hPD.1
  have hD := hPD.2
  refine lv_istore (lv' := [(4, .int r_4), (0, .ref h0), (1, .int p1), (2, .int p2), (3, .int p3)]) hx hb dX4_timeFor_6 hl (by decide) rfl (fun ls hl => ?_)
  refine lv_iload hx hb dX4_timeFor_8 (lv_at hl 0 rfl) ?_
  refine lv_iconst (v := -1) hx hb dX4_timeFor_10 (by decide) ?_
  refine lv_icmp_ne (tgt := 17) hx hb dX4_timeFor_11 (by decide) (fun h_7 => ?_) (fun h_7 => ?_)
  · have h_7 : r_4.toInt ≠ (-1) := c_ne h_7
    refine lv_aload_n hx hb dX4_timeFor_17 rfl (lv_at hl 1 rfl) ?_
    refine r_get X kcX4 (ci := 4) rfl hP 0 rfl 3 (by decide) fX4_9 rfl dX4_timeFor_18 ?_
    refine lv_iload hx hb dX4_timeFor_21 (lv_at hl 0 rfl) ?_
    refine va_iald (D := (dC, dI)) (cl := vwCl) hx hb hK hP 1 1 rfl rfl (i := r_4) (vin (by omega) (by omega)) dX4_timeFor_23 ?_
    refine lv_topi (fun x_8 ex_8 => ?_)
    have gxx_8 : (g_sortsf r_4.toInt.toNat).toInt = x_8.toInt := by rw [ex_8]; rfl
    refine lv_iconst (v := 1) hx hb dX4_timeFor_24 (by decide) ?_
    refine lv_icmp_ne (tgt := 34) hx hb dX4_timeFor_25 (by decide) (fun h_9 => ?_) (fun h_9 => ?_)
    · have h_9 : x_8.toInt ≠ 1 := c_ne h_9
      refine lv_aload_n hx hb dX4_timeFor_34 rfl (lv_at hl 1 rfl) ?_
      refine r_get X kcX4 (ci := 4) rfl hP 0 rfl 3 (by decide) fX4_9 rfl dX4_timeFor_35 ?_
      refine lv_iload_n hx hb dX4_timeFor_38 rfl (lv_at hl 3 rfl) ?_
      refine va_iald (D := (dC, dI)) (cl := vwCl) hx hb hK hP 1 1 rfl rfl (i := p2) (vin (by omega) (by omega)) dX4_timeFor_39 ?_
      refine lv_topi (fun x_10 ex_10 => ?_)
      have gxx_10 : (g_sortsf p2.toInt.toNat).toInt = x_10.toInt := by rw [ex_10]; rfl
      refine lv_iconst (v := 1) hx hb dX4_timeFor_40 (by decide) ?_
      refine lv_icmp_ne (tgt := 52) hx hb dX4_timeFor_41 (by decide) (fun h_11 => ?_) (fun h_11 => ?_)
      · have h_11 : x_10.toInt ≠ 1 := c_ne h_11
        refine lv_iconst (v := 1) hx hb dX4_timeFor_52 (by decide) ?_
        exact eI hQ X hr hlocks hP hD hS () [0, 1] (by decide) rfl rfl (show ((-2) ≤ (1 : Int32).toInt ∧ (1 : Int32).toInt ≤ 4) ∧ ((1 : Int32).toInt = -2 ∨ (0 ≤ p2.toInt ∧ p2.toInt < g_count.toInt ∧ (tgZ g_wide.toInt g_count.toInt g_sortsf p2.toInt p3.toInt) ≠ -1)) ∧ ((1 : Int32).toInt = tfZ g_wide.toInt g_count.toInt g_sortsf p1.toInt p2.toInt p3.toInt) from ⟨(by first | decide | (have h9_0 : (1 : Int32).toInt = 1 := (by decide); omega) | (refine ⟨by decide, ?_⟩; omega) | omega), (Or.inr ⟨by omega, by omega, by omega⟩), (by have h9_0 : (1 : Int32).toInt = 1 := (by decide); unfold tfZ; rw [← k_5_1]; (repeat' split) <;> omega)⟩) (Nat.le_of_ble_eq_true rfl) (Nat.le_of_ble_eq_true rfl) dX4_timeFor_53
      · have h_11 : x_10.toInt = 1 := c_eq h_11
        refine lv_iload_n hx hb dX4_timeFor_44 rfl (lv_at hl 2 rfl) ?_
        refine lv_iload_n hx hb dX4_timeFor_45 rfl (lv_at hl 4 rfl) ?_
        refine sl_Ic (rS_I (As := [.int p1, .int p3]) (rest := []) X hp_st (fun _ _ _ h => h) (sX4_timeOutOfDitch l dC dI cy p1 p3) kX4_timeOutOfDitch w_835 mX4_36 hP hD hS hA [] (by decide) rfl hl rfl rfl (Nat.le_of_ble_eq_true rfl) dX4_timeFor_46 ⟨(Nat.le_of_ble_eq_true rfl), (Nat.le_of_ble_eq_true rfl)⟩ ⟨(Nat.le_of_ble_eq_true rfl), (Nat.le_of_ble_eq_true rfl)⟩) hP hD hS hA [] [true, true] rfl rfl rfl (fun r_12 u_14 H locs k_13 hP hD hS => ?_)
        have k_13 : ((-2) ≤ r_12.toInt ∧ r_12.toInt ≤ 4) ∧ (r_12.toInt = oU p1.toInt p3.toInt) := k_13
        obtain ⟨k_13_0, k_13_1⟩ := k_13
        have hPD := vPD (ws' := [(h0, .inr (4, [.int g_wide, .int g_deep, .int g_count, .ref g_sorts])), (g_sorts, .inl (cy 1, 20, .inl g_sortsf))]) hP hD rfl
        have hP := hPD.1
        have hD := hPD.2
        refine lv_goto (tgt := 53) hx hb dX4_timeFor_49 (by decide) ?_
        exact eI hQ X hr hlocks hP hD hS () [0, 1] (by decide) rfl rfl (show ((-2) ≤ r_12.toInt ∧ r_12.toInt ≤ 4) ∧ (r_12.toInt = -2 ∨ (0 ≤ p2.toInt ∧ p2.toInt < g_count.toInt ∧ (tgZ g_wide.toInt g_count.toInt g_sortsf p2.toInt p3.toInt) ≠ -1)) ∧ (r_12.toInt = tfZ g_wide.toInt g_count.toInt g_sortsf p1.toInt p2.toInt p3.toInt) from ⟨k_13_0, (Or.inr ⟨by omega, by omega, by omega⟩), (by unfold tfZ; rw [← k_5_1]; (repeat' split) <;> omega)⟩) (Nat.le_of_ble_eq_true rfl) (Nat.le_of_ble_eq_true rfl) dX4_timeFor_53
    · have h_9 : x_8.toInt = 1 := c_eq h_9
      refine lv_iload_n hx hb dX4_timeFor_28 rfl (lv_at hl 2 rfl) ?_
      refine lv_iload_n hx hb dX4_timeFor_29 rfl (lv_at hl 4 rfl) ?_
      refine sl_Ic (rS_I (As := [.int p1, .int p3]) (rest := []) X hp_st (fun _ _ _ h => h) (sX4_timeOntoDitch l dC dI cy p1 p3) kX4_timeOntoDitch w_832 mX4_33 hP hD hS hA [] (by decide) rfl hl rfl rfl (Nat.le_of_ble_eq_true rfl) dX4_timeFor_30 ⟨(Nat.le_of_ble_eq_true rfl), (Nat.le_of_ble_eq_true rfl)⟩ ⟨(Nat.le_of_ble_eq_true rfl), (Nat.le_of_ble_eq_true rfl)⟩) hP hD hS hA [] [true, true] rfl rfl rfl (fun r_15 u_17 H locs k_16 hP hD hS => ?_)
      have k_16 : ((-2) ≤ r_15.toInt ∧ r_15.toInt ≤ 4) ∧ (r_15.toInt = oD p1.toInt p3.toInt) := k_16
      obtain ⟨k_16_0, k_16_1⟩ := k_16
      have hPD := vPD (ws' := [(h0, .inr (4, [.int g_wide, .int g_deep, .int g_count, .ref g_sorts])), (g_sorts, .inl (cy 1, 20, .inl g_sortsf))]) hP hD rfl
      have hP := hPD.1
      have hD := hPD.2
      exact eI hQ X hr hlocks hP hD hS () [0, 1] (by decide) rfl rfl (show ((-2) ≤ r_15.toInt ∧ r_15.toInt ≤ 4) ∧ (r_15.toInt = -2 ∨ (0 ≤ p2.toInt ∧ p2.toInt < g_count.toInt ∧ (tgZ g_wide.toInt g_count.toInt g_sortsf p2.toInt p3.toInt) ≠ -1)) ∧ (r_15.toInt = tfZ g_wide.toInt g_count.toInt g_sortsf p1.toInt p2.toInt p3.toInt) from ⟨k_16_0, (Or.inr ⟨by omega, by omega, by omega⟩), (by unfold tfZ; rw [← k_5_1]; (repeat' split) <;> omega)⟩) (Nat.le_of_ble_eq_true rfl) (Nat.le_of_ble_eq_true rfl) dX4_timeFor_33
  · have h_7 : r_4.toInt = (-1) := c_eq h_7
    refine lv_bipush (v := -2) hx hb dX4_timeFor_14 (by decide) ?_
    exact eI hQ X hr hlocks hP hD hS () [0, 1] (by decide) rfl rfl (show ((-2) ≤ (-2 : Int32).toInt ∧ (-2 : Int32).toInt ≤ 4) ∧ ((-2 : Int32).toInt = -2 ∨ (0 ≤ p2.toInt ∧ p2.toInt < g_count.toInt ∧ (tgZ g_wide.toInt g_count.toInt g_sortsf p2.toInt p3.toInt) ≠ -1)) ∧ ((-2 : Int32).toInt = tfZ g_wide.toInt g_count.toInt g_sortsf p1.toInt p2.toInt p3.toInt) from ⟨(by first | decide | omega | (refine ⟨by decide, ?_⟩; omega) | (have h9_0 : (-2 : Int32).toInt = (-2) := (by decide); omega)), (Or.inl (by decide)), (by have h9_0 : (-2 : Int32).toInt = (-2) := (by decide); unfold tfZ; rw [← k_5_1]; (repeat' split) <;> omega)⟩) (Nat.le_of_ble_eq_true rfl) (Nat.le_of_ble_eq_true rfl) dX4_timeFor_16
set_option maxHeartbeats 4000000 in
set_option maxRecDepth 100000 in
theorem sX4_fallsFor (l : Launch) (dC : Nat → ClassId) (dI : Nat → Nat → Nat) (cy : Nat → ClassId) (h0 : Nat) (g_wide : Int32) (g_deep : Int32) (g_count : Int32) (g_sorts : Nat) (g_sortsf : Nat → Int32) (p1 : Int32) (p2 : Int32) (p3 : Int32) (hg_wide : 0 ≤ g_wide.toInt ∧ g_wide.toInt ≤ 5) (hg_deep : 0 ≤ g_deep.toInt ∧ g_deep.toInt ≤ 4) (hg_count : 0 ≤ g_count.toInt ∧ g_count.toInt ≤ 20) : ctI l dC dI cy hp yX4_fallsFor cX4_fallsFor 5 .int ({ frames := 1, cells := 0, slots := 0, locals := 23 } : Room) [.ref h0, .int p1, .int p2, .int p3] [(h0, .inr (4, [.int g_wide, .int g_deep, .int g_count, .ref g_sorts])), (g_sorts, .inl (cy 1, 20, .inl g_sortsf))] (S := Unit) (fun r _ => (0 ≤ r.toInt ∧ r.toInt ≤ 1) ∧ (r.toInt = flZ g_wide.toInt g_count.toInt g_sortsf p1.toInt p2.toInt p3.toInt)) (fun _ => [(h0, .inr (4, [.int g_wide, .int g_deep, .int g_count, .ref g_sorts])), (g_sorts, .inl (cy 1, 20, .inl g_sortsf))]) := by
  refine ctI.of (by decide +kernel) (Nat.le_of_ble_eq_true rfl) ?_
  intro p e s m args below meth c A ls Q hQ X hr hlocks hin hA hP hD hS hl
  have hx := X.1
  have hb := X.2.1
  have hK := X.2.2.2.2.2.1
  have hl : lv_has ls 5 [(0, .ref h0), (1, .int p1), (2, .int p2), (3, .int p3)] := hl
  have dy_1 := ti_bd p1
  have dy_2 := ti_bd p2
  have dy_3 := ti_bd p3
  refine lv_aload_n hx hb dX4_fallsFor_0 rfl (lv_at hl 0 rfl) ?_
  refine lv_iload_n hx hb dX4_fallsFor_1 rfl (lv_at hl 2 rfl) ?_
  refine lv_iload_n hx hb dX4_fallsFor_2 rfl (lv_at hl 3 rfl) ?_
  refine sl_Ic (rV_I (As := [.int p2, .int p3]) (rest := []) X hp_st (fun _ _ _ h => h) (sX4_target l dC dI cy h0 g_wide g_deep g_count g_sorts g_sortsf p2 p3 hg_wide hg_deep hg_count) kX4_target vX4_target mX4_29 hP hD hS hA [0, 1] (by decide) rfl 0 (ci := 4) rfl rfl rfl hl rfl rfl (Nat.le_of_ble_eq_true rfl) dX4_fallsFor_3 ⟨(Nat.le_of_ble_eq_true rfl), (Nat.le_of_ble_eq_true rfl)⟩ ⟨(Nat.le_of_ble_eq_true rfl), (Nat.le_of_ble_eq_true rfl)⟩) hP hD hS hA [0, 1] [false, false] rfl rfl rfl (fun r_4 u_6 H locs k_5 hP hD hS => ?_)
  have k_5 : ((-1) ≤ r_4.toInt ∧ r_4.toInt ≤ 19) ∧ (r_4.toInt = (tgZ g_wide.toInt g_count.toInt g_sortsf p2.toInt p3.toInt)) ∧ (r_4.toInt = -1 ∨ (0 ≤ r_4.toInt ∧ r_4.toInt < g_count.toInt ∧ 0 ≤ p2.toInt ∧ p2.toInt < g_count.toInt)) := k_5
  obtain ⟨k_5_0, k_5_1, k_5_2⟩ := k_5
  have hPD := vPD (ws' := [(h0, .inr (4, [.int g_wide, .int g_deep, .int g_count, .ref g_sorts])), (g_sorts, .inl (cy 1, 20, .inl g_sortsf))]) hP hD rfl
  have hP := hPD.1
  have hD := hPD.2
  refine lv_istore (lv' := [(4, .int r_4), (0, .ref h0), (1, .int p1), (2, .int p2), (3, .int p3)]) hx hb dX4_fallsFor_6 hl (by decide) rfl (fun ls hl => ?_)
  refine lv_iload hx hb dX4_fallsFor_8 (lv_at hl 0 rfl) ?_
  refine lv_iconst (v := -1) hx hb dX4_fallsFor_10 (by decide) ?_
  refine lv_icmp_eq (tgt := 37) hx hb dX4_fallsFor_11 (by decide) (fun h_7 => ?_) (fun h_7 => ?_)
  · have h_7 : r_4.toInt = (-1) := c_eq h_7
    refine lv_iconst (v := 0) hx hb dX4_fallsFor_37 (by decide) ?_
    exact eI hQ X hr hlocks hP hD hS () [0, 1] (by decide) rfl rfl (show (0 ≤ (0 : Int32).toInt ∧ (0 : Int32).toInt ≤ 1) ∧ ((0 : Int32).toInt = flZ g_wide.toInt g_count.toInt g_sortsf p1.toInt p2.toInt p3.toInt) from ⟨(by first | decide | (have h9_0 : (0 : Int32).toInt = 0 := (by decide); omega) | (refine ⟨by decide, ?_⟩; omega) | omega), (by have h9_0 : (0 : Int32).toInt = 0 := (by decide); unfold flZ; rw [← k_5_1]; (repeat' split) <;> omega)⟩) (Nat.le_of_ble_eq_true rfl) (Nat.le_of_ble_eq_true rfl) dX4_fallsFor_38
  · have h_7 : r_4.toInt ≠ (-1) := c_ne h_7
    refine lv_aload_n hx hb dX4_fallsFor_14 rfl (lv_at hl 1 rfl) ?_
    refine r_get X kcX4 (ci := 4) rfl hP 0 rfl 3 (by decide) fX4_9 rfl dX4_fallsFor_15 ?_
    refine lv_iload hx hb dX4_fallsFor_18 (lv_at hl 0 rfl) ?_
    refine va_iald (D := (dC, dI)) (cl := vwCl) hx hb hK hP 1 1 rfl rfl (i := r_4) (vin (by omega) (by omega)) dX4_fallsFor_20 ?_
    refine lv_topi (fun x_8 ex_8 => ?_)
    have gxx_8 : (g_sortsf r_4.toInt.toNat).toInt = x_8.toInt := by rw [ex_8]; rfl
    refine lv_iconst (v := 1) hx hb dX4_fallsFor_21 (by decide) ?_
    refine lv_icmp_ne (tgt := 37) hx hb dX4_fallsFor_22 (by decide) (fun h_9 => ?_) (fun h_9 => ?_)
    · have h_9 : x_8.toInt ≠ 1 := c_ne h_9
      refine lv_iconst (v := 0) hx hb dX4_fallsFor_37 (by decide) ?_
      exact eI hQ X hr hlocks hP hD hS () [0, 1] (by decide) rfl rfl (show (0 ≤ (0 : Int32).toInt ∧ (0 : Int32).toInt ≤ 1) ∧ ((0 : Int32).toInt = flZ g_wide.toInt g_count.toInt g_sortsf p1.toInt p2.toInt p3.toInt) from ⟨(by first | decide | (have h9_0 : (0 : Int32).toInt = 0 := (by decide); omega) | (refine ⟨by decide, ?_⟩; omega) | omega), (by have h9_0 : (0 : Int32).toInt = 0 := (by decide); unfold flZ; rw [← k_5_1]; (repeat' split) <;> omega)⟩) (Nat.le_of_ble_eq_true rfl) (Nat.le_of_ble_eq_true rfl) dX4_fallsFor_38
    · have h_9 : x_8.toInt = 1 := c_eq h_9
      refine lv_iload_n hx hb dX4_fallsFor_25 rfl (lv_at hl 2 rfl) ?_
      refine lv_iload_n hx hb dX4_fallsFor_26 rfl (lv_at hl 4 rfl) ?_
      refine sl_Ic (rS_I (As := [.int p1, .int p3]) (rest := []) X hp_st (fun _ _ _ h => h) (sX4_isFallOntoDitch l dC dI cy p1 p3) kX4_isFallOntoDitch w_846 mX4_39 hP hD hS hA [] (by decide) rfl hl rfl rfl (Nat.le_of_ble_eq_true rfl) dX4_fallsFor_27 ⟨(Nat.le_of_ble_eq_true rfl), (Nat.le_of_ble_eq_true rfl)⟩ ⟨(Nat.le_of_ble_eq_true rfl), (Nat.le_of_ble_eq_true rfl)⟩) hP hD hS hA [] [true, true] rfl rfl rfl (fun r_10 u_12 H locs k_11 hP hD hS => ?_)
      have k_11 : (0 ≤ r_10.toInt ∧ r_10.toInt ≤ 1) ∧ ((r_10.toInt = 1 ∧ p1.toInt = 0 ∧ p3.toInt = 2) ∨ (r_10.toInt = 0 ∧ (p1.toInt ≠ 0 ∨ p3.toInt ≠ 2))) := k_11
      obtain ⟨k_11_0, k_11_1⟩ := k_11
      have hPD := vPD (ws' := [(h0, .inr (4, [.int g_wide, .int g_deep, .int g_count, .ref g_sorts])), (g_sorts, .inl (cy 1, 20, .inl g_sortsf))]) hP hD rfl
      have hP := hPD.1
      have hD := hPD.2
      refine lv_if_eq (tgt := 37) hx hb dX4_fallsFor_30 (by decide) (fun h_13 => ?_) (fun h_13 => ?_)
      · have h_13 : r_10.toInt = 0 := c_eq h_13
        refine lv_iconst (v := 0) hx hb dX4_fallsFor_37 (by decide) ?_
        exact eI hQ X hr hlocks hP hD hS () [0, 1] (by decide) rfl rfl (show (0 ≤ (0 : Int32).toInt ∧ (0 : Int32).toInt ≤ 1) ∧ ((0 : Int32).toInt = flZ g_wide.toInt g_count.toInt g_sortsf p1.toInt p2.toInt p3.toInt) from ⟨(by first | decide | (have h9_0 : (0 : Int32).toInt = 0 := (by decide); omega) | (refine ⟨by decide, ?_⟩; omega) | omega), (by have h9_0 : (0 : Int32).toInt = 0 := (by decide); unfold flZ; rw [← k_5_1]; (repeat' split) <;> omega)⟩) (Nat.le_of_ble_eq_true rfl) (Nat.le_of_ble_eq_true rfl) dX4_fallsFor_38
      · have h_13 : r_10.toInt ≠ 0 := c_ne h_13
        refine lv_iconst (v := 1) hx hb dX4_fallsFor_33 (by decide) ?_
        refine lv_goto (tgt := 38) hx hb dX4_fallsFor_34 (by decide) ?_
        exact eI hQ X hr hlocks hP hD hS () [0, 1] (by decide) rfl rfl (show (0 ≤ (1 : Int32).toInt ∧ (1 : Int32).toInt ≤ 1) ∧ ((1 : Int32).toInt = flZ g_wide.toInt g_count.toInt g_sortsf p1.toInt p2.toInt p3.toInt) from ⟨(by first | decide | (have h9_0 : (1 : Int32).toInt = 1 := (by decide); omega) | (refine ⟨by decide, ?_⟩; omega) | omega), (by have h9_0 : (1 : Int32).toInt = 1 := (by decide); unfold flZ; rw [← k_5_1]; (repeat' split) <;> omega)⟩) (Nat.le_of_ble_eq_true rfl) (Nat.le_of_ble_eq_true rfl) dX4_fallsFor_38
set_option maxHeartbeats 4000000 in
set_option maxRecDepth 100000 in
theorem sX4_take (l : Launch) (dC : Nat → ClassId) (dI : Nat → Nat → Nat) (cy : Nat → ClassId) (h0 : Nat) (g_wide : Int32) (g_deep : Int32) (g_count : Int32) (g_sorts : Nat) (g_sortsf : Nat → Int32) (h1 : Nat) (o_wide : Int32) (o_deep : Int32) (o_count : Int32) (o_sorts : Nat) (o_sortsf : Nat → Int32) (hg_wide : 0 ≤ g_wide.toInt ∧ g_wide.toInt ≤ 5) (hg_deep : 0 ≤ g_deep.toInt ∧ g_deep.toInt ≤ 4) (hg_count : 0 ≤ g_count.toInt ∧ g_count.toInt ≤ 20) (ho_wide : 0 ≤ o_wide.toInt ∧ o_wide.toInt ≤ 5) (ho_deep : 0 ≤ o_deep.toInt ∧ o_deep.toInt ≤ 4) (ho_count : 0 ≤ o_count.toInt ∧ o_count.toInt ≤ 20) : ctV l dC dI cy hp yX4_take cX4_take 2 ({ frames := 1, cells := 0, slots := 0, locals := 40 } : Room) [.ref h0, .ref h1] [(h0, .inr (4, [.int g_wide, .int g_deep, .int g_count, .ref g_sorts])), (g_sorts, .inl (cy 1, 20, .inl g_sortsf)), (h1, .inr (4, [.int o_wide, .int o_deep, .int o_count, .ref o_sorts])), (o_sorts, .inl (cy 1, 20, .inl o_sortsf))] (S := Int32 × Int32 × Int32 × (Nat → Int32)) (fun u => (0 ≤ u.1.toInt ∧ u.1.toInt ≤ 5) ∧ (0 ≤ u.2.1.toInt ∧ u.2.1.toInt ≤ 4) ∧ (0 ≤ u.2.2.1.toInt ∧ u.2.2.1.toInt ≤ 20) ∧ (u.1 = o_wide) ∧ (u.2.1 = o_deep) ∧ (u.2.2.1.toInt = o_wide.toInt * o_deep.toInt) ∧ (cpZ o_sortsf u.2.2.2 20)) (fun u => [(h0, .inr (4, [.int u.1, .int u.2.1, .int u.2.2.1, .ref g_sorts])), (g_sorts, .inl (cy 1, 20, .inl u.2.2.2)), (h1, .inr (4, [.int o_wide, .int o_deep, .int o_count, .ref o_sorts])), (o_sorts, .inl (cy 1, 20, .inl o_sortsf))]) := by
  refine ctV.of (by decide +kernel) (Nat.le_of_ble_eq_true rfl) ?_
  intro p e s m args below meth c A ls Q hQ X hr hlocks hin hA hP hD hS hl
  have hx := X.1
  have hb := X.2.1
  have hK := X.2.2.2.2.2.1
  have hl : lv_has ls 2 [(0, .ref h0), (1, .ref h1)] := hl
  refine lv_aload_n hx hb dX4_take_0 rfl (lv_at hl 0 rfl) ?_
  refine lv_aload_n hx hb dX4_take_1 rfl (lv_at hl 1 rfl) ?_
  refine r_get X kcX4 (ci := 4) rfl hP 2 rfl 0 (by decide) fX4_15 rfl dX4_take_2 ?_
  refine lv_aload_n hx hb dX4_take_5 rfl (lv_at hl 1 rfl) ?_
  refine r_get X kcX4 (ci := 4) rfl hP 2 rfl 1 (by decide) fX4_19 rfl dX4_take_6 ?_
  refine sl_Vc (rV_V (As := [.int o_wide, .int o_deep]) (rest := []) X hp_st (fun _ _ _ h => h) (sX4_resize l dC dI cy h0 g_wide g_deep g_count g_sorts o_wide o_deep hg_wide hg_deep hg_count ho_wide ho_deep) kX4_resize vX4_resize mX4_43 hP hD hS hA [0] (by decide) rfl 0 (ci := 4) rfl rfl rfl hl rfl rfl (Nat.le_of_ble_eq_true rfl) dX4_take_9 ⟨(Nat.le_of_ble_eq_true rfl), (Nat.le_of_ble_eq_true rfl)⟩ ⟨(Nat.le_of_ble_eq_true rfl), (Nat.le_of_ble_eq_true rfl)⟩) hP hD hS hA [0] [false, true, true, true] rfl rfl rfl (fun u_6 H locs k_5 hP hD hS => ?_)
  obtain ⟨g_wide1_1, g_deep1_2, g_count1_3⟩ := u_6
  have k_5 : (0 ≤ g_wide1_1.toInt ∧ g_wide1_1.toInt ≤ 5) ∧ (0 ≤ g_deep1_2.toInt ∧ g_deep1_2.toInt ≤ 4) ∧ (0 ≤ g_count1_3.toInt ∧ g_count1_3.toInt ≤ 20) ∧ (g_wide1_1 = o_wide) ∧ (g_deep1_2 = o_deep) ∧ (g_count1_3.toInt = o_wide.toInt * o_deep.toInt) := k_5
  obtain ⟨k_5_0, k_5_1, k_5_2, k_5_3, k_5_4, k_5_5⟩ := k_5
  have hPD := vPD (ws' := [(g_sorts, .inl (cy 1, 20, .inl g_sortsf)), (h1, .inr (4, [.int o_wide, .int o_deep, .int o_count, .ref o_sorts])), (o_sorts, .inl (cy 1, 20, .inl o_sortsf)), (h0, .inr (4, [.int g_wide1_1, .int g_deep1_2, .int g_count1_3, .ref g_sorts]))]) hP hD rfl
  have hP := hPD.1
  have hD := hPD.2
  refine lv_aload_n hx hb dX4_take_12 rfl (lv_at hl 1 rfl) ?_
  refine r_get X kcX4 (ci := 4) rfl hP 1 rfl 3 (by decide) fX4_9 rfl dX4_take_13 ?_
  refine lv_iconst (v := 0) hx hb dX4_take_16 (by decide) ?_
  refine lv_aload_n hx hb dX4_take_17 rfl (lv_at hl 0 rfl) ?_
  refine r_get X kcX4 (ci := 4) rfl hP 3 rfl 3 (by decide) fX4_9 rfl dX4_take_18 ?_
  refine lv_iconst (v := 0) hx hb dX4_take_21 (by decide) ?_
  refine lv_bipush (v := 20) hx hb dX4_take_22 (by decide) ?_
  refine va_copyi (D := (dC, dI)) (cl := vwCl) hx hb (X.2.2.1.trans hl.1.symm) X.2.2.2.1 (X.2.2.2.2.1 _ w_757) (X.2.2.2.2.1 _ w_759) (X.2.2.2.2.1 _ w_758) (X.2.2.2.2.1 _ w_119) hK hP hD hS 2 0 1 1 rfl rfl rfl rfl rfl (by decide) (by decide) (by decide) (by decide) (by decide) (fun _ _ => rfl) (Nat.le_of_ble_eq_true rfl) (Nat.le_of_ble_eq_true rfl) dX4_take_24 (fun H locs hP hD hS => ?_)
  generalize ef_7 : va_cpy o_sortsf g_sortsf (Int32.toNatClampNeg 0) (Int32.toNatClampNeg 0) (Int32.toNatClampNeg 20) = f_7 at hP hD
  have cf_7 : cpZ o_sortsf f_7 20 := cpZ_cpy ef_7 rfl rfl (by decide)
  have hPD := vPD (ws' := [(g_sorts, .inl (cy 1, 20, .inl f_7)), (h1, .inr (4, [.int o_wide, .int o_deep, .int o_count, .ref o_sorts])), (o_sorts, .inl (cy 1, 20, .inl o_sortsf)), (h0, .inr (4, [.int g_wide1_1, .int g_deep1_2, .int g_count1_3, .ref g_sorts]))]) hP hD rfl
  have hP := hPD.1
  have hD := hPD.2
  exact eV hQ X hr hlocks hP hD hS (g_wide1_1, g_deep1_2, g_count1_3, f_7) [3, 0, 1, 2] (by decide) rfl (show (0 ≤ g_wide1_1.toInt ∧ g_wide1_1.toInt ≤ 5) ∧ (0 ≤ g_deep1_2.toInt ∧ g_deep1_2.toInt ≤ 4) ∧ (0 ≤ g_count1_3.toInt ∧ g_count1_3.toInt ≤ 20) ∧ (g_wide1_1 = o_wide) ∧ (g_deep1_2 = o_deep) ∧ (g_count1_3.toInt = o_wide.toInt * o_deep.toInt) ∧ (cpZ o_sortsf f_7 20) from ⟨k_5_0, k_5_1, k_5_2, k_5_3, k_5_4, k_5_5, cf_7⟩) (Nat.le_of_ble_eq_true rfl) (Nat.le_of_ble_eq_true rfl) dX4_take_27
