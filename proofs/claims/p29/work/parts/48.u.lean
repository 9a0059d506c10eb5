set_option maxHeartbeats 4000000 in
set_option maxRecDepth 100000 in
theorem g9_isRow (l : Launch) (dC : Nat → ClassId) (dI : Nat → Nat → Nat) (cy : Nat → ClassId) (h0 : Nat) (t_bytes : Nat) (t_length : Int32) (t_end : Int32) (t_token : Int32) (t_start : Int32) (t_stop : Int32) (t_number : Int32) (t_fault : Int32) (t_faultAt : Int32) (t_bytesf : Nat → Int32) (p1 : Int32) (ht_length : 0 ≤ t_length.toInt ∧ t_length.toInt ≤ 800) (ht_end : 0 ≤ t_end.toInt ∧ t_end.toInt ≤ 800) (ht_start : 0 ≤ t_start.toInt ∧ t_start.toInt ≤ 800) (ht_stop : 0 ≤ t_stop.toInt ∧ t_stop.toInt ≤ 800) (hrel : t_start.toInt ≤ t_stop.toInt ∧ t_stop.toInt ≤ t_end.toInt) (hp1 : 0 ≤ p1.toInt ∧ p1.toInt ≤ 5) : ctI l dC dI cy hp yX9_isRow cX9_isRow 3 .boolean ({ frames := 4, cells := 0, slots := 0, locals := 91 } : Room) [.ref h0, .int p1] [(h0, .inr (8, [.ref t_bytes, .int t_length, .int t_end, .int t_token, .int t_start, .int t_stop, .int t_number, .int t_fault, .int t_faultAt])), (t_bytes, .inl (cy 0, 800, .inl t_bytesf))] (S := Unit) (fun r _ => (0 ≤ r.toInt ∧ r.toInt ≤ 1) ∧ ((r.toInt = 1 ∧ t_stop.toInt - t_start.toInt = p1.toInt) ∨ r.toInt = 0) ∧ (irP t_bytesf t_token.toInt t_start.toInt t_stop.toInt p1.toInt r.toInt)) (fun _ => [(h0, .inr (8, [.ref t_bytes, .int t_length, .int t_end, .int t_token, .int t_start, .int t_stop, .int t_number, .int t_fault, .int t_faultAt])), (t_bytes, .inl (cy 0, 800, .inl t_bytesf))]) := by
  refine ctI.of (by decide +kernel) (Nat.le_of_ble_eq_true rfl) ?_
  intro p e s m args below meth c A ls Q hQ X hr hlocks hin hA hP hD hS hl
  have hx := X.1
  have hb := X.2.1
  have hK := X.2.2.2.2.2.1
  have hl : lv_has ls 3 [(0, .ref h0), (1, .int p1)] := hl
  refine lv_aload_n hx hb dX9_isRow_0 rfl (lv_at hl 0 rfl) ?_
  refine r_get X kcX9 (ci := 8) rfl hP 0 rfl 3 (by decide) fX9_66 rfl dX9_isRow_1 ?_
  refine lv_iconst (v := 1) hx hb dX9_isRow_4 (by decide) ?_
  refine lv_icmp_ne (tgt := 21) hx hb dX9_isRow_5 (by decide) (fun h_1 => ?_) (fun h_1 => ?_)
  · have h_1 : t_token.toInt ≠ 1 := c_ne h_1
    refine lv_iconst (v := 0) hx hb dX9_isRow_21 (by decide) ?_
    exact eI hQ X hr hlocks hP hD hS () [0, 1] (by decide) rfl rfl (show (0 ≤ (0 : Int32).toInt ∧ (0 : Int32).toInt ≤ 1) ∧ (((0 : Int32).toInt = 1 ∧ t_stop.toInt - t_start.toInt = p1.toInt) ∨ (0 : Int32).toInt = 0) ∧ (irP t_bytesf t_token.toInt t_start.toInt t_stop.toInt p1.toInt (0 : Int32).toInt) from ⟨(by first | decide | (have h9_0 : (0 : Int32).toInt = 0 := (by decide); omega) | (refine ⟨by decide, ?_⟩; omega) | omega), (Or.inr (by decide)), (irP_1 (by omega) (by decide))⟩) (Nat.le_of_ble_eq_true rfl) (Nat.le_of_ble_eq_true rfl) dX9_isRow_22
  · have h_1 : t_token.toInt = 1 := c_eq h_1
    refine lv_aload_n hx hb dX9_isRow_8 rfl (lv_at hl 0 rfl) ?_
    refine r_get X kcX9 (ci := 8) rfl hP 0 rfl 5 (by decide) fX9_28 rfl dX9_isRow_9 ?_
    refine lv_aload_n hx hb dX9_isRow_12 rfl (lv_at hl 0 rfl) ?_
    refine r_get X kcX9 (ci := 8) rfl hP 0 rfl 4 (by decide) fX9_119 rfl dX9_isRow_13 ?_
    refine lv_isub hx hb dX9_isRow_16 ?_
    refine lv_topi (fun x_2 ex_2 => ?_)
    have tx_2 : x_2.toInt = t_stop.toInt - t_start.toInt := ti_sub (A := t_stop.toInt) (B := t_start.toInt) ex_2 rfl rfl (by omega) (by omega)
    refine lv_iload_n hx hb dX9_isRow_17 rfl (lv_at hl 1 rfl) ?_
    refine lv_icmp_eq (tgt := 23) hx hb dX9_isRow_18 (by decide) (fun h_3 => ?_) (fun h_3 => ?_)
    · have h_3 : x_2.toInt = p1.toInt := c_eq h_3
      refine lv_aload_n hx hb dX9_isRow_23 rfl (lv_at hl 0 rfl) ?_
      refine r_get X kcX9 (ci := 8) rfl hP 0 rfl 4 (by decide) fX9_119 rfl dX9_isRow_24 ?_
      refine lv_istore_n (lv' := [(2, .int t_start), (0, .ref h0), (1, .int p1)]) hx hb dX9_isRow_27 rfl hl (by decide) rfl (fun ls hl => ?_)
      have lp_4 : ∀ (nlp_4 : Nat) (i_5 : Int32) (H : Heap) (locs : List Loc) (ls : Array Slot), (0 ≤ i_5.toInt ∧ i_5.toInt ≤ 800) → (wds t_bytesf t_start.toInt t_stop.toInt → rwA t_bytesf t_start.toInt i_5.toInt) → (t_start.toInt ≤ i_5.toInt) → (801 - i_5.toInt ≤ (nlp_4 : Int)) → va_P (dC, dI) vwCl [(h0, .inr (8, [.ref t_bytes, .int t_length, .int t_end, .int t_token, .int t_start, .int t_stop, .int t_number, .int t_fault, .int t_faultAt])), (t_bytes, .inl (cy 0, 800, .inl t_bytesf))] H → va_D A [(h0, .inr (8, [.ref t_bytes, .int t_length, .int t_end, .int t_token, .int t_start, .int t_stop, .int t_number, .int t_fault, .int t_faultAt])), (t_bytes, .inl (cy 0, 800, .inl t_bytesf))] → va_S A s.heap H locs → lv_has ls 3 [(2, .int i_5), (0, .ref h0), (1, .int p1)] → W p l e ({ frames := 4, cells := 0, slots := 0, locals := 91 } : Room) s m args below meth c H locs 0 0 Q (F0 m 28 ls []) := by
        intro nlp_4
        induction nlp_4 with
        | zero =>
          intro i_5 H locs ls b_6 b_7 b_8 hmlp_4 hP hD hS hl
          exfalso
          have di_5 := ti_bd i_5
          omega
        | succ nlp_4 ihlp_4 =>
          intro i_5 H locs ls b_6 b_7 b_8 hmlp_4 hP hD hS hl
          refine lv_iload_n hx hb dX9_isRow_28 rfl (lv_at hl 0 rfl) ?_
          refine lv_aload_n hx hb dX9_isRow_29 rfl (lv_at hl 1 rfl) ?_
          refine r_get X kcX9 (ci := 8) rfl hP 0 rfl 5 (by decide) fX9_28 rfl dX9_isRow_30 ?_
          refine lv_icmp_ge (tgt := 59) hx hb dX9_isRow_33 (by decide) (fun h_9 => ?_) (fun h_9 => ?_)
          · have h_9 : t_stop.toInt ≤ i_5.toInt := c_le h_9
            refine lv_iconst (v := 1) hx hb dX9_isRow_59 (by decide) ?_
            exact eI hQ X hr hlocks hP hD hS () [0, 1] (by decide) rfl rfl (show (0 ≤ (1 : Int32).toInt ∧ (1 : Int32).toInt ≤ 1) ∧ (((1 : Int32).toInt = 1 ∧ t_stop.toInt - t_start.toInt = p1.toInt) ∨ (1 : Int32).toInt = 0) ∧ (irP t_bytesf t_token.toInt t_start.toInt t_stop.toInt p1.toInt (1 : Int32).toInt) from ⟨(by first | decide | (have h9_0 : (1 : Int32).toInt = 1 := (by decide); omega) | (refine ⟨by decide, ?_⟩; omega) | omega), (Or.inl ⟨by decide, by omega⟩), (irP_3 (by omega) (by omega) b_7 (by omega) (by decide))⟩) (Nat.le_of_ble_eq_true rfl) (Nat.le_of_ble_eq_true rfl) dX9_isRow_60
          · have h_9 : i_5.toInt < t_stop.toInt := c_nle h_9
            obtain ⟨q_10, v_11, hq_10, hv_11⟩ := X.2.2.2.2.2.2.2.2.2.2 ("HahaLawn$Tape", 117, "odghu") (List.mem_of_getElem? (i := 8) rfl)
            refine va_ldcS hx hb X.2.2.2.1 hq_10 dX9_isRow_36 ?_
            refine lv_aload_n hx hb dX9_isRow_38 rfl (lv_at hl 1 rfl) ?_
            refine r_get X kcX9 (ci := 8) rfl hP 0 rfl 0 (by decide) fX9_11 rfl dX9_isRow_39 ?_
            refine lv_iload_n hx hb dX9_isRow_42 rfl (lv_at hl 0 rfl) ?_
            refine va_bald (D := (dC, dI)) (cl := vwCl) hx hb hK hP 1 0 rfl rfl (i := i_5) (vin (by omega) (by omega)) dX9_isRow_43 ?_
            refine lv_topi (fun x_12 ex_12 => ?_)
            obtain ⟨x_13, ex_13⟩ : ∃ y : Int32, (x_12.toUInt32 % 65536).toInt32 = y := ⟨_, rfl⟩
            refine lv_i2c hx hb dX9_isRow_44 ex_13 ?_
            refine sl_Ic (rVo_I (wc := []) (As := [.int x_13]) (rest := []) X (andX_st hp_st (sO_st q_10 v_11 5 (txB "odghu"))) ⟨X.2.2.2.2.2.2.2, hv_11⟩ (gJ0_indexOf l dC dI cy q_10 v_11 5 (txB "odghu") x_13 (by first | decide | omega)) kJ0_indexOf_0f7a4 vJ0_indexOf_0f7a4 mX9_122 hP hD hS hA [] rfl rfl hv_11.1 hl rfl rfl (Nat.le_of_ble_eq_true rfl) dX9_isRow_45 ⟨(Nat.le_of_ble_eq_true rfl), (Nat.le_of_ble_eq_true rfl)⟩ ⟨(Nat.le_of_ble_eq_true rfl), (Nat.le_of_ble_eq_true rfl)⟩) hP hD hS hA [] [true, true] rfl rfl rfl (fun r_14 u_16 H locs k_15 hP hD hS => ?_)
            have k_15 : ((-1) ≤ r_14.toInt ∧ r_14.toInt ≤ 999) ∧ (r_14.toInt < (5 : Int)) ∧ (ixP (txB "odghu") 5 x_13.toInt r_14.toInt) := k_15
            obtain ⟨k_15_0, k_15_1, k_15_2⟩ := k_15
            have hPD := vPD (ws' := [(h0, .inr (8, [.ref t_bytes, .int t_length, .int t_end, .int t_token, .int t_start, .int t_stop, .int t_number, .int t_fault, .int t_faultAt])), (t_bytes, .inl (cy 0, 800, .inl t_bytesf))]) hP hD rfl
            have hP := hPD.1
            have hD := hPD.2
            refine lv_if_ge (tgt := 53) hx hb dX9_isRow_48 (by decide) (fun h_17 => ?_) (fun h_17 => ?_)
            · have h_17 : 0 ≤ r_14.toInt := c_le h_17
              obtain ⟨x_18, ex_18⟩ : ∃ y : Int32, y = i_5 + 1 := ⟨_, rfl⟩
              have tx_18 : x_18.toInt = i_5.toInt + 1 := ti_add (A := i_5.toInt) (B := 1) ex_18 rfl rfl (by omega) (by omega)
              refine lv_iinc (v := x_18) (lv' := [(2, .int x_18), (0, .ref h0), (1, .int p1)]) hx hb dX9_isRow_53 hl (k := 0) rfl (by rw [ex_18]; rfl) (by decide) rfl (fun ls hl => ?_)
              refine lv_goto (tgt := 28) hx hb dX9_isRow_56 (by decide) ?_
              exact ihlp_4 x_18 _ _ _ (by omega) (show wds t_bytesf t_start.toInt t_stop.toInt → rwA t_bytesf t_start.toInt x_18.toInt from (fun hd => rwA_up (i := i_5) (b_7 hd) hd (by omega) (by omega) ex_12 ex_13 k_15_2 (by omega) (by omega))) (show t_start.toInt ≤ x_18.toInt by omega) (show 801 - x_18.toInt ≤ (nlp_4 : Int) by omega) hP hD hS (lv_sub hl [0, 1, 2] rfl)
            · have h_17 : r_14.toInt < 0 := c_nle h_17
              refine lv_iconst (v := 0) hx hb dX9_isRow_51 (by decide) ?_
              exact eI hQ X hr hlocks hP hD hS () [0, 1] (by decide) rfl rfl (show (0 ≤ (0 : Int32).toInt ∧ (0 : Int32).toInt ≤ 1) ∧ (((0 : Int32).toInt = 1 ∧ t_stop.toInt - t_start.toInt = p1.toInt) ∨ (0 : Int32).toInt = 0) ∧ (irP t_bytesf t_token.toInt t_start.toInt t_stop.toInt p1.toInt (0 : Int32).toInt) from ⟨(by first | decide | (have h9_0 : (0 : Int32).toInt = 0 := (by decide); omega) | (refine ⟨by decide, ?_⟩; omega) | omega), (Or.inr (by decide)), (irP_2 (i := i_5) (by omega) (by omega) (by omega) ex_12 ex_13 k_15_2 (by omega) (by decide))⟩) (Nat.le_of_ble_eq_true rfl) (Nat.le_of_ble_eq_true rfl) dX9_isRow_52
      exact lp_4 801 t_start _ _ _ (by omega) (show wds t_bytesf t_start.toInt t_stop.toInt → rwA t_bytesf t_start.toInt t_start.toInt from (fun _ => rwA_0 (by omega))) (show t_start.toInt ≤ t_start.toInt by omega) (show 801 - t_start.toInt ≤ ((801 : Nat) : Int) by omega) hP hD hS hl
    · have h_3 : x_2.toInt ≠ p1.toInt := c_ne h_3
      refine lv_iconst (v := 0) hx hb dX9_isRow_21 (by decide) ?_
      exact eI hQ X hr hlocks hP hD hS () [0, 1] (by decide) rfl rfl (show (0 ≤ (0 : Int32).toInt ∧ (0 : Int32).toInt ≤ 1) ∧ (((0 : Int32).toInt = 1 ∧ t_stop.toInt - t_start.toInt = p1.toInt) ∨ (0 : Int32).toInt = 0) ∧ (irP t_bytesf t_token.toInt t_start.toInt t_stop.toInt p1.toInt (0 : Int32).toInt) from ⟨(by first | decide | (have h9_0 : (0 : Int32).toInt = 0 := (by decide); omega) | (refine ⟨by decide, ?_⟩; omega) | omega), (Or.inr (by decide)), (irP_1 (by omega) (by decide))⟩) (Nat.le_of_ble_eq_true rfl) (Nat.le_of_ble_eq_true rfl) dX9_isRow_22
set_option maxHeartbeats 4000000 in
set_option maxRecDepth 100000 in
theorem g4_put (l : Launch) (dC : Nat → ClassId) (dI : Nat → Nat → Nat) (cy : Nat → ClassId) (h0 : Nat) (g_wide : Int32) (g_deep : Int32) (g_count : Int32) (g_sorts : Nat) (g_sortsf : Nat → Int32) (p1 : Int32) (p2 : Int32) (hg_wide : 0 ≤ g_wide.toInt ∧ g_wide.toInt ≤ 5) (hg_deep : 0 ≤ g_deep.toInt ∧ g_deep.toInt ≤ 4) (hg_count : 0 ≤ g_count.toInt ∧ g_count.toInt ≤ 20) : ctV l dC dI cy hp yX4_put cX4_put 3 ({ frames := 1, cells := 0, slots := 0, locals := 21 } : Room) [.ref h0, .int p1, .int p2] [(h0, .inr (4, [.int g_wide, .int g_deep, .int g_count, .ref g_sorts])), (g_sorts, .inl (cy 1, 20, .inl g_sortsf))] (S := (Nat → Int32)) (fun u => (ptP g_count.toInt g_sortsf u p1.toInt p2)) (fun u => [(h0, .inr (4, [.int g_wide, .int g_deep, .int g_count, .ref g_sorts])), (g_sorts, .inl (cy 1, 20, .inl u))]) := by
  refine ctV.of (by decide +kernel) (Nat.le_of_ble_eq_true rfl) ?_
  intro p e s m args below meth c A ls Q hQ X hr hlocks hin hA hP hD hS hl
  have hx := X.1
  have hb := X.2.1
  have hK := X.2.2.2.2.2.1
  have hl : lv_has ls 3 [(0, .ref h0), (1, .int p1), (2, .int p2)] := hl
  have dy_1 := ti_bd p1
  have dy_2 := ti_bd p2
  refine lv_aload_n hx hb dX4_put_0 rfl (lv_at hl 0 rfl) ?_
  refine lv_iload_n hx hb dX4_put_1 rfl (lv_at hl 1 rfl) ?_
  refine sl_Ic (rV_I (As := [.int p1]) (rest := []) X hp_st (fun _ _ _ h => h) (sX4_holds l dC dI cy h0 g_wide g_deep g_count g_sorts p1 hg_wide hg_deep hg_count) kX4_holds vX4_holds mX4_25 hP hD hS hA [0] (by decide) rfl 0 (ci := 4) rfl rfl rfl hl rfl rfl (Nat.le_of_ble_eq_true rfl) dX4_put_2 ⟨(Nat.le_of_ble_eq_true rfl), (Nat.le_of_ble_eq_true rfl)⟩ ⟨(Nat.le_of_ble_eq_true rfl), (Nat.le_of_ble_eq_true rfl)⟩) hP hD hS hA [0] [false, true] rfl rfl rfl (fun r_3 u_5 H locs k_4 hP hD hS => ?_)
  have k_4 : (0 ≤ r_3.toInt ∧ r_3.toInt ≤ 1) ∧ ((r_3.toInt = 1 ∧ 0 ≤ p1.toInt ∧ p1.toInt < g_count.toInt) ∨ (r_3.toInt = 0 ∧ (p1.toInt < 0 ∨ g_count.toInt ≤ p1.toInt))) := k_4
  obtain ⟨k_4_0, k_4_1⟩ := k_4
  have hPD := vPD (ws' := [(g_sorts, .inl (cy 1, 20, .inl g_sortsf)), (h0, .inr (4, [.int g_wide, .int g_deep, .int g_count, .ref g_sorts]))]) hP hD rfl
  have hP := hPD.1
  have hD := hPD.2
  refine lv_if_eq (tgt := 15) hx hb dX4_put_5 (by decide) (fun h_6 => ?_) (fun h_6 => ?_)
  · have h_6 : r_3.toInt = 0 := c_eq h_6
    exact eV hQ X hr hlocks hP hD hS g_sortsf [1, 0] (by decide) rfl (show (ptP g_count.toInt g_sortsf g_sortsf p1.toInt p2) from (fun h8 h9 => by exfalso; omega)) (Nat.le_of_ble_eq_true rfl) (Nat.le_of_ble_eq_true rfl) dX4_put_15
  · have h_6 : r_3.toInt ≠ 0 := c_ne h_6
    refine lv_aload_n hx hb dX4_put_8 rfl (lv_at hl 0 rfl) ?_
    refine r_get X kcX4 (ci := 4) rfl hP 1 rfl 3 (by decide) fX4_9 rfl dX4_put_9 ?_
    refine lv_iload_n hx hb dX4_put_12 rfl (lv_at hl 1 rfl) ?_
    refine lv_iload_n hx hb dX4_put_13 rfl (lv_at hl 2 rfl) ?_
    refine va_iast (D := (dC, dI)) (cl := vwCl) hx hb hK hP hD hS 0 1 rfl rfl (i := p1) (vin (by omega) (by omega)) dX4_put_14 (fun H locs hP hD hS => ?_)
    generalize ef_7 : upd g_sortsf (Int32.toNatClampNeg p1) p2 = f_7 at hP hD
    have hPD := vPD (ws' := [(g_sorts, .inl (cy 1, 20, .inl f_7)), (h0, .inr (4, [.int g_wide, .int g_deep, .int g_count, .ref g_sorts]))]) hP hD rfl
    have hP := hPD.1
    have hD := hPD.2
    exact eV hQ X hr hlocks hP hD hS f_7 [1, 0] (by decide) rfl (show (ptP g_count.toInt g_sortsf f_7 p1.toInt p2) from (fun _ _ => ef_7.symm)) (Nat.le_of_ble_eq_true rfl) (Nat.le_of_ble_eq_true rfl) dX4_put_15
set_option maxHeartbeats 4000000 in
set_option maxRecDepth 100000 in
theorem g7_clear (l : Launch) (dC : Nat → ClassId) (dI : Nat → Nat → Nat) (cy : Nat → ClassId) (h0 : Nat) (k_ground : Nat) (k_errs : Int32) (k_slips : Int32) (k_rows : Int32) (k_unsureCount : Int32) (k_unsure : Nat) (k_walkers : Int32) (k_names : Nat) (k_kinds : Nat) (k_starts : Nat) (k_goals : Nat) (k_walks : Int32) (k_walkStarts : Nat) (k_walkSteps : Nat) (k_walkFell : Nat) (k_ground_wide : Int32) (k_ground_deep : Int32) (k_ground_count : Int32) (k_ground_sorts : Nat) (k_ground_sortsf : Nat → Int32) (hk_rows : 0 ≤ k_rows.toInt ∧ k_rows.toInt ≤ 4) (hk_unsureCount : 0 ≤ k_unsureCount.toInt ∧ k_unsureCount.toInt ≤ 5) (hk_walkers : 0 ≤ k_walkers.toInt ∧ k_walkers.toInt ≤ 4) (hk_walks : 0 ≤ k_walks.toInt ∧ k_walks.toInt ≤ 6) (hk_ground_wide : 0 ≤ k_ground_wide.toInt ∧ k_ground_wide.toInt ≤ 5) (hk_ground_deep : 0 ≤ k_ground_deep.toInt ∧ k_ground_deep.toInt ≤ 4) (hk_ground_count : 0 ≤ k_ground_count.toInt ∧ k_ground_count.toInt ≤ 20) : ctV l dC dI cy hp yX7_clear cX7_clear 1 ({ frames := 1, cells := 0, slots := 0, locals := 22 } : Room) [.ref h0] [(h0, .inr (7, [.ref k_ground, .int k_errs, .int k_slips, .int k_rows, .int k_unsureCount, .ref k_unsure, .int k_walkers, .ref k_names, .ref k_kinds, .ref k_starts, .ref k_goals, .int k_walks, .ref k_walkStarts, .ref k_walkSteps, .ref k_walkFell])), (k_ground, .inr (4, [.int k_ground_wide, .int k_ground_deep, .int k_ground_count, .ref k_ground_sorts])), (k_ground_sorts, .inl (cy 1, 20, .inl k_ground_sortsf))] (S := Int32 × Int32 × Int32 × Int32 × Int32 × Int32 × Int32) (fun u => (0 ≤ u.1.toInt ∧ u.1.toInt ≤ 5) ∧ (0 ≤ u.2.1.toInt ∧ u.2.1.toInt ≤ 4) ∧ (0 ≤ u.2.2.1.toInt ∧ u.2.2.1.toInt ≤ 20) ∧ (0 ≤ u.2.2.2.1.toInt ∧ u.2.2.2.1.toInt ≤ 4) ∧ (0 ≤ u.2.2.2.2.1.toInt ∧ u.2.2.2.2.1.toInt ≤ 5) ∧ (0 ≤ u.2.2.2.2.2.1.toInt ∧ u.2.2.2.2.2.1.toInt ≤ 4) ∧ (0 ≤ u.2.2.2.2.2.2.toInt ∧ u.2.2.2.2.2.2.toInt ≤ 6) ∧ (u.1.toInt = 0) ∧ (u.2.1.toInt = 0) ∧ (u.2.2.1.toInt = 0) ∧ (u.2.2.2.1.toInt = 0) ∧ (u.2.2.2.2.1.toInt = 0) ∧ (u.2.2.2.2.2.1.toInt = 0) ∧ (u.2.2.2.2.2.2.toInt = 0)) (fun u => [(h0, .inr (7, [.ref k_ground, .int k_errs, .int k_slips, .int u.2.2.2.1, .int u.2.2.2.2.1, .ref k_unsure, .int u.2.2.2.2.2.1, .ref k_names, .ref k_kinds, .ref k_starts, .ref k_goals, .int u.2.2.2.2.2.2, .ref k_walkStarts, .ref k_walkSteps, .ref k_walkFell])), (k_ground, .inr (4, [.int u.1, .int u.2.1, .int u.2.2.1, .ref k_ground_sorts])), (k_ground_sorts, .inl (cy 1, 20, .inl k_ground_sortsf))]) := by
  refine ctV.of (by decide +kernel) (Nat.le_of_ble_eq_true rfl) ?_
  intro p e s m args below meth c A ls Q hQ X hr hlocks hin hA hP hD hS hl
  have hx := X.1
  have hb := X.2.1
  have hK := X.2.2.2.2.2.1
  have hl : lv_has ls 1 [(0, .ref h0)] := hl
  refine lv_aload_n hx hb dX7_clear_0 rfl (lv_at hl 0 rfl) ?_
  refine r_get X kcX7 (ci := 7) rfl hP 0 rfl 0 (by decide) fX7_12 rfl dX7_clear_1 ?_
  refine lv_iconst (v := 0) hx hb dX7_clear_4 (by decide) ?_
  refine lv_iconst (v := 0) hx hb dX7_clear_5 (by decide) ?_
  refine sl_Vc (rV_V (As := [.int 0, .int 0]) (rest := []) X hp_st (fun _ _ _ h => h) (g4_resize l dC dI cy k_ground k_ground_wide k_ground_deep k_ground_count k_ground_sorts 0 0 hk_ground_wide hk_ground_deep hk_ground_count (by first | decide | omega | (have h9_0 : Int32.toInt 0 = 0 := (by decide); omega)) (by first | decide | omega | (have h9_0 : Int32.toInt 0 = 0 := (by decide); omega))) kX4_resize vX4_resize mX7_45 hP hD hS hA [1] (by decide) rfl 0 (ci := 4) rfl rfl rfl hl rfl rfl (Nat.le_of_ble_eq_true rfl) dX7_clear_6 ⟨(Nat.le_of_ble_eq_true rfl), (Nat.le_of_ble_eq_true rfl)⟩ ⟨(Nat.le_of_ble_eq_true rfl), (Nat.le_of_ble_eq_true rfl)⟩) hP hD hS hA [1] [true, false, true] rfl rfl rfl (fun u_6 H locs k_5 hP hD hS => ?_)
  obtain ⟨g_wide1_1, g_deep1_2, g_count1_3⟩ := u_6
  have k_5 : (0 ≤ g_wide1_1.toInt ∧ g_wide1_1.toInt ≤ 5) ∧ (0 ≤ g_deep1_2.toInt ∧ g_deep1_2.toInt ≤ 4) ∧ (0 ≤ g_count1_3.toInt ∧ g_count1_3.toInt ≤ 20) ∧ (g_wide1_1.toInt = (0 : Int32).toInt) ∧ (g_deep1_2.toInt = (0 : Int32).toInt) ∧ (g_count1_3.toInt = (0 : Int32).toInt * (0 : Int32).toInt) := k_5
  have kc_7 : (0 : Int32).toInt = 0 := by decide
  obtain ⟨k_5_0, k_5_1, k_5_2, k_5_3, k_5_4, k_5_5⟩ := k_5
  have hPD := vPD (ws' := [(h0, .inr (7, [.ref k_ground, .int k_errs, .int k_slips, .int k_rows, .int k_unsureCount, .ref k_unsure, .int k_walkers, .ref k_names, .ref k_kinds, .ref k_starts, .ref k_goals, .int k_walks, .ref k_walkStarts, .ref k_walkSteps, .ref k_walkFell])), (k_ground_sorts, .inl (cy 1, 20, .inl k_ground_sortsf)), (k_ground, .inr (4, [.int g_wide1_1, .int g_deep1_2, .int g_count1_3, .ref k_ground_sorts]))]) hP hD rfl
  have hP := hPD.1
  have hD := hPD.2
  refine lv_aload_n hx hb dX7_clear_9 rfl (lv_at hl 0 rfl) ?_
  refine lv_iconst (v := 0) hx hb dX7_clear_10 (by decide) ?_
  refine r_put X kcX7 (ci := 7) rfl hP hD hS 0 rfl 3 (by decide) fX7_49 rfl rfl rfl (Nat.le_of_ble_eq_true rfl) dX7_clear_11 (fun H locs hP hD hS => ?_)
  have hPD := vPD (ws' := [(h0, .inr (7, [.ref k_ground, .int k_errs, .int k_slips, .int 0, .int k_unsureCount, .ref k_unsure, .int k_walkers, .ref k_names, .ref k_kinds, .ref k_starts, .ref k_goals, .int k_walks, .ref k_walkStarts, .ref k_walkSteps, .ref k_walkFell])), (k_ground_sorts, .inl (cy 1, 20, .inl k_ground_sortsf)), (k_ground, .inr (4, [.int g_wide1_1, .int g_deep1_2, .int g_count1_3, .ref k_ground_sorts]))]) hP hD rfl
  have hP := hPD.1
  have hD := hPD.2
  refine lv_aload_n hx hb dX7_clear_14 rfl (lv_at hl 0 rfl) ?_
  refine lv_iconst (v := 0) hx hb dX7_clear_15 (by decide) ?_
  refine r_put X kcX7 (ci := 7) rfl hP hD hS 0 rfl 4 (by decide) fX7_53 rfl rfl rfl (Nat.le_of_ble_eq_true rfl) dX7_clear_16 (fun H locs hP hD hS => ?_)
  have hPD := vPD (ws' := [(h0, .inr (7, [.ref k_ground, .int k_errs, .int k_slips, .int 0, .int 0, .ref k_unsure, .int k_walkers, .ref k_names, .ref k_kinds, .ref k_starts, .ref k_goals, .int k_walks, .ref k_walkStarts, .ref k_walkSteps, .ref k_walkFell])), (k_ground_sorts, .inl (cy 1, 20, .inl k_ground_sortsf)), (k_ground, .inr (4, [.int g_wide1_1, .int g_deep1_2, .int g_count1_3, .ref k_ground_sorts]))]) hP hD rfl
  have hP := hPD.1
  have hD := hPD.2
  refine lv_aload_n hx hb dX7_clear_19 rfl (lv_at hl 0 rfl) ?_
  refine lv_iconst (v := 0) hx hb dX7_clear_20 (by decide) ?_
  refine r_put X kcX7 (ci := 7) rfl hP hD hS 0 rfl 6 (by decide) fX7_56 rfl rfl rfl (Nat.le_of_ble_eq_true rfl) dX7_clear_21 (fun H locs hP hD hS => ?_)
  have hPD := vPD (ws' := [(h0, .inr (7, [.ref k_ground, .int k_errs, .int k_slips, .int 0, .int 0, .ref k_unsure, .int 0, .ref k_names, .ref k_kinds, .ref k_starts, .ref k_goals, .int k_walks, .ref k_walkStarts, .ref k_walkSteps, .ref k_walkFell])), (k_ground_sorts, .inl (cy 1, 20, .inl k_ground_sortsf)), (k_ground, .inr (4, [.int g_wide1_1, .int g_deep1_2, .int g_count1_3, .ref k_ground_sorts]))]) hP hD rfl
  have hP := hPD.1
  have hD := hPD.2
  refine lv_aload_n hx hb dX7_clear_24 rfl (lv_at hl 0 rfl) ?_
  refine lv_iconst (v := 0) hx hb dX7_clear_25 (by decide) ?_
  refine r_put X kcX7 (ci := 7) rfl hP hD hS 0 rfl 11 (by decide) fX7_59 rfl rfl rfl (Nat.le_of_ble_eq_true rfl) dX7_clear_26 (fun H locs hP hD hS => ?_)
  have hPD := vPD (ws' := [(h0, .inr (7, [.ref k_ground, .int k_errs, .int k_slips, .int 0, .int 0, .ref k_unsure, .int 0, .ref k_names, .ref k_kinds, .ref k_starts, .ref k_goals, .int 0, .ref k_walkStarts, .ref k_walkSteps, .ref k_walkFell])), (k_ground_sorts, .inl (cy 1, 20, .inl k_ground_sortsf)), (k_ground, .inr (4, [.int g_wide1_1, .int g_deep1_2, .int g_count1_3, .ref k_ground_sorts]))]) hP hD rfl
  have hP := hPD.1
  have hD := hPD.2
  exact eV hQ X hr hlocks hP hD hS (g_wide1_1, g_deep1_2, g_count1_3, (0 : Int32), (0 : Int32), (0 : Int32), (0 : Int32)) [0, 2, 1] (by decide) rfl (show (0 ≤ g_wide1_1.toInt ∧ g_wide1_1.toInt ≤ 5) ∧ (0 ≤ g_deep1_2.toInt ∧ g_deep1_2.toInt ≤ 4) ∧ (0 ≤ g_count1_3.toInt ∧ g_count1_3.toInt ≤ 20) ∧ (0 ≤ (0 : Int32).toInt ∧ (0 : Int32).toInt ≤ 4) ∧ (0 ≤ (0 : Int32).toInt ∧ (0 : Int32).toInt ≤ 5) ∧ (0 ≤ (0 : Int32).toInt ∧ (0 : Int32).toInt ≤ 4) ∧ (0 ≤ (0 : Int32).toInt ∧ (0 : Int32).toInt ≤ 6) ∧ (g_wide1_1.toInt = 0) ∧ (g_deep1_2.toInt = 0) ∧ (g_count1_3.toInt = 0) ∧ ((0 : Int32).toInt = 0) ∧ ((0 : Int32).toInt = 0) ∧ ((0 : Int32).toInt = 0) ∧ ((0 : Int32).toInt = 0) from ⟨k_5_0, k_5_1, k_5_2, (by first | decide | (have h9_0 : (0 : Int32).toInt = 0 := (by decide); omega) | (refine ⟨by decide, ?_⟩; omega) | omega), (by first | decide | (have h9_0 : (0 : Int32).toInt = 0 := (by decide); omega) | (refine ⟨by decide, ?_⟩; omega) | omega), (by first | decide | (have h9_0 : (0 : Int32).toInt = 0 := (by decide); omega) | (refine ⟨by decide, ?_⟩; omega) | omega), (by first | decide | (have h9_0 : (0 : Int32).toInt = 0 := (by decide); omega) | (refine ⟨by decide, ?_⟩; omega) | omega), (by omega), (by omega), (by have h8 := k_5_5; rw [show (0 : Int32).toInt = 0 by decide] at h8; omega), (by first | decide | (have h9_0 : (0 : Int32).toInt = 0 := (by decide); omega) | (refine ⟨by decide, ?_⟩; omega) | omega), (by first | decide | (have h9_0 : (0 : Int32).toInt = 0 := (by decide); omega) | (refine ⟨by decide, ?_⟩; omega) | omega), (by first | decide | (have h9_0 : (0 : Int32).toInt = 0 := (by decide); omega) | (refine ⟨by decide, ?_⟩; omega) | omega), (by first | decide | (have h9_0 : (0 : Int32).toInt = 0 := (by decide); omega) | (refine ⟨by decide, ?_⟩; omega) | omega)⟩) (Nat.le_of_ble_eq_true rfl) (Nat.le_of_ble_eq_true rfl) dX7_clear_29
set_option maxHeartbeats 4000000 in
set_option maxRecDepth 100000 in
theorem g9_readRow (l : Launch) (dC : Nat → ClassId) (dI : Nat → Nat → Nat) (cy : Nat → ClassId) (h0 : Nat) (t_bytes : Nat) (t_length : Int32) (t_end : Int32) (t_token : Int32) (t_start : Int32) (t_stop : Int32) (t_number : Int32) (t_fault : Int32) (t_faultAt : Int32) (t_bytesf : Nat → Int32) (h1 : Nat) (k_ground : Nat) (k_errs : Int32) (k_slips : Int32) (k_rows : Int32) (k_unsureCount : Int32) (k_unsure : Nat) (k_walkers : Int32) (k_names : Nat) (k_kinds : Nat) (k_starts : Nat) (k_goals : Nat) (k_walks : Int32) (k_walkStarts : Nat) (k_walkSteps : Nat) (k_walkFell : Nat) (k_ground_wide : Int32) (k_ground_deep : Int32) (k_ground_count : Int32) (k_ground_sorts : Nat) (k_ground_sortsf : Nat → Int32) (k_unsuref : Nat → Int32) (ht_length : 0 ≤ t_length.toInt ∧ t_length.toInt ≤ 800) (ht_end : 0 ≤ t_end.toInt ∧ t_end.toInt ≤ 800) (ht_start : 0 ≤ t_start.toInt ∧ t_start.toInt ≤ 800) (ht_stop : 0 ≤ t_stop.toInt ∧ t_stop.toInt ≤ 800) (hrel : t_start.toInt ≤ t_stop.toInt ∧ t_stop.toInt ≤ t_end.toInt) (hk_rows : 0 ≤ k_rows.toInt ∧ k_rows.toInt ≤ 4) (hk_unsureCount : 0 ≤ k_unsureCount.toInt ∧ k_unsureCount.toInt ≤ 5) (hk_walkers : 0 ≤ k_walkers.toInt ∧ k_walkers.toInt ≤ 4) (hk_walks : 0 ≤ k_walks.toInt ∧ k_walks.toInt ≤ 6) (hk_ground_wide : 0 ≤ k_ground_wide.toInt ∧ k_ground_wide.toInt ≤ 5) (hk_ground_deep : 0 ≤ k_ground_deep.toInt ∧ k_ground_deep.toInt ≤ 4) (hk_ground_count : 0 ≤ k_ground_count.toInt ∧ k_ground_count.toInt ≤ 20) : ctI l dC dI cy hp yX9_readRow cX9_readRow 5 .boolean ({ frames := 5, cells := 0, slots := 0, locals := 113 } : Room) [.ref h0, .ref h1] [(h0, .inr (8, [.ref t_bytes, .int t_length, .int t_end, .int t_token, .int t_start, .int t_stop, .int t_number, .int t_fault, .int t_faultAt])), (t_bytes, .inl (cy 0, 800, .inl t_bytesf)), (h1, .inr (7, [.ref k_ground, .int k_errs, .int k_slips, .int k_rows, .int k_unsureCount, .ref k_unsure, .int k_walkers, .ref k_names, .ref k_kinds, .ref k_starts, .ref k_goals, .int k_walks, .ref k_walkStarts, .ref k_walkSteps, .ref k_walkFell])), (k_ground, .inr (4, [.int k_ground_wide, .int k_ground_deep, .int k_ground_count, .ref k_ground_sorts])), (k_ground_sorts, .inl (cy 1, 20, .inl k_ground_sortsf)), (k_unsure, .inl (cy 1, 5, .inl k_unsuref))] (S := Int32 × Int32 × Int32 × Int32 × Int32 × (Nat → Int32) × (Nat → Int32) × Int32 × Int32) (fun r u => (0 ≤ r.toInt ∧ r.toInt ≤ 1) ∧ (0 ≤ u.2.1.toInt ∧ u.2.1.toInt ≤ 800) ∧ (0 ≤ u.2.2.1.toInt ∧ u.2.2.1.toInt ≤ 800) ∧ (0 ≤ u.2.2.2.2.2.2.2.1.toInt ∧ u.2.2.2.2.2.2.2.1.toInt ≤ 5) ∧ (0 ≤ u.2.2.2.2.2.2.2.2.toInt ∧ u.2.2.2.2.2.2.2.2.toInt ≤ 4) ∧ (u.2.1.toInt ≤ u.2.2.1.toInt ∧ u.2.2.1.toInt ≤ t_end.toInt) ∧ (qRw t_bytesf t_end.toInt k_ground_wide.toInt k_ground_deep.toInt k_rows.toInt k_unsureCount.toInt k_ground_count.toInt k_ground_sortsf k_unsuref t_token.toInt t_start.toInt t_stop.toInt r.toInt u.1.toInt u.2.1.toInt u.2.2.1.toInt u.2.2.2.1.toInt u.2.2.2.2.1.toInt u.2.2.2.2.2.2.2.2.toInt u.2.2.2.2.2.2.2.1.toInt u.2.2.2.2.2.1 u.2.2.2.2.2.2.1) ∧ (r.toInt ≠ 0 → u.2.2.2.1.toInt = t_fault.toInt)) (fun u => [(h0, .inr (8, [.ref t_bytes, .int t_length, .int t_end, .int u.1, .int u.2.1, .int u.2.2.1, .int t_number, .int u.2.2.2.1, .int u.2.2.2.2.1])), (t_bytes, .inl (cy 0, 800, .inl t_bytesf)), (h1, .inr (7, [.ref k_ground, .int k_errs, .int k_slips, .int u.2.2.2.2.2.2.2.2, .int u.2.2.2.2.2.2.2.1, .ref k_unsure, .int k_walkers, .ref k_names, .ref k_kinds, .ref k_starts, .ref k_goals, .int k_walks, .ref k_walkStarts, .ref k_walkSteps, .ref k_walkFell])), (k_ground, .inr (4, [.int k_ground_wide, .int k_ground_deep, .int k_ground_count, .ref k_ground_sorts])), (k_ground_sorts, .inl (cy 1, 20, .inl u.2.2.2.2.2.1)), (k_unsure, .inl (cy 1, 5, .inl u.2.2.2.2.2.2.1))]) := by
  refine ctI.of (by decide +kernel) (Nat.le_of_ble_eq_true rfl) ?_
  intro p e s m args below meth c A ls Q hQ X hr hlocks hin hA hP hD hS hl
  have hx := X.1
  have hb := X.2.1
  have hK := X.2.2.2.2.2.1
  have hl : lv_has ls 5 [(0, .ref h0), (1, .ref h1)] := hl
  refine lv_aload_n hx hb dX9_readRow_0 rfl (lv_at hl 1 rfl) ?_
  refine sl_Ic (rV_I (As := []) (rest := []) X hp_st (fun _ _ _ h => h) (sX7_isTold l dC dI cy h1 k_ground k_errs k_slips k_rows k_unsureCount k_unsure k_walkers k_names k_kinds k_starts k_goals k_walks k_walkStarts k_walkSteps k_walkFell k_ground_wide k_ground_deep k_ground_count k_ground_sorts k_ground_sortsf hk_rows hk_unsureCount hk_walkers hk_walks hk_ground_wide hk_ground_deep hk_ground_count) kX7_isTold vX7_isTold mX9_73 hP hD hS hA [2, 3, 4] (by decide) rfl 0 (ci := 7) rfl rfl rfl hl rfl rfl (Nat.le_of_ble_eq_true rfl) dX9_readRow_1 ⟨(Nat.le_of_ble_eq_true rfl), (Nat.le_of_ble_eq_true rfl)⟩ ⟨(Nat.le_of_ble_eq_true rfl), (Nat.le_of_ble_eq_true rfl)⟩) hP hD hS hA [2, 3, 4] [true, true, false, false, false, true] rfl rfl rfl (fun r_1 u_3 H locs k_2 hP hD hS => ?_)
  have k_2 : (0 ≤ r_1.toInt ∧ r_1.toInt ≤ 1) ∧ ((r_1.toInt = 1 ∧ 0 < k_ground_wide.toInt) ∨ (r_1.toInt = 0 ∧ k_ground_wide.toInt ≤ 0)) := k_2
  obtain ⟨k_2_0, k_2_1⟩ := k_2
  have hPD := vPD (ws' := [(h0, .inr (8, [.ref t_bytes, .int t_length, .int t_end, .int t_token, .int t_start, .int t_stop, .int t_number, .int t_fault, .int t_faultAt])), (t_bytes, .inl (cy 0, 800, .inl t_bytesf)), (k_unsure, .inl (cy 1, 5, .inl k_unsuref)), (h1, .inr (7, [.ref k_ground, .int k_errs, .int k_slips, .int k_rows, .int k_unsureCount, .ref k_unsure, .int k_walkers, .ref k_names, .ref k_kinds, .ref k_starts, .ref k_goals, .int k_walks, .ref k_walkStarts, .ref k_walkSteps, .ref k_walkFell])), (k_ground, .inr (4, [.int k_ground_wide, .int k_ground_deep, .int k_ground_count, .ref k_ground_sorts])), (k_ground_sorts, .inl (cy 1, 20, .inl k_ground_sortsf))]) hP hD rfl
  have hP := hPD.1
  have hD := hPD.2
  refine lv_if_ne (tgt := 14) hx hb dX9_readRow_4 (by decide) (fun h_4 => ?_) (fun h_4 => ?_)
  · have h_4 : r_1.toInt ≠ 0 := c_ne h_4
    refine lv_aload_n hx hb dX9_readRow_14 rfl (lv_at hl 1 rfl) ?_
    refine sl_Ic (rV_I (As := []) (rest := []) X hp_st (fun _ _ _ h => h) (sX7_hasAllRows l dC dI cy h1 k_ground k_errs k_slips k_rows k_unsureCount k_unsure k_walkers k_names k_kinds k_starts k_goals k_walks k_walkStarts k_walkSteps k_walkFell k_ground_wide k_ground_deep k_ground_count k_ground_sorts k_ground_sortsf hk_rows hk_unsureCount hk_walkers hk_walks hk_ground_wide hk_ground_deep hk_ground_count) kX7_hasAllRows vX7_hasAllRows mX9_69 hP hD hS hA [3, 4, 5] (by decide) rfl 0 (ci := 7) rfl rfl rfl hl rfl rfl (Nat.le_of_ble_eq_true rfl) dX9_readRow_15 ⟨(Nat.le_of_ble_eq_true rfl), (Nat.le_of_ble_eq_true rfl)⟩ ⟨(Nat.le_of_ble_eq_true rfl), (Nat.le_of_ble_eq_true rfl)⟩) hP hD hS hA [3, 4, 5] [true, true, true, false, false, false] rfl rfl rfl (fun r_5 u_7 H locs k_6 hP hD hS => ?_)
    have k_6 : (0 ≤ r_5.toInt ∧ r_5.toInt ≤ 1) ∧ ((r_5.toInt = 1 ∧ 0 < k_ground_wide.toInt ∧ k_ground_deep.toInt ≤ k_rows.toInt) ∨ (r_5.toInt = 0 ∧ (k_ground_wide.toInt ≤ 0 ∨ k_rows.toInt < k_ground_deep.toInt))) := k_6
    obtain ⟨k_6_0, k_6_1⟩ := k_6
    have hPD := vPD (ws' := [(h0, .inr (8, [.ref t_bytes, .int t_length, .int t_end, .int t_token, .int t_start, .int t_stop, .int t_number, .int t_fault, .int t_faultAt])), (t_bytes, .inl (cy 0, 800, .inl t_bytesf)), (k_unsure, .inl (cy 1, 5, .inl k_unsuref)), (h1, .inr (7, [.ref k_ground, .int k_errs, .int k_slips, .int k_rows, .int k_unsureCount, .ref k_unsure, .int k_walkers, .ref k_names, .ref k_kinds, .ref k_starts, .ref k_goals, .int k_walks, .ref k_walkStarts, .ref k_walkSteps, .ref k_walkFell])), (k_ground, .inr (4, [.int k_ground_wide, .int k_ground_deep, .int k_ground_count, .ref k_ground_sorts])), (k_ground_sorts, .inl (cy 1, 20, .inl k_ground_sortsf))]) hP hD rfl
    have hP := hPD.1
    have hD := hPD.2
    refine lv_if_eq (tgt := 27) hx hb dX9_readRow_18 (by decide) (fun h_8 => ?_) (fun h_8 => ?_)
    · have h_8 : r_5.toInt = 0 := c_eq h_8
      refine lv_aload_n hx hb dX9_readRow_27 rfl (lv_at hl 0 rfl) ?_
      refine sl_Vc (rV_V (As := []) (rest := []) X hp_st (fun _ _ _ h => h) (g9_next l dC dI cy h0 t_bytes t_length t_end t_token t_start t_stop t_number t_fault t_faultAt t_bytesf ht_length ht_end ht_stop (by omega)) kX9_next vX9_next mX9_42 hP hD hS hA [0, 1] (by decide) rfl 0 (ci := 8) rfl rfl rfl hl rfl rfl (Nat.le_of_ble_eq_true rfl) dX9_readRow_28 ⟨(Nat.le_of_ble_eq_true rfl), (Nat.le_of_ble_eq_true rfl)⟩ ⟨(Nat.le_of_ble_eq_true rfl), (Nat.le_of_ble_eq_true rfl)⟩) hP hD hS hA [0, 1] [false, false, true, true, true, true] rfl rfl rfl (fun u_14 H locs k_13 hP hD hS => ?_)
      obtain ⟨t_token1_9, t_start1_10, t_stop1_11⟩ := u_14
      have k_13 : (0 ≤ t_stop1_11.toInt ∧ t_stop1_11.toInt ≤ 800) ∧ (0 ≤ t_start1_10.toInt ∧ t_start1_10.toInt ≤ 800) ∧ (t_start1_10.toInt ≤ t_stop1_11.toInt ∧ t_stop1_11.toInt ≤ t_end.toInt) ∧ (t_stop.toInt ≤ t_start1_10.toInt) ∧ (LkC t_bytesf t_end.toInt t_stop.toInt t_token1_9.toInt t_start1_10.toInt t_stop1_11.toInt) := k_13
      obtain ⟨k_13_0, k_13_1, k_13_2, k_13_3, k_13_4⟩ := k_13
      have hPD := vPD (ws' := [(k_unsure, .inl (cy 1, 5, .inl k_unsuref)), (h1, .inr (7, [.ref k_ground, .int k_errs, .int k_slips, .int k_rows, .int k_unsureCount, .ref k_unsure, .int k_walkers, .ref k_names, .ref k_kinds, .ref k_starts, .ref k_goals, .int k_walks, .ref k_walkStarts, .ref k_walkSteps, .ref k_walkFell])), (k_ground, .inr (4, [.int k_ground_wide, .int k_ground_deep, .int k_ground_count, .ref k_ground_sorts])), (k_ground_sorts, .inl (cy 1, 20, .inl k_ground_sortsf)), (h0, .inr (8, [.ref t_bytes, .int t_length, .int t_end, .int t_token1_9, .int t_start1_10, .int t_stop1_11, .int t_number, .int t_fault, .int t_faultAt])), (t_bytes, .inl (cy 0, 800, .inl t_bytesf))]) hP hD rfl
      have hP := hPD.1
      have hD := hPD.2
      refine lv_aload_n hx hb dX9_readRow_31 rfl (lv_at hl 0 rfl) ?_
      refine lv_aload_n hx hb dX9_readRow_32 rfl (lv_at hl 1 rfl) ?_
      refine r_get X kcX7 (ci := 7) rfl hP 1 rfl 0 (by decide) fX9_99 rfl dX9_readRow_33 ?_
      refine r_get X kcX4 (ci := 4) rfl hP 2 rfl 0 (by decide) fX9_109 rfl dX9_readRow_36 ?_
      refine sl_Ic (rV_I (As := [.int k_ground_wide]) (rest := []) X hp_st (fun _ _ _ h => h) (g9_isRow l dC dI cy h0 t_bytes t_length t_end t_token1_9 t_start1_10 t_stop1_11 t_number t_fault t_faultAt t_bytesf k_ground_wide ht_length ht_end k_13_1 k_13_0 k_13_2 hk_ground_wide) kX9_isRow vX9_isRow mX9_111 hP hD hS hA [4, 5] (by decide) rfl 0 (ci := 8) rfl rfl rfl hl rfl rfl (Nat.le_of_ble_eq_true rfl) dX9_readRow_39 ⟨(Nat.le_of_ble_eq_true rfl), (Nat.le_of_ble_eq_true rfl)⟩ ⟨(Nat.le_of_ble_eq_true rfl), (Nat.le_of_ble_eq_true rfl)⟩) hP hD hS hA [4, 5] [true, true, true, true, false, false] rfl rfl rfl (fun r_15 u_17 H locs k_16 hP hD hS => ?_)
      have k_16 : (0 ≤ r_15.toInt ∧ r_15.toInt ≤ 1) ∧ ((r_15.toInt = 1 ∧ t_stop1_11.toInt - t_start1_10.toInt = k_ground_wide.toInt) ∨ r_15.toInt = 0) ∧ (irP t_bytesf t_token1_9.toInt t_start1_10.toInt t_stop1_11.toInt k_ground_wide.toInt r_15.toInt) := k_16
      obtain ⟨k_16_0, k_16_1, k_16_2⟩ := k_16
      have hPD := vPD (ws' := [(k_unsure, .inl (cy 1, 5, .inl k_unsuref)), (h1, .inr (7, [.ref k_ground, .int k_errs, .int k_slips, .int k_rows, .int k_unsureCount, .ref k_unsure, .int k_walkers, .ref k_names, .ref k_kinds, .ref k_starts, .ref k_goals, .int k_walks, .ref k_walkStarts, .ref k_walkSteps, .ref k_walkFell])), (k_ground, .inr (4, [.int k_ground_wide, .int k_ground_deep, .int k_ground_count, .ref k_ground_sorts])), (k_ground_sorts, .inl (cy 1, 20, .inl k_ground_sortsf)), (h0, .inr (8, [.ref t_bytes, .int t_length, .int t_end, .int t_token1_9, .int t_start1_10, .int t_stop1_11, .int t_number, .int t_fault, .int t_faultAt])), (t_bytes, .inl (cy 0, 800, .inl t_bytesf))]) hP hD rfl
      have hP := hPD.1
      have hD := hPD.2
      refine lv_if_ne (tgt := 51) hx hb dX9_readRow_42 (by decide) (fun h_18 => ?_) (fun h_18 => ?_)
      · have h_18 : r_15.toInt ≠ 0 := c_ne h_18
        refine lv_aload_n hx hb dX9_readRow_51 rfl (lv_at hl 1 rfl) ?_
        refine r_get X kcX7 (ci := 7) rfl hP 1 rfl 3 (by decide) fX9_114 rfl dX9_readRow_52 ?_
        refine lv_aload_n hx hb dX9_readRow_55 rfl (lv_at hl 1 rfl) ?_
        refine r_get X kcX7 (ci := 7) rfl hP 1 rfl 0 (by decide) fX9_99 rfl dX9_readRow_56 ?_
        refine r_get X kcX4 (ci := 4) rfl hP 2 rfl 0 (by decide) fX9_109 rfl dX9_readRow_59 ?_
        refine lv_imul hx hb dX9_readRow_62 ?_
        refine lv_topi (fun x_19 ex_19 => ?_)
        have tx_19 : x_19.toInt = k_rows.toInt * k_ground_wide.toInt ∧ 0 ≤ k_rows.toInt * k_ground_wide.toInt ∧ k_rows.toInt * k_ground_wide.toInt ≤ 20 := ti_mulq (A := 4) (B := 5) ex_19 (by omega) (by omega) (by omega) (by omega) (by decide)
        refine lv_istore_n (lv' := [(2, .int x_19), (0, .ref h0), (1, .ref h1)]) hx hb dX9_readRow_63 rfl hl (by decide) rfl (fun ls hl => ?_)
        refine lv_iconst (v := 0) hx hb dX9_readRow_64 (by decide) ?_
        refine lv_istore_n (lv' := [(3, .int 0), (2, .int x_19), (0, .ref h0), (1, .ref h1)]) hx hb dX9_readRow_65 rfl hl (by decide) rfl (fun ls hl => ?_)
        have lp_20 : ∀ (nlp_20 : Nat) (i_21 : Int32) (f_23 : Nat → Int32) (f_24 : Nat → Int32) (i_25 : Int32) (H : Heap) (locs : List Loc) (ls : Array Slot), (0 ≤ i_21.toInt ∧ i_21.toInt ≤ 5) → (0 ≤ i_25.toInt ∧ i_25.toInt ≤ 5) → (rwA t_bytesf t_start1_10.toInt t_stop1_11.toInt → i_25.toInt = k_unsureCount.toInt + cu t_bytesf (Int.toNat t_start1_10.toInt) (Int.toNat i_21.toInt)) → (k_ground_count.toInt = k_ground_wide.toInt * k_ground_deep.toInt → rwA t_bytesf t_start1_10.toInt t_stop1_11.toInt → rwN t_bytesf t_start1_10.toInt x_19.toInt i_21.toInt k_ground_sortsf f_24) → (rwA t_bytesf t_start1_10.toInt t_stop1_11.toInt → f_23 = uU t_bytesf t_start1_10.toInt x_19.toInt k_unsuref k_unsureCount.toInt (Int.toNat i_21.toInt)) → (i_21.toInt ≤ k_ground_wide.toInt) → (6 - i_21.toInt ≤ (nlp_20 : Int)) → va_P (dC, dI) vwCl [(k_unsure, .inl (cy 1, 5, .inl f_23)), (h1, .inr (7, [.ref k_ground, .int k_errs, .int k_slips, .int k_rows, .int i_25, .ref k_unsure, .int k_walkers, .ref k_names, .ref k_kinds, .ref k_starts, .ref k_goals, .int k_walks, .ref k_walkStarts, .ref k_walkSteps, .ref k_walkFell])), (k_ground, .inr (4, [.int k_ground_wide, .int k_ground_deep, .int k_ground_count, .ref k_ground_sorts])), (k_ground_sorts, .inl (cy 1, 20, .inl f_24)), (h0, .inr (8, [.ref t_bytes, .int t_length, .int t_end, .int t_token1_9, .int t_start1_10, .int t_stop1_11, .int t_number, .int t_fault, .int t_faultAt])), (t_bytes, .inl (cy 0, 800, .inl t_bytesf))] H → va_D A [(k_unsure, .inl (cy 1, 5, .inl f_23)), (h1, .inr (7, [.ref k_ground, .int k_errs, .int k_slips, .int k_rows, .int i_25, .ref k_unsure, .int k_walkers, .ref k_names, .ref k_kinds, .ref k_starts, .ref k_goals, .int k_walks, .ref k_walkStarts, .ref k_walkSteps, .ref k_walkFell])), (k_ground, .inr (4, [.int k_ground_wide, .int k_ground_deep, .int k_ground_count, .ref k_ground_sorts])), (k_ground_sorts, .inl (cy 1, 20, .inl f_24)), (h0, .inr (8, [.ref t_bytes, .int t_length, .int t_end, .int t_token1_9, .int t_start1_10, .int t_stop1_11, .int t_number, .int t_fault, .int t_faultAt])), (t_bytes, .inl (cy 0, 800, .inl t_bytesf))] → va_S A s.heap H locs → lv_has ls 5 [(3, .int i_21), (2, .int x_19), (0, .ref h0), (1, .ref h1)] → W p l e ({ frames := 5, cells := 0, slots := 0, locals := 113 } : Room) s m args below meth c H locs 0 0 Q (F0 m 66 ls []) := by
          intro nlp_20
          induction nlp_20 with
          | zero =>
            intro i_21 f_23 f_24 i_25 H locs ls b_22 b_26 b_27 b_28 b_29 b_30 hmlp_20 hP hD hS hl
            exfalso
            have di_21 := ti_bd i_21
            have di_25 := ti_bd i_25
            omega
          | succ nlp_20 ihlp_20 =>
            intro i_21 f_23 f_24 i_25 H locs ls b_22 b_26 b_27 b_28 b_29 b_30 hmlp_20 hP hD hS hl
            refine lv_iload_n hx hb dX9_readRow_66 rfl (lv_at hl 0 rfl) ?_
            refine lv_aload_n hx hb dX9_readRow_67 rfl (lv_at hl 3 rfl) ?_
            refine r_get X kcX7 (ci := 7) rfl hP 1 rfl 0 (by decide) fX9_99 rfl dX9_readRow_68 ?_
            refine r_get X kcX4 (ci := 4) rfl hP 2 rfl 0 (by decide) fX9_109 rfl dX9_readRow_71 ?_
            refine lv_icmp_ge (tgt := 159) hx hb dX9_readRow_74 (by decide) (fun h_31 => ?_) (fun h_31 => ?_)
            · have h_31 : k_ground_wide.toInt ≤ i_21.toInt := c_le h_31
              refine lv_aload_n hx hb dX9_readRow_159 rfl (lv_at hl 3 rfl) ?_
              refine lv_dup hx hb dX9_readRow_160 rfl ?_
              refine r_get X kcX7 (ci := 7) rfl hP 1 rfl 3 (by decide) fX9_114 rfl dX9_readRow_161 ?_
              refine lv_iconst (v := 1) hx hb dX9_readRow_164 (by decide) ?_
              refine lv_iadd hx hb dX9_readRow_165 ?_
              refine lv_topi (fun x_32 ex_32 => ?_)
              have tx_32 : x_32.toInt = k_rows.toInt + 1 := ti_add (A := k_rows.toInt) (B := 1) ex_32 rfl rfl (by omega) (by omega)
              refine r_put X kcX7 (ci := 7) rfl hP hD hS 1 rfl 3 (by decide) fX9_114 rfl rfl rfl (Nat.le_of_ble_eq_true rfl) dX9_readRow_166 (fun H locs hP hD hS => ?_)
              have hPD := vPD (ws' := [(k_unsure, .inl (cy 1, 5, .inl f_23)), (h1, .inr (7, [.ref k_ground, .int k_errs, .int k_slips, .int x_32, .int i_25, .ref k_unsure, .int k_walkers, .ref k_names, .ref k_kinds, .ref k_starts, .ref k_goals, .int k_walks, .ref k_walkStarts, .ref k_walkSteps, .ref k_walkFell])), (k_ground, .inr (4, [.int k_ground_wide, .int k_ground_deep, .int k_ground_count, .ref k_ground_sorts])), (k_ground_sorts, .inl (cy 1, 20, .inl f_24)), (h0, .inr (8, [.ref t_bytes, .int t_length, .int t_end, .int t_token1_9, .int t_start1_10, .int t_stop1_11, .int t_number, .int t_fault, .int t_faultAt])), (t_bytes, .inl (cy 0, 800, .inl t_bytesf))]) hP hD rfl
              have hP := hPD.1
              have hD := hPD.2
              refine lv_aload_n hx hb dX9_readRow_169 rfl (lv_at hl 2 rfl) ?_
              refine sl_Vc (rV_V (As := []) (rest := []) X hp_st (fun _ _ _ h => h) (g9_next l dC dI cy h0 t_bytes t_length t_end t_token1_9 t_start1_10 t_stop1_11 t_number t_fault t_faultAt t_bytesf ht_length ht_end k_13_0 (by omega)) kX9_next vX9_next mX9_42 hP hD hS hA [4, 5] (by decide) rfl 0 (ci := 8) rfl rfl rfl hl rfl rfl (Nat.le_of_ble_eq_true rfl) dX9_readRow_170 ⟨(Nat.le_of_ble_eq_true rfl), (Nat.le_of_ble_eq_true rfl)⟩ ⟨(Nat.le_of_ble_eq_true rfl), (Nat.le_of_ble_eq_true rfl)⟩) hP hD hS hA [4, 5] [true, true, true, true, false, false] rfl rfl rfl (fun u_38 H locs k_37 hP hD hS => ?_)
              obtain ⟨t_token1_33, t_start1_34, t_stop1_35⟩ := u_38
              have k_37 : (0 ≤ t_stop1_35.toInt ∧ t_stop1_35.toInt ≤ 800) ∧ (0 ≤ t_start1_34.toInt ∧ t_start1_34.toInt ≤ 800) ∧ (t_start1_34.toInt ≤ t_stop1_35.toInt ∧ t_stop1_35.toInt ≤ t_end.toInt) ∧ (t_stop1_11.toInt ≤ t_start1_34.toInt) ∧ (LkC t_bytesf t_end.toInt t_stop1_11.toInt t_token1_33.toInt t_start1_34.toInt t_stop1_35.toInt) := k_37
              obtain ⟨k_37_0, k_37_1, k_37_2, k_37_3, k_37_4⟩ := k_37
              have hPD := vPD (ws' := [(k_unsure, .inl (cy 1, 5, .inl f_23)), (h1, .inr (7, [.ref k_ground, .int k_errs, .int k_slips, .int x_32, .int i_25, .ref k_unsure, .int k_walkers, .ref k_names, .ref k_kinds, .ref k_starts, .ref k_goals, .int k_walks, .ref k_walkStarts, .ref k_walkSteps, .ref k_walkFell])), (k_ground, .inr (4, [.int k_ground_wide, .int k_ground_deep, .int k_ground_count, .ref k_ground_sorts])), (k_ground_sorts, .inl (cy 1, 20, .inl f_24)), (h0, .inr (8, [.ref t_bytes, .int t_length, .int t_end, .int t_token1_33, .int t_start1_34, .int t_stop1_35, .int t_number, .int t_fault, .int t_faultAt])), (t_bytes, .inl (cy 0, 800, .inl t_bytesf))]) hP hD rfl
              have hP := hPD.1
              have hD := hPD.2
              refine lv_iconst (v := 1) hx hb dX9_readRow_173 (by decide) ?_
              exact eI hQ X hr hlocks hP hD hS (t_token1_33, t_start1_34, t_stop1_35, t_fault, t_faultAt, f_24, f_23, i_25, x_32) [4, 5, 1, 2, 3, 0] (by decide) rfl rfl (show (0 ≤ (1 : Int32).toInt ∧ (1 : Int32).toInt ≤ 1) ∧ (0 ≤ t_start1_34.toInt ∧ t_start1_34.toInt ≤ 800) ∧ (0 ≤ t_stop1_35.toInt ∧ t_stop1_35.toInt ≤ 800) ∧ (0 ≤ i_25.toInt ∧ i_25.toInt ≤ 5) ∧ (0 ≤ x_32.toInt ∧ x_32.toInt ≤ 4) ∧ (t_start1_34.toInt ≤ t_stop1_35.toInt ∧ t_stop1_35.toInt ≤ t_end.toInt) ∧ (qRw t_bytesf t_end.toInt k_ground_wide.toInt k_ground_deep.toInt k_rows.toInt k_unsureCount.toInt k_ground_count.toInt k_ground_sortsf k_unsuref t_token.toInt t_start.toInt t_stop.toInt (1 : Int32).toInt t_token1_33.toInt t_start1_34.toInt t_stop1_35.toInt t_fault.toInt t_faultAt.toInt x_32.toInt i_25.toInt f_24 f_23) ∧ ((1 : Int32).toInt ≠ 0 → t_fault.toInt = t_fault.toInt) from ⟨(by first | decide | (have h9_0 : (1 : Int32).toInt = 1 := (by decide); omega) | (refine ⟨by decide, ?_⟩; omega) | omega), k_37_1, k_37_0, b_26, (by omega), k_37_2, (qRw_y (i := i_21.toInt) (by omega) (by omega) k_13_4 k_16_2 (by omega) b_27 (by omega) b_28 (by have h6 := Int.mul_comm k_rows.toInt k_ground_wide.toInt; omega) (by omega) b_29 k_37_4 (by decide) (by omega)), (by first | decide | (have h9_0 : (1 : Int32).toInt = 1 := (by decide); omega) | (refine ⟨by decide, ?_⟩; omega) | omega)⟩) (Nat.le_of_ble_eq_true rfl) (Nat.le_of_ble_eq_true rfl) dX9_readRow_174
            · have h_31 : i_21.toInt < k_ground_wide.toInt := c_nle h_31
              obtain ⟨q_39, v_40, hq_39, hv_40⟩ := X.2.2.2.2.2.2.2.2.2.2 ("HahaLawn$Tape", 117, "odghu") (List.mem_of_getElem? (i := 8) rfl)
              refine va_ldcS hx hb X.2.2.2.1 hq_39 dX9_readRow_77 ?_
              refine lv_aload_n hx hb dX9_readRow_79 rfl (lv_at hl 2 rfl) ?_
              refine r_get X kcX9 (ci := 8) rfl hP 4 rfl 0 (by decide) fX9_11 rfl dX9_readRow_80 ?_
              refine lv_aload_n hx hb dX9_readRow_83 rfl (lv_at hl 2 rfl) ?_
              refine r_get X kcX9 (ci := 8) rfl hP 4 rfl 4 (by decide) fX9_119 rfl dX9_readRow_84 ?_
              refine lv_iload_n hx hb dX9_readRow_87 rfl (lv_at hl 0 rfl) ?_
              refine lv_iadd hx hb dX9_readRow_88 ?_
              refine lv_topi (fun x_41 ex_41 => ?_)
              have tx_41 : x_41.toInt = t_start1_10.toInt + i_21.toInt := ti_add (A := t_start1_10.toInt) (B := i_21.toInt) ex_41 rfl rfl (by omega) (by omega)
              refine va_bald (D := (dC, dI)) (cl := vwCl) hx hb hK hP 5 0 rfl rfl (i := x_41) (vin (by omega) (by omega)) dX9_readRow_89 ?_
              refine lv_topi (fun x_42 ex_42 => ?_)
              obtain ⟨x_43, ex_43⟩ : ∃ y : Int32, (x_42.toUInt32 % 65536).toInt32 = y := ⟨_, rfl⟩
              refine lv_i2c hx hb dX9_readRow_90 ex_43 ?_
              refine sl_Ic (rVo_I (wc := []) (As := [.int x_43]) (rest := []) X (andX_st hp_st (sO_st q_39 v_40 5 (txB "odghu"))) ⟨X.2.2.2.2.2.2.2, hv_40⟩ (gJ0_indexOf l dC dI cy q_39 v_40 5 (txB "odghu") x_43 (by first | decide | omega)) kJ0_indexOf_0f7a4 vJ0_indexOf_0f7a4 mX9_122 hP hD hS hA [] rfl rfl hv_40.1 hl rfl rfl (Nat.le_of_ble_eq_true rfl) dX9_readRow_91 ⟨(Nat.le_of_ble_eq_true rfl), (Nat.le_of_ble_eq_true rfl)⟩ ⟨(Nat.le_of_ble_eq_true rfl), (Nat.le_of_ble_eq_true rfl)⟩) hP hD hS hA [] [true, true, true, true, true, true] rfl rfl rfl (fun r_44 u_46 H locs k_45 hP hD hS => ?_)
              have k_45 : ((-1) ≤ r_44.toInt ∧ r_44.toInt ≤ 999) ∧ (r_44.toInt < (5 : Int)) ∧ (ixP (txB "odghu") 5 x_43.toInt r_44.toInt) := k_45
              obtain ⟨k_45_0, k_45_1, k_45_2⟩ := k_45
              have hPD := vPD (ws' := [(k_unsure, .inl (cy 1, 5, .inl f_23)), (h1, .inr (7, [.ref k_ground, .int k_errs, .int k_slips, .int k_rows, .int i_25, .ref k_unsure, .int k_walkers, .ref k_names, .ref k_kinds, .ref k_starts, .ref k_goals, .int k_walks, .ref k_walkStarts, .ref k_walkSteps, .ref k_walkFell])), (k_ground, .inr (4, [.int k_ground_wide, .int k_ground_deep, .int k_ground_count, .ref k_ground_sorts])), (k_ground_sorts, .inl (cy 1, 20, .inl f_24)), (h0, .inr (8, [.ref t_bytes, .int t_length, .int t_end, .int t_token1_9, .int t_start1_10, .int t_stop1_11, .int t_number, .int t_fault, .int t_faultAt])), (t_bytes, .inl (cy 0, 800, .inl t_bytesf))]) hP hD rfl
              have hP := hPD.1
              have hD := hPD.2
              refine lv_istore (lv' := [(4, .int r_44), (3, .int i_21), (2, .int x_19), (0, .ref h0), (1, .ref h1)]) hx hb dX9_readRow_94 hl (by decide) rfl (fun ls hl => ?_)
              refine lv_iload hx hb dX9_readRow_96 (lv_at hl 0 rfl) ?_
              refine lv_iconst (v := 3) hx hb dX9_readRow_98 (by decide) ?_
              refine lv_icmp_le (tgt := 141) hx hb dX9_readRow_99 (by decide) (fun h_47 => ?_) (fun h_47 => ?_)
              · have h_47 : r_44.toInt ≤ 3 := c_le h_47
                refine lv_aload_n hx hb dX9_readRow_141 rfl (lv_at hl 4 rfl) ?_
                refine r_get X kcX7 (ci := 7) rfl hP 1 rfl 0 (by decide) fX9_99 rfl dX9_readRow_142 ?_
                refine lv_iload_n hx hb dX9_readRow_145 rfl (lv_at hl 2 rfl) ?_
                refine lv_iload_n hx hb dX9_readRow_146 rfl (lv_at hl 1 rfl) ?_
                refine lv_iadd hx hb dX9_readRow_147 ?_
                refine lv_topi (fun x_48 ex_48 => ?_)
                have tx_48 : x_48.toInt = x_19.toInt + i_21.toInt := ti_add (A := x_19.toInt) (B := i_21.toInt) ex_48 rfl rfl (by omega) (by omega)
                refine lv_iload hx hb dX9_readRow_148 (lv_at hl 0 rfl) ?_
                refine sl_Vc (rV_V (As := [.int x_48, .int r_44]) (rest := []) X hp_st (fun _ _ _ h => h) (g4_put l dC dI cy k_ground k_ground_wide k_ground_deep k_ground_count k_ground_sorts f_24 x_48 r_44 hk_ground_wide hk_ground_deep hk_ground_count) kX4_put vX4_put mX9_135 hP hD hS hA [2, 3] (by decide) rfl 0 (ci := 4) rfl rfl rfl hl rfl rfl (Nat.le_of_ble_eq_true rfl) dX9_readRow_150 ⟨(Nat.le_of_ble_eq_true rfl), (Nat.le_of_ble_eq_true rfl)⟩ ⟨(Nat.le_of_ble_eq_true rfl), (Nat.le_of_ble_eq_true rfl)⟩) hP hD hS hA [2, 3] [true, true, false, false, true, true] rfl rfl rfl (fun u_52 H locs k_51 hP hD hS => ?_)
                obtain ⟨g_sortsf1_49, eu_52⟩ : ∃ z, z = u_52 := ⟨_, rfl⟩
                subst eu_52
                have k_51 : (ptP k_ground_count.toInt f_24 g_sortsf1_49 x_48.toInt r_44) := k_51
                have hPD := vPD (ws' := [(k_unsure, .inl (cy 1, 5, .inl f_23)), (h1, .inr (7, [.ref k_ground, .int k_errs, .int k_slips, .int k_rows, .int i_25, .ref k_unsure, .int k_walkers, .ref k_names, .ref k_kinds, .ref k_starts, .ref k_goals, .int k_walks, .ref k_walkStarts, .ref k_walkSteps, .ref k_walkFell])), (h0, .inr (8, [.ref t_bytes, .int t_length, .int t_end, .int t_token1_9, .int t_start1_10, .int t_stop1_11, .int t_number, .int t_fault, .int t_faultAt])), (t_bytes, .inl (cy 0, 800, .inl t_bytesf)), (k_ground, .inr (4, [.int k_ground_wide, .int k_ground_deep, .int k_ground_count, .ref k_ground_sorts])), (k_ground_sorts, .inl (cy 1, 20, .inl g_sortsf1_49))]) hP hD rfl
                have hP := hPD.1
                have hD := hPD.2
                obtain ⟨x_53, ex_53⟩ : ∃ y : Int32, y = i_21 + 1 := ⟨_, rfl⟩
                have tx_53 : x_53.toInt = i_21.toInt + 1 := ti_add (A := i_21.toInt) (B := 1) ex_53 rfl rfl (by omega) (by omega)
                refine lv_iinc (v := x_53) (lv' := [(3, .int x_53), (4, .int r_44), (2, .int x_19), (0, .ref h0), (1, .ref h1)]) hx hb dX9_readRow_153 hl (k := 1) rfl (by rw [ex_53]; rfl) (by decide) rfl (fun ls hl => ?_)
                refine lv_goto (tgt := 66) hx hb dX9_readRow_156 (by decide) ?_
                exact ihlp_20 x_53 f_23 g_sortsf1_49 i_25 _ _ _ (by omega) (by omega) (show rwA t_bytesf t_start1_10.toInt t_stop1_11.toInt → i_25.toInt = k_unsureCount.toInt + cu t_bytesf (Int.toNat t_start1_10.toInt) (Int.toNat x_53.toInt) from (fun hA => by have q1 := (rl_n (st := t_start1_10.toInt) (sp := t_stop1_11.toInt) (i := i_21.toInt) (i' := x_53.toInt) hA (by omega) (by omega) (by omega) (by omega) ex_42 ex_43 k_45_2 (by omega) (by omega)).1; have q2 := b_27 hA; omega)) (show k_ground_count.toInt = k_ground_wide.toInt * k_ground_deep.toInt → rwA t_bytesf t_start1_10.toInt t_stop1_11.toInt → rwN t_bytesf t_start1_10.toInt x_19.toInt x_53.toInt k_ground_sortsf g_sortsf1_49 from (fun hc hA => rwN_up (b_28 hc hA) (by omega) (by omega) (show x_48.toInt = x_19.toInt + i_21.toInt by omega) (k_51 (by omega) (by have h6 := Int.mul_comm k_rows.toInt k_ground_wide.toInt; have h7 := cell_lt (w := k_ground_wide.toInt) (d := k_ground_deep.toInt) (r := k_rows.toInt) (c := i_21.toInt) (by omega) (by omega) (by omega); omega)) (rl_n (st := t_start1_10.toInt) (sp := t_stop1_11.toInt) (i := i_21.toInt) (i' := x_53.toInt) hA (by omega) (by omega) (by omega) (by omega) ex_42 ex_43 k_45_2 (by omega) (by omega)).2.symm (by omega))) (show rwA t_bytesf t_start1_10.toInt t_stop1_11.toInt → f_23 = uU t_bytesf t_start1_10.toInt x_19.toInt k_unsuref k_unsureCount.toInt (Int.toNat x_53.toInt) from (fun hA => uU_wn (i := i_21.toInt) (b_29 hA) (by omega) (rl_nc (st := t_start1_10.toInt) (sp := t_stop1_11.toInt) (i := i_21.toInt) (i' := x_53.toInt) hA (by omega) (by omega) (by omega) (by omega) ex_42 ex_43 k_45_2 (by omega) (by omega)) (by omega))) (show x_53.toInt ≤ k_ground_wide.toInt by omega) (show 6 - x_53.toInt ≤ (nlp_20 : Int) by omega) (hP.sub [0, 1, 4, 5, 2, 3] rfl) (hD.sub [0, 1, 4, 5, 2, 3] (by decide) rfl) hS (lv_sub hl [0, 2, 3, 4] rfl)
              · have h_47 : 3 < r_44.toInt := c_nle h_47
                refine lv_aload_n hx hb dX9_readRow_102 rfl (lv_at hl 4 rfl) ?_
                refine r_get X kcX7 (ci := 7) rfl hP 1 rfl 4 (by decide) fX9_128 rfl dX9_readRow_103 ?_
                refine lv_iconst (v := 5) hx hb dX9_readRow_106 (by decide) ?_
                refine lv_icmp_ne (tgt := 116) hx hb dX9_readRow_107 (by decide) (fun h_54 => ?_) (fun h_54 => ?_)
                · have h_54 : i_25.toInt ≠ 5 := c_ne h_54
                  refine lv_aload_n hx hb dX9_readRow_116 rfl (lv_at hl 4 rfl) ?_
                  refine r_get X kcX7 (ci := 7) rfl hP 1 rfl 5 (by decide) fX9_131 rfl dX9_readRow_117 ?_
                  refine lv_aload_n hx hb dX9_readRow_120 rfl (lv_at hl 4 rfl) ?_
                  refine r_get X kcX7 (ci := 7) rfl hP 1 rfl 4 (by decide) fX9_128 rfl dX9_readRow_121 ?_
                  refine lv_iload_n hx hb dX9_readRow_124 rfl (lv_at hl 2 rfl) ?_
                  refine lv_iload_n hx hb dX9_readRow_125 rfl (lv_at hl 1 rfl) ?_
                  refine lv_iadd hx hb dX9_readRow_126 ?_
                  refine lv_topi (fun x_55 ex_55 => ?_)
                  have tx_55 : x_55.toInt = x_19.toInt + i_21.toInt := ti_add (A := x_19.toInt) (B := i_21.toInt) ex_55 rfl rfl (by omega) (by omega)
                  refine va_iast (D := (dC, dI)) (cl := vwCl) hx hb hK hP hD hS 0 1 rfl rfl (i := i_25) (vin (by omega) (by omega)) dX9_readRow_127 (fun H locs hP hD hS => ?_)
                  generalize ef_56 : upd f_23 (Int32.toNatClampNeg i_25) x_55 = f_56 at hP hD
                  have hPD := vPD (ws' := [(k_unsure, .inl (cy 1, 5, .inl f_56)), (h1, .inr (7, [.ref k_ground, .int k_errs, .int k_slips, .int k_rows, .int i_25, .ref k_unsure, .int k_walkers, .ref k_names, .ref k_kinds, .ref k_starts, .ref k_goals, .int k_walks, .ref k_walkStarts, .ref k_walkSteps, .ref k_walkFell])), (k_ground, .inr (4, [.int k_ground_wide, .int k_ground_deep, .int k_ground_count, .ref k_ground_sorts])), (k_ground_sorts, .inl (cy 1, 20, .inl f_24)), (h0, .inr (8, [.ref t_bytes, .int t_length, .int t_end, .int t_token1_9, .int t_start1_10, .int t_stop1_11, .int t_number, .int t_fault, .int t_faultAt])), (t_bytes, .inl (cy 0, 800, .inl t_bytesf))]) hP hD rfl
                  have hP := hPD.1
                  have hD := hPD.2
                  refine lv_aload_n hx hb dX9_readRow_128 rfl (lv_at hl 4 rfl) ?_
                  refine lv_dup hx hb dX9_readRow_129 rfl ?_
                  refine r_get X kcX7 (ci := 7) rfl hP 1 rfl 4 (by decide) fX9_128 rfl dX9_readRow_130 ?_
                  refine lv_iconst (v := 1) hx hb dX9_readRow_133 (by decide) ?_
                  refine lv_iadd hx hb dX9_readRow_134 ?_
                  refine lv_topi (fun x_57 ex_57 => ?_)
                  have tx_57 : x_57.toInt = i_25.toInt + 1 := ti_add (A := i_25.toInt) (B := 1) ex_57 rfl rfl (by omega) (by omega)
                  refine r_put X kcX7 (ci := 7) rfl hP hD hS 1 rfl 4 (by decide) fX9_128 rfl rfl rfl (Nat.le_of_ble_eq_true rfl) dX9_readRow_135 (fun H locs hP hD hS => ?_)
                  have hPD := vPD (ws' := [(k_unsure, .inl (cy 1, 5, .inl f_56)), (h1, .inr (7, [.ref k_ground, .int k_errs, .int k_slips, .int k_rows, .int x_57, .ref k_unsure, .int k_walkers, .ref k_names, .ref k_kinds, .ref k_starts, .ref k_goals, .int k_walks, .ref k_walkStarts, .ref k_walkSteps, .ref k_walkFell])), (k_ground, .inr (4, [.int k_ground_wide, .int k_ground_deep, .int k_ground_count, .ref k_ground_sorts])), (k_ground_sorts, .inl (cy 1, 20, .inl f_24)), (h0, .inr (8, [.ref t_bytes, .int t_length, .int t_end, .int t_token1_9, .int t_start1_10, .int t_stop1_11, .int t_number, .int t_fault, .int t_faultAt])), (t_bytes, .inl (cy 0, 800, .inl t_bytesf))]) hP hD rfl
                  have hP := hPD.1
                  have hD := hPD.2
                  refine lv_iconst (v := 0) hx hb dX9_readRow_138 (by decide) ?_
                  refine lv_istore (lv' := [(4, .int 0), (3, .int i_21), (2, .int x_19), (0, .ref h0), (1, .ref h1)]) hx hb dX9_readRow_139 hl (by decide) rfl (fun ls hl => ?_)
                  refine lv_aload_n hx hb dX9_readRow_141 rfl (lv_at hl 4 rfl) ?_
                  refine r_get X kcX7 (ci := 7) rfl hP 1 rfl 0 (by decide) fX9_99 rfl dX9_readRow_142 ?_
                  refine lv_iload_n hx hb dX9_readRow_145 rfl (lv_at hl 2 rfl) ?_
                  refine lv_iload_n hx hb dX9_readRow_146 rfl (lv_at hl 1 rfl) ?_
                  refine lv_iadd hx hb dX9_readRow_147 ?_
                  refine lv_topi (fun x_58 ex_58 => ?_)
                  have tx_58 : x_58.toInt = x_19.toInt + i_21.toInt := ti_add (A := x_19.toInt) (B := i_21.toInt) ex_58 rfl rfl (by omega) (by omega)
                  refine lv_iload hx hb dX9_readRow_148 (lv_at hl 0 rfl) ?_
                  refine sl_Vc (rV_V (As := [.int x_58, .int 0]) (rest := []) X hp_st (fun _ _ _ h => h) (g4_put l dC dI cy k_ground k_ground_wide k_ground_deep k_ground_count k_ground_sorts f_24 x_58 0 hk_ground_wide hk_ground_deep hk_ground_count) kX4_put vX4_put mX9_135 hP hD hS hA [2, 3] (by decide) rfl 0 (ci := 4) rfl rfl rfl hl rfl rfl (Nat.le_of_ble_eq_true rfl) dX9_readRow_150 ⟨(Nat.le_of_ble_eq_true rfl), (Nat.le_of_ble_eq_true rfl)⟩ ⟨(Nat.le_of_ble_eq_true rfl), (Nat.le_of_ble_eq_true rfl)⟩) hP hD hS hA [2, 3] [true, true, false, false, true, true] rfl rfl rfl (fun u_62 H locs k_61 hP hD hS => ?_)
                  obtain ⟨g_sortsf1_59, eu_62⟩ : ∃ z, z = u_62 := ⟨_, rfl⟩
                  subst eu_62
                  have k_61 : (ptP k_ground_count.toInt f_24 g_sortsf1_59 x_58.toInt (0 : Int32)) := k_61
                  have hPD := vPD (ws' := [(k_unsure, .inl (cy 1, 5, .inl f_56)), (h1, .inr (7, [.ref k_ground, .int k_errs, .int k_slips, .int k_rows, .int x_57, .ref k_unsure, .int k_walkers, .ref k_names, .ref k_kinds, .ref k_starts, .ref k_goals, .int k_walks, .ref k_walkStarts, .ref k_walkSteps, .ref k_walkFell])), (h0, .inr (8, [.ref t_bytes, .int t_length, .int t_end, .int t_token1_9, .int t_start1_10, .int t_stop1_11, .int t_number, .int t_fault, .int t_faultAt])), (t_bytes, .inl (cy 0, 800, .inl t_bytesf)), (k_ground, .inr (4, [.int k_ground_wide, .int k_ground_deep, .int k_ground_count, .ref k_ground_sorts])), (k_ground_sorts, .inl (cy 1, 20, .inl g_sortsf1_59))]) hP hD rfl
                  have hP := hPD.1
                  have hD := hPD.2
                  obtain ⟨x_63, ex_63⟩ : ∃ y : Int32, y = i_21 + 1 := ⟨_, rfl⟩
                  have tx_63 : x_63.toInt = i_21.toInt + 1 := ti_add (A := i_21.toInt) (B := 1) ex_63 rfl rfl (by omega) (by omega)
                  refine lv_iinc (v := x_63) (lv' := [(3, .int x_63), (4, .int 0), (2, .int x_19), (0, .ref h0), (1, .ref h1)]) hx hb dX9_readRow_153 hl (k := 1) rfl (by rw [ex_63]; rfl) (by decide) rfl (fun ls hl => ?_)
                  refine lv_goto (tgt := 66) hx hb dX9_readRow_156 (by decide) ?_
                  exact ihlp_20 x_63 f_56 g_sortsf1_59 x_57 _ _ _ (by omega) (by omega) (show rwA t_bytesf t_start1_10.toInt t_stop1_11.toInt → x_57.toInt = k_unsureCount.toInt + cu t_bytesf (Int.toNat t_start1_10.toInt) (Int.toNat x_63.toInt) from (fun hA => by have q1 := (rl_u (st := t_start1_10.toInt) (sp := t_stop1_11.toInt) (i := i_21.toInt) (i' := x_63.toInt) hA (by omega) (by omega) (by omega) (by omega) ex_42 ex_43 k_45_2 (by omega) (by omega)).1; have q2 := b_27 hA; omega)) (show k_ground_count.toInt = k_ground_wide.toInt * k_ground_deep.toInt → rwA t_bytesf t_start1_10.toInt t_stop1_11.toInt → rwN t_bytesf t_start1_10.toInt x_19.toInt x_63.toInt k_ground_sortsf g_sortsf1_59 from (fun hc hA => rwN_up (b_28 hc hA) (by omega) (by omega) (show x_58.toInt = x_19.toInt + i_21.toInt by omega) (k_61 (by omega) (by have h6 := Int.mul_comm k_rows.toInt k_ground_wide.toInt; have h7 := cell_lt (w := k_ground_wide.toInt) (d := k_ground_deep.toInt) (r := k_rows.toInt) (c := i_21.toInt) (by omega) (by omega) (by omega); omega)) (Eq.trans (by decide) (rl_u (st := t_start1_10.toInt) (sp := t_stop1_11.toInt) (i := i_21.toInt) (i' := x_63.toInt) hA (by omega) (by omega) (by omega) (by omega) ex_42 ex_43 k_45_2 (by omega) (by omega)).2.symm) (by omega))) (show rwA t_bytesf t_start1_10.toInt t_stop1_11.toInt → f_56 = uU t_bytesf t_start1_10.toInt x_19.toInt k_unsuref k_unsureCount.toInt (Int.toNat x_63.toInt) from (fun hA => uU_wy (b := x_19.toInt) (i := i_21.toInt) (b_29 hA) (by omega) (rl_uc (st := t_start1_10.toInt) (sp := t_stop1_11.toInt) (i := i_21.toInt) (i' := x_63.toInt) hA (by omega) (by omega) (by omega) (by omega) ex_42 ex_43 k_45_2 (by omega) (by omega)) (b_27 hA) (by first | rfl | omega) (by omega) ef_56 (by omega))) (show x_63.toInt ≤ k_ground_wide.toInt by omega) (show 6 - x_63.toInt ≤ (nlp_20 : Int) by omega) (hP.sub [0, 1, 4, 5, 2, 3] rfl) (hD.sub [0, 1, 4, 5, 2, 3] (by decide) rfl) hS (lv_sub hl [0, 2, 3, 4] rfl)
                · have h_54 : i_25.toInt = 5 := c_eq h_54
                  refine lv_aload_n hx hb dX9_readRow_110 rfl (lv_at hl 3 rfl) ?_
                  refine lv_iconst (v := 5) hx hb dX9_readRow_111 (by decide) ?_
                  refine sl_Ic (rV_I (As := [.int 5]) (rest := []) X hp_st (fun _ _ _ h => h) (g9_wrong l dC dI cy h0 t_bytes t_length t_end t_token1_9 t_start1_10 t_stop1_11 t_number t_fault t_faultAt 5 ht_length ht_end k_13_1 k_13_0) kX9_wrong vX9_wrong mX9_62 hP hD hS hA [4] (by decide) rfl 0 (ci := 8) rfl rfl rfl hl rfl rfl (Nat.le_of_ble_eq_true rfl) dX9_readRow_112 ⟨(Nat.le_of_ble_eq_true rfl), (Nat.le_of_ble_eq_true rfl)⟩ ⟨(Nat.le_of_ble_eq_true rfl), (Nat.le_of_ble_eq_true rfl)⟩) hP hD hS hA [4] [true, true, true, true, false, true] rfl rfl rfl (fun r_66 u_68 H locs k_67 hP hD hS => ?_)
                  obtain ⟨t_fault1_64, t_faultAt1_65⟩ := u_68
                  have k_67 : (r_66 = 0) ∧ (t_fault1_64.toInt = (5 : Int32).toInt) ∧ (t_faultAt1_65.toInt = t_start1_10.toInt) := k_67
                  have kc_69 : (5 : Int32).toInt = 5 := by decide
                  obtain ⟨k_67_0, k_67_1, k_67_2⟩ := k_67
                  have hPD := vPD (ws' := [(k_unsure, .inl (cy 1, 5, .inl f_23)), (h1, .inr (7, [.ref k_ground, .int k_errs, .int k_slips, .int k_rows, .int i_25, .ref k_unsure, .int k_walkers, .ref k_names, .ref k_kinds, .ref k_starts, .ref k_goals, .int k_walks, .ref k_walkStarts, .ref k_walkSteps, .ref k_walkFell])), (k_ground, .inr (4, [.int k_ground_wide, .int k_ground_deep, .int k_ground_count, .ref k_ground_sorts])), (k_ground_sorts, .inl (cy 1, 20, .inl f_24)), (t_bytes, .inl (cy 0, 800, .inl t_bytesf)), (h0, .inr (8, [.ref t_bytes, .int t_length, .int t_end, .int t_token1_9, .int t_start1_10, .int t_stop1_11, .int t_number, .int t_fault1_64, .int t_faultAt1_65]))]) hP hD rfl
                  have hP := hPD.1
                  have hD := hPD.2
                  have er_66 : r_66 = 0 := k_67_0
                  subst er_66
                  exact eI hQ X hr hlocks hP hD hS (t_token1_9, t_start1_10, t_stop1_11, t_fault1_64, t_faultAt1_65, f_24, f_23, i_25, k_rows) [5, 4, 1, 2, 3, 0] (by decide) rfl rfl (show (0 ≤ (0 : Int32).toInt ∧ (0 : Int32).toInt ≤ 1) ∧ (0 ≤ t_start1_10.toInt ∧ t_start1_10.toInt ≤ 800) ∧ (0 ≤ t_stop1_11.toInt ∧ t_stop1_11.toInt ≤ 800) ∧ (0 ≤ i_25.toInt ∧ i_25.toInt ≤ 5) ∧ (0 ≤ k_rows.toInt ∧ k_rows.toInt ≤ 4) ∧ (t_start1_10.toInt ≤ t_stop1_11.toInt ∧ t_stop1_11.toInt ≤ t_end.toInt) ∧ (qRw t_bytesf t_end.toInt k_ground_wide.toInt k_ground_deep.toInt k_rows.toInt k_unsureCount.toInt k_ground_count.toInt k_ground_sortsf k_unsuref t_token.toInt t_start.toInt t_stop.toInt (0 : Int32).toInt t_token1_9.toInt t_start1_10.toInt t_stop1_11.toInt t_fault1_64.toInt t_faultAt1_65.toInt k_rows.toInt i_25.toInt f_24 f_23) ∧ ((0 : Int32).toInt ≠ 0 → t_fault1_64.toInt = t_fault.toInt) from ⟨(by first | decide | (have h9_0 : (0 : Int32).toInt = 0 := (by decide); omega) | (refine ⟨by decide, ?_⟩; omega) | omega), k_13_1, k_13_0, b_26, hk_rows, k_13_2, (qRw_m (i := i_21.toInt) (a := x_41) (by omega) (by omega) k_13_4 k_16_2 (by omega) b_27 (by omega) (by omega) (by omega) (by omega) (by omega) (by omega) ex_42 ex_43 k_45_2 (by omega) (by decide) (by omega) (by omega)), (by first | decide | (have h9_0 : (0 : Int32).toInt = 0 := (by decide); omega) | (refine ⟨by decide, ?_⟩; omega) | omega)⟩) (Nat.le_of_ble_eq_true rfl) (Nat.le_of_ble_eq_true rfl) dX9_readRow_115
        exact lp_20 6 0 k_unsuref k_ground_sortsf k_unsureCount _ _ _ (by decide) (by omega) (show rwA t_bytesf t_start1_10.toInt t_stop1_11.toInt → k_unsureCount.toInt = k_unsureCount.toInt + cu t_bytesf (Int.toNat t_start1_10.toInt) (Int.toNat 0) from (fun _ => by show _ = _ + cu _ _ 0; unfold cu; omega)) (show k_ground_count.toInt = k_ground_wide.toInt * k_ground_deep.toInt → rwA t_bytesf t_start1_10.toInt t_stop1_11.toInt → rwN t_bytesf t_start1_10.toInt x_19.toInt 0 k_ground_sortsf k_ground_sortsf from (fun _ _ => rwN_0 (by omega))) (show rwA t_bytesf t_start1_10.toInt t_stop1_11.toInt → k_unsuref = uU t_bytesf t_start1_10.toInt x_19.toInt k_unsuref k_unsureCount.toInt (Int.toNat 0) from (fun _ => by show _ = uU _ _ _ _ _ 0; rfl)) (show 0 ≤ k_ground_wide.toInt by omega) (show 6 - 0 ≤ ((6 : Nat) : Int) by omega) hP hD hS hl
      · have h_18 : r_15.toInt = 0 := c_eq h_18
        refine lv_aload_n hx hb dX9_readRow_45 rfl (lv_at hl 0 rfl) ?_
        refine lv_iconst (v := 1) hx hb dX9_readRow_46 (by decide) ?_
        refine sl_Ic (rV_I (As := [.int 1]) (rest := []) X hp_st (fun _ _ _ h => h) (g9_wrong l dC dI cy h0 t_bytes t_length t_end t_token1_9 t_start1_10 t_stop1_11 t_number t_fault t_faultAt 1 ht_length ht_end k_13_1 k_13_0) kX9_wrong vX9_wrong mX9_62 hP hD hS hA [4] (by decide) rfl 0 (ci := 8) rfl rfl rfl hl rfl rfl (Nat.le_of_ble_eq_true rfl) dX9_readRow_47 ⟨(Nat.le_of_ble_eq_true rfl), (Nat.le_of_ble_eq_true rfl)⟩ ⟨(Nat.le_of_ble_eq_true rfl), (Nat.le_of_ble_eq_true rfl)⟩) hP hD hS hA [4] [true, true, true, true, false, true] rfl rfl rfl (fun r_72 u_74 H locs k_73 hP hD hS => ?_)
        obtain ⟨t_fault1_70, t_faultAt1_71⟩ := u_74
        have k_73 : (r_72 = 0) ∧ (t_fault1_70.toInt = (1 : Int32).toInt) ∧ (t_faultAt1_71.toInt = t_start1_10.toInt) := k_73
        have kc_75 : (1 : Int32).toInt = 1 := by decide
        obtain ⟨k_73_0, k_73_1, k_73_2⟩ := k_73
        have hPD := vPD (ws' := [(k_unsure, .inl (cy 1, 5, .inl k_unsuref)), (h1, .inr (7, [.ref k_ground, .int k_errs, .int k_slips, .int k_rows, .int k_unsureCount, .ref k_unsure, .int k_walkers, .ref k_names, .ref k_kinds, .ref k_starts, .ref k_goals, .int k_walks, .ref k_walkStarts, .ref k_walkSteps, .ref k_walkFell])), (k_ground, .inr (4, [.int k_ground_wide, .int k_ground_deep, .int k_ground_count, .ref k_ground_sorts])), (k_ground_sorts, .inl (cy 1, 20, .inl k_ground_sortsf)), (t_bytes, .inl (cy 0, 800, .inl t_bytesf)), (h0, .inr (8, [.ref t_bytes, .int t_length, .int t_end, .int t_token1_9, .int t_start1_10, .int t_stop1_11, .int t_number, .int t_fault1_70, .int t_faultAt1_71]))]) hP hD rfl
        have hP := hPD.1
        have hD := hPD.2
        have er_72 : r_72 = 0 := k_73_0
        subst er_72
        exact eI hQ X hr hlocks hP hD hS (t_token1_9, t_start1_10, t_stop1_11, t_fault1_70, t_faultAt1_71, k_ground_sortsf, k_unsuref, k_unsureCount, k_rows) [5, 4, 1, 2, 3, 0] (by decide) rfl rfl (show (0 ≤ (0 : Int32).toInt ∧ (0 : Int32).toInt ≤ 1) ∧ (0 ≤ t_start1_10.toInt ∧ t_start1_10.toInt ≤ 800) ∧ (0 ≤ t_stop1_11.toInt ∧ t_stop1_11.toInt ≤ 800) ∧ (0 ≤ k_unsureCount.toInt ∧ k_unsureCount.toInt ≤ 5) ∧ (0 ≤ k_rows.toInt ∧ k_rows.toInt ≤ 4) ∧ (t_start1_10.toInt ≤ t_stop1_11.toInt ∧ t_stop1_11.toInt ≤ t_end.toInt) ∧ (qRw t_bytesf t_end.toInt k_ground_wide.toInt k_ground_deep.toInt k_rows.toInt k_unsureCount.toInt k_ground_count.toInt k_ground_sortsf k_unsuref t_token.toInt t_start.toInt t_stop.toInt (0 : Int32).toInt t_token1_9.toInt t_start1_10.toInt t_stop1_11.toInt t_fault1_70.toInt t_faultAt1_71.toInt k_rows.toInt k_unsureCount.toInt k_ground_sortsf k_unsuref) ∧ ((0 : Int32).toInt ≠ 0 → t_fault1_70.toInt = t_fault.toInt) from ⟨(by first | decide | (have h9_0 : (0 : Int32).toInt = 0 := (by decide); omega) | (refine ⟨by decide, ?_⟩; omega) | omega), k_13_1, k_13_0, hk_unsureCount, hk_rows, k_13_2, (qRw_1 (by omega) (by omega) k_13_4 k_16_2 (by omega) (by decide) (by omega) (by omega)), (by first | decide | (have h9_0 : (0 : Int32).toInt = 0 := (by decide); omega) | (refine ⟨by decide, ?_⟩; omega) | omega)⟩) (Nat.le_of_ble_eq_true rfl) (Nat.le_of_ble_eq_true rfl) dX9_readRow_50
    · have h_8 : r_5.toInt ≠ 0 := c_ne h_8
      refine lv_aload_n hx hb dX9_readRow_21 rfl (lv_at hl 0 rfl) ?_
      refine lv_iconst (v := 5) hx hb dX9_readRow_22 (by decide) ?_
      refine sl_Ic (rV_I (As := [.int 5]) (rest := []) X hp_st (fun _ _ _ h => h) (g9_wrong l dC dI cy h0 t_bytes t_length t_end t_token t_start t_stop t_number t_fault t_faultAt 5 ht_length ht_end ht_start ht_stop) kX9_wrong vX9_wrong mX9_62 hP hD hS hA [0] (by decide) rfl 0 (ci := 8) rfl rfl rfl hl rfl rfl (Nat.le_of_ble_eq_true rfl) dX9_readRow_23 ⟨(Nat.le_of_ble_eq_true rfl), (Nat.le_of_ble_eq_true rfl)⟩ ⟨(Nat.le_of_ble_eq_true rfl), (Nat.le_of_ble_eq_true rfl)⟩) hP hD hS hA [0] [false, true, true, true, true, true] rfl rfl rfl (fun r_78 u_80 H locs k_79 hP hD hS => ?_)
      obtain ⟨t_fault1_76, t_faultAt1_77⟩ := u_80
      have k_79 : (r_78 = 0) ∧ (t_fault1_76.toInt = (5 : Int32).toInt) ∧ (t_faultAt1_77.toInt = t_start.toInt) := k_79
      have kc_81 : (5 : Int32).toInt = 5 := by decide
      obtain ⟨k_79_0, k_79_1, k_79_2⟩ := k_79
      have hPD := vPD (ws' := [(t_bytes, .inl (cy 0, 800, .inl t_bytesf)), (k_unsure, .inl (cy 1, 5, .inl k_unsuref)), (h1, .inr (7, [.ref k_ground, .int k_errs, .int k_slips, .int k_rows, .int k_unsureCount, .ref k_unsure, .int k_walkers, .ref k_names, .ref k_kinds, .ref k_starts, .ref k_goals, .int k_walks, .ref k_walkStarts, .ref k_walkSteps, .ref k_walkFell])), (k_ground, .inr (4, [.int k_ground_wide, .int k_ground_deep, .int k_ground_count, .ref k_ground_sorts])), (k_ground_sorts, .inl (cy 1, 20, .inl k_ground_sortsf)), (h0, .inr (8, [.ref t_bytes, .int t_length, .int t_end, .int t_token, .int t_start, .int t_stop, .int t_number, .int t_fault1_76, .int t_faultAt1_77]))]) hP hD rfl
      have hP := hPD.1
      have hD := hPD.2
      have er_78 : r_78 = 0 := k_79_0
      subst er_78
      exact eI hQ X hr hlocks hP hD hS (t_token, t_start, t_stop, t_fault1_76, t_faultAt1_77, k_ground_sortsf, k_unsuref, k_unsureCount, k_rows) [5, 0, 2, 3, 4, 1] (by decide) rfl rfl (show (0 ≤ (0 : Int32).toInt ∧ (0 : Int32).toInt ≤ 1) ∧ (0 ≤ t_start.toInt ∧ t_start.toInt ≤ 800) ∧ (0 ≤ t_stop.toInt ∧ t_stop.toInt ≤ 800) ∧ (0 ≤ k_unsureCount.toInt ∧ k_unsureCount.toInt ≤ 5) ∧ (0 ≤ k_rows.toInt ∧ k_rows.toInt ≤ 4) ∧ (t_start.toInt ≤ t_stop.toInt ∧ t_stop.toInt ≤ t_end.toInt) ∧ (qRw t_bytesf t_end.toInt k_ground_wide.toInt k_ground_deep.toInt k_rows.toInt k_unsureCount.toInt k_ground_count.toInt k_ground_sortsf k_unsuref t_token.toInt t_start.toInt t_stop.toInt (0 : Int32).toInt t_token.toInt t_start.toInt t_stop.toInt t_fault1_76.toInt t_faultAt1_77.toInt k_rows.toInt k_unsureCount.toInt k_ground_sortsf k_unsuref) ∧ ((0 : Int32).toInt ≠ 0 → t_fault1_76.toInt = t_fault.toInt) from ⟨(by first | decide | (have h9_0 : (0 : Int32).toInt = 0 := (by decide); omega) | (refine ⟨by decide, ?_⟩; omega) | omega), ht_start, ht_stop, hk_unsureCount, hk_rows, hrel, (qRw_5 (by omega) (by omega) (by decide) (by omega) (by omega)), (by first | decide | (have h9_0 : (0 : Int32).toInt = 0 := (by decide); omega) | (refine ⟨by decide, ?_⟩; omega) | omega)⟩) (Nat.le_of_ble_eq_true rfl) (Nat.le_of_ble_eq_true rfl) dX9_readRow_26
  · have h_4 : r_1.toInt = 0 := c_eq h_4
    refine lv_aload_n hx hb dX9_readRow_7 rfl (lv_at hl 0 rfl) ?_
    refine lv_bipush (v := 6) hx hb dX9_readRow_8 (by decide) ?_
    refine sl_Ic (rV_I (As := [.int 6]) (rest := []) X hp_st (fun _ _ _ h => h) (g9_wrong l dC dI cy h0 t_bytes t_length t_end t_token t_start t_stop t_number t_fault t_faultAt 6 ht_length ht_end ht_start ht_stop) kX9_wrong vX9_wrong mX9_62 hP hD hS hA [0] (by decide) rfl 0 (ci := 8) rfl rfl rfl hl rfl rfl (Nat.le_of_ble_eq_true rfl) dX9_readRow_10 ⟨(Nat.le_of_ble_eq_true rfl), (Nat.le_of_ble_eq_true rfl)⟩ ⟨(Nat.le_of_ble_eq_true rfl), (Nat.le_of_ble_eq_true rfl)⟩) hP hD hS hA [0] [false, true, true, true, true, true] rfl rfl rfl (fun r_84 u_86 H locs k_85 hP hD hS => ?_)
    obtain ⟨t_fault1_82, t_faultAt1_83⟩ := u_86
    have k_85 : (r_84 = 0) ∧ (t_fault1_82.toInt = (6 : Int32).toInt) ∧ (t_faultAt1_83.toInt = t_start.toInt) := k_85
    have kc_87 : (6 : Int32).toInt = 6 := by decide
    obtain ⟨k_85_0, k_85_1, k_85_2⟩ := k_85
    have hPD := vPD (ws' := [(t_bytes, .inl (cy 0, 800, .inl t_bytesf)), (k_unsure, .inl (cy 1, 5, .inl k_unsuref)), (h1, .inr (7, [.ref k_ground, .int k_errs, .int k_slips, .int k_rows, .int k_unsureCount, .ref k_unsure, .int k_walkers, .ref k_names, .ref k_kinds, .ref k_starts, .ref k_goals, .int k_walks, .ref k_walkStarts, .ref k_walkSteps, .ref k_walkFell])), (k_ground, .inr (4, [.int k_ground_wide, .int k_ground_deep, .int k_ground_count, .ref k_ground_sorts])), (k_ground_sorts, .inl (cy 1, 20, .inl k_ground_sortsf)), (h0, .inr (8, [.ref t_bytes, .int t_length, .int t_end, .int t_token, .int t_start, .int t_stop, .int t_number, .int t_fault1_82, .int t_faultAt1_83]))]) hP hD rfl
    have hP := hPD.1
    have hD := hPD.2
    have er_84 : r_84 = 0 := k_85_0
    subst er_84
    exact eI hQ X hr hlocks hP hD hS (t_token, t_start, t_stop, t_fault1_82, t_faultAt1_83, k_ground_sortsf, k_unsuref, k_unsureCount, k_rows) [5, 0, 2, 3, 4, 1] (by decide) rfl rfl (show (0 ≤ (0 : Int32).toInt ∧ (0 : Int32).toInt ≤ 1) ∧ (0 ≤ t_start.toInt ∧ t_start.toInt ≤ 800) ∧ (0 ≤ t_stop.toInt ∧ t_stop.toInt ≤ 800) ∧ (0 ≤ k_unsureCount.toInt ∧ k_unsureCount.toInt ≤ 5) ∧ (0 ≤ k_rows.toInt ∧ k_rows.toInt ≤ 4) ∧ (t_start.toInt ≤ t_stop.toInt ∧ t_stop.toInt ≤ t_end.toInt) ∧ (qRw t_bytesf t_end.toInt k_ground_wide.toInt k_ground_deep.toInt k_rows.toInt k_unsureCount.toInt k_ground_count.toInt k_ground_sortsf k_unsuref t_token.toInt t_start.toInt t_stop.toInt (0 : Int32).toInt t_token.toInt t_start.toInt t_stop.toInt t_fault1_82.toInt t_faultAt1_83.toInt k_rows.toInt k_unsureCount.toInt k_ground_sortsf k_unsuref) ∧ ((0 : Int32).toInt ≠ 0 → t_fault1_82.toInt = t_fault.toInt) from ⟨(by first | decide | (have h9_0 : (0 : Int32).toInt = 0 := (by decide); omega) | (refine ⟨by decide, ?_⟩; omega) | omega), ht_start, ht_stop, hk_unsureCount, hk_rows, hrel, (qRw_6 (by omega) (by decide) (by omega) (by omega)), (by first | decide | (have h9_0 : (0 : Int32).toInt = 0 := (by decide); omega) | (refine ⟨by decide, ?_⟩; omega) | omega)⟩) (Nat.le_of_ble_eq_true rfl) (Nat.le_of_ble_eq_true rfl) dX9_readRow_13
