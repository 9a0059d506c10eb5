set_option maxHeartbeats 4000000 in
set_option maxRecDepth 100000 in
theorem gJ1_charAt (l : Launch) (dC : Nat → ClassId) (dI : Nat → Nat → Nat) (cy : Nat → ClassId) (sa : Nat) (sv : Nat) (sn : Nat) (sf : Nat → Int32) (p1 : Int32) (hsn : sn < 1000) (hp1 : 0 ≤ p1.toInt ∧ p1.toInt < (sn : Int)) : ctI l dC dI cy (andX hp (sO sa sv sn sf)) yJ1_charAt_3b067 cJ1_charAt_3b067 2 .char ({ frames := 2, cells := 0, slots := 0, locals := 43 } : Room) [.ref sv, .int p1] [] (S := Unit) (fun r _ => (narrow .char (.int r) = .int r) ∧ (ch1 sf p1.toInt r.toInt)) (fun _ => []) := by
  refine ctI.of (by decide +kernel) (Nat.le_of_ble_eq_true rfl) ?_
  intro p e s m args below meth c A ls Q hQ X hr hlocks hin hA hP hD hS hl
  have hx := X.1
  have hb := X.2.1
  have hK := X.2.2.2.2.2.1
  have hl : lv_has ls 2 [(0, .ref sv), (1, .int p1)] := hl
  have dy_1 := ti_bd p1
  refine lv_iload_n hx hb dJ1_charAt_3b067_0 rfl (lv_at hl 1 rfl) ?_
  refine lv_aload_n hx hb dJ1_charAt_3b067_1 rfl (lv_at hl 0 rfl) ?_
  obtain ⟨x_2, ex_2⟩ : ∃ y : Int32, Int32.ofNat sn = y := ⟨_, rfl⟩
  have tx_2 : x_2.toInt = (sn : Int) := by rw [← ex_2]; exact Int32.toInt_ofNat_of_lt (by omega)
  refine va_tlen hx hb X.2.2.2.2.2.2.2.2.2.2.2 hS ex_2 dJ1_charAt_3b067_2 ?_
  refine fV (wr := []) (rS_V (wc := []) (As := [.int p1, .int x_2]) (rest := []) X hp_st (fun _ _ _ h => h.1) (sJ0_checkIndex l dC dI cy p1 x_2 (by first | omega | decide)) kJ0_checkIndex_df160 w_579 mJ1_9 hP hD hS hA [] (by decide) rfl hl rfl rfl (Nat.le_of_ble_eq_true rfl) dJ1_charAt_3b067_3 ⟨(Nat.le_of_ble_eq_true rfl), (Nat.le_of_ble_eq_true rfl)⟩ ⟨(Nat.le_of_ble_eq_true rfl), (Nat.le_of_ble_eq_true rfl)⟩) hP hD hS hA [] [] rfl rfl (by decide) (by decide) (fun u_5 H locs k_4 hP hD hS => ?_)
  have hP : va_P (dC, dI) vwCl [] H := hP
  have hD : va_D A [] := hD
  refine lv_aload_n hx hb dJ1_charAt_3b067_6 rfl (lv_at hl 0 rfl) ?_
  refine lv_iload_n hx hb dJ1_charAt_3b067_7 rfl (lv_at hl 1 rfl) ?_
  obtain ⟨x_6, ex_6⟩ : ∃ y : Int32, sf (Int32.toNatClampNeg p1) = y := ⟨_, rfl⟩
  refine va_tb hx hb X.2.2.2.2.2.2.2.2.2.2.2 hS (i := p1) (vin (by omega) (by omega)) (v := .int x_6) (by rw [ex_6]) dJ1_charAt_3b067_8 ?_
  refine lv_sipush (v := 255) hx hb dJ1_charAt_3b067_9 (by decide) ?_
  refine lv_iand hx hb dJ1_charAt_3b067_12 ?_
  have dy_7 := ti_bd x_6
  refine lv_topi (fun x_8 ex_8 => ?_)
  have tx_8 : 0 ≤ x_8.toInt ∧ x_8.toInt ≤ 255 := ti_andr ex_8 (by decide)
  obtain ⟨x_9, ex_9⟩ : ∃ y : Int32, (x_8.toUInt32 % 65536).toInt32 = y := ⟨_, rfl⟩
  refine lv_i2c hx hb dJ1_charAt_3b067_13 ex_9 ?_
  exact eI hQ X hr hlocks hP hD hS () [] (by decide) rfl (by rw [← ex_9]; exact pk_nc _) (show (narrow .char (.int x_9) = .int x_9) ∧ (ch1 sf p1.toInt x_9.toInt) from ⟨(by rw [← ex_9]; exact pk_nc _), (ch1_of ex_6 ex_8 ex_9)⟩) (Nat.le_of_ble_eq_true rfl) (Nat.le_of_ble_eq_true rfl) dJ1_charAt_3b067_14
set_option maxHeartbeats 4000000 in
set_option maxRecDepth 100000 in
theorem gJ0_charAt (l : Launch) (dC : Nat → ClassId) (dI : Nat → Nat → Nat) (cy : Nat → ClassId) (sa : Nat) (sv : Nat) (sn : Nat) (sf : Nat → Int32) (p1 : Int32) (hsn : sn < 1000) (hp1 : 0 ≤ p1.toInt ∧ p1.toInt < (sn : Int)) : ctI l dC dI cy (andX hp (sO sa sv sn sf)) yJ0_charAt_5068e cJ0_charAt_5068e 2 .char ({ frames := 3, cells := 0, slots := 0, locals := 64 } : Room) [.ref sa, .int p1] [] (S := Unit) (fun r _ => (ch1 sf p1.toInt r.toInt)) (fun _ => []) := by
  refine ctI.of (by decide +kernel) (Nat.le_of_ble_eq_true rfl) ?_
  intro p e s m args below meth c A ls Q hQ X hr hlocks hin hA hP hD hS hl
  have hx := X.1
  have hb := X.2.1
  have hK := X.2.2.2.2.2.1
  have hl : lv_has ls 2 [(0, .ref sa), (1, .int p1)] := hl
  have dy_1 := ti_bd p1
  refine lv_aload_n hx hb dJ0_charAt_5068e_0 rfl (lv_at hl 0 rfl) ?_
  refine fI (wr := []) (rVo_I (wc := []) (As := []) (rest := []) X (andX_st hp_st (sO_st sa sv sn sf)) X.2.2.2.2.2.2.2 (sJ0_isLatin1 l dC dI cy sa _ _ _) kJ0_isLatin1_aae02 vJ0_isLatin1_aae02 mJ0_492 hP hD hS hA [] rfl rfl X.2.2.2.2.2.2.2.2.1 hl rfl rfl (Nat.le_of_ble_eq_true rfl) dJ0_charAt_5068e_1 ⟨(Nat.le_of_ble_eq_true rfl), (Nat.le_of_ble_eq_true rfl)⟩ ⟨(Nat.le_of_ble_eq_true rfl), (Nat.le_of_ble_eq_true rfl)⟩) hP hD hS hA [] [] rfl rfl (by decide) (by decide) (fun r_2 u_4 H locs k_3 hP hD hS => ?_)
  have k_3 : (r_2 = 1) := k_3
  have hP : va_P (dC, dI) vwCl [] H := hP
  have hD : va_D A [] := hD
  have er_2 : r_2 = 1 := k_3
  subst er_2
  refine lv_if_eq (tgt := 16) hx hb dJ0_charAt_5068e_4 (by decide) (fun h_5 => absurd h_5 (by decide)) (fun _ => ?_)
  refine lv_aload_n hx hb dJ0_charAt_5068e_7 rfl (lv_at hl 0 rfl) ?_
  refine vk_getf hx hb X.2.2.2.2.2.2.2.2.2.2.1 hS X.2.2.2.1 (X.2.2.2.2.1 _ w_2043) (fun _ h9 => h9) dJ0_charAt_5068e_8 ?_
  refine lv_iload_n hx hb dJ0_charAt_5068e_11 rfl (lv_at hl 1 rfl) ?_
  refine fI (wr := []) (rS_I (wc := []) (As := [.ref sv, .int p1]) (rest := []) X (andX_st hp_st (sO_st sa sv sn sf)) (fun _ _ _ h => h) (gJ1_charAt l dC dI cy _ sv _ _ p1 hsn hp1) kJ1_charAt_3b067 w_576 mJ0_495 hP hD hS hA [] (by decide) rfl hl rfl rfl (Nat.le_of_ble_eq_true rfl) dJ0_charAt_5068e_12 ⟨(Nat.le_of_ble_eq_true rfl), (Nat.le_of_ble_eq_true rfl)⟩ ⟨(Nat.le_of_ble_eq_true rfl), (Nat.le_of_ble_eq_true rfl)⟩) hP hD hS hA [] [] rfl rfl (by decide) (by decide) (fun r_6 u_8 H locs k_7 hP hD hS => ?_)
  have k_7 : (narrow .char (.int r_6) = .int r_6) ∧ (ch1 sf p1.toInt r_6.toInt) := k_7
  obtain ⟨k_7_0, k_7_1⟩ := k_7
  have hP : va_P (dC, dI) vwCl [] H := hP
  have hD : va_D A [] := hD
  exact eI hQ X hr hlocks hP hD hS () [] (by decide) rfl k_7_0 (show (ch1 sf p1.toInt r_6.toInt) from k_7_1) (Nat.le_of_ble_eq_true rfl) (Nat.le_of_ble_eq_true rfl) dJ0_charAt_5068e_15
set_option maxHeartbeats 4000000 in
set_option maxRecDepth 100000 in
theorem gJ1_canEncode (l : Launch) (dC : Nat → ClassId) (dI : Nat → Nat → Nat) (cy : Nat → ClassId) (p1 : Int32) : ctI l dC dI cy hp yJ1_canEncode_9a6ad cJ1_canEncode_9a6ad 1 .boolean ({ frames := 0, cells := 0, slots := 0, locals := 0 } : Room) [.int p1] [] (S := Unit) (fun r _ => (0 ≤ r.toInt ∧ r.toInt ≤ 1) ∧ (ceP p1.toInt r.toInt)) (fun _ => []) := by
  refine ctI.of (by decide +kernel) (Nat.le_of_ble_eq_true rfl) ?_
  intro p e s m args below meth c A ls Q hQ X hr hlocks hin hA hP hD hS hl
  have hx := X.1
  have hb := X.2.1
  have hK := X.2.2.2.2.2.1
  have hl : lv_has ls 1 [(0, .int p1)] := hl
  have dy_1 := ti_bd p1
  refine lv_iload_n hx hb dJ1_canEncode_9a6ad_0 rfl (lv_at hl 0 rfl) ?_
  refine lv_if_lt (tgt := 15) hx hb dJ1_canEncode_9a6ad_1 (by decide) (fun h_2 => ?_) (fun h_2 => ?_)
  · have h_2 : p1.toInt < 0 := c_lt h_2
    refine lv_iconst (v := 0) hx hb dJ1_canEncode_9a6ad_15 (by decide) ?_
    exact eI hQ X hr hlocks hP hD hS () [] (by decide) rfl rfl (show (0 ≤ (0 : Int32).toInt ∧ (0 : Int32).toInt ≤ 1) ∧ (ceP p1.toInt (0 : Int32).toInt) from ⟨(by first | omega | decide | (refine ⟨by decide, ?_⟩; omega) | (have h9_0 : (0 : Int32).toInt = 0 := (by decide); omega)), (fun h8 h9 => by first | rfl | (exfalso; omega))⟩) (Nat.le_of_ble_eq_true rfl) (Nat.le_of_ble_eq_true rfl) dJ1_canEncode_9a6ad_16
  · have h_2 : 0 ≤ p1.toInt := c_nlt h_2
    refine lv_iload_n hx hb dJ1_canEncode_9a6ad_4 rfl (lv_at hl 0 rfl) ?_
    refine lv_sipush (v := 255) hx hb dJ1_canEncode_9a6ad_5 (by decide) ?_
    refine lv_icmp_gt (tgt := 15) hx hb dJ1_canEncode_9a6ad_8 (by decide) (fun h_3 => ?_) (fun h_3 => ?_)
    · have h_3 : 255 < p1.toInt := c_lt h_3
      refine lv_iconst (v := 0) hx hb dJ1_canEncode_9a6ad_15 (by decide) ?_
      exact eI hQ X hr hlocks hP hD hS () [] (by decide) rfl rfl (show (0 ≤ (0 : Int32).toInt ∧ (0 : Int32).toInt ≤ 1) ∧ (ceP p1.toInt (0 : Int32).toInt) from ⟨(by first | omega | decide | (refine ⟨by decide, ?_⟩; omega) | (have h9_0 : (0 : Int32).toInt = 0 := (by decide); omega)), (fun h8 h9 => by first | rfl | (exfalso; omega))⟩) (Nat.le_of_ble_eq_true rfl) (Nat.le_of_ble_eq_true rfl) dJ1_canEncode_9a6ad_16
    · have h_3 : p1.toInt ≤ 255 := c_nlt h_3
      refine lv_iconst (v := 1) hx hb dJ1_canEncode_9a6ad_11 (by decide) ?_
      refine lv_goto (tgt := 16) hx hb dJ1_canEncode_9a6ad_12 (by decide) ?_
      exact eI hQ X hr hlocks hP hD hS () [] (by decide) rfl rfl (show (0 ≤ (1 : Int32).toInt ∧ (1 : Int32).toInt ≤ 1) ∧ (ceP p1.toInt (1 : Int32).toInt) from ⟨(by first | omega | decide | (refine ⟨by decide, ?_⟩; omega) | (have h9_0 : (1 : Int32).toInt = 1 := (by decide); omega)), (fun h8 h9 => by first | rfl | (exfalso; omega))⟩) (Nat.le_of_ble_eq_true rfl) (Nat.le_of_ble_eq_true rfl) dJ1_canEncode_9a6ad_16
set_option maxHeartbeats 4000000 in
set_option maxRecDepth 100000 in
theorem gJ1_indexOfChar (l : Launch) (dC : Nat → ClassId) (dI : Nat → Nat → Nat) (cy : Nat → ClassId) (sa : Nat) (sv : Nat) (sn : Nat) (sf : Nat → Int32) (p1 : Int32) (p2 : Int32) (p3 : Int32) (hsn : sn < 1000) (hp2 : 0 ≤ p2.toInt ∧ p2.toInt ≤ 1000) (hp3 : 0 ≤ p3.toInt ∧ p3.toInt ≤ 1000) (hp4 : p3.toInt = (sn : Int)) (hp5 : p2.toInt = 0) : ctI l dC dI cy (andX hp (sO sa sv sn sf)) yJ1_indexOfChar_4cfef cJ1_indexOfChar_4cfef 6 .int ({ frames := 0, cells := 0, slots := 0, locals := 0 } : Room) [.ref sv, .int p1, .int p2, .int p3] [] (S := Unit) (fun r _ => ((-1) ≤ r.toInt ∧ r.toInt ≤ 999) ∧ (r.toInt < (sn : Int)) ∧ (ixP sf sn p1.toInt r.toInt)) (fun _ => []) := by
  refine ctI.of (by decide +kernel) (Nat.le_of_ble_eq_true rfl) ?_
  intro p e s m args below meth c A ls Q hQ X hr hlocks hin hA hP hD hS hl
  have hx := X.1
  have hb := X.2.1
  have hK := X.2.2.2.2.2.1
  have hl : lv_has ls 6 [(0, .ref sv), (1, .int p1), (2, .int p2), (3, .int p3)] := hl
  have dy_1 := ti_bd p1
  refine lv_iload_n hx hb dJ1_indexOfChar_4cfef_0 rfl (lv_at hl 1 rfl) ?_
  obtain ⟨x_2, ex_2⟩ : ∃ y : Int32, p1.toInt8.toInt32 = y := ⟨_, rfl⟩
  refine lv_i2b hx hb dJ1_indexOfChar_4cfef_1 ex_2 ?_
  refine lv_istore (lv' := [(4, .int x_2), (0, .ref sv), (1, .int p1), (2, .int p2), (3, .int p3)]) hx hb dJ1_indexOfChar_4cfef_2 hl (by decide) rfl (fun ls hl => ?_)
  refine lv_iload_n hx hb dJ1_indexOfChar_4cfef_4 rfl (lv_at hl 3 rfl) ?_
  refine lv_istore (lv' := [(5, .int p2), (4, .int x_2), (0, .ref sv), (1, .int p1), (2, .int p2), (3, .int p3)]) hx hb dJ1_indexOfChar_4cfef_5 hl (by decide) rfl (fun ls hl => ?_)
  have lp_3 : ∀ (nlp_3 : Nat) (i_4 : Int32) (H : Heap) (locs : List Loc) (ls : Array Slot), (0 ≤ i_4.toInt ∧ i_4.toInt ≤ 1000) → (0 ≤ p1.toInt → p1.toInt ≤ 127 → ixN sf i_4.toInt p1.toInt) → (i_4.toInt ≤ (sn : Int)) → (1001 - i_4.toInt ≤ (nlp_3 : Int)) → va_P (dC, dI) vwCl [] H → va_D A [] → va_S A s.heap H locs → lv_has ls 6 [(5, .int i_4), (4, .int x_2), (0, .ref sv), (1, .int p1), (2, .int p2), (3, .int p3)] → W p l e ({ frames := 0, cells := 0, slots := 0, locals := 0 } : Room) s m args below meth c H locs 0 0 Q (F0 m 7 ls []) := by
    intro nlp_3
    induction nlp_3 with
    | zero =>
      intro i_4 H locs ls b_5 b_6 b_7 hmlp_3 hP hD hS hl
      exfalso
      have di_4 := ti_bd i_4
      omega
    | succ nlp_3 ihlp_3 =>
      intro i_4 H locs ls b_5 b_6 b_7 hmlp_3 hP hD hS hl
      refine lv_iload hx hb dJ1_indexOfChar_4cfef_7 (lv_at hl 0 rfl) ?_
      refine lv_iload_n hx hb dJ1_indexOfChar_4cfef_9 rfl (lv_at hl 5 rfl) ?_
      refine lv_icmp_ge (tgt := 31) hx hb dJ1_indexOfChar_4cfef_10 (by decide) (fun h_8 => ?_) (fun h_8 => ?_)
      · have h_8 : p3.toInt ≤ i_4.toInt := c_le h_8
        refine lv_iconst (v := -1) hx hb dJ1_indexOfChar_4cfef_31 (by decide) ?_
        exact eI hQ X hr hlocks hP hD hS () [] (by decide) rfl rfl (show ((-1) ≤ (-1 : Int32).toInt ∧ (-1 : Int32).toInt ≤ 999) ∧ ((-1 : Int32).toInt < (sn : Int)) ∧ (ixP sf sn p1.toInt (-1 : Int32).toInt) from ⟨(by first | omega | decide | (refine ⟨by decide, ?_⟩; omega) | (have h9_0 : (-1 : Int32).toInt = (-1) := (by decide); omega)), (by first | omega | decide | (refine ⟨by decide, ?_⟩; omega) | (have h9_0 : (-1 : Int32).toInt = (-1) := (by decide); omega)), (fun h8 h9 => Or.inl ⟨by decide, fun k hk => b_6 h8 h9 k (by omega)⟩)⟩) (Nat.le_of_ble_eq_true rfl) (Nat.le_of_ble_eq_true rfl) dJ1_indexOfChar_4cfef_32
      · have h_8 : i_4.toInt < p3.toInt := c_nle h_8
        refine lv_aload_n hx hb dJ1_indexOfChar_4cfef_13 rfl (lv_at hl 2 rfl) ?_
        refine lv_iload hx hb dJ1_indexOfChar_4cfef_14 (lv_at hl 0 rfl) ?_
        obtain ⟨x_9, ex_9⟩ : ∃ y : Int32, sf (Int32.toNatClampNeg i_4) = y := ⟨_, rfl⟩
        refine va_tb hx hb X.2.2.2.2.2.2.2.2.2.2.2 hS (i := i_4) (vin (by omega) (by omega)) (v := .int x_9) (by rw [ex_9]) dJ1_indexOfChar_4cfef_16 ?_
        refine lv_iload hx hb dJ1_indexOfChar_4cfef_17 (lv_at hl 1 rfl) ?_
        refine lv_icmp_ne (tgt := 25) hx hb dJ1_indexOfChar_4cfef_19 (by decide) (fun h_10 => ?_) (fun h_10 => ?_)
        · have h_10 : x_9.toInt ≠ x_2.toInt := c_ne h_10
          obtain ⟨x_11, ex_11⟩ : ∃ y : Int32, y = i_4 + 1 := ⟨_, rfl⟩
          have tx_11 : x_11.toInt = i_4.toInt + 1 := ti_add (A := i_4.toInt) (B := 1) ex_11 rfl rfl (by omega) (by omega)
          refine lv_iinc (v := x_11) (lv' := [(5, .int x_11), (4, .int x_2), (0, .ref sv), (1, .int p1), (2, .int p2), (3, .int p3)]) hx hb dJ1_indexOfChar_4cfef_25 hl (k := 0) rfl (by rw [ex_11]; rfl) (by decide) rfl (fun ls hl => ?_)
          refine lv_goto (tgt := 7) hx hb dJ1_indexOfChar_4cfef_28 (by decide) ?_
          exact ihlp_3 x_11 _ _ _ (by omega) (show 0 ≤ p1.toInt → p1.toInt ≤ 127 → ixN sf x_11.toInt p1.toInt from (fun h8 h9 => ixN_up (b_6 h8 h9) ex_9 (by have := ch_b ex_2 h8 h9; omega) (by omega) (by omega))) (show x_11.toInt ≤ (sn : Int) by omega) (show 1001 - x_11.toInt ≤ (nlp_3 : Int) by omega) hP hD hS (lv_sub hl [0, 1, 2, 3, 4, 5] rfl)
        · have h_10 : x_9.toInt = x_2.toInt := c_eq h_10
          refine lv_iload hx hb dJ1_indexOfChar_4cfef_22 (lv_at hl 0 rfl) ?_
          exact eI hQ X hr hlocks hP hD hS () [] (by decide) rfl rfl (show ((-1) ≤ i_4.toInt ∧ i_4.toInt ≤ 999) ∧ (i_4.toInt < (sn : Int)) ∧ (ixP sf sn p1.toInt i_4.toInt) from ⟨(by omega), (by omega), (fun h8 h9 => Or.inr ⟨by omega, by omega, by rw [show (sf i_4.toInt.toNat) = x_9 from ex_9]; have := ch_b ex_2 h8 h9; omega, fun k hk => b_6 h8 h9 k (by omega)⟩)⟩) (Nat.le_of_ble_eq_true rfl) (Nat.le_of_ble_eq_true rfl) dJ1_indexOfChar_4cfef_24
  exact lp_3 1001 p2 _ _ _ (by omega) (show 0 ≤ p1.toInt → p1.toInt ≤ 127 → ixN sf p2.toInt p1.toInt from (fun _ _ => ixN_0 (by omega))) (show p2.toInt ≤ (sn : Int) by omega) (show 1001 - p2.toInt ≤ ((1001 : Nat) : Int) by omega) hP hD hS hl
set_option maxHeartbeats 4000000 in
set_option maxRecDepth 100000 in
theorem gJ1_indexOf (l : Launch) (dC : Nat → ClassId) (dI : Nat → Nat → Nat) (cy : Nat → ClassId) (sa : Nat) (sv : Nat) (sn : Nat) (sf : Nat → Int32) (p1 : Int32) (p3 : Int32) (hsn : sn < 1000) (hp3 : 0 ≤ p3.toInt ∧ p3.toInt ≤ 1000) (hp4 : p3.toInt = (sn : Int)) : ctI l dC dI cy (andX hp (sO sa sv sn sf)) yJ1_indexOf_4cfef cJ1_indexOf_4cfef 4 .int ({ frames := 1, cells := 0, slots := 0, locals := 25 } : Room) [.ref sv, .int p1, .int 0, .int p3] [] (S := Unit) (fun r _ => ((-1) ≤ r.toInt ∧ r.toInt ≤ 999) ∧ (r.toInt < (sn : Int)) ∧ (ixP sf sn p1.toInt r.toInt)) (fun _ => []) := by
  refine ctI.of (by decide +kernel) (Nat.le_of_ble_eq_true rfl) ?_
  intro p e s m args below meth c A ls Q hQ X hr hlocks hin hA hP hD hS hl
  have hx := X.1
  have hb := X.2.1
  have hK := X.2.2.2.2.2.1
  have hl : lv_has ls 4 [(0, .ref sv), (1, .int p1), (2, .int 0), (3, .int p3)] := hl
  have dy_1 := ti_bd p1
  refine lv_iload_n hx hb dJ1_indexOf_4cfef_0 rfl (lv_at hl 1 rfl) ?_
  refine fI (wr := []) (rS_I (wc := []) (As := [.int p1]) (rest := []) X hp_st (fun _ _ _ h => h.1) (gJ1_canEncode l dC dI cy p1) kJ1_canEncode_9a6ad w_660 mJ1_88 hP hD hS hA [] (by decide) rfl hl rfl rfl (Nat.le_of_ble_eq_true rfl) dJ1_indexOf_4cfef_1 ⟨(Nat.le_of_ble_eq_true rfl), (Nat.le_of_ble_eq_true rfl)⟩ ⟨(Nat.le_of_ble_eq_true rfl), (Nat.le_of_ble_eq_true rfl)⟩) hP hD hS hA [] [] rfl rfl (by decide) (by decide) (fun r_2 u_4 H locs k_3 hP hD hS => ?_)
  have k_3 : (0 ≤ r_2.toInt ∧ r_2.toInt ≤ 1) ∧ (ceP p1.toInt r_2.toInt) := k_3
  obtain ⟨k_3_0, k_3_1⟩ := k_3
  have hP : va_P (dC, dI) vwCl [] H := hP
  have hD : va_D A [] := hD
  refine lv_if_ne (tgt := 9) hx hb dJ1_indexOf_4cfef_4 (by decide) (fun h_5 => ?_) (fun h_5 => ?_)
  · have h_5 : r_2.toInt ≠ 0 := c_ne h_5
    refine lv_iload_n hx hb dJ1_indexOf_4cfef_9 rfl (lv_at hl 2 rfl) ?_
    refine lv_iconst (v := 0) hx hb dJ1_indexOf_4cfef_10 (by decide) ?_
    refine va_mmax hx hb (X.2.2.1.trans hl.1.symm) X.2.2.2.1 (X.2.2.2.2.1 _ w_662) (X.2.2.2.2.1 _ w_546) (X.2.2.2.2.1 _ w_113) (X.2.2.2.2.1 _ w_547) (Nat.le_of_ble_eq_true rfl) (Nat.le_of_ble_eq_true rfl) (Nat.le_of_ble_eq_true rfl) (Nat.le_of_ble_eq_true rfl) dJ1_indexOf_4cfef_11 ?_
    refine lv_topi (fun x_6 ex_6 => ?_)
    have tx_6 := ti_max ex_6
    have kx_6 : Int32.toInt 0 = 0 := by decide
    have kx_6 : Int32.toInt 0 = 0 := by decide
    refine lv_istore_n (lv' := [(2, .int x_6), (0, .ref sv), (1, .int p1), (3, .int p3)]) hx hb dJ1_indexOf_4cfef_14 rfl hl (by decide) rfl (fun ls hl => ?_)
    refine lv_iload_n hx hb dJ1_indexOf_4cfef_15 rfl (lv_at hl 3 rfl) ?_
    refine lv_aload_n hx hb dJ1_indexOf_4cfef_16 rfl (lv_at hl 1 rfl) ?_
    obtain ⟨x_7, ex_7⟩ : ∃ y : Int32, Int32.ofNat sn = y := ⟨_, rfl⟩
    have tx_7 : x_7.toInt = (sn : Int) := by rw [← ex_7]; exact Int32.toInt_ofNat_of_lt (by omega)
    refine va_tlen hx hb X.2.2.2.2.2.2.2.2.2.2.2 hS ex_7 dJ1_indexOf_4cfef_17 ?_
    refine va_mmin hx hb (X.2.2.1.trans hl.1.symm) X.2.2.2.1 (X.2.2.2.2.1 _ w_663) (X.2.2.2.2.1 _ w_527) (X.2.2.2.2.1 _ w_113) (X.2.2.2.2.1 _ w_528) (Nat.le_of_ble_eq_true rfl) (Nat.le_of_ble_eq_true rfl) (Nat.le_of_ble_eq_true rfl) (Nat.le_of_ble_eq_true rfl) dJ1_indexOf_4cfef_18 ?_
    refine lv_topi (fun x_8 ex_8 => ?_)
    have tx_8 := ti_min ex_8
    refine lv_istore_n (lv' := [(3, .int x_8), (2, .int x_6), (0, .ref sv), (1, .int p1)]) hx hb dJ1_indexOf_4cfef_21 rfl hl (by decide) rfl (fun ls hl => ?_)
    refine lv_iload_n hx hb dJ1_indexOf_4cfef_22 rfl (lv_at hl 1 rfl) ?_
    refine lv_iload_n hx hb dJ1_indexOf_4cfef_23 rfl (lv_at hl 0 rfl) ?_
    refine lv_icmp_lt (tgt := 29) hx hb dJ1_indexOf_4cfef_24 (by decide) (fun h_9 => ?_) (fun h_9 => ?_)
    · have h_9 : x_6.toInt < x_8.toInt := c_lt h_9
      refine lv_aload_n hx hb dJ1_indexOf_4cfef_29 rfl (lv_at hl 2 rfl) ?_
      refine lv_iload_n hx hb dJ1_indexOf_4cfef_30 rfl (lv_at hl 3 rfl) ?_
      refine lv_iload_n hx hb dJ1_indexOf_4cfef_31 rfl (lv_at hl 1 rfl) ?_
      refine lv_iload_n hx hb dJ1_indexOf_4cfef_32 rfl (lv_at hl 0 rfl) ?_
      refine fI (wr := []) (rS_I (wc := []) (As := [.ref sv, .int p1, .int x_6, .int x_8]) (rest := []) X (andX_st hp_st (sO_st sa sv sn sf)) (fun _ _ _ h => h) (gJ1_indexOfChar l dC dI cy _ sv _ _ p1 x_6 x_8 hsn (by first | omega | decide) (by first | omega | decide) (by first | omega | decide) (by first | omega | decide)) kJ1_indexOfChar_4cfef w_665 mJ1_95 hP hD hS hA [] (by decide) rfl hl rfl rfl (Nat.le_of_ble_eq_true rfl) dJ1_indexOf_4cfef_33 ⟨(Nat.le_of_ble_eq_true rfl), (Nat.le_of_ble_eq_true rfl)⟩ ⟨(Nat.le_of_ble_eq_true rfl), (Nat.le_of_ble_eq_true rfl)⟩) hP hD hS hA [] [] rfl rfl (by decide) (by decide) (fun r_10 u_12 H locs k_11 hP hD hS => ?_)
      have k_11 : ((-1) ≤ r_10.toInt ∧ r_10.toInt ≤ 999) ∧ (r_10.toInt < (sn : Int)) ∧ (ixP sf sn p1.toInt r_10.toInt) := k_11
      obtain ⟨k_11_0, k_11_1, k_11_2⟩ := k_11
      have hP : va_P (dC, dI) vwCl [] H := hP
      have hD : va_D A [] := hD
      exact eI hQ X hr hlocks hP hD hS () [] (by decide) rfl rfl (show ((-1) ≤ r_10.toInt ∧ r_10.toInt ≤ 999) ∧ (r_10.toInt < (sn : Int)) ∧ (ixP sf sn p1.toInt r_10.toInt) from ⟨k_11_0, k_11_1, (by assumption)⟩) (Nat.le_of_ble_eq_true rfl) (Nat.le_of_ble_eq_true rfl) dJ1_indexOf_4cfef_36
    · have h_9 : x_8.toInt ≤ x_6.toInt := c_nlt h_9
      refine lv_iconst (v := -1) hx hb dJ1_indexOf_4cfef_27 (by decide) ?_
      exact eI hQ X hr hlocks hP hD hS () [] (by decide) rfl rfl (show ((-1) ≤ (-1 : Int32).toInt ∧ (-1 : Int32).toInt ≤ 999) ∧ ((-1 : Int32).toInt < (sn : Int)) ∧ (ixP sf sn p1.toInt (-1 : Int32).toInt) from ⟨(by first | omega | decide | (refine ⟨by decide, ?_⟩; omega) | (have h9_0 : (-1 : Int32).toInt = (-1) := (by decide); omega)), (by first | omega | decide | (refine ⟨by decide, ?_⟩; omega) | (have h9_0 : (-1 : Int32).toInt = (-1) := (by decide); omega)), (fun h8 h9 => by first | (exfalso; have h7 := k_3_1 h8 h9; omega) | exact Or.inl ⟨by decide, fun k hk => by omega⟩)⟩) (Nat.le_of_ble_eq_true rfl) (Nat.le_of_ble_eq_true rfl) dJ1_indexOf_4cfef_28
  · have h_5 : r_2.toInt = 0 := c_eq h_5
    refine lv_iconst (v := -1) hx hb dJ1_indexOf_4cfef_7 (by decide) ?_
    exact eI hQ X hr hlocks hP hD hS () [] (by decide) rfl rfl (show ((-1) ≤ (-1 : Int32).toInt ∧ (-1 : Int32).toInt ≤ 999) ∧ ((-1 : Int32).toInt < (sn : Int)) ∧ (ixP sf sn p1.toInt (-1 : Int32).toInt) from ⟨(by first | omega | decide | (refine ⟨by decide, ?_⟩; omega) | (have h9_0 : (-1 : Int32).toInt = (-1) := (by decide); omega)), (by first | omega | decide | (refine ⟨by decide, ?_⟩; omega) | (have h9_0 : (-1 : Int32).toInt = (-1) := (by decide); omega)), (fun h8 h9 => by first | (exfalso; have h7 := k_3_1 h8 h9; omega) | exact Or.inl ⟨by decide, fun k hk => by omega⟩)⟩) (Nat.le_of_ble_eq_true rfl) (Nat.le_of_ble_eq_true rfl) dJ1_indexOf_4cfef_8
set_option maxHeartbeats 4000000 in
set_option maxRecDepth 100000 in
theorem gJ0_indexOf2 (l : Launch) (dC : Nat → ClassId) (dI : Nat → Nat → Nat) (cy : Nat → ClassId) (sa : Nat) (sv : Nat) (sn : Nat) (sf : Nat → Int32) (p1 : Int32) (hsn : sn < 1000) : ctI l dC dI cy (andX hp (sO sa sv sn sf)) yJ0_indexOf_7cf53 cJ0_indexOf_7cf53 3 .int ({ frames := 2, cells := 0, slots := 0, locals := 48 } : Room) [.ref sa, .int p1, .int 0] [] (S := Unit) (fun r _ => ((-1) ≤ r.toInt ∧ r.toInt ≤ 999) ∧ (r.toInt < (sn : Int)) ∧ (ixP sf sn p1.toInt r.toInt)) (fun _ => []) := by
  refine ctI.of (by decide +kernel) (Nat.le_of_ble_eq_true rfl) ?_
  intro p e s m args below meth c A ls Q hQ X hr hlocks hin hA hP hD hS hl
  have hx := X.1
  have hb := X.2.1
  have hK := X.2.2.2.2.2.1
  have hl : lv_has ls 3 [(0, .ref sa), (1, .int p1), (2, .int 0)] := hl
  have dy_1 := ti_bd p1
  refine lv_aload_n hx hb dJ0_indexOf_7cf53_0 rfl (lv_at hl 0 rfl) ?_
  refine fI (wr := []) (rVo_I (wc := []) (As := []) (rest := []) X (andX_st hp_st (sO_st sa sv sn sf)) X.2.2.2.2.2.2.2 (sJ0_isLatin1 l dC dI cy sa _ _ _) kJ0_isLatin1_aae02 vJ0_isLatin1_aae02 mJ0_492 hP hD hS hA [] rfl rfl X.2.2.2.2.2.2.2.2.1 hl rfl rfl (Nat.le_of_ble_eq_true rfl) dJ0_indexOf_7cf53_1 ⟨(Nat.le_of_ble_eq_true rfl), (Nat.le_of_ble_eq_true rfl)⟩ ⟨(Nat.le_of_ble_eq_true rfl), (Nat.le_of_ble_eq_true rfl)⟩) hP hD hS hA [] [] rfl rfl (by decide) (by decide) (fun r_2 u_4 H locs k_3 hP hD hS => ?_)
  have k_3 : (r_2 = 1) := k_3
  have hP : va_P (dC, dI) vwCl [] H := hP
  have hD : va_D A [] := hD
  have er_2 : r_2 = 1 := k_3
  subst er_2
  refine lv_if_eq (tgt := 23) hx hb dJ0_indexOf_7cf53_4 (by decide) (fun h_5 => absurd h_5 (by decide)) (fun _ => ?_)
  refine lv_aload_n hx hb dJ0_indexOf_7cf53_7 rfl (lv_at hl 0 rfl) ?_
  refine vk_getf hx hb X.2.2.2.2.2.2.2.2.2.2.1 hS X.2.2.2.1 (X.2.2.2.2.1 _ w_2043) (fun _ h9 => h9) dJ0_indexOf_7cf53_8 ?_
  refine lv_iload_n hx hb dJ0_indexOf_7cf53_11 rfl (lv_at hl 1 rfl) ?_
  refine lv_iload_n hx hb dJ0_indexOf_7cf53_12 rfl (lv_at hl 2 rfl) ?_
  refine lv_aload_n hx hb dJ0_indexOf_7cf53_13 rfl (lv_at hl 0 rfl) ?_
  refine fI (wr := []) (rVo_I (wc := []) (As := []) (rest := [.int 0, .int p1, .ref sv]) X (andX_st hp_st (sO_st sa sv sn sf)) X.2.2.2.2.2.2.2 (sJ0_length l dC dI cy sa _ _ _ hsn) kJ0_length_8abf5 vJ0_length_8abf5 mJ0_505 hP hD hS hA [] rfl rfl X.2.2.2.2.2.2.2.2.1 hl rfl rfl (Nat.le_of_ble_eq_true rfl) dJ0_indexOf_7cf53_14 ⟨(Nat.le_of_ble_eq_true rfl), (Nat.le_of_ble_eq_true rfl)⟩ ⟨(Nat.le_of_ble_eq_true rfl), (Nat.le_of_ble_eq_true rfl)⟩) hP hD hS hA [] [] rfl rfl (by decide) (by decide) (fun r_6 u_8 H locs k_7 hP hD hS => ?_)
  have k_7 : (0 ≤ r_6.toInt ∧ r_6.toInt ≤ 1000) ∧ (r_6.toInt = (sn : Int)) := k_7
  obtain ⟨k_7_0, k_7_1⟩ := k_7
  have hP : va_P (dC, dI) vwCl [] H := hP
  have hD : va_D A [] := hD
  refine fI (wr := []) (rS_I (wc := []) (As := [.ref sv, .int p1, .int 0, .int r_6]) (rest := []) X (andX_st hp_st (sO_st sa sv sn sf)) (fun _ _ _ h => h) (gJ1_indexOf l dC dI cy _ sv _ _ p1 r_6 hsn (by first | omega | decide) (by first | omega | decide)) kJ1_indexOf_4cfef w_657 mJ0_637 hP hD hS hA [] (by decide) rfl hl rfl rfl (Nat.le_of_ble_eq_true rfl) dJ0_indexOf_7cf53_17 ⟨(Nat.le_of_ble_eq_true rfl), (Nat.le_of_ble_eq_true rfl)⟩ ⟨(Nat.le_of_ble_eq_true rfl), (Nat.le_of_ble_eq_true rfl)⟩) hP hD hS hA [] [] rfl rfl (by decide) (by decide) (fun r_9 u_11 H locs k_10 hP hD hS => ?_)
  have k_10 : ((-1) ≤ r_9.toInt ∧ r_9.toInt ≤ 999) ∧ (r_9.toInt < (sn : Int)) ∧ (ixP sf sn p1.toInt r_9.toInt) := k_10
  obtain ⟨k_10_0, k_10_1, k_10_2⟩ := k_10
  have hP : va_P (dC, dI) vwCl [] H := hP
  have hD : va_D A [] := hD
  refine lv_goto (tgt := 36) hx hb dJ0_indexOf_7cf53_20 (by decide) ?_
  exact eI hQ X hr hlocks hP hD hS () [] (by decide) rfl rfl (show ((-1) ≤ r_9.toInt ∧ r_9.toInt ≤ 999) ∧ (r_9.toInt < (sn : Int)) ∧ (ixP sf sn p1.toInt r_9.toInt) from ⟨k_10_0, k_10_1, (by assumption)⟩) (Nat.le_of_ble_eq_true rfl) (Nat.le_of_ble_eq_true rfl) dJ0_indexOf_7cf53_36
set_option maxHeartbeats 4000000 in
set_option maxRecDepth 100000 in
theorem gJ0_indexOf (l : Launch) (dC : Nat → ClassId) (dI : Nat → Nat → Nat) (cy : Nat → ClassId) (sa : Nat) (sv : Nat) (sn : Nat) (sf : Nat → Int32) (p1 : Int32) (hsn : sn < 1000) : ctI l dC dI cy (andX hp (sO sa sv sn sf)) yJ0_indexOf_0f7a4 cJ0_indexOf_0f7a4 2 .int ({ frames := 3, cells := 0, slots := 0, locals := 70 } : Room) [.ref sa, .int p1] [] (S := Unit) (fun r _ => ((-1) ≤ r.toInt ∧ r.toInt ≤ 999) ∧ (r.toInt < (sn : Int)) ∧ (ixP sf sn p1.toInt r.toInt)) (fun _ => []) := by
  refine ctI.of (by decide +kernel) (Nat.le_of_ble_eq_true rfl) ?_
  intro p e s m args below meth c A ls Q hQ X hr hlocks hin hA hP hD hS hl
  have hx := X.1
  have hb := X.2.1
  have hK := X.2.2.2.2.2.1
  have hl : lv_has ls 2 [(0, .ref sa), (1, .int p1)] := hl
  have dy_1 := ti_bd p1
  refine lv_aload_n hx hb dJ0_indexOf_0f7a4_0 rfl (lv_at hl 0 rfl) ?_
  refine lv_iload_n hx hb dJ0_indexOf_0f7a4_1 rfl (lv_at hl 1 rfl) ?_
  refine lv_iconst (v := 0) hx hb dJ0_indexOf_0f7a4_2 (by decide) ?_
  refine fI (wr := []) (rVo_I (wc := []) (As := [.int p1, .int 0]) (rest := []) X (andX_st hp_st (sO_st sa sv sn sf)) X.2.2.2.2.2.2.2 (gJ0_indexOf2 l dC dI cy sa _ _ _ p1 hsn) kJ0_indexOf_7cf53 vJ0_indexOf_7cf53 mJ0_633 hP hD hS hA [] rfl rfl X.2.2.2.2.2.2.2.2.1 hl rfl rfl (Nat.le_of_ble_eq_true rfl) dJ0_indexOf_0f7a4_3 ⟨(Nat.le_of_ble_eq_true rfl), (Nat.le_of_ble_eq_true rfl)⟩ ⟨(Nat.le_of_ble_eq_true rfl), (Nat.le_of_ble_eq_true rfl)⟩) hP hD hS hA [] [] rfl rfl (by decide) (by decide) (fun r_2 u_4 H locs k_3 hP hD hS => ?_)
  have k_3 : ((-1) ≤ r_2.toInt ∧ r_2.toInt ≤ 999) ∧ (r_2.toInt < (sn : Int)) ∧ (ixP sf sn p1.toInt r_2.toInt) := k_3
  obtain ⟨k_3_0, k_3_1, k_3_2⟩ := k_3
  have hP : va_P (dC, dI) vwCl [] H := hP
  have hD : va_D A [] := hD
  exact eI hQ X hr hlocks hP hD hS () [] (by decide) rfl rfl (show ((-1) ≤ r_2.toInt ∧ r_2.toInt ≤ 999) ∧ (r_2.toInt < (sn : Int)) ∧ (ixP sf sn p1.toInt r_2.toInt) from ⟨(by omega), (by omega), (by assumption)⟩) (Nat.le_of_ble_eq_true rfl) (Nat.le_of_ble_eq_true rfl) dJ0_indexOf_0f7a4_6
