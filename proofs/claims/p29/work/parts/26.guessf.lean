section
set_option maxHeartbeats 4000000 in
set_option maxRecDepth 100000 in
theorem sX3_put (l : Launch) (dC : Nat → ClassId) (dI : Nat → Nat → Nat) (cy : Nat → ClassId) (h0 : Nat) (q_upper : Int64) (q_lower : Int64) (p1 : Int64) (p2 : Int64) : ctV l dC dI cy hp yX3_put cX3_put 12 ({ frames := 0, cells := 0, slots := 0, locals := 0 } : Room) [.ref h0, .long p1, .long p2] [(h0, .inr (3, [.long q_upper, .long q_lower]))] (S := Int64 × Int64) (fun u => (frP p1.toInt p2.toInt u.1.toInt u.2.toInt)) (fun u => [(h0, .inr (3, [.long u.1, .long u.2]))]) := by
  refine ctV.of (by decide +kernel) (Nat.le_of_ble_eq_true rfl) ?_
  intro p e s m args below meth c A ls Q hQ X hr hlocks hin hA hP hD hS hl
  have hx := X.1
  have hb := X.2.1
  have hK := X.2.2.2.2.2.1
  have hl : lv_has ls 12 [(0, .ref h0), (1, .long p1), (3, .long p2)] := hl
  refine lv_lload_n hx hb dX3_put_0 rfl (lv_at hl 1 rfl) ?_
  refine lv_lconst (v := 0) hx hb dX3_put_1 (by decide) ?_
  refine W.lcmp hx hb dX3_put_2 ?_
  refine lv_topi (fun x_1 ex_1 => ?_)
  refine lv_if_le (tgt := 12) hx hb dX3_put_3 (by decide) (fun h_2 => ?_) (fun h_2 => ?_)
  · have h_2 : x_1.toInt ≤ 0 := c_le h_2
    refine lv_aload_n hx hb dX3_put_12 rfl (lv_at hl 0 rfl) ?_
    refine lv_lconst (v := 0) hx hb dX3_put_13 (by decide) ?_
    refine r_put X kcX3 (ci := 3) rfl hP hD hS 0 rfl 0 (by decide) fX3_13 rfl rfl rfl (Nat.le_of_ble_eq_true rfl) dX3_put_14 (fun H locs hP hD hS => ?_)
    have hPD := vPD (ws' := [(h0, .inr (3, [.long 0, .long q_lower]))]) hP hD rfl
    have hP := hPD.1
    have hD := hPD.2
    refine lv_aload_n hx hb dX3_put_17 rfl (lv_at hl 0 rfl) ?_
    refine lv_lconst (v := 1) hx hb dX3_put_18 (by decide) ?_
    refine r_put X kcX3 (ci := 3) rfl hP hD hS 0 rfl 1 (by decide) fX3_7 rfl rfl rfl (Nat.le_of_ble_eq_true rfl) dX3_put_19 (fun H locs hP hD hS => ?_)
    have hPD := vPD (ws' := [(h0, .inr (3, [.long 0, .long 1]))]) hP hD rfl
    have hP := hPD.1
    have hD := hPD.2
    exact eV hQ X hr hlocks hP hD hS ((0 : Int64), (1 : Int64)) [0] (by decide) rfl (show (frP p1.toInt p2.toInt (0 : Int64).toInt (1 : Int64).toInt) from (frP_n (Or.inl (lg_q ex_1 rfl (by omega))) (by decide) (by decide))) (Nat.le_of_ble_eq_true rfl) (Nat.le_of_ble_eq_true rfl) dX3_put_22
  · have h_2 : 0 < x_1.toInt := c_nle h_2
    refine lv_lload_n hx hb dX3_put_6 rfl (lv_at hl 2 rfl) ?_
    refine lv_lconst (v := 0) hx hb dX3_put_7 (by decide) ?_
    refine W.lcmp hx hb dX3_put_8 ?_
    refine lv_topi (fun x_3 ex_3 => ?_)
    refine lv_if_gt (tgt := 23) hx hb dX3_put_9 (by decide) (fun h_4 => ?_) (fun h_4 => ?_)
    · have h_4 : 0 < x_3.toInt := c_lt h_4
      refine lv_lload_n hx hb dX3_put_23 rfl (lv_at hl 1 rfl) ?_
      refine lv_lstore (lv' := [(5, .long p1), (0, .ref h0), (1, .long p1), (3, .long p2)]) hx hb dX3_put_24 hl (by decide) rfl (fun ls hl => ?_)
      refine lv_lload_n hx hb dX3_put_26 rfl (lv_at hl 3 rfl) ?_
      refine lv_lstore (lv' := [(7, .long p2), (5, .long p1), (0, .ref h0), (1, .long p1), (3, .long p2)]) hx hb dX3_put_27 hl (by decide) rfl (fun ls hl => ?_)
      refine lv_iconst (v := 0) hx hb dX3_put_29 (by decide) ?_
      refine lv_istore (lv' := [(9, .int 0), (7, .long p2), (5, .long p1), (0, .ref h0), (1, .long p1), (3, .long p2)]) hx hb dX3_put_30 hl (by decide) rfl (fun ls hl => ?_)
      have lp_5 : ∀ (nlp_5 : Nat) (i_6 : Int32) (i_8 : Int64) (i_9 : Int64) (H : Heap) (locs : List Loc) (ls : Array Slot), (0 ≤ i_6.toInt ∧ i_6.toInt ≤ 100) → (¬ i_9 = 0) → (p1.toInt ≤ 35184372088832 → p2.toInt ≤ 35184372088832 → frI p1.toInt p2.toInt (i_9).toInt (i_8).toInt i_6.toInt) → (101 - i_6.toInt ≤ (nlp_5 : Int)) → va_P (dC, dI) vwCl [(h0, .inr (3, [.long q_upper, .long q_lower]))] H → va_D A [(h0, .inr (3, [.long q_upper, .long q_lower]))] → va_S A s.heap H locs → lv_has ls 12 [(9, .int i_6), (7, .long i_8), (5, .long i_9), (0, .ref h0), (1, .long p1), (3, .long p2)] → W p l e ({ frames := 0, cells := 0, slots := 0, locals := 0 } : Room) s m args below meth c H locs 0 0 Q (F0 m 32 ls []) := by
        intro nlp_5
        induction nlp_5 with
        | zero =>
          intro i_6 i_8 i_9 H locs ls b_7 b_10 b_11 hmlp_5 hP hD hS hl
          exfalso
          have di_6 := ti_bd i_6
          omega
        | succ nlp_5 ihlp_5 =>
          intro i_6 i_8 i_9 H locs ls b_7 b_10 b_11 hmlp_5 hP hD hS hl
          refine lv_iload hx hb dX3_put_32 (lv_at hl 0 rfl) ?_
          refine lv_bipush (v := 100) hx hb dX3_put_34 (by decide) ?_
          refine lv_icmp_ge (tgt := 67) hx hb dX3_put_36 (by decide) (fun h_12 => ?_) (fun h_12 => ?_)
          · have h_12 : 100 ≤ i_6.toInt := c_le h_12
            refine lv_aload_n hx hb dX3_put_67 rfl (lv_at hl 3 rfl) ?_
            refine lv_lload_n hx hb dX3_put_68 rfl (lv_at hl 4 rfl) ?_
            refine lv_lload hx hb dX3_put_69 (lv_at hl 2 rfl) ?_
            refine lv_ldiv hx hb dX3_put_71 b_10 ?_
            refine lv_topl (fun x_13 ex_13 => ?_)
            refine r_put X kcX3 (ci := 3) rfl hP hD hS 0 rfl 0 (by decide) fX3_13 rfl rfl rfl (Nat.le_of_ble_eq_true rfl) dX3_put_72 (fun H locs hP hD hS => ?_)
            have hPD := vPD (ws' := [(h0, .inr (3, [.long x_13, .long q_lower]))]) hP hD rfl
            have hP := hPD.1
            have hD := hPD.2
            refine lv_aload_n hx hb dX3_put_75 rfl (lv_at hl 3 rfl) ?_
            refine lv_lload_n hx hb dX3_put_76 rfl (lv_at hl 5 rfl) ?_
            refine lv_lload hx hb dX3_put_77 (lv_at hl 2 rfl) ?_
            refine lv_ldiv hx hb dX3_put_79 b_10 ?_
            refine lv_topl (fun x_14 ex_14 => ?_)
            refine r_put X kcX3 (ci := 3) rfl hP hD hS 0 rfl 1 (by decide) fX3_7 rfl rfl rfl (Nat.le_of_ble_eq_true rfl) dX3_put_80 (fun H locs hP hD hS => ?_)
            have hPD := vPD (ws' := [(h0, .inr (3, [.long x_13, .long x_14]))]) hP hD rfl
            have hP := hPD.1
            have hD := hPD.2
            exact eV hQ X hr hlocks hP hD hS (x_13, x_14) [0] (by decide) rfl (show (frP p1.toInt p2.toInt x_13.toInt x_14.toInt) from (frP_y b_11 (Or.inl (by omega)) (lg_p ex_1 rfl (by omega)) (lg_p ex_3 rfl (by omega)) ex_13 ex_14)) (Nat.le_of_ble_eq_true rfl) (Nat.le_of_ble_eq_true rfl) dX3_put_83
          · have h_12 : i_6.toInt < 100 := c_nle h_12
            refine lv_lload hx hb dX3_put_39 (lv_at hl 1 rfl) ?_
            refine lv_lconst (v := 0) hx hb dX3_put_41 (by decide) ?_
            refine W.lcmp hx hb dX3_put_42 ?_
            refine lv_topi (fun x_15 ex_15 => ?_)
            refine lv_if_eq (tgt := 67) hx hb dX3_put_43 (by decide) (fun h_16 => ?_) (fun h_16 => ?_)
            · have h_16 : x_15.toInt = 0 := c_eq h_16
              refine lv_aload_n hx hb dX3_put_67 rfl (lv_at hl 3 rfl) ?_
              refine lv_lload_n hx hb dX3_put_68 rfl (lv_at hl 4 rfl) ?_
              refine lv_lload hx hb dX3_put_69 (lv_at hl 2 rfl) ?_
              refine lv_ldiv hx hb dX3_put_71 b_10 ?_
              refine lv_topl (fun x_17 ex_17 => ?_)
              refine r_put X kcX3 (ci := 3) rfl hP hD hS 0 rfl 0 (by decide) fX3_13 rfl rfl rfl (Nat.le_of_ble_eq_true rfl) dX3_put_72 (fun H locs hP hD hS => ?_)
              have hPD := vPD (ws' := [(h0, .inr (3, [.long x_17, .long q_lower]))]) hP hD rfl
              have hP := hPD.1
              have hD := hPD.2
              refine lv_aload_n hx hb dX3_put_75 rfl (lv_at hl 3 rfl) ?_
              refine lv_lload_n hx hb dX3_put_76 rfl (lv_at hl 5 rfl) ?_
              refine lv_lload hx hb dX3_put_77 (lv_at hl 2 rfl) ?_
              refine lv_ldiv hx hb dX3_put_79 b_10 ?_
              refine lv_topl (fun x_18 ex_18 => ?_)
              refine r_put X kcX3 (ci := 3) rfl hP hD hS 0 rfl 1 (by decide) fX3_7 rfl rfl rfl (Nat.le_of_ble_eq_true rfl) dX3_put_80 (fun H locs hP hD hS => ?_)
              have hPD := vPD (ws' := [(h0, .inr (3, [.long x_17, .long x_18]))]) hP hD rfl
              have hP := hPD.1
              have hD := hPD.2
              exact eV hQ X hr hlocks hP hD hS (x_17, x_18) [0] (by decide) rfl (show (frP p1.toInt p2.toInt x_17.toInt x_18.toInt) from (frP_y b_11 (Or.inr (leq9 ex_15 (by omega))) (lg_p ex_1 rfl (by omega)) (lg_p ex_3 rfl (by omega)) ex_17 ex_18)) (Nat.le_of_ble_eq_true rfl) (Nat.le_of_ble_eq_true rfl) dX3_put_83
            · have h_16 : x_15.toInt ≠ 0 := c_ne h_16
              refine lv_lload hx hb dX3_put_46 (lv_at hl 2 rfl) ?_
              refine lv_lload hx hb dX3_put_48 (lv_at hl 1 rfl) ?_
              refine lv_lrem hx hb dX3_put_50 (nz_cmp ex_15 (by omega)) ?_
              refine lv_topl (fun x_19 ex_19 => ?_)
              refine lv_lstore (lv' := [(10, .long x_19), (9, .int i_6), (7, .long i_8), (5, .long i_9), (0, .ref h0), (1, .long p1), (3, .long p2)]) hx hb dX3_put_51 hl (by decide) rfl (fun ls hl => ?_)
              refine lv_lload hx hb dX3_put_53 (lv_at hl 2 rfl) ?_
              refine lv_lstore (lv' := [(5, .long i_8), (10, .long x_19), (9, .int i_6), (7, .long i_8), (0, .ref h0), (1, .long p1), (3, .long p2)]) hx hb dX3_put_55 hl (by decide) rfl (fun ls hl => ?_)
              refine lv_lload hx hb dX3_put_57 (lv_at hl 1 rfl) ?_
              refine lv_lstore (lv' := [(7, .long x_19), (5, .long i_8), (10, .long x_19), (9, .int i_6), (0, .ref h0), (1, .long p1), (3, .long p2)]) hx hb dX3_put_59 hl (by decide) rfl (fun ls hl => ?_)
              obtain ⟨x_20, ex_20⟩ : ∃ y : Int32, y = i_6 + 1 := ⟨_, rfl⟩
              have tx_20 : x_20.toInt = i_6.toInt + 1 := ti_add (A := i_6.toInt) (B := 1) ex_20 rfl rfl (by omega) (by omega)
              refine lv_iinc (v := x_20) (lv' := [(9, .int x_20), (7, .long x_19), (5, .long i_8), (10, .long x_19), (0, .ref h0), (1, .long p1), (3, .long p2)]) hx hb dX3_put_61 hl (k := 3) rfl (by rw [ex_20]; rfl) (by decide) rfl (fun ls hl => ?_)
              refine lv_goto (tgt := 32) hx hb dX3_put_64 (by decide) ?_
              exact ihlp_5 x_20 x_19 i_8 _ _ _ (by omega) (nz_cmp ex_15 (by omega)) (show p1.toInt ≤ 35184372088832 → p2.toInt ≤ 35184372088832 → frI p1.toInt p2.toInt (i_8).toInt (x_19).toInt x_20.toInt from (fun h8 h9 => frI_up (k := i_6.toInt) (b_11 h8 h9) (lne9 ex_15 (by omega)) ex_19 (by omega) (by omega))) (show 101 - x_20.toInt ≤ (nlp_5 : Int) by omega) hP hD hS (lv_sub hl [0, 1, 2, 4, 5, 6] rfl)
      exact lp_5 101 0 p2 p1 _ _ _ (by decide) (nz_cmp ex_1 (by omega)) (show p1.toInt ≤ 35184372088832 → p2.toInt ≤ 35184372088832 → frI p1.toInt p2.toInt (p1).toInt (p2).toInt 0 from (fun h8 h9 => frI_0 (Int.le_of_lt (lg_p ex_1 rfl (by omega))) (Int.le_of_lt (lg_p ex_3 rfl (by omega))) h8 h9 (by decide))) (show 101 - 0 ≤ ((101 : Nat) : Int) by omega) hP hD hS hl
    · have h_4 : x_3.toInt ≤ 0 := c_nlt h_4
      refine lv_aload_n hx hb dX3_put_12 rfl (lv_at hl 0 rfl) ?_
      refine lv_lconst (v := 0) hx hb dX3_put_13 (by decide) ?_
      refine r_put X kcX3 (ci := 3) rfl hP hD hS 0 rfl 0 (by decide) fX3_13 rfl rfl rfl (Nat.le_of_ble_eq_true rfl) dX3_put_14 (fun H locs hP hD hS => ?_)
      have hPD := vPD (ws' := [(h0, .inr (3, [.long 0, .long q_lower]))]) hP hD rfl
      have hP := hPD.1
      have hD := hPD.2
      refine lv_aload_n hx hb dX3_put_17 rfl (lv_at hl 0 rfl) ?_
      refine lv_lconst (v := 1) hx hb dX3_put_18 (by decide) ?_
      refine r_put X kcX3 (ci := 3) rfl hP hD hS 0 rfl 1 (by decide) fX3_7 rfl rfl rfl (Nat.le_of_ble_eq_true rfl) dX3_put_19 (fun H locs hP hD hS => ?_)
      have hPD := vPD (ws' := [(h0, .inr (3, [.long 0, .long 1]))]) hP hD rfl
      have hP := hPD.1
      have hD := hPD.2
      exact eV hQ X hr hlocks hP hD hS ((0 : Int64), (1 : Int64)) [0] (by decide) rfl (show (frP p1.toInt p2.toInt (0 : Int64).toInt (1 : Int64).toInt) from (frP_n (Or.inr (lg_q ex_3 rfl (by omega))) (by decide) (by decide))) (Nat.le_of_ble_eq_true rfl) (Nat.le_of_ble_eq_true rfl) dX3_put_22
set_option maxHeartbeats 4000000 in
set_option maxRecDepth 100000 in
theorem sX3_putBinomial (l : Launch) (dC : Nat → ClassId) (dI : Nat → Nat → Nat) (cy : Nat → ClassId) (h0 : Nat) (q_upper : Int64) (q_lower : Int64) (p1 : Int32) (p2 : Int32) (p3 : Int32) (hp2 : 0 ≤ p2.toInt ∧ p2.toInt ≤ 9) : ctV l dC dI cy hp yX3_putBinomial cX3_putBinomial 9 ({ frames := 1, cells := 0, slots := 0, locals := 31 } : Room) [.ref h0, .int p1, .int p2, .int p3] [(h0, .inr (3, [.long q_upper, .long q_lower]))] (S := Int64 × Int64) (fun u => True) (fun u => [(h0, .inr (3, [.long u.1, .long u.2]))]) := by
  refine ctV.of (by decide +kernel) (Nat.le_of_ble_eq_true rfl) ?_
  intro p e s m args below meth c A ls Q hQ X hr hlocks hin hA hP hD hS hl
  have hx := X.1
  have hb := X.2.1
  have hK := X.2.2.2.2.2.1
  have hl : lv_has ls 9 [(0, .ref h0), (1, .int p1), (2, .int p2), (3, .int p3)] := hl
  have dy_1 := ti_bd p1
  have dy_2 := ti_bd p3
  refine lv_iload_n hx hb dX3_putBinomial_0 rfl (lv_at hl 2 rfl) ?_
  refine lv_iload_n hx hb dX3_putBinomial_1 rfl (lv_at hl 1 rfl) ?_
  refine lv_icmp_le (tgt := 9) hx hb dX3_putBinomial_2 (by decide) (fun h_3 => ?_) (fun h_3 => ?_)
  · have h_3 : p2.toInt ≤ p1.toInt := c_le h_3
    refine lv_lconst (v := 1) hx hb dX3_putBinomial_9 (by decide) ?_
    refine lv_lstore (lv' := [(4, .long 1), (0, .ref h0), (1, .int p1), (2, .int p2), (3, .int p3)]) hx hb dX3_putBinomial_10 hl (by decide) rfl (fun ls hl => ?_)
    refine lv_iconst (v := 1) hx hb dX3_putBinomial_12 (by decide) ?_
    refine lv_istore (lv' := [(6, .int 1), (4, .long 1), (0, .ref h0), (1, .int p1), (2, .int p2), (3, .int p3)]) hx hb dX3_putBinomial_13 hl (by decide) rfl (fun ls hl => ?_)
    have lp_4 : ∀ (nlp_4 : Nat) (i_5 : Int32) (i_7 : Int64) (H : Heap) (locs : List Loc) (ls : Array Slot), (1 ≤ i_5.toInt ∧ i_5.toInt ≤ 10) → (11 - i_5.toInt ≤ (nlp_4 : Int)) → va_P (dC, dI) vwCl [(h0, .inr (3, [.long q_upper, .long q_lower]))] H → va_D A [(h0, .inr (3, [.long q_upper, .long q_lower]))] → va_S A s.heap H locs → lv_has ls 9 [(6, .int i_5), (4, .long i_7), (0, .ref h0), (1, .int p1), (2, .int p2), (3, .int p3)] → W p l e ({ frames := 1, cells := 0, slots := 0, locals := 31 } : Room) s m args below meth c H locs 0 0 Q (F0 m 15 ls []) := by
      intro nlp_4
      induction nlp_4 with
      | zero =>
        intro i_5 i_7 H locs ls b_6 hmlp_4 hP hD hS hl
        exfalso
        have di_5 := ti_bd i_5
        omega
      | succ nlp_4 ihlp_4 =>
        intro i_5 i_7 H locs ls b_6 hmlp_4 hP hD hS hl
        refine lv_iload hx hb dX3_putBinomial_15 (lv_at hl 0 rfl) ?_
        refine lv_iload_n hx hb dX3_putBinomial_17 rfl (lv_at hl 4 rfl) ?_
        refine lv_icmp_gt (tgt := 43) hx hb dX3_putBinomial_18 (by decide) (fun h_8 => ?_) (fun h_8 => ?_)
        · have h_8 : p2.toInt < i_5.toInt := c_lt h_8
          refine lv_lconst (v := 1) hx hb dX3_putBinomial_43 (by decide) ?_
          refine lv_lstore (lv' := [(6, .long 1), (4, .long i_7), (0, .ref h0), (1, .int p1), (2, .int p2), (3, .int p3)]) hx hb dX3_putBinomial_44 hl (by decide) rfl (fun ls hl => ?_)
          refine lv_iconst (v := 0) hx hb dX3_putBinomial_46 (by decide) ?_
          refine lv_istore (lv' := [(8, .int 0), (6, .long 1), (4, .long i_7), (0, .ref h0), (1, .int p1), (2, .int p2), (3, .int p3)]) hx hb dX3_putBinomial_47 hl (by decide) rfl (fun ls hl => ?_)
          have lp_9 : ∀ (nlp_9 : Nat) (i_10 : Int32) (i_12 : Int64) (i_13 : Int64) (H : Heap) (locs : List Loc) (ls : Array Slot), (0 ≤ i_10.toInt) → (2147483648 - i_10.toInt ≤ (nlp_9 : Int)) → va_P (dC, dI) vwCl [(h0, .inr (3, [.long q_upper, .long q_lower]))] H → va_D A [(h0, .inr (3, [.long q_upper, .long q_lower]))] → va_S A s.heap H locs → lv_has ls 9 [(8, .int i_10), (6, .long i_12), (4, .long i_13), (0, .ref h0), (1, .int p1), (2, .int p2), (3, .int p3)] → W p l e ({ frames := 1, cells := 0, slots := 0, locals := 31 } : Room) s m args below meth c H locs 0 0 Q (F0 m 49 ls []) := by
            intro nlp_9
            induction nlp_9 with
            | zero =>
              intro i_10 i_12 i_13 H locs ls b_11 hmlp_9 hP hD hS hl
              exfalso
              have di_10 := ti_bd i_10
              omega
            | succ nlp_9 ihlp_9 =>
              intro i_10 i_12 i_13 H locs ls b_11 hmlp_9 hP hD hS hl
              refine lv_iload hx hb dX3_putBinomial_49 (lv_at hl 0 rfl) ?_
              refine lv_iload_n hx hb dX3_putBinomial_51 rfl (lv_at hl 4 rfl) ?_
              refine lv_icmp_ge (tgt := 90) hx hb dX3_putBinomial_52 (by decide) (fun h_14 => ?_) (fun h_14 => ?_)
              · have h_14 : p1.toInt ≤ i_10.toInt := c_le h_14
                refine lv_aload_n hx hb dX3_putBinomial_90 rfl (lv_at hl 3 rfl) ?_
                refine lv_lload hx hb dX3_putBinomial_91 (lv_at hl 2 rfl) ?_
                refine lv_lload hx hb dX3_putBinomial_93 (lv_at hl 1 rfl) ?_
                refine sl_Vc (rV_V (As := [.long i_13, .long i_12]) (rest := []) X hp_st (fun _ _ _ h => h) (sX3_put l dC dI cy h0 q_upper q_lower i_13 i_12) kX3_put vX3_put mX3_18 hP hD hS hA [0] (by decide) rfl 0 (ci := 3) rfl rfl rfl hl rfl rfl (Nat.le_of_ble_eq_true rfl) dX3_putBinomial_95 ⟨(Nat.le_of_ble_eq_true rfl), (Nat.le_of_ble_eq_true rfl)⟩ ⟨(Nat.le_of_ble_eq_true rfl), (Nat.le_of_ble_eq_true rfl)⟩) hP hD hS hA [0] [false] rfl rfl rfl (fun u_19 H locs k_18 hP hD hS => ?_)
                obtain ⟨q_upper1_15, q_lower1_16⟩ := u_19
                have k_18 : (frP i_13.toInt i_12.toInt q_upper1_15.toInt q_lower1_16.toInt) := k_18
                have hPD := vPD (ws' := [(h0, .inr (3, [.long q_upper1_15, .long q_lower1_16]))]) hP hD rfl
                have hP := hPD.1
                have hD := hPD.2
                exact eV hQ X hr hlocks hP hD hS (q_upper1_15, q_lower1_16) [0] (by decide) rfl trivial (Nat.le_of_ble_eq_true rfl) (Nat.le_of_ble_eq_true rfl) dX3_putBinomial_98
              · have h_14 : i_10.toInt < p1.toInt := c_nle h_14
                refine lv_lload hx hb dX3_putBinomial_55 (lv_at hl 2 rfl) ?_
                refine lv_iload hx hb dX3_putBinomial_57 (lv_at hl 0 rfl) ?_
                refine lv_iload_n hx hb dX3_putBinomial_59 rfl (lv_at hl 5 rfl) ?_
                refine lv_icmp_ge (tgt := 68) hx hb dX3_putBinomial_60 (by decide) (fun h_20 => ?_) (fun h_20 => ?_)
                · have h_20 : p2.toInt ≤ i_10.toInt := c_le h_20
                  refine lv_bipush (v := 100) hx hb dX3_putBinomial_68 (by decide) ?_
                  refine lv_iload_n hx hb dX3_putBinomial_70 rfl (lv_at hl 6 rfl) ?_
                  refine lv_isub hx hb dX3_putBinomial_71 ?_
                  refine lv_topi (fun x_21 ex_21 => ?_)
                  obtain ⟨x_22, ex_22⟩ : ∃ y : Int64, x_21.toInt64 = y := ⟨_, rfl⟩
                  refine lv_i2l hx hb dX3_putBinomial_72 ex_22 ?_
                  refine lv_lmul hx hb dX3_putBinomial_73 ?_
                  refine lv_topl (fun x_23 ex_23 => ?_)
                  refine lv_lstore (lv' := [(4, .long x_23), (8, .int i_10), (6, .long i_12), (0, .ref h0), (1, .int p1), (2, .int p2), (3, .int p3)]) hx hb dX3_putBinomial_74 hl (by decide) rfl (fun ls hl => ?_)
                  refine lv_lload hx hb dX3_putBinomial_76 (lv_at hl 2 rfl) ?_
                  refine lv_ldc2 (v := 100) hx hb X.2.2.2.1 (X.2.2.2.2.1 _ w_1172) dX3_putBinomial_78 ?_
                  refine lv_lmul hx hb dX3_putBinomial_81 ?_
                  refine lv_topl (fun x_24 ex_24 => ?_)
                  refine lv_lstore (lv' := [(6, .long x_24), (4, .long x_23), (8, .int i_10), (0, .ref h0), (1, .int p1), (2, .int p2), (3, .int p3)]) hx hb dX3_putBinomial_82 hl (by decide) rfl (fun ls hl => ?_)
                  have dy_26 := ti_bd i_10
                  obtain ⟨x_25, ex_25⟩ : ∃ y : Int32, y = i_10 + 1 := ⟨_, rfl⟩
                  have tx_25 : x_25.toInt = i_10.toInt + 1 := ti_add (A := i_10.toInt) (B := 1) ex_25 rfl rfl (by omega) (by omega)
                  refine lv_iinc (v := x_25) (lv' := [(8, .int x_25), (6, .long x_24), (4, .long x_23), (0, .ref h0), (1, .int p1), (2, .int p2), (3, .int p3)]) hx hb dX3_putBinomial_84 hl (k := 2) rfl (by rw [ex_25]; rfl) (by decide) rfl (fun ls hl => ?_)
                  refine lv_goto (tgt := 49) hx hb dX3_putBinomial_87 (by decide) ?_
                  exact ihlp_9 x_25 x_24 x_23 _ _ _ (by omega) (show 2147483648 - x_25.toInt ≤ (nlp_9 : Int) by omega) hP hD hS (lv_sub hl [0, 1, 2, 3, 4, 5, 6] rfl)
                · have h_20 : i_10.toInt < p2.toInt := c_nle h_20
                  refine lv_iload_n hx hb dX3_putBinomial_63 rfl (lv_at hl 6 rfl) ?_
                  obtain ⟨x_27, ex_27⟩ : ∃ y : Int64, p3.toInt64 = y := ⟨_, rfl⟩
                  refine lv_i2l hx hb dX3_putBinomial_64 ex_27 ?_
                  refine lv_goto (tgt := 73) hx hb dX3_putBinomial_65 (by decide) ?_
                  refine lv_lmul hx hb dX3_putBinomial_73 ?_
                  refine lv_topl (fun x_28 ex_28 => ?_)
                  refine lv_lstore (lv' := [(4, .long x_28), (8, .int i_10), (6, .long i_12), (0, .ref h0), (1, .int p1), (2, .int p2), (3, .int p3)]) hx hb dX3_putBinomial_74 hl (by decide) rfl (fun ls hl => ?_)
                  refine lv_lload hx hb dX3_putBinomial_76 (lv_at hl 2 rfl) ?_
                  refine lv_ldc2 (v := 100) hx hb X.2.2.2.1 (X.2.2.2.2.1 _ w_1172) dX3_putBinomial_78 ?_
                  refine lv_lmul hx hb dX3_putBinomial_81 ?_
                  refine lv_topl (fun x_29 ex_29 => ?_)
                  refine lv_lstore (lv' := [(6, .long x_29), (4, .long x_28), (8, .int i_10), (0, .ref h0), (1, .int p1), (2, .int p2), (3, .int p3)]) hx hb dX3_putBinomial_82 hl (by decide) rfl (fun ls hl => ?_)
                  obtain ⟨x_30, ex_30⟩ : ∃ y : Int32, y = i_10 + 1 := ⟨_, rfl⟩
                  have tx_30 : x_30.toInt = i_10.toInt + 1 := ti_add (A := i_10.toInt) (B := 1) ex_30 rfl rfl (by omega) (by omega)
                  refine lv_iinc (v := x_30) (lv' := [(8, .int x_30), (6, .long x_29), (4, .long x_28), (0, .ref h0), (1, .int p1), (2, .int p2), (3, .int p3)]) hx hb dX3_putBinomial_84 hl (k := 2) rfl (by rw [ex_30]; rfl) (by decide) rfl (fun ls hl => ?_)
                  refine lv_goto (tgt := 49) hx hb dX3_putBinomial_87 (by decide) ?_
                  exact ihlp_9 x_30 x_29 x_28 _ _ _ (by omega) (show 2147483648 - x_30.toInt ≤ (nlp_9 : Int) by omega) hP hD hS (lv_sub hl [0, 1, 2, 3, 4, 5, 6] rfl)
          exact lp_9 2147483649 0 1 i_7 _ _ _ (by decide) (show 2147483648 - 0 ≤ ((2147483649 : Nat) : Int) by omega) hP hD hS hl
        · have h_8 : i_5.toInt ≤ p2.toInt := c_nlt h_8
          refine lv_lload hx hb dX3_putBinomial_21 (lv_at hl 1 rfl) ?_
          refine lv_iload_n hx hb dX3_putBinomial_23 rfl (lv_at hl 3 rfl) ?_
          refine lv_iload_n hx hb dX3_putBinomial_24 rfl (lv_at hl 4 rfl) ?_
          refine lv_isub hx hb dX3_putBinomial_25 ?_
          refine lv_topi (fun x_31 ex_31 => ?_)
          have tx_31 : x_31.toInt = p1.toInt - p2.toInt := ti_sub (A := p1.toInt) (B := p2.toInt) ex_31 rfl rfl (by omega) (by omega)
          refine lv_iload hx hb dX3_putBinomial_26 (lv_at hl 0 rfl) ?_
          refine lv_iadd hx hb dX3_putBinomial_28 ?_
          have dy_32 := ti_bd x_31
          refine lv_topi (fun x_33 ex_33 => ?_)
          obtain ⟨x_34, ex_34⟩ : ∃ y : Int64, x_33.toInt64 = y := ⟨_, rfl⟩
          refine lv_i2l hx hb dX3_putBinomial_29 ex_34 ?_
          refine lv_lmul hx hb dX3_putBinomial_30 ?_
          refine lv_topl (fun x_35 ex_35 => ?_)
          refine lv_iload hx hb dX3_putBinomial_31 (lv_at hl 0 rfl) ?_
          obtain ⟨x_36, ex_36⟩ : ∃ y : Int64, i_5.toInt64 = y := ⟨_, rfl⟩
          refine lv_i2l hx hb dX3_putBinomial_33 ex_36 ?_
          refine lv_ldiv hx hb dX3_putBinomial_34 (nz_i2l ex_36 (by omega)) ?_
          refine lv_topl (fun x_37 ex_37 => ?_)
          refine lv_lstore (lv' := [(4, .long x_37), (6, .int i_5), (0, .ref h0), (1, .int p1), (2, .int p2), (3, .int p3)]) hx hb dX3_putBinomial_35 hl (by decide) rfl (fun ls hl => ?_)
          obtain ⟨x_38, ex_38⟩ : ∃ y : Int32, y = i_5 + 1 := ⟨_, rfl⟩
          have tx_38 : x_38.toInt = i_5.toInt + 1 := ti_add (A := i_5.toInt) (B := 1) ex_38 rfl rfl (by omega) (by omega)
          refine lv_iinc (v := x_38) (lv' := [(6, .int x_38), (4, .long x_37), (0, .ref h0), (1, .int p1), (2, .int p2), (3, .int p3)]) hx hb dX3_putBinomial_37 hl (k := 1) rfl (by rw [ex_38]; rfl) (by decide) rfl (fun ls hl => ?_)
          refine lv_goto (tgt := 15) hx hb dX3_putBinomial_40 (by decide) ?_
          exact ihlp_4 x_38 x_37 _ _ _ (by omega) (show 11 - x_38.toInt ≤ (nlp_4 : Int) by omega) hP hD hS (lv_sub hl [0, 1, 2, 3, 4, 5] rfl)
    exact lp_4 11 1 1 _ _ _ (by decide) (show 11 - 1 ≤ ((11 : Nat) : Int) by omega) hP hD hS hl
  · have h_3 : p1.toInt < p2.toInt := c_nle h_3
    refine lv_lconst (v := 0) hx hb dX3_putBinomial_5 (by decide) ?_
    refine lv_goto (tgt := 10) hx hb dX3_putBinomial_6 (by decide) ?_
    refine lv_lstore (lv' := [(4, .long 0), (0, .ref h0), (1, .int p1), (2, .int p2), (3, .int p3)]) hx hb dX3_putBinomial_10 hl (by decide) rfl (fun ls hl => ?_)
    refine lv_iconst (v := 1) hx hb dX3_putBinomial_12 (by decide) ?_
    refine lv_istore (lv' := [(6, .int 1), (4, .long 0), (0, .ref h0), (1, .int p1), (2, .int p2), (3, .int p3)]) hx hb dX3_putBinomial_13 hl (by decide) rfl (fun ls hl => ?_)
    have lp_39 : ∀ (nlp_39 : Nat) (i_40 : Int32) (i_42 : Int64) (H : Heap) (locs : List Loc) (ls : Array Slot), (1 ≤ i_40.toInt ∧ i_40.toInt ≤ 10) → (11 - i_40.toInt ≤ (nlp_39 : Int)) → va_P (dC, dI) vwCl [(h0, .inr (3, [.long q_upper, .long q_lower]))] H → va_D A [(h0, .inr (3, [.long q_upper, .long q_lower]))] → va_S A s.heap H locs → lv_has ls 9 [(6, .int i_40), (4, .long i_42), (0, .ref h0), (1, .int p1), (2, .int p2), (3, .int p3)] → W p l e ({ frames := 1, cells := 0, slots := 0, locals := 31 } : Room) s m args below meth c H locs 0 0 Q (F0 m 15 ls []) := by
      intro nlp_39
      induction nlp_39 with
      | zero =>
        intro i_40 i_42 H locs ls b_41 hmlp_39 hP hD hS hl
        exfalso
        have di_40 := ti_bd i_40
        omega
      | succ nlp_39 ihlp_39 =>
        intro i_40 i_42 H locs ls b_41 hmlp_39 hP hD hS hl
        refine lv_iload hx hb dX3_putBinomial_15 (lv_at hl 0 rfl) ?_
        refine lv_iload_n hx hb dX3_putBinomial_17 rfl (lv_at hl 4 rfl) ?_
        refine lv_icmp_gt (tgt := 43) hx hb dX3_putBinomial_18 (by decide) (fun h_43 => ?_) (fun h_43 => ?_)
        · have h_43 : p2.toInt < i_40.toInt := c_lt h_43
          refine lv_lconst (v := 1) hx hb dX3_putBinomial_43 (by decide) ?_
          refine lv_lstore (lv' := [(6, .long 1), (4, .long i_42), (0, .ref h0), (1, .int p1), (2, .int p2), (3, .int p3)]) hx hb dX3_putBinomial_44 hl (by decide) rfl (fun ls hl => ?_)
          refine lv_iconst (v := 0) hx hb dX3_putBinomial_46 (by decide) ?_
          refine lv_istore (lv' := [(8, .int 0), (6, .long 1), (4, .long i_42), (0, .ref h0), (1, .int p1), (2, .int p2), (3, .int p3)]) hx hb dX3_putBinomial_47 hl (by decide) rfl (fun ls hl => ?_)
          have lp_44 : ∀ (nlp_44 : Nat) (i_45 : Int32) (i_47 : Int64) (i_48 : Int64) (H : Heap) (locs : List Loc) (ls : Array Slot), (0 ≤ i_45.toInt) → (2147483648 - i_45.toInt ≤ (nlp_44 : Int)) → va_P (dC, dI) vwCl [(h0, .inr (3, [.long q_upper, .long q_lower]))] H → va_D A [(h0, .inr (3, [.long q_upper, .long q_lower]))] → va_S A s.heap H locs → lv_has ls 9 [(8, .int i_45), (6, .long i_47), (4, .long i_48), (0, .ref h0), (1, .int p1), (2, .int p2), (3, .int p3)] → W p l e ({ frames := 1, cells := 0, slots := 0, locals := 31 } : Room) s m args below meth c H locs 0 0 Q (F0 m 49 ls []) := by
            intro nlp_44
            induction nlp_44 with
            | zero =>
              intro i_45 i_47 i_48 H locs ls b_46 hmlp_44 hP hD hS hl
              exfalso
              have di_45 := ti_bd i_45
              omega
            | succ nlp_44 ihlp_44 =>
              intro i_45 i_47 i_48 H locs ls b_46 hmlp_44 hP hD hS hl
              refine lv_iload hx hb dX3_putBinomial_49 (lv_at hl 0 rfl) ?_
              refine lv_iload_n hx hb dX3_putBinomial_51 rfl (lv_at hl 4 rfl) ?_
              refine lv_icmp_ge (tgt := 90) hx hb dX3_putBinomial_52 (by decide) (fun h_49 => ?_) (fun h_49 => ?_)
              · have h_49 : p1.toInt ≤ i_45.toInt := c_le h_49
                refine lv_aload_n hx hb dX3_putBinomial_90 rfl (lv_at hl 3 rfl) ?_
                refine lv_lload hx hb dX3_putBinomial_91 (lv_at hl 2 rfl) ?_
                refine lv_lload hx hb dX3_putBinomial_93 (lv_at hl 1 rfl) ?_
                refine sl_Vc (rV_V (As := [.long i_48, .long i_47]) (rest := []) X hp_st (fun _ _ _ h => h) (sX3_put l dC dI cy h0 q_upper q_lower i_48 i_47) kX3_put vX3_put mX3_18 hP hD hS hA [0] (by decide) rfl 0 (ci := 3) rfl rfl rfl hl rfl rfl (Nat.le_of_ble_eq_true rfl) dX3_putBinomial_95 ⟨(Nat.le_of_ble_eq_true rfl), (Nat.le_of_ble_eq_true rfl)⟩ ⟨(Nat.le_of_ble_eq_true rfl), (Nat.le_of_ble_eq_true rfl)⟩) hP hD hS hA [0] [false] rfl rfl rfl (fun u_54 H locs k_53 hP hD hS => ?_)
                obtain ⟨q_upper1_50, q_lower1_51⟩ := u_54
                have k_53 : (frP i_48.toInt i_47.toInt q_upper1_50.toInt q_lower1_51.toInt) := k_53
                have hPD := vPD (ws' := [(h0, .inr (3, [.long q_upper1_50, .long q_lower1_51]))]) hP hD rfl
                have hP := hPD.1
                have hD := hPD.2
                exact eV hQ X hr hlocks hP hD hS (q_upper1_50, q_lower1_51) [0] (by decide) rfl trivial (Nat.le_of_ble_eq_true rfl) (Nat.le_of_ble_eq_true rfl) dX3_putBinomial_98
              · have h_49 : i_45.toInt < p1.toInt := c_nle h_49
                refine lv_lload hx hb dX3_putBinomial_55 (lv_at hl 2 rfl) ?_
                refine lv_iload hx hb dX3_putBinomial_57 (lv_at hl 0 rfl) ?_
                refine lv_iload_n hx hb dX3_putBinomial_59 rfl (lv_at hl 5 rfl) ?_
                refine lv_icmp_ge (tgt := 68) hx hb dX3_putBinomial_60 (by decide) (fun h_55 => ?_) (fun h_55 => ?_)
                · have h_55 : p2.toInt ≤ i_45.toInt := c_le h_55
                  refine lv_bipush (v := 100) hx hb dX3_putBinomial_68 (by decide) ?_
                  refine lv_iload_n hx hb dX3_putBinomial_70 rfl (lv_at hl 6 rfl) ?_
                  refine lv_isub hx hb dX3_putBinomial_71 ?_
                  refine lv_topi (fun x_56 ex_56 => ?_)
                  obtain ⟨x_57, ex_57⟩ : ∃ y : Int64, x_56.toInt64 = y := ⟨_, rfl⟩
                  refine lv_i2l hx hb dX3_putBinomial_72 ex_57 ?_
                  refine lv_lmul hx hb dX3_putBinomial_73 ?_
                  refine lv_topl (fun x_58 ex_58 => ?_)
                  refine lv_lstore (lv' := [(4, .long x_58), (8, .int i_45), (6, .long i_47), (0, .ref h0), (1, .int p1), (2, .int p2), (3, .int p3)]) hx hb dX3_putBinomial_74 hl (by decide) rfl (fun ls hl => ?_)
                  refine lv_lload hx hb dX3_putBinomial_76 (lv_at hl 2 rfl) ?_
                  refine lv_ldc2 (v := 100) hx hb X.2.2.2.1 (X.2.2.2.2.1 _ w_1172) dX3_putBinomial_78 ?_
                  refine lv_lmul hx hb dX3_putBinomial_81 ?_
                  refine lv_topl (fun x_59 ex_59 => ?_)
                  refine lv_lstore (lv' := [(6, .long x_59), (4, .long x_58), (8, .int i_45), (0, .ref h0), (1, .int p1), (2, .int p2), (3, .int p3)]) hx hb dX3_putBinomial_82 hl (by decide) rfl (fun ls hl => ?_)
                  obtain ⟨x_60, ex_60⟩ : ∃ y : Int32, y = i_45 + 1 := ⟨_, rfl⟩
                  have tx_60 : x_60.toInt = i_45.toInt + 1 := ti_add (A := i_45.toInt) (B := 1) ex_60 rfl rfl (by omega) (by omega)
                  refine lv_iinc (v := x_60) (lv' := [(8, .int x_60), (6, .long x_59), (4, .long x_58), (0, .ref h0), (1, .int p1), (2, .int p2), (3, .int p3)]) hx hb dX3_putBinomial_84 hl (k := 2) rfl (by rw [ex_60]; rfl) (by decide) rfl (fun ls hl => ?_)
                  refine lv_goto (tgt := 49) hx hb dX3_putBinomial_87 (by decide) ?_
                  exact ihlp_44 x_60 x_59 x_58 _ _ _ (by omega) (show 2147483648 - x_60.toInt ≤ (nlp_44 : Int) by omega) hP hD hS (lv_sub hl [0, 1, 2, 3, 4, 5, 6] rfl)
                · have h_55 : i_45.toInt < p2.toInt := c_nle h_55
                  refine lv_iload_n hx hb dX3_putBinomial_63 rfl (lv_at hl 6 rfl) ?_
                  obtain ⟨x_61, ex_61⟩ : ∃ y : Int64, p3.toInt64 = y := ⟨_, rfl⟩
                  refine lv_i2l hx hb dX3_putBinomial_64 ex_61 ?_
                  refine lv_goto (tgt := 73) hx hb dX3_putBinomial_65 (by decide) ?_
                  refine lv_lmul hx hb dX3_putBinomial_73 ?_
                  refine lv_topl (fun x_62 ex_62 => ?_)
                  refine lv_lstore (lv' := [(4, .long x_62), (8, .int i_45), (6, .long i_47), (0, .ref h0), (1, .int p1), (2, .int p2), (3, .int p3)]) hx hb dX3_putBinomial_74 hl (by decide) rfl (fun ls hl => ?_)
                  refine lv_lload hx hb dX3_putBinomial_76 (lv_at hl 2 rfl) ?_
                  refine lv_ldc2 (v := 100) hx hb X.2.2.2.1 (X.2.2.2.2.1 _ w_1172) dX3_putBinomial_78 ?_
                  refine lv_lmul hx hb dX3_putBinomial_81 ?_
                  refine lv_topl (fun x_63 ex_63 => ?_)
                  refine lv_lstore (lv' := [(6, .long x_63), (4, .long x_62), (8, .int i_45), (0, .ref h0), (1, .int p1), (2, .int p2), (3, .int p3)]) hx hb dX3_putBinomial_82 hl (by decide) rfl (fun ls hl => ?_)
                  obtain ⟨x_64, ex_64⟩ : ∃ y : Int32, y = i_45 + 1 := ⟨_, rfl⟩
                  have tx_64 : x_64.toInt = i_45.toInt + 1 := ti_add (A := i_45.toInt) (B := 1) ex_64 rfl rfl (by omega) (by omega)
                  refine lv_iinc (v := x_64) (lv' := [(8, .int x_64), (6, .long x_63), (4, .long x_62), (0, .ref h0), (1, .int p1), (2, .int p2), (3, .int p3)]) hx hb dX3_putBinomial_84 hl (k := 2) rfl (by rw [ex_64]; rfl) (by decide) rfl (fun ls hl => ?_)
                  refine lv_goto (tgt := 49) hx hb dX3_putBinomial_87 (by decide) ?_
                  exact ihlp_44 x_64 x_63 x_62 _ _ _ (by omega) (show 2147483648 - x_64.toInt ≤ (nlp_44 : Int) by omega) hP hD hS (lv_sub hl [0, 1, 2, 3, 4, 5, 6] rfl)
          exact lp_44 2147483649 0 1 i_42 _ _ _ (by decide) (show 2147483648 - 0 ≤ ((2147483649 : Nat) : Int) by omega) hP hD hS hl
        · have h_43 : i_40.toInt ≤ p2.toInt := c_nlt h_43
          refine lv_lload hx hb dX3_putBinomial_21 (lv_at hl 1 rfl) ?_
          refine lv_iload_n hx hb dX3_putBinomial_23 rfl (lv_at hl 3 rfl) ?_
          refine lv_iload_n hx hb dX3_putBinomial_24 rfl (lv_at hl 4 rfl) ?_
          refine lv_isub hx hb dX3_putBinomial_25 ?_
          refine lv_topi (fun x_65 ex_65 => ?_)
          refine lv_iload hx hb dX3_putBinomial_26 (lv_at hl 0 rfl) ?_
          refine lv_iadd hx hb dX3_putBinomial_28 ?_
          have dy_66 := ti_bd x_65
          refine lv_topi (fun x_67 ex_67 => ?_)
          obtain ⟨x_68, ex_68⟩ : ∃ y : Int64, x_67.toInt64 = y := ⟨_, rfl⟩
          refine lv_i2l hx hb dX3_putBinomial_29 ex_68 ?_
          refine lv_lmul hx hb dX3_putBinomial_30 ?_
          refine lv_topl (fun x_69 ex_69 => ?_)
          refine lv_iload hx hb dX3_putBinomial_31 (lv_at hl 0 rfl) ?_
          obtain ⟨x_70, ex_70⟩ : ∃ y : Int64, i_40.toInt64 = y := ⟨_, rfl⟩
          refine lv_i2l hx hb dX3_putBinomial_33 ex_70 ?_
          refine lv_ldiv hx hb dX3_putBinomial_34 (nz_i2l ex_70 (by omega)) ?_
          refine lv_topl (fun x_71 ex_71 => ?_)
          refine lv_lstore (lv' := [(4, .long x_71), (6, .int i_40), (0, .ref h0), (1, .int p1), (2, .int p2), (3, .int p3)]) hx hb dX3_putBinomial_35 hl (by decide) rfl (fun ls hl => ?_)
          obtain ⟨x_72, ex_72⟩ : ∃ y : Int32, y = i_40 + 1 := ⟨_, rfl⟩
          have tx_72 : x_72.toInt = i_40.toInt + 1 := ti_add (A := i_40.toInt) (B := 1) ex_72 rfl rfl (by omega) (by omega)
          refine lv_iinc (v := x_72) (lv' := [(6, .int x_72), (4, .long x_71), (0, .ref h0), (1, .int p1), (2, .int p2), (3, .int p3)]) hx hb dX3_putBinomial_37 hl (k := 1) rfl (by rw [ex_72]; rfl) (by decide) rfl (fun ls hl => ?_)
          refine lv_goto (tgt := 15) hx hb dX3_putBinomial_40 (by decide) ?_
          exact ihlp_39 x_72 x_71 _ _ _ (by omega) (show 11 - x_72.toInt ≤ (nlp_39 : Int) by omega) hP hD hS (lv_sub hl [0, 1, 2, 3, 4, 5] rfl)
    exact lp_39 11 1 0 _ _ _ (by decide) (show 11 - 1 ≤ ((11 : Nat) : Int) by omega) hP hD hS hl
end
section
set_option maxHeartbeats 4000000 in
set_option maxRecDepth 100000 in
theorem sX9_hasRoom (l : Launch) (dC : Nat → ClassId) (dI : Nat → Nat → Nat) (cy : Nat → ClassId) (h0 : Nat) (t_bytes : Nat) (t_length : Int32) (t_end : Int32) (t_token : Int32) (t_start : Int32) (t_stop : Int32) (t_number : Int32) (t_fault : Int32) (t_faultAt : Int32) (ht_length : 0 ≤ t_length.toInt ∧ t_length.toInt ≤ 800) : ctI l dC dI cy hp yX9_hasRoom cX9_hasRoom 1 .boolean ({ frames := 0, cells := 0, slots := 0, locals := 0 } : Room) [.ref h0] [(h0, .inr (8, [.ref t_bytes, .int t_length, .int t_end, .int t_token, .int t_start, .int t_stop, .int t_number, .int t_fault, .int t_faultAt]))] (S := Unit) (fun r _ => (0 ≤ r.toInt ∧ r.toInt ≤ 1) ∧ ((r.toInt = 1 ∧ t_length.toInt + 20 ≤ 800) ∨ (r.toInt = 0 ∧ 800 < t_length.toInt + 20))) (fun _ => [(h0, .inr (8, [.ref t_bytes, .int t_length, .int t_end, .int t_token, .int t_start, .int t_stop, .int t_number, .int t_fault, .int t_faultAt]))]) := by
  refine ctI.of (by decide +kernel) (Nat.le_of_ble_eq_true rfl) ?_
  intro p e s m args below meth c A ls Q hQ X hr hlocks hin hA hP hD hS hl
  have hx := X.1
  have hb := X.2.1
  have hK := X.2.2.2.2.2.1
  have hl : lv_has ls 1 [(0, .ref h0)] := hl
  refine lv_aload_n hx hb dX9_hasRoom_0 rfl (lv_at hl 0 rfl) ?_
  refine r_get X kcX9 (ci := 8) rfl hP 0 rfl 1 (by decide) fX9_15 rfl dX9_hasRoom_1 ?_
  refine lv_bipush (v := 20) hx hb dX9_hasRoom_4 (by decide) ?_
  refine lv_iadd hx hb dX9_hasRoom_6 ?_
  refine lv_topi (fun x_1 ex_1 => ?_)
  have tx_1 : x_1.toInt = t_length.toInt + 20 := ti_add (A := t_length.toInt) (B := 20) ex_1 rfl rfl (by omega) (by omega)
  refine lv_sipush (v := 800) hx hb dX9_hasRoom_7 (by decide) ?_
  refine lv_icmp_gt (tgt := 17) hx hb dX9_hasRoom_10 (by decide) (fun h_2 => ?_) (fun h_2 => ?_)
  · have h_2 : 800 < x_1.toInt := c_lt h_2
    refine lv_iconst (v := 0) hx hb dX9_hasRoom_17 (by decide) ?_
    exact eI hQ X hr hlocks hP hD hS () [0] (by decide) rfl rfl (show (0 ≤ (0 : Int32).toInt ∧ (0 : Int32).toInt ≤ 1) ∧ (((0 : Int32).toInt = 1 ∧ t_length.toInt + 20 ≤ 800) ∨ ((0 : Int32).toInt = 0 ∧ 800 < t_length.toInt + 20)) from ⟨(by decide), (Or.inr ⟨by decide, by omega⟩)⟩) (Nat.le_of_ble_eq_true rfl) (Nat.le_of_ble_eq_true rfl) dX9_hasRoom_18
  · have h_2 : x_1.toInt ≤ 800 := c_nlt h_2
    refine lv_iconst (v := 1) hx hb dX9_hasRoom_13 (by decide) ?_
    refine lv_goto (tgt := 18) hx hb dX9_hasRoom_14 (by decide) ?_
    exact eI hQ X hr hlocks hP hD hS () [0] (by decide) rfl rfl (show (0 ≤ (1 : Int32).toInt ∧ (1 : Int32).toInt ≤ 1) ∧ (((1 : Int32).toInt = 1 ∧ t_length.toInt + 20 ≤ 800) ∨ ((1 : Int32).toInt = 0 ∧ 800 < t_length.toInt + 20)) from ⟨(by decide), (Or.inl ⟨by decide, by omega⟩)⟩) (Nat.le_of_ble_eq_true rfl) (Nat.le_of_ble_eq_true rfl) dX9_hasRoom_18
end
