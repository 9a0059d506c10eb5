set_option maxHeartbeats 4000000 in
set_option maxRecDepth 100000 in
theorem sX3_put (l : Launch) (dC : Nat → ClassId) (dI : Nat → Nat → Nat) (cy : Nat → ClassId) (h0 : Nat) (q_upper : Int64) (q_lower : Int64) (p1 : Int64) (p2 : Int64) : ctV l dC dI cy yX3_put cX3_put 12 ({ frames := 0, cells := 0, slots := 0, locals := 0 } : Room) [.ref h0, .long p1, .long p2] [(h0, .inr (3, [.long q_upper, .long q_lower]))] (S := Int64 × Int64) (fun u => True) (fun u => [(h0, .inr (3, [.long u.1, .long u.2]))]) := by
  refine ctV.of (by decide +kernel) (Nat.le_of_ble_eq_true rfl) ?_
  intro p e s m args below meth c A ls Q hQ X hr hlocks hin hA hP hD hS hl
  have hx := X.1
  have hb := X.2.1
  have hK := X.2.2.2.2.2.1
  have hl : lv_has ls 12 [(0, .ref h0), (1, .long p1), (3, .long p2)] := hl
  refine lv_lload_n hx hb dX3_put_0 rfl (lv_at hl 1 rfl) ?_
  refine lv_lconst (v := 0) hx hb dX3_put_1 (by decide) ?_
  refine W.lcmp hx hb dX3_put_2 ?_
  refine lv_topi (fun x_1 ex_1 => ?_)
  refine lv_if_le (tgt := 12) hx hb dX3_put_3 (by decide) (fun h_2 => ?_) (fun h_2 => ?_)
  · have h_2 : x_1.toInt ≤ 0 := c_le h_2
    refine lv_aload_n hx hb dX3_put_12 rfl (lv_at hl 0 rfl) ?_
    refine lv_lconst (v := 0) hx hb dX3_put_13 (by decide) ?_
    refine r_put X kcX3 (ci := 3) rfl hP hD hS 0 rfl 0 (by decide) fX3_13 rfl rfl rfl (Nat.le_of_ble_eq_true rfl) dX3_put_14 (fun H locs hP hD hS => ?_)
    have hP : va_P (dC, dI) vwCl [(h0, .inr (3, [.long 0, .long q_lower]))] H := hP
    have hD : va_D A [(h0, .inr (3, [.long 0, .long q_lower]))] := hD
    refine lv_aload_n hx hb dX3_put_17 rfl (lv_at hl 0 rfl) ?_
    refine lv_lconst (v := 1) hx hb dX3_put_18 (by decide) ?_
    refine r_put X kcX3 (ci := 3) rfl hP hD hS 0 rfl 1 (by decide) fX3_7 rfl rfl rfl (Nat.le_of_ble_eq_true rfl) dX3_put_19 (fun H locs hP hD hS => ?_)
    have hP : va_P (dC, dI) vwCl [(h0, .inr (3, [.long 0, .long 1]))] H := hP
    have hD : va_D A [(h0, .inr (3, [.long 0, .long 1]))] := hD
    exact eV hQ X hr hlocks hP hD hS (0, 1) [0] (by decide) rfl trivial (Nat.le_of_ble_eq_true rfl) (Nat.le_of_ble_eq_true rfl) dX3_put_22
  · have h_2 : 0 < x_1.toInt := c_nle h_2
    refine lv_lload_n hx hb dX3_put_6 rfl (lv_at hl 2 rfl) ?_
    refine lv_lconst (v := 0) hx hb dX3_put_7 (by decide) ?_
    refine W.lcmp hx hb dX3_put_8 ?_
    refine lv_topi (fun x_3 ex_3 => ?_)
    refine lv_if_gt (tgt := 23) hx hb dX3_put_9 (by decide) (fun h_4 => ?_) (fun h_4 => ?_)
    · have h_4 : 0 < x_3.toInt := c_lt h_4
      refine lv_lload_n hx hb dX3_put_23 rfl (lv_at hl 1 rfl) ?_
      refine lv_lstore (lv' := [(5, .long p1), (0, .ref h0), (1, .long p1), (3, .long p2)]) hx hb dX3_put_24 hl (by decide) rfl (fun ls hl => ?_)
      refine lv_lload_n hx hb dX3_put_26 rfl (lv_at hl 3 rfl) ?_
      refine lv_lstore (lv' := [(7, .long p2), (5, .long p1), (0, .ref h0), (1, .long p1), (3, .long p2)]) hx hb dX3_put_27 hl (by decide) rfl (fun ls hl => ?_)
      refine lv_iconst (v := 0) hx hb dX3_put_29 (by decide) ?_
      refine lv_istore (lv' := [(9, .int 0), (7, .long p2), (5, .long p1), (0, .ref h0), (1, .long p1), (3, .long p2)]) hx hb dX3_put_30 hl (by decide) rfl (fun ls hl => ?_)
      have lp_5 : ∀ (nlp_5 : Nat) (i_6 : Int32) (i_8 : Int64) (i_9 : Int64) (H : Heap) (locs : List Loc) (ls : Array Slot), (0 ≤ i_6.toInt ∧ i_6.toInt ≤ 100) → (¬ i_9 = 0) → (101 - i_6.toInt ≤ (nlp_5 : Int)) → va_P (dC, dI) vwCl [(h0, .inr (3, [.long q_upper, .long q_lower]))] H → va_D A [(h0, .inr (3, [.long q_upper, .long q_lower]))] → va_S A s.heap H locs → lv_has ls 12 [(9, .int i_6), (7, .long i_8), (5, .long i_9), (0, .ref h0), (1, .long p1), (3, .long p2)] → W p l e ({ frames := 0, cells := 0, slots := 0, locals := 0 } : Room) s m args below meth c H locs 0 0 Q (F0 m 32 ls []) := by
        intro nlp_5
        induction nlp_5 with
        | zero =>
          intro i_6 i_8 i_9 H locs ls b_7 b_10 hmlp_5 hP hD hS hl
          exfalso
          omega
        | succ nlp_5 ihlp_5 =>
          intro i_6 i_8 i_9 H locs ls b_7 b_10 hmlp_5 hP hD hS hl
          refine lv_iload hx hb dX3_put_32 (lv_at hl 0 rfl) ?_
          refine lv_bipush (v := 100) hx hb dX3_put_34 (by decide) ?_
          refine lv_icmp_ge (tgt := 67) hx hb dX3_put_36 (by decide) (fun h_11 => ?_) (fun h_11 => ?_)
          · have h_11 : 100 ≤ i_6.toInt := c_le h_11
            refine lv_aload_n hx hb dX3_put_67 rfl (lv_at hl 3 rfl) ?_
            refine lv_lload_n hx hb dX3_put_68 rfl (lv_at hl 4 rfl) ?_
            refine lv_lload hx hb dX3_put_69 (lv_at hl 2 rfl) ?_
            refine lv_ldiv hx hb dX3_put_71 b_10 ?_
            refine lv_topl (fun x_12 ex_12 => ?_)
            refine r_put X kcX3 (ci := 3) rfl hP hD hS 0 rfl 0 (by decide) fX3_13 rfl rfl rfl (Nat.le_of_ble_eq_true rfl) dX3_put_72 (fun H locs hP hD hS => ?_)
            have hP : va_P (dC, dI) vwCl [(h0, .inr (3, [.long x_12, .long q_lower]))] H := hP
            have hD : va_D A [(h0, .inr (3, [.long x_12, .long q_lower]))] := hD
            refine lv_aload_n hx hb dX3_put_75 rfl (lv_at hl 3 rfl) ?_
            refine lv_lload_n hx hb dX3_put_76 rfl (lv_at hl 5 rfl) ?_
            refine lv_lload hx hb dX3_put_77 (lv_at hl 2 rfl) ?_
            refine lv_ldiv hx hb dX3_put_79 b_10 ?_
            refine lv_topl (fun x_13 ex_13 => ?_)
            refine r_put X kcX3 (ci := 3) rfl hP hD hS 0 rfl 1 (by decide) fX3_7 rfl rfl rfl (Nat.le_of_ble_eq_true rfl) dX3_put_80 (fun H locs hP hD hS => ?_)
            have hP : va_P (dC, dI) vwCl [(h0, .inr (3, [.long x_12, .long x_13]))] H := hP
            have hD : va_D A [(h0, .inr (3, [.long x_12, .long x_13]))] := hD
            exact eV hQ X hr hlocks hP hD hS (x_12, x_13) [0] (by decide) rfl trivial (Nat.le_of_ble_eq_true rfl) (Nat.le_of_ble_eq_true rfl) dX3_put_83
          · have h_11 : i_6.toInt < 100 := c_nle h_11
            refine lv_lload hx hb dX3_put_39 (lv_at hl 1 rfl) ?_
            refine lv_lconst (v := 0) hx hb dX3_put_41 (by decide) ?_
            refine W.lcmp hx hb dX3_put_42 ?_
            refine lv_topi (fun x_14 ex_14 => ?_)
            refine lv_if_eq (tgt := 67) hx hb dX3_put_43 (by decide) (fun h_15 => ?_) (fun h_15 => ?_)
            · have h_15 : x_14.toInt = 0 := c_eq h_15
              refine lv_aload_n hx hb dX3_put_67 rfl (lv_at hl 3 rfl) ?_
              refine lv_lload_n hx hb dX3_put_68 rfl (lv_at hl 4 rfl) ?_
              refine lv_lload hx hb dX3_put_69 (lv_at hl 2 rfl) ?_
              refine lv_ldiv hx hb dX3_put_71 b_10 ?_
              refine lv_topl (fun x_16 ex_16 => ?_)
              refine r_put X kcX3 (ci := 3) rfl hP hD hS 0 rfl 0 (by decide) fX3_13 rfl rfl rfl (Nat.le_of_ble_eq_true rfl) dX3_put_72 (fun H locs hP hD hS => ?_)
              have hP : va_P (dC, dI) vwCl [(h0, .inr (3, [.long x_16, .long q_lower]))] H := hP
              have hD : va_D A [(h0, .inr (3, [.long x_16, .long q_lower]))] := hD
              refine lv_aload_n hx hb dX3_put_75 rfl (lv_at hl 3 rfl) ?_
              refine lv_lload_n hx hb dX3_put_76 rfl (lv_at hl 5 rfl) ?_
              refine lv_lload hx hb dX3_put_77 (lv_at hl 2 rfl) ?_
              refine lv_ldiv hx hb dX3_put_79 b_10 ?_
              refine lv_topl (fun x_17 ex_17 => ?_)
              refine r_put X kcX3 (ci := 3) rfl hP hD hS 0 rfl 1 (by decide) fX3_7 rfl rfl rfl (Nat.le_of_ble_eq_true rfl) dX3_put_80 (fun H locs hP hD hS => ?_)
              have hP : va_P (dC, dI) vwCl [(h0, .inr (3, [.long x_16, .long x_17]))] H := hP
              have hD : va_D A [(h0, .inr (3, [.long x_16, .long x_17]))] := hD
              exact eV hQ X hr hlocks hP hD hS (x_16, x_17) [0] (by decide) rfl trivial (Nat.le_of_ble_eq_true rfl) (Nat.le_of_ble_eq_true rfl) dX3_put_83
            · have h_15 : x_14.toInt ≠ 0 := c_ne h_15
              refine lv_lload hx hb dX3_put_46 (lv_at hl 2 rfl) ?_
              refine lv_lload hx hb dX3_put_48 (lv_at hl 1 rfl) ?_
              refine lv_lrem hx hb dX3_put_50 (nz_cmp ex_14 (by omega)) ?_
              refine lv_topl (fun x_18 ex_18 => ?_)
              refine lv_lstore (lv' := [(10, .long x_18), (9, .int i_6), (7, .long i_8), (5, .long i_9), (0, .ref h0), (1, .long p1), (3, .long p2)]) hx hb dX3_put_51 hl (by decide) rfl (fun ls hl => ?_)
              refine lv_lload hx hb dX3_put_53 (lv_at hl 2 rfl) ?_
              refine lv_lstore (lv' := [(5, .long i_8), (10, .long x_18), (9, .int i_6), (7, .long i_8), (0, .ref h0), (1, .long p1), (3, .long p2)]) hx hb dX3_put_55 hl (by decide) rfl (fun ls hl => ?_)
              refine lv_lload hx hb dX3_put_57 (lv_at hl 1 rfl) ?_
              refine lv_lstore (lv' := [(7, .long x_18), (5, .long i_8), (10, .long x_18), (9, .int i_6), (0, .ref h0), (1, .long p1), (3, .long p2)]) hx hb dX3_put_59 hl (by decide) rfl (fun ls hl => ?_)
              obtain ⟨x_19, ex_19⟩ : ∃ y : Int32, y = i_6 + 1 := ⟨_, rfl⟩
              have tx_19 : x_19.toInt = i_6.toInt + 1 := ti_add (A := i_6.toInt) (B := 1) ex_19 rfl rfl (by omega) (by omega)
              refine lv_iinc (v := x_19) (lv' := [(9, .int x_19), (7, .long x_18), (5, .long i_8), (10, .long x_18), (0, .ref h0), (1, .long p1), (3, .long p2)]) hx hb dX3_put_61 hl (k := 3) rfl (by rw [ex_19]; rfl) (by decide) rfl (fun ls hl => ?_)
              refine lv_goto (tgt := 32) hx hb dX3_put_64 (by decide) ?_
              exact ihlp_5 x_19 x_18 i_8 _ _ _ (by omega) (nz_cmp ex_14 (by omega)) (show 101 - x_19.toInt ≤ (nlp_5 : Int) by omega) hP hD hS (lv_sub hl [0, 1, 2, 4, 5, 6] rfl)
      exact lp_5 101 0 p2 p1 _ _ _ (by decide) (nz_cmp ex_1 (by omega)) (show 101 - 0 ≤ ((101 : Nat) : Int) by omega) hP hD hS hl
    · have h_4 : x_3.toInt ≤ 0 := c_nlt h_4
      refine lv_aload_n hx hb dX3_put_12 rfl (lv_at hl 0 rfl) ?_
      refine lv_lconst (v := 0) hx hb dX3_put_13 (by decide) ?_
      refine r_put X kcX3 (ci := 3) rfl hP hD hS 0 rfl 0 (by decide) fX3_13 rfl rfl rfl (Nat.le_of_ble_eq_true rfl) dX3_put_14 (fun H locs hP hD hS => ?_)
      have hP : va_P (dC, dI) vwCl [(h0, .inr (3, [.long 0, .long q_lower]))] H := hP
      have hD : va_D A [(h0, .inr (3, [.long 0, .long q_lower]))] := hD
      refine lv_aload_n hx hb dX3_put_17 rfl (lv_at hl 0 rfl) ?_
      refine lv_lconst (v := 1) hx hb dX3_put_18 (by decide) ?_
      refine r_put X kcX3 (ci := 3) rfl hP hD hS 0 rfl 1 (by decide) fX3_7 rfl rfl rfl (Nat.le_of_ble_eq_true rfl) dX3_put_19 (fun H locs hP hD hS => ?_)
      have hP : va_P (dC, dI) vwCl [(h0, .inr (3, [.long 0, .long 1]))] H := hP
      have hD : va_D A [(h0, .inr (3, [.long 0, .long 1]))] := hD
      exact eV hQ X hr hlocks hP hD hS (0, 1) [0] (by decide) rfl trivial (Nat.le_of_ble_eq_true rfl) (Nat.le_of_ble_eq_true rfl) dX3_put_22
set_option maxHeartbeats 4000000 in
set_option maxRecDepth 100000 in
theorem sX3_putBinomial (l : Launch) (dC : Nat → ClassId) (dI : Nat → Nat → Nat) (cy : Nat → ClassId) (h0 : Nat) (q_upper : Int64) (q_lower : Int64) (p1 : Int32) (p2 : Int32) (p3 : Int32) (hp2 : 0 ≤ p2.toInt ∧ p2.toInt ≤ 9) : ctV l dC dI cy yX3_putBinomial cX3_putBinomial 9 ({ frames := 1, cells := 0, slots := 0, locals := 31 } : Room) [.ref h0, .int p1, .int p2, .int p3] [(h0, .inr (3, [.long q_upper, .long q_lower]))] (S := Int64 × Int64) (fun u => True) (fun u => [(h0, .inr (3, [.long u.1, .long u.2]))]) := by
  refine ctV.of (by decide +kernel) (Nat.le_of_ble_eq_true rfl) ?_
  intro p e s m args below meth c A ls Q hQ X hr hlocks hin hA hP hD hS hl
  have hx := X.1
  have hb := X.2.1
  have hK := X.2.2.2.2.2.1
  have hl : lv_has ls 9 [(0, .ref h0), (1, .int p1), (2, .int p2), (3, .int p3)] := hl
  refine lv_iload_n hx hb dX3_putBinomial_0 rfl (lv_at hl 2 rfl) ?_
  refine lv_iload_n hx hb dX3_putBinomial_1 rfl (lv_at hl 1 rfl) ?_
  refine lv_icmp_le (tgt := 9) hx hb dX3_putBinomial_2 (by decide) (fun h_1 => ?_) (fun h_1 => ?_)
  · have h_1 : p2.toInt ≤ p1.toInt := c_le h_1
    refine lv_lconst (v := 1) hx hb dX3_putBinomial_9 (by decide) ?_
    refine lv_lstore (lv' := [(4, .long 1), (0, .ref h0), (1, .int p1), (2, .int p2), (3, .int p3)]) hx hb dX3_putBinomial_10 hl (by decide) rfl (fun ls hl => ?_)
    refine lv_iconst (v := 1) hx hb dX3_putBinomial_12 (by decide) ?_
    refine lv_istore (lv' := [(6, .int 1), (4, .long 1), (0, .ref h0), (1, .int p1), (2, .int p2), (3, .int p3)]) hx hb dX3_putBinomial_13 hl (by decide) rfl (fun ls hl => ?_)
    have lp_2 : ∀ (nlp_2 : Nat) (i_3 : Int32) (i_5 : Int64) (H : Heap) (locs : List Loc) (ls : Array Slot), (1 ≤ i_3.toInt ∧ i_3.toInt ≤ 10) → (11 - i_3.toInt ≤ (nlp_2 : Int)) → va_P (dC, dI) vwCl [(h0, .inr (3, [.long q_upper, .long q_lower]))] H → va_D A [(h0, .inr (3, [.long q_upper, .long q_lower]))] → va_S A s.heap H locs → lv_has ls 9 [(6, .int i_3), (4, .long i_5), (0, .ref h0), (1, .int p1), (2, .int p2), (3, .int p3)] → W p l e ({ frames := 1, cells := 0, slots := 0, locals := 31 } : Room) s m args below meth c H locs 0 0 Q (F0 m 15 ls []) := by
      intro nlp_2
      induction nlp_2 with
      | zero =>
        intro i_3 i_5 H locs ls b_4 hmlp_2 hP hD hS hl
        exfalso
        omega
      | succ nlp_2 ihlp_2 =>
        intro i_3 i_5 H locs ls b_4 hmlp_2 hP hD hS hl
        refine lv_iload hx hb dX3_putBinomial_15 (lv_at hl 0 rfl) ?_
        refine lv_iload_n hx hb dX3_putBinomial_17 rfl (lv_at hl 4 rfl) ?_
        refine lv_icmp_gt (tgt := 43) hx hb dX3_putBinomial_18 (by decide) (fun h_6 => ?_) (fun h_6 => ?_)
        · have h_6 : p2.toInt < i_3.toInt := c_lt h_6
          refine lv_lconst (v := 1) hx hb dX3_putBinomial_43 (by decide) ?_
          refine lv_lstore (lv' := [(6, .long 1), (4, .long i_5), (0, .ref h0), (1, .int p1), (2, .int p2), (3, .int p3)]) hx hb dX3_putBinomial_44 hl (by decide) rfl (fun ls hl => ?_)
          refine lv_iconst (v := 0) hx hb dX3_putBinomial_46 (by decide) ?_
          refine lv_istore (lv' := [(8, .int 0), (6, .long 1), (4, .long i_5), (0, .ref h0), (1, .int p1), (2, .int p2), (3, .int p3)]) hx hb dX3_putBinomial_47 hl (by decide) rfl (fun ls hl => ?_)
          have lp_7 : ∀ (nlp_7 : Nat) (i_8 : Int32) (i_10 : Int64) (i_11 : Int64) (H : Heap) (locs : List Loc) (ls : Array Slot), (0 ≤ i_8.toInt) → (2147483648 - i_8.toInt ≤ (nlp_7 : Int)) → va_P (dC, dI) vwCl [(h0, .inr (3, [.long q_upper, .long q_lower]))] H → va_D A [(h0, .inr (3, [.long q_upper, .long q_lower]))] → va_S A s.heap H locs → lv_has ls 9 [(8, .int i_8), (6, .long i_10), (4, .long i_11), (0, .ref h0), (1, .int p1), (2, .int p2), (3, .int p3)] → W p l e ({ frames := 1, cells := 0, slots := 0, locals := 31 } : Room) s m args below meth c H locs 0 0 Q (F0 m 49 ls []) := by
            intro nlp_7
            induction nlp_7 with
            | zero =>
              intro i_8 i_10 i_11 H locs ls b_9 hmlp_7 hP hD hS hl
              exfalso
              omega
            | succ nlp_7 ihlp_7 =>
              intro i_8 i_10 i_11 H locs ls b_9 hmlp_7 hP hD hS hl
              refine lv_iload hx hb dX3_putBinomial_49 (lv_at hl 0 rfl) ?_
              refine lv_iload_n hx hb dX3_putBinomial_51 rfl (lv_at hl 4 rfl) ?_
              refine lv_icmp_ge (tgt := 90) hx hb dX3_putBinomial_52 (by decide) (fun h_12 => ?_) (fun h_12 => ?_)
              · have h_12 : p1.toInt ≤ i_8.toInt := c_le h_12
                refine lv_aload_n hx hb dX3_putBinomial_90 rfl (lv_at hl 3 rfl) ?_
                refine lv_lload hx hb dX3_putBinomial_91 (lv_at hl 2 rfl) ?_
                refine lv_lload hx hb dX3_putBinomial_93 (lv_at hl 1 rfl) ?_
                refine fV (wr := []) (rV_V (wc := [(h0, .inr (3, [.long q_upper, .long q_lower]))]) (As := [.long i_11, .long i_10]) (rest := []) X (sX3_put l dC dI cy h0 q_upper q_lower i_11 i_10) kX3_put vX3_put mX3_18 hP hD [0] (by decide) rfl 0 (ci := 3) rfl rfl rfl hl rfl rfl (Nat.le_of_ble_eq_true rfl) dX3_putBinomial_95 ⟨(Nat.le_of_ble_eq_true rfl), (Nat.le_of_ble_eq_true rfl)⟩ ⟨(Nat.le_of_ble_eq_true rfl), (Nat.le_of_ble_eq_true rfl)⟩) hP hD hS hA [0] [] rfl rfl (by decide) (by decide) (fun u_17 H locs k_16 hP hD hS => ?_)
                obtain ⟨q_upper1_13, q_lower1_14⟩ := u_17
                have hP : va_P (dC, dI) vwCl [(h0, .inr (3, [.long q_upper1_13, .long q_lower1_14]))] H := hP
                have hD : va_D A [(h0, .inr (3, [.long q_upper1_13, .long q_lower1_14]))] := hD
                exact eV hQ X hr hlocks hP hD hS (q_upper1_13, q_lower1_14) [0] (by decide) rfl trivial (Nat.le_of_ble_eq_true rfl) (Nat.le_of_ble_eq_true rfl) dX3_putBinomial_98
              · have h_12 : i_8.toInt < p1.toInt := c_nle h_12
                refine lv_lload hx hb dX3_putBinomial_55 (lv_at hl 2 rfl) ?_
                refine lv_iload hx hb dX3_putBinomial_57 (lv_at hl 0 rfl) ?_
                refine lv_iload_n hx hb dX3_putBinomial_59 rfl (lv_at hl 5 rfl) ?_
                refine lv_icmp_ge (tgt := 68) hx hb dX3_putBinomial_60 (by decide) (fun h_18 => ?_) (fun h_18 => ?_)
                · have h_18 : p2.toInt ≤ i_8.toInt := c_le h_18
                  refine lv_bipush (v := 100) hx hb dX3_putBinomial_68 (by decide) ?_
                  refine lv_iload_n hx hb dX3_putBinomial_70 rfl (lv_at hl 6 rfl) ?_
                  refine lv_isub hx hb dX3_putBinomial_71 ?_
                  refine lv_topi (fun x_19 ex_19 => ?_)
                  obtain ⟨x_20, ex_20⟩ : ∃ y : Int64, x_19.toInt64 = y := ⟨_, rfl⟩
                  refine lv_i2l hx hb dX3_putBinomial_72 ex_20 ?_
                  refine lv_lmul hx hb dX3_putBinomial_73 ?_
                  refine lv_topl (fun x_21 ex_21 => ?_)
                  refine lv_lstore (lv' := [(4, .long x_21), (8, .int i_8), (6, .long i_10), (0, .ref h0), (1, .int p1), (2, .int p2), (3, .int p3)]) hx hb dX3_putBinomial_74 hl (by decide) rfl (fun ls hl => ?_)
                  refine lv_lload hx hb dX3_putBinomial_76 (lv_at hl 2 rfl) ?_
                  refine lv_ldc2 (v := 100) hx hb X.2.2.2.1 (X.2.2.2.2.1 _ w_1172) dX3_putBinomial_78 ?_
                  refine lv_lmul hx hb dX3_putBinomial_81 ?_
                  refine lv_topl (fun x_22 ex_22 => ?_)
                  refine lv_lstore (lv' := [(6, .long x_22), (4, .long x_21), (8, .int i_8), (0, .ref h0), (1, .int p1), (2, .int p2), (3, .int p3)]) hx hb dX3_putBinomial_82 hl (by decide) rfl (fun ls hl => ?_)
                  obtain ⟨x_23, ex_23⟩ : ∃ y : Int32, y = i_8 + 1 := ⟨_, rfl⟩
                  have tx_23 : x_23.toInt = i_8.toInt + 1 := ti_add (A := i_8.toInt) (B := 1) ex_23 rfl rfl (by omega) (by omega)
                  refine lv_iinc (v := x_23) (lv' := [(8, .int x_23), (6, .long x_22), (4, .long x_21), (0, .ref h0), (1, .int p1), (2, .int p2), (3, .int p3)]) hx hb dX3_putBinomial_84 hl (k := 2) rfl (by rw [ex_23]; rfl) (by decide) rfl (fun ls hl => ?_)
                  refine lv_goto (tgt := 49) hx hb dX3_putBinomial_87 (by decide) ?_
                  exact ihlp_7 x_23 x_22 x_21 _ _ _ (by omega) (show 2147483648 - x_23.toInt ≤ (nlp_7 : Int) by omega) hP hD hS (lv_sub hl [0, 1, 2, 3, 4, 5, 6] rfl)
                · have h_18 : i_8.toInt < p2.toInt := c_nle h_18
                  refine lv_iload_n hx hb dX3_putBinomial_63 rfl (lv_at hl 6 rfl) ?_
                  obtain ⟨x_24, ex_24⟩ : ∃ y : Int64, p3.toInt64 = y := ⟨_, rfl⟩
                  refine lv_i2l hx hb dX3_putBinomial_64 ex_24 ?_
                  refine lv_goto (tgt := 73) hx hb dX3_putBinomial_65 (by decide) ?_
                  refine lv_lmul hx hb dX3_putBinomial_73 ?_
                  refine lv_topl (fun x_25 ex_25 => ?_)
                  refine lv_lstore (lv' := [(4, .long x_25), (8, .int i_8), (6, .long i_10), (0, .ref h0), (1, .int p1), (2, .int p2), (3, .int p3)]) hx hb dX3_putBinomial_74 hl (by decide) rfl (fun ls hl => ?_)
                  refine lv_lload hx hb dX3_putBinomial_76 (lv_at hl 2 rfl) ?_
                  refine lv_ldc2 (v := 100) hx hb X.2.2.2.1 (X.2.2.2.2.1 _ w_1172) dX3_putBinomial_78 ?_
                  refine lv_lmul hx hb dX3_putBinomial_81 ?_
                  refine lv_topl (fun x_26 ex_26 => ?_)
                  refine lv_lstore (lv' := [(6, .long x_26), (4, .long x_25), (8, .int i_8), (0, .ref h0), (1, .int p1), (2, .int p2), (3, .int p3)]) hx hb dX3_putBinomial_82 hl (by decide) rfl (fun ls hl => ?_)
                  obtain ⟨x_27, ex_27⟩ : ∃ y : Int32, y = i_8 + 1 := ⟨_, rfl⟩
                  have tx_27 : x_27.toInt = i_8.toInt + 1 := ti_add (A := i_8.toInt) (B := 1) ex_27 rfl rfl (by omega) (by omega)
                  refine lv_iinc (v := x_27) (lv' := [(8, .int x_27), (6, .long x_26), (4, .long x_25), (0, .ref h0), (1, .int p1), (2, .int p2), (3, .int p3)]) hx hb dX3_putBinomial_84 hl (k := 2) rfl (by rw [ex_27]; rfl) (by decide) rfl (fun ls hl => ?_)
                  refine lv_goto (tgt := 49) hx hb dX3_putBinomial_87 (by decide) ?_
                  exact ihlp_7 x_27 x_26 x_25 _ _ _ (by omega) (show 2147483648 - x_27.toInt ≤ (nlp_7 : Int) by omega) hP hD hS (lv_sub hl [0, 1, 2, 3, 4, 5, 6] rfl)
          exact lp_7 2147483649 0 1 i_5 _ _ _ (by decide) (show 2147483648 - 0 ≤ ((2147483649 : Nat) : Int) by omega) hP hD hS hl
        · have h_6 : i_3.toInt ≤ p2.toInt := c_nlt h_6
          refine lv_lload hx hb dX3_putBinomial_21 (lv_at hl 1 rfl) ?_
          refine lv_iload_n hx hb dX3_putBinomial_23 rfl (lv_at hl 3 rfl) ?_
          refine lv_iload_n hx hb dX3_putBinomial_24 rfl (lv_at hl 4 rfl) ?_
          refine lv_isub hx hb dX3_putBinomial_25 ?_
          refine lv_topi (fun x_28 ex_28 => ?_)
          have tx_28 : x_28.toInt = p1.toInt - p2.toInt := ti_sub (A := p1.toInt) (B := p2.toInt) ex_28 rfl rfl (by omega) (by omega)
          refine lv_iload hx hb dX3_putBinomial_26 (lv_at hl 0 rfl) ?_
          refine lv_iadd hx hb dX3_putBinomial_28 ?_
          refine lv_topi (fun x_29 ex_29 => ?_)
          obtain ⟨x_30, ex_30⟩ : ∃ y : Int64, x_29.toInt64 = y := ⟨_, rfl⟩
          refine lv_i2l hx hb dX3_putBinomial_29 ex_30 ?_
          refine lv_lmul hx hb dX3_putBinomial_30 ?_
          refine lv_topl (fun x_31 ex_31 => ?_)
          refine lv_iload hx hb dX3_putBinomial_31 (lv_at hl 0 rfl) ?_
          obtain ⟨x_32, ex_32⟩ : ∃ y : Int64, i_3.toInt64 = y := ⟨_, rfl⟩
          refine lv_i2l hx hb dX3_putBinomial_33 ex_32 ?_
          refine lv_ldiv hx hb dX3_putBinomial_34 (nz_i2l ex_32 (by omega)) ?_
          refine lv_topl (fun x_33 ex_33 => ?_)
          refine lv_lstore (lv' := [(4, .long x_33), (6, .int i_3), (0, .ref h0), (1, .int p1), (2, .int p2), (3, .int p3)]) hx hb dX3_putBinomial_35 hl (by decide) rfl (fun ls hl => ?_)
          obtain ⟨x_34, ex_34⟩ : ∃ y : Int32, y = i_3 + 1 := ⟨_, rfl⟩
          have tx_34 : x_34.toInt = i_3.toInt + 1 := ti_add (A := i_3.toInt) (B := 1) ex_34 rfl rfl (by omega) (by omega)
          refine lv_iinc (v := x_34) (lv' := [(6, .int x_34), (4, .long x_33), (0, .ref h0), (1, .int p1), (2, .int p2), (3, .int p3)]) hx hb dX3_putBinomial_37 hl (k := 1) rfl (by rw [ex_34]; rfl) (by decide) rfl (fun ls hl => ?_)
          refine lv_goto (tgt := 15) hx hb dX3_putBinomial_40 (by decide) ?_
          exact ihlp_2 x_34 x_33 _ _ _ (by omega) (show 11 - x_34.toInt ≤ (nlp_2 : Int) by omega) hP hD hS (lv_sub hl [0, 1, 2, 3, 4, 5] rfl)
    exact lp_2 11 1 1 _ _ _ (by decide) (show 11 - 1 ≤ ((11 : Nat) : Int) by omega) hP hD hS hl
  · have h_1 : p1.toInt < p2.toInt := c_nle h_1
    refine lv_lconst (v := 0) hx hb dX3_putBinomial_5 (by decide) ?_
    refine lv_goto (tgt := 10) hx hb dX3_putBinomial_6 (by decide) ?_
    refine lv_lstore (lv' := [(4, .long 0), (0, .ref h0), (1, .int p1), (2, .int p2), (3, .int p3)]) hx hb dX3_putBinomial_10 hl (by decide) rfl (fun ls hl => ?_)
    refine lv_iconst (v := 1) hx hb dX3_putBinomial_12 (by decide) ?_
    refine lv_istore (lv' := [(6, .int 1), (4, .long 0), (0, .ref h0), (1, .int p1), (2, .int p2), (3, .int p3)]) hx hb dX3_putBinomial_13 hl (by decide) rfl (fun ls hl => ?_)
    have lp_35 : ∀ (nlp_35 : Nat) (i_36 : Int32) (i_38 : Int64) (H : Heap) (locs : List Loc) (ls : Array Slot), (1 ≤ i_36.toInt ∧ i_36.toInt ≤ 10) → (11 - i_36.toInt ≤ (nlp_35 : Int)) → va_P (dC, dI) vwCl [(h0, .inr (3, [.long q_upper, .long q_lower]))] H → va_D A [(h0, .inr (3, [.long q_upper, .long q_lower]))] → va_S A s.heap H locs → lv_has ls 9 [(6, .int i_36), (4, .long i_38), (0, .ref h0), (1, .int p1), (2, .int p2), (3, .int p3)] → W p l e ({ frames := 1, cells := 0, slots := 0, locals := 31 } : Room) s m args below meth c H locs 0 0 Q (F0 m 15 ls []) := by
      intro nlp_35
      induction nlp_35 with
      | zero =>
        intro i_36 i_38 H locs ls b_37 hmlp_35 hP hD hS hl
        exfalso
        omega
      | succ nlp_35 ihlp_35 =>
        intro i_36 i_38 H locs ls b_37 hmlp_35 hP hD hS hl
        refine lv_iload hx hb dX3_putBinomial_15 (lv_at hl 0 rfl) ?_
        refine lv_iload_n hx hb dX3_putBinomial_17 rfl (lv_at hl 4 rfl) ?_
        refine lv_icmp_gt (tgt := 43) hx hb dX3_putBinomial_18 (by decide) (fun h_39 => ?_) (fun h_39 => ?_)
        · have h_39 : p2.toInt < i_36.toInt := c_lt h_39
          refine lv_lconst (v := 1) hx hb dX3_putBinomial_43 (by decide) ?_
          refine lv_lstore (lv' := [(6, .long 1), (4, .long i_38), (0, .ref h0), (1, .int p1), (2, .int p2), (3, .int p3)]) hx hb dX3_putBinomial_44 hl (by decide) rfl (fun ls hl => ?_)
          refine lv_iconst (v := 0) hx hb dX3_putBinomial_46 (by decide) ?_
          refine lv_istore (lv' := [(8, .int 0), (6, .long 1), (4, .long i_38), (0, .ref h0), (1, .int p1), (2, .int p2), (3, .int p3)]) hx hb dX3_putBinomial_47 hl (by decide) rfl (fun ls hl => ?_)
          have lp_40 : ∀ (nlp_40 : Nat) (i_41 : Int32) (i_43 : Int64) (i_44 : Int64) (H : Heap) (locs : List Loc) (ls : Array Slot), (0 ≤ i_41.toInt) → (2147483648 - i_41.toInt ≤ (nlp_40 : Int)) → va_P (dC, dI) vwCl [(h0, .inr (3, [.long q_upper, .long q_lower]))] H → va_D A [(h0, .inr (3, [.long q_upper, .long q_lower]))] → va_S A s.heap H locs → lv_has ls 9 [(8, .int i_41), (6, .long i_43), (4, .long i_44), (0, .ref h0), (1, .int p1), (2, .int p2), (3, .int p3)] → W p l e ({ frames := 1, cells := 0, slots := 0, locals := 31 } : Room) s m args below meth c H locs 0 0 Q (F0 m 49 ls []) := by
            intro nlp_40
            induction nlp_40 with
            | zero =>
              intro i_41 i_43 i_44 H locs ls b_42 hmlp_40 hP hD hS hl
              exfalso
              omega
            | succ nlp_40 ihlp_40 =>
              intro i_41 i_43 i_44 H locs ls b_42 hmlp_40 hP hD hS hl
              refine lv_iload hx hb dX3_putBinomial_49 (lv_at hl 0 rfl) ?_
              refine lv_iload_n hx hb dX3_putBinomial_51 rfl (lv_at hl 4 rfl) ?_
              refine lv_icmp_ge (tgt := 90) hx hb dX3_putBinomial_52 (by decide) (fun h_45 => ?_) (fun h_45 => ?_)
              · have h_45 : p1.toInt ≤ i_41.toInt := c_le h_45
                refine lv_aload_n hx hb dX3_putBinomial_90 rfl (lv_at hl 3 rfl) ?_
                refine lv_lload hx hb dX3_putBinomial_91 (lv_at hl 2 rfl) ?_
                refine lv_lload hx hb dX3_putBinomial_93 (lv_at hl 1 rfl) ?_
                refine fV (wr := []) (rV_V (wc := [(h0, .inr (3, [.long q_upper, .long q_lower]))]) (As := [.long i_44, .long i_43]) (rest := []) X (sX3_put l dC dI cy h0 q_upper q_lower i_44 i_43) kX3_put vX3_put mX3_18 hP hD [0] (by decide) rfl 0 (ci := 3) rfl rfl rfl hl rfl rfl (Nat.le_of_ble_eq_true rfl) dX3_putBinomial_95 ⟨(Nat.le_of_ble_eq_true rfl), (Nat.le_of_ble_eq_true rfl)⟩ ⟨(Nat.le_of_ble_eq_true rfl), (Nat.le_of_ble_eq_true rfl)⟩) hP hD hS hA [0] [] rfl rfl (by decide) (by decide) (fun u_50 H locs k_49 hP hD hS => ?_)
                obtain ⟨q_upper1_46, q_lower1_47⟩ := u_50
                have hP : va_P (dC, dI) vwCl [(h0, .inr (3, [.long q_upper1_46, .long q_lower1_47]))] H := hP
                have hD : va_D A [(h0, .inr (3, [.long q_upper1_46, .long q_lower1_47]))] := hD
                exact eV hQ X hr hlocks hP hD hS (q_upper1_46, q_lower1_47) [0] (by decide) rfl trivial (Nat.le_of_ble_eq_true rfl) (Nat.le_of_ble_eq_true rfl) dX3_putBinomial_98
              · have h_45 : i_41.toInt < p1.toInt := c_nle h_45
                refine lv_lload hx hb dX3_putBinomial_55 (lv_at hl 2 rfl) ?_
                refine lv_iload hx hb dX3_putBinomial_57 (lv_at hl 0 rfl) ?_
                refine lv_iload_n hx hb dX3_putBinomial_59 rfl (lv_at hl 5 rfl) ?_
                refine lv_icmp_ge (tgt := 68) hx hb dX3_putBinomial_60 (by decide) (fun h_51 => ?_) (fun h_51 => ?_)
                · have h_51 : p2.toInt ≤ i_41.toInt := c_le h_51
                  refine lv_bipush (v := 100) hx hb dX3_putBinomial_68 (by decide) ?_
                  refine lv_iload_n hx hb dX3_putBinomial_70 rfl (lv_at hl 6 rfl) ?_
                  refine lv_isub hx hb dX3_putBinomial_71 ?_
                  refine lv_topi (fun x_52 ex_52 => ?_)
                  obtain ⟨x_53, ex_53⟩ : ∃ y : Int64, x_52.toInt64 = y := ⟨_, rfl⟩
                  refine lv_i2l hx hb dX3_putBinomial_72 ex_53 ?_
                  refine lv_lmul hx hb dX3_putBinomial_73 ?_
                  refine lv_topl (fun x_54 ex_54 => ?_)
                  refine lv_lstore (lv' := [(4, .long x_54), (8, .int i_41), (6, .long i_43), (0, .ref h0), (1, .int p1), (2, .int p2), (3, .int p3)]) hx hb dX3_putBinomial_74 hl (by decide) rfl (fun ls hl => ?_)
                  refine lv_lload hx hb dX3_putBinomial_76 (lv_at hl 2 rfl) ?_
                  refine lv_ldc2 (v := 100) hx hb X.2.2.2.1 (X.2.2.2.2.1 _ w_1172) dX3_putBinomial_78 ?_
                  refine lv_lmul hx hb dX3_putBinomial_81 ?_
                  refine lv_topl (fun x_55 ex_55 => ?_)
                  refine lv_lstore (lv' := [(6, .long x_55), (4, .long x_54), (8, .int i_41), (0, .ref h0), (1, .int p1), (2, .int p2), (3, .int p3)]) hx hb dX3_putBinomial_82 hl (by decide) rfl (fun ls hl => ?_)
                  obtain ⟨x_56, ex_56⟩ : ∃ y : Int32, y = i_41 + 1 := ⟨_, rfl⟩
                  have tx_56 : x_56.toInt = i_41.toInt + 1 := ti_add (A := i_41.toInt) (B := 1) ex_56 rfl rfl (by omega) (by omega)
                  refine lv_iinc (v := x_56) (lv' := [(8, .int x_56), (6, .long x_55), (4, .long x_54), (0, .ref h0), (1, .int p1), (2, .int p2), (3, .int p3)]) hx hb dX3_putBinomial_84 hl (k := 2) rfl (by rw [ex_56]; rfl) (by decide) rfl (fun ls hl => ?_)
                  refine lv_goto (tgt := 49) hx hb dX3_putBinomial_87 (by decide) ?_
                  exact ihlp_40 x_56 x_55 x_54 _ _ _ (by omega) (show 2147483648 - x_56.toInt ≤ (nlp_40 : Int) by omega) hP hD hS (lv_sub hl [0, 1, 2, 3, 4, 5, 6] rfl)
                · have h_51 : i_41.toInt < p2.toInt := c_nle h_51
                  refine lv_iload_n hx hb dX3_putBinomial_63 rfl (lv_at hl 6 rfl) ?_
                  obtain ⟨x_57, ex_57⟩ : ∃ y : Int64, p3.toInt64 = y := ⟨_, rfl⟩
                  refine lv_i2l hx hb dX3_putBinomial_64 ex_57 ?_
                  refine lv_goto (tgt := 73) hx hb dX3_putBinomial_65 (by decide) ?_
                  refine lv_lmul hx hb dX3_putBinomial_73 ?_
                  refine lv_topl (fun x_58 ex_58 => ?_)
                  refine lv_lstore (lv' := [(4, .long x_58), (8, .int i_41), (6, .long i_43), (0, .ref h0), (1, .int p1), (2, .int p2), (3, .int p3)]) hx hb dX3_putBinomial_74 hl (by decide) rfl (fun ls hl => ?_)
                  refine lv_lload hx hb dX3_putBinomial_76 (lv_at hl 2 rfl) ?_
                  refine lv_ldc2 (v := 100) hx hb X.2.2.2.1 (X.2.2.2.2.1 _ w_1172) dX3_putBinomial_78 ?_
                  refine lv_lmul hx hb dX3_putBinomial_81 ?_
                  refine lv_topl (fun x_59 ex_59 => ?_)
                  refine lv_lstore (lv' := [(6, .long x_59), (4, .long x_58), (8, .int i_41), (0, .ref h0), (1, .int p1), (2, .int p2), (3, .int p3)]) hx hb dX3_putBinomial_82 hl (by decide) rfl (fun ls hl => ?_)
                  obtain ⟨x_60, ex_60⟩ : ∃ y : Int32, y = i_41 + 1 := ⟨_, rfl⟩
                  have tx_60 : x_60.toInt = i_41.toInt + 1 := ti_add (A := i_41.toInt) (B := 1) ex_60 rfl rfl (by omega) (by omega)
                  refine lv_iinc (v := x_60) (lv' := [(8, .int x_60), (6, .long x_59), (4, .long x_58), (0, .ref h0), (1, .int p1), (2, .int p2), (3, .int p3)]) hx hb dX3_putBinomial_84 hl (k := 2) rfl (by rw [ex_60]; rfl) (by decide) rfl (fun ls hl => ?_)
                  refine lv_goto (tgt := 49) hx hb dX3_putBinomial_87 (by decide) ?_
                  exact ihlp_40 x_60 x_59 x_58 _ _ _ (by omega) (show 2147483648 - x_60.toInt ≤ (nlp_40 : Int) by omega) hP hD hS (lv_sub hl [0, 1, 2, 3, 4, 5, 6] rfl)
          exact lp_40 2147483649 0 1 i_38 _ _ _ (by decide) (show 2147483648 - 0 ≤ ((2147483649 : Nat) : Int) by omega) hP hD hS hl
        · have h_39 : i_36.toInt ≤ p2.toInt := c_nlt h_39
          refine lv_lload hx hb dX3_putBinomial_21 (lv_at hl 1 rfl) ?_
          refine lv_iload_n hx hb dX3_putBinomial_23 rfl (lv_at hl 3 rfl) ?_
          refine lv_iload_n hx hb dX3_putBinomial_24 rfl (lv_at hl 4 rfl) ?_
          refine lv_isub hx hb dX3_putBinomial_25 ?_
          refine lv_topi (fun x_61 ex_61 => ?_)
          refine lv_iload hx hb dX3_putBinomial_26 (lv_at hl 0 rfl) ?_
          refine lv_iadd hx hb dX3_putBinomial_28 ?_
          refine lv_topi (fun x_62 ex_62 => ?_)
          obtain ⟨x_63, ex_63⟩ : ∃ y : Int64, x_62.toInt64 = y := ⟨_, rfl⟩
          refine lv_i2l hx hb dX3_putBinomial_29 ex_63 ?_
          refine lv_lmul hx hb dX3_putBinomial_30 ?_
          refine lv_topl (fun x_64 ex_64 => ?_)
          refine lv_iload hx hb dX3_putBinomial_31 (lv_at hl 0 rfl) ?_
          obtain ⟨x_65, ex_65⟩ : ∃ y : Int64, i_36.toInt64 = y := ⟨_, rfl⟩
          refine lv_i2l hx hb dX3_putBinomial_33 ex_65 ?_
          refine lv_ldiv hx hb dX3_putBinomial_34 (nz_i2l ex_65 (by omega)) ?_
          refine lv_topl (fun x_66 ex_66 => ?_)
          refine lv_lstore (lv' := [(4, .long x_66), (6, .int i_36), (0, .ref h0), (1, .int p1), (2, .int p2), (3, .int p3)]) hx hb dX3_putBinomial_35 hl (by decide) rfl (fun ls hl => ?_)
          obtain ⟨x_67, ex_67⟩ : ∃ y : Int32, y = i_36 + 1 := ⟨_, rfl⟩
          have tx_67 : x_67.toInt = i_36.toInt + 1 := ti_add (A := i_36.toInt) (B := 1) ex_67 rfl rfl (by omega) (by omega)
          refine lv_iinc (v := x_67) (lv' := [(6, .int x_67), (4, .long x_66), (0, .ref h0), (1, .int p1), (2, .int p2), (3, .int p3)]) hx hb dX3_putBinomial_37 hl (k := 1) rfl (by rw [ex_67]; rfl) (by decide) rfl (fun ls hl => ?_)
          refine lv_goto (tgt := 15) hx hb dX3_putBinomial_40 (by decide) ?_
          exact ihlp_35 x_67 x_66 _ _ _ (by omega) (show 11 - x_67.toInt ≤ (nlp_35 : Int) by omega) hP hD hS (lv_sub hl [0, 1, 2, 3, 4, 5] rfl)
    exact lp_35 11 1 0 _ _ _ (by decide) (show 11 - 1 ≤ ((11 : Nat) : Int) by omega) hP hD hS hl
