set_option maxHeartbeats 4000000 in
set_option maxRecDepth 100000 in
theorem tX11_size (l : Launch) (dC : Nat → ClassId) (dI : Nat → Nat → Nat) (cy : Nat → ClassId) (h0 : Nat) (tp : Nat) (nw : Nat) (v2 : Value) (v3 : Value) (v4 : Value) (v5 : Value) (v6 : Value) (v7 : Value) (v8 : Value) (v9 : Value) (v10 : Value) (v11 : Value) (td : Nat) (v13 : Value) (v16 : Value) (bt : Nat) (gr : Nat) (gs : Nat) (n1 : Nat) (n2 : Nat) (n3 : Nat) (tg : Nat) (t0 : Nat) (t1 : Nat) (t2 : Nat) (t3 : Nat) (t4 : Nat) (t5 : Nat) (t6 : Nat) (t7 : Nat) (p1 : Int32) : ctI l dC dI cy yX11_size cX11_size 2 .int ({ frames := 0, cells := 0, slots := 0, locals := 0 }) [.ref h0, .int p1] [(h0, .inr (10, [.ref tp, .ref nw, v2, v3, v4, v5, v6, v7, v8, v9, v10, v11, .ref td, v13, .int 0, .int 0, v16])), (tp, .inr (8, [.ref bt, .int 0, .int 0, .int 0, .int 0, .int 0, .int 0, .int 0, .int 0])), (nw, .inr (6, [.ref gr, .ref n1, .ref n2, .ref n3, .int 0])), (gr, .inr (4, [.int 0, .int 0, .int 0, .ref gs])), (td, .inr (7, [.ref tg, .int 0, .int 0, .int 0, .int 0, .ref t0, .int 0, .ref t1, .ref t2, .ref t3, .ref t4, .int 0, .ref t5, .ref t6, .ref t7]))] (S := Unit) (fun r _ => r = szR p1) (fun _ => []) := by
  refine ctI.of (by decide +kernel) (Nat.le_of_ble_eq_true rfl) ?_
  intro p e s m args below meth c A ls X hr hlocks hin hA hP hD hS hl
  have hx := X.1
  have hb := X.2.1
  have hK := X.2.2.2.2.2.1
  have hl : lv_has ls 2 [(0, .ref h0), (1, .int p1)] := hl
  refine lv_iload_n hx hb dX11_size_0 rfl (lv_at hl 1 rfl) ?_
  by_cases h_1 : p1 = 0
  · refine lv_tableIn (off := 55) (tgt := 56) hx hb dX11_size_1 (by rw [h_1]; decide) (by rw [h_1]; decide) (by rw [h_1]; rfl) (by decide) ?_
    have th_1 : p1.toInt = 0 := c_eq h_1
    refine lv_aload_n hx hb dX11_size_56 rfl (lv_at hl 0 rfl) ?_
    refine r_get X kcX11 (ci := 10) rfl hP 0 rfl 1 (by decide) fX11_19 rfl dX11_size_57 ?_
    refine r_get X kcX6 (ci := 6) rfl hP 2 rfl 0 (by decide) fX11_121 rfl dX11_size_60 ?_
    refine r_get X kcX4 (ci := 4) rfl hP 3 rfl 0 (by decide) fX11_309 rfl dX11_size_63 ?_
    exact eI X hr hlocks hP hD hS () [] (by decide) rfl rfl (by rw [szR, if_pos (by omega)]) (Nat.le_of_ble_eq_true rfl) (Nat.le_of_ble_eq_true rfl) dX11_size_66
  by_cases h_2 : p1 = 1
  · refine lv_tableIn (off := 66) (tgt := 67) hx hb dX11_size_1 (by rw [h_2]; decide) (by rw [h_2]; decide) (by rw [h_2]; rfl) (by decide) ?_
    have th_2 : p1.toInt = 1 := c_eq h_2
    refine lv_aload_n hx hb dX11_size_67 rfl (lv_at hl 0 rfl) ?_
    refine r_get X kcX11 (ci := 10) rfl hP 0 rfl 1 (by decide) fX11_19 rfl dX11_size_68 ?_
    refine r_get X kcX6 (ci := 6) rfl hP 2 rfl 0 (by decide) fX11_121 rfl dX11_size_71 ?_
    refine r_get X kcX4 (ci := 4) rfl hP 3 rfl 1 (by decide) fX11_360 rfl dX11_size_74 ?_
    exact eI X hr hlocks hP hD hS () [] (by decide) rfl rfl (by rw [szR, if_pos (by omega)]) (Nat.le_of_ble_eq_true rfl) (Nat.le_of_ble_eq_true rfl) dX11_size_77
  by_cases h_3 : p1 = 2
  · refine lv_tableIn (off := 77) (tgt := 78) hx hb dX11_size_1 (by rw [h_3]; decide) (by rw [h_3]; decide) (by rw [h_3]; rfl) (by decide) ?_
    have th_3 : p1.toInt = 2 := c_eq h_3
    refine lv_aload_n hx hb dX11_size_78 rfl (lv_at hl 0 rfl) ?_
    refine r_get X kcX11 (ci := 10) rfl hP 0 rfl 12 (by decide) fX11_81 rfl dX11_size_79 ?_
    refine r_get X kcX7 (ci := 7) rfl hP 4 rfl 1 (by decide) fX11_363 rfl dX11_size_82 ?_
    exact eI X hr hlocks hP hD hS () [] (by decide) rfl rfl (by rw [szR, if_pos (by omega)]) (Nat.le_of_ble_eq_true rfl) (Nat.le_of_ble_eq_true rfl) dX11_size_85
  by_cases h_4 : p1 = 3
  · refine lv_tableIn (off := 85) (tgt := 86) hx hb dX11_size_1 (by rw [h_4]; decide) (by rw [h_4]; decide) (by rw [h_4]; rfl) (by decide) ?_
    have th_4 : p1.toInt = 3 := c_eq h_4
    refine lv_aload_n hx hb dX11_size_86 rfl (lv_at hl 0 rfl) ?_
    refine r_get X kcX11 (ci := 10) rfl hP 0 rfl 12 (by decide) fX11_81 rfl dX11_size_87 ?_
    refine r_get X kcX7 (ci := 7) rfl hP 4 rfl 2 (by decide) fX11_329 rfl dX11_size_90 ?_
    exact eI X hr hlocks hP hD hS () [] (by decide) rfl rfl (by rw [szR, if_pos (by omega)]) (Nat.le_of_ble_eq_true rfl) (Nat.le_of_ble_eq_true rfl) dX11_size_93
  by_cases h_5 : p1 = 4
  · refine lv_tableIn (off := 93) (tgt := 94) hx hb dX11_size_1 (by rw [h_5]; decide) (by rw [h_5]; decide) (by rw [h_5]; rfl) (by decide) ?_
    have th_5 : p1.toInt = 4 := c_eq h_5
    refine lv_aload_n hx hb dX11_size_94 rfl (lv_at hl 0 rfl) ?_
    refine r_get X kcX11 (ci := 10) rfl hP 0 rfl 12 (by decide) fX11_81 rfl dX11_size_95 ?_
    refine r_get X kcX7 (ci := 7) rfl hP 4 rfl 6 (by decide) fX11_223 rfl dX11_size_98 ?_
    exact eI X hr hlocks hP hD hS () [] (by decide) rfl rfl (by rw [szR, if_pos (by omega)]) (Nat.le_of_ble_eq_true rfl) (Nat.le_of_ble_eq_true rfl) dX11_size_101
  by_cases h_6 : p1 = 5
  · refine lv_tableIn (off := 101) (tgt := 102) hx hb dX11_size_1 (by rw [h_6]; decide) (by rw [h_6]; decide) (by rw [h_6]; rfl) (by decide) ?_
    have th_6 : p1.toInt = 5 := c_eq h_6
    refine lv_aload_n hx hb dX11_size_102 rfl (lv_at hl 0 rfl) ?_
    refine r_get X kcX11 (ci := 10) rfl hP 0 rfl 12 (by decide) fX11_81 rfl dX11_size_103 ?_
    refine r_get X kcX7 (ci := 7) rfl hP 4 rfl 11 (by decide) fX11_302 rfl dX11_size_106 ?_
    exact eI X hr hlocks hP hD hS () [] (by decide) rfl rfl (by rw [szR, if_pos (by omega)]) (Nat.le_of_ble_eq_true rfl) (Nat.le_of_ble_eq_true rfl) dX11_size_109
  by_cases h_7 : p1 = 6
  · refine lv_tableIn (off := 109) (tgt := 110) hx hb dX11_size_1 (by rw [h_7]; decide) (by rw [h_7]; decide) (by rw [h_7]; rfl) (by decide) ?_
    have th_7 : p1.toInt = 6 := c_eq h_7
    refine lv_aload_n hx hb dX11_size_110 rfl (lv_at hl 0 rfl) ?_
    refine r_get X kcX11 (ci := 10) rfl hP 0 rfl 12 (by decide) fX11_81 rfl dX11_size_111 ?_
    refine r_get X kcX7 (ci := 7) rfl hP 4 rfl 4 (by decide) fX11_274 rfl dX11_size_114 ?_
    exact eI X hr hlocks hP hD hS () [] (by decide) rfl rfl (by rw [szR, if_pos (by omega)]) (Nat.le_of_ble_eq_true rfl) (Nat.le_of_ble_eq_true rfl) dX11_size_117
  by_cases h_8 : p1 = 7
  · refine lv_tableIn (off := 117) (tgt := 118) hx hb dX11_size_1 (by rw [h_8]; decide) (by rw [h_8]; decide) (by rw [h_8]; rfl) (by decide) ?_
    have th_8 : p1.toInt = 7 := c_eq h_8
    refine lv_aload_n hx hb dX11_size_118 rfl (lv_at hl 0 rfl) ?_
    refine r_get X kcX11 (ci := 10) rfl hP 0 rfl 14 (by decide) fX11_115 rfl dX11_size_119 ?_
    exact eI X hr hlocks hP hD hS () [] (by decide) rfl rfl (by rw [szR, if_pos (by omega)]) (Nat.le_of_ble_eq_true rfl) (Nat.le_of_ble_eq_true rfl) dX11_size_122
  by_cases h_9 : p1 = 8
  · refine lv_tableIn (off := 122) (tgt := 123) hx hb dX11_size_1 (by rw [h_9]; decide) (by rw [h_9]; decide) (by rw [h_9]; rfl) (by decide) ?_
    have th_9 : p1.toInt = 8 := c_eq h_9
    refine lv_aload_n hx hb dX11_size_123 rfl (lv_at hl 0 rfl) ?_
    refine r_get X kcX11 (ci := 10) rfl hP 0 rfl 15 (by decide) fX11_118 rfl dX11_size_124 ?_
    exact eI X hr hlocks hP hD hS () [] (by decide) rfl rfl (by rw [szR, if_pos (by omega)]) (Nat.le_of_ble_eq_true rfl) (Nat.le_of_ble_eq_true rfl) dX11_size_127
  by_cases h_10 : p1 = 9
  · refine lv_tableIn (off := 127) (tgt := 128) hx hb dX11_size_1 (by rw [h_10]; decide) (by rw [h_10]; decide) (by rw [h_10]; rfl) (by decide) ?_
    have th_10 : p1.toInt = 9 := c_eq h_10
    refine lv_aload_n hx hb dX11_size_128 rfl (lv_at hl 0 rfl) ?_
    refine r_get X kcX11 (ci := 10) rfl hP 0 rfl 0 (by decide) fX11_10 rfl dX11_size_129 ?_
    refine r_get X kcX9 (ci := 8) rfl hP 1 rfl 1 (by decide) fX11_96 rfl dX11_size_132 ?_
    exact eI X hr hlocks hP hD hS () [] (by decide) rfl rfl (by rw [szR, if_pos (by omega)]) (Nat.le_of_ble_eq_true rfl) (Nat.le_of_ble_eq_true rfl) dX11_size_135
  have h_1 : p1.toInt ≠ 0 := c_ne h_1
  have h_2 : p1.toInt ≠ 1 := c_ne h_2
  have h_3 : p1.toInt ≠ 2 := c_ne h_3
  have h_4 : p1.toInt ≠ 3 := c_ne h_4
  have h_5 : p1.toInt ≠ 4 := c_ne h_5
  have h_6 : p1.toInt ≠ 5 := c_ne h_6
  have h_7 : p1.toInt ≠ 6 := c_ne h_7
  have h_8 : p1.toInt ≠ 7 := c_ne h_8
  have h_9 : p1.toInt ≠ 8 := c_ne h_9
  have h_10 : p1.toInt ≠ 9 := c_ne h_10
  refine lv_tableOut (tgt := 136) hx hb dX11_size_1 (by omega) (by decide) ?_
  refine lv_iconst (v := -1) hx hb dX11_size_136 (by decide) ?_
  exact eI X hr hlocks hP hD hS () [] (by decide) rfl rfl (by rw [szR, if_neg (by omega)]) (Nat.le_of_ble_eq_true rfl) (Nat.le_of_ble_eq_true rfl) dX11_size_137
