def bcF (i : Int32) : Int32 :=
  let u := fun (x : Int32) (k : Int32) => (x.toUInt32 >>> (k.toUInt32 &&& Int32.toUInt32 31)).toInt32
  let a := i - (u i 1 &&& 1431655765)
  let b := (a &&& 858993459) + (u a 2 &&& 858993459)
  let c := (b + u b 4) &&& 252645135
  let d := c + u c 8
  let e := d + u d 16
  e &&& 63
set_option maxHeartbeats 4000000 in
set_option maxRecDepth 100000 in
theorem sJ6_bitCount (l : Launch) (dC : Nat → ClassId) (dI : Nat → Nat → Nat) (cy : Nat → ClassId) (p1 : Int32) : ctI l dC dI cy yJ6_bitCount_0f7a4 cJ6_bitCount_0f7a4 1 .int ({ frames := 0, cells := 0, slots := 0, locals := 0 } : Room) [.int p1] [] (S := Unit) (fun r _ => (r = bcF p1)) (fun _ => []) := by
  refine ctI.of (by decide +kernel) (Nat.le_of_ble_eq_true rfl) ?_
  intro p e s m args below meth c A ls Q hQ X hr hlocks hin hA hP hD hS hl
  have hx := X.1
  have hb := X.2.1
  have hK := X.2.2.2.2.2.1
  have hl : lv_has ls 1 [(0, .int p1)] := hl
  refine lv_iload_n hx hb dJ6_bitCount_0f7a4_0 rfl (lv_at hl 0 rfl) ?_
  refine lv_iload_n hx hb dJ6_bitCount_0f7a4_1 rfl (lv_at hl 0 rfl) ?_
  refine lv_iconst (v := 1) hx hb dJ6_bitCount_0f7a4_2 (by decide) ?_
  obtain ⟨x_1, ex_1⟩ : ∃ y : Int32, ((p1 : Int32).toUInt32 >>> ((1 : Int32).toUInt32 &&& Int32.toUInt32 31)).toInt32 = y := ⟨_, rfl⟩
  refine lv_iushr hx hb dJ6_bitCount_0f7a4_3 ex_1 ?_
  refine lv_ldcw (v := 1431655765) hx hb X.2.2.2.1 (X.2.2.2.2.1 _ w_945) dJ6_bitCount_0f7a4_4 ?_
  refine lv_iand hx hb dJ6_bitCount_0f7a4_7 ?_
  refine lv_topi (fun x_2 ex_2 => ?_)
  have tx_2 : 0 ≤ x_2.toInt ∧ x_2.toInt ≤ 1431655765 := ti_andr ex_2 (by decide)
  refine lv_isub hx hb dJ6_bitCount_0f7a4_8 ?_
  refine lv_topi (fun x_3 ex_3 => ?_)
  refine lv_istore_n (lv' := [(0, .int x_3)]) hx hb dJ6_bitCount_0f7a4_9 rfl hl (by decide) rfl (fun ls hl => ?_)
  refine lv_iload_n hx hb dJ6_bitCount_0f7a4_10 rfl (lv_at hl 0 rfl) ?_
  refine lv_ldcw (v := 858993459) hx hb X.2.2.2.1 (X.2.2.2.2.1 _ w_946) dJ6_bitCount_0f7a4_11 ?_
  refine lv_iand hx hb dJ6_bitCount_0f7a4_14 ?_
  refine lv_topi (fun x_4 ex_4 => ?_)
  have tx_4 : 0 ≤ x_4.toInt ∧ x_4.toInt ≤ 858993459 := ti_andr ex_4 (by decide)
  refine lv_iload_n hx hb dJ6_bitCount_0f7a4_15 rfl (lv_at hl 0 rfl) ?_
  refine lv_iconst (v := 2) hx hb dJ6_bitCount_0f7a4_16 (by decide) ?_
  obtain ⟨x_5, ex_5⟩ : ∃ y : Int32, ((x_3 : Int32).toUInt32 >>> ((2 : Int32).toUInt32 &&& Int32.toUInt32 31)).toInt32 = y := ⟨_, rfl⟩
  refine lv_iushr hx hb dJ6_bitCount_0f7a4_17 ex_5 ?_
  refine lv_ldcw (v := 858993459) hx hb X.2.2.2.1 (X.2.2.2.2.1 _ w_946) dJ6_bitCount_0f7a4_18 ?_
  refine lv_iand hx hb dJ6_bitCount_0f7a4_21 ?_
  refine lv_topi (fun x_6 ex_6 => ?_)
  have tx_6 : 0 ≤ x_6.toInt ∧ x_6.toInt ≤ 858993459 := ti_andr ex_6 (by decide)
  refine lv_iadd hx hb dJ6_bitCount_0f7a4_22 ?_
  refine lv_topi (fun x_7 ex_7 => ?_)
  have tx_7 : x_7.toInt = x_4.toInt + x_6.toInt := ti_add (A := x_4.toInt) (B := x_6.toInt) ex_7 rfl rfl (by omega) (by omega)
  refine lv_istore_n (lv' := [(0, .int x_7)]) hx hb dJ6_bitCount_0f7a4_23 rfl hl (by decide) rfl (fun ls hl => ?_)
  refine lv_iload_n hx hb dJ6_bitCount_0f7a4_24 rfl (lv_at hl 0 rfl) ?_
  refine lv_iload_n hx hb dJ6_bitCount_0f7a4_25 rfl (lv_at hl 0 rfl) ?_
  refine lv_iconst (v := 4) hx hb dJ6_bitCount_0f7a4_26 (by decide) ?_
  obtain ⟨x_8, ex_8⟩ : ∃ y : Int32, ((x_7 : Int32).toUInt32 >>> ((4 : Int32).toUInt32 &&& Int32.toUInt32 31)).toInt32 = y := ⟨_, rfl⟩
  refine lv_iushr hx hb dJ6_bitCount_0f7a4_27 ex_8 ?_
  refine lv_iadd hx hb dJ6_bitCount_0f7a4_28 ?_
  refine lv_topi (fun x_9 ex_9 => ?_)
  refine lv_ldcw (v := 252645135) hx hb X.2.2.2.1 (X.2.2.2.2.1 _ w_947) dJ6_bitCount_0f7a4_29 ?_
  refine lv_iand hx hb dJ6_bitCount_0f7a4_32 ?_
  refine lv_topi (fun x_10 ex_10 => ?_)
  have tx_10 : 0 ≤ x_10.toInt ∧ x_10.toInt ≤ 252645135 := ti_andr ex_10 (by decide)
  refine lv_istore_n (lv' := [(0, .int x_10)]) hx hb dJ6_bitCount_0f7a4_33 rfl hl (by decide) rfl (fun ls hl => ?_)
  refine lv_iload_n hx hb dJ6_bitCount_0f7a4_34 rfl (lv_at hl 0 rfl) ?_
  refine lv_iload_n hx hb dJ6_bitCount_0f7a4_35 rfl (lv_at hl 0 rfl) ?_
  refine lv_bipush (v := 8) hx hb dJ6_bitCount_0f7a4_36 (by decide) ?_
  obtain ⟨x_11, ex_11⟩ : ∃ y : Int32, ((x_10 : Int32).toUInt32 >>> ((8 : Int32).toUInt32 &&& Int32.toUInt32 31)).toInt32 = y := ⟨_, rfl⟩
  refine lv_iushr hx hb dJ6_bitCount_0f7a4_38 ex_11 ?_
  refine lv_iadd hx hb dJ6_bitCount_0f7a4_39 ?_
  refine lv_topi (fun x_12 ex_12 => ?_)
  refine lv_istore_n (lv' := [(0, .int x_12)]) hx hb dJ6_bitCount_0f7a4_40 rfl hl (by decide) rfl (fun ls hl => ?_)
  refine lv_iload_n hx hb dJ6_bitCount_0f7a4_41 rfl (lv_at hl 0 rfl) ?_
  refine lv_iload_n hx hb dJ6_bitCount_0f7a4_42 rfl (lv_at hl 0 rfl) ?_
  refine lv_bipush (v := 16) hx hb dJ6_bitCount_0f7a4_43 (by decide) ?_
  obtain ⟨x_13, ex_13⟩ : ∃ y : Int32, ((x_12 : Int32).toUInt32 >>> ((16 : Int32).toUInt32 &&& Int32.toUInt32 31)).toInt32 = y := ⟨_, rfl⟩
  refine lv_iushr hx hb dJ6_bitCount_0f7a4_45 ex_13 ?_
  refine lv_iadd hx hb dJ6_bitCount_0f7a4_46 ?_
  refine lv_topi (fun x_14 ex_14 => ?_)
  refine lv_istore_n (lv' := [(0, .int x_14)]) hx hb dJ6_bitCount_0f7a4_47 rfl hl (by decide) rfl (fun ls hl => ?_)
  refine lv_iload_n hx hb dJ6_bitCount_0f7a4_48 rfl (lv_at hl 0 rfl) ?_
  refine lv_bipush (v := 63) hx hb dJ6_bitCount_0f7a4_49 (by decide) ?_
  refine lv_iand hx hb dJ6_bitCount_0f7a4_51 ?_
  refine lv_topi (fun x_15 ex_15 => ?_)
  have tx_15 : 0 ≤ x_15.toInt ∧ x_15.toInt ≤ 63 := ti_andr ex_15 (by decide)
  exact eI hQ X hr hlocks hP hD hS () [] (by decide) rfl rfl (show (x_15 = bcF p1) from (by subst_vars; rfl)) (Nat.le_of_ble_eq_true rfl) (Nat.le_of_ble_eq_true rfl) dJ6_bitCount_0f7a4_52
theorem bc_key : ∀ k : Nat, k < 20 → 0 ≤ (bcF (Int32.ofNat (2 ^ k) - 1)).toInt ∧ (bcF (Int32.ofNat (2 ^ k) - 1)).toInt ≤ 19 := by decide +kernel
theorem and_compl : ∀ (j m : Nat), m < 2 ^ j → m &&& (2 ^ j - 1 - m) = 0 := by
  intro j m hm
  apply Nat.eq_of_testBit_eq
  intro i
  rw [Nat.testBit_and, Nat.zero_testBit, show 2 ^ j - 1 - m = 2 ^ j - (m + 1) by omega, Nat.testBit_two_pow_sub_succ hm]
  cases Nat.testBit m i <;> simp
/-- the lowest bit of a number below 2^32 -/
theorem low_nat : ∀ (j n : Nat), 0 < n → n < 2 ^ j → ∃ k, k < j ∧ n &&& (2 ^ j - n) = 2 ^ k ∧ 2 ^ k ≤ n := by
  intro j
  induction j with
  | zero => intro n h0 h1; omega
  | succ j ih =>
    intro n h0 h1
    obtain ⟨m, h⟩ : ∃ m, n = 2 * m ∨ n = 2 * m + 1 := ⟨n / 2, by omega⟩
    rcases h with h | h
    · obtain ⟨k, hk, e, hle⟩ := ih m (by omega) (by rw [Nat.pow_succ] at h1; omega)
      refine ⟨k + 1, by omega, ?_, by rw [Nat.pow_succ]; omega⟩
      rw [h, show 2 ^ (j + 1) - 2 * m = 2 * (2 ^ j - m) by rw [Nat.pow_succ]; omega, Nat.pow_succ, ← e, Nat.mul_comm _ 2]
      apply Nat.eq_of_testBit_eq
      intro i
      cases i with
      | zero => simp [Nat.testBit_zero]
      | succ i => simp [Nat.testBit_succ, Nat.testBit_and]
    · refine ⟨0, by omega, ?_, by rw [Nat.pow_zero]; omega⟩
      rw [h, Nat.pow_zero]
      have hm : m < 2 ^ j := by rw [Nat.pow_succ] at h1; omega
      rw [show 2 ^ (j + 1) - (2 * m + 1) = 2 * (2 ^ j - 1 - m) + 1 by rw [Nat.pow_succ]; omega]
      apply Nat.eq_of_testBit_eq
      intro i
      cases i with
      | zero => simp [Nat.testBit_zero]
      | succ i =>
        have := congrArg (fun z => Nat.testBit z i) (and_compl j m hm)
        simp only [Nat.testBit_and, Nat.zero_testBit] at this
        simp [Nat.testBit_succ, Nat.testBit_and]
        rw [show (2 * m + 1) / 2 = m by omega, show (2 * (2 ^ j - 1 - m) + 1) / 2 = 2 ^ j - 1 - m by omega]
        simpa using this
theorem bc_low {fr x y z r : Int32} (e1 : x = -fr) (e2 : y = fr &&& x) (e3 : z = y - 1) (hr : r = bcF z) (h0 : 0 < fr.toInt) (h1 : fr.toInt ≤ 1048575) : 0 ≤ r.toInt ∧ r.toInt ≤ 19 := by
  have hn := ti_nat (a := fr) (by omega)
  have hxb : x.toBitVec.toNat = 2 ^ 32 - fr.toBitVec.toNat := by
    rw [e1, show (-fr).toBitVec = -fr.toBitVec from rfl, BitVec.toNat_neg, Nat.mod_eq_of_lt (by omega)]
  obtain ⟨k, hk, e, hle⟩ := low_nat 32 fr.toBitVec.toNat (by omega) (by omega)
  have hy : y.toBitVec.toNat = 2 ^ k := by
    rw [e2, show (fr &&& x).toBitVec = fr.toBitVec &&& x.toBitVec from rfl, BitVec.toNat_and, hxb, e]
  have hk20 : k < 20 := by
    rcases Nat.lt_or_ge k 20 with q | q
    · exact q
    · have := Nat.pow_le_pow_right (n := 2) (by omega) q
      omega
  have hy2 : y = Int32.ofNat (2 ^ k) := by
    apply Int32.toBitVec_inj.mp
    apply BitVec.eq_of_toNat_eq
    rw [hy, show (Int32.ofNat (2 ^ k)).toBitVec = BitVec.ofNat 32 (2 ^ k) from rfl, BitVec.toNat_ofNat, Nat.mod_eq_of_lt (Nat.pow_lt_pow_right (by omega) (by omega))]
  rw [hr, e3, hy2]
  exact bc_key k hk20
set_option maxHeartbeats 4000000 in
set_option maxRecDepth 100000 in
theorem sX2_learn (l : Launch) (dC : Nat → ClassId) (dI : Nat → Nat → Nat) (cy : Nat → ClassId) (h0 : Nat) (f_fromLawn : Nat) (f_fromDitch : Nat) (f_ontoDitch : Nat) (f_fromLawnf : Nat → Int32) (f_fromDitchf : Nat → Int32) (f_ontoDitchf : Nat → Int32) (h1 : Nat) (g_wide : Int32) (g_deep : Int32) (g_count : Int32) (g_sorts : Nat) (g_sortsf : Nat → Int32) (p2 : Int32) (p3 : Int32) (hf_fromLawnf : rb f_fromLawnf 20 0 1048575) (hf_fromDitchf : rb f_fromDitchf 20 0 1048575) (hf_ontoDitchf : rb f_ontoDitchf 20 0 1048575) (hg_wide : 0 ≤ g_wide.toInt ∧ g_wide.toInt ≤ 5) (hg_deep : 0 ≤ g_deep.toInt ∧ g_deep.toInt ≤ 4) (hg_count : 0 ≤ g_count.toInt ∧ g_count.toInt ≤ 20) : ctV l dC dI cy yX2_learn cX2_learn 9 ({ frames := 1, cells := 0, slots := 0, locals := 23 } : Room) [.ref h0, .ref h1, .int p2, .int p3] [(h0, .inr (2, [.ref f_fromLawn, .ref f_fromDitch, .ref f_ontoDitch])), (f_fromLawn, .inl (cy 1, 20, .inl f_fromLawnf)), (f_fromDitch, .inl (cy 1, 20, .inl f_fromDitchf)), (f_ontoDitch, .inl (cy 1, 20, .inl f_ontoDitchf)), (h1, .inr (4, [.int g_wide, .int g_deep, .int g_count, .ref g_sorts])), (g_sorts, .inl (cy 1, 20, .inl g_sortsf))] (S := (Nat → Int32) × (Nat → Int32) × (Nat → Int32)) (fun u => (rb u.1 20 0 1048575) ∧ (rb u.2.1 20 0 1048575) ∧ (rb u.2.2 20 0 1048575)) (fun u => [(h0, .inr (2, [.ref f_fromLawn, .ref f_fromDitch, .ref f_ontoDitch])), (f_fromLawn, .inl (cy 1, 20, .inl u.1)), (f_fromDitch, .inl (cy 1, 20, .inl u.2.1)), (f_ontoDitch, .inl (cy 1, 20, .inl u.2.2)), (h1, .inr (4, [.int g_wide, .int g_deep, .int g_count, .ref g_sorts])), (g_sorts, .inl (cy 1, 20, .inl g_sortsf))]) := by
  refine ctV.of (by decide +kernel) (Nat.le_of_ble_eq_true rfl) ?_
  intro p e s m args below meth c A ls Q hQ X hr hlocks hin hA hP hD hS hl
  have hx := X.1
  have hb := X.2.1
  have hK := X.2.2.2.2.2.1
  have hl : lv_has ls 9 [(0, .ref h0), (1, .ref h1), (2, .int p2), (3, .int p3)] := hl
  refine lv_iconst (v := 0) hx hb dX2_learn_0 (by decide) ?_
  refine lv_istore (lv' := [(4, .int 0), (0, .ref h0), (1, .ref h1), (2, .int p2), (3, .int p3)]) hx hb dX2_learn_1 hl (by decide) rfl (fun ls hl => ?_)
  have lp_1 : ∀ (nlp_1 : Nat) (i_2 : Int32) (f_4 : Nat → Int32) (f_6 : Nat → Int32) (f_8 : Nat → Int32) (H : Heap) (locs : List Loc) (ls : Array Slot), (0 ≤ i_2.toInt ∧ i_2.toInt ≤ 20) → (rb f_4 20 0 1048575) → (rb f_6 20 0 1048575) → (rb f_8 20 0 1048575) → (21 - i_2.toInt ≤ (nlp_1 : Int)) → va_P (dC, dI) vwCl [(h0, .inr (2, [.ref f_fromLawn, .ref f_fromDitch, .ref f_ontoDitch])), (f_fromLawn, .inl (cy 1, 20, .inl f_4)), (f_fromDitch, .inl (cy 1, 20, .inl f_6)), (f_ontoDitch, .inl (cy 1, 20, .inl f_8)), (h1, .inr (4, [.int g_wide, .int g_deep, .int g_count, .ref g_sorts])), (g_sorts, .inl (cy 1, 20, .inl g_sortsf))] H → va_D A [(h0, .inr (2, [.ref f_fromLawn, .ref f_fromDitch, .ref f_ontoDitch])), (f_fromLawn, .inl (cy 1, 20, .inl f_4)), (f_fromDitch, .inl (cy 1, 20, .inl f_6)), (f_ontoDitch, .inl (cy 1, 20, .inl f_8)), (h1, .inr (4, [.int g_wide, .int g_deep, .int g_count, .ref g_sorts])), (g_sorts, .inl (cy 1, 20, .inl g_sortsf))] → va_S A s.heap H locs → lv_has ls 9 [(4, .int i_2), (0, .ref h0), (1, .ref h1), (2, .int p2), (3, .int p3)] → W p l e ({ frames := 1, cells := 0, slots := 0, locals := 23 } : Room) s m args below meth c H locs 0 0 Q (F0 m 3 ls []) := by
    intro nlp_1
    induction nlp_1 with
    | zero =>
      intro i_2 f_4 f_6 f_8 H locs ls b_3 b_5 b_7 b_9 hmlp_1 hP hD hS hl
      exfalso
      omega
    | succ nlp_1 ihlp_1 =>
      intro i_2 f_4 f_6 f_8 H locs ls b_3 b_5 b_7 b_9 hmlp_1 hP hD hS hl
      refine lv_iload hx hb dX2_learn_3 (lv_at hl 0 rfl) ?_
      refine lv_aload_n hx hb dX2_learn_5 rfl (lv_at hl 2 rfl) ?_
      refine r_get X kcX4 (ci := 4) rfl hP 4 rfl 2 (by decide) fX2_21 rfl dX2_learn_6 ?_
      refine lv_icmp_ge (tgt := 166) hx hb dX2_learn_9 (by decide) (fun h_10 => ?_) (fun h_10 => ?_)
      · have h_10 : g_count.toInt ≤ i_2.toInt := c_le h_10
        exact eV hQ X hr hlocks hP hD hS (f_4, f_6, f_8) [0, 1, 2, 3, 4, 5] (by decide) rfl (show (rb f_4 20 0 1048575) ∧ (rb f_6 20 0 1048575) ∧ (rb f_8 20 0 1048575) from ⟨b_5, b_7, b_9⟩) (Nat.le_of_ble_eq_true rfl) (Nat.le_of_ble_eq_true rfl) dX2_learn_166
      · have h_10 : i_2.toInt < g_count.toInt := c_nle h_10
        refine lv_aload_n hx hb dX2_learn_12 rfl (lv_at hl 1 rfl) ?_
        refine r_get X kcX2 (ci := 2) rfl hP 0 rfl 0 (by decide) fX2_9 rfl dX2_learn_13 ?_
        refine lv_iload hx hb dX2_learn_16 (lv_at hl 0 rfl) ?_
        refine lv_iconst (v := 0) hx hb dX2_learn_18 (by decide) ?_
        refine va_iast (D := (dC, dI)) (cl := vwCl) hx hb hK hP hD hS 1 1 rfl rfl (i := i_2) (vin (by omega) (by omega)) dX2_learn_19 (fun H locs hP hD hS => ?_)
        generalize ef_11 : upd f_4 (Int32.toNatClampNeg i_2) 0 = f_11 at hP hD
        have bf_11 : rb f_11 20 0 1048575 := by rw [← ef_11]; exact rb_upd b_5 (by decide) (by decide)
        have hP : va_P (dC, dI) vwCl [(h0, .inr (2, [.ref f_fromLawn, .ref f_fromDitch, .ref f_ontoDitch])), (f_fromLawn, .inl (cy 1, 20, .inl f_11)), (f_fromDitch, .inl (cy 1, 20, .inl f_6)), (f_ontoDitch, .inl (cy 1, 20, .inl f_8)), (h1, .inr (4, [.int g_wide, .int g_deep, .int g_count, .ref g_sorts])), (g_sorts, .inl (cy 1, 20, .inl g_sortsf))] H := hP
        have hD : va_D A [(h0, .inr (2, [.ref f_fromLawn, .ref f_fromDitch, .ref f_ontoDitch])), (f_fromLawn, .inl (cy 1, 20, .inl f_11)), (f_fromDitch, .inl (cy 1, 20, .inl f_6)), (f_ontoDitch, .inl (cy 1, 20, .inl f_8)), (h1, .inr (4, [.int g_wide, .int g_deep, .int g_count, .ref g_sorts])), (g_sorts, .inl (cy 1, 20, .inl g_sortsf))] := hD
        refine lv_aload_n hx hb dX2_learn_20 rfl (lv_at hl 1 rfl) ?_
        refine r_get X kcX2 (ci := 2) rfl hP 0 rfl 1 (by decide) fX2_15 rfl dX2_learn_21 ?_
        refine lv_iload hx hb dX2_learn_24 (lv_at hl 0 rfl) ?_
        refine lv_iconst (v := 0) hx hb dX2_learn_26 (by decide) ?_
        refine va_iast (D := (dC, dI)) (cl := vwCl) hx hb hK hP hD hS 2 1 rfl rfl (i := i_2) (vin (by omega) (by omega)) dX2_learn_27 (fun H locs hP hD hS => ?_)
        generalize ef_12 : upd f_6 (Int32.toNatClampNeg i_2) 0 = f_12 at hP hD
        have bf_12 : rb f_12 20 0 1048575 := by rw [← ef_12]; exact rb_upd b_7 (by decide) (by decide)
        have hP : va_P (dC, dI) vwCl [(h0, .inr (2, [.ref f_fromLawn, .ref f_fromDitch, .ref f_ontoDitch])), (f_fromLawn, .inl (cy 1, 20, .inl f_11)), (f_fromDitch, .inl (cy 1, 20, .inl f_12)), (f_ontoDitch, .inl (cy 1, 20, .inl f_8)), (h1, .inr (4, [.int g_wide, .int g_deep, .int g_count, .ref g_sorts])), (g_sorts, .inl (cy 1, 20, .inl g_sortsf))] H := hP
        have hD : va_D A [(h0, .inr (2, [.ref f_fromLawn, .ref f_fromDitch, .ref f_ontoDitch])), (f_fromLawn, .inl (cy 1, 20, .inl f_11)), (f_fromDitch, .inl (cy 1, 20, .inl f_12)), (f_ontoDitch, .inl (cy 1, 20, .inl f_8)), (h1, .inr (4, [.int g_wide, .int g_deep, .int g_count, .ref g_sorts])), (g_sorts, .inl (cy 1, 20, .inl g_sortsf))] := hD
        refine lv_aload_n hx hb dX2_learn_28 rfl (lv_at hl 1 rfl) ?_
        refine r_get X kcX2 (ci := 2) rfl hP 0 rfl 2 (by decide) fX2_18 rfl dX2_learn_29 ?_
        refine lv_iload hx hb dX2_learn_32 (lv_at hl 0 rfl) ?_
        refine lv_iconst (v := 0) hx hb dX2_learn_34 (by decide) ?_
        refine va_iast (D := (dC, dI)) (cl := vwCl) hx hb hK hP hD hS 3 1 rfl rfl (i := i_2) (vin (by omega) (by omega)) dX2_learn_35 (fun H locs hP hD hS => ?_)
        generalize ef_13 : upd f_8 (Int32.toNatClampNeg i_2) 0 = f_13 at hP hD
        have bf_13 : rb f_13 20 0 1048575 := by rw [← ef_13]; exact rb_upd b_9 (by decide) (by decide)
        have hP : va_P (dC, dI) vwCl [(h0, .inr (2, [.ref f_fromLawn, .ref f_fromDitch, .ref f_ontoDitch])), (f_fromLawn, .inl (cy 1, 20, .inl f_11)), (f_fromDitch, .inl (cy 1, 20, .inl f_12)), (f_ontoDitch, .inl (cy 1, 20, .inl f_13)), (h1, .inr (4, [.int g_wide, .int g_deep, .int g_count, .ref g_sorts])), (g_sorts, .inl (cy 1, 20, .inl g_sortsf))] H := hP
        have hD : va_D A [(h0, .inr (2, [.ref f_fromLawn, .ref f_fromDitch, .ref f_ontoDitch])), (f_fromLawn, .inl (cy 1, 20, .inl f_11)), (f_fromDitch, .inl (cy 1, 20, .inl f_12)), (f_ontoDitch, .inl (cy 1, 20, .inl f_13)), (h1, .inr (4, [.int g_wide, .int g_deep, .int g_count, .ref g_sorts])), (g_sorts, .inl (cy 1, 20, .inl g_sortsf))] := hD
        refine lv_iconst (v := 0) hx hb dX2_learn_36 (by decide) ?_
        refine lv_istore (lv' := [(5, .int 0), (4, .int i_2), (0, .ref h0), (1, .ref h1), (2, .int p2), (3, .int p3)]) hx hb dX2_learn_37 hl (by decide) rfl (fun ls hl => ?_)
        have lp_14 : ∀ (nlp_14 : Nat) (i_15 : Int32) (f_17 : Nat → Int32) (f_19 : Nat → Int32) (f_21 : Nat → Int32) (H : Heap) (locs : List Loc) (ls : Array Slot), (0 ≤ i_15.toInt ∧ i_15.toInt ≤ 4) → (rb f_17 20 0 1048575) → (rb f_19 20 0 1048575) → (rb f_21 20 0 1048575) → (5 - i_15.toInt ≤ (nlp_14 : Int)) → va_P (dC, dI) vwCl [(h0, .inr (2, [.ref f_fromLawn, .ref f_fromDitch, .ref f_ontoDitch])), (f_fromLawn, .inl (cy 1, 20, .inl f_17)), (f_fromDitch, .inl (cy 1, 20, .inl f_19)), (f_ontoDitch, .inl (cy 1, 20, .inl f_21)), (h1, .inr (4, [.int g_wide, .int g_deep, .int g_count, .ref g_sorts])), (g_sorts, .inl (cy 1, 20, .inl g_sortsf))] H → va_D A [(h0, .inr (2, [.ref f_fromLawn, .ref f_fromDitch, .ref f_ontoDitch])), (f_fromLawn, .inl (cy 1, 20, .inl f_17)), (f_fromDitch, .inl (cy 1, 20, .inl f_19)), (f_ontoDitch, .inl (cy 1, 20, .inl f_21)), (h1, .inr (4, [.int g_wide, .int g_deep, .int g_count, .ref g_sorts])), (g_sorts, .inl (cy 1, 20, .inl g_sortsf))] → va_S A s.heap H locs → lv_has ls 9 [(5, .int i_15), (4, .int i_2), (0, .ref h0), (1, .ref h1), (2, .int p2), (3, .int p3)] → W p l e ({ frames := 1, cells := 0, slots := 0, locals := 23 } : Room) s m args below meth c H locs 0 0 Q (F0 m 39 ls []) := by
          intro nlp_14
          induction nlp_14 with
          | zero =>
            intro i_15 f_17 f_19 f_21 H locs ls b_16 b_18 b_20 b_22 hmlp_14 hP hD hS hl
            exfalso
            omega
          | succ nlp_14 ihlp_14 =>
            intro i_15 f_17 f_19 f_21 H locs ls b_16 b_18 b_20 b_22 hmlp_14 hP hD hS hl
            refine lv_iload hx hb dX2_learn_39 (lv_at hl 0 rfl) ?_
            refine lv_iconst (v := 4) hx hb dX2_learn_41 (by decide) ?_
            refine lv_icmp_ge (tgt := 160) hx hb dX2_learn_42 (by decide) (fun h_23 => ?_) (fun h_23 => ?_)
            · have h_23 : 4 ≤ i_15.toInt := c_le h_23
              obtain ⟨x_24, ex_24⟩ : ∃ y : Int32, y = i_2 + 1 := ⟨_, rfl⟩
              have tx_24 : x_24.toInt = i_2.toInt + 1 := ti_add (A := i_2.toInt) (B := 1) ex_24 rfl rfl (by omega) (by omega)
              refine lv_iinc (v := x_24) (lv' := [(4, .int x_24), (5, .int i_15), (0, .ref h0), (1, .ref h1), (2, .int p2), (3, .int p3)]) hx hb dX2_learn_160 hl (k := 1) rfl (by rw [ex_24]; rfl) (by decide) rfl (fun ls hl => ?_)
              refine lv_goto (tgt := 3) hx hb dX2_learn_163 (by decide) ?_
              exact ihlp_1 x_24 f_17 f_19 f_21 _ _ _ (by omega) b_18 b_20 b_22 (show 21 - x_24.toInt ≤ (nlp_1 : Int) by omega) hP hD hS (lv_sub hl [0, 2, 3, 4, 5] rfl)
            · have h_23 : i_15.toInt < 4 := c_nle h_23
              refine lv_aload_n hx hb dX2_learn_45 rfl (lv_at hl 3 rfl) ?_
              refine lv_iload hx hb dX2_learn_46 (lv_at hl 1 rfl) ?_
              refine lv_iload hx hb dX2_learn_48 (lv_at hl 0 rfl) ?_
              refine fI (wr := [(h0, .inr (2, [.ref f_fromLawn, .ref f_fromDitch, .ref f_ontoDitch])), (f_fromLawn, .inl (cy 1, 20, .inl f_17)), (f_fromDitch, .inl (cy 1, 20, .inl f_19)), (f_ontoDitch, .inl (cy 1, 20, .inl f_21))]) (rV_I (wc := [(h1, .inr (4, [.int g_wide, .int g_deep, .int g_count, .ref g_sorts])), (g_sorts, .inl (cy 1, 20, .inl g_sortsf))]) (As := [.int i_2, .int i_15]) (rest := []) X (sX4_target l dC dI cy h1 g_wide g_deep g_count g_sorts g_sortsf i_2 i_15 (by omega) (by omega) (by omega)) kX4_target vX4_target mX2_27 hP hD [4, 5] (by decide) rfl 0 (ci := 4) rfl rfl rfl hl rfl rfl (Nat.le_of_ble_eq_true rfl) dX2_learn_50 ⟨(Nat.le_of_ble_eq_true rfl), (Nat.le_of_ble_eq_true rfl)⟩ ⟨(Nat.le_of_ble_eq_true rfl), (Nat.le_of_ble_eq_true rfl)⟩) hP hD hS hA [4, 5] [0, 1, 2, 3] rfl rfl (by decide) (by decide) (fun r_25 u_27 H locs k_26 hP hD hS => ?_)
              have k_26 : ((-1) ≤ r_25.toInt ∧ r_25.toInt ≤ 19) ∧ (r_25.toInt = (tgZ g_wide.toInt g_count.toInt g_sortsf i_2.toInt i_15.toInt)) ∧ (r_25.toInt = -1 ∨ (0 ≤ r_25.toInt ∧ r_25.toInt < g_count.toInt ∧ 0 ≤ i_2.toInt ∧ i_2.toInt < g_count.toInt)) := k_26
              obtain ⟨k_26_0, k_26_1, k_26_2⟩ := k_26
              have hP : va_P (dC, dI) vwCl [(h0, .inr (2, [.ref f_fromLawn, .ref f_fromDitch, .ref f_ontoDitch])), (f_fromLawn, .inl (cy 1, 20, .inl f_17)), (f_fromDitch, .inl (cy 1, 20, .inl f_19)), (f_ontoDitch, .inl (cy 1, 20, .inl f_21)), (h1, .inr (4, [.int g_wide, .int g_deep, .int g_count, .ref g_sorts])), (g_sorts, .inl (cy 1, 20, .inl g_sortsf))] H := hP
              have hD : va_D A [(h0, .inr (2, [.ref f_fromLawn, .ref f_fromDitch, .ref f_ontoDitch])), (f_fromLawn, .inl (cy 1, 20, .inl f_17)), (f_fromDitch, .inl (cy 1, 20, .inl f_19)), (f_ontoDitch, .inl (cy 1, 20, .inl f_21)), (h1, .inr (4, [.int g_wide, .int g_deep, .int g_count, .ref g_sorts])), (g_sorts, .inl (cy 1, 20, .inl g_sortsf))] := hD
              refine lv_istore (lv' := [(6, .int r_25), (5, .int i_15), (4, .int i_2), (0, .ref h0), (1, .ref h1), (2, .int p2), (3, .int p3)]) hx hb dX2_learn_53 hl (by decide) rfl (fun ls hl => ?_)
              refine lv_iload hx hb dX2_learn_55 (lv_at hl 0 rfl) ?_
              refine lv_iconst (v := -1) hx hb dX2_learn_57 (by decide) ?_
              refine lv_icmp_ne (tgt := 65) hx hb dX2_learn_58 (by decide) (fun h_28 => ?_) (fun h_28 => ?_)
              · have h_28 : r_25.toInt ≠ (-1) := c_ne h_28
                refine lv_iconst (v := 1) hx hb dX2_learn_65 (by decide) ?_
                refine lv_iload hx hb dX2_learn_66 (lv_at hl 0 rfl) ?_
                refine lv_ishl hx hb dX2_learn_68 ?_
                refine lv_topi (fun x_29 ex_29 => ?_)
                have tx_29 : 0 ≤ x_29.toInt ∧ x_29.toInt ≤ 1048575 := ti_shl1 ex_29 (by omega) (by omega)
                refine lv_istore (lv' := [(7, .int x_29), (6, .int r_25), (5, .int i_15), (4, .int i_2), (0, .ref h0), (1, .ref h1), (2, .int p2), (3, .int p3)]) hx hb dX2_learn_69 hl (by decide) rfl (fun ls hl => ?_)
                refine lv_aload_n hx hb dX2_learn_71 rfl (lv_at hl 4 rfl) ?_
                refine r_get X kcX2 (ci := 2) rfl hP 0 rfl 0 (by decide) fX2_9 rfl dX2_learn_72 ?_
                refine lv_iload hx hb dX2_learn_75 (lv_at hl 3 rfl) ?_
                refine lv_dup2_11 hx hb dX2_learn_77 rfl rfl ?_
                refine va_iald (D := (dC, dI)) (cl := vwCl) hx hb hK hP 1 1 rfl rfl (i := i_2) (vin (by omega) (by omega)) dX2_learn_78 ?_
                refine lv_topi (fun x_30 ex_30 => ?_)
                have bx_30 : 0 ≤ x_30.toInt ∧ x_30.toInt ≤ 1048575 := rb_at b_18 ex_30 (by omega) (by omega)
                refine lv_iload hx hb dX2_learn_79 (lv_at hl 0 rfl) ?_
                refine lv_ior hx hb dX2_learn_81 ?_
                refine lv_topi (fun x_31 ex_31 => ?_)
                have tx_31 : 0 ≤ x_31.toInt ∧ x_31.toInt ≤ 1048575 := ti_or20 ex_31 (by omega) (by omega) (by omega) (by omega)
                refine va_iast (D := (dC, dI)) (cl := vwCl) hx hb hK hP hD hS 1 1 rfl rfl (i := i_2) (vin (by omega) (by omega)) dX2_learn_82 (fun H locs hP hD hS => ?_)
                generalize ef_32 : upd f_17 (Int32.toNatClampNeg i_2) x_31 = f_32 at hP hD
                have bf_32 : rb f_32 20 0 1048575 := by rw [← ef_32]; exact rb_upd b_18 (by omega) (by omega)
                have hP : va_P (dC, dI) vwCl [(h0, .inr (2, [.ref f_fromLawn, .ref f_fromDitch, .ref f_ontoDitch])), (f_fromLawn, .inl (cy 1, 20, .inl f_32)), (f_fromDitch, .inl (cy 1, 20, .inl f_19)), (f_ontoDitch, .inl (cy 1, 20, .inl f_21)), (h1, .inr (4, [.int g_wide, .int g_deep, .int g_count, .ref g_sorts])), (g_sorts, .inl (cy 1, 20, .inl g_sortsf))] H := hP
                have hD : va_D A [(h0, .inr (2, [.ref f_fromLawn, .ref f_fromDitch, .ref f_ontoDitch])), (f_fromLawn, .inl (cy 1, 20, .inl f_32)), (f_fromDitch, .inl (cy 1, 20, .inl f_19)), (f_ontoDitch, .inl (cy 1, 20, .inl f_21)), (h1, .inr (4, [.int g_wide, .int g_deep, .int g_count, .ref g_sorts])), (g_sorts, .inl (cy 1, 20, .inl g_sortsf))] := hD
                refine lv_iload_n hx hb dX2_learn_83 rfl (lv_at hl 6 rfl) ?_
                refine lv_iload hx hb dX2_learn_84 (lv_at hl 2 rfl) ?_
                refine fI (wr := [(h0, .inr (2, [.ref f_fromLawn, .ref f_fromDitch, .ref f_ontoDitch])), (f_fromLawn, .inl (cy 1, 20, .inl f_32)), (f_fromDitch, .inl (cy 1, 20, .inl f_19)), (f_ontoDitch, .inl (cy 1, 20, .inl f_21)), (h1, .inr (4, [.int g_wide, .int g_deep, .int g_count, .ref g_sorts])), (g_sorts, .inl (cy 1, 20, .inl g_sortsf))]) (rS_I (wc := []) (As := [.int p2, .int i_15]) (rest := []) X (sX4_timeOutOfDitch l dC dI cy p2 i_15) kX4_timeOutOfDitch w_835 mX2_31 hP hD [] (by decide) rfl hl rfl rfl (Nat.le_of_ble_eq_true rfl) dX2_learn_86 ⟨(Nat.le_of_ble_eq_true rfl), (Nat.le_of_ble_eq_true rfl)⟩ ⟨(Nat.le_of_ble_eq_true rfl), (Nat.le_of_ble_eq_true rfl)⟩) hP hD hS hA [] [0, 1, 2, 3, 4, 5] rfl rfl (by decide) (by decide) (fun r_33 u_35 H locs k_34 hP hD hS => ?_)
                have k_34 : ((-2) ≤ r_33.toInt ∧ r_33.toInt ≤ 4) := k_34
                have hP : va_P (dC, dI) vwCl [(h0, .inr (2, [.ref f_fromLawn, .ref f_fromDitch, .ref f_ontoDitch])), (f_fromLawn, .inl (cy 1, 20, .inl f_32)), (f_fromDitch, .inl (cy 1, 20, .inl f_19)), (f_ontoDitch, .inl (cy 1, 20, .inl f_21)), (h1, .inr (4, [.int g_wide, .int g_deep, .int g_count, .ref g_sorts])), (g_sorts, .inl (cy 1, 20, .inl g_sortsf))] H := hP
                have hD : va_D A [(h0, .inr (2, [.ref f_fromLawn, .ref f_fromDitch, .ref f_ontoDitch])), (f_fromLawn, .inl (cy 1, 20, .inl f_32)), (f_fromDitch, .inl (cy 1, 20, .inl f_19)), (f_ontoDitch, .inl (cy 1, 20, .inl f_21)), (h1, .inr (4, [.int g_wide, .int g_deep, .int g_count, .ref g_sorts])), (g_sorts, .inl (cy 1, 20, .inl g_sortsf))] := hD
                refine lv_bipush (v := -2) hx hb dX2_learn_89 (by decide) ?_
                refine lv_icmp_eq (tgt := 106) hx hb dX2_learn_91 (by decide) (fun h_36 => ?_) (fun h_36 => ?_)
                · have h_36 : r_33.toInt = (-2) := c_eq h_36
                  refine lv_iload_n hx hb dX2_learn_106 rfl (lv_at hl 7 rfl) ?_
                  refine lv_if_ne (tgt := 119) hx hb dX2_learn_107 (by decide) (fun h_37 => ?_) (fun h_37 => ?_)
                  · have h_37 : p3.toInt ≠ 0 := c_ne h_37
                    refine lv_iconst (v := 1) hx hb dX2_learn_119 (by decide) ?_
                    refine lv_goto (tgt := 124) hx hb dX2_learn_120 (by decide) ?_
                    refine lv_istore (lv' := [(8, .int 1), (7, .int x_29), (6, .int r_25), (5, .int i_15), (4, .int i_2), (0, .ref h0), (1, .ref h1), (2, .int p2), (3, .int p3)]) hx hb dX2_learn_124 hl (by decide) rfl (fun ls hl => ?_)
                    refine lv_iload hx hb dX2_learn_126 (lv_at hl 0 rfl) ?_
                    refine lv_if_eq (tgt := 154) hx hb dX2_learn_128 (by decide) (fun h_38 => absurd h_38 (by decide)) (fun _ => ?_)
                    refine lv_iload_n hx hb dX2_learn_131 rfl (lv_at hl 7 rfl) ?_
                    refine lv_iload hx hb dX2_learn_132 (lv_at hl 3 rfl) ?_
                    refine fI (wr := [(h0, .inr (2, [.ref f_fromLawn, .ref f_fromDitch, .ref f_ontoDitch])), (f_fromLawn, .inl (cy 1, 20, .inl f_32)), (f_fromDitch, .inl (cy 1, 20, .inl f_19)), (f_ontoDitch, .inl (cy 1, 20, .inl f_21)), (h1, .inr (4, [.int g_wide, .int g_deep, .int g_count, .ref g_sorts])), (g_sorts, .inl (cy 1, 20, .inl g_sortsf))]) (rS_I (wc := []) (As := [.int p2, .int i_15]) (rest := []) X (sX4_timeOntoDitch l dC dI cy p2 i_15) kX4_timeOntoDitch w_832 mX2_38 hP hD [] (by decide) rfl hl rfl rfl (Nat.le_of_ble_eq_true rfl) dX2_learn_134 ⟨(Nat.le_of_ble_eq_true rfl), (Nat.le_of_ble_eq_true rfl)⟩ ⟨(Nat.le_of_ble_eq_true rfl), (Nat.le_of_ble_eq_true rfl)⟩) hP hD hS hA [] [0, 1, 2, 3, 4, 5] rfl rfl (by decide) (by decide) (fun r_39 u_41 H locs k_40 hP hD hS => ?_)
                    have k_40 : ((-2) ≤ r_39.toInt ∧ r_39.toInt ≤ 4) := k_40
                    have hP : va_P (dC, dI) vwCl [(h0, .inr (2, [.ref f_fromLawn, .ref f_fromDitch, .ref f_ontoDitch])), (f_fromLawn, .inl (cy 1, 20, .inl f_32)), (f_fromDitch, .inl (cy 1, 20, .inl f_19)), (f_ontoDitch, .inl (cy 1, 20, .inl f_21)), (h1, .inr (4, [.int g_wide, .int g_deep, .int g_count, .ref g_sorts])), (g_sorts, .inl (cy 1, 20, .inl g_sortsf))] H := hP
                    have hD : va_D A [(h0, .inr (2, [.ref f_fromLawn, .ref f_fromDitch, .ref f_ontoDitch])), (f_fromLawn, .inl (cy 1, 20, .inl f_32)), (f_fromDitch, .inl (cy 1, 20, .inl f_19)), (f_ontoDitch, .inl (cy 1, 20, .inl f_21)), (h1, .inr (4, [.int g_wide, .int g_deep, .int g_count, .ref g_sorts])), (g_sorts, .inl (cy 1, 20, .inl g_sortsf))] := hD
                    refine lv_bipush (v := -2) hx hb dX2_learn_137 (by decide) ?_
                    refine lv_icmp_eq (tgt := 154) hx hb dX2_learn_139 (by decide) (fun h_42 => ?_) (fun h_42 => ?_)
                    · have h_42 : r_39.toInt = (-2) := c_eq h_42
                      obtain ⟨x_43, ex_43⟩ : ∃ y : Int32, y = i_15 + 1 := ⟨_, rfl⟩
                      have tx_43 : x_43.toInt = i_15.toInt + 1 := ti_add (A := i_15.toInt) (B := 1) ex_43 rfl rfl (by omega) (by omega)
                      refine lv_iinc (v := x_43) (lv' := [(5, .int x_43), (8, .int 1), (7, .int x_29), (6, .int r_25), (4, .int i_2), (0, .ref h0), (1, .ref h1), (2, .int p2), (3, .int p3)]) hx hb dX2_learn_154 hl (k := 3) rfl (by rw [ex_43]; rfl) (by decide) rfl (fun ls hl => ?_)
                      refine lv_goto (tgt := 39) hx hb dX2_learn_157 (by decide) ?_
                      exact ihlp_14 x_43 f_32 f_19 f_21 _ _ _ (by omega) bf_32 b_20 b_22 (show 5 - x_43.toInt ≤ (nlp_14 : Int) by omega) hP hD hS (lv_sub hl [0, 4, 5, 6, 7, 8] rfl)
                    · have h_42 : r_39.toInt ≠ (-2) := c_ne h_42
                      refine lv_aload_n hx hb dX2_learn_142 rfl (lv_at hl 5 rfl) ?_
                      refine r_get X kcX2 (ci := 2) rfl hP 0 rfl 2 (by decide) fX2_18 rfl dX2_learn_143 ?_
                      refine lv_iload hx hb dX2_learn_146 (lv_at hl 4 rfl) ?_
                      refine lv_dup2_11 hx hb dX2_learn_148 rfl rfl ?_
                      refine va_iald (D := (dC, dI)) (cl := vwCl) hx hb hK hP 3 1 rfl rfl (i := i_2) (vin (by omega) (by omega)) dX2_learn_149 ?_
                      refine lv_topi (fun x_44 ex_44 => ?_)
                      have bx_44 : 0 ≤ x_44.toInt ∧ x_44.toInt ≤ 1048575 := rb_at b_22 ex_44 (by omega) (by omega)
                      refine lv_iload hx hb dX2_learn_150 (lv_at hl 1 rfl) ?_
                      refine lv_ior hx hb dX2_learn_152 ?_
                      refine lv_topi (fun x_45 ex_45 => ?_)
                      have tx_45 : 0 ≤ x_45.toInt ∧ x_45.toInt ≤ 1048575 := ti_or20 ex_45 (by omega) (by omega) (by omega) (by omega)
                      refine va_iast (D := (dC, dI)) (cl := vwCl) hx hb hK hP hD hS 3 1 rfl rfl (i := i_2) (vin (by omega) (by omega)) dX2_learn_153 (fun H locs hP hD hS => ?_)
                      generalize ef_46 : upd f_21 (Int32.toNatClampNeg i_2) x_45 = f_46 at hP hD
                      have bf_46 : rb f_46 20 0 1048575 := by rw [← ef_46]; exact rb_upd b_22 (by omega) (by omega)
                      have hP : va_P (dC, dI) vwCl [(h0, .inr (2, [.ref f_fromLawn, .ref f_fromDitch, .ref f_ontoDitch])), (f_fromLawn, .inl (cy 1, 20, .inl f_32)), (f_fromDitch, .inl (cy 1, 20, .inl f_19)), (f_ontoDitch, .inl (cy 1, 20, .inl f_46)), (h1, .inr (4, [.int g_wide, .int g_deep, .int g_count, .ref g_sorts])), (g_sorts, .inl (cy 1, 20, .inl g_sortsf))] H := hP
                      have hD : va_D A [(h0, .inr (2, [.ref f_fromLawn, .ref f_fromDitch, .ref f_ontoDitch])), (f_fromLawn, .inl (cy 1, 20, .inl f_32)), (f_fromDitch, .inl (cy 1, 20, .inl f_19)), (f_ontoDitch, .inl (cy 1, 20, .inl f_46)), (h1, .inr (4, [.int g_wide, .int g_deep, .int g_count, .ref g_sorts])), (g_sorts, .inl (cy 1, 20, .inl g_sortsf))] := hD
                      obtain ⟨x_47, ex_47⟩ : ∃ y : Int32, y = i_15 + 1 := ⟨_, rfl⟩
                      have tx_47 : x_47.toInt = i_15.toInt + 1 := ti_add (A := i_15.toInt) (B := 1) ex_47 rfl rfl (by omega) (by omega)
                      refine lv_iinc (v := x_47) (lv' := [(5, .int x_47), (8, .int 1), (7, .int x_29), (6, .int r_25), (4, .int i_2), (0, .ref h0), (1, .ref h1), (2, .int p2), (3, .int p3)]) hx hb dX2_learn_154 hl (k := 3) rfl (by rw [ex_47]; rfl) (by decide) rfl (fun ls hl => ?_)
                      refine lv_goto (tgt := 39) hx hb dX2_learn_157 (by decide) ?_
                      exact ihlp_14 x_47 f_32 f_19 f_46 _ _ _ (by omega) bf_32 b_20 bf_46 (show 5 - x_47.toInt ≤ (nlp_14 : Int) by omega) hP hD hS (lv_sub hl [0, 4, 5, 6, 7, 8] rfl)
                  · have h_37 : p3.toInt = 0 := c_eq h_37
                    refine lv_iload_n hx hb dX2_learn_110 rfl (lv_at hl 6 rfl) ?_
                    refine lv_iload hx hb dX2_learn_111 (lv_at hl 2 rfl) ?_
                    refine fI (wr := [(h0, .inr (2, [.ref f_fromLawn, .ref f_fromDitch, .ref f_ontoDitch])), (f_fromLawn, .inl (cy 1, 20, .inl f_32)), (f_fromDitch, .inl (cy 1, 20, .inl f_19)), (f_ontoDitch, .inl (cy 1, 20, .inl f_21)), (h1, .inr (4, [.int g_wide, .int g_deep, .int g_count, .ref g_sorts])), (g_sorts, .inl (cy 1, 20, .inl g_sortsf))]) (rS_I (wc := []) (As := [.int p2, .int i_15]) (rest := []) X (sX4_isFallOntoDitch l dC dI cy p2 i_15) kX4_isFallOntoDitch w_846 mX2_34 hP hD [] (by decide) rfl hl rfl rfl (Nat.le_of_ble_eq_true rfl) dX2_learn_113 ⟨(Nat.le_of_ble_eq_true rfl), (Nat.le_of_ble_eq_true rfl)⟩ ⟨(Nat.le_of_ble_eq_true rfl), (Nat.le_of_ble_eq_true rfl)⟩) hP hD hS hA [] [0, 1, 2, 3, 4, 5] rfl rfl (by decide) (by decide) (fun r_48 u_50 H locs k_49 hP hD hS => ?_)
                    have k_49 : (0 ≤ r_48.toInt ∧ r_48.toInt ≤ 1) := k_49
                    have hP : va_P (dC, dI) vwCl [(h0, .inr (2, [.ref f_fromLawn, .ref f_fromDitch, .ref f_ontoDitch])), (f_fromLawn, .inl (cy 1, 20, .inl f_32)), (f_fromDitch, .inl (cy 1, 20, .inl f_19)), (f_ontoDitch, .inl (cy 1, 20, .inl f_21)), (h1, .inr (4, [.int g_wide, .int g_deep, .int g_count, .ref g_sorts])), (g_sorts, .inl (cy 1, 20, .inl g_sortsf))] H := hP
                    have hD : va_D A [(h0, .inr (2, [.ref f_fromLawn, .ref f_fromDitch, .ref f_ontoDitch])), (f_fromLawn, .inl (cy 1, 20, .inl f_32)), (f_fromDitch, .inl (cy 1, 20, .inl f_19)), (f_ontoDitch, .inl (cy 1, 20, .inl f_21)), (h1, .inr (4, [.int g_wide, .int g_deep, .int g_count, .ref g_sorts])), (g_sorts, .inl (cy 1, 20, .inl g_sortsf))] := hD
                    refine lv_if_ne (tgt := 123) hx hb dX2_learn_116 (by decide) (fun h_51 => ?_) (fun h_51 => ?_)
                    · have h_51 : r_48.toInt ≠ 0 := c_ne h_51
                      refine lv_iconst (v := 0) hx hb dX2_learn_123 (by decide) ?_
                      refine lv_istore (lv' := [(8, .int 0), (7, .int x_29), (6, .int r_25), (5, .int i_15), (4, .int i_2), (0, .ref h0), (1, .ref h1), (2, .int p2), (3, .int p3)]) hx hb dX2_learn_124 hl (by decide) rfl (fun ls hl => ?_)
                      refine lv_iload hx hb dX2_learn_126 (lv_at hl 0 rfl) ?_
                      refine lv_if_eq (tgt := 154) hx hb dX2_learn_128 (by decide) (fun _ => ?_) (fun h_52 => absurd (by decide) h_52)
                      obtain ⟨x_53, ex_53⟩ : ∃ y : Int32, y = i_15 + 1 := ⟨_, rfl⟩
                      have tx_53 : x_53.toInt = i_15.toInt + 1 := ti_add (A := i_15.toInt) (B := 1) ex_53 rfl rfl (by omega) (by omega)
                      refine lv_iinc (v := x_53) (lv' := [(5, .int x_53), (8, .int 0), (7, .int x_29), (6, .int r_25), (4, .int i_2), (0, .ref h0), (1, .ref h1), (2, .int p2), (3, .int p3)]) hx hb dX2_learn_154 hl (k := 3) rfl (by rw [ex_53]; rfl) (by decide) rfl (fun ls hl => ?_)
                      refine lv_goto (tgt := 39) hx hb dX2_learn_157 (by decide) ?_
                      exact ihlp_14 x_53 f_32 f_19 f_21 _ _ _ (by omega) bf_32 b_20 b_22 (show 5 - x_53.toInt ≤ (nlp_14 : Int) by omega) hP hD hS (lv_sub hl [0, 4, 5, 6, 7, 8] rfl)
                    · have h_51 : r_48.toInt = 0 := c_eq h_51
                      refine lv_iconst (v := 1) hx hb dX2_learn_119 (by decide) ?_
                      refine lv_goto (tgt := 124) hx hb dX2_learn_120 (by decide) ?_
                      refine lv_istore (lv' := [(8, .int 1), (7, .int x_29), (6, .int r_25), (5, .int i_15), (4, .int i_2), (0, .ref h0), (1, .ref h1), (2, .int p2), (3, .int p3)]) hx hb dX2_learn_124 hl (by decide) rfl (fun ls hl => ?_)
                      refine lv_iload hx hb dX2_learn_126 (lv_at hl 0 rfl) ?_
                      refine lv_if_eq (tgt := 154) hx hb dX2_learn_128 (by decide) (fun h_54 => absurd h_54 (by decide)) (fun _ => ?_)
                      refine lv_iload_n hx hb dX2_learn_131 rfl (lv_at hl 7 rfl) ?_
                      refine lv_iload hx hb dX2_learn_132 (lv_at hl 3 rfl) ?_
                      refine fI (wr := [(h0, .inr (2, [.ref f_fromLawn, .ref f_fromDitch, .ref f_ontoDitch])), (f_fromLawn, .inl (cy 1, 20, .inl f_32)), (f_fromDitch, .inl (cy 1, 20, .inl f_19)), (f_ontoDitch, .inl (cy 1, 20, .inl f_21)), (h1, .inr (4, [.int g_wide, .int g_deep, .int g_count, .ref g_sorts])), (g_sorts, .inl (cy 1, 20, .inl g_sortsf))]) (rS_I (wc := []) (As := [.int p2, .int i_15]) (rest := []) X (sX4_timeOntoDitch l dC dI cy p2 i_15) kX4_timeOntoDitch w_832 mX2_38 hP hD [] (by decide) rfl hl rfl rfl (Nat.le_of_ble_eq_true rfl) dX2_learn_134 ⟨(Nat.le_of_ble_eq_true rfl), (Nat.le_of_ble_eq_true rfl)⟩ ⟨(Nat.le_of_ble_eq_true rfl), (Nat.le_of_ble_eq_true rfl)⟩) hP hD hS hA [] [0, 1, 2, 3, 4, 5] rfl rfl (by decide) (by decide) (fun r_55 u_57 H locs k_56 hP hD hS => ?_)
                      have k_56 : ((-2) ≤ r_55.toInt ∧ r_55.toInt ≤ 4) := k_56
                      have hP : va_P (dC, dI) vwCl [(h0, .inr (2, [.ref f_fromLawn, .ref f_fromDitch, .ref f_ontoDitch])), (f_fromLawn, .inl (cy 1, 20, .inl f_32)), (f_fromDitch, .inl (cy 1, 20, .inl f_19)), (f_ontoDitch, .inl (cy 1, 20, .inl f_21)), (h1, .inr (4, [.int g_wide, .int g_deep, .int g_count, .ref g_sorts])), (g_sorts, .inl (cy 1, 20, .inl g_sortsf))] H := hP
                      have hD : va_D A [(h0, .inr (2, [.ref f_fromLawn, .ref f_fromDitch, .ref f_ontoDitch])), (f_fromLawn, .inl (cy 1, 20, .inl f_32)), (f_fromDitch, .inl (cy 1, 20, .inl f_19)), (f_ontoDitch, .inl (cy 1, 20, .inl f_21)), (h1, .inr (4, [.int g_wide, .int g_deep, .int g_count, .ref g_sorts])), (g_sorts, .inl (cy 1, 20, .inl g_sortsf))] := hD
                      refine lv_bipush (v := -2) hx hb dX2_learn_137 (by decide) ?_
                      refine lv_icmp_eq (tgt := 154) hx hb dX2_learn_139 (by decide) (fun h_58 => ?_) (fun h_58 => ?_)
                      · have h_58 : r_55.toInt = (-2) := c_eq h_58
                        obtain ⟨x_59, ex_59⟩ : ∃ y : Int32, y = i_15 + 1 := ⟨_, rfl⟩
                        have tx_59 : x_59.toInt = i_15.toInt + 1 := ti_add (A := i_15.toInt) (B := 1) ex_59 rfl rfl (by omega) (by omega)
                        refine lv_iinc (v := x_59) (lv' := [(5, .int x_59), (8, .int 1), (7, .int x_29), (6, .int r_25), (4, .int i_2), (0, .ref h0), (1, .ref h1), (2, .int p2), (3, .int p3)]) hx hb dX2_learn_154 hl (k := 3) rfl (by rw [ex_59]; rfl) (by decide) rfl (fun ls hl => ?_)
                        refine lv_goto (tgt := 39) hx hb dX2_learn_157 (by decide) ?_
                        exact ihlp_14 x_59 f_32 f_19 f_21 _ _ _ (by omega) bf_32 b_20 b_22 (show 5 - x_59.toInt ≤ (nlp_14 : Int) by omega) hP hD hS (lv_sub hl [0, 4, 5, 6, 7, 8] rfl)
                      · have h_58 : r_55.toInt ≠ (-2) := c_ne h_58
                        refine lv_aload_n hx hb dX2_learn_142 rfl (lv_at hl 5 rfl) ?_
                        refine r_get X kcX2 (ci := 2) rfl hP 0 rfl 2 (by decide) fX2_18 rfl dX2_learn_143 ?_
                        refine lv_iload hx hb dX2_learn_146 (lv_at hl 4 rfl) ?_
                        refine lv_dup2_11 hx hb dX2_learn_148 rfl rfl ?_
                        refine va_iald (D := (dC, dI)) (cl := vwCl) hx hb hK hP 3 1 rfl rfl (i := i_2) (vin (by omega) (by omega)) dX2_learn_149 ?_
                        refine lv_topi (fun x_60 ex_60 => ?_)
                        have bx_60 : 0 ≤ x_60.toInt ∧ x_60.toInt ≤ 1048575 := rb_at b_22 ex_60 (by omega) (by omega)
                        refine lv_iload hx hb dX2_learn_150 (lv_at hl 1 rfl) ?_
                        refine lv_ior hx hb dX2_learn_152 ?_
                        refine lv_topi (fun x_61 ex_61 => ?_)
                        have tx_61 : 0 ≤ x_61.toInt ∧ x_61.toInt ≤ 1048575 := ti_or20 ex_61 (by omega) (by omega) (by omega) (by omega)
                        refine va_iast (D := (dC, dI)) (cl := vwCl) hx hb hK hP hD hS 3 1 rfl rfl (i := i_2) (vin (by omega) (by omega)) dX2_learn_153 (fun H locs hP hD hS => ?_)
                        generalize ef_62 : upd f_21 (Int32.toNatClampNeg i_2) x_61 = f_62 at hP hD
                        have bf_62 : rb f_62 20 0 1048575 := by rw [← ef_62]; exact rb_upd b_22 (by omega) (by omega)
                        have hP : va_P (dC, dI) vwCl [(h0, .inr (2, [.ref f_fromLawn, .ref f_fromDitch, .ref f_ontoDitch])), (f_fromLawn, .inl (cy 1, 20, .inl f_32)), (f_fromDitch, .inl (cy 1, 20, .inl f_19)), (f_ontoDitch, .inl (cy 1, 20, .inl f_62)), (h1, .inr (4, [.int g_wide, .int g_deep, .int g_count, .ref g_sorts])), (g_sorts, .inl (cy 1, 20, .inl g_sortsf))] H := hP
                        have hD : va_D A [(h0, .inr (2, [.ref f_fromLawn, .ref f_fromDitch, .ref f_ontoDitch])), (f_fromLawn, .inl (cy 1, 20, .inl f_32)), (f_fromDitch, .inl (cy 1, 20, .inl f_19)), (f_ontoDitch, .inl (cy 1, 20, .inl f_62)), (h1, .inr (4, [.int g_wide, .int g_deep, .int g_count, .ref g_sorts])), (g_sorts, .inl (cy 1, 20, .inl g_sortsf))] := hD
                        obtain ⟨x_63, ex_63⟩ : ∃ y : Int32, y = i_15 + 1 := ⟨_, rfl⟩
                        have tx_63 : x_63.toInt = i_15.toInt + 1 := ti_add (A := i_15.toInt) (B := 1) ex_63 rfl rfl (by omega) (by omega)
                        refine lv_iinc (v := x_63) (lv' := [(5, .int x_63), (8, .int 1), (7, .int x_29), (6, .int r_25), (4, .int i_2), (0, .ref h0), (1, .ref h1), (2, .int p2), (3, .int p3)]) hx hb dX2_learn_154 hl (k := 3) rfl (by rw [ex_63]; rfl) (by decide) rfl (fun ls hl => ?_)
                        refine lv_goto (tgt := 39) hx hb dX2_learn_157 (by decide) ?_
                        exact ihlp_14 x_63 f_32 f_19 f_62 _ _ _ (by omega) bf_32 b_20 bf_62 (show 5 - x_63.toInt ≤ (nlp_14 : Int) by omega) hP hD hS (lv_sub hl [0, 4, 5, 6, 7, 8] rfl)
                · have h_36 : r_33.toInt ≠ (-2) := c_ne h_36
                  refine lv_aload_n hx hb dX2_learn_94 rfl (lv_at hl 4 rfl) ?_
                  refine r_get X kcX2 (ci := 2) rfl hP 0 rfl 1 (by decide) fX2_15 rfl dX2_learn_95 ?_
                  refine lv_iload hx hb dX2_learn_98 (lv_at hl 3 rfl) ?_
                  refine lv_dup2_11 hx hb dX2_learn_100 rfl rfl ?_
                  refine va_iald (D := (dC, dI)) (cl := vwCl) hx hb hK hP 2 1 rfl rfl (i := i_2) (vin (by omega) (by omega)) dX2_learn_101 ?_
                  refine lv_topi (fun x_64 ex_64 => ?_)
                  have bx_64 : 0 ≤ x_64.toInt ∧ x_64.toInt ≤ 1048575 := rb_at b_20 ex_64 (by omega) (by omega)
                  refine lv_iload hx hb dX2_learn_102 (lv_at hl 0 rfl) ?_
                  refine lv_ior hx hb dX2_learn_104 ?_
                  refine lv_topi (fun x_65 ex_65 => ?_)
                  have tx_65 : 0 ≤ x_65.toInt ∧ x_65.toInt ≤ 1048575 := ti_or20 ex_65 (by omega) (by omega) (by omega) (by omega)
                  refine va_iast (D := (dC, dI)) (cl := vwCl) hx hb hK hP hD hS 2 1 rfl rfl (i := i_2) (vin (by omega) (by omega)) dX2_learn_105 (fun H locs hP hD hS => ?_)
                  generalize ef_66 : upd f_19 (Int32.toNatClampNeg i_2) x_65 = f_66 at hP hD
                  have bf_66 : rb f_66 20 0 1048575 := by rw [← ef_66]; exact rb_upd b_20 (by omega) (by omega)
                  have hP : va_P (dC, dI) vwCl [(h0, .inr (2, [.ref f_fromLawn, .ref f_fromDitch, .ref f_ontoDitch])), (f_fromLawn, .inl (cy 1, 20, .inl f_32)), (f_fromDitch, .inl (cy 1, 20, .inl f_66)), (f_ontoDitch, .inl (cy 1, 20, .inl f_21)), (h1, .inr (4, [.int g_wide, .int g_deep, .int g_count, .ref g_sorts])), (g_sorts, .inl (cy 1, 20, .inl g_sortsf))] H := hP
                  have hD : va_D A [(h0, .inr (2, [.ref f_fromLawn, .ref f_fromDitch, .ref f_ontoDitch])), (f_fromLawn, .inl (cy 1, 20, .inl f_32)), (f_fromDitch, .inl (cy 1, 20, .inl f_66)), (f_ontoDitch, .inl (cy 1, 20, .inl f_21)), (h1, .inr (4, [.int g_wide, .int g_deep, .int g_count, .ref g_sorts])), (g_sorts, .inl (cy 1, 20, .inl g_sortsf))] := hD
                  refine lv_iload_n hx hb dX2_learn_106 rfl (lv_at hl 7 rfl) ?_
                  refine lv_if_ne (tgt := 119) hx hb dX2_learn_107 (by decide) (fun h_67 => ?_) (fun h_67 => ?_)
                  · have h_67 : p3.toInt ≠ 0 := c_ne h_67
                    refine lv_iconst (v := 1) hx hb dX2_learn_119 (by decide) ?_
                    refine lv_goto (tgt := 124) hx hb dX2_learn_120 (by decide) ?_
                    refine lv_istore (lv' := [(8, .int 1), (7, .int x_29), (6, .int r_25), (5, .int i_15), (4, .int i_2), (0, .ref h0), (1, .ref h1), (2, .int p2), (3, .int p3)]) hx hb dX2_learn_124 hl (by decide) rfl (fun ls hl => ?_)
                    refine lv_iload hx hb dX2_learn_126 (lv_at hl 0 rfl) ?_
                    refine lv_if_eq (tgt := 154) hx hb dX2_learn_128 (by decide) (fun h_68 => absurd h_68 (by decide)) (fun _ => ?_)
                    refine lv_iload_n hx hb dX2_learn_131 rfl (lv_at hl 7 rfl) ?_
                    refine lv_iload hx hb dX2_learn_132 (lv_at hl 3 rfl) ?_
                    refine fI (wr := [(h0, .inr (2, [.ref f_fromLawn, .ref f_fromDitch, .ref f_ontoDitch])), (f_fromLawn, .inl (cy 1, 20, .inl f_32)), (f_fromDitch, .inl (cy 1, 20, .inl f_66)), (f_ontoDitch, .inl (cy 1, 20, .inl f_21)), (h1, .inr (4, [.int g_wide, .int g_deep, .int g_count, .ref g_sorts])), (g_sorts, .inl (cy 1, 20, .inl g_sortsf))]) (rS_I (wc := []) (As := [.int p2, .int i_15]) (rest := []) X (sX4_timeOntoDitch l dC dI cy p2 i_15) kX4_timeOntoDitch w_832 mX2_38 hP hD [] (by decide) rfl hl rfl rfl (Nat.le_of_ble_eq_true rfl) dX2_learn_134 ⟨(Nat.le_of_ble_eq_true rfl), (Nat.le_of_ble_eq_true rfl)⟩ ⟨(Nat.le_of_ble_eq_true rfl), (Nat.le_of_ble_eq_true rfl)⟩) hP hD hS hA [] [0, 1, 2, 3, 4, 5] rfl rfl (by decide) (by decide) (fun r_69 u_71 H locs k_70 hP hD hS => ?_)
                    have k_70 : ((-2) ≤ r_69.toInt ∧ r_69.toInt ≤ 4) := k_70
                    have hP : va_P (dC, dI) vwCl [(h0, .inr (2, [.ref f_fromLawn, .ref f_fromDitch, .ref f_ontoDitch])), (f_fromLawn, .inl (cy 1, 20, .inl f_32)), (f_fromDitch, .inl (cy 1, 20, .inl f_66)), (f_ontoDitch, .inl (cy 1, 20, .inl f_21)), (h1, .inr (4, [.int g_wide, .int g_deep, .int g_count, .ref g_sorts])), (g_sorts, .inl (cy 1, 20, .inl g_sortsf))] H := hP
                    have hD : va_D A [(h0, .inr (2, [.ref f_fromLawn, .ref f_fromDitch, .ref f_ontoDitch])), (f_fromLawn, .inl (cy 1, 20, .inl f_32)), (f_fromDitch, .inl (cy 1, 20, .inl f_66)), (f_ontoDitch, .inl (cy 1, 20, .inl f_21)), (h1, .inr (4, [.int g_wide, .int g_deep, .int g_count, .ref g_sorts])), (g_sorts, .inl (cy 1, 20, .inl g_sortsf))] := hD
                    refine lv_bipush (v := -2) hx hb dX2_learn_137 (by decide) ?_
                    refine lv_icmp_eq (tgt := 154) hx hb dX2_learn_139 (by decide) (fun h_72 => ?_) (fun h_72 => ?_)
                    · have h_72 : r_69.toInt = (-2) := c_eq h_72
                      obtain ⟨x_73, ex_73⟩ : ∃ y : Int32, y = i_15 + 1 := ⟨_, rfl⟩
                      have tx_73 : x_73.toInt = i_15.toInt + 1 := ti_add (A := i_15.toInt) (B := 1) ex_73 rfl rfl (by omega) (by omega)
                      refine lv_iinc (v := x_73) (lv' := [(5, .int x_73), (8, .int 1), (7, .int x_29), (6, .int r_25), (4, .int i_2), (0, .ref h0), (1, .ref h1), (2, .int p2), (3, .int p3)]) hx hb dX2_learn_154 hl (k := 3) rfl (by rw [ex_73]; rfl) (by decide) rfl (fun ls hl => ?_)
                      refine lv_goto (tgt := 39) hx hb dX2_learn_157 (by decide) ?_
                      exact ihlp_14 x_73 f_32 f_66 f_21 _ _ _ (by omega) bf_32 bf_66 b_22 (show 5 - x_73.toInt ≤ (nlp_14 : Int) by omega) hP hD hS (lv_sub hl [0, 4, 5, 6, 7, 8] rfl)
                    · have h_72 : r_69.toInt ≠ (-2) := c_ne h_72
                      refine lv_aload_n hx hb dX2_learn_142 rfl (lv_at hl 5 rfl) ?_
                      refine r_get X kcX2 (ci := 2) rfl hP 0 rfl 2 (by decide) fX2_18 rfl dX2_learn_143 ?_
                      refine lv_iload hx hb dX2_learn_146 (lv_at hl 4 rfl) ?_
                      refine lv_dup2_11 hx hb dX2_learn_148 rfl rfl ?_
                      refine va_iald (D := (dC, dI)) (cl := vwCl) hx hb hK hP 3 1 rfl rfl (i := i_2) (vin (by omega) (by omega)) dX2_learn_149 ?_
                      refine lv_topi (fun x_74 ex_74 => ?_)
                      have bx_74 : 0 ≤ x_74.toInt ∧ x_74.toInt ≤ 1048575 := rb_at b_22 ex_74 (by omega) (by omega)
                      refine lv_iload hx hb dX2_learn_150 (lv_at hl 1 rfl) ?_
                      refine lv_ior hx hb dX2_learn_152 ?_
                      refine lv_topi (fun x_75 ex_75 => ?_)
                      have tx_75 : 0 ≤ x_75.toInt ∧ x_75.toInt ≤ 1048575 := ti_or20 ex_75 (by omega) (by omega) (by omega) (by omega)
                      refine va_iast (D := (dC, dI)) (cl := vwCl) hx hb hK hP hD hS 3 1 rfl rfl (i := i_2) (vin (by omega) (by omega)) dX2_learn_153 (fun H locs hP hD hS => ?_)
                      generalize ef_76 : upd f_21 (Int32.toNatClampNeg i_2) x_75 = f_76 at hP hD
                      have bf_76 : rb f_76 20 0 1048575 := by rw [← ef_76]; exact rb_upd b_22 (by omega) (by omega)
                      have hP : va_P (dC, dI) vwCl [(h0, .inr (2, [.ref f_fromLawn, .ref f_fromDitch, .ref f_ontoDitch])), (f_fromLawn, .inl (cy 1, 20, .inl f_32)), (f_fromDitch, .inl (cy 1, 20, .inl f_66)), (f_ontoDitch, .inl (cy 1, 20, .inl f_76)), (h1, .inr (4, [.int g_wide, .int g_deep, .int g_count, .ref g_sorts])), (g_sorts, .inl (cy 1, 20, .inl g_sortsf))] H := hP
                      have hD : va_D A [(h0, .inr (2, [.ref f_fromLawn, .ref f_fromDitch, .ref f_ontoDitch])), (f_fromLawn, .inl (cy 1, 20, .inl f_32)), (f_fromDitch, .inl (cy 1, 20, .inl f_66)), (f_ontoDitch, .inl (cy 1, 20, .inl f_76)), (h1, .inr (4, [.int g_wide, .int g_deep, .int g_count, .ref g_sorts])), (g_sorts, .inl (cy 1, 20, .inl g_sortsf))] := hD
                      obtain ⟨x_77, ex_77⟩ : ∃ y : Int32, y = i_15 + 1 := ⟨_, rfl⟩
                      have tx_77 : x_77.toInt = i_15.toInt + 1 := ti_add (A := i_15.toInt) (B := 1) ex_77 rfl rfl (by omega) (by omega)
                      refine lv_iinc (v := x_77) (lv' := [(5, .int x_77), (8, .int 1), (7, .int x_29), (6, .int r_25), (4, .int i_2), (0, .ref h0), (1, .ref h1), (2, .int p2), (3, .int p3)]) hx hb dX2_learn_154 hl (k := 3) rfl (by rw [ex_77]; rfl) (by decide) rfl (fun ls hl => ?_)
                      refine lv_goto (tgt := 39) hx hb dX2_learn_157 (by decide) ?_
                      exact ihlp_14 x_77 f_32 f_66 f_76 _ _ _ (by omega) bf_32 bf_66 bf_76 (show 5 - x_77.toInt ≤ (nlp_14 : Int) by omega) hP hD hS (lv_sub hl [0, 4, 5, 6, 7, 8] rfl)
                  · have h_67 : p3.toInt = 0 := c_eq h_67
                    refine lv_iload_n hx hb dX2_learn_110 rfl (lv_at hl 6 rfl) ?_
                    refine lv_iload hx hb dX2_learn_111 (lv_at hl 2 rfl) ?_
                    refine fI (wr := [(h0, .inr (2, [.ref f_fromLawn, .ref f_fromDitch, .ref f_ontoDitch])), (f_fromLawn, .inl (cy 1, 20, .inl f_32)), (f_fromDitch, .inl (cy 1, 20, .inl f_66)), (f_ontoDitch, .inl (cy 1, 20, .inl f_21)), (h1, .inr (4, [.int g_wide, .int g_deep, .int g_count, .ref g_sorts])), (g_sorts, .inl (cy 1, 20, .inl g_sortsf))]) (rS_I (wc := []) (As := [.int p2, .int i_15]) (rest := []) X (sX4_isFallOntoDitch l dC dI cy p2 i_15) kX4_isFallOntoDitch w_846 mX2_34 hP hD [] (by decide) rfl hl rfl rfl (Nat.le_of_ble_eq_true rfl) dX2_learn_113 ⟨(Nat.le_of_ble_eq_true rfl), (Nat.le_of_ble_eq_true rfl)⟩ ⟨(Nat.le_of_ble_eq_true rfl), (Nat.le_of_ble_eq_true rfl)⟩) hP hD hS hA [] [0, 1, 2, 3, 4, 5] rfl rfl (by decide) (by decide) (fun r_78 u_80 H locs k_79 hP hD hS => ?_)
                    have k_79 : (0 ≤ r_78.toInt ∧ r_78.toInt ≤ 1) := k_79
                    have hP : va_P (dC, dI) vwCl [(h0, .inr (2, [.ref f_fromLawn, .ref f_fromDitch, .ref f_ontoDitch])), (f_fromLawn, .inl (cy 1, 20, .inl f_32)), (f_fromDitch, .inl (cy 1, 20, .inl f_66)), (f_ontoDitch, .inl (cy 1, 20, .inl f_21)), (h1, .inr (4, [.int g_wide, .int g_deep, .int g_count, .ref g_sorts])), (g_sorts, .inl (cy 1, 20, .inl g_sortsf))] H := hP
                    have hD : va_D A [(h0, .inr (2, [.ref f_fromLawn, .ref f_fromDitch, .ref f_ontoDitch])), (f_fromLawn, .inl (cy 1, 20, .inl f_32)), (f_fromDitch, .inl (cy 1, 20, .inl f_66)), (f_ontoDitch, .inl (cy 1, 20, .inl f_21)), (h1, .inr (4, [.int g_wide, .int g_deep, .int g_count, .ref g_sorts])), (g_sorts, .inl (cy 1, 20, .inl g_sortsf))] := hD
                    refine lv_if_ne (tgt := 123) hx hb dX2_learn_116 (by decide) (fun h_81 => ?_) (fun h_81 => ?_)
                    · have h_81 : r_78.toInt ≠ 0 := c_ne h_81
                      refine lv_iconst (v := 0) hx hb dX2_learn_123 (by decide) ?_
                      refine lv_istore (lv' := [(8, .int 0), (7, .int x_29), (6, .int r_25), (5, .int i_15), (4, .int i_2), (0, .ref h0), (1, .ref h1), (2, .int p2), (3, .int p3)]) hx hb dX2_learn_124 hl (by decide) rfl (fun ls hl => ?_)
                      refine lv_iload hx hb dX2_learn_126 (lv_at hl 0 rfl) ?_
                      refine lv_if_eq (tgt := 154) hx hb dX2_learn_128 (by decide) (fun _ => ?_) (fun h_82 => absurd (by decide) h_82)
                      obtain ⟨x_83, ex_83⟩ : ∃ y : Int32, y = i_15 + 1 := ⟨_, rfl⟩
                      have tx_83 : x_83.toInt = i_15.toInt + 1 := ti_add (A := i_15.toInt) (B := 1) ex_83 rfl rfl (by omega) (by omega)
                      refine lv_iinc (v := x_83) (lv' := [(5, .int x_83), (8, .int 0), (7, .int x_29), (6, .int r_25), (4, .int i_2), (0, .ref h0), (1, .ref h1), (2, .int p2), (3, .int p3)]) hx hb dX2_learn_154 hl (k := 3) rfl (by rw [ex_83]; rfl) (by decide) rfl (fun ls hl => ?_)
                      refine lv_goto (tgt := 39) hx hb dX2_learn_157 (by decide) ?_
                      exact ihlp_14 x_83 f_32 f_66 f_21 _ _ _ (by omega) bf_32 bf_66 b_22 (show 5 - x_83.toInt ≤ (nlp_14 : Int) by omega) hP hD hS (lv_sub hl [0, 4, 5, 6, 7, 8] rfl)
                    · have h_81 : r_78.toInt = 0 := c_eq h_81
                      refine lv_iconst (v := 1) hx hb dX2_learn_119 (by decide) ?_
                      refine lv_goto (tgt := 124) hx hb dX2_learn_120 (by decide) ?_
                      refine lv_istore (lv' := [(8, .int 1), (7, .int x_29), (6, .int r_25), (5, .int i_15), (4, .int i_2), (0, .ref h0), (1, .ref h1), (2, .int p2), (3, .int p3)]) hx hb dX2_learn_124 hl (by decide) rfl (fun ls hl => ?_)
                      refine lv_iload hx hb dX2_learn_126 (lv_at hl 0 rfl) ?_
                      refine lv_if_eq (tgt := 154) hx hb dX2_learn_128 (by decide) (fun h_84 => absurd h_84 (by decide)) (fun _ => ?_)
                      refine lv_iload_n hx hb dX2_learn_131 rfl (lv_at hl 7 rfl) ?_
                      refine lv_iload hx hb dX2_learn_132 (lv_at hl 3 rfl) ?_
                      refine fI (wr := [(h0, .inr (2, [.ref f_fromLawn, .ref f_fromDitch, .ref f_ontoDitch])), (f_fromLawn, .inl (cy 1, 20, .inl f_32)), (f_fromDitch, .inl (cy 1, 20, .inl f_66)), (f_ontoDitch, .inl (cy 1, 20, .inl f_21)), (h1, .inr (4, [.int g_wide, .int g_deep, .int g_count, .ref g_sorts])), (g_sorts, .inl (cy 1, 20, .inl g_sortsf))]) (rS_I (wc := []) (As := [.int p2, .int i_15]) (rest := []) X (sX4_timeOntoDitch l dC dI cy p2 i_15) kX4_timeOntoDitch w_832 mX2_38 hP hD [] (by decide) rfl hl rfl rfl (Nat.le_of_ble_eq_true rfl) dX2_learn_134 ⟨(Nat.le_of_ble_eq_true rfl), (Nat.le_of_ble_eq_true rfl)⟩ ⟨(Nat.le_of_ble_eq_true rfl), (Nat.le_of_ble_eq_true rfl)⟩) hP hD hS hA [] [0, 1, 2, 3, 4, 5] rfl rfl (by decide) (by decide) (fun r_85 u_87 H locs k_86 hP hD hS => ?_)
                      have k_86 : ((-2) ≤ r_85.toInt ∧ r_85.toInt ≤ 4) := k_86
                      have hP : va_P (dC, dI) vwCl [(h0, .inr (2, [.ref f_fromLawn, .ref f_fromDitch, .ref f_ontoDitch])), (f_fromLawn, .inl (cy 1, 20, .inl f_32)), (f_fromDitch, .inl (cy 1, 20, .inl f_66)), (f_ontoDitch, .inl (cy 1, 20, .inl f_21)), (h1, .inr (4, [.int g_wide, .int g_deep, .int g_count, .ref g_sorts])), (g_sorts, .inl (cy 1, 20, .inl g_sortsf))] H := hP
                      have hD : va_D A [(h0, .inr (2, [.ref f_fromLawn, .ref f_fromDitch, .ref f_ontoDitch])), (f_fromLawn, .inl (cy 1, 20, .inl f_32)), (f_fromDitch, .inl (cy 1, 20, .inl f_66)), (f_ontoDitch, .inl (cy 1, 20, .inl f_21)), (h1, .inr (4, [.int g_wide, .int g_deep, .int g_count, .ref g_sorts])), (g_sorts, .inl (cy 1, 20, .inl g_sortsf))] := hD
                      refine lv_bipush (v := -2) hx hb dX2_learn_137 (by decide) ?_
                      refine lv_icmp_eq (tgt := 154) hx hb dX2_learn_139 (by decide) (fun h_88 => ?_) (fun h_88 => ?_)
                      · have h_88 : r_85.toInt = (-2) := c_eq h_88
                        obtain ⟨x_89, ex_89⟩ : ∃ y : Int32, y = i_15 + 1 := ⟨_, rfl⟩
                        have tx_89 : x_89.toInt = i_15.toInt + 1 := ti_add (A := i_15.toInt) (B := 1) ex_89 rfl rfl (by omega) (by omega)
                        refine lv_iinc (v := x_89) (lv' := [(5, .int x_89), (8, .int 1), (7, .int x_29), (6, .int r_25), (4, .int i_2), (0, .ref h0), (1, .ref h1), (2, .int p2), (3, .int p3)]) hx hb dX2_learn_154 hl (k := 3) rfl (by rw [ex_89]; rfl) (by decide) rfl (fun ls hl => ?_)
                        refine lv_goto (tgt := 39) hx hb dX2_learn_157 (by decide) ?_
                        exact ihlp_14 x_89 f_32 f_66 f_21 _ _ _ (by omega) bf_32 bf_66 b_22 (show 5 - x_89.toInt ≤ (nlp_14 : Int) by omega) hP hD hS (lv_sub hl [0, 4, 5, 6, 7, 8] rfl)
                      · have h_88 : r_85.toInt ≠ (-2) := c_ne h_88
                        refine lv_aload_n hx hb dX2_learn_142 rfl (lv_at hl 5 rfl) ?_
                        refine r_get X kcX2 (ci := 2) rfl hP 0 rfl 2 (by decide) fX2_18 rfl dX2_learn_143 ?_
                        refine lv_iload hx hb dX2_learn_146 (lv_at hl 4 rfl) ?_
                        refine lv_dup2_11 hx hb dX2_learn_148 rfl rfl ?_
                        refine va_iald (D := (dC, dI)) (cl := vwCl) hx hb hK hP 3 1 rfl rfl (i := i_2) (vin (by omega) (by omega)) dX2_learn_149 ?_
                        refine lv_topi (fun x_90 ex_90 => ?_)
                        have bx_90 : 0 ≤ x_90.toInt ∧ x_90.toInt ≤ 1048575 := rb_at b_22 ex_90 (by omega) (by omega)
                        refine lv_iload hx hb dX2_learn_150 (lv_at hl 1 rfl) ?_
                        refine lv_ior hx hb dX2_learn_152 ?_
                        refine lv_topi (fun x_91 ex_91 => ?_)
                        have tx_91 : 0 ≤ x_91.toInt ∧ x_91.toInt ≤ 1048575 := ti_or20 ex_91 (by omega) (by omega) (by omega) (by omega)
                        refine va_iast (D := (dC, dI)) (cl := vwCl) hx hb hK hP hD hS 3 1 rfl rfl (i := i_2) (vin (by omega) (by omega)) dX2_learn_153 (fun H locs hP hD hS => ?_)
                        generalize ef_92 : upd f_21 (Int32.toNatClampNeg i_2) x_91 = f_92 at hP hD
                        have bf_92 : rb f_92 20 0 1048575 := by rw [← ef_92]; exact rb_upd b_22 (by omega) (by omega)
                        have hP : va_P (dC, dI) vwCl [(h0, .inr (2, [.ref f_fromLawn, .ref f_fromDitch, .ref f_ontoDitch])), (f_fromLawn, .inl (cy 1, 20, .inl f_32)), (f_fromDitch, .inl (cy 1, 20, .inl f_66)), (f_ontoDitch, .inl (cy 1, 20, .inl f_92)), (h1, .inr (4, [.int g_wide, .int g_deep, .int g_count, .ref g_sorts])), (g_sorts, .inl (cy 1, 20, .inl g_sortsf))] H := hP
                        have hD : va_D A [(h0, .inr (2, [.ref f_fromLawn, .ref f_fromDitch, .ref f_ontoDitch])), (f_fromLawn, .inl (cy 1, 20, .inl f_32)), (f_fromDitch, .inl (cy 1, 20, .inl f_66)), (f_ontoDitch, .inl (cy 1, 20, .inl f_92)), (h1, .inr (4, [.int g_wide, .int g_deep, .int g_count, .ref g_sorts])), (g_sorts, .inl (cy 1, 20, .inl g_sortsf))] := hD
                        obtain ⟨x_93, ex_93⟩ : ∃ y : Int32, y = i_15 + 1 := ⟨_, rfl⟩
                        have tx_93 : x_93.toInt = i_15.toInt + 1 := ti_add (A := i_15.toInt) (B := 1) ex_93 rfl rfl (by omega) (by omega)
                        refine lv_iinc (v := x_93) (lv' := [(5, .int x_93), (8, .int 1), (7, .int x_29), (6, .int r_25), (4, .int i_2), (0, .ref h0), (1, .ref h1), (2, .int p2), (3, .int p3)]) hx hb dX2_learn_154 hl (k := 3) rfl (by rw [ex_93]; rfl) (by decide) rfl (fun ls hl => ?_)
                        refine lv_goto (tgt := 39) hx hb dX2_learn_157 (by decide) ?_
                        exact ihlp_14 x_93 f_32 f_66 f_92 _ _ _ (by omega) bf_32 bf_66 bf_92 (show 5 - x_93.toInt ≤ (nlp_14 : Int) by omega) hP hD hS (lv_sub hl [0, 4, 5, 6, 7, 8] rfl)
              · have h_28 : r_25.toInt = (-1) := c_eq h_28
                refine lv_iconst (v := 0) hx hb dX2_learn_61 (by decide) ?_
                refine lv_goto (tgt := 69) hx hb dX2_learn_62 (by decide) ?_
                refine lv_istore (lv' := [(7, .int 0), (6, .int r_25), (5, .int i_15), (4, .int i_2), (0, .ref h0), (1, .ref h1), (2, .int p2), (3, .int p3)]) hx hb dX2_learn_69 hl (by decide) rfl (fun ls hl => ?_)
                refine lv_aload_n hx hb dX2_learn_71 rfl (lv_at hl 4 rfl) ?_
                refine r_get X kcX2 (ci := 2) rfl hP 0 rfl 0 (by decide) fX2_9 rfl dX2_learn_72 ?_
                refine lv_iload hx hb dX2_learn_75 (lv_at hl 3 rfl) ?_
                refine lv_dup2_11 hx hb dX2_learn_77 rfl rfl ?_
                refine va_iald (D := (dC, dI)) (cl := vwCl) hx hb hK hP 1 1 rfl rfl (i := i_2) (vin (by omega) (by omega)) dX2_learn_78 ?_
                refine lv_topi (fun x_94 ex_94 => ?_)
                have bx_94 : 0 ≤ x_94.toInt ∧ x_94.toInt ≤ 1048575 := rb_at b_18 ex_94 (by omega) (by omega)
                refine lv_iload hx hb dX2_learn_79 (lv_at hl 0 rfl) ?_
                refine lv_ior hx hb dX2_learn_81 ?_
                refine lv_topi (fun x_95 ex_95 => ?_)
                have tx_95 : 0 ≤ x_95.toInt ∧ x_95.toInt ≤ 1048575 := ti_or20 ex_95 (by omega) (by omega) (by decide) (by decide)
                refine va_iast (D := (dC, dI)) (cl := vwCl) hx hb hK hP hD hS 1 1 rfl rfl (i := i_2) (vin (by omega) (by omega)) dX2_learn_82 (fun H locs hP hD hS => ?_)
                generalize ef_96 : upd f_17 (Int32.toNatClampNeg i_2) x_95 = f_96 at hP hD
                have bf_96 : rb f_96 20 0 1048575 := by rw [← ef_96]; exact rb_upd b_18 (by omega) (by omega)
                have hP : va_P (dC, dI) vwCl [(h0, .inr (2, [.ref f_fromLawn, .ref f_fromDitch, .ref f_ontoDitch])), (f_fromLawn, .inl (cy 1, 20, .inl f_96)), (f_fromDitch, .inl (cy 1, 20, .inl f_19)), (f_ontoDitch, .inl (cy 1, 20, .inl f_21)), (h1, .inr (4, [.int g_wide, .int g_deep, .int g_count, .ref g_sorts])), (g_sorts, .inl (cy 1, 20, .inl g_sortsf))] H := hP
                have hD : va_D A [(h0, .inr (2, [.ref f_fromLawn, .ref f_fromDitch, .ref f_ontoDitch])), (f_fromLawn, .inl (cy 1, 20, .inl f_96)), (f_fromDitch, .inl (cy 1, 20, .inl f_19)), (f_ontoDitch, .inl (cy 1, 20, .inl f_21)), (h1, .inr (4, [.int g_wide, .int g_deep, .int g_count, .ref g_sorts])), (g_sorts, .inl (cy 1, 20, .inl g_sortsf))] := hD
                refine lv_iload_n hx hb dX2_learn_83 rfl (lv_at hl 6 rfl) ?_
                refine lv_iload hx hb dX2_learn_84 (lv_at hl 2 rfl) ?_
                refine fI (wr := [(h0, .inr (2, [.ref f_fromLawn, .ref f_fromDitch, .ref f_ontoDitch])), (f_fromLawn, .inl (cy 1, 20, .inl f_96)), (f_fromDitch, .inl (cy 1, 20, .inl f_19)), (f_ontoDitch, .inl (cy 1, 20, .inl f_21)), (h1, .inr (4, [.int g_wide, .int g_deep, .int g_count, .ref g_sorts])), (g_sorts, .inl (cy 1, 20, .inl g_sortsf))]) (rS_I (wc := []) (As := [.int p2, .int i_15]) (rest := []) X (sX4_timeOutOfDitch l dC dI cy p2 i_15) kX4_timeOutOfDitch w_835 mX2_31 hP hD [] (by decide) rfl hl rfl rfl (Nat.le_of_ble_eq_true rfl) dX2_learn_86 ⟨(Nat.le_of_ble_eq_true rfl), (Nat.le_of_ble_eq_true rfl)⟩ ⟨(Nat.le_of_ble_eq_true rfl), (Nat.le_of_ble_eq_true rfl)⟩) hP hD hS hA [] [0, 1, 2, 3, 4, 5] rfl rfl (by decide) (by decide) (fun r_97 u_99 H locs k_98 hP hD hS => ?_)
                have k_98 : ((-2) ≤ r_97.toInt ∧ r_97.toInt ≤ 4) := k_98
                have hP : va_P (dC, dI) vwCl [(h0, .inr (2, [.ref f_fromLawn, .ref f_fromDitch, .ref f_ontoDitch])), (f_fromLawn, .inl (cy 1, 20, .inl f_96)), (f_fromDitch, .inl (cy 1, 20, .inl f_19)), (f_ontoDitch, .inl (cy 1, 20, .inl f_21)), (h1, .inr (4, [.int g_wide, .int g_deep, .int g_count, .ref g_sorts])), (g_sorts, .inl (cy 1, 20, .inl g_sortsf))] H := hP
                have hD : va_D A [(h0, .inr (2, [.ref f_fromLawn, .ref f_fromDitch, .ref f_ontoDitch])), (f_fromLawn, .inl (cy 1, 20, .inl f_96)), (f_fromDitch, .inl (cy 1, 20, .inl f_19)), (f_ontoDitch, .inl (cy 1, 20, .inl f_21)), (h1, .inr (4, [.int g_wide, .int g_deep, .int g_count, .ref g_sorts])), (g_sorts, .inl (cy 1, 20, .inl g_sortsf))] := hD
                refine lv_bipush (v := -2) hx hb dX2_learn_89 (by decide) ?_
                refine lv_icmp_eq (tgt := 106) hx hb dX2_learn_91 (by decide) (fun h_100 => ?_) (fun h_100 => ?_)
                · have h_100 : r_97.toInt = (-2) := c_eq h_100
                  refine lv_iload_n hx hb dX2_learn_106 rfl (lv_at hl 7 rfl) ?_
                  refine lv_if_ne (tgt := 119) hx hb dX2_learn_107 (by decide) (fun h_101 => ?_) (fun h_101 => ?_)
                  · have h_101 : p3.toInt ≠ 0 := c_ne h_101
                    refine lv_iconst (v := 1) hx hb dX2_learn_119 (by decide) ?_
                    refine lv_goto (tgt := 124) hx hb dX2_learn_120 (by decide) ?_
                    refine lv_istore (lv' := [(8, .int 1), (7, .int 0), (6, .int r_25), (5, .int i_15), (4, .int i_2), (0, .ref h0), (1, .ref h1), (2, .int p2), (3, .int p3)]) hx hb dX2_learn_124 hl (by decide) rfl (fun ls hl => ?_)
                    refine lv_iload hx hb dX2_learn_126 (lv_at hl 0 rfl) ?_
                    refine lv_if_eq (tgt := 154) hx hb dX2_learn_128 (by decide) (fun h_102 => absurd h_102 (by decide)) (fun _ => ?_)
                    refine lv_iload_n hx hb dX2_learn_131 rfl (lv_at hl 7 rfl) ?_
                    refine lv_iload hx hb dX2_learn_132 (lv_at hl 3 rfl) ?_
                    refine fI (wr := [(h0, .inr (2, [.ref f_fromLawn, .ref f_fromDitch, .ref f_ontoDitch])), (f_fromLawn, .inl (cy 1, 20, .inl f_96)), (f_fromDitch, .inl (cy 1, 20, .inl f_19)), (f_ontoDitch, .inl (cy 1, 20, .inl f_21)), (h1, .inr (4, [.int g_wide, .int g_deep, .int g_count, .ref g_sorts])), (g_sorts, .inl (cy 1, 20, .inl g_sortsf))]) (rS_I (wc := []) (As := [.int p2, .int i_15]) (rest := []) X (sX4_timeOntoDitch l dC dI cy p2 i_15) kX4_timeOntoDitch w_832 mX2_38 hP hD [] (by decide) rfl hl rfl rfl (Nat.le_of_ble_eq_true rfl) dX2_learn_134 ⟨(Nat.le_of_ble_eq_true rfl), (Nat.le_of_ble_eq_true rfl)⟩ ⟨(Nat.le_of_ble_eq_true rfl), (Nat.le_of_ble_eq_true rfl)⟩) hP hD hS hA [] [0, 1, 2, 3, 4, 5] rfl rfl (by decide) (by decide) (fun r_103 u_105 H locs k_104 hP hD hS => ?_)
                    have k_104 : ((-2) ≤ r_103.toInt ∧ r_103.toInt ≤ 4) := k_104
                    have hP : va_P (dC, dI) vwCl [(h0, .inr (2, [.ref f_fromLawn, .ref f_fromDitch, .ref f_ontoDitch])), (f_fromLawn, .inl (cy 1, 20, .inl f_96)), (f_fromDitch, .inl (cy 1, 20, .inl f_19)), (f_ontoDitch, .inl (cy 1, 20, .inl f_21)), (h1, .inr (4, [.int g_wide, .int g_deep, .int g_count, .ref g_sorts])), (g_sorts, .inl (cy 1, 20, .inl g_sortsf))] H := hP
                    have hD : va_D A [(h0, .inr (2, [.ref f_fromLawn, .ref f_fromDitch, .ref f_ontoDitch])), (f_fromLawn, .inl (cy 1, 20, .inl f_96)), (f_fromDitch, .inl (cy 1, 20, .inl f_19)), (f_ontoDitch, .inl (cy 1, 20, .inl f_21)), (h1, .inr (4, [.int g_wide, .int g_deep, .int g_count, .ref g_sorts])), (g_sorts, .inl (cy 1, 20, .inl g_sortsf))] := hD
                    refine lv_bipush (v := -2) hx hb dX2_learn_137 (by decide) ?_
                    refine lv_icmp_eq (tgt := 154) hx hb dX2_learn_139 (by decide) (fun h_106 => ?_) (fun h_106 => ?_)
                    · have h_106 : r_103.toInt = (-2) := c_eq h_106
                      obtain ⟨x_107, ex_107⟩ : ∃ y : Int32, y = i_15 + 1 := ⟨_, rfl⟩
                      have tx_107 : x_107.toInt = i_15.toInt + 1 := ti_add (A := i_15.toInt) (B := 1) ex_107 rfl rfl (by omega) (by omega)
                      refine lv_iinc (v := x_107) (lv' := [(5, .int x_107), (8, .int 1), (7, .int 0), (6, .int r_25), (4, .int i_2), (0, .ref h0), (1, .ref h1), (2, .int p2), (3, .int p3)]) hx hb dX2_learn_154 hl (k := 3) rfl (by rw [ex_107]; rfl) (by decide) rfl (fun ls hl => ?_)
                      refine lv_goto (tgt := 39) hx hb dX2_learn_157 (by decide) ?_
                      exact ihlp_14 x_107 f_96 f_19 f_21 _ _ _ (by omega) bf_96 b_20 b_22 (show 5 - x_107.toInt ≤ (nlp_14 : Int) by omega) hP hD hS (lv_sub hl [0, 4, 5, 6, 7, 8] rfl)
                    · have h_106 : r_103.toInt ≠ (-2) := c_ne h_106
                      refine lv_aload_n hx hb dX2_learn_142 rfl (lv_at hl 5 rfl) ?_
                      refine r_get X kcX2 (ci := 2) rfl hP 0 rfl 2 (by decide) fX2_18 rfl dX2_learn_143 ?_
                      refine lv_iload hx hb dX2_learn_146 (lv_at hl 4 rfl) ?_
                      refine lv_dup2_11 hx hb dX2_learn_148 rfl rfl ?_
                      refine va_iald (D := (dC, dI)) (cl := vwCl) hx hb hK hP 3 1 rfl rfl (i := i_2) (vin (by omega) (by omega)) dX2_learn_149 ?_
                      refine lv_topi (fun x_108 ex_108 => ?_)
                      have bx_108 : 0 ≤ x_108.toInt ∧ x_108.toInt ≤ 1048575 := rb_at b_22 ex_108 (by omega) (by omega)
                      refine lv_iload hx hb dX2_learn_150 (lv_at hl 1 rfl) ?_
                      refine lv_ior hx hb dX2_learn_152 ?_
                      refine lv_topi (fun x_109 ex_109 => ?_)
                      have tx_109 : 0 ≤ x_109.toInt ∧ x_109.toInt ≤ 1048575 := ti_or20 ex_109 (by omega) (by omega) (by decide) (by decide)
                      refine va_iast (D := (dC, dI)) (cl := vwCl) hx hb hK hP hD hS 3 1 rfl rfl (i := i_2) (vin (by omega) (by omega)) dX2_learn_153 (fun H locs hP hD hS => ?_)
                      generalize ef_110 : upd f_21 (Int32.toNatClampNeg i_2) x_109 = f_110 at hP hD
                      have bf_110 : rb f_110 20 0 1048575 := by rw [← ef_110]; exact rb_upd b_22 (by omega) (by omega)
                      have hP : va_P (dC, dI) vwCl [(h0, .inr (2, [.ref f_fromLawn, .ref f_fromDitch, .ref f_ontoDitch])), (f_fromLawn, .inl (cy 1, 20, .inl f_96)), (f_fromDitch, .inl (cy 1, 20, .inl f_19)), (f_ontoDitch, .inl (cy 1, 20, .inl f_110)), (h1, .inr (4, [.int g_wide, .int g_deep, .int g_count, .ref g_sorts])), (g_sorts, .inl (cy 1, 20, .inl g_sortsf))] H := hP
                      have hD : va_D A [(h0, .inr (2, [.ref f_fromLawn, .ref f_fromDitch, .ref f_ontoDitch])), (f_fromLawn, .inl (cy 1, 20, .inl f_96)), (f_fromDitch, .inl (cy 1, 20, .inl f_19)), (f_ontoDitch, .inl (cy 1, 20, .inl f_110)), (h1, .inr (4, [.int g_wide, .int g_deep, .int g_count, .ref g_sorts])), (g_sorts, .inl (cy 1, 20, .inl g_sortsf))] := hD
                      obtain ⟨x_111, ex_111⟩ : ∃ y : Int32, y = i_15 + 1 := ⟨_, rfl⟩
                      have tx_111 : x_111.toInt = i_15.toInt + 1 := ti_add (A := i_15.toInt) (B := 1) ex_111 rfl rfl (by omega) (by omega)
                      refine lv_iinc (v := x_111) (lv' := [(5, .int x_111), (8, .int 1), (7, .int 0), (6, .int r_25), (4, .int i_2), (0, .ref h0), (1, .ref h1), (2, .int p2), (3, .int p3)]) hx hb dX2_learn_154 hl (k := 3) rfl (by rw [ex_111]; rfl) (by decide) rfl (fun ls hl => ?_)
                      refine lv_goto (tgt := 39) hx hb dX2_learn_157 (by decide) ?_
                      exact ihlp_14 x_111 f_96 f_19 f_110 _ _ _ (by omega) bf_96 b_20 bf_110 (show 5 - x_111.toInt ≤ (nlp_14 : Int) by omega) hP hD hS (lv_sub hl [0, 4, 5, 6, 7, 8] rfl)
                  · have h_101 : p3.toInt = 0 := c_eq h_101
                    refine lv_iload_n hx hb dX2_learn_110 rfl (lv_at hl 6 rfl) ?_
                    refine lv_iload hx hb dX2_learn_111 (lv_at hl 2 rfl) ?_
                    refine fI (wr := [(h0, .inr (2, [.ref f_fromLawn, .ref f_fromDitch, .ref f_ontoDitch])), (f_fromLawn, .inl (cy 1, 20, .inl f_96)), (f_fromDitch, .inl (cy 1, 20, .inl f_19)), (f_ontoDitch, .inl (cy 1, 20, .inl f_21)), (h1, .inr (4, [.int g_wide, .int g_deep, .int g_count, .ref g_sorts])), (g_sorts, .inl (cy 1, 20, .inl g_sortsf))]) (rS_I (wc := []) (As := [.int p2, .int i_15]) (rest := []) X (sX4_isFallOntoDitch l dC dI cy p2 i_15) kX4_isFallOntoDitch w_846 mX2_34 hP hD [] (by decide) rfl hl rfl rfl (Nat.le_of_ble_eq_true rfl) dX2_learn_113 ⟨(Nat.le_of_ble_eq_true rfl), (Nat.le_of_ble_eq_true rfl)⟩ ⟨(Nat.le_of_ble_eq_true rfl), (Nat.le_of_ble_eq_true rfl)⟩) hP hD hS hA [] [0, 1, 2, 3, 4, 5] rfl rfl (by decide) (by decide) (fun r_112 u_114 H locs k_113 hP hD hS => ?_)
                    have k_113 : (0 ≤ r_112.toInt ∧ r_112.toInt ≤ 1) := k_113
                    have hP : va_P (dC, dI) vwCl [(h0, .inr (2, [.ref f_fromLawn, .ref f_fromDitch, .ref f_ontoDitch])), (f_fromLawn, .inl (cy 1, 20, .inl f_96)), (f_fromDitch, .inl (cy 1, 20, .inl f_19)), (f_ontoDitch, .inl (cy 1, 20, .inl f_21)), (h1, .inr (4, [.int g_wide, .int g_deep, .int g_count, .ref g_sorts])), (g_sorts, .inl (cy 1, 20, .inl g_sortsf))] H := hP
                    have hD : va_D A [(h0, .inr (2, [.ref f_fromLawn, .ref f_fromDitch, .ref f_ontoDitch])), (f_fromLawn, .inl (cy 1, 20, .inl f_96)), (f_fromDitch, .inl (cy 1, 20, .inl f_19)), (f_ontoDitch, .inl (cy 1, 20, .inl f_21)), (h1, .inr (4, [.int g_wide, .int g_deep, .int g_count, .ref g_sorts])), (g_sorts, .inl (cy 1, 20, .inl g_sortsf))] := hD
                    refine lv_if_ne (tgt := 123) hx hb dX2_learn_116 (by decide) (fun h_115 => ?_) (fun h_115 => ?_)
                    · have h_115 : r_112.toInt ≠ 0 := c_ne h_115
                      refine lv_iconst (v := 0) hx hb dX2_learn_123 (by decide) ?_
                      refine lv_istore (lv' := [(8, .int 0), (7, .int 0), (6, .int r_25), (5, .int i_15), (4, .int i_2), (0, .ref h0), (1, .ref h1), (2, .int p2), (3, .int p3)]) hx hb dX2_learn_124 hl (by decide) rfl (fun ls hl => ?_)
                      refine lv_iload hx hb dX2_learn_126 (lv_at hl 0 rfl) ?_
                      refine lv_if_eq (tgt := 154) hx hb dX2_learn_128 (by decide) (fun _ => ?_) (fun h_116 => absurd (by decide) h_116)
                      obtain ⟨x_117, ex_117⟩ : ∃ y : Int32, y = i_15 + 1 := ⟨_, rfl⟩
                      have tx_117 : x_117.toInt = i_15.toInt + 1 := ti_add (A := i_15.toInt) (B := 1) ex_117 rfl rfl (by omega) (by omega)
                      refine lv_iinc (v := x_117) (lv' := [(5, .int x_117), (8, .int 0), (7, .int 0), (6, .int r_25), (4, .int i_2), (0, .ref h0), (1, .ref h1), (2, .int p2), (3, .int p3)]) hx hb dX2_learn_154 hl (k := 3) rfl (by rw [ex_117]; rfl) (by decide) rfl (fun ls hl => ?_)
                      refine lv_goto (tgt := 39) hx hb dX2_learn_157 (by decide) ?_
                      exact ihlp_14 x_117 f_96 f_19 f_21 _ _ _ (by omega) bf_96 b_20 b_22 (show 5 - x_117.toInt ≤ (nlp_14 : Int) by omega) hP hD hS (lv_sub hl [0, 4, 5, 6, 7, 8] rfl)
                    · have h_115 : r_112.toInt = 0 := c_eq h_115
                      refine lv_iconst (v := 1) hx hb dX2_learn_119 (by decide) ?_
                      refine lv_goto (tgt := 124) hx hb dX2_learn_120 (by decide) ?_
                      refine lv_istore (lv' := [(8, .int 1), (7, .int 0), (6, .int r_25), (5, .int i_15), (4, .int i_2), (0, .ref h0), (1, .ref h1), (2, .int p2), (3, .int p3)]) hx hb dX2_learn_124 hl (by decide) rfl (fun ls hl => ?_)
                      refine lv_iload hx hb dX2_learn_126 (lv_at hl 0 rfl) ?_
                      refine lv_if_eq (tgt := 154) hx hb dX2_learn_128 (by decide) (fun h_118 => absurd h_118 (by decide)) (fun _ => ?_)
                      refine lv_iload_n hx hb dX2_learn_131 rfl (lv_at hl 7 rfl) ?_
                      refine lv_iload hx hb dX2_learn_132 (lv_at hl 3 rfl) ?_
                      refine fI (wr := [(h0, .inr (2, [.ref f_fromLawn, .ref f_fromDitch, .ref f_ontoDitch])), (f_fromLawn, .inl (cy 1, 20, .inl f_96)), (f_fromDitch, .inl (cy 1, 20, .inl f_19)), (f_ontoDitch, .inl (cy 1, 20, .inl f_21)), (h1, .inr (4, [.int g_wide, .int g_deep, .int g_count, .ref g_sorts])), (g_sorts, .inl (cy 1, 20, .inl g_sortsf))]) (rS_I (wc := []) (As := [.int p2, .int i_15]) (rest := []) X (sX4_timeOntoDitch l dC dI cy p2 i_15) kX4_timeOntoDitch w_832 mX2_38 hP hD [] (by decide) rfl hl rfl rfl (Nat.le_of_ble_eq_true rfl) dX2_learn_134 ⟨(Nat.le_of_ble_eq_true rfl), (Nat.le_of_ble_eq_true rfl)⟩ ⟨(Nat.le_of_ble_eq_true rfl), (Nat.le_of_ble_eq_true rfl)⟩) hP hD hS hA [] [0, 1, 2, 3, 4, 5] rfl rfl (by decide) (by decide) (fun r_119 u_121 H locs k_120 hP hD hS => ?_)
                      have k_120 : ((-2) ≤ r_119.toInt ∧ r_119.toInt ≤ 4) := k_120
                      have hP : va_P (dC, dI) vwCl [(h0, .inr (2, [.ref f_fromLawn, .ref f_fromDitch, .ref f_ontoDitch])), (f_fromLawn, .inl (cy 1, 20, .inl f_96)), (f_fromDitch, .inl (cy 1, 20, .inl f_19)), (f_ontoDitch, .inl (cy 1, 20, .inl f_21)), (h1, .inr (4, [.int g_wide, .int g_deep, .int g_count, .ref g_sorts])), (g_sorts, .inl (cy 1, 20, .inl g_sortsf))] H := hP
                      have hD : va_D A [(h0, .inr (2, [.ref f_fromLawn, .ref f_fromDitch, .ref f_ontoDitch])), (f_fromLawn, .inl (cy 1, 20, .inl f_96)), (f_fromDitch, .inl (cy 1, 20, .inl f_19)), (f_ontoDitch, .inl (cy 1, 20, .inl f_21)), (h1, .inr (4, [.int g_wide, .int g_deep, .int g_count, .ref g_sorts])), (g_sorts, .inl (cy 1, 20, .inl g_sortsf))] := hD
                      refine lv_bipush (v := -2) hx hb dX2_learn_137 (by decide) ?_
                      refine lv_icmp_eq (tgt := 154) hx hb dX2_learn_139 (by decide) (fun h_122 => ?_) (fun h_122 => ?_)
                      · have h_122 : r_119.toInt = (-2) := c_eq h_122
                        obtain ⟨x_123, ex_123⟩ : ∃ y : Int32, y = i_15 + 1 := ⟨_, rfl⟩
                        have tx_123 : x_123.toInt = i_15.toInt + 1 := ti_add (A := i_15.toInt) (B := 1) ex_123 rfl rfl (by omega) (by omega)
                        refine lv_iinc (v := x_123) (lv' := [(5, .int x_123), (8, .int 1), (7, .int 0), (6, .int r_25), (4, .int i_2), (0, .ref h0), (1, .ref h1), (2, .int p2), (3, .int p3)]) hx hb dX2_learn_154 hl (k := 3) rfl (by rw [ex_123]; rfl) (by decide) rfl (fun ls hl => ?_)
                        refine lv_goto (tgt := 39) hx hb dX2_learn_157 (by decide) ?_
                        exact ihlp_14 x_123 f_96 f_19 f_21 _ _ _ (by omega) bf_96 b_20 b_22 (show 5 - x_123.toInt ≤ (nlp_14 : Int) by omega) hP hD hS (lv_sub hl [0, 4, 5, 6, 7, 8] rfl)
                      · have h_122 : r_119.toInt ≠ (-2) := c_ne h_122
                        refine lv_aload_n hx hb dX2_learn_142 rfl (lv_at hl 5 rfl) ?_
                        refine r_get X kcX2 (ci := 2) rfl hP 0 rfl 2 (by decide) fX2_18 rfl dX2_learn_143 ?_
                        refine lv_iload hx hb dX2_learn_146 (lv_at hl 4 rfl) ?_
                        refine lv_dup2_11 hx hb dX2_learn_148 rfl rfl ?_
                        refine va_iald (D := (dC, dI)) (cl := vwCl) hx hb hK hP 3 1 rfl rfl (i := i_2) (vin (by omega) (by omega)) dX2_learn_149 ?_
                        refine lv_topi (fun x_124 ex_124 => ?_)
                        have bx_124 : 0 ≤ x_124.toInt ∧ x_124.toInt ≤ 1048575 := rb_at b_22 ex_124 (by omega) (by omega)
                        refine lv_iload hx hb dX2_learn_150 (lv_at hl 1 rfl) ?_
                        refine lv_ior hx hb dX2_learn_152 ?_
                        refine lv_topi (fun x_125 ex_125 => ?_)
                        have tx_125 : 0 ≤ x_125.toInt ∧ x_125.toInt ≤ 1048575 := ti_or20 ex_125 (by omega) (by omega) (by decide) (by decide)
                        refine va_iast (D := (dC, dI)) (cl := vwCl) hx hb hK hP hD hS 3 1 rfl rfl (i := i_2) (vin (by omega) (by omega)) dX2_learn_153 (fun H locs hP hD hS => ?_)
                        generalize ef_126 : upd f_21 (Int32.toNatClampNeg i_2) x_125 = f_126 at hP hD
                        have bf_126 : rb f_126 20 0 1048575 := by rw [← ef_126]; exact rb_upd b_22 (by omega) (by omega)
                        have hP : va_P (dC, dI) vwCl [(h0, .inr (2, [.ref f_fromLawn, .ref f_fromDitch, .ref f_ontoDitch])), (f_fromLawn, .inl (cy 1, 20, .inl f_96)), (f_fromDitch, .inl (cy 1, 20, .inl f_19)), (f_ontoDitch, .inl (cy 1, 20, .inl f_126)), (h1, .inr (4, [.int g_wide, .int g_deep, .int g_count, .ref g_sorts])), (g_sorts, .inl (cy 1, 20, .inl g_sortsf))] H := hP
                        have hD : va_D A [(h0, .inr (2, [.ref f_fromLawn, .ref f_fromDitch, .ref f_ontoDitch])), (f_fromLawn, .inl (cy 1, 20, .inl f_96)), (f_fromDitch, .inl (cy 1, 20, .inl f_19)), (f_ontoDitch, .inl (cy 1, 20, .inl f_126)), (h1, .inr (4, [.int g_wide, .int g_deep, .int g_count, .ref g_sorts])), (g_sorts, .inl (cy 1, 20, .inl g_sortsf))] := hD
                        obtain ⟨x_127, ex_127⟩ : ∃ y : Int32, y = i_15 + 1 := ⟨_, rfl⟩
                        have tx_127 : x_127.toInt = i_15.toInt + 1 := ti_add (A := i_15.toInt) (B := 1) ex_127 rfl rfl (by omega) (by omega)
                        refine lv_iinc (v := x_127) (lv' := [(5, .int x_127), (8, .int 1), (7, .int 0), (6, .int r_25), (4, .int i_2), (0, .ref h0), (1, .ref h1), (2, .int p2), (3, .int p3)]) hx hb dX2_learn_154 hl (k := 3) rfl (by rw [ex_127]; rfl) (by decide) rfl (fun ls hl => ?_)
                        refine lv_goto (tgt := 39) hx hb dX2_learn_157 (by decide) ?_
                        exact ihlp_14 x_127 f_96 f_19 f_126 _ _ _ (by omega) bf_96 b_20 bf_126 (show 5 - x_127.toInt ≤ (nlp_14 : Int) by omega) hP hD hS (lv_sub hl [0, 4, 5, 6, 7, 8] rfl)
                · have h_100 : r_97.toInt ≠ (-2) := c_ne h_100
                  refine lv_aload_n hx hb dX2_learn_94 rfl (lv_at hl 4 rfl) ?_
                  refine r_get X kcX2 (ci := 2) rfl hP 0 rfl 1 (by decide) fX2_15 rfl dX2_learn_95 ?_
                  refine lv_iload hx hb dX2_learn_98 (lv_at hl 3 rfl) ?_
                  refine lv_dup2_11 hx hb dX2_learn_100 rfl rfl ?_
                  refine va_iald (D := (dC, dI)) (cl := vwCl) hx hb hK hP 2 1 rfl rfl (i := i_2) (vin (by omega) (by omega)) dX2_learn_101 ?_
                  refine lv_topi (fun x_128 ex_128 => ?_)
                  have bx_128 : 0 ≤ x_128.toInt ∧ x_128.toInt ≤ 1048575 := rb_at b_20 ex_128 (by omega) (by omega)
                  refine lv_iload hx hb dX2_learn_102 (lv_at hl 0 rfl) ?_
                  refine lv_ior hx hb dX2_learn_104 ?_
                  refine lv_topi (fun x_129 ex_129 => ?_)
                  have tx_129 : 0 ≤ x_129.toInt ∧ x_129.toInt ≤ 1048575 := ti_or20 ex_129 (by omega) (by omega) (by decide) (by decide)
                  refine va_iast (D := (dC, dI)) (cl := vwCl) hx hb hK hP hD hS 2 1 rfl rfl (i := i_2) (vin (by omega) (by omega)) dX2_learn_105 (fun H locs hP hD hS => ?_)
                  generalize ef_130 : upd f_19 (Int32.toNatClampNeg i_2) x_129 = f_130 at hP hD
                  have bf_130 : rb f_130 20 0 1048575 := by rw [← ef_130]; exact rb_upd b_20 (by omega) (by omega)
                  have hP : va_P (dC, dI) vwCl [(h0, .inr (2, [.ref f_fromLawn, .ref f_fromDitch, .ref f_ontoDitch])), (f_fromLawn, .inl (cy 1, 20, .inl f_96)), (f_fromDitch, .inl (cy 1, 20, .inl f_130)), (f_ontoDitch, .inl (cy 1, 20, .inl f_21)), (h1, .inr (4, [.int g_wide, .int g_deep, .int g_count, .ref g_sorts])), (g_sorts, .inl (cy 1, 20, .inl g_sortsf))] H := hP
                  have hD : va_D A [(h0, .inr (2, [.ref f_fromLawn, .ref f_fromDitch, .ref f_ontoDitch])), (f_fromLawn, .inl (cy 1, 20, .inl f_96)), (f_fromDitch, .inl (cy 1, 20, .inl f_130)), (f_ontoDitch, .inl (cy 1, 20, .inl f_21)), (h1, .inr (4, [.int g_wide, .int g_deep, .int g_count, .ref g_sorts])), (g_sorts, .inl (cy 1, 20, .inl g_sortsf))] := hD
                  refine lv_iload_n hx hb dX2_learn_106 rfl (lv_at hl 7 rfl) ?_
                  refine lv_if_ne (tgt := 119) hx hb dX2_learn_107 (by decide) (fun h_131 => ?_) (fun h_131 => ?_)
                  · have h_131 : p3.toInt ≠ 0 := c_ne h_131
                    refine lv_iconst (v := 1) hx hb dX2_learn_119 (by decide) ?_
                    refine lv_goto (tgt := 124) hx hb dX2_learn_120 (by decide) ?_
                    refine lv_istore (lv' := [(8, .int 1), (7, .int 0), (6, .int r_25), (5, .int i_15), (4, .int i_2), (0, .ref h0), (1, .ref h1), (2, .int p2), (3, .int p3)]) hx hb dX2_learn_124 hl (by decide) rfl (fun ls hl => ?_)
                    refine lv_iload hx hb dX2_learn_126 (lv_at hl 0 rfl) ?_
                    refine lv_if_eq (tgt := 154) hx hb dX2_learn_128 (by decide) (fun h_132 => absurd h_132 (by decide)) (fun _ => ?_)
                    refine lv_iload_n hx hb dX2_learn_131 rfl (lv_at hl 7 rfl) ?_
                    refine lv_iload hx hb dX2_learn_132 (lv_at hl 3 rfl) ?_
                    refine fI (wr := [(h0, .inr (2, [.ref f_fromLawn, .ref f_fromDitch, .ref f_ontoDitch])), (f_fromLawn, .inl (cy 1, 20, .inl f_96)), (f_fromDitch, .inl (cy 1, 20, .inl f_130)), (f_ontoDitch, .inl (cy 1, 20, .inl f_21)), (h1, .inr (4, [.int g_wide, .int g_deep, .int g_count, .ref g_sorts])), (g_sorts, .inl (cy 1, 20, .inl g_sortsf))]) (rS_I (wc := []) (As := [.int p2, .int i_15]) (rest := []) X (sX4_timeOntoDitch l dC dI cy p2 i_15) kX4_timeOntoDitch w_832 mX2_38 hP hD [] (by decide) rfl hl rfl rfl (Nat.le_of_ble_eq_true rfl) dX2_learn_134 ⟨(Nat.le_of_ble_eq_true rfl), (Nat.le_of_ble_eq_true rfl)⟩ ⟨(Nat.le_of_ble_eq_true rfl), (Nat.le_of_ble_eq_true rfl)⟩) hP hD hS hA [] [0, 1, 2, 3, 4, 5] rfl rfl (by decide) (by decide) (fun r_133 u_135 H locs k_134 hP hD hS => ?_)
                    have k_134 : ((-2) ≤ r_133.toInt ∧ r_133.toInt ≤ 4) := k_134
                    have hP : va_P (dC, dI) vwCl [(h0, .inr (2, [.ref f_fromLawn, .ref f_fromDitch, .ref f_ontoDitch])), (f_fromLawn, .inl (cy 1, 20, .inl f_96)), (f_fromDitch, .inl (cy 1, 20, .inl f_130)), (f_ontoDitch, .inl (cy 1, 20, .inl f_21)), (h1, .inr (4, [.int g_wide, .int g_deep, .int g_count, .ref g_sorts])), (g_sorts, .inl (cy 1, 20, .inl g_sortsf))] H := hP
                    have hD : va_D A [(h0, .inr (2, [.ref f_fromLawn, .ref f_fromDitch, .ref f_ontoDitch])), (f_fromLawn, .inl (cy 1, 20, .inl f_96)), (f_fromDitch, .inl (cy 1, 20, .inl f_130)), (f_ontoDitch, .inl (cy 1, 20, .inl f_21)), (h1, .inr (4, [.int g_wide, .int g_deep, .int g_count, .ref g_sorts])), (g_sorts, .inl (cy 1, 20, .inl g_sortsf))] := hD
                    refine lv_bipush (v := -2) hx hb dX2_learn_137 (by decide) ?_
                    refine lv_icmp_eq (tgt := 154) hx hb dX2_learn_139 (by decide) (fun h_136 => ?_) (fun h_136 => ?_)
                    · have h_136 : r_133.toInt = (-2) := c_eq h_136
                      obtain ⟨x_137, ex_137⟩ : ∃ y : Int32, y = i_15 + 1 := ⟨_, rfl⟩
                      have tx_137 : x_137.toInt = i_15.toInt + 1 := ti_add (A := i_15.toInt) (B := 1) ex_137 rfl rfl (by omega) (by omega)
                      refine lv_iinc (v := x_137) (lv' := [(5, .int x_137), (8, .int 1), (7, .int 0), (6, .int r_25), (4, .int i_2), (0, .ref h0), (1, .ref h1), (2, .int p2), (3, .int p3)]) hx hb dX2_learn_154 hl (k := 3) rfl (by rw [ex_137]; rfl) (by decide) rfl (fun ls hl => ?_)
                      refine lv_goto (tgt := 39) hx hb dX2_learn_157 (by decide) ?_
                      exact ihlp_14 x_137 f_96 f_130 f_21 _ _ _ (by omega) bf_96 bf_130 b_22 (show 5 - x_137.toInt ≤ (nlp_14 : Int) by omega) hP hD hS (lv_sub hl [0, 4, 5, 6, 7, 8] rfl)
                    · have h_136 : r_133.toInt ≠ (-2) := c_ne h_136
                      refine lv_aload_n hx hb dX2_learn_142 rfl (lv_at hl 5 rfl) ?_
                      refine r_get X kcX2 (ci := 2) rfl hP 0 rfl 2 (by decide) fX2_18 rfl dX2_learn_143 ?_
                      refine lv_iload hx hb dX2_learn_146 (lv_at hl 4 rfl) ?_
                      refine lv_dup2_11 hx hb dX2_learn_148 rfl rfl ?_
                      refine va_iald (D := (dC, dI)) (cl := vwCl) hx hb hK hP 3 1 rfl rfl (i := i_2) (vin (by omega) (by omega)) dX2_learn_149 ?_
                      refine lv_topi (fun x_138 ex_138 => ?_)
                      have bx_138 : 0 ≤ x_138.toInt ∧ x_138.toInt ≤ 1048575 := rb_at b_22 ex_138 (by omega) (by omega)
                      refine lv_iload hx hb dX2_learn_150 (lv_at hl 1 rfl) ?_
                      refine lv_ior hx hb dX2_learn_152 ?_
                      refine lv_topi (fun x_139 ex_139 => ?_)
                      have tx_139 : 0 ≤ x_139.toInt ∧ x_139.toInt ≤ 1048575 := ti_or20 ex_139 (by omega) (by omega) (by decide) (by decide)
                      refine va_iast (D := (dC, dI)) (cl := vwCl) hx hb hK hP hD hS 3 1 rfl rfl (i := i_2) (vin (by omega) (by omega)) dX2_learn_153 (fun H locs hP hD hS => ?_)
                      generalize ef_140 : upd f_21 (Int32.toNatClampNeg i_2) x_139 = f_140 at hP hD
                      have bf_140 : rb f_140 20 0 1048575 := by rw [← ef_140]; exact rb_upd b_22 (by omega) (by omega)
                      have hP : va_P (dC, dI) vwCl [(h0, .inr (2, [.ref f_fromLawn, .ref f_fromDitch, .ref f_ontoDitch])), (f_fromLawn, .inl (cy 1, 20, .inl f_96)), (f_fromDitch, .inl (cy 1, 20, .inl f_130)), (f_ontoDitch, .inl (cy 1, 20, .inl f_140)), (h1, .inr (4, [.int g_wide, .int g_deep, .int g_count, .ref g_sorts])), (g_sorts, .inl (cy 1, 20, .inl g_sortsf))] H := hP
                      have hD : va_D A [(h0, .inr (2, [.ref f_fromLawn, .ref f_fromDitch, .ref f_ontoDitch])), (f_fromLawn, .inl (cy 1, 20, .inl f_96)), (f_fromDitch, .inl (cy 1, 20, .inl f_130)), (f_ontoDitch, .inl (cy 1, 20, .inl f_140)), (h1, .inr (4, [.int g_wide, .int g_deep, .int g_count, .ref g_sorts])), (g_sorts, .inl (cy 1, 20, .inl g_sortsf))] := hD
                      obtain ⟨x_141, ex_141⟩ : ∃ y : Int32, y = i_15 + 1 := ⟨_, rfl⟩
                      have tx_141 : x_141.toInt = i_15.toInt + 1 := ti_add (A := i_15.toInt) (B := 1) ex_141 rfl rfl (by omega) (by omega)
                      refine lv_iinc (v := x_141) (lv' := [(5, .int x_141), (8, .int 1), (7, .int 0), (6, .int r_25), (4, .int i_2), (0, .ref h0), (1, .ref h1), (2, .int p2), (3, .int p3)]) hx hb dX2_learn_154 hl (k := 3) rfl (by rw [ex_141]; rfl) (by decide) rfl (fun ls hl => ?_)
                      refine lv_goto (tgt := 39) hx hb dX2_learn_157 (by decide) ?_
                      exact ihlp_14 x_141 f_96 f_130 f_140 _ _ _ (by omega) bf_96 bf_130 bf_140 (show 5 - x_141.toInt ≤ (nlp_14 : Int) by omega) hP hD hS (lv_sub hl [0, 4, 5, 6, 7, 8] rfl)
                  · have h_131 : p3.toInt = 0 := c_eq h_131
                    refine lv_iload_n hx hb dX2_learn_110 rfl (lv_at hl 6 rfl) ?_
                    refine lv_iload hx hb dX2_learn_111 (lv_at hl 2 rfl) ?_
                    refine fI (wr := [(h0, .inr (2, [.ref f_fromLawn, .ref f_fromDitch, .ref f_ontoDitch])), (f_fromLawn, .inl (cy 1, 20, .inl f_96)), (f_fromDitch, .inl (cy 1, 20, .inl f_130)), (f_ontoDitch, .inl (cy 1, 20, .inl f_21)), (h1, .inr (4, [.int g_wide, .int g_deep, .int g_count, .ref g_sorts])), (g_sorts, .inl (cy 1, 20, .inl g_sortsf))]) (rS_I (wc := []) (As := [.int p2, .int i_15]) (rest := []) X (sX4_isFallOntoDitch l dC dI cy p2 i_15) kX4_isFallOntoDitch w_846 mX2_34 hP hD [] (by decide) rfl hl rfl rfl (Nat.le_of_ble_eq_true rfl) dX2_learn_113 ⟨(Nat.le_of_ble_eq_true rfl), (Nat.le_of_ble_eq_true rfl)⟩ ⟨(Nat.le_of_ble_eq_true rfl), (Nat.le_of_ble_eq_true rfl)⟩) hP hD hS hA [] [0, 1, 2, 3, 4, 5] rfl rfl (by decide) (by decide) (fun r_142 u_144 H locs k_143 hP hD hS => ?_)
                    have k_143 : (0 ≤ r_142.toInt ∧ r_142.toInt ≤ 1) := k_143
                    have hP : va_P (dC, dI) vwCl [(h0, .inr (2, [.ref f_fromLawn, .ref f_fromDitch, .ref f_ontoDitch])), (f_fromLawn, .inl (cy 1, 20, .inl f_96)), (f_fromDitch, .inl (cy 1, 20, .inl f_130)), (f_ontoDitch, .inl (cy 1, 20, .inl f_21)), (h1, .inr (4, [.int g_wide, .int g_deep, .int g_count, .ref g_sorts])), (g_sorts, .inl (cy 1, 20, .inl g_sortsf))] H := hP
                    have hD : va_D A [(h0, .inr (2, [.ref f_fromLawn, .ref f_fromDitch, .ref f_ontoDitch])), (f_fromLawn, .inl (cy 1, 20, .inl f_96)), (f_fromDitch, .inl (cy 1, 20, .inl f_130)), (f_ontoDitch, .inl (cy 1, 20, .inl f_21)), (h1, .inr (4, [.int g_wide, .int g_deep, .int g_count, .ref g_sorts])), (g_sorts, .inl (cy 1, 20, .inl g_sortsf))] := hD
                    refine lv_if_ne (tgt := 123) hx hb dX2_learn_116 (by decide) (fun h_145 => ?_) (fun h_145 => ?_)
                    · have h_145 : r_142.toInt ≠ 0 := c_ne h_145
                      refine lv_iconst (v := 0) hx hb dX2_learn_123 (by decide) ?_
                      refine lv_istore (lv' := [(8, .int 0), (7, .int 0), (6, .int r_25), (5, .int i_15), (4, .int i_2), (0, .ref h0), (1, .ref h1), (2, .int p2), (3, .int p3)]) hx hb dX2_learn_124 hl (by decide) rfl (fun ls hl => ?_)
                      refine lv_iload hx hb dX2_learn_126 (lv_at hl 0 rfl) ?_
                      refine lv_if_eq (tgt := 154) hx hb dX2_learn_128 (by decide) (fun _ => ?_) (fun h_146 => absurd (by decide) h_146)
                      obtain ⟨x_147, ex_147⟩ : ∃ y : Int32, y = i_15 + 1 := ⟨_, rfl⟩
                      have tx_147 : x_147.toInt = i_15.toInt + 1 := ti_add (A := i_15.toInt) (B := 1) ex_147 rfl rfl (by omega) (by omega)
                      refine lv_iinc (v := x_147) (lv' := [(5, .int x_147), (8, .int 0), (7, .int 0), (6, .int r_25), (4, .int i_2), (0, .ref h0), (1, .ref h1), (2, .int p2), (3, .int p3)]) hx hb dX2_learn_154 hl (k := 3) rfl (by rw [ex_147]; rfl) (by decide) rfl (fun ls hl => ?_)
                      refine lv_goto (tgt := 39) hx hb dX2_learn_157 (by decide) ?_
                      exact ihlp_14 x_147 f_96 f_130 f_21 _ _ _ (by omega) bf_96 bf_130 b_22 (show 5 - x_147.toInt ≤ (nlp_14 : Int) by omega) hP hD hS (lv_sub hl [0, 4, 5, 6, 7, 8] rfl)
                    · have h_145 : r_142.toInt = 0 := c_eq h_145
                      refine lv_iconst (v := 1) hx hb dX2_learn_119 (by decide) ?_
                      refine lv_goto (tgt := 124) hx hb dX2_learn_120 (by decide) ?_
                      refine lv_istore (lv' := [(8, .int 1), (7, .int 0), (6, .int r_25), (5, .int i_15), (4, .int i_2), (0, .ref h0), (1, .ref h1), (2, .int p2), (3, .int p3)]) hx hb dX2_learn_124 hl (by decide) rfl (fun ls hl => ?_)
                      refine lv_iload hx hb dX2_learn_126 (lv_at hl 0 rfl) ?_
                      refine lv_if_eq (tgt := 154) hx hb dX2_learn_128 (by decide) (fun h_148 => absurd h_148 (by decide)) (fun _ => ?_)
                      refine lv_iload_n hx hb dX2_learn_131 rfl (lv_at hl 7 rfl) ?_
                      refine lv_iload hx hb dX2_learn_132 (lv_at hl 3 rfl) ?_
                      refine fI (wr := [(h0, .inr (2, [.ref f_fromLawn, .ref f_fromDitch, .ref f_ontoDitch])), (f_fromLawn, .inl (cy 1, 20, .inl f_96)), (f_fromDitch, .inl (cy 1, 20, .inl f_130)), (f_ontoDitch, .inl (cy 1, 20, .inl f_21)), (h1, .inr (4, [.int g_wide, .int g_deep, .int g_count, .ref g_sorts])), (g_sorts, .inl (cy 1, 20, .inl g_sortsf))]) (rS_I (wc := []) (As := [.int p2, .int i_15]) (rest := []) X (sX4_timeOntoDitch l dC dI cy p2 i_15) kX4_timeOntoDitch w_832 mX2_38 hP hD [] (by decide) rfl hl rfl rfl (Nat.le_of_ble_eq_true rfl) dX2_learn_134 ⟨(Nat.le_of_ble_eq_true rfl), (Nat.le_of_ble_eq_true rfl)⟩ ⟨(Nat.le_of_ble_eq_true rfl), (Nat.le_of_ble_eq_true rfl)⟩) hP hD hS hA [] [0, 1, 2, 3, 4, 5] rfl rfl (by decide) (by decide) (fun r_149 u_151 H locs k_150 hP hD hS => ?_)
                      have k_150 : ((-2) ≤ r_149.toInt ∧ r_149.toInt ≤ 4) := k_150
                      have hP : va_P (dC, dI) vwCl [(h0, .inr (2, [.ref f_fromLawn, .ref f_fromDitch, .ref f_ontoDitch])), (f_fromLawn, .inl (cy 1, 20, .inl f_96)), (f_fromDitch, .inl (cy 1, 20, .inl f_130)), (f_ontoDitch, .inl (cy 1, 20, .inl f_21)), (h1, .inr (4, [.int g_wide, .int g_deep, .int g_count, .ref g_sorts])), (g_sorts, .inl (cy 1, 20, .inl g_sortsf))] H := hP
                      have hD : va_D A [(h0, .inr (2, [.ref f_fromLawn, .ref f_fromDitch, .ref f_ontoDitch])), (f_fromLawn, .inl (cy 1, 20, .inl f_96)), (f_fromDitch, .inl (cy 1, 20, .inl f_130)), (f_ontoDitch, .inl (cy 1, 20, .inl f_21)), (h1, .inr (4, [.int g_wide, .int g_deep, .int g_count, .ref g_sorts])), (g_sorts, .inl (cy 1, 20, .inl g_sortsf))] := hD
                      refine lv_bipush (v := -2) hx hb dX2_learn_137 (by decide) ?_
                      refine lv_icmp_eq (tgt := 154) hx hb dX2_learn_139 (by decide) (fun h_152 => ?_) (fun h_152 => ?_)
                      · have h_152 : r_149.toInt = (-2) := c_eq h_152
                        obtain ⟨x_153, ex_153⟩ : ∃ y : Int32, y = i_15 + 1 := ⟨_, rfl⟩
                        have tx_153 : x_153.toInt = i_15.toInt + 1 := ti_add (A := i_15.toInt) (B := 1) ex_153 rfl rfl (by omega) (by omega)
                        refine lv_iinc (v := x_153) (lv' := [(5, .int x_153), (8, .int 1), (7, .int 0), (6, .int r_25), (4, .int i_2), (0, .ref h0), (1, .ref h1), (2, .int p2), (3, .int p3)]) hx hb dX2_learn_154 hl (k := 3) rfl (by rw [ex_153]; rfl) (by decide) rfl (fun ls hl => ?_)
                        refine lv_goto (tgt := 39) hx hb dX2_learn_157 (by decide) ?_
                        exact ihlp_14 x_153 f_96 f_130 f_21 _ _ _ (by omega) bf_96 bf_130 b_22 (show 5 - x_153.toInt ≤ (nlp_14 : Int) by omega) hP hD hS (lv_sub hl [0, 4, 5, 6, 7, 8] rfl)
                      · have h_152 : r_149.toInt ≠ (-2) := c_ne h_152
                        refine lv_aload_n hx hb dX2_learn_142 rfl (lv_at hl 5 rfl) ?_
                        refine r_get X kcX2 (ci := 2) rfl hP 0 rfl 2 (by decide) fX2_18 rfl dX2_learn_143 ?_
                        refine lv_iload hx hb dX2_learn_146 (lv_at hl 4 rfl) ?_
                        refine lv_dup2_11 hx hb dX2_learn_148 rfl rfl ?_
                        refine va_iald (D := (dC, dI)) (cl := vwCl) hx hb hK hP 3 1 rfl rfl (i := i_2) (vin (by omega) (by omega)) dX2_learn_149 ?_
                        refine lv_topi (fun x_154 ex_154 => ?_)
                        have bx_154 : 0 ≤ x_154.toInt ∧ x_154.toInt ≤ 1048575 := rb_at b_22 ex_154 (by omega) (by omega)
                        refine lv_iload hx hb dX2_learn_150 (lv_at hl 1 rfl) ?_
                        refine lv_ior hx hb dX2_learn_152 ?_
                        refine lv_topi (fun x_155 ex_155 => ?_)
                        have tx_155 : 0 ≤ x_155.toInt ∧ x_155.toInt ≤ 1048575 := ti_or20 ex_155 (by omega) (by omega) (by decide) (by decide)
                        refine va_iast (D := (dC, dI)) (cl := vwCl) hx hb hK hP hD hS 3 1 rfl rfl (i := i_2) (vin (by omega) (by omega)) dX2_learn_153 (fun H locs hP hD hS => ?_)
                        generalize ef_156 : upd f_21 (Int32.toNatClampNeg i_2) x_155 = f_156 at hP hD
                        have bf_156 : rb f_156 20 0 1048575 := by rw [← ef_156]; exact rb_upd b_22 (by omega) (by omega)
                        have hP : va_P (dC, dI) vwCl [(h0, .inr (2, [.ref f_fromLawn, .ref f_fromDitch, .ref f_ontoDitch])), (f_fromLawn, .inl (cy 1, 20, .inl f_96)), (f_fromDitch, .inl (cy 1, 20, .inl f_130)), (f_ontoDitch, .inl (cy 1, 20, .inl f_156)), (h1, .inr (4, [.int g_wide, .int g_deep, .int g_count, .ref g_sorts])), (g_sorts, .inl (cy 1, 20, .inl g_sortsf))] H := hP
                        have hD : va_D A [(h0, .inr (2, [.ref f_fromLawn, .ref f_fromDitch, .ref f_ontoDitch])), (f_fromLawn, .inl (cy 1, 20, .inl f_96)), (f_fromDitch, .inl (cy 1, 20, .inl f_130)), (f_ontoDitch, .inl (cy 1, 20, .inl f_156)), (h1, .inr (4, [.int g_wide, .int g_deep, .int g_count, .ref g_sorts])), (g_sorts, .inl (cy 1, 20, .inl g_sortsf))] := hD
                        obtain ⟨x_157, ex_157⟩ : ∃ y : Int32, y = i_15 + 1 := ⟨_, rfl⟩
                        have tx_157 : x_157.toInt = i_15.toInt + 1 := ti_add (A := i_15.toInt) (B := 1) ex_157 rfl rfl (by omega) (by omega)
                        refine lv_iinc (v := x_157) (lv' := [(5, .int x_157), (8, .int 1), (7, .int 0), (6, .int r_25), (4, .int i_2), (0, .ref h0), (1, .ref h1), (2, .int p2), (3, .int p3)]) hx hb dX2_learn_154 hl (k := 3) rfl (by rw [ex_157]; rfl) (by decide) rfl (fun ls hl => ?_)
                        refine lv_goto (tgt := 39) hx hb dX2_learn_157 (by decide) ?_
                        exact ihlp_14 x_157 f_96 f_130 f_156 _ _ _ (by omega) bf_96 bf_130 bf_156 (show 5 - x_157.toInt ≤ (nlp_14 : Int) by omega) hP hD hS (lv_sub hl [0, 4, 5, 6, 7, 8] rfl)
        exact lp_14 5 0 f_11 f_12 f_13 _ _ _ (by decide) bf_11 bf_12 bf_13 (show 5 - 0 ≤ ((5 : Nat) : Int) by omega) hP hD hS hl
  exact lp_1 21 0 f_fromLawnf f_fromDitchf f_ontoDitchf _ _ _ (by decide) hf_fromLawnf hf_fromDitchf hf_ontoDitchf (show 21 - 0 ≤ ((21 : Nat) : Int) by omega) hP hD hS hl
set_option maxHeartbeats 4000000 in
set_option maxRecDepth 100000 in
theorem sX2_spread (l : Launch) (dC : Nat → ClassId) (dI : Nat → Nat → Nat) (cy : Nat → ClassId) (h0 : Nat) (f_fromLawn : Nat) (f_fromDitch : Nat) (f_ontoDitch : Nat) (f_fromLawnf : Nat → Int32) (f_fromDitchf : Nat → Int32) (f_ontoDitchf : Nat → Int32) (p1 : Int32) (p2 : Int32) (p3 : Int32) (hf_fromLawnf : rb f_fromLawnf 20 0 1048575) (hf_fromDitchf : rb f_fromDitchf 20 0 1048575) (hf_ontoDitchf : rb f_ontoDitchf 20 0 1048575) (hp1 : 0 ≤ p1.toInt ∧ p1.toInt ≤ 19) : ctI l dC dI cy yX2_spread cX2_spread 11 .int ({ frames := 1, cells := 0, slots := 0, locals := 20 } : Room) [.ref h0, .int p1, .int p2, .int p3] [(h0, .inr (2, [.ref f_fromLawn, .ref f_fromDitch, .ref f_ontoDitch])), (f_fromLawn, .inl (cy 1, 20, .inl f_fromLawnf)), (f_fromDitch, .inl (cy 1, 20, .inl f_fromDitchf)), (f_ontoDitch, .inl (cy 1, 20, .inl f_ontoDitchf))] (S := Unit) (fun r _ => True) (fun _ => [(h0, .inr (2, [.ref f_fromLawn, .ref f_fromDitch, .ref f_ontoDitch])), (f_fromLawn, .inl (cy 1, 20, .inl f_fromLawnf)), (f_fromDitch, .inl (cy 1, 20, .inl f_fromDitchf)), (f_ontoDitch, .inl (cy 1, 20, .inl f_ontoDitchf))]) := by
  refine ctI.of (by decide +kernel) (Nat.le_of_ble_eq_true rfl) ?_
  intro p e s m args below meth c A ls Q hQ X hr hlocks hin hA hP hD hS hl
  have hx := X.1
  have hb := X.2.1
  have hK := X.2.2.2.2.2.1
  have hl : lv_has ls 11 [(0, .ref h0), (1, .int p1), (2, .int p2), (3, .int p3)] := hl
  refine lv_iconst (v := 1) hx hb dX2_spread_0 (by decide) ?_
  refine lv_iload_n hx hb dX2_spread_1 rfl (lv_at hl 1 rfl) ?_
  refine lv_ishl hx hb dX2_spread_2 ?_
  refine lv_topi (fun x_1 ex_1 => ?_)
  have tx_1 : 0 ≤ x_1.toInt ∧ x_1.toInt ≤ 1048575 := ti_shl1 ex_1 (by omega) (by omega)
  refine lv_istore (lv' := [(4, .int x_1), (0, .ref h0), (1, .int p1), (2, .int p2), (3, .int p3)]) hx hb dX2_spread_3 hl (by decide) rfl (fun ls hl => ?_)
  refine lv_iload hx hb dX2_spread_5 (lv_at hl 0 rfl) ?_
  refine lv_istore (lv' := [(5, .int x_1), (4, .int x_1), (0, .ref h0), (1, .int p1), (2, .int p2), (3, .int p3)]) hx hb dX2_spread_7 hl (by decide) rfl (fun ls hl => ?_)
  refine lv_iconst (v := 0) hx hb dX2_spread_9 (by decide) ?_
  refine lv_istore (lv' := [(6, .int 0), (5, .int x_1), (4, .int x_1), (0, .ref h0), (1, .int p1), (2, .int p2), (3, .int p3)]) hx hb dX2_spread_10 hl (by decide) rfl (fun ls hl => ?_)
  have lp_2 : ∀ (nlp_2 : Nat) (i_3 : Int32) (i_5 : Int32) (i_7 : Int32) (H : Heap) (locs : List Loc) (ls : Array Slot), (0 ≤ i_3.toInt ∧ i_3.toInt ≤ 20) → (0 ≤ i_5.toInt ∧ i_5.toInt ≤ 1048575) → (0 ≤ i_7.toInt ∧ i_7.toInt ≤ 1048575) → (21 - i_3.toInt ≤ (nlp_2 : Int)) → va_P (dC, dI) vwCl [(h0, .inr (2, [.ref f_fromLawn, .ref f_fromDitch, .ref f_ontoDitch])), (f_fromLawn, .inl (cy 1, 20, .inl f_fromLawnf)), (f_fromDitch, .inl (cy 1, 20, .inl f_fromDitchf)), (f_ontoDitch, .inl (cy 1, 20, .inl f_ontoDitchf))] H → va_D A [(h0, .inr (2, [.ref f_fromLawn, .ref f_fromDitch, .ref f_ontoDitch])), (f_fromLawn, .inl (cy 1, 20, .inl f_fromLawnf)), (f_fromDitch, .inl (cy 1, 20, .inl f_fromDitchf)), (f_ontoDitch, .inl (cy 1, 20, .inl f_ontoDitchf))] → va_S A s.heap H locs → lv_has ls 11 [(6, .int i_3), (5, .int i_5), (4, .int i_7), (0, .ref h0), (1, .int p1), (2, .int p2), (3, .int p3)] → W p l e ({ frames := 1, cells := 0, slots := 0, locals := 20 } : Room) s m args below meth c H locs 0 0 Q (F0 m 12 ls []) := by
    intro nlp_2
    induction nlp_2 with
    | zero =>
      intro i_3 i_5 i_7 H locs ls b_4 b_6 b_8 hmlp_2 hP hD hS hl
      exfalso
      omega
    | succ nlp_2 ihlp_2 =>
      intro i_3 i_5 i_7 H locs ls b_4 b_6 b_8 hmlp_2 hP hD hS hl
      refine lv_iload hx hb dX2_spread_12 (lv_at hl 0 rfl) ?_
      refine lv_bipush (v := 20) hx hb dX2_spread_14 (by decide) ?_
      refine lv_icmp_ge (tgt := 119) hx hb dX2_spread_16 (by decide) (fun h_9 => ?_) (fun h_9 => ?_)
      · have h_9 : 20 ≤ i_3.toInt := c_le h_9
        refine lv_iload hx hb dX2_spread_119 (lv_at hl 2 rfl) ?_
        exact eI hQ X hr hlocks hP hD hS () [0, 1, 2, 3] (by decide) rfl rfl trivial (Nat.le_of_ble_eq_true rfl) (Nat.le_of_ble_eq_true rfl) dX2_spread_121
      · have h_9 : i_3.toInt < 20 := c_nle h_9
        refine lv_iload hx hb dX2_spread_19 (lv_at hl 1 rfl) ?_
        refine lv_if_eq (tgt := 119) hx hb dX2_spread_21 (by decide) (fun h_10 => ?_) (fun h_10 => ?_)
        · have h_10 : i_5.toInt = 0 := c_eq h_10
          refine lv_iload hx hb dX2_spread_119 (lv_at hl 2 rfl) ?_
          exact eI hQ X hr hlocks hP hD hS () [0, 1, 2, 3] (by decide) rfl rfl trivial (Nat.le_of_ble_eq_true rfl) (Nat.le_of_ble_eq_true rfl) dX2_spread_121
        · have h_10 : i_5.toInt ≠ 0 := c_ne h_10
          refine lv_iload hx hb dX2_spread_24 (lv_at hl 1 rfl) ?_
          refine lv_iload hx hb dX2_spread_26 (lv_at hl 1 rfl) ?_
          refine lv_ineg hx hb dX2_spread_28 ?_
          refine lv_topi (fun x_11 ex_11 => ?_)
          refine lv_iand hx hb dX2_spread_29 ?_
          refine lv_topi (fun x_12 ex_12 => ?_)
          have tx_12 : 0 ≤ x_12.toInt ∧ x_12.toInt ≤ i_5.toInt := ti_andl ex_12 (by omega)
          refine lv_istore (lv' := [(7, .int x_12), (6, .int i_3), (5, .int i_5), (4, .int i_7), (0, .ref h0), (1, .int p1), (2, .int p2), (3, .int p3)]) hx hb dX2_spread_30 hl (by decide) rfl (fun ls hl => ?_)
          refine lv_iload hx hb dX2_spread_32 (lv_at hl 0 rfl) ?_
          refine lv_iconst (v := 1) hx hb dX2_spread_34 (by decide) ?_
          refine lv_isub hx hb dX2_spread_35 ?_
          refine lv_topi (fun x_13 ex_13 => ?_)
          have tx_13 : x_13.toInt = x_12.toInt - 1 := ti_sub (A := x_12.toInt) (B := 1) ex_13 rfl rfl (by omega) (by omega)
          refine fI (wr := [(h0, .inr (2, [.ref f_fromLawn, .ref f_fromDitch, .ref f_ontoDitch])), (f_fromLawn, .inl (cy 1, 20, .inl f_fromLawnf)), (f_fromDitch, .inl (cy 1, 20, .inl f_fromDitchf)), (f_ontoDitch, .inl (cy 1, 20, .inl f_ontoDitchf))]) (rS_I (wc := []) (As := [.int x_13]) (rest := []) X (sJ6_bitCount l dC dI cy x_13) kJ6_bitCount_0f7a4 w_943 mX2_41 hP hD [] (by decide) rfl hl rfl rfl (Nat.le_of_ble_eq_true rfl) dX2_spread_36 ⟨(Nat.le_of_ble_eq_true rfl), (Nat.le_of_ble_eq_true rfl)⟩ ⟨(Nat.le_of_ble_eq_true rfl), (Nat.le_of_ble_eq_true rfl)⟩) hP hD hS hA [] [0, 1, 2, 3] rfl rfl (by decide) (by decide) (fun r_14 u_16 H locs k_15 hP hD hS => ?_)
          have k_15 : (r_14 = bcF x_13) := k_15
          have hP : va_P (dC, dI) vwCl [(h0, .inr (2, [.ref f_fromLawn, .ref f_fromDitch, .ref f_ontoDitch])), (f_fromLawn, .inl (cy 1, 20, .inl f_fromLawnf)), (f_fromDitch, .inl (cy 1, 20, .inl f_fromDitchf)), (f_ontoDitch, .inl (cy 1, 20, .inl f_ontoDitchf))] H := hP
          have hD : va_D A [(h0, .inr (2, [.ref f_fromLawn, .ref f_fromDitch, .ref f_ontoDitch])), (f_fromLawn, .inl (cy 1, 20, .inl f_fromLawnf)), (f_fromDitch, .inl (cy 1, 20, .inl f_fromDitchf)), (f_ontoDitch, .inl (cy 1, 20, .inl f_ontoDitchf))] := hD
          have tr_14 : 0 ≤ r_14.toInt ∧ r_14.toInt ≤ 19 := bc_low ex_11 ex_12 ex_13 k_15 (by omega) (by omega)
          refine lv_istore (lv' := [(8, .int r_14), (7, .int x_12), (6, .int i_3), (5, .int i_5), (4, .int i_7), (0, .ref h0), (1, .int p1), (2, .int p2), (3, .int p3)]) hx hb dX2_spread_39 hl (by decide) rfl (fun ls hl => ?_)
          refine lv_iload_n hx hb dX2_spread_41 rfl (lv_at hl 7 rfl) ?_
          refine lv_iload hx hb dX2_spread_42 (lv_at hl 1 rfl) ?_
          refine lv_iand hx hb dX2_spread_44 ?_
          refine lv_topi (fun x_17 ex_17 => ?_)
          have tx_17 : 0 ≤ x_17.toInt ∧ x_17.toInt ≤ x_12.toInt := ti_andr ex_17 (by omega)
          refine lv_if_ne (tgt := 58) hx hb dX2_spread_45 (by decide) (fun h_18 => ?_) (fun h_18 => ?_)
          · have h_18 : x_17.toInt ≠ 0 := c_ne h_18
            refine lv_aload_n hx hb dX2_spread_58 rfl (lv_at hl 5 rfl) ?_
            refine r_get X kcX2 (ci := 2) rfl hP 0 rfl 1 (by decide) fX2_15 rfl dX2_spread_59 ?_
            refine lv_iload hx hb dX2_spread_62 (lv_at hl 0 rfl) ?_
            refine va_iald (D := (dC, dI)) (cl := vwCl) hx hb hK hP 2 1 rfl rfl (i := r_14) (vin (by omega) (by omega)) dX2_spread_64 ?_
            refine lv_topi (fun x_19 ex_19 => ?_)
            have bx_19 : 0 ≤ x_19.toInt ∧ x_19.toInt ≤ 1048575 := rb_at hf_fromDitchf ex_19 (by omega) (by omega)
            refine lv_iload_n hx hb dX2_spread_65 rfl (lv_at hl 7 rfl) ?_
            refine lv_iconst (v := -1) hx hb dX2_spread_66 (by decide) ?_
            refine lv_ixor hx hb dX2_spread_67 ?_
            refine lv_topi (fun x_20 ex_20 => ?_)
            refine lv_iand hx hb dX2_spread_68 ?_
            refine lv_topi (fun x_21 ex_21 => ?_)
            have tx_21 : 0 ≤ x_21.toInt ∧ x_21.toInt ≤ x_19.toInt := ti_andl ex_21 (by omega)
            refine lv_aload_n hx hb dX2_spread_69 rfl (lv_at hl 5 rfl) ?_
            refine r_get X kcX2 (ci := 2) rfl hP 0 rfl 2 (by decide) fX2_18 rfl dX2_spread_70 ?_
            refine lv_iload hx hb dX2_spread_73 (lv_at hl 0 rfl) ?_
            refine va_iald (D := (dC, dI)) (cl := vwCl) hx hb hK hP 3 1 rfl rfl (i := r_14) (vin (by omega) (by omega)) dX2_spread_75 ?_
            refine lv_topi (fun x_22 ex_22 => ?_)
            have bx_22 : 0 ≤ x_22.toInt ∧ x_22.toInt ≤ 1048575 := rb_at hf_ontoDitchf ex_22 (by omega) (by omega)
            refine lv_iload_n hx hb dX2_spread_76 rfl (lv_at hl 7 rfl) ?_
            refine lv_iand hx hb dX2_spread_77 ?_
            refine lv_topi (fun x_23 ex_23 => ?_)
            have tx_23 : 0 ≤ x_23.toInt ∧ x_23.toInt ≤ x_22.toInt := ti_andl ex_23 (by omega)
            refine lv_ior hx hb dX2_spread_78 ?_
            refine lv_topi (fun x_24 ex_24 => ?_)
            have tx_24 : 0 ≤ x_24.toInt ∧ x_24.toInt ≤ 1048575 := ti_or20 ex_24 (by omega) (by omega) (by omega) (by omega)
            refine lv_istore (lv' := [(9, .int x_24), (8, .int r_14), (7, .int x_12), (6, .int i_3), (5, .int i_5), (4, .int i_7), (0, .ref h0), (1, .int p1), (2, .int p2), (3, .int p3)]) hx hb dX2_spread_79 hl (by decide) rfl (fun ls hl => ?_)
            refine lv_iload hx hb dX2_spread_81 (lv_at hl 0 rfl) ?_
            refine lv_iload hx hb dX2_spread_83 (lv_at hl 5 rfl) ?_
            refine lv_iconst (v := -1) hx hb dX2_spread_85 (by decide) ?_
            refine lv_ixor hx hb dX2_spread_86 ?_
            refine lv_topi (fun x_25 ex_25 => ?_)
            refine lv_iand hx hb dX2_spread_87 ?_
            refine lv_topi (fun x_26 ex_26 => ?_)
            have tx_26 : 0 ≤ x_26.toInt ∧ x_26.toInt ≤ x_24.toInt := ti_andl ex_26 (by omega)
            refine lv_iload_n hx hb dX2_spread_88 rfl (lv_at hl 9 rfl) ?_
            refine lv_iconst (v := -1) hx hb dX2_spread_89 (by decide) ?_
            refine lv_ixor hx hb dX2_spread_90 ?_
            refine lv_topi (fun x_27 ex_27 => ?_)
            refine lv_iand hx hb dX2_spread_91 ?_
            refine lv_topi (fun x_28 ex_28 => ?_)
            have tx_28 : 0 ≤ x_28.toInt ∧ x_28.toInt ≤ x_26.toInt := ti_andl ex_28 (by omega)
            refine lv_istore (lv' := [(10, .int x_28), (9, .int x_24), (8, .int r_14), (7, .int x_12), (6, .int i_3), (5, .int i_5), (4, .int i_7), (0, .ref h0), (1, .int p1), (2, .int p2), (3, .int p3)]) hx hb dX2_spread_92 hl (by decide) rfl (fun ls hl => ?_)
            refine lv_iload hx hb dX2_spread_94 (lv_at hl 6 rfl) ?_
            refine lv_iload hx hb dX2_spread_96 (lv_at hl 0 rfl) ?_
            refine lv_ior hx hb dX2_spread_98 ?_
            refine lv_topi (fun x_29 ex_29 => ?_)
            have tx_29 : 0 ≤ x_29.toInt ∧ x_29.toInt ≤ 1048575 := ti_or20 ex_29 (by omega) (by omega) (by omega) (by omega)
            refine lv_istore (lv' := [(4, .int x_29), (10, .int x_28), (9, .int x_24), (8, .int r_14), (7, .int x_12), (6, .int i_3), (5, .int i_5), (0, .ref h0), (1, .int p1), (2, .int p2), (3, .int p3)]) hx hb dX2_spread_99 hl (by decide) rfl (fun ls hl => ?_)
            refine lv_iload hx hb dX2_spread_101 (lv_at hl 6 rfl) ?_
            refine lv_iload hx hb dX2_spread_103 (lv_at hl 4 rfl) ?_
            refine lv_iconst (v := -1) hx hb dX2_spread_105 (by decide) ?_
            refine lv_ixor hx hb dX2_spread_106 ?_
            refine lv_topi (fun x_30 ex_30 => ?_)
            refine lv_iand hx hb dX2_spread_107 ?_
            refine lv_topi (fun x_31 ex_31 => ?_)
            have tx_31 : 0 ≤ x_31.toInt ∧ x_31.toInt ≤ i_5.toInt := ti_andl ex_31 (by omega)
            refine lv_iload hx hb dX2_spread_108 (lv_at hl 1 rfl) ?_
            refine lv_ior hx hb dX2_spread_110 ?_
            refine lv_topi (fun x_32 ex_32 => ?_)
            have tx_32 : 0 ≤ x_32.toInt ∧ x_32.toInt ≤ 1048575 := ti_or20 ex_32 (by omega) (by omega) (by omega) (by omega)
            refine lv_istore (lv' := [(5, .int x_32), (4, .int x_29), (10, .int x_28), (9, .int x_24), (8, .int r_14), (7, .int x_12), (6, .int i_3), (0, .ref h0), (1, .int p1), (2, .int p2), (3, .int p3)]) hx hb dX2_spread_111 hl (by decide) rfl (fun ls hl => ?_)
            obtain ⟨x_33, ex_33⟩ : ∃ y : Int32, y = i_3 + 1 := ⟨_, rfl⟩
            have tx_33 : x_33.toInt = i_3.toInt + 1 := ti_add (A := i_3.toInt) (B := 1) ex_33 rfl rfl (by omega) (by omega)
            refine lv_iinc (v := x_33) (lv' := [(6, .int x_33), (5, .int x_32), (4, .int x_29), (10, .int x_28), (9, .int x_24), (8, .int r_14), (7, .int x_12), (0, .ref h0), (1, .int p1), (2, .int p2), (3, .int p3)]) hx hb dX2_spread_113 hl (k := 6) rfl (by rw [ex_33]; rfl) (by decide) rfl (fun ls hl => ?_)
            refine lv_goto (tgt := 12) hx hb dX2_spread_116 (by decide) ?_
            exact ihlp_2 x_33 x_32 x_29 _ _ _ (by omega) (by omega) (by omega) (show 21 - x_33.toInt ≤ (nlp_2 : Int) by omega) hP hD hS (lv_sub hl [0, 1, 2, 7, 8, 9, 10] rfl)
          · have h_18 : x_17.toInt = 0 := c_eq h_18
            refine lv_aload_n hx hb dX2_spread_48 rfl (lv_at hl 5 rfl) ?_
            refine r_get X kcX2 (ci := 2) rfl hP 0 rfl 0 (by decide) fX2_9 rfl dX2_spread_49 ?_
            refine lv_iload hx hb dX2_spread_52 (lv_at hl 0 rfl) ?_
            refine va_iald (D := (dC, dI)) (cl := vwCl) hx hb hK hP 1 1 rfl rfl (i := r_14) (vin (by omega) (by omega)) dX2_spread_54 ?_
            refine lv_topi (fun x_34 ex_34 => ?_)
            have bx_34 : 0 ≤ x_34.toInt ∧ x_34.toInt ≤ 1048575 := rb_at hf_fromLawnf ex_34 (by omega) (by omega)
            refine lv_goto (tgt := 65) hx hb dX2_spread_55 (by decide) ?_
            refine lv_iload_n hx hb dX2_spread_65 rfl (lv_at hl 7 rfl) ?_
            refine lv_iconst (v := -1) hx hb dX2_spread_66 (by decide) ?_
            refine lv_ixor hx hb dX2_spread_67 ?_
            refine lv_topi (fun x_35 ex_35 => ?_)
            refine lv_iand hx hb dX2_spread_68 ?_
            refine lv_topi (fun x_36 ex_36 => ?_)
            have tx_36 : 0 ≤ x_36.toInt ∧ x_36.toInt ≤ x_34.toInt := ti_andl ex_36 (by omega)
            refine lv_aload_n hx hb dX2_spread_69 rfl (lv_at hl 5 rfl) ?_
            refine r_get X kcX2 (ci := 2) rfl hP 0 rfl 2 (by decide) fX2_18 rfl dX2_spread_70 ?_
            refine lv_iload hx hb dX2_spread_73 (lv_at hl 0 rfl) ?_
            refine va_iald (D := (dC, dI)) (cl := vwCl) hx hb hK hP 3 1 rfl rfl (i := r_14) (vin (by omega) (by omega)) dX2_spread_75 ?_
            refine lv_topi (fun x_37 ex_37 => ?_)
            have bx_37 : 0 ≤ x_37.toInt ∧ x_37.toInt ≤ 1048575 := rb_at hf_ontoDitchf ex_37 (by omega) (by omega)
            refine lv_iload_n hx hb dX2_spread_76 rfl (lv_at hl 7 rfl) ?_
            refine lv_iand hx hb dX2_spread_77 ?_
            refine lv_topi (fun x_38 ex_38 => ?_)
            have tx_38 : 0 ≤ x_38.toInt ∧ x_38.toInt ≤ x_37.toInt := ti_andl ex_38 (by omega)
            refine lv_ior hx hb dX2_spread_78 ?_
            refine lv_topi (fun x_39 ex_39 => ?_)
            have tx_39 : 0 ≤ x_39.toInt ∧ x_39.toInt ≤ 1048575 := ti_or20 ex_39 (by omega) (by omega) (by omega) (by omega)
            refine lv_istore (lv' := [(9, .int x_39), (8, .int r_14), (7, .int x_12), (6, .int i_3), (5, .int i_5), (4, .int i_7), (0, .ref h0), (1, .int p1), (2, .int p2), (3, .int p3)]) hx hb dX2_spread_79 hl (by decide) rfl (fun ls hl => ?_)
            refine lv_iload hx hb dX2_spread_81 (lv_at hl 0 rfl) ?_
            refine lv_iload hx hb dX2_spread_83 (lv_at hl 5 rfl) ?_
            refine lv_iconst (v := -1) hx hb dX2_spread_85 (by decide) ?_
            refine lv_ixor hx hb dX2_spread_86 ?_
            refine lv_topi (fun x_40 ex_40 => ?_)
            refine lv_iand hx hb dX2_spread_87 ?_
            refine lv_topi (fun x_41 ex_41 => ?_)
            have tx_41 : 0 ≤ x_41.toInt ∧ x_41.toInt ≤ x_39.toInt := ti_andl ex_41 (by omega)
            refine lv_iload_n hx hb dX2_spread_88 rfl (lv_at hl 9 rfl) ?_
            refine lv_iconst (v := -1) hx hb dX2_spread_89 (by decide) ?_
            refine lv_ixor hx hb dX2_spread_90 ?_
            refine lv_topi (fun x_42 ex_42 => ?_)
            refine lv_iand hx hb dX2_spread_91 ?_
            refine lv_topi (fun x_43 ex_43 => ?_)
            have tx_43 : 0 ≤ x_43.toInt ∧ x_43.toInt ≤ x_41.toInt := ti_andl ex_43 (by omega)
            refine lv_istore (lv' := [(10, .int x_43), (9, .int x_39), (8, .int r_14), (7, .int x_12), (6, .int i_3), (5, .int i_5), (4, .int i_7), (0, .ref h0), (1, .int p1), (2, .int p2), (3, .int p3)]) hx hb dX2_spread_92 hl (by decide) rfl (fun ls hl => ?_)
            refine lv_iload hx hb dX2_spread_94 (lv_at hl 6 rfl) ?_
            refine lv_iload hx hb dX2_spread_96 (lv_at hl 0 rfl) ?_
            refine lv_ior hx hb dX2_spread_98 ?_
            refine lv_topi (fun x_44 ex_44 => ?_)
            have tx_44 : 0 ≤ x_44.toInt ∧ x_44.toInt ≤ 1048575 := ti_or20 ex_44 (by omega) (by omega) (by omega) (by omega)
            refine lv_istore (lv' := [(4, .int x_44), (10, .int x_43), (9, .int x_39), (8, .int r_14), (7, .int x_12), (6, .int i_3), (5, .int i_5), (0, .ref h0), (1, .int p1), (2, .int p2), (3, .int p3)]) hx hb dX2_spread_99 hl (by decide) rfl (fun ls hl => ?_)
            refine lv_iload hx hb dX2_spread_101 (lv_at hl 6 rfl) ?_
            refine lv_iload hx hb dX2_spread_103 (lv_at hl 4 rfl) ?_
            refine lv_iconst (v := -1) hx hb dX2_spread_105 (by decide) ?_
            refine lv_ixor hx hb dX2_spread_106 ?_
            refine lv_topi (fun x_45 ex_45 => ?_)
            refine lv_iand hx hb dX2_spread_107 ?_
            refine lv_topi (fun x_46 ex_46 => ?_)
            have tx_46 : 0 ≤ x_46.toInt ∧ x_46.toInt ≤ i_5.toInt := ti_andl ex_46 (by omega)
            refine lv_iload hx hb dX2_spread_108 (lv_at hl 1 rfl) ?_
            refine lv_ior hx hb dX2_spread_110 ?_
            refine lv_topi (fun x_47 ex_47 => ?_)
            have tx_47 : 0 ≤ x_47.toInt ∧ x_47.toInt ≤ 1048575 := ti_or20 ex_47 (by omega) (by omega) (by omega) (by omega)
            refine lv_istore (lv' := [(5, .int x_47), (4, .int x_44), (10, .int x_43), (9, .int x_39), (8, .int r_14), (7, .int x_12), (6, .int i_3), (0, .ref h0), (1, .int p1), (2, .int p2), (3, .int p3)]) hx hb dX2_spread_111 hl (by decide) rfl (fun ls hl => ?_)
            obtain ⟨x_48, ex_48⟩ : ∃ y : Int32, y = i_3 + 1 := ⟨_, rfl⟩
            have tx_48 : x_48.toInt = i_3.toInt + 1 := ti_add (A := i_3.toInt) (B := 1) ex_48 rfl rfl (by omega) (by omega)
            refine lv_iinc (v := x_48) (lv' := [(6, .int x_48), (5, .int x_47), (4, .int x_44), (10, .int x_43), (9, .int x_39), (8, .int r_14), (7, .int x_12), (0, .ref h0), (1, .int p1), (2, .int p2), (3, .int p3)]) hx hb dX2_spread_113 hl (k := 6) rfl (by rw [ex_48]; rfl) (by decide) rfl (fun ls hl => ?_)
            refine lv_goto (tgt := 12) hx hb dX2_spread_116 (by decide) ?_
            exact ihlp_2 x_48 x_47 x_44 _ _ _ (by omega) (by omega) (by omega) (show 21 - x_48.toInt ≤ (nlp_2 : Int) by omega) hP hD hS (lv_sub hl [0, 1, 2, 7, 8, 9, 10] rfl)
  exact lp_2 21 0 x_1 x_1 _ _ _ (by decide) (by omega) (by omega) (show 21 - 0 ≤ ((21 : Nat) : Int) by omega) hP hD hS hl
set_option maxHeartbeats 4000000 in
set_option maxRecDepth 100000 in
theorem sX2_comesTo (l : Launch) (dC : Nat → ClassId) (dI : Nat → Nat → Nat) (cy : Nat → ClassId) (h0 : Nat) (f_fromLawn : Nat) (f_fromDitch : Nat) (f_ontoDitch : Nat) (f_fromLawnf : Nat → Int32) (f_fromDitchf : Nat → Int32) (f_ontoDitchf : Nat → Int32) (p1 : Int32) (p2 : Int32) (p3 : Int32) (p4 : Int32) (hf_fromLawnf : rb f_fromLawnf 20 0 1048575) (hf_fromDitchf : rb f_fromDitchf 20 0 1048575) (hf_ontoDitchf : rb f_ontoDitchf 20 0 1048575) (hp1 : 0 ≤ p1.toInt ∧ p1.toInt ≤ 19) : ctI l dC dI cy yX2_comesTo cX2_comesTo 5 .boolean ({ frames := 2, cells := 0, slots := 0, locals := 50 } : Room) [.ref h0, .int p1, .int p2, .int p3, .int p4] [(h0, .inr (2, [.ref f_fromLawn, .ref f_fromDitch, .ref f_ontoDitch])), (f_fromLawn, .inl (cy 1, 20, .inl f_fromLawnf)), (f_fromDitch, .inl (cy 1, 20, .inl f_fromDitchf)), (f_ontoDitch, .inl (cy 1, 20, .inl f_ontoDitchf))] (S := Unit) (fun r _ => (0 ≤ r.toInt ∧ r.toInt ≤ 1)) (fun _ => [(h0, .inr (2, [.ref f_fromLawn, .ref f_fromDitch, .ref f_ontoDitch])), (f_fromLawn, .inl (cy 1, 20, .inl f_fromLawnf)), (f_fromDitch, .inl (cy 1, 20, .inl f_fromDitchf)), (f_ontoDitch, .inl (cy 1, 20, .inl f_ontoDitchf))]) := by
  refine ctI.of (by decide +kernel) (Nat.le_of_ble_eq_true rfl) ?_
  intro p e s m args below meth c A ls Q hQ X hr hlocks hin hA hP hD hS hl
  have hx := X.1
  have hb := X.2.1
  have hK := X.2.2.2.2.2.1
  have hl : lv_has ls 5 [(0, .ref h0), (1, .int p1), (2, .int p2), (3, .int p3), (4, .int p4)] := hl
  refine lv_aload_n hx hb dX2_comesTo_0 rfl (lv_at hl 0 rfl) ?_
  refine lv_iload_n hx hb dX2_comesTo_1 rfl (lv_at hl 1 rfl) ?_
  refine lv_iload_n hx hb dX2_comesTo_2 rfl (lv_at hl 3 rfl) ?_
  refine lv_iload hx hb dX2_comesTo_3 (lv_at hl 4 rfl) ?_
  refine fI (wr := []) (rV_I (wc := [(h0, .inr (2, [.ref f_fromLawn, .ref f_fromDitch, .ref f_ontoDitch])), (f_fromLawn, .inl (cy 1, 20, .inl f_fromLawnf)), (f_fromDitch, .inl (cy 1, 20, .inl f_fromDitchf)), (f_ontoDitch, .inl (cy 1, 20, .inl f_ontoDitchf))]) (As := [.int p1, .int p3, .int p4]) (rest := []) X (sX2_spread l dC dI cy h0 f_fromLawn f_fromDitch f_ontoDitch f_fromLawnf f_fromDitchf f_ontoDitchf p1 p3 p4 hf_fromLawnf hf_fromDitchf hf_ontoDitchf (by first | omega | decide)) kX2_spread vX2_spread mX2_47 hP hD [0, 1, 2, 3] (by decide) rfl 0 (ci := 2) rfl rfl rfl hl rfl rfl (Nat.le_of_ble_eq_true rfl) dX2_comesTo_5 ⟨(Nat.le_of_ble_eq_true rfl), (Nat.le_of_ble_eq_true rfl)⟩ ⟨(Nat.le_of_ble_eq_true rfl), (Nat.le_of_ble_eq_true rfl)⟩) hP hD hS hA [0, 1, 2, 3] [] rfl rfl (by decide) (by decide) (fun r_1 u_3 H locs k_2 hP hD hS => ?_)
  have hP : va_P (dC, dI) vwCl [(h0, .inr (2, [.ref f_fromLawn, .ref f_fromDitch, .ref f_ontoDitch])), (f_fromLawn, .inl (cy 1, 20, .inl f_fromLawnf)), (f_fromDitch, .inl (cy 1, 20, .inl f_fromDitchf)), (f_ontoDitch, .inl (cy 1, 20, .inl f_ontoDitchf))] H := hP
  have hD : va_D A [(h0, .inr (2, [.ref f_fromLawn, .ref f_fromDitch, .ref f_ontoDitch])), (f_fromLawn, .inl (cy 1, 20, .inl f_fromLawnf)), (f_fromDitch, .inl (cy 1, 20, .inl f_fromDitchf)), (f_ontoDitch, .inl (cy 1, 20, .inl f_ontoDitchf))] := hD
  refine lv_iload_n hx hb dX2_comesTo_8 rfl (lv_at hl 2 rfl) ?_
  refine lv_ishr hx hb dX2_comesTo_9 ?_
  refine lv_topi (fun x_4 ex_4 => ?_)
  refine lv_iconst (v := 1) hx hb dX2_comesTo_10 (by decide) ?_
  refine lv_iand hx hb dX2_comesTo_11 ?_
  refine lv_topi (fun x_5 ex_5 => ?_)
  have tx_5 : x_5.toInt = 0 ∨ x_5.toInt = 1 := ti_and1 ex_5
  refine lv_iconst (v := 1) hx hb dX2_comesTo_12 (by decide) ?_
  refine lv_icmp_ne (tgt := 20) hx hb dX2_comesTo_13 (by decide) (fun h_6 => ?_) (fun h_6 => ?_)
  · have h_6 : x_5.toInt ≠ 1 := c_ne h_6
    refine lv_iconst (v := 0) hx hb dX2_comesTo_20 (by decide) ?_
    exact eI hQ X hr hlocks hP hD hS () [0, 1, 2, 3] (by decide) rfl rfl (show (0 ≤ (0 : Int32).toInt ∧ (0 : Int32).toInt ≤ 1) from (by first | rfl | assumption | decide)) (Nat.le_of_ble_eq_true rfl) (Nat.le_of_ble_eq_true rfl) dX2_comesTo_21
  · have h_6 : x_5.toInt = 1 := c_eq h_6
    refine lv_iconst (v := 1) hx hb dX2_comesTo_16 (by decide) ?_
    refine lv_goto (tgt := 21) hx hb dX2_comesTo_17 (by decide) ?_
    exact eI hQ X hr hlocks hP hD hS () [0, 1, 2, 3] (by decide) rfl rfl (show (0 ≤ (1 : Int32).toInt ∧ (1 : Int32).toInt ≤ 1) from (by first | rfl | assumption | decide)) (Nat.le_of_ble_eq_true rfl) (Nat.le_of_ble_eq_true rfl) dX2_comesTo_21
