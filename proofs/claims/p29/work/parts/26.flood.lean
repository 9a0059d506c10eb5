def bcF (i : Int32) : Int32 :=
  let u := fun (x : Int32) (k : Int32) => (x.toUInt32 >>> (k.toUInt32 &&& Int32.toUInt32 31)).toInt32
  let a := i - (u i 1 &&& 1431655765)
  let b := (a &&& 858993459) + (u a 2 &&& 858993459)
  let c := (b + u b 4) &&& 252645135
  let d := c + u c 8
  let e := d + u d 16
  e &&& 63
set_option maxHeartbeats 4000000 in
set_option maxRecDepth 100000 in
theorem sJ6_bitCount (l : Launch) (dC : Nat → ClassId) (dI : Nat → Nat → Nat) (cy : Nat → ClassId) (p1 : Int32) : ctI l dC dI cy hp yJ6_bitCount_0f7a4 cJ6_bitCount_0f7a4 1 .int ({ frames := 0, cells := 0, slots := 0, locals := 0 } : Room) [.int p1] [] (S := Unit) (fun r _ => (r = bcF p1)) (fun _ => []) := by
  refine ctI.of (by decide +kernel) (Nat.le_of_ble_eq_true rfl) ?_
  intro p e s m args below meth c A ls Q hQ X hr hlocks hin hA hP hD hS hl
  have hx := X.1
  have hb := X.2.1
  have hK := X.2.2.2.2.2.1
  have hl : lv_has ls 1 [(0, .int p1)] := hl
  have dy_1 := ti_bd p1
  refine lv_iload_n hx hb dJ6_bitCount_0f7a4_0 rfl (lv_at hl 0 rfl) ?_
  refine lv_iload_n hx hb dJ6_bitCount_0f7a4_1 rfl (lv_at hl 0 rfl) ?_
  refine lv_iconst (v := 1) hx hb dJ6_bitCount_0f7a4_2 (by decide) ?_
  obtain ⟨x_2, ex_2⟩ : ∃ y : Int32, ((p1 : Int32).toUInt32 >>> ((1 : Int32).toUInt32 &&& Int32.toUInt32 31)).toInt32 = y := ⟨_, rfl⟩
  refine lv_iushr hx hb dJ6_bitCount_0f7a4_3 ex_2 ?_
  refine lv_ldcw (v := 1431655765) hx hb X.2.2.2.1 (X.2.2.2.2.1 _ w_945) dJ6_bitCount_0f7a4_4 ?_
  refine lv_iand hx hb dJ6_bitCount_0f7a4_7 ?_
  have dy_3 := ti_bd x_2
  refine lv_topi (fun x_4 ex_4 => ?_)
  have tx_4 : 0 ≤ x_4.toInt ∧ x_4.toInt ≤ 1431655765 := ti_andr ex_4 (by decide)
  refine lv_isub hx hb dJ6_bitCount_0f7a4_8 ?_
  refine lv_topi (fun x_5 ex_5 => ?_)
  refine lv_istore_n (lv' := [(0, .int x_5)]) hx hb dJ6_bitCount_0f7a4_9 rfl hl (by decide) rfl (fun ls hl => ?_)
  refine lv_iload_n hx hb dJ6_bitCount_0f7a4_10 rfl (lv_at hl 0 rfl) ?_
  refine lv_ldcw (v := 858993459) hx hb X.2.2.2.1 (X.2.2.2.2.1 _ w_946) dJ6_bitCount_0f7a4_11 ?_
  refine lv_iand hx hb dJ6_bitCount_0f7a4_14 ?_
  have dy_6 := ti_bd x_5
  refine lv_topi (fun x_7 ex_7 => ?_)
  have tx_7 : 0 ≤ x_7.toInt ∧ x_7.toInt ≤ 858993459 := ti_andr ex_7 (by decide)
  refine lv_iload_n hx hb dJ6_bitCount_0f7a4_15 rfl (lv_at hl 0 rfl) ?_
  refine lv_iconst (v := 2) hx hb dJ6_bitCount_0f7a4_16 (by decide) ?_
  obtain ⟨x_8, ex_8⟩ : ∃ y : Int32, ((x_5 : Int32).toUInt32 >>> ((2 : Int32).toUInt32 &&& Int32.toUInt32 31)).toInt32 = y := ⟨_, rfl⟩
  refine lv_iushr hx hb dJ6_bitCount_0f7a4_17 ex_8 ?_
  refine lv_ldcw (v := 858993459) hx hb X.2.2.2.1 (X.2.2.2.2.1 _ w_946) dJ6_bitCount_0f7a4_18 ?_
  refine lv_iand hx hb dJ6_bitCount_0f7a4_21 ?_
  have dy_9 := ti_bd x_8
  refine lv_topi (fun x_10 ex_10 => ?_)
  have tx_10 : 0 ≤ x_10.toInt ∧ x_10.toInt ≤ 858993459 := ti_andr ex_10 (by decide)
  refine lv_iadd hx hb dJ6_bitCount_0f7a4_22 ?_
  refine lv_topi (fun x_11 ex_11 => ?_)
  have tx_11 : x_11.toInt = x_7.toInt + x_10.toInt := ti_add (A := x_7.toInt) (B := x_10.toInt) ex_11 rfl rfl (by omega) (by omega)
  refine lv_istore_n (lv' := [(0, .int x_11)]) hx hb dJ6_bitCount_0f7a4_23 rfl hl (by decide) rfl (fun ls hl => ?_)
  refine lv_iload_n hx hb dJ6_bitCount_0f7a4_24 rfl (lv_at hl 0 rfl) ?_
  refine lv_iload_n hx hb dJ6_bitCount_0f7a4_25 rfl (lv_at hl 0 rfl) ?_
  refine lv_iconst (v := 4) hx hb dJ6_bitCount_0f7a4_26 (by decide) ?_
  obtain ⟨x_12, ex_12⟩ : ∃ y : Int32, ((x_11 : Int32).toUInt32 >>> ((4 : Int32).toUInt32 &&& Int32.toUInt32 31)).toInt32 = y := ⟨_, rfl⟩
  refine lv_iushr hx hb dJ6_bitCount_0f7a4_27 ex_12 ?_
  refine lv_iadd hx hb dJ6_bitCount_0f7a4_28 ?_
  have dy_13 := ti_bd x_12
  refine lv_topi (fun x_14 ex_14 => ?_)
  refine lv_ldcw (v := 252645135) hx hb X.2.2.2.1 (X.2.2.2.2.1 _ w_947) dJ6_bitCount_0f7a4_29 ?_
  refine lv_iand hx hb dJ6_bitCount_0f7a4_32 ?_
  have dy_15 := ti_bd x_14
  refine lv_topi (fun x_16 ex_16 => ?_)
  have tx_16 : 0 ≤ x_16.toInt ∧ x_16.toInt ≤ 252645135 := ti_andr ex_16 (by decide)
  refine lv_istore_n (lv' := [(0, .int x_16)]) hx hb dJ6_bitCount_0f7a4_33 rfl hl (by decide) rfl (fun ls hl => ?_)
  refine lv_iload_n hx hb dJ6_bitCount_0f7a4_34 rfl (lv_at hl 0 rfl) ?_
  refine lv_iload_n hx hb dJ6_bitCount_0f7a4_35 rfl (lv_at hl 0 rfl) ?_
  refine lv_bipush (v := 8) hx hb dJ6_bitCount_0f7a4_36 (by decide) ?_
  obtain ⟨x_17, ex_17⟩ : ∃ y : Int32, ((x_16 : Int32).toUInt32 >>> ((8 : Int32).toUInt32 &&& Int32.toUInt32 31)).toInt32 = y := ⟨_, rfl⟩
  refine lv_iushr hx hb dJ6_bitCount_0f7a4_38 ex_17 ?_
  refine lv_iadd hx hb dJ6_bitCount_0f7a4_39 ?_
  have dy_18 := ti_bd x_17
  refine lv_topi (fun x_19 ex_19 => ?_)
  refine lv_istore_n (lv' := [(0, .int x_19)]) hx hb dJ6_bitCount_0f7a4_40 rfl hl (by decide) rfl (fun ls hl => ?_)
  refine lv_iload_n hx hb dJ6_bitCount_0f7a4_41 rfl (lv_at hl 0 rfl) ?_
  refine lv_iload_n hx hb dJ6_bitCount_0f7a4_42 rfl (lv_at hl 0 rfl) ?_
  refine lv_bipush (v := 16) hx hb dJ6_bitCount_0f7a4_43 (by decide) ?_
  obtain ⟨x_20, ex_20⟩ : ∃ y : Int32, ((x_19 : Int32).toUInt32 >>> ((16 : Int32).toUInt32 &&& Int32.toUInt32 31)).toInt32 = y := ⟨_, rfl⟩
  refine lv_iushr hx hb dJ6_bitCount_0f7a4_45 ex_20 ?_
  refine lv_iadd hx hb dJ6_bitCount_0f7a4_46 ?_
  have dy_21 := ti_bd x_19
  have dy_22 := ti_bd x_20
  refine lv_topi (fun x_23 ex_23 => ?_)
  refine lv_istore_n (lv' := [(0, .int x_23)]) hx hb dJ6_bitCount_0f7a4_47 rfl hl (by decide) rfl (fun ls hl => ?_)
  refine lv_iload_n hx hb dJ6_bitCount_0f7a4_48 rfl (lv_at hl 0 rfl) ?_
  refine lv_bipush (v := 63) hx hb dJ6_bitCount_0f7a4_49 (by decide) ?_
  refine lv_iand hx hb dJ6_bitCount_0f7a4_51 ?_
  have dy_24 := ti_bd x_23
  refine lv_topi (fun x_25 ex_25 => ?_)
  have tx_25 : 0 ≤ x_25.toInt ∧ x_25.toInt ≤ 63 := ti_andr ex_25 (by decide)
  exact eI hQ X hr hlocks hP hD hS () [] (by decide) rfl rfl (show (x_25 = bcF p1) from (by subst_vars; rfl)) (Nat.le_of_ble_eq_true rfl) (Nat.le_of_ble_eq_true rfl) dJ6_bitCount_0f7a4_52
theorem bc_key : ∀ k : Nat, k < 20 → 0 ≤ (bcF (Int32.ofNat (2 ^ k) - 1)).toInt ∧ (bcF (Int32.ofNat (2 ^ k) - 1)).toInt ≤ 19 := by decide +kernel
theorem and_compl : ∀ (j m : Nat), m < 2 ^ j → m &&& (2 ^ j - 1 - m) = 0 := by
  intro j m hm
  apply Nat.eq_of_testBit_eq
  intro i
  rw [Nat.testBit_and, Nat.zero_testBit, show 2 ^ j - 1 - m = 2 ^ j - (m + 1) by omega, Nat.testBit_two_pow_sub_succ hm]
  cases Nat.testBit m i <;> simp
/-- the lowest bit of a number below 2^32 -/
theorem low_nat : ∀ (j n : Nat), 0 < n → n < 2 ^ j → ∃ k, k < j ∧ n &&& (2 ^ j - n) = 2 ^ k ∧ 2 ^ k ≤ n := by
  intro j
  induction j with
  | zero => intro n h0 h1; omega
  | succ j ih =>
    intro n h0 h1
    obtain ⟨m, h⟩ : ∃ m, n = 2 * m ∨ n = 2 * m + 1 := ⟨n / 2, by omega⟩
    rcases h with h | h
    · obtain ⟨k, hk, e, hle⟩ := ih m (by omega) (by rw [Nat.pow_succ] at h1; omega)
      refine ⟨k + 1, by omega, ?_, by rw [Nat.pow_succ]; omega⟩
      rw [h, show 2 ^ (j + 1) - 2 * m = 2 * (2 ^ j - m) by rw [Nat.pow_succ]; omega, Nat.pow_succ, ← e, Nat.mul_comm _ 2]
      apply Nat.eq_of_testBit_eq
      intro i
      cases i with
      | zero => simp [Nat.testBit_zero]
      | succ i => rw [Nat.testBit_and, Nat.testBit_succ, Nat.testBit_succ, Nat.testBit_succ, show 2 * m / 2 = m by omega, show 2 * (2 ^ j - m) / 2 = 2 ^ j - m by omega, show 2 * (m &&& 2 ^ j - m) / 2 = (m &&& 2 ^ j - m) by omega, Nat.testBit_and]
    · refine ⟨0, by omega, ?_, by rw [Nat.pow_zero]; omega⟩
      rw [h, Nat.pow_zero]
      have hm : m < 2 ^ j := by rw [Nat.pow_succ] at h1; omega
      rw [show 2 ^ (j + 1) - (2 * m + 1) = 2 * (2 ^ j - 1 - m) + 1 by rw [Nat.pow_succ]; omega]
      apply Nat.eq_of_testBit_eq
      intro i
      cases i with
      | zero => simp [Nat.testBit_zero]
      | succ i =>
        have := congrArg (fun z => Nat.testBit z i) (and_compl j m hm)
        simp only [Nat.testBit_and, Nat.zero_testBit] at this
        rw [Nat.testBit_and, Nat.testBit_succ, Nat.testBit_succ, Nat.testBit_succ, show (2 * m + 1) / 2 = m by omega, show (2 * (2 ^ j - 1 - m) + 1) / 2 = 2 ^ j - 1 - m by omega, show 1 / 2 = 0 by omega, Nat.zero_testBit]
        exact this
theorem bc_low {fr x y z r : Int32} (e1 : x = -fr) (e2 : y = fr &&& x) (e3 : z = y - 1) (hr : r = bcF z) (h0 : 0 < fr.toInt) (h1 : fr.toInt ≤ 1048575) : 0 ≤ r.toInt ∧ r.toInt ≤ 19 := by
  have hn := ti_nat (a := fr) (by omega)
  have hxb : x.toBitVec.toNat = 2 ^ 32 - fr.toBitVec.toNat := by
    rw [e1, show (-fr).toBitVec = -fr.toBitVec from rfl, BitVec.toNat_neg, Nat.mod_eq_of_lt (by omega)]
  obtain ⟨k, hk, e, hle⟩ := low_nat 32 fr.toBitVec.toNat (by omega) (by omega)
  have hy : y.toBitVec.toNat = 2 ^ k := by
    rw [e2, show (fr &&& x).toBitVec = fr.toBitVec &&& x.toBitVec from rfl, BitVec.toNat_and, hxb, e]
  have hk20 : k < 20 := by
    rcases Nat.lt_or_ge k 20 with q | q
    · exact q
    · have := Nat.pow_le_pow_right (n := 2) (by omega) q
      omega
  have hy2 : y = Int32.ofNat (2 ^ k) := by
    apply Int32.toBitVec_inj.mp
    apply BitVec.eq_of_toNat_eq
    rw [hy, show (Int32.ofNat (2 ^ k)).toBitVec = BitVec.ofNat 32 (2 ^ k) from rfl, BitVec.toNat_ofNat, Nat.mod_eq_of_lt (Nat.pow_lt_pow_right (by omega) (by omega))]
  rw [hr, e3, hy2]
  exact bc_key k hk20
/-- bits -/
def bt (x : Int32) (j : Nat) : Bool := x.toBitVec.toNat.testBit j
theorem bt_or {a b x : Int32} (e : x = a ||| b) (j : Nat) : bt x j = (bt a j || bt b j) := by
  rw [e]
  unfold bt
  rw [show (a ||| b).toBitVec = a.toBitVec ||| b.toBitVec from rfl, BitVec.toNat_or, Nat.testBit_or]
theorem bt_and {a b x : Int32} (e : x = a &&& b) (j : Nat) : bt x j = (bt a j && bt b j) := by
  rw [e]
  unfold bt
  rw [show (a &&& b).toBitVec = a.toBitVec &&& b.toBitVec from rfl, BitVec.toNat_and, Nat.testBit_and]
theorem bt_0 (j : Nat) : bt 0 j = false := Nat.zero_testBit j
theorem bt_p {k j : Nat} (hk : k < 20) : bt (Int32.ofNat (2 ^ k)) j = decide (k = j) := by
  unfold bt
  rw [show (Int32.ofNat (2 ^ k)).toBitVec = BitVec.ofNat 32 (2 ^ k) from rfl, BitVec.toNat_ofNat, Nat.mod_eq_of_lt (Nat.pow_lt_pow_right (by omega) (by omega)), Nat.testBit_two_pow]
theorem bt_sh {I y : Int32} (e : y = 1 <<< (I &&& 31)) (h0 : 0 ≤ I.toInt) (h1 : I.toInt ≤ 19) (j : Nat) : bt y j = decide (I.toInt.toNat = j) := by
  have key : ∀ k : Nat, k < 20 → (1 : Int32) <<< (Int32.ofNat k &&& 31) = Int32.ofNat (2 ^ k) := by decide +kernel
  have hy : I = Int32.ofNat I.toInt.toNat := by
    apply Int32.toInt_inj.mp
    rw [Int32.toInt_ofNat_of_lt (by omega)]
    omega
  rw [e, hy, key _ (by omega), bt_p (by omega), ← hy]
def cB (x : Int32) : Nat → Nat
  | 0 => 0
  | k + 1 => cB x k + (if bt x k = true then 1 else 0)
theorem bt_one {k j : Nat} (hk : k < 20) : bt (1 <<< (Int32.ofNat k &&& 31)) j = decide (k = j) := by
  have e : (Int32.ofNat k).toInt = k := Int32.toInt_ofNat_of_lt (by omega)
  have g := bt_sh (I := Int32.ofNat k) rfl (by omega) (by omega) j
  rw [e, show ((k : Nat) : Int).toNat = k by omega] at g
  exact g
theorem bt_boZ {f : Nat → Int32} {v : Int} {j : Nat} : ∀ n : Nat, n ≤ 20 → bt (boZ f v n) j = decide (j < n ∧ (f j).toInt = v)
  | 0, _ => by
    rw [decide_eq_false (by omega)]
    exact bt_0 j
  | n + 1, hn => by
    have ih := bt_boZ (f := f) (v := v) (j := j) n (by omega)
    show bt (if (f n).toInt = v then boZ f v n ||| (1 <<< (Int32.ofNat n &&& 31)) else boZ f v n) j = _
    by_cases z : (f n).toInt = v
    · rw [if_pos z, bt_or rfl, ih, bt_one (by omega)]
      by_cases y : n = j
      · subst y
        rw [decide_eq_true rfl, Bool.or_true, decide_eq_true ⟨by omega, z⟩]
      · rw [decide_eq_false y, Bool.or_false]
        exact decide_eq_decide.mpr ⟨fun ⟨a, b⟩ => ⟨by omega, b⟩, fun ⟨a, b⟩ => ⟨by omega, b⟩⟩
    · rw [if_neg z, ih]
      exact decide_eq_decide.mpr ⟨fun ⟨a, b⟩ => ⟨by omega, b⟩, fun ⟨a, b⟩ => ⟨by
        rcases Nat.lt_or_ge j n with q | q
        · exact q
        · obtain rfl : j = n := by omega
          exact absurd b z, b⟩⟩
/-- edges of a table -/
def eT (n : Nat) (T : Nat → Int) (a b : Nat) : Prop := ∃ e : Nat, e < 4 * n ∧ e / 4 = a ∧ T e ≠ -1 ∧ (T e).toNat = b
theorem upd_at {f g : Nat → Int32} {i : Nat} {v : Int32} (u : upd f i v = g) : g i = v ∧ ∀ j : Nat, j ≠ i → g j = f j := by
  subst u
  exact ⟨if_pos rfl, fun j hj => if_neg hj⟩
/-- a bit, by shifting -/
theorem on_ex {I : Int32} (h0 : 0 ≤ I.toInt) (h1 : I.toInt ≤ 19) : ∃ k : Nat, k < 20 ∧ I = Int32.ofNat k ∧ I.toInt = (k : Int) := ⟨I.toInt.toNat, by omega, oN_of (by omega), by omega⟩
theorem bt_shr0 {x y I : Int32} (e : y = x >>> (I &&& 31)) (h0 : 0 ≤ I.toInt) (h1 : I.toInt ≤ 19) : bt y 0 = bt x I.toInt.toNat := by
  have key : ∀ k : Nat, k < 20 → ((Int32.ofNat k &&& 31).toBitVec.smod 32).toNat = k := by decide +kernel
  obtain ⟨k, hk, hI, e2⟩ := on_ex h0 h1
  rw [e2, show ((k : Nat) : Int).toNat = k by omega, e, hI]
  unfold bt
  rw [Int32.toBitVec_shiftRight]
  show (x.toBitVec.sshiftRight ((Int32.ofNat k &&& 31).toBitVec.smod 32).toNat).getLsbD 0 = x.toBitVec.getLsbD k
  rw [key k hk, BitVec.getLsbD_sshiftRight, if_pos (show k + 0 < 32 by omega)]
  rfl
theorem bt_and1 {x y : Int32} (e : y = x &&& 1) : y.toInt = 1 ↔ bt x 0 = true := by
  have h0 : bt 1 0 = true := by decide +kernel
  have h1 : bt y 0 = bt x 0 := by rw [bt_and e, h0, Bool.and_true]
  rcases ti_and1 e with z | z
  · have q : y = 0 := Int32.toInt_inj.mp z
    rw [q, bt_0] at h1
    rw [← h1, z]
    decide
  · have q : y = 1 := Int32.toInt_inj.mp z
    rw [q, h0] at h1
    rw [← h1, z]
    decide
theorem bit_of {x y z I : Int32} (ex : y = x >>> (I &&& 31)) (ez : z = y &&& 1) (h0 : 0 ≤ I.toInt) (h1 : I.toInt ≤ 19) : z.toInt = 1 ↔ bt x I.toInt.toNat = true := by
  rw [bt_and1 ez, bt_shr0 ex h0 h1]
theorem nb {b : Nat} : ((b : Nat) : Int).toNat = b := by omega
set_option maxHeartbeats 4000000 in
set_option maxRecDepth 100000 in
theorem sX2_learn (l : Launch) (dC : Nat → ClassId) (dI : Nat → Nat → Nat) (cy : Nat → ClassId) (h0 : Nat) (f_fromLawn : Nat) (f_fromDitch : Nat) (f_ontoDitch : Nat) (f_fromLawnf : Nat → Int32) (f_fromDitchf : Nat → Int32) (f_ontoDitchf : Nat → Int32) (h1 : Nat) (g_wide : Int32) (g_deep : Int32) (g_count : Int32) (g_sorts : Nat) (g_sortsf : Nat → Int32) (p2 : Int32) (p3 : Int32) (hf_fromLawnf : rb f_fromLawnf 20 0 1048575) (hf_fromDitchf : rb f_fromDitchf 20 0 1048575) (hf_ontoDitchf : rb f_ontoDitchf 20 0 1048575) (hg_wide : 0 ≤ g_wide.toInt ∧ g_wide.toInt ≤ 5) (hg_deep : 0 ≤ g_deep.toInt ∧ g_deep.toInt ≤ 4) (hg_count : 0 ≤ g_count.toInt ∧ g_count.toInt ≤ 20) : ctV l dC dI cy hp yX2_learn cX2_learn 9 ({ frames := 1, cells := 0, slots := 0, locals := 23 } : Room) [.ref h0, .ref h1, .int p2, .int p3] [(h0, .inr (2, [.ref f_fromLawn, .ref f_fromDitch, .ref f_ontoDitch])), (f_fromLawn, .inl (cy 1, 20, .inl f_fromLawnf)), (f_fromDitch, .inl (cy 1, 20, .inl f_fromDitchf)), (f_ontoDitch, .inl (cy 1, 20, .inl f_ontoDitchf)), (h1, .inr (4, [.int g_wide, .int g_deep, .int g_count, .ref g_sorts])), (g_sorts, .inl (cy 1, 20, .inl g_sortsf))] (S := (Nat → Int32) × (Nat → Int32) × (Nat → Int32)) (fun u => (rb u.1 20 0 1048575) ∧ (rb u.2.1 20 0 1048575) ∧ (rb u.2.2 20 0 1048575)) (fun u => [(h0, .inr (2, [.ref f_fromLawn, .ref f_fromDitch, .ref f_ontoDitch])), (f_fromLawn, .inl (cy 1, 20, .inl u.1)), (f_fromDitch, .inl (cy 1, 20, .inl u.2.1)), (f_ontoDitch, .inl (cy 1, 20, .inl u.2.2)), (h1, .inr (4, [.int g_wide, .int g_deep, .int g_count, .ref g_sorts])), (g_sorts, .inl (cy 1, 20, .inl g_sortsf))]) := by
  refine ctV.of (by decide +kernel) (Nat.le_of_ble_eq_true rfl) ?_
  intro p e s m args below meth c A ls Q hQ X hr hlocks hin hA hP hD hS hl
  have hx := X.1
  have hb := X.2.1
  have hK := X.2.2.2.2.2.1
  have hl : lv_has ls 9 [(0, .ref h0), (1, .ref h1), (2, .int p2), (3, .int p3)] := hl
  have dy_1 := ti_bd p2
  have dy_2 := ti_bd p3
  refine lv_iconst (v := 0) hx hb dX2_learn_0 (by decide) ?_
  refine lv_istore (lv' := [(4, .int 0), (0, .ref h0), (1, .ref h1), (2, .int p2), (3, .int p3)]) hx hb dX2_learn_1 hl (by decide) rfl (fun ls hl => ?_)
  have lp_3 : ∀ (nlp_3 : Nat) (i_4 : Int32) (f_6 : Nat → Int32) (f_8 : Nat → Int32) (f_10 : Nat → Int32) (H : Heap) (locs : List Loc) (ls : Array Slot), (0 ≤ i_4.toInt ∧ i_4.toInt ≤ 20) → (rb f_6 20 0 1048575) → (rb f_8 20 0 1048575) → (rb f_10 20 0 1048575) → (21 - i_4.toInt ≤ (nlp_3 : Int)) → va_P (dC, dI) vwCl [(h0, .inr (2, [.ref f_fromLawn, .ref f_fromDitch, .ref f_ontoDitch])), (f_fromLawn, .inl (cy 1, 20, .inl f_6)), (f_fromDitch, .inl (cy 1, 20, .inl f_8)), (f_ontoDitch, .inl (cy 1, 20, .inl f_10)), (h1, .inr (4, [.int g_wide, .int g_deep, .int g_count, .ref g_sorts])), (g_sorts, .inl (cy 1, 20, .inl g_sortsf))] H → va_D A [(h0, .inr (2, [.ref f_fromLawn, .ref f_fromDitch, .ref f_ontoDitch])), (f_fromLawn, .inl (cy 1, 20, .inl f_6)), (f_fromDitch, .inl (cy 1, 20, .inl f_8)), (f_ontoDitch, .inl (cy 1, 20, .inl f_10)), (h1, .inr (4, [.int g_wide, .int g_deep, .int g_count, .ref g_sorts])), (g_sorts, .inl (cy 1, 20, .inl g_sortsf))] → va_S A s.heap H locs → lv_has ls 9 [(4, .int i_4), (0, .ref h0), (1, .ref h1), (2, .int p2), (3, .int p3)] → W p l e ({ frames := 1, cells := 0, slots := 0, locals := 23 } : Room) s m args below meth c H locs 0 0 Q (F0 m 3 ls []) := by
    intro nlp_3
    induction nlp_3 with
    | zero =>
      intro i_4 f_6 f_8 f_10 H locs ls b_5 b_7 b_9 b_11 hmlp_3 hP hD hS hl
      exfalso
      have di_4 := ti_bd i_4
      omega
    | succ nlp_3 ihlp_3 =>
      intro i_4 f_6 f_8 f_10 H locs ls b_5 b_7 b_9 b_11 hmlp_3 hP hD hS hl
      refine lv_iload hx hb dX2_learn_3 (lv_at hl 0 rfl) ?_
      refine lv_aload_n hx hb dX2_learn_5 rfl (lv_at hl 2 rfl) ?_
      refine r_get X kcX4 (ci := 4) rfl hP 4 rfl 2 (by decide) fX2_21 rfl dX2_learn_6 ?_
      refine lv_icmp_ge (tgt := 166) hx hb dX2_learn_9 (by decide) (fun h_12 => ?_) (fun h_12 => ?_)
      · have h_12 : g_count.toInt ≤ i_4.toInt := c_le h_12
        exact eV hQ X hr hlocks hP hD hS (f_6, f_8, f_10) [0, 1, 2, 3, 4, 5] (by decide) rfl (show (rb f_6 20 0 1048575) ∧ (rb f_8 20 0 1048575) ∧ (rb f_10 20 0 1048575) from ⟨b_7, b_9, b_11⟩) (Nat.le_of_ble_eq_true rfl) (Nat.le_of_ble_eq_true rfl) dX2_learn_166
      · have h_12 : i_4.toInt < g_count.toInt := c_nle h_12
        refine lv_aload_n hx hb dX2_learn_12 rfl (lv_at hl 1 rfl) ?_
        refine r_get X kcX2 (ci := 2) rfl hP 0 rfl 0 (by decide) fX2_9 rfl dX2_learn_13 ?_
        refine lv_iload hx hb dX2_learn_16 (lv_at hl 0 rfl) ?_
        refine lv_iconst (v := 0) hx hb dX2_learn_18 (by decide) ?_
        refine va_iast (D := (dC, dI)) (cl := vwCl) hx hb hK hP hD hS 1 1 rfl rfl (i := i_4) (vin (by omega) (by omega)) dX2_learn_19 (fun H locs hP hD hS => ?_)
        generalize ef_13 : upd f_6 (Int32.toNatClampNeg i_4) 0 = f_13 at hP hD
        have bf_13 : rb f_13 20 0 1048575 := by rw [← ef_13]; exact rb_upd b_7 (by decide) (by decide)
        have hPD := vPD (ws' := [(h0, .inr (2, [.ref f_fromLawn, .ref f_fromDitch, .ref f_ontoDitch])), (f_fromLawn, .inl (cy 1, 20, .inl f_13)), (f_fromDitch, .inl (cy 1, 20, .inl f_8)), (f_ontoDitch, .inl (cy 1, 20, .inl f_10)), (h1, .inr (4, [.int g_wide, .int g_deep, .int g_count, .ref g_sorts])), (g_sorts, .inl (cy 1, 20, .inl g_sortsf))]) hP hD rfl
        have hP := hPD.1
        have hD := hPD.2
        refine lv_aload_n hx hb dX2_learn_20 rfl (lv_at hl 1 rfl) ?_
        refine r_get X kcX2 (ci := 2) rfl hP 0 rfl 1 (by decide) fX2_15 rfl dX2_learn_21 ?_
        refine lv_iload hx hb dX2_learn_24 (lv_at hl 0 rfl) ?_
        refine lv_iconst (v := 0) hx hb dX2_learn_26 (by decide) ?_
        refine va_iast (D := (dC, dI)) (cl := vwCl) hx hb hK hP hD hS 2 1 rfl rfl (i := i_4) (vin (by omega) (by omega)) dX2_learn_27 (fun H locs hP hD hS => ?_)
        generalize ef_14 : upd f_8 (Int32.toNatClampNeg i_4) 0 = f_14 at hP hD
        have bf_14 : rb f_14 20 0 1048575 := by rw [← ef_14]; exact rb_upd b_9 (by decide) (by decide)
        have hPD := vPD (ws' := [(h0, .inr (2, [.ref f_fromLawn, .ref f_fromDitch, .ref f_ontoDitch])), (f_fromLawn, .inl (cy 1, 20, .inl f_13)), (f_fromDitch, .inl (cy 1, 20, .inl f_14)), (f_ontoDitch, .inl (cy 1, 20, .inl f_10)), (h1, .inr (4, [.int g_wide, .int g_deep, .int g_count, .ref g_sorts])), (g_sorts, .inl (cy 1, 20, .inl g_sortsf))]) hP hD rfl
        have hP := hPD.1
        have hD := hPD.2
        refine lv_aload_n hx hb dX2_learn_28 rfl (lv_at hl 1 rfl) ?_
        refine r_get X kcX2 (ci := 2) rfl hP 0 rfl 2 (by decide) fX2_18 rfl dX2_learn_29 ?_
        refine lv_iload hx hb dX2_learn_32 (lv_at hl 0 rfl) ?_
        refine lv_iconst (v := 0) hx hb dX2_learn_34 (by decide) ?_
        refine va_iast (D := (dC, dI)) (cl := vwCl) hx hb hK hP hD hS 3 1 rfl rfl (i := i_4) (vin (by omega) (by omega)) dX2_learn_35 (fun H locs hP hD hS => ?_)
        generalize ef_15 : upd f_10 (Int32.toNatClampNeg i_4) 0 = f_15 at hP hD
        have bf_15 : rb f_15 20 0 1048575 := by rw [← ef_15]; exact rb_upd b_11 (by decide) (by decide)
        have hPD := vPD (ws' := [(h0, .inr (2, [.ref f_fromLawn, .ref f_fromDitch, .ref f_ontoDitch])), (f_fromLawn, .inl (cy 1, 20, .inl f_13)), (f_fromDitch, .inl (cy 1, 20, .inl f_14)), (f_ontoDitch, .inl (cy 1, 20, .inl f_15)), (h1, .inr (4, [.int g_wide, .int g_deep, .int g_count, .ref g_sorts])), (g_sorts, .inl (cy 1, 20, .inl g_sortsf))]) hP hD rfl
        have hP := hPD.1
        have hD := hPD.2
        refine lv_iconst (v := 0) hx hb dX2_learn_36 (by decide) ?_
        refine lv_istore (lv' := [(5, .int 0), (4, .int i_4), (0, .ref h0), (1, .ref h1), (2, .int p2), (3, .int p3)]) hx hb dX2_learn_37 hl (by decide) rfl (fun ls hl => ?_)
        have lp_16 : ∀ (nlp_16 : Nat) (i_17 : Int32) (f_19 : Nat → Int32) (f_21 : Nat → Int32) (f_23 : Nat → Int32) (H : Heap) (locs : List Loc) (ls : Array Slot), (0 ≤ i_17.toInt ∧ i_17.toInt ≤ 4) → (rb f_19 20 0 1048575) → (rb f_21 20 0 1048575) → (rb f_23 20 0 1048575) → (5 - i_17.toInt ≤ (nlp_16 : Int)) → va_P (dC, dI) vwCl [(h0, .inr (2, [.ref f_fromLawn, .ref f_fromDitch, .ref f_ontoDitch])), (f_fromLawn, .inl (cy 1, 20, .inl f_19)), (f_fromDitch, .inl (cy 1, 20, .inl f_21)), (f_ontoDitch, .inl (cy 1, 20, .inl f_23)), (h1, .inr (4, [.int g_wide, .int g_deep, .int g_count, .ref g_sorts])), (g_sorts, .inl (cy 1, 20, .inl g_sortsf))] H → va_D A [(h0, .inr (2, [.ref f_fromLawn, .ref f_fromDitch, .ref f_ontoDitch])), (f_fromLawn, .inl (cy 1, 20, .inl f_19)), (f_fromDitch, .inl (cy 1, 20, .inl f_21)), (f_ontoDitch, .inl (cy 1, 20, .inl f_23)), (h1, .inr (4, [.int g_wide, .int g_deep, .int g_count, .ref g_sorts])), (g_sorts, .inl (cy 1, 20, .inl g_sortsf))] → va_S A s.heap H locs → lv_has ls 9 [(5, .int i_17), (4, .int i_4), (0, .ref h0), (1, .ref h1), (2, .int p2), (3, .int p3)] → W p l e ({ frames := 1, cells := 0, slots := 0, locals := 23 } : Room) s m args below meth c H locs 0 0 Q (F0 m 39 ls []) := by
          intro nlp_16
          induction nlp_16 with
          | zero =>
            intro i_17 f_19 f_21 f_23 H locs ls b_18 b_20 b_22 b_24 hmlp_16 hP hD hS hl
            exfalso
            have di_17 := ti_bd i_17
            omega
          | succ nlp_16 ihlp_16 =>
            intro i_17 f_19 f_21 f_23 H locs ls b_18 b_20 b_22 b_24 hmlp_16 hP hD hS hl
            refine lv_iload hx hb dX2_learn_39 (lv_at hl 0 rfl) ?_
            refine lv_iconst (v := 4) hx hb dX2_learn_41 (by decide) ?_
            refine lv_icmp_ge (tgt := 160) hx hb dX2_learn_42 (by decide) (fun h_25 => ?_) (fun h_25 => ?_)
            · have h_25 : 4 ≤ i_17.toInt := c_le h_25
              obtain ⟨x_26, ex_26⟩ : ∃ y : Int32, y = i_4 + 1 := ⟨_, rfl⟩
              have tx_26 : x_26.toInt = i_4.toInt + 1 := ti_add (A := i_4.toInt) (B := 1) ex_26 rfl rfl (by omega) (by omega)
              refine lv_iinc (v := x_26) (lv' := [(4, .int x_26), (5, .int i_17), (0, .ref h0), (1, .ref h1), (2, .int p2), (3, .int p3)]) hx hb dX2_learn_160 hl (k := 1) rfl (by rw [ex_26]; rfl) (by decide) rfl (fun ls hl => ?_)
              refine lv_goto (tgt := 3) hx hb dX2_learn_163 (by decide) ?_
              exact ihlp_3 x_26 f_19 f_21 f_23 _ _ _ (by omega) b_20 b_22 b_24 (show 21 - x_26.toInt ≤ (nlp_3 : Int) by omega) hP hD hS (lv_sub hl [0, 2, 3, 4, 5] rfl)
            · have h_25 : i_17.toInt < 4 := c_nle h_25
              refine lv_aload_n hx hb dX2_learn_45 rfl (lv_at hl 3 rfl) ?_
              refine lv_iload hx hb dX2_learn_46 (lv_at hl 1 rfl) ?_
              refine lv_iload hx hb dX2_learn_48 (lv_at hl 0 rfl) ?_
              refine sl_Ic (rV_I (As := [.int i_4, .int i_17]) (rest := []) X hp_st (fun _ _ _ h => h) (sX4_target l dC dI cy h1 g_wide g_deep g_count g_sorts g_sortsf i_4 i_17 hg_wide hg_deep hg_count) kX4_target vX4_target mX2_27 hP hD hS hA [4, 5] (by decide) rfl 0 (ci := 4) rfl rfl rfl hl rfl rfl (Nat.le_of_ble_eq_true rfl) dX2_learn_50 ⟨(Nat.le_of_ble_eq_true rfl), (Nat.le_of_ble_eq_true rfl)⟩ ⟨(Nat.le_of_ble_eq_true rfl), (Nat.le_of_ble_eq_true rfl)⟩) hP hD hS hA [4, 5] [true, true, true, true, false, false] rfl rfl rfl (fun r_27 u_29 H locs k_28 hP hD hS => ?_)
              have k_28 : ((-1) ≤ r_27.toInt ∧ r_27.toInt ≤ 19) ∧ (r_27.toInt = (tgZ g_wide.toInt g_count.toInt g_sortsf i_4.toInt i_17.toInt)) ∧ (r_27.toInt = -1 ∨ (0 ≤ r_27.toInt ∧ r_27.toInt < g_count.toInt ∧ 0 ≤ i_4.toInt ∧ i_4.toInt < g_count.toInt)) := k_28
              obtain ⟨k_28_0, k_28_1, k_28_2⟩ := k_28
              have hPD := vPD (ws' := [(h0, .inr (2, [.ref f_fromLawn, .ref f_fromDitch, .ref f_ontoDitch])), (f_fromLawn, .inl (cy 1, 20, .inl f_19)), (f_fromDitch, .inl (cy 1, 20, .inl f_21)), (f_ontoDitch, .inl (cy 1, 20, .inl f_23)), (h1, .inr (4, [.int g_wide, .int g_deep, .int g_count, .ref g_sorts])), (g_sorts, .inl (cy 1, 20, .inl g_sortsf))]) hP hD rfl
              have hP := hPD.1
              have hD := hPD.2
              refine lv_istore (lv' := [(6, .int r_27), (5, .int i_17), (4, .int i_4), (0, .ref h0), (1, .ref h1), (2, .int p2), (3, .int p3)]) hx hb dX2_learn_53 hl (by decide) rfl (fun ls hl => ?_)
              refine lv_iload hx hb dX2_learn_55 (lv_at hl 0 rfl) ?_
              refine lv_iconst (v := -1) hx hb dX2_learn_57 (by decide) ?_
              refine lv_icmp_ne (tgt := 65) hx hb dX2_learn_58 (by decide) (fun h_30 => ?_) (fun h_30 => ?_)
              · have h_30 : r_27.toInt ≠ (-1) := c_ne h_30
                refine lv_iconst (v := 1) hx hb dX2_learn_65 (by decide) ?_
                refine lv_iload hx hb dX2_learn_66 (lv_at hl 0 rfl) ?_
                refine lv_ishl hx hb dX2_learn_68 ?_
                refine lv_topi (fun x_31 ex_31 => ?_)
                have tx_31 : 0 ≤ x_31.toInt ∧ x_31.toInt ≤ 1048575 := ti_shl1 ex_31 (by omega) (by omega)
                refine lv_istore (lv' := [(7, .int x_31), (6, .int r_27), (5, .int i_17), (4, .int i_4), (0, .ref h0), (1, .ref h1), (2, .int p2), (3, .int p3)]) hx hb dX2_learn_69 hl (by decide) rfl (fun ls hl => ?_)
                refine lv_aload_n hx hb dX2_learn_71 rfl (lv_at hl 4 rfl) ?_
                refine r_get X kcX2 (ci := 2) rfl hP 0 rfl 0 (by decide) fX2_9 rfl dX2_learn_72 ?_
                refine lv_iload hx hb dX2_learn_75 (lv_at hl 3 rfl) ?_
                refine lv_dup2_11 hx hb dX2_learn_77 rfl rfl ?_
                refine va_iald (D := (dC, dI)) (cl := vwCl) hx hb hK hP 1 1 rfl rfl (i := i_4) (vin (by omega) (by omega)) dX2_learn_78 ?_
                refine lv_topi (fun x_32 ex_32 => ?_)
                have bx_32 : 0 ≤ x_32.toInt ∧ x_32.toInt ≤ 1048575 := rb_at b_20 ex_32 (by omega) (by omega)
                refine lv_iload hx hb dX2_learn_79 (lv_at hl 0 rfl) ?_
                refine lv_ior hx hb dX2_learn_81 ?_
                refine lv_topi (fun x_33 ex_33 => ?_)
                have tx_33 : 0 ≤ x_33.toInt ∧ x_33.toInt ≤ 1048575 := ti_or20 ex_33 (by omega) (by omega) (by omega) (by omega)
                refine va_iast (D := (dC, dI)) (cl := vwCl) hx hb hK hP hD hS 1 1 rfl rfl (i := i_4) (vin (by omega) (by omega)) dX2_learn_82 (fun H locs hP hD hS => ?_)
                generalize ef_34 : upd f_19 (Int32.toNatClampNeg i_4) x_33 = f_34 at hP hD
                have bf_34 : rb f_34 20 0 1048575 := by rw [← ef_34]; exact rb_upd b_20 (by omega) (by omega)
                have hPD := vPD (ws' := [(h0, .inr (2, [.ref f_fromLawn, .ref f_fromDitch, .ref f_ontoDitch])), (f_fromLawn, .inl (cy 1, 20, .inl f_34)), (f_fromDitch, .inl (cy 1, 20, .inl f_21)), (f_ontoDitch, .inl (cy 1, 20, .inl f_23)), (h1, .inr (4, [.int g_wide, .int g_deep, .int g_count, .ref g_sorts])), (g_sorts, .inl (cy 1, 20, .inl g_sortsf))]) hP hD rfl
                have hP := hPD.1
                have hD := hPD.2
                refine lv_iload_n hx hb dX2_learn_83 rfl (lv_at hl 6 rfl) ?_
                refine lv_iload hx hb dX2_learn_84 (lv_at hl 2 rfl) ?_
                refine sl_Ic (rS_I (As := [.int p2, .int i_17]) (rest := []) X hp_st (fun _ _ _ h => h) (sX4_timeOutOfDitch l dC dI cy p2 i_17) kX4_timeOutOfDitch w_835 mX2_31 hP hD hS hA [] (by decide) rfl hl rfl rfl (Nat.le_of_ble_eq_true rfl) dX2_learn_86 ⟨(Nat.le_of_ble_eq_true rfl), (Nat.le_of_ble_eq_true rfl)⟩ ⟨(Nat.le_of_ble_eq_true rfl), (Nat.le_of_ble_eq_true rfl)⟩) hP hD hS hA [] [true, true, true, true, true, true] rfl rfl rfl (fun r_35 u_37 H locs k_36 hP hD hS => ?_)
                have k_36 : ((-2) ≤ r_35.toInt ∧ r_35.toInt ≤ 4) ∧ (r_35.toInt = oU p2.toInt i_17.toInt) := k_36
                obtain ⟨k_36_0, k_36_1⟩ := k_36
                have hPD := vPD (ws' := [(h0, .inr (2, [.ref f_fromLawn, .ref f_fromDitch, .ref f_ontoDitch])), (f_fromLawn, .inl (cy 1, 20, .inl f_34)), (f_fromDitch, .inl (cy 1, 20, .inl f_21)), (f_ontoDitch, .inl (cy 1, 20, .inl f_23)), (h1, .inr (4, [.int g_wide, .int g_deep, .int g_count, .ref g_sorts])), (g_sorts, .inl (cy 1, 20, .inl g_sortsf))]) hP hD rfl
                have hP := hPD.1
                have hD := hPD.2
                refine lv_bipush (v := -2) hx hb dX2_learn_89 (by decide) ?_
                refine lv_icmp_eq (tgt := 106) hx hb dX2_learn_91 (by decide) (fun h_38 => ?_) (fun h_38 => ?_)
                · have h_38 : r_35.toInt = (-2) := c_eq h_38
                  refine lv_iload_n hx hb dX2_learn_106 rfl (lv_at hl 7 rfl) ?_
                  refine lv_if_ne (tgt := 119) hx hb dX2_learn_107 (by decide) (fun h_39 => ?_) (fun h_39 => ?_)
                  · have h_39 : p3.toInt ≠ 0 := c_ne h_39
                    refine lv_iconst (v := 1) hx hb dX2_learn_119 (by decide) ?_
                    refine lv_goto (tgt := 124) hx hb dX2_learn_120 (by decide) ?_
                    refine lv_istore (lv' := [(8, .int 1), (7, .int x_31), (6, .int r_27), (5, .int i_17), (4, .int i_4), (0, .ref h0), (1, .ref h1), (2, .int p2), (3, .int p3)]) hx hb dX2_learn_124 hl (by decide) rfl (fun ls hl => ?_)
                    refine lv_iload hx hb dX2_learn_126 (lv_at hl 0 rfl) ?_
                    refine lv_if_eq (tgt := 154) hx hb dX2_learn_128 (by decide) (fun h_40 => absurd h_40 (by decide)) (fun _ => ?_)
                    refine lv_iload_n hx hb dX2_learn_131 rfl (lv_at hl 7 rfl) ?_
                    refine lv_iload hx hb dX2_learn_132 (lv_at hl 3 rfl) ?_
                    refine sl_Ic (rS_I (As := [.int p2, .int i_17]) (rest := []) X hp_st (fun _ _ _ h => h) (sX4_timeOntoDitch l dC dI cy p2 i_17) kX4_timeOntoDitch w_832 mX2_38 hP hD hS hA [] (by decide) rfl hl rfl rfl (Nat.le_of_ble_eq_true rfl) dX2_learn_134 ⟨(Nat.le_of_ble_eq_true rfl), (Nat.le_of_ble_eq_true rfl)⟩ ⟨(Nat.le_of_ble_eq_true rfl), (Nat.le_of_ble_eq_true rfl)⟩) hP hD hS hA [] [true, true, true, true, true, true] rfl rfl rfl (fun r_41 u_43 H locs k_42 hP hD hS => ?_)
                    have k_42 : ((-2) ≤ r_41.toInt ∧ r_41.toInt ≤ 4) ∧ (r_41.toInt = oD p2.toInt i_17.toInt) := k_42
                    obtain ⟨k_42_0, k_42_1⟩ := k_42
                    have hPD := vPD (ws' := [(h0, .inr (2, [.ref f_fromLawn, .ref f_fromDitch, .ref f_ontoDitch])), (f_fromLawn, .inl (cy 1, 20, .inl f_34)), (f_fromDitch, .inl (cy 1, 20, .inl f_21)), (f_ontoDitch, .inl (cy 1, 20, .inl f_23)), (h1, .inr (4, [.int g_wide, .int g_deep, .int g_count, .ref g_sorts])), (g_sorts, .inl (cy 1, 20, .inl g_sortsf))]) hP hD rfl
                    have hP := hPD.1
                    have hD := hPD.2
                    refine lv_bipush (v := -2) hx hb dX2_learn_137 (by decide) ?_
                    refine lv_icmp_eq (tgt := 154) hx hb dX2_learn_139 (by decide) (fun h_44 => ?_) (fun h_44 => ?_)
                    · have h_44 : r_41.toInt = (-2) := c_eq h_44
                      obtain ⟨x_45, ex_45⟩ : ∃ y : Int32, y = i_17 + 1 := ⟨_, rfl⟩
                      have tx_45 : x_45.toInt = i_17.toInt + 1 := ti_add (A := i_17.toInt) (B := 1) ex_45 rfl rfl (by omega) (by omega)
                      refine lv_iinc (v := x_45) (lv' := [(5, .int x_45), (8, .int 1), (7, .int x_31), (6, .int r_27), (4, .int i_4), (0, .ref h0), (1, .ref h1), (2, .int p2), (3, .int p3)]) hx hb dX2_learn_154 hl (k := 3) rfl (by rw [ex_45]; rfl) (by decide) rfl (fun ls hl => ?_)
                      refine lv_goto (tgt := 39) hx hb dX2_learn_157 (by decide) ?_
                      exact ihlp_16 x_45 f_34 f_21 f_23 _ _ _ (by omega) bf_34 b_22 b_24 (show 5 - x_45.toInt ≤ (nlp_16 : Int) by omega) hP hD hS (lv_sub hl [0, 4, 5, 6, 7, 8] rfl)
                    · have h_44 : r_41.toInt ≠ (-2) := c_ne h_44
                      refine lv_aload_n hx hb dX2_learn_142 rfl (lv_at hl 5 rfl) ?_
                      refine r_get X kcX2 (ci := 2) rfl hP 0 rfl 2 (by decide) fX2_18 rfl dX2_learn_143 ?_
                      refine lv_iload hx hb dX2_learn_146 (lv_at hl 4 rfl) ?_
                      refine lv_dup2_11 hx hb dX2_learn_148 rfl rfl ?_
                      refine va_iald (D := (dC, dI)) (cl := vwCl) hx hb hK hP 3 1 rfl rfl (i := i_4) (vin (by omega) (by omega)) dX2_learn_149 ?_
                      refine lv_topi (fun x_46 ex_46 => ?_)
                      have bx_46 : 0 ≤ x_46.toInt ∧ x_46.toInt ≤ 1048575 := rb_at b_24 ex_46 (by omega) (by omega)
                      refine lv_iload hx hb dX2_learn_150 (lv_at hl 1 rfl) ?_
                      refine lv_ior hx hb dX2_learn_152 ?_
                      refine lv_topi (fun x_47 ex_47 => ?_)
                      have tx_47 : 0 ≤ x_47.toInt ∧ x_47.toInt ≤ 1048575 := ti_or20 ex_47 (by omega) (by omega) (by omega) (by omega)
                      refine va_iast (D := (dC, dI)) (cl := vwCl) hx hb hK hP hD hS 3 1 rfl rfl (i := i_4) (vin (by omega) (by omega)) dX2_learn_153 (fun H locs hP hD hS => ?_)
                      generalize ef_48 : upd f_23 (Int32.toNatClampNeg i_4) x_47 = f_48 at hP hD
                      have bf_48 : rb f_48 20 0 1048575 := by rw [← ef_48]; exact rb_upd b_24 (by omega) (by omega)
                      have hPD := vPD (ws' := [(h0, .inr (2, [.ref f_fromLawn, .ref f_fromDitch, .ref f_ontoDitch])), (f_fromLawn, .inl (cy 1, 20, .inl f_34)), (f_fromDitch, .inl (cy 1, 20, .inl f_21)), (f_ontoDitch, .inl (cy 1, 20, .inl f_48)), (h1, .inr (4, [.int g_wide, .int g_deep, .int g_count, .ref g_sorts])), (g_sorts, .inl (cy 1, 20, .inl g_sortsf))]) hP hD rfl
                      have hP := hPD.1
                      have hD := hPD.2
                      obtain ⟨x_49, ex_49⟩ : ∃ y : Int32, y = i_17 + 1 := ⟨_, rfl⟩
                      have tx_49 : x_49.toInt = i_17.toInt + 1 := ti_add (A := i_17.toInt) (B := 1) ex_49 rfl rfl (by omega) (by omega)
                      refine lv_iinc (v := x_49) (lv' := [(5, .int x_49), (8, .int 1), (7, .int x_31), (6, .int r_27), (4, .int i_4), (0, .ref h0), (1, .ref h1), (2, .int p2), (3, .int p3)]) hx hb dX2_learn_154 hl (k := 3) rfl (by rw [ex_49]; rfl) (by decide) rfl (fun ls hl => ?_)
                      refine lv_goto (tgt := 39) hx hb dX2_learn_157 (by decide) ?_
                      exact ihlp_16 x_49 f_34 f_21 f_48 _ _ _ (by omega) bf_34 b_22 bf_48 (show 5 - x_49.toInt ≤ (nlp_16 : Int) by omega) hP hD hS (lv_sub hl [0, 4, 5, 6, 7, 8] rfl)
                  · have h_39 : p3.toInt = 0 := c_eq h_39
                    refine lv_iload_n hx hb dX2_learn_110 rfl (lv_at hl 6 rfl) ?_
                    refine lv_iload hx hb dX2_learn_111 (lv_at hl 2 rfl) ?_
                    refine sl_Ic (rS_I (As := [.int p2, .int i_17]) (rest := []) X hp_st (fun _ _ _ h => h) (sX4_isFallOntoDitch l dC dI cy p2 i_17) kX4_isFallOntoDitch w_846 mX2_34 hP hD hS hA [] (by decide) rfl hl rfl rfl (Nat.le_of_ble_eq_true rfl) dX2_learn_113 ⟨(Nat.le_of_ble_eq_true rfl), (Nat.le_of_ble_eq_true rfl)⟩ ⟨(Nat.le_of_ble_eq_true rfl), (Nat.le_of_ble_eq_true rfl)⟩) hP hD hS hA [] [true, true, true, true, true, true] rfl rfl rfl (fun r_50 u_52 H locs k_51 hP hD hS => ?_)
                    have k_51 : (0 ≤ r_50.toInt ∧ r_50.toInt ≤ 1) ∧ ((r_50.toInt = 1 ∧ p2.toInt = 0 ∧ i_17.toInt = 2) ∨ (r_50.toInt = 0 ∧ (p2.toInt ≠ 0 ∨ i_17.toInt ≠ 2))) := k_51
                    obtain ⟨k_51_0, k_51_1⟩ := k_51
                    have hPD := vPD (ws' := [(h0, .inr (2, [.ref f_fromLawn, .ref f_fromDitch, .ref f_ontoDitch])), (f_fromLawn, .inl (cy 1, 20, .inl f_34)), (f_fromDitch, .inl (cy 1, 20, .inl f_21)), (f_ontoDitch, .inl (cy 1, 20, .inl f_23)), (h1, .inr (4, [.int g_wide, .int g_deep, .int g_count, .ref g_sorts])), (g_sorts, .inl (cy 1, 20, .inl g_sortsf))]) hP hD rfl
                    have hP := hPD.1
                    have hD := hPD.2
                    refine lv_if_ne (tgt := 123) hx hb dX2_learn_116 (by decide) (fun h_53 => ?_) (fun h_53 => ?_)
                    · have h_53 : r_50.toInt ≠ 0 := c_ne h_53
                      refine lv_iconst (v := 0) hx hb dX2_learn_123 (by decide) ?_
                      refine lv_istore (lv' := [(8, .int 0), (7, .int x_31), (6, .int r_27), (5, .int i_17), (4, .int i_4), (0, .ref h0), (1, .ref h1), (2, .int p2), (3, .int p3)]) hx hb dX2_learn_124 hl (by decide) rfl (fun ls hl => ?_)
                      refine lv_iload hx hb dX2_learn_126 (lv_at hl 0 rfl) ?_
                      refine lv_if_eq (tgt := 154) hx hb dX2_learn_128 (by decide) (fun _ => ?_) (fun h_54 => absurd (by decide) h_54)
                      obtain ⟨x_55, ex_55⟩ : ∃ y : Int32, y = i_17 + 1 := ⟨_, rfl⟩
                      have tx_55 : x_55.toInt = i_17.toInt + 1 := ti_add (A := i_17.toInt) (B := 1) ex_55 rfl rfl (by omega) (by omega)
                      refine lv_iinc (v := x_55) (lv' := [(5, .int x_55), (8, .int 0), (7, .int x_31), (6, .int r_27), (4, .int i_4), (0, .ref h0), (1, .ref h1), (2, .int p2), (3, .int p3)]) hx hb dX2_learn_154 hl (k := 3) rfl (by rw [ex_55]; rfl) (by decide) rfl (fun ls hl => ?_)
                      refine lv_goto (tgt := 39) hx hb dX2_learn_157 (by decide) ?_
                      exact ihlp_16 x_55 f_34 f_21 f_23 _ _ _ (by omega) bf_34 b_22 b_24 (show 5 - x_55.toInt ≤ (nlp_16 : Int) by omega) hP hD hS (lv_sub hl [0, 4, 5, 6, 7, 8] rfl)
                    · have h_53 : r_50.toInt = 0 := c_eq h_53
                      refine lv_iconst (v := 1) hx hb dX2_learn_119 (by decide) ?_
                      refine lv_goto (tgt := 124) hx hb dX2_learn_120 (by decide) ?_
                      refine lv_istore (lv' := [(8, .int 1), (7, .int x_31), (6, .int r_27), (5, .int i_17), (4, .int i_4), (0, .ref h0), (1, .ref h1), (2, .int p2), (3, .int p3)]) hx hb dX2_learn_124 hl (by decide) rfl (fun ls hl => ?_)
                      refine lv_iload hx hb dX2_learn_126 (lv_at hl 0 rfl) ?_
                      refine lv_if_eq (tgt := 154) hx hb dX2_learn_128 (by decide) (fun h_56 => absurd h_56 (by decide)) (fun _ => ?_)
                      refine lv_iload_n hx hb dX2_learn_131 rfl (lv_at hl 7 rfl) ?_
                      refine lv_iload hx hb dX2_learn_132 (lv_at hl 3 rfl) ?_
                      refine sl_Ic (rS_I (As := [.int p2, .int i_17]) (rest := []) X hp_st (fun _ _ _ h => h) (sX4_timeOntoDitch l dC dI cy p2 i_17) kX4_timeOntoDitch w_832 mX2_38 hP hD hS hA [] (by decide) rfl hl rfl rfl (Nat.le_of_ble_eq_true rfl) dX2_learn_134 ⟨(Nat.le_of_ble_eq_true rfl), (Nat.le_of_ble_eq_true rfl)⟩ ⟨(Nat.le_of_ble_eq_true rfl), (Nat.le_of_ble_eq_true rfl)⟩) hP hD hS hA [] [true, true, true, true, true, true] rfl rfl rfl (fun r_57 u_59 H locs k_58 hP hD hS => ?_)
                      have k_58 : ((-2) ≤ r_57.toInt ∧ r_57.toInt ≤ 4) ∧ (r_57.toInt = oD p2.toInt i_17.toInt) := k_58
                      obtain ⟨k_58_0, k_58_1⟩ := k_58
                      have hPD := vPD (ws' := [(h0, .inr (2, [.ref f_fromLawn, .ref f_fromDitch, .ref f_ontoDitch])), (f_fromLawn, .inl (cy 1, 20, .inl f_34)), (f_fromDitch, .inl (cy 1, 20, .inl f_21)), (f_ontoDitch, .inl (cy 1, 20, .inl f_23)), (h1, .inr (4, [.int g_wide, .int g_deep, .int g_count, .ref g_sorts])), (g_sorts, .inl (cy 1, 20, .inl g_sortsf))]) hP hD rfl
                      have hP := hPD.1
                      have hD := hPD.2
                      refine lv_bipush (v := -2) hx hb dX2_learn_137 (by decide) ?_
                      refine lv_icmp_eq (tgt := 154) hx hb dX2_learn_139 (by decide) (fun h_60 => ?_) (fun h_60 => ?_)
                      · have h_60 : r_57.toInt = (-2) := c_eq h_60
                        obtain ⟨x_61, ex_61⟩ : ∃ y : Int32, y = i_17 + 1 := ⟨_, rfl⟩
                        have tx_61 : x_61.toInt = i_17.toInt + 1 := ti_add (A := i_17.toInt) (B := 1) ex_61 rfl rfl (by omega) (by omega)
                        refine lv_iinc (v := x_61) (lv' := [(5, .int x_61), (8, .int 1), (7, .int x_31), (6, .int r_27), (4, .int i_4), (0, .ref h0), (1, .ref h1), (2, .int p2), (3, .int p3)]) hx hb dX2_learn_154 hl (k := 3) rfl (by rw [ex_61]; rfl) (by decide) rfl (fun ls hl => ?_)
                        refine lv_goto (tgt := 39) hx hb dX2_learn_157 (by decide) ?_
                        exact ihlp_16 x_61 f_34 f_21 f_23 _ _ _ (by omega) bf_34 b_22 b_24 (show 5 - x_61.toInt ≤ (nlp_16 : Int) by omega) hP hD hS (lv_sub hl [0, 4, 5, 6, 7, 8] rfl)
                      · have h_60 : r_57.toInt ≠ (-2) := c_ne h_60
                        refine lv_aload_n hx hb dX2_learn_142 rfl (lv_at hl 5 rfl) ?_
                        refine r_get X kcX2 (ci := 2) rfl hP 0 rfl 2 (by decide) fX2_18 rfl dX2_learn_143 ?_
                        refine lv_iload hx hb dX2_learn_146 (lv_at hl 4 rfl) ?_
                        refine lv_dup2_11 hx hb dX2_learn_148 rfl rfl ?_
                        refine va_iald (D := (dC, dI)) (cl := vwCl) hx hb hK hP 3 1 rfl rfl (i := i_4) (vin (by omega) (by omega)) dX2_learn_149 ?_
                        refine lv_topi (fun x_62 ex_62 => ?_)
                        have bx_62 : 0 ≤ x_62.toInt ∧ x_62.toInt ≤ 1048575 := rb_at b_24 ex_62 (by omega) (by omega)
                        refine lv_iload hx hb dX2_learn_150 (lv_at hl 1 rfl) ?_
                        refine lv_ior hx hb dX2_learn_152 ?_
                        refine lv_topi (fun x_63 ex_63 => ?_)
                        have tx_63 : 0 ≤ x_63.toInt ∧ x_63.toInt ≤ 1048575 := ti_or20 ex_63 (by omega) (by omega) (by omega) (by omega)
                        refine va_iast (D := (dC, dI)) (cl := vwCl) hx hb hK hP hD hS 3 1 rfl rfl (i := i_4) (vin (by omega) (by omega)) dX2_learn_153 (fun H locs hP hD hS => ?_)
                        generalize ef_64 : upd f_23 (Int32.toNatClampNeg i_4) x_63 = f_64 at hP hD
                        have bf_64 : rb f_64 20 0 1048575 := by rw [← ef_64]; exact rb_upd b_24 (by omega) (by omega)
                        have hPD := vPD (ws' := [(h0, .inr (2, [.ref f_fromLawn, .ref f_fromDitch, .ref f_ontoDitch])), (f_fromLawn, .inl (cy 1, 20, .inl f_34)), (f_fromDitch, .inl (cy 1, 20, .inl f_21)), (f_ontoDitch, .inl (cy 1, 20, .inl f_64)), (h1, .inr (4, [.int g_wide, .int g_deep, .int g_count, .ref g_sorts])), (g_sorts, .inl (cy 1, 20, .inl g_sortsf))]) hP hD rfl
                        have hP := hPD.1
                        have hD := hPD.2
                        obtain ⟨x_65, ex_65⟩ : ∃ y : Int32, y = i_17 + 1 := ⟨_, rfl⟩
                        have tx_65 : x_65.toInt = i_17.toInt + 1 := ti_add (A := i_17.toInt) (B := 1) ex_65 rfl rfl (by omega) (by omega)
                        refine lv_iinc (v := x_65) (lv' := [(5, .int x_65), (8, .int 1), (7, .int x_31), (6, .int r_27), (4, .int i_4), (0, .ref h0), (1, .ref h1), (2, .int p2), (3, .int p3)]) hx hb dX2_learn_154 hl (k := 3) rfl (by rw [ex_65]; rfl) (by decide) rfl (fun ls hl => ?_)
                        refine lv_goto (tgt := 39) hx hb dX2_learn_157 (by decide) ?_
                        exact ihlp_16 x_65 f_34 f_21 f_64 _ _ _ (by omega) bf_34 b_22 bf_64 (show 5 - x_65.toInt ≤ (nlp_16 : Int) by omega) hP hD hS (lv_sub hl [0, 4, 5, 6, 7, 8] rfl)
                · have h_38 : r_35.toInt ≠ (-2) := c_ne h_38
                  refine lv_aload_n hx hb dX2_learn_94 rfl (lv_at hl 4 rfl) ?_
                  refine r_get X kcX2 (ci := 2) rfl hP 0 rfl 1 (by decide) fX2_15 rfl dX2_learn_95 ?_
                  refine lv_iload hx hb dX2_learn_98 (lv_at hl 3 rfl) ?_
                  refine lv_dup2_11 hx hb dX2_learn_100 rfl rfl ?_
                  refine va_iald (D := (dC, dI)) (cl := vwCl) hx hb hK hP 2 1 rfl rfl (i := i_4) (vin (by omega) (by omega)) dX2_learn_101 ?_
                  refine lv_topi (fun x_66 ex_66 => ?_)
                  have bx_66 : 0 ≤ x_66.toInt ∧ x_66.toInt ≤ 1048575 := rb_at b_22 ex_66 (by omega) (by omega)
                  refine lv_iload hx hb dX2_learn_102 (lv_at hl 0 rfl) ?_
                  refine lv_ior hx hb dX2_learn_104 ?_
                  refine lv_topi (fun x_67 ex_67 => ?_)
                  have tx_67 : 0 ≤ x_67.toInt ∧ x_67.toInt ≤ 1048575 := ti_or20 ex_67 (by omega) (by omega) (by omega) (by omega)
                  refine va_iast (D := (dC, dI)) (cl := vwCl) hx hb hK hP hD hS 2 1 rfl rfl (i := i_4) (vin (by omega) (by omega)) dX2_learn_105 (fun H locs hP hD hS => ?_)
                  generalize ef_68 : upd f_21 (Int32.toNatClampNeg i_4) x_67 = f_68 at hP hD
                  have bf_68 : rb f_68 20 0 1048575 := by rw [← ef_68]; exact rb_upd b_22 (by omega) (by omega)
                  have hPD := vPD (ws' := [(h0, .inr (2, [.ref f_fromLawn, .ref f_fromDitch, .ref f_ontoDitch])), (f_fromLawn, .inl (cy 1, 20, .inl f_34)), (f_fromDitch, .inl (cy 1, 20, .inl f_68)), (f_ontoDitch, .inl (cy 1, 20, .inl f_23)), (h1, .inr (4, [.int g_wide, .int g_deep, .int g_count, .ref g_sorts])), (g_sorts, .inl (cy 1, 20, .inl g_sortsf))]) hP hD rfl
                  have hP := hPD.1
                  have hD := hPD.2
                  refine lv_iload_n hx hb dX2_learn_106 rfl (lv_at hl 7 rfl) ?_
                  refine lv_if_ne (tgt := 119) hx hb dX2_learn_107 (by decide) (fun h_69 => ?_) (fun h_69 => ?_)
                  · have h_69 : p3.toInt ≠ 0 := c_ne h_69
                    refine lv_iconst (v := 1) hx hb dX2_learn_119 (by decide) ?_
                    refine lv_goto (tgt := 124) hx hb dX2_learn_120 (by decide) ?_
                    refine lv_istore (lv' := [(8, .int 1), (7, .int x_31), (6, .int r_27), (5, .int i_17), (4, .int i_4), (0, .ref h0), (1, .ref h1), (2, .int p2), (3, .int p3)]) hx hb dX2_learn_124 hl (by decide) rfl (fun ls hl => ?_)
                    refine lv_iload hx hb dX2_learn_126 (lv_at hl 0 rfl) ?_
                    refine lv_if_eq (tgt := 154) hx hb dX2_learn_128 (by decide) (fun h_70 => absurd h_70 (by decide)) (fun _ => ?_)
                    refine lv_iload_n hx hb dX2_learn_131 rfl (lv_at hl 7 rfl) ?_
                    refine lv_iload hx hb dX2_learn_132 (lv_at hl 3 rfl) ?_
                    refine sl_Ic (rS_I (As := [.int p2, .int i_17]) (rest := []) X hp_st (fun _ _ _ h => h) (sX4_timeOntoDitch l dC dI cy p2 i_17) kX4_timeOntoDitch w_832 mX2_38 hP hD hS hA [] (by decide) rfl hl rfl rfl (Nat.le_of_ble_eq_true rfl) dX2_learn_134 ⟨(Nat.le_of_ble_eq_true rfl), (Nat.le_of_ble_eq_true rfl)⟩ ⟨(Nat.le_of_ble_eq_true rfl), (Nat.le_of_ble_eq_true rfl)⟩) hP hD hS hA [] [true, true, true, true, true, true] rfl rfl rfl (fun r_71 u_73 H locs k_72 hP hD hS => ?_)
                    have k_72 : ((-2) ≤ r_71.toInt ∧ r_71.toInt ≤ 4) ∧ (r_71.toInt = oD p2.toInt i_17.toInt) := k_72
                    obtain ⟨k_72_0, k_72_1⟩ := k_72
                    have hPD := vPD (ws' := [(h0, .inr (2, [.ref f_fromLawn, .ref f_fromDitch, .ref f_ontoDitch])), (f_fromLawn, .inl (cy 1, 20, .inl f_34)), (f_fromDitch, .inl (cy 1, 20, .inl f_68)), (f_ontoDitch, .inl (cy 1, 20, .inl f_23)), (h1, .inr (4, [.int g_wide, .int g_deep, .int g_count, .ref g_sorts])), (g_sorts, .inl (cy 1, 20, .inl g_sortsf))]) hP hD rfl
                    have hP := hPD.1
                    have hD := hPD.2
                    refine lv_bipush (v := -2) hx hb dX2_learn_137 (by decide) ?_
                    refine lv_icmp_eq (tgt := 154) hx hb dX2_learn_139 (by decide) (fun h_74 => ?_) (fun h_74 => ?_)
                    · have h_74 : r_71.toInt = (-2) := c_eq h_74
                      obtain ⟨x_75, ex_75⟩ : ∃ y : Int32, y = i_17 + 1 := ⟨_, rfl⟩
                      have tx_75 : x_75.toInt = i_17.toInt + 1 := ti_add (A := i_17.toInt) (B := 1) ex_75 rfl rfl (by omega) (by omega)
                      refine lv_iinc (v := x_75) (lv' := [(5, .int x_75), (8, .int 1), (7, .int x_31), (6, .int r_27), (4, .int i_4), (0, .ref h0), (1, .ref h1), (2, .int p2), (3, .int p3)]) hx hb dX2_learn_154 hl (k := 3) rfl (by rw [ex_75]; rfl) (by decide) rfl (fun ls hl => ?_)
                      refine lv_goto (tgt := 39) hx hb dX2_learn_157 (by decide) ?_
                      exact ihlp_16 x_75 f_34 f_68 f_23 _ _ _ (by omega) bf_34 bf_68 b_24 (show 5 - x_75.toInt ≤ (nlp_16 : Int) by omega) hP hD hS (lv_sub hl [0, 4, 5, 6, 7, 8] rfl)
                    · have h_74 : r_71.toInt ≠ (-2) := c_ne h_74
                      refine lv_aload_n hx hb dX2_learn_142 rfl (lv_at hl 5 rfl) ?_
                      refine r_get X kcX2 (ci := 2) rfl hP 0 rfl 2 (by decide) fX2_18 rfl dX2_learn_143 ?_
                      refine lv_iload hx hb dX2_learn_146 (lv_at hl 4 rfl) ?_
                      refine lv_dup2_11 hx hb dX2_learn_148 rfl rfl ?_
                      refine va_iald (D := (dC, dI)) (cl := vwCl) hx hb hK hP 3 1 rfl rfl (i := i_4) (vin (by omega) (by omega)) dX2_learn_149 ?_
                      refine lv_topi (fun x_76 ex_76 => ?_)
                      have bx_76 : 0 ≤ x_76.toInt ∧ x_76.toInt ≤ 1048575 := rb_at b_24 ex_76 (by omega) (by omega)
                      refine lv_iload hx hb dX2_learn_150 (lv_at hl 1 rfl) ?_
                      refine lv_ior hx hb dX2_learn_152 ?_
                      refine lv_topi (fun x_77 ex_77 => ?_)
                      have tx_77 : 0 ≤ x_77.toInt ∧ x_77.toInt ≤ 1048575 := ti_or20 ex_77 (by omega) (by omega) (by omega) (by omega)
                      refine va_iast (D := (dC, dI)) (cl := vwCl) hx hb hK hP hD hS 3 1 rfl rfl (i := i_4) (vin (by omega) (by omega)) dX2_learn_153 (fun H locs hP hD hS => ?_)
                      generalize ef_78 : upd f_23 (Int32.toNatClampNeg i_4) x_77 = f_78 at hP hD
                      have bf_78 : rb f_78 20 0 1048575 := by rw [← ef_78]; exact rb_upd b_24 (by omega) (by omega)
                      have hPD := vPD (ws' := [(h0, .inr (2, [.ref f_fromLawn, .ref f_fromDitch, .ref f_ontoDitch])), (f_fromLawn, .inl (cy 1, 20, .inl f_34)), (f_fromDitch, .inl (cy 1, 20, .inl f_68)), (f_ontoDitch, .inl (cy 1, 20, .inl f_78)), (h1, .inr (4, [.int g_wide, .int g_deep, .int g_count, .ref g_sorts])), (g_sorts, .inl (cy 1, 20, .inl g_sortsf))]) hP hD rfl
                      have hP := hPD.1
                      have hD := hPD.2
                      obtain ⟨x_79, ex_79⟩ : ∃ y : Int32, y = i_17 + 1 := ⟨_, rfl⟩
                      have tx_79 : x_79.toInt = i_17.toInt + 1 := ti_add (A := i_17.toInt) (B := 1) ex_79 rfl rfl (by omega) (by omega)
                      refine lv_iinc (v := x_79) (lv' := [(5, .int x_79), (8, .int 1), (7, .int x_31), (6, .int r_27), (4, .int i_4), (0, .ref h0), (1, .ref h1), (2, .int p2), (3, .int p3)]) hx hb dX2_learn_154 hl (k := 3) rfl (by rw [ex_79]; rfl) (by decide) rfl (fun ls hl => ?_)
                      refine lv_goto (tgt := 39) hx hb dX2_learn_157 (by decide) ?_
                      exact ihlp_16 x_79 f_34 f_68 f_78 _ _ _ (by omega) bf_34 bf_68 bf_78 (show 5 - x_79.toInt ≤ (nlp_16 : Int) by omega) hP hD hS (lv_sub hl [0, 4, 5, 6, 7, 8] rfl)
                  · have h_69 : p3.toInt = 0 := c_eq h_69
                    refine lv_iload_n hx hb dX2_learn_110 rfl (lv_at hl 6 rfl) ?_
                    refine lv_iload hx hb dX2_learn_111 (lv_at hl 2 rfl) ?_
                    refine sl_Ic (rS_I (As := [.int p2, .int i_17]) (rest := []) X hp_st (fun _ _ _ h => h) (sX4_isFallOntoDitch l dC dI cy p2 i_17) kX4_isFallOntoDitch w_846 mX2_34 hP hD hS hA [] (by decide) rfl hl rfl rfl (Nat.le_of_ble_eq_true rfl) dX2_learn_113 ⟨(Nat.le_of_ble_eq_true rfl), (Nat.le_of_ble_eq_true rfl)⟩ ⟨(Nat.le_of_ble_eq_true rfl), (Nat.le_of_ble_eq_true rfl)⟩) hP hD hS hA [] [true, true, true, true, true, true] rfl rfl rfl (fun r_80 u_82 H locs k_81 hP hD hS => ?_)
                    have k_81 : (0 ≤ r_80.toInt ∧ r_80.toInt ≤ 1) ∧ ((r_80.toInt = 1 ∧ p2.toInt = 0 ∧ i_17.toInt = 2) ∨ (r_80.toInt = 0 ∧ (p2.toInt ≠ 0 ∨ i_17.toInt ≠ 2))) := k_81
                    obtain ⟨k_81_0, k_81_1⟩ := k_81
                    have hPD := vPD (ws' := [(h0, .inr (2, [.ref f_fromLawn, .ref f_fromDitch, .ref f_ontoDitch])), (f_fromLawn, .inl (cy 1, 20, .inl f_34)), (f_fromDitch, .inl (cy 1, 20, .inl f_68)), (f_ontoDitch, .inl (cy 1, 20, .inl f_23)), (h1, .inr (4, [.int g_wide, .int g_deep, .int g_count, .ref g_sorts])), (g_sorts, .inl (cy 1, 20, .inl g_sortsf))]) hP hD rfl
                    have hP := hPD.1
                    have hD := hPD.2
                    refine lv_if_ne (tgt := 123) hx hb dX2_learn_116 (by decide) (fun h_83 => ?_) (fun h_83 => ?_)
                    · have h_83 : r_80.toInt ≠ 0 := c_ne h_83
                      refine lv_iconst (v := 0) hx hb dX2_learn_123 (by decide) ?_
                      refine lv_istore (lv' := [(8, .int 0), (7, .int x_31), (6, .int r_27), (5, .int i_17), (4, .int i_4), (0, .ref h0), (1, .ref h1), (2, .int p2), (3, .int p3)]) hx hb dX2_learn_124 hl (by decide) rfl (fun ls hl => ?_)
                      refine lv_iload hx hb dX2_learn_126 (lv_at hl 0 rfl) ?_
                      refine lv_if_eq (tgt := 154) hx hb dX2_learn_128 (by decide) (fun _ => ?_) (fun h_84 => absurd (by decide) h_84)
                      obtain ⟨x_85, ex_85⟩ : ∃ y : Int32, y = i_17 + 1 := ⟨_, rfl⟩
                      have tx_85 : x_85.toInt = i_17.toInt + 1 := ti_add (A := i_17.toInt) (B := 1) ex_85 rfl rfl (by omega) (by omega)
                      refine lv_iinc (v := x_85) (lv' := [(5, .int x_85), (8, .int 0), (7, .int x_31), (6, .int r_27), (4, .int i_4), (0, .ref h0), (1, .ref h1), (2, .int p2), (3, .int p3)]) hx hb dX2_learn_154 hl (k := 3) rfl (by rw [ex_85]; rfl) (by decide) rfl (fun ls hl => ?_)
                      refine lv_goto (tgt := 39) hx hb dX2_learn_157 (by decide) ?_
                      exact ihlp_16 x_85 f_34 f_68 f_23 _ _ _ (by omega) bf_34 bf_68 b_24 (show 5 - x_85.toInt ≤ (nlp_16 : Int) by omega) hP hD hS (lv_sub hl [0, 4, 5, 6, 7, 8] rfl)
                    · have h_83 : r_80.toInt = 0 := c_eq h_83
                      refine lv_iconst (v := 1) hx hb dX2_learn_119 (by decide) ?_
                      refine lv_goto (tgt := 124) hx hb dX2_learn_120 (by decide) ?_
                      refine lv_istore (lv' := [(8, .int 1), (7, .int x_31), (6, .int r_27), (5, .int i_17), (4, .int i_4), (0, .ref h0), (1, .ref h1), (2, .int p2), (3, .int p3)]) hx hb dX2_learn_124 hl (by decide) rfl (fun ls hl => ?_)
                      refine lv_iload hx hb dX2_learn_126 (lv_at hl 0 rfl) ?_
                      refine lv_if_eq (tgt := 154) hx hb dX2_learn_128 (by decide) (fun h_86 => absurd h_86 (by decide)) (fun _ => ?_)
                      refine lv_iload_n hx hb dX2_learn_131 rfl (lv_at hl 7 rfl) ?_
                      refine lv_iload hx hb dX2_learn_132 (lv_at hl 3 rfl) ?_
                      refine sl_Ic (rS_I (As := [.int p2, .int i_17]) (rest := []) X hp_st (fun _ _ _ h => h) (sX4_timeOntoDitch l dC dI cy p2 i_17) kX4_timeOntoDitch w_832 mX2_38 hP hD hS hA [] (by decide) rfl hl rfl rfl (Nat.le_of_ble_eq_true rfl) dX2_learn_134 ⟨(Nat.le_of_ble_eq_true rfl), (Nat.le_of_ble_eq_true rfl)⟩ ⟨(Nat.le_of_ble_eq_true rfl), (Nat.le_of_ble_eq_true rfl)⟩) hP hD hS hA [] [true, true, true, true, true, true] rfl rfl rfl (fun r_87 u_89 H locs k_88 hP hD hS => ?_)
                      have k_88 : ((-2) ≤ r_87.toInt ∧ r_87.toInt ≤ 4) ∧ (r_87.toInt = oD p2.toInt i_17.toInt) := k_88
                      obtain ⟨k_88_0, k_88_1⟩ := k_88
                      have hPD := vPD (ws' := [(h0, .inr (2, [.ref f_fromLawn, .ref f_fromDitch, .ref f_ontoDitch])), (f_fromLawn, .inl (cy 1, 20, .inl f_34)), (f_fromDitch, .inl (cy 1, 20, .inl f_68)), (f_ontoDitch, .inl (cy 1, 20, .inl f_23)), (h1, .inr (4, [.int g_wide, .int g_deep, .int g_count, .ref g_sorts])), (g_sorts, .inl (cy 1, 20, .inl g_sortsf))]) hP hD rfl
                      have hP := hPD.1
                      have hD := hPD.2
                      refine lv_bipush (v := -2) hx hb dX2_learn_137 (by decide) ?_
                      refine lv_icmp_eq (tgt := 154) hx hb dX2_learn_139 (by decide) (fun h_90 => ?_) (fun h_90 => ?_)
                      · have h_90 : r_87.toInt = (-2) := c_eq h_90
                        obtain ⟨x_91, ex_91⟩ : ∃ y : Int32, y = i_17 + 1 := ⟨_, rfl⟩
                        have tx_91 : x_91.toInt = i_17.toInt + 1 := ti_add (A := i_17.toInt) (B := 1) ex_91 rfl rfl (by omega) (by omega)
                        refine lv_iinc (v := x_91) (lv' := [(5, .int x_91), (8, .int 1), (7, .int x_31), (6, .int r_27), (4, .int i_4), (0, .ref h0), (1, .ref h1), (2, .int p2), (3, .int p3)]) hx hb dX2_learn_154 hl (k := 3) rfl (by rw [ex_91]; rfl) (by decide) rfl (fun ls hl => ?_)
                        refine lv_goto (tgt := 39) hx hb dX2_learn_157 (by decide) ?_
                        exact ihlp_16 x_91 f_34 f_68 f_23 _ _ _ (by omega) bf_34 bf_68 b_24 (show 5 - x_91.toInt ≤ (nlp_16 : Int) by omega) hP hD hS (lv_sub hl [0, 4, 5, 6, 7, 8] rfl)
                      · have h_90 : r_87.toInt ≠ (-2) := c_ne h_90
                        refine lv_aload_n hx hb dX2_learn_142 rfl (lv_at hl 5 rfl) ?_
                        refine r_get X kcX2 (ci := 2) rfl hP 0 rfl 2 (by decide) fX2_18 rfl dX2_learn_143 ?_
                        refine lv_iload hx hb dX2_learn_146 (lv_at hl 4 rfl) ?_
                        refine lv_dup2_11 hx hb dX2_learn_148 rfl rfl ?_
                        refine va_iald (D := (dC, dI)) (cl := vwCl) hx hb hK hP 3 1 rfl rfl (i := i_4) (vin (by omega) (by omega)) dX2_learn_149 ?_
                        refine lv_topi (fun x_92 ex_92 => ?_)
                        have bx_92 : 0 ≤ x_92.toInt ∧ x_92.toInt ≤ 1048575 := rb_at b_24 ex_92 (by omega) (by omega)
                        refine lv_iload hx hb dX2_learn_150 (lv_at hl 1 rfl) ?_
                        refine lv_ior hx hb dX2_learn_152 ?_
                        refine lv_topi (fun x_93 ex_93 => ?_)
                        have tx_93 : 0 ≤ x_93.toInt ∧ x_93.toInt ≤ 1048575 := ti_or20 ex_93 (by omega) (by omega) (by omega) (by omega)
                        refine va_iast (D := (dC, dI)) (cl := vwCl) hx hb hK hP hD hS 3 1 rfl rfl (i := i_4) (vin (by omega) (by omega)) dX2_learn_153 (fun H locs hP hD hS => ?_)
                        generalize ef_94 : upd f_23 (Int32.toNatClampNeg i_4) x_93 = f_94 at hP hD
                        have bf_94 : rb f_94 20 0 1048575 := by rw [← ef_94]; exact rb_upd b_24 (by omega) (by omega)
                        have hPD := vPD (ws' := [(h0, .inr (2, [.ref f_fromLawn, .ref f_fromDitch, .ref f_ontoDitch])), (f_fromLawn, .inl (cy 1, 20, .inl f_34)), (f_fromDitch, .inl (cy 1, 20, .inl f_68)), (f_ontoDitch, .inl (cy 1, 20, .inl f_94)), (h1, .inr (4, [.int g_wide, .int g_deep, .int g_count, .ref g_sorts])), (g_sorts, .inl (cy 1, 20, .inl g_sortsf))]) hP hD rfl
                        have hP := hPD.1
                        have hD := hPD.2
                        obtain ⟨x_95, ex_95⟩ : ∃ y : Int32, y = i_17 + 1 := ⟨_, rfl⟩
                        have tx_95 : x_95.toInt = i_17.toInt + 1 := ti_add (A := i_17.toInt) (B := 1) ex_95 rfl rfl (by omega) (by omega)
                        refine lv_iinc (v := x_95) (lv' := [(5, .int x_95), (8, .int 1), (7, .int x_31), (6, .int r_27), (4, .int i_4), (0, .ref h0), (1, .ref h1), (2, .int p2), (3, .int p3)]) hx hb dX2_learn_154 hl (k := 3) rfl (by rw [ex_95]; rfl) (by decide) rfl (fun ls hl => ?_)
                        refine lv_goto (tgt := 39) hx hb dX2_learn_157 (by decide) ?_
                        exact ihlp_16 x_95 f_34 f_68 f_94 _ _ _ (by omega) bf_34 bf_68 bf_94 (show 5 - x_95.toInt ≤ (nlp_16 : Int) by omega) hP hD hS (lv_sub hl [0, 4, 5, 6, 7, 8] rfl)
              · have h_30 : r_27.toInt = (-1) := c_eq h_30
                refine lv_iconst (v := 0) hx hb dX2_learn_61 (by decide) ?_
                refine lv_goto (tgt := 69) hx hb dX2_learn_62 (by decide) ?_
                refine lv_istore (lv' := [(7, .int 0), (6, .int r_27), (5, .int i_17), (4, .int i_4), (0, .ref h0), (1, .ref h1), (2, .int p2), (3, .int p3)]) hx hb dX2_learn_69 hl (by decide) rfl (fun ls hl => ?_)
                refine lv_aload_n hx hb dX2_learn_71 rfl (lv_at hl 4 rfl) ?_
                refine r_get X kcX2 (ci := 2) rfl hP 0 rfl 0 (by decide) fX2_9 rfl dX2_learn_72 ?_
                refine lv_iload hx hb dX2_learn_75 (lv_at hl 3 rfl) ?_
                refine lv_dup2_11 hx hb dX2_learn_77 rfl rfl ?_
                refine va_iald (D := (dC, dI)) (cl := vwCl) hx hb hK hP 1 1 rfl rfl (i := i_4) (vin (by omega) (by omega)) dX2_learn_78 ?_
                refine lv_topi (fun x_96 ex_96 => ?_)
                have bx_96 : 0 ≤ x_96.toInt ∧ x_96.toInt ≤ 1048575 := rb_at b_20 ex_96 (by omega) (by omega)
                refine lv_iload hx hb dX2_learn_79 (lv_at hl 0 rfl) ?_
                refine lv_ior hx hb dX2_learn_81 ?_
                refine lv_topi (fun x_97 ex_97 => ?_)
                have tx_97 : 0 ≤ x_97.toInt ∧ x_97.toInt ≤ 1048575 := ti_or20 ex_97 (by omega) (by omega) (by decide) (by decide)
                refine va_iast (D := (dC, dI)) (cl := vwCl) hx hb hK hP hD hS 1 1 rfl rfl (i := i_4) (vin (by omega) (by omega)) dX2_learn_82 (fun H locs hP hD hS => ?_)
                generalize ef_98 : upd f_19 (Int32.toNatClampNeg i_4) x_97 = f_98 at hP hD
                have bf_98 : rb f_98 20 0 1048575 := by rw [← ef_98]; exact rb_upd b_20 (by omega) (by omega)
                have hPD := vPD (ws' := [(h0, .inr (2, [.ref f_fromLawn, .ref f_fromDitch, .ref f_ontoDitch])), (f_fromLawn, .inl (cy 1, 20, .inl f_98)), (f_fromDitch, .inl (cy 1, 20, .inl f_21)), (f_ontoDitch, .inl (cy 1, 20, .inl f_23)), (h1, .inr (4, [.int g_wide, .int g_deep, .int g_count, .ref g_sorts])), (g_sorts, .inl (cy 1, 20, .inl g_sortsf))]) hP hD rfl
                have hP := hPD.1
                have hD := hPD.2
                refine lv_iload_n hx hb dX2_learn_83 rfl (lv_at hl 6 rfl) ?_
                refine lv_iload hx hb dX2_learn_84 (lv_at hl 2 rfl) ?_
                refine sl_Ic (rS_I (As := [.int p2, .int i_17]) (rest := []) X hp_st (fun _ _ _ h => h) (sX4_timeOutOfDitch l dC dI cy p2 i_17) kX4_timeOutOfDitch w_835 mX2_31 hP hD hS hA [] (by decide) rfl hl rfl rfl (Nat.le_of_ble_eq_true rfl) dX2_learn_86 ⟨(Nat.le_of_ble_eq_true rfl), (Nat.le_of_ble_eq_true rfl)⟩ ⟨(Nat.le_of_ble_eq_true rfl), (Nat.le_of_ble_eq_true rfl)⟩) hP hD hS hA [] [true, true, true, true, true, true] rfl rfl rfl (fun r_99 u_101 H locs k_100 hP hD hS => ?_)
                have k_100 : ((-2) ≤ r_99.toInt ∧ r_99.toInt ≤ 4) ∧ (r_99.toInt = oU p2.toInt i_17.toInt) := k_100
                obtain ⟨k_100_0, k_100_1⟩ := k_100
                have hPD := vPD (ws' := [(h0, .inr (2, [.ref f_fromLawn, .ref f_fromDitch, .ref f_ontoDitch])), (f_fromLawn, .inl (cy 1, 20, .inl f_98)), (f_fromDitch, .inl (cy 1, 20, .inl f_21)), (f_ontoDitch, .inl (cy 1, 20, .inl f_23)), (h1, .inr (4, [.int g_wide, .int g_deep, .int g_count, .ref g_sorts])), (g_sorts, .inl (cy 1, 20, .inl g_sortsf))]) hP hD rfl
                have hP := hPD.1
                have hD := hPD.2
                refine lv_bipush (v := -2) hx hb dX2_learn_89 (by decide) ?_
                refine lv_icmp_eq (tgt := 106) hx hb dX2_learn_91 (by decide) (fun h_102 => ?_) (fun h_102 => ?_)
                · have h_102 : r_99.toInt = (-2) := c_eq h_102
                  refine lv_iload_n hx hb dX2_learn_106 rfl (lv_at hl 7 rfl) ?_
                  refine lv_if_ne (tgt := 119) hx hb dX2_learn_107 (by decide) (fun h_103 => ?_) (fun h_103 => ?_)
                  · have h_103 : p3.toInt ≠ 0 := c_ne h_103
                    refine lv_iconst (v := 1) hx hb dX2_learn_119 (by decide) ?_
                    refine lv_goto (tgt := 124) hx hb dX2_learn_120 (by decide) ?_
                    refine lv_istore (lv' := [(8, .int 1), (7, .int 0), (6, .int r_27), (5, .int i_17), (4, .int i_4), (0, .ref h0), (1, .ref h1), (2, .int p2), (3, .int p3)]) hx hb dX2_learn_124 hl (by decide) rfl (fun ls hl => ?_)
                    refine lv_iload hx hb dX2_learn_126 (lv_at hl 0 rfl) ?_
                    refine lv_if_eq (tgt := 154) hx hb dX2_learn_128 (by decide) (fun h_104 => absurd h_104 (by decide)) (fun _ => ?_)
                    refine lv_iload_n hx hb dX2_learn_131 rfl (lv_at hl 7 rfl) ?_
                    refine lv_iload hx hb dX2_learn_132 (lv_at hl 3 rfl) ?_
                    refine sl_Ic (rS_I (As := [.int p2, .int i_17]) (rest := []) X hp_st (fun _ _ _ h => h) (sX4_timeOntoDitch l dC dI cy p2 i_17) kX4_timeOntoDitch w_832 mX2_38 hP hD hS hA [] (by decide) rfl hl rfl rfl (Nat.le_of_ble_eq_true rfl) dX2_learn_134 ⟨(Nat.le_of_ble_eq_true rfl), (Nat.le_of_ble_eq_true rfl)⟩ ⟨(Nat.le_of_ble_eq_true rfl), (Nat.le_of_ble_eq_true rfl)⟩) hP hD hS hA [] [true, true, true, true, true, true] rfl rfl rfl (fun r_105 u_107 H locs k_106 hP hD hS => ?_)
                    have k_106 : ((-2) ≤ r_105.toInt ∧ r_105.toInt ≤ 4) ∧ (r_105.toInt = oD p2.toInt i_17.toInt) := k_106
                    obtain ⟨k_106_0, k_106_1⟩ := k_106
                    have hPD := vPD (ws' := [(h0, .inr (2, [.ref f_fromLawn, .ref f_fromDitch, .ref f_ontoDitch])), (f_fromLawn, .inl (cy 1, 20, .inl f_98)), (f_fromDitch, .inl (cy 1, 20, .inl f_21)), (f_ontoDitch, .inl (cy 1, 20, .inl f_23)), (h1, .inr (4, [.int g_wide, .int g_deep, .int g_count, .ref g_sorts])), (g_sorts, .inl (cy 1, 20, .inl g_sortsf))]) hP hD rfl
                    have hP := hPD.1
                    have hD := hPD.2
                    refine lv_bipush (v := -2) hx hb dX2_learn_137 (by decide) ?_
                    refine lv_icmp_eq (tgt := 154) hx hb dX2_learn_139 (by decide) (fun h_108 => ?_) (fun h_108 => ?_)
                    · have h_108 : r_105.toInt = (-2) := c_eq h_108
                      obtain ⟨x_109, ex_109⟩ : ∃ y : Int32, y = i_17 + 1 := ⟨_, rfl⟩
                      have tx_109 : x_109.toInt = i_17.toInt + 1 := ti_add (A := i_17.toInt) (B := 1) ex_109 rfl rfl (by omega) (by omega)
                      refine lv_iinc (v := x_109) (lv' := [(5, .int x_109), (8, .int 1), (7, .int 0), (6, .int r_27), (4, .int i_4), (0, .ref h0), (1, .ref h1), (2, .int p2), (3, .int p3)]) hx hb dX2_learn_154 hl (k := 3) rfl (by rw [ex_109]; rfl) (by decide) rfl (fun ls hl => ?_)
                      refine lv_goto (tgt := 39) hx hb dX2_learn_157 (by decide) ?_
                      exact ihlp_16 x_109 f_98 f_21 f_23 _ _ _ (by omega) bf_98 b_22 b_24 (show 5 - x_109.toInt ≤ (nlp_16 : Int) by omega) hP hD hS (lv_sub hl [0, 4, 5, 6, 7, 8] rfl)
                    · have h_108 : r_105.toInt ≠ (-2) := c_ne h_108
                      refine lv_aload_n hx hb dX2_learn_142 rfl (lv_at hl 5 rfl) ?_
                      refine r_get X kcX2 (ci := 2) rfl hP 0 rfl 2 (by decide) fX2_18 rfl dX2_learn_143 ?_
                      refine lv_iload hx hb dX2_learn_146 (lv_at hl 4 rfl) ?_
                      refine lv_dup2_11 hx hb dX2_learn_148 rfl rfl ?_
                      refine va_iald (D := (dC, dI)) (cl := vwCl) hx hb hK hP 3 1 rfl rfl (i := i_4) (vin (by omega) (by omega)) dX2_learn_149 ?_
                      refine lv_topi (fun x_110 ex_110 => ?_)
                      have bx_110 : 0 ≤ x_110.toInt ∧ x_110.toInt ≤ 1048575 := rb_at b_24 ex_110 (by omega) (by omega)
                      refine lv_iload hx hb dX2_learn_150 (lv_at hl 1 rfl) ?_
                      refine lv_ior hx hb dX2_learn_152 ?_
                      refine lv_topi (fun x_111 ex_111 => ?_)
                      have tx_111 : 0 ≤ x_111.toInt ∧ x_111.toInt ≤ 1048575 := ti_or20 ex_111 (by omega) (by omega) (by decide) (by decide)
                      refine va_iast (D := (dC, dI)) (cl := vwCl) hx hb hK hP hD hS 3 1 rfl rfl (i := i_4) (vin (by omega) (by omega)) dX2_learn_153 (fun H locs hP hD hS => ?_)
                      generalize ef_112 : upd f_23 (Int32.toNatClampNeg i_4) x_111 = f_112 at hP hD
                      have bf_112 : rb f_112 20 0 1048575 := by rw [← ef_112]; exact rb_upd b_24 (by omega) (by omega)
                      have hPD := vPD (ws' := [(h0, .inr (2, [.ref f_fromLawn, .ref f_fromDitch, .ref f_ontoDitch])), (f_fromLawn, .inl (cy 1, 20, .inl f_98)), (f_fromDitch, .inl (cy 1, 20, .inl f_21)), (f_ontoDitch, .inl (cy 1, 20, .inl f_112)), (h1, .inr (4, [.int g_wide, .int g_deep, .int g_count, .ref g_sorts])), (g_sorts, .inl (cy 1, 20, .inl g_sortsf))]) hP hD rfl
                      have hP := hPD.1
                      have hD := hPD.2
                      obtain ⟨x_113, ex_113⟩ : ∃ y : Int32, y = i_17 + 1 := ⟨_, rfl⟩
                      have tx_113 : x_113.toInt = i_17.toInt + 1 := ti_add (A := i_17.toInt) (B := 1) ex_113 rfl rfl (by omega) (by omega)
                      refine lv_iinc (v := x_113) (lv' := [(5, .int x_113), (8, .int 1), (7, .int 0), (6, .int r_27), (4, .int i_4), (0, .ref h0), (1, .ref h1), (2, .int p2), (3, .int p3)]) hx hb dX2_learn_154 hl (k := 3) rfl (by rw [ex_113]; rfl) (by decide) rfl (fun ls hl => ?_)
                      refine lv_goto (tgt := 39) hx hb dX2_learn_157 (by decide) ?_
                      exact ihlp_16 x_113 f_98 f_21 f_112 _ _ _ (by omega) bf_98 b_22 bf_112 (show 5 - x_113.toInt ≤ (nlp_16 : Int) by omega) hP hD hS (lv_sub hl [0, 4, 5, 6, 7, 8] rfl)
                  · have h_103 : p3.toInt = 0 := c_eq h_103
                    refine lv_iload_n hx hb dX2_learn_110 rfl (lv_at hl 6 rfl) ?_
                    refine lv_iload hx hb dX2_learn_111 (lv_at hl 2 rfl) ?_
                    refine sl_Ic (rS_I (As := [.int p2, .int i_17]) (rest := []) X hp_st (fun _ _ _ h => h) (sX4_isFallOntoDitch l dC dI cy p2 i_17) kX4_isFallOntoDitch w_846 mX2_34 hP hD hS hA [] (by decide) rfl hl rfl rfl (Nat.le_of_ble_eq_true rfl) dX2_learn_113 ⟨(Nat.le_of_ble_eq_true rfl), (Nat.le_of_ble_eq_true rfl)⟩ ⟨(Nat.le_of_ble_eq_true rfl), (Nat.le_of_ble_eq_true rfl)⟩) hP hD hS hA [] [true, true, true, true, true, true] rfl rfl rfl (fun r_114 u_116 H locs k_115 hP hD hS => ?_)
                    have k_115 : (0 ≤ r_114.toInt ∧ r_114.toInt ≤ 1) ∧ ((r_114.toInt = 1 ∧ p2.toInt = 0 ∧ i_17.toInt = 2) ∨ (r_114.toInt = 0 ∧ (p2.toInt ≠ 0 ∨ i_17.toInt ≠ 2))) := k_115
                    obtain ⟨k_115_0, k_115_1⟩ := k_115
                    have hPD := vPD (ws' := [(h0, .inr (2, [.ref f_fromLawn, .ref f_fromDitch, .ref f_ontoDitch])), (f_fromLawn, .inl (cy 1, 20, .inl f_98)), (f_fromDitch, .inl (cy 1, 20, .inl f_21)), (f_ontoDitch, .inl (cy 1, 20, .inl f_23)), (h1, .inr (4, [.int g_wide, .int g_deep, .int g_count, .ref g_sorts])), (g_sorts, .inl (cy 1, 20, .inl g_sortsf))]) hP hD rfl
                    have hP := hPD.1
                    have hD := hPD.2
                    refine lv_if_ne (tgt := 123) hx hb dX2_learn_116 (by decide) (fun h_117 => ?_) (fun h_117 => ?_)
                    · have h_117 : r_114.toInt ≠ 0 := c_ne h_117
                      refine lv_iconst (v := 0) hx hb dX2_learn_123 (by decide) ?_
                      refine lv_istore (lv' := [(8, .int 0), (7, .int 0), (6, .int r_27), (5, .int i_17), (4, .int i_4), (0, .ref h0), (1, .ref h1), (2, .int p2), (3, .int p3)]) hx hb dX2_learn_124 hl (by decide) rfl (fun ls hl => ?_)
                      refine lv_iload hx hb dX2_learn_126 (lv_at hl 0 rfl) ?_
                      refine lv_if_eq (tgt := 154) hx hb dX2_learn_128 (by decide) (fun _ => ?_) (fun h_118 => absurd (by decide) h_118)
                      obtain ⟨x_119, ex_119⟩ : ∃ y : Int32, y = i_17 + 1 := ⟨_, rfl⟩
                      have tx_119 : x_119.toInt = i_17.toInt + 1 := ti_add (A := i_17.toInt) (B := 1) ex_119 rfl rfl (by omega) (by omega)
                      refine lv_iinc (v := x_119) (lv' := [(5, .int x_119), (8, .int 0), (7, .int 0), (6, .int r_27), (4, .int i_4), (0, .ref h0), (1, .ref h1), (2, .int p2), (3, .int p3)]) hx hb dX2_learn_154 hl (k := 3) rfl (by rw [ex_119]; rfl) (by decide) rfl (fun ls hl => ?_)
                      refine lv_goto (tgt := 39) hx hb dX2_learn_157 (by decide) ?_
                      exact ihlp_16 x_119 f_98 f_21 f_23 _ _ _ (by omega) bf_98 b_22 b_24 (show 5 - x_119.toInt ≤ (nlp_16 : Int) by omega) hP hD hS (lv_sub hl [0, 4, 5, 6, 7, 8] rfl)
                    · have h_117 : r_114.toInt = 0 := c_eq h_117
                      refine lv_iconst (v := 1) hx hb dX2_learn_119 (by decide) ?_
                      refine lv_goto (tgt := 124) hx hb dX2_learn_120 (by decide) ?_
                      refine lv_istore (lv' := [(8, .int 1), (7, .int 0), (6, .int r_27), (5, .int i_17), (4, .int i_4), (0, .ref h0), (1, .ref h1), (2, .int p2), (3, .int p3)]) hx hb dX2_learn_124 hl (by decide) rfl (fun ls hl => ?_)
                      refine lv_iload hx hb dX2_learn_126 (lv_at hl 0 rfl) ?_
                      refine lv_if_eq (tgt := 154) hx hb dX2_learn_128 (by decide) (fun h_120 => absurd h_120 (by decide)) (fun _ => ?_)
                      refine lv_iload_n hx hb dX2_learn_131 rfl (lv_at hl 7 rfl) ?_
                      refine lv_iload hx hb dX2_learn_132 (lv_at hl 3 rfl) ?_
                      refine sl_Ic (rS_I (As := [.int p2, .int i_17]) (rest := []) X hp_st (fun _ _ _ h => h) (sX4_timeOntoDitch l dC dI cy p2 i_17) kX4_timeOntoDitch w_832 mX2_38 hP hD hS hA [] (by decide) rfl hl rfl rfl (Nat.le_of_ble_eq_true rfl) dX2_learn_134 ⟨(Nat.le_of_ble_eq_true rfl), (Nat.le_of_ble_eq_true rfl)⟩ ⟨(Nat.le_of_ble_eq_true rfl), (Nat.le_of_ble_eq_true rfl)⟩) hP hD hS hA [] [true, true, true, true, true, true] rfl rfl rfl (fun r_121 u_123 H locs k_122 hP hD hS => ?_)
                      have k_122 : ((-2) ≤ r_121.toInt ∧ r_121.toInt ≤ 4) ∧ (r_121.toInt = oD p2.toInt i_17.toInt) := k_122
                      obtain ⟨k_122_0, k_122_1⟩ := k_122
                      have hPD := vPD (ws' := [(h0, .inr (2, [.ref f_fromLawn, .ref f_fromDitch, .ref f_ontoDitch])), (f_fromLawn, .inl (cy 1, 20, .inl f_98)), (f_fromDitch, .inl (cy 1, 20, .inl f_21)), (f_ontoDitch, .inl (cy 1, 20, .inl f_23)), (h1, .inr (4, [.int g_wide, .int g_deep, .int g_count, .ref g_sorts])), (g_sorts, .inl (cy 1, 20, .inl g_sortsf))]) hP hD rfl
                      have hP := hPD.1
                      have hD := hPD.2
                      refine lv_bipush (v := -2) hx hb dX2_learn_137 (by decide) ?_
                      refine lv_icmp_eq (tgt := 154) hx hb dX2_learn_139 (by decide) (fun h_124 => ?_) (fun h_124 => ?_)
                      · have h_124 : r_121.toInt = (-2) := c_eq h_124
                        obtain ⟨x_125, ex_125⟩ : ∃ y : Int32, y = i_17 + 1 := ⟨_, rfl⟩
                        have tx_125 : x_125.toInt = i_17.toInt + 1 := ti_add (A := i_17.toInt) (B := 1) ex_125 rfl rfl (by omega) (by omega)
                        refine lv_iinc (v := x_125) (lv' := [(5, .int x_125), (8, .int 1), (7, .int 0), (6, .int r_27), (4, .int i_4), (0, .ref h0), (1, .ref h1), (2, .int p2), (3, .int p3)]) hx hb dX2_learn_154 hl (k := 3) rfl (by rw [ex_125]; rfl) (by decide) rfl (fun ls hl => ?_)
                        refine lv_goto (tgt := 39) hx hb dX2_learn_157 (by decide) ?_
                        exact ihlp_16 x_125 f_98 f_21 f_23 _ _ _ (by omega) bf_98 b_22 b_24 (show 5 - x_125.toInt ≤ (nlp_16 : Int) by omega) hP hD hS (lv_sub hl [0, 4, 5, 6, 7, 8] rfl)
                      · have h_124 : r_121.toInt ≠ (-2) := c_ne h_124
                        refine lv_aload_n hx hb dX2_learn_142 rfl (lv_at hl 5 rfl) ?_
                        refine r_get X kcX2 (ci := 2) rfl hP 0 rfl 2 (by decide) fX2_18 rfl dX2_learn_143 ?_
                        refine lv_iload hx hb dX2_learn_146 (lv_at hl 4 rfl) ?_
                        refine lv_dup2_11 hx hb dX2_learn_148 rfl rfl ?_
                        refine va_iald (D := (dC, dI)) (cl := vwCl) hx hb hK hP 3 1 rfl rfl (i := i_4) (vin (by omega) (by omega)) dX2_learn_149 ?_
                        refine lv_topi (fun x_126 ex_126 => ?_)
                        have bx_126 : 0 ≤ x_126.toInt ∧ x_126.toInt ≤ 1048575 := rb_at b_24 ex_126 (by omega) (by omega)
                        refine lv_iload hx hb dX2_learn_150 (lv_at hl 1 rfl) ?_
                        refine lv_ior hx hb dX2_learn_152 ?_
                        refine lv_topi (fun x_127 ex_127 => ?_)
                        have tx_127 : 0 ≤ x_127.toInt ∧ x_127.toInt ≤ 1048575 := ti_or20 ex_127 (by omega) (by omega) (by decide) (by decide)
                        refine va_iast (D := (dC, dI)) (cl := vwCl) hx hb hK hP hD hS 3 1 rfl rfl (i := i_4) (vin (by omega) (by omega)) dX2_learn_153 (fun H locs hP hD hS => ?_)
                        generalize ef_128 : upd f_23 (Int32.toNatClampNeg i_4) x_127 = f_128 at hP hD
                        have bf_128 : rb f_128 20 0 1048575 := by rw [← ef_128]; exact rb_upd b_24 (by omega) (by omega)
                        have hPD := vPD (ws' := [(h0, .inr (2, [.ref f_fromLawn, .ref f_fromDitch, .ref f_ontoDitch])), (f_fromLawn, .inl (cy 1, 20, .inl f_98)), (f_fromDitch, .inl (cy 1, 20, .inl f_21)), (f_ontoDitch, .inl (cy 1, 20, .inl f_128)), (h1, .inr (4, [.int g_wide, .int g_deep, .int g_count, .ref g_sorts])), (g_sorts, .inl (cy 1, 20, .inl g_sortsf))]) hP hD rfl
                        have hP := hPD.1
                        have hD := hPD.2
                        obtain ⟨x_129, ex_129⟩ : ∃ y : Int32, y = i_17 + 1 := ⟨_, rfl⟩
                        have tx_129 : x_129.toInt = i_17.toInt + 1 := ti_add (A := i_17.toInt) (B := 1) ex_129 rfl rfl (by omega) (by omega)
                        refine lv_iinc (v := x_129) (lv' := [(5, .int x_129), (8, .int 1), (7, .int 0), (6, .int r_27), (4, .int i_4), (0, .ref h0), (1, .ref h1), (2, .int p2), (3, .int p3)]) hx hb dX2_learn_154 hl (k := 3) rfl (by rw [ex_129]; rfl) (by decide) rfl (fun ls hl => ?_)
                        refine lv_goto (tgt := 39) hx hb dX2_learn_157 (by decide) ?_
                        exact ihlp_16 x_129 f_98 f_21 f_128 _ _ _ (by omega) bf_98 b_22 bf_128 (show 5 - x_129.toInt ≤ (nlp_16 : Int) by omega) hP hD hS (lv_sub hl [0, 4, 5, 6, 7, 8] rfl)
                · have h_102 : r_99.toInt ≠ (-2) := c_ne h_102
                  refine lv_aload_n hx hb dX2_learn_94 rfl (lv_at hl 4 rfl) ?_
                  refine r_get X kcX2 (ci := 2) rfl hP 0 rfl 1 (by decide) fX2_15 rfl dX2_learn_95 ?_
                  refine lv_iload hx hb dX2_learn_98 (lv_at hl 3 rfl) ?_
                  refine lv_dup2_11 hx hb dX2_learn_100 rfl rfl ?_
                  refine va_iald (D := (dC, dI)) (cl := vwCl) hx hb hK hP 2 1 rfl rfl (i := i_4) (vin (by omega) (by omega)) dX2_learn_101 ?_
                  refine lv_topi (fun x_130 ex_130 => ?_)
                  have bx_130 : 0 ≤ x_130.toInt ∧ x_130.toInt ≤ 1048575 := rb_at b_22 ex_130 (by omega) (by omega)
                  refine lv_iload hx hb dX2_learn_102 (lv_at hl 0 rfl) ?_
                  refine lv_ior hx hb dX2_learn_104 ?_
                  refine lv_topi (fun x_131 ex_131 => ?_)
                  have tx_131 : 0 ≤ x_131.toInt ∧ x_131.toInt ≤ 1048575 := ti_or20 ex_131 (by omega) (by omega) (by decide) (by decide)
                  refine va_iast (D := (dC, dI)) (cl := vwCl) hx hb hK hP hD hS 2 1 rfl rfl (i := i_4) (vin (by omega) (by omega)) dX2_learn_105 (fun H locs hP hD hS => ?_)
                  generalize ef_132 : upd f_21 (Int32.toNatClampNeg i_4) x_131 = f_132 at hP hD
                  have bf_132 : rb f_132 20 0 1048575 := by rw [← ef_132]; exact rb_upd b_22 (by omega) (by omega)
                  have hPD := vPD (ws' := [(h0, .inr (2, [.ref f_fromLawn, .ref f_fromDitch, .ref f_ontoDitch])), (f_fromLawn, .inl (cy 1, 20, .inl f_98)), (f_fromDitch, .inl (cy 1, 20, .inl f_132)), (f_ontoDitch, .inl (cy 1, 20, .inl f_23)), (h1, .inr (4, [.int g_wide, .int g_deep, .int g_count, .ref g_sorts])), (g_sorts, .inl (cy 1, 20, .inl g_sortsf))]) hP hD rfl
                  have hP := hPD.1
                  have hD := hPD.2
                  refine lv_iload_n hx hb dX2_learn_106 rfl (lv_at hl 7 rfl) ?_
                  refine lv_if_ne (tgt := 119) hx hb dX2_learn_107 (by decide) (fun h_133 => ?_) (fun h_133 => ?_)
                  · have h_133 : p3.toInt ≠ 0 := c_ne h_133
                    refine lv_iconst (v := 1) hx hb dX2_learn_119 (by decide) ?_
                    refine lv_goto (tgt := 124) hx hb dX2_learn_120 (by decide) ?_
                    refine lv_istore (lv' := [(8, .int 1), (7, .int 0), (6, .int r_27), (5, .int i_17), (4, .int i_4), (0, .ref h0), (1, .ref h1), (2, .int p2), (3, .int p3)]) hx hb dX2_learn_124 hl (by decide) rfl (fun ls hl => ?_)
                    refine lv_iload hx hb dX2_learn_126 (lv_at hl 0 rfl) ?_
                    refine lv_if_eq (tgt := 154) hx hb dX2_learn_128 (by decide) (fun h_134 => absurd h_134 (by decide)) (fun _ => ?_)
                    refine lv_iload_n hx hb dX2_learn_131 rfl (lv_at hl 7 rfl) ?_
                    refine lv_iload hx hb dX2_learn_132 (lv_at hl 3 rfl) ?_
                    refine sl_Ic (rS_I (As := [.int p2, .int i_17]) (rest := []) X hp_st (fun _ _ _ h => h) (sX4_timeOntoDitch l dC dI cy p2 i_17) kX4_timeOntoDitch w_832 mX2_38 hP hD hS hA [] (by decide) rfl hl rfl rfl (Nat.le_of_ble_eq_true rfl) dX2_learn_134 ⟨(Nat.le_of_ble_eq_true rfl), (Nat.le_of_ble_eq_true rfl)⟩ ⟨(Nat.le_of_ble_eq_true rfl), (Nat.le_of_ble_eq_true rfl)⟩) hP hD hS hA [] [true, true, true, true, true, true] rfl rfl rfl (fun r_135 u_137 H locs k_136 hP hD hS => ?_)
                    have k_136 : ((-2) ≤ r_135.toInt ∧ r_135.toInt ≤ 4) ∧ (r_135.toInt = oD p2.toInt i_17.toInt) := k_136
                    obtain ⟨k_136_0, k_136_1⟩ := k_136
                    have hPD := vPD (ws' := [(h0, .inr (2, [.ref f_fromLawn, .ref f_fromDitch, .ref f_ontoDitch])), (f_fromLawn, .inl (cy 1, 20, .inl f_98)), (f_fromDitch, .inl (cy 1, 20, .inl f_132)), (f_ontoDitch, .inl (cy 1, 20, .inl f_23)), (h1, .inr (4, [.int g_wide, .int g_deep, .int g_count, .ref g_sorts])), (g_sorts, .inl (cy 1, 20, .inl g_sortsf))]) hP hD rfl
                    have hP := hPD.1
                    have hD := hPD.2
                    refine lv_bipush (v := -2) hx hb dX2_learn_137 (by decide) ?_
                    refine lv_icmp_eq (tgt := 154) hx hb dX2_learn_139 (by decide) (fun h_138 => ?_) (fun h_138 => ?_)
                    · have h_138 : r_135.toInt = (-2) := c_eq h_138
                      obtain ⟨x_139, ex_139⟩ : ∃ y : Int32, y = i_17 + 1 := ⟨_, rfl⟩
                      have tx_139 : x_139.toInt = i_17.toInt + 1 := ti_add (A := i_17.toInt) (B := 1) ex_139 rfl rfl (by omega) (by omega)
                      refine lv_iinc (v := x_139) (lv' := [(5, .int x_139), (8, .int 1), (7, .int 0), (6, .int r_27), (4, .int i_4), (0, .ref h0), (1, .ref h1), (2, .int p2), (3, .int p3)]) hx hb dX2_learn_154 hl (k := 3) rfl (by rw [ex_139]; rfl) (by decide) rfl (fun ls hl => ?_)
                      refine lv_goto (tgt := 39) hx hb dX2_learn_157 (by decide) ?_
                      exact ihlp_16 x_139 f_98 f_132 f_23 _ _ _ (by omega) bf_98 bf_132 b_24 (show 5 - x_139.toInt ≤ (nlp_16 : Int) by omega) hP hD hS (lv_sub hl [0, 4, 5, 6, 7, 8] rfl)
                    · have h_138 : r_135.toInt ≠ (-2) := c_ne h_138
                      refine lv_aload_n hx hb dX2_learn_142 rfl (lv_at hl 5 rfl) ?_
                      refine r_get X kcX2 (ci := 2) rfl hP 0 rfl 2 (by decide) fX2_18 rfl dX2_learn_143 ?_
                      refine lv_iload hx hb dX2_learn_146 (lv_at hl 4 rfl) ?_
                      refine lv_dup2_11 hx hb dX2_learn_148 rfl rfl ?_
                      refine va_iald (D := (dC, dI)) (cl := vwCl) hx hb hK hP 3 1 rfl rfl (i := i_4) (vin (by omega) (by omega)) dX2_learn_149 ?_
                      refine lv_topi (fun x_140 ex_140 => ?_)
                      have bx_140 : 0 ≤ x_140.toInt ∧ x_140.toInt ≤ 1048575 := rb_at b_24 ex_140 (by omega) (by omega)
                      refine lv_iload hx hb dX2_learn_150 (lv_at hl 1 rfl) ?_
                      refine lv_ior hx hb dX2_learn_152 ?_
                      refine lv_topi (fun x_141 ex_141 => ?_)
                      have tx_141 : 0 ≤ x_141.toInt ∧ x_141.toInt ≤ 1048575 := ti_or20 ex_141 (by omega) (by omega) (by decide) (by decide)
                      refine va_iast (D := (dC, dI)) (cl := vwCl) hx hb hK hP hD hS 3 1 rfl rfl (i := i_4) (vin (by omega) (by omega)) dX2_learn_153 (fun H locs hP hD hS => ?_)
                      generalize ef_142 : upd f_23 (Int32.toNatClampNeg i_4) x_141 = f_142 at hP hD
                      have bf_142 : rb f_142 20 0 1048575 := by rw [← ef_142]; exact rb_upd b_24 (by omega) (by omega)
                      have hPD := vPD (ws' := [(h0, .inr (2, [.ref f_fromLawn, .ref f_fromDitch, .ref f_ontoDitch])), (f_fromLawn, .inl (cy 1, 20, .inl f_98)), (f_fromDitch, .inl (cy 1, 20, .inl f_132)), (f_ontoDitch, .inl (cy 1, 20, .inl f_142)), (h1, .inr (4, [.int g_wide, .int g_deep, .int g_count, .ref g_sorts])), (g_sorts, .inl (cy 1, 20, .inl g_sortsf))]) hP hD rfl
                      have hP := hPD.1
                      have hD := hPD.2
                      obtain ⟨x_143, ex_143⟩ : ∃ y : Int32, y = i_17 + 1 := ⟨_, rfl⟩
                      have tx_143 : x_143.toInt = i_17.toInt + 1 := ti_add (A := i_17.toInt) (B := 1) ex_143 rfl rfl (by omega) (by omega)
                      refine lv_iinc (v := x_143) (lv' := [(5, .int x_143), (8, .int 1), (7, .int 0), (6, .int r_27), (4, .int i_4), (0, .ref h0), (1, .ref h1), (2, .int p2), (3, .int p3)]) hx hb dX2_learn_154 hl (k := 3) rfl (by rw [ex_143]; rfl) (by decide) rfl (fun ls hl => ?_)
                      refine lv_goto (tgt := 39) hx hb dX2_learn_157 (by decide) ?_
                      exact ihlp_16 x_143 f_98 f_132 f_142 _ _ _ (by omega) bf_98 bf_132 bf_142 (show 5 - x_143.toInt ≤ (nlp_16 : Int) by omega) hP hD hS (lv_sub hl [0, 4, 5, 6, 7, 8] rfl)
                  · have h_133 : p3.toInt = 0 := c_eq h_133
                    refine lv_iload_n hx hb dX2_learn_110 rfl (lv_at hl 6 rfl) ?_
                    refine lv_iload hx hb dX2_learn_111 (lv_at hl 2 rfl) ?_
                    refine sl_Ic (rS_I (As := [.int p2, .int i_17]) (rest := []) X hp_st (fun _ _ _ h => h) (sX4_isFallOntoDitch l dC dI cy p2 i_17) kX4_isFallOntoDitch w_846 mX2_34 hP hD hS hA [] (by decide) rfl hl rfl rfl (Nat.le_of_ble_eq_true rfl) dX2_learn_113 ⟨(Nat.le_of_ble_eq_true rfl), (Nat.le_of_ble_eq_true rfl)⟩ ⟨(Nat.le_of_ble_eq_true rfl), (Nat.le_of_ble_eq_true rfl)⟩) hP hD hS hA [] [true, true, true, true, true, true] rfl rfl rfl (fun r_144 u_146 H locs k_145 hP hD hS => ?_)
                    have k_145 : (0 ≤ r_144.toInt ∧ r_144.toInt ≤ 1) ∧ ((r_144.toInt = 1 ∧ p2.toInt = 0 ∧ i_17.toInt = 2) ∨ (r_144.toInt = 0 ∧ (p2.toInt ≠ 0 ∨ i_17.toInt ≠ 2))) := k_145
                    obtain ⟨k_145_0, k_145_1⟩ := k_145
                    have hPD := vPD (ws' := [(h0, .inr (2, [.ref f_fromLawn, .ref f_fromDitch, .ref f_ontoDitch])), (f_fromLawn, .inl (cy 1, 20, .inl f_98)), (f_fromDitch, .inl (cy 1, 20, .inl f_132)), (f_ontoDitch, .inl (cy 1, 20, .inl f_23)), (h1, .inr (4, [.int g_wide, .int g_deep, .int g_count, .ref g_sorts])), (g_sorts, .inl (cy 1, 20, .inl g_sortsf))]) hP hD rfl
                    have hP := hPD.1
                    have hD := hPD.2
                    refine lv_if_ne (tgt := 123) hx hb dX2_learn_116 (by decide) (fun h_147 => ?_) (fun h_147 => ?_)
                    · have h_147 : r_144.toInt ≠ 0 := c_ne h_147
                      refine lv_iconst (v := 0) hx hb dX2_learn_123 (by decide) ?_
                      refine lv_istore (lv' := [(8, .int 0), (7, .int 0), (6, .int r_27), (5, .int i_17), (4, .int i_4), (0, .ref h0), (1, .ref h1), (2, .int p2), (3, .int p3)]) hx hb dX2_learn_124 hl (by decide) rfl (fun ls hl => ?_)
                      refine lv_iload hx hb dX2_learn_126 (lv_at hl 0 rfl) ?_
                      refine lv_if_eq (tgt := 154) hx hb dX2_learn_128 (by decide) (fun _ => ?_) (fun h_148 => absurd (by decide) h_148)
                      obtain ⟨x_149, ex_149⟩ : ∃ y : Int32, y = i_17 + 1 := ⟨_, rfl⟩
                      have tx_149 : x_149.toInt = i_17.toInt + 1 := ti_add (A := i_17.toInt) (B := 1) ex_149 rfl rfl (by omega) (by omega)
                      refine lv_iinc (v := x_149) (lv' := [(5, .int x_149), (8, .int 0), (7, .int 0), (6, .int r_27), (4, .int i_4), (0, .ref h0), (1, .ref h1), (2, .int p2), (3, .int p3)]) hx hb dX2_learn_154 hl (k := 3) rfl (by rw [ex_149]; rfl) (by decide) rfl (fun ls hl => ?_)
                      refine lv_goto (tgt := 39) hx hb dX2_learn_157 (by decide) ?_
                      exact ihlp_16 x_149 f_98 f_132 f_23 _ _ _ (by omega) bf_98 bf_132 b_24 (show 5 - x_149.toInt ≤ (nlp_16 : Int) by omega) hP hD hS (lv_sub hl [0, 4, 5, 6, 7, 8] rfl)
                    · have h_147 : r_144.toInt = 0 := c_eq h_147
                      refine lv_iconst (v := 1) hx hb dX2_learn_119 (by decide) ?_
                      refine lv_goto (tgt := 124) hx hb dX2_learn_120 (by decide) ?_
                      refine lv_istore (lv' := [(8, .int 1), (7, .int 0), (6, .int r_27), (5, .int i_17), (4, .int i_4), (0, .ref h0), (1, .ref h1), (2, .int p2), (3, .int p3)]) hx hb dX2_learn_124 hl (by decide) rfl (fun ls hl => ?_)
                      refine lv_iload hx hb dX2_learn_126 (lv_at hl 0 rfl) ?_
                      refine lv_if_eq (tgt := 154) hx hb dX2_learn_128 (by decide) (fun h_150 => absurd h_150 (by decide)) (fun _ => ?_)
                      refine lv_iload_n hx hb dX2_learn_131 rfl (lv_at hl 7 rfl) ?_
                      refine lv_iload hx hb dX2_learn_132 (lv_at hl 3 rfl) ?_
                      refine sl_Ic (rS_I (As := [.int p2, .int i_17]) (rest := []) X hp_st (fun _ _ _ h => h) (sX4_timeOntoDitch l dC dI cy p2 i_17) kX4_timeOntoDitch w_832 mX2_38 hP hD hS hA [] (by decide) rfl hl rfl rfl (Nat.le_of_ble_eq_true rfl) dX2_learn_134 ⟨(Nat.le_of_ble_eq_true rfl), (Nat.le_of_ble_eq_true rfl)⟩ ⟨(Nat.le_of_ble_eq_true rfl), (Nat.le_of_ble_eq_true rfl)⟩) hP hD hS hA [] [true, true, true, true, true, true] rfl rfl rfl (fun r_151 u_153 H locs k_152 hP hD hS => ?_)
                      have k_152 : ((-2) ≤ r_151.toInt ∧ r_151.toInt ≤ 4) ∧ (r_151.toInt = oD p2.toInt i_17.toInt) := k_152
                      obtain ⟨k_152_0, k_152_1⟩ := k_152
                      have hPD := vPD (ws' := [(h0, .inr (2, [.ref f_fromLawn, .ref f_fromDitch, .ref f_ontoDitch])), (f_fromLawn, .inl (cy 1, 20, .inl f_98)), (f_fromDitch, .inl (cy 1, 20, .inl f_132)), (f_ontoDitch, .inl (cy 1, 20, .inl f_23)), (h1, .inr (4, [.int g_wide, .int g_deep, .int g_count, .ref g_sorts])), (g_sorts, .inl (cy 1, 20, .inl g_sortsf))]) hP hD rfl
                      have hP := hPD.1
                      have hD := hPD.2
                      refine lv_bipush (v := -2) hx hb dX2_learn_137 (by decide) ?_
                      refine lv_icmp_eq (tgt := 154) hx hb dX2_learn_139 (by decide) (fun h_154 => ?_) (fun h_154 => ?_)
                      · have h_154 : r_151.toInt = (-2) := c_eq h_154
                        obtain ⟨x_155, ex_155⟩ : ∃ y : Int32, y = i_17 + 1 := ⟨_, rfl⟩
                        have tx_155 : x_155.toInt = i_17.toInt + 1 := ti_add (A := i_17.toInt) (B := 1) ex_155 rfl rfl (by omega) (by omega)
                        refine lv_iinc (v := x_155) (lv' := [(5, .int x_155), (8, .int 1), (7, .int 0), (6, .int r_27), (4, .int i_4), (0, .ref h0), (1, .ref h1), (2, .int p2), (3, .int p3)]) hx hb dX2_learn_154 hl (k := 3) rfl (by rw [ex_155]; rfl) (by decide) rfl (fun ls hl => ?_)
                        refine lv_goto (tgt := 39) hx hb dX2_learn_157 (by decide) ?_
                        exact ihlp_16 x_155 f_98 f_132 f_23 _ _ _ (by omega) bf_98 bf_132 b_24 (show 5 - x_155.toInt ≤ (nlp_16 : Int) by omega) hP hD hS (lv_sub hl [0, 4, 5, 6, 7, 8] rfl)
                      · have h_154 : r_151.toInt ≠ (-2) := c_ne h_154
                        refine lv_aload_n hx hb dX2_learn_142 rfl (lv_at hl 5 rfl) ?_
                        refine r_get X kcX2 (ci := 2) rfl hP 0 rfl 2 (by decide) fX2_18 rfl dX2_learn_143 ?_
                        refine lv_iload hx hb dX2_learn_146 (lv_at hl 4 rfl) ?_
                        refine lv_dup2_11 hx hb dX2_learn_148 rfl rfl ?_
                        refine va_iald (D := (dC, dI)) (cl := vwCl) hx hb hK hP 3 1 rfl rfl (i := i_4) (vin (by omega) (by omega)) dX2_learn_149 ?_
                        refine lv_topi (fun x_156 ex_156 => ?_)
                        have bx_156 : 0 ≤ x_156.toInt ∧ x_156.toInt ≤ 1048575 := rb_at b_24 ex_156 (by omega) (by omega)
                        refine lv_iload hx hb dX2_learn_150 (lv_at hl 1 rfl) ?_
                        refine lv_ior hx hb dX2_learn_152 ?_
                        refine lv_topi (fun x_157 ex_157 => ?_)
                        have tx_157 : 0 ≤ x_157.toInt ∧ x_157.toInt ≤ 1048575 := ti_or20 ex_157 (by omega) (by omega) (by decide) (by decide)
                        refine va_iast (D := (dC, dI)) (cl := vwCl) hx hb hK hP hD hS 3 1 rfl rfl (i := i_4) (vin (by omega) (by omega)) dX2_learn_153 (fun H locs hP hD hS => ?_)
                        generalize ef_158 : upd f_23 (Int32.toNatClampNeg i_4) x_157 = f_158 at hP hD
                        have bf_158 : rb f_158 20 0 1048575 := by rw [← ef_158]; exact rb_upd b_24 (by omega) (by omega)
                        have hPD := vPD (ws' := [(h0, .inr (2, [.ref f_fromLawn, .ref f_fromDitch, .ref f_ontoDitch])), (f_fromLawn, .inl (cy 1, 20, .inl f_98)), (f_fromDitch, .inl (cy 1, 20, .inl f_132)), (f_ontoDitch, .inl (cy 1, 20, .inl f_158)), (h1, .inr (4, [.int g_wide, .int g_deep, .int g_count, .ref g_sorts])), (g_sorts, .inl (cy 1, 20, .inl g_sortsf))]) hP hD rfl
                        have hP := hPD.1
                        have hD := hPD.2
                        obtain ⟨x_159, ex_159⟩ : ∃ y : Int32, y = i_17 + 1 := ⟨_, rfl⟩
                        have tx_159 : x_159.toInt = i_17.toInt + 1 := ti_add (A := i_17.toInt) (B := 1) ex_159 rfl rfl (by omega) (by omega)
                        refine lv_iinc (v := x_159) (lv' := [(5, .int x_159), (8, .int 1), (7, .int 0), (6, .int r_27), (4, .int i_4), (0, .ref h0), (1, .ref h1), (2, .int p2), (3, .int p3)]) hx hb dX2_learn_154 hl (k := 3) rfl (by rw [ex_159]; rfl) (by decide) rfl (fun ls hl => ?_)
                        refine lv_goto (tgt := 39) hx hb dX2_learn_157 (by decide) ?_
                        exact ihlp_16 x_159 f_98 f_132 f_158 _ _ _ (by omega) bf_98 bf_132 bf_158 (show 5 - x_159.toInt ≤ (nlp_16 : Int) by omega) hP hD hS (lv_sub hl [0, 4, 5, 6, 7, 8] rfl)
        exact lp_16 5 0 f_13 f_14 f_15 _ _ _ (by decide) bf_13 bf_14 bf_15 (show 5 - 0 ≤ ((5 : Nat) : Int) by omega) hP hD hS hl
  exact lp_3 21 0 f_fromLawnf f_fromDitchf f_ontoDitchf _ _ _ (by decide) hf_fromLawnf hf_fromDitchf hf_ontoDitchf (show 21 - 0 ≤ ((21 : Nat) : Int) by omega) hP hD hS hl
set_option maxHeartbeats 4000000 in
set_option maxRecDepth 100000 in
theorem sX2_spread (l : Launch) (dC : Nat → ClassId) (dI : Nat → Nat → Nat) (cy : Nat → ClassId) (h0 : Nat) (f_fromLawn : Nat) (f_fromDitch : Nat) (f_ontoDitch : Nat) (f_fromLawnf : Nat → Int32) (f_fromDitchf : Nat → Int32) (f_ontoDitchf : Nat → Int32) (p1 : Int32) (p2 : Int32) (p3 : Int32) (hf_fromLawnf : rb f_fromLawnf 20 0 1048575) (hf_fromDitchf : rb f_fromDitchf 20 0 1048575) (hf_ontoDitchf : rb f_ontoDitchf 20 0 1048575) (hp1 : 0 ≤ p1.toInt ∧ p1.toInt ≤ 19) : ctI l dC dI cy hp yX2_spread cX2_spread 11 .int ({ frames := 1, cells := 0, slots := 0, locals := 20 } : Room) [.ref h0, .int p1, .int p2, .int p3] [(h0, .inr (2, [.ref f_fromLawn, .ref f_fromDitch, .ref f_ontoDitch])), (f_fromLawn, .inl (cy 1, 20, .inl f_fromLawnf)), (f_fromDitch, .inl (cy 1, 20, .inl f_fromDitchf)), (f_ontoDitch, .inl (cy 1, 20, .inl f_ontoDitchf))] (S := Unit) (fun r _ => True) (fun _ => [(h0, .inr (2, [.ref f_fromLawn, .ref f_fromDitch, .ref f_ontoDitch])), (f_fromLawn, .inl (cy 1, 20, .inl f_fromLawnf)), (f_fromDitch, .inl (cy 1, 20, .inl f_fromDitchf)), (f_ontoDitch, .inl (cy 1, 20, .inl f_ontoDitchf))]) := by
  refine ctI.of (by decide +kernel) (Nat.le_of_ble_eq_true rfl) ?_
  intro p e s m args below meth c A ls Q hQ X hr hlocks hin hA hP hD hS hl
  have hx := X.1
  have hb := X.2.1
  have hK := X.2.2.2.2.2.1
  have hl : lv_has ls 11 [(0, .ref h0), (1, .int p1), (2, .int p2), (3, .int p3)] := hl
  have dy_1 := ti_bd p2
  have dy_2 := ti_bd p3
  refine lv_iconst (v := 1) hx hb dX2_spread_0 (by decide) ?_
  refine lv_iload_n hx hb dX2_spread_1 rfl (lv_at hl 1 rfl) ?_
  refine lv_ishl hx hb dX2_spread_2 ?_
  refine lv_topi (fun x_3 ex_3 => ?_)
  have tx_3 : 0 ≤ x_3.toInt ∧ x_3.toInt ≤ 1048575 := ti_shl1 ex_3 (by omega) (by omega)
  refine lv_istore (lv' := [(4, .int x_3), (0, .ref h0), (1, .int p1), (2, .int p2), (3, .int p3)]) hx hb dX2_spread_3 hl (by decide) rfl (fun ls hl => ?_)
  refine lv_iload hx hb dX2_spread_5 (lv_at hl 0 rfl) ?_
  refine lv_istore (lv' := [(5, .int x_3), (4, .int x_3), (0, .ref h0), (1, .int p1), (2, .int p2), (3, .int p3)]) hx hb dX2_spread_7 hl (by decide) rfl (fun ls hl => ?_)
  refine lv_iconst (v := 0) hx hb dX2_spread_9 (by decide) ?_
  refine lv_istore (lv' := [(6, .int 0), (5, .int x_3), (4, .int x_3), (0, .ref h0), (1, .int p1), (2, .int p2), (3, .int p3)]) hx hb dX2_spread_10 hl (by decide) rfl (fun ls hl => ?_)
  have lp_4 : ∀ (nlp_4 : Nat) (i_5 : Int32) (i_7 : Int32) (i_9 : Int32) (H : Heap) (locs : List Loc) (ls : Array Slot), (0 ≤ i_5.toInt ∧ i_5.toInt ≤ 20) → (0 ≤ i_7.toInt ∧ i_7.toInt ≤ 1048575) → (0 ≤ i_9.toInt ∧ i_9.toInt ≤ 1048575) → (21 - i_5.toInt ≤ (nlp_4 : Int)) → va_P (dC, dI) vwCl [(h0, .inr (2, [.ref f_fromLawn, .ref f_fromDitch, .ref f_ontoDitch])), (f_fromLawn, .inl (cy 1, 20, .inl f_fromLawnf)), (f_fromDitch, .inl (cy 1, 20, .inl f_fromDitchf)), (f_ontoDitch, .inl (cy 1, 20, .inl f_ontoDitchf))] H → va_D A [(h0, .inr (2, [.ref f_fromLawn, .ref f_fromDitch, .ref f_ontoDitch])), (f_fromLawn, .inl (cy 1, 20, .inl f_fromLawnf)), (f_fromDitch, .inl (cy 1, 20, .inl f_fromDitchf)), (f_ontoDitch, .inl (cy 1, 20, .inl f_ontoDitchf))] → va_S A s.heap H locs → lv_has ls 11 [(6, .int i_5), (5, .int i_7), (4, .int i_9), (0, .ref h0), (1, .int p1), (2, .int p2), (3, .int p3)] → W p l e ({ frames := 1, cells := 0, slots := 0, locals := 20 } : Room) s m args below meth c H locs 0 0 Q (F0 m 12 ls []) := by
    intro nlp_4
    induction nlp_4 with
    | zero =>
      intro i_5 i_7 i_9 H locs ls b_6 b_8 b_10 hmlp_4 hP hD hS hl
      exfalso
      have di_5 := ti_bd i_5
      have di_7 := ti_bd i_7
      have di_9 := ti_bd i_9
      omega
    | succ nlp_4 ihlp_4 =>
      intro i_5 i_7 i_9 H locs ls b_6 b_8 b_10 hmlp_4 hP hD hS hl
      refine lv_iload hx hb dX2_spread_12 (lv_at hl 0 rfl) ?_
      refine lv_bipush (v := 20) hx hb dX2_spread_14 (by decide) ?_
      refine lv_icmp_ge (tgt := 119) hx hb dX2_spread_16 (by decide) (fun h_11 => ?_) (fun h_11 => ?_)
      · have h_11 : 20 ≤ i_5.toInt := c_le h_11
        refine lv_iload hx hb dX2_spread_119 (lv_at hl 2 rfl) ?_
        exact eI hQ X hr hlocks hP hD hS () [0, 1, 2, 3] (by decide) rfl rfl trivial (Nat.le_of_ble_eq_true rfl) (Nat.le_of_ble_eq_true rfl) dX2_spread_121
      · have h_11 : i_5.toInt < 20 := c_nle h_11
        refine lv_iload hx hb dX2_spread_19 (lv_at hl 1 rfl) ?_
        refine lv_if_eq (tgt := 119) hx hb dX2_spread_21 (by decide) (fun h_12 => ?_) (fun h_12 => ?_)
        · have h_12 : i_7.toInt = 0 := c_eq h_12
          refine lv_iload hx hb dX2_spread_119 (lv_at hl 2 rfl) ?_
          exact eI hQ X hr hlocks hP hD hS () [0, 1, 2, 3] (by decide) rfl rfl trivial (Nat.le_of_ble_eq_true rfl) (Nat.le_of_ble_eq_true rfl) dX2_spread_121
        · have h_12 : i_7.toInt ≠ 0 := c_ne h_12
          refine lv_iload hx hb dX2_spread_24 (lv_at hl 1 rfl) ?_
          refine lv_iload hx hb dX2_spread_26 (lv_at hl 1 rfl) ?_
          refine lv_ineg hx hb dX2_spread_28 ?_
          refine lv_topi (fun x_13 ex_13 => ?_)
          refine lv_iand hx hb dX2_spread_29 ?_
          have dy_14 := ti_bd x_13
          refine lv_topi (fun x_15 ex_15 => ?_)
          have tx_15 : 0 ≤ x_15.toInt ∧ x_15.toInt ≤ i_7.toInt := ti_andl ex_15 (by omega)
          refine lv_istore (lv' := [(7, .int x_15), (6, .int i_5), (5, .int i_7), (4, .int i_9), (0, .ref h0), (1, .int p1), (2, .int p2), (3, .int p3)]) hx hb dX2_spread_30 hl (by decide) rfl (fun ls hl => ?_)
          refine lv_iload hx hb dX2_spread_32 (lv_at hl 0 rfl) ?_
          refine lv_iconst (v := 1) hx hb dX2_spread_34 (by decide) ?_
          refine lv_isub hx hb dX2_spread_35 ?_
          refine lv_topi (fun x_16 ex_16 => ?_)
          have tx_16 : x_16.toInt = x_15.toInt - 1 := ti_sub (A := x_15.toInt) (B := 1) ex_16 rfl rfl (by omega) (by omega)
          refine sl_Ic (rS_I (As := [.int x_16]) (rest := []) X hp_st (fun _ _ _ h => h) (sJ6_bitCount l dC dI cy x_16) kJ6_bitCount_0f7a4 w_943 mX2_41 hP hD hS hA [] (by decide) rfl hl rfl rfl (Nat.le_of_ble_eq_true rfl) dX2_spread_36 ⟨(Nat.le_of_ble_eq_true rfl), (Nat.le_of_ble_eq_true rfl)⟩ ⟨(Nat.le_of_ble_eq_true rfl), (Nat.le_of_ble_eq_true rfl)⟩) hP hD hS hA [] [true, true, true, true] rfl rfl rfl (fun r_17 u_19 H locs k_18 hP hD hS => ?_)
          have k_18 : (r_17 = bcF x_16) := k_18
          have hPD := vPD (ws' := [(h0, .inr (2, [.ref f_fromLawn, .ref f_fromDitch, .ref f_ontoDitch])), (f_fromLawn, .inl (cy 1, 20, .inl f_fromLawnf)), (f_fromDitch, .inl (cy 1, 20, .inl f_fromDitchf)), (f_ontoDitch, .inl (cy 1, 20, .inl f_ontoDitchf))]) hP hD rfl
          have hP := hPD.1
          have hD := hPD.2
          have tr_17 : 0 ≤ r_17.toInt ∧ r_17.toInt ≤ 19 := bc_low ex_13 ex_15 ex_16 k_18 (by omega) (by omega)
          refine lv_istore (lv' := [(8, .int r_17), (7, .int x_15), (6, .int i_5), (5, .int i_7), (4, .int i_9), (0, .ref h0), (1, .int p1), (2, .int p2), (3, .int p3)]) hx hb dX2_spread_39 hl (by decide) rfl (fun ls hl => ?_)
          refine lv_iload_n hx hb dX2_spread_41 rfl (lv_at hl 7 rfl) ?_
          refine lv_iload hx hb dX2_spread_42 (lv_at hl 1 rfl) ?_
          refine lv_iand hx hb dX2_spread_44 ?_
          refine lv_topi (fun x_20 ex_20 => ?_)
          have tx_20 : 0 ≤ x_20.toInt ∧ x_20.toInt ≤ x_15.toInt := ti_andr ex_20 (by omega)
          refine lv_if_ne (tgt := 58) hx hb dX2_spread_45 (by decide) (fun h_21 => ?_) (fun h_21 => ?_)
          · have h_21 : x_20.toInt ≠ 0 := c_ne h_21
            refine lv_aload_n hx hb dX2_spread_58 rfl (lv_at hl 5 rfl) ?_
            refine r_get X kcX2 (ci := 2) rfl hP 0 rfl 1 (by decide) fX2_15 rfl dX2_spread_59 ?_
            refine lv_iload hx hb dX2_spread_62 (lv_at hl 0 rfl) ?_
            refine va_iald (D := (dC, dI)) (cl := vwCl) hx hb hK hP 2 1 rfl rfl (i := r_17) (vin (by omega) (by omega)) dX2_spread_64 ?_
            refine lv_topi (fun x_22 ex_22 => ?_)
            have bx_22 : 0 ≤ x_22.toInt ∧ x_22.toInt ≤ 1048575 := rb_at hf_fromDitchf ex_22 (by omega) (by omega)
            refine lv_iload_n hx hb dX2_spread_65 rfl (lv_at hl 7 rfl) ?_
            refine lv_iconst (v := -1) hx hb dX2_spread_66 (by decide) ?_
            refine lv_ixor hx hb dX2_spread_67 ?_
            refine lv_topi (fun x_23 ex_23 => ?_)
            refine lv_iand hx hb dX2_spread_68 ?_
            have dy_24 := ti_bd x_23
            refine lv_topi (fun x_25 ex_25 => ?_)
            have tx_25 : 0 ≤ x_25.toInt ∧ x_25.toInt ≤ x_22.toInt := ti_andl ex_25 (by omega)
            refine lv_aload_n hx hb dX2_spread_69 rfl (lv_at hl 5 rfl) ?_
            refine r_get X kcX2 (ci := 2) rfl hP 0 rfl 2 (by decide) fX2_18 rfl dX2_spread_70 ?_
            refine lv_iload hx hb dX2_spread_73 (lv_at hl 0 rfl) ?_
            refine va_iald (D := (dC, dI)) (cl := vwCl) hx hb hK hP 3 1 rfl rfl (i := r_17) (vin (by omega) (by omega)) dX2_spread_75 ?_
            refine lv_topi (fun x_26 ex_26 => ?_)
            have bx_26 : 0 ≤ x_26.toInt ∧ x_26.toInt ≤ 1048575 := rb_at hf_ontoDitchf ex_26 (by omega) (by omega)
            refine lv_iload_n hx hb dX2_spread_76 rfl (lv_at hl 7 rfl) ?_
            refine lv_iand hx hb dX2_spread_77 ?_
            refine lv_topi (fun x_27 ex_27 => ?_)
            have tx_27 : 0 ≤ x_27.toInt ∧ x_27.toInt ≤ x_26.toInt := ti_andl ex_27 (by omega)
            refine lv_ior hx hb dX2_spread_78 ?_
            refine lv_topi (fun x_28 ex_28 => ?_)
            have tx_28 : 0 ≤ x_28.toInt ∧ x_28.toInt ≤ 1048575 := ti_or20 ex_28 (by omega) (by omega) (by omega) (by omega)
            refine lv_istore (lv' := [(9, .int x_28), (8, .int r_17), (7, .int x_15), (6, .int i_5), (5, .int i_7), (4, .int i_9), (0, .ref h0), (1, .int p1), (2, .int p2), (3, .int p3)]) hx hb dX2_spread_79 hl (by decide) rfl (fun ls hl => ?_)
            refine lv_iload hx hb dX2_spread_81 (lv_at hl 0 rfl) ?_
            refine lv_iload hx hb dX2_spread_83 (lv_at hl 5 rfl) ?_
            refine lv_iconst (v := -1) hx hb dX2_spread_85 (by decide) ?_
            refine lv_ixor hx hb dX2_spread_86 ?_
            refine lv_topi (fun x_29 ex_29 => ?_)
            refine lv_iand hx hb dX2_spread_87 ?_
            have dy_30 := ti_bd x_29
            refine lv_topi (fun x_31 ex_31 => ?_)
            have tx_31 : 0 ≤ x_31.toInt ∧ x_31.toInt ≤ x_28.toInt := ti_andl ex_31 (by omega)
            refine lv_iload_n hx hb dX2_spread_88 rfl (lv_at hl 9 rfl) ?_
            refine lv_iconst (v := -1) hx hb dX2_spread_89 (by decide) ?_
            refine lv_ixor hx hb dX2_spread_90 ?_
            refine lv_topi (fun x_32 ex_32 => ?_)
            refine lv_iand hx hb dX2_spread_91 ?_
            have dy_33 := ti_bd x_32
            refine lv_topi (fun x_34 ex_34 => ?_)
            have tx_34 : 0 ≤ x_34.toInt ∧ x_34.toInt ≤ x_31.toInt := ti_andl ex_34 (by omega)
            refine lv_istore (lv' := [(10, .int x_34), (9, .int x_28), (8, .int r_17), (7, .int x_15), (6, .int i_5), (5, .int i_7), (4, .int i_9), (0, .ref h0), (1, .int p1), (2, .int p2), (3, .int p3)]) hx hb dX2_spread_92 hl (by decide) rfl (fun ls hl => ?_)
            refine lv_iload hx hb dX2_spread_94 (lv_at hl 6 rfl) ?_
            refine lv_iload hx hb dX2_spread_96 (lv_at hl 0 rfl) ?_
            refine lv_ior hx hb dX2_spread_98 ?_
            refine lv_topi (fun x_35 ex_35 => ?_)
            have tx_35 : 0 ≤ x_35.toInt ∧ x_35.toInt ≤ 1048575 := ti_or20 ex_35 (by omega) (by omega) (by omega) (by omega)
            refine lv_istore (lv' := [(4, .int x_35), (10, .int x_34), (9, .int x_28), (8, .int r_17), (7, .int x_15), (6, .int i_5), (5, .int i_7), (0, .ref h0), (1, .int p1), (2, .int p2), (3, .int p3)]) hx hb dX2_spread_99 hl (by decide) rfl (fun ls hl => ?_)
            refine lv_iload hx hb dX2_spread_101 (lv_at hl 6 rfl) ?_
            refine lv_iload hx hb dX2_spread_103 (lv_at hl 4 rfl) ?_
            refine lv_iconst (v := -1) hx hb dX2_spread_105 (by decide) ?_
            refine lv_ixor hx hb dX2_spread_106 ?_
            refine lv_topi (fun x_36 ex_36 => ?_)
            refine lv_iand hx hb dX2_spread_107 ?_
            have dy_37 := ti_bd x_36
            refine lv_topi (fun x_38 ex_38 => ?_)
            have tx_38 : 0 ≤ x_38.toInt ∧ x_38.toInt ≤ i_7.toInt := ti_andl ex_38 (by omega)
            refine lv_iload hx hb dX2_spread_108 (lv_at hl 1 rfl) ?_
            refine lv_ior hx hb dX2_spread_110 ?_
            refine lv_topi (fun x_39 ex_39 => ?_)
            have tx_39 : 0 ≤ x_39.toInt ∧ x_39.toInt ≤ 1048575 := ti_or20 ex_39 (by omega) (by omega) (by omega) (by omega)
            refine lv_istore (lv' := [(5, .int x_39), (4, .int x_35), (10, .int x_34), (9, .int x_28), (8, .int r_17), (7, .int x_15), (6, .int i_5), (0, .ref h0), (1, .int p1), (2, .int p2), (3, .int p3)]) hx hb dX2_spread_111 hl (by decide) rfl (fun ls hl => ?_)
            obtain ⟨x_40, ex_40⟩ : ∃ y : Int32, y = i_5 + 1 := ⟨_, rfl⟩
            have tx_40 : x_40.toInt = i_5.toInt + 1 := ti_add (A := i_5.toInt) (B := 1) ex_40 rfl rfl (by omega) (by omega)
            refine lv_iinc (v := x_40) (lv' := [(6, .int x_40), (5, .int x_39), (4, .int x_35), (10, .int x_34), (9, .int x_28), (8, .int r_17), (7, .int x_15), (0, .ref h0), (1, .int p1), (2, .int p2), (3, .int p3)]) hx hb dX2_spread_113 hl (k := 6) rfl (by rw [ex_40]; rfl) (by decide) rfl (fun ls hl => ?_)
            refine lv_goto (tgt := 12) hx hb dX2_spread_116 (by decide) ?_
            exact ihlp_4 x_40 x_39 x_35 _ _ _ (by omega) (by omega) (by omega) (show 21 - x_40.toInt ≤ (nlp_4 : Int) by omega) hP hD hS (lv_sub hl [0, 1, 2, 7, 8, 9, 10] rfl)
          · have h_21 : x_20.toInt = 0 := c_eq h_21
            refine lv_aload_n hx hb dX2_spread_48 rfl (lv_at hl 5 rfl) ?_
            refine r_get X kcX2 (ci := 2) rfl hP 0 rfl 0 (by decide) fX2_9 rfl dX2_spread_49 ?_
            refine lv_iload hx hb dX2_spread_52 (lv_at hl 0 rfl) ?_
            refine va_iald (D := (dC, dI)) (cl := vwCl) hx hb hK hP 1 1 rfl rfl (i := r_17) (vin (by omega) (by omega)) dX2_spread_54 ?_
            refine lv_topi (fun x_41 ex_41 => ?_)
            have bx_41 : 0 ≤ x_41.toInt ∧ x_41.toInt ≤ 1048575 := rb_at hf_fromLawnf ex_41 (by omega) (by omega)
            refine lv_goto (tgt := 65) hx hb dX2_spread_55 (by decide) ?_
            refine lv_iload_n hx hb dX2_spread_65 rfl (lv_at hl 7 rfl) ?_
            refine lv_iconst (v := -1) hx hb dX2_spread_66 (by decide) ?_
            refine lv_ixor hx hb dX2_spread_67 ?_
            refine lv_topi (fun x_42 ex_42 => ?_)
            refine lv_iand hx hb dX2_spread_68 ?_
            have dy_43 := ti_bd x_42
            refine lv_topi (fun x_44 ex_44 => ?_)
            have tx_44 : 0 ≤ x_44.toInt ∧ x_44.toInt ≤ x_41.toInt := ti_andl ex_44 (by omega)
            refine lv_aload_n hx hb dX2_spread_69 rfl (lv_at hl 5 rfl) ?_
            refine r_get X kcX2 (ci := 2) rfl hP 0 rfl 2 (by decide) fX2_18 rfl dX2_spread_70 ?_
            refine lv_iload hx hb dX2_spread_73 (lv_at hl 0 rfl) ?_
            refine va_iald (D := (dC, dI)) (cl := vwCl) hx hb hK hP 3 1 rfl rfl (i := r_17) (vin (by omega) (by omega)) dX2_spread_75 ?_
            refine lv_topi (fun x_45 ex_45 => ?_)
            have bx_45 : 0 ≤ x_45.toInt ∧ x_45.toInt ≤ 1048575 := rb_at hf_ontoDitchf ex_45 (by omega) (by omega)
            refine lv_iload_n hx hb dX2_spread_76 rfl (lv_at hl 7 rfl) ?_
            refine lv_iand hx hb dX2_spread_77 ?_
            refine lv_topi (fun x_46 ex_46 => ?_)
            have tx_46 : 0 ≤ x_46.toInt ∧ x_46.toInt ≤ x_45.toInt := ti_andl ex_46 (by omega)
            refine lv_ior hx hb dX2_spread_78 ?_
            refine lv_topi (fun x_47 ex_47 => ?_)
            have tx_47 : 0 ≤ x_47.toInt ∧ x_47.toInt ≤ 1048575 := ti_or20 ex_47 (by omega) (by omega) (by omega) (by omega)
            refine lv_istore (lv' := [(9, .int x_47), (8, .int r_17), (7, .int x_15), (6, .int i_5), (5, .int i_7), (4, .int i_9), (0, .ref h0), (1, .int p1), (2, .int p2), (3, .int p3)]) hx hb dX2_spread_79 hl (by decide) rfl (fun ls hl => ?_)
            refine lv_iload hx hb dX2_spread_81 (lv_at hl 0 rfl) ?_
            refine lv_iload hx hb dX2_spread_83 (lv_at hl 5 rfl) ?_
            refine lv_iconst (v := -1) hx hb dX2_spread_85 (by decide) ?_
            refine lv_ixor hx hb dX2_spread_86 ?_
            refine lv_topi (fun x_48 ex_48 => ?_)
            refine lv_iand hx hb dX2_spread_87 ?_
            have dy_49 := ti_bd x_48
            refine lv_topi (fun x_50 ex_50 => ?_)
            have tx_50 : 0 ≤ x_50.toInt ∧ x_50.toInt ≤ x_47.toInt := ti_andl ex_50 (by omega)
            refine lv_iload_n hx hb dX2_spread_88 rfl (lv_at hl 9 rfl) ?_
            refine lv_iconst (v := -1) hx hb dX2_spread_89 (by decide) ?_
            refine lv_ixor hx hb dX2_spread_90 ?_
            refine lv_topi (fun x_51 ex_51 => ?_)
            refine lv_iand hx hb dX2_spread_91 ?_
            have dy_52 := ti_bd x_51
            refine lv_topi (fun x_53 ex_53 => ?_)
            have tx_53 : 0 ≤ x_53.toInt ∧ x_53.toInt ≤ x_50.toInt := ti_andl ex_53 (by omega)
            refine lv_istore (lv' := [(10, .int x_53), (9, .int x_47), (8, .int r_17), (7, .int x_15), (6, .int i_5), (5, .int i_7), (4, .int i_9), (0, .ref h0), (1, .int p1), (2, .int p2), (3, .int p3)]) hx hb dX2_spread_92 hl (by decide) rfl (fun ls hl => ?_)
            refine lv_iload hx hb dX2_spread_94 (lv_at hl 6 rfl) ?_
            refine lv_iload hx hb dX2_spread_96 (lv_at hl 0 rfl) ?_
            refine lv_ior hx hb dX2_spread_98 ?_
            refine lv_topi (fun x_54 ex_54 => ?_)
            have tx_54 : 0 ≤ x_54.toInt ∧ x_54.toInt ≤ 1048575 := ti_or20 ex_54 (by omega) (by omega) (by omega) (by omega)
            refine lv_istore (lv' := [(4, .int x_54), (10, .int x_53), (9, .int x_47), (8, .int r_17), (7, .int x_15), (6, .int i_5), (5, .int i_7), (0, .ref h0), (1, .int p1), (2, .int p2), (3, .int p3)]) hx hb dX2_spread_99 hl (by decide) rfl (fun ls hl => ?_)
            refine lv_iload hx hb dX2_spread_101 (lv_at hl 6 rfl) ?_
            refine lv_iload hx hb dX2_spread_103 (lv_at hl 4 rfl) ?_
            refine lv_iconst (v := -1) hx hb dX2_spread_105 (by decide) ?_
            refine lv_ixor hx hb dX2_spread_106 ?_
            refine lv_topi (fun x_55 ex_55 => ?_)
            refine lv_iand hx hb dX2_spread_107 ?_
            have dy_56 := ti_bd x_55
            refine lv_topi (fun x_57 ex_57 => ?_)
            have tx_57 : 0 ≤ x_57.toInt ∧ x_57.toInt ≤ i_7.toInt := ti_andl ex_57 (by omega)
            refine lv_iload hx hb dX2_spread_108 (lv_at hl 1 rfl) ?_
            refine lv_ior hx hb dX2_spread_110 ?_
            refine lv_topi (fun x_58 ex_58 => ?_)
            have tx_58 : 0 ≤ x_58.toInt ∧ x_58.toInt ≤ 1048575 := ti_or20 ex_58 (by omega) (by omega) (by omega) (by omega)
            refine lv_istore (lv' := [(5, .int x_58), (4, .int x_54), (10, .int x_53), (9, .int x_47), (8, .int r_17), (7, .int x_15), (6, .int i_5), (0, .ref h0), (1, .int p1), (2, .int p2), (3, .int p3)]) hx hb dX2_spread_111 hl (by decide) rfl (fun ls hl => ?_)
            obtain ⟨x_59, ex_59⟩ : ∃ y : Int32, y = i_5 + 1 := ⟨_, rfl⟩
            have tx_59 : x_59.toInt = i_5.toInt + 1 := ti_add (A := i_5.toInt) (B := 1) ex_59 rfl rfl (by omega) (by omega)
            refine lv_iinc (v := x_59) (lv' := [(6, .int x_59), (5, .int x_58), (4, .int x_54), (10, .int x_53), (9, .int x_47), (8, .int r_17), (7, .int x_15), (0, .ref h0), (1, .int p1), (2, .int p2), (3, .int p3)]) hx hb dX2_spread_113 hl (k := 6) rfl (by rw [ex_59]; rfl) (by decide) rfl (fun ls hl => ?_)
            refine lv_goto (tgt := 12) hx hb dX2_spread_116 (by decide) ?_
            exact ihlp_4 x_59 x_58 x_54 _ _ _ (by omega) (by omega) (by omega) (show 21 - x_59.toInt ≤ (nlp_4 : Int) by omega) hP hD hS (lv_sub hl [0, 1, 2, 7, 8, 9, 10] rfl)
  exact lp_4 21 0 x_3 x_3 _ _ _ (by decide) (by omega) (by omega) (show 21 - 0 ≤ ((21 : Nat) : Int) by omega) hP hD hS hl
set_option maxHeartbeats 4000000 in
set_option maxRecDepth 100000 in
theorem sX2_comesTo (l : Launch) (dC : Nat → ClassId) (dI : Nat → Nat → Nat) (cy : Nat → ClassId) (h0 : Nat) (f_fromLawn : Nat) (f_fromDitch : Nat) (f_ontoDitch : Nat) (f_fromLawnf : Nat → Int32) (f_fromDitchf : Nat → Int32) (f_ontoDitchf : Nat → Int32) (p1 : Int32) (p2 : Int32) (p3 : Int32) (p4 : Int32) (hf_fromLawnf : rb f_fromLawnf 20 0 1048575) (hf_fromDitchf : rb f_fromDitchf 20 0 1048575) (hf_ontoDitchf : rb f_ontoDitchf 20 0 1048575) (hp1 : 0 ≤ p1.toInt ∧ p1.toInt ≤ 19) : ctI l dC dI cy hp yX2_comesTo cX2_comesTo 5 .boolean ({ frames := 2, cells := 0, slots := 0, locals := 50 } : Room) [.ref h0, .int p1, .int p2, .int p3, .int p4] [(h0, .inr (2, [.ref f_fromLawn, .ref f_fromDitch, .ref f_ontoDitch])), (f_fromLawn, .inl (cy 1, 20, .inl f_fromLawnf)), (f_fromDitch, .inl (cy 1, 20, .inl f_fromDitchf)), (f_ontoDitch, .inl (cy 1, 20, .inl f_ontoDitchf))] (S := Unit) (fun r _ => (0 ≤ r.toInt ∧ r.toInt ≤ 1)) (fun _ => [(h0, .inr (2, [.ref f_fromLawn, .ref f_fromDitch, .ref f_ontoDitch])), (f_fromLawn, .inl (cy 1, 20, .inl f_fromLawnf)), (f_fromDitch, .inl (cy 1, 20, .inl f_fromDitchf)), (f_ontoDitch, .inl (cy 1, 20, .inl f_ontoDitchf))]) := by
  refine ctI.of (by decide +kernel) (Nat.le_of_ble_eq_true rfl) ?_
  intro p e s m args below meth c A ls Q hQ X hr hlocks hin hA hP hD hS hl
  have hx := X.1
  have hb := X.2.1
  have hK := X.2.2.2.2.2.1
  have hl : lv_has ls 5 [(0, .ref h0), (1, .int p1), (2, .int p2), (3, .int p3), (4, .int p4)] := hl
  have dy_1 := ti_bd p2
  have dy_2 := ti_bd p3
  have dy_3 := ti_bd p4
  refine lv_aload_n hx hb dX2_comesTo_0 rfl (lv_at hl 0 rfl) ?_
  refine lv_iload_n hx hb dX2_comesTo_1 rfl (lv_at hl 1 rfl) ?_
  refine lv_iload_n hx hb dX2_comesTo_2 rfl (lv_at hl 3 rfl) ?_
  refine lv_iload hx hb dX2_comesTo_3 (lv_at hl 4 rfl) ?_
  refine sl_Ic (rV_I (As := [.int p1, .int p3, .int p4]) (rest := []) X hp_st (fun _ _ _ h => h) (sX2_spread l dC dI cy h0 f_fromLawn f_fromDitch f_ontoDitch f_fromLawnf f_fromDitchf f_ontoDitchf p1 p3 p4 hf_fromLawnf hf_fromDitchf hf_ontoDitchf hp1) kX2_spread vX2_spread mX2_47 hP hD hS hA [0, 1, 2, 3] (by decide) rfl 0 (ci := 2) rfl rfl rfl hl rfl rfl (Nat.le_of_ble_eq_true rfl) dX2_comesTo_5 ⟨(Nat.le_of_ble_eq_true rfl), (Nat.le_of_ble_eq_true rfl)⟩ ⟨(Nat.le_of_ble_eq_true rfl), (Nat.le_of_ble_eq_true rfl)⟩) hP hD hS hA [0, 1, 2, 3] [false, false, false, false] rfl rfl rfl (fun r_4 u_6 H locs k_5 hP hD hS => ?_)
  have hPD := vPD (ws' := [(h0, .inr (2, [.ref f_fromLawn, .ref f_fromDitch, .ref f_ontoDitch])), (f_fromLawn, .inl (cy 1, 20, .inl f_fromLawnf)), (f_fromDitch, .inl (cy 1, 20, .inl f_fromDitchf)), (f_ontoDitch, .inl (cy 1, 20, .inl f_ontoDitchf))]) hP hD rfl
  have hP := hPD.1
  have hD := hPD.2
  refine lv_iload_n hx hb dX2_comesTo_8 rfl (lv_at hl 2 rfl) ?_
  refine lv_ishr hx hb dX2_comesTo_9 ?_
  have dy_7 := ti_bd r_4
  refine lv_topi (fun x_8 ex_8 => ?_)
  refine lv_iconst (v := 1) hx hb dX2_comesTo_10 (by decide) ?_
  refine lv_iand hx hb dX2_comesTo_11 ?_
  have dy_9 := ti_bd x_8
  refine lv_topi (fun x_10 ex_10 => ?_)
  have tx_10 : x_10.toInt = 0 ∨ x_10.toInt = 1 := ti_and1 ex_10
  refine lv_iconst (v := 1) hx hb dX2_comesTo_12 (by decide) ?_
  refine lv_icmp_ne (tgt := 20) hx hb dX2_comesTo_13 (by decide) (fun h_11 => ?_) (fun h_11 => ?_)
  · have h_11 : x_10.toInt ≠ 1 := c_ne h_11
    refine lv_iconst (v := 0) hx hb dX2_comesTo_20 (by decide) ?_
    exact eI hQ X hr hlocks hP hD hS () [0, 1, 2, 3] (by decide) rfl rfl (show (0 ≤ (0 : Int32).toInt ∧ (0 : Int32).toInt ≤ 1) from (by first | decide | (have h9_0 : (0 : Int32).toInt = 0 := (by decide); omega) | (refine ⟨by decide, ?_⟩; omega) | omega)) (Nat.le_of_ble_eq_true rfl) (Nat.le_of_ble_eq_true rfl) dX2_comesTo_21
  · have h_11 : x_10.toInt = 1 := c_eq h_11
    refine lv_iconst (v := 1) hx hb dX2_comesTo_16 (by decide) ?_
    refine lv_goto (tgt := 21) hx hb dX2_comesTo_17 (by decide) ?_
    exact eI hQ X hr hlocks hP hD hS () [0, 1, 2, 3] (by decide) rfl rfl (show (0 ≤ (1 : Int32).toInt ∧ (1 : Int32).toInt ≤ 1) from (by first | decide | (have h9_0 : (1 : Int32).toInt = 1 := (by decide); omega) | (refine ⟨by decide, ?_⟩; omega) | omega)) (Nat.le_of_ble_eq_true rfl) (Nat.le_of_ble_eq_true rfl) dX2_comesTo_21
