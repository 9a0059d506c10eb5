def bcF (i : Int32) : Int32 :=
  let u := fun (x : Int32) (k : Int32) => (x.toUInt32 >>> (k.toUInt32 &&& Int32.toUInt32 31)).toInt32
  let a := i - (u i 1 &&& 1431655765)
  let b := (a &&& 858993459) + (u a 2 &&& 858993459)
  let c := (b + u b 4) &&& 252645135
  let d := c + u c 8
  let e := d + u d 16
  e &&& 63
set_option maxHeartbeats 4000000 in
set_option maxRecDepth 100000 in
theorem sJ6_bitCount (l : Launch) (dC : Nat → ClassId) (dI : Nat → Nat → Nat) (cy : Nat → ClassId) (p1 : Int32) : ctI l dC dI cy hp yJ6_bitCount_0f7a4 cJ6_bitCount_0f7a4 1 .int ({ frames := 0, cells := 0, slots := 0, locals := 0 } : Room) [.int p1] [] (S := Unit) (fun r _ => (r = bcF p1)) (fun _ => []) := by
  refine ctI.of (by decide +kernel) (Nat.le_of_ble_eq_true rfl) ?_
  intro p e s m args below meth c A ls Q hQ X hr hlocks hin hA hP hD hS hl
  have hx := X.1
  have hb := X.2.1
  have hK := X.2.2.2.2.2.1
  have hl : lv_has ls 1 [(0, .int p1)] := hl
  have dy_1 := ti_bd p1
  refine lv_iload_n hx hb dJ6_bitCount_0f7a4_0 rfl (lv_at hl 0 rfl) ?_
  refine lv_iload_n hx hb dJ6_bitCount_0f7a4_1 rfl (lv_at hl 0 rfl) ?_
  refine lv_iconst (v := 1) hx hb dJ6_bitCount_0f7a4_2 (by decide) ?_
  obtain ⟨x_2, ex_2⟩ : ∃ y : Int32, ((p1 : Int32).toUInt32 >>> ((1 : Int32).toUInt32 &&& Int32.toUInt32 31)).toInt32 = y := ⟨_, rfl⟩
  refine lv_iushr hx hb dJ6_bitCount_0f7a4_3 ex_2 ?_
  refine lv_ldcw (v := 1431655765) hx hb X.2.2.2.1 (X.2.2.2.2.1 _ w_945) dJ6_bitCount_0f7a4_4 ?_
  refine lv_iand hx hb dJ6_bitCount_0f7a4_7 ?_
  have dy_3 := ti_bd x_2
  refine lv_topi (fun x_4 ex_4 => ?_)
  have tx_4 : 0 ≤ x_4.toInt ∧ x_4.toInt ≤ 1431655765 := ti_andr ex_4 (by decide)
  refine lv_isub hx hb dJ6_bitCount_0f7a4_8 ?_
  refine lv_topi (fun x_5 ex_5 => ?_)
  refine lv_istore_n (lv' := [(0, .int x_5)]) hx hb dJ6_bitCount_0f7a4_9 rfl hl (by decide) rfl (fun ls hl => ?_)
  refine lv_iload_n hx hb dJ6_bitCount_0f7a4_10 rfl (lv_at hl 0 rfl) ?_
  refine lv_ldcw (v := 858993459) hx hb X.2.2.2.1 (X.2.2.2.2.1 _ w_946) dJ6_bitCount_0f7a4_11 ?_
  refine lv_iand hx hb dJ6_bitCount_0f7a4_14 ?_
  have dy_6 := ti_bd x_5
  refine lv_topi (fun x_7 ex_7 => ?_)
  have tx_7 : 0 ≤ x_7.toInt ∧ x_7.toInt ≤ 858993459 := ti_andr ex_7 (by decide)
  refine lv_iload_n hx hb dJ6_bitCount_0f7a4_15 rfl (lv_at hl 0 rfl) ?_
  refine lv_iconst (v := 2) hx hb dJ6_bitCount_0f7a4_16 (by decide) ?_
  obtain ⟨x_8, ex_8⟩ : ∃ y : Int32, ((x_5 : Int32).toUInt32 >>> ((2 : Int32).toUInt32 &&& Int32.toUInt32 31)).toInt32 = y := ⟨_, rfl⟩
  refine lv_iushr hx hb dJ6_bitCount_0f7a4_17 ex_8 ?_
  refine lv_ldcw (v := 858993459) hx hb X.2.2.2.1 (X.2.2.2.2.1 _ w_946) dJ6_bitCount_0f7a4_18 ?_
  refine lv_iand hx hb dJ6_bitCount_0f7a4_21 ?_
  have dy_9 := ti_bd x_8
  refine lv_topi (fun x_10 ex_10 => ?_)
  have tx_10 : 0 ≤ x_10.toInt ∧ x_10.toInt ≤ 858993459 := ti_andr ex_10 (by decide)
  refine lv_iadd hx hb dJ6_bitCount_0f7a4_22 ?_
  refine lv_topi (fun x_11 ex_11 => ?_)
  have tx_11 : x_11.toInt = x_7.toInt + x_10.toInt := ti_add (A := x_7.toInt) (B := x_10.toInt) ex_11 rfl rfl (by omega) (by omega)
  refine lv_istore_n (lv' := [(0, .int x_11)]) hx hb dJ6_bitCount_0f7a4_23 rfl hl (by decide) rfl (fun ls hl => ?_)
  refine lv_iload_n hx hb dJ6_bitCount_0f7a4_24 rfl (lv_at hl 0 rfl) ?_
  refine lv_iload_n hx hb dJ6_bitCount_0f7a4_25 rfl (lv_at hl 0 rfl) ?_
  refine lv_iconst (v := 4) hx hb dJ6_bitCount_0f7a4_26 (by decide) ?_
  obtain ⟨x_12, ex_12⟩ : ∃ y : Int32, ((x_11 : Int32).toUInt32 >>> ((4 : Int32).toUInt32 &&& Int32.toUInt32 31)).toInt32 = y := ⟨_, rfl⟩
  refine lv_iushr hx hb dJ6_bitCount_0f7a4_27 ex_12 ?_
  refine lv_iadd hx hb dJ6_bitCount_0f7a4_28 ?_
  have dy_13 := ti_bd x_12
  refine lv_topi (fun x_14 ex_14 => ?_)
  refine lv_ldcw (v := 252645135) hx hb X.2.2.2.1 (X.2.2.2.2.1 _ w_947) dJ6_bitCount_0f7a4_29 ?_
  refine lv_iand hx hb dJ6_bitCount_0f7a4_32 ?_
  have dy_15 := ti_bd x_14
  refine lv_topi (fun x_16 ex_16 => ?_)
  have tx_16 : 0 ≤ x_16.toInt ∧ x_16.toInt ≤ 252645135 := ti_andr ex_16 (by decide)
  refine lv_istore_n (lv' := [(0, .int x_16)]) hx hb dJ6_bitCount_0f7a4_33 rfl hl (by decide) rfl (fun ls hl => ?_)
  refine lv_iload_n hx hb dJ6_bitCount_0f7a4_34 rfl (lv_at hl 0 rfl) ?_
  refine lv_iload_n hx hb dJ6_bitCount_0f7a4_35 rfl (lv_at hl 0 rfl) ?_
  refine lv_bipush (v := 8) hx hb dJ6_bitCount_0f7a4_36 (by decide) ?_
  obtain ⟨x_17, ex_17⟩ : ∃ y : Int32, ((x_16 : Int32).toUInt32 >>> ((8 : Int32).toUInt32 &&& Int32.toUInt32 31)).toInt32 = y := ⟨_, rfl⟩
  refine lv_iushr hx hb dJ6_bitCount_0f7a4_38 ex_17 ?_
  refine lv_iadd hx hb dJ6_bitCount_0f7a4_39 ?_
  have dy_18 := ti_bd x_17
  refine lv_topi (fun x_19 ex_19 => ?_)
  refine lv_istore_n (lv' := [(0, .int x_19)]) hx hb dJ6_bitCount_0f7a4_40 rfl hl (by decide) rfl (fun ls hl => ?_)
  refine lv_iload_n hx hb dJ6_bitCount_0f7a4_41 rfl (lv_at hl 0 rfl) ?_
  refine lv_iload_n hx hb dJ6_bitCount_0f7a4_42 rfl (lv_at hl 0 rfl) ?_
  refine lv_bipush (v := 16) hx hb dJ6_bitCount_0f7a4_43 (by decide) ?_
  obtain ⟨x_20, ex_20⟩ : ∃ y : Int32, ((x_19 : Int32).toUInt32 >>> ((16 : Int32).toUInt32 &&& Int32.toUInt32 31)).toInt32 = y := ⟨_, rfl⟩
  refine lv_iushr hx hb dJ6_bitCount_0f7a4_45 ex_20 ?_
  refine lv_iadd hx hb dJ6_bitCount_0f7a4_46 ?_
  have dy_21 := ti_bd x_19
  have dy_22 := ti_bd x_20
  refine lv_topi (fun x_23 ex_23 => ?_)
  refine lv_istore_n (lv' := [(0, .int x_23)]) hx hb dJ6_bitCount_0f7a4_47 rfl hl (by decide) rfl (fun ls hl => ?_)
  refine lv_iload_n hx hb dJ6_bitCount_0f7a4_48 rfl (lv_at hl 0 rfl) ?_
  refine lv_bipush (v := 63) hx hb dJ6_bitCount_0f7a4_49 (by decide) ?_
  refine lv_iand hx hb dJ6_bitCount_0f7a4_51 ?_
  have dy_24 := ti_bd x_23
  refine lv_topi (fun x_25 ex_25 => ?_)
  have tx_25 : 0 ≤ x_25.toInt ∧ x_25.toInt ≤ 63 := ti_andr ex_25 (by decide)
  exact eI hQ X hr hlocks hP hD hS () [] (by decide) rfl rfl (show (x_25 = bcF p1) from (by subst_vars; rfl)) (Nat.le_of_ble_eq_true rfl) (Nat.le_of_ble_eq_true rfl) dJ6_bitCount_0f7a4_52
theorem bc_key : ∀ k : Nat, k < 20 → 0 ≤ (bcF (Int32.ofNat (2 ^ k) - 1)).toInt ∧ (bcF (Int32.ofNat (2 ^ k) - 1)).toInt ≤ 19 := by decide +kernel
theorem and_compl : ∀ (j m : Nat), m < 2 ^ j → m &&& (2 ^ j - 1 - m) = 0 := by
  intro j m hm
  apply Nat.eq_of_testBit_eq
  intro i
  rw [Nat.testBit_and, Nat.zero_testBit, show 2 ^ j - 1 - m = 2 ^ j - (m + 1) by omega, Nat.testBit_two_pow_sub_succ hm]
  cases Nat.testBit m i <;> simp
/-- the lowest bit of a number below 2^32 -/
theorem low_nat : ∀ (j n : Nat), 0 < n → n < 2 ^ j → ∃ k, k < j ∧ n &&& (2 ^ j - n) = 2 ^ k ∧ 2 ^ k ≤ n := by
  intro j
  induction j with
  | zero => intro n h0 h1; omega
  | succ j ih =>
    intro n h0 h1
    obtain ⟨m, h⟩ : ∃ m, n = 2 * m ∨ n = 2 * m + 1 := ⟨n / 2, by omega⟩
    rcases h with h | h
    · obtain ⟨k, hk, e, hle⟩ := ih m (by omega) (by rw [Nat.pow_succ] at h1; omega)
      refine ⟨k + 1, by omega, ?_, by rw [Nat.pow_succ]; omega⟩
      rw [h, show 2 ^ (j + 1) - 2 * m = 2 * (2 ^ j - m) by rw [Nat.pow_succ]; omega, Nat.pow_succ, ← e, Nat.mul_comm _ 2]
      apply Nat.eq_of_testBit_eq
      intro i
      cases i with
      | zero => simp [Nat.testBit_zero]
      | succ i => rw [Nat.testBit_and, Nat.testBit_succ, Nat.testBit_succ, Nat.testBit_succ, show 2 * m / 2 = m by omega, show 2 * (2 ^ j - m) / 2 = 2 ^ j - m by omega, show 2 * (m &&& 2 ^ j - m) / 2 = (m &&& 2 ^ j - m) by omega, Nat.testBit_and]
    · refine ⟨0, by omega, ?_, by rw [Nat.pow_zero]; omega⟩
      rw [h, Nat.pow_zero]
      have hm : m < 2 ^ j := by rw [Nat.pow_succ] at h1; omega
      rw [show 2 ^ (j + 1) - (2 * m + 1) = 2 * (2 ^ j - 1 - m) + 1 by rw [Nat.pow_succ]; omega]
      apply Nat.eq_of_testBit_eq
      intro i
      cases i with
      | zero => simp [Nat.testBit_zero]
      | succ i =>
        have := congrArg (fun z => Nat.testBit z i) (and_compl j m hm)
        simp only [Nat.testBit_and, Nat.zero_testBit] at this
        rw [Nat.testBit_and, Nat.testBit_succ, Nat.testBit_succ, Nat.testBit_succ, show (2 * m + 1) / 2 = m by omega, show (2 * (2 ^ j - 1 - m) + 1) / 2 = 2 ^ j - 1 - m by omega, show 1 / 2 = 0 by omega, Nat.zero_testBit]
        exact this
theorem bc_low {fr x y z r : Int32} (e1 : x = -fr) (e2 : y = fr &&& x) (e3 : z = y - 1) (hr : r = bcF z) (h0 : 0 < fr.toInt) (h1 : fr.toInt ≤ 1048575) : 0 ≤ r.toInt ∧ r.toInt ≤ 19 := by
  have hn := ti_nat (a := fr) (by omega)
  have hxb : x.toBitVec.toNat = 2 ^ 32 - fr.toBitVec.toNat := by
    rw [e1, show (-fr).toBitVec = -fr.toBitVec from rfl, BitVec.toNat_neg, Nat.mod_eq_of_lt (by omega)]
  obtain ⟨k, hk, e, hle⟩ := low_nat 32 fr.toBitVec.toNat (by omega) (by omega)
  have hy : y.toBitVec.toNat = 2 ^ k := by
    rw [e2, show (fr &&& x).toBitVec = fr.toBitVec &&& x.toBitVec from rfl, BitVec.toNat_and, hxb, e]
  have hk20 : k < 20 := by
    rcases Nat.lt_or_ge k 20 with q | q
    · exact q
    · have := Nat.pow_le_pow_right (n := 2) (by omega) q
      omega
  have hy2 : y = Int32.ofNat (2 ^ k) := by
    apply Int32.toBitVec_inj.mp
    apply BitVec.eq_of_toNat_eq
    rw [hy, show (Int32.ofNat (2 ^ k)).toBitVec = BitVec.ofNat 32 (2 ^ k) from rfl, BitVec.toNat_ofNat, Nat.mod_eq_of_lt (Nat.pow_lt_pow_right (by omega) (by omega))]
  rw [hr, e3, hy2]
  exact bc_key k hk20
/-- bits -/
def bt (x : Int32) (j : Nat) : Bool := x.toBitVec.toNat.testBit j
theorem bt_or {a b x : Int32} (e : x = a ||| b) (j : Nat) : bt x j = (bt a j || bt b j) := by
  rw [e]
  unfold bt
  rw [show (a ||| b).toBitVec = a.toBitVec ||| b.toBitVec from rfl, BitVec.toNat_or, Nat.testBit_or]
theorem bt_and {a b x : Int32} (e : x = a &&& b) (j : Nat) : bt x j = (bt a j && bt b j) := by
  rw [e]
  unfold bt
  rw [show (a &&& b).toBitVec = a.toBitVec &&& b.toBitVec from rfl, BitVec.toNat_and, Nat.testBit_and]
theorem bt_m1 {j : Nat} (hj : j < 32) : bt (-1) j = true := by
  have key : ∀ k : Nat, k < 32 → bt (-1) k = true := by decide +kernel
  exact key j hj
theorem bt_not {a x : Int32} (e : x = a ^^^ (-1)) {j : Nat} (hj : j < 32) : bt x j = !bt a j := by
  have h : bt (a ^^^ (-1)) j = (bt a j ^^ bt (-1) j) := by
    unfold bt
    rw [show (a ^^^ (-1)).toBitVec = a.toBitVec ^^^ (-1 : Int32).toBitVec from rfl, BitVec.toNat_xor, Nat.testBit_xor]
  rw [e, h, bt_m1 hj, Bool.xor_true]
theorem bt_0 (j : Nat) : bt 0 j = false := Nat.zero_testBit j
theorem bt_p {k j : Nat} (hk : k < 20) : bt (Int32.ofNat (2 ^ k)) j = decide (k = j) := by
  unfold bt
  rw [show (Int32.ofNat (2 ^ k)).toBitVec = BitVec.ofNat 32 (2 ^ k) from rfl, BitVec.toNat_ofNat, Nat.mod_eq_of_lt (Nat.pow_lt_pow_right (by omega) (by omega)), Nat.testBit_two_pow]
theorem bt_sh {I y : Int32} (e : y = 1 <<< (I &&& 31)) (h0 : 0 ≤ I.toInt) (h1 : I.toInt ≤ 19) (j : Nat) : bt y j = decide (I.toInt.toNat = j) := by
  have key : ∀ k : Nat, k < 20 → (1 : Int32) <<< (Int32.ofNat k &&& 31) = Int32.ofNat (2 ^ k) := by decide +kernel
  have hy : I = Int32.ofNat I.toInt.toNat := by
    apply Int32.toInt_inj.mp
    rw [Int32.toInt_ofNat_of_lt (by omega)]
    omega
  rw [e, hy, key _ (by omega), bt_p (by omega), ← hy]
theorem bt_hi {x : Int32} (h0 : 0 ≤ x.toInt) (h1 : x.toInt ≤ 1048575) {j : Nat} (hj : 20 ≤ j) : bt x j = false := by
  have hn := ti_nat h0
  unfold bt
  refine Nat.testBit_lt_two_pow ?_
  have := Nat.pow_le_pow_right (n := 2) (by omega) hj
  omega
theorem bt_ext {x y : Int32} (h0 : 0 ≤ x.toInt) (h1 : x.toInt ≤ 1048575) (g0 : 0 ≤ y.toInt) (g1 : y.toInt ≤ 1048575) (h : ∀ j : Nat, j < 20 → bt x j = bt y j) : x = y := by
  have hn := ti_nat h0
  have gn := ti_nat g0
  have e : x.toBitVec.toNat = y.toBitVec.toNat := Nat.eq_of_testBit_eq (fun j => by
    by_cases z : j < 20
    · exact h j z
    · have a := bt_hi h0 h1 (j := j) (by omega)
      have b := bt_hi g0 g1 (j := j) (by omega)
      unfold bt at a b
      rw [a, b])
  exact Int32.toInt_inj.mp (by omega)
theorem low_bit {fr x y z r : Int32} (e1 : x = -fr) (e2 : y = fr &&& x) (e3 : z = y - 1) (hr : r = bcF z) (h0 : 0 < fr.toInt) (h1 : fr.toInt ≤ 1048575) : ∃ k : Nat, k < 20 ∧ y = Int32.ofNat (2 ^ k) ∧ bt fr k = true ∧ r.toInt = k := by
  have hn := ti_nat (a := fr) (by omega)
  have hxb : x.toBitVec.toNat = 2 ^ 32 - fr.toBitVec.toNat := by
    rw [e1, show (-fr).toBitVec = -fr.toBitVec from rfl, BitVec.toNat_neg, Nat.mod_eq_of_lt (by omega)]
  obtain ⟨k, hk, e, hle⟩ := low_nat 32 fr.toBitVec.toNat (by omega) (by omega)
  have hy : y.toBitVec.toNat = 2 ^ k := by
    rw [e2, show (fr &&& x).toBitVec = fr.toBitVec &&& x.toBitVec from rfl, BitVec.toNat_and, hxb, e]
  have hk20 : k < 20 := by
    rcases Nat.lt_or_ge k 20 with q | q
    · exact q
    · have := Nat.pow_le_pow_right (n := 2) (by omega) q
      omega
  have hy2 : y = Int32.ofNat (2 ^ k) := by
    apply Int32.toBitVec_inj.mp
    apply BitVec.eq_of_toNat_eq
    rw [hy, show (Int32.ofNat (2 ^ k)).toBitVec = BitVec.ofNat 32 (2 ^ k) from rfl, BitVec.toNat_ofNat, Nat.mod_eq_of_lt (Nat.pow_lt_pow_right (by omega) (by omega))]
  have hb : bt fr k = true := by
    have g := congrArg (fun q => Nat.testBit q k) e
    have g' : Nat.testBit (fr.toBitVec.toNat &&& (2 ^ 32 - fr.toBitVec.toNat)) k = Nat.testBit (2 ^ k) k := g
    rw [Nat.testBit_and, Nat.testBit_two_pow, decide_eq_true rfl, Bool.and_eq_true] at g'
    exact g'.1
  have key : ∀ k : Nat, k < 20 → (bcF (Int32.ofNat (2 ^ k) - 1)).toInt = k := by decide +kernel
  refine ⟨k, hk20, hy2, hb, ?_⟩
  rw [hr, e3, hy2]
  exact key k hk20
/-- where one comes to, whatever holds at the start and is kept by each edge -/
def Rch (E : Nat → Nat → Prop) (a b : Nat) : Prop := ∀ S : Nat → Prop, S a → (∀ i j : Nat, S i → E i j → S j) → S b
theorem Rch_0 {E : Nat → Nat → Prop} {a : Nat} : Rch E a a := fun _ h _ => h
theorem Rch_s {E : Nat → Nat → Prop} {a b c : Nat} (h : Rch E a b) (e : E b c) : Rch E a c := fun S h0 h1 => h1 b c (h S h0 h1) e
theorem Rch_c {E E' : Nat → Nat → Prop} {a b : Nat} (P : Nat → Prop) (ha : P a) (hP : ∀ i j : Nat, P i → E i j → P j) (h : ∀ i j : Nat, P i → E i j → E' i j) (hr : Rch E a b) : Rch E' a b := by
  have g := hr (fun j => P j ∧ Rch E' a j) ⟨ha, Rch_0⟩ (fun i j ⟨p, q⟩ e => ⟨hP i j p e, Rch_s q (h i j p e)⟩)
  exact g.2
/-- an edge of the flood -/
def spE (fL fD fO : Nat → Int32) (dit bar : Int32) (a b : Nat) : Prop := b < 20 ∧ bt bar b = false ∧ ((bt dit b = false ∧ ((bt dit a = false ∧ bt (fL a) b = true) ∨ (bt dit a = true ∧ bt (fD a) b = true))) ∨ (bt dit b = true ∧ bt (fO a) b = true))
def cB (x : Int32) : Nat → Nat
  | 0 => 0
  | k + 1 => cB x k + (if bt x k = true then 1 else 0)
theorem cB_s {x : Int32} {k : Nat} : cB x (k + 1) = cB x k + (if bt x k = true then 1 else 0) := rfl
theorem cB_le {x : Int32} : ∀ k : Nat, cB x k ≤ k
  | 0 => Nat.le_refl 0
  | k + 1 => by
    have := cB_le (x := x) k
    rw [cB_s]
    split <;> omega
theorem cB_0 {x : Int32} : ∀ k : Nat, cB x k = 0 → ∀ j : Nat, j < k → bt x j = false
  | 0, _, j, hj => by omega
  | k + 1, h, j, hj => by
    rw [cB_s] at h
    by_cases z : bt x k = true
    · rw [if_pos z] at h
      omega
    · rw [if_neg z] at h
      by_cases y : j = k
      · rw [y]
        exact Bool.eq_false_iff.mpr z
      · exact cB_0 k (by omega) j (by omega)
/-- counts after a step of the flood -/
theorem cB_up {sn fs m sn1 fs1 : Int32} {k : Nat} (hs : ∀ j : Nat, j < 20 → bt sn1 j = (bt sn j || bt m j)) (hf : ∀ j : Nat, j < 20 → bt fs1 j = ((bt fs j && !decide (k = j)) || bt m j)) (hm : ∀ j : Nat, j < 20 → bt m j = true → bt sn j = false) (hi : ∀ j : Nat, j < 20 → bt fs j = true → bt sn j = true) (hk : bt fs k = true) : ∀ n : Nat, n ≤ 20 → cB fs1 n + cB sn n + (if k < n then 1 else 0) = cB fs n + cB sn1 n
  | 0, _ => by
    rw [if_neg (by omega)]
    rfl
  | n + 1, hn => by
    have ih := cB_up hs hf hm hi hk n (by omega)
    rw [cB_s, cB_s, cB_s, cB_s, hs n (by omega), hf n (by omega)]
    have h1 := hm n (by omega)
    have h2 := hi n (by omega)
    by_cases z : k = n
    · subst z
      have g2 : bt sn k = true := h2 hk
      have g1 : bt m k = false := Bool.eq_false_iff.mpr (fun y => by
        have g := h1 y
        rw [g2] at g
        exact absurd g (by decide))
      have e1 : ((bt fs k && !decide (k = k)) || bt m k) = false := by
        rw [g1]
        simp
      have e2 : (bt sn k || bt m k) = true := by
        rw [g2]
        rfl
      rw [if_neg (Nat.lt_irrefl k)] at ih
      rw [e1, e2, if_neg (show ¬ (false = true) by decide), if_pos hk, if_pos g2, if_pos (show true = true from rfl), if_pos (Nat.lt_succ_self k)]
      omega
    · have e1 : (if k < n + 1 then 1 else 0) = (if k < n then 1 else 0) := by
        by_cases y : k < n
        · rw [if_pos y, if_pos (by omega)]
        · rw [if_neg y, if_neg (by omega)]
      rw [e1]
      cases a1 : bt fs n <;> cases a2 : bt sn n <;> cases a3 : bt m n <;> simp_all <;> omega
/-- the flood's loop -/
def spI (fL fD fO : Nat → Int32) (dit bar : Int32) (fr0 : Nat) (sn fs : Int32) (i : Int) : Prop := bt sn fr0 = true ∧ (∀ j : Nat, j < 20 → bt fs j = true → bt sn j = true) ∧ (∀ j : Nat, j < 20 → bt sn j = true → Rch (spE fL fD fO dit bar) fr0 j) ∧ (∀ a b : Nat, a < 20 → bt sn a = true → bt fs a = false → spE fL fD fO dit bar a b → bt sn b = true) ∧ (cB fs 20 : Int) + i ≤ (cB sn 20 : Int)
theorem spI_0 {fL fD fO : Nat → Int32} {dit bar I y : Int32} {i : Int} (e : y = 1 <<< (I &&& 31)) (h0 : 0 ≤ I.toInt) (h1 : I.toInt ≤ 19) (hi : i = 0) : spI fL fD fO dit bar I.toInt.toNat y y i := by
  have hb := fun j => bt_sh e h0 h1 j
  refine ⟨?_, fun j _ h => h, fun j hj h => ?_, fun a b ha h1 h2 _ => ?_, by omega⟩
  · rw [hb]
    exact decide_eq_true rfl
  · rw [hb] at h
    rw [← of_decide_eq_true h]
    exact Rch_0
  · rw [h1] at h2
    exact absurd h2 (by decide)
theorem spI_up {fL fD fO : Nat → Int32} {dit bar sn fs x y z r dy row nd a1 oc a2 o ns b1 nb m sn1 ny c1 fs1 : Int32} {fr0 : Nat} {i i1 : Int} (h : spI fL fD fO dit bar fr0 sn fs i) (hf0 : 0 ≤ fs.toInt) (hf1 : fs.toInt ≤ 1048575) (hne : fs.toInt ≠ 0) (ex : x = -fs) (ey : y = fs &&& x) (ez : z = y - 1) (hr : r = bcF z) (edy : dy = dit &&& y) (hrow : (dy.toInt = 0 ∧ row = fL (Int32.toNatClampNeg r)) ∨ (dy.toInt ≠ 0 ∧ row = fD (Int32.toNatClampNeg r))) (end_ : nd = dit ^^^ (-1)) (ea1 : a1 = row &&& nd) (eoc : oc = fO (Int32.toNatClampNeg r)) (ea2 : a2 = oc &&& dit) (eo : o = a1 ||| a2) (ens : ns = sn ^^^ (-1)) (eb1 : b1 = o &&& ns) (enb : nb = bar ^^^ (-1)) (em : m = b1 &&& nb) (esn : sn1 = sn ||| m) (eny : ny = y ^^^ (-1)) (ec1 : c1 = fs &&& ny) (efs : fs1 = c1 ||| m) (hi : i1 = i + 1) : spI fL fD fO dit bar fr0 sn1 fs1 i1 := by
  obtain ⟨h1, h2, h3, h4, h5⟩ := h
  obtain ⟨k, hk, hy, hbk, hrk⟩ := low_bit ex ey ez hr (by omega) hf1
  have nr : Int32.toNatClampNeg r = k := by
    have e9 : Int32.toNatClampNeg r = r.toInt.toNat := rfl
    omega
  rw [nr] at hrow eoc
  have hdy : ∀ j : Nat, bt dy j = (bt dit j && decide (k = j)) := fun j => by rw [bt_and edy, hy, bt_p hk]
  have hd0 : dy.toInt = 0 → bt dit k = false := fun q => by
    have q1 : dy = 0 := Int32.toInt_inj.mp q
    have q2 := hdy k
    rw [q1, bt_0, decide_eq_true rfl, Bool.and_true] at q2
    exact q2.symm
  have hd1 : dy.toInt ≠ 0 → bt dit k = true := fun q => by
    cases hc : bt dit k with
    | true => rfl
    | false =>
      exfalso
      apply q
      have q3 : dy = 0 := by
        apply Int32.toBitVec_inj.mp
        apply BitVec.eq_of_toNat_eq
        refine Nat.eq_of_testBit_eq (fun j => ?_)
        have q4 := hdy j
        unfold bt at q4 hc
        rw [q4]
        by_cases w : k = j
        · rw [← w, hc, Bool.false_and]
          exact (Nat.zero_testBit k).symm
        · rw [decide_eq_false w, Bool.and_false]
          exact (Nat.zero_testBit j).symm
      rw [q3]
      rfl
  have ho : ∀ j : Nat, j < 20 → bt o j = ((bt row j && !bt dit j) || (bt (fO k) j && bt dit j)) := fun j hj => by
    rw [bt_or eo, bt_and ea1, bt_and ea2, bt_not end_ (show j < 32 by omega), eoc]
  have hm : ∀ j : Nat, j < 20 → bt m j = (bt o j && !bt sn j && !bt bar j) := fun j hj => by
    rw [bt_and em, bt_and eb1, bt_not ens (show j < 32 by omega), bt_not enb (show j < 32 by omega)]
  have hsn : ∀ j : Nat, j < 20 → bt sn1 j = (bt sn j || bt m j) := fun j _ => bt_or esn j
  have hfs : ∀ j : Nat, j < 20 → bt fs1 j = ((bt fs j && !decide (k = j)) || bt m j) := fun j hj => by
    rw [bt_or efs, bt_and ec1, bt_not eny (show j < 32 by omega), hy, bt_p hk]
  have hE : ∀ j : Nat, j < 20 → (spE fL fD fO dit bar k j ↔ bt o j = true ∧ bt bar j = false) := fun j hj => by
    have hR : (bt dit k = false ∧ bt (fL k) j = true) ∨ (bt dit k = true ∧ bt (fD k) j = true) ↔ bt row j = true := by
      rcases hrow with ⟨q1, q2⟩ | ⟨q1, q2⟩
      · have q3 := hd0 q1
        rw [q2, q3]
        simp
      · have q3 := hd1 q1
        rw [q2, q3]
        simp
    unfold spE
    rw [hR, ho j hj]
    cases bt row j <;> cases bt dit j <;> cases bt (fO k) j <;> cases bt bar j <;> simp [hj]
  have hmE : ∀ j : Nat, j < 20 → bt m j = true → spE fL fD fO dit bar k j ∧ bt sn j = false := fun j hj q => by
    rw [hm j hj, Bool.and_eq_true, Bool.and_eq_true] at q
    obtain ⟨⟨q1, q2⟩, q3⟩ := q
    refine ⟨(hE j hj).mpr ⟨q1, ?_⟩, ?_⟩
    · cases hc : bt bar j
      · rfl
      · rw [hc] at q3
        exact absurd q3 (by decide)
    · cases hc : bt sn j
      · rfl
      · rw [hc] at q2
        exact absurd q2 (by decide)
  have hsk : bt sn k = true := h2 k hk hbk
  have hRk := h3 k hk hsk
  refine ⟨?_, fun j hj q => ?_, fun j hj q => ?_, fun a b ha q1 q2 q3 => ?_, ?_⟩
  · rw [bt_or esn, h1, Bool.true_or]
  · rw [hfs j hj] at q
    rw [hsn j hj]
    cases hc : bt m j with
    | true => rw [Bool.or_true]
    | false =>
      rw [hc, Bool.or_false, Bool.and_eq_true] at q
      rw [h2 j hj q.1, Bool.true_or]
  · rw [hsn j hj] at q
    cases hc : bt sn j with
    | true => exact h3 j hj hc
    | false =>
      rw [hc, Bool.false_or] at q
      exact Rch_s hRk (hmE j hj q).1
  · have hb : b < 20 := q3.1
    rw [hsn b hb]
    rw [hsn a ha] at q1
    rw [hfs a ha] at q2
    cases hma : bt m a with
    | true =>
      rw [hma, Bool.or_true] at q2
      exact absurd q2 (by decide)
    | false =>
      rw [hma, Bool.or_false] at q1 q2
      by_cases w : k = a
      · subst w
        cases hc : bt sn b with
        | true => rfl
        | false =>
          have g := (hE b hb).mp q3
          rw [hm b hb, g.1, g.2, hc]
          rfl
      · rw [decide_eq_false w] at q2
        have q4 : bt fs a = false := by
          cases hc : bt fs a with
          | false => rfl
          | true =>
            rw [hc] at q2
            exact absurd q2 (by decide)
        rw [h4 a b ha q1 q4 q3, Bool.true_or]
  · have g := cB_up hsn hfs (fun j hj q => (hmE j hj q).2) h2 hbk 20 (Nat.le_refl 20)
    rw [if_pos hk] at g
    omega
/-- what spread says -/
def spQ (fL fD fO : Nat → Int32) (dit bar : Int32) (fr0 : Nat) (sn : Int32) : Prop := ∀ j : Nat, j < 20 → (bt sn j = true ↔ Rch (spE fL fD fO dit bar) fr0 j)
theorem spQ_of {fL fD fO : Nat → Int32} {dit bar sn fs : Int32} {fr0 : Nat} {i : Int} (h : spI fL fD fO dit bar fr0 sn fs i) (hfr : fr0 < 20) (he : fs.toInt = 0 ∨ 20 ≤ i) : spQ fL fD fO dit bar fr0 sn := by
  obtain ⟨h1, h2, h3, h4, h5⟩ := h
  have hz : ∀ j : Nat, j < 20 → bt fs j = false := by
    rcases he with z | z
    · have q : fs = 0 := Int32.toInt_inj.mp z
      intro j _
      rw [q]
      exact bt_0 j
    · have q := cB_le (x := sn) 20
      exact cB_0 20 (by omega)
  intro j hj
  refine ⟨h3 j hj, fun q => ?_⟩
  exact (q (fun a => a < 20 ∧ bt sn a = true) ⟨hfr, h1⟩ (fun a b ⟨q1, q2⟩ q3 => ⟨q3.1, h4 a b q1 q2 (hz a q1) q3⟩)).2
theorem bt_one {k j : Nat} (hk : k < 20) : bt (1 <<< (Int32.ofNat k &&& 31)) j = decide (k = j) := by
  have e : (Int32.ofNat k).toInt = k := Int32.toInt_ofNat_of_lt (by omega)
  have g := bt_sh (I := Int32.ofNat k) rfl (by omega) (by omega) j
  rw [e, show ((k : Nat) : Int).toNat = k by omega] at g
  exact g
theorem bt_boZ {f : Nat → Int32} {v : Int} {j : Nat} : ∀ n : Nat, n ≤ 20 → bt (boZ f v n) j = decide (j < n ∧ (f j).toInt = v)
  | 0, _ => by
    rw [decide_eq_false (by omega)]
    exact bt_0 j
  | n + 1, hn => by
    have ih := bt_boZ (f := f) (v := v) (j := j) n (by omega)
    show bt (if (f n).toInt = v then boZ f v n ||| (1 <<< (Int32.ofNat n &&& 31)) else boZ f v n) j = _
    by_cases z : (f n).toInt = v
    · rw [if_pos z, bt_or rfl, ih, bt_one (by omega)]
      by_cases y : n = j
      · subst y
        rw [decide_eq_true rfl, Bool.or_true, decide_eq_true ⟨by omega, z⟩]
      · rw [decide_eq_false y, Bool.or_false]
        exact decide_eq_decide.mpr ⟨fun ⟨a, b⟩ => ⟨by omega, b⟩, fun ⟨a, b⟩ => ⟨by omega, b⟩⟩
    · rw [if_neg z, ih]
      exact decide_eq_decide.mpr ⟨fun ⟨a, b⟩ => ⟨by omega, b⟩, fun ⟨a, b⟩ => ⟨by
        rcases Nat.lt_or_ge j n with q | q
        · exact q
        · obtain rfl : j = n := by omega
          exact absurd b z, b⟩⟩
theorem bt_biZ {u : Nat → Int} {m : Int} {j : Nat} : ∀ n : Nat, n ≤ 20 → bt (biZ u m n) j = decide (j < n ∧ 0 ≤ u j ∧ u j ≤ m)
  | 0, _ => by
    rw [decide_eq_false (by omega)]
    exact bt_0 j
  | n + 1, hn => by
    have ih := bt_biZ (u := u) (m := m) (j := j) n (by omega)
    rw [biZ_s]
    by_cases z : 0 ≤ u n ∧ u n ≤ m
    · rw [if_pos z, bt_or rfl, ih, bt_one (by omega)]
      by_cases y : n = j
      · subst y
        rw [decide_eq_true rfl, Bool.or_true, decide_eq_true ⟨by omega, z⟩]
      · rw [decide_eq_false y, Bool.or_false]
        exact decide_eq_decide.mpr ⟨fun ⟨a, b⟩ => ⟨by omega, b⟩, fun ⟨a, b⟩ => ⟨by omega, b⟩⟩
    · rw [if_neg z, ih]
      exact decide_eq_decide.mpr ⟨fun ⟨a, b⟩ => ⟨by omega, b⟩, fun ⟨a, b⟩ => ⟨by
        rcases Nat.lt_or_ge j n with q | q
        · exact q
        · obtain rfl : j = n := by omega
          exact absurd b z, b⟩⟩
/-- what is learnt of one place, as far as STEP m -/
def flC (w n : Int) (f : Nat → Int32) (k q : Int) (xL xD xO : Int32) (c m : Int) : Prop := ∀ j : Nat, j < 20 → (bt xL j = true ↔ ∃ s : Int, (0 ≤ s ∧ s < m) ∧ tgZ w n f c s = (j : Int)) ∧ (bt xD j = true ↔ ∃ s : Int, (0 ≤ s ∧ s < m) ∧ tgZ w n f c s = (j : Int) ∧ oU k s ≠ -2) ∧ (bt xO j = true ↔ ∃ s : Int, (0 ≤ s ∧ s < m) ∧ tgZ w n f c s = (j : Int) ∧ (q ≠ 0 ∨ ¬ (k = 0 ∧ s = 2)) ∧ oD k s ≠ -2)
def flQ (w n : Int) (f : Nat → Int32) (k q : Int) (fL fD fO : Nat → Int32) (i : Int) : Prop := ∀ c : Nat, (c : Int) < i → flC w n f k q (fL c) (fD c) (fO c) c 4
theorem flC_0 {w n k q c m : Int} {f : Nat → Int32} {xL xD xO : Int32} (hL : xL = 0) (hD : xD = 0) (hO : xO = 0) (hm : m = 0) : flC w n f k q xL xD xO c m := fun j _ => by
  subst hL hD hO hm
  rw [bt_0]
  refine ⟨⟨fun h => absurd h (by decide), fun ⟨s, a, _⟩ => by omega⟩, ⟨fun h => absurd h (by decide), fun ⟨s, a, _⟩ => by omega⟩, ⟨fun h => absurd h (by decide), fun ⟨s, a, _⟩ => by omega⟩⟩
/-- one STEP more: b is its bit, or 0 -/
theorem flB {P : Int → Prop} {x x1 b : Int32} {j : Nat} {m m1 t : Int} (h : bt x j = true ↔ ∃ s : Int, (0 ≤ s ∧ s < m) ∧ P s) (h0 : 0 ≤ m) (hb : bt b j = true ↔ t = (j : Int)) (hm : m1 = m + 1) (hx : (x1 = x ||| b ∧ (P m ↔ t = (j : Int))) ∨ (x1 = x ∧ ¬ P m)) : bt x1 j = true ↔ ∃ s : Int, (0 ≤ s ∧ s < m1) ∧ P s := by
  subst hm
  rcases hx with ⟨e, hp⟩ | ⟨e, hp⟩
  · rw [bt_or e, Bool.or_eq_true, h, hb, ← hp]
    constructor
    · rintro (⟨s, a, p⟩ | p)
      · exact ⟨s, ⟨a.1, by omega⟩, p⟩
      · exact ⟨m, ⟨h0, by omega⟩, p⟩
    · rintro ⟨s, a, p⟩
      by_cases z : s = m
      · rw [z] at p
        exact Or.inr p
      · exact Or.inl ⟨s, ⟨a.1, by omega⟩, p⟩
  · rw [e, h]
    constructor
    · rintro ⟨s, a, p⟩
      exact ⟨s, ⟨a.1, by omega⟩, p⟩
    · rintro ⟨s, a, p⟩
      by_cases z : s = m
      · rw [z] at p
        exact absurd p hp
      · exact ⟨s, ⟨a.1, by omega⟩, p⟩
theorem flC_up {w n k q c m m1 t : Int} {f : Nat → Int32} {xL xD xO yL yD yO b T : Int32} (h : flC w n f k q xL xD xO c m) (h0 : 0 ≤ m) (ht : t = tgZ w n f c m) (hT : T.toInt = t) (hb : (t = -1 ∧ b = 0) ∨ (0 ≤ t ∧ t ≤ 19 ∧ b = 1 <<< (T &&& 31))) (hL : yL = xL ||| b) (hD : (oU k m ≠ -2 ∧ yD = xD ||| b) ∨ (oU k m = -2 ∧ yD = xD)) (hO : ((q ≠ 0 ∨ ¬ (k = 0 ∧ m = 2)) ∧ oD k m ≠ -2 ∧ yO = xO ||| b) ∨ (¬ ((q ≠ 0 ∨ ¬ (k = 0 ∧ m = 2)) ∧ oD k m ≠ -2) ∧ yO = xO)) (hm : m1 = m + 1) : flC w n f k q yL yD yO c m1 := fun j hj => by
  obtain ⟨g1, g2, g3⟩ := h j hj
  have hbj : bt b j = true ↔ t = (j : Int) := by
    rcases hb with ⟨z1, z2⟩ | ⟨z1, z2, z3⟩
    · rw [z2, bt_0]
      exact ⟨fun y => absurd y (by decide), fun y => by omega⟩
    · rw [bt_sh z3 (by omega) (by omega), decide_eq_true_eq]
      omega
  refine ⟨flB (t := t) g1 h0 hbj hm (Or.inl ⟨hL, by rw [ht]⟩), flB (t := t) g2 h0 hbj hm ?_, flB (t := t) g3 h0 hbj hm ?_⟩
  · rcases hD with ⟨z1, z2⟩ | ⟨z1, z2⟩
    · exact Or.inl ⟨z2, by rw [ht]; exact ⟨fun y => y.1, fun y => ⟨y, z1⟩⟩⟩
    · exact Or.inr ⟨z2, fun y => y.2 z1⟩
  · rcases hO with ⟨z1, z2, z3⟩ | ⟨z1, z2⟩
    · exact Or.inl ⟨z3, by rw [ht]; exact ⟨fun y => y.1, fun y => ⟨y, z1, z2⟩⟩⟩
    · exact Or.inr ⟨z2, fun y => z1 y.2⟩
/-- the flood's edges are the STEPS that one can do -/
theorem sp_tf {w n k : Int} {f fL fD fO : Nat → Int32} (hn : n ≤ 20) (h : flQ w n f k 1 fL fD fO n) {a b : Nat} (ha : (a : Int) < n) : spE fL fD fO (boZ f 1 n.toNat) 0 a b ↔ ∃ s : Int, (0 ≤ s ∧ s < 4) ∧ tgZ w n f a s = (b : Int) ∧ tfZ w n f k a s ≠ -2 := by
  have hd : ∀ c : Nat, (c : Int) < n → (bt (boZ f 1 n.toNat) c = true ↔ (f c).toInt = 1) := fun c hc => by
    rw [bt_boZ n.toNat (by omega), decide_eq_true_eq]
    exact ⟨fun y => y.2, fun y => ⟨by omega, y⟩⟩
  have hd0 : ∀ c : Nat, (c : Int) < n → (bt (boZ f 1 n.toNat) c = false ↔ (f c).toInt ≠ 1) := fun c hc => by
    have g := hd c hc
    cases hc2 : bt (boZ f 1 n.toNat) c with
    | true =>
      rw [hc2] at g
      exact ⟨fun y => absurd y (by decide), fun y => absurd (g.mp rfl) y⟩
    | false =>
      rw [hc2] at g
      exact ⟨fun _ y => absurd (g.mpr y) (by decide), fun _ => rfl⟩
  constructor
  · rintro ⟨hb, -, hx⟩
    obtain ⟨g1, g2, g3⟩ := h a ha b hb
    rcases hx with ⟨x1, ⟨x2, x3⟩ | ⟨x2, x3⟩⟩ | ⟨x1, x2⟩
    · obtain ⟨s, s1, s2⟩ := g1.mp x3
      have hin := (tgZ_in (w := w) (n := n) (f := f) (c := a) (s := s) (by omega)).2
      refine ⟨s, s1, s2, ?_⟩
      unfold tfZ
      rw [s2, if_neg (by omega), show ((b : Nat) : Int).toNat = b by omega, show ((a : Nat) : Int).toNat = a by omega, if_neg ((hd0 b (by omega)).mp x1), if_neg ((hd0 a ha).mp x2)]
      decide
    · obtain ⟨s, s1, s2, s3⟩ := g2.mp x3
      have hin := (tgZ_in (w := w) (n := n) (f := f) (c := a) (s := s) (by omega)).2
      refine ⟨s, s1, s2, ?_⟩
      unfold tfZ
      rw [s2, if_neg (by omega), show ((b : Nat) : Int).toNat = b by omega, show ((a : Nat) : Int).toNat = a by omega, if_neg ((hd0 b (by omega)).mp x1), if_pos ((hd a ha).mp x2)]
      exact s3
    · obtain ⟨s, s1, s2, s3, s4⟩ := g3.mp x2
      have hin := (tgZ_in (w := w) (n := n) (f := f) (c := a) (s := s) (by omega)).2
      refine ⟨s, s1, s2, ?_⟩
      unfold tfZ
      rw [s2, if_neg (by omega), show ((b : Nat) : Int).toNat = b by omega, if_pos ((hd b (by omega)).mp x1)]
      exact s4
  · rintro ⟨s, s1, s2, s3⟩
    have hin := (tgZ_in (w := w) (n := n) (f := f) (c := a) (s := s) (by omega)).2
    have hb : b < 20 := by omega
    obtain ⟨g1, g2, g3⟩ := h a ha b hb
    refine ⟨hb, bt_0 b, ?_⟩
    unfold tfZ at s3
    rw [s2, if_neg (by omega), show ((b : Nat) : Int).toNat = b by omega, show ((a : Nat) : Int).toNat = a by omega] at s3
    by_cases z : (f b).toInt = 1
    · rw [if_pos z] at s3
      exact Or.inr ⟨(hd b (by omega)).mpr z, g3.mpr ⟨s, s1, s2, Or.inl (by decide), s3⟩⟩
    · rw [if_neg z] at s3
      refine Or.inl ⟨(hd0 b (by omega)).mpr z, ?_⟩
      by_cases y : (f a).toInt = 1
      · rw [if_pos y] at s3
        exact Or.inr ⟨(hd a ha).mpr y, g2.mpr ⟨s, s1, s2, s3⟩⟩
      · exact Or.inl ⟨(hd0 a ha).mpr y, g1.mpr ⟨s, s1, s2⟩⟩
/-- edges of a table -/
def eT (n : Nat) (T : Nat → Int) (a b : Nat) : Prop := ∃ e : Nat, e < 4 * n ∧ e / 4 = a ∧ T e ≠ -1 ∧ (T e).toNat = b
theorem Rch_t {E : Nat → Nat → Prop} {a b c : Nat} (e : E a b) (h : Rch E b c) : Rch E a c := fun S h0 h1 => h S (h1 a b h0 e) h1
theorem eT_in {n : Nat} {T W : Nat → Int} (hE : wyE n T W) {a b : Nat} (h : eT n T a b) : b < n := by
  obtain ⟨e, e1, -, e3, e4⟩ := h
  rcases hE e e1 with z | ⟨z1, z2, -, -⟩
  · exact absurd z e3
  · omega
theorem Rch_in {n : Nat} {T W : Nat → Int} (hE : wyE n T W) {a b : Nat} (ha : a < n) (h : Rch (eT n T) a b) : b < n := h (fun j => j < n) ha (fun _ _ _ e => eT_in hE e)
theorem wy_R {n : Nat} {T W : Nat → Int} {to : Nat} {L : Nat → Int} (hE : wyE n T W) (h : wyL n T W to L) : ∀ (k c : Nat), c < n → rk L (L c) n < k → L c ≠ 9999999 → Rch (eT n T) c to
  | 0, _, _, hk, _ => absurd hk (Nat.not_lt_zero _)
  | k + 1, c, hc, hk, hf => by
    obtain ⟨⟨h1, h2⟩, h3, h4, h5⟩ := id h
    by_cases q : c = to
    · rw [q]
      exact Rch_0
    · obtain ⟨e, e1, e2, e3, e4, e5⟩ := h5 c hc (h3 c hc q) hf
      rcases hE e e2 with q1 | ⟨q1, q2, q3, q4⟩
      · exact absurd q1 e3
      · have ht : (T e).toNat < n := by omega
        have hl : L (T e).toNat < L c := by omega
        have hr := rk_lt hl n ht
        exact Rch_t ⟨e, e2, e1, e3, rfl⟩ (wy_R hE h k (T e).toNat ht (by omega) e4)
theorem wy_Rch {n : Nat} {T W : Nat → Int} {to : Nat} {L : Nat → Int} (hE : wyE n T W) (h : wyL n T W to L) (hn : n ≤ 20) {a : Nat} (ha : a < n) : L a ≠ 9999999 ↔ Rch (eT n T) a to := by
  refine ⟨wy_R hE h (rk L (L a) n + 1) a ha (Nat.lt_succ_self _), fun hr hf => ?_⟩
  have g := hr (fun j => j < n ∧ L j = 9999999) ⟨ha, hf⟩ (fun i j ⟨q1, q2⟩ q3 => by
    have hj := eT_in hE q3
    obtain ⟨e, e1, e2, e3, e4⟩ := q3
    refine ⟨hj, Classical.byContradiction (fun q => ?_)⟩
    have b := wyL_fin hE h hn hj q
    rcases hE e e1 with z | ⟨_, _, z3, z4⟩
    · exact e3 z
    · have g := h.2.2.1 e e1 e3
      rw [e2, e4, q2] at g
      rcases g with z | z
      · exact q z
      · omega)
  have g0 := h.1.2
  rw [g.2] at g0
  exact absurd g0 (by decide)
theorem wf_R {n : Nat} {T W M : Nat → Int} {fr : Nat} {F : Nat → Int} (hE : wyE n T W) (h : wfL n T M fr F) (hM : ∀ e : Nat, e < 4 * n → T e ≠ -1 → 1 ≤ M e ∧ M e ≤ 4) : ∀ (k c : Nat), c < n → rk F (F c) n < k → F c ≠ 9999999 → Rch (eT n T) fr c ∧ F c ≤ 4 * (rk F (F c) n : Int)
  | 0, _, _, hk, _ => absurd hk (Nat.not_lt_zero _)
  | k + 1, c, hc, hk, hf => by
    obtain ⟨⟨h1, h2⟩, h3, h4, h5⟩ := id h
    by_cases q : c = fr
    · rw [q, h2]
      exact ⟨Rch_0, by omega⟩
    · obtain ⟨e, e1, e2, e3, e4, e5⟩ := h5 c hc (h3 c hc q) hf
      have hm := hM e e1 e2
      have ht : e / 4 < n := by omega
      have hl : F (e / 4) < F c := by omega
      have hr := rk_lt hl n ht
      obtain ⟨i1, i2⟩ := wf_R hE h hM k (e / 4) ht (by omega) e4
      exact ⟨Rch_s i1 ⟨e, e1, rfl, e2, e3⟩, by omega⟩
theorem wf_Rch {n : Nat} {T W M : Nat → Int} {fr : Nat} {F : Nat → Int} (hE : wyE n T W) (h : wfL n T M fr F) (hn : n ≤ 20) (hM : ∀ e : Nat, e < 4 * n → T e ≠ -1 → 1 ≤ M e ∧ M e ≤ 4) {c : Nat} (hc : c < n) : F c ≠ 9999999 ↔ Rch (eT n T) fr c := by
  refine ⟨fun hf => (wf_R hE h hM (rk F (F c) n + 1) c hc (Nat.lt_succ_self _) hf).1, fun hr => ?_⟩
  refine (hr (fun j => j < n ∧ F j ≠ 9999999) ⟨h.1.1, by rw [h.1.2]; decide⟩ (fun i j ⟨q1, q2⟩ q3 => ?_)).2
  have hj := eT_in hE q3
  obtain ⟨e, e1, e2, e3, e4⟩ := q3
  have b := (wf_R hE h hM (rk F (F i) n + 1) i q1 (Nat.lt_succ_self _) q2).2
  have b2 := rk_n (f := F) q1
  have hm := hM e e1 e3
  have g := h.2.2.1 e e1 e3
  rw [e2, e4] at g
  rcases g with z | z
  · exact absurd z q2
  · exact ⟨hj, by omega⟩
theorem bz_bd {u : Nat → Int} {m : Int} : ∀ n : Nat, n ≤ 20 → 0 ≤ (biZ u m n).toInt ∧ (biZ u m n).toInt ≤ 1048575
  | 0, _ => by
    show 0 ≤ (0 : Int32).toInt ∧ (0 : Int32).toInt ≤ 1048575
    decide
  | n + 1, hn => by
    obtain ⟨i1, i2⟩ := bz_bd (u := u) (m := m) n (by omega)
    rw [biZ_s]
    split
    · have e : (Int32.ofNat n).toInt = n := Int32.toInt_ofNat_of_lt (by omega)
      obtain ⟨s1, s2⟩ := ti_shl1 (y := Int32.ofNat n) rfl (by omega) (by omega)
      exact ti_or20 rfl i1 i2 s1 s2
    · exact ⟨i1, i2⟩
/-- the class's edges, as the table has them -/
theorem tf_eT {w n k : Int} {f : Nat → Int32} {a b : Nat} (ha : (a : Int) < n) : (∃ s : Int, (0 ≤ s ∧ s < 4) ∧ tgZ w n f a s = (b : Int) ∧ tfZ w n f k a s ≠ -2) ↔ eT n.toNat (cT w n f k) a b := by
  constructor
  · rintro ⟨s, ⟨s0, s4⟩, s2, s3⟩
    have e := tT_y (n := n) (tf := tfZ w n f k) (tg := tgZ w n f) (c := a) (s := s) (m := 4 * a + s) rfl (by omega) ha s0 s4 s3
    refine ⟨(4 * (a : Int) + s).toNat, by omega, by omega, ?_, ?_⟩
    · show tT n (tfZ w n f k) (tgZ w n f) _ ≠ -1
      rw [e, s2]
      omega
    · show (tT n (tfZ w n f k) (tgZ w n f) _).toNat = b
      rw [e, s2]
      omega
  · rintro ⟨e, e1, e2, e3, e4⟩
    have e3' : tT n (tfZ w n f k) (tgZ w n f) e ≠ -1 := e3
    obtain ⟨o1, o2⟩ := tT_o e3'
    have e4' : (tT n (tfZ w n f k) (tgZ w n f) e).toNat = b := e4
    have g := tT_y (n := n) (tf := tfZ w n f k) (tg := tgZ w n f) (c := ((e / 4 : Nat) : Int)) (s := ((e % 4 : Nat) : Int)) (m := e) (by omega) (by omega) (by omega) (by omega) (by omega) o2
    rw [show ((e : Nat) : Int).toNat = e by omega] at g
    rw [g] at e3' e4'
    have hin := tgZ_in e3'
    rw [e2] at e4' hin o2
    exact ⟨((e % 4 : Nat) : Int), ⟨by omega, by omega⟩, by omega, o2⟩
/-- what reach says -/
def rcQ (w n : Int) (f : Nat → Int32) (k fr : Int) (r : Int32) : Prop := (0 ≤ r.toInt ∧ r.toInt ≤ 1048575) ∧ ∀ j : Nat, j < 20 → (bt r j = true ↔ Rch (eT n.toNat (cT w n f k)) fr.toNat j)
theorem rcQ_of {w n k fr : Int} {f fL fD fO : Nat → Int32} {r : Int32} (hn : n ≤ 20) (hl : flQ w n f k 1 fL fD fO n) (h0 : 0 ≤ fr) (h1 : fr < n) (hs : spQ fL fD fO (boZ f 1 n.toNat) 0 fr.toNat r) (r0 : 0 ≤ r.toInt) (r1 : r.toInt ≤ 1048575) : rcQ w n f k fr r := by
  refine ⟨⟨r0, r1⟩, fun j hj => (hs j hj).trans ?_⟩
  have hi : ∀ a b : Nat, (a : Int) < n → (spE fL fD fO (boZ f 1 n.toNat) 0 a b ↔ eT n.toNat (cT w n f k) a b) := fun a b ha => (sp_tf hn hl ha).trans (tf_eT ha)
  have hk : ∀ a b : Nat, (a : Int) < n → eT n.toNat (cT w n f k) a b → (b : Int) < n := fun a b _ e => by
    have := eT_in (wyE_c w n f k 0) e
    omega
  exact ⟨Rch_c (fun a => (a : Int) < n) (by omega) (fun a b p e => hk a b p ((hi a b p).mp e)) (fun a b p e => (hi a b p).mp e), Rch_c (fun a => (a : Int) < n) (by omega) hk (fun a b p e => (hi a b p).mpr e)⟩
/-- the class's learning, place by place -/
def flJ (w n : Int) (f : Nat → Int32) (k q : Int) (fL fD fO : Nat → Int32) (c m : Int) : Prop := flQ w n f k q fL fD fO c ∧ flC w n f k q (fL c.toNat) (fD c.toNat) (fO c.toNat) c m
theorem flQ_0 {w n k q i : Int} {f fL fD fO : Nat → Int32} (h : i ≤ 0) : flQ w n f k q fL fD fO i := fun c hc => by omega
theorem flQ_le {w n k q i i1 : Int} {f fL fD fO : Nat → Int32} (h : flQ w n f k q fL fD fO i) (e : i1 ≤ i) : flQ w n f k q fL fD fO i1 := fun c hc => h c (by omega)
theorem flQ_up {w n k q c c1 m : Int} {f fL fD fO : Nat → Int32} (h : flJ w n f k q fL fD fO c m) (h0 : 0 ≤ c) (hm : m = 4) (hc : c1 = c + 1) : flQ w n f k q fL fD fO c1 := fun j hj => by
  subst hm
  by_cases z : (j : Int) < c
  · exact h.1 j z
  · have e : c.toNat = j := by omega
    have g := h.2
    rw [e, show c = (j : Int) by omega] at g
    exact g
theorem flJ_0 {w n k q c m : Int} {f fL fD fO gL gD gO : Nat → Int32} {I : Int32} (h : flQ w n f k q fL fD fO c) (h0 : 0 ≤ c) (hI : I.toInt = c) (uL : upd fL (Int32.toNatClampNeg I) 0 = gL) (uD : upd fD (Int32.toNatClampNeg I) 0 = gD) (uO : upd fO (Int32.toNatClampNeg I) 0 = gO) (hm : m = 0) : flJ w n f k q gL gD gO c m := by
  have nI : Int32.toNatClampNeg I = c.toNat := by rw [← hI]; rfl
  rw [nI] at uL uD uO
  have eL : gL c.toNat = 0 := by rw [← uL]; exact if_pos rfl
  have eD : gD c.toNat = 0 := by rw [← uD]; exact if_pos rfl
  have eO : gO c.toNat = 0 := by rw [← uO]; exact if_pos rfl
  refine ⟨fun j hj => ?_, flC_0 eL eD eO hm⟩
  have e1 : gL j = fL j := by rw [← uL]; exact if_neg (by omega)
  have e2 : gD j = fD j := by rw [← uD]; exact if_neg (by omega)
  have e3 : gO j = fO j := by rw [← uO]; exact if_neg (by omega)
  rw [e1, e2, e3]
  exact h j hj
theorem upd_at {f g : Nat → Int32} {i : Nat} {v : Int32} (u : upd f i v = g) : g i = v ∧ ∀ j : Nat, j ≠ i → g j = f j := by
  subst u
  exact ⟨if_pos rfl, fun j hj => if_neg hj⟩
theorem flJ_up {w n k q c m m1 : Int} {f fL fD fO gL gD gO : Nat → Int32} {I T b x y : Int32} (h : flJ w n f k q fL fD fO c m) (h0 : 0 ≤ c) (hI : I.toInt = c) (hm0 : 0 ≤ m) (ht : T.toInt = tgZ w n f c m) (hb : (T.toInt = -1 ∧ b = 0) ∨ (0 ≤ T.toInt ∧ T.toInt ≤ 19 ∧ b = 1 <<< (T &&& 31))) (ex : x = fL (Int32.toNatClampNeg I)) (ey : y = x ||| b) (uL : upd fL (Int32.toNatClampNeg I) y = gL) (hD : (oU k m ≠ -2 ∧ ∃ x2 y2 : Int32, x2 = fD (Int32.toNatClampNeg I) ∧ y2 = x2 ||| b ∧ upd fD (Int32.toNatClampNeg I) y2 = gD) ∨ (oU k m = -2 ∧ gD = fD)) (hO : (((q ≠ 0 ∨ ¬ (k = 0 ∧ m = 2)) ∧ oD k m ≠ -2) ∧ ∃ x2 y2 : Int32, x2 = fO (Int32.toNatClampNeg I) ∧ y2 = x2 ||| b ∧ upd fO (Int32.toNatClampNeg I) y2 = gO) ∨ (¬ ((q ≠ 0 ∨ ¬ (k = 0 ∧ m = 2)) ∧ oD k m ≠ -2) ∧ gO = fO)) (hm : m1 = m + 1) : flJ w n f k q gL gD gO c m1 := by
  obtain ⟨h1, h2⟩ := h
  have nI : Int32.toNatClampNeg I = c.toNat := by rw [← hI]; rfl
  rw [nI] at ex uL hD hO
  obtain ⟨l1, l2⟩ := upd_at uL
  have hD2 : ((oU k m ≠ -2 ∧ gD c.toNat = fD c.toNat ||| b) ∨ (oU k m = -2 ∧ gD c.toNat = fD c.toNat)) ∧ ∀ j : Nat, j ≠ c.toNat → gD j = fD j := by
    rcases hD with ⟨z1, x2, y2, z2, z3, z4⟩ | ⟨z1, z2⟩
    · obtain ⟨q1, q2⟩ := upd_at z4
      exact ⟨Or.inl ⟨z1, by rw [q1, z3, z2]⟩, q2⟩
    · rw [z2]
      exact ⟨Or.inr ⟨z1, rfl⟩, fun _ _ => rfl⟩
  have hO2 : (((q ≠ 0 ∨ ¬ (k = 0 ∧ m = 2)) ∧ oD k m ≠ -2 ∧ gO c.toNat = fO c.toNat ||| b) ∨ (¬ ((q ≠ 0 ∨ ¬ (k = 0 ∧ m = 2)) ∧ oD k m ≠ -2) ∧ gO c.toNat = fO c.toNat)) ∧ ∀ j : Nat, j ≠ c.toNat → gO j = fO j := by
    rcases hO with ⟨⟨z0, z1⟩, x2, y2, z2, z3, z4⟩ | ⟨z1, z2⟩
    · obtain ⟨q1, q2⟩ := upd_at z4
      exact ⟨Or.inl ⟨z0, z1, by rw [q1, z3, z2]⟩, q2⟩
    · rw [z2]
      exact ⟨Or.inr ⟨z1, rfl⟩, fun _ _ => rfl⟩
  refine ⟨fun j hj => ?_, flC_up h2 hm0 ht rfl hb (by rw [l1, ey, ex]) hD2.1 hO2.1 hm⟩
  rw [l2 j (by omega), hD2.2 j (by omega), hO2.2 j (by omega)]
  exact h1 j hj
def rcP (wk w n : Int) (f kd at_ : Nat → Int32) (p r : Int) : Prop := ((p < 0 ∨ wk ≤ p) ∧ r = -1) ∨ ((0 ≤ p ∧ p < wk) ∧ (0 ≤ (at_ p.toNat).toInt → (at_ p.toNat).toInt < n → ∃ x : Int32, r = x.toInt ∧ rcQ w n f (kd p.toNat).toInt (at_ p.toNat).toInt x))
theorem rcP_no {wk w n p r : Int} {f kd at_ : Nat → Int32} (h : p < 0 ∨ wk ≤ p) (hr : r = -1) : rcP wk w n f kd at_ p r := Or.inl ⟨h, hr⟩
theorem rcP_of {wk w n p r : Int} {f kd at_ : Nat → Int32} {x : Int32} (h0 : 0 ≤ p) (h1 : p < wk) (h : 0 ≤ (at_ p.toNat).toInt → (at_ p.toNat).toInt < n → rcQ w n f (kd p.toNat).toInt (at_ p.toNat).toInt x) (hr : r = x.toInt) : rcP wk w n f kd at_ p r := Or.inr ⟨⟨h0, h1⟩, fun a0 a1 => ⟨x, hr, h a0 a1⟩⟩
/-- a bit, by shifting -/
theorem on_ex {I : Int32} (h0 : 0 ≤ I.toInt) (h1 : I.toInt ≤ 19) : ∃ k : Nat, k < 20 ∧ I = Int32.ofNat k ∧ I.toInt = (k : Int) := ⟨I.toInt.toNat, by omega, oN_of (by omega), by omega⟩
theorem bt_shr0 {x y I : Int32} (e : y = x >>> (I &&& 31)) (h0 : 0 ≤ I.toInt) (h1 : I.toInt ≤ 19) : bt y 0 = bt x I.toInt.toNat := by
  have key : ∀ k : Nat, k < 20 → ((Int32.ofNat k &&& 31).toBitVec.smod 32).toNat = k := by decide +kernel
  obtain ⟨k, hk, hI, e2⟩ := on_ex h0 h1
  rw [e2, show ((k : Nat) : Int).toNat = k by omega, e, hI]
  unfold bt
  rw [Int32.toBitVec_shiftRight]
  show (x.toBitVec.sshiftRight ((Int32.ofNat k &&& 31).toBitVec.smod 32).toNat).getLsbD 0 = x.toBitVec.getLsbD k
  rw [key k hk, BitVec.getLsbD_sshiftRight, if_pos (show k + 0 < 32 by omega)]
  rfl
theorem bt_and1 {x y : Int32} (e : y = x &&& 1) : y.toInt = 1 ↔ bt x 0 = true := by
  have h0 : bt 1 0 = true := by decide +kernel
  have h1 : bt y 0 = bt x 0 := by rw [bt_and e, h0, Bool.and_true]
  rcases ti_and1 e with z | z
  · have q : y = 0 := Int32.toInt_inj.mp z
    rw [q, bt_0] at h1
    rw [← h1, z]
    decide
  · have q : y = 1 := Int32.toInt_inj.mp z
    rw [q, h0] at h1
    rw [← h1, z]
    decide
theorem bit_of {x y z I : Int32} (ex : y = x >>> (I &&& 31)) (ez : z = y &&& 1) (h0 : 0 ≤ I.toInt) (h1 : I.toInt ≤ 19) : z.toInt = 1 ↔ bt x I.toInt.toNat = true := by
  rw [bt_and1 ez, bt_shr0 ex h0 h1]
/-- comesTo -/
def cmQ (fL fD fO : Nat → Int32) (dit bar : Int32) (fr : Nat) (to r : Int) : Prop := 0 ≤ to → to ≤ 19 → (r = 1 ↔ Rch (spE fL fD fO dit bar) fr to.toNat)
theorem cmQ_of {fL fD fO : Nat → Int32} {dit bar sn x y P : Int32} {fr : Nat} {r : Int} (h : spQ fL fD fO dit bar fr sn) (ex : x = sn >>> (P &&& 31)) (ey : y = x &&& 1) (hr : (y.toInt = 1 ∧ r = 1) ∨ (y.toInt ≠ 1 ∧ r = 0)) : cmQ fL fD fO dit bar fr P.toInt r := fun t0 t1 => by
  rw [← h P.toInt.toNat (by omega), ← bit_of ex ey t0 t1]
  omega
/-- ground that is changed at some places -/
def chF (n : Int) (f : Nat → Int32) (s v : Int32) : Nat → Int32 := fun j => if (j : Int) < n ∧ bt s j = true then v else f j
theorem chF_y {n : Int} {f : Nat → Int32} {s v : Int32} {j : Nat} (h : (j : Int) < n) (hb : bt s j = true) : chF n f s v j = v := if_pos ⟨h, hb⟩
theorem chF_n {n : Int} {f : Nat → Int32} {s v : Int32} {j : Nat} (hb : bt s j = false) : chF n f s v j = f j := if_neg (fun q => by rw [hb] at q; exact absurd q.2 (by decide))
theorem tg_b {w n : Int} {f : Nat → Int32} {c s : Int} {b : Nat} : tgZ w n f c s = (b : Int) ↔ (tgZ w n (fun _ => 0) c s = (b : Int) ∧ (f b).toInt ≠ 3) := by
  have key : ∀ t : Int, tg2 n f t = (b : Int) ↔ (tg2 n (fun _ => 0) t = (b : Int) ∧ (f b).toInt ≠ 3) := fun t => by
    unfold tg2
    by_cases z : t < 0 ∨ n ≤ t
    · rw [if_pos (show t < 0 ∨ n ≤ t ∨ (f t.toNat).toInt = 3 from z.elim Or.inl (fun y => Or.inr (Or.inl y))), if_pos (show t < 0 ∨ n ≤ t ∨ ((fun _ : Nat => (0 : Int32)) t.toNat).toInt = 3 from z.elim Or.inl (fun y => Or.inr (Or.inl y)))]
      exact ⟨fun h => by omega, fun h => h.1⟩
    · have z0 : ¬ ((0 : Int32).toInt = 3) := by decide
      rw [if_neg (show ¬ (t < 0 ∨ n ≤ t ∨ ((fun _ : Nat => (0 : Int32)) t.toNat).toInt = 3) from fun y => y.elim (fun y1 => z (Or.inl y1)) (fun y1 => y1.elim (fun y2 => z (Or.inr y2)) z0))]
      by_cases y : (f t.toNat).toInt = 3
      · rw [if_pos (show t < 0 ∨ n ≤ t ∨ (f t.toNat).toInt = 3 from Or.inr (Or.inr y))]
        refine ⟨fun h => by omega, fun ⟨h1, h2⟩ => ?_⟩
        have e : t.toNat = b := by omega
        rw [e] at y
        exact absurd y h2
      · rw [if_neg (show ¬ (t < 0 ∨ n ≤ t ∨ (f t.toNat).toInt = 3) from fun y0 => y0.elim (fun y1 => z (Or.inl y1)) (fun y1 => y1.elim (fun y2 => z (Or.inr y2)) y))]
        refine ⟨fun h => ⟨h, ?_⟩, fun h => h.1⟩
        have e : t.toNat = b := by omega
        rw [← e]
        exact y
  unfold tgZ
  by_cases z : c < 0 ∨ n ≤ c ∨ w ≤ 0
  · rw [if_pos z, if_pos z]
    exact ⟨fun h => by omega, fun h => h.1⟩
  · rw [if_neg z, if_neg z]
    exact key _
theorem tg_lt {w n : Int} {f : Nat → Int32} {c s : Int} {b : Nat} (h : tgZ w n f c s = (b : Int)) : (b : Int) < n := by
  have g := (tgZ_in (w := w) (n := n) (f := f) (c := c) (s := s) (by rw [h]; omega)).2
  rw [h] at g
  exact g
theorem nb {b : Nat} : ((b : Nat) : Int).toNat = b := by omega
/-- the flood's edges on ground that is changed: barred places as hedges, ditches as told -/
theorem sp_g {w n k q : Int} {f f' fL fD fO : Nat → Int32} {dit bar : Int32} (hn : n ≤ 20) (h : flQ w n f k q fL fD fO n) (hh : ∀ j : Nat, (j : Int) < n → ((f' j).toInt = 3 ↔ (f j).toInt = 3 ∨ bt bar j = true)) (hd : ∀ j : Nat, (j : Int) < n → (f' j).toInt ≠ 3 → (bt dit j = true ↔ (f' j).toInt = 1)) {a b : Nat} (ha : (a : Int) < n) (hda : bt dit a = true ↔ (f' a).toInt = 1) : spE fL fD fO dit bar a b ↔ ∃ s : Int, (0 ≤ s ∧ s < 4) ∧ tgZ w n f' a s = (b : Int) ∧ tfZ w n f' k a s ≠ -2 ∧ (q ≠ 0 ∨ flZ w n f' k a s ≠ 1) := by
  have hG : ∀ s : Int, (tgZ w n f a s = (b : Int) ∧ bt bar b = false) ↔ tgZ w n f' a s = (b : Int) := fun s => by
    rw [tg_b (f := f), tg_b (f := f')]
    constructor
    · rintro ⟨⟨y1, y2⟩, y3⟩
      refine ⟨y1, fun y4 => ?_⟩
      rcases (hh b (tg_lt y1)).mp y4 with y5 | y5
      · exact y2 y5
      · rw [y3] at y5
        exact absurd y5 (by decide)
    · rintro ⟨y1, y2⟩
      refine ⟨⟨y1, fun y4 => y2 ((hh b (tg_lt y1)).mpr (Or.inl y4))⟩, ?_⟩
      cases hc : bt bar b with
      | false => rfl
      | true => exact absurd ((hh b (tg_lt y1)).mpr (Or.inr hc)) y2
  have hT : ∀ s : Int, tgZ w n f' a s = (b : Int) → (f' b).toInt ≠ 3 := fun s y => (tg_b.mp y).2
  have n1 : ∀ j : Nat, bt dit j = false → (bt dit j = true ↔ (f' j).toInt = 1) → (f' j).toInt ≠ 1 := fun j x1 x2 y => by
    rw [x2.mpr y] at x1
    exact absurd x1 (by decide)
  have hm : ¬ ((b : Int) = -1) := by omega
  constructor
  · rintro ⟨hb, hbar, hx⟩
    obtain ⟨g1, g2, g3⟩ := h a ha b hb
    rcases hx with ⟨x1, ⟨x2, x3⟩ | ⟨x2, x3⟩⟩ | ⟨x1, x2⟩
    · obtain ⟨s, s1, s2⟩ := g1.mp x3
      have s3 := (hG s).mp ⟨s2, hbar⟩
      have m1 := n1 b x1 (hd b (tg_lt s3) (hT s s3))
      have m2 := n1 a x2 hda
      refine ⟨s, s1, s3, ?_, Or.inr ?_⟩
      · unfold tfZ
        rw [s3, if_neg hm, nb, nb, if_neg m1, if_neg m2]
        decide
      · unfold flZ
        rw [s3, nb, if_neg (fun y => m1 y.2.1)]
        decide
    · obtain ⟨s, s1, s2, s4⟩ := g2.mp x3
      have s3 := (hG s).mp ⟨s2, hbar⟩
      have m1 := n1 b x1 (hd b (tg_lt s3) (hT s s3))
      refine ⟨s, s1, s3, ?_, Or.inr ?_⟩
      · unfold tfZ
        rw [s3, if_neg hm, nb, nb, if_neg m1, if_pos (hda.mp x2)]
        exact s4
      · unfold flZ
        rw [s3, nb, if_neg (fun y => m1 y.2.1)]
        decide
    · obtain ⟨s, s1, s2, s4, s5⟩ := g3.mp x2
      have s3 := (hG s).mp ⟨s2, hbar⟩
      have m1 := (hd b (tg_lt s3) (hT s s3)).mp x1
      refine ⟨s, s1, s3, ?_, ?_⟩
      · unfold tfZ
        rw [s3, if_neg hm, nb, if_pos m1]
        exact s5
      · rcases s4 with z | z
        · exact Or.inl z
        · refine Or.inr ?_
          unfold flZ
          rw [if_neg (fun y => z y.2.2)]
          decide
  · rintro ⟨s, s1, s3, s4, s5⟩
    have hbn := tg_lt s3
    have hb : b < 20 := by omega
    obtain ⟨s2, hbar⟩ := (hG s).mpr s3
    obtain ⟨g1, g2, g3⟩ := h a ha b hb
    have hdb := hd b hbn (hT s s3)
    refine ⟨hb, hbar, ?_⟩
    unfold tfZ at s4
    rw [s3, if_neg hm, nb, nb] at s4
    by_cases z : (f' b).toInt = 1
    · rw [if_pos z] at s4
      refine Or.inr ⟨hdb.mpr z, g3.mpr ⟨s, s1, s2, ?_, s4⟩⟩
      rcases s5 with y | y
      · exact Or.inl y
      · refine Or.inr (fun y2 => y ?_)
        unfold flZ
        rw [s3, nb, if_pos ⟨hm, z, y2⟩]
    · rw [if_neg z] at s4
      have d0 : bt dit b = false := Bool.eq_false_iff.mpr (fun y => z (hdb.mp y))
      by_cases y : (f' a).toInt = 1
      · rw [if_pos y] at s4
        exact Or.inl ⟨d0, Or.inr ⟨hda.mpr y, g2.mpr ⟨s, s1, s2, s4⟩⟩⟩
      · exact Or.inl ⟨d0, Or.inl ⟨Bool.eq_false_iff.mpr (fun y2 => y (hda.mp y2)), g1.mpr ⟨s, s1, s2⟩⟩⟩
/-- edges of a table without a FALL -/
def eG (n : Nat) (T F : Nat → Int) (a b : Nat) : Prop := ∃ e : Nat, e < 4 * n ∧ e / 4 = a ∧ T e ≠ -1 ∧ (T e).toNat = b ∧ F e = 0
theorem flZ_01 (w n : Int) (f : Nat → Int32) (k c s : Int) : flZ w n f k c s = 0 ∨ flZ w n f k c s = 1 := by
  unfold flZ
  split
  · exact Or.inr rfl
  · exact Or.inl rfl
theorem tf_eG {w n k : Int} {f : Nat → Int32} {a b : Nat} (ha : (a : Int) < n) : (∃ s : Int, (0 ≤ s ∧ s < 4) ∧ tgZ w n f a s = (b : Int) ∧ tfZ w n f k a s ≠ -2 ∧ flZ w n f k a s ≠ 1) ↔ eG n.toNat (cT w n f k) (cF w n f k) a b := by
  constructor
  · rintro ⟨s, ⟨s0, s4⟩, s2, s3, s5⟩
    have e := tT_y (n := n) (tf := tfZ w n f k) (tg := tgZ w n f) (c := a) (s := s) (m := 4 * a + s) rfl (by omega) ha s0 s4 s3
    have e9 := tX_y (n := n) (tf := tfZ w n f k) (x := flZ w n f k) (c := a) (s := s) (m := 4 * a + s) rfl (by omega) ha s0 s4 s3
    refine ⟨(4 * (a : Int) + s).toNat, by omega, by omega, ?_, ?_, ?_⟩
    · show tT n (tfZ w n f k) (tgZ w n f) _ ≠ -1
      rw [e, s2]
      omega
    · show (tT n (tfZ w n f k) (tgZ w n f) _).toNat = b
      rw [e, s2]
      omega
    · show tX n (tfZ w n f k) (flZ w n f k) _ = 0
      rw [e9]
      exact (flZ_01 w n f k a s).resolve_right s5
  · rintro ⟨e, e1, e2, e3, e4, e5⟩
    have e3' : tT n (tfZ w n f k) (tgZ w n f) e ≠ -1 := e3
    obtain ⟨o1, o2⟩ := tT_o e3'
    have e4' : (tT n (tfZ w n f k) (tgZ w n f) e).toNat = b := e4
    have e5' : tX n (tfZ w n f k) (flZ w n f k) e = 0 := e5
    rw [tX_o (x := flZ w n f k) e3', e2] at e5'
    have g := tT_y (n := n) (tf := tfZ w n f k) (tg := tgZ w n f) (c := ((e / 4 : Nat) : Int)) (s := ((e % 4 : Nat) : Int)) (m := e) (by omega) (by omega) (by omega) (by omega) (by omega) o2
    rw [nb] at g
    rw [g] at e3' e4'
    have hin := tgZ_in e3'
    rw [e2] at e4' hin o2
    exact ⟨((e % 4 : Nat) : Int), ⟨by omega, by omega⟩, by omega, o2, by omega⟩
/-- where one comes to, by the flood and by the table -/
theorem Rch_g1 {w n k q : Int} {f f' fL fD fO : Nat → Int32} {dit bar : Int32} {fr to : Nat} (hn : n ≤ 20) (h : flQ w n f k q fL fD fO n) (hq : q ≠ 0) (hh : ∀ j : Nat, (j : Int) < n → ((f' j).toInt = 3 ↔ (f j).toInt = 3 ∨ bt bar j = true)) (hd : ∀ j : Nat, (j : Int) < n → (f' j).toInt ≠ 3 → (bt dit j = true ↔ (f' j).toInt = 1)) (hf : (fr : Int) < n) (hda : bt dit fr = true ↔ (f' fr).toInt = 1) : Rch (spE fL fD fO dit bar) fr to ↔ Rch (eT n.toNat (cT w n f' k)) fr to := by
  have hi : ∀ a b : Nat, ((a : Int) < n ∧ (bt dit a = true ↔ (f' a).toInt = 1)) → (spE fL fD fO dit bar a b ↔ eT n.toNat (cT w n f' k) a b) := fun a b p => by
    rw [sp_g hn h hh hd p.1 p.2, ← tf_eT p.1]
    exact ⟨fun ⟨s, s1, s2, s3, _⟩ => ⟨s, s1, s2, s3⟩, fun ⟨s, s1, s2, s3⟩ => ⟨s, s1, s2, s3, Or.inl hq⟩⟩
  have hk : ∀ a b : Nat, ((a : Int) < n ∧ (bt dit a = true ↔ (f' a).toInt = 1)) → eT n.toNat (cT w n f' k) a b → ((b : Int) < n ∧ (bt dit b = true ↔ (f' b).toInt = 1)) := fun a b p e => by
    obtain ⟨s, s1, s2, s3⟩ := (tf_eT p.1).mpr e
    exact ⟨tg_lt s2, hd b (tg_lt s2) (tg_b.mp s2).2⟩
  exact ⟨Rch_c (fun a => (a : Int) < n ∧ (bt dit a = true ↔ (f' a).toInt = 1)) ⟨hf, hda⟩ (fun a b p e => hk a b p ((hi a b p).mp e)) (fun a b p e => (hi a b p).mp e), Rch_c (fun a => (a : Int) < n ∧ (bt dit a = true ↔ (f' a).toInt = 1)) ⟨hf, hda⟩ hk (fun a b p e => (hi a b p).mpr e)⟩
theorem Rch_g0 {w n k : Int} {f f' fL fD fO : Nat → Int32} {dit bar : Int32} {fr to : Nat} (hn : n ≤ 20) (h : flQ w n f k 0 fL fD fO n) (hh : ∀ j : Nat, (j : Int) < n → ((f' j).toInt = 3 ↔ (f j).toInt = 3 ∨ bt bar j = true)) (hd : ∀ j : Nat, (j : Int) < n → (f' j).toInt ≠ 3 → (bt dit j = true ↔ (f' j).toInt = 1)) (hf : (fr : Int) < n) (hda : bt dit fr = true ↔ (f' fr).toInt = 1) : Rch (spE fL fD fO dit bar) fr to ↔ Rch (eG n.toNat (cT w n f' k) (cF w n f' k)) fr to := by
  have hi : ∀ a b : Nat, ((a : Int) < n ∧ (bt dit a = true ↔ (f' a).toInt = 1)) → (spE fL fD fO dit bar a b ↔ eG n.toNat (cT w n f' k) (cF w n f' k) a b) := fun a b p => by
    rw [sp_g hn h hh hd p.1 p.2, ← tf_eG p.1]
    exact ⟨fun ⟨s, s1, s2, s3, s4⟩ => ⟨s, s1, s2, s3, s4.resolve_left (fun z => z rfl)⟩, fun ⟨s, s1, s2, s3, s4⟩ => ⟨s, s1, s2, s3, Or.inr s4⟩⟩
  have hk : ∀ a b : Nat, ((a : Int) < n ∧ (bt dit a = true ↔ (f' a).toInt = 1)) → eG n.toNat (cT w n f' k) (cF w n f' k) a b → ((b : Int) < n ∧ (bt dit b = true ↔ (f' b).toInt = 1)) := fun a b p e => by
    obtain ⟨s, s1, s2, s3, -⟩ := (tf_eG p.1).mpr e
    exact ⟨tg_lt s2, hd b (tg_lt s2) (tg_b.mp s2).2⟩
  exact ⟨Rch_c (fun a => (a : Int) < n ∧ (bt dit a = true ↔ (f' a).toInt = 1)) ⟨hf, hda⟩ (fun a b p e => hk a b p ((hi a b p).mp e)) (fun a b p e => (hi a b p).mp e), Rch_c (fun a => (a : Int) < n ∧ (bt dit a = true ↔ (f' a).toInt = 1)) ⟨hf, hda⟩ hk (fun a b p e => (hi a b p).mpr e)⟩
/-- a way without FALL: what is left is less than one -/
theorem dr_R {n : Nat} {T W M F : Nat → Int} {to : Nat} {L : Nat → Int} (hE : wyE n T W) (h : wyL n T W to L) (hw : ∀ e : Nat, e < 4 * n → T e ≠ -1 → W e = 1000 * F e + M e ∧ 0 ≤ F e ∧ 1 ≤ M e ∧ M e ≤ 4) : ∀ (m c : Nat), c < n → rk L (L c) n < m → L c < 1000 → Rch (eG n T F) c to ∧ L c ≤ 4 * (rk L (L c) n : Int)
  | 0, _, _, hk, _ => absurd hk (Nat.not_lt_zero _)
  | m + 1, c, hc, hk, hf => by
    obtain ⟨⟨h1, h2⟩, h3, h4, h5⟩ := id h
    by_cases q : c = to
    · rw [q, h2]
      exact ⟨Rch_0, by omega⟩
    · obtain ⟨e, e1, e2, e3, e4, e5⟩ := h5 c hc (h3 c hc q) (by omega)
      rcases hE e e2 with q1 | ⟨q1, q2, q3, q4⟩
      · exact absurd q1 e3
      · obtain ⟨w1, w2, w3, w4⟩ := hw e e2 e3
        have ht : (T e).toNat < n := by omega
        have hl : L (T e).toNat < L c := by omega
        have h0 := wyL_0 h ht
        have hF : F e = 0 := by omega
        have hr := rk_lt hl n ht
        obtain ⟨i1, i2⟩ := dr_R hE h hw m (T e).toNat ht (by omega) (by omega)
        exact ⟨Rch_t ⟨e, e2, e1, e3, rfl, hF⟩ i1, by omega⟩
theorem dr_Rch {n : Nat} {T W M F : Nat → Int} {to : Nat} {L : Nat → Int} (hE : wyE n T W) (h : wyL n T W to L) (hn : n ≤ 20) (hw : ∀ e : Nat, e < 4 * n → T e ≠ -1 → W e = 1000 * F e + M e ∧ 0 ≤ F e ∧ 1 ≤ M e ∧ M e ≤ 4) {a : Nat} (ha : a < n) : L a < 1000 ↔ Rch (eG n T F) a to := by
  refine ⟨fun hf => (dr_R hE h hw (rk L (L a) n + 1) a ha (Nat.lt_succ_self _) hf).1, fun hr => Classical.byContradiction (fun hf => ?_)⟩
  have g : to < n ∧ 1000 ≤ L to := hr (fun j => j < n ∧ 1000 ≤ L j) ⟨ha, by omega⟩ (fun i j ⟨q1, q2⟩ q3 => by
    obtain ⟨e, e1, e2, e3, e4, e5⟩ := q3
    rcases hE e e1 with z | ⟨z1, z2, z3, z4⟩
    · exact absurd z e3
    · obtain ⟨w1, w2, w3, w4⟩ := hw e e1 e3
      have hj : j < n := by omega
      refine ⟨hj, Classical.byContradiction (fun q => ?_)⟩
      have b := (dr_R hE h hw (rk L (L j) n + 1) j hj (Nat.lt_succ_self _) (by omega)).2
      have b2 := rk_n (f := L) hj
      have g := h.2.2.1 e e1 e3
      rw [e2, e4] at g
      omega)
  have g2 := g.2
  rw [h.1.2] at g2
  exact absurd g2 (by decide)
/-- the first of some by their order; sets, the highest place first -/
def scF (cd : Int32) (g : Nat → Int) : Nat → Int
  | 0 => -2
  | b + 1 => if scF cd g b ≠ -2 then scF cd g b else if bt cd b = true then g b else -2
theorem scF_s {cd : Int32} {g : Nat → Int} {b : Nat} : scF cd g (b + 1) = if scF cd g b ≠ -2 then scF cd g b else if bt cd b = true then g b else -2 := rfl
theorem scF_k {cd : Int32} {g : Nat → Int} {b : Nat} (h : scF cd g b ≠ -2) : ∀ m : Nat, scF cd g (b + m) = scF cd g b
  | 0 => rfl
  | m + 1 => by
    have ih := scF_k h m
    rw [show b + (m + 1) = (b + m) + 1 by omega, scF_s, ih, if_pos h]
theorem scF_c {cd cd' : Int32} {g g' : Nat → Int} : ∀ n : Nat, (∀ j : Nat, j < n → bt cd j = bt cd' j ∧ (bt cd j = true → g j = g' j)) → scF cd g n = scF cd' g' n
  | 0, _ => rfl
  | n + 1, h => by
    obtain ⟨h1, h2⟩ := h n (by omega)
    rw [scF_s, scF_s, scF_c n (fun j hj => h j (by omega)), ← h1]
    by_cases z : bt cd n = true
    · rw [if_pos z, if_pos z, h2 z]
    · rw [if_neg z, if_neg z]
noncomputable def loF (W : Int32 → Prop) (cd : Int32) : Nat → Nat → Int32 → Int
  | 0, _, ch => @ite _ (W ch) (Classical.propDecidable _) ch.toInt (-2)
  | k + 1, b, ch => scF cd (fun c => loF W cd k c (ch ||| (1 <<< (Int32.ofNat c &&& 31)))) b
noncomputable def loG (W : Int32 → Prop) (cd : Int32) (k : Nat) (ch : Int32) (c : Nat) : Int := loF W cd k c (ch ||| (1 <<< (Int32.ofNat c &&& 31)))
theorem loF_s {W : Int32 → Prop} {cd : Int32} {k b : Nat} {ch : Int32} : loF W cd (k + 1) b ch = scF cd (loG W cd k ch) b := rfl
theorem loF_y {W : Int32 → Prop} {cd : Int32} {b : Nat} {ch : Int32} (h : W ch) : loF W cd 0 b ch = ch.toInt := by
  show @ite _ (W ch) (Classical.propDecidable _) ch.toInt (-2) = _
  rw [if_pos h]
theorem loF_n {W : Int32 → Prop} {cd : Int32} {b : Nat} {ch : Int32} (h : ¬ W ch) : loF W cd 0 b ch = -2 := by
  show @ite _ (W ch) (Classical.propDecidable _) ch.toInt (-2) = _
  rw [if_neg h]
noncomputable def fwF (W : Int32 → Prop) (cd : Int32) : Int := if loF W cd 0 20 0 ≠ -2 then loF W cd 0 20 0 else if loF W cd 1 20 0 ≠ -2 then loF W cd 1 20 0 else if loF W cd 2 20 0 ≠ -2 then loF W cd 2 20 0 else loF W cd 3 20 0
/-- by what works alone -/
theorem loF_w {W W' : Int32 → Prop} {cd : Int32} (h : ∀ s : Int32, (∀ j : Nat, bt s j = true → bt cd j = true) → (W s ↔ W' s)) : ∀ (k b : Nat) (ch : Int32), b ≤ 20 → (∀ j : Nat, bt ch j = true → bt cd j = true) → loF W cd k b ch = loF W' cd k b ch
  | 0, b, ch, _, hs => by
    by_cases z : W ch
    · rw [loF_y z, loF_y ((h ch hs).mp z)]
    · rw [loF_n z, loF_n (fun y => z ((h ch hs).mpr y))]
  | k + 1, b, ch, hb, hs => by
    rw [loF_s, loF_s]
    refine scF_c b (fun j hj => ⟨rfl, fun hc => loF_w h k j _ (by omega) (fun i hi => ?_)⟩)
    rw [bt_or rfl, bt_one (by omega), Bool.or_eq_true] at hi
    rcases hi with z | z
    · exact hs i z
    · rw [← of_decide_eq_true z]
      exact hc
theorem bt_0f {j : Nat} {P : Prop} (h : bt 0 j = true) : P := by
  rw [bt_0] at h
  exact absurd h (by decide)
theorem fwF_w {W W' : Int32 → Prop} {cd : Int32} (h : ∀ s : Int32, (∀ j : Nat, bt s j = true → bt cd j = true) → (W s ↔ W' s)) : fwF W cd = fwF W' cd := by
  have g : ∀ k : Nat, loF W cd k 20 0 = loF W' cd k 20 0 := fun k => loF_w h k 20 0 (Nat.le_refl _) (fun _ q => bt_0f q)
  unfold fwF
  rw [g 0, g 1, g 2, g 3]
theorem scF_f {cd : Int32} {g : Nat → Int} (h : ∀ j : Nat, g j = -2) : ∀ n : Nat, scF cd g n = -2
  | 0 => rfl
  | n + 1 => by
    rw [scF_s, scF_f h n, if_neg (fun z => z rfl), h n]
    split <;> rfl
theorem loF_f {W : Int32 → Prop} {cd : Int32} (h : ∀ s : Int32, ¬ W s) : ∀ (k b : Nat) (ch : Int32), loF W cd k b ch = -2
  | 0, b, ch => loF_n (h ch)
  | k + 1, b, ch => by
    rw [loF_s]
    exact scF_f (fun j => loF_f h k j _) b
theorem fwF_f {W : Int32 → Prop} {cd : Int32} (h : ∀ s : Int32, ¬ W s) : fwF W cd = -2 := by
  unfold fwF
  rw [loF_f h, loF_f h, loF_f h, loF_f h, if_neg (fun z => z rfl), if_neg (fun z => z rfl), if_neg (fun z => z rfl)]
/-- what is above all that may be chosen is nothing -/
theorem scF_up {cd : Int32} {g : Nat → Int} {n : Nat} (h : ∀ j : Nat, n ≤ j → bt cd j = false) : ∀ m : Nat, scF cd g (n + m) = scF cd g n
  | 0 => rfl
  | m + 1 => by
    rw [show n + (m + 1) = (n + m) + 1 by omega, scF_s, scF_up h m, h (n + m) (by omega), if_neg (show ¬ (false = true) by decide)]
    by_cases z : scF cd g n ≠ -2
    · rw [if_pos z]
    · rw [if_neg z]
      exact (Classical.byContradiction z).symm
theorem loF_up {W : Int32 → Prop} {cd : Int32} {n b : Nat} (h : ∀ j : Nat, n ≤ j → bt cd j = false) (hb : n ≤ b) (k : Nat) (ch : Int32) : loF W cd k b ch = loF W cd k n ch := by
  cases k with
  | zero => rfl
  | succ k =>
    rw [loF_s, loF_s, show b = n + (b - n) by omega]
    exact scF_up h (b - n)
/-- the class's search -/
def loQ (C : Prop) (W : Int32 → Prop) (cd : Int32) (k b : Nat) (ch : Int32) (r : Int) : Prop := C → r = loF W cd k b ch
def wbQ (C : Prop) (W : Int32 → Prop) (s : Int32) (r : Int) : Prop := C → (r = 1 ↔ W s)
def lfQ (C : Prop) (W : Int32 → Prop) (cd : Int32) (r : Int) : Prop := C → r = fwF W cd
theorem loQ_0 {C : Prop} {W : Int32 → Prop} {cd ch : Int32} {b : Nat} {r r9 : Int} (h : wbQ C W ch r9) (hr : (r9 = 1 ∧ r = ch.toInt) ∨ (r9 ≠ 1 ∧ r = -2)) : loQ C W cd 0 b ch r := fun hC => by
  have g := h hC
  rcases hr with ⟨h1, h2⟩ | ⟨h1, h2⟩
  · rw [loF_y (g.mp h1), h2]
  · rw [loF_n (fun y => h1 (g.mpr y)), h2]
def loI (C : Prop) (W : Int32 → Prop) (cd : Int32) (k : Nat) (ch : Int32) (c : Int) : Prop := C → scF cd (loG W cd k ch) c.toNat = -2
theorem loI_0 {C : Prop} {W : Int32 → Prop} {cd : Int32} {k : Nat} {ch : Int32} {c : Int} (h : c ≤ 0) : loI C W cd k ch c := fun _ => by
  rw [show c.toNat = 0 by omega]
  rfl
theorem loI_n {C : Prop} {W : Int32 → Prop} {cd I x y : Int32} {k : Nat} {ch : Int32} {c c1 : Int} (h : loI C W cd k ch c) (h0 : 0 ≤ c) (h1 : c ≤ 19) (hI : I.toInt = c) (ex : x = cd >>> (I &&& 31)) (ey : y = x &&& 1) (hy : y.toInt ≠ 1) (hc : c1 = c + 1) : loI C W cd k ch c1 := fun hC => by
  have hb := bit_of ex ey (by omega) (by omega)
  rw [hI] at hb
  rw [show c1.toNat = c.toNat + 1 by omega, scF_s, h hC, if_neg (fun z => z rfl), if_neg (fun z => hy (hb.mpr z))]
theorem loG_of {C : Prop} {W : Int32 → Prop} {cd I s o : Int32} {k b : Nat} {ch : Int32} {c r : Int} (hC : C) (h0 : 0 ≤ c) (hI : I.toInt = c) (es : s = 1 <<< (I &&& 31)) (eo : o = ch ||| s) (hq : loQ C W cd k b o r) (hb : b = c.toNat) : loG W cd k ch c.toNat = r := by
  have e : I = Int32.ofNat c.toNat := oN_of (by omega)
  rw [hq hC, eo, es, e, hb]
  rfl
theorem loI_f {C : Prop} {W : Int32 → Prop} {cd I s o : Int32} {k b : Nat} {ch : Int32} {c c1 r : Int} (h : loI C W cd k ch c) (h0 : 0 ≤ c) (hI : I.toInt = c) (es : s = 1 <<< (I &&& 31)) (eo : o = ch ||| s) (hq : loQ C W cd k b o r) (hb : b = c.toNat) (hr : r = -2) (hc : c1 = c + 1) : loI C W cd k ch c1 := fun hC => by
  rw [show c1.toNat = c.toNat + 1 by omega, scF_s, h hC, if_neg (fun z => z rfl), loG_of hC h0 hI es eo hq hb, hr]
  split <;> rfl
theorem loQ_y {C : Prop} {W : Int32 → Prop} {cd I x y s o : Int32} {k b : Nat} {ch : Int32} {c r r9 : Int} {bel : Nat} (h : loI C W cd k ch c) (h0 : 0 ≤ c) (h1 : c ≤ 19) (hI : I.toInt = c) (ex : x = cd >>> (I &&& 31)) (ey : y = x &&& 1) (hy : y.toInt = 1) (es : s = 1 <<< (I &&& 31)) (eo : o = ch ||| s) (hq : loQ C W cd k b o r) (hb : b = c.toNat) (hr : r ≠ -2) (hl : c.toNat < bel) (h9 : r9 = r) : loQ C W cd (k + 1) bel ch r9 := fun hC => by
  have hbt := bit_of ex ey (by omega) (by omega)
  rw [hI] at hbt
  have e1 : scF cd (loG W cd k ch) (c.toNat + 1) = r := by
    rw [scF_s, h hC, if_neg (fun z => z rfl), if_pos (hbt.mp hy), loG_of hC h0 hI es eo hq hb]
  have e2 := scF_k (cd := cd) (g := loG W cd k ch) (b := c.toNat + 1) (by rw [e1]; exact hr) (bel - (c.toNat + 1))
  rw [show c.toNat + 1 + (bel - (c.toNat + 1)) = bel by omega, e1] at e2
  rw [h9, loF_s, e2]
theorem loQ_e {C : Prop} {W : Int32 → Prop} {cd : Int32} {k : Nat} {ch : Int32} {c r : Int} {bel : Nat} (h : loI C W cd k ch c) (hl : bel ≤ c.toNat) (hr : r = -2) : loQ C W cd (k + 1) bel ch r := fun hC => by
  rw [hr, loF_s]
  refine Classical.byContradiction (fun q => ?_)
  have e2 := scF_k (cd := cd) (g := loG W cd k ch) (b := bel) (fun z => q z.symm) (c.toNat - bel)
  rw [show bel + (c.toNat - bel) = c.toNat by omega, h hC] at e2
  exact q e2
theorem lfQ_0 {C : Prop} {W : Int32 → Prop} {cd : Int32} {b0 : Nat} {r r0 : Int} (h0 : loQ C W cd 0 b0 0 r0) (b20 : b0 = 20) (n0 : r0 ≠ -2) (hr : r = r0) : lfQ C W cd r := fun hC => by
  have g0 := h0 hC
  rw [b20] at g0
  unfold fwF
  rw [← g0, if_pos n0]
  exact hr
theorem lfQ_1 {C : Prop} {W : Int32 → Prop} {cd : Int32} {b0 b1 : Nat} {r r0 r1 : Int} (h0 : loQ C W cd 0 b0 0 r0) (b20 : b0 = 20) (n0 : r0 = -2) (h1 : loQ C W cd 1 b1 0 r1) (b21 : b1 = 20) (n1 : r1 ≠ -2) (hr : r = r1) : lfQ C W cd r := fun hC => by
  have g0 := h0 hC
  have g1 := h1 hC
  rw [b20] at g0
  rw [b21] at g1
  unfold fwF
  rw [← g0, ← g1, if_neg (fun z => z n0), if_pos n1]
  exact hr
theorem lfQ_2 {C : Prop} {W : Int32 → Prop} {cd : Int32} {b0 b1 b2 : Nat} {r r0 r1 r2 : Int} (h0 : loQ C W cd 0 b0 0 r0) (b20 : b0 = 20) (n0 : r0 = -2) (h1 : loQ C W cd 1 b1 0 r1) (b21 : b1 = 20) (n1 : r1 = -2) (h2 : loQ C W cd 2 b2 0 r2) (b22 : b2 = 20) (n2 : r2 ≠ -2) (hr : r = r2) : lfQ C W cd r := fun hC => by
  have g0 := h0 hC
  have g1 := h1 hC
  have g2 := h2 hC
  rw [b20] at g0
  rw [b21] at g1
  rw [b22] at g2
  unfold fwF
  rw [← g0, ← g1, ← g2, if_neg (fun z => z n0), if_neg (fun z => z n1), if_pos n2]
  exact hr
theorem lfQ_3 {C : Prop} {W : Int32 → Prop} {cd : Int32} {b0 b1 b2 b3 : Nat} {r r0 r1 r2 r3 : Int} (h0 : loQ C W cd 0 b0 0 r0) (b20 : b0 = 20) (n0 : r0 = -2) (h1 : loQ C W cd 1 b1 0 r1) (b21 : b1 = 20) (n1 : r1 = -2) (h2 : loQ C W cd 2 b2 0 r2) (b22 : b2 = 20) (n2 : r2 = -2) (h3 : loQ C W cd 3 b3 0 r3) (b23 : b3 = 20) (hr : r = r3) : lfQ C W cd r := fun hC => by
  have g0 := h0 hC
  have g1 := h1 hC
  have g2 := h2 hC
  have g3 := h3 hC
  rw [b20] at g0
  rw [b21] at g1
  rw [b22] at g2
  rw [b23] at g3
  unfold fwF
  rw [← g0, ← g1, ← g2, ← g3, if_neg (fun z => z n0), if_neg (fun z => z n1), if_neg (fun z => z n2)]
  exact hr
/-- hedges by which one never comes there, by the flood -/
def to9 (to : Int) : Prop := 0 ≤ to ∧ to ≤ 19
def wC (fL fD fO : Nat → Int32) (dit : Int32) (fr : Nat) (to : Int) (s : Int32) : Prop := ¬ Rch (spE fL fD fO dit s) fr to.toNat
theorem wbC {fL fD fO : Nat → Int32} {dit s : Int32} {fr : Nat} {to r r9 : Int} (h : cmQ fL fD fO dit s fr to r9) (hr : (r9 = 1 ∧ r = 0) ∨ (r9 ≠ 1 ∧ r = 1)) : wbQ (to9 to) (wC fL fD fO dit fr to) s r := fun hC => by
  have g := h hC.1 hC.2
  unfold wC
  rcases hr with ⟨h1, h2⟩ | ⟨h1, h2⟩
  · exact ⟨fun z => absurd (h2.symm.trans z) (by decide), fun z => absurd (g.mp h1) z⟩
  · exact ⟨fun _ z => h1 (g.mpr z), fun _ => h2⟩
/-- all PLACES -/
def abP (n : Int) (r : Int32) : Prop := 0 ≤ n → n ≤ 20 → (0 ≤ r.toInt ∧ r.toInt ≤ 1048575) ∧ ∀ j : Nat, j < 20 → bt r j = decide ((j : Int) < n)
theorem abP_of {N x r : Int32} (ex : x = 1 <<< (N &&& 31)) (er : r = x - 1) : abP N.toInt r := fun h0 h1 => by
  have key : ∀ k : Nat, k < 21 → ((1 : Int32) <<< (Int32.ofNat k &&& 31) - 1 = Int32.ofNat (2 ^ k - 1) ∧ 0 ≤ (Int32.ofNat (2 ^ k - 1)).toInt ∧ (Int32.ofNat (2 ^ k - 1)).toInt ≤ 1048575) := by decide +kernel
  have e : N = Int32.ofNat N.toInt.toNat := oN_of (by omega)
  have e1 : r = Int32.ofNat (2 ^ N.toInt.toNat - 1) := by
    rw [er, ex]
    have k1 := (key N.toInt.toNat (by omega)).1
    rw [← e] at k1
    exact k1
  have k2 := (key N.toInt.toNat (by omega)).2
  rw [e1]
  refine ⟨k2, fun j hj => ?_⟩
  have hp : 2 ^ N.toInt.toNat ≤ 2 ^ 20 := Nat.pow_le_pow_right (by omega) (by omega)
  unfold bt
  rw [show (Int32.ofNat (2 ^ N.toInt.toNat - 1)).toBitVec = BitVec.ofNat 32 (2 ^ N.toInt.toNat - 1) from rfl, BitVec.toNat_ofNat, Nat.mod_eq_of_lt (by omega), Nat.testBit_two_pow_sub_one]
  exact decide_eq_decide.mpr (by omega)
/-- what may become a hedge -/
def cdP (n : Int) (f : Nat → Int32) (fr to : Int) (cd : Int32) : Prop := (0 ≤ cd.toInt ∧ cd.toInt ≤ 1048575) ∧ ∀ j : Nat, j < 20 → (bt cd j = true ↔ (j : Int) < n ∧ (f j).toInt ≠ 3 ∧ (j : Int) ≠ fr ∧ (j : Int) ≠ to)
theorem cdP_u {n fr to : Int} {f : Nat → Int32} {c1 c2 : Int32} (h1 : cdP n f fr to c1) (h2 : cdP n f fr to c2) : c1 = c2 := bt_ext h1.1.1 h1.1.2 h2.1.1 h2.1.2 (fun j hj => Bool.eq_iff_iff.mpr ((h1.2 j hj).trans (h2.2 j hj).symm))
theorem cd_of {n fr to : Int} {f : Nat → Int32} {A B G I y1 o1 y2 o2 x cd : Int32} (hn0 : 0 ≤ n) (hn : n ≤ 20) (hA : abP n A) (hB : B = boZ f 3 n.toNat) (hG : G.toInt = fr) (hI : I.toInt = to) (f0 : 0 ≤ fr) (f1 : fr < n) (t0 : 0 ≤ to) (t1 : to < n) (e1 : y1 = 1 <<< (G &&& 31)) (e2 : o1 = B ||| y1) (e3 : y2 = 1 <<< (I &&& 31)) (e4 : o2 = o1 ||| y2) (e5 : x = o2 ^^^ (-1)) (e6 : cd = A &&& x) : cdP n f fr to cd := by
  obtain ⟨a1, a2⟩ := hA hn0 hn
  obtain ⟨c1, c2⟩ := ti_andl e6 a1.1
  refine ⟨⟨c1, by omega⟩, fun j hj => ?_⟩
  rw [bt_and e6, a2 j hj, bt_not e5 (show j < 32 by omega), bt_or e4, bt_or e2, hB, bt_boZ n.toNat (by omega), bt_sh e1 (by omega) (by omega), bt_sh e3 (by omega) (by omega), hG, hI, Bool.and_eq_true, decide_eq_true_eq, Bool.not_eq_true', Bool.or_eq_false_iff, Bool.or_eq_false_iff, decide_eq_false_iff_not, decide_eq_false_iff_not, decide_eq_false_iff_not]
  constructor
  · rintro ⟨z1, ⟨z2, z3⟩, z4⟩
    exact ⟨z1, fun z => z2 ⟨by omega, z⟩, by omega, by omega⟩
  · rintro ⟨z1, z2, z3, z4⟩
    exact ⟨z1, ⟨fun z => z2 z.2, by omega⟩, by omega⟩
def wH (w n : Int) (f : Nat → Int32) (k fr to : Int) (s : Int32) : Prop := ¬ Rch (eT n.toNat (cT w n (chF n f s 3) k)) fr.toNat to.toNat
def cuV (w n : Int) (f : Nat → Int32) (k fr to r : Int) : Prop := ∃ cd : Int32, cdP n f fr to cd ∧ r = fwF (wH w n f k fr to) cd
def cuP (wk w n : Int) (f kd at_ go : Nat → Int32) (p r : Int) : Prop := ((p < 0 ∨ wk ≤ p) ∧ r = -1) ∨ ((0 ≤ p ∧ p < wk) ∧ (0 ≤ (at_ p.toNat).toInt → (at_ p.toNat).toInt < n → 0 ≤ (go p.toNat).toInt → (go p.toNat).toInt < n → cuV w n f (kd p.toNat).toInt (at_ p.toNat).toInt (go p.toNat).toInt r))
theorem cuP_no {wk w n p r : Int} {f kd at_ go : Nat → Int32} (h : p < 0 ∨ wk ≤ p) (hr : r = -1) : cuP wk w n f kd at_ go p r := Or.inl ⟨h, hr⟩
theorem bt_dit {n : Int} {f : Nat → Int32} {v : Int} {j : Nat} (hn : n ≤ 20) (hj : (j : Int) < n) : bt (boZ f v n.toNat) j = true ↔ (f j).toInt = v := by
  rw [bt_boZ n.toNat (by omega), decide_eq_true_eq]
  exact ⟨fun y => y.2, fun y => ⟨by omega, y⟩⟩
theorem cuV_of {w n k fr to to9' r r8 : Int} {f fL fD fO : Nat → Int32} {dit cd : Int32} {fn : Nat} (hn : n ≤ 20) (f0 : 0 ≤ fr) (f1 : fr < n) (t0 : 0 ≤ to) (t1 : to < n) (hl : flQ w n f k 1 fL fD fO n) (hd : dit = boZ f 1 n.toNat) (hf : fn = fr.toNat) (ht : to9' = to) (hc : cdP n f fr to cd) (h : lfQ (to9 to9') (wC fL fD fO dit fn to9') cd r8) (hr : r = r8) : cuV w n f k fr to r := by
  subst ht hr
  refine ⟨cd, hc, ?_⟩
  rw [h ⟨t0, by omega⟩, hf, hd]
  refine fwF_w (fun s hs => ?_)
  have hfr : bt s fr.toNat = false := Bool.eq_false_iff.mpr (fun z => ((hc.2 fr.toNat (by omega)).mp (hs _ z)).2.2.1 (by omega))
  have h3 : (3 : Int32).toInt = 3 := by decide
  have key : ∀ j : Nat, (j : Int) < n → bt s j = true → chF n f s 3 j = 3 := fun j hj hb => chF_y hj hb
  unfold wC wH
  have g1 : ∀ j : Nat, (j : Int) < n → ((chF n f s 3 j).toInt = 3 ↔ (f j).toInt = 3 ∨ bt s j = true) := fun j hj => by
    cases z : bt s j with
    | true => rw [key j hj z]; exact ⟨fun _ => Or.inr rfl, fun _ => h3⟩
    | false => rw [chF_n z]; exact ⟨Or.inl, fun y => y.resolve_right (by decide)⟩
  have g2 : ∀ j : Nat, (j : Int) < n → (chF n f s 3 j).toInt ≠ 3 → (bt (boZ f 1 n.toNat) j = true ↔ (chF n f s 3 j).toInt = 1) := fun j hj h9 => by
    rw [bt_dit hn hj]
    cases z : bt s j with
    | true => rw [key j hj z] at h9; exact absurd h3 h9
    | false => rw [chF_n z]
  have g3 : bt (boZ f 1 n.toNat) fr.toNat = true ↔ (chF n f s 3 fr.toNat).toInt = 1 := by
    rw [bt_dit hn (by omega), chF_n hfr]
  exact not_congr (Rch_g1 (f' := chF n f s 3) hn hl (by decide) g1 g2 (by omega) g3)
theorem cuP_of {wk w n p r : Int} {f kd at_ go : Nat → Int32} (h0 : 0 ≤ p) (h1 : p < wk) (h : 0 ≤ (at_ p.toNat).toInt → (at_ p.toNat).toInt < n → 0 ≤ (go p.toNat).toInt → (go p.toNat).toInt < n → cuV w n f (kd p.toNat).toInt (at_ p.toNat).toInt (go p.toNat).toInt r) : cuP wk w n f kd at_ go p r := Or.inr ⟨⟨h0, h1⟩, h⟩
/-- four floods -/
abbrev F3 := (Nat → Int32) × (Nat → Int32) × (Nat → Int32)
def ff4 (a1 a2 a3 b1 b2 b3 c1 c2 c3 d1 d2 d3 : Nat → Int32) : Nat → F3 := fun j => match j with | 0 => (a1, a2, a3) | 1 => (b1, b2, b3) | 2 => (c1, c2, c3) | 3 => (d1, d2, d3) | _ => (fun _ => 0, fun _ => 0, fun _ => 0)
theorem ff4_0 {a1 a2 a3 b1 b2 b3 c1 c2 c3 d1 d2 d3 x1 x2 x3 : Nat → Int32} : ∀ j : Nat, j ≠ 0 → ff4 x1 x2 x3 b1 b2 b3 c1 c2 c3 d1 d2 d3 j = ff4 a1 a2 a3 b1 b2 b3 c1 c2 c3 d1 d2 d3 j
  | 0, h => absurd rfl h
  | 1, _ => rfl
  | 2, _ => rfl
  | 3, _ => rfl
  | _ + 4, _ => rfl
theorem ff4_1 {a1 a2 a3 b1 b2 b3 c1 c2 c3 d1 d2 d3 x1 x2 x3 : Nat → Int32} : ∀ j : Nat, j ≠ 1 → ff4 a1 a2 a3 x1 x2 x3 c1 c2 c3 d1 d2 d3 j = ff4 a1 a2 a3 b1 b2 b3 c1 c2 c3 d1 d2 d3 j
  | 0, _ => rfl
  | 1, h => absurd rfl h
  | 2, _ => rfl
  | 3, _ => rfl
  | _ + 4, _ => rfl
theorem ff4_2 {a1 a2 a3 b1 b2 b3 c1 c2 c3 d1 d2 d3 x1 x2 x3 : Nat → Int32} : ∀ j : Nat, j ≠ 2 → ff4 a1 a2 a3 b1 b2 b3 x1 x2 x3 d1 d2 d3 j = ff4 a1 a2 a3 b1 b2 b3 c1 c2 c3 d1 d2 d3 j
  | 0, _ => rfl
  | 1, _ => rfl
  | 2, h => absurd rfl h
  | 3, _ => rfl
  | _ + 4, _ => rfl
theorem ff4_3 {a1 a2 a3 b1 b2 b3 c1 c2 c3 d1 d2 d3 x1 x2 x3 : Nat → Int32} : ∀ j : Nat, j ≠ 3 → ff4 a1 a2 a3 b1 b2 b3 c1 c2 c3 x1 x2 x3 j = ff4 a1 a2 a3 b1 b2 b3 c1 c2 c3 d1 d2 d3 j
  | 0, _ => rfl
  | 1, _ => rfl
  | 2, _ => rfl
  | 3, h => absurd rfl h
  | _ + 4, _ => rfl
/-- who has a way without FALL, by the floods -/
def dyP (F : Nat → F3) (st go : Nat → Int32) (dit : Int32) (w : Nat) : Prop := Rch (spE (F w).1 (F w).2.1 (F w).2.2 dit 0) (st w).toInt.toNat (go w).toInt.toNat
def goH (go : Nat → Int32) (wk : Int) : Prop := ∀ w : Nat, (w : Int) < wk → to9 (go w).toInt
def wDy (F : Nat → F3) (st go : Nat → Int32) (dit : Int32) (wk : Int) (s : Int32) : Prop := ∀ w : Nat, (w : Int) < wk → dyP F st go (dit &&& (s ^^^ (-1))) w
theorem dy_c {F : Nat → F3} {st go : Nat → Int32} {wk : Int} {d2 X S G : Int32} {d : Nat} {r : Int} (hC : goH go wk) (hc : cmQ (F d).1 (F d).2.1 (F d).2.2 d2 0 S.toInt.toNat G.toInt r) (hX : X.toInt = (d : Int)) (hw : X.toInt < wk) (eS : S = st X.toNatClampNeg) (eG : G = go X.toNatClampNeg) {D : Int32} (ed : d2 = D) : r = 1 ↔ dyP F st go D d := by
  subst ed
  have nX : X.toNatClampNeg = d := by
    show X.toInt.toNat = d
    omega
  rw [nX] at eS eG
  have hg := hC d (by omega)
  rw [← eG] at hg
  rw [hc hg.1 hg.2, eS, eG]
  exact Iff.rfl
/-- asked one after the other, beginning with him who had none -/
def dwI (C : Prop) (P : Nat → Prop) (l wk i : Int) : Prop := C → ∀ m : Int, 0 ≤ m → m < i → P ((l + m) % wk).toNat
theorem dwI_0 {C : Prop} {P : Nat → Prop} {l wk i : Int} (h : i ≤ 0) : dwI C P l wk i := fun _ m m0 m1 => by omega
theorem dwI_up {C : Prop} {P : Nat → Prop} {l wk i i1 r : Int} {d : Nat} (h : dwI C P l wk i) (hp : C → (r = 1 ↔ P d)) (hr : r = 1) (hd : (l + i) % wk = (d : Int)) (hi : i1 = i + 1) : dwI C P l wk i1 := fun hC m m0 m1 => by
  by_cases z : m = i
  · rw [z, hd, nb]
    exact (hp hC).mp hr
  · exact h hC m m0 (by omega)
theorem dw_y {F : Nat → F3} {st go : Nat → Int32} {dit s : Int32} {l wk i r : Int} (h : dwI (goH go wk) (dyP F st go (dit &&& (s ^^^ (-1)))) l wk i) (hl : 0 ≤ l) (hi : wk ≤ i) (hr : r = 1) : wbQ (goH go wk) (wDy F st go dit wk) s r := fun hC => by
  refine ⟨fun _ w hw => ?_, fun _ => hr⟩
  have g := h hC (((w : Int) - l) % wk) (Int.emod_nonneg _ (by omega)) (by have := Int.emod_lt_of_pos ((w : Int) - l) (show 0 < wk by omega); omega)
  have e : (l + ((w : Int) - l) % wk) % wk = (w : Int) := by
    rw [Int.add_emod_emod, show l + ((w : Int) - l) = (w : Int) by omega]
    exact Int.emod_eq_of_lt (by omega) hw
  rw [e, nb] at g
  exact g
theorem dw_n {F : Nat → F3} {st go : Nat → Int32} {dit s : Int32} {wk r r9 : Int} {d : Nat} (hp : goH go wk → (r9 = 1 ↔ dyP F st go (dit &&& (s ^^^ (-1))) d)) (h9 : r9 ≠ 1) (hd : (d : Int) < wk) (hr : r = 0) : wbQ (goH go wk) (wDy F st go dit wk) s r := fun hC => ⟨fun z => absurd (hr.symm.trans z) (by decide), fun z => absurd ((hp hC).mpr (z d hd)) h9⟩
/-- those of whom something holds, as bits -/
noncomputable def bP (P : Nat → Prop) : Nat → Int32
  | 0 => 0
  | k + 1 => @ite _ (P k) (Classical.propDecidable _) (bP P k ||| (1 <<< (Int32.ofNat k &&& 31))) (bP P k)
theorem bP_s1 {P : Nat → Prop} {k : Nat} (h : P k) : bP P (k + 1) = bP P k ||| (1 <<< (Int32.ofNat k &&& 31)) := by
  show @ite _ (P k) (Classical.propDecidable _) _ _ = _
  rw [if_pos h]
theorem bP_s0 {P : Nat → Prop} {k : Nat} (h : ¬ P k) : bP P (k + 1) = bP P k := by
  show @ite _ (P k) (Classical.propDecidable _) _ _ = _
  rw [if_neg h]
theorem bP_c {P P' : Nat → Prop} : ∀ n : Nat, (∀ j : Nat, j < n → (P j ↔ P' j)) → bP P n = bP P' n
  | 0, _ => rfl
  | n + 1, h => by
    have ih := bP_c n (fun j hj => h j (by omega))
    by_cases z : P n
    · rw [bP_s1 z, bP_s1 ((h n (by omega)).mp z), ih]
    · rw [bP_s0 z, bP_s0 (fun y => z ((h n (by omega)).mpr y)), ih]
theorem bP_hi {P : Nat → Prop} {j : Nat} : ∀ n : Nat, n ≤ 20 → n ≤ j → bt (bP P n) j = false
  | 0, _, _ => bt_0 j
  | n + 1, hn, hj => by
    have ih := bP_hi (P := P) (j := j) n (by omega) (by omega)
    by_cases z : P n
    · rw [bP_s1 z, bt_or rfl, ih, bt_one (by omega), decide_eq_false (show ¬ n = j by omega), Bool.or_false]
    · rw [bP_s0 z, ih]
theorem bP_bd {P : Nat → Prop} : ∀ n : Nat, n ≤ 20 → 0 ≤ (bP P n).toInt ∧ (bP P n).toInt ≤ 1048575
  | 0, _ => by
    show 0 ≤ (0 : Int32).toInt ∧ (0 : Int32).toInt ≤ 1048575
    decide
  | n + 1, hn => by
    obtain ⟨i1, i2⟩ := bP_bd (P := P) n (by omega)
    by_cases z : P n
    · have e : (Int32.ofNat n).toInt = n := Int32.toInt_ofNat_of_lt (by omega)
      obtain ⟨s1, s2⟩ := ti_shl1 (y := Int32.ofNat n) rfl (by omega) (by omega)
      rw [bP_s1 z]
      exact ti_or20 rfl i1 i2 s1 s2
    · rw [bP_s0 z]
      exact ⟨i1, i2⟩
theorem bP_15 {P : Nat → Prop} {n : Nat} (hn : n ≤ 4) : 0 ≤ (bP P n).toInt ∧ (bP P n).toInt ≤ 15 := by
  obtain ⟨h0, -⟩ := bP_bd (P := P) n (by omega)
  have h1 := ti_nat h0
  have h2 : (bP P n).toBitVec.toNat < 2 ^ 4 := Nat.lt_pow_two_of_testBit _ (fun j hj => bP_hi (P := P) n (by omega) (by omega))
  omega
def dbI (C : Prop) (P : Nat → Prop) (i : Int) (b : Int32) : Prop := C → b = bP P i.toNat
theorem dbI_0 {C : Prop} {P : Nat → Prop} {i : Int} {b : Int32} (hi : i = 0) (hb : b = 0) : dbI C P i b := fun _ => by
  rw [hi, hb]
  rfl
theorem dbI_y {C : Prop} {P : Nat → Prop} {i i1 r : Int} {b I y z : Int32} {d : Nat} (h : dbI C P i b) (hp : C → (r = 1 ↔ P d)) (hr : r = 1) (hd : i = (d : Int)) (hI : I.toInt = i) (ey : y = 1 <<< (I &&& 31)) (ez : z = b ||| y) (hi : i1 = i + 1) : dbI C P i1 z := fun hC => by
  have e : I = Int32.ofNat d := oN_of (by omega)
  rw [show i1.toNat = d + 1 by omega, bP_s1 ((hp hC).mp hr), ez, ey, h hC, e, show i.toNat = d by omega]
theorem dbI_n {C : Prop} {P : Nat → Prop} {i i1 r : Int} {b : Int32} {d : Nat} (h : dbI C P i b) (hp : C → (r = 1 ↔ P d)) (hr : r ≠ 1) (hd : i = (d : Int)) (hi : i1 = i + 1) : dbI C P i1 b := fun hC => by
  rw [show i1.toNat = d + 1 by omega, bP_s0 (fun y => hr ((hp hC).mpr y)), h hC, show i.toNat = d by omega]
theorem dbI_e {C : Prop} {P : Nat → Prop} {i i' : Int} {b : Int32} (h : dbI C P i b) (e : i.toNat = i'.toNat) : dbI C P i' b := fun hC => by
  rw [← e]
  exact h hC
/-- what the dry search has learnt -/
def drL (w n : Int) (f kd at_ go : Nat → Int32) (F : Nat → F3) (st gl : Nat → Int32) (i : Int) : Prop := ∀ j : Nat, (j : Int) < i → flQ w n f (kd j).toInt 0 (F j).1 (F j).2.1 (F j).2.2 n ∧ st j = at_ j ∧ gl j = go j
theorem drL_0 {w n i : Int} {f kd at_ go st gl : Nat → Int32} {F : Nat → F3} (h : i ≤ 0) : drL w n f kd at_ go F st gl i := fun j hj => by omega
theorem drL_up {w n i i1 k : Int} {f kd at_ go st gl st1 gl1 : Nat → Int32} {F F1 : Nat → F3} {d : Nat} {I a g : Int32} (h : drL w n f kd at_ go F st gl i) (hF : ∀ j : Nat, j ≠ d → F1 j = F j) (hd : i = (d : Int)) (hI : I.toInt = i) (hk : (kd d).toInt = k) (hq : flQ w n f k 0 (F1 d).1 (F1 d).2.1 (F1 d).2.2 n) (ea : a = at_ (Int32.toNatClampNeg I)) (us : upd st (Int32.toNatClampNeg I) a = st1) (eg : g = go (Int32.toNatClampNeg I)) (ug : upd gl (Int32.toNatClampNeg I) g = gl1) (hi : i1 = i + 1) : drL w n f kd at_ go F1 st1 gl1 i1 := fun j hj => by
  have nI : Int32.toNatClampNeg I = d := by
    show I.toInt.toNat = d
    omega
  rw [nI] at ea us eg ug
  obtain ⟨s1, s2⟩ := upd_at us
  obtain ⟨g1, g2⟩ := upd_at ug
  by_cases z : j = d
  · rw [z, hk, s1, g1]
    exact ⟨hq, ea, eg⟩
  · rw [hF j z, s2 j z, g2 j z]
    exact h j (by omega)
theorem drL_le {w n i i1 : Int} {f kd at_ go st gl : Nat → Int32} {F : Nat → F3} (h : drL w n f kd at_ go F st gl i) (e : i1 ≤ i) : drL w n f kd at_ go F st gl i1 := fun j hj => h j (by omega)
theorem rem_d {X Y l i wk : Int} {d : Nat} (h1 : X = Y % wk) (h2 : Y = l + i) (h3 : X = (d : Int)) : (l + i) % wk = (d : Int) := by
  rw [← h2, ← h1, h3]
/-- gates by which each walker has a way without FALL -/
def wG (w n wk : Int) (f kd at_ go : Nat → Int32) (s : Int32) : Prop := ∀ j : Nat, (j : Int) < wk → Rch (eG n.toNat (cT w n (chF n f s 2) (kd j).toInt) (cF w n (chF n f s 2) (kd j).toInt)) (at_ j).toInt.toNat (go j).toInt.toNat
def agH (n wk : Int) (at_ go : Nat → Int32) : Prop := ∀ j : Nat, (j : Int) < wk → 0 ≤ (at_ j).toInt ∧ (at_ j).toInt < n ∧ 0 ≤ (go j).toInt ∧ (go j).toInt < n
def gaP (wk w n : Int) (f kd at_ go : Nat → Int32) (r : Int) : Prop := (n ≤ 0 ∧ r = -1) ∨ (0 < n ∧ (agH n wk at_ go → r = fwF (wG w n wk f kd at_ go) (boZ f 1 n.toNat)))
theorem gaP_no {wk w n r : Int} {f kd at_ go : Nat → Int32} (h : n ≤ 0) (hr : r = -1) : gaP wk w n f kd at_ go r := Or.inl ⟨h, hr⟩
theorem chE {w n k : Int} {f fL fD fO : Nat → Int32} {s v dit : Int32} {fr to : Nat} (hn : n ≤ 20) (hf : (fr : Int) < n) (hl : flQ w n f k 0 fL fD fO n) (hs : ∀ j : Nat, (j : Int) < n → bt s j = true → (f j).toInt ≠ 3) (h3 : v.toInt ≠ 3) (hd : ∀ j : Nat, (j : Int) < n → (bt dit j = true ↔ (chF n f s v j).toInt = 1)) : Rch (spE fL fD fO dit 0) fr to ↔ Rch (eG n.toNat (cT w n (chF n f s v) k) (cF w n (chF n f s v) k)) fr to := by
  refine Rch_g0 hn hl (fun j hj => ?_) (fun j hj _ => hd j hj) hf (hd fr hf)
  rw [bt_0]
  cases z : bt s j with
  | true =>
    rw [chF_y hj z]
    exact ⟨fun y => absurd y h3, fun y => y.elim (fun y1 => absurd y1 (hs j hj z)) (fun y1 => absurd y1 (by decide))⟩
  | false =>
    rw [chF_n z]
    exact ⟨Or.inl, fun y => y.resolve_right (by decide)⟩
theorem gaP_of {wk w n r r8 : Int} {f kd at_ go st gl : Nat → Int32} {F : Nat → F3} {dit cd : Int32} (hn0 : 0 < n) (hn : n ≤ 20) (hl : drL w n f kd at_ go F st gl wk) (hd : dit = boZ f 1 n.toNat) (hc : cd = boZ f 1 n.toNat) (h : lfQ (goH gl wk) (wDy F st gl dit wk) cd r8) (hr : r = r8) : gaP wk w n f kd at_ go r := by
  subst hr
  refine Or.inr ⟨hn0, fun hA => ?_⟩
  have hg : goH gl wk := fun j hj => by
    obtain ⟨-, -, e⟩ := hl j hj
    obtain ⟨-, -, q1, q2⟩ := hA j hj
    rw [e]
    exact ⟨q1, by omega⟩
  rw [h hg, hc, hd]
  refine fwF_w (fun s hs => ?_)
  unfold wDy wG dyP
  have key : ∀ j : Nat, (j : Int) < wk → (Rch (spE (F j).1 (F j).2.1 (F j).2.2 (boZ f 1 n.toNat &&& (s ^^^ (-1))) 0) (st j).toInt.toNat (gl j).toInt.toNat ↔ Rch (eG n.toNat (cT w n (chF n f s 2) (kd j).toInt) (cF w n (chF n f s 2) (kd j).toInt)) (at_ j).toInt.toNat (go j).toInt.toNat) := fun j hj => by
    obtain ⟨q1, q2, q3⟩ := hl j hj
    obtain ⟨a1, a2, a3, a4⟩ := hA j hj
    rw [q2, q3]
    refine chE hn (by omega) q1 (fun i hi z => ?_) (by decide) (fun i hi => ?_)
    · have y := (bt_dit hn hi).mp (hs i z)
      omega
    · rw [bt_and rfl, bt_not rfl (show i < 32 by omega)]
      cases z : bt s i with
      | true =>
        rw [chF_y hi z]
        exact ⟨fun y => by rw [Bool.not_true, Bool.and_false] at y; exact absurd y (by decide), fun y => absurd y (by decide)⟩
      | false =>
        rw [chF_n z, Bool.not_false, Bool.and_true, bt_dit hn hi]
  exact ⟨fun h9 j hj => (key j hj).mp (h9 j hj), fun h9 j hj => (key j hj).mpr (h9 j hj)⟩
/-- the lawn by which most lose their way without FALL -/
noncomputable def tpF (ok : Nat → Prop) (u : Nat → Int) : Nat → Int × Int
  | 0 => (-2, 0)
  | c + 1 => @ite _ (ok c ∧ (tpF ok u c).2 < u c) (Classical.propDecidable _) ((c : Int), u c) (tpF ok u c)
theorem tpF_y {ok : Nat → Prop} {u : Nat → Int} {c : Nat} (h : ok c ∧ (tpF ok u c).2 < u c) : tpF ok u (c + 1) = ((c : Int), u c) := by
  show @ite _ (ok c ∧ (tpF ok u c).2 < u c) (Classical.propDecidable _) _ _ = _
  rw [if_pos h]
theorem tpF_n {ok : Nat → Prop} {u : Nat → Int} {c : Nat} (h : ¬ (ok c ∧ (tpF ok u c).2 < u c)) : tpF ok u (c + 1) = tpF ok u c := by
  show @ite _ (ok c ∧ (tpF ok u c).2 < u c) (Classical.propDecidable _) _ _ = _
  rw [if_neg h]
theorem tpF_c {ok ok' : Nat → Prop} {u u' : Nat → Int} : ∀ n : Nat, (∀ j : Nat, j < n → (ok j ↔ ok' j) ∧ (ok j → u j = u' j)) → tpF ok u n = tpF ok' u' n
  | 0, _ => rfl
  | n + 1, h => by
    have ih := tpF_c n (fun j hj => h j (by omega))
    obtain ⟨h1, h2⟩ := h n (by omega)
    by_cases z : ok n ∧ (tpF ok u n).2 < u n
    · have z2 : ok' n ∧ (tpF ok' u' n).2 < u' n := ⟨h1.mp z.1, by rw [← ih, ← h2 z.1]; exact z.2⟩
      rw [tpF_y z, tpF_y z2, h2 z.1]
    · have z2 : ¬ (ok' n ∧ (tpF ok' u' n).2 < u' n) := fun y => z ⟨h1.mpr y.1, by rw [ih, h2 (h1.mpr y.1)]; exact y.2⟩
      rw [tpF_n z, tpF_n z2, ih]
def tpI (C : Prop) (ok : Nat → Prop) (u : Nat → Int) (i b m : Int) : Prop := C → tpF ok u i.toNat = (b, m)
theorem tpI_0 {C : Prop} {ok : Nat → Prop} {u : Nat → Int} {i b m : Int} (hi : i = 0) (hb : b = -2) (hm : m = 0) : tpI C ok u i b m := fun _ => by
  rw [hi, hb, hm]
  rfl
theorem tpI_y {C : Prop} {ok : Nat → Prop} {u : Nat → Int} {i i1 b m x : Int} (h : tpI C ok u i b m) (h0 : 0 ≤ i) (ho : ok i.toNat) (hu : C → u i.toNat = x) (hl : m < x) (hi : i1 = i + 1) : tpI C ok u i1 i x := fun hC => by
  have e := h hC
  have z : ok i.toNat ∧ (tpF ok u i.toNat).2 < u i.toNat := ⟨ho, by rw [e, hu hC]; exact hl⟩
  rw [show i1.toNat = i.toNat + 1 by omega, tpF_y z, hu hC, show ((i.toNat : Nat) : Int) = i by omega]
theorem tpI_n {C : Prop} {ok : Nat → Prop} {u : Nat → Int} {i i1 b m : Int} (h : tpI C ok u i b m) (h0 : 0 ≤ i) (ho : ¬ ok i.toNat ∨ ∃ x : Int, (C → u i.toNat = x) ∧ x ≤ m) (hi : i1 = i + 1) : tpI C ok u i1 b m := fun hC => by
  have e := h hC
  have z : ¬ (ok i.toNat ∧ (tpF ok u i.toNat).2 < u i.toNat) := fun y => by
    rcases ho with q | ⟨x, q1, q2⟩
    · exact q y.1
    · have y2 := y.2
      rw [e, q1 hC] at y2
      exact absurd y2 (by show ¬ (m < x); omega)
  rw [show i1.toNat = i.toNat + 1 by omega, tpF_n z, e]
def lwP (f at_ : Nat → Int32) (wk : Int) (c : Nat) : Prop := (f c).toInt = 0 ∧ waN at_ wk (c : Int)
theorem lwq_y {f at_ : Nat → Int32} {nk n i s r : Int} (hs : saZ n f i s) (h0 : 0 ≤ i) (h1 : i < n) (hs0 : s = 0) (hw : waP at_ nk i r) (hr : r = 0) : lwP f at_ nk i.toNat := by
  have e := sa_v hs h0 h1
  refine ⟨e.trans hs0, ?_⟩
  rw [show ((i.toNat : Nat) : Int) = i by omega]
  exact waP_no hw hr
theorem lwq_s {f at_ : Nat → Int32} {nk n i s : Int} (hs : saZ n f i s) (h0 : 0 ≤ i) (h1 : i < n) (hs0 : s ≠ 0) : ¬ lwP f at_ nk i.toNat := fun y => hs0 ((sa_v hs h0 h1).symm.trans y.1)
theorem lwq_w {f at_ : Nat → Int32} {nk i r : Int} (h0 : 0 ≤ i) (hw : waP at_ nk i r) (hr : r ≠ 0) : ¬ lwP f at_ nk i.toNat := fun y => by
  have y2 := y.2
  rw [show ((i.toNat : Nat) : Int) = i by omega] at y2
  obtain ⟨j, j1, j2⟩ := waP_ye hw hr
  exact y2 j j1 j2
theorem lwm_y {v at_ : Nat → Int32} {nk i r : Int} {I x : Int32} (ex : x = v (Int32.toNatClampNeg I)) (hI : I.toInt = i) (h0 : 0 ≤ i) (hx : x.toInt = 0) (hw : waP at_ nk i r) (hr : r = 0) : lwP v at_ nk i.toNat := by
  have nI : Int32.toNatClampNeg I = i.toNat := by rw [← hI]; rfl
  rw [nI] at ex
  refine ⟨by rw [← ex]; exact hx, ?_⟩
  rw [show ((i.toNat : Nat) : Int) = i by omega]
  exact waP_no hw hr
theorem lwm_s {v at_ : Nat → Int32} {nk i : Int} {I x : Int32} (ex : x = v (Int32.toNatClampNeg I)) (hI : I.toInt = i) (hx : x.toInt ≠ 0) : ¬ lwP v at_ nk i.toNat := fun y => by
  have nI : Int32.toNatClampNeg I = i.toNat := by rw [← hI]; rfl
  rw [nI] at ex
  have y1 := y.1
  rw [← ex] at y1
  exact hx y1
def tpU (B0 : Int32) (B : Nat → Int32) (c : Nat) : Int := (bcF (B0 &&& (B c ^^^ (-1)))).toInt
noncomputable def tpB (F : Nat → F3) (st go : Nat → Int32) (dit : Int32) (wk : Int) (c : Nat) : Int32 := bP (dyP F st go (dit ||| (1 <<< (Int32.ofNat c &&& 31)))) wk.toNat
theorem tpU_of {F : Nat → F3} {st go : Nat → Int32} {wk i : Int} {dit d0 b0 b1 I s x y r : Int32} (h0 : dbI (goH go wk) (dyP F st go (dit ||| d0)) wk b0) (hd0 : d0 = 0) (h1 : dbI (goH go wk) (dyP F st go (dit ||| s)) wk b1) (hI : I.toInt = i) (hi0 : 0 ≤ i) (es : s = 1 <<< (I &&& 31)) (ex : x = b1 ^^^ (-1)) (ey : y = b0 &&& x) (er : r = bcF y) (hC : goH go wk) : tpU (bP (dyP F st go (dit ||| 0)) wk.toNat) (tpB F st go dit wk) i.toNat = r.toInt := by
  have e : I = Int32.ofNat i.toNat := oN_of (by omega)
  have g0 := h0 hC
  have g1 := h1 hC
  rw [hd0] at g0
  rw [es, e] at g1
  unfold tpU tpB
  rw [← g0, ← g1, er, ey, ex]
def tdP (w n : Int) (f kd at_ go : Nat → Int32) (j : Nat) : Prop := Rch (eG n.toNat (cT w n f (kd j).toInt) (cF w n f (kd j).toInt)) (at_ j).toInt.toNat (go j).toInt.toNat
noncomputable def tpG (w n wk : Int) (f kd at_ go : Nat → Int32) : Nat → Int := tpU (bP (tdP w n f kd at_ go) wk.toNat) (fun c => bP (tdP w n (chF n f (1 <<< (Int32.ofNat c &&& 31)) 1) kd at_ go) wk.toNat)
def trP (wk nk w n : Int) (f kd at_ go : Nat → Int32) (r : Int) : Prop := (n ≤ 0 ∧ r = -1) ∨ (0 < n ∧ (agH n wk at_ go → r = (tpF (lwP f at_ nk) (tpG w n wk f kd at_ go) n.toNat).1))
theorem trP_no {wk nk w n r : Int} {f kd at_ go : Nat → Int32} (h : n ≤ 0) (hr : r = -1) : trP wk nk w n f kd at_ go r := Or.inl ⟨h, hr⟩
theorem td_dy {wk w n : Int} {f kd at_ go st gl : Nat → Int32} {F : Nat → F3} {s dit : Int32} (hn : n ≤ 20) (hA : agH n wk at_ go) (hl : drL w n f kd at_ go F st gl wk) (hs : ∀ j : Nat, (j : Int) < n → bt s j = true → (f j).toInt ≠ 3) (hd : ∀ j : Nat, (j : Int) < n → (bt dit j = true ↔ (chF n f s 1 j).toInt = 1)) : bP (dyP F st gl dit) wk.toNat = bP (tdP w n (chF n f s 1) kd at_ go) wk.toNat := by
  refine bP_c _ (fun j hj => ?_)
  obtain ⟨q1, q2, q3⟩ := hl j (by omega)
  obtain ⟨a1, a2, a3, a4⟩ := hA j (by omega)
  unfold dyP tdP
  rw [q2, q3]
  exact chE hn (by omega) q1 hs (by decide) hd
theorem chF_0 {n : Int} {f : Nat → Int32} {v : Int32} : chF n f 0 v = f := by
  funext j
  exact chF_n (bt_0 j)
theorem trP_of {wk nk w n r i b m : Int} {f kd at_ go st gl : Nat → Int32} {F : Nat → F3} {dit : Int32} (hn0 : 0 < n) (hn : n ≤ 20) (hl : drL w n f kd at_ go F st gl wk) (hd : dit = boZ f 1 n.toNat) (h : tpI (goH gl wk) (lwP f at_ nk) (tpU (bP (dyP F st gl (dit ||| 0)) wk.toNat) (tpB F st gl dit wk)) i b m) (hi : i.toNat = n.toNat) (hr : r = b) : trP wk nk w n f kd at_ go r := by
  refine Or.inr ⟨hn0, fun hA => ?_⟩
  have hg : goH gl wk := fun j hj => by
    obtain ⟨-, -, e⟩ := hl j hj
    obtain ⟨-, -, q1, q2⟩ := hA j hj
    rw [e]
    exact ⟨q1, by omega⟩
  have e := h hg
  have e1 : bP (dyP F st gl (dit ||| 0)) wk.toNat = bP (tdP w n f kd at_ go) wk.toNat := by
    have g := td_dy (s := 0) (dit := dit ||| 0) hn hA hl (fun j _ z => bt_0f z) (fun j hj => by
      rw [chF_0, bt_or rfl, bt_0, Bool.or_false, hd, bt_dit hn hj])
    rw [chF_0] at g
    exact g
  have e2 : tpF (lwP f at_ nk) (tpU (bP (dyP F st gl (dit ||| 0)) wk.toNat) (tpB F st gl dit wk)) n.toNat = tpF (lwP f at_ nk) (tpG w n wk f kd at_ go) n.toNat := by
    refine tpF_c _ (fun c hc => ⟨Iff.rfl, fun ho => ?_⟩)
    have hb : ∀ j : Nat, bt (1 <<< (Int32.ofNat c &&& 31)) j = decide (c = j) := fun j => bt_one (by omega)
    have e3 : tpB F st gl dit wk c = bP (tdP w n (chF n f (1 <<< (Int32.ofNat c &&& 31)) 1) kd at_ go) wk.toNat := by
      refine td_dy hn hA hl (fun j hj z => ?_) (fun j hj => ?_)
      · rw [hb, decide_eq_true_eq] at z
        rw [← z, ho.1]
        decide
      · rw [bt_or rfl, hb, hd, Bool.or_eq_true, bt_dit hn hj, decide_eq_true_eq]
        by_cases z : c = j
        · rw [chF_y hj (by rw [hb]; exact decide_eq_true z)]
          exact ⟨fun _ => by decide, fun _ => Or.inr z⟩
        · rw [chF_n (by rw [hb]; exact decide_eq_false z)]
          exact ⟨fun y => y.resolve_right z, Or.inl⟩
    unfold tpG tpU
    rw [e1, e3]
  rw [hr, ← e2, ← hi, e]
set_option maxHeartbeats 4000000 in
set_option maxRecDepth 100000 in
theorem sX4_allBits (l : Launch) (dC : Nat → ClassId) (dI : Nat → Nat → Nat) (cy : Nat → ClassId) (h0 : Nat) (g_wide : Int32) (g_deep : Int32) (g_count : Int32) (g_sorts : Nat) (hg_wide : 0 ≤ g_wide.toInt ∧ g_wide.toInt ≤ 5) (hg_deep : 0 ≤ g_deep.toInt ∧ g_deep.toInt ≤ 4) (hg_count : 0 ≤ g_count.toInt ∧ g_count.toInt ≤ 20) : ctI l dC dI cy hp yX4_allBits cX4_allBits 1 .int ({ frames := 0, cells := 0, slots := 0, locals := 0 } : Room) [.ref h0] [(h0, .inr (4, [.int g_wide, .int g_deep, .int g_count, .ref g_sorts]))] (S := Unit) (fun r _ => (abP g_count.toInt r)) (fun _ => [(h0, .inr (4, [.int g_wide, .int g_deep, .int g_count, .ref g_sorts]))]) := by
  refine ctI.of (by decide +kernel) (Nat.le_of_ble_eq_true rfl) ?_
  intro p e s m args below meth c A ls Q hQ X hr hlocks hin hA hP hD hS hl
  have hx := X.1
  have hb := X.2.1
  have hK := X.2.2.2.2.2.1
  have hl : lv_has ls 1 [(0, .ref h0)] := hl
  refine lv_iconst (v := 1) hx hb dX4_allBits_0 (by decide) ?_
  refine lv_aload_n hx hb dX4_allBits_1 rfl (lv_at hl 0 rfl) ?_
  refine r_get X kcX4 (ci := 4) rfl hP 0 rfl 2 (by decide) fX4_22 rfl dX4_allBits_2 ?_
  refine lv_ishl hx hb dX4_allBits_5 ?_
  refine lv_topi (fun x_1 ex_1 => ?_)
  refine lv_iconst (v := 1) hx hb dX4_allBits_6 (by decide) ?_
  refine lv_isub hx hb dX4_allBits_7 ?_
  have dy_2 := ti_bd x_1
  refine lv_topi (fun x_3 ex_3 => ?_)
  exact eI hQ X hr hlocks hP hD hS () [0] (by decide) rfl rfl (show (abP g_count.toInt x_3) from (abP_of ex_1 ex_3)) (Nat.le_of_ble_eq_true rfl) (Nat.le_of_ble_eq_true rfl) dX4_allBits_8
set_option maxHeartbeats 4000000 in
set_option maxRecDepth 100000 in
theorem sX2_learn (l : Launch) (dC : Nat → ClassId) (dI : Nat → Nat → Nat) (cy : Nat → ClassId) (h0 : Nat) (f_fromLawn : Nat) (f_fromDitch : Nat) (f_ontoDitch : Nat) (f_fromLawnf : Nat → Int32) (f_fromDitchf : Nat → Int32) (f_ontoDitchf : Nat → Int32) (h1 : Nat) (g_wide : Int32) (g_deep : Int32) (g_count : Int32) (g_sorts : Nat) (g_sortsf : Nat → Int32) (p2 : Int32) (p3 : Int32) (hf_fromLawnf : rb f_fromLawnf 20 0 1048575) (hf_fromDitchf : rb f_fromDitchf 20 0 1048575) (hf_ontoDitchf : rb f_ontoDitchf 20 0 1048575) (hg_wide : 0 ≤ g_wide.toInt ∧ g_wide.toInt ≤ 5) (hg_deep : 0 ≤ g_deep.toInt ∧ g_deep.toInt ≤ 4) (hg_count : 0 ≤ g_count.toInt ∧ g_count.toInt ≤ 20) : ctV l dC dI cy hp yX2_learn cX2_learn 9 ({ frames := 1, cells := 0, slots := 0, locals := 23 } : Room) [.ref h0, .ref h1, .int p2, .int p3] [(h0, .inr (2, [.ref f_fromLawn, .ref f_fromDitch, .ref f_ontoDitch])), (f_fromLawn, .inl (cy 1, 20, .inl f_fromLawnf)), (f_fromDitch, .inl (cy 1, 20, .inl f_fromDitchf)), (f_ontoDitch, .inl (cy 1, 20, .inl f_ontoDitchf)), (h1, .inr (4, [.int g_wide, .int g_deep, .int g_count, .ref g_sorts])), (g_sorts, .inl (cy 1, 20, .inl g_sortsf))] (S := (Nat → Int32) × (Nat → Int32) × (Nat → Int32)) (fun u => (rb u.1 20 0 1048575) ∧ (rb u.2.1 20 0 1048575) ∧ (rb u.2.2 20 0 1048575) ∧ (flQ g_wide.toInt g_count.toInt g_sortsf p2.toInt p3.toInt u.1 u.2.1 u.2.2 g_count.toInt)) (fun u => [(h0, .inr (2, [.ref f_fromLawn, .ref f_fromDitch, .ref f_ontoDitch])), (f_fromLawn, .inl (cy 1, 20, .inl u.1)), (f_fromDitch, .inl (cy 1, 20, .inl u.2.1)), (f_ontoDitch, .inl (cy 1, 20, .inl u.2.2)), (h1, .inr (4, [.int g_wide, .int g_deep, .int g_count, .ref g_sorts])), (g_sorts, .inl (cy 1, 20, .inl g_sortsf))]) := by
  refine ctV.of (by decide +kernel) (Nat.le_of_ble_eq_true rfl) ?_
  intro p e s m args below meth c A ls Q hQ X hr hlocks hin hA hP hD hS hl
  have hx := X.1
  have hb := X.2.1
  have hK := X.2.2.2.2.2.1
  have hl : lv_has ls 9 [(0, .ref h0), (1, .ref h1), (2, .int p2), (3, .int p3)] := hl
  have dy_1 := ti_bd p2
  have dy_2 := ti_bd p3
  refine lv_iconst (v := 0) hx hb dX2_learn_0 (by decide) ?_
  refine lv_istore (lv' := [(4, .int 0), (0, .ref h0), (1, .ref h1), (2, .int p2), (3, .int p3)]) hx hb dX2_learn_1 hl (by decide) rfl (fun ls hl => ?_)
  have lp_3 : ∀ (nlp_3 : Nat) (i_4 : Int32) (f_6 : Nat → Int32) (f_8 : Nat → Int32) (f_10 : Nat → Int32) (H : Heap) (locs : List Loc) (ls : Array Slot), (0 ≤ i_4.toInt ∧ i_4.toInt ≤ 20) → (rb f_6 20 0 1048575) → (rb f_8 20 0 1048575) → (rb f_10 20 0 1048575) → (flQ g_wide.toInt g_count.toInt g_sortsf p2.toInt p3.toInt f_6 f_8 f_10 i_4.toInt) → (i_4.toInt ≤ g_count.toInt) → (21 - i_4.toInt ≤ (nlp_3 : Int)) → va_P (dC, dI) vwCl [(h0, .inr (2, [.ref f_fromLawn, .ref f_fromDitch, .ref f_ontoDitch])), (f_fromLawn, .inl (cy 1, 20, .inl f_6)), (f_fromDitch, .inl (cy 1, 20, .inl f_8)), (f_ontoDitch, .inl (cy 1, 20, .inl f_10)), (h1, .inr (4, [.int g_wide, .int g_deep, .int g_count, .ref g_sorts])), (g_sorts, .inl (cy 1, 20, .inl g_sortsf))] H → va_D A [(h0, .inr (2, [.ref f_fromLawn, .ref f_fromDitch, .ref f_ontoDitch])), (f_fromLawn, .inl (cy 1, 20, .inl f_6)), (f_fromDitch, .inl (cy 1, 20, .inl f_8)), (f_ontoDitch, .inl (cy 1, 20, .inl f_10)), (h1, .inr (4, [.int g_wide, .int g_deep, .int g_count, .ref g_sorts])), (g_sorts, .inl (cy 1, 20, .inl g_sortsf))] → va_S A s.heap H locs → lv_has ls 9 [(4, .int i_4), (0, .ref h0), (1, .ref h1), (2, .int p2), (3, .int p3)] → W p l e ({ frames := 1, cells := 0, slots := 0, locals := 23 } : Room) s m args below meth c H locs 0 0 Q (F0 m 3 ls []) := by
    intro nlp_3
    induction nlp_3 with
    | zero =>
      intro i_4 f_6 f_8 f_10 H locs ls b_5 b_7 b_9 b_11 b_12 b_13 hmlp_3 hP hD hS hl
      exfalso
      have di_4 := ti_bd i_4
      omega
    | succ nlp_3 ihlp_3 =>
      intro i_4 f_6 f_8 f_10 H locs ls b_5 b_7 b_9 b_11 b_12 b_13 hmlp_3 hP hD hS hl
      refine lv_iload hx hb dX2_learn_3 (lv_at hl 0 rfl) ?_
      refine lv_aload_n hx hb dX2_learn_5 rfl (lv_at hl 2 rfl) ?_
      refine r_get X kcX4 (ci := 4) rfl hP 4 rfl 2 (by decide) fX2_21 rfl dX2_learn_6 ?_
      refine lv_icmp_ge (tgt := 166) hx hb dX2_learn_9 (by decide) (fun h_14 => ?_) (fun h_14 => ?_)
      · have h_14 : g_count.toInt ≤ i_4.toInt := c_le h_14
        exact eV hQ X hr hlocks hP hD hS (f_6, f_8, f_10) [0, 1, 2, 3, 4, 5] (by decide) rfl (show (rb f_6 20 0 1048575) ∧ (rb f_8 20 0 1048575) ∧ (rb f_10 20 0 1048575) ∧ (flQ g_wide.toInt g_count.toInt g_sortsf p2.toInt p3.toInt f_6 f_8 f_10 g_count.toInt) from ⟨b_7, b_9, b_11, (flQ_le b_12 (by omega))⟩) (Nat.le_of_ble_eq_true rfl) (Nat.le_of_ble_eq_true rfl) dX2_learn_166
      · have h_14 : i_4.toInt < g_count.toInt := c_nle h_14
        refine lv_aload_n hx hb dX2_learn_12 rfl (lv_at hl 1 rfl) ?_
        refine r_get X kcX2 (ci := 2) rfl hP 0 rfl 0 (by decide) fX2_9 rfl dX2_learn_13 ?_
        refine lv_iload hx hb dX2_learn_16 (lv_at hl 0 rfl) ?_
        refine lv_iconst (v := 0) hx hb dX2_learn_18 (by decide) ?_
        refine va_iast (D := (dC, dI)) (cl := vwCl) hx hb hK hP hD hS 1 1 rfl rfl (i := i_4) (vin (by omega) (by omega)) dX2_learn_19 (fun H locs hP hD hS => ?_)
        generalize ef_15 : upd f_6 (Int32.toNatClampNeg i_4) 0 = f_15 at hP hD
        have bf_15 : rb f_15 20 0 1048575 := by rw [← ef_15]; exact rb_upd b_7 (by decide) (by decide)
        have hP : va_P (dC, dI) vwCl [(h0, .inr (2, [.ref f_fromLawn, .ref f_fromDitch, .ref f_ontoDitch])), (f_fromLawn, .inl (cy 1, 20, .inl f_15)), (f_fromDitch, .inl (cy 1, 20, .inl f_8)), (f_ontoDitch, .inl (cy 1, 20, .inl f_10)), (h1, .inr (4, [.int g_wide, .int g_deep, .int g_count, .ref g_sorts])), (g_sorts, .inl (cy 1, 20, .inl g_sortsf))] H := hP
        have hD : va_D A [(h0, .inr (2, [.ref f_fromLawn, .ref f_fromDitch, .ref f_ontoDitch])), (f_fromLawn, .inl (cy 1, 20, .inl f_15)), (f_fromDitch, .inl (cy 1, 20, .inl f_8)), (f_ontoDitch, .inl (cy 1, 20, .inl f_10)), (h1, .inr (4, [.int g_wide, .int g_deep, .int g_count, .ref g_sorts])), (g_sorts, .inl (cy 1, 20, .inl g_sortsf))] := hD
        refine lv_aload_n hx hb dX2_learn_20 rfl (lv_at hl 1 rfl) ?_
        refine r_get X kcX2 (ci := 2) rfl hP 0 rfl 1 (by decide) fX2_15 rfl dX2_learn_21 ?_
        refine lv_iload hx hb dX2_learn_24 (lv_at hl 0 rfl) ?_
        refine lv_iconst (v := 0) hx hb dX2_learn_26 (by decide) ?_
        refine va_iast (D := (dC, dI)) (cl := vwCl) hx hb hK hP hD hS 2 1 rfl rfl (i := i_4) (vin (by omega) (by omega)) dX2_learn_27 (fun H locs hP hD hS => ?_)
        generalize ef_16 : upd f_8 (Int32.toNatClampNeg i_4) 0 = f_16 at hP hD
        have bf_16 : rb f_16 20 0 1048575 := by rw [← ef_16]; exact rb_upd b_9 (by decide) (by decide)
        have hP : va_P (dC, dI) vwCl [(h0, .inr (2, [.ref f_fromLawn, .ref f_fromDitch, .ref f_ontoDitch])), (f_fromLawn, .inl (cy 1, 20, .inl f_15)), (f_fromDitch, .inl (cy 1, 20, .inl f_16)), (f_ontoDitch, .inl (cy 1, 20, .inl f_10)), (h1, .inr (4, [.int g_wide, .int g_deep, .int g_count, .ref g_sorts])), (g_sorts, .inl (cy 1, 20, .inl g_sortsf))] H := hP
        have hD : va_D A [(h0, .inr (2, [.ref f_fromLawn, .ref f_fromDitch, .ref f_ontoDitch])), (f_fromLawn, .inl (cy 1, 20, .inl f_15)), (f_fromDitch, .inl (cy 1, 20, .inl f_16)), (f_ontoDitch, .inl (cy 1, 20, .inl f_10)), (h1, .inr (4, [.int g_wide, .int g_deep, .int g_count, .ref g_sorts])), (g_sorts, .inl (cy 1, 20, .inl g_sortsf))] := hD
        refine lv_aload_n hx hb dX2_learn_28 rfl (lv_at hl 1 rfl) ?_
        refine r_get X kcX2 (ci := 2) rfl hP 0 rfl 2 (by decide) fX2_18 rfl dX2_learn_29 ?_
        refine lv_iload hx hb dX2_learn_32 (lv_at hl 0 rfl) ?_
        refine lv_iconst (v := 0) hx hb dX2_learn_34 (by decide) ?_
        refine va_iast (D := (dC, dI)) (cl := vwCl) hx hb hK hP hD hS 3 1 rfl rfl (i := i_4) (vin (by omega) (by omega)) dX2_learn_35 (fun H locs hP hD hS => ?_)
        generalize ef_17 : upd f_10 (Int32.toNatClampNeg i_4) 0 = f_17 at hP hD
        have bf_17 : rb f_17 20 0 1048575 := by rw [← ef_17]; exact rb_upd b_11 (by decide) (by decide)
        have hP : va_P (dC, dI) vwCl [(h0, .inr (2, [.ref f_fromLawn, .ref f_fromDitch, .ref f_ontoDitch])), (f_fromLawn, .inl (cy 1, 20, .inl f_15)), (f_fromDitch, .inl (cy 1, 20, .inl f_16)), (f_ontoDitch, .inl (cy 1, 20, .inl f_17)), (h1, .inr (4, [.int g_wide, .int g_deep, .int g_count, .ref g_sorts])), (g_sorts, .inl (cy 1, 20, .inl g_sortsf))] H := hP
        have hD : va_D A [(h0, .inr (2, [.ref f_fromLawn, .ref f_fromDitch, .ref f_ontoDitch])), (f_fromLawn, .inl (cy 1, 20, .inl f_15)), (f_fromDitch, .inl (cy 1, 20, .inl f_16)), (f_ontoDitch, .inl (cy 1, 20, .inl f_17)), (h1, .inr (4, [.int g_wide, .int g_deep, .int g_count, .ref g_sorts])), (g_sorts, .inl (cy 1, 20, .inl g_sortsf))] := hD
        refine lv_iconst (v := 0) hx hb dX2_learn_36 (by decide) ?_
        refine lv_istore (lv' := [(5, .int 0), (4, .int i_4), (0, .ref h0), (1, .ref h1), (2, .int p2), (3, .int p3)]) hx hb dX2_learn_37 hl (by decide) rfl (fun ls hl => ?_)
        have lp_18 : ∀ (nlp_18 : Nat) (i_19 : Int32) (f_21 : Nat → Int32) (f_23 : Nat → Int32) (f_25 : Nat → Int32) (H : Heap) (locs : List Loc) (ls : Array Slot), (0 ≤ i_19.toInt ∧ i_19.toInt ≤ 4) → (rb f_21 20 0 1048575) → (rb f_23 20 0 1048575) → (rb f_25 20 0 1048575) → (flJ g_wide.toInt g_count.toInt g_sortsf p2.toInt p3.toInt f_21 f_23 f_25 i_4.toInt i_19.toInt) → (5 - i_19.toInt ≤ (nlp_18 : Int)) → va_P (dC, dI) vwCl [(h0, .inr (2, [.ref f_fromLawn, .ref f_fromDitch, .ref f_ontoDitch])), (f_fromLawn, .inl (cy 1, 20, .inl f_21)), (f_fromDitch, .inl (cy 1, 20, .inl f_23)), (f_ontoDitch, .inl (cy 1, 20, .inl f_25)), (h1, .inr (4, [.int g_wide, .int g_deep, .int g_count, .ref g_sorts])), (g_sorts, .inl (cy 1, 20, .inl g_sortsf))] H → va_D A [(h0, .inr (2, [.ref f_fromLawn, .ref f_fromDitch, .ref f_ontoDitch])), (f_fromLawn, .inl (cy 1, 20, .inl f_21)), (f_fromDitch, .inl (cy 1, 20, .inl f_23)), (f_ontoDitch, .inl (cy 1, 20, .inl f_25)), (h1, .inr (4, [.int g_wide, .int g_deep, .int g_count, .ref g_sorts])), (g_sorts, .inl (cy 1, 20, .inl g_sortsf))] → va_S A s.heap H locs → lv_has ls 9 [(5, .int i_19), (4, .int i_4), (0, .ref h0), (1, .ref h1), (2, .int p2), (3, .int p3)] → W p l e ({ frames := 1, cells := 0, slots := 0, locals := 23 } : Room) s m args below meth c H locs 0 0 Q (F0 m 39 ls []) := by
          intro nlp_18
          induction nlp_18 with
          | zero =>
            intro i_19 f_21 f_23 f_25 H locs ls b_20 b_22 b_24 b_26 b_27 hmlp_18 hP hD hS hl
            exfalso
            have di_19 := ti_bd i_19
            omega
          | succ nlp_18 ihlp_18 =>
            intro i_19 f_21 f_23 f_25 H locs ls b_20 b_22 b_24 b_26 b_27 hmlp_18 hP hD hS hl
            refine lv_iload hx hb dX2_learn_39 (lv_at hl 0 rfl) ?_
            refine lv_iconst (v := 4) hx hb dX2_learn_41 (by decide) ?_
            refine lv_icmp_ge (tgt := 160) hx hb dX2_learn_42 (by decide) (fun h_28 => ?_) (fun h_28 => ?_)
            · have h_28 : 4 ≤ i_19.toInt := c_le h_28
              obtain ⟨x_29, ex_29⟩ : ∃ y : Int32, y = i_4 + 1 := ⟨_, rfl⟩
              have tx_29 : x_29.toInt = i_4.toInt + 1 := ti_add (A := i_4.toInt) (B := 1) ex_29 rfl rfl (by omega) (by omega)
              refine lv_iinc (v := x_29) (lv' := [(4, .int x_29), (5, .int i_19), (0, .ref h0), (1, .ref h1), (2, .int p2), (3, .int p3)]) hx hb dX2_learn_160 hl (k := 1) rfl (by rw [ex_29]; rfl) (by decide) rfl (fun ls hl => ?_)
              refine lv_goto (tgt := 3) hx hb dX2_learn_163 (by decide) ?_
              exact ihlp_3 x_29 f_21 f_23 f_25 _ _ _ (by omega) b_22 b_24 b_26 (show flQ g_wide.toInt g_count.toInt g_sortsf p2.toInt p3.toInt f_21 f_23 f_25 x_29.toInt from (flQ_up b_27 (by omega) (by omega) (by omega))) (show x_29.toInt ≤ g_count.toInt by omega) (show 21 - x_29.toInt ≤ (nlp_3 : Int) by omega) hP hD hS (lv_sub hl [0, 2, 3, 4, 5] rfl)
            · have h_28 : i_19.toInt < 4 := c_nle h_28
              refine lv_aload_n hx hb dX2_learn_45 rfl (lv_at hl 3 rfl) ?_
              refine lv_iload hx hb dX2_learn_46 (lv_at hl 1 rfl) ?_
              refine lv_iload hx hb dX2_learn_48 (lv_at hl 0 rfl) ?_
              refine fI (wr := [(h0, .inr (2, [.ref f_fromLawn, .ref f_fromDitch, .ref f_ontoDitch])), (f_fromLawn, .inl (cy 1, 20, .inl f_21)), (f_fromDitch, .inl (cy 1, 20, .inl f_23)), (f_ontoDitch, .inl (cy 1, 20, .inl f_25))]) (rV_I (wc := [(h1, .inr (4, [.int g_wide, .int g_deep, .int g_count, .ref g_sorts])), (g_sorts, .inl (cy 1, 20, .inl g_sortsf))]) (As := [.int i_4, .int i_19]) (rest := []) X hp_st (fun _ _ _ h => h) (sX4_target l dC dI cy h1 g_wide g_deep g_count g_sorts g_sortsf i_4 i_19 hg_wide hg_deep hg_count) kX4_target vX4_target mX2_27 hP hD hS hA [4, 5] (by decide) rfl 0 (ci := 4) rfl rfl rfl hl rfl rfl (Nat.le_of_ble_eq_true rfl) dX2_learn_50 ⟨(Nat.le_of_ble_eq_true rfl), (Nat.le_of_ble_eq_true rfl)⟩ ⟨(Nat.le_of_ble_eq_true rfl), (Nat.le_of_ble_eq_true rfl)⟩) hP hD hS hA [4, 5] [0, 1, 2, 3] rfl rfl (by decide) (by decide) (fun r_30 u_32 H locs k_31 hP hD hS => ?_)
              have k_31 : ((-1) ≤ r_30.toInt ∧ r_30.toInt ≤ 19) ∧ (r_30.toInt = (tgZ g_wide.toInt g_count.toInt g_sortsf i_4.toInt i_19.toInt)) ∧ (r_30.toInt = -1 ∨ (0 ≤ r_30.toInt ∧ r_30.toInt < g_count.toInt ∧ 0 ≤ i_4.toInt ∧ i_4.toInt < g_count.toInt)) := k_31
              obtain ⟨k_31_0, k_31_1, k_31_2⟩ := k_31
              have hP : va_P (dC, dI) vwCl [(h0, .inr (2, [.ref f_fromLawn, .ref f_fromDitch, .ref f_ontoDitch])), (f_fromLawn, .inl (cy 1, 20, .inl f_21)), (f_fromDitch, .inl (cy 1, 20, .inl f_23)), (f_ontoDitch, .inl (cy 1, 20, .inl f_25)), (h1, .inr (4, [.int g_wide, .int g_deep, .int g_count, .ref g_sorts])), (g_sorts, .inl (cy 1, 20, .inl g_sortsf))] H := hP
              have hD : va_D A [(h0, .inr (2, [.ref f_fromLawn, .ref f_fromDitch, .ref f_ontoDitch])), (f_fromLawn, .inl (cy 1, 20, .inl f_21)), (f_fromDitch, .inl (cy 1, 20, .inl f_23)), (f_ontoDitch, .inl (cy 1, 20, .inl f_25)), (h1, .inr (4, [.int g_wide, .int g_deep, .int g_count, .ref g_sorts])), (g_sorts, .inl (cy 1, 20, .inl g_sortsf))] := hD
              refine lv_istore (lv' := [(6, .int r_30), (5, .int i_19), (4, .int i_4), (0, .ref h0), (1, .ref h1), (2, .int p2), (3, .int p3)]) hx hb dX2_learn_53 hl (by decide) rfl (fun ls hl => ?_)
              refine lv_iload hx hb dX2_learn_55 (lv_at hl 0 rfl) ?_
              refine lv_iconst (v := -1) hx hb dX2_learn_57 (by decide) ?_
              refine lv_icmp_ne (tgt := 65) hx hb dX2_learn_58 (by decide) (fun h_33 => ?_) (fun h_33 => ?_)
              · have h_33 : r_30.toInt ≠ (-1) := c_ne h_33
                refine lv_iconst (v := 1) hx hb dX2_learn_65 (by decide) ?_
                refine lv_iload hx hb dX2_learn_66 (lv_at hl 0 rfl) ?_
                refine lv_ishl hx hb dX2_learn_68 ?_
                refine lv_topi (fun x_34 ex_34 => ?_)
                have tx_34 : 0 ≤ x_34.toInt ∧ x_34.toInt ≤ 1048575 := ti_shl1 ex_34 (by omega) (by omega)
                refine lv_istore (lv' := [(7, .int x_34), (6, .int r_30), (5, .int i_19), (4, .int i_4), (0, .ref h0), (1, .ref h1), (2, .int p2), (3, .int p3)]) hx hb dX2_learn_69 hl (by decide) rfl (fun ls hl => ?_)
                refine lv_aload_n hx hb dX2_learn_71 rfl (lv_at hl 4 rfl) ?_
                refine r_get X kcX2 (ci := 2) rfl hP 0 rfl 0 (by decide) fX2_9 rfl dX2_learn_72 ?_
                refine lv_iload hx hb dX2_learn_75 (lv_at hl 3 rfl) ?_
                refine lv_dup2_11 hx hb dX2_learn_77 rfl rfl ?_
                refine va_iald (D := (dC, dI)) (cl := vwCl) hx hb hK hP 1 1 rfl rfl (i := i_4) (vin (by omega) (by omega)) dX2_learn_78 ?_
                refine lv_topi (fun x_35 ex_35 => ?_)
                have bx_35 : 0 ≤ x_35.toInt ∧ x_35.toInt ≤ 1048575 := rb_at b_22 ex_35 (by omega) (by omega)
                refine lv_iload hx hb dX2_learn_79 (lv_at hl 0 rfl) ?_
                refine lv_ior hx hb dX2_learn_81 ?_
                refine lv_topi (fun x_36 ex_36 => ?_)
                have tx_36 : 0 ≤ x_36.toInt ∧ x_36.toInt ≤ 1048575 := ti_or20 ex_36 (by omega) (by omega) (by omega) (by omega)
                refine va_iast (D := (dC, dI)) (cl := vwCl) hx hb hK hP hD hS 1 1 rfl rfl (i := i_4) (vin (by omega) (by omega)) dX2_learn_82 (fun H locs hP hD hS => ?_)
                generalize ef_37 : upd f_21 (Int32.toNatClampNeg i_4) x_36 = f_37 at hP hD
                have bf_37 : rb f_37 20 0 1048575 := by rw [← ef_37]; exact rb_upd b_22 (by omega) (by omega)
                have hP : va_P (dC, dI) vwCl [(h0, .inr (2, [.ref f_fromLawn, .ref f_fromDitch, .ref f_ontoDitch])), (f_fromLawn, .inl (cy 1, 20, .inl f_37)), (f_fromDitch, .inl (cy 1, 20, .inl f_23)), (f_ontoDitch, .inl (cy 1, 20, .inl f_25)), (h1, .inr (4, [.int g_wide, .int g_deep, .int g_count, .ref g_sorts])), (g_sorts, .inl (cy 1, 20, .inl g_sortsf))] H := hP
                have hD : va_D A [(h0, .inr (2, [.ref f_fromLawn, .ref f_fromDitch, .ref f_ontoDitch])), (f_fromLawn, .inl (cy 1, 20, .inl f_37)), (f_fromDitch, .inl (cy 1, 20, .inl f_23)), (f_ontoDitch, .inl (cy 1, 20, .inl f_25)), (h1, .inr (4, [.int g_wide, .int g_deep, .int g_count, .ref g_sorts])), (g_sorts, .inl (cy 1, 20, .inl g_sortsf))] := hD
                refine lv_iload_n hx hb dX2_learn_83 rfl (lv_at hl 6 rfl) ?_
                refine lv_iload hx hb dX2_learn_84 (lv_at hl 2 rfl) ?_
                refine fI (wr := [(h0, .inr (2, [.ref f_fromLawn, .ref f_fromDitch, .ref f_ontoDitch])), (f_fromLawn, .inl (cy 1, 20, .inl f_37)), (f_fromDitch, .inl (cy 1, 20, .inl f_23)), (f_ontoDitch, .inl (cy 1, 20, .inl f_25)), (h1, .inr (4, [.int g_wide, .int g_deep, .int g_count, .ref g_sorts])), (g_sorts, .inl (cy 1, 20, .inl g_sortsf))]) (rS_I (wc := []) (As := [.int p2, .int i_19]) (rest := []) X hp_st (fun _ _ _ h => h) (sX4_timeOutOfDitch l dC dI cy p2 i_19) kX4_timeOutOfDitch w_835 mX2_31 hP hD hS hA [] (by decide) rfl hl rfl rfl (Nat.le_of_ble_eq_true rfl) dX2_learn_86 ⟨(Nat.le_of_ble_eq_true rfl), (Nat.le_of_ble_eq_true rfl)⟩ ⟨(Nat.le_of_ble_eq_true rfl), (Nat.le_of_ble_eq_true rfl)⟩) hP hD hS hA [] [0, 1, 2, 3, 4, 5] rfl rfl (by decide) (by decide) (fun r_38 u_40 H locs k_39 hP hD hS => ?_)
                have k_39 : ((-2) ≤ r_38.toInt ∧ r_38.toInt ≤ 4) ∧ (r_38.toInt = oU p2.toInt i_19.toInt) := k_39
                obtain ⟨k_39_0, k_39_1⟩ := k_39
                have hP : va_P (dC, dI) vwCl [(h0, .inr (2, [.ref f_fromLawn, .ref f_fromDitch, .ref f_ontoDitch])), (f_fromLawn, .inl (cy 1, 20, .inl f_37)), (f_fromDitch, .inl (cy 1, 20, .inl f_23)), (f_ontoDitch, .inl (cy 1, 20, .inl f_25)), (h1, .inr (4, [.int g_wide, .int g_deep, .int g_count, .ref g_sorts])), (g_sorts, .inl (cy 1, 20, .inl g_sortsf))] H := hP
                have hD : va_D A [(h0, .inr (2, [.ref f_fromLawn, .ref f_fromDitch, .ref f_ontoDitch])), (f_fromLawn, .inl (cy 1, 20, .inl f_37)), (f_fromDitch, .inl (cy 1, 20, .inl f_23)), (f_ontoDitch, .inl (cy 1, 20, .inl f_25)), (h1, .inr (4, [.int g_wide, .int g_deep, .int g_count, .ref g_sorts])), (g_sorts, .inl (cy 1, 20, .inl g_sortsf))] := hD
                refine lv_bipush (v := -2) hx hb dX2_learn_89 (by decide) ?_
                refine lv_icmp_eq (tgt := 106) hx hb dX2_learn_91 (by decide) (fun h_41 => ?_) (fun h_41 => ?_)
                · have h_41 : r_38.toInt = (-2) := c_eq h_41
                  refine lv_iload_n hx hb dX2_learn_106 rfl (lv_at hl 7 rfl) ?_
                  refine lv_if_ne (tgt := 119) hx hb dX2_learn_107 (by decide) (fun h_42 => ?_) (fun h_42 => ?_)
                  · have h_42 : p3.toInt ≠ 0 := c_ne h_42
                    refine lv_iconst (v := 1) hx hb dX2_learn_119 (by decide) ?_
                    refine lv_goto (tgt := 124) hx hb dX2_learn_120 (by decide) ?_
                    refine lv_istore (lv' := [(8, .int 1), (7, .int x_34), (6, .int r_30), (5, .int i_19), (4, .int i_4), (0, .ref h0), (1, .ref h1), (2, .int p2), (3, .int p3)]) hx hb dX2_learn_124 hl (by decide) rfl (fun ls hl => ?_)
                    refine lv_iload hx hb dX2_learn_126 (lv_at hl 0 rfl) ?_
                    refine lv_if_eq (tgt := 154) hx hb dX2_learn_128 (by decide) (fun h_43 => absurd h_43 (by decide)) (fun _ => ?_)
                    refine lv_iload_n hx hb dX2_learn_131 rfl (lv_at hl 7 rfl) ?_
                    refine lv_iload hx hb dX2_learn_132 (lv_at hl 3 rfl) ?_
                    refine fI (wr := [(h0, .inr (2, [.ref f_fromLawn, .ref f_fromDitch, .ref f_ontoDitch])), (f_fromLawn, .inl (cy 1, 20, .inl f_37)), (f_fromDitch, .inl (cy 1, 20, .inl f_23)), (f_ontoDitch, .inl (cy 1, 20, .inl f_25)), (h1, .inr (4, [.int g_wide, .int g_deep, .int g_count, .ref g_sorts])), (g_sorts, .inl (cy 1, 20, .inl g_sortsf))]) (rS_I (wc := []) (As := [.int p2, .int i_19]) (rest := []) X hp_st (fun _ _ _ h => h) (sX4_timeOntoDitch l dC dI cy p2 i_19) kX4_timeOntoDitch w_832 mX2_38 hP hD hS hA [] (by decide) rfl hl rfl rfl (Nat.le_of_ble_eq_true rfl) dX2_learn_134 ⟨(Nat.le_of_ble_eq_true rfl), (Nat.le_of_ble_eq_true rfl)⟩ ⟨(Nat.le_of_ble_eq_true rfl), (Nat.le_of_ble_eq_true rfl)⟩) hP hD hS hA [] [0, 1, 2, 3, 4, 5] rfl rfl (by decide) (by decide) (fun r_44 u_46 H locs k_45 hP hD hS => ?_)
                    have k_45 : ((-2) ≤ r_44.toInt ∧ r_44.toInt ≤ 4) ∧ (r_44.toInt = oD p2.toInt i_19.toInt) := k_45
                    obtain ⟨k_45_0, k_45_1⟩ := k_45
                    have hP : va_P (dC, dI) vwCl [(h0, .inr (2, [.ref f_fromLawn, .ref f_fromDitch, .ref f_ontoDitch])), (f_fromLawn, .inl (cy 1, 20, .inl f_37)), (f_fromDitch, .inl (cy 1, 20, .inl f_23)), (f_ontoDitch, .inl (cy 1, 20, .inl f_25)), (h1, .inr (4, [.int g_wide, .int g_deep, .int g_count, .ref g_sorts])), (g_sorts, .inl (cy 1, 20, .inl g_sortsf))] H := hP
                    have hD : va_D A [(h0, .inr (2, [.ref f_fromLawn, .ref f_fromDitch, .ref f_ontoDitch])), (f_fromLawn, .inl (cy 1, 20, .inl f_37)), (f_fromDitch, .inl (cy 1, 20, .inl f_23)), (f_ontoDitch, .inl (cy 1, 20, .inl f_25)), (h1, .inr (4, [.int g_wide, .int g_deep, .int g_count, .ref g_sorts])), (g_sorts, .inl (cy 1, 20, .inl g_sortsf))] := hD
                    refine lv_bipush (v := -2) hx hb dX2_learn_137 (by decide) ?_
                    refine lv_icmp_eq (tgt := 154) hx hb dX2_learn_139 (by decide) (fun h_47 => ?_) (fun h_47 => ?_)
                    · have h_47 : r_44.toInt = (-2) := c_eq h_47
                      obtain ⟨x_48, ex_48⟩ : ∃ y : Int32, y = i_19 + 1 := ⟨_, rfl⟩
                      have tx_48 : x_48.toInt = i_19.toInt + 1 := ti_add (A := i_19.toInt) (B := 1) ex_48 rfl rfl (by omega) (by omega)
                      refine lv_iinc (v := x_48) (lv' := [(5, .int x_48), (8, .int 1), (7, .int x_34), (6, .int r_30), (4, .int i_4), (0, .ref h0), (1, .ref h1), (2, .int p2), (3, .int p3)]) hx hb dX2_learn_154 hl (k := 3) rfl (by rw [ex_48]; rfl) (by decide) rfl (fun ls hl => ?_)
                      refine lv_goto (tgt := 39) hx hb dX2_learn_157 (by decide) ?_
                      exact ihlp_18 x_48 f_37 f_23 f_25 _ _ _ (by omega) bf_37 b_24 b_26 (show flJ g_wide.toInt g_count.toInt g_sortsf p2.toInt p3.toInt f_37 f_23 f_25 i_4.toInt x_48.toInt from (flJ_up (I := i_4) (T := r_30) (b := x_34) b_27 (by omega) rfl (by omega) k_31_1 (Or.inr ⟨by omega, by omega, ex_34⟩) ex_35 ex_36 ef_37 (Or.inr ⟨by omega, rfl⟩) (Or.inr ⟨by omega, rfl⟩) (by omega))) (show 5 - x_48.toInt ≤ (nlp_18 : Int) by omega) hP hD hS (lv_sub hl [0, 4, 5, 6, 7, 8] rfl)
                    · have h_47 : r_44.toInt ≠ (-2) := c_ne h_47
                      refine lv_aload_n hx hb dX2_learn_142 rfl (lv_at hl 5 rfl) ?_
                      refine r_get X kcX2 (ci := 2) rfl hP 0 rfl 2 (by decide) fX2_18 rfl dX2_learn_143 ?_
                      refine lv_iload hx hb dX2_learn_146 (lv_at hl 4 rfl) ?_
                      refine lv_dup2_11 hx hb dX2_learn_148 rfl rfl ?_
                      refine va_iald (D := (dC, dI)) (cl := vwCl) hx hb hK hP 3 1 rfl rfl (i := i_4) (vin (by omega) (by omega)) dX2_learn_149 ?_
                      refine lv_topi (fun x_49 ex_49 => ?_)
                      have bx_49 : 0 ≤ x_49.toInt ∧ x_49.toInt ≤ 1048575 := rb_at b_26 ex_49 (by omega) (by omega)
                      refine lv_iload hx hb dX2_learn_150 (lv_at hl 1 rfl) ?_
                      refine lv_ior hx hb dX2_learn_152 ?_
                      refine lv_topi (fun x_50 ex_50 => ?_)
                      have tx_50 : 0 ≤ x_50.toInt ∧ x_50.toInt ≤ 1048575 := ti_or20 ex_50 (by omega) (by omega) (by omega) (by omega)
                      refine va_iast (D := (dC, dI)) (cl := vwCl) hx hb hK hP hD hS 3 1 rfl rfl (i := i_4) (vin (by omega) (by omega)) dX2_learn_153 (fun H locs hP hD hS => ?_)
                      generalize ef_51 : upd f_25 (Int32.toNatClampNeg i_4) x_50 = f_51 at hP hD
                      have bf_51 : rb f_51 20 0 1048575 := by rw [← ef_51]; exact rb_upd b_26 (by omega) (by omega)
                      have hP : va_P (dC, dI) vwCl [(h0, .inr (2, [.ref f_fromLawn, .ref f_fromDitch, .ref f_ontoDitch])), (f_fromLawn, .inl (cy 1, 20, .inl f_37)), (f_fromDitch, .inl (cy 1, 20, .inl f_23)), (f_ontoDitch, .inl (cy 1, 20, .inl f_51)), (h1, .inr (4, [.int g_wide, .int g_deep, .int g_count, .ref g_sorts])), (g_sorts, .inl (cy 1, 20, .inl g_sortsf))] H := hP
                      have hD : va_D A [(h0, .inr (2, [.ref f_fromLawn, .ref f_fromDitch, .ref f_ontoDitch])), (f_fromLawn, .inl (cy 1, 20, .inl f_37)), (f_fromDitch, .inl (cy 1, 20, .inl f_23)), (f_ontoDitch, .inl (cy 1, 20, .inl f_51)), (h1, .inr (4, [.int g_wide, .int g_deep, .int g_count, .ref g_sorts])), (g_sorts, .inl (cy 1, 20, .inl g_sortsf))] := hD
                      obtain ⟨x_52, ex_52⟩ : ∃ y : Int32, y = i_19 + 1 := ⟨_, rfl⟩
                      have tx_52 : x_52.toInt = i_19.toInt + 1 := ti_add (A := i_19.toInt) (B := 1) ex_52 rfl rfl (by omega) (by omega)
                      refine lv_iinc (v := x_52) (lv' := [(5, .int x_52), (8, .int 1), (7, .int x_34), (6, .int r_30), (4, .int i_4), (0, .ref h0), (1, .ref h1), (2, .int p2), (3, .int p3)]) hx hb dX2_learn_154 hl (k := 3) rfl (by rw [ex_52]; rfl) (by decide) rfl (fun ls hl => ?_)
                      refine lv_goto (tgt := 39) hx hb dX2_learn_157 (by decide) ?_
                      exact ihlp_18 x_52 f_37 f_23 f_51 _ _ _ (by omega) bf_37 b_24 bf_51 (show flJ g_wide.toInt g_count.toInt g_sortsf p2.toInt p3.toInt f_37 f_23 f_51 i_4.toInt x_52.toInt from (flJ_up (I := i_4) (T := r_30) (b := x_34) b_27 (by omega) rfl (by omega) k_31_1 (Or.inr ⟨by omega, by omega, ex_34⟩) ex_35 ex_36 ef_37 (Or.inr ⟨by omega, rfl⟩) (Or.inl ⟨by omega, _, _, ex_49, ex_50, ef_51⟩) (by omega))) (show 5 - x_52.toInt ≤ (nlp_18 : Int) by omega) hP hD hS (lv_sub hl [0, 4, 5, 6, 7, 8] rfl)
                  · have h_42 : p3.toInt = 0 := c_eq h_42
                    refine lv_iload_n hx hb dX2_learn_110 rfl (lv_at hl 6 rfl) ?_
                    refine lv_iload hx hb dX2_learn_111 (lv_at hl 2 rfl) ?_
                    refine fI (wr := [(h0, .inr (2, [.ref f_fromLawn, .ref f_fromDitch, .ref f_ontoDitch])), (f_fromLawn, .inl (cy 1, 20, .inl f_37)), (f_fromDitch, .inl (cy 1, 20, .inl f_23)), (f_ontoDitch, .inl (cy 1, 20, .inl f_25)), (h1, .inr (4, [.int g_wide, .int g_deep, .int g_count, .ref g_sorts])), (g_sorts, .inl (cy 1, 20, .inl g_sortsf))]) (rS_I (wc := []) (As := [.int p2, .int i_19]) (rest := []) X hp_st (fun _ _ _ h => h) (sX4_isFallOntoDitch l dC dI cy p2 i_19) kX4_isFallOntoDitch w_846 mX2_34 hP hD hS hA [] (by decide) rfl hl rfl rfl (Nat.le_of_ble_eq_true rfl) dX2_learn_113 ⟨(Nat.le_of_ble_eq_true rfl), (Nat.le_of_ble_eq_true rfl)⟩ ⟨(Nat.le_of_ble_eq_true rfl), (Nat.le_of_ble_eq_true rfl)⟩) hP hD hS hA [] [0, 1, 2, 3, 4, 5] rfl rfl (by decide) (by decide) (fun r_53 u_55 H locs k_54 hP hD hS => ?_)
                    have k_54 : (0 ≤ r_53.toInt ∧ r_53.toInt ≤ 1) ∧ ((r_53.toInt = 1 ∧ p2.toInt = 0 ∧ i_19.toInt = 2) ∨ (r_53.toInt = 0 ∧ (p2.toInt ≠ 0 ∨ i_19.toInt ≠ 2))) := k_54
                    obtain ⟨k_54_0, k_54_1⟩ := k_54
                    have hP : va_P (dC, dI) vwCl [(h0, .inr (2, [.ref f_fromLawn, .ref f_fromDitch, .ref f_ontoDitch])), (f_fromLawn, .inl (cy 1, 20, .inl f_37)), (f_fromDitch, .inl (cy 1, 20, .inl f_23)), (f_ontoDitch, .inl (cy 1, 20, .inl f_25)), (h1, .inr (4, [.int g_wide, .int g_deep, .int g_count, .ref g_sorts])), (g_sorts, .inl (cy 1, 20, .inl g_sortsf))] H := hP
                    have hD : va_D A [(h0, .inr (2, [.ref f_fromLawn, .ref f_fromDitch, .ref f_ontoDitch])), (f_fromLawn, .inl (cy 1, 20, .inl f_37)), (f_fromDitch, .inl (cy 1, 20, .inl f_23)), (f_ontoDitch, .inl (cy 1, 20, .inl f_25)), (h1, .inr (4, [.int g_wide, .int g_deep, .int g_count, .ref g_sorts])), (g_sorts, .inl (cy 1, 20, .inl g_sortsf))] := hD
                    refine lv_if_ne (tgt := 123) hx hb dX2_learn_116 (by decide) (fun h_56 => ?_) (fun h_56 => ?_)
                    · have h_56 : r_53.toInt ≠ 0 := c_ne h_56
                      refine lv_iconst (v := 0) hx hb dX2_learn_123 (by decide) ?_
                      refine lv_istore (lv' := [(8, .int 0), (7, .int x_34), (6, .int r_30), (5, .int i_19), (4, .int i_4), (0, .ref h0), (1, .ref h1), (2, .int p2), (3, .int p3)]) hx hb dX2_learn_124 hl (by decide) rfl (fun ls hl => ?_)
                      refine lv_iload hx hb dX2_learn_126 (lv_at hl 0 rfl) ?_
                      refine lv_if_eq (tgt := 154) hx hb dX2_learn_128 (by decide) (fun _ => ?_) (fun h_57 => absurd (by decide) h_57)
                      obtain ⟨x_58, ex_58⟩ : ∃ y : Int32, y = i_19 + 1 := ⟨_, rfl⟩
                      have tx_58 : x_58.toInt = i_19.toInt + 1 := ti_add (A := i_19.toInt) (B := 1) ex_58 rfl rfl (by omega) (by omega)
                      refine lv_iinc (v := x_58) (lv' := [(5, .int x_58), (8, .int 0), (7, .int x_34), (6, .int r_30), (4, .int i_4), (0, .ref h0), (1, .ref h1), (2, .int p2), (3, .int p3)]) hx hb dX2_learn_154 hl (k := 3) rfl (by rw [ex_58]; rfl) (by decide) rfl (fun ls hl => ?_)
                      refine lv_goto (tgt := 39) hx hb dX2_learn_157 (by decide) ?_
                      exact ihlp_18 x_58 f_37 f_23 f_25 _ _ _ (by omega) bf_37 b_24 b_26 (show flJ g_wide.toInt g_count.toInt g_sortsf p2.toInt p3.toInt f_37 f_23 f_25 i_4.toInt x_58.toInt from (flJ_up (I := i_4) (T := r_30) (b := x_34) b_27 (by omega) rfl (by omega) k_31_1 (Or.inr ⟨by omega, by omega, ex_34⟩) ex_35 ex_36 ef_37 (Or.inr ⟨by omega, rfl⟩) (Or.inr ⟨by omega, rfl⟩) (by omega))) (show 5 - x_58.toInt ≤ (nlp_18 : Int) by omega) hP hD hS (lv_sub hl [0, 4, 5, 6, 7, 8] rfl)
                    · have h_56 : r_53.toInt = 0 := c_eq h_56
                      refine lv_iconst (v := 1) hx hb dX2_learn_119 (by decide) ?_
                      refine lv_goto (tgt := 124) hx hb dX2_learn_120 (by decide) ?_
                      refine lv_istore (lv' := [(8, .int 1), (7, .int x_34), (6, .int r_30), (5, .int i_19), (4, .int i_4), (0, .ref h0), (1, .ref h1), (2, .int p2), (3, .int p3)]) hx hb dX2_learn_124 hl (by decide) rfl (fun ls hl => ?_)
                      refine lv_iload hx hb dX2_learn_126 (lv_at hl 0 rfl) ?_
                      refine lv_if_eq (tgt := 154) hx hb dX2_learn_128 (by decide) (fun h_59 => absurd h_59 (by decide)) (fun _ => ?_)
                      refine lv_iload_n hx hb dX2_learn_131 rfl (lv_at hl 7 rfl) ?_
                      refine lv_iload hx hb dX2_learn_132 (lv_at hl 3 rfl) ?_
                      refine fI (wr := [(h0, .inr (2, [.ref f_fromLawn, .ref f_fromDitch, .ref f_ontoDitch])), (f_fromLawn, .inl (cy 1, 20, .inl f_37)), (f_fromDitch, .inl (cy 1, 20, .inl f_23)), (f_ontoDitch, .inl (cy 1, 20, .inl f_25)), (h1, .inr (4, [.int g_wide, .int g_deep, .int g_count, .ref g_sorts])), (g_sorts, .inl (cy 1, 20, .inl g_sortsf))]) (rS_I (wc := []) (As := [.int p2, .int i_19]) (rest := []) X hp_st (fun _ _ _ h => h) (sX4_timeOntoDitch l dC dI cy p2 i_19) kX4_timeOntoDitch w_832 mX2_38 hP hD hS hA [] (by decide) rfl hl rfl rfl (Nat.le_of_ble_eq_true rfl) dX2_learn_134 ⟨(Nat.le_of_ble_eq_true rfl), (Nat.le_of_ble_eq_true rfl)⟩ ⟨(Nat.le_of_ble_eq_true rfl), (Nat.le_of_ble_eq_true rfl)⟩) hP hD hS hA [] [0, 1, 2, 3, 4, 5] rfl rfl (by decide) (by decide) (fun r_60 u_62 H locs k_61 hP hD hS => ?_)
                      have k_61 : ((-2) ≤ r_60.toInt ∧ r_60.toInt ≤ 4) ∧ (r_60.toInt = oD p2.toInt i_19.toInt) := k_61
                      obtain ⟨k_61_0, k_61_1⟩ := k_61
                      have hP : va_P (dC, dI) vwCl [(h0, .inr (2, [.ref f_fromLawn, .ref f_fromDitch, .ref f_ontoDitch])), (f_fromLawn, .inl (cy 1, 20, .inl f_37)), (f_fromDitch, .inl (cy 1, 20, .inl f_23)), (f_ontoDitch, .inl (cy 1, 20, .inl f_25)), (h1, .inr (4, [.int g_wide, .int g_deep, .int g_count, .ref g_sorts])), (g_sorts, .inl (cy 1, 20, .inl g_sortsf))] H := hP
                      have hD : va_D A [(h0, .inr (2, [.ref f_fromLawn, .ref f_fromDitch, .ref f_ontoDitch])), (f_fromLawn, .inl (cy 1, 20, .inl f_37)), (f_fromDitch, .inl (cy 1, 20, .inl f_23)), (f_ontoDitch, .inl (cy 1, 20, .inl f_25)), (h1, .inr (4, [.int g_wide, .int g_deep, .int g_count, .ref g_sorts])), (g_sorts, .inl (cy 1, 20, .inl g_sortsf))] := hD
                      refine lv_bipush (v := -2) hx hb dX2_learn_137 (by decide) ?_
                      refine lv_icmp_eq (tgt := 154) hx hb dX2_learn_139 (by decide) (fun h_63 => ?_) (fun h_63 => ?_)
                      · have h_63 : r_60.toInt = (-2) := c_eq h_63
                        obtain ⟨x_64, ex_64⟩ : ∃ y : Int32, y = i_19 + 1 := ⟨_, rfl⟩
                        have tx_64 : x_64.toInt = i_19.toInt + 1 := ti_add (A := i_19.toInt) (B := 1) ex_64 rfl rfl (by omega) (by omega)
                        refine lv_iinc (v := x_64) (lv' := [(5, .int x_64), (8, .int 1), (7, .int x_34), (6, .int r_30), (4, .int i_4), (0, .ref h0), (1, .ref h1), (2, .int p2), (3, .int p3)]) hx hb dX2_learn_154 hl (k := 3) rfl (by rw [ex_64]; rfl) (by decide) rfl (fun ls hl => ?_)
                        refine lv_goto (tgt := 39) hx hb dX2_learn_157 (by decide) ?_
                        exact ihlp_18 x_64 f_37 f_23 f_25 _ _ _ (by omega) bf_37 b_24 b_26 (show flJ g_wide.toInt g_count.toInt g_sortsf p2.toInt p3.toInt f_37 f_23 f_25 i_4.toInt x_64.toInt from (flJ_up (I := i_4) (T := r_30) (b := x_34) b_27 (by omega) rfl (by omega) k_31_1 (Or.inr ⟨by omega, by omega, ex_34⟩) ex_35 ex_36 ef_37 (Or.inr ⟨by omega, rfl⟩) (Or.inr ⟨by omega, rfl⟩) (by omega))) (show 5 - x_64.toInt ≤ (nlp_18 : Int) by omega) hP hD hS (lv_sub hl [0, 4, 5, 6, 7, 8] rfl)
                      · have h_63 : r_60.toInt ≠ (-2) := c_ne h_63
                        refine lv_aload_n hx hb dX2_learn_142 rfl (lv_at hl 5 rfl) ?_
                        refine r_get X kcX2 (ci := 2) rfl hP 0 rfl 2 (by decide) fX2_18 rfl dX2_learn_143 ?_
                        refine lv_iload hx hb dX2_learn_146 (lv_at hl 4 rfl) ?_
                        refine lv_dup2_11 hx hb dX2_learn_148 rfl rfl ?_
                        refine va_iald (D := (dC, dI)) (cl := vwCl) hx hb hK hP 3 1 rfl rfl (i := i_4) (vin (by omega) (by omega)) dX2_learn_149 ?_
                        refine lv_topi (fun x_65 ex_65 => ?_)
                        have bx_65 : 0 ≤ x_65.toInt ∧ x_65.toInt ≤ 1048575 := rb_at b_26 ex_65 (by omega) (by omega)
                        refine lv_iload hx hb dX2_learn_150 (lv_at hl 1 rfl) ?_
                        refine lv_ior hx hb dX2_learn_152 ?_
                        refine lv_topi (fun x_66 ex_66 => ?_)
                        have tx_66 : 0 ≤ x_66.toInt ∧ x_66.toInt ≤ 1048575 := ti_or20 ex_66 (by omega) (by omega) (by omega) (by omega)
                        refine va_iast (D := (dC, dI)) (cl := vwCl) hx hb hK hP hD hS 3 1 rfl rfl (i := i_4) (vin (by omega) (by omega)) dX2_learn_153 (fun H locs hP hD hS => ?_)
                        generalize ef_67 : upd f_25 (Int32.toNatClampNeg i_4) x_66 = f_67 at hP hD
                        have bf_67 : rb f_67 20 0 1048575 := by rw [← ef_67]; exact rb_upd b_26 (by omega) (by omega)
                        have hP : va_P (dC, dI) vwCl [(h0, .inr (2, [.ref f_fromLawn, .ref f_fromDitch, .ref f_ontoDitch])), (f_fromLawn, .inl (cy 1, 20, .inl f_37)), (f_fromDitch, .inl (cy 1, 20, .inl f_23)), (f_ontoDitch, .inl (cy 1, 20, .inl f_67)), (h1, .inr (4, [.int g_wide, .int g_deep, .int g_count, .ref g_sorts])), (g_sorts, .inl (cy 1, 20, .inl g_sortsf))] H := hP
                        have hD : va_D A [(h0, .inr (2, [.ref f_fromLawn, .ref f_fromDitch, .ref f_ontoDitch])), (f_fromLawn, .inl (cy 1, 20, .inl f_37)), (f_fromDitch, .inl (cy 1, 20, .inl f_23)), (f_ontoDitch, .inl (cy 1, 20, .inl f_67)), (h1, .inr (4, [.int g_wide, .int g_deep, .int g_count, .ref g_sorts])), (g_sorts, .inl (cy 1, 20, .inl g_sortsf))] := hD
                        obtain ⟨x_68, ex_68⟩ : ∃ y : Int32, y = i_19 + 1 := ⟨_, rfl⟩
                        have tx_68 : x_68.toInt = i_19.toInt + 1 := ti_add (A := i_19.toInt) (B := 1) ex_68 rfl rfl (by omega) (by omega)
                        refine lv_iinc (v := x_68) (lv' := [(5, .int x_68), (8, .int 1), (7, .int x_34), (6, .int r_30), (4, .int i_4), (0, .ref h0), (1, .ref h1), (2, .int p2), (3, .int p3)]) hx hb dX2_learn_154 hl (k := 3) rfl (by rw [ex_68]; rfl) (by decide) rfl (fun ls hl => ?_)
                        refine lv_goto (tgt := 39) hx hb dX2_learn_157 (by decide) ?_
                        exact ihlp_18 x_68 f_37 f_23 f_67 _ _ _ (by omega) bf_37 b_24 bf_67 (show flJ g_wide.toInt g_count.toInt g_sortsf p2.toInt p3.toInt f_37 f_23 f_67 i_4.toInt x_68.toInt from (flJ_up (I := i_4) (T := r_30) (b := x_34) b_27 (by omega) rfl (by omega) k_31_1 (Or.inr ⟨by omega, by omega, ex_34⟩) ex_35 ex_36 ef_37 (Or.inr ⟨by omega, rfl⟩) (Or.inl ⟨by omega, _, _, ex_65, ex_66, ef_67⟩) (by omega))) (show 5 - x_68.toInt ≤ (nlp_18 : Int) by omega) hP hD hS (lv_sub hl [0, 4, 5, 6, 7, 8] rfl)
                · have h_41 : r_38.toInt ≠ (-2) := c_ne h_41
                  refine lv_aload_n hx hb dX2_learn_94 rfl (lv_at hl 4 rfl) ?_
                  refine r_get X kcX2 (ci := 2) rfl hP 0 rfl 1 (by decide) fX2_15 rfl dX2_learn_95 ?_
                  refine lv_iload hx hb dX2_learn_98 (lv_at hl 3 rfl) ?_
                  refine lv_dup2_11 hx hb dX2_learn_100 rfl rfl ?_
                  refine va_iald (D := (dC, dI)) (cl := vwCl) hx hb hK hP 2 1 rfl rfl (i := i_4) (vin (by omega) (by omega)) dX2_learn_101 ?_
                  refine lv_topi (fun x_69 ex_69 => ?_)
                  have bx_69 : 0 ≤ x_69.toInt ∧ x_69.toInt ≤ 1048575 := rb_at b_24 ex_69 (by omega) (by omega)
                  refine lv_iload hx hb dX2_learn_102 (lv_at hl 0 rfl) ?_
                  refine lv_ior hx hb dX2_learn_104 ?_
                  refine lv_topi (fun x_70 ex_70 => ?_)
                  have tx_70 : 0 ≤ x_70.toInt ∧ x_70.toInt ≤ 1048575 := ti_or20 ex_70 (by omega) (by omega) (by omega) (by omega)
                  refine va_iast (D := (dC, dI)) (cl := vwCl) hx hb hK hP hD hS 2 1 rfl rfl (i := i_4) (vin (by omega) (by omega)) dX2_learn_105 (fun H locs hP hD hS => ?_)
                  generalize ef_71 : upd f_23 (Int32.toNatClampNeg i_4) x_70 = f_71 at hP hD
                  have bf_71 : rb f_71 20 0 1048575 := by rw [← ef_71]; exact rb_upd b_24 (by omega) (by omega)
                  have hP : va_P (dC, dI) vwCl [(h0, .inr (2, [.ref f_fromLawn, .ref f_fromDitch, .ref f_ontoDitch])), (f_fromLawn, .inl (cy 1, 20, .inl f_37)), (f_fromDitch, .inl (cy 1, 20, .inl f_71)), (f_ontoDitch, .inl (cy 1, 20, .inl f_25)), (h1, .inr (4, [.int g_wide, .int g_deep, .int g_count, .ref g_sorts])), (g_sorts, .inl (cy 1, 20, .inl g_sortsf))] H := hP
                  have hD : va_D A [(h0, .inr (2, [.ref f_fromLawn, .ref f_fromDitch, .ref f_ontoDitch])), (f_fromLawn, .inl (cy 1, 20, .inl f_37)), (f_fromDitch, .inl (cy 1, 20, .inl f_71)), (f_ontoDitch, .inl (cy 1, 20, .inl f_25)), (h1, .inr (4, [.int g_wide, .int g_deep, .int g_count, .ref g_sorts])), (g_sorts, .inl (cy 1, 20, .inl g_sortsf))] := hD
                  refine lv_iload_n hx hb dX2_learn_106 rfl (lv_at hl 7 rfl) ?_
                  refine lv_if_ne (tgt := 119) hx hb dX2_learn_107 (by decide) (fun h_72 => ?_) (fun h_72 => ?_)
                  · have h_72 : p3.toInt ≠ 0 := c_ne h_72
                    refine lv_iconst (v := 1) hx hb dX2_learn_119 (by decide) ?_
                    refine lv_goto (tgt := 124) hx hb dX2_learn_120 (by decide) ?_
                    refine lv_istore (lv' := [(8, .int 1), (7, .int x_34), (6, .int r_30), (5, .int i_19), (4, .int i_4), (0, .ref h0), (1, .ref h1), (2, .int p2), (3, .int p3)]) hx hb dX2_learn_124 hl (by decide) rfl (fun ls hl => ?_)
                    refine lv_iload hx hb dX2_learn_126 (lv_at hl 0 rfl) ?_
                    refine lv_if_eq (tgt := 154) hx hb dX2_learn_128 (by decide) (fun h_73 => absurd h_73 (by decide)) (fun _ => ?_)
                    refine lv_iload_n hx hb dX2_learn_131 rfl (lv_at hl 7 rfl) ?_
                    refine lv_iload hx hb dX2_learn_132 (lv_at hl 3 rfl) ?_
                    refine fI (wr := [(h0, .inr (2, [.ref f_fromLawn, .ref f_fromDitch, .ref f_ontoDitch])), (f_fromLawn, .inl (cy 1, 20, .inl f_37)), (f_fromDitch, .inl (cy 1, 20, .inl f_71)), (f_ontoDitch, .inl (cy 1, 20, .inl f_25)), (h1, .inr (4, [.int g_wide, .int g_deep, .int g_count, .ref g_sorts])), (g_sorts, .inl (cy 1, 20, .inl g_sortsf))]) (rS_I (wc := []) (As := [.int p2, .int i_19]) (rest := []) X hp_st (fun _ _ _ h => h) (sX4_timeOntoDitch l dC dI cy p2 i_19) kX4_timeOntoDitch w_832 mX2_38 hP hD hS hA [] (by decide) rfl hl rfl rfl (Nat.le_of_ble_eq_true rfl) dX2_learn_134 ⟨(Nat.le_of_ble_eq_true rfl), (Nat.le_of_ble_eq_true rfl)⟩ ⟨(Nat.le_of_ble_eq_true rfl), (Nat.le_of_ble_eq_true rfl)⟩) hP hD hS hA [] [0, 1, 2, 3, 4, 5] rfl rfl (by decide) (by decide) (fun r_74 u_76 H locs k_75 hP hD hS => ?_)
                    have k_75 : ((-2) ≤ r_74.toInt ∧ r_74.toInt ≤ 4) ∧ (r_74.toInt = oD p2.toInt i_19.toInt) := k_75
                    obtain ⟨k_75_0, k_75_1⟩ := k_75
                    have hP : va_P (dC, dI) vwCl [(h0, .inr (2, [.ref f_fromLawn, .ref f_fromDitch, .ref f_ontoDitch])), (f_fromLawn, .inl (cy 1, 20, .inl f_37)), (f_fromDitch, .inl (cy 1, 20, .inl f_71)), (f_ontoDitch, .inl (cy 1, 20, .inl f_25)), (h1, .inr (4, [.int g_wide, .int g_deep, .int g_count, .ref g_sorts])), (g_sorts, .inl (cy 1, 20, .inl g_sortsf))] H := hP
                    have hD : va_D A [(h0, .inr (2, [.ref f_fromLawn, .ref f_fromDitch, .ref f_ontoDitch])), (f_fromLawn, .inl (cy 1, 20, .inl f_37)), (f_fromDitch, .inl (cy 1, 20, .inl f_71)), (f_ontoDitch, .inl (cy 1, 20, .inl f_25)), (h1, .inr (4, [.int g_wide, .int g_deep, .int g_count, .ref g_sorts])), (g_sorts, .inl (cy 1, 20, .inl g_sortsf))] := hD
                    refine lv_bipush (v := -2) hx hb dX2_learn_137 (by decide) ?_
                    refine lv_icmp_eq (tgt := 154) hx hb dX2_learn_139 (by decide) (fun h_77 => ?_) (fun h_77 => ?_)
                    · have h_77 : r_74.toInt = (-2) := c_eq h_77
                      obtain ⟨x_78, ex_78⟩ : ∃ y : Int32, y = i_19 + 1 := ⟨_, rfl⟩
                      have tx_78 : x_78.toInt = i_19.toInt + 1 := ti_add (A := i_19.toInt) (B := 1) ex_78 rfl rfl (by omega) (by omega)
                      refine lv_iinc (v := x_78) (lv' := [(5, .int x_78), (8, .int 1), (7, .int x_34), (6, .int r_30), (4, .int i_4), (0, .ref h0), (1, .ref h1), (2, .int p2), (3, .int p3)]) hx hb dX2_learn_154 hl (k := 3) rfl (by rw [ex_78]; rfl) (by decide) rfl (fun ls hl => ?_)
                      refine lv_goto (tgt := 39) hx hb dX2_learn_157 (by decide) ?_
                      exact ihlp_18 x_78 f_37 f_71 f_25 _ _ _ (by omega) bf_37 bf_71 b_26 (show flJ g_wide.toInt g_count.toInt g_sortsf p2.toInt p3.toInt f_37 f_71 f_25 i_4.toInt x_78.toInt from (flJ_up (I := i_4) (T := r_30) (b := x_34) b_27 (by omega) rfl (by omega) k_31_1 (Or.inr ⟨by omega, by omega, ex_34⟩) ex_35 ex_36 ef_37 (Or.inl ⟨by omega, _, _, ex_69, ex_70, ef_71⟩) (Or.inr ⟨by omega, rfl⟩) (by omega))) (show 5 - x_78.toInt ≤ (nlp_18 : Int) by omega) hP hD hS (lv_sub hl [0, 4, 5, 6, 7, 8] rfl)
                    · have h_77 : r_74.toInt ≠ (-2) := c_ne h_77
                      refine lv_aload_n hx hb dX2_learn_142 rfl (lv_at hl 5 rfl) ?_
                      refine r_get X kcX2 (ci := 2) rfl hP 0 rfl 2 (by decide) fX2_18 rfl dX2_learn_143 ?_
                      refine lv_iload hx hb dX2_learn_146 (lv_at hl 4 rfl) ?_
                      refine lv_dup2_11 hx hb dX2_learn_148 rfl rfl ?_
                      refine va_iald (D := (dC, dI)) (cl := vwCl) hx hb hK hP 3 1 rfl rfl (i := i_4) (vin (by omega) (by omega)) dX2_learn_149 ?_
                      refine lv_topi (fun x_79 ex_79 => ?_)
                      have bx_79 : 0 ≤ x_79.toInt ∧ x_79.toInt ≤ 1048575 := rb_at b_26 ex_79 (by omega) (by omega)
                      refine lv_iload hx hb dX2_learn_150 (lv_at hl 1 rfl) ?_
                      refine lv_ior hx hb dX2_learn_152 ?_
                      refine lv_topi (fun x_80 ex_80 => ?_)
                      have tx_80 : 0 ≤ x_80.toInt ∧ x_80.toInt ≤ 1048575 := ti_or20 ex_80 (by omega) (by omega) (by omega) (by omega)
                      refine va_iast (D := (dC, dI)) (cl := vwCl) hx hb hK hP hD hS 3 1 rfl rfl (i := i_4) (vin (by omega) (by omega)) dX2_learn_153 (fun H locs hP hD hS => ?_)
                      generalize ef_81 : upd f_25 (Int32.toNatClampNeg i_4) x_80 = f_81 at hP hD
                      have bf_81 : rb f_81 20 0 1048575 := by rw [← ef_81]; exact rb_upd b_26 (by omega) (by omega)
                      have hP : va_P (dC, dI) vwCl [(h0, .inr (2, [.ref f_fromLawn, .ref f_fromDitch, .ref f_ontoDitch])), (f_fromLawn, .inl (cy 1, 20, .inl f_37)), (f_fromDitch, .inl (cy 1, 20, .inl f_71)), (f_ontoDitch, .inl (cy 1, 20, .inl f_81)), (h1, .inr (4, [.int g_wide, .int g_deep, .int g_count, .ref g_sorts])), (g_sorts, .inl (cy 1, 20, .inl g_sortsf))] H := hP
                      have hD : va_D A [(h0, .inr (2, [.ref f_fromLawn, .ref f_fromDitch, .ref f_ontoDitch])), (f_fromLawn, .inl (cy 1, 20, .inl f_37)), (f_fromDitch, .inl (cy 1, 20, .inl f_71)), (f_ontoDitch, .inl (cy 1, 20, .inl f_81)), (h1, .inr (4, [.int g_wide, .int g_deep, .int g_count, .ref g_sorts])), (g_sorts, .inl (cy 1, 20, .inl g_sortsf))] := hD
                      obtain ⟨x_82, ex_82⟩ : ∃ y : Int32, y = i_19 + 1 := ⟨_, rfl⟩
                      have tx_82 : x_82.toInt = i_19.toInt + 1 := ti_add (A := i_19.toInt) (B := 1) ex_82 rfl rfl (by omega) (by omega)
                      refine lv_iinc (v := x_82) (lv' := [(5, .int x_82), (8, .int 1), (7, .int x_34), (6, .int r_30), (4, .int i_4), (0, .ref h0), (1, .ref h1), (2, .int p2), (3, .int p3)]) hx hb dX2_learn_154 hl (k := 3) rfl (by rw [ex_82]; rfl) (by decide) rfl (fun ls hl => ?_)
                      refine lv_goto (tgt := 39) hx hb dX2_learn_157 (by decide) ?_
                      exact ihlp_18 x_82 f_37 f_71 f_81 _ _ _ (by omega) bf_37 bf_71 bf_81 (show flJ g_wide.toInt g_count.toInt g_sortsf p2.toInt p3.toInt f_37 f_71 f_81 i_4.toInt x_82.toInt from (flJ_up (I := i_4) (T := r_30) (b := x_34) b_27 (by omega) rfl (by omega) k_31_1 (Or.inr ⟨by omega, by omega, ex_34⟩) ex_35 ex_36 ef_37 (Or.inl ⟨by omega, _, _, ex_69, ex_70, ef_71⟩) (Or.inl ⟨by omega, _, _, ex_79, ex_80, ef_81⟩) (by omega))) (show 5 - x_82.toInt ≤ (nlp_18 : Int) by omega) hP hD hS (lv_sub hl [0, 4, 5, 6, 7, 8] rfl)
                  · have h_72 : p3.toInt = 0 := c_eq h_72
                    refine lv_iload_n hx hb dX2_learn_110 rfl (lv_at hl 6 rfl) ?_
                    refine lv_iload hx hb dX2_learn_111 (lv_at hl 2 rfl) ?_
                    refine fI (wr := [(h0, .inr (2, [.ref f_fromLawn, .ref f_fromDitch, .ref f_ontoDitch])), (f_fromLawn, .inl (cy 1, 20, .inl f_37)), (f_fromDitch, .inl (cy 1, 20, .inl f_71)), (f_ontoDitch, .inl (cy 1, 20, .inl f_25)), (h1, .inr (4, [.int g_wide, .int g_deep, .int g_count, .ref g_sorts])), (g_sorts, .inl (cy 1, 20, .inl g_sortsf))]) (rS_I (wc := []) (As := [.int p2, .int i_19]) (rest := []) X hp_st (fun _ _ _ h => h) (sX4_isFallOntoDitch l dC dI cy p2 i_19) kX4_isFallOntoDitch w_846 mX2_34 hP hD hS hA [] (by decide) rfl hl rfl rfl (Nat.le_of_ble_eq_true rfl) dX2_learn_113 ⟨(Nat.le_of_ble_eq_true rfl), (Nat.le_of_ble_eq_true rfl)⟩ ⟨(Nat.le_of_ble_eq_true rfl), (Nat.le_of_ble_eq_true rfl)⟩) hP hD hS hA [] [0, 1, 2, 3, 4, 5] rfl rfl (by decide) (by decide) (fun r_83 u_85 H locs k_84 hP hD hS => ?_)
                    have k_84 : (0 ≤ r_83.toInt ∧ r_83.toInt ≤ 1) ∧ ((r_83.toInt = 1 ∧ p2.toInt = 0 ∧ i_19.toInt = 2) ∨ (r_83.toInt = 0 ∧ (p2.toInt ≠ 0 ∨ i_19.toInt ≠ 2))) := k_84
                    obtain ⟨k_84_0, k_84_1⟩ := k_84
                    have hP : va_P (dC, dI) vwCl [(h0, .inr (2, [.ref f_fromLawn, .ref f_fromDitch, .ref f_ontoDitch])), (f_fromLawn, .inl (cy 1, 20, .inl f_37)), (f_fromDitch, .inl (cy 1, 20, .inl f_71)), (f_ontoDitch, .inl (cy 1, 20, .inl f_25)), (h1, .inr (4, [.int g_wide, .int g_deep, .int g_count, .ref g_sorts])), (g_sorts, .inl (cy 1, 20, .inl g_sortsf))] H := hP
                    have hD : va_D A [(h0, .inr (2, [.ref f_fromLawn, .ref f_fromDitch, .ref f_ontoDitch])), (f_fromLawn, .inl (cy 1, 20, .inl f_37)), (f_fromDitch, .inl (cy 1, 20, .inl f_71)), (f_ontoDitch, .inl (cy 1, 20, .inl f_25)), (h1, .inr (4, [.int g_wide, .int g_deep, .int g_count, .ref g_sorts])), (g_sorts, .inl (cy 1, 20, .inl g_sortsf))] := hD
                    refine lv_if_ne (tgt := 123) hx hb dX2_learn_116 (by decide) (fun h_86 => ?_) (fun h_86 => ?_)
                    · have h_86 : r_83.toInt ≠ 0 := c_ne h_86
                      refine lv_iconst (v := 0) hx hb dX2_learn_123 (by decide) ?_
                      refine lv_istore (lv' := [(8, .int 0), (7, .int x_34), (6, .int r_30), (5, .int i_19), (4, .int i_4), (0, .ref h0), (1, .ref h1), (2, .int p2), (3, .int p3)]) hx hb dX2_learn_124 hl (by decide) rfl (fun ls hl => ?_)
                      refine lv_iload hx hb dX2_learn_126 (lv_at hl 0 rfl) ?_
                      refine lv_if_eq (tgt := 154) hx hb dX2_learn_128 (by decide) (fun _ => ?_) (fun h_87 => absurd (by decide) h_87)
                      obtain ⟨x_88, ex_88⟩ : ∃ y : Int32, y = i_19 + 1 := ⟨_, rfl⟩
                      have tx_88 : x_88.toInt = i_19.toInt + 1 := ti_add (A := i_19.toInt) (B := 1) ex_88 rfl rfl (by omega) (by omega)
                      refine lv_iinc (v := x_88) (lv' := [(5, .int x_88), (8, .int 0), (7, .int x_34), (6, .int r_30), (4, .int i_4), (0, .ref h0), (1, .ref h1), (2, .int p2), (3, .int p3)]) hx hb dX2_learn_154 hl (k := 3) rfl (by rw [ex_88]; rfl) (by decide) rfl (fun ls hl => ?_)
                      refine lv_goto (tgt := 39) hx hb dX2_learn_157 (by decide) ?_
                      exact ihlp_18 x_88 f_37 f_71 f_25 _ _ _ (by omega) bf_37 bf_71 b_26 (show flJ g_wide.toInt g_count.toInt g_sortsf p2.toInt p3.toInt f_37 f_71 f_25 i_4.toInt x_88.toInt from (flJ_up (I := i_4) (T := r_30) (b := x_34) b_27 (by omega) rfl (by omega) k_31_1 (Or.inr ⟨by omega, by omega, ex_34⟩) ex_35 ex_36 ef_37 (Or.inl ⟨by omega, _, _, ex_69, ex_70, ef_71⟩) (Or.inr ⟨by omega, rfl⟩) (by omega))) (show 5 - x_88.toInt ≤ (nlp_18 : Int) by omega) hP hD hS (lv_sub hl [0, 4, 5, 6, 7, 8] rfl)
                    · have h_86 : r_83.toInt = 0 := c_eq h_86
                      refine lv_iconst (v := 1) hx hb dX2_learn_119 (by decide) ?_
                      refine lv_goto (tgt := 124) hx hb dX2_learn_120 (by decide) ?_
                      refine lv_istore (lv' := [(8, .int 1), (7, .int x_34), (6, .int r_30), (5, .int i_19), (4, .int i_4), (0, .ref h0), (1, .ref h1), (2, .int p2), (3, .int p3)]) hx hb dX2_learn_124 hl (by decide) rfl (fun ls hl => ?_)
                      refine lv_iload hx hb dX2_learn_126 (lv_at hl 0 rfl) ?_
                      refine lv_if_eq (tgt := 154) hx hb dX2_learn_128 (by decide) (fun h_89 => absurd h_89 (by decide)) (fun _ => ?_)
                      refine lv_iload_n hx hb dX2_learn_131 rfl (lv_at hl 7 rfl) ?_
                      refine lv_iload hx hb dX2_learn_132 (lv_at hl 3 rfl) ?_
                      refine fI (wr := [(h0, .inr (2, [.ref f_fromLawn, .ref f_fromDitch, .ref f_ontoDitch])), (f_fromLawn, .inl (cy 1, 20, .inl f_37)), (f_fromDitch, .inl (cy 1, 20, .inl f_71)), (f_ontoDitch, .inl (cy 1, 20, .inl f_25)), (h1, .inr (4, [.int g_wide, .int g_deep, .int g_count, .ref g_sorts])), (g_sorts, .inl (cy 1, 20, .inl g_sortsf))]) (rS_I (wc := []) (As := [.int p2, .int i_19]) (rest := []) X hp_st (fun _ _ _ h => h) (sX4_timeOntoDitch l dC dI cy p2 i_19) kX4_timeOntoDitch w_832 mX2_38 hP hD hS hA [] (by decide) rfl hl rfl rfl (Nat.le_of_ble_eq_true rfl) dX2_learn_134 ⟨(Nat.le_of_ble_eq_true rfl), (Nat.le_of_ble_eq_true rfl)⟩ ⟨(Nat.le_of_ble_eq_true rfl), (Nat.le_of_ble_eq_true rfl)⟩) hP hD hS hA [] [0, 1, 2, 3, 4, 5] rfl rfl (by decide) (by decide) (fun r_90 u_92 H locs k_91 hP hD hS => ?_)
                      have k_91 : ((-2) ≤ r_90.toInt ∧ r_90.toInt ≤ 4) ∧ (r_90.toInt = oD p2.toInt i_19.toInt) := k_91
                      obtain ⟨k_91_0, k_91_1⟩ := k_91
                      have hP : va_P (dC, dI) vwCl [(h0, .inr (2, [.ref f_fromLawn, .ref f_fromDitch, .ref f_ontoDitch])), (f_fromLawn, .inl (cy 1, 20, .inl f_37)), (f_fromDitch, .inl (cy 1, 20, .inl f_71)), (f_ontoDitch, .inl (cy 1, 20, .inl f_25)), (h1, .inr (4, [.int g_wide, .int g_deep, .int g_count, .ref g_sorts])), (g_sorts, .inl (cy 1, 20, .inl g_sortsf))] H := hP
                      have hD : va_D A [(h0, .inr (2, [.ref f_fromLawn, .ref f_fromDitch, .ref f_ontoDitch])), (f_fromLawn, .inl (cy 1, 20, .inl f_37)), (f_fromDitch, .inl (cy 1, 20, .inl f_71)), (f_ontoDitch, .inl (cy 1, 20, .inl f_25)), (h1, .inr (4, [.int g_wide, .int g_deep, .int g_count, .ref g_sorts])), (g_sorts, .inl (cy 1, 20, .inl g_sortsf))] := hD
                      refine lv_bipush (v := -2) hx hb dX2_learn_137 (by decide) ?_
                      refine lv_icmp_eq (tgt := 154) hx hb dX2_learn_139 (by decide) (fun h_93 => ?_) (fun h_93 => ?_)
                      · have h_93 : r_90.toInt = (-2) := c_eq h_93
                        obtain ⟨x_94, ex_94⟩ : ∃ y : Int32, y = i_19 + 1 := ⟨_, rfl⟩
                        have tx_94 : x_94.toInt = i_19.toInt + 1 := ti_add (A := i_19.toInt) (B := 1) ex_94 rfl rfl (by omega) (by omega)
                        refine lv_iinc (v := x_94) (lv' := [(5, .int x_94), (8, .int 1), (7, .int x_34), (6, .int r_30), (4, .int i_4), (0, .ref h0), (1, .ref h1), (2, .int p2), (3, .int p3)]) hx hb dX2_learn_154 hl (k := 3) rfl (by rw [ex_94]; rfl) (by decide) rfl (fun ls hl => ?_)
                        refine lv_goto (tgt := 39) hx hb dX2_learn_157 (by decide) ?_
                        exact ihlp_18 x_94 f_37 f_71 f_25 _ _ _ (by omega) bf_37 bf_71 b_26 (show flJ g_wide.toInt g_count.toInt g_sortsf p2.toInt p3.toInt f_37 f_71 f_25 i_4.toInt x_94.toInt from (flJ_up (I := i_4) (T := r_30) (b := x_34) b_27 (by omega) rfl (by omega) k_31_1 (Or.inr ⟨by omega, by omega, ex_34⟩) ex_35 ex_36 ef_37 (Or.inl ⟨by omega, _, _, ex_69, ex_70, ef_71⟩) (Or.inr ⟨by omega, rfl⟩) (by omega))) (show 5 - x_94.toInt ≤ (nlp_18 : Int) by omega) hP hD hS (lv_sub hl [0, 4, 5, 6, 7, 8] rfl)
                      · have h_93 : r_90.toInt ≠ (-2) := c_ne h_93
                        refine lv_aload_n hx hb dX2_learn_142 rfl (lv_at hl 5 rfl) ?_
                        refine r_get X kcX2 (ci := 2) rfl hP 0 rfl 2 (by decide) fX2_18 rfl dX2_learn_143 ?_
                        refine lv_iload hx hb dX2_learn_146 (lv_at hl 4 rfl) ?_
                        refine lv_dup2_11 hx hb dX2_learn_148 rfl rfl ?_
                        refine va_iald (D := (dC, dI)) (cl := vwCl) hx hb hK hP 3 1 rfl rfl (i := i_4) (vin (by omega) (by omega)) dX2_learn_149 ?_
                        refine lv_topi (fun x_95 ex_95 => ?_)
                        have bx_95 : 0 ≤ x_95.toInt ∧ x_95.toInt ≤ 1048575 := rb_at b_26 ex_95 (by omega) (by omega)
                        refine lv_iload hx hb dX2_learn_150 (lv_at hl 1 rfl) ?_
                        refine lv_ior hx hb dX2_learn_152 ?_
                        refine lv_topi (fun x_96 ex_96 => ?_)
                        have tx_96 : 0 ≤ x_96.toInt ∧ x_96.toInt ≤ 1048575 := ti_or20 ex_96 (by omega) (by omega) (by omega) (by omega)
                        refine va_iast (D := (dC, dI)) (cl := vwCl) hx hb hK hP hD hS 3 1 rfl rfl (i := i_4) (vin (by omega) (by omega)) dX2_learn_153 (fun H locs hP hD hS => ?_)
                        generalize ef_97 : upd f_25 (Int32.toNatClampNeg i_4) x_96 = f_97 at hP hD
                        have bf_97 : rb f_97 20 0 1048575 := by rw [← ef_97]; exact rb_upd b_26 (by omega) (by omega)
                        have hP : va_P (dC, dI) vwCl [(h0, .inr (2, [.ref f_fromLawn, .ref f_fromDitch, .ref f_ontoDitch])), (f_fromLawn, .inl (cy 1, 20, .inl f_37)), (f_fromDitch, .inl (cy 1, 20, .inl f_71)), (f_ontoDitch, .inl (cy 1, 20, .inl f_97)), (h1, .inr (4, [.int g_wide, .int g_deep, .int g_count, .ref g_sorts])), (g_sorts, .inl (cy 1, 20, .inl g_sortsf))] H := hP
                        have hD : va_D A [(h0, .inr (2, [.ref f_fromLawn, .ref f_fromDitch, .ref f_ontoDitch])), (f_fromLawn, .inl (cy 1, 20, .inl f_37)), (f_fromDitch, .inl (cy 1, 20, .inl f_71)), (f_ontoDitch, .inl (cy 1, 20, .inl f_97)), (h1, .inr (4, [.int g_wide, .int g_deep, .int g_count, .ref g_sorts])), (g_sorts, .inl (cy 1, 20, .inl g_sortsf))] := hD
                        obtain ⟨x_98, ex_98⟩ : ∃ y : Int32, y = i_19 + 1 := ⟨_, rfl⟩
                        have tx_98 : x_98.toInt = i_19.toInt + 1 := ti_add (A := i_19.toInt) (B := 1) ex_98 rfl rfl (by omega) (by omega)
                        refine lv_iinc (v := x_98) (lv' := [(5, .int x_98), (8, .int 1), (7, .int x_34), (6, .int r_30), (4, .int i_4), (0, .ref h0), (1, .ref h1), (2, .int p2), (3, .int p3)]) hx hb dX2_learn_154 hl (k := 3) rfl (by rw [ex_98]; rfl) (by decide) rfl (fun ls hl => ?_)
                        refine lv_goto (tgt := 39) hx hb dX2_learn_157 (by decide) ?_
                        exact ihlp_18 x_98 f_37 f_71 f_97 _ _ _ (by omega) bf_37 bf_71 bf_97 (show flJ g_wide.toInt g_count.toInt g_sortsf p2.toInt p3.toInt f_37 f_71 f_97 i_4.toInt x_98.toInt from (flJ_up (I := i_4) (T := r_30) (b := x_34) b_27 (by omega) rfl (by omega) k_31_1 (Or.inr ⟨by omega, by omega, ex_34⟩) ex_35 ex_36 ef_37 (Or.inl ⟨by omega, _, _, ex_69, ex_70, ef_71⟩) (Or.inl ⟨by omega, _, _, ex_95, ex_96, ef_97⟩) (by omega))) (show 5 - x_98.toInt ≤ (nlp_18 : Int) by omega) hP hD hS (lv_sub hl [0, 4, 5, 6, 7, 8] rfl)
              · have h_33 : r_30.toInt = (-1) := c_eq h_33
                refine lv_iconst (v := 0) hx hb dX2_learn_61 (by decide) ?_
                refine lv_goto (tgt := 69) hx hb dX2_learn_62 (by decide) ?_
                refine lv_istore (lv' := [(7, .int 0), (6, .int r_30), (5, .int i_19), (4, .int i_4), (0, .ref h0), (1, .ref h1), (2, .int p2), (3, .int p3)]) hx hb dX2_learn_69 hl (by decide) rfl (fun ls hl => ?_)
                refine lv_aload_n hx hb dX2_learn_71 rfl (lv_at hl 4 rfl) ?_
                refine r_get X kcX2 (ci := 2) rfl hP 0 rfl 0 (by decide) fX2_9 rfl dX2_learn_72 ?_
                refine lv_iload hx hb dX2_learn_75 (lv_at hl 3 rfl) ?_
                refine lv_dup2_11 hx hb dX2_learn_77 rfl rfl ?_
                refine va_iald (D := (dC, dI)) (cl := vwCl) hx hb hK hP 1 1 rfl rfl (i := i_4) (vin (by omega) (by omega)) dX2_learn_78 ?_
                refine lv_topi (fun x_99 ex_99 => ?_)
                have bx_99 : 0 ≤ x_99.toInt ∧ x_99.toInt ≤ 1048575 := rb_at b_22 ex_99 (by omega) (by omega)
                refine lv_iload hx hb dX2_learn_79 (lv_at hl 0 rfl) ?_
                refine lv_ior hx hb dX2_learn_81 ?_
                refine lv_topi (fun x_100 ex_100 => ?_)
                have tx_100 : 0 ≤ x_100.toInt ∧ x_100.toInt ≤ 1048575 := ti_or20 ex_100 (by omega) (by omega) (by decide) (by decide)
                refine va_iast (D := (dC, dI)) (cl := vwCl) hx hb hK hP hD hS 1 1 rfl rfl (i := i_4) (vin (by omega) (by omega)) dX2_learn_82 (fun H locs hP hD hS => ?_)
                generalize ef_101 : upd f_21 (Int32.toNatClampNeg i_4) x_100 = f_101 at hP hD
                have bf_101 : rb f_101 20 0 1048575 := by rw [← ef_101]; exact rb_upd b_22 (by omega) (by omega)
                have hP : va_P (dC, dI) vwCl [(h0, .inr (2, [.ref f_fromLawn, .ref f_fromDitch, .ref f_ontoDitch])), (f_fromLawn, .inl (cy 1, 20, .inl f_101)), (f_fromDitch, .inl (cy 1, 20, .inl f_23)), (f_ontoDitch, .inl (cy 1, 20, .inl f_25)), (h1, .inr (4, [.int g_wide, .int g_deep, .int g_count, .ref g_sorts])), (g_sorts, .inl (cy 1, 20, .inl g_sortsf))] H := hP
                have hD : va_D A [(h0, .inr (2, [.ref f_fromLawn, .ref f_fromDitch, .ref f_ontoDitch])), (f_fromLawn, .inl (cy 1, 20, .inl f_101)), (f_fromDitch, .inl (cy 1, 20, .inl f_23)), (f_ontoDitch, .inl (cy 1, 20, .inl f_25)), (h1, .inr (4, [.int g_wide, .int g_deep, .int g_count, .ref g_sorts])), (g_sorts, .inl (cy 1, 20, .inl g_sortsf))] := hD
                refine lv_iload_n hx hb dX2_learn_83 rfl (lv_at hl 6 rfl) ?_
                refine lv_iload hx hb dX2_learn_84 (lv_at hl 2 rfl) ?_
                refine fI (wr := [(h0, .inr (2, [.ref f_fromLawn, .ref f_fromDitch, .ref f_ontoDitch])), (f_fromLawn, .inl (cy 1, 20, .inl f_101)), (f_fromDitch, .inl (cy 1, 20, .inl f_23)), (f_ontoDitch, .inl (cy 1, 20, .inl f_25)), (h1, .inr (4, [.int g_wide, .int g_deep, .int g_count, .ref g_sorts])), (g_sorts, .inl (cy 1, 20, .inl g_sortsf))]) (rS_I (wc := []) (As := [.int p2, .int i_19]) (rest := []) X hp_st (fun _ _ _ h => h) (sX4_timeOutOfDitch l dC dI cy p2 i_19) kX4_timeOutOfDitch w_835 mX2_31 hP hD hS hA [] (by decide) rfl hl rfl rfl (Nat.le_of_ble_eq_true rfl) dX2_learn_86 ⟨(Nat.le_of_ble_eq_true rfl), (Nat.le_of_ble_eq_true rfl)⟩ ⟨(Nat.le_of_ble_eq_true rfl), (Nat.le_of_ble_eq_true rfl)⟩) hP hD hS hA [] [0, 1, 2, 3, 4, 5] rfl rfl (by decide) (by decide) (fun r_102 u_104 H locs k_103 hP hD hS => ?_)
                have k_103 : ((-2) ≤ r_102.toInt ∧ r_102.toInt ≤ 4) ∧ (r_102.toInt = oU p2.toInt i_19.toInt) := k_103
                obtain ⟨k_103_0, k_103_1⟩ := k_103
                have hP : va_P (dC, dI) vwCl [(h0, .inr (2, [.ref f_fromLawn, .ref f_fromDitch, .ref f_ontoDitch])), (f_fromLawn, .inl (cy 1, 20, .inl f_101)), (f_fromDitch, .inl (cy 1, 20, .inl f_23)), (f_ontoDitch, .inl (cy 1, 20, .inl f_25)), (h1, .inr (4, [.int g_wide, .int g_deep, .int g_count, .ref g_sorts])), (g_sorts, .inl (cy 1, 20, .inl g_sortsf))] H := hP
                have hD : va_D A [(h0, .inr (2, [.ref f_fromLawn, .ref f_fromDitch, .ref f_ontoDitch])), (f_fromLawn, .inl (cy 1, 20, .inl f_101)), (f_fromDitch, .inl (cy 1, 20, .inl f_23)), (f_ontoDitch, .inl (cy 1, 20, .inl f_25)), (h1, .inr (4, [.int g_wide, .int g_deep, .int g_count, .ref g_sorts])), (g_sorts, .inl (cy 1, 20, .inl g_sortsf))] := hD
                refine lv_bipush (v := -2) hx hb dX2_learn_89 (by decide) ?_
                refine lv_icmp_eq (tgt := 106) hx hb dX2_learn_91 (by decide) (fun h_105 => ?_) (fun h_105 => ?_)
                · have h_105 : r_102.toInt = (-2) := c_eq h_105
                  refine lv_iload_n hx hb dX2_learn_106 rfl (lv_at hl 7 rfl) ?_
                  refine lv_if_ne (tgt := 119) hx hb dX2_learn_107 (by decide) (fun h_106 => ?_) (fun h_106 => ?_)
                  · have h_106 : p3.toInt ≠ 0 := c_ne h_106
                    refine lv_iconst (v := 1) hx hb dX2_learn_119 (by decide) ?_
                    refine lv_goto (tgt := 124) hx hb dX2_learn_120 (by decide) ?_
                    refine lv_istore (lv' := [(8, .int 1), (7, .int 0), (6, .int r_30), (5, .int i_19), (4, .int i_4), (0, .ref h0), (1, .ref h1), (2, .int p2), (3, .int p3)]) hx hb dX2_learn_124 hl (by decide) rfl (fun ls hl => ?_)
                    refine lv_iload hx hb dX2_learn_126 (lv_at hl 0 rfl) ?_
                    refine lv_if_eq (tgt := 154) hx hb dX2_learn_128 (by decide) (fun h_107 => absurd h_107 (by decide)) (fun _ => ?_)
                    refine lv_iload_n hx hb dX2_learn_131 rfl (lv_at hl 7 rfl) ?_
                    refine lv_iload hx hb dX2_learn_132 (lv_at hl 3 rfl) ?_
                    refine fI (wr := [(h0, .inr (2, [.ref f_fromLawn, .ref f_fromDitch, .ref f_ontoDitch])), (f_fromLawn, .inl (cy 1, 20, .inl f_101)), (f_fromDitch, .inl (cy 1, 20, .inl f_23)), (f_ontoDitch, .inl (cy 1, 20, .inl f_25)), (h1, .inr (4, [.int g_wide, .int g_deep, .int g_count, .ref g_sorts])), (g_sorts, .inl (cy 1, 20, .inl g_sortsf))]) (rS_I (wc := []) (As := [.int p2, .int i_19]) (rest := []) X hp_st (fun _ _ _ h => h) (sX4_timeOntoDitch l dC dI cy p2 i_19) kX4_timeOntoDitch w_832 mX2_38 hP hD hS hA [] (by decide) rfl hl rfl rfl (Nat.le_of_ble_eq_true rfl) dX2_learn_134 ⟨(Nat.le_of_ble_eq_true rfl), (Nat.le_of_ble_eq_true rfl)⟩ ⟨(Nat.le_of_ble_eq_true rfl), (Nat.le_of_ble_eq_true rfl)⟩) hP hD hS hA [] [0, 1, 2, 3, 4, 5] rfl rfl (by decide) (by decide) (fun r_108 u_110 H locs k_109 hP hD hS => ?_)
                    have k_109 : ((-2) ≤ r_108.toInt ∧ r_108.toInt ≤ 4) ∧ (r_108.toInt = oD p2.toInt i_19.toInt) := k_109
                    obtain ⟨k_109_0, k_109_1⟩ := k_109
                    have hP : va_P (dC, dI) vwCl [(h0, .inr (2, [.ref f_fromLawn, .ref f_fromDitch, .ref f_ontoDitch])), (f_fromLawn, .inl (cy 1, 20, .inl f_101)), (f_fromDitch, .inl (cy 1, 20, .inl f_23)), (f_ontoDitch, .inl (cy 1, 20, .inl f_25)), (h1, .inr (4, [.int g_wide, .int g_deep, .int g_count, .ref g_sorts])), (g_sorts, .inl (cy 1, 20, .inl g_sortsf))] H := hP
                    have hD : va_D A [(h0, .inr (2, [.ref f_fromLawn, .ref f_fromDitch, .ref f_ontoDitch])), (f_fromLawn, .inl (cy 1, 20, .inl f_101)), (f_fromDitch, .inl (cy 1, 20, .inl f_23)), (f_ontoDitch, .inl (cy 1, 20, .inl f_25)), (h1, .inr (4, [.int g_wide, .int g_deep, .int g_count, .ref g_sorts])), (g_sorts, .inl (cy 1, 20, .inl g_sortsf))] := hD
                    refine lv_bipush (v := -2) hx hb dX2_learn_137 (by decide) ?_
                    refine lv_icmp_eq (tgt := 154) hx hb dX2_learn_139 (by decide) (fun h_111 => ?_) (fun h_111 => ?_)
                    · have h_111 : r_108.toInt = (-2) := c_eq h_111
                      obtain ⟨x_112, ex_112⟩ : ∃ y : Int32, y = i_19 + 1 := ⟨_, rfl⟩
                      have tx_112 : x_112.toInt = i_19.toInt + 1 := ti_add (A := i_19.toInt) (B := 1) ex_112 rfl rfl (by omega) (by omega)
                      refine lv_iinc (v := x_112) (lv' := [(5, .int x_112), (8, .int 1), (7, .int 0), (6, .int r_30), (4, .int i_4), (0, .ref h0), (1, .ref h1), (2, .int p2), (3, .int p3)]) hx hb dX2_learn_154 hl (k := 3) rfl (by rw [ex_112]; rfl) (by decide) rfl (fun ls hl => ?_)
                      refine lv_goto (tgt := 39) hx hb dX2_learn_157 (by decide) ?_
                      exact ihlp_18 x_112 f_101 f_23 f_25 _ _ _ (by omega) bf_101 b_24 b_26 (show flJ g_wide.toInt g_count.toInt g_sortsf p2.toInt p3.toInt f_101 f_23 f_25 i_4.toInt x_112.toInt from (flJ_up (I := i_4) (T := r_30) (b := 0) b_27 (by omega) rfl (by omega) k_31_1 (Or.inl ⟨by omega, rfl⟩) ex_99 ex_100 ef_101 (Or.inr ⟨by omega, rfl⟩) (Or.inr ⟨by omega, rfl⟩) (by omega))) (show 5 - x_112.toInt ≤ (nlp_18 : Int) by omega) hP hD hS (lv_sub hl [0, 4, 5, 6, 7, 8] rfl)
                    · have h_111 : r_108.toInt ≠ (-2) := c_ne h_111
                      refine lv_aload_n hx hb dX2_learn_142 rfl (lv_at hl 5 rfl) ?_
                      refine r_get X kcX2 (ci := 2) rfl hP 0 rfl 2 (by decide) fX2_18 rfl dX2_learn_143 ?_
                      refine lv_iload hx hb dX2_learn_146 (lv_at hl 4 rfl) ?_
                      refine lv_dup2_11 hx hb dX2_learn_148 rfl rfl ?_
                      refine va_iald (D := (dC, dI)) (cl := vwCl) hx hb hK hP 3 1 rfl rfl (i := i_4) (vin (by omega) (by omega)) dX2_learn_149 ?_
                      refine lv_topi (fun x_113 ex_113 => ?_)
                      have bx_113 : 0 ≤ x_113.toInt ∧ x_113.toInt ≤ 1048575 := rb_at b_26 ex_113 (by omega) (by omega)
                      refine lv_iload hx hb dX2_learn_150 (lv_at hl 1 rfl) ?_
                      refine lv_ior hx hb dX2_learn_152 ?_
                      refine lv_topi (fun x_114 ex_114 => ?_)
                      have tx_114 : 0 ≤ x_114.toInt ∧ x_114.toInt ≤ 1048575 := ti_or20 ex_114 (by omega) (by omega) (by decide) (by decide)
                      refine va_iast (D := (dC, dI)) (cl := vwCl) hx hb hK hP hD hS 3 1 rfl rfl (i := i_4) (vin (by omega) (by omega)) dX2_learn_153 (fun H locs hP hD hS => ?_)
                      generalize ef_115 : upd f_25 (Int32.toNatClampNeg i_4) x_114 = f_115 at hP hD
                      have bf_115 : rb f_115 20 0 1048575 := by rw [← ef_115]; exact rb_upd b_26 (by omega) (by omega)
                      have hP : va_P (dC, dI) vwCl [(h0, .inr (2, [.ref f_fromLawn, .ref f_fromDitch, .ref f_ontoDitch])), (f_fromLawn, .inl (cy 1, 20, .inl f_101)), (f_fromDitch, .inl (cy 1, 20, .inl f_23)), (f_ontoDitch, .inl (cy 1, 20, .inl f_115)), (h1, .inr (4, [.int g_wide, .int g_deep, .int g_count, .ref g_sorts])), (g_sorts, .inl (cy 1, 20, .inl g_sortsf))] H := hP
                      have hD : va_D A [(h0, .inr (2, [.ref f_fromLawn, .ref f_fromDitch, .ref f_ontoDitch])), (f_fromLawn, .inl (cy 1, 20, .inl f_101)), (f_fromDitch, .inl (cy 1, 20, .inl f_23)), (f_ontoDitch, .inl (cy 1, 20, .inl f_115)), (h1, .inr (4, [.int g_wide, .int g_deep, .int g_count, .ref g_sorts])), (g_sorts, .inl (cy 1, 20, .inl g_sortsf))] := hD
                      obtain ⟨x_116, ex_116⟩ : ∃ y : Int32, y = i_19 + 1 := ⟨_, rfl⟩
                      have tx_116 : x_116.toInt = i_19.toInt + 1 := ti_add (A := i_19.toInt) (B := 1) ex_116 rfl rfl (by omega) (by omega)
                      refine lv_iinc (v := x_116) (lv' := [(5, .int x_116), (8, .int 1), (7, .int 0), (6, .int r_30), (4, .int i_4), (0, .ref h0), (1, .ref h1), (2, .int p2), (3, .int p3)]) hx hb dX2_learn_154 hl (k := 3) rfl (by rw [ex_116]; rfl) (by decide) rfl (fun ls hl => ?_)
                      refine lv_goto (tgt := 39) hx hb dX2_learn_157 (by decide) ?_
                      exact ihlp_18 x_116 f_101 f_23 f_115 _ _ _ (by omega) bf_101 b_24 bf_115 (show flJ g_wide.toInt g_count.toInt g_sortsf p2.toInt p3.toInt f_101 f_23 f_115 i_4.toInt x_116.toInt from (flJ_up (I := i_4) (T := r_30) (b := 0) b_27 (by omega) rfl (by omega) k_31_1 (Or.inl ⟨by omega, rfl⟩) ex_99 ex_100 ef_101 (Or.inr ⟨by omega, rfl⟩) (Or.inl ⟨by omega, _, _, ex_113, ex_114, ef_115⟩) (by omega))) (show 5 - x_116.toInt ≤ (nlp_18 : Int) by omega) hP hD hS (lv_sub hl [0, 4, 5, 6, 7, 8] rfl)
                  · have h_106 : p3.toInt = 0 := c_eq h_106
                    refine lv_iload_n hx hb dX2_learn_110 rfl (lv_at hl 6 rfl) ?_
                    refine lv_iload hx hb dX2_learn_111 (lv_at hl 2 rfl) ?_
                    refine fI (wr := [(h0, .inr (2, [.ref f_fromLawn, .ref f_fromDitch, .ref f_ontoDitch])), (f_fromLawn, .inl (cy 1, 20, .inl f_101)), (f_fromDitch, .inl (cy 1, 20, .inl f_23)), (f_ontoDitch, .inl (cy 1, 20, .inl f_25)), (h1, .inr (4, [.int g_wide, .int g_deep, .int g_count, .ref g_sorts])), (g_sorts, .inl (cy 1, 20, .inl g_sortsf))]) (rS_I (wc := []) (As := [.int p2, .int i_19]) (rest := []) X hp_st (fun _ _ _ h => h) (sX4_isFallOntoDitch l dC dI cy p2 i_19) kX4_isFallOntoDitch w_846 mX2_34 hP hD hS hA [] (by decide) rfl hl rfl rfl (Nat.le_of_ble_eq_true rfl) dX2_learn_113 ⟨(Nat.le_of_ble_eq_true rfl), (Nat.le_of_ble_eq_true rfl)⟩ ⟨(Nat.le_of_ble_eq_true rfl), (Nat.le_of_ble_eq_true rfl)⟩) hP hD hS hA [] [0, 1, 2, 3, 4, 5] rfl rfl (by decide) (by decide) (fun r_117 u_119 H locs k_118 hP hD hS => ?_)
                    have k_118 : (0 ≤ r_117.toInt ∧ r_117.toInt ≤ 1) ∧ ((r_117.toInt = 1 ∧ p2.toInt = 0 ∧ i_19.toInt = 2) ∨ (r_117.toInt = 0 ∧ (p2.toInt ≠ 0 ∨ i_19.toInt ≠ 2))) := k_118
                    obtain ⟨k_118_0, k_118_1⟩ := k_118
                    have hP : va_P (dC, dI) vwCl [(h0, .inr (2, [.ref f_fromLawn, .ref f_fromDitch, .ref f_ontoDitch])), (f_fromLawn, .inl (cy 1, 20, .inl f_101)), (f_fromDitch, .inl (cy 1, 20, .inl f_23)), (f_ontoDitch, .inl (cy 1, 20, .inl f_25)), (h1, .inr (4, [.int g_wide, .int g_deep, .int g_count, .ref g_sorts])), (g_sorts, .inl (cy 1, 20, .inl g_sortsf))] H := hP
                    have hD : va_D A [(h0, .inr (2, [.ref f_fromLawn, .ref f_fromDitch, .ref f_ontoDitch])), (f_fromLawn, .inl (cy 1, 20, .inl f_101)), (f_fromDitch, .inl (cy 1, 20, .inl f_23)), (f_ontoDitch, .inl (cy 1, 20, .inl f_25)), (h1, .inr (4, [.int g_wide, .int g_deep, .int g_count, .ref g_sorts])), (g_sorts, .inl (cy 1, 20, .inl g_sortsf))] := hD
                    refine lv_if_ne (tgt := 123) hx hb dX2_learn_116 (by decide) (fun h_120 => ?_) (fun h_120 => ?_)
                    · have h_120 : r_117.toInt ≠ 0 := c_ne h_120
                      refine lv_iconst (v := 0) hx hb dX2_learn_123 (by decide) ?_
                      refine lv_istore (lv' := [(8, .int 0), (7, .int 0), (6, .int r_30), (5, .int i_19), (4, .int i_4), (0, .ref h0), (1, .ref h1), (2, .int p2), (3, .int p3)]) hx hb dX2_learn_124 hl (by decide) rfl (fun ls hl => ?_)
                      refine lv_iload hx hb dX2_learn_126 (lv_at hl 0 rfl) ?_
                      refine lv_if_eq (tgt := 154) hx hb dX2_learn_128 (by decide) (fun _ => ?_) (fun h_121 => absurd (by decide) h_121)
                      obtain ⟨x_122, ex_122⟩ : ∃ y : Int32, y = i_19 + 1 := ⟨_, rfl⟩
                      have tx_122 : x_122.toInt = i_19.toInt + 1 := ti_add (A := i_19.toInt) (B := 1) ex_122 rfl rfl (by omega) (by omega)
                      refine lv_iinc (v := x_122) (lv' := [(5, .int x_122), (8, .int 0), (7, .int 0), (6, .int r_30), (4, .int i_4), (0, .ref h0), (1, .ref h1), (2, .int p2), (3, .int p3)]) hx hb dX2_learn_154 hl (k := 3) rfl (by rw [ex_122]; rfl) (by decide) rfl (fun ls hl => ?_)
                      refine lv_goto (tgt := 39) hx hb dX2_learn_157 (by decide) ?_
                      exact ihlp_18 x_122 f_101 f_23 f_25 _ _ _ (by omega) bf_101 b_24 b_26 (show flJ g_wide.toInt g_count.toInt g_sortsf p2.toInt p3.toInt f_101 f_23 f_25 i_4.toInt x_122.toInt from (flJ_up (I := i_4) (T := r_30) (b := 0) b_27 (by omega) rfl (by omega) k_31_1 (Or.inl ⟨by omega, rfl⟩) ex_99 ex_100 ef_101 (Or.inr ⟨by omega, rfl⟩) (Or.inr ⟨by omega, rfl⟩) (by omega))) (show 5 - x_122.toInt ≤ (nlp_18 : Int) by omega) hP hD hS (lv_sub hl [0, 4, 5, 6, 7, 8] rfl)
                    · have h_120 : r_117.toInt = 0 := c_eq h_120
                      refine lv_iconst (v := 1) hx hb dX2_learn_119 (by decide) ?_
                      refine lv_goto (tgt := 124) hx hb dX2_learn_120 (by decide) ?_
                      refine lv_istore (lv' := [(8, .int 1), (7, .int 0), (6, .int r_30), (5, .int i_19), (4, .int i_4), (0, .ref h0), (1, .ref h1), (2, .int p2), (3, .int p3)]) hx hb dX2_learn_124 hl (by decide) rfl (fun ls hl => ?_)
                      refine lv_iload hx hb dX2_learn_126 (lv_at hl 0 rfl) ?_
                      refine lv_if_eq (tgt := 154) hx hb dX2_learn_128 (by decide) (fun h_123 => absurd h_123 (by decide)) (fun _ => ?_)
                      refine lv_iload_n hx hb dX2_learn_131 rfl (lv_at hl 7 rfl) ?_
                      refine lv_iload hx hb dX2_learn_132 (lv_at hl 3 rfl) ?_
                      refine fI (wr := [(h0, .inr (2, [.ref f_fromLawn, .ref f_fromDitch, .ref f_ontoDitch])), (f_fromLawn, .inl (cy 1, 20, .inl f_101)), (f_fromDitch, .inl (cy 1, 20, .inl f_23)), (f_ontoDitch, .inl (cy 1, 20, .inl f_25)), (h1, .inr (4, [.int g_wide, .int g_deep, .int g_count, .ref g_sorts])), (g_sorts, .inl (cy 1, 20, .inl g_sortsf))]) (rS_I (wc := []) (As := [.int p2, .int i_19]) (rest := []) X hp_st (fun _ _ _ h => h) (sX4_timeOntoDitch l dC dI cy p2 i_19) kX4_timeOntoDitch w_832 mX2_38 hP hD hS hA [] (by decide) rfl hl rfl rfl (Nat.le_of_ble_eq_true rfl) dX2_learn_134 ⟨(Nat.le_of_ble_eq_true rfl), (Nat.le_of_ble_eq_true rfl)⟩ ⟨(Nat.le_of_ble_eq_true rfl), (Nat.le_of_ble_eq_true rfl)⟩) hP hD hS hA [] [0, 1, 2, 3, 4, 5] rfl rfl (by decide) (by decide) (fun r_124 u_126 H locs k_125 hP hD hS => ?_)
                      have k_125 : ((-2) ≤ r_124.toInt ∧ r_124.toInt ≤ 4) ∧ (r_124.toInt = oD p2.toInt i_19.toInt) := k_125
                      obtain ⟨k_125_0, k_125_1⟩ := k_125
                      have hP : va_P (dC, dI) vwCl [(h0, .inr (2, [.ref f_fromLawn, .ref f_fromDitch, .ref f_ontoDitch])), (f_fromLawn, .inl (cy 1, 20, .inl f_101)), (f_fromDitch, .inl (cy 1, 20, .inl f_23)), (f_ontoDitch, .inl (cy 1, 20, .inl f_25)), (h1, .inr (4, [.int g_wide, .int g_deep, .int g_count, .ref g_sorts])), (g_sorts, .inl (cy 1, 20, .inl g_sortsf))] H := hP
                      have hD : va_D A [(h0, .inr (2, [.ref f_fromLawn, .ref f_fromDitch, .ref f_ontoDitch])), (f_fromLawn, .inl (cy 1, 20, .inl f_101)), (f_fromDitch, .inl (cy 1, 20, .inl f_23)), (f_ontoDitch, .inl (cy 1, 20, .inl f_25)), (h1, .inr (4, [.int g_wide, .int g_deep, .int g_count, .ref g_sorts])), (g_sorts, .inl (cy 1, 20, .inl g_sortsf))] := hD
                      refine lv_bipush (v := -2) hx hb dX2_learn_137 (by decide) ?_
                      refine lv_icmp_eq (tgt := 154) hx hb dX2_learn_139 (by decide) (fun h_127 => ?_) (fun h_127 => ?_)
                      · have h_127 : r_124.toInt = (-2) := c_eq h_127
                        obtain ⟨x_128, ex_128⟩ : ∃ y : Int32, y = i_19 + 1 := ⟨_, rfl⟩
                        have tx_128 : x_128.toInt = i_19.toInt + 1 := ti_add (A := i_19.toInt) (B := 1) ex_128 rfl rfl (by omega) (by omega)
                        refine lv_iinc (v := x_128) (lv' := [(5, .int x_128), (8, .int 1), (7, .int 0), (6, .int r_30), (4, .int i_4), (0, .ref h0), (1, .ref h1), (2, .int p2), (3, .int p3)]) hx hb dX2_learn_154 hl (k := 3) rfl (by rw [ex_128]; rfl) (by decide) rfl (fun ls hl => ?_)
                        refine lv_goto (tgt := 39) hx hb dX2_learn_157 (by decide) ?_
                        exact ihlp_18 x_128 f_101 f_23 f_25 _ _ _ (by omega) bf_101 b_24 b_26 (show flJ g_wide.toInt g_count.toInt g_sortsf p2.toInt p3.toInt f_101 f_23 f_25 i_4.toInt x_128.toInt from (flJ_up (I := i_4) (T := r_30) (b := 0) b_27 (by omega) rfl (by omega) k_31_1 (Or.inl ⟨by omega, rfl⟩) ex_99 ex_100 ef_101 (Or.inr ⟨by omega, rfl⟩) (Or.inr ⟨by omega, rfl⟩) (by omega))) (show 5 - x_128.toInt ≤ (nlp_18 : Int) by omega) hP hD hS (lv_sub hl [0, 4, 5, 6, 7, 8] rfl)
                      · have h_127 : r_124.toInt ≠ (-2) := c_ne h_127
                        refine lv_aload_n hx hb dX2_learn_142 rfl (lv_at hl 5 rfl) ?_
                        refine r_get X kcX2 (ci := 2) rfl hP 0 rfl 2 (by decide) fX2_18 rfl dX2_learn_143 ?_
                        refine lv_iload hx hb dX2_learn_146 (lv_at hl 4 rfl) ?_
                        refine lv_dup2_11 hx hb dX2_learn_148 rfl rfl ?_
                        refine va_iald (D := (dC, dI)) (cl := vwCl) hx hb hK hP 3 1 rfl rfl (i := i_4) (vin (by omega) (by omega)) dX2_learn_149 ?_
                        refine lv_topi (fun x_129 ex_129 => ?_)
                        have bx_129 : 0 ≤ x_129.toInt ∧ x_129.toInt ≤ 1048575 := rb_at b_26 ex_129 (by omega) (by omega)
                        refine lv_iload hx hb dX2_learn_150 (lv_at hl 1 rfl) ?_
                        refine lv_ior hx hb dX2_learn_152 ?_
                        refine lv_topi (fun x_130 ex_130 => ?_)
                        have tx_130 : 0 ≤ x_130.toInt ∧ x_130.toInt ≤ 1048575 := ti_or20 ex_130 (by omega) (by omega) (by decide) (by decide)
                        refine va_iast (D := (dC, dI)) (cl := vwCl) hx hb hK hP hD hS 3 1 rfl rfl (i := i_4) (vin (by omega) (by omega)) dX2_learn_153 (fun H locs hP hD hS => ?_)
                        generalize ef_131 : upd f_25 (Int32.toNatClampNeg i_4) x_130 = f_131 at hP hD
                        have bf_131 : rb f_131 20 0 1048575 := by rw [← ef_131]; exact rb_upd b_26 (by omega) (by omega)
                        have hP : va_P (dC, dI) vwCl [(h0, .inr (2, [.ref f_fromLawn, .ref f_fromDitch, .ref f_ontoDitch])), (f_fromLawn, .inl (cy 1, 20, .inl f_101)), (f_fromDitch, .inl (cy 1, 20, .inl f_23)), (f_ontoDitch, .inl (cy 1, 20, .inl f_131)), (h1, .inr (4, [.int g_wide, .int g_deep, .int g_count, .ref g_sorts])), (g_sorts, .inl (cy 1, 20, .inl g_sortsf))] H := hP
                        have hD : va_D A [(h0, .inr (2, [.ref f_fromLawn, .ref f_fromDitch, .ref f_ontoDitch])), (f_fromLawn, .inl (cy 1, 20, .inl f_101)), (f_fromDitch, .inl (cy 1, 20, .inl f_23)), (f_ontoDitch, .inl (cy 1, 20, .inl f_131)), (h1, .inr (4, [.int g_wide, .int g_deep, .int g_count, .ref g_sorts])), (g_sorts, .inl (cy 1, 20, .inl g_sortsf))] := hD
                        obtain ⟨x_132, ex_132⟩ : ∃ y : Int32, y = i_19 + 1 := ⟨_, rfl⟩
                        have tx_132 : x_132.toInt = i_19.toInt + 1 := ti_add (A := i_19.toInt) (B := 1) ex_132 rfl rfl (by omega) (by omega)
                        refine lv_iinc (v := x_132) (lv' := [(5, .int x_132), (8, .int 1), (7, .int 0), (6, .int r_30), (4, .int i_4), (0, .ref h0), (1, .ref h1), (2, .int p2), (3, .int p3)]) hx hb dX2_learn_154 hl (k := 3) rfl (by rw [ex_132]; rfl) (by decide) rfl (fun ls hl => ?_)
                        refine lv_goto (tgt := 39) hx hb dX2_learn_157 (by decide) ?_
                        exact ihlp_18 x_132 f_101 f_23 f_131 _ _ _ (by omega) bf_101 b_24 bf_131 (show flJ g_wide.toInt g_count.toInt g_sortsf p2.toInt p3.toInt f_101 f_23 f_131 i_4.toInt x_132.toInt from (flJ_up (I := i_4) (T := r_30) (b := 0) b_27 (by omega) rfl (by omega) k_31_1 (Or.inl ⟨by omega, rfl⟩) ex_99 ex_100 ef_101 (Or.inr ⟨by omega, rfl⟩) (Or.inl ⟨by omega, _, _, ex_129, ex_130, ef_131⟩) (by omega))) (show 5 - x_132.toInt ≤ (nlp_18 : Int) by omega) hP hD hS (lv_sub hl [0, 4, 5, 6, 7, 8] rfl)
                · have h_105 : r_102.toInt ≠ (-2) := c_ne h_105
                  refine lv_aload_n hx hb dX2_learn_94 rfl (lv_at hl 4 rfl) ?_
                  refine r_get X kcX2 (ci := 2) rfl hP 0 rfl 1 (by decide) fX2_15 rfl dX2_learn_95 ?_
                  refine lv_iload hx hb dX2_learn_98 (lv_at hl 3 rfl) ?_
                  refine lv_dup2_11 hx hb dX2_learn_100 rfl rfl ?_
                  refine va_iald (D := (dC, dI)) (cl := vwCl) hx hb hK hP 2 1 rfl rfl (i := i_4) (vin (by omega) (by omega)) dX2_learn_101 ?_
                  refine lv_topi (fun x_133 ex_133 => ?_)
                  have bx_133 : 0 ≤ x_133.toInt ∧ x_133.toInt ≤ 1048575 := rb_at b_24 ex_133 (by omega) (by omega)
                  refine lv_iload hx hb dX2_learn_102 (lv_at hl 0 rfl) ?_
                  refine lv_ior hx hb dX2_learn_104 ?_
                  refine lv_topi (fun x_134 ex_134 => ?_)
                  have tx_134 : 0 ≤ x_134.toInt ∧ x_134.toInt ≤ 1048575 := ti_or20 ex_134 (by omega) (by omega) (by decide) (by decide)
                  refine va_iast (D := (dC, dI)) (cl := vwCl) hx hb hK hP hD hS 2 1 rfl rfl (i := i_4) (vin (by omega) (by omega)) dX2_learn_105 (fun H locs hP hD hS => ?_)
                  generalize ef_135 : upd f_23 (Int32.toNatClampNeg i_4) x_134 = f_135 at hP hD
                  have bf_135 : rb f_135 20 0 1048575 := by rw [← ef_135]; exact rb_upd b_24 (by omega) (by omega)
                  have hP : va_P (dC, dI) vwCl [(h0, .inr (2, [.ref f_fromLawn, .ref f_fromDitch, .ref f_ontoDitch])), (f_fromLawn, .inl (cy 1, 20, .inl f_101)), (f_fromDitch, .inl (cy 1, 20, .inl f_135)), (f_ontoDitch, .inl (cy 1, 20, .inl f_25)), (h1, .inr (4, [.int g_wide, .int g_deep, .int g_count, .ref g_sorts])), (g_sorts, .inl (cy 1, 20, .inl g_sortsf))] H := hP
                  have hD : va_D A [(h0, .inr (2, [.ref f_fromLawn, .ref f_fromDitch, .ref f_ontoDitch])), (f_fromLawn, .inl (cy 1, 20, .inl f_101)), (f_fromDitch, .inl (cy 1, 20, .inl f_135)), (f_ontoDitch, .inl (cy 1, 20, .inl f_25)), (h1, .inr (4, [.int g_wide, .int g_deep, .int g_count, .ref g_sorts])), (g_sorts, .inl (cy 1, 20, .inl g_sortsf))] := hD
                  refine lv_iload_n hx hb dX2_learn_106 rfl (lv_at hl 7 rfl) ?_
                  refine lv_if_ne (tgt := 119) hx hb dX2_learn_107 (by decide) (fun h_136 => ?_) (fun h_136 => ?_)
                  · have h_136 : p3.toInt ≠ 0 := c_ne h_136
                    refine lv_iconst (v := 1) hx hb dX2_learn_119 (by decide) ?_
                    refine lv_goto (tgt := 124) hx hb dX2_learn_120 (by decide) ?_
                    refine lv_istore (lv' := [(8, .int 1), (7, .int 0), (6, .int r_30), (5, .int i_19), (4, .int i_4), (0, .ref h0), (1, .ref h1), (2, .int p2), (3, .int p3)]) hx hb dX2_learn_124 hl (by decide) rfl (fun ls hl => ?_)
                    refine lv_iload hx hb dX2_learn_126 (lv_at hl 0 rfl) ?_
                    refine lv_if_eq (tgt := 154) hx hb dX2_learn_128 (by decide) (fun h_137 => absurd h_137 (by decide)) (fun _ => ?_)
                    refine lv_iload_n hx hb dX2_learn_131 rfl (lv_at hl 7 rfl) ?_
                    refine lv_iload hx hb dX2_learn_132 (lv_at hl 3 rfl) ?_
                    refine fI (wr := [(h0, .inr (2, [.ref f_fromLawn, .ref f_fromDitch, .ref f_ontoDitch])), (f_fromLawn, .inl (cy 1, 20, .inl f_101)), (f_fromDitch, .inl (cy 1, 20, .inl f_135)), (f_ontoDitch, .inl (cy 1, 20, .inl f_25)), (h1, .inr (4, [.int g_wide, .int g_deep, .int g_count, .ref g_sorts])), (g_sorts, .inl (cy 1, 20, .inl g_sortsf))]) (rS_I (wc := []) (As := [.int p2, .int i_19]) (rest := []) X hp_st (fun _ _ _ h => h) (sX4_timeOntoDitch l dC dI cy p2 i_19) kX4_timeOntoDitch w_832 mX2_38 hP hD hS hA [] (by decide) rfl hl rfl rfl (Nat.le_of_ble_eq_true rfl) dX2_learn_134 ⟨(Nat.le_of_ble_eq_true rfl), (Nat.le_of_ble_eq_true rfl)⟩ ⟨(Nat.le_of_ble_eq_true rfl), (Nat.le_of_ble_eq_true rfl)⟩) hP hD hS hA [] [0, 1, 2, 3, 4, 5] rfl rfl (by decide) (by decide) (fun r_138 u_140 H locs k_139 hP hD hS => ?_)
                    have k_139 : ((-2) ≤ r_138.toInt ∧ r_138.toInt ≤ 4) ∧ (r_138.toInt = oD p2.toInt i_19.toInt) := k_139
                    obtain ⟨k_139_0, k_139_1⟩ := k_139
                    have hP : va_P (dC, dI) vwCl [(h0, .inr (2, [.ref f_fromLawn, .ref f_fromDitch, .ref f_ontoDitch])), (f_fromLawn, .inl (cy 1, 20, .inl f_101)), (f_fromDitch, .inl (cy 1, 20, .inl f_135)), (f_ontoDitch, .inl (cy 1, 20, .inl f_25)), (h1, .inr (4, [.int g_wide, .int g_deep, .int g_count, .ref g_sorts])), (g_sorts, .inl (cy 1, 20, .inl g_sortsf))] H := hP
                    have hD : va_D A [(h0, .inr (2, [.ref f_fromLawn, .ref f_fromDitch, .ref f_ontoDitch])), (f_fromLawn, .inl (cy 1, 20, .inl f_101)), (f_fromDitch, .inl (cy 1, 20, .inl f_135)), (f_ontoDitch, .inl (cy 1, 20, .inl f_25)), (h1, .inr (4, [.int g_wide, .int g_deep, .int g_count, .ref g_sorts])), (g_sorts, .inl (cy 1, 20, .inl g_sortsf))] := hD
                    refine lv_bipush (v := -2) hx hb dX2_learn_137 (by decide) ?_
                    refine lv_icmp_eq (tgt := 154) hx hb dX2_learn_139 (by decide) (fun h_141 => ?_) (fun h_141 => ?_)
                    · have h_141 : r_138.toInt = (-2) := c_eq h_141
                      obtain ⟨x_142, ex_142⟩ : ∃ y : Int32, y = i_19 + 1 := ⟨_, rfl⟩
                      have tx_142 : x_142.toInt = i_19.toInt + 1 := ti_add (A := i_19.toInt) (B := 1) ex_142 rfl rfl (by omega) (by omega)
                      refine lv_iinc (v := x_142) (lv' := [(5, .int x_142), (8, .int 1), (7, .int 0), (6, .int r_30), (4, .int i_4), (0, .ref h0), (1, .ref h1), (2, .int p2), (3, .int p3)]) hx hb dX2_learn_154 hl (k := 3) rfl (by rw [ex_142]; rfl) (by decide) rfl (fun ls hl => ?_)
                      refine lv_goto (tgt := 39) hx hb dX2_learn_157 (by decide) ?_
                      exact ihlp_18 x_142 f_101 f_135 f_25 _ _ _ (by omega) bf_101 bf_135 b_26 (show flJ g_wide.toInt g_count.toInt g_sortsf p2.toInt p3.toInt f_101 f_135 f_25 i_4.toInt x_142.toInt from (flJ_up (I := i_4) (T := r_30) (b := 0) b_27 (by omega) rfl (by omega) k_31_1 (Or.inl ⟨by omega, rfl⟩) ex_99 ex_100 ef_101 (Or.inl ⟨by omega, _, _, ex_133, ex_134, ef_135⟩) (Or.inr ⟨by omega, rfl⟩) (by omega))) (show 5 - x_142.toInt ≤ (nlp_18 : Int) by omega) hP hD hS (lv_sub hl [0, 4, 5, 6, 7, 8] rfl)
                    · have h_141 : r_138.toInt ≠ (-2) := c_ne h_141
                      refine lv_aload_n hx hb dX2_learn_142 rfl (lv_at hl 5 rfl) ?_
                      refine r_get X kcX2 (ci := 2) rfl hP 0 rfl 2 (by decide) fX2_18 rfl dX2_learn_143 ?_
                      refine lv_iload hx hb dX2_learn_146 (lv_at hl 4 rfl) ?_
                      refine lv_dup2_11 hx hb dX2_learn_148 rfl rfl ?_
                      refine va_iald (D := (dC, dI)) (cl := vwCl) hx hb hK hP 3 1 rfl rfl (i := i_4) (vin (by omega) (by omega)) dX2_learn_149 ?_
                      refine lv_topi (fun x_143 ex_143 => ?_)
                      have bx_143 : 0 ≤ x_143.toInt ∧ x_143.toInt ≤ 1048575 := rb_at b_26 ex_143 (by omega) (by omega)
                      refine lv_iload hx hb dX2_learn_150 (lv_at hl 1 rfl) ?_
                      refine lv_ior hx hb dX2_learn_152 ?_
                      refine lv_topi (fun x_144 ex_144 => ?_)
                      have tx_144 : 0 ≤ x_144.toInt ∧ x_144.toInt ≤ 1048575 := ti_or20 ex_144 (by omega) (by omega) (by decide) (by decide)
                      refine va_iast (D := (dC, dI)) (cl := vwCl) hx hb hK hP hD hS 3 1 rfl rfl (i := i_4) (vin (by omega) (by omega)) dX2_learn_153 (fun H locs hP hD hS => ?_)
                      generalize ef_145 : upd f_25 (Int32.toNatClampNeg i_4) x_144 = f_145 at hP hD
                      have bf_145 : rb f_145 20 0 1048575 := by rw [← ef_145]; exact rb_upd b_26 (by omega) (by omega)
                      have hP : va_P (dC, dI) vwCl [(h0, .inr (2, [.ref f_fromLawn, .ref f_fromDitch, .ref f_ontoDitch])), (f_fromLawn, .inl (cy 1, 20, .inl f_101)), (f_fromDitch, .inl (cy 1, 20, .inl f_135)), (f_ontoDitch, .inl (cy 1, 20, .inl f_145)), (h1, .inr (4, [.int g_wide, .int g_deep, .int g_count, .ref g_sorts])), (g_sorts, .inl (cy 1, 20, .inl g_sortsf))] H := hP
                      have hD : va_D A [(h0, .inr (2, [.ref f_fromLawn, .ref f_fromDitch, .ref f_ontoDitch])), (f_fromLawn, .inl (cy 1, 20, .inl f_101)), (f_fromDitch, .inl (cy 1, 20, .inl f_135)), (f_ontoDitch, .inl (cy 1, 20, .inl f_145)), (h1, .inr (4, [.int g_wide, .int g_deep, .int g_count, .ref g_sorts])), (g_sorts, .inl (cy 1, 20, .inl g_sortsf))] := hD
                      obtain ⟨x_146, ex_146⟩ : ∃ y : Int32, y = i_19 + 1 := ⟨_, rfl⟩
                      have tx_146 : x_146.toInt = i_19.toInt + 1 := ti_add (A := i_19.toInt) (B := 1) ex_146 rfl rfl (by omega) (by omega)
                      refine lv_iinc (v := x_146) (lv' := [(5, .int x_146), (8, .int 1), (7, .int 0), (6, .int r_30), (4, .int i_4), (0, .ref h0), (1, .ref h1), (2, .int p2), (3, .int p3)]) hx hb dX2_learn_154 hl (k := 3) rfl (by rw [ex_146]; rfl) (by decide) rfl (fun ls hl => ?_)
                      refine lv_goto (tgt := 39) hx hb dX2_learn_157 (by decide) ?_
                      exact ihlp_18 x_146 f_101 f_135 f_145 _ _ _ (by omega) bf_101 bf_135 bf_145 (show flJ g_wide.toInt g_count.toInt g_sortsf p2.toInt p3.toInt f_101 f_135 f_145 i_4.toInt x_146.toInt from (flJ_up (I := i_4) (T := r_30) (b := 0) b_27 (by omega) rfl (by omega) k_31_1 (Or.inl ⟨by omega, rfl⟩) ex_99 ex_100 ef_101 (Or.inl ⟨by omega, _, _, ex_133, ex_134, ef_135⟩) (Or.inl ⟨by omega, _, _, ex_143, ex_144, ef_145⟩) (by omega))) (show 5 - x_146.toInt ≤ (nlp_18 : Int) by omega) hP hD hS (lv_sub hl [0, 4, 5, 6, 7, 8] rfl)
                  · have h_136 : p3.toInt = 0 := c_eq h_136
                    refine lv_iload_n hx hb dX2_learn_110 rfl (lv_at hl 6 rfl) ?_
                    refine lv_iload hx hb dX2_learn_111 (lv_at hl 2 rfl) ?_
                    refine fI (wr := [(h0, .inr (2, [.ref f_fromLawn, .ref f_fromDitch, .ref f_ontoDitch])), (f_fromLawn, .inl (cy 1, 20, .inl f_101)), (f_fromDitch, .inl (cy 1, 20, .inl f_135)), (f_ontoDitch, .inl (cy 1, 20, .inl f_25)), (h1, .inr (4, [.int g_wide, .int g_deep, .int g_count, .ref g_sorts])), (g_sorts, .inl (cy 1, 20, .inl g_sortsf))]) (rS_I (wc := []) (As := [.int p2, .int i_19]) (rest := []) X hp_st (fun _ _ _ h => h) (sX4_isFallOntoDitch l dC dI cy p2 i_19) kX4_isFallOntoDitch w_846 mX2_34 hP hD hS hA [] (by decide) rfl hl rfl rfl (Nat.le_of_ble_eq_true rfl) dX2_learn_113 ⟨(Nat.le_of_ble_eq_true rfl), (Nat.le_of_ble_eq_true rfl)⟩ ⟨(Nat.le_of_ble_eq_true rfl), (Nat.le_of_ble_eq_true rfl)⟩) hP hD hS hA [] [0, 1, 2, 3, 4, 5] rfl rfl (by decide) (by decide) (fun r_147 u_149 H locs k_148 hP hD hS => ?_)
                    have k_148 : (0 ≤ r_147.toInt ∧ r_147.toInt ≤ 1) ∧ ((r_147.toInt = 1 ∧ p2.toInt = 0 ∧ i_19.toInt = 2) ∨ (r_147.toInt = 0 ∧ (p2.toInt ≠ 0 ∨ i_19.toInt ≠ 2))) := k_148
                    obtain ⟨k_148_0, k_148_1⟩ := k_148
                    have hP : va_P (dC, dI) vwCl [(h0, .inr (2, [.ref f_fromLawn, .ref f_fromDitch, .ref f_ontoDitch])), (f_fromLawn, .inl (cy 1, 20, .inl f_101)), (f_fromDitch, .inl (cy 1, 20, .inl f_135)), (f_ontoDitch, .inl (cy 1, 20, .inl f_25)), (h1, .inr (4, [.int g_wide, .int g_deep, .int g_count, .ref g_sorts])), (g_sorts, .inl (cy 1, 20, .inl g_sortsf))] H := hP
                    have hD : va_D A [(h0, .inr (2, [.ref f_fromLawn, .ref f_fromDitch, .ref f_ontoDitch])), (f_fromLawn, .inl (cy 1, 20, .inl f_101)), (f_fromDitch, .inl (cy 1, 20, .inl f_135)), (f_ontoDitch, .inl (cy 1, 20, .inl f_25)), (h1, .inr (4, [.int g_wide, .int g_deep, .int g_count, .ref g_sorts])), (g_sorts, .inl (cy 1, 20, .inl g_sortsf))] := hD
                    refine lv_if_ne (tgt := 123) hx hb dX2_learn_116 (by decide) (fun h_150 => ?_) (fun h_150 => ?_)
                    · have h_150 : r_147.toInt ≠ 0 := c_ne h_150
                      refine lv_iconst (v := 0) hx hb dX2_learn_123 (by decide) ?_
                      refine lv_istore (lv' := [(8, .int 0), (7, .int 0), (6, .int r_30), (5, .int i_19), (4, .int i_4), (0, .ref h0), (1, .ref h1), (2, .int p2), (3, .int p3)]) hx hb dX2_learn_124 hl (by decide) rfl (fun ls hl => ?_)
                      refine lv_iload hx hb dX2_learn_126 (lv_at hl 0 rfl) ?_
                      refine lv_if_eq (tgt := 154) hx hb dX2_learn_128 (by decide) (fun _ => ?_) (fun h_151 => absurd (by decide) h_151)
                      obtain ⟨x_152, ex_152⟩ : ∃ y : Int32, y = i_19 + 1 := ⟨_, rfl⟩
                      have tx_152 : x_152.toInt = i_19.toInt + 1 := ti_add (A := i_19.toInt) (B := 1) ex_152 rfl rfl (by omega) (by omega)
                      refine lv_iinc (v := x_152) (lv' := [(5, .int x_152), (8, .int 0), (7, .int 0), (6, .int r_30), (4, .int i_4), (0, .ref h0), (1, .ref h1), (2, .int p2), (3, .int p3)]) hx hb dX2_learn_154 hl (k := 3) rfl (by rw [ex_152]; rfl) (by decide) rfl (fun ls hl => ?_)
                      refine lv_goto (tgt := 39) hx hb dX2_learn_157 (by decide) ?_
                      exact ihlp_18 x_152 f_101 f_135 f_25 _ _ _ (by omega) bf_101 bf_135 b_26 (show flJ g_wide.toInt g_count.toInt g_sortsf p2.toInt p3.toInt f_101 f_135 f_25 i_4.toInt x_152.toInt from (flJ_up (I := i_4) (T := r_30) (b := 0) b_27 (by omega) rfl (by omega) k_31_1 (Or.inl ⟨by omega, rfl⟩) ex_99 ex_100 ef_101 (Or.inl ⟨by omega, _, _, ex_133, ex_134, ef_135⟩) (Or.inr ⟨by omega, rfl⟩) (by omega))) (show 5 - x_152.toInt ≤ (nlp_18 : Int) by omega) hP hD hS (lv_sub hl [0, 4, 5, 6, 7, 8] rfl)
                    · have h_150 : r_147.toInt = 0 := c_eq h_150
                      refine lv_iconst (v := 1) hx hb dX2_learn_119 (by decide) ?_
                      refine lv_goto (tgt := 124) hx hb dX2_learn_120 (by decide) ?_
                      refine lv_istore (lv' := [(8, .int 1), (7, .int 0), (6, .int r_30), (5, .int i_19), (4, .int i_4), (0, .ref h0), (1, .ref h1), (2, .int p2), (3, .int p3)]) hx hb dX2_learn_124 hl (by decide) rfl (fun ls hl => ?_)
                      refine lv_iload hx hb dX2_learn_126 (lv_at hl 0 rfl) ?_
                      refine lv_if_eq (tgt := 154) hx hb dX2_learn_128 (by decide) (fun h_153 => absurd h_153 (by decide)) (fun _ => ?_)
                      refine lv_iload_n hx hb dX2_learn_131 rfl (lv_at hl 7 rfl) ?_
                      refine lv_iload hx hb dX2_learn_132 (lv_at hl 3 rfl) ?_
                      refine fI (wr := [(h0, .inr (2, [.ref f_fromLawn, .ref f_fromDitch, .ref f_ontoDitch])), (f_fromLawn, .inl (cy 1, 20, .inl f_101)), (f_fromDitch, .inl (cy 1, 20, .inl f_135)), (f_ontoDitch, .inl (cy 1, 20, .inl f_25)), (h1, .inr (4, [.int g_wide, .int g_deep, .int g_count, .ref g_sorts])), (g_sorts, .inl (cy 1, 20, .inl g_sortsf))]) (rS_I (wc := []) (As := [.int p2, .int i_19]) (rest := []) X hp_st (fun _ _ _ h => h) (sX4_timeOntoDitch l dC dI cy p2 i_19) kX4_timeOntoDitch w_832 mX2_38 hP hD hS hA [] (by decide) rfl hl rfl rfl (Nat.le_of_ble_eq_true rfl) dX2_learn_134 ⟨(Nat.le_of_ble_eq_true rfl), (Nat.le_of_ble_eq_true rfl)⟩ ⟨(Nat.le_of_ble_eq_true rfl), (Nat.le_of_ble_eq_true rfl)⟩) hP hD hS hA [] [0, 1, 2, 3, 4, 5] rfl rfl (by decide) (by decide) (fun r_154 u_156 H locs k_155 hP hD hS => ?_)
                      have k_155 : ((-2) ≤ r_154.toInt ∧ r_154.toInt ≤ 4) ∧ (r_154.toInt = oD p2.toInt i_19.toInt) := k_155
                      obtain ⟨k_155_0, k_155_1⟩ := k_155
                      have hP : va_P (dC, dI) vwCl [(h0, .inr (2, [.ref f_fromLawn, .ref f_fromDitch, .ref f_ontoDitch])), (f_fromLawn, .inl (cy 1, 20, .inl f_101)), (f_fromDitch, .inl (cy 1, 20, .inl f_135)), (f_ontoDitch, .inl (cy 1, 20, .inl f_25)), (h1, .inr (4, [.int g_wide, .int g_deep, .int g_count, .ref g_sorts])), (g_sorts, .inl (cy 1, 20, .inl g_sortsf))] H := hP
                      have hD : va_D A [(h0, .inr (2, [.ref f_fromLawn, .ref f_fromDitch, .ref f_ontoDitch])), (f_fromLawn, .inl (cy 1, 20, .inl f_101)), (f_fromDitch, .inl (cy 1, 20, .inl f_135)), (f_ontoDitch, .inl (cy 1, 20, .inl f_25)), (h1, .inr (4, [.int g_wide, .int g_deep, .int g_count, .ref g_sorts])), (g_sorts, .inl (cy 1, 20, .inl g_sortsf))] := hD
                      refine lv_bipush (v := -2) hx hb dX2_learn_137 (by decide) ?_
                      refine lv_icmp_eq (tgt := 154) hx hb dX2_learn_139 (by decide) (fun h_157 => ?_) (fun h_157 => ?_)
                      · have h_157 : r_154.toInt = (-2) := c_eq h_157
                        obtain ⟨x_158, ex_158⟩ : ∃ y : Int32, y = i_19 + 1 := ⟨_, rfl⟩
                        have tx_158 : x_158.toInt = i_19.toInt + 1 := ti_add (A := i_19.toInt) (B := 1) ex_158 rfl rfl (by omega) (by omega)
                        refine lv_iinc (v := x_158) (lv' := [(5, .int x_158), (8, .int 1), (7, .int 0), (6, .int r_30), (4, .int i_4), (0, .ref h0), (1, .ref h1), (2, .int p2), (3, .int p3)]) hx hb dX2_learn_154 hl (k := 3) rfl (by rw [ex_158]; rfl) (by decide) rfl (fun ls hl => ?_)
                        refine lv_goto (tgt := 39) hx hb dX2_learn_157 (by decide) ?_
                        exact ihlp_18 x_158 f_101 f_135 f_25 _ _ _ (by omega) bf_101 bf_135 b_26 (show flJ g_wide.toInt g_count.toInt g_sortsf p2.toInt p3.toInt f_101 f_135 f_25 i_4.toInt x_158.toInt from (flJ_up (I := i_4) (T := r_30) (b := 0) b_27 (by omega) rfl (by omega) k_31_1 (Or.inl ⟨by omega, rfl⟩) ex_99 ex_100 ef_101 (Or.inl ⟨by omega, _, _, ex_133, ex_134, ef_135⟩) (Or.inr ⟨by omega, rfl⟩) (by omega))) (show 5 - x_158.toInt ≤ (nlp_18 : Int) by omega) hP hD hS (lv_sub hl [0, 4, 5, 6, 7, 8] rfl)
                      · have h_157 : r_154.toInt ≠ (-2) := c_ne h_157
                        refine lv_aload_n hx hb dX2_learn_142 rfl (lv_at hl 5 rfl) ?_
                        refine r_get X kcX2 (ci := 2) rfl hP 0 rfl 2 (by decide) fX2_18 rfl dX2_learn_143 ?_
                        refine lv_iload hx hb dX2_learn_146 (lv_at hl 4 rfl) ?_
                        refine lv_dup2_11 hx hb dX2_learn_148 rfl rfl ?_
                        refine va_iald (D := (dC, dI)) (cl := vwCl) hx hb hK hP 3 1 rfl rfl (i := i_4) (vin (by omega) (by omega)) dX2_learn_149 ?_
                        refine lv_topi (fun x_159 ex_159 => ?_)
                        have bx_159 : 0 ≤ x_159.toInt ∧ x_159.toInt ≤ 1048575 := rb_at b_26 ex_159 (by omega) (by omega)
                        refine lv_iload hx hb dX2_learn_150 (lv_at hl 1 rfl) ?_
                        refine lv_ior hx hb dX2_learn_152 ?_
                        refine lv_topi (fun x_160 ex_160 => ?_)
                        have tx_160 : 0 ≤ x_160.toInt ∧ x_160.toInt ≤ 1048575 := ti_or20 ex_160 (by omega) (by omega) (by decide) (by decide)
                        refine va_iast (D := (dC, dI)) (cl := vwCl) hx hb hK hP hD hS 3 1 rfl rfl (i := i_4) (vin (by omega) (by omega)) dX2_learn_153 (fun H locs hP hD hS => ?_)
                        generalize ef_161 : upd f_25 (Int32.toNatClampNeg i_4) x_160 = f_161 at hP hD
                        have bf_161 : rb f_161 20 0 1048575 := by rw [← ef_161]; exact rb_upd b_26 (by omega) (by omega)
                        have hP : va_P (dC, dI) vwCl [(h0, .inr (2, [.ref f_fromLawn, .ref f_fromDitch, .ref f_ontoDitch])), (f_fromLawn, .inl (cy 1, 20, .inl f_101)), (f_fromDitch, .inl (cy 1, 20, .inl f_135)), (f_ontoDitch, .inl (cy 1, 20, .inl f_161)), (h1, .inr (4, [.int g_wide, .int g_deep, .int g_count, .ref g_sorts])), (g_sorts, .inl (cy 1, 20, .inl g_sortsf))] H := hP
                        have hD : va_D A [(h0, .inr (2, [.ref f_fromLawn, .ref f_fromDitch, .ref f_ontoDitch])), (f_fromLawn, .inl (cy 1, 20, .inl f_101)), (f_fromDitch, .inl (cy 1, 20, .inl f_135)), (f_ontoDitch, .inl (cy 1, 20, .inl f_161)), (h1, .inr (4, [.int g_wide, .int g_deep, .int g_count, .ref g_sorts])), (g_sorts, .inl (cy 1, 20, .inl g_sortsf))] := hD
                        obtain ⟨x_162, ex_162⟩ : ∃ y : Int32, y = i_19 + 1 := ⟨_, rfl⟩
                        have tx_162 : x_162.toInt = i_19.toInt + 1 := ti_add (A := i_19.toInt) (B := 1) ex_162 rfl rfl (by omega) (by omega)
                        refine lv_iinc (v := x_162) (lv' := [(5, .int x_162), (8, .int 1), (7, .int 0), (6, .int r_30), (4, .int i_4), (0, .ref h0), (1, .ref h1), (2, .int p2), (3, .int p3)]) hx hb dX2_learn_154 hl (k := 3) rfl (by rw [ex_162]; rfl) (by decide) rfl (fun ls hl => ?_)
                        refine lv_goto (tgt := 39) hx hb dX2_learn_157 (by decide) ?_
                        exact ihlp_18 x_162 f_101 f_135 f_161 _ _ _ (by omega) bf_101 bf_135 bf_161 (show flJ g_wide.toInt g_count.toInt g_sortsf p2.toInt p3.toInt f_101 f_135 f_161 i_4.toInt x_162.toInt from (flJ_up (I := i_4) (T := r_30) (b := 0) b_27 (by omega) rfl (by omega) k_31_1 (Or.inl ⟨by omega, rfl⟩) ex_99 ex_100 ef_101 (Or.inl ⟨by omega, _, _, ex_133, ex_134, ef_135⟩) (Or.inl ⟨by omega, _, _, ex_159, ex_160, ef_161⟩) (by omega))) (show 5 - x_162.toInt ≤ (nlp_18 : Int) by omega) hP hD hS (lv_sub hl [0, 4, 5, 6, 7, 8] rfl)
        exact lp_18 5 0 f_15 f_16 f_17 _ _ _ (by decide) bf_15 bf_16 bf_17 (show flJ g_wide.toInt g_count.toInt g_sortsf p2.toInt p3.toInt f_15 f_16 f_17 i_4.toInt 0 from (flJ_0 (I := i_4) b_12 (by omega) rfl ef_15 ef_16 ef_17 (by decide))) (show 5 - 0 ≤ ((5 : Nat) : Int) by omega) hP hD hS hl
  exact lp_3 21 0 f_fromLawnf f_fromDitchf f_ontoDitchf _ _ _ (by decide) hf_fromLawnf hf_fromDitchf hf_ontoDitchf (show flQ g_wide.toInt g_count.toInt g_sortsf p2.toInt p3.toInt f_fromLawnf f_fromDitchf f_ontoDitchf 0 from (flQ_0 (by decide))) (show 0 ≤ g_count.toInt by omega) (show 21 - 0 ≤ ((21 : Nat) : Int) by omega) hP hD hS hl
set_option maxHeartbeats 4000000 in
set_option maxRecDepth 100000 in
theorem sX2_spread (l : Launch) (dC : Nat → ClassId) (dI : Nat → Nat → Nat) (cy : Nat → ClassId) (h0 : Nat) (f_fromLawn : Nat) (f_fromDitch : Nat) (f_ontoDitch : Nat) (f_fromLawnf : Nat → Int32) (f_fromDitchf : Nat → Int32) (f_ontoDitchf : Nat → Int32) (p1 : Int32) (p2 : Int32) (p3 : Int32) (hf_fromLawnf : rb f_fromLawnf 20 0 1048575) (hf_fromDitchf : rb f_fromDitchf 20 0 1048575) (hf_ontoDitchf : rb f_ontoDitchf 20 0 1048575) (hp1 : 0 ≤ p1.toInt ∧ p1.toInt ≤ 19) : ctI l dC dI cy hp yX2_spread cX2_spread 11 .int ({ frames := 1, cells := 0, slots := 0, locals := 20 } : Room) [.ref h0, .int p1, .int p2, .int p3] [(h0, .inr (2, [.ref f_fromLawn, .ref f_fromDitch, .ref f_ontoDitch])), (f_fromLawn, .inl (cy 1, 20, .inl f_fromLawnf)), (f_fromDitch, .inl (cy 1, 20, .inl f_fromDitchf)), (f_ontoDitch, .inl (cy 1, 20, .inl f_ontoDitchf))] (S := Unit) (fun r _ => (0 ≤ r.toInt ∧ r.toInt ≤ 1048575) ∧ (spQ f_fromLawnf f_fromDitchf f_ontoDitchf p2 p3 p1.toInt.toNat r)) (fun _ => [(h0, .inr (2, [.ref f_fromLawn, .ref f_fromDitch, .ref f_ontoDitch])), (f_fromLawn, .inl (cy 1, 20, .inl f_fromLawnf)), (f_fromDitch, .inl (cy 1, 20, .inl f_fromDitchf)), (f_ontoDitch, .inl (cy 1, 20, .inl f_ontoDitchf))]) := by
  refine ctI.of (by decide +kernel) (Nat.le_of_ble_eq_true rfl) ?_
  intro p e s m args below meth c A ls Q hQ X hr hlocks hin hA hP hD hS hl
  have hx := X.1
  have hb := X.2.1
  have hK := X.2.2.2.2.2.1
  have hl : lv_has ls 11 [(0, .ref h0), (1, .int p1), (2, .int p2), (3, .int p3)] := hl
  have dy_1 := ti_bd p2
  have dy_2 := ti_bd p3
  refine lv_iconst (v := 1) hx hb dX2_spread_0 (by decide) ?_
  refine lv_iload_n hx hb dX2_spread_1 rfl (lv_at hl 1 rfl) ?_
  refine lv_ishl hx hb dX2_spread_2 ?_
  refine lv_topi (fun x_3 ex_3 => ?_)
  have tx_3 : 0 ≤ x_3.toInt ∧ x_3.toInt ≤ 1048575 := ti_shl1 ex_3 (by omega) (by omega)
  refine lv_istore (lv' := [(4, .int x_3), (0, .ref h0), (1, .int p1), (2, .int p2), (3, .int p3)]) hx hb dX2_spread_3 hl (by decide) rfl (fun ls hl => ?_)
  refine lv_iload hx hb dX2_spread_5 (lv_at hl 0 rfl) ?_
  refine lv_istore (lv' := [(5, .int x_3), (4, .int x_3), (0, .ref h0), (1, .int p1), (2, .int p2), (3, .int p3)]) hx hb dX2_spread_7 hl (by decide) rfl (fun ls hl => ?_)
  refine lv_iconst (v := 0) hx hb dX2_spread_9 (by decide) ?_
  refine lv_istore (lv' := [(6, .int 0), (5, .int x_3), (4, .int x_3), (0, .ref h0), (1, .int p1), (2, .int p2), (3, .int p3)]) hx hb dX2_spread_10 hl (by decide) rfl (fun ls hl => ?_)
  have lp_4 : ∀ (nlp_4 : Nat) (i_5 : Int32) (i_7 : Int32) (i_9 : Int32) (H : Heap) (locs : List Loc) (ls : Array Slot), (0 ≤ i_5.toInt ∧ i_5.toInt ≤ 20) → (0 ≤ i_7.toInt ∧ i_7.toInt ≤ 1048575) → (0 ≤ i_9.toInt ∧ i_9.toInt ≤ 1048575) → (spI f_fromLawnf f_fromDitchf f_ontoDitchf p2 p3 p1.toInt.toNat i_9 i_7 i_5.toInt) → (21 - i_5.toInt ≤ (nlp_4 : Int)) → va_P (dC, dI) vwCl [(h0, .inr (2, [.ref f_fromLawn, .ref f_fromDitch, .ref f_ontoDitch])), (f_fromLawn, .inl (cy 1, 20, .inl f_fromLawnf)), (f_fromDitch, .inl (cy 1, 20, .inl f_fromDitchf)), (f_ontoDitch, .inl (cy 1, 20, .inl f_ontoDitchf))] H → va_D A [(h0, .inr (2, [.ref f_fromLawn, .ref f_fromDitch, .ref f_ontoDitch])), (f_fromLawn, .inl (cy 1, 20, .inl f_fromLawnf)), (f_fromDitch, .inl (cy 1, 20, .inl f_fromDitchf)), (f_ontoDitch, .inl (cy 1, 20, .inl f_ontoDitchf))] → va_S A s.heap H locs → lv_has ls 11 [(6, .int i_5), (5, .int i_7), (4, .int i_9), (0, .ref h0), (1, .int p1), (2, .int p2), (3, .int p3)] → W p l e ({ frames := 1, cells := 0, slots := 0, locals := 20 } : Room) s m args below meth c H locs 0 0 Q (F0 m 12 ls []) := by
    intro nlp_4
    induction nlp_4 with
    | zero =>
      intro i_5 i_7 i_9 H locs ls b_6 b_8 b_10 b_11 hmlp_4 hP hD hS hl
      exfalso
      have di_5 := ti_bd i_5
      have di_7 := ti_bd i_7
      have di_9 := ti_bd i_9
      omega
    | succ nlp_4 ihlp_4 =>
      intro i_5 i_7 i_9 H locs ls b_6 b_8 b_10 b_11 hmlp_4 hP hD hS hl
      refine lv_iload hx hb dX2_spread_12 (lv_at hl 0 rfl) ?_
      refine lv_bipush (v := 20) hx hb dX2_spread_14 (by decide) ?_
      refine lv_icmp_ge (tgt := 119) hx hb dX2_spread_16 (by decide) (fun h_12 => ?_) (fun h_12 => ?_)
      · have h_12 : 20 ≤ i_5.toInt := c_le h_12
        refine lv_iload hx hb dX2_spread_119 (lv_at hl 2 rfl) ?_
        exact eI hQ X hr hlocks hP hD hS () [0, 1, 2, 3] (by decide) rfl rfl (show (0 ≤ i_9.toInt ∧ i_9.toInt ≤ 1048575) ∧ (spQ f_fromLawnf f_fromDitchf f_ontoDitchf p2 p3 p1.toInt.toNat i_9) from ⟨b_10, (spQ_of b_11 (by omega) (by omega))⟩) (Nat.le_of_ble_eq_true rfl) (Nat.le_of_ble_eq_true rfl) dX2_spread_121
      · have h_12 : i_5.toInt < 20 := c_nle h_12
        refine lv_iload hx hb dX2_spread_19 (lv_at hl 1 rfl) ?_
        refine lv_if_eq (tgt := 119) hx hb dX2_spread_21 (by decide) (fun h_13 => ?_) (fun h_13 => ?_)
        · have h_13 : i_7.toInt = 0 := c_eq h_13
          refine lv_iload hx hb dX2_spread_119 (lv_at hl 2 rfl) ?_
          exact eI hQ X hr hlocks hP hD hS () [0, 1, 2, 3] (by decide) rfl rfl (show (0 ≤ i_9.toInt ∧ i_9.toInt ≤ 1048575) ∧ (spQ f_fromLawnf f_fromDitchf f_ontoDitchf p2 p3 p1.toInt.toNat i_9) from ⟨b_10, (spQ_of b_11 (by omega) (by omega))⟩) (Nat.le_of_ble_eq_true rfl) (Nat.le_of_ble_eq_true rfl) dX2_spread_121
        · have h_13 : i_7.toInt ≠ 0 := c_ne h_13
          refine lv_iload hx hb dX2_spread_24 (lv_at hl 1 rfl) ?_
          refine lv_iload hx hb dX2_spread_26 (lv_at hl 1 rfl) ?_
          refine lv_ineg hx hb dX2_spread_28 ?_
          refine lv_topi (fun x_14 ex_14 => ?_)
          refine lv_iand hx hb dX2_spread_29 ?_
          have dy_15 := ti_bd x_14
          refine lv_topi (fun x_16 ex_16 => ?_)
          have tx_16 : 0 ≤ x_16.toInt ∧ x_16.toInt ≤ i_7.toInt := ti_andl ex_16 (by omega)
          refine lv_istore (lv' := [(7, .int x_16), (6, .int i_5), (5, .int i_7), (4, .int i_9), (0, .ref h0), (1, .int p1), (2, .int p2), (3, .int p3)]) hx hb dX2_spread_30 hl (by decide) rfl (fun ls hl => ?_)
          refine lv_iload hx hb dX2_spread_32 (lv_at hl 0 rfl) ?_
          refine lv_iconst (v := 1) hx hb dX2_spread_34 (by decide) ?_
          refine lv_isub hx hb dX2_spread_35 ?_
          refine lv_topi (fun x_17 ex_17 => ?_)
          have tx_17 : x_17.toInt = x_16.toInt - 1 := ti_sub (A := x_16.toInt) (B := 1) ex_17 rfl rfl (by omega) (by omega)
          refine fI (wr := [(h0, .inr (2, [.ref f_fromLawn, .ref f_fromDitch, .ref f_ontoDitch])), (f_fromLawn, .inl (cy 1, 20, .inl f_fromLawnf)), (f_fromDitch, .inl (cy 1, 20, .inl f_fromDitchf)), (f_ontoDitch, .inl (cy 1, 20, .inl f_ontoDitchf))]) (rS_I (wc := []) (As := [.int x_17]) (rest := []) X hp_st (fun _ _ _ h => h) (sJ6_bitCount l dC dI cy x_17) kJ6_bitCount_0f7a4 w_943 mX2_41 hP hD hS hA [] (by decide) rfl hl rfl rfl (Nat.le_of_ble_eq_true rfl) dX2_spread_36 ⟨(Nat.le_of_ble_eq_true rfl), (Nat.le_of_ble_eq_true rfl)⟩ ⟨(Nat.le_of_ble_eq_true rfl), (Nat.le_of_ble_eq_true rfl)⟩) hP hD hS hA [] [0, 1, 2, 3] rfl rfl (by decide) (by decide) (fun r_18 u_20 H locs k_19 hP hD hS => ?_)
          have k_19 : (r_18 = bcF x_17) := k_19
          have hP : va_P (dC, dI) vwCl [(h0, .inr (2, [.ref f_fromLawn, .ref f_fromDitch, .ref f_ontoDitch])), (f_fromLawn, .inl (cy 1, 20, .inl f_fromLawnf)), (f_fromDitch, .inl (cy 1, 20, .inl f_fromDitchf)), (f_ontoDitch, .inl (cy 1, 20, .inl f_ontoDitchf))] H := hP
          have hD : va_D A [(h0, .inr (2, [.ref f_fromLawn, .ref f_fromDitch, .ref f_ontoDitch])), (f_fromLawn, .inl (cy 1, 20, .inl f_fromLawnf)), (f_fromDitch, .inl (cy 1, 20, .inl f_fromDitchf)), (f_ontoDitch, .inl (cy 1, 20, .inl f_ontoDitchf))] := hD
          have tr_18 : 0 ≤ r_18.toInt ∧ r_18.toInt ≤ 19 := bc_low ex_14 ex_16 ex_17 k_19 (by omega) (by omega)
          refine lv_istore (lv' := [(8, .int r_18), (7, .int x_16), (6, .int i_5), (5, .int i_7), (4, .int i_9), (0, .ref h0), (1, .int p1), (2, .int p2), (3, .int p3)]) hx hb dX2_spread_39 hl (by decide) rfl (fun ls hl => ?_)
          refine lv_iload_n hx hb dX2_spread_41 rfl (lv_at hl 7 rfl) ?_
          refine lv_iload hx hb dX2_spread_42 (lv_at hl 1 rfl) ?_
          refine lv_iand hx hb dX2_spread_44 ?_
          refine lv_topi (fun x_21 ex_21 => ?_)
          have tx_21 : 0 ≤ x_21.toInt ∧ x_21.toInt ≤ x_16.toInt := ti_andr ex_21 (by omega)
          refine lv_if_ne (tgt := 58) hx hb dX2_spread_45 (by decide) (fun h_22 => ?_) (fun h_22 => ?_)
          · have h_22 : x_21.toInt ≠ 0 := c_ne h_22
            refine lv_aload_n hx hb dX2_spread_58 rfl (lv_at hl 5 rfl) ?_
            refine r_get X kcX2 (ci := 2) rfl hP 0 rfl 1 (by decide) fX2_15 rfl dX2_spread_59 ?_
            refine lv_iload hx hb dX2_spread_62 (lv_at hl 0 rfl) ?_
            refine va_iald (D := (dC, dI)) (cl := vwCl) hx hb hK hP 2 1 rfl rfl (i := r_18) (vin (by omega) (by omega)) dX2_spread_64 ?_
            refine lv_topi (fun x_23 ex_23 => ?_)
            have bx_23 : 0 ≤ x_23.toInt ∧ x_23.toInt ≤ 1048575 := rb_at hf_fromDitchf ex_23 (by omega) (by omega)
            refine lv_iload_n hx hb dX2_spread_65 rfl (lv_at hl 7 rfl) ?_
            refine lv_iconst (v := -1) hx hb dX2_spread_66 (by decide) ?_
            refine lv_ixor hx hb dX2_spread_67 ?_
            refine lv_topi (fun x_24 ex_24 => ?_)
            refine lv_iand hx hb dX2_spread_68 ?_
            have dy_25 := ti_bd x_24
            refine lv_topi (fun x_26 ex_26 => ?_)
            have tx_26 : 0 ≤ x_26.toInt ∧ x_26.toInt ≤ x_23.toInt := ti_andl ex_26 (by omega)
            refine lv_aload_n hx hb dX2_spread_69 rfl (lv_at hl 5 rfl) ?_
            refine r_get X kcX2 (ci := 2) rfl hP 0 rfl 2 (by decide) fX2_18 rfl dX2_spread_70 ?_
            refine lv_iload hx hb dX2_spread_73 (lv_at hl 0 rfl) ?_
            refine va_iald (D := (dC, dI)) (cl := vwCl) hx hb hK hP 3 1 rfl rfl (i := r_18) (vin (by omega) (by omega)) dX2_spread_75 ?_
            refine lv_topi (fun x_27 ex_27 => ?_)
            have bx_27 : 0 ≤ x_27.toInt ∧ x_27.toInt ≤ 1048575 := rb_at hf_ontoDitchf ex_27 (by omega) (by omega)
            refine lv_iload_n hx hb dX2_spread_76 rfl (lv_at hl 7 rfl) ?_
            refine lv_iand hx hb dX2_spread_77 ?_
            refine lv_topi (fun x_28 ex_28 => ?_)
            have tx_28 : 0 ≤ x_28.toInt ∧ x_28.toInt ≤ x_27.toInt := ti_andl ex_28 (by omega)
            refine lv_ior hx hb dX2_spread_78 ?_
            refine lv_topi (fun x_29 ex_29 => ?_)
            have tx_29 : 0 ≤ x_29.toInt ∧ x_29.toInt ≤ 1048575 := ti_or20 ex_29 (by omega) (by omega) (by omega) (by omega)
            refine lv_istore (lv' := [(9, .int x_29), (8, .int r_18), (7, .int x_16), (6, .int i_5), (5, .int i_7), (4, .int i_9), (0, .ref h0), (1, .int p1), (2, .int p2), (3, .int p3)]) hx hb dX2_spread_79 hl (by decide) rfl (fun ls hl => ?_)
            refine lv_iload hx hb dX2_spread_81 (lv_at hl 0 rfl) ?_
            refine lv_iload hx hb dX2_spread_83 (lv_at hl 5 rfl) ?_
            refine lv_iconst (v := -1) hx hb dX2_spread_85 (by decide) ?_
            refine lv_ixor hx hb dX2_spread_86 ?_
            refine lv_topi (fun x_30 ex_30 => ?_)
            refine lv_iand hx hb dX2_spread_87 ?_
            have dy_31 := ti_bd x_30
            refine lv_topi (fun x_32 ex_32 => ?_)
            have tx_32 : 0 ≤ x_32.toInt ∧ x_32.toInt ≤ x_29.toInt := ti_andl ex_32 (by omega)
            refine lv_iload_n hx hb dX2_spread_88 rfl (lv_at hl 9 rfl) ?_
            refine lv_iconst (v := -1) hx hb dX2_spread_89 (by decide) ?_
            refine lv_ixor hx hb dX2_spread_90 ?_
            refine lv_topi (fun x_33 ex_33 => ?_)
            refine lv_iand hx hb dX2_spread_91 ?_
            have dy_34 := ti_bd x_33
            refine lv_topi (fun x_35 ex_35 => ?_)
            have tx_35 : 0 ≤ x_35.toInt ∧ x_35.toInt ≤ x_32.toInt := ti_andl ex_35 (by omega)
            refine lv_istore (lv' := [(10, .int x_35), (9, .int x_29), (8, .int r_18), (7, .int x_16), (6, .int i_5), (5, .int i_7), (4, .int i_9), (0, .ref h0), (1, .int p1), (2, .int p2), (3, .int p3)]) hx hb dX2_spread_92 hl (by decide) rfl (fun ls hl => ?_)
            refine lv_iload hx hb dX2_spread_94 (lv_at hl 6 rfl) ?_
            refine lv_iload hx hb dX2_spread_96 (lv_at hl 0 rfl) ?_
            refine lv_ior hx hb dX2_spread_98 ?_
            refine lv_topi (fun x_36 ex_36 => ?_)
            have tx_36 : 0 ≤ x_36.toInt ∧ x_36.toInt ≤ 1048575 := ti_or20 ex_36 (by omega) (by omega) (by omega) (by omega)
            refine lv_istore (lv' := [(4, .int x_36), (10, .int x_35), (9, .int x_29), (8, .int r_18), (7, .int x_16), (6, .int i_5), (5, .int i_7), (0, .ref h0), (1, .int p1), (2, .int p2), (3, .int p3)]) hx hb dX2_spread_99 hl (by decide) rfl (fun ls hl => ?_)
            refine lv_iload hx hb dX2_spread_101 (lv_at hl 6 rfl) ?_
            refine lv_iload hx hb dX2_spread_103 (lv_at hl 4 rfl) ?_
            refine lv_iconst (v := -1) hx hb dX2_spread_105 (by decide) ?_
            refine lv_ixor hx hb dX2_spread_106 ?_
            refine lv_topi (fun x_37 ex_37 => ?_)
            refine lv_iand hx hb dX2_spread_107 ?_
            have dy_38 := ti_bd x_37
            refine lv_topi (fun x_39 ex_39 => ?_)
            have tx_39 : 0 ≤ x_39.toInt ∧ x_39.toInt ≤ i_7.toInt := ti_andl ex_39 (by omega)
            refine lv_iload hx hb dX2_spread_108 (lv_at hl 1 rfl) ?_
            refine lv_ior hx hb dX2_spread_110 ?_
            refine lv_topi (fun x_40 ex_40 => ?_)
            have tx_40 : 0 ≤ x_40.toInt ∧ x_40.toInt ≤ 1048575 := ti_or20 ex_40 (by omega) (by omega) (by omega) (by omega)
            refine lv_istore (lv' := [(5, .int x_40), (4, .int x_36), (10, .int x_35), (9, .int x_29), (8, .int r_18), (7, .int x_16), (6, .int i_5), (0, .ref h0), (1, .int p1), (2, .int p2), (3, .int p3)]) hx hb dX2_spread_111 hl (by decide) rfl (fun ls hl => ?_)
            obtain ⟨x_41, ex_41⟩ : ∃ y : Int32, y = i_5 + 1 := ⟨_, rfl⟩
            have tx_41 : x_41.toInt = i_5.toInt + 1 := ti_add (A := i_5.toInt) (B := 1) ex_41 rfl rfl (by omega) (by omega)
            refine lv_iinc (v := x_41) (lv' := [(6, .int x_41), (5, .int x_40), (4, .int x_36), (10, .int x_35), (9, .int x_29), (8, .int r_18), (7, .int x_16), (0, .ref h0), (1, .int p1), (2, .int p2), (3, .int p3)]) hx hb dX2_spread_113 hl (k := 6) rfl (by rw [ex_41]; rfl) (by decide) rfl (fun ls hl => ?_)
            refine lv_goto (tgt := 12) hx hb dX2_spread_116 (by decide) ?_
            exact ihlp_4 x_41 x_40 x_36 _ _ _ (by omega) (by omega) (by omega) (show spI f_fromLawnf f_fromDitchf f_ontoDitchf p2 p3 p1.toInt.toNat x_36 x_40 x_41.toInt from (spI_up b_11 (by omega) (by omega) (by omega) ex_14 ex_16 ex_17 k_19 ex_21 (Or.inr ⟨(by omega), ex_23⟩) ex_24 ex_26 ex_27 ex_28 ex_29 ex_30 ex_32 ex_33 ex_35 ex_36 ex_37 ex_39 ex_40 (by omega))) (show 21 - x_41.toInt ≤ (nlp_4 : Int) by omega) hP hD hS (lv_sub hl [0, 1, 2, 7, 8, 9, 10] rfl)
          · have h_22 : x_21.toInt = 0 := c_eq h_22
            refine lv_aload_n hx hb dX2_spread_48 rfl (lv_at hl 5 rfl) ?_
            refine r_get X kcX2 (ci := 2) rfl hP 0 rfl 0 (by decide) fX2_9 rfl dX2_spread_49 ?_
            refine lv_iload hx hb dX2_spread_52 (lv_at hl 0 rfl) ?_
            refine va_iald (D := (dC, dI)) (cl := vwCl) hx hb hK hP 1 1 rfl rfl (i := r_18) (vin (by omega) (by omega)) dX2_spread_54 ?_
            refine lv_topi (fun x_42 ex_42 => ?_)
            have bx_42 : 0 ≤ x_42.toInt ∧ x_42.toInt ≤ 1048575 := rb_at hf_fromLawnf ex_42 (by omega) (by omega)
            refine lv_goto (tgt := 65) hx hb dX2_spread_55 (by decide) ?_
            refine lv_iload_n hx hb dX2_spread_65 rfl (lv_at hl 7 rfl) ?_
            refine lv_iconst (v := -1) hx hb dX2_spread_66 (by decide) ?_
            refine lv_ixor hx hb dX2_spread_67 ?_
            refine lv_topi (fun x_43 ex_43 => ?_)
            refine lv_iand hx hb dX2_spread_68 ?_
            have dy_44 := ti_bd x_43
            refine lv_topi (fun x_45 ex_45 => ?_)
            have tx_45 : 0 ≤ x_45.toInt ∧ x_45.toInt ≤ x_42.toInt := ti_andl ex_45 (by omega)
            refine lv_aload_n hx hb dX2_spread_69 rfl (lv_at hl 5 rfl) ?_
            refine r_get X kcX2 (ci := 2) rfl hP 0 rfl 2 (by decide) fX2_18 rfl dX2_spread_70 ?_
            refine lv_iload hx hb dX2_spread_73 (lv_at hl 0 rfl) ?_
            refine va_iald (D := (dC, dI)) (cl := vwCl) hx hb hK hP 3 1 rfl rfl (i := r_18) (vin (by omega) (by omega)) dX2_spread_75 ?_
            refine lv_topi (fun x_46 ex_46 => ?_)
            have bx_46 : 0 ≤ x_46.toInt ∧ x_46.toInt ≤ 1048575 := rb_at hf_ontoDitchf ex_46 (by omega) (by omega)
            refine lv_iload_n hx hb dX2_spread_76 rfl (lv_at hl 7 rfl) ?_
            refine lv_iand hx hb dX2_spread_77 ?_
            refine lv_topi (fun x_47 ex_47 => ?_)
            have tx_47 : 0 ≤ x_47.toInt ∧ x_47.toInt ≤ x_46.toInt := ti_andl ex_47 (by omega)
            refine lv_ior hx hb dX2_spread_78 ?_
            refine lv_topi (fun x_48 ex_48 => ?_)
            have tx_48 : 0 ≤ x_48.toInt ∧ x_48.toInt ≤ 1048575 := ti_or20 ex_48 (by omega) (by omega) (by omega) (by omega)
            refine lv_istore (lv' := [(9, .int x_48), (8, .int r_18), (7, .int x_16), (6, .int i_5), (5, .int i_7), (4, .int i_9), (0, .ref h0), (1, .int p1), (2, .int p2), (3, .int p3)]) hx hb dX2_spread_79 hl (by decide) rfl (fun ls hl => ?_)
            refine lv_iload hx hb dX2_spread_81 (lv_at hl 0 rfl) ?_
            refine lv_iload hx hb dX2_spread_83 (lv_at hl 5 rfl) ?_
            refine lv_iconst (v := -1) hx hb dX2_spread_85 (by decide) ?_
            refine lv_ixor hx hb dX2_spread_86 ?_
            refine lv_topi (fun x_49 ex_49 => ?_)
            refine lv_iand hx hb dX2_spread_87 ?_
            have dy_50 := ti_bd x_49
            refine lv_topi (fun x_51 ex_51 => ?_)
            have tx_51 : 0 ≤ x_51.toInt ∧ x_51.toInt ≤ x_48.toInt := ti_andl ex_51 (by omega)
            refine lv_iload_n hx hb dX2_spread_88 rfl (lv_at hl 9 rfl) ?_
            refine lv_iconst (v := -1) hx hb dX2_spread_89 (by decide) ?_
            refine lv_ixor hx hb dX2_spread_90 ?_
            refine lv_topi (fun x_52 ex_52 => ?_)
            refine lv_iand hx hb dX2_spread_91 ?_
            have dy_53 := ti_bd x_52
            refine lv_topi (fun x_54 ex_54 => ?_)
            have tx_54 : 0 ≤ x_54.toInt ∧ x_54.toInt ≤ x_51.toInt := ti_andl ex_54 (by omega)
            refine lv_istore (lv' := [(10, .int x_54), (9, .int x_48), (8, .int r_18), (7, .int x_16), (6, .int i_5), (5, .int i_7), (4, .int i_9), (0, .ref h0), (1, .int p1), (2, .int p2), (3, .int p3)]) hx hb dX2_spread_92 hl (by decide) rfl (fun ls hl => ?_)
            refine lv_iload hx hb dX2_spread_94 (lv_at hl 6 rfl) ?_
            refine lv_iload hx hb dX2_spread_96 (lv_at hl 0 rfl) ?_
            refine lv_ior hx hb dX2_spread_98 ?_
            refine lv_topi (fun x_55 ex_55 => ?_)
            have tx_55 : 0 ≤ x_55.toInt ∧ x_55.toInt ≤ 1048575 := ti_or20 ex_55 (by omega) (by omega) (by omega) (by omega)
            refine lv_istore (lv' := [(4, .int x_55), (10, .int x_54), (9, .int x_48), (8, .int r_18), (7, .int x_16), (6, .int i_5), (5, .int i_7), (0, .ref h0), (1, .int p1), (2, .int p2), (3, .int p3)]) hx hb dX2_spread_99 hl (by decide) rfl (fun ls hl => ?_)
            refine lv_iload hx hb dX2_spread_101 (lv_at hl 6 rfl) ?_
            refine lv_iload hx hb dX2_spread_103 (lv_at hl 4 rfl) ?_
            refine lv_iconst (v := -1) hx hb dX2_spread_105 (by decide) ?_
            refine lv_ixor hx hb dX2_spread_106 ?_
            refine lv_topi (fun x_56 ex_56 => ?_)
            refine lv_iand hx hb dX2_spread_107 ?_
            have dy_57 := ti_bd x_56
            refine lv_topi (fun x_58 ex_58 => ?_)
            have tx_58 : 0 ≤ x_58.toInt ∧ x_58.toInt ≤ i_7.toInt := ti_andl ex_58 (by omega)
            refine lv_iload hx hb dX2_spread_108 (lv_at hl 1 rfl) ?_
            refine lv_ior hx hb dX2_spread_110 ?_
            refine lv_topi (fun x_59 ex_59 => ?_)
            have tx_59 : 0 ≤ x_59.toInt ∧ x_59.toInt ≤ 1048575 := ti_or20 ex_59 (by omega) (by omega) (by omega) (by omega)
            refine lv_istore (lv' := [(5, .int x_59), (4, .int x_55), (10, .int x_54), (9, .int x_48), (8, .int r_18), (7, .int x_16), (6, .int i_5), (0, .ref h0), (1, .int p1), (2, .int p2), (3, .int p3)]) hx hb dX2_spread_111 hl (by decide) rfl (fun ls hl => ?_)
            obtain ⟨x_60, ex_60⟩ : ∃ y : Int32, y = i_5 + 1 := ⟨_, rfl⟩
            have tx_60 : x_60.toInt = i_5.toInt + 1 := ti_add (A := i_5.toInt) (B := 1) ex_60 rfl rfl (by omega) (by omega)
            refine lv_iinc (v := x_60) (lv' := [(6, .int x_60), (5, .int x_59), (4, .int x_55), (10, .int x_54), (9, .int x_48), (8, .int r_18), (7, .int x_16), (0, .ref h0), (1, .int p1), (2, .int p2), (3, .int p3)]) hx hb dX2_spread_113 hl (k := 6) rfl (by rw [ex_60]; rfl) (by decide) rfl (fun ls hl => ?_)
            refine lv_goto (tgt := 12) hx hb dX2_spread_116 (by decide) ?_
            exact ihlp_4 x_60 x_59 x_55 _ _ _ (by omega) (by omega) (by omega) (show spI f_fromLawnf f_fromDitchf f_ontoDitchf p2 p3 p1.toInt.toNat x_55 x_59 x_60.toInt from (spI_up b_11 (by omega) (by omega) (by omega) ex_14 ex_16 ex_17 k_19 ex_21 (Or.inl ⟨(by omega), ex_42⟩) ex_43 ex_45 ex_46 ex_47 ex_48 ex_49 ex_51 ex_52 ex_54 ex_55 ex_56 ex_58 ex_59 (by omega))) (show 21 - x_60.toInt ≤ (nlp_4 : Int) by omega) hP hD hS (lv_sub hl [0, 1, 2, 7, 8, 9, 10] rfl)
  exact lp_4 21 0 x_3 x_3 _ _ _ (by decide) (by omega) (by omega) (show spI f_fromLawnf f_fromDitchf f_ontoDitchf p2 p3 p1.toInt.toNat x_3 x_3 0 from (spI_0 ex_3 (by omega) (by omega) (by decide))) (show 21 - 0 ≤ ((21 : Nat) : Int) by omega) hP hD hS hl
set_option maxHeartbeats 4000000 in
set_option maxRecDepth 100000 in
theorem sX2_comesTo (l : Launch) (dC : Nat → ClassId) (dI : Nat → Nat → Nat) (cy : Nat → ClassId) (h0 : Nat) (f_fromLawn : Nat) (f_fromDitch : Nat) (f_ontoDitch : Nat) (f_fromLawnf : Nat → Int32) (f_fromDitchf : Nat → Int32) (f_ontoDitchf : Nat → Int32) (p1 : Int32) (p2 : Int32) (p3 : Int32) (p4 : Int32) (hf_fromLawnf : rb f_fromLawnf 20 0 1048575) (hf_fromDitchf : rb f_fromDitchf 20 0 1048575) (hf_ontoDitchf : rb f_ontoDitchf 20 0 1048575) (hp1 : 0 ≤ p1.toInt ∧ p1.toInt ≤ 19) : ctI l dC dI cy hp yX2_comesTo cX2_comesTo 5 .boolean ({ frames := 2, cells := 0, slots := 0, locals := 50 } : Room) [.ref h0, .int p1, .int p2, .int p3, .int p4] [(h0, .inr (2, [.ref f_fromLawn, .ref f_fromDitch, .ref f_ontoDitch])), (f_fromLawn, .inl (cy 1, 20, .inl f_fromLawnf)), (f_fromDitch, .inl (cy 1, 20, .inl f_fromDitchf)), (f_ontoDitch, .inl (cy 1, 20, .inl f_ontoDitchf))] (S := Unit) (fun r _ => (0 ≤ r.toInt ∧ r.toInt ≤ 1) ∧ (cmQ f_fromLawnf f_fromDitchf f_ontoDitchf p3 p4 p1.toInt.toNat p2.toInt r.toInt)) (fun _ => [(h0, .inr (2, [.ref f_fromLawn, .ref f_fromDitch, .ref f_ontoDitch])), (f_fromLawn, .inl (cy 1, 20, .inl f_fromLawnf)), (f_fromDitch, .inl (cy 1, 20, .inl f_fromDitchf)), (f_ontoDitch, .inl (cy 1, 20, .inl f_ontoDitchf))]) := by
  refine ctI.of (by decide +kernel) (Nat.le_of_ble_eq_true rfl) ?_
  intro p e s m args below meth c A ls Q hQ X hr hlocks hin hA hP hD hS hl
  have hx := X.1
  have hb := X.2.1
  have hK := X.2.2.2.2.2.1
  have hl : lv_has ls 5 [(0, .ref h0), (1, .int p1), (2, .int p2), (3, .int p3), (4, .int p4)] := hl
  have dy_1 := ti_bd p2
  have dy_2 := ti_bd p3
  have dy_3 := ti_bd p4
  refine lv_aload_n hx hb dX2_comesTo_0 rfl (lv_at hl 0 rfl) ?_
  refine lv_iload_n hx hb dX2_comesTo_1 rfl (lv_at hl 1 rfl) ?_
  refine lv_iload_n hx hb dX2_comesTo_2 rfl (lv_at hl 3 rfl) ?_
  refine lv_iload hx hb dX2_comesTo_3 (lv_at hl 4 rfl) ?_
  refine fI (wr := []) (rV_I (wc := [(h0, .inr (2, [.ref f_fromLawn, .ref f_fromDitch, .ref f_ontoDitch])), (f_fromLawn, .inl (cy 1, 20, .inl f_fromLawnf)), (f_fromDitch, .inl (cy 1, 20, .inl f_fromDitchf)), (f_ontoDitch, .inl (cy 1, 20, .inl f_ontoDitchf))]) (As := [.int p1, .int p3, .int p4]) (rest := []) X hp_st (fun _ _ _ h => h) (sX2_spread l dC dI cy h0 f_fromLawn f_fromDitch f_ontoDitch f_fromLawnf f_fromDitchf f_ontoDitchf p1 p3 p4 hf_fromLawnf hf_fromDitchf hf_ontoDitchf hp1) kX2_spread vX2_spread mX2_47 hP hD hS hA [0, 1, 2, 3] (by decide) rfl 0 (ci := 2) rfl rfl rfl hl rfl rfl (Nat.le_of_ble_eq_true rfl) dX2_comesTo_5 ⟨(Nat.le_of_ble_eq_true rfl), (Nat.le_of_ble_eq_true rfl)⟩ ⟨(Nat.le_of_ble_eq_true rfl), (Nat.le_of_ble_eq_true rfl)⟩) hP hD hS hA [0, 1, 2, 3] [] rfl rfl (by decide) (by decide) (fun r_4 u_6 H locs k_5 hP hD hS => ?_)
  have k_5 : (0 ≤ r_4.toInt ∧ r_4.toInt ≤ 1048575) ∧ (spQ f_fromLawnf f_fromDitchf f_ontoDitchf p3 p4 p1.toInt.toNat r_4) := k_5
  obtain ⟨k_5_0, k_5_1⟩ := k_5
  have hP : va_P (dC, dI) vwCl [(h0, .inr (2, [.ref f_fromLawn, .ref f_fromDitch, .ref f_ontoDitch])), (f_fromLawn, .inl (cy 1, 20, .inl f_fromLawnf)), (f_fromDitch, .inl (cy 1, 20, .inl f_fromDitchf)), (f_ontoDitch, .inl (cy 1, 20, .inl f_ontoDitchf))] H := hP
  have hD : va_D A [(h0, .inr (2, [.ref f_fromLawn, .ref f_fromDitch, .ref f_ontoDitch])), (f_fromLawn, .inl (cy 1, 20, .inl f_fromLawnf)), (f_fromDitch, .inl (cy 1, 20, .inl f_fromDitchf)), (f_ontoDitch, .inl (cy 1, 20, .inl f_ontoDitchf))] := hD
  refine lv_iload_n hx hb dX2_comesTo_8 rfl (lv_at hl 2 rfl) ?_
  refine lv_ishr hx hb dX2_comesTo_9 ?_
  refine lv_topi (fun x_7 ex_7 => ?_)
  refine lv_iconst (v := 1) hx hb dX2_comesTo_10 (by decide) ?_
  refine lv_iand hx hb dX2_comesTo_11 ?_
  have dy_8 := ti_bd x_7
  refine lv_topi (fun x_9 ex_9 => ?_)
  have tx_9 : x_9.toInt = 0 ∨ x_9.toInt = 1 := ti_and1 ex_9
  refine lv_iconst (v := 1) hx hb dX2_comesTo_12 (by decide) ?_
  refine lv_icmp_ne (tgt := 20) hx hb dX2_comesTo_13 (by decide) (fun h_10 => ?_) (fun h_10 => ?_)
  · have h_10 : x_9.toInt ≠ 1 := c_ne h_10
    refine lv_iconst (v := 0) hx hb dX2_comesTo_20 (by decide) ?_
    exact eI hQ X hr hlocks hP hD hS () [0, 1, 2, 3] (by decide) rfl rfl (show (0 ≤ (0 : Int32).toInt ∧ (0 : Int32).toInt ≤ 1) ∧ (cmQ f_fromLawnf f_fromDitchf f_ontoDitchf p3 p4 p1.toInt.toNat p2.toInt (0 : Int32).toInt) from ⟨(by first | omega | decide | (refine ⟨by decide, ?_⟩; omega) | (have h9_0 : (0 : Int32).toInt = 0 := (by decide); omega)), (cmQ_of k_5_1 ex_7 ex_9 (Or.inr ⟨by omega, by decide⟩))⟩) (Nat.le_of_ble_eq_true rfl) (Nat.le_of_ble_eq_true rfl) dX2_comesTo_21
  · have h_10 : x_9.toInt = 1 := c_eq h_10
    refine lv_iconst (v := 1) hx hb dX2_comesTo_16 (by decide) ?_
    refine lv_goto (tgt := 21) hx hb dX2_comesTo_17 (by decide) ?_
    exact eI hQ X hr hlocks hP hD hS () [0, 1, 2, 3] (by decide) rfl rfl (show (0 ≤ (1 : Int32).toInt ∧ (1 : Int32).toInt ≤ 1) ∧ (cmQ f_fromLawnf f_fromDitchf f_ontoDitchf p3 p4 p1.toInt.toNat p2.toInt (1 : Int32).toInt) from ⟨(by first | omega | decide | (refine ⟨by decide, ?_⟩; omega) | (have h9_0 : (1 : Int32).toInt = 1 := (by decide); omega)), (cmQ_of k_5_1 ex_7 ex_9 (Or.inl ⟨by omega, by decide⟩))⟩) (Nat.le_of_ble_eq_true rfl) (Nat.le_of_ble_eq_true rfl) dX2_comesTo_21
