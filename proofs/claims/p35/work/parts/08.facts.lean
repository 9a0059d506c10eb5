theorem c_lt {a b : Int32} (h : a < b) : a.toInt < b.toInt := Int32.lt_iff_toInt_lt.mp h
theorem c_nlt {a b : Int32} (h : ¬ a < b) : b.toInt ≤ a.toInt := Int.not_lt.mp (fun q => h (Int32.lt_iff_toInt_lt.mpr q))
theorem c_le {a b : Int32} (h : a ≤ b) : a.toInt ≤ b.toInt := Int32.le_iff_toInt_le.mp h
theorem c_nle {a b : Int32} (h : ¬ a ≤ b) : b.toInt < a.toInt := Int.not_le.mp (fun q => h (Int32.le_iff_toInt_le.mpr q))
theorem c_eq {a b : Int32} (h : a = b) : a.toInt = b.toInt := congrArg Int32.toInt h
theorem c_ne {a b : Int32} (h : ¬ a = b) : a.toInt ≠ b.toInt := fun q => h (Int32.toInt_inj.mp q)
theorem ti_bd (a : Int32) : -2147483648 ≤ a.toInt ∧ a.toInt ≤ 2147483647 := ⟨Int32.le_toInt a, by have := Int32.toInt_lt a; omega⟩
theorem bm_id {z : Int} (h1 : -2147483648 ≤ z) (h2 : z ≤ 2147483647) : z.bmod (2 ^ 32) = z := by
  rw [Int.bmod_def]
  split <;> omega
theorem ti_add {a b x : Int32} {A B : Int} (e : x = a + b) (ha : a.toInt = A) (hb : b.toInt = B) (h1 : -2147483648 ≤ A + B) (h2 : A + B ≤ 2147483647) : x.toInt = A + B := by
  subst ha; subst hb; rw [e, Int32.toInt_add]; exact bm_id h1 h2
theorem ti_sub {a b x : Int32} {A B : Int} (e : x = a - b) (ha : a.toInt = A) (hb : b.toInt = B) (h1 : -2147483648 ≤ A - B) (h2 : A - B ≤ 2147483647) : x.toInt = A - B := by
  subst ha; subst hb; rw [e, Int32.toInt_sub]; exact bm_id h1 h2
theorem ti_mul {a b x : Int32} (e : x = a * b) (h1 : -2147483648 ≤ a.toInt * b.toInt) (h2 : a.toInt * b.toInt ≤ 2147483647) : x.toInt = a.toInt * b.toInt := by
  rw [e, Int32.toInt_mul]; exact bm_id h1 h2
theorem ti_mulk {a b x : Int32} {A B : Int} (e : x = a * b) (ha : a.toInt = A) (hb : b.toInt = B) (h1 : -2147483648 ≤ A * B) (h2 : A * B ≤ 2147483647) : x.toInt = A * B := by
  subst ha; subst hb; exact ti_mul e h1 h2
theorem vin {i : Int32} {n : Nat} (h0 : 0 ≤ i.toInt) (h1 : i.toInt < n) : vp_in i n := by
  intro h
  rcases h with h | h
  · have := c_lt h
    rw [Int32.toInt_zero] at this
    omega
  · have e : (i.toNatClampNeg : Int) = i.toInt := by
      rw [show i.toNatClampNeg = i.toInt.toNat from rfl]; omega
    omega
theorem cl_lt {i : Int32} {n : Nat} (h0 : 0 ≤ i.toInt) (h1 : i.toInt < n) : i.toNatClampNeg < n := by
  rw [show i.toNatClampNeg = i.toInt.toNat from rfl]; omega
/-- all entries of a row within bounds -/
def rb (f : Nat → Int32) (n : Nat) (lo hi : Int) : Prop := ∀ k, k < n → lo ≤ (f k).toInt ∧ (f k).toInt ≤ hi
theorem rb_upd {f : Nat → Int32} {n : Nat} {lo hi : Int} (h : rb f n lo hi) {j : Nat} {v : Int32} (h1 : lo ≤ v.toInt) (h2 : v.toInt ≤ hi) : rb (upd f j v) n lo hi := by
  intro k hk
  unfold upd
  split
  · exact ⟨h1, h2⟩
  · exact h k hk
theorem rb_at {f : Nat → Int32} {n : Nat} {lo hi : Int} (h : rb f n lo hi) {i : Int32} {x : Int32} (e : x = f i.toNatClampNeg) (h0 : 0 ≤ i.toInt) (h1 : i.toInt < n) : lo ≤ x.toInt ∧ x.toInt ≤ hi := by
  rw [e]; exact h _ (cl_lt h0 h1)
theorem ti_divb {a b x : Int32} (e : x = a / b) (ha : 0 ≤ a.toInt) (hb : 0 < b.toInt) : 0 ≤ x.toInt ∧ x.toInt ≤ a.toInt ∧ x.toInt = a.toInt / b.toInt := by
  have hb0 := ti_bd a
  have h : x.toInt = (a.toInt.tdiv b.toInt).bmod (2 ^ 32) := by rw [e, Int32.toInt_div]
  have h1 : a.toInt.tdiv b.toInt = a.toInt / b.toInt := Int.tdiv_eq_ediv_of_nonneg ha
  have h2 : 0 ≤ a.toInt / b.toInt := Int.ediv_nonneg ha (by omega)
  have h3 : a.toInt / b.toInt ≤ a.toInt := Int.ediv_le_self _ ha
  rw [h, h1, bm_id (by omega) (by omega)]
  exact ⟨h2, h3, rfl⟩
theorem ti_rem {a b x : Int32} (e : x = a - a / b * b) (ha : 0 ≤ a.toInt) (hb : 0 < b.toInt) : 0 ≤ x.toInt ∧ x.toInt < b.toInt ∧ x.toInt ≤ a.toInt ∧ x.toInt = a.toInt % b.toInt := by
  have hb0 := ti_bd a
  obtain ⟨h1, h2, h3⟩ := ti_divb (x := a / b) rfl ha hb
  have h4 : a.toInt / b.toInt * b.toInt ≤ a.toInt := Int.ediv_mul_le _ (by omega)
  have h5 : 0 ≤ a.toInt / b.toInt * b.toInt := Int.mul_nonneg (by omega) (by omega)
  have h6 : (a / b * b).toInt = a.toInt / b.toInt * b.toInt := ti_mulk (A := a.toInt / b.toInt) (B := b.toInt) rfl h3 rfl (by omega) (by omega)
  have h7 : x.toInt = a.toInt - a.toInt / b.toInt * b.toInt := ti_sub (A := a.toInt) (B := a.toInt / b.toInt * b.toInt) e rfl h6 (by omega) (by omega)
  have h8 : a.toInt - a.toInt / b.toInt * b.toInt = a.toInt % b.toInt := by rw [Int.emod_def, Int.mul_comm]
  have h9 := Int.emod_lt_of_pos a.toInt hb
  have h10 := Int.emod_nonneg a.toInt (show b.toInt ≠ 0 by omega)
  omega
theorem ti_max {a b x : Int32} (e : x = if a < b then b else a) : a.toInt ≤ x.toInt ∧ b.toInt ≤ x.toInt ∧ (x.toInt = a.toInt ∨ x.toInt = b.toInt) := by
  subst e; split
  · rename_i h; have := c_lt h; omega
  · rename_i h; have := c_nlt h; omega
theorem ti_min {a b x : Int32} (e : x = if b < a then b else a) : x.toInt ≤ a.toInt ∧ x.toInt ≤ b.toInt ∧ (x.toInt = a.toInt ∨ x.toInt = b.toInt) := by
  subst e; split
  · rename_i h; have := c_lt h; omega
  · rename_i h; have := c_nlt h; omega
theorem ti_and1 {a x : Int32} (e : x = a &&& 1) : x.toInt = 0 ∨ x.toInt = 1 := by
  subst e
  have h : (a &&& 1) = 0 ∨ (a &&& 1) = 1 := by
    have hb : (a &&& 1).toBitVec = a.toBitVec &&& 1#32 := rfl
    have : a.toBitVec &&& 1#32 = 0#32 ∨ a.toBitVec &&& 1#32 = 1#32 := by
      rw [← BitVec.toNat_inj, ← BitVec.toNat_inj, BitVec.toNat_and]
      have e1 : (1#32).toNat = 1 := rfl
      have e0 : (0#32).toNat = 0 := rfl
      rw [e1, e0, Nat.and_one_is_mod]
      omega
    rcases this with h | h
    · exact Or.inl (Int32.toBitVec_inj.mp (hb.trans h))
    · exact Or.inr (Int32.toBitVec_inj.mp (hb.trans h))
  rcases h with h | h <;> rw [h] <;> decide
/-- bounds that grow with the place -/
def rbk (f : Nat → Int32) (n : Nat) (lo hi : Int) : Prop := ∀ k, k < n → lo * (k : Int) ≤ (f k).toInt ∧ (f k).toInt ≤ hi * (k : Int)
theorem rbk_upd {f : Nat → Int32} {n : Nat} {lo hi : Int} {i : Int32} (h : rbk f n lo hi) {v : Int32} (h0 : 0 ≤ i.toInt) (h1 : lo * i.toInt ≤ v.toInt) (h2 : v.toInt ≤ hi * i.toInt) : rbk (upd f i.toNatClampNeg v) n lo hi := by
  intro k hk
  unfold upd
  by_cases hj : k = i.toNatClampNeg
  · have hi' : ((i.toNatClampNeg : Nat) : Int) = i.toInt := Int.toNat_of_nonneg h0
    subst hj
    simp only [if_true]
    rw [hi']
    exact ⟨h1, h2⟩
  · rw [if_neg hj]
    exact h k hk
theorem rbk_at {f : Nat → Int32} {n : Nat} {lo hi : Int} (h : rbk f n lo hi) {i : Int32} {x : Int32} (e : x = f i.toNatClampNeg) (h0 : 0 ≤ i.toInt) (h1 : i.toInt < n) : lo * i.toInt ≤ x.toInt ∧ x.toInt ≤ hi * i.toInt := by
  have hi' : ((i.toNatClampNeg : Nat) : Int) = i.toInt := Int.toNat_of_nonneg h0
  have h2 := h i.toNatClampNeg (by omega)
  rw [hi'] at h2
  rw [e]
  exact h2
theorem rb_cpy {f g : Nat → Int32} {N : Nat} {lo hi : Int} (h : rb f N lo hi) {a b n : Nat} (ha : a = 0 := by rfl) (hb : b = 0 := by rfl) (hn : n = N := by rfl) : rb (va_cpy f g a b n) N lo hi := by
  subst ha; subst hb; subst hn
  intro k hk
  unfold va_cpy
  rw [if_pos (by omega)]
  exact h _ (by omega)
/-- where a step leads, in whole numbers; -1 nowhere -/
def tg2 (n : Int) (f : Nat → Int32) (to : Int) : Int := if to < 0 ∨ n ≤ to ∨ (f to.toNat).toInt = 3 then -1 else to
def tgZ (w n : Int) (f : Nat → Int32) (c st : Int) : Int := if c < 0 ∨ n ≤ c ∨ w ≤ 0 then -1 else tg2 n f (if st = 0 then c - w else if st = 2 then c + w else if st = 1 ∧ c % w < w - 1 then c + 1 else if st = 3 ∧ 0 < c % w then c - 1 else -1)
theorem ti_shl1 {y x : Int32} (e : x = 1 <<< (y &&& 31)) (h0 : 0 ≤ y.toInt) (h1 : y.toInt ≤ 19) : 0 ≤ x.toInt ∧ x.toInt ≤ 1048575 := by
  have key : ∀ k : Nat, k < 20 → 0 ≤ ((1 : Int32) <<< (Int32.ofNat k &&& 31)).toInt ∧ ((1 : Int32) <<< (Int32.ofNat k &&& 31)).toInt ≤ 1048575 := by decide +kernel
  have hy : y = Int32.ofNat y.toInt.toNat := by
    apply Int32.toInt_inj.mp
    rw [Int32.toInt_ofNat_of_lt (by omega)]; omega
  rw [e, hy]
  exact key _ (by omega)
theorem ti_nat {a : Int32} (h : 0 ≤ a.toInt) : a.toInt = (a.toBitVec.toNat : Int) := by
  have h1 : a.toInt = a.toBitVec.toInt := rfl
  rw [h1] at h ⊢
  rw [BitVec.toInt_eq_toNat_cond] at h ⊢
  split
  · rfl
  · rename_i h2; rw [if_neg h2] at h; have := a.toBitVec.isLt; omega
theorem ti_of_nat {a : Int32} {n : Nat} (h : a.toBitVec.toNat = n) (hn : n < 2 ^ 31) : a.toInt = (n : Int) := by
  have h1 : a.toInt = a.toBitVec.toInt := rfl
  rw [h1, BitVec.toInt_eq_toNat_cond, h, if_pos (by omega)]
theorem ti_or20 {a b x : Int32} (e : x = a ||| b) (ha : 0 ≤ a.toInt) (hA : a.toInt ≤ 1048575) (hb : 0 ≤ b.toInt) (hB : b.toInt ≤ 1048575) : 0 ≤ x.toInt ∧ x.toInt ≤ 1048575 := by
  have na := ti_nat ha
  have nb := ti_nat hb
  have hx : x.toBitVec.toNat = a.toBitVec.toNat ||| b.toBitVec.toNat := by rw [e]; exact BitVec.toNat_or ..
  have hlt : a.toBitVec.toNat ||| b.toBitVec.toNat < 2 ^ 20 := Nat.or_lt_two_pow (by omega) (by omega)
  have := ti_of_nat hx (by omega)
  omega
theorem ti_andl {a b x : Int32} (e : x = a &&& b) (ha : 0 ≤ a.toInt) : 0 ≤ x.toInt ∧ x.toInt ≤ a.toInt := by
  have na := ti_nat ha
  have hx : x.toBitVec.toNat = a.toBitVec.toNat &&& b.toBitVec.toNat := by rw [e]; exact BitVec.toNat_and ..
  have hle : a.toBitVec.toNat &&& b.toBitVec.toNat ≤ a.toBitVec.toNat := Nat.and_le_left
  have hbd := ti_bd a
  have := ti_of_nat hx (by omega)
  omega
theorem ti_andr {a b x : Int32} (e : x = a &&& b) (hb : 0 ≤ b.toInt) : 0 ≤ x.toInt ∧ x.toInt ≤ b.toInt := by
  have nb := ti_nat hb
  have hx : x.toBitVec.toNat = a.toBitVec.toNat &&& b.toBitVec.toNat := by rw [e]; exact BitVec.toNat_and ..
  have hle : a.toBitVec.toNat &&& b.toBitVec.toNat ≤ b.toBitVec.toNat := Nat.and_le_right
  have hbd := ti_bd b
  have := ti_of_nat hx (by omega)
  omega
theorem nar_b {x : Int32} (h0 : 0 ≤ x.toInt) (h1 : x.toInt ≤ 1) : narrow .boolean (.int x) = .int x := by
  have h : x = 0 ∨ x = 1 := by
    rcases (show x.toInt = 0 ∨ x.toInt = 1 by omega) with h | h
    · exact Or.inl (Int32.toInt_inj.mp h)
    · exact Or.inr (Int32.toInt_inj.mp h)
  rcases h with rfl | rfl <;> rfl
theorem nz_i2l {i : Int32} {x : Int64} (e : i.toInt64 = x) (h : i.toInt ≠ 0) : ¬ x = 0 := by
  intro hz
  rw [hz] at e
  have h1 : i.toInt64.toInt = i.toInt := Int32.toInt_toInt64 i
  rw [e] at h1
  exact h (h1.symm.trans (by decide))
theorem nz_cmp {a : Int64} {x : Int32} (e : x = lg_cmp a 0) (h : x.toInt ≠ 0) : ¬ a = 0 := by
  intro hz
  rw [hz] at e
  rw [e] at h
  exact h (by decide)
theorem ti_shl5 {y x : Int32} (e : x = 1 <<< (y &&& 31)) (h0 : 0 ≤ y.toInt) (h1 : y.toInt ≤ 5) : 1 ≤ x.toInt ∧ x.toInt ≤ 32 := by
  have key : ∀ k : Nat, k < 6 → 1 ≤ ((1 : Int32) <<< (Int32.ofNat k &&& 31)).toInt ∧ ((1 : Int32) <<< (Int32.ofNat k &&& 31)).toInt ≤ 32 := by decide +kernel
  have hy : y = Int32.ofNat y.toInt.toNat := by
    apply Int32.toInt_inj.mp
    rw [Int32.toInt_ofNat_of_lt (by omega)]; omega
  rw [e, hy]
  exact key _ (by omega)
