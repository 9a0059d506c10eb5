/-- longs -/
theorem bm64 {z : Int} (h0 : -9000000000000000000 ≤ z) (h1 : z ≤ 9000000000000000000) : z.bmod (2 ^ 64) = z := by
  have e : z.bmod 18446744073709551616 = z := Int.bmod_eq_of_le (by omega) (by omega)
  exact e
theorem lg_add {a b x : Int64} (e : x = a + b) (h0 : -9000000000000000000 ≤ a.toInt + b.toInt) (h1 : a.toInt + b.toInt ≤ 9000000000000000000) : x.toInt = a.toInt + b.toInt := by
  rw [e, Int64.toInt_add]
  exact bm64 h0 h1
theorem lg_mul {a b x : Int64} (e : x = a * b) (h0 : -9000000000000000000 ≤ a.toInt * b.toInt) (h1 : a.toInt * b.toInt ≤ 9000000000000000000) : x.toInt = a.toInt * b.toInt := by
  rw [e, Int64.toInt_mul]
  exact bm64 h0 h1
theorem lg_div {a b x : Int64} (e : x = a / b) (ha : 0 ≤ a.toInt) (hb : 0 < b.toInt) : x.toInt = a.toInt / b.toInt := by
  rw [e, Int64.toInt_div_of_ne_right a b (fun z => by rw [z] at hb; exact absurd hb (by decide)), Int.tdiv_eq_ediv_of_nonneg ha]
theorem lgt_cmp {x : Int32} {a b : Int64} (e : x = lg_cmp a b) (h : 0 < x.toInt) : b.toInt < a.toInt := by
  rw [e] at h
  unfold lg_cmp at h
  by_cases q : a > b
  · exact Int64.lt_iff_toInt_lt.mp q
  · rw [if_neg q] at h
    by_cases y : a = b
    · rw [if_pos y] at h
      exact absurd h (by decide)
    · rw [if_neg y] at h
      exact absurd h (by decide)
theorem lle_cmp {x : Int32} {a b : Int64} (e : x = lg_cmp a b) (h : x.toInt ≤ 0) : a.toInt ≤ b.toInt := by
  rw [e] at h
  unfold lg_cmp at h
  by_cases q : a > b
  · rw [if_pos q] at h
    exact absurd h (by decide)
  · have g : ¬ b.toInt < a.toInt := fun z => q (Int64.lt_iff_toInt_lt.mpr z)
    omega
/-- Euclid's steps -/
def euI (a b x y : Int) : Prop := (0 ≤ x ∧ 0 ≤ y) ∧ Nat.gcd x.toNat y.toNat = Nat.gcd a.toNat b.toNat
theorem euI_0 {a b : Int} (h0 : 0 ≤ a) (h1 : 0 ≤ b) : euI a b a b := ⟨⟨h0, h1⟩, rfl⟩
theorem eu_mod {x y : Int} (h0 : 0 ≤ x) (h1 : 0 < y) : 0 ≤ x.tmod y ∧ x.tmod y < y ∧ (x.tmod y).toNat = x.toNat % y.toNat := by
  obtain ⟨m, rfl⟩ := Int.eq_ofNat_of_zero_le h0
  obtain ⟨n, rfl⟩ := Int.eq_ofNat_of_zero_le (show 0 ≤ y by omega)
  have hn : 0 < n := by omega
  have e : (m : Int).tmod (n : Int) = ((m % n : Nat) : Int) := (Int.ofNat_tmod m n).symm
  rw [e]
  exact ⟨Int.natCast_nonneg _, Int.ofNat_lt.mpr (Nat.mod_lt m hn), rfl⟩
theorem lr_eq {a b x : Int64} (e : x = a - a / b * b) (hb : b.toInt ≠ 0) : x.toInt = a.toInt.tmod b.toInt := by
  have h1 : -9223372036854775808 ≤ b.toInt := Int64.le_toInt b
  have h2 : b.toInt < 9223372036854775808 := Int64.toInt_lt b
  have hm : (a.toInt.tmod b.toInt).natAbs < b.toInt.natAbs := by
    rw [Int.natAbs_tmod]
    exact Nat.mod_lt _ (by omega)
  rw [e, Int64.toInt_sub, Int64.toInt_mul, Int64.toInt_div, Int.bmod_mul_bmod, Int.sub_bmod_bmod]
  rw [show a.toInt - a.toInt.tdiv b.toInt * b.toInt = a.toInt.tmod b.toInt by rw [Int.tmod_def, Int.mul_comm]]
  rw [Int.bmod_def]
  split <;> omega
theorem euI_up {a b : Int} {x y r : Int64} (h : euI a b x.toInt y.toInt) (hy : y.toInt ≠ 0) (e : r = x - x / y * y) : euI a b y.toInt r.toInt ∧ r.toInt.toNat = x.toInt.toNat % y.toInt.toNat := by
  obtain ⟨⟨h0, h1⟩, h2⟩ := h
  obtain ⟨q1, q2, q3⟩ := eu_mod h0 (show 0 < y.toInt by omega)
  have er : r.toInt = x.toInt.tmod y.toInt := lr_eq e hy
  rw [← er] at q1 q2 q3
  refine ⟨⟨⟨h1, q1⟩, ?_⟩, q3⟩
  rw [q3, Nat.gcd_comm, ← Nat.gcd_rec, Nat.gcd_comm, h2]
theorem md2 {m n : Nat} (h : n ≤ m) (hn : 0 < n) : 2 * (m % n) ≤ m := by
  have h1 := Nat.div_add_mod m n
  have h2 := Nat.mod_lt m hn
  have h3 : 1 ≤ m / n := Nat.div_pos h hn
  have h4 : n * 1 ≤ n * (m / n) := Nat.mul_le_mul_left n h3
  omega
/-- so few steps are enough -/
def eB (k m n : Nat) : Prop := (k = 0 → m ≤ 35184372088832 ∧ n ≤ 35184372088832) ∧ (0 < k → n < m ∧ m * 2 ^ ((k - 1) / 2) ≤ 35184372088832 ∧ n * 2 ^ (k / 2) ≤ 35184372088832)
theorem eB_up {k m n : Nat} (h : eB k m n) (hn : 0 < n) : eB (k + 1) n (m % n) := by
  have h2 := Nat.mod_lt m hn
  refine ⟨fun z => absurd z (by omega), fun _ => ⟨h2, ?_, ?_⟩⟩
  · rw [show k + 1 - 1 = k from rfl]
    by_cases z : k = 0
    · rw [z, show 0 / 2 = 0 from rfl, Nat.pow_zero, Nat.mul_one]
      exact (h.1 z).2
    · exact (h.2 (by omega)).2.2
  · by_cases z : k = 0
    · rw [z, show (0 + 1) / 2 = 0 from rfl, Nat.pow_zero, Nat.mul_one]
      exact Nat.le_trans (Nat.le_of_lt h2) (h.1 z).2
    · obtain ⟨g1, g2, g3⟩ := h.2 (by omega)
      have e := md2 (Nat.le_of_lt g1) hn
      rw [show (k + 1) / 2 = (k - 1) / 2 + 1 by omega, Nat.pow_succ, ← Nat.mul_assoc]
      have e2 : 2 * (m % n) * 2 ^ ((k - 1) / 2) ≤ m * 2 ^ ((k - 1) / 2) := Nat.mul_le_mul_right _ e
      have e3 : m % n * 2 ^ ((k - 1) / 2) * 2 = 2 * (m % n) * 2 ^ ((k - 1) / 2) := by rw [Nat.mul_comm _ 2, Nat.mul_assoc]
      rw [e3]
      exact Nat.le_trans e2 g2
theorem eB_end {k m n : Nat} (h : eB k m n) (hk : 100 ≤ k) : n = 0 := by
  by_cases z : n = 0
  · exact z
  · exfalso
    have g := (h.2 (by omega)).2.2
    have e : 2 ^ 50 ≤ 2 ^ (k / 2) := Nat.pow_le_pow_right (by decide) (by omega)
    have e2 : 1 * 2 ^ (k / 2) ≤ n * 2 ^ (k / 2) := Nat.mul_le_mul_right _ (by omega)
    rw [Nat.one_mul] at e2
    have e3 := Nat.le_trans e (Nat.le_trans e2 g)
    exact absurd e3 (by decide)
def frI (a b x y k : Int) : Prop := euI a b x y ∧ eB k.toNat x.toNat y.toNat
theorem frI_0 {a b k : Int} (h0 : 0 ≤ a) (h1 : 0 ≤ b) (ha : a ≤ 35184372088832) (hb : b ≤ 35184372088832) (hk : k = 0) : frI a b a b k := ⟨euI_0 h0 h1, ⟨fun _ => ⟨by omega, by omega⟩, fun z => absurd z (by omega)⟩⟩
theorem frI_up {a b k k1 : Int} {x y r : Int64} (h : frI a b x.toInt y.toInt k) (hy : ¬ y = 0) (e : r = x - x / y * y) (h0 : 0 ≤ k) (hk : k1 = k + 1) : frI a b y.toInt r.toInt k1 := by
  have hy' : y.toInt ≠ 0 := fun z => hy (Int64.toInt_inj.mp z)
  obtain ⟨g1, g2⟩ := euI_up h.1 hy' e
  have hp : 0 < y.toInt.toNat := by have := h.1.1.2; omega
  refine ⟨g1, ?_⟩
  rw [show k1.toNat = k.toNat + 1 by omega, g2]
  exact eB_up h.2 hp
/-- a fraction in its lowest terms, 0 by 1 for nothing -/
def frP (a b u l : Int) : Prop := a ≤ 35184372088832 → b ≤ 35184372088832 → ((a ≤ 0 ∨ b ≤ 0) ∧ u = 0 ∧ l = 1) ∨ (0 < a ∧ 0 < b ∧ u = a / (Nat.gcd a.toNat b.toNat : Nat) ∧ l = b / (Nat.gcd a.toNat b.toNat : Nat))
theorem frP_n {a b u l : Int} (h : a ≤ 0 ∨ b ≤ 0) (hu : u = 0) (hl : l = 1) : frP a b u l := fun _ _ => Or.inl ⟨h, hu, hl⟩
theorem gcd_x {a b x y : Int} (h : euI a b x y) (hy : y.toNat = 0) (ha : 0 < a) : x = ((Nat.gcd a.toNat b.toNat : Nat) : Int) ∧ 0 < x := by
  have g := h.2
  rw [hy, Nat.gcd_zero_right] at g
  have p := Nat.gcd_pos_of_pos_left b.toNat (show 0 < a.toNat by omega)
  rw [← g] at p
  have := h.1.1
  exact ⟨by rw [← g]; omega, by omega⟩
theorem frP_y {a b x y u l : Int64} {k : Int} (h : a.toInt ≤ 35184372088832 → b.toInt ≤ 35184372088832 → frI a.toInt b.toInt x.toInt y.toInt k) (he : 100 ≤ k ∨ y = 0) (ha : 0 < a.toInt) (hb : 0 < b.toInt) (eu : u = a / x) (el : l = b / x) : frP a.toInt b.toInt u.toInt l.toInt := fun h1 h2 => by
  obtain ⟨g1, g2⟩ := h h1 h2
  have y0 : y.toInt.toNat = 0 := by
    rcases he with z | z
    · exact eB_end g2 (by omega)
    · rw [z]
      decide
  obtain ⟨e, p⟩ := gcd_x g1 y0 ha
  refine Or.inr ⟨ha, hb, ?_, ?_⟩
  · rw [lg_div eu (by omega) p, e]
  · rw [lg_div el (by omega) p, e]
/-- what a walk to the south goes onto, as bits -/
def soI (w c i : Int) (b : Int32) : Prop := ∀ j : Nat, bt b j = true ↔ ∃ k : Nat, 1 ≤ k ∧ (k : Int) < i ∧ (j : Int) = c + w * (k : Int)
theorem soI_0 {w c i : Int} {b : Int32} (hb : b = 0) (hi : i ≤ 1) : soI w c i b := fun j => by
  rw [hb, bt_0]
  exact ⟨fun z => absurd z (by decide), fun ⟨k, k1, k2, _⟩ => absurd k2 (by omega)⟩
theorem soI_up {w c i i1 : Int} {b b1 s I : Int32} (h : soI w c i b) (es : s = 1 <<< (I &&& 31)) (eo : b1 = b ||| s) (hI : I.toInt = c + w * i) (h0 : 0 ≤ c + w * i) (h1 : c + w * i ≤ 19) (hi : 1 ≤ i) (hi1 : i1 = i + 1) : soI w c i1 b1 := fun j => by
  rw [bt_or eo, bt_sh es (by omega) (by omega), Bool.or_eq_true, decide_eq_true_eq, h j]
  constructor
  · rintro (⟨k, k1, k2, k3⟩ | z)
    · exact ⟨k, k1, by omega, k3⟩
    · exact ⟨i.toNat, by omega, by omega, by rw [show ((i.toNat : Nat) : Int) = i by omega]; omega⟩
  · rintro ⟨k, k1, k2, k3⟩
    by_cases z : (k : Int) = i
    · rw [z] at k3
      exact Or.inr (by omega)
    · exact Or.inl ⟨k, k1, by omega, k3⟩
/-- of these places, from c on so many to the south, one is such -/
def flD (D : Nat → Prop) (w c st : Int) : Prop := ∃ k : Nat, 1 ≤ k ∧ (k : Int) ≤ st ∧ D (c + w * (k : Int)).toNat
theorem flD_c {D D' : Nat → Prop} {w c st : Int} (h : ∀ k : Nat, 1 ≤ k → (k : Int) ≤ st → (D (c + w * (k : Int)).toNat ↔ D' (c + w * (k : Int)).toNat)) : flD D w c st ↔ flD D' w c st := by
  constructor
  · rintro ⟨k, k1, k2, k3⟩
    exact ⟨k, k1, k2, (h k k1 k2).mp k3⟩
  · rintro ⟨k, k1, k2, k3⟩
    exact ⟨k, k1, k2, (h k k1 k2).mpr k3⟩
theorem bt_z {x : Int32} : x.toInt ≠ 0 ↔ ∃ j : Nat, bt x j = true := by
  constructor
  · intro h
    refine Classical.byContradiction (fun q => h ?_)
    have e : x = 0 := by
      apply Int32.toBitVec_inj.mp
      apply BitVec.eq_of_toNat_eq
      refine Nat.eq_of_testBit_eq (fun j => ?_)
      have g : bt x j = false := Bool.eq_false_iff.mpr (fun z => q ⟨j, z⟩)
      exact g.trans (Nat.zero_testBit j).symm
    rw [e]
    rfl
  · rintro ⟨j, hj⟩ h
    have e : x = 0 := Int32.toInt_inj.mp h
    rw [e, bt_0] at hj
    exact absurd hj (by decide)
/-- the class: goes a walk onto one of these -/
theorem so_fl {w c st i : Int} {b d x : Int32} (h : soI w c i b) (hi : i = st + 1) (e : x = b &&& d) (h0 : 0 ≤ c) (hw : 0 ≤ w) : x.toInt ≠ 0 ↔ flD (fun j => bt d j = true) w c st := by
  rw [bt_z]
  constructor
  · rintro ⟨j, hj⟩
    rw [bt_and e, Bool.and_eq_true, h j] at hj
    obtain ⟨⟨k, k1, k2, k3⟩, hd⟩ := hj
    refine ⟨k, k1, by omega, ?_⟩
    show bt d (c + w * (k : Int)).toNat = true
    rw [← k3, Int.toNat_natCast]
    exact hd
  · rintro ⟨k, k1, k2, k3⟩
    have p : 0 ≤ w * (k : Int) := Int.mul_nonneg hw (Int.natCast_nonneg _)
    refine ⟨(c + w * (k : Int)).toNat, ?_⟩
    rw [bt_and e, Bool.and_eq_true, h]
    exact ⟨⟨k, k1, by omega, by omega⟩, k3⟩
/-- unsure places of a set, as bits -/
def ubI (u : Nat → Int32) (i : Int) (set b : Int32) : Prop := ∀ j : Nat, bt b j = true ↔ ∃ k : Nat, (k : Int) < i ∧ bt set k = true ∧ (u k).toInt = (j : Int)
theorem ubI_0 {u : Nat → Int32} {i : Int} {set b : Int32} (hb : b = 0) (hi : i ≤ 0) : ubI u i set b := fun j => by
  rw [hb, bt_0]
  exact ⟨fun z => absurd z (by decide), fun ⟨k, k1, _⟩ => absurd k1 (by omega)⟩
theorem ubI_n {u : Nat → Int32} {i i1 : Int} {set b : Int32} (h : ubI u i set b) (h0 : 0 ≤ i) (hn : ¬ bt set i.toNat = true) (hi : i1 = i + 1) : ubI u i1 set b := fun j => by
  rw [h j]
  constructor
  · rintro ⟨k, k1, k2, k3⟩
    exact ⟨k, by omega, k2, k3⟩
  · rintro ⟨k, k1, k2, k3⟩
    by_cases z : k = i.toNat
    · rw [z] at k2
      exact absurd k2 hn
    · exact ⟨k, by omega, k2, k3⟩
theorem ubI_y {u : Nat → Int32} {i i1 : Int} {set b b1 s I : Int32} (h : ubI u i set b) (h0 : 0 ≤ i) (hy : bt set i.toNat = true) (hI : I = u i.toNat) (I0 : 0 ≤ I.toInt) (I1 : I.toInt ≤ 19) (es : s = 1 <<< (I &&& 31)) (eo : b1 = b ||| s) (hi : i1 = i + 1) : ubI u i1 set b1 := fun j => by
  rw [bt_or eo, bt_sh es I0 I1, Bool.or_eq_true, decide_eq_true_eq, h j]
  constructor
  · rintro (⟨k, k1, k2, k3⟩ | z)
    · exact ⟨k, by omega, k2, k3⟩
    · exact ⟨i.toNat, by omega, hy, by rw [← hI]; omega⟩
  · rintro ⟨k, k1, k2, k3⟩
    by_cases z : k = i.toNat
    · rw [z, ← hI] at k3
      exact Or.inr (by omega)
    · exact Or.inl ⟨k, by omega, k2, k3⟩
/-- a ditch, by a set of unsure places -/
def dtS (un : Int) (s u : Nat → Int32) (set : Nat) (j : Nat) : Prop := (∃ k : Nat, (k : Int) < un ∧ set.testBit k = true ∧ (u k).toInt = (j : Int)) ∨ (s j).toInt = 1
theorem bt_set {x : Int32} (h : 0 ≤ x.toInt) (k : Nat) : bt x k = x.toInt.toNat.testBit k := by
  have e : x.toBitVec.toNat = x.toInt.toNat := by have := ti_nat h; omega
  unfold bt
  rw [e]
theorem dt_of {n un : Int} {s u : Nat → Int32} {set a b d : Int32} (hn : n ≤ 20) (hs : 0 ≤ set.toInt) (ha : a = boZ s 1 n.toNat) (hb : ubI u un set b) (e : d = a ||| b) {j : Nat} (hj : (j : Int) < n) : bt d j = true ↔ dtS un s u set.toInt.toNat j := by
  rw [bt_or e, Bool.or_eq_true, ha, bt_boZ n.toNat (by omega), decide_eq_true_eq, hb j]
  unfold dtS
  constructor
  · rintro (z | ⟨k, k1, k2, k3⟩)
    · exact Or.inr z.2
    · rw [bt_set hs] at k2
      exact Or.inl ⟨k, k1, k2, k3⟩
  · rintro (⟨k, k1, k2, k3⟩ | z)
    · rw [← bt_set hs] at k2
      exact Or.inr ⟨k, k1, k2, k3⟩
    · exact Or.inl ⟨by omega, z⟩
/-- how well all walks go with something -/
noncomputable def wtP (er : Int) (R : Nat → Prop) : Nat → Int
  | 0 => 1
  | k + 1 => wtP er R k * @ite _ (R k) (Classical.propDecidable _) (100 - er) er
theorem wtP_s {er : Int} {R : Nat → Prop} {k : Nat} : wtP er R (k + 1) = wtP er R k * @ite _ (R k) (Classical.propDecidable _) (100 - er) er := rfl
theorem wtP_bd {er : Int} {R : Nat → Prop} (h0 : 0 ≤ er) (h1 : er ≤ 100) : ∀ k : Nat, 0 ≤ wtP er R k ∧ wtP er R k ≤ 100 ^ k
  | 0 => by
    show (0 : Int) ≤ 1 ∧ (1 : Int) ≤ 100 ^ 0
    decide
  | k + 1 => by
    obtain ⟨a, b⟩ := wtP_bd h0 h1 k
    have key : ∀ z : Int, 0 ≤ z → z ≤ 100 → 0 ≤ wtP er R k * z ∧ wtP er R k * z ≤ 100 ^ (k + 1) := fun z z0 z1 => ⟨Int.mul_nonneg a z0, by rw [Int.pow_succ]; exact Int.mul_le_mul b z1 z0 (Int.le_trans a b)⟩
    rw [wtP_s]
    by_cases z : R k
    · rw [if_pos z]
      exact key _ (by omega) (by omega)
    · rw [if_neg z]
      exact key _ h0 h1
theorem wtP_c {er : Int} {R R' : Nat → Prop} : ∀ k : Nat, (∀ j : Nat, j < k → (R j ↔ R' j)) → wtP er R k = wtP er R' k
  | 0, _ => rfl
  | k + 1, h => by
    rw [wtP_s, wtP_s, wtP_c k (fun j hj => h j (by omega))]
    by_cases z : R k
    · rw [if_pos z, if_pos ((h k (by omega)).mp z)]
    · rw [if_neg z, if_neg (fun y => z ((h k (by omega)).mpr y))]
theorem wt_up {er k k1 : Int} {R : Nat → Prop} {w w1 y : Int64} {i : Int32} (h : w.toInt = wtP er R k.toNat) (h0 : 0 ≤ k) (h6 : k ≤ 5) (e0 : 0 ≤ er) (e1 : er ≤ 100) (hi : (R k.toNat ∧ i.toInt = 100 - er) ∨ (¬ R k.toNat ∧ i.toInt = er)) (ey : i.toInt64 = y) (ew : w1 = w * y) (hk : k1 = k + 1) : w1.toInt = wtP er R k1.toNat := by
  have y1 : y.toInt = i.toInt := by rw [← ey]; exact Int32.toInt_toInt64 i
  have b1 := wtP_bd (R := R) e0 e1 (k.toNat + 1)
  have c1 : (100 : Int) ^ (k.toNat + 1) ≤ 1000000000000 := by
    rcases (show k.toNat = 0 ∨ k.toNat = 1 ∨ k.toNat = 2 ∨ k.toNat = 3 ∨ k.toNat = 4 ∨ k.toNat = 5 by omega) with z | z | z | z | z | z <;> (rw [z]; decide)
  have e : w.toInt * y.toInt = wtP er R (k.toNat + 1) := by
    rw [wtP_s, ← h, y1]
    rcases hi with ⟨z1, z2⟩ | ⟨z1, z2⟩
    · rw [if_pos z1, z2]
    · rw [if_neg z1, z2]
  rw [show k1.toNat = k.toNat + 1 by omega, ← e]
  exact lg_mul ew (by omega) (by omega)
theorem wt_6 {er k : Int} {R : Nat → Prop} (e0 : 0 ≤ er) (e1 : er ≤ 100) (h6 : k ≤ 6) : 0 ≤ wtP er R k.toNat ∧ wtP er R k.toNat ≤ 1000000000000 := by
  obtain ⟨a, b⟩ := wtP_bd (R := R) e0 e1 k.toNat
  have c1 : (100 : Int) ^ k.toNat ≤ 1000000000000 := by
    rcases (show k.toNat = 0 ∨ k.toNat = 1 ∨ k.toNat = 2 ∨ k.toNat = 3 ∨ k.toNat = 4 ∨ k.toNat = 5 ∨ k.toNat = 6 by omega) with z | z | z | z | z | z | z <;> (rw [z]; decide)
  exact ⟨a, Int.le_trans b c1⟩
/-- sets that are left; sums of weights -/
noncomputable def cnC (W : Nat → Int) (P : Nat → Prop) : Nat → Int
  | 0 => 0
  | k + 1 => cnC W P k + @ite _ (0 < W k ∧ P k) (Classical.propDecidable _) 1 0
theorem cnC_s {W : Nat → Int} {P : Nat → Prop} {k : Nat} : cnC W P (k + 1) = cnC W P k + @ite _ (0 < W k ∧ P k) (Classical.propDecidable _) 1 0 := rfl
theorem cnC_bd {W : Nat → Int} {P : Nat → Prop} : ∀ k : Nat, 0 ≤ cnC W P k ∧ cnC W P k ≤ k
  | 0 => ⟨Int.le_refl 0, Int.le_refl 0⟩
  | k + 1 => by
    obtain ⟨a, b⟩ := cnC_bd (W := W) (P := P) k
    rw [cnC_s]
    by_cases z : 0 < W k ∧ P k
    · rw [if_pos z]
      omega
    · rw [if_neg z]
      omega
theorem cnC_c {W W' : Nat → Int} {P P' : Nat → Prop} : ∀ k : Nat, (∀ j : Nat, j < k → W j = W' j ∧ (P j ↔ P' j)) → cnC W P k = cnC W' P' k
  | 0, _ => rfl
  | k + 1, h => by
    obtain ⟨h1, h2⟩ := h k (by omega)
    rw [cnC_s, cnC_s, cnC_c k (fun j hj => h j (by omega)), h1]
    by_cases z : 0 < W' k ∧ P k
    · rw [if_pos z, if_pos ⟨z.1, h2.mp z.2⟩]
    · rw [if_neg z, if_neg (fun y => z ⟨y.1, h2.mpr y.2⟩)]
theorem cnC_y {W : Nat → Int} {P : Nat → Prop} {k k1 c c1 : Int} (h : c = cnC W P k.toNat) (h0 : 0 ≤ k) (hw : 0 < W k.toNat) (hp : P k.toNat) (hk : k1 = k + 1) (hc : c1 = c + 1) : c1 = cnC W P k1.toNat := by
  rw [show k1.toNat = k.toNat + 1 by omega, cnC_s, if_pos ⟨hw, hp⟩]
  omega
theorem cnC_n {W : Nat → Int} {P : Nat → Prop} {k k1 c c1 : Int} (h : c = cnC W P k.toNat) (h0 : 0 ≤ k) (hn : ¬ (0 < W k.toNat ∧ P k.toNat)) (hk : k1 = k + 1) (hc : c1 = c) : c1 = cnC W P k1.toNat := by
  rw [show k1.toNat = k.toNat + 1 by omega, cnC_s, if_neg hn]
  omega
theorem cnC_le {W : Nat → Int} {P : Nat → Prop} (a : Nat) : ∀ b : Nat, a ≤ b → cnC W P a ≤ cnC W P b
  | 0, h => by
    rw [show a = 0 by omega]
    exact Int.le_refl _
  | b + 1, h => by
    by_cases z : a = b + 1
    · rw [z]
      exact Int.le_refl _
    · have g := cnC_le (W := W) (P := P) a b (by omega)
      rw [cnC_s]
      by_cases y : 0 < W b ∧ P b
      · rw [if_pos y]
        omega
      · rw [if_neg y]
        omega
noncomputable def smC (W : Nat → Int) (P : Nat → Prop) : Nat → Int
  | 0 => 0
  | k + 1 => smC W P k + @ite _ (P k) (Classical.propDecidable _) (W k) 0
theorem smC_s {W : Nat → Int} {P : Nat → Prop} {k : Nat} : smC W P (k + 1) = smC W P k + @ite _ (P k) (Classical.propDecidable _) (W k) 0 := rfl
/-- no weight is below 0 or above these -/
def wB (W : Nat → Int) (n : Nat) : Prop := ∀ j : Nat, j < n → 0 ≤ W j ∧ W j ≤ 1000000000000
theorem smC_bd {W : Nat → Int} {P : Nat → Prop} : ∀ k : Nat, wB W k → 0 ≤ smC W P k ∧ smC W P k ≤ 1000000000000 * k
  | 0, _ => ⟨Int.le_refl 0, Int.le_refl 0⟩
  | k + 1, h => by
    obtain ⟨a, b⟩ := smC_bd (P := P) k (fun j hj => h j (by omega))
    have g := h k (by omega)
    rw [smC_s]
    by_cases z : P k
    · rw [if_pos z]
      omega
    · rw [if_neg z]
      omega
theorem smC_y {W : Nat → Int} {P : Nat → Prop} {k k1 : Int} {a b x : Int64} {n : Nat} (hB : wB W n) (hn : n ≤ 32) (h : a.toInt = smC W P k.toNat) (h0 : 0 ≤ k) (h1 : k < n) (hp : P k.toNat) (hb : b.toInt = W k.toNat) (e : x = a + b) (hk : k1 = k + 1) : x.toInt = smC W P k1.toNat := by
  have g := smC_bd (P := P) k.toNat (fun j hj => hB j (by omega))
  have g2 := hB k.toNat (by omega)
  rw [show k1.toNat = k.toNat + 1 by omega, smC_s, if_pos hp, ← h, ← hb]
  exact lg_add e (by omega) (by omega)
theorem smC_n {W : Nat → Int} {P : Nat → Prop} {k k1 : Int} {a : Int64} (h : a.toInt = smC W P k.toNat) (h0 : 0 ≤ k) (hp : ¬ P k.toNat) (hk : k1 = k + 1) : a.toInt = smC W P k1.toNat := by
  rw [show k1.toNat = k.toNat + 1 by omega, smC_s, if_neg hp, Int.add_zero]
  exact h
/-- the i-th set that is left -/
def itN (W : Nat → Int) (i : Int) (n : Nat) : Prop := ∀ k : Nat, k < n → 0 < W k → cnC W (fun _ => True) k ≠ i
def itP (W : Nat → Int) (i : Int) (n : Nat) (r : Int) : Prop := (r = -1 ∧ itN W i n) ∨ ∃ k : Nat, k < n ∧ r = (k : Int) ∧ 0 < W k ∧ cnC W (fun _ => True) k = i
theorem itN_0 {W : Nat → Int} {i : Int} {n : Nat} (h : n = 0) : itN W i n := fun k hk => by omega
theorem itN_up {W : Nat → Int} {i k k1 : Int} (h : itN W i k.toNat) (h0 : 0 ≤ k) (hn : 0 < W k.toNat → cnC W (fun _ => True) k.toNat ≠ i) (hk : k1 = k + 1) : itN W i k1.toNat := fun j hj hw => by
  by_cases z : j = k.toNat
  · rw [z] at hw ⊢
    exact hn hw
  · exact h j (by omega) hw
theorem it_u {W W' : Nat → Int} {i r r' : Int} {n : Nat} (hW : ∀ j : Nat, j < n → W j = W' j) (h : itP W i n r) (h' : itP W' i n r') : r = r' := by
  have hc : ∀ k : Nat, k ≤ n → cnC W (fun _ => True) k = cnC W' (fun _ => True) k := fun k hk => cnC_c k (fun j hj => ⟨hW j (by omega), Iff.rfl⟩)
  have key : ∀ (V : Nat → Int) (a b : Nat), a < b → 0 < V a → cnC V (fun _ => True) a = i → cnC V (fun _ => True) b = i → False := fun V a b hab ha h1 h2 => by
    have g := cnC_le (W := V) (P := fun _ => True) (a + 1) b (by omega)
    rw [cnC_s, if_pos ⟨ha, trivial⟩] at g
    omega
  rcases h with ⟨z, zn⟩ | ⟨k, k1, k2, k3, k4⟩
  · rcases h' with ⟨y, _⟩ | ⟨k, k1, k2, k3, k4⟩
    · omega
    · exfalso
      have := zn k k1 (by rw [hW k k1]; exact k3)
      rw [hc k (by omega)] at this
      exact this k4
  · rcases h' with ⟨y, yn⟩ | ⟨m, m1, m2, m3, m4⟩
    · exfalso
      have := yn k k1 (by rw [← hW k k1]; exact k3)
      rw [← hc k (by omega)] at this
      exact this k4
    · rw [← hW m m1] at m3
      rw [← hc m (by omega)] at m4
      rcases (show k < m ∨ k = m ∨ m < k by omega) with z | z | z
      · exact (key W k m z k3 k4 m4).elim
      · omega
      · exact (key W m k z m3 m4 k4).elim
/-- the heaviest set, the first of them -/
def hvP (W : Nat → Int) : Nat → Int × Int
  | 0 => (-2, 0)
  | k + 1 => if (hvP W k).2 < W k then ((k : Int), W k) else hvP W k
theorem hvP_s {W : Nat → Int} {k : Nat} : hvP W (k + 1) = if (hvP W k).2 < W k then ((k : Int), W k) else hvP W k := rfl
def hvI (W : Nat → Int) (k b m : Int) : Prop := hvP W k.toNat = (b, m)
theorem hvI_0 {W : Nat → Int} {k b m : Int} (hk : k = 0) (hb : b = -2) (hm : m = 0) : hvI W k b m := by
  rw [hk, hb, hm]
  rfl
theorem hvI_y {W : Nat → Int} {k k1 b m b1 m1 : Int} (h : hvI W k b m) (h0 : 0 ≤ k) (hw : m < W k.toNat) (hk : k1 = k + 1) (hb : b1 = k) (hm : m1 = W k.toNat) : hvI W k1 b1 m1 := by
  have g : hvP W k.toNat = (b, m) := h
  show hvP W k1.toNat = (b1, m1)
  rw [show k1.toNat = k.toNat + 1 by omega, hvP_s, g, if_pos hw, hb, hm, show ((k.toNat : Nat) : Int) = k by omega]
theorem hvI_n {W : Nat → Int} {k k1 b m : Int} (h : hvI W k b m) (h0 : 0 ≤ k) (hw : W k.toNat ≤ m) (hk : k1 = k + 1) : hvI W k1 b m := by
  have g : hvP W k.toNat = (b, m) := h
  show hvP W k1.toNat = (b, m)
  rw [show k1.toNat = k.toNat + 1 by omega, hvP_s, g, if_neg (show ¬ (b, m).2 < W k.toNat from fun z => by have z2 : m < W k.toNat := z; omega)]
/-- the first of which the least is said -/
def tqP (g : Nat → Int) : Nat → Int × Int
  | 0 => (-2, 33)
  | k + 1 => if g k < (tqP g k).2 then ((k : Int), g k) else tqP g k
theorem tqP_s {g : Nat → Int} {k : Nat} : tqP g (k + 1) = if g k < (tqP g k).2 then ((k : Int), g k) else tqP g k := rfl
def tdI (g : Nat → Int) (k b m : Int) : Prop := tqP g k.toNat = (b, m)
theorem tdI_0 {g : Nat → Int} {k b m : Int} (hk : k = 0) (hb : b = -2) (hm : m = 33) : tdI g k b m := by
  rw [hk, hb, hm]
  rfl
theorem tdI_y {g : Nat → Int} {k k1 b m b1 m1 : Int} (h : tdI g k b m) (h0 : 0 ≤ k) (hw : m1 < m) (hk : k1 = k + 1) (hb : b1 = k) (hm : m1 = g k.toNat) : tdI g k1 b1 m1 := by
  have e : tqP g k.toNat = (b, m) := h
  show tqP g k1.toNat = (b1, m1)
  rw [show k1.toNat = k.toNat + 1 by omega, tqP_s, e, if_pos (show g k.toNat < (b, m).2 by show g k.toNat < m; omega), hb, hm, show ((k.toNat : Nat) : Int) = k by omega]
theorem tdI_n {g : Nat → Int} {k k1 b m m1 : Int} (h : tdI g k b m) (h0 : 0 ≤ k) (hw : ¬ m1 < m) (hk : k1 = k + 1) (hm : m1 = g k.toNat) : tdI g k1 b m := by
  have e : tqP g k.toNat = (b, m) := h
  show tqP g k1.toNat = (b, m)
  rw [show k1.toNat = k.toNat + 1 by omega, tqP_s, e, if_neg (show ¬ g k.toNat < (b, m).2 from fun z => by have z2 : g k.toNat < m := z; omega)]
theorem tqP_g {g : Nat → Int} : ∀ k : Nat, (tqP g k).1 = -2 ∨ (0 ≤ (tqP g k).1 ∧ (tqP g k).1 < k ∧ g (tqP g k).1.toNat = (tqP g k).2)
  | 0 => Or.inl rfl
  | k + 1 => by
    rw [tqP_s]
    by_cases z : g k < (tqP g k).2
    · rw [if_pos z]
      exact Or.inr ⟨by show (0 : Int) ≤ k; omega, by show (k : Int) < ((k + 1 : Nat) : Int); omega, rfl⟩
    · rw [if_neg z]
      rcases tqP_g (g := g) k with y | ⟨y1, y2, y3⟩
      · exact Or.inl y
      · exact Or.inr ⟨y1, by omega, y3⟩
/-- left at most, one unsure place being known -/
noncomputable def lmP (W : Nat → Int) (P : Nat → Prop) (n : Nat) : Int := max (cnC W P n) (cnC W (fun _ => True) n - cnC W P n)
theorem lmP_bd {W : Nat → Int} {P : Nat → Prop} {n : Nat} : 0 ≤ lmP W P n ∧ lmP W P n ≤ n := by
  have a := cnC_bd (W := W) (P := P) n
  have b := cnC_bd (W := W) (P := fun _ => True) n
  unfold lmP
  omega
theorem cnC_0 {W : Nat → Int} {P : Nat → Prop} {k c : Int} (hk : k ≤ 0) (hc : c = 0) : c = cnC W P k.toNat := by
  rw [show k.toNat = 0 by omega, hc]
  rfl
theorem smC_0 {W : Nat → Int} {P : Nat → Prop} {k c : Int} (hk : k ≤ 0) (hc : c = 0) : c = smC W P k.toNat := by
  rw [show k.toNat = 0 by omega, hc]
  rfl
/-- a row of longs as numbers -/
def wI (f : Nat → Int64) (k : Nat) : Int := (f k).toInt
theorem z64 : (0 : Int64).toInt = 0 := by decide
theorem wI_e {f : Nat → Int64} {i : Int32} {x : Int64} (ex : x = f (Int32.toNatClampNeg i)) : x.toInt = wI f i.toInt.toNat := congrArg Int64.toInt ex
theorem wI_p {f : Nat → Int64} {i c : Int32} {x z : Int64} (ex : x = f (Int32.toNatClampNeg i)) (ec : c = lg_cmp x z) (hz : z = 0) (h : 0 < c.toInt) : 0 < wI f i.toInt.toNat := by
  have g := lgt_cmp ec h
  rw [hz, z64, wI_e ex] at g
  exact g
theorem wI_n {f : Nat → Int64} {i c : Int32} {x z : Int64} (ex : x = f (Int32.toNatClampNeg i)) (ec : c = lg_cmp x z) (hz : z = 0) (h : c.toInt ≤ 0) : ¬ 0 < wI f i.toInt.toNat := by
  have g := lle_cmp ec h
  rw [hz, z64, wI_e ex] at g
  omega
theorem wI_gt {f : Nat → Int64} {i c : Int32} {x a : Int64} (ex : x = f (Int32.toNatClampNeg i)) (ec : c = lg_cmp x a) (h : 0 < c.toInt) : a.toInt < wI f i.toInt.toNat := by
  have g := lgt_cmp ec h
  rw [wI_e ex] at g
  exact g
theorem wI_le {f : Nat → Int64} {i c : Int32} {x a : Int64} (ex : x = f (Int32.toNatClampNeg i)) (ec : c = lg_cmp x a) (h : c.toInt ≤ 0) : wI f i.toInt.toNat ≤ a.toInt := by
  have g := lle_cmp ec h
  rw [wI_e ex] at g
  exact g
theorem itP_y {W : Nat → Int} {i n k r : Int} (h0 : 0 ≤ k) (hk : k < n) (hr : r = k) (hw : 0 < W k.toNat) (hc : cnC W (fun _ => True) k.toNat = i) : itP W i n.toNat r := Or.inr ⟨k.toNat, by omega, by omega, hw, hc⟩
theorem itP_n {W : Nat → Int} {i n k r : Int} (h : itN W i k.toNat) (hk : k = n) (hr : r = -1) : itP W i n.toNat r := Or.inl ⟨hr, by rw [← hk]; exact h⟩
theorem hv_end {W : Nat → Int} {k b m n : Int} (h : hvI W k b m) (hk : k = n) : b = (hvP W n.toNat).1 := by
  have g : hvP W k.toNat = (b, m) := h
  rw [← hk, g]
/-- sets in which an unsure place is a ditch -/
def tbP (k : Nat) (set : Nat) : Prop := set.testBit k = true
theorem bitS {x y z I : Int32} (ex : y = x >>> (I &&& 31)) (ez : z = y &&& 1) (h0 : 0 ≤ I.toInt) (h1 : I.toInt ≤ 19) (hx : 0 ≤ x.toInt) : z.toInt = 1 ↔ tbP I.toInt.toNat x.toInt.toNat := by
  have g := bit_of ex ez h0 h1
  rw [bt_set hx] at g
  exact g
/-- sets by which one of these places is a ditch -/
def ovP (d : Nat → Int32) (p : Int32) (set : Nat) : Prop := (d set &&& p).toInt ≠ 0
theorem ovP_i {d : Nat → Int32} {p i x z : Int32} (ex : x = d (Int32.toNatClampNeg i)) (ez : z = x &&& p) : z.toInt ≠ 0 ↔ ovP d p i.toInt.toNat := by
  rw [ez, ex]
  exact Iff.rfl
theorem lm_of {W : Nat → Int} {P : Nat → Prop} {n a b r : Int} (ha : a = cnC W P n.toNat) (hb : b = cnC W (fun _ => True) n.toNat - a) (hr : (b ≤ a ∧ r = a) ∨ (a ≤ b ∧ r = b)) : r = lmP W P n.toNat := by
  unfold lmP
  rw [← ha, ← hb]
  omega
noncomputable def gS (W : Nat → Int) (n j : Nat) : Int := lmP W (tbP j) n
def bsP (W : Nat → Int) (n : Nat) (un r : Int) : Prop := (cnC W (fun _ => True) n = 0 ∧ r = -2) ∨ (cnC W (fun _ => True) n ≠ 0 ∧ r = (tqP (gS W n) un.toNat).1)
theorem bsP_n {W : Nat → Int} {n : Nat} {un r c : Int} (h : c = cnC W (fun _ => True) n) (hc : c = 0) (hr : r = -2) : bsP W n un r := Or.inl ⟨by omega, hr⟩
theorem bsP_y {W : Nat → Int} {n : Nat} {un r c k b m : Int} (h : c = cnC W (fun _ => True) n) (hc : c ≠ 0) (ht : tdI (gS W n) k b m) (hk : k.toNat = un.toNat) (hr : r = b) : bsP W n un r := Or.inr ⟨by omega, by
  have g : tqP (gS W n) k.toNat = (b, m) := ht
  rw [← hk, g, hr]⟩
/-- what a walk to the south goes onto -/
theorem soI_st {W C I4 x I b b1 s : Int32} {i1 st : Int} (h : soI W.toInt C.toInt I4.toInt b) (ex : x = I4 * W) (eI : I = C + x) (es : s = 1 <<< (I &&& 31)) (eo : b1 = b ||| s) (hC : 0 ≤ C.toInt) (hW : 0 ≤ W.toInt) (hW5 : W.toInt ≤ 5) (hst : C.toInt + W.toInt * st ≤ 19) (hi : 1 ≤ I4.toInt) (hi3 : I4.toInt ≤ 3) (hs : I4.toInt ≤ st) (hi1 : i1 = I4.toInt + 1) : soI W.toInt C.toInt i1 b1 := by
  have p0 : 0 ≤ I4.toInt * W.toInt := Int.mul_nonneg (by omega) hW
  have p1 : I4.toInt * W.toInt ≤ 3 * 5 := Int.mul_le_mul hi3 hW5 hW (by decide)
  have tx := ti_mul ex (by omega) (by omega)
  have m1 : W.toInt * I4.toInt ≤ W.toInt * st := Int.mul_le_mul_of_nonneg_left hs hW
  have m2 : I4.toInt * W.toInt = W.toInt * I4.toInt := Int.mul_comm _ _
  rw [m2] at tx p0 p1
  have tI : I.toInt = C.toInt + x.toInt := ti_add (A := C.toInt) (B := x.toInt) eI rfl rfl (by omega) (by omega)
  exact soI_up h es eo (by rw [tI, tx]) (by omega) (by omega) hi hi1
theorem so_end {w c i st : Int} {b : Int32} (h : soI w c i b) (h1 : st < i) (h2 : i ≤ st + 1 ∨ i ≤ 1) : soI w c (st + 1) b := fun j => by
  rw [h j]
  constructor
  · rintro ⟨k, k1, k2, k3⟩
    exact ⟨k, k1, by omega, k3⟩
  · rintro ⟨k, k1, k2, k3⟩
    exact ⟨k, k1, by omega, k3⟩
def btD (d : Int32) (j : Nat) : Prop := bt d j = true
/-- a walk goes with these ditches -/
def tlR (D : Nat → Prop) (w : Int) (ws wt wf : Nat → Int32) (k : Nat) : Prop := flD D w (ws k).toInt (wt k).toInt ↔ (wf k).toInt = 1
def wlO (n w : Int) (ws wt wf : Nat → Int32) (k : Nat) : Prop := 0 ≤ (ws k).toInt ∧ (ws k).toInt + w * (wt k).toInt < n ∧ ((wf k).toInt = 0 ∨ (wf k).toInt = 1)
def ucO (u : Nat → Int32) (un : Int) : Prop := ∀ k : Nat, (k : Int) < un → 0 ≤ (u k).toInt ∧ (u k).toInt ≤ 19
theorem uc_e {u : Nat → Int32} {un : Int} {I x : Int32} (h : ucO u un) (e : x = u (Int32.toNatClampNeg I)) (h0 : 0 ≤ I.toInt) (h1 : I.toInt < un) : 0 ≤ x.toInt ∧ x.toInt ≤ 19 := by
  rw [e]
  have g : Int32.toNatClampNeg I = I.toInt.toNat := rfl
  exact h _ (by rw [g]; omega)
theorem tw_of {n w : Int} {ws wt wf : Nat → Int32} {k : Nat} {A B F bts d z : Int32} {fl r : Int} (hO : wlO n w ws wt wf k) (hn : n ≤ 20) (hw : 0 ≤ w) (eA : A = ws k) (eB : B = wt k) (eF : F = wf k) (h : 0 ≤ A.toInt → 0 ≤ w → A.toInt + w * B.toInt ≤ 19 → soI w A.toInt (B.toInt + 1) bts) (ez : z = bts &&& d) (hfl : (z.toInt ≠ 0 ∧ fl = 1) ∨ (z.toInt = 0 ∧ fl = 0)) (hr : (fl = F.toInt ∧ r = 0) ∨ (fl ≠ F.toInt ∧ r = 1)) : r = 1 ↔ ¬ tlR (btD d) w ws wt wf k := by
  obtain ⟨o1, o2, hF⟩ := hO
  rw [← eF] at hF
  rw [← eA] at o1 o2
  rw [← eB] at o2
  have g := so_fl (h o1 hw (by omega)) rfl ez o1 hw
  unfold tlR
  rw [← eA, ← eB, ← eF]
  have g2 : flD (btD d) w A.toInt B.toInt ↔ z.toInt ≠ 0 := g.symm
  rw [g2]
  constructor
  · intro h1 h2
    rcases hr with ⟨y1, y2⟩ | ⟨y1, y2⟩
    · omega
    · rcases hfl with ⟨x1, x2⟩ | ⟨x1, x2⟩
      · exact y1 (x2.trans (h2.mp x1).symm)
      · rcases hF with f1 | f1
        · exact y1 (x2.trans f1.symm)
        · exact (h2.mpr f1) x1
  · intro h1
    rcases hr with ⟨y1, y2⟩ | ⟨y1, y2⟩
    · exfalso
      apply h1
      rcases hfl with ⟨x1, x2⟩ | ⟨x1, x2⟩
      · exact ⟨fun _ => by omega, fun _ => x1⟩
      · exact ⟨fun q => absurd x1 q, fun q => by omega⟩
    · exact y2
/-- how well all walks go with a set -/
noncomputable def gsW (w un wl er : Int) (s u ws wt wf : Nat → Int32) (set : Nat) : Int := wtP er (tlR (dtS un s u set) w ws wt wf) wl.toNat
def tkO (n w un wl er : Int) (u ws wt wf : Nat → Int32) : Prop := (0 ≤ w ∧ n ≤ 20) ∧ (0 ≤ er ∧ er ≤ 100) ∧ (∀ k : Nat, (k : Int) < wl → wlO n w ws wt wf k) ∧ ucO u un
theorem tl_c {n w : Int} {D D' : Nat → Prop} {ws wt wf : Nat → Int32} {k : Nat} (hO : wlO n w ws wt wf k) (hw : 0 ≤ w) (h : ∀ j : Nat, (j : Int) < n → (D j ↔ D' j)) : tlR D w ws wt wf k ↔ tlR D' w ws wt wf k := by
  have e : flD D w (ws k).toInt (wt k).toInt ↔ flD D' w (ws k).toInt (wt k).toInt := flD_c (fun m m1 m2 => h _ (by
    obtain ⟨o1, o2, _⟩ := hO
    have a1 : w * (m : Int) ≤ w * (wt k).toInt := Int.mul_le_mul_of_nonneg_left m2 hw
    have a2 : 0 ≤ w * (m : Int) := Int.mul_nonneg hw (Int.natCast_nonneg _)
    omega))
  unfold tlR
  rw [e]
def lrS (n w un wl er : Int) (s u ws wt wf : Nat → Int32) (set : Nat) (d : Int32) (x : Int) : Prop := (∀ j : Nat, (j : Int) < n → (bt d j = true ↔ dtS un s u set j)) ∧ x = gsW w un wl er s u ws wt wf set
theorem lrS_of {n w un wl er x k : Int} {s u ws wt wf : Nat → Int32} {set a b d : Int32} (hO : tkO n w un wl er u ws wt wf) (hs : 0 ≤ set.toInt) (ha : a = boZ s 1 n.toNat) (hb : ubI u un set b) (e : d = a ||| b) (hk : k.toNat = wl.toNat) (hx : x = wtP er (tlR (btD d) w ws wt wf) k.toNat) : lrS n w un wl er s u ws wt wf set.toInt.toNat d x := by
  have hd : ∀ j : Nat, (j : Int) < n → (bt d j = true ↔ dtS un s u set.toInt.toNat j) := fun j hj => dt_of hO.1.2 hs ha hb e hj
  refine ⟨hd, ?_⟩
  rw [hx, hk]
  exact wtP_c _ (fun j hj => tl_c (hO.2.2.1 j (by omega)) hO.1.1 hd)
/-- sets learnt so far -/
def lrI (n w un wl er : Int) (s u ws wt wf : Nat → Int32) (d : Nat → Int32) (x : Nat → Int64) (i : Int) : Prop := ∀ set : Nat, (set : Int) < i → lrS n w un wl er s u ws wt wf set (d set) (x set).toInt
theorem lrI_0 {n w un wl er i : Int} {s u ws wt wf d : Nat → Int32} {x : Nat → Int64} (h : i ≤ 0) : lrI n w un wl er s u ws wt wf d x i := fun set hs => by omega
theorem lrI_up {n w un wl er i i1 : Int} {s u ws wt wf d d1 : Nat → Int32} {x x1 : Nat → Int64} {I v : Int32} {y : Int64} (h : lrI n w un wl er s u ws wt wf d x i) (hI : I.toInt = i) (h0 : 0 ≤ i) (ed : upd d (Int32.toNatClampNeg I) v = d1) (ex : vp_updL x (Int32.toNatClampNeg I) y = x1) (hs : lrS n w un wl er s u ws wt wf I.toInt.toNat v y.toInt) (hi : i1 = i + 1) : lrI n w un wl er s u ws wt wf d1 x1 i1 := fun set hset => by
  have nI : Int32.toNatClampNeg I = I.toInt.toNat := rfl
  rw [← ed, ← ex]
  unfold upd vp_updL
  by_cases z : set = I.toInt.toNat
  · rw [nI, if_pos z, if_pos z, z]
    exact hs
  · rw [nI, if_neg z, if_neg z]
    exact h set (by omega)
theorem sets_of {I y : Int32} (e : y = 1 <<< (I &&& 31)) (h0 : 0 ≤ I.toInt) (h1 : I.toInt ≤ 5) : y.toInt = ((2 ^ I.toInt.toNat : Nat) : Int) ∧ 1 ≤ y.toInt ∧ y.toInt ≤ 32 := by
  have key : ∀ k : Nat, k ≤ 5 → ((1 : Int32) <<< (Int32.ofNat k &&& 31)).toInt = ((2 ^ k : Nat) : Int) ∧ 1 ≤ ((1 : Int32) <<< (Int32.ofNat k &&& 31)).toInt ∧ ((1 : Int32) <<< (Int32.ofNat k &&& 31)).toInt ≤ 32 := by decide +kernel
  have eI : I = Int32.ofNat I.toInt.toNat := oN_of (by omega)
  have g := key I.toInt.toNat (by omega)
  rw [← eI] at g
  rw [e]
  exact g
theorem rd_upd {f f1 : Nat → Int32} {I v x : Int32} (ed : upd f (Int32.toNatClampNeg I) v = f1) (ex : x = f1 (Int32.toNatClampNeg I)) : x = v := by
  rw [ex, ← ed]
  unfold upd
  rw [if_pos rfl]
theorem nn_of {r : Int} {R : Prop} (h : r = 1 ↔ ¬ R) (h0 : r = 0) : R := Classical.byContradiction (fun q => by have := h.mpr q; omega)
theorem wt_0 {er k w : Int} {R : Nat → Prop} (hk : k ≤ 0) (hw : w = 1) : w = wtP er R k.toNat := by
  rw [show k.toNat = 0 by omega, hw]
  rfl
theorem lg_p {c : Int32} {a z : Int64} (ec : c = lg_cmp a z) (hz : z = 0) (h : 0 < c.toInt) : 0 < a.toInt := by
  have g := lgt_cmp ec h
  rw [hz, z64] at g
  exact g
theorem lg_q {c : Int32} {a z : Int64} (ec : c = lg_cmp a z) (hz : z = 0) (h : c.toInt ≤ 0) : a.toInt ≤ 0 := by
  have g := lle_cmp ec h
  rw [hz, z64] at g
  exact g
theorem leq9 {x : Int32} {a b : Int64} (e : x = lg_cmp a b) (h : x.toInt = 0) : a = b := by
  rw [e] at h
  unfold lg_cmp at h
  split at h
  · exact absurd h (by decide)
  · split at h
    · assumption
    · exact absurd h (by decide)
theorem lne9 {x : Int32} {a b : Int64} (e : x = lg_cmp a b) (h : x.toInt ≠ 0) : ¬ a = b := by
  intro hz
  subst hz
  apply h
  rw [e]
  unfold lg_cmp
  rw [if_neg (fun q : a > a => by have := Int64.lt_iff_toInt_lt.mp q; omega), if_pos rfl]
  decide
def faP (W : Nat → Int) (n : Nat) (i r : Int) : Prop := (i < 0 ∧ r = -1) ∨ (0 ≤ i ∧ itP W i n r)
theorem er_sub {x c k : Int32} (e : x = c - k) (hc : c.toInt = 100) (h0 : 0 ≤ k.toInt) (h1 : k.toInt ≤ 100) : x.toInt = 100 - k.toInt := by
  have g : x.toInt = c.toInt - k.toInt := ti_sub (A := c.toInt) (B := k.toInt) e rfl rfl (by omega) (by omega)
  omega
theorem tl_r {r w : Int} {x v : Int32} {ws wt wf : Nat → Int32} {k : Nat} (h : r = 1 ↔ ¬ tlR (btD x) w ws wt wf k) (e : x = v) : r = 1 ↔ ¬ tlR (btD v) w ws wt wf k := by
  rw [← e]
  exact h
set_option maxHeartbeats 4000000 in
set_option maxRecDepth 100000 in
theorem sX4_bitsSouthOf (l : Launch) (dC : Nat → ClassId) (dI : Nat → Nat → Nat) (cy : Nat → ClassId) (h0 : Nat) (g_wide : Int32) (g_deep : Int32) (g_count : Int32) (g_sorts : Nat) (p1 : Int32) (p2 : Int32) (hg_wide : 0 ≤ g_wide.toInt ∧ g_wide.toInt ≤ 5) (hg_deep : 0 ≤ g_deep.toInt ∧ g_deep.toInt ≤ 4) (hg_count : 0 ≤ g_count.toInt ∧ g_count.toInt ≤ 20) (hp2 : p2.toInt ≤ 3) : ctI l dC dI cy hp yX4_bitsSouthOf cX4_bitsSouthOf 5 .int ({ frames := 0, cells := 0, slots := 0, locals := 0 } : Room) [.ref h0, .int p1, .int p2] [(h0, .inr (4, [.int g_wide, .int g_deep, .int g_count, .ref g_sorts]))] (S := Unit) (fun r _ => (0 ≤ p1.toInt → 0 ≤ g_wide.toInt → p1.toInt + g_wide.toInt * p2.toInt ≤ 19 → soI g_wide.toInt p1.toInt (p2.toInt + 1) r)) (fun _ => [(h0, .inr (4, [.int g_wide, .int g_deep, .int g_count, .ref g_sorts]))]) := by
  refine ctI.of (by decide +kernel) (Nat.le_of_ble_eq_true rfl) ?_
  intro p e s m args below meth c A ls Q hQ X hr hlocks hin hA hP hD hS hl
  have hx := X.1
  have hb := X.2.1
  have hK := X.2.2.2.2.2.1
  have hl : lv_has ls 5 [(0, .ref h0), (1, .int p1), (2, .int p2)] := hl
  have dy_1 := ti_bd p1
  have dy_2 := ti_bd p2
  refine lv_iconst (v := 0) hx hb dX4_bitsSouthOf_0 (by decide) ?_
  refine lv_istore_n (lv' := [(3, .int 0), (0, .ref h0), (1, .int p1), (2, .int p2)]) hx hb dX4_bitsSouthOf_1 rfl hl (by decide) rfl (fun ls hl => ?_)
  refine lv_iconst (v := 1) hx hb dX4_bitsSouthOf_2 (by decide) ?_
  refine lv_istore (lv' := [(4, .int 1), (3, .int 0), (0, .ref h0), (1, .int p1), (2, .int p2)]) hx hb dX4_bitsSouthOf_3 hl (by decide) rfl (fun ls hl => ?_)
  have lp_3 : ∀ (nlp_3 : Nat) (i_4 : Int32) (i_6 : Int32) (H : Heap) (locs : List Loc) (ls : Array Slot), (1 ≤ i_4.toInt ∧ i_4.toInt ≤ 4) → (0 ≤ p1.toInt → 0 ≤ g_wide.toInt → p1.toInt + g_wide.toInt * p2.toInt ≤ 19 → soI g_wide.toInt p1.toInt i_4.toInt i_6) → (i_4.toInt ≤ p2.toInt + 1 ∨ i_4.toInt ≤ 1) → (5 - i_4.toInt ≤ (nlp_3 : Int)) → va_P (dC, dI) vwCl [(h0, .inr (4, [.int g_wide, .int g_deep, .int g_count, .ref g_sorts]))] H → va_D A [(h0, .inr (4, [.int g_wide, .int g_deep, .int g_count, .ref g_sorts]))] → va_S A s.heap H locs → lv_has ls 5 [(4, .int i_4), (3, .int i_6), (0, .ref h0), (1, .int p1), (2, .int p2)] → W p l e ({ frames := 0, cells := 0, slots := 0, locals := 0 } : Room) s m args below meth c H locs 0 0 Q (F0 m 5 ls []) := by
    intro nlp_3
    induction nlp_3 with
    | zero =>
      intro i_4 i_6 H locs ls b_5 b_7 b_8 hmlp_3 hP hD hS hl
      exfalso
      have di_4 := ti_bd i_4
      have di_6 := ti_bd i_6
      omega
    | succ nlp_3 ihlp_3 =>
      intro i_4 i_6 H locs ls b_5 b_7 b_8 hmlp_3 hP hD hS hl
      refine lv_iload hx hb dX4_bitsSouthOf_5 (lv_at hl 0 rfl) ?_
      refine lv_iload_n hx hb dX4_bitsSouthOf_7 rfl (lv_at hl 4 rfl) ?_
      refine lv_icmp_gt (tgt := 31) hx hb dX4_bitsSouthOf_8 (by decide) (fun h_9 => ?_) (fun h_9 => ?_)
      · have h_9 : p2.toInt < i_4.toInt := c_lt h_9
        refine lv_iload_n hx hb dX4_bitsSouthOf_31 rfl (lv_at hl 1 rfl) ?_
        exact eI hQ X hr hlocks hP hD hS () [0] (by decide) rfl rfl (show (0 ≤ p1.toInt → 0 ≤ g_wide.toInt → p1.toInt + g_wide.toInt * p2.toInt ≤ 19 → soI g_wide.toInt p1.toInt (p2.toInt + 1) i_6) from (fun h7 h8 h9 => so_end (b_7 h7 h8 h9) (by omega) (by omega))) (Nat.le_of_ble_eq_true rfl) (Nat.le_of_ble_eq_true rfl) dX4_bitsSouthOf_32
      · have h_9 : i_4.toInt ≤ p2.toInt := c_nlt h_9
        refine lv_iload_n hx hb dX4_bitsSouthOf_11 rfl (lv_at hl 1 rfl) ?_
        refine lv_iconst (v := 1) hx hb dX4_bitsSouthOf_12 (by decide) ?_
        refine lv_iload_n hx hb dX4_bitsSouthOf_13 rfl (lv_at hl 3 rfl) ?_
        refine lv_iload hx hb dX4_bitsSouthOf_14 (lv_at hl 0 rfl) ?_
        refine lv_aload_n hx hb dX4_bitsSouthOf_16 rfl (lv_at hl 2 rfl) ?_
        refine r_get X kcX4 (ci := 4) rfl hP 0 rfl 0 (by decide) fX4_15 rfl dX4_bitsSouthOf_17 ?_
        refine lv_imul hx hb dX4_bitsSouthOf_20 ?_
        refine lv_topi (fun x_10 ex_10 => ?_)
        have tx_10 : x_10.toInt = i_4.toInt * g_wide.toInt ∧ 0 ≤ i_4.toInt * g_wide.toInt ∧ i_4.toInt * g_wide.toInt ≤ 15 := ti_mulr (A := 3) (B := 5) ex_10 (by omega) (by omega) (by omega) (by omega) (by decide)
        refine lv_iadd hx hb dX4_bitsSouthOf_21 ?_
        refine lv_topi (fun x_11 ex_11 => ?_)
        refine lv_ishl hx hb dX4_bitsSouthOf_22 ?_
        have dy_12 := ti_bd x_11
        refine lv_topi (fun x_13 ex_13 => ?_)
        refine lv_ior hx hb dX4_bitsSouthOf_23 ?_
        have dy_14 := ti_bd i_6
        have dy_15 := ti_bd x_13
        refine lv_topi (fun x_16 ex_16 => ?_)
        refine lv_istore_n (lv' := [(3, .int x_16), (4, .int i_4), (0, .ref h0), (1, .int p1), (2, .int p2)]) hx hb dX4_bitsSouthOf_24 rfl hl (by decide) rfl (fun ls hl => ?_)
        obtain ⟨x_17, ex_17⟩ : ∃ y : Int32, y = i_4 + 1 := ⟨_, rfl⟩
        have tx_17 : x_17.toInt = i_4.toInt + 1 := ti_add (A := i_4.toInt) (B := 1) ex_17 rfl rfl (by omega) (by omega)
        refine lv_iinc (v := x_17) (lv' := [(4, .int x_17), (3, .int x_16), (0, .ref h0), (1, .int p1), (2, .int p2)]) hx hb dX4_bitsSouthOf_25 hl (k := 1) rfl (by rw [ex_17]; rfl) (by decide) rfl (fun ls hl => ?_)
        refine lv_goto (tgt := 5) hx hb dX4_bitsSouthOf_28 (by decide) ?_
        exact ihlp_3 x_17 x_16 _ _ _ (by omega) (show 0 ≤ p1.toInt → 0 ≤ g_wide.toInt → p1.toInt + g_wide.toInt * p2.toInt ≤ 19 → soI g_wide.toInt p1.toInt x_17.toInt x_16 from (fun h7 h8 h9 => soI_st (b_7 h7 h8 h9) ex_10 ex_11 ex_13 ex_16 h7 h8 (by omega) h9 (by omega) (by omega) (by omega) (by omega))) (show x_17.toInt ≤ p2.toInt + 1 ∨ x_17.toInt ≤ 1 by omega) (show 5 - x_17.toInt ≤ (nlp_3 : Int) by omega) hP hD hS (lv_sub hl [0, 1, 2, 3, 4] rfl)
  exact lp_3 5 1 0 _ _ _ (by decide) (show 0 ≤ p1.toInt → 0 ≤ g_wide.toInt → p1.toInt + g_wide.toInt * p2.toInt ≤ 19 → soI g_wide.toInt p1.toInt 1 (0 : Int32) from (fun _ _ _ => soI_0 rfl (by decide))) (show 1 ≤ p2.toInt + 1 ∨ 1 ≤ 1 by omega) (show 5 - 1 ≤ ((5 : Nat) : Int) by omega) hP hD hS hl
set_option maxHeartbeats 4000000 in
set_option maxRecDepth 100000 in
theorem sX7_unsureBits (l : Launch) (dC : Nat → ClassId) (dI : Nat → Nat → Nat) (cy : Nat → ClassId) (h0 : Nat) (k_ground : Nat) (k_errs : Int32) (k_slips : Int32) (k_rows : Int32) (k_unsureCount : Int32) (k_unsure : Nat) (k_walkers : Int32) (k_names : Nat) (k_kinds : Nat) (k_starts : Nat) (k_goals : Nat) (k_walks : Int32) (k_walkStarts : Nat) (k_walkSteps : Nat) (k_walkFell : Nat) (k_unsuref : Nat → Int32) (p1 : Int32) (hk_rows : 0 ≤ k_rows.toInt ∧ k_rows.toInt ≤ 4) (hk_unsureCount : 0 ≤ k_unsureCount.toInt ∧ k_unsureCount.toInt ≤ 5) (hk_walkers : 0 ≤ k_walkers.toInt ∧ k_walkers.toInt ≤ 4) (hk_walks : 0 ≤ k_walks.toInt ∧ k_walks.toInt ≤ 6) : ctI l dC dI cy hp yX7_unsureBits cX7_unsureBits 4 .int ({ frames := 0, cells := 0, slots := 0, locals := 0 } : Room) [.ref h0, .int p1] [(h0, .inr (7, [.ref k_ground, .int k_errs, .int k_slips, .int k_rows, .int k_unsureCount, .ref k_unsure, .int k_walkers, .ref k_names, .ref k_kinds, .ref k_starts, .ref k_goals, .int k_walks, .ref k_walkStarts, .ref k_walkSteps, .ref k_walkFell])), (k_unsure, .inl (cy 1, 5, .inl k_unsuref))] (S := Unit) (fun r _ => (ucO k_unsuref k_unsureCount.toInt → ubI k_unsuref k_unsureCount.toInt p1 r)) (fun _ => [(h0, .inr (7, [.ref k_ground, .int k_errs, .int k_slips, .int k_rows, .int k_unsureCount, .ref k_unsure, .int k_walkers, .ref k_names, .ref k_kinds, .ref k_starts, .ref k_goals, .int k_walks, .ref k_walkStarts, .ref k_walkSteps, .ref k_walkFell])), (k_unsure, .inl (cy 1, 5, .inl k_unsuref))]) := by
  refine ctI.of (by decide +kernel) (Nat.le_of_ble_eq_true rfl) ?_
  intro p e s m args below meth c A ls Q hQ X hr hlocks hin hA hP hD hS hl
  have hx := X.1
  have hb := X.2.1
  have hK := X.2.2.2.2.2.1
  have hl : lv_has ls 4 [(0, .ref h0), (1, .int p1)] := hl
  have dy_1 := ti_bd p1
  refine lv_iconst (v := 0) hx hb dX7_unsureBits_0 (by decide) ?_
  refine lv_istore_n (lv' := [(2, .int 0), (0, .ref h0), (1, .int p1)]) hx hb dX7_unsureBits_1 rfl hl (by decide) rfl (fun ls hl => ?_)
  refine lv_iconst (v := 0) hx hb dX7_unsureBits_2 (by decide) ?_
  refine lv_istore_n (lv' := [(3, .int 0), (2, .int 0), (0, .ref h0), (1, .int p1)]) hx hb dX7_unsureBits_3 rfl hl (by decide) rfl (fun ls hl => ?_)
  have lp_2 : ∀ (nlp_2 : Nat) (i_3 : Int32) (i_5 : Int32) (H : Heap) (locs : List Loc) (ls : Array Slot), (0 ≤ i_3.toInt ∧ i_3.toInt ≤ 5) → (ucO k_unsuref k_unsureCount.toInt → ubI k_unsuref i_3.toInt p1 i_5) → (i_3.toInt ≤ k_unsureCount.toInt) → (6 - i_3.toInt ≤ (nlp_2 : Int)) → va_P (dC, dI) vwCl [(h0, .inr (7, [.ref k_ground, .int k_errs, .int k_slips, .int k_rows, .int k_unsureCount, .ref k_unsure, .int k_walkers, .ref k_names, .ref k_kinds, .ref k_starts, .ref k_goals, .int k_walks, .ref k_walkStarts, .ref k_walkSteps, .ref k_walkFell])), (k_unsure, .inl (cy 1, 5, .inl k_unsuref))] H → va_D A [(h0, .inr (7, [.ref k_ground, .int k_errs, .int k_slips, .int k_rows, .int k_unsureCount, .ref k_unsure, .int k_walkers, .ref k_names, .ref k_kinds, .ref k_starts, .ref k_goals, .int k_walks, .ref k_walkStarts, .ref k_walkSteps, .ref k_walkFell])), (k_unsure, .inl (cy 1, 5, .inl k_unsuref))] → va_S A s.heap H locs → lv_has ls 4 [(3, .int i_3), (2, .int i_5), (0, .ref h0), (1, .int p1)] → W p l e ({ frames := 0, cells := 0, slots := 0, locals := 0 } : Room) s m args below meth c H locs 0 0 Q (F0 m 4 ls []) := by
    intro nlp_2
    induction nlp_2 with
    | zero =>
      intro i_3 i_5 H locs ls b_4 b_6 b_7 hmlp_2 hP hD hS hl
      exfalso
      have di_3 := ti_bd i_3
      have di_5 := ti_bd i_5
      omega
    | succ nlp_2 ihlp_2 =>
      intro i_3 i_5 H locs ls b_4 b_6 b_7 hmlp_2 hP hD hS hl
      refine lv_iload_n hx hb dX7_unsureBits_4 rfl (lv_at hl 0 rfl) ?_
      refine lv_aload_n hx hb dX7_unsureBits_5 rfl (lv_at hl 2 rfl) ?_
      refine r_get X kcX7 (ci := 7) rfl hP 0 rfl 4 (by decide) fX7_53 rfl dX7_unsureBits_6 ?_
      refine lv_icmp_ge (tgt := 38) hx hb dX7_unsureBits_9 (by decide) (fun h_8 => ?_) (fun h_8 => ?_)
      · have h_8 : k_unsureCount.toInt ≤ i_3.toInt := c_le h_8
        refine lv_iload_n hx hb dX7_unsureBits_38 rfl (lv_at hl 1 rfl) ?_
        exact eI hQ X hr hlocks hP hD hS () [0, 1] (by decide) rfl rfl (show (ucO k_unsuref k_unsureCount.toInt → ubI k_unsuref k_unsureCount.toInt p1 i_5) from (fun h5 => by have h9 := b_6 h5; rw [show i_3.toInt = k_unsureCount.toInt by omega] at h9; exact h9)) (Nat.le_of_ble_eq_true rfl) (Nat.le_of_ble_eq_true rfl) dX7_unsureBits_39
      · have h_8 : i_3.toInt < k_unsureCount.toInt := c_nle h_8
        refine lv_iload_n hx hb dX7_unsureBits_12 rfl (lv_at hl 3 rfl) ?_
        refine lv_iload_n hx hb dX7_unsureBits_13 rfl (lv_at hl 0 rfl) ?_
        refine lv_ishr hx hb dX7_unsureBits_14 ?_
        refine lv_topi (fun x_9 ex_9 => ?_)
        refine lv_iconst (v := 1) hx hb dX7_unsureBits_15 (by decide) ?_
        refine lv_iand hx hb dX7_unsureBits_16 ?_
        have dy_10 := ti_bd x_9
        refine lv_topi (fun x_11 ex_11 => ?_)
        have tx_11 : x_11.toInt = 0 ∨ x_11.toInt = 1 := ti_and1 ex_11
        refine lv_iconst (v := 1) hx hb dX7_unsureBits_17 (by decide) ?_
        refine lv_icmp_ne (tgt := 32) hx hb dX7_unsureBits_18 (by decide) (fun h_12 => ?_) (fun h_12 => ?_)
        · have h_12 : x_11.toInt ≠ 1 := c_ne h_12
          obtain ⟨x_13, ex_13⟩ : ∃ y : Int32, y = i_3 + 1 := ⟨_, rfl⟩
          have tx_13 : x_13.toInt = i_3.toInt + 1 := ti_add (A := i_3.toInt) (B := 1) ex_13 rfl rfl (by omega) (by omega)
          refine lv_iinc (v := x_13) (lv' := [(3, .int x_13), (2, .int i_5), (0, .ref h0), (1, .int p1)]) hx hb dX7_unsureBits_32 hl (k := 0) rfl (by rw [ex_13]; rfl) (by decide) rfl (fun ls hl => ?_)
          refine lv_goto (tgt := 4) hx hb dX7_unsureBits_35 (by decide) ?_
          exact ihlp_2 x_13 i_5 _ _ _ (by omega) (show ucO k_unsuref k_unsureCount.toInt → ubI k_unsuref x_13.toInt p1 i_5 from (fun h5 => ubI_n (i := i_3.toInt) (b_6 h5) (by omega) (fun z9 => absurd ((bit_of ex_9 ex_11 (by omega) (by omega)).mpr z9) (by omega)) (by omega))) (show x_13.toInt ≤ k_unsureCount.toInt by omega) (show 6 - x_13.toInt ≤ (nlp_2 : Int) by omega) hP hD hS (lv_sub hl [0, 1, 2, 3] rfl)
        · have h_12 : x_11.toInt = 1 := c_eq h_12
          refine lv_iload_n hx hb dX7_unsureBits_21 rfl (lv_at hl 1 rfl) ?_
          refine lv_iconst (v := 1) hx hb dX7_unsureBits_22 (by decide) ?_
          refine lv_aload_n hx hb dX7_unsureBits_23 rfl (lv_at hl 2 rfl) ?_
          refine r_get X kcX7 (ci := 7) rfl hP 0 rfl 5 (by decide) fX7_18 rfl dX7_unsureBits_24 ?_
          refine lv_iload_n hx hb dX7_unsureBits_27 rfl (lv_at hl 0 rfl) ?_
          refine va_iald (D := (dC, dI)) (cl := vwCl) hx hb hK hP 1 1 rfl rfl (i := i_3) (vin (by omega) (by omega)) dX7_unsureBits_28 ?_
          refine lv_topi (fun x_14 ex_14 => ?_)
          refine lv_ishl hx hb dX7_unsureBits_29 ?_
          have dy_15 := ti_bd x_14
          refine lv_topi (fun x_16 ex_16 => ?_)
          refine lv_ior hx hb dX7_unsureBits_30 ?_
          have dy_17 := ti_bd i_5
          have dy_18 := ti_bd x_16
          refine lv_topi (fun x_19 ex_19 => ?_)
          refine lv_istore_n (lv' := [(2, .int x_19), (3, .int i_3), (0, .ref h0), (1, .int p1)]) hx hb dX7_unsureBits_31 rfl hl (by decide) rfl (fun ls hl => ?_)
          obtain ⟨x_20, ex_20⟩ : ∃ y : Int32, y = i_3 + 1 := ⟨_, rfl⟩
          have tx_20 : x_20.toInt = i_3.toInt + 1 := ti_add (A := i_3.toInt) (B := 1) ex_20 rfl rfl (by omega) (by omega)
          refine lv_iinc (v := x_20) (lv' := [(3, .int x_20), (2, .int x_19), (0, .ref h0), (1, .int p1)]) hx hb dX7_unsureBits_32 hl (k := 1) rfl (by rw [ex_20]; rfl) (by decide) rfl (fun ls hl => ?_)
          refine lv_goto (tgt := 4) hx hb dX7_unsureBits_35 (by decide) ?_
          exact ihlp_2 x_20 x_19 _ _ _ (by omega) (show ucO k_unsuref k_unsureCount.toInt → ubI k_unsuref x_20.toInt p1 x_19 from (fun h5 => ubI_y (i := i_3.toInt) (b_6 h5) (by omega) ((bit_of ex_9 ex_11 (by omega) (by omega)).mp (by omega)) ex_14 (uc_e h5 ex_14 (by omega) (by omega)).1 (uc_e h5 ex_14 (by omega) (by omega)).2 ex_16 ex_19 (by omega))) (show x_20.toInt ≤ k_unsureCount.toInt by omega) (show 6 - x_20.toInt ≤ (nlp_2 : Int) by omega) hP hD hS (lv_sub hl [0, 1, 2, 3] rfl)
  exact lp_2 6 0 0 _ _ _ (by decide) (show ucO k_unsuref k_unsureCount.toInt → ubI k_unsuref 0 p1 (0 : Int32) from (fun _ => ubI_0 rfl (by decide))) (show 0 ≤ k_unsureCount.toInt by omega) (show 6 - 0 ≤ ((6 : Nat) : Int) by omega) hP hD hS hl
set_option maxHeartbeats 4000000 in
set_option maxRecDepth 100000 in
theorem sX7_isUnsure (l : Launch) (dC : Nat → ClassId) (dI : Nat → Nat → Nat) (cy : Nat → ClassId) (h0 : Nat) (k_ground : Nat) (k_errs : Int32) (k_slips : Int32) (k_rows : Int32) (k_unsureCount : Int32) (k_unsure : Nat) (k_walkers : Int32) (k_names : Nat) (k_kinds : Nat) (k_starts : Nat) (k_goals : Nat) (k_walks : Int32) (k_walkStarts : Nat) (k_walkSteps : Nat) (k_walkFell : Nat) (k_unsuref : Nat → Int32) (p1 : Int32) (hk_rows : 0 ≤ k_rows.toInt ∧ k_rows.toInt ≤ 4) (hk_unsureCount : 0 ≤ k_unsureCount.toInt ∧ k_unsureCount.toInt ≤ 5) (hk_walkers : 0 ≤ k_walkers.toInt ∧ k_walkers.toInt ≤ 4) (hk_walks : 0 ≤ k_walks.toInt ∧ k_walks.toInt ≤ 6) : ctI l dC dI cy hp yX7_isUnsure cX7_isUnsure 2 .boolean ({ frames := 1, cells := 0, slots := 0, locals := 23 } : Room) [.ref h0, .int p1] [(h0, .inr (7, [.ref k_ground, .int k_errs, .int k_slips, .int k_rows, .int k_unsureCount, .ref k_unsure, .int k_walkers, .ref k_names, .ref k_kinds, .ref k_starts, .ref k_goals, .int k_walks, .ref k_walkStarts, .ref k_walkSteps, .ref k_walkFell])), (k_unsure, .inl (cy 1, 5, .inl k_unsuref))] (S := Unit) (fun r _ => (0 ≤ r.toInt ∧ r.toInt ≤ 1)) (fun _ => [(h0, .inr (7, [.ref k_ground, .int k_errs, .int k_slips, .int k_rows, .int k_unsureCount, .ref k_unsure, .int k_walkers, .ref k_names, .ref k_kinds, .ref k_starts, .ref k_goals, .int k_walks, .ref k_walkStarts, .ref k_walkSteps, .ref k_walkFell])), (k_unsure, .inl (cy 1, 5, .inl k_unsuref))]) := by
  refine ctI.of (by decide +kernel) (Nat.le_of_ble_eq_true rfl) ?_
  intro p e s m args below meth c A ls Q hQ X hr hlocks hin hA hP hD hS hl
  have hx := X.1
  have hb := X.2.1
  have hK := X.2.2.2.2.2.1
  have hl : lv_has ls 2 [(0, .ref h0), (1, .int p1)] := hl
  have dy_1 := ti_bd p1
  refine lv_aload_n hx hb dX7_isUnsure_0 rfl (lv_at hl 0 rfl) ?_
  refine lv_iconst (v := 1) hx hb dX7_isUnsure_1 (by decide) ?_
  refine lv_aload_n hx hb dX7_isUnsure_2 rfl (lv_at hl 0 rfl) ?_
  refine r_get X kcX7 (ci := 7) rfl hP 0 rfl 4 (by decide) fX7_53 rfl dX7_isUnsure_3 ?_
  refine lv_ishl hx hb dX7_isUnsure_6 ?_
  refine lv_topi (fun x_2 ex_2 => ?_)
  have tx_2 : 1 ≤ x_2.toInt ∧ x_2.toInt ≤ 32 := ti_shl5 ex_2 (by omega) (by omega)
  refine lv_iconst (v := 1) hx hb dX7_isUnsure_7 (by decide) ?_
  refine lv_isub hx hb dX7_isUnsure_8 ?_
  refine lv_topi (fun x_3 ex_3 => ?_)
  have tx_3 : x_3.toInt = x_2.toInt - 1 := ti_sub (A := x_2.toInt) (B := 1) ex_3 rfl rfl (by omega) (by omega)
  refine sl_Ic (rV_I (As := [.int x_3]) (rest := []) X hp_st (fun _ _ _ h => h) (sX7_unsureBits l dC dI cy h0 k_ground k_errs k_slips k_rows k_unsureCount k_unsure k_walkers k_names k_kinds k_starts k_goals k_walks k_walkStarts k_walkSteps k_walkFell k_unsuref x_3 hk_rows hk_unsureCount hk_walkers hk_walks) kX7_unsureBits vX7_unsureBits mX7_72 hP hD hS hA [0, 1] (by decide) rfl 0 (ci := 7) rfl rfl rfl hl rfl rfl (Nat.le_of_ble_eq_true rfl) dX7_isUnsure_9 ⟨(Nat.le_of_ble_eq_true rfl), (Nat.le_of_ble_eq_true rfl)⟩ ⟨(Nat.le_of_ble_eq_true rfl), (Nat.le_of_ble_eq_true rfl)⟩) hP hD hS hA [0, 1] [false, false] rfl rfl rfl (fun r_4 u_6 H locs k_5 hP hD hS => ?_)
  have k_5 : (ucO k_unsuref k_unsureCount.toInt → ubI k_unsuref k_unsureCount.toInt x_3 r_4) := k_5
  have hPD := vPD (ws' := [(h0, .inr (7, [.ref k_ground, .int k_errs, .int k_slips, .int k_rows, .int k_unsureCount, .ref k_unsure, .int k_walkers, .ref k_names, .ref k_kinds, .ref k_starts, .ref k_goals, .int k_walks, .ref k_walkStarts, .ref k_walkSteps, .ref k_walkFell])), (k_unsure, .inl (cy 1, 5, .inl k_unsuref))]) hP hD rfl
  have hP := hPD.1
  have hD := hPD.2
  refine lv_iload_n hx hb dX7_isUnsure_12 rfl (lv_at hl 1 rfl) ?_
  refine lv_ishr hx hb dX7_isUnsure_13 ?_
  have dy_7 := ti_bd r_4
  refine lv_topi (fun x_8 ex_8 => ?_)
  refine lv_iconst (v := 1) hx hb dX7_isUnsure_14 (by decide) ?_
  refine lv_iand hx hb dX7_isUnsure_15 ?_
  have dy_9 := ti_bd x_8
  refine lv_topi (fun x_10 ex_10 => ?_)
  have tx_10 : x_10.toInt = 0 ∨ x_10.toInt = 1 := ti_and1 ex_10
  refine lv_iconst (v := 1) hx hb dX7_isUnsure_16 (by decide) ?_
  refine lv_icmp_ne (tgt := 24) hx hb dX7_isUnsure_17 (by decide) (fun h_11 => ?_) (fun h_11 => ?_)
  · have h_11 : x_10.toInt ≠ 1 := c_ne h_11
    refine lv_iconst (v := 0) hx hb dX7_isUnsure_24 (by decide) ?_
    exact eI hQ X hr hlocks hP hD hS () [0, 1] (by decide) rfl rfl (show (0 ≤ (0 : Int32).toInt ∧ (0 : Int32).toInt ≤ 1) from (by first | decide | (have h9_0 : (0 : Int32).toInt = 0 := (by decide); omega) | (refine ⟨by decide, ?_⟩; omega) | omega)) (Nat.le_of_ble_eq_true rfl) (Nat.le_of_ble_eq_true rfl) dX7_isUnsure_25
  · have h_11 : x_10.toInt = 1 := c_eq h_11
    refine lv_iconst (v := 1) hx hb dX7_isUnsure_20 (by decide) ?_
    refine lv_goto (tgt := 25) hx hb dX7_isUnsure_21 (by decide) ?_
    exact eI hQ X hr hlocks hP hD hS () [0, 1] (by decide) rfl rfl (show (0 ≤ (1 : Int32).toInt ∧ (1 : Int32).toInt ≤ 1) from (by first | decide | (have h9_0 : (1 : Int32).toInt = 1 := (by decide); omega) | (refine ⟨by decide, ?_⟩; omega) | omega)) (Nat.le_of_ble_eq_true rfl) (Nat.le_of_ble_eq_true rfl) dX7_isUnsure_25
set_option maxHeartbeats 4000000 in
set_option maxRecDepth 100000 in
theorem sX7_isToldWrongly (l : Launch) (dC : Nat → ClassId) (dI : Nat → Nat → Nat) (cy : Nat → ClassId) (h0 : Nat) (k_ground : Nat) (k_errs : Int32) (k_slips : Int32) (k_rows : Int32) (k_unsureCount : Int32) (k_unsure : Nat) (k_walkers : Int32) (k_names : Nat) (k_kinds : Nat) (k_starts : Nat) (k_goals : Nat) (k_walks : Int32) (k_walkStarts : Nat) (k_walkSteps : Nat) (k_walkFell : Nat) (k_ground_wide : Int32) (k_ground_deep : Int32) (k_ground_count : Int32) (k_ground_sorts : Nat) (k_ground_sortsf : Nat → Int32) (k_walkStartsf : Nat → Int32) (k_walkStepsf : Nat → Int32) (k_walkFellf : Nat → Int32) (p1 : Int32) (p2 : Int32) (hk_rows : 0 ≤ k_rows.toInt ∧ k_rows.toInt ≤ 4) (hk_unsureCount : 0 ≤ k_unsureCount.toInt ∧ k_unsureCount.toInt ≤ 5) (hk_walkers : 0 ≤ k_walkers.toInt ∧ k_walkers.toInt ≤ 4) (hk_walks : 0 ≤ k_walks.toInt ∧ k_walks.toInt ≤ 6) (hk_ground_wide : 0 ≤ k_ground_wide.toInt ∧ k_ground_wide.toInt ≤ 5) (hk_ground_deep : 0 ≤ k_ground_deep.toInt ∧ k_ground_deep.toInt ≤ 4) (hk_ground_count : 0 ≤ k_ground_count.toInt ∧ k_ground_count.toInt ≤ 20) (hk_walkStepsf : rb k_walkStepsf 6 (-2147483648) 3) (hp1 : 0 ≤ p1.toInt ∧ p1.toInt ≤ 5) : ctI l dC dI cy hp yX7_isToldWrongly cX7_isToldWrongly 4 .boolean ({ frames := 1, cells := 0, slots := 0, locals := 24 } : Room) [.ref h0, .int p1, .int p2] [(h0, .inr (7, [.ref k_ground, .int k_errs, .int k_slips, .int k_rows, .int k_unsureCount, .ref k_unsure, .int k_walkers, .ref k_names, .ref k_kinds, .ref k_starts, .ref k_goals, .int k_walks, .ref k_walkStarts, .ref k_walkSteps, .ref k_walkFell])), (k_ground, .inr (4, [.int k_ground_wide, .int k_ground_deep, .int k_ground_count, .ref k_ground_sorts])), (k_ground_sorts, .inl (cy 1, 20, .inl k_ground_sortsf)), (k_walkStarts, .inl (cy 1, 6, .inl k_walkStartsf)), (k_walkSteps, .inl (cy 1, 6, .inl k_walkStepsf)), (k_walkFell, .inl (cy 3, 6, .inl k_walkFellf))] (S := Unit) (fun r _ => (0 ≤ r.toInt ∧ r.toInt ≤ 1) ∧ (wlO k_ground_count.toInt k_ground_wide.toInt k_walkStartsf k_walkStepsf k_walkFellf p1.toInt.toNat → 0 ≤ k_ground_wide.toInt → (r.toInt = 1 ↔ ¬ tlR (btD p2) k_ground_wide.toInt k_walkStartsf k_walkStepsf k_walkFellf p1.toInt.toNat))) (fun _ => [(h0, .inr (7, [.ref k_ground, .int k_errs, .int k_slips, .int k_rows, .int k_unsureCount, .ref k_unsure, .int k_walkers, .ref k_names, .ref k_kinds, .ref k_starts, .ref k_goals, .int k_walks, .ref k_walkStarts, .ref k_walkSteps, .ref k_walkFell])), (k_ground, .inr (4, [.int k_ground_wide, .int k_ground_deep, .int k_ground_count, .ref k_ground_sorts])), (k_ground_sorts, .inl (cy 1, 20, .inl k_ground_sortsf)), (k_walkStarts, .inl (cy 1, 6, .inl k_walkStartsf)), (k_walkSteps, .inl (cy 1, 6, .inl k_walkStepsf)), (k_walkFell, .inl (cy 3, 6, .inl k_walkFellf))]) := by
  refine ctI.of (by decide +kernel) (Nat.le_of_ble_eq_true rfl) ?_
  intro p e s m args below meth c A ls Q hQ X hr hlocks hin hA hP hD hS hl
  have hx := X.1
  have hb := X.2.1
  have hK := X.2.2.2.2.2.1
  have hl : lv_has ls 4 [(0, .ref h0), (1, .int p1), (2, .int p2)] := hl
  have dy_1 := ti_bd p2
  refine lv_aload_n hx hb dX7_isToldWrongly_0 rfl (lv_at hl 0 rfl) ?_
  refine r_get X kcX7 (ci := 7) rfl hP 0 rfl 0 (by decide) fX7_12 rfl dX7_isToldWrongly_1 ?_
  refine lv_aload_n hx hb dX7_isToldWrongly_4 rfl (lv_at hl 0 rfl) ?_
  refine r_get X kcX7 (ci := 7) rfl hP 0 rfl 12 (by decide) fX7_35 rfl dX7_isToldWrongly_5 ?_
  refine lv_iload_n hx hb dX7_isToldWrongly_8 rfl (lv_at hl 1 rfl) ?_
  refine va_iald (D := (dC, dI)) (cl := vwCl) hx hb hK hP 3 1 rfl rfl (i := p1) (vin (by omega) (by omega)) dX7_isToldWrongly_9 ?_
  refine lv_topi (fun x_2 ex_2 => ?_)
  refine lv_aload_n hx hb dX7_isToldWrongly_10 rfl (lv_at hl 0 rfl) ?_
  refine r_get X kcX7 (ci := 7) rfl hP 0 rfl 13 (by decide) fX7_38 rfl dX7_isToldWrongly_11 ?_
  refine lv_iload_n hx hb dX7_isToldWrongly_14 rfl (lv_at hl 1 rfl) ?_
  refine va_iald (D := (dC, dI)) (cl := vwCl) hx hb hK hP 4 1 rfl rfl (i := p1) (vin (by omega) (by omega)) dX7_isToldWrongly_15 ?_
  refine lv_topi (fun x_3 ex_3 => ?_)
  have bx_3 : (-2147483648) ≤ x_3.toInt ∧ x_3.toInt ≤ 3 := rb_at hk_walkStepsf ex_3 (by omega) (by omega)
  refine sl_Ic (rV_I (As := [.int x_2, .int x_3]) (rest := []) X hp_st (fun _ _ _ h => h) (sX4_bitsSouthOf l dC dI cy k_ground k_ground_wide k_ground_deep k_ground_count k_ground_sorts x_2 x_3 hk_ground_wide hk_ground_deep hk_ground_count (by first | decide | omega)) kX4_bitsSouthOf vX4_bitsSouthOf mX7_76 hP hD hS hA [1] (by decide) rfl 0 (ci := 4) rfl rfl rfl hl rfl rfl (Nat.le_of_ble_eq_true rfl) dX7_isToldWrongly_16 ⟨(Nat.le_of_ble_eq_true rfl), (Nat.le_of_ble_eq_true rfl)⟩ ⟨(Nat.le_of_ble_eq_true rfl), (Nat.le_of_ble_eq_true rfl)⟩) hP hD hS hA [1] [true, false, true, true, true, true] rfl rfl rfl (fun r_4 u_6 H locs k_5 hP hD hS => ?_)
  have k_5 : (0 ≤ x_2.toInt → 0 ≤ k_ground_wide.toInt → x_2.toInt + k_ground_wide.toInt * x_3.toInt ≤ 19 → soI k_ground_wide.toInt x_2.toInt (x_3.toInt + 1) r_4) := k_5
  have hPD := vPD (ws' := [(h0, .inr (7, [.ref k_ground, .int k_errs, .int k_slips, .int k_rows, .int k_unsureCount, .ref k_unsure, .int k_walkers, .ref k_names, .ref k_kinds, .ref k_starts, .ref k_goals, .int k_walks, .ref k_walkStarts, .ref k_walkSteps, .ref k_walkFell])), (k_ground_sorts, .inl (cy 1, 20, .inl k_ground_sortsf)), (k_walkStarts, .inl (cy 1, 6, .inl k_walkStartsf)), (k_walkSteps, .inl (cy 1, 6, .inl k_walkStepsf)), (k_walkFell, .inl (cy 3, 6, .inl k_walkFellf)), (k_ground, .inr (4, [.int k_ground_wide, .int k_ground_deep, .int k_ground_count, .ref k_ground_sorts]))]) hP hD rfl
  have hP := hPD.1
  have hD := hPD.2
  refine lv_iload_n hx hb dX7_isToldWrongly_19 rfl (lv_at hl 2 rfl) ?_
  refine lv_iand hx hb dX7_isToldWrongly_20 ?_
  have dy_7 := ti_bd r_4
  refine lv_topi (fun x_8 ex_8 => ?_)
  refine lv_if_eq (tgt := 28) hx hb dX7_isToldWrongly_21 (by decide) (fun h_9 => ?_) (fun h_9 => ?_)
  · have h_9 : x_8.toInt = 0 := c_eq h_9
    refine lv_iconst (v := 0) hx hb dX7_isToldWrongly_28 (by decide) ?_
    refine lv_istore_n (lv' := [(3, .int 0), (0, .ref h0), (1, .int p1), (2, .int p2)]) hx hb dX7_isToldWrongly_29 rfl hl (by decide) rfl (fun ls hl => ?_)
    refine lv_iload_n hx hb dX7_isToldWrongly_30 rfl (lv_at hl 0 rfl) ?_
    refine lv_aload_n hx hb dX7_isToldWrongly_31 rfl (lv_at hl 1 rfl) ?_
    refine r_get X kcX7 (ci := 7) rfl hP 0 rfl 14 (by decide) fX7_41 rfl dX7_isToldWrongly_32 ?_
    refine lv_iload_n hx hb dX7_isToldWrongly_35 rfl (lv_at hl 2 rfl) ?_
    refine va_zald (D := (dC, dI)) (cl := vwCl) hx hb hK hP 4 3 rfl rfl (i := p1) (vin (by omega) (by omega)) dX7_isToldWrongly_36 ?_
    refine lv_topi (fun x_10 ex_10 => ?_)
    refine lv_icmp_eq (tgt := 44) hx hb dX7_isToldWrongly_37 (by decide) (fun h_11 => ?_) (fun h_11 => ?_)
    · have h_11 : 0 = x_10.toInt := c_eq h_11
      refine lv_iconst (v := 0) hx hb dX7_isToldWrongly_44 (by decide) ?_
      exact eI hQ X hr hlocks hP hD hS () [0, 5, 1, 2, 3, 4] (by decide) rfl rfl (show (0 ≤ (0 : Int32).toInt ∧ (0 : Int32).toInt ≤ 1) ∧ (wlO k_ground_count.toInt k_ground_wide.toInt k_walkStartsf k_walkStepsf k_walkFellf p1.toInt.toNat → 0 ≤ k_ground_wide.toInt → ((0 : Int32).toInt = 1 ↔ ¬ tlR (btD p2) k_ground_wide.toInt k_walkStartsf k_walkStepsf k_walkFellf p1.toInt.toNat)) from ⟨(by first | decide | (have h9_0 : (0 : Int32).toInt = 0 := (by decide); omega) | (refine ⟨by decide, ?_⟩; omega) | omega), (fun h8 h9 => tw_of (fl := 0) h8 (by omega) h9 ex_2 ex_3 ex_10 k_5 ex_8 (by omega) (by have h9_0 : (0 : Int32).toInt = 0 := (by decide); omega))⟩) (Nat.le_of_ble_eq_true rfl) (Nat.le_of_ble_eq_true rfl) dX7_isToldWrongly_45
    · have h_11 : 0 ≠ x_10.toInt := c_ne h_11
      refine lv_iconst (v := 1) hx hb dX7_isToldWrongly_40 (by decide) ?_
      refine lv_goto (tgt := 45) hx hb dX7_isToldWrongly_41 (by decide) ?_
      exact eI hQ X hr hlocks hP hD hS () [0, 5, 1, 2, 3, 4] (by decide) rfl rfl (show (0 ≤ (1 : Int32).toInt ∧ (1 : Int32).toInt ≤ 1) ∧ (wlO k_ground_count.toInt k_ground_wide.toInt k_walkStartsf k_walkStepsf k_walkFellf p1.toInt.toNat → 0 ≤ k_ground_wide.toInt → ((1 : Int32).toInt = 1 ↔ ¬ tlR (btD p2) k_ground_wide.toInt k_walkStartsf k_walkStepsf k_walkFellf p1.toInt.toNat)) from ⟨(by first | decide | (have h9_0 : (1 : Int32).toInt = 1 := (by decide); omega) | (refine ⟨by decide, ?_⟩; omega) | omega), (fun h8 h9 => tw_of (fl := 0) h8 (by omega) h9 ex_2 ex_3 ex_10 k_5 ex_8 (by omega) (by have h9_0 : (1 : Int32).toInt = 1 := (by decide); omega))⟩) (Nat.le_of_ble_eq_true rfl) (Nat.le_of_ble_eq_true rfl) dX7_isToldWrongly_45
  · have h_9 : x_8.toInt ≠ 0 := c_ne h_9
    refine lv_iconst (v := 1) hx hb dX7_isToldWrongly_24 (by decide) ?_
    refine lv_goto (tgt := 29) hx hb dX7_isToldWrongly_25 (by decide) ?_
    refine lv_istore_n (lv' := [(3, .int 1), (0, .ref h0), (1, .int p1), (2, .int p2)]) hx hb dX7_isToldWrongly_29 rfl hl (by decide) rfl (fun ls hl => ?_)
    refine lv_iload_n hx hb dX7_isToldWrongly_30 rfl (lv_at hl 0 rfl) ?_
    refine lv_aload_n hx hb dX7_isToldWrongly_31 rfl (lv_at hl 1 rfl) ?_
    refine r_get X kcX7 (ci := 7) rfl hP 0 rfl 14 (by decide) fX7_41 rfl dX7_isToldWrongly_32 ?_
    refine lv_iload_n hx hb dX7_isToldWrongly_35 rfl (lv_at hl 2 rfl) ?_
    refine va_zald (D := (dC, dI)) (cl := vwCl) hx hb hK hP 4 3 rfl rfl (i := p1) (vin (by omega) (by omega)) dX7_isToldWrongly_36 ?_
    refine lv_topi (fun x_12 ex_12 => ?_)
    refine lv_icmp_eq (tgt := 44) hx hb dX7_isToldWrongly_37 (by decide) (fun h_13 => ?_) (fun h_13 => ?_)
    · have h_13 : 1 = x_12.toInt := c_eq h_13
      refine lv_iconst (v := 0) hx hb dX7_isToldWrongly_44 (by decide) ?_
      exact eI hQ X hr hlocks hP hD hS () [0, 5, 1, 2, 3, 4] (by decide) rfl rfl (show (0 ≤ (0 : Int32).toInt ∧ (0 : Int32).toInt ≤ 1) ∧ (wlO k_ground_count.toInt k_ground_wide.toInt k_walkStartsf k_walkStepsf k_walkFellf p1.toInt.toNat → 0 ≤ k_ground_wide.toInt → ((0 : Int32).toInt = 1 ↔ ¬ tlR (btD p2) k_ground_wide.toInt k_walkStartsf k_walkStepsf k_walkFellf p1.toInt.toNat)) from ⟨(by first | decide | (have h9_0 : (0 : Int32).toInt = 0 := (by decide); omega) | (refine ⟨by decide, ?_⟩; omega) | omega), (fun h8 h9 => tw_of (fl := 1) h8 (by omega) h9 ex_2 ex_3 ex_12 k_5 ex_8 (by omega) (by have h9_0 : (0 : Int32).toInt = 0 := (by decide); omega))⟩) (Nat.le_of_ble_eq_true rfl) (Nat.le_of_ble_eq_true rfl) dX7_isToldWrongly_45
    · have h_13 : 1 ≠ x_12.toInt := c_ne h_13
      refine lv_iconst (v := 1) hx hb dX7_isToldWrongly_40 (by decide) ?_
      refine lv_goto (tgt := 45) hx hb dX7_isToldWrongly_41 (by decide) ?_
      exact eI hQ X hr hlocks hP hD hS () [0, 5, 1, 2, 3, 4] (by decide) rfl rfl (show (0 ≤ (1 : Int32).toInt ∧ (1 : Int32).toInt ≤ 1) ∧ (wlO k_ground_count.toInt k_ground_wide.toInt k_walkStartsf k_walkStepsf k_walkFellf p1.toInt.toNat → 0 ≤ k_ground_wide.toInt → ((1 : Int32).toInt = 1 ↔ ¬ tlR (btD p2) k_ground_wide.toInt k_walkStartsf k_walkStepsf k_walkFellf p1.toInt.toNat)) from ⟨(by first | decide | (have h9_0 : (1 : Int32).toInt = 1 := (by decide); omega) | (refine ⟨by decide, ?_⟩; omega) | omega), (fun h8 h9 => tw_of (fl := 1) h8 (by omega) h9 ex_2 ex_3 ex_12 k_5 ex_8 (by omega) (by have h9_0 : (1 : Int32).toInt = 1 := (by decide); omega))⟩) (Nat.le_of_ble_eq_true rfl) (Nat.le_of_ble_eq_true rfl) dX7_isToldWrongly_45
set_option maxHeartbeats 4000000 in
set_option maxRecDepth 100000 in
theorem sX5_count (l : Launch) (dC : Nat → ClassId) (dI : Nat → Nat → Nat) (cy : Nat → ClassId) (h0 : Nat) (u_ditches : Nat) (u_weights : Nat) (u_sets : Int32) (u_weightsf : Nat → Int64) (hu_sets : 0 ≤ u_sets.toInt ∧ u_sets.toInt ≤ 32) : ctI l dC dI cy hp yX5_count cX5_count 3 .int ({ frames := 0, cells := 0, slots := 0, locals := 0 } : Room) [.ref h0] [(h0, .inr (5, [.ref u_ditches, .ref u_weights, .int u_sets])), (u_weights, .inl (cy 2, 32, .inr (.inl u_weightsf)))] (S := Unit) (fun r _ => (0 ≤ r.toInt ∧ r.toInt ≤ 32) ∧ (r.toInt = cnC (wI u_weightsf) (fun _ => True) (Int.toNat u_sets.toInt))) (fun _ => [(h0, .inr (5, [.ref u_ditches, .ref u_weights, .int u_sets])), (u_weights, .inl (cy 2, 32, .inr (.inl u_weightsf)))]) := by
  refine ctI.of (by decide +kernel) (Nat.le_of_ble_eq_true rfl) ?_
  intro p e s m args below meth c A ls Q hQ X hr hlocks hin hA hP hD hS hl
  have hx := X.1
  have hb := X.2.1
  have hK := X.2.2.2.2.2.1
  have hl : lv_has ls 3 [(0, .ref h0)] := hl
  refine lv_iconst (v := 0) hx hb dX5_count_0 (by decide) ?_
  refine lv_istore_n (lv' := [(1, .int 0), (0, .ref h0)]) hx hb dX5_count_1 rfl hl (by decide) rfl (fun ls hl => ?_)
  refine lv_iconst (v := 0) hx hb dX5_count_2 (by decide) ?_
  refine lv_istore_n (lv' := [(2, .int 0), (1, .int 0), (0, .ref h0)]) hx hb dX5_count_3 rfl hl (by decide) rfl (fun ls hl => ?_)
  have lp_1 : ∀ (nlp_1 : Nat) (i_2 : Int32) (i_4 : Int32) (H : Heap) (locs : List Loc) (ls : Array Slot), (0 ≤ i_2.toInt ∧ i_2.toInt ≤ 32) → (0 ≤ i_4.toInt ∧ i_4.toInt ≤ 32) → (i_4.toInt = cnC (wI u_weightsf) (fun _ => True) (Int.toNat i_2.toInt)) → (i_4.toInt ≤ i_2.toInt) → (i_2.toInt ≤ u_sets.toInt) → (33 - i_2.toInt ≤ (nlp_1 : Int)) → va_P (dC, dI) vwCl [(h0, .inr (5, [.ref u_ditches, .ref u_weights, .int u_sets])), (u_weights, .inl (cy 2, 32, .inr (.inl u_weightsf)))] H → va_D A [(h0, .inr (5, [.ref u_ditches, .ref u_weights, .int u_sets])), (u_weights, .inl (cy 2, 32, .inr (.inl u_weightsf)))] → va_S A s.heap H locs → lv_has ls 3 [(2, .int i_2), (1, .int i_4), (0, .ref h0)] → W p l e ({ frames := 0, cells := 0, slots := 0, locals := 0 } : Room) s m args below meth c H locs 0 0 Q (F0 m 4 ls []) := by
    intro nlp_1
    induction nlp_1 with
    | zero =>
      intro i_2 i_4 H locs ls b_3 b_5 b_6 b_7 b_8 hmlp_1 hP hD hS hl
      exfalso
      have di_2 := ti_bd i_2
      have di_4 := ti_bd i_4
      omega
    | succ nlp_1 ihlp_1 =>
      intro i_2 i_4 H locs ls b_3 b_5 b_6 b_7 b_8 hmlp_1 hP hD hS hl
      refine lv_iload_n hx hb dX5_count_4 rfl (lv_at hl 0 rfl) ?_
      refine lv_aload_n hx hb dX5_count_5 rfl (lv_at hl 2 rfl) ?_
      refine r_get X kcX5 (ci := 5) rfl hP 0 rfl 2 (by decide) fX5_35 rfl dX5_count_6 ?_
      refine lv_icmp_ge (tgt := 37) hx hb dX5_count_9 (by decide) (fun h_9 => ?_) (fun h_9 => ?_)
      · have h_9 : u_sets.toInt ≤ i_2.toInt := c_le h_9
        refine lv_iload_n hx hb dX5_count_37 rfl (lv_at hl 1 rfl) ?_
        exact eI hQ X hr hlocks hP hD hS () [0, 1] (by decide) rfl rfl (show (0 ≤ i_4.toInt ∧ i_4.toInt ≤ 32) ∧ (i_4.toInt = cnC (wI u_weightsf) (fun _ => True) (Int.toNat u_sets.toInt)) from ⟨b_5, (by have h9 := b_6; rw [show i_2.toInt = u_sets.toInt by omega] at h9; exact h9)⟩) (Nat.le_of_ble_eq_true rfl) (Nat.le_of_ble_eq_true rfl) dX5_count_38
      · have h_9 : i_2.toInt < u_sets.toInt := c_nle h_9
        refine lv_iload_n hx hb dX5_count_12 rfl (lv_at hl 1 rfl) ?_
        refine lv_aload_n hx hb dX5_count_13 rfl (lv_at hl 2 rfl) ?_
        refine r_get X kcX5 (ci := 5) rfl hP 0 rfl 1 (by decide) fX5_15 rfl dX5_count_14 ?_
        refine lv_iload_n hx hb dX5_count_17 rfl (lv_at hl 0 rfl) ?_
        refine va_lald (D := (dC, dI)) (cl := vwCl) hx hb hK hP 1 2 rfl rfl (i := i_2) (vin (by omega) (by omega)) dX5_count_18 ?_
        refine lv_topl (fun x_10 ex_10 => ?_)
        refine lv_lconst (v := 0) hx hb dX5_count_19 (by decide) ?_
        refine W.lcmp hx hb dX5_count_20 ?_
        refine lv_topi (fun x_11 ex_11 => ?_)
        refine lv_if_le (tgt := 28) hx hb dX5_count_21 (by decide) (fun h_12 => ?_) (fun h_12 => ?_)
        · have h_12 : x_11.toInt ≤ 0 := c_le h_12
          refine lv_iconst (v := 0) hx hb dX5_count_28 (by decide) ?_
          refine lv_iadd hx hb dX5_count_29 ?_
          refine lv_topi (fun x_13 ex_13 => ?_)
          have tx_13 : x_13.toInt = i_4.toInt + 0 := ti_add (A := i_4.toInt) (B := 0) ex_13 rfl rfl (by omega) (by omega)
          refine lv_istore_n (lv' := [(1, .int x_13), (2, .int i_2), (0, .ref h0)]) hx hb dX5_count_30 rfl hl (by decide) rfl (fun ls hl => ?_)
          obtain ⟨x_14, ex_14⟩ : ∃ y : Int32, y = i_2 + 1 := ⟨_, rfl⟩
          have tx_14 : x_14.toInt = i_2.toInt + 1 := ti_add (A := i_2.toInt) (B := 1) ex_14 rfl rfl (by omega) (by omega)
          refine lv_iinc (v := x_14) (lv' := [(2, .int x_14), (1, .int x_13), (0, .ref h0)]) hx hb dX5_count_31 hl (k := 1) rfl (by rw [ex_14]; rfl) (by decide) rfl (fun ls hl => ?_)
          refine lv_goto (tgt := 4) hx hb dX5_count_34 (by decide) ?_
          exact ihlp_1 x_14 x_13 _ _ _ (by omega) (by omega) (show x_13.toInt = cnC (wI u_weightsf) (fun _ => True) (Int.toNat x_14.toInt) from (cnC_n (k := i_2.toInt) b_6 (by omega) (fun z9 => (wI_n ex_10 ex_11 rfl (by omega)) z9.1) (by omega) (by omega))) (show x_13.toInt ≤ x_14.toInt by omega) (show x_14.toInt ≤ u_sets.toInt by omega) (show 33 - x_14.toInt ≤ (nlp_1 : Int) by omega) hP hD hS (lv_sub hl [0, 1, 2] rfl)
        · have h_12 : 0 < x_11.toInt := c_nle h_12
          refine lv_iconst (v := 1) hx hb dX5_count_24 (by decide) ?_
          refine lv_goto (tgt := 29) hx hb dX5_count_25 (by decide) ?_
          refine lv_iadd hx hb dX5_count_29 ?_
          refine lv_topi (fun x_15 ex_15 => ?_)
          have tx_15 : x_15.toInt = i_4.toInt + 1 := ti_add (A := i_4.toInt) (B := 1) ex_15 rfl rfl (by omega) (by omega)
          refine lv_istore_n (lv' := [(1, .int x_15), (2, .int i_2), (0, .ref h0)]) hx hb dX5_count_30 rfl hl (by decide) rfl (fun ls hl => ?_)
          obtain ⟨x_16, ex_16⟩ : ∃ y : Int32, y = i_2 + 1 := ⟨_, rfl⟩
          have tx_16 : x_16.toInt = i_2.toInt + 1 := ti_add (A := i_2.toInt) (B := 1) ex_16 rfl rfl (by omega) (by omega)
          refine lv_iinc (v := x_16) (lv' := [(2, .int x_16), (1, .int x_15), (0, .ref h0)]) hx hb dX5_count_31 hl (k := 1) rfl (by rw [ex_16]; rfl) (by decide) rfl (fun ls hl => ?_)
          refine lv_goto (tgt := 4) hx hb dX5_count_34 (by decide) ?_
          exact ihlp_1 x_16 x_15 _ _ _ (by omega) (by omega) (show x_15.toInt = cnC (wI u_weightsf) (fun _ => True) (Int.toNat x_16.toInt) from (cnC_y (k := i_2.toInt) b_6 (by omega) (wI_p ex_10 ex_11 rfl (by omega)) trivial (by omega) (by omega))) (show x_15.toInt ≤ x_16.toInt by omega) (show x_16.toInt ≤ u_sets.toInt by omega) (show 33 - x_16.toInt ≤ (nlp_1 : Int) by omega) hP hD hS (lv_sub hl [0, 1, 2] rfl)
  exact lp_1 33 0 0 _ _ _ (by decide) (by decide) (show 0 = cnC (wI u_weightsf) (fun _ => True) (Int.toNat 0) from (cnC_0 (by decide) (by decide))) (show 0 ≤ 0 by omega) (show 0 ≤ u_sets.toInt by omega) (show 33 - 0 ≤ ((33 : Nat) : Int) by omega) hP hD hS hl
set_option maxHeartbeats 4000000 in
set_option maxRecDepth 100000 in
theorem sX5_ith (l : Launch) (dC : Nat → ClassId) (dI : Nat → Nat → Nat) (cy : Nat → ClassId) (h0 : Nat) (u_ditches : Nat) (u_weights : Nat) (u_sets : Int32) (u_weightsf : Nat → Int64) (p1 : Int32) (hu_sets : 0 ≤ u_sets.toInt ∧ u_sets.toInt ≤ 32) : ctI l dC dI cy hp yX5_ith cX5_ith 4 .int ({ frames := 0, cells := 0, slots := 0, locals := 0 } : Room) [.ref h0, .int p1] [(h0, .inr (5, [.ref u_ditches, .ref u_weights, .int u_sets])), (u_weights, .inl (cy 2, 32, .inr (.inl u_weightsf)))] (S := Unit) (fun r _ => ((-1) ≤ r.toInt ∧ r.toInt ≤ 31) ∧ (itP (wI u_weightsf) p1.toInt (Int.toNat u_sets.toInt) r.toInt)) (fun _ => [(h0, .inr (5, [.ref u_ditches, .ref u_weights, .int u_sets])), (u_weights, .inl (cy 2, 32, .inr (.inl u_weightsf)))]) := by
  refine ctI.of (by decide +kernel) (Nat.le_of_ble_eq_true rfl) ?_
  intro p e s m args below meth c A ls Q hQ X hr hlocks hin hA hP hD hS hl
  have hx := X.1
  have hb := X.2.1
  have hK := X.2.2.2.2.2.1
  have hl : lv_has ls 4 [(0, .ref h0), (1, .int p1)] := hl
  have dy_1 := ti_bd p1
  refine lv_iconst (v := 0) hx hb dX5_ith_0 (by decide) ?_
  refine lv_istore_n (lv' := [(2, .int 0), (0, .ref h0), (1, .int p1)]) hx hb dX5_ith_1 rfl hl (by decide) rfl (fun ls hl => ?_)
  refine lv_iconst (v := 0) hx hb dX5_ith_2 (by decide) ?_
  refine lv_istore_n (lv' := [(3, .int 0), (2, .int 0), (0, .ref h0), (1, .int p1)]) hx hb dX5_ith_3 rfl hl (by decide) rfl (fun ls hl => ?_)
  have lp_2 : ∀ (nlp_2 : Nat) (i_3 : Int32) (i_5 : Int32) (H : Heap) (locs : List Loc) (ls : Array Slot), (0 ≤ i_3.toInt ∧ i_3.toInt ≤ 32) → (0 ≤ i_5.toInt ∧ i_5.toInt ≤ 32) → (i_5.toInt = cnC (wI u_weightsf) (fun _ => True) (Int.toNat i_3.toInt)) → (itN (wI u_weightsf) p1.toInt (Int.toNat i_3.toInt)) → (i_5.toInt ≤ i_3.toInt) → (i_3.toInt ≤ u_sets.toInt) → (33 - i_3.toInt ≤ (nlp_2 : Int)) → va_P (dC, dI) vwCl [(h0, .inr (5, [.ref u_ditches, .ref u_weights, .int u_sets])), (u_weights, .inl (cy 2, 32, .inr (.inl u_weightsf)))] H → va_D A [(h0, .inr (5, [.ref u_ditches, .ref u_weights, .int u_sets])), (u_weights, .inl (cy 2, 32, .inr (.inl u_weightsf)))] → va_S A s.heap H locs → lv_has ls 4 [(3, .int i_3), (2, .int i_5), (0, .ref h0), (1, .int p1)] → W p l e ({ frames := 0, cells := 0, slots := 0, locals := 0 } : Room) s m args below meth c H locs 0 0 Q (F0 m 4 ls []) := by
    intro nlp_2
    induction nlp_2 with
    | zero =>
      intro i_3 i_5 H locs ls b_4 b_6 b_7 b_8 b_9 b_10 hmlp_2 hP hD hS hl
      exfalso
      have di_3 := ti_bd i_3
      have di_5 := ti_bd i_5
      omega
    | succ nlp_2 ihlp_2 =>
      intro i_3 i_5 H locs ls b_4 b_6 b_7 b_8 b_9 b_10 hmlp_2 hP hD hS hl
      refine lv_iload_n hx hb dX5_ith_4 rfl (lv_at hl 0 rfl) ?_
      refine lv_aload_n hx hb dX5_ith_5 rfl (lv_at hl 2 rfl) ?_
      refine r_get X kcX5 (ci := 5) rfl hP 0 rfl 2 (by decide) fX5_35 rfl dX5_ith_6 ?_
      refine lv_icmp_ge (tgt := 39) hx hb dX5_ith_9 (by decide) (fun h_11 => ?_) (fun h_11 => ?_)
      · have h_11 : u_sets.toInt ≤ i_3.toInt := c_le h_11
        refine lv_iconst (v := -1) hx hb dX5_ith_39 (by decide) ?_
        exact eI hQ X hr hlocks hP hD hS () [0, 1] (by decide) rfl rfl (show ((-1) ≤ (-1 : Int32).toInt ∧ (-1 : Int32).toInt ≤ 31) ∧ (itP (wI u_weightsf) p1.toInt (Int.toNat u_sets.toInt) (-1 : Int32).toInt) from ⟨(by first | decide | omega | (refine ⟨by decide, ?_⟩; omega) | (have h9_0 : (-1 : Int32).toInt = (-1) := (by decide); omega)), (itP_n b_8 (by omega) (by decide))⟩) (Nat.le_of_ble_eq_true rfl) (Nat.le_of_ble_eq_true rfl) dX5_ith_40
      · have h_11 : i_3.toInt < u_sets.toInt := c_nle h_11
        refine lv_aload_n hx hb dX5_ith_12 rfl (lv_at hl 2 rfl) ?_
        refine r_get X kcX5 (ci := 5) rfl hP 0 rfl 1 (by decide) fX5_15 rfl dX5_ith_13 ?_
        refine lv_iload_n hx hb dX5_ith_16 rfl (lv_at hl 0 rfl) ?_
        refine va_lald (D := (dC, dI)) (cl := vwCl) hx hb hK hP 1 2 rfl rfl (i := i_3) (vin (by omega) (by omega)) dX5_ith_17 ?_
        refine lv_topl (fun x_12 ex_12 => ?_)
        refine lv_lconst (v := 0) hx hb dX5_ith_18 (by decide) ?_
        refine W.lcmp hx hb dX5_ith_19 ?_
        refine lv_topi (fun x_13 ex_13 => ?_)
        refine lv_if_le (tgt := 33) hx hb dX5_ith_20 (by decide) (fun h_14 => ?_) (fun h_14 => ?_)
        · have h_14 : x_13.toInt ≤ 0 := c_le h_14
          obtain ⟨x_15, ex_15⟩ : ∃ y : Int32, y = i_3 + 1 := ⟨_, rfl⟩
          have tx_15 : x_15.toInt = i_3.toInt + 1 := ti_add (A := i_3.toInt) (B := 1) ex_15 rfl rfl (by omega) (by omega)
          refine lv_iinc (v := x_15) (lv' := [(3, .int x_15), (2, .int i_5), (0, .ref h0), (1, .int p1)]) hx hb dX5_ith_33 hl (k := 0) rfl (by rw [ex_15]; rfl) (by decide) rfl (fun ls hl => ?_)
          refine lv_goto (tgt := 4) hx hb dX5_ith_36 (by decide) ?_
          exact ihlp_2 x_15 i_5 _ _ _ (by omega) (by omega) (show i_5.toInt = cnC (wI u_weightsf) (fun _ => True) (Int.toNat x_15.toInt) from (cnC_n (k := i_3.toInt) b_7 (by omega) (fun z9 => (wI_n ex_12 ex_13 rfl (by omega)) z9.1) (by omega) rfl)) (show itN (wI u_weightsf) p1.toInt (Int.toNat x_15.toInt) from (itN_up (k := i_3.toInt) b_8 (by omega) (fun z9 => absurd z9 (wI_n ex_12 ex_13 rfl (by omega))) (by omega))) (show i_5.toInt ≤ x_15.toInt by omega) (show x_15.toInt ≤ u_sets.toInt by omega) (show 33 - x_15.toInt ≤ (nlp_2 : Int) by omega) hP hD hS (lv_sub hl [0, 1, 2, 3] rfl)
        · have h_14 : 0 < x_13.toInt := c_nle h_14
          refine lv_iload_n hx hb dX5_ith_23 rfl (lv_at hl 1 rfl) ?_
          refine lv_iload_n hx hb dX5_ith_24 rfl (lv_at hl 3 rfl) ?_
          refine lv_icmp_ne (tgt := 30) hx hb dX5_ith_25 (by decide) (fun h_16 => ?_) (fun h_16 => ?_)
          · have h_16 : i_5.toInt ≠ p1.toInt := c_ne h_16
            obtain ⟨x_17, ex_17⟩ : ∃ y : Int32, y = i_5 + 1 := ⟨_, rfl⟩
            have tx_17 : x_17.toInt = i_5.toInt + 1 := ti_add (A := i_5.toInt) (B := 1) ex_17 rfl rfl (by omega) (by omega)
            refine lv_iinc (v := x_17) (lv' := [(2, .int x_17), (3, .int i_3), (0, .ref h0), (1, .int p1)]) hx hb dX5_ith_30 hl (k := 1) rfl (by rw [ex_17]; rfl) (by decide) rfl (fun ls hl => ?_)
            obtain ⟨x_18, ex_18⟩ : ∃ y : Int32, y = i_3 + 1 := ⟨_, rfl⟩
            have tx_18 : x_18.toInt = i_3.toInt + 1 := ti_add (A := i_3.toInt) (B := 1) ex_18 rfl rfl (by omega) (by omega)
            refine lv_iinc (v := x_18) (lv' := [(3, .int x_18), (2, .int x_17), (0, .ref h0), (1, .int p1)]) hx hb dX5_ith_33 hl (k := 1) rfl (by rw [ex_18]; rfl) (by decide) rfl (fun ls hl => ?_)
            refine lv_goto (tgt := 4) hx hb dX5_ith_36 (by decide) ?_
            exact ihlp_2 x_18 x_17 _ _ _ (by omega) (by omega) (show x_17.toInt = cnC (wI u_weightsf) (fun _ => True) (Int.toNat x_18.toInt) from (cnC_y (k := i_3.toInt) b_7 (by omega) (wI_p ex_12 ex_13 rfl (by omega)) trivial (by omega) (by omega))) (show itN (wI u_weightsf) p1.toInt (Int.toNat x_18.toInt) from (itN_up (k := i_3.toInt) b_8 (by omega) (fun _ z9 => by have h9 := b_7; omega) (by omega))) (show x_17.toInt ≤ x_18.toInt by omega) (show x_18.toInt ≤ u_sets.toInt by omega) (show 33 - x_18.toInt ≤ (nlp_2 : Int) by omega) hP hD hS (lv_sub hl [0, 1, 2, 3] rfl)
          · have h_16 : i_5.toInt = p1.toInt := c_eq h_16
            refine lv_iload_n hx hb dX5_ith_28 rfl (lv_at hl 0 rfl) ?_
            exact eI hQ X hr hlocks hP hD hS () [0, 1] (by decide) rfl rfl (show ((-1) ≤ i_3.toInt ∧ i_3.toInt ≤ 31) ∧ (itP (wI u_weightsf) p1.toInt (Int.toNat u_sets.toInt) i_3.toInt) from ⟨(by omega), (itP_y (k := i_3.toInt) (by omega) (by omega) rfl (wI_p ex_12 ex_13 rfl (by omega)) (by have h9 := b_7; omega))⟩) (Nat.le_of_ble_eq_true rfl) (Nat.le_of_ble_eq_true rfl) dX5_ith_29
  exact lp_2 33 0 0 _ _ _ (by decide) (by decide) (show 0 = cnC (wI u_weightsf) (fun _ => True) (Int.toNat 0) from (cnC_0 (by decide) (by decide))) (show itN (wI u_weightsf) p1.toInt (Int.toNat 0) from (itN_0 rfl)) (show 0 ≤ 0 by omega) (show 0 ≤ u_sets.toInt by omega) (show 33 - 0 ≤ ((33 : Nat) : Int) by omega) hP hD hS hl
set_option maxHeartbeats 4000000 in
set_option maxRecDepth 100000 in
theorem sX5_heaviest (l : Launch) (dC : Nat → ClassId) (dI : Nat → Nat → Nat) (cy : Nat → ClassId) (h0 : Nat) (u_ditches : Nat) (u_weights : Nat) (u_sets : Int32) (u_weightsf : Nat → Int64) (hu_sets : 0 ≤ u_sets.toInt ∧ u_sets.toInt ≤ 32) : ctI l dC dI cy hp yX5_heaviest cX5_heaviest 5 .int ({ frames := 0, cells := 0, slots := 0, locals := 0 } : Room) [.ref h0] [(h0, .inr (5, [.ref u_ditches, .ref u_weights, .int u_sets])), (u_weights, .inl (cy 2, 32, .inr (.inl u_weightsf)))] (S := Unit) (fun r _ => (r.toInt = (hvP (wI u_weightsf) (Int.toNat u_sets.toInt)).1)) (fun _ => [(h0, .inr (5, [.ref u_ditches, .ref u_weights, .int u_sets])), (u_weights, .inl (cy 2, 32, .inr (.inl u_weightsf)))]) := by
  refine ctI.of (by decide +kernel) (Nat.le_of_ble_eq_true rfl) ?_
  intro p e s m args below meth c A ls Q hQ X hr hlocks hin hA hP hD hS hl
  have hx := X.1
  have hb := X.2.1
  have hK := X.2.2.2.2.2.1
  have hl : lv_has ls 5 [(0, .ref h0)] := hl
  refine lv_bipush (v := -2) hx hb dX5_heaviest_0 (by decide) ?_
  refine lv_istore_n (lv' := [(1, .int (-2)), (0, .ref h0)]) hx hb dX5_heaviest_2 rfl hl (by decide) rfl (fun ls hl => ?_)
  refine lv_lconst (v := 0) hx hb dX5_heaviest_3 (by decide) ?_
  refine lv_lstore_n (lv' := [(2, .long 0), (1, .int (-2)), (0, .ref h0)]) hx hb dX5_heaviest_4 rfl hl (by decide) rfl (fun ls hl => ?_)
  refine lv_iconst (v := 0) hx hb dX5_heaviest_5 (by decide) ?_
  refine lv_istore (lv' := [(4, .int 0), (2, .long 0), (1, .int (-2)), (0, .ref h0)]) hx hb dX5_heaviest_6 hl (by decide) rfl (fun ls hl => ?_)
  have lp_1 : ∀ (nlp_1 : Nat) (i_2 : Int32) (i_4 : Int64) (i_5 : Int32) (H : Heap) (locs : List Loc) (ls : Array Slot), (0 ≤ i_2.toInt ∧ i_2.toInt ≤ 32) → (hvI (wI u_weightsf) i_2.toInt i_5.toInt (i_4).toInt) → (i_2.toInt ≤ u_sets.toInt) → (33 - i_2.toInt ≤ (nlp_1 : Int)) → va_P (dC, dI) vwCl [(h0, .inr (5, [.ref u_ditches, .ref u_weights, .int u_sets])), (u_weights, .inl (cy 2, 32, .inr (.inl u_weightsf)))] H → va_D A [(h0, .inr (5, [.ref u_ditches, .ref u_weights, .int u_sets])), (u_weights, .inl (cy 2, 32, .inr (.inl u_weightsf)))] → va_S A s.heap H locs → lv_has ls 5 [(4, .int i_2), (2, .long i_4), (1, .int i_5), (0, .ref h0)] → W p l e ({ frames := 0, cells := 0, slots := 0, locals := 0 } : Room) s m args below meth c H locs 0 0 Q (F0 m 8 ls []) := by
    intro nlp_1
    induction nlp_1 with
    | zero =>
      intro i_2 i_4 i_5 H locs ls b_3 b_6 b_7 hmlp_1 hP hD hS hl
      exfalso
      have di_2 := ti_bd i_2
      have di_5 := ti_bd i_5
      omega
    | succ nlp_1 ihlp_1 =>
      intro i_2 i_4 i_5 H locs ls b_3 b_6 b_7 hmlp_1 hP hD hS hl
      refine lv_iload hx hb dX5_heaviest_8 (lv_at hl 0 rfl) ?_
      refine lv_aload_n hx hb dX5_heaviest_10 rfl (lv_at hl 3 rfl) ?_
      refine r_get X kcX5 (ci := 5) rfl hP 0 rfl 2 (by decide) fX5_35 rfl dX5_heaviest_11 ?_
      refine lv_icmp_ge (tgt := 46) hx hb dX5_heaviest_14 (by decide) (fun h_8 => ?_) (fun h_8 => ?_)
      · have h_8 : u_sets.toInt ≤ i_2.toInt := c_le h_8
        refine lv_iload_n hx hb dX5_heaviest_46 rfl (lv_at hl 2 rfl) ?_
        exact eI hQ X hr hlocks hP hD hS () [0, 1] (by decide) rfl rfl (show (i_5.toInt = (hvP (wI u_weightsf) (Int.toNat u_sets.toInt)).1) from (hv_end b_6 (by omega))) (Nat.le_of_ble_eq_true rfl) (Nat.le_of_ble_eq_true rfl) dX5_heaviest_47
      · have h_8 : i_2.toInt < u_sets.toInt := c_nle h_8
        refine lv_aload_n hx hb dX5_heaviest_17 rfl (lv_at hl 3 rfl) ?_
        refine r_get X kcX5 (ci := 5) rfl hP 0 rfl 1 (by decide) fX5_15 rfl dX5_heaviest_18 ?_
        refine lv_iload hx hb dX5_heaviest_21 (lv_at hl 0 rfl) ?_
        refine va_lald (D := (dC, dI)) (cl := vwCl) hx hb hK hP 1 2 rfl rfl (i := i_2) (vin (by omega) (by omega)) dX5_heaviest_23 ?_
        refine lv_topl (fun x_9 ex_9 => ?_)
        refine lv_lload_n hx hb dX5_heaviest_24 rfl (lv_at hl 1 rfl) ?_
        refine W.lcmp hx hb dX5_heaviest_25 ?_
        refine lv_topi (fun x_10 ex_10 => ?_)
        refine lv_if_le (tgt := 40) hx hb dX5_heaviest_26 (by decide) (fun h_11 => ?_) (fun h_11 => ?_)
        · have h_11 : x_10.toInt ≤ 0 := c_le h_11
          obtain ⟨x_12, ex_12⟩ : ∃ y : Int32, y = i_2 + 1 := ⟨_, rfl⟩
          have tx_12 : x_12.toInt = i_2.toInt + 1 := ti_add (A := i_2.toInt) (B := 1) ex_12 rfl rfl (by omega) (by omega)
          refine lv_iinc (v := x_12) (lv' := [(4, .int x_12), (2, .long i_4), (1, .int i_5), (0, .ref h0)]) hx hb dX5_heaviest_40 hl (k := 0) rfl (by rw [ex_12]; rfl) (by decide) rfl (fun ls hl => ?_)
          refine lv_goto (tgt := 8) hx hb dX5_heaviest_43 (by decide) ?_
          exact ihlp_1 x_12 i_4 i_5 _ _ _ (by omega) (show hvI (wI u_weightsf) x_12.toInt i_5.toInt (i_4).toInt from (hvI_n (k := i_2.toInt) b_6 (by omega) (wI_le ex_9 ex_10 (by omega)) (by omega))) (show x_12.toInt ≤ u_sets.toInt by omega) (show 33 - x_12.toInt ≤ (nlp_1 : Int) by omega) hP hD hS (lv_sub hl [0, 1, 2, 3] rfl)
        · have h_11 : 0 < x_10.toInt := c_nle h_11
          refine lv_aload_n hx hb dX5_heaviest_29 rfl (lv_at hl 3 rfl) ?_
          refine r_get X kcX5 (ci := 5) rfl hP 0 rfl 1 (by decide) fX5_15 rfl dX5_heaviest_30 ?_
          refine lv_iload hx hb dX5_heaviest_33 (lv_at hl 0 rfl) ?_
          refine va_lald (D := (dC, dI)) (cl := vwCl) hx hb hK hP 1 2 rfl rfl (i := i_2) (vin (by omega) (by omega)) dX5_heaviest_35 ?_
          refine lv_topl (fun x_13 ex_13 => ?_)
          refine lv_lstore_n (lv' := [(2, .long x_13), (4, .int i_2), (1, .int i_5), (0, .ref h0)]) hx hb dX5_heaviest_36 rfl hl (by decide) rfl (fun ls hl => ?_)
          refine lv_iload hx hb dX5_heaviest_37 (lv_at hl 1 rfl) ?_
          refine lv_istore_n (lv' := [(1, .int i_2), (2, .long x_13), (4, .int i_2), (0, .ref h0)]) hx hb dX5_heaviest_39 rfl hl (by decide) rfl (fun ls hl => ?_)
          obtain ⟨x_14, ex_14⟩ : ∃ y : Int32, y = i_2 + 1 := ⟨_, rfl⟩
          have tx_14 : x_14.toInt = i_2.toInt + 1 := ti_add (A := i_2.toInt) (B := 1) ex_14 rfl rfl (by omega) (by omega)
          refine lv_iinc (v := x_14) (lv' := [(4, .int x_14), (1, .int i_2), (2, .long x_13), (0, .ref h0)]) hx hb dX5_heaviest_40 hl (k := 2) rfl (by rw [ex_14]; rfl) (by decide) rfl (fun ls hl => ?_)
          refine lv_goto (tgt := 8) hx hb dX5_heaviest_43 (by decide) ?_
          exact ihlp_1 x_14 x_13 i_2 _ _ _ (by omega) (show hvI (wI u_weightsf) x_14.toInt i_2.toInt (x_13).toInt from (hvI_y (k := i_2.toInt) b_6 (by omega) (wI_gt ex_9 ex_10 (by omega)) (by omega) rfl (wI_e ex_13))) (show x_14.toInt ≤ u_sets.toInt by omega) (show 33 - x_14.toInt ≤ (nlp_1 : Int) by omega) hP hD hS (lv_sub hl [0, 2, 1, 3] rfl)
  exact lp_1 33 0 0 (-2) _ _ _ (by decide) (show hvI (wI u_weightsf) 0 (-2) ((0 : Int64)).toInt from (hvI_0 (by decide) (by decide) (by decide))) (show 0 ≤ u_sets.toInt by omega) (show 33 - 0 ≤ ((33 : Nat) : Int) by omega) hP hD hS hl
set_option maxHeartbeats 4000000 in
set_option maxRecDepth 100000 in
theorem sX5_weightOfAll (l : Launch) (dC : Nat → ClassId) (dI : Nat → Nat → Nat) (cy : Nat → ClassId) (h0 : Nat) (u_ditches : Nat) (u_weights : Nat) (u_sets : Int32) (u_weightsf : Nat → Int64) (hu_sets : 0 ≤ u_sets.toInt ∧ u_sets.toInt ≤ 32) : ctL l dC dI cy hp yX5_weightOfAll cX5_weightOfAll 4 ({ frames := 0, cells := 0, slots := 0, locals := 0 } : Room) [.ref h0] [(h0, .inr (5, [.ref u_ditches, .ref u_weights, .int u_sets])), (u_weights, .inl (cy 2, 32, .inr (.inl u_weightsf)))] (S := Unit) (fun r _ => (wB (wI u_weightsf) (Int.toNat u_sets.toInt) → r.toInt = smC (wI u_weightsf) (fun _ => True) (Int.toNat u_sets.toInt))) (fun _ => [(h0, .inr (5, [.ref u_ditches, .ref u_weights, .int u_sets])), (u_weights, .inl (cy 2, 32, .inr (.inl u_weightsf)))]) := by
  refine ctL.of (by decide +kernel) (Nat.le_of_ble_eq_true rfl) ?_
  intro p e s m args below meth c A ls Q hQ X hr hlocks hin hA hP hD hS hl
  have hx := X.1
  have hb := X.2.1
  have hK := X.2.2.2.2.2.1
  have hl : lv_has ls 4 [(0, .ref h0)] := hl
  refine lv_lconst (v := 0) hx hb dX5_weightOfAll_0 (by decide) ?_
  refine lv_lstore_n (lv' := [(1, .long 0), (0, .ref h0)]) hx hb dX5_weightOfAll_1 rfl hl (by decide) rfl (fun ls hl => ?_)
  refine lv_iconst (v := 0) hx hb dX5_weightOfAll_2 (by decide) ?_
  refine lv_istore_n (lv' := [(3, .int 0), (1, .long 0), (0, .ref h0)]) hx hb dX5_weightOfAll_3 rfl hl (by decide) rfl (fun ls hl => ?_)
  have lp_1 : ∀ (nlp_1 : Nat) (i_2 : Int32) (i_4 : Int64) (H : Heap) (locs : List Loc) (ls : Array Slot), (0 ≤ i_2.toInt ∧ i_2.toInt ≤ 32) → (wB (wI u_weightsf) (Int.toNat u_sets.toInt) → (i_4).toInt = smC (wI u_weightsf) (fun _ => True) (Int.toNat i_2.toInt)) → (i_2.toInt ≤ u_sets.toInt) → (33 - i_2.toInt ≤ (nlp_1 : Int)) → va_P (dC, dI) vwCl [(h0, .inr (5, [.ref u_ditches, .ref u_weights, .int u_sets])), (u_weights, .inl (cy 2, 32, .inr (.inl u_weightsf)))] H → va_D A [(h0, .inr (5, [.ref u_ditches, .ref u_weights, .int u_sets])), (u_weights, .inl (cy 2, 32, .inr (.inl u_weightsf)))] → va_S A s.heap H locs → lv_has ls 4 [(3, .int i_2), (1, .long i_4), (0, .ref h0)] → W p l e ({ frames := 0, cells := 0, slots := 0, locals := 0 } : Room) s m args below meth c H locs 0 0 Q (F0 m 4 ls []) := by
    intro nlp_1
    induction nlp_1 with
    | zero =>
      intro i_2 i_4 H locs ls b_3 b_5 b_6 hmlp_1 hP hD hS hl
      exfalso
      have di_2 := ti_bd i_2
      omega
    | succ nlp_1 ihlp_1 =>
      intro i_2 i_4 H locs ls b_3 b_5 b_6 hmlp_1 hP hD hS hl
      refine lv_iload_n hx hb dX5_weightOfAll_4 rfl (lv_at hl 0 rfl) ?_
      refine lv_aload_n hx hb dX5_weightOfAll_5 rfl (lv_at hl 2 rfl) ?_
      refine r_get X kcX5 (ci := 5) rfl hP 0 rfl 2 (by decide) fX5_35 rfl dX5_weightOfAll_6 ?_
      refine lv_icmp_ge (tgt := 27) hx hb dX5_weightOfAll_9 (by decide) (fun h_7 => ?_) (fun h_7 => ?_)
      · have h_7 : u_sets.toInt ≤ i_2.toInt := c_le h_7
        refine lv_lload_n hx hb dX5_weightOfAll_27 rfl (lv_at hl 1 rfl) ?_
        exact eL hQ X hr hlocks hP hD hS () [0, 1] (by decide) rfl (show (wB (wI u_weightsf) (Int.toNat u_sets.toInt) → i_4.toInt = smC (wI u_weightsf) (fun _ => True) (Int.toNat u_sets.toInt)) from (fun h6 => by have h9 := b_5 h6; rw [show i_2.toInt = u_sets.toInt by omega] at h9; exact h9)) (Nat.le_of_ble_eq_true rfl) (Nat.le_of_ble_eq_true rfl) dX5_weightOfAll_28
      · have h_7 : i_2.toInt < u_sets.toInt := c_nle h_7
        refine lv_lload_n hx hb dX5_weightOfAll_12 rfl (lv_at hl 1 rfl) ?_
        refine lv_aload_n hx hb dX5_weightOfAll_13 rfl (lv_at hl 2 rfl) ?_
        refine r_get X kcX5 (ci := 5) rfl hP 0 rfl 1 (by decide) fX5_15 rfl dX5_weightOfAll_14 ?_
        refine lv_iload_n hx hb dX5_weightOfAll_17 rfl (lv_at hl 0 rfl) ?_
        refine va_lald (D := (dC, dI)) (cl := vwCl) hx hb hK hP 1 2 rfl rfl (i := i_2) (vin (by omega) (by omega)) dX5_weightOfAll_18 ?_
        refine lv_topl (fun x_8 ex_8 => ?_)
        refine lv_ladd hx hb dX5_weightOfAll_19 ?_
        refine lv_topl (fun x_9 ex_9 => ?_)
        refine lv_lstore_n (lv' := [(1, .long x_9), (3, .int i_2), (0, .ref h0)]) hx hb dX5_weightOfAll_20 rfl hl (by decide) rfl (fun ls hl => ?_)
        obtain ⟨x_10, ex_10⟩ : ∃ y : Int32, y = i_2 + 1 := ⟨_, rfl⟩
        have tx_10 : x_10.toInt = i_2.toInt + 1 := ti_add (A := i_2.toInt) (B := 1) ex_10 rfl rfl (by omega) (by omega)
        refine lv_iinc (v := x_10) (lv' := [(3, .int x_10), (1, .long x_9), (0, .ref h0)]) hx hb dX5_weightOfAll_21 hl (k := 1) rfl (by rw [ex_10]; rfl) (by decide) rfl (fun ls hl => ?_)
        refine lv_goto (tgt := 4) hx hb dX5_weightOfAll_24 (by decide) ?_
        exact ihlp_1 x_10 x_9 _ _ _ (by omega) (show wB (wI u_weightsf) (Int.toNat u_sets.toInt) → (x_9).toInt = smC (wI u_weightsf) (fun _ => True) (Int.toNat x_10.toInt) from (fun h6 => smC_y (k := i_2.toInt) h6 (by omega) (b_5 h6) (by omega) (by omega) trivial (wI_e ex_8) ex_9 (by omega))) (show x_10.toInt ≤ u_sets.toInt by omega) (show 33 - x_10.toInt ≤ (nlp_1 : Int) by omega) hP hD hS (lv_sub hl [0, 1, 2] rfl)
  exact lp_1 33 0 0 _ _ _ (by decide) (show wB (wI u_weightsf) (Int.toNat u_sets.toInt) → ((0 : Int64)).toInt = smC (wI u_weightsf) (fun _ => True) (Int.toNat 0) from (fun _ => smC_0 (by decide) (by decide))) (show 0 ≤ u_sets.toInt by omega) (show 33 - 0 ≤ ((33 : Nat) : Int) by omega) hP hD hS hl
set_option maxHeartbeats 4000000 in
set_option maxRecDepth 100000 in
theorem sX5_weightOf (l : Launch) (dC : Nat → ClassId) (dI : Nat → Nat → Nat) (cy : Nat → ClassId) (h0 : Nat) (u_ditches : Nat) (u_weights : Nat) (u_sets : Int32) (u_weightsf : Nat → Int64) (p1 : Int32) (hu_sets : 0 ≤ u_sets.toInt ∧ u_sets.toInt ≤ 32) : ctL l dC dI cy hp yX5_weightOf cX5_weightOf 5 ({ frames := 0, cells := 0, slots := 0, locals := 0 } : Room) [.ref h0, .int p1] [(h0, .inr (5, [.ref u_ditches, .ref u_weights, .int u_sets])), (u_weights, .inl (cy 2, 32, .inr (.inl u_weightsf)))] (S := Unit) (fun r _ => (wB (wI u_weightsf) (Int.toNat u_sets.toInt) → 0 ≤ p1.toInt → p1.toInt ≤ 19 → r.toInt = smC (wI u_weightsf) (tbP p1.toInt.toNat) (Int.toNat u_sets.toInt))) (fun _ => [(h0, .inr (5, [.ref u_ditches, .ref u_weights, .int u_sets])), (u_weights, .inl (cy 2, 32, .inr (.inl u_weightsf)))]) := by
  refine ctL.of (by decide +kernel) (Nat.le_of_ble_eq_true rfl) ?_
  intro p e s m args below meth c A ls Q hQ X hr hlocks hin hA hP hD hS hl
  have hx := X.1
  have hb := X.2.1
  have hK := X.2.2.2.2.2.1
  have hl : lv_has ls 5 [(0, .ref h0), (1, .int p1)] := hl
  have dy_1 := ti_bd p1
  refine lv_lconst (v := 0) hx hb dX5_weightOf_0 (by decide) ?_
  refine lv_lstore_n (lv' := [(2, .long 0), (0, .ref h0), (1, .int p1)]) hx hb dX5_weightOf_1 rfl hl (by decide) rfl (fun ls hl => ?_)
  refine lv_iconst (v := 0) hx hb dX5_weightOf_2 (by decide) ?_
  refine lv_istore (lv' := [(4, .int 0), (2, .long 0), (0, .ref h0), (1, .int p1)]) hx hb dX5_weightOf_3 hl (by decide) rfl (fun ls hl => ?_)
  have lp_2 : ∀ (nlp_2 : Nat) (i_3 : Int32) (i_5 : Int64) (H : Heap) (locs : List Loc) (ls : Array Slot), (0 ≤ i_3.toInt ∧ i_3.toInt ≤ 32) → (wB (wI u_weightsf) (Int.toNat u_sets.toInt) → 0 ≤ p1.toInt → p1.toInt ≤ 19 → (i_5).toInt = smC (wI u_weightsf) (tbP p1.toInt.toNat) (Int.toNat i_3.toInt)) → (i_3.toInt ≤ u_sets.toInt) → (33 - i_3.toInt ≤ (nlp_2 : Int)) → va_P (dC, dI) vwCl [(h0, .inr (5, [.ref u_ditches, .ref u_weights, .int u_sets])), (u_weights, .inl (cy 2, 32, .inr (.inl u_weightsf)))] H → va_D A [(h0, .inr (5, [.ref u_ditches, .ref u_weights, .int u_sets])), (u_weights, .inl (cy 2, 32, .inr (.inl u_weightsf)))] → va_S A s.heap H locs → lv_has ls 5 [(4, .int i_3), (2, .long i_5), (0, .ref h0), (1, .int p1)] → W p l e ({ frames := 0, cells := 0, slots := 0, locals := 0 } : Room) s m args below meth c H locs 0 0 Q (F0 m 5 ls []) := by
    intro nlp_2
    induction nlp_2 with
    | zero =>
      intro i_3 i_5 H locs ls b_4 b_6 b_7 hmlp_2 hP hD hS hl
      exfalso
      have di_3 := ti_bd i_3
      omega
    | succ nlp_2 ihlp_2 =>
      intro i_3 i_5 H locs ls b_4 b_6 b_7 hmlp_2 hP hD hS hl
      refine lv_iload hx hb dX5_weightOf_5 (lv_at hl 0 rfl) ?_
      refine lv_aload_n hx hb dX5_weightOf_7 rfl (lv_at hl 2 rfl) ?_
      refine r_get X kcX5 (ci := 5) rfl hP 0 rfl 2 (by decide) fX5_35 rfl dX5_weightOf_8 ?_
      refine lv_icmp_ge (tgt := 40) hx hb dX5_weightOf_11 (by decide) (fun h_8 => ?_) (fun h_8 => ?_)
      · have h_8 : u_sets.toInt ≤ i_3.toInt := c_le h_8
        refine lv_lload_n hx hb dX5_weightOf_40 rfl (lv_at hl 1 rfl) ?_
        exact eL hQ X hr hlocks hP hD hS () [0, 1] (by decide) rfl (show (wB (wI u_weightsf) (Int.toNat u_sets.toInt) → 0 ≤ p1.toInt → p1.toInt ≤ 19 → i_5.toInt = smC (wI u_weightsf) (tbP p1.toInt.toNat) (Int.toNat u_sets.toInt)) from (fun h6 h7 h8 => by have h9 := b_6 h6 h7 h8; rw [show i_3.toInt = u_sets.toInt by omega] at h9; exact h9)) (Nat.le_of_ble_eq_true rfl) (Nat.le_of_ble_eq_true rfl) dX5_weightOf_41
      · have h_8 : i_3.toInt < u_sets.toInt := c_nle h_8
        refine lv_iload hx hb dX5_weightOf_14 (lv_at hl 0 rfl) ?_
        refine lv_iload_n hx hb dX5_weightOf_16 rfl (lv_at hl 3 rfl) ?_
        refine lv_ishr hx hb dX5_weightOf_17 ?_
        refine lv_topi (fun x_9 ex_9 => ?_)
        refine lv_iconst (v := 1) hx hb dX5_weightOf_18 (by decide) ?_
        refine lv_iand hx hb dX5_weightOf_19 ?_
        have dy_10 := ti_bd x_9
        refine lv_topi (fun x_11 ex_11 => ?_)
        have tx_11 : x_11.toInt = 0 ∨ x_11.toInt = 1 := ti_and1 ex_11
        refine lv_iconst (v := 1) hx hb dX5_weightOf_20 (by decide) ?_
        refine lv_icmp_ne (tgt := 34) hx hb dX5_weightOf_21 (by decide) (fun h_12 => ?_) (fun h_12 => ?_)
        · have h_12 : x_11.toInt ≠ 1 := c_ne h_12
          obtain ⟨x_13, ex_13⟩ : ∃ y : Int32, y = i_3 + 1 := ⟨_, rfl⟩
          have tx_13 : x_13.toInt = i_3.toInt + 1 := ti_add (A := i_3.toInt) (B := 1) ex_13 rfl rfl (by omega) (by omega)
          refine lv_iinc (v := x_13) (lv' := [(4, .int x_13), (2, .long i_5), (0, .ref h0), (1, .int p1)]) hx hb dX5_weightOf_34 hl (k := 0) rfl (by rw [ex_13]; rfl) (by decide) rfl (fun ls hl => ?_)
          refine lv_goto (tgt := 5) hx hb dX5_weightOf_37 (by decide) ?_
          exact ihlp_2 x_13 i_5 _ _ _ (by omega) (show wB (wI u_weightsf) (Int.toNat u_sets.toInt) → 0 ≤ p1.toInt → p1.toInt ≤ 19 → (i_5).toInt = smC (wI u_weightsf) (tbP p1.toInt.toNat) (Int.toNat x_13.toInt) from (fun h6 h7 h8 => smC_n (k := i_3.toInt) (b_6 h6 h7 h8) (by omega) (fun z9 => absurd ((bitS ex_9 ex_11 h7 h8 (by omega)).mpr z9) (by omega)) (by omega))) (show x_13.toInt ≤ u_sets.toInt by omega) (show 33 - x_13.toInt ≤ (nlp_2 : Int) by omega) hP hD hS (lv_sub hl [0, 1, 2, 3] rfl)
        · have h_12 : x_11.toInt = 1 := c_eq h_12
          refine lv_lload_n hx hb dX5_weightOf_24 rfl (lv_at hl 1 rfl) ?_
          refine lv_aload_n hx hb dX5_weightOf_25 rfl (lv_at hl 2 rfl) ?_
          refine r_get X kcX5 (ci := 5) rfl hP 0 rfl 1 (by decide) fX5_15 rfl dX5_weightOf_26 ?_
          refine lv_iload hx hb dX5_weightOf_29 (lv_at hl 0 rfl) ?_
          refine va_lald (D := (dC, dI)) (cl := vwCl) hx hb hK hP 1 2 rfl rfl (i := i_3) (vin (by omega) (by omega)) dX5_weightOf_31 ?_
          refine lv_topl (fun x_14 ex_14 => ?_)
          refine lv_ladd hx hb dX5_weightOf_32 ?_
          refine lv_topl (fun x_15 ex_15 => ?_)
          refine lv_lstore_n (lv' := [(2, .long x_15), (4, .int i_3), (0, .ref h0), (1, .int p1)]) hx hb dX5_weightOf_33 rfl hl (by decide) rfl (fun ls hl => ?_)
          obtain ⟨x_16, ex_16⟩ : ∃ y : Int32, y = i_3 + 1 := ⟨_, rfl⟩
          have tx_16 : x_16.toInt = i_3.toInt + 1 := ti_add (A := i_3.toInt) (B := 1) ex_16 rfl rfl (by omega) (by omega)
          refine lv_iinc (v := x_16) (lv' := [(4, .int x_16), (2, .long x_15), (0, .ref h0), (1, .int p1)]) hx hb dX5_weightOf_34 hl (k := 1) rfl (by rw [ex_16]; rfl) (by decide) rfl (fun ls hl => ?_)
          refine lv_goto (tgt := 5) hx hb dX5_weightOf_37 (by decide) ?_
          exact ihlp_2 x_16 x_15 _ _ _ (by omega) (show wB (wI u_weightsf) (Int.toNat u_sets.toInt) → 0 ≤ p1.toInt → p1.toInt ≤ 19 → (x_15).toInt = smC (wI u_weightsf) (tbP p1.toInt.toNat) (Int.toNat x_16.toInt) from (fun h6 h7 h8 => smC_y (k := i_3.toInt) h6 (by omega) (b_6 h6 h7 h8) (by omega) (by omega) ((bitS ex_9 ex_11 h7 h8 (by omega)).mp (by omega)) (wI_e ex_14) ex_15 (by omega))) (show x_16.toInt ≤ u_sets.toInt by omega) (show 33 - x_16.toInt ≤ (nlp_2 : Int) by omega) hP hD hS (lv_sub hl [0, 1, 2, 3] rfl)
  exact lp_2 33 0 0 _ _ _ (by decide) (show wB (wI u_weightsf) (Int.toNat u_sets.toInt) → 0 ≤ p1.toInt → p1.toInt ≤ 19 → ((0 : Int64)).toInt = smC (wI u_weightsf) (tbP p1.toInt.toNat) (Int.toNat 0) from (fun _ _ _ => smC_0 (by decide) (by decide))) (show 0 ≤ u_sets.toInt by omega) (show 33 - 0 ≤ ((33 : Nat) : Int) by omega) hP hD hS hl
set_option maxHeartbeats 4000000 in
set_option maxRecDepth 100000 in
theorem sX5_weightOver (l : Launch) (dC : Nat → ClassId) (dI : Nat → Nat → Nat) (cy : Nat → ClassId) (h0 : Nat) (u_ditches : Nat) (u_weights : Nat) (u_sets : Int32) (u_ditchesf : Nat → Int32) (u_weightsf : Nat → Int64) (p1 : Int32) (hu_sets : 0 ≤ u_sets.toInt ∧ u_sets.toInt ≤ 32) : ctL l dC dI cy hp yX5_weightOver cX5_weightOver 5 ({ frames := 0, cells := 0, slots := 0, locals := 0 } : Room) [.ref h0, .int p1] [(h0, .inr (5, [.ref u_ditches, .ref u_weights, .int u_sets])), (u_ditches, .inl (cy 1, 32, .inl u_ditchesf)), (u_weights, .inl (cy 2, 32, .inr (.inl u_weightsf)))] (S := Unit) (fun r _ => (wB (wI u_weightsf) (Int.toNat u_sets.toInt) → r.toInt = smC (wI u_weightsf) (ovP u_ditchesf p1) (Int.toNat u_sets.toInt))) (fun _ => [(h0, .inr (5, [.ref u_ditches, .ref u_weights, .int u_sets])), (u_ditches, .inl (cy 1, 32, .inl u_ditchesf)), (u_weights, .inl (cy 2, 32, .inr (.inl u_weightsf)))]) := by
  refine ctL.of (by decide +kernel) (Nat.le_of_ble_eq_true rfl) ?_
  intro p e s m args below meth c A ls Q hQ X hr hlocks hin hA hP hD hS hl
  have hx := X.1
  have hb := X.2.1
  have hK := X.2.2.2.2.2.1
  have hl : lv_has ls 5 [(0, .ref h0), (1, .int p1)] := hl
  have dy_1 := ti_bd p1
  refine lv_lconst (v := 0) hx hb dX5_weightOver_0 (by decide) ?_
  refine lv_lstore_n (lv' := [(2, .long 0), (0, .ref h0), (1, .int p1)]) hx hb dX5_weightOver_1 rfl hl (by decide) rfl (fun ls hl => ?_)
  refine lv_iconst (v := 0) hx hb dX5_weightOver_2 (by decide) ?_
  refine lv_istore (lv' := [(4, .int 0), (2, .long 0), (0, .ref h0), (1, .int p1)]) hx hb dX5_weightOver_3 hl (by decide) rfl (fun ls hl => ?_)
  have lp_2 : ∀ (nlp_2 : Nat) (i_3 : Int32) (i_5 : Int64) (H : Heap) (locs : List Loc) (ls : Array Slot), (0 ≤ i_3.toInt ∧ i_3.toInt ≤ 32) → (wB (wI u_weightsf) (Int.toNat u_sets.toInt) → (i_5).toInt = smC (wI u_weightsf) (ovP u_ditchesf p1) (Int.toNat i_3.toInt)) → (i_3.toInt ≤ u_sets.toInt) → (33 - i_3.toInt ≤ (nlp_2 : Int)) → va_P (dC, dI) vwCl [(h0, .inr (5, [.ref u_ditches, .ref u_weights, .int u_sets])), (u_ditches, .inl (cy 1, 32, .inl u_ditchesf)), (u_weights, .inl (cy 2, 32, .inr (.inl u_weightsf)))] H → va_D A [(h0, .inr (5, [.ref u_ditches, .ref u_weights, .int u_sets])), (u_ditches, .inl (cy 1, 32, .inl u_ditchesf)), (u_weights, .inl (cy 2, 32, .inr (.inl u_weightsf)))] → va_S A s.heap H locs → lv_has ls 5 [(4, .int i_3), (2, .long i_5), (0, .ref h0), (1, .int p1)] → W p l e ({ frames := 0, cells := 0, slots := 0, locals := 0 } : Room) s m args below meth c H locs 0 0 Q (F0 m 5 ls []) := by
    intro nlp_2
    induction nlp_2 with
    | zero =>
      intro i_3 i_5 H locs ls b_4 b_6 b_7 hmlp_2 hP hD hS hl
      exfalso
      have di_3 := ti_bd i_3
      omega
    | succ nlp_2 ihlp_2 =>
      intro i_3 i_5 H locs ls b_4 b_6 b_7 hmlp_2 hP hD hS hl
      refine lv_iload hx hb dX5_weightOver_5 (lv_at hl 0 rfl) ?_
      refine lv_aload_n hx hb dX5_weightOver_7 rfl (lv_at hl 2 rfl) ?_
      refine r_get X kcX5 (ci := 5) rfl hP 0 rfl 2 (by decide) fX5_35 rfl dX5_weightOver_8 ?_
      refine lv_icmp_ge (tgt := 42) hx hb dX5_weightOver_11 (by decide) (fun h_8 => ?_) (fun h_8 => ?_)
      · have h_8 : u_sets.toInt ≤ i_3.toInt := c_le h_8
        refine lv_lload_n hx hb dX5_weightOver_42 rfl (lv_at hl 1 rfl) ?_
        exact eL hQ X hr hlocks hP hD hS () [0, 1, 2] (by decide) rfl (show (wB (wI u_weightsf) (Int.toNat u_sets.toInt) → i_5.toInt = smC (wI u_weightsf) (ovP u_ditchesf p1) (Int.toNat u_sets.toInt)) from (fun h6 => by have h9 := b_6 h6; rw [show i_3.toInt = u_sets.toInt by omega] at h9; exact h9)) (Nat.le_of_ble_eq_true rfl) (Nat.le_of_ble_eq_true rfl) dX5_weightOver_43
      · have h_8 : i_3.toInt < u_sets.toInt := c_nle h_8
        refine lv_aload_n hx hb dX5_weightOver_14 rfl (lv_at hl 2 rfl) ?_
        refine r_get X kcX5 (ci := 5) rfl hP 0 rfl 0 (by decide) fX5_11 rfl dX5_weightOver_15 ?_
        refine lv_iload hx hb dX5_weightOver_18 (lv_at hl 0 rfl) ?_
        refine va_iald (D := (dC, dI)) (cl := vwCl) hx hb hK hP 1 1 rfl rfl (i := i_3) (vin (by omega) (by omega)) dX5_weightOver_20 ?_
        refine lv_topi (fun x_9 ex_9 => ?_)
        refine lv_iload_n hx hb dX5_weightOver_21 rfl (lv_at hl 3 rfl) ?_
        refine lv_iand hx hb dX5_weightOver_22 ?_
        have dy_10 := ti_bd x_9
        refine lv_topi (fun x_11 ex_11 => ?_)
        refine lv_if_eq (tgt := 36) hx hb dX5_weightOver_23 (by decide) (fun h_12 => ?_) (fun h_12 => ?_)
        · have h_12 : x_11.toInt = 0 := c_eq h_12
          obtain ⟨x_13, ex_13⟩ : ∃ y : Int32, y = i_3 + 1 := ⟨_, rfl⟩
          have tx_13 : x_13.toInt = i_3.toInt + 1 := ti_add (A := i_3.toInt) (B := 1) ex_13 rfl rfl (by omega) (by omega)
          refine lv_iinc (v := x_13) (lv' := [(4, .int x_13), (2, .long i_5), (0, .ref h0), (1, .int p1)]) hx hb dX5_weightOver_36 hl (k := 0) rfl (by rw [ex_13]; rfl) (by decide) rfl (fun ls hl => ?_)
          refine lv_goto (tgt := 5) hx hb dX5_weightOver_39 (by decide) ?_
          exact ihlp_2 x_13 i_5 _ _ _ (by omega) (show wB (wI u_weightsf) (Int.toNat u_sets.toInt) → (i_5).toInt = smC (wI u_weightsf) (ovP u_ditchesf p1) (Int.toNat x_13.toInt) from (fun h6 => smC_n (k := i_3.toInt) (b_6 h6) (by omega) (fun z9 => absurd (by omega) ((ovP_i ex_9 ex_11).mpr z9)) (by omega))) (show x_13.toInt ≤ u_sets.toInt by omega) (show 33 - x_13.toInt ≤ (nlp_2 : Int) by omega) hP hD hS (lv_sub hl [0, 1, 2, 3] rfl)
        · have h_12 : x_11.toInt ≠ 0 := c_ne h_12
          refine lv_lload_n hx hb dX5_weightOver_26 rfl (lv_at hl 1 rfl) ?_
          refine lv_aload_n hx hb dX5_weightOver_27 rfl (lv_at hl 2 rfl) ?_
          refine r_get X kcX5 (ci := 5) rfl hP 0 rfl 1 (by decide) fX5_15 rfl dX5_weightOver_28 ?_
          refine lv_iload hx hb dX5_weightOver_31 (lv_at hl 0 rfl) ?_
          refine va_lald (D := (dC, dI)) (cl := vwCl) hx hb hK hP 2 2 rfl rfl (i := i_3) (vin (by omega) (by omega)) dX5_weightOver_33 ?_
          refine lv_topl (fun x_14 ex_14 => ?_)
          refine lv_ladd hx hb dX5_weightOver_34 ?_
          refine lv_topl (fun x_15 ex_15 => ?_)
          refine lv_lstore_n (lv' := [(2, .long x_15), (4, .int i_3), (0, .ref h0), (1, .int p1)]) hx hb dX5_weightOver_35 rfl hl (by decide) rfl (fun ls hl => ?_)
          obtain ⟨x_16, ex_16⟩ : ∃ y : Int32, y = i_3 + 1 := ⟨_, rfl⟩
          have tx_16 : x_16.toInt = i_3.toInt + 1 := ti_add (A := i_3.toInt) (B := 1) ex_16 rfl rfl (by omega) (by omega)
          refine lv_iinc (v := x_16) (lv' := [(4, .int x_16), (2, .long x_15), (0, .ref h0), (1, .int p1)]) hx hb dX5_weightOver_36 hl (k := 1) rfl (by rw [ex_16]; rfl) (by decide) rfl (fun ls hl => ?_)
          refine lv_goto (tgt := 5) hx hb dX5_weightOver_39 (by decide) ?_
          exact ihlp_2 x_16 x_15 _ _ _ (by omega) (show wB (wI u_weightsf) (Int.toNat u_sets.toInt) → (x_15).toInt = smC (wI u_weightsf) (ovP u_ditchesf p1) (Int.toNat x_16.toInt) from (fun h6 => smC_y (k := i_3.toInt) h6 (by omega) (b_6 h6) (by omega) (by omega) ((ovP_i ex_9 ex_11).mp (by omega)) (wI_e ex_14) ex_15 (by omega))) (show x_16.toInt ≤ u_sets.toInt by omega) (show 33 - x_16.toInt ≤ (nlp_2 : Int) by omega) hP hD hS (lv_sub hl [0, 1, 2, 3] rfl)
  exact lp_2 33 0 0 _ _ _ (by decide) (show wB (wI u_weightsf) (Int.toNat u_sets.toInt) → ((0 : Int64)).toInt = smC (wI u_weightsf) (ovP u_ditchesf p1) (Int.toNat 0) from (fun _ => smC_0 (by decide) (by decide))) (show 0 ≤ u_sets.toInt by omega) (show 33 - 0 ≤ ((33 : Nat) : Int) by omega) hP hD hS hl
set_option maxHeartbeats 4000000 in
set_option maxRecDepth 100000 in
theorem sX5_leftAtMost (l : Launch) (dC : Nat → ClassId) (dI : Nat → Nat → Nat) (cy : Nat → ClassId) (h0 : Nat) (u_ditches : Nat) (u_weights : Nat) (u_sets : Int32) (u_weightsf : Nat → Int64) (p1 : Int32) (hu_sets : 0 ≤ u_sets.toInt ∧ u_sets.toInt ≤ 32) : ctI l dC dI cy hp yX5_leftAtMost cX5_leftAtMost 4 .int ({ frames := 1, cells := 0, slots := 0, locals := 22 } : Room) [.ref h0, .int p1] [(h0, .inr (5, [.ref u_ditches, .ref u_weights, .int u_sets])), (u_weights, .inl (cy 2, 32, .inr (.inl u_weightsf)))] (S := Unit) (fun r _ => (0 ≤ p1.toInt → p1.toInt ≤ 19 → r.toInt = lmP (wI u_weightsf) (tbP p1.toInt.toNat) (Int.toNat u_sets.toInt))) (fun _ => [(h0, .inr (5, [.ref u_ditches, .ref u_weights, .int u_sets])), (u_weights, .inl (cy 2, 32, .inr (.inl u_weightsf)))]) := by
  refine ctI.of (by decide +kernel) (Nat.le_of_ble_eq_true rfl) ?_
  intro p e s m args below meth c A ls Q hQ X hr hlocks hin hA hP hD hS hl
  have hx := X.1
  have hb := X.2.1
  have hK := X.2.2.2.2.2.1
  have hl : lv_has ls 4 [(0, .ref h0), (1, .int p1)] := hl
  have dy_1 := ti_bd p1
  refine lv_iconst (v := 0) hx hb dX5_leftAtMost_0 (by decide) ?_
  refine lv_istore_n (lv' := [(2, .int 0), (0, .ref h0), (1, .int p1)]) hx hb dX5_leftAtMost_1 rfl hl (by decide) rfl (fun ls hl => ?_)
  refine lv_iconst (v := 0) hx hb dX5_leftAtMost_2 (by decide) ?_
  refine lv_istore_n (lv' := [(3, .int 0), (2, .int 0), (0, .ref h0), (1, .int p1)]) hx hb dX5_leftAtMost_3 rfl hl (by decide) rfl (fun ls hl => ?_)
  have lp_2 : ∀ (nlp_2 : Nat) (i_3 : Int32) (i_5 : Int32) (H : Heap) (locs : List Loc) (ls : Array Slot), (0 ≤ i_3.toInt ∧ i_3.toInt ≤ 32) → (0 ≤ i_5.toInt ∧ i_5.toInt ≤ 32) → (0 ≤ p1.toInt → p1.toInt ≤ 19 → i_5.toInt = cnC (wI u_weightsf) (tbP p1.toInt.toNat) (Int.toNat i_3.toInt)) → (i_5.toInt ≤ i_3.toInt) → (i_3.toInt ≤ u_sets.toInt) → (33 - i_3.toInt ≤ (nlp_2 : Int)) → va_P (dC, dI) vwCl [(h0, .inr (5, [.ref u_ditches, .ref u_weights, .int u_sets])), (u_weights, .inl (cy 2, 32, .inr (.inl u_weightsf)))] H → va_D A [(h0, .inr (5, [.ref u_ditches, .ref u_weights, .int u_sets])), (u_weights, .inl (cy 2, 32, .inr (.inl u_weightsf)))] → va_S A s.heap H locs → lv_has ls 4 [(3, .int i_3), (2, .int i_5), (0, .ref h0), (1, .int p1)] → W p l e ({ frames := 1, cells := 0, slots := 0, locals := 22 } : Room) s m args below meth c H locs 0 0 Q (F0 m 4 ls []) := by
    intro nlp_2
    induction nlp_2 with
    | zero =>
      intro i_3 i_5 H locs ls b_4 b_6 b_7 b_8 b_9 hmlp_2 hP hD hS hl
      exfalso
      have di_3 := ti_bd i_3
      have di_5 := ti_bd i_5
      omega
    | succ nlp_2 ihlp_2 =>
      intro i_3 i_5 H locs ls b_4 b_6 b_7 b_8 b_9 hmlp_2 hP hD hS hl
      refine lv_iload_n hx hb dX5_leftAtMost_4 rfl (lv_at hl 0 rfl) ?_
      refine lv_aload_n hx hb dX5_leftAtMost_5 rfl (lv_at hl 2 rfl) ?_
      refine r_get X kcX5 (ci := 5) rfl hP 0 rfl 2 (by decide) fX5_35 rfl dX5_leftAtMost_6 ?_
      refine lv_icmp_ge (tgt := 41) hx hb dX5_leftAtMost_9 (by decide) (fun h_10 => ?_) (fun h_10 => ?_)
      · have h_10 : u_sets.toInt ≤ i_3.toInt := c_le h_10
        refine lv_iload_n hx hb dX5_leftAtMost_41 rfl (lv_at hl 1 rfl) ?_
        refine lv_aload_n hx hb dX5_leftAtMost_42 rfl (lv_at hl 2 rfl) ?_
        refine sl_Ic (rV_I (As := []) (rest := [.int i_5]) X hp_st (fun _ _ _ h => h) (sX5_count l dC dI cy h0 u_ditches u_weights u_sets u_weightsf hu_sets) kX5_count vX5_count mX5_51 hP hD hS hA [0, 1] (by decide) rfl 0 (ci := 5) rfl rfl rfl hl rfl rfl (Nat.le_of_ble_eq_true rfl) dX5_leftAtMost_43 ⟨(Nat.le_of_ble_eq_true rfl), (Nat.le_of_ble_eq_true rfl)⟩ ⟨(Nat.le_of_ble_eq_true rfl), (Nat.le_of_ble_eq_true rfl)⟩) hP hD hS hA [0, 1] [false, false] rfl rfl rfl (fun r_11 u_13 H locs k_12 hP hD hS => ?_)
        have k_12 : (0 ≤ r_11.toInt ∧ r_11.toInt ≤ 32) ∧ (r_11.toInt = cnC (wI u_weightsf) (fun _ => True) (Int.toNat u_sets.toInt)) := k_12
        obtain ⟨k_12_0, k_12_1⟩ := k_12
        have hPD := vPD (ws' := [(h0, .inr (5, [.ref u_ditches, .ref u_weights, .int u_sets])), (u_weights, .inl (cy 2, 32, .inr (.inl u_weightsf)))]) hP hD rfl
        have hP := hPD.1
        have hD := hPD.2
        refine lv_iload_n hx hb dX5_leftAtMost_46 rfl (lv_at hl 1 rfl) ?_
        refine lv_isub hx hb dX5_leftAtMost_47 ?_
        refine lv_topi (fun x_14 ex_14 => ?_)
        have tx_14 : x_14.toInt = r_11.toInt - i_5.toInt := ti_sub (A := r_11.toInt) (B := i_5.toInt) ex_14 rfl rfl (by omega) (by omega)
        refine va_mmax hx hb (X.2.2.1.trans hl.1.symm) X.2.2.2.1 (X.2.2.2.2.1 _ w_1122) (X.2.2.2.2.1 _ w_546) (X.2.2.2.2.1 _ w_113) (X.2.2.2.2.1 _ w_547) (Nat.le_of_ble_eq_true rfl) (Nat.le_of_ble_eq_true rfl) (Nat.le_of_ble_eq_true rfl) (Nat.le_of_ble_eq_true rfl) dX5_leftAtMost_48 ?_
        refine lv_topi (fun x_15 ex_15 => ?_)
        have tx_15 := ti_max ex_15
        exact eI hQ X hr hlocks hP hD hS () [0, 1] (by decide) rfl rfl (show (0 ≤ p1.toInt → p1.toInt ≤ 19 → x_15.toInt = lmP (wI u_weightsf) (tbP p1.toInt.toNat) (Int.toNat u_sets.toInt)) from (fun h7 h8 => lm_of (n := u_sets.toInt) (a := i_5.toInt) (b := x_14.toInt) (by have h9 := b_7 h7 h8; rw [show i_3.toInt = u_sets.toInt by omega] at h9; exact h9) (by have h9 := k_12_1; omega) (by omega))) (Nat.le_of_ble_eq_true rfl) (Nat.le_of_ble_eq_true rfl) dX5_leftAtMost_51
      · have h_10 : i_3.toInt < u_sets.toInt := c_nle h_10
        refine lv_aload_n hx hb dX5_leftAtMost_12 rfl (lv_at hl 2 rfl) ?_
        refine r_get X kcX5 (ci := 5) rfl hP 0 rfl 1 (by decide) fX5_15 rfl dX5_leftAtMost_13 ?_
        refine lv_iload_n hx hb dX5_leftAtMost_16 rfl (lv_at hl 0 rfl) ?_
        refine va_lald (D := (dC, dI)) (cl := vwCl) hx hb hK hP 1 2 rfl rfl (i := i_3) (vin (by omega) (by omega)) dX5_leftAtMost_17 ?_
        refine lv_topl (fun x_16 ex_16 => ?_)
        refine lv_lconst (v := 0) hx hb dX5_leftAtMost_18 (by decide) ?_
        refine W.lcmp hx hb dX5_leftAtMost_19 ?_
        refine lv_topi (fun x_17 ex_17 => ?_)
        refine lv_if_le (tgt := 35) hx hb dX5_leftAtMost_20 (by decide) (fun h_18 => ?_) (fun h_18 => ?_)
        · have h_18 : x_17.toInt ≤ 0 := c_le h_18
          obtain ⟨x_19, ex_19⟩ : ∃ y : Int32, y = i_3 + 1 := ⟨_, rfl⟩
          have tx_19 : x_19.toInt = i_3.toInt + 1 := ti_add (A := i_3.toInt) (B := 1) ex_19 rfl rfl (by omega) (by omega)
          refine lv_iinc (v := x_19) (lv' := [(3, .int x_19), (2, .int i_5), (0, .ref h0), (1, .int p1)]) hx hb dX5_leftAtMost_35 hl (k := 0) rfl (by rw [ex_19]; rfl) (by decide) rfl (fun ls hl => ?_)
          refine lv_goto (tgt := 4) hx hb dX5_leftAtMost_38 (by decide) ?_
          exact ihlp_2 x_19 i_5 _ _ _ (by omega) (by omega) (show 0 ≤ p1.toInt → p1.toInt ≤ 19 → i_5.toInt = cnC (wI u_weightsf) (tbP p1.toInt.toNat) (Int.toNat x_19.toInt) from (fun h7 h8 => cnC_n (k := i_3.toInt) (b_7 h7 h8) (by omega) (fun z9 => (wI_n ex_16 ex_17 rfl (by omega)) z9.1) (by omega) rfl)) (show i_5.toInt ≤ x_19.toInt by omega) (show x_19.toInt ≤ u_sets.toInt by omega) (show 33 - x_19.toInt ≤ (nlp_2 : Int) by omega) hP hD hS (lv_sub hl [0, 1, 2, 3] rfl)
        · have h_18 : 0 < x_17.toInt := c_nle h_18
          refine lv_iload_n hx hb dX5_leftAtMost_23 rfl (lv_at hl 0 rfl) ?_
          refine lv_iload_n hx hb dX5_leftAtMost_24 rfl (lv_at hl 3 rfl) ?_
          refine lv_ishr hx hb dX5_leftAtMost_25 ?_
          refine lv_topi (fun x_20 ex_20 => ?_)
          refine lv_iconst (v := 1) hx hb dX5_leftAtMost_26 (by decide) ?_
          refine lv_iand hx hb dX5_leftAtMost_27 ?_
          have dy_21 := ti_bd x_20
          refine lv_topi (fun x_22 ex_22 => ?_)
          have tx_22 : x_22.toInt = 0 ∨ x_22.toInt = 1 := ti_and1 ex_22
          refine lv_iconst (v := 1) hx hb dX5_leftAtMost_28 (by decide) ?_
          refine lv_icmp_ne (tgt := 35) hx hb dX5_leftAtMost_29 (by decide) (fun h_23 => ?_) (fun h_23 => ?_)
          · have h_23 : x_22.toInt ≠ 1 := c_ne h_23
            obtain ⟨x_24, ex_24⟩ : ∃ y : Int32, y = i_3 + 1 := ⟨_, rfl⟩
            have tx_24 : x_24.toInt = i_3.toInt + 1 := ti_add (A := i_3.toInt) (B := 1) ex_24 rfl rfl (by omega) (by omega)
            refine lv_iinc (v := x_24) (lv' := [(3, .int x_24), (2, .int i_5), (0, .ref h0), (1, .int p1)]) hx hb dX5_leftAtMost_35 hl (k := 0) rfl (by rw [ex_24]; rfl) (by decide) rfl (fun ls hl => ?_)
            refine lv_goto (tgt := 4) hx hb dX5_leftAtMost_38 (by decide) ?_
            exact ihlp_2 x_24 i_5 _ _ _ (by omega) (by omega) (show 0 ≤ p1.toInt → p1.toInt ≤ 19 → i_5.toInt = cnC (wI u_weightsf) (tbP p1.toInt.toNat) (Int.toNat x_24.toInt) from (fun h7 h8 => cnC_n (k := i_3.toInt) (b_7 h7 h8) (by omega) (fun z9 => absurd ((bitS ex_20 ex_22 h7 h8 (by omega)).mpr z9.2) (by omega)) (by omega) rfl)) (show i_5.toInt ≤ x_24.toInt by omega) (show x_24.toInt ≤ u_sets.toInt by omega) (show 33 - x_24.toInt ≤ (nlp_2 : Int) by omega) hP hD hS (lv_sub hl [0, 1, 2, 3] rfl)
          · have h_23 : x_22.toInt = 1 := c_eq h_23
            obtain ⟨x_25, ex_25⟩ : ∃ y : Int32, y = i_5 + 1 := ⟨_, rfl⟩
            have tx_25 : x_25.toInt = i_5.toInt + 1 := ti_add (A := i_5.toInt) (B := 1) ex_25 rfl rfl (by omega) (by omega)
            refine lv_iinc (v := x_25) (lv' := [(2, .int x_25), (3, .int i_3), (0, .ref h0), (1, .int p1)]) hx hb dX5_leftAtMost_32 hl (k := 1) rfl (by rw [ex_25]; rfl) (by decide) rfl (fun ls hl => ?_)
            obtain ⟨x_26, ex_26⟩ : ∃ y : Int32, y = i_3 + 1 := ⟨_, rfl⟩
            have tx_26 : x_26.toInt = i_3.toInt + 1 := ti_add (A := i_3.toInt) (B := 1) ex_26 rfl rfl (by omega) (by omega)
            refine lv_iinc (v := x_26) (lv' := [(3, .int x_26), (2, .int x_25), (0, .ref h0), (1, .int p1)]) hx hb dX5_leftAtMost_35 hl (k := 1) rfl (by rw [ex_26]; rfl) (by decide) rfl (fun ls hl => ?_)
            refine lv_goto (tgt := 4) hx hb dX5_leftAtMost_38 (by decide) ?_
            exact ihlp_2 x_26 x_25 _ _ _ (by omega) (by omega) (show 0 ≤ p1.toInt → p1.toInt ≤ 19 → x_25.toInt = cnC (wI u_weightsf) (tbP p1.toInt.toNat) (Int.toNat x_26.toInt) from (fun h7 h8 => cnC_y (k := i_3.toInt) (b_7 h7 h8) (by omega) (wI_p ex_16 ex_17 rfl (by omega)) ((bitS ex_20 ex_22 h7 h8 (by omega)).mp (by omega)) (by omega) (by omega))) (show x_25.toInt ≤ x_26.toInt by omega) (show x_26.toInt ≤ u_sets.toInt by omega) (show 33 - x_26.toInt ≤ (nlp_2 : Int) by omega) hP hD hS (lv_sub hl [0, 1, 2, 3] rfl)
  exact lp_2 33 0 0 _ _ _ (by decide) (by decide) (show 0 ≤ p1.toInt → p1.toInt ≤ 19 → 0 = cnC (wI u_weightsf) (tbP p1.toInt.toNat) (Int.toNat 0) from (fun _ _ => cnC_0 (by decide) (by decide))) (show 0 ≤ 0 by omega) (show 0 ≤ u_sets.toInt by omega) (show 33 - 0 ≤ ((33 : Nat) : Int) by omega) hP hD hS hl
set_option maxHeartbeats 4000000 in
set_option maxRecDepth 100000 in
theorem sX5_best (l : Launch) (dC : Nat → ClassId) (dI : Nat → Nat → Nat) (cy : Nat → ClassId) (h0 : Nat) (u_ditches : Nat) (u_weights : Nat) (u_sets : Int32) (u_weightsf : Nat → Int64) (p1 : Int32) (hu_sets : 0 ≤ u_sets.toInt ∧ u_sets.toInt ≤ 32) (hp1 : 0 ≤ p1.toInt ∧ p1.toInt ≤ 5) : ctI l dC dI cy hp yX5_best cX5_best 6 .int ({ frames := 2, cells := 0, slots := 0, locals := 45 } : Room) [.ref h0, .int p1] [(h0, .inr (5, [.ref u_ditches, .ref u_weights, .int u_sets])), (u_weights, .inl (cy 2, 32, .inr (.inl u_weightsf)))] (S := Unit) (fun r _ => (bsP (wI u_weightsf) (Int.toNat u_sets.toInt) p1.toInt r.toInt)) (fun _ => [(h0, .inr (5, [.ref u_ditches, .ref u_weights, .int u_sets])), (u_weights, .inl (cy 2, 32, .inr (.inl u_weightsf)))]) := by
  refine ctI.of (by decide +kernel) (Nat.le_of_ble_eq_true rfl) ?_
  intro p e s m args below meth c A ls Q hQ X hr hlocks hin hA hP hD hS hl
  have hx := X.1
  have hb := X.2.1
  have hK := X.2.2.2.2.2.1
  have hl : lv_has ls 6 [(0, .ref h0), (1, .int p1)] := hl
  refine lv_aload_n hx hb dX5_best_0 rfl (lv_at hl 0 rfl) ?_
  refine sl_Ic (rV_I (As := []) (rest := []) X hp_st (fun _ _ _ h => h) (sX5_count l dC dI cy h0 u_ditches u_weights u_sets u_weightsf hu_sets) kX5_count vX5_count mX5_51 hP hD hS hA [0, 1] (by decide) rfl 0 (ci := 5) rfl rfl rfl hl rfl rfl (Nat.le_of_ble_eq_true rfl) dX5_best_1 ⟨(Nat.le_of_ble_eq_true rfl), (Nat.le_of_ble_eq_true rfl)⟩ ⟨(Nat.le_of_ble_eq_true rfl), (Nat.le_of_ble_eq_true rfl)⟩) hP hD hS hA [0, 1] [false, false] rfl rfl rfl (fun r_1 u_3 H locs k_2 hP hD hS => ?_)
  have k_2 : (0 ≤ r_1.toInt ∧ r_1.toInt ≤ 32) ∧ (r_1.toInt = cnC (wI u_weightsf) (fun _ => True) (Int.toNat u_sets.toInt)) := k_2
  obtain ⟨k_2_0, k_2_1⟩ := k_2
  have hPD := vPD (ws' := [(h0, .inr (5, [.ref u_ditches, .ref u_weights, .int u_sets])), (u_weights, .inl (cy 2, 32, .inr (.inl u_weightsf)))]) hP hD rfl
  have hP := hPD.1
  have hD := hPD.2
  refine lv_if_ne (tgt := 10) hx hb dX5_best_4 (by decide) (fun h_4 => ?_) (fun h_4 => ?_)
  · have h_4 : r_1.toInt ≠ 0 := c_ne h_4
    refine lv_bipush (v := -2) hx hb dX5_best_10 (by decide) ?_
    refine lv_istore_n (lv' := [(2, .int (-2)), (0, .ref h0), (1, .int p1)]) hx hb dX5_best_12 rfl hl (by decide) rfl (fun ls hl => ?_)
    refine lv_bipush (v := 33) hx hb dX5_best_13 (by decide) ?_
    refine lv_istore_n (lv' := [(3, .int 33), (2, .int (-2)), (0, .ref h0), (1, .int p1)]) hx hb dX5_best_15 rfl hl (by decide) rfl (fun ls hl => ?_)
    refine lv_iconst (v := 0) hx hb dX5_best_16 (by decide) ?_
    refine lv_istore (lv' := [(4, .int 0), (3, .int 33), (2, .int (-2)), (0, .ref h0), (1, .int p1)]) hx hb dX5_best_17 hl (by decide) rfl (fun ls hl => ?_)
    have lp_5 : ∀ (nlp_5 : Nat) (i_6 : Int32) (i_8 : Int32) (i_9 : Int32) (H : Heap) (locs : List Loc) (ls : Array Slot), (0 ≤ i_6.toInt ∧ i_6.toInt ≤ 5) → (tdI (gS (wI u_weightsf) (Int.toNat u_sets.toInt)) i_6.toInt i_9.toInt i_8.toInt) → (i_6.toInt ≤ p1.toInt) → (6 - i_6.toInt ≤ (nlp_5 : Int)) → va_P (dC, dI) vwCl [(h0, .inr (5, [.ref u_ditches, .ref u_weights, .int u_sets])), (u_weights, .inl (cy 2, 32, .inr (.inl u_weightsf)))] H → va_D A [(h0, .inr (5, [.ref u_ditches, .ref u_weights, .int u_sets])), (u_weights, .inl (cy 2, 32, .inr (.inl u_weightsf)))] → va_S A s.heap H locs → lv_has ls 6 [(4, .int i_6), (3, .int i_8), (2, .int i_9), (0, .ref h0), (1, .int p1)] → W p l e ({ frames := 2, cells := 0, slots := 0, locals := 45 } : Room) s m args below meth c H locs 0 0 Q (F0 m 19 ls []) := by
      intro nlp_5
      induction nlp_5 with
      | zero =>
        intro i_6 i_8 i_9 H locs ls b_7 b_10 b_11 hmlp_5 hP hD hS hl
        exfalso
        have di_6 := ti_bd i_6
        have di_8 := ti_bd i_8
        have di_9 := ti_bd i_9
        omega
      | succ nlp_5 ihlp_5 =>
        intro i_6 i_8 i_9 H locs ls b_7 b_10 b_11 hmlp_5 hP hD hS hl
        refine lv_iload hx hb dX5_best_19 (lv_at hl 0 rfl) ?_
        refine lv_iload_n hx hb dX5_best_21 rfl (lv_at hl 4 rfl) ?_
        refine lv_icmp_ge (tgt := 51) hx hb dX5_best_22 (by decide) (fun h_12 => ?_) (fun h_12 => ?_)
        · have h_12 : p1.toInt ≤ i_6.toInt := c_le h_12
          refine lv_iload_n hx hb dX5_best_51 rfl (lv_at hl 2 rfl) ?_
          exact eI hQ X hr hlocks hP hD hS () [0, 1] (by decide) rfl rfl (show (bsP (wI u_weightsf) (Int.toNat u_sets.toInt) p1.toInt i_9.toInt) from (bsP_y k_2_1 (by omega) b_10 (by omega) rfl)) (Nat.le_of_ble_eq_true rfl) (Nat.le_of_ble_eq_true rfl) dX5_best_52
        · have h_12 : i_6.toInt < p1.toInt := c_nle h_12
          refine lv_aload_n hx hb dX5_best_25 rfl (lv_at hl 3 rfl) ?_
          refine lv_iload hx hb dX5_best_26 (lv_at hl 0 rfl) ?_
          refine sl_Ic (rV_I (As := [.int i_6]) (rest := []) X hp_st (fun _ _ _ h => h) (sX5_leftAtMost l dC dI cy h0 u_ditches u_weights u_sets u_weightsf i_6 hu_sets) kX5_leftAtMost vX5_leftAtMost mX5_61 hP hD hS hA [0, 1] (by decide) rfl 0 (ci := 5) rfl rfl rfl hl rfl rfl (Nat.le_of_ble_eq_true rfl) dX5_best_28 ⟨(Nat.le_of_ble_eq_true rfl), (Nat.le_of_ble_eq_true rfl)⟩ ⟨(Nat.le_of_ble_eq_true rfl), (Nat.le_of_ble_eq_true rfl)⟩) hP hD hS hA [0, 1] [false, false] rfl rfl rfl (fun r_13 u_15 H locs k_14 hP hD hS => ?_)
          have k_14 : (0 ≤ i_6.toInt → i_6.toInt ≤ 19 → r_13.toInt = lmP (wI u_weightsf) (tbP i_6.toInt.toNat) (Int.toNat u_sets.toInt)) := k_14
          have hPD := vPD (ws' := [(h0, .inr (5, [.ref u_ditches, .ref u_weights, .int u_sets])), (u_weights, .inl (cy 2, 32, .inr (.inl u_weightsf)))]) hP hD rfl
          have hP := hPD.1
          have hD := hPD.2
          refine lv_istore (lv' := [(5, .int r_13), (4, .int i_6), (3, .int i_8), (2, .int i_9), (0, .ref h0), (1, .int p1)]) hx hb dX5_best_31 hl (by decide) rfl (fun ls hl => ?_)
          refine lv_iload hx hb dX5_best_33 (lv_at hl 0 rfl) ?_
          refine lv_iload_n hx hb dX5_best_35 rfl (lv_at hl 2 rfl) ?_
          refine lv_icmp_ge (tgt := 45) hx hb dX5_best_36 (by decide) (fun h_16 => ?_) (fun h_16 => ?_)
          · have h_16 : i_8.toInt ≤ r_13.toInt := c_le h_16
            obtain ⟨x_17, ex_17⟩ : ∃ y : Int32, y = i_6 + 1 := ⟨_, rfl⟩
            have tx_17 : x_17.toInt = i_6.toInt + 1 := ti_add (A := i_6.toInt) (B := 1) ex_17 rfl rfl (by omega) (by omega)
            refine lv_iinc (v := x_17) (lv' := [(4, .int x_17), (5, .int r_13), (3, .int i_8), (2, .int i_9), (0, .ref h0), (1, .int p1)]) hx hb dX5_best_45 hl (k := 1) rfl (by rw [ex_17]; rfl) (by decide) rfl (fun ls hl => ?_)
            refine lv_goto (tgt := 19) hx hb dX5_best_48 (by decide) ?_
            exact ihlp_5 x_17 i_8 i_9 _ _ _ (by omega) (show tdI (gS (wI u_weightsf) (Int.toNat u_sets.toInt)) x_17.toInt i_9.toInt i_8.toInt from (tdI_n (k := i_6.toInt) (m1 := r_13.toInt) b_10 (by omega) (by omega) (by omega) (by have h9 := k_14 (by omega) (by omega); exact h9))) (show x_17.toInt ≤ p1.toInt by omega) (show 6 - x_17.toInt ≤ (nlp_5 : Int) by omega) hP hD hS (lv_sub hl [0, 2, 3, 4, 5] rfl)
          · have h_16 : r_13.toInt < i_8.toInt := c_nle h_16
            refine lv_iload hx hb dX5_best_39 (lv_at hl 0 rfl) ?_
            refine lv_istore_n (lv' := [(3, .int r_13), (5, .int r_13), (4, .int i_6), (2, .int i_9), (0, .ref h0), (1, .int p1)]) hx hb dX5_best_41 rfl hl (by decide) rfl (fun ls hl => ?_)
            refine lv_iload hx hb dX5_best_42 (lv_at hl 2 rfl) ?_
            refine lv_istore_n (lv' := [(2, .int i_6), (3, .int r_13), (5, .int r_13), (4, .int i_6), (0, .ref h0), (1, .int p1)]) hx hb dX5_best_44 rfl hl (by decide) rfl (fun ls hl => ?_)
            obtain ⟨x_18, ex_18⟩ : ∃ y : Int32, y = i_6 + 1 := ⟨_, rfl⟩
            have tx_18 : x_18.toInt = i_6.toInt + 1 := ti_add (A := i_6.toInt) (B := 1) ex_18 rfl rfl (by omega) (by omega)
            refine lv_iinc (v := x_18) (lv' := [(4, .int x_18), (2, .int i_6), (3, .int r_13), (5, .int r_13), (0, .ref h0), (1, .int p1)]) hx hb dX5_best_45 hl (k := 3) rfl (by rw [ex_18]; rfl) (by decide) rfl (fun ls hl => ?_)
            refine lv_goto (tgt := 19) hx hb dX5_best_48 (by decide) ?_
            exact ihlp_5 x_18 r_13 i_6 _ _ _ (by omega) (show tdI (gS (wI u_weightsf) (Int.toNat u_sets.toInt)) x_18.toInt i_6.toInt r_13.toInt from (tdI_y (k := i_6.toInt) (m1 := r_13.toInt) b_10 (by omega) (by omega) (by omega) rfl (by have h9 := k_14 (by omega) (by omega); exact h9))) (show x_18.toInt ≤ p1.toInt by omega) (show 6 - x_18.toInt ≤ (nlp_5 : Int) by omega) hP hD hS (lv_sub hl [0, 2, 1, 4, 5] rfl)
    exact lp_5 6 0 33 (-2) _ _ _ (by decide) (show tdI (gS (wI u_weightsf) (Int.toNat u_sets.toInt)) 0 (-2) 33 from (tdI_0 (by decide) (by decide) (by decide))) (show 0 ≤ p1.toInt by omega) (show 6 - 0 ≤ ((6 : Nat) : Int) by omega) hP hD hS hl
  · have h_4 : r_1.toInt = 0 := c_eq h_4
    refine lv_bipush (v := -2) hx hb dX5_best_7 (by decide) ?_
    exact eI hQ X hr hlocks hP hD hS () [0, 1] (by decide) rfl rfl (show (bsP (wI u_weightsf) (Int.toNat u_sets.toInt) p1.toInt (-2 : Int32).toInt) from (bsP_n k_2_1 (by omega) (by decide))) (Nat.le_of_ble_eq_true rfl) (Nat.le_of_ble_eq_true rfl) dX5_best_9
set_option maxHeartbeats 4000000 in
set_option maxRecDepth 100000 in
theorem sX5_learn (l : Launch) (dC : Nat → ClassId) (dI : Nat → Nat → Nat) (cy : Nat → ClassId) (h0 : Nat) (u_ditches : Nat) (u_weights : Nat) (u_sets : Int32) (u_ditchesf : Nat → Int32) (u_weightsf : Nat → Int64) (h1 : Nat) (k_ground : Nat) (k_errs : Int32) (k_slips : Int32) (k_rows : Int32) (k_unsureCount : Int32) (k_unsure : Nat) (k_walkers : Int32) (k_names : Nat) (k_kinds : Nat) (k_starts : Nat) (k_goals : Nat) (k_walks : Int32) (k_walkStarts : Nat) (k_walkSteps : Nat) (k_walkFell : Nat) (k_ground_wide : Int32) (k_ground_deep : Int32) (k_ground_count : Int32) (k_ground_sorts : Nat) (k_ground_sortsf : Nat → Int32) (k_unsuref : Nat → Int32) (k_walkStartsf : Nat → Int32) (k_walkStepsf : Nat → Int32) (k_walkFellf : Nat → Int32) (hu_sets : 0 ≤ u_sets.toInt ∧ u_sets.toInt ≤ 32) (hk_rows : 0 ≤ k_rows.toInt ∧ k_rows.toInt ≤ 4) (hk_unsureCount : 0 ≤ k_unsureCount.toInt ∧ k_unsureCount.toInt ≤ 5) (hk_walkers : 0 ≤ k_walkers.toInt ∧ k_walkers.toInt ≤ 4) (hk_walks : 0 ≤ k_walks.toInt ∧ k_walks.toInt ≤ 6) (hk_ground_wide : 0 ≤ k_ground_wide.toInt ∧ k_ground_wide.toInt ≤ 5) (hk_ground_deep : 0 ≤ k_ground_deep.toInt ∧ k_ground_deep.toInt ≤ 4) (hk_ground_count : 0 ≤ k_ground_count.toInt ∧ k_ground_count.toInt ≤ 20) (hk_walkStepsf : rb k_walkStepsf 6 (-2147483648) 3) : ctV l dC dI cy hp yX5_learn cX5_learn 7 ({ frames := 2, cells := 0, slots := 0, locals := 47 } : Room) [.ref h0, .ref h1] [(h0, .inr (5, [.ref u_ditches, .ref u_weights, .int u_sets])), (u_ditches, .inl (cy 1, 32, .inl u_ditchesf)), (u_weights, .inl (cy 2, 32, .inr (.inl u_weightsf))), (h1, .inr (7, [.ref k_ground, .int k_errs, .int k_slips, .int k_rows, .int k_unsureCount, .ref k_unsure, .int k_walkers, .ref k_names, .ref k_kinds, .ref k_starts, .ref k_goals, .int k_walks, .ref k_walkStarts, .ref k_walkSteps, .ref k_walkFell])), (k_ground, .inr (4, [.int k_ground_wide, .int k_ground_deep, .int k_ground_count, .ref k_ground_sorts])), (k_ground_sorts, .inl (cy 1, 20, .inl k_ground_sortsf)), (k_unsure, .inl (cy 1, 5, .inl k_unsuref)), (k_walkStarts, .inl (cy 1, 6, .inl k_walkStartsf)), (k_walkSteps, .inl (cy 1, 6, .inl k_walkStepsf)), (k_walkFell, .inl (cy 3, 6, .inl k_walkFellf))] (S := (Nat → Int32) × (Nat → Int64) × Int32) (fun u => (0 ≤ u.2.2.toInt ∧ u.2.2.toInt ≤ 32) ∧ (u.2.2.toInt = ((2 ^ (Int.toNat k_unsureCount.toInt) : Nat) : Int)) ∧ (tkO k_ground_count.toInt k_ground_wide.toInt k_unsureCount.toInt k_walks.toInt k_errs.toInt k_unsuref k_walkStartsf k_walkStepsf k_walkFellf → lrI k_ground_count.toInt k_ground_wide.toInt k_unsureCount.toInt k_walks.toInt k_errs.toInt k_ground_sortsf k_unsuref k_walkStartsf k_walkStepsf k_walkFellf u.1 u.2.1 u.2.2.toInt)) (fun u => [(h0, .inr (5, [.ref u_ditches, .ref u_weights, .int u.2.2])), (u_ditches, .inl (cy 1, 32, .inl u.1)), (u_weights, .inl (cy 2, 32, .inr (.inl u.2.1))), (h1, .inr (7, [.ref k_ground, .int k_errs, .int k_slips, .int k_rows, .int k_unsureCount, .ref k_unsure, .int k_walkers, .ref k_names, .ref k_kinds, .ref k_starts, .ref k_goals, .int k_walks, .ref k_walkStarts, .ref k_walkSteps, .ref k_walkFell])), (k_ground, .inr (4, [.int k_ground_wide, .int k_ground_deep, .int k_ground_count, .ref k_ground_sorts])), (k_ground_sorts, .inl (cy 1, 20, .inl k_ground_sortsf)), (k_unsure, .inl (cy 1, 5, .inl k_unsuref)), (k_walkStarts, .inl (cy 1, 6, .inl k_walkStartsf)), (k_walkSteps, .inl (cy 1, 6, .inl k_walkStepsf)), (k_walkFell, .inl (cy 3, 6, .inl k_walkFellf))]) := by
  refine ctV.of (by decide +kernel) (Nat.le_of_ble_eq_true rfl) ?_
  intro p e s m args below meth c A ls Q hQ X hr hlocks hin hA hP hD hS hl
  have hx := X.1
  have hb := X.2.1
  have hK := X.2.2.2.2.2.1
  have hl : lv_has ls 7 [(0, .ref h0), (1, .ref h1)] := hl
  refine lv_aload_n hx hb dX5_learn_0 rfl (lv_at hl 1 rfl) ?_
  refine r_get X kcX7 (ci := 7) rfl hP 3 rfl 0 (by decide) fX5_19 rfl dX5_learn_1 ?_
  refine lv_iconst (v := 1) hx hb dX5_learn_4 (by decide) ?_
  refine sl_Ic (rV_I (As := [.int 1]) (rest := []) X hp_st (fun _ _ _ h => h) (sX4_bitsOf l dC dI cy k_ground k_ground_wide k_ground_deep k_ground_count k_ground_sorts k_ground_sortsf 1 hk_ground_wide hk_ground_deep hk_ground_count) kX4_bitsOf vX4_bitsOf mX5_25 hP hD hS hA [4, 5] (by decide) rfl 0 (ci := 4) rfl rfl rfl hl rfl rfl (Nat.le_of_ble_eq_true rfl) dX5_learn_5 ⟨(Nat.le_of_ble_eq_true rfl), (Nat.le_of_ble_eq_true rfl)⟩ ⟨(Nat.le_of_ble_eq_true rfl), (Nat.le_of_ble_eq_true rfl)⟩) hP hD hS hA [4, 5] [true, true, true, true, false, false, true, true, true, true] rfl rfl rfl (fun r_1 u_3 H locs k_2 hP hD hS => ?_)
  have k_2 : (0 ≤ k_ground_count.toInt → r_1 = boZ k_ground_sortsf (1 : Int32).toInt k_ground_count.toInt.toNat) := k_2
  have kc_4 : (1 : Int32).toInt = 1 := by decide
  have hPD := vPD (ws' := [(h0, .inr (5, [.ref u_ditches, .ref u_weights, .int u_sets])), (u_ditches, .inl (cy 1, 32, .inl u_ditchesf)), (u_weights, .inl (cy 2, 32, .inr (.inl u_weightsf))), (h1, .inr (7, [.ref k_ground, .int k_errs, .int k_slips, .int k_rows, .int k_unsureCount, .ref k_unsure, .int k_walkers, .ref k_names, .ref k_kinds, .ref k_starts, .ref k_goals, .int k_walks, .ref k_walkStarts, .ref k_walkSteps, .ref k_walkFell])), (k_unsure, .inl (cy 1, 5, .inl k_unsuref)), (k_walkStarts, .inl (cy 1, 6, .inl k_walkStartsf)), (k_walkSteps, .inl (cy 1, 6, .inl k_walkStepsf)), (k_walkFell, .inl (cy 3, 6, .inl k_walkFellf)), (k_ground, .inr (4, [.int k_ground_wide, .int k_ground_deep, .int k_ground_count, .ref k_ground_sorts])), (k_ground_sorts, .inl (cy 1, 20, .inl k_ground_sortsf))]) hP hD rfl
  have hP := hPD.1
  have hD := hPD.2
  refine lv_istore_n (lv' := [(2, .int r_1), (0, .ref h0), (1, .ref h1)]) hx hb dX5_learn_8 rfl hl (by decide) rfl (fun ls hl => ?_)
  refine lv_aload_n hx hb dX5_learn_9 rfl (lv_at hl 1 rfl) ?_
  refine lv_iconst (v := 1) hx hb dX5_learn_10 (by decide) ?_
  refine lv_aload_n hx hb dX5_learn_11 rfl (lv_at hl 2 rfl) ?_
  refine r_get X kcX7 (ci := 7) rfl hP 3 rfl 4 (by decide) fX5_31 rfl dX5_learn_12 ?_
  refine lv_ishl hx hb dX5_learn_15 ?_
  refine lv_topi (fun x_5 ex_5 => ?_)
  have tx_5 : 1 ≤ x_5.toInt ∧ x_5.toInt ≤ 32 := ti_shl5 ex_5 (by omega) (by omega)
  refine r_put X kcX5 (ci := 5) rfl hP hD hS 0 rfl 2 (by decide) fX5_35 rfl rfl rfl (Nat.le_of_ble_eq_true rfl) dX5_learn_16 (fun H locs hP hD hS => ?_)
  have hPD := vPD (ws' := [(h0, .inr (5, [.ref u_ditches, .ref u_weights, .int x_5])), (u_ditches, .inl (cy 1, 32, .inl u_ditchesf)), (u_weights, .inl (cy 2, 32, .inr (.inl u_weightsf))), (h1, .inr (7, [.ref k_ground, .int k_errs, .int k_slips, .int k_rows, .int k_unsureCount, .ref k_unsure, .int k_walkers, .ref k_names, .ref k_kinds, .ref k_starts, .ref k_goals, .int k_walks, .ref k_walkStarts, .ref k_walkSteps, .ref k_walkFell])), (k_unsure, .inl (cy 1, 5, .inl k_unsuref)), (k_walkStarts, .inl (cy 1, 6, .inl k_walkStartsf)), (k_walkSteps, .inl (cy 1, 6, .inl k_walkStepsf)), (k_walkFell, .inl (cy 3, 6, .inl k_walkFellf)), (k_ground, .inr (4, [.int k_ground_wide, .int k_ground_deep, .int k_ground_count, .ref k_ground_sorts])), (k_ground_sorts, .inl (cy 1, 20, .inl k_ground_sortsf))]) hP hD rfl
  have hP := hPD.1
  have hD := hPD.2
  refine lv_iconst (v := 0) hx hb dX5_learn_19 (by decide) ?_
  refine lv_istore_n (lv' := [(3, .int 0), (2, .int r_1), (0, .ref h0), (1, .ref h1)]) hx hb dX5_learn_20 rfl hl (by decide) rfl (fun ls hl => ?_)
  have lp_6 : ∀ (nlp_6 : Nat) (i_7 : Int32) (f_9 : Nat → Int32) (f_10 : Nat → Int64) (H : Heap) (locs : List Loc) (ls : Array Slot), (0 ≤ i_7.toInt ∧ i_7.toInt ≤ 32) → (tkO k_ground_count.toInt k_ground_wide.toInt k_unsureCount.toInt k_walks.toInt k_errs.toInt k_unsuref k_walkStartsf k_walkStepsf k_walkFellf → lrI k_ground_count.toInt k_ground_wide.toInt k_unsureCount.toInt k_walks.toInt k_errs.toInt k_ground_sortsf k_unsuref k_walkStartsf k_walkStepsf k_walkFellf f_9 f_10 i_7.toInt) → (i_7.toInt ≤ x_5.toInt) → (33 - i_7.toInt ≤ (nlp_6 : Int)) → va_P (dC, dI) vwCl [(h0, .inr (5, [.ref u_ditches, .ref u_weights, .int x_5])), (u_ditches, .inl (cy 1, 32, .inl f_9)), (u_weights, .inl (cy 2, 32, .inr (.inl f_10))), (h1, .inr (7, [.ref k_ground, .int k_errs, .int k_slips, .int k_rows, .int k_unsureCount, .ref k_unsure, .int k_walkers, .ref k_names, .ref k_kinds, .ref k_starts, .ref k_goals, .int k_walks, .ref k_walkStarts, .ref k_walkSteps, .ref k_walkFell])), (k_unsure, .inl (cy 1, 5, .inl k_unsuref)), (k_walkStarts, .inl (cy 1, 6, .inl k_walkStartsf)), (k_walkSteps, .inl (cy 1, 6, .inl k_walkStepsf)), (k_walkFell, .inl (cy 3, 6, .inl k_walkFellf)), (k_ground, .inr (4, [.int k_ground_wide, .int k_ground_deep, .int k_ground_count, .ref k_ground_sorts])), (k_ground_sorts, .inl (cy 1, 20, .inl k_ground_sortsf))] H → va_D A [(h0, .inr (5, [.ref u_ditches, .ref u_weights, .int x_5])), (u_ditches, .inl (cy 1, 32, .inl f_9)), (u_weights, .inl (cy 2, 32, .inr (.inl f_10))), (h1, .inr (7, [.ref k_ground, .int k_errs, .int k_slips, .int k_rows, .int k_unsureCount, .ref k_unsure, .int k_walkers, .ref k_names, .ref k_kinds, .ref k_starts, .ref k_goals, .int k_walks, .ref k_walkStarts, .ref k_walkSteps, .ref k_walkFell])), (k_unsure, .inl (cy 1, 5, .inl k_unsuref)), (k_walkStarts, .inl (cy 1, 6, .inl k_walkStartsf)), (k_walkSteps, .inl (cy 1, 6, .inl k_walkStepsf)), (k_walkFell, .inl (cy 3, 6, .inl k_walkFellf)), (k_ground, .inr (4, [.int k_ground_wide, .int k_ground_deep, .int k_ground_count, .ref k_ground_sorts])), (k_ground_sorts, .inl (cy 1, 20, .inl k_ground_sortsf))] → va_S A s.heap H locs → lv_has ls 7 [(3, .int i_7), (2, .int r_1), (0, .ref h0), (1, .ref h1)] → W p l e ({ frames := 2, cells := 0, slots := 0, locals := 47 } : Room) s m args below meth c H locs 0 0 Q (F0 m 21 ls []) := by
    intro nlp_6
    induction nlp_6 with
    | zero =>
      intro i_7 f_9 f_10 H locs ls b_8 b_11 b_12 hmlp_6 hP hD hS hl
      exfalso
      have di_7 := ti_bd i_7
      omega
    | succ nlp_6 ihlp_6 =>
      intro i_7 f_9 f_10 H locs ls b_8 b_11 b_12 hmlp_6 hP hD hS hl
      refine lv_iload_n hx hb dX5_learn_21 rfl (lv_at hl 0 rfl) ?_
      refine lv_aload_n hx hb dX5_learn_22 rfl (lv_at hl 2 rfl) ?_
      refine r_get X kcX5 (ci := 5) rfl hP 0 rfl 2 (by decide) fX5_35 rfl dX5_learn_23 ?_
      refine lv_icmp_ge (tgt := 113) hx hb dX5_learn_26 (by decide) (fun h_13 => ?_) (fun h_13 => ?_)
      · have h_13 : x_5.toInt ≤ i_7.toInt := c_le h_13
        exact eV hQ X hr hlocks hP hD hS (f_9, f_10, x_5) [0, 1, 2, 3, 8, 9, 4, 5, 6, 7] (by decide +kernel) rfl (show (0 ≤ x_5.toInt ∧ x_5.toInt ≤ 32) ∧ (x_5.toInt = ((2 ^ (Int.toNat k_unsureCount.toInt) : Nat) : Int)) ∧ (tkO k_ground_count.toInt k_ground_wide.toInt k_unsureCount.toInt k_walks.toInt k_errs.toInt k_unsuref k_walkStartsf k_walkStepsf k_walkFellf → lrI k_ground_count.toInt k_ground_wide.toInt k_unsureCount.toInt k_walks.toInt k_errs.toInt k_ground_sortsf k_unsuref k_walkStartsf k_walkStepsf k_walkFellf f_9 f_10 x_5.toInt) from ⟨(by omega), (sets_of ex_5 (by omega) (by omega)).1, (fun h6 => by have h9 := b_11 h6; rw [show i_7.toInt = x_5.toInt by omega] at h9; exact h9)⟩) (Nat.le_of_ble_eq_true rfl) (Nat.le_of_ble_eq_true rfl) dX5_learn_113
      · have h_13 : i_7.toInt < x_5.toInt := c_nle h_13
        refine lv_aload_n hx hb dX5_learn_29 rfl (lv_at hl 2 rfl) ?_
        refine r_get X kcX5 (ci := 5) rfl hP 0 rfl 0 (by decide) fX5_11 rfl dX5_learn_30 ?_
        refine lv_iload_n hx hb dX5_learn_33 rfl (lv_at hl 0 rfl) ?_
        refine lv_iload_n hx hb dX5_learn_34 rfl (lv_at hl 1 rfl) ?_
        refine lv_aload_n hx hb dX5_learn_35 rfl (lv_at hl 3 rfl) ?_
        refine lv_iload_n hx hb dX5_learn_36 rfl (lv_at hl 0 rfl) ?_
        refine sl_Ic (rV_I (As := [.int i_7]) (rest := [.int r_1, .int i_7, .ref u_ditches]) X hp_st (fun _ _ _ h => h) (sX7_unsureBits l dC dI cy h1 k_ground k_errs k_slips k_rows k_unsureCount k_unsure k_walkers k_names k_kinds k_starts k_goals k_walks k_walkStarts k_walkSteps k_walkFell k_unsuref i_7 hk_rows hk_unsureCount hk_walkers hk_walks) kX7_unsureBits vX7_unsureBits mX5_38 hP hD hS hA [3, 4] (by decide) rfl 0 (ci := 7) rfl rfl rfl hl rfl rfl (Nat.le_of_ble_eq_true rfl) dX5_learn_37 ⟨(Nat.le_of_ble_eq_true rfl), (Nat.le_of_ble_eq_true rfl)⟩ ⟨(Nat.le_of_ble_eq_true rfl), (Nat.le_of_ble_eq_true rfl)⟩) hP hD hS hA [3, 4] [true, true, true, false, false, true, true, true, true, true] rfl rfl rfl (fun r_14 u_16 H locs k_15 hP hD hS => ?_)
        have k_15 : (ucO k_unsuref k_unsureCount.toInt → ubI k_unsuref k_unsureCount.toInt i_7 r_14) := k_15
        have hPD := vPD (ws' := [(h0, .inr (5, [.ref u_ditches, .ref u_weights, .int x_5])), (u_ditches, .inl (cy 1, 32, .inl f_9)), (u_weights, .inl (cy 2, 32, .inr (.inl f_10))), (k_walkStarts, .inl (cy 1, 6, .inl k_walkStartsf)), (k_walkSteps, .inl (cy 1, 6, .inl k_walkStepsf)), (k_walkFell, .inl (cy 3, 6, .inl k_walkFellf)), (k_ground, .inr (4, [.int k_ground_wide, .int k_ground_deep, .int k_ground_count, .ref k_ground_sorts])), (k_ground_sorts, .inl (cy 1, 20, .inl k_ground_sortsf)), (h1, .inr (7, [.ref k_ground, .int k_errs, .int k_slips, .int k_rows, .int k_unsureCount, .ref k_unsure, .int k_walkers, .ref k_names, .ref k_kinds, .ref k_starts, .ref k_goals, .int k_walks, .ref k_walkStarts, .ref k_walkSteps, .ref k_walkFell])), (k_unsure, .inl (cy 1, 5, .inl k_unsuref))]) hP hD rfl
        have hP := hPD.1
        have hD := hPD.2
        refine lv_ior hx hb dX5_learn_40 ?_
        have dy_17 := ti_bd r_1
        have dy_18 := ti_bd r_14
        refine lv_topi (fun x_19 ex_19 => ?_)
        refine va_iast (D := (dC, dI)) (cl := vwCl) hx hb hK hP hD hS 1 1 rfl rfl (i := i_7) (vin (by omega) (by omega)) dX5_learn_41 (fun H locs hP hD hS => ?_)
        generalize ef_20 : upd f_9 (Int32.toNatClampNeg i_7) x_19 = f_20 at hP hD
        have hPD := vPD (ws' := [(h0, .inr (5, [.ref u_ditches, .ref u_weights, .int x_5])), (u_ditches, .inl (cy 1, 32, .inl f_20)), (u_weights, .inl (cy 2, 32, .inr (.inl f_10))), (k_walkStarts, .inl (cy 1, 6, .inl k_walkStartsf)), (k_walkSteps, .inl (cy 1, 6, .inl k_walkStepsf)), (k_walkFell, .inl (cy 3, 6, .inl k_walkFellf)), (k_ground, .inr (4, [.int k_ground_wide, .int k_ground_deep, .int k_ground_count, .ref k_ground_sorts])), (k_ground_sorts, .inl (cy 1, 20, .inl k_ground_sortsf)), (h1, .inr (7, [.ref k_ground, .int k_errs, .int k_slips, .int k_rows, .int k_unsureCount, .ref k_unsure, .int k_walkers, .ref k_names, .ref k_kinds, .ref k_starts, .ref k_goals, .int k_walks, .ref k_walkStarts, .ref k_walkSteps, .ref k_walkFell])), (k_unsure, .inl (cy 1, 5, .inl k_unsuref))]) hP hD rfl
        have hP := hPD.1
        have hD := hPD.2
        refine lv_lconst (v := 1) hx hb dX5_learn_42 (by decide) ?_
        refine lv_lstore (lv' := [(4, .long 1), (3, .int i_7), (2, .int r_1), (0, .ref h0), (1, .ref h1)]) hx hb dX5_learn_43 hl (by decide) rfl (fun ls hl => ?_)
        refine lv_iconst (v := 0) hx hb dX5_learn_45 (by decide) ?_
        refine lv_istore (lv' := [(6, .int 0), (4, .long 1), (3, .int i_7), (2, .int r_1), (0, .ref h0), (1, .ref h1)]) hx hb dX5_learn_46 hl (by decide) rfl (fun ls hl => ?_)
        have lp_21 : ∀ (nlp_21 : Nat) (i_22 : Int32) (i_24 : Int64) (H : Heap) (locs : List Loc) (ls : Array Slot), (0 ≤ i_22.toInt ∧ i_22.toInt ≤ 6) → (tkO k_ground_count.toInt k_ground_wide.toInt k_unsureCount.toInt k_walks.toInt k_errs.toInt k_unsuref k_walkStartsf k_walkStepsf k_walkFellf → (i_24).toInt = wtP k_errs.toInt (tlR (btD x_19) k_ground_wide.toInt k_walkStartsf k_walkStepsf k_walkFellf) (Int.toNat i_22.toInt)) → (i_22.toInt ≤ k_walks.toInt) → (7 - i_22.toInt ≤ (nlp_21 : Int)) → va_P (dC, dI) vwCl [(h0, .inr (5, [.ref u_ditches, .ref u_weights, .int x_5])), (u_ditches, .inl (cy 1, 32, .inl f_20)), (u_weights, .inl (cy 2, 32, .inr (.inl f_10))), (k_walkStarts, .inl (cy 1, 6, .inl k_walkStartsf)), (k_walkSteps, .inl (cy 1, 6, .inl k_walkStepsf)), (k_walkFell, .inl (cy 3, 6, .inl k_walkFellf)), (k_ground, .inr (4, [.int k_ground_wide, .int k_ground_deep, .int k_ground_count, .ref k_ground_sorts])), (k_ground_sorts, .inl (cy 1, 20, .inl k_ground_sortsf)), (h1, .inr (7, [.ref k_ground, .int k_errs, .int k_slips, .int k_rows, .int k_unsureCount, .ref k_unsure, .int k_walkers, .ref k_names, .ref k_kinds, .ref k_starts, .ref k_goals, .int k_walks, .ref k_walkStarts, .ref k_walkSteps, .ref k_walkFell])), (k_unsure, .inl (cy 1, 5, .inl k_unsuref))] H → va_D A [(h0, .inr (5, [.ref u_ditches, .ref u_weights, .int x_5])), (u_ditches, .inl (cy 1, 32, .inl f_20)), (u_weights, .inl (cy 2, 32, .inr (.inl f_10))), (k_walkStarts, .inl (cy 1, 6, .inl k_walkStartsf)), (k_walkSteps, .inl (cy 1, 6, .inl k_walkStepsf)), (k_walkFell, .inl (cy 3, 6, .inl k_walkFellf)), (k_ground, .inr (4, [.int k_ground_wide, .int k_ground_deep, .int k_ground_count, .ref k_ground_sorts])), (k_ground_sorts, .inl (cy 1, 20, .inl k_ground_sortsf)), (h1, .inr (7, [.ref k_ground, .int k_errs, .int k_slips, .int k_rows, .int k_unsureCount, .ref k_unsure, .int k_walkers, .ref k_names, .ref k_kinds, .ref k_starts, .ref k_goals, .int k_walks, .ref k_walkStarts, .ref k_walkSteps, .ref k_walkFell])), (k_unsure, .inl (cy 1, 5, .inl k_unsuref))] → va_S A s.heap H locs → lv_has ls 7 [(6, .int i_22), (4, .long i_24), (3, .int i_7), (2, .int r_1), (0, .ref h0), (1, .ref h1)] → W p l e ({ frames := 2, cells := 0, slots := 0, locals := 47 } : Room) s m args below meth c H locs 0 0 Q (F0 m 48 ls []) := by
          intro nlp_21
          induction nlp_21 with
          | zero =>
            intro i_22 i_24 H locs ls b_23 b_25 b_26 hmlp_21 hP hD hS hl
            exfalso
            have di_22 := ti_bd i_22
            omega
          | succ nlp_21 ihlp_21 =>
            intro i_22 i_24 H locs ls b_23 b_25 b_26 hmlp_21 hP hD hS hl
            refine lv_iload hx hb dX5_learn_48 (lv_at hl 0 rfl) ?_
            refine lv_aload_n hx hb dX5_learn_50 rfl (lv_at hl 5 rfl) ?_
            refine r_get X kcX7 (ci := 7) rfl hP 8 rfl 11 (by decide) fX5_41 rfl dX5_learn_51 ?_
            refine lv_icmp_ge (tgt := 99) hx hb dX5_learn_54 (by decide) (fun h_27 => ?_) (fun h_27 => ?_)
            · have h_27 : k_walks.toInt ≤ i_22.toInt := c_le h_27
              refine lv_aload_n hx hb dX5_learn_99 rfl (lv_at hl 4 rfl) ?_
              refine r_get X kcX5 (ci := 5) rfl hP 0 rfl 1 (by decide) fX5_15 rfl dX5_learn_100 ?_
              refine lv_iload_n hx hb dX5_learn_103 rfl (lv_at hl 2 rfl) ?_
              refine lv_lload hx hb dX5_learn_104 (lv_at hl 1 rfl) ?_
              refine va_last (D := (dC, dI)) (cl := vwCl) hx hb hK hP hD hS 2 2 rfl rfl (i := i_7) (vin (by omega) (by omega)) dX5_learn_106 (fun H locs hP hD hS => ?_)
              generalize ef_28 : vp_updL f_10 (Int32.toNatClampNeg i_7) i_24 = f_28 at hP hD
              have hPD := vPD (ws' := [(h0, .inr (5, [.ref u_ditches, .ref u_weights, .int x_5])), (u_ditches, .inl (cy 1, 32, .inl f_20)), (u_weights, .inl (cy 2, 32, .inr (.inl f_28))), (k_walkStarts, .inl (cy 1, 6, .inl k_walkStartsf)), (k_walkSteps, .inl (cy 1, 6, .inl k_walkStepsf)), (k_walkFell, .inl (cy 3, 6, .inl k_walkFellf)), (k_ground, .inr (4, [.int k_ground_wide, .int k_ground_deep, .int k_ground_count, .ref k_ground_sorts])), (k_ground_sorts, .inl (cy 1, 20, .inl k_ground_sortsf)), (h1, .inr (7, [.ref k_ground, .int k_errs, .int k_slips, .int k_rows, .int k_unsureCount, .ref k_unsure, .int k_walkers, .ref k_names, .ref k_kinds, .ref k_starts, .ref k_goals, .int k_walks, .ref k_walkStarts, .ref k_walkSteps, .ref k_walkFell])), (k_unsure, .inl (cy 1, 5, .inl k_unsuref))]) hP hD rfl
              have hP := hPD.1
              have hD := hPD.2
              obtain ⟨x_29, ex_29⟩ : ∃ y : Int32, y = i_7 + 1 := ⟨_, rfl⟩
              have tx_29 : x_29.toInt = i_7.toInt + 1 := ti_add (A := i_7.toInt) (B := 1) ex_29 rfl rfl (by omega) (by omega)
              refine lv_iinc (v := x_29) (lv' := [(3, .int x_29), (6, .int i_22), (4, .long i_24), (2, .int r_1), (0, .ref h0), (1, .ref h1)]) hx hb dX5_learn_107 hl (k := 2) rfl (by rw [ex_29]; rfl) (by decide) rfl (fun ls hl => ?_)
              refine lv_goto (tgt := 21) hx hb dX5_learn_110 (by decide) ?_
              exact ihlp_6 x_29 f_20 f_28 _ _ _ (by omega) (show tkO k_ground_count.toInt k_ground_wide.toInt k_unsureCount.toInt k_walks.toInt k_errs.toInt k_unsuref k_walkStartsf k_walkStepsf k_walkFellf → lrI k_ground_count.toInt k_ground_wide.toInt k_unsureCount.toInt k_walks.toInt k_errs.toInt k_ground_sortsf k_unsuref k_walkStartsf k_walkStepsf k_walkFellf f_20 f_28 x_29.toInt from (fun h6 => lrI_up (I := i_7) (b_11 h6) rfl (by omega) ef_20 ef_28 (lrS_of (a := r_1) (k := i_22.toInt) h6 (by omega) (by have h9 := k_2 (by omega); rw [show (1 : Int32).toInt = (1 : Int) by decide] at h9; exact h9) (k_15 h6.2.2.2) ex_19 (by omega) (b_25 h6)) (by omega))) (show x_29.toInt ≤ x_5.toInt by omega) (show 33 - x_29.toInt ≤ (nlp_6 : Int) by omega) (hP.sub [0, 1, 2, 8, 9, 3, 4, 5, 6, 7] rfl) (hD.sub [0, 1, 2, 8, 9, 3, 4, 5, 6, 7] (by decide +kernel) rfl) hS (lv_sub hl [0, 3, 4, 5] rfl)
            · have h_27 : i_22.toInt < k_walks.toInt := c_nle h_27
              refine lv_lload hx hb dX5_learn_57 (lv_at hl 1 rfl) ?_
              refine lv_aload_n hx hb dX5_learn_59 rfl (lv_at hl 5 rfl) ?_
              refine lv_iload hx hb dX5_learn_60 (lv_at hl 0 rfl) ?_
              refine lv_aload_n hx hb dX5_learn_62 rfl (lv_at hl 4 rfl) ?_
              refine r_get X kcX5 (ci := 5) rfl hP 0 rfl 0 (by decide) fX5_11 rfl dX5_learn_63 ?_
              refine lv_iload_n hx hb dX5_learn_66 rfl (lv_at hl 2 rfl) ?_
              refine va_iald (D := (dC, dI)) (cl := vwCl) hx hb hK hP 1 1 rfl rfl (i := i_7) (vin (by omega) (by omega)) dX5_learn_67 ?_
              refine lv_topi (fun x_30 ex_30 => ?_)
              refine sl_Ic (rV_I (As := [.int i_22, .int x_30]) (rest := [.long i_24]) X hp_st (fun _ _ _ h => h) (sX7_isToldWrongly l dC dI cy h1 k_ground k_errs k_slips k_rows k_unsureCount k_unsure k_walkers k_names k_kinds k_starts k_goals k_walks k_walkStarts k_walkSteps k_walkFell k_ground_wide k_ground_deep k_ground_count k_ground_sorts k_ground_sortsf k_walkStartsf k_walkStepsf k_walkFellf i_22 x_30 hk_rows hk_unsureCount hk_walkers hk_walks hk_ground_wide hk_ground_deep hk_ground_count hk_walkStepsf (by first | decide | omega)) kX7_isToldWrongly vX7_isToldWrongly mX5_44 hP hD hS hA [8, 6, 7, 3, 4, 5] (by decide) rfl 0 (ci := 7) rfl rfl rfl hl rfl rfl (Nat.le_of_ble_eq_true rfl) dX5_learn_68 ⟨(Nat.le_of_ble_eq_true rfl), (Nat.le_of_ble_eq_true rfl)⟩ ⟨(Nat.le_of_ble_eq_true rfl), (Nat.le_of_ble_eq_true rfl)⟩) hP hD hS hA [8, 6, 7, 3, 4, 5] [true, true, true, false, false, false, false, false, false, true] rfl rfl rfl (fun r_31 u_33 H locs k_32 hP hD hS => ?_)
              have k_32 : (0 ≤ r_31.toInt ∧ r_31.toInt ≤ 1) ∧ (wlO k_ground_count.toInt k_ground_wide.toInt k_walkStartsf k_walkStepsf k_walkFellf i_22.toInt.toNat → 0 ≤ k_ground_wide.toInt → (r_31.toInt = 1 ↔ ¬ tlR (btD x_30) k_ground_wide.toInt k_walkStartsf k_walkStepsf k_walkFellf i_22.toInt.toNat)) := k_32
              obtain ⟨k_32_0, k_32_1⟩ := k_32
              have hPD := vPD (ws' := [(h0, .inr (5, [.ref u_ditches, .ref u_weights, .int x_5])), (u_ditches, .inl (cy 1, 32, .inl f_20)), (u_weights, .inl (cy 2, 32, .inr (.inl f_10))), (k_unsure, .inl (cy 1, 5, .inl k_unsuref)), (h1, .inr (7, [.ref k_ground, .int k_errs, .int k_slips, .int k_rows, .int k_unsureCount, .ref k_unsure, .int k_walkers, .ref k_names, .ref k_kinds, .ref k_starts, .ref k_goals, .int k_walks, .ref k_walkStarts, .ref k_walkSteps, .ref k_walkFell])), (k_ground, .inr (4, [.int k_ground_wide, .int k_ground_deep, .int k_ground_count, .ref k_ground_sorts])), (k_ground_sorts, .inl (cy 1, 20, .inl k_ground_sortsf)), (k_walkStarts, .inl (cy 1, 6, .inl k_walkStartsf)), (k_walkSteps, .inl (cy 1, 6, .inl k_walkStepsf)), (k_walkFell, .inl (cy 3, 6, .inl k_walkFellf))]) hP hD rfl
              have hP := hPD.1
              have hD := hPD.2
              refine lv_if_eq (tgt := 82) hx hb dX5_learn_71 (by decide) (fun h_34 => ?_) (fun h_34 => ?_)
              · have h_34 : r_31.toInt = 0 := c_eq h_34
                refine lv_bipush (v := 100) hx hb dX5_learn_82 (by decide) ?_
                refine lv_aload_n hx hb dX5_learn_84 rfl (lv_at hl 5 rfl) ?_
                refine r_get X kcX7 (ci := 7) rfl hP 4 rfl 1 (by decide) fX5_48 rfl dX5_learn_85 ?_
                refine lv_isub hx hb dX5_learn_88 ?_
                have dy_35 := ti_bd k_errs
                refine lv_topi (fun x_36 ex_36 => ?_)
                obtain ⟨x_37, ex_37⟩ : ∃ y : Int64, x_36.toInt64 = y := ⟨_, rfl⟩
                refine lv_i2l hx hb dX5_learn_89 ex_37 ?_
                refine lv_lmul hx hb dX5_learn_90 ?_
                refine lv_topl (fun x_38 ex_38 => ?_)
                refine lv_lstore (lv' := [(4, .long x_38), (6, .int i_22), (3, .int i_7), (2, .int r_1), (0, .ref h0), (1, .ref h1)]) hx hb dX5_learn_91 hl (by decide) rfl (fun ls hl => ?_)
                obtain ⟨x_39, ex_39⟩ : ∃ y : Int32, y = i_22 + 1 := ⟨_, rfl⟩
                have tx_39 : x_39.toInt = i_22.toInt + 1 := ti_add (A := i_22.toInt) (B := 1) ex_39 rfl rfl (by omega) (by omega)
                refine lv_iinc (v := x_39) (lv' := [(6, .int x_39), (4, .long x_38), (3, .int i_7), (2, .int r_1), (0, .ref h0), (1, .ref h1)]) hx hb dX5_learn_93 hl (k := 1) rfl (by rw [ex_39]; rfl) (by decide) rfl (fun ls hl => ?_)
                refine lv_goto (tgt := 48) hx hb dX5_learn_96 (by decide) ?_
                exact ihlp_21 x_39 x_38 _ _ _ (by omega) (show tkO k_ground_count.toInt k_ground_wide.toInt k_unsureCount.toInt k_walks.toInt k_errs.toInt k_unsuref k_walkStartsf k_walkStepsf k_walkFellf → (x_38).toInt = wtP k_errs.toInt (tlR (btD x_19) k_ground_wide.toInt k_walkStartsf k_walkStepsf k_walkFellf) (Int.toNat x_39.toInt) from (fun h6 => wt_up (k := i_22.toInt) (i := x_36) (b_25 h6) (by omega) (by omega) h6.2.1.1 h6.2.1.2 (Or.inl ⟨nn_of (tl_r (k_32_1 (h6.2.2.1 _ (by omega)) h6.1.1) (rd_upd ef_20 ex_30)) (by omega), er_sub ex_36 (by decide) h6.2.1.1 h6.2.1.2⟩) ex_37 ex_38 (by omega))) (show x_39.toInt ≤ k_walks.toInt by omega) (show 7 - x_39.toInt ≤ (nlp_21 : Int) by omega) (hP.sub [0, 1, 2, 7, 8, 9, 5, 6, 4, 3] rfl) (hD.sub [0, 1, 2, 7, 8, 9, 5, 6, 4, 3] (by decide +kernel) rfl) hS (lv_sub hl [0, 1, 2, 3, 4, 5] rfl)
              · have h_34 : r_31.toInt ≠ 0 := c_ne h_34
                refine lv_aload_n hx hb dX5_learn_74 rfl (lv_at hl 5 rfl) ?_
                refine r_get X kcX7 (ci := 7) rfl hP 4 rfl 1 (by decide) fX5_48 rfl dX5_learn_75 ?_
                obtain ⟨x_40, ex_40⟩ : ∃ y : Int64, k_errs.toInt64 = y := ⟨_, rfl⟩
                refine lv_i2l hx hb dX5_learn_78 ex_40 ?_
                refine lv_goto (tgt := 90) hx hb dX5_learn_79 (by decide) ?_
                refine lv_lmul hx hb dX5_learn_90 ?_
                refine lv_topl (fun x_41 ex_41 => ?_)
                refine lv_lstore (lv' := [(4, .long x_41), (6, .int i_22), (3, .int i_7), (2, .int r_1), (0, .ref h0), (1, .ref h1)]) hx hb dX5_learn_91 hl (by decide) rfl (fun ls hl => ?_)
                obtain ⟨x_42, ex_42⟩ : ∃ y : Int32, y = i_22 + 1 := ⟨_, rfl⟩
                have tx_42 : x_42.toInt = i_22.toInt + 1 := ti_add (A := i_22.toInt) (B := 1) ex_42 rfl rfl (by omega) (by omega)
                refine lv_iinc (v := x_42) (lv' := [(6, .int x_42), (4, .long x_41), (3, .int i_7), (2, .int r_1), (0, .ref h0), (1, .ref h1)]) hx hb dX5_learn_93 hl (k := 1) rfl (by rw [ex_42]; rfl) (by decide) rfl (fun ls hl => ?_)
                refine lv_goto (tgt := 48) hx hb dX5_learn_96 (by decide) ?_
                exact ihlp_21 x_42 x_41 _ _ _ (by omega) (show tkO k_ground_count.toInt k_ground_wide.toInt k_unsureCount.toInt k_walks.toInt k_errs.toInt k_unsuref k_walkStartsf k_walkStepsf k_walkFellf → (x_41).toInt = wtP k_errs.toInt (tlR (btD x_19) k_ground_wide.toInt k_walkStartsf k_walkStepsf k_walkFellf) (Int.toNat x_42.toInt) from (fun h6 => wt_up (k := i_22.toInt) (i := k_errs) (b_25 h6) (by omega) (by omega) h6.2.1.1 h6.2.1.2 (Or.inr ⟨((tl_r (k_32_1 (h6.2.2.1 _ (by omega)) h6.1.1) (rd_upd ef_20 ex_30))).mp (by omega), rfl⟩) ex_40 ex_41 (by omega))) (show x_42.toInt ≤ k_walks.toInt by omega) (show 7 - x_42.toInt ≤ (nlp_21 : Int) by omega) (hP.sub [0, 1, 2, 7, 8, 9, 5, 6, 4, 3] rfl) (hD.sub [0, 1, 2, 7, 8, 9, 5, 6, 4, 3] (by decide +kernel) rfl) hS (lv_sub hl [0, 1, 2, 3, 4, 5] rfl)
        exact lp_21 7 0 1 _ _ _ (by decide) (show tkO k_ground_count.toInt k_ground_wide.toInt k_unsureCount.toInt k_walks.toInt k_errs.toInt k_unsuref k_walkStartsf k_walkStepsf k_walkFellf → ((1 : Int64)).toInt = wtP k_errs.toInt (tlR (btD x_19) k_ground_wide.toInt k_walkStartsf k_walkStepsf k_walkFellf) (Int.toNat 0) from (fun _ => wt_0 (by decide) (by decide))) (show 0 ≤ k_walks.toInt by omega) (show 7 - 0 ≤ ((7 : Nat) : Int) by omega) hP hD hS hl
  exact lp_6 33 0 u_ditchesf u_weightsf _ _ _ (by decide) (show tkO k_ground_count.toInt k_ground_wide.toInt k_unsureCount.toInt k_walks.toInt k_errs.toInt k_unsuref k_walkStartsf k_walkStepsf k_walkFellf → lrI k_ground_count.toInt k_ground_wide.toInt k_unsureCount.toInt k_walks.toInt k_errs.toInt k_ground_sortsf k_unsuref k_walkStartsf k_walkStepsf k_walkFellf u_ditchesf u_weightsf 0 from (fun _ => lrI_0 (by decide))) (show 0 ≤ x_5.toInt by omega) (show 33 - 0 ≤ ((33 : Nat) : Int) by omega) hP hD hS hl
