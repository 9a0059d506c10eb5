theorem ti_mulr {a b x : Int32} {A B : Int} (e : x = a * b) (ha : 0 ≤ a.toInt) (hA : a.toInt ≤ A) (hb : 0 ≤ b.toInt) (hB : b.toInt ≤ B) (hAB : A * B ≤ 2147483647) : x.toInt = a.toInt * b.toInt ∧ 0 ≤ a.toInt * b.toInt ∧ a.toInt * b.toInt ≤ A * B := by
  have h0 : 0 ≤ a.toInt * b.toInt := Int.mul_nonneg ha hb
  have h1 : a.toInt * b.toInt ≤ A * B := Int.mul_le_mul hA hB hb (Int.le_trans ha hA)
  exact ⟨ti_mul e (by omega) (by omega), h0, h1⟩
/-- the first i cells are as they were -/
def cpZ (f g : Nat → Int32) (i : Int) : Prop := ∀ k : Nat, (k : Int) < i → g k = f k
theorem cpZ_0 {f g : Nat → Int32} {i : Int} (h : i ≤ 0) : cpZ f g i := fun k hk => by omega
theorem cpZ_rf {f : Nat → Int32} {i : Int} : cpZ f f i := fun _ _ => rfl
theorem cpZ_cpy {f g h : Nat → Int32} {a b n : Nat} {i : Int} (e : va_cpy f g a b n = h) (ha : a = 0) (hb : b = 0) (hi : i = n) : cpZ f h i := by
  subst ha; subst hb; subst hi
  intro k hk
  rw [← e]
  unfold va_cpy
  rw [if_pos (by omega)]
  show f (0 + (k - 0)) = f k
  rw [show 0 + (k - 0) = k by omega]
theorem cpZ_le {f g : Nat → Int32} {i j : Int} (h : cpZ f g i) (hj : j ≤ i) : cpZ f g j := fun k hk => h k (by omega)
theorem cpZ_up {f g g1 : Nat → Int32} {j v : Int32} {i i1 : Int} (h : cpZ f g i) (e : upd g (Int32.toNatClampNeg j) v = g1) (hj : j.toInt = i) (h0 : 0 ≤ i) (hv : v = f (Int32.toNatClampNeg j)) (hi : i1 = i + 1) : cpZ f g1 i1 := by
  have n0 : j.toNatClampNeg = i.toNat := by rw [← hj]; rfl
  intro k hk
  rw [← e]
  unfold upd
  by_cases hq : k = i.toNat
  · rw [if_pos (by rw [n0]; exact hq), hv, n0, hq]
  · rw [if_neg (by rw [n0]; exact hq)]
    exact h k (by omega)
/-- the first i cells are 0 -/
def zrZ (f : Nat → Int32) (i : Int) : Prop := ∀ k : Nat, (k : Int) < i → (f k).toInt = 0
theorem zrZ_0 {f : Nat → Int32} {i : Int} (h : i ≤ 0) : zrZ f i := fun k hk => by omega
theorem zrZ_up {g g1 : Nat → Int32} {j v : Int32} {i i1 : Int} (h : zrZ g i) (e : upd g (Int32.toNatClampNeg j) v = g1) (hj : j.toInt = i) (h0 : 0 ≤ i) (hv : v.toInt = 0) (hi : i1 = i + 1) : zrZ g1 i1 := by
  have n0 : j.toNatClampNeg = i.toNat := by rw [← hj]; rfl
  intro k hk
  rw [← e]
  unfold upd
  by_cases hq : k = i.toNat
  · rw [if_pos (by rw [n0]; exact hq)]; exact hv
  · rw [if_neg (by rw [n0]; exact hq)]
    exact h k (by omega)
/-- all that acts change, copied -/
def nwC (w d : Int32) (s a f g : Nat → Int32) (k w1 d1 c1 : Int32) (s1 a1 f1 g1 : Nat → Int32) (k1 : Int32) : Prop := w1 = w ∧ d1 = d ∧ c1.toInt = w.toInt * d.toInt ∧ cpZ s s1 20 ∧ cpZ a a1 4 ∧ cpZ f f1 4 ∧ cpZ g g1 4 ∧ k1 = k
/-- a park's first now -/
def nwB (w d : Int32) (s a : Nat → Int32) (k w1 d1 c1 : Int32) (s1 a1 f1 g1 : Nat → Int32) (k1 : Int32) : Prop := w1 = w ∧ d1 = d ∧ c1.toInt = w.toInt * d.toInt ∧ cpZ s s1 20 ∧ cpZ a a1 4 ∧ zrZ f1 4 ∧ zrZ g1 4 ∧ k1 = k
/-- a cell of the ground, and one that is put -/
def saZ (n : Int) (f : Nat → Int32) (c r : Int) : Prop := (0 ≤ c ∧ c < n ∧ r = (f c.toNat).toInt) ∨ ((c < 0 ∨ n ≤ c) ∧ r = 3)
def ptZ (n : Int) (s s1 : Nat → Int32) (c : Int32) (v : Int32) : Prop := 0 ≤ c.toInt → c.toInt < n → s1 = upd s c.toNatClampNeg v
theorem ti_orp {a b x : Int32} (e : x = a ||| b) (ha : 0 ≤ a.toInt) (hA : a.toInt ≤ 1048575) (hb : 0 ≤ b.toInt) (hB : b.toInt ≤ 1048575) : a.toInt ≤ x.toInt ∧ b.toInt ≤ x.toInt ∧ (a.toInt = 0 → x.toInt = b.toInt) := by
  have na := ti_nat ha
  have nb := ti_nat hb
  have hx : x.toBitVec.toNat = a.toBitVec.toNat ||| b.toBitVec.toNat := by rw [e]; exact BitVec.toNat_or ..
  have hlt : a.toBitVec.toNat ||| b.toBitVec.toNat < 2 ^ 20 := Nat.or_lt_two_pow (by omega) (by omega)
  have h1 := ti_of_nat hx (by omega)
  have h2 : a.toBitVec.toNat ≤ a.toBitVec.toNat ||| b.toBitVec.toNat := Nat.left_le_or
  have h3 : b.toBitVec.toNat ≤ a.toBitVec.toNat ||| b.toBitVec.toNat := Nat.right_le_or
  refine ⟨by omega, by omega, fun h0 => ?_⟩
  have h4 : a.toBitVec.toNat = 0 := by omega
  rw [h4, Nat.zero_or] at h1
  omega
/-- walkers at a place: none, one -/
def waN (f : Nat → Int32) (k c : Int) : Prop := ∀ j : Nat, (j : Int) < k → (f j).toInt ≠ c
def waY (f : Nat → Int32) (k c : Int) : Prop := ∃ j : Nat, (j : Int) < k ∧ (f j).toInt = c
def waP (f : Nat → Int32) (k c r : Int) : Prop := (r = 0 ∧ waN f k c) ∨ (1 ≤ r ∧ waY f k c)
theorem waP_0 {f : Nat → Int32} {k c r : Int} (hk : k ≤ 0) (hr : r = 0) : waP f k c r := Or.inl ⟨hr, fun j hj => by omega⟩
theorem waP_n {f : Nat → Int32} {k k1 c r r1 : Int} {i x : Int32} (h : waP f k c r) (ex : x = f i.toNatClampNeg) (hi : i.toInt = k) (h0 : 0 ≤ k) (hx : x.toInt ≠ c) (hr : r1 = r) (hk : k1 = k + 1) : waP f k1 c r1 := by
  have n0 : i.toNatClampNeg = k.toNat := by rw [← hi]; rfl
  rw [n0] at ex
  rcases h with ⟨h1, h2⟩ | ⟨h1, j, h2, h3⟩
  · refine Or.inl ⟨by omega, fun j hj => ?_⟩
    by_cases hq : j = k.toNat
    · rw [hq, ← ex]
      exact hx
    · exact h2 j (by omega)
  · exact Or.inr ⟨by omega, j, by omega, h3⟩
theorem waP_y {f : Nat → Int32} {k k1 c r r1 : Int} {i x : Int32} (h : waP f k c r) (ex : x = f i.toNatClampNeg) (hi : i.toInt = k) (h0 : 0 ≤ k) (hx : x.toInt = c) (hr : 1 ≤ r1) (hk : k1 = k + 1) : waP f k1 c r1 := by
  have n0 : i.toNatClampNeg = k.toNat := by rw [← hi]; rfl
  rw [n0] at ex
  exact Or.inr ⟨hr, k.toNat, by omega, by rw [← ex]; exact hx⟩
theorem waP_e {f : Nat → Int32} {k k1 c r : Int} (h : waP f k1 c r) (e : k1 = k) : waP f k c r := by rw [← e]; exact h
theorem waP_no {f : Nat → Int32} {k c r : Int} (h : waP f k c r) (hr : r = 0) : waN f k c := by
  rcases h with ⟨-, h2⟩ | ⟨h1, -⟩
  · exact h2
  · omega
theorem waP_ye {f : Nat → Int32} {k c r : Int} (h : waP f k c r) (hr : r ≠ 0) : waY f k c := by
  rcases h with ⟨h1, -⟩ | ⟨-, h2⟩
  · omega
  · exact h2
