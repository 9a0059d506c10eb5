theorem ti_mulq {a b x : Int32} {A B : Int} (e : x = a * b) (ha : 0 ≤ a.toInt) (hA : a.toInt ≤ A) (hb : 0 ≤ b.toInt) (hB : b.toInt ≤ B) (hAB : A * B ≤ 2147483647) : x.toInt = a.toInt * b.toInt ∧ 0 ≤ a.toInt * b.toInt ∧ a.toInt * b.toInt ≤ A * B := by
  have h0 : 0 ≤ a.toInt * b.toInt := Int.mul_nonneg ha hb
  have h1 : a.toInt * b.toInt ≤ A * B := Int.mul_le_mul hA hB hb (Int.le_trans ha hA)
  exact ⟨ti_mul e (by omega) (by omega), h0, h1⟩
theorem pl_bd {w d : Int} (h1 : 2 ≤ w) (h2 : w ≤ 5) (h3 : 2 ≤ d) (h4 : d ≤ 4) : 4 ≤ w * d ∧ w * d ≤ 20 :=
  ⟨by have := Int.mul_le_mul h1 h3 (by omega) (by omega); omega, by have := Int.mul_le_mul h2 h4 (by omega) (by omega); omega⟩
theorem pl_b0 {w d : Int} (h1 : 0 ≤ w) (h2 : w ≤ 5) (h3 : 0 ≤ d) (h4 : d ≤ 4) : 0 ≤ w * d ∧ w * d ≤ 20 :=
  ⟨Int.mul_nonneg h1 h3, by have := Int.mul_le_mul h2 h4 h3 (by omega); omega⟩
theorem rd_at {f : Nat → Int32} {i x : Int32} {z : Int} (e : x = f i.toNatClampNeg) (h : i.toInt = z) : (f z.toNat).toInt = x.toInt := by
  subst h; rw [e]; rfl
/-- where a step leads in the reference; -2 nowhere -/
def onF (w d c st : Int) : Int := if st = 0 then (if c < w then -2 else c - w) else if st = 2 then (if c + w < w * d then c + w else -2) else if st = 1 then (if c % w + 1 < w then c + 1 else -2) else (if 0 < c % w then c - 1 else -2)
theorem on_east {w d c : Int} (hw : 0 < w) (h : c < w * d) (h1 : c % w + 1 < w) : c + 1 < w * d := by
  have e := Int.emod_def c w
  have hq : c / w < d := Int.ediv_lt_of_lt_mul hw (by rw [Int.mul_comm]; exact h)
  have h3 : w * (c / w + 1) ≤ w * d := Int.mul_le_mul_of_nonneg_left (by omega) (by omega)
  rw [Int.mul_add] at h3
  omega
theorem on_west {w c : Int} (h0 : 0 ≤ c) (h1 : 0 < c % w) : 0 < c := by
  rcases Int.lt_or_eq_of_le h0 with h | h
  · exact h
  · rw [← h, Int.zero_emod] at h1; omega
theorem on_bd {w d c s : Int} (hw : 0 < w) (h0 : 0 ≤ c) (h : c < w * d) : onF w d c s = -2 ∨ (0 ≤ onF w d c s ∧ onF w d c s < w * d) := by
  have he := on_east hw h
  have hz := on_west (w := w) h0
  unfold onF
  (repeat' split) <;> omega
def odF (k s : Int) : Int := if k = 0 then (if s = 2 then 3 else if s = 0 then -2 else 1) else if k = 1 then -2 else if k = 2 then 1 else if s = 2 then 2 else if s = 0 then 4 else 1
/-- how long a step lasts in the reference; -2 never -/
def laF (w d : Int) (x : Nat → Int32) (k c s : Int) : Int := if onF w d c s = -2 ∨ (x (onF w d c s).toNat).toInt = 3 then -2 else if (x (onF w d c s).toNat).toInt = 1 then odF k s else if (x c.toNat).toInt ≠ 1 ∨ s ≠ 2 then 1 else if k = 2 then 1 else if k = 3 then 4 else -2
theorem la_on {w d : Int} {x : Nat → Int32} {k c s : Int} (h : laF w d x k c s ≠ -2) : onF w d c s ≠ -2 := by
  intro h1
  unfold laF at h
  rw [if_pos (Or.inl h1)] at h
  exact h rfl
theorem od_bd (k s : Int) : odF k s = -2 ∨ (1 ≤ odF k s ∧ odF k s ≤ 4) := by
  unfold odF
  (repeat' split) <;> omega
theorem la_bd (w d : Int) (x : Nat → Int32) (k c s : Int) : laF w d x k c s = -2 ∨ (1 ≤ laF w d x k c s ∧ laF w d x k c s ≤ 4) := by
  have h := od_bd k s
  unfold laF
  (repeat' split) <;> omega
def faF (w d : Int) (x : Nat → Int32) (k c s : Int) : Int := if k = 0 ∧ s = 2 ∧ (x (onF w d c s).toNat).toInt = 1 then 1 else 0
theorem fa_bd (w d : Int) (x : Nat → Int32) (k c s : Int) : 0 ≤ faF w d x k c s ∧ faF w d x k c s ≤ 1 := by
  unfold faF
  split <;> omega
def weF (w d : Int) (x : Nat → Int32) (k c s q : Int) : Int := if q ≠ 0 then 1000 * laF w d x k c s + faF w d x k c s else 1000 * faF w d x k c s + laF w d x k c s
theorem we_bd {w d : Int} {x : Nat → Int32} {k c s : Int} (q : Int) (h : laF w d x k c s ≠ -2) : 1 ≤ weF w d x k c s q ∧ weF w d x k c s q ≤ 4001 := by
  have h1 := la_bd w d x k c s
  have h2 := fa_bd w d x k c s
  unfold weF
  split <;> omega
/-- what is left is some step's weight and what is left behind it -/
def stI (w d : Int) (x : Nat → Int32) (k q : Int) (L : Nat → Int32) : Prop := ∀ c : Int, 0 ≤ c → c < w * d → 0 < (L c.toNat).toInt → (L c.toNat).toInt ≠ 9999999 → ∃ s : Int, 0 ≤ s ∧ s < 4 ∧ laF w d x k c s ≠ -2 ∧ (L (onF w d c s).toNat).toInt ≠ 9999999 ∧ weF w d x k c s q + (L (onF w d c s).toNat).toInt = (L c.toNat).toInt
def supI (w d : Int) (x : Nat → Int32) (k q : Int) (L : Nat → Int32) : Prop := ∀ c : Int, 0 ≤ c → c < w * d → 0 < (L c.toNat).toInt → (L c.toNat).toInt ≠ 9999999 → ∃ s : Int, 0 ≤ s ∧ s < 4 ∧ laF w d x k c s ≠ -2 ∧ (L (onF w d c s).toNat).toInt ≠ 9999999 ∧ weF w d x k c s q + (L (onF w d c s).toNat).toInt ≤ (L c.toNat).toInt
def fpI (w d : Int) (x : Nat → Int32) (k q : Int) (L : Nat → Int32) (n : Int) : Prop := ∀ c s : Int, 0 ≤ c → 0 ≤ s → s < 4 → 4 * c + s < n → laF w d x k c s = -2 ∨ (L (onF w d c s).toNat).toInt = 9999999 ∨ (L c.toNat).toInt ≤ weF w d x k c s q + (L (onF w d c s).toNat).toInt
theorem fpI_0 {w d : Int} {x : Nat → Int32} {k q : Int} {L : Nat → Int32} {n : Int} (h : n ≤ 0) : fpI w d x k q L n := by
  intro c s h0 h1 h2 h3
  omega
theorem fpI_up {w d : Int} {x : Nat → Int32} {k q : Int} {L : Nat → Int32} {n n' : Int} (h : fpI w d x k q L n) (c s : Int) (hn : n = 4 * c + s) (hn' : n' = 4 * c + s + 1) (h0 : 0 ≤ s) (h4 : s < 4) (hs : laF w d x k c s = -2 ∨ (L (onF w d c s).toNat).toInt = 9999999 ∨ (L c.toNat).toInt ≤ weF w d x k c s q + (L (onF w d c s).toNat).toInt) : fpI w d x k q L n' := by
  intro c1 s1 h1 h2 h3 h5
  by_cases he : 4 * c1 + s1 = 4 * c + s
  · obtain rfl : c1 = c := by omega
    obtain rfl : s1 = s := by omega
    exact hs
  · exact h c1 s1 h1 h2 h3 (by omega)
theorem fpI_eq {w d : Int} {x : Nat → Int32} {k q : Int} {L : Nat → Int32} {n n' : Int} (h : fpI w d x k q L n) (e : n' ≤ n) : fpI w d x k q L n' :=
  fun c s h1 h2 h3 h4 => h c s h1 h2 h3 (by omega)
theorem st_of {w d : Int} {x : Nat → Int32} {k q : Int} {L : Nat → Int32} (h : supI w d x k q L) (hf : fpI w d x k q L (4 * (w * d))) : stI w d x k q L := by
  intro c h0 h1 h2 h3
  obtain ⟨s, a0, a1, a2, a3, a4⟩ := h c h0 h1 h2 h3
  have h9 := hf c s h0 a0 a1 (by omega)
  exact ⟨s, a0, a1, a2, a3, by omega⟩
theorem sup_0 {w d : Int} {x : Nat → Int32} {k q : Int} {L : Nat → Int32} (h : ∀ c : Int, 0 ≤ c → c < w * d → (L c.toNat).toInt = 0 ∨ (L c.toNat).toInt = 9999999) : supI w d x k q L := by
  intro c h0 h1 h2 h3
  have := h c h0 h1
  omega
theorem upd_z {f : Nat → Int32} {i : Int32} {v : Int32} {c : Int} (h0 : 0 ≤ i.toInt) (hc : 0 ≤ c) : ((upd f i.toNatClampNeg v) c.toNat).toInt = if c = i.toInt then v.toInt else (f c.toNat).toInt := by
  have hi : i.toNatClampNeg = i.toInt.toNat := rfl
  unfold upd
  by_cases h : c = i.toInt
  · rw [if_pos h, if_pos (by omega)]
  · rw [if_neg h, if_neg (by omega)]
theorem sup_up {w d : Int} {x : Nat → Int32} {k q : Int} {L : Nat → Int32} (hw : 0 < w) (hpl : w * d ≤ 20) (h : supI w d x k q L) (hb : rb L 20 0 9999999) {i v : Int32} {s : Int} (h0 : 0 ≤ i.toInt) (h1 : i.toInt < w * d) (a0 : 0 ≤ s) (a1 : s < 4) (a2 : laF w d x k i.toInt s ≠ -2) (a3 : (L (onF w d i.toInt s).toNat).toInt ≠ 9999999) (a4 : v.toInt = weF w d x k i.toInt s q + (L (onF w d i.toInt s).toNat).toInt) (a5 : v.toInt < (L i.toInt.toNat).toInt) : supI w d x k q (upd L i.toNatClampNeg v) := by
  have hbi := hb i.toInt.toNat (by omega)
  intro c c0 c1 c2 c3
  rw [upd_z h0 c0] at c2 c3 ⊢
  by_cases hc : c = i.toInt
  · subst hc
    rw [if_pos rfl] at c2 c3 ⊢
    have o1 := on_bd (s := s) hw h0 h1
    have o2 := la_on a2
    have o3 := we_bd q a2
    refine ⟨s, a0, a1, a2, ?_⟩
    rw [upd_z h0 (by omega)]
    by_cases ho : onF w d i.toInt s = i.toInt
    · rw [ho] at a4; omega
    · rw [if_neg ho]; omega
  · rw [if_neg hc] at c2 c3 ⊢
    obtain ⟨s1, b0, b1, b2, b3, b4⟩ := h c c0 c1 c2 c3
    have o1 := on_bd (s := s1) hw c0 c1
    have o2 := la_on b2
    refine ⟨s1, b0, b1, b2, ?_⟩
    rw [upd_z h0 (by omega)]
    by_cases ho : onF w d c s1 = i.toInt
    · rw [ho] at b3 b4
      rw [if_pos ho]; omega
    · rw [if_neg ho]; exact ⟨b3, b4⟩
/-- the sum of a row's first entries -/
def sm (f : Nat → Int32) : Nat → Int
  | 0 => 0
  | n + 1 => sm f n + (f n).toInt
theorem sm_same {f g : Nat → Int32} : ∀ n : Nat, (∀ j, j < n → f j = g j) → sm f n = sm g n
  | 0, _ => rfl
  | n + 1, h => by
    unfold sm
    rw [sm_same n (fun j hj => h j (by omega)), h n (by omega)]
theorem sm_upd {f : Nat → Int32} {j : Nat} {v : Int32} : ∀ n : Nat, j < n → sm (upd f j v) n = sm f n - (f j).toInt + v.toInt
  | 0, h => by omega
  | n + 1, h => by
    unfold sm
    by_cases hj : j = n
    · subst hj
      rw [sm_same (f := upd f j v) (g := f) j (fun i hi => by unfold upd; rw [if_neg (by omega)])]
      have : upd f j v j = v := by unfold upd; rw [if_pos rfl]
      rw [this]; omega
    · rw [sm_upd n (by omega)]
      have : upd f j v n = f n := by unfold upd; rw [if_neg (by omega)]
      rw [this]; omega
theorem sm_bd {f : Nat → Int32} {hi : Int} : ∀ n : Nat, rb f n 0 hi → 0 ≤ sm f n ∧ sm f n ≤ hi * n
  | 0, _ => by unfold sm; omega
  | n + 1, h => by
    have h1 := sm_bd n (fun k hk => h k (by omega))
    have h2 := h n (by omega)
    unfold sm
    have : hi * ((n + 1 : Nat) : Int) = hi * (n : Int) + hi := by rw [Int.natCast_succ, Int.mul_add, Int.mul_one]
    omega
theorem sm_b20 {f : Nat → Int32} (h : rb f 20 0 9999999) : 0 ≤ sm f 20 ∧ sm f 20 ≤ 199999980 := by
  have := sm_bd 20 h
  omega
theorem sm_lt {f : Nat → Int32} {i v : Int32} (h0 : 0 ≤ i.toInt) (h1 : i.toInt < 20) (h : v.toInt < (f i.toInt.toNat).toInt) : sm (upd f i.toNatClampNeg v) 20 < sm f 20 := by
  rw [sm_upd 20 (cl_lt h0 h1)]
  have : (f i.toNatClampNeg).toInt = (f i.toInt.toNat).toInt := rfl
  omega
/-- all of the first n are far -/
def faI (L : Nat → Int32) (n : Int) : Prop := ∀ c : Int, 0 ≤ c → c < n → (L c.toNat).toInt = 9999999
theorem faI_0 {L : Nat → Int32} : faI L 0 := fun c h0 h1 => by omega
theorem faI_up {L : Nat → Int32} {i v : Int32} {n : Int} (h : faI L i.toInt) (h0 : 0 ≤ i.toInt) (hv : v.toInt = 9999999) (hn : n = i.toInt + 1) : faI (upd L i.toNatClampNeg v) n := by
  intro c c0 c1
  rw [upd_z h0 c0]
  split
  · exact hv
  · exact h c c0 (by omega)
theorem sup_1 {w d : Int} {x : Nat → Int32} {k q : Int} {L : Nat → Int32} {n : Int} (h : faI L n) (hn : w * d ≤ n) {i v : Int32} (h0 : 0 ≤ i.toInt) (hv : v.toInt = 0) : supI w d x k q (upd L i.toNatClampNeg v) := by
  refine sup_0 (fun c c0 c1 => ?_)
  rw [upd_z h0 c0]
  split
  · exact Or.inl hv
  · exact Or.inr (h c c0 (by omega))
/-- how many of the first entries are less -/
def cn (f : Nat → Int32) (a : Int) : Nat → Int
  | 0 => 0
  | n + 1 => cn f a n + (if (f n).toInt < a then 1 else 0)
theorem cn_bd (f : Nat → Int32) (a : Int) : ∀ n : Nat, 0 ≤ cn f a n ∧ cn f a n ≤ n
  | 0 => by unfold cn; omega
  | n + 1 => by
    have := cn_bd f a n
    unfold cn
    split <;> omega
theorem cn_le (f : Nat → Int32) {a b : Int} (h : a ≤ b) : ∀ n : Nat, cn f a n ≤ cn f b n
  | 0 => by unfold cn; omega
  | n + 1 => by
    have := cn_le f h n
    unfold cn
    split <;> split <;> omega
theorem cn_lt (f : Nat → Int32) {a b : Int} (h : a < b) (j : Nat) (hj : (f j).toInt = a) : ∀ n : Nat, j < n → cn f a n + 1 ≤ cn f b n
  | 0, hn => by omega
  | n + 1, hn => by
    unfold cn
    by_cases e : j = n
    · subst e
      have := cn_le f (Int.le_of_lt h) j
      rw [hj, if_neg (by omega), if_pos h]; omega
    · have := cn_lt f h j hj n (by omega)
      split <;> split <;> omega
/-- rows of 32 whose places of walkers lie in the park -/
def rI (f : Nat → Int32) (n pl : Int) : Prop := ∀ a i : Nat, (a : Int) < n → 20 ≤ i → i < 24 → 0 ≤ (f (32 * a + i)).toInt ∧ (f (32 * a + i)).toInt < pl
theorem rI_0 {f : Nat → Int32} {n pl : Int} (h : n ≤ 0) : rI f n pl := fun a i ha _ _ => by omega
theorem rI_le {f : Nat → Int32} {n m pl : Int} (h : rI f n pl) (e : m ≤ n) : rI f m pl := fun a i ha h1 h2 => h a i (by omega) h1 h2
theorem rI_at {f : Nat → Int32} {pl : Int} (h : rI f 1 pl) {i x : Int32} (e : x = f i.toNatClampNeg) (h0 : 20 ≤ i.toInt) (h1 : i.toInt < 24) : 0 ≤ x.toInt ∧ x.toInt < pl := by
  have h2 := h 0 i.toInt.toNat (by omega) (by omega) (by omega)
  rw [Nat.mul_zero, Nat.zero_add] at h2
  rw [e]
  exact h2
theorem rI_up {f : Nat → Int32} {pl : Int} (h : rI f 1 pl) {j v : Int32} (hv : (20 ≤ j.toInt ∧ j.toInt < 24) → 0 ≤ v.toInt ∧ v.toInt < pl) : rI (upd f j.toNatClampNeg v) 1 pl := by
  intro a i ha h1 h2
  have hi : j.toNatClampNeg = j.toInt.toNat := rfl
  unfold upd
  split
  · rename_i e; exact hv (by omega)
  · exact h a i ha h1 h2
theorem rI_ge {f : Nat → Int32} {n pl : Int} (h : rI f n pl) {j v : Int32} (hj : 32 * n ≤ j.toInt) : rI (upd f j.toNatClampNeg v) n pl := by
  intro a i ha h1 h2
  have hi : j.toNatClampNeg = j.toInt.toNat := rfl
  unfold upd
  rw [if_neg (by omega)]
  exact h a i ha h1 h2
/-- the first k of one row stand in the other from b on -/
def cpI (f : Nat → Int32) (b : Int) (v : Nat → Int32) (k : Int) : Prop := ∀ j : Nat, (j : Int) < k → f (b.toNat + j) = v j
theorem cpI_0 {f : Nat → Int32} {b : Int} {v : Nat → Int32} {k : Int} (h : k ≤ 0) : cpI f b v k := fun j hj => by omega
theorem cpI_f {f : Nat → Int32} {b : Int} {v : Nat → Int32} {k i x : Int32} {k' : Int} (h : cpI f b v k.toInt) (hb : 0 ≤ b) (h0 : 0 ≤ k.toInt) (hi : i.toInt = b + k.toInt) (hx : x = v k.toNatClampNeg) (hk : k' = k.toInt + 1) : cpI (upd f i.toNatClampNeg x) b v k' := by
  intro j hj
  have e1 : i.toNatClampNeg = i.toInt.toNat := rfl
  have e2 : k.toNatClampNeg = k.toInt.toNat := rfl
  unfold upd
  by_cases e : (j : Int) = k.toInt
  · rw [if_pos (by omega), hx, e2, show k.toInt.toNat = j by omega]
  · rw [if_neg (by omega)]; exact h j (by omega)
theorem cpI_v {f : Nat → Int32} {b : Int} {v : Nat → Int32} {k i x : Int32} {k' : Int} (h : cpI f b v k.toInt) (hb : 0 ≤ b) (h0 : 0 ≤ k.toInt) (hi : i.toInt = b + k.toInt) (hx : x = f i.toNatClampNeg) (hk : k' = k.toInt + 1) : cpI f b (upd v k.toNatClampNeg x) k' := by
  intro j hj
  have e1 : i.toNatClampNeg = i.toInt.toNat := rfl
  have e2 : k.toNatClampNeg = k.toInt.toNat := rfl
  unfold upd
  by_cases e : (j : Int) = k.toInt
  · rw [if_pos (by omega), hx, e1, show i.toInt.toNat = b.toNat + j by omega]
  · rw [if_neg (by omega)]; exact h j (by omega)
theorem rI_add {f v : Nat → Int32} {n m b pl : Int} (h : rI f n pl) (hv : rI v 1 pl) (hc : cpI f b v 32) (hb : b = 32 * n) (h0 : 0 ≤ n) (hm : m = n + 1) : rI f m pl := by
  intro a i ha h1 h2
  by_cases e : (a : Int) < n
  · exact h a i e h1 h2
  · have h3 := hc i (by omega)
    have h4 := hv 0 i (by omega) h1 h2
    rw [Nat.mul_zero, Nat.zero_add, ← h3, show b.toNat + i = 32 * a + i by omega] at h4
    exact h4
theorem rI_get {f v : Nat → Int32} {n b a pl : Int} (h : rI f n pl) (hc : cpI f b v 32) (hb : b = 32 * a) (h0 : 0 ≤ a) (h1 : a < n) : rI v 1 pl := by
  intro a1 i ha h2 h3
  obtain rfl : a1 = 0 := by omega
  have h4 := hc i (by omega)
  have h5 := h a.toNat i (by omega) h2 h3
  rw [Nat.mul_zero, Nat.zero_add, ← h4, show b.toNat + i = 32 * a.toNat + i by omega]
  exact h5
/-- the row, its first k moved down by 32 -/
def shI (f0 f : Nat → Int32) (k : Int) : Prop := ∀ j : Nat, ((j : Int) < k → f j = f0 (j + 32)) ∧ (k ≤ (j : Int) → f j = f0 j)
theorem shI_0 {f : Nat → Int32} : shI f f 0 := fun j => ⟨fun h => by omega, fun _ => rfl⟩
theorem shI_up {f0 f : Nat → Int32} {k i x : Int32} {k' : Int} (h : shI f0 f k.toInt) (h0 : 0 ≤ k.toInt) (hi : i.toInt = k.toInt + 32) (hx : x = f i.toNatClampNeg) (hk : k' = k.toInt + 1) : shI f0 (upd f k.toNatClampNeg x) k' := by
  intro j
  have e1 : i.toNatClampNeg = i.toInt.toNat := rfl
  have e2 : k.toNatClampNeg = k.toInt.toNat := rfl
  unfold upd
  refine ⟨fun hj => ?_, fun hj => ?_⟩
  · by_cases e : (j : Int) = k.toInt
    · rw [if_pos (by omega), hx, e1, show i.toInt.toNat = j + 32 by omega]
      exact (h (j + 32)).2 (by omega)
    · rw [if_neg (by omega)]; exact (h j).1 (by omega)
  · rw [if_neg (by omega)]; exact (h j).2 (by omega)
theorem rI_sh {f0 f : Nat → Int32} {n pl : Int} (h : rI f0 16 pl) (hs : shI f0 f 480) (hn : n ≤ 15) : rI f n pl := by
  intro a i ha h1 h2
  have h3 := (hs (32 * a + i)).1 (by omega)
  have h4 := h (a + 1) i (by omega) h1 h2
  rw [h3, show 32 * a + i + 32 = 32 * (a + 1) + i by omega]
  exact h4
/-- the first n are 0 -/
def zrI (f : Nat → Int32) (n : Int) : Prop := ∀ j : Nat, (j : Int) < n → (f j).toInt = 0
theorem zrI_0 {f : Nat → Int32} {n : Int} (h : n ≤ 0) : zrI f n := fun j hj => by omega
theorem zrI_up {f : Nat → Int32} {k v : Int32} {n : Int} (h : zrI f k.toInt) (h0 : 0 ≤ k.toInt) (hv : v.toInt = 0) (hn : n = k.toInt + 1) : zrI (upd f k.toNatClampNeg v) n := by
  intro j hj
  have e2 : k.toNatClampNeg = k.toInt.toNat := rfl
  unfold upd
  split
  · exact hv
  · exact h j (by omega)
theorem rI_z {f : Nat → Int32} {n pl : Int} (h : zrI f n) (hn : 32 ≤ n) (hp : 0 < pl) : rI f 1 pl := by
  intro a i ha h1 h2
  have := h (32 * a + i) (by omega)
  omega
/-- the first n lie in the park -/
def atI (f : Nat → Int32) (n pl : Int) : Prop := ∀ j : Nat, (j : Int) < n → 0 ≤ (f j).toInt ∧ (f j).toInt < pl
theorem atI_0 {f : Nat → Int32} {n pl : Int} (h : n ≤ 0) : atI f n pl := fun j hj => by omega
theorem atI_at {f : Nat → Int32} {n pl : Int} (h : atI f n pl) {i x : Int32} (e : x = f i.toNatClampNeg) (h0 : 0 ≤ i.toInt) (h1 : i.toInt < n) : 0 ≤ x.toInt ∧ x.toInt < pl := by
  have e1 : i.toNatClampNeg = i.toInt.toNat := rfl
  rw [e]; exact h _ (by omega)
theorem atI_up {f : Nat → Int32} {n m pl : Int} (h : atI f n pl) {k v : Int32} (hk : k.toInt = n) (h0 : 0 ≤ n) (hv : 0 ≤ v.toInt ∧ v.toInt < pl) (hm : m = n + 1) : atI (upd f k.toNatClampNeg v) m pl := by
  intro j hj
  have e2 : k.toNatClampNeg = k.toInt.toNat := rfl
  unfold upd
  split
  · exact hv
  · exact h j (by omega)
/-- walks that end in the park -/
def wkI (f g : Nat → Int32) (n w : Int) : Prop := ∀ j : Nat, (j : Int) < n → 0 ≤ (f j).toInt ∧ (f j).toInt ≤ 19 ∧ (g j).toInt ≤ 3 ∧ (f j).toInt + w * (g j).toInt ≤ 19
theorem wkI_0 {f g : Nat → Int32} {n w : Int} (h : n ≤ 0) : wkI f g n w := fun j hj => by omega
theorem wkI_at {f g : Nat → Int32} {n w : Int} (h : wkI f g n w) {i x y : Int32} (e : x = f i.toNatClampNeg) (e' : y = g i.toNatClampNeg) (h0 : 0 ≤ i.toInt) (h1 : i.toInt < n) : 0 ≤ x.toInt ∧ x.toInt ≤ 19 ∧ y.toInt ≤ 3 ∧ x.toInt + w * y.toInt ≤ 19 := by
  have e1 : i.toNatClampNeg = i.toInt.toNat := rfl
  rw [e, e']; exact h _ (by omega)
theorem wkI_up {f g : Nat → Int32} {n m w : Int} (h : wkI f g n w) {k x y : Int32} (hk : k.toInt = n) (h0 : 0 ≤ n) (hx : 0 ≤ x.toInt) (hx9 : x.toInt ≤ 19) (hy : y.toInt ≤ 3) (hxy : x.toInt + w * y.toInt ≤ 19) (hm : m = n + 1) : wkI (upd f k.toNatClampNeg x) (upd g k.toNatClampNeg y) m w := by
  intro j hj
  have e2 : k.toNatClampNeg = k.toInt.toNat := rfl
  unfold upd
  by_cases e : j = k.toNatClampNeg
  · rw [if_pos e, if_pos e]; exact ⟨hx, hx9, hy, hxy⟩
  · rw [if_neg e, if_neg e]; exact h j (by omega)
theorem wk_k {w s k c : Int} (hw : 0 ≤ w) (h : c + w * s ≤ 19) (hk : k ≤ s) : c + w * k ≤ 19 := by
  have := Int.mul_le_mul_of_nonneg_left hk hw
  omega
theorem cell_lt {w d r c : Int} (hw : 0 ≤ w) (h : r ≤ d - 1) (hc : c ≤ w - 1) : w * r + c < w * d := by
  have := Int.mul_le_mul_of_nonneg_left (show r + 1 ≤ d by omega) hw
  rw [Int.mul_add] at this
  omega
/-- a byte of the tape -/
def byF (f : Nat → Int32) (n k : Int) : Int := if k < n then (f k.toNat &&& 255).toInt else -1
/-- how many of a row's first letters are u -/
def cU (f : Nat → Int32) (n p : Int) : Nat → Int
  | 0 => 0
  | k + 1 => cU f n p k + (if byF f n (p + k) = 117 then 1 else 0)
theorem cU_mono (f : Nat → Int32) (n p : Int) : ∀ (m k : Nat), cU f n p k ≤ cU f n p (k + m)
  | 0, k => Int.le_refl _
  | m + 1, k => by
    have h := cU_mono f n p m k
    show cU f n p k ≤ cU f n p (k + m) + (if byF f n (p + ((k + m : Nat) : Int)) = 117 then 1 else 0)
    split <;> omega
theorem cU_le {f : Nat → Int32} {n p : Int} {a b : Int} (h0 : 0 ≤ a) (h : a ≤ b) : cU f n p a.toNat ≤ cU f n p b.toNat := by
  have := cU_mono f n p (b.toNat - a.toNat) a.toNat
  rw [show a.toNat + (b.toNat - a.toNat) = b.toNat by omega] at this
  exact this
theorem cU_up {f : Nat → Int32} {n p a b : Int} (h0 : 0 ≤ a) (hb : b = a + 1) : cU f n p b.toNat = cU f n p a.toNat + (if byF f n (p + a) = 117 then 1 else 0) := by
  rw [show b.toNat = a.toNat + 1 by omega]
  show cU f n p a.toNat + (if byF f n (p + (a.toNat : Int)) = 117 then 1 else 0) = _
  rw [show (a.toNat : Int) = a by omega]
theorem bt_lt {r x y : Int32} (e1 : y = r - 1) (e2 : x = r &&& y) (h : r.toInt ≠ 0) : x.toBitVec.toNat < r.toBitVec.toNat := by
  have hx : x.toBitVec = r.toBitVec &&& (r.toBitVec - 1#32) := by rw [e2, e1]; rfl
  have h0 : r.toBitVec.toNat ≠ 0 := by
    intro hz
    apply h
    have h1 : r.toInt = r.toBitVec.toInt := rfl
    rw [h1, BitVec.toInt_eq_toNat_cond, hz]
    decide
  have hl := r.toBitVec.isLt
  have h2 : (r.toBitVec - 1#32).toNat = r.toBitVec.toNat - 1 := by
    rw [BitVec.toNat_sub]
    have : (1#32).toNat = 1 := rfl
    omega
  rw [hx, BitVec.toNat_and]
  have := Nat.and_le_right (n := r.toBitVec.toNat) (m := (r.toBitVec - 1#32).toNat)
  omega
theorem lrem_lt {a b x : Int64} (e : x = a - a / b * b) (hb : ¬ b = 0) : x.toInt.natAbs < b.toInt.natAbs := by
  have hb0 : b.toInt ≠ 0 := fun q => hb (Int64.toInt_inj.mp (q.trans rfl))
  have h1 : -9223372036854775808 ≤ b.toInt := Int64.le_toInt b
  have h2 : b.toInt < 9223372036854775808 := Int64.toInt_lt b
  have hm : (a.toInt.tmod b.toInt).natAbs < b.toInt.natAbs := by
    rw [Int.natAbs_tmod]
    exact Nat.mod_lt _ (by omega)
  have h : x.toInt = a.toInt.tmod b.toInt := by
    rw [e, Int64.toInt_sub, Int64.toInt_mul, Int64.toInt_div, Int.bmod_mul_bmod, Int.sub_bmod_bmod]
    rw [show a.toInt - a.toInt.tdiv b.toInt * b.toInt = a.toInt.tmod b.toInt by rw [Int.tmod_def, Int.mul_comm]]
    rw [Int.bmod_def]
    split <;> omega
  rw [h]
  exact hm
/-- what a fault that was noted leaves: nothing is read any more -/
def ov (s s1 : Int) : Prop := s = 5 → s1 = 5
def sg (p s1 p1 : Int) : Prop := s1 = 4 → p < p1
def jj (s f : Int) : Prop := s = 5 → 1 ≤ f
def wh (s lo r hi : Int) : Prop := s ≠ 5 → lo ≤ r ∧ r ≤ hi
def lb (s w d r p q : Int) : Prop := s ≠ 5 → 2 ≤ w ∧ 2 ≤ d ∧ d ≤ r ∧ p ≠ q
theorem jj_f {s f : Int} (h : 1 ≤ f) : jj s f := fun _ => h
theorem jj_s {s f : Int} (h : s ≠ 5) : jj s f := fun q => absurd q h
theorem cpI_k {f : Nat → Int32} {b : Int} {v : Nat → Int32} {k m : Int} (h : cpI f b v k) (e : m ≤ k) : cpI f b v m := fun j hj => h j (by omega)
theorem shI_k {f0 f : Nat → Int32} {k m : Int} (h : shI f0 f k) (e : k = m) : shI f0 f m := e ▸ h
/-- a part of a row that was read -/
theorem sh_at {f : Nat → Int32} {b : Nat} {i t x : Int32} (e : x = f t.toNatClampNeg) (ht : t.toInt = (b : Int) + i.toInt) (h0 : 0 ≤ i.toInt) : (shF f b i.toInt.toNat).toInt = x.toInt := by
  have e1 : t.toNatClampNeg = t.toInt.toNat := rfl
  rw [e, e1, show t.toInt.toNat = b + i.toInt.toNat by omega]
  rfl
theorem cpZ_ge {f g h : Nat → Int32} {k v : Int32} {n : Int} (hc : cpZ f g n) (e : upd g (Int32.toNatClampNeg k) v = h) (hk : n ≤ k.toInt) : cpZ f h n := by
  have e1 : k.toNatClampNeg = k.toInt.toNat := rfl
  intro j hj
  rw [← e]
  unfold upd
  rw [if_neg (by omega)]
  exact hc j hj
/-- now is kept; a change; undo, image, back -/
def remP (p p1 v : Nat → Int32) (a a1 : Int) : Prop := (a < 16 ∧ a1 = a + 1 ∧ cpZ p p1 (32 * a) ∧ cpI p1 (32 * a) v 32) ∨ (a = 16 ∧ a1 = 16 ∧ (∀ j : Nat, (j : Int) < 480 → p1 j = p (j + 32)) ∧ cpI p1 480 v 32)
theorem remP_f {p b p1 v : Nat → Int32} {a a1 A : Int} (ha : a = 16) (h1 : a1 = 16) (hs : shI p b 480) (hA : A = 480) (hc : cpZ b p1 A) (hv : cpI p1 A v 32) : remP p p1 v a a1 := by
  subst hA
  refine Or.inr ⟨ha, h1, fun j hj => ?_, hv⟩
  rw [hc j hj]
  exact (hs j).1 hj
def beG (r n : Int) (v : Nat → Int32) (wk : Int) (c : Int32) (a : Int) (b : Int32) (v1 p p1 : Nat → Int32) (k k1 : Int) : Prop := (r = 1 ∧ 0 ≤ c.toInt ∧ c.toInt < n ∧ (v c.toInt.toNat).toInt = a ∧ (b.toInt = 3 → waN (shF v 20) wk c.toInt) ∧ v1 = upd v (Int32.toNatClampNeg c) b ∧ remP p p1 v k k1) ∨ (r = 0 ∧ (c.toInt < 0 ∨ n ≤ c.toInt ∨ (v c.toInt.toNat).toInt ≠ a ∨ (b.toInt = 3 ∧ waY (shF v 20) wk c.toInt)) ∧ v1 = v ∧ p1 = p ∧ k1 = k)
def unG (r a a1 : Int) (v v1 p : Nat → Int32) : Prop := (a = 0 ∧ r = 0 ∧ a1 = a ∧ v1 = v) ∨ (0 < a ∧ r = 1 ∧ a1 = a - 1 ∧ cpI p (32 * (a - 1)) v1 32)
def imG (k k1 v : Nat → Int32) (i i1 : Int) : Prop := (i = 3 ∧ i1 = i ∧ k1 = k) ∨ (i < 3 ∧ i1 = i + 1 ∧ cpZ k k1 (32 * i) ∧ cpI k1 (32 * i) v 32)
def bkG (r p i a a1 : Int) (v v1 k : Nat → Int32) : Prop := (0 ≤ p ∧ p < i ∧ r = 1 ∧ a1 = 0 ∧ cpI k (32 * p) v1 32) ∨ ((p < 0 ∨ i ≤ p) ∧ r = 0 ∧ a1 = a ∧ v1 = v)
/-- a step that was done -/
def goM (w d : Int) (v : Nat → Int32) (k : Int) (p : Nat) (st : Int) (v1 : Nat → Int32) : Prop := v1 = upd (upd (upd v (20 + p) (Int32.ofInt (onF w d (v (20 + p)).toInt st))) (24 + p) (v (24 + p) + Int32.ofInt (faF w d v k (v (20 + p)).toInt st))) (28 + p) (v (28 + p) + Int32.ofInt (laF w d v k (v (20 + p)).toInt st))
def sxG (r wk w d : Int) (k v v1 p p1 : Nat → Int32) (a a1 : Int) (i st : Int) : Prop := (r = -1 ∧ (i < 0 ∨ wk ≤ i ∨ st < 0 ∨ 3 < st ∨ laF w d v (k i.toNat).toInt (v (20 + i.toNat)).toInt st = -2) ∧ v1 = v ∧ p1 = p ∧ a1 = a) ∨ (0 ≤ i ∧ i < wk ∧ 0 ≤ st ∧ st ≤ 3 ∧ laF w d v (k i.toNat).toInt (v (20 + i.toNat)).toInt st ≠ -2 ∧ goM w d v (k i.toNat).toInt i.toNat st v1 ∧ r = (v1 (20 + i.toNat)).toInt ∧ remP p p1 v a a1)
theorem goM_of {w d k st : Int} {v f1 f2 f3 : Nat → Int32} {p i1 i2 i3 x g q t y2 s2 y3 s3 : Int32} (h0 : 0 ≤ p.toInt) (h3 : p.toInt ≤ 3) (j1 : i1.toInt = 20 + p.toInt) (j2 : i2.toInt = 24 + p.toInt) (j3 : i3.toInt = 28 + p.toInt) (ex : (v (20 + p.toInt.toNat)).toInt = x.toInt) (hg : g.toInt = onF w d x.toInt st) (hq : q.toInt = faF w d v k x.toInt st) (ht : t.toInt = laF w d v k x.toInt st) (u1 : upd v (Int32.toNatClampNeg i1) g = f1) (e2 : y2 = f1 (Int32.toNatClampNeg i2)) (a2 : s2 = y2 + q) (u2 : upd f1 (Int32.toNatClampNeg i2) s2 = f2) (e3 : y3 = f2 (Int32.toNatClampNeg i3)) (a3 : s3 = y3 + t) (u3 : upd f2 (Int32.toNatClampNeg i3) s3 = f3) : goM w d v k p.toInt.toNat st f3 := by
  have n1 : i1.toNatClampNeg = 20 + p.toInt.toNat := by
    show i1.toInt.toNat = _
    omega
  have n2 : i2.toNatClampNeg = 24 + p.toInt.toNat := by
    show i2.toInt.toNat = _
    omega
  have n3 : i3.toNatClampNeg = 28 + p.toInt.toNat := by
    show i3.toInt.toNat = _
    omega
  rw [n1] at u1
  rw [n2] at e2 u2
  rw [n3] at e3 u3
  have c2 : y2 = v (24 + p.toInt.toNat) := by
    rw [e2, ← u1]
    unfold upd
    rw [if_neg (by omega)]
  have c3 : y3 = v (28 + p.toInt.toNat) := by
    rw [e3, ← u2, ← u1]
    unfold upd
    rw [if_neg (by omega), if_neg (by omega)]
  unfold goM
  rw [ex, ← oi_of hg, ← oi_of hq, ← oi_of ht, ← c2, ← c3, ← a2, ← a3, u1, u2, u3]
theorem la_cp {w d : Int} {v x : Nat → Int32} {k c s : Int} (h : cpZ v x 20) (hw : 0 < w) (h0 : 0 ≤ c) (h1 : c < w * d) (h2 : w * d ≤ 20) : laF w d x k c s = laF w d v k c s := by
  have hb := on_bd (s := s) hw h0 h1
  unfold laF
  rcases hb with q | q
  · rw [if_pos (Or.inl q), if_pos (Or.inl q)]
  · rw [h (onF w d c s).toNat (by omega), h c.toNat (by omega)]
theorem fa_cp {w d : Int} {v x : Nat → Int32} {k c s : Int} (h : cpZ v x 20) (hw : 0 < w) (h0 : 0 ≤ c) (h1 : c < w * d) (h2 : w * d ≤ 20) (h3 : onF w d c s ≠ -2) : faF w d x k c s = faF w d v k c s := by
  have hb := on_bd (s := s) hw h0 h1
  unfold faF
  rw [h (onF w d c s).toNat (by omega)]
/-- class and reference: where a step leads, what it takes -/
theorem tg_on {w d c s : Int} {f x : Nat → Int32} (hw : 0 < w) (h0 : 0 ≤ c) (h1 : c < w * d) (hs : 0 ≤ s) (hs3 : s ≤ 3) (hf : ∀ j : Nat, (j : Int) < w * d → f j = x j) : (tgZ w (w * d) f c s = -1 ∧ (onF w d c s = -2 ∨ (x (onF w d c s).toNat).toInt = 3)) ∨ (tgZ w (w * d) f c s = onF w d c s ∧ 0 ≤ onF w d c s ∧ onF w d c s < w * d ∧ (x (onF w d c s).toNat).toInt ≠ 3) := by
  have he := on_east hw h1
  have hz := on_west (w := w) h0
  have key : ∀ t : Int, (t < 0 ∨ w * d ≤ t → onF w d c s = -2) → (0 ≤ t → t < w * d → onF w d c s = t) → (tg2 (w * d) f t = -1 ∧ (onF w d c s = -2 ∨ (x (onF w d c s).toNat).toInt = 3)) ∨ (tg2 (w * d) f t = onF w d c s ∧ 0 ≤ onF w d c s ∧ onF w d c s < w * d ∧ (x (onF w d c s).toNat).toInt ≠ 3) := by
    intro t k1 k2
    unfold tg2
    by_cases q : t < 0 ∨ w * d ≤ t
    · exact Or.inl ⟨if_pos (by omega), Or.inl (k1 q)⟩
    · have e := k2 (by omega) (by omega)
      have e3 := hf t.toNat (by omega)
      rw [e, ← e3]
      by_cases q3 : (f t.toNat).toInt = 3
      · exact Or.inl ⟨if_pos (Or.inr (Or.inr q3)), Or.inr q3⟩
      · exact Or.inr ⟨if_neg (by omega), by omega, by omega, q3⟩
  unfold tgZ
  rw [if_neg (show ¬ (c < 0 ∨ w * d ≤ c ∨ w ≤ 0) by omega)]
  apply key
  · intro q
    unfold onF
    (repeat' split at q) <;> (repeat' split) <;> omega
  · intro q1 q2
    unfold onF
    (repeat' split) <;> (repeat' split at q1) <;> omega
theorem od_eq {k s : Int} (hk : 0 ≤ k) (hk3 : k ≤ 3) (hs : 0 ≤ s) (hs3 : s ≤ 3) : oD k s = odF k s := by
  unfold oD odF
  (repeat' split) <;> omega
theorem tf_la {w d c s k : Int} {f x : Nat → Int32} (hw : 0 < w) (h0 : 0 ≤ c) (h1 : c < w * d) (hs : 0 ≤ s) (hs3 : s ≤ 3) (hk : 0 ≤ k) (hk3 : k ≤ 3) (hf : ∀ j : Nat, (j : Int) < w * d → f j = x j) : tfZ w (w * d) f k c s = laF w d x k c s ∧ (laF w d x k c s ≠ -2 → tgZ w (w * d) f c s = onF w d c s ∧ flZ w (w * d) f k c s = faF w d x k c s) := by
  have ho := od_eq hk hk3 hs hs3
  have hb := od_bd k s
  have hc := hf c.toNat (by omega)
  rcases tg_on hw h0 h1 hs hs3 hf with ⟨a1, a2⟩ | ⟨a1, a2, a3, a4⟩
  · have e1 : laF w d x k c s = -2 := by unfold laF; exact if_pos a2
    refine ⟨?_, fun q => absurd e1 q⟩
    unfold tfZ
    rw [e1, if_pos a1]
  · have ht := hf (onF w d c s).toNat (by omega)
    refine ⟨?_, fun _ => ⟨a1, ?_⟩⟩
    · unfold tfZ laF
      rw [a1, ht, hc, if_neg (show ¬ onF w d c s = -1 by omega), if_neg (show ¬ (onF w d c s = -2 ∨ (x (onF w d c s).toNat).toInt = 3) by omega), ho]
      unfold oU
      (repeat' split) <;> omega
    · unfold flZ faF
      rw [a1, ht]
      (repeat' split) <;> omega
theorem shR {f : Nat → Int32} {b : Nat} {i t x : Int32} (e : x = f t.toNatClampNeg) (ht : t.toInt = (b : Int) + i.toInt) (h0 : 0 ≤ i.toInt) : x = shF f b i.toNatClampNeg := by
  have e1 : t.toNatClampNeg = t.toInt.toNat := rfl
  have e2 : i.toNatClampNeg = i.toInt.toNat := rfl
  rw [e, e1, e2, show t.toInt.toNat = b + i.toInt.toNat by omega]
  rfl
theorem ti_or0 {a x : Int32} (e : x = a ||| 0) : x.toInt = a.toInt := by
  rw [e, Int32.or_zero]
theorem bm_649 {z : Int} (h1 : -9223372036854775808 ≤ z) (h2 : z ≤ 9223372036854775807) : z.bmod (2 ^ 64) = z := by
  rw [Int.bmod_def]
  split <;> omega
theorem lrem_eq {a b x : Int64} (e : x = a - a / b * b) (hb : ¬ b = 0) : x.toInt = a.toInt.tmod b.toInt := by
  have hb0 : b.toInt ≠ 0 := fun q => hb (Int64.toInt_inj.mp (q.trans rfl))
  have h1 : -9223372036854775808 ≤ b.toInt := Int64.le_toInt b
  have h2 : b.toInt < 9223372036854775808 := Int64.toInt_lt b
  have hm : (a.toInt.tmod b.toInt).natAbs < b.toInt.natAbs := by
    rw [Int.natAbs_tmod]
    exact Nat.mod_lt _ (by omega)
  rw [e, Int64.toInt_sub, Int64.toInt_mul, Int64.toInt_div, Int.bmod_mul_bmod, Int.sub_bmod_bmod]
  rw [show a.toInt - a.toInt.tdiv b.toInt * b.toInt = a.toInt.tmod b.toInt by rw [Int.tmod_def, Int.mul_comm]]
  rw [Int.bmod_def]
  split <;> omega
/-- a draw of the reference, by long numbers -/
theorem draw_l {s s1 : Int32} {a b c d : Int64} (h0 : 0 ≤ s.toInt) (h1 : s.toInt ≤ 65536) (e1 : s.toInt64 = a) (e2 : b = 75 * a) (e3 : c = b + 74) (e4 : d = c - c / 65537 * 65537) (e5 : d.toInt32 = s1) : s1.toInt = (75 * s.toInt + 74) % 65537 := by
  have t1 : a.toInt = s.toInt := by rw [← e1, Int32.toInt_toInt64]
  have t2 : b.toInt = 75 * s.toInt := by
    rw [e2, Int64.toInt_mul, t1, show (75 : Int64).toInt = 75 by decide]
    exact bm_649 (by omega) (by omega)
  have t3 : c.toInt = 75 * s.toInt + 74 := by
    rw [e3, Int64.toInt_add, t2, show (74 : Int64).toInt = 74 by decide]
    exact bm_649 (by omega) (by omega)
  have t4 : d.toInt = (75 * s.toInt + 74) % 65537 := by
    rw [lrem_eq e4 (by decide), t3, show (65537 : Int64).toInt = 65537 by decide]
    exact Int.tmod_eq_emod_of_nonneg (by omega)
  rw [← e5, Int64.toInt_toInt32, t4, Int.bmod_def]
  split <;> omega
/-- the reference's ramble, behind m draws -/
def rmI (w d : Int) (v : Nat → Int32) (k g sd c0 m s c f a : Int) : Prop := ∃ F : Int32, rbN (laF w d v k) (faF w d v k) (onF w d) g sd c0 (if c0 = g then 0 else -2) m.toNat = (s, c, F, a) ∧ F.toInt = f
theorem rmI_0 {w d : Int} {v : Nat → Int32} {k g sd c0 m s c f a : Int} (hm : m = 0) (hs : s = sd) (hc : c = c0) (hf : f = 0) (ha : (c0 = g ∧ a = 0) ∨ (c0 ≠ g ∧ a = -2)) : rmI w d v k g sd c0 m s c f a := by
  subst hm hs hc hf
  refine ⟨0, ?_, rfl⟩
  have e : rbN (laF w d v k) (faF w d v k) (onF w d) g s c (if c = g then 0 else -2) (Int.toNat 0) = (s, c, 0, (if c = g then 0 else -2)) := rfl
  rw [e]
  rcases ha with ⟨h1, h2⟩ | ⟨h1, h2⟩
  · rw [if_pos h1, h2]
  · rw [if_neg h1, h2]
theorem rmI_n {w d : Int} {v : Nat → Int32} {k g sd c0 m m1 s c f a s1 st a1 : Int} (h : rmI w d v k g sd c0 m s c f a) (h0 : 0 ≤ m) (e1 : s1 = (75 * s + 74) % 65537) (e2 : st = s1 % 4) (hl : laF w d v k c st = -2) (ha : (a = -2 ∧ c = g ∧ a1 = m1) ∨ (¬ (a = -2 ∧ c = g) ∧ a1 = a)) (hm : m1 = m + 1) : rmI w d v k g sd c0 m1 s1 c f a1 := by
  obtain ⟨F, h1, h2⟩ := h
  refine ⟨F, ?_, h2⟩
  rw [show m1.toNat = m.toNat + 1 by omega]
  exact rbN_up h1 e1 e2 (Or.inl ⟨hl, rfl, rfl⟩) ha (by omega)
theorem rmI_y {w d : Int} {v : Nat → Int32} {k g sd c0 m m1 s c a s1 st c1 a1 : Int} {y q x : Int32} (h : rmI w d v k g sd c0 m s c y.toInt a) (h0 : 0 ≤ m) (e1 : s1 = (75 * s + 74) % 65537) (e2 : st = s1 % 4) (hl : laF w d v k c st ≠ -2) (hc : c1 = onF w d c st) (hq : q.toInt = faF w d v k c st) (ex : x = y + q) (ha : (a = -2 ∧ c1 = g ∧ a1 = m1) ∨ (¬ (a = -2 ∧ c1 = g) ∧ a1 = a)) (hm : m1 = m + 1) : rmI w d v k g sd c0 m1 s1 c1 x.toInt a1 := by
  obtain ⟨F, h1, h2⟩ := h
  obtain rfl : F = y := Int32.toInt_inj.mp h2
  refine ⟨x, ?_, rfl⟩
  rw [show m1.toNat = m.toNat + 1 by omega]
  exact rbN_up h1 e1 e2 (Or.inr ⟨hl, hc, by rw [ex, oi_of hq]⟩) ha (by omega)
/-- the reference's rambles: what it says -/
def rmQ (w d : Int) (v k g : Nat → Int32) (p sd m c f a : Int) : Prop := ∃ s : Int, rmI w d v (k p.toNat).toInt (g p.toNat).toInt sd (v (20 + p.toNat)).toInt m s c f a
/-- the reference: a bit of a set -/
def btQ (s : Int32) (k r : Int) : Prop := 0 ≤ k → k ≤ 19 → (r = 1 ↔ bt s k.toNat = true)
theorem btQ_of {s x y K : Int32} {r : Int} (ex : x = s >>> (K &&& 31)) (ey : y = x &&& 1) (hr : (y.toInt = 1 ∧ r = 1) ∨ (y.toInt ≠ 1 ∧ r = 0)) : btQ s K.toInt r := fun h0 h1 => by
  rw [← bit_of ex ey h0 h1]
  omega
/-- unsure places one after the other, none of them a ditch or a hedge -/
def udO (un : Int) (s u : Nat → Int32) : Prop := (∀ k : Nat, (k : Int) < un → 0 ≤ (u k).toInt ∧ (s (u k).toInt.toNat).toInt = 0) ∧ ∀ j k : Nat, j < k → (k : Int) < un → (u j).toInt < (u k).toInt
def feO (wl : Int) (wf : Nat → Int32) : Prop := ∀ k : Nat, (k : Int) < wl → (wf k).toInt = 0 ∨ (wf k).toInt = 1
theorem fe_e {wl : Int} {wf : Nat → Int32} {I x : Int32} (h : feO wl wf) (e : x = wf (Int32.toNatClampNeg I)) (h0 : 0 ≤ I.toInt) (h1 : I.toInt < wl) : x.toInt = 0 ∨ x.toInt = 1 := by
  rw [e]
  have g : Int32.toNatClampNeg I = I.toInt.toNat := rfl
  exact h _ (by rw [g]; omega)
def guO (un wl er : Int) (s u wf : Nat → Int32) : Prop := udO un s u ∧ 0 ≤ er ∧ er ≤ 100 ∧ feO wl wf
def ndI (u : Nat → Int32) (c k : Int) : Prop := ∀ j : Nat, (j : Int) < k → (u j).toInt ≠ c
theorem ndI_0 {u : Nat → Int32} {c k : Int} (h : k ≤ 0) : ndI u c k := fun j hj => by omega
theorem ndI_up {u : Nat → Int32} {c k k1 : Int} {x I : Int32} (h : ndI u c k) (hI : I.toInt = k) (ex : x = u (Int32.toNatClampNeg I)) (hx : x.toInt ≠ c) (h0 : 0 ≤ k) (hk : k1 = k + 1) : ndI u c k1 := fun j hj => by
  by_cases z : (j : Int) = k
  · have nI : Int32.toNatClampNeg I = j := by rw [show Int32.toNatClampNeg I = I.toInt.toNat from rfl]; omega
    rw [nI] at ex
    rw [← ex]
    exact hx
  · exact h j (by omega)
theorem df_y {un c k r : Int} {s u : Nat → Int32} {x I set : Int32} (hO : udO un s u) (hI : I.toInt = k) (ex : x = u (Int32.toNatClampNeg I)) (hx : x.toInt = c) (h0 : 0 ≤ k) (hk : k < un) (h5 : k ≤ 19) (hs : 0 ≤ set.toInt) (hb : btQ set k r) : r = 1 ↔ dtS un s u set.toInt.toNat c.toNat := by
  have nI : Int32.toNatClampNeg I = k.toNat := by rw [show Int32.toNatClampNeg I = I.toInt.toNat from rfl, hI]
  rw [nI] at ex
  have hc := (hO.1 k.toNat (by omega)).1
  rw [← ex, hx] at hc
  rw [hb h0 h5, bt_set hs]
  unfold dtS
  constructor
  · intro h
    exact Or.inl ⟨k.toNat, by omega, h, by rw [← ex, hx]; omega⟩
  · rintro (⟨j, j1, j2, j3⟩ | h)
    · have e : j = k.toNat := by
        have p : (u k.toNat).toInt = c := by rw [← ex, hx]
        rcases (show j < k.toNat ∨ j = k.toNat ∨ k.toNat < j by omega) with z | z | z
        · have := hO.2 j k.toNat z (by omega)
          omega
        · exact z
        · have := hO.2 k.toNat j z j1
          omega
      rw [e] at j2
      exact j2
    · exfalso
      have g := (hO.1 k.toNat (by omega)).2
      rw [← ex, hx] at g
      omega
theorem df_n {un c k r : Int} {s u : Nat → Int32} {x I : Int32} {set : Nat} (h : ndI u c k) (hk : un ≤ k) (hI : I.toInt = c) (h0 : 0 ≤ c) (ex : x = s (Int32.toNatClampNeg I)) (hr : (x.toInt = 1 ∧ r = 1) ∨ (x.toInt ≠ 1 ∧ r = 0)) : r = 1 ↔ dtS un s u set c.toNat := by
  have nI : Int32.toNatClampNeg I = c.toNat := by rw [show Int32.toNatClampNeg I = I.toInt.toNat from rfl, hI]
  rw [nI] at ex
  unfold dtS
  rw [← ex]
  constructor
  · intro h1
    exact Or.inr (by omega)
  · rintro (⟨j, j1, _, j3⟩ | h1)
    · exact absurd (show (u j).toInt = c by omega) (h j (by omega))
    · omega
/-- of the places so far none is a ditch -/
def fnI (D : Nat → Prop) (w c i : Int) : Prop := ∀ k : Nat, 1 ≤ k → (k : Int) < i → ¬ D (c + w * (k : Int)).toNat
theorem fnI_0 {D : Nat → Prop} {w c i : Int} (h : i ≤ 1) : fnI D w c i := fun k k1 k2 => by omega
theorem fnI_up {D : Nat → Prop} {w c i i1 a r : Int} (h : fnI D w c i) (hi : 1 ≤ i) (ha : a = c + w * i) (hr : r = 1 ↔ D a.toNat) (h0 : r = 0) (hi1 : i1 = i + 1) : fnI D w c i1 := fun k k1 k2 => by
  by_cases z : (k : Int) = i
  · rw [z, ← ha]
    exact fun q => by have := hr.mpr q; omega
  · exact h k k1 (by omega)
theorem fl_1 {D : Nat → Prop} {w c st i a r r1 : Int} (hi : 1 ≤ i) (hs : i ≤ st) (ha : a = c + w * i) (hr : r = 1 ↔ D a.toNat) (h1 : r = 1) (e1 : r1 = 1) : r1 = 1 ↔ flD D w c st := by
  refine ⟨fun _ => ⟨i.toNat, by omega, by omega, ?_⟩, fun _ => e1⟩
  rw [show ((i.toNat : Nat) : Int) = i by omega, ← ha]
  exact hr.mp h1
theorem fl_0 {D : Nat → Prop} {w c st i r1 : Int} (h : fnI D w c i) (hs : st < i) (e0 : r1 = 0) : r1 = 1 ↔ flD D w c st := by
  refine ⟨fun z => by omega, fun ⟨k, k1, k2, k3⟩ => absurd k3 (h k k1 (by omega))⟩
theorem tr_of {D : Nat → Prop} {w : Int} {ws wt wf : Nat → Int32} {k : Nat} {A B F : Int32} {fl r : Int} (eA : A = ws k) (eB : B = wt k) (eF : F = wf k) (h : fl = 1 ↔ flD D w A.toInt B.toInt) (hfl : fl = 0 ∨ fl = 1) (hr : (fl = F.toInt ∧ r = 1) ∨ (fl ≠ F.toInt ∧ r = 0)) (hF : F.toInt = 0 ∨ F.toInt = 1) : r = 1 ↔ tlR D w ws wt wf k := by
  unfold tlR
  rw [← eA, ← eB, ← eF, ← h]
  constructor
  · intro h1
    exact ⟨fun q => by omega, fun q => by omega⟩
  · intro h1
    rcases hr with ⟨y1, y2⟩ | ⟨y1, y2⟩
    · exact y2
    · exfalso
      rcases hfl with x | x
      · have : F.toInt = 1 := by omega
        have := h1.mpr this
        omega
      · have := h1.mp x
        omega
/-- sets so far -/
theorem itP_0 {W : Nat → Int} {i k r : Int} (hk : k = 0) (hr : r = -1) : itP W i k.toNat r := Or.inl ⟨hr, itN_0 (by omega)⟩
theorem itP_k {W : Nat → Int} {i k k1 r : Int} (h : itP W i k.toNat r) (h0 : 0 ≤ k) (hn : 0 < W k.toNat → cnC W (fun _ => True) k.toNat ≠ i) (hk : k1 = k + 1) : itP W i k1.toNat r := by
  rcases h with ⟨z, zn⟩ | ⟨m, m1, m2, m3, m4⟩
  · exact Or.inl ⟨z, itN_up zn h0 hn hk⟩
  · exact Or.inr ⟨m, by omega, m2, m3, m4⟩
theorem itP_f {W : Nat → Int} {i k k1 r : Int} (h0 : 0 ≤ k) (hw : 0 < W k.toNat) (hc : cnC W (fun _ => True) k.toNat = i) (hk : k1 = k + 1) (hr : r = k) : itP W i k1.toNat r := Or.inr ⟨k.toNat, by omega, by omega, hw, hc⟩
/-- in how many sets each unsure place is a ditch -/
def dnI (W : Nat → Int) (un : Int) (d : Nat → Int32) (k : Int) : Prop := ∀ j : Nat, (j : Int) < un → (d j).toInt = cnC W (tbP j) k.toNat
def dnJ (W : Nat → Int) (un : Int) (d : Nat → Int32) (k i : Int) : Prop := ∀ j : Nat, (j : Int) < un → (d j).toInt = cnC W (tbP j) (if (j : Int) < i then k.toNat + 1 else k.toNat)
theorem dnI_0 {W : Nat → Int} {un k : Int} {d : Nat → Int32} (hz : ∀ j : Nat, (j : Int) < un → (d j).toInt = 0) (hk : k = 0) : dnI W un d k := fun j hj => by
  rw [hz j hj, hk]
  rfl
theorem dnI_z {W : Nat → Int} {un k k1 : Int} {d : Nat → Int32} (h : dnI W un d k) (h0 : 0 ≤ k) (hw : ¬ 0 < W k.toNat) (hk : k1 = k + 1) : dnI W un d k1 := fun j hj => by
  rw [h j hj, show k1.toNat = k.toNat + 1 by omega, cnC_s, if_neg (fun q => hw q.1), Int.add_zero]
theorem dnJ_0 {W : Nat → Int} {un k i : Int} {d : Nat → Int32} (h : dnI W un d k) (hi : i ≤ 0) : dnJ W un d k i := fun j hj => by
  rw [h j hj, if_neg (by omega)]
theorem dnJ_up {W : Nat → Int} {un k i i1 r : Int} {d d1 : Nat → Int32} {x y o set I J : Int32} (h : dnJ W un d k i) (h0 : 0 ≤ k) (i0 : 0 ≤ i) (i5 : i ≤ 19) (hw : 0 < W k.toNat) (hI : I.toInt = i) (hJ : J.toInt = i) (hS : set.toInt = k) (ex : x = d (Int32.toNatClampNeg I)) (hb : btQ set i r) (hy : (r = 1 ∧ o.toInt = 1) ∨ (r ≠ 1 ∧ o.toInt = 0)) (ey : y = x + o) (k31 : k ≤ 31) (ed : upd d (Int32.toNatClampNeg J) y = d1) (hi : i1 = i + 1) : dnJ W un d1 k i1 := fun j hj => by
  have nI : Int32.toNatClampNeg I = i.toNat := by rw [show Int32.toNatClampNeg I = I.toInt.toNat from rfl, hI]
  have nJ : Int32.toNatClampNeg J = i.toNat := by rw [show Int32.toNatClampNeg J = J.toInt.toNat from rfl, hJ]
  rw [nI] at ex
  rw [nJ] at ed
  obtain ⟨u1, u2⟩ := upd_at ed
  by_cases z : j = i.toNat
  · have g := h j hj
    rw [if_neg (by omega), z, ← ex] at g
    rw [z, u1, if_pos (by omega), cnC_s]
    have hb2 := hb i0 i5
    rw [bt_set (by omega), hS] at hb2
    have bd := cnC_bd (W := W) (P := tbP i.toNat) k.toNat
    rcases hy with ⟨y1, y2⟩ | ⟨y1, y2⟩
    · have yv : y.toInt = x.toInt + 1 := ti_add (A := x.toInt) (B := 1) ey rfl y2 (by omega) (by omega)
      rw [if_pos ⟨hw, hb2.mp y1⟩]
      omega
    · have yv : y.toInt = x.toInt + 0 := ti_add (A := x.toInt) (B := 0) ey rfl y2 (by omega) (by omega)
      rw [if_neg (fun q => y1 (hb2.mpr q.2))]
      omega
  · rw [u2 j z, h j hj]
    by_cases q : (j : Int) < i
    · rw [if_pos q, if_pos (by omega)]
    · rw [if_neg q, if_neg (by omega)]
theorem dnJ_e {W : Nat → Int} {un k k1 i : Int} {d : Nat → Int32} (h : dnJ W un d k i) (h0 : 0 ≤ k) (hi : un ≤ i) (hk : k1 = k + 1) : dnI W un d k1 := fun j hj => by
  rw [h j hj, if_pos (by omega), show k1.toNat = k.toNat + 1 by omega]
/-- the first of which the least is said, from no number on -/
def tmI (g : Nat → Int) (k b m : Int) : Prop := (k = 0 ∧ b = -2 ∧ m = -2) ∨ (0 < k ∧ b ≠ -2 ∧ tqP g k.toNat = (b, m))
theorem tmI_0 {g : Nat → Int} {k b m : Int} (hk : k = 0) (hb : b = -2) (hm : m = -2) : tmI g k b m := Or.inl ⟨hk, hb, hm⟩
theorem tmI_y {g : Nat → Int} {k k1 b m b1 m1 : Int} (h : tmI g k b m) (h0 : 0 ≤ k) (hg : ∀ j : Nat, g j ≤ 32) (hw : b = -2 ∨ m1 < m) (hm : m1 = g k.toNat) (hk : k1 = k + 1) (hb : b1 = k) : tmI g k1 b1 m1 := by
  refine Or.inr ⟨by omega, by omega, ?_⟩
  have e : ((k.toNat : Nat) : Int) = k := by omega
  rw [show k1.toNat = k.toNat + 1 by omega, tqP_s, hb, hm, e]
  rcases h with ⟨z1, _, _⟩ | ⟨z1, z2, z3⟩
  · rw [z1]
    have := hg 0
    show (if g 0 < (33 : Int) then ((0 : Int), g 0) else (-2, 33)) = (0, g 0)
    rw [if_pos (by omega)]
  · rw [z3, if_pos (show g k.toNat < (b, m).2 by show g k.toNat < m; omega)]
theorem tmI_n {g : Nat → Int} {k k1 b m m1 : Int} (h : tmI g k b m) (h0 : 0 ≤ k) (hb : b ≠ -2) (hw : m ≤ m1) (hm : m1 = g k.toNat) (hk : k1 = k + 1) : tmI g k1 b m := by
  rcases h with ⟨_, z2, _⟩ | ⟨z1, z2, z3⟩
  · exact absurd z2 hb
  · refine Or.inr ⟨by omega, hb, ?_⟩
    rw [show k1.toNat = k.toNat + 1 by omega, tqP_s, z3, if_neg (show ¬ g k.toNat < (b, m).2 from fun z => by have z9 : g k.toNat < m := z; omega)]
/-- what treads says: the best unsure place and what it leaves -/
def tvP (W : Nat → Int) (n : Nat) (un r m : Int) : Prop := bsP W n un r ∧ ((r = -2 ∧ m = -2) ∨ (0 ≤ r ∧ m = gS W n r.toNat))
theorem tvP_z {W : Nat → Int} {n : Nat} {un r m c : Int} (h : c = cnC W (fun _ => True) n) (hc : c ≤ 0) (hr : r = -2) (hm : m = -2) : tvP W n un r m := by
  have := (cnC_bd (W := W) (P := fun _ => True) n).1
  exact ⟨Or.inl ⟨by omega, hr⟩, Or.inl ⟨hr, hm⟩⟩
theorem tvP_y {W : Nat → Int} {n : Nat} {un r m c k : Int} (h : c = cnC W (fun _ => True) n) (hc : 0 < c) (ht : tmI (gS W n) k r m) (h0 : 0 ≤ un) (hk : k = un) : tvP W n un r m := by
  rcases ht with ⟨z1, z2, z3⟩ | ⟨z1, z2, z3⟩
  · refine ⟨Or.inr ⟨by omega, ?_⟩, Or.inl ⟨z2, z3⟩⟩
    rw [← hk, z1, z2]
    rfl
  · rw [hk] at z3
    refine ⟨Or.inr ⟨by omega, by rw [z3]⟩, ?_⟩
    rcases tqP_g (g := gS W n) un.toNat with y | ⟨y1, y2, y3⟩
    · rw [z3] at y
      exact absurd y z2
    · rw [z3] at y1 y3
      exact Or.inr ⟨y1, y3.symm⟩
/-- a fraction's side -/
def frM (a b lw r : Int) : Prop := 0 ≤ a → 0 ≤ b → (b = 0 ∧ ((lw ≠ 0 ∧ r = 1) ∨ (lw = 0 ∧ r = 0))) ∨ (b ≠ 0 ∧ ((lw ≠ 0 ∧ r = b / (Nat.gcd a.toNat b.toNat : Nat)) ∨ (lw = 0 ∧ r = a / (Nat.gcd a.toNat b.toNat : Nat))))
theorem gsW_bd {w un wl er : Int} {s u ws wt wf : Nat → Int32} {set : Nat} (e0 : 0 ≤ er) (e1 : er ≤ 100) (h6 : wl ≤ 6) : 0 ≤ gsW w un wl er s u ws wt wf set ∧ gsW w un wl er s u ws wt wf set ≤ 1000000000000 := wt_6 e0 e1 h6
theorem wz_n {W : Int} {c : Int32} {r z : Int64} (hr : r.toInt = W) (e : c = lg_cmp r z) (hz : z = 0) (h : c.toInt = 0) : ¬ 0 < W := by
  have g := leq9 e h
  rw [g, hz, z64] at hr
  omega
theorem wz_p {W : Int} {c : Int32} {r z : Int64} (hr : r.toInt = W) (e : c = lg_cmp r z) (hz : z = 0) (h : c.toInt ≠ 0) (h0 : 0 ≤ W) : 0 < W := by
  have g := lne9 e h
  rw [hz] at g
  have g2 : ¬ W = 0 := fun q => g (Int64.toInt_inj.mp (by rw [hr, z64, q]))
  omega
def zzI (f : Nat → Int32) (k : Int) : Prop := ∀ j : Nat, (j : Int) < k → (f j).toInt = 0
theorem zzI_0 {f : Nat → Int32} {k : Int} (h : k ≤ 0) : zzI f k := fun j hj => by omega
theorem zzI_up {f g : Nat → Int32} {k k1 : Int} {I v : Int32} (h : zzI f k) (h0 : 0 ≤ k) (hI : I.toInt = k) (e : upd f (Int32.toNatClampNeg I) v = g) (hv : v.toInt = 0) (hk : k1 = k + 1) : zzI g k1 := fun j hj => by
  have nI : Int32.toNatClampNeg I = k.toNat := by rw [show Int32.toNatClampNeg I = I.toInt.toNat from rfl, hI]
  rw [nI] at e
  obtain ⟨u1, u2⟩ := upd_at e
  by_cases z : j = k.toNat
  · rw [z, u1]
    exact hv
  · rw [u2 j z]
    exact h j (by omega)
theorem gm_of {W : Nat → Int} {n : Nat} {un m k : Int} {d : Nat → Int32} {x y F I : Int32} (hd : dnI W un d ((n : Nat) : Int)) (hc : F.toInt = cnC W (fun _ => True) n) (hn : n ≤ 32) (hI : I.toInt = k) (ex : x = d (Int32.toNatClampNeg I)) (h0 : 0 ≤ k) (hk : k < un) (ey : y = F - x) (hm : (y.toInt < x.toInt ∧ m = x.toInt) ∨ (x.toInt ≤ y.toInt ∧ m = y.toInt)) : m = gS W n k.toNat := by
  have nI : Int32.toNatClampNeg I = k.toNat := by rw [show Int32.toNatClampNeg I = I.toInt.toNat from rfl, hI]
  rw [nI] at ex
  have g := hd k.toNat (by omega)
  rw [← ex, Int.toNat_natCast] at g
  have b1 := cnC_bd (W := W) (P := tbP k.toNat) n
  have b2 := cnC_bd (W := W) (P := fun _ => True) n
  have yv : y.toInt = F.toInt - x.toInt := ti_sub (A := F.toInt) (B := x.toInt) ey rfl rfl (by omega) (by omega)
  unfold gS lmP
  rw [← g, ← hc]
  omega
theorem gS_32 {W : Nat → Int} {un : Int} (h : un ≤ 5) (j : Nat) : gS W (2 ^ un.toNat) j ≤ 32 := by
  have a := (lmP_bd (W := W) (P := tbP j) (n := 2 ^ un.toNat)).2
  have b : 2 ^ un.toNat ≤ 2 ^ 5 := Nat.pow_le_pow_right (by decide) (by omega)
  have c : ((2 ^ un.toNat : Nat) : Int) ≤ 32 := by
    have : (2 ^ 5 : Nat) = 32 := rfl
    omega
  exact Int.le_trans a c
theorem tvP_e {W : Nat → Int} {n : Nat} {un r m c k : Int} (ht : tmI (gS W n) k r m) (h : c = cnC W (fun _ => True) n) (hc : c ≤ 0) (hk : k = 0) : tvP W n un r m := by
  rcases ht with ⟨_, z2, z3⟩ | ⟨z1, _, _⟩
  · exact tvP_z h hc z2 z3
  · omega
theorem fr_of {a b : Int} {lw : Int32} {u v r g : Int64} (hg : 0 ≤ u.toInt → 0 ≤ v.toInt → g.toInt = ((Nat.gcd u.toInt.toNat v.toInt.toNat : Nat) : Int)) (ha : u.toInt = a) (hb : v.toInt = b) (hv : v.toInt ≠ 0) (hr : (lw.toInt ≠ 0 ∧ r = v / g) ∨ (lw.toInt = 0 ∧ r = u / g)) : frM a b lw.toInt r.toInt := fun a0 b0 => by
  have e := hg (by omega) (by omega)
  rw [ha, hb] at e
  have p : 0 < Nat.gcd a.toNat b.toNat := by
    rw [Nat.gcd_comm]
    exact Nat.gcd_pos_of_pos_left _ (by omega)
  refine Or.inr ⟨by omega, ?_⟩
  rcases hr with ⟨z1, z2⟩ | ⟨z1, z2⟩
  · exact Or.inl ⟨z1, by rw [lg_div z2 (by omega) (by omega), e, hb]⟩
  · exact Or.inr ⟨z1, by rw [lg_div z2 (by omega) (by omega), e, ha]⟩
theorem fr_0 {a b lw r : Int} (hb : b = 0) (hr : (lw ≠ 0 ∧ r = 1) ∨ (lw = 0 ∧ r = 0)) : frM a b lw r := fun _ _ => Or.inl ⟨hb, hr⟩
theorem euI_g {a b x y : Int} (h : euI a b x y) (hy : y = 0) : x = ((Nat.gcd a.toNat b.toNat : Nat) : Int) := by
  have g := h.2
  rw [hy, show (0 : Int).toNat = 0 from rfl, Nat.gcd_zero_right] at g
  have := h.1.1
  rw [← g]
  omega
theorem sN_32 {un : Int} (h : un ≤ 5) : 2 ^ un.toNat ≤ 32 := Nat.le_trans (Nat.pow_le_pow_right (by decide) (show un.toNat ≤ 5 by omega)) (by decide)
theorem nz_i {y : Int64} (h : ¬ y = 0) : y.toInt ≠ 0 := fun z => h (Int64.toInt_inj.mp (by rw [z, z64]))
theorem zr_i {c : Int32} {y z : Int64} (e : c = lg_cmp y z) (hz : z = 0) (h : c.toInt = 0) : y.toInt = 0 := by
  rw [leq9 e h, hz, z64]
theorem nr_i {c : Int32} {y z : Int64} (e : c = lg_cmp y z) (hz : z = 0) (h : c.toInt ≠ 0) : y.toInt ≠ 0 := by
  have g := lne9 e h
  rw [hz] at g
  exact nz_i g
section Ve
variable {p : Program} {l : Launch} {e : Env} {R : Room} {s : State} {m : MethodId} {args : Array Value} {below : List Frame} {meth : Method} {c : Code} {H : Heap} {locs : List Loc} {cells slots : Nat} {Q : State → Prop}
variable {cc : ByteArray} {pc nL : Nat} {ls : Array Slot} {rest : List Value} {own : String} {dC : Nat → ClassId} {dI : Nat → Nat → Nat} {cy : Nat → ClassId} {ex ex0 : exT} {ws : va_W} {A : Nat → Prop} {a ci idx N : Nat} {C : String} {T : u_T} {fs : List Value} {ty0 : Nat → FieldType} {v : Value}
variable {y : MethodName} {bytes : ByteArray} {maxL n b : Nat} {ret : Option FieldType} {rm : Room} {Qc : (Nat → Prop) → Array Value → State → Outcome → State → Prop} {As st : List Value} {wc wr : va_W} {lv : List (Nat × Value)}
theorem rVe_V {S : Type} {post : S → Prop} {w1 : S → va_W} (X : fx p s m c cc nL args own dC dI cy ex0 A) (hst : stb ex) (hxe : ex A s s.heap) (hM : ctV l dC dI cy ex y bytes maxL rm (.ref b :: As) wc post w1) (km : mOK y bytes maxL none n) (kv : Cond.instanceMethod y ∈ wsU ∧ Cond.selects y.cls y y ∈ wsU) (lk : mLk own idx y) (hP : va_P (dC, dI) vwCl ws H) (hD : va_D A ws) (hS : va_S A s.heap H locs) (hA : ∀ q, s.heap.size ≤ q → A q) (isC : List Nat) (hnd : va_nd isC = true) (hC : isC.map (fun i => ws[i]?) = wc.map some) (q0 : Nat) {q : vw_C} (hq : wc[q0]? = some (b, .inr (ci, fs))) (hc : vwCl[ci]? = some q) (hq1 : q.1 = y.cls) (hl : lv_has ls nL lv) (hn : As.length = n) (hst0 : st = As.reverse ++ .ref b :: rest) (hcat : (rest.map fun v => v.category).sum ≤ 8) (hdg : decode cc pc = .ok (.invokevirtual idx, 3))
    (hR : rm.frames + 1 ≤ R.frames ∧ 8 + (maxL + 11) + rm.locals ≤ R.locals) (hf : cells + rm.cells ≤ R.cells ∧ slots + rm.slots ≤ R.slots) :
    va_Run p l e R s m args below meth c H locs cells slots rm.cells rm.slots (F0 m pc ls st) rest (va_Qv post (qS dC dI (va_A wc H.size) w1) (va_A wc H.size) (Value.ref b :: As).toArray) (va_A wc H.size) :=
  rVe (Qc := fun A => va_Qv post (qS dC dI A w1) A) X hst hxe hM km kv lk hP hD hS hA isC hnd hC q0 hq hc hq1 hl hn hst0 hcat hdg hR hf
end Ve
theorem z_cmp {a : Int64} {x : Int32} (e : x = lg_cmp a 0) (h : x.toInt = 0) : a = 0 := by
  rw [e] at h
  unfold lg_cmp at h
  split at h
  · exact absurd h (by decide)
  · split at h
    · assumption
    · exact absurd h (by decide)
