theorem ti_mulq {a b x : Int32} {A B : Int} (e : x = a * b) (ha : 0 ≤ a.toInt) (hA : a.toInt ≤ A) (hb : 0 ≤ b.toInt) (hB : b.toInt ≤ B) (hAB : A * B ≤ 2147483647) : x.toInt = a.toInt * b.toInt ∧ 0 ≤ a.toInt * b.toInt ∧ a.toInt * b.toInt ≤ A * B := by
  have h0 : 0 ≤ a.toInt * b.toInt := Int.mul_nonneg ha hb
  have h1 : a.toInt * b.toInt ≤ A * B := Int.mul_le_mul hA hB hb (Int.le_trans ha hA)
  exact ⟨ti_mul e (by omega) (by omega), h0, h1⟩
theorem pl_bd {w d : Int} (h1 : 2 ≤ w) (h2 : w ≤ 5) (h3 : 2 ≤ d) (h4 : d ≤ 4) : 4 ≤ w * d ∧ w * d ≤ 20 :=
  ⟨by have := Int.mul_le_mul h1 h3 (by omega) (by omega); omega, by have := Int.mul_le_mul h2 h4 (by omega) (by omega); omega⟩
theorem pl_b0 {w d : Int} (h1 : 0 ≤ w) (h2 : w ≤ 5) (h3 : 0 ≤ d) (h4 : d ≤ 4) : 0 ≤ w * d ∧ w * d ≤ 20 :=
  ⟨Int.mul_nonneg h1 h3, by have := Int.mul_le_mul h2 h4 h3 (by omega); omega⟩
theorem rd_at {f : Nat → Int32} {i x : Int32} {z : Int} (e : x = f i.toNatClampNeg) (h : i.toInt = z) : (f z.toNat).toInt = x.toInt := by
  subst h; rw [e]; rfl
/-- where a step leads in the reference; -2 nowhere -/
def onF (w d c st : Int) : Int := if st = 0 then (if c < w then -2 else c - w) else if st = 2 then (if c + w < w * d then c + w else -2) else if st = 1 then (if c % w + 1 < w then c + 1 else -2) else (if 0 < c % w then c - 1 else -2)
theorem on_east {w d c : Int} (hw : 0 < w) (h : c < w * d) (h1 : c % w + 1 < w) : c + 1 < w * d := by
  have e := Int.emod_def c w
  have hq : c / w < d := Int.ediv_lt_of_lt_mul hw (by rw [Int.mul_comm]; exact h)
  have h3 : w * (c / w + 1) ≤ w * d := Int.mul_le_mul_of_nonneg_left (by omega) (by omega)
  rw [Int.mul_add] at h3
  omega
theorem on_west {w c : Int} (h0 : 0 ≤ c) (h1 : 0 < c % w) : 0 < c := by
  rcases Int.lt_or_eq_of_le h0 with h | h
  · exact h
  · rw [← h, Int.zero_emod] at h1; omega
theorem on_bd {w d c s : Int} (hw : 0 < w) (h0 : 0 ≤ c) (h : c < w * d) : onF w d c s = -2 ∨ (0 ≤ onF w d c s ∧ onF w d c s < w * d) := by
  have he := on_east hw h
  have hz := on_west (w := w) h0
  unfold onF
  (repeat' split) <;> omega
def odF (k s : Int) : Int := if k = 0 then (if s = 2 then 3 else if s = 0 then -2 else 1) else if k = 1 then -2 else if k = 2 then 1 else if s = 2 then 2 else if s = 0 then 4 else 1
/-- how long a step lasts in the reference; -2 never -/
def laF (w d : Int) (x : Nat → Int32) (k c s : Int) : Int := if onF w d c s = -2 ∨ (x (onF w d c s).toNat).toInt = 3 then -2 else if (x (onF w d c s).toNat).toInt = 1 then odF k s else if (x c.toNat).toInt ≠ 1 ∨ s ≠ 2 then 1 else if k = 2 then 1 else if k = 3 then 4 else -2
theorem la_on {w d : Int} {x : Nat → Int32} {k c s : Int} (h : laF w d x k c s ≠ -2) : onF w d c s ≠ -2 := by
  intro h1
  unfold laF at h
  rw [if_pos (Or.inl h1)] at h
  exact h rfl
theorem od_bd (k s : Int) : odF k s = -2 ∨ (1 ≤ odF k s ∧ odF k s ≤ 4) := by
  unfold odF
  (repeat' split) <;> omega
theorem la_bd (w d : Int) (x : Nat → Int32) (k c s : Int) : laF w d x k c s = -2 ∨ (1 ≤ laF w d x k c s ∧ laF w d x k c s ≤ 4) := by
  have h := od_bd k s
  unfold laF
  (repeat' split) <;> omega
def faF (w d : Int) (x : Nat → Int32) (k c s : Int) : Int := if k = 0 ∧ s = 2 ∧ (x (onF w d c s).toNat).toInt = 1 then 1 else 0
theorem fa_bd (w d : Int) (x : Nat → Int32) (k c s : Int) : 0 ≤ faF w d x k c s ∧ faF w d x k c s ≤ 1 := by
  unfold faF
  split <;> omega
def weF (w d : Int) (x : Nat → Int32) (k c s q : Int) : Int := if q ≠ 0 then 1000 * laF w d x k c s + faF w d x k c s else 1000 * faF w d x k c s + laF w d x k c s
theorem we_bd {w d : Int} {x : Nat → Int32} {k c s : Int} (q : Int) (h : laF w d x k c s ≠ -2) : 1 ≤ weF w d x k c s q ∧ weF w d x k c s q ≤ 4001 := by
  have h1 := la_bd w d x k c s
  have h2 := fa_bd w d x k c s
  unfold weF
  split <;> omega
/-- what is left is some step's weight and what is left behind it -/
def stI (w d : Int) (x : Nat → Int32) (k q : Int) (L : Nat → Int32) : Prop := ∀ c : Int, 0 ≤ c → c < w * d → 0 < (L c.toNat).toInt → (L c.toNat).toInt ≠ 9999999 → ∃ s : Int, 0 ≤ s ∧ s < 4 ∧ laF w d x k c s ≠ -2 ∧ (L (onF w d c s).toNat).toInt ≠ 9999999 ∧ weF w d x k c s q + (L (onF w d c s).toNat).toInt = (L c.toNat).toInt
def supI (w d : Int) (x : Nat → Int32) (k q : Int) (L : Nat → Int32) : Prop := ∀ c : Int, 0 ≤ c → c < w * d → 0 < (L c.toNat).toInt → (L c.toNat).toInt ≠ 9999999 → ∃ s : Int, 0 ≤ s ∧ s < 4 ∧ laF w d x k c s ≠ -2 ∧ (L (onF w d c s).toNat).toInt ≠ 9999999 ∧ weF w d x k c s q + (L (onF w d c s).toNat).toInt ≤ (L c.toNat).toInt
def fpI (w d : Int) (x : Nat → Int32) (k q : Int) (L : Nat → Int32) (n : Int) : Prop := ∀ c s : Int, 0 ≤ c → 0 ≤ s → s < 4 → 4 * c + s < n → laF w d x k c s = -2 ∨ (L (onF w d c s).toNat).toInt = 9999999 ∨ (L c.toNat).toInt ≤ weF w d x k c s q + (L (onF w d c s).toNat).toInt
theorem fpI_0 {w d : Int} {x : Nat → Int32} {k q : Int} {L : Nat → Int32} {n : Int} (h : n ≤ 0) : fpI w d x k q L n := by
  intro c s h0 h1 h2 h3
  omega
theorem fpI_up {w d : Int} {x : Nat → Int32} {k q : Int} {L : Nat → Int32} {n n' : Int} (h : fpI w d x k q L n) (c s : Int) (hn : n = 4 * c + s) (hn' : n' = 4 * c + s + 1) (h0 : 0 ≤ s) (h4 : s < 4) (hs : laF w d x k c s = -2 ∨ (L (onF w d c s).toNat).toInt = 9999999 ∨ (L c.toNat).toInt ≤ weF w d x k c s q + (L (onF w d c s).toNat).toInt) : fpI w d x k q L n' := by
  intro c1 s1 h1 h2 h3 h5
  by_cases he : 4 * c1 + s1 = 4 * c + s
  · obtain rfl : c1 = c := by omega
    obtain rfl : s1 = s := by omega
    exact hs
  · exact h c1 s1 h1 h2 h3 (by omega)
theorem fpI_eq {w d : Int} {x : Nat → Int32} {k q : Int} {L : Nat → Int32} {n n' : Int} (h : fpI w d x k q L n) (e : n' ≤ n) : fpI w d x k q L n' :=
  fun c s h1 h2 h3 h4 => h c s h1 h2 h3 (by omega)
theorem st_of {w d : Int} {x : Nat → Int32} {k q : Int} {L : Nat → Int32} (h : supI w d x k q L) (hf : fpI w d x k q L (4 * (w * d))) : stI w d x k q L := by
  intro c h0 h1 h2 h3
  obtain ⟨s, a0, a1, a2, a3, a4⟩ := h c h0 h1 h2 h3
  have h9 := hf c s h0 a0 a1 (by omega)
  exact ⟨s, a0, a1, a2, a3, by omega⟩
theorem sup_0 {w d : Int} {x : Nat → Int32} {k q : Int} {L : Nat → Int32} (h : ∀ c : Int, 0 ≤ c → c < w * d → (L c.toNat).toInt = 0 ∨ (L c.toNat).toInt = 9999999) : supI w d x k q L := by
  intro c h0 h1 h2 h3
  have := h c h0 h1
  omega
theorem upd_z {f : Nat → Int32} {i : Int32} {v : Int32} {c : Int} (h0 : 0 ≤ i.toInt) (hc : 0 ≤ c) : ((upd f i.toNatClampNeg v) c.toNat).toInt = if c = i.toInt then v.toInt else (f c.toNat).toInt := by
  have hi : i.toNatClampNeg = i.toInt.toNat := rfl
  unfold upd
  by_cases h : c = i.toInt
  · rw [if_pos h, if_pos (by omega)]
  · rw [if_neg h, if_neg (by omega)]
theorem sup_up {w d : Int} {x : Nat → Int32} {k q : Int} {L : Nat → Int32} (hw : 0 < w) (hpl : w * d ≤ 20) (h : supI w d x k q L) (hb : rb L 20 0 9999999) {i v : Int32} {s : Int} (h0 : 0 ≤ i.toInt) (h1 : i.toInt < w * d) (a0 : 0 ≤ s) (a1 : s < 4) (a2 : laF w d x k i.toInt s ≠ -2) (a3 : (L (onF w d i.toInt s).toNat).toInt ≠ 9999999) (a4 : v.toInt = weF w d x k i.toInt s q + (L (onF w d i.toInt s).toNat).toInt) (a5 : v.toInt < (L i.toInt.toNat).toInt) : supI w d x k q (upd L i.toNatClampNeg v) := by
  have hbi := hb i.toInt.toNat (by omega)
  intro c c0 c1 c2 c3
  rw [upd_z h0 c0] at c2 c3 ⊢
  by_cases hc : c = i.toInt
  · subst hc
    rw [if_pos rfl] at c2 c3 ⊢
    have o1 := on_bd (s := s) hw h0 h1
    have o2 := la_on a2
    have o3 := we_bd q a2
    refine ⟨s, a0, a1, a2, ?_⟩
    rw [upd_z h0 (by omega)]
    by_cases ho : onF w d i.toInt s = i.toInt
    · rw [ho] at a4; omega
    · rw [if_neg ho]; omega
  · rw [if_neg hc] at c2 c3 ⊢
    obtain ⟨s1, b0, b1, b2, b3, b4⟩ := h c c0 c1 c2 c3
    have o1 := on_bd (s := s1) hw c0 c1
    have o2 := la_on b2
    refine ⟨s1, b0, b1, b2, ?_⟩
    rw [upd_z h0 (by omega)]
    by_cases ho : onF w d c s1 = i.toInt
    · rw [ho] at b3 b4
      rw [if_pos ho]; omega
    · rw [if_neg ho]; exact ⟨b3, b4⟩
/-- the sum of a row's first entries -/
def sm (f : Nat → Int32) : Nat → Int
  | 0 => 0
  | n + 1 => sm f n + (f n).toInt
theorem sm_same {f g : Nat → Int32} : ∀ n : Nat, (∀ j, j < n → f j = g j) → sm f n = sm g n
  | 0, _ => rfl
  | n + 1, h => by
    unfold sm
    rw [sm_same n (fun j hj => h j (by omega)), h n (by omega)]
theorem sm_upd {f : Nat → Int32} {j : Nat} {v : Int32} : ∀ n : Nat, j < n → sm (upd f j v) n = sm f n - (f j).toInt + v.toInt
  | 0, h => by omega
  | n + 1, h => by
    unfold sm
    by_cases hj : j = n
    · subst hj
      rw [sm_same (f := upd f j v) (g := f) j (fun i hi => by unfold upd; rw [if_neg (by omega)])]
      have : upd f j v j = v := by unfold upd; rw [if_pos rfl]
      rw [this]; omega
    · rw [sm_upd n (by omega)]
      have : upd f j v n = f n := by unfold upd; rw [if_neg (by omega)]
      rw [this]; omega
theorem sm_bd {f : Nat → Int32} {hi : Int} : ∀ n : Nat, rb f n 0 hi → 0 ≤ sm f n ∧ sm f n ≤ hi * n
  | 0, _ => by unfold sm; omega
  | n + 1, h => by
    have h1 := sm_bd n (fun k hk => h k (by omega))
    have h2 := h n (by omega)
    unfold sm
    have : hi * ((n + 1 : Nat) : Int) = hi * (n : Int) + hi := by rw [Int.natCast_succ, Int.mul_add, Int.mul_one]
    omega
theorem sm_b20 {f : Nat → Int32} (h : rb f 20 0 9999999) : 0 ≤ sm f 20 ∧ sm f 20 ≤ 199999980 := by
  have := sm_bd 20 h
  omega
theorem sm_lt {f : Nat → Int32} {i v : Int32} (h0 : 0 ≤ i.toInt) (h1 : i.toInt < 20) (h : v.toInt < (f i.toInt.toNat).toInt) : sm (upd f i.toNatClampNeg v) 20 < sm f 20 := by
  rw [sm_upd 20 (cl_lt h0 h1)]
  have : (f i.toNatClampNeg).toInt = (f i.toInt.toNat).toInt := rfl
  omega
/-- all of the first n are far -/
def faI (L : Nat → Int32) (n : Int) : Prop := ∀ c : Int, 0 ≤ c → c < n → (L c.toNat).toInt = 9999999
theorem faI_0 {L : Nat → Int32} : faI L 0 := fun c h0 h1 => by omega
theorem faI_up {L : Nat → Int32} {i v : Int32} {n : Int} (h : faI L i.toInt) (h0 : 0 ≤ i.toInt) (hv : v.toInt = 9999999) (hn : n = i.toInt + 1) : faI (upd L i.toNatClampNeg v) n := by
  intro c c0 c1
  rw [upd_z h0 c0]
  split
  · exact hv
  · exact h c c0 (by omega)
theorem sup_1 {w d : Int} {x : Nat → Int32} {k q : Int} {L : Nat → Int32} {n : Int} (h : faI L n) (hn : w * d ≤ n) {i v : Int32} (h0 : 0 ≤ i.toInt) (hv : v.toInt = 0) : supI w d x k q (upd L i.toNatClampNeg v) := by
  refine sup_0 (fun c c0 c1 => ?_)
  rw [upd_z h0 c0]
  split
  · exact Or.inl hv
  · exact Or.inr (h c c0 (by omega))
/-- how many of the first entries are less -/
def cn (f : Nat → Int32) (a : Int) : Nat → Int
  | 0 => 0
  | n + 1 => cn f a n + (if (f n).toInt < a then 1 else 0)
theorem cn_bd (f : Nat → Int32) (a : Int) : ∀ n : Nat, 0 ≤ cn f a n ∧ cn f a n ≤ n
  | 0 => by unfold cn; omega
  | n + 1 => by
    have := cn_bd f a n
    unfold cn
    split <;> omega
theorem cn_le (f : Nat → Int32) {a b : Int} (h : a ≤ b) : ∀ n : Nat, cn f a n ≤ cn f b n
  | 0 => by unfold cn; omega
  | n + 1 => by
    have := cn_le f h n
    unfold cn
    split <;> split <;> omega
theorem cn_lt (f : Nat → Int32) {a b : Int} (h : a < b) (j : Nat) (hj : (f j).toInt = a) : ∀ n : Nat, j < n → cn f a n + 1 ≤ cn f b n
  | 0, hn => by omega
  | n + 1, hn => by
    unfold cn
    by_cases e : j = n
    · subst e
      have := cn_le f (Int.le_of_lt h) j
      rw [hj, if_neg (by omega), if_pos h]; omega
    · have := cn_lt f h j hj n (by omega)
      split <;> split <;> omega
/-- rows of 32 whose places of walkers lie in the park -/
def rI (f : Nat → Int32) (n pl : Int) : Prop := ∀ a i : Nat, (a : Int) < n → 20 ≤ i → i < 24 → 0 ≤ (f (32 * a + i)).toInt ∧ (f (32 * a + i)).toInt < pl
theorem rI_0 {f : Nat → Int32} {n pl : Int} (h : n ≤ 0) : rI f n pl := fun a i ha _ _ => by omega
theorem rI_le {f : Nat → Int32} {n m pl : Int} (h : rI f n pl) (e : m ≤ n) : rI f m pl := fun a i ha h1 h2 => h a i (by omega) h1 h2
theorem rI_at {f : Nat → Int32} {pl : Int} (h : rI f 1 pl) {i x : Int32} (e : x = f i.toNatClampNeg) (h0 : 20 ≤ i.toInt) (h1 : i.toInt < 24) : 0 ≤ x.toInt ∧ x.toInt < pl := by
  have h2 := h 0 i.toInt.toNat (by omega) (by omega) (by omega)
  rw [Nat.mul_zero, Nat.zero_add] at h2
  rw [e]
  exact h2
theorem rI_up {f : Nat → Int32} {pl : Int} (h : rI f 1 pl) {j v : Int32} (hv : (20 ≤ j.toInt ∧ j.toInt < 24) → 0 ≤ v.toInt ∧ v.toInt < pl) : rI (upd f j.toNatClampNeg v) 1 pl := by
  intro a i ha h1 h2
  have hi : j.toNatClampNeg = j.toInt.toNat := rfl
  unfold upd
  split
  · rename_i e; exact hv (by omega)
  · exact h a i ha h1 h2
theorem rI_ge {f : Nat → Int32} {n pl : Int} (h : rI f n pl) {j v : Int32} (hj : 32 * n ≤ j.toInt) : rI (upd f j.toNatClampNeg v) n pl := by
  intro a i ha h1 h2
  have hi : j.toNatClampNeg = j.toInt.toNat := rfl
  unfold upd
  rw [if_neg (by omega)]
  exact h a i ha h1 h2
/-- the first k of one row stand in the other from b on -/
def cpI (f : Nat → Int32) (b : Int) (v : Nat → Int32) (k : Int) : Prop := ∀ j : Nat, (j : Int) < k → f (b.toNat + j) = v j
theorem cpI_0 {f : Nat → Int32} {b : Int} {v : Nat → Int32} {k : Int} (h : k ≤ 0) : cpI f b v k := fun j hj => by omega
theorem cpI_f {f : Nat → Int32} {b : Int} {v : Nat → Int32} {k i x : Int32} {k' : Int} (h : cpI f b v k.toInt) (hb : 0 ≤ b) (h0 : 0 ≤ k.toInt) (hi : i.toInt = b + k.toInt) (hx : x = v k.toNatClampNeg) (hk : k' = k.toInt + 1) : cpI (upd f i.toNatClampNeg x) b v k' := by
  intro j hj
  have e1 : i.toNatClampNeg = i.toInt.toNat := rfl
  have e2 : k.toNatClampNeg = k.toInt.toNat := rfl
  unfold upd
  by_cases e : (j : Int) = k.toInt
  · rw [if_pos (by omega), hx, e2, show k.toInt.toNat = j by omega]
  · rw [if_neg (by omega)]; exact h j (by omega)
theorem cpI_v {f : Nat → Int32} {b : Int} {v : Nat → Int32} {k i x : Int32} {k' : Int} (h : cpI f b v k.toInt) (hb : 0 ≤ b) (h0 : 0 ≤ k.toInt) (hi : i.toInt = b + k.toInt) (hx : x = f i.toNatClampNeg) (hk : k' = k.toInt + 1) : cpI f b (upd v k.toNatClampNeg x) k' := by
  intro j hj
  have e1 : i.toNatClampNeg = i.toInt.toNat := rfl
  have e2 : k.toNatClampNeg = k.toInt.toNat := rfl
  unfold upd
  by_cases e : (j : Int) = k.toInt
  · rw [if_pos (by omega), hx, e1, show i.toInt.toNat = b.toNat + j by omega]
  · rw [if_neg (by omega)]; exact h j (by omega)
theorem rI_add {f v : Nat → Int32} {n m b pl : Int} (h : rI f n pl) (hv : rI v 1 pl) (hc : cpI f b v 32) (hb : b = 32 * n) (h0 : 0 ≤ n) (hm : m = n + 1) : rI f m pl := by
  intro a i ha h1 h2
  by_cases e : (a : Int) < n
  · exact h a i e h1 h2
  · have h3 := hc i (by omega)
    have h4 := hv 0 i (by omega) h1 h2
    rw [Nat.mul_zero, Nat.zero_add, ← h3, show b.toNat + i = 32 * a + i by omega] at h4
    exact h4
theorem rI_get {f v : Nat → Int32} {n b a pl : Int} (h : rI f n pl) (hc : cpI f b v 32) (hb : b = 32 * a) (h0 : 0 ≤ a) (h1 : a < n) : rI v 1 pl := by
  intro a1 i ha h2 h3
  obtain rfl : a1 = 0 := by omega
  have h4 := hc i (by omega)
  have h5 := h a.toNat i (by omega) h2 h3
  rw [Nat.mul_zero, Nat.zero_add, ← h4, show b.toNat + i = 32 * a.toNat + i by omega]
  exact h5
/-- the row, its first k moved down by 32 -/
def shI (f0 f : Nat → Int32) (k : Int) : Prop := ∀ j : Nat, ((j : Int) < k → f j = f0 (j + 32)) ∧ (k ≤ (j : Int) → f j = f0 j)
theorem shI_0 {f : Nat → Int32} : shI f f 0 := fun j => ⟨fun h => by omega, fun _ => rfl⟩
theorem shI_up {f0 f : Nat → Int32} {k i x : Int32} {k' : Int} (h : shI f0 f k.toInt) (h0 : 0 ≤ k.toInt) (hi : i.toInt = k.toInt + 32) (hx : x = f i.toNatClampNeg) (hk : k' = k.toInt + 1) : shI f0 (upd f k.toNatClampNeg x) k' := by
  intro j
  have e1 : i.toNatClampNeg = i.toInt.toNat := rfl
  have e2 : k.toNatClampNeg = k.toInt.toNat := rfl
  unfold upd
  refine ⟨fun hj => ?_, fun hj => ?_⟩
  · by_cases e : (j : Int) = k.toInt
    · rw [if_pos (by omega), hx, e1, show i.toInt.toNat = j + 32 by omega]
      exact (h (j + 32)).2 (by omega)
    · rw [if_neg (by omega)]; exact (h j).1 (by omega)
  · rw [if_neg (by omega)]; exact (h j).2 (by omega)
theorem rI_sh {f0 f : Nat → Int32} {n pl : Int} (h : rI f0 16 pl) (hs : shI f0 f 480) (hn : n ≤ 15) : rI f n pl := by
  intro a i ha h1 h2
  have h3 := (hs (32 * a + i)).1 (by omega)
  have h4 := h (a + 1) i (by omega) h1 h2
  rw [h3, show 32 * a + i + 32 = 32 * (a + 1) + i by omega]
  exact h4
/-- the first n are 0 -/
def zrI (f : Nat → Int32) (n : Int) : Prop := ∀ j : Nat, (j : Int) < n → (f j).toInt = 0
theorem zrI_0 {f : Nat → Int32} {n : Int} (h : n ≤ 0) : zrI f n := fun j hj => by omega
theorem zrI_up {f : Nat → Int32} {k v : Int32} {n : Int} (h : zrI f k.toInt) (h0 : 0 ≤ k.toInt) (hv : v.toInt = 0) (hn : n = k.toInt + 1) : zrI (upd f k.toNatClampNeg v) n := by
  intro j hj
  have e2 : k.toNatClampNeg = k.toInt.toNat := rfl
  unfold upd
  split
  · exact hv
  · exact h j (by omega)
theorem rI_z {f : Nat → Int32} {n pl : Int} (h : zrI f n) (hn : 32 ≤ n) (hp : 0 < pl) : rI f 1 pl := by
  intro a i ha h1 h2
  have := h (32 * a + i) (by omega)
  omega
/-- the first n lie in the park -/
def atI (f : Nat → Int32) (n pl : Int) : Prop := ∀ j : Nat, (j : Int) < n → 0 ≤ (f j).toInt ∧ (f j).toInt < pl
theorem atI_0 {f : Nat → Int32} {n pl : Int} (h : n ≤ 0) : atI f n pl := fun j hj => by omega
theorem atI_at {f : Nat → Int32} {n pl : Int} (h : atI f n pl) {i x : Int32} (e : x = f i.toNatClampNeg) (h0 : 0 ≤ i.toInt) (h1 : i.toInt < n) : 0 ≤ x.toInt ∧ x.toInt < pl := by
  have e1 : i.toNatClampNeg = i.toInt.toNat := rfl
  rw [e]; exact h _ (by omega)
theorem atI_up {f : Nat → Int32} {n m pl : Int} (h : atI f n pl) {k v : Int32} (hk : k.toInt = n) (h0 : 0 ≤ n) (hv : 0 ≤ v.toInt ∧ v.toInt < pl) (hm : m = n + 1) : atI (upd f k.toNatClampNeg v) m pl := by
  intro j hj
  have e2 : k.toNatClampNeg = k.toInt.toNat := rfl
  unfold upd
  split
  · exact hv
  · exact h j (by omega)
/-- walks that end in the park -/
def wkI (f g : Nat → Int32) (n w : Int) : Prop := ∀ j : Nat, (j : Int) < n → 0 ≤ (f j).toInt ∧ (f j).toInt ≤ 19 ∧ (g j).toInt ≤ 3 ∧ (f j).toInt + w * (g j).toInt ≤ 19
theorem wkI_0 {f g : Nat → Int32} {n w : Int} (h : n ≤ 0) : wkI f g n w := fun j hj => by omega
theorem wkI_at {f g : Nat → Int32} {n w : Int} (h : wkI f g n w) {i x y : Int32} (e : x = f i.toNatClampNeg) (e' : y = g i.toNatClampNeg) (h0 : 0 ≤ i.toInt) (h1 : i.toInt < n) : 0 ≤ x.toInt ∧ x.toInt ≤ 19 ∧ y.toInt ≤ 3 ∧ x.toInt + w * y.toInt ≤ 19 := by
  have e1 : i.toNatClampNeg = i.toInt.toNat := rfl
  rw [e, e']; exact h _ (by omega)
theorem wkI_up {f g : Nat → Int32} {n m w : Int} (h : wkI f g n w) {k x y : Int32} (hk : k.toInt = n) (h0 : 0 ≤ n) (hx : 0 ≤ x.toInt) (hx9 : x.toInt ≤ 19) (hy : y.toInt ≤ 3) (hxy : x.toInt + w * y.toInt ≤ 19) (hm : m = n + 1) : wkI (upd f k.toNatClampNeg x) (upd g k.toNatClampNeg y) m w := by
  intro j hj
  have e2 : k.toNatClampNeg = k.toInt.toNat := rfl
  unfold upd
  by_cases e : j = k.toNatClampNeg
  · rw [if_pos e, if_pos e]; exact ⟨hx, hx9, hy, hxy⟩
  · rw [if_neg e, if_neg e]; exact h j (by omega)
theorem wk_k {w s k c : Int} (hw : 0 ≤ w) (h : c + w * s ≤ 19) (hk : k ≤ s) : c + w * k ≤ 19 := by
  have := Int.mul_le_mul_of_nonneg_left hk hw
  omega
theorem cell_lt {w d r c : Int} (hw : 0 ≤ w) (h : r ≤ d - 1) (hc : c ≤ w - 1) : w * r + c < w * d := by
  have := Int.mul_le_mul_of_nonneg_left (show r + 1 ≤ d by omega) hw
  rw [Int.mul_add] at this
  omega
/-- a byte of the tape -/
def byF (f : Nat → Int32) (n k : Int) : Int := if k < n then (f k.toNat &&& 255).toInt else -1
/-- how many of a row's first letters are u -/
def cU (f : Nat → Int32) (n p : Int) : Nat → Int
  | 0 => 0
  | k + 1 => cU f n p k + (if byF f n (p + k) = 117 then 1 else 0)
theorem cU_mono (f : Nat → Int32) (n p : Int) : ∀ (m k : Nat), cU f n p k ≤ cU f n p (k + m)
  | 0, k => Int.le_refl _
  | m + 1, k => by
    have h := cU_mono f n p m k
    show cU f n p k ≤ cU f n p (k + m) + (if byF f n (p + ((k + m : Nat) : Int)) = 117 then 1 else 0)
    split <;> omega
theorem cU_le {f : Nat → Int32} {n p : Int} {a b : Int} (h0 : 0 ≤ a) (h : a ≤ b) : cU f n p a.toNat ≤ cU f n p b.toNat := by
  have := cU_mono f n p (b.toNat - a.toNat) a.toNat
  rw [show a.toNat + (b.toNat - a.toNat) = b.toNat by omega] at this
  exact this
theorem cU_up {f : Nat → Int32} {n p a b : Int} (h0 : 0 ≤ a) (hb : b = a + 1) : cU f n p b.toNat = cU f n p a.toNat + (if byF f n (p + a) = 117 then 1 else 0) := by
  rw [show b.toNat = a.toNat + 1 by omega]
  show cU f n p a.toNat + (if byF f n (p + (a.toNat : Int)) = 117 then 1 else 0) = _
  rw [show (a.toNat : Int) = a by omega]
theorem bt_lt {r x y : Int32} (e1 : y = r - 1) (e2 : x = r &&& y) (h : r.toInt ≠ 0) : x.toBitVec.toNat < r.toBitVec.toNat := by
  have hx : x.toBitVec = r.toBitVec &&& (r.toBitVec - 1#32) := by rw [e2, e1]; rfl
  have h0 : r.toBitVec.toNat ≠ 0 := by
    intro hz
    apply h
    have h1 : r.toInt = r.toBitVec.toInt := rfl
    rw [h1, BitVec.toInt_eq_toNat_cond, hz]
    decide
  have hl := r.toBitVec.isLt
  have h2 : (r.toBitVec - 1#32).toNat = r.toBitVec.toNat - 1 := by
    rw [BitVec.toNat_sub]
    have : (1#32).toNat = 1 := rfl
    omega
  rw [hx, BitVec.toNat_and]
  have := Nat.and_le_right (n := r.toBitVec.toNat) (m := (r.toBitVec - 1#32).toNat)
  omega
theorem lrem_lt {a b x : Int64} (e : x = a - a / b * b) (hb : ¬ b = 0) : x.toInt.natAbs < b.toInt.natAbs := by
  have hb0 : b.toInt ≠ 0 := fun q => hb (Int64.toInt_inj.mp (q.trans rfl))
  have h1 : -9223372036854775808 ≤ b.toInt := Int64.le_toInt b
  have h2 : b.toInt < 9223372036854775808 := Int64.toInt_lt b
  have hm : (a.toInt.tmod b.toInt).natAbs < b.toInt.natAbs := by
    rw [Int.natAbs_tmod]
    exact Nat.mod_lt _ (by omega)
  have h : x.toInt = a.toInt.tmod b.toInt := by
    rw [e, Int64.toInt_sub, Int64.toInt_mul, Int64.toInt_div, Int.bmod_mul_bmod, Int.sub_bmod_bmod]
    rw [show a.toInt - a.toInt.tdiv b.toInt * b.toInt = a.toInt.tmod b.toInt by rw [Int.tmod_def, Int.mul_comm]]
    rw [Int.bmod_def]
    split <;> omega
  rw [h]
  exact hm
/-- what a fault that was noted leaves: nothing is read any more -/
def ov (s s1 : Int) : Prop := s = 5 → s1 = 5
def sg (p s1 p1 : Int) : Prop := s1 = 4 → p < p1
def jj (s f : Int) : Prop := s = 5 → 1 ≤ f
def wh (s lo r hi : Int) : Prop := s ≠ 5 → lo ≤ r ∧ r ≤ hi
def lb (s w d r p q : Int) : Prop := s ≠ 5 → 2 ≤ w ∧ 2 ≤ d ∧ d ≤ r ∧ p ≠ q
theorem jj_f {s f : Int} (h : 1 ≤ f) : jj s f := fun _ => h
theorem jj_s {s f : Int} (h : s ≠ 5) : jj s f := fun q => absurd q h
theorem cpI_k {f : Nat → Int32} {b : Int} {v : Nat → Int32} {k m : Int} (h : cpI f b v k) (e : m ≤ k) : cpI f b v m := fun j hj => h j (by omega)
theorem shI_k {f0 f : Nat → Int32} {k m : Int} (h : shI f0 f k) (e : k = m) : shI f0 f m := e ▸ h
/-- a part of a row that was read -/
theorem sh_at {f : Nat → Int32} {b : Nat} {i t x : Int32} (e : x = f t.toNatClampNeg) (ht : t.toInt = (b : Int) + i.toInt) (h0 : 0 ≤ i.toInt) : (shF f b i.toInt.toNat).toInt = x.toInt := by
  have e1 : t.toNatClampNeg = t.toInt.toNat := rfl
  rw [e, e1, show t.toInt.toNat = b + i.toInt.toNat by omega]
  rfl
theorem cpZ_ge {f g h : Nat → Int32} {k v : Int32} {n : Int} (hc : cpZ f g n) (e : upd g (Int32.toNatClampNeg k) v = h) (hk : n ≤ k.toInt) : cpZ f h n := by
  have e1 : k.toNatClampNeg = k.toInt.toNat := rfl
  intro j hj
  rw [← e]
  unfold upd
  rw [if_neg (by omega)]
  exact hc j hj
/-- now is kept; a change; undo, image, back -/
def remP (p p1 v : Nat → Int32) (a a1 : Int) : Prop := (a < 16 ∧ a1 = a + 1 ∧ cpZ p p1 (32 * a) ∧ cpI p1 (32 * a) v 32) ∨ (a = 16 ∧ a1 = 16 ∧ (∀ j : Nat, (j : Int) < 480 → p1 j = p (j + 32)) ∧ cpI p1 480 v 32)
theorem remP_f {p b p1 v : Nat → Int32} {a a1 A : Int} (ha : a = 16) (h1 : a1 = 16) (hs : shI p b 480) (hA : A = 480) (hc : cpZ b p1 A) (hv : cpI p1 A v 32) : remP p p1 v a a1 := by
  subst hA
  refine Or.inr ⟨ha, h1, fun j hj => ?_, hv⟩
  rw [hc j hj]
  exact (hs j).1 hj
def beG (r n : Int) (v : Nat → Int32) (wk : Int) (c : Int32) (a : Int) (b : Int32) (v1 p p1 : Nat → Int32) (k k1 : Int) : Prop := (r = 1 ∧ 0 ≤ c.toInt ∧ c.toInt < n ∧ (v c.toInt.toNat).toInt = a ∧ (b.toInt = 3 → waN (shF v 20) wk c.toInt) ∧ v1 = upd v (Int32.toNatClampNeg c) b ∧ remP p p1 v k k1) ∨ (r = 0 ∧ (c.toInt < 0 ∨ n ≤ c.toInt ∨ (v c.toInt.toNat).toInt ≠ a ∨ (b.toInt = 3 ∧ waY (shF v 20) wk c.toInt)) ∧ v1 = v ∧ p1 = p ∧ k1 = k)
def unG (r a a1 : Int) (v v1 p : Nat → Int32) : Prop := (a = 0 ∧ r = 0 ∧ a1 = a ∧ v1 = v) ∨ (0 < a ∧ r = 1 ∧ a1 = a - 1 ∧ cpI p (32 * (a - 1)) v1 32)
def imG (k k1 v : Nat → Int32) (i i1 : Int) : Prop := (i = 3 ∧ i1 = i ∧ k1 = k) ∨ (i < 3 ∧ i1 = i + 1 ∧ cpZ k k1 (32 * i) ∧ cpI k1 (32 * i) v 32)
def bkG (r p i a a1 : Int) (v v1 k : Nat → Int32) : Prop := (0 ≤ p ∧ p < i ∧ r = 1 ∧ a1 = 0 ∧ cpI k (32 * p) v1 32) ∨ ((p < 0 ∨ i ≤ p) ∧ r = 0 ∧ a1 = a ∧ v1 = v)
/-- a step that was done -/
def goM (w d : Int) (v : Nat → Int32) (k : Int) (p : Nat) (st : Int) (v1 : Nat → Int32) : Prop := v1 = upd (upd (upd v (20 + p) (Int32.ofInt (onF w d (v (20 + p)).toInt st))) (24 + p) (v (24 + p) + Int32.ofInt (faF w d v k (v (20 + p)).toInt st))) (28 + p) (v (28 + p) + Int32.ofInt (laF w d v k (v (20 + p)).toInt st))
def sxG (r wk w d : Int) (k v v1 p p1 : Nat → Int32) (a a1 : Int) (i st : Int) : Prop := (r = -1 ∧ (i < 0 ∨ wk ≤ i ∨ st < 0 ∨ 3 < st ∨ laF w d v (k i.toNat).toInt (v (20 + i.toNat)).toInt st = -2) ∧ v1 = v ∧ p1 = p ∧ a1 = a) ∨ (0 ≤ i ∧ i < wk ∧ 0 ≤ st ∧ st ≤ 3 ∧ laF w d v (k i.toNat).toInt (v (20 + i.toNat)).toInt st ≠ -2 ∧ goM w d v (k i.toNat).toInt i.toNat st v1 ∧ r = (v1 (20 + i.toNat)).toInt ∧ remP p p1 v a a1)
theorem goM_of {w d k st : Int} {v f1 f2 f3 : Nat → Int32} {p i1 i2 i3 x g q t y2 s2 y3 s3 : Int32} (h0 : 0 ≤ p.toInt) (h3 : p.toInt ≤ 3) (j1 : i1.toInt = 20 + p.toInt) (j2 : i2.toInt = 24 + p.toInt) (j3 : i3.toInt = 28 + p.toInt) (ex : (v (20 + p.toInt.toNat)).toInt = x.toInt) (hg : g.toInt = onF w d x.toInt st) (hq : q.toInt = faF w d v k x.toInt st) (ht : t.toInt = laF w d v k x.toInt st) (u1 : upd v (Int32.toNatClampNeg i1) g = f1) (e2 : y2 = f1 (Int32.toNatClampNeg i2)) (a2 : s2 = y2 + q) (u2 : upd f1 (Int32.toNatClampNeg i2) s2 = f2) (e3 : y3 = f2 (Int32.toNatClampNeg i3)) (a3 : s3 = y3 + t) (u3 : upd f2 (Int32.toNatClampNeg i3) s3 = f3) : goM w d v k p.toInt.toNat st f3 := by
  have n1 : i1.toNatClampNeg = 20 + p.toInt.toNat := by
    show i1.toInt.toNat = _
    omega
  have n2 : i2.toNatClampNeg = 24 + p.toInt.toNat := by
    show i2.toInt.toNat = _
    omega
  have n3 : i3.toNatClampNeg = 28 + p.toInt.toNat := by
    show i3.toInt.toNat = _
    omega
  rw [n1] at u1
  rw [n2] at e2 u2
  rw [n3] at e3 u3
  have c2 : y2 = v (24 + p.toInt.toNat) := by
    rw [e2, ← u1]
    unfold upd
    rw [if_neg (by omega)]
  have c3 : y3 = v (28 + p.toInt.toNat) := by
    rw [e3, ← u2, ← u1]
    unfold upd
    rw [if_neg (by omega), if_neg (by omega)]
  unfold goM
  rw [ex, ← oi_of hg, ← oi_of hq, ← oi_of ht, ← c2, ← c3, ← a2, ← a3, u1, u2, u3]
theorem la_cp {w d : Int} {v x : Nat → Int32} {k c s : Int} (h : cpZ v x 20) (hw : 0 < w) (h0 : 0 ≤ c) (h1 : c < w * d) (h2 : w * d ≤ 20) : laF w d x k c s = laF w d v k c s := by
  have hb := on_bd (s := s) hw h0 h1
  unfold laF
  rcases hb with q | q
  · rw [if_pos (Or.inl q), if_pos (Or.inl q)]
  · rw [h (onF w d c s).toNat (by omega), h c.toNat (by omega)]
theorem fa_cp {w d : Int} {v x : Nat → Int32} {k c s : Int} (h : cpZ v x 20) (hw : 0 < w) (h0 : 0 ≤ c) (h1 : c < w * d) (h2 : w * d ≤ 20) (h3 : onF w d c s ≠ -2) : faF w d x k c s = faF w d v k c s := by
  have hb := on_bd (s := s) hw h0 h1
  unfold faF
  rw [h (onF w d c s).toNat (by omega)]
/-- class and reference: where a step leads, what it takes -/
theorem tg_on {w d c s : Int} {f x : Nat → Int32} (hw : 0 < w) (h0 : 0 ≤ c) (h1 : c < w * d) (hs : 0 ≤ s) (hs3 : s ≤ 3) (hf : ∀ j : Nat, (j : Int) < w * d → f j = x j) : (tgZ w (w * d) f c s = -1 ∧ (onF w d c s = -2 ∨ (x (onF w d c s).toNat).toInt = 3)) ∨ (tgZ w (w * d) f c s = onF w d c s ∧ 0 ≤ onF w d c s ∧ onF w d c s < w * d ∧ (x (onF w d c s).toNat).toInt ≠ 3) := by
  have he := on_east hw h1
  have hz := on_west (w := w) h0
  have key : ∀ t : Int, (t < 0 ∨ w * d ≤ t → onF w d c s = -2) → (0 ≤ t → t < w * d → onF w d c s = t) → (tg2 (w * d) f t = -1 ∧ (onF w d c s = -2 ∨ (x (onF w d c s).toNat).toInt = 3)) ∨ (tg2 (w * d) f t = onF w d c s ∧ 0 ≤ onF w d c s ∧ onF w d c s < w * d ∧ (x (onF w d c s).toNat).toInt ≠ 3) := by
    intro t k1 k2
    unfold tg2
    by_cases q : t < 0 ∨ w * d ≤ t
    · exact Or.inl ⟨if_pos (by omega), Or.inl (k1 q)⟩
    · have e := k2 (by omega) (by omega)
      have e3 := hf t.toNat (by omega)
      rw [e, ← e3]
      by_cases q3 : (f t.toNat).toInt = 3
      · exact Or.inl ⟨if_pos (Or.inr (Or.inr q3)), Or.inr q3⟩
      · exact Or.inr ⟨if_neg (by omega), by omega, by omega, q3⟩
  unfold tgZ
  rw [if_neg (show ¬ (c < 0 ∨ w * d ≤ c ∨ w ≤ 0) by omega)]
  apply key
  · intro q
    unfold onF
    (repeat' split at q) <;> (repeat' split) <;> omega
  · intro q1 q2
    unfold onF
    (repeat' split) <;> (repeat' split at q1) <;> omega
theorem od_eq {k s : Int} (hk : 0 ≤ k) (hk3 : k ≤ 3) (hs : 0 ≤ s) (hs3 : s ≤ 3) : oD k s = odF k s := by
  unfold oD odF
  (repeat' split) <;> omega
theorem tf_la {w d c s k : Int} {f x : Nat → Int32} (hw : 0 < w) (h0 : 0 ≤ c) (h1 : c < w * d) (hs : 0 ≤ s) (hs3 : s ≤ 3) (hk : 0 ≤ k) (hk3 : k ≤ 3) (hf : ∀ j : Nat, (j : Int) < w * d → f j = x j) : tfZ w (w * d) f k c s = laF w d x k c s ∧ (laF w d x k c s ≠ -2 → tgZ w (w * d) f c s = onF w d c s ∧ flZ w (w * d) f k c s = faF w d x k c s) := by
  have ho := od_eq hk hk3 hs hs3
  have hb := od_bd k s
  have hc := hf c.toNat (by omega)
  rcases tg_on hw h0 h1 hs hs3 hf with ⟨a1, a2⟩ | ⟨a1, a2, a3, a4⟩
  · have e1 : laF w d x k c s = -2 := by unfold laF; exact if_pos a2
    refine ⟨?_, fun q => absurd e1 q⟩
    unfold tfZ
    rw [e1, if_pos a1]
  · have ht := hf (onF w d c s).toNat (by omega)
    refine ⟨?_, fun _ => ⟨a1, ?_⟩⟩
    · unfold tfZ laF
      rw [a1, ht, hc, if_neg (show ¬ onF w d c s = -1 by omega), if_neg (show ¬ (onF w d c s = -2 ∨ (x (onF w d c s).toNat).toInt = 3) by omega), ho]
      unfold oU
      (repeat' split) <;> omega
    · unfold flZ faF
      rw [a1, ht]
      (repeat' split) <;> omega
theorem shR {f : Nat → Int32} {b : Nat} {i t x : Int32} (e : x = f t.toNatClampNeg) (ht : t.toInt = (b : Int) + i.toInt) (h0 : 0 ≤ i.toInt) : x = shF f b i.toNatClampNeg := by
  have e1 : t.toNatClampNeg = t.toInt.toNat := rfl
  have e2 : i.toNatClampNeg = i.toInt.toNat := rfl
  rw [e, e1, e2, show t.toInt.toNat = b + i.toInt.toNat by omega]
  rfl
theorem ti_or0 {a x : Int32} (e : x = a ||| 0) : x.toInt = a.toInt := by
  rw [e, Int32.or_zero]
theorem bm_649 {z : Int} (h1 : -9223372036854775808 ≤ z) (h2 : z ≤ 9223372036854775807) : z.bmod (2 ^ 64) = z := by
  rw [Int.bmod_def]
  split <;> omega
theorem lrem_eq {a b x : Int64} (e : x = a - a / b * b) (hb : ¬ b = 0) : x.toInt = a.toInt.tmod b.toInt := by
  have hb0 : b.toInt ≠ 0 := fun q => hb (Int64.toInt_inj.mp (q.trans rfl))
  have h1 : -9223372036854775808 ≤ b.toInt := Int64.le_toInt b
  have h2 : b.toInt < 9223372036854775808 := Int64.toInt_lt b
  have hm : (a.toInt.tmod b.toInt).natAbs < b.toInt.natAbs := by
    rw [Int.natAbs_tmod]
    exact Nat.mod_lt _ (by omega)
  rw [e, Int64.toInt_sub, Int64.toInt_mul, Int64.toInt_div, Int.bmod_mul_bmod, Int.sub_bmod_bmod]
  rw [show a.toInt - a.toInt.tdiv b.toInt * b.toInt = a.toInt.tmod b.toInt by rw [Int.tmod_def, Int.mul_comm]]
  rw [Int.bmod_def]
  split <;> omega
/-- a draw of the reference, by long numbers -/
theorem draw_l {s s1 : Int32} {a b c d : Int64} (h0 : 0 ≤ s.toInt) (h1 : s.toInt ≤ 65536) (e1 : s.toInt64 = a) (e2 : b = 75 * a) (e3 : c = b + 74) (e4 : d = c - c / 65537 * 65537) (e5 : d.toInt32 = s1) : s1.toInt = (75 * s.toInt + 74) % 65537 := by
  have t1 : a.toInt = s.toInt := by rw [← e1, Int32.toInt_toInt64]
  have t2 : b.toInt = 75 * s.toInt := by
    rw [e2, Int64.toInt_mul, t1, show (75 : Int64).toInt = 75 by decide]
    exact bm_649 (by omega) (by omega)
  have t3 : c.toInt = 75 * s.toInt + 74 := by
    rw [e3, Int64.toInt_add, t2, show (74 : Int64).toInt = 74 by decide]
    exact bm_649 (by omega) (by omega)
  have t4 : d.toInt = (75 * s.toInt + 74) % 65537 := by
    rw [lrem_eq e4 (by decide), t3, show (65537 : Int64).toInt = 65537 by decide]
    exact Int.tmod_eq_emod_of_nonneg (by omega)
  rw [← e5, Int64.toInt_toInt32, t4, Int.bmod_def]
  split <;> omega
/-- the reference's ramble, behind m draws -/
def rmI (w d : Int) (v : Nat → Int32) (k g sd c0 m s c f a : Int) : Prop := ∃ F : Int32, rbN (laF w d v k) (faF w d v k) (onF w d) g sd c0 (if c0 = g then 0 else -2) m.toNat = (s, c, F, a) ∧ F.toInt = f
theorem rmI_0 {w d : Int} {v : Nat → Int32} {k g sd c0 m s c f a : Int} (hm : m = 0) (hs : s = sd) (hc : c = c0) (hf : f = 0) (ha : (c0 = g ∧ a = 0) ∨ (c0 ≠ g ∧ a = -2)) : rmI w d v k g sd c0 m s c f a := by
  subst hm hs hc hf
  refine ⟨0, ?_, rfl⟩
  have e : rbN (laF w d v k) (faF w d v k) (onF w d) g s c (if c = g then 0 else -2) (Int.toNat 0) = (s, c, 0, (if c = g then 0 else -2)) := rfl
  rw [e]
  rcases ha with ⟨h1, h2⟩ | ⟨h1, h2⟩
  · rw [if_pos h1, h2]
  · rw [if_neg h1, h2]
theorem rmI_n {w d : Int} {v : Nat → Int32} {k g sd c0 m m1 s c f a s1 st a1 : Int} (h : rmI w d v k g sd c0 m s c f a) (h0 : 0 ≤ m) (e1 : s1 = (75 * s + 74) % 65537) (e2 : st = s1 % 4) (hl : laF w d v k c st = -2) (ha : (a = -2 ∧ c = g ∧ a1 = m1) ∨ (¬ (a = -2 ∧ c = g) ∧ a1 = a)) (hm : m1 = m + 1) : rmI w d v k g sd c0 m1 s1 c f a1 := by
  obtain ⟨F, h1, h2⟩ := h
  refine ⟨F, ?_, h2⟩
  rw [show m1.toNat = m.toNat + 1 by omega]
  exact rbN_up h1 e1 e2 (Or.inl ⟨hl, rfl, rfl⟩) ha (by omega)
theorem rmI_y {w d : Int} {v : Nat → Int32} {k g sd c0 m m1 s c a s1 st c1 a1 : Int} {y q x : Int32} (h : rmI w d v k g sd c0 m s c y.toInt a) (h0 : 0 ≤ m) (e1 : s1 = (75 * s + 74) % 65537) (e2 : st = s1 % 4) (hl : laF w d v k c st ≠ -2) (hc : c1 = onF w d c st) (hq : q.toInt = faF w d v k c st) (ex : x = y + q) (ha : (a = -2 ∧ c1 = g ∧ a1 = m1) ∨ (¬ (a = -2 ∧ c1 = g) ∧ a1 = a)) (hm : m1 = m + 1) : rmI w d v k g sd c0 m1 s1 c1 x.toInt a1 := by
  obtain ⟨F, h1, h2⟩ := h
  obtain rfl : F = y := Int32.toInt_inj.mp h2
  refine ⟨x, ?_, rfl⟩
  rw [show m1.toNat = m.toNat + 1 by omega]
  exact rbN_up h1 e1 e2 (Or.inr ⟨hl, hc, by rw [ex, oi_of hq]⟩) ha (by omega)
/-- the reference's rambles: what it says -/
def rmQ (w d : Int) (v k g : Nat → Int32) (p sd m c f a : Int) : Prop := ∃ s : Int, rmI w d v (k p.toNat).toInt (g p.toNat).toInt sd (v (20 + p.toNat)).toInt m s c f a
theorem tT_c {n : Int} {tf tg tf' tg' : Int → Int → Int} (h : ∀ c s : Int, 0 ≤ c → c < n → 0 ≤ s → s < 4 → tf c s = tf' c s ∧ (tf' c s ≠ -2 → tg c s = tg' c s)) : tT n tf tg = tT n tf' tg' := by
  funext e
  unfold tT
  by_cases q : (e : Int) < 4 * n
  · obtain ⟨h1, h2⟩ := h ((e / 4 : Nat) : Int) ((e % 4 : Nat) : Int) (by omega) (by omega) (by omega) (by omega)
    rw [h1]
    by_cases z : tf' ((e / 4 : Nat) : Int) ((e % 4 : Nat) : Int) = -2
    · rw [if_neg (fun y => y.2 z), if_neg (fun y => y.2 z)]
    · rw [if_pos ⟨q, z⟩, if_pos ⟨q, z⟩]
      exact h2 z
  · rw [if_neg (fun y => q y.1), if_neg (fun y => q y.1)]
theorem tX_c {n : Int} {tf x tf' x' : Int → Int → Int} (h : ∀ c s : Int, 0 ≤ c → c < n → 0 ≤ s → s < 4 → tf c s = tf' c s ∧ (tf' c s ≠ -2 → x c s = x' c s)) : tX n tf x = tX n tf' x' := by
  funext e
  unfold tX
  by_cases q : (e : Int) < 4 * n
  · obtain ⟨h1, h2⟩ := h ((e / 4 : Nat) : Int) ((e % 4 : Nat) : Int) (by omega) (by omega) (by omega) (by omega)
    rw [h1]
    by_cases z : tf' ((e / 4 : Nat) : Int) ((e % 4 : Nat) : Int) = -2
    · rw [if_neg (fun y => y.2 z), if_neg (fun y => y.2 z)]
    · rw [if_pos ⟨q, z⟩, if_pos ⟨q, z⟩]
      exact h2 z
  · rw [if_neg (fun y => q y.1), if_neg (fun y => q y.1)]
/-- the reference's tables -/
def yT (w d : Int) (x : Nat → Int32) (k : Int) : Nat → Int := tT (w * d) (laF w d x k) (onF w d)
def yM (w d : Int) (x : Nat → Int32) (k : Int) : Nat → Int := tX (w * d) (laF w d x k) (laF w d x k)
def yF (w d : Int) (x : Nat → Int32) (k : Int) : Nat → Int := tX (w * d) (laF w d x k) (faF w d x k)
def yW (w d : Int) (x : Nat → Int32) (k q : Int) : Nat → Int := tW q (yM w d x k) (yF w d x k)
def qd (q : Int) : Int := if q ≠ 0 then 0 else 1
theorem yW_e {w d : Int} {x : Nat → Int32} {k q : Int} {e : Nat} (ht : yT w d x k e ≠ -1) : ((e : Int) < 4 * (w * d) ∧ laF w d x k ((e / 4 : Nat) : Int) ((e % 4 : Nat) : Int) ≠ -2) ∧ yT w d x k e = onF w d ((e / 4 : Nat) : Int) ((e % 4 : Nat) : Int) ∧ yW w d x k (qd q) e = weF w d x k ((e / 4 : Nat) : Int) ((e % 4 : Nat) : Int) q := by
  have h := tT_o (n := w * d) (tf := laF w d x k) (tg := onF w d) ht
  have eT : yT w d x k e = onF w d ((e / 4 : Nat) : Int) ((e % 4 : Nat) : Int) := by
    show tT (w * d) (laF w d x k) (onF w d) e = _
    unfold tT
    rw [if_pos h]
  have eM : yM w d x k e = laF w d x k ((e / 4 : Nat) : Int) ((e % 4 : Nat) : Int) := tX_o (n := w * d) (tf := laF w d x k) (tg := onF w d) (x := laF w d x k) ht
  have eF : yF w d x k e = faF w d x k ((e / 4 : Nat) : Int) ((e % 4 : Nat) : Int) := tX_o (n := w * d) (tf := laF w d x k) (tg := onF w d) (x := faF w d x k) ht
  refine ⟨h, eT, ?_⟩
  show tW (qd q) (yM w d x k) (yF w d x k) e = _
  by_cases z : q ≠ 0
  · rw [show qd q = 0 from if_pos z]
    unfold tW weF
    rw [if_neg (show ¬ ((0 : Int) ≠ 0) by decide), if_pos z, eM, eF]
  · rw [show qd q = 1 from if_neg z]
    unfold tW weF
    rw [if_pos (show (1 : Int) ≠ 0 by decide), if_neg z, eM, eF]
/-- what is left: 0 at the goal alone -/
def zpI (n to : Int) (L : Nat → Int32) : Prop := (to < n → (L to.toNat).toInt = 0) ∧ ∀ c : Int, 0 ≤ c → c < n → c ≠ to → 0 < (L c.toNat).toInt
theorem zpI_1 {L : Nat → Int32} {i v : Int32} {n m : Int} (h : faI L m) (hn : n ≤ m) (h0 : 0 ≤ i.toInt) (hv : v.toInt = 0) : zpI n i.toInt (upd L i.toNatClampNeg v) := by
  refine ⟨fun _ => ?_, fun c c0 c1 hne => ?_⟩
  · rw [upd_z h0 h0, if_pos rfl]
    exact hv
  · rw [upd_z h0 c0, if_neg hne, h c c0 (by omega)]
    decide
theorem zpI_up {L : Nat → Int32} {i v : Int32} {n to : Int} (h : zpI n to L) (h2 : 0 ≤ to) (h0 : 0 ≤ i.toInt) (h1 : i.toInt < n) (hv : 1 ≤ v.toInt) (hl : v.toInt < (L i.toInt.toNat).toInt) : zpI n to (upd L i.toNatClampNeg v) := by
  refine ⟨fun q => ?_, fun c c0 c1 hne => ?_⟩
  · have e := h.1 q
    rw [upd_z h0 h2]
    by_cases z : to = i.toInt
    · rw [← z] at hl
      omega
    · rw [if_neg z]
      exact e
  · rw [upd_z h0 c0]
    by_cases z : c = i.toInt
    · rw [if_pos z]
      omega
    · rw [if_neg z]
      exact h.2 c c0 c1 hne
/-- what leaves says -/
def wzM (w d : Int) (x : Nat → Int32) (k q to : Int) (L : Nat → Int32) : Prop := 0 ≤ to → to < w * d → wyL (w * d).toNat (yT w d x k) (yW w d x k (qd q)) to.toNat (tI L)
theorem wzM_of {w d k q to : Int} {x L : Nat → Int32} (hw : 0 < w) (hs : supI w d x k q L) (hf : fpI w d x k q L (4 * (w * d))) (hz : zpI (w * d) to L) : wzM w d x k q to L := by
  intro h0 h1
  have hst := st_of hs hf
  refine ⟨⟨by omega, hz.1 h1⟩, fun c hc hne => ?_, fun e he ht => ?_, fun c hc hp hL => ?_⟩
  · have g := hz.2 (c : Int) (by omega) (by omega) (by omega)
    rw [show ((c : Nat) : Int).toNat = c by omega] at g
    exact g
  · obtain ⟨⟨t1, t2⟩, t3, t4⟩ := yW_e (q := q) ht
    rw [t3, t4]
    have g := hf ((e / 4 : Nat) : Int) ((e % 4 : Nat) : Int) (by omega) (by omega) (by omega) (by omega)
    rw [show ((e / 4 : Nat) : Int).toNat = e / 4 by omega] at g
    rcases g with g | g | g
    · exact absurd g t2
    · exact Or.inl g
    · exact Or.inr g
  · have ec : ((c : Nat) : Int).toNat = c := by omega
    have hp' : 0 < (L ((c : Nat) : Int).toNat).toInt := by rw [ec]; exact hp
    have hL' : (L ((c : Nat) : Int).toNat).toInt ≠ 9999999 := by rw [ec]; exact hL
    obtain ⟨s, a0, a1, a2, a3, a4⟩ := hst (c : Int) (by omega) (by omega) hp' hL'
    have hm : (4 * (c : Int) + s).toNat = 4 * c + s.toNat := by omega
    have e1 : (((4 * c + s.toNat) / 4 : Nat) : Int) = (c : Int) := by omega
    have e2 : (((4 * c + s.toNat) % 4 : Nat) : Int) = s := by omega
    have g2 : yT w d x k (4 * c + s.toNat) = onF w d (c : Int) s := by
      have g := tT_y (n := w * d) (tf := laF w d x k) (tg := onF w d) (show 4 * (c : Int) + s = 4 * (c : Int) + s from rfl) (by omega) (by omega) a0 a1 a2
      rw [hm] at g
      exact g
    have ht : yT w d x k (4 * c + s.toNat) ≠ -1 := by
      have o1 := on_bd (s := s) hw (show (0 : Int) ≤ (c : Int) by omega) (show (c : Int) < w * d by omega)
      have o2 := la_on a2
      rw [g2]
      omega
    obtain ⟨-, t3, t4⟩ := yW_e (q := q) ht
    rw [e1, e2] at t3 t4
    rw [ec] at a4
    refine ⟨4 * c + s.toNat, by omega, by omega, ht, ?_, ?_⟩
    · rw [t3]
      exact a3
    · rw [t3, t4]
      exact a4
/-- by copies of the row of sorts -/
theorem yT_cp {w d : Int} {v x : Nat → Int32} {k : Int} (h : cpZ v x 20) (hw : 0 < w) (hb : w * d ≤ 20) : yT w d x k = yT w d v k := tT_c (fun _ _ c0 c1 _ _ => ⟨la_cp h hw c0 c1 hb, fun _ => rfl⟩)
theorem yM_cp {w d : Int} {v x : Nat → Int32} {k : Int} (h : cpZ v x 20) (hw : 0 < w) (hb : w * d ≤ 20) : yM w d x k = yM w d v k := tX_c (fun _ _ c0 c1 _ _ => ⟨la_cp h hw c0 c1 hb, fun _ => la_cp h hw c0 c1 hb⟩)
theorem yF_cp {w d : Int} {v x : Nat → Int32} {k : Int} (h : cpZ v x 20) (hw : 0 < w) (hb : w * d ≤ 20) : yF w d x k = yF w d v k := tX_c (fun _ _ c0 c1 _ _ => ⟨la_cp h hw c0 c1 hb, fun z => by
  rw [← la_cp (k := k) h hw c0 c1 hb] at z
  exact fa_cp h hw c0 c1 hb (la_on z)⟩)
theorem yW_cp {w d : Int} {v x : Nat → Int32} {k q : Int} (h : cpZ v x 20) (hw : 0 < w) (hb : w * d ≤ 20) : yW w d x k q = yW w d v k q := by
  unfold yW
  rw [yM_cp h hw hb, yF_cp h hw hb]
/-- class and reference have one table -/
theorem cT_rT {w d k : Int} {f x : Nat → Int32} (hw : 0 < w) (hk : 0 ≤ k) (hk3 : k ≤ 3) (hf : ∀ j : Nat, (j : Int) < w * d → f j = x j) : cT w (w * d) f k = yT w d x k ∧ cM w (w * d) f k = yM w d x k ∧ cF w (w * d) f k = yF w d x k := by
  have key : ∀ c s : Int, 0 ≤ c → c < w * d → 0 ≤ s → s < 4 → tfZ w (w * d) f k c s = laF w d x k c s ∧ (laF w d x k c s ≠ -2 → tgZ w (w * d) f c s = onF w d c s ∧ flZ w (w * d) f k c s = faF w d x k c s) := fun c s c0 c1 s0 s4 => tf_la hw c0 c1 s0 (by omega) hk hk3 hf
  exact ⟨tT_c (fun c s c0 c1 s0 s4 => ⟨(key c s c0 c1 s0 s4).1, fun z => ((key c s c0 c1 s0 s4).2 z).1⟩), tX_c (fun c s c0 c1 s0 s4 => ⟨(key c s c0 c1 s0 s4).1, fun _ => (key c s c0 c1 s0 s4).1⟩), tX_c (fun c s c0 c1 s0 s4 => ⟨(key c s c0 c1 s0 s4).1, fun z => ((key c s c0 c1 s0 s4).2 z).2⟩)⟩
/-- a STEP by which nothing is lost, as the reference asks -/
def okM (w d : Int) (x : Nat → Int32) (k q : Int) (L : Nat → Int32) (c s : Int) : Prop := laF w d x k c s ≠ -2 ∧ (L (onF w d c s).toNat).toInt ≠ 9999999 ∧ weF w d x k c s q + (L (onF w d c s).toNat).toInt = (L c.toNat).toInt
def nokM (w d : Int) (x : Nat → Int32) (k q : Int) (L : Nat → Int32) (c m : Int) : Prop := ∀ s : Int, 0 ≤ s → s < m → ¬ okM w d x k q L c s
theorem nokM_0 {w d k q c m : Int} {x L : Nat → Int32} (h : m ≤ 0) : nokM w d x k q L c m := fun s h1 h2 => by omega
theorem nokM_s {w d k q c m m1 : Int} {x L : Nat → Int32} (h : nokM w d x k q L c m) (hn : ¬ okM w d x k q L c m) (hm : m1 = m + 1) : nokM w d x k q L c m1 := fun s h1 h2 => by
  rcases (show s < m ∨ s = m by omega) with z | z
  · exact h s h1 z
  · rw [z]
    exact hn
theorem okM_L {w d k q c s : Int} {x L : Nat → Int32} (hw : 0 < w) (c0 : 0 ≤ c) (c1 : c < w * d) (s0 : 0 ≤ s) (s4 : s < 4) : (okM w d x k q L c s ↔ okL (yT w d x k) (yW w d x k (qd q)) (tI L) c.toNat s.toNat) ∧ (laF w d x k c s ≠ -2 → yT w d x k (4 * c.toNat + s.toNat) = onF w d c s) := by
  have hm : (4 * c + s).toNat = 4 * c.toNat + s.toNat := by omega
  have e1 : (((4 * c.toNat + s.toNat) / 4 : Nat) : Int) = c := by omega
  have e2 : (((4 * c.toNat + s.toNat) % 4 : Nat) : Int) = s := by omega
  have g2 : laF w d x k c s ≠ -2 → yT w d x k (4 * c.toNat + s.toNat) = onF w d c s := fun a2 => by
    have g := tT_y (n := w * d) (tf := laF w d x k) (tg := onF w d) (show 4 * c + s = 4 * c + s from rfl) c0 c1 s0 s4 a2
    rw [hm] at g
    exact g
  refine ⟨⟨fun ⟨a1, a2, a3⟩ => ?_, fun ⟨a1, a2, a3⟩ => ?_⟩, g2⟩
  · have ht : yT w d x k (4 * c.toNat + s.toNat) ≠ -1 := by
      have o1 := on_bd (s := s) hw c0 c1
      have o2 := la_on a1
      rw [g2 a1]
      omega
    obtain ⟨-, t3, t4⟩ := yW_e (q := q) ht
    rw [e1, e2] at t3 t4
    refine ⟨ht, ?_, ?_⟩
    · rw [t3]
      exact a2
    · rw [t3, t4]
      exact a3
  · obtain ⟨⟨-, t2⟩, t3, t4⟩ := yW_e (q := q) a1
    rw [e1, e2] at t2 t3 t4
    rw [t3] at a2 a3
    rw [t4] at a3
    exact ⟨t2, a2, a3⟩
theorem fs_M {w d k q c r : Int} {x L : Nat → Int32} (hw : 0 < w) (c0 : 0 ≤ c) (c1 : c < w * d) (r0 : 0 ≤ r) (r4 : r < 4) (h : okM w d x k q L c r) (hn : nokM w d x k q L c r) : fsL (yT w d x k) (yW w d x k (qd q)) (tI L) c.toNat = r.toNat ∧ yT w d x k (4 * c.toNat + r.toNat) = onF w d c r := by
  refine ⟨fsL_of (by omega) ((okM_L hw c0 c1 r0 r4).1.mp h) (fun j hj z => ?_), (okM_L (q := q) (L := L) hw c0 c1 r0 r4).2 h.1⟩
  have ej : ((j : Nat) : Int).toNat = j := by omega
  exact hn (j : Int) (by omega) (by omega) ((okM_L (s := (j : Int)) hw c0 c1 (by omega) (by omega)).1.mpr (by rw [ej]; exact z))
/-- step by step -/
def wsI (w d : Int) (x : Nat → Int32) (k q : Int) (L : Nat → Int32) (c0 i c : Int) : Prop := c = (pcL (yT w d x k) (yW w d x k (qd q)) (tI L) c0.toNat i.toNat : Int)
theorem wsI_0 {w d k q c0 i c : Int} {x L : Nat → Int32} (h0 : 0 ≤ c0) (hi : i = 0) (hc : c = c0) : wsI w d x k q L c0 i c := by
  subst hi hc
  show c = ((c.toNat : Nat) : Int)
  omega
theorem wsI_up {w d k q c0 i i1 c c1 r : Int} {x L : Nat → Int32} (h : wsI w d x k q L c0 i c) (hw : 0 < w) (h0 : 0 ≤ i) (hc : 0 ≤ c) (hc1 : c < w * d) (hp : 0 < (L c.toNat).toInt) (r0 : 0 ≤ r) (r4 : r < 4) (hr : okM w d x k q L c r) (hn : nokM w d x k q L c r) (e : c1 = onF w d c r) (hi : i1 = i + 1) : wsI w d x k q L c0 i1 c1 := by
  unfold wsI at h ⊢
  obtain ⟨g1, g2⟩ := fs_M hw hc hc1 r0 r4 hr hn
  have o1 := on_bd (s := r) hw hc hc1
  have o2 := la_on hr.1
  have ec : pcL (yT w d x k) (yW w d x k (qd q)) (tI L) c0.toNat i.toNat = c.toNat := by omega
  have hp' : 0 < tI L c.toNat := hp
  rw [show i1.toNat = i.toNat + 1 by omega, pcL_s, ec, if_pos hp', g1, g2]
  omega
/-- the reference's answers -/
def qkM (wk w d : Int) (v kd tof : Nat → Int32) (p q fi r : Int) : Prop := ((p < 0 ∨ wk ≤ p) ∧ r = -1) ∨ ((0 ≤ p ∧ p < wk) ∧ (0 ≤ (tof p.toNat).toInt → (tof p.toNat).toInt < w * d → ∃ L : Nat → Int, wyL (w * d).toNat (yT w d v (kd p.toNat).toInt) (yW w d v (kd p.toNat).toInt q) (tof p.toNat).toInt.toNat L ∧ r = wyV fi (L (v (20 + p.toNat)).toInt.toNat)))
theorem qkM_no {wk w d p q fi r : Int} {v kd tof : Nat → Int32} (h : p < 0 ∨ wk ≤ p) (hr : r = -1) : qkM wk w d v kd tof p q fi r := Or.inl ⟨h, hr⟩
theorem wzM_cp {w d k q to : Int} {v x L : Nat → Int32} (hl : wzM w d x k q to L) (hcp : cpZ v x 20) (hw : 0 < w) (hb : w * d ≤ 20) : wzM w d v k q to L := fun h0 h1 => by
  have h := hl h0 h1
  rw [yT_cp hcp hw hb, yW_cp hcp hw hb] at h
  exact h
theorem wyV_of {fi l r : Int} (h : (l = 9999999 ∧ r = -2) ∨ (l ≠ 9999999 ∧ fi ≠ 0 ∧ r = l / 1000) ∨ (l ≠ 9999999 ∧ fi = 0 ∧ r = l % 1000)) : r = wyV fi l := by
  unfold wyV
  rcases h with ⟨h1, h2⟩ | ⟨h1, h2, h3⟩ | ⟨h1, h2, h3⟩
  · rw [if_pos h1]; exact h2
  · rw [if_neg h1, if_pos h2]; exact h3
  · rw [if_neg h1, if_neg (fun z => z h2)]; exact h3
theorem n20 {p : Int} (h : 0 ≤ p) : Int.toNat (20 + p) = 20 + p.toNat := by omega
theorem qkM_of {wk w d p q fi r wt : Int} {v x kd tof L : Nat → Int32} (h0 : 0 ≤ p) (h1 : p < wk) (hw : 0 < w) (hb : w * d ≤ 20) (hcp : cpZ v x 20) (hl : wzM w d x (kd p.toNat).toInt q (tof p.toNat).toInt L) (hwt : wt = (L (v (Int.toNat (20 + p))).toInt.toNat).toInt) (hr : (wt = 9999999 ∧ r = -2) ∨ (wt ≠ 9999999 ∧ fi ≠ 0 ∧ r = wt / 1000) ∨ (wt ≠ 9999999 ∧ fi = 0 ∧ r = wt % 1000)) : qkM wk w d v kd tof p (qd q) fi r := by
  refine Or.inr ⟨⟨h0, h1⟩, fun t0 t1 => ⟨tI L, wzM_cp hl hcp hw hb t0 t1, ?_⟩⟩
  rw [n20 h0] at hwt
  have h9 := wyV_of hr
  rw [hwt] at h9
  exact h9
def qaM (wk w d : Int) (v kd tof : Nat → Int32) (p i q r : Int) : Prop := ((p < 0 ∨ wk ≤ p ∨ i < 0) ∧ r = -1) ∨ ((0 ≤ p ∧ p < wk ∧ 0 ≤ i) ∧ (0 ≤ (tof p.toNat).toInt → (tof p.toNat).toInt < w * d → ∃ L : Nat → Int, wyL (w * d).toNat (yT w d v (kd p.toNat).toInt) (yW w d v (kd p.toNat).toInt q) (tof p.toNat).toInt.toNat L ∧ r = waV (yT w d v (kd p.toNat).toInt) (yW w d v (kd p.toNat).toInt q) L (v (20 + p.toNat)).toInt.toNat i))
theorem qaM_no {wk w d p i q r : Int} {v kd tof : Nat → Int32} (h : p < 0 ∨ wk ≤ p ∨ i < 0) (hr : r = -1) : qaM wk w d v kd tof p i q r := Or.inl ⟨h, hr⟩
theorem qaM_far {wk w d p i q r wt : Int} {v x kd tof L : Nat → Int32} (h0 : 0 ≤ p) (h1 : p < wk) (hi : 0 ≤ i) (hw : 0 < w) (hb : w * d ≤ 20) (hcp : cpZ v x 20) (hl : wzM w d x (kd p.toNat).toInt q (tof p.toNat).toInt L) (hwt : wt = (L (v (Int.toNat (20 + p))).toInt.toNat).toInt) (hf : wt = 9999999) (hr : r = -1) : qaM wk w d v kd tof p i (qd q) r := by
  refine Or.inr ⟨⟨h0, h1, hi⟩, fun t0 t1 => ⟨tI L, wzM_cp hl hcp hw hb t0 t1, ?_⟩⟩
  rw [n20 h0] at hwt
  unfold waV
  rw [if_pos (Or.inl (show tI L (v (20 + p.toNat)).toInt.toNat = 9999999 from hwt.symm.trans hf))]
  exact hr
/-- behind the walk along it: c is where it has come to, k STEPS on -/
theorem qaM_of {wk w d p i q r r2 k c c0 : Int} {v x kd tof L : Nat → Int32} (h0 : 0 ≤ p) (h1 : p < wk) (hi : 0 ≤ i) (hw : 0 < w) (hb : w * d ≤ 20) (hcp : cpZ v x 20) (hl : wzM w d x (kd p.toNat).toInt q (tof p.toNat).toInt L) (hc0 : (v (Int.toNat (20 + p))).toInt = c0) (hf : (L c0.toNat).toInt ≠ 9999999) (hs : wsI w d x (kd p.toNat).toInt q L c0 k c) (hk0 : 0 ≤ k) (hki : k ≤ i) (hc : 0 ≤ c) (hc1 : c < w * d) (hr : ((L c.toNat).toInt ≤ 0 ∧ r = -1) ∨ (0 < (L c.toNat).toInt ∧ k = i ∧ r = r2 ∧ 0 ≤ r2 ∧ r2 < 4 ∧ okM w d x (kd p.toNat).toInt q L c r2 ∧ nokM w d x (kd p.toNat).toInt q L c r2)) : qaM wk w d v kd tof p i (qd q) r := by
  refine Or.inr ⟨⟨h0, h1, hi⟩, fun t0 t1 => ⟨tI L, wzM_cp hl hcp hw hb t0 t1, ?_⟩⟩
  rw [n20 h0] at hc0
  rw [hc0]
  rw [← yT_cp (k := (kd p.toNat).toInt) hcp hw hb, ← yW_cp (k := (kd p.toNat).toInt) (q := qd q) hcp hw hb]
  unfold wsI at hs
  have ec : pcL (yT w d x (kd p.toNat).toInt) (yW w d x (kd p.toNat).toInt (qd q)) (tI L) c0.toNat k.toNat = c.toNat := by omega
  unfold waV
  rcases hr with ⟨z1, z2⟩ | ⟨z1, z2, z7, z3, z4, z5, z6⟩
  · have e := pcL_st (T := yT w d x (kd p.toNat).toInt) (W := yW w d x (kd p.toNat).toInt (qd q)) (L := tI L) (c0 := c0.toNat) (k := k.toNat) (by rw [ec]; exact Int.not_lt.mpr z1) (i.toNat - k.toNat)
    rw [show k.toNat + (i.toNat - k.toNat) = i.toNat by omega, ec] at e
    rw [if_pos (Or.inr (Or.inr (by rw [e]; exact Int.not_lt.mpr z1)))]
    exact z2
  · subst z2
    have hn : ¬ (tI L c0.toNat = 9999999 ∨ k < 0 ∨ ¬ 0 < tI L (pcL (yT w d x (kd p.toNat).toInt) (yW w d x (kd p.toNat).toInt (qd q)) (tI L) c0.toNat k.toNat)) := by
      intro y9
      rcases y9 with y | y | y
      · exact hf y
      · omega
      · rw [ec] at y
        exact y z1
    rw [if_neg hn, ec, (fs_M hw hc hc1 z3 z4 z5 z6).1, z7]
    omega
/-- minutes from where a walker is: supported, at rest -/
def spF (w d : Int) (x : Nat → Int32) (k : Int) (F : Nat → Int32) : Prop := ∀ c : Int, 0 ≤ c → c < w * d → 0 < (F c.toNat).toInt → (F c.toNat).toInt ≠ 9999999 → ∃ c' s : Int, (0 ≤ c' ∧ c' < w * d ∧ 0 ≤ s ∧ s < 4) ∧ laF w d x k c' s ≠ -2 ∧ onF w d c' s = c ∧ (F c'.toNat).toInt ≠ 9999999 ∧ (F c'.toNat).toInt + laF w d x k c' s ≤ (F c.toNat).toInt
def fpF (w d : Int) (x : Nat → Int32) (k : Int) (F : Nat → Int32) (n : Int) : Prop := ∀ c s : Int, 0 ≤ c → 0 ≤ s → s < 4 → 4 * c + s < n → (F c.toNat).toInt = 9999999 ∨ laF w d x k c s = -2 ∨ (F (onF w d c s).toNat).toInt ≤ (F c.toNat).toInt + laF w d x k c s
theorem fpF_0 {w d k n : Int} {x F : Nat → Int32} (h : n ≤ 0) : fpF w d x k F n := fun c s c0 s0 s4 hn => by omega
theorem fpF_le {w d k n n' : Int} {x F : Nat → Int32} (h : fpF w d x k F n) (e : n' ≤ n) : fpF w d x k F n' := fun c s c0 s0 s4 hn => h c s c0 s0 s4 (by omega)
theorem fpF_up {w d k n n' : Int} {x F : Nat → Int32} (h : fpF w d x k F n) (c s : Int) (hn : n = 4 * c + s) (hn' : n' = 4 * c + s + 1) (s0 : 0 ≤ s) (s4 : s < 4) (hs : laF w d x k c s = -2 ∨ (F (onF w d c s).toNat).toInt ≤ (F c.toNat).toInt + laF w d x k c s) : fpF w d x k F n' := by
  intro c1 s1 h1 h2 h3 h5
  by_cases he : 4 * c1 + s1 = 4 * c + s
  · obtain rfl : c1 = c := by omega
    obtain rfl : s1 = s := by omega
    exact Or.inr hs
  · exact h c1 s1 h1 h2 h3 (by omega)
theorem fpF_sk {w d k n n' : Int} {x F : Nat → Int32} (h : fpF w d x k F n) (c s : Int) (hn : n = 4 * c + s) (hn' : n' = 4 * (c + 1)) (s0 : 0 ≤ s) (s4 : s ≤ 4) (hf : 9999999 ≤ (F c.toNat).toInt) (hb : (F c.toNat).toInt ≤ 9999999) : fpF w d x k F n' := by
  intro c1 s1 h1 h2 h3 h5
  by_cases he : c1 = c
  · rw [he]
    exact Or.inl (by omega)
  · exact h c1 s1 h1 h2 h3 (by omega)
theorem spF_1 {w d k m : Int} {x F : Nat → Int32} (h : faI F m) (hn : w * d ≤ m) {i v : Int32} (h0 : 0 ≤ i.toInt) (hv : v.toInt = 0) : spF w d x k (upd F i.toNatClampNeg v) := by
  intro c c0 c1 h2 h3
  rw [upd_z h0 c0] at h2 h3
  by_cases z : c = i.toInt
  · rw [if_pos z] at h2
    omega
  · rw [if_neg z] at h3
    exact absurd (h c c0 (by omega)) h3
theorem spF_up {w d k c s : Int} {x F : Nat → Int32} {i v : Int32} (h : spF w d x k F) (hw : 0 < w) (c0 : 0 ≤ c) (c1 : c < w * d) (s0 : 0 ≤ s) (s4 : s < 4) (hl : laF w d x k c s ≠ -2) (hi : i.toInt = onF w d c s) (hf : (F c.toNat).toInt ≠ 9999999) (hv : v.toInt = (F c.toNat).toInt + laF w d x k c s) (hlt : v.toInt < (F i.toInt.toNat).toInt) (hb : (F i.toInt.toNat).toInt ≤ 9999999) : spF w d x k (upd F i.toNatClampNeg v) := by
  have o1 := on_bd (s := s) hw c0 c1
  have o2 := la_on hl
  have o3 := la_bd w d x k c s
  have h0 : 0 ≤ i.toInt := by omega
  intro a a0 a1 h2 h3
  rw [upd_z h0 a0] at h2 h3 ⊢
  by_cases z : a = i.toInt
  · have hne : ¬ c = i.toInt := fun y => by
      rw [← y] at hlt
      omega
    refine ⟨c, s, ⟨c0, c1, s0, s4⟩, hl, by omega, ?_, ?_⟩
    · rw [upd_z h0 c0, if_neg hne]
      exact hf
    · rw [upd_z h0 c0, if_neg hne, if_pos z]
      omega
  · rw [if_neg z] at h2 h3 ⊢
    obtain ⟨c', s', ⟨b0, b1, b2, b3⟩, b4, b5, b6, b7⟩ := h a a0 a1 h2 h3
    refine ⟨c', s', ⟨b0, b1, b2, b3⟩, b4, b5, ?_, ?_⟩
    · rw [upd_z h0 b0]
      by_cases y : c' = i.toInt
      · rw [if_pos y]
        omega
      · rw [if_neg y]
        exact b6
    · rw [upd_z h0 b0]
      by_cases y : c' = i.toInt
      · rw [if_pos y]
        subst y
        omega
      · rw [if_neg y]
        exact b7
theorem wfL_of {w d k fr : Int} {x F : Nat → Int32} (hw : 0 < w) (h0 : 0 ≤ fr) (h1 : fr < w * d) (hs : spF w d x k F) (hf : fpF w d x k F (4 * (w * d))) (hz : zpI (w * d) fr F) : wfL (w * d).toNat (yT w d x k) (yM w d x k) fr.toNat (tI F) := by
  have key : ∀ e : Nat, yT w d x k e ≠ -1 → ((e : Int) < 4 * (w * d) ∧ laF w d x k ((e / 4 : Nat) : Int) ((e % 4 : Nat) : Int) ≠ -2) ∧ yT w d x k e = onF w d ((e / 4 : Nat) : Int) ((e % 4 : Nat) : Int) ∧ yM w d x k e = laF w d x k ((e / 4 : Nat) : Int) ((e % 4 : Nat) : Int) := fun e ht => by
    obtain ⟨t1, t2, -⟩ := yW_e (q := 0) ht
    exact ⟨t1, t2, tX_o (n := w * d) (tf := laF w d x k) (tg := onF w d) (x := laF w d x k) ht⟩
  refine ⟨⟨by omega, hz.1 h1⟩, fun c hc hne => ?_, fun e he ht => ?_, fun c hc hp hL => ?_⟩
  · have g := hz.2 (c : Int) (by omega) (by omega) (by omega)
    rw [show ((c : Nat) : Int).toNat = c by omega] at g
    exact g
  · obtain ⟨⟨t1, t2⟩, t3, t4⟩ := key e ht
    rw [t3, t4]
    have g := hf ((e / 4 : Nat) : Int) ((e % 4 : Nat) : Int) (by omega) (by omega) (by omega) (by omega)
    rw [show ((e / 4 : Nat) : Int).toNat = e / 4 by omega] at g
    rcases g with g | g | g
    · exact Or.inl g
    · exact absurd g t2
    · exact Or.inr g
  · have ec : ((c : Nat) : Int).toNat = c := by omega
    have hp' : 0 < (F ((c : Nat) : Int).toNat).toInt := by rw [ec]; exact hp
    have hL' : (F ((c : Nat) : Int).toNat).toInt ≠ 9999999 := by rw [ec]; exact hL
    obtain ⟨c', s, ⟨b0, b1, b2, b3⟩, b4, b5, b6, b7⟩ := hs (c : Int) (by omega) (by omega) hp' hL'
    have b8 := hf c' s b0 b2 b3 (by omega)
    have o3 := la_bd w d x k c' s
    rw [b5, ec] at b8
    rw [ec] at b7
    have hm : (4 * c' + s).toNat = 4 * c'.toNat + s.toNat := by omega
    have e1 : (((4 * c'.toNat + s.toNat) / 4 : Nat) : Int) = c' := by omega
    have e2 : (((4 * c'.toNat + s.toNat) % 4 : Nat) : Int) = s := by omega
    have e3 : (4 * c'.toNat + s.toNat) / 4 = c'.toNat := by omega
    have g2 : yT w d x k (4 * c'.toNat + s.toNat) = onF w d c' s := by
      have g := tT_y (n := w * d) (tf := laF w d x k) (tg := onF w d) (show 4 * c' + s = 4 * c' + s from rfl) b0 b1 b2 b3 b4
      rw [hm] at g
      exact g
    have ht : yT w d x k (4 * c'.toNat + s.toNat) ≠ -1 := by
      rw [g2, b5]
      omega
    obtain ⟨-, -, t4⟩ := key _ ht
    rw [e1, e2] at t4
    refine ⟨4 * c'.toNat + s.toNat, by omega, ht, ?_, ?_, ?_⟩
    · rw [g2, b5]
      exact ec
    · rw [e3]
      exact b6
    · rw [e3, t4]
      show (F c'.toNat).toInt + laF w d x k c' s = (F c).toInt
      omega
/-- what comes says: from the place where a walker is -/
def cmM (w d : Int) (x v : Nat → Int32) (k p : Int) (F : Nat → Int32) : Prop := wfL (w * d).toNat (yT w d x k) (yM w d x k) (v (Int.toNat (20 + p))).toInt.toNat (tI F)
theorem cmM_of {w d k p fr : Int} {x v F : Nat → Int32} (hv : (v (Int.toNat (20 + p))).toInt = fr) (hw : 0 < w) (h0 : 0 ≤ fr) (h1 : fr < w * d) (hs : spF w d x k F) (hf : fpF w d x k F (4 * (w * d))) (hz : zpI (w * d) fr F) : cmM w d x v k p F := by
  unfold cmM
  rw [hv]
  exact wfL_of hw h0 h1 hs hf hz
/-- there is a row of what is left -/
theorem lv_ex {w d k q to : Int} {x : Nat → Int32} (hw : 0 < w) (hb : w * d ≤ 20) (t0 : 0 ≤ to) : ∀ (m : Nat) (L : Nat → Int32), rb L 20 0 9999999 → supI w d x k q L → zpI (w * d) to L → sm L 20 < (m : Int) → ∃ L' : Nat → Int32, supI w d x k q L' ∧ fpI w d x k q L' (4 * (w * d)) ∧ zpI (w * d) to L'
  | 0, L, hr, _, _, hm => by
    have := sm_b20 hr
    omega
  | m + 1, L, hr, hs, hz, hm => by
    by_cases hf : fpI w d x k q L (4 * (w * d))
    · exact ⟨L, hs, hf, hz⟩
    · have hv : ∃ c s : Int, 0 ≤ c ∧ 0 ≤ s ∧ s < 4 ∧ 4 * c + s < 4 * (w * d) ∧ laF w d x k c s ≠ -2 ∧ (L (onF w d c s).toNat).toInt ≠ 9999999 ∧ weF w d x k c s q + (L (onF w d c s).toNat).toInt < (L c.toNat).toInt := Classical.byContradiction (fun hne => hf (fun c s c0 s0 s4 hn => by
        by_cases z1 : laF w d x k c s = -2
        · exact Or.inl z1
        · by_cases z2 : (L (onF w d c s).toNat).toInt = 9999999
          · exact Or.inr (Or.inl z2)
          · by_cases z3 : (L c.toNat).toInt ≤ weF w d x k c s q + (L (onF w d c s).toNat).toInt
            · exact Or.inr (Or.inr z3)
            · exact absurd ⟨c, s, c0, s0, s4, hn, z1, z2, by omega⟩ hne))
      obtain ⟨c, s, c0, s0, s4, hn, z1, z2, z3⟩ := hv
      have o1 := on_bd (s := s) hw c0 (show c < w * d by omega)
      have o2 := la_on z1
      have o3 := we_bd q z1
      have r1 := hr (onF w d c s).toNat (by omega)
      have r2 := hr c.toNat (by omega)
      have ei : (Int32.ofInt c).toInt = c := Int32.toInt_ofInt_of_le (by omega) (by omega)
      have ev : (Int32.ofInt (weF w d x k c s q + (L (onF w d c s).toNat).toInt)).toInt = weF w d x k c s q + (L (onF w d c s).toNat).toInt := Int32.toInt_ofInt_of_le (by omega) (by omega)
      have i0 : 0 ≤ (Int32.ofInt c).toInt := by omega
      have i1 : (Int32.ofInt c).toInt < w * d := by omega
      have hlt : (Int32.ofInt (weF w d x k c s q + (L (onF w d c s).toNat).toInt)).toInt < (L (Int32.ofInt c).toInt.toNat).toInt := by
        rw [ei, ev]
        exact z3
      have hsm := sm_lt (f := L) i0 (by omega) hlt
      refine lv_ex hw hb t0 m _ (rb_upd hr (by omega) (by omega)) (sup_up (s := s) hw hb hs hr i0 i1 s0 s4 (by rw [ei]; exact z1) (by rw [ei]; exact z2) (by rw [ei]; exact ev) hlt) (zpI_up hz t0 i0 i1 (by omega) hlt) (by omega)
theorem wyL_ex {w d k to : Int} {x : Nat → Int32} (hw : 0 < w) (hb : w * d ≤ 20) (t0 : 0 ≤ to) (t1 : to < w * d) : ∃ L : Nat → Int, wyL (w * d).toNat (yT w d x k) (yW w d x k 0) to.toNat L := by
  have et : (Int32.ofInt to).toInt = to := Int32.toInt_ofInt_of_le (by omega) (by omega)
  have hfa : faI (fun _ => (9999999 : Int32)) 20 := fun c _ _ => (show (9999999 : Int32).toInt = 9999999 by decide)
  have hr0 : rb (fun _ => (9999999 : Int32)) 20 0 9999999 := fun j _ => (show (0 : Int) ≤ (9999999 : Int32).toInt ∧ (9999999 : Int32).toInt ≤ 9999999 by decide)
  have hz := zpI_1 (n := w * d) (i := Int32.ofInt to) (v := 0) hfa hb (by omega) (by decide)
  rw [et] at hz
  have hr1 := rb_upd (j := Int32.toNatClampNeg (Int32.ofInt to)) (v := 0) hr0 (by decide) (by decide)
  have hsb := sm_b20 hr1
  obtain ⟨L, l1, l2, l3⟩ := lv_ex (k := k) (q := 1) (x := x) hw hb t0 200000000 _ hr1 (sup_1 hfa hb (by omega) (by decide)) hz (by omega)
  exact ⟨tI L, wzM_of (q := 1) hw l1 l2 l3 t0 t1⟩
/-- the one with most minutes, in the reference -/
def ltU (v : Nat → Int32) (Ls : Nat → Nat → Int) (j : Nat) : Int := wyV 1 (Ls j (v (20 + j)).toInt.toNat)
/-- the reference's search for the i-th walker without a way -/
def ldJ (w d : Int) (x kd tof v : Nat → Int32) (i0 k b : Int) : Prop := ∃ Ls : Nat → Nat → Int, (∀ j : Nat, (j : Int) < k → 0 ≤ (tof j).toInt → (tof j).toInt < w * d → wyL (w * d).toNat (yT w d x (kd j).toInt) (yW w d x (kd j).toInt 0) (tof j).toInt.toNat (Ls j)) ∧ b = ldN (ltU v Ls) k.toNat ∧ ldT (ltU v Ls) i0 k
theorem ldJ_0 {w d i0 k b : Int} {x kd tof v : Nat → Int32} (hk : k = 0) (hb : b = 0) : ldJ w d x kd tof v i0 k b := by
  subst hk hb
  exact ⟨fun _ _ => 0, fun j hj => by omega, rfl, fun j hj => by omega⟩
/-- one row more -/
theorem ldL_up {w d k q wt : Int} {x kd tof v L : Nat → Int32} {Ls : Nat → Nat → Int} (h1 : ∀ j : Nat, (j : Int) < k → 0 ≤ (tof j).toInt → (tof j).toInt < w * d → wyL (w * d).toNat (yT w d x (kd j).toInt) (yW w d x (kd j).toInt 0) (tof j).toInt.toNat (Ls j)) (h0 : 0 ≤ k) (hq : qd q = 0) (hl : wzM w d x (kd k.toNat).toInt q (tof k.toNat).toInt L) (hwt : wt = (L (v (Int.toNat (20 + k))).toInt.toNat).toInt) : ∃ Ls' : Nat → Nat → Int, (∀ j : Nat, (j : Int) < k + 1 → 0 ≤ (tof j).toInt → (tof j).toInt < w * d → wyL (w * d).toNat (yT w d x (kd j).toInt) (yW w d x (kd j).toInt 0) (tof j).toInt.toNat (Ls' j)) ∧ (∀ j : Nat, j < k.toNat → ltU v Ls' j = ltU v Ls j) ∧ ltU v Ls' k.toNat = wyV 1 wt := by
  rw [n20 h0] at hwt
  have hs : (if k.toNat = k.toNat then tI L else Ls k.toNat) = tI L := if_pos rfl
  refine ⟨fun j => if j = k.toNat then tI L else Ls j, fun j hj t0 t1 => ?_, fun j hj => ?_, ?_⟩
  · rcases (show (j : Int) < k ∨ j = k.toNat by omega) with z | z
    · show wyL _ _ _ _ (if j = k.toNat then tI L else Ls j)
      rw [if_neg (show ¬ j = k.toNat by omega)]
      exact h1 j z t0 t1
    · show wyL _ _ _ _ (if j = k.toNat then tI L else Ls j)
      rw [if_pos z]
      rw [z] at t0 t1 ⊢
      have g := hl t0 t1
      rw [hq] at g
      exact g
  · show wyV 1 ((if j = k.toNat then tI L else Ls j) (v (20 + j)).toInt.toNat) = wyV 1 (Ls j (v (20 + j)).toInt.toNat)
    rw [if_neg (show ¬ j = k.toNat by omega)]
  · show wyV 1 ((if k.toNat = k.toNat then tI L else Ls k.toNat) (v (20 + k.toNat)).toInt.toNat) = wyV 1 wt
    rw [hs, hwt]
    rfl
theorem wyV_far {wt : Int} (h0 : 0 ≤ wt) : wyV 1 wt = -2 ↔ wt = 9999999 := by
  unfold wyV
  by_cases y : wt = 9999999
  · rw [if_pos y]
    exact ⟨fun _ => y, fun _ => rfl⟩
  · rw [if_neg y, if_pos (show (1 : Int) ≠ 0 by decide)]
    exact ⟨fun z => by omega, fun z => absurd z y⟩
theorem ldJ_up {w d i0 k k1 b b1 q wt : Int} {x kd tof v L : Nat → Int32} (h : ldJ w d x kd tof v i0 k b) (h0 : 0 ≤ k) (hw0 : 0 ≤ wt) (hq : qd q = 0) (hl : wzM w d x (kd k.toNat).toInt q (tof k.toNat).toInt L) (hwt : wt = (L (v (Int.toNat (20 + k))).toInt.toNat).toInt) (hr : (wt ≠ 9999999 ∧ b1 = b) ∨ (wt = 9999999 ∧ b ≠ i0 ∧ b1 = b + 1)) (hk : k1 = k + 1) : ldJ w d x kd tof v i0 k1 b1 := by
  obtain ⟨Ls, g1, g2, g3⟩ := h
  obtain ⟨Ls', p1, p2, p3⟩ := ldL_up g1 h0 hq hl hwt
  have hN : ldN (ltU v Ls') k.toNat = ldN (ltU v Ls) k.toNat := ldN_c _ p2
  have hT : ldT (ltU v Ls') i0 k := ldT_c (fun j hj => (p2 j (by omega)).symm) g3
  refine ⟨Ls', fun j hj => p1 j (by omega), ?_, fun j hj hu => ?_⟩
  · rw [show k1.toNat = k.toNat + 1 by omega, ldN_s, p3, hN, ← g2]
    rcases hr with ⟨z1, z2⟩ | ⟨z1, z2, z3⟩
    · rw [if_neg (fun y => z1 ((wyV_far hw0).mp y))]
      omega
    · rw [if_pos ((wyV_far hw0).mpr z1)]
      exact z3
  · by_cases z : j = k.toNat
    · rw [z, p3] at hu
      rw [z, hN, ← g2]
      rcases hr with ⟨z1, z2⟩ | ⟨z1, z2, z3⟩
      · exact absurd ((wyV_far hw0).mp hu) z1
      · exact z2
    · exact hT j (by omega) hu
def ldM (wk w d : Int) (v kd tof : Nat → Int32) (i0 th r : Int) : Prop := ∃ Ls : Nat → Nat → Int, (∀ j : Nat, (j : Int) < wk → 0 ≤ (tof j).toInt → (tof j).toInt < w * d → wyL (w * d).toNat (yT w d v (kd j).toInt) (yW w d v (kd j).toInt 0) (tof j).toInt.toNat (Ls j)) ∧ ldO (ltU v Ls) wk i0 th r
theorem ldM_t {wk w d i0 k b th r : Int} {v x kd tof : Nat → Int32} (hw : 0 < w) (hb : w * d ≤ 20) (hcp : cpZ v x 20) (h : ldJ w d x kd tof v i0 k b) (hk : k = wk) (ht : th = 1) : ldM wk w d v kd tof i0 th r := by
  obtain ⟨Ls, h1, h2, h3⟩ := h
  subst hk
  refine ⟨Ls, fun j hj t0 t1 => ?_, Or.inr ⟨ht, h3⟩⟩
  have g := h1 j hj t0 t1
  rw [yT_cp hcp hw hb, yW_cp hcp hw hb] at g
  exact g
theorem ldM_r {wk w d i0 k b th r q wt : Int} {v x kd tof L : Nat → Int32} (hw : 0 < w) (hb : w * d ≤ 20) (hcp : cpZ v x 20) (h : ldJ w d x kd tof v i0 k b) (h0 : 0 ≤ k) (h1 : k < wk) (hq : qd q = 0) (hl : wzM w d x (kd k.toNat).toInt q (tof k.toNat).toInt L) (hwt : wt = (L (v (Int.toNat (20 + k))).toInt.toNat).toInt) (hf : wt = 9999999) (hi : b = i0) (hr : r = k) (ht : th = 0) : ldM wk w d v kd tof i0 th r := by
  obtain ⟨Ls, g1, g2, g3⟩ := h
  obtain ⟨Ls', p1, p2, p3⟩ := ldL_up g1 h0 hq hl hwt
  have hE : ∀ j : Nat, ∃ L' : Nat → Int, 0 ≤ (tof j).toInt → (tof j).toInt < w * d → wyL (w * d).toNat (yT w d v (kd j).toInt) (yW w d v (kd j).toInt 0) (tof j).toInt.toNat L' := fun j => by
    by_cases t : 0 ≤ (tof j).toInt ∧ (tof j).toInt < w * d
    · obtain ⟨L', l⟩ := wyL_ex (k := (kd j).toInt) (x := v) hw hb t.1 t.2
      exact ⟨L', fun _ _ => l⟩
    · exact ⟨fun _ => 0, fun t0 t1 => absurd ⟨t0, t1⟩ t⟩
  have hu : ∀ j : Nat, j < k.toNat + 1 → ltU v (fun j => if j < k.toNat + 1 then Ls' j else Classical.choose (hE j)) j = ltU v Ls' j := fun j hj => by
    show wyV 1 ((if j < k.toNat + 1 then Ls' j else Classical.choose (hE j)) (v (20 + j)).toInt.toNat) = wyV 1 (Ls' j (v (20 + j)).toInt.toNat)
    rw [if_pos hj]
  refine ⟨fun j => if j < k.toNat + 1 then Ls' j else Classical.choose (hE j), fun j hj t0 t1 => ?_, Or.inl ⟨ht, ⟨by omega, by omega⟩, ?_, ?_⟩⟩
  · show wyL _ _ _ _ (if j < k.toNat + 1 then Ls' j else Classical.choose (hE j))
    by_cases z : j < k.toNat + 1
    · rw [if_pos z]
      have g := p1 j (by omega) t0 t1
      rw [yT_cp hcp hw hb, yW_cp hcp hw hb] at g
      exact g
    · rw [if_neg z]
      exact Classical.choose_spec (hE j) t0 t1
  · rw [hr, hu _ (by omega), p3]
    exact (wyV_far (by omega)).mpr hf
  · rw [hr, ldN_c _ (fun j hj => (hu j (by omega)).trans (p2 j hj)), ← g2]
    exact hi
section Ve
variable {p : Program} {l : Launch} {e : Env} {R : Room} {s : State} {m : MethodId} {args : Array Value} {below : List Frame} {meth : Method} {c : Code} {H : Heap} {locs : List Loc} {cells slots : Nat} {Q : State → Prop}
variable {cc : ByteArray} {pc nL : Nat} {ls : Array Slot} {rest : List Value} {own : String} {dC : Nat → ClassId} {dI : Nat → Nat → Nat} {cy : Nat → ClassId} {ex ex0 : exT} {ws : va_W} {A : Nat → Prop} {a ci idx N : Nat} {C : String} {T : u_T} {fs : List Value} {ty0 : Nat → FieldType} {v : Value}
variable {y : MethodName} {bytes : ByteArray} {maxL n b : Nat} {ret : Option FieldType} {rm : Room} {Qc : (Nat → Prop) → Array Value → State → Outcome → State → Prop} {As st : List Value} {wc wr : va_W} {lv : List (Nat × Value)}
theorem rVe_V {S : Type} {post : S → Prop} {w1 : S → va_W} (X : fx p s m c cc nL args own dC dI cy ex0 A) (hst : stb ex) (hxe : ex A s s.heap) (hM : ctV l dC dI cy ex y bytes maxL rm (.ref b :: As) wc post w1) (km : mOK y bytes maxL none n) (kv : Cond.instanceMethod y ∈ wsU ∧ Cond.selects y.cls y y ∈ wsU) (lk : mLk own idx y) (hP : va_P (dC, dI) vwCl ws H) (hD : va_D A ws) (hS : va_S A s.heap H locs) (hA : ∀ q, s.heap.size ≤ q → A q) (isC : List Nat) (hnd : va_nd isC = true) (hC : isC.map (fun i => ws[i]?) = wc.map some) (q0 : Nat) {q : vw_C} (hq : wc[q0]? = some (b, .inr (ci, fs))) (hc : vwCl[ci]? = some q) (hq1 : q.1 = y.cls) (hl : lv_has ls nL lv) (hn : As.length = n) (hst0 : st = As.reverse ++ .ref b :: rest) (hcat : (rest.map fun v => v.category).sum ≤ 8) (hdg : decode cc pc = .ok (.invokevirtual idx, 3))
    (hR : rm.frames + 1 ≤ R.frames ∧ 8 + (maxL + 11) + rm.locals ≤ R.locals) (hf : cells + rm.cells ≤ R.cells ∧ slots + rm.slots ≤ R.slots) :
    va_Run p l e R s m args below meth c H locs cells slots rm.cells rm.slots (F0 m pc ls st) rest (va_Qv post (qS dC dI (va_A wc H.size) w1) (va_A wc H.size) (Value.ref b :: As).toArray) (va_A wc H.size) :=
  rVe (Qc := fun A => va_Qv post (qS dC dI A w1) A) X hst hxe hM km kv lk hP hD hS hA isC hnd hC q0 hq hc hq1 hl hn hst0 hcat hdg hR hf
end Ve
theorem z_cmp {a : Int64} {x : Int32} (e : x = lg_cmp a 0) (h : x.toInt = 0) : a = 0 := by
  rw [e] at h
  unfold lg_cmp at h
  split at h
  · exact absurd h (by decide)
  · split at h
    · assumption
    · exact absurd h (by decide)
