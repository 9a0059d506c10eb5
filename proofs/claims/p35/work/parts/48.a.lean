/-- behind the bytes from lo to hi that stand together -/
def rnN (f : Nat → Int32) (n lo hi : Int) : Nat → Nat → Nat
  | 0, i => i
  | k + 1, i => if (i : Int) < n ∧ lo ≤ (f i).toInt ∧ (f i).toInt ≤ hi then rnN f n lo hi k (i + 1) else i
theorem rnN_succ (f : Nat → Int32) (n lo hi : Int) (k i : Nat) : rnN f n lo hi (k + 1) i = if (i : Int) < n ∧ lo ≤ (f i).toInt ∧ (f i).toInt ≤ hi then rnN f n lo hi k (i + 1) else i := rfl
theorem rnN_st {f : Nat → Int32} {n lo hi : Int} : ∀ (k i : Nat), n ≤ (i : Int) + (k : Int) → rnN f n lo hi (k + 1) i = rnN f n lo hi k i
  | 0, i, h => by
    rw [rnN_succ, if_neg (by omega)]
    rfl
  | k + 1, i, h => by
    rw [rnN_succ f n lo hi (k + 1) i, rnN_succ f n lo hi k i, rnN_st k (i + 1) (by omega)]
theorem rnN_ge {f : Nat → Int32} {n lo hi : Int} : ∀ (k i : Nat), i ≤ rnN f n lo hi k i
  | 0, i => Nat.le_refl _
  | k + 1, i => by
    rw [rnN_succ]
    split
    · exact Nat.le_trans (Nat.le_succ i) (rnN_ge k (i + 1))
    · exact Nat.le_refl _
theorem rnN_in {f : Nat → Int32} {n lo hi : Int} : ∀ (k i j : Nat), i ≤ j → j < rnN f n lo hi k i → (j : Int) < n ∧ lo ≤ (f j).toInt ∧ (f j).toInt ≤ hi
  | 0, i, j, h, h1 => absurd h1 (Nat.not_lt.mpr h)
  | k + 1, i, j, h, h1 => by
    rw [rnN_succ] at h1
    split at h1
    · rename_i hc
      rcases Nat.lt_or_eq_of_le h with h2 | h2
      · exact rnN_in k (i + 1) j h2 h1
      · subst h2; exact hc
    · exact absurd h1 (Nat.not_lt.mpr h)
def rn (f : Nat → Int32) (n lo hi i : Int) : Int := ((rnN f n lo hi 800 i.toNat : Nat) : Int)
theorem rn_eq {f : Nat → Int32} {n lo hi i : Int} (h0 : 0 ≤ i) (hn : n ≤ 800) : rn f n lo hi i = if i < n ∧ lo ≤ (f i.toNat).toInt ∧ (f i.toNat).toInt ≤ hi then rn f n lo hi (i + 1) else i := by
  have hi' : ((i.toNat : Nat) : Int) = i := by omega
  have h1 : rnN f n lo hi 800 i.toNat = if ((i.toNat : Nat) : Int) < n ∧ lo ≤ (f i.toNat).toInt ∧ (f i.toNat).toInt ≤ hi then rnN f n lo hi 800 (i.toNat + 1) else i.toNat := (rnN_st 800 i.toNat (by omega)).symm.trans (rnN_succ f n lo hi 800 i.toNat)
  have h2 : (i + 1).toNat = i.toNat + 1 := by omega
  rw [hi'] at h1
  unfold rn
  rw [h2, h1]
  by_cases hc : i < n ∧ lo ≤ (f i.toNat).toInt ∧ (f i.toNat).toInt ≤ hi
  · rw [if_pos hc, if_pos hc]
  · rw [if_neg hc, if_neg hc]; exact hi'
theorem rn_ge {f : Nat → Int32} {n lo hi i : Int} (h0 : 0 ≤ i) : i ≤ rn f n lo hi i := by
  have := rnN_ge (f := f) (n := n) (lo := lo) (hi := hi) 800 i.toNat
  unfold rn
  omega
theorem rn_in {f : Nat → Int32} {n lo hi i k : Int} (h0 : 0 ≤ i) (h1 : i ≤ k) (h2 : k < rn f n lo hi i) : k < n ∧ lo ≤ (f k.toNat).toInt ∧ (f k.toNat).toInt ≤ hi := by
  unfold rn at h2
  have h3 := rnN_in 800 i.toNat k.toNat (by omega) (show k.toNat < rnN f n lo hi 800 i.toNat by omega)
  rw [show ((k.toNat : Nat) : Int) = k by omega] at h3
  exact h3
theorem rn_up {f : Nat → Int32} {n lo hi i j : Int} (h0 : 0 ≤ i) (hn : n ≤ 800) (h1 : i < n) (h2 : lo ≤ (f i.toNat).toInt) (h3 : (f i.toNat).toInt ≤ hi) (hj : j = i + 1) : rn f n lo hi i = rn f n lo hi j := by
  rw [rn_eq h0 hn, if_pos ⟨h1, h2, h3⟩, hj]
theorem rn_no {f : Nat → Int32} {n lo hi i : Int} (h0 : 0 ≤ i) (hn : n ≤ 800) (h : ¬ (i < n ∧ lo ≤ (f i.toNat).toInt ∧ (f i.toNat).toInt ≤ hi)) : rn f n lo hi i = i := by
  rw [rn_eq h0 hn, if_neg h]
theorem rn_c {f : Nat → Int32} {n i r lo hi lo' hi' : Int} (h : r = rn f n lo hi i) (e1 : lo = lo') (e2 : hi = hi') : r = rn f n lo' hi' i := by
  subst e1 e2; exact h
/-- a token that is looked for from i on: where it starts, where it stops, its sort (0 bad, 1 word, 2 whole, 3 a semicolon, 4 the end) -/
def tS (f : Nat → Int32) (n i : Int) : Int := rn f n 32 32 i
def tE (f : Nat → Int32) (n i : Int) : Int := if n ≤ tS f n i then tS f n i else if tS f n i < rn f n 97 122 (tS f n i) then rn f n 97 122 (tS f n i) else if tS f n i < rn f n 48 57 (tS f n i) then rn f n 48 57 (tS f n i) else tS f n i + 1
def tK (f : Nat → Int32) (n i : Int) : Int := if n ≤ tS f n i then 4 else if tS f n i < rn f n 97 122 (tS f n i) then (if rn f n 97 122 (tS f n i) - tS f n i ≤ 8 then 1 else 0) else if tS f n i < rn f n 48 57 (tS f n i) then (if rn f n 48 57 (tS f n i) - tS f n i ≤ 3 then 2 else 0) else if (f (tS f n i).toNat).toInt = 59 then 3 else 0
theorem tS_ge {f : Nat → Int32} {n i : Int} (h0 : 0 ≤ i) : i ≤ tS f n i := rn_ge h0
/-- a word's letters -/
theorem tK_w {f : Nat → Int32} {n i : Int} (h0 : 0 ≤ i) (h : tK f n i = 1) : tE f n i - tS f n i ≤ 8 ∧ tS f n i < tE f n i ∧ ∀ k : Int, tS f n i ≤ k → k < tE f n i → k < n ∧ 97 ≤ (f k.toNat).toInt ∧ (f k.toNat).toInt ≤ 122 := by
  have h1 := tS_ge (f := f) (n := n) h0
  have h2 : ¬ n ≤ tS f n i ∧ tS f n i < rn f n 97 122 (tS f n i) ∧ rn f n 97 122 (tS f n i) - tS f n i ≤ 8 := by
    unfold tK at h
    by_cases a1 : n ≤ tS f n i
    · rw [if_pos a1] at h; omega
    · rw [if_neg a1] at h
      by_cases a2 : tS f n i < rn f n 97 122 (tS f n i)
      · rw [if_pos a2] at h
        by_cases a3 : rn f n 97 122 (tS f n i) - tS f n i ≤ 8
        · exact ⟨a1, a2, a3⟩
        · rw [if_neg a3] at h; omega
      · rw [if_neg a2] at h
        exfalso
        revert h
        (repeat' split) <;> omega
  have h3 : tE f n i = rn f n 97 122 (tS f n i) := by
    unfold tE
    rw [if_neg h2.1, if_pos h2.2.1]
  rw [h3]
  exact ⟨h2.2.2, h2.2.1, fun k k1 k2 => rn_in (by omega) k1 k2⟩
theorem tK_n {f : Nat → Int32} {n i : Int} (h0 : 0 ≤ i) (h : tK f n i = 2) : tE f n i - tS f n i ≤ 3 ∧ tS f n i < tE f n i ∧ ∀ k : Int, tS f n i ≤ k → k < tE f n i → k < n ∧ 48 ≤ (f k.toNat).toInt ∧ (f k.toNat).toInt ≤ 57 := by
  have h1 := tS_ge (f := f) (n := n) h0
  have h2 : ¬ n ≤ tS f n i ∧ ¬ tS f n i < rn f n 97 122 (tS f n i) ∧ tS f n i < rn f n 48 57 (tS f n i) ∧ rn f n 48 57 (tS f n i) - tS f n i ≤ 3 := by
    unfold tK at h
    by_cases a1 : n ≤ tS f n i
    · rw [if_pos a1] at h; omega
    · rw [if_neg a1] at h
      by_cases a2 : tS f n i < rn f n 97 122 (tS f n i)
      · rw [if_pos a2] at h
        exfalso
        revert h
        split <;> omega
      · rw [if_neg a2] at h
        by_cases a3 : tS f n i < rn f n 48 57 (tS f n i)
        · rw [if_pos a3] at h
          by_cases a4 : rn f n 48 57 (tS f n i) - tS f n i ≤ 3
          · exact ⟨a1, a2, a3, a4⟩
          · rw [if_neg a4] at h; omega
        · rw [if_neg a3] at h
          exfalso
          revert h
          split <;> omega
  have h3 : tE f n i = rn f n 48 57 (tS f n i) := by
    unfold tE
    rw [if_neg h2.1, if_neg h2.2.1, if_pos h2.2.2.1]
  rw [h3]
  exact ⟨h2.2.2.2, h2.2.2.1, fun k k1 k2 => rn_in (by omega) k1 k2⟩
/-- the class looks at the token from j on -/
def LkC (f : Nat → Int32) (n j tok st sp : Int) : Prop := 0 ≤ j ∧ tok = tK f n j ∧ st = tS f n j ∧ sp = tE f n j
theorem nx {f : Nat → Int32} {n i s a d mx sp tok : Int} (h0 : 0 ≤ i) (hn : n ≤ 800) (hs : s = rn f n 32 32 i) (ha : a = rn f n 97 122 s) (hd : d = rn f n 48 57 s) (hmx : a - s ≤ mx ∧ d - s ≤ mx ∧ (mx = a - s ∨ mx = d - s))
    (hc : (n ≤ s ∧ tok = 4 ∧ sp = s + mx) ∨ (s < n ∧ 0 < a - s ∧ sp = s + mx ∧ ((a - s ≤ 8 ∧ tok = 1) ∨ (8 < a - s ∧ tok = 0))) ∨ (s < n ∧ a - s ≤ 0 ∧ 0 < d - s ∧ sp = s + mx ∧ ((d - s ≤ 3 ∧ tok = 2) ∨ (3 < d - s ∧ tok = 0))) ∨ (s < n ∧ a - s ≤ 0 ∧ d - s ≤ 0 ∧ sp = s + 1 ∧ (((f s.toNat).toInt = 59 ∧ tok = 3) ∨ ((f s.toNat).toInt ≠ 59 ∧ tok = 0)))) : LkC f n i tok s sp := by
  have hs' : tS f n i = s := hs.symm
  have h1 : i ≤ s := by rw [hs]; exact rn_ge h0
  have h2 : s ≤ a := by rw [ha]; exact rn_ge (by omega)
  have h3 : s ≤ d := by rw [hd]; exact rn_ge (by omega)
  refine ⟨h0, ?_⟩
  unfold tK tE
  rw [hs', ← ha, ← hd]
  rcases hc with ⟨c1, c2, c3⟩ | ⟨c1, c2, c3, c4⟩ | ⟨c1, c2, c3, c4, c5⟩ | ⟨c1, c2, c3, c4, c5⟩
  · have e1 : a = s := by rw [ha]; exact rn_no (by omega) hn (fun q => by omega)
    have e2 : d = s := by rw [hd]; exact rn_no (by omega) hn (fun q => by omega)
    rw [if_pos c1, if_pos c1]
    exact ⟨c2, rfl, by omega⟩
  · have q1 := rn_in (f := f) (n := n) (lo := 97) (hi := 122) (i := s) (k := s) (by omega) (Int.le_refl _) (by omega)
    have e2 : d = s := by rw [hd]; exact rn_no (by omega) hn (fun q => by omega)
    rw [if_neg (show ¬ n ≤ s by omega), if_neg (show ¬ n ≤ s by omega), if_pos (show s < a by omega), if_pos (show s < a by omega)]
    refine ⟨?_, rfl, by omega⟩
    split <;> omega
  · rw [if_neg (show ¬ n ≤ s by omega), if_neg (show ¬ n ≤ s by omega), if_neg (show ¬ s < a by omega), if_neg (show ¬ s < a by omega), if_pos (show s < d by omega), if_pos (show s < d by omega)]
    refine ⟨?_, rfl, by omega⟩
    split <;> omega
  · rw [if_neg (show ¬ n ≤ s by omega), if_neg (show ¬ n ≤ s by omega), if_neg (show ¬ s < a by omega), if_neg (show ¬ s < a by omega), if_neg (show ¬ s < d by omega), if_neg (show ¬ s < d by omega)]
    refine ⟨?_, rfl, by omega⟩
    split <;> omega
/-- digits, letters as numbers -/
def nmI (f : Nat → Int32) (s : Nat) : Nat → Int
  | 0 => 0
  | k + 1 => 10 * nmI f s k + ((f (s + k)).toInt - 48)
def cdI (f : Nat → Int32) (s : Nat) : Nat → Int
  | 0 => 0
  | k + 1 => 32 * cdI f s k + ((f (s + k)).toInt - 96)
theorem nm_bd {f : Nat → Int32} {s : Nat} : ∀ (k : Nat), (∀ j, j < k → 48 ≤ (f (s + j)).toInt ∧ (f (s + j)).toInt ≤ 57) → 0 ≤ nmI f s k ∧ (k ≤ 3 → nmI f s k ≤ 999) ∧ (k ≤ 2 → nmI f s k ≤ 99) ∧ (k ≤ 1 → nmI f s k ≤ 9) ∧ (k ≤ 0 → nmI f s k = 0)
  | 0, _ => by unfold nmI; omega
  | k + 1, h => by
    have h1 := nm_bd k (fun j hj => h j (by omega))
    have h2 := h k (by omega)
    unfold nmI
    omega
theorem cd_bd {f : Nat → Int32} {s : Nat} : ∀ (k : Nat), (∀ j, j < k → 97 ≤ (f (s + j)).toInt ∧ (f (s + j)).toInt ≤ 122) → 0 ≤ cdI f s k ∧ cdI f s k < ((32 ^ k : Nat) : Int)
  | 0, _ => by show (0 : Int) ≤ 0 ∧ (0 : Int) < ((32 ^ 0 : Nat) : Int); decide
  | k + 1, h => by
    have h1 := cd_bd k (fun j hj => h j (by omega))
    have h2 := h k (by omega)
    have h3 : (32 : Nat) ^ (k + 1) = 32 ^ k * 32 := Nat.pow_succ ..
    rw [h3]
    unfold cdI
    omega
/-- unlike words have unlike numbers -/
theorem cd_inj {f g : Nat → Int32} {s t : Nat} : ∀ (k m : Nat), (∀ j, j < k → 97 ≤ (f (s + j)).toInt ∧ (f (s + j)).toInt ≤ 122) → (∀ j, j < m → 97 ≤ (g (t + j)).toInt ∧ (g (t + j)).toInt ≤ 122) → cdI f s k = cdI g t m → k = m ∧ ∀ j, j < k → (f (s + j)).toInt = (g (t + j)).toInt
  | 0, 0, _, _, _ => ⟨rfl, fun j hj => absurd hj (Nat.not_lt_zero j)⟩
  | 0, m + 1, _, hg, e => by
    have h1 := cd_bd m (fun j hj => hg j (by omega))
    have h2 := hg m (by omega)
    unfold cdI at e
    omega
  | k + 1, 0, hf, _, e => by
    have h1 := cd_bd k (fun j hj => hf j (by omega))
    have h2 := hf k (by omega)
    unfold cdI at e
    omega
  | k + 1, m + 1, hf, hg, e => by
    have h2 := hf k (by omega)
    have h4 := hg m (by omega)
    unfold cdI at e
    have e1 : cdI f s k = cdI g t m := by omega
    obtain ⟨hk, hj⟩ := cd_inj k m (fun j hj => hf j (by omega)) (fun j hj => hg j (by omega)) e1
    subst hk
    refine ⟨rfl, fun j hj' => ?_⟩
    rcases Nat.lt_or_eq_of_le (Nat.le_of_lt_succ hj') with h | h
    · exact hj j h
    · subst h; omega
theorem cd_eq {f g : Nat → Int32} {s t : Nat} : ∀ (k : Nat), (∀ j, j < k → (f (s + j)).toInt = (g (t + j)).toInt) → cdI f s k = cdI g t k
  | 0, _ => rfl
  | k + 1, h => by
    unfold cdI
    rw [cd_eq k (fun j hj => h j (by omega)), h k (by omega)]
/-- a whole's number, a word's -/
def tN (f : Nat → Int32) (n i : Int) : Int := nmI f (tS f n i).toNat (tE f n i - tS f n i).toNat
def tC (f : Nat → Int32) (n i : Int) : Int := cdI f (tS f n i).toNat (tE f n i - tS f n i).toNat
/-- the token is this word -/
def isWd (f : Nat → Int32) (tok st sp : Int) (sn : Nat) (sf : Nat → Int32) : Prop := tok = 1 ∧ sp - st = (sn : Int) ∧ ∀ k : Nat, k < sn → (f (st.toNat + k)).toInt = (sf k).toInt
def isW (f : Nat → Int32) (n : Int) (sn : Nat) (sf : Nat → Int32) (j : Int) : Prop := isWd f (tK f n j) (tS f n j) (tE f n j) sn sf
/-- by its number -/
theorem isW_cd {f : Nat → Int32} {n : Int} {sn : Nat} {sf : Nat → Int32} {j : Int} (h0 : 0 ≤ j) (hs : ∀ k, k < sn → 97 ≤ (sf k).toInt ∧ (sf k).toInt ≤ 122) : isW f n sn sf j ↔ tK f n j = 1 ∧ tC f n j = cdI sf 0 sn := by
  constructor
  · intro h
    obtain ⟨h1, h2, h3⟩ := h
    refine ⟨h1, ?_⟩
    unfold tC
    rw [show (tE f n j - tS f n j).toNat = sn by omega]
    exact cd_eq sn (fun k hk => by rw [Nat.zero_add]; exact h3 k hk)
  · intro h
    obtain ⟨h1, h2⟩ := h
    obtain ⟨a1, a2, a3⟩ := tK_w h0 h1
    have h4 := tS_ge (f := f) (n := n) h0
    unfold tC at h2
    obtain ⟨b1, b2⟩ := cd_inj _ _ (fun k hk => by
      have := a3 (tS f n j + k) (by omega) (by omega)
      rw [show (tS f n j + (k : Int)).toNat = (tS f n j).toNat + k by omega] at this
      exact this.2) (fun k hk => by rw [Nat.zero_add]; exact hs k hk) h2
    refine ⟨h1, by omega, fun k hk => ?_⟩
    have := b2 k (by omega)
    rw [Nat.zero_add] at this
    exact this
/-- what is noted, and from where on is looked: (0, j) the token from j on; (k, j) the fault k at it -/
def fl (k : Int) (σ : Int × Int) : Int × Int := if σ.1 = 0 then (k, σ.2) else σ
def go (f : Nat → Int32) (n : Int) (σ : Int × Int) : Int × Int := if σ.1 = 0 then (0, tE f n σ.2) else σ
noncomputable def wd1 (f : Nat → Int32) (n : Int) (sn : Nat) (sf : Nat → Int32) (σ : Int × Int) : Int × Int := @ite _ (isW f n sn sf σ.2) (Classical.propDecidable _) σ (fl 1 σ)
noncomputable def nd (f : Nat → Int32) (n : Int) (sn : Nat) (sf : Nat → Int32) (σ : Int × Int) : Int × Int := go f n (wd1 f n sn sf σ)
def wa (f : Nat → Int32) (n lo hi : Int) (σ : Int × Int) : Int × Int := if tK f n σ.2 ≠ 2 then fl 1 σ else if tN f n σ.2 < lo ∨ hi < tN f n σ.2 then fl 4 σ else σ
def rW (f : Nat → Int32) (n lo hi : Int) (σ : Int × Int) : Int × Int := go f n (wa f n lo hi σ)
noncomputable def rP (f : Nat → Int32) (n : Int) (sn : Nat) (sf : Nat → Int32) (lo hi : Int) (σ : Int × Int) : Int × Int := rW f n lo hi (nd f n sn sf σ)
theorem pn {k x : Int} (h : k ≠ 0) : (k, x).1 ≠ 0 := h
theorem fl_o {k : Int} {σ : Int × Int} (h : σ.1 ≠ 0) : fl k σ = σ := if_neg h
theorem fl_z {k : Int} {σ : Int × Int} (h : σ.1 = 0) : fl k σ = (k, σ.2) := if_pos h
theorem go_o {f : Nat → Int32} {n : Int} {σ : Int × Int} (h : σ.1 ≠ 0) : go f n σ = σ := if_neg h
theorem go_z {f : Nat → Int32} {n : Int} {σ : Int × Int} (h : σ.1 = 0) : go f n σ = (0, tE f n σ.2) := if_pos h
theorem wd1_o {f : Nat → Int32} {n : Int} {sn : Nat} {sf : Nat → Int32} {σ : Int × Int} (h : σ.1 ≠ 0) : wd1 f n sn sf σ = σ := by
  unfold wd1
  by_cases hw : isW f n sn sf σ.2
  · rw [if_pos hw]
  · rw [if_neg hw, fl_o h]
theorem wd1_y {f : Nat → Int32} {n : Int} {sn : Nat} {sf : Nat → Int32} {σ : Int × Int} (h : isW f n sn sf σ.2) : wd1 f n sn sf σ = σ := by
  unfold wd1
  rw [if_pos h]
theorem wd1_n {f : Nat → Int32} {n : Int} {sn : Nat} {sf : Nat → Int32} {σ : Int × Int} (h : ¬ isW f n sn sf σ.2) : wd1 f n sn sf σ = fl 1 σ := by
  unfold wd1
  rw [if_neg h]
theorem nd_o {f : Nat → Int32} {n : Int} {sn : Nat} {sf : Nat → Int32} {σ : Int × Int} (h : σ.1 ≠ 0) : nd f n sn sf σ = σ := by
  unfold nd
  rw [wd1_o h, go_o h]
theorem wa_o {f : Nat → Int32} {n lo hi : Int} {σ : Int × Int} (h : σ.1 ≠ 0) : wa f n lo hi σ = σ := by
  unfold wa
  rw [fl_o h, fl_o h]
  (repeat' split) <;> rfl
theorem rW_o {f : Nat → Int32} {n lo hi : Int} {σ : Int × Int} (h : σ.1 ≠ 0) : rW f n lo hi σ = σ := by
  unfold rW
  rw [wa_o h, go_o h]
theorem rP_o {f : Nat → Int32} {n : Int} {sn : Nat} {sf : Nat → Int32} {lo hi : Int} {σ : Int × Int} (h : σ.1 ≠ 0) : rP f n sn sf lo hi σ = σ := by
  unfold rP
  rw [nd_o h, rW_o h]
/-- what a reading method of the class leaves -/
def OcC (f : Nat → Int32) (n : Int) (σ : Int × Int) (r tok st sp fa fat : Int) : Prop := (r = 1 ∧ σ.1 = 0 ∧ LkC f n σ.2 tok st sp) ∨ (r = 0 ∧ σ.1 ≠ 0 ∧ fa = σ.1 ∧ fat = tS f n σ.2)
