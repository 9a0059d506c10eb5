/-- how many of the first n are below v -/
def rk (f : Nat → Int) (v : Int) : Nat → Nat
  | 0 => 0
  | j + 1 => rk f v j + (if f j < v then 1 else 0)
theorem rk_s {f : Nat → Int} {v : Int} {j : Nat} : rk f v (j + 1) = rk f v j + (if f j < v then 1 else 0) := rfl
theorem rk_le {f : Nat → Int} {v : Int} : ∀ n : Nat, rk f v n ≤ n
  | 0 => Nat.le_refl 0
  | n + 1 => by
    have h := rk_le (f := f) (v := v) n
    rw [rk_s]
    split <;> omega
theorem rk_mono {f : Nat → Int} {v v' : Int} (h : v ≤ v') : ∀ n : Nat, rk f v n ≤ rk f v' n
  | 0 => Nat.le_refl 0
  | n + 1 => by
    have h1 := rk_mono (f := f) h n
    rw [rk_s, rk_s]
    by_cases q : f n < v
    · rw [if_pos q, if_pos (by omega)]; omega
    · rw [if_neg q]; split <;> omega
theorem rk_lt {f : Nat → Int} {v' : Int} {j : Nat} (h : f j < v') : ∀ n : Nat, j < n → rk f (f j) n < rk f v' n
  | 0, hj => by omega
  | n + 1, hj => by
    rw [rk_s, rk_s]
    by_cases q : j = n
    · subst q
      have h1 := rk_mono (f := f) (show f j ≤ v' by omega) j
      rw [if_neg (show ¬ f j < f j by omega), if_pos h]
      omega
    · have h1 := rk_lt h n (by omega)
      by_cases q1 : f n < f j
      · rw [if_pos q1, if_pos (by omega)]; omega
      · rw [if_neg q1]; split <;> omega
theorem rk_n {f : Nat → Int} {n j : Nat} (hj : j < n) : rk f (f j) n + 1 ≤ n := by
  have h1 := rk_lt (f := f) (j := j) (v' := f j + 1) (by omega) n hj
  have h2 := rk_le (f := f) (v := f j + 1) n
  omega
/-- the steps by their numbers: where they lead (-1 nowhere), what they weigh -/
def wyE (n : Nat) (T W : Nat → Int) : Prop := ∀ e : Nat, e < 4 * n → T e = -1 ∨ (0 ≤ T e ∧ T e < n ∧ 1 ≤ W e ∧ W e ≤ 4001)
/-- what is left from each PLACE, as the reference finds it -/
def wyL (n : Nat) (T W : Nat → Int) (to : Nat) (L : Nat → Int) : Prop := (to < n ∧ L to = 0) ∧ (∀ c : Nat, c < n → c ≠ to → 0 < L c) ∧ (∀ e : Nat, e < 4 * n → T e ≠ -1 → L (T e).toNat = 9999999 ∨ L (e / 4) ≤ W e + L (T e).toNat) ∧ ∀ c : Nat, c < n → 0 < L c → L c ≠ 9999999 → ∃ e : Nat, e / 4 = c ∧ e < 4 * n ∧ T e ≠ -1 ∧ L (T e).toNat ≠ 9999999 ∧ W e + L (T e).toNat = L c
/-- what is finite is small -/
theorem wyL_bd {n : Nat} {T W : Nat → Int} {to : Nat} {L : Nat → Int} (hE : wyE n T W) (h : wyL n T W to L) : ∀ (k c : Nat), c < n → rk L (L c) n < k → L c ≠ 9999999 → L c ≤ 4001 * (rk L (L c) n : Int)
  | 0, _, _, hk, _ => absurd hk (Nat.not_lt_zero _)
  | k + 1, c, hc, hk, hf => by
    obtain ⟨⟨h1, h2⟩, h3, h4, h5⟩ := id h
    by_cases q : c = to
    · rw [q, h2]
      omega
    · have hp := h3 c hc q
      obtain ⟨e, e1, e2, e3, e4, e5⟩ := h5 c hc hp hf
      rcases hE e e2 with q1 | ⟨q1, q2, q3, q4⟩
      · exact absurd q1 e3
      · have ht : (T e).toNat < n := by omega
        have hl : L (T e).toNat < L c := by omega
        have hr := rk_lt hl n ht
        have ih := wyL_bd hE h k (T e).toNat ht (by omega) e4
        omega
theorem wyL_fin {n : Nat} {T W : Nat → Int} {to : Nat} {L : Nat → Int} (hE : wyE n T W) (h : wyL n T W to L) (hn : n ≤ 20) {c : Nat} (hc : c < n) (hf : L c ≠ 9999999) : L c ≤ 80020 := by
  have h1 := wyL_bd hE h (rk L (L c) n + 1) c hc (Nat.lt_succ_self _) hf
  have h2 := rk_n (f := L) hc
  omega
/-- the class's row is never below, never above far -/
def wyG (n : Nat) (L A : Nat → Int) : Prop := ∀ c : Nat, c < n → A c ≤ 1000000 ∧ (L c = 9999999 → A c = 1000000) ∧ (L c ≠ 9999999 → L c ≤ A c)
/-- one step looked at: what it makes of the row -/
theorem wyG_up {n : Nat} {T W : Nat → Int} {to : Nat} {L A : Nat → Int} {e : Nat} (hE : wyE n T W) (h : wyL n T W to L) (hn : n ≤ 20) (hA : wyG n L A) (he : e < 4 * n) (ht : T e ≠ -1) (hl : W e + A (T e).toNat < A (e / 4)) : wyG n L (fun j => if j = e / 4 then W e + A (T e).toNat else A j) := by
  intro c hc
  show (if c = e / 4 then _ else _) ≤ _ ∧ (_ → (if c = e / 4 then _ else _) = _) ∧ (_ → _ ≤ (if c = e / 4 then _ else _))
  by_cases q : c = e / 4
  · rw [if_pos q]
    subst q
    rcases hE e he with q1 | ⟨q1, q2, q3, q4⟩
    · exact absurd q1 ht
    · obtain ⟨a1, a2, a3⟩ := hA (e / 4) hc
      obtain ⟨b1, b2, b3⟩ := hA (T e).toNat (by omega)
      rcases h.2.2.1 e he ht with r | r
      · have := b2 r
        omega
      · refine ⟨by omega, fun z => ?_, fun z => ?_⟩
        · by_cases w : L (T e).toNat = 9999999
          · have := b2 w
            omega
          · have := b3 w
            have := wyL_fin hE h hn (c := (T e).toNat) (by omega) w
            omega
        · by_cases w : L (T e).toNat = 9999999
          · have := b2 w
            omega
          · have := b3 w
            omega
  · rw [if_neg q]
    exact hA c hc
/-- the steps ahead of m: nothing is more than by the row as it was -/
def wyR (T W : Nat → Int) (A0 A : Nat → Int) (m : Nat) : Prop := ∀ e : Nat, e < m → T e ≠ -1 → A (e / 4) ≤ W e + A0 (T e).toNat
def wyM (n : Nat) (A0 A : Nat → Int) : Prop := ∀ c : Nat, c < n → A c ≤ A0 c
/-- a round: those that are k steps down are found -/
def wyK (n : Nat) (L A : Nat → Int) (k : Nat) : Prop := ∀ c : Nat, c < n → rk L (L c) n ≤ k → L c ≠ 9999999 → A c = L c
theorem wyK_0 {n : Nat} {T W : Nat → Int} {to : Nat} {L A : Nat → Int} (h : wyL n T W to L) (hA : A to = 0) : wyK n L A 0 := by
  obtain ⟨⟨h1, h2⟩, h3, -⟩ := h
  intro c hc hk hf
  by_cases q : c = to
  · rw [q, hA, h2]
  · have hp := h3 c hc q
    have := rk_lt (f := L) (j := to) (v' := L c) (by omega) n h1
    omega
theorem wyK_up {n : Nat} {T W : Nat → Int} {to : Nat} {L A A1 : Nat → Int} {k : Nat} (hE : wyE n T W) (h : wyL n T W to L) (hK : wyK n L A k) (hG : wyG n L A1) (hM : wyM n A A1) (hR : wyR T W A A1 (4 * n)) (hA : A to = 0) : wyK n L A1 (k + 1) := by
  obtain ⟨⟨h1, h2⟩, h3, h4, h5⟩ := h
  intro c hc hk hf
  have hg := (hG c hc).2.2 hf
  by_cases q : c = to
  · subst q
    have := hM c hc
    omega
  · obtain ⟨e, e1, e2, e3, e4, e5⟩ := h5 c hc (h3 c hc q) hf
    rcases hE e e2 with q1 | ⟨q1, q2, q3, q4⟩
    · exact absurd q1 e3
    · have ht : (T e).toNat < n := by omega
      have hr := rk_lt (f := L) (j := (T e).toNat) (v' := L c) (by omega) n ht
      have h6 := hK (T e).toNat ht (by omega) e4
      have h7 := hR e e2 e3
      rw [e1, h6, e5] at h7
      omega
/-- found, when nothing gets better -/
theorem wyK_fix {n : Nat} {T W : Nat → Int} {to : Nat} {L A : Nat → Int} (hE : wyE n T W) (h : wyL n T W to L) (hG : wyG n L A) (hR : wyR T W A A (4 * n)) (hA : A to = 0) : ∀ k : Nat, wyK n L A k
  | 0 => wyK_0 h hA
  | k + 1 => wyK_up hE h (wyK_fix hE h hG hR hA k) hG (fun _ _ => Int.le_refl _) hR hA
/-- the class's row at last -/
def wyA (n : Nat) (L A : Nat → Int) : Prop := ∀ c : Nat, c < n → (L c = 9999999 → A c = 1000000) ∧ (L c ≠ 9999999 → A c = L c ∧ L c ≤ 80020)
theorem wyA_of {n : Nat} {T W : Nat → Int} {to : Nat} {L A : Nat → Int} (hE : wyE n T W) (h : wyL n T W to L) (hn : n ≤ 20) (hG : wyG n L A) (hK : wyK n L A n) : wyA n L A := by
  intro c hc
  have h1 := rk_n (f := L) hc
  exact ⟨(hG c hc).2.1, fun hf => ⟨hK c hc (by omega) hf, wyL_fin hE h hn hc hf⟩⟩
/-- a STEP by which nothing is lost; the first one -/
def okL (T W L : Nat → Int) (c s : Nat) : Prop := T (4 * c + s) ≠ -1 ∧ L (T (4 * c + s)).toNat ≠ 9999999 ∧ W (4 * c + s) + L (T (4 * c + s)).toNat = L c
noncomputable def fsL (T W L : Nat → Int) (c : Nat) : Nat := @ite _ (okL T W L c 0) (Classical.propDecidable _) 0 (@ite _ (okL T W L c 1) (Classical.propDecidable _) 1 (@ite _ (okL T W L c 2) (Classical.propDecidable _) 2 3))
/-- the first one, by what is known of those ahead of it -/
theorem fsL_of {T W L : Nat → Int} {c s : Nat} (hs : s < 4) (h : okL T W L c s) (hb : ∀ j : Nat, j < s → ¬ okL T W L c j) : fsL T W L c = s := by
  unfold fsL
  rcases (show s = 0 ∨ s = 1 ∨ s = 2 ∨ s = 3 by omega) with e | e | e | e
  · subst e
    rw [if_pos h]
  · subst e
    rw [if_neg (hb 0 (by omega)), if_pos h]
  · subst e
    rw [if_neg (hb 0 (by omega)), if_neg (hb 1 (by omega)), if_pos h]
  · subst e
    rw [if_neg (hb 0 (by omega)), if_neg (hb 1 (by omega)), if_neg (hb 2 (by omega))]
theorem fsL_ok {n : Nat} {T W : Nat → Int} {to : Nat} {L : Nat → Int} {c : Nat} (h : wyL n T W to L) (hc : c < n) (hp : 0 < L c) (hf : L c ≠ 9999999) : fsL T W L c < 4 ∧ okL T W L c (fsL T W L c) := by
  obtain ⟨e, e1, e2, e3, e4, e5⟩ := h.2.2.2 c hc hp hf
  have hk : okL T W L c (e - 4 * c) := by
    unfold okL
    rw [show 4 * c + (e - 4 * c) = e by omega]
    exact ⟨e3, e4, e5⟩
  have hlt : e - 4 * c < 4 := by omega
  unfold fsL
  by_cases h0 : okL T W L c 0
  · rw [if_pos h0]; exact ⟨by omega, h0⟩
  · rw [if_neg h0]
    by_cases h1 : okL T W L c 1
    · rw [if_pos h1]; exact ⟨by omega, h1⟩
    · rw [if_neg h1]
      by_cases h2 : okL T W L c 2
      · rw [if_pos h2]; exact ⟨by omega, h2⟩
      · rw [if_neg h2]
        refine ⟨by omega, ?_⟩
        rcases (show e - 4 * c = 0 ∨ e - 4 * c = 1 ∨ e - 4 * c = 2 ∨ e - 4 * c = 3 by omega) with q | q | q | q
        · rw [q] at hk; exact absurd hk h0
        · rw [q] at hk; exact absurd hk h1
        · rw [q] at hk; exact absurd hk h2
        · rw [q] at hk; exact hk
/-- the PLACES of the way -/
noncomputable def pcL (T W L : Nat → Int) (c0 : Nat) : Nat → Nat
  | 0 => c0
  | k + 1 => if 0 < L (pcL T W L c0 k) then (T (4 * pcL T W L c0 k + fsL T W L (pcL T W L c0 k))).toNat else pcL T W L c0 k
theorem pcL_s {T W L : Nat → Int} {c0 k : Nat} : pcL T W L c0 (k + 1) = if 0 < L (pcL T W L c0 k) then (T (4 * pcL T W L c0 k + fsL T W L (pcL T W L c0 k))).toNat else pcL T W L c0 k := rfl
theorem pcL_in {n : Nat} {T W : Nat → Int} {to : Nat} {L : Nat → Int} {c0 : Nat} (hE : wyE n T W) (h : wyL n T W to L) (hc : c0 < n) (hf : L c0 ≠ 9999999) : ∀ k : Nat, pcL T W L c0 k < n ∧ L (pcL T W L c0 k) ≠ 9999999 ∧ (0 < L (pcL T W L c0 k) → rk L (L (pcL T W L c0 k)) n + k ≤ rk L (L c0) n)
  | 0 => ⟨hc, hf, fun _ => Nat.le_refl _⟩
  | k + 1 => by
    obtain ⟨i1, i2, i3⟩ := pcL_in hE h hc hf k
    rw [pcL_s]
    by_cases hp : 0 < L (pcL T W L c0 k)
    · rw [if_pos hp]
      obtain ⟨s1, s2, s3, s4⟩ := fsL_ok h i1 hp i2
      rcases hE _ (show 4 * pcL T W L c0 k + fsL T W L (pcL T W L c0 k) < 4 * n by omega) with q1 | ⟨q1, q2, q3, q4⟩
      · exact absurd q1 s2
      · refine ⟨by omega, s3, fun _ => ?_⟩
        have hr := rk_lt (f := L) (j := (T (4 * pcL T W L c0 k + fsL T W L (pcL T W L c0 k))).toNat) (v' := L (pcL T W L c0 k)) (by omega) n (by omega)
        have := i3 hp
        omega
    · rw [if_neg hp]
      exact ⟨i1, i2, fun q => absurd q hp⟩
/-- it ends -/
theorem pcL_end {n : Nat} {T W : Nat → Int} {to : Nat} {L : Nat → Int} {c0 : Nat} (hE : wyE n T W) (h : wyL n T W to L) (hc : c0 < n) (hf : L c0 ≠ 9999999) {k : Nat} (hk : n ≤ k) : ¬ 0 < L (pcL T W L c0 k) := by
  intro hp
  obtain ⟨-, -, i3⟩ := pcL_in hE h hc hf k
  have h1 := i3 hp
  have h2 := rk_n (f := L) hc
  omega
/-- the class's first step is the reference's -/
theorem ok_A {n : Nat} {T W : Nat → Int} {L A : Nat → Int} {c s : Nat} (hE : wyE n T W) (hA : wyA n L A) (hc : c < n) (hs : s < 4) (hf : L c ≠ 9999999) : (T (4 * c + s) ≠ -1 ∧ W (4 * c + s) + A (T (4 * c + s)).toNat = A c) ↔ okL T W L c s := by
  obtain ⟨a1, a2⟩ := (hA c hc).2 hf
  unfold okL
  constructor
  · intro ⟨h1, h2⟩
    rcases hE _ (show 4 * c + s < 4 * n by omega) with q1 | ⟨q1, q2, q3, q4⟩
    · exact absurd q1 h1
    · have ht := hA (T (4 * c + s)).toNat (by omega)
      by_cases w : L (T (4 * c + s)).toNat = 9999999
      · have := ht.1 w
        omega
      · have := (ht.2 w).1
        exact ⟨h1, w, by omega⟩
  · intro ⟨h1, h2, h3⟩
    rcases hE _ (show 4 * c + s < 4 * n by omega) with q1 | ⟨q1, q2, q3, q4⟩
    · exact absurd q1 h1
    · have := ((hA (T (4 * c + s)).toNat (by omega)).2 h2).1
      exact ⟨h1, by omega⟩
/-- what is summed up on the way: minutes, falls, weights -/
noncomputable def smL (T W L X : Nat → Int) (c0 : Nat) : Nat → Int
  | 0 => 0
  | k + 1 => smL T W L X c0 k + (if 0 < L (pcL T W L c0 k) then X (4 * pcL T W L c0 k + fsL T W L (pcL T W L c0 k)) else 0)
theorem smL_s {T W L X : Nat → Int} {c0 k : Nat} : smL T W L X c0 (k + 1) = smL T W L X c0 k + (if 0 < L (pcL T W L c0 k) then X (4 * pcL T W L c0 k + fsL T W L (pcL T W L c0 k)) else 0) := rfl
theorem smL_W {n : Nat} {T W : Nat → Int} {to : Nat} {L : Nat → Int} {c0 : Nat} (hE : wyE n T W) (h : wyL n T W to L) (hc : c0 < n) (hf : L c0 ≠ 9999999) : ∀ k : Nat, L c0 = smL T W L W c0 k + L (pcL T W L c0 k)
  | 0 => by
    show L c0 = 0 + L c0
    omega
  | k + 1 => by
    have ih := smL_W hE h hc hf k
    obtain ⟨i1, i2, -⟩ := pcL_in hE h hc hf k
    rw [smL_s, pcL_s]
    by_cases hp : 0 < L (pcL T W L c0 k)
    · rw [if_pos hp, if_pos hp]
      obtain ⟨s1, s2, s3, s4⟩ := fsL_ok h i1 hp i2
      omega
    · rw [if_neg hp, if_neg hp]
      omega
theorem smL_lin {n : Nat} {T W M F : Nat → Int} {to : Nat} {L : Nat → Int} {c0 : Nat} (hE : wyE n T W) (h : wyL n T W to L) (hc : c0 < n) (hf : L c0 ≠ 9999999) (hw : ∀ e : Nat, e < 4 * n → T e ≠ -1 → W e = 1000 * M e + F e ∧ 0 ≤ F e ∧ F e ≤ 4) : ∀ k : Nat, smL T W L W c0 k = 1000 * smL T W L M c0 k + smL T W L F c0 k ∧ 0 ≤ smL T W L F c0 k ∧ smL T W L F c0 k ≤ 4 * (k : Int)
  | 0 => ⟨rfl, Int.le_refl _, Int.le_refl _⟩
  | k + 1 => by
    obtain ⟨j1, j2, j3⟩ := smL_lin hE h hc hf hw k
    obtain ⟨i1, i2, -⟩ := pcL_in hE h hc hf k
    rw [smL_s, smL_s, smL_s]
    by_cases hp : 0 < L (pcL T W L c0 k)
    · rw [if_pos hp, if_pos hp, if_pos hp]
      obtain ⟨s1, s2, -⟩ := fsL_ok h i1 hp i2
      obtain ⟨w1, w2, w3⟩ := hw _ (show 4 * pcL T W L c0 k + fsL T W L (pcL T W L c0 k) < 4 * n by omega) s2
      omega
    · rw [if_neg hp, if_neg hp, if_neg hp]
      omega
/-- the whole weight in its two numbers -/
theorem smL_end {n : Nat} {T W M F : Nat → Int} {to : Nat} {L : Nat → Int} {c0 k : Nat} (hE : wyE n T W) (h : wyL n T W to L) (hn : n ≤ 20) (hc : c0 < n) (hf : L c0 ≠ 9999999) (hw : ∀ e : Nat, e < 4 * n → T e ≠ -1 → W e = 1000 * M e + F e ∧ 0 ≤ F e ∧ F e ≤ 4) (hk : k ≤ 20) (hz : L (pcL T W L c0 k) = 0) : smL T W L M c0 k = L c0 / 1000 ∧ smL T W L F c0 k = L c0 % 1000 := by
  have h1 := smL_W hE h hc hf k
  obtain ⟨h2, h3, h4⟩ := smL_lin hE h hc hf hw k
  omega
/-- a row as whole numbers -/
def tI (f : Nat → Int32) (k : Nat) : Int := (f k).toInt
/-- tables of STEPS: where they lead, what is said of them, what they weigh -/
def tT (n : Int) (tf tg : Int → Int → Int) (e : Nat) : Int := if (e : Int) < 4 * n ∧ tf ((e / 4 : Nat) : Int) ((e % 4 : Nat) : Int) ≠ -2 then tg ((e / 4 : Nat) : Int) ((e % 4 : Nat) : Int) else -1
def tX (n : Int) (tf x : Int → Int → Int) (e : Nat) : Int := if (e : Int) < 4 * n ∧ tf ((e / 4 : Nat) : Int) ((e % 4 : Nat) : Int) ≠ -2 then x ((e / 4 : Nat) : Int) ((e % 4 : Nat) : Int) else 0
def tW (q : Int) (M F : Nat → Int) (e : Nat) : Int := if q ≠ 0 then 1000 * F e + M e else 1000 * M e + F e
theorem tT_y {n : Int} {tf tg : Int → Int → Int} {c s m : Int} (h : m = 4 * c + s) (c0 : 0 ≤ c) (c1 : c < n) (s0 : 0 ≤ s) (s4 : s < 4) (ht : tf c s ≠ -2) : tT n tf tg m.toNat = tg c s := by
  have e1 : ((m.toNat / 4 : Nat) : Int) = c := by omega
  have e2 : ((m.toNat % 4 : Nat) : Int) = s := by omega
  unfold tT
  rw [e1, e2, if_pos ⟨by omega, ht⟩]
theorem tT_n {n : Int} {tf tg : Int → Int → Int} {c s m : Int} (h : m = 4 * c + s) (c0 : 0 ≤ c) (s0 : 0 ≤ s) (s4 : s < 4) (ht : tf c s = -2) : tT n tf tg m.toNat = -1 := by
  have e1 : ((m.toNat / 4 : Nat) : Int) = c := by omega
  have e2 : ((m.toNat % 4 : Nat) : Int) = s := by omega
  unfold tT
  rw [e1, e2, if_neg (fun q => q.2 ht)]
theorem tX_y {n : Int} {tf x : Int → Int → Int} {c s m : Int} (h : m = 4 * c + s) (c0 : 0 ≤ c) (c1 : c < n) (s0 : 0 ≤ s) (s4 : s < 4) (ht : tf c s ≠ -2) : tX n tf x m.toNat = x c s := by
  have e1 : ((m.toNat / 4 : Nat) : Int) = c := by omega
  have e2 : ((m.toNat % 4 : Nat) : Int) = s := by omega
  unfold tX
  rw [e1, e2, if_pos ⟨by omega, ht⟩]
theorem tT_o {n : Int} {tf tg : Int → Int → Int} {e : Nat} (h : tT n tf tg e ≠ -1) : (e : Int) < 4 * n ∧ tf ((e / 4 : Nat) : Int) ((e % 4 : Nat) : Int) ≠ -2 :=
  Classical.byContradiction (fun q => h (by unfold tT; rw [if_neg q]))
theorem tX_o {n : Int} {tf tg x : Int → Int → Int} {e : Nat} (h : tT n tf tg e ≠ -1) : tX n tf x e = x ((e / 4 : Nat) : Int) ((e % 4 : Nat) : Int) := by
  unfold tX
  rw [if_pos (tT_o h)]
/-- what is wanted of a way of walking: minutes 1 to 4, at most one FALL, into the park -/
def wkO (n : Int) (tf tg fl : Int → Int → Int) : Prop := ∀ c s : Int, 0 ≤ c → c < n → 0 ≤ s → s < 4 → tf c s ≠ -2 → (1 ≤ tf c s ∧ tf c s ≤ 4) ∧ (0 ≤ fl c s ∧ fl c s ≤ 1) ∧ 0 ≤ tg c s ∧ tg c s < n
theorem wyE_t {n q : Int} {tf tg fl : Int → Int → Int} (h : wkO n tf tg fl) : wyE n.toNat (tT n tf tg) (tW q (tX n tf tf) (tX n tf fl)) := by
  intro e he
  have a1 : (0 : Int) ≤ ((e / 4 : Nat) : Int) := by omega
  by_cases z : tf ((e / 4 : Nat) : Int) ((e % 4 : Nat) : Int) = -2
  · exact Or.inl (by unfold tT; rw [if_neg (fun q => q.2 z)])
  · obtain ⟨⟨b1, b2⟩, ⟨b3, b4⟩, b5, b6⟩ := h _ _ a1 (by omega) (by omega) (by omega) z
    have hp : (e : Int) < 4 * n ∧ tf ((e / 4 : Nat) : Int) ((e % 4 : Nat) : Int) ≠ -2 := ⟨by omega, z⟩
    have eT : tT n tf tg e = tg ((e / 4 : Nat) : Int) ((e % 4 : Nat) : Int) := by unfold tT; rw [if_pos hp]
    have eM : tX n tf tf e = tf ((e / 4 : Nat) : Int) ((e % 4 : Nat) : Int) := by unfold tX; rw [if_pos hp]
    have eF : tX n tf fl e = fl ((e / 4 : Nat) : Int) ((e % 4 : Nat) : Int) := by unfold tX; rw [if_pos hp]
    refine Or.inr ?_
    unfold tW
    rw [eT, eM, eF]
    refine ⟨by omega, by omega, ?_⟩
    split <;> omega
theorem tX_bd {n : Int} {tf tg fl : Int → Int → Int} (h : wkO n tf tg fl) {e : Nat} (ht : tT n tf tg e ≠ -1) : (1 ≤ tX n tf tf e ∧ tX n tf tf e ≤ 4) ∧ 0 ≤ tX n tf fl e ∧ tX n tf fl e ≤ 1 := by
  obtain ⟨h1, h2⟩ := tT_o ht
  obtain ⟨⟨b1, b2⟩, ⟨b3, b4⟩, -⟩ := h _ _ (show (0 : Int) ≤ ((e / 4 : Nat) : Int) by omega) (by omega) (show (0 : Int) ≤ ((e % 4 : Nat) : Int) by omega) (by omega) h2
  rw [tX_o (x := tf) ht, tX_o (x := fl) ht]
  exact ⟨⟨b1, b2⟩, b3, b4⟩
/-- raw rows and tables -/
def wgP (m : Int) (T W : Nat → Int) (tf wf : Nat → Int32) : Prop := ∀ e : Nat, (e : Int) < m → (tf e).toInt = T e ∧ (T e ≠ -1 → (wf e).toInt = W e)
theorem wgP_0 {m : Int} {T W : Nat → Int} {tf wf : Nat → Int32} (h : m ≤ 0) : wgP m T W tf wf := fun e he => by omega
theorem wgP_le {m m' : Int} {T W : Nat → Int} {tf wf : Nat → Int32} (h : wgP m T W tf wf) (e : m' ≤ m) : wgP m' T W tf wf := fun k hk => h k (by omega)
theorem wgP_n {m m1 : Int} {T W : Nat → Int} {tf wf tf1 : Nat → Int32} {i : Int32} (h : wgP m T W tf wf) (u : upd tf (Int32.toNatClampNeg i) (-1) = tf1) (hi : i.toInt = m) (h0 : 0 ≤ m) (ht : T m.toNat = -1) (hm : m1 = m + 1) : wgP m1 T W tf1 wf := by
  have e1 : i.toNatClampNeg = m.toNat := by rw [← hi]; rfl
  intro e he
  rw [← u]
  unfold upd
  by_cases q : e = m.toNat
  · rw [e1, if_pos q, q, ht]
    exact ⟨by decide, fun z => absurd rfl z⟩
  · rw [e1, if_neg q]
    exact h e (by omega)
theorem wgP_y {m m1 : Int} {T W : Nat → Int} {tf wf tf1 tf2 wf1 : Nat → Int32} {i g x : Int32} (h : wgP m T W tf wf) (u1 : upd tf (Int32.toNatClampNeg i) (-1) = tf1) (u2 : upd tf1 (Int32.toNatClampNeg i) g = tf2) (u3 : upd wf (Int32.toNatClampNeg i) x = wf1) (hi : i.toInt = m) (h0 : 0 ≤ m) (hg : g.toInt = T m.toNat) (hx : x.toInt = W m.toNat) (hm : m1 = m + 1) : wgP m1 T W tf2 wf1 := by
  have e1 : i.toNatClampNeg = m.toNat := by rw [← hi]; rfl
  intro e he
  rw [← u2, ← u3, ← u1]
  unfold upd
  by_cases q : e = m.toNat
  · rw [e1, if_pos q, if_pos q, q]
    exact ⟨hg, fun _ => hx⟩
  · rw [e1, if_neg q, if_neg q, if_neg q]
    exact h e (by omega)
/-- the class's tables -/
def cT (w n : Int) (f : Nat → Int32) (k : Int) : Nat → Int := tT n (tfZ w n f k) (tgZ w n f)
def cM (w n : Int) (f : Nat → Int32) (k : Int) : Nat → Int := tX n (tfZ w n f k) (tfZ w n f k)
def cF (w n : Int) (f : Nat → Int32) (k : Int) : Nat → Int := tX n (tfZ w n f k) (flZ w n f k)
def cW (w n : Int) (f : Nat → Int32) (k q : Int) : Nat → Int := tW q (cM w n f k) (cF w n f k)
theorem oD_bd (k s : Int) : oD k s = -2 ∨ (1 ≤ oD k s ∧ oD k s ≤ 4) := by
  unfold oD
  (repeat' split) <;> omega
theorem oU_bd (k s : Int) : oU k s = -2 ∨ (1 ≤ oU k s ∧ oU k s ≤ 4) := by
  unfold oU
  (repeat' split) <;> omega
theorem tfZ_bd (w n : Int) (f : Nat → Int32) (k c s : Int) : tfZ w n f k c s = -2 ∨ ((1 ≤ tfZ w n f k c s ∧ tfZ w n f k c s ≤ 4) ∧ tgZ w n f c s ≠ -1) := by
  have h1 := oD_bd k s
  have h2 := oU_bd k s
  unfold tfZ
  by_cases q : tgZ w n f c s = -1
  · exact Or.inl (if_pos q)
  · rw [if_neg q]
    (repeat' split) <;> omega
theorem flZ_bd (w n : Int) (f : Nat → Int32) (k c s : Int) : 0 ≤ flZ w n f k c s ∧ flZ w n f k c s ≤ 1 := by
  unfold flZ
  split <;> omega
theorem tgZ_in {w n : Int} {f : Nat → Int32} {c s : Int} (h : tgZ w n f c s ≠ -1) : 0 ≤ tgZ w n f c s ∧ tgZ w n f c s < n := by
  have key : ∀ t : Int, tg2 n f t = -1 ∨ (0 ≤ tg2 n f t ∧ tg2 n f t < n) := fun t => by
    unfold tg2
    split
    · exact Or.inl rfl
    · exact Or.inr (by omega)
  have h2 : tgZ w n f c s = -1 ∨ (0 ≤ tgZ w n f c s ∧ tgZ w n f c s < n) := by
    unfold tgZ
    split
    · exact Or.inl rfl
    · exact key _
  rcases h2 with q | q
  · exact absurd q h
  · exact q
theorem cO (w n : Int) (f : Nat → Int32) (k : Int) : wkO n (tfZ w n f k) (tgZ w n f) (flZ w n f k) := by
  intro c s c0 c1 s0 s4 h
  rcases tfZ_bd w n f k c s with q | ⟨q1, q2⟩
  · exact absurd q h
  · exact ⟨q1, flZ_bd w n f k c s, tgZ_in q2⟩
theorem wyE_c (w n : Int) (f : Nat → Int32) (k q : Int) : wyE n.toNat (cT w n f k) (cW w n f k q) := wyE_t (cO w n f k)
theorem wgC_n {w n k q m m1 c s : Int} {f tf wf tf1 : Nat → Int32} {i t : Int32} (h : wgP m (cT w n f k) (cW w n f k q) tf wf) (u : upd tf (Int32.toNatClampNeg i) (-1) = tf1) (hi : i.toInt = m) (hm0 : m = 4 * c + s) (c0 : 0 ≤ c) (s0 : 0 ≤ s) (s4 : s < 4) (ht : t.toInt = tfZ w n f k c s) (h2 : t.toInt = -2) (hm : m1 = m + 1) : wgP m1 (cT w n f k) (cW w n f k q) tf1 wf :=
  wgP_n h u hi (by omega) (show tT n (tfZ w n f k) (tgZ w n f) m.toNat = -1 from tT_n hm0 c0 s0 s4 (by omega)) hm
theorem wgC_y {w n k q m m1 c s : Int} {f tf wf tf1 tf2 wf1 : Nat → Int32} {i t fl g x : Int32} (h : wgP m (cT w n f k) (cW w n f k q) tf wf) (u1 : upd tf (Int32.toNatClampNeg i) (-1) = tf1) (u2 : upd tf1 (Int32.toNatClampNeg i) g = tf2) (u3 : upd wf (Int32.toNatClampNeg i) x = wf1) (hi : i.toInt = m) (hm0 : m = 4 * c + s) (c0 : 0 ≤ c) (c1 : c < n) (s0 : 0 ≤ s) (s4 : s < 4) (ht : t.toInt = tfZ w n f k c s) (h2 : t.toInt ≠ -2) (hq : fl.toInt = flZ w n f k c s) (hg : g.toInt = tgZ w n f c s) (hx : (q ≠ 0 ∧ x.toInt = 1000 * fl.toInt + t.toInt) ∨ (q = 0 ∧ x.toInt = 1000 * t.toInt + fl.toInt)) (hm : m1 = m + 1) : wgP m1 (cT w n f k) (cW w n f k q) tf2 wf1 := by
  have hn : tfZ w n f k c s ≠ -2 := by omega
  have eT : cT w n f k m.toNat = tgZ w n f c s := tT_y hm0 c0 c1 s0 s4 hn
  have eM : cM w n f k m.toNat = tfZ w n f k c s := tX_y hm0 c0 c1 s0 s4 hn
  have eF : cF w n f k m.toNat = flZ w n f k c s := tX_y hm0 c0 c1 s0 s4 hn
  refine wgP_y h u1 u2 u3 hi (by omega) (by rw [eT]; exact hg) ?_ hm
  show x.toInt = tW q (cM w n f k) (cF w n f k) m.toNat
  unfold tW
  rw [eM, eF]
  rcases hx with ⟨z1, z2⟩ | ⟨z1, z2⟩
  · rw [if_pos z1]; omega
  · rw [if_neg (fun z => z z1)]; omega
/-- from tables to rows -/
theorem wyE_r {n : Nat} {T W T' W' : Nat → Int} (h : ∀ e : Nat, e < 4 * n → T' e = T e ∧ (T e ≠ -1 → W' e = W e)) (hE : wyE n T W) : wyE n T' W' := by
  intro e he
  obtain ⟨h1, h2⟩ := h e he
  rcases hE e he with q | ⟨q1, q2, q3, q4⟩
  · exact Or.inl (h1.trans q)
  · have h3 := h2 (by omega)
    exact Or.inr ⟨by omega, by omega, by omega, by omega⟩
theorem wyL_r {n : Nat} {T W T' W' : Nat → Int} {to : Nat} {L : Nat → Int} (h : ∀ e : Nat, e < 4 * n → T' e = T e ∧ (T e ≠ -1 → W' e = W e)) (hL : wyL n T W to L) : wyL n T' W' to L := by
  obtain ⟨h1, h2, h3, h4⟩ := hL
  refine ⟨h1, h2, fun e he ht => ?_, fun c hc hp hf => ?_⟩
  · obtain ⟨g1, g2⟩ := h e he
    rw [g1] at ht
    rw [g1, g2 ht]
    exact h3 e he ht
  · obtain ⟨e, e1, e2, e3, e4, e5⟩ := h4 c hc hp hf
    obtain ⟨g1, g2⟩ := h e e2
    refine ⟨e, e1, e2, ?_, ?_, ?_⟩
    · rw [g1]; exact e3
    · rw [g1]; exact e4
    · rw [g1, g2 e3]; exact e5
theorem wg_r {n : Int} {T W : Nat → Int} {tf wf : Nat → Int32} (h : wgP (4 * n) T W tf wf) : ∀ e : Nat, e < 4 * n.toNat → tI tf e = T e ∧ (T e ≠ -1 → tI wf e = W e) := fun e he => h e (by omega)
/-- rounds of the class -/
def wyS (n : Nat) (L : Nat → Int) (to : Nat) (A : Nat → Int) : Prop := A to = 0 ∧ wyG n L A
theorem wyL_0 {n : Nat} {T W : Nat → Int} {to : Nat} {L : Nat → Int} (h : wyL n T W to L) {c : Nat} (hc : c < n) : 0 ≤ L c := by
  by_cases q : c = to
  · rw [q, h.1.2]; exact Int.le_refl 0
  · have := h.2.1 c hc q; omega
theorem wyG_0 {n : Nat} {T W : Nat → Int} {to : Nat} {L A : Nat → Int} (h : wyL n T W to L) (hG : wyG n L A) {c : Nat} (hc : c < n) : 0 ≤ A c ∧ A c ≤ 1000000 := by
  have h0 := wyL_0 h hc
  obtain ⟨a1, a2, a3⟩ := hG c hc
  by_cases q : L c = 9999999
  · have := a2 q; omega
  · have := a3 q; omega
def imI (n : Nat) (T W A0 A : Nat → Int) (m b : Int) : Prop := ∀ (to : Nat) (L : Nat → Int), n ≤ 20 → wyE n T W → wyL n T W to L → wyS n L to A0 → wyS n L to A ∧ wyM n A0 A ∧ wyR T W A0 A m.toNat ∧ (b = 0 → ∀ c : Nat, c < n → A c = A0 c)
theorem imI_0 {n : Nat} {T W A : Nat → Int} {m b : Int} (h : m ≤ 0) : imI n T W A A m b := fun to L hn hE hL hS => ⟨hS, fun _ _ => Int.le_refl _, fun e he => by omega, fun _ _ _ => rfl⟩
theorem imI_le {n : Nat} {T W A0 A : Nat → Int} {m m' b : Int} (h : imI n T W A0 A m b) (e : m' ≤ m) : imI n T W A0 A m' b := fun to L hn hE hL hS => by
  obtain ⟨s1, s2, s3, s4⟩ := h to L hn hE hL hS
  exact ⟨s1, s2, fun e he => s3 e (by omega), s4⟩
theorem im_sum {n : Nat} {tf wf lf : Nat → Int32} {to : Nat} {L : Nat → Int} {m : Int} {i a c x y t d : Int32} (hE : wyE n (tI tf) (tI wf)) (hL : wyL n (tI tf) (tI wf) to L) (hG : wyG n L (tI lf)) (hi : i.toInt = m) (h0 : 0 ≤ m) (h1 : m < 4 * (n : Int)) (et : t = tf (Int32.toNatClampNeg i)) (ht : t.toInt ≠ -1) (ea : a = wf (Int32.toNatClampNeg i)) (ec : c = lf (Int32.toNatClampNeg t)) (ex : x = a + c) (hd : d.toInt = m / 4) (ey : y = lf (Int32.toNatClampNeg d)) : (tI tf m.toNat ≠ -1 ∧ 0 ≤ tI tf m.toNat ∧ tI tf m.toNat < n) ∧ x.toInt = tI wf m.toNat + tI lf (tI tf m.toNat).toNat ∧ y.toInt = tI lf (m.toNat / 4) ∧ 1 ≤ x.toInt := by
  have n1 : i.toNatClampNeg = m.toNat := by rw [← hi]; rfl
  have n2 : t.toNatClampNeg = t.toInt.toNat := rfl
  have n3 : d.toNatClampNeg = m.toNat / 4 := by
    have e9 : d.toNatClampNeg = d.toInt.toNat := rfl
    omega
  have t1 : t.toInt = tI tf m.toNat := by rw [et, n1]; rfl
  have a1 : a.toInt = tI wf m.toNat := by rw [ea, n1]; rfl
  have c1 : c.toInt = tI lf (tI tf m.toNat).toNat := by rw [ec, n2, t1]; rfl
  have y1 : y.toInt = tI lf (m.toNat / 4) := by rw [ey, n3]; rfl
  have ht9 : tI tf m.toNat ≠ -1 := fun z => ht (t1.trans z)
  rcases hE m.toNat (by omega) with q | ⟨q1, q2, q3, q4⟩
  · exact absurd q ht9
  · obtain ⟨g1, g2⟩ := wyG_0 hL hG (c := (tI tf m.toNat).toNat) (by omega)
    have x1 := ti_add ex a1 c1 (by omega) (by omega)
    exact ⟨⟨ht9, q1, q2⟩, x1, y1, by omega⟩
theorem imI_n {n : Nat} {tf wf : Nat → Int32} {A0 A : Nat → Int} {m m1 b : Int} {i t : Int32} (h : imI n (tI tf) (tI wf) A0 A m b) (hi : i.toInt = m) (h0 : 0 ≤ m) (et : t = tf (Int32.toNatClampNeg i)) (ht : t.toInt = -1) (hm : m1 = m + 1) : imI n (tI tf) (tI wf) A0 A m1 b := by
  have n1 : i.toNatClampNeg = m.toNat := by rw [← hi]; rfl
  have t1 : t.toInt = tI tf m.toNat := by rw [et, n1]; rfl
  intro to L hn hE hL hS
  obtain ⟨s1, s2, s3, s4⟩ := h to L hn hE hL hS
  refine ⟨s1, s2, fun e he ht9 => ?_, s4⟩
  rcases (show e < m.toNat ∨ e = m.toNat by omega) with q | q
  · exact s3 e q ht9
  · subst q
    exact absurd (t1.symm.trans ht) ht9
theorem imI_g {n : Nat} {tf wf lf : Nat → Int32} {A0 : Nat → Int} {m m1 b : Int} {i a c x y t d : Int32} (h : imI n (tI tf) (tI wf) A0 (tI lf) m b) (hi : i.toInt = m) (h0 : 0 ≤ m) (h1 : m < 4 * (n : Int)) (et : t = tf (Int32.toNatClampNeg i)) (ht : t.toInt ≠ -1) (ea : a = wf (Int32.toNatClampNeg i)) (ec : c = lf (Int32.toNatClampNeg t)) (ex : x = a + c) (hd : d.toInt = m / 4) (ey : y = lf (Int32.toNatClampNeg d)) (hle : y.toInt ≤ x.toInt) (hm : m1 = m + 1) : imI n (tI tf) (tI wf) A0 (tI lf) m1 b := by
  intro to L hn hE hL hS
  obtain ⟨s1, s2, s3, s4⟩ := h to L hn hE hL hS
  obtain ⟨⟨k1, k2, k3⟩, k4, k5, -⟩ := im_sum hE hL s1.2 hi h0 h1 et ht ea ec ex hd ey
  refine ⟨s1, s2, fun e he ht9 => ?_, s4⟩
  rcases (show e < m.toNat ∨ e = m.toNat by omega) with q | q
  · exact s3 e q ht9
  · subst q
    have := s2 (tI tf m.toNat).toNat (by omega)
    omega
theorem imI_y {n : Nat} {tf wf lf lf1 : Nat → Int32} {A0 : Nat → Int} {m m1 b b1 : Int} {i a c x y t d d2 : Int32} (h : imI n (tI tf) (tI wf) A0 (tI lf) m b) (hi : i.toInt = m) (h0 : 0 ≤ m) (h1 : m < 4 * (n : Int)) (et : t = tf (Int32.toNatClampNeg i)) (ht : t.toInt ≠ -1) (ea : a = wf (Int32.toNatClampNeg i)) (ec : c = lf (Int32.toNatClampNeg t)) (ex : x = a + c) (hd : d.toInt = m / 4) (ey : y = lf (Int32.toNatClampNeg d)) (hlt : x.toInt < y.toInt) (hd2 : d2.toInt = m / 4) (u : upd lf (Int32.toNatClampNeg d2) x = lf1) (hb : b1 ≠ 0) (hm : m1 = m + 1) : imI n (tI tf) (tI wf) A0 (tI lf1) m1 b1 := by
  intro to L hn hE hL hS
  obtain ⟨s1, s2, s3, -⟩ := h to L hn hE hL hS
  obtain ⟨⟨k1, k2, k3⟩, k4, k5, k6⟩ := im_sum hE hL s1.2 hi h0 h1 et ht ea ec ex hd ey
  have n3 : d2.toNatClampNeg = m.toNat / 4 := by
    have e9 : d2.toNatClampNeg = d2.toInt.toNat := rfl
    omega
  have e1 : tI lf1 = fun j => if j = m.toNat / 4 then tI wf m.toNat + tI lf (tI tf m.toNat).toNat else tI lf j := by
    funext j
    rw [← u]
    unfold tI upd
    rw [n3]
    by_cases q : j = m.toNat / 4
    · rw [if_pos q, if_pos q]; exact k4
    · rw [if_neg q, if_neg q]
  have ev : ∀ j : Nat, tI lf1 j = if j = m.toNat / 4 then tI wf m.toNat + tI lf (tI tf m.toNat).toNat else tI lf j := fun j => by rw [e1]
  have hle : ∀ j : Nat, tI lf1 j ≤ tI lf j := fun j => by
    rw [ev j]
    by_cases q : j = m.toNat / 4
    · rw [if_pos q, q]; omega
    · rw [if_neg q]; exact Int.le_refl _
  have hG : wyG n L (tI lf1) := by
    rw [e1]
    exact wyG_up hE hL hn s1.2 (show m.toNat < 4 * n by omega) k1 (by omega)
  refine ⟨⟨?_, hG⟩, fun j hj => Int.le_trans (hle j) (s2 j hj), fun e he ht9 => ?_, fun z => absurd z hb⟩
  · rw [ev to]
    by_cases q : to = m.toNat / 4
    · have z1 := s1.1
      rw [q] at z1
      omega
    · rw [if_neg q]; exact s1.1
  · rcases (show e < m.toNat ∨ e = m.toNat by omega) with q | q
    · exact Int.le_trans (hle _) (s3 e q ht9)
    · subst q
      have z1 := s2 (tI tf m.toNat).toNat (by omega)
      rw [ev, if_pos rfl]
      omega
/-- the first row of left: 0 at the goal, else far -/
def msZ (n : Int) (to : Int) (lf : Nat → Int32) (m : Int) : Prop := ∀ c : Nat, (c : Int) < m → ((c : Int) = to ∧ (lf c).toInt = 0) ∨ ((c : Int) ≠ to ∧ (lf c).toInt = 1000000)
theorem msZ_0 {n to m : Int} {lf : Nat → Int32} (h : m ≤ 0) : msZ n to lf m := fun c hc => by omega
theorem msZ_up {n to m m1 : Int} {lf lf1 : Nat → Int32} {i v : Int32} (h : msZ n to lf m) (hi : i.toInt = m) (h0 : 0 ≤ m) (u : upd lf (Int32.toNatClampNeg i) v = lf1) (hv : (m = to ∧ v.toInt = 0) ∨ (m ≠ to ∧ v.toInt = 1000000)) (hm : m1 = m + 1) : msZ n to lf1 m1 := by
  have n1 : i.toNatClampNeg = m.toNat := by rw [← hi]; rfl
  intro c hc
  rw [← u]
  unfold upd
  rw [n1]
  by_cases q : c = m.toNat
  · rw [if_pos q]; omega
  · rw [if_neg q]; exact h c (by omega)
def msI (n : Nat) (T W A : Nat → Int) (to : Int) (k b : Int) : Prop := ∀ L : Nat → Int, 0 ≤ to → n ≤ 20 → wyE n T W → wyL n T W to.toNat L → wyS n L to.toNat A ∧ wyK n L A k.toNat ∧ (b = 0 → wyR T W A A (4 * n))
theorem msI_0 {n : Int} {T W : Nat → Int} {lf : Nat → Int32} {to m k b : Int} (h : msZ n to lf m) (hm : n ≤ m) (hk : k = 0) (hb : b ≠ 0) : msI n.toNat T W (tI lf) to k b := by
  intro L h0 hn hE hL
  obtain ⟨⟨l1, l2⟩, -⟩ := id hL
  have hz : tI lf to.toNat = 0 := by
    rcases h to.toNat (by omega) with q | q
    · exact q.2
    · omega
  subst hk
  refine ⟨⟨hz, fun c hc => ?_⟩, wyK_0 hL hz, fun z => absurd z hb⟩
  rcases h c (by omega) with ⟨q1, q2⟩ | ⟨q1, q2⟩
  · have e1 : c = to.toNat := by omega
    have q3 : tI lf c = 0 := q2
    rw [q3]
    exact ⟨by decide, fun z => by rw [e1, l2] at z; exact absurd z (by decide), fun _ => by rw [e1, l2]; exact Int.le_refl 0⟩
  · have q3 : tI lf c = 1000000 := q2
    rw [q3]
    exact ⟨Int.le_refl _, fun _ => rfl, fun z => by have := wyL_fin hE hL hn hc z; omega⟩
theorem msI_up {n : Nat} {T W A A1 : Nat → Int} {to k k1 b b1 : Int} (h : msI n T W A to k b) (hi : imI n T W A A1 (4 * (n : Int)) b1) (h0 : 0 ≤ k) (hk : k1 = k + 1) : msI n T W A1 to k1 b1 := by
  intro L ht hn hE hL
  obtain ⟨s1, s2, -⟩ := h L ht hn hE hL
  obtain ⟨i1, i2, i3, i4⟩ := hi to.toNat L hn hE hL s1
  have i5 : wyR T W A A1 (4 * n) := fun e he => i3 e (by omega)
  refine ⟨i1, ?_, fun z e he ht9 => ?_⟩
  · rw [show k1.toNat = k.toNat + 1 by omega]
    exact wyK_up hE hL s2 i1.2 i2 i5 s1.1
  · have g := i5 e he ht9
    rcases hE e he with q | ⟨q1, q2, -, -⟩
    · exact absurd q ht9
    · rw [i4 z (T e).toNat (by omega)]
      exact g
/-- what measure says -/
def msQ (n to : Int) (tf wf lf : Nat → Int32) : Prop := ∀ L : Nat → Int, 0 ≤ to → n ≤ 20 → wyE n.toNat (tI tf) (tI wf) → wyL n.toNat (tI tf) (tI wf) to.toNat L → wyA n.toNat L (tI lf)
theorem msQ_of {n to k b : Int} {tf wf lf : Nat → Int32} (h : msI n.toNat (tI tf) (tI wf) (tI lf) to k b) (he : n ≤ k ∨ b = 0) : msQ n to tf wf lf := by
  intro L h0 hn hE hL
  have hn2 : n.toNat ≤ 20 := by omega
  obtain ⟨s1, s2, s3⟩ := h L h0 hn2 hE hL
  refine wyA_of hE hL hn2 s1.2 ?_
  rcases he with q | q
  · exact fun c hc hk hf => s2 c hc (by omega) hf
  · exact wyK_fix hE hL s1.2 (s3 q) s1.1 _
/-- the first STEP by which nothing is lost, in rows -/
def okC (tf wf lf : Nat → Int32) (c s : Int) : Prop := (tf (c * 4 + s).toNat).toInt ≠ -1 ∧ wf (c * 4 + s).toNat + lf (tf (c * 4 + s).toNat).toInt.toNat = lf c.toNat
def nokC (tf wf lf : Nat → Int32) (c m : Int) : Prop := ∀ s : Int, 0 ≤ s → s < m → ¬ okC tf wf lf c s
def fsR (tf wf lf : Nat → Int32) (c r : Int) : Prop := (r = -1 ∧ nokC tf wf lf c 4) ∨ (0 ≤ r ∧ r < 4 ∧ okC tf wf lf c r ∧ nokC tf wf lf c r)
theorem nokC_0 {tf wf lf : Nat → Int32} {c m : Int} (h : m ≤ 0) : nokC tf wf lf c m := fun s h1 h2 => by omega
theorem nokC_e {tf wf lf : Nat → Int32} {c m m' : Int} (h : nokC tf wf lf c m) (e : m' ≤ m) : nokC tf wf lf c m' := fun s h1 h2 => h s h1 (by omega)
theorem nokC_s {tf wf lf : Nat → Int32} {c m m1 : Int} (h : nokC tf wf lf c m) (hn : ¬ okC tf wf lf c m) (hm : m1 = m + 1) : nokC tf wf lf c m1 := fun s h1 h2 => by
  rcases (show s < m ∨ s = m by omega) with q | q
  · exact h s h1 q
  · rw [q]; exact hn
theorem nokC_n {tf wf lf : Nat → Int32} {c m m1 : Int} {i t : Int32} (h : nokC tf wf lf c m) (hi : i.toInt = c * 4 + m) (et : t = tf (Int32.toNatClampNeg i)) (ht : t.toInt = -1) (hm : m1 = m + 1) : nokC tf wf lf c m1 := by
  have n1 : i.toNatClampNeg = (c * 4 + m).toNat := by rw [← hi]; rfl
  rw [n1] at et
  exact nokC_s h (fun z => z.1 (by rw [← et]; exact ht)) hm
theorem okC_x {tf wf lf : Nat → Int32} {c m : Int} {i t a b x y p : Int32} (hi : i.toInt = c * 4 + m) (et : t = tf (Int32.toNatClampNeg i)) (ea : a = wf (Int32.toNatClampNeg i)) (eb : b = lf (Int32.toNatClampNeg t)) (ex : x = a + b) (hp : p.toInt = c) (ey : y = lf (Int32.toNatClampNeg p)) : wf (c * 4 + m).toNat + lf (tf (c * 4 + m).toNat).toInt.toNat = x ∧ lf c.toNat = y := by
  have n1 : i.toNatClampNeg = (c * 4 + m).toNat := by rw [← hi]; rfl
  have n2 : t.toNatClampNeg = t.toInt.toNat := rfl
  have n3 : p.toNatClampNeg = c.toNat := by rw [← hp]; rfl
  rw [n1] at et ea
  rw [n2] at eb
  rw [n3] at ey
  rw [← et, ← ea, ← eb, ← ex, ← ey]
  exact ⟨rfl, rfl⟩
theorem nokC_g {tf wf lf : Nat → Int32} {c m m1 : Int} {i t a b x y p : Int32} (h : nokC tf wf lf c m) (hi : i.toInt = c * 4 + m) (et : t = tf (Int32.toNatClampNeg i)) (ea : a = wf (Int32.toNatClampNeg i)) (eb : b = lf (Int32.toNatClampNeg t)) (ex : x = a + b) (hp : p.toInt = c) (ey : y = lf (Int32.toNatClampNeg p)) (hne : x.toInt ≠ y.toInt) (hm : m1 = m + 1) : nokC tf wf lf c m1 := by
  obtain ⟨q1, q2⟩ := okC_x hi et ea eb ex hp ey
  exact nokC_s h (fun z => hne (by rw [← q1, ← q2, z.2])) hm
theorem okC_y {tf wf lf : Nat → Int32} {c m : Int} {i t a b x y p : Int32} (hi : i.toInt = c * 4 + m) (et : t = tf (Int32.toNatClampNeg i)) (ht : t.toInt ≠ -1) (ea : a = wf (Int32.toNatClampNeg i)) (eb : b = lf (Int32.toNatClampNeg t)) (ex : x = a + b) (hp : p.toInt = c) (ey : y = lf (Int32.toNatClampNeg p)) (he : x.toInt = y.toInt) : okC tf wf lf c m := by
  obtain ⟨q1, q2⟩ := okC_x hi et ea eb ex hp ey
  have n1 : i.toNatClampNeg = (c * 4 + m).toNat := by rw [← hi]; rfl
  rw [n1] at et
  exact ⟨by rw [← et]; exact ht, by rw [q1, q2]; exact Int32.toInt_inj.mp he⟩
/-- in rows, in numbers -/
theorem okC_L {n : Int} {T W : Nat → Int} {tf wf lf : Nat → Int32} {to : Nat} {L : Nat → Int} {c s : Int} (hw : wgP (4 * n) T W tf wf) (hE : wyE n.toNat T W) (hL : wyL n.toNat T W to L) (hA : wyA n.toNat L (tI lf)) (c0 : 0 ≤ c) (c1 : c < n) (s0 : 0 ≤ s) (s4 : s < 4) (hf : L c.toNat ≠ 9999999) : okC tf wf lf c s ↔ okL T W L c.toNat s.toNat := by
  have hi : (c * 4 + s).toNat = 4 * c.toNat + s.toNat := by omega
  obtain ⟨w1, w2⟩ := hw (4 * c.toNat + s.toNat) (by omega)
  have hk := ok_A (s := s.toNat) hE hA (show c.toNat < n.toNat by omega) (by omega) hf
  unfold okC
  rw [hi, w1]
  refine Iff.trans ?_ hk
  have key : T (4 * c.toNat + s.toNat) ≠ -1 → ((wf (4 * c.toNat + s.toNat) + lf (T (4 * c.toNat + s.toNat)).toNat = lf c.toNat) ↔ W (4 * c.toNat + s.toNat) + tI lf (T (4 * c.toNat + s.toNat)).toNat = tI lf c.toNat) := fun ht => by
    rcases hE (4 * c.toNat + s.toNat) (by omega) with q | ⟨q1, q2, q3, q4⟩
    · exact absurd q ht
    · have h9 : 0 ≤ tI lf (T (4 * c.toNat + s.toNat)).toNat ∧ tI lf (T (4 * c.toNat + s.toNat)).toNat ≤ 1000000 := by
        have a9 := hA (T (4 * c.toNat + s.toNat)).toNat (by omega)
        have z9 := wyL_0 hL (c := (T (4 * c.toNat + s.toNat)).toNat) (by omega)
        by_cases z : L (T (4 * c.toNat + s.toNat)).toNat = 9999999
        · have := a9.1 z; omega
        · have := a9.2 z; omega
      have e1 : (wf (4 * c.toNat + s.toNat) + lf (T (4 * c.toNat + s.toNat)).toNat).toInt = W (4 * c.toNat + s.toNat) + tI lf (T (4 * c.toNat + s.toNat)).toNat := ti_add rfl (w2 ht) rfl (by omega) (by omega)
      constructor
      · intro z
        rw [← e1, z]
        rfl
      · intro z
        exact Int32.toInt_inj.mp (e1.trans z)
  constructor
  · intro ⟨h1, h2⟩
    exact ⟨h1, (key h1).mp h2⟩
  · intro ⟨h1, h2⟩
    exact ⟨h1, (key h1).mpr h2⟩
theorem fs_L {n : Int} {T W : Nat → Int} {tf wf lf : Nat → Int32} {to : Nat} {L : Nat → Int} {c r : Int} (hw : wgP (4 * n) T W tf wf) (hE : wyE n.toNat T W) (hL : wyL n.toNat T W to L) (hA : wyA n.toNat L (tI lf)) (c0 : 0 ≤ c) (c1 : c < n) (hf : L c.toNat ≠ 9999999) (hp : 0 < L c.toNat) (h : fsR tf wf lf c r) : 0 ≤ r ∧ r < 4 ∧ fsL T W L c.toNat = r.toNat ∧ okL T W L c.toNat r.toNat := by
  obtain ⟨f1, f2⟩ := fsL_ok hL (show c.toNat < n.toNat by omega) hp hf
  rcases h with ⟨-, h2⟩ | ⟨h1, h2, h3, h4⟩
  · have e1 : ((fsL T W L c.toNat : Nat) : Int).toNat = fsL T W L c.toNat := by omega
    exact absurd ((okC_L (s := ((fsL T W L c.toNat : Nat) : Int)) hw hE hL hA c0 c1 (by omega) (by omega) hf).mpr (by rw [e1]; exact f2)) (h2 _ (by omega) (by omega))
  · have g1 := (okC_L hw hE hL hA c0 c1 h1 h2 hf).mp h3
    refine ⟨h1, h2, fsL_of (by omega) g1 (fun j hj z => ?_), g1⟩
    have e1 : ((j : Nat) : Int).toNat = j := by omega
    exact h4 (j : Int) (by omega) (by omega) ((okC_L (s := (j : Int)) hw hE hL hA c0 c1 (by omega) (by omega) hf).mpr (by rw [e1]; exact z))
theorem smL_bd {n : Nat} {T W X : Nat → Int} {to : Nat} {L : Nat → Int} {c0 : Nat} (hE : wyE n T W) (h : wyL n T W to L) (hc : c0 < n) (hf : L c0 ≠ 9999999) (hx : ∀ e : Nat, e < 4 * n → T e ≠ -1 → 0 ≤ X e ∧ X e ≤ 4) : ∀ k : Nat, 0 ≤ smL T W L X c0 k ∧ smL T W L X c0 k ≤ 4 * (k : Int)
  | 0 => ⟨Int.le_refl _, Int.le_refl _⟩
  | k + 1 => by
    have ih := smL_bd hE h hc hf hx k
    obtain ⟨i1, i2, -⟩ := pcL_in hE h hc hf k
    rw [smL_s]
    by_cases hp : 0 < L (pcL T W L c0 k)
    · rw [if_pos hp]
      obtain ⟨s1, s2, -⟩ := fsL_ok h i1 hp i2
      have := hx _ (show 4 * pcL T W L c0 k + fsL T W L (pcL T W L c0 k) < 4 * n by omega) s2
      omega
    · rw [if_neg hp]
      omega
theorem pcL_st {T W L : Nat → Int} {c0 k : Nat} (h : ¬ 0 < L (pcL T W L c0 k)) : ∀ j : Nat, pcL T W L c0 (k + j) = pcL T W L c0 k
  | 0 => rfl
  | j + 1 => by
    have ih := pcL_st h j
    show pcL T W L c0 ((k + j) + 1) = _
    rw [pcL_s, ih, if_neg h]
/-- a way as rows hold it -/
def wyP (T W M F L : Nat → Int) (c0 : Nat) (st pl ar : Nat → Int32) (len fc : Int) : Prop := (0 ≤ len ∧ len ≤ 20) ∧ L (pcL T W L c0 len.toNat) = 0 ∧ fc = smL T W L F c0 len.toNat ∧ (∀ j : Nat, (j : Int) < len → 0 < L (pcL T W L c0 j) ∧ (st j).toInt = (fsL T W L (pcL T W L c0 j) : Int)) ∧ ∀ j : Nat, (j : Int) ≤ len → (pl j).toInt = (pcL T W L c0 j : Int) ∧ (ar j).toInt = smL T W L M c0 j
/-- following it -/
def flH (T W M F L : Nat → Int) (c0 : Nat) (i c : Int) (st pl ar : Nat → Int32) (len fc : Int) : Prop := c = (pcL T W L c0 i.toNat : Int) ∧ len = i ∧ fc = smL T W L F c0 i.toNat ∧ (∀ j : Nat, (j : Int) < i → 0 < L (pcL T W L c0 j) ∧ (st j).toInt = (fsL T W L (pcL T W L c0 j) : Int)) ∧ ∀ j : Nat, (j : Int) ≤ i → (pl j).toInt = (pcL T W L c0 j : Int) ∧ (ar j).toInt = smL T W L M c0 j
def fwH (w n k to : Int) (f tf wf lf : Nat → Int32) (c0 a0 len0 fc0 q : Int) (L : Nat → Int) : Prop := (n ≤ 20 ∧ 0 ≤ to ∧ to < n) ∧ wgP (4 * n) (cT w n f k) (cW w n f k q) tf wf ∧ wyL n.toNat (cT w n f k) (cW w n f k q) to.toNat L ∧ wyA n.toNat L (tI lf) ∧ (0 ≤ c0 ∧ c0 < n ∧ L c0.toNat ≠ 9999999) ∧ a0 = 0 ∧ len0 = 0 ∧ fc0 = 0
def flI (w n k to : Int) (f tf wf lf : Nat → Int32) (c0 a0 len0 fc0 i c : Int) (st pl ar : Nat → Int32) (len fc : Int) : Prop := ∀ (q : Int) (L : Nat → Int), fwH w n k to f tf wf lf c0 a0 len0 fc0 q L → flH (cT w n f k) (cW w n f k q) (cM w n f k) (cF w n f k) L c0.toNat i c st pl ar len fc
def fwQ (w n k to : Int) (f tf wf lf : Nat → Int32) (c0 a0 len0 fc0 : Int) (st pl ar : Nat → Int32) (len fc : Int) : Prop := ∀ (q : Int) (L : Nat → Int), fwH w n k to f tf wf lf c0 a0 len0 fc0 q L → wyP (cT w n f k) (cW w n f k q) (cM w n f k) (cF w n f k) L c0.toNat st pl ar len fc
theorem flI_0 {w n k to i : Int} {f tf wf lf st pl ar : Nat → Int32} {x : Int32} {len fc : Int} (ex : x = pl (Int32.toNatClampNeg 0)) (hi : i = 0) : flI w n k to f tf wf lf (pl 0).toInt (ar 0).toInt len fc i x.toInt st pl ar len fc := by
  have e0 : Int32.toNatClampNeg 0 = 0 := by decide
  intro q L H
  obtain ⟨-, -, -, -, ⟨h1, -, -⟩, h2, h3, h4⟩ := H
  subst hi
  rw [e0] at ex
  refine ⟨?_, h3, h4, fun j hj => by omega, fun j hj => ?_⟩
  · rw [ex]
    show (pl 0).toInt = (((pl 0).toInt.toNat : Nat) : Int)
    omega
  · obtain rfl : j = 0 := by omega
    exact ⟨by show (pl 0).toInt = (((pl 0).toInt.toNat : Nat) : Int); omega, h2⟩
set_option maxHeartbeats 4000000 in
theorem flI_up {w n k to c0 a0 len0 fc0 i i1 c len fc len1 : Int} {f tf wf lf st pl ar st1 pl1 ar1 : Nat → Int32} {I J J2 R fv fl x y t s g : Int32} (h : flI w n k to f tf wf lf c0 a0 len0 fc0 i c st pl ar len fc) (h0 : 0 ≤ i) (h20 : i < 20) (hne : c ≠ to) (hR : fsR tf wf lf c R.toInt) (hR1 : R.toInt ≠ -1) (hfl : fl.toInt = flZ w n f k c R.toInt) (hfv : fv.toInt = fc) (ex : x = fv + fl) (hI : I.toInt = i) (ey : y = ar (Int32.toNatClampNeg I)) (ht : t.toInt = tfZ w n f k c R.toInt) (es : s = y + t) (hJ : J.toInt = i + 1) (u1 : upd ar (Int32.toNatClampNeg J) s = ar1) (hg : (tf (c * 4 + R.toInt).toNat).toInt = g.toInt) (u2 : upd st (Int32.toNatClampNeg I) R = st1) (hJ2 : J2.toInt = i + 1) (u3 : upd pl (Int32.toNatClampNeg J2) g = pl1) (hl : len1 = i + 1) (hi : i1 = i + 1) : flI w n k to f tf wf lf c0 a0 len0 fc0 i1 g.toInt st1 pl1 ar1 len1 x.toInt := by
  have nI : I.toNatClampNeg = i.toNat := by rw [← hI]; rfl
  have nJ : J.toNatClampNeg = i.toNat + 1 := by
    have e9 : J.toNatClampNeg = J.toInt.toNat := rfl
    omega
  have nJ2 : J2.toNatClampNeg = i.toNat + 1 := by
    have e9 : J2.toNatClampNeg = J2.toInt.toNat := rfl
    omega
  have e1 : i1.toNat = i.toNat + 1 := by omega
  clear hI hJ hJ2
  intro q L H
  obtain ⟨k1, k2, k3, k4, k5⟩ := h q L H
  obtain ⟨⟨b1, b2, b3⟩, hw, hL, hA, ⟨b4, b5, b6⟩, -⟩ := H
  have hE := wyE_c w n f k q
  have hc0 : c0.toNat < n.toNat := by omega
  obtain ⟨p1, p2, -⟩ := pcL_in hE hL hc0 b6 i.toNat
  have ec : c.toNat = pcL (cT w n f k) (cW w n f k q) L c0.toNat i.toNat := by omega
  rw [← ec] at p1 p2
  have hp : 0 < L c.toNat := hL.2.1 c.toNat p1 (by omega)
  obtain ⟨r1, r2, r3, r4⟩ := fs_L hw hE hL hA (show 0 ≤ c by omega) (show c < n by omega) p2 hp hR
  have hT : cT w n f k (4 * c.toNat + R.toInt.toNat) ≠ -1 := r4.1
  have he : (((4 * c.toNat + R.toInt.toNat) / 4 : Nat) : Int) = c := by omega
  have he2 : (((4 * c.toNat + R.toInt.toNat) % 4 : Nat) : Int) = R.toInt := by omega
  have eM : cM w n f k (4 * c.toNat + R.toInt.toNat) = tfZ w n f k c R.toInt := by
    have z := tX_o (x := tfZ w n f k) hT
    rw [he, he2] at z
    exact z
  have eF : cF w n f k (4 * c.toNat + R.toInt.toNat) = flZ w n f k c R.toInt := by
    have z := tX_o (x := flZ w n f k) hT
    rw [he, he2] at z
    exact z
  have eg : g.toInt = cT w n f k (4 * c.toNat + R.toInt.toNat) := by
    rw [← hg, show (c * 4 + R.toInt).toNat = 4 * c.toNat + R.toInt.toNat by omega]
    exact (hw _ (by omega)).1
  have hgb : 0 ≤ g.toInt := by
    rcases hE (4 * c.toNat + R.toInt.toNat) (by omega) with z | ⟨z, -⟩
    · exact absurd z hT
    · omega
  have hXM : ∀ e : Nat, e < 4 * n.toNat → cT w n f k e ≠ -1 → 0 ≤ cM w n f k e ∧ cM w n f k e ≤ 4 := fun e _ z => by
    have z1 : (1 ≤ cM w n f k e ∧ cM w n f k e ≤ 4) ∧ 0 ≤ cF w n f k e ∧ cF w n f k e ≤ 1 := tX_bd (cO w n f k) z
    omega
  have hXF : ∀ e : Nat, e < 4 * n.toNat → cT w n f k e ≠ -1 → 0 ≤ cF w n f k e ∧ cF w n f k e ≤ 4 := fun e _ z => by
    have z1 : (1 ≤ cM w n f k e ∧ cM w n f k e ≤ 4) ∧ 0 ≤ cF w n f k e ∧ cF w n f k e ≤ 1 := tX_bd (cO w n f k) z
    omega
  have sM := smL_bd hE hL hc0 b6 hXM i.toNat
  have sF := smL_bd hE hL hc0 b6 hXF i.toNat
  have eP : pcL (cT w n f k) (cW w n f k q) L c0.toNat (i.toNat + 1) = g.toInt.toNat := by
    rw [pcL_s, ← ec, if_pos hp, r3, ← eg]
  have eSM : smL (cT w n f k) (cW w n f k q) L (cM w n f k) c0.toNat (i.toNat + 1) = smL (cT w n f k) (cW w n f k q) L (cM w n f k) c0.toNat i.toNat + tfZ w n f k c R.toInt := by
    rw [smL_s, ← ec, if_pos hp, r3, eM]
  have eSF : smL (cT w n f k) (cW w n f k q) L (cF w n f k) c0.toNat (i.toNat + 1) = smL (cT w n f k) (cW w n f k q) L (cF w n f k) c0.toNat i.toNat + flZ w n f k c R.toInt := by
    rw [smL_s, ← ec, if_pos hp, r3, eF]
  have hz9 := flZ_bd w n f k c R.toInt
  have hz8 := tfZ_bd w n f k c R.toInt
  have x1 : x.toInt = smL (cT w n f k) (cW w n f k q) L (cF w n f k) c0.toNat i.toNat + flZ w n f k c R.toInt := ti_add ex (hfv.trans k3) hfl (by omega) (by omega)
  have y1 : y.toInt = smL (cT w n f k) (cW w n f k q) L (cM w n f k) c0.toNat i.toNat := by
    rw [ey, nI]
    exact (k5 i.toNat (by omega)).2
  have s1 : s.toInt = smL (cT w n f k) (cW w n f k q) L (cM w n f k) c0.toNat i.toNat + tfZ w n f k c R.toInt := ti_add es y1 ht (by omega) (by omega)
  refine ⟨?_, by omega, ?_, fun j hj => ?_, fun j hj => ?_⟩
  · rw [e1, eP]
    omega
  · rw [e1, eSF]
    exact x1
  · rw [← u2]
    unfold upd
    rw [nI]
    by_cases z : j = i.toNat
    · rw [if_pos z, z, ← ec]
      exact ⟨hp, by rw [r3]; omega⟩
    · rw [if_neg z]
      exact k4 j (by omega)
  · rw [← u3, ← u1]
    unfold upd
    rw [nJ, nJ2]
    by_cases z : j = i.toNat + 1
    · rw [if_pos z, if_pos z, z, eP, eSM]
      exact ⟨by omega, s1⟩
    · rw [if_neg z, if_neg z]
      exact k5 j (by omega)
theorem fwQ_of {w n k to c0 a0 len0 fc0 i c len fc : Int} {f tf wf lf st pl ar : Nat → Int32} (h : flI w n k to f tf wf lf c0 a0 len0 fc0 i c st pl ar len fc) (h0 : 0 ≤ i) (h20 : i ≤ 20) (he : c = to ∨ i = 20 ∨ ∃ R : Int, R = -1 ∧ c ≠ to ∧ fsR tf wf lf c R) : fwQ w n k to f tf wf lf c0 a0 len0 fc0 st pl ar len fc := by
  intro q L H
  obtain ⟨k1, k2, k3, k4, k5⟩ := h q L H
  obtain ⟨⟨b1, b2, b3⟩, hw, hL, hA, ⟨b4, b5, b6⟩, -⟩ := H
  have hE := wyE_c w n f k q
  have hc0 : c0.toNat < n.toNat := by omega
  obtain ⟨p1, p2, -⟩ := pcL_in hE hL hc0 b6 i.toNat
  have ec : c.toNat = pcL (cT w n f k) (cW w n f k q) L c0.toNat i.toNat := by omega
  have hz : L (pcL (cT w n f k) (cW w n f k q) L c0.toNat i.toNat) = 0 := by
    rcases he with z | z | ⟨R, z0, z1, z2⟩
    · rw [← ec, z]
      exact hL.1.2
    · have z1 := pcL_end hE hL hc0 b6 (k := i.toNat) (by omega)
      have z2 := wyL_0 hL p1
      omega
    · rw [← ec] at p1 p2
      have hp : 0 < L c.toNat := hL.2.1 c.toNat p1 (by omega)
      obtain ⟨r1, -⟩ := fs_L hw hE hL hA (show 0 ≤ c by omega) (show c < n by omega) p2 hp z2
      omega
  subst k2
  exact ⟨⟨h0, h20⟩, hz, k3, k4, k5⟩
theorem upd_00 (f : Nat → Int32) (v : Int32) : upd f (Int32.toNatClampNeg 0) v 0 = v := by
  have e0 : Int32.toNatClampNeg 0 = 0 := by decide
  unfold upd
  rw [e0, if_pos rfl]
/-- a way that is looked for: found or not -/
def fdQ (w n : Int) (f : Nat → Int32) (k fr to q r : Int) (st pl ar : Nat → Int32) (len fc : Int) : Prop := (r = 0 ∧ (fr < 0 ∨ n ≤ fr ∨ to < 0 ∨ n ≤ to)) ∨ ((0 ≤ fr ∧ fr < n ∧ 0 ≤ to ∧ to < n) ∧ ∀ L : Nat → Int, wyL n.toNat (cT w n f k) (cW w n f k q) to.toNat L → (L fr.toNat = 9999999 ∧ r = 0) ∨ (L fr.toNat ≠ 9999999 ∧ r = 1 ∧ wyP (cT w n f k) (cW w n f k q) (cM w n f k) (cF w n f k) L fr.toNat st pl ar len fc))
theorem fdQ_no {w n k fr to q r : Int} {f st pl ar : Nat → Int32} {len fc : Int} (hr : r = 0) (h : fr < 0 ∨ n ≤ fr ∨ to < 0 ∨ n ≤ to) : fdQ w n f k fr to q r st pl ar len fc := Or.inl ⟨hr, h⟩
theorem fd_A {w n k to q : Int} {f tf wf lf : Nat → Int32} (hw : wgP (4 * n) (cT w n f k) (cW w n f k q) tf wf) (hm : msQ n to tf wf lf) (hn : n ≤ 20) (h2 : 0 ≤ to) {L : Nat → Int} (hL : wyL n.toNat (cT w n f k) (cW w n f k q) to.toNat L) : wyA n.toNat L (tI lf) := hm L h2 hn (wyE_r (wg_r hw) (wyE_c w n f k q)) (wyL_r (wg_r hw) hL)
theorem fdQ_far {w n k fr to q r : Int} {f tf wf lf st pl ar : Nat → Int32} {len fc : Int} {I x : Int32} (hw : wgP (4 * n) (cT w n f k) (cW w n f k q) tf wf) (hm : msQ n to tf wf lf) (hn : n ≤ 20) (h0 : 0 ≤ fr) (h1 : fr < n) (h2 : 0 ≤ to) (h3 : to < n) (hI : I.toInt = fr) (ex : x = lf (Int32.toNatClampNeg I)) (hx : 1000000 ≤ x.toInt) (hr : r = 0) : fdQ w n f k fr to q r st pl ar len fc := by
  refine Or.inr ⟨⟨h0, h1, h2, h3⟩, fun L hL => Or.inl ⟨?_, hr⟩⟩
  have n1 : I.toNatClampNeg = fr.toNat := by rw [← hI]; rfl
  have hA := fd_A hw hm hn h2 hL fr.toNat (by omega)
  have e1 : x.toInt = tI lf fr.toNat := by rw [ex, n1]; rfl
  exact Classical.byContradiction (fun z => by
    have := hA.2 z
    omega)
theorem fdQ_yes {w n k fr to q r c0 a0 len0 fc0 : Int} {f tf wf lf st pl ar : Nat → Int32} {len fc : Int} {I x : Int32} (hw : wgP (4 * n) (cT w n f k) (cW w n f k q) tf wf) (hm : msQ n to tf wf lf) (hn : n ≤ 20) (h0 : 0 ≤ fr) (h1 : fr < n) (h2 : 0 ≤ to) (h3 : to < n) (hI : I.toInt = fr) (ex : x = lf (Int32.toNatClampNeg I)) (hx : x.toInt < 1000000) (hF : fwQ w n k to f tf wf lf c0 a0 len0 fc0 st pl ar len fc) (hc0 : c0 = fr) (ha : a0 = 0) (hl : len0 = 0) (hc : fc0 = 0) (hr : r = 1) : fdQ w n f k fr to q r st pl ar len fc := by
  rw [hc0] at hF
  refine Or.inr ⟨⟨h0, h1, h2, h3⟩, fun L hL => Or.inr ?_⟩
  have n1 : I.toNatClampNeg = fr.toNat := by rw [← hI]; rfl
  have hA := fd_A hw hm hn h2 hL
  have e1 : x.toInt = tI lf fr.toNat := by rw [ex, n1]; rfl
  have hf : L fr.toNat ≠ 9999999 := fun z => by
    have := (hA fr.toNat (by omega)).1 z
    omega
  exact ⟨hf, hr, hF q L ⟨⟨hn, h2, h3⟩, hw, hL, hA, ⟨h0, h1, hf⟩, ha, hl, hc⟩⟩
/-- what a way weighs, in its two numbers -/
def wyV (fi l : Int) : Int := if l = 9999999 then -2 else if fi ≠ 0 then l / 1000 else l % 1000
theorem wyP_mf {w n : Int} {f : Nat → Int32} {k q : Int} {to : Nat} {L : Nat → Int} {c0 : Nat} {st pl ar : Nat → Int32} {len fc : Int} (hL : wyL n.toNat (cT w n f k) (cW w n f k q) to L) (hn : n ≤ 20) (hc : c0 < n.toNat) (hf : L c0 ≠ 9999999) (h : wyP (cT w n f k) (cW w n f k q) (cM w n f k) (cF w n f k) L c0 st pl ar len fc) : (q = 0 → (ar len.toNat).toInt = L c0 / 1000 ∧ fc = L c0 % 1000) ∧ (q ≠ 0 → fc = L c0 / 1000 ∧ (ar len.toNat).toInt = L c0 % 1000) := by
  obtain ⟨⟨h1, h2⟩, h3, h4, -, h6⟩ := h
  have hE := wyE_c w n f k q
  have h7 := (h6 len.toNat (by omega)).2
  refine ⟨fun z => ?_, fun z => ?_⟩
  · have g := smL_end (M := cM w n f k) (F := cF w n f k) hE hL (by omega) hc hf (fun e _ he => by
      have z1 : (1 ≤ cM w n f k e ∧ cM w n f k e ≤ 4) ∧ 0 ≤ cF w n f k e ∧ cF w n f k e ≤ 1 := tX_bd (cO w n f k) he
      have z2 : cW w n f k q e = if q ≠ 0 then 1000 * cF w n f k e + cM w n f k e else 1000 * cM w n f k e + cF w n f k e := rfl
      rw [if_neg (fun y => y z)] at z2
      omega) (k := len.toNat) (by omega) h3
    exact ⟨h7.trans g.1, h4.trans g.2⟩
  · have g := smL_end (M := cF w n f k) (F := cM w n f k) hE hL (by omega) hc hf (fun e _ he => by
      have z1 : (1 ≤ cM w n f k e ∧ cM w n f k e ≤ 4) ∧ 0 ≤ cF w n f k e ∧ cF w n f k e ≤ 1 := tX_bd (cO w n f k) he
      have z2 : cW w n f k q e = if q ≠ 0 then 1000 * cF w n f k e + cM w n f k e else 1000 * cM w n f k e + cF w n f k e := rfl
      rw [if_pos z] at z2
      omega) (k := len.toNat) (by omega) h3
    exact ⟨h4.trans g.1, h7.trans g.2⟩
/-- the i-th STEP -/
noncomputable def waV (T W L : Nat → Int) (c0 : Nat) (i : Int) : Int := @ite _ (L c0 = 9999999 ∨ i < 0 ∨ ¬ 0 < L (pcL T W L c0 i.toNat)) (Classical.propDecidable _) (-1) (fsL T W L (pcL T W L c0 i.toNat) : Int)
/-- the fewest minutes from here to a PLACE -/
def soQ (w n : Int) (f : Nat → Int32) (k fr to r : Int) : Prop := (r = -2 ∧ (fr < 0 ∨ n ≤ fr ∨ to < 0 ∨ n ≤ to)) ∨ ((0 ≤ fr ∧ fr < n ∧ 0 ≤ to ∧ to < n) ∧ ∀ L : Nat → Int, wyL n.toNat (cT w n f k) (cW w n f k 0) to.toNat L → r = wyV 1 (L fr.toNat))
theorem soQ_of {w n k fr to r r9 : Int} {f st pl ar : Nat → Int32} {len fc : Int} (hn : n ≤ 20) (h : fdQ w n f k fr to 0 r9 st pl ar len fc) (hr : (r9 = 0 ∧ r = -2) ∨ (r9 ≠ 0 ∧ r = (ar len.toNat).toInt)) : soQ w n f k fr to r := by
  rcases h with ⟨h1, h2⟩ | ⟨h1, h9⟩
  · exact Or.inl ⟨by omega, h2⟩
  · refine Or.inr ⟨h1, fun L hL => ?_⟩
    unfold wyV
    rcases h9 L hL with ⟨l1, l2⟩ | ⟨l1, l2, l3⟩
    · rw [if_pos l1]; omega
    · rw [if_neg l1, if_pos (show (1 : Int) ≠ 0 by decide)]
      obtain ⟨m1, m2⟩ := wyP_mf hL hn (by omega) l1 l3
      have := (m1 rfl).1
      omega
/-- minutes to each PLACE from where one is -/
def wfL (n : Nat) (T M : Nat → Int) (fr : Nat) (F : Nat → Int) : Prop := (fr < n ∧ F fr = 0) ∧ (∀ c : Nat, c < n → c ≠ fr → 0 < F c) ∧ (∀ e : Nat, e < 4 * n → T e ≠ -1 → F (e / 4) = 9999999 ∨ F (T e).toNat ≤ F (e / 4) + M e) ∧ ∀ c : Nat, c < n → 0 < F c → F c ≠ 9999999 → ∃ e : Nat, e < 4 * n ∧ T e ≠ -1 ∧ (T e).toNat = c ∧ F (e / 4) ≠ 9999999 ∧ F (e / 4) + M e = F c
/-- bits of those within so much -/
def biZ (u : Nat → Int) (m : Int) : Nat → Int32
  | 0 => 0
  | k + 1 => if 0 ≤ u k ∧ u k ≤ m then biZ u m k ||| (1 <<< (Int32.ofNat k &&& 31)) else biZ u m k
theorem biZ_s {u : Nat → Int} {m : Int} {k : Nat} : biZ u m (k + 1) = if 0 ≤ u k ∧ u k ≤ m then biZ u m k ||| (1 <<< (Int32.ofNat k &&& 31)) else biZ u m k := rfl
theorem biZ_y {u : Nat → Int} {m k k1 : Int} {b i y z : Int32} (h : b = biZ u m k.toNat) (hi : i.toInt = k) (h0 : 0 ≤ k) (hx : 0 ≤ u k.toNat ∧ u k.toNat ≤ m) (ey : y = 1 <<< (i &&& 31)) (ez : z = b ||| y) (hk : k1 = k + 1) : z = biZ u m k1.toNat := by
  have e1 : i = Int32.ofNat k.toNat := oN_of (by omega)
  rw [show k1.toNat = k.toNat + 1 by omega, biZ_s, if_pos hx, ez, ey, h, ← e1]
theorem biZ_n {u : Nat → Int} {m k k1 : Int} {b : Int32} (h : b = biZ u m k.toNat) (h0 : 0 ≤ k) (hx : ¬ (0 ≤ u k.toNat ∧ u k.toNat ≤ m)) (hk : k1 = k + 1) : b = biZ u m k1.toNat := by
  rw [show k1.toNat = k.toNat + 1 by omega, biZ_s, if_neg hx]
  exact h
theorem biZ_n0 {u : Nat → Int} {m k k1 : Int} {b z : Int32} (h : b = biZ u m k.toNat) (h0 : 0 ≤ k) (hx : ¬ (0 ≤ u k.toNat ∧ u k.toNat ≤ m)) (ez : z = b ||| 0) (hk : k1 = k + 1) : z = biZ u m k1.toNat := by
  have e : z = b := by
    rw [ez]
    exact Int32.or_zero
  rw [e]
  exact biZ_n h h0 hx hk
theorem soQ_L {w n k fr to r : Int} {f : Nat → Int32} (h : soQ w n f k fr to r) (h0 : 0 ≤ fr) (h1 : fr < n) (h2 : 0 ≤ to) (h3 : to < n) {L : Nat → Int} (hL : wyL n.toNat (cT w n f k) (cW w n f k 0) to.toNat L) : r = wyV 1 (L fr.toNat) := by
  rcases h with ⟨-, q⟩ | ⟨-, q⟩
  · omega
  · exact q L hL
/-- the one with most minutes -/
def ltF (u : Nat → Int) : Nat → Int × Int
  | 0 => (-2, -1)
  | w + 1 => if (ltF u w).2 < u w then ((w : Int), u w) else ltF u w
theorem ltF_s {u : Nat → Int} {w : Nat} : ltF u (w + 1) = if (ltF u w).2 < u w then ((w : Int), u w) else ltF u w := rfl
theorem ltF_c {u u' : Nat → Int} : ∀ n : Nat, (∀ j : Nat, j < n → u j = u' j) → ltF u n = ltF u' n
  | 0, _ => rfl
  | n + 1, h => by
    have ih := ltF_c n (fun j hj => h j (by omega))
    rw [ltF_s, ltF_s, ih, h n (by omega)]
/-- walkers with what is left to where they go -/
def lsH (w n m : Int) (f kd at_ go : Nat → Int32) (Ls : Nat → Nat → Int) : Prop := ∀ j : Nat, (j : Int) < m → (0 ≤ (at_ j).toInt ∧ (at_ j).toInt < n ∧ 0 ≤ (go j).toInt ∧ (go j).toInt < n) ∧ wyL n.toNat (cT w n f (kd j).toInt) (cW w n f (kd j).toInt 0) (go j).toInt.toNat (Ls j)
def lsU (at_ : Nat → Int32) (Ls : Nat → Nat → Int) (j : Nat) : Int := wyV 1 (Ls j (at_ j).toInt.toNat)
theorem lsU_of {w n m i r : Int} {f kd at_ go : Nat → Int32} {Ls : Nat → Nat → Int} (H : lsH w n m f kd at_ go Ls) (hs : soQ w n f (kd i.toNat).toInt (at_ i.toNat).toInt (go i.toNat).toInt r) (h0 : 0 ≤ i) (h1 : i < m) : lsU at_ Ls i.toNat = r := by
  obtain ⟨⟨a1, a2, a3, a4⟩, a5⟩ := H i.toNat (by omega)
  exact (soQ_L hs a1 a2 a3 a4 a5).symm
