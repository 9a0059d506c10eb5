/-- minutes onto a ditch, out of one, by who he is: the class -/
def oD (k st : Int) : Int := if k = 1 then -2 else if k = 2 ∨ st = 1 ∨ st = 3 then 1 else if k = 3 then (if st = 2 then 2 else 4) else if st = 2 then 3 else -2
def oU (k st : Int) : Int := if k = 2 ∨ st ≠ 2 then 1 else if k = 3 then 4 else -2
def tfZ (w n : Int) (f : Nat → Int32) (k c st : Int) : Int := if tgZ w n f c st = -1 then -2 else if (f (tgZ w n f c st).toNat).toInt = 1 then oD k st else if (f c.toNat).toInt = 1 then oU k st else 1
def flZ (w n : Int) (f : Nat → Int32) (k c st : Int) : Int := if tgZ w n f c st ≠ -1 ∧ (f (tgZ w n f c st).toNat).toInt = 1 ∧ k = 0 ∧ st = 2 then 1 else 0
/-- a step done: where he is, how often he fell, how long he went -/
def goP (w n : Int) (f a fe we : Nat → Int32) (i : Int32) (k st : Int) (a1 fe1 we1 : Nat → Int32) : Prop := (tfZ w n f k (a i.toNatClampNeg).toInt st = -2 ∧ a1 = a ∧ fe1 = fe ∧ we1 = we) ∨ (tfZ w n f k (a i.toNatClampNeg).toInt st ≠ -2 ∧ a1 = upd a i.toNatClampNeg (Int32.ofInt (tgZ w n f (a i.toNatClampNeg).toInt st)) ∧ fe1 = upd fe i.toNatClampNeg (fe i.toNatClampNeg + Int32.ofInt (flZ w n f k (a i.toNatClampNeg).toInt st)) ∧ we1 = upd we i.toNatClampNeg (we i.toNatClampNeg + Int32.ofInt (tfZ w n f k (a i.toNatClampNeg).toInt st)))
theorem goP_n {w n : Int} {f a fe we : Nat → Int32} {i x t : Int32} {k st : Int} (ex : x = a i.toNatClampNeg) (ht : t.toInt = tfZ w n f k x.toInt st) (h : t.toInt = -2) : goP w n f a fe we i k st a fe we := by
  subst ex
  exact Or.inl ⟨ht.symm.trans h, rfl, rfl, rfl⟩
theorem oi_of {x : Int32} {v : Int} (h : x.toInt = v) : x = Int32.ofInt v := by
  rw [← h]
  exact (Int32.ofInt_toInt x).symm
theorem goP_y {w n : Int} {f a fe we a1 fe1 we1 : Nat → Int32} {i x t y1 s1 y2 q s2 g : Int32} {k st : Int} (ex : x = a i.toNatClampNeg) (ht : t.toInt = tfZ w n f k x.toInt st) (h : t.toInt ≠ -2) (hq : q.toInt = flZ w n f k x.toInt st) (hg : g.toInt = tgZ w n f x.toInt st) (e1 : y1 = we i.toNatClampNeg) (f1 : s1 = y1 + t) (e2 : y2 = fe i.toNatClampNeg) (f2 : s2 = y2 + q) (u1 : upd we i.toNatClampNeg s1 = we1) (u2 : upd fe i.toNatClampNeg s2 = fe1) (u3 : upd a i.toNatClampNeg g = a1) : goP w n f a fe we i k st a1 fe1 we1 := by
  subst ex e1 f1 e2 f2 u1 u2 u3
  refine Or.inr ⟨fun z => h (ht.trans z), ?_, ?_, ?_⟩
  · rw [← oi_of hg]
  · rw [← oi_of hq]
  · rw [← oi_of ht]
/-- the places of a sort, as bits -/
def boZ (f : Nat → Int32) (s : Int) : Nat → Int32
  | 0 => 0
  | k + 1 => if (f k).toInt = s then boZ f s k ||| (1 <<< (Int32.ofNat k &&& 31)) else boZ f s k
theorem oN_of {x : Int32} {k : Nat} (h : x.toInt = (k : Int)) : x = Int32.ofNat k := by
  have h1 := oi_of h
  rw [h1]
  rfl
theorem boZ_y {f : Nat → Int32} {s k k1 : Int} {b i x y z : Int32} (h : b = boZ f s k.toNat) (hi : i.toInt = k) (h0 : 0 ≤ k) (ex : x = f i.toNatClampNeg) (hx : x.toInt = s) (ey : y = 1 <<< (i &&& 31)) (ez : z = b ||| y) (hk : k1 = k + 1) : z = boZ f s k1.toNat := by
  have n0 : i.toNatClampNeg = k.toNat := by rw [← hi]; rfl
  have e1 : i = Int32.ofNat k.toNat := oN_of (by omega)
  rw [n0] at ex
  rw [show k1.toNat = k.toNat + 1 by omega]
  show z = if (f k.toNat).toInt = s then boZ f s k.toNat ||| (1 <<< (Int32.ofNat k.toNat &&& 31)) else boZ f s k.toNat
  rw [if_pos (by rw [← ex]; exact hx), ez, ey, h, ← e1]
theorem boZ_n {f : Nat → Int32} {s k k1 : Int} {b i x : Int32} (h : b = boZ f s k.toNat) (hi : i.toInt = k) (h0 : 0 ≤ k) (ex : x = f i.toNatClampNeg) (hx : x.toInt ≠ s) (hk : k1 = k + 1) : b = boZ f s k1.toNat := by
  have n0 : i.toNatClampNeg = k.toNat := by rw [← hi]; rfl
  rw [n0] at ex
  rw [show k1.toNat = k.toNat + 1 by omega]
  show b = if (f k.toNat).toInt = s then boZ f s k.toNat ||| (1 <<< (Int32.ofNat k.toNat &&& 31)) else boZ f s k.toNat
  rw [if_neg (by rw [← ex]; exact hx)]
  exact h
theorem boZ_n0 {f : Nat → Int32} {s k k1 : Int} {b i x z : Int32} (h : b = boZ f s k.toNat) (hi : i.toInt = k) (h0 : 0 ≤ k) (ex : x = f i.toNatClampNeg) (hx : x.toInt ≠ s) (ez : z = b ||| 0) (hk : k1 = k + 1) : z = boZ f s k1.toNat := by
  have e : z = b := by
    rw [ez]
    exact Int32.or_zero
  rw [e]
  exact boZ_n h hi h0 ex hx hk
/-- a part of a row -/
def shF (f : Nat → Int32) (b : Nat) : Nat → Int32 := fun j => f (b + j)
/-- a step that was asked for -/
def stG (tr r wk w n : Int) (k s a f e : Nat → Int32) (p : Int32) (st : Int) (a1 f1 e1 : Nat → Int32) : Prop := (tr ≠ 0 ∧ r = -1 ∧ (p.toInt < 0 ∨ wk ≤ p.toInt ∨ st < 0 ∨ 3 < st ∨ tfZ w n s (k p.toInt.toNat).toInt (a p.toInt.toNat).toInt st = -2)) ∨ (tr = 0 ∧ 0 ≤ p.toInt ∧ p.toInt < wk ∧ 0 ≤ st ∧ st ≤ 3 ∧ tfZ w n s (k p.toInt.toNat).toInt (a p.toInt.toNat).toInt st ≠ -2 ∧ goP w n s a f e p (k p.toInt.toNat).toInt st a1 f1 e1 ∧ r = (a1 p.toInt.toNat).toInt)
/-- a ramble: the draw, where he is, how often he fell, when he was first where he goes -/
def rbS (tf fl tg : Int → Int → Int) (g : Int) (q : Int × Int × Int32 × Int) (k : Nat) : Int × Int × Int32 × Int := ((75 * q.1 + 74) % 65537, (if tf q.2.1 ((75 * q.1 + 74) % 65537 % 4) = -2 then q.2.1 else tg q.2.1 ((75 * q.1 + 74) % 65537 % 4)), (if tf q.2.1 ((75 * q.1 + 74) % 65537 % 4) = -2 then q.2.2.1 else q.2.2.1 + Int32.ofInt (fl q.2.1 ((75 * q.1 + 74) % 65537 % 4))), (if q.2.2.2 = -2 ∧ (if tf q.2.1 ((75 * q.1 + 74) % 65537 % 4) = -2 then q.2.1 else tg q.2.1 ((75 * q.1 + 74) % 65537 % 4)) = g then (k : Int) + 1 else q.2.2.2))
def rbN (tf fl tg : Int → Int → Int) (g sd c0 a0 : Int) : Nat → Int × Int × Int32 × Int
  | 0 => (sd, c0, 0, a0)
  | k + 1 => rbS tf fl tg g (rbN tf fl tg g sd c0 a0 k) k
theorem rbN_s {tf fl tg : Int → Int → Int} {g sd c0 a0 s c a : Int} {F : Int32} {k : Nat} (h : rbN tf fl tg g sd c0 a0 k = (s, c, F, a)) : rbN tf fl tg g sd c0 a0 (k + 1) = ((75 * s + 74) % 65537, (if tf c ((75 * s + 74) % 65537 % 4) = -2 then c else tg c ((75 * s + 74) % 65537 % 4)), (if tf c ((75 * s + 74) % 65537 % 4) = -2 then F else F + Int32.ofInt (fl c ((75 * s + 74) % 65537 % 4))), (if a = -2 ∧ (if tf c ((75 * s + 74) % 65537 % 4) = -2 then c else tg c ((75 * s + 74) % 65537 % 4)) = g then (k : Int) + 1 else a)) := by
  have e : rbN tf fl tg g sd c0 a0 (k + 1) = rbS tf fl tg g (rbN tf fl tg g sd c0 a0 k) k := rfl
  rw [e, h]
  rfl
/-- one more draw: s is drawn, t its step; the place, the falls behind it; a the arrival -/
theorem rbN_up {tf fl tg : Int → Int → Int} {g sd c0 a0 s c a s1 st c1 a1 k1 : Int} {F F1 : Int32} {k : Nat} (h : rbN tf fl tg g sd c0 a0 k = (s, c, F, a)) (e1 : s1 = (75 * s + 74) % 65537) (e2 : st = s1 % 4) (hc : (tf c st = -2 ∧ c1 = c ∧ F1 = F) ∨ (tf c st ≠ -2 ∧ c1 = tg c st ∧ F1 = F + Int32.ofInt (fl c st))) (ha : (a = -2 ∧ c1 = g ∧ a1 = k1) ∨ (¬ (a = -2 ∧ c1 = g) ∧ a1 = a)) (hk : k1 = (k : Int) + 1) : rbN tf fl tg g sd c0 a0 (k + 1) = (s1, c1, F1, a1) := by
  rw [rbN_s h, ← e1, ← e2]
  rcases hc with ⟨t1, t2, t3⟩ | ⟨t1, t2, t3⟩
  · rw [if_pos t1, if_pos t1, ← t2, t3]
    rcases ha with ⟨u1, u2, u3⟩ | ⟨u1, u2⟩
    · rw [if_pos ⟨u1, u2⟩, u3, hk]
    · rw [if_neg u1, u2]
  · rw [if_neg t1, if_neg t1, ← t2, ← t3]
    rcases ha with ⟨u1, u2, u3⟩ | ⟨u1, u2⟩
    · rw [if_pos ⟨u1, u2⟩, u3, hk]
    · rw [if_neg u1, u2]
def rbC (w n : Int) (f : Nat → Int32) (k g sd c0 m : Int) : Int × Int × Int32 × Int := rbN (tfZ w n f k) (flZ w n f k) (tgZ w n f) g sd c0 (if c0 = g then 0 else -2) m.toNat
/-- the class's ramble, behind m draws -/
def rwI (w n : Int) (f : Nat → Int32) (k g sd c0 m s a : Int) (p : Int32) (A fe fe0 : Nat → Int32) : Prop := ∃ F : Int32, rbC w n f k g sd c0 m = (s, (A p.toNatClampNeg).toInt, F, a) ∧ fe p.toNatClampNeg = fe0 p.toNatClampNeg + F
theorem rwI_0 {w n : Int} {f : Nat → Int32} {k g sd c0 m s a : Int} {p : Int32} {A fe fe0 : Nat → Int32} (hm : m = 0) (hs : s = sd) (hA : (A p.toNatClampNeg).toInt = c0) (ha : (c0 = g ∧ a = 0) ∨ (c0 ≠ g ∧ a = -2)) (hf : fe p.toNatClampNeg = fe0 p.toNatClampNeg) : rwI w n f k g sd c0 m s a p A fe fe0 := by
  subst hm hs
  refine ⟨0, ?_, ?_⟩
  · unfold rbC
    have e : rbN (tfZ w n f k) (flZ w n f k) (tgZ w n f) g s c0 (if c0 = g then 0 else -2) (Int.toNat 0) = (s, c0, 0, (if c0 = g then 0 else -2)) := rfl
    rw [e, hA]
    rcases ha with ⟨h1, h2⟩ | ⟨h1, h2⟩
    · rw [if_pos h1, h2]
    · rw [if_neg h1, h2]
  · rw [hf, Int32.add_zero]
theorem rwI_up {w n : Int} {f : Nat → Int32} {k g sd c0 m m1 s a s1 st a1 : Int} {p : Int32} {A fe we A1 fe1 we1 fe0 : Nat → Int32} (h : rwI w n f k g sd c0 m s a p A fe fe0) (h0 : 0 ≤ m) (e1 : s1 = (75 * s + 74) % 65537) (e2 : st = s1 % 4) (hg : goP w n f A fe we p k st A1 fe1 we1) (hb : tgZ w n f (A p.toNatClampNeg).toInt st = -1 ∨ (0 ≤ tgZ w n f (A p.toNatClampNeg).toInt st ∧ tgZ w n f (A p.toNatClampNeg).toInt st ≤ 19)) (ha : (a = -2 ∧ (A1 p.toNatClampNeg).toInt = g ∧ a1 = m1) ∨ (¬ (a = -2 ∧ (A1 p.toNatClampNeg).toInt = g) ∧ a1 = a)) (hm : m1 = m + 1) : rwI w n f k g sd c0 m1 s1 a1 p A1 fe1 fe0 := by
  obtain ⟨F, h1, h2⟩ := h
  unfold rbC at h1
  have hn : m1.toNat = m.toNat + 1 := by omega
  rcases hg with ⟨g1, g2, g3, g4⟩ | ⟨g1, g2, g3, g4⟩
  · subst g2 g3
    refine ⟨F, ?_, h2⟩
    unfold rbC
    rw [hn]
    exact rbN_up h1 e1 e2 (Or.inl ⟨g1, rfl, rfl⟩) ha (by omega)
  · refine ⟨F + Int32.ofInt (flZ w n f k (A p.toNatClampNeg).toInt st), ?_, ?_⟩
    · unfold rbC
      rw [hn]
      have hA : (A1 p.toNatClampNeg).toInt = tgZ w n f (A p.toNatClampNeg).toInt st := by
        rw [g2]
        unfold upd
        rw [if_pos rfl]
        exact Int32.toInt_ofInt_of_le (by omega) (by omega)
      exact rbN_up h1 e1 e2 (Or.inr ⟨g1, hA, rfl⟩) ha (by omega)
    · rw [g3]
      unfold upd
      rw [if_pos rfl, h2, Int32.add_assoc]
/-- the answers -/
def rmB (wk p sd n : Int) : Prop := p < 0 ∨ wk ≤ p ∨ sd < 0 ∨ 65536 < sd ∨ n < 0 ∨ 90 < n
/-- wander: what it says -/
def wnP (w n : Int) (f k g at_ fe : Nat → Int32) (p : Int32) (sd m r : Int) (A1 fe1 : Nat → Int32) : Prop := ∃ (s : Int) (F : Int32), rbC w n f (k p.toNatClampNeg).toInt (g p.toNatClampNeg).toInt sd (at_ p.toNatClampNeg).toInt m = (s, (A1 p.toNatClampNeg).toInt, F, r) ∧ fe1 p.toNatClampNeg = fe p.toNatClampNeg + F
theorem tgZ_bd {w n : Int} {f : Nat → Int32} {c st : Int} (hn : n ≤ 20) : tgZ w n f c st = -1 ∨ (0 ≤ tgZ w n f c st ∧ tgZ w n f c st ≤ 19) := by
  have key : ∀ t : Int, tg2 n f t = -1 ∨ (0 ≤ tg2 n f t ∧ tg2 n f t ≤ 19) := fun t => by
    unfold tg2
    split
    · exact Or.inl rfl
    · exact Or.inr (by omega)
  unfold tgZ
  split
  · exact Or.inl rfl
  · exact key _
theorem tgZ_f {w n : Int} {f g : Nat → Int32} (h : cpZ f g 20) (hn : n ≤ 20) : tgZ w n g = tgZ w n f := by
  funext c st
  unfold tgZ
  split
  · rfl
  · have key : ∀ t : Int, tg2 n g t = tg2 n f t := fun t => by
      unfold tg2
      by_cases q : t < 0 ∨ n ≤ t
      · rw [if_pos (by omega), if_pos (by omega)]
      · rw [h t.toNat (by omega)]
    exact key _
theorem tfZ_f {w n : Int} {f g : Nat → Int32} {k : Int} (h : cpZ f g 20) (hn : n ≤ 20) : tfZ w n g k = tfZ w n f k := by
  funext c st
  unfold tfZ
  rw [tgZ_f h hn]
  by_cases q : tgZ w n f c st = -1
  · rw [if_pos q, if_pos q]
  · have hb := tgZ_bd (w := w) (f := f) (c := c) (st := st) hn
    have hc : ¬ (c < 0 ∨ n ≤ c ∨ w ≤ 0) := fun z => q (by unfold tgZ; exact if_pos z)
    rw [h (tgZ w n f c st).toNat (by omega), h c.toNat (by omega)]
theorem flZ_f {w n : Int} {f g : Nat → Int32} {k : Int} (h : cpZ f g 20) (hn : n ≤ 20) : flZ w n g k = flZ w n f k := by
  funext c st
  unfold flZ
  rw [tgZ_f h hn]
  by_cases q : tgZ w n f c st = -1
  · rw [if_neg (fun z => z.1 q), if_neg (fun z => z.1 q)]
  · have hb := tgZ_bd (w := w) (f := f) (c := c) (st := st) hn
    rw [h (tgZ w n f c st).toNat (by omega)]
theorem wnP_of {nw nd nk tw td tn tk p : Int32} {ns na nf ng ts ta tf tg k g A fe : Nat → Int32} {kk gg sd m m' s a : Int} (hc : nwC nw nd ns na nf ng nk tw td tn ts ta tf tg tk) (h : rwI tw.toInt tn.toInt ts kk gg sd (ta p.toNatClampNeg).toInt m s a p A fe tf) (h0 : 0 ≤ p.toInt) (h3 : p.toInt ≤ 3) (hm : m = m') (hn : tn.toInt ≤ 20) (hk : (k p.toNatClampNeg).toInt = kk) (hg : (g p.toNatClampNeg).toInt = gg) : wnP nw.toInt (nw.toInt * nd.toInt) ns k g na nf p sd m' a A fe := by
  have n1 : p.toNatClampNeg = p.toInt.toNat := rfl
  obtain ⟨c1, c2, c3, c4, c5, c6, c7, c8⟩ := hc
  obtain ⟨F, h1, h2⟩ := h
  subst hm hk hg
  rw [c5 p.toNatClampNeg (by omega)] at h1
  rw [c6 p.toNatClampNeg (by omega)] at h2
  refine ⟨s, F, ?_, h2⟩
  unfold rbC at h1 ⊢
  rw [c1, c3] at h1
  rw [c3] at hn
  rw [tfZ_f c4 hn, flZ_f c4 hn, tgZ_f c4 hn] at h1
  exact h1
