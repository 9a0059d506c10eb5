/-- a now of the class as a part of a row of the reference -/
def nQ (nk nw nd nn : Int32) (s a f e : Nat → Int32) (w d wk : Int) (v : Nat → Int32) (o : Nat) : Prop := (nw.toInt = w ∧ nd.toInt = d ∧ nn.toInt = w * d ∧ nk.toInt = wk) ∧ (∀ c : Nat, (c : Int) < w * d → s c = v (o + c)) ∧ ∀ k : Nat, (k : Int) < wk → a k = v (o + (20 + k)) ∧ f k = v (o + (24 + k)) ∧ e k = v (o + (28 + k)) ∧ 0 ≤ (a k).toInt ∧ (a k).toInt < w * d
def nwE (N : CT) (w d wk : Int) (v : Nat → Int32) (o : Nat) : Prop := nQ (N.1 0) (N.1 1) (N.1 2) (N.1 3) (N.2 0) (N.2 1) (N.2 2) (N.2 3) w d wk v o
/-- copied: the class's now, the part of the row -/
theorem nQ_cp {nk nw nd nn mk mw md mn : Int32} {s a f e s1 a1 f1 e1 : Nat → Int32} {w d wk : Int} {u v : Nat → Int32} {o o' : Nat} (h : nQ nk nw nd nn s a f e w d wk u o) (hc : nwC nw nd s a f e nk mw md mn s1 a1 f1 e1 mk) (hv : ∀ j : Nat, j < 32 → u (o + j) = v (o' + j)) (hb : w * d ≤ 20) (hk : wk ≤ 4) : nQ mk mw md mn s1 a1 f1 e1 w d wk v o' := by
  obtain ⟨⟨h1, h2, h3, h4⟩, h5, h6⟩ := h
  obtain ⟨c1, c2, c3, c4, c5, c6, c7, c8⟩ := hc
  refine ⟨⟨by rw [c1]; exact h1, by rw [c2]; exact h2, by rw [c3, h1, h2], by rw [c8]; exact h4⟩, fun c hc9 => ?_, fun k hk9 => ?_⟩
  · rw [c4 c (by omega), h5 c hc9]
    exact hv c (by omega)
  · obtain ⟨q1, q2, q3, q4, q5⟩ := h6 k hk9
    rw [c5 k (by omega), c6 k (by omega), c7 k (by omega)]
    exact ⟨q1.trans (hv _ (by omega)), q2.trans (hv _ (by omega)), q3.trans (hv _ (by omega)), q4, q5⟩
theorem nQ_mv {nk nw nd nn : Int32} {s a f e : Nat → Int32} {w d wk : Int} {u v : Nat → Int32} {o o' : Nat} (h : nQ nk nw nd nn s a f e w d wk u o) (hv : ∀ j : Nat, j < 32 → u (o + j) = v (o' + j)) (hb : w * d ≤ 20) (hk : wk ≤ 4) : nQ nk nw nd nn s a f e w d wk v o' := by
  obtain ⟨h1, h5, h6⟩ := h
  refine ⟨h1, fun c hc9 => (h5 c hc9).trans (hv c (by omega)), fun k hk9 => ?_⟩
  obtain ⟨q1, q2, q3, q4, q5⟩ := h6 k hk9
  exact ⟨q1.trans (hv _ (by omega)), q2.trans (hv _ (by omega)), q3.trans (hv _ (by omega)), q4, q5⟩
/-- one PLACE becomes of another sort -/
theorem nQ_so {nk nw nd nn b : Int32} {p : Int32} {s a f e s1 v1 : Nat → Int32} {w d wk : Int} {v : Nat → Int32} (h : nQ nk nw nd nn s a f e w d wk v 0) (h0 : 0 ≤ p.toInt) (hp : p.toInt < w * d) (hb : w * d ≤ 20) (e1 : s1 = upd s (Int32.toNatClampNeg p) b) (e2 : v1 = upd v (Int32.toNatClampNeg p) b) : nQ nk nw nd nn s1 a f e w d wk v1 0 := by
  have n1 : p.toNatClampNeg = p.toInt.toNat := rfl
  obtain ⟨h1, h5, h6⟩ := h
  refine ⟨h1, fun c hc9 => ?_, fun k hk9 => ?_⟩
  · rw [e1, e2]
    have q := h5 c hc9
    unfold upd
    by_cases hq : c = p.toNatClampNeg
    · rw [if_pos hq, if_pos (show 0 + c = p.toNatClampNeg by omega)]
    · rw [if_neg hq, if_neg (show ¬ 0 + c = p.toNatClampNeg by omega)]
      exact q
  · obtain ⟨q1, q2, q3, q4, q5⟩ := h6 k hk9
    rw [e2]
    unfold upd
    rw [if_neg (by omega), if_neg (by omega), if_neg (by omega)]
    exact ⟨q1, q2, q3, q4, q5⟩
/-- a step done -/
theorem nQ_go {nk nw nd nn : Int32} {i : Int32} {s a f e a1 f1 e1 v1 : Nat → Int32} {w d wk k st : Int} {v : Nat → Int32} (h : nQ nk nw nd nn s a f e w d wk v 0) (h0 : 0 ≤ i.toInt) (hi : i.toInt < wk) (hk4 : wk ≤ 4) (hw : 0 < w) (hb : w * d ≤ 20) (hs : 0 ≤ st) (hs3 : st ≤ 3) (hk : 0 ≤ k) (hk3 : k ≤ 3) (hg : goP w (w * d) s a f e i k st a1 f1 e1) (hn : tfZ w (w * d) s k (a i.toInt.toNat).toInt st ≠ -2) (hm : goM w d v k i.toInt.toNat st v1) : nQ nk nw nd nn s a1 f1 e1 w d wk v1 0 ∧ (a1 i.toInt.toNat).toInt = (v1 (20 + i.toInt.toNat)).toInt := by
  have n1 : i.toNatClampNeg = i.toInt.toNat := rfl
  obtain ⟨h1, h5, h6⟩ := h
  obtain ⟨p1, p2, p3, p4, p5⟩ := h6 i.toInt.toNat (by omega)
  rw [Nat.zero_add] at p1 p2 p3
  have hf : ∀ j : Nat, (j : Int) < w * d → s j = v j := fun j hj => by
    have q := h5 j hj
    rw [Nat.zero_add] at q
    exact q
  obtain ⟨t1, t2⟩ := tf_la (c := (a i.toInt.toNat).toInt) (s := st) (k := k) hw p4 p5 hs hs3 hk hk3 hf
  have l0 : laF w d v k (a i.toInt.toNat).toInt st ≠ -2 := by rw [← t1]; exact hn
  obtain ⟨t3, t4⟩ := t2 l0
  have hon := on_bd (s := st) hw p4 p5
  have hon2 := la_on l0
  rcases hg with ⟨g1, -⟩ | ⟨-, g2, g3, g4⟩
  · exact absurd g1 hn
  · rw [n1] at g2 g3 g4
    rw [t3] at g2
    rw [t4] at g3
    rw [t1] at g4
    unfold goM at hm
    rw [← p1, ← p2, ← p3] at hm
    have hA : (Int32.ofInt (onF w d (a i.toInt.toNat).toInt st)).toInt = onF w d (a i.toInt.toNat).toInt st := Int32.toInt_ofInt_of_le (by omega) (by omega)
    refine ⟨⟨h1, fun c hc9 => ?_, fun j hj => ?_⟩, ?_⟩
    · rw [hm]
      unfold upd
      rw [if_neg (by omega), if_neg (by omega), if_neg (by omega)]
      exact h5 c hc9
    · obtain ⟨q1, q2, q3, q4, q5⟩ := h6 j hj
      rw [hm, g2, g3, g4]
      unfold upd
      by_cases hq : j = i.toInt.toNat
      · subst hq
        rw [if_pos rfl, if_pos rfl, if_pos rfl, if_neg (show ¬ 0 + (20 + i.toInt.toNat) = 28 + i.toInt.toNat by omega), if_neg (show ¬ 0 + (20 + i.toInt.toNat) = 24 + i.toInt.toNat by omega), if_pos (show 0 + (20 + i.toInt.toNat) = 20 + i.toInt.toNat by omega), if_neg (show ¬ 0 + (24 + i.toInt.toNat) = 28 + i.toInt.toNat by omega), if_pos (show 0 + (24 + i.toInt.toNat) = 24 + i.toInt.toNat by omega), if_pos (show 0 + (28 + i.toInt.toNat) = 28 + i.toInt.toNat by omega), hA]
        exact ⟨rfl, rfl, rfl, by omega, by omega⟩
      · rw [if_neg hq, if_neg hq, if_neg hq, if_neg (show ¬ 0 + (20 + j) = 28 + i.toInt.toNat by omega), if_neg (show ¬ 0 + (20 + j) = 24 + i.toInt.toNat by omega), if_neg (show ¬ 0 + (20 + j) = 20 + i.toInt.toNat by omega), if_neg (show ¬ 0 + (24 + j) = 28 + i.toInt.toNat by omega), if_neg (show ¬ 0 + (24 + j) = 24 + i.toInt.toNat by omega), if_neg (show ¬ 0 + (24 + j) = 20 + i.toInt.toNat by omega), if_neg (show ¬ 0 + (28 + j) = 28 + i.toInt.toNat by omega), if_neg (show ¬ 0 + (28 + j) = 24 + i.toInt.toNat by omega), if_neg (show ¬ 0 + (28 + j) = 20 + i.toInt.toNat by omega)]
        exact ⟨q1, q2, q3, q4, q5⟩
    · rw [hm, g2]
      unfold upd
      rw [if_pos rfl, if_neg (by omega), if_neg (by omega), if_pos rfl]
/-- the park as it was told: class, reference -/
def tQ (tw td er sl un tk tl : Int32) (kc go : Nat → Int32) (w d e l k m u : Int) (kr gr : Nat → Int32) : Prop := (tw.toInt = w ∧ td.toInt = d ∧ er.toInt = e ∧ sl.toInt = l ∧ un.toInt = u ∧ tk.toInt = k ∧ tl.toInt = m) ∧ (0 < w ∧ w ≤ 5 ∧ 0 < d ∧ d ≤ 4 ∧ 0 ≤ k ∧ k ≤ 4 ∧ 0 < w * d ∧ w * d ≤ 20) ∧ ∀ j : Nat, (j : Int) < k → kc j = kr j ∧ go j = gr j ∧ 0 ≤ (kc j).toInt ∧ (kc j).toInt ≤ 3 ∧ 0 ≤ (gr j).toInt ∧ (gr j).toInt < w * d
def tdE (T : CT) (w d e l k m u : Int) (kr gr : Nat → Int32) : Prop := tQ (T.1 0) (T.1 1) (T.1 2) (T.1 3) (T.1 4) (T.1 5) (T.1 6) (T.2 0) (T.2 1) w d e l k m u kr gr
/-- side by side: what is told, now, what is kept, the images -/
def Sq (b : Bool) (N T : CT) (kn im : Nat → CT) (kc ic ac w d e l k m u : Int) (v pa ke kr gr : Nat → Int32) : Prop := (b = true ∧ tdE T w d e l k m u kr gr ∧ nwE N w d k v 0 ∧ (kc = ac ∧ 0 ≤ kc ∧ kc ≤ 16 ∧ 0 ≤ ic ∧ ic ≤ 3) ∧ (∀ j : Nat, (j : Int) < kc → nwE (kn j) w d k pa (32 * j)) ∧ ∀ j : Nat, (j : Int) < ic → nwE (im j) w d k ke (32 * j)) ∨ (b = false ∧ ((N.1 1).toInt = 0 ∧ (N.1 2).toInt = 0 ∧ (N.1 3).toInt ≤ 0) ∧ ((T.1 2).toInt = 0 ∧ (T.1 3).toInt = 0 ∧ (T.1 4).toInt = 0 ∧ (T.1 5).toInt = 0 ∧ (T.1 6).toInt = 0) ∧ kc = 0 ∧ ic = 0)
theorem Sq_b {b b1 : Bool} {N T : CT} {kn im : Nat → CT} {kc ic ac w d e l k m u : Int} {v pa ke kr gr : Nat → Int32} (h : Sq b N T kn im kc ic ac w d e l k m u v pa ke kr gr) (hb : b = b1) : Sq b1 N T kn im kc ic ac w d e l k m u v pa ke kr gr := hb ▸ h
theorem Sq_z {b : Bool} {N T : CT} {kn im : Nat → CT} {kc ic ac w d e l k m u ac' w' d' e' l' k' m' u' : Int} {v pa ke kr gr v' pa' ke' kr' gr' : Nat → Int32} (h : Sq b N T kn im kc ic ac w d e l k m u v pa ke kr gr) (hb : b = false) : Sq false N T kn im kc ic ac' w' d' e' l' k' m' u' v' pa' ke' kr' gr' := by
  rcases h with q | q
  · exact absurd (q.1.symm.trans hb) (by decide)
  · exact Or.inr ⟨rfl, q.2⟩
theorem Sq_t {b : Bool} {N T : CT} {kn im : Nat → CT} {kc ic ac w d e l k m u : Int} {v pa ke kr gr : Nat → Int32} (h : Sq b N T kn im kc ic ac w d e l k m u v pa ke kr gr) (hb : b = true) : tdE T w d e l k m u kr gr ∧ nwE N w d k v 0 ∧ (kc = ac ∧ 0 ≤ kc ∧ kc ≤ 16 ∧ 0 ≤ ic ∧ ic ≤ 3) ∧ (∀ j : Nat, (j : Int) < kc → nwE (kn j) w d k pa (32 * j)) ∧ ∀ j : Nat, (j : Int) < ic → nwE (im j) w d k ke (32 * j) := by
  rcases h with q | q
  · exact q.2
  · exact absurd (q.1.symm.trans hb) (by decide)
theorem Sq_f {b : Bool} {N T : CT} {kn im : Nat → CT} {kc ic ac w d e l k m u : Int} {v pa ke kr gr : Nat → Int32} (h : Sq b N T kn im kc ic ac w d e l k m u v pa ke kr gr) (hb : b = false) : ((N.1 1).toInt = 0 ∧ (N.1 2).toInt = 0 ∧ (N.1 3).toInt ≤ 0) ∧ ((T.1 2).toInt = 0 ∧ (T.1 3).toInt = 0 ∧ (T.1 4).toInt = 0 ∧ (T.1 5).toInt = 0 ∧ (T.1 6).toInt = 0) ∧ kc = 0 ∧ ic = 0 := by
  rcases h with q | q
  · exact absurd (q.1.symm.trans hb) (by decide)
  · exact q.2
/-- what is kept, behind an act -/
def kpR (N : CT) (kn kn1 : Nat → CT) (kc kc1 : Int) (C1 : CT) : Prop := nwC (N.1 1) (N.1 2) (N.2 0) (N.2 1) (N.2 2) (N.2 3) (N.1 0) (C1.1 1) (C1.1 2) (C1.1 3) (C1.2 0) (C1.2 1) (C1.2 2) (C1.2 3) (C1.1 0) ∧ ((kc ≤ 15 ∧ kc1 = kc + 1 ∧ kn1 = upC kn kc.toNat C1) ∨ (kc = 16 ∧ kc1 = 16 ∧ kn1 = rotC kn C1))
theorem kpS {N C1 : CT} {kn kn1 : Nat → CT} {kc kc1 ac ac1 w d k : Int} {v pa pa1 : Nat → Int32} (hN : nwE N w d k v 0) (hk : ∀ j : Nat, (j : Int) < kc → nwE (kn j) w d k pa (32 * j)) (hac : kc = ac) (h0 : 0 ≤ kc) (hb : w * d ≤ 20) (hk4 : k ≤ 4) (hp : kpR N kn kn1 kc kc1 C1) (hr : remP pa pa1 v ac ac1) : kc1 = ac1 ∧ 0 ≤ kc1 ∧ kc1 ≤ 16 ∧ ∀ j : Nat, (j : Int) < kc1 → nwE (kn1 j) w d k pa1 (32 * j) := by
  subst hac
  obtain ⟨hc, hp⟩ := hp
  rcases hr with ⟨r1, r2, r3, r4⟩ | ⟨r1, r2, r3, r4⟩
  · rcases hp with ⟨p1, p2, p3⟩ | ⟨p1, -⟩
    · refine ⟨by omega, by omega, by omega, fun j hj => ?_⟩
      rw [p3]
      by_cases hq : j = kc.toNat
      · rw [hq, upC_eq]
        refine nQ_cp hN hc (fun i hi => ?_) hb hk4
        rw [Nat.zero_add, ← r4 i (by omega), show (32 * kc).toNat + i = 32 * kc.toNat + i by omega]
      · rw [upC_ne kn C1 hq]
        exact nQ_mv (hk j (by omega)) (fun i hi => (r3 (32 * j + i) (by omega)).symm) hb hk4
    · omega
  · rcases hp with ⟨p1, -⟩ | ⟨p1, p2, p3⟩
    · omega
    · refine ⟨by omega, by omega, by omega, fun j hj => ?_⟩
      rw [p3]
      by_cases hq : j = 15
      · rw [hq, rotC_15]
        refine nQ_cp hN hc (fun i hi => ?_) hb hk4
        rw [Nat.zero_add, ← r4 i (by omega)]
        exact congrArg pa1 (show (480 : Int).toNat + i = 32 * 15 + i by omega)
      · rw [rotC_ne kn C1 hq]
        exact nQ_mv (hk (j + 1) (by omega)) (fun i hi => by rw [r3 (32 * j + i) (by omega)]; exact congrArg pa (by omega)) hb hk4
/-- an act that changes nothing: what is kept stands as before -/
def smR (kn kn1 : Nat → CT) (kc : Int) : Prop := ∀ j : Nat, (j : Int) < kc → (kn1 j).1 0 = (kn j).1 0 ∧ (kn1 j).1 1 = (kn j).1 1 ∧ (kn1 j).1 2 = (kn j).1 2 ∧ (kn1 j).1 3 = (kn j).1 3 ∧ (kn1 j).2 0 = (kn j).2 0 ∧ (kn1 j).2 1 = (kn j).2 1 ∧ (kn1 j).2 2 = (kn j).2 2 ∧ (kn1 j).2 3 = (kn j).2 3
theorem smE {kn kn1 : Nat → CT} {kc w d k : Int} {pa : Nat → Int32} (hs : smR kn kn1 kc) (hk : ∀ j : Nat, (j : Int) < kc → nwE (kn j) w d k pa (32 * j)) : ∀ j : Nat, (j : Int) < kc → nwE (kn1 j) w d k pa (32 * j) := by
  intro j hj
  obtain ⟨e0, e1, e2, e3, e4, e5, e6, e7⟩ := hs j hj
  have h := hk j hj
  unfold nwE at h ⊢
  rw [e0, e1, e2, e3, e4, e5, e6, e7]
  exact h
theorem smR_n {kn : Nat → CT} {kc : Int} {C1 : CT} : smR kn (upC kn kc.toNat C1) kc := by
  intro j hj
  rw [upC_ne kn C1 (by omega)]
  exact ⟨rfl, rfl, rfl, rfl, rfl, rfl, rfl, rfl⟩
theorem smR_f {kn : Nat → CT} {kc : Int} {C1 : CT} (e : (C1.1 1, C1.1 2, C1.1 3, C1.2 0, C1.2 1, C1.2 2, C1.2 3, C1.1 0) = ((kn 0).1 1, (kn 0).1 2, (kn 0).1 3, (kn 0).2 0, (kn 0).2 1, (kn 0).2 2, (kn 0).2 3, (kn 0).1 0)) : smR kn (upC kn 0 C1) kc := by
  have q := tup8 e
  intro j hj
  by_cases hq : j = 0
  · subst hq
    rw [upC_eq]
    exact ⟨q.2.2.2.2.2.2.2, q.1, q.2.1, q.2.2.1, q.2.2.2.1, q.2.2.2.2.1, q.2.2.2.2.2.1, q.2.2.2.2.2.2.1⟩
  · rw [upC_ne kn C1 hq]
    exact ⟨rfl, rfl, rfl, rfl, rfl, rfl, rfl, rfl⟩
theorem smR_u {im : Nat → CT} {ic : Int} {i : Nat} {C1 : CT} (e : (C1.1 1, C1.1 2, C1.1 3, C1.2 0, C1.2 1, C1.2 2, C1.2 3, C1.1 0) = ((im i).1 1, (im i).1 2, (im i).1 3, (im i).2 0, (im i).2 1, (im i).2 2, (im i).2 3, (im i).1 0)) : smR im (upC im i C1) ic := by
  have q := tup8 e
  intro j hj
  by_cases hq : j = i
  · subst hq
    rw [upC_eq]
    exact ⟨q.2.2.2.2.2.2.2, q.1, q.2.1, q.2.2.1, q.2.2.2.1, q.2.2.2.2.1, q.2.2.2.2.2.1, q.2.2.2.2.2.2.1⟩
  · rw [upC_ne im C1 hq]
    exact ⟨rfl, rfl, rfl, rfl, rfl, rfl, rfl, rfl⟩
/-- what an act leaves of now but the sorts -/
def sN (N N1 : CT) : Prop := N1.1 0 = N.1 0 ∧ N1.1 1 = N.1 1 ∧ N1.1 2 = N.1 2 ∧ N1.1 3 = N.1 3 ∧ N1.2 1 = N.2 1 ∧ N1.2 2 = N.2 2 ∧ N1.2 3 = N.2 3
theorem nE_c {N N1 : CT} {w d k : Int} {v : Nat → Int32} {o : Nat} (h : nwE N w d k v o) (e : sN N N1) (es : N1.2 0 = N.2 0) : nwE N1 w d k v o := by
  obtain ⟨e0, e1, e2, e3, e4, e5, e6⟩ := e
  unfold nwE at h ⊢
  rw [e0, e1, e2, e3, es, e4, e5, e6]
  exact h
theorem waN_sh {f v : Nat → Int32} {k c : Int} (h : ∀ j : Nat, (j : Int) < k → f j = v (0 + (20 + j))) (hn : waN f k c) : waN (shF v 20) k c := by
  intro j hj
  have q := hn j hj
  rw [h j hj, Nat.zero_add] at q
  exact q
theorem waY_sh {f v : Nat → Int32} {k c : Int} (h : ∀ j : Nat, (j : Int) < k → f j = v (0 + (20 + j))) (hn : waY f k c) : waY (shF v 20) k c := by
  obtain ⟨j, hj, q⟩ := hn
  refine ⟨j, hj, ?_⟩
  rw [h j hj, Nat.zero_add] at q
  exact q
theorem waNY {f : Nat → Int32} {k c : Int} (h1 : waN f k c) (h2 : waY f k c) : False := by
  obtain ⟨j, hj, q⟩ := h2
  exact h1 j hj q
/-- a PLACE becomes of another sort, in both -/
theorem Sq_ch {b : Bool} {N N1 T C1 : CT} {kn kn1 im : Nat → CT} {kc kc1 ic ac ac1 w d e l k m u a r r' : Int} {v v1 pa pa1 ke kr gr : Nat → Int32} {p b' : Int32} (h : Sq b N T kn im kc ic ac w d e l k m u v pa ke kr gr) (hb : b = true) (hN : sN N N1) (hc : (smR kn kn1 kc ∧ kc1 = kc ∧ r = 0 ∧ N1.2 0 = N.2 0 ∧ (p.toInt < 0 ∨ (N.1 3).toInt ≤ p.toInt ∨ (N.2 0 p.toInt.toNat).toInt ≠ a ∨ (b'.toInt = 3 ∧ waY (N.2 1) (N.1 0).toInt p.toInt))) ∨ (kpR N kn kn1 kc kc1 C1 ∧ r = 1 ∧ 0 ≤ p.toInt ∧ p.toInt < (N.1 3).toInt ∧ (N.2 0 p.toInt.toNat).toInt = a ∧ (b'.toInt = 3 → waN (N.2 1) (N.1 0).toInt p.toInt) ∧ N1.2 0 = upd (N.2 0) (Int32.toNatClampNeg p) b')) (hm : beG r' (w * d) v k p a b' v1 pa pa1 ac ac1) : Sq true N1 T kn1 im kc1 ic ac1 w d e l k m u v1 pa1 ke kr gr ∧ r = r' := by
  obtain ⟨t, n, ⟨q1, q2, q3, q4, q5⟩, kh, ih⟩ := Sq_t h hb
  have n0 : nQ (N.1 0) (N.1 1) (N.1 2) (N.1 3) (N.2 0) (N.2 1) (N.2 2) (N.2 3) w d k v 0 := n
  obtain ⟨⟨n1, n2, n3, n4⟩, n5, n6⟩ := n0
  have hat : ∀ j : Nat, (j : Int) < k → N.2 1 j = v (0 + (20 + j)) := fun j hj => (n6 j hj).1
  obtain ⟨t1, ⟨b1, b2, b3, b4, b5, b6, b7, b8⟩, t3⟩ := t
  have hso : 0 ≤ p.toInt → p.toInt < w * d → N.2 0 p.toInt.toNat = v p.toInt.toNat := fun x1 x2 => by
    have y := n5 p.toInt.toNat (by omega)
    rw [Nat.zero_add] at y
    exact y
  rw [n3, n4] at hc
  rcases hc with ⟨c1, c2, c3, c4, c5⟩ | ⟨c1, c2, c3, c4, c5, c6, c7⟩
  · rcases hm with ⟨m1, m2, m3, m4, m5, m6, m7⟩ | ⟨m1, m2, m3, m4, m5⟩
    · exfalso
      rw [← hso m2 m3] at m4
      rcases c5 with c | c | c | ⟨c, c'⟩
      · omega
      · omega
      · exact c m4
      · exact waNY (m5 c) (waY_sh hat c')
    · subst m3 m4 m5 c2
      exact ⟨Or.inl ⟨rfl, ⟨t1, ⟨b1, b2, b3, b4, b5, b6, b7, b8⟩, t3⟩, nE_c n hN c4, ⟨q1, q2, q3, q4, q5⟩, smE c1 kh, ih⟩, by omega⟩
  · have hw5 := hso c3 c4
    rcases hm with ⟨m1, m2, m3, m4, m5, m6, m7⟩ | ⟨m1, m2, m3, m4, m5⟩
    · obtain ⟨k1, k2, k3, k4⟩ := kpS n kh q1 q2 b8 b6 c1 m7
      refine ⟨Or.inl ⟨rfl, ⟨t1, ⟨b1, b2, b3, b4, b5, b6, b7, b8⟩, t3⟩, ?_, ⟨k1, k2, k3, q4, q5⟩, k4, ih⟩, by omega⟩
      have y := nQ_so n c3 c4 b8 c7 m6
      obtain ⟨e0, e1, e2, e3, e4, e5, e6⟩ := hN
      unfold nwE
      rw [e0, e1, e2, e3, e4, e5, e6]
      exact y
    · exfalso
      rcases m2 with c | c | c | ⟨c, c'⟩
      · omega
      · omega
      · rw [← hw5] at c; exact c c5
      · exact waNY (waN_sh hat (c6 c)) c'
theorem Sq_chz {b : Bool} {N N1 T : CT} {kn kn1 im im1 : Nat → CT} {kc kc1 ic ac w d e l k m u ac' w' d' e' l' k' m' u' : Int} {v pa ke kr gr v' pa' ke' kr' gr' : Nat → Int32} (h : Sq b N T kn im kc ic ac w d e l k m u v pa ke kr gr) (hb : b = false) (hN : N1.1 1 = N.1 1 ∧ N1.1 2 = N.1 2 ∧ N1.1 3 = N.1 3) (hk : kc1 = kc) : Sq false N1 T kn1 im1 kc1 ic ac' w' d' e' l' k' m' u' v' pa' ke' kr' gr' := by
  obtain ⟨⟨a1, a2, a3⟩, a4, a5, a6⟩ := Sq_f h hb
  refine Or.inr ⟨rfl, ⟨by rw [hN.1]; exact a1, by rw [hN.2.1]; exact a2, by rw [hN.2.2]; exact a3⟩, a4, by omega, a6⟩
theorem Sq_sm {b b1 : Bool} {N N1 T : CT} {kn im : Nat → CT} {kc kc1 ic ic1 ac w d e l k m u : Int} {v pa ke kr gr : Nat → Int32} (h : Sq b N T kn im kc ic ac w d e l k m u v pa ke kr gr) (hb : b = b1) (hN : sN N N1) (hs : N1.2 0 = N.2 0) (hk : kc1 = kc) (hi : ic1 = ic) : Sq b1 N1 T kn im kc1 ic1 ac w d e l k m u v pa ke kr gr := by
  subst hb hk hi
  rcases h with ⟨q0, q1, q2, q3, q4, q5⟩ | ⟨q0, ⟨q1, q2, q3⟩, q4⟩
  · exact Or.inl ⟨q0, q1, nE_c q2 hN hs, q3, q4, q5⟩
  · exact Or.inr ⟨q0, ⟨by rw [hN.2.1]; exact q1, by rw [hN.2.2.1]; exact q2, by rw [hN.2.2.2.1]; exact q3⟩, q4⟩
/-- a step, in both -/
theorem Sq_st {b : Bool} {N N1 T C1 : CT} {kn kn1 im : Nat → CT} {kc kc1 ic ac ac1 w d e l k m u tr r r' st : Int} {v v1 pa pa1 ke kr gr : Nat → Int32} {p : Int32} (h : Sq b N T kn im kc ic ac w d e l k m u v pa ke kr gr) (hb : b = true) (hN : N1.1 0 = N.1 0 ∧ N1.1 1 = N.1 1 ∧ N1.1 2 = N.1 2 ∧ N1.1 3 = N.1 3 ∧ N1.2 0 = N.2 0) (hg : stG tr r (T.1 5).toInt (N.1 1).toInt (N.1 3).toInt (T.2 0) (N.2 0) (N.2 1) (N.2 2) (N.2 3) p st (N1.2 1) (N1.2 2) (N1.2 3)) (hc : (tr ≠ 0 ∧ smR kn kn1 kc ∧ kc1 = kc ∧ N1.2 1 = N.2 1 ∧ N1.2 2 = N.2 2 ∧ N1.2 3 = N.2 3) ∨ (tr = 0 ∧ kpR N kn kn1 kc kc1 C1)) (hm : sxG r' k w d kr v v1 pa pa1 ac ac1 p.toInt st) : Sq true N1 T kn1 im kc1 ic ac1 w d e l k m u v1 pa1 ke kr gr ∧ r = r' := by
  obtain ⟨t, n, ⟨q1, q2, q3, q4, q5⟩, kh, ih⟩ := Sq_t h hb
  have n0 : nQ (N.1 0) (N.1 1) (N.1 2) (N.1 3) (N.2 0) (N.2 1) (N.2 2) (N.2 3) w d k v 0 := n
  obtain ⟨⟨n1, n2, n3, n4⟩, n5, n6⟩ := n0
  obtain ⟨⟨t1, t2, t4, t5, t6, t7, t8⟩, ⟨b1, b2, b3, b4, b5, b6, b7, b8⟩, t3⟩ := t
  rw [t7, n1, n3] at hg
  have hf : ∀ j : Nat, (j : Int) < w * d → N.2 0 j = v j := fun j hj => by
    have y := n5 j hj
    rw [Nat.zero_add] at y
    exact y
  have key : 0 ≤ p.toInt → p.toInt < k → 0 ≤ st → st ≤ 3 → tfZ w (w * d) (N.2 0) (T.2 0 p.toInt.toNat).toInt (N.2 1 p.toInt.toNat).toInt st = laF w d v (kr p.toInt.toNat).toInt (v (20 + p.toInt.toNat)).toInt st := fun x1 x2 x3 x4 => by
    obtain ⟨y1, y2, y3, y4, -⟩ := t3 p.toInt.toNat (by omega)
    obtain ⟨z1, z2, z3, z4, z5⟩ := n6 p.toInt.toNat (by omega)
    rw [Nat.zero_add] at z1
    rw [← y1, ← z1]
    exact (tf_la b1 z4 z5 x3 x4 y3 y4 hf).1
  rcases hg with ⟨g1, g2, g3⟩ | ⟨g1, g2, g3, g4, g5, g6, g7, g8⟩
  · rcases hc with ⟨c1, c2, c3, c4, c5, c6⟩ | ⟨c1, -⟩
    · rcases hm with ⟨m1, m2, m3, m4, m5⟩ | ⟨m1, m2, m3, m4, m5, m6, m7, m8⟩
      · subst m3 m4 m5 c3
        obtain ⟨e0, e1, e2, e3, e4⟩ := hN
        exact ⟨Or.inl ⟨rfl, ⟨⟨t1, t2, t4, t5, t6, t7, t8⟩, ⟨b1, b2, b3, b4, b5, b6, b7, b8⟩, t3⟩, nE_c n ⟨e0, e1, e2, e3, c4, c5, c6⟩ e4, ⟨q1, q2, q3, q4, q5⟩, smE c2 kh, ih⟩, by omega⟩
      · exfalso
        have y := key m1 m2 m3 m4
        rcases g3 with g | g | g | g | g
        · omega
        · omega
        · omega
        · omega
        · exact m5 (y.symm.trans g)
    · omega
  · rcases hc with ⟨c1, -⟩ | ⟨-, c2⟩
    · omega
    · have y := key g2 g3 g4 g5
      rcases hm with ⟨m1, m2, m3, m4, m5⟩ | ⟨m1, m2, m3, m4, m5, m6, m7, m8⟩
      · exfalso
        rcases m2 with g | g | g | g | g
        · omega
        · omega
        · omega
        · omega
        · exact g6 (y.trans g)
      · obtain ⟨k1, k2, k3, k4⟩ := kpS n kh q1 q2 b8 b6 c2 m8
        obtain ⟨y1, y2, y3, y4, -⟩ := t3 p.toInt.toNat (by omega)
        rw [← y1] at m6
        obtain ⟨x1, x2⟩ := nQ_go n g2 g3 b6 b1 b8 g4 g5 y3 y4 g7 g6 m6
        refine ⟨Or.inl ⟨rfl, ⟨⟨t1, t2, t4, t5, t6, t7, t8⟩, ⟨b1, b2, b3, b4, b5, b6, b7, b8⟩, t3⟩, ?_, ⟨k1, k2, k3, q4, q5⟩, k4, ih⟩, by rw [g8, m7]; exact x2⟩
        obtain ⟨e0, e1, e2, e3, e4⟩ := hN
        unfold nwE
        rw [e0, e1, e2, e3, e4]
        exact x1
/-- undo, image, back, in both -/
theorem Sq_un {b : Bool} {N N1 T Z : CT} {kn im : Nat → CT} {kc kc1 ic ac ac1 w d e l k m u r r' : Int} {v v1 pa ke kr gr : Nat → Int32} (h : Sq b N T kn im kc ic ac w d e l k m u v pa ke kr gr) (hb : b = true) (hZ : Z = kn (kc - 1).toNat) (hc : (kc = 0 ∧ r = 0 ∧ kc1 = kc ∧ sN N N1 ∧ N1.2 0 = N.2 0) ∨ (0 < kc ∧ r = 1 ∧ kc1 = kc - 1 ∧ nwC (Z.1 1) (Z.1 2) (Z.2 0) (Z.2 1) (Z.2 2) (Z.2 3) (Z.1 0) (N1.1 1) (N1.1 2) (N1.1 3) (N1.2 0) (N1.2 1) (N1.2 2) (N1.2 3) (N1.1 0))) (hm : unG r' ac ac1 v v1 pa) : Sq true N1 T (upC kn (kc - 1).toNat Z) im kc1 ic ac1 w d e l k m u v1 pa ke kr gr ∧ r = r' := by
  obtain ⟨t, n, ⟨q1, q2, q3, q4, q5⟩, kh, ih⟩ := Sq_t h hb
  rw [hZ, upC_self]
  rw [hZ] at hc
  obtain ⟨t1, ⟨b1, b2, b3, b4, b5, b6, b7, b8⟩, t3⟩ := t
  rcases hc with ⟨c1, c2, c3, c4, c5⟩ | ⟨c1, c2, c3, c4⟩
  · rcases hm with ⟨m1, m2, m3, m4⟩ | ⟨m1, m2, m3, m4⟩
    · subst m4
      exact ⟨Or.inl ⟨rfl, ⟨t1, ⟨b1, b2, b3, b4, b5, b6, b7, b8⟩, t3⟩, nE_c n c4 c5, by omega, fun j hj => kh j (by omega), ih⟩, by omega⟩
    · omega
  · rcases hm with ⟨m1, m2, m3, m4⟩ | ⟨m1, m2, m3, m4⟩
    · omega
    · refine ⟨Or.inl ⟨rfl, ⟨t1, ⟨b1, b2, b3, b4, b5, b6, b7, b8⟩, t3⟩, ?_, by omega, fun j hj => kh j (by omega), ih⟩, by omega⟩
      refine nQ_cp (kh (kc - 1).toNat (by omega)) c4 (fun i hi => ?_) b8 b6
      rw [Nat.zero_add, ← m4 i (by omega)]
      exact congrArg pa (by omega)
theorem Sq_im {b : Bool} {N T C1 : CT} {kn im im1 : Nat → CT} {kc ic ic1 ac w d e l k m u i i1 : Int} {v pa ke ke1 kr gr : Nat → Int32} (h : Sq b N T kn im kc ic ac w d e l k m u v pa ke kr gr) (hb : b = true) (hi : ic = i) (hc : (ic = 3 ∧ ic1 = ic ∧ smR im im1 ic) ∨ (ic < 3 ∧ ic1 = ic + 1 ∧ im1 = upC im ic.toNat C1 ∧ nwC (N.1 1) (N.1 2) (N.2 0) (N.2 1) (N.2 2) (N.2 3) (N.1 0) (C1.1 1) (C1.1 2) (C1.1 3) (C1.2 0) (C1.2 1) (C1.2 2) (C1.2 3) (C1.1 0))) (hm : imG ke ke1 v i i1) : Sq true N T kn im1 kc ic1 ac w d e l k m u v pa ke1 kr gr := by
  subst hi
  obtain ⟨t, n, ⟨q1, q2, q3, q4, q5⟩, kh, ih⟩ := Sq_t h hb
  obtain ⟨t1, ⟨b1, b2, b3, b4, b5, b6, b7, b8⟩, t3⟩ := t
  rcases hc with ⟨c1, c2, c3⟩ | ⟨c1, c2, c3, c4⟩
  · rcases hm with ⟨m1, m2, m3⟩ | ⟨m1, -⟩
    · subst m3 c2
      exact Or.inl ⟨rfl, ⟨t1, ⟨b1, b2, b3, b4, b5, b6, b7, b8⟩, t3⟩, n, by omega, kh, smE c3 ih⟩
    · omega
  · rcases hm with ⟨m1, -⟩ | ⟨m1, m2, m3, m4⟩
    · omega
    · refine Or.inl ⟨rfl, ⟨t1, ⟨b1, b2, b3, b4, b5, b6, b7, b8⟩, t3⟩, n, by omega, kh, fun j hj => ?_⟩
      rw [c3]
      by_cases hq : j = ic.toNat
      · rw [hq, upC_eq]
        refine nQ_cp n c4 (fun y hy => ?_) b8 b6
        rw [Nat.zero_add, ← m4 y (by omega)]
        exact congrArg ke1 (by omega)
      · rw [upC_ne im C1 hq]
        exact nQ_mv (ih j (by omega)) (fun y hy => (m3 (32 * j + y) (by omega)).symm) b8 b6
theorem Sq_ba {b : Bool} {N N1 T Z : CT} {kn im im1 : Nat → CT} {kc kc1 ic ac ac1 w d e l k m u p i r r' : Int} {v v1 pa ke kr gr : Nat → Int32} (h : Sq b N T kn im kc ic ac w d e l k m u v pa ke kr gr) (hb : b = true) (hi : ic = i) (hs : im1 = im) (hc : ((p < 0 ∨ ic ≤ p) ∧ r = 0 ∧ kc1 = kc ∧ sN N N1 ∧ N1.2 0 = N.2 0) ∨ (0 ≤ p ∧ p < ic ∧ r = 1 ∧ kc1 = 0 ∧ Z = im p.toNat ∧ nwC (Z.1 1) (Z.1 2) (Z.2 0) (Z.2 1) (Z.2 2) (Z.2 3) (Z.1 0) (N1.1 1) (N1.1 2) (N1.1 3) (N1.2 0) (N1.2 1) (N1.2 2) (N1.2 3) (N1.1 0))) (hm : bkG r' p i ac ac1 v v1 ke) : Sq true N1 T kn im1 kc1 ic ac1 w d e l k m u v1 pa ke kr gr ∧ r = r' := by
  subst hi hs
  obtain ⟨t, n, ⟨q1, q2, q3, q4, q5⟩, kh, ih⟩ := Sq_t h hb
  obtain ⟨t1, ⟨b1, b2, b3, b4, b5, b6, b7, b8⟩, t3⟩ := t
  rcases hc with ⟨c1, c2, c3, c4, c5⟩ | ⟨c1, c2, c3, c4, c5, c6⟩
  · rcases hm with ⟨m1, m2, -⟩ | ⟨m1, m2, m3, m4⟩
    · omega
    · subst m4
      exact ⟨Or.inl ⟨rfl, ⟨t1, ⟨b1, b2, b3, b4, b5, b6, b7, b8⟩, t3⟩, nE_c n c4 c5, by omega, fun j hj => kh j (by omega), ih⟩, by omega⟩
  · rcases hm with ⟨m1, m2, m3, m4, m5⟩ | ⟨m1, -⟩
    · subst c5
      refine ⟨Or.inl ⟨rfl, ⟨t1, ⟨b1, b2, b3, b4, b5, b6, b7, b8⟩, t3⟩, ?_, by omega, fun j hj => by omega, ih⟩, by omega⟩
      refine nQ_cp (ih p.toNat (by omega)) c6 (fun y hy => ?_) b8 b6
      rw [Nat.zero_add, ← m5 y (by omega)]
      exact congrArg ke (by omega)
    · omega
/-- told anew, in both -/
theorem Sq_pk {bt : Nat → Int32} {p : Int} {N T : CT} {kn im : Nat → CT} {kc ic ac : Int} {w d un wk wl er sl : Int32} {kd go v so uu ws wt wf pa ke : Nat → Int32} (hT : ptB bt p (T.1 0) (T.1 1) (T.1 4) (T.1 5) (T.1 6) (T.1 2) (T.1 3) (T.1 7) (T.2 0) (T.2 1) (T.2 2) (T.2 3) (T.2 4) (T.2 5) (T.2 6) (N.1 1) (N.1 2) (N.1 3) (N.2 0) (N.2 1) (N.2 2) (N.2 3) (N.1 0)) (hM : mpB bt p w d un wk wl er sl kd go v so uu ws wt wf) (hk : kc = 0) (hi : ic = 0) (ha : ac = 0) (hN : 0 < (N.1 3).toInt) : Sq true N T kn im kc ic ac w.toInt d.toInt er.toInt sl.toInt wk.toInt wl.toInt un.toInt v pa ke kd go := by
  obtain ⟨nm, st, rows, ⟨⟨a1, a2, a3, a4, a5, a6⟩, ⟨x1, x2, x3, x4, x5, x6⟩, aS, aG, aE, aB, -, -⟩, ⟨b1, b2, b3, b4, b5, -, -⟩, hr, -, ⟨n1, n2, n3, n4, n5, n6, n7, n8⟩⟩ := hT
  obtain ⟨nm', at', rows', ⟨⟨c1, c2, c3, c4, c5, c6⟩, ⟨y1, y2, y3, y4, y5, y6⟩, cS, cG, cE, cB, -, -⟩, v1, v2, v3⟩ := hM
  have hrd : rows = (T.1 1).toInt := by omega
  have hd : 0 < (T.1 1).toInt := by
    rcases Int.lt_or_le 0 (T.1 1).toInt with q | q
    · exact q
    · exfalso
      rw [n3, show (T.1 1).toInt = 0 by omega, Int.mul_zero] at hN
      omega
  have ew : (T.1 0).toInt = w.toInt := a1.trans c1.symm
  have ed : (T.1 1).toInt = d.toInt := a2.trans c2.symm
  have ek : (T.1 5).toInt = wk.toInt := a5.trans c5.symm
  have er3 : rows = rows' := a3.trans c3.symm
  have q : ((T.1 2).toInt, (T.1 3).toInt) = (er.toInt, sl.toInt) := (aE b1).trans (cE (by omega)).symm
  have q1 : (T.1 2).toInt = er.toInt := congrArg Prod.fst q
  have q2 : (T.1 3).toInt = sl.toInt := congrArg Prod.snd q
  have hb := pl_b0 (w := (T.1 0).toInt) (d := (T.1 1).toInt) (by omega) b2 (by omega) b3
  have hp : 0 < (T.1 0).toInt * (T.1 1).toInt := by rw [← n3]; exact hN
  have epl : (T.1 0).toInt * (T.1 1).toInt = w.toInt * d.toInt := by rw [ew, ed]
  refine Or.inl ⟨rfl, ⟨⟨ew, ed, q1, q2, a4.trans c4.symm, ek, a6.trans c6.symm⟩, ⟨by omega, by omega, by omega, by omega, by omega, by omega, by omega, by omega⟩, fun j hj => ?_⟩, ⟨⟨?_, ?_, ?_, ?_⟩, fun c hc => ?_, fun k hk9 => ?_⟩, by omega, fun j hj => absurd hj (by omega), fun j hj => absurd hj (by omega)⟩
  · have g1 := aG j (by omega)
    have g2 := cG j hj
    have g3 := aB j (by omega)
    have g5 : 0 ≤ (T.2 1 j).toInt ∧ (T.2 1 j).toInt < (T.1 0).toInt * (T.1 1).toInt := g3.2.2.2.2
    have g6 : T.2 1 j = go j := g1.2.2.2.trans g2.2.2.2.symm
    rw [g6] at g5
    exact ⟨g1.2.1.trans g2.2.1.symm, g6, g3.1, g3.2.1, g5.1, by omega⟩
  · rw [n1]; exact ew
  · rw [n2]; exact ed
  · rw [n3]; exact epl
  · rw [n8]; exact ek
  · have hc2 : (c : Int) < (T.1 0).toInt * rows := by rw [hrd, epl]; exact hc
    have hc3 : (c : Int) < w.toInt * rows' := by rw [← er3, ← ew]; exact hc2
    rw [n4 c (by omega), aS c hc2, ← cS c hc3, Nat.zero_add]
    exact (v1 c (by omega)).symm
  · have k5 : (k : Int) < (T.1 5).toInt := by omega
    have g1 : st k = (pG (rdA bt p).1).2.1.2.1 k := (aG k k5).2.2.1
    have g2 : at' k = (pG (rdA bt p).1).2.1.2.1 k := (cG k hk9).2.2.1
    have g3 := aB k k5
    have g4 : 0 ≤ (st k).toInt ∧ (st k).toInt < (T.1 0).toInt * (T.1 1).toInt := ⟨g3.2.2.1, g3.2.2.2.1⟩
    rw [Nat.zero_add, Nat.zero_add, Nat.zero_add, n5 k (by omega), v2 k hk9]
    refine ⟨g1.trans g2.symm, Int32.toInt_inj.mp ?_, Int32.toInt_inj.mp ?_, g4.1, by omega⟩
    · rw [n6 k (by omega), v3 (24 + k) (by omega) (by omega)]
    · rw [n7 k (by omega), v3 (28 + k) (by omega) (by omega)]
def S3 (K : CS) (M : MS) : Prop := Sq M.1 K.2.2.1 K.2.2.2.1 K.2.2.2.2.1 K.2.2.2.2.2 (K.1 0).toInt (K.1 1).toInt (M.2.1 4).toInt (M.2.1 5).toInt (M.2.1 6).toInt (M.2.1 7).toInt (M.2.1 8).toInt (M.2.1 9).toInt (M.2.1 10).toInt (M.2.1 11).toInt (M.2.2 1) (M.2.2 2) (M.2.2 3) (M.2.2 4) (M.2.2 5)
def R3 (K : CS) (M : MS) : Prop := R2 K M ∧ S3 K M
theorem R3_0 : R3 K0 M0 := ⟨R2_0, Or.inr ⟨rfl, by decide, by decide, by decide, by decide⟩⟩
theorem s3_feed {K K1 : CS} {M M1 : MS} {p1 : Int32} {p2 : Int32} {p3 : Int32} {p4 : Int32} {p5 : Int32} {r r' : Int32} (hR : R3 K M) (hc : PC_feed K p1 p2 p3 p4 p5 r K1) (hm : PM_feed M p1 p2 p3 p4 p5 r' M1) : R3 K1 M1 := by
  refine ⟨st_feed hR.1 hc hm, ?_⟩
  have hS := hR.2
  obtain ⟨u0, u1, rfl, c0, c1, c2⟩ := hc
  rcases hm with ⟨hb, v0, v1, rfl, d0, d1, d2⟩ | ⟨hb, v0, v1, rfl, d0, d1, d2⟩
  · exact Sq_b hS hb
  · exact Sq_z hS hb
theorem s3_fault {K K1 : CS} {M M1 : MS} {r r' : Int32} (hR : R3 K M) (hc : PC_fault K r K1) (hm : PM_fault M r' M1) : R3 K1 M1 := by
  refine ⟨st_fault hR.1 hc hm, ?_⟩
  have hS := hR.2
  obtain ⟨rfl, c0⟩ := hc
  rcases hm with ⟨hb, rfl, d0⟩ | ⟨hb, rfl, d0⟩
  · exact Sq_b hS hb
  · exact Sq_z hS hb
theorem s3_where {K K1 : CS} {M M1 : MS} {r r' : Int32} (hR : R3 K M) (hc : PC_where K r K1) (hm : PM_where M r' M1) : R3 K1 M1 := by
  refine ⟨st_where hR.1 hc hm, ?_⟩
  have hS := hR.2
  obtain ⟨rfl, c0⟩ := hc
  rcases hm with ⟨hb, rfl, d0⟩ | ⟨hb, rfl, d0⟩
  · exact Sq_b hS hb
  · exact Sq_z hS hb
theorem s3_place {K K1 : CS} {M M1 : MS} {r r' : Int32} (hR : R3 K M) (hc : PC_place K r K1) (hm : PM_place M r' M1) : R3 K1 M1 := by
  refine ⟨st_place hR.1 hc hm, ?_⟩
  have hS := hR.2
  obtain ⟨u0, rfl, c0⟩ := hc
  rcases hm with ⟨hb, v0, rfl, d0⟩ | ⟨hb, v0, rfl, d0⟩
  · exact Sq_b hS hb
  · exact Sq_z hS hb
theorem s3_walker {K K1 : CS} {M M1 : MS} {r r' : Int32} (hR : R3 K M) (hc : PC_walker K r K1) (hm : PM_walker M r' M1) : R3 K1 M1 := by
  refine ⟨st_walker hR.1 hc hm, ?_⟩
  have hS := hR.2
  obtain ⟨u0, rfl, c0⟩ := hc
  rcases hm with ⟨hb, v0, rfl, d0⟩ | ⟨hb, v0, rfl, d0⟩
  · exact Sq_b hS hb
  · exact Sq_z hS hb
theorem s3_minutes {K K1 : CS} {M M1 : MS} {r r' : Int32} (hR : R3 K M) (hc : PC_minutes K r K1) (hm : PM_minutes M r' M1) : R3 K1 M1 := by
  refine ⟨st_minutes hR.1 hc hm, ?_⟩
  have hS := hR.2
  obtain ⟨u0, rfl, c0⟩ := hc
  rcases hm with ⟨hb, v0, rfl, d0⟩ | ⟨hb, v0, rfl, d0⟩
  · exact Sq_b hS hb
  · exact Sq_z hS hb
theorem s3_falls {K K1 : CS} {M M1 : MS} {r r' : Int32} (hR : R3 K M) (hc : PC_falls K r K1) (hm : PM_falls M r' M1) : R3 K1 M1 := by
  refine ⟨st_falls hR.1 hc hm, ?_⟩
  have hS := hR.2
  obtain ⟨u0, rfl, c0⟩ := hc
  rcases hm with ⟨hb, v0, rfl, d0⟩ | ⟨hb, v0, rfl, d0⟩
  · exact Sq_b hS hb
  · exact Sq_z hS hb
theorem s3_all {K K1 : CS} {M M1 : MS} {r r' : Int32} (hR : R3 K M) (hc : PC_all K r K1) (hm : PM_all M r' M1) : R3 K1 M1 := by
  refine ⟨st_all hR.1 hc hm, ?_⟩
  have hS := hR.2
  obtain ⟨u0, rfl, c0⟩ := hc
  rcases hm with ⟨hb, v0, rfl, d0⟩ | ⟨hb, v0, rfl, d0⟩
  · exact Sq_b hS hb
  · exact Sq_z hS hb
theorem s3_quick {K K1 : CS} {M M1 : MS} {r r' : Int32} (hR : R3 K M) (hc : PC_quick K r K1) (hm : PM_quick M r' M1) : R3 K1 M1 := by
  refine ⟨st_quick hR.1 hc hm, ?_⟩
  have hS := hR.2
  obtain ⟨u0, rfl, c0⟩ := hc
  rcases hm with ⟨hb, v0, rfl, d0⟩ | ⟨hb, v0, rfl, d0⟩
  · exact Sq_b hS hb
  · exact Sq_z hS hb
theorem s3_quickFalls {K K1 : CS} {M M1 : MS} {r r' : Int32} (hR : R3 K M) (hc : PC_quickFalls K r K1) (hm : PM_quickFalls M r' M1) : R3 K1 M1 := by
  refine ⟨st_quickFalls hR.1 hc hm, ?_⟩
  have hS := hR.2
  obtain ⟨u0, rfl, c0⟩ := hc
  rcases hm with ⟨hb, v0, rfl, d0⟩ | ⟨hb, v0, rfl, d0⟩
  · exact Sq_b hS hb
  · exact Sq_z hS hb
theorem s3_quickAt {K K1 : CS} {M M1 : MS} {r r' : Int32} (hR : R3 K M) (hc : PC_quickAt K r K1) (hm : PM_quickAt M r' M1) : R3 K1 M1 := by
  refine ⟨st_quickAt hR.1 hc hm, ?_⟩
  have hS := hR.2
  obtain ⟨u0, rfl, c0⟩ := hc
  rcases hm with ⟨hb, v0, rfl, d0⟩ | ⟨hb, v0, rfl, d0⟩
  · exact Sq_b hS hb
  · exact Sq_z hS hb
theorem s3_dry {K K1 : CS} {M M1 : MS} {r r' : Int32} (hR : R3 K M) (hc : PC_dry K r K1) (hm : PM_dry M r' M1) : R3 K1 M1 := by
  refine ⟨st_dry hR.1 hc hm, ?_⟩
  have hS := hR.2
  obtain ⟨u0, rfl, c0⟩ := hc
  rcases hm with ⟨hb, v0, rfl, d0⟩ | ⟨hb, v0, rfl, d0⟩
  · exact Sq_b hS hb
  · exact Sq_z hS hb
theorem s3_dryMinutes {K K1 : CS} {M M1 : MS} {r r' : Int32} (hR : R3 K M) (hc : PC_dryMinutes K r K1) (hm : PM_dryMinutes M r' M1) : R3 K1 M1 := by
  refine ⟨st_dryMinutes hR.1 hc hm, ?_⟩
  have hS := hR.2
  obtain ⟨u0, rfl, c0⟩ := hc
  rcases hm with ⟨hb, v0, rfl, d0⟩ | ⟨hb, v0, rfl, d0⟩
  · exact Sq_b hS hb
  · exact Sq_z hS hb
theorem s3_dryAt {K K1 : CS} {M M1 : MS} {r r' : Int32} (hR : R3 K M) (hc : PC_dryAt K r K1) (hm : PM_dryAt M r' M1) : R3 K1 M1 := by
  refine ⟨st_dryAt hR.1 hc hm, ?_⟩
  have hS := hR.2
  obtain ⟨u0, rfl, c0⟩ := hc
  rcases hm with ⟨hb, v0, rfl, d0⟩ | ⟨hb, v0, rfl, d0⟩
  · exact Sq_b hS hb
  · exact Sq_z hS hb
theorem s3_reach {K K1 : CS} {M M1 : MS} {r r' : Int32} (hR : R3 K M) (hc : PC_reach K r K1) (hm : PM_reach M r' M1) : R3 K1 M1 := by
  refine ⟨st_reach hR.1 hc hm, ?_⟩
  have hS := hR.2
  obtain ⟨u0, rfl, c0⟩ := hc
  rcases hm with ⟨hb, v0, rfl, d0⟩ | ⟨hb, v0, rfl, d0⟩
  · exact Sq_b hS hb
  · exact Sq_z hS hb
theorem s3_reachIn {K K1 : CS} {M M1 : MS} {r r' : Int32} (hR : R3 K M) (hc : PC_reachIn K r K1) (hm : PM_reachIn M r' M1) : R3 K1 M1 := by
  refine ⟨st_reachIn hR.1 hc hm, ?_⟩
  have hS := hR.2
  obtain ⟨u0, rfl, c0⟩ := hc
  rcases hm with ⟨hb, v0, rfl, d0⟩ | ⟨hb, v0, rfl, d0⟩
  · exact Sq_b hS hb
  · exact Sq_z hS hb
theorem s3_minutesTo {K K1 : CS} {M M1 : MS} {r r' : Int32} (hR : R3 K M) (hc : PC_minutesTo K r K1) (hm : PM_minutesTo M r' M1) : R3 K1 M1 := by
  refine ⟨st_minutesTo hR.1 hc hm, ?_⟩
  have hS := hR.2
  obtain ⟨u0, rfl, c0⟩ := hc
  rcases hm with ⟨hb, v0, rfl, d0⟩ | ⟨hb, v0, rfl, d0⟩
  · exact Sq_b hS hb
  · exact Sq_z hS hb
theorem s3_latest {K K1 : CS} {M M1 : MS} {r r' : Int32} (hR : R3 K M) (hc : PC_latest K r K1) (hm : PM_latest M r' M1) : R3 K1 M1 := by
  refine ⟨st_latest hR.1 hc hm, ?_⟩
  have hS := hR.2
  obtain ⟨u0, rfl, c0⟩ := hc
  rcases hm with ⟨hb, v0, rfl, d0⟩ | ⟨hb, v0, rfl, d0⟩
  · exact Sq_b hS hb
  · exact Sq_z hS hb
theorem s3_cut {K K1 : CS} {M M1 : MS} {r r' : Int32} (hR : R3 K M) (hc : PC_cut K r K1) (hm : PM_cut M r' M1) : R3 K1 M1 := by
  refine ⟨st_cut hR.1 hc hm, ?_⟩
  have hS := hR.2
  obtain ⟨u0, rfl, c0⟩ := hc
  rcases hm with ⟨hb, v0, rfl, d0⟩ | ⟨hb, v0, rfl, d0⟩
  · exact Sq_b hS hb
  · exact Sq_z hS hb
theorem s3_gates {K K1 : CS} {M M1 : MS} {r r' : Int32} (hR : R3 K M) (hc : PC_gates K r K1) (hm : PM_gates M r' M1) : R3 K1 M1 := by
  refine ⟨st_gates hR.1 hc hm, ?_⟩
  have hS := hR.2
  obtain ⟨u0, rfl, c0⟩ := hc
  rcases hm with ⟨hb, v0, rfl, d0⟩ | ⟨hb, v0, rfl, d0⟩
  · exact Sq_b hS hb
  · exact Sq_z hS hb
theorem s3_toFill {K K1 : CS} {M M1 : MS} {r r' : Int32} (hR : R3 K M) (hc : PC_toFill K r K1) (hm : PM_toFill M r' M1) : R3 K1 M1 := by
  refine ⟨st_toFill hR.1 hc hm, ?_⟩
  have hS := hR.2
  obtain ⟨u0, rfl, c0⟩ := hc
  rcases hm with ⟨hb, v0, rfl, d0⟩ | ⟨hb, v0, rfl, d0⟩
  · exact Sq_b hS hb
  · exact Sq_z hS hb
theorem s3_trap {K K1 : CS} {M M1 : MS} {r r' : Int32} (hR : R3 K M) (hc : PC_trap K r K1) (hm : PM_trap M r' M1) : R3 K1 M1 := by
  refine ⟨st_trap hR.1 hc hm, ?_⟩
  have hS := hR.2
  obtain ⟨u0, rfl, c0⟩ := hc
  rcases hm with ⟨hb, v0, rfl, d0⟩ | ⟨hb, v0, rfl, d0⟩
  · exact Sq_b hS hb
  · exact Sq_z hS hb
theorem s3_meet {K K1 : CS} {M M1 : MS} {r r' : Int32} (hR : R3 K M) (hc : PC_meet K r K1) (hm : PM_meet M r' M1) : R3 K1 M1 := by
  refine ⟨st_meet hR.1 hc hm, ?_⟩
  have hS := hR.2
  obtain ⟨u0, rfl, c0⟩ := hc
  rcases hm with ⟨hb, v0, rfl, d0⟩ | ⟨hb, v0, rfl, d0⟩
  · exact Sq_b hS hb
  · exact Sq_z hS hb
theorem s3_meetAt {K K1 : CS} {M M1 : MS} {r r' : Int32} (hR : R3 K M) (hc : PC_meetAt K r K1) (hm : PM_meetAt M r' M1) : R3 K1 M1 := by
  refine ⟨st_meetAt hR.1 hc hm, ?_⟩
  have hS := hR.2
  obtain ⟨u0, rfl, c0⟩ := hc
  rcases hm with ⟨hb, v0, rfl, d0⟩ | ⟨hb, v0, rfl, d0⟩
  · exact Sq_b hS hb
  · exact Sq_z hS hb
theorem s3_passers {K K1 : CS} {M M1 : MS} {r r' : Int32} (hR : R3 K M) (hc : PC_passers K r K1) (hm : PM_passers M r' M1) : R3 K1 M1 := by
  refine ⟨st_passers hR.1 hc hm, ?_⟩
  have hS := hR.2
  obtain ⟨u0, rfl, c0⟩ := hc
  rcases hm with ⟨hb, v0, rfl, d0⟩ | ⟨hb, v0, rfl, d0⟩
  · exact Sq_b hS hb
  · exact Sq_z hS hb
theorem s3_fits {K K1 : CS} {M M1 : MS} {r r' : Int32} (hR : R3 K M) (hc : PC_fits K r K1) (hm : PM_fits M r' M1) : R3 K1 M1 := by
  refine ⟨st_fits hR.1 hc hm, ?_⟩
  have hS := hR.2
  obtain ⟨u0, rfl, c0⟩ := hc
  rcases hm with ⟨hb, v0, rfl, d0⟩ | ⟨hb, v0, rfl, d0⟩
  · exact Sq_b hS hb
  · exact Sq_z hS hb
theorem s3_fitAt {K K1 : CS} {M M1 : MS} {p1 : Int32} {r r' : Int32} (hR : R3 K M) (hc : PC_fitAt K p1 r K1) (hm : PM_fitAt M p1 r' M1) : R3 K1 M1 := by
  refine ⟨st_fitAt hR.1 hc hm, ?_⟩
  have hS := hR.2
  obtain ⟨u0, rfl, c0, c1⟩ := hc
  rcases hm with ⟨hb, v0, rfl, d0, d1⟩ | ⟨hb, v0, rfl, d0, d1⟩
  · exact Sq_b hS hb
  · exact Sq_z hS hb
theorem s3_odds {K K1 : CS} {M M1 : MS} {r r' : Int64} (hR : R3 K M) (hc : PC_odds K r K1) (hm : PM_odds M r' M1) : R3 K1 M1 := by
  refine ⟨st_odds hR.1 hc hm, ?_⟩
  have hS := hR.2
  obtain ⟨u0, rfl, c0⟩ := hc
  rcases hm with ⟨hb, v0, rfl, d0⟩ | ⟨hb, v0, rfl, d0⟩
  · exact Sq_b hS hb
  · exact Sq_z hS hb
theorem s3_likeliest {K K1 : CS} {M M1 : MS} {r r' : Int32} (hR : R3 K M) (hc : PC_likeliest K r K1) (hm : PM_likeliest M r' M1) : R3 K1 M1 := by
  refine ⟨st_likeliest hR.1 hc hm, ?_⟩
  have hS := hR.2
  obtain ⟨u0, rfl, c0⟩ := hc
  rcases hm with ⟨hb, v0, rfl, d0⟩ | ⟨hb, v0, rfl, d0⟩
  · exact Sq_b hS hb
  · exact Sq_z hS hb
theorem s3_tread {K K1 : CS} {M M1 : MS} {r r' : Int32} (hR : R3 K M) (hc : PC_tread K r K1) (hm : PM_tread M r' M1) : R3 K1 M1 := by
  refine ⟨st_tread hR.1 hc hm, ?_⟩
  have hS := hR.2
  obtain ⟨u0, rfl, c0⟩ := hc
  rcases hm with ⟨hb, v0, rfl, d0⟩ | ⟨hb, v0, rfl, d0⟩
  · exact Sq_b hS hb
  · exact Sq_z hS hb
theorem s3_treadLeaves {K K1 : CS} {M M1 : MS} {r r' : Int32} (hR : R3 K M) (hc : PC_treadLeaves K r K1) (hm : PM_treadLeaves M r' M1) : R3 K1 M1 := by
  refine ⟨st_treadLeaves hR.1 hc hm, ?_⟩
  have hS := hR.2
  obtain ⟨u0, rfl, c0⟩ := hc
  rcases hm with ⟨hb, v0, rfl, d0⟩ | ⟨hb, v0, rfl, d0⟩
  · exact Sq_b hS hb
  · exact Sq_z hS hb
theorem s3_judge {K K1 : CS} {M M1 : MS} {r r' : Int32} (hR : R3 K M) (hc : PC_judge K r K1) (hm : PM_judge M r' M1) : R3 K1 M1 := by
  refine ⟨st_judge hR.1 hc hm, ?_⟩
  have hS := hR.2
  obtain ⟨u0, rfl, c0⟩ := hc
  rcases hm with ⟨hb, v0, rfl, d0⟩ | ⟨hb, v0, rfl, d0⟩
  · exact Sq_b hS hb
  · exact Sq_z hS hb
theorem s3_walkOdds {K K1 : CS} {M M1 : MS} {r r' : Int64} (hR : R3 K M) (hc : PC_walkOdds K r K1) (hm : PM_walkOdds M r' M1) : R3 K1 M1 := by
  refine ⟨st_walkOdds hR.1 hc hm, ?_⟩
  have hS := hR.2
  obtain ⟨u0, rfl, c0⟩ := hc
  rcases hm with ⟨hb, v0, rfl, d0⟩ | ⟨hb, v0, rfl, d0⟩
  · exact Sq_b hS hb
  · exact Sq_z hS hb
theorem s3_lies {K K1 : CS} {M M1 : MS} {r r' : Int32} (hR : R3 K M) (hc : PC_lies K r K1) (hm : PM_lies M r' M1) : R3 K1 M1 := by
  refine ⟨st_lies hR.1 hc hm, ?_⟩
  have hS := hR.2
  obtain ⟨u0, rfl, c0⟩ := hc
  rcases hm with ⟨hb, v0, rfl, d0⟩ | ⟨hb, v0, rfl, d0⟩
  · exact Sq_b hS hb
  · exact Sq_z hS hb
theorem s3_rests {K K1 : CS} {M M1 : MS} {r r' : Int32} (hR : R3 K M) (hc : PC_rests K r K1) (hm : PM_rests M r' M1) : R3 K1 M1 := by
  refine ⟨st_rests hR.1 hc hm, ?_⟩
  have hS := hR.2
  obtain ⟨u0, rfl, c0⟩ := hc
  rcases hm with ⟨hb, v0, rfl, d0⟩ | ⟨hb, v0, rfl, d0⟩
  · exact Sq_b hS hb
  · exact Sq_z hS hb
theorem s3_rest {K K1 : CS} {M M1 : MS} {r r' : Int32} (hR : R3 K M) (hc : PC_rest K r K1) (hm : PM_rest M r' M1) : R3 K1 M1 := by
  refine ⟨st_rest hR.1 hc hm, ?_⟩
  have hS := hR.2
  obtain ⟨u0, rfl, c0⟩ := hc
  rcases hm with ⟨hb, v0, rfl, d0⟩ | ⟨hb, v0, rfl, d0⟩
  · exact Sq_b hS hb
  · exact Sq_z hS hb
theorem s3_fallOdds {K K1 : CS} {M M1 : MS} {r r' : Int64} (hR : R3 K M) (hc : PC_fallOdds K r K1) (hm : PM_fallOdds M r' M1) : R3 K1 M1 := by
  refine ⟨st_fallOdds hR.1 hc hm, ?_⟩
  have hS := hR.2
  obtain ⟨u0, rfl, c0⟩ := hc
  rcases hm with ⟨hb, v0, rfl, d0⟩ | ⟨hb, v0, rfl, d0⟩
  · exact Sq_b hS hb
  · exact Sq_z hS hb
theorem s3_mean {K K1 : CS} {M M1 : MS} {r r' : Int64} (hR : R3 K M) (hc : PC_mean K r K1) (hm : PM_mean M r' M1) : R3 K1 M1 := by
  refine ⟨st_mean hR.1 hc hm, ?_⟩
  have hS := hR.2
  obtain ⟨u0, rfl, c0⟩ := hc
  rcases hm with ⟨hb, v0, rfl, d0⟩ | ⟨hb, v0, rfl, d0⟩
  · exact Sq_b hS hb
  · exact Sq_z hS hb
theorem s3_ramble {K K1 : CS} {M M1 : MS} {r r' : Int32} (hR : R3 K M) (hc : PC_ramble K r K1) (hm : PM_ramble M r' M1) : R3 K1 M1 := by
  refine ⟨st_ramble hR.1 hc hm, ?_⟩
  have hS := hR.2
  obtain ⟨u0, rfl, c0⟩ := hc
  rcases hm with ⟨hb, v0, rfl, d0⟩ | ⟨hb, v0, rfl, d0⟩
  · exact Sq_b hS hb
  · exact Sq_z hS hb
theorem s3_rambleFalls {K K1 : CS} {M M1 : MS} {r r' : Int32} (hR : R3 K M) (hc : PC_rambleFalls K r K1) (hm : PM_rambleFalls M r' M1) : R3 K1 M1 := by
  refine ⟨st_rambleFalls hR.1 hc hm, ?_⟩
  have hS := hR.2
  obtain ⟨u0, rfl, c0⟩ := hc
  rcases hm with ⟨hb, v0, rfl, d0⟩ | ⟨hb, v0, rfl, d0⟩
  · exact Sq_b hS hb
  · exact Sq_z hS hb
theorem s3_strayed {K K1 : CS} {M M1 : MS} {r r' : Int32} (hR : R3 K M) (hc : PC_strayed K r K1) (hm : PM_strayed M r' M1) : R3 K1 M1 := by
  refine ⟨st_strayed hR.1 hc hm, ?_⟩
  have hS := hR.2
  obtain ⟨u0, rfl, c0⟩ := hc
  rcases hm with ⟨hb, v0, rfl, d0⟩ | ⟨hb, v0, rfl, d0⟩
  · exact Sq_b hS hb
  · exact Sq_z hS hb
theorem s3_size {K K1 : CS} {M M1 : MS} {r r' : Int32} (hR : R3 K M) (hc : PC_size K r K1) (hm : PM_size M r' M1) : R3 K1 M1 := by
  refine ⟨st_size hR.1 hc hm, ?_⟩
  have hS := hR.2
  obtain rfl := hc
  rcases hm with ⟨hb, rfl⟩ | ⟨hb, rfl⟩
  · exact Sq_b hS hb
  · exact Sq_z hS hb
theorem s3_trouble {K K1 : CS} {M M1 : MS} {r r' : Int32} (hR : R3 K M) (hc : PC_trouble K r K1) (hm : PM_trouble M r' M1) : R3 K1 M1 := by
  refine ⟨st_trouble hR.1 hc hm, ?_⟩
  have hS := hR.2
  obtain rfl := hc
  rcases hm with ⟨hb, rfl⟩ | ⟨hb, rfl⟩
  · exact Sq_b hS hb
  · exact Sq_z hS hb
theorem s3_led {K : CS} {M M1 : MS} {r' : Int32} (hR : R3 K M) (hm : PM_led M r' M1) : R3 K M1 := by
  refine ⟨st_led hR.1 hm, ?_⟩
  have hS := hR.2
  rcases hm with ⟨hb, rfl⟩ | ⟨hb, rfl⟩
  · exact Sq_b hS hb
  · exact Sq_z hS hb
theorem a3_feed {K K1 : CS} {M M1 : MS} {p1 : Int32} {p2 : Int32} {p3 : Int32} {p4 : Int32} {p5 : Int32} {r r' : Int32} (hR : R3 K M) (hc : PC_feed K p1 p2 p3 p4 p5 r K1) (hm : PM_feed M p1 p2 p3 p4 p5 r' M1) : r.toInt = r'.toInt := an_feed hR.1 hc hm
theorem a3_fault {K K1 : CS} {M M1 : MS} {r r' : Int32} (hR : R3 K M) (hc : PC_fault K r K1) (hm : PM_fault M r' M1) : r.toInt = r'.toInt := an_fault hR.1 hc hm
theorem a3_where {K K1 : CS} {M M1 : MS} {r r' : Int32} (hR : R3 K M) (hc : PC_where K r K1) (hm : PM_where M r' M1) : r.toInt = r'.toInt := an_where hR.1 hc hm
theorem a3_image {K K1 : CS} {M M1 : MS} {r r' : Int32} (hR : R3 K M) (hc : PC_image K r K1) (hm : PM_image M r' M1) : r.toInt = r'.toInt := an_image hR.1 hc hm
theorem a3_back {K K1 : CS} {M M1 : MS} {p1 : Int32} {r r' : Int32} (hR : R3 K M) (hc : PC_back K p1 r K1) (hm : PM_back M p1 r' M1) : r.toInt = r'.toInt := an_back hR.1 hc hm
theorem a3_park {K K1 : CS} {M M1 : MS} {p1 : Int32} {r r' : Int32} (hR : R3 K M) (hc : PC_park K p1 r K1) (hm : PM_park M p1 r' M1) : r.toInt = r'.toInt := an_park hR.1 hc hm
set_option maxHeartbeats 4000000 in
theorem q3_dig {K K1 : CS} {M M1 : MS} {p1 : Int32} {r r' : Int32} (hR : R3 K M) (hc : PC_dig K p1 r K1) (hm : PM_dig M p1 r' M1) : S3 K1 M1 ∧ r.toInt = r'.toInt := by
  have hS := hR.2
  rcases hc with ⟨hk, u0, u1, u2, z0, z1, z2, z3, z4, z5, z6, z7, Z, eZ, rfl, c0, c1⟩ | ⟨hk, u0, u1, z0, z1, z2, z3, z4, z5, z6, z7, Z, n1, eZ, rfl, c0, cm⟩
  · rcases hm with ⟨hb, v0, v1, v2, v3, rfl, d0, d1⟩ | ⟨hb, v0, rfl, d0, d1⟩
    · rcases c0 with ⟨e1, e2, e3, e4, e5⟩ | ⟨f1, f2, f3, f4, f5, f6, f7, f8⟩
      · exact Sq_ch (C1 := (mkC z0 z1 z2 z3 0 0 0 0 0 0 0 0, mkD z4 z5 z6 z7 (fun _ => 0) (fun _ => 0) (fun _ => 0) (fun _ => 0) (fun _ => 0) (fun _ => 0) (fun _ => 0) (fun _ => 0))) (a := (0 : Int32).toInt) (b' := (1 : Int32)) hS hb ⟨rfl, rfl, rfl, rfl, rfl, rfl, rfl⟩ ((Or.inl ⟨smR_n, congrArg Int32.toInt e1, e4, e3, (by rcases e5 with ⟨-, g | g⟩ | ⟨-, -, -, g⟩; exact Or.inl g; exact Or.inr (Or.inl g); exact Or.inr (Or.inr (Or.inl g)))⟩)) d0
      · exact Sq_ch (C1 := (mkC z0 z1 z2 z3 0 0 0 0 0 0 0 0, mkD z4 z5 z6 z7 (fun _ => 0) (fun _ => 0) (fun _ => 0) (fun _ => 0) (fun _ => 0) (fun _ => 0) (fun _ => 0) (fun _ => 0))) (a := (0 : Int32).toInt) (b' := (1 : Int32)) hS hb ⟨rfl, rfl, rfl, rfl, rfl, rfl, rfl⟩ ((Or.inr ⟨⟨f2, Or.inl ⟨hk, f1, rfl⟩⟩, f3, f5, f6, f7, (fun h9 => absurd h9 (by decide)), f8⟩)) d0
    · have h0 := (Sq_f hS hb).1.2.2
      rcases c0 with ⟨e1, e2, e3, e4, e5⟩ | ⟨f1, f2, f3, f4, f5, f6, f7, f8⟩
      · exact ⟨Sq_chz hS hb ⟨rfl, rfl, rfl⟩ (congrArg Int32.toInt e1), e4.trans d0.symm⟩
      · exfalso; omega
  · rcases hm with ⟨hb, v0, v1, v2, v3, rfl, d0, d1⟩ | ⟨hb, v0, rfl, d0, d1⟩
    · rcases cm with ⟨e1, e2, e3, e4, e5⟩ | ⟨f1, f2, f3, f4, f5, f6, f7, f8⟩
      · rw [eZ] at e2; subst e1
        exact Sq_ch (C1 := (mkC z0 z1 z2 z3 0 0 0 0 0 0 0 0, mkD z4 z5 z6 z7 (fun _ => 0) (fun _ => 0) (fun _ => 0) (fun _ => 0) (fun _ => 0) (fun _ => 0) (fun _ => 0) (fun _ => 0))) (a := (0 : Int32).toInt) (b' := (1 : Int32)) hS hb ⟨rfl, rfl, rfl, rfl, rfl, rfl, rfl⟩ ((Or.inl ⟨smR_f e2, rfl, e4, e3, (by rcases e5 with ⟨-, g | g⟩ | ⟨-, -, -, g⟩; exact Or.inl g; exact Or.inr (Or.inl g); exact Or.inr (Or.inr (Or.inl g)))⟩)) d0
      · exact Sq_ch (C1 := (mkC z0 z1 z2 z3 0 0 0 0 0 0 0 0, mkD z4 z5 z6 z7 (fun _ => 0) (fun _ => 0) (fun _ => 0) (fun _ => 0) (fun _ => 0) (fun _ => 0) (fun _ => 0) (fun _ => 0))) (a := (0 : Int32).toInt) (b' := (1 : Int32)) hS hb ⟨rfl, rfl, rfl, rfl, rfl, rfl, rfl⟩ ((Or.inr ⟨⟨f2, Or.inr ⟨hk, hk, f1⟩⟩, f3, f5, f6, f7, (fun h9 => absurd h9 (by decide)), f8⟩)) d0
    · have h0 := (Sq_f hS hb).1.2.2
      rcases cm with ⟨e1, e2, e3, e4, e5⟩ | ⟨f1, f2, f3, f4, f5, f6, f7, f8⟩
      · exact ⟨Sq_chz hS hb ⟨rfl, rfl, rfl⟩ rfl, e4.trans d0.symm⟩
      · exfalso; omega
set_option maxHeartbeats 4000000 in
theorem q3_fill {K K1 : CS} {M M1 : MS} {p1 : Int32} {r r' : Int32} (hR : R3 K M) (hc : PC_fill K p1 r K1) (hm : PM_fill M p1 r' M1) : S3 K1 M1 ∧ r.toInt = r'.toInt := by
  have hS := hR.2
  rcases hc with ⟨hk, u0, u1, u2, z0, z1, z2, z3, z4, z5, z6, z7, Z, eZ, rfl, c0, c1⟩ | ⟨hk, u0, u1, z0, z1, z2, z3, z4, z5, z6, z7, Z, n1, eZ, rfl, c0, cm⟩
  · rcases hm with ⟨hb, v0, v1, v2, v3, rfl, d0, d1⟩ | ⟨hb, v0, rfl, d0, d1⟩
    · rcases c0 with ⟨e1, e2, e3, e4, e5⟩ | ⟨f1, f2, f3, f4, f5, f6, f7, f8⟩
      · exact Sq_ch (C1 := (mkC z0 z1 z2 z3 0 0 0 0 0 0 0 0, mkD z4 z5 z6 z7 (fun _ => 0) (fun _ => 0) (fun _ => 0) (fun _ => 0) (fun _ => 0) (fun _ => 0) (fun _ => 0) (fun _ => 0))) (a := (1 : Int32).toInt) (b' := (0 : Int32)) hS hb ⟨rfl, rfl, rfl, rfl, rfl, rfl, rfl⟩ ((Or.inl ⟨smR_n, congrArg Int32.toInt e1, e4, e3, (by rcases e5 with ⟨-, g | g⟩ | ⟨-, -, -, g⟩; exact Or.inl g; exact Or.inr (Or.inl g); exact Or.inr (Or.inr (Or.inl g)))⟩)) d0
      · exact Sq_ch (C1 := (mkC z0 z1 z2 z3 0 0 0 0 0 0 0 0, mkD z4 z5 z6 z7 (fun _ => 0) (fun _ => 0) (fun _ => 0) (fun _ => 0) (fun _ => 0) (fun _ => 0) (fun _ => 0) (fun _ => 0))) (a := (1 : Int32).toInt) (b' := (0 : Int32)) hS hb ⟨rfl, rfl, rfl, rfl, rfl, rfl, rfl⟩ ((Or.inr ⟨⟨f2, Or.inl ⟨hk, f1, rfl⟩⟩, f3, f5, f6, f7, (fun h9 => absurd h9 (by decide)), f8⟩)) d0
    · have h0 := (Sq_f hS hb).1.2.2
      rcases c0 with ⟨e1, e2, e3, e4, e5⟩ | ⟨f1, f2, f3, f4, f5, f6, f7, f8⟩
      · exact ⟨Sq_chz hS hb ⟨rfl, rfl, rfl⟩ (congrArg Int32.toInt e1), e4.trans d0.symm⟩
      · exfalso; omega
  · rcases hm with ⟨hb, v0, v1, v2, v3, rfl, d0, d1⟩ | ⟨hb, v0, rfl, d0, d1⟩
    · rcases cm with ⟨e1, e2, e3, e4, e5⟩ | ⟨f1, f2, f3, f4, f5, f6, f7, f8⟩
      · rw [eZ] at e2; subst e1
        exact Sq_ch (C1 := (mkC z0 z1 z2 z3 0 0 0 0 0 0 0 0, mkD z4 z5 z6 z7 (fun _ => 0) (fun _ => 0) (fun _ => 0) (fun _ => 0) (fun _ => 0) (fun _ => 0) (fun _ => 0) (fun _ => 0))) (a := (1 : Int32).toInt) (b' := (0 : Int32)) hS hb ⟨rfl, rfl, rfl, rfl, rfl, rfl, rfl⟩ ((Or.inl ⟨smR_f e2, rfl, e4, e3, (by rcases e5 with ⟨-, g | g⟩ | ⟨-, -, -, g⟩; exact Or.inl g; exact Or.inr (Or.inl g); exact Or.inr (Or.inr (Or.inl g)))⟩)) d0
      · exact Sq_ch (C1 := (mkC z0 z1 z2 z3 0 0 0 0 0 0 0 0, mkD z4 z5 z6 z7 (fun _ => 0) (fun _ => 0) (fun _ => 0) (fun _ => 0) (fun _ => 0) (fun _ => 0) (fun _ => 0) (fun _ => 0))) (a := (1 : Int32).toInt) (b' := (0 : Int32)) hS hb ⟨rfl, rfl, rfl, rfl, rfl, rfl, rfl⟩ ((Or.inr ⟨⟨f2, Or.inr ⟨hk, hk, f1⟩⟩, f3, f5, f6, f7, (fun h9 => absurd h9 (by decide)), f8⟩)) d0
    · have h0 := (Sq_f hS hb).1.2.2
      rcases cm with ⟨e1, e2, e3, e4, e5⟩ | ⟨f1, f2, f3, f4, f5, f6, f7, f8⟩
      · exact ⟨Sq_chz hS hb ⟨rfl, rfl, rfl⟩ rfl, e4.trans d0.symm⟩
      · exfalso; omega
set_option maxHeartbeats 4000000 in
theorem q3_gate {K K1 : CS} {M M1 : MS} {p1 : Int32} {r r' : Int32} (hR : R3 K M) (hc : PC_gate K p1 r K1) (hm : PM_gate M p1 r' M1) : S3 K1 M1 ∧ r.toInt = r'.toInt := by
  have hS := hR.2
  rcases hc with ⟨hk, u0, u1, u2, z0, z1, z2, z3, z4, z5, z6, z7, Z, eZ, rfl, c0, c1⟩ | ⟨hk, u0, u1, z0, z1, z2, z3, z4, z5, z6, z7, Z, n1, eZ, rfl, c0, cm⟩
  · rcases hm with ⟨hb, v0, v1, v2, v3, rfl, d0, d1⟩ | ⟨hb, v0, rfl, d0, d1⟩
    · rcases c0 with ⟨e1, e2, e3, e4, e5⟩ | ⟨f1, f2, f3, f4, f5, f6, f7, f8⟩
      · exact Sq_ch (C1 := (mkC z0 z1 z2 z3 0 0 0 0 0 0 0 0, mkD z4 z5 z6 z7 (fun _ => 0) (fun _ => 0) (fun _ => 0) (fun _ => 0) (fun _ => 0) (fun _ => 0) (fun _ => 0) (fun _ => 0))) (a := (1 : Int32).toInt) (b' := (2 : Int32)) hS hb ⟨rfl, rfl, rfl, rfl, rfl, rfl, rfl⟩ ((Or.inl ⟨smR_n, congrArg Int32.toInt e1, e4, e3, (by rcases e5 with ⟨-, g | g⟩ | ⟨-, -, -, g⟩; exact Or.inl g; exact Or.inr (Or.inl g); exact Or.inr (Or.inr (Or.inl g)))⟩)) d0
      · exact Sq_ch (C1 := (mkC z0 z1 z2 z3 0 0 0 0 0 0 0 0, mkD z4 z5 z6 z7 (fun _ => 0) (fun _ => 0) (fun _ => 0) (fun _ => 0) (fun _ => 0) (fun _ => 0) (fun _ => 0) (fun _ => 0))) (a := (1 : Int32).toInt) (b' := (2 : Int32)) hS hb ⟨rfl, rfl, rfl, rfl, rfl, rfl, rfl⟩ ((Or.inr ⟨⟨f2, Or.inl ⟨hk, f1, rfl⟩⟩, f3, f5, f6, f7, (fun h9 => absurd h9 (by decide)), f8⟩)) d0
    · have h0 := (Sq_f hS hb).1.2.2
      rcases c0 with ⟨e1, e2, e3, e4, e5⟩ | ⟨f1, f2, f3, f4, f5, f6, f7, f8⟩
      · exact ⟨Sq_chz hS hb ⟨rfl, rfl, rfl⟩ (congrArg Int32.toInt e1), e4.trans d0.symm⟩
      · exfalso; omega
  · rcases hm with ⟨hb, v0, v1, v2, v3, rfl, d0, d1⟩ | ⟨hb, v0, rfl, d0, d1⟩
    · rcases cm with ⟨e1, e2, e3, e4, e5⟩ | ⟨f1, f2, f3, f4, f5, f6, f7, f8⟩
      · rw [eZ] at e2; subst e1
        exact Sq_ch (C1 := (mkC z0 z1 z2 z3 0 0 0 0 0 0 0 0, mkD z4 z5 z6 z7 (fun _ => 0) (fun _ => 0) (fun _ => 0) (fun _ => 0) (fun _ => 0) (fun _ => 0) (fun _ => 0) (fun _ => 0))) (a := (1 : Int32).toInt) (b' := (2 : Int32)) hS hb ⟨rfl, rfl, rfl, rfl, rfl, rfl, rfl⟩ ((Or.inl ⟨smR_f e2, rfl, e4, e3, (by rcases e5 with ⟨-, g | g⟩ | ⟨-, -, -, g⟩; exact Or.inl g; exact Or.inr (Or.inl g); exact Or.inr (Or.inr (Or.inl g)))⟩)) d0
      · exact Sq_ch (C1 := (mkC z0 z1 z2 z3 0 0 0 0 0 0 0 0, mkD z4 z5 z6 z7 (fun _ => 0) (fun _ => 0) (fun _ => 0) (fun _ => 0) (fun _ => 0) (fun _ => 0) (fun _ => 0) (fun _ => 0))) (a := (1 : Int32).toInt) (b' := (2 : Int32)) hS hb ⟨rfl, rfl, rfl, rfl, rfl, rfl, rfl⟩ ((Or.inr ⟨⟨f2, Or.inr ⟨hk, hk, f1⟩⟩, f3, f5, f6, f7, (fun h9 => absurd h9 (by decide)), f8⟩)) d0
    · have h0 := (Sq_f hS hb).1.2.2
      rcases cm with ⟨e1, e2, e3, e4, e5⟩ | ⟨f1, f2, f3, f4, f5, f6, f7, f8⟩
      · exact ⟨Sq_chz hS hb ⟨rfl, rfl, rfl⟩ rfl, e4.trans d0.symm⟩
      · exfalso; omega
set_option maxHeartbeats 4000000 in
theorem q3_hedge {K K1 : CS} {M M1 : MS} {p1 : Int32} {r r' : Int32} (hR : R3 K M) (hc : PC_hedge K p1 r K1) (hm : PM_hedge M p1 r' M1) : S3 K1 M1 ∧ r.toInt = r'.toInt := by
  have hS := hR.2
  rcases hc with ⟨hk, u0, u1, u2, z0, z1, z2, z3, z4, z5, z6, z7, Z, eZ, rfl, c0, c1⟩ | ⟨hk, u0, u1, z0, z1, z2, z3, z4, z5, z6, z7, Z, n1, eZ, rfl, c0, cm⟩
  · rcases hm with ⟨hb, v0, v1, v2, v3, rfl, d0, d1⟩ | ⟨hb, v0, rfl, d0, d1⟩
    · rcases c0 with ⟨e1, e2, e3, e4, e5⟩ | ⟨f1, f2, f3, f4, f5, f6, ⟨f7, f9⟩, f8⟩
      · exact Sq_ch (C1 := (mkC z0 z1 z2 z3 0 0 0 0 0 0 0 0, mkD z4 z5 z6 z7 (fun _ => 0) (fun _ => 0) (fun _ => 0) (fun _ => 0) (fun _ => 0) (fun _ => 0) (fun _ => 0) (fun _ => 0))) (a := (0 : Int32).toInt) (b' := (3 : Int32)) hS hb ⟨rfl, rfl, rfl, rfl, rfl, rfl, rfl⟩ ((Or.inl ⟨smR_n, congrArg Int32.toInt e1, e4, e3, (by rcases e5 with ⟨-, g | g⟩ | ⟨-, -, -, g⟩; exact Or.inl g; exact Or.inr (Or.inl g); (rcases g with g | g; exact Or.inr (Or.inr (Or.inl g)); exact Or.inr (Or.inr (Or.inr ⟨by decide, g⟩))))⟩)) d0
      · exact Sq_ch (C1 := (mkC z0 z1 z2 z3 0 0 0 0 0 0 0 0, mkD z4 z5 z6 z7 (fun _ => 0) (fun _ => 0) (fun _ => 0) (fun _ => 0) (fun _ => 0) (fun _ => 0) (fun _ => 0) (fun _ => 0))) (a := (0 : Int32).toInt) (b' := (3 : Int32)) hS hb ⟨rfl, rfl, rfl, rfl, rfl, rfl, rfl⟩ ((Or.inr ⟨⟨f2, Or.inl ⟨hk, f1, rfl⟩⟩, f3, f5, f6, f7, (fun _ => f9), f8⟩)) d0
    · have h0 := (Sq_f hS hb).1.2.2
      rcases c0 with ⟨e1, e2, e3, e4, e5⟩ | ⟨f1, f2, f3, f4, f5, f6, ⟨f7, f9⟩, f8⟩
      · exact ⟨Sq_chz hS hb ⟨rfl, rfl, rfl⟩ (congrArg Int32.toInt e1), e4.trans d0.symm⟩
      · exfalso; omega
  · rcases hm with ⟨hb, v0, v1, v2, v3, rfl, d0, d1⟩ | ⟨hb, v0, rfl, d0, d1⟩
    · rcases cm with ⟨e1, e2, e3, e4, e5⟩ | ⟨f1, f2, f3, f4, f5, f6, ⟨f7, f9⟩, f8⟩
      · rw [eZ] at e2; subst e1
        exact Sq_ch (C1 := (mkC z0 z1 z2 z3 0 0 0 0 0 0 0 0, mkD z4 z5 z6 z7 (fun _ => 0) (fun _ => 0) (fun _ => 0) (fun _ => 0) (fun _ => 0) (fun _ => 0) (fun _ => 0) (fun _ => 0))) (a := (0 : Int32).toInt) (b' := (3 : Int32)) hS hb ⟨rfl, rfl, rfl, rfl, rfl, rfl, rfl⟩ ((Or.inl ⟨smR_f e2, rfl, e4, e3, (by rcases e5 with ⟨-, g | g⟩ | ⟨-, -, -, g⟩; exact Or.inl g; exact Or.inr (Or.inl g); (rcases g with g | g; exact Or.inr (Or.inr (Or.inl g)); exact Or.inr (Or.inr (Or.inr ⟨by decide, g⟩))))⟩)) d0
      · exact Sq_ch (C1 := (mkC z0 z1 z2 z3 0 0 0 0 0 0 0 0, mkD z4 z5 z6 z7 (fun _ => 0) (fun _ => 0) (fun _ => 0) (fun _ => 0) (fun _ => 0) (fun _ => 0) (fun _ => 0) (fun _ => 0))) (a := (0 : Int32).toInt) (b' := (3 : Int32)) hS hb ⟨rfl, rfl, rfl, rfl, rfl, rfl, rfl⟩ ((Or.inr ⟨⟨f2, Or.inr ⟨hk, hk, f1⟩⟩, f3, f5, f6, f7, (fun _ => f9), f8⟩)) d0
    · have h0 := (Sq_f hS hb).1.2.2
      rcases cm with ⟨e1, e2, e3, e4, e5⟩ | ⟨f1, f2, f3, f4, f5, f6, ⟨f7, f9⟩, f8⟩
      · exact ⟨Sq_chz hS hb ⟨rfl, rfl, rfl⟩ rfl, e4.trans d0.symm⟩
      · exfalso; omega
set_option maxHeartbeats 4000000 in
theorem q3_step {K K1 : CS} {M M1 : MS} {p1 : Int32} {p2 : Int32} {r r' : Int32} (hR : R3 K M) (hc : PC_step K p1 p2 r K1) (hm : PM_step M p1 p2 r' M1) : S3 K1 M1 ∧ r.toInt = r'.toInt := by
  have hS := hR.2
  rcases hc with ⟨hk, u0, u1, u2, u3, u4, z0, z1, z2, z3, z4, z5, z6, z7, Z, eZ, rfl, c0, c1, c2⟩ | ⟨hk, u0, u1, u2, u3, z0, z1, z2, z3, z4, z5, z6, z7, Z, n1, eZ, rfl, c0, c1, cm⟩
  · rcases hm with ⟨hb, v0, v1, v2, v3, rfl, d0, d1⟩ | ⟨hb, v0, rfl, d0, d1⟩
    · rcases c1 with ⟨e1, e2, e3, e4, e5, e6⟩ | ⟨f1, f2, f3, f4⟩
      · exact Sq_st (C1 := (mkC z0 z1 z2 z3 0 0 0 0 0 0 0 0, mkD z4 z5 z6 z7 (fun _ => 0) (fun _ => 0) (fun _ => 0) (fun _ => 0) (fun _ => 0) (fun _ => 0) (fun _ => 0) (fun _ => 0))) hS hb ⟨rfl, rfl, rfl, rfl, rfl⟩ c0 ((Or.inl ⟨e6, smR_n, congrArg Int32.toInt e1, e3, e4, e5⟩)) d0
      · exact Sq_st (C1 := (mkC z0 z1 z2 z3 0 0 0 0 0 0 0 0, mkD z4 z5 z6 z7 (fun _ => 0) (fun _ => 0) (fun _ => 0) (fun _ => 0) (fun _ => 0) (fun _ => 0) (fun _ => 0) (fun _ => 0))) hS hb ⟨rfl, rfl, rfl, rfl, rfl⟩ c0 ((Or.inr ⟨f3, f2, Or.inl ⟨hk, f1, rfl⟩⟩)) d0
    · have h0 := (Sq_f hS hb).2.1.2.2.2.1
      rcases c1 with ⟨e1, e2, e3, e4, e5, e6⟩ | ⟨f1, f2, f3, f4⟩
      · rcases c0 with ⟨g1, g2, g3⟩ | ⟨g1, g2, g3, -⟩
        · exact ⟨Sq_chz hS hb ⟨rfl, rfl, rfl⟩ (congrArg Int32.toInt e1), g2.trans d0.symm⟩
        · exact absurd g1 e6
      · rcases c0 with ⟨g1, g2, g3⟩ | ⟨g1, g2, g3, -⟩
        · exact absurd f3 g1
        · exfalso; omega
  · rcases hm with ⟨hb, v0, v1, v2, v3, rfl, d0, d1⟩ | ⟨hb, v0, rfl, d0, d1⟩
    · rcases cm with ⟨e1, e2, e3, e4, e5, e6⟩ | ⟨f1, f2, f3, f4⟩
      · rw [eZ] at e2; subst e1
        exact Sq_st (C1 := (mkC z0 z1 z2 z3 0 0 0 0 0 0 0 0, mkD z4 z5 z6 z7 (fun _ => 0) (fun _ => 0) (fun _ => 0) (fun _ => 0) (fun _ => 0) (fun _ => 0) (fun _ => 0) (fun _ => 0))) hS hb ⟨rfl, rfl, rfl, rfl, rfl⟩ c0 ((Or.inl ⟨e6, smR_f e2, rfl, e3, e4, e5⟩)) d0
      · exact Sq_st (C1 := (mkC z0 z1 z2 z3 0 0 0 0 0 0 0 0, mkD z4 z5 z6 z7 (fun _ => 0) (fun _ => 0) (fun _ => 0) (fun _ => 0) (fun _ => 0) (fun _ => 0) (fun _ => 0) (fun _ => 0))) hS hb ⟨rfl, rfl, rfl, rfl, rfl⟩ c0 ((Or.inr ⟨f3, f2, Or.inr ⟨hk, hk, f1⟩⟩)) d0
    · have h0 := (Sq_f hS hb).2.1.2.2.2.1
      rcases cm with ⟨e1, e2, e3, e4, e5, e6⟩ | ⟨f1, f2, f3, f4⟩
      · rcases c0 with ⟨g1, g2, g3⟩ | ⟨g1, g2, g3, -⟩
        · exact ⟨Sq_chz hS hb ⟨rfl, rfl, rfl⟩ rfl, g2.trans d0.symm⟩
        · exact absurd g1 e6
      · rcases c0 with ⟨g1, g2, g3⟩ | ⟨g1, g2, g3, -⟩
        · exact absurd f3 g1
        · exfalso; omega
set_option maxHeartbeats 4000000 in
theorem q3_undo {K K1 : CS} {M M1 : MS} {r r' : Int32} (hR : R3 K M) (hc : PC_undo K r K1) (hm : PM_undo M r' M1) : S3 K1 M1 ∧ r.toInt = r'.toInt := by
  have hS := hR.2
  have hi := hR.1.2.2.1.2.2.2.2
  have hN := Rq_ct hR.1
  obtain ⟨u0, u1, u2, u3, u4, u5, u6, u7, u8, u9, Z, eZ, rfl, c0, c1⟩ := hc
  rcases hm with ⟨hb, v0, v1, v2, rfl, d0, d1⟩ | ⟨hb, v0, rfl, d0, d1⟩
  · refine Sq_un hS hb eZ ?_ d0
    rcases c0 with ⟨e1, e2, e3, e4, e5⟩ | ⟨e1, e2, e3, e4, e5⟩
    · have q := tup8 e5
      exact Or.inl ⟨e1, e2, congrArg Int32.toInt e4, ⟨q.2.2.2.2.2.2.2, q.1, q.2.1, q.2.2.1, q.2.2.2.2.1, q.2.2.2.2.2.1, q.2.2.2.2.2.2.1⟩, q.2.2.2.1⟩
    · exact Or.inr ⟨e1, e2, e4, e5⟩
  · have h0 := (Sq_f hS hb).2.2.1
    rcases c0 with ⟨e1, e2, e3, e4, e5⟩ | ⟨e1, -⟩
    · have q := tup8 e5
      exact ⟨Sq_chz hS hb ⟨q.1, q.2.1, q.2.2.1⟩ (congrArg Int32.toInt e4), e2.trans d0.symm⟩
    · exfalso; omega
set_option maxHeartbeats 4000000 in
theorem q3_image {K K1 : CS} {M M1 : MS} {r r' : Int32} (hR : R3 K M) (hc : PC_image K r K1) (hm : PM_image M r' M1) : S3 K1 M1 := by
  have hS := hR.2
  have hi := hR.1.2.2.1.2.2.2.2
  have hN := Rq_ct hR.1
  obtain ⟨u0, u1, z0, z1, z2, z3, z4, z5, z6, z7, Z, eZ, rfl, c0, c1⟩ := hc
  rcases hm with ⟨hb, v0, v1, v2, rfl, d0, d1, d2⟩ | ⟨hb, v0, rfl, d0, d1⟩
  · have h9 := hN.1 hb
    refine Sq_im (C1 := (mkC z0 z1 z2 z3 0 0 0 0 0 0 0 0, mkD z4 z5 z6 z7 (fun _ => 0) (fun _ => 0) (fun _ => 0) (fun _ => 0) (fun _ => 0) (fun _ => 0) (fun _ => 0) (fun _ => 0))) hS hb hi ?_ d1
    rcases c0 with ⟨e1, -⟩ | ⟨e1, e2, e3, e4, e5, e6⟩ | ⟨e1, e2, e3, e4, e5, e6⟩
    · exfalso; omega
    · rw [eZ] at e6
      exact Or.inl ⟨e2, congrArg Int32.toInt e5, smR_u e6⟩
    · exact Or.inr ⟨e2, e5, congrArg (fun i9 => upC K.2.2.2.2.2 i9 _) (if_pos e2), e6⟩
  · have h9 := hN.2 hb
    obtain ⟨f1, f2, f3, f4⟩ := Sq_f hS hb
    rcases c0 with ⟨e1, e2, e3, e4, -⟩ | ⟨e1, -⟩ | ⟨e1, -⟩
    · exact Or.inr ⟨rfl, f1, f2, f3, (congrArg Int32.toInt e4).trans f4⟩
    · exfalso; omega
    · exfalso; omega
set_option maxHeartbeats 4000000 in
theorem q3_back {K K1 : CS} {M M1 : MS} {p1 : Int32} {r r' : Int32} (hR : R3 K M) (hc : PC_back K p1 r K1) (hm : PM_back M p1 r' M1) : S3 K1 M1 ∧ r.toInt = r'.toInt := by
  have hS := hR.2
  have hi := hR.1.2.2.1.2.2.2.2
  have hN := Rq_ct hR.1
  obtain ⟨u0, u1, u2, u3, u4, u5, u6, u7, u8, u9, Z, eZ, rfl, c0, c1⟩ := hc
  rcases hm with ⟨hb, v0, v1, v2, rfl, d0, d1, d2⟩ | ⟨hb, v0, rfl, d0, d1⟩
  · have h3 := hR.1.2.2.1.2.2.2.1
    refine Sq_ba (Z := Z) hS hb hi (by rw [eZ]; exact upC_self _ _) ?_ d1
    rcases c0 with ⟨e1, e2, e3, e4, e5⟩ | ⟨e1, e2, e3, e4, e5, e6⟩
    · have q := tup8 e5
      exact Or.inl ⟨e1, e2, congrArg Int32.toInt e4, ⟨q.2.2.2.2.2.2.2, q.1, q.2.1, q.2.2.1, q.2.2.2.2.1, q.2.2.2.2.2.1, q.2.2.2.2.2.2.1⟩, q.2.2.2.1⟩
    · exact Or.inr ⟨e1, e2, e3, e5, eZ.trans (congrArg K.2.2.2.2.2 (if_pos ⟨e1, by omega⟩)), e6⟩
  · obtain ⟨f1, f2, f3, f4⟩ := Sq_f hS hb
    rcases c0 with ⟨e1, e2, e3, e4, e5⟩ | ⟨e1, e2, -⟩
    · have q := tup8 e5
      exact ⟨Sq_chz hS hb ⟨q.1, q.2.1, q.2.2.1⟩ (congrArg Int32.toInt e4), e2.trans d0.symm⟩
    · exfalso; omega
theorem s3_dig {K K1 : CS} {M M1 : MS} {p1 : Int32} {r r' : Int32} (hR : R3 K M) (hc : PC_dig K p1 r K1) (hm : PM_dig M p1 r' M1) : R3 K1 M1 := ⟨st_dig hR.1 hc hm, (q3_dig hR hc hm).1⟩
theorem a3_dig {K K1 : CS} {M M1 : MS} {p1 : Int32} {r r' : Int32} (hR : R3 K M) (hc : PC_dig K p1 r K1) (hm : PM_dig M p1 r' M1) : r.toInt = r'.toInt := (q3_dig hR hc hm).2
theorem s3_fill {K K1 : CS} {M M1 : MS} {p1 : Int32} {r r' : Int32} (hR : R3 K M) (hc : PC_fill K p1 r K1) (hm : PM_fill M p1 r' M1) : R3 K1 M1 := ⟨st_fill hR.1 hc hm, (q3_fill hR hc hm).1⟩
theorem a3_fill {K K1 : CS} {M M1 : MS} {p1 : Int32} {r r' : Int32} (hR : R3 K M) (hc : PC_fill K p1 r K1) (hm : PM_fill M p1 r' M1) : r.toInt = r'.toInt := (q3_fill hR hc hm).2
theorem s3_gate {K K1 : CS} {M M1 : MS} {p1 : Int32} {r r' : Int32} (hR : R3 K M) (hc : PC_gate K p1 r K1) (hm : PM_gate M p1 r' M1) : R3 K1 M1 := ⟨st_gate hR.1 hc hm, (q3_gate hR hc hm).1⟩
theorem a3_gate {K K1 : CS} {M M1 : MS} {p1 : Int32} {r r' : Int32} (hR : R3 K M) (hc : PC_gate K p1 r K1) (hm : PM_gate M p1 r' M1) : r.toInt = r'.toInt := (q3_gate hR hc hm).2
theorem s3_hedge {K K1 : CS} {M M1 : MS} {p1 : Int32} {r r' : Int32} (hR : R3 K M) (hc : PC_hedge K p1 r K1) (hm : PM_hedge M p1 r' M1) : R3 K1 M1 := ⟨st_hedge hR.1 hc hm, (q3_hedge hR hc hm).1⟩
theorem a3_hedge {K K1 : CS} {M M1 : MS} {p1 : Int32} {r r' : Int32} (hR : R3 K M) (hc : PC_hedge K p1 r K1) (hm : PM_hedge M p1 r' M1) : r.toInt = r'.toInt := (q3_hedge hR hc hm).2
theorem s3_step {K K1 : CS} {M M1 : MS} {p1 : Int32} {p2 : Int32} {r r' : Int32} (hR : R3 K M) (hc : PC_step K p1 p2 r K1) (hm : PM_step M p1 p2 r' M1) : R3 K1 M1 := ⟨st_step hR.1 hc hm, (q3_step hR hc hm).1⟩
theorem a3_step {K K1 : CS} {M M1 : MS} {p1 : Int32} {p2 : Int32} {r r' : Int32} (hR : R3 K M) (hc : PC_step K p1 p2 r K1) (hm : PM_step M p1 p2 r' M1) : r.toInt = r'.toInt := (q3_step hR hc hm).2
theorem s3_undo {K K1 : CS} {M M1 : MS} {r r' : Int32} (hR : R3 K M) (hc : PC_undo K r K1) (hm : PM_undo M r' M1) : R3 K1 M1 := ⟨st_undo hR.1 hc hm, (q3_undo hR hc hm).1⟩
theorem a3_undo {K K1 : CS} {M M1 : MS} {r r' : Int32} (hR : R3 K M) (hc : PC_undo K r K1) (hm : PM_undo M r' M1) : r.toInt = r'.toInt := (q3_undo hR hc hm).2
theorem s3_image {K K1 : CS} {M M1 : MS} {r r' : Int32} (hR : R3 K M) (hc : PC_image K r K1) (hm : PM_image M r' M1) : R3 K1 M1 := ⟨st_image hR.1 hc hm, q3_image hR hc hm⟩
theorem s3_back {K K1 : CS} {M M1 : MS} {p1 : Int32} {r r' : Int32} (hR : R3 K M) (hc : PC_back K p1 r K1) (hm : PM_back M p1 r' M1) : R3 K1 M1 := ⟨st_back hR.1 hc hm, (q3_back hR hc hm).1⟩
set_option maxHeartbeats 4000000 in
theorem q3_park {K K1 : CS} {M M1 : MS} {p1 : Int32} {r r' : Int32} (hR : R3 K M) (hc : PC_park K p1 r K1) (hm : PM_park M p1 r' M1) : S3 K1 M1 := by
  have hS := hR.2
  have h2 := st_park hR.1 hc hm
  have hc9 := hc
  have hm9 := hm
  obtain ⟨u0, u1, u2, u3, u4, u5, u6, u7, u8, u9, u10, u11, u12, u13, T1, rfl, c0, c1, c2, c3, cT⟩ := hc
  rcases hm with ⟨g1, g2, wh, g3, rfl⟩ | ⟨g1, b1, wh, tp, fa, im, ac, pw, pd, pe, pl, pk, pm, pu, vf, kf, tf, sf, uf, gf, hf, lf, rfl, g2, g3, g4, g5⟩
  · rcases c3 with ⟨e1, e2, e3, e4, e5, e6, e7⟩ | ⟨e1, e2, e3, e4, -⟩ | ⟨e1, e2, e3, -⟩
    · have q := tup8 e7
      rcases cT with ⟨t1, -⟩ | ⟨t1, -⟩
      · subst t1; exact Sq_sm hS rfl ⟨q.2.2.2.2.2.2.2, q.1, q.2.1, q.2.2.1, q.2.2.2.2.1, q.2.2.2.2.2.1, q.2.2.2.2.2.2.1⟩ q.2.2.2.1 (congrArg Int32.toInt e5) (congrArg Int32.toInt e6)
      · exfalso; omega
    · exfalso; have e9 := hR.1.1.1; omega
    · exfalso; have e9 := hR.1.1.1; omega
  · rcases g5 with ⟨k1, k2, k3, k4, k5, k6, k7, k8, k9, k10, k11, k12, k13, k14, k15, k16, k17, k18, k19⟩ | ⟨k1, k2, k3, k4, k5, k6, k7⟩
    · have hN : u13.toInt ≠ 0 := by
        rcases c3 with ⟨e1, e2, -⟩ | ⟨e1, e2, -⟩ | ⟨e1, e2, e3, e4, -⟩
        · omega
        · omega
        · exfalso
          have f := (g3 hR.1.1.2.2.1).1
          have f3 := hR.1.1.2.1
          rw [f3] at e4
          omega
      subst k4 k5 k6 k7 k8 k9 k10 k11 k12 k13 k14 k15 k16 k17 k18 k19
      rcases cT with ⟨t1, -⟩ | ⟨t1, -⟩
      · subst t1
        rcases c3 with ⟨e1, e2, e3, e4, e5, e6, e7⟩ | ⟨e1, e2, e3, e4, e5, e6, e7, e8, e9⟩ | ⟨e1, -⟩
        · have q := tup8 e7
          exact Sq_sm (b1 := b1) hS k1.symm ⟨q.2.2.2.2.2.2.2, q.1, q.2.1, q.2.2.1, q.2.2.2.2.1, q.2.2.2.2.2.1, q.2.2.2.2.2.2.1⟩ q.2.2.2.1 (congrArg Int32.toInt e5) (congrArg Int32.toInt e6)
        · have q := tup8 e9
          exact Sq_sm (b1 := b1) hS k1.symm ⟨q.2.2.2.2.2.2.2, q.1, q.2.1, q.2.2.1, q.2.2.2.2.1, q.2.2.2.2.2.1, q.2.2.2.2.2.2.1⟩ q.2.2.2.1 (congrArg Int32.toInt e7) (congrArg Int32.toInt e8)
        · exact absurd e1 hN
      · exact absurd t1 hN
    · subst k1
      have hp := (Rq_ct h2).1 rfl
      rcases c3 with ⟨e1, e2, -⟩ | ⟨e1, e2, -⟩ | ⟨e1, e2, e3, e4, e5, e6, e7, e8⟩
      · exfalso; have e9 := (pk_park hR.1 hc9 hm9).2; omega
      · exfalso; have e9 := (pk_park hR.1 hc9 hm9).2; omega
      · rcases cT with ⟨-, t1⟩ | ⟨-, t1⟩
        · exact absurd e1 t1
        · have tb := hR.1.1.2.1
          rw [tb] at t1
          exact Sq_pk t1 (k7 hR.1.1.2.2.1) e5 e6 k6 hp
theorem s3_park {K K1 : CS} {M M1 : MS} {p1 : Int32} {r r' : Int32} (hR : R3 K M) (hc : PC_park K p1 r K1) (hm : PM_park M p1 r' M1) : R3 K1 M1 := ⟨st_park hR.1 hc hm, q3_park hR hc hm⟩
/-- what both have of unsure places, of walks, of sorts -/
def q9 (T : CT) (w d e m u : Int) (sr ur fr sp fl : Nat → Int32) : Prop := ((T.1 7).toInt = w * d ∧ 0 < w ∧ w * d ≤ 20) ∧ guO u m e sr ur fl ∧ (0 ≤ u ∧ u ≤ 5 ∧ m ≤ 6) ∧ (∀ k : Nat, (k : Int) < u → T.2 3 k = ur k ∧ (ur k).toInt < w * d) ∧ (∀ k : Nat, (k : Int) < m → (T.2 4 k = fr k ∧ T.2 5 k = sp k ∧ T.2 6 k = fl k) ∧ wlO (w * d) w fr sp fl k) ∧ ∀ j : Nat, (j : Int) < w * d → T.2 2 j = sr j
def S9 (b : Bool) (T : CT) (w d e m u : Int) (sr ur fr sp fl : Nat → Int32) : Prop := (b = true → q9 T w d e m u sr ur fr sp fl) ∧ (b = false → (T.1 0).toInt ≤ 0)
theorem S9_pk {bt : Nat → Int32} {p : Int} {N T : CT} {w d un wk wl er sl : Int32} {kd go v so uu ws wt wf : Nat → Int32} (hT : ptB bt p (T.1 0) (T.1 1) (T.1 4) (T.1 5) (T.1 6) (T.1 2) (T.1 3) (T.1 7) (T.2 0) (T.2 1) (T.2 2) (T.2 3) (T.2 4) (T.2 5) (T.2 6) (N.1 1) (N.1 2) (N.1 3) (N.2 0) (N.2 1) (N.2 2) (N.2 3) (N.1 0)) (hM : mpB bt p w d un wk wl er sl kd go v so uu ws wt wf) (hN : 0 < (N.1 3).toInt) : q9 T w.toInt d.toInt er.toInt wl.toInt un.toInt so uu ws wt wf := by
  obtain ⟨nm, st, rows, ⟨⟨a1, a2, a3, a4, a5, a6⟩, ⟨x1, x2, x3, x4, x5, x6⟩, aS, aG, aE, aB, aW, ⟨aV1, aV2, aV3⟩⟩, ⟨b1, b2, b3, b4, b5, b6, b7⟩, hr, hc, ⟨n1, n2, n3, n4, n5, n6, n7, n8⟩⟩ := hT
  obtain ⟨nm', at', rows', ⟨⟨c1, c2, c3, c4, c5, c6⟩, ⟨y1, y2, y3, y4, y5, y6⟩, cS, cG, cE, cB, cW, ⟨cV1, cV2, cV3⟩⟩, v1, v2, v3⟩ := hM
  have hd : 0 < (T.1 1).toInt := by
    rcases Int.lt_or_le 0 (T.1 1).toInt with q | q
    · exact q
    · exfalso
      rw [n3, show (T.1 1).toInt = 0 by omega, Int.mul_zero] at hN
      omega
  have ew : (T.1 0).toInt = w.toInt := a1.trans c1.symm
  have ed : (T.1 1).toInt = d.toInt := a2.trans c2.symm
  have eu : (T.1 4).toInt = un.toInt := a4.trans c4.symm
  have em : (T.1 6).toInt = wl.toInt := a6.trans c6.symm
  have er3 : rows = rows' := a3.trans c3.symm
  have hrd : rows' = d.toInt := by omega
  have hb := pl_b0 (w := (T.1 0).toInt) (d := (T.1 1).toInt) (by omega) b2 (by omega) b3
  rw [ew, ed] at hb
  refine ⟨⟨by rw [hc, ew, ed], by omega, hb.2⟩, ⟨⟨fun k hk => ?_, cV2.2⟩, (cV1.2.2 (by omega)).1, (cV1.2.2 (by omega)).2, fun k hk => (cV3 k hk).2.2.2⟩, ⟨cV1.1, by omega, by omega⟩, fun k hk => ?_, fun k hk => ?_, fun j hj => ?_⟩
  · exact ⟨(cV2.1 k hk).1, (cV2.1 k hk).2.2⟩
  · refine ⟨(aW.1 k (by omega)).trans (cW.1 k hk).symm, ?_⟩
    have g := (cV2.1 k hk).2.1
    rw [hrd] at g
    exact g
  · have g1 := aW.2 k (by omega)
    have g2 := cW.2 k hk
    have g3 := cV3 k hk
    exact ⟨⟨g1.1.trans g2.1.symm, g1.2.1.trans g2.2.1.symm, g1.2.2.trans g2.2.2.symm⟩, g3.1, g3.2.2.1, g3.2.2.2⟩
  · have j1 : (j : Int) < (T.1 0).toInt * rows := by rw [er3, hrd, ew]; exact hj
    have j2 : (j : Int) < w.toInt * rows' := by rw [hrd]; exact hj
    exact (aS j j1).trans (cS j j2).symm
theorem dtS_c {u : Int} {s s' uu uu' : Nat → Int32} {set j : Nat} (hu : ∀ k : Nat, (k : Int) < u → uu k = uu' k) (hs : s j = s' j) : dtS u s uu set j ↔ dtS u s' uu' set j := by
  unfold dtS
  rw [hs]
  constructor
  · rintro (⟨k, k1, k2, k3⟩ | z)
    · exact Or.inl ⟨k, k1, k2, by rw [← hu k k1]; exact k3⟩
    · exact Or.inr z
  · rintro (⟨k, k1, k2, k3⟩ | z)
    · exact Or.inl ⟨k, k1, k2, by rw [hu k k1]; exact k3⟩
    · exact Or.inr z
/-- what the class's guess says and what the reference's -/
theorem q9_W {T : CT} {w d e m u : Int} {sr ur fr sp fl : Nat → Int32} (h : q9 T w d e m u sr ur fr sp fl) (set : Nat) : gsW w u m e (T.2 2) (T.2 3) (T.2 4) (T.2 5) (T.2 6) set = gsW w u m e sr ur fr sp fl set := by
  obtain ⟨⟨h1, h2, h3⟩, hG, hb, hU, hW, hS⟩ := h
  unfold gsW
  refine wtP_c _ (fun k hk => ?_)
  obtain ⟨⟨w1, w2, w3⟩, hO⟩ := hW k (by omega)
  have e1 : tlR (dtS u (T.2 2) (T.2 3) set) w (T.2 4) (T.2 5) (T.2 6) k ↔ tlR (dtS u (T.2 2) (T.2 3) set) w fr sp fl k := by
    unfold tlR
    rw [w1, w2, w3]
  exact e1.trans (tl_c hO (by omega) (fun j hj => dtS_c (fun k hk => (hU k hk).1) (hS j hj)))
section
variable {b : Bool} {N T : CT} {kn im : Nat → CT} {kc ic ac w d e l k m u : Int} {v pa ke kr gr sr ur fr sp fl : Nat → Int32}
/-- the class's numbers are the reference's -/
theorem q9_t (h : Sq b N T kn im kc ic ac w d e l k m u v pa ke kr gr) (hb : b = true) : ((T.1 0).toInt = w ∧ (T.1 4).toInt = u ∧ (T.1 6).toInt = m ∧ (T.1 2).toInt = e) ∧ ((N.1 1).toInt = w ∧ (N.1 3).toInt = w * d) ∧ 0 < w ∧ 0 < w * d := by
  obtain ⟨⟨⟨t1, t2, t3, t4, t5, t6, t7⟩, ⟨p1, p2, p3, p4, p5, p6, p7, p8⟩, _⟩, ⟨⟨n1, n2, n3, n4⟩, _⟩, _⟩ := Sq_t h hb
  exact ⟨⟨t1, t5, t7, t3⟩, ⟨n1, n3⟩, p1, p7⟩
theorem gW_f (h : q9 T w d e m u sr ur fr sp fl) : gsW w u m e (T.2 2) (T.2 3) (T.2 4) (T.2 5) (T.2 6) = gsW w u m e sr ur fr sp fl := funext (q9_W h)
theorem fa_eq {i r r' : Int} (h : Sq b N T kn im kc ic ac w d e l k m u v pa ke kr gr) (hq : S9 b T w d e m u sr ur fr sp fl) (hb : b = true) (hc : (0 < (T.1 0).toInt → faP (gsW (T.1 0).toInt (T.1 4).toInt (T.1 6).toInt (T.1 2).toInt (T.2 2) (T.2 3) (T.2 4) (T.2 5) (T.2 6)) (2 ^ (Int.toNat (T.1 4).toInt)) i r) ∧ ((T.1 0).toInt ≤ 0 → r = -1)) (hm : guO u m e sr ur fl → faP (gsW w u m e sr ur fr sp fl) (2 ^ (Int.toNat u)) i r') : r = r' := by
  have q := hq.1 hb
  obtain ⟨⟨t1, t2, t3, t4⟩, ⟨n1, n2⟩, p1, p2⟩ := q9_t h hb
  have hc := hc.1
  rw [t1, t2, t3, t4, gW_f q] at hc
  rcases hc p1 with z | z
  · rcases hm q.2.1 with y | y
    · omega
    · omega
  · rcases hm q.2.1 with y | y
    · omega
    · exact it_u (fun _ _ => rfl) z.2 y.2
end
def S9m (K : CS) (M : MS) : Prop := S9 M.1 K.2.2.2.1 (M.2.1 5).toInt (M.2.1 6).toInt (M.2.1 7).toInt (M.2.1 10).toInt (M.2.1 11).toInt (M.2.2 6) (M.2.2 7) (M.2.2 8) (M.2.2 9) (M.2.2 10)
def R9 (K : CS) (M : MS) : Prop := R3 K M ∧ S9m K M
theorem R9_0 : R9 K0 M0 := ⟨R3_0, fun h => absurd (show false = true from h) (by decide), fun _ => by decide⟩
theorem k9_feed {K K1 : CS} {M M1 : MS} {p1 : Int32} {p2 : Int32} {p3 : Int32} {p4 : Int32} {p5 : Int32} {r r' : Int32} (hR : R9 K M) (hc : PC_feed K p1 p2 p3 p4 p5 r K1) (hm : PM_feed M p1 p2 p3 p4 p5 r' M1) : S9m K1 M1 := by
  obtain ⟨u0, u1, rfl, c0, c1, c2⟩ := hc
  all_goals rcases hm with ⟨hb, v0, v1, rfl, d0, d1, d2⟩ | ⟨hb, v0, v1, rfl, d0, d1, d2⟩
  all_goals first | exact ⟨fun _ => hR.2.1 hb, fun h9 => absurd (show true = false from h9) (by decide)⟩ | exact ⟨fun h9 => absurd (show false = true from h9) (by decide), fun _ => hR.2.2 hb⟩
theorem s9_feed {K K1 : CS} {M M1 : MS} {p1 : Int32} {p2 : Int32} {p3 : Int32} {p4 : Int32} {p5 : Int32} {r r' : Int32} (hR : R9 K M) (hc : PC_feed K p1 p2 p3 p4 p5 r K1) (hm : PM_feed M p1 p2 p3 p4 p5 r' M1) : R9 K1 M1 := ⟨s3_feed hR.1 hc hm, k9_feed hR hc hm⟩
theorem k9_fault {K K1 : CS} {M M1 : MS} {r r' : Int32} (hR : R9 K M) (hc : PC_fault K r K1) (hm : PM_fault M r' M1) : S9m K1 M1 := by
  obtain ⟨rfl, c0⟩ := hc
  all_goals rcases hm with ⟨hb, rfl, d0⟩ | ⟨hb, rfl, d0⟩
  all_goals first | exact ⟨fun _ => hR.2.1 hb, fun h9 => absurd (show true = false from h9) (by decide)⟩ | exact ⟨fun h9 => absurd (show false = true from h9) (by decide), fun _ => hR.2.2 hb⟩
theorem s9_fault {K K1 : CS} {M M1 : MS} {r r' : Int32} (hR : R9 K M) (hc : PC_fault K r K1) (hm : PM_fault M r' M1) : R9 K1 M1 := ⟨s3_fault hR.1 hc hm, k9_fault hR hc hm⟩
theorem k9_where {K K1 : CS} {M M1 : MS} {r r' : Int32} (hR : R9 K M) (hc : PC_where K r K1) (hm : PM_where M r' M1) : S9m K1 M1 := by
  obtain ⟨rfl, c0⟩ := hc
  all_goals rcases hm with ⟨hb, rfl, d0⟩ | ⟨hb, rfl, d0⟩
  all_goals first | exact ⟨fun _ => hR.2.1 hb, fun h9 => absurd (show true = false from h9) (by decide)⟩ | exact ⟨fun h9 => absurd (show false = true from h9) (by decide), fun _ => hR.2.2 hb⟩
theorem s9_where {K K1 : CS} {M M1 : MS} {r r' : Int32} (hR : R9 K M) (hc : PC_where K r K1) (hm : PM_where M r' M1) : R9 K1 M1 := ⟨s3_where hR.1 hc hm, k9_where hR hc hm⟩
theorem k9_place {K K1 : CS} {M M1 : MS} {r r' : Int32} (hR : R9 K M) (hc : PC_place K r K1) (hm : PM_place M r' M1) : S9m K1 M1 := by
  obtain ⟨u0, rfl, c0⟩ := hc
  all_goals rcases hm with ⟨hb, v0, rfl, d0⟩ | ⟨hb, v0, rfl, d0⟩
  all_goals first | exact ⟨fun _ => hR.2.1 hb, fun h9 => absurd (show true = false from h9) (by decide)⟩ | exact ⟨fun h9 => absurd (show false = true from h9) (by decide), fun _ => hR.2.2 hb⟩
theorem s9_place {K K1 : CS} {M M1 : MS} {r r' : Int32} (hR : R9 K M) (hc : PC_place K r K1) (hm : PM_place M r' M1) : R9 K1 M1 := ⟨s3_place hR.1 hc hm, k9_place hR hc hm⟩
theorem k9_walker {K K1 : CS} {M M1 : MS} {r r' : Int32} (hR : R9 K M) (hc : PC_walker K r K1) (hm : PM_walker M r' M1) : S9m K1 M1 := by
  obtain ⟨u0, rfl, c0⟩ := hc
  all_goals rcases hm with ⟨hb, v0, rfl, d0⟩ | ⟨hb, v0, rfl, d0⟩
  all_goals first | exact ⟨fun _ => hR.2.1 hb, fun h9 => absurd (show true = false from h9) (by decide)⟩ | exact ⟨fun h9 => absurd (show false = true from h9) (by decide), fun _ => hR.2.2 hb⟩
theorem s9_walker {K K1 : CS} {M M1 : MS} {r r' : Int32} (hR : R9 K M) (hc : PC_walker K r K1) (hm : PM_walker M r' M1) : R9 K1 M1 := ⟨s3_walker hR.1 hc hm, k9_walker hR hc hm⟩
theorem k9_minutes {K K1 : CS} {M M1 : MS} {r r' : Int32} (hR : R9 K M) (hc : PC_minutes K r K1) (hm : PM_minutes M r' M1) : S9m K1 M1 := by
  obtain ⟨u0, rfl, c0⟩ := hc
  all_goals rcases hm with ⟨hb, v0, rfl, d0⟩ | ⟨hb, v0, rfl, d0⟩
  all_goals first | exact ⟨fun _ => hR.2.1 hb, fun h9 => absurd (show true = false from h9) (by decide)⟩ | exact ⟨fun h9 => absurd (show false = true from h9) (by decide), fun _ => hR.2.2 hb⟩
theorem s9_minutes {K K1 : CS} {M M1 : MS} {r r' : Int32} (hR : R9 K M) (hc : PC_minutes K r K1) (hm : PM_minutes M r' M1) : R9 K1 M1 := ⟨s3_minutes hR.1 hc hm, k9_minutes hR hc hm⟩
theorem k9_falls {K K1 : CS} {M M1 : MS} {r r' : Int32} (hR : R9 K M) (hc : PC_falls K r K1) (hm : PM_falls M r' M1) : S9m K1 M1 := by
  obtain ⟨u0, rfl, c0⟩ := hc
  all_goals rcases hm with ⟨hb, v0, rfl, d0⟩ | ⟨hb, v0, rfl, d0⟩
  all_goals first | exact ⟨fun _ => hR.2.1 hb, fun h9 => absurd (show true = false from h9) (by decide)⟩ | exact ⟨fun h9 => absurd (show false = true from h9) (by decide), fun _ => hR.2.2 hb⟩
theorem s9_falls {K K1 : CS} {M M1 : MS} {r r' : Int32} (hR : R9 K M) (hc : PC_falls K r K1) (hm : PM_falls M r' M1) : R9 K1 M1 := ⟨s3_falls hR.1 hc hm, k9_falls hR hc hm⟩
theorem k9_all {K K1 : CS} {M M1 : MS} {r r' : Int32} (hR : R9 K M) (hc : PC_all K r K1) (hm : PM_all M r' M1) : S9m K1 M1 := by
  obtain ⟨u0, rfl, c0⟩ := hc
  all_goals rcases hm with ⟨hb, v0, rfl, d0⟩ | ⟨hb, v0, rfl, d0⟩
  all_goals first | exact ⟨fun _ => hR.2.1 hb, fun h9 => absurd (show true = false from h9) (by decide)⟩ | exact ⟨fun h9 => absurd (show false = true from h9) (by decide), fun _ => hR.2.2 hb⟩
theorem s9_all {K K1 : CS} {M M1 : MS} {r r' : Int32} (hR : R9 K M) (hc : PC_all K r K1) (hm : PM_all M r' M1) : R9 K1 M1 := ⟨s3_all hR.1 hc hm, k9_all hR hc hm⟩
theorem k9_quick {K K1 : CS} {M M1 : MS} {r r' : Int32} (hR : R9 K M) (hc : PC_quick K r K1) (hm : PM_quick M r' M1) : S9m K1 M1 := by
  obtain ⟨u0, rfl, c0⟩ := hc
  all_goals rcases hm with ⟨hb, v0, rfl, d0⟩ | ⟨hb, v0, rfl, d0⟩
  all_goals first | exact ⟨fun _ => hR.2.1 hb, fun h9 => absurd (show true = false from h9) (by decide)⟩ | exact ⟨fun h9 => absurd (show false = true from h9) (by decide), fun _ => hR.2.2 hb⟩
theorem s9_quick {K K1 : CS} {M M1 : MS} {r r' : Int32} (hR : R9 K M) (hc : PC_quick K r K1) (hm : PM_quick M r' M1) : R9 K1 M1 := ⟨s3_quick hR.1 hc hm, k9_quick hR hc hm⟩
theorem k9_quickFalls {K K1 : CS} {M M1 : MS} {r r' : Int32} (hR : R9 K M) (hc : PC_quickFalls K r K1) (hm : PM_quickFalls M r' M1) : S9m K1 M1 := by
  obtain ⟨u0, rfl, c0⟩ := hc
  all_goals rcases hm with ⟨hb, v0, rfl, d0⟩ | ⟨hb, v0, rfl, d0⟩
  all_goals first | exact ⟨fun _ => hR.2.1 hb, fun h9 => absurd (show true = false from h9) (by decide)⟩ | exact ⟨fun h9 => absurd (show false = true from h9) (by decide), fun _ => hR.2.2 hb⟩
theorem s9_quickFalls {K K1 : CS} {M M1 : MS} {r r' : Int32} (hR : R9 K M) (hc : PC_quickFalls K r K1) (hm : PM_quickFalls M r' M1) : R9 K1 M1 := ⟨s3_quickFalls hR.1 hc hm, k9_quickFalls hR hc hm⟩
theorem k9_quickAt {K K1 : CS} {M M1 : MS} {r r' : Int32} (hR : R9 K M) (hc : PC_quickAt K r K1) (hm : PM_quickAt M r' M1) : S9m K1 M1 := by
  obtain ⟨u0, rfl, c0⟩ := hc
  all_goals rcases hm with ⟨hb, v0, rfl, d0⟩ | ⟨hb, v0, rfl, d0⟩
  all_goals first | exact ⟨fun _ => hR.2.1 hb, fun h9 => absurd (show true = false from h9) (by decide)⟩ | exact ⟨fun h9 => absurd (show false = true from h9) (by decide), fun _ => hR.2.2 hb⟩
theorem s9_quickAt {K K1 : CS} {M M1 : MS} {r r' : Int32} (hR : R9 K M) (hc : PC_quickAt K r K1) (hm : PM_quickAt M r' M1) : R9 K1 M1 := ⟨s3_quickAt hR.1 hc hm, k9_quickAt hR hc hm⟩
theorem k9_dry {K K1 : CS} {M M1 : MS} {r r' : Int32} (hR : R9 K M) (hc : PC_dry K r K1) (hm : PM_dry M r' M1) : S9m K1 M1 := by
  obtain ⟨u0, rfl, c0⟩ := hc
  all_goals rcases hm with ⟨hb, v0, rfl, d0⟩ | ⟨hb, v0, rfl, d0⟩
  all_goals first | exact ⟨fun _ => hR.2.1 hb, fun h9 => absurd (show true = false from h9) (by decide)⟩ | exact ⟨fun h9 => absurd (show false = true from h9) (by decide), fun _ => hR.2.2 hb⟩
theorem s9_dry {K K1 : CS} {M M1 : MS} {r r' : Int32} (hR : R9 K M) (hc : PC_dry K r K1) (hm : PM_dry M r' M1) : R9 K1 M1 := ⟨s3_dry hR.1 hc hm, k9_dry hR hc hm⟩
theorem k9_dryMinutes {K K1 : CS} {M M1 : MS} {r r' : Int32} (hR : R9 K M) (hc : PC_dryMinutes K r K1) (hm : PM_dryMinutes M r' M1) : S9m K1 M1 := by
  obtain ⟨u0, rfl, c0⟩ := hc
  all_goals rcases hm with ⟨hb, v0, rfl, d0⟩ | ⟨hb, v0, rfl, d0⟩
  all_goals first | exact ⟨fun _ => hR.2.1 hb, fun h9 => absurd (show true = false from h9) (by decide)⟩ | exact ⟨fun h9 => absurd (show false = true from h9) (by decide), fun _ => hR.2.2 hb⟩
theorem s9_dryMinutes {K K1 : CS} {M M1 : MS} {r r' : Int32} (hR : R9 K M) (hc : PC_dryMinutes K r K1) (hm : PM_dryMinutes M r' M1) : R9 K1 M1 := ⟨s3_dryMinutes hR.1 hc hm, k9_dryMinutes hR hc hm⟩
theorem k9_dryAt {K K1 : CS} {M M1 : MS} {r r' : Int32} (hR : R9 K M) (hc : PC_dryAt K r K1) (hm : PM_dryAt M r' M1) : S9m K1 M1 := by
  obtain ⟨u0, rfl, c0⟩ := hc
  all_goals rcases hm with ⟨hb, v0, rfl, d0⟩ | ⟨hb, v0, rfl, d0⟩
  all_goals first | exact ⟨fun _ => hR.2.1 hb, fun h9 => absurd (show true = false from h9) (by decide)⟩ | exact ⟨fun h9 => absurd (show false = true from h9) (by decide), fun _ => hR.2.2 hb⟩
theorem s9_dryAt {K K1 : CS} {M M1 : MS} {r r' : Int32} (hR : R9 K M) (hc : PC_dryAt K r K1) (hm : PM_dryAt M r' M1) : R9 K1 M1 := ⟨s3_dryAt hR.1 hc hm, k9_dryAt hR hc hm⟩
theorem k9_reach {K K1 : CS} {M M1 : MS} {r r' : Int32} (hR : R9 K M) (hc : PC_reach K r K1) (hm : PM_reach M r' M1) : S9m K1 M1 := by
  obtain ⟨u0, rfl, c0⟩ := hc
  all_goals rcases hm with ⟨hb, v0, rfl, d0⟩ | ⟨hb, v0, rfl, d0⟩
  all_goals first | exact ⟨fun _ => hR.2.1 hb, fun h9 => absurd (show true = false from h9) (by decide)⟩ | exact ⟨fun h9 => absurd (show false = true from h9) (by decide), fun _ => hR.2.2 hb⟩
theorem s9_reach {K K1 : CS} {M M1 : MS} {r r' : Int32} (hR : R9 K M) (hc : PC_reach K r K1) (hm : PM_reach M r' M1) : R9 K1 M1 := ⟨s3_reach hR.1 hc hm, k9_reach hR hc hm⟩
theorem k9_reachIn {K K1 : CS} {M M1 : MS} {r r' : Int32} (hR : R9 K M) (hc : PC_reachIn K r K1) (hm : PM_reachIn M r' M1) : S9m K1 M1 := by
  obtain ⟨u0, rfl, c0⟩ := hc
  all_goals rcases hm with ⟨hb, v0, rfl, d0⟩ | ⟨hb, v0, rfl, d0⟩
  all_goals first | exact ⟨fun _ => hR.2.1 hb, fun h9 => absurd (show true = false from h9) (by decide)⟩ | exact ⟨fun h9 => absurd (show false = true from h9) (by decide), fun _ => hR.2.2 hb⟩
theorem s9_reachIn {K K1 : CS} {M M1 : MS} {r r' : Int32} (hR : R9 K M) (hc : PC_reachIn K r K1) (hm : PM_reachIn M r' M1) : R9 K1 M1 := ⟨s3_reachIn hR.1 hc hm, k9_reachIn hR hc hm⟩
theorem k9_minutesTo {K K1 : CS} {M M1 : MS} {r r' : Int32} (hR : R9 K M) (hc : PC_minutesTo K r K1) (hm : PM_minutesTo M r' M1) : S9m K1 M1 := by
  obtain ⟨u0, rfl, c0⟩ := hc
  all_goals rcases hm with ⟨hb, v0, rfl, d0⟩ | ⟨hb, v0, rfl, d0⟩
  all_goals first | exact ⟨fun _ => hR.2.1 hb, fun h9 => absurd (show true = false from h9) (by decide)⟩ | exact ⟨fun h9 => absurd (show false = true from h9) (by decide), fun _ => hR.2.2 hb⟩
theorem s9_minutesTo {K K1 : CS} {M M1 : MS} {r r' : Int32} (hR : R9 K M) (hc : PC_minutesTo K r K1) (hm : PM_minutesTo M r' M1) : R9 K1 M1 := ⟨s3_minutesTo hR.1 hc hm, k9_minutesTo hR hc hm⟩
theorem k9_latest {K K1 : CS} {M M1 : MS} {r r' : Int32} (hR : R9 K M) (hc : PC_latest K r K1) (hm : PM_latest M r' M1) : S9m K1 M1 := by
  obtain ⟨u0, rfl, c0⟩ := hc
  all_goals rcases hm with ⟨hb, v0, rfl, d0⟩ | ⟨hb, v0, rfl, d0⟩
  all_goals first | exact ⟨fun _ => hR.2.1 hb, fun h9 => absurd (show true = false from h9) (by decide)⟩ | exact ⟨fun h9 => absurd (show false = true from h9) (by decide), fun _ => hR.2.2 hb⟩
theorem s9_latest {K K1 : CS} {M M1 : MS} {r r' : Int32} (hR : R9 K M) (hc : PC_latest K r K1) (hm : PM_latest M r' M1) : R9 K1 M1 := ⟨s3_latest hR.1 hc hm, k9_latest hR hc hm⟩
theorem k9_cut {K K1 : CS} {M M1 : MS} {r r' : Int32} (hR : R9 K M) (hc : PC_cut K r K1) (hm : PM_cut M r' M1) : S9m K1 M1 := by
  obtain ⟨u0, rfl, c0⟩ := hc
  all_goals rcases hm with ⟨hb, v0, rfl, d0⟩ | ⟨hb, v0, rfl, d0⟩
  all_goals first | exact ⟨fun _ => hR.2.1 hb, fun h9 => absurd (show true = false from h9) (by decide)⟩ | exact ⟨fun h9 => absurd (show false = true from h9) (by decide), fun _ => hR.2.2 hb⟩
theorem s9_cut {K K1 : CS} {M M1 : MS} {r r' : Int32} (hR : R9 K M) (hc : PC_cut K r K1) (hm : PM_cut M r' M1) : R9 K1 M1 := ⟨s3_cut hR.1 hc hm, k9_cut hR hc hm⟩
theorem k9_gates {K K1 : CS} {M M1 : MS} {r r' : Int32} (hR : R9 K M) (hc : PC_gates K r K1) (hm : PM_gates M r' M1) : S9m K1 M1 := by
  obtain ⟨u0, rfl, c0⟩ := hc
  all_goals rcases hm with ⟨hb, v0, rfl, d0⟩ | ⟨hb, v0, rfl, d0⟩
  all_goals first | exact ⟨fun _ => hR.2.1 hb, fun h9 => absurd (show true = false from h9) (by decide)⟩ | exact ⟨fun h9 => absurd (show false = true from h9) (by decide), fun _ => hR.2.2 hb⟩
theorem s9_gates {K K1 : CS} {M M1 : MS} {r r' : Int32} (hR : R9 K M) (hc : PC_gates K r K1) (hm : PM_gates M r' M1) : R9 K1 M1 := ⟨s3_gates hR.1 hc hm, k9_gates hR hc hm⟩
theorem k9_toFill {K K1 : CS} {M M1 : MS} {r r' : Int32} (hR : R9 K M) (hc : PC_toFill K r K1) (hm : PM_toFill M r' M1) : S9m K1 M1 := by
  obtain ⟨u0, rfl, c0⟩ := hc
  all_goals rcases hm with ⟨hb, v0, rfl, d0⟩ | ⟨hb, v0, rfl, d0⟩
  all_goals first | exact ⟨fun _ => hR.2.1 hb, fun h9 => absurd (show true = false from h9) (by decide)⟩ | exact ⟨fun h9 => absurd (show false = true from h9) (by decide), fun _ => hR.2.2 hb⟩
theorem s9_toFill {K K1 : CS} {M M1 : MS} {r r' : Int32} (hR : R9 K M) (hc : PC_toFill K r K1) (hm : PM_toFill M r' M1) : R9 K1 M1 := ⟨s3_toFill hR.1 hc hm, k9_toFill hR hc hm⟩
theorem k9_trap {K K1 : CS} {M M1 : MS} {r r' : Int32} (hR : R9 K M) (hc : PC_trap K r K1) (hm : PM_trap M r' M1) : S9m K1 M1 := by
  obtain ⟨u0, rfl, c0⟩ := hc
  all_goals rcases hm with ⟨hb, v0, rfl, d0⟩ | ⟨hb, v0, rfl, d0⟩
  all_goals first | exact ⟨fun _ => hR.2.1 hb, fun h9 => absurd (show true = false from h9) (by decide)⟩ | exact ⟨fun h9 => absurd (show false = true from h9) (by decide), fun _ => hR.2.2 hb⟩
theorem s9_trap {K K1 : CS} {M M1 : MS} {r r' : Int32} (hR : R9 K M) (hc : PC_trap K r K1) (hm : PM_trap M r' M1) : R9 K1 M1 := ⟨s3_trap hR.1 hc hm, k9_trap hR hc hm⟩
theorem k9_meet {K K1 : CS} {M M1 : MS} {r r' : Int32} (hR : R9 K M) (hc : PC_meet K r K1) (hm : PM_meet M r' M1) : S9m K1 M1 := by
  obtain ⟨u0, rfl, c0⟩ := hc
  all_goals rcases hm with ⟨hb, v0, rfl, d0⟩ | ⟨hb, v0, rfl, d0⟩
  all_goals first | exact ⟨fun _ => hR.2.1 hb, fun h9 => absurd (show true = false from h9) (by decide)⟩ | exact ⟨fun h9 => absurd (show false = true from h9) (by decide), fun _ => hR.2.2 hb⟩
theorem s9_meet {K K1 : CS} {M M1 : MS} {r r' : Int32} (hR : R9 K M) (hc : PC_meet K r K1) (hm : PM_meet M r' M1) : R9 K1 M1 := ⟨s3_meet hR.1 hc hm, k9_meet hR hc hm⟩
theorem k9_meetAt {K K1 : CS} {M M1 : MS} {r r' : Int32} (hR : R9 K M) (hc : PC_meetAt K r K1) (hm : PM_meetAt M r' M1) : S9m K1 M1 := by
  obtain ⟨u0, rfl, c0⟩ := hc
  all_goals rcases hm with ⟨hb, v0, rfl, d0⟩ | ⟨hb, v0, rfl, d0⟩
  all_goals first | exact ⟨fun _ => hR.2.1 hb, fun h9 => absurd (show true = false from h9) (by decide)⟩ | exact ⟨fun h9 => absurd (show false = true from h9) (by decide), fun _ => hR.2.2 hb⟩
theorem s9_meetAt {K K1 : CS} {M M1 : MS} {r r' : Int32} (hR : R9 K M) (hc : PC_meetAt K r K1) (hm : PM_meetAt M r' M1) : R9 K1 M1 := ⟨s3_meetAt hR.1 hc hm, k9_meetAt hR hc hm⟩
theorem k9_passers {K K1 : CS} {M M1 : MS} {r r' : Int32} (hR : R9 K M) (hc : PC_passers K r K1) (hm : PM_passers M r' M1) : S9m K1 M1 := by
  obtain ⟨u0, rfl, c0⟩ := hc
  all_goals rcases hm with ⟨hb, v0, rfl, d0⟩ | ⟨hb, v0, rfl, d0⟩
  all_goals first | exact ⟨fun _ => hR.2.1 hb, fun h9 => absurd (show true = false from h9) (by decide)⟩ | exact ⟨fun h9 => absurd (show false = true from h9) (by decide), fun _ => hR.2.2 hb⟩
theorem s9_passers {K K1 : CS} {M M1 : MS} {r r' : Int32} (hR : R9 K M) (hc : PC_passers K r K1) (hm : PM_passers M r' M1) : R9 K1 M1 := ⟨s3_passers hR.1 hc hm, k9_passers hR hc hm⟩
theorem k9_fits {K K1 : CS} {M M1 : MS} {r r' : Int32} (hR : R9 K M) (hc : PC_fits K r K1) (hm : PM_fits M r' M1) : S9m K1 M1 := by
  obtain ⟨u0, rfl, c0⟩ := hc
  all_goals rcases hm with ⟨hb, v0, rfl, d0⟩ | ⟨hb, v0, rfl, d0⟩
  all_goals first | exact ⟨fun _ => hR.2.1 hb, fun h9 => absurd (show true = false from h9) (by decide)⟩ | exact ⟨fun h9 => absurd (show false = true from h9) (by decide), fun _ => hR.2.2 hb⟩
theorem s9_fits {K K1 : CS} {M M1 : MS} {r r' : Int32} (hR : R9 K M) (hc : PC_fits K r K1) (hm : PM_fits M r' M1) : R9 K1 M1 := ⟨s3_fits hR.1 hc hm, k9_fits hR hc hm⟩
theorem k9_fitAt {K K1 : CS} {M M1 : MS} {p1 : Int32} {r r' : Int32} (hR : R9 K M) (hc : PC_fitAt K p1 r K1) (hm : PM_fitAt M p1 r' M1) : S9m K1 M1 := by
  obtain ⟨u0, rfl, c0, c1⟩ := hc
  all_goals rcases hm with ⟨hb, v0, rfl, d0, d1⟩ | ⟨hb, v0, rfl, d0, d1⟩
  all_goals first | exact ⟨fun _ => hR.2.1 hb, fun h9 => absurd (show true = false from h9) (by decide)⟩ | exact ⟨fun h9 => absurd (show false = true from h9) (by decide), fun _ => hR.2.2 hb⟩
theorem s9_fitAt {K K1 : CS} {M M1 : MS} {p1 : Int32} {r r' : Int32} (hR : R9 K M) (hc : PC_fitAt K p1 r K1) (hm : PM_fitAt M p1 r' M1) : R9 K1 M1 := ⟨s3_fitAt hR.1 hc hm, k9_fitAt hR hc hm⟩
theorem k9_odds {K K1 : CS} {M M1 : MS} {r r' : Int64} (hR : R9 K M) (hc : PC_odds K r K1) (hm : PM_odds M r' M1) : S9m K1 M1 := by
  obtain ⟨u0, rfl, c0⟩ := hc
  all_goals rcases hm with ⟨hb, v0, rfl, d0⟩ | ⟨hb, v0, rfl, d0⟩
  all_goals first | exact ⟨fun _ => hR.2.1 hb, fun h9 => absurd (show true = false from h9) (by decide)⟩ | exact ⟨fun h9 => absurd (show false = true from h9) (by decide), fun _ => hR.2.2 hb⟩
theorem s9_odds {K K1 : CS} {M M1 : MS} {r r' : Int64} (hR : R9 K M) (hc : PC_odds K r K1) (hm : PM_odds M r' M1) : R9 K1 M1 := ⟨s3_odds hR.1 hc hm, k9_odds hR hc hm⟩
theorem k9_likeliest {K K1 : CS} {M M1 : MS} {r r' : Int32} (hR : R9 K M) (hc : PC_likeliest K r K1) (hm : PM_likeliest M r' M1) : S9m K1 M1 := by
  obtain ⟨u0, rfl, c0⟩ := hc
  all_goals rcases hm with ⟨hb, v0, rfl, d0⟩ | ⟨hb, v0, rfl, d0⟩
  all_goals first | exact ⟨fun _ => hR.2.1 hb, fun h9 => absurd (show true = false from h9) (by decide)⟩ | exact ⟨fun h9 => absurd (show false = true from h9) (by decide), fun _ => hR.2.2 hb⟩
theorem s9_likeliest {K K1 : CS} {M M1 : MS} {r r' : Int32} (hR : R9 K M) (hc : PC_likeliest K r K1) (hm : PM_likeliest M r' M1) : R9 K1 M1 := ⟨s3_likeliest hR.1 hc hm, k9_likeliest hR hc hm⟩
theorem k9_tread {K K1 : CS} {M M1 : MS} {r r' : Int32} (hR : R9 K M) (hc : PC_tread K r K1) (hm : PM_tread M r' M1) : S9m K1 M1 := by
  obtain ⟨u0, rfl, c0⟩ := hc
  all_goals rcases hm with ⟨hb, v0, rfl, d0⟩ | ⟨hb, v0, rfl, d0⟩
  all_goals first | exact ⟨fun _ => hR.2.1 hb, fun h9 => absurd (show true = false from h9) (by decide)⟩ | exact ⟨fun h9 => absurd (show false = true from h9) (by decide), fun _ => hR.2.2 hb⟩
theorem s9_tread {K K1 : CS} {M M1 : MS} {r r' : Int32} (hR : R9 K M) (hc : PC_tread K r K1) (hm : PM_tread M r' M1) : R9 K1 M1 := ⟨s3_tread hR.1 hc hm, k9_tread hR hc hm⟩
theorem k9_treadLeaves {K K1 : CS} {M M1 : MS} {r r' : Int32} (hR : R9 K M) (hc : PC_treadLeaves K r K1) (hm : PM_treadLeaves M r' M1) : S9m K1 M1 := by
  obtain ⟨u0, rfl, c0⟩ := hc
  all_goals rcases hm with ⟨hb, v0, rfl, d0⟩ | ⟨hb, v0, rfl, d0⟩
  all_goals first | exact ⟨fun _ => hR.2.1 hb, fun h9 => absurd (show true = false from h9) (by decide)⟩ | exact ⟨fun h9 => absurd (show false = true from h9) (by decide), fun _ => hR.2.2 hb⟩
theorem s9_treadLeaves {K K1 : CS} {M M1 : MS} {r r' : Int32} (hR : R9 K M) (hc : PC_treadLeaves K r K1) (hm : PM_treadLeaves M r' M1) : R9 K1 M1 := ⟨s3_treadLeaves hR.1 hc hm, k9_treadLeaves hR hc hm⟩
theorem k9_judge {K K1 : CS} {M M1 : MS} {r r' : Int32} (hR : R9 K M) (hc : PC_judge K r K1) (hm : PM_judge M r' M1) : S9m K1 M1 := by
  obtain ⟨u0, rfl, c0⟩ := hc
  all_goals rcases hm with ⟨hb, v0, rfl, d0⟩ | ⟨hb, v0, rfl, d0⟩
  all_goals first | exact ⟨fun _ => hR.2.1 hb, fun h9 => absurd (show true = false from h9) (by decide)⟩ | exact ⟨fun h9 => absurd (show false = true from h9) (by decide), fun _ => hR.2.2 hb⟩
theorem s9_judge {K K1 : CS} {M M1 : MS} {r r' : Int32} (hR : R9 K M) (hc : PC_judge K r K1) (hm : PM_judge M r' M1) : R9 K1 M1 := ⟨s3_judge hR.1 hc hm, k9_judge hR hc hm⟩
theorem k9_walkOdds {K K1 : CS} {M M1 : MS} {r r' : Int64} (hR : R9 K M) (hc : PC_walkOdds K r K1) (hm : PM_walkOdds M r' M1) : S9m K1 M1 := by
  obtain ⟨u0, rfl, c0⟩ := hc
  all_goals rcases hm with ⟨hb, v0, rfl, d0⟩ | ⟨hb, v0, rfl, d0⟩
  all_goals first | exact ⟨fun _ => hR.2.1 hb, fun h9 => absurd (show true = false from h9) (by decide)⟩ | exact ⟨fun h9 => absurd (show false = true from h9) (by decide), fun _ => hR.2.2 hb⟩
theorem s9_walkOdds {K K1 : CS} {M M1 : MS} {r r' : Int64} (hR : R9 K M) (hc : PC_walkOdds K r K1) (hm : PM_walkOdds M r' M1) : R9 K1 M1 := ⟨s3_walkOdds hR.1 hc hm, k9_walkOdds hR hc hm⟩
theorem k9_lies {K K1 : CS} {M M1 : MS} {r r' : Int32} (hR : R9 K M) (hc : PC_lies K r K1) (hm : PM_lies M r' M1) : S9m K1 M1 := by
  obtain ⟨u0, rfl, c0⟩ := hc
  all_goals rcases hm with ⟨hb, v0, rfl, d0⟩ | ⟨hb, v0, rfl, d0⟩
  all_goals first | exact ⟨fun _ => hR.2.1 hb, fun h9 => absurd (show true = false from h9) (by decide)⟩ | exact ⟨fun h9 => absurd (show false = true from h9) (by decide), fun _ => hR.2.2 hb⟩
theorem s9_lies {K K1 : CS} {M M1 : MS} {r r' : Int32} (hR : R9 K M) (hc : PC_lies K r K1) (hm : PM_lies M r' M1) : R9 K1 M1 := ⟨s3_lies hR.1 hc hm, k9_lies hR hc hm⟩
theorem k9_rests {K K1 : CS} {M M1 : MS} {r r' : Int32} (hR : R9 K M) (hc : PC_rests K r K1) (hm : PM_rests M r' M1) : S9m K1 M1 := by
  obtain ⟨u0, rfl, c0⟩ := hc
  all_goals rcases hm with ⟨hb, v0, rfl, d0⟩ | ⟨hb, v0, rfl, d0⟩
  all_goals first | exact ⟨fun _ => hR.2.1 hb, fun h9 => absurd (show true = false from h9) (by decide)⟩ | exact ⟨fun h9 => absurd (show false = true from h9) (by decide), fun _ => hR.2.2 hb⟩
theorem s9_rests {K K1 : CS} {M M1 : MS} {r r' : Int32} (hR : R9 K M) (hc : PC_rests K r K1) (hm : PM_rests M r' M1) : R9 K1 M1 := ⟨s3_rests hR.1 hc hm, k9_rests hR hc hm⟩
theorem k9_rest {K K1 : CS} {M M1 : MS} {r r' : Int32} (hR : R9 K M) (hc : PC_rest K r K1) (hm : PM_rest M r' M1) : S9m K1 M1 := by
  obtain ⟨u0, rfl, c0⟩ := hc
  all_goals rcases hm with ⟨hb, v0, rfl, d0⟩ | ⟨hb, v0, rfl, d0⟩
  all_goals first | exact ⟨fun _ => hR.2.1 hb, fun h9 => absurd (show true = false from h9) (by decide)⟩ | exact ⟨fun h9 => absurd (show false = true from h9) (by decide), fun _ => hR.2.2 hb⟩
theorem s9_rest {K K1 : CS} {M M1 : MS} {r r' : Int32} (hR : R9 K M) (hc : PC_rest K r K1) (hm : PM_rest M r' M1) : R9 K1 M1 := ⟨s3_rest hR.1 hc hm, k9_rest hR hc hm⟩
theorem k9_fallOdds {K K1 : CS} {M M1 : MS} {r r' : Int64} (hR : R9 K M) (hc : PC_fallOdds K r K1) (hm : PM_fallOdds M r' M1) : S9m K1 M1 := by
  obtain ⟨u0, rfl, c0⟩ := hc
  all_goals rcases hm with ⟨hb, v0, rfl, d0⟩ | ⟨hb, v0, rfl, d0⟩
  all_goals first | exact ⟨fun _ => hR.2.1 hb, fun h9 => absurd (show true = false from h9) (by decide)⟩ | exact ⟨fun h9 => absurd (show false = true from h9) (by decide), fun _ => hR.2.2 hb⟩
theorem s9_fallOdds {K K1 : CS} {M M1 : MS} {r r' : Int64} (hR : R9 K M) (hc : PC_fallOdds K r K1) (hm : PM_fallOdds M r' M1) : R9 K1 M1 := ⟨s3_fallOdds hR.1 hc hm, k9_fallOdds hR hc hm⟩
theorem k9_mean {K K1 : CS} {M M1 : MS} {r r' : Int64} (hR : R9 K M) (hc : PC_mean K r K1) (hm : PM_mean M r' M1) : S9m K1 M1 := by
  obtain ⟨u0, rfl, c0⟩ := hc
  all_goals rcases hm with ⟨hb, v0, rfl, d0⟩ | ⟨hb, v0, rfl, d0⟩
  all_goals first | exact ⟨fun _ => hR.2.1 hb, fun h9 => absurd (show true = false from h9) (by decide)⟩ | exact ⟨fun h9 => absurd (show false = true from h9) (by decide), fun _ => hR.2.2 hb⟩
theorem s9_mean {K K1 : CS} {M M1 : MS} {r r' : Int64} (hR : R9 K M) (hc : PC_mean K r K1) (hm : PM_mean M r' M1) : R9 K1 M1 := ⟨s3_mean hR.1 hc hm, k9_mean hR hc hm⟩
theorem k9_ramble {K K1 : CS} {M M1 : MS} {r r' : Int32} (hR : R9 K M) (hc : PC_ramble K r K1) (hm : PM_ramble M r' M1) : S9m K1 M1 := by
  obtain ⟨u0, rfl, c0⟩ := hc
  all_goals rcases hm with ⟨hb, v0, rfl, d0⟩ | ⟨hb, v0, rfl, d0⟩
  all_goals first | exact ⟨fun _ => hR.2.1 hb, fun h9 => absurd (show true = false from h9) (by decide)⟩ | exact ⟨fun h9 => absurd (show false = true from h9) (by decide), fun _ => hR.2.2 hb⟩
theorem s9_ramble {K K1 : CS} {M M1 : MS} {r r' : Int32} (hR : R9 K M) (hc : PC_ramble K r K1) (hm : PM_ramble M r' M1) : R9 K1 M1 := ⟨s3_ramble hR.1 hc hm, k9_ramble hR hc hm⟩
theorem k9_rambleFalls {K K1 : CS} {M M1 : MS} {r r' : Int32} (hR : R9 K M) (hc : PC_rambleFalls K r K1) (hm : PM_rambleFalls M r' M1) : S9m K1 M1 := by
  obtain ⟨u0, rfl, c0⟩ := hc
  all_goals rcases hm with ⟨hb, v0, rfl, d0⟩ | ⟨hb, v0, rfl, d0⟩
  all_goals first | exact ⟨fun _ => hR.2.1 hb, fun h9 => absurd (show true = false from h9) (by decide)⟩ | exact ⟨fun h9 => absurd (show false = true from h9) (by decide), fun _ => hR.2.2 hb⟩
theorem s9_rambleFalls {K K1 : CS} {M M1 : MS} {r r' : Int32} (hR : R9 K M) (hc : PC_rambleFalls K r K1) (hm : PM_rambleFalls M r' M1) : R9 K1 M1 := ⟨s3_rambleFalls hR.1 hc hm, k9_rambleFalls hR hc hm⟩
theorem k9_strayed {K K1 : CS} {M M1 : MS} {r r' : Int32} (hR : R9 K M) (hc : PC_strayed K r K1) (hm : PM_strayed M r' M1) : S9m K1 M1 := by
  obtain ⟨u0, rfl, c0⟩ := hc
  all_goals rcases hm with ⟨hb, v0, rfl, d0⟩ | ⟨hb, v0, rfl, d0⟩
  all_goals first | exact ⟨fun _ => hR.2.1 hb, fun h9 => absurd (show true = false from h9) (by decide)⟩ | exact ⟨fun h9 => absurd (show false = true from h9) (by decide), fun _ => hR.2.2 hb⟩
theorem s9_strayed {K K1 : CS} {M M1 : MS} {r r' : Int32} (hR : R9 K M) (hc : PC_strayed K r K1) (hm : PM_strayed M r' M1) : R9 K1 M1 := ⟨s3_strayed hR.1 hc hm, k9_strayed hR hc hm⟩
theorem k9_size {K K1 : CS} {M M1 : MS} {r r' : Int32} (hR : R9 K M) (hc : PC_size K r K1) (hm : PM_size M r' M1) : S9m K1 M1 := by
  obtain rfl := hc
  all_goals rcases hm with ⟨hb, rfl⟩ | ⟨hb, rfl⟩
  all_goals first | exact ⟨fun _ => hR.2.1 hb, fun h9 => absurd (show true = false from h9) (by decide)⟩ | exact ⟨fun h9 => absurd (show false = true from h9) (by decide), fun _ => hR.2.2 hb⟩
theorem s9_size {K K1 : CS} {M M1 : MS} {r r' : Int32} (hR : R9 K M) (hc : PC_size K r K1) (hm : PM_size M r' M1) : R9 K1 M1 := ⟨s3_size hR.1 hc hm, k9_size hR hc hm⟩
theorem k9_trouble {K K1 : CS} {M M1 : MS} {r r' : Int32} (hR : R9 K M) (hc : PC_trouble K r K1) (hm : PM_trouble M r' M1) : S9m K1 M1 := by
  obtain rfl := hc
  all_goals rcases hm with ⟨hb, rfl⟩ | ⟨hb, rfl⟩
  all_goals first | exact ⟨fun _ => hR.2.1 hb, fun h9 => absurd (show true = false from h9) (by decide)⟩ | exact ⟨fun h9 => absurd (show false = true from h9) (by decide), fun _ => hR.2.2 hb⟩
theorem s9_trouble {K K1 : CS} {M M1 : MS} {r r' : Int32} (hR : R9 K M) (hc : PC_trouble K r K1) (hm : PM_trouble M r' M1) : R9 K1 M1 := ⟨s3_trouble hR.1 hc hm, k9_trouble hR hc hm⟩
theorem k9_dig {K K1 : CS} {M M1 : MS} {p1 : Int32} {r r' : Int32} (hR : R9 K M) (hc : PC_dig K p1 r K1) (hm : PM_dig M p1 r' M1) : S9m K1 M1 := by
  rcases hc with ⟨hk, u0, u1, u2, z0, z1, z2, z3, z4, z5, z6, z7, Z, eZ, rfl, c0, c1⟩ | ⟨hk, u0, u1, z0, z1, z2, z3, z4, z5, z6, z7, Z, n1, eZ, rfl, c0, cm⟩
  all_goals rcases hm with ⟨hb, v0, v1, v2, v3, rfl, d0, d1⟩ | ⟨hb, v0, rfl, d0, d1⟩
  all_goals first | exact ⟨fun _ => hR.2.1 hb, fun h9 => absurd (show true = false from h9) (by decide)⟩ | exact ⟨fun h9 => absurd (show false = true from h9) (by decide), fun _ => hR.2.2 hb⟩
theorem s9_dig {K K1 : CS} {M M1 : MS} {p1 : Int32} {r r' : Int32} (hR : R9 K M) (hc : PC_dig K p1 r K1) (hm : PM_dig M p1 r' M1) : R9 K1 M1 := ⟨s3_dig hR.1 hc hm, k9_dig hR hc hm⟩
theorem k9_fill {K K1 : CS} {M M1 : MS} {p1 : Int32} {r r' : Int32} (hR : R9 K M) (hc : PC_fill K p1 r K1) (hm : PM_fill M p1 r' M1) : S9m K1 M1 := by
  rcases hc with ⟨hk, u0, u1, u2, z0, z1, z2, z3, z4, z5, z6, z7, Z, eZ, rfl, c0, c1⟩ | ⟨hk, u0, u1, z0, z1, z2, z3, z4, z5, z6, z7, Z, n1, eZ, rfl, c0, cm⟩
  all_goals rcases hm with ⟨hb, v0, v1, v2, v3, rfl, d0, d1⟩ | ⟨hb, v0, rfl, d0, d1⟩
  all_goals first | exact ⟨fun _ => hR.2.1 hb, fun h9 => absurd (show true = false from h9) (by decide)⟩ | exact ⟨fun h9 => absurd (show false = true from h9) (by decide), fun _ => hR.2.2 hb⟩
theorem s9_fill {K K1 : CS} {M M1 : MS} {p1 : Int32} {r r' : Int32} (hR : R9 K M) (hc : PC_fill K p1 r K1) (hm : PM_fill M p1 r' M1) : R9 K1 M1 := ⟨s3_fill hR.1 hc hm, k9_fill hR hc hm⟩
theorem k9_gate {K K1 : CS} {M M1 : MS} {p1 : Int32} {r r' : Int32} (hR : R9 K M) (hc : PC_gate K p1 r K1) (hm : PM_gate M p1 r' M1) : S9m K1 M1 := by
  rcases hc with ⟨hk, u0, u1, u2, z0, z1, z2, z3, z4, z5, z6, z7, Z, eZ, rfl, c0, c1⟩ | ⟨hk, u0, u1, z0, z1, z2, z3, z4, z5, z6, z7, Z, n1, eZ, rfl, c0, cm⟩
  all_goals rcases hm with ⟨hb, v0, v1, v2, v3, rfl, d0, d1⟩ | ⟨hb, v0, rfl, d0, d1⟩
  all_goals first | exact ⟨fun _ => hR.2.1 hb, fun h9 => absurd (show true = false from h9) (by decide)⟩ | exact ⟨fun h9 => absurd (show false = true from h9) (by decide), fun _ => hR.2.2 hb⟩
theorem s9_gate {K K1 : CS} {M M1 : MS} {p1 : Int32} {r r' : Int32} (hR : R9 K M) (hc : PC_gate K p1 r K1) (hm : PM_gate M p1 r' M1) : R9 K1 M1 := ⟨s3_gate hR.1 hc hm, k9_gate hR hc hm⟩
theorem k9_hedge {K K1 : CS} {M M1 : MS} {p1 : Int32} {r r' : Int32} (hR : R9 K M) (hc : PC_hedge K p1 r K1) (hm : PM_hedge M p1 r' M1) : S9m K1 M1 := by
  rcases hc with ⟨hk, u0, u1, u2, z0, z1, z2, z3, z4, z5, z6, z7, Z, eZ, rfl, c0, c1⟩ | ⟨hk, u0, u1, z0, z1, z2, z3, z4, z5, z6, z7, Z, n1, eZ, rfl, c0, cm⟩
  all_goals rcases hm with ⟨hb, v0, v1, v2, v3, rfl, d0, d1⟩ | ⟨hb, v0, rfl, d0, d1⟩
  all_goals first | exact ⟨fun _ => hR.2.1 hb, fun h9 => absurd (show true = false from h9) (by decide)⟩ | exact ⟨fun h9 => absurd (show false = true from h9) (by decide), fun _ => hR.2.2 hb⟩
theorem s9_hedge {K K1 : CS} {M M1 : MS} {p1 : Int32} {r r' : Int32} (hR : R9 K M) (hc : PC_hedge K p1 r K1) (hm : PM_hedge M p1 r' M1) : R9 K1 M1 := ⟨s3_hedge hR.1 hc hm, k9_hedge hR hc hm⟩
theorem k9_step {K K1 : CS} {M M1 : MS} {p1 : Int32} {p2 : Int32} {r r' : Int32} (hR : R9 K M) (hc : PC_step K p1 p2 r K1) (hm : PM_step M p1 p2 r' M1) : S9m K1 M1 := by
  rcases hc with ⟨hk, u0, u1, u2, u3, u4, z0, z1, z2, z3, z4, z5, z6, z7, Z, eZ, rfl, c0, c1, c2⟩ | ⟨hk, u0, u1, u2, u3, z0, z1, z2, z3, z4, z5, z6, z7, Z, n1, eZ, rfl, c0, c1, cm⟩
  all_goals rcases hm with ⟨hb, v0, v1, v2, v3, rfl, d0, d1⟩ | ⟨hb, v0, rfl, d0, d1⟩
  all_goals first | exact ⟨fun _ => hR.2.1 hb, fun h9 => absurd (show true = false from h9) (by decide)⟩ | exact ⟨fun h9 => absurd (show false = true from h9) (by decide), fun _ => hR.2.2 hb⟩
theorem s9_step {K K1 : CS} {M M1 : MS} {p1 : Int32} {p2 : Int32} {r r' : Int32} (hR : R9 K M) (hc : PC_step K p1 p2 r K1) (hm : PM_step M p1 p2 r' M1) : R9 K1 M1 := ⟨s3_step hR.1 hc hm, k9_step hR hc hm⟩
theorem k9_undo {K K1 : CS} {M M1 : MS} {r r' : Int32} (hR : R9 K M) (hc : PC_undo K r K1) (hm : PM_undo M r' M1) : S9m K1 M1 := by
  obtain ⟨u0, u1, u2, u3, u4, u5, u6, u7, u8, u9, Z, eZ, rfl, c0, c1⟩ := hc
  all_goals rcases hm with ⟨hb, v0, v1, v2, rfl, d0, d1⟩ | ⟨hb, v0, rfl, d0, d1⟩
  all_goals first | exact ⟨fun _ => hR.2.1 hb, fun h9 => absurd (show true = false from h9) (by decide)⟩ | exact ⟨fun h9 => absurd (show false = true from h9) (by decide), fun _ => hR.2.2 hb⟩
theorem s9_undo {K K1 : CS} {M M1 : MS} {r r' : Int32} (hR : R9 K M) (hc : PC_undo K r K1) (hm : PM_undo M r' M1) : R9 K1 M1 := ⟨s3_undo hR.1 hc hm, k9_undo hR hc hm⟩
theorem k9_image {K K1 : CS} {M M1 : MS} {r r' : Int32} (hR : R9 K M) (hc : PC_image K r K1) (hm : PM_image M r' M1) : S9m K1 M1 := by
  obtain ⟨u0, u1, z0, z1, z2, z3, z4, z5, z6, z7, Z, eZ, rfl, c0, c1⟩ := hc
  all_goals rcases hm with ⟨hb, v0, v1, v2, rfl, d0, d1, d2⟩ | ⟨hb, v0, rfl, d0, d1⟩
  all_goals first | exact ⟨fun _ => hR.2.1 hb, fun h9 => absurd (show true = false from h9) (by decide)⟩ | exact ⟨fun h9 => absurd (show false = true from h9) (by decide), fun _ => hR.2.2 hb⟩
theorem s9_image {K K1 : CS} {M M1 : MS} {r r' : Int32} (hR : R9 K M) (hc : PC_image K r K1) (hm : PM_image M r' M1) : R9 K1 M1 := ⟨s3_image hR.1 hc hm, k9_image hR hc hm⟩
theorem k9_back {K K1 : CS} {M M1 : MS} {p1 : Int32} {r r' : Int32} (hR : R9 K M) (hc : PC_back K p1 r K1) (hm : PM_back M p1 r' M1) : S9m K1 M1 := by
  obtain ⟨u0, u1, u2, u3, u4, u5, u6, u7, u8, u9, Z, eZ, rfl, c0, c1⟩ := hc
  all_goals rcases hm with ⟨hb, v0, v1, v2, rfl, d0, d1, d2⟩ | ⟨hb, v0, rfl, d0, d1⟩
  all_goals first | exact ⟨fun _ => hR.2.1 hb, fun h9 => absurd (show true = false from h9) (by decide)⟩ | exact ⟨fun h9 => absurd (show false = true from h9) (by decide), fun _ => hR.2.2 hb⟩
theorem s9_back {K K1 : CS} {M M1 : MS} {p1 : Int32} {r r' : Int32} (hR : R9 K M) (hc : PC_back K p1 r K1) (hm : PM_back M p1 r' M1) : R9 K1 M1 := ⟨s3_back hR.1 hc hm, k9_back hR hc hm⟩
theorem s9_led {K : CS} {M M1 : MS} {r' : Int32} (hR : R9 K M) (hm : PM_led M r' M1) : R9 K M1 := by
  refine ⟨s3_led hR.1 hm, ?_⟩
  rcases hm with ⟨hb, rfl⟩ | ⟨hb, rfl⟩
  · exact ⟨fun _ => hR.2.1 hb, fun h9 => absurd (show true = false from h9) (by decide)⟩
  · exact ⟨fun h9 => absurd (show false = true from h9) (by decide), fun _ => hR.2.2 hb⟩
set_option maxHeartbeats 4000000 in
theorem k9_park {K K1 : CS} {M M1 : MS} {p1 : Int32} {r r' : Int32} (hR : R3 K M) (hS9 : S9m K M) (hc : PC_park K p1 r K1) (hm : PM_park M p1 r' M1) : S9m K1 M1 := by
  have hS := hR.2
  have h2 := st_park hR.1 hc hm
  have hc9 := hc
  have hm9 := hm
  obtain ⟨u0, u1, u2, u3, u4, u5, u6, u7, u8, u9, u10, u11, u12, u13, T1, rfl, c0, c1, c2, c3, cT⟩ := hc
  rcases hm with ⟨g1, g2, wh, g3, rfl⟩ | ⟨g1, b1, wh, tp, fa, im, ac, pw, pd, pe, pl, pk, pm, pu, vf, kf, tf, sf, uf, gf, hf, lf, rfl, g2, g3, g4, g5⟩
  · rcases c3 with ⟨e1, e2, e3, e4, e5, e6, e7⟩ | ⟨e1, e2, e3, e4, -⟩ | ⟨e1, e2, e3, -⟩
    · have q := tup8 e7
      rcases cT with ⟨t1, -⟩ | ⟨t1, -⟩
      · subst t1; exact hS9
      · exfalso; omega
    · exfalso; have e9 := hR.1.1.1; omega
    · exfalso; have e9 := hR.1.1.1; omega
  · rcases g5 with ⟨k1, k2, k3, k4, k5, k6, k7, k8, k9, k10, k11, k12, k13, k14, k15, k16, k17, k18, k19⟩ | ⟨k1, k2, k3, k4, k5, k6, k7⟩
    · have hN : u13.toInt ≠ 0 := by
        rcases c3 with ⟨e1, e2, -⟩ | ⟨e1, e2, -⟩ | ⟨e1, e2, e3, e4, -⟩
        · omega
        · omega
        · exfalso
          have f := (g3 hR.1.1.2.2.1).1
          have f3 := hR.1.1.2.1
          rw [f3] at e4
          omega
      subst k4 k5 k6 k7 k8 k9 k10 k11 k12 k13 k14 k15 k16 k17 k18 k19
      rcases cT with ⟨t1, -⟩ | ⟨t1, -⟩
      · subst t1
        rcases c3 with ⟨e1, e2, e3, e4, e5, e6, e7⟩ | ⟨e1, e2, e3, e4, e5, e6, e7, e8, e9⟩ | ⟨e1, -⟩
        · have q := tup8 e7
          exact ⟨fun hb9 => hS9.1 (k1.symm.trans hb9), fun hb9 => hS9.2 (k1.symm.trans hb9)⟩
        · have q := tup8 e9
          exact ⟨fun hb9 => hS9.1 (k1.symm.trans hb9), fun hb9 => hS9.2 (k1.symm.trans hb9)⟩
        · exact absurd e1 hN
      · exact absurd t1 hN
    · subst k1
      have hp := (Rq_ct h2).1 rfl
      rcases c3 with ⟨e1, e2, -⟩ | ⟨e1, e2, -⟩ | ⟨e1, e2, e3, e4, e5, e6, e7, e8⟩
      · exfalso; have e9 := (pk_park hR.1 hc9 hm9).2; omega
      · exfalso; have e9 := (pk_park hR.1 hc9 hm9).2; omega
      · rcases cT with ⟨-, t1⟩ | ⟨-, t1⟩
        · exact absurd e1 t1
        · have tb := hR.1.1.2.1
          rw [tb] at t1
          exact ⟨fun _ => S9_pk t1 (k7 hR.1.1.2.2.1) hp, fun h9 => absurd (show true = false from h9) (by decide)⟩
theorem s9_park {K K1 : CS} {M M1 : MS} {p1 : Int32} {r r' : Int32} (hR : R9 K M) (hc : PC_park K p1 r K1) (hm : PM_park M p1 r' M1) : R9 K1 M1 := ⟨s3_park hR.1 hc hm, k9_park hR.1 hR.2 hc hm⟩
theorem a9_feed {K K1 : CS} {M M1 : MS} {p1 : Int32} {p2 : Int32} {p3 : Int32} {p4 : Int32} {p5 : Int32} {r r' : Int32} (hR : R9 K M) (hc : PC_feed K p1 p2 p3 p4 p5 r K1) (hm : PM_feed M p1 p2 p3 p4 p5 r' M1) : r.toInt = r'.toInt := a3_feed hR.1 hc hm
theorem a9_fault {K K1 : CS} {M M1 : MS} {r r' : Int32} (hR : R9 K M) (hc : PC_fault K r K1) (hm : PM_fault M r' M1) : r.toInt = r'.toInt := a3_fault hR.1 hc hm
theorem a9_where {K K1 : CS} {M M1 : MS} {r r' : Int32} (hR : R9 K M) (hc : PC_where K r K1) (hm : PM_where M r' M1) : r.toInt = r'.toInt := a3_where hR.1 hc hm
theorem a9_image {K K1 : CS} {M M1 : MS} {r r' : Int32} (hR : R9 K M) (hc : PC_image K r K1) (hm : PM_image M r' M1) : r.toInt = r'.toInt := a3_image hR.1 hc hm
theorem a9_back {K K1 : CS} {M M1 : MS} {p1 : Int32} {r r' : Int32} (hR : R9 K M) (hc : PC_back K p1 r K1) (hm : PM_back M p1 r' M1) : r.toInt = r'.toInt := a3_back hR.1 hc hm
theorem a9_park {K K1 : CS} {M M1 : MS} {p1 : Int32} {r r' : Int32} (hR : R9 K M) (hc : PC_park K p1 r K1) (hm : PM_park M p1 r' M1) : r.toInt = r'.toInt := a3_park hR.1 hc hm
theorem a9_dig {K K1 : CS} {M M1 : MS} {p1 : Int32} {r r' : Int32} (hR : R9 K M) (hc : PC_dig K p1 r K1) (hm : PM_dig M p1 r' M1) : r.toInt = r'.toInt := a3_dig hR.1 hc hm
theorem a9_fill {K K1 : CS} {M M1 : MS} {p1 : Int32} {r r' : Int32} (hR : R9 K M) (hc : PC_fill K p1 r K1) (hm : PM_fill M p1 r' M1) : r.toInt = r'.toInt := a3_fill hR.1 hc hm
theorem a9_gate {K K1 : CS} {M M1 : MS} {p1 : Int32} {r r' : Int32} (hR : R9 K M) (hc : PC_gate K p1 r K1) (hm : PM_gate M p1 r' M1) : r.toInt = r'.toInt := a3_gate hR.1 hc hm
theorem a9_hedge {K K1 : CS} {M M1 : MS} {p1 : Int32} {r r' : Int32} (hR : R9 K M) (hc : PC_hedge K p1 r K1) (hm : PM_hedge M p1 r' M1) : r.toInt = r'.toInt := a3_hedge hR.1 hc hm
theorem a9_step {K K1 : CS} {M M1 : MS} {p1 : Int32} {p2 : Int32} {r r' : Int32} (hR : R9 K M) (hc : PC_step K p1 p2 r K1) (hm : PM_step M p1 p2 r' M1) : r.toInt = r'.toInt := a3_step hR.1 hc hm
theorem a9_undo {K K1 : CS} {M M1 : MS} {r r' : Int32} (hR : R9 K M) (hc : PC_undo K r K1) (hm : PM_undo M r' M1) : r.toInt = r'.toInt := a3_undo hR.1 hc hm
theorem a9_fitAt {K K1 : CS} {M M1 : MS} {p1 : Int32} {r r' : Int32} (hR : R9 K M) (hc : PC_fitAt K p1 r K1) (hm : PM_fitAt M p1 r' M1) : r.toInt = r'.toInt := by
  have hS := hR.1.2
  obtain ⟨u0, rfl, c0, c1⟩ := hc
  rcases hm with ⟨hb, v0, rfl, d0, d1⟩ | ⟨hb, v0, rfl, d0, d1⟩
  · exact fa_eq hS hR.2 hb c0 d0
  · rw [d0]
    exact c0.2 (hR.2.2 hb)
