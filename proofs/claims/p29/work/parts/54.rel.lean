theorem bys_0 : bys (fun _ => 0) := fun k _ => ⟨(show (-128 : Int) ≤ (0 : Int32).toInt by decide), (show (0 : Int32).toInt ≤ (127 : Int) by decide)⟩
/-- an int that is 0 or 1, by what was told -/
def bZ (x : Int32) : Int32 := if x = 0 then 0 else 1
theorem bZ_0 {x : Int32} (h : x = 0) : (0 : Int32) = bZ x := (if_pos h).symm
theorem bZ_1 {x : Int32} (h : ¬ x = 0) : (1 : Int32) = bZ x := (if_neg h).symm
/-- a content that stands in a park -/
def pOK (C : CT) : Prop := 0 < (C.1 3).toInt ∧ (C.1 3).toInt = (C.1 1).toInt * (C.1 2).toInt
/-- class and reference side by side, by their parts -/
def Rq (kc ic tr len fa fat : Int) (bt : Nat → Int32) (N : CT) (kn im : Nat → CT) (b : Bool) (wh tp fm imn : Int) (bm : Nat → Int32) : Prop :=
  (len = tp ∧ bt = bm ∧ bys bm ∧ fa = fm) ∧ ((tr = 4 → fat = wh) ∧ (tr ≠ 4 → wh = -1)) ∧ (0 ≤ kc ∧ kc ≤ 16 ∧ 0 ≤ ic ∧ ic ≤ 3 ∧ ic = imn) ∧ ((b = true ∧ pOK N ∧ (∀ k : Nat, (k : Int) < kc → pOK (kn k)) ∧ ∀ k : Nat, (k : Int) < ic → pOK (im k)) ∨ (b = false ∧ (N.1 3).toInt ≤ 0 ∧ kc = 0 ∧ ic = 0))
def R2 (K : CS) (M : MS) : Prop := Rq (K.1 0).toInt (K.1 1).toInt (K.1 2).toInt (K.2.1.1 0).toInt (K.2.1.1 1).toInt (K.2.1.1 2).toInt (K.2.1.2 0) K.2.2.1 K.2.2.2.2.1 K.2.2.2.2.2 M.1 (M.2.1 0).toInt (M.2.1 1).toInt (M.2.1 2).toInt (M.2.1 3).toInt (M.2.2 0)
theorem R2_0 : R2 K0 M0 := ⟨⟨rfl, rfl, bys_0, rfl⟩, ⟨fun h => absurd h (by decide), fun _ => by decide⟩, ⟨by decide, by decide, by decide, by decide, by decide⟩, Or.inr ⟨rfl, by decide, by decide, by decide⟩⟩
theorem Rq_b {kc ic tr len fa fat : Int} {bt : Nat → Int32} {N : CT} {kn im : Nat → CT} {b b1 : Bool} {wh tp fm imn : Int} {bm : Nat → Int32} (h : Rq kc ic tr len fa fat bt N kn im b wh tp fm imn bm) (hb : b = b1) : Rq kc ic tr len fa fat bt N kn im b1 wh tp fm imn bm := hb ▸ h
theorem Rq_tr {kc ic tr tr1 len fa fat : Int} {bt : Nat → Int32} {N : CT} {kn im : Nat → CT} {b b1 : Bool} {wh wh1 tp fm imn : Int} {bm : Nat → Int32} (h : Rq kc ic tr len fa fat bt N kn im b wh tp fm imn bm) (h1 : tr1 ≠ 4) (h2 : wh1 = -1) (hb : b = b1) : Rq kc ic tr1 len fa fat bt N kn im b1 wh1 tp fm imn bm := by
  subst hb
  exact ⟨h.1, ⟨fun q => absurd q h1, fun _ => h2⟩, h.2.2⟩
theorem Rq_fe {kc ic tr len len1 fa fat : Int} {bt bt1 : Nat → Int32} {N : CT} {kn im : Nat → CT} {b b1 : Bool} {wh tp tp1 fm imn : Int} {bm bm1 : Nat → Int32} {r r' : Int} {p1 p2 p3 p4 p5 : Int32} (h : Rq kc ic tr len fa fat bt N kn im b wh tp fm imn bm) (c1 : (len + 20 ≤ 800 ∧ len1 = len + 20 ∧ r = len + 20) ∨ (800 < len + 20 ∧ len1 = len ∧ r = -1)) (c2 : fdB bt bt1 len len1 p1 p2 p3 p4 p5) (c3 : 800 < len + 20 → bt1 = bt)
    (d1 : (tp + 20 ≤ 800 ∧ tp1 = tp + 20 ∧ r' = tp + 20) ∨ (800 < tp + 20 ∧ tp1 = tp ∧ r' = -1)) (d2 : fdB bm bm1 tp tp1 p1 p2 p3 p4 p5) (d3 : 800 < tp + 20 → bm1 = bm) (hb : b = b1) : Rq kc ic tr len1 fa fat bt1 N kn im b1 wh tp1 fm imn bm1 := by
  subst hb
  obtain ⟨⟨e1, e2, e3, e4⟩, h2⟩ := h
  refine ⟨⟨by omega, ?_, ?_, e4⟩, h2⟩
  · by_cases hc : len + 20 ≤ 800
    · rw [(c2 hc).2, (d2 (by omega)).2, e2, e1]
    · rw [c3 (by omega), d3 (by omega), e2]
  · by_cases hc : tp + 20 ≤ 800
    · rw [(d2 hc).2]
      exact fdN_bys e3 20
    · rw [d3 (by omega)]
      exact e3
theorem Rq_fr {kc ic tr len len1 fa fat : Int} {bt : Nat → Int32} {N : CT} {kn im : Nat → CT} {b : Bool} {wh tp tp1 fm imn : Int} {bm : Nat → Int32} {r r' : Int} (h : Rq kc ic tr len fa fat bt N kn im b wh tp fm imn bm) (c1 : (len + 20 ≤ 800 ∧ len1 = len + 20 ∧ r = len + 20) ∨ (800 < len + 20 ∧ len1 = len ∧ r = -1)) (d1 : (tp + 20 ≤ 800 ∧ tp1 = tp + 20 ∧ r' = tp + 20) ∨ (800 < tp + 20 ∧ tp1 = tp ∧ r' = -1)) : r = r' := by
  have e1 := h.1.1
  omega
theorem Rq_wh {kc ic tr len fa fat : Int} {bt : Nat → Int32} {N : CT} {kn im : Nat → CT} {b : Bool} {wh tp fm imn : Int} {bm : Nat → Int32} {r r' : Int} (h : Rq kc ic tr len fa fat bt N kn im b wh tp fm imn bm) (c1 : (tr = 4 ∧ r = fat) ∨ (tr ≠ 4 ∧ r = -1)) (d1 : r' = wh) : r = r' := by
  have e1 := h.2.1
  rcases c1 with ⟨a1, a2⟩ | ⟨a1, a2⟩
  · rw [a2, d1, e1.1 a1]
  · rw [a2, d1, e1.2 a1]
theorem Rq_ct {kc ic tr len fa fat : Int} {bt : Nat → Int32} {N : CT} {kn im : Nat → CT} {b : Bool} {wh tp fm imn : Int} {bm : Nat → Int32} (h : Rq kc ic tr len fa fat bt N kn im b wh tp fm imn bm) : (b = true → 0 < (N.1 3).toInt) ∧ (b = false → (N.1 3).toInt ≤ 0) := by
  rcases h.2.2.2 with q | q
  · exact ⟨fun _ => q.2.1.1, fun z => absurd (q.1.symm.trans z) (by decide)⟩
  · exact ⟨fun z => absurd (q.1.symm.trans z) (by decide), fun _ => q.2.1⟩
/-- an act: what is kept is a copy of now -/
def cpC (N C : CT) : Prop := C.1 1 = N.1 1 ∧ C.1 2 = N.1 2 ∧ (C.1 3).toInt = (N.1 1).toInt * (N.1 2).toInt
theorem cpC_ok {N C : CT} (h : cpC N C) (hN : pOK N) : pOK C := by
  obtain ⟨h1, h2, h3⟩ := h
  refine ⟨?_, ?_⟩
  · rw [h3, ← hN.2]; exact hN.1
  · rw [h1, h2]; exact h3
theorem nwC_cp {w d : Int32} {s a f g : Nat → Int32} {k w1 d1 c1 : Int32} {s1 a1 f1 g1 : Nat → Int32} {k1 : Int32} (h : nwC w d s a f g k w1 d1 c1 s1 a1 f1 g1 k1) : w1 = w ∧ d1 = d ∧ c1.toInt = w.toInt * d.toInt := ⟨h.1, h.2.1, h.2.2.1⟩
theorem Rq_act {kc kc1 ic tr tr1 len fa fat : Int} {bt : Nat → Int32} {N N1 : CT} {kn kn1 im : Nat → CT} {b b1 : Bool} {wh wh1 tp fm imn : Int} {bm : Nat → Int32} (h : Rq kc ic tr len fa fat bt N kn im b wh tp fm imn bm) (h1 : tr1 ≠ 4) (h2 : wh1 = -1) (hb : b = b1) (hN : N1.1 3 = N.1 3 ∧ N1.1 1 = N.1 1 ∧ N1.1 2 = N.1 2)
    (hK : (kc1 = kc ∧ ∀ k : Nat, (k : Int) < kc → pOK (kn k) → pOK (kn1 k)) ∨ (0 < (N.1 3).toInt ∧ ∃ C1, cpC N C1 ∧ ((kc ≤ 15 ∧ kc1 = kc + 1 ∧ kn1 = upC kn kc.toNat C1) ∨ (kc = 16 ∧ kc1 = 16 ∧ kn1 = rotC kn C1)))) : Rq kc1 ic tr1 len fa fat bt N1 kn1 im b1 wh1 tp fm imn bm := by
  subst hb
  obtain ⟨g1, g2, g3, g4⟩ := h
  refine ⟨g1, ⟨fun q => absurd q h1, fun _ => h2⟩, ?_, ?_⟩
  · rcases hK with q | ⟨-, C1, -, q⟩ <;> omega
  · rcases g4 with ⟨a1, a2, a3, a4⟩ | ⟨a1, a2, a3, a4⟩
    · refine Or.inl ⟨a1, ⟨by rw [hN.1]; exact a2.1, by rw [hN.1, hN.2.1, hN.2.2]; exact a2.2⟩, ?_, a4⟩
      rcases hK with ⟨q1, q2⟩ | ⟨-, C1, q2, q3⟩
      · intro k hk
        exact q2 k (by omega) (a3 k (by omega))
      · have hC := cpC_ok q2 a2
        intro k hk
        rcases q3 with ⟨e1, e2, e3⟩ | ⟨e1, e2, e3⟩
        · rw [e3]
          by_cases hq : k = kc.toNat
          · rw [hq, upC_eq]; exact hC
          · rw [upC_ne kn C1 hq]; exact a3 k (by omega)
        · rw [e3]
          by_cases hq : k = 15
          · rw [hq, rotC_15]; exact hC
          · rw [rotC_ne kn C1 hq]; exact a3 (k + 1) (by omega)
    · rcases hK with ⟨q1, q2⟩ | ⟨q1, -⟩
      · exact Or.inr ⟨a1, by rw [hN.1]; exact a2, by omega, a4⟩
      · omega
/-- nothing is kept anew: what stands there stands as before -/
theorem sm_n {kn : Nat → CT} {kc : Int} {C1 : CT} (k : Nat) (hk : (k : Int) < kc) (h : pOK (kn k)) : pOK (upC kn kc.toNat C1 k) := by
  rw [upC_ne kn C1 (by omega)]; exact h
theorem tup8 {a1 a2 a3 b1 b2 b3 c1 c2 : Int32} {d1 d2 e1 e2 f1 f2 g1 g2 : Nat → Int32} (h : (a1, a2, a3, d1, e1, f1, g1, c1) = (b1, b2, b3, d2, e2, f2, g2, c2)) : a1 = b1 ∧ a2 = b2 ∧ a3 = b3 ∧ d1 = d2 ∧ e1 = e2 ∧ f1 = f2 ∧ g1 = g2 ∧ c1 = c2 := by
  simp only [Prod.mk.injEq] at h
  exact h
theorem sm_f {kn : Nat → CT} {C1 : CT} (e : C1.1 1 = (kn 0).1 1 ∧ C1.1 2 = (kn 0).1 2 ∧ C1.1 3 = (kn 0).1 3) (k : Nat) (h : pOK (kn k)) : pOK (upC kn 0 C1 k) := by
  by_cases hq : k = 0
  · subst hq
    rw [upC_eq]
    exact ⟨by rw [e.2.2]; exact h.1, by rw [e.1, e.2.1, e.2.2]; exact h.2⟩
  · rw [upC_ne kn C1 hq]; exact h
theorem upC_self (n : Nat → CT) (i : Nat) : upC n i (n i) = n := by
  funext k
  by_cases hq : k = i
  · rw [hq, upC_eq]
  · rw [upC_ne n _ hq]
theorem Rq_un {kc kc1 ic tr tr1 len fa fat : Int} {bt : Nat → Int32} {N N1 Z : CT} {kn im : Nat → CT} {b b1 : Bool} {wh wh1 tp fm imn : Int} {bm : Nat → Int32} (h : Rq kc ic tr len fa fat bt N kn im b wh tp fm imn bm) (h1 : tr1 ≠ 4) (h2 : wh1 = -1) (hb : b = b1) (hZ : Z = kn (kc - 1).toNat) (hK : (kc = 0 ∧ kc1 = kc ∧ N1.1 1 = N.1 1 ∧ N1.1 2 = N.1 2 ∧ N1.1 3 = N.1 3) ∨ (0 < kc ∧ kc1 = kc - 1 ∧ cpC Z N1)) : Rq kc1 ic tr1 len fa fat bt N1 (upC kn (kc - 1).toNat Z) im b1 wh1 tp fm imn bm := by
  subst hb
  rw [hZ, upC_self]
  rw [hZ] at hK
  obtain ⟨g1, g2, g3, g4⟩ := h
  refine ⟨g1, ⟨fun q => absurd q h1, fun _ => h2⟩, by omega, ?_⟩
  rcases g4 with ⟨a1, a2, a3, a4⟩ | ⟨a1, a2, a3, a4⟩
  · refine Or.inl ⟨a1, ?_, fun k hk => a3 k (by omega), a4⟩
    rcases hK with ⟨q1, q2, q3, q4, q5⟩ | ⟨q1, q2, q3⟩
    · exact ⟨by rw [q5]; exact a2.1, by rw [q3, q4, q5]; exact a2.2⟩
    · exact cpC_ok q3 (a3 _ (by omega))
  · rcases hK with ⟨q1, q2, q3, q4, q5⟩ | ⟨q1, q2, q3⟩
    · exact Or.inr ⟨a1, by rw [q5]; exact a2, by omega, a4⟩
    · omega
theorem Rq_im {kc ic ic1 tr tr1 len fa fat : Int} {bt : Nat → Int32} {N Z C1 : CT} {kn im : Nat → CT} {b b1 : Bool} {wh wh1 tp fm imn imn1 : Int} {bm : Nat → Int32} (h : Rq kc ic tr len fa fat bt N kn im b wh tp fm imn bm) (h1 : tr1 ≠ 4) (h2 : wh1 = -1) (hb : b = b1) (hZ : Z = im (if ic < 3 then ic.toNat else 0)) (hi : imn1 = ic1) (hK : ((N.1 3).toInt ≤ 0 ∧ ic1 = ic) ∨ (0 < (N.1 3).toInt ∧ ic = 3 ∧ ic1 = ic ∧ C1.1 1 = Z.1 1 ∧ C1.1 2 = Z.1 2 ∧ C1.1 3 = Z.1 3) ∨ (0 < (N.1 3).toInt ∧ ic < 3 ∧ ic1 = ic + 1 ∧ cpC N C1)) : Rq kc ic1 tr1 len fa fat bt N kn (upC im (if ic < 3 then ic.toNat else 0) C1) b1 wh1 tp fm imn1 bm := by
  subst hb
  obtain ⟨g1, g2, g3, g4⟩ := h
  refine ⟨g1, ⟨fun q => absurd q h1, fun _ => h2⟩, by omega, ?_⟩
  rcases g4 with ⟨a1, a2, a3, a4⟩ | ⟨a1, a2, a3, a4⟩
  · refine Or.inl ⟨a1, a2, a3, fun k hk => ?_⟩
    rcases hK with q | ⟨q1, q2, q3, q4⟩ | ⟨q1, q2, q3, q4⟩
    · exact absurd a2.1 (by omega)
    · rw [if_neg (show ¬ ic < 3 by omega)] at hZ ⊢
      rw [hZ] at q4
      exact sm_f q4 k (a4 k (by omega))
    · rw [if_pos q2]
      by_cases hq : k = ic.toNat
      · rw [hq, upC_eq]; exact cpC_ok q4 a2
      · rw [upC_ne im C1 hq]; exact a4 k (by omega)
  · rcases hK with q | q | q
    · exact Or.inr ⟨a1, a2, a3, by omega⟩
    · omega
    · omega
theorem Rq_ba {kc kc1 ic tr tr1 len fa fat p : Int} {i : Nat} {bt : Nat → Int32} {N N1 Z : CT} {kn im : Nat → CT} {b b1 : Bool} {wh wh1 tp fm imn : Int} {bm : Nat → Int32} (h : Rq kc ic tr len fa fat bt N kn im b wh tp fm imn bm) (h1 : tr1 ≠ 4) (h2 : wh1 = -1) (hb : b = b1) (hZ : Z = im i) (hi : 0 ≤ p → p < 3 → i = p.toNat) (hK : ((p < 0 ∨ ic ≤ p) ∧ kc1 = kc ∧ N1.1 1 = N.1 1 ∧ N1.1 2 = N.1 2 ∧ N1.1 3 = N.1 3) ∨ (0 ≤ p ∧ p < ic ∧ kc1 = 0 ∧ cpC Z N1)) : Rq kc1 ic tr1 len fa fat bt N1 kn (upC im i Z) b1 wh1 tp fm imn bm := by
  subst hb
  rw [hZ, upC_self]
  rw [hZ] at hK
  obtain ⟨g1, g2, g3, g4⟩ := h
  refine ⟨g1, ⟨fun q => absurd q h1, fun _ => h2⟩, by omega, ?_⟩
  rcases g4 with ⟨a1, a2, a3, a4⟩ | ⟨a1, a2, a3, a4⟩
  · refine Or.inl ⟨a1, ?_, fun k hk => a3 k (by omega), a4⟩
    rcases hK with ⟨q1, q2, q3, q4, q5⟩ | ⟨q1, q2, q3, q4⟩
    · exact ⟨by rw [q5]; exact a2.1, by rw [q3, q4, q5]; exact a2.2⟩
    · have e := hi q1 (by omega)
      exact cpC_ok q4 (a4 i (by omega))
  · rcases hK with ⟨q1, q2, q3, q4, q5⟩ | ⟨q1, q2, q3, q4⟩
    · exact Or.inr ⟨a1, by rw [q5]; exact a2, by omega, a4⟩
    · omega
theorem Rq_pk {kc kc1 ic ic1 tr tr1 len len1 fa fa1 fat fat1 p r r' : Int} {bt : Nat → Int32} {N N1 : CT} {kn im : Nat → CT} {b b1 : Bool} {wh wh1 tp tp1 fm fm1 imn imn1 : Int} {bm : Nat → Int32} (h : Rq kc ic tr len fa fat bt N kn im b wh tp fm imn bm)
    (c1 : ((p < 0 ∨ len < p) ∧ len1 = len) ∨ (0 ≤ p ∧ p ≤ len ∧ len1 = 0)) (c2 : 0 ≤ p → p ≤ len → paQ bt p r fa1) (c3 : (p < 0 ∨ len < p) → r = -1 ∧ fa1 = fa)
    (c4 : (r = -1 ∧ tr1 = 2 ∧ (p < 0 ∨ len < p) ∧ fat1 = fat ∧ kc1 = kc ∧ ic1 = ic ∧ N1.1 1 = N.1 1 ∧ N1.1 2 = N.1 2 ∧ N1.1 3 = N.1 3) ∨ (r = -1 ∧ tr1 = 4 ∧ 0 ≤ p ∧ p ≤ len ∧ (rdA bt p).2.1 ≠ 0 ∧ fat1 = tS bt p (rdA bt p).2.2 ∧ kc1 = kc ∧ ic1 = ic ∧ N1.1 1 = N.1 1 ∧ N1.1 2 = N.1 2 ∧ N1.1 3 = N.1 3) ∨ (tr1 = 0 ∧ 0 ≤ p ∧ p ≤ len ∧ (rdA bt p).2.1 = 0 ∧ kc1 = 0 ∧ ic1 = 0 ∧ r = (N1.1 3).toInt ∧ (N1.1 3).toInt = (N1.1 1).toInt * (N1.1 2).toInt))
    (hm : (¬ (0 ≤ p ∧ p ≤ tp) ∧ r' = -1 ∧ wh1 = -1 ∧ tp1 = tp ∧ fm1 = fm ∧ imn1 = imn ∧ b1 = b) ∨ ((0 ≤ p ∧ p ≤ tp) ∧ tp1 = 0 ∧ (bys bm → paQ bm p r' fm1) ∧ (bys bm → paW bm p fm1 wh1) ∧ ((b1 = b ∧ imn1 = imn ∧ 0 < fm1) ∨ (b1 = true ∧ imn1 = 0 ∧ fm1 ≤ 0 ∧ wh1 = -1 ∧ 4 ≤ r')))) : Rq kc1 ic1 tr1 len1 fa1 fat1 bt N1 kn im b1 wh1 tp1 fm1 imn1 bm ∧ r = r' := by
  obtain ⟨⟨g1, g2, g3, g4⟩, ⟨g5, g6⟩, g7, g8⟩ := h
  subst g2
  have same : kc1 = kc → ic1 = ic → b1 = b → N1.1 1 = N.1 1 → N1.1 2 = N.1 2 → N1.1 3 = N.1 3 → ((b1 = true ∧ pOK N1 ∧ (∀ k : Nat, (k : Int) < kc1 → pOK (kn k)) ∧ ∀ k : Nat, (k : Int) < ic1 → pOK (im k)) ∨ (b1 = false ∧ (N1.1 3).toInt ≤ 0 ∧ kc1 = 0 ∧ ic1 = 0)) := by
    intro e1 e2 e3 e4 e5 e6
    rw [e1, e2, e3]
    rcases g8 with ⟨a1, a2, a3, a4⟩ | ⟨a1, a2, a3, a4⟩
    · exact Or.inl ⟨a1, ⟨by rw [e6]; exact a2.1, by rw [e4, e5, e6]; exact a2.2⟩, a3, a4⟩
    · exact Or.inr ⟨a1, by rw [e6]; exact a2, a3, a4⟩
  rcases hm with ⟨m1, m2, m3, m4, m5, m6, m7⟩ | ⟨m1, m2, m3, m4, m5⟩
  · have n1 : p < 0 ∨ len < p := by omega
    obtain ⟨k1, k2⟩ := c3 n1
    rcases c4 with ⟨q1, q2, q3, q4, q5, q6, q7, q8, q9⟩ | ⟨q1, q2, q3, q4, -⟩ | ⟨q2, q3, q4, -⟩
    · exact ⟨⟨⟨by omega, rfl, g3, by omega⟩, ⟨fun z => by omega, fun _ => m3⟩, by omega, same q5 q6 m7 q7 q8 q9⟩, by omega⟩
    · omega
    · omega
  · have k0 := m3 g3
    have k1 := c2 m1.1 (by omega)
    have k3 := m4 g3
    have er : r = r' := k1.2.trans k0.2.symm
    have ef : fa1 = fm1 := k1.1.trans k0.1.symm
    refine ⟨?_, er⟩
    rcases c4 with ⟨q1, q2, q3, q4, q5, q6, q7, q8, q9⟩ | ⟨q1, q2, q3, q4, q5, q6, q7, q8, q9, q10, q11⟩ | ⟨q2, q3, q4, q5, q6, q7, q8, q9⟩
    · omega
    · obtain ⟨k4, k5⟩ := k3 q5
      rcases m5 with ⟨n1, n2, n3⟩ | ⟨n1, n2, n3, n4, n5⟩
      · exact ⟨⟨by omega, rfl, g3, ef⟩, ⟨fun _ => q6.trans k5.symm, fun z => absurd q2 z⟩, by omega, same q7 q8 n1 q9 q10 q11⟩
      · omega
    · have k6 := k0.1
      rcases m5 with ⟨n1, n2, n3⟩ | ⟨n1, n2, n3, n4, n5⟩
      · omega
      · refine ⟨⟨by omega, rfl, g3, ef⟩, ⟨fun z => by omega, fun _ => n4⟩, by omega, Or.inl ⟨n1, ⟨by omega, q9⟩, fun k hk => by omega, fun k hk => by omega⟩⟩
theorem st_place {K K1 : CS} {M M1 : MS} {r r' : Int32} (hR : R2 K M) (hc : PC_place K r K1) (hm : PM_place M r' M1) : R2 K1 M1 := by
  obtain ⟨u0, rfl, c0⟩ := hc
  rcases hm with ⟨hb, v0, rfl, d0⟩ | ⟨hb, v0, rfl, d0⟩
  · exact Rq_tr hR c0 d0 hb
  · exact Rq_tr hR c0 d0 hb
theorem st_walker {K K1 : CS} {M M1 : MS} {r r' : Int32} (hR : R2 K M) (hc : PC_walker K r K1) (hm : PM_walker M r' M1) : R2 K1 M1 := by
  obtain ⟨u0, rfl, c0⟩ := hc
  rcases hm with ⟨hb, v0, rfl, d0⟩ | ⟨hb, v0, rfl, d0⟩
  · exact Rq_tr hR c0 d0 hb
  · exact Rq_tr hR c0 d0 hb
theorem st_minutes {K K1 : CS} {M M1 : MS} {r r' : Int32} (hR : R2 K M) (hc : PC_minutes K r K1) (hm : PM_minutes M r' M1) : R2 K1 M1 := by
  obtain ⟨u0, rfl, c0⟩ := hc
  rcases hm with ⟨hb, v0, rfl, d0⟩ | ⟨hb, v0, rfl, d0⟩
  · exact Rq_tr hR c0 d0 hb
  · exact Rq_tr hR c0 d0 hb
theorem st_falls {K K1 : CS} {M M1 : MS} {r r' : Int32} (hR : R2 K M) (hc : PC_falls K r K1) (hm : PM_falls M r' M1) : R2 K1 M1 := by
  obtain ⟨u0, rfl, c0⟩ := hc
  rcases hm with ⟨hb, v0, rfl, d0⟩ | ⟨hb, v0, rfl, d0⟩
  · exact Rq_tr hR c0 d0 hb
  · exact Rq_tr hR c0 d0 hb
theorem st_all {K K1 : CS} {M M1 : MS} {r r' : Int32} (hR : R2 K M) (hc : PC_all K r K1) (hm : PM_all M r' M1) : R2 K1 M1 := by
  obtain ⟨u0, rfl, c0⟩ := hc
  rcases hm with ⟨hb, v0, rfl, d0⟩ | ⟨hb, v0, rfl, d0⟩
  · exact Rq_tr hR c0 d0 hb
  · exact Rq_tr hR c0 d0 hb
theorem st_quick {K K1 : CS} {M M1 : MS} {r r' : Int32} (hR : R2 K M) (hc : PC_quick K r K1) (hm : PM_quick M r' M1) : R2 K1 M1 := by
  obtain ⟨u0, rfl, c0⟩ := hc
  rcases hm with ⟨hb, v0, rfl, d0⟩ | ⟨hb, v0, rfl, d0⟩
  · exact Rq_tr hR c0 d0 hb
  · exact Rq_tr hR c0 d0 hb
theorem st_quickFalls {K K1 : CS} {M M1 : MS} {r r' : Int32} (hR : R2 K M) (hc : PC_quickFalls K r K1) (hm : PM_quickFalls M r' M1) : R2 K1 M1 := by
  obtain ⟨u0, rfl, c0⟩ := hc
  rcases hm with ⟨hb, v0, rfl, d0⟩ | ⟨hb, v0, rfl, d0⟩
  · exact Rq_tr hR c0 d0 hb
  · exact Rq_tr hR c0 d0 hb
theorem st_quickAt {K K1 : CS} {M M1 : MS} {r r' : Int32} (hR : R2 K M) (hc : PC_quickAt K r K1) (hm : PM_quickAt M r' M1) : R2 K1 M1 := by
  obtain ⟨u0, rfl, c0⟩ := hc
  rcases hm with ⟨hb, v0, rfl, d0⟩ | ⟨hb, v0, rfl, d0⟩
  · exact Rq_tr hR c0 d0 hb
  · exact Rq_tr hR c0 d0 hb
theorem st_dry {K K1 : CS} {M M1 : MS} {r r' : Int32} (hR : R2 K M) (hc : PC_dry K r K1) (hm : PM_dry M r' M1) : R2 K1 M1 := by
  obtain ⟨u0, rfl, c0⟩ := hc
  rcases hm with ⟨hb, v0, rfl, d0⟩ | ⟨hb, v0, rfl, d0⟩
  · exact Rq_tr hR c0 d0 hb
  · exact Rq_tr hR c0 d0 hb
theorem st_dryMinutes {K K1 : CS} {M M1 : MS} {r r' : Int32} (hR : R2 K M) (hc : PC_dryMinutes K r K1) (hm : PM_dryMinutes M r' M1) : R2 K1 M1 := by
  obtain ⟨u0, rfl, c0⟩ := hc
  rcases hm with ⟨hb, v0, rfl, d0⟩ | ⟨hb, v0, rfl, d0⟩
  · exact Rq_tr hR c0 d0 hb
  · exact Rq_tr hR c0 d0 hb
theorem st_dryAt {K K1 : CS} {M M1 : MS} {r r' : Int32} (hR : R2 K M) (hc : PC_dryAt K r K1) (hm : PM_dryAt M r' M1) : R2 K1 M1 := by
  obtain ⟨u0, rfl, c0⟩ := hc
  rcases hm with ⟨hb, v0, rfl, d0⟩ | ⟨hb, v0, rfl, d0⟩
  · exact Rq_tr hR c0 d0 hb
  · exact Rq_tr hR c0 d0 hb
theorem st_reach {K K1 : CS} {M M1 : MS} {r r' : Int32} (hR : R2 K M) (hc : PC_reach K r K1) (hm : PM_reach M r' M1) : R2 K1 M1 := by
  obtain ⟨u0, rfl, c0⟩ := hc
  rcases hm with ⟨hb, v0, rfl, d0⟩ | ⟨hb, v0, rfl, d0⟩
  · exact Rq_tr hR c0 d0 hb
  · exact Rq_tr hR c0 d0 hb
theorem st_reachIn {K K1 : CS} {M M1 : MS} {r r' : Int32} (hR : R2 K M) (hc : PC_reachIn K r K1) (hm : PM_reachIn M r' M1) : R2 K1 M1 := by
  obtain ⟨u0, rfl, c0⟩ := hc
  rcases hm with ⟨hb, v0, rfl, d0⟩ | ⟨hb, v0, rfl, d0⟩
  · exact Rq_tr hR c0 d0 hb
  · exact Rq_tr hR c0 d0 hb
theorem st_minutesTo {K K1 : CS} {M M1 : MS} {r r' : Int32} (hR : R2 K M) (hc : PC_minutesTo K r K1) (hm : PM_minutesTo M r' M1) : R2 K1 M1 := by
  obtain ⟨u0, rfl, c0⟩ := hc
  rcases hm with ⟨hb, v0, rfl, d0⟩ | ⟨hb, v0, rfl, d0⟩
  · exact Rq_tr hR c0 d0 hb
  · exact Rq_tr hR c0 d0 hb
theorem st_latest {K K1 : CS} {M M1 : MS} {r r' : Int32} (hR : R2 K M) (hc : PC_latest K r K1) (hm : PM_latest M r' M1) : R2 K1 M1 := by
  obtain ⟨u0, rfl, c0⟩ := hc
  rcases hm with ⟨hb, v0, rfl, d0⟩ | ⟨hb, v0, rfl, d0⟩
  · exact Rq_tr hR c0 d0 hb
  · exact Rq_tr hR c0 d0 hb
theorem st_cut {K K1 : CS} {M M1 : MS} {r r' : Int32} (hR : R2 K M) (hc : PC_cut K r K1) (hm : PM_cut M r' M1) : R2 K1 M1 := by
  obtain ⟨u0, rfl, c0⟩ := hc
  rcases hm with ⟨hb, v0, rfl, d0⟩ | ⟨hb, v0, rfl, d0⟩
  · exact Rq_tr hR c0 d0 hb
  · exact Rq_tr hR c0 d0 hb
theorem st_gates {K K1 : CS} {M M1 : MS} {r r' : Int32} (hR : R2 K M) (hc : PC_gates K r K1) (hm : PM_gates M r' M1) : R2 K1 M1 := by
  obtain ⟨u0, rfl, c0⟩ := hc
  rcases hm with ⟨hb, v0, rfl, d0⟩ | ⟨hb, v0, rfl, d0⟩
  · exact Rq_tr hR c0 d0 hb
  · exact Rq_tr hR c0 d0 hb
theorem st_toFill {K K1 : CS} {M M1 : MS} {r r' : Int32} (hR : R2 K M) (hc : PC_toFill K r K1) (hm : PM_toFill M r' M1) : R2 K1 M1 := by
  obtain ⟨u0, rfl, c0⟩ := hc
  rcases hm with ⟨hb, v0, rfl, d0⟩ | ⟨hb, v0, rfl, d0⟩
  · exact Rq_tr hR c0 d0 hb
  · exact Rq_tr hR c0 d0 hb
theorem st_trap {K K1 : CS} {M M1 : MS} {r r' : Int32} (hR : R2 K M) (hc : PC_trap K r K1) (hm : PM_trap M r' M1) : R2 K1 M1 := by
  obtain ⟨u0, rfl, c0⟩ := hc
  rcases hm with ⟨hb, v0, rfl, d0⟩ | ⟨hb, v0, rfl, d0⟩
  · exact Rq_tr hR c0 d0 hb
  · exact Rq_tr hR c0 d0 hb
theorem st_meet {K K1 : CS} {M M1 : MS} {r r' : Int32} (hR : R2 K M) (hc : PC_meet K r K1) (hm : PM_meet M r' M1) : R2 K1 M1 := by
  obtain ⟨u0, rfl, c0⟩ := hc
  rcases hm with ⟨hb, v0, rfl, d0⟩ | ⟨hb, v0, rfl, d0⟩
  · exact Rq_tr hR c0 d0 hb
  · exact Rq_tr hR c0 d0 hb
theorem st_meetAt {K K1 : CS} {M M1 : MS} {r r' : Int32} (hR : R2 K M) (hc : PC_meetAt K r K1) (hm : PM_meetAt M r' M1) : R2 K1 M1 := by
  obtain ⟨u0, rfl, c0⟩ := hc
  rcases hm with ⟨hb, v0, rfl, d0⟩ | ⟨hb, v0, rfl, d0⟩
  · exact Rq_tr hR c0 d0 hb
  · exact Rq_tr hR c0 d0 hb
theorem st_passers {K K1 : CS} {M M1 : MS} {r r' : Int32} (hR : R2 K M) (hc : PC_passers K r K1) (hm : PM_passers M r' M1) : R2 K1 M1 := by
  obtain ⟨u0, rfl, c0⟩ := hc
  rcases hm with ⟨hb, v0, rfl, d0⟩ | ⟨hb, v0, rfl, d0⟩
  · exact Rq_tr hR c0 d0 hb
  · exact Rq_tr hR c0 d0 hb
theorem st_fits {K K1 : CS} {M M1 : MS} {r r' : Int32} (hR : R2 K M) (hc : PC_fits K r K1) (hm : PM_fits M r' M1) : R2 K1 M1 := by
  obtain ⟨u0, rfl, c0⟩ := hc
  rcases hm with ⟨hb, v0, rfl, d0⟩ | ⟨hb, v0, rfl, d0⟩
  · exact Rq_tr hR c0 d0 hb
  · exact Rq_tr hR c0 d0 hb
theorem st_fitAt {K K1 : CS} {M M1 : MS} {p1 : Int32} {r r' : Int32} (hR : R2 K M) (hc : PC_fitAt K p1 r K1) (hm : PM_fitAt M p1 r' M1) : R2 K1 M1 := by
  obtain ⟨u0, rfl, c0, c1⟩ := hc
  rcases hm with ⟨hb, v0, rfl, d0, d1⟩ | ⟨hb, v0, rfl, d0, d1⟩
  · exact Rq_tr hR c1 d1 hb
  · exact Rq_tr hR c1 d1 hb
theorem st_odds {K K1 : CS} {M M1 : MS} {r r' : Int64} (hR : R2 K M) (hc : PC_odds K r K1) (hm : PM_odds M r' M1) : R2 K1 M1 := by
  obtain ⟨u0, rfl, c0⟩ := hc
  rcases hm with ⟨hb, v0, rfl, d0⟩ | ⟨hb, v0, rfl, d0⟩
  · exact Rq_tr hR c0 d0 hb
  · exact Rq_tr hR c0 d0 hb
theorem st_likeliest {K K1 : CS} {M M1 : MS} {r r' : Int32} (hR : R2 K M) (hc : PC_likeliest K r K1) (hm : PM_likeliest M r' M1) : R2 K1 M1 := by
  obtain ⟨u0, rfl, c0⟩ := hc
  rcases hm with ⟨hb, v0, rfl, d0⟩ | ⟨hb, v0, rfl, d0⟩
  · exact Rq_tr hR c0 d0 hb
  · exact Rq_tr hR c0 d0 hb
theorem st_tread {K K1 : CS} {M M1 : MS} {r r' : Int32} (hR : R2 K M) (hc : PC_tread K r K1) (hm : PM_tread M r' M1) : R2 K1 M1 := by
  obtain ⟨u0, rfl, c0⟩ := hc
  rcases hm with ⟨hb, v0, rfl, d0⟩ | ⟨hb, v0, rfl, d0⟩
  · exact Rq_tr hR c0 d0 hb
  · exact Rq_tr hR c0 d0 hb
theorem st_treadLeaves {K K1 : CS} {M M1 : MS} {r r' : Int32} (hR : R2 K M) (hc : PC_treadLeaves K r K1) (hm : PM_treadLeaves M r' M1) : R2 K1 M1 := by
  obtain ⟨u0, rfl, c0⟩ := hc
  rcases hm with ⟨hb, v0, rfl, d0⟩ | ⟨hb, v0, rfl, d0⟩
  · exact Rq_tr hR c0 d0 hb
  · exact Rq_tr hR c0 d0 hb
theorem st_judge {K K1 : CS} {M M1 : MS} {r r' : Int32} (hR : R2 K M) (hc : PC_judge K r K1) (hm : PM_judge M r' M1) : R2 K1 M1 := by
  obtain ⟨u0, rfl, c0⟩ := hc
  rcases hm with ⟨hb, v0, rfl, d0⟩ | ⟨hb, v0, rfl, d0⟩
  · exact Rq_tr hR c0 d0 hb
  · exact Rq_tr hR c0 d0 hb
theorem st_walkOdds {K K1 : CS} {M M1 : MS} {r r' : Int64} (hR : R2 K M) (hc : PC_walkOdds K r K1) (hm : PM_walkOdds M r' M1) : R2 K1 M1 := by
  obtain ⟨u0, rfl, c0⟩ := hc
  rcases hm with ⟨hb, v0, rfl, d0⟩ | ⟨hb, v0, rfl, d0⟩
  · exact Rq_tr hR c0 d0 hb
  · exact Rq_tr hR c0 d0 hb
theorem st_lies {K K1 : CS} {M M1 : MS} {r r' : Int32} (hR : R2 K M) (hc : PC_lies K r K1) (hm : PM_lies M r' M1) : R2 K1 M1 := by
  obtain ⟨u0, rfl, c0⟩ := hc
  rcases hm with ⟨hb, v0, rfl, d0⟩ | ⟨hb, v0, rfl, d0⟩
  · exact Rq_tr hR c0 d0 hb
  · exact Rq_tr hR c0 d0 hb
theorem st_rests {K K1 : CS} {M M1 : MS} {r r' : Int32} (hR : R2 K M) (hc : PC_rests K r K1) (hm : PM_rests M r' M1) : R2 K1 M1 := by
  obtain ⟨u0, rfl, c0⟩ := hc
  rcases hm with ⟨hb, v0, rfl, d0⟩ | ⟨hb, v0, rfl, d0⟩
  · exact Rq_tr hR c0 d0 hb
  · exact Rq_tr hR c0 d0 hb
theorem st_rest {K K1 : CS} {M M1 : MS} {r r' : Int32} (hR : R2 K M) (hc : PC_rest K r K1) (hm : PM_rest M r' M1) : R2 K1 M1 := by
  obtain ⟨u0, rfl, c0⟩ := hc
  rcases hm with ⟨hb, v0, rfl, d0⟩ | ⟨hb, v0, rfl, d0⟩
  · exact Rq_tr hR c0 d0 hb
  · exact Rq_tr hR c0 d0 hb
theorem st_fallOdds {K K1 : CS} {M M1 : MS} {r r' : Int64} (hR : R2 K M) (hc : PC_fallOdds K r K1) (hm : PM_fallOdds M r' M1) : R2 K1 M1 := by
  obtain ⟨u0, rfl, c0⟩ := hc
  rcases hm with ⟨hb, v0, rfl, d0⟩ | ⟨hb, v0, rfl, d0⟩
  · exact Rq_tr hR c0 d0 hb
  · exact Rq_tr hR c0 d0 hb
theorem st_mean {K K1 : CS} {M M1 : MS} {r r' : Int64} (hR : R2 K M) (hc : PC_mean K r K1) (hm : PM_mean M r' M1) : R2 K1 M1 := by
  obtain ⟨u0, rfl, c0⟩ := hc
  rcases hm with ⟨hb, v0, rfl, d0⟩ | ⟨hb, v0, rfl, d0⟩
  · exact Rq_tr hR c0 d0 hb
  · exact Rq_tr hR c0 d0 hb
theorem st_ramble {K K1 : CS} {M M1 : MS} {r r' : Int32} (hR : R2 K M) (hc : PC_ramble K r K1) (hm : PM_ramble M r' M1) : R2 K1 M1 := by
  obtain ⟨u0, rfl, c0⟩ := hc
  rcases hm with ⟨hb, v0, rfl, d0⟩ | ⟨hb, v0, rfl, d0⟩
  · exact Rq_tr hR c0 d0 hb
  · exact Rq_tr hR c0 d0 hb
theorem st_rambleFalls {K K1 : CS} {M M1 : MS} {r r' : Int32} (hR : R2 K M) (hc : PC_rambleFalls K r K1) (hm : PM_rambleFalls M r' M1) : R2 K1 M1 := by
  obtain ⟨u0, rfl, c0⟩ := hc
  rcases hm with ⟨hb, v0, rfl, d0⟩ | ⟨hb, v0, rfl, d0⟩
  · exact Rq_tr hR c0 d0 hb
  · exact Rq_tr hR c0 d0 hb
theorem st_strayed {K K1 : CS} {M M1 : MS} {r r' : Int32} (hR : R2 K M) (hc : PC_strayed K r K1) (hm : PM_strayed M r' M1) : R2 K1 M1 := by
  obtain ⟨u0, rfl, c0⟩ := hc
  rcases hm with ⟨hb, v0, rfl, d0⟩ | ⟨hb, v0, rfl, d0⟩
  · exact Rq_tr hR c0 d0 hb
  · exact Rq_tr hR c0 d0 hb
theorem st_fault {K K1 : CS} {M M1 : MS} {r r' : Int32} (hR : R2 K M) (hc : PC_fault K r K1) (hm : PM_fault M r' M1) : R2 K1 M1 := by
  obtain ⟨rfl, c0⟩ := hc
  rcases hm with ⟨hb, rfl, d0⟩ | ⟨hb, rfl, d0⟩
  · exact Rq_b hR hb
  · exact Rq_b hR hb
theorem st_where {K K1 : CS} {M M1 : MS} {r r' : Int32} (hR : R2 K M) (hc : PC_where K r K1) (hm : PM_where M r' M1) : R2 K1 M1 := by
  obtain ⟨rfl, c0⟩ := hc
  rcases hm with ⟨hb, rfl, d0⟩ | ⟨hb, rfl, d0⟩
  · exact Rq_b hR hb
  · exact Rq_b hR hb
theorem st_size {K K1 : CS} {M M1 : MS} {r r' : Int32} (hR : R2 K M) (hc : PC_size K r K1) (hm : PM_size M r' M1) : R2 K1 M1 := by
  obtain rfl := hc
  rcases hm with ⟨hb, rfl⟩ | ⟨hb, rfl⟩
  · exact Rq_b hR hb
  · exact Rq_b hR hb
theorem st_trouble {K K1 : CS} {M M1 : MS} {r r' : Int32} (hR : R2 K M) (hc : PC_trouble K r K1) (hm : PM_trouble M r' M1) : R2 K1 M1 := by
  obtain rfl := hc
  rcases hm with ⟨hb, rfl⟩ | ⟨hb, rfl⟩
  · exact Rq_b hR hb
  · exact Rq_b hR hb
theorem st_led {K : CS} {M M1 : MS} {r' : Int32} (hR : R2 K M) (hm : PM_led M r' M1) : R2 K M1 := by
  rcases hm with ⟨hb, rfl⟩ | ⟨hb, rfl⟩
  · exact Rq_b hR hb
  · exact Rq_b hR hb
theorem st_feed {K K1 : CS} {M M1 : MS} {p1 : Int32} {p2 : Int32} {p3 : Int32} {p4 : Int32} {p5 : Int32} {r r' : Int32} (hR : R2 K M) (hc : PC_feed K p1 p2 p3 p4 p5 r K1) (hm : PM_feed M p1 p2 p3 p4 p5 r' M1) : R2 K1 M1 := by
  obtain ⟨u0, u1, rfl, c0, c1, c2⟩ := hc
  rcases hm with ⟨hb, v0, v1, rfl, d0, d1, d2⟩ | ⟨hb, v0, v1, rfl, d0, d1, d2⟩
  · exact Rq_fe hR c0 c1 c2 d0 d1 d2 hb
  · exact Rq_fe hR c0 c1 c2 d0 d1 d2 hb
theorem an_feed {K K1 : CS} {M M1 : MS} {p1 : Int32} {p2 : Int32} {p3 : Int32} {p4 : Int32} {p5 : Int32} {r r' : Int32} (hR : R2 K M) (hc : PC_feed K p1 p2 p3 p4 p5 r K1) (hm : PM_feed M p1 p2 p3 p4 p5 r' M1) : r.toInt = r'.toInt := by
  obtain ⟨u0, u1, rfl, c0, c1, c2⟩ := hc
  rcases hm with ⟨hb, v0, v1, rfl, d0, d1, d2⟩ | ⟨hb, v0, v1, rfl, d0, d1, d2⟩
  · exact Rq_fr hR c0 d0
  · exact Rq_fr hR c0 d0
theorem an_fault {K K1 : CS} {M M1 : MS} {r r' : Int32} (hR : R2 K M) (hc : PC_fault K r K1) (hm : PM_fault M r' M1) : r.toInt = r'.toInt := by
  obtain ⟨rfl, c0⟩ := hc
  rcases hm with ⟨hb, rfl, d0⟩ | ⟨hb, rfl, d0⟩
  · exact by rw [c0, d0]; exact hR.1.2.2.2
  · exact by rw [c0, d0]; exact hR.1.2.2.2
theorem an_where {K K1 : CS} {M M1 : MS} {r r' : Int32} (hR : R2 K M) (hc : PC_where K r K1) (hm : PM_where M r' M1) : r.toInt = r'.toInt := by
  obtain ⟨rfl, c0⟩ := hc
  rcases hm with ⟨hb, rfl, d0⟩ | ⟨hb, rfl, d0⟩
  · exact Rq_wh hR c0 d0
  · exact Rq_wh hR c0 d0
theorem st_dig {K K1 : CS} {M M1 : MS} {p1 : Int32} {r r' : Int32} (hR : R2 K M) (hc : PC_dig K p1 r K1) (hm : PM_dig M p1 r' M1) : R2 K1 M1 := by
  rcases hm with ⟨hb, v0, v1, v2, v3, rfl, d0, d1⟩ | ⟨hb, v0, rfl, d0, d1⟩
  · rcases hc with ⟨hk, u0, u1, u2, z0, z1, z2, z3, z4, z5, z6, z7, Z, eZ, rfl, c0, c1⟩ | ⟨hk, u0, u1, z0, z1, z2, z3, z4, z5, z6, z7, Z, n1, eZ, rfl, c0, cm⟩
    · rcases c0 with ⟨e1, e2, -⟩ | ⟨e1, e2, e3, e4, e5, e6, -⟩
      · exact Rq_act hR c1 d1 hb ⟨rfl, rfl, rfl⟩ (Or.inl ⟨congrArg Int32.toInt e1, fun k hk9 h9 => sm_n k hk9 h9⟩)
      · exact Rq_act hR c1 d1 hb ⟨rfl, rfl, rfl⟩ (Or.inr ⟨(show 0 < (K.2.2.1.1 3).toInt by omega), (mkC z0 z1 z2 z3 0 0 0 0 0 0 0 0, mkD z4 z5 z6 z7 (fun _ => 0) (fun _ => 0) (fun _ => 0) (fun _ => 0) (fun _ => 0) (fun _ => 0) (fun _ => 0) (fun _ => 0)), nwC_cp e2, Or.inl ⟨hk, e1, rfl⟩⟩)
    · rcases cm with ⟨e1, e2, -⟩ | ⟨e1, e2, e3, e4, e5, e6, -⟩
      · have e9 := tup8 e2
        rw [eZ] at e9
        rw [e1]
        exact Rq_act hR c0 d1 hb ⟨rfl, rfl, rfl⟩ (Or.inl ⟨rfl, fun k _ h9 => sm_f (C1 := (mkC z0 z1 z2 z3 0 0 0 0 0 0 0 0, mkD z4 z5 z6 z7 (fun _ => 0) (fun _ => 0) (fun _ => 0) (fun _ => 0) (fun _ => 0) (fun _ => 0) (fun _ => 0) (fun _ => 0))) ⟨e9.1, e9.2.1, e9.2.2.1⟩ k h9⟩)
      · exact Rq_act hR c0 d1 hb ⟨rfl, rfl, rfl⟩ (Or.inr ⟨(show 0 < (K.2.2.1.1 3).toInt by omega), (mkC z0 z1 z2 z3 0 0 0 0 0 0 0 0, mkD z4 z5 z6 z7 (fun _ => 0) (fun _ => 0) (fun _ => 0) (fun _ => 0) (fun _ => 0) (fun _ => 0) (fun _ => 0) (fun _ => 0)), nwC_cp e2, Or.inr ⟨hk, hk, e1⟩⟩)
  · rcases hc with ⟨hk, u0, u1, u2, z0, z1, z2, z3, z4, z5, z6, z7, Z, eZ, rfl, c0, c1⟩ | ⟨hk, u0, u1, z0, z1, z2, z3, z4, z5, z6, z7, Z, n1, eZ, rfl, c0, cm⟩
    · rcases c0 with ⟨e1, e2, -⟩ | ⟨e1, e2, e3, e4, e5, e6, -⟩
      · exact Rq_act hR c1 d1 hb ⟨rfl, rfl, rfl⟩ (Or.inl ⟨congrArg Int32.toInt e1, fun k hk9 h9 => sm_n k hk9 h9⟩)
      · exact Rq_act hR c1 d1 hb ⟨rfl, rfl, rfl⟩ (Or.inr ⟨(show 0 < (K.2.2.1.1 3).toInt by omega), (mkC z0 z1 z2 z3 0 0 0 0 0 0 0 0, mkD z4 z5 z6 z7 (fun _ => 0) (fun _ => 0) (fun _ => 0) (fun _ => 0) (fun _ => 0) (fun _ => 0) (fun _ => 0) (fun _ => 0)), nwC_cp e2, Or.inl ⟨hk, e1, rfl⟩⟩)
    · rcases cm with ⟨e1, e2, -⟩ | ⟨e1, e2, e3, e4, e5, e6, -⟩
      · have e9 := tup8 e2
        rw [eZ] at e9
        rw [e1]
        exact Rq_act hR c0 d1 hb ⟨rfl, rfl, rfl⟩ (Or.inl ⟨rfl, fun k _ h9 => sm_f (C1 := (mkC z0 z1 z2 z3 0 0 0 0 0 0 0 0, mkD z4 z5 z6 z7 (fun _ => 0) (fun _ => 0) (fun _ => 0) (fun _ => 0) (fun _ => 0) (fun _ => 0) (fun _ => 0) (fun _ => 0))) ⟨e9.1, e9.2.1, e9.2.2.1⟩ k h9⟩)
      · exact Rq_act hR c0 d1 hb ⟨rfl, rfl, rfl⟩ (Or.inr ⟨(show 0 < (K.2.2.1.1 3).toInt by omega), (mkC z0 z1 z2 z3 0 0 0 0 0 0 0 0, mkD z4 z5 z6 z7 (fun _ => 0) (fun _ => 0) (fun _ => 0) (fun _ => 0) (fun _ => 0) (fun _ => 0) (fun _ => 0) (fun _ => 0)), nwC_cp e2, Or.inr ⟨hk, hk, e1⟩⟩)
theorem st_fill {K K1 : CS} {M M1 : MS} {p1 : Int32} {r r' : Int32} (hR : R2 K M) (hc : PC_fill K p1 r K1) (hm : PM_fill M p1 r' M1) : R2 K1 M1 := by
  rcases hm with ⟨hb, v0, v1, v2, v3, rfl, d0, d1⟩ | ⟨hb, v0, rfl, d0, d1⟩
  · rcases hc with ⟨hk, u0, u1, u2, z0, z1, z2, z3, z4, z5, z6, z7, Z, eZ, rfl, c0, c1⟩ | ⟨hk, u0, u1, z0, z1, z2, z3, z4, z5, z6, z7, Z, n1, eZ, rfl, c0, cm⟩
    · rcases c0 with ⟨e1, e2, -⟩ | ⟨e1, e2, e3, e4, e5, e6, -⟩
      · exact Rq_act hR c1 d1 hb ⟨rfl, rfl, rfl⟩ (Or.inl ⟨congrArg Int32.toInt e1, fun k hk9 h9 => sm_n k hk9 h9⟩)
      · exact Rq_act hR c1 d1 hb ⟨rfl, rfl, rfl⟩ (Or.inr ⟨(show 0 < (K.2.2.1.1 3).toInt by omega), (mkC z0 z1 z2 z3 0 0 0 0 0 0 0 0, mkD z4 z5 z6 z7 (fun _ => 0) (fun _ => 0) (fun _ => 0) (fun _ => 0) (fun _ => 0) (fun _ => 0) (fun _ => 0) (fun _ => 0)), nwC_cp e2, Or.inl ⟨hk, e1, rfl⟩⟩)
    · rcases cm with ⟨e1, e2, -⟩ | ⟨e1, e2, e3, e4, e5, e6, -⟩
      · have e9 := tup8 e2
        rw [eZ] at e9
        rw [e1]
        exact Rq_act hR c0 d1 hb ⟨rfl, rfl, rfl⟩ (Or.inl ⟨rfl, fun k _ h9 => sm_f (C1 := (mkC z0 z1 z2 z3 0 0 0 0 0 0 0 0, mkD z4 z5 z6 z7 (fun _ => 0) (fun _ => 0) (fun _ => 0) (fun _ => 0) (fun _ => 0) (fun _ => 0) (fun _ => 0) (fun _ => 0))) ⟨e9.1, e9.2.1, e9.2.2.1⟩ k h9⟩)
      · exact Rq_act hR c0 d1 hb ⟨rfl, rfl, rfl⟩ (Or.inr ⟨(show 0 < (K.2.2.1.1 3).toInt by omega), (mkC z0 z1 z2 z3 0 0 0 0 0 0 0 0, mkD z4 z5 z6 z7 (fun _ => 0) (fun _ => 0) (fun _ => 0) (fun _ => 0) (fun _ => 0) (fun _ => 0) (fun _ => 0) (fun _ => 0)), nwC_cp e2, Or.inr ⟨hk, hk, e1⟩⟩)
  · rcases hc with ⟨hk, u0, u1, u2, z0, z1, z2, z3, z4, z5, z6, z7, Z, eZ, rfl, c0, c1⟩ | ⟨hk, u0, u1, z0, z1, z2, z3, z4, z5, z6, z7, Z, n1, eZ, rfl, c0, cm⟩
    · rcases c0 with ⟨e1, e2, -⟩ | ⟨e1, e2, e3, e4, e5, e6, -⟩
      · exact Rq_act hR c1 d1 hb ⟨rfl, rfl, rfl⟩ (Or.inl ⟨congrArg Int32.toInt e1, fun k hk9 h9 => sm_n k hk9 h9⟩)
      · exact Rq_act hR c1 d1 hb ⟨rfl, rfl, rfl⟩ (Or.inr ⟨(show 0 < (K.2.2.1.1 3).toInt by omega), (mkC z0 z1 z2 z3 0 0 0 0 0 0 0 0, mkD z4 z5 z6 z7 (fun _ => 0) (fun _ => 0) (fun _ => 0) (fun _ => 0) (fun _ => 0) (fun _ => 0) (fun _ => 0) (fun _ => 0)), nwC_cp e2, Or.inl ⟨hk, e1, rfl⟩⟩)
    · rcases cm with ⟨e1, e2, -⟩ | ⟨e1, e2, e3, e4, e5, e6, -⟩
      · have e9 := tup8 e2
        rw [eZ] at e9
        rw [e1]
        exact Rq_act hR c0 d1 hb ⟨rfl, rfl, rfl⟩ (Or.inl ⟨rfl, fun k _ h9 => sm_f (C1 := (mkC z0 z1 z2 z3 0 0 0 0 0 0 0 0, mkD z4 z5 z6 z7 (fun _ => 0) (fun _ => 0) (fun _ => 0) (fun _ => 0) (fun _ => 0) (fun _ => 0) (fun _ => 0) (fun _ => 0))) ⟨e9.1, e9.2.1, e9.2.2.1⟩ k h9⟩)
      · exact Rq_act hR c0 d1 hb ⟨rfl, rfl, rfl⟩ (Or.inr ⟨(show 0 < (K.2.2.1.1 3).toInt by omega), (mkC z0 z1 z2 z3 0 0 0 0 0 0 0 0, mkD z4 z5 z6 z7 (fun _ => 0) (fun _ => 0) (fun _ => 0) (fun _ => 0) (fun _ => 0) (fun _ => 0) (fun _ => 0) (fun _ => 0)), nwC_cp e2, Or.inr ⟨hk, hk, e1⟩⟩)
theorem st_gate {K K1 : CS} {M M1 : MS} {p1 : Int32} {r r' : Int32} (hR : R2 K M) (hc : PC_gate K p1 r K1) (hm : PM_gate M p1 r' M1) : R2 K1 M1 := by
  rcases hm with ⟨hb, v0, v1, v2, v3, rfl, d0, d1⟩ | ⟨hb, v0, rfl, d0, d1⟩
  · rcases hc with ⟨hk, u0, u1, u2, z0, z1, z2, z3, z4, z5, z6, z7, Z, eZ, rfl, c0, c1⟩ | ⟨hk, u0, u1, z0, z1, z2, z3, z4, z5, z6, z7, Z, n1, eZ, rfl, c0, cm⟩
    · rcases c0 with ⟨e1, e2, -⟩ | ⟨e1, e2, e3, e4, e5, e6, -⟩
      · exact Rq_act hR c1 d1 hb ⟨rfl, rfl, rfl⟩ (Or.inl ⟨congrArg Int32.toInt e1, fun k hk9 h9 => sm_n k hk9 h9⟩)
      · exact Rq_act hR c1 d1 hb ⟨rfl, rfl, rfl⟩ (Or.inr ⟨(show 0 < (K.2.2.1.1 3).toInt by omega), (mkC z0 z1 z2 z3 0 0 0 0 0 0 0 0, mkD z4 z5 z6 z7 (fun _ => 0) (fun _ => 0) (fun _ => 0) (fun _ => 0) (fun _ => 0) (fun _ => 0) (fun _ => 0) (fun _ => 0)), nwC_cp e2, Or.inl ⟨hk, e1, rfl⟩⟩)
    · rcases cm with ⟨e1, e2, -⟩ | ⟨e1, e2, e3, e4, e5, e6, -⟩
      · have e9 := tup8 e2
        rw [eZ] at e9
        rw [e1]
        exact Rq_act hR c0 d1 hb ⟨rfl, rfl, rfl⟩ (Or.inl ⟨rfl, fun k _ h9 => sm_f (C1 := (mkC z0 z1 z2 z3 0 0 0 0 0 0 0 0, mkD z4 z5 z6 z7 (fun _ => 0) (fun _ => 0) (fun _ => 0) (fun _ => 0) (fun _ => 0) (fun _ => 0) (fun _ => 0) (fun _ => 0))) ⟨e9.1, e9.2.1, e9.2.2.1⟩ k h9⟩)
      · exact Rq_act hR c0 d1 hb ⟨rfl, rfl, rfl⟩ (Or.inr ⟨(show 0 < (K.2.2.1.1 3).toInt by omega), (mkC z0 z1 z2 z3 0 0 0 0 0 0 0 0, mkD z4 z5 z6 z7 (fun _ => 0) (fun _ => 0) (fun _ => 0) (fun _ => 0) (fun _ => 0) (fun _ => 0) (fun _ => 0) (fun _ => 0)), nwC_cp e2, Or.inr ⟨hk, hk, e1⟩⟩)
  · rcases hc with ⟨hk, u0, u1, u2, z0, z1, z2, z3, z4, z5, z6, z7, Z, eZ, rfl, c0, c1⟩ | ⟨hk, u0, u1, z0, z1, z2, z3, z4, z5, z6, z7, Z, n1, eZ, rfl, c0, cm⟩
    · rcases c0 with ⟨e1, e2, -⟩ | ⟨e1, e2, e3, e4, e5, e6, -⟩
      · exact Rq_act hR c1 d1 hb ⟨rfl, rfl, rfl⟩ (Or.inl ⟨congrArg Int32.toInt e1, fun k hk9 h9 => sm_n k hk9 h9⟩)
      · exact Rq_act hR c1 d1 hb ⟨rfl, rfl, rfl⟩ (Or.inr ⟨(show 0 < (K.2.2.1.1 3).toInt by omega), (mkC z0 z1 z2 z3 0 0 0 0 0 0 0 0, mkD z4 z5 z6 z7 (fun _ => 0) (fun _ => 0) (fun _ => 0) (fun _ => 0) (fun _ => 0) (fun _ => 0) (fun _ => 0) (fun _ => 0)), nwC_cp e2, Or.inl ⟨hk, e1, rfl⟩⟩)
    · rcases cm with ⟨e1, e2, -⟩ | ⟨e1, e2, e3, e4, e5, e6, -⟩
      · have e9 := tup8 e2
        rw [eZ] at e9
        rw [e1]
        exact Rq_act hR c0 d1 hb ⟨rfl, rfl, rfl⟩ (Or.inl ⟨rfl, fun k _ h9 => sm_f (C1 := (mkC z0 z1 z2 z3 0 0 0 0 0 0 0 0, mkD z4 z5 z6 z7 (fun _ => 0) (fun _ => 0) (fun _ => 0) (fun _ => 0) (fun _ => 0) (fun _ => 0) (fun _ => 0) (fun _ => 0))) ⟨e9.1, e9.2.1, e9.2.2.1⟩ k h9⟩)
      · exact Rq_act hR c0 d1 hb ⟨rfl, rfl, rfl⟩ (Or.inr ⟨(show 0 < (K.2.2.1.1 3).toInt by omega), (mkC z0 z1 z2 z3 0 0 0 0 0 0 0 0, mkD z4 z5 z6 z7 (fun _ => 0) (fun _ => 0) (fun _ => 0) (fun _ => 0) (fun _ => 0) (fun _ => 0) (fun _ => 0) (fun _ => 0)), nwC_cp e2, Or.inr ⟨hk, hk, e1⟩⟩)
theorem st_hedge {K K1 : CS} {M M1 : MS} {p1 : Int32} {r r' : Int32} (hR : R2 K M) (hc : PC_hedge K p1 r K1) (hm : PM_hedge M p1 r' M1) : R2 K1 M1 := by
  rcases hm with ⟨hb, v0, v1, v2, v3, rfl, d0, d1⟩ | ⟨hb, v0, rfl, d0, d1⟩
  · rcases hc with ⟨hk, u0, u1, u2, z0, z1, z2, z3, z4, z5, z6, z7, Z, eZ, rfl, c0, c1⟩ | ⟨hk, u0, u1, z0, z1, z2, z3, z4, z5, z6, z7, Z, n1, eZ, rfl, c0, cm⟩
    · rcases c0 with ⟨e1, e2, -⟩ | ⟨e1, e2, e3, e4, e5, e6, -⟩
      · exact Rq_act hR c1 d1 hb ⟨rfl, rfl, rfl⟩ (Or.inl ⟨congrArg Int32.toInt e1, fun k hk9 h9 => sm_n k hk9 h9⟩)
      · exact Rq_act hR c1 d1 hb ⟨rfl, rfl, rfl⟩ (Or.inr ⟨(show 0 < (K.2.2.1.1 3).toInt by omega), (mkC z0 z1 z2 z3 0 0 0 0 0 0 0 0, mkD z4 z5 z6 z7 (fun _ => 0) (fun _ => 0) (fun _ => 0) (fun _ => 0) (fun _ => 0) (fun _ => 0) (fun _ => 0) (fun _ => 0)), nwC_cp e2, Or.inl ⟨hk, e1, rfl⟩⟩)
    · rcases cm with ⟨e1, e2, -⟩ | ⟨e1, e2, e3, e4, e5, e6, -⟩
      · have e9 := tup8 e2
        rw [eZ] at e9
        rw [e1]
        exact Rq_act hR c0 d1 hb ⟨rfl, rfl, rfl⟩ (Or.inl ⟨rfl, fun k _ h9 => sm_f (C1 := (mkC z0 z1 z2 z3 0 0 0 0 0 0 0 0, mkD z4 z5 z6 z7 (fun _ => 0) (fun _ => 0) (fun _ => 0) (fun _ => 0) (fun _ => 0) (fun _ => 0) (fun _ => 0) (fun _ => 0))) ⟨e9.1, e9.2.1, e9.2.2.1⟩ k h9⟩)
      · exact Rq_act hR c0 d1 hb ⟨rfl, rfl, rfl⟩ (Or.inr ⟨(show 0 < (K.2.2.1.1 3).toInt by omega), (mkC z0 z1 z2 z3 0 0 0 0 0 0 0 0, mkD z4 z5 z6 z7 (fun _ => 0) (fun _ => 0) (fun _ => 0) (fun _ => 0) (fun _ => 0) (fun _ => 0) (fun _ => 0) (fun _ => 0)), nwC_cp e2, Or.inr ⟨hk, hk, e1⟩⟩)
  · rcases hc with ⟨hk, u0, u1, u2, z0, z1, z2, z3, z4, z5, z6, z7, Z, eZ, rfl, c0, c1⟩ | ⟨hk, u0, u1, z0, z1, z2, z3, z4, z5, z6, z7, Z, n1, eZ, rfl, c0, cm⟩
    · rcases c0 with ⟨e1, e2, -⟩ | ⟨e1, e2, e3, e4, e5, e6, -⟩
      · exact Rq_act hR c1 d1 hb ⟨rfl, rfl, rfl⟩ (Or.inl ⟨congrArg Int32.toInt e1, fun k hk9 h9 => sm_n k hk9 h9⟩)
      · exact Rq_act hR c1 d1 hb ⟨rfl, rfl, rfl⟩ (Or.inr ⟨(show 0 < (K.2.2.1.1 3).toInt by omega), (mkC z0 z1 z2 z3 0 0 0 0 0 0 0 0, mkD z4 z5 z6 z7 (fun _ => 0) (fun _ => 0) (fun _ => 0) (fun _ => 0) (fun _ => 0) (fun _ => 0) (fun _ => 0) (fun _ => 0)), nwC_cp e2, Or.inl ⟨hk, e1, rfl⟩⟩)
    · rcases cm with ⟨e1, e2, -⟩ | ⟨e1, e2, e3, e4, e5, e6, -⟩
      · have e9 := tup8 e2
        rw [eZ] at e9
        rw [e1]
        exact Rq_act hR c0 d1 hb ⟨rfl, rfl, rfl⟩ (Or.inl ⟨rfl, fun k _ h9 => sm_f (C1 := (mkC z0 z1 z2 z3 0 0 0 0 0 0 0 0, mkD z4 z5 z6 z7 (fun _ => 0) (fun _ => 0) (fun _ => 0) (fun _ => 0) (fun _ => 0) (fun _ => 0) (fun _ => 0) (fun _ => 0))) ⟨e9.1, e9.2.1, e9.2.2.1⟩ k h9⟩)
      · exact Rq_act hR c0 d1 hb ⟨rfl, rfl, rfl⟩ (Or.inr ⟨(show 0 < (K.2.2.1.1 3).toInt by omega), (mkC z0 z1 z2 z3 0 0 0 0 0 0 0 0, mkD z4 z5 z6 z7 (fun _ => 0) (fun _ => 0) (fun _ => 0) (fun _ => 0) (fun _ => 0) (fun _ => 0) (fun _ => 0) (fun _ => 0)), nwC_cp e2, Or.inr ⟨hk, hk, e1⟩⟩)
theorem st_step {K K1 : CS} {M M1 : MS} {p1 : Int32} {p2 : Int32} {r r' : Int32} (hR : R2 K M) (hc : PC_step K p1 p2 r K1) (hm : PM_step M p1 p2 r' M1) : R2 K1 M1 := by
  rcases hm with ⟨hb, v0, v1, v2, v3, rfl, d0, d1⟩ | ⟨hb, v0, rfl, d0, d1⟩
  · rcases hc with ⟨hk, u0, u1, u2, u3, u4, z0, z1, z2, z3, z4, z5, z6, z7, Z, eZ, rfl, c0, c1, c2⟩ | ⟨hk, u0, u1, u2, u3, z0, z1, z2, z3, z4, z5, z6, z7, Z, n1, eZ, rfl, c0, c1, cm⟩
    · rcases c1 with ⟨e1, e2, -⟩ | ⟨e1, e2, e3, e4⟩
      · exact Rq_act hR c2 d1 hb ⟨rfl, rfl, rfl⟩ (Or.inl ⟨congrArg Int32.toInt e1, fun k hk9 h9 => sm_n k hk9 h9⟩)
      · exact Rq_act hR c2 d1 hb ⟨rfl, rfl, rfl⟩ (Or.inr ⟨e4, (mkC z0 z1 z2 z3 0 0 0 0 0 0 0 0, mkD z4 z5 z6 z7 (fun _ => 0) (fun _ => 0) (fun _ => 0) (fun _ => 0) (fun _ => 0) (fun _ => 0) (fun _ => 0) (fun _ => 0)), nwC_cp e2, Or.inl ⟨hk, e1, rfl⟩⟩)
    · rcases cm with ⟨e1, e2, -⟩ | ⟨e1, e2, e3, e4⟩
      · have e9 := tup8 e2
        rw [eZ] at e9
        rw [e1]
        exact Rq_act hR c1 d1 hb ⟨rfl, rfl, rfl⟩ (Or.inl ⟨rfl, fun k _ h9 => sm_f (C1 := (mkC z0 z1 z2 z3 0 0 0 0 0 0 0 0, mkD z4 z5 z6 z7 (fun _ => 0) (fun _ => 0) (fun _ => 0) (fun _ => 0) (fun _ => 0) (fun _ => 0) (fun _ => 0) (fun _ => 0))) ⟨e9.1, e9.2.1, e9.2.2.1⟩ k h9⟩)
      · exact Rq_act hR c1 d1 hb ⟨rfl, rfl, rfl⟩ (Or.inr ⟨e4, (mkC z0 z1 z2 z3 0 0 0 0 0 0 0 0, mkD z4 z5 z6 z7 (fun _ => 0) (fun _ => 0) (fun _ => 0) (fun _ => 0) (fun _ => 0) (fun _ => 0) (fun _ => 0) (fun _ => 0)), nwC_cp e2, Or.inr ⟨hk, hk, e1⟩⟩)
  · rcases hc with ⟨hk, u0, u1, u2, u3, u4, z0, z1, z2, z3, z4, z5, z6, z7, Z, eZ, rfl, c0, c1, c2⟩ | ⟨hk, u0, u1, u2, u3, z0, z1, z2, z3, z4, z5, z6, z7, Z, n1, eZ, rfl, c0, c1, cm⟩
    · rcases c1 with ⟨e1, e2, -⟩ | ⟨e1, e2, e3, e4⟩
      · exact Rq_act hR c2 d1 hb ⟨rfl, rfl, rfl⟩ (Or.inl ⟨congrArg Int32.toInt e1, fun k hk9 h9 => sm_n k hk9 h9⟩)
      · exact Rq_act hR c2 d1 hb ⟨rfl, rfl, rfl⟩ (Or.inr ⟨e4, (mkC z0 z1 z2 z3 0 0 0 0 0 0 0 0, mkD z4 z5 z6 z7 (fun _ => 0) (fun _ => 0) (fun _ => 0) (fun _ => 0) (fun _ => 0) (fun _ => 0) (fun _ => 0) (fun _ => 0)), nwC_cp e2, Or.inl ⟨hk, e1, rfl⟩⟩)
    · rcases cm with ⟨e1, e2, -⟩ | ⟨e1, e2, e3, e4⟩
      · have e9 := tup8 e2
        rw [eZ] at e9
        rw [e1]
        exact Rq_act hR c1 d1 hb ⟨rfl, rfl, rfl⟩ (Or.inl ⟨rfl, fun k _ h9 => sm_f (C1 := (mkC z0 z1 z2 z3 0 0 0 0 0 0 0 0, mkD z4 z5 z6 z7 (fun _ => 0) (fun _ => 0) (fun _ => 0) (fun _ => 0) (fun _ => 0) (fun _ => 0) (fun _ => 0) (fun _ => 0))) ⟨e9.1, e9.2.1, e9.2.2.1⟩ k h9⟩)
      · exact Rq_act hR c1 d1 hb ⟨rfl, rfl, rfl⟩ (Or.inr ⟨e4, (mkC z0 z1 z2 z3 0 0 0 0 0 0 0 0, mkD z4 z5 z6 z7 (fun _ => 0) (fun _ => 0) (fun _ => 0) (fun _ => 0) (fun _ => 0) (fun _ => 0) (fun _ => 0) (fun _ => 0)), nwC_cp e2, Or.inr ⟨hk, hk, e1⟩⟩)
theorem st_undo {K K1 : CS} {M M1 : MS} {r r' : Int32} (hR : R2 K M) (hc : PC_undo K r K1) (hm : PM_undo M r' M1) : R2 K1 M1 := by
  obtain ⟨u0, u1, u2, u3, u4, u5, u6, u7, u8, u9, Z, eZ, rfl, c0, c1⟩ := hc
  have hK : ((K.1 0).toInt = 0 ∧ u8.toInt = (K.1 0).toInt ∧ u0 = K.2.2.1.1 1 ∧ u1 = K.2.2.1.1 2 ∧ u2 = K.2.2.1.1 3) ∨ (0 < (K.1 0).toInt ∧ u8.toInt = (K.1 0).toInt - 1 ∧ u0 = Z.1 1 ∧ u1 = Z.1 2 ∧ u2.toInt = (Z.1 1).toInt * (Z.1 2).toInt) := by
    rcases c0 with ⟨e1, e2, e3, e4, e5⟩ | ⟨e1, e2, e3, e4, e5⟩
    · have e9 := tup8 e5
      exact Or.inl ⟨e1, by rw [e4], e9.1, e9.2.1, e9.2.2.1⟩
    · exact Or.inr ⟨e1, e4, nwC_cp e5⟩
  rcases hm with ⟨hb, v0, v1, v2, rfl, d0, d1⟩ | ⟨hb, v0, rfl, d0, d1⟩
  · exact Rq_un hR c1 d1 hb eZ hK
  · exact Rq_un hR c1 d1 hb eZ hK
theorem st_image {K K1 : CS} {M M1 : MS} {r r' : Int32} (hR : R2 K M) (hc : PC_image K r K1) (hm : PM_image M r' M1) : R2 K1 M1 := by
  obtain ⟨u0, u1, z0, z1, z2, z3, z4, z5, z6, z7, Z, eZ, rfl, c0, c1⟩ := hc
  have hK : ((K.2.2.1.1 3).toInt ≤ 0 ∧ u0.toInt = (K.1 1).toInt) ∨ (0 < (K.2.2.1.1 3).toInt ∧ (K.1 1).toInt = 3 ∧ u0.toInt = (K.1 1).toInt ∧ z1 = Z.1 1 ∧ z2 = Z.1 2 ∧ z3 = Z.1 3) ∨ (0 < (K.2.2.1.1 3).toInt ∧ (K.1 1).toInt < 3 ∧ u0.toInt = (K.1 1).toInt + 1 ∧ z1 = K.2.2.1.1 1 ∧ z2 = K.2.2.1.1 2 ∧ z3.toInt = (K.2.2.1.1 1).toInt * (K.2.2.1.1 2).toInt) := by
    rcases c0 with ⟨e1, e2, e3, e4, -⟩ | ⟨e1, e2, e3, e4, e5, e6⟩ | ⟨e1, e2, e3, e4, e5, e6⟩
    · exact Or.inl ⟨e1, by rw [e4]⟩
    · have e9 := tup8 e6
      exact Or.inr (Or.inl ⟨e1, e2, by rw [e5], e9.1, e9.2.1, e9.2.2.1⟩)
    · exact Or.inr (Or.inr ⟨e1, e2, e5, nwC_cp e6⟩)
  have hN := Rq_ct hR
  have hi := hR.2.2.1.2.2.2.2
  rcases hm with ⟨hb, v0, v1, v2, rfl, d0, d1, d2⟩ | ⟨hb, v0, rfl, d0, d1⟩
  · have h9 := hN.1 hb
    refine Rq_im (ic1 := u0.toInt) (imn1 := v2.toInt) hR c1 d2 hb eZ ?_ hK
    rcases d0 with ⟨e1, e2, e3⟩ | ⟨e1, e2, e3⟩
    · rw [e3]; rcases hK with q | q | q <;> omega
    · rcases hK with q | q | q <;> omega
  · have h9 := hN.2 hb
    refine Rq_im (ic1 := u0.toInt) (imn1 := (M.2.1 3).toInt) hR c1 d1 hb eZ ?_ hK
    rcases hK with q | q | q <;> omega
theorem an_image {K K1 : CS} {M M1 : MS} {r r' : Int32} (hR : R2 K M) (hc : PC_image K r K1) (hm : PM_image M r' M1) : r.toInt = r'.toInt := by
  have hN := Rq_ct hR
  have hi := hR.2.2.1
  have hz := hR.2.2.2
  obtain ⟨u0, u1, z0, z1, z2, z3, z4, z5, z6, z7, Z, eZ, rfl, c0, c1⟩ := hc
  rcases hm with ⟨hb, v0, v1, v2, rfl, d0, d1, d2⟩ | ⟨hb, v0, rfl, d0, d1⟩
  · have h9 := hN.1 hb
    have hi5 := hi.2.2.2.2
    rcases c0 with ⟨e1, e2, -⟩ | ⟨e1, e2, e3, -⟩ | ⟨e1, e2, e3, -⟩ <;> rcases d0 with ⟨f1, f2, -⟩ | ⟨f1, f2, -⟩ <;> omega
  · have h9 := hN.2 hb
    rcases c0 with ⟨e1, e2, -⟩ | ⟨e1, e2, e3, -⟩ | ⟨e1, e2, e3, -⟩ <;> omega
theorem st_back {K K1 : CS} {M M1 : MS} {p1 : Int32} {r r' : Int32} (hR : R2 K M) (hc : PC_back K p1 r K1) (hm : PM_back M p1 r' M1) : R2 K1 M1 := by
  obtain ⟨u0, u1, u2, u3, u4, u5, u6, u7, u8, u9, Z, eZ, rfl, c0, c1⟩ := hc
  have hK : ((p1.toInt < 0 ∨ (K.1 1).toInt ≤ p1.toInt) ∧ u8.toInt = (K.1 0).toInt ∧ u0 = K.2.2.1.1 1 ∧ u1 = K.2.2.1.1 2 ∧ u2 = K.2.2.1.1 3) ∨ (0 ≤ p1.toInt ∧ p1.toInt < (K.1 1).toInt ∧ u8.toInt = 0 ∧ u0 = Z.1 1 ∧ u1 = Z.1 2 ∧ u2.toInt = (Z.1 1).toInt * (Z.1 2).toInt) := by
    rcases c0 with ⟨e1, e2, e3, e4, e5⟩ | ⟨e1, e2, e3, e4, e5, e6⟩
    · have e9 := tup8 e5
      exact Or.inl ⟨e1, by rw [e4], e9.1, e9.2.1, e9.2.2.1⟩
    · exact Or.inr ⟨e1, e2, e5, nwC_cp e6⟩
  rcases hm with ⟨hb, v0, v1, v2, rfl, d0, d1, d2⟩ | ⟨hb, v0, rfl, d0, d1⟩
  · exact Rq_ba (p := p1.toInt) hR c1 d2 hb eZ (fun h1 h2 => if_pos ⟨h1, h2⟩) hK
  · exact Rq_ba (p := p1.toInt) hR c1 d1 hb eZ (fun h1 h2 => if_pos ⟨h1, h2⟩) hK
theorem an_back {K K1 : CS} {M M1 : MS} {p1 : Int32} {r r' : Int32} (hR : R2 K M) (hc : PC_back K p1 r K1) (hm : PM_back M p1 r' M1) : r.toInt = r'.toInt := by
  have hN := Rq_ct hR
  have hi := hR.2.2.1
  have hz := hR.2.2.2
  obtain ⟨u0, u1, u2, u3, u4, u5, u6, u7, u8, u9, Z, eZ, rfl, c0, c1⟩ := hc
  rcases hm with ⟨hb, v0, v1, v2, rfl, d0, d1, d2⟩ | ⟨hb, v0, rfl, d0, d1⟩
  · have hi5 := hi.2.2.2.2
    rcases c0 with ⟨e1, e2, -⟩ | ⟨e1, e2, e3, -⟩ <;> rcases d0 with ⟨f1, f2⟩ | ⟨f1, f2⟩ <;> omega
  · have h0 : (K.1 1).toInt = 0 := by
      rcases hz with q | q
      · exact absurd (q.1.symm.trans hb) (by decide)
      · exact q.2.2.2
    have hj := d0
    rcases c0 with ⟨e1, e2, -⟩ | ⟨e1, e2, e3, -⟩ <;> omega
theorem pk_park {K K1 : CS} {M M1 : MS} {p1 : Int32} {r r' : Int32} (hR : R2 K M) (hc : PC_park K p1 r K1) (hm : PM_park M p1 r' M1) : R2 K1 M1 ∧ r.toInt = r'.toInt := by
  obtain ⟨u0, u1, u2, u3, u4, u5, u6, u7, u8, u9, u10, u11, u12, u13, T1, rfl, c0, c1, c2, c3, -⟩ := hc
  have hq : (r.toInt = -1 ∧ u13.toInt = 2 ∧ (p1.toInt < 0 ∨ (K.2.1.1 0).toInt < p1.toInt) ∧ u2.toInt = (K.2.1.1 2).toInt ∧ u11.toInt = (K.1 0).toInt ∧ u12.toInt = (K.1 1).toInt ∧ u3 = K.2.2.1.1 1 ∧ u4 = K.2.2.1.1 2 ∧ u5 = K.2.2.1.1 3) ∨ (r.toInt = -1 ∧ u13.toInt = 4 ∧ 0 ≤ p1.toInt ∧ p1.toInt ≤ (K.2.1.1 0).toInt ∧ (rdA (K.2.1.2 0) p1.toInt).2.1 ≠ 0 ∧ u2.toInt = tS (K.2.1.2 0) p1.toInt (rdA (K.2.1.2 0) p1.toInt).2.2 ∧ u11.toInt = (K.1 0).toInt ∧ u12.toInt = (K.1 1).toInt ∧ u3 = K.2.2.1.1 1 ∧ u4 = K.2.2.1.1 2 ∧ u5 = K.2.2.1.1 3) ∨ (u13.toInt = 0 ∧ 0 ≤ p1.toInt ∧ p1.toInt ≤ (K.2.1.1 0).toInt ∧ (rdA (K.2.1.2 0) p1.toInt).2.1 = 0 ∧ u11.toInt = 0 ∧ u12.toInt = 0 ∧ r.toInt = u5.toInt ∧ u5.toInt = u3.toInt * u4.toInt) := by
    rcases c3 with ⟨e1, e2, e3, e4, e5, e6, e7⟩ | ⟨e1, e2, e3, e4, e5, e6, e7, e8, e9⟩ | h9
    · have q := tup8 e7
      exact Or.inl ⟨e1, e2, e3, by rw [e4], by rw [e5], by rw [e6], q.1, q.2.1, q.2.2.1⟩
    · have q := tup8 e9
      exact Or.inr (Or.inl ⟨e1, e2, e3, e4, e5, e6, by rw [e7], by rw [e8], q.1, q.2.1, q.2.2.1⟩)
    · exact Or.inr (Or.inr h9)
  rcases hm with ⟨g1, g2, wh, g3, rfl⟩ | ⟨g1, b1, wh, tp, fa, im, ac, pw, pd, pe, pl, pk, pm, pu, vf, kf, tf, sf, uf, gf, hf, lf, rfl, g2, g3, g4, g5⟩
  · exact Rq_pk hR c0 c1 c2 hq (Or.inl ⟨g1, by rw [g2]; decide, g3, rfl, rfl, rfl, rfl⟩)
  · refine Rq_pk hR c0 c1 c2 hq (Or.inr ⟨g1, g2, g3, g4, ?_⟩)
    rcases g5 with ⟨k1, k2, k3, -⟩ | ⟨k1, k2, k3, k4, k5, -⟩
    · exact Or.inl ⟨k1, congrArg Int32.toInt k2, k3⟩
    · exact Or.inr ⟨k1, k2, k3, k4, k5⟩
theorem st_park {K K1 : CS} {M M1 : MS} {p1 : Int32} {r r' : Int32} (hR : R2 K M) (hc : PC_park K p1 r K1) (hm : PM_park M p1 r' M1) : R2 K1 M1 := (pk_park hR hc hm).1
theorem an_park {K K1 : CS} {M M1 : MS} {p1 : Int32} {r r' : Int32} (hR : R2 K M) (hc : PC_park K p1 r K1) (hm : PM_park M p1 r' M1) : r.toInt = r'.toInt := (pk_park hR hc hm).2
