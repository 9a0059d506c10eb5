/-- what is told so far: wide, deep, rows; unsure, walkers, walks; sorts; what GT holds -/
abbrev PSt := (Int × Int × Int) × (Int × Int × Int) × (Nat → Int32) × GT
def pW (P : PSt) : Int := P.1.1
def pD (P : PSt) : Int := P.1.2.1
def pR (P : PSt) : Int := P.1.2.2
def pUn (P : PSt) : Int := P.2.1.1
def pK (P : PSt) : Int := P.2.1.2.1
def pL (P : PSt) : Int := P.2.1.2.2
def pSo (P : PSt) : Nat → Int32 := P.2.2.1
def pG (P : PSt) : GT := P.2.2.2
def nR (f : Nat → Int32) (a b w : Int) (s : Nat → Int32) : Nat → Int32 := fun k => if b ≤ (k : Int) ∧ (k : Int) < b + w then Int32.ofInt (sL (f (a.toNat + (k - b.toNat))).toInt) else s k
def nG (g : GT) (k v kk a t : Int) : GT := ((fun j => if j = k.toNat then Int64.ofInt v else g.1 j), ((fun j => if j = k.toNat then Int32.ofInt kk else g.2.1.1 j), (fun j => if j = k.toNat then Int32.ofInt a else g.2.1.2.1 j), (fun j => if j = k.toNat then Int32.ofInt t else g.2.1.2.2 j)), g.2.2)
def gU (g : GT) (u : Nat → Int32) : GT := (g.1, g.2.1, g.2.2.1, (u, g.2.2.2.2))
def gW (g : GT) (k a s l : Int) : GT := (g.1, g.2.1, g.2.2.1, (g.2.2.2.1, (fun j => if j = k.toNat then Int32.ofInt a else g.2.2.2.2.1 j), (fun j => if j = k.toNat then Int32.ofInt s else g.2.2.2.2.2.1 j), (fun j => if j = k.toNat then Int32.ofInt l else g.2.2.2.2.2.2 j)))
def nE (g : GT) (e l : Int) : GT := (g.1, g.2.1, (e, l), g.2.2.2)
def P00 : PSt := ((0, 0, 0), (0, 0, 0), (fun _ => 0), ((fun _ => 0), ((fun _ => 0), (fun _ => 0), (fun _ => 0)), (0, 0), ((fun _ => 0), (fun _ => 0), (fun _ => 0), (fun _ => 0))))
noncomputable def lnσ (f : Nat → Int32) (n : Int) (P : PSt) (σ : Int × Int) : Int × Int := if lw f n σ.2 = 0 then fPk f n (pW P) σ else if lw f n σ.2 = 1 then fRw f n (pW P) (pD P) (pR P) (pUn P) σ else if lw f n σ.2 = 2 then fWk f n (pW P) (pD P) (pR P) (pK P) (pSo P) (pG P).1 σ else if lw f n σ.2 = 3 then fWl f n (pW P) (pD P) (pR P) (pL P) σ else fl 1 σ
noncomputable def lnP (f : Nat → Int32) (n : Int) (P : PSt) (σ : Int × Int) : PSt := if lw f n σ.2 = 0 then ((vWi f n (pW P) σ, vDe f n (pW P) σ, pR P), P.2.1, pSo P, nE (pG P) (vEr f n (pW P) σ) (vSl f n (pW P) σ)) else if lw f n σ.2 = 1 then ((pW P, pD P, pR P + 1), (pUn P + cu f (tS f n (go f n σ).2).toNat (pW P).toNat, pK P, pL P), nR f (tS f n (go f n σ).2) (pW P * pR P) (pW P) (pSo P), gU (pG P) (uU f (tS f n (go f n σ).2) (pW P * pR P) (pG P).2.2.2.1 (pUn P) (pW P).toNat)) else if lw f n σ.2 = 2 then (P.1, (pUn P, pK P + 1, pL P), pSo P, nG (pG P) (pK P) (tC f n (go f n σ).2) (kd f n (go f n (go f n σ)).2) (kA f n (pW P) σ) (kT f n (pW P) (pD P) σ)) else if lw f n σ.2 = 3 then (P.1, (pUn P, pK P, pL P + 1), pSo P, gW (pG P) (pL P) (kF f n (pW P) σ) (kS f n (pW P) (pD P) σ) (kL f n (pW P) (pD P) σ)) else P
noncomputable def rdE (f : Nat → Int32) (n : Int) (P : PSt) (σ : Int × Int) : Int × Int := ck (pW P ≤ 0 ∨ pR P < pD P) 6 (ck (tK f n σ.2 ≠ 4) 1 σ)
noncomputable def rdL (f : Nat → Int32) (n : Int) : Nat → PSt → Int × Int → PSt × (Int × Int)
  | 0, P, σ => (P, fl 1 σ)
  | k + 1, P, σ => @ite _ ((lnσ f n P σ).1 = 0 ∧ tK f n (lnσ f n P σ).2 = 3) (Classical.propDecidable _) (rdL f n k (lnP f n P σ) (go f n (lnσ f n P σ))) (lnP f n P σ, rdE f n (lnP f n P σ) (lnσ f n P σ))
theorem rdL_eq (f : Nat → Int32) (n : Int) (k : Nat) (P : PSt) (σ : Int × Int) : rdL f n (k + 1) P σ = @ite _ ((lnσ f n P σ).1 = 0 ∧ tK f n (lnσ f n P σ).2 = 3) (Classical.propDecidable _) (rdL f n k (lnP f n P σ) (go f n (lnσ f n P σ))) (lnP f n P σ, rdE f n (lnP f n P σ) (lnσ f n P σ)) := rfl
theorem rdL_go {f : Nat → Int32} {n : Int} {k : Nat} {P : PSt} {σ : Int × Int} (h : (lnσ f n P σ).1 = 0) (h3 : tK f n (lnσ f n P σ).2 = 3) : rdL f n (k + 1) P σ = rdL f n k (lnP f n P σ) (go f n (lnσ f n P σ)) := by
  rw [rdL_eq, if_pos ⟨h, h3⟩]
theorem rdL_st {f : Nat → Int32} {n : Int} {k : Nat} {P : PSt} {σ : Int × Int} (h : ¬ ((lnσ f n P σ).1 = 0 ∧ tK f n (lnσ f n P σ).2 = 3)) : rdL f n (k + 1) P σ = (lnP f n P σ, rdE f n (lnP f n P σ) (lnσ f n P σ)) := by
  rw [rdL_eq, if_neg h]
theorem rdE_o {f : Nat → Int32} {n : Int} {P : PSt} {σ : Int × Int} (h : σ.1 ≠ 0) : rdE f n P σ = σ := by
  unfold rdE
  rw [ck_o h, ck_o h]
/-- what a park's cells hold of it -/
def AgW (un wl : Int) (W h : WT) : Prop := (∀ k : Nat, (k : Int) < un → W.1 k = h.1 k) ∧ ∀ k : Nat, (k : Int) < wl → W.2.1 k = h.2.1 k ∧ W.2.2.1 k = h.2.2.1 k ∧ W.2.2.2 k = h.2.2.2 k
def AgV (w d rows un wl : Int) (s : Nat → Int32) (el : Int × Int) (W : WT) : Prop := (0 ≤ un ∧ (w ≤ 0 → un = 0) ∧ (0 < w → 0 ≤ el.1 ∧ el.1 ≤ 100)) ∧ ((∀ k : Nat, (k : Int) < un → 0 ≤ (W.1 k).toInt ∧ (W.1 k).toInt < w * rows ∧ (s (W.1 k).toInt.toNat).toInt = 0) ∧ ∀ j k : Nat, j < k → (k : Int) < un → (W.1 j).toInt < (W.1 k).toInt) ∧ ∀ k : Nat, (k : Int) < wl → 0 ≤ (W.2.1 k).toInt ∧ (1 ≤ (W.2.2.1 k).toInt ∧ (W.2.2.1 k).toInt ≤ 3) ∧ (W.2.1 k).toInt + w * (W.2.2.1 k).toInt < w * d ∧ ((W.2.2.2 k).toInt = 0 ∨ (W.2.2.2 k).toInt = 1)
def AgG (w d rows un wk wl : Int) (s : Nat → Int32) (g h : GT) : Prop := (∀ k : Nat, (k : Int) < wk → g.1 k = h.1 k ∧ g.2.1.1 k = h.2.1.1 k ∧ g.2.1.2.1 k = h.2.1.2.1 k ∧ g.2.1.2.2 k = h.2.1.2.2 k) ∧ (0 < w → g.2.2.1 = h.2.2.1) ∧ (∀ k : Nat, (k : Int) < wk → 0 ≤ (g.2.1.1 k).toInt ∧ (g.2.1.1 k).toInt ≤ 3 ∧ 0 ≤ (g.2.1.2.1 k).toInt ∧ (g.2.1.2.1 k).toInt < w * d ∧ 0 ≤ (g.2.1.2.2 k).toInt ∧ (g.2.1.2.2 k).toInt < w * d) ∧ AgW un wl g.2.2.2 h.2.2.2 ∧ AgV w d rows un wl s g.2.2.1 g.2.2.2
def AgP (P : PSt) (w d rows uns wk wl : Int) (s : Nat → Int32) (g : GT) : Prop := (w = pW P ∧ d = pD P ∧ rows = pR P ∧ uns = pUn P ∧ wk = pK P ∧ wl = pL P) ∧ (0 ≤ w ∧ 0 ≤ rows ∧ rows ≤ d ∧ 0 ≤ wk ∧ (w ≤ 0 ∨ rows < d → wk = 0 ∧ wl = 0) ∧ (w ≤ 0 → rows = 0)) ∧ (∀ k : Nat, (k : Int) < w * rows → s k = pSo P k) ∧ AgG w d rows uns wk wl s g (pG P)
theorem AgP_0 {w d rows uns wk wl : Int} {s : Nat → Int32} {g : GT} (hw : w = 0) (hd : d = 0) (hr : rows = 0) (hu : uns = 0) (hk : wk = 0) (hl : wl = 0) : AgP P00 w d rows uns wk wl s g := by
  subst hw hd hr hu hk hl
  refine ⟨⟨rfl, rfl, rfl, rfl, rfl, rfl⟩, ⟨by decide, by decide, by decide, by decide, fun _ => ⟨rfl, rfl⟩, fun _ => rfl⟩, fun k hk => ?_, fun k hk => ?_, fun q => ?_, fun k hk => ?_, ⟨fun k hk => absurd hk (by omega), fun k hk => absurd hk (by omega)⟩, ⟨by decide, fun _ => rfl, fun q => absurd q (by decide)⟩, ⟨fun k hk => absurd hk (by omega), fun j k _ hk => absurd hk (by omega)⟩, fun k hk => absurd hk (by omega)⟩
  · omega
  · exact absurd hk (by omega)
  · exact absurd q (by omega)
  · exact absurd hk (by omega)
/-- the walker's line by what is told alone -/
theorem rPl_c {f : Nat → Int32} {n w d : Int} {s s' : Nat → Int32} {z : Int} {σ : Int × Int} (h : ∀ k : Nat, (k : Int) < w * d → s k = s' k) : rPl f n w d s z σ = rPl f n w d s' z σ := by
  by_cases hz : (wa f n 0 (d - 1) (rW f n 0 (w - 1) σ)).1 = 0
  · obtain ⟨z1, -, -, a2, a3⟩ := wa_0 hz
    obtain ⟨-, -, b2, b3, -⟩ := rW_0 z1
    have hp := pl_in (w := w) (d := d) b2 b3 a2 a3
    have hq := h (sC f n w σ).toNat (by unfold sC; omega)
    unfold rPl hg
    rw [hq]
  · unfold rPl
    rw [hg_o hz, hg_o hz]
theorem tol_c {g g' : Nat → Int64} {many c : Int} (h : ∀ k : Nat, (k : Int) < many → g k = g' k) : tol g many c = tol g' many c := by
  apply propext
  constructor
  · intro ⟨k, h1, h2⟩
    exact ⟨k, h1, by rw [← h k h1]; exact h2⟩
  · intro ⟨k, h1, h2⟩
    exact ⟨k, h1, by rw [h k h1]; exact h2⟩
theorem fWk_c {f : Nat → Int32} {n w d rows many : Int} {s s' : Nat → Int32} {g g' : Nat → Int64} {σ : Int × Int} (h : ∀ k : Nat, (k : Int) < w * rows → s k = s' k) (hr : rows ≤ d) (hg : ∀ k : Nat, (k : Int) < many → g k = g' k) (hm : w ≤ 0 ∨ rows < d → many ≠ 4) (hσ : σ.1 = 0) : fWk f n w d rows many s g σ = fWk f n w d rows many s' g' σ := by
  by_cases hw : w ≤ 0 ∨ rows < d
  · rw [fWk_o (s := s) (g := g) (lbS_6 hσ (hm hw) hw) (pn (by decide)), fWk_o (s := s') (g := g') (lbS_6 hσ (hm hw) hw) (pn (by decide))]
  · have e : rows = d := by omega
    rw [e] at h
    have e1 : nmS f n g many = nmS f n g' many := by
      funext τ
      unfold nmS
      rw [tol_c hg]
    have e2 : ∀ τ, rPl f n w d s 0 τ = rPl f n w d s' 0 τ := fun τ => rPl_c h
    unfold fWk
    rw [e1, e2, e2]
/-- a line of the class -/
def StC (f : Nat → Int32) (n : Int) (P : PSt) (σ : Int × Int) (r t1 s1 p1 fa fat w d rows uns wk wl : Int) (s : Nat → Int32) (g : GT) : Prop := OcC f n (lnσ f n P σ) r t1 s1 p1 fa fat ∧ (r = 1 → AgP (lnP f n P σ) w d rows uns wk wl s g)
theorem lnσ_0 {f : Nat → Int32} {n : Int} {P : PSt} {σ : Int × Int} (h : lw f n σ.2 = 0) : lnσ f n P σ = fPk f n (pW P) σ ∧ lnP f n P σ = ((vWi f n (pW P) σ, vDe f n (pW P) σ, pR P), P.2.1, pSo P, nE (pG P) (vEr f n (pW P) σ) (vSl f n (pW P) σ)) := by
  unfold lnσ lnP
  rw [if_pos h, if_pos h]
  exact ⟨rfl, rfl⟩
theorem lnσ_1 {f : Nat → Int32} {n : Int} {P : PSt} {σ : Int × Int} (h : lw f n σ.2 = 1) : lnσ f n P σ = fRw f n (pW P) (pD P) (pR P) (pUn P) σ ∧ lnP f n P σ = ((pW P, pD P, pR P + 1), (pUn P + cu f (tS f n (go f n σ).2).toNat (pW P).toNat, pK P, pL P), nR f (tS f n (go f n σ).2) (pW P * pR P) (pW P) (pSo P), gU (pG P) (uU f (tS f n (go f n σ).2) (pW P * pR P) (pG P).2.2.2.1 (pUn P) (pW P).toNat)) := by
  unfold lnσ lnP
  rw [if_neg (by omega), if_pos h, if_neg (by omega), if_pos h]
  exact ⟨rfl, rfl⟩
theorem lnσ_2 {f : Nat → Int32} {n : Int} {P : PSt} {σ : Int × Int} (h : lw f n σ.2 = 2) : lnσ f n P σ = fWk f n (pW P) (pD P) (pR P) (pK P) (pSo P) (pG P).1 σ ∧ lnP f n P σ = (P.1, (pUn P, pK P + 1, pL P), pSo P, nG (pG P) (pK P) (tC f n (go f n σ).2) (kd f n (go f n (go f n σ)).2) (kA f n (pW P) σ) (kT f n (pW P) (pD P) σ)) := by
  unfold lnσ lnP
  rw [if_neg (by omega), if_neg (by omega), if_pos h, if_neg (by omega), if_neg (by omega), if_pos h]
  exact ⟨rfl, rfl⟩
theorem lnσ_3 {f : Nat → Int32} {n : Int} {P : PSt} {σ : Int × Int} (h : lw f n σ.2 = 3) : lnσ f n P σ = fWl f n (pW P) (pD P) (pR P) (pL P) σ ∧ lnP f n P σ = (P.1, (pUn P, pK P, pL P + 1), pSo P, gW (pG P) (pL P) (kF f n (pW P) σ) (kS f n (pW P) (pD P) σ) (kL f n (pW P) (pD P) σ)) := by
  unfold lnσ lnP
  rw [if_neg (by omega), if_neg (by omega), if_neg (by omega), if_pos h, if_neg (by omega), if_neg (by omega), if_neg (by omega), if_pos h]
  exact ⟨rfl, rfl⟩
theorem lnσ_n {f : Nat → Int32} {n : Int} {P : PSt} {σ : Int × Int} (h : lw f n σ.2 = -1) : lnσ f n P σ = fl 1 σ := by
  unfold lnσ
  rw [if_neg (by omega), if_neg (by omega), if_neg (by omega), if_neg (by omega)]
/-- a park's line told -/
theorem fPk_w {f : Nat → Int32} {n w : Int} {σ : Int × Int} (h : (fPk f n w σ).1 = 0) : w ≤ 0 ∧ σ.1 = 0 ∧ 2 ≤ vWi f n w σ ∧ vWi f n w σ ≤ 5 ∧ 2 ≤ vDe f n w σ ∧ vDe f n w σ ≤ 4 := by
  unfold fPk rP at h
  obtain ⟨h1, -, -, -, -⟩ := rW_0 h
  have h2 : (rW f n 0 100 (nd f n 4 (txB "errs") (rW f n 2 4 (nd f n 4 (txB "deep") (rW f n 2 5 (nd f n 4 (txB "wide") (go f n (ck (0 < w) 3 σ)))))))).1 = 0 := Classical.byContradiction (fun q => by rw [nd_o q] at h1; exact q h1)
  obtain ⟨h3, -, -, -, -⟩ := rW_0 h2
  have h4 : (rW f n 2 4 (nd f n 4 (txB "deep") (rW f n 2 5 (nd f n 4 (txB "wide") (go f n (ck (0 < w) 3 σ)))))).1 = 0 := Classical.byContradiction (fun q => by rw [nd_o q] at h3; exact q h3)
  obtain ⟨h5, -, d1, d2, -⟩ := rW_0 h4
  have h6 : (rW f n 2 5 (nd f n 4 (txB "wide") (go f n (ck (0 < w) 3 σ)))).1 = 0 := Classical.byContradiction (fun q => by rw [nd_o q] at h5; exact q h5)
  obtain ⟨h7, -, w1, w2, -⟩ := rW_0 h6
  have h8 : (go f n (ck (0 < w) 3 σ)).1 = 0 := Classical.byContradiction (fun q => by rw [nd_o q] at h7; exact q h7)
  have h9 : (ck (0 < w) 3 σ).1 = 0 := Classical.byContradiction (fun q => by rw [go_o q] at h8; exact q h8)
  have h10 : ¬ 0 < w := fun q => by
    rw [ck_y q] at h9
    by_cases z : σ.1 = 0
    · rw [fl_z z] at h9; exact absurd h9 (pn (by decide))
    · rw [fl_o z] at h9; exact z h9
  rw [ck_n h10] at h9
  exact ⟨by omega, h9, w1, w2, d1, d2⟩
theorem fPk_e {f : Nat → Int32} {n w : Int} {σ : Int × Int} (h : (fPk f n w σ).1 = 0) : 0 ≤ vEr f n w σ ∧ vEr f n w σ ≤ 100 := by
  unfold fPk rP at h
  obtain ⟨h1, -, -, -, -⟩ := rW_0 h
  have h2 : (rW f n 0 100 (nd f n 4 (txB "errs") (rW f n 2 4 (nd f n 4 (txB "deep") (rW f n 2 5 (nd f n 4 (txB "wide") (go f n (ck (0 < w) 3 σ)))))))).1 = 0 := Classical.byContradiction (fun q => by rw [nd_o q] at h1; exact q h1)
  obtain ⟨h3, -, d1, d2, -⟩ := rW_0 h2
  exact ⟨d1, d2⟩
theorem AgP_pk {f : Nat → Int32} {n : Int} {P : PSt} {σ : Int × Int} {w d rows uns wk wl w1 d1 : Int} {s s1 : Nat → Int32} {g g1 : GT} (hA : AgP P w d rows uns wk wl s g) (hl : lw f n σ.2 = 0) (h : (lnσ f n P σ).1 = 0) (ew : w1 = vWi f n (pW P) σ) (ed : d1 = vDe f n (pW P) σ) (ee : g1.2.2.1 = (vEr f n (pW P) σ, vSl f n (pW P) σ)) : AgP (lnP f n P σ) w1 d1 rows uns wk wl s1 g1 := by
  obtain ⟨e1, e2⟩ := lnσ_0 (P := P) hl
  rw [e1] at h
  obtain ⟨a1, a2, a3, a4, a5, a6⟩ := fPk_w h
  obtain ⟨⟨b1, b2, b3, b4, b5, b6⟩, ⟨c1, c2, c3, c4, c5, c6⟩, c7, c8⟩ := hA
  have r0 := c6 (by omega)
  have k0 := c5 (Or.inl (by omega))
  have u0 := c8.2.2.2.2.1.2.1 (by omega)
  have he := fPk_e h
  rw [e2]
  refine ⟨⟨ew, ed, b3, b4, b5, b6⟩, ⟨by omega, c2, by omega, c4, fun _ => k0, fun q => r0⟩, fun k hk => ?_, fun k hk => ?_, fun _ => ee, fun k hk => ?_, ⟨fun k hk => absurd hk (by omega), fun k hk => absurd hk (by omega)⟩, ⟨by omega, fun q => by omega, fun _ => by rw [ee]; exact he⟩, ⟨fun k hk => absurd hk (by omega), fun j k _ hk => absurd hk (by omega)⟩, fun k hk => absurd hk (by omega)⟩
  · rw [r0, Int.mul_zero] at hk
    omega
  · exact absurd hk (by omega)
  · exact absurd hk (by omega)
theorem fRw_w {f : Nat → Int32} {n w d rows uns : Int} {σ : Int × Int} (h : (fRw f n w d rows uns σ).1 = 0) : 0 < w ∧ rows ≠ d ∧ rwK f n w (go f n σ).2 ∧ uns + cu f (tS f n (go f n σ).2).toNat w.toNat ≤ 5 ∧ (go f n σ).1 = 0 := by
  have ck0 : ∀ {c : Prop} {k : Int} {τ : Int × Int}, k ≠ 0 → (ck c k τ).1 = 0 → ¬ c ∧ τ.1 = 0 := fun {c k τ} hk q => by
    by_cases hc : c
    · rw [ck_y hc] at q
      by_cases z : τ.1 = 0
      · rw [fl_z z] at q; exact absurd q hk
      · rw [fl_o z] at q; exact absurd q z
    · rw [ck_n hc] at q; exact ⟨hc, q⟩
  have go0 : ∀ {τ : Int × Int}, (go f n τ).1 = 0 → τ.1 = 0 := fun {τ} q => Classical.byContradiction (fun z => by rw [go_o z] at q; exact z q)
  rw [fRw_eq] at h
  obtain ⟨h1, h2⟩ := ck0 (by decide) (go0 h)
  obtain ⟨h3, h4⟩ := ck0 (by decide) h2
  have h5 : (ck (w ≤ 0) 6 (ck (0 < w ∧ rows = d) 5 σ)).1 = 0 := go0 h4
  obtain ⟨h6, h7⟩ := ck0 (by decide) h5
  obtain ⟨h8, h9⟩ := ck0 (by decide) h7
  have hd : rows ≠ d := fun q => h8 ⟨by omega, q⟩
  have e := rwB_ok (f := f) (n := n) (w := w) (d := d) (rows := rows) (σ := σ) (by omega) hd
  rw [e] at h1 h3
  refine ⟨by omega, hd, Classical.byContradiction h3, by omega, ?_⟩
  rw [go_z h9]
theorem sL_bd (c : Int) : 0 ≤ sL c ∧ sL c ≤ 3 := by
  unfold sL
  (repeat' split) <;> omega
theorem uU_c {f : Nat → Int32} {a b : Int} {u u' : Nat → Int32} {n : Int} (h0 : 0 ≤ n) (h : ∀ k : Nat, (k : Int) < n → u k = u' k) : ∀ (i : Nat) (k : Nat), (k : Int) < n + cu f a.toNat i → uU f a b u n i k = uU f a b u' n i k
  | 0, k, hk => h k (by unfold cu at hk; omega)
  | i + 1, k, hk => by
    rw [cu_up] at hk
    by_cases z : (f (a.toNat + i)).toInt = 117
    · rw [if_pos z] at hk
      rw [uU_y z, uU_y z]
      unfold upd
      by_cases y : k = (n + cu f a.toNat i).toNat
      · rw [if_pos y, if_pos y]
      · have c0 := cu_0 (f := f) (s := a.toNat) (k := i)
        rw [if_neg y, if_neg y]
        exact uU_c h0 h i k (by omega)
    · rw [if_neg z] at hk
      rw [uU_n z, uU_n z]
      exact uU_c h0 h i k (by omega)
theorem uU_v {f : Nat → Int32} {a b : Int} {u s s1 : Nat → Int32} {n w : Int} (hn : 0 ≤ n) (hb : 0 ≤ b) (hb2 : b + w ≤ 1000) (hN : rwN f a b w s s1) (h1 : ∀ k : Nat, (k : Int) < n → 0 ≤ (u k).toInt ∧ (u k).toInt < b ∧ (s (u k).toInt.toNat).toInt = 0) (h2 : ∀ j k : Nat, j < k → (k : Int) < n → (u j).toInt < (u k).toInt) : ∀ i : Nat, (i : Int) ≤ w → (∀ k : Nat, (k : Int) < n + cu f a.toNat i → 0 ≤ (uU f a b u n i k).toInt ∧ (uU f a b u n i k).toInt < b + i ∧ (s1 (uU f a b u n i k).toInt.toNat).toInt = 0) ∧ ∀ j k : Nat, j < k → (k : Int) < n + cu f a.toNat i → (uU f a b u n i j).toInt < (uU f a b u n i k).toInt
  | 0, _ => by
    refine ⟨fun k hk => ?_, fun j k hj hk => h2 j k hj (by unfold cu at hk; omega)⟩
    obtain ⟨q1, q2, q3⟩ := h1 k (by unfold cu at hk; omega)
    refine ⟨q1, by show (u k).toInt < b + ((0 : Nat) : Int); omega, ?_⟩
    show (s1 (u k).toInt.toNat).toInt = 0
    rw [hN.1 (u k).toInt.toNat (by omega)]
    exact q3
  | i + 1, hi => by
    obtain ⟨i1, i2⟩ := uU_v hn hb hb2 hN h1 h2 i (by omega)
    have c0 := cu_0 (f := f) (s := a.toNat) (k := i)
    by_cases z : (f (a.toNat + i)).toInt = 117
    · have hv : (Int32.ofInt (b + i)).toInt = b + i := Int32.toInt_ofInt_of_le (by omega) (by omega)
      have hs : (s1 (b + (i : Int)).toNat).toInt = 0 := by
        rw [show (b + (i : Int)).toNat = b.toNat + i by omega, hN.2 i (by omega), z]
        decide
      rw [cu_up, if_pos z, uU_y z]
      have key : ∀ k : Nat, (k : Int) < n + (cu f a.toNat i + 1) → (k = (n + cu f a.toNat i).toNat ∧ upd (uU f a b u n i) (n + cu f a.toNat i).toNat (Int32.ofInt (b + i)) k = Int32.ofInt (b + i)) ∨ ((k : Int) < n + cu f a.toNat i ∧ upd (uU f a b u n i) (n + cu f a.toNat i).toNat (Int32.ofInt (b + i)) k = uU f a b u n i k) := fun k hk => by
        unfold upd
        by_cases y : k = (n + cu f a.toNat i).toNat
        · exact Or.inl ⟨y, if_pos y⟩
        · exact Or.inr ⟨by omega, if_neg y⟩
      refine ⟨fun k hk => ?_, fun j k hj hk => ?_⟩
      · rcases key k hk with ⟨y1, y2⟩ | ⟨y1, y2⟩
        · rw [y2, hv]
          exact ⟨by omega, by omega, hs⟩
        · rw [y2]
          obtain ⟨q1, q2, q3⟩ := i1 k y1
          exact ⟨q1, by omega, q3⟩
      · rcases key k hk with ⟨y1, y2⟩ | ⟨y1, y2⟩
        · rcases key j (by omega) with ⟨x1, x2⟩ | ⟨x1, x2⟩
          · omega
          · rw [y2, x2, hv]
            exact (i1 j x1).2.1
        · rcases key j (by omega) with ⟨x1, x2⟩ | ⟨x1, x2⟩
          · omega
          · rw [y2, x2]
            exact i2 j k hj y1
    · rw [cu_up, if_neg z, uU_n z]
      refine ⟨fun k hk => ?_, fun j k hj hk => i2 j k hj (by omega)⟩
      obtain ⟨q1, q2, q3⟩ := i1 k (by omega)
      exact ⟨q1, by omega, q3⟩
theorem AgP_rw {f : Nat → Int32} {n : Int} {P : PSt} {σ : Int × Int} {w d rows uns wk wl rows1 uns1 : Int} {s s1 u1 : Nat → Int32} {g : GT} (hw5 : w ≤ 5) (hd4 : d ≤ 4) (hU : u1 = uU f (tS f n (go f n σ).2) (w * rows) g.2.2.2.1 uns w.toNat) (hA : AgP P w d rows uns wk wl s g) (hl : lw f n σ.2 = 1) (h : (lnσ f n P σ).1 = 0) (er : rows1 = rows + 1) (eu : uns1 = uns + cu f (tS f n (go f n σ).2).toNat w.toNat) (hN : rwN f (tS f n (go f n σ).2) (w * rows) w s s1) : AgP (lnP f n P σ) w d rows1 uns1 wk wl s1 (gU g u1) := by
  obtain ⟨e1, e2⟩ := lnσ_1 (P := P) hl
  rw [e1] at h
  obtain ⟨a1, a2, a3, a4, a5⟩ := fRw_w h
  obtain ⟨⟨b1, b2, b3, b4, b5, b6⟩, ⟨c1, c2, c3, c4, c5, c6⟩, c7, c8⟩ := hA
  have k0 := c5 (Or.inr (by omega))
  have hb : 0 ≤ w * rows := Int.mul_nonneg c1 c2
  rw [e2]
  refine ⟨⟨b1, b2, by rw [er, b3]; rfl, by rw [eu, b4, b1]; rfl, b5, b6⟩, ⟨c1, by omega, by omega, c4, fun _ => k0, fun q => by omega⟩, fun k hk => ?_, c8.1, c8.2.1, c8.2.2.1, ?_, ?_⟩
  rotate_left
  · refine ⟨fun k hk => ?_, fun k hk => absurd hk (by omega)⟩
    show u1 k = uU f (tS f n (go f n σ).2) (pW P * pR P) (pG P).2.2.2.1 (pUn P) (pW P).toNat k
    rw [hU, ← b1, ← b3, ← b4]
    exact uU_c c8.2.2.2.2.1.1 c8.2.2.2.1.1 w.toNat k (by rw [← eu]; exact hk)
  · have hx : w * rows + w ≤ 1000 := by
      have g1 : w * rows ≤ 5 * 4 := Int.mul_le_mul hw5 (by omega) c2 (by omega)
      omega
    obtain ⟨v1, v2⟩ := uU_v c8.2.2.2.2.1.1 hb hx hN c8.2.2.2.2.2.1.1 c8.2.2.2.2.2.1.2 w.toNat (by omega)
    have cu0 := cu_0 (f := f) (s := (tS f n (go f n σ).2).toNat) (k := w.toNat)
    have hr1 : w * rows1 = w * rows + w := by rw [er, Int.mul_add, Int.mul_one]
    refine ⟨⟨by have := c8.2.2.2.2.1.1; omega, fun q => by omega, c8.2.2.2.2.1.2.2⟩, ⟨fun k hk => ?_, fun j k hj hk => ?_⟩, fun k hk => absurd hk (by omega)⟩
    · show 0 ≤ (u1 k).toInt ∧ (u1 k).toInt < w * rows1 ∧ (s1 (u1 k).toInt.toNat).toInt = 0
      rw [hU, hr1]
      obtain ⟨q1, q2, q3⟩ := v1 k (by rw [← eu]; exact hk)
      exact ⟨q1, by omega, q3⟩
    · show (u1 j).toInt < (u1 k).toInt
      rw [hU]
      exact v2 j k hj (by rw [← eu]; exact hk)
  show s1 k = nR f (tS f n (go f n σ).2) (pW P * pR P) (pW P) (pSo P) k
  unfold nR
  rw [← b1, ← b3]
  rw [er, Int.mul_add, Int.mul_one] at hk
  by_cases hq : (k : Int) < w * rows
  · rw [if_neg (by omega), hN.1 k hq]
    exact c7 k hq
  · rw [if_pos (by omega)]
    have h1 := hN.2 (k - (w * rows).toNat) (by omega)
    rw [show (w * rows).toNat + (k - (w * rows).toNat) = k by omega] at h1
    have h2 := sL_bd (f ((tS f n (go f n σ).2).toNat + (k - (w * rows).toNat))).toInt
    rw [← h1]
    exact (Int32.ofInt_toInt (s1 k)).symm
theorem fWk_w {f : Nat → Int32} {n w d rows many : Int} {s : Nat → Int32} {g : Nat → Int64} {σ : Int × Int} (hσ : σ.1 = 0) (h : (fWk f n w d rows many s g σ).1 = 0) : ¬ (w ≤ 0 ∨ rows < d) ∧ many ≠ 4 := by
  by_cases hm : many = 4
  · rw [fWk_o (s := s) (g := g) (lbS_5 hσ hm) (pn (by decide))] at h
    exact absurd h (pn (by decide))
  · refine ⟨fun hw => ?_, hm⟩
    rw [fWk_o (s := s) (g := g) (lbS_6 hσ hm hw) (pn (by decide))] at h
    exact absurd h (pn (by decide))
/-- a walker's line told: his kind, where he is -/
theorem wch_r {P0 P1 P2 P3 : Prop} (h : ¬ wch P0 P1 P2 P3 = -1) : 0 ≤ wch P0 P1 P2 P3 ∧ wch P0 P1 P2 P3 ≤ 3 := by
  unfold wch at h ⊢
  by_cases h0 : P0
  · rw [if_pos h0]; decide
  · rw [if_neg h0] at h ⊢
    by_cases h1 : P1
    · rw [if_pos h1]; decide
    · rw [if_neg h1] at h ⊢
      by_cases h2 : P2
      · rw [if_pos h2]; decide
      · rw [if_neg h2] at h ⊢
        by_cases h3 : P3
        · rw [if_pos h3]; decide
        · rw [if_neg h3] at h
          exact absurd rfl h
theorem ck_9 {c : Prop} {k : Int} {σ : Int × Int} (h0 : k ≠ 0) (h : (ck c k σ).1 = 0) : ¬ c ∧ σ.1 = 0 := by
  by_cases hc : c
  · rw [ck_y hc] at h
    by_cases z : σ.1 = 0
    · rw [fl_z z] at h; exact absurd h h0
    · rw [fl_o z] at h; exact absurd h z
  · rw [ck_n hc] at h; exact ⟨hc, h⟩
theorem go_9 {f : Nat → Int32} {n : Int} {σ : Int × Int} (h : (go f n σ).1 = 0) : σ.1 = 0 := Classical.byContradiction (fun z => by rw [go_o z] at h; exact z h)
theorem nd_9 {f : Nat → Int32} {n : Int} {sn : Nat} {sf : Nat → Int32} {σ : Int × Int} (h : (nd f n sn sf σ).1 = 0) : σ.1 = 0 := Classical.byContradiction (fun z => by rw [nd_o z] at h; exact z h)
theorem rPl_9 {f : Nat → Int32} {n w d : Int} {s : Nat → Int32} {z : Int} {σ : Int × Int} (h : (rPl f n w d s z σ).1 = 0) : σ.1 = 0 := Classical.byContradiction (fun q => by rw [rPl_o q] at h; exact q h)
theorem fWk_b {f : Nat → Int32} {n w d rows many : Int} {s : Nat → Int32} {g : Nat → Int64} {σ : Int × Int} (h : (fWk f n w d rows many s g σ).1 = 0) : (0 ≤ kd f n (go f n (go f n σ)).2 ∧ kd f n (go f n (go f n σ)).2 ≤ 3) ∧ (0 ≤ kA f n w σ ∧ kA f n w σ < w * d) ∧ 0 ≤ kT f n w d σ ∧ kT f n w d σ < w * d := by
  have h5 : (rPl f n w d s 0 (nd f n 2 (txB "to") (rPl f n w d s 0 (nd f n 2 (txB "at") (kdS f n (go f n (nmS f n g many (lbS f n w d rows many 4 σ)))))))).1 = 0 := h
  have h4 : (rPl f n w d s 0 (nd f n 2 (txB "at") (kdS f n (go f n (nmS f n g many (lbS f n w d rows many 4 σ)))))).1 = 0 := nd_9 (rPl_9 h5)
  have h3 : (kdS f n (go f n (nmS f n g many (lbS f n w d rows many 4 σ)))).1 = 0 := nd_9 (rPl_9 h4)
  obtain ⟨hk, h2⟩ := ck_9 (by decide) (go_9 (show (go f n (ck (kd f n (go f n (nmS f n g many (lbS f n w d rows many 4 σ))).2 = -1) 1 (go f n (nmS f n g many (lbS f n w d rows many 4 σ))))).1 = 0 from h3))
  have h1 := go_9 h2
  obtain ⟨k1, h1'⟩ := ck_9 (by decide) (show (ck (tol g many (tC f n (lbS f n w d rows many 4 σ).2)) 3 (ck (tK f n (lbS f n w d rows many 4 σ).2 ≠ 1 ∨ lw f n (lbS f n w d rows many 4 σ).2 ≠ -1) 1 (lbS f n w d rows many 4 σ))).1 = 0 from h1)
  obtain ⟨k2, h0⟩ := ck_9 (by decide) h1'
  have eN : nmS f n g many (lbS f n w d rows many 4 σ) = lbS f n w d rows many 4 σ := by
    unfold nmS
    rw [ck_n k2, ck_n k1]
  obtain ⟨k3, g1⟩ := ck_9 (by decide) (go_9 (show (go f n (ck (w ≤ 0 ∨ rows < d) 6 (ck (many = 4) 5 σ))).1 = 0 from h0))
  obtain ⟨k4, g2⟩ := ck_9 (by decide) g1
  have eL : lbS f n w d rows many 4 σ = go f n σ := by
    unfold lbS
    rw [ck_n k4, ck_n k3]
  rw [eN, eL] at hk h4
  have eK : kdS f n (go f n (go f n σ)) = go f n (go f n (go f n σ)) := kdS_ok hk
  rw [eK] at h4
  rw [eN, eL, eK] at h5
  rw [rPl_z h4] at h5
  have q5 := h5
  rw [rPl_z h5] at q5
  have q := h4
  rw [rPl_z h4] at q
  obtain ⟨z1, -, r1, r2, -⟩ := rW_0 q
  obtain ⟨z0, -, c1, c2, -⟩ := rW_0 z1
  obtain ⟨y1, -, s1, s2, -⟩ := rW_0 q5
  obtain ⟨y0, -, d1, d2, -⟩ := rW_0 y1
  refine ⟨wch_r hk, ?_, ?_⟩
  · have hp := pl_in (w := w) (d := d) c1 c2 r1 r2
    unfold kA sC
    exact hp
  · have hp := pl_in (w := w) (d := d) d1 d2 s1 s2
    unfold kT sC
    exact hp
theorem AgP_wk {f : Nat → Int32} {n : Int} {P : PSt} {σ : Int × Int} {w d rows uns wk wl wk1 : Int} {s : Nat → Int32} {g g1 : GT} (hA : AgP P w d rows uns wk wl s g) (hσ : σ.1 = 0) (hl : lw f n σ.2 = 2) (h : (lnσ f n P σ).1 = 0) (ek : wk1 = wk + 1) (hN : apX f n w d g g1 wk σ) : AgP (lnP f n P σ) w d rows uns wk1 wl s g1 := by
  obtain ⟨e1, e2⟩ := lnσ_2 (P := P) hl
  rw [e1] at h
  obtain ⟨a1, a2⟩ := fWk_w hσ h
  obtain ⟨⟨b1, b2, b3, b4, b5, b6⟩, ⟨c1, c2, c3, c4, c5, c6⟩, c7, c8⟩ := hA
  rw [← b1, ← b3, ← b2] at a1
  rw [e2]
  refine ⟨⟨b1, b2, b3, b4, by rw [ek, b5]; rfl, b6⟩, ⟨c1, c2, c3, by omega, fun q => absurd q a1, c6⟩, c7, fun k hk => ?_, fun q => (congrArg Prod.fst hN.2.2.2.2).trans (c8.2.1 q), fun k hk => ?_, by rw [hN.2.2.2.2]; exact c8.2.2.2⟩
  · obtain ⟨n1, n2, n3, n4, n5⟩ := hN
    have hq : (k : Int) < wk ∨ k = wk.toNat := by omega
    show g1.1 k = (if k = (pK P).toNat then Int64.ofInt (tC f n (go f n σ).2) else (pG P).1 k) ∧ g1.2.1.1 k = (if k = (pK P).toNat then Int32.ofInt (kd f n (go f n (go f n σ)).2) else (pG P).2.1.1 k) ∧ g1.2.1.2.1 k = (if k = (pK P).toNat then Int32.ofInt (kA f n (pW P) σ) else (pG P).2.1.2.1 k) ∧ g1.2.1.2.2 k = (if k = (pK P).toNat then Int32.ofInt (kT f n (pW P) (pD P) σ) else (pG P).2.1.2.2 k)
    rw [← b5, ← b1, ← b2]
    rcases hq with hq | hk'
    · have hne : ¬ k = wk.toNat := by omega
      rw [if_neg hne, if_neg hne, if_neg hne, if_neg hne, n1.2 k hq, n2.2 k hq, n3.2 k hq, n4.2 k hq]
      exact c8.1 k hq
    · rw [if_pos hk', if_pos hk', if_pos hk', if_pos hk', ← n1.1, ← n2.1, ← n3.1, ← n4.1, hk']
      exact ⟨(Int64.ofInt_toInt _).symm, (Int32.ofInt_toInt _).symm, (Int32.ofInt_toInt _).symm, (Int32.ofInt_toInt _).symm⟩
  · obtain ⟨n1, n2, n3, n4, n5⟩ := hN
    rcases (show (k : Int) < wk ∨ k = wk.toNat by omega) with hq | hk'
    · rw [n2.2 k hq, n3.2 k hq, n4.2 k hq]
      exact c8.2.2.1 k hq
    · obtain ⟨⟨x1, x2⟩, ⟨x3, x4⟩, x5, x6⟩ := fWk_b h
      rw [← b1, ← b2] at x4 x5 x6
      rw [← b1] at x3
      rw [hk', n2.1, n3.1, n4.1]
      exact ⟨x1, x2, x3, x4, x5, x6⟩
theorem fWl_w {f : Nat → Int32} {n w d rows many : Int} {σ : Int × Int} (hσ : σ.1 = 0) (h : (fWl f n w d rows many σ).1 = 0) : ¬ (w ≤ 0 ∨ rows < d) ∧ many ≠ 6 := by
  by_cases hm : many = 6
  · rw [fWl_o (lbS_5 hσ hm) (pn (by decide))] at h
    exact absurd h (pn (by decide))
  · refine ⟨fun hw => ?_, hm⟩
    rw [fWl_o (lbS_6 hσ hm hw) (pn (by decide))] at h
    exact absurd h (pn (by decide))
theorem feS_0 {f : Nat → Int32} {n : Int} {σ : Int × Int} (h : (feS f n σ).1 = 0) : σ.1 = 0 := (ck_9 (by decide) (go_9 (show (go f n (ck (¬ isW f n 4 (txB "fell") σ.2 ∧ ¬ isW f n 3 (txB "dry") σ.2) 1 σ)).1 = 0 from h))).2
theorem fWl_b {f : Nat → Int32} {n w d rows many : Int} {σ : Int × Int} (hσ : σ.1 = 0) (h : (fWl f n w d rows many σ).1 = 0) : 0 ≤ kF f n w σ ∧ (1 ≤ kS f n w d σ ∧ kS f n w d σ ≤ 3) ∧ kF f n w σ + w * kS f n w d σ < w * d ∧ (kL f n w d σ = 0 ∨ kL f n w d σ = 1) := by
  obtain ⟨a1, a2⟩ := fWl_w hσ h
  have e := fWl_e (f := f) (n := n) (w := w) (d := d) (rows := rows) (many := many) (σ := σ) a2 (by omega) (by omega)
  rw [e] at h
  have h1 := feS_0 h
  unfold stpS rP at h1
  obtain ⟨h2, -, s1, s2, -⟩ := rW_0 h1
  have h3 : (rW f n 0 (d - 1) (rW f n 0 (w - 1) (go f n σ))).1 = 0 := nd_9 h2
  obtain ⟨z1, -, r1, r2, -⟩ := rW_0 h3
  obtain ⟨z0, -, c1, c2, -⟩ := rW_0 z1
  have m3 := Int.min_le_left 3 (d - 1 - tN f n (rW f n 0 (w - 1) (go f n σ)).2)
  have m4 := Int.min_le_right 3 (d - 1 - tN f n (rW f n 0 (w - 1) (go f n σ)).2)
  have hS : kS f n w d σ = tN f n (nd f n 5 (txB "steps") (rW f n 0 (d - 1) (rW f n 0 (w - 1) (go f n σ)))).2 := rfl
  have hF : kF f n w σ = w * tN f n (rW f n 0 (w - 1) (go f n σ)).2 + tN f n (go f n σ).2 := rfl
  have hw : 0 ≤ w := by omega
  refine ⟨?_, ⟨by omega, by omega⟩, ?_, ?_⟩
  · have := Int.mul_nonneg hw r1
    omega
  · have p := pl_in (w := w) (d := d) c1 c2 (r := tN f n (rW f n 0 (w - 1) (go f n σ)).2 + kS f n w d σ) (by omega) (by omega)
    rw [Int.mul_add] at p
    omega
  · unfold kL
    by_cases q : isW f n 4 (txB "fell") (stpS f n w d (go f n σ)).2
    · rw [if_pos q]
      exact Or.inr rfl
    · rw [if_neg q]
      exact Or.inl rfl
theorem AgP_wl {f : Nat → Int32} {n : Int} {P : PSt} {σ : Int × Int} {w d rows uns wk wl wl1 : Int} {s : Nat → Int32} {g g1 : GT} (hA : AgP P w d rows uns wk wl s g) (hσ : σ.1 = 0) (hl : lw f n σ.2 = 3) (h : (lnσ f n P σ).1 = 0) (ek : wl1 = wl + 1) (h0 : 0 ≤ wl) (eg : g1 = (g.1, g.2.1, g.2.2.1, (g.2.2.2.1, g1.2.2.2.2))) (hN : apW f n w d g.2.2.2.2 g1.2.2.2.2 wl σ) : AgP (lnP f n P σ) w d rows uns wk wl1 s g1 := by
  obtain ⟨e1, e2⟩ := lnσ_3 (P := P) hl
  rw [e1] at h
  obtain ⟨a1, a2⟩ := fWl_w hσ h
  obtain ⟨⟨b1, b2, b3, b4, b5, b6⟩, ⟨c1, c2, c3, c4, c5, c6⟩, c7, c8⟩ := hA
  rw [← b1, ← b3, ← b2] at a1
  rw [e2]
  have e3 : g1.1 = g.1 ∧ g1.2.1 = g.2.1 ∧ g1.2.2.1 = g.2.2.1 ∧ g1.2.2.2.1 = g.2.2.2.1 := by
    rw [eg]
    exact ⟨rfl, rfl, rfl, rfl⟩
  obtain ⟨x1, x2, x3, x4⟩ := e3
  have hB := fWl_b hσ h
  rw [← b1, ← b2] at hB
  obtain ⟨n1, n2, n3⟩ := hN
  refine ⟨⟨b1, b2, b3, b4, b5, by rw [ek, b6]; rfl⟩, ⟨c1, c2, c3, c4, fun q => absurd q a1, c6⟩, c7, ?_⟩
  refine ⟨by rw [x1, x2]; exact c8.1, by rw [x3]; exact c8.2.1, by rw [x2]; exact c8.2.2.1, ⟨by rw [x4]; exact c8.2.2.2.1.1, fun k hk => ?_⟩, by rw [x3]; exact c8.2.2.2.2.1, by rw [x4]; exact c8.2.2.2.2.2.1, fun k hk => ?_⟩
  · show g1.2.2.2.2.1 k = (if k = (pL P).toNat then Int32.ofInt (kF f n (pW P) σ) else (pG P).2.2.2.2.1 k) ∧ g1.2.2.2.2.2.1 k = (if k = (pL P).toNat then Int32.ofInt (kS f n (pW P) (pD P) σ) else (pG P).2.2.2.2.2.1 k) ∧ g1.2.2.2.2.2.2 k = (if k = (pL P).toNat then Int32.ofInt (kL f n (pW P) (pD P) σ) else (pG P).2.2.2.2.2.2 k)
    rw [← b6, ← b1, ← b2]
    rcases (show (k : Int) < wl ∨ k = wl.toNat by omega) with hq | hk'
    · have hne : ¬ k = wl.toNat := by omega
      rw [if_neg hne, if_neg hne, if_neg hne, n1.2 k hq, n2.2 k hq, n3.2 k hq]
      exact c8.2.2.2.1.2 k hq
    · rw [if_pos hk', if_pos hk', if_pos hk', ← n1.1, ← n2.1, ← n3.1, hk']
      exact ⟨(Int32.ofInt_toInt _).symm, (Int32.ofInt_toInt _).symm, (Int32.ofInt_toInt _).symm⟩
  · rcases (show (k : Int) < wl ∨ k = wl.toNat by omega) with hq | hk'
    · rw [n1.2 k hq, n2.2 k hq, n3.2 k hq]
      exact c8.2.2.2.2.2.2 k hq
    · rw [hk', n1.1, n2.1, n3.1]
      exact hB
/-- what is read of a text -/
noncomputable def rdA (f : Nat → Int32) (n : Int) : PSt × (Int × Int) := rdL f n 801 P00 (0, 0)
/-- between two lines of the class -/
def rdI (f : Nat → Int32) (n i tok st sp fa w d count rows uns wk wl : Int) (s : Nat → Int32) (g : GT) : Prop := count = w * d ∧ fa = 0 ∧ ∃ (P : PSt) (σ : Int × Int), σ.1 = 0 ∧ LkC f n σ.2 tok st sp ∧ AgP P w d rows uns wk wl s g ∧ rdA f n = rdL f n (801 - i).toNat P σ
theorem rdI_0 {f : Nat → Int32} {n i tok st sp fa w d count rows uns wk wl j : Int} {s : Nat → Int32} {g : GT} (hi : i = 0) (hj : j = 0) (hk : LkC f n j tok st sp) (hf : fa = 0) (hw : w = 0) (hd : d = 0) (hc : count = 0) (hr : rows = 0) (hu : uns = 0) (hwk : wk = 0) (hwl : wl = 0) : rdI f n i tok st sp fa w d count rows uns wk wl s g := by
  refine ⟨by rw [hc, hw, hd, Int.mul_zero], hf, P00, (0, 0), rfl, ?_, AgP_0 hw hd hr hu hwk hwl, ?_⟩
  · rw [← hj]; exact hk
  · rw [hi, show ((801 : Int) - 0).toNat = 801 by decide]; rfl
/-- behind a line -/
def LnC (f : Nat → Int32) (n i r t1 s1 p1 fa fat w d count rows uns wk wl : Int) (s : Nat → Int32) (g : GT) : Prop := ∃ (P : PSt) (σ : Int × Int), StC f n P σ r t1 s1 p1 fa fat w d rows uns wk wl s g ∧ (r = 1 → count = w * d ∧ fa = 0) ∧ rdA f n = rdL f n (801 - i).toNat P σ
theorem ln_pk {f : Nat → Int32} {n i tok st sp fa w d count rows uns wk wl r0 r t1 s1 p1 fa1 fat1 w1 d1 c1 er1 sl1 : Int} {s : Nat → Int32} {g g1 : GT} (hI : rdI f n i tok st sp fa w d count rows uns wk wl s g) (h0 : fwP f tok st sp (lw f) n r0) (e0 : r0 = 0) (hq : qK f n w tok st sp r t1 s1 p1 fa1 fat1 w1 d1 c1 er1 sl1) (hf : r ≠ 0 → fa1 = fa) (hg : g1.2.2.1 = (er1, sl1)) : LnC f n i r t1 s1 p1 fa1 fat1 w1 d1 c1 rows uns wk wl s g1 := by
  obtain ⟨hc, hf0, P, σ, hσ, hk, hA, hR⟩ := hI
  have l0 : lw f n σ.2 = 0 := (h0 _ hk).symm.trans e0
  obtain ⟨o, v⟩ := hq σ hσ hk
  have hw : w = pW P := hA.1.1
  rw [hw] at o v
  have e1 := (lnσ_0 (P := P) l0).1
  refine ⟨P, σ, ⟨?_, fun h1 => ?_⟩, fun h1 => ?_, hR⟩
  · rw [e1]; exact o
  · obtain ⟨v1, v2, -, v4, v5⟩ := v h1
    refine AgP_pk hA l0 ?_ v1 v2 (by rw [hg, v4, v5])
    rw [e1]; exact (o.z (by omega)).1
  · obtain ⟨v1, v2, v3, -, -⟩ := v h1
    exact ⟨by rw [v3, v1, v2], (hf (by omega)).trans hf0⟩
theorem ln_rw {f : Nat → Int32} {n i tok st sp fa w d count rows uns wk wl r0 r t1 s1 p1 fa1 fat1 rows1 uns1 : Int} {s sf1 u1 : Nat → Int32} {g : GT} (hw5 : w ≤ 5) (hd4 : d ≤ 4) (hI : rdI f n i tok st sp fa w d count rows uns wk wl s g) (h0 : fwP f tok st sp (lw f) n r0) (e0 : r0 = 1) (hq : qRw f n w d rows uns count s g.2.2.2.1 tok st sp r t1 s1 p1 fa1 fat1 rows1 uns1 sf1 u1) (hf : r ≠ 0 → fa1 = fa) : LnC f n i r t1 s1 p1 fa1 fat1 w d count rows1 uns1 wk wl sf1 (gU g u1) := by
  obtain ⟨hc, hf0, P, σ, hσ, hk, hA, hR⟩ := hI
  have l0 : lw f n σ.2 = 1 := (h0 _ hk).symm.trans e0
  obtain ⟨o, v⟩ := hq hc hA.2.1.2.2.1 σ hσ hk
  obtain ⟨b1, b2, b3, b4, b5, b6⟩ := hA.1
  have e1 := (lnσ_1 (P := P) l0).1
  rw [← b1, ← b2, ← b3, ← b4] at e1
  refine ⟨P, σ, ⟨?_, fun h1 => ?_⟩, fun h1 => ⟨hc, (hf (by omega)).trans hf0⟩, hR⟩
  · rw [e1]; exact o
  · obtain ⟨v1, v2, v3, v4⟩ := v h1
    refine AgP_rw hw5 hd4 v4 hA l0 ?_ v1 v2 v3
    rw [e1]; exact (o.z (by omega)).1
theorem ln_wk {f : Nat → Int32} {n i tok st sp fa w d count rows uns wk wl r0 r t1 s1 p1 fa1 fat1 wk1 : Int} {s : Nat → Int32} {g g1 : GT} (hI : rdI f n i tok st sp fa w d count rows uns wk wl s g) (h0 : fwP f tok st sp (lw f) n r0) (e0 : r0 = 2) (hq : qX f n w d rows wk count s g tok st sp r t1 s1 p1 fa1 fat1 wk1 g1) (hf : r ≠ 0 → fa1 = fa) : LnC f n i r t1 s1 p1 fa1 fat1 w d count rows uns wk1 wl s g1 := by
  obtain ⟨hc, hf0, P, σ, hσ, hk, hA, hR⟩ := hI
  have l0 : lw f n σ.2 = 2 := (h0 _ hk).symm.trans e0
  obtain ⟨o, v⟩ := hq hc hA.2.1.2.2.1 (fun q => (hA.2.1.2.2.2.2.1 q).1) σ hσ hk
  have e1 := (lnσ_2 (P := P) l0).1
  obtain ⟨b1, b2, b3, b4, b5, b6⟩ := hA.1
  rw [← b1, ← b2, ← b3, ← b5, ← fWk_c hA.2.2.1 hA.2.1.2.2.1 (fun k hk => (hA.2.2.2.1 k hk).1) (fun q => by have := (hA.2.1.2.2.2.2.1 q).1; omega) hσ] at e1
  refine ⟨P, σ, ⟨?_, fun h1 => ?_⟩, fun h1 => ⟨hc, (hf (by omega)).trans hf0⟩, hR⟩
  · rw [e1]; exact o
  · obtain ⟨v1, v2⟩ := v h1
    refine AgP_wk hA hσ l0 ?_ v1 v2
    rw [e1]; exact (o.z (by omega)).1
theorem ln_wl {f : Nat → Int32} {n i tok st sp fa w d count rows uns wk wl r0 r t1 s1 p1 fa1 fat1 wl1 : Int} {s : Nat → Int32} {g g1 : GT} (h9 : 0 ≤ wl) (eg : g1 = (g.1, g.2.1, g.2.2.1, (g.2.2.2.1, g1.2.2.2.2))) (hI : rdI f n i tok st sp fa w d count rows uns wk wl s g) (h0 : fwP f tok st sp (lw f) n r0) (e0 : r0 = 3) (hq : qY f n w d rows wl count g.2.2.2.2 tok st sp r t1 s1 p1 fa1 fat1 wl1 g1.2.2.2.2) (hf : r ≠ 0 → fa1 = fa) : LnC f n i r t1 s1 p1 fa1 fat1 w d count rows uns wk wl1 s g1 := by
  obtain ⟨hc, hf0, P, σ, hσ, hk, hA, hR⟩ := hI
  have l0 : lw f n σ.2 = 3 := (h0 _ hk).symm.trans e0
  obtain ⟨o, v⟩ := hq hc hA.2.1.2.2.1 (fun q => (hA.2.1.2.2.2.2.1 q).2) σ hσ hk
  have e1 := (lnσ_3 (P := P) l0).1
  obtain ⟨b1, b2, b3, b4, b5, b6⟩ := hA.1
  rw [← b1, ← b2, ← b3, ← b6] at e1
  refine ⟨P, σ, ⟨?_, fun h1 => ?_⟩, fun h1 => ⟨hc, (hf (by omega)).trans hf0⟩, hR⟩
  · rw [e1]; exact o
  · refine AgP_wl hA hσ l0 ?_ (v h1).1 h9 eg (v h1).2
    rw [e1]; exact (o.z (by omega)).1
theorem ln_no {f : Nat → Int32} {n i tok st sp fa w d count rows uns wk wl r0 r t1 s1 p1 fa1 fat1 : Int} {s : Nat → Int32} {g : GT} (hI : rdI f n i tok st sp fa w d count rows uns wk wl s g) (h0 : fwP f tok st sp (lw f) n r0) (e0 : r0 = -1) (hr : r = 0) (hf : fa1 = 1) (ht : fat1 = st) : LnC f n i r t1 s1 p1 fa1 fat1 w d count rows uns wk wl s g := by
  obtain ⟨hc, hf0, P, σ, hσ, hk, hA, hR⟩ := hI
  have l0 : lw f n σ.2 = -1 := (h0 _ hk).symm.trans e0
  refine ⟨P, σ, ⟨OcC_k hr ((lnσ_n l0).trans (fl_z hσ)) (by decide) hf (ht.trans hk.2.2.1), fun h1 => absurd (hr.symm.trans h1) (by decide)⟩, fun h1 => absurd (hr.symm.trans h1) (by decide), hR⟩
/-- read of the class -/
def rdQ (f : Nat → Int32) (n r fa fat w d count rows uns wk wl : Int) (s : Nat → Int32) (g : GT) : Prop := (r = 1 ∧ (rdA f n).2.1 = 0 ∧ fa = 0 ∧ count = w * d ∧ AgP (rdA f n).1 w d rows uns wk wl s g ∧ 0 < w ∧ d ≤ rows) ∨ (r = 0 ∧ (rdA f n).2.1 ≠ 0 ∧ fa = (rdA f n).2.1 ∧ fat = tS f n (rdA f n).2.2)
theorem rdQ_k {f : Nat → Int32} {n r fa fat w d count rows uns wk wl k j : Int} {s : Nat → Int32} {g : GT} {P : PSt} (hr : r = 0) (e : rdA f n = (P, (k, j))) (h0 : k ≠ 0) (hf : fa = k) (ht : fat = tS f n j) : rdQ f n r fa fat w d count rows uns wk wl s g := by
  refine Or.inr ⟨hr, ?_⟩
  rw [e]
  exact ⟨h0, hf, ht⟩
theorem k801 {i : Int} (h : i ≤ 800) : (801 - i).toNat = (800 - i).toNat + 1 := by omega
theorem rd_fail {f : Nat → Int32} {n i r t1 s1 p1 fa fat w d count rows uns wk wl r9 : Int} {s : Nat → Int32} {g : GT} (hL : LnC f n i r t1 s1 p1 fa fat w d count rows uns wk wl s g) (hi : i ≤ 800) (hr : r = 0) (h9 : r9 = 0) : rdQ f n r9 fa fat w d count rows uns wk wl s g := by
  obtain ⟨P, σ, ⟨o, -⟩, -, hR⟩ := hL
  obtain ⟨z1, a1, b1⟩ := o.o hr
  rw [k801 hi, rdL_st (fun q => z1 q.1), rdE_o z1] at hR
  refine Or.inr ⟨h9, ?_⟩
  rw [hR]
  exact ⟨z1, a1, b1⟩
theorem rd_yes {f : Nat → Int32} {n i r t1 s1 p1 fa fat w d count rows uns wk wl : Int} {s : Nat → Int32} {g : GT} (hL : LnC f n i r t1 s1 p1 fa fat w d count rows uns wk wl s g) (hr : r = 1) : ∃ (P : PSt) (σ : Int × Int), (lnσ f n P σ).1 = 0 ∧ LkC f n (lnσ f n P σ).2 t1 s1 p1 ∧ AgP (lnP f n P σ) w d rows uns wk wl s g ∧ count = w * d ∧ fa = 0 ∧ rdA f n = rdL f n (801 - i).toNat P σ := by
  obtain ⟨P, σ, ⟨o, hA⟩, hc, hR⟩ := hL
  obtain ⟨z1, k1⟩ := o.z (by omega)
  exact ⟨P, σ, z1, k1, hA hr, (hc hr).1, (hc hr).2, hR⟩
theorem rd_all {f : Nat → Int32} {n i r t1 s1 p1 fa fat w d count rows uns wk wl r9 : Int} {s : Nat → Int32} {g : GT} (hL : LnC f n i r t1 s1 p1 fa fat w d count rows uns wk wl s g) (hi : i ≤ 800) (hr : r = 1) (ht : t1 = 4) (hw : 0 < w) (hd : d ≤ rows) (h9 : r9 = 1) : rdQ f n r9 fa fat w d count rows uns wk wl s g := by
  obtain ⟨P, σ, z1, k1, hA, hc, hf, hR⟩ := rd_yes hL hr
  have h4 : tK f n (lnσ f n P σ).2 = 4 := k1.2.1.symm.trans ht
  obtain ⟨b1, b2, b3, -, -, -⟩ := hA.1
  have e : rdE f n (lnP f n P σ) (lnσ f n P σ) = lnσ f n P σ := by
    unfold rdE
    rw [ck_n (show ¬ tK f n (lnσ f n P σ).2 ≠ 4 from fun q => q h4), ck_n (show ¬ (pW (lnP f n P σ) ≤ 0 ∨ pR (lnP f n P σ) < pD (lnP f n P σ)) by omega)]
  rw [k801 hi, rdL_st (fun q => by have := q.2; omega), e] at hR
  refine Or.inl ⟨h9, ?_⟩
  rw [hR]
  exact ⟨z1, hf, hc, hA, hw, hd⟩
theorem rd_lack {f : Nat → Int32} {n i r t1 s1 p1 fa fat w d count rows uns wk wl r9 fa9 fat9 : Int} {s : Nat → Int32} {g : GT} (hL : LnC f n i r t1 s1 p1 fa fat w d count rows uns wk wl s g) (hi : i ≤ 800) (hr : r = 1) (ht : t1 = 4) (hw : w ≤ 0 ∨ rows < d) (h9 : r9 = 0) (hf9 : fa9 = 6) (ht9 : fat9 = s1) : rdQ f n r9 fa9 fat9 w d count rows uns wk wl s g := by
  obtain ⟨P, σ, z1, k1, hA, hc, hf, hR⟩ := rd_yes hL hr
  have h4 : tK f n (lnσ f n P σ).2 = 4 := k1.2.1.symm.trans ht
  obtain ⟨b1, b2, b3, -, -, -⟩ := hA.1
  have e : rdE f n (lnP f n P σ) (lnσ f n P σ) = (6, (lnσ f n P σ).2) := by
    unfold rdE
    rw [ck_n (show ¬ tK f n (lnσ f n P σ).2 ≠ 4 from fun q => q h4), ck_y (show pW (lnP f n P σ) ≤ 0 ∨ pR (lnP f n P σ) < pD (lnP f n P σ) by omega), fl_z z1]
  rw [k801 hi, rdL_st (fun q => by have := q.2; omega), e] at hR
  exact rdQ_k h9 hR (by decide) hf9 (ht9.trans k1.2.2.1)
theorem rd_form {f : Nat → Int32} {n i r t1 s1 p1 fa fat w d count rows uns wk wl r9 fa9 fat9 : Int} {s : Nat → Int32} {g : GT} (hL : LnC f n i r t1 s1 p1 fa fat w d count rows uns wk wl s g) (hi : i ≤ 800) (hr : r = 1) (ht : t1 ≠ 4) (ht3 : t1 ≠ 3) (h9 : r9 = 0) (hf9 : fa9 = 1) (ht9 : fat9 = s1) : rdQ f n r9 fa9 fat9 w d count rows uns wk wl s g := by
  obtain ⟨P, σ, z1, k1, hA, hc, hf, hR⟩ := rd_yes hL hr
  have h4 : tK f n (lnσ f n P σ).2 = t1 := k1.2.1.symm
  have e : rdE f n (lnP f n P σ) (lnσ f n P σ) = (1, (lnσ f n P σ).2) := by
    unfold rdE
    rw [ck_y (show tK f n (lnσ f n P σ).2 ≠ 4 from fun q => ht (h4.symm.trans q)), fl_z z1, ck_o (pn (show (1 : Int) ≠ 0 by decide))]
  rw [k801 hi, rdL_st (fun q => ht3 (h4.symm.trans q.2)), e] at hR
  exact rdQ_k h9 hR (by decide) hf9 (ht9.trans k1.2.2.1)
theorem rd_mark {f : Nat → Int32} {n i i1 r t1 s1 p1 fa fat w d count rows uns wk wl a1 a2 a3 : Int} {s : Nat → Int32} {g : GT} (hL : LnC f n i r t1 s1 p1 fa fat w d count rows uns wk wl s g) (hi : i ≤ 800) (hr : r = 1) (ht : t1 = 3) (hn : LkC f n p1 a1 a2 a3) (h1 : i1 = i + 1) : rdI f n i1 a1 a2 a3 fa w d count rows uns wk wl s g := by
  obtain ⟨P, σ, z1, k1, hA, hc, hf, hR⟩ := rd_yes hL hr
  have h3 : tK f n (lnσ f n P σ).2 = 3 := k1.2.1.symm.trans ht
  rw [k801 hi, rdL_go z1 h3, show 800 - i = 801 - i1 by omega] at hR
  obtain ⟨z2, k2⟩ := LkC.go k1 z1 hn
  exact ⟨hc, hf, _, _, z2, k2, hA, hR⟩
theorem rd_out {f : Nat → Int32} {n i tok st sp fa w d count rows uns wk wl r9 fa9 fat9 : Int} {s : Nat → Int32} {g : GT} (hI : rdI f n i tok st sp fa w d count rows uns wk wl s g) (hi : 800 < i) (h9 : r9 = 0) (hf9 : fa9 = 1) (ht9 : fat9 = st) : rdQ f n r9 fa9 fat9 w d count rows uns wk wl s g := by
  obtain ⟨hc, hf0, P, σ, hσ, hk, hA, hR⟩ := hI
  rw [show (801 - i).toNat = 0 by omega] at hR
  exact rdQ_k h9 (hR.trans (congrArg (Prod.mk P) (fl_z hσ))) (by decide) hf9 (ht9.trans hk.2.2.1)
