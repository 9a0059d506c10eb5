section
/-- one of four, the first that holds -/
noncomputable def wch (P0 P1 P2 P3 : Prop) : Int := @ite _ P0 (Classical.propDecidable _) 0 (@ite _ P1 (Classical.propDecidable _) 1 (@ite _ P2 (Classical.propDecidable _) 2 (@ite _ P3 (Classical.propDecidable _) 3 (-1))))
theorem wch_0 {P0 P1 P2 P3 : Prop} (h : P0) : wch P0 P1 P2 P3 = 0 := by
  unfold wch
  rw [if_pos h]
theorem wch_1 {P0 P1 P2 P3 : Prop} (h0 : ¬ P0) (h : P1) : wch P0 P1 P2 P3 = 1 := by
  unfold wch
  rw [if_neg h0, if_pos h]
theorem wch_2 {P0 P1 P2 P3 : Prop} (h0 : ¬ P0) (h1 : ¬ P1) (h : P2) : wch P0 P1 P2 P3 = 2 := by
  unfold wch
  rw [if_neg h0, if_neg h1, if_pos h]
theorem wch_3 {P0 P1 P2 P3 : Prop} (h0 : ¬ P0) (h1 : ¬ P1) (h2 : ¬ P2) (h : P3) : wch P0 P1 P2 P3 = 3 := by
  unfold wch
  rw [if_neg h0, if_neg h1, if_neg h2, if_pos h]
theorem wch_n {P0 P1 P2 P3 : Prop} (h0 : ¬ P0) (h1 : ¬ P1) (h2 : ¬ P2) (h : ¬ P3) : wch P0 P1 P2 P3 = -1 := by
  unfold wch
  rw [if_neg h0, if_neg h1, if_neg h2, if_neg h]
noncomputable def lw (f : Nat → Int32) (n j : Int) : Int := wch (isW f n 4 (txB "park") j) (isW f n 3 (txB "row") j) (isW f n 6 (txB "walker") j) (isW f n 4 (txB "walk") j)
noncomputable def kd (f : Nat → Int32) (n j : Int) : Int := wch (isW f n 5 (txB "guest") j) (isW f n 5 (txB "child") j) (isW f n 7 (txB "colonel") j) (isW f n 6 (txB "keeper") j)
theorem asc_park : asc 4 (txB "park") := by unfold asc; decide +kernel
theorem asc_row : asc 3 (txB "row") := by unfold asc; decide +kernel
theorem asc_walker : asc 6 (txB "walker") := by unfold asc; decide +kernel
theorem asc_walk : asc 4 (txB "walk") := by unfold asc; decide +kernel
theorem asc_guest : asc 5 (txB "guest") := by unfold asc; decide +kernel
theorem asc_child : asc 5 (txB "child") := by unfold asc; decide +kernel
theorem asc_colonel : asc 7 (txB "colonel") := by unfold asc; decide +kernel
theorem asc_keeper : asc 6 (txB "keeper") := by unfold asc; decide +kernel
theorem asc_wide : asc 4 (txB "wide") := by unfold asc; decide +kernel
theorem asc_deep : asc 4 (txB "deep") := by unfold asc; decide +kernel
theorem asc_errs : asc 4 (txB "errs") := by unfold asc; decide +kernel
theorem asc_slips : asc 5 (txB "slips") := by unfold asc; decide +kernel
theorem asc_at : asc 2 (txB "at") := by unfold asc; decide +kernel
theorem asc_to : asc 2 (txB "to") := by unfold asc; decide +kernel
theorem asc_steps : asc 5 (txB "steps") := by unfold asc; decide +kernel
theorem asc_fell : asc 4 (txB "fell") := by unfold asc; decide +kernel
theorem asc_dry : asc 3 (txB "dry") := by unfold asc; decide +kernel
/-- a fault where c holds -/
noncomputable def ck (c : Prop) (k : Int) (σ : Int × Int) : Int × Int := @ite _ c (Classical.propDecidable _) (fl k σ) σ
theorem ck_o {c : Prop} {k : Int} {σ : Int × Int} (h : σ.1 ≠ 0) : ck c k σ = σ := by
  unfold ck
  by_cases hc : c
  · rw [if_pos hc, fl_o h]
  · rw [if_neg hc]
theorem ck_y {c : Prop} {k : Int} {σ : Int × Int} (h : c) : ck c k σ = fl k σ := by
  unfold ck
  rw [if_pos h]
theorem ck_n {c : Prop} {k : Int} {σ : Int × Int} (h : ¬ c) : ck c k σ = σ := by
  unfold ck
  rw [if_neg h]
theorem ck_2 {c : Prop} {k : Int} {σ : Int × Int} : (ck c k σ).2 = σ.2 := by
  unfold ck fl
  by_cases hc : c
  · rw [if_pos hc]
    split <;> rfl
  · rw [if_neg hc]
/-- the lines -/
noncomputable def fPk (f : Nat → Int32) (n w : Int) (σ : Int × Int) : Int × Int := rP f n 5 (txB "slips") 0 100 (rP f n 4 (txB "errs") 0 100 (rP f n 4 (txB "deep") 2 4 (rP f n 4 (txB "wide") 2 5 (go f n (ck (0 < w) 3 σ)))))
noncomputable def vWi (f : Nat → Int32) (n w : Int) (σ : Int × Int) : Int := tN f n (nd f n 4 (txB "wide") (go f n (ck (0 < w) 3 σ))).2
noncomputable def vDe (f : Nat → Int32) (n w : Int) (σ : Int × Int) : Int := tN f n (nd f n 4 (txB "deep") (rP f n 4 (txB "wide") 2 5 (go f n (ck (0 < w) 3 σ)))).2
noncomputable def vEr (f : Nat → Int32) (n w : Int) (σ : Int × Int) : Int := tN f n (nd f n 4 (txB "errs") (rP f n 4 (txB "deep") 2 4 (rP f n 4 (txB "wide") 2 5 (go f n (ck (0 < w) 3 σ))))).2
noncomputable def vSl (f : Nat → Int32) (n w : Int) (σ : Int × Int) : Int := tN f n (nd f n 5 (txB "slips") (rP f n 4 (txB "errs") 0 100 (rP f n 4 (txB "deep") 2 4 (rP f n 4 (txB "wide") 2 5 (go f n (ck (0 < w) 3 σ)))))).2
noncomputable def lbS (f : Nat → Int32) (n w d rows many most : Int) (σ : Int × Int) : Int × Int := go f n (ck (w ≤ 0 ∨ rows < d) 6 (ck (many = most) 5 σ))
/-- a name told before -/
def tol (g : Nat → Int64) (many c : Int) : Prop := ∃ k : Nat, (k : Int) < many ∧ (g k).toInt = c
noncomputable def nmS (f : Nat → Int32) (n : Int) (g : Nat → Int64) (many : Int) (σ : Int × Int) : Int × Int := ck (tol g many (tC f n σ.2)) 3 (ck (tK f n σ.2 ≠ 1 ∨ lw f n σ.2 ≠ -1) 1 σ)
noncomputable def kdS (f : Nat → Int32) (n : Int) (σ : Int × Int) : Int × Int := go f n (ck (kd f n σ.2 = -1) 1 σ)
noncomputable def fWk (f : Nat → Int32) (n w d rows many : Int) (s : Nat → Int32) (g : Nat → Int64) (σ : Int × Int) : Int × Int := rPl f n w d s 0 (nd f n 2 (txB "to") (rPl f n w d s 0 (nd f n 2 (txB "at") (kdS f n (go f n (nmS f n g many (lbS f n w d rows many 4 σ)))))))
noncomputable def stpS (f : Nat → Int32) (n w d : Int) (σ : Int × Int) : Int × Int := rP f n 5 (txB "steps") 1 (min 3 (d - 1 - tN f n (rW f n 0 (w - 1) σ).2)) (rW f n 0 (d - 1) (rW f n 0 (w - 1) σ))
noncomputable def feS (f : Nat → Int32) (n : Int) (σ : Int × Int) : Int × Int := go f n (ck (¬ isW f n 4 (txB "fell") σ.2 ∧ ¬ isW f n 3 (txB "dry") σ.2) 1 σ)
noncomputable def fWl (f : Nat → Int32) (n w d rows many : Int) (σ : Int × Int) : Int × Int := feS f n (stpS f n w d (lbS f n w d rows many 6 σ))
/-- a row's letters -/
def rwL (c : Int) : Prop := c = 111 ∨ c = 100 ∨ c = 103 ∨ c = 104 ∨ c = 117
def rwK (f : Nat → Int32) (n w j : Int) : Prop := tK f n j = 1 ∧ tE f n j - tS f n j = w ∧ ∀ k : Int, tS f n j ≤ k → k < tE f n j → rwL (f k.toNat).toInt
/-- letters u from s on -/
def cu (f : Nat → Int32) (s : Nat) : Nat → Int
  | 0 => 0
  | k + 1 => cu f s k + (if (f (s + k)).toInt = 117 then 1 else 0)
noncomputable def fRw (f : Nat → Int32) (n w d rows uns : Int) (σ : Int × Int) : Int × Int := go f n (ck (5 < uns + cu f (tS f n (go f n (ck (w ≤ 0) 6 (ck (0 < w ∧ rows = d) 5 σ))).2).toNat w.toNat) 5 (ck (¬ rwK f n w (go f n (ck (w ≤ 0) 6 (ck (0 < w ∧ rows = d) 5 σ))).2) 1 (go f n (ck (w ≤ 0) 6 (ck (0 < w ∧ rows = d) 5 σ)))))
/-- the class: what a word of four says -/
def fwP (f : Nat → Int32) (tok st sp : Int) (F : Int → Int → Int) (n r : Int) : Prop := ∀ j, LkC f n j tok st sp → r = F n j
/-- readPart of the class: a word, then a whole -/
theorem qR_n {f : Nat → Int32} {n : Int} {sn : Nat} {sf : Nat → Int32} {lo hi tok st sp r t1 s1 p1 fa fat : Int} (hw : qW f n sn sf tok st sp r t1 s1 p1 fa fat) (hr : r = 0) (ha : asc sn sf) {σ : Int × Int} (hσ : σ.1 = 0) (hk : LkC f n σ.2 tok st sp) : OcC f n (rP f n sn sf lo hi σ) 0 t1 s1 p1 fa fat := by
  rcases hw σ hσ ha hk with q | q
  · omega
  · refine Or.inr ⟨rfl, ?_⟩
    unfold rP
    rw [rW_o q.2.1]
    exact q.2
theorem qR_y {f : Nat → Int32} {n : Int} {sn : Nat} {sf : Nat → Int32} {lo hi tok st sp r t1 s1 p1 fa fat r2 nu t2 s2 p2 fa2 fat2 : Int} (hw : qW f n sn sf tok st sp r t1 s1 p1 fa fat) (hr : r ≠ 0) (hn : qN f n lo hi t1 s1 p1 r2 nu t2 s2 p2 fa2 fat2) (ha : asc sn sf) {σ : Int × Int} (hσ : σ.1 = 0) (hk : LkC f n σ.2 tok st sp) : OcC f n (rP f n sn sf lo hi σ) r2 t2 s2 p2 fa2 fat2 ∧ (r2 = 1 → nu = tN f n (nd f n sn sf σ).2) := by
  rcases hw σ hσ ha hk with q | q
  · exact hn _ q.2.1 q.2.2
  · omega
theorem OcC.z {f : Nat → Int32} {n : Int} {σ : Int × Int} {r t1 s1 p1 fa fat : Int} (h : OcC f n σ r t1 s1 p1 fa fat) (hr : r ≠ 0) : σ.1 = 0 ∧ LkC f n σ.2 t1 s1 p1 := by
  rcases h with q | q
  · exact q.2
  · exact absurd q.1 hr
theorem OcC.o {f : Nat → Int32} {n : Int} {σ : Int × Int} {r t1 s1 p1 fa fat : Int} (h : OcC f n σ r t1 s1 p1 fa fat) (hr : r = 0) : σ.1 ≠ 0 ∧ fa = σ.1 ∧ fat = tS f n σ.2 := by
  rcases h with q | q
  · omega
  · exact q.2
theorem LkC.go {f : Nat → Int32} {n tok st sp t1 s1 p1 : Int} {σ : Int × Int} (hk : LkC f n σ.2 tok st sp) (hσ : σ.1 = 0) (h : LkC f n sp t1 s1 p1) : (go f n σ).1 = 0 ∧ LkC f n (go f n σ).2 t1 s1 p1 := by
  rw [go_z hσ]
  refine ⟨rfl, ?_⟩
  have h4 : sp = tE f n σ.2 := hk.2.2.2
  rw [← h4]
  exact h
/-- a fault of the class, at the token that is looked at -/
theorem LkC.ck {f : Nat → Int32} {n tok st sp : Int} {σ : Int × Int} {c : Prop} {k fa fat : Int} (hk : LkC f n σ.2 tok st sp) (hσ : σ.1 = 0) (hc : c) (h0 : k ≠ 0) (hf : fa = k) (ht : fat = st) : (ck c k σ).1 ≠ 0 ∧ fa = (ck c k σ).1 ∧ fat = tS f n (ck c k σ).2 := by
  rw [ck_y hc, fl_z hσ]
  exact ⟨h0, hf, ht.trans hk.2.2.1⟩
/-- sortAt of the class -/
def saP (count : Int) (g : Nat → Int32) (c r : Int) : Prop := (0 ≤ c ∧ c < count ∧ r = (g c.toNat).toInt) ∨ ((c < 0 ∨ count ≤ c) ∧ r = 3)
/-- readPlace of the class -/
def qP (f : Nat → Int32) (n w d count : Int) (g : Nat → Int32) (z tok st sp r num1 t1 s1 p1 fa fat : Int) : Prop := count = w * d → ∀ σ : Int × Int, σ.1 = 0 → LkC f n σ.2 tok st sp → OcC f n (rPl f n w d g z σ) r t1 s1 p1 fa fat ∧ (r = 1 → num1 = sC f n w σ)
theorem qP_1 {f : Nat → Int32} {n w d count : Int} {g : Nat → Int32} {z tok st sp r num1 t1 s1 p1 fa fat r1 nu1 lo hi : Int} (h1 : qN f n lo hi tok st sp r1 nu1 t1 s1 p1 fa fat) (hl : lo = 0) (hh : hi = w - 1) (e1 : r1 = 0) (hr : r = 0) : qP f n w d count g z tok st sp r num1 t1 s1 p1 fa fat := by
  subst hl hh
  intro hc σ hσ hk
  obtain ⟨o1, -⟩ := h1 σ hσ hk
  obtain ⟨z1, a1, b1⟩ := o1.o e1
  refine ⟨Or.inr ⟨hr, ?_⟩, fun q => by omega⟩
  unfold rPl
  rw [wa_o z1, hg_o z1, go_o z1]
  exact ⟨z1, a1, b1⟩
theorem go_ne {f : Nat → Int32} {n : Int} {σ : Int × Int} (h : (go f n σ).1 ≠ 0) : σ.1 ≠ 0 ∧ go f n σ = σ := by
  have h1 : σ.1 ≠ 0 := fun q => h (by rw [go_z q])
  exact ⟨h1, go_o h1⟩
theorem qP_2 {f : Nat → Int32} {n w d count : Int} {g : Nat → Int32} {z tok st sp r num1 t1 s1 p1 fa fat r1 nu1 lo hi r2 nu2 t2 s2 p2 fa2 fat2 lo2 hi2 : Int} (h1 : qN f n lo hi tok st sp r1 nu1 t1 s1 p1 fa fat) (hl : lo = 0) (hh : hi = w - 1) (e1 : r1 ≠ 0) (h2 : qN f n lo2 hi2 t1 s1 p1 r2 nu2 t2 s2 p2 fa2 fat2) (hl2 : lo2 = 0) (hh2 : hi2 = d - 1) (e2 : r2 = 0) (hr : r = 0) : qP f n w d count g z tok st sp r num1 t2 s2 p2 fa2 fat2 := by
  subst hl hh hl2 hh2
  intro hc σ hσ hk
  obtain ⟨o1, -⟩ := h1 σ hσ hk
  obtain ⟨z1, k1⟩ := o1.z e1
  obtain ⟨o2, -⟩ := h2 _ z1 k1
  obtain ⟨z2, a2, b2⟩ := o2.o e2
  obtain ⟨z3, e3⟩ := go_ne (σ := wa f n 0 (d - 1) (rW f n 0 (w - 1) σ)) z2
  have e4 : rW f n 0 (d - 1) (rW f n 0 (w - 1) σ) = wa f n 0 (d - 1) (rW f n 0 (w - 1) σ) := e3
  rw [e4] at a2 b2
  refine ⟨Or.inr ⟨hr, ?_⟩, fun q => by omega⟩
  unfold rPl
  rw [hg_o z3, go_o z3]
  exact ⟨z3, a2, b2⟩
theorem pl_in {w d r c : Int} (h0 : 0 ≤ c) (h1 : c ≤ w - 1) (h2 : 0 ≤ r) (h3 : r ≤ d - 1) : 0 ≤ w * r + c ∧ w * r + c < w * d := by
  have e := cell_lt (w := w) (d := d) (r := r) (c := c) (by omega) h3 h1
  have g := Int.mul_nonneg (show 0 ≤ w by omega) h2
  omega
theorem qP_y {f : Nat → Int32} {n w d count : Int} {g : Nat → Int32} {z tok st sp r num1 t1 s1 p1 fa fat r1 nu1 lo hi r2 nu2 t2 s2 p2 fa2 fat2 lo2 hi2 fa3 fat3 : Int} (h1 : qN f n lo hi tok st sp r1 nu1 t1 s1 p1 fa fat) (hl : lo = 0) (hh : hi = w - 1) (e1 : r1 = 1) (h2 : qN f n lo2 hi2 t1 s1 p1 r2 nu2 t2 s2 p2 fa2 fat2) (hl2 : lo2 = 0) (hh2 : hi2 = d - 1) (e2 : r2 = 1) (hr : r = 1) (hc9 : num1 = w * nu2 + nu1) {r3 : Int} (hz : z ≠ 0 ∨ (saP count g num1 r3 ∧ r3 ≠ 3)) : qP f n w d count g z tok st sp r num1 t2 s2 p2 fa3 fat3 := by
  subst hl hh hl2 hh2
  intro hc σ hσ hk
  obtain ⟨o1, n1⟩ := h1 σ hσ hk
  obtain ⟨z1, k1⟩ := o1.z (by omega)
  obtain ⟨o2, n2⟩ := h2 _ z1 k1
  obtain ⟨z2, k2⟩ := o2.z (by omega)
  have m1 := n1 e1
  have m2 := n2 e2
  obtain ⟨-, -, b1, b2, -⟩ := rW_0 z1
  obtain ⟨-, q0, q1, q2, q3⟩ := rW_0 z2
  have hw : wa f n 0 (d - 1) (rW f n 0 (w - 1) σ) = rW f n 0 (w - 1) σ := by
    unfold wa
    rw [if_neg (fun h => h q0), if_neg (by omega)]
  have hsC : sC f n w σ = num1 := by unfold sC; rw [hc9, m1, m2]
  have hh : hg g z (sC f n w σ) (rW f n 0 (w - 1) σ) = rW f n 0 (w - 1) σ := by
    unfold hg
    rw [if_neg]
    rw [hsC]
    intro h
    have hp := pl_in (w := w) (d := d) b1 b2 q1 q2
    rcases hz with h3 | ⟨h3, h4⟩
    · exact h3 h.1
    · rcases h3 with h5 | h5
      · omega
      · rw [m1, m2] at hc9; omega
  refine ⟨Or.inl ⟨hr, ?_⟩, fun _ => hsC.symm⟩
  unfold rPl
  rw [hw, hh, go_z z1]
  rw [q3] at k2
  exact ⟨rfl, k2⟩
theorem qP_7 {f : Nat → Int32} {n w d count : Int} {g : Nat → Int32} {z tok st sp r num1 num2 t1 s1 p1 fa fat r1 nu1 lo hi r2 nu2 t2 s2 p2 fa2 fat2 lo2 hi2 fa3 fat3 t3 s3 p3 : Int} (h1 : qN f n lo hi tok st sp r1 nu1 t1 s1 p1 fa fat) (hl : lo = 0) (hh : hi = w - 1) (e1 : r1 = 1) (h2 : qN f n lo2 hi2 t1 s1 p1 r2 nu2 t2 s2 p2 fa2 fat2) (hl2 : lo2 = 0) (hh2 : hi2 = d - 1) (e2 : r2 = 1) (hr : r = 0) (hc9 : num1 = w * nu2 + nu1) {r3 : Int} (hz : z = 0) (hs : saP count g num1 r3) (h3 : r3 = 3) (hf : fa3 = 7) (ht : fat3 = s1) : qP f n w d count g z tok st sp r num2 t3 s3 p3 fa3 fat3 := by
  subst hl hh hl2 hh2
  intro hc σ hσ hk
  obtain ⟨o1, n1⟩ := h1 σ hσ hk
  obtain ⟨z1, k1⟩ := o1.z (by omega)
  obtain ⟨o2, n2⟩ := h2 _ z1 k1
  obtain ⟨z2, k2⟩ := o2.z (by omega)
  have m1 := n1 e1
  have m2 := n2 e2
  obtain ⟨-, -, b1, b2, -⟩ := rW_0 z1
  obtain ⟨-, q0, q1, q2, q3⟩ := rW_0 z2
  have hw : wa f n 0 (d - 1) (rW f n 0 (w - 1) σ) = rW f n 0 (w - 1) σ := by
    unfold wa
    rw [if_neg (fun h => h q0), if_neg (by omega)]
  have hsC : sC f n w σ = num1 := by unfold sC; rw [hc9, m1, m2]
  have hp := pl_in (w := w) (d := d) b1 b2 q1 q2
  rw [m1, m2] at hc9
  have hg3 : (g num1.toNat).toInt = 3 := by
    rcases hs with h5 | h5
    · omega
    · omega
  have hh : hg g z (sC f n w σ) (rW f n 0 (w - 1) σ) = (7, (rW f n 0 (w - 1) σ).2) := by
    unfold hg
    rw [hsC, if_pos ⟨hz, hg3⟩, fl_z z1]
  refine ⟨Or.inr ⟨hr, ?_⟩, fun q => by omega⟩
  unfold rPl
  rw [hw, hh, go_o (pn (show (7 : Int) ≠ 0 by decide))]
  exact ⟨pn (by decide), hf, ht.trans k1.2.2.1⟩
theorem qN_c {f : Nat → Int32} {n lo hi lo' hi' tok st sp r nu t1 s1 p1 fa fat : Int} (h : qN f n lo hi tok st sp r nu t1 s1 p1 fa fat) (e1 : lo = lo') (e2 : hi = hi') : qN f n lo' hi' tok st sp r nu t1 s1 p1 fa fat := by
  subst e1 e2; exact h
/-- readPark of the class -/
def qK (f : Nat → Int32) (n w tok st sp r t1 s1 p1 fa fat w1 d1 c1 e1 l1 : Int) : Prop := ∀ σ : Int × Int, σ.1 = 0 → LkC f n σ.2 tok st sp → OcC f n (fPk f n w σ) r t1 s1 p1 fa fat ∧ (r = 1 → w1 = vWi f n w σ ∧ d1 = vDe f n w σ ∧ c1 = vWi f n w σ * vDe f n w σ ∧ e1 = vEr f n w σ ∧ l1 = vSl f n w σ)
/-- hasName of the class, isName of the reference's park -/
def ntl (g : Nat → Int64) (i : Int) (c : Int64) : Prop := ∀ k : Nat, (k : Int) < i → g k ≠ c
def hnP (g : Nat → Int64) (many : Int) (c : Int64) (r : Int) : Prop := (r = 1 ∧ tol g many c.toInt) ∨ (r = 0 ∧ ¬ tol g many c.toInt)
theorem ntl_0 {g : Nat → Int64} {i : Int} {c : Int64} (h : i ≤ 0) : ntl g i c := fun k hk => by omega
theorem ntl_up {g : Nat → Int64} {c x : Int64} {i : Int32} {i' : Int} (h : ntl g i.toInt c) (ex : x = g i.toNatClampNeg) (hx : ¬ x = c) (h0 : 0 ≤ i.toInt) (e : i' = i.toInt + 1) : ntl g i' c := by
  intro k hk
  by_cases hc : (k : Int) < i.toInt
  · exact h k hc
  · have hk' : k = i.toNatClampNeg := by
      have e1 : i.toNatClampNeg = i.toInt.toNat := rfl
      omega
    rw [hk', ← ex]
    exact hx
theorem hnP_y {g : Nat → Int64} {many r : Int} {c x : Int64} {i : Int32} (ex : x = g i.toNatClampNeg) (hx : x = c) (h0 : 0 ≤ i.toInt) (h1 : i.toInt < many) (hr : r = 1) : hnP g many c r := by
  refine Or.inl ⟨hr, i.toNatClampNeg, ?_, ?_⟩
  · have e1 : i.toNatClampNeg = i.toInt.toNat := rfl
    omega
  · rw [← ex, hx]
theorem hnP_n {g : Nat → Int64} {many r i : Int} {c : Int64} (h : ntl g i c) (hi : many ≤ i) (hr : r = 0) : hnP g many c r := by
  refine Or.inr ⟨hr, fun ⟨k, h1, h2⟩ => ?_⟩
  exact h k (by omega) (Int64.toInt_inj.mp h2)
/-- one more in a row -/
def ap1 (f f1 : Nat → Int32) (k v : Int) : Prop := (f1 k.toNat).toInt = v ∧ ∀ j : Nat, (j : Int) < k → f1 j = f j
def apL (f f1 : Nat → Int64) (k v : Int) : Prop := (f1 k.toNat).toInt = v ∧ ∀ j : Nat, (j : Int) < k → f1 j = f j
theorem ap1_of {f f1 : Nat → Int32} {i v : Int32} (e : upd f (Int32.toNatClampNeg i) v = f1) (h0 : 0 ≤ i.toInt) : ap1 f f1 i.toInt v.toInt := by
  have e1 : i.toNatClampNeg = i.toInt.toNat := rfl
  rw [← e]
  refine ⟨?_, fun j hj => ?_⟩
  · unfold upd; rw [if_pos e1.symm]
  · unfold upd; rw [if_neg (by omega)]
/-- a row's letter by its place in the text odghu -/
theorem ix5 {c r : Int} (h : ixP (txB "odghu") 5 c r) (h0 : 0 ≤ c) (h1 : c ≤ 127) : (r = -1 ∧ ¬ rwL c) ∨ (r = 0 ∧ c = 111) ∨ (r = 1 ∧ c = 100) ∨ (r = 2 ∧ c = 103) ∨ (r = 3 ∧ c = 104) ∨ (r = 4 ∧ c = 117) := by
  have t0 : (txB "odghu" 0).toInt = 111 := by decide +kernel
  have t1 : (txB "odghu" 1).toInt = 100 := by decide +kernel
  have t2 : (txB "odghu" 2).toInt = 103 := by decide +kernel
  have t3 : (txB "odghu" 3).toInt = 104 := by decide +kernel
  have t4 : (txB "odghu" 4).toInt = 117 := by decide +kernel
  rcases h h0 h1 with ⟨q1, q2⟩ | ⟨q1, q2, q3, -⟩
  · refine Or.inl ⟨q1, fun q => ?_⟩
    have a0 := q2 0 (by decide)
    have a1 := q2 1 (by decide)
    have a2 := q2 2 (by decide)
    have a3 := q2 3 (by decide)
    have a4 := q2 4 (by decide)
    unfold rwL at q
    omega
  · rcases (show r = 0 ∨ r = 1 ∨ r = 2 ∨ r = 3 ∨ r = 4 by omega) with rfl | rfl | rfl | rfl | rfl
    · exact Or.inr (Or.inl ⟨rfl, q3.symm.trans t0⟩)
    · exact Or.inr (Or.inr (Or.inl ⟨rfl, q3.symm.trans t1⟩))
    · exact Or.inr (Or.inr (Or.inr (Or.inl ⟨rfl, q3.symm.trans t2⟩)))
    · exact Or.inr (Or.inr (Or.inr (Or.inr (Or.inl ⟨rfl, q3.symm.trans t3⟩))))
    · exact Or.inr (Or.inr (Or.inr (Or.inr (Or.inr ⟨rfl, q3.symm.trans t4⟩))))
/-- the letters ahead of i are a row's -/
def rwA (f : Nat → Int32) (st i : Int) : Prop := ∀ k : Int, st ≤ k → k < i → rwL (f k.toNat).toInt
/-- isRow of the class -/
def irP (f : Nat → Int32) (tok st sp w r : Int) : Prop := ∀ n j, LkC f n j tok st sp → (r = 1 ∧ rwK f n w j) ∨ (r = 0 ∧ ¬ rwK f n w j)
theorem rwA_0 {f : Nat → Int32} {st i : Int} (h : i ≤ st) : rwA f st i := fun k k1 k2 => by omega
theorem rwA_up {f : Nat → Int32} {st sp i' r : Int} {i x y : Int32} (h : rwA f st i.toInt) (hd : wds f st sp) (h1 : st ≤ i.toInt) (h2 : i.toInt < sp) (ex : x = f i.toNatClampNeg) (ey : (x.toUInt32 % 65536).toInt32 = y) (hi : ixP (txB "odghu") 5 y.toInt r) (hr : 0 ≤ r) (e : i' = i.toInt + 1) : rwA f st i' := by
  intro k k1 k2
  by_cases hc : k < i.toInt
  · exact h k k1 hc
  · have hk : k = i.toInt := by omega
    have g := hd.2 i.toInt h1 h2
    have e1 : (f i.toInt.toNat).toInt = x.toInt := by rw [ex]; rfl
    have e2 := ch_c ey (by omega) (by omega)
    have e3 := ix5 hi (by omega) (by omega)
    rw [hk, e1]
    unfold rwL
    rcases e3 with q | q | q | q | q | q
    · omega
    · omega
    · omega
    · omega
    · omega
    · omega
end
section
set_option maxHeartbeats 4000000 in
set_option maxRecDepth 100000 in
theorem g9_lineWord (l : Launch) (dC : Nat → ClassId) (dI : Nat → Nat → Nat) (cy : Nat → ClassId) (h0 : Nat) (t_bytes : Nat) (t_length : Int32) (t_end : Int32) (t_token : Int32) (t_start : Int32) (t_stop : Int32) (t_number : Int32) (t_fault : Int32) (t_faultAt : Int32) (t_bytesf : Nat → Int32) (ht_length : 0 ≤ t_length.toInt ∧ t_length.toInt ≤ 800) (ht_end : 0 ≤ t_end.toInt ∧ t_end.toInt ≤ 800) (ht_start : 0 ≤ t_start.toInt ∧ t_start.toInt ≤ 800) (ht_stop : 0 ≤ t_stop.toInt ∧ t_stop.toInt ≤ 800) (hrel : t_start.toInt ≤ t_stop.toInt ∧ t_stop.toInt ≤ t_end.toInt) : ctI l dC dI cy hp yX9_lineWord cX9_lineWord 1 .int ({ frames := 5, cells := 0, slots := 0, locals := 107 } : Room) [.ref h0] [(h0, .inr (8, [.ref t_bytes, .int t_length, .int t_end, .int t_token, .int t_start, .int t_stop, .int t_number, .int t_fault, .int t_faultAt])), (t_bytes, .inl (cy 0, 800, .inl t_bytesf))] (S := Unit) (fun r _ => ((-1) ≤ r.toInt ∧ r.toInt ≤ 3) ∧ (fwP t_bytesf t_token.toInt t_start.toInt t_stop.toInt (lw t_bytesf) t_end.toInt r.toInt)) (fun _ => [(h0, .inr (8, [.ref t_bytes, .int t_length, .int t_end, .int t_token, .int t_start, .int t_stop, .int t_number, .int t_fault, .int t_faultAt])), (t_bytes, .inl (cy 0, 800, .inl t_bytesf))]) := by
  refine ctI.of (by decide +kernel) (Nat.le_of_ble_eq_true rfl) ?_
  intro p e s m args below meth c A ls Q hQ X hr hlocks hin hA hP hD hS hl
  have hx := X.1
  have hb := X.2.1
  have hK := X.2.2.2.2.2.1
  have hl : lv_has ls 1 [(0, .ref h0)] := hl
  refine lv_aload_n hx hb dX9_lineWord_0 rfl (lv_at hl 0 rfl) ?_
  obtain ⟨q_1, v_2, hq_1, hv_2⟩ := X.2.2.2.2.2.2.2.2.2.2 ("HahaLawn$Tape", 203, "park") (List.mem_of_getElem? (i := 0) rfl)
  refine va_ldcS hx hb X.2.2.2.1 hq_1 dX9_lineWord_1 ?_
  refine sl_Ic (rVe_I (wc := [(h0, .inr (8, [.ref t_bytes, .int t_length, .int t_end, .int t_token, .int t_start, .int t_stop, .int t_number, .int t_fault, .int t_faultAt])), (t_bytes, .inl (cy 0, 800, .inl t_bytesf))]) (As := [.ref q_1]) (rest := []) X (andX_st hp_st (sO_st q_1 v_2 4 (txB "park"))) ⟨X.2.2.2.2.2.2.2, hv_2⟩ (g9_isWord l dC dI cy h0 t_bytes t_length t_end t_token t_start t_stop t_number t_fault t_faultAt t_bytesf q_1 v_2 4 (txB "park") ht_length ht_end ht_start ht_stop hrel (by first | decide | omega)) kX9_isWord vX9_isWord mX9_183 hP hD hS hA [0, 1] (by decide) rfl 0 (ci := 8) rfl rfl rfl hl rfl rfl (Nat.le_of_ble_eq_true rfl) dX9_lineWord_3 ⟨(Nat.le_of_ble_eq_true rfl), (Nat.le_of_ble_eq_true rfl)⟩ ⟨(Nat.le_of_ble_eq_true rfl), (Nat.le_of_ble_eq_true rfl)⟩) hP hD hS hA [0, 1] [false, false] rfl rfl rfl (fun r_3 u_5 H locs k_4 hP hD hS => ?_)
  have k_4 : (0 ≤ r_3.toInt ∧ r_3.toInt ≤ 1) ∧ (wdP t_bytesf t_token.toInt t_start.toInt t_stop.toInt 4 (txB "park") r_3.toInt) := k_4
  obtain ⟨k_4_0, k_4_1⟩ := k_4
  have hPD := vPD (ws' := [(h0, .inr (8, [.ref t_bytes, .int t_length, .int t_end, .int t_token, .int t_start, .int t_stop, .int t_number, .int t_fault, .int t_faultAt])), (t_bytes, .inl (cy 0, 800, .inl t_bytesf))]) hP hD rfl
  have hP := hPD.1
  have hD := hPD.2
  refine lv_if_eq (tgt := 11) hx hb dX9_lineWord_6 (by decide) (fun h_6 => ?_) (fun h_6 => ?_)
  · have h_6 : r_3.toInt = 0 := c_eq h_6
    refine lv_aload_n hx hb dX9_lineWord_11 rfl (lv_at hl 0 rfl) ?_
    obtain ⟨q_7, v_8, hq_7, hv_8⟩ := X.2.2.2.2.2.2.2.2.2.2 ("HahaLawn$Tape", 205, "row") (List.mem_of_getElem? (i := 1) rfl)
    refine va_ldcS hx hb X.2.2.2.1 hq_7 dX9_lineWord_12 ?_
    refine sl_Ic (rVe_I (wc := [(h0, .inr (8, [.ref t_bytes, .int t_length, .int t_end, .int t_token, .int t_start, .int t_stop, .int t_number, .int t_fault, .int t_faultAt])), (t_bytes, .inl (cy 0, 800, .inl t_bytesf))]) (As := [.ref q_7]) (rest := []) X (andX_st hp_st (sO_st q_7 v_8 3 (txB "row"))) ⟨X.2.2.2.2.2.2.2, hv_8⟩ (g9_isWord l dC dI cy h0 t_bytes t_length t_end t_token t_start t_stop t_number t_fault t_faultAt t_bytesf q_7 v_8 3 (txB "row") ht_length ht_end ht_start ht_stop hrel (by first | decide | omega)) kX9_isWord vX9_isWord mX9_183 hP hD hS hA [0, 1] (by decide) rfl 0 (ci := 8) rfl rfl rfl hl rfl rfl (Nat.le_of_ble_eq_true rfl) dX9_lineWord_14 ⟨(Nat.le_of_ble_eq_true rfl), (Nat.le_of_ble_eq_true rfl)⟩ ⟨(Nat.le_of_ble_eq_true rfl), (Nat.le_of_ble_eq_true rfl)⟩) hP hD hS hA [0, 1] [false, false] rfl rfl rfl (fun r_9 u_11 H locs k_10 hP hD hS => ?_)
    have k_10 : (0 ≤ r_9.toInt ∧ r_9.toInt ≤ 1) ∧ (wdP t_bytesf t_token.toInt t_start.toInt t_stop.toInt 3 (txB "row") r_9.toInt) := k_10
    obtain ⟨k_10_0, k_10_1⟩ := k_10
    have hPD := vPD (ws' := [(h0, .inr (8, [.ref t_bytes, .int t_length, .int t_end, .int t_token, .int t_start, .int t_stop, .int t_number, .int t_fault, .int t_faultAt])), (t_bytes, .inl (cy 0, 800, .inl t_bytesf))]) hP hD rfl
    have hP := hPD.1
    have hD := hPD.2
    refine lv_if_eq (tgt := 22) hx hb dX9_lineWord_17 (by decide) (fun h_12 => ?_) (fun h_12 => ?_)
    · have h_12 : r_9.toInt = 0 := c_eq h_12
      refine lv_aload_n hx hb dX9_lineWord_22 rfl (lv_at hl 0 rfl) ?_
      obtain ⟨q_13, v_14, hq_13, hv_14⟩ := X.2.2.2.2.2.2.2.2.2.2 ("HahaLawn$Tape", 207, "walker") (List.mem_of_getElem? (i := 2) rfl)
      refine va_ldcS hx hb X.2.2.2.1 hq_13 dX9_lineWord_23 ?_
      refine sl_Ic (rVe_I (wc := [(h0, .inr (8, [.ref t_bytes, .int t_length, .int t_end, .int t_token, .int t_start, .int t_stop, .int t_number, .int t_fault, .int t_faultAt])), (t_bytes, .inl (cy 0, 800, .inl t_bytesf))]) (As := [.ref q_13]) (rest := []) X (andX_st hp_st (sO_st q_13 v_14 6 (txB "walker"))) ⟨X.2.2.2.2.2.2.2, hv_14⟩ (g9_isWord l dC dI cy h0 t_bytes t_length t_end t_token t_start t_stop t_number t_fault t_faultAt t_bytesf q_13 v_14 6 (txB "walker") ht_length ht_end ht_start ht_stop hrel (by first | decide | omega)) kX9_isWord vX9_isWord mX9_183 hP hD hS hA [0, 1] (by decide) rfl 0 (ci := 8) rfl rfl rfl hl rfl rfl (Nat.le_of_ble_eq_true rfl) dX9_lineWord_25 ⟨(Nat.le_of_ble_eq_true rfl), (Nat.le_of_ble_eq_true rfl)⟩ ⟨(Nat.le_of_ble_eq_true rfl), (Nat.le_of_ble_eq_true rfl)⟩) hP hD hS hA [0, 1] [false, false] rfl rfl rfl (fun r_15 u_17 H locs k_16 hP hD hS => ?_)
      have k_16 : (0 ≤ r_15.toInt ∧ r_15.toInt ≤ 1) ∧ (wdP t_bytesf t_token.toInt t_start.toInt t_stop.toInt 6 (txB "walker") r_15.toInt) := k_16
      obtain ⟨k_16_0, k_16_1⟩ := k_16
      have hPD := vPD (ws' := [(h0, .inr (8, [.ref t_bytes, .int t_length, .int t_end, .int t_token, .int t_start, .int t_stop, .int t_number, .int t_fault, .int t_faultAt])), (t_bytes, .inl (cy 0, 800, .inl t_bytesf))]) hP hD rfl
      have hP := hPD.1
      have hD := hPD.2
      refine lv_if_eq (tgt := 33) hx hb dX9_lineWord_28 (by decide) (fun h_18 => ?_) (fun h_18 => ?_)
      · have h_18 : r_15.toInt = 0 := c_eq h_18
        refine lv_aload_n hx hb dX9_lineWord_33 rfl (lv_at hl 0 rfl) ?_
        obtain ⟨q_19, v_20, hq_19, hv_20⟩ := X.2.2.2.2.2.2.2.2.2.2 ("HahaLawn$Tape", 209, "walk") (List.mem_of_getElem? (i := 3) rfl)
        refine va_ldcS hx hb X.2.2.2.1 hq_19 dX9_lineWord_34 ?_
        refine sl_Ic (rVe_I (wc := [(h0, .inr (8, [.ref t_bytes, .int t_length, .int t_end, .int t_token, .int t_start, .int t_stop, .int t_number, .int t_fault, .int t_faultAt])), (t_bytes, .inl (cy 0, 800, .inl t_bytesf))]) (As := [.ref q_19]) (rest := []) X (andX_st hp_st (sO_st q_19 v_20 4 (txB "walk"))) ⟨X.2.2.2.2.2.2.2, hv_20⟩ (g9_isWord l dC dI cy h0 t_bytes t_length t_end t_token t_start t_stop t_number t_fault t_faultAt t_bytesf q_19 v_20 4 (txB "walk") ht_length ht_end ht_start ht_stop hrel (by first | decide | omega)) kX9_isWord vX9_isWord mX9_183 hP hD hS hA [0, 1] (by decide) rfl 0 (ci := 8) rfl rfl rfl hl rfl rfl (Nat.le_of_ble_eq_true rfl) dX9_lineWord_36 ⟨(Nat.le_of_ble_eq_true rfl), (Nat.le_of_ble_eq_true rfl)⟩ ⟨(Nat.le_of_ble_eq_true rfl), (Nat.le_of_ble_eq_true rfl)⟩) hP hD hS hA [0, 1] [false, false] rfl rfl rfl (fun r_21 u_23 H locs k_22 hP hD hS => ?_)
        have k_22 : (0 ≤ r_21.toInt ∧ r_21.toInt ≤ 1) ∧ (wdP t_bytesf t_token.toInt t_start.toInt t_stop.toInt 4 (txB "walk") r_21.toInt) := k_22
        obtain ⟨k_22_0, k_22_1⟩ := k_22
        have hPD := vPD (ws' := [(h0, .inr (8, [.ref t_bytes, .int t_length, .int t_end, .int t_token, .int t_start, .int t_stop, .int t_number, .int t_fault, .int t_faultAt])), (t_bytes, .inl (cy 0, 800, .inl t_bytesf))]) hP hD rfl
        have hP := hPD.1
        have hD := hPD.2
        refine lv_if_eq (tgt := 46) hx hb dX9_lineWord_39 (by decide) (fun h_24 => ?_) (fun h_24 => ?_)
        · have h_24 : r_21.toInt = 0 := c_eq h_24
          refine lv_iconst (v := -1) hx hb dX9_lineWord_46 (by decide) ?_
          exact eI hQ X hr hlocks hP hD hS () [0, 1] (by decide) rfl rfl (show ((-1) ≤ (-1 : Int32).toInt ∧ (-1 : Int32).toInt ≤ 3) ∧ (fwP t_bytesf t_token.toInt t_start.toInt t_stop.toInt (lw t_bytesf) t_end.toInt (-1 : Int32).toInt) from ⟨(by first | decide | omega | (refine ⟨by decide, ?_⟩; omega) | (have h9_0 : (-1 : Int32).toInt = (-1) := (by decide); omega)), (fun j hk => by show _ = lw t_bytesf t_end.toInt j; unfold lw; rw [wch_n (fun h7 => k_4_1.no asc_park (by omega) (hk.wd.mpr h7)) (fun h7 => k_10_1.no asc_row (by omega) (hk.wd.mpr h7)) (fun h7 => k_16_1.no asc_walker (by omega) (hk.wd.mpr h7)) (fun h7 => k_22_1.no asc_walk (by omega) (hk.wd.mpr h7))]; decide)⟩) (Nat.le_of_ble_eq_true rfl) (Nat.le_of_ble_eq_true rfl) dX9_lineWord_47
        · have h_24 : r_21.toInt ≠ 0 := c_ne h_24
          refine lv_iconst (v := 3) hx hb dX9_lineWord_42 (by decide) ?_
          refine lv_goto (tgt := 47) hx hb dX9_lineWord_43 (by decide) ?_
          exact eI hQ X hr hlocks hP hD hS () [0, 1] (by decide) rfl rfl (show ((-1) ≤ (3 : Int32).toInt ∧ (3 : Int32).toInt ≤ 3) ∧ (fwP t_bytesf t_token.toInt t_start.toInt t_stop.toInt (lw t_bytesf) t_end.toInt (3 : Int32).toInt) from ⟨(by first | decide | (have h9_0 : (3 : Int32).toInt = 3 := (by decide); omega) | (refine ⟨by decide, ?_⟩; omega) | omega), (fun j hk => by show _ = lw t_bytesf t_end.toInt j; unfold lw; rw [wch_3 (fun h7 => k_4_1.no asc_park (by omega) (hk.wd.mpr h7)) (fun h7 => k_10_1.no asc_row (by omega) (hk.wd.mpr h7)) (fun h7 => k_16_1.no asc_walker (by omega) (hk.wd.mpr h7)) (hk.wd.mp (k_22_1.yes asc_walk (by omega)))]; decide)⟩) (Nat.le_of_ble_eq_true rfl) (Nat.le_of_ble_eq_true rfl) dX9_lineWord_47
      · have h_18 : r_15.toInt ≠ 0 := c_ne h_18
        refine lv_iconst (v := 2) hx hb dX9_lineWord_31 (by decide) ?_
        exact eI hQ X hr hlocks hP hD hS () [0, 1] (by decide) rfl rfl (show ((-1) ≤ (2 : Int32).toInt ∧ (2 : Int32).toInt ≤ 3) ∧ (fwP t_bytesf t_token.toInt t_start.toInt t_stop.toInt (lw t_bytesf) t_end.toInt (2 : Int32).toInt) from ⟨(by first | decide | (have h9_0 : (2 : Int32).toInt = 2 := (by decide); omega) | (refine ⟨by decide, ?_⟩; omega) | omega), (fun j hk => by show _ = lw t_bytesf t_end.toInt j; unfold lw; rw [wch_2 (fun h7 => k_4_1.no asc_park (by omega) (hk.wd.mpr h7)) (fun h7 => k_10_1.no asc_row (by omega) (hk.wd.mpr h7)) (hk.wd.mp (k_16_1.yes asc_walker (by omega)))]; decide)⟩) (Nat.le_of_ble_eq_true rfl) (Nat.le_of_ble_eq_true rfl) dX9_lineWord_32
    · have h_12 : r_9.toInt ≠ 0 := c_ne h_12
      refine lv_iconst (v := 1) hx hb dX9_lineWord_20 (by decide) ?_
      exact eI hQ X hr hlocks hP hD hS () [0, 1] (by decide) rfl rfl (show ((-1) ≤ (1 : Int32).toInt ∧ (1 : Int32).toInt ≤ 3) ∧ (fwP t_bytesf t_token.toInt t_start.toInt t_stop.toInt (lw t_bytesf) t_end.toInt (1 : Int32).toInt) from ⟨(by first | decide | (have h9_0 : (1 : Int32).toInt = 1 := (by decide); omega) | (refine ⟨by decide, ?_⟩; omega) | omega), (fun j hk => by show _ = lw t_bytesf t_end.toInt j; unfold lw; rw [wch_1 (fun h7 => k_4_1.no asc_park (by omega) (hk.wd.mpr h7)) (hk.wd.mp (k_10_1.yes asc_row (by omega)))]; decide)⟩) (Nat.le_of_ble_eq_true rfl) (Nat.le_of_ble_eq_true rfl) dX9_lineWord_21
  · have h_6 : r_3.toInt ≠ 0 := c_ne h_6
    refine lv_iconst (v := 0) hx hb dX9_lineWord_9 (by decide) ?_
    exact eI hQ X hr hlocks hP hD hS () [0, 1] (by decide) rfl rfl (show ((-1) ≤ (0 : Int32).toInt ∧ (0 : Int32).toInt ≤ 3) ∧ (fwP t_bytesf t_token.toInt t_start.toInt t_stop.toInt (lw t_bytesf) t_end.toInt (0 : Int32).toInt) from ⟨(by first | decide | (have h9_0 : (0 : Int32).toInt = 0 := (by decide); omega) | (refine ⟨by decide, ?_⟩; omega) | omega), (fun j hk => by show _ = lw t_bytesf t_end.toInt j; unfold lw; rw [wch_0 (hk.wd.mp (k_4_1.yes asc_park (by omega)))]; decide)⟩) (Nat.le_of_ble_eq_true rfl) (Nat.le_of_ble_eq_true rfl) dX9_lineWord_10
set_option maxHeartbeats 4000000 in
set_option maxRecDepth 100000 in
theorem g9_kindOfWord (l : Launch) (dC : Nat → ClassId) (dI : Nat → Nat → Nat) (cy : Nat → ClassId) (h0 : Nat) (t_bytes : Nat) (t_length : Int32) (t_end : Int32) (t_token : Int32) (t_start : Int32) (t_stop : Int32) (t_number : Int32) (t_fault : Int32) (t_faultAt : Int32) (t_bytesf : Nat → Int32) (ht_length : 0 ≤ t_length.toInt ∧ t_length.toInt ≤ 800) (ht_end : 0 ≤ t_end.toInt ∧ t_end.toInt ≤ 800) (ht_start : 0 ≤ t_start.toInt ∧ t_start.toInt ≤ 800) (ht_stop : 0 ≤ t_stop.toInt ∧ t_stop.toInt ≤ 800) (hrel : t_start.toInt ≤ t_stop.toInt ∧ t_stop.toInt ≤ t_end.toInt) : ctI l dC dI cy hp yX9_kindOfWord cX9_kindOfWord 1 .int ({ frames := 5, cells := 0, slots := 0, locals := 107 } : Room) [.ref h0] [(h0, .inr (8, [.ref t_bytes, .int t_length, .int t_end, .int t_token, .int t_start, .int t_stop, .int t_number, .int t_fault, .int t_faultAt])), (t_bytes, .inl (cy 0, 800, .inl t_bytesf))] (S := Unit) (fun r _ => ((-1) ≤ r.toInt ∧ r.toInt ≤ 3) ∧ (fwP t_bytesf t_token.toInt t_start.toInt t_stop.toInt (kd t_bytesf) t_end.toInt r.toInt)) (fun _ => [(h0, .inr (8, [.ref t_bytes, .int t_length, .int t_end, .int t_token, .int t_start, .int t_stop, .int t_number, .int t_fault, .int t_faultAt])), (t_bytes, .inl (cy 0, 800, .inl t_bytesf))]) := by
  refine ctI.of (by decide +kernel) (Nat.le_of_ble_eq_true rfl) ?_
  intro p e s m args below meth c A ls Q hQ X hr hlocks hin hA hP hD hS hl
  have hx := X.1
  have hb := X.2.1
  have hK := X.2.2.2.2.2.1
  have hl : lv_has ls 1 [(0, .ref h0)] := hl
  refine lv_aload_n hx hb dX9_kindOfWord_0 rfl (lv_at hl 0 rfl) ?_
  obtain ⟨q_1, v_2, hq_1, hv_2⟩ := X.2.2.2.2.2.2.2.2.2.2 ("HahaLawn$Tape", 211, "guest") (List.mem_of_getElem? (i := 9) rfl)
  refine va_ldcS hx hb X.2.2.2.1 hq_1 dX9_kindOfWord_1 ?_
  refine sl_Ic (rVe_I (wc := [(h0, .inr (8, [.ref t_bytes, .int t_length, .int t_end, .int t_token, .int t_start, .int t_stop, .int t_number, .int t_fault, .int t_faultAt])), (t_bytes, .inl (cy 0, 800, .inl t_bytesf))]) (As := [.ref q_1]) (rest := []) X (andX_st hp_st (sO_st q_1 v_2 5 (txB "guest"))) ⟨X.2.2.2.2.2.2.2, hv_2⟩ (g9_isWord l dC dI cy h0 t_bytes t_length t_end t_token t_start t_stop t_number t_fault t_faultAt t_bytesf q_1 v_2 5 (txB "guest") ht_length ht_end ht_start ht_stop hrel (by first | decide | omega)) kX9_isWord vX9_isWord mX9_183 hP hD hS hA [0, 1] (by decide) rfl 0 (ci := 8) rfl rfl rfl hl rfl rfl (Nat.le_of_ble_eq_true rfl) dX9_kindOfWord_3 ⟨(Nat.le_of_ble_eq_true rfl), (Nat.le_of_ble_eq_true rfl)⟩ ⟨(Nat.le_of_ble_eq_true rfl), (Nat.le_of_ble_eq_true rfl)⟩) hP hD hS hA [0, 1] [false, false] rfl rfl rfl (fun r_3 u_5 H locs k_4 hP hD hS => ?_)
  have k_4 : (0 ≤ r_3.toInt ∧ r_3.toInt ≤ 1) ∧ (wdP t_bytesf t_token.toInt t_start.toInt t_stop.toInt 5 (txB "guest") r_3.toInt) := k_4
  obtain ⟨k_4_0, k_4_1⟩ := k_4
  have hPD := vPD (ws' := [(h0, .inr (8, [.ref t_bytes, .int t_length, .int t_end, .int t_token, .int t_start, .int t_stop, .int t_number, .int t_fault, .int t_faultAt])), (t_bytes, .inl (cy 0, 800, .inl t_bytesf))]) hP hD rfl
  have hP := hPD.1
  have hD := hPD.2
  refine lv_if_eq (tgt := 11) hx hb dX9_kindOfWord_6 (by decide) (fun h_6 => ?_) (fun h_6 => ?_)
  · have h_6 : r_3.toInt = 0 := c_eq h_6
    refine lv_aload_n hx hb dX9_kindOfWord_11 rfl (lv_at hl 0 rfl) ?_
    obtain ⟨q_7, v_8, hq_7, hv_8⟩ := X.2.2.2.2.2.2.2.2.2.2 ("HahaLawn$Tape", 213, "child") (List.mem_of_getElem? (i := 10) rfl)
    refine va_ldcS hx hb X.2.2.2.1 hq_7 dX9_kindOfWord_12 ?_
    refine sl_Ic (rVe_I (wc := [(h0, .inr (8, [.ref t_bytes, .int t_length, .int t_end, .int t_token, .int t_start, .int t_stop, .int t_number, .int t_fault, .int t_faultAt])), (t_bytes, .inl (cy 0, 800, .inl t_bytesf))]) (As := [.ref q_7]) (rest := []) X (andX_st hp_st (sO_st q_7 v_8 5 (txB "child"))) ⟨X.2.2.2.2.2.2.2, hv_8⟩ (g9_isWord l dC dI cy h0 t_bytes t_length t_end t_token t_start t_stop t_number t_fault t_faultAt t_bytesf q_7 v_8 5 (txB "child") ht_length ht_end ht_start ht_stop hrel (by first | decide | omega)) kX9_isWord vX9_isWord mX9_183 hP hD hS hA [0, 1] (by decide) rfl 0 (ci := 8) rfl rfl rfl hl rfl rfl (Nat.le_of_ble_eq_true rfl) dX9_kindOfWord_14 ⟨(Nat.le_of_ble_eq_true rfl), (Nat.le_of_ble_eq_true rfl)⟩ ⟨(Nat.le_of_ble_eq_true rfl), (Nat.le_of_ble_eq_true rfl)⟩) hP hD hS hA [0, 1] [false, false] rfl rfl rfl (fun r_9 u_11 H locs k_10 hP hD hS => ?_)
    have k_10 : (0 ≤ r_9.toInt ∧ r_9.toInt ≤ 1) ∧ (wdP t_bytesf t_token.toInt t_start.toInt t_stop.toInt 5 (txB "child") r_9.toInt) := k_10
    obtain ⟨k_10_0, k_10_1⟩ := k_10
    have hPD := vPD (ws' := [(h0, .inr (8, [.ref t_bytes, .int t_length, .int t_end, .int t_token, .int t_start, .int t_stop, .int t_number, .int t_fault, .int t_faultAt])), (t_bytes, .inl (cy 0, 800, .inl t_bytesf))]) hP hD rfl
    have hP := hPD.1
    have hD := hPD.2
    refine lv_if_eq (tgt := 22) hx hb dX9_kindOfWord_17 (by decide) (fun h_12 => ?_) (fun h_12 => ?_)
    · have h_12 : r_9.toInt = 0 := c_eq h_12
      refine lv_aload_n hx hb dX9_kindOfWord_22 rfl (lv_at hl 0 rfl) ?_
      obtain ⟨q_13, v_14, hq_13, hv_14⟩ := X.2.2.2.2.2.2.2.2.2.2 ("HahaLawn$Tape", 215, "colonel") (List.mem_of_getElem? (i := 11) rfl)
      refine va_ldcS hx hb X.2.2.2.1 hq_13 dX9_kindOfWord_23 ?_
      refine sl_Ic (rVe_I (wc := [(h0, .inr (8, [.ref t_bytes, .int t_length, .int t_end, .int t_token, .int t_start, .int t_stop, .int t_number, .int t_fault, .int t_faultAt])), (t_bytes, .inl (cy 0, 800, .inl t_bytesf))]) (As := [.ref q_13]) (rest := []) X (andX_st hp_st (sO_st q_13 v_14 7 (txB "colonel"))) ⟨X.2.2.2.2.2.2.2, hv_14⟩ (g9_isWord l dC dI cy h0 t_bytes t_length t_end t_token t_start t_stop t_number t_fault t_faultAt t_bytesf q_13 v_14 7 (txB "colonel") ht_length ht_end ht_start ht_stop hrel (by first | decide | omega)) kX9_isWord vX9_isWord mX9_183 hP hD hS hA [0, 1] (by decide) rfl 0 (ci := 8) rfl rfl rfl hl rfl rfl (Nat.le_of_ble_eq_true rfl) dX9_kindOfWord_25 ⟨(Nat.le_of_ble_eq_true rfl), (Nat.le_of_ble_eq_true rfl)⟩ ⟨(Nat.le_of_ble_eq_true rfl), (Nat.le_of_ble_eq_true rfl)⟩) hP hD hS hA [0, 1] [false, false] rfl rfl rfl (fun r_15 u_17 H locs k_16 hP hD hS => ?_)
      have k_16 : (0 ≤ r_15.toInt ∧ r_15.toInt ≤ 1) ∧ (wdP t_bytesf t_token.toInt t_start.toInt t_stop.toInt 7 (txB "colonel") r_15.toInt) := k_16
      obtain ⟨k_16_0, k_16_1⟩ := k_16
      have hPD := vPD (ws' := [(h0, .inr (8, [.ref t_bytes, .int t_length, .int t_end, .int t_token, .int t_start, .int t_stop, .int t_number, .int t_fault, .int t_faultAt])), (t_bytes, .inl (cy 0, 800, .inl t_bytesf))]) hP hD rfl
      have hP := hPD.1
      have hD := hPD.2
      refine lv_if_eq (tgt := 33) hx hb dX9_kindOfWord_28 (by decide) (fun h_18 => ?_) (fun h_18 => ?_)
      · have h_18 : r_15.toInt = 0 := c_eq h_18
        refine lv_aload_n hx hb dX9_kindOfWord_33 rfl (lv_at hl 0 rfl) ?_
        obtain ⟨q_19, v_20, hq_19, hv_20⟩ := X.2.2.2.2.2.2.2.2.2.2 ("HahaLawn$Tape", 217, "keeper") (List.mem_of_getElem? (i := 12) rfl)
        refine va_ldcS hx hb X.2.2.2.1 hq_19 dX9_kindOfWord_34 ?_
        refine sl_Ic (rVe_I (wc := [(h0, .inr (8, [.ref t_bytes, .int t_length, .int t_end, .int t_token, .int t_start, .int t_stop, .int t_number, .int t_fault, .int t_faultAt])), (t_bytes, .inl (cy 0, 800, .inl t_bytesf))]) (As := [.ref q_19]) (rest := []) X (andX_st hp_st (sO_st q_19 v_20 6 (txB "keeper"))) ⟨X.2.2.2.2.2.2.2, hv_20⟩ (g9_isWord l dC dI cy h0 t_bytes t_length t_end t_token t_start t_stop t_number t_fault t_faultAt t_bytesf q_19 v_20 6 (txB "keeper") ht_length ht_end ht_start ht_stop hrel (by first | decide | omega)) kX9_isWord vX9_isWord mX9_183 hP hD hS hA [0, 1] (by decide) rfl 0 (ci := 8) rfl rfl rfl hl rfl rfl (Nat.le_of_ble_eq_true rfl) dX9_kindOfWord_36 ⟨(Nat.le_of_ble_eq_true rfl), (Nat.le_of_ble_eq_true rfl)⟩ ⟨(Nat.le_of_ble_eq_true rfl), (Nat.le_of_ble_eq_true rfl)⟩) hP hD hS hA [0, 1] [false, false] rfl rfl rfl (fun r_21 u_23 H locs k_22 hP hD hS => ?_)
        have k_22 : (0 ≤ r_21.toInt ∧ r_21.toInt ≤ 1) ∧ (wdP t_bytesf t_token.toInt t_start.toInt t_stop.toInt 6 (txB "keeper") r_21.toInt) := k_22
        obtain ⟨k_22_0, k_22_1⟩ := k_22
        have hPD := vPD (ws' := [(h0, .inr (8, [.ref t_bytes, .int t_length, .int t_end, .int t_token, .int t_start, .int t_stop, .int t_number, .int t_fault, .int t_faultAt])), (t_bytes, .inl (cy 0, 800, .inl t_bytesf))]) hP hD rfl
        have hP := hPD.1
        have hD := hPD.2
        refine lv_if_eq (tgt := 46) hx hb dX9_kindOfWord_39 (by decide) (fun h_24 => ?_) (fun h_24 => ?_)
        · have h_24 : r_21.toInt = 0 := c_eq h_24
          refine lv_iconst (v := -1) hx hb dX9_kindOfWord_46 (by decide) ?_
          exact eI hQ X hr hlocks hP hD hS () [0, 1] (by decide) rfl rfl (show ((-1) ≤ (-1 : Int32).toInt ∧ (-1 : Int32).toInt ≤ 3) ∧ (fwP t_bytesf t_token.toInt t_start.toInt t_stop.toInt (kd t_bytesf) t_end.toInt (-1 : Int32).toInt) from ⟨(by first | decide | omega | (refine ⟨by decide, ?_⟩; omega) | (have h9_0 : (-1 : Int32).toInt = (-1) := (by decide); omega)), (fun j hk => by show _ = kd t_bytesf t_end.toInt j; unfold kd; rw [wch_n (fun h7 => k_4_1.no asc_guest (by omega) (hk.wd.mpr h7)) (fun h7 => k_10_1.no asc_child (by omega) (hk.wd.mpr h7)) (fun h7 => k_16_1.no asc_colonel (by omega) (hk.wd.mpr h7)) (fun h7 => k_22_1.no asc_keeper (by omega) (hk.wd.mpr h7))]; decide)⟩) (Nat.le_of_ble_eq_true rfl) (Nat.le_of_ble_eq_true rfl) dX9_kindOfWord_47
        · have h_24 : r_21.toInt ≠ 0 := c_ne h_24
          refine lv_iconst (v := 3) hx hb dX9_kindOfWord_42 (by decide) ?_
          refine lv_goto (tgt := 47) hx hb dX9_kindOfWord_43 (by decide) ?_
          exact eI hQ X hr hlocks hP hD hS () [0, 1] (by decide) rfl rfl (show ((-1) ≤ (3 : Int32).toInt ∧ (3 : Int32).toInt ≤ 3) ∧ (fwP t_bytesf t_token.toInt t_start.toInt t_stop.toInt (kd t_bytesf) t_end.toInt (3 : Int32).toInt) from ⟨(by first | decide | (have h9_0 : (3 : Int32).toInt = 3 := (by decide); omega) | (refine ⟨by decide, ?_⟩; omega) | omega), (fun j hk => by show _ = kd t_bytesf t_end.toInt j; unfold kd; rw [wch_3 (fun h7 => k_4_1.no asc_guest (by omega) (hk.wd.mpr h7)) (fun h7 => k_10_1.no asc_child (by omega) (hk.wd.mpr h7)) (fun h7 => k_16_1.no asc_colonel (by omega) (hk.wd.mpr h7)) (hk.wd.mp (k_22_1.yes asc_keeper (by omega)))]; decide)⟩) (Nat.le_of_ble_eq_true rfl) (Nat.le_of_ble_eq_true rfl) dX9_kindOfWord_47
      · have h_18 : r_15.toInt ≠ 0 := c_ne h_18
        refine lv_iconst (v := 2) hx hb dX9_kindOfWord_31 (by decide) ?_
        exact eI hQ X hr hlocks hP hD hS () [0, 1] (by decide) rfl rfl (show ((-1) ≤ (2 : Int32).toInt ∧ (2 : Int32).toInt ≤ 3) ∧ (fwP t_bytesf t_token.toInt t_start.toInt t_stop.toInt (kd t_bytesf) t_end.toInt (2 : Int32).toInt) from ⟨(by first | decide | (have h9_0 : (2 : Int32).toInt = 2 := (by decide); omega) | (refine ⟨by decide, ?_⟩; omega) | omega), (fun j hk => by show _ = kd t_bytesf t_end.toInt j; unfold kd; rw [wch_2 (fun h7 => k_4_1.no asc_guest (by omega) (hk.wd.mpr h7)) (fun h7 => k_10_1.no asc_child (by omega) (hk.wd.mpr h7)) (hk.wd.mp (k_16_1.yes asc_colonel (by omega)))]; decide)⟩) (Nat.le_of_ble_eq_true rfl) (Nat.le_of_ble_eq_true rfl) dX9_kindOfWord_32
    · have h_12 : r_9.toInt ≠ 0 := c_ne h_12
      refine lv_iconst (v := 1) hx hb dX9_kindOfWord_20 (by decide) ?_
      exact eI hQ X hr hlocks hP hD hS () [0, 1] (by decide) rfl rfl (show ((-1) ≤ (1 : Int32).toInt ∧ (1 : Int32).toInt ≤ 3) ∧ (fwP t_bytesf t_token.toInt t_start.toInt t_stop.toInt (kd t_bytesf) t_end.toInt (1 : Int32).toInt) from ⟨(by first | decide | (have h9_0 : (1 : Int32).toInt = 1 := (by decide); omega) | (refine ⟨by decide, ?_⟩; omega) | omega), (fun j hk => by show _ = kd t_bytesf t_end.toInt j; unfold kd; rw [wch_1 (fun h7 => k_4_1.no asc_guest (by omega) (hk.wd.mpr h7)) (hk.wd.mp (k_10_1.yes asc_child (by omega)))]; decide)⟩) (Nat.le_of_ble_eq_true rfl) (Nat.le_of_ble_eq_true rfl) dX9_kindOfWord_21
  · have h_6 : r_3.toInt ≠ 0 := c_ne h_6
    refine lv_iconst (v := 0) hx hb dX9_kindOfWord_9 (by decide) ?_
    exact eI hQ X hr hlocks hP hD hS () [0, 1] (by decide) rfl rfl (show ((-1) ≤ (0 : Int32).toInt ∧ (0 : Int32).toInt ≤ 3) ∧ (fwP t_bytesf t_token.toInt t_start.toInt t_stop.toInt (kd t_bytesf) t_end.toInt (0 : Int32).toInt) from ⟨(by first | decide | (have h9_0 : (0 : Int32).toInt = 0 := (by decide); omega) | (refine ⟨by decide, ?_⟩; omega) | omega), (fun j hk => by show _ = kd t_bytesf t_end.toInt j; unfold kd; rw [wch_0 (hk.wd.mp (k_4_1.yes asc_guest (by omega)))]; decide)⟩) (Nat.le_of_ble_eq_true rfl) (Nat.le_of_ble_eq_true rfl) dX9_kindOfWord_10
set_option maxHeartbeats 4000000 in
set_option maxRecDepth 100000 in
theorem g4_sortAt (l : Launch) (dC : Nat → ClassId) (dI : Nat → Nat → Nat) (cy : Nat → ClassId) (h0 : Nat) (g_wide : Int32) (g_deep : Int32) (g_count : Int32) (g_sorts : Nat) (g_sortsf : Nat → Int32) (p1 : Int32) (hg_wide : 0 ≤ g_wide.toInt ∧ g_wide.toInt ≤ 5) (hg_deep : 0 ≤ g_deep.toInt ∧ g_deep.toInt ≤ 4) (hg_count : 0 ≤ g_count.toInt ∧ g_count.toInt ≤ 20) : ctI l dC dI cy hp yX4_sortAt cX4_sortAt 2 .int ({ frames := 1, cells := 0, slots := 0, locals := 21 } : Room) [.ref h0, .int p1] [(h0, .inr (4, [.int g_wide, .int g_deep, .int g_count, .ref g_sorts])), (g_sorts, .inl (cy 1, 20, .inl g_sortsf))] (S := Unit) (fun r _ => (saP g_count.toInt g_sortsf p1.toInt r.toInt)) (fun _ => [(h0, .inr (4, [.int g_wide, .int g_deep, .int g_count, .ref g_sorts])), (g_sorts, .inl (cy 1, 20, .inl g_sortsf))]) := by
  refine ctI.of (by decide +kernel) (Nat.le_of_ble_eq_true rfl) ?_
  intro p e s m args below meth c A ls Q hQ X hr hlocks hin hA hP hD hS hl
  have hx := X.1
  have hb := X.2.1
  have hK := X.2.2.2.2.2.1
  have hl : lv_has ls 2 [(0, .ref h0), (1, .int p1)] := hl
  have dy_1 := ti_bd p1
  refine lv_aload_n hx hb dX4_sortAt_0 rfl (lv_at hl 0 rfl) ?_
  refine lv_iload_n hx hb dX4_sortAt_1 rfl (lv_at hl 1 rfl) ?_
  refine sl_Ic (rV_I (As := [.int p1]) (rest := []) X hp_st (fun _ _ _ h => h) (sX4_holds l dC dI cy h0 g_wide g_deep g_count g_sorts p1 hg_wide hg_deep hg_count) kX4_holds vX4_holds mX4_25 hP hD hS hA [0] (by decide) rfl 0 (ci := 4) rfl rfl rfl hl rfl rfl (Nat.le_of_ble_eq_true rfl) dX4_sortAt_2 ⟨(Nat.le_of_ble_eq_true rfl), (Nat.le_of_ble_eq_true rfl)⟩ ⟨(Nat.le_of_ble_eq_true rfl), (Nat.le_of_ble_eq_true rfl)⟩) hP hD hS hA [0] [false, true] rfl rfl rfl (fun r_2 u_4 H locs k_3 hP hD hS => ?_)
  have k_3 : (0 ≤ r_2.toInt ∧ r_2.toInt ≤ 1) ∧ ((r_2.toInt = 1 ∧ 0 ≤ p1.toInt ∧ p1.toInt < g_count.toInt) ∨ (r_2.toInt = 0 ∧ (p1.toInt < 0 ∨ g_count.toInt ≤ p1.toInt))) := k_3
  obtain ⟨k_3_0, k_3_1⟩ := k_3
  have hPD := vPD (ws' := [(g_sorts, .inl (cy 1, 20, .inl g_sortsf)), (h0, .inr (4, [.int g_wide, .int g_deep, .int g_count, .ref g_sorts]))]) hP hD rfl
  have hP := hPD.1
  have hD := hPD.2
  refine lv_if_eq (tgt := 17) hx hb dX4_sortAt_5 (by decide) (fun h_5 => ?_) (fun h_5 => ?_)
  · have h_5 : r_2.toInt = 0 := c_eq h_5
    refine lv_iconst (v := 3) hx hb dX4_sortAt_17 (by decide) ?_
    exact eI hQ X hr hlocks hP hD hS () [1, 0] (by decide) rfl rfl (show (saP g_count.toInt g_sortsf p1.toInt (3 : Int32).toInt) from (Or.inr ⟨by omega, by decide⟩)) (Nat.le_of_ble_eq_true rfl) (Nat.le_of_ble_eq_true rfl) dX4_sortAt_18
  · have h_5 : r_2.toInt ≠ 0 := c_ne h_5
    refine lv_aload_n hx hb dX4_sortAt_8 rfl (lv_at hl 0 rfl) ?_
    refine r_get X kcX4 (ci := 4) rfl hP 1 rfl 3 (by decide) fX4_9 rfl dX4_sortAt_9 ?_
    refine lv_iload_n hx hb dX4_sortAt_12 rfl (lv_at hl 1 rfl) ?_
    refine va_iald (D := (dC, dI)) (cl := vwCl) hx hb hK hP 0 1 rfl rfl (i := p1) (vin (by omega) (by omega)) dX4_sortAt_13 ?_
    refine lv_topi (fun x_6 ex_6 => ?_)
    refine lv_goto (tgt := 18) hx hb dX4_sortAt_14 (by decide) ?_
    exact eI hQ X hr hlocks hP hD hS () [1, 0] (by decide) rfl rfl (show (saP g_count.toInt g_sortsf p1.toInt x_6.toInt) from (Or.inl ⟨by omega, by omega, by rw [ex_6]; rfl⟩)) (Nat.le_of_ble_eq_true rfl) (Nat.le_of_ble_eq_true rfl) dX4_sortAt_18
set_option maxHeartbeats 4000000 in
set_option maxRecDepth 100000 in
theorem g4_resize (l : Launch) (dC : Nat → ClassId) (dI : Nat → Nat → Nat) (cy : Nat → ClassId) (h0 : Nat) (g_wide : Int32) (g_deep : Int32) (g_count : Int32) (g_sorts : Nat) (p1 : Int32) (p2 : Int32) (hg_wide : 0 ≤ g_wide.toInt ∧ g_wide.toInt ≤ 5) (hg_deep : 0 ≤ g_deep.toInt ∧ g_deep.toInt ≤ 4) (hg_count : 0 ≤ g_count.toInt ∧ g_count.toInt ≤ 20) (hp1 : 0 ≤ p1.toInt ∧ p1.toInt ≤ 5) (hp2 : 0 ≤ p2.toInt ∧ p2.toInt ≤ 4) : ctV l dC dI cy hp yX4_resize cX4_resize 3 ({ frames := 0, cells := 0, slots := 0, locals := 0 } : Room) [.ref h0, .int p1, .int p2] [(h0, .inr (4, [.int g_wide, .int g_deep, .int g_count, .ref g_sorts]))] (S := Int32 × Int32 × Int32) (fun u => (0 ≤ u.1.toInt ∧ u.1.toInt ≤ 5) ∧ (0 ≤ u.2.1.toInt ∧ u.2.1.toInt ≤ 4) ∧ (0 ≤ u.2.2.toInt ∧ u.2.2.toInt ≤ 20) ∧ (u.1.toInt = p1.toInt) ∧ (u.2.1.toInt = p2.toInt) ∧ (u.2.2.toInt = p1.toInt * p2.toInt)) (fun u => [(h0, .inr (4, [.int u.1, .int u.2.1, .int u.2.2, .ref g_sorts]))]) := by
  refine ctV.of (by decide +kernel) (Nat.le_of_ble_eq_true rfl) ?_
  intro p e s m args below meth c A ls Q hQ X hr hlocks hin hA hP hD hS hl
  have hx := X.1
  have hb := X.2.1
  have hK := X.2.2.2.2.2.1
  have hl : lv_has ls 3 [(0, .ref h0), (1, .int p1), (2, .int p2)] := hl
  refine lv_aload_n hx hb dX4_resize_0 rfl (lv_at hl 0 rfl) ?_
  refine lv_iload_n hx hb dX4_resize_1 rfl (lv_at hl 1 rfl) ?_
  refine r_put X kcX4 (ci := 4) rfl hP hD hS 0 rfl 0 (by decide) fX4_15 rfl rfl rfl (Nat.le_of_ble_eq_true rfl) dX4_resize_2 (fun H locs hP hD hS => ?_)
  have hPD := vPD (ws' := [(h0, .inr (4, [.int p1, .int g_deep, .int g_count, .ref g_sorts]))]) hP hD rfl
  have hP := hPD.1
  have hD := hPD.2
  refine lv_aload_n hx hb dX4_resize_5 rfl (lv_at hl 0 rfl) ?_
  refine lv_iload_n hx hb dX4_resize_6 rfl (lv_at hl 2 rfl) ?_
  refine r_put X kcX4 (ci := 4) rfl hP hD hS 0 rfl 1 (by decide) fX4_19 rfl rfl rfl (Nat.le_of_ble_eq_true rfl) dX4_resize_7 (fun H locs hP hD hS => ?_)
  have hPD := vPD (ws' := [(h0, .inr (4, [.int p1, .int p2, .int g_count, .ref g_sorts]))]) hP hD rfl
  have hP := hPD.1
  have hD := hPD.2
  refine lv_aload_n hx hb dX4_resize_10 rfl (lv_at hl 0 rfl) ?_
  refine lv_iload_n hx hb dX4_resize_11 rfl (lv_at hl 1 rfl) ?_
  refine lv_iload_n hx hb dX4_resize_12 rfl (lv_at hl 2 rfl) ?_
  refine lv_imul hx hb dX4_resize_13 ?_
  refine lv_topi (fun x_1 ex_1 => ?_)
  have tx_1 : x_1.toInt = p1.toInt * p2.toInt ∧ 0 ≤ p1.toInt * p2.toInt ∧ p1.toInt * p2.toInt ≤ 20 := ti_mulq (A := 5) (B := 4) ex_1 (by omega) (by omega) (by omega) (by omega) (by decide)
  refine r_put X kcX4 (ci := 4) rfl hP hD hS 0 rfl 2 (by decide) fX4_22 rfl rfl rfl (Nat.le_of_ble_eq_true rfl) dX4_resize_14 (fun H locs hP hD hS => ?_)
  have hPD := vPD (ws' := [(h0, .inr (4, [.int p1, .int p2, .int x_1, .ref g_sorts]))]) hP hD rfl
  have hP := hPD.1
  have hD := hPD.2
  exact eV hQ X hr hlocks hP hD hS (p1, p2, x_1) [0] (by decide) rfl (show (0 ≤ p1.toInt ∧ p1.toInt ≤ 5) ∧ (0 ≤ p2.toInt ∧ p2.toInt ≤ 4) ∧ (0 ≤ x_1.toInt ∧ x_1.toInt ≤ 20) ∧ (p1.toInt = p1.toInt) ∧ (p2.toInt = p2.toInt) ∧ (x_1.toInt = p1.toInt * p2.toInt) from ⟨hp1, hp2, (by omega), (by omega), (by omega), (by omega)⟩) (Nat.le_of_ble_eq_true rfl) (Nat.le_of_ble_eq_true rfl) dX4_resize_17
set_option maxHeartbeats 4000000 in
set_option maxRecDepth 100000 in
theorem g9_readPlace (l : Launch) (dC : Nat → ClassId) (dI : Nat → Nat → Nat) (cy : Nat → ClassId) (h0 : Nat) (t_bytes : Nat) (t_length : Int32) (t_end : Int32) (t_token : Int32) (t_start : Int32) (t_stop : Int32) (t_number : Int32) (t_fault : Int32) (t_faultAt : Int32) (t_bytesf : Nat → Int32) (h1 : Nat) (g_wide : Int32) (g_deep : Int32) (g_count : Int32) (g_sorts : Nat) (g_sortsf : Nat → Int32) (p2 : Int32) (ht_length : 0 ≤ t_length.toInt ∧ t_length.toInt ≤ 800) (ht_end : 0 ≤ t_end.toInt ∧ t_end.toInt ≤ 800) (ht_start : 0 ≤ t_start.toInt ∧ t_start.toInt ≤ 800) (ht_stop : 0 ≤ t_stop.toInt ∧ t_stop.toInt ≤ 800) (hrel : t_start.toInt ≤ t_stop.toInt ∧ t_stop.toInt ≤ t_end.toInt) (hg_wide : 0 ≤ g_wide.toInt ∧ g_wide.toInt ≤ 5) (hg_deep : 0 ≤ g_deep.toInt ∧ g_deep.toInt ≤ 4) (hg_count : 0 ≤ g_count.toInt ∧ g_count.toInt ≤ 20) : ctI l dC dI cy hp yX9_readPlace cX9_readPlace 5 .boolean ({ frames := 3, cells := 0, slots := 0, locals := 69 } : Room) [.ref h0, .ref h1, .int p2] [(h0, .inr (8, [.ref t_bytes, .int t_length, .int t_end, .int t_token, .int t_start, .int t_stop, .int t_number, .int t_fault, .int t_faultAt])), (t_bytes, .inl (cy 0, 800, .inl t_bytesf)), (h1, .inr (4, [.int g_wide, .int g_deep, .int g_count, .ref g_sorts])), (g_sorts, .inl (cy 1, 20, .inl g_sortsf))] (S := Int32 × Int32 × Int32 × Int32 × Int32 × Int32) (fun r u => (0 ≤ r.toInt ∧ r.toInt ≤ 1) ∧ (0 ≤ u.2.1.toInt ∧ u.2.1.toInt ≤ 800) ∧ (0 ≤ u.2.2.1.toInt ∧ u.2.2.1.toInt ≤ 800) ∧ (u.2.1.toInt ≤ u.2.2.1.toInt ∧ u.2.2.1.toInt ≤ t_end.toInt) ∧ ((r.toInt = 1 ∧ 0 ≤ u.2.2.2.2.2.toInt ∧ u.2.2.2.2.2.toInt ≤ 19) ∨ r.toInt = 0) ∧ (qP t_bytesf t_end.toInt g_wide.toInt g_deep.toInt g_count.toInt g_sortsf p2.toInt t_token.toInt t_start.toInt t_stop.toInt r.toInt u.2.2.2.2.2.toInt u.1.toInt u.2.1.toInt u.2.2.1.toInt u.2.2.2.1.toInt u.2.2.2.2.1.toInt) ∧ (r.toInt ≠ 0 → u.2.2.2.1.toInt = t_fault.toInt)) (fun u => [(h0, .inr (8, [.ref t_bytes, .int t_length, .int t_end, .int u.1, .int u.2.1, .int u.2.2.1, .int u.2.2.2.2.2, .int u.2.2.2.1, .int u.2.2.2.2.1])), (t_bytes, .inl (cy 0, 800, .inl t_bytesf)), (h1, .inr (4, [.int g_wide, .int g_deep, .int g_count, .ref g_sorts])), (g_sorts, .inl (cy 1, 20, .inl g_sortsf))]) := by
  refine ctI.of (by decide +kernel) (Nat.le_of_ble_eq_true rfl) ?_
  intro p e s m args below meth c A ls Q hQ X hr hlocks hin hA hP hD hS hl
  have hx := X.1
  have hb := X.2.1
  have hK := X.2.2.2.2.2.1
  have hl : lv_has ls 5 [(0, .ref h0), (1, .ref h1), (2, .int p2)] := hl
  have dy_1 := ti_bd p2
  refine lv_aload_n hx hb dX9_readPlace_0 rfl (lv_at hl 0 rfl) ?_
  refine lv_iconst (v := 0) hx hb dX9_readPlace_1 (by decide) ?_
  refine lv_aload_n hx hb dX9_readPlace_2 rfl (lv_at hl 1 rfl) ?_
  refine r_get X kcX4 (ci := 4) rfl hP 2 rfl 0 (by decide) fX9_109 rfl dX9_readPlace_3 ?_
  refine lv_iconst (v := 1) hx hb dX9_readPlace_6 (by decide) ?_
  refine lv_isub hx hb dX9_readPlace_7 ?_
  refine lv_topi (fun x_2 ex_2 => ?_)
  have tx_2 : x_2.toInt = g_wide.toInt - 1 := ti_sub (A := g_wide.toInt) (B := 1) ex_2 rfl rfl (by omega) (by omega)
  refine sl_Ic (rV_I (As := [.int 0, .int x_2]) (rest := []) X hp_st (fun _ _ _ h => h) (g9_readWhole l dC dI cy h0 t_bytes t_length t_end t_token t_start t_stop t_number t_fault t_faultAt t_bytesf 0 x_2 ht_length ht_end ht_start ht_stop hrel) kX9_readWhole vX9_readWhole mX9_82 hP hD hS hA [0, 1] (by decide) rfl 0 (ci := 8) rfl rfl rfl hl rfl rfl (Nat.le_of_ble_eq_true rfl) dX9_readPlace_8 ⟨(Nat.le_of_ble_eq_true rfl), (Nat.le_of_ble_eq_true rfl)⟩ ⟨(Nat.le_of_ble_eq_true rfl), (Nat.le_of_ble_eq_true rfl)⟩) hP hD hS hA [0, 1] [false, false, true, true] rfl rfl rfl (fun r_9 u_11 H locs k_10 hP hD hS => ?_)
  obtain ⟨t_token1_3, t_start1_4, t_stop1_5, t_fault1_6, t_faultAt1_7, t_number1_8⟩ := u_11
  have k_10 : (0 ≤ r_9.toInt ∧ r_9.toInt ≤ 1) ∧ (0 ≤ t_start1_4.toInt ∧ t_start1_4.toInt ≤ 800) ∧ (0 ≤ t_stop1_5.toInt ∧ t_stop1_5.toInt ≤ 800) ∧ (t_start1_4.toInt ≤ t_stop1_5.toInt ∧ t_stop1_5.toInt ≤ t_end.toInt) ∧ (t_stop.toInt ≤ t_stop1_5.toInt) ∧ ((r_9.toInt = 1 ∧ (0 : Int32).toInt ≤ t_number1_8.toInt ∧ t_number1_8.toInt ≤ x_2.toInt) ∨ r_9.toInt = 0) ∧ (qN t_bytesf t_end.toInt (0 : Int32).toInt x_2.toInt t_token.toInt t_start.toInt t_stop.toInt r_9.toInt t_number1_8.toInt t_token1_3.toInt t_start1_4.toInt t_stop1_5.toInt t_fault1_6.toInt t_faultAt1_7.toInt) ∧ (r_9.toInt ≠ 0 → t_fault1_6.toInt = t_fault.toInt) := k_10
  have kc_12 : (0 : Int32).toInt = 0 := by decide
  obtain ⟨k_10_0, k_10_1, k_10_2, k_10_3, k_10_4, k_10_5, k_10_6, k_10_7⟩ := k_10
  have hPD := vPD (ws' := [(h1, .inr (4, [.int g_wide, .int g_deep, .int g_count, .ref g_sorts])), (g_sorts, .inl (cy 1, 20, .inl g_sortsf)), (h0, .inr (8, [.ref t_bytes, .int t_length, .int t_end, .int t_token1_3, .int t_start1_4, .int t_stop1_5, .int t_number1_8, .int t_fault1_6, .int t_faultAt1_7])), (t_bytes, .inl (cy 0, 800, .inl t_bytesf))]) hP hD rfl
  have hP := hPD.1
  have hD := hPD.2
  refine lv_if_ne (tgt := 16) hx hb dX9_readPlace_11 (by decide) (fun h_13 => ?_) (fun h_13 => ?_)
  · have h_13 : r_9.toInt ≠ 0 := c_ne h_13
    refine lv_aload_n hx hb dX9_readPlace_16 rfl (lv_at hl 0 rfl) ?_
    refine r_get X kcX9 (ci := 8) rfl hP 2 rfl 6 (by decide) fX9_86 rfl dX9_readPlace_17 ?_
    refine lv_istore_n (lv' := [(3, .int t_number1_8), (0, .ref h0), (1, .ref h1), (2, .int p2)]) hx hb dX9_readPlace_20 rfl hl (by decide) rfl (fun ls hl => ?_)
    refine lv_aload_n hx hb dX9_readPlace_21 rfl (lv_at hl 1 rfl) ?_
    refine r_get X kcX9 (ci := 8) rfl hP 2 rfl 4 (by decide) fX9_119 rfl dX9_readPlace_22 ?_
    refine lv_istore (lv' := [(4, .int t_start1_4), (3, .int t_number1_8), (0, .ref h0), (1, .ref h1), (2, .int p2)]) hx hb dX9_readPlace_25 hl (by decide) rfl (fun ls hl => ?_)
    refine lv_aload_n hx hb dX9_readPlace_27 rfl (lv_at hl 2 rfl) ?_
    refine lv_iconst (v := 0) hx hb dX9_readPlace_28 (by decide) ?_
    refine lv_aload_n hx hb dX9_readPlace_29 rfl (lv_at hl 3 rfl) ?_
    refine r_get X kcX4 (ci := 4) rfl hP 0 rfl 1 (by decide) fX9_198 rfl dX9_readPlace_30 ?_
    refine lv_iconst (v := 1) hx hb dX9_readPlace_33 (by decide) ?_
    refine lv_isub hx hb dX9_readPlace_34 ?_
    refine lv_topi (fun x_14 ex_14 => ?_)
    have tx_14 : x_14.toInt = g_deep.toInt - 1 := ti_sub (A := g_deep.toInt) (B := 1) ex_14 rfl rfl (by omega) (by omega)
    refine sl_Ic (rV_I (As := [.int 0, .int x_14]) (rest := []) X hp_st (fun _ _ _ h => h) (g9_readWhole l dC dI cy h0 t_bytes t_length t_end t_token1_3 t_start1_4 t_stop1_5 t_number1_8 t_fault1_6 t_faultAt1_7 t_bytesf 0 x_14 ht_length ht_end k_10_1 k_10_2 k_10_3) kX9_readWhole vX9_readWhole mX9_82 hP hD hS hA [2, 3] (by decide) rfl 0 (ci := 8) rfl rfl rfl hl rfl rfl (Nat.le_of_ble_eq_true rfl) dX9_readPlace_35 ⟨(Nat.le_of_ble_eq_true rfl), (Nat.le_of_ble_eq_true rfl)⟩ ⟨(Nat.le_of_ble_eq_true rfl), (Nat.le_of_ble_eq_true rfl)⟩) hP hD hS hA [2, 3] [true, true, false, false] rfl rfl rfl (fun r_21 u_23 H locs k_22 hP hD hS => ?_)
    obtain ⟨t_token1_15, t_start1_16, t_stop1_17, t_fault1_18, t_faultAt1_19, t_number1_20⟩ := u_23
    have k_22 : (0 ≤ r_21.toInt ∧ r_21.toInt ≤ 1) ∧ (0 ≤ t_start1_16.toInt ∧ t_start1_16.toInt ≤ 800) ∧ (0 ≤ t_stop1_17.toInt ∧ t_stop1_17.toInt ≤ 800) ∧ (t_start1_16.toInt ≤ t_stop1_17.toInt ∧ t_stop1_17.toInt ≤ t_end.toInt) ∧ (t_stop1_5.toInt ≤ t_stop1_17.toInt) ∧ ((r_21.toInt = 1 ∧ (0 : Int32).toInt ≤ t_number1_20.toInt ∧ t_number1_20.toInt ≤ x_14.toInt) ∨ r_21.toInt = 0) ∧ (qN t_bytesf t_end.toInt (0 : Int32).toInt x_14.toInt t_token1_3.toInt t_start1_4.toInt t_stop1_5.toInt r_21.toInt t_number1_20.toInt t_token1_15.toInt t_start1_16.toInt t_stop1_17.toInt t_fault1_18.toInt t_faultAt1_19.toInt) ∧ (r_21.toInt ≠ 0 → t_fault1_18.toInt = t_fault1_6.toInt) := k_22
    have kc_24 : (0 : Int32).toInt = 0 := by decide
    obtain ⟨k_22_0, k_22_1, k_22_2, k_22_3, k_22_4, k_22_5, k_22_6, k_22_7⟩ := k_22
    have hPD := vPD (ws' := [(h1, .inr (4, [.int g_wide, .int g_deep, .int g_count, .ref g_sorts])), (g_sorts, .inl (cy 1, 20, .inl g_sortsf)), (h0, .inr (8, [.ref t_bytes, .int t_length, .int t_end, .int t_token1_15, .int t_start1_16, .int t_stop1_17, .int t_number1_20, .int t_fault1_18, .int t_faultAt1_19])), (t_bytes, .inl (cy 0, 800, .inl t_bytesf))]) hP hD rfl
    have hP := hPD.1
    have hD := hPD.2
    refine lv_if_ne (tgt := 43) hx hb dX9_readPlace_38 (by decide) (fun h_25 => ?_) (fun h_25 => ?_)
    · have h_25 : r_21.toInt ≠ 0 := c_ne h_25
      refine lv_aload_n hx hb dX9_readPlace_43 rfl (lv_at hl 2 rfl) ?_
      refine lv_aload_n hx hb dX9_readPlace_44 rfl (lv_at hl 2 rfl) ?_
      refine r_get X kcX9 (ci := 8) rfl hP 2 rfl 6 (by decide) fX9_86 rfl dX9_readPlace_45 ?_
      refine lv_aload_n hx hb dX9_readPlace_48 rfl (lv_at hl 3 rfl) ?_
      refine r_get X kcX4 (ci := 4) rfl hP 0 rfl 0 (by decide) fX9_109 rfl dX9_readPlace_49 ?_
      refine lv_imul hx hb dX9_readPlace_52 ?_
      refine lv_topi (fun x_26 ex_26 => ?_)
      have tx_26 : x_26.toInt = t_number1_20.toInt * g_wide.toInt ∧ 0 ≤ t_number1_20.toInt * g_wide.toInt ∧ t_number1_20.toInt * g_wide.toInt ≤ 15 := ti_mulq (A := 3) (B := 5) ex_26 (by omega) (by omega) (by omega) (by omega) (by decide)
      refine lv_iload_n hx hb dX9_readPlace_53 rfl (lv_at hl 1 rfl) ?_
      refine lv_iadd hx hb dX9_readPlace_54 ?_
      refine lv_topi (fun x_27 ex_27 => ?_)
      have tx_27 : x_27.toInt = x_26.toInt + t_number1_8.toInt := ti_add (A := x_26.toInt) (B := t_number1_8.toInt) ex_27 rfl rfl (by omega) (by omega)
      refine r_put X kcX9 (ci := 8) rfl hP hD hS 2 rfl 6 (by decide) fX9_86 rfl rfl rfl (Nat.le_of_ble_eq_true rfl) dX9_readPlace_55 (fun H locs hP hD hS => ?_)
      have hPD := vPD (ws' := [(h1, .inr (4, [.int g_wide, .int g_deep, .int g_count, .ref g_sorts])), (g_sorts, .inl (cy 1, 20, .inl g_sortsf)), (h0, .inr (8, [.ref t_bytes, .int t_length, .int t_end, .int t_token1_15, .int t_start1_16, .int t_stop1_17, .int x_27, .int t_fault1_18, .int t_faultAt1_19])), (t_bytes, .inl (cy 0, 800, .inl t_bytesf))]) hP hD rfl
      have hP := hPD.1
      have hD := hPD.2
      refine lv_iload_n hx hb dX9_readPlace_58 rfl (lv_at hl 4 rfl) ?_
      refine lv_if_ne (tgt := 87) hx hb dX9_readPlace_59 (by decide) (fun h_28 => ?_) (fun h_28 => ?_)
      · have h_28 : p2.toInt ≠ 0 := c_ne h_28
        refine lv_iconst (v := 1) hx hb dX9_readPlace_87 (by decide) ?_
        exact eI hQ X hr hlocks hP hD hS (t_token1_15, t_start1_16, t_stop1_17, t_fault1_18, t_faultAt1_19, x_27) [2, 3, 0, 1] (by decide) rfl rfl (show (0 ≤ (1 : Int32).toInt ∧ (1 : Int32).toInt ≤ 1) ∧ (0 ≤ t_start1_16.toInt ∧ t_start1_16.toInt ≤ 800) ∧ (0 ≤ t_stop1_17.toInt ∧ t_stop1_17.toInt ≤ 800) ∧ (t_start1_16.toInt ≤ t_stop1_17.toInt ∧ t_stop1_17.toInt ≤ t_end.toInt) ∧ (((1 : Int32).toInt = 1 ∧ 0 ≤ x_27.toInt ∧ x_27.toInt ≤ 19) ∨ (1 : Int32).toInt = 0) ∧ (qP t_bytesf t_end.toInt g_wide.toInt g_deep.toInt g_count.toInt g_sortsf p2.toInt t_token.toInt t_start.toInt t_stop.toInt (1 : Int32).toInt x_27.toInt t_token1_15.toInt t_start1_16.toInt t_stop1_17.toInt t_fault1_18.toInt t_faultAt1_19.toInt) ∧ ((1 : Int32).toInt ≠ 0 → t_fault1_18.toInt = t_fault.toInt) from ⟨(by first | decide | (have h9_0 : (1 : Int32).toInt = 1 := (by decide); omega) | (refine ⟨by decide, ?_⟩; omega) | omega), k_22_1, k_22_2, k_22_3, (Or.inl ⟨by decide, by omega, by omega⟩), (qP_y (r3 := 0) k_10_6 (by decide) (by omega) (by omega) k_22_6 (by decide) (by omega) (by omega) (by decide) (show x_27.toInt = g_wide.toInt * _ + _ by rw [Int.mul_comm]; omega) (Or.inl (by omega))), (by first | decide | (have h9_0 : (1 : Int32).toInt = 1 := (by decide); omega) | (refine ⟨by decide, ?_⟩; omega) | omega)⟩) (Nat.le_of_ble_eq_true rfl) (Nat.le_of_ble_eq_true rfl) dX9_readPlace_88
      · have h_28 : p2.toInt = 0 := c_eq h_28
        refine lv_aload_n hx hb dX9_readPlace_62 rfl (lv_at hl 3 rfl) ?_
        refine lv_aload_n hx hb dX9_readPlace_63 rfl (lv_at hl 2 rfl) ?_
        refine r_get X kcX9 (ci := 8) rfl hP 2 rfl 6 (by decide) fX9_86 rfl dX9_readPlace_64 ?_
        refine sl_Ic (rV_I (As := [.int x_27]) (rest := []) X hp_st (fun _ _ _ h => h) (g4_sortAt l dC dI cy h1 g_wide g_deep g_count g_sorts g_sortsf x_27 hg_wide hg_deep hg_count) kX4_sortAt vX4_sortAt mX9_200 hP hD hS hA [0, 1] (by decide) rfl 0 (ci := 4) rfl rfl rfl hl rfl rfl (Nat.le_of_ble_eq_true rfl) dX9_readPlace_67 ⟨(Nat.le_of_ble_eq_true rfl), (Nat.le_of_ble_eq_true rfl)⟩ ⟨(Nat.le_of_ble_eq_true rfl), (Nat.le_of_ble_eq_true rfl)⟩) hP hD hS hA [0, 1] [false, false, true, true] rfl rfl rfl (fun r_29 u_31 H locs k_30 hP hD hS => ?_)
        have k_30 : (saP g_count.toInt g_sortsf x_27.toInt r_29.toInt) := k_30
        have hPD := vPD (ws' := [(h0, .inr (8, [.ref t_bytes, .int t_length, .int t_end, .int t_token1_15, .int t_start1_16, .int t_stop1_17, .int x_27, .int t_fault1_18, .int t_faultAt1_19])), (t_bytes, .inl (cy 0, 800, .inl t_bytesf)), (h1, .inr (4, [.int g_wide, .int g_deep, .int g_count, .ref g_sorts])), (g_sorts, .inl (cy 1, 20, .inl g_sortsf))]) hP hD rfl
        have hP := hPD.1
        have hD := hPD.2
        refine lv_iconst (v := 3) hx hb dX9_readPlace_70 (by decide) ?_
        refine lv_icmp_ne (tgt := 87) hx hb dX9_readPlace_71 (by decide) (fun h_32 => ?_) (fun h_32 => ?_)
        · have h_32 : r_29.toInt ≠ 3 := c_ne h_32
          refine lv_iconst (v := 1) hx hb dX9_readPlace_87 (by decide) ?_
          exact eI hQ X hr hlocks hP hD hS (t_token1_15, t_start1_16, t_stop1_17, t_fault1_18, t_faultAt1_19, x_27) [0, 1, 2, 3] (by decide) rfl rfl (show (0 ≤ (1 : Int32).toInt ∧ (1 : Int32).toInt ≤ 1) ∧ (0 ≤ t_start1_16.toInt ∧ t_start1_16.toInt ≤ 800) ∧ (0 ≤ t_stop1_17.toInt ∧ t_stop1_17.toInt ≤ 800) ∧ (t_start1_16.toInt ≤ t_stop1_17.toInt ∧ t_stop1_17.toInt ≤ t_end.toInt) ∧ (((1 : Int32).toInt = 1 ∧ 0 ≤ x_27.toInt ∧ x_27.toInt ≤ 19) ∨ (1 : Int32).toInt = 0) ∧ (qP t_bytesf t_end.toInt g_wide.toInt g_deep.toInt g_count.toInt g_sortsf p2.toInt t_token.toInt t_start.toInt t_stop.toInt (1 : Int32).toInt x_27.toInt t_token1_15.toInt t_start1_16.toInt t_stop1_17.toInt t_fault1_18.toInt t_faultAt1_19.toInt) ∧ ((1 : Int32).toInt ≠ 0 → t_fault1_18.toInt = t_fault.toInt) from ⟨(by first | decide | (have h9_0 : (1 : Int32).toInt = 1 := (by decide); omega) | (refine ⟨by decide, ?_⟩; omega) | omega), k_22_1, k_22_2, k_22_3, (Or.inl ⟨by decide, by omega, by omega⟩), (qP_y (r3 := r_29.toInt) k_10_6 (by decide) (by omega) (by omega) k_22_6 (by decide) (by omega) (by omega) (by decide) (show x_27.toInt = g_wide.toInt * _ + _ by rw [Int.mul_comm]; omega) (Or.inr ⟨k_30, by omega⟩)), (by first | decide | (have h9_0 : (1 : Int32).toInt = 1 := (by decide); omega) | (refine ⟨by decide, ?_⟩; omega) | omega)⟩) (Nat.le_of_ble_eq_true rfl) (Nat.le_of_ble_eq_true rfl) dX9_readPlace_88
        · have h_32 : r_29.toInt = 3 := c_eq h_32
          refine lv_aload_n hx hb dX9_readPlace_74 rfl (lv_at hl 2 rfl) ?_
          refine lv_iload hx hb dX9_readPlace_75 (lv_at hl 0 rfl) ?_
          refine r_put X kcX9 (ci := 8) rfl hP hD hS 0 rfl 4 (by decide) fX9_119 rfl rfl rfl (Nat.le_of_ble_eq_true rfl) dX9_readPlace_77 (fun H locs hP hD hS => ?_)
          have hPD := vPD (ws' := [(h0, .inr (8, [.ref t_bytes, .int t_length, .int t_end, .int t_token1_15, .int t_start1_4, .int t_stop1_17, .int x_27, .int t_fault1_18, .int t_faultAt1_19])), (t_bytes, .inl (cy 0, 800, .inl t_bytesf)), (h1, .inr (4, [.int g_wide, .int g_deep, .int g_count, .ref g_sorts])), (g_sorts, .inl (cy 1, 20, .inl g_sortsf))]) hP hD rfl
          have hP := hPD.1
          have hD := hPD.2
          refine lv_aload_n hx hb dX9_readPlace_80 rfl (lv_at hl 2 rfl) ?_
          refine lv_bipush (v := 7) hx hb dX9_readPlace_81 (by decide) ?_
          refine sl_Ic (rV_I (As := [.int 7]) (rest := []) X hp_st (fun _ _ _ h => h) (g9_wrong l dC dI cy h0 t_bytes t_length t_end t_token1_15 t_start1_4 t_stop1_17 x_27 t_fault1_18 t_faultAt1_19 7 ht_length ht_end k_10_1 k_22_2) kX9_wrong vX9_wrong mX9_62 hP hD hS hA [0] (by decide) rfl 0 (ci := 8) rfl rfl rfl hl rfl rfl (Nat.le_of_ble_eq_true rfl) dX9_readPlace_83 ⟨(Nat.le_of_ble_eq_true rfl), (Nat.le_of_ble_eq_true rfl)⟩ ⟨(Nat.le_of_ble_eq_true rfl), (Nat.le_of_ble_eq_true rfl)⟩) hP hD hS hA [0] [false, true, true, true] rfl rfl rfl (fun r_35 u_37 H locs k_36 hP hD hS => ?_)
          obtain ⟨t_fault1_33, t_faultAt1_34⟩ := u_37
          have k_36 : (r_35 = 0) ∧ (t_fault1_33.toInt = (7 : Int32).toInt) ∧ (t_faultAt1_34.toInt = t_start1_4.toInt) := k_36
          have kc_38 : (7 : Int32).toInt = 7 := by decide
          obtain ⟨k_36_0, k_36_1, k_36_2⟩ := k_36
          have hPD := vPD (ws' := [(t_bytes, .inl (cy 0, 800, .inl t_bytesf)), (h1, .inr (4, [.int g_wide, .int g_deep, .int g_count, .ref g_sorts])), (g_sorts, .inl (cy 1, 20, .inl g_sortsf)), (h0, .inr (8, [.ref t_bytes, .int t_length, .int t_end, .int t_token1_15, .int t_start1_4, .int t_stop1_17, .int x_27, .int t_fault1_33, .int t_faultAt1_34]))]) hP hD rfl
          have hP := hPD.1
          have hD := hPD.2
          have er_35 : r_35 = 0 := k_36_0
          subst er_35
          exact eI hQ X hr hlocks hP hD hS (t_token1_15, t_start1_4, t_stop1_17, t_fault1_33, t_faultAt1_34, x_27) [3, 0, 1, 2] (by decide) rfl rfl (show (0 ≤ (0 : Int32).toInt ∧ (0 : Int32).toInt ≤ 1) ∧ (0 ≤ t_start1_4.toInt ∧ t_start1_4.toInt ≤ 800) ∧ (0 ≤ t_stop1_17.toInt ∧ t_stop1_17.toInt ≤ 800) ∧ (t_start1_4.toInt ≤ t_stop1_17.toInt ∧ t_stop1_17.toInt ≤ t_end.toInt) ∧ (((0 : Int32).toInt = 1 ∧ 0 ≤ x_27.toInt ∧ x_27.toInt ≤ 19) ∨ (0 : Int32).toInt = 0) ∧ (qP t_bytesf t_end.toInt g_wide.toInt g_deep.toInt g_count.toInt g_sortsf p2.toInt t_token.toInt t_start.toInt t_stop.toInt (0 : Int32).toInt x_27.toInt t_token1_15.toInt t_start1_4.toInt t_stop1_17.toInt t_fault1_33.toInt t_faultAt1_34.toInt) ∧ ((0 : Int32).toInt ≠ 0 → t_fault1_33.toInt = t_fault.toInt) from ⟨(by first | decide | (have h9_0 : (0 : Int32).toInt = 0 := (by decide); omega) | (refine ⟨by decide, ?_⟩; omega) | omega), k_10_1, k_22_2, (by omega), (Or.inr (by decide)), (qP_7 k_10_6 (by decide) (by omega) (by omega) k_22_6 (by decide) (by omega) (by omega) (by decide) (show x_27.toInt = g_wide.toInt * _ + _ by rw [Int.mul_comm]; omega) (by omega) k_30 (by omega) (by have kc : (7 : Int32).toInt = 7 := (by decide); omega) (by omega)), (by first | decide | (have h9_0 : (0 : Int32).toInt = 0 := (by decide); omega) | (refine ⟨by decide, ?_⟩; omega) | omega)⟩) (Nat.le_of_ble_eq_true rfl) (Nat.le_of_ble_eq_true rfl) dX9_readPlace_86
    · have h_25 : r_21.toInt = 0 := c_eq h_25
      refine lv_iconst (v := 0) hx hb dX9_readPlace_41 (by decide) ?_
      exact eI hQ X hr hlocks hP hD hS (t_token1_15, t_start1_16, t_stop1_17, t_fault1_18, t_faultAt1_19, t_number1_20) [2, 3, 0, 1] (by decide) rfl rfl (show (0 ≤ (0 : Int32).toInt ∧ (0 : Int32).toInt ≤ 1) ∧ (0 ≤ t_start1_16.toInt ∧ t_start1_16.toInt ≤ 800) ∧ (0 ≤ t_stop1_17.toInt ∧ t_stop1_17.toInt ≤ 800) ∧ (t_start1_16.toInt ≤ t_stop1_17.toInt ∧ t_stop1_17.toInt ≤ t_end.toInt) ∧ (((0 : Int32).toInt = 1 ∧ 0 ≤ t_number1_20.toInt ∧ t_number1_20.toInt ≤ 19) ∨ (0 : Int32).toInt = 0) ∧ (qP t_bytesf t_end.toInt g_wide.toInt g_deep.toInt g_count.toInt g_sortsf p2.toInt t_token.toInt t_start.toInt t_stop.toInt (0 : Int32).toInt t_number1_20.toInt t_token1_15.toInt t_start1_16.toInt t_stop1_17.toInt t_fault1_18.toInt t_faultAt1_19.toInt) ∧ ((0 : Int32).toInt ≠ 0 → t_fault1_18.toInt = t_fault.toInt) from ⟨(by first | decide | (have h9_0 : (0 : Int32).toInt = 0 := (by decide); omega) | (refine ⟨by decide, ?_⟩; omega) | omega), k_22_1, k_22_2, k_22_3, (Or.inr (by decide)), (qP_2 k_10_6 (by decide) (by omega) (by omega) k_22_6 (by decide) (by omega) (by omega) (by decide)), (by first | decide | (have h9_0 : (0 : Int32).toInt = 0 := (by decide); omega) | (refine ⟨by decide, ?_⟩; omega) | omega)⟩) (Nat.le_of_ble_eq_true rfl) (Nat.le_of_ble_eq_true rfl) dX9_readPlace_42
  · have h_13 : r_9.toInt = 0 := c_eq h_13
    refine lv_iconst (v := 0) hx hb dX9_readPlace_14 (by decide) ?_
    exact eI hQ X hr hlocks hP hD hS (t_token1_3, t_start1_4, t_stop1_5, t_fault1_6, t_faultAt1_7, t_number1_8) [2, 3, 0, 1] (by decide) rfl rfl (show (0 ≤ (0 : Int32).toInt ∧ (0 : Int32).toInt ≤ 1) ∧ (0 ≤ t_start1_4.toInt ∧ t_start1_4.toInt ≤ 800) ∧ (0 ≤ t_stop1_5.toInt ∧ t_stop1_5.toInt ≤ 800) ∧ (t_start1_4.toInt ≤ t_stop1_5.toInt ∧ t_stop1_5.toInt ≤ t_end.toInt) ∧ (((0 : Int32).toInt = 1 ∧ 0 ≤ t_number1_8.toInt ∧ t_number1_8.toInt ≤ 19) ∨ (0 : Int32).toInt = 0) ∧ (qP t_bytesf t_end.toInt g_wide.toInt g_deep.toInt g_count.toInt g_sortsf p2.toInt t_token.toInt t_start.toInt t_stop.toInt (0 : Int32).toInt t_number1_8.toInt t_token1_3.toInt t_start1_4.toInt t_stop1_5.toInt t_fault1_6.toInt t_faultAt1_7.toInt) ∧ ((0 : Int32).toInt ≠ 0 → t_fault1_6.toInt = t_fault.toInt) from ⟨(by first | decide | (have h9_0 : (0 : Int32).toInt = 0 := (by decide); omega) | (refine ⟨by decide, ?_⟩; omega) | omega), k_10_1, k_10_2, k_10_3, (Or.inr (by decide)), (qP_1 k_10_6 (by decide) (by omega) (by omega) (by decide)), (by first | decide | (have h9_0 : (0 : Int32).toInt = 0 := (by decide); omega) | (refine ⟨by decide, ?_⟩; omega) | omega)⟩) (Nat.le_of_ble_eq_true rfl) (Nat.le_of_ble_eq_true rfl) dX9_readPlace_15
end
