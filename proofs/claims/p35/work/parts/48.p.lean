/-- one of four, the first that holds -/
noncomputable def wch (P0 P1 P2 P3 : Prop) : Int := @ite _ P0 (Classical.propDecidable _) 0 (@ite _ P1 (Classical.propDecidable _) 1 (@ite _ P2 (Classical.propDecidable _) 2 (@ite _ P3 (Classical.propDecidable _) 3 (-1))))
theorem wch_0 {P0 P1 P2 P3 : Prop} (h : P0) : wch P0 P1 P2 P3 = 0 := by
  unfold wch
  rw [if_pos h]
theorem wch_1 {P0 P1 P2 P3 : Prop} (h0 : ¬ P0) (h : P1) : wch P0 P1 P2 P3 = 1 := by
  unfold wch
  rw [if_neg h0, if_pos h]
theorem wch_2 {P0 P1 P2 P3 : Prop} (h0 : ¬ P0) (h1 : ¬ P1) (h : P2) : wch P0 P1 P2 P3 = 2 := by
  unfold wch
  rw [if_neg h0, if_neg h1, if_pos h]
theorem wch_3 {P0 P1 P2 P3 : Prop} (h0 : ¬ P0) (h1 : ¬ P1) (h2 : ¬ P2) (h : P3) : wch P0 P1 P2 P3 = 3 := by
  unfold wch
  rw [if_neg h0, if_neg h1, if_neg h2, if_pos h]
theorem wch_n {P0 P1 P2 P3 : Prop} (h0 : ¬ P0) (h1 : ¬ P1) (h2 : ¬ P2) (h : ¬ P3) : wch P0 P1 P2 P3 = -1 := by
  unfold wch
  rw [if_neg h0, if_neg h1, if_neg h2, if_neg h]
noncomputable def lw (f : Nat → Int32) (n j : Int) : Int := wch (isW f n 4 (txB "park") j) (isW f n 3 (txB "row") j) (isW f n 6 (txB "walker") j) (isW f n 4 (txB "walk") j)
noncomputable def kd (f : Nat → Int32) (n j : Int) : Int := wch (isW f n 5 (txB "guest") j) (isW f n 5 (txB "child") j) (isW f n 7 (txB "colonel") j) (isW f n 6 (txB "keeper") j)
theorem asc_park : asc 4 (txB "park") := by unfold asc; decide +kernel
theorem asc_row : asc 3 (txB "row") := by unfold asc; decide +kernel
theorem asc_walker : asc 6 (txB "walker") := by unfold asc; decide +kernel
theorem asc_walk : asc 4 (txB "walk") := by unfold asc; decide +kernel
theorem asc_guest : asc 5 (txB "guest") := by unfold asc; decide +kernel
theorem asc_child : asc 5 (txB "child") := by unfold asc; decide +kernel
theorem asc_colonel : asc 7 (txB "colonel") := by unfold asc; decide +kernel
theorem asc_keeper : asc 6 (txB "keeper") := by unfold asc; decide +kernel
theorem asc_wide : asc 4 (txB "wide") := by unfold asc; decide +kernel
theorem asc_deep : asc 4 (txB "deep") := by unfold asc; decide +kernel
theorem asc_errs : asc 4 (txB "errs") := by unfold asc; decide +kernel
theorem asc_slips : asc 5 (txB "slips") := by unfold asc; decide +kernel
theorem asc_at : asc 2 (txB "at") := by unfold asc; decide +kernel
theorem asc_to : asc 2 (txB "to") := by unfold asc; decide +kernel
theorem asc_steps : asc 5 (txB "steps") := by unfold asc; decide +kernel
theorem asc_fell : asc 4 (txB "fell") := by unfold asc; decide +kernel
theorem asc_dry : asc 3 (txB "dry") := by unfold asc; decide +kernel
/-- a fault where c holds -/
noncomputable def ck (c : Prop) (k : Int) (σ : Int × Int) : Int × Int := @ite _ c (Classical.propDecidable _) (fl k σ) σ
theorem ck_o {c : Prop} {k : Int} {σ : Int × Int} (h : σ.1 ≠ 0) : ck c k σ = σ := by
  unfold ck
  by_cases hc : c
  · rw [if_pos hc, fl_o h]
  · rw [if_neg hc]
theorem ck_y {c : Prop} {k : Int} {σ : Int × Int} (h : c) : ck c k σ = fl k σ := by
  unfold ck
  rw [if_pos h]
theorem ck_n {c : Prop} {k : Int} {σ : Int × Int} (h : ¬ c) : ck c k σ = σ := by
  unfold ck
  rw [if_neg h]
theorem ck_2 {c : Prop} {k : Int} {σ : Int × Int} : (ck c k σ).2 = σ.2 := by
  unfold ck fl
  by_cases hc : c
  · rw [if_pos hc]
    split <;> rfl
  · rw [if_neg hc]
/-- the lines -/
noncomputable def fPk (f : Nat → Int32) (n w : Int) (σ : Int × Int) : Int × Int := rP f n 5 (txB "slips") 0 100 (rP f n 4 (txB "errs") 0 100 (rP f n 4 (txB "deep") 2 4 (rP f n 4 (txB "wide") 2 5 (go f n (ck (0 < w) 3 σ)))))
noncomputable def vWi (f : Nat → Int32) (n w : Int) (σ : Int × Int) : Int := tN f n (nd f n 4 (txB "wide") (go f n (ck (0 < w) 3 σ))).2
noncomputable def vDe (f : Nat → Int32) (n w : Int) (σ : Int × Int) : Int := tN f n (nd f n 4 (txB "deep") (rP f n 4 (txB "wide") 2 5 (go f n (ck (0 < w) 3 σ)))).2
noncomputable def vEr (f : Nat → Int32) (n w : Int) (σ : Int × Int) : Int := tN f n (nd f n 4 (txB "errs") (rP f n 4 (txB "deep") 2 4 (rP f n 4 (txB "wide") 2 5 (go f n (ck (0 < w) 3 σ))))).2
noncomputable def vSl (f : Nat → Int32) (n w : Int) (σ : Int × Int) : Int := tN f n (nd f n 5 (txB "slips") (rP f n 4 (txB "errs") 0 100 (rP f n 4 (txB "deep") 2 4 (rP f n 4 (txB "wide") 2 5 (go f n (ck (0 < w) 3 σ)))))).2
noncomputable def lbS (f : Nat → Int32) (n w d rows many most : Int) (σ : Int × Int) : Int × Int := go f n (ck (w ≤ 0 ∨ rows < d) 6 (ck (many = most) 5 σ))
/-- a name told before -/
def tol (g : Nat → Int64) (many c : Int) : Prop := ∃ k : Nat, (k : Int) < many ∧ (g k).toInt = c
noncomputable def nmS (f : Nat → Int32) (n : Int) (g : Nat → Int64) (many : Int) (σ : Int × Int) : Int × Int := ck (tol g many (tC f n σ.2)) 3 (ck (tK f n σ.2 ≠ 1 ∨ lw f n σ.2 ≠ -1) 1 σ)
noncomputable def kdS (f : Nat → Int32) (n : Int) (σ : Int × Int) : Int × Int := go f n (ck (kd f n σ.2 = -1) 1 σ)
noncomputable def fWk (f : Nat → Int32) (n w d rows many : Int) (s : Nat → Int32) (g : Nat → Int64) (σ : Int × Int) : Int × Int := rPl f n w d s 0 (nd f n 2 (txB "to") (rPl f n w d s 0 (nd f n 2 (txB "at") (kdS f n (go f n (nmS f n g many (lbS f n w d rows many 4 σ)))))))
noncomputable def stpS (f : Nat → Int32) (n w d : Int) (σ : Int × Int) : Int × Int := rP f n 5 (txB "steps") 1 (min 3 (d - 1 - tN f n (rW f n 0 (w - 1) σ).2)) (rW f n 0 (d - 1) (rW f n 0 (w - 1) σ))
noncomputable def feS (f : Nat → Int32) (n : Int) (σ : Int × Int) : Int × Int := go f n (ck (¬ isW f n 4 (txB "fell") σ.2 ∧ ¬ isW f n 3 (txB "dry") σ.2) 1 σ)
noncomputable def fWl (f : Nat → Int32) (n w d rows many : Int) (σ : Int × Int) : Int × Int := feS f n (stpS f n w d (lbS f n w d rows many 6 σ))
/-- a row's letters -/
def rwL (c : Int) : Prop := c = 111 ∨ c = 100 ∨ c = 103 ∨ c = 104 ∨ c = 117
def rwK (f : Nat → Int32) (n w j : Int) : Prop := tK f n j = 1 ∧ tE f n j - tS f n j = w ∧ ∀ k : Int, tS f n j ≤ k → k < tE f n j → rwL (f k.toNat).toInt
/-- letters u from s on -/
def cu (f : Nat → Int32) (s : Nat) : Nat → Int
  | 0 => 0
  | k + 1 => cu f s k + (if (f (s + k)).toInt = 117 then 1 else 0)
noncomputable def fRw (f : Nat → Int32) (n w d rows uns : Int) (σ : Int × Int) : Int × Int := go f n (ck (5 < uns + cu f (tS f n (go f n (ck (w ≤ 0) 6 (ck (0 < w ∧ rows = d) 5 σ))).2).toNat w.toNat) 5 (ck (¬ rwK f n w (go f n (ck (w ≤ 0) 6 (ck (0 < w ∧ rows = d) 5 σ))).2) 1 (go f n (ck (w ≤ 0) 6 (ck (0 < w ∧ rows = d) 5 σ)))))
/-- the class: what a word of four says -/
def fwP (f : Nat → Int32) (tok st sp : Int) (F : Int → Int → Int) (n r : Int) : Prop := ∀ j, LkC f n j tok st sp → r = F n j
/-- readPart of the class: a word, then a whole -/
theorem qR_n {f : Nat → Int32} {n : Int} {sn : Nat} {sf : Nat → Int32} {lo hi tok st sp r t1 s1 p1 fa fat : Int} (hw : qW f n sn sf tok st sp r t1 s1 p1 fa fat) (hr : r = 0) (ha : asc sn sf) {σ : Int × Int} (hσ : σ.1 = 0) (hk : LkC f n σ.2 tok st sp) : OcC f n (rP f n sn sf lo hi σ) 0 t1 s1 p1 fa fat := by
  rcases hw σ hσ ha hk with q | q
  · omega
  · refine Or.inr ⟨rfl, ?_⟩
    unfold rP
    rw [rW_o q.2.1]
    exact q.2
theorem qR_y {f : Nat → Int32} {n : Int} {sn : Nat} {sf : Nat → Int32} {lo hi tok st sp r t1 s1 p1 fa fat r2 nu t2 s2 p2 fa2 fat2 : Int} (hw : qW f n sn sf tok st sp r t1 s1 p1 fa fat) (hr : r ≠ 0) (hn : qN f n lo hi t1 s1 p1 r2 nu t2 s2 p2 fa2 fat2) (ha : asc sn sf) {σ : Int × Int} (hσ : σ.1 = 0) (hk : LkC f n σ.2 tok st sp) : OcC f n (rP f n sn sf lo hi σ) r2 t2 s2 p2 fa2 fat2 ∧ (r2 = 1 → nu = tN f n (nd f n sn sf σ).2) := by
  rcases hw σ hσ ha hk with q | q
  · exact hn _ q.2.1 q.2.2
  · omega
theorem OcC.z {f : Nat → Int32} {n : Int} {σ : Int × Int} {r t1 s1 p1 fa fat : Int} (h : OcC f n σ r t1 s1 p1 fa fat) (hr : r ≠ 0) : σ.1 = 0 ∧ LkC f n σ.2 t1 s1 p1 := by
  rcases h with q | q
  · exact q.2
  · exact absurd q.1 hr
theorem OcC.o {f : Nat → Int32} {n : Int} {σ : Int × Int} {r t1 s1 p1 fa fat : Int} (h : OcC f n σ r t1 s1 p1 fa fat) (hr : r = 0) : σ.1 ≠ 0 ∧ fa = σ.1 ∧ fat = tS f n σ.2 := by
  rcases h with q | q
  · omega
  · exact q.2
theorem LkC.go {f : Nat → Int32} {n tok st sp t1 s1 p1 : Int} {σ : Int × Int} (hk : LkC f n σ.2 tok st sp) (hσ : σ.1 = 0) (h : LkC f n sp t1 s1 p1) : (go f n σ).1 = 0 ∧ LkC f n (go f n σ).2 t1 s1 p1 := by
  rw [go_z hσ]
  refine ⟨rfl, ?_⟩
  have h4 : sp = tE f n σ.2 := hk.2.2.2
  rw [← h4]
  exact h
/-- a fault of the class, at the token that is looked at -/
theorem LkC.ck {f : Nat → Int32} {n tok st sp : Int} {σ : Int × Int} {c : Prop} {k fa fat : Int} (hk : LkC f n σ.2 tok st sp) (hσ : σ.1 = 0) (hc : c) (h0 : k ≠ 0) (hf : fa = k) (ht : fat = st) : (ck c k σ).1 ≠ 0 ∧ fa = (ck c k σ).1 ∧ fat = tS f n (ck c k σ).2 := by
  rw [ck_y hc, fl_z hσ]
  exact ⟨h0, hf, ht.trans hk.2.2.1⟩
/-- sortAt of the class -/
def saP (count : Int) (g : Nat → Int32) (c r : Int) : Prop := (0 ≤ c ∧ c < count ∧ r = (g c.toNat).toInt) ∨ ((c < 0 ∨ count ≤ c) ∧ r = 3)
/-- readPlace of the class -/
def qP (f : Nat → Int32) (n w d count : Int) (g : Nat → Int32) (z tok st sp r num1 t1 s1 p1 fa fat : Int) : Prop := count = w * d → ∀ σ : Int × Int, σ.1 = 0 → LkC f n σ.2 tok st sp → OcC f n (rPl f n w d g z σ) r t1 s1 p1 fa fat ∧ (r = 1 → num1 = sC f n w σ)
theorem qP_1 {f : Nat → Int32} {n w d count : Int} {g : Nat → Int32} {z tok st sp r num1 t1 s1 p1 fa fat r1 nu1 lo hi : Int} (h1 : qN f n lo hi tok st sp r1 nu1 t1 s1 p1 fa fat) (hl : lo = 0) (hh : hi = w - 1) (e1 : r1 = 0) (hr : r = 0) : qP f n w d count g z tok st sp r num1 t1 s1 p1 fa fat := by
  subst hl hh
  intro hc σ hσ hk
  obtain ⟨o1, -⟩ := h1 σ hσ hk
  obtain ⟨z1, a1, b1⟩ := o1.o e1
  refine ⟨Or.inr ⟨hr, ?_⟩, fun q => by omega⟩
  unfold rPl
  rw [wa_o z1, hg_o z1, go_o z1]
  exact ⟨z1, a1, b1⟩
theorem go_ne {f : Nat → Int32} {n : Int} {σ : Int × Int} (h : (go f n σ).1 ≠ 0) : σ.1 ≠ 0 ∧ go f n σ = σ := by
  have h1 : σ.1 ≠ 0 := fun q => h (by rw [go_z q])
  exact ⟨h1, go_o h1⟩
theorem qP_2 {f : Nat → Int32} {n w d count : Int} {g : Nat → Int32} {z tok st sp r num1 t1 s1 p1 fa fat r1 nu1 lo hi r2 nu2 t2 s2 p2 fa2 fat2 lo2 hi2 : Int} (h1 : qN f n lo hi tok st sp r1 nu1 t1 s1 p1 fa fat) (hl : lo = 0) (hh : hi = w - 1) (e1 : r1 ≠ 0) (h2 : qN f n lo2 hi2 t1 s1 p1 r2 nu2 t2 s2 p2 fa2 fat2) (hl2 : lo2 = 0) (hh2 : hi2 = d - 1) (e2 : r2 = 0) (hr : r = 0) : qP f n w d count g z tok st sp r num1 t2 s2 p2 fa2 fat2 := by
  subst hl hh hl2 hh2
  intro hc σ hσ hk
  obtain ⟨o1, -⟩ := h1 σ hσ hk
  obtain ⟨z1, k1⟩ := o1.z e1
  obtain ⟨o2, -⟩ := h2 _ z1 k1
  obtain ⟨z2, a2, b2⟩ := o2.o e2
  obtain ⟨z3, e3⟩ := go_ne (σ := wa f n 0 (d - 1) (rW f n 0 (w - 1) σ)) z2
  have e4 : rW f n 0 (d - 1) (rW f n 0 (w - 1) σ) = wa f n 0 (d - 1) (rW f n 0 (w - 1) σ) := e3
  rw [e4] at a2 b2
  refine ⟨Or.inr ⟨hr, ?_⟩, fun q => by omega⟩
  unfold rPl
  rw [hg_o z3, go_o z3]
  exact ⟨z3, a2, b2⟩
theorem pl_in {w d r c : Int} (h0 : 0 ≤ c) (h1 : c ≤ w - 1) (h2 : 0 ≤ r) (h3 : r ≤ d - 1) : 0 ≤ w * r + c ∧ w * r + c < w * d := by
  have e := cell_lt (w := w) (d := d) (r := r) (c := c) (by omega) h3 h1
  have g := Int.mul_nonneg (show 0 ≤ w by omega) h2
  omega
theorem qP_y {f : Nat → Int32} {n w d count : Int} {g : Nat → Int32} {z tok st sp r num1 t1 s1 p1 fa fat r1 nu1 lo hi r2 nu2 t2 s2 p2 fa2 fat2 lo2 hi2 fa3 fat3 : Int} (h1 : qN f n lo hi tok st sp r1 nu1 t1 s1 p1 fa fat) (hl : lo = 0) (hh : hi = w - 1) (e1 : r1 = 1) (h2 : qN f n lo2 hi2 t1 s1 p1 r2 nu2 t2 s2 p2 fa2 fat2) (hl2 : lo2 = 0) (hh2 : hi2 = d - 1) (e2 : r2 = 1) (hr : r = 1) (hc9 : num1 = w * nu2 + nu1) {r3 : Int} (hz : z ≠ 0 ∨ (saP count g num1 r3 ∧ r3 ≠ 3)) : qP f n w d count g z tok st sp r num1 t2 s2 p2 fa3 fat3 := by
  subst hl hh hl2 hh2
  intro hc σ hσ hk
  obtain ⟨o1, n1⟩ := h1 σ hσ hk
  obtain ⟨z1, k1⟩ := o1.z (by omega)
  obtain ⟨o2, n2⟩ := h2 _ z1 k1
  obtain ⟨z2, k2⟩ := o2.z (by omega)
  have m1 := n1 e1
  have m2 := n2 e2
  obtain ⟨-, -, b1, b2, -⟩ := rW_0 z1
  obtain ⟨-, q0, q1, q2, q3⟩ := rW_0 z2
  have hw : wa f n 0 (d - 1) (rW f n 0 (w - 1) σ) = rW f n 0 (w - 1) σ := by
    unfold wa
    rw [if_neg (fun h => h q0), if_neg (by omega)]
  have hsC : sC f n w σ = num1 := by unfold sC; rw [hc9, m1, m2]
  have hh : hg g z (sC f n w σ) (rW f n 0 (w - 1) σ) = rW f n 0 (w - 1) σ := by
    unfold hg
    rw [if_neg]
    rw [hsC]
    intro h
    have hp := pl_in (w := w) (d := d) b1 b2 q1 q2
    rcases hz with h3 | ⟨h3, h4⟩
    · exact h3 h.1
    · rcases h3 with h5 | h5
      · omega
      · rw [m1, m2] at hc9; omega
  refine ⟨Or.inl ⟨hr, ?_⟩, fun _ => hsC.symm⟩
  unfold rPl
  rw [hw, hh, go_z z1]
  rw [q3] at k2
  exact ⟨rfl, k2⟩
theorem qP_7 {f : Nat → Int32} {n w d count : Int} {g : Nat → Int32} {z tok st sp r num1 num2 t1 s1 p1 fa fat r1 nu1 lo hi r2 nu2 t2 s2 p2 fa2 fat2 lo2 hi2 fa3 fat3 t3 s3 p3 : Int} (h1 : qN f n lo hi tok st sp r1 nu1 t1 s1 p1 fa fat) (hl : lo = 0) (hh : hi = w - 1) (e1 : r1 = 1) (h2 : qN f n lo2 hi2 t1 s1 p1 r2 nu2 t2 s2 p2 fa2 fat2) (hl2 : lo2 = 0) (hh2 : hi2 = d - 1) (e2 : r2 = 1) (hr : r = 0) (hc9 : num1 = w * nu2 + nu1) {r3 : Int} (hz : z = 0) (hs : saP count g num1 r3) (h3 : r3 = 3) (hf : fa3 = 7) (ht : fat3 = s1) : qP f n w d count g z tok st sp r num2 t3 s3 p3 fa3 fat3 := by
  subst hl hh hl2 hh2
  intro hc σ hσ hk
  obtain ⟨o1, n1⟩ := h1 σ hσ hk
  obtain ⟨z1, k1⟩ := o1.z (by omega)
  obtain ⟨o2, n2⟩ := h2 _ z1 k1
  obtain ⟨z2, k2⟩ := o2.z (by omega)
  have m1 := n1 e1
  have m2 := n2 e2
  obtain ⟨-, -, b1, b2, -⟩ := rW_0 z1
  obtain ⟨-, q0, q1, q2, q3⟩ := rW_0 z2
  have hw : wa f n 0 (d - 1) (rW f n 0 (w - 1) σ) = rW f n 0 (w - 1) σ := by
    unfold wa
    rw [if_neg (fun h => h q0), if_neg (by omega)]
  have hsC : sC f n w σ = num1 := by unfold sC; rw [hc9, m1, m2]
  have hp := pl_in (w := w) (d := d) b1 b2 q1 q2
  rw [m1, m2] at hc9
  have hg3 : (g num1.toNat).toInt = 3 := by
    rcases hs with h5 | h5
    · omega
    · omega
  have hh : hg g z (sC f n w σ) (rW f n 0 (w - 1) σ) = (7, (rW f n 0 (w - 1) σ).2) := by
    unfold hg
    rw [hsC, if_pos ⟨hz, hg3⟩, fl_z z1]
  refine ⟨Or.inr ⟨hr, ?_⟩, fun q => by omega⟩
  unfold rPl
  rw [hw, hh, go_o (pn (show (7 : Int) ≠ 0 by decide))]
  exact ⟨pn (by decide), hf, ht.trans k1.2.2.1⟩
theorem qN_c {f : Nat → Int32} {n lo hi lo' hi' tok st sp r nu t1 s1 p1 fa fat : Int} (h : qN f n lo hi tok st sp r nu t1 s1 p1 fa fat) (e1 : lo = lo') (e2 : hi = hi') : qN f n lo' hi' tok st sp r nu t1 s1 p1 fa fat := by
  subst e1 e2; exact h
/-- readPark of the class -/
def qK (f : Nat → Int32) (n w tok st sp r t1 s1 p1 fa fat w1 d1 c1 e1 l1 : Int) : Prop := ∀ σ : Int × Int, σ.1 = 0 → LkC f n σ.2 tok st sp → OcC f n (fPk f n w σ) r t1 s1 p1 fa fat ∧ (r = 1 → w1 = vWi f n w σ ∧ d1 = vDe f n w σ ∧ c1 = vWi f n w σ * vDe f n w σ ∧ e1 = vEr f n w σ ∧ l1 = vSl f n w σ)
/-- hasName of the class, isName of the reference's park -/
def ntl (g : Nat → Int64) (i : Int) (c : Int64) : Prop := ∀ k : Nat, (k : Int) < i → g k ≠ c
def hnP (g : Nat → Int64) (many : Int) (c : Int64) (r : Int) : Prop := (r = 1 ∧ tol g many c.toInt) ∨ (r = 0 ∧ ¬ tol g many c.toInt)
theorem ntl_0 {g : Nat → Int64} {i : Int} {c : Int64} (h : i ≤ 0) : ntl g i c := fun k hk => by omega
theorem ntl_up {g : Nat → Int64} {c x : Int64} {i : Int32} {i' : Int} (h : ntl g i.toInt c) (ex : x = g i.toNatClampNeg) (hx : ¬ x = c) (h0 : 0 ≤ i.toInt) (e : i' = i.toInt + 1) : ntl g i' c := by
  intro k hk
  by_cases hc : (k : Int) < i.toInt
  · exact h k hc
  · have hk' : k = i.toNatClampNeg := by
      have e1 : i.toNatClampNeg = i.toInt.toNat := rfl
      omega
    rw [hk', ← ex]
    exact hx
theorem hnP_y {g : Nat → Int64} {many r : Int} {c x : Int64} {i : Int32} (ex : x = g i.toNatClampNeg) (hx : x = c) (h0 : 0 ≤ i.toInt) (h1 : i.toInt < many) (hr : r = 1) : hnP g many c r := by
  refine Or.inl ⟨hr, i.toNatClampNeg, ?_, ?_⟩
  · have e1 : i.toNatClampNeg = i.toInt.toNat := rfl
    omega
  · rw [← ex, hx]
theorem hnP_n {g : Nat → Int64} {many r i : Int} {c : Int64} (h : ntl g i c) (hi : many ≤ i) (hr : r = 0) : hnP g many c r := by
  refine Or.inr ⟨hr, fun ⟨k, h1, h2⟩ => ?_⟩
  exact h k (by omega) (Int64.toInt_inj.mp h2)
/-- one more in a row -/
def ap1 (f f1 : Nat → Int32) (k v : Int) : Prop := (f1 k.toNat).toInt = v ∧ ∀ j : Nat, (j : Int) < k → f1 j = f j
def apL (f f1 : Nat → Int64) (k v : Int) : Prop := (f1 k.toNat).toInt = v ∧ ∀ j : Nat, (j : Int) < k → f1 j = f j
theorem ap1_of {f f1 : Nat → Int32} {i v : Int32} (e : upd f (Int32.toNatClampNeg i) v = f1) (h0 : 0 ≤ i.toInt) : ap1 f f1 i.toInt v.toInt := by
  have e1 : i.toNatClampNeg = i.toInt.toNat := rfl
  rw [← e]
  refine ⟨?_, fun j hj => ?_⟩
  · unfold upd; rw [if_pos e1.symm]
  · unfold upd; rw [if_neg (by omega)]
/-- a row's letter by its place in the text odghu -/
theorem ix5 {c r : Int} (h : ixP (txB "odghu") 5 c r) (h0 : 0 ≤ c) (h1 : c ≤ 127) : (r = -1 ∧ ¬ rwL c) ∨ (r = 0 ∧ c = 111) ∨ (r = 1 ∧ c = 100) ∨ (r = 2 ∧ c = 103) ∨ (r = 3 ∧ c = 104) ∨ (r = 4 ∧ c = 117) := by
  have t0 : (txB "odghu" 0).toInt = 111 := by decide +kernel
  have t1 : (txB "odghu" 1).toInt = 100 := by decide +kernel
  have t2 : (txB "odghu" 2).toInt = 103 := by decide +kernel
  have t3 : (txB "odghu" 3).toInt = 104 := by decide +kernel
  have t4 : (txB "odghu" 4).toInt = 117 := by decide +kernel
  rcases h h0 h1 with ⟨q1, q2⟩ | ⟨q1, q2, q3, -⟩
  · refine Or.inl ⟨q1, fun q => ?_⟩
    have a0 := q2 0 (by decide)
    have a1 := q2 1 (by decide)
    have a2 := q2 2 (by decide)
    have a3 := q2 3 (by decide)
    have a4 := q2 4 (by decide)
    unfold rwL at q
    omega
  · rcases (show r = 0 ∨ r = 1 ∨ r = 2 ∨ r = 3 ∨ r = 4 by omega) with rfl | rfl | rfl | rfl | rfl
    · exact Or.inr (Or.inl ⟨rfl, q3.symm.trans t0⟩)
    · exact Or.inr (Or.inr (Or.inl ⟨rfl, q3.symm.trans t1⟩))
    · exact Or.inr (Or.inr (Or.inr (Or.inl ⟨rfl, q3.symm.trans t2⟩)))
    · exact Or.inr (Or.inr (Or.inr (Or.inr (Or.inl ⟨rfl, q3.symm.trans t3⟩))))
    · exact Or.inr (Or.inr (Or.inr (Or.inr (Or.inr ⟨rfl, q3.symm.trans t4⟩))))
/-- the letters ahead of i are a row's -/
def rwA (f : Nat → Int32) (st i : Int) : Prop := ∀ k : Int, st ≤ k → k < i → rwL (f k.toNat).toInt
/-- isRow of the class -/
def irP (f : Nat → Int32) (tok st sp w r : Int) : Prop := ∀ n j, LkC f n j tok st sp → (r = 1 ∧ rwK f n w j) ∨ (r = 0 ∧ ¬ rwK f n w j)
theorem rwA_0 {f : Nat → Int32} {st i : Int} (h : i ≤ st) : rwA f st i := fun k k1 k2 => by omega
theorem rwA_up {f : Nat → Int32} {st sp i' r : Int} {i x y : Int32} (h : rwA f st i.toInt) (hd : wds f st sp) (h1 : st ≤ i.toInt) (h2 : i.toInt < sp) (ex : x = f i.toNatClampNeg) (ey : (x.toUInt32 % 65536).toInt32 = y) (hi : ixP (txB "odghu") 5 y.toInt r) (hr : 0 ≤ r) (e : i' = i.toInt + 1) : rwA f st i' := by
  intro k k1 k2
  by_cases hc : k < i.toInt
  · exact h k k1 hc
  · have hk : k = i.toInt := by omega
    have g := hd.2 i.toInt h1 h2
    have e1 : (f i.toInt.toNat).toInt = x.toInt := by rw [ex]; rfl
    have e2 := ch_c ey (by omega) (by omega)
    have e3 := ix5 hi (by omega) (by omega)
    rw [hk, e1]
    unfold rwL
    rcases e3 with q | q | q | q | q | q
    · omega
    · omega
    · omega
    · omega
    · omega
    · omega
