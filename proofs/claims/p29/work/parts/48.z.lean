section
/-- kept from arithmetic's eyes -/
def Hid (P : Prop) : Prop := P
/-- a fault where c holds, on the reference -/
theorem ck_0 {c : Prop} {k : Int} {σ : Int × Int} (h0 : k ≠ 0) (h : (ck c k σ).1 = 0) : ¬ c ∧ σ.1 = 0 := by
  by_cases hc : c
  · rw [ck_y hc] at h
    by_cases z : σ.1 = 0
    · rw [fl_z z] at h; exact absurd h h0
    · rw [fl_o z] at h; exact absurd h z
  · rw [ck_n hc] at h; exact ⟨hc, h⟩
theorem go_0 {f : Nat → Int32} {n : Int} {σ : Int × Int} (h : (go f n σ).1 = 0) : σ.1 = 0 := Classical.byContradiction (fun z => by rw [go_o z] at h; exact z h)
theorem LkM.cky {f : Nat → Int32} {n : Int} {σ : Int × Int} {s pl sp : Int} {w : Int64} {le nu fa wr k k' fa1 wr1 : Int} {c : Prop} (hk : LkM f n σ s pl sp w le nu fa wr) (hf : fR s pl fa wr k' fa1 wr1) (e : k' = k) (h0 : k ≠ 0) (hC : σ.1 = 0 → c) {s9 pl' sp' : Int} {w' : Int64} {le' nu' : Int} (h9 : s9 = 5) : LkM f n (ck c k σ) s9 pl' sp' w' le' nu' fa1 wr1 := by
  subst e
  have h1 : ck c k' σ = fl k' σ := by
    by_cases z : σ.1 = 0
    · exact ck_y (hC z)
    · rw [ck_o z, fl_o z]
  rw [h1]
  exact hf.fl hk h0 h9
theorem LkM.ckn {f : Nat → Int32} {n : Int} {σ : Int × Int} {s pl sp : Int} {w : Int64} {le nu fa wr k : Int} {c : Prop} (hk : LkM f n σ s pl sp w le nu fa wr) (hC : σ.1 = 0 → ¬ c) : LkM f n (ck c k σ) s pl sp w le nu fa wr := by
  have h1 : ck c k σ = σ := by
    by_cases z : σ.1 = 0
    · exact ck_n (hC z)
    · exact ck_o z
  rw [h1]
  exact hk
theorem LkM.ne {f : Nat → Int32} {n : Int} {σ : Int × Int} {s pl sp : Int} {w : Int64} {le nu fa wr : Int} (hk : LkM f n σ s pl sp w le nu fa wr) (h : s = 5) : σ.1 ≠ 0 := by
  rcases hk with q | q
  · have := kM_ne (tK f n σ.2)
    have := q.2.2.2.1
    omega
  · exact q.1
theorem LkM.eq {f : Nat → Int32} {n : Int} {σ : Int × Int} {s pl sp : Int} {w : Int64} {le nu fa wr : Int} (hk : LkM f n σ s pl sp w le nu fa wr) (h : s ≠ 5) : σ.1 = 0 := by
  rcases hk with q | q
  · exact q.1
  · exact absurd q.2.1 h
theorem LkM.wo {f : Nat → Int32} {n : Int} {σ : Int × Int} {s pl sp : Int} {w : Int64} {le nu fa wr : Int} (hk : LkM f n σ s pl sp w le nu fa wr) (h0 : σ.1 = 0) (h : tK f n σ.2 = 1) : le = tE f n σ.2 - tS f n σ.2 ∧ w.toInt = tC f n σ.2 := by
  rcases hk with q | q
  · exact q.2.2.2.2.2.2.1 h
  · exact absurd h0 q.1
theorem LkM.pl {f : Nat → Int32} {n : Int} {σ : Int × Int} {s pl sp : Int} {w : Int64} {le nu fa wr : Int} (hk : LkM f n σ s pl sp w le nu fa wr) (h0 : σ.1 = 0) : s = kM (tK f n σ.2) ∧ pl = tS f n σ.2 ∧ 0 ≤ σ.2 := by
  rcases hk with q | q
  · exact ⟨q.2.2.2.1, q.2.2.2.2.1, q.2.1⟩
  · exact absurd h0 q.1
theorem wdM.y {s : Int} {w : Int64} {sn : Nat} {sf : Nat → Int32} {r : Int} (h : wdM s w sn sf r) (e : r ≠ 0) (ha : asc sn sf) (h8 : sn ≤ 8) {f : Nat → Int32} {n : Int} {σ : Int × Int} {pl sp le nu fa wr : Int} (hk : LkM f n σ s pl sp w le nu fa wr) : isW f n sn sf σ.2 := by
  rcases h.is ha h8 hk with q | q
  · exact q.2.2
  · exact absurd q.1 e
theorem wdM.n {s : Int} {w : Int64} {sn : Nat} {sf : Nat → Int32} {r : Int} (h : wdM s w sn sf r) (e : r = 0) (ha : asc sn sf) (h8 : sn ≤ 8) {f : Nat → Int32} {n : Int} {σ : Int × Int} {pl sp le nu fa wr : Int} (hk : LkM f n σ s pl sp w le nu fa wr) (h0 : σ.1 = 0) : ¬ isW f n sn sf σ.2 := by
  rcases h.is ha h8 hk with q | q
  · omega
  · exact q.2 h0
theorem wch_ne {P0 P1 P2 P3 : Prop} (h : P0 ∨ P1 ∨ P2 ∨ P3) : wch P0 P1 P2 P3 ≠ -1 := by
  by_cases h0 : P0
  · rw [wch_0 h0]; decide
  · by_cases h1 : P1
    · rw [wch_1 h0 h1]; decide
    · by_cases h2 : P2
      · rw [wch_2 h0 h1 h2]; decide
      · by_cases h3 : P3
        · rw [wch_3 h0 h1 h2 h3]; decide
        · rcases h with q | q | q | q
          · exact absurd q h0
          · exact absurd q h1
          · exact absurd q h2
          · exact absurd q h3
theorem wch_or {P0 P1 P2 P3 : Prop} (h : wch P0 P1 P2 P3 ≠ -1) : P0 ∨ P1 ∨ P2 ∨ P3 := by
  by_cases h0 : P0
  · exact Or.inl h0
  · by_cases h1 : P1
    · exact Or.inr (Or.inl h1)
    · by_cases h2 : P2
      · exact Or.inr (Or.inr (Or.inl h2))
      · by_cases h3 : P3
        · exact Or.inr (Or.inr (Or.inr h3))
        · exact absurd (wch_n h0 h1 h2 h3) h
theorem kd_w {f : Nat → Int32} {n j : Int} (h : ¬ kd f n j = -1) : tK f n j = 1 := by
  rcases wch_or h with q | q | q | q
  · exact q.1
  · exact q.1
  · exact q.1
  · exact q.1
/-- isName of the reference -/
def inM (s : Int) (w : Int64) (r : Int) : Prop := ∀ (f : Nat → Int32) (n : Int) (σ : Int × Int) (pl sp le nu fa wr : Int), LkM f n σ s pl sp w le nu fa wr → σ.1 = 0 → (r = 1 ∧ tK f n σ.2 = 1 ∧ lw f n σ.2 = -1) ∨ (r = 0 ∧ (tK f n σ.2 ≠ 1 ∨ lw f n σ.2 ≠ -1))
theorem inM_s {s : Int} {w : Int64} {r : Int} (hs : s ≠ 2) (hr : r = 0) : inM s w r := by
  intro f n σ pl sp le nu fa wr hk h0
  refine Or.inr ⟨hr, Or.inl (fun q => hs ?_)⟩
  rw [(hk.pl h0).1, q]
  rfl
theorem inM_w {s : Int} {w : Int64} {r r9 : Int} {sn : Nat} {sf : Nat → Int32} (h : wdM s w sn sf r9) (e : r9 ≠ 0) (ha : asc sn sf) (h8 : sn ≤ 8) (hl : ∀ (f : Nat → Int32) (n j : Int), isW f n sn sf j → lw f n j ≠ -1) (hr : r = 0) : inM s w r := by
  intro f n σ pl sp le nu fa wr hk h0
  exact Or.inr ⟨hr, Or.inr (hl _ _ _ (h.y e ha h8 hk))⟩
theorem inM_y {s : Int} {w : Int64} {r r0 r1 r2 r3 : Int} (hs : s = 2) (h0 : wdM s w 4 (txB "park") r0) (e0 : r0 = 0) (h1 : wdM s w 3 (txB "row") r1) (e1 : r1 = 0) (h2 : wdM s w 6 (txB "walker") r2) (e2 : r2 = 0) (h3 : wdM s w 4 (txB "walk") r3) (e3 : r3 = 0) (hr : r = 1) : inM s w r := by
  intro f n σ pl sp le nu fa wr hk hz
  refine Or.inl ⟨hr, kM_2 ((hk.pl hz).1.symm.trans hs), ?_⟩
  exact wch_n (h0.n e0 asc_park (by decide) hk hz) (h1.n e1 asc_row (by decide) hk hz) (h2.n e2 asc_walker (by decide) hk hz) (h3.n e3 asc_walk (by decide) hk hz)
theorem lw_i0 (f : Nat → Int32) (n j : Int) (h : isW f n 4 (txB "park") j) : lw f n j ≠ -1 := wch_ne (Or.inl h)
theorem lw_i1 (f : Nat → Int32) (n j : Int) (h : isW f n 3 (txB "row") j) : lw f n j ≠ -1 := wch_ne (Or.inr (Or.inl h))
theorem lw_i2 (f : Nat → Int32) (n j : Int) (h : isW f n 6 (txB "walker") j) : lw f n j ≠ -1 := wch_ne (Or.inr (Or.inr (Or.inl h)))
theorem lw_i3 (f : Nat → Int32) (n j : Int) (h : isW f n 4 (txB "walk") j) : lw f n j ≠ -1 := wch_ne (Or.inr (Or.inr (Or.inr h)))
theorem kd_i0 {f : Nat → Int32} {n j : Int} (h : isW f n 5 (txB "guest") j) : ¬ kd f n j = -1 := wch_ne (Or.inl h)
theorem kd_i1 {f : Nat → Int32} {n j : Int} (h : isW f n 5 (txB "child") j) : ¬ kd f n j = -1 := wch_ne (Or.inr (Or.inl h))
theorem kd_i2 {f : Nat → Int32} {n j : Int} (h : isW f n 7 (txB "colonel") j) : ¬ kd f n j = -1 := wch_ne (Or.inr (Or.inr (Or.inl h)))
theorem kd_i3 {f : Nat → Int32} {n j : Int} (h : isW f n 6 (txB "keeper") j) : ¬ kd f n j = -1 := wch_ne (Or.inr (Or.inr (Or.inr h)))
theorem inM.no {s : Int} {w : Int64} {r : Int} (h : inM s w r) (e : r = 0) {f : Nat → Int32} {n : Int} {σ : Int × Int} {pl sp le nu fa wr : Int} (hk : LkM f n σ s pl sp w le nu fa wr) (h0 : σ.1 = 0) : tK f n σ.2 ≠ 1 ∨ lw f n σ.2 ≠ -1 := by
  rcases h _ _ _ _ _ _ _ _ _ hk h0 with q | q
  · omega
  · exact q.2
theorem inM.ye {s : Int} {w : Int64} {r : Int} (h : inM s w r) (e : r ≠ 0) {f : Nat → Int32} {n : Int} {σ : Int × Int} {pl sp le nu fa wr : Int} (hk : LkM f n σ s pl sp w le nu fa wr) (h0 : σ.1 = 0) : ¬ (tK f n σ.2 ≠ 1 ∨ lw f n σ.2 ≠ -1) := by
  rcases h _ _ _ _ _ _ _ _ _ hk h0 with q | q
  · exact fun h1 => h1.elim (fun h2 => h2 q.2.1) (fun h2 => h2 q.2.2)
  · exact absurd q.1 e
theorem hnP.y {g : Nat → Int64} {many : Int} {c : Int64} {r x : Int} (h : hnP g many c r) (e : r ≠ 0) (hc : c.toInt = x) : tol g many x := by
  rcases h with q | q
  · rw [← hc]; exact q.2
  · exact absurd q.1 e
theorem hnP.n {g : Nat → Int64} {many : Int} {c : Int64} {r x : Int} (h : hnP g many c r) (e : r = 0) (hc : c.toInt = x) : ¬ tol g many x := by
  rcases h with q | q
  · omega
  · rw [← hc]; exact q.2
/-- the name's number -/
theorem nm_c {f : Nat → Int32} {n : Int} {σ : Int × Int} {s pl sp : Int} {w : Int64} {le nu fa wr : Int} (hk : LkM f n (ck (tK f n σ.2 ≠ 1 ∨ lw f n σ.2 ≠ -1) 1 σ) s pl sp w le nu fa wr) (h0 : (ck (tK f n σ.2 ≠ 1 ∨ lw f n σ.2 ≠ -1) 1 σ).1 = 0) : w.toInt = tC f n σ.2 := by
  obtain ⟨h1, h2⟩ := ck_0 (by decide) h0
  rw [ck_n h1] at hk
  exact (hk.wo h2 (Classical.byContradiction (fun q => h1 (Or.inl q)))).2
theorem nmS_z {f : Nat → Int32} {n : Int} {g : Nat → Int64} {many : Int} {σ : Int × Int} (h : (nmS f n g many σ).1 = 0) : nmS f n g many σ = σ ∧ σ.1 = 0 ∧ tK f n σ.2 = 1 := by
  obtain ⟨h1, h2⟩ := ck_0 (by decide) (show (ck (tol g many (tC f n σ.2)) 3 (ck (tK f n σ.2 ≠ 1 ∨ lw f n σ.2 ≠ -1) 1 σ)).1 = 0 from h)
  obtain ⟨h3, h4⟩ := ck_0 (by decide) h2
  refine ⟨?_, h4, Classical.byContradiction (fun q => h3 (Or.inl q))⟩
  unfold nmS
  rw [ck_n h3, ck_n h1]
theorem nd_0 {f : Nat → Int32} {n : Int} {sn : Nat} {sf : Nat → Int32} {σ : Int × Int} (h : (nd f n sn sf σ).1 = 0) : σ.1 = 0 := Classical.byContradiction (fun z => by rw [nd_o z] at h; exact z h)
theorem rPl_0 {f : Nat → Int32} {n w d : Int} {s : Nat → Int32} {z : Int} {σ : Int × Int} (h : (rPl f n w d s z σ).1 = 0) : σ.1 = 0 := Classical.byContradiction (fun q => by rw [rPl_o q] at h; exact q h)
theorem kdS_0 {f : Nat → Int32} {n : Int} {σ : Int × Int} (h : (kdS f n σ).1 = 0) : σ.1 = 0 := Classical.byContradiction (fun q => by rw [kdS_o q] at h; exact q h)
theorem lbS_0 {f : Nat → Int32} {n w d rows many most : Int} {σ : Int × Int} (h : (lbS f n w d rows many most σ).1 = 0) : σ.1 = 0 ∧ lbS f n w d rows many most σ = go f n σ := by
  have h1 := go_0 (show (go f n (ck (w ≤ 0 ∨ rows < d) 6 (ck (many = most) 5 σ))).1 = 0 from h)
  obtain ⟨h2, h3⟩ := ck_0 (by decide) h1
  obtain ⟨h4, h5⟩ := ck_0 (by decide) h3
  refine ⟨h5, ?_⟩
  unfold lbS
  rw [ck_n h4, ck_n h2]
/-- a line of walkers told: the name stood behind the word -/
theorem fWk_n {f : Nat → Int32} {n w d rows many : Int} {s : Nat → Int32} {g : Nat → Int64} {σ : Int × Int} (h : (fWk f n w d rows many s g σ).1 = 0) : (nmS f n g many (lbS f n w d rows many 4 σ)).1 = 0 ∧ nmS f n g many (lbS f n w d rows many 4 σ) = go f n σ ∧ tK f n (go f n σ).2 = 1 := by
  have h1 := go_0 (kdS_0 (nd_0 (rPl_0 (nd_0 (rPl_0 (show (rPl f n w d s 0 (nd f n 2 (txB "to") (rPl f n w d s 0 (nd f n 2 (txB "at") (kdS f n (go f n (nmS f n g many (lbS f n w d rows many 4 σ)))))))).1 = 0 from h))))))
  obtain ⟨e, h2, h3⟩ := nmS_z h1
  have e2 := (lbS_0 h2).2
  rw [e2] at e h3
  exact ⟨h1, by rw [e2]; exact e, h3⟩
theorem hg_ck {g : Nat → Int32} {z c : Int} {σ : Int × Int} : hg g z c σ = ck (z = 0 ∧ (g c.toNat).toInt = 3) 7 σ := by
  unfold hg
  by_cases h : z = 0 ∧ (g c.toNat).toInt = 3
  · rw [if_pos h, ck_y h]
  · rw [if_neg h, ck_n h]
theorem rPl_ck {f : Nat → Int32} {n w d : Int} {g : Nat → Int32} {z : Int} {σ : Int × Int} : rPl f n w d g z σ = go f n (ck (z = 0 ∧ (g (sC f n w σ).toNat).toInt = 3) 7 (wa f n 0 (d - 1) (rW f n 0 (w - 1) σ))) := by
  unfold rPl
  rw [hg_ck]
/-- the place that was read -/
theorem sC_eq {f : Nat → Int32} {n w d : Int} {σ : Int × Int} {c r x p : Int} (h : (wa f n 0 (d - 1) (rW f n 0 (w - 1) σ)).1 = 0) (v1 : (rW f n 0 (w - 1) σ).1 = 0 → c = tN f n σ.2) (v2 : (wa f n 0 (d - 1) (rW f n 0 (w - 1) σ)).1 = 0 → r = tN f n (rW f n 0 (w - 1) σ).2) (ep : p = w * r) (ex : x = p + c) : sC f n w σ = x := by
  have h1 := v1 (wa_0 h).1
  have h2 := v2 h
  unfold sC
  rw [← h1, ← h2, ex, ep]
theorem hd_y {g : Nat → Int32} {x v : Int32} {c : Int} (hc : c = x.toInt) (ev : v = g x.toNatClampNeg) (h3 : v.toInt = 3) : (0 : Int) = 0 ∧ (g c.toNat).toInt = 3 := by
  refine ⟨rfl, ?_⟩
  rw [hc, show x.toInt.toNat = x.toNatClampNeg from rfl, ← ev]
  exact h3
theorem hd_n {g : Nat → Int32} {x v : Int32} {c : Int} (hc : c = x.toInt) (ev : v = g x.toNatClampNeg) (h3 : ¬ v.toInt = 3) : ¬ ((0 : Int) = 0 ∧ (g c.toNat).toInt = 3) := by
  intro h
  apply h3
  rw [ev, show x.toNatClampNeg = x.toInt.toNat from rfl, ← hc]
  exact h.2
/-- the walks' bound -/
theorem stpS_e {f : Nat → Int32} {n w d m lo : Int} {σ : Int × Int} (hm : (rW f n 0 (d - 1) (rW f n 0 (w - 1) σ)).1 = 0 → m = min 3 (d - 1 - tN f n (rW f n 0 (w - 1) σ).2)) (hl : lo = 1) : rP f n 5 (txB "steps") lo m (rW f n 0 (d - 1) (rW f n 0 (w - 1) σ)) = stpS f n w d σ := by
  subst hl
  unfold stpS
  by_cases z : (rW f n 0 (d - 1) (rW f n 0 (w - 1) σ)).1 = 0
  · rw [hm z]
  · rw [rP_o z, rP_o z]
theorem fe_w {f : Nat → Int32} {n j : Int} (h : ¬ (¬ isW f n 4 (txB "fell") j ∧ ¬ isW f n 3 (txB "dry") j)) : tK f n j = 1 := by
  by_cases h1 : isW f n 4 (txB "fell") j
  · exact h1.1
  · by_cases h2 : isW f n 3 (txB "dry") j
    · exact h2.1
    · exact absurd ⟨h1, h2⟩ h
/-- the reference's lines -/
def lbM (f : Nat → Int32) (n w d rows many most s pl sp : Int) (wo : Int64) (le nu fa wr s1 pl1 sp1 : Int) (wo1 : Int64) (le1 nu1 fa1 wr1 : Int) : Prop := bys f → ∀ σ : Int × Int, (σ.1 = 0 → tK f n σ.2 = 1) → LkM f n σ s pl sp wo le nu fa wr → LkM f n (lbS f n w d rows many most σ) s1 pl1 sp1 wo1 le1 nu1 fa1 wr1
def spM (f : Nat → Int32) (n w d : Int) (g : Nat → Int32) (s pl sp : Int) (wo : Int64) (le nu fa wr s1 pl1 sp1 : Int) (wo1 : Int64) (le1 nu1 fa1 wr1 r : Int) : Prop := bys f → ∀ σ : Int × Int, LkM f n σ s pl sp wo le nu fa wr → LkM f n (rPl f n w d g 0 σ) s1 pl1 sp1 wo1 le1 nu1 fa1 wr1 ∧ ((rPl f n w d g 0 σ).1 = 0 → r = sC f n w σ)
def pkM (f : Nat → Int32) (n w s pl sp : Int) (wo : Int64) (le nu fa wr s1 pl1 sp1 : Int) (wo1 : Int64) (le1 nu1 fa1 wr1 w1 d1 e1 l1 : Int) : Prop := bys f → ∀ σ : Int × Int, (σ.1 = 0 → tK f n σ.2 = 1) → LkM f n σ s pl sp wo le nu fa wr → LkM f n (fPk f n w σ) s1 pl1 sp1 wo1 le1 nu1 fa1 wr1 ∧ ((fPk f n w σ).1 = 0 → w1 = vWi f n w σ ∧ d1 = vDe f n w σ ∧ e1 = vEr f n w σ ∧ l1 = vSl f n w σ)
def wkM (f : Nat → Int32) (n w d rows many : Int) (g : Nat → Int32) (na : GT) (s pl sp : Int) (wo : Int64) (le nu fa wr s1 pl1 sp1 : Int) (wo1 : Int64) (le1 nu1 fa1 wr1 many1 : Int) (na1 : GT) : Prop := bys f → ∀ σ : Int × Int, (σ.1 = 0 → tK f n σ.2 = 1) → LkM f n σ s pl sp wo le nu fa wr → LkM f n (fWk f n w d rows many g na.1 σ) s1 pl1 sp1 wo1 le1 nu1 fa1 wr1 ∧ ((fWk f n w d rows many g na.1 σ).1 = 0 → many1 = many + 1 ∧ apX f n w d na na1 many σ)
def wlM (f : Nat → Int32) (n w d rows many s pl sp : Int) (wo : Int64) (le nu fa wr s1 pl1 sp1 : Int) (wo1 : Int64) (le1 nu1 fa1 wr1 many1 : Int) (W W1 : WT3) : Prop := bys f → ∀ σ : Int × Int, (σ.1 = 0 → tK f n σ.2 = 1) → LkM f n σ s pl sp wo le nu fa wr → LkM f n (fWl f n w d rows many σ) s1 pl1 sp1 wo1 le1 nu1 fa1 wr1 ∧ ((fWl f n w d rows many σ).1 = 0 → many1 = many + 1 ∧ apW f n w d W W1 many σ)
def rwX (f : Nat → Int32) (a b i : Int) (s s1 u u1 : Nat → Int32) (n : Int) : Prop := rwN f a b i s s1 ∧ u1 = uU f a b u n i.toNat
theorem rwX_0 {f : Nat → Int32} {a b i : Int} {s u : Nat → Int32} {n : Int} (h : i ≤ 0) : rwX f a b i s s u u n := ⟨rwN_0 h, by rw [show i.toNat = 0 by omega]; rfl⟩
theorem rwX_n {f : Nat → Int32} {a b i i' c : Int} {s s1 s2 u u1 : Nat → Int32} {n : Int} {v : Int32} (h : rwX f a b i s s1 u u1 n) (hb : 0 ≤ b) (h0 : 0 ≤ i) (hc : c = b + i) (e : s2 = upd s1 c.toNat v) (hv : v.toInt = sL (f (a.toNat + i.toNat)).toInt) (hi : i' = i + 1) (hl : (f (a.toNat + i.toNat)).toInt ≠ 117) : rwX f a b i' s s2 u u1 n := ⟨rwN_up h.1 hb h0 hc e hv hi, uU_wn h.2 h0 hl hi⟩
theorem rwX_y {f : Nat → Int32} {a b i i' c m : Int} {s s1 s2 u u1 u2 : Nat → Int32} {n : Int} {v I x : Int32} (h : rwX f a b i s s1 u u1 n) (hb : 0 ≤ b) (h0 : 0 ≤ i) (hc : c = b + i) (e : s2 = upd s1 c.toNat v) (hv : v.toInt = sL (f (a.toNat + i.toNat)).toInt) (hi : i' = i + 1) (hl : (f (a.toNat + i.toNat)).toInt = 117) (hm : m = n + cu f a.toNat i.toNat) (hI : I.toInt = m) (hx : x.toInt = b + i) (eu : upd u1 (Int32.toNatClampNeg I) x = u2) : rwX f a b i' s s2 u u2 n := ⟨rwN_up h.1 hb h0 hc e hv hi, uU_wy h.2 h0 hl hm hI hx eu hi⟩
def roM (f : Nat → Int32) (n w d rows uns : Int) (g : Nat → Int32) (s pl sp : Int) (wo : Int64) (le nu fa wr s1 pl1 sp1 : Int) (wo1 : Int64) (le1 nu1 fa1 wr1 rows1 uns1 : Int) (g1 u u1 : Nat → Int32) : Prop := bys f → ∀ σ : Int × Int, (σ.1 = 0 → tK f n σ.2 = 1) → LkM f n σ s pl sp wo le nu fa wr → LkM f n (fRw f n w d rows uns σ) s1 pl1 sp1 wo1 le1 nu1 fa1 wr1 ∧ ((fRw f n w d rows uns σ).1 = 0 → rows1 = rows + 1 ∧ uns1 = uns + cu f (tS f n (go f n σ).2).toNat w.toNat ∧ rwX f (tS f n (go f n σ).2) (w * rows) w g g1 u u1 uns)
/-- a name put behind the others -/
theorem apL_of {g g1 : Nat → Int64} {k : Int32} {c : Int64} {x : Int} (eg : vp_updL g (Int32.toNatClampNeg k) c = g1) (h0 : 0 ≤ k.toInt) (hc : c.toInt = x) : apL g g1 k.toInt x := by
  have e1 : k.toNatClampNeg = k.toInt.toNat := rfl
  rw [← eg, e1]
  refine ⟨?_, fun j hj => ?_⟩
  · show ((if k.toInt.toNat = k.toInt.toNat then c else g k.toInt.toNat) : Int64).toInt = _
    rw [if_pos rfl]
    exact hc
  · show (if j = k.toInt.toNat then c else g j) = g j
    rw [if_neg (by omega)]
theorem min3 {hi d r x : Int} (h : hi ≤ 3 ∧ hi ≤ d - 1 - r ∧ (hi = 3 ∨ hi = d - 1 - r)) (e : r = x) : hi = min 3 (d - 1 - x) := by
  rw [← e, Int.min_def]
  split <;> omega
/-- a walker's line told: his kind, where he is, where he goes -/
theorem wk_v {f : Nat → Int32} {n w d rows many kk a t : Int} {s : Nat → Int32} {g : Nat → Int64} {σ : Int × Int} (h : (fWk f n w d rows many s g σ).1 = 0) (hk : (go f n (nmS f n g many (lbS f n w d rows many 4 σ))).1 = 0 → kk = kd f n (go f n (nmS f n g many (lbS f n w d rows many 4 σ))).2) (ha : (rPl f n w d s 0 (nd f n 2 (txB "at") (kdS f n (go f n (nmS f n g many (lbS f n w d rows many 4 σ)))))).1 = 0 → a = sC f n w (nd f n 2 (txB "at") (kdS f n (go f n (nmS f n g many (lbS f n w d rows many 4 σ)))))) (ht : (rPl f n w d s 0 (nd f n 2 (txB "to") (rPl f n w d s 0 (nd f n 2 (txB "at") (kdS f n (go f n (nmS f n g many (lbS f n w d rows many 4 σ)))))))).1 = 0 → t = sC f n w (nd f n 2 (txB "to") (rPl f n w d s 0 (nd f n 2 (txB "at") (kdS f n (go f n (nmS f n g many (lbS f n w d rows many 4 σ)))))))) : kk = kd f n (go f n (go f n σ)).2 ∧ a = kA f n w σ ∧ t = kT f n w d σ := by
  have h5 : (rPl f n w d s 0 (nd f n 2 (txB "to") (rPl f n w d s 0 (nd f n 2 (txB "at") (kdS f n (go f n (nmS f n g many (lbS f n w d rows many 4 σ)))))))).1 = 0 := h
  have h4 := nd_0 (rPl_0 h5)
  have h3 := nd_0 (rPl_0 h4)
  have h2 := kdS_0 h3
  have v1 := hk h2
  have v2 := ha h4
  have v3 := ht h5
  have e1 := (fWk_n h).2.1
  have e2 : kdS f n (go f n (nmS f n g many (lbS f n w d rows many 4 σ))) = go f n (go f n (nmS f n g many (lbS f n w d rows many 4 σ))) := by
    have h6 := go_0 (show (go f n (ck (kd f n (go f n (nmS f n g many (lbS f n w d rows many 4 σ))).2 = -1) 1 (go f n (nmS f n g many (lbS f n w d rows many 4 σ))))).1 = 0 from h3)
    exact kdS_ok (ck_0 (by decide) h6).1
  rw [rPl_z h4] at v3
  rw [e2, e1] at v2 v3
  rw [e1] at v1
  exact ⟨v1, v2, v3⟩
/-- the kind that was read -/
theorem kd_v {f : Nat → Int32} {n j k v : Int} (h : kd f n j = k) (e : v = k) : v = kd f n j := e.trans h.symm
theorem fl_y {c : Prop} {v : Int} (h : c) (e : v = 1) : v = @ite _ c (Classical.propDecidable _) 1 0 := by rw [if_pos h, e]
theorem fl_n {c : Prop} {v : Int} (h : ¬ c) (e : v = 0) : v = @ite _ c (Classical.propDecidable _) 1 0 := by rw [if_neg h, e]
/-- a walk's line told: where it begins, how many STEPS, whether it fell -/
theorem wl_v {f : Nat → Int32} {n w d rows many c r s v p : Int} {σ : Int × Int} (h0 : (fWl f n w d rows many σ).1 = 0) (hc : (rW f n 0 (w - 1) (lbS f n w d rows many 6 σ)).1 = 0 → c = tN f n (lbS f n w d rows many 6 σ).2) (hr : (rW f n 0 (d - 1) (rW f n 0 (w - 1) (lbS f n w d rows many 6 σ))).1 = 0 → r = tN f n (rW f n 0 (w - 1) (lbS f n w d rows many 6 σ)).2) (hs : (stpS f n w d (lbS f n w d rows many 6 σ)).1 = 0 → s = tN f n (nd f n 5 (txB "steps") (rW f n 0 (d - 1) (rW f n 0 (w - 1) (lbS f n w d rows many 6 σ)))).2) (hv : (stpS f n w d (lbS f n w d rows many 6 σ)).1 = 0 → v = @ite _ (isW f n 4 (txB "fell") (stpS f n w d (lbS f n w d rows many 6 σ)).2) (Classical.propDecidable _) 1 0) (hp : p = w * r + c) : p = kF f n w σ ∧ s = kS f n w d σ ∧ v = kL f n w d σ := by
  have h1 : (stpS f n w d (lbS f n w d rows many 6 σ)).1 = 0 := feS_0 h0
  have h2 := h1
  unfold stpS rP at h2
  obtain ⟨h3, -, -, -, -⟩ := rW_0 h2
  have h4 : (rW f n 0 (d - 1) (rW f n 0 (w - 1) (lbS f n w d rows many 6 σ))).1 = 0 := nd_9 h3
  obtain ⟨h5, -, -, -, -⟩ := rW_0 h4
  obtain ⟨h6, -, -, -, -⟩ := rW_0 h5
  have e := (lbS_0 h6).2
  have vc := hc h5
  have vr := hr h4
  have vs := hs h1
  have vv := hv h1
  rw [e] at vc vr vs vv
  exact ⟨by rw [hp, vc, vr]; rfl, vs, vv⟩
end
section
set_option maxHeartbeats 4000000 in
set_option maxRecDepth 100000 in
theorem gX13_isName (l : Launch) (dC : Nat → ClassId) (dI : Nat → Nat → Nat) (cy : Nat → ClassId) (h0 : Nat) (m_thrown : Int32) (m_trouble : Int32) (m_where : Int32) (m_park : Value) (m_read : Value) (m_tape : Nat) (m_taped : Int32) (m_size : Int32) (m_spot : Int32) (m_sort : Int32) (m_place : Int32) (m_letters : Int32) (m_number : Int32) (m_fault : Int32) (m_wrongAt : Int32) (m_word : Int64) (m_v : Nat) (m_x : Nat) (m_past : Nat) (m_kept : Nat) (m_acts : Int32) (m_images : Int32) (m_left : Nat) (m_far : Nat) (m_line : Nat) (m_fitsNow : Int32) (m_ditchIn : Nat) (m_treadLeft : Int32) (m_rambledTo : Int32) (m_rambledFalls : Int32) (m_rambledIn : Int32) (hm_taped : 0 ≤ m_taped.toInt ∧ m_taped.toInt ≤ 800) (hm_size : 0 ≤ m_size.toInt ∧ m_size.toInt ≤ 800) (hm_spot : 0 ≤ m_spot.toInt ∧ m_spot.toInt ≤ 800) (hm_place : 0 ≤ m_place.toInt ∧ m_place.toInt ≤ 800) (hm_acts : 0 ≤ m_acts.toInt ∧ m_acts.toInt ≤ 16) (hm_images : 0 ≤ m_images.toInt ∧ m_images.toInt ≤ 3) : ctI l dC dI cy hp yX13_isName cX13_isName 1 .boolean ({ frames := 6, cells := 0, slots := 0, locals := 129 } : Room) [.ref h0] [(h0, .inr (12, [.int m_thrown, .int m_trouble, .int m_where, m_park, m_read, .ref m_tape, .int m_taped, .int m_size, .int m_spot, .int m_sort, .int m_place, .int m_letters, .int m_number, .int m_fault, .int m_wrongAt, .long m_word, .ref m_v, .ref m_x, .ref m_past, .ref m_kept, .int m_acts, .int m_images, .ref m_left, .ref m_far, .ref m_line, .int m_fitsNow, .ref m_ditchIn, .int m_treadLeft, .int m_rambledTo, .int m_rambledFalls, .int m_rambledIn]))] (S := Unit) (fun r _ => (0 ≤ r.toInt ∧ r.toInt ≤ 1) ∧ (inM m_sort.toInt m_word r.toInt)) (fun _ => [(h0, .inr (12, [.int m_thrown, .int m_trouble, .int m_where, m_park, m_read, .ref m_tape, .int m_taped, .int m_size, .int m_spot, .int m_sort, .int m_place, .int m_letters, .int m_number, .int m_fault, .int m_wrongAt, .long m_word, .ref m_v, .ref m_x, .ref m_past, .ref m_kept, .int m_acts, .int m_images, .ref m_left, .ref m_far, .ref m_line, .int m_fitsNow, .ref m_ditchIn, .int m_treadLeft, .int m_rambledTo, .int m_rambledFalls, .int m_rambledIn]))]) := by
  refine ctI.of (by decide +kernel) (Nat.le_of_ble_eq_true rfl) ?_
  intro p e s m args below meth c A ls Q hQ X hr hlocks hin hA hP hD hS hl
  have hx := X.1
  have hb := X.2.1
  have hK := X.2.2.2.2.2.1
  have hl : lv_has ls 1 [(0, .ref h0)] := hl
  refine lv_aload_n hx hb dX13_isName_0 rfl (lv_at hl 0 rfl) ?_
  refine r_get X kcX13 (ci := 12) rfl hP 0 rfl 9 (by decide) fX13_74 rfl dX13_isName_1 ?_
  refine lv_iconst (v := 2) hx hb dX13_isName_4 (by decide) ?_
  refine lv_icmp_ne (tgt := 48) hx hb dX13_isName_5 (by decide) (fun h_1 => ?_) (fun h_1 => ?_)
  · have h_1 : m_sort.toInt ≠ 2 := c_ne h_1
    refine lv_iconst (v := 0) hx hb dX13_isName_48 (by decide) ?_
    exact eI hQ X hr hlocks hP hD hS () [0] (by decide) rfl rfl (show (0 ≤ (0 : Int32).toInt ∧ (0 : Int32).toInt ≤ 1) ∧ (inM m_sort.toInt m_word (0 : Int32).toInt) from ⟨(by first | decide | (have h9_0 : (0 : Int32).toInt = 0 := (by decide); omega) | (refine ⟨by decide, ?_⟩; omega) | omega), (inM_s (by omega) (by decide))⟩) (Nat.le_of_ble_eq_true rfl) (Nat.le_of_ble_eq_true rfl) dX13_isName_49
  · have h_1 : m_sort.toInt = 2 := c_eq h_1
    refine lv_aload_n hx hb dX13_isName_8 rfl (lv_at hl 0 rfl) ?_
    obtain ⟨q_2, v_3, hq_2, hv_3⟩ := X.2.2.2.2.2.2.2.2.2.2 ("HahaLawnModel", 139, "park") (List.mem_of_getElem? (i := 18) rfl)
    refine va_ldcS hx hb X.2.2.2.1 hq_2 dX13_isName_9 ?_
    refine sl_Ic (rVe_I (wc := [(h0, .inr (12, [.int m_thrown, .int m_trouble, .int m_where, m_park, m_read, .ref m_tape, .int m_taped, .int m_size, .int m_spot, .int m_sort, .int m_place, .int m_letters, .int m_number, .int m_fault, .int m_wrongAt, .long m_word, .ref m_v, .ref m_x, .ref m_past, .ref m_kept, .int m_acts, .int m_images, .ref m_left, .ref m_far, .ref m_line, .int m_fitsNow, .ref m_ditchIn, .int m_treadLeft, .int m_rambledTo, .int m_rambledFalls, .int m_rambledIn]))]) (As := [.ref q_2]) (rest := []) X (andX_st hp_st (sO_st q_2 v_3 4 (txB "park"))) ⟨X.2.2.2.2.2.2.2, hv_3⟩ (gX13_isWord l dC dI cy h0 m_thrown m_trouble m_where m_park m_read m_tape m_taped m_size m_spot m_sort m_place m_letters m_number m_fault m_wrongAt m_word m_v m_x m_past m_kept m_acts m_images m_left m_far m_line m_fitsNow m_ditchIn m_treadLeft m_rambledTo m_rambledFalls m_rambledIn q_2 v_3 4 (txB "park") hm_taped hm_size hm_spot hm_place hm_acts hm_images (by first | decide | omega)) kX13_isWord vX13_isWord mX13_116 hP hD hS hA [0] (by decide) rfl 0 (ci := 12) rfl rfl rfl hl rfl rfl (Nat.le_of_ble_eq_true rfl) dX13_isName_11 ⟨(Nat.le_of_ble_eq_true rfl), (Nat.le_of_ble_eq_true rfl)⟩ ⟨(Nat.le_of_ble_eq_true rfl), (Nat.le_of_ble_eq_true rfl)⟩) hP hD hS hA [0] [false] rfl rfl rfl (fun r_4 u_6 H locs k_5 hP hD hS => ?_)
    have k_5 : (0 ≤ r_4.toInt ∧ r_4.toInt ≤ 1) ∧ (wdM m_sort.toInt m_word 4 (txB "park") r_4.toInt) := k_5
    obtain ⟨k_5_0, k_5_1⟩ := k_5
    have hPD := vPD (ws' := [(h0, .inr (12, [.int m_thrown, .int m_trouble, .int m_where, m_park, m_read, .ref m_tape, .int m_taped, .int m_size, .int m_spot, .int m_sort, .int m_place, .int m_letters, .int m_number, .int m_fault, .int m_wrongAt, .long m_word, .ref m_v, .ref m_x, .ref m_past, .ref m_kept, .int m_acts, .int m_images, .ref m_left, .ref m_far, .ref m_line, .int m_fitsNow, .ref m_ditchIn, .int m_treadLeft, .int m_rambledTo, .int m_rambledFalls, .int m_rambledIn]))]) hP hD rfl
    have hP := hPD.1
    have hD := hPD.2
    refine lv_if_ne (tgt := 48) hx hb dX13_isName_14 (by decide) (fun h_7 => ?_) (fun h_7 => ?_)
    · have h_7 : r_4.toInt ≠ 0 := c_ne h_7
      refine lv_iconst (v := 0) hx hb dX13_isName_48 (by decide) ?_
      exact eI hQ X hr hlocks hP hD hS () [0] (by decide) rfl rfl (show (0 ≤ (0 : Int32).toInt ∧ (0 : Int32).toInt ≤ 1) ∧ (inM m_sort.toInt m_word (0 : Int32).toInt) from ⟨(by first | decide | (have h9_0 : (0 : Int32).toInt = 0 := (by decide); omega) | (refine ⟨by decide, ?_⟩; omega) | omega), (inM_w k_5_1 (by omega) asc_park (by decide) lw_i0 (by decide))⟩) (Nat.le_of_ble_eq_true rfl) (Nat.le_of_ble_eq_true rfl) dX13_isName_49
    · have h_7 : r_4.toInt = 0 := c_eq h_7
      refine lv_aload_n hx hb dX13_isName_17 rfl (lv_at hl 0 rfl) ?_
      obtain ⟨q_8, v_9, hq_8, hv_9⟩ := X.2.2.2.2.2.2.2.2.2.2 ("HahaLawnModel", 141, "row") (List.mem_of_getElem? (i := 23) rfl)
      refine va_ldcS hx hb X.2.2.2.1 hq_8 dX13_isName_18 ?_
      refine sl_Ic (rVe_I (wc := [(h0, .inr (12, [.int m_thrown, .int m_trouble, .int m_where, m_park, m_read, .ref m_tape, .int m_taped, .int m_size, .int m_spot, .int m_sort, .int m_place, .int m_letters, .int m_number, .int m_fault, .int m_wrongAt, .long m_word, .ref m_v, .ref m_x, .ref m_past, .ref m_kept, .int m_acts, .int m_images, .ref m_left, .ref m_far, .ref m_line, .int m_fitsNow, .ref m_ditchIn, .int m_treadLeft, .int m_rambledTo, .int m_rambledFalls, .int m_rambledIn]))]) (As := [.ref q_8]) (rest := []) X (andX_st hp_st (sO_st q_8 v_9 3 (txB "row"))) ⟨X.2.2.2.2.2.2.2, hv_9⟩ (gX13_isWord l dC dI cy h0 m_thrown m_trouble m_where m_park m_read m_tape m_taped m_size m_spot m_sort m_place m_letters m_number m_fault m_wrongAt m_word m_v m_x m_past m_kept m_acts m_images m_left m_far m_line m_fitsNow m_ditchIn m_treadLeft m_rambledTo m_rambledFalls m_rambledIn q_8 v_9 3 (txB "row") hm_taped hm_size hm_spot hm_place hm_acts hm_images (by first | decide | omega)) kX13_isWord vX13_isWord mX13_116 hP hD hS hA [0] (by decide) rfl 0 (ci := 12) rfl rfl rfl hl rfl rfl (Nat.le_of_ble_eq_true rfl) dX13_isName_20 ⟨(Nat.le_of_ble_eq_true rfl), (Nat.le_of_ble_eq_true rfl)⟩ ⟨(Nat.le_of_ble_eq_true rfl), (Nat.le_of_ble_eq_true rfl)⟩) hP hD hS hA [0] [false] rfl rfl rfl (fun r_10 u_12 H locs k_11 hP hD hS => ?_)
      have k_11 : (0 ≤ r_10.toInt ∧ r_10.toInt ≤ 1) ∧ (wdM m_sort.toInt m_word 3 (txB "row") r_10.toInt) := k_11
      obtain ⟨k_11_0, k_11_1⟩ := k_11
      have hPD := vPD (ws' := [(h0, .inr (12, [.int m_thrown, .int m_trouble, .int m_where, m_park, m_read, .ref m_tape, .int m_taped, .int m_size, .int m_spot, .int m_sort, .int m_place, .int m_letters, .int m_number, .int m_fault, .int m_wrongAt, .long m_word, .ref m_v, .ref m_x, .ref m_past, .ref m_kept, .int m_acts, .int m_images, .ref m_left, .ref m_far, .ref m_line, .int m_fitsNow, .ref m_ditchIn, .int m_treadLeft, .int m_rambledTo, .int m_rambledFalls, .int m_rambledIn]))]) hP hD rfl
      have hP := hPD.1
      have hD := hPD.2
      refine lv_if_ne (tgt := 48) hx hb dX13_isName_23 (by decide) (fun h_13 => ?_) (fun h_13 => ?_)
      · have h_13 : r_10.toInt ≠ 0 := c_ne h_13
        refine lv_iconst (v := 0) hx hb dX13_isName_48 (by decide) ?_
        exact eI hQ X hr hlocks hP hD hS () [0] (by decide) rfl rfl (show (0 ≤ (0 : Int32).toInt ∧ (0 : Int32).toInt ≤ 1) ∧ (inM m_sort.toInt m_word (0 : Int32).toInt) from ⟨(by first | decide | (have h9_0 : (0 : Int32).toInt = 0 := (by decide); omega) | (refine ⟨by decide, ?_⟩; omega) | omega), (inM_w k_11_1 (by omega) asc_row (by decide) lw_i1 (by decide))⟩) (Nat.le_of_ble_eq_true rfl) (Nat.le_of_ble_eq_true rfl) dX13_isName_49
      · have h_13 : r_10.toInt = 0 := c_eq h_13
        refine lv_aload_n hx hb dX13_isName_26 rfl (lv_at hl 0 rfl) ?_
        obtain ⟨q_14, v_15, hq_14, hv_15⟩ := X.2.2.2.2.2.2.2.2.2.2 ("HahaLawnModel", 143, "walker") (List.mem_of_getElem? (i := 24) rfl)
        refine va_ldcS hx hb X.2.2.2.1 hq_14 dX13_isName_27 ?_
        refine sl_Ic (rVe_I (wc := [(h0, .inr (12, [.int m_thrown, .int m_trouble, .int m_where, m_park, m_read, .ref m_tape, .int m_taped, .int m_size, .int m_spot, .int m_sort, .int m_place, .int m_letters, .int m_number, .int m_fault, .int m_wrongAt, .long m_word, .ref m_v, .ref m_x, .ref m_past, .ref m_kept, .int m_acts, .int m_images, .ref m_left, .ref m_far, .ref m_line, .int m_fitsNow, .ref m_ditchIn, .int m_treadLeft, .int m_rambledTo, .int m_rambledFalls, .int m_rambledIn]))]) (As := [.ref q_14]) (rest := []) X (andX_st hp_st (sO_st q_14 v_15 6 (txB "walker"))) ⟨X.2.2.2.2.2.2.2, hv_15⟩ (gX13_isWord l dC dI cy h0 m_thrown m_trouble m_where m_park m_read m_tape m_taped m_size m_spot m_sort m_place m_letters m_number m_fault m_wrongAt m_word m_v m_x m_past m_kept m_acts m_images m_left m_far m_line m_fitsNow m_ditchIn m_treadLeft m_rambledTo m_rambledFalls m_rambledIn q_14 v_15 6 (txB "walker") hm_taped hm_size hm_spot hm_place hm_acts hm_images (by first | decide | omega)) kX13_isWord vX13_isWord mX13_116 hP hD hS hA [0] (by decide) rfl 0 (ci := 12) rfl rfl rfl hl rfl rfl (Nat.le_of_ble_eq_true rfl) dX13_isName_29 ⟨(Nat.le_of_ble_eq_true rfl), (Nat.le_of_ble_eq_true rfl)⟩ ⟨(Nat.le_of_ble_eq_true rfl), (Nat.le_of_ble_eq_true rfl)⟩) hP hD hS hA [0] [false] rfl rfl rfl (fun r_16 u_18 H locs k_17 hP hD hS => ?_)
        have k_17 : (0 ≤ r_16.toInt ∧ r_16.toInt ≤ 1) ∧ (wdM m_sort.toInt m_word 6 (txB "walker") r_16.toInt) := k_17
        obtain ⟨k_17_0, k_17_1⟩ := k_17
        have hPD := vPD (ws' := [(h0, .inr (12, [.int m_thrown, .int m_trouble, .int m_where, m_park, m_read, .ref m_tape, .int m_taped, .int m_size, .int m_spot, .int m_sort, .int m_place, .int m_letters, .int m_number, .int m_fault, .int m_wrongAt, .long m_word, .ref m_v, .ref m_x, .ref m_past, .ref m_kept, .int m_acts, .int m_images, .ref m_left, .ref m_far, .ref m_line, .int m_fitsNow, .ref m_ditchIn, .int m_treadLeft, .int m_rambledTo, .int m_rambledFalls, .int m_rambledIn]))]) hP hD rfl
        have hP := hPD.1
        have hD := hPD.2
        refine lv_if_ne (tgt := 48) hx hb dX13_isName_32 (by decide) (fun h_19 => ?_) (fun h_19 => ?_)
        · have h_19 : r_16.toInt ≠ 0 := c_ne h_19
          refine lv_iconst (v := 0) hx hb dX13_isName_48 (by decide) ?_
          exact eI hQ X hr hlocks hP hD hS () [0] (by decide) rfl rfl (show (0 ≤ (0 : Int32).toInt ∧ (0 : Int32).toInt ≤ 1) ∧ (inM m_sort.toInt m_word (0 : Int32).toInt) from ⟨(by first | decide | (have h9_0 : (0 : Int32).toInt = 0 := (by decide); omega) | (refine ⟨by decide, ?_⟩; omega) | omega), (inM_w k_17_1 (by omega) asc_walker (by decide) lw_i2 (by decide))⟩) (Nat.le_of_ble_eq_true rfl) (Nat.le_of_ble_eq_true rfl) dX13_isName_49
        · have h_19 : r_16.toInt = 0 := c_eq h_19
          refine lv_aload_n hx hb dX13_isName_35 rfl (lv_at hl 0 rfl) ?_
          obtain ⟨q_20, v_21, hq_20, hv_21⟩ := X.2.2.2.2.2.2.2.2.2.2 ("HahaLawnModel", 145, "walk") (List.mem_of_getElem? (i := 25) rfl)
          refine va_ldcS hx hb X.2.2.2.1 hq_20 dX13_isName_36 ?_
          refine sl_Ic (rVe_I (wc := [(h0, .inr (12, [.int m_thrown, .int m_trouble, .int m_where, m_park, m_read, .ref m_tape, .int m_taped, .int m_size, .int m_spot, .int m_sort, .int m_place, .int m_letters, .int m_number, .int m_fault, .int m_wrongAt, .long m_word, .ref m_v, .ref m_x, .ref m_past, .ref m_kept, .int m_acts, .int m_images, .ref m_left, .ref m_far, .ref m_line, .int m_fitsNow, .ref m_ditchIn, .int m_treadLeft, .int m_rambledTo, .int m_rambledFalls, .int m_rambledIn]))]) (As := [.ref q_20]) (rest := []) X (andX_st hp_st (sO_st q_20 v_21 4 (txB "walk"))) ⟨X.2.2.2.2.2.2.2, hv_21⟩ (gX13_isWord l dC dI cy h0 m_thrown m_trouble m_where m_park m_read m_tape m_taped m_size m_spot m_sort m_place m_letters m_number m_fault m_wrongAt m_word m_v m_x m_past m_kept m_acts m_images m_left m_far m_line m_fitsNow m_ditchIn m_treadLeft m_rambledTo m_rambledFalls m_rambledIn q_20 v_21 4 (txB "walk") hm_taped hm_size hm_spot hm_place hm_acts hm_images (by first | decide | omega)) kX13_isWord vX13_isWord mX13_116 hP hD hS hA [0] (by decide) rfl 0 (ci := 12) rfl rfl rfl hl rfl rfl (Nat.le_of_ble_eq_true rfl) dX13_isName_38 ⟨(Nat.le_of_ble_eq_true rfl), (Nat.le_of_ble_eq_true rfl)⟩ ⟨(Nat.le_of_ble_eq_true rfl), (Nat.le_of_ble_eq_true rfl)⟩) hP hD hS hA [0] [false] rfl rfl rfl (fun r_22 u_24 H locs k_23 hP hD hS => ?_)
          have k_23 : (0 ≤ r_22.toInt ∧ r_22.toInt ≤ 1) ∧ (wdM m_sort.toInt m_word 4 (txB "walk") r_22.toInt) := k_23
          obtain ⟨k_23_0, k_23_1⟩ := k_23
          have hPD := vPD (ws' := [(h0, .inr (12, [.int m_thrown, .int m_trouble, .int m_where, m_park, m_read, .ref m_tape, .int m_taped, .int m_size, .int m_spot, .int m_sort, .int m_place, .int m_letters, .int m_number, .int m_fault, .int m_wrongAt, .long m_word, .ref m_v, .ref m_x, .ref m_past, .ref m_kept, .int m_acts, .int m_images, .ref m_left, .ref m_far, .ref m_line, .int m_fitsNow, .ref m_ditchIn, .int m_treadLeft, .int m_rambledTo, .int m_rambledFalls, .int m_rambledIn]))]) hP hD rfl
          have hP := hPD.1
          have hD := hPD.2
          refine lv_if_ne (tgt := 48) hx hb dX13_isName_41 (by decide) (fun h_25 => ?_) (fun h_25 => ?_)
          · have h_25 : r_22.toInt ≠ 0 := c_ne h_25
            refine lv_iconst (v := 0) hx hb dX13_isName_48 (by decide) ?_
            exact eI hQ X hr hlocks hP hD hS () [0] (by decide) rfl rfl (show (0 ≤ (0 : Int32).toInt ∧ (0 : Int32).toInt ≤ 1) ∧ (inM m_sort.toInt m_word (0 : Int32).toInt) from ⟨(by first | decide | (have h9_0 : (0 : Int32).toInt = 0 := (by decide); omega) | (refine ⟨by decide, ?_⟩; omega) | omega), (inM_w k_23_1 (by omega) asc_walk (by decide) lw_i3 (by decide))⟩) (Nat.le_of_ble_eq_true rfl) (Nat.le_of_ble_eq_true rfl) dX13_isName_49
          · have h_25 : r_22.toInt = 0 := c_eq h_25
            refine lv_iconst (v := 1) hx hb dX13_isName_44 (by decide) ?_
            refine lv_goto (tgt := 49) hx hb dX13_isName_45 (by decide) ?_
            exact eI hQ X hr hlocks hP hD hS () [0] (by decide) rfl rfl (show (0 ≤ (1 : Int32).toInt ∧ (1 : Int32).toInt ≤ 1) ∧ (inM m_sort.toInt m_word (1 : Int32).toInt) from ⟨(by first | decide | (have h9_0 : (1 : Int32).toInt = 1 := (by decide); omega) | (refine ⟨by decide, ?_⟩; omega) | omega), (inM_y (by omega) k_5_1 (by omega) k_11_1 (by omega) k_17_1 (by omega) k_23_1 (by omega) (by decide))⟩) (Nat.le_of_ble_eq_true rfl) (Nat.le_of_ble_eq_true rfl) dX13_isName_49
set_option maxHeartbeats 4000000 in
set_option maxRecDepth 100000 in
theorem gX12_isName (l : Launch) (dC : Nat → ClassId) (dI : Nat → Nat → Nat) (cy : Nat → ClassId) (h0 : Nat) (k_wide : Int32) (k_deep : Int32) (k_errs : Int32) (k_slips : Int32) (k_rows : Int32) (k_walkers : Int32) (k_walks : Int32) (k_unsures : Int32) (k_sort : Nat) (k_unsure : Nat) (k_kind : Nat) (k_at : Nat) (k_to : Nat) (k_from : Nat) (k_steps : Nat) (k_fell : Nat) (k_name : Nat) (k_namef : Nat → Int64) (p1 : Int64) (hk_wide : 0 ≤ k_wide.toInt ∧ k_wide.toInt ≤ 5) (hk_deep : 0 ≤ k_deep.toInt ∧ k_deep.toInt ≤ 4) (hk_rows : 0 ≤ k_rows.toInt ∧ k_rows.toInt ≤ 4) (hk_walkers : 0 ≤ k_walkers.toInt ∧ k_walkers.toInt ≤ 4) (hk_walks : 0 ≤ k_walks.toInt ∧ k_walks.toInt ≤ 6) (hk_unsures : 0 ≤ k_unsures.toInt ∧ k_unsures.toInt ≤ 5) : ctI l dC dI cy hp yX12_isName cX12_isName 4 .boolean ({ frames := 0, cells := 0, slots := 0, locals := 0 } : Room) [.ref h0, .long p1] [(h0, .inr (11, [.int k_wide, .int k_deep, .int k_errs, .int k_slips, .int k_rows, .int k_walkers, .int k_walks, .int k_unsures, .ref k_sort, .ref k_unsure, .ref k_kind, .ref k_at, .ref k_to, .ref k_from, .ref k_steps, .ref k_fell, .ref k_name])), (k_name, .inl (cy 2, 4, .inr (.inl k_namef)))] (S := Unit) (fun r _ => (0 ≤ r.toInt ∧ r.toInt ≤ 1) ∧ (hnP k_namef k_walkers.toInt p1 r.toInt)) (fun _ => [(h0, .inr (11, [.int k_wide, .int k_deep, .int k_errs, .int k_slips, .int k_rows, .int k_walkers, .int k_walks, .int k_unsures, .ref k_sort, .ref k_unsure, .ref k_kind, .ref k_at, .ref k_to, .ref k_from, .ref k_steps, .ref k_fell, .ref k_name])), (k_name, .inl (cy 2, 4, .inr (.inl k_namef)))]) := by
  refine ctI.of (by decide +kernel) (Nat.le_of_ble_eq_true rfl) ?_
  intro p e s m args below meth c A ls Q hQ X hr hlocks hin hA hP hD hS hl
  have hx := X.1
  have hb := X.2.1
  have hK := X.2.2.2.2.2.1
  have hl : lv_has ls 4 [(0, .ref h0), (1, .long p1)] := hl
  refine lv_iconst (v := 0) hx hb dX12_isName_0 (by decide) ?_
  refine lv_istore_n (lv' := [(3, .int 0), (0, .ref h0), (1, .long p1)]) hx hb dX12_isName_1 rfl hl (by decide) rfl (fun ls hl => ?_)
  have lp_1 : ∀ (nlp_1 : Nat) (i_2 : Int32) (H : Heap) (locs : List Loc) (ls : Array Slot), (0 ≤ i_2.toInt ∧ i_2.toInt ≤ 4) → (ntl k_namef i_2.toInt p1) → (5 - i_2.toInt ≤ (nlp_1 : Int)) → va_P (dC, dI) vwCl [(h0, .inr (11, [.int k_wide, .int k_deep, .int k_errs, .int k_slips, .int k_rows, .int k_walkers, .int k_walks, .int k_unsures, .ref k_sort, .ref k_unsure, .ref k_kind, .ref k_at, .ref k_to, .ref k_from, .ref k_steps, .ref k_fell, .ref k_name])), (k_name, .inl (cy 2, 4, .inr (.inl k_namef)))] H → va_D A [(h0, .inr (11, [.int k_wide, .int k_deep, .int k_errs, .int k_slips, .int k_rows, .int k_walkers, .int k_walks, .int k_unsures, .ref k_sort, .ref k_unsure, .ref k_kind, .ref k_at, .ref k_to, .ref k_from, .ref k_steps, .ref k_fell, .ref k_name])), (k_name, .inl (cy 2, 4, .inr (.inl k_namef)))] → va_S A s.heap H locs → lv_has ls 4 [(3, .int i_2), (0, .ref h0), (1, .long p1)] → W p l e ({ frames := 0, cells := 0, slots := 0, locals := 0 } : Room) s m args below meth c H locs 0 0 Q (F0 m 2 ls []) := by
    intro nlp_1
    induction nlp_1 with
    | zero =>
      intro i_2 H locs ls b_3 b_4 hmlp_1 hP hD hS hl
      exfalso
      have di_2 := ti_bd i_2
      omega
    | succ nlp_1 ihlp_1 =>
      intro i_2 H locs ls b_3 b_4 hmlp_1 hP hD hS hl
      refine lv_iload_n hx hb dX12_isName_2 rfl (lv_at hl 0 rfl) ?_
      refine lv_aload_n hx hb dX12_isName_3 rfl (lv_at hl 1 rfl) ?_
      refine r_get X kcX12 (ci := 11) rfl hP 0 rfl 5 (by decide) fX12_41 rfl dX12_isName_4 ?_
      refine lv_icmp_ge (tgt := 29) hx hb dX12_isName_7 (by decide) (fun h_5 => ?_) (fun h_5 => ?_)
      · have h_5 : k_walkers.toInt ≤ i_2.toInt := c_le h_5
        refine lv_iconst (v := 0) hx hb dX12_isName_29 (by decide) ?_
        exact eI hQ X hr hlocks hP hD hS () [0, 1] (by decide) rfl rfl (show (0 ≤ (0 : Int32).toInt ∧ (0 : Int32).toInt ≤ 1) ∧ (hnP k_namef k_walkers.toInt p1 (0 : Int32).toInt) from ⟨(by first | decide | (have h9_0 : (0 : Int32).toInt = 0 := (by decide); omega) | (refine ⟨by decide, ?_⟩; omega) | omega), (hnP_n b_4 (by omega) (by decide))⟩) (Nat.le_of_ble_eq_true rfl) (Nat.le_of_ble_eq_true rfl) dX12_isName_30
      · have h_5 : i_2.toInt < k_walkers.toInt := c_nle h_5
        refine lv_aload_n hx hb dX12_isName_10 rfl (lv_at hl 1 rfl) ?_
        refine r_get X kcX12 (ci := 11) rfl hP 0 rfl 16 (by decide) fX12_37 rfl dX12_isName_11 ?_
        refine lv_iload_n hx hb dX12_isName_14 rfl (lv_at hl 0 rfl) ?_
        refine va_lald (D := (dC, dI)) (cl := vwCl) hx hb hK hP 1 2 rfl rfl (i := i_2) (vin (by omega) (by omega)) dX12_isName_15 ?_
        refine lv_topl (fun x_6 ex_6 => ?_)
        refine lv_lload_n hx hb dX12_isName_16 rfl (lv_at hl 2 rfl) ?_
        refine W.lcmp hx hb dX12_isName_17 ?_
        refine lv_topi (fun x_7 ex_7 => ?_)
        refine lv_if_ne (tgt := 23) hx hb dX12_isName_18 (by decide) (fun h_8 => ?_) (fun h_8 => ?_)
        · have h_8 : x_7.toInt ≠ 0 := c_ne h_8
          obtain ⟨x_9, ex_9⟩ : ∃ y : Int32, y = i_2 + 1 := ⟨_, rfl⟩
          have tx_9 : x_9.toInt = i_2.toInt + 1 := ti_add (A := i_2.toInt) (B := 1) ex_9 rfl rfl (by omega) (by omega)
          refine lv_iinc (v := x_9) (lv' := [(3, .int x_9), (0, .ref h0), (1, .long p1)]) hx hb dX12_isName_23 hl (k := 0) rfl (by rw [ex_9]; rfl) (by decide) rfl (fun ls hl => ?_)
          refine lv_goto (tgt := 2) hx hb dX12_isName_26 (by decide) ?_
          exact ihlp_1 x_9 _ _ _ (by omega) (show ntl k_namef x_9.toInt p1 from (ntl_up (i := i_2) b_4 ex_6 (lne_cmp ex_7 (by omega)) (by omega) (by omega))) (show 5 - x_9.toInt ≤ (nlp_1 : Int) by omega) hP hD hS (lv_sub hl [0, 1, 2] rfl)
        · have h_8 : x_7.toInt = 0 := c_eq h_8
          refine lv_iconst (v := 1) hx hb dX12_isName_21 (by decide) ?_
          exact eI hQ X hr hlocks hP hD hS () [0, 1] (by decide) rfl rfl (show (0 ≤ (1 : Int32).toInt ∧ (1 : Int32).toInt ≤ 1) ∧ (hnP k_namef k_walkers.toInt p1 (1 : Int32).toInt) from ⟨(by first | decide | (have h9_0 : (1 : Int32).toInt = 1 := (by decide); omega) | (refine ⟨by decide, ?_⟩; omega) | omega), (hnP_y (i := i_2) ex_6 (leq_cmp ex_7 (by omega)) (by omega) (by omega) (by decide))⟩) (Nat.le_of_ble_eq_true rfl) (Nat.le_of_ble_eq_true rfl) dX12_isName_22
  exact lp_1 5 0 _ _ _ (by decide) (show ntl k_namef 0 p1 from (ntl_0 (by omega))) (show 5 - 0 ≤ ((5 : Nat) : Int) by omega) hP hD hS hl
set_option maxHeartbeats 40000000 in
set_option maxRecDepth 100000 in
theorem gX13_lineBegins (l : Launch) (dC : Nat → ClassId) (dI : Nat → Nat → Nat) (cy : Nat → ClassId) (h0 : Nat) (m_thrown : Int32) (m_trouble : Int32) (m_where : Int32) (m_park : Value) (m_read : Nat) (m_tape : Nat) (m_taped : Int32) (m_size : Int32) (m_spot : Int32) (m_sort : Int32) (m_place : Int32) (m_letters : Int32) (m_number : Int32) (m_fault : Int32) (m_wrongAt : Int32) (m_word : Int64) (m_v : Nat) (m_x : Nat) (m_past : Nat) (m_kept : Nat) (m_acts : Int32) (m_images : Int32) (m_left : Nat) (m_far : Nat) (m_line : Nat) (m_fitsNow : Int32) (m_ditchIn : Nat) (m_treadLeft : Int32) (m_rambledTo : Int32) (m_rambledFalls : Int32) (m_rambledIn : Int32) (m_read_wide : Int32) (m_read_deep : Int32) (m_read_errs : Int32) (m_read_slips : Int32) (m_read_rows : Int32) (m_read_walkers : Int32) (m_read_walks : Int32) (m_read_unsures : Int32) (m_read_sort : Nat) (m_read_unsure : Nat) (m_read_kind : Nat) (m_read_at : Nat) (m_read_to : Nat) (m_read_from : Nat) (m_read_steps : Nat) (m_read_fell : Nat) (m_read_name : Nat) (m_tapef : Nat → Int32) (p1 : Int32) (p2 : Int32) (hm_taped : 0 ≤ m_taped.toInt ∧ m_taped.toInt ≤ 800) (hm_size : 0 ≤ m_size.toInt ∧ m_size.toInt ≤ 800) (hm_spot : 0 ≤ m_spot.toInt ∧ m_spot.toInt ≤ 800) (hm_place : 0 ≤ m_place.toInt ∧ m_place.toInt ≤ 800) (hm_acts : 0 ≤ m_acts.toInt ∧ m_acts.toInt ≤ 16) (hm_images : 0 ≤ m_images.toInt ∧ m_images.toInt ≤ 3) (hm_read_wide : 0 ≤ m_read_wide.toInt ∧ m_read_wide.toInt ≤ 5) (hm_read_deep : 0 ≤ m_read_deep.toInt ∧ m_read_deep.toInt ≤ 4) (hm_read_rows : 0 ≤ m_read_rows.toInt ∧ m_read_rows.toInt ≤ 4) (hm_read_walkers : 0 ≤ m_read_walkers.toInt ∧ m_read_walkers.toInt ≤ 4) (hm_read_walks : 0 ≤ m_read_walks.toInt ∧ m_read_walks.toInt ≤ 6) (hm_read_unsures : 0 ≤ m_read_unsures.toInt ∧ m_read_unsures.toInt ≤ 5) (hspo : m_spot.toInt ≤ m_size.toInt) (hjj : jj m_sort.toInt m_fault.toInt) (hpi : (m_read_wide.toInt = 0 ∧ m_read_deep.toInt = 0 ∧ m_read_rows.toInt = 0 ∧ m_read_walkers.toInt = 0 ∧ m_read_walks.toInt = 0) ∨ (2 ≤ m_read_wide.toInt ∧ 2 ≤ m_read_deep.toInt ∧ m_read_rows.toInt ≤ m_read_deep.toInt)) : ctV l dC dI cy hp yX13_lineBegins cX13_lineBegins 3 ({ frames := 2, cells := 0, slots := 0, locals := 43 } : Room) [.ref h0, .int p1, .int p2] [(h0, .inr (12, [.int m_thrown, .int m_trouble, .int m_where, m_park, .ref m_read, .ref m_tape, .int m_taped, .int m_size, .int m_spot, .int m_sort, .int m_place, .int m_letters, .int m_number, .int m_fault, .int m_wrongAt, .long m_word, .ref m_v, .ref m_x, .ref m_past, .ref m_kept, .int m_acts, .int m_images, .ref m_left, .ref m_far, .ref m_line, .int m_fitsNow, .ref m_ditchIn, .int m_treadLeft, .int m_rambledTo, .int m_rambledFalls, .int m_rambledIn])), (m_read, .inr (11, [.int m_read_wide, .int m_read_deep, .int m_read_errs, .int m_read_slips, .int m_read_rows, .int m_read_walkers, .int m_read_walks, .int m_read_unsures, .ref m_read_sort, .ref m_read_unsure, .ref m_read_kind, .ref m_read_at, .ref m_read_to, .ref m_read_from, .ref m_read_steps, .ref m_read_fell, .ref m_read_name])), (m_tape, .inl (cy 0, 800, .inl m_tapef))] (S := Int32 × Int32 × Int32 × Int32 × Int32 × Int64 × Int32 × Int32) (fun u => (0 ≤ u.1.toInt ∧ u.1.toInt ≤ 800) ∧ (jj u.2.1.toInt u.2.2.2.2.2.2.1.toInt) ∧ (0 ≤ u.2.2.1.toInt ∧ u.2.2.1.toInt ≤ 800) ∧ (m_spot.toInt ≤ u.1.toInt ∧ u.1.toInt ≤ m_size.toInt) ∧ (ov m_sort.toInt u.2.1.toInt) ∧ (sg m_spot.toInt u.2.1.toInt u.1.toInt) ∧ (jj u.2.1.toInt u.2.2.2.2.2.2.1.toInt) ∧ (lb u.2.1.toInt m_read_wide.toInt m_read_deep.toInt m_read_rows.toInt p1.toInt p2.toInt) ∧ (lbM m_tapef m_size.toInt m_read_wide.toInt m_read_deep.toInt m_read_rows.toInt p1.toInt p2.toInt m_sort.toInt m_place.toInt m_spot.toInt m_word m_letters.toInt m_number.toInt m_fault.toInt m_wrongAt.toInt u.2.1.toInt u.2.2.1.toInt u.1.toInt u.2.2.2.2.2.1 u.2.2.2.1.toInt u.2.2.2.2.1.toInt u.2.2.2.2.2.2.1.toInt u.2.2.2.2.2.2.2.toInt)) (fun u => [(h0, .inr (12, [.int m_thrown, .int m_trouble, .int m_where, m_park, .ref m_read, .ref m_tape, .int m_taped, .int m_size, .int u.1, .int u.2.1, .int u.2.2.1, .int u.2.2.2.1, .int u.2.2.2.2.1, .int u.2.2.2.2.2.2.1, .int u.2.2.2.2.2.2.2, .long u.2.2.2.2.2.1, .ref m_v, .ref m_x, .ref m_past, .ref m_kept, .int m_acts, .int m_images, .ref m_left, .ref m_far, .ref m_line, .int m_fitsNow, .ref m_ditchIn, .int m_treadLeft, .int m_rambledTo, .int m_rambledFalls, .int m_rambledIn])), (m_read, .inr (11, [.int m_read_wide, .int m_read_deep, .int m_read_errs, .int m_read_slips, .int m_read_rows, .int m_read_walkers, .int m_read_walks, .int m_read_unsures, .ref m_read_sort, .ref m_read_unsure, .ref m_read_kind, .ref m_read_at, .ref m_read_to, .ref m_read_from, .ref m_read_steps, .ref m_read_fell, .ref m_read_name])), (m_tape, .inl (cy 0, 800, .inl m_tapef))]) := by
  refine ctV.of (by decide +kernel) (Nat.le_of_ble_eq_true rfl) ?_
  intro p e s m args below meth c A ls Q hQ X hr hlocks hin hA hP hD hS hl
  have hx := X.1
  have hb := X.2.1
  have hK := X.2.2.2.2.2.1
  have hl : lv_has ls 3 [(0, .ref h0), (1, .int p1), (2, .int p2)] := hl
  have dy_1 := ti_bd p1
  have dy_2 := ti_bd p2
  have hpr : 0 ≤ (m_read_wide.toInt * m_read_deep.toInt) ∧ (m_read_wide.toInt * m_read_deep.toInt) ≤ 20 := pl_b0 (by omega) (by omega) (by omega) (by omega)
  have lk_3 : Hid (bys m_tapef → ∀ σ : Int × Int, (σ.1 = 0 → tK m_tapef m_size.toInt σ.2 = 1) → LkM m_tapef m_size.toInt σ m_sort.toInt m_place.toInt m_spot.toInt m_word m_letters.toInt m_number.toInt m_fault.toInt m_wrongAt.toInt → LkM m_tapef m_size.toInt σ m_sort.toInt m_place.toInt m_spot.toInt m_word m_letters.toInt m_number.toInt m_fault.toInt m_wrongAt.toInt) := fun hb σ ht hk => hk
  have jn_4 : ∀ (i_5 : Int32) (i_6 : Int32) (i_7 : Int32) (H : Heap) (locs : List Loc) (ls : Array Slot), (Hid (bys m_tapef → ∀ σ : Int × Int, (σ.1 = 0 → tK m_tapef m_size.toInt σ.2 = 1) → LkM m_tapef m_size.toInt σ m_sort.toInt m_place.toInt m_spot.toInt m_word m_letters.toInt m_number.toInt m_fault.toInt m_wrongAt.toInt → LkM m_tapef m_size.toInt (ck (p1.toInt = p2.toInt) 5 σ) i_5.toInt m_place.toInt m_spot.toInt m_word m_letters.toInt m_number.toInt i_6.toInt i_7.toInt)) → (ov m_sort.toInt i_5.toInt) → (jj i_5.toInt i_6.toInt) → (Hid (i_5.toInt ≠ 5 → ¬ p1.toInt = p2.toInt)) → va_P (dC, dI) vwCl [(h0, .inr (12, [.int m_thrown, .int m_trouble, .int m_where, m_park, .ref m_read, .ref m_tape, .int m_taped, .int m_size, .int m_spot, .int i_5, .int m_place, .int m_letters, .int m_number, .int i_6, .int i_7, .long m_word, .ref m_v, .ref m_x, .ref m_past, .ref m_kept, .int m_acts, .int m_images, .ref m_left, .ref m_far, .ref m_line, .int m_fitsNow, .ref m_ditchIn, .int m_treadLeft, .int m_rambledTo, .int m_rambledFalls, .int m_rambledIn])), (m_read, .inr (11, [.int m_read_wide, .int m_read_deep, .int m_read_errs, .int m_read_slips, .int m_read_rows, .int m_read_walkers, .int m_read_walks, .int m_read_unsures, .ref m_read_sort, .ref m_read_unsure, .ref m_read_kind, .ref m_read_at, .ref m_read_to, .ref m_read_from, .ref m_read_steps, .ref m_read_fell, .ref m_read_name])), (m_tape, .inl (cy 0, 800, .inl m_tapef))] H → va_D A [(h0, .inr (12, [.int m_thrown, .int m_trouble, .int m_where, m_park, .ref m_read, .ref m_tape, .int m_taped, .int m_size, .int m_spot, .int i_5, .int m_place, .int m_letters, .int m_number, .int i_6, .int i_7, .long m_word, .ref m_v, .ref m_x, .ref m_past, .ref m_kept, .int m_acts, .int m_images, .ref m_left, .ref m_far, .ref m_line, .int m_fitsNow, .ref m_ditchIn, .int m_treadLeft, .int m_rambledTo, .int m_rambledFalls, .int m_rambledIn])), (m_read, .inr (11, [.int m_read_wide, .int m_read_deep, .int m_read_errs, .int m_read_slips, .int m_read_rows, .int m_read_walkers, .int m_read_walks, .int m_read_unsures, .ref m_read_sort, .ref m_read_unsure, .ref m_read_kind, .ref m_read_at, .ref m_read_to, .ref m_read_from, .ref m_read_steps, .ref m_read_fell, .ref m_read_name])), (m_tape, .inl (cy 0, 800, .inl m_tapef))] → va_S A s.heap H locs → lv_has ls 3 [(0, .ref h0), (1, .int p1), (2, .int p2)] → W p l e ({ frames := 2, cells := 0, slots := 0, locals := 43 } : Room) s m args below meth c H locs 0 0 Q (F0 m 10 ls []) := by
    intro i_5 i_6 i_7 H locs ls b_8 b_9 b_10 b_11 hP hD hS hl
    have jn_12 : ∀ (i_13 : Int32) (i_14 : Int32) (i_15 : Int32) (H : Heap) (locs : List Loc) (ls : Array Slot), (Hid (bys m_tapef → ∀ σ : Int × Int, (σ.1 = 0 → tK m_tapef m_size.toInt σ.2 = 1) → LkM m_tapef m_size.toInt σ m_sort.toInt m_place.toInt m_spot.toInt m_word m_letters.toInt m_number.toInt m_fault.toInt m_wrongAt.toInt → LkM m_tapef m_size.toInt (ck (m_read_wide.toInt ≤ 0 ∨ m_read_rows.toInt < m_read_deep.toInt) 6 (ck (p1.toInt = p2.toInt) 5 σ)) i_13.toInt m_place.toInt m_spot.toInt m_word m_letters.toInt m_number.toInt i_14.toInt i_15.toInt)) → (ov i_5.toInt i_13.toInt) → (jj i_13.toInt i_14.toInt) → (Hid (i_13.toInt ≠ 5 → ¬ (m_read_wide.toInt ≤ 0 ∨ m_read_rows.toInt < m_read_deep.toInt))) → va_P (dC, dI) vwCl [(h0, .inr (12, [.int m_thrown, .int m_trouble, .int m_where, m_park, .ref m_read, .ref m_tape, .int m_taped, .int m_size, .int m_spot, .int i_13, .int m_place, .int m_letters, .int m_number, .int i_14, .int i_15, .long m_word, .ref m_v, .ref m_x, .ref m_past, .ref m_kept, .int m_acts, .int m_images, .ref m_left, .ref m_far, .ref m_line, .int m_fitsNow, .ref m_ditchIn, .int m_treadLeft, .int m_rambledTo, .int m_rambledFalls, .int m_rambledIn])), (m_read, .inr (11, [.int m_read_wide, .int m_read_deep, .int m_read_errs, .int m_read_slips, .int m_read_rows, .int m_read_walkers, .int m_read_walks, .int m_read_unsures, .ref m_read_sort, .ref m_read_unsure, .ref m_read_kind, .ref m_read_at, .ref m_read_to, .ref m_read_from, .ref m_read_steps, .ref m_read_fell, .ref m_read_name])), (m_tape, .inl (cy 0, 800, .inl m_tapef))] H → va_D A [(h0, .inr (12, [.int m_thrown, .int m_trouble, .int m_where, m_park, .ref m_read, .ref m_tape, .int m_taped, .int m_size, .int m_spot, .int i_13, .int m_place, .int m_letters, .int m_number, .int i_14, .int i_15, .long m_word, .ref m_v, .ref m_x, .ref m_past, .ref m_kept, .int m_acts, .int m_images, .ref m_left, .ref m_far, .ref m_line, .int m_fitsNow, .ref m_ditchIn, .int m_treadLeft, .int m_rambledTo, .int m_rambledFalls, .int m_rambledIn])), (m_read, .inr (11, [.int m_read_wide, .int m_read_deep, .int m_read_errs, .int m_read_slips, .int m_read_rows, .int m_read_walkers, .int m_read_walks, .int m_read_unsures, .ref m_read_sort, .ref m_read_unsure, .ref m_read_kind, .ref m_read_at, .ref m_read_to, .ref m_read_from, .ref m_read_steps, .ref m_read_fell, .ref m_read_name])), (m_tape, .inl (cy 0, 800, .inl m_tapef))] → va_S A s.heap H locs → lv_has ls 3 [(0, .ref h0), (1, .int p1), (2, .int p2)] → W p l e ({ frames := 2, cells := 0, slots := 0, locals := 43 } : Room) s m args below meth c H locs 0 0 Q (F0 m 43 ls []) := by
      intro i_13 i_14 i_15 H locs ls b_16 b_17 b_18 b_19 hP hD hS hl
      refine lv_aload_n hx hb dX13_lineBegins_43 rfl (lv_at hl 0 rfl) ?_
      refine sl_Vc (rV_V (As := []) (rest := []) X hp_st (fun _ _ _ h => h) (gX13_goesOn l dC dI cy h0 m_thrown m_trouble m_where m_park (.ref m_read) m_tape m_taped m_size m_spot i_13 m_place m_letters m_number i_14 i_15 m_word m_v m_x m_past m_kept m_acts m_images m_left m_far m_line m_fitsNow m_ditchIn m_treadLeft m_rambledTo m_rambledFalls m_rambledIn m_tapef hm_taped hm_size hm_spot hm_place hm_acts hm_images hspo b_18) kX13_goesOn vX13_goesOn mX13_113 hP hD hS hA [0, 2] (by decide) rfl 0 (ci := 12) rfl rfl rfl hl rfl rfl (Nat.le_of_ble_eq_true rfl) dX13_lineBegins_44 ⟨(Nat.le_of_ble_eq_true rfl), (Nat.le_of_ble_eq_true rfl)⟩ ⟨(Nat.le_of_ble_eq_true rfl), (Nat.le_of_ble_eq_true rfl)⟩) hP hD hS hA [0, 2] [false, true, false] rfl rfl rfl (fun u_28 H locs k_27 hP hD hS => ?_)
      obtain ⟨m_spot1_20, m_sort1_21, m_place1_22, m_letters1_23, m_number1_24, m_word1_25⟩ := u_28
      have k_27 : (0 ≤ m_spot1_20.toInt ∧ m_spot1_20.toInt ≤ 800) ∧ (jj m_sort1_21.toInt i_14.toInt) ∧ (0 ≤ m_place1_22.toInt ∧ m_place1_22.toInt ≤ 800) ∧ (m_spot.toInt ≤ m_spot1_20.toInt ∧ m_spot1_20.toInt ≤ m_size.toInt) ∧ (ov i_13.toInt m_sort1_21.toInt) ∧ (sg m_spot.toInt m_sort1_21.toInt m_spot1_20.toInt) ∧ (jj m_sort1_21.toInt i_14.toInt) ∧ (gR m_tapef m_size.toInt i_13.toInt m_spot.toInt i_14.toInt i_15.toInt m_sort1_21.toInt m_place1_22.toInt m_spot1_20.toInt m_word1_25 m_letters1_23.toInt m_number1_24.toInt) := k_27
      obtain ⟨k_27_0, k_27_1, k_27_2, k_27_3, k_27_4, k_27_5, k_27_6, k_27_7⟩ := k_27
      have hPD := vPD (ws' := [(m_read, .inr (11, [.int m_read_wide, .int m_read_deep, .int m_read_errs, .int m_read_slips, .int m_read_rows, .int m_read_walkers, .int m_read_walks, .int m_read_unsures, .ref m_read_sort, .ref m_read_unsure, .ref m_read_kind, .ref m_read_at, .ref m_read_to, .ref m_read_from, .ref m_read_steps, .ref m_read_fell, .ref m_read_name])), (h0, .inr (12, [.int m_thrown, .int m_trouble, .int m_where, m_park, .ref m_read, .ref m_tape, .int m_taped, .int m_size, .int m_spot1_20, .int m_sort1_21, .int m_place1_22, .int m_letters1_23, .int m_number1_24, .int i_14, .int i_15, .long m_word1_25, .ref m_v, .ref m_x, .ref m_past, .ref m_kept, .int m_acts, .int m_images, .ref m_left, .ref m_far, .ref m_line, .int m_fitsNow, .ref m_ditchIn, .int m_treadLeft, .int m_rambledTo, .int m_rambledFalls, .int m_rambledIn])), (m_tape, .inl (cy 0, 800, .inl m_tapef))]) hP hD rfl
      have hP := hPD.1
      have hD := hPD.2
      have lk_29 : Hid (bys m_tapef → ∀ σ : Int × Int, (σ.1 = 0 → tK m_tapef m_size.toInt σ.2 = 1) → LkM m_tapef m_size.toInt σ m_sort.toInt m_place.toInt m_spot.toInt m_word m_letters.toInt m_number.toInt m_fault.toInt m_wrongAt.toInt → LkM m_tapef m_size.toInt (go m_tapef m_size.toInt (ck (m_read_wide.toInt ≤ 0 ∨ m_read_rows.toInt < m_read_deep.toInt) 6 (ck (p1.toInt = p2.toInt) 5 σ))) m_sort1_21.toInt m_place1_22.toInt m_spot1_20.toInt m_word1_25 m_letters1_23.toInt m_number1_24.toInt i_14.toInt i_15.toInt) := fun hb σ ht hk => k_27_7.go k_27_4 hb (b_16 hb σ ht hk) (fun h0 => by rw [ck_2, ck_2, ht (ck_0 (by decide) (ck_0 (by decide) h0).2).2]; decide)
      exact eV hQ X hr hlocks hP hD hS (m_spot1_20, m_sort1_21, m_place1_22, m_letters1_23, m_number1_24, m_word1_25, i_14, i_15) [1, 0, 2] (by decide) rfl (show (0 ≤ m_spot1_20.toInt ∧ m_spot1_20.toInt ≤ 800) ∧ (jj m_sort1_21.toInt i_14.toInt) ∧ (0 ≤ m_place1_22.toInt ∧ m_place1_22.toInt ≤ 800) ∧ (m_spot.toInt ≤ m_spot1_20.toInt ∧ m_spot1_20.toInt ≤ m_size.toInt) ∧ (ov m_sort.toInt m_sort1_21.toInt) ∧ (sg m_spot.toInt m_sort1_21.toInt m_spot1_20.toInt) ∧ (jj m_sort1_21.toInt i_14.toInt) ∧ (lb m_sort1_21.toInt m_read_wide.toInt m_read_deep.toInt m_read_rows.toInt p1.toInt p2.toInt) ∧ (lbM m_tapef m_size.toInt m_read_wide.toInt m_read_deep.toInt m_read_rows.toInt p1.toInt p2.toInt m_sort.toInt m_place.toInt m_spot.toInt m_word m_letters.toInt m_number.toInt m_fault.toInt m_wrongAt.toInt m_sort1_21.toInt m_place1_22.toInt m_spot1_20.toInt m_word1_25 m_letters1_23.toInt m_number1_24.toInt i_14.toInt i_15.toInt) from ⟨k_27_0, k_27_6, k_27_2, k_27_3, (fun q9 => (k_27_4 (b_17 (b_9 q9)))), k_27_5, k_27_6, (fun q9 => by first | exact absurd (by decide) q9 | (have nv_30 : i_13.toInt ≠ 5 := fun q8 => q9 (k_27_4 q8); have nv_31 : i_5.toInt ≠ 5 := fun q8 => nv_30 (b_17 q8); have nv_32 : m_sort.toInt ≠ 5 := fun q8 => nv_31 (b_9 q8); have nw_33 : ¬ p1.toInt = p2.toInt := b_11 nv_31; have nw_34 : ¬ (m_read_wide.toInt ≤ 0 ∨ m_read_rows.toInt < m_read_deep.toInt) := b_19 nv_30; omega)), (fun hb σ ht hk => lk_29 hb σ ht hk)⟩) (Nat.le_of_ble_eq_true rfl) (Nat.le_of_ble_eq_true rfl) dX13_lineBegins_47
    refine lv_aload_n hx hb dX13_lineBegins_10 rfl (lv_at hl 0 rfl) ?_
    refine r_get X kcX13 (ci := 12) rfl hP 0 rfl 4 (by decide) fX13_154 rfl dX13_lineBegins_11 ?_
    refine r_get X kcX12 (ci := 11) rfl hP 1 rfl 0 (by decide) fX13_158 rfl dX13_lineBegins_14 ?_
    refine lv_if_eq (tgt := 37) hx hb dX13_lineBegins_17 (by decide) (fun h_35 => ?_) (fun h_35 => ?_)
    · have h_35 : m_read_wide.toInt = 0 := c_eq h_35
      refine lv_aload_n hx hb dX13_lineBegins_37 rfl (lv_at hl 0 rfl) ?_
      refine lv_bipush (v := 6) hx hb dX13_lineBegins_38 (by decide) ?_
      refine sl_Vc (rV_V (As := [.int 6]) (rest := []) X hp_st (fun _ _ _ h => h) (gX13_flaw l dC dI cy h0 m_thrown m_trouble m_where m_park (.ref m_read) m_tape m_taped m_size m_spot i_5 m_place m_letters m_number i_6 i_7 m_word m_v m_x m_past m_kept m_acts m_images m_left m_far m_line m_fitsNow m_ditchIn m_treadLeft m_rambledTo m_rambledFalls m_rambledIn 6 hm_taped hm_size hm_spot hm_place hm_acts hm_images b_10 (by first | decide | omega | (have h9_0 : Int32.toInt 6 = 6 := (by decide); omega))) kX13_flaw vX13_flaw mX13_120 hP hD hS hA [0] (by decide) rfl 0 (ci := 12) rfl rfl rfl hl rfl rfl (Nat.le_of_ble_eq_true rfl) dX13_lineBegins_40 ⟨(Nat.le_of_ble_eq_true rfl), (Nat.le_of_ble_eq_true rfl)⟩ ⟨(Nat.le_of_ble_eq_true rfl), (Nat.le_of_ble_eq_true rfl)⟩) hP hD hS hA [0] [false, true, true] rfl rfl rfl (fun u_40 H locs k_39 hP hD hS => ?_)
      obtain ⟨m_fault1_36, m_wrongAt1_37⟩ := u_40
      have k_39 : (1 ≤ m_fault1_36.toInt) ∧ (fR i_5.toInt m_place.toInt i_6.toInt i_7.toInt (6 : Int32).toInt m_fault1_36.toInt m_wrongAt1_37.toInt) := k_39
      have kc_41 : (6 : Int32).toInt = 6 := by decide
      obtain ⟨k_39_0, k_39_1⟩ := k_39
      have hPD := vPD (ws' := [(m_read, .inr (11, [.int m_read_wide, .int m_read_deep, .int m_read_errs, .int m_read_slips, .int m_read_rows, .int m_read_walkers, .int m_read_walks, .int m_read_unsures, .ref m_read_sort, .ref m_read_unsure, .ref m_read_kind, .ref m_read_at, .ref m_read_to, .ref m_read_from, .ref m_read_steps, .ref m_read_fell, .ref m_read_name])), (m_tape, .inl (cy 0, 800, .inl m_tapef)), (h0, .inr (12, [.int m_thrown, .int m_trouble, .int m_where, m_park, .ref m_read, .ref m_tape, .int m_taped, .int m_size, .int m_spot, .int 5, .int m_place, .int m_letters, .int m_number, .int m_fault1_36, .int m_wrongAt1_37, .long m_word, .ref m_v, .ref m_x, .ref m_past, .ref m_kept, .int m_acts, .int m_images, .ref m_left, .ref m_far, .ref m_line, .int m_fitsNow, .ref m_ditchIn, .int m_treadLeft, .int m_rambledTo, .int m_rambledFalls, .int m_rambledIn]))]) hP hD rfl
      have hP := hPD.1
      have hD := hPD.2
      have c_42 : m_read_wide.toInt ≤ 0 ∨ m_read_rows.toInt < m_read_deep.toInt := by omega
      exact jn_12 5 m_fault1_36 m_wrongAt1_37 _ _ _ (show Hid (bys m_tapef → ∀ σ : Int × Int, (σ.1 = 0 → tK m_tapef m_size.toInt σ.2 = 1) → LkM m_tapef m_size.toInt σ m_sort.toInt m_place.toInt m_spot.toInt m_word m_letters.toInt m_number.toInt m_fault.toInt m_wrongAt.toInt → LkM m_tapef m_size.toInt (ck (m_read_wide.toInt ≤ 0 ∨ m_read_rows.toInt < m_read_deep.toInt) 6 (ck (p1.toInt = p2.toInt) 5 σ)) 5 m_place.toInt m_spot.toInt m_word m_letters.toInt m_number.toInt m_fault1_36.toInt m_wrongAt1_37.toInt) from (fun hb σ ht hk => (b_8 hb σ ht hk).cky k_39_1 (by decide) (by decide) (fun _ => c_42) rfl)) (show ov i_5.toInt 5 from (fun _ => rfl)) (show jj 5 m_fault1_36.toInt from (by first | assumption | exact jj_f (by omega))) (show Hid (5 ≠ 5 → ¬ (m_read_wide.toInt ≤ 0 ∨ m_read_rows.toInt < m_read_deep.toInt)) from (fun h9 => absurd rfl h9)) (hP.sub [2, 0, 1] rfl) (hD.sub [2, 0, 1] (by decide) rfl) hS (lv_sub hl [0, 1, 2] rfl)
    · have h_35 : m_read_wide.toInt ≠ 0 := c_ne h_35
      refine lv_aload_n hx hb dX13_lineBegins_20 rfl (lv_at hl 0 rfl) ?_
      refine r_get X kcX13 (ci := 12) rfl hP 0 rfl 4 (by decide) fX13_154 rfl dX13_lineBegins_21 ?_
      refine r_get X kcX12 (ci := 11) rfl hP 1 rfl 4 (by decide) fX13_163 rfl dX13_lineBegins_24 ?_
      refine lv_aload_n hx hb dX13_lineBegins_27 rfl (lv_at hl 0 rfl) ?_
      refine r_get X kcX13 (ci := 12) rfl hP 0 rfl 4 (by decide) fX13_154 rfl dX13_lineBegins_28 ?_
      refine r_get X kcX12 (ci := 11) rfl hP 1 rfl 1 (by decide) fX13_166 rfl dX13_lineBegins_31 ?_
      refine lv_icmp_ge (tgt := 43) hx hb dX13_lineBegins_34 (by decide) (fun h_43 => ?_) (fun h_43 => ?_)
      · have h_43 : m_read_deep.toInt ≤ m_read_rows.toInt := c_le h_43
        have c_44 : ¬ (m_read_wide.toInt ≤ 0 ∨ m_read_rows.toInt < m_read_deep.toInt) := by omega
        exact jn_12 i_5 i_6 i_7 _ _ _ (show Hid (bys m_tapef → ∀ σ : Int × Int, (σ.1 = 0 → tK m_tapef m_size.toInt σ.2 = 1) → LkM m_tapef m_size.toInt σ m_sort.toInt m_place.toInt m_spot.toInt m_word m_letters.toInt m_number.toInt m_fault.toInt m_wrongAt.toInt → LkM m_tapef m_size.toInt (ck (m_read_wide.toInt ≤ 0 ∨ m_read_rows.toInt < m_read_deep.toInt) 6 (ck (p1.toInt = p2.toInt) 5 σ)) i_5.toInt m_place.toInt m_spot.toInt m_word m_letters.toInt m_number.toInt i_6.toInt i_7.toInt) from (fun hb σ ht hk => (b_8 hb σ ht hk).ckn (fun _ => c_44))) (show ov i_5.toInt i_5.toInt from (fun q9 => q9)) b_10 (show Hid (i_5.toInt ≠ 5 → ¬ (m_read_wide.toInt ≤ 0 ∨ m_read_rows.toInt < m_read_deep.toInt)) from (fun _ => by omega)) hP hD hS (lv_sub hl [0, 1, 2] rfl)
      · have h_43 : m_read_rows.toInt < m_read_deep.toInt := c_nle h_43
        refine lv_aload_n hx hb dX13_lineBegins_37 rfl (lv_at hl 0 rfl) ?_
        refine lv_bipush (v := 6) hx hb dX13_lineBegins_38 (by decide) ?_
        refine sl_Vc (rV_V (As := [.int 6]) (rest := []) X hp_st (fun _ _ _ h => h) (gX13_flaw l dC dI cy h0 m_thrown m_trouble m_where m_park (.ref m_read) m_tape m_taped m_size m_spot i_5 m_place m_letters m_number i_6 i_7 m_word m_v m_x m_past m_kept m_acts m_images m_left m_far m_line m_fitsNow m_ditchIn m_treadLeft m_rambledTo m_rambledFalls m_rambledIn 6 hm_taped hm_size hm_spot hm_place hm_acts hm_images b_10 (by first | decide | omega | (have h9_0 : Int32.toInt 6 = 6 := (by decide); omega))) kX13_flaw vX13_flaw mX13_120 hP hD hS hA [0] (by decide) rfl 0 (ci := 12) rfl rfl rfl hl rfl rfl (Nat.le_of_ble_eq_true rfl) dX13_lineBegins_40 ⟨(Nat.le_of_ble_eq_true rfl), (Nat.le_of_ble_eq_true rfl)⟩ ⟨(Nat.le_of_ble_eq_true rfl), (Nat.le_of_ble_eq_true rfl)⟩) hP hD hS hA [0] [false, true, true] rfl rfl rfl (fun u_49 H locs k_48 hP hD hS => ?_)
        obtain ⟨m_fault1_45, m_wrongAt1_46⟩ := u_49
        have k_48 : (1 ≤ m_fault1_45.toInt) ∧ (fR i_5.toInt m_place.toInt i_6.toInt i_7.toInt (6 : Int32).toInt m_fault1_45.toInt m_wrongAt1_46.toInt) := k_48
        have kc_50 : (6 : Int32).toInt = 6 := by decide
        obtain ⟨k_48_0, k_48_1⟩ := k_48
        have hPD := vPD (ws' := [(m_read, .inr (11, [.int m_read_wide, .int m_read_deep, .int m_read_errs, .int m_read_slips, .int m_read_rows, .int m_read_walkers, .int m_read_walks, .int m_read_unsures, .ref m_read_sort, .ref m_read_unsure, .ref m_read_kind, .ref m_read_at, .ref m_read_to, .ref m_read_from, .ref m_read_steps, .ref m_read_fell, .ref m_read_name])), (m_tape, .inl (cy 0, 800, .inl m_tapef)), (h0, .inr (12, [.int m_thrown, .int m_trouble, .int m_where, m_park, .ref m_read, .ref m_tape, .int m_taped, .int m_size, .int m_spot, .int 5, .int m_place, .int m_letters, .int m_number, .int m_fault1_45, .int m_wrongAt1_46, .long m_word, .ref m_v, .ref m_x, .ref m_past, .ref m_kept, .int m_acts, .int m_images, .ref m_left, .ref m_far, .ref m_line, .int m_fitsNow, .ref m_ditchIn, .int m_treadLeft, .int m_rambledTo, .int m_rambledFalls, .int m_rambledIn]))]) hP hD rfl
        have hP := hPD.1
        have hD := hPD.2
        have c_51 : m_read_wide.toInt ≤ 0 ∨ m_read_rows.toInt < m_read_deep.toInt := by omega
        exact jn_12 5 m_fault1_45 m_wrongAt1_46 _ _ _ (show Hid (bys m_tapef → ∀ σ : Int × Int, (σ.1 = 0 → tK m_tapef m_size.toInt σ.2 = 1) → LkM m_tapef m_size.toInt σ m_sort.toInt m_place.toInt m_spot.toInt m_word m_letters.toInt m_number.toInt m_fault.toInt m_wrongAt.toInt → LkM m_tapef m_size.toInt (ck (m_read_wide.toInt ≤ 0 ∨ m_read_rows.toInt < m_read_deep.toInt) 6 (ck (p1.toInt = p2.toInt) 5 σ)) 5 m_place.toInt m_spot.toInt m_word m_letters.toInt m_number.toInt m_fault1_45.toInt m_wrongAt1_46.toInt) from (fun hb σ ht hk => (b_8 hb σ ht hk).cky k_48_1 (by decide) (by decide) (fun _ => c_51) rfl)) (show ov i_5.toInt 5 from (fun _ => rfl)) (show jj 5 m_fault1_45.toInt from (by first | assumption | exact jj_f (by omega))) (show Hid (5 ≠ 5 → ¬ (m_read_wide.toInt ≤ 0 ∨ m_read_rows.toInt < m_read_deep.toInt)) from (fun h9 => absurd rfl h9)) (hP.sub [2, 0, 1] rfl) (hD.sub [2, 0, 1] (by decide) rfl) hS (lv_sub hl [0, 1, 2] rfl)
  refine lv_iload_n hx hb dX13_lineBegins_0 rfl (lv_at hl 1 rfl) ?_
  refine lv_iload_n hx hb dX13_lineBegins_1 rfl (lv_at hl 2 rfl) ?_
  refine lv_icmp_ne (tgt := 10) hx hb dX13_lineBegins_2 (by decide) (fun h_52 => ?_) (fun h_52 => ?_)
  · have h_52 : p1.toInt ≠ p2.toInt := c_ne h_52
    have c_53 : ¬ (p1.toInt = p2.toInt) := by omega
    exact jn_4 m_sort m_fault m_wrongAt _ _ _ (show Hid (bys m_tapef → ∀ σ : Int × Int, (σ.1 = 0 → tK m_tapef m_size.toInt σ.2 = 1) → LkM m_tapef m_size.toInt σ m_sort.toInt m_place.toInt m_spot.toInt m_word m_letters.toInt m_number.toInt m_fault.toInt m_wrongAt.toInt → LkM m_tapef m_size.toInt (ck (p1.toInt = p2.toInt) 5 σ) m_sort.toInt m_place.toInt m_spot.toInt m_word m_letters.toInt m_number.toInt m_fault.toInt m_wrongAt.toInt) from (fun hb σ ht hk => (lk_3 hb σ ht hk).ckn (fun _ => c_53))) (show ov m_sort.toInt m_sort.toInt from (fun q9 => q9)) hjj (show Hid (m_sort.toInt ≠ 5 → ¬ p1.toInt = p2.toInt) from (fun _ => by omega)) hP hD hS (lv_sub hl [0, 1, 2] rfl)
  · have h_52 : p1.toInt = p2.toInt := c_eq h_52
    refine lv_aload_n hx hb dX13_lineBegins_5 rfl (lv_at hl 0 rfl) ?_
    refine lv_iconst (v := 5) hx hb dX13_lineBegins_6 (by decide) ?_
    refine sl_Vc (rV_V (As := [.int 5]) (rest := []) X hp_st (fun _ _ _ h => h) (gX13_flaw l dC dI cy h0 m_thrown m_trouble m_where m_park (.ref m_read) m_tape m_taped m_size m_spot m_sort m_place m_letters m_number m_fault m_wrongAt m_word m_v m_x m_past m_kept m_acts m_images m_left m_far m_line m_fitsNow m_ditchIn m_treadLeft m_rambledTo m_rambledFalls m_rambledIn 5 hm_taped hm_size hm_spot hm_place hm_acts hm_images hjj (by first | decide | omega | (have h9_0 : Int32.toInt 5 = 5 := (by decide); omega))) kX13_flaw vX13_flaw mX13_120 hP hD hS hA [0] (by decide) rfl 0 (ci := 12) rfl rfl rfl hl rfl rfl (Nat.le_of_ble_eq_true rfl) dX13_lineBegins_7 ⟨(Nat.le_of_ble_eq_true rfl), (Nat.le_of_ble_eq_true rfl)⟩ ⟨(Nat.le_of_ble_eq_true rfl), (Nat.le_of_ble_eq_true rfl)⟩) hP hD hS hA [0] [false, true, true] rfl rfl rfl (fun u_58 H locs k_57 hP hD hS => ?_)
    obtain ⟨m_fault1_54, m_wrongAt1_55⟩ := u_58
    have k_57 : (1 ≤ m_fault1_54.toInt) ∧ (fR m_sort.toInt m_place.toInt m_fault.toInt m_wrongAt.toInt (5 : Int32).toInt m_fault1_54.toInt m_wrongAt1_55.toInt) := k_57
    have kc_59 : (5 : Int32).toInt = 5 := by decide
    obtain ⟨k_57_0, k_57_1⟩ := k_57
    have hPD := vPD (ws' := [(m_read, .inr (11, [.int m_read_wide, .int m_read_deep, .int m_read_errs, .int m_read_slips, .int m_read_rows, .int m_read_walkers, .int m_read_walks, .int m_read_unsures, .ref m_read_sort, .ref m_read_unsure, .ref m_read_kind, .ref m_read_at, .ref m_read_to, .ref m_read_from, .ref m_read_steps, .ref m_read_fell, .ref m_read_name])), (m_tape, .inl (cy 0, 800, .inl m_tapef)), (h0, .inr (12, [.int m_thrown, .int m_trouble, .int m_where, m_park, .ref m_read, .ref m_tape, .int m_taped, .int m_size, .int m_spot, .int 5, .int m_place, .int m_letters, .int m_number, .int m_fault1_54, .int m_wrongAt1_55, .long m_word, .ref m_v, .ref m_x, .ref m_past, .ref m_kept, .int m_acts, .int m_images, .ref m_left, .ref m_far, .ref m_line, .int m_fitsNow, .ref m_ditchIn, .int m_treadLeft, .int m_rambledTo, .int m_rambledFalls, .int m_rambledIn]))]) hP hD rfl
    have hP := hPD.1
    have hD := hPD.2
    have c_60 : p1.toInt = p2.toInt := by omega
    exact jn_4 5 m_fault1_54 m_wrongAt1_55 _ _ _ (show Hid (bys m_tapef → ∀ σ : Int × Int, (σ.1 = 0 → tK m_tapef m_size.toInt σ.2 = 1) → LkM m_tapef m_size.toInt σ m_sort.toInt m_place.toInt m_spot.toInt m_word m_letters.toInt m_number.toInt m_fault.toInt m_wrongAt.toInt → LkM m_tapef m_size.toInt (ck (p1.toInt = p2.toInt) 5 σ) 5 m_place.toInt m_spot.toInt m_word m_letters.toInt m_number.toInt m_fault1_54.toInt m_wrongAt1_55.toInt) from (fun hb σ ht hk => (lk_3 hb σ ht hk).cky k_57_1 (by decide) (by decide) (fun _ => c_60) rfl)) (show ov m_sort.toInt 5 from (fun _ => rfl)) (show jj 5 m_fault1_54.toInt from (by first | assumption | exact jj_f (by omega))) (show Hid (5 ≠ 5 → ¬ p1.toInt = p2.toInt) from (fun h9 => absurd rfl h9)) (hP.sub [2, 0, 1] rfl) (hD.sub [2, 0, 1] (by decide) rfl) hS (lv_sub hl [0, 1, 2] rfl)
set_option maxHeartbeats 40000000 in
set_option maxRecDepth 100000 in
theorem gX13_readSpot (l : Launch) (dC : Nat → ClassId) (dI : Nat → Nat → Nat) (cy : Nat → ClassId) (h0 : Nat) (m_thrown : Int32) (m_trouble : Int32) (m_where : Int32) (m_park : Value) (m_read : Nat) (m_tape : Nat) (m_taped : Int32) (m_size : Int32) (m_spot : Int32) (m_sort : Int32) (m_place : Int32) (m_letters : Int32) (m_number : Int32) (m_fault : Int32) (m_wrongAt : Int32) (m_word : Int64) (m_v : Nat) (m_x : Nat) (m_past : Nat) (m_kept : Nat) (m_acts : Int32) (m_images : Int32) (m_left : Nat) (m_far : Nat) (m_line : Nat) (m_fitsNow : Int32) (m_ditchIn : Nat) (m_treadLeft : Int32) (m_rambledTo : Int32) (m_rambledFalls : Int32) (m_rambledIn : Int32) (m_read_wide : Int32) (m_read_deep : Int32) (m_read_errs : Int32) (m_read_slips : Int32) (m_read_rows : Int32) (m_read_walkers : Int32) (m_read_walks : Int32) (m_read_unsures : Int32) (m_read_sort : Nat) (m_read_unsure : Nat) (m_read_kind : Nat) (m_read_at : Nat) (m_read_to : Nat) (m_read_from : Nat) (m_read_steps : Nat) (m_read_fell : Nat) (m_read_name : Nat) (m_read_sortf : Nat → Int32) (m_tapef : Nat → Int32) (hm_taped : 0 ≤ m_taped.toInt ∧ m_taped.toInt ≤ 800) (hm_size : 0 ≤ m_size.toInt ∧ m_size.toInt ≤ 800) (hm_spot : 0 ≤ m_spot.toInt ∧ m_spot.toInt ≤ 800) (hm_place : 0 ≤ m_place.toInt ∧ m_place.toInt ≤ 800) (hm_acts : 0 ≤ m_acts.toInt ∧ m_acts.toInt ≤ 16) (hm_images : 0 ≤ m_images.toInt ∧ m_images.toInt ≤ 3) (hm_read_wide : 0 ≤ m_read_wide.toInt ∧ m_read_wide.toInt ≤ 5) (hm_read_deep : 0 ≤ m_read_deep.toInt ∧ m_read_deep.toInt ≤ 4) (hm_read_rows : 0 ≤ m_read_rows.toInt ∧ m_read_rows.toInt ≤ 4) (hm_read_walkers : 0 ≤ m_read_walkers.toInt ∧ m_read_walkers.toInt ≤ 4) (hm_read_walks : 0 ≤ m_read_walks.toInt ∧ m_read_walks.toInt ≤ 6) (hm_read_unsures : 0 ≤ m_read_unsures.toInt ∧ m_read_unsures.toInt ≤ 5) (hspo : m_spot.toInt ≤ m_size.toInt) (hjj : jj m_sort.toInt m_fault.toInt) (hpi : (m_read_wide.toInt = 0 ∧ m_read_deep.toInt = 0 ∧ m_read_rows.toInt = 0 ∧ m_read_walkers.toInt = 0 ∧ m_read_walks.toInt = 0) ∨ (2 ≤ m_read_wide.toInt ∧ 2 ≤ m_read_deep.toInt ∧ m_read_rows.toInt ≤ m_read_deep.toInt)) : ctI l dC dI cy hp yX13_readSpot cX13_readSpot 4 .int ({ frames := 3, cells := 0, slots := 0, locals := 67 } : Room) [.ref h0] [(h0, .inr (12, [.int m_thrown, .int m_trouble, .int m_where, m_park, .ref m_read, .ref m_tape, .int m_taped, .int m_size, .int m_spot, .int m_sort, .int m_place, .int m_letters, .int m_number, .int m_fault, .int m_wrongAt, .long m_word, .ref m_v, .ref m_x, .ref m_past, .ref m_kept, .int m_acts, .int m_images, .ref m_left, .ref m_far, .ref m_line, .int m_fitsNow, .ref m_ditchIn, .int m_treadLeft, .int m_rambledTo, .int m_rambledFalls, .int m_rambledIn])), (m_read, .inr (11, [.int m_read_wide, .int m_read_deep, .int m_read_errs, .int m_read_slips, .int m_read_rows, .int m_read_walkers, .int m_read_walks, .int m_read_unsures, .ref m_read_sort, .ref m_read_unsure, .ref m_read_kind, .ref m_read_at, .ref m_read_to, .ref m_read_from, .ref m_read_steps, .ref m_read_fell, .ref m_read_name])), (m_read_sort, .inl (cy 1, 20, .inl m_read_sortf)), (m_tape, .inl (cy 0, 800, .inl m_tapef))] (S := Int32 × Int32 × Int32 × Int32 × Int32 × Int64 × Int32 × Int32) (fun r u => (0 ≤ u.1.toInt ∧ u.1.toInt ≤ 800) ∧ (jj u.2.1.toInt u.2.2.2.2.2.2.1.toInt) ∧ (0 ≤ u.2.2.1.toInt ∧ u.2.2.1.toInt ≤ 800) ∧ (m_spot.toInt ≤ u.1.toInt ∧ u.1.toInt ≤ m_size.toInt) ∧ (ov m_sort.toInt u.2.1.toInt) ∧ (sg m_spot.toInt u.2.1.toInt u.1.toInt) ∧ (jj u.2.1.toInt u.2.2.2.2.2.2.1.toInt) ∧ (wh u.2.1.toInt 0 r.toInt (m_read_wide.toInt * m_read_deep.toInt - 1)) ∧ (spM m_tapef m_size.toInt m_read_wide.toInt m_read_deep.toInt m_read_sortf m_sort.toInt m_place.toInt m_spot.toInt m_word m_letters.toInt m_number.toInt m_fault.toInt m_wrongAt.toInt u.2.1.toInt u.2.2.1.toInt u.1.toInt u.2.2.2.2.2.1 u.2.2.2.1.toInt u.2.2.2.2.1.toInt u.2.2.2.2.2.2.1.toInt u.2.2.2.2.2.2.2.toInt r.toInt)) (fun u => [(h0, .inr (12, [.int m_thrown, .int m_trouble, .int m_where, m_park, .ref m_read, .ref m_tape, .int m_taped, .int m_size, .int u.1, .int u.2.1, .int u.2.2.1, .int u.2.2.2.1, .int u.2.2.2.2.1, .int u.2.2.2.2.2.2.1, .int u.2.2.2.2.2.2.2, .long u.2.2.2.2.2.1, .ref m_v, .ref m_x, .ref m_past, .ref m_kept, .int m_acts, .int m_images, .ref m_left, .ref m_far, .ref m_line, .int m_fitsNow, .ref m_ditchIn, .int m_treadLeft, .int m_rambledTo, .int m_rambledFalls, .int m_rambledIn])), (m_read, .inr (11, [.int m_read_wide, .int m_read_deep, .int m_read_errs, .int m_read_slips, .int m_read_rows, .int m_read_walkers, .int m_read_walks, .int m_read_unsures, .ref m_read_sort, .ref m_read_unsure, .ref m_read_kind, .ref m_read_at, .ref m_read_to, .ref m_read_from, .ref m_read_steps, .ref m_read_fell, .ref m_read_name])), (m_read_sort, .inl (cy 1, 20, .inl m_read_sortf)), (m_tape, .inl (cy 0, 800, .inl m_tapef))]) := by
  refine ctI.of (by decide +kernel) (Nat.le_of_ble_eq_true rfl) ?_
  intro p e s m args below meth c A ls Q hQ X hr hlocks hin hA hP hD hS hl
  have hx := X.1
  have hb := X.2.1
  have hK := X.2.2.2.2.2.1
  have hl : lv_has ls 4 [(0, .ref h0)] := hl
  have hpr : 0 ≤ (m_read_wide.toInt * m_read_deep.toInt) ∧ (m_read_wide.toInt * m_read_deep.toInt) ≤ 20 := pl_b0 (by omega) (by omega) (by omega) (by omega)
  have lk_1 : Hid (bys m_tapef → ∀ σ : Int × Int, LkM m_tapef m_size.toInt σ m_sort.toInt m_place.toInt m_spot.toInt m_word m_letters.toInt m_number.toInt m_fault.toInt m_wrongAt.toInt → LkM m_tapef m_size.toInt σ m_sort.toInt m_place.toInt m_spot.toInt m_word m_letters.toInt m_number.toInt m_fault.toInt m_wrongAt.toInt) := fun hb σ hk => hk
  refine lv_aload_n hx hb dX13_readSpot_0 rfl (lv_at hl 0 rfl) ?_
  refine lv_iconst (v := 0) hx hb dX13_readSpot_1 (by decide) ?_
  refine lv_aload_n hx hb dX13_readSpot_2 rfl (lv_at hl 0 rfl) ?_
  refine r_get X kcX13 (ci := 12) rfl hP 0 rfl 4 (by decide) fX13_154 rfl dX13_readSpot_3 ?_
  refine r_get X kcX12 (ci := 11) rfl hP 1 rfl 0 (by decide) fX13_158 rfl dX13_readSpot_6 ?_
  refine lv_iconst (v := 1) hx hb dX13_readSpot_9 (by decide) ?_
  refine lv_isub hx hb dX13_readSpot_10 ?_
  refine lv_topi (fun x_2 ex_2 => ?_)
  have tx_2 : x_2.toInt = m_read_wide.toInt - 1 := ti_sub (A := m_read_wide.toInt) (B := 1) ex_2 rfl rfl (by omega) (by omega)
  refine sl_Ic (rV_I (As := [.int 0, .int x_2]) (rest := []) X hp_st (fun _ _ _ h => h) (gX13_readWhole l dC dI cy h0 m_thrown m_trouble m_where m_park (.ref m_read) m_tape m_taped m_size m_spot m_sort m_place m_letters m_number m_fault m_wrongAt m_word m_v m_x m_past m_kept m_acts m_images m_left m_far m_line m_fitsNow m_ditchIn m_treadLeft m_rambledTo m_rambledFalls m_rambledIn m_tapef 0 x_2 hm_taped hm_size hm_spot hm_place hm_acts hm_images hspo hjj (by first | decide | omega | (have h9_0 : Int32.toInt 0 = 0 := (by decide); omega)) (by first | decide | omega)) kX13_readWhole vX13_readWhole mX13_136 hP hD hS hA [0, 3] (by decide) rfl 0 (ci := 12) rfl rfl rfl hl rfl rfl (Nat.le_of_ble_eq_true rfl) dX13_readSpot_11 ⟨(Nat.le_of_ble_eq_true rfl), (Nat.le_of_ble_eq_true rfl)⟩ ⟨(Nat.le_of_ble_eq_true rfl), (Nat.le_of_ble_eq_true rfl)⟩) hP hD hS hA [0, 3] [false, true, true, false] rfl rfl rfl (fun r_11 u_13 H locs k_12 hP hD hS => ?_)
  obtain ⟨m_spot1_3, m_sort1_4, m_place1_5, m_letters1_6, m_number1_7, m_word1_8, m_fault1_9, m_wrongAt1_10⟩ := u_13
  have k_12 : (0 ≤ r_11.toInt ∧ r_11.toInt ≤ 100) ∧ (0 ≤ m_spot1_3.toInt ∧ m_spot1_3.toInt ≤ 800) ∧ (jj m_sort1_4.toInt m_fault1_9.toInt) ∧ (0 ≤ m_place1_5.toInt ∧ m_place1_5.toInt ≤ 800) ∧ (m_spot.toInt ≤ m_spot1_3.toInt ∧ m_spot1_3.toInt ≤ m_size.toInt) ∧ (ov m_sort.toInt m_sort1_4.toInt) ∧ (sg m_spot.toInt m_sort1_4.toInt m_spot1_3.toInt) ∧ (jj m_sort1_4.toInt m_fault1_9.toInt) ∧ (wh m_sort1_4.toInt (0 : Int32).toInt r_11.toInt x_2.toInt) ∧ ((0 : Int32).toInt ≤ r_11.toInt) ∧ (rwM m_tapef m_size.toInt (0 : Int32).toInt x_2.toInt m_sort.toInt m_place.toInt m_spot.toInt m_word m_letters.toInt m_number.toInt m_fault.toInt m_wrongAt.toInt m_sort1_4.toInt m_place1_5.toInt m_spot1_3.toInt m_word1_8 m_letters1_6.toInt m_number1_7.toInt m_fault1_9.toInt m_wrongAt1_10.toInt r_11.toInt) := k_12
  have kc_14 : (0 : Int32).toInt = 0 := by decide
  obtain ⟨k_12_0, k_12_1, k_12_2, k_12_3, k_12_4, k_12_5, k_12_6, k_12_7, k_12_8, k_12_9, k_12_10⟩ := k_12
  have hPD := vPD (ws' := [(m_read, .inr (11, [.int m_read_wide, .int m_read_deep, .int m_read_errs, .int m_read_slips, .int m_read_rows, .int m_read_walkers, .int m_read_walks, .int m_read_unsures, .ref m_read_sort, .ref m_read_unsure, .ref m_read_kind, .ref m_read_at, .ref m_read_to, .ref m_read_from, .ref m_read_steps, .ref m_read_fell, .ref m_read_name])), (m_read_sort, .inl (cy 1, 20, .inl m_read_sortf)), (h0, .inr (12, [.int m_thrown, .int m_trouble, .int m_where, m_park, .ref m_read, .ref m_tape, .int m_taped, .int m_size, .int m_spot1_3, .int m_sort1_4, .int m_place1_5, .int m_letters1_6, .int m_number1_7, .int m_fault1_9, .int m_wrongAt1_10, .long m_word1_8, .ref m_v, .ref m_x, .ref m_past, .ref m_kept, .int m_acts, .int m_images, .ref m_left, .ref m_far, .ref m_line, .int m_fitsNow, .ref m_ditchIn, .int m_treadLeft, .int m_rambledTo, .int m_rambledFalls, .int m_rambledIn])), (m_tape, .inl (cy 0, 800, .inl m_tapef))]) hP hD rfl
  have hP := hPD.1
  have hD := hPD.2
  have c_15 : x_2.toInt = (m_read_wide.toInt - 1) := by omega
  have vl_16 : Hid (bys m_tapef → ∀ σ : Int × Int, LkM m_tapef m_size.toInt σ m_sort.toInt m_place.toInt m_spot.toInt m_word m_letters.toInt m_number.toInt m_fault.toInt m_wrongAt.toInt → (((rW m_tapef m_size.toInt 0 (m_read_wide.toInt - 1) σ)).1 = 0 → r_11.toInt = tN m_tapef m_size.toInt (σ).2)) := fun hb σ hk => by have h7 := (k_12_10 hb _ (lk_1 hb σ hk)).2; rw [show (0 : Int32).toInt = 0 by decide, c_15] at h7; exact h7
  have lk_17 : Hid (bys m_tapef → ∀ σ : Int × Int, LkM m_tapef m_size.toInt σ m_sort.toInt m_place.toInt m_spot.toInt m_word m_letters.toInt m_number.toInt m_fault.toInt m_wrongAt.toInt → LkM m_tapef m_size.toInt (rW m_tapef m_size.toInt 0 (m_read_wide.toInt - 1) σ) m_sort1_4.toInt m_place1_5.toInt m_spot1_3.toInt m_word1_8 m_letters1_6.toInt m_number1_7.toInt m_fault1_9.toInt m_wrongAt1_10.toInt) := fun hb σ hk => by have h7 := (k_12_10 hb _ (lk_1 hb σ hk)).1; rw [show (0 : Int32).toInt = 0 by decide, c_15] at h7; exact h7
  refine lv_istore_n (lv' := [(1, .int r_11), (0, .ref h0)]) hx hb dX13_readSpot_14 rfl hl (by decide) rfl (fun ls hl => ?_)
  refine lv_aload_n hx hb dX13_readSpot_15 rfl (lv_at hl 1 rfl) ?_
  refine lv_iconst (v := 0) hx hb dX13_readSpot_16 (by decide) ?_
  refine lv_aload_n hx hb dX13_readSpot_17 rfl (lv_at hl 1 rfl) ?_
  refine r_get X kcX13 (ci := 12) rfl hP 2 rfl 4 (by decide) fX13_154 rfl dX13_readSpot_18 ?_
  refine r_get X kcX12 (ci := 11) rfl hP 0 rfl 1 (by decide) fX13_166 rfl dX13_readSpot_21 ?_
  refine lv_iconst (v := 1) hx hb dX13_readSpot_24 (by decide) ?_
  refine lv_isub hx hb dX13_readSpot_25 ?_
  refine lv_topi (fun x_18 ex_18 => ?_)
  have tx_18 : x_18.toInt = m_read_deep.toInt - 1 := ti_sub (A := m_read_deep.toInt) (B := 1) ex_18 rfl rfl (by omega) (by omega)
  refine sl_Ic (rV_I (As := [.int 0, .int x_18]) (rest := []) X hp_st (fun _ _ _ h => h) (gX13_wholeAt l dC dI cy h0 m_thrown m_trouble m_where m_park (.ref m_read) m_tape m_taped m_size m_spot1_3 m_sort1_4 m_place1_5 m_letters1_6 m_number1_7 m_fault1_9 m_wrongAt1_10 m_word1_8 m_v m_x m_past m_kept m_acts m_images m_left m_far m_line m_fitsNow m_ditchIn m_treadLeft m_rambledTo m_rambledFalls m_rambledIn m_tapef 0 x_18 hm_taped hm_size k_12_1 k_12_3 hm_acts hm_images (by omega) k_12_7 (by first | decide | omega | (have h9_0 : Int32.toInt 0 = 0 := (by decide); omega)) (by first | decide | omega)) kX13_wholeAt vX13_wholeAt mX13_128 hP hD hS hA [2, 3] (by decide) rfl 0 (ci := 12) rfl rfl rfl hl rfl rfl (Nat.le_of_ble_eq_true rfl) dX13_readSpot_26 ⟨(Nat.le_of_ble_eq_true rfl), (Nat.le_of_ble_eq_true rfl)⟩ ⟨(Nat.le_of_ble_eq_true rfl), (Nat.le_of_ble_eq_true rfl)⟩) hP hD hS hA [2, 3] [true, true, false, false] rfl rfl rfl (fun r_22 u_24 H locs k_23 hP hD hS => ?_)
  obtain ⟨m_sort1_19, m_fault1_20, m_wrongAt1_21⟩ := u_24
  have k_23 : (0 ≤ r_22.toInt ∧ r_22.toInt ≤ 100) ∧ (jj m_sort1_19.toInt m_fault1_20.toInt) ∧ (ov m_sort1_4.toInt m_sort1_19.toInt) ∧ (jj m_sort1_19.toInt m_fault1_20.toInt) ∧ (wh m_sort1_19.toInt (0 : Int32).toInt r_22.toInt x_18.toInt) ∧ ((0 : Int32).toInt ≤ r_22.toInt) ∧ (waM m_tapef m_size.toInt (0 : Int32).toInt x_18.toInt m_sort1_4.toInt m_place1_5.toInt m_spot1_3.toInt m_word1_8 m_letters1_6.toInt m_number1_7.toInt m_fault1_9.toInt m_wrongAt1_10.toInt m_sort1_19.toInt m_place1_5.toInt m_spot1_3.toInt m_word1_8 m_letters1_6.toInt m_number1_7.toInt m_fault1_20.toInt m_wrongAt1_21.toInt r_22.toInt) := k_23
  have kc_25 : (0 : Int32).toInt = 0 := by decide
  obtain ⟨k_23_0, k_23_1, k_23_2, k_23_3, k_23_4, k_23_5, k_23_6⟩ := k_23
  have hPD := vPD (ws' := [(m_read, .inr (11, [.int m_read_wide, .int m_read_deep, .int m_read_errs, .int m_read_slips, .int m_read_rows, .int m_read_walkers, .int m_read_walks, .int m_read_unsures, .ref m_read_sort, .ref m_read_unsure, .ref m_read_kind, .ref m_read_at, .ref m_read_to, .ref m_read_from, .ref m_read_steps, .ref m_read_fell, .ref m_read_name])), (m_read_sort, .inl (cy 1, 20, .inl m_read_sortf)), (h0, .inr (12, [.int m_thrown, .int m_trouble, .int m_where, m_park, .ref m_read, .ref m_tape, .int m_taped, .int m_size, .int m_spot1_3, .int m_sort1_19, .int m_place1_5, .int m_letters1_6, .int m_number1_7, .int m_fault1_20, .int m_wrongAt1_21, .long m_word1_8, .ref m_v, .ref m_x, .ref m_past, .ref m_kept, .int m_acts, .int m_images, .ref m_left, .ref m_far, .ref m_line, .int m_fitsNow, .ref m_ditchIn, .int m_treadLeft, .int m_rambledTo, .int m_rambledFalls, .int m_rambledIn])), (m_tape, .inl (cy 0, 800, .inl m_tapef))]) hP hD rfl
  have hP := hPD.1
  have hD := hPD.2
  have c_26 : x_18.toInt = (m_read_deep.toInt - 1) := by omega
  have vl_27 : Hid (bys m_tapef → ∀ σ : Int × Int, LkM m_tapef m_size.toInt σ m_sort.toInt m_place.toInt m_spot.toInt m_word m_letters.toInt m_number.toInt m_fault.toInt m_wrongAt.toInt → (((wa m_tapef m_size.toInt 0 (m_read_deep.toInt - 1) (rW m_tapef m_size.toInt 0 (m_read_wide.toInt - 1) σ))).1 = 0 → r_22.toInt = tN m_tapef m_size.toInt ((rW m_tapef m_size.toInt 0 (m_read_wide.toInt - 1) σ)).2)) := fun hb σ hk => by have h7 := (k_23_6 _ (lk_17 hb σ hk)).2; rw [show (0 : Int32).toInt = 0 by decide, c_26] at h7; exact h7
  have lk_28 : Hid (bys m_tapef → ∀ σ : Int × Int, LkM m_tapef m_size.toInt σ m_sort.toInt m_place.toInt m_spot.toInt m_word m_letters.toInt m_number.toInt m_fault.toInt m_wrongAt.toInt → LkM m_tapef m_size.toInt (wa m_tapef m_size.toInt 0 (m_read_deep.toInt - 1) (rW m_tapef m_size.toInt 0 (m_read_wide.toInt - 1) σ)) m_sort1_19.toInt m_place1_5.toInt m_spot1_3.toInt m_word1_8 m_letters1_6.toInt m_number1_7.toInt m_fault1_20.toInt m_wrongAt1_21.toInt) := fun hb σ hk => by have h7 := (k_23_6 _ (lk_17 hb σ hk)).1; rw [show (0 : Int32).toInt = 0 by decide, c_26] at h7; exact h7
  refine lv_istore_n (lv' := [(2, .int r_22), (1, .int r_11), (0, .ref h0)]) hx hb dX13_readSpot_29 rfl hl (by decide) rfl (fun ls hl => ?_)
  have hcl : r_22.toInt ≤ m_read_deep.toInt - 1 → r_11.toInt ≤ m_read_wide.toInt - 1 → m_read_wide.toInt * r_22.toInt + r_11.toInt < (m_read_wide.toInt * m_read_deep.toInt) := fun h8 h9 => cell_lt (by omega) h8 h9
  refine lv_aload_n hx hb dX13_readSpot_30 rfl (lv_at hl 2 rfl) ?_
  refine r_get X kcX13 (ci := 12) rfl hP 2 rfl 4 (by decide) fX13_154 rfl dX13_readSpot_31 ?_
  refine r_get X kcX12 (ci := 11) rfl hP 0 rfl 0 (by decide) fX13_158 rfl dX13_readSpot_34 ?_
  refine lv_iload_n hx hb dX13_readSpot_37 rfl (lv_at hl 0 rfl) ?_
  refine lv_imul hx hb dX13_readSpot_38 ?_
  refine lv_topi (fun x_29 ex_29 => ?_)
  have tx_29 : x_29.toInt = m_read_wide.toInt * r_22.toInt ∧ 0 ≤ m_read_wide.toInt * r_22.toInt ∧ m_read_wide.toInt * r_22.toInt ≤ 500 := ti_mulq (A := 5) (B := 100) ex_29 (by omega) (by omega) (by omega) (by omega) (by decide)
  refine lv_iload_n hx hb dX13_readSpot_39 rfl (lv_at hl 1 rfl) ?_
  refine lv_iadd hx hb dX13_readSpot_40 ?_
  refine lv_topi (fun x_30 ex_30 => ?_)
  have tx_30 : x_30.toInt = x_29.toInt + r_11.toInt := ti_add (A := x_29.toInt) (B := r_11.toInt) ex_30 rfl rfl (by omega) (by omega)
  refine lv_istore_n (lv' := [(3, .int x_30), (2, .int r_22), (1, .int r_11), (0, .ref h0)]) hx hb dX13_readSpot_41 rfl hl (by decide) rfl (fun ls hl => ?_)
  have jn_31 : ∀ (i_32 : Int32) (i_33 : Int32) (i_34 : Int32) (H : Heap) (locs : List Loc) (ls : Array Slot), (Hid (bys m_tapef → ∀ σ : Int × Int, LkM m_tapef m_size.toInt σ m_sort.toInt m_place.toInt m_spot.toInt m_word m_letters.toInt m_number.toInt m_fault.toInt m_wrongAt.toInt → LkM m_tapef m_size.toInt (ck ((0 : Int) = 0 ∧ (m_read_sortf (sC m_tapef m_size.toInt m_read_wide.toInt σ).toNat).toInt = 3) 7 (wa m_tapef m_size.toInt 0 (m_read_deep.toInt - 1) (rW m_tapef m_size.toInt 0 (m_read_wide.toInt - 1) σ))) i_32.toInt m_place1_5.toInt m_spot1_3.toInt m_word1_8 m_letters1_6.toInt m_number1_7.toInt i_33.toInt i_34.toInt)) → (ov m_sort1_19.toInt i_32.toInt) → (jj i_32.toInt i_33.toInt) → va_P (dC, dI) vwCl [(m_read, .inr (11, [.int m_read_wide, .int m_read_deep, .int m_read_errs, .int m_read_slips, .int m_read_rows, .int m_read_walkers, .int m_read_walks, .int m_read_unsures, .ref m_read_sort, .ref m_read_unsure, .ref m_read_kind, .ref m_read_at, .ref m_read_to, .ref m_read_from, .ref m_read_steps, .ref m_read_fell, .ref m_read_name])), (m_read_sort, .inl (cy 1, 20, .inl m_read_sortf)), (h0, .inr (12, [.int m_thrown, .int m_trouble, .int m_where, m_park, .ref m_read, .ref m_tape, .int m_taped, .int m_size, .int m_spot1_3, .int i_32, .int m_place1_5, .int m_letters1_6, .int m_number1_7, .int i_33, .int i_34, .long m_word1_8, .ref m_v, .ref m_x, .ref m_past, .ref m_kept, .int m_acts, .int m_images, .ref m_left, .ref m_far, .ref m_line, .int m_fitsNow, .ref m_ditchIn, .int m_treadLeft, .int m_rambledTo, .int m_rambledFalls, .int m_rambledIn])), (m_tape, .inl (cy 0, 800, .inl m_tapef))] H → va_D A [(m_read, .inr (11, [.int m_read_wide, .int m_read_deep, .int m_read_errs, .int m_read_slips, .int m_read_rows, .int m_read_walkers, .int m_read_walks, .int m_read_unsures, .ref m_read_sort, .ref m_read_unsure, .ref m_read_kind, .ref m_read_at, .ref m_read_to, .ref m_read_from, .ref m_read_steps, .ref m_read_fell, .ref m_read_name])), (m_read_sort, .inl (cy 1, 20, .inl m_read_sortf)), (h0, .inr (12, [.int m_thrown, .int m_trouble, .int m_where, m_park, .ref m_read, .ref m_tape, .int m_taped, .int m_size, .int m_spot1_3, .int i_32, .int m_place1_5, .int m_letters1_6, .int m_number1_7, .int i_33, .int i_34, .long m_word1_8, .ref m_v, .ref m_x, .ref m_past, .ref m_kept, .int m_acts, .int m_images, .ref m_left, .ref m_far, .ref m_line, .int m_fitsNow, .ref m_ditchIn, .int m_treadLeft, .int m_rambledTo, .int m_rambledFalls, .int m_rambledIn])), (m_tape, .inl (cy 0, 800, .inl m_tapef))] → va_S A s.heap H locs → lv_has ls 4 [(3, .int x_30), (2, .int r_22), (1, .int r_11), (0, .ref h0)] → W p l e ({ frames := 3, cells := 0, slots := 0, locals := 67 } : Room) s m args below meth c H locs 0 0 Q (F0 m 69 ls []) := by
    intro i_32 i_33 i_34 H locs ls b_35 b_36 b_37 hP hD hS hl
    refine lv_aload_n hx hb dX13_readSpot_69 rfl (lv_at hl 3 rfl) ?_
    refine sl_Vc (rV_V (As := []) (rest := []) X hp_st (fun _ _ _ h => h) (gX13_goesOn l dC dI cy h0 m_thrown m_trouble m_where m_park (.ref m_read) m_tape m_taped m_size m_spot1_3 i_32 m_place1_5 m_letters1_6 m_number1_7 i_33 i_34 m_word1_8 m_v m_x m_past m_kept m_acts m_images m_left m_far m_line m_fitsNow m_ditchIn m_treadLeft m_rambledTo m_rambledFalls m_rambledIn m_tapef hm_taped hm_size k_12_1 k_12_3 hm_acts hm_images (by omega) b_37) kX13_goesOn vX13_goesOn mX13_113 hP hD hS hA [2, 3] (by decide) rfl 0 (ci := 12) rfl rfl rfl hl rfl rfl (Nat.le_of_ble_eq_true rfl) dX13_readSpot_70 ⟨(Nat.le_of_ble_eq_true rfl), (Nat.le_of_ble_eq_true rfl)⟩ ⟨(Nat.le_of_ble_eq_true rfl), (Nat.le_of_ble_eq_true rfl)⟩) hP hD hS hA [2, 3] [true, true, false, false] rfl rfl rfl (fun u_46 H locs k_45 hP hD hS => ?_)
    obtain ⟨m_spot1_38, m_sort1_39, m_place1_40, m_letters1_41, m_number1_42, m_word1_43⟩ := u_46
    have k_45 : (0 ≤ m_spot1_38.toInt ∧ m_spot1_38.toInt ≤ 800) ∧ (jj m_sort1_39.toInt i_33.toInt) ∧ (0 ≤ m_place1_40.toInt ∧ m_place1_40.toInt ≤ 800) ∧ (m_spot1_3.toInt ≤ m_spot1_38.toInt ∧ m_spot1_38.toInt ≤ m_size.toInt) ∧ (ov i_32.toInt m_sort1_39.toInt) ∧ (sg m_spot1_3.toInt m_sort1_39.toInt m_spot1_38.toInt) ∧ (jj m_sort1_39.toInt i_33.toInt) ∧ (gR m_tapef m_size.toInt i_32.toInt m_spot1_3.toInt i_33.toInt i_34.toInt m_sort1_39.toInt m_place1_40.toInt m_spot1_38.toInt m_word1_43 m_letters1_41.toInt m_number1_42.toInt) := k_45
    obtain ⟨k_45_0, k_45_1, k_45_2, k_45_3, k_45_4, k_45_5, k_45_6, k_45_7⟩ := k_45
    have hPD := vPD (ws' := [(m_read, .inr (11, [.int m_read_wide, .int m_read_deep, .int m_read_errs, .int m_read_slips, .int m_read_rows, .int m_read_walkers, .int m_read_walks, .int m_read_unsures, .ref m_read_sort, .ref m_read_unsure, .ref m_read_kind, .ref m_read_at, .ref m_read_to, .ref m_read_from, .ref m_read_steps, .ref m_read_fell, .ref m_read_name])), (m_read_sort, .inl (cy 1, 20, .inl m_read_sortf)), (h0, .inr (12, [.int m_thrown, .int m_trouble, .int m_where, m_park, .ref m_read, .ref m_tape, .int m_taped, .int m_size, .int m_spot1_38, .int m_sort1_39, .int m_place1_40, .int m_letters1_41, .int m_number1_42, .int i_33, .int i_34, .long m_word1_43, .ref m_v, .ref m_x, .ref m_past, .ref m_kept, .int m_acts, .int m_images, .ref m_left, .ref m_far, .ref m_line, .int m_fitsNow, .ref m_ditchIn, .int m_treadLeft, .int m_rambledTo, .int m_rambledFalls, .int m_rambledIn])), (m_tape, .inl (cy 0, 800, .inl m_tapef))]) hP hD rfl
    have hP := hPD.1
    have hD := hPD.2
    have lk_47 : Hid (bys m_tapef → ∀ σ : Int × Int, LkM m_tapef m_size.toInt σ m_sort.toInt m_place.toInt m_spot.toInt m_word m_letters.toInt m_number.toInt m_fault.toInt m_wrongAt.toInt → LkM m_tapef m_size.toInt (go m_tapef m_size.toInt (ck ((0 : Int) = 0 ∧ (m_read_sortf (sC m_tapef m_size.toInt m_read_wide.toInt σ).toNat).toInt = 3) 7 (wa m_tapef m_size.toInt 0 (m_read_deep.toInt - 1) (rW m_tapef m_size.toInt 0 (m_read_wide.toInt - 1) σ)))) m_sort1_39.toInt m_place1_40.toInt m_spot1_38.toInt m_word1_43 m_letters1_41.toInt m_number1_42.toInt i_33.toInt i_34.toInt) := fun hb σ hk => k_45_7.go k_45_4 hb (b_35 hb σ hk) (fun h0 => by rw [ck_2, (wa_0 (ck_0 (by decide) h0).2).2.1, (wa_0 (ck_0 (by decide) h0).2).2.2.1]; decide)
    refine lv_iload_n hx hb dX13_readSpot_73 rfl (lv_at hl 0 rfl) ?_
    have c_54 : x_29.toInt = m_read_wide.toInt * r_22.toInt := by omega
    have c_55 : x_30.toInt = x_29.toInt + r_11.toInt := by omega
    exact eI hQ X hr hlocks hP hD hS (m_spot1_38, m_sort1_39, m_place1_40, m_letters1_41, m_number1_42, m_word1_43, i_33, i_34) [2, 0, 1, 3] (by decide) rfl rfl (show (0 ≤ m_spot1_38.toInt ∧ m_spot1_38.toInt ≤ 800) ∧ (jj m_sort1_39.toInt i_33.toInt) ∧ (0 ≤ m_place1_40.toInt ∧ m_place1_40.toInt ≤ 800) ∧ (m_spot.toInt ≤ m_spot1_38.toInt ∧ m_spot1_38.toInt ≤ m_size.toInt) ∧ (ov m_sort.toInt m_sort1_39.toInt) ∧ (sg m_spot.toInt m_sort1_39.toInt m_spot1_38.toInt) ∧ (jj m_sort1_39.toInt i_33.toInt) ∧ (wh m_sort1_39.toInt 0 x_30.toInt (m_read_wide.toInt * m_read_deep.toInt - 1)) ∧ (spM m_tapef m_size.toInt m_read_wide.toInt m_read_deep.toInt m_read_sortf m_sort.toInt m_place.toInt m_spot.toInt m_word m_letters.toInt m_number.toInt m_fault.toInt m_wrongAt.toInt m_sort1_39.toInt m_place1_40.toInt m_spot1_38.toInt m_word1_43 m_letters1_41.toInt m_number1_42.toInt i_33.toInt i_34.toInt x_30.toInt) from ⟨k_45_0, k_45_6, k_45_2, (by omega), (fun q9 => (k_45_4 (b_36 (k_23_2 (k_12_5 q9))))), (fun q9 => by first | exact absurd q9 (by decide) | (have h8 := k_45_5 q9; omega) | omega), k_45_6, (fun q9 => by first | exact absurd (by decide) q9 | (have nv_48 : i_32.toInt ≠ 5 := fun q8 => q9 (k_45_4 q8); have nv_49 : m_sort1_19.toInt ≠ 5 := fun q8 => nv_48 (b_36 q8); have nv_50 : m_sort1_4.toInt ≠ 5 := fun q8 => nv_49 (k_23_2 q8); have nw_51 : (0 : Int32).toInt ≤ r_22.toInt ∧ r_22.toInt ≤ x_18.toInt := k_23_4 nv_49; have nv_52 : m_sort.toInt ≠ 5 := fun q8 => nv_50 (k_12_5 q8); have nw_53 : (0 : Int32).toInt ≤ r_11.toInt ∧ r_11.toInt ≤ x_2.toInt := k_12_8 nv_50; omega)), (fun hb σ hk => ⟨by rw [rPl_ck]; exact lk_47 hb σ hk, fun h0 => ((sC_eq (c := r_11.toInt) (r := r_22.toInt) (p := x_29.toInt) (ck_0 (by decide) (go_0 (show (go m_tapef m_size.toInt (ck ((0 : Int) = 0 ∧ (m_read_sortf (sC m_tapef m_size.toInt m_read_wide.toInt σ).toNat).toInt = 3) 7 (wa m_tapef m_size.toInt 0 (m_read_deep.toInt - 1) (rW m_tapef m_size.toInt 0 (m_read_wide.toInt - 1) σ)))).1 = 0 by rw [← rPl_ck]; exact h0))).2 (vl_16 hb σ hk) (vl_27 hb σ hk) c_54 c_55)).symm⟩)⟩) (Nat.le_of_ble_eq_true rfl) (Nat.le_of_ble_eq_true rfl) dX13_readSpot_74
  refine lv_aload_n hx hb dX13_readSpot_42 rfl (lv_at hl 3 rfl) ?_
  refine r_get X kcX13 (ci := 12) rfl hP 2 rfl 9 (by decide) fX13_74 rfl dX13_readSpot_43 ?_
  refine lv_iconst (v := 5) hx hb dX13_readSpot_46 (by decide) ?_
  refine lv_icmp_eq (tgt := 69) hx hb dX13_readSpot_47 (by decide) (fun h_56 => ?_) (fun h_56 => ?_)
  · have h_56 : m_sort1_19.toInt = 5 := c_eq h_56
    have c_61 : m_sort1_19.toInt = 5 := by omega
    exact jn_31 m_sort1_19 m_fault1_20 m_wrongAt1_21 _ _ _ (show Hid (bys m_tapef → ∀ σ : Int × Int, LkM m_tapef m_size.toInt σ m_sort.toInt m_place.toInt m_spot.toInt m_word m_letters.toInt m_number.toInt m_fault.toInt m_wrongAt.toInt → LkM m_tapef m_size.toInt (ck ((0 : Int) = 0 ∧ (m_read_sortf (sC m_tapef m_size.toInt m_read_wide.toInt σ).toNat).toInt = 3) 7 (wa m_tapef m_size.toInt 0 (m_read_deep.toInt - 1) (rW m_tapef m_size.toInt 0 (m_read_wide.toInt - 1) σ))) m_sort1_19.toInt m_place1_5.toInt m_spot1_3.toInt m_word1_8 m_letters1_6.toInt m_number1_7.toInt m_fault1_20.toInt m_wrongAt1_21.toInt) from (fun hb σ hk => (lk_28 hb σ hk).ckn (fun h0 => absurd h0 ((lk_28 hb σ hk).ne c_61)))) (show ov m_sort1_19.toInt m_sort1_19.toInt from (fun q9 => q9)) k_23_3 hP hD hS (lv_sub hl [0, 1, 2, 3] rfl)
  · have h_56 : m_sort1_19.toInt ≠ 5 := c_ne h_56
    have nv_57 : m_sort1_4.toInt ≠ 5 := fun q8 => h_56 (k_23_2 q8)
    have nw_58 : (0 : Int32).toInt ≤ r_22.toInt ∧ r_22.toInt ≤ x_18.toInt := k_23_4 h_56
    have nv_59 : m_sort.toInt ≠ 5 := fun q8 => nv_57 (k_12_5 q8)
    have nw_60 : (0 : Int32).toInt ≤ r_11.toInt ∧ r_11.toInt ≤ x_2.toInt := k_12_8 nv_57
    refine lv_aload_n hx hb dX13_readSpot_50 rfl (lv_at hl 3 rfl) ?_
    refine r_get X kcX13 (ci := 12) rfl hP 2 rfl 4 (by decide) fX13_154 rfl dX13_readSpot_51 ?_
    refine r_get X kcX12 (ci := 11) rfl hP 0 rfl 8 (by decide) fX13_201 rfl dX13_readSpot_54 ?_
    refine lv_iload_n hx hb dX13_readSpot_57 rfl (lv_at hl 0 rfl) ?_
    refine va_iald (D := (dC, dI)) (cl := vwCl) hx hb hK hP 1 1 rfl rfl (i := x_30) (vin (by omega) (by omega)) dX13_readSpot_58 ?_
    refine lv_topi (fun x_62 ex_62 => ?_)
    refine lv_iconst (v := 3) hx hb dX13_readSpot_59 (by decide) ?_
    refine lv_icmp_ne (tgt := 69) hx hb dX13_readSpot_60 (by decide) (fun h_63 => ?_) (fun h_63 => ?_)
    · have h_63 : x_62.toInt ≠ 3 := c_ne h_63
      have c_64 : x_29.toInt = m_read_wide.toInt * r_22.toInt := by omega
      have c_65 : x_30.toInt = x_29.toInt + r_11.toInt := by omega
      have c_66 : ¬ x_62.toInt = 3 := by omega
      exact jn_31 m_sort1_19 m_fault1_20 m_wrongAt1_21 _ _ _ (show Hid (bys m_tapef → ∀ σ : Int × Int, LkM m_tapef m_size.toInt σ m_sort.toInt m_place.toInt m_spot.toInt m_word m_letters.toInt m_number.toInt m_fault.toInt m_wrongAt.toInt → LkM m_tapef m_size.toInt (ck ((0 : Int) = 0 ∧ (m_read_sortf (sC m_tapef m_size.toInt m_read_wide.toInt σ).toNat).toInt = 3) 7 (wa m_tapef m_size.toInt 0 (m_read_deep.toInt - 1) (rW m_tapef m_size.toInt 0 (m_read_wide.toInt - 1) σ))) m_sort1_19.toInt m_place1_5.toInt m_spot1_3.toInt m_word1_8 m_letters1_6.toInt m_number1_7.toInt m_fault1_20.toInt m_wrongAt1_21.toInt) from (fun hb σ hk => (lk_28 hb σ hk).ckn (fun h0 => hd_n (sC_eq (c := r_11.toInt) (r := r_22.toInt) (p := x_29.toInt) h0 (vl_16 hb σ hk) (vl_27 hb σ hk) c_64 c_65) ex_62 c_66))) (show ov m_sort1_19.toInt m_sort1_19.toInt from (fun q9 => q9)) k_23_3 hP hD hS (lv_sub hl [0, 1, 2, 3] rfl)
    · have h_63 : x_62.toInt = 3 := c_eq h_63
      refine lv_aload_n hx hb dX13_readSpot_63 rfl (lv_at hl 3 rfl) ?_
      refine lv_bipush (v := 7) hx hb dX13_readSpot_64 (by decide) ?_
      refine sl_Vc (rV_V (As := [.int 7]) (rest := []) X hp_st (fun _ _ _ h => h) (gX13_flaw l dC dI cy h0 m_thrown m_trouble m_where m_park (.ref m_read) m_tape m_taped m_size m_spot1_3 m_sort1_19 m_place1_5 m_letters1_6 m_number1_7 m_fault1_20 m_wrongAt1_21 m_word1_8 m_v m_x m_past m_kept m_acts m_images m_left m_far m_line m_fitsNow m_ditchIn m_treadLeft m_rambledTo m_rambledFalls m_rambledIn 7 hm_taped hm_size k_12_1 k_12_3 hm_acts hm_images k_23_3 (by first | decide | omega | (have h9_0 : Int32.toInt 7 = 7 := (by decide); omega))) kX13_flaw vX13_flaw mX13_120 hP hD hS hA [2] (by decide) rfl 0 (ci := 12) rfl rfl rfl hl rfl rfl (Nat.le_of_ble_eq_true rfl) dX13_readSpot_66 ⟨(Nat.le_of_ble_eq_true rfl), (Nat.le_of_ble_eq_true rfl)⟩ ⟨(Nat.le_of_ble_eq_true rfl), (Nat.le_of_ble_eq_true rfl)⟩) hP hD hS hA [2] [true, true, false, true] rfl rfl rfl (fun u_71 H locs k_70 hP hD hS => ?_)
      obtain ⟨m_fault1_67, m_wrongAt1_68⟩ := u_71
      have k_70 : (1 ≤ m_fault1_67.toInt) ∧ (fR m_sort1_19.toInt m_place1_5.toInt m_fault1_20.toInt m_wrongAt1_21.toInt (7 : Int32).toInt m_fault1_67.toInt m_wrongAt1_68.toInt) := k_70
      have kc_72 : (7 : Int32).toInt = 7 := by decide
      obtain ⟨k_70_0, k_70_1⟩ := k_70
      have hPD := vPD (ws' := [(m_read, .inr (11, [.int m_read_wide, .int m_read_deep, .int m_read_errs, .int m_read_slips, .int m_read_rows, .int m_read_walkers, .int m_read_walks, .int m_read_unsures, .ref m_read_sort, .ref m_read_unsure, .ref m_read_kind, .ref m_read_at, .ref m_read_to, .ref m_read_from, .ref m_read_steps, .ref m_read_fell, .ref m_read_name])), (m_read_sort, .inl (cy 1, 20, .inl m_read_sortf)), (m_tape, .inl (cy 0, 800, .inl m_tapef)), (h0, .inr (12, [.int m_thrown, .int m_trouble, .int m_where, m_park, .ref m_read, .ref m_tape, .int m_taped, .int m_size, .int m_spot1_3, .int 5, .int m_place1_5, .int m_letters1_6, .int m_number1_7, .int m_fault1_67, .int m_wrongAt1_68, .long m_word1_8, .ref m_v, .ref m_x, .ref m_past, .ref m_kept, .int m_acts, .int m_images, .ref m_left, .ref m_far, .ref m_line, .int m_fitsNow, .ref m_ditchIn, .int m_treadLeft, .int m_rambledTo, .int m_rambledFalls, .int m_rambledIn]))]) hP hD rfl
      have hP := hPD.1
      have hD := hPD.2
      have c_73 : x_29.toInt = m_read_wide.toInt * r_22.toInt := by omega
      have c_74 : x_30.toInt = x_29.toInt + r_11.toInt := by omega
      have c_75 : x_62.toInt = 3 := by omega
      exact jn_31 5 m_fault1_67 m_wrongAt1_68 _ _ _ (show Hid (bys m_tapef → ∀ σ : Int × Int, LkM m_tapef m_size.toInt σ m_sort.toInt m_place.toInt m_spot.toInt m_word m_letters.toInt m_number.toInt m_fault.toInt m_wrongAt.toInt → LkM m_tapef m_size.toInt (ck ((0 : Int) = 0 ∧ (m_read_sortf (sC m_tapef m_size.toInt m_read_wide.toInt σ).toNat).toInt = 3) 7 (wa m_tapef m_size.toInt 0 (m_read_deep.toInt - 1) (rW m_tapef m_size.toInt 0 (m_read_wide.toInt - 1) σ))) 5 m_place1_5.toInt m_spot1_3.toInt m_word1_8 m_letters1_6.toInt m_number1_7.toInt m_fault1_67.toInt m_wrongAt1_68.toInt) from (fun hb σ hk => (lk_28 hb σ hk).cky k_70_1 (by decide) (by decide) (fun h0 => hd_y (sC_eq (c := r_11.toInt) (r := r_22.toInt) (p := x_29.toInt) h0 (vl_16 hb σ hk) (vl_27 hb σ hk) c_73 c_74) ex_62 c_75) rfl)) (show ov m_sort1_19.toInt 5 from (fun _ => rfl)) (show jj 5 m_fault1_67.toInt from (by first | assumption | exact jj_f (by omega))) (hP.sub [0, 1, 3, 2] rfl) (hD.sub [0, 1, 3, 2] (by decide) rfl) hS (lv_sub hl [0, 1, 2, 3] rfl)
end
