/-- kept from arithmetic's eyes -/
def Hid (P : Prop) : Prop := P
/-- a fault where c holds, on the reference -/
theorem ck_0 {c : Prop} {k : Int} {σ : Int × Int} (h0 : k ≠ 0) (h : (ck c k σ).1 = 0) : ¬ c ∧ σ.1 = 0 := by
  by_cases hc : c
  · rw [ck_y hc] at h
    by_cases z : σ.1 = 0
    · rw [fl_z z] at h; exact absurd h h0
    · rw [fl_o z] at h; exact absurd h z
  · rw [ck_n hc] at h; exact ⟨hc, h⟩
theorem go_0 {f : Nat → Int32} {n : Int} {σ : Int × Int} (h : (go f n σ).1 = 0) : σ.1 = 0 := Classical.byContradiction (fun z => by rw [go_o z] at h; exact z h)
theorem LkM.cky {f : Nat → Int32} {n : Int} {σ : Int × Int} {s pl sp : Int} {w : Int64} {le nu fa wr k k' fa1 wr1 : Int} {c : Prop} (hk : LkM f n σ s pl sp w le nu fa wr) (hf : fR s pl fa wr k' fa1 wr1) (e : k' = k) (h0 : k ≠ 0) (hC : σ.1 = 0 → c) {s9 pl' sp' : Int} {w' : Int64} {le' nu' : Int} (h9 : s9 = 5) : LkM f n (ck c k σ) s9 pl' sp' w' le' nu' fa1 wr1 := by
  subst e
  have h1 : ck c k' σ = fl k' σ := by
    by_cases z : σ.1 = 0
    · exact ck_y (hC z)
    · rw [ck_o z, fl_o z]
  rw [h1]
  exact hf.fl hk h0 h9
theorem LkM.ckn {f : Nat → Int32} {n : Int} {σ : Int × Int} {s pl sp : Int} {w : Int64} {le nu fa wr k : Int} {c : Prop} (hk : LkM f n σ s pl sp w le nu fa wr) (hC : σ.1 = 0 → ¬ c) : LkM f n (ck c k σ) s pl sp w le nu fa wr := by
  have h1 : ck c k σ = σ := by
    by_cases z : σ.1 = 0
    · exact ck_n (hC z)
    · exact ck_o z
  rw [h1]
  exact hk
theorem LkM.ne {f : Nat → Int32} {n : Int} {σ : Int × Int} {s pl sp : Int} {w : Int64} {le nu fa wr : Int} (hk : LkM f n σ s pl sp w le nu fa wr) (h : s = 5) : σ.1 ≠ 0 := by
  rcases hk with q | q
  · have := kM_ne (tK f n σ.2)
    have := q.2.2.2.1
    omega
  · exact q.1
theorem LkM.eq {f : Nat → Int32} {n : Int} {σ : Int × Int} {s pl sp : Int} {w : Int64} {le nu fa wr : Int} (hk : LkM f n σ s pl sp w le nu fa wr) (h : s ≠ 5) : σ.1 = 0 := by
  rcases hk with q | q
  · exact q.1
  · exact absurd q.2.1 h
theorem LkM.wo {f : Nat → Int32} {n : Int} {σ : Int × Int} {s pl sp : Int} {w : Int64} {le nu fa wr : Int} (hk : LkM f n σ s pl sp w le nu fa wr) (h0 : σ.1 = 0) (h : tK f n σ.2 = 1) : le = tE f n σ.2 - tS f n σ.2 ∧ w.toInt = tC f n σ.2 := by
  rcases hk with q | q
  · exact q.2.2.2.2.2.2.1 h
  · exact absurd h0 q.1
theorem LkM.pl {f : Nat → Int32} {n : Int} {σ : Int × Int} {s pl sp : Int} {w : Int64} {le nu fa wr : Int} (hk : LkM f n σ s pl sp w le nu fa wr) (h0 : σ.1 = 0) : s = kM (tK f n σ.2) ∧ pl = tS f n σ.2 ∧ 0 ≤ σ.2 := by
  rcases hk with q | q
  · exact ⟨q.2.2.2.1, q.2.2.2.2.1, q.2.1⟩
  · exact absurd h0 q.1
theorem wdM.y {s : Int} {w : Int64} {sn : Nat} {sf : Nat → Int32} {r : Int} (h : wdM s w sn sf r) (e : r ≠ 0) (ha : asc sn sf) (h8 : sn ≤ 8) {f : Nat → Int32} {n : Int} {σ : Int × Int} {pl sp le nu fa wr : Int} (hk : LkM f n σ s pl sp w le nu fa wr) : isW f n sn sf σ.2 := by
  rcases h.is ha h8 hk with q | q
  · exact q.2.2
  · exact absurd q.1 e
theorem wdM.n {s : Int} {w : Int64} {sn : Nat} {sf : Nat → Int32} {r : Int} (h : wdM s w sn sf r) (e : r = 0) (ha : asc sn sf) (h8 : sn ≤ 8) {f : Nat → Int32} {n : Int} {σ : Int × Int} {pl sp le nu fa wr : Int} (hk : LkM f n σ s pl sp w le nu fa wr) (h0 : σ.1 = 0) : ¬ isW f n sn sf σ.2 := by
  rcases h.is ha h8 hk with q | q
  · omega
  · exact q.2 h0
theorem wch_ne {P0 P1 P2 P3 : Prop} (h : P0 ∨ P1 ∨ P2 ∨ P3) : wch P0 P1 P2 P3 ≠ -1 := by
  by_cases h0 : P0
  · rw [wch_0 h0]; decide
  · by_cases h1 : P1
    · rw [wch_1 h0 h1]; decide
    · by_cases h2 : P2
      · rw [wch_2 h0 h1 h2]; decide
      · by_cases h3 : P3
        · rw [wch_3 h0 h1 h2 h3]; decide
        · rcases h with q | q | q | q
          · exact absurd q h0
          · exact absurd q h1
          · exact absurd q h2
          · exact absurd q h3
theorem wch_or {P0 P1 P2 P3 : Prop} (h : wch P0 P1 P2 P3 ≠ -1) : P0 ∨ P1 ∨ P2 ∨ P3 := by
  by_cases h0 : P0
  · exact Or.inl h0
  · by_cases h1 : P1
    · exact Or.inr (Or.inl h1)
    · by_cases h2 : P2
      · exact Or.inr (Or.inr (Or.inl h2))
      · by_cases h3 : P3
        · exact Or.inr (Or.inr (Or.inr h3))
        · exact absurd (wch_n h0 h1 h2 h3) h
theorem kd_w {f : Nat → Int32} {n j : Int} (h : ¬ kd f n j = -1) : tK f n j = 1 := by
  rcases wch_or h with q | q | q | q
  · exact q.1
  · exact q.1
  · exact q.1
  · exact q.1
/-- isName of the reference -/
def inM (s : Int) (w : Int64) (r : Int) : Prop := ∀ (f : Nat → Int32) (n : Int) (σ : Int × Int) (pl sp le nu fa wr : Int), LkM f n σ s pl sp w le nu fa wr → σ.1 = 0 → (r = 1 ∧ tK f n σ.2 = 1 ∧ lw f n σ.2 = -1) ∨ (r = 0 ∧ (tK f n σ.2 ≠ 1 ∨ lw f n σ.2 ≠ -1))
theorem inM_s {s : Int} {w : Int64} {r : Int} (hs : s ≠ 2) (hr : r = 0) : inM s w r := by
  intro f n σ pl sp le nu fa wr hk h0
  refine Or.inr ⟨hr, Or.inl (fun q => hs ?_)⟩
  rw [(hk.pl h0).1, q]
  rfl
theorem inM_w {s : Int} {w : Int64} {r r9 : Int} {sn : Nat} {sf : Nat → Int32} (h : wdM s w sn sf r9) (e : r9 ≠ 0) (ha : asc sn sf) (h8 : sn ≤ 8) (hl : ∀ (f : Nat → Int32) (n j : Int), isW f n sn sf j → lw f n j ≠ -1) (hr : r = 0) : inM s w r := by
  intro f n σ pl sp le nu fa wr hk h0
  exact Or.inr ⟨hr, Or.inr (hl _ _ _ (h.y e ha h8 hk))⟩
theorem inM_y {s : Int} {w : Int64} {r r0 r1 r2 r3 : Int} (hs : s = 2) (h0 : wdM s w 4 (txB "park") r0) (e0 : r0 = 0) (h1 : wdM s w 3 (txB "row") r1) (e1 : r1 = 0) (h2 : wdM s w 6 (txB "walker") r2) (e2 : r2 = 0) (h3 : wdM s w 4 (txB "walk") r3) (e3 : r3 = 0) (hr : r = 1) : inM s w r := by
  intro f n σ pl sp le nu fa wr hk hz
  refine Or.inl ⟨hr, kM_2 ((hk.pl hz).1.symm.trans hs), ?_⟩
  exact wch_n (h0.n e0 asc_park (by decide) hk hz) (h1.n e1 asc_row (by decide) hk hz) (h2.n e2 asc_walker (by decide) hk hz) (h3.n e3 asc_walk (by decide) hk hz)
theorem lw_i0 (f : Nat → Int32) (n j : Int) (h : isW f n 4 (txB "park") j) : lw f n j ≠ -1 := wch_ne (Or.inl h)
theorem lw_i1 (f : Nat → Int32) (n j : Int) (h : isW f n 3 (txB "row") j) : lw f n j ≠ -1 := wch_ne (Or.inr (Or.inl h))
theorem lw_i2 (f : Nat → Int32) (n j : Int) (h : isW f n 6 (txB "walker") j) : lw f n j ≠ -1 := wch_ne (Or.inr (Or.inr (Or.inl h)))
theorem lw_i3 (f : Nat → Int32) (n j : Int) (h : isW f n 4 (txB "walk") j) : lw f n j ≠ -1 := wch_ne (Or.inr (Or.inr (Or.inr h)))
theorem kd_i0 {f : Nat → Int32} {n j : Int} (h : isW f n 5 (txB "guest") j) : ¬ kd f n j = -1 := wch_ne (Or.inl h)
theorem kd_i1 {f : Nat → Int32} {n j : Int} (h : isW f n 5 (txB "child") j) : ¬ kd f n j = -1 := wch_ne (Or.inr (Or.inl h))
theorem kd_i2 {f : Nat → Int32} {n j : Int} (h : isW f n 7 (txB "colonel") j) : ¬ kd f n j = -1 := wch_ne (Or.inr (Or.inr (Or.inl h)))
theorem kd_i3 {f : Nat → Int32} {n j : Int} (h : isW f n 6 (txB "keeper") j) : ¬ kd f n j = -1 := wch_ne (Or.inr (Or.inr (Or.inr h)))
theorem inM.no {s : Int} {w : Int64} {r : Int} (h : inM s w r) (e : r = 0) {f : Nat → Int32} {n : Int} {σ : Int × Int} {pl sp le nu fa wr : Int} (hk : LkM f n σ s pl sp w le nu fa wr) (h0 : σ.1 = 0) : tK f n σ.2 ≠ 1 ∨ lw f n σ.2 ≠ -1 := by
  rcases h _ _ _ _ _ _ _ _ _ hk h0 with q | q
  · omega
  · exact q.2
theorem inM.ye {s : Int} {w : Int64} {r : Int} (h : inM s w r) (e : r ≠ 0) {f : Nat → Int32} {n : Int} {σ : Int × Int} {pl sp le nu fa wr : Int} (hk : LkM f n σ s pl sp w le nu fa wr) (h0 : σ.1 = 0) : ¬ (tK f n σ.2 ≠ 1 ∨ lw f n σ.2 ≠ -1) := by
  rcases h _ _ _ _ _ _ _ _ _ hk h0 with q | q
  · exact fun h1 => h1.elim (fun h2 => h2 q.2.1) (fun h2 => h2 q.2.2)
  · exact absurd q.1 e
theorem hnP.y {g : Nat → Int64} {many : Int} {c : Int64} {r x : Int} (h : hnP g many c r) (e : r ≠ 0) (hc : c.toInt = x) : tol g many x := by
  rcases h with q | q
  · rw [← hc]; exact q.2
  · exact absurd q.1 e
theorem hnP.n {g : Nat → Int64} {many : Int} {c : Int64} {r x : Int} (h : hnP g many c r) (e : r = 0) (hc : c.toInt = x) : ¬ tol g many x := by
  rcases h with q | q
  · omega
  · rw [← hc]; exact q.2
/-- the name's number -/
theorem nm_c {f : Nat → Int32} {n : Int} {σ : Int × Int} {s pl sp : Int} {w : Int64} {le nu fa wr : Int} (hk : LkM f n (ck (tK f n σ.2 ≠ 1 ∨ lw f n σ.2 ≠ -1) 1 σ) s pl sp w le nu fa wr) (h0 : (ck (tK f n σ.2 ≠ 1 ∨ lw f n σ.2 ≠ -1) 1 σ).1 = 0) : w.toInt = tC f n σ.2 := by
  obtain ⟨h1, h2⟩ := ck_0 (by decide) h0
  rw [ck_n h1] at hk
  exact (hk.wo h2 (Classical.byContradiction (fun q => h1 (Or.inl q)))).2
theorem nmS_z {f : Nat → Int32} {n : Int} {g : Nat → Int64} {many : Int} {σ : Int × Int} (h : (nmS f n g many σ).1 = 0) : nmS f n g many σ = σ ∧ σ.1 = 0 ∧ tK f n σ.2 = 1 := by
  obtain ⟨h1, h2⟩ := ck_0 (by decide) (show (ck (tol g many (tC f n σ.2)) 3 (ck (tK f n σ.2 ≠ 1 ∨ lw f n σ.2 ≠ -1) 1 σ)).1 = 0 from h)
  obtain ⟨h3, h4⟩ := ck_0 (by decide) h2
  refine ⟨?_, h4, Classical.byContradiction (fun q => h3 (Or.inl q))⟩
  unfold nmS
  rw [ck_n h3, ck_n h1]
theorem nd_0 {f : Nat → Int32} {n : Int} {sn : Nat} {sf : Nat → Int32} {σ : Int × Int} (h : (nd f n sn sf σ).1 = 0) : σ.1 = 0 := Classical.byContradiction (fun z => by rw [nd_o z] at h; exact z h)
theorem rPl_0 {f : Nat → Int32} {n w d : Int} {s : Nat → Int32} {z : Int} {σ : Int × Int} (h : (rPl f n w d s z σ).1 = 0) : σ.1 = 0 := Classical.byContradiction (fun q => by rw [rPl_o q] at h; exact q h)
theorem kdS_0 {f : Nat → Int32} {n : Int} {σ : Int × Int} (h : (kdS f n σ).1 = 0) : σ.1 = 0 := Classical.byContradiction (fun q => by rw [kdS_o q] at h; exact q h)
theorem lbS_0 {f : Nat → Int32} {n w d rows many most : Int} {σ : Int × Int} (h : (lbS f n w d rows many most σ).1 = 0) : σ.1 = 0 ∧ lbS f n w d rows many most σ = go f n σ := by
  have h1 := go_0 (show (go f n (ck (w ≤ 0 ∨ rows < d) 6 (ck (many = most) 5 σ))).1 = 0 from h)
  obtain ⟨h2, h3⟩ := ck_0 (by decide) h1
  obtain ⟨h4, h5⟩ := ck_0 (by decide) h3
  refine ⟨h5, ?_⟩
  unfold lbS
  rw [ck_n h4, ck_n h2]
/-- a line of walkers told: the name stood behind the word -/
theorem fWk_n {f : Nat → Int32} {n w d rows many : Int} {s : Nat → Int32} {g : Nat → Int64} {σ : Int × Int} (h : (fWk f n w d rows many s g σ).1 = 0) : (nmS f n g many (lbS f n w d rows many 4 σ)).1 = 0 ∧ nmS f n g many (lbS f n w d rows many 4 σ) = go f n σ ∧ tK f n (go f n σ).2 = 1 := by
  have h1 := go_0 (kdS_0 (nd_0 (rPl_0 (nd_0 (rPl_0 (show (rPl f n w d s 0 (nd f n 2 (txB "to") (rPl f n w d s 0 (nd f n 2 (txB "at") (kdS f n (go f n (nmS f n g many (lbS f n w d rows many 4 σ)))))))).1 = 0 from h))))))
  obtain ⟨e, h2, h3⟩ := nmS_z h1
  have e2 := (lbS_0 h2).2
  rw [e2] at e h3
  exact ⟨h1, by rw [e2]; exact e, h3⟩
theorem hg_ck {g : Nat → Int32} {z c : Int} {σ : Int × Int} : hg g z c σ = ck (z = 0 ∧ (g c.toNat).toInt = 3) 7 σ := by
  unfold hg
  by_cases h : z = 0 ∧ (g c.toNat).toInt = 3
  · rw [if_pos h, ck_y h]
  · rw [if_neg h, ck_n h]
theorem rPl_ck {f : Nat → Int32} {n w d : Int} {g : Nat → Int32} {z : Int} {σ : Int × Int} : rPl f n w d g z σ = go f n (ck (z = 0 ∧ (g (sC f n w σ).toNat).toInt = 3) 7 (wa f n 0 (d - 1) (rW f n 0 (w - 1) σ))) := by
  unfold rPl
  rw [hg_ck]
/-- the place that was read -/
theorem sC_eq {f : Nat → Int32} {n w d : Int} {σ : Int × Int} {c r x p : Int} (h : (wa f n 0 (d - 1) (rW f n 0 (w - 1) σ)).1 = 0) (v1 : (rW f n 0 (w - 1) σ).1 = 0 → c = tN f n σ.2) (v2 : (wa f n 0 (d - 1) (rW f n 0 (w - 1) σ)).1 = 0 → r = tN f n (rW f n 0 (w - 1) σ).2) (ep : p = w * r) (ex : x = p + c) : sC f n w σ = x := by
  have h1 := v1 (wa_0 h).1
  have h2 := v2 h
  unfold sC
  rw [← h1, ← h2, ex, ep]
theorem hd_y {g : Nat → Int32} {x v : Int32} {c : Int} (hc : c = x.toInt) (ev : v = g x.toNatClampNeg) (h3 : v.toInt = 3) : (0 : Int) = 0 ∧ (g c.toNat).toInt = 3 := by
  refine ⟨rfl, ?_⟩
  rw [hc, show x.toInt.toNat = x.toNatClampNeg from rfl, ← ev]
  exact h3
theorem hd_n {g : Nat → Int32} {x v : Int32} {c : Int} (hc : c = x.toInt) (ev : v = g x.toNatClampNeg) (h3 : ¬ v.toInt = 3) : ¬ ((0 : Int) = 0 ∧ (g c.toNat).toInt = 3) := by
  intro h
  apply h3
  rw [ev, show x.toNatClampNeg = x.toInt.toNat from rfl, ← hc]
  exact h.2
/-- the walks' bound -/
theorem stpS_e {f : Nat → Int32} {n w d m lo : Int} {σ : Int × Int} (hm : (rW f n 0 (d - 1) (rW f n 0 (w - 1) σ)).1 = 0 → m = min 3 (d - 1 - tN f n (rW f n 0 (w - 1) σ).2)) (hl : lo = 1) : rP f n 5 (txB "steps") lo m (rW f n 0 (d - 1) (rW f n 0 (w - 1) σ)) = stpS f n w d σ := by
  subst hl
  unfold stpS
  by_cases z : (rW f n 0 (d - 1) (rW f n 0 (w - 1) σ)).1 = 0
  · rw [hm z]
  · rw [rP_o z, rP_o z]
theorem fe_w {f : Nat → Int32} {n j : Int} (h : ¬ (¬ isW f n 4 (txB "fell") j ∧ ¬ isW f n 3 (txB "dry") j)) : tK f n j = 1 := by
  by_cases h1 : isW f n 4 (txB "fell") j
  · exact h1.1
  · by_cases h2 : isW f n 3 (txB "dry") j
    · exact h2.1
    · exact absurd ⟨h1, h2⟩ h
/-- the reference's lines -/
def lbM (f : Nat → Int32) (n w d rows many most s pl sp : Int) (wo : Int64) (le nu fa wr s1 pl1 sp1 : Int) (wo1 : Int64) (le1 nu1 fa1 wr1 : Int) : Prop := bys f → ∀ σ : Int × Int, (σ.1 = 0 → tK f n σ.2 = 1) → LkM f n σ s pl sp wo le nu fa wr → LkM f n (lbS f n w d rows many most σ) s1 pl1 sp1 wo1 le1 nu1 fa1 wr1
def spM (f : Nat → Int32) (n w d : Int) (g : Nat → Int32) (s pl sp : Int) (wo : Int64) (le nu fa wr s1 pl1 sp1 : Int) (wo1 : Int64) (le1 nu1 fa1 wr1 r : Int) : Prop := bys f → ∀ σ : Int × Int, LkM f n σ s pl sp wo le nu fa wr → LkM f n (rPl f n w d g 0 σ) s1 pl1 sp1 wo1 le1 nu1 fa1 wr1 ∧ ((rPl f n w d g 0 σ).1 = 0 → r = sC f n w σ)
def pkM (f : Nat → Int32) (n w s pl sp : Int) (wo : Int64) (le nu fa wr s1 pl1 sp1 : Int) (wo1 : Int64) (le1 nu1 fa1 wr1 w1 d1 e1 l1 : Int) : Prop := bys f → ∀ σ : Int × Int, (σ.1 = 0 → tK f n σ.2 = 1) → LkM f n σ s pl sp wo le nu fa wr → LkM f n (fPk f n w σ) s1 pl1 sp1 wo1 le1 nu1 fa1 wr1 ∧ ((fPk f n w σ).1 = 0 → w1 = vWi f n w σ ∧ d1 = vDe f n w σ ∧ e1 = vEr f n w σ ∧ l1 = vSl f n w σ)
def wkM (f : Nat → Int32) (n w d rows many : Int) (g : Nat → Int32) (na : GT) (s pl sp : Int) (wo : Int64) (le nu fa wr s1 pl1 sp1 : Int) (wo1 : Int64) (le1 nu1 fa1 wr1 many1 : Int) (na1 : GT) : Prop := bys f → ∀ σ : Int × Int, (σ.1 = 0 → tK f n σ.2 = 1) → LkM f n σ s pl sp wo le nu fa wr → LkM f n (fWk f n w d rows many g na.1 σ) s1 pl1 sp1 wo1 le1 nu1 fa1 wr1 ∧ ((fWk f n w d rows many g na.1 σ).1 = 0 → many1 = many + 1 ∧ apX f n w d na na1 many σ)
def wlM (f : Nat → Int32) (n w d rows many s pl sp : Int) (wo : Int64) (le nu fa wr s1 pl1 sp1 : Int) (wo1 : Int64) (le1 nu1 fa1 wr1 many1 : Int) (W W1 : WT3) : Prop := bys f → ∀ σ : Int × Int, (σ.1 = 0 → tK f n σ.2 = 1) → LkM f n σ s pl sp wo le nu fa wr → LkM f n (fWl f n w d rows many σ) s1 pl1 sp1 wo1 le1 nu1 fa1 wr1 ∧ ((fWl f n w d rows many σ).1 = 0 → many1 = many + 1 ∧ apW f n w d W W1 many σ)
def rwX (f : Nat → Int32) (a b i : Int) (s s1 u u1 : Nat → Int32) (n : Int) : Prop := rwN f a b i s s1 ∧ u1 = uU f a b u n i.toNat
theorem rwX_0 {f : Nat → Int32} {a b i : Int} {s u : Nat → Int32} {n : Int} (h : i ≤ 0) : rwX f a b i s s u u n := ⟨rwN_0 h, by rw [show i.toNat = 0 by omega]; rfl⟩
theorem rwX_n {f : Nat → Int32} {a b i i' c : Int} {s s1 s2 u u1 : Nat → Int32} {n : Int} {v : Int32} (h : rwX f a b i s s1 u u1 n) (hb : 0 ≤ b) (h0 : 0 ≤ i) (hc : c = b + i) (e : s2 = upd s1 c.toNat v) (hv : v.toInt = sL (f (a.toNat + i.toNat)).toInt) (hi : i' = i + 1) (hl : (f (a.toNat + i.toNat)).toInt ≠ 117) : rwX f a b i' s s2 u u1 n := ⟨rwN_up h.1 hb h0 hc e hv hi, uU_wn h.2 h0 hl hi⟩
theorem rwX_y {f : Nat → Int32} {a b i i' c m : Int} {s s1 s2 u u1 u2 : Nat → Int32} {n : Int} {v I x : Int32} (h : rwX f a b i s s1 u u1 n) (hb : 0 ≤ b) (h0 : 0 ≤ i) (hc : c = b + i) (e : s2 = upd s1 c.toNat v) (hv : v.toInt = sL (f (a.toNat + i.toNat)).toInt) (hi : i' = i + 1) (hl : (f (a.toNat + i.toNat)).toInt = 117) (hm : m = n + cu f a.toNat i.toNat) (hI : I.toInt = m) (hx : x.toInt = b + i) (eu : upd u1 (Int32.toNatClampNeg I) x = u2) : rwX f a b i' s s2 u u2 n := ⟨rwN_up h.1 hb h0 hc e hv hi, uU_wy h.2 h0 hl hm hI hx eu hi⟩
def roM (f : Nat → Int32) (n w d rows uns : Int) (g : Nat → Int32) (s pl sp : Int) (wo : Int64) (le nu fa wr s1 pl1 sp1 : Int) (wo1 : Int64) (le1 nu1 fa1 wr1 rows1 uns1 : Int) (g1 u u1 : Nat → Int32) : Prop := bys f → ∀ σ : Int × Int, (σ.1 = 0 → tK f n σ.2 = 1) → LkM f n σ s pl sp wo le nu fa wr → LkM f n (fRw f n w d rows uns σ) s1 pl1 sp1 wo1 le1 nu1 fa1 wr1 ∧ ((fRw f n w d rows uns σ).1 = 0 → rows1 = rows + 1 ∧ uns1 = uns + cu f (tS f n (go f n σ).2).toNat w.toNat ∧ rwX f (tS f n (go f n σ).2) (w * rows) w g g1 u u1 uns)
/-- a name put behind the others -/
theorem apL_of {g g1 : Nat → Int64} {k : Int32} {c : Int64} {x : Int} (eg : vp_updL g (Int32.toNatClampNeg k) c = g1) (h0 : 0 ≤ k.toInt) (hc : c.toInt = x) : apL g g1 k.toInt x := by
  have e1 : k.toNatClampNeg = k.toInt.toNat := rfl
  rw [← eg, e1]
  refine ⟨?_, fun j hj => ?_⟩
  · show ((if k.toInt.toNat = k.toInt.toNat then c else g k.toInt.toNat) : Int64).toInt = _
    rw [if_pos rfl]
    exact hc
  · show (if j = k.toInt.toNat then c else g j) = g j
    rw [if_neg (by omega)]
theorem min3 {hi d r x : Int} (h : hi ≤ 3 ∧ hi ≤ d - 1 - r ∧ (hi = 3 ∨ hi = d - 1 - r)) (e : r = x) : hi = min 3 (d - 1 - x) := by
  rw [← e, Int.min_def]
  split <;> omega
/-- a walker's line told: his kind, where he is, where he goes -/
theorem wk_v {f : Nat → Int32} {n w d rows many kk a t : Int} {s : Nat → Int32} {g : Nat → Int64} {σ : Int × Int} (h : (fWk f n w d rows many s g σ).1 = 0) (hk : (go f n (nmS f n g many (lbS f n w d rows many 4 σ))).1 = 0 → kk = kd f n (go f n (nmS f n g many (lbS f n w d rows many 4 σ))).2) (ha : (rPl f n w d s 0 (nd f n 2 (txB "at") (kdS f n (go f n (nmS f n g many (lbS f n w d rows many 4 σ)))))).1 = 0 → a = sC f n w (nd f n 2 (txB "at") (kdS f n (go f n (nmS f n g many (lbS f n w d rows many 4 σ)))))) (ht : (rPl f n w d s 0 (nd f n 2 (txB "to") (rPl f n w d s 0 (nd f n 2 (txB "at") (kdS f n (go f n (nmS f n g many (lbS f n w d rows many 4 σ)))))))).1 = 0 → t = sC f n w (nd f n 2 (txB "to") (rPl f n w d s 0 (nd f n 2 (txB "at") (kdS f n (go f n (nmS f n g many (lbS f n w d rows many 4 σ)))))))) : kk = kd f n (go f n (go f n σ)).2 ∧ a = kA f n w σ ∧ t = kT f n w d σ := by
  have h5 : (rPl f n w d s 0 (nd f n 2 (txB "to") (rPl f n w d s 0 (nd f n 2 (txB "at") (kdS f n (go f n (nmS f n g many (lbS f n w d rows many 4 σ)))))))).1 = 0 := h
  have h4 := nd_0 (rPl_0 h5)
  have h3 := nd_0 (rPl_0 h4)
  have h2 := kdS_0 h3
  have v1 := hk h2
  have v2 := ha h4
  have v3 := ht h5
  have e1 := (fWk_n h).2.1
  have e2 : kdS f n (go f n (nmS f n g many (lbS f n w d rows many 4 σ))) = go f n (go f n (nmS f n g many (lbS f n w d rows many 4 σ))) := by
    have h6 := go_0 (show (go f n (ck (kd f n (go f n (nmS f n g many (lbS f n w d rows many 4 σ))).2 = -1) 1 (go f n (nmS f n g many (lbS f n w d rows many 4 σ))))).1 = 0 from h3)
    exact kdS_ok (ck_0 (by decide) h6).1
  rw [rPl_z h4] at v3
  rw [e2, e1] at v2 v3
  rw [e1] at v1
  exact ⟨v1, v2, v3⟩
/-- the kind that was read -/
theorem kd_v {f : Nat → Int32} {n j k v : Int} (h : kd f n j = k) (e : v = k) : v = kd f n j := e.trans h.symm
theorem fl_y {c : Prop} {v : Int} (h : c) (e : v = 1) : v = @ite _ c (Classical.propDecidable _) 1 0 := by rw [if_pos h, e]
theorem fl_n {c : Prop} {v : Int} (h : ¬ c) (e : v = 0) : v = @ite _ c (Classical.propDecidable _) 1 0 := by rw [if_neg h, e]
/-- a walk's line told: where it begins, how many STEPS, whether it fell -/
theorem wl_v {f : Nat → Int32} {n w d rows many c r s v p : Int} {σ : Int × Int} (h0 : (fWl f n w d rows many σ).1 = 0) (hc : (rW f n 0 (w - 1) (lbS f n w d rows many 6 σ)).1 = 0 → c = tN f n (lbS f n w d rows many 6 σ).2) (hr : (rW f n 0 (d - 1) (rW f n 0 (w - 1) (lbS f n w d rows many 6 σ))).1 = 0 → r = tN f n (rW f n 0 (w - 1) (lbS f n w d rows many 6 σ)).2) (hs : (stpS f n w d (lbS f n w d rows many 6 σ)).1 = 0 → s = tN f n (nd f n 5 (txB "steps") (rW f n 0 (d - 1) (rW f n 0 (w - 1) (lbS f n w d rows many 6 σ)))).2) (hv : (stpS f n w d (lbS f n w d rows many 6 σ)).1 = 0 → v = @ite _ (isW f n 4 (txB "fell") (stpS f n w d (lbS f n w d rows many 6 σ)).2) (Classical.propDecidable _) 1 0) (hp : p = w * r + c) : p = kF f n w σ ∧ s = kS f n w d σ ∧ v = kL f n w d σ := by
  have h1 : (stpS f n w d (lbS f n w d rows many 6 σ)).1 = 0 := feS_0 h0
  have h2 := h1
  unfold stpS rP at h2
  obtain ⟨h3, -, -, -, -⟩ := rW_0 h2
  have h4 : (rW f n 0 (d - 1) (rW f n 0 (w - 1) (lbS f n w d rows many 6 σ))).1 = 0 := nd_9 h3
  obtain ⟨h5, -, -, -, -⟩ := rW_0 h4
  obtain ⟨h6, -, -, -, -⟩ := rW_0 h5
  have e := (lbS_0 h6).2
  have vc := hc h5
  have vr := hr h4
  have vs := hs h1
  have vv := hv h1
  rw [e] at vc vr vs vv
  exact ⟨by rw [hp, vc, vr]; rfl, vs, vv⟩
