/-- bytes -/
def bys (f : Nat → Int32) : Prop := ∀ k, k < 800 → -128 ≤ (f k).toInt ∧ (f k).toInt ≤ 127
theorem and_255 {x : Int32} (h0 : -128 ≤ x.toInt) (h1 : x.toInt ≤ 127) : (0 ≤ x.toInt ∧ (x &&& 255).toInt = x.toInt) ∨ (x.toInt < 0 ∧ 128 ≤ (x &&& 255).toInt) := by
  have key : ∀ n : Fin 256, (0 ≤ (Int32.ofInt ((n.val : Int) - 128)).toInt ∧ (Int32.ofInt ((n.val : Int) - 128) &&& 255).toInt = (Int32.ofInt ((n.val : Int) - 128)).toInt) ∨ ((Int32.ofInt ((n.val : Int) - 128)).toInt < 0 ∧ 128 ≤ (Int32.ofInt ((n.val : Int) - 128) &&& 255).toInt) := by decide +kernel
  have h2 := key ⟨(x.toInt + 128).toNat, by omega⟩
  have e : Int32.ofInt ((((x.toInt + 128).toNat : Nat) : Int) - 128) = x := by
    rw [show (((x.toInt + 128).toNat : Nat) : Int) - 128 = x.toInt by omega]
    exact Int32.ofInt_toInt x
  rw [e] at h2
  exact h2
theorem by_eq {f : Nat → Int32} {n k r : Int} (hb : bys f) (h0 : 0 ≤ k) (hn : n ≤ 800) (hr : r = byF f n k) : (r = -1 ∧ n ≤ k) ∨ (k < n ∧ ((0 ≤ (f k.toNat).toInt ∧ r = (f k.toNat).toInt) ∨ ((f k.toNat).toInt < 0 ∧ 128 ≤ r))) := by
  unfold byF at hr
  by_cases hc : k < n
  · rw [if_pos hc] at hr
    have h1 := hb k.toNat (by omega)
    have h2 := and_255 h1.1 h1.2
    omega
  · rw [if_neg hc] at hr
    omega
/-- the reference's sorts of tokens -/
def kM (k : Int) : Int := if k = 1 then 2 else if k = 2 then 3 else if k = 3 then 4 else if k = 4 then 1 else 0
theorem kM_ne (k : Int) : kM k ≠ 5 := by
  unfold kM
  (repeat' split) <;> omega
theorem kM_2 {k : Int} (h : kM k = 2) : k = 1 := by
  unfold kM at h
  revert h
  (repeat' split) <;> omega
theorem kM_3 {k : Int} (h : kM k = 3) : k = 2 := by
  unfold kM at h
  revert h
  (repeat' split) <;> omega
theorem kM_4 {k : Int} (h : kM k = 4) : k = 3 := by
  unfold kM at h
  revert h
  (repeat' split) <;> omega
theorem kM_1 {k : Int} (h : kM k = 1) : k = 4 := by
  unfold kM at h
  revert h
  (repeat' split) <;> omega
/-- the reference looks at the token from σ.2 on, or has noted a fault -/
def LkM (f : Nat → Int32) (n : Int) (σ : Int × Int) (sort place spot : Int) (word : Int64) (letters number fault wrongAt : Int) : Prop :=
  (σ.1 = 0 ∧ 0 ≤ σ.2 ∧ fault = 0 ∧ sort = kM (tK f n σ.2) ∧ place = tS f n σ.2 ∧ (tK f n σ.2 ≠ 0 → spot = tE f n σ.2) ∧ (tK f n σ.2 = 1 → letters = tE f n σ.2 - tS f n σ.2 ∧ word.toInt = tC f n σ.2) ∧ (tK f n σ.2 = 2 → number = tN f n σ.2)) ∨ (σ.1 ≠ 0 ∧ sort = 5 ∧ fault = σ.1 ∧ wrongAt = tS f n σ.2)
/-- goesOn -/
def gR (f : Nat → Int32) (n s sp fa wr s1 pl1 sp1 : Int) (w1 : Int64) (le1 nu1 : Int) : Prop := bys f → s ≠ 5 → fa = 0 → LkM f n (0, sp) s1 pl1 sp1 w1 le1 nu1 fa wr
theorem gR.go {f : Nat → Int32} {n : Int} {σ : Int × Int} {s pl sp : Int} {w : Int64} {le nu fa wr s1 pl1 sp1 : Int} {w1 : Int64} {le1 nu1 : Int} (h : gR f n s sp fa wr s1 pl1 sp1 w1 le1 nu1) (ho : ov s s1) (hb : bys f) (hk : LkM f n σ s pl sp w le nu fa wr) (hz : σ.1 = 0 → tK f n σ.2 ≠ 0) : LkM f n (go f n σ) s1 pl1 sp1 w1 le1 nu1 fa wr := by
  rcases hk with q | q
  · have h1 := h hb (by have := kM_ne (tK f n σ.2); omega) q.2.2.1
    rw [go_z q.1, ← q.2.2.2.2.2.1 (hz q.1)]
    exact h1
  · rw [go_o q.1, ho q.2.1]
    exact Or.inr ⟨q.1, rfl, q.2.2⟩
/-- flaw -/
def fR (s pl fa wr k fa1 wr1 : Int) : Prop := (s = 5 ∧ fa1 = fa ∧ wr1 = wr) ∨ (s ≠ 5 ∧ fa1 = k ∧ wr1 = pl)
theorem fR.fl {f : Nat → Int32} {n : Int} {σ : Int × Int} {s pl sp : Int} {w : Int64} {le nu fa wr k fa1 wr1 : Int} (h : fR s pl fa wr k fa1 wr1) (hk : LkM f n σ s pl sp w le nu fa wr) (h0 : k ≠ 0) {s9 pl' sp' : Int} {w' : Int64} {le' nu' : Int} (h9 : s9 = 5) : LkM f n (fl k σ) s9 pl' sp' w' le' nu' fa1 wr1 := by
  subst h9
  rcases hk with q | q
  · have := kM_ne (tK f n σ.2)
    rw [fl_z q.1]
    rcases h with h | h
    · omega
    · exact Or.inr ⟨h0, rfl, h.2.1, by rw [h.2.2]; exact q.2.2.2.2.1⟩
  · rw [fl_o q.1]
    rcases h with h | h
    · exact Or.inr ⟨q.1, rfl, by rw [h.2.1]; exact q.2.2.1, by rw [h.2.2]; exact q.2.2.2⟩
    · exact absurd q.2.1 h.1
/-- packed, isWord -/
def pkP (sn : Nat) (sf : Nat → Int32) (r : Int64) : Prop := asc sn sf → sn ≤ 8 → r.toInt = cdI sf 0 sn
def wdM (s : Int) (w : Int64) (sn : Nat) (sf : Nat → Int32) (r : Int) : Prop := asc sn sf → sn ≤ 8 → ((r = 1 ∧ s = 2 ∧ w.toInt = cdI sf 0 sn) ∨ (r = 0 ∧ ¬ (s = 2 ∧ w.toInt = cdI sf 0 sn)))
theorem wdM.is {f : Nat → Int32} {n : Int} {σ : Int × Int} {s pl sp : Int} {w : Int64} {le nu fa wr : Int} {sn : Nat} {sf : Nat → Int32} {r : Int} (h : wdM s w sn sf r) (ha : asc sn sf) (h8 : sn ≤ 8) (hk : LkM f n σ s pl sp w le nu fa wr) : (r = 1 ∧ σ.1 = 0 ∧ isW f n sn sf σ.2) ∨ (r = 0 ∧ (σ.1 = 0 → ¬ isW f n sn sf σ.2)) := by
  rcases hk with q | q
  · obtain ⟨q0, q1, q2, q3, q4, q5, q6, q7⟩ := q
    rw [isW_cd q1 ha]
    rcases h ha h8 with h1 | h1
    · have h2 := kM_2 (q3.symm.trans h1.2.1)
      exact Or.inl ⟨h1.1, q0, h2, by rw [← (q6 h2).2]; exact h1.2.2⟩
    · refine Or.inr ⟨h1.1, fun _ h3 => h1.2 ⟨?_, ?_⟩⟩
      · rw [q3, h3.1]; rfl
      · rw [(q6 h3.1).2]; exact h3.2
  · rcases h ha h8 with h1 | h1
    · omega
    · exact Or.inr ⟨h1.1, fun h3 => absurd h3 q.1⟩
/-- needs -/
def nM (f : Nat → Int32) (n : Int) (sn : Nat) (sf : Nat → Int32) (s pl sp : Int) (w : Int64) (le nu fa wr s1 pl1 sp1 : Int) (w1 : Int64) (le1 nu1 fa1 wr1 : Int) : Prop := bys f → asc sn sf → sn ≤ 8 → ∀ σ, LkM f n σ s pl sp w le nu fa wr → LkM f n (nd f n sn sf σ) s1 pl1 sp1 w1 le1 nu1 fa1 wr1
theorem nM_y {f : Nat → Int32} {n : Int} {sn : Nat} {sf : Nat → Int32} {s pl sp : Int} {w : Int64} {le nu fa wr r s1 pl1 sp1 : Int} {w1 : Int64} {le1 nu1 : Int} (hw : wdM s w sn sf r) (hr : r ≠ 0) (hg : gR f n s sp fa wr s1 pl1 sp1 w1 le1 nu1) (ho : ov s s1) : nM f n sn sf s pl sp w le nu fa wr s1 pl1 sp1 w1 le1 nu1 fa wr := by
  intro hb ha h8 σ hk
  rcases hw.is ha h8 hk with q | q
  · unfold nd
    rw [wd1_y q.2.2]
    refine hg.go ho hb hk (fun _ => ?_)
    rw [q.2.2.1]; decide
  · omega
theorem nM_n {f : Nat → Int32} {n : Int} {sn : Nat} {sf : Nat → Int32} {s pl sp : Int} {w : Int64} {le nu fa wr r fa1 wr1 : Int} (hw : wdM s w sn sf r) (hr : r = 0) {k : Int} (hf : fR s pl fa wr k fa1 wr1) (hk1 : k = 1) {s9 pl' sp' : Int} {w' : Int64} {le' nu' : Int} (h9 : s9 = 5) : nM f n sn sf s pl sp w le nu fa wr s9 pl' sp' w' le' nu' fa1 wr1 := by
  subst hk1
  intro hb ha h8 σ hk
  have h1 : wd1 f n sn sf σ = fl 1 σ := by
    by_cases h0 : σ.1 = 0
    · rcases hw.is ha h8 hk with q | q
      · omega
      · exact wd1_n (q.2 h0)
    · rw [wd1_o h0, fl_o h0]
  unfold nd
  rw [h1]
  have h2 : (fl 1 σ).1 ≠ 0 := by
    by_cases h0 : σ.1 = 0
    · rw [fl_z h0]; exact pn (by decide)
    · rw [fl_o h0]; exact h0
  rw [go_o h2]
  exact hf.fl hk (by decide) h9
/-- wholeAt -/
def waM (f : Nat → Int32) (n lo hi s pl sp : Int) (w : Int64) (le nu fa wr s1 pl1 sp1 : Int) (w1 : Int64) (le1 nu1 fa1 wr1 r : Int) : Prop := ∀ σ, LkM f n σ s pl sp w le nu fa wr → LkM f n (wa f n lo hi σ) s1 pl1 sp1 w1 le1 nu1 fa1 wr1 ∧ ((wa f n lo hi σ).1 = 0 → r = tN f n σ.2)
theorem waM_1 {f : Nat → Int32} {n lo hi s pl sp : Int} {w : Int64} {le nu fa wr fa1 wr1 r : Int} (hs : s ≠ 3) {k : Int} (hf : fR s pl fa wr k fa1 wr1) (hk1 : k = 1) {s9 pl' sp' : Int} {w' : Int64} {le' nu' : Int} (h9 : s9 = 5) : waM f n lo hi s pl sp w le nu fa wr s9 pl' sp' w' le' nu' fa1 wr1 r := by
  subst hk1
  intro σ hk
  have h1 : wa f n lo hi σ = fl 1 σ := by
    by_cases h0 : σ.1 = 0
    · unfold wa
      rcases hk with q | q
      · rw [if_pos]
        intro h2
        apply hs
        rw [q.2.2.2.1, h2]; rfl
      · exact absurd h0 q.1
    · rw [wa_o h0, fl_o h0]
  have h2 : (fl 1 σ).1 ≠ 0 := by
    by_cases h0 : σ.1 = 0
    · rw [fl_z h0]; exact pn (by decide)
    · rw [fl_o h0]; exact h0
  rw [h1]
  exact ⟨hf.fl hk (by decide) h9, fun h3 => absurd h3 h2⟩
theorem waM_4 {f : Nat → Int32} {n lo hi s pl sp : Int} {w : Int64} {le nu fa wr fa1 wr1 r : Int} (hs : s = 3) (hb : nu < lo ∨ hi < nu) {k : Int} (hf : fR s pl fa wr k fa1 wr1) (hk1 : k = 4) {s9 pl' sp' : Int} {w' : Int64} {le' nu' : Int} (h9 : s9 = 5) : waM f n lo hi s pl sp w le nu fa wr s9 pl' sp' w' le' nu' fa1 wr1 r := by
  subst hk1
  intro σ hk
  rcases hk with q | q
  · have h2 := kM_3 (q.2.2.2.1.symm.trans hs)
    have h3 := q.2.2.2.2.2.2.2 h2
    have h1 : wa f n lo hi σ = fl 4 σ := by
      unfold wa
      rw [if_neg (fun h => h h2), if_pos (by rw [← h3]; exact hb)]
    rw [h1]
    refine ⟨hf.fl (Or.inl q) (by decide) h9, fun h4 => ?_⟩
    rw [fl_z q.1] at h4
    exact absurd h4 (pn (by decide))
  · omega
theorem waM_y {f : Nat → Int32} {n lo hi s pl sp : Int} {w : Int64} {le nu fa wr : Int} (hs : s = 3) (hb : ¬ (nu < lo ∨ hi < nu)) : waM f n lo hi s pl sp w le nu fa wr s pl sp w le nu fa wr nu := by
  intro σ hk
  rcases hk with q | q
  · have h2 := kM_3 (q.2.2.2.1.symm.trans hs)
    have h3 := q.2.2.2.2.2.2.2 h2
    have h1 : wa f n lo hi σ = σ := by
      unfold wa
      rw [if_neg (fun h => h h2), if_neg (by rw [← h3]; exact hb)]
    rw [h1]
    exact ⟨Or.inl q, fun _ => h3⟩
  · omega
/-- readWhole -/
def rwM (f : Nat → Int32) (n lo hi s pl sp : Int) (w : Int64) (le nu fa wr s1 pl1 sp1 : Int) (w1 : Int64) (le1 nu1 fa1 wr1 r : Int) : Prop := bys f → ∀ σ, LkM f n σ s pl sp w le nu fa wr → LkM f n (rW f n lo hi σ) s1 pl1 sp1 w1 le1 nu1 fa1 wr1 ∧ ((rW f n lo hi σ).1 = 0 → r = tN f n σ.2)
theorem wa_0 {f : Nat → Int32} {n lo hi : Int} {σ : Int × Int} (h : (wa f n lo hi σ).1 = 0) : σ.1 = 0 ∧ wa f n lo hi σ = σ ∧ tK f n σ.2 = 2 ∧ lo ≤ tN f n σ.2 ∧ tN f n σ.2 ≤ hi := by
  have h1 : σ.1 = 0 := Classical.byContradiction (fun q => by rw [wa_o q] at h; exact q h)
  unfold wa at h ⊢
  by_cases h2 : tK f n σ.2 ≠ 2
  · rw [if_pos h2, fl_z h1] at h
    exact absurd h (pn (by decide))
  · by_cases h3 : tN f n σ.2 < lo ∨ hi < tN f n σ.2
    · rw [if_neg h2, if_pos h3, fl_z h1] at h
      exact absurd h (pn (by decide))
    · rw [if_neg h2, if_neg h3]
      exact ⟨h1, rfl, by omega, by omega, by omega⟩
theorem rwM_of {f : Nat → Int32} {n lo hi s pl sp : Int} {w : Int64} {le nu fa wr s1 pl1 sp1 : Int} {w1 : Int64} {le1 nu1 fa1 wr1 r s2 pl2 sp2 : Int} {w2 : Int64} {le2 nu2 : Int} (ha : waM f n lo hi s pl sp w le nu fa wr s1 pl1 sp1 w1 le1 nu1 fa1 wr1 r) (hg : gR f n s1 sp1 fa1 wr1 s2 pl2 sp2 w2 le2 nu2) (ho : ov s1 s2) : rwM f n lo hi s pl sp w le nu fa wr s2 pl2 sp2 w2 le2 nu2 fa1 wr1 r := by
  intro hb σ hk
  obtain ⟨h1, h2⟩ := ha σ hk
  unfold rW
  refine ⟨hg.go ho hb h1 (fun h0 => ?_), fun h0 => h2 ?_⟩
  · obtain ⟨a1, a2, a3, -⟩ := wa_0 h0
    rw [a2, a3]; decide
  · exact Classical.byContradiction (fun q => by rw [go_o q] at h0; exact q h0)
/-- readPart -/
def rpM (f : Nat → Int32) (n : Int) (sn : Nat) (sf : Nat → Int32) (lo hi s pl sp : Int) (w : Int64) (le nu fa wr s1 pl1 sp1 : Int) (w1 : Int64) (le1 nu1 fa1 wr1 r : Int) : Prop := bys f → asc sn sf → sn ≤ 8 → ∀ σ, LkM f n σ s pl sp w le nu fa wr → LkM f n (rP f n sn sf lo hi σ) s1 pl1 sp1 w1 le1 nu1 fa1 wr1 ∧ ((rP f n sn sf lo hi σ).1 = 0 → r = tN f n (nd f n sn sf σ).2)
theorem rpM_of {f : Nat → Int32} {n : Int} {sn : Nat} {sf : Nat → Int32} {lo hi s pl sp : Int} {w : Int64} {le nu fa wr s1 pl1 sp1 : Int} {w1 : Int64} {le1 nu1 fa1 wr1 s2 pl2 sp2 : Int} {w2 : Int64} {le2 nu2 fa2 wr2 r : Int} (hn : nM f n sn sf s pl sp w le nu fa wr s1 pl1 sp1 w1 le1 nu1 fa1 wr1) (hr : rwM f n lo hi s1 pl1 sp1 w1 le1 nu1 fa1 wr1 s2 pl2 sp2 w2 le2 nu2 fa2 wr2 r) : rpM f n sn sf lo hi s pl sp w le nu fa wr s2 pl2 sp2 w2 le2 nu2 fa2 wr2 r := fun hb ha h8 σ hk => hr hb _ (hn hb ha h8 σ hk)
/-- the word's letters in goesOn, in packed -/
theorem gw_up {f : Nat → Int32} {n pl i' : Int} {c x q v : Int64} {sp b y z : Int32} (hA : rn f n 97 122 pl = rn f n 97 122 sp.toInt) (hc : c.toInt = cdI f pl.toNat (sp.toInt - pl).toNat) (h0 : 0 ≤ pl) (h1 : pl ≤ sp.toInt) (h8 : sp.toInt - pl < 8) (hl : 97 ≤ (f sp.toInt.toNat).toInt ∧ (f sp.toInt.toNat).toInt ≤ 122) (eb : b.toInt = (f sp.toInt.toNat).toInt) (e1 : x = 32 * c) (e2 : y = b - 97) (e3 : z = y + 1) (e4 : z.toInt64 = q) (e5 : v = x + q) (hi : i' = sp.toInt + 1) : v.toInt = cdI f pl.toNat (i' - pl).toNat := by
  have hw : ∀ k : Int, pl ≤ k → k < sp.toInt → 97 ≤ (f k.toNat).toInt ∧ (f k.toNat).toInt ≤ 122 := fun k k1 k2 => (rn_in (n := n) h0 k1 (by have := rn_ge (f := f) (n := n) (lo := 97) (hi := 122) (i := sp.toInt) (by omega); omega)).2
  have g1 := cd_8 (f := f) (s := pl.toNat) (m := (sp.toInt - pl).toNat) (fun j hj => by
    have := hw (pl + j) (by omega) (by omega)
    rw [show (pl + (j : Int)).toNat = pl.toNat + j by omega] at this
    exact this) (by omega)
  have t2 : y.toInt = b.toInt - 97 := ti_sub (A := b.toInt) (B := 97) e2 rfl (by decide) (by omega) (by omega)
  have t3 : z.toInt = b.toInt - 97 + 1 := ti_add (A := b.toInt - 97) (B := 1) e3 t2 (by decide) (by omega) (by omega)
  have t4 : q.toInt = b.toInt - 97 + 1 := by rw [← e4, Int32.toInt_toInt64, t3]
  have t1 : x.toInt = 32 * c.toInt := by
    rw [e1, Int64.toInt_mul, show (32 : Int64).toInt = 32 by decide]
    exact bm_64 (by omega) (by omega)
  have t5 : v.toInt = 32 * c.toInt + (b.toInt - 97 + 1) := by
    rw [e5, Int64.toInt_add, t1, t4]
    exact bm_64 (by omega) (by omega)
  rw [show (i' - pl).toNat = (sp.toInt - pl).toNat + 1 by omega]
  show _ = 32 * cdI f pl.toNat (sp.toInt - pl).toNat + ((f (pl.toNat + (sp.toInt - pl).toNat)).toInt - 96)
  rw [show pl.toNat + (sp.toInt - pl).toNat = sp.toInt.toNat by omega]
  omega
theorem pk_up {sn : Nat} {sf : Nat → Int32} {c x q v : Int64} {i r y z : Int32} {i' : Int} (ha : asc sn sf) (h8 : sn ≤ 8) (hc : c.toInt = cdI sf 0 i.toInt.toNat) (h0 : 0 ≤ i.toInt) (h1 : i.toInt < (sn : Int)) (e1 : x = 32 * c) (hr : ch1 sf i.toInt r.toInt) (e2 : y = r - 97) (e3 : z = y + 1) (e4 : z.toInt64 = q) (e5 : v = x + q) (hi : i' = i.toInt + 1) : v.toInt = cdI sf 0 i'.toNat := by
  have g1 := cd_8 (f := sf) (s := 0) (m := i.toInt.toNat) (fun j hj => by rw [Nat.zero_add]; exact ha j (by omega)) (by omega)
  have g2 := ha i.toInt.toNat (by omega)
  have eb := ch1_at ha h0 h1 hr
  have t2 : y.toInt = r.toInt - 97 := ti_sub (A := r.toInt) (B := 97) e2 rfl (by decide) (by omega) (by omega)
  have t3 : z.toInt = r.toInt - 97 + 1 := ti_add (A := r.toInt - 97) (B := 1) e3 t2 (by decide) (by omega) (by omega)
  have t4 : q.toInt = r.toInt - 97 + 1 := by rw [← e4, Int32.toInt_toInt64, t3]
  have t1 : x.toInt = 32 * c.toInt := by
    rw [e1, Int64.toInt_mul, show (32 : Int64).toInt = 32 by decide]
    exact bm_64 (by omega) (by omega)
  have t5 : v.toInt = 32 * c.toInt + (r.toInt - 97 + 1) := by
    rw [e5, Int64.toInt_add, t1, t4]
    exact bm_64 (by omega) (by omega)
  rw [show i'.toNat = i.toInt.toNat + 1 by omega]
  show _ = 32 * cdI sf 0 i.toInt.toNat + ((sf (0 + i.toInt.toNat)).toInt - 96)
  rw [Nat.zero_add]
  omega
theorem gn_up {f : Nat → Int32} {n pl i' : Int} {nu sp b x y v : Int32} (hA : rn f n 48 57 pl = rn f n 48 57 sp.toInt) (hc : nu.toInt = nmI f pl.toNat (sp.toInt - pl).toNat) (h0 : 0 ≤ pl) (h1 : pl ≤ sp.toInt) (h3 : sp.toInt - pl < 3) (hl : 48 ≤ (f sp.toInt.toNat).toInt ∧ (f sp.toInt.toNat).toInt ≤ 57) (eb : b.toInt = (f sp.toInt.toNat).toInt) (e1 : x = 10 * nu) (e2 : y = x + b) (e3 : v = y - 48) (hi : i' = sp.toInt + 1) : v.toInt = nmI f pl.toNat (i' - pl).toNat := by
  have hw : ∀ k : Int, pl ≤ k → k < sp.toInt → 48 ≤ (f k.toNat).toInt ∧ (f k.toNat).toInt ≤ 57 := fun k k1 k2 => (rn_in (n := n) h0 k1 (by have := rn_ge (f := f) (n := n) (lo := 48) (hi := 57) (i := sp.toInt) (by omega); omega)).2
  have g1 := nm_bd (f := f) (s := pl.toNat) (sp.toInt - pl).toNat (fun j hj => by
    have := hw (pl + j) (by omega) (by omega)
    rw [show (pl + (j : Int)).toNat = pl.toNat + j by omega] at this
    exact this)
  have t1 : x.toInt = 10 * nu.toInt := ti_mulk (A := 10) (B := nu.toInt) e1 (by decide) rfl (by omega) (by omega)
  have t2 : y.toInt = 10 * nu.toInt + b.toInt := ti_add (A := 10 * nu.toInt) (B := b.toInt) e2 t1 rfl (by omega) (by omega)
  have t3 : v.toInt = 10 * nu.toInt + b.toInt - 48 := ti_sub (A := 10 * nu.toInt + b.toInt) (B := 48) e3 t2 (by decide) (by omega) (by omega)
  rw [show (i' - pl).toNat = (sp.toInt - pl).toNat + 1 by omega]
  show _ = 10 * nmI f pl.toNat (sp.toInt - pl).toNat + ((f (pl.toNat + (sp.toInt - pl).toNat)).toInt - 48)
  rw [show pl.toNat + (sp.toInt - pl).toNat = sp.toInt.toNat by omega]
  omega
theorem rn_gt {f : Nat → Int32} {n lo hi i : Int} (h0 : 0 ≤ i) (hn : n ≤ 800) (h : i < n ∧ lo ≤ (f i.toNat).toInt ∧ (f i.toNat).toInt ≤ hi) : i < rn f n lo hi i := by
  rw [rn_eq h0 hn, if_pos h]
  have := rn_ge (f := f) (n := n) (lo := lo) (hi := hi) (i := i + 1) (by omega)
  omega
theorem lkm {f : Nat → Int32} {n i s sp1 s1 fa wr le nu : Int} {w : Int64} (h0 : 0 ≤ i) (hf : fa = 0) (hs : rn f n 32 32 i = s)
    (hc : (n ≤ s ∧ s1 = 1 ∧ sp1 = s) ∨ (s < n ∧ s < rn f n 97 122 s ∧ sp1 = rn f n 97 122 s ∧ ((sp1 - s ≤ 8 ∧ s1 = 2 ∧ le = sp1 - s ∧ w.toInt = cdI f s.toNat (sp1 - s).toNat) ∨ (8 < sp1 - s ∧ s1 = 0))) ∨ (s < n ∧ ¬ s < rn f n 97 122 s ∧ s < rn f n 48 57 s ∧ sp1 = rn f n 48 57 s ∧ ((sp1 - s ≤ 3 ∧ s1 = 3 ∧ nu = nmI f s.toNat (sp1 - s).toNat) ∨ (3 < sp1 - s ∧ s1 = 0))) ∨ (s < n ∧ ¬ s < rn f n 97 122 s ∧ ¬ s < rn f n 48 57 s ∧ (((f s.toNat).toInt = 59 ∧ s1 = 4 ∧ sp1 = s + 1) ∨ ((f s.toNat).toInt ≠ 59 ∧ s1 = 0)))) : LkM f n (0, i) s1 s sp1 w le nu fa wr := by
  have hs' : tS f n i = s := hs
  refine Or.inl ⟨rfl, h0, hf, ?_⟩
  show s1 = kM (tK f n i) ∧ s = tS f n i ∧ (tK f n i ≠ 0 → sp1 = tE f n i) ∧ (tK f n i = 1 → le = tE f n i - tS f n i ∧ w.toInt = tC f n i) ∧ (tK f n i = 2 → nu = tN f n i)
  unfold tC tN
  rcases hc with ⟨c1, c2, c3⟩ | ⟨c1, c2, c3, c4⟩ | ⟨c1, c2, c3, c4, c5⟩ | ⟨c1, c2, c3, c4⟩
  · have k1 : tK f n i = 4 := by unfold tK; rw [hs', if_pos c1]
    have e1 : tE f n i = s := by unfold tE; rw [hs', if_pos c1]
    rw [k1, e1, hs']
    exact ⟨c2, rfl, fun _ => c3, fun q => absurd q (by decide), fun q => absurd q (by decide)⟩
  · have e1 : tE f n i = sp1 := by unfold tE; rw [hs', if_neg (by omega), if_pos c2, c3]
    rcases c4 with c4 | c4
    · have k1 : tK f n i = 1 := by unfold tK; rw [hs', if_neg (by omega), if_pos c2, if_pos (by omega)]
      rw [k1, e1, hs']
      exact ⟨c4.2.1, rfl, fun _ => rfl, fun _ => c4.2.2, fun q => absurd q (by decide)⟩
    · have k1 : tK f n i = 0 := by unfold tK; rw [hs', if_neg (by omega), if_pos c2, if_neg (by omega)]
      rw [k1, e1, hs']
      exact ⟨c4.2, rfl, fun q => absurd rfl q, fun q => absurd q (by decide), fun q => absurd q (by decide)⟩
  · have e1 : tE f n i = sp1 := by unfold tE; rw [hs', if_neg (by omega), if_neg c2, if_pos c3, c4]
    rcases c5 with c5 | c5
    · have k1 : tK f n i = 2 := by unfold tK; rw [hs', if_neg (by omega), if_neg c2, if_pos c3, if_pos (by omega)]
      rw [k1, e1, hs']
      exact ⟨c5.2.1, rfl, fun _ => rfl, fun q => absurd q (by decide), fun _ => c5.2.2⟩
    · have k1 : tK f n i = 0 := by unfold tK; rw [hs', if_neg (by omega), if_neg c2, if_pos c3, if_neg (by omega)]
      rw [k1, e1, hs']
      exact ⟨c5.2, rfl, fun q => absurd rfl q, fun q => absurd q (by decide), fun q => absurd q (by decide)⟩
  · have e1 : tE f n i = s + 1 := by unfold tE; rw [hs', if_neg (by omega), if_neg c2, if_neg c3]
    rcases c4 with c4 | c4
    · have k1 : tK f n i = 3 := by unfold tK; rw [hs', if_neg (by omega), if_neg c2, if_neg c3, if_pos c4.1]
      rw [k1, e1, hs']
      exact ⟨c4.2.1, rfl, fun _ => c4.2.2, fun q => absurd q (by decide), fun q => absurd q (by decide)⟩
    · have k1 : tK f n i = 0 := by unfold tK; rw [hs', if_neg (by omega), if_neg c2, if_neg c3, if_neg c4.1]
      rw [k1, e1, hs']
      exact ⟨c4.2, rfl, fun q => absurd rfl q, fun q => absurd q (by decide), fun q => absurd q (by decide)⟩
/-- eatsSemicolon -/
def esM (f : Nat → Int32) (n s pl sp : Int) (w : Int64) (le nu fa wr s1 pl1 sp1 : Int) (w1 : Int64) (le1 nu1 r : Int) : Prop := bys f → ∀ σ, LkM f n σ s pl sp w le nu fa wr → (r = 1 ∧ σ.1 = 0 ∧ tK f n σ.2 = 3 ∧ LkM f n (go f n σ) s1 pl1 sp1 w1 le1 nu1 fa wr) ∨ (r = 0 ∧ (σ.1 = 0 → tK f n σ.2 ≠ 3) ∧ LkM f n σ s1 pl1 sp1 w1 le1 nu1 fa wr)
theorem esM_y {f : Nat → Int32} {n s pl sp : Int} {w : Int64} {le nu fa wr s1 pl1 sp1 : Int} {w1 : Int64} {le1 nu1 r : Int} (hs : s = 4) (hr : r = 1) (hg : gR f n s sp fa wr s1 pl1 sp1 w1 le1 nu1) (ho : ov s s1) : esM f n s pl sp w le nu fa wr s1 pl1 sp1 w1 le1 nu1 r := by
  intro hb σ hk
  rcases hk with q | q
  · have h3 := kM_4 (q.2.2.2.1.symm.trans hs)
    exact Or.inl ⟨hr, q.1, h3, hg.go ho hb (Or.inl q) (fun _ => by rw [h3]; decide)⟩
  · omega
theorem esM_n {f : Nat → Int32} {n s pl sp : Int} {w : Int64} {le nu fa wr r : Int} (hs : s ≠ 4) (hr : r = 0) : esM f n s pl sp w le nu fa wr s pl sp w le nu r := by
  intro hb σ hk
  refine Or.inr ⟨hr, fun h0 h3 => ?_, hk⟩
  rcases hk with q | q
  · apply hs
    rw [q.2.2.2.1, h3]; rfl
  · exact q.1 h0
theorem leq_cmp {x : Int32} {a b : Int64} (e : x = lg_cmp a b) (h : x.toInt = 0) : a = b := by
  rw [e] at h
  unfold lg_cmp at h
  split at h
  · exact absurd h (by decide)
  · split at h
    · assumption
    · exact absurd h (by decide)
theorem lne_cmp {x : Int32} {a b : Int64} (e : x = lg_cmp a b) (h : x.toInt ≠ 0) : ¬ a = b := by
  intro hz
  subst hz
  apply h
  rw [e]
  unfold lg_cmp
  rw [if_neg (fun q : a > a => by have := Int64.lt_iff_toInt_lt.mp q; omega), if_pos rfl]
  decide
