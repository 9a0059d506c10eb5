/-- of walkers, how many have no way -/
def ldN (u : Nat → Int) : Nat → Int
  | 0 => 0
  | k + 1 => ldN u k + (if u k = -2 then 1 else 0)
theorem ldN_s {u : Nat → Int} {k : Nat} : ldN u (k + 1) = ldN u k + (if u k = -2 then 1 else 0) := rfl
theorem ldN_c {u u' : Nat → Int} : ∀ k : Nat, (∀ j : Nat, j < k → u j = u' j) → ldN u k = ldN u' k
  | 0, _ => rfl
  | k + 1, h => by rw [ldN_s, ldN_s, ldN_c k (fun j hj => h j (by omega)), h k (by omega)]
theorem ldN_le {u : Nat → Int} {j : Nat} : ∀ k : Nat, j ≤ k → ldN u j ≤ ldN u k
  | 0, h => by
    rw [show j = 0 by omega]
    exact Int.le_refl _
  | k + 1, h => by
    by_cases z : j = k + 1
    · rw [z]
      exact Int.le_refl _
    · have g := ldN_le (u := u) k (show j ≤ k by omega)
      rw [ldN_s]
      split <;> omega
/-- none of the first k is the i-th without a way -/
def ldT (u : Nat → Int) (i k : Int) : Prop := ∀ j : Nat, (j : Int) < k → u j = -2 → ldN u j ≠ i
def ldO (u : Nat → Int) (wk i th r : Int) : Prop := (th = 0 ∧ (0 ≤ r ∧ r < wk) ∧ u r.toNat = -2 ∧ ldN u r.toNat = i) ∨ (th = 1 ∧ ldT u i wk)
theorem ldT_c {u u' : Nat → Int} {i k : Int} (h : ∀ j : Nat, (j : Int) < k → u j = u' j) (ht : ldT u i k) : ldT u' i k := fun j hj hu => by
  have g := ht j hj (by rw [h j hj]; exact hu)
  rw [ldN_c (u := u) (u' := u') j (fun m hm => h m (by omega))] at g
  exact g
theorem ldO_c {u u' : Nat → Int} {wk i th r : Int} (h : ∀ j : Nat, (j : Int) < wk → u j = u' j) (ho : ldO u wk i th r) : ldO u' wk i th r := by
  rcases ho with ⟨a, b, c, d⟩ | ⟨a, b⟩
  · refine Or.inl ⟨a, b, ?_, ?_⟩
    · rw [← h _ (by omega)]
      exact c
    · rw [← ldN_c (u := u) (u' := u') r.toNat (fun m hm => h m (by omega))]
      exact d
  · exact Or.inr ⟨a, ldT_c h b⟩
theorem ldO_lt {u : Nat → Int} {i r r' : Int} (h0 : 0 ≤ r) (h : r < r') (hu : u r.toNat = -2) (h1 : ldN u r.toNat = i) (h2 : ldN u r'.toNat = i) : False := by
  have g := ldN_le (u := u) r'.toNat (show r.toNat + 1 ≤ r'.toNat by omega)
  rw [ldN_s, if_pos hu] at g
  omega
theorem ldO_u {u : Nat → Int} {wk i th r th' r' : Int} (h : ldO u wk i th r) (h' : ldO u wk i th' r') : th = th' ∧ (th = 0 → r = r') := by
  rcases h with ⟨a, b, c, d⟩ | ⟨a, b⟩
  · rcases h' with ⟨a', b', c', d'⟩ | ⟨a', b'⟩
    · refine ⟨a.trans a'.symm, fun _ => ?_⟩
      rcases Int.lt_trichotomy r r' with z | z | z
      · exact (ldO_lt b.1 z c d d').elim
      · exact z
      · exact (ldO_lt b'.1 z c' d' d).elim
    · exact absurd d (b' r.toNat (by omega) c)
  · rcases h' with ⟨a', b', c', d'⟩ | ⟨a', b'⟩
    · exact absurd d' (b r'.toNat (by omega) c')
    · exact ⟨a.trans a'.symm, fun q => by omega⟩
/-- the class's search -/
def ldI (w n m : Int) (f kd at_ go : Nat → Int32) (i0 k b : Int) : Prop := ∀ Ls : Nat → Nat → Int, lsH w n m f kd at_ go Ls → b = ldN (lsU at_ Ls) k.toNat ∧ ldT (lsU at_ Ls) i0 k
theorem ldI_0 {w n m i0 k b : Int} {f kd at_ go : Nat → Int32} (hk : k = 0) (hb : b = 0) : ldI w n m f kd at_ go i0 k b := fun Ls _ => by
  subst hk hb
  exact ⟨rfl, fun j hj => by omega⟩
theorem ldI_n {w n m i0 k k1 b r : Int} {f kd at_ go : Nat → Int32} (h : ldI w n m f kd at_ go i0 k b) (hs : soQ w n f (kd k.toNat).toInt (at_ k.toNat).toInt (go k.toNat).toInt r) (h0 : 0 ≤ k) (h1 : k < m) (hr : r ≠ -2) (hk : k1 = k + 1) : ldI w n m f kd at_ go i0 k1 b := fun Ls H => by
  obtain ⟨g1, g2⟩ := h Ls H
  have e := lsU_of H hs h0 h1
  rw [show k1.toNat = k.toNat + 1 by omega, ldN_s, if_neg (show ¬ lsU at_ Ls k.toNat = -2 by rw [e]; exact hr)]
  refine ⟨by omega, fun j hj hu => ?_⟩
  by_cases z : j = k.toNat
  · exfalso
    rw [z, e] at hu
    exact hr hu
  · exact g2 j (by omega) hu
theorem ldI_y {w n m i0 k k1 b b1 r : Int} {f kd at_ go : Nat → Int32} (h : ldI w n m f kd at_ go i0 k b) (hs : soQ w n f (kd k.toNat).toInt (at_ k.toNat).toInt (go k.toNat).toInt r) (h0 : 0 ≤ k) (h1 : k < m) (hr : r = -2) (hb : b ≠ i0) (hb1 : b1 = b + 1) (hk : k1 = k + 1) : ldI w n m f kd at_ go i0 k1 b1 := fun Ls H => by
  obtain ⟨g1, g2⟩ := h Ls H
  have e := lsU_of H hs h0 h1
  rw [show k1.toNat = k.toNat + 1 by omega, ldN_s, if_pos (show lsU at_ Ls k.toNat = -2 by rw [e]; exact hr)]
  refine ⟨by omega, fun j hj hu => ?_⟩
  by_cases z : j = k.toNat
  · rw [z, ← g1]
    exact hb
  · exact g2 j (by omega) hu
def ldP (wk w n : Int) (f kd at_ go : Nat → Int32) (i0 th r : Int) : Prop := ∀ Ls : Nat → Nat → Int, lsH w n wk f kd at_ go Ls → ldO (lsU at_ Ls) wk i0 th r
theorem ldP_r {wk w n i0 k b r r2 th : Int} {f kd at_ go : Nat → Int32} (h : ldI w n wk f kd at_ go i0 k b) (hs : soQ w n f (kd k.toNat).toInt (at_ k.toNat).toInt (go k.toNat).toInt r2) (h0 : 0 ≤ k) (h1 : k < wk) (hr2 : r2 = -2) (hb : b = i0) (hr : r = k) (ht : th = 0) : ldP wk w n f kd at_ go i0 th r := fun Ls H => by
  obtain ⟨g1, g2⟩ := h Ls H
  have e := lsU_of H hs h0 h1
  subst hr
  exact Or.inl ⟨ht, ⟨h0, h1⟩, e.trans hr2, by rw [← g1]; exact hb⟩
theorem ldP_t {wk w n i0 k b r th : Int} {f kd at_ go : Nat → Int32} (h : ldI w n wk f kd at_ go i0 k b) (hk : wk ≤ k) (ht : th = 1) : ldP wk w n f kd at_ go i0 th r := fun Ls H => Or.inr ⟨ht, fun j hj hu => (h Ls H).2 j (by omega) hu⟩
theorem ldP_any {wk w n i0 r r1 th : Int} {f kd at_ go : Nat → Int32} (h : ldP wk w n f kd at_ go i0 1 r) (ht : th = 1) : ldP wk w n f kd at_ go i0 th r1 := fun Ls H => by
  rcases h Ls H with ⟨z, _⟩ | ⟨_, z⟩
  · exact absurd z (by decide)
  · exact Or.inr ⟨ht, z⟩
/-- what a row of one long says -/
def ofI (f : Nat → Int64) : Int := (f 0).toInt
theorem ofI_up {f f1 : Nat → Int64} {y : Int64} {r : Int32} (e : vp_updL f (Int32.toNatClampNeg 0) y = f1) (ey : r.toInt64 = y) : ofI f1 = r.toInt := by
  have g : f1 0 = y := by
    rw [← e]
    unfold vp_updL
    exact if_pos rfl
  show (f1 0).toInt = r.toInt
  rw [g, ← ey]
  exact Int32.toInt_toInt64 r
