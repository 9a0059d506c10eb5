/-- what a call's trouble is, by what it is refused for -/
def tr1 (B : Prop) (t : Int) : Prop := (B ∧ t = 1) ∨ (¬ B ∧ t = 0)
def tr2 (B C : Prop) (t : Int) : Prop := (B ∧ t = 1) ∨ (¬ B ∧ C ∧ t = 2) ∨ (¬ B ∧ ¬ C ∧ t = 0)
def tr6 (B C D : Prop) (t : Int) : Prop := (B ∧ t = 1) ∨ (¬ B ∧ C ∧ t = 2) ∨ (¬ B ∧ ¬ C ∧ D ∧ t = 6) ∨ (¬ B ∧ ¬ C ∧ ¬ D ∧ t = 0)
def tr9 (B C F : Prop) (t : Int) : Prop := (B ∧ t = 1) ∨ (¬ B ∧ C ∧ t = 2) ∨ (¬ B ∧ ¬ C ∧ F)
def trB (O : Prop) (r t : Int) : Prop := (r = 1 ∧ t = 0) ∨ (r = 0 ∧ ((O ∧ t = 1) ∨ (¬ O ∧ t = 5)))
def trU (r t : Int) : Prop := (r = 1 ∧ t = 0) ∨ (r = 0 ∧ t = 6)
def trK (r t : Int) : Prop := (r = 1 ∧ t = 0) ∨ (r = 0 ∧ t = 1)
def trI (r t : Int) : Prop := (r = -1 ∧ t = 3) ∨ (r ≠ -1 ∧ t = 0)
/-- of slips: is there a way without -/
def fdT (w n : Int) (f kd at_ go : Nat → Int32) (p t : Int) : Prop := ∀ L : Nat → Int, 0 ≤ (at_ p.toNat).toInt → (at_ p.toNat).toInt < n → 0 ≤ (go p.toNat).toInt → (go p.toNat).toInt < n → wyL n.toNat (cT w n f (kd p.toNat).toInt) (cW w n f (kd p.toNat).toInt 1) (go p.toNat).toInt.toNat L → (L (at_ p.toNat).toInt.toNat = 9999999 ∧ t = 6) ∨ (L (at_ p.toNat).toInt.toNat ≠ 9999999 ∧ t = 0)
theorem fdT_of {w n p t r9 : Int} {f kd at_ go st pl ar : Nat → Int32} {len fc : Int} (h : fdQ w n f (kd p.toNat).toInt (at_ p.toNat).toInt (go p.toNat).toInt 1 r9 st pl ar len fc) (hr : (r9 = 0 ∧ t = 6) ∨ (r9 ≠ 0 ∧ t = 0)) : fdT w n f kd at_ go p t := by
  intro L a0 a1 g0 g1 hL
  rcases h with ⟨z1, z2⟩ | ⟨_, z⟩
  · exfalso
    omega
  · rcases z L hL with ⟨y1, y2⟩ | ⟨y1, y2, _⟩
    · exact Or.inl ⟨y1, by omega⟩
    · exact Or.inr ⟨y1, by omega⟩
