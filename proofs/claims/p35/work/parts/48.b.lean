/-- a text of small letters -/
def asc (sn : Nat) (sf : Nat → Int32) : Prop := ∀ k, k < sn → 97 ≤ (sf k).toInt ∧ (sf k).toInt ≤ 122
/-- a text's letter -/
def ch1 (sf : Nat → Int32) (i r : Int) : Prop := 0 ≤ (sf i.toNat).toInt → (sf i.toNat).toInt ≤ 127 → r = (sf i.toNat).toInt
theorem i32_nat {x : Int32} (h0 : 0 ≤ x.toInt) : x = Int32.ofNat x.toInt.toNat := by
  have h1 := ti_bd x
  apply Int32.toInt_inj.mp
  rw [Int32.toInt_ofNat_of_lt (by omega)]
  omega
theorem ch_id {x y z : Int32} (e1 : y = x &&& 255) (e2 : (y.toUInt32 % 65536).toInt32 = z) (h0 : 0 ≤ x.toInt) (h1 : x.toInt ≤ 127) : z.toInt = x.toInt := by
  have key : ∀ n : Fin 128, (((Int32.ofNat n.val &&& 255).toUInt32 % 65536).toInt32).toInt = (Int32.ofNat n.val).toInt := by decide +kernel
  have h2 := key ⟨x.toInt.toNat, by omega⟩
  rw [← i32_nat h0] at h2
  rw [← e2, e1]
  exact h2
theorem ch_b {x y : Int32} (e : x.toInt8.toInt32 = y) (h0 : 0 ≤ x.toInt) (h1 : x.toInt ≤ 127) : y.toInt = x.toInt := by
  have key : ∀ n : Fin 128, ((Int32.ofNat n.val).toInt8.toInt32).toInt = (Int32.ofNat n.val).toInt := by decide +kernel
  have h2 := key ⟨x.toInt.toNat, by omega⟩
  rw [← i32_nat h0] at h2
  rw [← e]
  exact h2
theorem ch_c {x y : Int32} (e : (x.toUInt32 % 65536).toInt32 = y) (h0 : 0 ≤ x.toInt) (h1 : x.toInt ≤ 127) : y.toInt = x.toInt := by
  have key : ∀ n : Fin 128, (((Int32.ofNat n.val).toUInt32 % 65536).toInt32).toInt = (Int32.ofNat n.val).toInt := by decide +kernel
  have h2 := key ⟨x.toInt.toNat, by omega⟩
  rw [← i32_nat h0] at h2
  rw [← e]
  exact h2
theorem ch1_of {sf : Nat → Int32} {i x y z : Int32} (e0 : sf (Int32.toNatClampNeg i) = x) (e1 : y = x &&& 255) (e2 : (y.toUInt32 % 65536).toInt32 = z) : ch1 sf i.toInt z.toInt := by
  intro h0 h1
  have e : sf i.toInt.toNat = x := e0
  rw [e] at h0 h1 ⊢
  exact ch_id e1 e2 h0 h1
/-- the letters ahead of i are the text's -/
def wpre (f : Nat → Int32) (st : Int) (sf : Nat → Int32) (i : Int) : Prop := ∀ k : Nat, (k : Int) < i → (f (st.toNat + k)).toInt = (sf k).toInt
theorem wpre_0 {f : Nat → Int32} {st : Int} {sf : Nat → Int32} : wpre f st sf 0 := fun k hk => by omega
theorem rd_st {f : Nat → Int32} {st i : Int} {a x : Int32} (h0 : 0 ≤ i) (hs : 0 ≤ st) (e1 : a.toInt = st + i) (ex : x = f a.toNatClampNeg) : (f (st.toNat + i.toNat)).toInt = x.toInt := by
  have e2 : a.toNatClampNeg = a.toInt.toNat := rfl
  rw [ex, e2, e1, show (st + i).toNat = st.toNat + i.toNat by omega]
theorem ch1_at {sn : Nat} {sf : Nat → Int32} {i r : Int} (ha : asc sn sf) (h0 : 0 ≤ i) (h1 : i < (sn : Int)) (hr : ch1 sf i r) : r = (sf i.toNat).toInt := by
  have := ha i.toNat (by omega)
  exact hr (by omega) (by omega)
theorem wpre_up {f : Nat → Int32} {st : Int} {sn : Nat} {sf : Nat → Int32} {i a x r : Int32} {i' : Int} (h : wpre f st sf i.toInt) (ha : asc sn sf) (h0 : 0 ≤ i.toInt) (h1 : i.toInt < (sn : Int)) (hs : 0 ≤ st) (e1 : a.toInt = st + i.toInt) (ex : x = f a.toNatClampNeg) (hr : ch1 sf i.toInt r.toInt) (heq : x.toInt = r.toInt) (e : i' = i.toInt + 1) : wpre f st sf i' := by
  intro k hk
  by_cases hc : (k : Int) < i.toInt
  · exact h k hc
  · have hk' : k = i.toInt.toNat := by omega
    subst hk'
    rw [rd_st h0 hs e1 ex, heq]
    exact ch1_at ha h0 h1 hr
theorem wd_mis {f : Nat → Int32} {tok st sp : Int} {sn : Nat} {sf : Nat → Int32} {i a x r : Int32} (ha : asc sn sf) (h0 : 0 ≤ i.toInt) (h1 : i.toInt < (sn : Int)) (hs : 0 ≤ st) (e1 : a.toInt = st + i.toInt) (ex : x = f a.toNatClampNeg) (hr : ch1 sf i.toInt r.toInt) (hne : x.toInt ≠ r.toInt) : ¬ isWd f tok st sp sn sf := by
  intro hw
  have h2 := hw.2.2 i.toInt.toNat (by omega)
  rw [rd_st h0 hs e1 ex] at h2
  exact hne (h2.trans (ch1_at ha h0 h1 hr).symm)
/-- what isWord of the class says -/
def wdP (f : Nat → Int32) (tok st sp : Int) (sn : Nat) (sf : Nat → Int32) (r : Int) : Prop := asc sn sf → ((r = 1 ∧ isWd f tok st sp sn sf) ∨ (r = 0 ∧ ¬ isWd f tok st sp sn sf))
theorem wdP.no {f : Nat → Int32} {tok st sp : Int} {sn : Nat} {sf : Nat → Int32} {r : Int} (h : wdP f tok st sp sn sf r) (ha : asc sn sf) (hr : r = 0) : ¬ isWd f tok st sp sn sf := by
  rcases h ha with q | q
  · omega
  · exact q.2
theorem wdP.yes {f : Nat → Int32} {tok st sp : Int} {sn : Nat} {sf : Nat → Int32} {r : Int} (h : wdP f tok st sp sn sf r) (ha : asc sn sf) (hr : r ≠ 0) : isWd f tok st sp sn sf := by
  rcases h ha with q | q
  · exact q.2
  · omega
theorem LkC.wd {f : Nat → Int32} {n j tok st sp : Int} {sn : Nat} {sf : Nat → Int32} (h : LkC f n j tok st sp) : isWd f tok st sp sn sf ↔ isW f n sn sf j := by
  obtain ⟨-, h1, h2, h3⟩ := h
  subst h1 h2 h3
  exact Iff.rfl
/-- readWord of the class -/
def qW (f : Nat → Int32) (n : Int) (sn : Nat) (sf : Nat → Int32) (tok st sp r tok1 st1 sp1 fa fat : Int) : Prop := ∀ σ : Int × Int, σ.1 = 0 → asc sn sf → LkC f n σ.2 tok st sp → OcC f n (nd f n sn sf σ) r tok1 st1 sp1 fa fat
theorem qW_n {f : Nat → Int32} {n : Int} {sn : Nat} {sf : Nat → Int32} {tok st sp rw9 r tok1 st1 sp1 fa fat : Int} (hw : wdP f tok st sp sn sf rw9) (h9 : rw9 = 0) (h1 : r = 0) (hf : fa = 1) (ht : fat = st) : qW f n sn sf tok st sp r tok1 st1 sp1 fa fat := by
  intro σ hσ ha hk
  have h2 := hw.no ha h9
  rw [hk.wd] at h2
  refine Or.inr ⟨h1, ?_⟩
  unfold nd
  rw [wd1_n h2, fl_z hσ, go_o (pn (show (1 : Int) ≠ 0 by decide))]
  exact ⟨pn (by decide), hf, ht.trans hk.2.2.1⟩
theorem qW_y {f : Nat → Int32} {n : Int} {sn : Nat} {sf : Nat → Int32} {tok st sp rw9 r tok1 st1 sp1 fa fat : Int} (hw : wdP f tok st sp sn sf rw9) (h9 : rw9 ≠ 0) (h1 : r = 1) (hn : LkC f n sp tok1 st1 sp1) : qW f n sn sf tok st sp r tok1 st1 sp1 fa fat := by
  intro σ hσ ha hk
  have h2 := hw.yes ha h9
  rw [hk.wd] at h2
  refine Or.inl ⟨h1, ?_⟩
  unfold nd
  rw [wd1_y h2, go_z hσ]
  refine ⟨rfl, ?_⟩
  have h3 : sp = tE f n σ.2 := hk.2.2.2
  rw [← h3]
  exact hn
/-- digits -/
def dgs (f : Nat → Int32) (st sp : Int) : Prop := sp - st ≤ 3 ∧ ∀ k : Int, st ≤ k → k < sp → 48 ≤ (f k.toNat).toInt ∧ (f k.toNat).toInt ≤ 57
theorem dgs_nat {f : Nat → Int32} {st sp : Int} (hd : dgs f st sp) (h0 : 0 ≤ st) {m : Nat} (hm : st + (m : Int) ≤ sp) : ∀ j, j < m → 48 ≤ (f (st.toNat + j)).toInt ∧ (f (st.toNat + j)).toInt ≤ 57 := fun j hj => by
  have := hd.2 (st + j) (by omega) (by omega)
  rw [show (st + (j : Int)).toNat = st.toNat + j by omega] at this
  exact this
theorem nm_up {f : Nat → Int32} {st sp i' : Int} {nu i b x y v : Int32} (hd : dgs f st sp) (hn : nu.toInt = nmI f st.toNat (i.toInt - st).toNat) (h0 : 0 ≤ st) (h1 : st ≤ i.toInt) (h2 : i.toInt < sp) (e1 : x = nu * 10) (eb : b = f i.toNatClampNeg) (e2 : y = x + b) (e3 : v = y - 48) (hi : i' = i.toInt + 1) : v.toInt = nmI f st.toNat (i' - st).toNat := by
  have hl := hd.1
  have g1 := nm_bd (f := f) (s := st.toNat) (i.toInt - st).toNat (dgs_nat hd h0 (by omega))
  have g2 := hd.2 i.toInt h1 h2
  have e4 : (f i.toInt.toNat).toInt = b.toInt := by rw [eb]; rfl
  have t1 : x.toInt = nu.toInt * 10 := ti_mulk (A := nu.toInt) (B := 10) e1 rfl (by decide) (by omega) (by omega)
  have t2 : y.toInt = nu.toInt * 10 + b.toInt := ti_add (A := nu.toInt * 10) (B := b.toInt) e2 t1 rfl (by omega) (by omega)
  have t3 : v.toInt = nu.toInt * 10 + b.toInt - 48 := ti_sub (A := nu.toInt * 10 + b.toInt) (B := 48) e3 t2 (by decide) (by omega) (by omega)
  rw [show (i' - st).toNat = (i.toInt - st).toNat + 1 by omega]
  show _ = 10 * nmI f st.toNat (i.toInt - st).toNat + ((f (st.toNat + (i.toInt - st).toNat)).toInt - 48)
  rw [show st.toNat + (i.toInt - st).toNat = i.toInt.toNat by omega]
  omega
theorem LkC.dg {f : Nat → Int32} {n j tok st sp : Int} (h : LkC f n j tok st sp) (ht : tok = 2) : dgs f st sp := by
  obtain ⟨h0, h1, h2, h3⟩ := h
  subst h1 h2 h3
  obtain ⟨a1, a2, a3⟩ := tK_n h0 ht
  exact ⟨a1, fun k k1 k2 => (a3 k k1 k2).2⟩
/-- readWhole of the class -/
def qN (f : Nat → Int32) (n lo hi tok st sp r num1 tok1 st1 sp1 fa fat : Int) : Prop := ∀ σ : Int × Int, σ.1 = 0 → LkC f n σ.2 tok st sp → OcC f n (rW f n lo hi σ) r tok1 st1 sp1 fa fat ∧ (r = 1 → num1 = tN f n σ.2)
theorem qN_1 {f : Nat → Int32} {n lo hi tok st sp r num1 tok1 st1 sp1 fa fat : Int} (ht : tok ≠ 2) (h1 : r = 0) (hf : fa = 1) (hs : fat = st) : qN f n lo hi tok st sp r num1 tok1 st1 sp1 fa fat := by
  intro σ hσ hk
  have h2 : tK f n σ.2 ≠ 2 := by rw [← hk.2.1]; exact ht
  refine ⟨Or.inr ⟨h1, ?_⟩, fun q => by omega⟩
  unfold rW wa
  rw [if_pos h2, fl_z hσ, go_o (pn (show (1 : Int) ≠ 0 by decide))]
  exact ⟨pn (by decide), hf, hs.trans hk.2.2.1⟩
theorem LkC.num {f : Nat → Int32} {n j tok st sp nu : Int} (h : LkC f n j tok st sp) (hn : nu = nmI f st.toNat (sp - st).toNat) : nu = tN f n j := by
  obtain ⟨-, h1, h2, h3⟩ := h
  subst h1 h2 h3
  exact hn
theorem qN_4 {f : Nat → Int32} {n lo hi tok st sp r num1 tok1 st1 sp1 fa fat nu : Int} (ht : tok = 2) (hn : dgs f st sp → nu = nmI f st.toNat (sp - st).toNat) (hb : nu < lo ∨ hi < nu) (h1 : r = 0) (hf : fa = 4) (hs : fat = st) : qN f n lo hi tok st sp r num1 tok1 st1 sp1 fa fat := by
  intro σ hσ hk
  have h2 : ¬ tK f n σ.2 ≠ 2 := by rw [← hk.2.1]; exact fun q => q ht
  have h3 := hk.num (hn (hk.dg ht))
  refine ⟨Or.inr ⟨h1, ?_⟩, fun q => by omega⟩
  unfold rW wa
  rw [if_neg h2, if_pos (by rw [← h3]; exact hb), fl_z hσ, go_o (pn (show (4 : Int) ≠ 0 by decide))]
  exact ⟨pn (by decide), hf, hs.trans hk.2.2.1⟩
theorem qN_y {f : Nat → Int32} {n lo hi tok st sp r tok1 st1 sp1 fa fat nu : Int} (ht : tok = 2) (hn : dgs f st sp → nu = nmI f st.toNat (sp - st).toNat) (hb : ¬ (nu < lo ∨ hi < nu)) (h1 : r = 1) (hx : LkC f n sp tok1 st1 sp1) : qN f n lo hi tok st sp r nu tok1 st1 sp1 fa fat := by
  intro σ hσ hk
  have h2 : ¬ tK f n σ.2 ≠ 2 := by rw [← hk.2.1]; exact fun q => q ht
  have h3 := hk.num (hn (hk.dg ht))
  refine ⟨Or.inl ⟨h1, ?_⟩, fun _ => h3⟩
  unfold rW wa
  rw [if_neg h2, if_neg (by rw [← h3]; exact hb), go_z hσ]
  refine ⟨rfl, ?_⟩
  have h4 : sp = tE f n σ.2 := hk.2.2.2
  rw [← h4]
  exact hx
/-- letters -/
def wds (f : Nat → Int32) (st sp : Int) : Prop := sp - st ≤ 8 ∧ ∀ k : Int, st ≤ k → k < sp → 97 ≤ (f k.toNat).toInt ∧ (f k.toNat).toInt ≤ 122
theorem wds_nat {f : Nat → Int32} {st sp : Int} (hd : wds f st sp) (h0 : 0 ≤ st) {m : Nat} (hm : st + (m : Int) ≤ sp) : ∀ j, j < m → 97 ≤ (f (st.toNat + j)).toInt ∧ (f (st.toNat + j)).toInt ≤ 122 := fun j hj => by
  have := hd.2 (st + j) (by omega) (by omega)
  rw [show (st + (j : Int)).toNat = st.toNat + j by omega] at this
  exact this
theorem cd_8 {f : Nat → Int32} {s m : Nat} (h : ∀ j, j < m → 97 ≤ (f (s + j)).toInt ∧ (f (s + j)).toInt ≤ 122) (hm : m ≤ 8) : 0 ≤ cdI f s m ∧ cdI f s m < 1099511627776 := by
  have h1 := cd_bd m h
  have h2 : (32 : Nat) ^ m ≤ 32 ^ 8 := Nat.pow_le_pow_right (by decide) hm
  have h3 : (32 : Nat) ^ 8 = 1099511627776 := by decide
  omega
theorem bm_64 {z : Int} (h1 : -9223372036854775808 ≤ z) (h2 : z ≤ 9223372036854775807) : z.bmod (2 ^ 64) = z := by
  rw [Int.bmod_def]
  split <;> omega
theorem cd_up {f : Nat → Int32} {st sp i' : Int} {c x q v : Int64} {i b y z : Int32} (hd : wds f st sp) (hc : c.toInt = cdI f st.toNat (i.toInt - st).toNat) (h0 : 0 ≤ st) (h1 : st ≤ i.toInt) (h2 : i.toInt < sp) (e1 : x = c * 32) (eb : b = f i.toNatClampNeg) (e2 : y = b - 97) (e3 : z = y + 1) (e4 : z.toInt64 = q) (e5 : v = x + q) (hi : i' = i.toInt + 1) : v.toInt = cdI f st.toNat (i' - st).toNat := by
  have hl := hd.1
  have g1 := cd_8 (f := f) (s := st.toNat) (m := (i.toInt - st).toNat) (wds_nat hd h0 (by omega)) (by omega)
  have g2 := hd.2 i.toInt h1 h2
  have e6 : (f i.toInt.toNat).toInt = b.toInt := by rw [eb]; rfl
  have t2 : y.toInt = b.toInt - 97 := ti_sub (A := b.toInt) (B := 97) e2 rfl (by decide) (by omega) (by omega)
  have t3 : z.toInt = b.toInt - 97 + 1 := ti_add (A := b.toInt - 97) (B := 1) e3 t2 (by decide) (by omega) (by omega)
  have t4 : q.toInt = b.toInt - 97 + 1 := by rw [← e4, Int32.toInt_toInt64, t3]
  have t1 : x.toInt = c.toInt * 32 := by
    rw [e1, Int64.toInt_mul, show (32 : Int64).toInt = 32 by decide]
    exact bm_64 (by omega) (by omega)
  have t5 : v.toInt = c.toInt * 32 + (b.toInt - 97 + 1) := by
    rw [e5, Int64.toInt_add, t1, t4]
    exact bm_64 (by omega) (by omega)
  rw [show (i' - st).toNat = (i.toInt - st).toNat + 1 by omega]
  show _ = 32 * cdI f st.toNat (i.toInt - st).toNat + ((f (st.toNat + (i.toInt - st).toNat)).toInt - 96)
  rw [show st.toNat + (i.toInt - st).toNat = i.toInt.toNat by omega]
  omega
theorem LkC.wl {f : Nat → Int32} {n j tok st sp : Int} (h : LkC f n j tok st sp) (ht : tok = 1) : wds f st sp := by
  obtain ⟨h0, h1, h2, h3⟩ := h
  subst h1 h2 h3
  obtain ⟨a1, a2, a3⟩ := tK_w h0 ht
  exact ⟨a1, fun k k1 k2 => (a3 k k1 k2).2⟩
/-- a place of a walker, by column and row; z = 0: no hedge -/
def hg (g : Nat → Int32) (z c : Int) (σ : Int × Int) : Int × Int := if z = 0 ∧ (g c.toNat).toInt = 3 then fl 7 σ else σ
def sC (f : Nat → Int32) (n w : Int) (σ : Int × Int) : Int := w * tN f n (rW f n 0 (w - 1) σ).2 + tN f n σ.2
def rPl (f : Nat → Int32) (n w d : Int) (g : Nat → Int32) (z : Int) (σ : Int × Int) : Int × Int := go f n (hg g z (sC f n w σ) (wa f n 0 (d - 1) (rW f n 0 (w - 1) σ)))
theorem hg_o {g : Nat → Int32} {z c : Int} {σ : Int × Int} (h : σ.1 ≠ 0) : hg g z c σ = σ := by
  unfold hg
  rw [fl_o h]
  split <;> rfl
theorem rPl_o {f : Nat → Int32} {n w d : Int} {g : Nat → Int32} {z : Int} {σ : Int × Int} (h : σ.1 ≠ 0) : rPl f n w d g z σ = σ := by
  unfold rPl
  rw [rW_o h, wa_o h, hg_o h, go_o h]
theorem rW_0 {f : Nat → Int32} {n lo hi : Int} {σ : Int × Int} (h : (rW f n lo hi σ).1 = 0) : σ.1 = 0 ∧ tK f n σ.2 = 2 ∧ lo ≤ tN f n σ.2 ∧ tN f n σ.2 ≤ hi ∧ rW f n lo hi σ = (0, tE f n σ.2) := by
  have h1 : σ.1 = 0 := Classical.byContradiction (fun q => by rw [rW_o q] at h; exact q h)
  by_cases h2 : tK f n σ.2 ≠ 2
  · unfold rW wa at h
    rw [if_pos h2, fl_z h1, go_o (pn (show (1 : Int) ≠ 0 by decide))] at h
    exact absurd h (pn (by decide))
  · by_cases h3 : tN f n σ.2 < lo ∨ hi < tN f n σ.2
    · unfold rW wa at h
      rw [if_neg h2, if_pos h3, fl_z h1, go_o (pn (show (4 : Int) ≠ 0 by decide))] at h
      exact absurd h (pn (by decide))
    · refine ⟨h1, by omega, by omega, by omega, ?_⟩
      unfold rW wa
      rw [if_neg h2, if_neg h3, go_z h1]
def ceP (c r : Int) : Prop := 0 ≤ c → c ≤ 127 → r = 1
/-- none of the first i letters is c; where the first c stands -/
def ixN (sf : Nat → Int32) (i c : Int) : Prop := ∀ k : Nat, (k : Int) < i → (sf k).toInt ≠ c
def ixP (sf : Nat → Int32) (sn : Nat) (c r : Int) : Prop := 0 ≤ c → c ≤ 127 → (r = -1 ∧ ∀ k : Nat, (k : Int) < (sn : Int) → (sf k).toInt ≠ c) ∨ (0 ≤ r ∧ r < (sn : Int) ∧ (sf r.toNat).toInt = c ∧ ∀ k : Nat, (k : Int) < r → (sf k).toInt ≠ c)
theorem ixN_0 {sf : Nat → Int32} {i c : Int} (h : i ≤ 0) : ixN sf i c := fun k hk => by omega
theorem ixN_up {sf : Nat → Int32} {c i' : Int} {i x : Int32} (h : ixN sf i.toInt c) (ex : sf (Int32.toNatClampNeg i) = x) (hx : x.toInt ≠ c) (h0 : 0 ≤ i.toInt) (e : i' = i.toInt + 1) : ixN sf i' c := by
  intro k hk
  by_cases hc : (k : Int) < i.toInt
  · exact h k hc
  · have hk' : k = i.toNatClampNeg := by
      have e1 : i.toNatClampNeg = i.toInt.toNat := rfl
      omega
    rw [hk', ex]
    exact hx
