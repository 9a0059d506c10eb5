/-- a number's byte -/
def bB (a s : Int32) : Int32 := (a >>> (s &&& 31)).toInt8.toInt32
def sh4 (j : Nat) : Int32 := if j % 4 = 0 then 24 else if j % 4 = 1 then 16 else if j % 4 = 2 then 8 else 0
def pk5 (a b c d e : Int32) (j : Nat) : Int32 := if j < 4 then a else if j < 8 then b else if j < 12 then c else if j < 16 then d else e
/-- the first j of twenty bytes that are fed, behind L -/
def fdN (f : Nat → Int32) (L : Nat) (a b c d e : Int32) : Nat → Nat → Int32
  | 0 => f
  | j + 1 => upd (fdN f L a b c d e j) (L + j) (bB (pk5 a b c d e j) (sh4 j))
def up4 (f : Nat → Int32) (k : Nat) (a : Int32) : Nat → Int32 := upd (upd (upd (upd f k (bB a 24)) (k + 1) (bB a 16)) (k + 2) (bB a 8)) (k + 3) (bB a 0)
theorem fdN_s (f : Nat → Int32) (L : Nat) (a b c d e : Int32) (j : Nat) : fdN f L a b c d e (j + 1) = upd (fdN f L a b c d e j) (L + j) (bB (pk5 a b c d e j) (sh4 j)) := rfl
theorem fdN_4 (f : Nat → Int32) (L : Nat) (a b c d e v : Int32) (j : Nat) (h0 : j % 4 = 0) (hv : ∀ i, j ≤ i → i < j + 4 → pk5 a b c d e i = v) : fdN f L a b c d e (j + 4) = up4 (fdN f L a b c d e j) (L + j) v := by
  rw [fdN_s, fdN_s, fdN_s, fdN_s, hv j (by omega) (by omega), hv (j + 1) (by omega) (by omega), hv (j + 2) (by omega) (by omega), hv (j + 3) (by omega) (by omega)]
  have s0 : sh4 j = 24 := by unfold sh4; rw [if_pos h0]
  have s1 : sh4 (j + 1) = 16 := by unfold sh4; rw [if_neg (by omega), if_pos (by omega)]
  have s2 : sh4 (j + 2) = 8 := by unfold sh4; rw [if_neg (by omega), if_neg (by omega), if_pos (by omega)]
  have s3 : sh4 (j + 3) = 0 := by unfold sh4; rw [if_neg (by omega), if_neg (by omega), if_neg (by omega)]
  rw [s0, s1, s2, s3]
  rfl
theorem fdN_20 (f : Nat → Int32) (L : Nat) (a b c d e : Int32) : fdN f L a b c d e 20 = up4 (up4 (up4 (up4 (up4 f L a) (L + 4) b) (L + 8) c) (L + 12) d) (L + 16) e := by
  rw [show (20 : Nat) = 16 + 4 from rfl, fdN_4 f L a b c d e e 16 (by decide) (fun i h1 h2 => by unfold pk5; rw [if_neg (by omega), if_neg (by omega), if_neg (by omega), if_neg (by omega)])]
  rw [show (16 : Nat) = 12 + 4 from rfl, fdN_4 f L a b c d e d 12 (by decide) (fun i h1 h2 => by unfold pk5; rw [if_neg (by omega), if_neg (by omega), if_neg (by omega), if_pos (by omega)])]
  rw [show (12 : Nat) = 8 + 4 from rfl, fdN_4 f L a b c d e c 8 (by decide) (fun i h1 h2 => by unfold pk5; rw [if_neg (by omega), if_neg (by omega), if_pos (by omega)])]
  rw [show (8 : Nat) = 4 + 4 from rfl, fdN_4 f L a b c d e b 4 (by decide) (fun i h1 h2 => by unfold pk5; rw [if_neg (by omega), if_pos (by omega)])]
  have e4 : fdN f L a b c d e 4 = up4 f L a := fdN_4 f L a b c d e a 0 (by decide) (fun i h1 h2 => by unfold pk5; rw [if_pos (by omega)])
  rw [e4]
theorem b8_bd (z : Int32) : -128 ≤ (z.toInt8.toInt32).toInt ∧ (z.toInt8.toInt32).toInt ≤ 127 := by
  rw [Int8.toInt_toInt32]
  have h1 := Int8.le_toInt z.toInt8
  have h2 := Int8.toInt_lt z.toInt8
  exact ⟨by simpa using h1, by have : (z.toInt8).toInt < 128 := by simpa using h2
                               omega⟩
theorem fdN_bys {f : Nat → Int32} {L : Nat} {a b c d e : Int32} (h : bys f) : ∀ j, bys (fdN f L a b c d e j)
  | 0 => h
  | j + 1 => fun k hk => by
    rw [fdN_s]
    unfold upd
    by_cases hq : k = L + j
    · rw [if_pos hq]
      exact b8_bd _
    · rw [if_neg hq]
      exact fdN_bys h j k hk
/-- four bytes behind L -/
def apB (f f1 : Nat → Int32) (L L1 : Int) (a : Int32) : Prop := L + 4 ≤ 800 → L1 = L + 4 ∧ f1 = up4 f L.toNat a
theorem apB_of {f f1 f2 f3 f4 : Nat → Int32} {L1 : Int} {a i0 i1 i2 i3 x0 x1 x2 y0 y1 y2 y3 : Int32} (e0 : upd f (Int32.toNatClampNeg i0) (vp_nar .byte y0) = f1) (e1 : upd f1 (Int32.toNatClampNeg i1) (vp_nar .byte y1) = f2) (e2 : upd f2 (Int32.toNatClampNeg i2) (vp_nar .byte y2) = f3) (e3 : upd f3 (Int32.toNatClampNeg i3) (vp_nar .byte y3) = f4) (h0 : 0 ≤ i0.toInt) (h1 : i1.toInt = i0.toInt + 1) (h2 : i2.toInt = i0.toInt + 2) (h3 : i3.toInt = i0.toInt + 3)
    (a0 : x0 = a >>> (24 &&& 31)) (b0 : x0.toInt8.toInt32 = y0) (a1 : x1 = a >>> (16 &&& 31)) (b1 : x1.toInt8.toInt32 = y1) (a2 : x2 = a >>> (8 &&& 31)) (b2 : x2.toInt8.toInt32 = y2) (b3 : a.toInt8.toInt32 = y3) (hL : L1 = i0.toInt + 4) : apB f f4 i0.toInt L1 a := by
  intro _
  have n0 : i0.toNatClampNeg = i0.toInt.toNat := rfl
  have n1 : i1.toNatClampNeg = i0.toInt.toNat + 1 := by
    have : i1.toNatClampNeg = i1.toInt.toNat := rfl
    omega
  have n2 : i2.toNatClampNeg = i0.toInt.toNat + 2 := by
    have : i2.toNatClampNeg = i2.toInt.toNat := rfl
    omega
  have n3 : i3.toNatClampNeg = i0.toInt.toNat + 3 := by
    have : i3.toNatClampNeg = i3.toInt.toNat := rfl
    omega
  have c0 : vp_nar .byte y0 = bB a 24 := by rw [← b0, pk_vb, a0]; rfl
  have c1 : vp_nar .byte y1 = bB a 16 := by rw [← b1, pk_vb, a1]; rfl
  have c2 : vp_nar .byte y2 = bB a 8 := by rw [← b2, pk_vb, a2]; rfl
  have c3 : vp_nar .byte y3 = bB a 0 := by rw [← b3, pk_vb]; unfold bB; rw [sh0]
  refine ⟨hL, ?_⟩
  rw [← e3, ← e2, ← e1, ← e0, c0, c1, c2, c3, n0, n1, n2, n3]
  rfl
/-- twenty bytes behind L -/
def fdB (f f1 : Nat → Int32) (L L1 : Int) (a b c d e : Int32) : Prop := L + 20 ≤ 800 → L1 = L + 20 ∧ f1 = fdN f L.toNat a b c d e 20
theorem fdB_of {f f1 f2 f3 f4 f5 : Nat → Int32} {L L1 L2 L3 L4 L5 : Int} {a b c d e : Int32} (h0 : 0 ≤ L) (k1 : apB f f1 L L1 a) (k2 : apB f1 f2 L1 L2 b) (k3 : apB f2 f3 L2 L3 c) (k4 : apB f3 f4 L3 L4 d) (k5 : apB f4 f5 L4 L5 e) : fdB f f5 L L5 a b c d e := by
  intro hL
  obtain ⟨l1, s1⟩ := k1 (by omega)
  obtain ⟨l2, s2⟩ := k2 (by omega)
  obtain ⟨l3, s3⟩ := k3 (by omega)
  obtain ⟨l4, s4⟩ := k4 (by omega)
  obtain ⟨l5, s5⟩ := k5 (by omega)
  refine ⟨by omega, ?_⟩
  rw [fdN_20, s5, s4, s3, s2, s1, show L1.toNat = L.toNat + 4 by omega, show L2.toNat = L.toNat + 8 by omega, show L3.toNat = L.toNat + 12 by omega, show L4.toNat = L.toNat + 16 by omega]
theorem sh_eq {s : Int32} {k m : Int} (h0 : 0 ≤ k) (hs : s.toInt = 24 - 8 * m) (hm : m = k % 4) : s = sh4 k.toNat := by
  apply Int32.toInt_inj.mp
  have t24 : (24 : Int32).toInt = 24 := by decide
  have t16 : (16 : Int32).toInt = 16 := by decide
  have t8 : (8 : Int32).toInt = 8 := by decide
  have t0 : (0 : Int32).toInt = 0 := by decide
  unfold sh4
  (repeat' split) <;> omega
theorem fd_up {f fk fk1 : Nat → Int32} {L k k1 m : Int} {a b c d e v s x y t : Int32} (h : fk = fdN f L.toNat a b c d e k.toNat) (e1 : upd fk (Int32.toNatClampNeg t) (vp_nar .byte y) = fk1) (h0 : 0 ≤ k) (hL : 0 ≤ L) (ht : t.toInt = L + k) (hv : v = pk5 a b c d e k.toNat) (hs : s.toInt = 24 - 8 * m) (hm : m = k % 4) (hx : x = v >>> (s &&& 31)) (hy : x.toInt8.toInt32 = y) (hk : k1 = k + 1) : fk1 = fdN f L.toNat a b c d e k1.toNat := by
  have n0 : t.toNatClampNeg = L.toNat + k.toNat := by
    have : t.toNatClampNeg = t.toInt.toNat := rfl
    omega
  have c0 : vp_nar .byte y = bB (pk5 a b c d e k.toNat) (sh4 k.toNat) := by rw [← hy, pk_vb, hx, hv, ← sh_eq h0 hs hm]; rfl
  rw [show k1.toNat = k.toNat + 1 by omega, fdN_s, ← e1, n0, c0, h]
theorem pk5_0 {a b c d e : Int32} {k : Int} (h : k < 4) (h0 : 0 ≤ k) : a = pk5 a b c d e k.toNat := by unfold pk5; rw [if_pos (by omega)]
theorem pk5_1 {a b c d e : Int32} {k : Int} (h : 4 ≤ k) (h0 : k < 8) : b = pk5 a b c d e k.toNat := by unfold pk5; rw [if_neg (by omega), if_pos (by omega)]
theorem pk5_2 {a b c d e : Int32} {k : Int} (h : 8 ≤ k) (h0 : k < 12) : c = pk5 a b c d e k.toNat := by unfold pk5; rw [if_neg (by omega), if_neg (by omega), if_pos (by omega)]
theorem pk5_3 {a b c d e : Int32} {k : Int} (h : 12 ≤ k) (h0 : k < 16) : d = pk5 a b c d e k.toNat := by unfold pk5; rw [if_neg (by omega), if_neg (by omega), if_neg (by omega), if_pos (by omega)]
theorem pk5_4 {a b c d e : Int32} {k : Int} (h : 16 ≤ k) : e = pk5 a b c d e k.toNat := by unfold pk5; rw [if_neg (by omega), if_neg (by omega), if_neg (by omega), if_neg (by omega)]
/-- the answer of park, what is noted -/
noncomputable def paR (f : Nat → Int32) (n : Int) : Int := if (rdA f n).2.1 = 0 then pW (rdA f n).1 * pD (rdA f n).1 else -1
def paQ (f : Nat → Int32) (n r fa : Int) : Prop := fa = (rdA f n).2.1 ∧ r = paR f n
theorem paQ_y {f : Nat → Int32} {n r r9 fa fat w d count rows uns wk wl : Int} {s : Nat → Int32} {g : GT} (h : rdQ f n r9 fa fat w d count rows uns wk wl s g) (h9 : r9 ≠ 0) (hr : r = w * d) : paQ f n r fa := by
  rcases h with ⟨-, q1, q2, q3, q4, -⟩ | q
  · refine ⟨q2.trans q1.symm, ?_⟩
    unfold paR
    rw [if_pos q1, hr, q4.1.1, q4.1.2.1]
  · exact absurd q.1 h9
theorem paQ_n {f : Nat → Int32} {n r r9 fa fat w d count rows uns wk wl : Int} {s : Nat → Int32} {g : GT} (h : rdQ f n r9 fa fat w d count rows uns wk wl s g) (h9 : r9 = 0) (hr : r = -1) : paQ f n r fa := by
  rcases h with q | ⟨-, q1, q2, -⟩
  · exact absurd q.1 (by omega)
  · refine ⟨q2, ?_⟩
    unfold paR
    rw [if_neg q1, hr]
theorem paQ_m {f : Nat → Int32} {n s pl sp : Int} {wo : Int64} {le nu fa wr w d rows uns wk wl r : Int} {g : Nat → Int32} {na : GT} (h : raQ f n s pl sp wo le nu fa wr w d rows uns wk wl g na) (hj : jj s fa) (hc : (fa ≤ 0 ∧ r = w * d) ∨ (0 < fa ∧ r = -1)) : paQ f n r fa := by
  obtain ⟨hk, hA⟩ := h
  unfold paQ paR
  rcases hk with q | q
  · have hf := q.2.2.1
    obtain ⟨b1, b2, -⟩ := (hA q.1).1
    rw [if_pos q.1]
    refine ⟨hf.trans q.1.symm, ?_⟩
    rcases hc with c | c
    · rw [c.2, b1, b2]
    · omega
  · rw [if_neg q.1]
    have h5 := hj q.2.1
    refine ⟨q.2.2.1, ?_⟩
    rcases hc with c | c
    · omega
    · exact c.2
/-- park: which fault, and where -/
theorem paN_y {f : Nat → Int32} {n r9 fa fat w d count rows uns wk wl : Int} {s : Nat → Int32} {g : GT} (h : rdQ f n r9 fa fat w d count rows uns wk wl s g) (h9 : r9 ≠ 0) : (rdA f n).2.1 = 0 := by
  rcases h with ⟨-, q1, -⟩ | q
  · exact q1
  · exact absurd q.1 h9
theorem paN_n {f : Nat → Int32} {n r9 fa fat w d count rows uns wk wl : Int} {s : Nat → Int32} {g : GT} (h : rdQ f n r9 fa fat w d count rows uns wk wl s g) (h9 : r9 = 0) : (rdA f n).2.1 ≠ 0 ∧ fat = tS f n (rdA f n).2.2 := by
  rcases h with q | ⟨-, q1, -, q3⟩
  · exact absurd q.1 (by omega)
  · exact ⟨q1, q3⟩
def paW (f : Nat → Int32) (n fa wh : Int) : Prop := (rdA f n).2.1 ≠ 0 → 1 ≤ fa ∧ wh = tS f n (rdA f n).2.2
theorem paW_of {f : Nat → Int32} {n s pl sp : Int} {wo : Int64} {le nu fa wr w d rows uns wk wl wh : Int} {g : Nat → Int32} {na : GT} (h : raQ f n s pl sp wo le nu fa wr w d rows uns wk wl g na) (hj : jj s fa) (hc : wh = wr ∨ fa ≤ 0) : paW f n fa wh := by
  intro h0
  obtain ⟨hk, -⟩ := h
  rcases hk with q | q
  · exact absurd q.1 h0
  · have h5 := hj q.2.1
    rcases hc with c | c
    · exact ⟨h5, c.trans q.2.2.2⟩
    · omega
/-- a park told: the class's, with its first now; the reference's -/
def ptB (bt : Nat → Int32) (p : Int) (w d uns wk wl er sl cn : Int32) (kd go so uu ws wt wf : Nat → Int32) (nw nd nc : Int32) (ns na nf ne : Nat → Int32) (nk : Int32) : Prop := ∃ (nm : Nat → Int64) (st : Nat → Int32) (rows : Int), AgP (rdA bt p).1 w.toInt d.toInt rows uns.toInt wk.toInt wl.toInt so (nm, (kd, st, go), (er.toInt, sl.toInt), (uu, ws, wt, wf)) ∧ (0 < w.toInt ∧ w.toInt ≤ 5 ∧ d.toInt ≤ 4 ∧ 0 ≤ wk.toInt ∧ wk.toInt ≤ 4 ∧ uns.toInt ≤ 5 ∧ wl.toInt ≤ 6) ∧ d.toInt ≤ rows ∧ cn.toInt = w.toInt * d.toInt ∧ nwB w d so st wk nw nd nc ns na nf ne nk
theorem ptB_of {bt : Nat → Int32} {p r9 fa fat rows : Int} {w d uns wk wl er sl cn : Int32} {so st kd go uu ws wt wf : Nat → Int32} {nm : Nat → Int64} {nw nd nc : Int32} {ns na nf ne : Nat → Int32} {nk : Int32} (h : rdQ bt p r9 fa fat w.toInt d.toInt cn.toInt rows uns.toInt wk.toInt wl.toInt so (nm, (kd, st, go), (er.toInt, sl.toInt), (uu, ws, wt, wf))) (h9 : r9 ≠ 0) (hb : nwB w d so st wk nw nd nc ns na nf ne nk) (hw5 : w.toInt ≤ 5 ∧ d.toInt ≤ 4 ∧ 0 ≤ wk.toInt ∧ wk.toInt ≤ 4 ∧ uns.toInt ≤ 5 ∧ wl.toInt ≤ 6) : ptB bt p w d uns wk wl er sl cn kd go so uu ws wt wf nw nd nc ns na nf ne nk := by
  rcases h with ⟨-, -, -, hc, q1, q2, q3⟩ | q
  · exact ⟨nm, st, rows, q1, ⟨q2, hw5⟩, q3, hc, hb⟩
  · exact absurd q.1 h9
def mpB (bt : Nat → Int32) (p : Int) (w d un wk wl er sl : Int32) (kd go v so uu ws wt wf : Nat → Int32) : Prop := ∃ (nm : Nat → Int64) (at_ : Nat → Int32) (rows : Int), AgP (rdA bt p).1 w.toInt d.toInt rows un.toInt wk.toInt wl.toInt so (nm, (kd, at_, go), (er.toInt, sl.toInt), (uu, ws, wt, wf)) ∧ cpZ so v 20 ∧ (∀ k : Nat, (k : Int) < wk.toInt → v (20 + k) = at_ k) ∧ ∀ j : Nat, 24 ≤ j → j < 32 → (v j).toInt = 0
def zrT (f : Nat → Int32) (a : Nat) : Prop := ∀ j : Nat, a ≤ j → j < 32 → (f j).toInt = 0
theorem zrT_z {f : Nat → Int32} {n : Int} (h : zrI f n) (hn : 32 ≤ n) : zrT f 20 := fun j _ h2 => h j (by omega)
theorem zrT_le {f : Nat → Int32} {a b : Nat} (h : zrT f a) (hb : a ≤ b) : zrT f b := fun j h1 h2 => h j (by omega) h2
theorem zrT_up {f g : Nat → Int32} {k v : Int32} {a : Nat} (h : zrT f a) (e : upd f (Int32.toNatClampNeg k) v = g) (hk : 0 ≤ k.toInt ∧ k.toInt < a) : zrT g a := by
  have e1 : k.toNatClampNeg = k.toInt.toNat := rfl
  intro j h1 h2
  rw [← e]
  unfold upd
  rw [if_neg (by omega)]
  exact h j h1 h2
theorem cpI_up {f g v : Nat → Int32} {b : Int} {i k x : Int32} {k' : Int} (h : cpI f b v k.toInt) (e : upd f (Int32.toNatClampNeg i) x = g) (hb : 0 ≤ b) (h0 : 0 ≤ k.toInt) (hi : i.toInt = b + k.toInt) (hx : x = v (Int32.toNatClampNeg k)) (hk : k' = k.toInt + 1) : cpI g b v k' := by
  rw [← e]
  exact cpI_f h hb h0 hi hx hk
theorem mpB_of {bt : Nat → Int32} {p s pl sp : Int} {wo : Int64} {le nu fa wr rows : Int} {w d un wk wl er sl : Int32} {so at_ kd go v uu ws wt wf : Nat → Int32} {nm : Nat → Int64} {m : Int} (h : raQ bt p s pl sp wo le nu fa wr w.toInt d.toInt rows un.toInt wk.toInt wl.toInt so (nm, (kd, at_, go), (er.toInt, sl.toInt), (uu, ws, wt, wf))) (hj : jj s fa) (hf : fa ≤ 0) (h1 : cpZ so v 20) (h2 : cpI v 20 at_ m) (hm : wk.toInt ≤ m) (h3 : zrT v 24) : mpB bt p w d un wk wl er sl kd go v so uu ws wt wf := by
  obtain ⟨hk, hA⟩ := h
  have h0 : (rdA bt p).2.1 = 0 := Classical.byContradiction (fun q => by
    rcases hk with q1 | q1
    · exact q q1.1
    · have := hj q1.2.1
      omega)
  exact ⟨nm, at_, rows, hA h0, h1, fun k hk9 => h2 k (by omega), h3⟩
/-- what is read is what the class learns -/
theorem gu_of {bt : Nat → Int32} {p r9 fa fat rows : Int} {w d un wk wl er sl cn : Int32} {so st kd go uu ws wt wf dd : Nat → Int32} {nm : Nat → Int64} {x : Nat → Int64} {sets : Int} (h : rdQ bt p r9 fa fat w.toInt d.toInt cn.toInt rows un.toInt wk.toInt wl.toInt so (nm, (kd, st, go), (er.toInt, sl.toInt), (uu, ws, wt, wf))) (h9 : r9 ≠ 0) (hs : sets = ((2 ^ un.toInt.toNat : Nat) : Int)) (hl : tkO cn.toInt w.toInt un.toInt wl.toInt er.toInt uu ws wt wf → lrI cn.toInt w.toInt un.toInt wl.toInt er.toInt so uu ws wt wf dd x sets) (hb : w.toInt ≤ 5 ∧ 0 ≤ d.toInt ∧ d.toInt ≤ 4 ∧ un.toInt ≤ 5 ∧ wl.toInt ≤ 6) : guQ cn.toInt w.toInt un.toInt wl.toInt er.toInt so uu ws wt wf dd x sets := by
  rcases h with ⟨-, -, -, hc, q1, q2, q3⟩ | q
  · obtain ⟨-, ⟨_, _, r3, _⟩, -, -, -, -, -, ⟨v1, -, v2⟩, ⟨v4, _⟩, v3⟩ := q1
    have m1 : w.toInt * d.toInt ≤ 5 * 4 := Int.mul_le_mul hb.1 hb.2.2.1 hb.2.1 (by decide)
    have m2 : w.toInt * rows ≤ w.toInt * d.toInt := Int.mul_le_mul_of_nonneg_left r3 (by omega)
    have hT : tkO cn.toInt w.toInt un.toInt wl.toInt er.toInt uu ws wt wf := ⟨⟨by omega, by omega⟩, v2 q2, fun k hk => by
      obtain ⟨a1, _, a3, a4⟩ := v3 k hk
      exact ⟨a1, by rw [hc]; exact a3, a4⟩, fun k hk => by
      obtain ⟨b1, b2, _⟩ := v4 k hk
      have b3 : (uu k).toInt < w.toInt * rows := b2
      exact ⟨b1, by omega⟩⟩
    exact ⟨fun z => absurd q2 (by omega), fun _ => ⟨hT, ⟨hb.2.2.2.2, v1, hb.2.2.2.1⟩, hs, hl hT⟩⟩
  · exact absurd q.1 h9
