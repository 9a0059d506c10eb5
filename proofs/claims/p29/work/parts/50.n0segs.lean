theorem vP_mem {D : va_G} {cl : List vw_C} {ws : va_W} {H : Heap} : va_P D cl ws H ↔ ∀ q ∈ ws, va_at D cl q H :=
  ⟨fun h q hq => (by obtain ⟨k, hk⟩ := List.getElem?_of_mem hq; exact h k q hk), fun h k q hk => h q (List.mem_of_getElem? hk)⟩
theorem vD_pw {A : Nat → Prop} {ws : va_W} : va_D A ws ↔ ws.Pairwise (fun p q => p.1 ≠ q.1) ∧ ∀ q ∈ ws, A q.1 := by
  constructor
  · intro h
    refine ⟨List.pairwise_iff_getElem.mpr (fun i j hi hj hij e => ?_), fun q hq => ?_⟩
    · have := h.1 i j _ _ (List.getElem?_eq_getElem hi) (List.getElem?_eq_getElem hj) e
      omega
    · obtain ⟨k, hk⟩ := List.getElem?_of_mem hq
      exact h.2 k q hk
  · intro h
    refine ⟨fun i j p q hp hq e => ?_, fun k q hk => h.2 q (List.mem_of_getElem? hk)⟩
    obtain ⟨hi, rfl⟩ := List.getElem?_eq_some_iff.mp hp
    obtain ⟨hj, rfl⟩ := List.getElem?_eq_some_iff.mp hq
    rcases Nat.lt_trichotomy i j with h1 | h1 | h1
    · exact absurd e (List.pairwise_iff_getElem.mp h.1 i j hi hj h1)
    · exact h1
    · exact absurd e.symm (List.pairwise_iff_getElem.mp h.1 j i hj hi h1)
/-- cells in segments: all stand, all lie apart -/
def PDs (dC : Nat → ClassId) (dI : Nat → Nat → Nat) (A : Nat → Prop) (ss : List va_W) (H : Heap) : Prop := va_P (dC, dI) vwCl ss.flatten H ∧ va_D A ss.flatten
theorem PDs.perm {dC : Nat → ClassId} {dI : Nat → Nat → Nat} {A : Nat → Prop} {ss ss' : List va_W} {H : Heap} (h : PDs dC dI A ss H) (hp : ss.flatten.Perm ss'.flatten) : PDs dC dI A ss' H := by
  have h1 := vP_mem.mp h.1
  have h2 := vD_pw.mp h.2
  refine ⟨vP_mem.mpr (fun q hq => h1 q (hp.mem_iff.mpr hq)), vD_pw.mpr ⟨(List.Perm.pairwise_iff (fun h e => h e.symm) hp).mp h2.1, fun q hq => h2.2 q (hp.mem_iff.mpr hq)⟩⟩
theorem seg_key {α : Type} {ss ss' : List α} {is : List Nat} (hs : is.map (fun i => ss[i]?) = ss'.map some) {k : Nat} {s : α} (hk : ss'[k]? = some s) : ∃ i, is[k]? = some i ∧ ss[i]? = some s := by
  have h1 : (is.map (fun i => ss[i]?))[k]? = some (some s) := by rw [hs, List.getElem?_map, hk]; rfl
  rw [List.getElem?_map] at h1
  cases hi : is[k]? with
  | none => rw [hi] at h1; cases h1
  | some i => rw [hi] at h1; exact ⟨i, rfl, Option.some.inj h1⟩
theorem PDs.sel {dC : Nat → ClassId} {dI : Nat → Nat → Nat} {A : Nat → Prop} {ss ss' : List va_W} {H : Heap} (h : PDs dC dI A ss H) (is : List Nat) (hn : va_nd is = true) (hs : is.map (fun i => ss[i]?) = ss'.map some) : PDs dC dI A ss' H := by
  have h1 := vP_mem.mp h.1
  have h2 := vD_pw.mp h.2
  have h3 := List.pairwise_flatten.mp h2.1
  have hin : ∀ s ∈ ss', s ∈ ss := by
    intro s hm
    obtain ⟨k, hk⟩ := List.getElem?_of_mem hm
    obtain ⟨i, -, hi⟩ := seg_key hs hk
    exact List.mem_of_getElem? hi
  have hfl : ∀ q ∈ ss'.flatten, q ∈ ss.flatten := by
    intro q hq
    obtain ⟨s, hm, hqs⟩ := List.mem_flatten.mp hq
    exact List.mem_flatten.mpr ⟨s, hin s hm, hqs⟩
  refine ⟨vP_mem.mpr (fun q hq => h1 q (hfl q hq)), vD_pw.mpr ⟨List.pairwise_flatten.mpr ⟨fun s hm => h3.1 s (hin s hm), List.pairwise_iff_getElem.mpr (fun i j hi hj hij x hx y hy => ?_)⟩, fun q hq => h2.2 q (hfl q hq)⟩⟩
  obtain ⟨i1, e1, e2⟩ := seg_key hs (List.getElem?_eq_getElem hi)
  obtain ⟨j1, f1, f2⟩ := seg_key hs (List.getElem?_eq_getElem hj)
  have hne : i1 ≠ j1 := by
    intro e
    subst e
    have := va_nd_inj is hn i j i1 e1 f1
    omega
  obtain ⟨g1, g2⟩ := List.getElem?_eq_some_iff.mp e2
  obtain ⟨k1, k2⟩ := List.getElem?_eq_some_iff.mp f2
  rcases Nat.lt_or_gt_of_ne hne with hlt | hlt
  · have h9 := List.pairwise_iff_getElem.mp h3.2 i1 j1 g1 k1 hlt
    rw [g2, k2] at h9
    exact h9 x hx y hy
  · have h9 := List.pairwise_iff_getElem.mp h3.2 j1 i1 k1 g1 hlt
    rw [g2, k2] at h9
    exact fun e => h9 y hy x hx e.symm
/-- the first segment is another order of two -/
theorem PDs.split {dC : Nat → ClassId} {dI : Nat → Nat → Nat} {A : Nat → Prop} {k a b : va_W} {ss : List va_W} {H : Heap} (h : PDs dC dI A (k :: ss) H) (hp : k.Perm (a ++ b)) : PDs dC dI A (a :: b :: ss) H := by
  refine h.perm ?_
  show (k ++ ss.flatten).Perm (a ++ (b ++ ss.flatten))
  rw [← List.append_assoc]
  exact hp.append_right _
theorem PDs.join {dC : Nat → ClassId} {dI : Nat → Nat → Nat} {A : Nat → Prop} {k a b : va_W} {ss : List va_W} {H : Heap} (h : PDs dC dI A (a :: b :: ss) H) (hp : k.Perm (a ++ b)) : PDs dC dI A (k :: ss) H := by
  refine h.perm ?_
  show (a ++ (b ++ ss.flatten)).Perm (k ++ ss.flatten)
  rw [← List.append_assoc]
  exact hp.symm.append_right _
/-- the last segment goes first, and back -/
theorem PDs.front {dC : Nat → ClassId} {dI : Nat → Nat → Nat} {A : Nat → Prop} {a b : va_W} {ss : List va_W} {H : Heap} (h : PDs dC dI A (ss ++ [a ++ b]) H) : PDs dC dI A [a, b ++ ss.flatten] H := by
  refine h.perm ?_
  rw [List.flatten_append]
  show (ss.flatten ++ ((a ++ b) ++ [])).Perm (a ++ ((b ++ ss.flatten) ++ []))
  rw [List.append_nil, List.append_nil, show a ++ (b ++ ss.flatten) = (a ++ b) ++ ss.flatten from (List.append_assoc ..).symm]
  exact List.perm_append_comm
theorem PDs.behind {dC : Nat → ClassId} {dI : Nat → Nat → Nat} {A : Nat → Prop} {a b : va_W} {ss : List va_W} {H : Heap} (h : PDs dC dI A [a, b ++ ss.flatten] H) : PDs dC dI A (ss ++ [a ++ b]) H := by
  refine h.perm ?_
  rw [List.flatten_append]
  show (a ++ ((b ++ ss.flatten) ++ [])).Perm (ss.flatten ++ ((a ++ b) ++ []))
  rw [List.append_nil, List.append_nil, ← List.append_assoc]
  exact List.perm_append_comm
theorem vPp {D : va_G} {cl : List vw_C} {X cx pl : va_W} {H : Heap} (h : va_P D cl (X ++ pl) H) (is : List Nat) (hs : is.map (fun i => X[i]?) = cx.map some) : va_P D cl (cx ++ pl) H := fun k q hq => h _ q (va_part is hs k q hq)
section Segs
variable {p : Program} {l : Launch} {e : Env} {R : Room} {s : State} {m : MethodId} {args : Array Value} {below : List Frame} {meth : Method} {c : Code} {H : Heap} {locs : List Loc} {cells slots : Nat} {Q : State → Prop}
variable {pc : Nat} {ls : Array Slot} {rest st : List Value} {dC : Nat → ClassId} {dI : Nat → Nat → Nat} {A : Nat → Prop} {X pl wc wr : va_W}
/-- behind a call, some cells being set aside -/
theorem fI_x {S : Type} {post : Int32 → S → Prop} {w1 : S → va_W} {mc ms : Nat} {av : Array Value} (hr : va_Run p l e R s m args below meth c H locs cells slots mc ms (F0 m pc ls st) rest (va_Qi post (qS dC dI (va_A wc H.size) w1) (va_A wc H.size) av) (va_A wc H.size)) (hP : va_P (dC, dI) vwCl (X ++ pl) H) (hD : va_D A (X ++ pl)) (hS : va_S A s.heap H locs) (hA : ∀ q, s.heap.size ≤ q → A q) (isC isR : List Nat) (hC' : isC.map (fun i => (X ++ pl)[i]?) = wc.map some) (hC : isC.map (fun i => X[i]?) = wc.map some) (hRr : isR.map (fun i => X[i]?) = wr.map some) (hnd : va_nd isR = true) (hdis : ∀ i ∈ isR, i ∉ isC)
    (kk : ∀ (r : Int32) (u : S) (H1 : Heap) (locs1 : List Loc), post r u → va_P (dC, dI) vwCl ((wr ++ w1 u) ++ pl) H1 → va_D A ((wr ++ w1 u) ++ pl) → va_S A s.heap H1 locs1 → W p l e R s m args below meth c H1 locs1 (cells + mc) (slots + ms) Q (F0 m (pc + 3) ls (.int r :: rest))) : W p l e R s m args below meth c H locs cells slots Q (F0 m pc ls st) := by
  have hFc := va_free (wc := wc) hD hS hA isC hC'
  refine va_calli hr hS (fun q _ h => hFc q h) hFc (fun r u t H1 locs1 ht hvm hw hB hz1 hk1 hS1 => ?_)
  obtain ⟨hP1, hD1⟩ := hB
  rw [ht] at hP1
  obtain ⟨hP2, hD2⟩ := va_joinQ (wr := wr) (w1 := w1 u) hP hD isC isR hC hRr hnd hdis hk1 hFc hP1 hD1
  exact kk r u H1 locs1 hw hP2 hD2 hS1
theorem fL_x {S : Type} {post : Int64 → S → Prop} {w1 : S → va_W} {mc ms : Nat} {av : Array Value} (hr : va_Run p l e R s m args below meth c H locs cells slots mc ms (F0 m pc ls st) rest (va_Ql post (qS dC dI (va_A wc H.size) w1) (va_A wc H.size) av) (va_A wc H.size)) (hP : va_P (dC, dI) vwCl (X ++ pl) H) (hD : va_D A (X ++ pl)) (hS : va_S A s.heap H locs) (hA : ∀ q, s.heap.size ≤ q → A q) (isC isR : List Nat) (hC' : isC.map (fun i => (X ++ pl)[i]?) = wc.map some) (hC : isC.map (fun i => X[i]?) = wc.map some) (hRr : isR.map (fun i => X[i]?) = wr.map some) (hnd : va_nd isR = true) (hdis : ∀ i ∈ isR, i ∉ isC)
    (kk : ∀ (r : Int64) (u : S) (H1 : Heap) (locs1 : List Loc), post r u → va_P (dC, dI) vwCl ((wr ++ w1 u) ++ pl) H1 → va_D A ((wr ++ w1 u) ++ pl) → va_S A s.heap H1 locs1 → W p l e R s m args below meth c H1 locs1 (cells + mc) (slots + ms) Q (F0 m (pc + 3) ls (.long r :: rest))) : W p l e R s m args below meth c H locs cells slots Q (F0 m pc ls st) := by
  have hFc := va_free (wc := wc) hD hS hA isC hC'
  refine va_calll hr hS (fun q _ h => hFc q h) hFc (fun r u t H1 locs1 ht hvm hw hB hz1 hk1 hS1 => ?_)
  obtain ⟨hP1, hD1⟩ := hB
  rw [ht] at hP1
  obtain ⟨hP2, hD2⟩ := va_joinQ (wr := wr) (w1 := w1 u) hP hD isC isR hC hRr hnd hdis hk1 hFc hP1 hD1
  exact kk r u H1 locs1 hw hP2 hD2 hS1
end Segs
theorem PDs.opn {dC : Nat → ClassId} {dI : Nat → Nat → Nat} {A : Nat → Prop} {ks ss : List va_W} {H : Heap} (h : PDs dC dI A (ks.flatten :: ss) H) : PDs dC dI A (ks ++ ss) H := by
  refine h.perm ?_
  rw [List.flatten_append]
  exact List.Perm.refl _
theorem PDs.cls {dC : Nat → ClassId} {dI : Nat → Nat → Nat} {A : Nat → Prop} {ks ss : List va_W} {H : Heap} (h : PDs dC dI A (ks ++ ss) H) : PDs dC dI A (ks.flatten :: ss) H := by
  refine h.perm ?_
  rw [List.flatten_append]
  exact List.Perm.refl _
section SegsPick
variable {p : Program} {l : Launch} {e : Env} {R : Room} {s : State} {m : MethodId} {args : Array Value} {below : List Frame} {meth : Method} {c : Code} {H : Heap} {locs : List Loc} {cells slots : Nat} {Q : State → Prop}
variable {pc : Nat} {ls : Array Slot} {rest st : List Value} {dC : Nat → ClassId} {dI : Nat → Nat → Nat} {A : Nat → Prop} {X pl wc : va_W}
theorem PDs.xs {ss : List va_W} {ws' : va_W} (h : PDs dC dI A ss H) (e : ss.flatten = ws') : va_P (dC, dI) vwCl ws' H ∧ va_D A ws' := by
  subst e
  exact h
theorem PDs.prk {ss' : List va_W} (hP : va_P (dC, dI) vwCl (X ++ pl) H) (hD : va_D A (X ++ pl)) (is : List Nat) (hn : va_nd is = true) (hs : sl_A is X = true) (e : sl_W is X ++ pl = ss'.flatten) : PDs dC dI A ss' H := by
  have h1 := vPp (cx := sl_W is X) hP is (sl_W_map is X hs)
  have h2 := va_D.part (cx := sl_W is X) hD is hn (sl_W_map is X hs)
  rw [e] at h1 h2
  exact ⟨h1, h2⟩
theorem PDs.prt {cx : va_W} {ss : List va_W} (hP : va_P (dC, dI) vwCl (X ++ ss.flatten) H) (hD : va_D A (X ++ ss.flatten)) (is : List Nat) (hn : va_nd is = true) (hs : is.map (fun i => X[i]?) = cx.map some) : PDs dC dI A (cx :: ss) H :=
  ⟨vPp hP is hs, va_D.part hD is hn hs⟩
theorem sl_Ix {S : Type} {post : Int32 → S → Prop} {w1 : S → va_W} {mc ms : Nat} {av : Array Value} (hr : va_Run p l e R s m args below meth c H locs cells slots mc ms (F0 m pc ls st) rest (va_Qi post (qS dC dI (va_A wc H.size) w1) (va_A wc H.size) av) (va_A wc H.size)) (hP : va_P (dC, dI) vwCl (X ++ pl) H) (hD : va_D A (X ++ pl)) (hS : va_S A s.heap H locs) (hA : ∀ q, s.heap.size ≤ q → A q) (isC : List Nat) (mk : List Bool) (hC' : isC.map (fun i => (X ++ pl)[i]?) = wc.map some) (hC : isC.map (fun i => X[i]?) = wc.map some) (hL : sl_L mk X = true) (hK : sl_C mk isC = true)
    (kk : ∀ (r : Int32) (u : S) (H1 : Heap) (locs1 : List Loc), post r u → va_P (dC, dI) vwCl ((sl_M mk X ++ w1 u) ++ pl) H1 → va_D A ((sl_M mk X ++ w1 u) ++ pl) → va_S A s.heap H1 locs1 → W p l e R s m args below meth c H1 locs1 (cells + mc) (slots + ms) Q (F0 m (pc + 3) ls (.int r :: rest))) : W p l e R s m args below meth c H locs cells slots Q (F0 m pc ls st) :=
  fI_x hr hP hD hS hA isC (sl_K mk) hC' hC (sl_M_map mk X hL) (sl_K_nd mk) (sl_dis hK) kk
theorem sl_Lx {S : Type} {post : Int64 → S → Prop} {w1 : S → va_W} {mc ms : Nat} {av : Array Value} (hr : va_Run p l e R s m args below meth c H locs cells slots mc ms (F0 m pc ls st) rest (va_Ql post (qS dC dI (va_A wc H.size) w1) (va_A wc H.size) av) (va_A wc H.size)) (hP : va_P (dC, dI) vwCl (X ++ pl) H) (hD : va_D A (X ++ pl)) (hS : va_S A s.heap H locs) (hA : ∀ q, s.heap.size ≤ q → A q) (isC : List Nat) (mk : List Bool) (hC' : isC.map (fun i => (X ++ pl)[i]?) = wc.map some) (hC : isC.map (fun i => X[i]?) = wc.map some) (hL : sl_L mk X = true) (hK : sl_C mk isC = true)
    (kk : ∀ (r : Int64) (u : S) (H1 : Heap) (locs1 : List Loc), post r u → va_P (dC, dI) vwCl ((sl_M mk X ++ w1 u) ++ pl) H1 → va_D A ((sl_M mk X ++ w1 u) ++ pl) → va_S A s.heap H1 locs1 → W p l e R s m args below meth c H1 locs1 (cells + mc) (slots + ms) Q (F0 m (pc + 3) ls (.long r :: rest))) : W p l e R s m args below meth c H locs cells slots Q (F0 m pc ls st) :=
  fL_x hr hP hD hS hA isC (sl_K mk) hC' hC (sl_M_map mk X hL) (sl_K_nd mk) (sl_dis hK) kk
end SegsPick
