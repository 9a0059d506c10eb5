section Up
variable {p : Program} {l : Launch} {e : Env} {R : Room} {s : State} {m : MethodId} {args : Array Value} {below : List Frame} {meth : Method} {c : Code} {H : Heap} {locs : List Loc} {cells slots : Nat} {Q : State → Prop}
variable {cc : ByteArray} {pc nL : Nat} {ls : Array Slot} {rest : List Value} {own : String} {dC : Nat → ClassId} {dI : Nat → Nat → Nat} {cy : Nat → ClassId} {ex ex0 : exT} {ws : va_W} {A : Nat → Prop} {a ci idx N : Nat} {fs : List Value} {v : Value}
variable {x y : MethodName} {owner C : String} {bytes : ByteArray} {maxL n b : Nat} {ret : Option FieldType} {rm : Room} {Qc : (Nat → Prop) → Array Value → State → Outcome → State → Prop} {As st : List Value} {wc wr : va_W} {lv : List (Nat × Value)}
/-- the reference names x, that stands in the class owner; an object of the class C finds y -/
def uOK (x : MethodName) (owner C : String) (y : MethodName) (n : Nat) : Prop := Cond.sameMethod x.cls owner x.name x.desc ∈ wsU ∧ Cond.selects C x y ∈ wsU ∧ Cond.instanceMethod y ∈ wsU ∧ owner ≠ "java/lang/invoke/MethodHandle" ∧ owner ≠ "java/lang/invoke/VarHandle" ∧ (parseMethodDescriptor x.desc).map (fun d => d.parameters.length) = some n ∧ (Cond.declares ⟨owner, x.name, x.desc⟩ ∈ nwL ∨ y = ⟨owner, x.name, x.desc⟩)
theorem rU (X : fx p s m c cc nL args own dC dI cy ex0 A) (hst : stb ex) (hex : ∀ A U H, ex0 A U H → ex A U H) (hM : ∀ sz, Met l y (.code y bytes maxL ret :: wsU) rm (va_Pc (.ref b :: As) (pS dC dI cy ex wc sz)) (Qc (va_A wc sz)) rm.cells rm.slots (va_A wc sz)) (km : mOK y bytes maxL ret n) (ku : uOK x owner C y n) (lk : Cond.methodLink own idx x ∈ wsU) (hP : va_P (dC, dI) vwCl ws H) (hD : va_D A ws) (hS : va_S A s.heap H locs) (hA : ∀ q, s.heap.size ≤ q → A q) (isC : List Nat) (hnd : va_nd isC = true) (hC : isC.map (fun i => ws[i]?) = wc.map some) (q0 : Nat) {q : vw_C} (hq : wc[q0]? = some (b, .inr (ci, fs))) (hc : vwCl[ci]? = some q) (hq1 : q.1 = C) (hl : lv_has ls nL lv) (hn : As.length = n) (hst0 : st = As.reverse ++ .ref b :: rest) (hcat : (rest.map fun v => v.category).sum ≤ 8) (hdg : decode cc pc = .ok (.invokevirtual idx, 3))
    (hR : rm.frames + 1 ≤ R.frames ∧ 8 + (maxL + 11) + rm.locals ≤ R.locals) (hf : cells + rm.cells ≤ R.cells ∧ slots + rm.slots ≤ R.slots) :
    va_Run p l e R s m args below meth c H locs cells slots rm.cells rm.slots (F0 m pc ls st) rest (Qc (va_A wc H.size) (Value.ref b :: As).toArray) (va_A wc H.size) := by
  have hPc := hP.sub (ws' := wc) isC (fm_of hC)
  have hDc := hD.sub (ws' := wc) isC hnd hC
  have hFc := va_free (wc := wc) hD hS hA isC hC
  have hG : GoodIn wsU (Cond.code y bytes maxL ret :: wsU) := goodU km.1 (fun _ h => h)
  have hrec := va_recv (s := s) X.2.2.2.2.2.1 hPc hc hq
  rw [hq1] at hrec
  have hd : va_Decl s ⟨owner, x.name, x.desc⟩ := by
    rcases ku.2.2.2.2.2.2 with h | h
    · exact va_Decl.abs (X.2.2.2.2.2.2.1.1 _ h)
    · rw [← h]; exact va_Decl.of (X.2.2.2.2.1 _ ku.2.2.1) (X.2.2.2.2.1 _ km.1)
  exact va_runU (As := As) (rest := rest) ⟨X.1, X.2.1, X.2.2.1, X.2.2.2.1, X.2.2.2.2.1⟩ (hM H.size) ⟨⟨rfl, rfl, hR.1, hR.2, pay_in X.2.2.2.2.1 hG, List.mem_cons_self⟩, X.2.2.2.2.1 _ km.1, X.2.2.2.2.1 _ km.2.1, ⟨ku.2.2.2.1, ku.2.2.2.2.1⟩, fun sig h => by have h2 := ku.2.2.2.2.2.1; rw [h] at h2; exact (Option.some.inj h2).symm, X.2.2.2.2.1 _ lk, X.2.2.2.2.1 _ ku.1, hd, X.2.2.2.2.1 _ ku.2.1, X.2.2.2.2.1 _ ku.2.2.1⟩ ⟨pS.blind hst, hrec, fun U hU hW => X_pre X hst hex hS hFc hPc hDc U hU hW⟩ rfl hn hl.1 hst0 (lv_room hcat) hdg hf
theorem rU_I {S : Type} {post : Int32 → S → Prop} {w1 : S → va_W} {rt : FieldType} (X : fx p s m c cc nL args own dC dI cy ex0 A) (hst : stb ex) (hex : ∀ A U H, ex0 A U H → ex A U H) (hM : ctI l dC dI cy ex y bytes maxL rt rm (.ref b :: As) wc post w1) (km : mOK y bytes maxL (some rt) n) (ku : uOK x owner C y n) (lk : Cond.methodLink own idx x ∈ wsU) (hP : va_P (dC, dI) vwCl ws H) (hD : va_D A ws) (hS : va_S A s.heap H locs) (hA : ∀ q, s.heap.size ≤ q → A q) (isC : List Nat) (hnd : va_nd isC = true) (hC : isC.map (fun i => ws[i]?) = wc.map some) (q0 : Nat) {q : vw_C} (hq : wc[q0]? = some (b, .inr (ci, fs))) (hc : vwCl[ci]? = some q) (hq1 : q.1 = C) (hl : lv_has ls nL lv) (hn : As.length = n) (hst0 : st = As.reverse ++ .ref b :: rest) (hcat : (rest.map fun v => v.category).sum ≤ 8) (hdg : decode cc pc = .ok (.invokevirtual idx, 3))
    (hR : rm.frames + 1 ≤ R.frames ∧ 8 + (maxL + 11) + rm.locals ≤ R.locals) (hf : cells + rm.cells ≤ R.cells ∧ slots + rm.slots ≤ R.slots) :
    va_Run p l e R s m args below meth c H locs cells slots rm.cells rm.slots (F0 m pc ls st) rest (va_Qi post (qS dC dI (va_A wc H.size) w1) (va_A wc H.size) (Value.ref b :: As).toArray) (va_A wc H.size) :=
  rU (Qc := fun A => va_Qi post (qS dC dI A w1) A) X hst hex hM km ku lk hP hD hS hA isC hnd hC q0 hq hc hq1 hl hn hst0 hcat hdg hR hf
/-- four objects in a row -/
def q4 (a b c d : Nat) : Nat → Option Nat := fun j => match j with | 0 => some a | 1 => some b | 2 => some c | 3 => some d | _ => none
theorem i4 {x : Int32} (h0 : 0 ≤ x.toInt) (h1 : x.toInt < 4) : x = 0 ∨ x = 1 ∨ x = 2 ∨ x = 3 := by
  have h : x.toInt = 0 ∨ x.toInt = 1 ∨ x.toInt = 2 ∨ x.toInt = 3 := by omega
  rcases h with h | h | h | h
  · exact Or.inl (Int32.toInt_inj.mp h)
  · exact Or.inr (Or.inl (Int32.toInt_inj.mp h))
  · exact Or.inr (Or.inr (Or.inl (Int32.toInt_inj.mp h)))
  · exact Or.inr (Or.inr (Or.inr (Int32.toInt_inj.mp h)))
theorem q_ald {D : (Nat → ClassId) × (Nat → Nat → Nat)} {cl : List vw_C} {tys : List (ClassId × FieldType)} (hexec : p.tables.exec = Jvm.exec) (hb : c.code = cc) (hK : va_K D cl tys s) (hP : va_P D cl ws H) (q0 t0 : Nat) {cA : ClassId} {C : String} {n : Nat} {f : Nat → Option Nat} (ha : ws[q0]? = some (a, .inl (cA, n, .inr (.inr (.inr (.inr f)))))) (ht : tys[t0]? = some (cA, .object C)) {i : Int32} (hin : vp_in i n) {d : Nat} (hd : f i.toNatClampNeg = some d) (hdg : decode cc pc = .ok (.aaload, 1))
    (kk : W p l e R s m args below meth c H locs cells slots Q (F0 m (pc + 1) ls (.ref d :: rest))) : W p l e R s m args below meth c H locs cells slots Q (F0 m pc ls (.int i :: .ref a :: rest)) := by
  refine va_aldq hexec hb hK hP q0 t0 ha ht hin hdg ?_
  rw [hd]
  exact kk
end Up
theorem u_RX0_leastOf : uOK yX8_leastOf RX8 RX0 yX8_leastOf 4 := ⟨(wU 2025 (by decide +kernel) (by decide +kernel)), List.mem_append_left _ (List.mem_of_getElem? (i := 0) rfl), w_986, by decide, by decide, by decide +kernel, Or.inr rfl⟩
theorem u_RX0_fewest : uOK ⟨RX0, "fewest", "(I)I"⟩ RX8 RX0 yX8_fewest 1 := ⟨(wU 979 (by decide +kernel) (by decide +kernel)), (wU 981 (by decide +kernel) (by decide +kernel)), w_982, by decide, by decide, by decide +kernel, Or.inr rfl⟩
theorem u_RX0_worksBy : uOK ⟨RX8, "worksBy", "(I)Z"⟩ RX8 RX0 yX0_worksBy 1 := ⟨(wU 990 (by decide +kernel) (by decide +kernel)), (wU 991 (by decide +kernel) (by decide +kernel)), w_992, by decide, by decide, by decide +kernel, Or.inl (nU 989 (by decide +kernel) (by decide +kernel))⟩
theorem u_RX1_leastOf : uOK yX8_leastOf RX8 RX1 yX8_leastOf 4 := ⟨(wU 2025 (by decide +kernel) (by decide +kernel)), List.mem_append_left _ (List.mem_of_getElem? (i := 1) rfl), w_986, by decide, by decide, by decide +kernel, Or.inr rfl⟩
theorem u_RX1_fewest : uOK ⟨RX1, "fewest", "(I)I"⟩ RX8 RX1 yX8_fewest 1 := ⟨(wU 1014 (by decide +kernel) (by decide +kernel)), (wU 1015 (by decide +kernel) (by decide +kernel)), w_982, by decide, by decide, by decide +kernel, Or.inr rfl⟩
theorem u_RX1_worksBy : uOK ⟨RX8, "worksBy", "(I)Z"⟩ RX8 RX1 yX1_worksBy 1 := ⟨(wU 990 (by decide +kernel) (by decide +kernel)), (wU 999 (by decide +kernel) (by decide +kernel)), w_1000, by decide, by decide, by decide +kernel, Or.inl (nU 989 (by decide +kernel) (by decide +kernel))⟩
set_option maxHeartbeats 4000000 in
set_option maxRecDepth 100000 in
theorem sX0_begin (l : Launch) (dC : Nat → ClassId) (dI : Nat → Nat → Nat) (cy : Nat → ClassId) (h0 : Nat) (s_flood : Nat) (s_ditches : Int32) (s_from : Int32) (s_to : Int32) (s_flood_fromLawn : Nat) (s_flood_fromDitch : Nat) (s_flood_ontoDitch : Nat) (s_flood_fromLawnf : Nat → Int32) (s_flood_fromDitchf : Nat → Int32) (s_flood_ontoDitchf : Nat → Int32) (h1 : Nat) (g_wide : Int32) (g_deep : Int32) (g_count : Int32) (g_sorts : Nat) (g_sortsf : Nat → Int32) (p2 : Int32) (p3 : Int32) (p4 : Int32) (hs_from : 0 ≤ s_from.toInt ∧ s_from.toInt ≤ 19) (hs_flood_fromLawnf : rb s_flood_fromLawnf 20 0 1048575) (hs_flood_fromDitchf : rb s_flood_fromDitchf 20 0 1048575) (hs_flood_ontoDitchf : rb s_flood_ontoDitchf 20 0 1048575) (hg_wide : 0 ≤ g_wide.toInt ∧ g_wide.toInt ≤ 5) (hg_deep : 0 ≤ g_deep.toInt ∧ g_deep.toInt ≤ 4) (hg_count : 0 ≤ g_count.toInt ∧ g_count.toInt ≤ 20) (hp3 : 0 ≤ p3.toInt ∧ p3.toInt ≤ 19) : ctV l dC dI cy hp yX0_begin cX0_begin 5 ({ frames := 2, cells := 0, slots := 0, locals := 51 } : Room) [.ref h0, .ref h1, .int p2, .int p3, .int p4] [(h0, .inr (0, [.ref s_flood, .int s_ditches, .int s_from, .int s_to])), (s_flood, .inr (2, [.ref s_flood_fromLawn, .ref s_flood_fromDitch, .ref s_flood_ontoDitch])), (s_flood_fromLawn, .inl (cy 1, 20, .inl s_flood_fromLawnf)), (s_flood_fromDitch, .inl (cy 1, 20, .inl s_flood_fromDitchf)), (s_flood_ontoDitch, .inl (cy 1, 20, .inl s_flood_ontoDitchf)), (h1, .inr (4, [.int g_wide, .int g_deep, .int g_count, .ref g_sorts])), (g_sorts, .inl (cy 1, 20, .inl g_sortsf))] (S := Int32 × Int32 × Int32 × (Nat → Int32) × (Nat → Int32) × (Nat → Int32)) (fun u => (0 ≤ u.2.1.toInt ∧ u.2.1.toInt ≤ 19) ∧ (rb u.2.2.2.1 20 0 1048575) ∧ (rb u.2.2.2.2.1 20 0 1048575) ∧ (rb u.2.2.2.2.2 20 0 1048575)) (fun u => [(h0, .inr (0, [.ref s_flood, .int u.1, .int u.2.1, .int u.2.2.1])), (s_flood, .inr (2, [.ref s_flood_fromLawn, .ref s_flood_fromDitch, .ref s_flood_ontoDitch])), (s_flood_fromLawn, .inl (cy 1, 20, .inl u.2.2.2.1)), (s_flood_fromDitch, .inl (cy 1, 20, .inl u.2.2.2.2.1)), (s_flood_ontoDitch, .inl (cy 1, 20, .inl u.2.2.2.2.2)), (h1, .inr (4, [.int g_wide, .int g_deep, .int g_count, .ref g_sorts])), (g_sorts, .inl (cy 1, 20, .inl g_sortsf))]) := by
  refine ctV.of (by decide +kernel) (Nat.le_of_ble_eq_true rfl) ?_
  intro p e s m args below meth c A ls Q hQ X hr hlocks hin hA hP hD hS hl
  have hx := X.1
  have hb := X.2.1
  have hK := X.2.2.2.2.2.1
  have hl : lv_has ls 5 [(0, .ref h0), (1, .ref h1), (2, .int p2), (3, .int p3), (4, .int p4)] := hl
  have dy_1 := ti_bd p2
  have dy_2 := ti_bd p4
  refine lv_aload_n hx hb dX0_begin_0 rfl (lv_at hl 0 rfl) ?_
  refine r_get X kcX0 (ci := 0) rfl hP 0 rfl 0 (by decide) fX0_12 rfl dX0_begin_1 ?_
  refine lv_aload_n hx hb dX0_begin_4 rfl (lv_at hl 1 rfl) ?_
  refine lv_iload_n hx hb dX0_begin_5 rfl (lv_at hl 2 rfl) ?_
  refine lv_iconst (v := 1) hx hb dX0_begin_6 (by decide) ?_
  refine sl_Vc (rV_V (As := [.ref h1, .int p2, .int 1]) (rest := []) X hp_st (fun _ _ _ h => h) (sX2_learn l dC dI cy s_flood s_flood_fromLawn s_flood_fromDitch s_flood_ontoDitch s_flood_fromLawnf s_flood_fromDitchf s_flood_ontoDitchf h1 g_wide g_deep g_count g_sorts g_sortsf p2 1 hs_flood_fromLawnf hs_flood_fromDitchf hs_flood_ontoDitchf hg_wide hg_deep hg_count) kX2_learn vX2_learn mX0_18 hP hD hS hA [1, 2, 3, 4, 5, 6] (by decide) rfl 0 (ci := 2) rfl rfl rfl hl rfl rfl (Nat.le_of_ble_eq_true rfl) dX0_begin_7 ⟨(Nat.le_of_ble_eq_true rfl), (Nat.le_of_ble_eq_true rfl)⟩ ⟨(Nat.le_of_ble_eq_true rfl), (Nat.le_of_ble_eq_true rfl)⟩) hP hD hS hA [1, 2, 3, 4, 5, 6] [true, false, false, false, false, false, false] rfl rfl rfl (fun u_8 H locs k_7 hP hD hS => ?_)
  obtain ⟨f_fromLawnf1_3, f_fromDitchf1_4, f_ontoDitchf1_5⟩ := u_8
  have k_7 : (rb f_fromLawnf1_3 20 0 1048575) ∧ (rb f_fromDitchf1_4 20 0 1048575) ∧ (rb f_ontoDitchf1_5 20 0 1048575) := k_7
  obtain ⟨k_7_0, k_7_1, k_7_2⟩ := k_7
  have hPD := vPD (ws' := [(h0, .inr (0, [.ref s_flood, .int s_ditches, .int s_from, .int s_to])), (s_flood, .inr (2, [.ref s_flood_fromLawn, .ref s_flood_fromDitch, .ref s_flood_ontoDitch])), (s_flood_fromLawn, .inl (cy 1, 20, .inl f_fromLawnf1_3)), (s_flood_fromDitch, .inl (cy 1, 20, .inl f_fromDitchf1_4)), (s_flood_ontoDitch, .inl (cy 1, 20, .inl f_ontoDitchf1_5)), (h1, .inr (4, [.int g_wide, .int g_deep, .int g_count, .ref g_sorts])), (g_sorts, .inl (cy 1, 20, .inl g_sortsf))]) hP hD rfl
  have hP := hPD.1
  have hD := hPD.2
  refine lv_aload_n hx hb dX0_begin_10 rfl (lv_at hl 0 rfl) ?_
  refine lv_aload_n hx hb dX0_begin_11 rfl (lv_at hl 1 rfl) ?_
  refine lv_iconst (v := 1) hx hb dX0_begin_12 (by decide) ?_
  refine sl_Ic (rV_I (As := [.int 1]) (rest := [.ref h0]) X hp_st (fun _ _ _ h => h) (sX4_bitsOf l dC dI cy h1 g_wide g_deep g_count g_sorts g_sortsf 1 hg_wide hg_deep hg_count) kX4_bitsOf vX4_bitsOf mX0_22 hP hD hS hA [5, 6] (by decide) rfl 0 (ci := 4) rfl rfl rfl hl rfl rfl (Nat.le_of_ble_eq_true rfl) dX0_begin_13 ⟨(Nat.le_of_ble_eq_true rfl), (Nat.le_of_ble_eq_true rfl)⟩ ⟨(Nat.le_of_ble_eq_true rfl), (Nat.le_of_ble_eq_true rfl)⟩) hP hD hS hA [5, 6] [true, true, true, true, true, false, false] rfl rfl rfl (fun r_9 u_11 H locs k_10 hP hD hS => ?_)
  have k_10 : (0 ≤ g_count.toInt → r_9 = boZ g_sortsf (1 : Int32).toInt g_count.toInt.toNat) := k_10
  have kc_12 : (1 : Int32).toInt = 1 := by decide
  have hPD := vPD (ws' := [(h0, .inr (0, [.ref s_flood, .int s_ditches, .int s_from, .int s_to])), (s_flood, .inr (2, [.ref s_flood_fromLawn, .ref s_flood_fromDitch, .ref s_flood_ontoDitch])), (s_flood_fromLawn, .inl (cy 1, 20, .inl f_fromLawnf1_3)), (s_flood_fromDitch, .inl (cy 1, 20, .inl f_fromDitchf1_4)), (s_flood_ontoDitch, .inl (cy 1, 20, .inl f_ontoDitchf1_5)), (h1, .inr (4, [.int g_wide, .int g_deep, .int g_count, .ref g_sorts])), (g_sorts, .inl (cy 1, 20, .inl g_sortsf))]) hP hD rfl
  have hP := hPD.1
  have hD := hPD.2
  refine r_put X kcX0 (ci := 0) rfl hP hD hS 0 rfl 1 (by decide) fX0_28 rfl rfl rfl (Nat.le_of_ble_eq_true rfl) dX0_begin_16 (fun H locs hP hD hS => ?_)
  have hPD := vPD (ws' := [(h0, .inr (0, [.ref s_flood, .int r_9, .int s_from, .int s_to])), (s_flood, .inr (2, [.ref s_flood_fromLawn, .ref s_flood_fromDitch, .ref s_flood_ontoDitch])), (s_flood_fromLawn, .inl (cy 1, 20, .inl f_fromLawnf1_3)), (s_flood_fromDitch, .inl (cy 1, 20, .inl f_fromDitchf1_4)), (s_flood_ontoDitch, .inl (cy 1, 20, .inl f_ontoDitchf1_5)), (h1, .inr (4, [.int g_wide, .int g_deep, .int g_count, .ref g_sorts])), (g_sorts, .inl (cy 1, 20, .inl g_sortsf))]) hP hD rfl
  have hP := hPD.1
  have hD := hPD.2
  refine lv_aload_n hx hb dX0_begin_19 rfl (lv_at hl 0 rfl) ?_
  refine lv_iload_n hx hb dX0_begin_20 rfl (lv_at hl 3 rfl) ?_
  refine r_put X kcX0 (ci := 0) rfl hP hD hS 0 rfl 2 (by decide) fX0_32 rfl rfl rfl (Nat.le_of_ble_eq_true rfl) dX0_begin_21 (fun H locs hP hD hS => ?_)
  have hPD := vPD (ws' := [(h0, .inr (0, [.ref s_flood, .int r_9, .int p3, .int s_to])), (s_flood, .inr (2, [.ref s_flood_fromLawn, .ref s_flood_fromDitch, .ref s_flood_ontoDitch])), (s_flood_fromLawn, .inl (cy 1, 20, .inl f_fromLawnf1_3)), (s_flood_fromDitch, .inl (cy 1, 20, .inl f_fromDitchf1_4)), (s_flood_ontoDitch, .inl (cy 1, 20, .inl f_ontoDitchf1_5)), (h1, .inr (4, [.int g_wide, .int g_deep, .int g_count, .ref g_sorts])), (g_sorts, .inl (cy 1, 20, .inl g_sortsf))]) hP hD rfl
  have hP := hPD.1
  have hD := hPD.2
  refine lv_aload_n hx hb dX0_begin_24 rfl (lv_at hl 0 rfl) ?_
  refine lv_iload hx hb dX0_begin_25 (lv_at hl 4 rfl) ?_
  refine r_put X kcX0 (ci := 0) rfl hP hD hS 0 rfl 3 (by decide) fX0_35 rfl rfl rfl (Nat.le_of_ble_eq_true rfl) dX0_begin_27 (fun H locs hP hD hS => ?_)
  have hPD := vPD (ws' := [(h0, .inr (0, [.ref s_flood, .int r_9, .int p3, .int p4])), (s_flood, .inr (2, [.ref s_flood_fromLawn, .ref s_flood_fromDitch, .ref s_flood_ontoDitch])), (s_flood_fromLawn, .inl (cy 1, 20, .inl f_fromLawnf1_3)), (s_flood_fromDitch, .inl (cy 1, 20, .inl f_fromDitchf1_4)), (s_flood_ontoDitch, .inl (cy 1, 20, .inl f_ontoDitchf1_5)), (h1, .inr (4, [.int g_wide, .int g_deep, .int g_count, .ref g_sorts])), (g_sorts, .inl (cy 1, 20, .inl g_sortsf))]) hP hD rfl
  have hP := hPD.1
  have hD := hPD.2
  exact eV hQ X hr hlocks hP hD hS (r_9, p3, p4, f_fromLawnf1_3, f_fromDitchf1_4, f_ontoDitchf1_5) [0, 1, 2, 3, 4, 5, 6] (by decide) rfl (show (0 ≤ p3.toInt ∧ p3.toInt ≤ 19) ∧ (rb f_fromLawnf1_3 20 0 1048575) ∧ (rb f_fromDitchf1_4 20 0 1048575) ∧ (rb f_ontoDitchf1_5 20 0 1048575) from ⟨hp3, k_7_0, k_7_1, k_7_2⟩) (Nat.le_of_ble_eq_true rfl) (Nat.le_of_ble_eq_true rfl) dX0_begin_30
set_option maxHeartbeats 4000000 in
set_option maxRecDepth 100000 in
theorem sX0_worksBy (l : Launch) (dC : Nat → ClassId) (dI : Nat → Nat → Nat) (cy : Nat → ClassId) (h0 : Nat) (s_flood : Nat) (s_ditches : Int32) (s_from : Int32) (s_to : Int32) (s_flood_fromLawn : Nat) (s_flood_fromDitch : Nat) (s_flood_ontoDitch : Nat) (s_flood_fromLawnf : Nat → Int32) (s_flood_fromDitchf : Nat → Int32) (s_flood_ontoDitchf : Nat → Int32) (p1 : Int32) (hs_from : 0 ≤ s_from.toInt ∧ s_from.toInt ≤ 19) (hs_flood_fromLawnf : rb s_flood_fromLawnf 20 0 1048575) (hs_flood_fromDitchf : rb s_flood_fromDitchf 20 0 1048575) (hs_flood_ontoDitchf : rb s_flood_ontoDitchf 20 0 1048575) : ctI l dC dI cy hp yX0_worksBy cX0_worksBy 2 .boolean ({ frames := 3, cells := 0, slots := 0, locals := 74 } : Room) [.ref h0, .int p1] [(h0, .inr (0, [.ref s_flood, .int s_ditches, .int s_from, .int s_to])), (s_flood, .inr (2, [.ref s_flood_fromLawn, .ref s_flood_fromDitch, .ref s_flood_ontoDitch])), (s_flood_fromLawn, .inl (cy 1, 20, .inl s_flood_fromLawnf)), (s_flood_fromDitch, .inl (cy 1, 20, .inl s_flood_fromDitchf)), (s_flood_ontoDitch, .inl (cy 1, 20, .inl s_flood_ontoDitchf))] (S := Unit) (fun r _ => (0 ≤ r.toInt ∧ r.toInt ≤ 1)) (fun _ => [(h0, .inr (0, [.ref s_flood, .int s_ditches, .int s_from, .int s_to])), (s_flood, .inr (2, [.ref s_flood_fromLawn, .ref s_flood_fromDitch, .ref s_flood_ontoDitch])), (s_flood_fromLawn, .inl (cy 1, 20, .inl s_flood_fromLawnf)), (s_flood_fromDitch, .inl (cy 1, 20, .inl s_flood_fromDitchf)), (s_flood_ontoDitch, .inl (cy 1, 20, .inl s_flood_ontoDitchf))]) := by
  refine ctI.of (by decide +kernel) (Nat.le_of_ble_eq_true rfl) ?_
  intro p e s m args below meth c A ls Q hQ X hr hlocks hin hA hP hD hS hl
  have hx := X.1
  have hb := X.2.1
  have hK := X.2.2.2.2.2.1
  have hl : lv_has ls 2 [(0, .ref h0), (1, .int p1)] := hl
  have dy_1 := ti_bd p1
  refine lv_aload_n hx hb dX0_worksBy_0 rfl (lv_at hl 0 rfl) ?_
  refine r_get X kcX0 (ci := 0) rfl hP 0 rfl 0 (by decide) fX0_12 rfl dX0_worksBy_1 ?_
  refine lv_aload_n hx hb dX0_worksBy_4 rfl (lv_at hl 0 rfl) ?_
  refine r_get X kcX0 (ci := 0) rfl hP 0 rfl 2 (by decide) fX0_32 rfl dX0_worksBy_5 ?_
  refine lv_aload_n hx hb dX0_worksBy_8 rfl (lv_at hl 0 rfl) ?_
  refine r_get X kcX0 (ci := 0) rfl hP 0 rfl 3 (by decide) fX0_35 rfl dX0_worksBy_9 ?_
  refine lv_aload_n hx hb dX0_worksBy_12 rfl (lv_at hl 0 rfl) ?_
  refine r_get X kcX0 (ci := 0) rfl hP 0 rfl 1 (by decide) fX0_28 rfl dX0_worksBy_13 ?_
  refine lv_iload_n hx hb dX0_worksBy_16 rfl (lv_at hl 1 rfl) ?_
  refine sl_Ic (rV_I (As := [.int s_from, .int s_to, .int s_ditches, .int p1]) (rest := []) X hp_st (fun _ _ _ h => h) (sX2_comesTo l dC dI cy s_flood s_flood_fromLawn s_flood_fromDitch s_flood_ontoDitch s_flood_fromLawnf s_flood_fromDitchf s_flood_ontoDitchf s_from s_to s_ditches p1 hs_flood_fromLawnf hs_flood_fromDitchf hs_flood_ontoDitchf hs_from) kX2_comesTo vX2_comesTo mX0_38 hP hD hS hA [1, 2, 3, 4] (by decide) rfl 0 (ci := 2) rfl rfl rfl hl rfl rfl (Nat.le_of_ble_eq_true rfl) dX0_worksBy_17 ⟨(Nat.le_of_ble_eq_true rfl), (Nat.le_of_ble_eq_true rfl)⟩ ⟨(Nat.le_of_ble_eq_true rfl), (Nat.le_of_ble_eq_true rfl)⟩) hP hD hS hA [1, 2, 3, 4] [true, false, false, false, false] rfl rfl rfl (fun r_2 u_4 H locs k_3 hP hD hS => ?_)
  have k_3 : (0 ≤ r_2.toInt ∧ r_2.toInt ≤ 1) := k_3
  have hPD := vPD (ws' := [(h0, .inr (0, [.ref s_flood, .int s_ditches, .int s_from, .int s_to])), (s_flood, .inr (2, [.ref s_flood_fromLawn, .ref s_flood_fromDitch, .ref s_flood_ontoDitch])), (s_flood_fromLawn, .inl (cy 1, 20, .inl s_flood_fromLawnf)), (s_flood_fromDitch, .inl (cy 1, 20, .inl s_flood_fromDitchf)), (s_flood_ontoDitch, .inl (cy 1, 20, .inl s_flood_ontoDitchf))]) hP hD rfl
  have hP := hPD.1
  have hD := hPD.2
  refine lv_if_ne (tgt := 27) hx hb dX0_worksBy_20 (by decide) (fun h_5 => ?_) (fun h_5 => ?_)
  · have h_5 : r_2.toInt ≠ 0 := c_ne h_5
    refine lv_iconst (v := 0) hx hb dX0_worksBy_27 (by decide) ?_
    exact eI hQ X hr hlocks hP hD hS () [0, 1, 2, 3, 4] (by decide) rfl rfl (show (0 ≤ (0 : Int32).toInt ∧ (0 : Int32).toInt ≤ 1) from (by first | decide | (have h9_0 : (0 : Int32).toInt = 0 := (by decide); omega) | (refine ⟨by decide, ?_⟩; omega) | omega)) (Nat.le_of_ble_eq_true rfl) (Nat.le_of_ble_eq_true rfl) dX0_worksBy_28
  · have h_5 : r_2.toInt = 0 := c_eq h_5
    refine lv_iconst (v := 1) hx hb dX0_worksBy_23 (by decide) ?_
    refine lv_goto (tgt := 28) hx hb dX0_worksBy_24 (by decide) ?_
    exact eI hQ X hr hlocks hP hD hS () [0, 1, 2, 3, 4] (by decide) rfl rfl (show (0 ≤ (1 : Int32).toInt ∧ (1 : Int32).toInt ≤ 1) from (by first | decide | (have h9_0 : (1 : Int32).toInt = 1 := (by decide); omega) | (refine ⟨by decide, ?_⟩; omega) | omega)) (Nat.le_of_ble_eq_true rfl) (Nat.le_of_ble_eq_true rfl) dX0_worksBy_28
set_option maxHeartbeats 4000000 in
set_option maxRecDepth 100000 in
theorem sX1_begin (l : Launch) (dC : Nat → ClassId) (dI : Nat → Nat → Nat) (cy : Nat → ClassId) (h0 : Nat) (s_floods : Nat) (s_starts : Nat) (s_goals : Nat) (s_walkers : Int32) (s_ditches : Int32) (s_lost : Int32) (s_e0 : Nat) (s_e1 : Nat) (s_e2 : Nat) (s_e3 : Nat) (s_startsf : Nat → Int32) (s_goalsf : Nat → Int32) (s_e0_fromLawn : Nat) (s_e0_fromDitch : Nat) (s_e0_ontoDitch : Nat) (s_e0_fromLawnf : Nat → Int32) (s_e0_fromDitchf : Nat → Int32) (s_e0_ontoDitchf : Nat → Int32) (s_e1_fromLawn : Nat) (s_e1_fromDitch : Nat) (s_e1_ontoDitch : Nat) (s_e1_fromLawnf : Nat → Int32) (s_e1_fromDitchf : Nat → Int32) (s_e1_ontoDitchf : Nat → Int32) (s_e2_fromLawn : Nat) (s_e2_fromDitch : Nat) (s_e2_ontoDitch : Nat) (s_e2_fromLawnf : Nat → Int32) (s_e2_fromDitchf : Nat → Int32) (s_e2_ontoDitchf : Nat → Int32) (s_e3_fromLawn : Nat) (s_e3_fromDitch : Nat) (s_e3_ontoDitch : Nat) (s_e3_fromLawnf : Nat → Int32) (s_e3_fromDitchf : Nat → Int32) (s_e3_ontoDitchf : Nat → Int32) (h1 : Nat) (k_ground : Nat) (k_errs : Int32) (k_slips : Int32) (k_rows : Int32) (k_unsureCount : Int32) (k_unsure : Nat) (k_walkers : Int32) (k_names : Nat) (k_kinds : Nat) (k_starts : Nat) (k_goals : Nat) (k_walks : Int32) (k_walkStarts : Nat) (k_walkSteps : Nat) (k_walkFell : Nat) (k_kindsf : Nat → Int32) (k_goalsf : Nat → Int32) (h2 : Nat) (n_ground : Nat) (n_at : Nat) (n_fell : Nat) (n_went : Nat) (n_walkers : Int32) (n_ground_wide : Int32) (n_ground_deep : Int32) (n_ground_count : Int32) (n_ground_sorts : Nat) (n_ground_sortsf : Nat → Int32) (n_atf : Nat → Int32) (hs_walkers : 0 ≤ s_walkers.toInt ∧ s_walkers.toInt ≤ 4) (hs_lost : 0 ≤ s_lost.toInt ∧ s_lost.toInt ≤ 3) (hs_startsf : rb s_startsf 4 0 19) (hs_e0_fromLawnf : rb s_e0_fromLawnf 20 0 1048575) (hs_e0_fromDitchf : rb s_e0_fromDitchf 20 0 1048575) (hs_e0_ontoDitchf : rb s_e0_ontoDitchf 20 0 1048575) (hs_e1_fromLawnf : rb s_e1_fromLawnf 20 0 1048575) (hs_e1_fromDitchf : rb s_e1_fromDitchf 20 0 1048575) (hs_e1_ontoDitchf : rb s_e1_ontoDitchf 20 0 1048575) (hs_e2_fromLawnf : rb s_e2_fromLawnf 20 0 1048575) (hs_e2_fromDitchf : rb s_e2_fromDitchf 20 0 1048575) (hs_e2_ontoDitchf : rb s_e2_ontoDitchf 20 0 1048575) (hs_e3_fromLawnf : rb s_e3_fromLawnf 20 0 1048575) (hs_e3_fromDitchf : rb s_e3_fromDitchf 20 0 1048575) (hs_e3_ontoDitchf : rb s_e3_ontoDitchf 20 0 1048575) (hk_rows : 0 ≤ k_rows.toInt ∧ k_rows.toInt ≤ 4) (hk_unsureCount : 0 ≤ k_unsureCount.toInt ∧ k_unsureCount.toInt ≤ 5) (hk_walkers : 0 ≤ k_walkers.toInt ∧ k_walkers.toInt ≤ 4) (hk_walks : 0 ≤ k_walks.toInt ∧ k_walks.toInt ≤ 6) (hn_walkers : 0 ≤ n_walkers.toInt ∧ n_walkers.toInt ≤ 4) (hn_ground_wide : 0 ≤ n_ground_wide.toInt ∧ n_ground_wide.toInt ≤ 5) (hn_ground_deep : 0 ≤ n_ground_deep.toInt ∧ n_ground_deep.toInt ≤ 4) (hn_ground_count : 0 ≤ n_ground_count.toInt ∧ n_ground_count.toInt ≤ 20) (hn_atf : rb n_atf 4 0 19) : ctV l dC dI cy hp yX1_begin cX1_begin 4 ({ frames := 2, cells := 0, slots := 0, locals := 51 } : Room) [.ref h0, .ref h1, .ref h2] [(h0, .inr (1, [.ref s_floods, .ref s_starts, .ref s_goals, .int s_walkers, .int s_ditches, .int s_lost])), (s_floods, .inl (cy 4, 4, .inr (.inr (.inr (.inr ((q4 s_e0 s_e1 s_e2 s_e3))))))), (s_starts, .inl (cy 1, 4, .inl s_startsf)), (s_goals, .inl (cy 1, 4, .inl s_goalsf)), (s_e0, .inr (2, [.ref s_e0_fromLawn, .ref s_e0_fromDitch, .ref s_e0_ontoDitch])), (s_e0_fromLawn, .inl (cy 1, 20, .inl s_e0_fromLawnf)), (s_e0_fromDitch, .inl (cy 1, 20, .inl s_e0_fromDitchf)), (s_e0_ontoDitch, .inl (cy 1, 20, .inl s_e0_ontoDitchf)), (s_e1, .inr (2, [.ref s_e1_fromLawn, .ref s_e1_fromDitch, .ref s_e1_ontoDitch])), (s_e1_fromLawn, .inl (cy 1, 20, .inl s_e1_fromLawnf)), (s_e1_fromDitch, .inl (cy 1, 20, .inl s_e1_fromDitchf)), (s_e1_ontoDitch, .inl (cy 1, 20, .inl s_e1_ontoDitchf)), (s_e2, .inr (2, [.ref s_e2_fromLawn, .ref s_e2_fromDitch, .ref s_e2_ontoDitch])), (s_e2_fromLawn, .inl (cy 1, 20, .inl s_e2_fromLawnf)), (s_e2_fromDitch, .inl (cy 1, 20, .inl s_e2_fromDitchf)), (s_e2_ontoDitch, .inl (cy 1, 20, .inl s_e2_ontoDitchf)), (s_e3, .inr (2, [.ref s_e3_fromLawn, .ref s_e3_fromDitch, .ref s_e3_ontoDitch])), (s_e3_fromLawn, .inl (cy 1, 20, .inl s_e3_fromLawnf)), (s_e3_fromDitch, .inl (cy 1, 20, .inl s_e3_fromDitchf)), (s_e3_ontoDitch, .inl (cy 1, 20, .inl s_e3_ontoDitchf)), (h1, .inr (7, [.ref k_ground, .int k_errs, .int k_slips, .int k_rows, .int k_unsureCount, .ref k_unsure, .int k_walkers, .ref k_names, .ref k_kinds, .ref k_starts, .ref k_goals, .int k_walks, .ref k_walkStarts, .ref k_walkSteps, .ref k_walkFell])), (k_kinds, .inl (cy 1, 4, .inl k_kindsf)), (k_goals, .inl (cy 1, 4, .inl k_goalsf)), (h2, .inr (6, [.ref n_ground, .ref n_at, .ref n_fell, .ref n_went, .int n_walkers])), (n_ground, .inr (4, [.int n_ground_wide, .int n_ground_deep, .int n_ground_count, .ref n_ground_sorts])), (n_ground_sorts, .inl (cy 1, 20, .inl n_ground_sortsf)), (n_at, .inl (cy 1, 4, .inl n_atf))] (S := Int32 × Int32 × Int32 × (Nat → Int32) × (Nat → Int32) × (Nat → Int32) × (Nat → Int32) × (Nat → Int32) × (Nat → Int32) × (Nat → Int32) × (Nat → Int32) × (Nat → Int32) × (Nat → Int32) × (Nat → Int32) × (Nat → Int32) × (Nat → Int32) × (Nat → Int32)) (fun u => (0 ≤ u.1.toInt ∧ u.1.toInt ≤ 4) ∧ (0 ≤ u.2.2.1.toInt ∧ u.2.2.1.toInt ≤ 3) ∧ (rb u.2.2.2.1 4 0 19) ∧ (rb u.2.2.2.2.2.1 20 0 1048575) ∧ (rb u.2.2.2.2.2.2.1 20 0 1048575) ∧ (rb u.2.2.2.2.2.2.2.1 20 0 1048575) ∧ (rb u.2.2.2.2.2.2.2.2.1 20 0 1048575) ∧ (rb u.2.2.2.2.2.2.2.2.2.1 20 0 1048575) ∧ (rb u.2.2.2.2.2.2.2.2.2.2.1 20 0 1048575) ∧ (rb u.2.2.2.2.2.2.2.2.2.2.2.1 20 0 1048575) ∧ (rb u.2.2.2.2.2.2.2.2.2.2.2.2.1 20 0 1048575) ∧ (rb u.2.2.2.2.2.2.2.2.2.2.2.2.2.1 20 0 1048575) ∧ (rb u.2.2.2.2.2.2.2.2.2.2.2.2.2.2.1 20 0 1048575) ∧ (rb u.2.2.2.2.2.2.2.2.2.2.2.2.2.2.2.1 20 0 1048575) ∧ (rb u.2.2.2.2.2.2.2.2.2.2.2.2.2.2.2.2 20 0 1048575)) (fun u => [(h0, .inr (1, [.ref s_floods, .ref s_starts, .ref s_goals, .int u.1, .int u.2.1, .int u.2.2.1])), (s_floods, .inl (cy 4, 4, .inr (.inr (.inr (.inr ((q4 s_e0 s_e1 s_e2 s_e3))))))), (s_starts, .inl (cy 1, 4, .inl u.2.2.2.1)), (s_goals, .inl (cy 1, 4, .inl u.2.2.2.2.1)), (s_e0, .inr (2, [.ref s_e0_fromLawn, .ref s_e0_fromDitch, .ref s_e0_ontoDitch])), (s_e0_fromLawn, .inl (cy 1, 20, .inl u.2.2.2.2.2.1)), (s_e0_fromDitch, .inl (cy 1, 20, .inl u.2.2.2.2.2.2.1)), (s_e0_ontoDitch, .inl (cy 1, 20, .inl u.2.2.2.2.2.2.2.1)), (s_e1, .inr (2, [.ref s_e1_fromLawn, .ref s_e1_fromDitch, .ref s_e1_ontoDitch])), (s_e1_fromLawn, .inl (cy 1, 20, .inl u.2.2.2.2.2.2.2.2.1)), (s_e1_fromDitch, .inl (cy 1, 20, .inl u.2.2.2.2.2.2.2.2.2.1)), (s_e1_ontoDitch, .inl (cy 1, 20, .inl u.2.2.2.2.2.2.2.2.2.2.1)), (s_e2, .inr (2, [.ref s_e2_fromLawn, .ref s_e2_fromDitch, .ref s_e2_ontoDitch])), (s_e2_fromLawn, .inl (cy 1, 20, .inl u.2.2.2.2.2.2.2.2.2.2.2.1)), (s_e2_fromDitch, .inl (cy 1, 20, .inl u.2.2.2.2.2.2.2.2.2.2.2.2.1)), (s_e2_ontoDitch, .inl (cy 1, 20, .inl u.2.2.2.2.2.2.2.2.2.2.2.2.2.1)), (s_e3, .inr (2, [.ref s_e3_fromLawn, .ref s_e3_fromDitch, .ref s_e3_ontoDitch])), (s_e3_fromLawn, .inl (cy 1, 20, .inl u.2.2.2.2.2.2.2.2.2.2.2.2.2.2.1)), (s_e3_fromDitch, .inl (cy 1, 20, .inl u.2.2.2.2.2.2.2.2.2.2.2.2.2.2.2.1)), (s_e3_ontoDitch, .inl (cy 1, 20, .inl u.2.2.2.2.2.2.2.2.2.2.2.2.2.2.2.2)), (h1, .inr (7, [.ref k_ground, .int k_errs, .int k_slips, .int k_rows, .int k_unsureCount, .ref k_unsure, .int k_walkers, .ref k_names, .ref k_kinds, .ref k_starts, .ref k_goals, .int k_walks, .ref k_walkStarts, .ref k_walkSteps, .ref k_walkFell])), (k_kinds, .inl (cy 1, 4, .inl k_kindsf)), (k_goals, .inl (cy 1, 4, .inl k_goalsf)), (h2, .inr (6, [.ref n_ground, .ref n_at, .ref n_fell, .ref n_went, .int n_walkers])), (n_ground, .inr (4, [.int n_ground_wide, .int n_ground_deep, .int n_ground_count, .ref n_ground_sorts])), (n_ground_sorts, .inl (cy 1, 20, .inl n_ground_sortsf)), (n_at, .inl (cy 1, 4, .inl n_atf))]) := by
  refine ctV.of (by decide +kernel) (Nat.le_of_ble_eq_true rfl) ?_
  intro p e s m args below meth c A ls Q hQ X hr hlocks hin hA hP hD hS hl
  have hx := X.1
  have hb := X.2.1
  have hK := X.2.2.2.2.2.1
  have hl : lv_has ls 4 [(0, .ref h0), (1, .ref h1), (2, .ref h2)] := hl
  refine lv_aload_n hx hb dX1_begin_0 rfl (lv_at hl 0 rfl) ?_
  refine lv_aload_n hx hb dX1_begin_1 rfl (lv_at hl 1 rfl) ?_
  refine r_get X kcX7 (ci := 7) rfl hP 20 rfl 6 (by decide) fX1_25 rfl dX1_begin_2 ?_
  refine r_put X kcX1 (ci := 1) rfl hP hD hS 0 rfl 3 (by decide) fX1_31 rfl rfl rfl (Nat.le_of_ble_eq_true rfl) dX1_begin_5 (fun H locs hP hD hS => ?_)
  have hPD := vPD (ws' := [(h0, .inr (1, [.ref s_floods, .ref s_starts, .ref s_goals, .int k_walkers, .int s_ditches, .int s_lost])), (s_floods, .inl (cy 4, 4, .inr (.inr (.inr (.inr ((q4 s_e0 s_e1 s_e2 s_e3))))))), (s_starts, .inl (cy 1, 4, .inl s_startsf)), (s_goals, .inl (cy 1, 4, .inl s_goalsf)), (s_e0, .inr (2, [.ref s_e0_fromLawn, .ref s_e0_fromDitch, .ref s_e0_ontoDitch])), (s_e0_fromLawn, .inl (cy 1, 20, .inl s_e0_fromLawnf)), (s_e0_fromDitch, .inl (cy 1, 20, .inl s_e0_fromDitchf)), (s_e0_ontoDitch, .inl (cy 1, 20, .inl s_e0_ontoDitchf)), (s_e1, .inr (2, [.ref s_e1_fromLawn, .ref s_e1_fromDitch, .ref s_e1_ontoDitch])), (s_e1_fromLawn, .inl (cy 1, 20, .inl s_e1_fromLawnf)), (s_e1_fromDitch, .inl (cy 1, 20, .inl s_e1_fromDitchf)), (s_e1_ontoDitch, .inl (cy 1, 20, .inl s_e1_ontoDitchf)), (s_e2, .inr (2, [.ref s_e2_fromLawn, .ref s_e2_fromDitch, .ref s_e2_ontoDitch])), (s_e2_fromLawn, .inl (cy 1, 20, .inl s_e2_fromLawnf)), (s_e2_fromDitch, .inl (cy 1, 20, .inl s_e2_fromDitchf)), (s_e2_ontoDitch, .inl (cy 1, 20, .inl s_e2_ontoDitchf)), (s_e3, .inr (2, [.ref s_e3_fromLawn, .ref s_e3_fromDitch, .ref s_e3_ontoDitch])), (s_e3_fromLawn, .inl (cy 1, 20, .inl s_e3_fromLawnf)), (s_e3_fromDitch, .inl (cy 1, 20, .inl s_e3_fromDitchf)), (s_e3_ontoDitch, .inl (cy 1, 20, .inl s_e3_ontoDitchf)), (h1, .inr (7, [.ref k_ground, .int k_errs, .int k_slips, .int k_rows, .int k_unsureCount, .ref k_unsure, .int k_walkers, .ref k_names, .ref k_kinds, .ref k_starts, .ref k_goals, .int k_walks, .ref k_walkStarts, .ref k_walkSteps, .ref k_walkFell])), (k_kinds, .inl (cy 1, 4, .inl k_kindsf)), (k_goals, .inl (cy 1, 4, .inl k_goalsf)), (h2, .inr (6, [.ref n_ground, .ref n_at, .ref n_fell, .ref n_went, .int n_walkers])), (n_ground, .inr (4, [.int n_ground_wide, .int n_ground_deep, .int n_ground_count, .ref n_ground_sorts])), (n_ground_sorts, .inl (cy 1, 20, .inl n_ground_sortsf)), (n_at, .inl (cy 1, 4, .inl n_atf))]) hP hD rfl
  have hP := hPD.1
  have hD := hPD.2
  refine lv_aload_n hx hb dX1_begin_8 rfl (lv_at hl 0 rfl) ?_
  refine lv_aload_n hx hb dX1_begin_9 rfl (lv_at hl 2 rfl) ?_
  refine r_get X kcX6 (ci := 6) rfl hP 23 rfl 0 (by decide) fX1_32 rfl dX1_begin_10 ?_
  refine lv_iconst (v := 1) hx hb dX1_begin_13 (by decide) ?_
  refine sl_Ic (rV_I (As := [.int 1]) (rest := [.ref h0]) X hp_st (fun _ _ _ h => h) (sX4_bitsOf l dC dI cy n_ground n_ground_wide n_ground_deep n_ground_count n_ground_sorts n_ground_sortsf 1 hn_ground_wide hn_ground_deep hn_ground_count) kX4_bitsOf vX4_bitsOf mX1_38 hP hD hS hA [24, 25] (by decide) rfl 0 (ci := 4) rfl rfl rfl hl rfl rfl (Nat.le_of_ble_eq_true rfl) dX1_begin_14 ⟨(Nat.le_of_ble_eq_true rfl), (Nat.le_of_ble_eq_true rfl)⟩ ⟨(Nat.le_of_ble_eq_true rfl), (Nat.le_of_ble_eq_true rfl)⟩) hP hD hS hA [24, 25] [true, true, true, true, true, true, true, true, true, true, true, true, true, true, true, true, true, true, true, true, true, true, true, true, false, false, true] rfl rfl rfl (fun r_1 u_3 H locs k_2 hP hD hS => ?_)
  have k_2 : (0 ≤ n_ground_count.toInt → r_1 = boZ n_ground_sortsf (1 : Int32).toInt n_ground_count.toInt.toNat) := k_2
  have kc_4 : (1 : Int32).toInt = 1 := by decide
  have hPD := vPD (ws' := [(h0, .inr (1, [.ref s_floods, .ref s_starts, .ref s_goals, .int k_walkers, .int s_ditches, .int s_lost])), (s_floods, .inl (cy 4, 4, .inr (.inr (.inr (.inr ((q4 s_e0 s_e1 s_e2 s_e3))))))), (s_starts, .inl (cy 1, 4, .inl s_startsf)), (s_goals, .inl (cy 1, 4, .inl s_goalsf)), (s_e0, .inr (2, [.ref s_e0_fromLawn, .ref s_e0_fromDitch, .ref s_e0_ontoDitch])), (s_e0_fromLawn, .inl (cy 1, 20, .inl s_e0_fromLawnf)), (s_e0_fromDitch, .inl (cy 1, 20, .inl s_e0_fromDitchf)), (s_e0_ontoDitch, .inl (cy 1, 20, .inl s_e0_ontoDitchf)), (s_e1, .inr (2, [.ref s_e1_fromLawn, .ref s_e1_fromDitch, .ref s_e1_ontoDitch])), (s_e1_fromLawn, .inl (cy 1, 20, .inl s_e1_fromLawnf)), (s_e1_fromDitch, .inl (cy 1, 20, .inl s_e1_fromDitchf)), (s_e1_ontoDitch, .inl (cy 1, 20, .inl s_e1_ontoDitchf)), (s_e2, .inr (2, [.ref s_e2_fromLawn, .ref s_e2_fromDitch, .ref s_e2_ontoDitch])), (s_e2_fromLawn, .inl (cy 1, 20, .inl s_e2_fromLawnf)), (s_e2_fromDitch, .inl (cy 1, 20, .inl s_e2_fromDitchf)), (s_e2_ontoDitch, .inl (cy 1, 20, .inl s_e2_ontoDitchf)), (s_e3, .inr (2, [.ref s_e3_fromLawn, .ref s_e3_fromDitch, .ref s_e3_ontoDitch])), (s_e3_fromLawn, .inl (cy 1, 20, .inl s_e3_fromLawnf)), (s_e3_fromDitch, .inl (cy 1, 20, .inl s_e3_fromDitchf)), (s_e3_ontoDitch, .inl (cy 1, 20, .inl s_e3_ontoDitchf)), (h1, .inr (7, [.ref k_ground, .int k_errs, .int k_slips, .int k_rows, .int k_unsureCount, .ref k_unsure, .int k_walkers, .ref k_names, .ref k_kinds, .ref k_starts, .ref k_goals, .int k_walks, .ref k_walkStarts, .ref k_walkSteps, .ref k_walkFell])), (k_kinds, .inl (cy 1, 4, .inl k_kindsf)), (k_goals, .inl (cy 1, 4, .inl k_goalsf)), (h2, .inr (6, [.ref n_ground, .ref n_at, .ref n_fell, .ref n_went, .int n_walkers])), (n_at, .inl (cy 1, 4, .inl n_atf)), (n_ground, .inr (4, [.int n_ground_wide, .int n_ground_deep, .int n_ground_count, .ref n_ground_sorts])), (n_ground_sorts, .inl (cy 1, 20, .inl n_ground_sortsf))]) hP hD rfl
  have hP := hPD.1
  have hD := hPD.2
  refine r_put X kcX1 (ci := 1) rfl hP hD hS 0 rfl 4 (by decide) fX1_44 rfl rfl rfl (Nat.le_of_ble_eq_true rfl) dX1_begin_17 (fun H locs hP hD hS => ?_)
  have hPD := vPD (ws' := [(h0, .inr (1, [.ref s_floods, .ref s_starts, .ref s_goals, .int k_walkers, .int r_1, .int s_lost])), (s_floods, .inl (cy 4, 4, .inr (.inr (.inr (.inr ((q4 s_e0 s_e1 s_e2 s_e3))))))), (s_starts, .inl (cy 1, 4, .inl s_startsf)), (s_goals, .inl (cy 1, 4, .inl s_goalsf)), (s_e0, .inr (2, [.ref s_e0_fromLawn, .ref s_e0_fromDitch, .ref s_e0_ontoDitch])), (s_e0_fromLawn, .inl (cy 1, 20, .inl s_e0_fromLawnf)), (s_e0_fromDitch, .inl (cy 1, 20, .inl s_e0_fromDitchf)), (s_e0_ontoDitch, .inl (cy 1, 20, .inl s_e0_ontoDitchf)), (s_e1, .inr (2, [.ref s_e1_fromLawn, .ref s_e1_fromDitch, .ref s_e1_ontoDitch])), (s_e1_fromLawn, .inl (cy 1, 20, .inl s_e1_fromLawnf)), (s_e1_fromDitch, .inl (cy 1, 20, .inl s_e1_fromDitchf)), (s_e1_ontoDitch, .inl (cy 1, 20, .inl s_e1_ontoDitchf)), (s_e2, .inr (2, [.ref s_e2_fromLawn, .ref s_e2_fromDitch, .ref s_e2_ontoDitch])), (s_e2_fromLawn, .inl (cy 1, 20, .inl s_e2_fromLawnf)), (s_e2_fromDitch, .inl (cy 1, 20, .inl s_e2_fromDitchf)), (s_e2_ontoDitch, .inl (cy 1, 20, .inl s_e2_ontoDitchf)), (s_e3, .inr (2, [.ref s_e3_fromLawn, .ref s_e3_fromDitch, .ref s_e3_ontoDitch])), (s_e3_fromLawn, .inl (cy 1, 20, .inl s_e3_fromLawnf)), (s_e3_fromDitch, .inl (cy 1, 20, .inl s_e3_fromDitchf)), (s_e3_ontoDitch, .inl (cy 1, 20, .inl s_e3_ontoDitchf)), (h1, .inr (7, [.ref k_ground, .int k_errs, .int k_slips, .int k_rows, .int k_unsureCount, .ref k_unsure, .int k_walkers, .ref k_names, .ref k_kinds, .ref k_starts, .ref k_goals, .int k_walks, .ref k_walkStarts, .ref k_walkSteps, .ref k_walkFell])), (k_kinds, .inl (cy 1, 4, .inl k_kindsf)), (k_goals, .inl (cy 1, 4, .inl k_goalsf)), (h2, .inr (6, [.ref n_ground, .ref n_at, .ref n_fell, .ref n_went, .int n_walkers])), (n_at, .inl (cy 1, 4, .inl n_atf)), (n_ground, .inr (4, [.int n_ground_wide, .int n_ground_deep, .int n_ground_count, .ref n_ground_sorts])), (n_ground_sorts, .inl (cy 1, 20, .inl n_ground_sortsf))]) hP hD rfl
  have hP := hPD.1
  have hD := hPD.2
  refine lv_aload_n hx hb dX1_begin_20 rfl (lv_at hl 0 rfl) ?_
  refine lv_iconst (v := 0) hx hb dX1_begin_21 (by decide) ?_
  refine r_put X kcX1 (ci := 1) rfl hP hD hS 0 rfl 5 (by decide) fX1_47 rfl rfl rfl (Nat.le_of_ble_eq_true rfl) dX1_begin_22 (fun H locs hP hD hS => ?_)
  have hPD := vPD (ws' := [(h0, .inr (1, [.ref s_floods, .ref s_starts, .ref s_goals, .int k_walkers, .int r_1, .int 0])), (s_floods, .inl (cy 4, 4, .inr (.inr (.inr (.inr ((q4 s_e0 s_e1 s_e2 s_e3))))))), (s_starts, .inl (cy 1, 4, .inl s_startsf)), (s_goals, .inl (cy 1, 4, .inl s_goalsf)), (s_e0, .inr (2, [.ref s_e0_fromLawn, .ref s_e0_fromDitch, .ref s_e0_ontoDitch])), (s_e0_fromLawn, .inl (cy 1, 20, .inl s_e0_fromLawnf)), (s_e0_fromDitch, .inl (cy 1, 20, .inl s_e0_fromDitchf)), (s_e0_ontoDitch, .inl (cy 1, 20, .inl s_e0_ontoDitchf)), (s_e1, .inr (2, [.ref s_e1_fromLawn, .ref s_e1_fromDitch, .ref s_e1_ontoDitch])), (s_e1_fromLawn, .inl (cy 1, 20, .inl s_e1_fromLawnf)), (s_e1_fromDitch, .inl (cy 1, 20, .inl s_e1_fromDitchf)), (s_e1_ontoDitch, .inl (cy 1, 20, .inl s_e1_ontoDitchf)), (s_e2, .inr (2, [.ref s_e2_fromLawn, .ref s_e2_fromDitch, .ref s_e2_ontoDitch])), (s_e2_fromLawn, .inl (cy 1, 20, .inl s_e2_fromLawnf)), (s_e2_fromDitch, .inl (cy 1, 20, .inl s_e2_fromDitchf)), (s_e2_ontoDitch, .inl (cy 1, 20, .inl s_e2_ontoDitchf)), (s_e3, .inr (2, [.ref s_e3_fromLawn, .ref s_e3_fromDitch, .ref s_e3_ontoDitch])), (s_e3_fromLawn, .inl (cy 1, 20, .inl s_e3_fromLawnf)), (s_e3_fromDitch, .inl (cy 1, 20, .inl s_e3_fromDitchf)), (s_e3_ontoDitch, .inl (cy 1, 20, .inl s_e3_ontoDitchf)), (h1, .inr (7, [.ref k_ground, .int k_errs, .int k_slips, .int k_rows, .int k_unsureCount, .ref k_unsure, .int k_walkers, .ref k_names, .ref k_kinds, .ref k_starts, .ref k_goals, .int k_walks, .ref k_walkStarts, .ref k_walkSteps, .ref k_walkFell])), (k_kinds, .inl (cy 1, 4, .inl k_kindsf)), (k_goals, .inl (cy 1, 4, .inl k_goalsf)), (h2, .inr (6, [.ref n_ground, .ref n_at, .ref n_fell, .ref n_went, .int n_walkers])), (n_at, .inl (cy 1, 4, .inl n_atf)), (n_ground, .inr (4, [.int n_ground_wide, .int n_ground_deep, .int n_ground_count, .ref n_ground_sorts])), (n_ground_sorts, .inl (cy 1, 20, .inl n_ground_sortsf))]) hP hD rfl
  have hP := hPD.1
  have hD := hPD.2
  refine lv_iconst (v := 0) hx hb dX1_begin_25 (by decide) ?_
  refine lv_istore_n (lv' := [(3, .int 0), (0, .ref h0), (1, .ref h1), (2, .ref h2)]) hx hb dX1_begin_26 rfl hl (by decide) rfl (fun ls hl => ?_)
  have lp_5 : ∀ (nlp_5 : Nat) (i_6 : Int32) (f_8 : Nat → Int32) (f_10 : Nat → Int32) (f_11 : Nat → Int32) (f_13 : Nat → Int32) (f_15 : Nat → Int32) (f_17 : Nat → Int32) (f_19 : Nat → Int32) (f_21 : Nat → Int32) (f_23 : Nat → Int32) (f_25 : Nat → Int32) (f_27 : Nat → Int32) (f_29 : Nat → Int32) (f_31 : Nat → Int32) (f_33 : Nat → Int32) (H : Heap) (locs : List Loc) (ls : Array Slot), (0 ≤ i_6.toInt ∧ i_6.toInt ≤ 4) → (rb f_8 4 0 19) → (rb f_11 20 0 1048575) → (rb f_13 20 0 1048575) → (rb f_15 20 0 1048575) → (rb f_17 20 0 1048575) → (rb f_19 20 0 1048575) → (rb f_21 20 0 1048575) → (rb f_23 20 0 1048575) → (rb f_25 20 0 1048575) → (rb f_27 20 0 1048575) → (rb f_29 20 0 1048575) → (rb f_31 20 0 1048575) → (rb f_33 20 0 1048575) → (5 - i_6.toInt ≤ (nlp_5 : Int)) → va_P (dC, dI) vwCl [(h0, .inr (1, [.ref s_floods, .ref s_starts, .ref s_goals, .int k_walkers, .int r_1, .int 0])), (s_floods, .inl (cy 4, 4, .inr (.inr (.inr (.inr ((q4 s_e0 s_e1 s_e2 s_e3))))))), (s_starts, .inl (cy 1, 4, .inl f_8)), (s_goals, .inl (cy 1, 4, .inl f_10)), (s_e0, .inr (2, [.ref s_e0_fromLawn, .ref s_e0_fromDitch, .ref s_e0_ontoDitch])), (s_e0_fromLawn, .inl (cy 1, 20, .inl f_11)), (s_e0_fromDitch, .inl (cy 1, 20, .inl f_13)), (s_e0_ontoDitch, .inl (cy 1, 20, .inl f_15)), (s_e1, .inr (2, [.ref s_e1_fromLawn, .ref s_e1_fromDitch, .ref s_e1_ontoDitch])), (s_e1_fromLawn, .inl (cy 1, 20, .inl f_17)), (s_e1_fromDitch, .inl (cy 1, 20, .inl f_19)), (s_e1_ontoDitch, .inl (cy 1, 20, .inl f_21)), (s_e2, .inr (2, [.ref s_e2_fromLawn, .ref s_e2_fromDitch, .ref s_e2_ontoDitch])), (s_e2_fromLawn, .inl (cy 1, 20, .inl f_23)), (s_e2_fromDitch, .inl (cy 1, 20, .inl f_25)), (s_e2_ontoDitch, .inl (cy 1, 20, .inl f_27)), (s_e3, .inr (2, [.ref s_e3_fromLawn, .ref s_e3_fromDitch, .ref s_e3_ontoDitch])), (s_e3_fromLawn, .inl (cy 1, 20, .inl f_29)), (s_e3_fromDitch, .inl (cy 1, 20, .inl f_31)), (s_e3_ontoDitch, .inl (cy 1, 20, .inl f_33)), (h1, .inr (7, [.ref k_ground, .int k_errs, .int k_slips, .int k_rows, .int k_unsureCount, .ref k_unsure, .int k_walkers, .ref k_names, .ref k_kinds, .ref k_starts, .ref k_goals, .int k_walks, .ref k_walkStarts, .ref k_walkSteps, .ref k_walkFell])), (k_kinds, .inl (cy 1, 4, .inl k_kindsf)), (k_goals, .inl (cy 1, 4, .inl k_goalsf)), (h2, .inr (6, [.ref n_ground, .ref n_at, .ref n_fell, .ref n_went, .int n_walkers])), (n_at, .inl (cy 1, 4, .inl n_atf)), (n_ground, .inr (4, [.int n_ground_wide, .int n_ground_deep, .int n_ground_count, .ref n_ground_sorts])), (n_ground_sorts, .inl (cy 1, 20, .inl n_ground_sortsf))] H → va_D A [(h0, .inr (1, [.ref s_floods, .ref s_starts, .ref s_goals, .int k_walkers, .int r_1, .int 0])), (s_floods, .inl (cy 4, 4, .inr (.inr (.inr (.inr ((q4 s_e0 s_e1 s_e2 s_e3))))))), (s_starts, .inl (cy 1, 4, .inl f_8)), (s_goals, .inl (cy 1, 4, .inl f_10)), (s_e0, .inr (2, [.ref s_e0_fromLawn, .ref s_e0_fromDitch, .ref s_e0_ontoDitch])), (s_e0_fromLawn, .inl (cy 1, 20, .inl f_11)), (s_e0_fromDitch, .inl (cy 1, 20, .inl f_13)), (s_e0_ontoDitch, .inl (cy 1, 20, .inl f_15)), (s_e1, .inr (2, [.ref s_e1_fromLawn, .ref s_e1_fromDitch, .ref s_e1_ontoDitch])), (s_e1_fromLawn, .inl (cy 1, 20, .inl f_17)), (s_e1_fromDitch, .inl (cy 1, 20, .inl f_19)), (s_e1_ontoDitch, .inl (cy 1, 20, .inl f_21)), (s_e2, .inr (2, [.ref s_e2_fromLawn, .ref s_e2_fromDitch, .ref s_e2_ontoDitch])), (s_e2_fromLawn, .inl (cy 1, 20, .inl f_23)), (s_e2_fromDitch, .inl (cy 1, 20, .inl f_25)), (s_e2_ontoDitch, .inl (cy 1, 20, .inl f_27)), (s_e3, .inr (2, [.ref s_e3_fromLawn, .ref s_e3_fromDitch, .ref s_e3_ontoDitch])), (s_e3_fromLawn, .inl (cy 1, 20, .inl f_29)), (s_e3_fromDitch, .inl (cy 1, 20, .inl f_31)), (s_e3_ontoDitch, .inl (cy 1, 20, .inl f_33)), (h1, .inr (7, [.ref k_ground, .int k_errs, .int k_slips, .int k_rows, .int k_unsureCount, .ref k_unsure, .int k_walkers, .ref k_names, .ref k_kinds, .ref k_starts, .ref k_goals, .int k_walks, .ref k_walkStarts, .ref k_walkSteps, .ref k_walkFell])), (k_kinds, .inl (cy 1, 4, .inl k_kindsf)), (k_goals, .inl (cy 1, 4, .inl k_goalsf)), (h2, .inr (6, [.ref n_ground, .ref n_at, .ref n_fell, .ref n_went, .int n_walkers])), (n_at, .inl (cy 1, 4, .inl n_atf)), (n_ground, .inr (4, [.int n_ground_wide, .int n_ground_deep, .int n_ground_count, .ref n_ground_sorts])), (n_ground_sorts, .inl (cy 1, 20, .inl n_ground_sortsf))] → va_S A s.heap H locs → lv_has ls 4 [(3, .int i_6), (0, .ref h0), (1, .ref h1), (2, .ref h2)] → W p l e ({ frames := 2, cells := 0, slots := 0, locals := 51 } : Room) s m args below meth c H locs 0 0 Q (F0 m 27 ls []) := by
    intro nlp_5
    induction nlp_5 with
    | zero =>
      intro i_6 f_8 f_10 f_11 f_13 f_15 f_17 f_19 f_21 f_23 f_25 f_27 f_29 f_31 f_33 H locs ls b_7 b_9 b_12 b_14 b_16 b_18 b_20 b_22 b_24 b_26 b_28 b_30 b_32 b_34 hmlp_5 hP hD hS hl
      exfalso
      have di_6 := ti_bd i_6
      omega
    | succ nlp_5 ihlp_5 =>
      intro i_6 f_8 f_10 f_11 f_13 f_15 f_17 f_19 f_21 f_23 f_25 f_27 f_29 f_31 f_33 H locs ls b_7 b_9 b_12 b_14 b_16 b_18 b_20 b_22 b_24 b_26 b_28 b_30 b_32 b_34 hmlp_5 hP hD hS hl
      refine lv_iload_n hx hb dX1_begin_27 rfl (lv_at hl 0 rfl) ?_
      refine lv_aload_n hx hb dX1_begin_28 rfl (lv_at hl 1 rfl) ?_
      refine r_get X kcX1 (ci := 1) rfl hP 0 rfl 3 (by decide) fX1_31 rfl dX1_begin_29 ?_
      refine lv_icmp_ge (tgt := 85) hx hb dX1_begin_32 (by decide) (fun h_35 => ?_) (fun h_35 => ?_)
      · have h_35 : k_walkers.toInt ≤ i_6.toInt := c_le h_35
        exact eV hQ X hr hlocks hP hD hS (k_walkers, r_1, (0 : Int32), f_8, f_10, f_11, f_13, f_15, f_17, f_19, f_21, f_23, f_25, f_27, f_29, f_31, f_33) [0, 1, 2, 3, 4, 5, 6, 7, 8, 9, 10, 11, 12, 13, 14, 15, 16, 17, 18, 19, 20, 21, 22, 23, 25, 26, 24] (by decide +kernel) rfl (show (0 ≤ k_walkers.toInt ∧ k_walkers.toInt ≤ 4) ∧ (0 ≤ (0 : Int32).toInt ∧ (0 : Int32).toInt ≤ 3) ∧ (rb f_8 4 0 19) ∧ (rb f_11 20 0 1048575) ∧ (rb f_13 20 0 1048575) ∧ (rb f_15 20 0 1048575) ∧ (rb f_17 20 0 1048575) ∧ (rb f_19 20 0 1048575) ∧ (rb f_21 20 0 1048575) ∧ (rb f_23 20 0 1048575) ∧ (rb f_25 20 0 1048575) ∧ (rb f_27 20 0 1048575) ∧ (rb f_29 20 0 1048575) ∧ (rb f_31 20 0 1048575) ∧ (rb f_33 20 0 1048575) from ⟨hk_walkers, (by first | decide | (have h9_0 : (0 : Int32).toInt = 0 := (by decide); omega) | (refine ⟨by decide, ?_⟩; omega) | omega), b_9, b_12, b_14, b_16, b_18, b_20, b_22, b_24, b_26, b_28, b_30, b_32, b_34⟩) (Nat.le_of_ble_eq_true rfl) (Nat.le_of_ble_eq_true rfl) dX1_begin_85
      · have h_35 : i_6.toInt < k_walkers.toInt := c_nle h_35
        refine lv_aload_n hx hb dX1_begin_35 rfl (lv_at hl 1 rfl) ?_
        refine r_get X kcX1 (ci := 1) rfl hP 0 rfl 0 (by decide) fX1_11 rfl dX1_begin_36 ?_
        refine lv_iload_n hx hb dX1_begin_39 rfl (lv_at hl 0 rfl) ?_
        rcases i4 (x := i_6) (by omega) (by omega) with h_36 | h_36 | h_36 | h_36
        · refine q_ald (D := (dC, dI)) (cl := vwCl) hx hb hK hP 1 4 rfl rfl (i := i_6) (vin (by omega) (by omega)) (d := s_e0) (by rw [h_36]; rfl) dX1_begin_40 ?_
          refine lv_aload_n hx hb dX1_begin_41 rfl (lv_at hl 3 rfl) ?_
          refine r_get X kcX6 (ci := 6) rfl hP 23 rfl 0 (by decide) fX1_32 rfl dX1_begin_42 ?_
          refine lv_aload_n hx hb dX1_begin_45 rfl (lv_at hl 2 rfl) ?_
          refine r_get X kcX7 (ci := 7) rfl hP 20 rfl 8 (by decide) fX1_50 rfl dX1_begin_46 ?_
          refine lv_iload_n hx hb dX1_begin_49 rfl (lv_at hl 0 rfl) ?_
          refine va_iald (D := (dC, dI)) (cl := vwCl) hx hb hK hP 21 1 rfl rfl (i := i_6) (vin (by omega) (by omega)) dX1_begin_50 ?_
          refine lv_topi (fun x_37 ex_37 => ?_)
          refine lv_iconst (v := 0) hx hb dX1_begin_51 (by decide) ?_
          refine sl_Vc (rV_V (As := [.ref n_ground, .int x_37, .int 0]) (rest := []) X hp_st (fun _ _ _ h => h) (sX2_learn l dC dI cy s_e0 s_e0_fromLawn s_e0_fromDitch s_e0_ontoDitch f_11 f_13 f_15 n_ground n_ground_wide n_ground_deep n_ground_count n_ground_sorts n_ground_sortsf x_37 0 b_12 b_14 b_16 hn_ground_wide hn_ground_deep hn_ground_count) kX2_learn vX2_learn mX1_53 hP hD hS hA [4, 5, 6, 7, 25, 26] (by decide) rfl 0 (ci := 2) rfl rfl rfl hl rfl rfl (Nat.le_of_ble_eq_true rfl) dX1_begin_52 ⟨(Nat.le_of_ble_eq_true rfl), (Nat.le_of_ble_eq_true rfl)⟩ ⟨(Nat.le_of_ble_eq_true rfl), (Nat.le_of_ble_eq_true rfl)⟩) hP hD hS hA [4, 5, 6, 7, 25, 26] [true, true, true, true, false, false, false, false, true, true, true, true, true, true, true, true, true, true, true, true, true, true, true, true, true, false, false] rfl rfl rfl (fun u_43 H locs k_42 hP hD hS => ?_)
          obtain ⟨f_fromLawnf1_38, f_fromDitchf1_39, f_ontoDitchf1_40⟩ := u_43
          have k_42 : (rb f_fromLawnf1_38 20 0 1048575) ∧ (rb f_fromDitchf1_39 20 0 1048575) ∧ (rb f_ontoDitchf1_40 20 0 1048575) := k_42
          obtain ⟨k_42_0, k_42_1, k_42_2⟩ := k_42
          have hPD := vPD (ws' := [(h0, .inr (1, [.ref s_floods, .ref s_starts, .ref s_goals, .int k_walkers, .int r_1, .int 0])), (s_floods, .inl (cy 4, 4, .inr (.inr (.inr (.inr ((q4 s_e0 s_e1 s_e2 s_e3))))))), (s_starts, .inl (cy 1, 4, .inl f_8)), (s_goals, .inl (cy 1, 4, .inl f_10)), (s_e1, .inr (2, [.ref s_e1_fromLawn, .ref s_e1_fromDitch, .ref s_e1_ontoDitch])), (s_e1_fromLawn, .inl (cy 1, 20, .inl f_17)), (s_e1_fromDitch, .inl (cy 1, 20, .inl f_19)), (s_e1_ontoDitch, .inl (cy 1, 20, .inl f_21)), (s_e2, .inr (2, [.ref s_e2_fromLawn, .ref s_e2_fromDitch, .ref s_e2_ontoDitch])), (s_e2_fromLawn, .inl (cy 1, 20, .inl f_23)), (s_e2_fromDitch, .inl (cy 1, 20, .inl f_25)), (s_e2_ontoDitch, .inl (cy 1, 20, .inl f_27)), (s_e3, .inr (2, [.ref s_e3_fromLawn, .ref s_e3_fromDitch, .ref s_e3_ontoDitch])), (s_e3_fromLawn, .inl (cy 1, 20, .inl f_29)), (s_e3_fromDitch, .inl (cy 1, 20, .inl f_31)), (s_e3_ontoDitch, .inl (cy 1, 20, .inl f_33)), (h1, .inr (7, [.ref k_ground, .int k_errs, .int k_slips, .int k_rows, .int k_unsureCount, .ref k_unsure, .int k_walkers, .ref k_names, .ref k_kinds, .ref k_starts, .ref k_goals, .int k_walks, .ref k_walkStarts, .ref k_walkSteps, .ref k_walkFell])), (k_kinds, .inl (cy 1, 4, .inl k_kindsf)), (k_goals, .inl (cy 1, 4, .inl k_goalsf)), (h2, .inr (6, [.ref n_ground, .ref n_at, .ref n_fell, .ref n_went, .int n_walkers])), (n_at, .inl (cy 1, 4, .inl n_atf)), (s_e0, .inr (2, [.ref s_e0_fromLawn, .ref s_e0_fromDitch, .ref s_e0_ontoDitch])), (s_e0_fromLawn, .inl (cy 1, 20, .inl f_fromLawnf1_38)), (s_e0_fromDitch, .inl (cy 1, 20, .inl f_fromDitchf1_39)), (s_e0_ontoDitch, .inl (cy 1, 20, .inl f_ontoDitchf1_40)), (n_ground, .inr (4, [.int n_ground_wide, .int n_ground_deep, .int n_ground_count, .ref n_ground_sorts])), (n_ground_sorts, .inl (cy 1, 20, .inl n_ground_sortsf))]) hP hD rfl
          have hP := hPD.1
          have hD := hPD.2
          refine lv_aload_n hx hb dX1_begin_55 rfl (lv_at hl 1 rfl) ?_
          refine r_get X kcX1 (ci := 1) rfl hP 0 rfl 1 (by decide) fX1_17 rfl dX1_begin_56 ?_
          refine lv_iload_n hx hb dX1_begin_59 rfl (lv_at hl 0 rfl) ?_
          refine lv_aload_n hx hb dX1_begin_60 rfl (lv_at hl 3 rfl) ?_
          refine r_get X kcX6 (ci := 6) rfl hP 19 rfl 1 (by decide) fX1_57 rfl dX1_begin_61 ?_
          refine lv_iload_n hx hb dX1_begin_64 rfl (lv_at hl 0 rfl) ?_
          refine va_iald (D := (dC, dI)) (cl := vwCl) hx hb hK hP 20 1 rfl rfl (i := i_6) (vin (by omega) (by omega)) dX1_begin_65 ?_
          refine lv_topi (fun x_44 ex_44 => ?_)
          have bx_44 : 0 ≤ x_44.toInt ∧ x_44.toInt ≤ 19 := rb_at hn_atf ex_44 (by omega) (by omega)
          refine va_iast (D := (dC, dI)) (cl := vwCl) hx hb hK hP hD hS 2 1 rfl rfl (i := i_6) (vin (by omega) (by omega)) dX1_begin_66 (fun H locs hP hD hS => ?_)
          generalize ef_45 : upd f_8 (Int32.toNatClampNeg i_6) x_44 = f_45 at hP hD
          have bf_45 : rb f_45 4 0 19 := by rw [← ef_45]; exact rb_upd b_9 (by omega) (by omega)
          have hPD := vPD (ws' := [(h0, .inr (1, [.ref s_floods, .ref s_starts, .ref s_goals, .int k_walkers, .int r_1, .int 0])), (s_floods, .inl (cy 4, 4, .inr (.inr (.inr (.inr ((q4 s_e0 s_e1 s_e2 s_e3))))))), (s_starts, .inl (cy 1, 4, .inl f_45)), (s_goals, .inl (cy 1, 4, .inl f_10)), (s_e1, .inr (2, [.ref s_e1_fromLawn, .ref s_e1_fromDitch, .ref s_e1_ontoDitch])), (s_e1_fromLawn, .inl (cy 1, 20, .inl f_17)), (s_e1_fromDitch, .inl (cy 1, 20, .inl f_19)), (s_e1_ontoDitch, .inl (cy 1, 20, .inl f_21)), (s_e2, .inr (2, [.ref s_e2_fromLawn, .ref s_e2_fromDitch, .ref s_e2_ontoDitch])), (s_e2_fromLawn, .inl (cy 1, 20, .inl f_23)), (s_e2_fromDitch, .inl (cy 1, 20, .inl f_25)), (s_e2_ontoDitch, .inl (cy 1, 20, .inl f_27)), (s_e3, .inr (2, [.ref s_e3_fromLawn, .ref s_e3_fromDitch, .ref s_e3_ontoDitch])), (s_e3_fromLawn, .inl (cy 1, 20, .inl f_29)), (s_e3_fromDitch, .inl (cy 1, 20, .inl f_31)), (s_e3_ontoDitch, .inl (cy 1, 20, .inl f_33)), (h1, .inr (7, [.ref k_ground, .int k_errs, .int k_slips, .int k_rows, .int k_unsureCount, .ref k_unsure, .int k_walkers, .ref k_names, .ref k_kinds, .ref k_starts, .ref k_goals, .int k_walks, .ref k_walkStarts, .ref k_walkSteps, .ref k_walkFell])), (k_kinds, .inl (cy 1, 4, .inl k_kindsf)), (k_goals, .inl (cy 1, 4, .inl k_goalsf)), (h2, .inr (6, [.ref n_ground, .ref n_at, .ref n_fell, .ref n_went, .int n_walkers])), (n_at, .inl (cy 1, 4, .inl n_atf)), (s_e0, .inr (2, [.ref s_e0_fromLawn, .ref s_e0_fromDitch, .ref s_e0_ontoDitch])), (s_e0_fromLawn, .inl (cy 1, 20, .inl f_fromLawnf1_38)), (s_e0_fromDitch, .inl (cy 1, 20, .inl f_fromDitchf1_39)), (s_e0_ontoDitch, .inl (cy 1, 20, .inl f_ontoDitchf1_40)), (n_ground, .inr (4, [.int n_ground_wide, .int n_ground_deep, .int n_ground_count, .ref n_ground_sorts])), (n_ground_sorts, .inl (cy 1, 20, .inl n_ground_sortsf))]) hP hD rfl
          have hP := hPD.1
          have hD := hPD.2
          refine lv_aload_n hx hb dX1_begin_67 rfl (lv_at hl 1 rfl) ?_
          refine r_get X kcX1 (ci := 1) rfl hP 0 rfl 2 (by decide) fX1_21 rfl dX1_begin_68 ?_
          refine lv_iload_n hx hb dX1_begin_71 rfl (lv_at hl 0 rfl) ?_
          refine lv_aload_n hx hb dX1_begin_72 rfl (lv_at hl 2 rfl) ?_
          refine r_get X kcX7 (ci := 7) rfl hP 16 rfl 10 (by decide) fX1_60 rfl dX1_begin_73 ?_
          refine lv_iload_n hx hb dX1_begin_76 rfl (lv_at hl 0 rfl) ?_
          refine va_iald (D := (dC, dI)) (cl := vwCl) hx hb hK hP 18 1 rfl rfl (i := i_6) (vin (by omega) (by omega)) dX1_begin_77 ?_
          refine lv_topi (fun x_46 ex_46 => ?_)
          refine va_iast (D := (dC, dI)) (cl := vwCl) hx hb hK hP hD hS 3 1 rfl rfl (i := i_6) (vin (by omega) (by omega)) dX1_begin_78 (fun H locs hP hD hS => ?_)
          generalize ef_47 : upd f_10 (Int32.toNatClampNeg i_6) x_46 = f_47 at hP hD
          have hPD := vPD (ws' := [(h0, .inr (1, [.ref s_floods, .ref s_starts, .ref s_goals, .int k_walkers, .int r_1, .int 0])), (s_floods, .inl (cy 4, 4, .inr (.inr (.inr (.inr ((q4 s_e0 s_e1 s_e2 s_e3))))))), (s_starts, .inl (cy 1, 4, .inl f_45)), (s_goals, .inl (cy 1, 4, .inl f_47)), (s_e1, .inr (2, [.ref s_e1_fromLawn, .ref s_e1_fromDitch, .ref s_e1_ontoDitch])), (s_e1_fromLawn, .inl (cy 1, 20, .inl f_17)), (s_e1_fromDitch, .inl (cy 1, 20, .inl f_19)), (s_e1_ontoDitch, .inl (cy 1, 20, .inl f_21)), (s_e2, .inr (2, [.ref s_e2_fromLawn, .ref s_e2_fromDitch, .ref s_e2_ontoDitch])), (s_e2_fromLawn, .inl (cy 1, 20, .inl f_23)), (s_e2_fromDitch, .inl (cy 1, 20, .inl f_25)), (s_e2_ontoDitch, .inl (cy 1, 20, .inl f_27)), (s_e3, .inr (2, [.ref s_e3_fromLawn, .ref s_e3_fromDitch, .ref s_e3_ontoDitch])), (s_e3_fromLawn, .inl (cy 1, 20, .inl f_29)), (s_e3_fromDitch, .inl (cy 1, 20, .inl f_31)), (s_e3_ontoDitch, .inl (cy 1, 20, .inl f_33)), (h1, .inr (7, [.ref k_ground, .int k_errs, .int k_slips, .int k_rows, .int k_unsureCount, .ref k_unsure, .int k_walkers, .ref k_names, .ref k_kinds, .ref k_starts, .ref k_goals, .int k_walks, .ref k_walkStarts, .ref k_walkSteps, .ref k_walkFell])), (k_kinds, .inl (cy 1, 4, .inl k_kindsf)), (k_goals, .inl (cy 1, 4, .inl k_goalsf)), (h2, .inr (6, [.ref n_ground, .ref n_at, .ref n_fell, .ref n_went, .int n_walkers])), (n_at, .inl (cy 1, 4, .inl n_atf)), (s_e0, .inr (2, [.ref s_e0_fromLawn, .ref s_e0_fromDitch, .ref s_e0_ontoDitch])), (s_e0_fromLawn, .inl (cy 1, 20, .inl f_fromLawnf1_38)), (s_e0_fromDitch, .inl (cy 1, 20, .inl f_fromDitchf1_39)), (s_e0_ontoDitch, .inl (cy 1, 20, .inl f_ontoDitchf1_40)), (n_ground, .inr (4, [.int n_ground_wide, .int n_ground_deep, .int n_ground_count, .ref n_ground_sorts])), (n_ground_sorts, .inl (cy 1, 20, .inl n_ground_sortsf))]) hP hD rfl
          have hP := hPD.1
          have hD := hPD.2
          obtain ⟨x_48, ex_48⟩ : ∃ y : Int32, y = i_6 + 1 := ⟨_, rfl⟩
          have tx_48 : x_48.toInt = i_6.toInt + 1 := ti_add (A := i_6.toInt) (B := 1) ex_48 rfl rfl (by omega) (by omega)
          refine lv_iinc (v := x_48) (lv' := [(3, .int x_48), (0, .ref h0), (1, .ref h1), (2, .ref h2)]) hx hb dX1_begin_79 hl (k := 0) rfl (by rw [ex_48]; rfl) (by decide) rfl (fun ls hl => ?_)
          refine lv_goto (tgt := 27) hx hb dX1_begin_82 (by decide) ?_
          exact ihlp_5 x_48 f_45 f_47 f_fromLawnf1_38 f_fromDitchf1_39 f_ontoDitchf1_40 f_17 f_19 f_21 f_23 f_25 f_27 f_29 f_31 f_33 _ _ _ (by omega) bf_45 k_42_0 k_42_1 k_42_2 b_18 b_20 b_22 b_24 b_26 b_28 b_30 b_32 b_34 (show 5 - x_48.toInt ≤ (nlp_5 : Int) by omega) (hP.sub [0, 1, 2, 3, 21, 22, 23, 24, 4, 5, 6, 7, 8, 9, 10, 11, 12, 13, 14, 15, 16, 17, 18, 19, 20, 25, 26] rfl) (hD.sub [0, 1, 2, 3, 21, 22, 23, 24, 4, 5, 6, 7, 8, 9, 10, 11, 12, 13, 14, 15, 16, 17, 18, 19, 20, 25, 26] (by decide +kernel) rfl) hS (lv_sub hl [0, 1, 2, 3] rfl)
        · refine q_ald (D := (dC, dI)) (cl := vwCl) hx hb hK hP 1 4 rfl rfl (i := i_6) (vin (by omega) (by omega)) (d := s_e1) (by rw [h_36]; rfl) dX1_begin_40 ?_
          refine lv_aload_n hx hb dX1_begin_41 rfl (lv_at hl 3 rfl) ?_
          refine r_get X kcX6 (ci := 6) rfl hP 23 rfl 0 (by decide) fX1_32 rfl dX1_begin_42 ?_
          refine lv_aload_n hx hb dX1_begin_45 rfl (lv_at hl 2 rfl) ?_
          refine r_get X kcX7 (ci := 7) rfl hP 20 rfl 8 (by decide) fX1_50 rfl dX1_begin_46 ?_
          refine lv_iload_n hx hb dX1_begin_49 rfl (lv_at hl 0 rfl) ?_
          refine va_iald (D := (dC, dI)) (cl := vwCl) hx hb hK hP 21 1 rfl rfl (i := i_6) (vin (by omega) (by omega)) dX1_begin_50 ?_
          refine lv_topi (fun x_49 ex_49 => ?_)
          refine lv_iconst (v := 0) hx hb dX1_begin_51 (by decide) ?_
          refine sl_Vc (rV_V (As := [.ref n_ground, .int x_49, .int 0]) (rest := []) X hp_st (fun _ _ _ h => h) (sX2_learn l dC dI cy s_e1 s_e1_fromLawn s_e1_fromDitch s_e1_ontoDitch f_17 f_19 f_21 n_ground n_ground_wide n_ground_deep n_ground_count n_ground_sorts n_ground_sortsf x_49 0 b_18 b_20 b_22 hn_ground_wide hn_ground_deep hn_ground_count) kX2_learn vX2_learn mX1_53 hP hD hS hA [8, 9, 10, 11, 25, 26] (by decide) rfl 0 (ci := 2) rfl rfl rfl hl rfl rfl (Nat.le_of_ble_eq_true rfl) dX1_begin_52 ⟨(Nat.le_of_ble_eq_true rfl), (Nat.le_of_ble_eq_true rfl)⟩ ⟨(Nat.le_of_ble_eq_true rfl), (Nat.le_of_ble_eq_true rfl)⟩) hP hD hS hA [8, 9, 10, 11, 25, 26] [true, true, true, true, true, true, true, true, false, false, false, false, true, true, true, true, true, true, true, true, true, true, true, true, true, false, false] rfl rfl rfl (fun u_55 H locs k_54 hP hD hS => ?_)
          obtain ⟨f_fromLawnf1_50, f_fromDitchf1_51, f_ontoDitchf1_52⟩ := u_55
          have k_54 : (rb f_fromLawnf1_50 20 0 1048575) ∧ (rb f_fromDitchf1_51 20 0 1048575) ∧ (rb f_ontoDitchf1_52 20 0 1048575) := k_54
          obtain ⟨k_54_0, k_54_1, k_54_2⟩ := k_54
          have hPD := vPD (ws' := [(h0, .inr (1, [.ref s_floods, .ref s_starts, .ref s_goals, .int k_walkers, .int r_1, .int 0])), (s_floods, .inl (cy 4, 4, .inr (.inr (.inr (.inr ((q4 s_e0 s_e1 s_e2 s_e3))))))), (s_starts, .inl (cy 1, 4, .inl f_8)), (s_goals, .inl (cy 1, 4, .inl f_10)), (s_e0, .inr (2, [.ref s_e0_fromLawn, .ref s_e0_fromDitch, .ref s_e0_ontoDitch])), (s_e0_fromLawn, .inl (cy 1, 20, .inl f_11)), (s_e0_fromDitch, .inl (cy 1, 20, .inl f_13)), (s_e0_ontoDitch, .inl (cy 1, 20, .inl f_15)), (s_e2, .inr (2, [.ref s_e2_fromLawn, .ref s_e2_fromDitch, .ref s_e2_ontoDitch])), (s_e2_fromLawn, .inl (cy 1, 20, .inl f_23)), (s_e2_fromDitch, .inl (cy 1, 20, .inl f_25)), (s_e2_ontoDitch, .inl (cy 1, 20, .inl f_27)), (s_e3, .inr (2, [.ref s_e3_fromLawn, .ref s_e3_fromDitch, .ref s_e3_ontoDitch])), (s_e3_fromLawn, .inl (cy 1, 20, .inl f_29)), (s_e3_fromDitch, .inl (cy 1, 20, .inl f_31)), (s_e3_ontoDitch, .inl (cy 1, 20, .inl f_33)), (h1, .inr (7, [.ref k_ground, .int k_errs, .int k_slips, .int k_rows, .int k_unsureCount, .ref k_unsure, .int k_walkers, .ref k_names, .ref k_kinds, .ref k_starts, .ref k_goals, .int k_walks, .ref k_walkStarts, .ref k_walkSteps, .ref k_walkFell])), (k_kinds, .inl (cy 1, 4, .inl k_kindsf)), (k_goals, .inl (cy 1, 4, .inl k_goalsf)), (h2, .inr (6, [.ref n_ground, .ref n_at, .ref n_fell, .ref n_went, .int n_walkers])), (n_at, .inl (cy 1, 4, .inl n_atf)), (s_e1, .inr (2, [.ref s_e1_fromLawn, .ref s_e1_fromDitch, .ref s_e1_ontoDitch])), (s_e1_fromLawn, .inl (cy 1, 20, .inl f_fromLawnf1_50)), (s_e1_fromDitch, .inl (cy 1, 20, .inl f_fromDitchf1_51)), (s_e1_ontoDitch, .inl (cy 1, 20, .inl f_ontoDitchf1_52)), (n_ground, .inr (4, [.int n_ground_wide, .int n_ground_deep, .int n_ground_count, .ref n_ground_sorts])), (n_ground_sorts, .inl (cy 1, 20, .inl n_ground_sortsf))]) hP hD rfl
          have hP := hPD.1
          have hD := hPD.2
          refine lv_aload_n hx hb dX1_begin_55 rfl (lv_at hl 1 rfl) ?_
          refine r_get X kcX1 (ci := 1) rfl hP 0 rfl 1 (by decide) fX1_17 rfl dX1_begin_56 ?_
          refine lv_iload_n hx hb dX1_begin_59 rfl (lv_at hl 0 rfl) ?_
          refine lv_aload_n hx hb dX1_begin_60 rfl (lv_at hl 3 rfl) ?_
          refine r_get X kcX6 (ci := 6) rfl hP 19 rfl 1 (by decide) fX1_57 rfl dX1_begin_61 ?_
          refine lv_iload_n hx hb dX1_begin_64 rfl (lv_at hl 0 rfl) ?_
          refine va_iald (D := (dC, dI)) (cl := vwCl) hx hb hK hP 20 1 rfl rfl (i := i_6) (vin (by omega) (by omega)) dX1_begin_65 ?_
          refine lv_topi (fun x_56 ex_56 => ?_)
          have bx_56 : 0 ≤ x_56.toInt ∧ x_56.toInt ≤ 19 := rb_at hn_atf ex_56 (by omega) (by omega)
          refine va_iast (D := (dC, dI)) (cl := vwCl) hx hb hK hP hD hS 2 1 rfl rfl (i := i_6) (vin (by omega) (by omega)) dX1_begin_66 (fun H locs hP hD hS => ?_)
          generalize ef_57 : upd f_8 (Int32.toNatClampNeg i_6) x_56 = f_57 at hP hD
          have bf_57 : rb f_57 4 0 19 := by rw [← ef_57]; exact rb_upd b_9 (by omega) (by omega)
          have hPD := vPD (ws' := [(h0, .inr (1, [.ref s_floods, .ref s_starts, .ref s_goals, .int k_walkers, .int r_1, .int 0])), (s_floods, .inl (cy 4, 4, .inr (.inr (.inr (.inr ((q4 s_e0 s_e1 s_e2 s_e3))))))), (s_starts, .inl (cy 1, 4, .inl f_57)), (s_goals, .inl (cy 1, 4, .inl f_10)), (s_e0, .inr (2, [.ref s_e0_fromLawn, .ref s_e0_fromDitch, .ref s_e0_ontoDitch])), (s_e0_fromLawn, .inl (cy 1, 20, .inl f_11)), (s_e0_fromDitch, .inl (cy 1, 20, .inl f_13)), (s_e0_ontoDitch, .inl (cy 1, 20, .inl f_15)), (s_e2, .inr (2, [.ref s_e2_fromLawn, .ref s_e2_fromDitch, .ref s_e2_ontoDitch])), (s_e2_fromLawn, .inl (cy 1, 20, .inl f_23)), (s_e2_fromDitch, .inl (cy 1, 20, .inl f_25)), (s_e2_ontoDitch, .inl (cy 1, 20, .inl f_27)), (s_e3, .inr (2, [.ref s_e3_fromLawn, .ref s_e3_fromDitch, .ref s_e3_ontoDitch])), (s_e3_fromLawn, .inl (cy 1, 20, .inl f_29)), (s_e3_fromDitch, .inl (cy 1, 20, .inl f_31)), (s_e3_ontoDitch, .inl (cy 1, 20, .inl f_33)), (h1, .inr (7, [.ref k_ground, .int k_errs, .int k_slips, .int k_rows, .int k_unsureCount, .ref k_unsure, .int k_walkers, .ref k_names, .ref k_kinds, .ref k_starts, .ref k_goals, .int k_walks, .ref k_walkStarts, .ref k_walkSteps, .ref k_walkFell])), (k_kinds, .inl (cy 1, 4, .inl k_kindsf)), (k_goals, .inl (cy 1, 4, .inl k_goalsf)), (h2, .inr (6, [.ref n_ground, .ref n_at, .ref n_fell, .ref n_went, .int n_walkers])), (n_at, .inl (cy 1, 4, .inl n_atf)), (s_e1, .inr (2, [.ref s_e1_fromLawn, .ref s_e1_fromDitch, .ref s_e1_ontoDitch])), (s_e1_fromLawn, .inl (cy 1, 20, .inl f_fromLawnf1_50)), (s_e1_fromDitch, .inl (cy 1, 20, .inl f_fromDitchf1_51)), (s_e1_ontoDitch, .inl (cy 1, 20, .inl f_ontoDitchf1_52)), (n_ground, .inr (4, [.int n_ground_wide, .int n_ground_deep, .int n_ground_count, .ref n_ground_sorts])), (n_ground_sorts, .inl (cy 1, 20, .inl n_ground_sortsf))]) hP hD rfl
          have hP := hPD.1
          have hD := hPD.2
          refine lv_aload_n hx hb dX1_begin_67 rfl (lv_at hl 1 rfl) ?_
          refine r_get X kcX1 (ci := 1) rfl hP 0 rfl 2 (by decide) fX1_21 rfl dX1_begin_68 ?_
          refine lv_iload_n hx hb dX1_begin_71 rfl (lv_at hl 0 rfl) ?_
          refine lv_aload_n hx hb dX1_begin_72 rfl (lv_at hl 2 rfl) ?_
          refine r_get X kcX7 (ci := 7) rfl hP 16 rfl 10 (by decide) fX1_60 rfl dX1_begin_73 ?_
          refine lv_iload_n hx hb dX1_begin_76 rfl (lv_at hl 0 rfl) ?_
          refine va_iald (D := (dC, dI)) (cl := vwCl) hx hb hK hP 18 1 rfl rfl (i := i_6) (vin (by omega) (by omega)) dX1_begin_77 ?_
          refine lv_topi (fun x_58 ex_58 => ?_)
          refine va_iast (D := (dC, dI)) (cl := vwCl) hx hb hK hP hD hS 3 1 rfl rfl (i := i_6) (vin (by omega) (by omega)) dX1_begin_78 (fun H locs hP hD hS => ?_)
          generalize ef_59 : upd f_10 (Int32.toNatClampNeg i_6) x_58 = f_59 at hP hD
          have hPD := vPD (ws' := [(h0, .inr (1, [.ref s_floods, .ref s_starts, .ref s_goals, .int k_walkers, .int r_1, .int 0])), (s_floods, .inl (cy 4, 4, .inr (.inr (.inr (.inr ((q4 s_e0 s_e1 s_e2 s_e3))))))), (s_starts, .inl (cy 1, 4, .inl f_57)), (s_goals, .inl (cy 1, 4, .inl f_59)), (s_e0, .inr (2, [.ref s_e0_fromLawn, .ref s_e0_fromDitch, .ref s_e0_ontoDitch])), (s_e0_fromLawn, .inl (cy 1, 20, .inl f_11)), (s_e0_fromDitch, .inl (cy 1, 20, .inl f_13)), (s_e0_ontoDitch, .inl (cy 1, 20, .inl f_15)), (s_e2, .inr (2, [.ref s_e2_fromLawn, .ref s_e2_fromDitch, .ref s_e2_ontoDitch])), (s_e2_fromLawn, .inl (cy 1, 20, .inl f_23)), (s_e2_fromDitch, .inl (cy 1, 20, .inl f_25)), (s_e2_ontoDitch, .inl (cy 1, 20, .inl f_27)), (s_e3, .inr (2, [.ref s_e3_fromLawn, .ref s_e3_fromDitch, .ref s_e3_ontoDitch])), (s_e3_fromLawn, .inl (cy 1, 20, .inl f_29)), (s_e3_fromDitch, .inl (cy 1, 20, .inl f_31)), (s_e3_ontoDitch, .inl (cy 1, 20, .inl f_33)), (h1, .inr (7, [.ref k_ground, .int k_errs, .int k_slips, .int k_rows, .int k_unsureCount, .ref k_unsure, .int k_walkers, .ref k_names, .ref k_kinds, .ref k_starts, .ref k_goals, .int k_walks, .ref k_walkStarts, .ref k_walkSteps, .ref k_walkFell])), (k_kinds, .inl (cy 1, 4, .inl k_kindsf)), (k_goals, .inl (cy 1, 4, .inl k_goalsf)), (h2, .inr (6, [.ref n_ground, .ref n_at, .ref n_fell, .ref n_went, .int n_walkers])), (n_at, .inl (cy 1, 4, .inl n_atf)), (s_e1, .inr (2, [.ref s_e1_fromLawn, .ref s_e1_fromDitch, .ref s_e1_ontoDitch])), (s_e1_fromLawn, .inl (cy 1, 20, .inl f_fromLawnf1_50)), (s_e1_fromDitch, .inl (cy 1, 20, .inl f_fromDitchf1_51)), (s_e1_ontoDitch, .inl (cy 1, 20, .inl f_ontoDitchf1_52)), (n_ground, .inr (4, [.int n_ground_wide, .int n_ground_deep, .int n_ground_count, .ref n_ground_sorts])), (n_ground_sorts, .inl (cy 1, 20, .inl n_ground_sortsf))]) hP hD rfl
          have hP := hPD.1
          have hD := hPD.2
          obtain ⟨x_60, ex_60⟩ : ∃ y : Int32, y = i_6 + 1 := ⟨_, rfl⟩
          have tx_60 : x_60.toInt = i_6.toInt + 1 := ti_add (A := i_6.toInt) (B := 1) ex_60 rfl rfl (by omega) (by omega)
          refine lv_iinc (v := x_60) (lv' := [(3, .int x_60), (0, .ref h0), (1, .ref h1), (2, .ref h2)]) hx hb dX1_begin_79 hl (k := 0) rfl (by rw [ex_60]; rfl) (by decide) rfl (fun ls hl => ?_)
          refine lv_goto (tgt := 27) hx hb dX1_begin_82 (by decide) ?_
          exact ihlp_5 x_60 f_57 f_59 f_11 f_13 f_15 f_fromLawnf1_50 f_fromDitchf1_51 f_ontoDitchf1_52 f_23 f_25 f_27 f_29 f_31 f_33 _ _ _ (by omega) bf_57 b_12 b_14 b_16 k_54_0 k_54_1 k_54_2 b_24 b_26 b_28 b_30 b_32 b_34 (show 5 - x_60.toInt ≤ (nlp_5 : Int) by omega) (hP.sub [0, 1, 2, 3, 4, 5, 6, 7, 21, 22, 23, 24, 8, 9, 10, 11, 12, 13, 14, 15, 16, 17, 18, 19, 20, 25, 26] rfl) (hD.sub [0, 1, 2, 3, 4, 5, 6, 7, 21, 22, 23, 24, 8, 9, 10, 11, 12, 13, 14, 15, 16, 17, 18, 19, 20, 25, 26] (by decide +kernel) rfl) hS (lv_sub hl [0, 1, 2, 3] rfl)
        · refine q_ald (D := (dC, dI)) (cl := vwCl) hx hb hK hP 1 4 rfl rfl (i := i_6) (vin (by omega) (by omega)) (d := s_e2) (by rw [h_36]; rfl) dX1_begin_40 ?_
          refine lv_aload_n hx hb dX1_begin_41 rfl (lv_at hl 3 rfl) ?_
          refine r_get X kcX6 (ci := 6) rfl hP 23 rfl 0 (by decide) fX1_32 rfl dX1_begin_42 ?_
          refine lv_aload_n hx hb dX1_begin_45 rfl (lv_at hl 2 rfl) ?_
          refine r_get X kcX7 (ci := 7) rfl hP 20 rfl 8 (by decide) fX1_50 rfl dX1_begin_46 ?_
          refine lv_iload_n hx hb dX1_begin_49 rfl (lv_at hl 0 rfl) ?_
          refine va_iald (D := (dC, dI)) (cl := vwCl) hx hb hK hP 21 1 rfl rfl (i := i_6) (vin (by omega) (by omega)) dX1_begin_50 ?_
          refine lv_topi (fun x_61 ex_61 => ?_)
          refine lv_iconst (v := 0) hx hb dX1_begin_51 (by decide) ?_
          refine sl_Vc (rV_V (As := [.ref n_ground, .int x_61, .int 0]) (rest := []) X hp_st (fun _ _ _ h => h) (sX2_learn l dC dI cy s_e2 s_e2_fromLawn s_e2_fromDitch s_e2_ontoDitch f_23 f_25 f_27 n_ground n_ground_wide n_ground_deep n_ground_count n_ground_sorts n_ground_sortsf x_61 0 b_24 b_26 b_28 hn_ground_wide hn_ground_deep hn_ground_count) kX2_learn vX2_learn mX1_53 hP hD hS hA [12, 13, 14, 15, 25, 26] (by decide) rfl 0 (ci := 2) rfl rfl rfl hl rfl rfl (Nat.le_of_ble_eq_true rfl) dX1_begin_52 ⟨(Nat.le_of_ble_eq_true rfl), (Nat.le_of_ble_eq_true rfl)⟩ ⟨(Nat.le_of_ble_eq_true rfl), (Nat.le_of_ble_eq_true rfl)⟩) hP hD hS hA [12, 13, 14, 15, 25, 26] [true, true, true, true, true, true, true, true, true, true, true, true, false, false, false, false, true, true, true, true, true, true, true, true, true, false, false] rfl rfl rfl (fun u_67 H locs k_66 hP hD hS => ?_)
          obtain ⟨f_fromLawnf1_62, f_fromDitchf1_63, f_ontoDitchf1_64⟩ := u_67
          have k_66 : (rb f_fromLawnf1_62 20 0 1048575) ∧ (rb f_fromDitchf1_63 20 0 1048575) ∧ (rb f_ontoDitchf1_64 20 0 1048575) := k_66
          obtain ⟨k_66_0, k_66_1, k_66_2⟩ := k_66
          have hPD := vPD (ws' := [(h0, .inr (1, [.ref s_floods, .ref s_starts, .ref s_goals, .int k_walkers, .int r_1, .int 0])), (s_floods, .inl (cy 4, 4, .inr (.inr (.inr (.inr ((q4 s_e0 s_e1 s_e2 s_e3))))))), (s_starts, .inl (cy 1, 4, .inl f_8)), (s_goals, .inl (cy 1, 4, .inl f_10)), (s_e0, .inr (2, [.ref s_e0_fromLawn, .ref s_e0_fromDitch, .ref s_e0_ontoDitch])), (s_e0_fromLawn, .inl (cy 1, 20, .inl f_11)), (s_e0_fromDitch, .inl (cy 1, 20, .inl f_13)), (s_e0_ontoDitch, .inl (cy 1, 20, .inl f_15)), (s_e1, .inr (2, [.ref s_e1_fromLawn, .ref s_e1_fromDitch, .ref s_e1_ontoDitch])), (s_e1_fromLawn, .inl (cy 1, 20, .inl f_17)), (s_e1_fromDitch, .inl (cy 1, 20, .inl f_19)), (s_e1_ontoDitch, .inl (cy 1, 20, .inl f_21)), (s_e3, .inr (2, [.ref s_e3_fromLawn, .ref s_e3_fromDitch, .ref s_e3_ontoDitch])), (s_e3_fromLawn, .inl (cy 1, 20, .inl f_29)), (s_e3_fromDitch, .inl (cy 1, 20, .inl f_31)), (s_e3_ontoDitch, .inl (cy 1, 20, .inl f_33)), (h1, .inr (7, [.ref k_ground, .int k_errs, .int k_slips, .int k_rows, .int k_unsureCount, .ref k_unsure, .int k_walkers, .ref k_names, .ref k_kinds, .ref k_starts, .ref k_goals, .int k_walks, .ref k_walkStarts, .ref k_walkSteps, .ref k_walkFell])), (k_kinds, .inl (cy 1, 4, .inl k_kindsf)), (k_goals, .inl (cy 1, 4, .inl k_goalsf)), (h2, .inr (6, [.ref n_ground, .ref n_at, .ref n_fell, .ref n_went, .int n_walkers])), (n_at, .inl (cy 1, 4, .inl n_atf)), (s_e2, .inr (2, [.ref s_e2_fromLawn, .ref s_e2_fromDitch, .ref s_e2_ontoDitch])), (s_e2_fromLawn, .inl (cy 1, 20, .inl f_fromLawnf1_62)), (s_e2_fromDitch, .inl (cy 1, 20, .inl f_fromDitchf1_63)), (s_e2_ontoDitch, .inl (cy 1, 20, .inl f_ontoDitchf1_64)), (n_ground, .inr (4, [.int n_ground_wide, .int n_ground_deep, .int n_ground_count, .ref n_ground_sorts])), (n_ground_sorts, .inl (cy 1, 20, .inl n_ground_sortsf))]) hP hD rfl
          have hP := hPD.1
          have hD := hPD.2
          refine lv_aload_n hx hb dX1_begin_55 rfl (lv_at hl 1 rfl) ?_
          refine r_get X kcX1 (ci := 1) rfl hP 0 rfl 1 (by decide) fX1_17 rfl dX1_begin_56 ?_
          refine lv_iload_n hx hb dX1_begin_59 rfl (lv_at hl 0 rfl) ?_
          refine lv_aload_n hx hb dX1_begin_60 rfl (lv_at hl 3 rfl) ?_
          refine r_get X kcX6 (ci := 6) rfl hP 19 rfl 1 (by decide) fX1_57 rfl dX1_begin_61 ?_
          refine lv_iload_n hx hb dX1_begin_64 rfl (lv_at hl 0 rfl) ?_
          refine va_iald (D := (dC, dI)) (cl := vwCl) hx hb hK hP 20 1 rfl rfl (i := i_6) (vin (by omega) (by omega)) dX1_begin_65 ?_
          refine lv_topi (fun x_68 ex_68 => ?_)
          have bx_68 : 0 ≤ x_68.toInt ∧ x_68.toInt ≤ 19 := rb_at hn_atf ex_68 (by omega) (by omega)
          refine va_iast (D := (dC, dI)) (cl := vwCl) hx hb hK hP hD hS 2 1 rfl rfl (i := i_6) (vin (by omega) (by omega)) dX1_begin_66 (fun H locs hP hD hS => ?_)
          generalize ef_69 : upd f_8 (Int32.toNatClampNeg i_6) x_68 = f_69 at hP hD
          have bf_69 : rb f_69 4 0 19 := by rw [← ef_69]; exact rb_upd b_9 (by omega) (by omega)
          have hPD := vPD (ws' := [(h0, .inr (1, [.ref s_floods, .ref s_starts, .ref s_goals, .int k_walkers, .int r_1, .int 0])), (s_floods, .inl (cy 4, 4, .inr (.inr (.inr (.inr ((q4 s_e0 s_e1 s_e2 s_e3))))))), (s_starts, .inl (cy 1, 4, .inl f_69)), (s_goals, .inl (cy 1, 4, .inl f_10)), (s_e0, .inr (2, [.ref s_e0_fromLawn, .ref s_e0_fromDitch, .ref s_e0_ontoDitch])), (s_e0_fromLawn, .inl (cy 1, 20, .inl f_11)), (s_e0_fromDitch, .inl (cy 1, 20, .inl f_13)), (s_e0_ontoDitch, .inl (cy 1, 20, .inl f_15)), (s_e1, .inr (2, [.ref s_e1_fromLawn, .ref s_e1_fromDitch, .ref s_e1_ontoDitch])), (s_e1_fromLawn, .inl (cy 1, 20, .inl f_17)), (s_e1_fromDitch, .inl (cy 1, 20, .inl f_19)), (s_e1_ontoDitch, .inl (cy 1, 20, .inl f_21)), (s_e3, .inr (2, [.ref s_e3_fromLawn, .ref s_e3_fromDitch, .ref s_e3_ontoDitch])), (s_e3_fromLawn, .inl (cy 1, 20, .inl f_29)), (s_e3_fromDitch, .inl (cy 1, 20, .inl f_31)), (s_e3_ontoDitch, .inl (cy 1, 20, .inl f_33)), (h1, .inr (7, [.ref k_ground, .int k_errs, .int k_slips, .int k_rows, .int k_unsureCount, .ref k_unsure, .int k_walkers, .ref k_names, .ref k_kinds, .ref k_starts, .ref k_goals, .int k_walks, .ref k_walkStarts, .ref k_walkSteps, .ref k_walkFell])), (k_kinds, .inl (cy 1, 4, .inl k_kindsf)), (k_goals, .inl (cy 1, 4, .inl k_goalsf)), (h2, .inr (6, [.ref n_ground, .ref n_at, .ref n_fell, .ref n_went, .int n_walkers])), (n_at, .inl (cy 1, 4, .inl n_atf)), (s_e2, .inr (2, [.ref s_e2_fromLawn, .ref s_e2_fromDitch, .ref s_e2_ontoDitch])), (s_e2_fromLawn, .inl (cy 1, 20, .inl f_fromLawnf1_62)), (s_e2_fromDitch, .inl (cy 1, 20, .inl f_fromDitchf1_63)), (s_e2_ontoDitch, .inl (cy 1, 20, .inl f_ontoDitchf1_64)), (n_ground, .inr (4, [.int n_ground_wide, .int n_ground_deep, .int n_ground_count, .ref n_ground_sorts])), (n_ground_sorts, .inl (cy 1, 20, .inl n_ground_sortsf))]) hP hD rfl
          have hP := hPD.1
          have hD := hPD.2
          refine lv_aload_n hx hb dX1_begin_67 rfl (lv_at hl 1 rfl) ?_
          refine r_get X kcX1 (ci := 1) rfl hP 0 rfl 2 (by decide) fX1_21 rfl dX1_begin_68 ?_
          refine lv_iload_n hx hb dX1_begin_71 rfl (lv_at hl 0 rfl) ?_
          refine lv_aload_n hx hb dX1_begin_72 rfl (lv_at hl 2 rfl) ?_
          refine r_get X kcX7 (ci := 7) rfl hP 16 rfl 10 (by decide) fX1_60 rfl dX1_begin_73 ?_
          refine lv_iload_n hx hb dX1_begin_76 rfl (lv_at hl 0 rfl) ?_
          refine va_iald (D := (dC, dI)) (cl := vwCl) hx hb hK hP 18 1 rfl rfl (i := i_6) (vin (by omega) (by omega)) dX1_begin_77 ?_
          refine lv_topi (fun x_70 ex_70 => ?_)
          refine va_iast (D := (dC, dI)) (cl := vwCl) hx hb hK hP hD hS 3 1 rfl rfl (i := i_6) (vin (by omega) (by omega)) dX1_begin_78 (fun H locs hP hD hS => ?_)
          generalize ef_71 : upd f_10 (Int32.toNatClampNeg i_6) x_70 = f_71 at hP hD
          have hPD := vPD (ws' := [(h0, .inr (1, [.ref s_floods, .ref s_starts, .ref s_goals, .int k_walkers, .int r_1, .int 0])), (s_floods, .inl (cy 4, 4, .inr (.inr (.inr (.inr ((q4 s_e0 s_e1 s_e2 s_e3))))))), (s_starts, .inl (cy 1, 4, .inl f_69)), (s_goals, .inl (cy 1, 4, .inl f_71)), (s_e0, .inr (2, [.ref s_e0_fromLawn, .ref s_e0_fromDitch, .ref s_e0_ontoDitch])), (s_e0_fromLawn, .inl (cy 1, 20, .inl f_11)), (s_e0_fromDitch, .inl (cy 1, 20, .inl f_13)), (s_e0_ontoDitch, .inl (cy 1, 20, .inl f_15)), (s_e1, .inr (2, [.ref s_e1_fromLawn, .ref s_e1_fromDitch, .ref s_e1_ontoDitch])), (s_e1_fromLawn, .inl (cy 1, 20, .inl f_17)), (s_e1_fromDitch, .inl (cy 1, 20, .inl f_19)), (s_e1_ontoDitch, .inl (cy 1, 20, .inl f_21)), (s_e3, .inr (2, [.ref s_e3_fromLawn, .ref s_e3_fromDitch, .ref s_e3_ontoDitch])), (s_e3_fromLawn, .inl (cy 1, 20, .inl f_29)), (s_e3_fromDitch, .inl (cy 1, 20, .inl f_31)), (s_e3_ontoDitch, .inl (cy 1, 20, .inl f_33)), (h1, .inr (7, [.ref k_ground, .int k_errs, .int k_slips, .int k_rows, .int k_unsureCount, .ref k_unsure, .int k_walkers, .ref k_names, .ref k_kinds, .ref k_starts, .ref k_goals, .int k_walks, .ref k_walkStarts, .ref k_walkSteps, .ref k_walkFell])), (k_kinds, .inl (cy 1, 4, .inl k_kindsf)), (k_goals, .inl (cy 1, 4, .inl k_goalsf)), (h2, .inr (6, [.ref n_ground, .ref n_at, .ref n_fell, .ref n_went, .int n_walkers])), (n_at, .inl (cy 1, 4, .inl n_atf)), (s_e2, .inr (2, [.ref s_e2_fromLawn, .ref s_e2_fromDitch, .ref s_e2_ontoDitch])), (s_e2_fromLawn, .inl (cy 1, 20, .inl f_fromLawnf1_62)), (s_e2_fromDitch, .inl (cy 1, 20, .inl f_fromDitchf1_63)), (s_e2_ontoDitch, .inl (cy 1, 20, .inl f_ontoDitchf1_64)), (n_ground, .inr (4, [.int n_ground_wide, .int n_ground_deep, .int n_ground_count, .ref n_ground_sorts])), (n_ground_sorts, .inl (cy 1, 20, .inl n_ground_sortsf))]) hP hD rfl
          have hP := hPD.1
          have hD := hPD.2
          obtain ⟨x_72, ex_72⟩ : ∃ y : Int32, y = i_6 + 1 := ⟨_, rfl⟩
          have tx_72 : x_72.toInt = i_6.toInt + 1 := ti_add (A := i_6.toInt) (B := 1) ex_72 rfl rfl (by omega) (by omega)
          refine lv_iinc (v := x_72) (lv' := [(3, .int x_72), (0, .ref h0), (1, .ref h1), (2, .ref h2)]) hx hb dX1_begin_79 hl (k := 0) rfl (by rw [ex_72]; rfl) (by decide) rfl (fun ls hl => ?_)
          refine lv_goto (tgt := 27) hx hb dX1_begin_82 (by decide) ?_
          exact ihlp_5 x_72 f_69 f_71 f_11 f_13 f_15 f_17 f_19 f_21 f_fromLawnf1_62 f_fromDitchf1_63 f_ontoDitchf1_64 f_29 f_31 f_33 _ _ _ (by omega) bf_69 b_12 b_14 b_16 b_18 b_20 b_22 k_66_0 k_66_1 k_66_2 b_30 b_32 b_34 (show 5 - x_72.toInt ≤ (nlp_5 : Int) by omega) (hP.sub [0, 1, 2, 3, 4, 5, 6, 7, 8, 9, 10, 11, 21, 22, 23, 24, 12, 13, 14, 15, 16, 17, 18, 19, 20, 25, 26] rfl) (hD.sub [0, 1, 2, 3, 4, 5, 6, 7, 8, 9, 10, 11, 21, 22, 23, 24, 12, 13, 14, 15, 16, 17, 18, 19, 20, 25, 26] (by decide +kernel) rfl) hS (lv_sub hl [0, 1, 2, 3] rfl)
        · refine q_ald (D := (dC, dI)) (cl := vwCl) hx hb hK hP 1 4 rfl rfl (i := i_6) (vin (by omega) (by omega)) (d := s_e3) (by rw [h_36]; rfl) dX1_begin_40 ?_
          refine lv_aload_n hx hb dX1_begin_41 rfl (lv_at hl 3 rfl) ?_
          refine r_get X kcX6 (ci := 6) rfl hP 23 rfl 0 (by decide) fX1_32 rfl dX1_begin_42 ?_
          refine lv_aload_n hx hb dX1_begin_45 rfl (lv_at hl 2 rfl) ?_
          refine r_get X kcX7 (ci := 7) rfl hP 20 rfl 8 (by decide) fX1_50 rfl dX1_begin_46 ?_
          refine lv_iload_n hx hb dX1_begin_49 rfl (lv_at hl 0 rfl) ?_
          refine va_iald (D := (dC, dI)) (cl := vwCl) hx hb hK hP 21 1 rfl rfl (i := i_6) (vin (by omega) (by omega)) dX1_begin_50 ?_
          refine lv_topi (fun x_73 ex_73 => ?_)
          refine lv_iconst (v := 0) hx hb dX1_begin_51 (by decide) ?_
          refine sl_Vc (rV_V (As := [.ref n_ground, .int x_73, .int 0]) (rest := []) X hp_st (fun _ _ _ h => h) (sX2_learn l dC dI cy s_e3 s_e3_fromLawn s_e3_fromDitch s_e3_ontoDitch f_29 f_31 f_33 n_ground n_ground_wide n_ground_deep n_ground_count n_ground_sorts n_ground_sortsf x_73 0 b_30 b_32 b_34 hn_ground_wide hn_ground_deep hn_ground_count) kX2_learn vX2_learn mX1_53 hP hD hS hA [16, 17, 18, 19, 25, 26] (by decide) rfl 0 (ci := 2) rfl rfl rfl hl rfl rfl (Nat.le_of_ble_eq_true rfl) dX1_begin_52 ⟨(Nat.le_of_ble_eq_true rfl), (Nat.le_of_ble_eq_true rfl)⟩ ⟨(Nat.le_of_ble_eq_true rfl), (Nat.le_of_ble_eq_true rfl)⟩) hP hD hS hA [16, 17, 18, 19, 25, 26] [true, true, true, true, true, true, true, true, true, true, true, true, true, true, true, true, false, false, false, false, true, true, true, true, true, false, false] rfl rfl rfl (fun u_79 H locs k_78 hP hD hS => ?_)
          obtain ⟨f_fromLawnf1_74, f_fromDitchf1_75, f_ontoDitchf1_76⟩ := u_79
          have k_78 : (rb f_fromLawnf1_74 20 0 1048575) ∧ (rb f_fromDitchf1_75 20 0 1048575) ∧ (rb f_ontoDitchf1_76 20 0 1048575) := k_78
          obtain ⟨k_78_0, k_78_1, k_78_2⟩ := k_78
          have hPD := vPD (ws' := [(h0, .inr (1, [.ref s_floods, .ref s_starts, .ref s_goals, .int k_walkers, .int r_1, .int 0])), (s_floods, .inl (cy 4, 4, .inr (.inr (.inr (.inr ((q4 s_e0 s_e1 s_e2 s_e3))))))), (s_starts, .inl (cy 1, 4, .inl f_8)), (s_goals, .inl (cy 1, 4, .inl f_10)), (s_e0, .inr (2, [.ref s_e0_fromLawn, .ref s_e0_fromDitch, .ref s_e0_ontoDitch])), (s_e0_fromLawn, .inl (cy 1, 20, .inl f_11)), (s_e0_fromDitch, .inl (cy 1, 20, .inl f_13)), (s_e0_ontoDitch, .inl (cy 1, 20, .inl f_15)), (s_e1, .inr (2, [.ref s_e1_fromLawn, .ref s_e1_fromDitch, .ref s_e1_ontoDitch])), (s_e1_fromLawn, .inl (cy 1, 20, .inl f_17)), (s_e1_fromDitch, .inl (cy 1, 20, .inl f_19)), (s_e1_ontoDitch, .inl (cy 1, 20, .inl f_21)), (s_e2, .inr (2, [.ref s_e2_fromLawn, .ref s_e2_fromDitch, .ref s_e2_ontoDitch])), (s_e2_fromLawn, .inl (cy 1, 20, .inl f_23)), (s_e2_fromDitch, .inl (cy 1, 20, .inl f_25)), (s_e2_ontoDitch, .inl (cy 1, 20, .inl f_27)), (h1, .inr (7, [.ref k_ground, .int k_errs, .int k_slips, .int k_rows, .int k_unsureCount, .ref k_unsure, .int k_walkers, .ref k_names, .ref k_kinds, .ref k_starts, .ref k_goals, .int k_walks, .ref k_walkStarts, .ref k_walkSteps, .ref k_walkFell])), (k_kinds, .inl (cy 1, 4, .inl k_kindsf)), (k_goals, .inl (cy 1, 4, .inl k_goalsf)), (h2, .inr (6, [.ref n_ground, .ref n_at, .ref n_fell, .ref n_went, .int n_walkers])), (n_at, .inl (cy 1, 4, .inl n_atf)), (s_e3, .inr (2, [.ref s_e3_fromLawn, .ref s_e3_fromDitch, .ref s_e3_ontoDitch])), (s_e3_fromLawn, .inl (cy 1, 20, .inl f_fromLawnf1_74)), (s_e3_fromDitch, .inl (cy 1, 20, .inl f_fromDitchf1_75)), (s_e3_ontoDitch, .inl (cy 1, 20, .inl f_ontoDitchf1_76)), (n_ground, .inr (4, [.int n_ground_wide, .int n_ground_deep, .int n_ground_count, .ref n_ground_sorts])), (n_ground_sorts, .inl (cy 1, 20, .inl n_ground_sortsf))]) hP hD rfl
          have hP := hPD.1
          have hD := hPD.2
          refine lv_aload_n hx hb dX1_begin_55 rfl (lv_at hl 1 rfl) ?_
          refine r_get X kcX1 (ci := 1) rfl hP 0 rfl 1 (by decide) fX1_17 rfl dX1_begin_56 ?_
          refine lv_iload_n hx hb dX1_begin_59 rfl (lv_at hl 0 rfl) ?_
          refine lv_aload_n hx hb dX1_begin_60 rfl (lv_at hl 3 rfl) ?_
          refine r_get X kcX6 (ci := 6) rfl hP 19 rfl 1 (by decide) fX1_57 rfl dX1_begin_61 ?_
          refine lv_iload_n hx hb dX1_begin_64 rfl (lv_at hl 0 rfl) ?_
          refine va_iald (D := (dC, dI)) (cl := vwCl) hx hb hK hP 20 1 rfl rfl (i := i_6) (vin (by omega) (by omega)) dX1_begin_65 ?_
          refine lv_topi (fun x_80 ex_80 => ?_)
          have bx_80 : 0 ≤ x_80.toInt ∧ x_80.toInt ≤ 19 := rb_at hn_atf ex_80 (by omega) (by omega)
          refine va_iast (D := (dC, dI)) (cl := vwCl) hx hb hK hP hD hS 2 1 rfl rfl (i := i_6) (vin (by omega) (by omega)) dX1_begin_66 (fun H locs hP hD hS => ?_)
          generalize ef_81 : upd f_8 (Int32.toNatClampNeg i_6) x_80 = f_81 at hP hD
          have bf_81 : rb f_81 4 0 19 := by rw [← ef_81]; exact rb_upd b_9 (by omega) (by omega)
          have hPD := vPD (ws' := [(h0, .inr (1, [.ref s_floods, .ref s_starts, .ref s_goals, .int k_walkers, .int r_1, .int 0])), (s_floods, .inl (cy 4, 4, .inr (.inr (.inr (.inr ((q4 s_e0 s_e1 s_e2 s_e3))))))), (s_starts, .inl (cy 1, 4, .inl f_81)), (s_goals, .inl (cy 1, 4, .inl f_10)), (s_e0, .inr (2, [.ref s_e0_fromLawn, .ref s_e0_fromDitch, .ref s_e0_ontoDitch])), (s_e0_fromLawn, .inl (cy 1, 20, .inl f_11)), (s_e0_fromDitch, .inl (cy 1, 20, .inl f_13)), (s_e0_ontoDitch, .inl (cy 1, 20, .inl f_15)), (s_e1, .inr (2, [.ref s_e1_fromLawn, .ref s_e1_fromDitch, .ref s_e1_ontoDitch])), (s_e1_fromLawn, .inl (cy 1, 20, .inl f_17)), (s_e1_fromDitch, .inl (cy 1, 20, .inl f_19)), (s_e1_ontoDitch, .inl (cy 1, 20, .inl f_21)), (s_e2, .inr (2, [.ref s_e2_fromLawn, .ref s_e2_fromDitch, .ref s_e2_ontoDitch])), (s_e2_fromLawn, .inl (cy 1, 20, .inl f_23)), (s_e2_fromDitch, .inl (cy 1, 20, .inl f_25)), (s_e2_ontoDitch, .inl (cy 1, 20, .inl f_27)), (h1, .inr (7, [.ref k_ground, .int k_errs, .int k_slips, .int k_rows, .int k_unsureCount, .ref k_unsure, .int k_walkers, .ref k_names, .ref k_kinds, .ref k_starts, .ref k_goals, .int k_walks, .ref k_walkStarts, .ref k_walkSteps, .ref k_walkFell])), (k_kinds, .inl (cy 1, 4, .inl k_kindsf)), (k_goals, .inl (cy 1, 4, .inl k_goalsf)), (h2, .inr (6, [.ref n_ground, .ref n_at, .ref n_fell, .ref n_went, .int n_walkers])), (n_at, .inl (cy 1, 4, .inl n_atf)), (s_e3, .inr (2, [.ref s_e3_fromLawn, .ref s_e3_fromDitch, .ref s_e3_ontoDitch])), (s_e3_fromLawn, .inl (cy 1, 20, .inl f_fromLawnf1_74)), (s_e3_fromDitch, .inl (cy 1, 20, .inl f_fromDitchf1_75)), (s_e3_ontoDitch, .inl (cy 1, 20, .inl f_ontoDitchf1_76)), (n_ground, .inr (4, [.int n_ground_wide, .int n_ground_deep, .int n_ground_count, .ref n_ground_sorts])), (n_ground_sorts, .inl (cy 1, 20, .inl n_ground_sortsf))]) hP hD rfl
          have hP := hPD.1
          have hD := hPD.2
          refine lv_aload_n hx hb dX1_begin_67 rfl (lv_at hl 1 rfl) ?_
          refine r_get X kcX1 (ci := 1) rfl hP 0 rfl 2 (by decide) fX1_21 rfl dX1_begin_68 ?_
          refine lv_iload_n hx hb dX1_begin_71 rfl (lv_at hl 0 rfl) ?_
          refine lv_aload_n hx hb dX1_begin_72 rfl (lv_at hl 2 rfl) ?_
          refine r_get X kcX7 (ci := 7) rfl hP 16 rfl 10 (by decide) fX1_60 rfl dX1_begin_73 ?_
          refine lv_iload_n hx hb dX1_begin_76 rfl (lv_at hl 0 rfl) ?_
          refine va_iald (D := (dC, dI)) (cl := vwCl) hx hb hK hP 18 1 rfl rfl (i := i_6) (vin (by omega) (by omega)) dX1_begin_77 ?_
          refine lv_topi (fun x_82 ex_82 => ?_)
          refine va_iast (D := (dC, dI)) (cl := vwCl) hx hb hK hP hD hS 3 1 rfl rfl (i := i_6) (vin (by omega) (by omega)) dX1_begin_78 (fun H locs hP hD hS => ?_)
          generalize ef_83 : upd f_10 (Int32.toNatClampNeg i_6) x_82 = f_83 at hP hD
          have hPD := vPD (ws' := [(h0, .inr (1, [.ref s_floods, .ref s_starts, .ref s_goals, .int k_walkers, .int r_1, .int 0])), (s_floods, .inl (cy 4, 4, .inr (.inr (.inr (.inr ((q4 s_e0 s_e1 s_e2 s_e3))))))), (s_starts, .inl (cy 1, 4, .inl f_81)), (s_goals, .inl (cy 1, 4, .inl f_83)), (s_e0, .inr (2, [.ref s_e0_fromLawn, .ref s_e0_fromDitch, .ref s_e0_ontoDitch])), (s_e0_fromLawn, .inl (cy 1, 20, .inl f_11)), (s_e0_fromDitch, .inl (cy 1, 20, .inl f_13)), (s_e0_ontoDitch, .inl (cy 1, 20, .inl f_15)), (s_e1, .inr (2, [.ref s_e1_fromLawn, .ref s_e1_fromDitch, .ref s_e1_ontoDitch])), (s_e1_fromLawn, .inl (cy 1, 20, .inl f_17)), (s_e1_fromDitch, .inl (cy 1, 20, .inl f_19)), (s_e1_ontoDitch, .inl (cy 1, 20, .inl f_21)), (s_e2, .inr (2, [.ref s_e2_fromLawn, .ref s_e2_fromDitch, .ref s_e2_ontoDitch])), (s_e2_fromLawn, .inl (cy 1, 20, .inl f_23)), (s_e2_fromDitch, .inl (cy 1, 20, .inl f_25)), (s_e2_ontoDitch, .inl (cy 1, 20, .inl f_27)), (h1, .inr (7, [.ref k_ground, .int k_errs, .int k_slips, .int k_rows, .int k_unsureCount, .ref k_unsure, .int k_walkers, .ref k_names, .ref k_kinds, .ref k_starts, .ref k_goals, .int k_walks, .ref k_walkStarts, .ref k_walkSteps, .ref k_walkFell])), (k_kinds, .inl (cy 1, 4, .inl k_kindsf)), (k_goals, .inl (cy 1, 4, .inl k_goalsf)), (h2, .inr (6, [.ref n_ground, .ref n_at, .ref n_fell, .ref n_went, .int n_walkers])), (n_at, .inl (cy 1, 4, .inl n_atf)), (s_e3, .inr (2, [.ref s_e3_fromLawn, .ref s_e3_fromDitch, .ref s_e3_ontoDitch])), (s_e3_fromLawn, .inl (cy 1, 20, .inl f_fromLawnf1_74)), (s_e3_fromDitch, .inl (cy 1, 20, .inl f_fromDitchf1_75)), (s_e3_ontoDitch, .inl (cy 1, 20, .inl f_ontoDitchf1_76)), (n_ground, .inr (4, [.int n_ground_wide, .int n_ground_deep, .int n_ground_count, .ref n_ground_sorts])), (n_ground_sorts, .inl (cy 1, 20, .inl n_ground_sortsf))]) hP hD rfl
          have hP := hPD.1
          have hD := hPD.2
          obtain ⟨x_84, ex_84⟩ : ∃ y : Int32, y = i_6 + 1 := ⟨_, rfl⟩
          have tx_84 : x_84.toInt = i_6.toInt + 1 := ti_add (A := i_6.toInt) (B := 1) ex_84 rfl rfl (by omega) (by omega)
          refine lv_iinc (v := x_84) (lv' := [(3, .int x_84), (0, .ref h0), (1, .ref h1), (2, .ref h2)]) hx hb dX1_begin_79 hl (k := 0) rfl (by rw [ex_84]; rfl) (by decide) rfl (fun ls hl => ?_)
          refine lv_goto (tgt := 27) hx hb dX1_begin_82 (by decide) ?_
          exact ihlp_5 x_84 f_81 f_83 f_11 f_13 f_15 f_17 f_19 f_21 f_23 f_25 f_27 f_fromLawnf1_74 f_fromDitchf1_75 f_ontoDitchf1_76 _ _ _ (by omega) bf_81 b_12 b_14 b_16 b_18 b_20 b_22 b_24 b_26 b_28 k_78_0 k_78_1 k_78_2 (show 5 - x_84.toInt ≤ (nlp_5 : Int) by omega) (hP.sub [0, 1, 2, 3, 4, 5, 6, 7, 8, 9, 10, 11, 12, 13, 14, 15, 21, 22, 23, 24, 16, 17, 18, 19, 20, 25, 26] rfl) (hD.sub [0, 1, 2, 3, 4, 5, 6, 7, 8, 9, 10, 11, 12, 13, 14, 15, 21, 22, 23, 24, 16, 17, 18, 19, 20, 25, 26] (by decide +kernel) rfl) hS (lv_sub hl [0, 1, 2, 3] rfl)
  exact lp_5 5 0 s_startsf s_goalsf s_e0_fromLawnf s_e0_fromDitchf s_e0_ontoDitchf s_e1_fromLawnf s_e1_fromDitchf s_e1_ontoDitchf s_e2_fromLawnf s_e2_fromDitchf s_e2_ontoDitchf s_e3_fromLawnf s_e3_fromDitchf s_e3_ontoDitchf _ _ _ (by decide) hs_startsf hs_e0_fromLawnf hs_e0_fromDitchf hs_e0_ontoDitchf hs_e1_fromLawnf hs_e1_fromDitchf hs_e1_ontoDitchf hs_e2_fromLawnf hs_e2_fromDitchf hs_e2_ontoDitchf hs_e3_fromLawnf hs_e3_fromDitchf hs_e3_ontoDitchf (show 5 - 0 ≤ ((5 : Nat) : Int) by omega) hP hD hS hl
set_option maxHeartbeats 4000000 in
set_option maxRecDepth 100000 in
theorem sX1_walkersBy (l : Launch) (dC : Nat → ClassId) (dI : Nat → Nat → Nat) (cy : Nat → ClassId) (h0 : Nat) (s_floods : Nat) (s_starts : Nat) (s_goals : Nat) (s_walkers : Int32) (s_ditches : Int32) (s_lost : Int32) (s_e0 : Nat) (s_e1 : Nat) (s_e2 : Nat) (s_e3 : Nat) (s_startsf : Nat → Int32) (s_goalsf : Nat → Int32) (s_e0_fromLawn : Nat) (s_e0_fromDitch : Nat) (s_e0_ontoDitch : Nat) (s_e0_fromLawnf : Nat → Int32) (s_e0_fromDitchf : Nat → Int32) (s_e0_ontoDitchf : Nat → Int32) (s_e1_fromLawn : Nat) (s_e1_fromDitch : Nat) (s_e1_ontoDitch : Nat) (s_e1_fromLawnf : Nat → Int32) (s_e1_fromDitchf : Nat → Int32) (s_e1_ontoDitchf : Nat → Int32) (s_e2_fromLawn : Nat) (s_e2_fromDitch : Nat) (s_e2_ontoDitch : Nat) (s_e2_fromLawnf : Nat → Int32) (s_e2_fromDitchf : Nat → Int32) (s_e2_ontoDitchf : Nat → Int32) (s_e3_fromLawn : Nat) (s_e3_fromDitch : Nat) (s_e3_ontoDitch : Nat) (s_e3_fromLawnf : Nat → Int32) (s_e3_fromDitchf : Nat → Int32) (s_e3_ontoDitchf : Nat → Int32) (p1 : Int32) (hs_walkers : 0 ≤ s_walkers.toInt ∧ s_walkers.toInt ≤ 4) (hs_lost : 0 ≤ s_lost.toInt ∧ s_lost.toInt ≤ 3) (hs_startsf : rb s_startsf 4 0 19) (hs_e0_fromLawnf : rb s_e0_fromLawnf 20 0 1048575) (hs_e0_fromDitchf : rb s_e0_fromDitchf 20 0 1048575) (hs_e0_ontoDitchf : rb s_e0_ontoDitchf 20 0 1048575) (hs_e1_fromLawnf : rb s_e1_fromLawnf 20 0 1048575) (hs_e1_fromDitchf : rb s_e1_fromDitchf 20 0 1048575) (hs_e1_ontoDitchf : rb s_e1_ontoDitchf 20 0 1048575) (hs_e2_fromLawnf : rb s_e2_fromLawnf 20 0 1048575) (hs_e2_fromDitchf : rb s_e2_fromDitchf 20 0 1048575) (hs_e2_ontoDitchf : rb s_e2_ontoDitchf 20 0 1048575) (hs_e3_fromLawnf : rb s_e3_fromLawnf 20 0 1048575) (hs_e3_fromDitchf : rb s_e3_fromDitchf 20 0 1048575) (hs_e3_ontoDitchf : rb s_e3_ontoDitchf 20 0 1048575) : ctI l dC dI cy hp yX1_walkersBy cX1_walkersBy 4 .int ({ frames := 3, cells := 0, slots := 0, locals := 74 } : Room) [.ref h0, .int p1] [(h0, .inr (1, [.ref s_floods, .ref s_starts, .ref s_goals, .int s_walkers, .int s_ditches, .int s_lost])), (s_floods, .inl (cy 4, 4, .inr (.inr (.inr (.inr ((q4 s_e0 s_e1 s_e2 s_e3))))))), (s_starts, .inl (cy 1, 4, .inl s_startsf)), (s_goals, .inl (cy 1, 4, .inl s_goalsf)), (s_e0, .inr (2, [.ref s_e0_fromLawn, .ref s_e0_fromDitch, .ref s_e0_ontoDitch])), (s_e0_fromLawn, .inl (cy 1, 20, .inl s_e0_fromLawnf)), (s_e0_fromDitch, .inl (cy 1, 20, .inl s_e0_fromDitchf)), (s_e0_ontoDitch, .inl (cy 1, 20, .inl s_e0_ontoDitchf)), (s_e1, .inr (2, [.ref s_e1_fromLawn, .ref s_e1_fromDitch, .ref s_e1_ontoDitch])), (s_e1_fromLawn, .inl (cy 1, 20, .inl s_e1_fromLawnf)), (s_e1_fromDitch, .inl (cy 1, 20, .inl s_e1_fromDitchf)), (s_e1_ontoDitch, .inl (cy 1, 20, .inl s_e1_ontoDitchf)), (s_e2, .inr (2, [.ref s_e2_fromLawn, .ref s_e2_fromDitch, .ref s_e2_ontoDitch])), (s_e2_fromLawn, .inl (cy 1, 20, .inl s_e2_fromLawnf)), (s_e2_fromDitch, .inl (cy 1, 20, .inl s_e2_fromDitchf)), (s_e2_ontoDitch, .inl (cy 1, 20, .inl s_e2_ontoDitchf)), (s_e3, .inr (2, [.ref s_e3_fromLawn, .ref s_e3_fromDitch, .ref s_e3_ontoDitch])), (s_e3_fromLawn, .inl (cy 1, 20, .inl s_e3_fromLawnf)), (s_e3_fromDitch, .inl (cy 1, 20, .inl s_e3_fromDitchf)), (s_e3_ontoDitch, .inl (cy 1, 20, .inl s_e3_ontoDitchf))] (S := Unit) (fun r _ => True) (fun _ => [(h0, .inr (1, [.ref s_floods, .ref s_starts, .ref s_goals, .int s_walkers, .int s_ditches, .int s_lost])), (s_floods, .inl (cy 4, 4, .inr (.inr (.inr (.inr ((q4 s_e0 s_e1 s_e2 s_e3))))))), (s_starts, .inl (cy 1, 4, .inl s_startsf)), (s_goals, .inl (cy 1, 4, .inl s_goalsf)), (s_e0, .inr (2, [.ref s_e0_fromLawn, .ref s_e0_fromDitch, .ref s_e0_ontoDitch])), (s_e0_fromLawn, .inl (cy 1, 20, .inl s_e0_fromLawnf)), (s_e0_fromDitch, .inl (cy 1, 20, .inl s_e0_fromDitchf)), (s_e0_ontoDitch, .inl (cy 1, 20, .inl s_e0_ontoDitchf)), (s_e1, .inr (2, [.ref s_e1_fromLawn, .ref s_e1_fromDitch, .ref s_e1_ontoDitch])), (s_e1_fromLawn, .inl (cy 1, 20, .inl s_e1_fromLawnf)), (s_e1_fromDitch, .inl (cy 1, 20, .inl s_e1_fromDitchf)), (s_e1_ontoDitch, .inl (cy 1, 20, .inl s_e1_ontoDitchf)), (s_e2, .inr (2, [.ref s_e2_fromLawn, .ref s_e2_fromDitch, .ref s_e2_ontoDitch])), (s_e2_fromLawn, .inl (cy 1, 20, .inl s_e2_fromLawnf)), (s_e2_fromDitch, .inl (cy 1, 20, .inl s_e2_fromDitchf)), (s_e2_ontoDitch, .inl (cy 1, 20, .inl s_e2_ontoDitchf)), (s_e3, .inr (2, [.ref s_e3_fromLawn, .ref s_e3_fromDitch, .ref s_e3_ontoDitch])), (s_e3_fromLawn, .inl (cy 1, 20, .inl s_e3_fromLawnf)), (s_e3_fromDitch, .inl (cy 1, 20, .inl s_e3_fromDitchf)), (s_e3_ontoDitch, .inl (cy 1, 20, .inl s_e3_ontoDitchf))]) := by
  refine ctI.of (by decide +kernel) (Nat.le_of_ble_eq_true rfl) ?_
  intro p e s m args below meth c A ls Q hQ X hr hlocks hin hA hP hD hS hl
  have hx := X.1
  have hb := X.2.1
  have hK := X.2.2.2.2.2.1
  have hl : lv_has ls 4 [(0, .ref h0), (1, .int p1)] := hl
  have dy_1 := ti_bd p1
  refine lv_iconst (v := 0) hx hb dX1_walkersBy_0 (by decide) ?_
  refine lv_istore_n (lv' := [(2, .int 0), (0, .ref h0), (1, .int p1)]) hx hb dX1_walkersBy_1 rfl hl (by decide) rfl (fun ls hl => ?_)
  refine lv_iconst (v := 0) hx hb dX1_walkersBy_2 (by decide) ?_
  refine lv_istore_n (lv' := [(3, .int 0), (2, .int 0), (0, .ref h0), (1, .int p1)]) hx hb dX1_walkersBy_3 rfl hl (by decide) rfl (fun ls hl => ?_)
  have lp_2 : ∀ (nlp_2 : Nat) (i_3 : Int32) (i_5 : Int32) (H : Heap) (locs : List Loc) (ls : Array Slot), (0 ≤ i_3.toInt ∧ i_3.toInt ≤ 4) → (5 - i_3.toInt ≤ (nlp_2 : Int)) → va_P (dC, dI) vwCl [(h0, .inr (1, [.ref s_floods, .ref s_starts, .ref s_goals, .int s_walkers, .int s_ditches, .int s_lost])), (s_floods, .inl (cy 4, 4, .inr (.inr (.inr (.inr ((q4 s_e0 s_e1 s_e2 s_e3))))))), (s_starts, .inl (cy 1, 4, .inl s_startsf)), (s_goals, .inl (cy 1, 4, .inl s_goalsf)), (s_e0, .inr (2, [.ref s_e0_fromLawn, .ref s_e0_fromDitch, .ref s_e0_ontoDitch])), (s_e0_fromLawn, .inl (cy 1, 20, .inl s_e0_fromLawnf)), (s_e0_fromDitch, .inl (cy 1, 20, .inl s_e0_fromDitchf)), (s_e0_ontoDitch, .inl (cy 1, 20, .inl s_e0_ontoDitchf)), (s_e1, .inr (2, [.ref s_e1_fromLawn, .ref s_e1_fromDitch, .ref s_e1_ontoDitch])), (s_e1_fromLawn, .inl (cy 1, 20, .inl s_e1_fromLawnf)), (s_e1_fromDitch, .inl (cy 1, 20, .inl s_e1_fromDitchf)), (s_e1_ontoDitch, .inl (cy 1, 20, .inl s_e1_ontoDitchf)), (s_e2, .inr (2, [.ref s_e2_fromLawn, .ref s_e2_fromDitch, .ref s_e2_ontoDitch])), (s_e2_fromLawn, .inl (cy 1, 20, .inl s_e2_fromLawnf)), (s_e2_fromDitch, .inl (cy 1, 20, .inl s_e2_fromDitchf)), (s_e2_ontoDitch, .inl (cy 1, 20, .inl s_e2_ontoDitchf)), (s_e3, .inr (2, [.ref s_e3_fromLawn, .ref s_e3_fromDitch, .ref s_e3_ontoDitch])), (s_e3_fromLawn, .inl (cy 1, 20, .inl s_e3_fromLawnf)), (s_e3_fromDitch, .inl (cy 1, 20, .inl s_e3_fromDitchf)), (s_e3_ontoDitch, .inl (cy 1, 20, .inl s_e3_ontoDitchf))] H → va_D A [(h0, .inr (1, [.ref s_floods, .ref s_starts, .ref s_goals, .int s_walkers, .int s_ditches, .int s_lost])), (s_floods, .inl (cy 4, 4, .inr (.inr (.inr (.inr ((q4 s_e0 s_e1 s_e2 s_e3))))))), (s_starts, .inl (cy 1, 4, .inl s_startsf)), (s_goals, .inl (cy 1, 4, .inl s_goalsf)), (s_e0, .inr (2, [.ref s_e0_fromLawn, .ref s_e0_fromDitch, .ref s_e0_ontoDitch])), (s_e0_fromLawn, .inl (cy 1, 20, .inl s_e0_fromLawnf)), (s_e0_fromDitch, .inl (cy 1, 20, .inl s_e0_fromDitchf)), (s_e0_ontoDitch, .inl (cy 1, 20, .inl s_e0_ontoDitchf)), (s_e1, .inr (2, [.ref s_e1_fromLawn, .ref s_e1_fromDitch, .ref s_e1_ontoDitch])), (s_e1_fromLawn, .inl (cy 1, 20, .inl s_e1_fromLawnf)), (s_e1_fromDitch, .inl (cy 1, 20, .inl s_e1_fromDitchf)), (s_e1_ontoDitch, .inl (cy 1, 20, .inl s_e1_ontoDitchf)), (s_e2, .inr (2, [.ref s_e2_fromLawn, .ref s_e2_fromDitch, .ref s_e2_ontoDitch])), (s_e2_fromLawn, .inl (cy 1, 20, .inl s_e2_fromLawnf)), (s_e2_fromDitch, .inl (cy 1, 20, .inl s_e2_fromDitchf)), (s_e2_ontoDitch, .inl (cy 1, 20, .inl s_e2_ontoDitchf)), (s_e3, .inr (2, [.ref s_e3_fromLawn, .ref s_e3_fromDitch, .ref s_e3_ontoDitch])), (s_e3_fromLawn, .inl (cy 1, 20, .inl s_e3_fromLawnf)), (s_e3_fromDitch, .inl (cy 1, 20, .inl s_e3_fromDitchf)), (s_e3_ontoDitch, .inl (cy 1, 20, .inl s_e3_ontoDitchf))] → va_S A s.heap H locs → lv_has ls 4 [(3, .int i_3), (2, .int i_5), (0, .ref h0), (1, .int p1)] → W p l e ({ frames := 3, cells := 0, slots := 0, locals := 74 } : Room) s m args below meth c H locs 0 0 Q (F0 m 4 ls []) := by
    intro nlp_2
    induction nlp_2 with
    | zero =>
      intro i_3 i_5 H locs ls b_4 hmlp_2 hP hD hS hl
      exfalso
      have di_3 := ti_bd i_3
      have di_5 := ti_bd i_5
      omega
    | succ nlp_2 ihlp_2 =>
      intro i_3 i_5 H locs ls b_4 hmlp_2 hP hD hS hl
      refine lv_iload_n hx hb dX1_walkersBy_4 rfl (lv_at hl 0 rfl) ?_
      refine lv_aload_n hx hb dX1_walkersBy_5 rfl (lv_at hl 2 rfl) ?_
      refine r_get X kcX1 (ci := 1) rfl hP 0 rfl 3 (by decide) fX1_31 rfl dX1_walkersBy_6 ?_
      refine lv_icmp_ge (tgt := 55) hx hb dX1_walkersBy_9 (by decide) (fun h_6 => ?_) (fun h_6 => ?_)
      · have h_6 : s_walkers.toInt ≤ i_3.toInt := c_le h_6
        refine lv_iload_n hx hb dX1_walkersBy_55 rfl (lv_at hl 1 rfl) ?_
        exact eI hQ X hr hlocks hP hD hS () [0, 1, 2, 3, 4, 5, 6, 7, 8, 9, 10, 11, 12, 13, 14, 15, 16, 17, 18, 19] (by decide +kernel) rfl rfl trivial (Nat.le_of_ble_eq_true rfl) (Nat.le_of_ble_eq_true rfl) dX1_walkersBy_56
      · have h_6 : i_3.toInt < s_walkers.toInt := c_nle h_6
        refine lv_aload_n hx hb dX1_walkersBy_12 rfl (lv_at hl 2 rfl) ?_
        refine r_get X kcX1 (ci := 1) rfl hP 0 rfl 0 (by decide) fX1_11 rfl dX1_walkersBy_13 ?_
        refine lv_iload_n hx hb dX1_walkersBy_16 rfl (lv_at hl 0 rfl) ?_
        rcases i4 (x := i_3) (by omega) (by omega) with h_7 | h_7 | h_7 | h_7
        · refine q_ald (D := (dC, dI)) (cl := vwCl) hx hb hK hP 1 4 rfl rfl (i := i_3) (vin (by omega) (by omega)) (d := s_e0) (by rw [h_7]; rfl) dX1_walkersBy_17 ?_
          refine lv_aload_n hx hb dX1_walkersBy_18 rfl (lv_at hl 2 rfl) ?_
          refine r_get X kcX1 (ci := 1) rfl hP 0 rfl 1 (by decide) fX1_17 rfl dX1_walkersBy_19 ?_
          refine lv_iload_n hx hb dX1_walkersBy_22 rfl (lv_at hl 0 rfl) ?_
          refine va_iald (D := (dC, dI)) (cl := vwCl) hx hb hK hP 2 1 rfl rfl (i := i_3) (vin (by omega) (by omega)) dX1_walkersBy_23 ?_
          refine lv_topi (fun x_8 ex_8 => ?_)
          have bx_8 : 0 ≤ x_8.toInt ∧ x_8.toInt ≤ 19 := rb_at hs_startsf ex_8 (by omega) (by omega)
          refine lv_aload_n hx hb dX1_walkersBy_24 rfl (lv_at hl 2 rfl) ?_
          refine r_get X kcX1 (ci := 1) rfl hP 0 rfl 2 (by decide) fX1_21 rfl dX1_walkersBy_25 ?_
          refine lv_iload_n hx hb dX1_walkersBy_28 rfl (lv_at hl 0 rfl) ?_
          refine va_iald (D := (dC, dI)) (cl := vwCl) hx hb hK hP 3 1 rfl rfl (i := i_3) (vin (by omega) (by omega)) dX1_walkersBy_29 ?_
          refine lv_topi (fun x_9 ex_9 => ?_)
          refine lv_aload_n hx hb dX1_walkersBy_30 rfl (lv_at hl 2 rfl) ?_
          refine r_get X kcX1 (ci := 1) rfl hP 0 rfl 4 (by decide) fX1_44 rfl dX1_walkersBy_31 ?_
          refine lv_iload_n hx hb dX1_walkersBy_34 rfl (lv_at hl 3 rfl) ?_
          refine lv_ior hx hb dX1_walkersBy_35 ?_
          have dy_10 := ti_bd s_ditches
          refine lv_topi (fun x_11 ex_11 => ?_)
          refine lv_iconst (v := 0) hx hb dX1_walkersBy_36 (by decide) ?_
          refine sl_Ic (rV_I (As := [.int x_8, .int x_9, .int x_11, .int 0]) (rest := []) X hp_st (fun _ _ _ h => h) (sX2_comesTo l dC dI cy s_e0 s_e0_fromLawn s_e0_fromDitch s_e0_ontoDitch s_e0_fromLawnf s_e0_fromDitchf s_e0_ontoDitchf x_8 x_9 x_11 0 hs_e0_fromLawnf hs_e0_fromDitchf hs_e0_ontoDitchf (by first | decide | omega)) kX2_comesTo vX2_comesTo mX1_61 hP hD hS hA [4, 5, 6, 7] (by decide) rfl 0 (ci := 2) rfl rfl rfl hl rfl rfl (Nat.le_of_ble_eq_true rfl) dX1_walkersBy_37 ⟨(Nat.le_of_ble_eq_true rfl), (Nat.le_of_ble_eq_true rfl)⟩ ⟨(Nat.le_of_ble_eq_true rfl), (Nat.le_of_ble_eq_true rfl)⟩) hP hD hS hA [4, 5, 6, 7] [true, true, true, true, false, false, false, false, true, true, true, true, true, true, true, true, true, true, true, true] rfl rfl rfl (fun r_12 u_14 H locs k_13 hP hD hS => ?_)
          have k_13 : (0 ≤ r_12.toInt ∧ r_12.toInt ≤ 1) := k_13
          have hPD := vPD (ws' := [(h0, .inr (1, [.ref s_floods, .ref s_starts, .ref s_goals, .int s_walkers, .int s_ditches, .int s_lost])), (s_floods, .inl (cy 4, 4, .inr (.inr (.inr (.inr ((q4 s_e0 s_e1 s_e2 s_e3))))))), (s_starts, .inl (cy 1, 4, .inl s_startsf)), (s_goals, .inl (cy 1, 4, .inl s_goalsf)), (s_e1, .inr (2, [.ref s_e1_fromLawn, .ref s_e1_fromDitch, .ref s_e1_ontoDitch])), (s_e1_fromLawn, .inl (cy 1, 20, .inl s_e1_fromLawnf)), (s_e1_fromDitch, .inl (cy 1, 20, .inl s_e1_fromDitchf)), (s_e1_ontoDitch, .inl (cy 1, 20, .inl s_e1_ontoDitchf)), (s_e2, .inr (2, [.ref s_e2_fromLawn, .ref s_e2_fromDitch, .ref s_e2_ontoDitch])), (s_e2_fromLawn, .inl (cy 1, 20, .inl s_e2_fromLawnf)), (s_e2_fromDitch, .inl (cy 1, 20, .inl s_e2_fromDitchf)), (s_e2_ontoDitch, .inl (cy 1, 20, .inl s_e2_ontoDitchf)), (s_e3, .inr (2, [.ref s_e3_fromLawn, .ref s_e3_fromDitch, .ref s_e3_ontoDitch])), (s_e3_fromLawn, .inl (cy 1, 20, .inl s_e3_fromLawnf)), (s_e3_fromDitch, .inl (cy 1, 20, .inl s_e3_fromDitchf)), (s_e3_ontoDitch, .inl (cy 1, 20, .inl s_e3_ontoDitchf)), (s_e0, .inr (2, [.ref s_e0_fromLawn, .ref s_e0_fromDitch, .ref s_e0_ontoDitch])), (s_e0_fromLawn, .inl (cy 1, 20, .inl s_e0_fromLawnf)), (s_e0_fromDitch, .inl (cy 1, 20, .inl s_e0_fromDitchf)), (s_e0_ontoDitch, .inl (cy 1, 20, .inl s_e0_ontoDitchf))]) hP hD rfl
          have hP := hPD.1
          have hD := hPD.2
          refine lv_if_eq (tgt := 49) hx hb dX1_walkersBy_40 (by decide) (fun h_15 => ?_) (fun h_15 => ?_)
          · have h_15 : r_12.toInt = 0 := c_eq h_15
            obtain ⟨x_16, ex_16⟩ : ∃ y : Int32, y = i_3 + 1 := ⟨_, rfl⟩
            have tx_16 : x_16.toInt = i_3.toInt + 1 := ti_add (A := i_3.toInt) (B := 1) ex_16 rfl rfl (by omega) (by omega)
            refine lv_iinc (v := x_16) (lv' := [(3, .int x_16), (2, .int i_5), (0, .ref h0), (1, .int p1)]) hx hb dX1_walkersBy_49 hl (k := 0) rfl (by rw [ex_16]; rfl) (by decide) rfl (fun ls hl => ?_)
            refine lv_goto (tgt := 4) hx hb dX1_walkersBy_52 (by decide) ?_
            exact ihlp_2 x_16 i_5 _ _ _ (by omega) (show 5 - x_16.toInt ≤ (nlp_2 : Int) by omega) (hP.sub [0, 1, 2, 3, 16, 17, 18, 19, 4, 5, 6, 7, 8, 9, 10, 11, 12, 13, 14, 15] rfl) (hD.sub [0, 1, 2, 3, 16, 17, 18, 19, 4, 5, 6, 7, 8, 9, 10, 11, 12, 13, 14, 15] (by decide +kernel) rfl) hS (lv_sub hl [0, 1, 2, 3] rfl)
          · have h_15 : r_12.toInt ≠ 0 := c_ne h_15
            refine lv_iload_n hx hb dX1_walkersBy_43 rfl (lv_at hl 1 rfl) ?_
            refine lv_iconst (v := 1) hx hb dX1_walkersBy_44 (by decide) ?_
            refine lv_iload_n hx hb dX1_walkersBy_45 rfl (lv_at hl 0 rfl) ?_
            refine lv_ishl hx hb dX1_walkersBy_46 ?_
            refine lv_topi (fun x_17 ex_17 => ?_)
            have tx_17 : 1 ≤ x_17.toInt ∧ x_17.toInt ≤ 32 := ti_shl5 ex_17 (by omega) (by omega)
            refine lv_ior hx hb dX1_walkersBy_47 ?_
            have dy_18 := ti_bd i_5
            refine lv_topi (fun x_19 ex_19 => ?_)
            refine lv_istore_n (lv' := [(2, .int x_19), (3, .int i_3), (0, .ref h0), (1, .int p1)]) hx hb dX1_walkersBy_48 rfl hl (by decide) rfl (fun ls hl => ?_)
            obtain ⟨x_20, ex_20⟩ : ∃ y : Int32, y = i_3 + 1 := ⟨_, rfl⟩
            have tx_20 : x_20.toInt = i_3.toInt + 1 := ti_add (A := i_3.toInt) (B := 1) ex_20 rfl rfl (by omega) (by omega)
            refine lv_iinc (v := x_20) (lv' := [(3, .int x_20), (2, .int x_19), (0, .ref h0), (1, .int p1)]) hx hb dX1_walkersBy_49 hl (k := 1) rfl (by rw [ex_20]; rfl) (by decide) rfl (fun ls hl => ?_)
            refine lv_goto (tgt := 4) hx hb dX1_walkersBy_52 (by decide) ?_
            exact ihlp_2 x_20 x_19 _ _ _ (by omega) (show 5 - x_20.toInt ≤ (nlp_2 : Int) by omega) (hP.sub [0, 1, 2, 3, 16, 17, 18, 19, 4, 5, 6, 7, 8, 9, 10, 11, 12, 13, 14, 15] rfl) (hD.sub [0, 1, 2, 3, 16, 17, 18, 19, 4, 5, 6, 7, 8, 9, 10, 11, 12, 13, 14, 15] (by decide +kernel) rfl) hS (lv_sub hl [0, 1, 2, 3] rfl)
        · refine q_ald (D := (dC, dI)) (cl := vwCl) hx hb hK hP 1 4 rfl rfl (i := i_3) (vin (by omega) (by omega)) (d := s_e1) (by rw [h_7]; rfl) dX1_walkersBy_17 ?_
          refine lv_aload_n hx hb dX1_walkersBy_18 rfl (lv_at hl 2 rfl) ?_
          refine r_get X kcX1 (ci := 1) rfl hP 0 rfl 1 (by decide) fX1_17 rfl dX1_walkersBy_19 ?_
          refine lv_iload_n hx hb dX1_walkersBy_22 rfl (lv_at hl 0 rfl) ?_
          refine va_iald (D := (dC, dI)) (cl := vwCl) hx hb hK hP 2 1 rfl rfl (i := i_3) (vin (by omega) (by omega)) dX1_walkersBy_23 ?_
          refine lv_topi (fun x_21 ex_21 => ?_)
          have bx_21 : 0 ≤ x_21.toInt ∧ x_21.toInt ≤ 19 := rb_at hs_startsf ex_21 (by omega) (by omega)
          refine lv_aload_n hx hb dX1_walkersBy_24 rfl (lv_at hl 2 rfl) ?_
          refine r_get X kcX1 (ci := 1) rfl hP 0 rfl 2 (by decide) fX1_21 rfl dX1_walkersBy_25 ?_
          refine lv_iload_n hx hb dX1_walkersBy_28 rfl (lv_at hl 0 rfl) ?_
          refine va_iald (D := (dC, dI)) (cl := vwCl) hx hb hK hP 3 1 rfl rfl (i := i_3) (vin (by omega) (by omega)) dX1_walkersBy_29 ?_
          refine lv_topi (fun x_22 ex_22 => ?_)
          refine lv_aload_n hx hb dX1_walkersBy_30 rfl (lv_at hl 2 rfl) ?_
          refine r_get X kcX1 (ci := 1) rfl hP 0 rfl 4 (by decide) fX1_44 rfl dX1_walkersBy_31 ?_
          refine lv_iload_n hx hb dX1_walkersBy_34 rfl (lv_at hl 3 rfl) ?_
          refine lv_ior hx hb dX1_walkersBy_35 ?_
          have dy_23 := ti_bd s_ditches
          refine lv_topi (fun x_24 ex_24 => ?_)
          refine lv_iconst (v := 0) hx hb dX1_walkersBy_36 (by decide) ?_
          refine sl_Ic (rV_I (As := [.int x_21, .int x_22, .int x_24, .int 0]) (rest := []) X hp_st (fun _ _ _ h => h) (sX2_comesTo l dC dI cy s_e1 s_e1_fromLawn s_e1_fromDitch s_e1_ontoDitch s_e1_fromLawnf s_e1_fromDitchf s_e1_ontoDitchf x_21 x_22 x_24 0 hs_e1_fromLawnf hs_e1_fromDitchf hs_e1_ontoDitchf (by first | decide | omega)) kX2_comesTo vX2_comesTo mX1_61 hP hD hS hA [8, 9, 10, 11] (by decide) rfl 0 (ci := 2) rfl rfl rfl hl rfl rfl (Nat.le_of_ble_eq_true rfl) dX1_walkersBy_37 ⟨(Nat.le_of_ble_eq_true rfl), (Nat.le_of_ble_eq_true rfl)⟩ ⟨(Nat.le_of_ble_eq_true rfl), (Nat.le_of_ble_eq_true rfl)⟩) hP hD hS hA [8, 9, 10, 11] [true, true, true, true, true, true, true, true, false, false, false, false, true, true, true, true, true, true, true, true] rfl rfl rfl (fun r_25 u_27 H locs k_26 hP hD hS => ?_)
          have k_26 : (0 ≤ r_25.toInt ∧ r_25.toInt ≤ 1) := k_26
          have hPD := vPD (ws' := [(h0, .inr (1, [.ref s_floods, .ref s_starts, .ref s_goals, .int s_walkers, .int s_ditches, .int s_lost])), (s_floods, .inl (cy 4, 4, .inr (.inr (.inr (.inr ((q4 s_e0 s_e1 s_e2 s_e3))))))), (s_starts, .inl (cy 1, 4, .inl s_startsf)), (s_goals, .inl (cy 1, 4, .inl s_goalsf)), (s_e0, .inr (2, [.ref s_e0_fromLawn, .ref s_e0_fromDitch, .ref s_e0_ontoDitch])), (s_e0_fromLawn, .inl (cy 1, 20, .inl s_e0_fromLawnf)), (s_e0_fromDitch, .inl (cy 1, 20, .inl s_e0_fromDitchf)), (s_e0_ontoDitch, .inl (cy 1, 20, .inl s_e0_ontoDitchf)), (s_e2, .inr (2, [.ref s_e2_fromLawn, .ref s_e2_fromDitch, .ref s_e2_ontoDitch])), (s_e2_fromLawn, .inl (cy 1, 20, .inl s_e2_fromLawnf)), (s_e2_fromDitch, .inl (cy 1, 20, .inl s_e2_fromDitchf)), (s_e2_ontoDitch, .inl (cy 1, 20, .inl s_e2_ontoDitchf)), (s_e3, .inr (2, [.ref s_e3_fromLawn, .ref s_e3_fromDitch, .ref s_e3_ontoDitch])), (s_e3_fromLawn, .inl (cy 1, 20, .inl s_e3_fromLawnf)), (s_e3_fromDitch, .inl (cy 1, 20, .inl s_e3_fromDitchf)), (s_e3_ontoDitch, .inl (cy 1, 20, .inl s_e3_ontoDitchf)), (s_e1, .inr (2, [.ref s_e1_fromLawn, .ref s_e1_fromDitch, .ref s_e1_ontoDitch])), (s_e1_fromLawn, .inl (cy 1, 20, .inl s_e1_fromLawnf)), (s_e1_fromDitch, .inl (cy 1, 20, .inl s_e1_fromDitchf)), (s_e1_ontoDitch, .inl (cy 1, 20, .inl s_e1_ontoDitchf))]) hP hD rfl
          have hP := hPD.1
          have hD := hPD.2
          refine lv_if_eq (tgt := 49) hx hb dX1_walkersBy_40 (by decide) (fun h_28 => ?_) (fun h_28 => ?_)
          · have h_28 : r_25.toInt = 0 := c_eq h_28
            obtain ⟨x_29, ex_29⟩ : ∃ y : Int32, y = i_3 + 1 := ⟨_, rfl⟩
            have tx_29 : x_29.toInt = i_3.toInt + 1 := ti_add (A := i_3.toInt) (B := 1) ex_29 rfl rfl (by omega) (by omega)
            refine lv_iinc (v := x_29) (lv' := [(3, .int x_29), (2, .int i_5), (0, .ref h0), (1, .int p1)]) hx hb dX1_walkersBy_49 hl (k := 0) rfl (by rw [ex_29]; rfl) (by decide) rfl (fun ls hl => ?_)
            refine lv_goto (tgt := 4) hx hb dX1_walkersBy_52 (by decide) ?_
            exact ihlp_2 x_29 i_5 _ _ _ (by omega) (show 5 - x_29.toInt ≤ (nlp_2 : Int) by omega) (hP.sub [0, 1, 2, 3, 4, 5, 6, 7, 16, 17, 18, 19, 8, 9, 10, 11, 12, 13, 14, 15] rfl) (hD.sub [0, 1, 2, 3, 4, 5, 6, 7, 16, 17, 18, 19, 8, 9, 10, 11, 12, 13, 14, 15] (by decide +kernel) rfl) hS (lv_sub hl [0, 1, 2, 3] rfl)
          · have h_28 : r_25.toInt ≠ 0 := c_ne h_28
            refine lv_iload_n hx hb dX1_walkersBy_43 rfl (lv_at hl 1 rfl) ?_
            refine lv_iconst (v := 1) hx hb dX1_walkersBy_44 (by decide) ?_
            refine lv_iload_n hx hb dX1_walkersBy_45 rfl (lv_at hl 0 rfl) ?_
            refine lv_ishl hx hb dX1_walkersBy_46 ?_
            refine lv_topi (fun x_30 ex_30 => ?_)
            have tx_30 : 1 ≤ x_30.toInt ∧ x_30.toInt ≤ 32 := ti_shl5 ex_30 (by omega) (by omega)
            refine lv_ior hx hb dX1_walkersBy_47 ?_
            have dy_31 := ti_bd i_5
            refine lv_topi (fun x_32 ex_32 => ?_)
            refine lv_istore_n (lv' := [(2, .int x_32), (3, .int i_3), (0, .ref h0), (1, .int p1)]) hx hb dX1_walkersBy_48 rfl hl (by decide) rfl (fun ls hl => ?_)
            obtain ⟨x_33, ex_33⟩ : ∃ y : Int32, y = i_3 + 1 := ⟨_, rfl⟩
            have tx_33 : x_33.toInt = i_3.toInt + 1 := ti_add (A := i_3.toInt) (B := 1) ex_33 rfl rfl (by omega) (by omega)
            refine lv_iinc (v := x_33) (lv' := [(3, .int x_33), (2, .int x_32), (0, .ref h0), (1, .int p1)]) hx hb dX1_walkersBy_49 hl (k := 1) rfl (by rw [ex_33]; rfl) (by decide) rfl (fun ls hl => ?_)
            refine lv_goto (tgt := 4) hx hb dX1_walkersBy_52 (by decide) ?_
            exact ihlp_2 x_33 x_32 _ _ _ (by omega) (show 5 - x_33.toInt ≤ (nlp_2 : Int) by omega) (hP.sub [0, 1, 2, 3, 4, 5, 6, 7, 16, 17, 18, 19, 8, 9, 10, 11, 12, 13, 14, 15] rfl) (hD.sub [0, 1, 2, 3, 4, 5, 6, 7, 16, 17, 18, 19, 8, 9, 10, 11, 12, 13, 14, 15] (by decide +kernel) rfl) hS (lv_sub hl [0, 1, 2, 3] rfl)
        · refine q_ald (D := (dC, dI)) (cl := vwCl) hx hb hK hP 1 4 rfl rfl (i := i_3) (vin (by omega) (by omega)) (d := s_e2) (by rw [h_7]; rfl) dX1_walkersBy_17 ?_
          refine lv_aload_n hx hb dX1_walkersBy_18 rfl (lv_at hl 2 rfl) ?_
          refine r_get X kcX1 (ci := 1) rfl hP 0 rfl 1 (by decide) fX1_17 rfl dX1_walkersBy_19 ?_
          refine lv_iload_n hx hb dX1_walkersBy_22 rfl (lv_at hl 0 rfl) ?_
          refine va_iald (D := (dC, dI)) (cl := vwCl) hx hb hK hP 2 1 rfl rfl (i := i_3) (vin (by omega) (by omega)) dX1_walkersBy_23 ?_
          refine lv_topi (fun x_34 ex_34 => ?_)
          have bx_34 : 0 ≤ x_34.toInt ∧ x_34.toInt ≤ 19 := rb_at hs_startsf ex_34 (by omega) (by omega)
          refine lv_aload_n hx hb dX1_walkersBy_24 rfl (lv_at hl 2 rfl) ?_
          refine r_get X kcX1 (ci := 1) rfl hP 0 rfl 2 (by decide) fX1_21 rfl dX1_walkersBy_25 ?_
          refine lv_iload_n hx hb dX1_walkersBy_28 rfl (lv_at hl 0 rfl) ?_
          refine va_iald (D := (dC, dI)) (cl := vwCl) hx hb hK hP 3 1 rfl rfl (i := i_3) (vin (by omega) (by omega)) dX1_walkersBy_29 ?_
          refine lv_topi (fun x_35 ex_35 => ?_)
          refine lv_aload_n hx hb dX1_walkersBy_30 rfl (lv_at hl 2 rfl) ?_
          refine r_get X kcX1 (ci := 1) rfl hP 0 rfl 4 (by decide) fX1_44 rfl dX1_walkersBy_31 ?_
          refine lv_iload_n hx hb dX1_walkersBy_34 rfl (lv_at hl 3 rfl) ?_
          refine lv_ior hx hb dX1_walkersBy_35 ?_
          have dy_36 := ti_bd s_ditches
          refine lv_topi (fun x_37 ex_37 => ?_)
          refine lv_iconst (v := 0) hx hb dX1_walkersBy_36 (by decide) ?_
          refine sl_Ic (rV_I (As := [.int x_34, .int x_35, .int x_37, .int 0]) (rest := []) X hp_st (fun _ _ _ h => h) (sX2_comesTo l dC dI cy s_e2 s_e2_fromLawn s_e2_fromDitch s_e2_ontoDitch s_e2_fromLawnf s_e2_fromDitchf s_e2_ontoDitchf x_34 x_35 x_37 0 hs_e2_fromLawnf hs_e2_fromDitchf hs_e2_ontoDitchf (by first | decide | omega)) kX2_comesTo vX2_comesTo mX1_61 hP hD hS hA [12, 13, 14, 15] (by decide) rfl 0 (ci := 2) rfl rfl rfl hl rfl rfl (Nat.le_of_ble_eq_true rfl) dX1_walkersBy_37 ⟨(Nat.le_of_ble_eq_true rfl), (Nat.le_of_ble_eq_true rfl)⟩ ⟨(Nat.le_of_ble_eq_true rfl), (Nat.le_of_ble_eq_true rfl)⟩) hP hD hS hA [12, 13, 14, 15] [true, true, true, true, true, true, true, true, true, true, true, true, false, false, false, false, true, true, true, true] rfl rfl rfl (fun r_38 u_40 H locs k_39 hP hD hS => ?_)
          have k_39 : (0 ≤ r_38.toInt ∧ r_38.toInt ≤ 1) := k_39
          have hPD := vPD (ws' := [(h0, .inr (1, [.ref s_floods, .ref s_starts, .ref s_goals, .int s_walkers, .int s_ditches, .int s_lost])), (s_floods, .inl (cy 4, 4, .inr (.inr (.inr (.inr ((q4 s_e0 s_e1 s_e2 s_e3))))))), (s_starts, .inl (cy 1, 4, .inl s_startsf)), (s_goals, .inl (cy 1, 4, .inl s_goalsf)), (s_e0, .inr (2, [.ref s_e0_fromLawn, .ref s_e0_fromDitch, .ref s_e0_ontoDitch])), (s_e0_fromLawn, .inl (cy 1, 20, .inl s_e0_fromLawnf)), (s_e0_fromDitch, .inl (cy 1, 20, .inl s_e0_fromDitchf)), (s_e0_ontoDitch, .inl (cy 1, 20, .inl s_e0_ontoDitchf)), (s_e1, .inr (2, [.ref s_e1_fromLawn, .ref s_e1_fromDitch, .ref s_e1_ontoDitch])), (s_e1_fromLawn, .inl (cy 1, 20, .inl s_e1_fromLawnf)), (s_e1_fromDitch, .inl (cy 1, 20, .inl s_e1_fromDitchf)), (s_e1_ontoDitch, .inl (cy 1, 20, .inl s_e1_ontoDitchf)), (s_e3, .inr (2, [.ref s_e3_fromLawn, .ref s_e3_fromDitch, .ref s_e3_ontoDitch])), (s_e3_fromLawn, .inl (cy 1, 20, .inl s_e3_fromLawnf)), (s_e3_fromDitch, .inl (cy 1, 20, .inl s_e3_fromDitchf)), (s_e3_ontoDitch, .inl (cy 1, 20, .inl s_e3_ontoDitchf)), (s_e2, .inr (2, [.ref s_e2_fromLawn, .ref s_e2_fromDitch, .ref s_e2_ontoDitch])), (s_e2_fromLawn, .inl (cy 1, 20, .inl s_e2_fromLawnf)), (s_e2_fromDitch, .inl (cy 1, 20, .inl s_e2_fromDitchf)), (s_e2_ontoDitch, .inl (cy 1, 20, .inl s_e2_ontoDitchf))]) hP hD rfl
          have hP := hPD.1
          have hD := hPD.2
          refine lv_if_eq (tgt := 49) hx hb dX1_walkersBy_40 (by decide) (fun h_41 => ?_) (fun h_41 => ?_)
          · have h_41 : r_38.toInt = 0 := c_eq h_41
            obtain ⟨x_42, ex_42⟩ : ∃ y : Int32, y = i_3 + 1 := ⟨_, rfl⟩
            have tx_42 : x_42.toInt = i_3.toInt + 1 := ti_add (A := i_3.toInt) (B := 1) ex_42 rfl rfl (by omega) (by omega)
            refine lv_iinc (v := x_42) (lv' := [(3, .int x_42), (2, .int i_5), (0, .ref h0), (1, .int p1)]) hx hb dX1_walkersBy_49 hl (k := 0) rfl (by rw [ex_42]; rfl) (by decide) rfl (fun ls hl => ?_)
            refine lv_goto (tgt := 4) hx hb dX1_walkersBy_52 (by decide) ?_
            exact ihlp_2 x_42 i_5 _ _ _ (by omega) (show 5 - x_42.toInt ≤ (nlp_2 : Int) by omega) (hP.sub [0, 1, 2, 3, 4, 5, 6, 7, 8, 9, 10, 11, 16, 17, 18, 19, 12, 13, 14, 15] rfl) (hD.sub [0, 1, 2, 3, 4, 5, 6, 7, 8, 9, 10, 11, 16, 17, 18, 19, 12, 13, 14, 15] (by decide +kernel) rfl) hS (lv_sub hl [0, 1, 2, 3] rfl)
          · have h_41 : r_38.toInt ≠ 0 := c_ne h_41
            refine lv_iload_n hx hb dX1_walkersBy_43 rfl (lv_at hl 1 rfl) ?_
            refine lv_iconst (v := 1) hx hb dX1_walkersBy_44 (by decide) ?_
            refine lv_iload_n hx hb dX1_walkersBy_45 rfl (lv_at hl 0 rfl) ?_
            refine lv_ishl hx hb dX1_walkersBy_46 ?_
            refine lv_topi (fun x_43 ex_43 => ?_)
            have tx_43 : 1 ≤ x_43.toInt ∧ x_43.toInt ≤ 32 := ti_shl5 ex_43 (by omega) (by omega)
            refine lv_ior hx hb dX1_walkersBy_47 ?_
            have dy_44 := ti_bd i_5
            refine lv_topi (fun x_45 ex_45 => ?_)
            refine lv_istore_n (lv' := [(2, .int x_45), (3, .int i_3), (0, .ref h0), (1, .int p1)]) hx hb dX1_walkersBy_48 rfl hl (by decide) rfl (fun ls hl => ?_)
            obtain ⟨x_46, ex_46⟩ : ∃ y : Int32, y = i_3 + 1 := ⟨_, rfl⟩
            have tx_46 : x_46.toInt = i_3.toInt + 1 := ti_add (A := i_3.toInt) (B := 1) ex_46 rfl rfl (by omega) (by omega)
            refine lv_iinc (v := x_46) (lv' := [(3, .int x_46), (2, .int x_45), (0, .ref h0), (1, .int p1)]) hx hb dX1_walkersBy_49 hl (k := 1) rfl (by rw [ex_46]; rfl) (by decide) rfl (fun ls hl => ?_)
            refine lv_goto (tgt := 4) hx hb dX1_walkersBy_52 (by decide) ?_
            exact ihlp_2 x_46 x_45 _ _ _ (by omega) (show 5 - x_46.toInt ≤ (nlp_2 : Int) by omega) (hP.sub [0, 1, 2, 3, 4, 5, 6, 7, 8, 9, 10, 11, 16, 17, 18, 19, 12, 13, 14, 15] rfl) (hD.sub [0, 1, 2, 3, 4, 5, 6, 7, 8, 9, 10, 11, 16, 17, 18, 19, 12, 13, 14, 15] (by decide +kernel) rfl) hS (lv_sub hl [0, 1, 2, 3] rfl)
        · refine q_ald (D := (dC, dI)) (cl := vwCl) hx hb hK hP 1 4 rfl rfl (i := i_3) (vin (by omega) (by omega)) (d := s_e3) (by rw [h_7]; rfl) dX1_walkersBy_17 ?_
          refine lv_aload_n hx hb dX1_walkersBy_18 rfl (lv_at hl 2 rfl) ?_
          refine r_get X kcX1 (ci := 1) rfl hP 0 rfl 1 (by decide) fX1_17 rfl dX1_walkersBy_19 ?_
          refine lv_iload_n hx hb dX1_walkersBy_22 rfl (lv_at hl 0 rfl) ?_
          refine va_iald (D := (dC, dI)) (cl := vwCl) hx hb hK hP 2 1 rfl rfl (i := i_3) (vin (by omega) (by omega)) dX1_walkersBy_23 ?_
          refine lv_topi (fun x_47 ex_47 => ?_)
          have bx_47 : 0 ≤ x_47.toInt ∧ x_47.toInt ≤ 19 := rb_at hs_startsf ex_47 (by omega) (by omega)
          refine lv_aload_n hx hb dX1_walkersBy_24 rfl (lv_at hl 2 rfl) ?_
          refine r_get X kcX1 (ci := 1) rfl hP 0 rfl 2 (by decide) fX1_21 rfl dX1_walkersBy_25 ?_
          refine lv_iload_n hx hb dX1_walkersBy_28 rfl (lv_at hl 0 rfl) ?_
          refine va_iald (D := (dC, dI)) (cl := vwCl) hx hb hK hP 3 1 rfl rfl (i := i_3) (vin (by omega) (by omega)) dX1_walkersBy_29 ?_
          refine lv_topi (fun x_48 ex_48 => ?_)
          refine lv_aload_n hx hb dX1_walkersBy_30 rfl (lv_at hl 2 rfl) ?_
          refine r_get X kcX1 (ci := 1) rfl hP 0 rfl 4 (by decide) fX1_44 rfl dX1_walkersBy_31 ?_
          refine lv_iload_n hx hb dX1_walkersBy_34 rfl (lv_at hl 3 rfl) ?_
          refine lv_ior hx hb dX1_walkersBy_35 ?_
          have dy_49 := ti_bd s_ditches
          refine lv_topi (fun x_50 ex_50 => ?_)
          refine lv_iconst (v := 0) hx hb dX1_walkersBy_36 (by decide) ?_
          refine sl_Ic (rV_I (As := [.int x_47, .int x_48, .int x_50, .int 0]) (rest := []) X hp_st (fun _ _ _ h => h) (sX2_comesTo l dC dI cy s_e3 s_e3_fromLawn s_e3_fromDitch s_e3_ontoDitch s_e3_fromLawnf s_e3_fromDitchf s_e3_ontoDitchf x_47 x_48 x_50 0 hs_e3_fromLawnf hs_e3_fromDitchf hs_e3_ontoDitchf (by first | decide | omega)) kX2_comesTo vX2_comesTo mX1_61 hP hD hS hA [16, 17, 18, 19] (by decide) rfl 0 (ci := 2) rfl rfl rfl hl rfl rfl (Nat.le_of_ble_eq_true rfl) dX1_walkersBy_37 ⟨(Nat.le_of_ble_eq_true rfl), (Nat.le_of_ble_eq_true rfl)⟩ ⟨(Nat.le_of_ble_eq_true rfl), (Nat.le_of_ble_eq_true rfl)⟩) hP hD hS hA [16, 17, 18, 19] [true, true, true, true, true, true, true, true, true, true, true, true, true, true, true, true, false, false, false, false] rfl rfl rfl (fun r_51 u_53 H locs k_52 hP hD hS => ?_)
          have k_52 : (0 ≤ r_51.toInt ∧ r_51.toInt ≤ 1) := k_52
          have hPD := vPD (ws' := [(h0, .inr (1, [.ref s_floods, .ref s_starts, .ref s_goals, .int s_walkers, .int s_ditches, .int s_lost])), (s_floods, .inl (cy 4, 4, .inr (.inr (.inr (.inr ((q4 s_e0 s_e1 s_e2 s_e3))))))), (s_starts, .inl (cy 1, 4, .inl s_startsf)), (s_goals, .inl (cy 1, 4, .inl s_goalsf)), (s_e0, .inr (2, [.ref s_e0_fromLawn, .ref s_e0_fromDitch, .ref s_e0_ontoDitch])), (s_e0_fromLawn, .inl (cy 1, 20, .inl s_e0_fromLawnf)), (s_e0_fromDitch, .inl (cy 1, 20, .inl s_e0_fromDitchf)), (s_e0_ontoDitch, .inl (cy 1, 20, .inl s_e0_ontoDitchf)), (s_e1, .inr (2, [.ref s_e1_fromLawn, .ref s_e1_fromDitch, .ref s_e1_ontoDitch])), (s_e1_fromLawn, .inl (cy 1, 20, .inl s_e1_fromLawnf)), (s_e1_fromDitch, .inl (cy 1, 20, .inl s_e1_fromDitchf)), (s_e1_ontoDitch, .inl (cy 1, 20, .inl s_e1_ontoDitchf)), (s_e2, .inr (2, [.ref s_e2_fromLawn, .ref s_e2_fromDitch, .ref s_e2_ontoDitch])), (s_e2_fromLawn, .inl (cy 1, 20, .inl s_e2_fromLawnf)), (s_e2_fromDitch, .inl (cy 1, 20, .inl s_e2_fromDitchf)), (s_e2_ontoDitch, .inl (cy 1, 20, .inl s_e2_ontoDitchf)), (s_e3, .inr (2, [.ref s_e3_fromLawn, .ref s_e3_fromDitch, .ref s_e3_ontoDitch])), (s_e3_fromLawn, .inl (cy 1, 20, .inl s_e3_fromLawnf)), (s_e3_fromDitch, .inl (cy 1, 20, .inl s_e3_fromDitchf)), (s_e3_ontoDitch, .inl (cy 1, 20, .inl s_e3_ontoDitchf))]) hP hD rfl
          have hP := hPD.1
          have hD := hPD.2
          refine lv_if_eq (tgt := 49) hx hb dX1_walkersBy_40 (by decide) (fun h_54 => ?_) (fun h_54 => ?_)
          · have h_54 : r_51.toInt = 0 := c_eq h_54
            obtain ⟨x_55, ex_55⟩ : ∃ y : Int32, y = i_3 + 1 := ⟨_, rfl⟩
            have tx_55 : x_55.toInt = i_3.toInt + 1 := ti_add (A := i_3.toInt) (B := 1) ex_55 rfl rfl (by omega) (by omega)
            refine lv_iinc (v := x_55) (lv' := [(3, .int x_55), (2, .int i_5), (0, .ref h0), (1, .int p1)]) hx hb dX1_walkersBy_49 hl (k := 0) rfl (by rw [ex_55]; rfl) (by decide) rfl (fun ls hl => ?_)
            refine lv_goto (tgt := 4) hx hb dX1_walkersBy_52 (by decide) ?_
            exact ihlp_2 x_55 i_5 _ _ _ (by omega) (show 5 - x_55.toInt ≤ (nlp_2 : Int) by omega) hP hD hS (lv_sub hl [0, 1, 2, 3] rfl)
          · have h_54 : r_51.toInt ≠ 0 := c_ne h_54
            refine lv_iload_n hx hb dX1_walkersBy_43 rfl (lv_at hl 1 rfl) ?_
            refine lv_iconst (v := 1) hx hb dX1_walkersBy_44 (by decide) ?_
            refine lv_iload_n hx hb dX1_walkersBy_45 rfl (lv_at hl 0 rfl) ?_
            refine lv_ishl hx hb dX1_walkersBy_46 ?_
            refine lv_topi (fun x_56 ex_56 => ?_)
            have tx_56 : 1 ≤ x_56.toInt ∧ x_56.toInt ≤ 32 := ti_shl5 ex_56 (by omega) (by omega)
            refine lv_ior hx hb dX1_walkersBy_47 ?_
            have dy_57 := ti_bd i_5
            refine lv_topi (fun x_58 ex_58 => ?_)
            refine lv_istore_n (lv' := [(2, .int x_58), (3, .int i_3), (0, .ref h0), (1, .int p1)]) hx hb dX1_walkersBy_48 rfl hl (by decide) rfl (fun ls hl => ?_)
            obtain ⟨x_59, ex_59⟩ : ∃ y : Int32, y = i_3 + 1 := ⟨_, rfl⟩
            have tx_59 : x_59.toInt = i_3.toInt + 1 := ti_add (A := i_3.toInt) (B := 1) ex_59 rfl rfl (by omega) (by omega)
            refine lv_iinc (v := x_59) (lv' := [(3, .int x_59), (2, .int x_58), (0, .ref h0), (1, .int p1)]) hx hb dX1_walkersBy_49 hl (k := 1) rfl (by rw [ex_59]; rfl) (by decide) rfl (fun ls hl => ?_)
            refine lv_goto (tgt := 4) hx hb dX1_walkersBy_52 (by decide) ?_
            exact ihlp_2 x_59 x_58 _ _ _ (by omega) (show 5 - x_59.toInt ≤ (nlp_2 : Int) by omega) hP hD hS (lv_sub hl [0, 1, 2, 3] rfl)
  exact lp_2 5 0 0 _ _ _ (by decide) (show 5 - 0 ≤ ((5 : Nat) : Int) by omega) hP hD hS hl
set_option maxHeartbeats 4000000 in
set_option maxRecDepth 100000 in
theorem sX1_worksBy (l : Launch) (dC : Nat → ClassId) (dI : Nat → Nat → Nat) (cy : Nat → ClassId) (h0 : Nat) (s_floods : Nat) (s_starts : Nat) (s_goals : Nat) (s_walkers : Int32) (s_ditches : Int32) (s_lost : Int32) (s_e0 : Nat) (s_e1 : Nat) (s_e2 : Nat) (s_e3 : Nat) (s_startsf : Nat → Int32) (s_goalsf : Nat → Int32) (s_e0_fromLawn : Nat) (s_e0_fromDitch : Nat) (s_e0_ontoDitch : Nat) (s_e0_fromLawnf : Nat → Int32) (s_e0_fromDitchf : Nat → Int32) (s_e0_ontoDitchf : Nat → Int32) (s_e1_fromLawn : Nat) (s_e1_fromDitch : Nat) (s_e1_ontoDitch : Nat) (s_e1_fromLawnf : Nat → Int32) (s_e1_fromDitchf : Nat → Int32) (s_e1_ontoDitchf : Nat → Int32) (s_e2_fromLawn : Nat) (s_e2_fromDitch : Nat) (s_e2_ontoDitch : Nat) (s_e2_fromLawnf : Nat → Int32) (s_e2_fromDitchf : Nat → Int32) (s_e2_ontoDitchf : Nat → Int32) (s_e3_fromLawn : Nat) (s_e3_fromDitch : Nat) (s_e3_ontoDitch : Nat) (s_e3_fromLawnf : Nat → Int32) (s_e3_fromDitchf : Nat → Int32) (s_e3_ontoDitchf : Nat → Int32) (p1 : Int32) (hs_walkers : 0 ≤ s_walkers.toInt ∧ s_walkers.toInt ≤ 4) (hs_lost : 0 ≤ s_lost.toInt ∧ s_lost.toInt ≤ 3) (hs_startsf : rb s_startsf 4 0 19) (hs_e0_fromLawnf : rb s_e0_fromLawnf 20 0 1048575) (hs_e0_fromDitchf : rb s_e0_fromDitchf 20 0 1048575) (hs_e0_ontoDitchf : rb s_e0_ontoDitchf 20 0 1048575) (hs_e1_fromLawnf : rb s_e1_fromLawnf 20 0 1048575) (hs_e1_fromDitchf : rb s_e1_fromDitchf 20 0 1048575) (hs_e1_ontoDitchf : rb s_e1_ontoDitchf 20 0 1048575) (hs_e2_fromLawnf : rb s_e2_fromLawnf 20 0 1048575) (hs_e2_fromDitchf : rb s_e2_fromDitchf 20 0 1048575) (hs_e2_ontoDitchf : rb s_e2_ontoDitchf 20 0 1048575) (hs_e3_fromLawnf : rb s_e3_fromLawnf 20 0 1048575) (hs_e3_fromDitchf : rb s_e3_fromDitchf 20 0 1048575) (hs_e3_ontoDitchf : rb s_e3_ontoDitchf 20 0 1048575) : ctI l dC dI cy hp yX1_worksBy cX1_worksBy 4 .boolean ({ frames := 3, cells := 0, slots := 0, locals := 74 } : Room) [.ref h0, .int p1] [(h0, .inr (1, [.ref s_floods, .ref s_starts, .ref s_goals, .int s_walkers, .int s_ditches, .int s_lost])), (s_floods, .inl (cy 4, 4, .inr (.inr (.inr (.inr ((q4 s_e0 s_e1 s_e2 s_e3))))))), (s_starts, .inl (cy 1, 4, .inl s_startsf)), (s_goals, .inl (cy 1, 4, .inl s_goalsf)), (s_e0, .inr (2, [.ref s_e0_fromLawn, .ref s_e0_fromDitch, .ref s_e0_ontoDitch])), (s_e0_fromLawn, .inl (cy 1, 20, .inl s_e0_fromLawnf)), (s_e0_fromDitch, .inl (cy 1, 20, .inl s_e0_fromDitchf)), (s_e0_ontoDitch, .inl (cy 1, 20, .inl s_e0_ontoDitchf)), (s_e1, .inr (2, [.ref s_e1_fromLawn, .ref s_e1_fromDitch, .ref s_e1_ontoDitch])), (s_e1_fromLawn, .inl (cy 1, 20, .inl s_e1_fromLawnf)), (s_e1_fromDitch, .inl (cy 1, 20, .inl s_e1_fromDitchf)), (s_e1_ontoDitch, .inl (cy 1, 20, .inl s_e1_ontoDitchf)), (s_e2, .inr (2, [.ref s_e2_fromLawn, .ref s_e2_fromDitch, .ref s_e2_ontoDitch])), (s_e2_fromLawn, .inl (cy 1, 20, .inl s_e2_fromLawnf)), (s_e2_fromDitch, .inl (cy 1, 20, .inl s_e2_fromDitchf)), (s_e2_ontoDitch, .inl (cy 1, 20, .inl s_e2_ontoDitchf)), (s_e3, .inr (2, [.ref s_e3_fromLawn, .ref s_e3_fromDitch, .ref s_e3_ontoDitch])), (s_e3_fromLawn, .inl (cy 1, 20, .inl s_e3_fromLawnf)), (s_e3_fromDitch, .inl (cy 1, 20, .inl s_e3_fromDitchf)), (s_e3_ontoDitch, .inl (cy 1, 20, .inl s_e3_ontoDitchf))] (S := Int32) (fun r u => (0 ≤ r.toInt ∧ r.toInt ≤ 1) ∧ (0 ≤ u.toInt ∧ u.toInt ≤ 3)) (fun u => [(h0, .inr (1, [.ref s_floods, .ref s_starts, .ref s_goals, .int s_walkers, .int s_ditches, .int u])), (s_floods, .inl (cy 4, 4, .inr (.inr (.inr (.inr ((q4 s_e0 s_e1 s_e2 s_e3))))))), (s_starts, .inl (cy 1, 4, .inl s_startsf)), (s_goals, .inl (cy 1, 4, .inl s_goalsf)), (s_e0, .inr (2, [.ref s_e0_fromLawn, .ref s_e0_fromDitch, .ref s_e0_ontoDitch])), (s_e0_fromLawn, .inl (cy 1, 20, .inl s_e0_fromLawnf)), (s_e0_fromDitch, .inl (cy 1, 20, .inl s_e0_fromDitchf)), (s_e0_ontoDitch, .inl (cy 1, 20, .inl s_e0_ontoDitchf)), (s_e1, .inr (2, [.ref s_e1_fromLawn, .ref s_e1_fromDitch, .ref s_e1_ontoDitch])), (s_e1_fromLawn, .inl (cy 1, 20, .inl s_e1_fromLawnf)), (s_e1_fromDitch, .inl (cy 1, 20, .inl s_e1_fromDitchf)), (s_e1_ontoDitch, .inl (cy 1, 20, .inl s_e1_ontoDitchf)), (s_e2, .inr (2, [.ref s_e2_fromLawn, .ref s_e2_fromDitch, .ref s_e2_ontoDitch])), (s_e2_fromLawn, .inl (cy 1, 20, .inl s_e2_fromLawnf)), (s_e2_fromDitch, .inl (cy 1, 20, .inl s_e2_fromDitchf)), (s_e2_ontoDitch, .inl (cy 1, 20, .inl s_e2_ontoDitchf)), (s_e3, .inr (2, [.ref s_e3_fromLawn, .ref s_e3_fromDitch, .ref s_e3_ontoDitch])), (s_e3_fromLawn, .inl (cy 1, 20, .inl s_e3_fromLawnf)), (s_e3_fromDitch, .inl (cy 1, 20, .inl s_e3_fromDitchf)), (s_e3_ontoDitch, .inl (cy 1, 20, .inl s_e3_ontoDitchf))]) := by
  refine ctI.of (by decide +kernel) (Nat.le_of_ble_eq_true rfl) ?_
  intro p e s m args below meth c A ls Q hQ X hr hlocks hin hA hP hD hS hl
  have hx := X.1
  have hb := X.2.1
  have hK := X.2.2.2.2.2.1
  have hl : lv_has ls 4 [(0, .ref h0), (1, .int p1)] := hl
  have dy_1 := ti_bd p1
  refine lv_iconst (v := 0) hx hb dX1_worksBy_0 (by decide) ?_
  refine lv_istore_n (lv' := [(2, .int 0), (0, .ref h0), (1, .int p1)]) hx hb dX1_worksBy_1 rfl hl (by decide) rfl (fun ls hl => ?_)
  have lp_2 : ∀ (nlp_2 : Nat) (i_3 : Int32) (H : Heap) (locs : List Loc) (ls : Array Slot), (0 ≤ i_3.toInt ∧ i_3.toInt ≤ 4) → (5 - i_3.toInt ≤ (nlp_2 : Int)) → va_P (dC, dI) vwCl [(h0, .inr (1, [.ref s_floods, .ref s_starts, .ref s_goals, .int s_walkers, .int s_ditches, .int s_lost])), (s_floods, .inl (cy 4, 4, .inr (.inr (.inr (.inr ((q4 s_e0 s_e1 s_e2 s_e3))))))), (s_starts, .inl (cy 1, 4, .inl s_startsf)), (s_goals, .inl (cy 1, 4, .inl s_goalsf)), (s_e0, .inr (2, [.ref s_e0_fromLawn, .ref s_e0_fromDitch, .ref s_e0_ontoDitch])), (s_e0_fromLawn, .inl (cy 1, 20, .inl s_e0_fromLawnf)), (s_e0_fromDitch, .inl (cy 1, 20, .inl s_e0_fromDitchf)), (s_e0_ontoDitch, .inl (cy 1, 20, .inl s_e0_ontoDitchf)), (s_e1, .inr (2, [.ref s_e1_fromLawn, .ref s_e1_fromDitch, .ref s_e1_ontoDitch])), (s_e1_fromLawn, .inl (cy 1, 20, .inl s_e1_fromLawnf)), (s_e1_fromDitch, .inl (cy 1, 20, .inl s_e1_fromDitchf)), (s_e1_ontoDitch, .inl (cy 1, 20, .inl s_e1_ontoDitchf)), (s_e2, .inr (2, [.ref s_e2_fromLawn, .ref s_e2_fromDitch, .ref s_e2_ontoDitch])), (s_e2_fromLawn, .inl (cy 1, 20, .inl s_e2_fromLawnf)), (s_e2_fromDitch, .inl (cy 1, 20, .inl s_e2_fromDitchf)), (s_e2_ontoDitch, .inl (cy 1, 20, .inl s_e2_ontoDitchf)), (s_e3, .inr (2, [.ref s_e3_fromLawn, .ref s_e3_fromDitch, .ref s_e3_ontoDitch])), (s_e3_fromLawn, .inl (cy 1, 20, .inl s_e3_fromLawnf)), (s_e3_fromDitch, .inl (cy 1, 20, .inl s_e3_fromDitchf)), (s_e3_ontoDitch, .inl (cy 1, 20, .inl s_e3_ontoDitchf))] H → va_D A [(h0, .inr (1, [.ref s_floods, .ref s_starts, .ref s_goals, .int s_walkers, .int s_ditches, .int s_lost])), (s_floods, .inl (cy 4, 4, .inr (.inr (.inr (.inr ((q4 s_e0 s_e1 s_e2 s_e3))))))), (s_starts, .inl (cy 1, 4, .inl s_startsf)), (s_goals, .inl (cy 1, 4, .inl s_goalsf)), (s_e0, .inr (2, [.ref s_e0_fromLawn, .ref s_e0_fromDitch, .ref s_e0_ontoDitch])), (s_e0_fromLawn, .inl (cy 1, 20, .inl s_e0_fromLawnf)), (s_e0_fromDitch, .inl (cy 1, 20, .inl s_e0_fromDitchf)), (s_e0_ontoDitch, .inl (cy 1, 20, .inl s_e0_ontoDitchf)), (s_e1, .inr (2, [.ref s_e1_fromLawn, .ref s_e1_fromDitch, .ref s_e1_ontoDitch])), (s_e1_fromLawn, .inl (cy 1, 20, .inl s_e1_fromLawnf)), (s_e1_fromDitch, .inl (cy 1, 20, .inl s_e1_fromDitchf)), (s_e1_ontoDitch, .inl (cy 1, 20, .inl s_e1_ontoDitchf)), (s_e2, .inr (2, [.ref s_e2_fromLawn, .ref s_e2_fromDitch, .ref s_e2_ontoDitch])), (s_e2_fromLawn, .inl (cy 1, 20, .inl s_e2_fromLawnf)), (s_e2_fromDitch, .inl (cy 1, 20, .inl s_e2_fromDitchf)), (s_e2_ontoDitch, .inl (cy 1, 20, .inl s_e2_ontoDitchf)), (s_e3, .inr (2, [.ref s_e3_fromLawn, .ref s_e3_fromDitch, .ref s_e3_ontoDitch])), (s_e3_fromLawn, .inl (cy 1, 20, .inl s_e3_fromLawnf)), (s_e3_fromDitch, .inl (cy 1, 20, .inl s_e3_fromDitchf)), (s_e3_ontoDitch, .inl (cy 1, 20, .inl s_e3_ontoDitchf))] → va_S A s.heap H locs → lv_has ls 4 [(2, .int i_3), (0, .ref h0), (1, .int p1)] → W p l e ({ frames := 3, cells := 0, slots := 0, locals := 74 } : Room) s m args below meth c H locs 0 0 Q (F0 m 2 ls []) := by
    intro nlp_2
    induction nlp_2 with
    | zero =>
      intro i_3 H locs ls b_4 hmlp_2 hP hD hS hl
      exfalso
      have di_3 := ti_bd i_3
      omega
    | succ nlp_2 ihlp_2 =>
      intro i_3 H locs ls b_4 hmlp_2 hP hD hS hl
      refine lv_iload_n hx hb dX1_worksBy_2 rfl (lv_at hl 0 rfl) ?_
      refine lv_aload_n hx hb dX1_worksBy_3 rfl (lv_at hl 1 rfl) ?_
      refine r_get X kcX1 (ci := 1) rfl hP 0 rfl 3 (by decide) fX1_31 rfl dX1_worksBy_4 ?_
      refine lv_icmp_ge (tgt := 68) hx hb dX1_worksBy_7 (by decide) (fun h_5 => ?_) (fun h_5 => ?_)
      · have h_5 : s_walkers.toInt ≤ i_3.toInt := c_le h_5
        refine lv_iconst (v := 1) hx hb dX1_worksBy_68 (by decide) ?_
        exact eI hQ X hr hlocks hP hD hS s_lost [0, 1, 2, 3, 4, 5, 6, 7, 8, 9, 10, 11, 12, 13, 14, 15, 16, 17, 18, 19] (by decide +kernel) rfl rfl (show (0 ≤ (1 : Int32).toInt ∧ (1 : Int32).toInt ≤ 1) ∧ (0 ≤ s_lost.toInt ∧ s_lost.toInt ≤ 3) from ⟨(by first | decide | (have h9_0 : (1 : Int32).toInt = 1 := (by decide); omega) | (refine ⟨by decide, ?_⟩; omega) | omega), hs_lost⟩) (Nat.le_of_ble_eq_true rfl) (Nat.le_of_ble_eq_true rfl) dX1_worksBy_69
      · have h_5 : i_3.toInt < s_walkers.toInt := c_nle h_5
        refine lv_aload_n hx hb dX1_worksBy_10 rfl (lv_at hl 1 rfl) ?_
        refine r_get X kcX1 (ci := 1) rfl hP 0 rfl 5 (by decide) fX1_47 rfl dX1_worksBy_11 ?_
        refine lv_iload_n hx hb dX1_worksBy_14 rfl (lv_at hl 0 rfl) ?_
        refine lv_iadd hx hb dX1_worksBy_15 ?_
        refine lv_topi (fun x_6 ex_6 => ?_)
        have tx_6 : x_6.toInt = s_lost.toInt + i_3.toInt := ti_add (A := s_lost.toInt) (B := i_3.toInt) ex_6 rfl rfl (by omega) (by omega)
        refine lv_aload_n hx hb dX1_worksBy_16 rfl (lv_at hl 1 rfl) ?_
        refine r_get X kcX1 (ci := 1) rfl hP 0 rfl 3 (by decide) fX1_31 rfl dX1_worksBy_17 ?_
        refine lv_irem hx hb dX1_worksBy_20 (fun hz => by have hz := c_eq hz; rw [Int32.toInt_zero] at hz; omega) ?_
        refine lv_topi (fun x_7 ex_7 => ?_)
        have tx_7 : 0 ≤ x_7.toInt ∧ x_7.toInt < s_walkers.toInt ∧ x_7.toInt ≤ x_6.toInt ∧ x_7.toInt = x_6.toInt % s_walkers.toInt := ti_rem ex_7 (by omega) (by omega)
        refine lv_istore_n (lv' := [(3, .int x_7), (2, .int i_3), (0, .ref h0), (1, .int p1)]) hx hb dX1_worksBy_21 rfl hl (by decide) rfl (fun ls hl => ?_)
        refine lv_aload_n hx hb dX1_worksBy_22 rfl (lv_at hl 2 rfl) ?_
        refine r_get X kcX1 (ci := 1) rfl hP 0 rfl 0 (by decide) fX1_11 rfl dX1_worksBy_23 ?_
        refine lv_iload_n hx hb dX1_worksBy_26 rfl (lv_at hl 0 rfl) ?_
        rcases i4 (x := x_7) (by omega) (by omega) with h_8 | h_8 | h_8 | h_8
        · refine q_ald (D := (dC, dI)) (cl := vwCl) hx hb hK hP 1 4 rfl rfl (i := x_7) (vin (by omega) (by omega)) (d := s_e0) (by rw [h_8]; rfl) dX1_worksBy_27 ?_
          refine lv_aload_n hx hb dX1_worksBy_28 rfl (lv_at hl 2 rfl) ?_
          refine r_get X kcX1 (ci := 1) rfl hP 0 rfl 1 (by decide) fX1_17 rfl dX1_worksBy_29 ?_
          refine lv_iload_n hx hb dX1_worksBy_32 rfl (lv_at hl 0 rfl) ?_
          refine va_iald (D := (dC, dI)) (cl := vwCl) hx hb hK hP 2 1 rfl rfl (i := x_7) (vin (by omega) (by omega)) dX1_worksBy_33 ?_
          refine lv_topi (fun x_9 ex_9 => ?_)
          have bx_9 : 0 ≤ x_9.toInt ∧ x_9.toInt ≤ 19 := rb_at hs_startsf ex_9 (by omega) (by omega)
          refine lv_aload_n hx hb dX1_worksBy_34 rfl (lv_at hl 2 rfl) ?_
          refine r_get X kcX1 (ci := 1) rfl hP 0 rfl 2 (by decide) fX1_21 rfl dX1_worksBy_35 ?_
          refine lv_iload_n hx hb dX1_worksBy_38 rfl (lv_at hl 0 rfl) ?_
          refine va_iald (D := (dC, dI)) (cl := vwCl) hx hb hK hP 3 1 rfl rfl (i := x_7) (vin (by omega) (by omega)) dX1_worksBy_39 ?_
          refine lv_topi (fun x_10 ex_10 => ?_)
          refine lv_aload_n hx hb dX1_worksBy_40 rfl (lv_at hl 2 rfl) ?_
          refine r_get X kcX1 (ci := 1) rfl hP 0 rfl 4 (by decide) fX1_44 rfl dX1_worksBy_41 ?_
          refine lv_iload_n hx hb dX1_worksBy_44 rfl (lv_at hl 3 rfl) ?_
          refine lv_iconst (v := -1) hx hb dX1_worksBy_45 (by decide) ?_
          refine lv_ixor hx hb dX1_worksBy_46 ?_
          refine lv_topi (fun x_11 ex_11 => ?_)
          refine lv_iand hx hb dX1_worksBy_47 ?_
          have dy_12 := ti_bd s_ditches
          have dy_13 := ti_bd x_11
          refine lv_topi (fun x_14 ex_14 => ?_)
          refine lv_iconst (v := 0) hx hb dX1_worksBy_48 (by decide) ?_
          refine sl_Ic (rV_I (As := [.int x_9, .int x_10, .int x_14, .int 0]) (rest := []) X hp_st (fun _ _ _ h => h) (sX2_comesTo l dC dI cy s_e0 s_e0_fromLawn s_e0_fromDitch s_e0_ontoDitch s_e0_fromLawnf s_e0_fromDitchf s_e0_ontoDitchf x_9 x_10 x_14 0 hs_e0_fromLawnf hs_e0_fromDitchf hs_e0_ontoDitchf (by first | decide | omega)) kX2_comesTo vX2_comesTo mX1_61 hP hD hS hA [4, 5, 6, 7] (by decide) rfl 0 (ci := 2) rfl rfl rfl hl rfl rfl (Nat.le_of_ble_eq_true rfl) dX1_worksBy_49 ⟨(Nat.le_of_ble_eq_true rfl), (Nat.le_of_ble_eq_true rfl)⟩ ⟨(Nat.le_of_ble_eq_true rfl), (Nat.le_of_ble_eq_true rfl)⟩) hP hD hS hA [4, 5, 6, 7] [true, true, true, true, false, false, false, false, true, true, true, true, true, true, true, true, true, true, true, true] rfl rfl rfl (fun r_15 u_17 H locs k_16 hP hD hS => ?_)
          have k_16 : (0 ≤ r_15.toInt ∧ r_15.toInt ≤ 1) := k_16
          have hPD := vPD (ws' := [(h0, .inr (1, [.ref s_floods, .ref s_starts, .ref s_goals, .int s_walkers, .int s_ditches, .int s_lost])), (s_floods, .inl (cy 4, 4, .inr (.inr (.inr (.inr ((q4 s_e0 s_e1 s_e2 s_e3))))))), (s_starts, .inl (cy 1, 4, .inl s_startsf)), (s_goals, .inl (cy 1, 4, .inl s_goalsf)), (s_e1, .inr (2, [.ref s_e1_fromLawn, .ref s_e1_fromDitch, .ref s_e1_ontoDitch])), (s_e1_fromLawn, .inl (cy 1, 20, .inl s_e1_fromLawnf)), (s_e1_fromDitch, .inl (cy 1, 20, .inl s_e1_fromDitchf)), (s_e1_ontoDitch, .inl (cy 1, 20, .inl s_e1_ontoDitchf)), (s_e2, .inr (2, [.ref s_e2_fromLawn, .ref s_e2_fromDitch, .ref s_e2_ontoDitch])), (s_e2_fromLawn, .inl (cy 1, 20, .inl s_e2_fromLawnf)), (s_e2_fromDitch, .inl (cy 1, 20, .inl s_e2_fromDitchf)), (s_e2_ontoDitch, .inl (cy 1, 20, .inl s_e2_ontoDitchf)), (s_e3, .inr (2, [.ref s_e3_fromLawn, .ref s_e3_fromDitch, .ref s_e3_ontoDitch])), (s_e3_fromLawn, .inl (cy 1, 20, .inl s_e3_fromLawnf)), (s_e3_fromDitch, .inl (cy 1, 20, .inl s_e3_fromDitchf)), (s_e3_ontoDitch, .inl (cy 1, 20, .inl s_e3_ontoDitchf)), (s_e0, .inr (2, [.ref s_e0_fromLawn, .ref s_e0_fromDitch, .ref s_e0_ontoDitch])), (s_e0_fromLawn, .inl (cy 1, 20, .inl s_e0_fromLawnf)), (s_e0_fromDitch, .inl (cy 1, 20, .inl s_e0_fromDitchf)), (s_e0_ontoDitch, .inl (cy 1, 20, .inl s_e0_ontoDitchf))]) hP hD rfl
          have hP := hPD.1
          have hD := hPD.2
          refine lv_if_ne (tgt := 62) hx hb dX1_worksBy_52 (by decide) (fun h_18 => ?_) (fun h_18 => ?_)
          · have h_18 : r_15.toInt ≠ 0 := c_ne h_18
            obtain ⟨x_19, ex_19⟩ : ∃ y : Int32, y = i_3 + 1 := ⟨_, rfl⟩
            have tx_19 : x_19.toInt = i_3.toInt + 1 := ti_add (A := i_3.toInt) (B := 1) ex_19 rfl rfl (by omega) (by omega)
            refine lv_iinc (v := x_19) (lv' := [(2, .int x_19), (3, .int x_7), (0, .ref h0), (1, .int p1)]) hx hb dX1_worksBy_62 hl (k := 1) rfl (by rw [ex_19]; rfl) (by decide) rfl (fun ls hl => ?_)
            refine lv_goto (tgt := 2) hx hb dX1_worksBy_65 (by decide) ?_
            exact ihlp_2 x_19 _ _ _ (by omega) (show 5 - x_19.toInt ≤ (nlp_2 : Int) by omega) (hP.sub [0, 1, 2, 3, 16, 17, 18, 19, 4, 5, 6, 7, 8, 9, 10, 11, 12, 13, 14, 15] rfl) (hD.sub [0, 1, 2, 3, 16, 17, 18, 19, 4, 5, 6, 7, 8, 9, 10, 11, 12, 13, 14, 15] (by decide +kernel) rfl) hS (lv_sub hl [0, 2, 3] rfl)
          · have h_18 : r_15.toInt = 0 := c_eq h_18
            refine lv_aload_n hx hb dX1_worksBy_55 rfl (lv_at hl 2 rfl) ?_
            refine lv_iload_n hx hb dX1_worksBy_56 rfl (lv_at hl 0 rfl) ?_
            refine r_put X kcX1 (ci := 1) rfl hP hD hS 0 rfl 5 (by decide) fX1_47 rfl rfl rfl (Nat.le_of_ble_eq_true rfl) dX1_worksBy_57 (fun H locs hP hD hS => ?_)
            have hPD := vPD (ws' := [(h0, .inr (1, [.ref s_floods, .ref s_starts, .ref s_goals, .int s_walkers, .int s_ditches, .int x_7])), (s_floods, .inl (cy 4, 4, .inr (.inr (.inr (.inr ((q4 s_e0 s_e1 s_e2 s_e3))))))), (s_starts, .inl (cy 1, 4, .inl s_startsf)), (s_goals, .inl (cy 1, 4, .inl s_goalsf)), (s_e1, .inr (2, [.ref s_e1_fromLawn, .ref s_e1_fromDitch, .ref s_e1_ontoDitch])), (s_e1_fromLawn, .inl (cy 1, 20, .inl s_e1_fromLawnf)), (s_e1_fromDitch, .inl (cy 1, 20, .inl s_e1_fromDitchf)), (s_e1_ontoDitch, .inl (cy 1, 20, .inl s_e1_ontoDitchf)), (s_e2, .inr (2, [.ref s_e2_fromLawn, .ref s_e2_fromDitch, .ref s_e2_ontoDitch])), (s_e2_fromLawn, .inl (cy 1, 20, .inl s_e2_fromLawnf)), (s_e2_fromDitch, .inl (cy 1, 20, .inl s_e2_fromDitchf)), (s_e2_ontoDitch, .inl (cy 1, 20, .inl s_e2_ontoDitchf)), (s_e3, .inr (2, [.ref s_e3_fromLawn, .ref s_e3_fromDitch, .ref s_e3_ontoDitch])), (s_e3_fromLawn, .inl (cy 1, 20, .inl s_e3_fromLawnf)), (s_e3_fromDitch, .inl (cy 1, 20, .inl s_e3_fromDitchf)), (s_e3_ontoDitch, .inl (cy 1, 20, .inl s_e3_ontoDitchf)), (s_e0, .inr (2, [.ref s_e0_fromLawn, .ref s_e0_fromDitch, .ref s_e0_ontoDitch])), (s_e0_fromLawn, .inl (cy 1, 20, .inl s_e0_fromLawnf)), (s_e0_fromDitch, .inl (cy 1, 20, .inl s_e0_fromDitchf)), (s_e0_ontoDitch, .inl (cy 1, 20, .inl s_e0_ontoDitchf))]) hP hD rfl
            have hP := hPD.1
            have hD := hPD.2
            refine lv_iconst (v := 0) hx hb dX1_worksBy_60 (by decide) ?_
            exact eI hQ X hr hlocks hP hD hS x_7 [0, 1, 2, 3, 16, 17, 18, 19, 4, 5, 6, 7, 8, 9, 10, 11, 12, 13, 14, 15] (by decide +kernel) rfl rfl (show (0 ≤ (0 : Int32).toInt ∧ (0 : Int32).toInt ≤ 1) ∧ (0 ≤ x_7.toInt ∧ x_7.toInt ≤ 3) from ⟨(by first | decide | (have h9_0 : (0 : Int32).toInt = 0 := (by decide); omega) | (refine ⟨by decide, ?_⟩; omega) | omega), (by omega)⟩) (Nat.le_of_ble_eq_true rfl) (Nat.le_of_ble_eq_true rfl) dX1_worksBy_61
        · refine q_ald (D := (dC, dI)) (cl := vwCl) hx hb hK hP 1 4 rfl rfl (i := x_7) (vin (by omega) (by omega)) (d := s_e1) (by rw [h_8]; rfl) dX1_worksBy_27 ?_
          refine lv_aload_n hx hb dX1_worksBy_28 rfl (lv_at hl 2 rfl) ?_
          refine r_get X kcX1 (ci := 1) rfl hP 0 rfl 1 (by decide) fX1_17 rfl dX1_worksBy_29 ?_
          refine lv_iload_n hx hb dX1_worksBy_32 rfl (lv_at hl 0 rfl) ?_
          refine va_iald (D := (dC, dI)) (cl := vwCl) hx hb hK hP 2 1 rfl rfl (i := x_7) (vin (by omega) (by omega)) dX1_worksBy_33 ?_
          refine lv_topi (fun x_20 ex_20 => ?_)
          have bx_20 : 0 ≤ x_20.toInt ∧ x_20.toInt ≤ 19 := rb_at hs_startsf ex_20 (by omega) (by omega)
          refine lv_aload_n hx hb dX1_worksBy_34 rfl (lv_at hl 2 rfl) ?_
          refine r_get X kcX1 (ci := 1) rfl hP 0 rfl 2 (by decide) fX1_21 rfl dX1_worksBy_35 ?_
          refine lv_iload_n hx hb dX1_worksBy_38 rfl (lv_at hl 0 rfl) ?_
          refine va_iald (D := (dC, dI)) (cl := vwCl) hx hb hK hP 3 1 rfl rfl (i := x_7) (vin (by omega) (by omega)) dX1_worksBy_39 ?_
          refine lv_topi (fun x_21 ex_21 => ?_)
          refine lv_aload_n hx hb dX1_worksBy_40 rfl (lv_at hl 2 rfl) ?_
          refine r_get X kcX1 (ci := 1) rfl hP 0 rfl 4 (by decide) fX1_44 rfl dX1_worksBy_41 ?_
          refine lv_iload_n hx hb dX1_worksBy_44 rfl (lv_at hl 3 rfl) ?_
          refine lv_iconst (v := -1) hx hb dX1_worksBy_45 (by decide) ?_
          refine lv_ixor hx hb dX1_worksBy_46 ?_
          refine lv_topi (fun x_22 ex_22 => ?_)
          refine lv_iand hx hb dX1_worksBy_47 ?_
          have dy_23 := ti_bd s_ditches
          have dy_24 := ti_bd x_22
          refine lv_topi (fun x_25 ex_25 => ?_)
          refine lv_iconst (v := 0) hx hb dX1_worksBy_48 (by decide) ?_
          refine sl_Ic (rV_I (As := [.int x_20, .int x_21, .int x_25, .int 0]) (rest := []) X hp_st (fun _ _ _ h => h) (sX2_comesTo l dC dI cy s_e1 s_e1_fromLawn s_e1_fromDitch s_e1_ontoDitch s_e1_fromLawnf s_e1_fromDitchf s_e1_ontoDitchf x_20 x_21 x_25 0 hs_e1_fromLawnf hs_e1_fromDitchf hs_e1_ontoDitchf (by first | decide | omega)) kX2_comesTo vX2_comesTo mX1_61 hP hD hS hA [8, 9, 10, 11] (by decide) rfl 0 (ci := 2) rfl rfl rfl hl rfl rfl (Nat.le_of_ble_eq_true rfl) dX1_worksBy_49 ⟨(Nat.le_of_ble_eq_true rfl), (Nat.le_of_ble_eq_true rfl)⟩ ⟨(Nat.le_of_ble_eq_true rfl), (Nat.le_of_ble_eq_true rfl)⟩) hP hD hS hA [8, 9, 10, 11] [true, true, true, true, true, true, true, true, false, false, false, false, true, true, true, true, true, true, true, true] rfl rfl rfl (fun r_26 u_28 H locs k_27 hP hD hS => ?_)
          have k_27 : (0 ≤ r_26.toInt ∧ r_26.toInt ≤ 1) := k_27
          have hPD := vPD (ws' := [(h0, .inr (1, [.ref s_floods, .ref s_starts, .ref s_goals, .int s_walkers, .int s_ditches, .int s_lost])), (s_floods, .inl (cy 4, 4, .inr (.inr (.inr (.inr ((q4 s_e0 s_e1 s_e2 s_e3))))))), (s_starts, .inl (cy 1, 4, .inl s_startsf)), (s_goals, .inl (cy 1, 4, .inl s_goalsf)), (s_e0, .inr (2, [.ref s_e0_fromLawn, .ref s_e0_fromDitch, .ref s_e0_ontoDitch])), (s_e0_fromLawn, .inl (cy 1, 20, .inl s_e0_fromLawnf)), (s_e0_fromDitch, .inl (cy 1, 20, .inl s_e0_fromDitchf)), (s_e0_ontoDitch, .inl (cy 1, 20, .inl s_e0_ontoDitchf)), (s_e2, .inr (2, [.ref s_e2_fromLawn, .ref s_e2_fromDitch, .ref s_e2_ontoDitch])), (s_e2_fromLawn, .inl (cy 1, 20, .inl s_e2_fromLawnf)), (s_e2_fromDitch, .inl (cy 1, 20, .inl s_e2_fromDitchf)), (s_e2_ontoDitch, .inl (cy 1, 20, .inl s_e2_ontoDitchf)), (s_e3, .inr (2, [.ref s_e3_fromLawn, .ref s_e3_fromDitch, .ref s_e3_ontoDitch])), (s_e3_fromLawn, .inl (cy 1, 20, .inl s_e3_fromLawnf)), (s_e3_fromDitch, .inl (cy 1, 20, .inl s_e3_fromDitchf)), (s_e3_ontoDitch, .inl (cy 1, 20, .inl s_e3_ontoDitchf)), (s_e1, .inr (2, [.ref s_e1_fromLawn, .ref s_e1_fromDitch, .ref s_e1_ontoDitch])), (s_e1_fromLawn, .inl (cy 1, 20, .inl s_e1_fromLawnf)), (s_e1_fromDitch, .inl (cy 1, 20, .inl s_e1_fromDitchf)), (s_e1_ontoDitch, .inl (cy 1, 20, .inl s_e1_ontoDitchf))]) hP hD rfl
          have hP := hPD.1
          have hD := hPD.2
          refine lv_if_ne (tgt := 62) hx hb dX1_worksBy_52 (by decide) (fun h_29 => ?_) (fun h_29 => ?_)
          · have h_29 : r_26.toInt ≠ 0 := c_ne h_29
            obtain ⟨x_30, ex_30⟩ : ∃ y : Int32, y = i_3 + 1 := ⟨_, rfl⟩
            have tx_30 : x_30.toInt = i_3.toInt + 1 := ti_add (A := i_3.toInt) (B := 1) ex_30 rfl rfl (by omega) (by omega)
            refine lv_iinc (v := x_30) (lv' := [(2, .int x_30), (3, .int x_7), (0, .ref h0), (1, .int p1)]) hx hb dX1_worksBy_62 hl (k := 1) rfl (by rw [ex_30]; rfl) (by decide) rfl (fun ls hl => ?_)
            refine lv_goto (tgt := 2) hx hb dX1_worksBy_65 (by decide) ?_
            exact ihlp_2 x_30 _ _ _ (by omega) (show 5 - x_30.toInt ≤ (nlp_2 : Int) by omega) (hP.sub [0, 1, 2, 3, 4, 5, 6, 7, 16, 17, 18, 19, 8, 9, 10, 11, 12, 13, 14, 15] rfl) (hD.sub [0, 1, 2, 3, 4, 5, 6, 7, 16, 17, 18, 19, 8, 9, 10, 11, 12, 13, 14, 15] (by decide +kernel) rfl) hS (lv_sub hl [0, 2, 3] rfl)
          · have h_29 : r_26.toInt = 0 := c_eq h_29
            refine lv_aload_n hx hb dX1_worksBy_55 rfl (lv_at hl 2 rfl) ?_
            refine lv_iload_n hx hb dX1_worksBy_56 rfl (lv_at hl 0 rfl) ?_
            refine r_put X kcX1 (ci := 1) rfl hP hD hS 0 rfl 5 (by decide) fX1_47 rfl rfl rfl (Nat.le_of_ble_eq_true rfl) dX1_worksBy_57 (fun H locs hP hD hS => ?_)
            have hPD := vPD (ws' := [(h0, .inr (1, [.ref s_floods, .ref s_starts, .ref s_goals, .int s_walkers, .int s_ditches, .int x_7])), (s_floods, .inl (cy 4, 4, .inr (.inr (.inr (.inr ((q4 s_e0 s_e1 s_e2 s_e3))))))), (s_starts, .inl (cy 1, 4, .inl s_startsf)), (s_goals, .inl (cy 1, 4, .inl s_goalsf)), (s_e0, .inr (2, [.ref s_e0_fromLawn, .ref s_e0_fromDitch, .ref s_e0_ontoDitch])), (s_e0_fromLawn, .inl (cy 1, 20, .inl s_e0_fromLawnf)), (s_e0_fromDitch, .inl (cy 1, 20, .inl s_e0_fromDitchf)), (s_e0_ontoDitch, .inl (cy 1, 20, .inl s_e0_ontoDitchf)), (s_e2, .inr (2, [.ref s_e2_fromLawn, .ref s_e2_fromDitch, .ref s_e2_ontoDitch])), (s_e2_fromLawn, .inl (cy 1, 20, .inl s_e2_fromLawnf)), (s_e2_fromDitch, .inl (cy 1, 20, .inl s_e2_fromDitchf)), (s_e2_ontoDitch, .inl (cy 1, 20, .inl s_e2_ontoDitchf)), (s_e3, .inr (2, [.ref s_e3_fromLawn, .ref s_e3_fromDitch, .ref s_e3_ontoDitch])), (s_e3_fromLawn, .inl (cy 1, 20, .inl s_e3_fromLawnf)), (s_e3_fromDitch, .inl (cy 1, 20, .inl s_e3_fromDitchf)), (s_e3_ontoDitch, .inl (cy 1, 20, .inl s_e3_ontoDitchf)), (s_e1, .inr (2, [.ref s_e1_fromLawn, .ref s_e1_fromDitch, .ref s_e1_ontoDitch])), (s_e1_fromLawn, .inl (cy 1, 20, .inl s_e1_fromLawnf)), (s_e1_fromDitch, .inl (cy 1, 20, .inl s_e1_fromDitchf)), (s_e1_ontoDitch, .inl (cy 1, 20, .inl s_e1_ontoDitchf))]) hP hD rfl
            have hP := hPD.1
            have hD := hPD.2
            refine lv_iconst (v := 0) hx hb dX1_worksBy_60 (by decide) ?_
            exact eI hQ X hr hlocks hP hD hS x_7 [0, 1, 2, 3, 4, 5, 6, 7, 16, 17, 18, 19, 8, 9, 10, 11, 12, 13, 14, 15] (by decide +kernel) rfl rfl (show (0 ≤ (0 : Int32).toInt ∧ (0 : Int32).toInt ≤ 1) ∧ (0 ≤ x_7.toInt ∧ x_7.toInt ≤ 3) from ⟨(by first | decide | (have h9_0 : (0 : Int32).toInt = 0 := (by decide); omega) | (refine ⟨by decide, ?_⟩; omega) | omega), (by omega)⟩) (Nat.le_of_ble_eq_true rfl) (Nat.le_of_ble_eq_true rfl) dX1_worksBy_61
        · refine q_ald (D := (dC, dI)) (cl := vwCl) hx hb hK hP 1 4 rfl rfl (i := x_7) (vin (by omega) (by omega)) (d := s_e2) (by rw [h_8]; rfl) dX1_worksBy_27 ?_
          refine lv_aload_n hx hb dX1_worksBy_28 rfl (lv_at hl 2 rfl) ?_
          refine r_get X kcX1 (ci := 1) rfl hP 0 rfl 1 (by decide) fX1_17 rfl dX1_worksBy_29 ?_
          refine lv_iload_n hx hb dX1_worksBy_32 rfl (lv_at hl 0 rfl) ?_
          refine va_iald (D := (dC, dI)) (cl := vwCl) hx hb hK hP 2 1 rfl rfl (i := x_7) (vin (by omega) (by omega)) dX1_worksBy_33 ?_
          refine lv_topi (fun x_31 ex_31 => ?_)
          have bx_31 : 0 ≤ x_31.toInt ∧ x_31.toInt ≤ 19 := rb_at hs_startsf ex_31 (by omega) (by omega)
          refine lv_aload_n hx hb dX1_worksBy_34 rfl (lv_at hl 2 rfl) ?_
          refine r_get X kcX1 (ci := 1) rfl hP 0 rfl 2 (by decide) fX1_21 rfl dX1_worksBy_35 ?_
          refine lv_iload_n hx hb dX1_worksBy_38 rfl (lv_at hl 0 rfl) ?_
          refine va_iald (D := (dC, dI)) (cl := vwCl) hx hb hK hP 3 1 rfl rfl (i := x_7) (vin (by omega) (by omega)) dX1_worksBy_39 ?_
          refine lv_topi (fun x_32 ex_32 => ?_)
          refine lv_aload_n hx hb dX1_worksBy_40 rfl (lv_at hl 2 rfl) ?_
          refine r_get X kcX1 (ci := 1) rfl hP 0 rfl 4 (by decide) fX1_44 rfl dX1_worksBy_41 ?_
          refine lv_iload_n hx hb dX1_worksBy_44 rfl (lv_at hl 3 rfl) ?_
          refine lv_iconst (v := -1) hx hb dX1_worksBy_45 (by decide) ?_
          refine lv_ixor hx hb dX1_worksBy_46 ?_
          refine lv_topi (fun x_33 ex_33 => ?_)
          refine lv_iand hx hb dX1_worksBy_47 ?_
          have dy_34 := ti_bd s_ditches
          have dy_35 := ti_bd x_33
          refine lv_topi (fun x_36 ex_36 => ?_)
          refine lv_iconst (v := 0) hx hb dX1_worksBy_48 (by decide) ?_
          refine sl_Ic (rV_I (As := [.int x_31, .int x_32, .int x_36, .int 0]) (rest := []) X hp_st (fun _ _ _ h => h) (sX2_comesTo l dC dI cy s_e2 s_e2_fromLawn s_e2_fromDitch s_e2_ontoDitch s_e2_fromLawnf s_e2_fromDitchf s_e2_ontoDitchf x_31 x_32 x_36 0 hs_e2_fromLawnf hs_e2_fromDitchf hs_e2_ontoDitchf (by first | decide | omega)) kX2_comesTo vX2_comesTo mX1_61 hP hD hS hA [12, 13, 14, 15] (by decide) rfl 0 (ci := 2) rfl rfl rfl hl rfl rfl (Nat.le_of_ble_eq_true rfl) dX1_worksBy_49 ⟨(Nat.le_of_ble_eq_true rfl), (Nat.le_of_ble_eq_true rfl)⟩ ⟨(Nat.le_of_ble_eq_true rfl), (Nat.le_of_ble_eq_true rfl)⟩) hP hD hS hA [12, 13, 14, 15] [true, true, true, true, true, true, true, true, true, true, true, true, false, false, false, false, true, true, true, true] rfl rfl rfl (fun r_37 u_39 H locs k_38 hP hD hS => ?_)
          have k_38 : (0 ≤ r_37.toInt ∧ r_37.toInt ≤ 1) := k_38
          have hPD := vPD (ws' := [(h0, .inr (1, [.ref s_floods, .ref s_starts, .ref s_goals, .int s_walkers, .int s_ditches, .int s_lost])), (s_floods, .inl (cy 4, 4, .inr (.inr (.inr (.inr ((q4 s_e0 s_e1 s_e2 s_e3))))))), (s_starts, .inl (cy 1, 4, .inl s_startsf)), (s_goals, .inl (cy 1, 4, .inl s_goalsf)), (s_e0, .inr (2, [.ref s_e0_fromLawn, .ref s_e0_fromDitch, .ref s_e0_ontoDitch])), (s_e0_fromLawn, .inl (cy 1, 20, .inl s_e0_fromLawnf)), (s_e0_fromDitch, .inl (cy 1, 20, .inl s_e0_fromDitchf)), (s_e0_ontoDitch, .inl (cy 1, 20, .inl s_e0_ontoDitchf)), (s_e1, .inr (2, [.ref s_e1_fromLawn, .ref s_e1_fromDitch, .ref s_e1_ontoDitch])), (s_e1_fromLawn, .inl (cy 1, 20, .inl s_e1_fromLawnf)), (s_e1_fromDitch, .inl (cy 1, 20, .inl s_e1_fromDitchf)), (s_e1_ontoDitch, .inl (cy 1, 20, .inl s_e1_ontoDitchf)), (s_e3, .inr (2, [.ref s_e3_fromLawn, .ref s_e3_fromDitch, .ref s_e3_ontoDitch])), (s_e3_fromLawn, .inl (cy 1, 20, .inl s_e3_fromLawnf)), (s_e3_fromDitch, .inl (cy 1, 20, .inl s_e3_fromDitchf)), (s_e3_ontoDitch, .inl (cy 1, 20, .inl s_e3_ontoDitchf)), (s_e2, .inr (2, [.ref s_e2_fromLawn, .ref s_e2_fromDitch, .ref s_e2_ontoDitch])), (s_e2_fromLawn, .inl (cy 1, 20, .inl s_e2_fromLawnf)), (s_e2_fromDitch, .inl (cy 1, 20, .inl s_e2_fromDitchf)), (s_e2_ontoDitch, .inl (cy 1, 20, .inl s_e2_ontoDitchf))]) hP hD rfl
          have hP := hPD.1
          have hD := hPD.2
          refine lv_if_ne (tgt := 62) hx hb dX1_worksBy_52 (by decide) (fun h_40 => ?_) (fun h_40 => ?_)
          · have h_40 : r_37.toInt ≠ 0 := c_ne h_40
            obtain ⟨x_41, ex_41⟩ : ∃ y : Int32, y = i_3 + 1 := ⟨_, rfl⟩
            have tx_41 : x_41.toInt = i_3.toInt + 1 := ti_add (A := i_3.toInt) (B := 1) ex_41 rfl rfl (by omega) (by omega)
            refine lv_iinc (v := x_41) (lv' := [(2, .int x_41), (3, .int x_7), (0, .ref h0), (1, .int p1)]) hx hb dX1_worksBy_62 hl (k := 1) rfl (by rw [ex_41]; rfl) (by decide) rfl (fun ls hl => ?_)
            refine lv_goto (tgt := 2) hx hb dX1_worksBy_65 (by decide) ?_
            exact ihlp_2 x_41 _ _ _ (by omega) (show 5 - x_41.toInt ≤ (nlp_2 : Int) by omega) (hP.sub [0, 1, 2, 3, 4, 5, 6, 7, 8, 9, 10, 11, 16, 17, 18, 19, 12, 13, 14, 15] rfl) (hD.sub [0, 1, 2, 3, 4, 5, 6, 7, 8, 9, 10, 11, 16, 17, 18, 19, 12, 13, 14, 15] (by decide +kernel) rfl) hS (lv_sub hl [0, 2, 3] rfl)
          · have h_40 : r_37.toInt = 0 := c_eq h_40
            refine lv_aload_n hx hb dX1_worksBy_55 rfl (lv_at hl 2 rfl) ?_
            refine lv_iload_n hx hb dX1_worksBy_56 rfl (lv_at hl 0 rfl) ?_
            refine r_put X kcX1 (ci := 1) rfl hP hD hS 0 rfl 5 (by decide) fX1_47 rfl rfl rfl (Nat.le_of_ble_eq_true rfl) dX1_worksBy_57 (fun H locs hP hD hS => ?_)
            have hPD := vPD (ws' := [(h0, .inr (1, [.ref s_floods, .ref s_starts, .ref s_goals, .int s_walkers, .int s_ditches, .int x_7])), (s_floods, .inl (cy 4, 4, .inr (.inr (.inr (.inr ((q4 s_e0 s_e1 s_e2 s_e3))))))), (s_starts, .inl (cy 1, 4, .inl s_startsf)), (s_goals, .inl (cy 1, 4, .inl s_goalsf)), (s_e0, .inr (2, [.ref s_e0_fromLawn, .ref s_e0_fromDitch, .ref s_e0_ontoDitch])), (s_e0_fromLawn, .inl (cy 1, 20, .inl s_e0_fromLawnf)), (s_e0_fromDitch, .inl (cy 1, 20, .inl s_e0_fromDitchf)), (s_e0_ontoDitch, .inl (cy 1, 20, .inl s_e0_ontoDitchf)), (s_e1, .inr (2, [.ref s_e1_fromLawn, .ref s_e1_fromDitch, .ref s_e1_ontoDitch])), (s_e1_fromLawn, .inl (cy 1, 20, .inl s_e1_fromLawnf)), (s_e1_fromDitch, .inl (cy 1, 20, .inl s_e1_fromDitchf)), (s_e1_ontoDitch, .inl (cy 1, 20, .inl s_e1_ontoDitchf)), (s_e3, .inr (2, [.ref s_e3_fromLawn, .ref s_e3_fromDitch, .ref s_e3_ontoDitch])), (s_e3_fromLawn, .inl (cy 1, 20, .inl s_e3_fromLawnf)), (s_e3_fromDitch, .inl (cy 1, 20, .inl s_e3_fromDitchf)), (s_e3_ontoDitch, .inl (cy 1, 20, .inl s_e3_ontoDitchf)), (s_e2, .inr (2, [.ref s_e2_fromLawn, .ref s_e2_fromDitch, .ref s_e2_ontoDitch])), (s_e2_fromLawn, .inl (cy 1, 20, .inl s_e2_fromLawnf)), (s_e2_fromDitch, .inl (cy 1, 20, .inl s_e2_fromDitchf)), (s_e2_ontoDitch, .inl (cy 1, 20, .inl s_e2_ontoDitchf))]) hP hD rfl
            have hP := hPD.1
            have hD := hPD.2
            refine lv_iconst (v := 0) hx hb dX1_worksBy_60 (by decide) ?_
            exact eI hQ X hr hlocks hP hD hS x_7 [0, 1, 2, 3, 4, 5, 6, 7, 8, 9, 10, 11, 16, 17, 18, 19, 12, 13, 14, 15] (by decide +kernel) rfl rfl (show (0 ≤ (0 : Int32).toInt ∧ (0 : Int32).toInt ≤ 1) ∧ (0 ≤ x_7.toInt ∧ x_7.toInt ≤ 3) from ⟨(by first | decide | (have h9_0 : (0 : Int32).toInt = 0 := (by decide); omega) | (refine ⟨by decide, ?_⟩; omega) | omega), (by omega)⟩) (Nat.le_of_ble_eq_true rfl) (Nat.le_of_ble_eq_true rfl) dX1_worksBy_61
        · refine q_ald (D := (dC, dI)) (cl := vwCl) hx hb hK hP 1 4 rfl rfl (i := x_7) (vin (by omega) (by omega)) (d := s_e3) (by rw [h_8]; rfl) dX1_worksBy_27 ?_
          refine lv_aload_n hx hb dX1_worksBy_28 rfl (lv_at hl 2 rfl) ?_
          refine r_get X kcX1 (ci := 1) rfl hP 0 rfl 1 (by decide) fX1_17 rfl dX1_worksBy_29 ?_
          refine lv_iload_n hx hb dX1_worksBy_32 rfl (lv_at hl 0 rfl) ?_
          refine va_iald (D := (dC, dI)) (cl := vwCl) hx hb hK hP 2 1 rfl rfl (i := x_7) (vin (by omega) (by omega)) dX1_worksBy_33 ?_
          refine lv_topi (fun x_42 ex_42 => ?_)
          have bx_42 : 0 ≤ x_42.toInt ∧ x_42.toInt ≤ 19 := rb_at hs_startsf ex_42 (by omega) (by omega)
          refine lv_aload_n hx hb dX1_worksBy_34 rfl (lv_at hl 2 rfl) ?_
          refine r_get X kcX1 (ci := 1) rfl hP 0 rfl 2 (by decide) fX1_21 rfl dX1_worksBy_35 ?_
          refine lv_iload_n hx hb dX1_worksBy_38 rfl (lv_at hl 0 rfl) ?_
          refine va_iald (D := (dC, dI)) (cl := vwCl) hx hb hK hP 3 1 rfl rfl (i := x_7) (vin (by omega) (by omega)) dX1_worksBy_39 ?_
          refine lv_topi (fun x_43 ex_43 => ?_)
          refine lv_aload_n hx hb dX1_worksBy_40 rfl (lv_at hl 2 rfl) ?_
          refine r_get X kcX1 (ci := 1) rfl hP 0 rfl 4 (by decide) fX1_44 rfl dX1_worksBy_41 ?_
          refine lv_iload_n hx hb dX1_worksBy_44 rfl (lv_at hl 3 rfl) ?_
          refine lv_iconst (v := -1) hx hb dX1_worksBy_45 (by decide) ?_
          refine lv_ixor hx hb dX1_worksBy_46 ?_
          refine lv_topi (fun x_44 ex_44 => ?_)
          refine lv_iand hx hb dX1_worksBy_47 ?_
          have dy_45 := ti_bd s_ditches
          have dy_46 := ti_bd x_44
          refine lv_topi (fun x_47 ex_47 => ?_)
          refine lv_iconst (v := 0) hx hb dX1_worksBy_48 (by decide) ?_
          refine sl_Ic (rV_I (As := [.int x_42, .int x_43, .int x_47, .int 0]) (rest := []) X hp_st (fun _ _ _ h => h) (sX2_comesTo l dC dI cy s_e3 s_e3_fromLawn s_e3_fromDitch s_e3_ontoDitch s_e3_fromLawnf s_e3_fromDitchf s_e3_ontoDitchf x_42 x_43 x_47 0 hs_e3_fromLawnf hs_e3_fromDitchf hs_e3_ontoDitchf (by first | decide | omega)) kX2_comesTo vX2_comesTo mX1_61 hP hD hS hA [16, 17, 18, 19] (by decide) rfl 0 (ci := 2) rfl rfl rfl hl rfl rfl (Nat.le_of_ble_eq_true rfl) dX1_worksBy_49 ⟨(Nat.le_of_ble_eq_true rfl), (Nat.le_of_ble_eq_true rfl)⟩ ⟨(Nat.le_of_ble_eq_true rfl), (Nat.le_of_ble_eq_true rfl)⟩) hP hD hS hA [16, 17, 18, 19] [true, true, true, true, true, true, true, true, true, true, true, true, true, true, true, true, false, false, false, false] rfl rfl rfl (fun r_48 u_50 H locs k_49 hP hD hS => ?_)
          have k_49 : (0 ≤ r_48.toInt ∧ r_48.toInt ≤ 1) := k_49
          have hPD := vPD (ws' := [(h0, .inr (1, [.ref s_floods, .ref s_starts, .ref s_goals, .int s_walkers, .int s_ditches, .int s_lost])), (s_floods, .inl (cy 4, 4, .inr (.inr (.inr (.inr ((q4 s_e0 s_e1 s_e2 s_e3))))))), (s_starts, .inl (cy 1, 4, .inl s_startsf)), (s_goals, .inl (cy 1, 4, .inl s_goalsf)), (s_e0, .inr (2, [.ref s_e0_fromLawn, .ref s_e0_fromDitch, .ref s_e0_ontoDitch])), (s_e0_fromLawn, .inl (cy 1, 20, .inl s_e0_fromLawnf)), (s_e0_fromDitch, .inl (cy 1, 20, .inl s_e0_fromDitchf)), (s_e0_ontoDitch, .inl (cy 1, 20, .inl s_e0_ontoDitchf)), (s_e1, .inr (2, [.ref s_e1_fromLawn, .ref s_e1_fromDitch, .ref s_e1_ontoDitch])), (s_e1_fromLawn, .inl (cy 1, 20, .inl s_e1_fromLawnf)), (s_e1_fromDitch, .inl (cy 1, 20, .inl s_e1_fromDitchf)), (s_e1_ontoDitch, .inl (cy 1, 20, .inl s_e1_ontoDitchf)), (s_e2, .inr (2, [.ref s_e2_fromLawn, .ref s_e2_fromDitch, .ref s_e2_ontoDitch])), (s_e2_fromLawn, .inl (cy 1, 20, .inl s_e2_fromLawnf)), (s_e2_fromDitch, .inl (cy 1, 20, .inl s_e2_fromDitchf)), (s_e2_ontoDitch, .inl (cy 1, 20, .inl s_e2_ontoDitchf)), (s_e3, .inr (2, [.ref s_e3_fromLawn, .ref s_e3_fromDitch, .ref s_e3_ontoDitch])), (s_e3_fromLawn, .inl (cy 1, 20, .inl s_e3_fromLawnf)), (s_e3_fromDitch, .inl (cy 1, 20, .inl s_e3_fromDitchf)), (s_e3_ontoDitch, .inl (cy 1, 20, .inl s_e3_ontoDitchf))]) hP hD rfl
          have hP := hPD.1
          have hD := hPD.2
          refine lv_if_ne (tgt := 62) hx hb dX1_worksBy_52 (by decide) (fun h_51 => ?_) (fun h_51 => ?_)
          · have h_51 : r_48.toInt ≠ 0 := c_ne h_51
            obtain ⟨x_52, ex_52⟩ : ∃ y : Int32, y = i_3 + 1 := ⟨_, rfl⟩
            have tx_52 : x_52.toInt = i_3.toInt + 1 := ti_add (A := i_3.toInt) (B := 1) ex_52 rfl rfl (by omega) (by omega)
            refine lv_iinc (v := x_52) (lv' := [(2, .int x_52), (3, .int x_7), (0, .ref h0), (1, .int p1)]) hx hb dX1_worksBy_62 hl (k := 1) rfl (by rw [ex_52]; rfl) (by decide) rfl (fun ls hl => ?_)
            refine lv_goto (tgt := 2) hx hb dX1_worksBy_65 (by decide) ?_
            exact ihlp_2 x_52 _ _ _ (by omega) (show 5 - x_52.toInt ≤ (nlp_2 : Int) by omega) hP hD hS (lv_sub hl [0, 2, 3] rfl)
          · have h_51 : r_48.toInt = 0 := c_eq h_51
            refine lv_aload_n hx hb dX1_worksBy_55 rfl (lv_at hl 2 rfl) ?_
            refine lv_iload_n hx hb dX1_worksBy_56 rfl (lv_at hl 0 rfl) ?_
            refine r_put X kcX1 (ci := 1) rfl hP hD hS 0 rfl 5 (by decide) fX1_47 rfl rfl rfl (Nat.le_of_ble_eq_true rfl) dX1_worksBy_57 (fun H locs hP hD hS => ?_)
            have hPD := vPD (ws' := [(h0, .inr (1, [.ref s_floods, .ref s_starts, .ref s_goals, .int s_walkers, .int s_ditches, .int x_7])), (s_floods, .inl (cy 4, 4, .inr (.inr (.inr (.inr ((q4 s_e0 s_e1 s_e2 s_e3))))))), (s_starts, .inl (cy 1, 4, .inl s_startsf)), (s_goals, .inl (cy 1, 4, .inl s_goalsf)), (s_e0, .inr (2, [.ref s_e0_fromLawn, .ref s_e0_fromDitch, .ref s_e0_ontoDitch])), (s_e0_fromLawn, .inl (cy 1, 20, .inl s_e0_fromLawnf)), (s_e0_fromDitch, .inl (cy 1, 20, .inl s_e0_fromDitchf)), (s_e0_ontoDitch, .inl (cy 1, 20, .inl s_e0_ontoDitchf)), (s_e1, .inr (2, [.ref s_e1_fromLawn, .ref s_e1_fromDitch, .ref s_e1_ontoDitch])), (s_e1_fromLawn, .inl (cy 1, 20, .inl s_e1_fromLawnf)), (s_e1_fromDitch, .inl (cy 1, 20, .inl s_e1_fromDitchf)), (s_e1_ontoDitch, .inl (cy 1, 20, .inl s_e1_ontoDitchf)), (s_e2, .inr (2, [.ref s_e2_fromLawn, .ref s_e2_fromDitch, .ref s_e2_ontoDitch])), (s_e2_fromLawn, .inl (cy 1, 20, .inl s_e2_fromLawnf)), (s_e2_fromDitch, .inl (cy 1, 20, .inl s_e2_fromDitchf)), (s_e2_ontoDitch, .inl (cy 1, 20, .inl s_e2_ontoDitchf)), (s_e3, .inr (2, [.ref s_e3_fromLawn, .ref s_e3_fromDitch, .ref s_e3_ontoDitch])), (s_e3_fromLawn, .inl (cy 1, 20, .inl s_e3_fromLawnf)), (s_e3_fromDitch, .inl (cy 1, 20, .inl s_e3_fromDitchf)), (s_e3_ontoDitch, .inl (cy 1, 20, .inl s_e3_ontoDitchf))]) hP hD rfl
            have hP := hPD.1
            have hD := hPD.2
            refine lv_iconst (v := 0) hx hb dX1_worksBy_60 (by decide) ?_
            exact eI hQ X hr hlocks hP hD hS x_7 [0, 1, 2, 3, 4, 5, 6, 7, 8, 9, 10, 11, 12, 13, 14, 15, 16, 17, 18, 19] (by decide +kernel) rfl rfl (show (0 ≤ (0 : Int32).toInt ∧ (0 : Int32).toInt ≤ 1) ∧ (0 ≤ x_7.toInt ∧ x_7.toInt ≤ 3) from ⟨(by first | decide | (have h9_0 : (0 : Int32).toInt = 0 := (by decide); omega) | (refine ⟨by decide, ?_⟩; omega) | omega), (by omega)⟩) (Nat.le_of_ble_eq_true rfl) (Nat.le_of_ble_eq_true rfl) dX1_worksBy_61
  exact lp_2 5 0 _ _ _ (by decide) (show 5 - 0 ≤ ((5 : Nat) : Int) by omega) hP hD hS hl
set_option maxHeartbeats 4000000 in
set_option maxRecDepth 100000 in
theorem sX8_leastOf_c0 (l : Launch) (dC : Nat → ClassId) (dI : Nat → Nat → Nat) (cy : Nat → ClassId) (h0 : Nat) (s_flood : Nat) (s_ditches : Int32) (s_from : Int32) (s_to : Int32) (s_flood_fromLawn : Nat) (s_flood_fromDitch : Nat) (s_flood_ontoDitch : Nat) (s_flood_fromLawnf : Nat → Int32) (s_flood_fromDitchf : Nat → Int32) (s_flood_ontoDitchf : Nat → Int32) (p1 : Int32) (p3 : Int32) (p4 : Int32) (hs_from : 0 ≤ s_from.toInt ∧ s_from.toInt ≤ 19) (hs_flood_fromLawnf : rb s_flood_fromLawnf 20 0 1048575) (hs_flood_fromDitchf : rb s_flood_fromDitchf 20 0 1048575) (hs_flood_ontoDitchf : rb s_flood_ontoDitchf 20 0 1048575) (hp3 : p3.toInt ≤ 20) : ctI l dC dI cy hp yX8_leastOf cX8_leastOf 7 .int ({ frames := 4, cells := 0, slots := 0, locals := 95 } : Room) [.ref h0, .int p1, .int 0, .int p3, .int p4] [(h0, .inr (0, [.ref s_flood, .int s_ditches, .int s_from, .int s_to])), (s_flood, .inr (2, [.ref s_flood_fromLawn, .ref s_flood_fromDitch, .ref s_flood_ontoDitch])), (s_flood_fromLawn, .inl (cy 1, 20, .inl s_flood_fromLawnf)), (s_flood_fromDitch, .inl (cy 1, 20, .inl s_flood_fromDitchf)), (s_flood_ontoDitch, .inl (cy 1, 20, .inl s_flood_ontoDitchf))] (S := Unit) (fun r _ => True) (fun _ => [(h0, .inr (0, [.ref s_flood, .int s_ditches, .int s_from, .int s_to])), (s_flood, .inr (2, [.ref s_flood_fromLawn, .ref s_flood_fromDitch, .ref s_flood_ontoDitch])), (s_flood_fromLawn, .inl (cy 1, 20, .inl s_flood_fromLawnf)), (s_flood_fromDitch, .inl (cy 1, 20, .inl s_flood_fromDitchf)), (s_flood_ontoDitch, .inl (cy 1, 20, .inl s_flood_ontoDitchf))]) := by
  refine ctI.of (by decide +kernel) (Nat.le_of_ble_eq_true rfl) ?_
  intro p e s m args below meth c A ls Q hQ X hr hlocks hin hA hP hD hS hl
  have hx := X.1
  have hb := X.2.1
  have hK := X.2.2.2.2.2.1
  have hl : lv_has ls 7 [(0, .ref h0), (1, .int p1), (2, .int 0), (3, .int p3), (4, .int p4)] := hl
  have dy_1 := ti_bd p1
  have dy_2 := ti_bd p3
  have dy_3 := ti_bd p4
  refine lv_iload_n hx hb dX8_leastOf_0 rfl (lv_at hl 2 rfl) ?_
  refine lv_if_gt (tgt := 21) hx hb dX8_leastOf_1 (by decide) (fun h_4 => absurd h_4 (by decide)) (fun _ => ?_)
  refine lv_aload_n hx hb dX8_leastOf_4 rfl (lv_at hl 0 rfl) ?_
  refine lv_iload hx hb dX8_leastOf_5 (lv_at hl 4 rfl) ?_
  refine sl_Ic (rU_I (wc := [(h0, .inr (0, [.ref s_flood, .int s_ditches, .int s_from, .int s_to])), (s_flood, .inr (2, [.ref s_flood_fromLawn, .ref s_flood_fromDitch, .ref s_flood_ontoDitch])), (s_flood_fromLawn, .inl (cy 1, 20, .inl s_flood_fromLawnf)), (s_flood_fromDitch, .inl (cy 1, 20, .inl s_flood_fromDitchf)), (s_flood_ontoDitch, .inl (cy 1, 20, .inl s_flood_ontoDitchf))]) (As := [.int p4]) (rest := []) X hp_st (fun _ _ _ h => h) (sX0_worksBy l dC dI cy h0 s_flood s_ditches s_from s_to s_flood_fromLawn s_flood_fromDitch s_flood_ontoDitch s_flood_fromLawnf s_flood_fromDitchf s_flood_ontoDitchf p4 hs_from hs_flood_fromLawnf hs_flood_fromDitchf hs_flood_ontoDitchf) kX0_worksBy u_RX0_worksBy w_988 hP hD hS hA [0, 1, 2, 3, 4] (by decide) rfl 0 (ci := 0) rfl rfl rfl hl rfl rfl (Nat.le_of_ble_eq_true rfl) dX8_leastOf_7 ⟨(Nat.le_of_ble_eq_true rfl), (Nat.le_of_ble_eq_true rfl)⟩ ⟨(Nat.le_of_ble_eq_true rfl), (Nat.le_of_ble_eq_true rfl)⟩) hP hD hS hA [0, 1, 2, 3, 4] [false, false, false, false, false] rfl rfl rfl (fun r_5 u_7 H locs k_6 hP hD hS => ?_)
  have k_6 : (0 ≤ r_5.toInt ∧ r_5.toInt ≤ 1) := k_6
  have hPD := vPD (ws' := [(h0, .inr (0, [.ref s_flood, .int s_ditches, .int s_from, .int s_to])), (s_flood, .inr (2, [.ref s_flood_fromLawn, .ref s_flood_fromDitch, .ref s_flood_ontoDitch])), (s_flood_fromLawn, .inl (cy 1, 20, .inl s_flood_fromLawnf)), (s_flood_fromDitch, .inl (cy 1, 20, .inl s_flood_fromDitchf)), (s_flood_ontoDitch, .inl (cy 1, 20, .inl s_flood_ontoDitchf))]) hP hD rfl
  have hP := hPD.1
  have hD := hPD.2
  refine lv_if_eq (tgt := 18) hx hb dX8_leastOf_10 (by decide) (fun h_8 => ?_) (fun h_8 => ?_)
  · have h_8 : r_5.toInt = 0 := c_eq h_8
    refine lv_bipush (v := -2) hx hb dX8_leastOf_18 (by decide) ?_
    exact eI hQ X hr hlocks hP hD hS () [0, 1, 2, 3, 4] (by decide) rfl rfl trivial (Nat.le_of_ble_eq_true rfl) (Nat.le_of_ble_eq_true rfl) dX8_leastOf_20
  · have h_8 : r_5.toInt ≠ 0 := c_ne h_8
    refine lv_iload hx hb dX8_leastOf_13 (lv_at hl 4 rfl) ?_
    refine lv_goto (tgt := 20) hx hb dX8_leastOf_15 (by decide) ?_
    exact eI hQ X hr hlocks hP hD hS () [0, 1, 2, 3, 4] (by decide) rfl rfl trivial (Nat.le_of_ble_eq_true rfl) (Nat.le_of_ble_eq_true rfl) dX8_leastOf_20
set_option maxHeartbeats 4000000 in
set_option maxRecDepth 100000 in
theorem sX8_leastOf_c1 (l : Launch) (dC : Nat → ClassId) (dI : Nat → Nat → Nat) (cy : Nat → ClassId) (h0 : Nat) (s_flood : Nat) (s_ditches : Int32) (s_from : Int32) (s_to : Int32) (s_flood_fromLawn : Nat) (s_flood_fromDitch : Nat) (s_flood_ontoDitch : Nat) (s_flood_fromLawnf : Nat → Int32) (s_flood_fromDitchf : Nat → Int32) (s_flood_ontoDitchf : Nat → Int32) (p1 : Int32) (p3 : Int32) (p4 : Int32) (hs_from : 0 ≤ s_from.toInt ∧ s_from.toInt ≤ 19) (hs_flood_fromLawnf : rb s_flood_fromLawnf 20 0 1048575) (hs_flood_fromDitchf : rb s_flood_fromDitchf 20 0 1048575) (hs_flood_ontoDitchf : rb s_flood_ontoDitchf 20 0 1048575) (hp3 : p3.toInt ≤ 20) : ctI l dC dI cy hp yX8_leastOf cX8_leastOf 7 .int ({ frames := 5, cells := 0, slots := 0, locals := 121 } : Room) [.ref h0, .int p1, .int 1, .int p3, .int p4] [(h0, .inr (0, [.ref s_flood, .int s_ditches, .int s_from, .int s_to])), (s_flood, .inr (2, [.ref s_flood_fromLawn, .ref s_flood_fromDitch, .ref s_flood_ontoDitch])), (s_flood_fromLawn, .inl (cy 1, 20, .inl s_flood_fromLawnf)), (s_flood_fromDitch, .inl (cy 1, 20, .inl s_flood_fromDitchf)), (s_flood_ontoDitch, .inl (cy 1, 20, .inl s_flood_ontoDitchf))] (S := Unit) (fun r _ => True) (fun _ => [(h0, .inr (0, [.ref s_flood, .int s_ditches, .int s_from, .int s_to])), (s_flood, .inr (2, [.ref s_flood_fromLawn, .ref s_flood_fromDitch, .ref s_flood_ontoDitch])), (s_flood_fromLawn, .inl (cy 1, 20, .inl s_flood_fromLawnf)), (s_flood_fromDitch, .inl (cy 1, 20, .inl s_flood_fromDitchf)), (s_flood_ontoDitch, .inl (cy 1, 20, .inl s_flood_ontoDitchf))]) := by
  refine ctI.of (by decide +kernel) (Nat.le_of_ble_eq_true rfl) ?_
  intro p e s m args below meth c A ls Q hQ X hr hlocks hin hA hP hD hS hl
  have hx := X.1
  have hb := X.2.1
  have hK := X.2.2.2.2.2.1
  have hl : lv_has ls 7 [(0, .ref h0), (1, .int p1), (2, .int 1), (3, .int p3), (4, .int p4)] := hl
  have dy_1 := ti_bd p1
  have dy_2 := ti_bd p3
  have dy_3 := ti_bd p4
  refine lv_iload_n hx hb dX8_leastOf_0 rfl (lv_at hl 2 rfl) ?_
  refine lv_if_gt (tgt := 21) hx hb dX8_leastOf_1 (by decide) (fun _ => ?_) (fun h_4 => absurd (by decide) h_4)
  refine lv_iconst (v := 0) hx hb dX8_leastOf_21 (by decide) ?_
  refine lv_istore (lv' := [(5, .int 0), (0, .ref h0), (1, .int p1), (2, .int 1), (3, .int p3), (4, .int p4)]) hx hb dX8_leastOf_22 hl (by decide) rfl (fun ls hl => ?_)
  have lp_5 : ∀ (nlp_5 : Nat) (i_6 : Int32) (H : Heap) (locs : List Loc) (ls : Array Slot), (0 ≤ i_6.toInt ∧ i_6.toInt ≤ 20) → (21 - i_6.toInt ≤ (nlp_5 : Int)) → va_P (dC, dI) vwCl [(h0, .inr (0, [.ref s_flood, .int s_ditches, .int s_from, .int s_to])), (s_flood, .inr (2, [.ref s_flood_fromLawn, .ref s_flood_fromDitch, .ref s_flood_ontoDitch])), (s_flood_fromLawn, .inl (cy 1, 20, .inl s_flood_fromLawnf)), (s_flood_fromDitch, .inl (cy 1, 20, .inl s_flood_fromDitchf)), (s_flood_ontoDitch, .inl (cy 1, 20, .inl s_flood_ontoDitchf))] H → va_D A [(h0, .inr (0, [.ref s_flood, .int s_ditches, .int s_from, .int s_to])), (s_flood, .inr (2, [.ref s_flood_fromLawn, .ref s_flood_fromDitch, .ref s_flood_ontoDitch])), (s_flood_fromLawn, .inl (cy 1, 20, .inl s_flood_fromLawnf)), (s_flood_fromDitch, .inl (cy 1, 20, .inl s_flood_fromDitchf)), (s_flood_ontoDitch, .inl (cy 1, 20, .inl s_flood_ontoDitchf))] → va_S A s.heap H locs → lv_has ls 7 [(5, .int i_6), (0, .ref h0), (1, .int p1), (2, .int 1), (3, .int p3), (4, .int p4)] → W p l e ({ frames := 5, cells := 0, slots := 0, locals := 121 } : Room) s m args below meth c H locs 0 0 Q (F0 m 24 ls []) := by
    intro nlp_5
    induction nlp_5 with
    | zero =>
      intro i_6 H locs ls b_7 hmlp_5 hP hD hS hl
      exfalso
      have di_6 := ti_bd i_6
      omega
    | succ nlp_5 ihlp_5 =>
      intro i_6 H locs ls b_7 hmlp_5 hP hD hS hl
      refine lv_iload hx hb dX8_leastOf_24 (lv_at hl 0 rfl) ?_
      refine lv_iload_n hx hb dX8_leastOf_26 rfl (lv_at hl 4 rfl) ?_
      refine lv_icmp_ge (tgt := 75) hx hb dX8_leastOf_27 (by decide) (fun h_8 => ?_) (fun h_8 => ?_)
      · have h_8 : p3.toInt ≤ i_6.toInt := c_le h_8
        refine lv_bipush (v := -2) hx hb dX8_leastOf_75 (by decide) ?_
        exact eI hQ X hr hlocks hP hD hS () [0, 1, 2, 3, 4] (by decide) rfl rfl trivial (Nat.le_of_ble_eq_true rfl) (Nat.le_of_ble_eq_true rfl) dX8_leastOf_77
      · have h_8 : i_6.toInt < p3.toInt := c_nle h_8
        refine lv_iload_n hx hb dX8_leastOf_30 rfl (lv_at hl 2 rfl) ?_
        refine lv_iload hx hb dX8_leastOf_31 (lv_at hl 0 rfl) ?_
        refine lv_ishr hx hb dX8_leastOf_33 ?_
        refine lv_topi (fun x_9 ex_9 => ?_)
        refine lv_iconst (v := 1) hx hb dX8_leastOf_34 (by decide) ?_
        refine lv_iand hx hb dX8_leastOf_35 ?_
        have dy_10 := ti_bd x_9
        refine lv_topi (fun x_11 ex_11 => ?_)
        have tx_11 : x_11.toInt = 0 ∨ x_11.toInt = 1 := ti_and1 ex_11
        refine lv_iconst (v := 1) hx hb dX8_leastOf_36 (by decide) ?_
        refine lv_icmp_ne (tgt := 69) hx hb dX8_leastOf_37 (by decide) (fun h_12 => ?_) (fun h_12 => ?_)
        · have h_12 : x_11.toInt ≠ 1 := c_ne h_12
          obtain ⟨x_13, ex_13⟩ : ∃ y : Int32, y = i_6 + 1 := ⟨_, rfl⟩
          have tx_13 : x_13.toInt = i_6.toInt + 1 := ti_add (A := i_6.toInt) (B := 1) ex_13 rfl rfl (by omega) (by omega)
          refine lv_iinc (v := x_13) (lv' := [(5, .int x_13), (0, .ref h0), (1, .int p1), (2, .int 1), (3, .int p3), (4, .int p4)]) hx hb dX8_leastOf_69 hl (k := 0) rfl (by rw [ex_13]; rfl) (by decide) rfl (fun ls hl => ?_)
          refine lv_goto (tgt := 24) hx hb dX8_leastOf_72 (by decide) ?_
          exact ihlp_5 x_13 _ _ _ (by omega) (show 21 - x_13.toInt ≤ (nlp_5 : Int) by omega) hP hD hS (lv_sub hl [0, 1, 2, 3, 4, 5] rfl)
        · have h_12 : x_11.toInt = 1 := c_eq h_12
          refine lv_aload_n hx hb dX8_leastOf_40 rfl (lv_at hl 1 rfl) ?_
          refine lv_iload_n hx hb dX8_leastOf_41 rfl (lv_at hl 2 rfl) ?_
          refine lv_iload_n hx hb dX8_leastOf_42 rfl (lv_at hl 3 rfl) ?_
          refine lv_iconst (v := 1) hx hb dX8_leastOf_43 (by decide) ?_
          refine lv_isub hx hb dX8_leastOf_44 ?_
          refine lv_topi (fun x_14 ex_14 => ?_)
          have ex_14 : x_14 = 0 := ex_14.trans (by decide)
          subst ex_14
          refine lv_iload hx hb dX8_leastOf_45 (lv_at hl 0 rfl) ?_
          refine lv_iload hx hb dX8_leastOf_47 (lv_at hl 5 rfl) ?_
          refine lv_iconst (v := 1) hx hb dX8_leastOf_49 (by decide) ?_
          refine lv_iload hx hb dX8_leastOf_50 (lv_at hl 0 rfl) ?_
          refine lv_ishl hx hb dX8_leastOf_52 ?_
          refine lv_topi (fun x_15 ex_15 => ?_)
          have tx_15 : 0 ≤ x_15.toInt ∧ x_15.toInt ≤ 1048575 := ti_shl1 ex_15 (by omega) (by omega)
          refine lv_ior hx hb dX8_leastOf_53 ?_
          refine lv_topi (fun x_16 ex_16 => ?_)
          refine sl_Ic (rU_I (wc := [(h0, .inr (0, [.ref s_flood, .int s_ditches, .int s_from, .int s_to])), (s_flood, .inr (2, [.ref s_flood_fromLawn, .ref s_flood_fromDitch, .ref s_flood_ontoDitch])), (s_flood_fromLawn, .inl (cy 1, 20, .inl s_flood_fromLawnf)), (s_flood_fromDitch, .inl (cy 1, 20, .inl s_flood_fromDitchf)), (s_flood_ontoDitch, .inl (cy 1, 20, .inl s_flood_ontoDitchf))]) (As := [.int p1, .int 0, .int i_6, .int x_16]) (rest := []) X hp_st (fun _ _ _ h => h) (sX8_leastOf_c0 l dC dI cy h0 s_flood s_ditches s_from s_to s_flood_fromLawn s_flood_fromDitch s_flood_ontoDitch s_flood_fromLawnf s_flood_fromDitchf s_flood_ontoDitchf p1 i_6 x_16 hs_from hs_flood_fromLawnf hs_flood_fromDitchf hs_flood_ontoDitchf (by first | decide | omega)) kX8_leastOf u_RX0_leastOf w_984 hP hD hS hA [0, 1, 2, 3, 4] (by decide) rfl 0 (ci := 0) rfl rfl rfl hl rfl rfl (Nat.le_of_ble_eq_true rfl) dX8_leastOf_54 ⟨(Nat.le_of_ble_eq_true rfl), (Nat.le_of_ble_eq_true rfl)⟩ ⟨(Nat.le_of_ble_eq_true rfl), (Nat.le_of_ble_eq_true rfl)⟩) hP hD hS hA [0, 1, 2, 3, 4] [false, false, false, false, false] rfl rfl rfl (fun r_17 u_19 H locs k_18 hP hD hS => ?_)
          have hPD := vPD (ws' := [(h0, .inr (0, [.ref s_flood, .int s_ditches, .int s_from, .int s_to])), (s_flood, .inr (2, [.ref s_flood_fromLawn, .ref s_flood_fromDitch, .ref s_flood_ontoDitch])), (s_flood_fromLawn, .inl (cy 1, 20, .inl s_flood_fromLawnf)), (s_flood_fromDitch, .inl (cy 1, 20, .inl s_flood_fromDitchf)), (s_flood_ontoDitch, .inl (cy 1, 20, .inl s_flood_ontoDitchf))]) hP hD rfl
          have hP := hPD.1
          have hD := hPD.2
          refine lv_istore (lv' := [(6, .int r_17), (5, .int i_6), (0, .ref h0), (1, .int p1), (2, .int 1), (3, .int p3), (4, .int p4)]) hx hb dX8_leastOf_57 hl (by decide) rfl (fun ls hl => ?_)
          refine lv_iload hx hb dX8_leastOf_59 (lv_at hl 0 rfl) ?_
          refine lv_bipush (v := -2) hx hb dX8_leastOf_61 (by decide) ?_
          refine lv_icmp_eq (tgt := 69) hx hb dX8_leastOf_63 (by decide) (fun h_20 => ?_) (fun h_20 => ?_)
          · have h_20 : r_17.toInt = (-2) := c_eq h_20
            obtain ⟨x_21, ex_21⟩ : ∃ y : Int32, y = i_6 + 1 := ⟨_, rfl⟩
            have tx_21 : x_21.toInt = i_6.toInt + 1 := ti_add (A := i_6.toInt) (B := 1) ex_21 rfl rfl (by omega) (by omega)
            refine lv_iinc (v := x_21) (lv' := [(5, .int x_21), (6, .int r_17), (0, .ref h0), (1, .int p1), (2, .int 1), (3, .int p3), (4, .int p4)]) hx hb dX8_leastOf_69 hl (k := 1) rfl (by rw [ex_21]; rfl) (by decide) rfl (fun ls hl => ?_)
            refine lv_goto (tgt := 24) hx hb dX8_leastOf_72 (by decide) ?_
            exact ihlp_5 x_21 _ _ _ (by omega) (show 21 - x_21.toInt ≤ (nlp_5 : Int) by omega) hP hD hS (lv_sub hl [0, 2, 3, 4, 5, 6] rfl)
          · have h_20 : r_17.toInt ≠ (-2) := c_ne h_20
            refine lv_iload hx hb dX8_leastOf_66 (lv_at hl 0 rfl) ?_
            exact eI hQ X hr hlocks hP hD hS () [0, 1, 2, 3, 4] (by decide) rfl rfl trivial (Nat.le_of_ble_eq_true rfl) (Nat.le_of_ble_eq_true rfl) dX8_leastOf_68
  exact lp_5 21 0 _ _ _ (by decide) (show 21 - 0 ≤ ((21 : Nat) : Int) by omega) hP hD hS hl
set_option maxHeartbeats 4000000 in
set_option maxRecDepth 100000 in
theorem sX8_leastOf_c2 (l : Launch) (dC : Nat → ClassId) (dI : Nat → Nat → Nat) (cy : Nat → ClassId) (h0 : Nat) (s_flood : Nat) (s_ditches : Int32) (s_from : Int32) (s_to : Int32) (s_flood_fromLawn : Nat) (s_flood_fromDitch : Nat) (s_flood_ontoDitch : Nat) (s_flood_fromLawnf : Nat → Int32) (s_flood_fromDitchf : Nat → Int32) (s_flood_ontoDitchf : Nat → Int32) (p1 : Int32) (p3 : Int32) (p4 : Int32) (hs_from : 0 ≤ s_from.toInt ∧ s_from.toInt ≤ 19) (hs_flood_fromLawnf : rb s_flood_fromLawnf 20 0 1048575) (hs_flood_fromDitchf : rb s_flood_fromDitchf 20 0 1048575) (hs_flood_ontoDitchf : rb s_flood_ontoDitchf 20 0 1048575) (hp3 : p3.toInt ≤ 20) : ctI l dC dI cy hp yX8_leastOf cX8_leastOf 7 .int ({ frames := 6, cells := 0, slots := 0, locals := 147 } : Room) [.ref h0, .int p1, .int 2, .int p3, .int p4] [(h0, .inr (0, [.ref s_flood, .int s_ditches, .int s_from, .int s_to])), (s_flood, .inr (2, [.ref s_flood_fromLawn, .ref s_flood_fromDitch, .ref s_flood_ontoDitch])), (s_flood_fromLawn, .inl (cy 1, 20, .inl s_flood_fromLawnf)), (s_flood_fromDitch, .inl (cy 1, 20, .inl s_flood_fromDitchf)), (s_flood_ontoDitch, .inl (cy 1, 20, .inl s_flood_ontoDitchf))] (S := Unit) (fun r _ => True) (fun _ => [(h0, .inr (0, [.ref s_flood, .int s_ditches, .int s_from, .int s_to])), (s_flood, .inr (2, [.ref s_flood_fromLawn, .ref s_flood_fromDitch, .ref s_flood_ontoDitch])), (s_flood_fromLawn, .inl (cy 1, 20, .inl s_flood_fromLawnf)), (s_flood_fromDitch, .inl (cy 1, 20, .inl s_flood_fromDitchf)), (s_flood_ontoDitch, .inl (cy 1, 20, .inl s_flood_ontoDitchf))]) := by
  refine ctI.of (by decide +kernel) (Nat.le_of_ble_eq_true rfl) ?_
  intro p e s m args below meth c A ls Q hQ X hr hlocks hin hA hP hD hS hl
  have hx := X.1
  have hb := X.2.1
  have hK := X.2.2.2.2.2.1
  have hl : lv_has ls 7 [(0, .ref h0), (1, .int p1), (2, .int 2), (3, .int p3), (4, .int p4)] := hl
  have dy_1 := ti_bd p1
  have dy_2 := ti_bd p3
  have dy_3 := ti_bd p4
  refine lv_iload_n hx hb dX8_leastOf_0 rfl (lv_at hl 2 rfl) ?_
  refine lv_if_gt (tgt := 21) hx hb dX8_leastOf_1 (by decide) (fun _ => ?_) (fun h_4 => absurd (by decide) h_4)
  refine lv_iconst (v := 0) hx hb dX8_leastOf_21 (by decide) ?_
  refine lv_istore (lv' := [(5, .int 0), (0, .ref h0), (1, .int p1), (2, .int 2), (3, .int p3), (4, .int p4)]) hx hb dX8_leastOf_22 hl (by decide) rfl (fun ls hl => ?_)
  have lp_5 : ∀ (nlp_5 : Nat) (i_6 : Int32) (H : Heap) (locs : List Loc) (ls : Array Slot), (0 ≤ i_6.toInt ∧ i_6.toInt ≤ 20) → (21 - i_6.toInt ≤ (nlp_5 : Int)) → va_P (dC, dI) vwCl [(h0, .inr (0, [.ref s_flood, .int s_ditches, .int s_from, .int s_to])), (s_flood, .inr (2, [.ref s_flood_fromLawn, .ref s_flood_fromDitch, .ref s_flood_ontoDitch])), (s_flood_fromLawn, .inl (cy 1, 20, .inl s_flood_fromLawnf)), (s_flood_fromDitch, .inl (cy 1, 20, .inl s_flood_fromDitchf)), (s_flood_ontoDitch, .inl (cy 1, 20, .inl s_flood_ontoDitchf))] H → va_D A [(h0, .inr (0, [.ref s_flood, .int s_ditches, .int s_from, .int s_to])), (s_flood, .inr (2, [.ref s_flood_fromLawn, .ref s_flood_fromDitch, .ref s_flood_ontoDitch])), (s_flood_fromLawn, .inl (cy 1, 20, .inl s_flood_fromLawnf)), (s_flood_fromDitch, .inl (cy 1, 20, .inl s_flood_fromDitchf)), (s_flood_ontoDitch, .inl (cy 1, 20, .inl s_flood_ontoDitchf))] → va_S A s.heap H locs → lv_has ls 7 [(5, .int i_6), (0, .ref h0), (1, .int p1), (2, .int 2), (3, .int p3), (4, .int p4)] → W p l e ({ frames := 6, cells := 0, slots := 0, locals := 147 } : Room) s m args below meth c H locs 0 0 Q (F0 m 24 ls []) := by
    intro nlp_5
    induction nlp_5 with
    | zero =>
      intro i_6 H locs ls b_7 hmlp_5 hP hD hS hl
      exfalso
      have di_6 := ti_bd i_6
      omega
    | succ nlp_5 ihlp_5 =>
      intro i_6 H locs ls b_7 hmlp_5 hP hD hS hl
      refine lv_iload hx hb dX8_leastOf_24 (lv_at hl 0 rfl) ?_
      refine lv_iload_n hx hb dX8_leastOf_26 rfl (lv_at hl 4 rfl) ?_
      refine lv_icmp_ge (tgt := 75) hx hb dX8_leastOf_27 (by decide) (fun h_8 => ?_) (fun h_8 => ?_)
      · have h_8 : p3.toInt ≤ i_6.toInt := c_le h_8
        refine lv_bipush (v := -2) hx hb dX8_leastOf_75 (by decide) ?_
        exact eI hQ X hr hlocks hP hD hS () [0, 1, 2, 3, 4] (by decide) rfl rfl trivial (Nat.le_of_ble_eq_true rfl) (Nat.le_of_ble_eq_true rfl) dX8_leastOf_77
      · have h_8 : i_6.toInt < p3.toInt := c_nle h_8
        refine lv_iload_n hx hb dX8_leastOf_30 rfl (lv_at hl 2 rfl) ?_
        refine lv_iload hx hb dX8_leastOf_31 (lv_at hl 0 rfl) ?_
        refine lv_ishr hx hb dX8_leastOf_33 ?_
        refine lv_topi (fun x_9 ex_9 => ?_)
        refine lv_iconst (v := 1) hx hb dX8_leastOf_34 (by decide) ?_
        refine lv_iand hx hb dX8_leastOf_35 ?_
        have dy_10 := ti_bd x_9
        refine lv_topi (fun x_11 ex_11 => ?_)
        have tx_11 : x_11.toInt = 0 ∨ x_11.toInt = 1 := ti_and1 ex_11
        refine lv_iconst (v := 1) hx hb dX8_leastOf_36 (by decide) ?_
        refine lv_icmp_ne (tgt := 69) hx hb dX8_leastOf_37 (by decide) (fun h_12 => ?_) (fun h_12 => ?_)
        · have h_12 : x_11.toInt ≠ 1 := c_ne h_12
          obtain ⟨x_13, ex_13⟩ : ∃ y : Int32, y = i_6 + 1 := ⟨_, rfl⟩
          have tx_13 : x_13.toInt = i_6.toInt + 1 := ti_add (A := i_6.toInt) (B := 1) ex_13 rfl rfl (by omega) (by omega)
          refine lv_iinc (v := x_13) (lv' := [(5, .int x_13), (0, .ref h0), (1, .int p1), (2, .int 2), (3, .int p3), (4, .int p4)]) hx hb dX8_leastOf_69 hl (k := 0) rfl (by rw [ex_13]; rfl) (by decide) rfl (fun ls hl => ?_)
          refine lv_goto (tgt := 24) hx hb dX8_leastOf_72 (by decide) ?_
          exact ihlp_5 x_13 _ _ _ (by omega) (show 21 - x_13.toInt ≤ (nlp_5 : Int) by omega) hP hD hS (lv_sub hl [0, 1, 2, 3, 4, 5] rfl)
        · have h_12 : x_11.toInt = 1 := c_eq h_12
          refine lv_aload_n hx hb dX8_leastOf_40 rfl (lv_at hl 1 rfl) ?_
          refine lv_iload_n hx hb dX8_leastOf_41 rfl (lv_at hl 2 rfl) ?_
          refine lv_iload_n hx hb dX8_leastOf_42 rfl (lv_at hl 3 rfl) ?_
          refine lv_iconst (v := 1) hx hb dX8_leastOf_43 (by decide) ?_
          refine lv_isub hx hb dX8_leastOf_44 ?_
          refine lv_topi (fun x_14 ex_14 => ?_)
          have ex_14 : x_14 = 1 := ex_14.trans (by decide)
          subst ex_14
          refine lv_iload hx hb dX8_leastOf_45 (lv_at hl 0 rfl) ?_
          refine lv_iload hx hb dX8_leastOf_47 (lv_at hl 5 rfl) ?_
          refine lv_iconst (v := 1) hx hb dX8_leastOf_49 (by decide) ?_
          refine lv_iload hx hb dX8_leastOf_50 (lv_at hl 0 rfl) ?_
          refine lv_ishl hx hb dX8_leastOf_52 ?_
          refine lv_topi (fun x_15 ex_15 => ?_)
          have tx_15 : 0 ≤ x_15.toInt ∧ x_15.toInt ≤ 1048575 := ti_shl1 ex_15 (by omega) (by omega)
          refine lv_ior hx hb dX8_leastOf_53 ?_
          refine lv_topi (fun x_16 ex_16 => ?_)
          refine sl_Ic (rU_I (wc := [(h0, .inr (0, [.ref s_flood, .int s_ditches, .int s_from, .int s_to])), (s_flood, .inr (2, [.ref s_flood_fromLawn, .ref s_flood_fromDitch, .ref s_flood_ontoDitch])), (s_flood_fromLawn, .inl (cy 1, 20, .inl s_flood_fromLawnf)), (s_flood_fromDitch, .inl (cy 1, 20, .inl s_flood_fromDitchf)), (s_flood_ontoDitch, .inl (cy 1, 20, .inl s_flood_ontoDitchf))]) (As := [.int p1, .int 1, .int i_6, .int x_16]) (rest := []) X hp_st (fun _ _ _ h => h) (sX8_leastOf_c1 l dC dI cy h0 s_flood s_ditches s_from s_to s_flood_fromLawn s_flood_fromDitch s_flood_ontoDitch s_flood_fromLawnf s_flood_fromDitchf s_flood_ontoDitchf p1 i_6 x_16 hs_from hs_flood_fromLawnf hs_flood_fromDitchf hs_flood_ontoDitchf (by first | decide | omega)) kX8_leastOf u_RX0_leastOf w_984 hP hD hS hA [0, 1, 2, 3, 4] (by decide) rfl 0 (ci := 0) rfl rfl rfl hl rfl rfl (Nat.le_of_ble_eq_true rfl) dX8_leastOf_54 ⟨(Nat.le_of_ble_eq_true rfl), (Nat.le_of_ble_eq_true rfl)⟩ ⟨(Nat.le_of_ble_eq_true rfl), (Nat.le_of_ble_eq_true rfl)⟩) hP hD hS hA [0, 1, 2, 3, 4] [false, false, false, false, false] rfl rfl rfl (fun r_17 u_19 H locs k_18 hP hD hS => ?_)
          have hPD := vPD (ws' := [(h0, .inr (0, [.ref s_flood, .int s_ditches, .int s_from, .int s_to])), (s_flood, .inr (2, [.ref s_flood_fromLawn, .ref s_flood_fromDitch, .ref s_flood_ontoDitch])), (s_flood_fromLawn, .inl (cy 1, 20, .inl s_flood_fromLawnf)), (s_flood_fromDitch, .inl (cy 1, 20, .inl s_flood_fromDitchf)), (s_flood_ontoDitch, .inl (cy 1, 20, .inl s_flood_ontoDitchf))]) hP hD rfl
          have hP := hPD.1
          have hD := hPD.2
          refine lv_istore (lv' := [(6, .int r_17), (5, .int i_6), (0, .ref h0), (1, .int p1), (2, .int 2), (3, .int p3), (4, .int p4)]) hx hb dX8_leastOf_57 hl (by decide) rfl (fun ls hl => ?_)
          refine lv_iload hx hb dX8_leastOf_59 (lv_at hl 0 rfl) ?_
          refine lv_bipush (v := -2) hx hb dX8_leastOf_61 (by decide) ?_
          refine lv_icmp_eq (tgt := 69) hx hb dX8_leastOf_63 (by decide) (fun h_20 => ?_) (fun h_20 => ?_)
          · have h_20 : r_17.toInt = (-2) := c_eq h_20
            obtain ⟨x_21, ex_21⟩ : ∃ y : Int32, y = i_6 + 1 := ⟨_, rfl⟩
            have tx_21 : x_21.toInt = i_6.toInt + 1 := ti_add (A := i_6.toInt) (B := 1) ex_21 rfl rfl (by omega) (by omega)
            refine lv_iinc (v := x_21) (lv' := [(5, .int x_21), (6, .int r_17), (0, .ref h0), (1, .int p1), (2, .int 2), (3, .int p3), (4, .int p4)]) hx hb dX8_leastOf_69 hl (k := 1) rfl (by rw [ex_21]; rfl) (by decide) rfl (fun ls hl => ?_)
            refine lv_goto (tgt := 24) hx hb dX8_leastOf_72 (by decide) ?_
            exact ihlp_5 x_21 _ _ _ (by omega) (show 21 - x_21.toInt ≤ (nlp_5 : Int) by omega) hP hD hS (lv_sub hl [0, 2, 3, 4, 5, 6] rfl)
          · have h_20 : r_17.toInt ≠ (-2) := c_ne h_20
            refine lv_iload hx hb dX8_leastOf_66 (lv_at hl 0 rfl) ?_
            exact eI hQ X hr hlocks hP hD hS () [0, 1, 2, 3, 4] (by decide) rfl rfl trivial (Nat.le_of_ble_eq_true rfl) (Nat.le_of_ble_eq_true rfl) dX8_leastOf_68
  exact lp_5 21 0 _ _ _ (by decide) (show 21 - 0 ≤ ((21 : Nat) : Int) by omega) hP hD hS hl
set_option maxHeartbeats 4000000 in
set_option maxRecDepth 100000 in
theorem sX8_leastOf_c3 (l : Launch) (dC : Nat → ClassId) (dI : Nat → Nat → Nat) (cy : Nat → ClassId) (h0 : Nat) (s_flood : Nat) (s_ditches : Int32) (s_from : Int32) (s_to : Int32) (s_flood_fromLawn : Nat) (s_flood_fromDitch : Nat) (s_flood_ontoDitch : Nat) (s_flood_fromLawnf : Nat → Int32) (s_flood_fromDitchf : Nat → Int32) (s_flood_ontoDitchf : Nat → Int32) (p1 : Int32) (p3 : Int32) (p4 : Int32) (hs_from : 0 ≤ s_from.toInt ∧ s_from.toInt ≤ 19) (hs_flood_fromLawnf : rb s_flood_fromLawnf 20 0 1048575) (hs_flood_fromDitchf : rb s_flood_fromDitchf 20 0 1048575) (hs_flood_ontoDitchf : rb s_flood_ontoDitchf 20 0 1048575) (hp3 : p3.toInt ≤ 20) : ctI l dC dI cy hp yX8_leastOf cX8_leastOf 7 .int ({ frames := 7, cells := 0, slots := 0, locals := 173 } : Room) [.ref h0, .int p1, .int 3, .int p3, .int p4] [(h0, .inr (0, [.ref s_flood, .int s_ditches, .int s_from, .int s_to])), (s_flood, .inr (2, [.ref s_flood_fromLawn, .ref s_flood_fromDitch, .ref s_flood_ontoDitch])), (s_flood_fromLawn, .inl (cy 1, 20, .inl s_flood_fromLawnf)), (s_flood_fromDitch, .inl (cy 1, 20, .inl s_flood_fromDitchf)), (s_flood_ontoDitch, .inl (cy 1, 20, .inl s_flood_ontoDitchf))] (S := Unit) (fun r _ => True) (fun _ => [(h0, .inr (0, [.ref s_flood, .int s_ditches, .int s_from, .int s_to])), (s_flood, .inr (2, [.ref s_flood_fromLawn, .ref s_flood_fromDitch, .ref s_flood_ontoDitch])), (s_flood_fromLawn, .inl (cy 1, 20, .inl s_flood_fromLawnf)), (s_flood_fromDitch, .inl (cy 1, 20, .inl s_flood_fromDitchf)), (s_flood_ontoDitch, .inl (cy 1, 20, .inl s_flood_ontoDitchf))]) := by
  refine ctI.of (by decide +kernel) (Nat.le_of_ble_eq_true rfl) ?_
  intro p e s m args below meth c A ls Q hQ X hr hlocks hin hA hP hD hS hl
  have hx := X.1
  have hb := X.2.1
  have hK := X.2.2.2.2.2.1
  have hl : lv_has ls 7 [(0, .ref h0), (1, .int p1), (2, .int 3), (3, .int p3), (4, .int p4)] := hl
  have dy_1 := ti_bd p1
  have dy_2 := ti_bd p3
  have dy_3 := ti_bd p4
  refine lv_iload_n hx hb dX8_leastOf_0 rfl (lv_at hl 2 rfl) ?_
  refine lv_if_gt (tgt := 21) hx hb dX8_leastOf_1 (by decide) (fun _ => ?_) (fun h_4 => absurd (by decide) h_4)
  refine lv_iconst (v := 0) hx hb dX8_leastOf_21 (by decide) ?_
  refine lv_istore (lv' := [(5, .int 0), (0, .ref h0), (1, .int p1), (2, .int 3), (3, .int p3), (4, .int p4)]) hx hb dX8_leastOf_22 hl (by decide) rfl (fun ls hl => ?_)
  have lp_5 : ∀ (nlp_5 : Nat) (i_6 : Int32) (H : Heap) (locs : List Loc) (ls : Array Slot), (0 ≤ i_6.toInt ∧ i_6.toInt ≤ 20) → (21 - i_6.toInt ≤ (nlp_5 : Int)) → va_P (dC, dI) vwCl [(h0, .inr (0, [.ref s_flood, .int s_ditches, .int s_from, .int s_to])), (s_flood, .inr (2, [.ref s_flood_fromLawn, .ref s_flood_fromDitch, .ref s_flood_ontoDitch])), (s_flood_fromLawn, .inl (cy 1, 20, .inl s_flood_fromLawnf)), (s_flood_fromDitch, .inl (cy 1, 20, .inl s_flood_fromDitchf)), (s_flood_ontoDitch, .inl (cy 1, 20, .inl s_flood_ontoDitchf))] H → va_D A [(h0, .inr (0, [.ref s_flood, .int s_ditches, .int s_from, .int s_to])), (s_flood, .inr (2, [.ref s_flood_fromLawn, .ref s_flood_fromDitch, .ref s_flood_ontoDitch])), (s_flood_fromLawn, .inl (cy 1, 20, .inl s_flood_fromLawnf)), (s_flood_fromDitch, .inl (cy 1, 20, .inl s_flood_fromDitchf)), (s_flood_ontoDitch, .inl (cy 1, 20, .inl s_flood_ontoDitchf))] → va_S A s.heap H locs → lv_has ls 7 [(5, .int i_6), (0, .ref h0), (1, .int p1), (2, .int 3), (3, .int p3), (4, .int p4)] → W p l e ({ frames := 7, cells := 0, slots := 0, locals := 173 } : Room) s m args below meth c H locs 0 0 Q (F0 m 24 ls []) := by
    intro nlp_5
    induction nlp_5 with
    | zero =>
      intro i_6 H locs ls b_7 hmlp_5 hP hD hS hl
      exfalso
      have di_6 := ti_bd i_6
      omega
    | succ nlp_5 ihlp_5 =>
      intro i_6 H locs ls b_7 hmlp_5 hP hD hS hl
      refine lv_iload hx hb dX8_leastOf_24 (lv_at hl 0 rfl) ?_
      refine lv_iload_n hx hb dX8_leastOf_26 rfl (lv_at hl 4 rfl) ?_
      refine lv_icmp_ge (tgt := 75) hx hb dX8_leastOf_27 (by decide) (fun h_8 => ?_) (fun h_8 => ?_)
      · have h_8 : p3.toInt ≤ i_6.toInt := c_le h_8
        refine lv_bipush (v := -2) hx hb dX8_leastOf_75 (by decide) ?_
        exact eI hQ X hr hlocks hP hD hS () [0, 1, 2, 3, 4] (by decide) rfl rfl trivial (Nat.le_of_ble_eq_true rfl) (Nat.le_of_ble_eq_true rfl) dX8_leastOf_77
      · have h_8 : i_6.toInt < p3.toInt := c_nle h_8
        refine lv_iload_n hx hb dX8_leastOf_30 rfl (lv_at hl 2 rfl) ?_
        refine lv_iload hx hb dX8_leastOf_31 (lv_at hl 0 rfl) ?_
        refine lv_ishr hx hb dX8_leastOf_33 ?_
        refine lv_topi (fun x_9 ex_9 => ?_)
        refine lv_iconst (v := 1) hx hb dX8_leastOf_34 (by decide) ?_
        refine lv_iand hx hb dX8_leastOf_35 ?_
        have dy_10 := ti_bd x_9
        refine lv_topi (fun x_11 ex_11 => ?_)
        have tx_11 : x_11.toInt = 0 ∨ x_11.toInt = 1 := ti_and1 ex_11
        refine lv_iconst (v := 1) hx hb dX8_leastOf_36 (by decide) ?_
        refine lv_icmp_ne (tgt := 69) hx hb dX8_leastOf_37 (by decide) (fun h_12 => ?_) (fun h_12 => ?_)
        · have h_12 : x_11.toInt ≠ 1 := c_ne h_12
          obtain ⟨x_13, ex_13⟩ : ∃ y : Int32, y = i_6 + 1 := ⟨_, rfl⟩
          have tx_13 : x_13.toInt = i_6.toInt + 1 := ti_add (A := i_6.toInt) (B := 1) ex_13 rfl rfl (by omega) (by omega)
          refine lv_iinc (v := x_13) (lv' := [(5, .int x_13), (0, .ref h0), (1, .int p1), (2, .int 3), (3, .int p3), (4, .int p4)]) hx hb dX8_leastOf_69 hl (k := 0) rfl (by rw [ex_13]; rfl) (by decide) rfl (fun ls hl => ?_)
          refine lv_goto (tgt := 24) hx hb dX8_leastOf_72 (by decide) ?_
          exact ihlp_5 x_13 _ _ _ (by omega) (show 21 - x_13.toInt ≤ (nlp_5 : Int) by omega) hP hD hS (lv_sub hl [0, 1, 2, 3, 4, 5] rfl)
        · have h_12 : x_11.toInt = 1 := c_eq h_12
          refine lv_aload_n hx hb dX8_leastOf_40 rfl (lv_at hl 1 rfl) ?_
          refine lv_iload_n hx hb dX8_leastOf_41 rfl (lv_at hl 2 rfl) ?_
          refine lv_iload_n hx hb dX8_leastOf_42 rfl (lv_at hl 3 rfl) ?_
          refine lv_iconst (v := 1) hx hb dX8_leastOf_43 (by decide) ?_
          refine lv_isub hx hb dX8_leastOf_44 ?_
          refine lv_topi (fun x_14 ex_14 => ?_)
          have ex_14 : x_14 = 2 := ex_14.trans (by decide)
          subst ex_14
          refine lv_iload hx hb dX8_leastOf_45 (lv_at hl 0 rfl) ?_
          refine lv_iload hx hb dX8_leastOf_47 (lv_at hl 5 rfl) ?_
          refine lv_iconst (v := 1) hx hb dX8_leastOf_49 (by decide) ?_
          refine lv_iload hx hb dX8_leastOf_50 (lv_at hl 0 rfl) ?_
          refine lv_ishl hx hb dX8_leastOf_52 ?_
          refine lv_topi (fun x_15 ex_15 => ?_)
          have tx_15 : 0 ≤ x_15.toInt ∧ x_15.toInt ≤ 1048575 := ti_shl1 ex_15 (by omega) (by omega)
          refine lv_ior hx hb dX8_leastOf_53 ?_
          refine lv_topi (fun x_16 ex_16 => ?_)
          refine sl_Ic (rU_I (wc := [(h0, .inr (0, [.ref s_flood, .int s_ditches, .int s_from, .int s_to])), (s_flood, .inr (2, [.ref s_flood_fromLawn, .ref s_flood_fromDitch, .ref s_flood_ontoDitch])), (s_flood_fromLawn, .inl (cy 1, 20, .inl s_flood_fromLawnf)), (s_flood_fromDitch, .inl (cy 1, 20, .inl s_flood_fromDitchf)), (s_flood_ontoDitch, .inl (cy 1, 20, .inl s_flood_ontoDitchf))]) (As := [.int p1, .int 2, .int i_6, .int x_16]) (rest := []) X hp_st (fun _ _ _ h => h) (sX8_leastOf_c2 l dC dI cy h0 s_flood s_ditches s_from s_to s_flood_fromLawn s_flood_fromDitch s_flood_ontoDitch s_flood_fromLawnf s_flood_fromDitchf s_flood_ontoDitchf p1 i_6 x_16 hs_from hs_flood_fromLawnf hs_flood_fromDitchf hs_flood_ontoDitchf (by first | decide | omega)) kX8_leastOf u_RX0_leastOf w_984 hP hD hS hA [0, 1, 2, 3, 4] (by decide) rfl 0 (ci := 0) rfl rfl rfl hl rfl rfl (Nat.le_of_ble_eq_true rfl) dX8_leastOf_54 ⟨(Nat.le_of_ble_eq_true rfl), (Nat.le_of_ble_eq_true rfl)⟩ ⟨(Nat.le_of_ble_eq_true rfl), (Nat.le_of_ble_eq_true rfl)⟩) hP hD hS hA [0, 1, 2, 3, 4] [false, false, false, false, false] rfl rfl rfl (fun r_17 u_19 H locs k_18 hP hD hS => ?_)
          have hPD := vPD (ws' := [(h0, .inr (0, [.ref s_flood, .int s_ditches, .int s_from, .int s_to])), (s_flood, .inr (2, [.ref s_flood_fromLawn, .ref s_flood_fromDitch, .ref s_flood_ontoDitch])), (s_flood_fromLawn, .inl (cy 1, 20, .inl s_flood_fromLawnf)), (s_flood_fromDitch, .inl (cy 1, 20, .inl s_flood_fromDitchf)), (s_flood_ontoDitch, .inl (cy 1, 20, .inl s_flood_ontoDitchf))]) hP hD rfl
          have hP := hPD.1
          have hD := hPD.2
          refine lv_istore (lv' := [(6, .int r_17), (5, .int i_6), (0, .ref h0), (1, .int p1), (2, .int 3), (3, .int p3), (4, .int p4)]) hx hb dX8_leastOf_57 hl (by decide) rfl (fun ls hl => ?_)
          refine lv_iload hx hb dX8_leastOf_59 (lv_at hl 0 rfl) ?_
          refine lv_bipush (v := -2) hx hb dX8_leastOf_61 (by decide) ?_
          refine lv_icmp_eq (tgt := 69) hx hb dX8_leastOf_63 (by decide) (fun h_20 => ?_) (fun h_20 => ?_)
          · have h_20 : r_17.toInt = (-2) := c_eq h_20
            obtain ⟨x_21, ex_21⟩ : ∃ y : Int32, y = i_6 + 1 := ⟨_, rfl⟩
            have tx_21 : x_21.toInt = i_6.toInt + 1 := ti_add (A := i_6.toInt) (B := 1) ex_21 rfl rfl (by omega) (by omega)
            refine lv_iinc (v := x_21) (lv' := [(5, .int x_21), (6, .int r_17), (0, .ref h0), (1, .int p1), (2, .int 3), (3, .int p3), (4, .int p4)]) hx hb dX8_leastOf_69 hl (k := 1) rfl (by rw [ex_21]; rfl) (by decide) rfl (fun ls hl => ?_)
            refine lv_goto (tgt := 24) hx hb dX8_leastOf_72 (by decide) ?_
            exact ihlp_5 x_21 _ _ _ (by omega) (show 21 - x_21.toInt ≤ (nlp_5 : Int) by omega) hP hD hS (lv_sub hl [0, 2, 3, 4, 5, 6] rfl)
          · have h_20 : r_17.toInt ≠ (-2) := c_ne h_20
            refine lv_iload hx hb dX8_leastOf_66 (lv_at hl 0 rfl) ?_
            exact eI hQ X hr hlocks hP hD hS () [0, 1, 2, 3, 4] (by decide) rfl rfl trivial (Nat.le_of_ble_eq_true rfl) (Nat.le_of_ble_eq_true rfl) dX8_leastOf_68
  exact lp_5 21 0 _ _ _ (by decide) (show 21 - 0 ≤ ((21 : Nat) : Int) by omega) hP hD hS hl
set_option maxHeartbeats 4000000 in
set_option maxRecDepth 100000 in
theorem sX8_fewest_c (l : Launch) (dC : Nat → ClassId) (dI : Nat → Nat → Nat) (cy : Nat → ClassId) (h0 : Nat) (s_flood : Nat) (s_ditches : Int32) (s_from : Int32) (s_to : Int32) (s_flood_fromLawn : Nat) (s_flood_fromDitch : Nat) (s_flood_ontoDitch : Nat) (s_flood_fromLawnf : Nat → Int32) (s_flood_fromDitchf : Nat → Int32) (s_flood_ontoDitchf : Nat → Int32) (p1 : Int32) (hs_from : 0 ≤ s_from.toInt ∧ s_from.toInt ≤ 19) (hs_flood_fromLawnf : rb s_flood_fromLawnf 20 0 1048575) (hs_flood_fromDitchf : rb s_flood_fromDitchf 20 0 1048575) (hs_flood_ontoDitchf : rb s_flood_ontoDitchf 20 0 1048575) : ctI l dC dI cy hp yX8_fewest cX8_fewest 4 .int ({ frames := 8, cells := 0, slots := 0, locals := 199 } : Room) [.ref h0, .int p1] [(h0, .inr (0, [.ref s_flood, .int s_ditches, .int s_from, .int s_to])), (s_flood, .inr (2, [.ref s_flood_fromLawn, .ref s_flood_fromDitch, .ref s_flood_ontoDitch])), (s_flood_fromLawn, .inl (cy 1, 20, .inl s_flood_fromLawnf)), (s_flood_fromDitch, .inl (cy 1, 20, .inl s_flood_fromDitchf)), (s_flood_ontoDitch, .inl (cy 1, 20, .inl s_flood_ontoDitchf))] (S := Unit) (fun r _ => True) (fun _ => [(h0, .inr (0, [.ref s_flood, .int s_ditches, .int s_from, .int s_to])), (s_flood, .inr (2, [.ref s_flood_fromLawn, .ref s_flood_fromDitch, .ref s_flood_ontoDitch])), (s_flood_fromLawn, .inl (cy 1, 20, .inl s_flood_fromLawnf)), (s_flood_fromDitch, .inl (cy 1, 20, .inl s_flood_fromDitchf)), (s_flood_ontoDitch, .inl (cy 1, 20, .inl s_flood_ontoDitchf))]) := by
  refine ctI.of (by decide +kernel) (Nat.le_of_ble_eq_true rfl) ?_
  intro p e s m args below meth c A ls Q hQ X hr hlocks hin hA hP hD hS hl
  have hx := X.1
  have hb := X.2.1
  have hK := X.2.2.2.2.2.1
  have hl : lv_has ls 4 [(0, .ref h0), (1, .int p1)] := hl
  have dy_1 := ti_bd p1
  refine lv_iconst (v := 0) hx hb dX8_fewest_0 (by decide) ?_
  refine lv_istore_n (lv' := [(2, .int 0), (0, .ref h0), (1, .int p1)]) hx hb dX8_fewest_1 rfl hl (by decide) rfl (fun ls hl => ?_)
  refine lv_iload_n hx hb dX8_fewest_2 rfl (lv_at hl 0 rfl) ?_
  refine lv_iconst (v := 3) hx hb dX8_fewest_3 (by decide) ?_
  refine lv_icmp_gt (tgt := 31) hx hb dX8_fewest_4 (by decide) (fun h_2 => absurd h_2 (by decide)) (fun _ => ?_)
  refine lv_aload_n hx hb dX8_fewest_7 rfl (lv_at hl 1 rfl) ?_
  refine lv_iload_n hx hb dX8_fewest_8 rfl (lv_at hl 2 rfl) ?_
  refine lv_iload_n hx hb dX8_fewest_9 rfl (lv_at hl 0 rfl) ?_
  refine lv_bipush (v := 20) hx hb dX8_fewest_10 (by decide) ?_
  refine lv_iconst (v := 0) hx hb dX8_fewest_12 (by decide) ?_
  refine sl_Ic (rU_I (wc := [(h0, .inr (0, [.ref s_flood, .int s_ditches, .int s_from, .int s_to])), (s_flood, .inr (2, [.ref s_flood_fromLawn, .ref s_flood_fromDitch, .ref s_flood_ontoDitch])), (s_flood_fromLawn, .inl (cy 1, 20, .inl s_flood_fromLawnf)), (s_flood_fromDitch, .inl (cy 1, 20, .inl s_flood_fromDitchf)), (s_flood_ontoDitch, .inl (cy 1, 20, .inl s_flood_ontoDitchf))]) (As := [.int p1, .int 0, .int 20, .int 0]) (rest := []) X hp_st (fun _ _ _ h => h) (sX8_leastOf_c0 l dC dI cy h0 s_flood s_ditches s_from s_to s_flood_fromLawn s_flood_fromDitch s_flood_ontoDitch s_flood_fromLawnf s_flood_fromDitchf s_flood_ontoDitchf p1 20 0 hs_from hs_flood_fromLawnf hs_flood_fromDitchf hs_flood_ontoDitchf (by first | decide | omega | (have h9_0 : Int32.toInt 20 = 20 := (by decide); omega))) kX8_leastOf u_RX0_leastOf w_984 hP hD hS hA [0, 1, 2, 3, 4] (by decide) rfl 0 (ci := 0) rfl rfl rfl hl rfl rfl (Nat.le_of_ble_eq_true rfl) dX8_fewest_13 ⟨(Nat.le_of_ble_eq_true rfl), (Nat.le_of_ble_eq_true rfl)⟩ ⟨(Nat.le_of_ble_eq_true rfl), (Nat.le_of_ble_eq_true rfl)⟩) hP hD hS hA [0, 1, 2, 3, 4] [false, false, false, false, false] rfl rfl rfl (fun r_3 u_5 H locs k_4 hP hD hS => ?_)
  have hPD := vPD (ws' := [(h0, .inr (0, [.ref s_flood, .int s_ditches, .int s_from, .int s_to])), (s_flood, .inr (2, [.ref s_flood_fromLawn, .ref s_flood_fromDitch, .ref s_flood_ontoDitch])), (s_flood_fromLawn, .inl (cy 1, 20, .inl s_flood_fromLawnf)), (s_flood_fromDitch, .inl (cy 1, 20, .inl s_flood_fromDitchf)), (s_flood_ontoDitch, .inl (cy 1, 20, .inl s_flood_ontoDitchf))]) hP hD rfl
  have hP := hPD.1
  have hD := hPD.2
  refine lv_istore_n (lv' := [(3, .int r_3), (2, .int 0), (0, .ref h0), (1, .int p1)]) hx hb dX8_fewest_16 rfl hl (by decide) rfl (fun ls hl => ?_)
  refine lv_iload_n hx hb dX8_fewest_17 rfl (lv_at hl 0 rfl) ?_
  refine lv_bipush (v := -2) hx hb dX8_fewest_18 (by decide) ?_
  refine lv_icmp_eq (tgt := 25) hx hb dX8_fewest_20 (by decide) (fun h_6 => ?_) (fun h_6 => ?_)
  · have h_6 : r_3.toInt = (-2) := c_eq h_6
    refine lv_iinc (v := 1) (lv' := [(2, .int 1), (3, .int r_3), (0, .ref h0), (1, .int p1)]) hx hb dX8_fewest_25 hl (k := 1) rfl (by decide) (by decide) rfl (fun ls hl => ?_)
    refine lv_goto (tgt := 2) hx hb dX8_fewest_28 (by decide) ?_
    refine lv_iload_n hx hb dX8_fewest_2 rfl (lv_at hl 0 rfl) ?_
    refine lv_iconst (v := 3) hx hb dX8_fewest_3 (by decide) ?_
    refine lv_icmp_gt (tgt := 31) hx hb dX8_fewest_4 (by decide) (fun h_7 => absurd h_7 (by decide)) (fun _ => ?_)
    refine lv_aload_n hx hb dX8_fewest_7 rfl (lv_at hl 2 rfl) ?_
    refine lv_iload_n hx hb dX8_fewest_8 rfl (lv_at hl 3 rfl) ?_
    refine lv_iload_n hx hb dX8_fewest_9 rfl (lv_at hl 0 rfl) ?_
    refine lv_bipush (v := 20) hx hb dX8_fewest_10 (by decide) ?_
    refine lv_iconst (v := 0) hx hb dX8_fewest_12 (by decide) ?_
    refine sl_Ic (rU_I (wc := [(h0, .inr (0, [.ref s_flood, .int s_ditches, .int s_from, .int s_to])), (s_flood, .inr (2, [.ref s_flood_fromLawn, .ref s_flood_fromDitch, .ref s_flood_ontoDitch])), (s_flood_fromLawn, .inl (cy 1, 20, .inl s_flood_fromLawnf)), (s_flood_fromDitch, .inl (cy 1, 20, .inl s_flood_fromDitchf)), (s_flood_ontoDitch, .inl (cy 1, 20, .inl s_flood_ontoDitchf))]) (As := [.int p1, .int 1, .int 20, .int 0]) (rest := []) X hp_st (fun _ _ _ h => h) (sX8_leastOf_c1 l dC dI cy h0 s_flood s_ditches s_from s_to s_flood_fromLawn s_flood_fromDitch s_flood_ontoDitch s_flood_fromLawnf s_flood_fromDitchf s_flood_ontoDitchf p1 20 0 hs_from hs_flood_fromLawnf hs_flood_fromDitchf hs_flood_ontoDitchf (by first | decide | omega | (have h9_0 : Int32.toInt 20 = 20 := (by decide); omega))) kX8_leastOf u_RX0_leastOf w_984 hP hD hS hA [0, 1, 2, 3, 4] (by decide) rfl 0 (ci := 0) rfl rfl rfl hl rfl rfl (Nat.le_of_ble_eq_true rfl) dX8_fewest_13 ⟨(Nat.le_of_ble_eq_true rfl), (Nat.le_of_ble_eq_true rfl)⟩ ⟨(Nat.le_of_ble_eq_true rfl), (Nat.le_of_ble_eq_true rfl)⟩) hP hD hS hA [0, 1, 2, 3, 4] [false, false, false, false, false] rfl rfl rfl (fun r_8 u_10 H locs k_9 hP hD hS => ?_)
    have hPD := vPD (ws' := [(h0, .inr (0, [.ref s_flood, .int s_ditches, .int s_from, .int s_to])), (s_flood, .inr (2, [.ref s_flood_fromLawn, .ref s_flood_fromDitch, .ref s_flood_ontoDitch])), (s_flood_fromLawn, .inl (cy 1, 20, .inl s_flood_fromLawnf)), (s_flood_fromDitch, .inl (cy 1, 20, .inl s_flood_fromDitchf)), (s_flood_ontoDitch, .inl (cy 1, 20, .inl s_flood_ontoDitchf))]) hP hD rfl
    have hP := hPD.1
    have hD := hPD.2
    refine lv_istore_n (lv' := [(3, .int r_8), (2, .int 1), (0, .ref h0), (1, .int p1)]) hx hb dX8_fewest_16 rfl hl (by decide) rfl (fun ls hl => ?_)
    refine lv_iload_n hx hb dX8_fewest_17 rfl (lv_at hl 0 rfl) ?_
    refine lv_bipush (v := -2) hx hb dX8_fewest_18 (by decide) ?_
    refine lv_icmp_eq (tgt := 25) hx hb dX8_fewest_20 (by decide) (fun h_11 => ?_) (fun h_11 => ?_)
    · have h_11 : r_8.toInt = (-2) := c_eq h_11
      refine lv_iinc (v := 2) (lv' := [(2, .int 2), (3, .int r_8), (0, .ref h0), (1, .int p1)]) hx hb dX8_fewest_25 hl (k := 1) rfl (by decide) (by decide) rfl (fun ls hl => ?_)
      refine lv_goto (tgt := 2) hx hb dX8_fewest_28 (by decide) ?_
      refine lv_iload_n hx hb dX8_fewest_2 rfl (lv_at hl 0 rfl) ?_
      refine lv_iconst (v := 3) hx hb dX8_fewest_3 (by decide) ?_
      refine lv_icmp_gt (tgt := 31) hx hb dX8_fewest_4 (by decide) (fun h_12 => absurd h_12 (by decide)) (fun _ => ?_)
      refine lv_aload_n hx hb dX8_fewest_7 rfl (lv_at hl 2 rfl) ?_
      refine lv_iload_n hx hb dX8_fewest_8 rfl (lv_at hl 3 rfl) ?_
      refine lv_iload_n hx hb dX8_fewest_9 rfl (lv_at hl 0 rfl) ?_
      refine lv_bipush (v := 20) hx hb dX8_fewest_10 (by decide) ?_
      refine lv_iconst (v := 0) hx hb dX8_fewest_12 (by decide) ?_
      refine sl_Ic (rU_I (wc := [(h0, .inr (0, [.ref s_flood, .int s_ditches, .int s_from, .int s_to])), (s_flood, .inr (2, [.ref s_flood_fromLawn, .ref s_flood_fromDitch, .ref s_flood_ontoDitch])), (s_flood_fromLawn, .inl (cy 1, 20, .inl s_flood_fromLawnf)), (s_flood_fromDitch, .inl (cy 1, 20, .inl s_flood_fromDitchf)), (s_flood_ontoDitch, .inl (cy 1, 20, .inl s_flood_ontoDitchf))]) (As := [.int p1, .int 2, .int 20, .int 0]) (rest := []) X hp_st (fun _ _ _ h => h) (sX8_leastOf_c2 l dC dI cy h0 s_flood s_ditches s_from s_to s_flood_fromLawn s_flood_fromDitch s_flood_ontoDitch s_flood_fromLawnf s_flood_fromDitchf s_flood_ontoDitchf p1 20 0 hs_from hs_flood_fromLawnf hs_flood_fromDitchf hs_flood_ontoDitchf (by first | decide | omega | (have h9_0 : Int32.toInt 20 = 20 := (by decide); omega))) kX8_leastOf u_RX0_leastOf w_984 hP hD hS hA [0, 1, 2, 3, 4] (by decide) rfl 0 (ci := 0) rfl rfl rfl hl rfl rfl (Nat.le_of_ble_eq_true rfl) dX8_fewest_13 ⟨(Nat.le_of_ble_eq_true rfl), (Nat.le_of_ble_eq_true rfl)⟩ ⟨(Nat.le_of_ble_eq_true rfl), (Nat.le_of_ble_eq_true rfl)⟩) hP hD hS hA [0, 1, 2, 3, 4] [false, false, false, false, false] rfl rfl rfl (fun r_13 u_15 H locs k_14 hP hD hS => ?_)
      have hPD := vPD (ws' := [(h0, .inr (0, [.ref s_flood, .int s_ditches, .int s_from, .int s_to])), (s_flood, .inr (2, [.ref s_flood_fromLawn, .ref s_flood_fromDitch, .ref s_flood_ontoDitch])), (s_flood_fromLawn, .inl (cy 1, 20, .inl s_flood_fromLawnf)), (s_flood_fromDitch, .inl (cy 1, 20, .inl s_flood_fromDitchf)), (s_flood_ontoDitch, .inl (cy 1, 20, .inl s_flood_ontoDitchf))]) hP hD rfl
      have hP := hPD.1
      have hD := hPD.2
      refine lv_istore_n (lv' := [(3, .int r_13), (2, .int 2), (0, .ref h0), (1, .int p1)]) hx hb dX8_fewest_16 rfl hl (by decide) rfl (fun ls hl => ?_)
      refine lv_iload_n hx hb dX8_fewest_17 rfl (lv_at hl 0 rfl) ?_
      refine lv_bipush (v := -2) hx hb dX8_fewest_18 (by decide) ?_
      refine lv_icmp_eq (tgt := 25) hx hb dX8_fewest_20 (by decide) (fun h_16 => ?_) (fun h_16 => ?_)
      · have h_16 : r_13.toInt = (-2) := c_eq h_16
        refine lv_iinc (v := 3) (lv' := [(2, .int 3), (3, .int r_13), (0, .ref h0), (1, .int p1)]) hx hb dX8_fewest_25 hl (k := 1) rfl (by decide) (by decide) rfl (fun ls hl => ?_)
        refine lv_goto (tgt := 2) hx hb dX8_fewest_28 (by decide) ?_
        refine lv_iload_n hx hb dX8_fewest_2 rfl (lv_at hl 0 rfl) ?_
        refine lv_iconst (v := 3) hx hb dX8_fewest_3 (by decide) ?_
        refine lv_icmp_gt (tgt := 31) hx hb dX8_fewest_4 (by decide) (fun h_17 => absurd h_17 (by decide)) (fun _ => ?_)
        refine lv_aload_n hx hb dX8_fewest_7 rfl (lv_at hl 2 rfl) ?_
        refine lv_iload_n hx hb dX8_fewest_8 rfl (lv_at hl 3 rfl) ?_
        refine lv_iload_n hx hb dX8_fewest_9 rfl (lv_at hl 0 rfl) ?_
        refine lv_bipush (v := 20) hx hb dX8_fewest_10 (by decide) ?_
        refine lv_iconst (v := 0) hx hb dX8_fewest_12 (by decide) ?_
        refine sl_Ic (rU_I (wc := [(h0, .inr (0, [.ref s_flood, .int s_ditches, .int s_from, .int s_to])), (s_flood, .inr (2, [.ref s_flood_fromLawn, .ref s_flood_fromDitch, .ref s_flood_ontoDitch])), (s_flood_fromLawn, .inl (cy 1, 20, .inl s_flood_fromLawnf)), (s_flood_fromDitch, .inl (cy 1, 20, .inl s_flood_fromDitchf)), (s_flood_ontoDitch, .inl (cy 1, 20, .inl s_flood_ontoDitchf))]) (As := [.int p1, .int 3, .int 20, .int 0]) (rest := []) X hp_st (fun _ _ _ h => h) (sX8_leastOf_c3 l dC dI cy h0 s_flood s_ditches s_from s_to s_flood_fromLawn s_flood_fromDitch s_flood_ontoDitch s_flood_fromLawnf s_flood_fromDitchf s_flood_ontoDitchf p1 20 0 hs_from hs_flood_fromLawnf hs_flood_fromDitchf hs_flood_ontoDitchf (by first | decide | omega | (have h9_0 : Int32.toInt 20 = 20 := (by decide); omega))) kX8_leastOf u_RX0_leastOf w_984 hP hD hS hA [0, 1, 2, 3, 4] (by decide) rfl 0 (ci := 0) rfl rfl rfl hl rfl rfl (Nat.le_of_ble_eq_true rfl) dX8_fewest_13 ⟨(Nat.le_of_ble_eq_true rfl), (Nat.le_of_ble_eq_true rfl)⟩ ⟨(Nat.le_of_ble_eq_true rfl), (Nat.le_of_ble_eq_true rfl)⟩) hP hD hS hA [0, 1, 2, 3, 4] [false, false, false, false, false] rfl rfl rfl (fun r_18 u_20 H locs k_19 hP hD hS => ?_)
        have hPD := vPD (ws' := [(h0, .inr (0, [.ref s_flood, .int s_ditches, .int s_from, .int s_to])), (s_flood, .inr (2, [.ref s_flood_fromLawn, .ref s_flood_fromDitch, .ref s_flood_ontoDitch])), (s_flood_fromLawn, .inl (cy 1, 20, .inl s_flood_fromLawnf)), (s_flood_fromDitch, .inl (cy 1, 20, .inl s_flood_fromDitchf)), (s_flood_ontoDitch, .inl (cy 1, 20, .inl s_flood_ontoDitchf))]) hP hD rfl
        have hP := hPD.1
        have hD := hPD.2
        refine lv_istore_n (lv' := [(3, .int r_18), (2, .int 3), (0, .ref h0), (1, .int p1)]) hx hb dX8_fewest_16 rfl hl (by decide) rfl (fun ls hl => ?_)
        refine lv_iload_n hx hb dX8_fewest_17 rfl (lv_at hl 0 rfl) ?_
        refine lv_bipush (v := -2) hx hb dX8_fewest_18 (by decide) ?_
        refine lv_icmp_eq (tgt := 25) hx hb dX8_fewest_20 (by decide) (fun h_21 => ?_) (fun h_21 => ?_)
        · have h_21 : r_18.toInt = (-2) := c_eq h_21
          refine lv_iinc (v := 4) (lv' := [(2, .int 4), (3, .int r_18), (0, .ref h0), (1, .int p1)]) hx hb dX8_fewest_25 hl (k := 1) rfl (by decide) (by decide) rfl (fun ls hl => ?_)
          refine lv_goto (tgt := 2) hx hb dX8_fewest_28 (by decide) ?_
          refine lv_iload_n hx hb dX8_fewest_2 rfl (lv_at hl 0 rfl) ?_
          refine lv_iconst (v := 3) hx hb dX8_fewest_3 (by decide) ?_
          refine lv_icmp_gt (tgt := 31) hx hb dX8_fewest_4 (by decide) (fun _ => ?_) (fun h_22 => absurd (by decide) h_22)
          refine lv_bipush (v := -2) hx hb dX8_fewest_31 (by decide) ?_
          exact eI hQ X hr hlocks hP hD hS () [0, 1, 2, 3, 4] (by decide) rfl rfl trivial (Nat.le_of_ble_eq_true rfl) (Nat.le_of_ble_eq_true rfl) dX8_fewest_33
        · have h_21 : r_18.toInt ≠ (-2) := c_ne h_21
          refine lv_iload_n hx hb dX8_fewest_23 rfl (lv_at hl 0 rfl) ?_
          exact eI hQ X hr hlocks hP hD hS () [0, 1, 2, 3, 4] (by decide) rfl rfl trivial (Nat.le_of_ble_eq_true rfl) (Nat.le_of_ble_eq_true rfl) dX8_fewest_24
      · have h_16 : r_13.toInt ≠ (-2) := c_ne h_16
        refine lv_iload_n hx hb dX8_fewest_23 rfl (lv_at hl 0 rfl) ?_
        exact eI hQ X hr hlocks hP hD hS () [0, 1, 2, 3, 4] (by decide) rfl rfl trivial (Nat.le_of_ble_eq_true rfl) (Nat.le_of_ble_eq_true rfl) dX8_fewest_24
    · have h_11 : r_8.toInt ≠ (-2) := c_ne h_11
      refine lv_iload_n hx hb dX8_fewest_23 rfl (lv_at hl 0 rfl) ?_
      exact eI hQ X hr hlocks hP hD hS () [0, 1, 2, 3, 4] (by decide) rfl rfl trivial (Nat.le_of_ble_eq_true rfl) (Nat.le_of_ble_eq_true rfl) dX8_fewest_24
  · have h_6 : r_3.toInt ≠ (-2) := c_ne h_6
    refine lv_iload_n hx hb dX8_fewest_23 rfl (lv_at hl 0 rfl) ?_
    exact eI hQ X hr hlocks hP hD hS () [0, 1, 2, 3, 4] (by decide) rfl rfl trivial (Nat.le_of_ble_eq_true rfl) (Nat.le_of_ble_eq_true rfl) dX8_fewest_24
set_option maxHeartbeats 4000000 in
set_option maxRecDepth 100000 in
theorem sX8_leastOf_d0 (l : Launch) (dC : Nat → ClassId) (dI : Nat → Nat → Nat) (cy : Nat → ClassId) (h0 : Nat) (s_floods : Nat) (s_starts : Nat) (s_goals : Nat) (s_walkers : Int32) (s_ditches : Int32) (s_lost : Int32) (s_e0 : Nat) (s_e1 : Nat) (s_e2 : Nat) (s_e3 : Nat) (s_startsf : Nat → Int32) (s_goalsf : Nat → Int32) (s_e0_fromLawn : Nat) (s_e0_fromDitch : Nat) (s_e0_ontoDitch : Nat) (s_e0_fromLawnf : Nat → Int32) (s_e0_fromDitchf : Nat → Int32) (s_e0_ontoDitchf : Nat → Int32) (s_e1_fromLawn : Nat) (s_e1_fromDitch : Nat) (s_e1_ontoDitch : Nat) (s_e1_fromLawnf : Nat → Int32) (s_e1_fromDitchf : Nat → Int32) (s_e1_ontoDitchf : Nat → Int32) (s_e2_fromLawn : Nat) (s_e2_fromDitch : Nat) (s_e2_ontoDitch : Nat) (s_e2_fromLawnf : Nat → Int32) (s_e2_fromDitchf : Nat → Int32) (s_e2_ontoDitchf : Nat → Int32) (s_e3_fromLawn : Nat) (s_e3_fromDitch : Nat) (s_e3_ontoDitch : Nat) (s_e3_fromLawnf : Nat → Int32) (s_e3_fromDitchf : Nat → Int32) (s_e3_ontoDitchf : Nat → Int32) (p1 : Int32) (p3 : Int32) (p4 : Int32) (hs_walkers : 0 ≤ s_walkers.toInt ∧ s_walkers.toInt ≤ 4) (hs_lost : 0 ≤ s_lost.toInt ∧ s_lost.toInt ≤ 3) (hs_startsf : rb s_startsf 4 0 19) (hs_e0_fromLawnf : rb s_e0_fromLawnf 20 0 1048575) (hs_e0_fromDitchf : rb s_e0_fromDitchf 20 0 1048575) (hs_e0_ontoDitchf : rb s_e0_ontoDitchf 20 0 1048575) (hs_e1_fromLawnf : rb s_e1_fromLawnf 20 0 1048575) (hs_e1_fromDitchf : rb s_e1_fromDitchf 20 0 1048575) (hs_e1_ontoDitchf : rb s_e1_ontoDitchf 20 0 1048575) (hs_e2_fromLawnf : rb s_e2_fromLawnf 20 0 1048575) (hs_e2_fromDitchf : rb s_e2_fromDitchf 20 0 1048575) (hs_e2_ontoDitchf : rb s_e2_ontoDitchf 20 0 1048575) (hs_e3_fromLawnf : rb s_e3_fromLawnf 20 0 1048575) (hs_e3_fromDitchf : rb s_e3_fromDitchf 20 0 1048575) (hs_e3_ontoDitchf : rb s_e3_ontoDitchf 20 0 1048575) (hp3 : p3.toInt ≤ 20) : ctI l dC dI cy hp yX8_leastOf cX8_leastOf 7 .int ({ frames := 4, cells := 0, slots := 0, locals := 97 } : Room) [.ref h0, .int p1, .int 0, .int p3, .int p4] [(h0, .inr (1, [.ref s_floods, .ref s_starts, .ref s_goals, .int s_walkers, .int s_ditches, .int s_lost])), (s_floods, .inl (cy 4, 4, .inr (.inr (.inr (.inr ((q4 s_e0 s_e1 s_e2 s_e3))))))), (s_starts, .inl (cy 1, 4, .inl s_startsf)), (s_goals, .inl (cy 1, 4, .inl s_goalsf)), (s_e0, .inr (2, [.ref s_e0_fromLawn, .ref s_e0_fromDitch, .ref s_e0_ontoDitch])), (s_e0_fromLawn, .inl (cy 1, 20, .inl s_e0_fromLawnf)), (s_e0_fromDitch, .inl (cy 1, 20, .inl s_e0_fromDitchf)), (s_e0_ontoDitch, .inl (cy 1, 20, .inl s_e0_ontoDitchf)), (s_e1, .inr (2, [.ref s_e1_fromLawn, .ref s_e1_fromDitch, .ref s_e1_ontoDitch])), (s_e1_fromLawn, .inl (cy 1, 20, .inl s_e1_fromLawnf)), (s_e1_fromDitch, .inl (cy 1, 20, .inl s_e1_fromDitchf)), (s_e1_ontoDitch, .inl (cy 1, 20, .inl s_e1_ontoDitchf)), (s_e2, .inr (2, [.ref s_e2_fromLawn, .ref s_e2_fromDitch, .ref s_e2_ontoDitch])), (s_e2_fromLawn, .inl (cy 1, 20, .inl s_e2_fromLawnf)), (s_e2_fromDitch, .inl (cy 1, 20, .inl s_e2_fromDitchf)), (s_e2_ontoDitch, .inl (cy 1, 20, .inl s_e2_ontoDitchf)), (s_e3, .inr (2, [.ref s_e3_fromLawn, .ref s_e3_fromDitch, .ref s_e3_ontoDitch])), (s_e3_fromLawn, .inl (cy 1, 20, .inl s_e3_fromLawnf)), (s_e3_fromDitch, .inl (cy 1, 20, .inl s_e3_fromDitchf)), (s_e3_ontoDitch, .inl (cy 1, 20, .inl s_e3_ontoDitchf))] (S := Int32) (fun r u => (0 ≤ u.toInt ∧ u.toInt ≤ 3)) (fun u => [(h0, .inr (1, [.ref s_floods, .ref s_starts, .ref s_goals, .int s_walkers, .int s_ditches, .int u])), (s_floods, .inl (cy 4, 4, .inr (.inr (.inr (.inr ((q4 s_e0 s_e1 s_e2 s_e3))))))), (s_starts, .inl (cy 1, 4, .inl s_startsf)), (s_goals, .inl (cy 1, 4, .inl s_goalsf)), (s_e0, .inr (2, [.ref s_e0_fromLawn, .ref s_e0_fromDitch, .ref s_e0_ontoDitch])), (s_e0_fromLawn, .inl (cy 1, 20, .inl s_e0_fromLawnf)), (s_e0_fromDitch, .inl (cy 1, 20, .inl s_e0_fromDitchf)), (s_e0_ontoDitch, .inl (cy 1, 20, .inl s_e0_ontoDitchf)), (s_e1, .inr (2, [.ref s_e1_fromLawn, .ref s_e1_fromDitch, .ref s_e1_ontoDitch])), (s_e1_fromLawn, .inl (cy 1, 20, .inl s_e1_fromLawnf)), (s_e1_fromDitch, .inl (cy 1, 20, .inl s_e1_fromDitchf)), (s_e1_ontoDitch, .inl (cy 1, 20, .inl s_e1_ontoDitchf)), (s_e2, .inr (2, [.ref s_e2_fromLawn, .ref s_e2_fromDitch, .ref s_e2_ontoDitch])), (s_e2_fromLawn, .inl (cy 1, 20, .inl s_e2_fromLawnf)), (s_e2_fromDitch, .inl (cy 1, 20, .inl s_e2_fromDitchf)), (s_e2_ontoDitch, .inl (cy 1, 20, .inl s_e2_ontoDitchf)), (s_e3, .inr (2, [.ref s_e3_fromLawn, .ref s_e3_fromDitch, .ref s_e3_ontoDitch])), (s_e3_fromLawn, .inl (cy 1, 20, .inl s_e3_fromLawnf)), (s_e3_fromDitch, .inl (cy 1, 20, .inl s_e3_fromDitchf)), (s_e3_ontoDitch, .inl (cy 1, 20, .inl s_e3_ontoDitchf))]) := by
  refine ctI.of (by decide +kernel) (Nat.le_of_ble_eq_true rfl) ?_
  intro p e s m args below meth c A ls Q hQ X hr hlocks hin hA hP hD hS hl
  have hx := X.1
  have hb := X.2.1
  have hK := X.2.2.2.2.2.1
  have hl : lv_has ls 7 [(0, .ref h0), (1, .int p1), (2, .int 0), (3, .int p3), (4, .int p4)] := hl
  have dy_1 := ti_bd p1
  have dy_2 := ti_bd p3
  have dy_3 := ti_bd p4
  refine lv_iload_n hx hb dX8_leastOf_0 rfl (lv_at hl 2 rfl) ?_
  refine lv_if_gt (tgt := 21) hx hb dX8_leastOf_1 (by decide) (fun h_4 => absurd h_4 (by decide)) (fun _ => ?_)
  refine lv_aload_n hx hb dX8_leastOf_4 rfl (lv_at hl 0 rfl) ?_
  refine lv_iload hx hb dX8_leastOf_5 (lv_at hl 4 rfl) ?_
  refine sl_Ic (rU_I (wc := [(h0, .inr (1, [.ref s_floods, .ref s_starts, .ref s_goals, .int s_walkers, .int s_ditches, .int s_lost])), (s_floods, .inl (cy 4, 4, .inr (.inr (.inr (.inr ((q4 s_e0 s_e1 s_e2 s_e3))))))), (s_starts, .inl (cy 1, 4, .inl s_startsf)), (s_goals, .inl (cy 1, 4, .inl s_goalsf)), (s_e0, .inr (2, [.ref s_e0_fromLawn, .ref s_e0_fromDitch, .ref s_e0_ontoDitch])), (s_e0_fromLawn, .inl (cy 1, 20, .inl s_e0_fromLawnf)), (s_e0_fromDitch, .inl (cy 1, 20, .inl s_e0_fromDitchf)), (s_e0_ontoDitch, .inl (cy 1, 20, .inl s_e0_ontoDitchf)), (s_e1, .inr (2, [.ref s_e1_fromLawn, .ref s_e1_fromDitch, .ref s_e1_ontoDitch])), (s_e1_fromLawn, .inl (cy 1, 20, .inl s_e1_fromLawnf)), (s_e1_fromDitch, .inl (cy 1, 20, .inl s_e1_fromDitchf)), (s_e1_ontoDitch, .inl (cy 1, 20, .inl s_e1_ontoDitchf)), (s_e2, .inr (2, [.ref s_e2_fromLawn, .ref s_e2_fromDitch, .ref s_e2_ontoDitch])), (s_e2_fromLawn, .inl (cy 1, 20, .inl s_e2_fromLawnf)), (s_e2_fromDitch, .inl (cy 1, 20, .inl s_e2_fromDitchf)), (s_e2_ontoDitch, .inl (cy 1, 20, .inl s_e2_ontoDitchf)), (s_e3, .inr (2, [.ref s_e3_fromLawn, .ref s_e3_fromDitch, .ref s_e3_ontoDitch])), (s_e3_fromLawn, .inl (cy 1, 20, .inl s_e3_fromLawnf)), (s_e3_fromDitch, .inl (cy 1, 20, .inl s_e3_fromDitchf)), (s_e3_ontoDitch, .inl (cy 1, 20, .inl s_e3_ontoDitchf))]) (As := [.int p4]) (rest := []) X hp_st (fun _ _ _ h => h) (sX1_worksBy l dC dI cy h0 s_floods s_starts s_goals s_walkers s_ditches s_lost s_e0 s_e1 s_e2 s_e3 s_startsf s_goalsf s_e0_fromLawn s_e0_fromDitch s_e0_ontoDitch s_e0_fromLawnf s_e0_fromDitchf s_e0_ontoDitchf s_e1_fromLawn s_e1_fromDitch s_e1_ontoDitch s_e1_fromLawnf s_e1_fromDitchf s_e1_ontoDitchf s_e2_fromLawn s_e2_fromDitch s_e2_ontoDitch s_e2_fromLawnf s_e2_fromDitchf s_e2_ontoDitchf s_e3_fromLawn s_e3_fromDitch s_e3_ontoDitch s_e3_fromLawnf s_e3_fromDitchf s_e3_ontoDitchf p4 hs_walkers hs_lost hs_startsf hs_e0_fromLawnf hs_e0_fromDitchf hs_e0_ontoDitchf hs_e1_fromLawnf hs_e1_fromDitchf hs_e1_ontoDitchf hs_e2_fromLawnf hs_e2_fromDitchf hs_e2_ontoDitchf hs_e3_fromLawnf hs_e3_fromDitchf hs_e3_ontoDitchf) kX1_worksBy u_RX1_worksBy w_988 hP hD hS hA [0, 1, 2, 3, 4, 5, 6, 7, 8, 9, 10, 11, 12, 13, 14, 15, 16, 17, 18, 19] (by decide +kernel) rfl 0 (ci := 1) rfl rfl rfl hl rfl rfl (Nat.le_of_ble_eq_true rfl) dX8_leastOf_7 ⟨(Nat.le_of_ble_eq_true rfl), (Nat.le_of_ble_eq_true rfl)⟩ ⟨(Nat.le_of_ble_eq_true rfl), (Nat.le_of_ble_eq_true rfl)⟩) hP hD hS hA [0, 1, 2, 3, 4, 5, 6, 7, 8, 9, 10, 11, 12, 13, 14, 15, 16, 17, 18, 19] [false, false, false, false, false, false, false, false, false, false, false, false, false, false, false, false, false, false, false, false] rfl rfl rfl (fun r_6 u_8 H locs k_7 hP hD hS => ?_)
  obtain ⟨s_lost1_5, eu_8⟩ : ∃ z, z = u_8 := ⟨_, rfl⟩
  subst eu_8
  have k_7 : (0 ≤ r_6.toInt ∧ r_6.toInt ≤ 1) ∧ (0 ≤ s_lost1_5.toInt ∧ s_lost1_5.toInt ≤ 3) := k_7
  obtain ⟨k_7_0, k_7_1⟩ := k_7
  have hPD := vPD (ws' := [(h0, .inr (1, [.ref s_floods, .ref s_starts, .ref s_goals, .int s_walkers, .int s_ditches, .int s_lost1_5])), (s_floods, .inl (cy 4, 4, .inr (.inr (.inr (.inr ((q4 s_e0 s_e1 s_e2 s_e3))))))), (s_starts, .inl (cy 1, 4, .inl s_startsf)), (s_goals, .inl (cy 1, 4, .inl s_goalsf)), (s_e0, .inr (2, [.ref s_e0_fromLawn, .ref s_e0_fromDitch, .ref s_e0_ontoDitch])), (s_e0_fromLawn, .inl (cy 1, 20, .inl s_e0_fromLawnf)), (s_e0_fromDitch, .inl (cy 1, 20, .inl s_e0_fromDitchf)), (s_e0_ontoDitch, .inl (cy 1, 20, .inl s_e0_ontoDitchf)), (s_e1, .inr (2, [.ref s_e1_fromLawn, .ref s_e1_fromDitch, .ref s_e1_ontoDitch])), (s_e1_fromLawn, .inl (cy 1, 20, .inl s_e1_fromLawnf)), (s_e1_fromDitch, .inl (cy 1, 20, .inl s_e1_fromDitchf)), (s_e1_ontoDitch, .inl (cy 1, 20, .inl s_e1_ontoDitchf)), (s_e2, .inr (2, [.ref s_e2_fromLawn, .ref s_e2_fromDitch, .ref s_e2_ontoDitch])), (s_e2_fromLawn, .inl (cy 1, 20, .inl s_e2_fromLawnf)), (s_e2_fromDitch, .inl (cy 1, 20, .inl s_e2_fromDitchf)), (s_e2_ontoDitch, .inl (cy 1, 20, .inl s_e2_ontoDitchf)), (s_e3, .inr (2, [.ref s_e3_fromLawn, .ref s_e3_fromDitch, .ref s_e3_ontoDitch])), (s_e3_fromLawn, .inl (cy 1, 20, .inl s_e3_fromLawnf)), (s_e3_fromDitch, .inl (cy 1, 20, .inl s_e3_fromDitchf)), (s_e3_ontoDitch, .inl (cy 1, 20, .inl s_e3_ontoDitchf))]) hP hD rfl
  have hP := hPD.1
  have hD := hPD.2
  refine lv_if_eq (tgt := 18) hx hb dX8_leastOf_10 (by decide) (fun h_9 => ?_) (fun h_9 => ?_)
  · have h_9 : r_6.toInt = 0 := c_eq h_9
    refine lv_bipush (v := -2) hx hb dX8_leastOf_18 (by decide) ?_
    exact eI hQ X hr hlocks hP hD hS s_lost1_5 [0, 1, 2, 3, 4, 5, 6, 7, 8, 9, 10, 11, 12, 13, 14, 15, 16, 17, 18, 19] (by decide +kernel) rfl rfl (show (0 ≤ s_lost1_5.toInt ∧ s_lost1_5.toInt ≤ 3) from k_7_1) (Nat.le_of_ble_eq_true rfl) (Nat.le_of_ble_eq_true rfl) dX8_leastOf_20
  · have h_9 : r_6.toInt ≠ 0 := c_ne h_9
    refine lv_iload hx hb dX8_leastOf_13 (lv_at hl 4 rfl) ?_
    refine lv_goto (tgt := 20) hx hb dX8_leastOf_15 (by decide) ?_
    exact eI hQ X hr hlocks hP hD hS s_lost1_5 [0, 1, 2, 3, 4, 5, 6, 7, 8, 9, 10, 11, 12, 13, 14, 15, 16, 17, 18, 19] (by decide +kernel) rfl rfl (show (0 ≤ s_lost1_5.toInt ∧ s_lost1_5.toInt ≤ 3) from k_7_1) (Nat.le_of_ble_eq_true rfl) (Nat.le_of_ble_eq_true rfl) dX8_leastOf_20
set_option maxHeartbeats 4000000 in
set_option maxRecDepth 100000 in
theorem sX8_leastOf_d1 (l : Launch) (dC : Nat → ClassId) (dI : Nat → Nat → Nat) (cy : Nat → ClassId) (h0 : Nat) (s_floods : Nat) (s_starts : Nat) (s_goals : Nat) (s_walkers : Int32) (s_ditches : Int32) (s_lost : Int32) (s_e0 : Nat) (s_e1 : Nat) (s_e2 : Nat) (s_e3 : Nat) (s_startsf : Nat → Int32) (s_goalsf : Nat → Int32) (s_e0_fromLawn : Nat) (s_e0_fromDitch : Nat) (s_e0_ontoDitch : Nat) (s_e0_fromLawnf : Nat → Int32) (s_e0_fromDitchf : Nat → Int32) (s_e0_ontoDitchf : Nat → Int32) (s_e1_fromLawn : Nat) (s_e1_fromDitch : Nat) (s_e1_ontoDitch : Nat) (s_e1_fromLawnf : Nat → Int32) (s_e1_fromDitchf : Nat → Int32) (s_e1_ontoDitchf : Nat → Int32) (s_e2_fromLawn : Nat) (s_e2_fromDitch : Nat) (s_e2_ontoDitch : Nat) (s_e2_fromLawnf : Nat → Int32) (s_e2_fromDitchf : Nat → Int32) (s_e2_ontoDitchf : Nat → Int32) (s_e3_fromLawn : Nat) (s_e3_fromDitch : Nat) (s_e3_ontoDitch : Nat) (s_e3_fromLawnf : Nat → Int32) (s_e3_fromDitchf : Nat → Int32) (s_e3_ontoDitchf : Nat → Int32) (p1 : Int32) (p3 : Int32) (p4 : Int32) (hs_walkers : 0 ≤ s_walkers.toInt ∧ s_walkers.toInt ≤ 4) (hs_lost : 0 ≤ s_lost.toInt ∧ s_lost.toInt ≤ 3) (hs_startsf : rb s_startsf 4 0 19) (hs_e0_fromLawnf : rb s_e0_fromLawnf 20 0 1048575) (hs_e0_fromDitchf : rb s_e0_fromDitchf 20 0 1048575) (hs_e0_ontoDitchf : rb s_e0_ontoDitchf 20 0 1048575) (hs_e1_fromLawnf : rb s_e1_fromLawnf 20 0 1048575) (hs_e1_fromDitchf : rb s_e1_fromDitchf 20 0 1048575) (hs_e1_ontoDitchf : rb s_e1_ontoDitchf 20 0 1048575) (hs_e2_fromLawnf : rb s_e2_fromLawnf 20 0 1048575) (hs_e2_fromDitchf : rb s_e2_fromDitchf 20 0 1048575) (hs_e2_ontoDitchf : rb s_e2_ontoDitchf 20 0 1048575) (hs_e3_fromLawnf : rb s_e3_fromLawnf 20 0 1048575) (hs_e3_fromDitchf : rb s_e3_fromDitchf 20 0 1048575) (hs_e3_ontoDitchf : rb s_e3_ontoDitchf 20 0 1048575) (hp3 : p3.toInt ≤ 20) : ctI l dC dI cy hp yX8_leastOf cX8_leastOf 7 .int ({ frames := 5, cells := 0, slots := 0, locals := 123 } : Room) [.ref h0, .int p1, .int 1, .int p3, .int p4] [(h0, .inr (1, [.ref s_floods, .ref s_starts, .ref s_goals, .int s_walkers, .int s_ditches, .int s_lost])), (s_floods, .inl (cy 4, 4, .inr (.inr (.inr (.inr ((q4 s_e0 s_e1 s_e2 s_e3))))))), (s_starts, .inl (cy 1, 4, .inl s_startsf)), (s_goals, .inl (cy 1, 4, .inl s_goalsf)), (s_e0, .inr (2, [.ref s_e0_fromLawn, .ref s_e0_fromDitch, .ref s_e0_ontoDitch])), (s_e0_fromLawn, .inl (cy 1, 20, .inl s_e0_fromLawnf)), (s_e0_fromDitch, .inl (cy 1, 20, .inl s_e0_fromDitchf)), (s_e0_ontoDitch, .inl (cy 1, 20, .inl s_e0_ontoDitchf)), (s_e1, .inr (2, [.ref s_e1_fromLawn, .ref s_e1_fromDitch, .ref s_e1_ontoDitch])), (s_e1_fromLawn, .inl (cy 1, 20, .inl s_e1_fromLawnf)), (s_e1_fromDitch, .inl (cy 1, 20, .inl s_e1_fromDitchf)), (s_e1_ontoDitch, .inl (cy 1, 20, .inl s_e1_ontoDitchf)), (s_e2, .inr (2, [.ref s_e2_fromLawn, .ref s_e2_fromDitch, .ref s_e2_ontoDitch])), (s_e2_fromLawn, .inl (cy 1, 20, .inl s_e2_fromLawnf)), (s_e2_fromDitch, .inl (cy 1, 20, .inl s_e2_fromDitchf)), (s_e2_ontoDitch, .inl (cy 1, 20, .inl s_e2_ontoDitchf)), (s_e3, .inr (2, [.ref s_e3_fromLawn, .ref s_e3_fromDitch, .ref s_e3_ontoDitch])), (s_e3_fromLawn, .inl (cy 1, 20, .inl s_e3_fromLawnf)), (s_e3_fromDitch, .inl (cy 1, 20, .inl s_e3_fromDitchf)), (s_e3_ontoDitch, .inl (cy 1, 20, .inl s_e3_ontoDitchf))] (S := Int32) (fun r u => (0 ≤ u.toInt ∧ u.toInt ≤ 3)) (fun u => [(h0, .inr (1, [.ref s_floods, .ref s_starts, .ref s_goals, .int s_walkers, .int s_ditches, .int u])), (s_floods, .inl (cy 4, 4, .inr (.inr (.inr (.inr ((q4 s_e0 s_e1 s_e2 s_e3))))))), (s_starts, .inl (cy 1, 4, .inl s_startsf)), (s_goals, .inl (cy 1, 4, .inl s_goalsf)), (s_e0, .inr (2, [.ref s_e0_fromLawn, .ref s_e0_fromDitch, .ref s_e0_ontoDitch])), (s_e0_fromLawn, .inl (cy 1, 20, .inl s_e0_fromLawnf)), (s_e0_fromDitch, .inl (cy 1, 20, .inl s_e0_fromDitchf)), (s_e0_ontoDitch, .inl (cy 1, 20, .inl s_e0_ontoDitchf)), (s_e1, .inr (2, [.ref s_e1_fromLawn, .ref s_e1_fromDitch, .ref s_e1_ontoDitch])), (s_e1_fromLawn, .inl (cy 1, 20, .inl s_e1_fromLawnf)), (s_e1_fromDitch, .inl (cy 1, 20, .inl s_e1_fromDitchf)), (s_e1_ontoDitch, .inl (cy 1, 20, .inl s_e1_ontoDitchf)), (s_e2, .inr (2, [.ref s_e2_fromLawn, .ref s_e2_fromDitch, .ref s_e2_ontoDitch])), (s_e2_fromLawn, .inl (cy 1, 20, .inl s_e2_fromLawnf)), (s_e2_fromDitch, .inl (cy 1, 20, .inl s_e2_fromDitchf)), (s_e2_ontoDitch, .inl (cy 1, 20, .inl s_e2_ontoDitchf)), (s_e3, .inr (2, [.ref s_e3_fromLawn, .ref s_e3_fromDitch, .ref s_e3_ontoDitch])), (s_e3_fromLawn, .inl (cy 1, 20, .inl s_e3_fromLawnf)), (s_e3_fromDitch, .inl (cy 1, 20, .inl s_e3_fromDitchf)), (s_e3_ontoDitch, .inl (cy 1, 20, .inl s_e3_ontoDitchf))]) := by
  refine ctI.of (by decide +kernel) (Nat.le_of_ble_eq_true rfl) ?_
  intro p e s m args below meth c A ls Q hQ X hr hlocks hin hA hP hD hS hl
  have hx := X.1
  have hb := X.2.1
  have hK := X.2.2.2.2.2.1
  have hl : lv_has ls 7 [(0, .ref h0), (1, .int p1), (2, .int 1), (3, .int p3), (4, .int p4)] := hl
  have dy_1 := ti_bd p1
  have dy_2 := ti_bd p3
  have dy_3 := ti_bd p4
  refine lv_iload_n hx hb dX8_leastOf_0 rfl (lv_at hl 2 rfl) ?_
  refine lv_if_gt (tgt := 21) hx hb dX8_leastOf_1 (by decide) (fun _ => ?_) (fun h_4 => absurd (by decide) h_4)
  refine lv_iconst (v := 0) hx hb dX8_leastOf_21 (by decide) ?_
  refine lv_istore (lv' := [(5, .int 0), (0, .ref h0), (1, .int p1), (2, .int 1), (3, .int p3), (4, .int p4)]) hx hb dX8_leastOf_22 hl (by decide) rfl (fun ls hl => ?_)
  have lp_5 : ∀ (nlp_5 : Nat) (i_6 : Int32) (i_8 : Int32) (H : Heap) (locs : List Loc) (ls : Array Slot), (0 ≤ i_6.toInt ∧ i_6.toInt ≤ 20) → (0 ≤ i_8.toInt ∧ i_8.toInt ≤ 3) → (21 - i_6.toInt ≤ (nlp_5 : Int)) → va_P (dC, dI) vwCl [(h0, .inr (1, [.ref s_floods, .ref s_starts, .ref s_goals, .int s_walkers, .int s_ditches, .int i_8])), (s_floods, .inl (cy 4, 4, .inr (.inr (.inr (.inr ((q4 s_e0 s_e1 s_e2 s_e3))))))), (s_starts, .inl (cy 1, 4, .inl s_startsf)), (s_goals, .inl (cy 1, 4, .inl s_goalsf)), (s_e0, .inr (2, [.ref s_e0_fromLawn, .ref s_e0_fromDitch, .ref s_e0_ontoDitch])), (s_e0_fromLawn, .inl (cy 1, 20, .inl s_e0_fromLawnf)), (s_e0_fromDitch, .inl (cy 1, 20, .inl s_e0_fromDitchf)), (s_e0_ontoDitch, .inl (cy 1, 20, .inl s_e0_ontoDitchf)), (s_e1, .inr (2, [.ref s_e1_fromLawn, .ref s_e1_fromDitch, .ref s_e1_ontoDitch])), (s_e1_fromLawn, .inl (cy 1, 20, .inl s_e1_fromLawnf)), (s_e1_fromDitch, .inl (cy 1, 20, .inl s_e1_fromDitchf)), (s_e1_ontoDitch, .inl (cy 1, 20, .inl s_e1_ontoDitchf)), (s_e2, .inr (2, [.ref s_e2_fromLawn, .ref s_e2_fromDitch, .ref s_e2_ontoDitch])), (s_e2_fromLawn, .inl (cy 1, 20, .inl s_e2_fromLawnf)), (s_e2_fromDitch, .inl (cy 1, 20, .inl s_e2_fromDitchf)), (s_e2_ontoDitch, .inl (cy 1, 20, .inl s_e2_ontoDitchf)), (s_e3, .inr (2, [.ref s_e3_fromLawn, .ref s_e3_fromDitch, .ref s_e3_ontoDitch])), (s_e3_fromLawn, .inl (cy 1, 20, .inl s_e3_fromLawnf)), (s_e3_fromDitch, .inl (cy 1, 20, .inl s_e3_fromDitchf)), (s_e3_ontoDitch, .inl (cy 1, 20, .inl s_e3_ontoDitchf))] H → va_D A [(h0, .inr (1, [.ref s_floods, .ref s_starts, .ref s_goals, .int s_walkers, .int s_ditches, .int i_8])), (s_floods, .inl (cy 4, 4, .inr (.inr (.inr (.inr ((q4 s_e0 s_e1 s_e2 s_e3))))))), (s_starts, .inl (cy 1, 4, .inl s_startsf)), (s_goals, .inl (cy 1, 4, .inl s_goalsf)), (s_e0, .inr (2, [.ref s_e0_fromLawn, .ref s_e0_fromDitch, .ref s_e0_ontoDitch])), (s_e0_fromLawn, .inl (cy 1, 20, .inl s_e0_fromLawnf)), (s_e0_fromDitch, .inl (cy 1, 20, .inl s_e0_fromDitchf)), (s_e0_ontoDitch, .inl (cy 1, 20, .inl s_e0_ontoDitchf)), (s_e1, .inr (2, [.ref s_e1_fromLawn, .ref s_e1_fromDitch, .ref s_e1_ontoDitch])), (s_e1_fromLawn, .inl (cy 1, 20, .inl s_e1_fromLawnf)), (s_e1_fromDitch, .inl (cy 1, 20, .inl s_e1_fromDitchf)), (s_e1_ontoDitch, .inl (cy 1, 20, .inl s_e1_ontoDitchf)), (s_e2, .inr (2, [.ref s_e2_fromLawn, .ref s_e2_fromDitch, .ref s_e2_ontoDitch])), (s_e2_fromLawn, .inl (cy 1, 20, .inl s_e2_fromLawnf)), (s_e2_fromDitch, .inl (cy 1, 20, .inl s_e2_fromDitchf)), (s_e2_ontoDitch, .inl (cy 1, 20, .inl s_e2_ontoDitchf)), (s_e3, .inr (2, [.ref s_e3_fromLawn, .ref s_e3_fromDitch, .ref s_e3_ontoDitch])), (s_e3_fromLawn, .inl (cy 1, 20, .inl s_e3_fromLawnf)), (s_e3_fromDitch, .inl (cy 1, 20, .inl s_e3_fromDitchf)), (s_e3_ontoDitch, .inl (cy 1, 20, .inl s_e3_ontoDitchf))] → va_S A s.heap H locs → lv_has ls 7 [(5, .int i_6), (0, .ref h0), (1, .int p1), (2, .int 1), (3, .int p3), (4, .int p4)] → W p l e ({ frames := 5, cells := 0, slots := 0, locals := 123 } : Room) s m args below meth c H locs 0 0 Q (F0 m 24 ls []) := by
    intro nlp_5
    induction nlp_5 with
    | zero =>
      intro i_6 i_8 H locs ls b_7 b_9 hmlp_5 hP hD hS hl
      exfalso
      have di_6 := ti_bd i_6
      have di_8 := ti_bd i_8
      omega
    | succ nlp_5 ihlp_5 =>
      intro i_6 i_8 H locs ls b_7 b_9 hmlp_5 hP hD hS hl
      refine lv_iload hx hb dX8_leastOf_24 (lv_at hl 0 rfl) ?_
      refine lv_iload_n hx hb dX8_leastOf_26 rfl (lv_at hl 4 rfl) ?_
      refine lv_icmp_ge (tgt := 75) hx hb dX8_leastOf_27 (by decide) (fun h_10 => ?_) (fun h_10 => ?_)
      · have h_10 : p3.toInt ≤ i_6.toInt := c_le h_10
        refine lv_bipush (v := -2) hx hb dX8_leastOf_75 (by decide) ?_
        exact eI hQ X hr hlocks hP hD hS i_8 [0, 1, 2, 3, 4, 5, 6, 7, 8, 9, 10, 11, 12, 13, 14, 15, 16, 17, 18, 19] (by decide +kernel) rfl rfl (show (0 ≤ i_8.toInt ∧ i_8.toInt ≤ 3) from b_9) (Nat.le_of_ble_eq_true rfl) (Nat.le_of_ble_eq_true rfl) dX8_leastOf_77
      · have h_10 : i_6.toInt < p3.toInt := c_nle h_10
        refine lv_iload_n hx hb dX8_leastOf_30 rfl (lv_at hl 2 rfl) ?_
        refine lv_iload hx hb dX8_leastOf_31 (lv_at hl 0 rfl) ?_
        refine lv_ishr hx hb dX8_leastOf_33 ?_
        refine lv_topi (fun x_11 ex_11 => ?_)
        refine lv_iconst (v := 1) hx hb dX8_leastOf_34 (by decide) ?_
        refine lv_iand hx hb dX8_leastOf_35 ?_
        have dy_12 := ti_bd x_11
        refine lv_topi (fun x_13 ex_13 => ?_)
        have tx_13 : x_13.toInt = 0 ∨ x_13.toInt = 1 := ti_and1 ex_13
        refine lv_iconst (v := 1) hx hb dX8_leastOf_36 (by decide) ?_
        refine lv_icmp_ne (tgt := 69) hx hb dX8_leastOf_37 (by decide) (fun h_14 => ?_) (fun h_14 => ?_)
        · have h_14 : x_13.toInt ≠ 1 := c_ne h_14
          obtain ⟨x_15, ex_15⟩ : ∃ y : Int32, y = i_6 + 1 := ⟨_, rfl⟩
          have tx_15 : x_15.toInt = i_6.toInt + 1 := ti_add (A := i_6.toInt) (B := 1) ex_15 rfl rfl (by omega) (by omega)
          refine lv_iinc (v := x_15) (lv' := [(5, .int x_15), (0, .ref h0), (1, .int p1), (2, .int 1), (3, .int p3), (4, .int p4)]) hx hb dX8_leastOf_69 hl (k := 0) rfl (by rw [ex_15]; rfl) (by decide) rfl (fun ls hl => ?_)
          refine lv_goto (tgt := 24) hx hb dX8_leastOf_72 (by decide) ?_
          exact ihlp_5 x_15 i_8 _ _ _ (by omega) (by omega) (show 21 - x_15.toInt ≤ (nlp_5 : Int) by omega) hP hD hS (lv_sub hl [0, 1, 2, 3, 4, 5] rfl)
        · have h_14 : x_13.toInt = 1 := c_eq h_14
          refine lv_aload_n hx hb dX8_leastOf_40 rfl (lv_at hl 1 rfl) ?_
          refine lv_iload_n hx hb dX8_leastOf_41 rfl (lv_at hl 2 rfl) ?_
          refine lv_iload_n hx hb dX8_leastOf_42 rfl (lv_at hl 3 rfl) ?_
          refine lv_iconst (v := 1) hx hb dX8_leastOf_43 (by decide) ?_
          refine lv_isub hx hb dX8_leastOf_44 ?_
          refine lv_topi (fun x_16 ex_16 => ?_)
          have ex_16 : x_16 = 0 := ex_16.trans (by decide)
          subst ex_16
          refine lv_iload hx hb dX8_leastOf_45 (lv_at hl 0 rfl) ?_
          refine lv_iload hx hb dX8_leastOf_47 (lv_at hl 5 rfl) ?_
          refine lv_iconst (v := 1) hx hb dX8_leastOf_49 (by decide) ?_
          refine lv_iload hx hb dX8_leastOf_50 (lv_at hl 0 rfl) ?_
          refine lv_ishl hx hb dX8_leastOf_52 ?_
          refine lv_topi (fun x_17 ex_17 => ?_)
          have tx_17 : 0 ≤ x_17.toInt ∧ x_17.toInt ≤ 1048575 := ti_shl1 ex_17 (by omega) (by omega)
          refine lv_ior hx hb dX8_leastOf_53 ?_
          refine lv_topi (fun x_18 ex_18 => ?_)
          refine sl_Ic (rU_I (wc := [(h0, .inr (1, [.ref s_floods, .ref s_starts, .ref s_goals, .int s_walkers, .int s_ditches, .int i_8])), (s_floods, .inl (cy 4, 4, .inr (.inr (.inr (.inr ((q4 s_e0 s_e1 s_e2 s_e3))))))), (s_starts, .inl (cy 1, 4, .inl s_startsf)), (s_goals, .inl (cy 1, 4, .inl s_goalsf)), (s_e0, .inr (2, [.ref s_e0_fromLawn, .ref s_e0_fromDitch, .ref s_e0_ontoDitch])), (s_e0_fromLawn, .inl (cy 1, 20, .inl s_e0_fromLawnf)), (s_e0_fromDitch, .inl (cy 1, 20, .inl s_e0_fromDitchf)), (s_e0_ontoDitch, .inl (cy 1, 20, .inl s_e0_ontoDitchf)), (s_e1, .inr (2, [.ref s_e1_fromLawn, .ref s_e1_fromDitch, .ref s_e1_ontoDitch])), (s_e1_fromLawn, .inl (cy 1, 20, .inl s_e1_fromLawnf)), (s_e1_fromDitch, .inl (cy 1, 20, .inl s_e1_fromDitchf)), (s_e1_ontoDitch, .inl (cy 1, 20, .inl s_e1_ontoDitchf)), (s_e2, .inr (2, [.ref s_e2_fromLawn, .ref s_e2_fromDitch, .ref s_e2_ontoDitch])), (s_e2_fromLawn, .inl (cy 1, 20, .inl s_e2_fromLawnf)), (s_e2_fromDitch, .inl (cy 1, 20, .inl s_e2_fromDitchf)), (s_e2_ontoDitch, .inl (cy 1, 20, .inl s_e2_ontoDitchf)), (s_e3, .inr (2, [.ref s_e3_fromLawn, .ref s_e3_fromDitch, .ref s_e3_ontoDitch])), (s_e3_fromLawn, .inl (cy 1, 20, .inl s_e3_fromLawnf)), (s_e3_fromDitch, .inl (cy 1, 20, .inl s_e3_fromDitchf)), (s_e3_ontoDitch, .inl (cy 1, 20, .inl s_e3_ontoDitchf))]) (As := [.int p1, .int 0, .int i_6, .int x_18]) (rest := []) X hp_st (fun _ _ _ h => h) (sX8_leastOf_d0 l dC dI cy h0 s_floods s_starts s_goals s_walkers s_ditches i_8 s_e0 s_e1 s_e2 s_e3 s_startsf s_goalsf s_e0_fromLawn s_e0_fromDitch s_e0_ontoDitch s_e0_fromLawnf s_e0_fromDitchf s_e0_ontoDitchf s_e1_fromLawn s_e1_fromDitch s_e1_ontoDitch s_e1_fromLawnf s_e1_fromDitchf s_e1_ontoDitchf s_e2_fromLawn s_e2_fromDitch s_e2_ontoDitch s_e2_fromLawnf s_e2_fromDitchf s_e2_ontoDitchf s_e3_fromLawn s_e3_fromDitch s_e3_ontoDitch s_e3_fromLawnf s_e3_fromDitchf s_e3_ontoDitchf p1 i_6 x_18 hs_walkers b_9 hs_startsf hs_e0_fromLawnf hs_e0_fromDitchf hs_e0_ontoDitchf hs_e1_fromLawnf hs_e1_fromDitchf hs_e1_ontoDitchf hs_e2_fromLawnf hs_e2_fromDitchf hs_e2_ontoDitchf hs_e3_fromLawnf hs_e3_fromDitchf hs_e3_ontoDitchf (by first | decide | omega)) kX8_leastOf u_RX1_leastOf w_984 hP hD hS hA [0, 1, 2, 3, 4, 5, 6, 7, 8, 9, 10, 11, 12, 13, 14, 15, 16, 17, 18, 19] (by decide +kernel) rfl 0 (ci := 1) rfl rfl rfl hl rfl rfl (Nat.le_of_ble_eq_true rfl) dX8_leastOf_54 ⟨(Nat.le_of_ble_eq_true rfl), (Nat.le_of_ble_eq_true rfl)⟩ ⟨(Nat.le_of_ble_eq_true rfl), (Nat.le_of_ble_eq_true rfl)⟩) hP hD hS hA [0, 1, 2, 3, 4, 5, 6, 7, 8, 9, 10, 11, 12, 13, 14, 15, 16, 17, 18, 19] [false, false, false, false, false, false, false, false, false, false, false, false, false, false, false, false, false, false, false, false] rfl rfl rfl (fun r_20 u_22 H locs k_21 hP hD hS => ?_)
          obtain ⟨s_lost1_19, eu_22⟩ : ∃ z, z = u_22 := ⟨_, rfl⟩
          subst eu_22
          have k_21 : (0 ≤ s_lost1_19.toInt ∧ s_lost1_19.toInt ≤ 3) := k_21
          have hPD := vPD (ws' := [(h0, .inr (1, [.ref s_floods, .ref s_starts, .ref s_goals, .int s_walkers, .int s_ditches, .int s_lost1_19])), (s_floods, .inl (cy 4, 4, .inr (.inr (.inr (.inr ((q4 s_e0 s_e1 s_e2 s_e3))))))), (s_starts, .inl (cy 1, 4, .inl s_startsf)), (s_goals, .inl (cy 1, 4, .inl s_goalsf)), (s_e0, .inr (2, [.ref s_e0_fromLawn, .ref s_e0_fromDitch, .ref s_e0_ontoDitch])), (s_e0_fromLawn, .inl (cy 1, 20, .inl s_e0_fromLawnf)), (s_e0_fromDitch, .inl (cy 1, 20, .inl s_e0_fromDitchf)), (s_e0_ontoDitch, .inl (cy 1, 20, .inl s_e0_ontoDitchf)), (s_e1, .inr (2, [.ref s_e1_fromLawn, .ref s_e1_fromDitch, .ref s_e1_ontoDitch])), (s_e1_fromLawn, .inl (cy 1, 20, .inl s_e1_fromLawnf)), (s_e1_fromDitch, .inl (cy 1, 20, .inl s_e1_fromDitchf)), (s_e1_ontoDitch, .inl (cy 1, 20, .inl s_e1_ontoDitchf)), (s_e2, .inr (2, [.ref s_e2_fromLawn, .ref s_e2_fromDitch, .ref s_e2_ontoDitch])), (s_e2_fromLawn, .inl (cy 1, 20, .inl s_e2_fromLawnf)), (s_e2_fromDitch, .inl (cy 1, 20, .inl s_e2_fromDitchf)), (s_e2_ontoDitch, .inl (cy 1, 20, .inl s_e2_ontoDitchf)), (s_e3, .inr (2, [.ref s_e3_fromLawn, .ref s_e3_fromDitch, .ref s_e3_ontoDitch])), (s_e3_fromLawn, .inl (cy 1, 20, .inl s_e3_fromLawnf)), (s_e3_fromDitch, .inl (cy 1, 20, .inl s_e3_fromDitchf)), (s_e3_ontoDitch, .inl (cy 1, 20, .inl s_e3_ontoDitchf))]) hP hD rfl
          have hP := hPD.1
          have hD := hPD.2
          refine lv_istore (lv' := [(6, .int r_20), (5, .int i_6), (0, .ref h0), (1, .int p1), (2, .int 1), (3, .int p3), (4, .int p4)]) hx hb dX8_leastOf_57 hl (by decide) rfl (fun ls hl => ?_)
          refine lv_iload hx hb dX8_leastOf_59 (lv_at hl 0 rfl) ?_
          refine lv_bipush (v := -2) hx hb dX8_leastOf_61 (by decide) ?_
          refine lv_icmp_eq (tgt := 69) hx hb dX8_leastOf_63 (by decide) (fun h_23 => ?_) (fun h_23 => ?_)
          · have h_23 : r_20.toInt = (-2) := c_eq h_23
            obtain ⟨x_24, ex_24⟩ : ∃ y : Int32, y = i_6 + 1 := ⟨_, rfl⟩
            have tx_24 : x_24.toInt = i_6.toInt + 1 := ti_add (A := i_6.toInt) (B := 1) ex_24 rfl rfl (by omega) (by omega)
            refine lv_iinc (v := x_24) (lv' := [(5, .int x_24), (6, .int r_20), (0, .ref h0), (1, .int p1), (2, .int 1), (3, .int p3), (4, .int p4)]) hx hb dX8_leastOf_69 hl (k := 1) rfl (by rw [ex_24]; rfl) (by decide) rfl (fun ls hl => ?_)
            refine lv_goto (tgt := 24) hx hb dX8_leastOf_72 (by decide) ?_
            exact ihlp_5 x_24 s_lost1_19 _ _ _ (by omega) (by omega) (show 21 - x_24.toInt ≤ (nlp_5 : Int) by omega) hP hD hS (lv_sub hl [0, 2, 3, 4, 5, 6] rfl)
          · have h_23 : r_20.toInt ≠ (-2) := c_ne h_23
            refine lv_iload hx hb dX8_leastOf_66 (lv_at hl 0 rfl) ?_
            exact eI hQ X hr hlocks hP hD hS s_lost1_19 [0, 1, 2, 3, 4, 5, 6, 7, 8, 9, 10, 11, 12, 13, 14, 15, 16, 17, 18, 19] (by decide +kernel) rfl rfl (show (0 ≤ s_lost1_19.toInt ∧ s_lost1_19.toInt ≤ 3) from k_21) (Nat.le_of_ble_eq_true rfl) (Nat.le_of_ble_eq_true rfl) dX8_leastOf_68
  exact lp_5 21 0 s_lost _ _ _ (by decide) (by omega) (show 21 - 0 ≤ ((21 : Nat) : Int) by omega) hP hD hS hl
set_option maxHeartbeats 4000000 in
set_option maxRecDepth 100000 in
theorem sX8_leastOf_d2 (l : Launch) (dC : Nat → ClassId) (dI : Nat → Nat → Nat) (cy : Nat → ClassId) (h0 : Nat) (s_floods : Nat) (s_starts : Nat) (s_goals : Nat) (s_walkers : Int32) (s_ditches : Int32) (s_lost : Int32) (s_e0 : Nat) (s_e1 : Nat) (s_e2 : Nat) (s_e3 : Nat) (s_startsf : Nat → Int32) (s_goalsf : Nat → Int32) (s_e0_fromLawn : Nat) (s_e0_fromDitch : Nat) (s_e0_ontoDitch : Nat) (s_e0_fromLawnf : Nat → Int32) (s_e0_fromDitchf : Nat → Int32) (s_e0_ontoDitchf : Nat → Int32) (s_e1_fromLawn : Nat) (s_e1_fromDitch : Nat) (s_e1_ontoDitch : Nat) (s_e1_fromLawnf : Nat → Int32) (s_e1_fromDitchf : Nat → Int32) (s_e1_ontoDitchf : Nat → Int32) (s_e2_fromLawn : Nat) (s_e2_fromDitch : Nat) (s_e2_ontoDitch : Nat) (s_e2_fromLawnf : Nat → Int32) (s_e2_fromDitchf : Nat → Int32) (s_e2_ontoDitchf : Nat → Int32) (s_e3_fromLawn : Nat) (s_e3_fromDitch : Nat) (s_e3_ontoDitch : Nat) (s_e3_fromLawnf : Nat → Int32) (s_e3_fromDitchf : Nat → Int32) (s_e3_ontoDitchf : Nat → Int32) (p1 : Int32) (p3 : Int32) (p4 : Int32) (hs_walkers : 0 ≤ s_walkers.toInt ∧ s_walkers.toInt ≤ 4) (hs_lost : 0 ≤ s_lost.toInt ∧ s_lost.toInt ≤ 3) (hs_startsf : rb s_startsf 4 0 19) (hs_e0_fromLawnf : rb s_e0_fromLawnf 20 0 1048575) (hs_e0_fromDitchf : rb s_e0_fromDitchf 20 0 1048575) (hs_e0_ontoDitchf : rb s_e0_ontoDitchf 20 0 1048575) (hs_e1_fromLawnf : rb s_e1_fromLawnf 20 0 1048575) (hs_e1_fromDitchf : rb s_e1_fromDitchf 20 0 1048575) (hs_e1_ontoDitchf : rb s_e1_ontoDitchf 20 0 1048575) (hs_e2_fromLawnf : rb s_e2_fromLawnf 20 0 1048575) (hs_e2_fromDitchf : rb s_e2_fromDitchf 20 0 1048575) (hs_e2_ontoDitchf : rb s_e2_ontoDitchf 20 0 1048575) (hs_e3_fromLawnf : rb s_e3_fromLawnf 20 0 1048575) (hs_e3_fromDitchf : rb s_e3_fromDitchf 20 0 1048575) (hs_e3_ontoDitchf : rb s_e3_ontoDitchf 20 0 1048575) (hp3 : p3.toInt ≤ 20) : ctI l dC dI cy hp yX8_leastOf cX8_leastOf 7 .int ({ frames := 6, cells := 0, slots := 0, locals := 149 } : Room) [.ref h0, .int p1, .int 2, .int p3, .int p4] [(h0, .inr (1, [.ref s_floods, .ref s_starts, .ref s_goals, .int s_walkers, .int s_ditches, .int s_lost])), (s_floods, .inl (cy 4, 4, .inr (.inr (.inr (.inr ((q4 s_e0 s_e1 s_e2 s_e3))))))), (s_starts, .inl (cy 1, 4, .inl s_startsf)), (s_goals, .inl (cy 1, 4, .inl s_goalsf)), (s_e0, .inr (2, [.ref s_e0_fromLawn, .ref s_e0_fromDitch, .ref s_e0_ontoDitch])), (s_e0_fromLawn, .inl (cy 1, 20, .inl s_e0_fromLawnf)), (s_e0_fromDitch, .inl (cy 1, 20, .inl s_e0_fromDitchf)), (s_e0_ontoDitch, .inl (cy 1, 20, .inl s_e0_ontoDitchf)), (s_e1, .inr (2, [.ref s_e1_fromLawn, .ref s_e1_fromDitch, .ref s_e1_ontoDitch])), (s_e1_fromLawn, .inl (cy 1, 20, .inl s_e1_fromLawnf)), (s_e1_fromDitch, .inl (cy 1, 20, .inl s_e1_fromDitchf)), (s_e1_ontoDitch, .inl (cy 1, 20, .inl s_e1_ontoDitchf)), (s_e2, .inr (2, [.ref s_e2_fromLawn, .ref s_e2_fromDitch, .ref s_e2_ontoDitch])), (s_e2_fromLawn, .inl (cy 1, 20, .inl s_e2_fromLawnf)), (s_e2_fromDitch, .inl (cy 1, 20, .inl s_e2_fromDitchf)), (s_e2_ontoDitch, .inl (cy 1, 20, .inl s_e2_ontoDitchf)), (s_e3, .inr (2, [.ref s_e3_fromLawn, .ref s_e3_fromDitch, .ref s_e3_ontoDitch])), (s_e3_fromLawn, .inl (cy 1, 20, .inl s_e3_fromLawnf)), (s_e3_fromDitch, .inl (cy 1, 20, .inl s_e3_fromDitchf)), (s_e3_ontoDitch, .inl (cy 1, 20, .inl s_e3_ontoDitchf))] (S := Int32) (fun r u => (0 ≤ u.toInt ∧ u.toInt ≤ 3)) (fun u => [(h0, .inr (1, [.ref s_floods, .ref s_starts, .ref s_goals, .int s_walkers, .int s_ditches, .int u])), (s_floods, .inl (cy 4, 4, .inr (.inr (.inr (.inr ((q4 s_e0 s_e1 s_e2 s_e3))))))), (s_starts, .inl (cy 1, 4, .inl s_startsf)), (s_goals, .inl (cy 1, 4, .inl s_goalsf)), (s_e0, .inr (2, [.ref s_e0_fromLawn, .ref s_e0_fromDitch, .ref s_e0_ontoDitch])), (s_e0_fromLawn, .inl (cy 1, 20, .inl s_e0_fromLawnf)), (s_e0_fromDitch, .inl (cy 1, 20, .inl s_e0_fromDitchf)), (s_e0_ontoDitch, .inl (cy 1, 20, .inl s_e0_ontoDitchf)), (s_e1, .inr (2, [.ref s_e1_fromLawn, .ref s_e1_fromDitch, .ref s_e1_ontoDitch])), (s_e1_fromLawn, .inl (cy 1, 20, .inl s_e1_fromLawnf)), (s_e1_fromDitch, .inl (cy 1, 20, .inl s_e1_fromDitchf)), (s_e1_ontoDitch, .inl (cy 1, 20, .inl s_e1_ontoDitchf)), (s_e2, .inr (2, [.ref s_e2_fromLawn, .ref s_e2_fromDitch, .ref s_e2_ontoDitch])), (s_e2_fromLawn, .inl (cy 1, 20, .inl s_e2_fromLawnf)), (s_e2_fromDitch, .inl (cy 1, 20, .inl s_e2_fromDitchf)), (s_e2_ontoDitch, .inl (cy 1, 20, .inl s_e2_ontoDitchf)), (s_e3, .inr (2, [.ref s_e3_fromLawn, .ref s_e3_fromDitch, .ref s_e3_ontoDitch])), (s_e3_fromLawn, .inl (cy 1, 20, .inl s_e3_fromLawnf)), (s_e3_fromDitch, .inl (cy 1, 20, .inl s_e3_fromDitchf)), (s_e3_ontoDitch, .inl (cy 1, 20, .inl s_e3_ontoDitchf))]) := by
  refine ctI.of (by decide +kernel) (Nat.le_of_ble_eq_true rfl) ?_
  intro p e s m args below meth c A ls Q hQ X hr hlocks hin hA hP hD hS hl
  have hx := X.1
  have hb := X.2.1
  have hK := X.2.2.2.2.2.1
  have hl : lv_has ls 7 [(0, .ref h0), (1, .int p1), (2, .int 2), (3, .int p3), (4, .int p4)] := hl
  have dy_1 := ti_bd p1
  have dy_2 := ti_bd p3
  have dy_3 := ti_bd p4
  refine lv_iload_n hx hb dX8_leastOf_0 rfl (lv_at hl 2 rfl) ?_
  refine lv_if_gt (tgt := 21) hx hb dX8_leastOf_1 (by decide) (fun _ => ?_) (fun h_4 => absurd (by decide) h_4)
  refine lv_iconst (v := 0) hx hb dX8_leastOf_21 (by decide) ?_
  refine lv_istore (lv' := [(5, .int 0), (0, .ref h0), (1, .int p1), (2, .int 2), (3, .int p3), (4, .int p4)]) hx hb dX8_leastOf_22 hl (by decide) rfl (fun ls hl => ?_)
  have lp_5 : ∀ (nlp_5 : Nat) (i_6 : Int32) (i_8 : Int32) (H : Heap) (locs : List Loc) (ls : Array Slot), (0 ≤ i_6.toInt ∧ i_6.toInt ≤ 20) → (0 ≤ i_8.toInt ∧ i_8.toInt ≤ 3) → (21 - i_6.toInt ≤ (nlp_5 : Int)) → va_P (dC, dI) vwCl [(h0, .inr (1, [.ref s_floods, .ref s_starts, .ref s_goals, .int s_walkers, .int s_ditches, .int i_8])), (s_floods, .inl (cy 4, 4, .inr (.inr (.inr (.inr ((q4 s_e0 s_e1 s_e2 s_e3))))))), (s_starts, .inl (cy 1, 4, .inl s_startsf)), (s_goals, .inl (cy 1, 4, .inl s_goalsf)), (s_e0, .inr (2, [.ref s_e0_fromLawn, .ref s_e0_fromDitch, .ref s_e0_ontoDitch])), (s_e0_fromLawn, .inl (cy 1, 20, .inl s_e0_fromLawnf)), (s_e0_fromDitch, .inl (cy 1, 20, .inl s_e0_fromDitchf)), (s_e0_ontoDitch, .inl (cy 1, 20, .inl s_e0_ontoDitchf)), (s_e1, .inr (2, [.ref s_e1_fromLawn, .ref s_e1_fromDitch, .ref s_e1_ontoDitch])), (s_e1_fromLawn, .inl (cy 1, 20, .inl s_e1_fromLawnf)), (s_e1_fromDitch, .inl (cy 1, 20, .inl s_e1_fromDitchf)), (s_e1_ontoDitch, .inl (cy 1, 20, .inl s_e1_ontoDitchf)), (s_e2, .inr (2, [.ref s_e2_fromLawn, .ref s_e2_fromDitch, .ref s_e2_ontoDitch])), (s_e2_fromLawn, .inl (cy 1, 20, .inl s_e2_fromLawnf)), (s_e2_fromDitch, .inl (cy 1, 20, .inl s_e2_fromDitchf)), (s_e2_ontoDitch, .inl (cy 1, 20, .inl s_e2_ontoDitchf)), (s_e3, .inr (2, [.ref s_e3_fromLawn, .ref s_e3_fromDitch, .ref s_e3_ontoDitch])), (s_e3_fromLawn, .inl (cy 1, 20, .inl s_e3_fromLawnf)), (s_e3_fromDitch, .inl (cy 1, 20, .inl s_e3_fromDitchf)), (s_e3_ontoDitch, .inl (cy 1, 20, .inl s_e3_ontoDitchf))] H → va_D A [(h0, .inr (1, [.ref s_floods, .ref s_starts, .ref s_goals, .int s_walkers, .int s_ditches, .int i_8])), (s_floods, .inl (cy 4, 4, .inr (.inr (.inr (.inr ((q4 s_e0 s_e1 s_e2 s_e3))))))), (s_starts, .inl (cy 1, 4, .inl s_startsf)), (s_goals, .inl (cy 1, 4, .inl s_goalsf)), (s_e0, .inr (2, [.ref s_e0_fromLawn, .ref s_e0_fromDitch, .ref s_e0_ontoDitch])), (s_e0_fromLawn, .inl (cy 1, 20, .inl s_e0_fromLawnf)), (s_e0_fromDitch, .inl (cy 1, 20, .inl s_e0_fromDitchf)), (s_e0_ontoDitch, .inl (cy 1, 20, .inl s_e0_ontoDitchf)), (s_e1, .inr (2, [.ref s_e1_fromLawn, .ref s_e1_fromDitch, .ref s_e1_ontoDitch])), (s_e1_fromLawn, .inl (cy 1, 20, .inl s_e1_fromLawnf)), (s_e1_fromDitch, .inl (cy 1, 20, .inl s_e1_fromDitchf)), (s_e1_ontoDitch, .inl (cy 1, 20, .inl s_e1_ontoDitchf)), (s_e2, .inr (2, [.ref s_e2_fromLawn, .ref s_e2_fromDitch, .ref s_e2_ontoDitch])), (s_e2_fromLawn, .inl (cy 1, 20, .inl s_e2_fromLawnf)), (s_e2_fromDitch, .inl (cy 1, 20, .inl s_e2_fromDitchf)), (s_e2_ontoDitch, .inl (cy 1, 20, .inl s_e2_ontoDitchf)), (s_e3, .inr (2, [.ref s_e3_fromLawn, .ref s_e3_fromDitch, .ref s_e3_ontoDitch])), (s_e3_fromLawn, .inl (cy 1, 20, .inl s_e3_fromLawnf)), (s_e3_fromDitch, .inl (cy 1, 20, .inl s_e3_fromDitchf)), (s_e3_ontoDitch, .inl (cy 1, 20, .inl s_e3_ontoDitchf))] → va_S A s.heap H locs → lv_has ls 7 [(5, .int i_6), (0, .ref h0), (1, .int p1), (2, .int 2), (3, .int p3), (4, .int p4)] → W p l e ({ frames := 6, cells := 0, slots := 0, locals := 149 } : Room) s m args below meth c H locs 0 0 Q (F0 m 24 ls []) := by
    intro nlp_5
    induction nlp_5 with
    | zero =>
      intro i_6 i_8 H locs ls b_7 b_9 hmlp_5 hP hD hS hl
      exfalso
      have di_6 := ti_bd i_6
      have di_8 := ti_bd i_8
      omega
    | succ nlp_5 ihlp_5 =>
      intro i_6 i_8 H locs ls b_7 b_9 hmlp_5 hP hD hS hl
      refine lv_iload hx hb dX8_leastOf_24 (lv_at hl 0 rfl) ?_
      refine lv_iload_n hx hb dX8_leastOf_26 rfl (lv_at hl 4 rfl) ?_
      refine lv_icmp_ge (tgt := 75) hx hb dX8_leastOf_27 (by decide) (fun h_10 => ?_) (fun h_10 => ?_)
      · have h_10 : p3.toInt ≤ i_6.toInt := c_le h_10
        refine lv_bipush (v := -2) hx hb dX8_leastOf_75 (by decide) ?_
        exact eI hQ X hr hlocks hP hD hS i_8 [0, 1, 2, 3, 4, 5, 6, 7, 8, 9, 10, 11, 12, 13, 14, 15, 16, 17, 18, 19] (by decide +kernel) rfl rfl (show (0 ≤ i_8.toInt ∧ i_8.toInt ≤ 3) from b_9) (Nat.le_of_ble_eq_true rfl) (Nat.le_of_ble_eq_true rfl) dX8_leastOf_77
      · have h_10 : i_6.toInt < p3.toInt := c_nle h_10
        refine lv_iload_n hx hb dX8_leastOf_30 rfl (lv_at hl 2 rfl) ?_
        refine lv_iload hx hb dX8_leastOf_31 (lv_at hl 0 rfl) ?_
        refine lv_ishr hx hb dX8_leastOf_33 ?_
        refine lv_topi (fun x_11 ex_11 => ?_)
        refine lv_iconst (v := 1) hx hb dX8_leastOf_34 (by decide) ?_
        refine lv_iand hx hb dX8_leastOf_35 ?_
        have dy_12 := ti_bd x_11
        refine lv_topi (fun x_13 ex_13 => ?_)
        have tx_13 : x_13.toInt = 0 ∨ x_13.toInt = 1 := ti_and1 ex_13
        refine lv_iconst (v := 1) hx hb dX8_leastOf_36 (by decide) ?_
        refine lv_icmp_ne (tgt := 69) hx hb dX8_leastOf_37 (by decide) (fun h_14 => ?_) (fun h_14 => ?_)
        · have h_14 : x_13.toInt ≠ 1 := c_ne h_14
          obtain ⟨x_15, ex_15⟩ : ∃ y : Int32, y = i_6 + 1 := ⟨_, rfl⟩
          have tx_15 : x_15.toInt = i_6.toInt + 1 := ti_add (A := i_6.toInt) (B := 1) ex_15 rfl rfl (by omega) (by omega)
          refine lv_iinc (v := x_15) (lv' := [(5, .int x_15), (0, .ref h0), (1, .int p1), (2, .int 2), (3, .int p3), (4, .int p4)]) hx hb dX8_leastOf_69 hl (k := 0) rfl (by rw [ex_15]; rfl) (by decide) rfl (fun ls hl => ?_)
          refine lv_goto (tgt := 24) hx hb dX8_leastOf_72 (by decide) ?_
          exact ihlp_5 x_15 i_8 _ _ _ (by omega) (by omega) (show 21 - x_15.toInt ≤ (nlp_5 : Int) by omega) hP hD hS (lv_sub hl [0, 1, 2, 3, 4, 5] rfl)
        · have h_14 : x_13.toInt = 1 := c_eq h_14
          refine lv_aload_n hx hb dX8_leastOf_40 rfl (lv_at hl 1 rfl) ?_
          refine lv_iload_n hx hb dX8_leastOf_41 rfl (lv_at hl 2 rfl) ?_
          refine lv_iload_n hx hb dX8_leastOf_42 rfl (lv_at hl 3 rfl) ?_
          refine lv_iconst (v := 1) hx hb dX8_leastOf_43 (by decide) ?_
          refine lv_isub hx hb dX8_leastOf_44 ?_
          refine lv_topi (fun x_16 ex_16 => ?_)
          have ex_16 : x_16 = 1 := ex_16.trans (by decide)
          subst ex_16
          refine lv_iload hx hb dX8_leastOf_45 (lv_at hl 0 rfl) ?_
          refine lv_iload hx hb dX8_leastOf_47 (lv_at hl 5 rfl) ?_
          refine lv_iconst (v := 1) hx hb dX8_leastOf_49 (by decide) ?_
          refine lv_iload hx hb dX8_leastOf_50 (lv_at hl 0 rfl) ?_
          refine lv_ishl hx hb dX8_leastOf_52 ?_
          refine lv_topi (fun x_17 ex_17 => ?_)
          have tx_17 : 0 ≤ x_17.toInt ∧ x_17.toInt ≤ 1048575 := ti_shl1 ex_17 (by omega) (by omega)
          refine lv_ior hx hb dX8_leastOf_53 ?_
          refine lv_topi (fun x_18 ex_18 => ?_)
          refine sl_Ic (rU_I (wc := [(h0, .inr (1, [.ref s_floods, .ref s_starts, .ref s_goals, .int s_walkers, .int s_ditches, .int i_8])), (s_floods, .inl (cy 4, 4, .inr (.inr (.inr (.inr ((q4 s_e0 s_e1 s_e2 s_e3))))))), (s_starts, .inl (cy 1, 4, .inl s_startsf)), (s_goals, .inl (cy 1, 4, .inl s_goalsf)), (s_e0, .inr (2, [.ref s_e0_fromLawn, .ref s_e0_fromDitch, .ref s_e0_ontoDitch])), (s_e0_fromLawn, .inl (cy 1, 20, .inl s_e0_fromLawnf)), (s_e0_fromDitch, .inl (cy 1, 20, .inl s_e0_fromDitchf)), (s_e0_ontoDitch, .inl (cy 1, 20, .inl s_e0_ontoDitchf)), (s_e1, .inr (2, [.ref s_e1_fromLawn, .ref s_e1_fromDitch, .ref s_e1_ontoDitch])), (s_e1_fromLawn, .inl (cy 1, 20, .inl s_e1_fromLawnf)), (s_e1_fromDitch, .inl (cy 1, 20, .inl s_e1_fromDitchf)), (s_e1_ontoDitch, .inl (cy 1, 20, .inl s_e1_ontoDitchf)), (s_e2, .inr (2, [.ref s_e2_fromLawn, .ref s_e2_fromDitch, .ref s_e2_ontoDitch])), (s_e2_fromLawn, .inl (cy 1, 20, .inl s_e2_fromLawnf)), (s_e2_fromDitch, .inl (cy 1, 20, .inl s_e2_fromDitchf)), (s_e2_ontoDitch, .inl (cy 1, 20, .inl s_e2_ontoDitchf)), (s_e3, .inr (2, [.ref s_e3_fromLawn, .ref s_e3_fromDitch, .ref s_e3_ontoDitch])), (s_e3_fromLawn, .inl (cy 1, 20, .inl s_e3_fromLawnf)), (s_e3_fromDitch, .inl (cy 1, 20, .inl s_e3_fromDitchf)), (s_e3_ontoDitch, .inl (cy 1, 20, .inl s_e3_ontoDitchf))]) (As := [.int p1, .int 1, .int i_6, .int x_18]) (rest := []) X hp_st (fun _ _ _ h => h) (sX8_leastOf_d1 l dC dI cy h0 s_floods s_starts s_goals s_walkers s_ditches i_8 s_e0 s_e1 s_e2 s_e3 s_startsf s_goalsf s_e0_fromLawn s_e0_fromDitch s_e0_ontoDitch s_e0_fromLawnf s_e0_fromDitchf s_e0_ontoDitchf s_e1_fromLawn s_e1_fromDitch s_e1_ontoDitch s_e1_fromLawnf s_e1_fromDitchf s_e1_ontoDitchf s_e2_fromLawn s_e2_fromDitch s_e2_ontoDitch s_e2_fromLawnf s_e2_fromDitchf s_e2_ontoDitchf s_e3_fromLawn s_e3_fromDitch s_e3_ontoDitch s_e3_fromLawnf s_e3_fromDitchf s_e3_ontoDitchf p1 i_6 x_18 hs_walkers b_9 hs_startsf hs_e0_fromLawnf hs_e0_fromDitchf hs_e0_ontoDitchf hs_e1_fromLawnf hs_e1_fromDitchf hs_e1_ontoDitchf hs_e2_fromLawnf hs_e2_fromDitchf hs_e2_ontoDitchf hs_e3_fromLawnf hs_e3_fromDitchf hs_e3_ontoDitchf (by first | decide | omega)) kX8_leastOf u_RX1_leastOf w_984 hP hD hS hA [0, 1, 2, 3, 4, 5, 6, 7, 8, 9, 10, 11, 12, 13, 14, 15, 16, 17, 18, 19] (by decide +kernel) rfl 0 (ci := 1) rfl rfl rfl hl rfl rfl (Nat.le_of_ble_eq_true rfl) dX8_leastOf_54 ⟨(Nat.le_of_ble_eq_true rfl), (Nat.le_of_ble_eq_true rfl)⟩ ⟨(Nat.le_of_ble_eq_true rfl), (Nat.le_of_ble_eq_true rfl)⟩) hP hD hS hA [0, 1, 2, 3, 4, 5, 6, 7, 8, 9, 10, 11, 12, 13, 14, 15, 16, 17, 18, 19] [false, false, false, false, false, false, false, false, false, false, false, false, false, false, false, false, false, false, false, false] rfl rfl rfl (fun r_20 u_22 H locs k_21 hP hD hS => ?_)
          obtain ⟨s_lost1_19, eu_22⟩ : ∃ z, z = u_22 := ⟨_, rfl⟩
          subst eu_22
          have k_21 : (0 ≤ s_lost1_19.toInt ∧ s_lost1_19.toInt ≤ 3) := k_21
          have hPD := vPD (ws' := [(h0, .inr (1, [.ref s_floods, .ref s_starts, .ref s_goals, .int s_walkers, .int s_ditches, .int s_lost1_19])), (s_floods, .inl (cy 4, 4, .inr (.inr (.inr (.inr ((q4 s_e0 s_e1 s_e2 s_e3))))))), (s_starts, .inl (cy 1, 4, .inl s_startsf)), (s_goals, .inl (cy 1, 4, .inl s_goalsf)), (s_e0, .inr (2, [.ref s_e0_fromLawn, .ref s_e0_fromDitch, .ref s_e0_ontoDitch])), (s_e0_fromLawn, .inl (cy 1, 20, .inl s_e0_fromLawnf)), (s_e0_fromDitch, .inl (cy 1, 20, .inl s_e0_fromDitchf)), (s_e0_ontoDitch, .inl (cy 1, 20, .inl s_e0_ontoDitchf)), (s_e1, .inr (2, [.ref s_e1_fromLawn, .ref s_e1_fromDitch, .ref s_e1_ontoDitch])), (s_e1_fromLawn, .inl (cy 1, 20, .inl s_e1_fromLawnf)), (s_e1_fromDitch, .inl (cy 1, 20, .inl s_e1_fromDitchf)), (s_e1_ontoDitch, .inl (cy 1, 20, .inl s_e1_ontoDitchf)), (s_e2, .inr (2, [.ref s_e2_fromLawn, .ref s_e2_fromDitch, .ref s_e2_ontoDitch])), (s_e2_fromLawn, .inl (cy 1, 20, .inl s_e2_fromLawnf)), (s_e2_fromDitch, .inl (cy 1, 20, .inl s_e2_fromDitchf)), (s_e2_ontoDitch, .inl (cy 1, 20, .inl s_e2_ontoDitchf)), (s_e3, .inr (2, [.ref s_e3_fromLawn, .ref s_e3_fromDitch, .ref s_e3_ontoDitch])), (s_e3_fromLawn, .inl (cy 1, 20, .inl s_e3_fromLawnf)), (s_e3_fromDitch, .inl (cy 1, 20, .inl s_e3_fromDitchf)), (s_e3_ontoDitch, .inl (cy 1, 20, .inl s_e3_ontoDitchf))]) hP hD rfl
          have hP := hPD.1
          have hD := hPD.2
          refine lv_istore (lv' := [(6, .int r_20), (5, .int i_6), (0, .ref h0), (1, .int p1), (2, .int 2), (3, .int p3), (4, .int p4)]) hx hb dX8_leastOf_57 hl (by decide) rfl (fun ls hl => ?_)
          refine lv_iload hx hb dX8_leastOf_59 (lv_at hl 0 rfl) ?_
          refine lv_bipush (v := -2) hx hb dX8_leastOf_61 (by decide) ?_
          refine lv_icmp_eq (tgt := 69) hx hb dX8_leastOf_63 (by decide) (fun h_23 => ?_) (fun h_23 => ?_)
          · have h_23 : r_20.toInt = (-2) := c_eq h_23
            obtain ⟨x_24, ex_24⟩ : ∃ y : Int32, y = i_6 + 1 := ⟨_, rfl⟩
            have tx_24 : x_24.toInt = i_6.toInt + 1 := ti_add (A := i_6.toInt) (B := 1) ex_24 rfl rfl (by omega) (by omega)
            refine lv_iinc (v := x_24) (lv' := [(5, .int x_24), (6, .int r_20), (0, .ref h0), (1, .int p1), (2, .int 2), (3, .int p3), (4, .int p4)]) hx hb dX8_leastOf_69 hl (k := 1) rfl (by rw [ex_24]; rfl) (by decide) rfl (fun ls hl => ?_)
            refine lv_goto (tgt := 24) hx hb dX8_leastOf_72 (by decide) ?_
            exact ihlp_5 x_24 s_lost1_19 _ _ _ (by omega) (by omega) (show 21 - x_24.toInt ≤ (nlp_5 : Int) by omega) hP hD hS (lv_sub hl [0, 2, 3, 4, 5, 6] rfl)
          · have h_23 : r_20.toInt ≠ (-2) := c_ne h_23
            refine lv_iload hx hb dX8_leastOf_66 (lv_at hl 0 rfl) ?_
            exact eI hQ X hr hlocks hP hD hS s_lost1_19 [0, 1, 2, 3, 4, 5, 6, 7, 8, 9, 10, 11, 12, 13, 14, 15, 16, 17, 18, 19] (by decide +kernel) rfl rfl (show (0 ≤ s_lost1_19.toInt ∧ s_lost1_19.toInt ≤ 3) from k_21) (Nat.le_of_ble_eq_true rfl) (Nat.le_of_ble_eq_true rfl) dX8_leastOf_68
  exact lp_5 21 0 s_lost _ _ _ (by decide) (by omega) (show 21 - 0 ≤ ((21 : Nat) : Int) by omega) hP hD hS hl
set_option maxHeartbeats 4000000 in
set_option maxRecDepth 100000 in
theorem sX8_leastOf_d3 (l : Launch) (dC : Nat → ClassId) (dI : Nat → Nat → Nat) (cy : Nat → ClassId) (h0 : Nat) (s_floods : Nat) (s_starts : Nat) (s_goals : Nat) (s_walkers : Int32) (s_ditches : Int32) (s_lost : Int32) (s_e0 : Nat) (s_e1 : Nat) (s_e2 : Nat) (s_e3 : Nat) (s_startsf : Nat → Int32) (s_goalsf : Nat → Int32) (s_e0_fromLawn : Nat) (s_e0_fromDitch : Nat) (s_e0_ontoDitch : Nat) (s_e0_fromLawnf : Nat → Int32) (s_e0_fromDitchf : Nat → Int32) (s_e0_ontoDitchf : Nat → Int32) (s_e1_fromLawn : Nat) (s_e1_fromDitch : Nat) (s_e1_ontoDitch : Nat) (s_e1_fromLawnf : Nat → Int32) (s_e1_fromDitchf : Nat → Int32) (s_e1_ontoDitchf : Nat → Int32) (s_e2_fromLawn : Nat) (s_e2_fromDitch : Nat) (s_e2_ontoDitch : Nat) (s_e2_fromLawnf : Nat → Int32) (s_e2_fromDitchf : Nat → Int32) (s_e2_ontoDitchf : Nat → Int32) (s_e3_fromLawn : Nat) (s_e3_fromDitch : Nat) (s_e3_ontoDitch : Nat) (s_e3_fromLawnf : Nat → Int32) (s_e3_fromDitchf : Nat → Int32) (s_e3_ontoDitchf : Nat → Int32) (p1 : Int32) (p3 : Int32) (p4 : Int32) (hs_walkers : 0 ≤ s_walkers.toInt ∧ s_walkers.toInt ≤ 4) (hs_lost : 0 ≤ s_lost.toInt ∧ s_lost.toInt ≤ 3) (hs_startsf : rb s_startsf 4 0 19) (hs_e0_fromLawnf : rb s_e0_fromLawnf 20 0 1048575) (hs_e0_fromDitchf : rb s_e0_fromDitchf 20 0 1048575) (hs_e0_ontoDitchf : rb s_e0_ontoDitchf 20 0 1048575) (hs_e1_fromLawnf : rb s_e1_fromLawnf 20 0 1048575) (hs_e1_fromDitchf : rb s_e1_fromDitchf 20 0 1048575) (hs_e1_ontoDitchf : rb s_e1_ontoDitchf 20 0 1048575) (hs_e2_fromLawnf : rb s_e2_fromLawnf 20 0 1048575) (hs_e2_fromDitchf : rb s_e2_fromDitchf 20 0 1048575) (hs_e2_ontoDitchf : rb s_e2_ontoDitchf 20 0 1048575) (hs_e3_fromLawnf : rb s_e3_fromLawnf 20 0 1048575) (hs_e3_fromDitchf : rb s_e3_fromDitchf 20 0 1048575) (hs_e3_ontoDitchf : rb s_e3_ontoDitchf 20 0 1048575) (hp3 : p3.toInt ≤ 20) : ctI l dC dI cy hp yX8_leastOf cX8_leastOf 7 .int ({ frames := 7, cells := 0, slots := 0, locals := 175 } : Room) [.ref h0, .int p1, .int 3, .int p3, .int p4] [(h0, .inr (1, [.ref s_floods, .ref s_starts, .ref s_goals, .int s_walkers, .int s_ditches, .int s_lost])), (s_floods, .inl (cy 4, 4, .inr (.inr (.inr (.inr ((q4 s_e0 s_e1 s_e2 s_e3))))))), (s_starts, .inl (cy 1, 4, .inl s_startsf)), (s_goals, .inl (cy 1, 4, .inl s_goalsf)), (s_e0, .inr (2, [.ref s_e0_fromLawn, .ref s_e0_fromDitch, .ref s_e0_ontoDitch])), (s_e0_fromLawn, .inl (cy 1, 20, .inl s_e0_fromLawnf)), (s_e0_fromDitch, .inl (cy 1, 20, .inl s_e0_fromDitchf)), (s_e0_ontoDitch, .inl (cy 1, 20, .inl s_e0_ontoDitchf)), (s_e1, .inr (2, [.ref s_e1_fromLawn, .ref s_e1_fromDitch, .ref s_e1_ontoDitch])), (s_e1_fromLawn, .inl (cy 1, 20, .inl s_e1_fromLawnf)), (s_e1_fromDitch, .inl (cy 1, 20, .inl s_e1_fromDitchf)), (s_e1_ontoDitch, .inl (cy 1, 20, .inl s_e1_ontoDitchf)), (s_e2, .inr (2, [.ref s_e2_fromLawn, .ref s_e2_fromDitch, .ref s_e2_ontoDitch])), (s_e2_fromLawn, .inl (cy 1, 20, .inl s_e2_fromLawnf)), (s_e2_fromDitch, .inl (cy 1, 20, .inl s_e2_fromDitchf)), (s_e2_ontoDitch, .inl (cy 1, 20, .inl s_e2_ontoDitchf)), (s_e3, .inr (2, [.ref s_e3_fromLawn, .ref s_e3_fromDitch, .ref s_e3_ontoDitch])), (s_e3_fromLawn, .inl (cy 1, 20, .inl s_e3_fromLawnf)), (s_e3_fromDitch, .inl (cy 1, 20, .inl s_e3_fromDitchf)), (s_e3_ontoDitch, .inl (cy 1, 20, .inl s_e3_ontoDitchf))] (S := Int32) (fun r u => (0 ≤ u.toInt ∧ u.toInt ≤ 3)) (fun u => [(h0, .inr (1, [.ref s_floods, .ref s_starts, .ref s_goals, .int s_walkers, .int s_ditches, .int u])), (s_floods, .inl (cy 4, 4, .inr (.inr (.inr (.inr ((q4 s_e0 s_e1 s_e2 s_e3))))))), (s_starts, .inl (cy 1, 4, .inl s_startsf)), (s_goals, .inl (cy 1, 4, .inl s_goalsf)), (s_e0, .inr (2, [.ref s_e0_fromLawn, .ref s_e0_fromDitch, .ref s_e0_ontoDitch])), (s_e0_fromLawn, .inl (cy 1, 20, .inl s_e0_fromLawnf)), (s_e0_fromDitch, .inl (cy 1, 20, .inl s_e0_fromDitchf)), (s_e0_ontoDitch, .inl (cy 1, 20, .inl s_e0_ontoDitchf)), (s_e1, .inr (2, [.ref s_e1_fromLawn, .ref s_e1_fromDitch, .ref s_e1_ontoDitch])), (s_e1_fromLawn, .inl (cy 1, 20, .inl s_e1_fromLawnf)), (s_e1_fromDitch, .inl (cy 1, 20, .inl s_e1_fromDitchf)), (s_e1_ontoDitch, .inl (cy 1, 20, .inl s_e1_ontoDitchf)), (s_e2, .inr (2, [.ref s_e2_fromLawn, .ref s_e2_fromDitch, .ref s_e2_ontoDitch])), (s_e2_fromLawn, .inl (cy 1, 20, .inl s_e2_fromLawnf)), (s_e2_fromDitch, .inl (cy 1, 20, .inl s_e2_fromDitchf)), (s_e2_ontoDitch, .inl (cy 1, 20, .inl s_e2_ontoDitchf)), (s_e3, .inr (2, [.ref s_e3_fromLawn, .ref s_e3_fromDitch, .ref s_e3_ontoDitch])), (s_e3_fromLawn, .inl (cy 1, 20, .inl s_e3_fromLawnf)), (s_e3_fromDitch, .inl (cy 1, 20, .inl s_e3_fromDitchf)), (s_e3_ontoDitch, .inl (cy 1, 20, .inl s_e3_ontoDitchf))]) := by
  refine ctI.of (by decide +kernel) (Nat.le_of_ble_eq_true rfl) ?_
  intro p e s m args below meth c A ls Q hQ X hr hlocks hin hA hP hD hS hl
  have hx := X.1
  have hb := X.2.1
  have hK := X.2.2.2.2.2.1
  have hl : lv_has ls 7 [(0, .ref h0), (1, .int p1), (2, .int 3), (3, .int p3), (4, .int p4)] := hl
  have dy_1 := ti_bd p1
  have dy_2 := ti_bd p3
  have dy_3 := ti_bd p4
  refine lv_iload_n hx hb dX8_leastOf_0 rfl (lv_at hl 2 rfl) ?_
  refine lv_if_gt (tgt := 21) hx hb dX8_leastOf_1 (by decide) (fun _ => ?_) (fun h_4 => absurd (by decide) h_4)
  refine lv_iconst (v := 0) hx hb dX8_leastOf_21 (by decide) ?_
  refine lv_istore (lv' := [(5, .int 0), (0, .ref h0), (1, .int p1), (2, .int 3), (3, .int p3), (4, .int p4)]) hx hb dX8_leastOf_22 hl (by decide) rfl (fun ls hl => ?_)
  have lp_5 : ∀ (nlp_5 : Nat) (i_6 : Int32) (i_8 : Int32) (H : Heap) (locs : List Loc) (ls : Array Slot), (0 ≤ i_6.toInt ∧ i_6.toInt ≤ 20) → (0 ≤ i_8.toInt ∧ i_8.toInt ≤ 3) → (21 - i_6.toInt ≤ (nlp_5 : Int)) → va_P (dC, dI) vwCl [(h0, .inr (1, [.ref s_floods, .ref s_starts, .ref s_goals, .int s_walkers, .int s_ditches, .int i_8])), (s_floods, .inl (cy 4, 4, .inr (.inr (.inr (.inr ((q4 s_e0 s_e1 s_e2 s_e3))))))), (s_starts, .inl (cy 1, 4, .inl s_startsf)), (s_goals, .inl (cy 1, 4, .inl s_goalsf)), (s_e0, .inr (2, [.ref s_e0_fromLawn, .ref s_e0_fromDitch, .ref s_e0_ontoDitch])), (s_e0_fromLawn, .inl (cy 1, 20, .inl s_e0_fromLawnf)), (s_e0_fromDitch, .inl (cy 1, 20, .inl s_e0_fromDitchf)), (s_e0_ontoDitch, .inl (cy 1, 20, .inl s_e0_ontoDitchf)), (s_e1, .inr (2, [.ref s_e1_fromLawn, .ref s_e1_fromDitch, .ref s_e1_ontoDitch])), (s_e1_fromLawn, .inl (cy 1, 20, .inl s_e1_fromLawnf)), (s_e1_fromDitch, .inl (cy 1, 20, .inl s_e1_fromDitchf)), (s_e1_ontoDitch, .inl (cy 1, 20, .inl s_e1_ontoDitchf)), (s_e2, .inr (2, [.ref s_e2_fromLawn, .ref s_e2_fromDitch, .ref s_e2_ontoDitch])), (s_e2_fromLawn, .inl (cy 1, 20, .inl s_e2_fromLawnf)), (s_e2_fromDitch, .inl (cy 1, 20, .inl s_e2_fromDitchf)), (s_e2_ontoDitch, .inl (cy 1, 20, .inl s_e2_ontoDitchf)), (s_e3, .inr (2, [.ref s_e3_fromLawn, .ref s_e3_fromDitch, .ref s_e3_ontoDitch])), (s_e3_fromLawn, .inl (cy 1, 20, .inl s_e3_fromLawnf)), (s_e3_fromDitch, .inl (cy 1, 20, .inl s_e3_fromDitchf)), (s_e3_ontoDitch, .inl (cy 1, 20, .inl s_e3_ontoDitchf))] H → va_D A [(h0, .inr (1, [.ref s_floods, .ref s_starts, .ref s_goals, .int s_walkers, .int s_ditches, .int i_8])), (s_floods, .inl (cy 4, 4, .inr (.inr (.inr (.inr ((q4 s_e0 s_e1 s_e2 s_e3))))))), (s_starts, .inl (cy 1, 4, .inl s_startsf)), (s_goals, .inl (cy 1, 4, .inl s_goalsf)), (s_e0, .inr (2, [.ref s_e0_fromLawn, .ref s_e0_fromDitch, .ref s_e0_ontoDitch])), (s_e0_fromLawn, .inl (cy 1, 20, .inl s_e0_fromLawnf)), (s_e0_fromDitch, .inl (cy 1, 20, .inl s_e0_fromDitchf)), (s_e0_ontoDitch, .inl (cy 1, 20, .inl s_e0_ontoDitchf)), (s_e1, .inr (2, [.ref s_e1_fromLawn, .ref s_e1_fromDitch, .ref s_e1_ontoDitch])), (s_e1_fromLawn, .inl (cy 1, 20, .inl s_e1_fromLawnf)), (s_e1_fromDitch, .inl (cy 1, 20, .inl s_e1_fromDitchf)), (s_e1_ontoDitch, .inl (cy 1, 20, .inl s_e1_ontoDitchf)), (s_e2, .inr (2, [.ref s_e2_fromLawn, .ref s_e2_fromDitch, .ref s_e2_ontoDitch])), (s_e2_fromLawn, .inl (cy 1, 20, .inl s_e2_fromLawnf)), (s_e2_fromDitch, .inl (cy 1, 20, .inl s_e2_fromDitchf)), (s_e2_ontoDitch, .inl (cy 1, 20, .inl s_e2_ontoDitchf)), (s_e3, .inr (2, [.ref s_e3_fromLawn, .ref s_e3_fromDitch, .ref s_e3_ontoDitch])), (s_e3_fromLawn, .inl (cy 1, 20, .inl s_e3_fromLawnf)), (s_e3_fromDitch, .inl (cy 1, 20, .inl s_e3_fromDitchf)), (s_e3_ontoDitch, .inl (cy 1, 20, .inl s_e3_ontoDitchf))] → va_S A s.heap H locs → lv_has ls 7 [(5, .int i_6), (0, .ref h0), (1, .int p1), (2, .int 3), (3, .int p3), (4, .int p4)] → W p l e ({ frames := 7, cells := 0, slots := 0, locals := 175 } : Room) s m args below meth c H locs 0 0 Q (F0 m 24 ls []) := by
    intro nlp_5
    induction nlp_5 with
    | zero =>
      intro i_6 i_8 H locs ls b_7 b_9 hmlp_5 hP hD hS hl
      exfalso
      have di_6 := ti_bd i_6
      have di_8 := ti_bd i_8
      omega
    | succ nlp_5 ihlp_5 =>
      intro i_6 i_8 H locs ls b_7 b_9 hmlp_5 hP hD hS hl
      refine lv_iload hx hb dX8_leastOf_24 (lv_at hl 0 rfl) ?_
      refine lv_iload_n hx hb dX8_leastOf_26 rfl (lv_at hl 4 rfl) ?_
      refine lv_icmp_ge (tgt := 75) hx hb dX8_leastOf_27 (by decide) (fun h_10 => ?_) (fun h_10 => ?_)
      · have h_10 : p3.toInt ≤ i_6.toInt := c_le h_10
        refine lv_bipush (v := -2) hx hb dX8_leastOf_75 (by decide) ?_
        exact eI hQ X hr hlocks hP hD hS i_8 [0, 1, 2, 3, 4, 5, 6, 7, 8, 9, 10, 11, 12, 13, 14, 15, 16, 17, 18, 19] (by decide +kernel) rfl rfl (show (0 ≤ i_8.toInt ∧ i_8.toInt ≤ 3) from b_9) (Nat.le_of_ble_eq_true rfl) (Nat.le_of_ble_eq_true rfl) dX8_leastOf_77
      · have h_10 : i_6.toInt < p3.toInt := c_nle h_10
        refine lv_iload_n hx hb dX8_leastOf_30 rfl (lv_at hl 2 rfl) ?_
        refine lv_iload hx hb dX8_leastOf_31 (lv_at hl 0 rfl) ?_
        refine lv_ishr hx hb dX8_leastOf_33 ?_
        refine lv_topi (fun x_11 ex_11 => ?_)
        refine lv_iconst (v := 1) hx hb dX8_leastOf_34 (by decide) ?_
        refine lv_iand hx hb dX8_leastOf_35 ?_
        have dy_12 := ti_bd x_11
        refine lv_topi (fun x_13 ex_13 => ?_)
        have tx_13 : x_13.toInt = 0 ∨ x_13.toInt = 1 := ti_and1 ex_13
        refine lv_iconst (v := 1) hx hb dX8_leastOf_36 (by decide) ?_
        refine lv_icmp_ne (tgt := 69) hx hb dX8_leastOf_37 (by decide) (fun h_14 => ?_) (fun h_14 => ?_)
        · have h_14 : x_13.toInt ≠ 1 := c_ne h_14
          obtain ⟨x_15, ex_15⟩ : ∃ y : Int32, y = i_6 + 1 := ⟨_, rfl⟩
          have tx_15 : x_15.toInt = i_6.toInt + 1 := ti_add (A := i_6.toInt) (B := 1) ex_15 rfl rfl (by omega) (by omega)
          refine lv_iinc (v := x_15) (lv' := [(5, .int x_15), (0, .ref h0), (1, .int p1), (2, .int 3), (3, .int p3), (4, .int p4)]) hx hb dX8_leastOf_69 hl (k := 0) rfl (by rw [ex_15]; rfl) (by decide) rfl (fun ls hl => ?_)
          refine lv_goto (tgt := 24) hx hb dX8_leastOf_72 (by decide) ?_
          exact ihlp_5 x_15 i_8 _ _ _ (by omega) (by omega) (show 21 - x_15.toInt ≤ (nlp_5 : Int) by omega) hP hD hS (lv_sub hl [0, 1, 2, 3, 4, 5] rfl)
        · have h_14 : x_13.toInt = 1 := c_eq h_14
          refine lv_aload_n hx hb dX8_leastOf_40 rfl (lv_at hl 1 rfl) ?_
          refine lv_iload_n hx hb dX8_leastOf_41 rfl (lv_at hl 2 rfl) ?_
          refine lv_iload_n hx hb dX8_leastOf_42 rfl (lv_at hl 3 rfl) ?_
          refine lv_iconst (v := 1) hx hb dX8_leastOf_43 (by decide) ?_
          refine lv_isub hx hb dX8_leastOf_44 ?_
          refine lv_topi (fun x_16 ex_16 => ?_)
          have ex_16 : x_16 = 2 := ex_16.trans (by decide)
          subst ex_16
          refine lv_iload hx hb dX8_leastOf_45 (lv_at hl 0 rfl) ?_
          refine lv_iload hx hb dX8_leastOf_47 (lv_at hl 5 rfl) ?_
          refine lv_iconst (v := 1) hx hb dX8_leastOf_49 (by decide) ?_
          refine lv_iload hx hb dX8_leastOf_50 (lv_at hl 0 rfl) ?_
          refine lv_ishl hx hb dX8_leastOf_52 ?_
          refine lv_topi (fun x_17 ex_17 => ?_)
          have tx_17 : 0 ≤ x_17.toInt ∧ x_17.toInt ≤ 1048575 := ti_shl1 ex_17 (by omega) (by omega)
          refine lv_ior hx hb dX8_leastOf_53 ?_
          refine lv_topi (fun x_18 ex_18 => ?_)
          refine sl_Ic (rU_I (wc := [(h0, .inr (1, [.ref s_floods, .ref s_starts, .ref s_goals, .int s_walkers, .int s_ditches, .int i_8])), (s_floods, .inl (cy 4, 4, .inr (.inr (.inr (.inr ((q4 s_e0 s_e1 s_e2 s_e3))))))), (s_starts, .inl (cy 1, 4, .inl s_startsf)), (s_goals, .inl (cy 1, 4, .inl s_goalsf)), (s_e0, .inr (2, [.ref s_e0_fromLawn, .ref s_e0_fromDitch, .ref s_e0_ontoDitch])), (s_e0_fromLawn, .inl (cy 1, 20, .inl s_e0_fromLawnf)), (s_e0_fromDitch, .inl (cy 1, 20, .inl s_e0_fromDitchf)), (s_e0_ontoDitch, .inl (cy 1, 20, .inl s_e0_ontoDitchf)), (s_e1, .inr (2, [.ref s_e1_fromLawn, .ref s_e1_fromDitch, .ref s_e1_ontoDitch])), (s_e1_fromLawn, .inl (cy 1, 20, .inl s_e1_fromLawnf)), (s_e1_fromDitch, .inl (cy 1, 20, .inl s_e1_fromDitchf)), (s_e1_ontoDitch, .inl (cy 1, 20, .inl s_e1_ontoDitchf)), (s_e2, .inr (2, [.ref s_e2_fromLawn, .ref s_e2_fromDitch, .ref s_e2_ontoDitch])), (s_e2_fromLawn, .inl (cy 1, 20, .inl s_e2_fromLawnf)), (s_e2_fromDitch, .inl (cy 1, 20, .inl s_e2_fromDitchf)), (s_e2_ontoDitch, .inl (cy 1, 20, .inl s_e2_ontoDitchf)), (s_e3, .inr (2, [.ref s_e3_fromLawn, .ref s_e3_fromDitch, .ref s_e3_ontoDitch])), (s_e3_fromLawn, .inl (cy 1, 20, .inl s_e3_fromLawnf)), (s_e3_fromDitch, .inl (cy 1, 20, .inl s_e3_fromDitchf)), (s_e3_ontoDitch, .inl (cy 1, 20, .inl s_e3_ontoDitchf))]) (As := [.int p1, .int 2, .int i_6, .int x_18]) (rest := []) X hp_st (fun _ _ _ h => h) (sX8_leastOf_d2 l dC dI cy h0 s_floods s_starts s_goals s_walkers s_ditches i_8 s_e0 s_e1 s_e2 s_e3 s_startsf s_goalsf s_e0_fromLawn s_e0_fromDitch s_e0_ontoDitch s_e0_fromLawnf s_e0_fromDitchf s_e0_ontoDitchf s_e1_fromLawn s_e1_fromDitch s_e1_ontoDitch s_e1_fromLawnf s_e1_fromDitchf s_e1_ontoDitchf s_e2_fromLawn s_e2_fromDitch s_e2_ontoDitch s_e2_fromLawnf s_e2_fromDitchf s_e2_ontoDitchf s_e3_fromLawn s_e3_fromDitch s_e3_ontoDitch s_e3_fromLawnf s_e3_fromDitchf s_e3_ontoDitchf p1 i_6 x_18 hs_walkers b_9 hs_startsf hs_e0_fromLawnf hs_e0_fromDitchf hs_e0_ontoDitchf hs_e1_fromLawnf hs_e1_fromDitchf hs_e1_ontoDitchf hs_e2_fromLawnf hs_e2_fromDitchf hs_e2_ontoDitchf hs_e3_fromLawnf hs_e3_fromDitchf hs_e3_ontoDitchf (by first | decide | omega)) kX8_leastOf u_RX1_leastOf w_984 hP hD hS hA [0, 1, 2, 3, 4, 5, 6, 7, 8, 9, 10, 11, 12, 13, 14, 15, 16, 17, 18, 19] (by decide +kernel) rfl 0 (ci := 1) rfl rfl rfl hl rfl rfl (Nat.le_of_ble_eq_true rfl) dX8_leastOf_54 ⟨(Nat.le_of_ble_eq_true rfl), (Nat.le_of_ble_eq_true rfl)⟩ ⟨(Nat.le_of_ble_eq_true rfl), (Nat.le_of_ble_eq_true rfl)⟩) hP hD hS hA [0, 1, 2, 3, 4, 5, 6, 7, 8, 9, 10, 11, 12, 13, 14, 15, 16, 17, 18, 19] [false, false, false, false, false, false, false, false, false, false, false, false, false, false, false, false, false, false, false, false] rfl rfl rfl (fun r_20 u_22 H locs k_21 hP hD hS => ?_)
          obtain ⟨s_lost1_19, eu_22⟩ : ∃ z, z = u_22 := ⟨_, rfl⟩
          subst eu_22
          have k_21 : (0 ≤ s_lost1_19.toInt ∧ s_lost1_19.toInt ≤ 3) := k_21
          have hPD := vPD (ws' := [(h0, .inr (1, [.ref s_floods, .ref s_starts, .ref s_goals, .int s_walkers, .int s_ditches, .int s_lost1_19])), (s_floods, .inl (cy 4, 4, .inr (.inr (.inr (.inr ((q4 s_e0 s_e1 s_e2 s_e3))))))), (s_starts, .inl (cy 1, 4, .inl s_startsf)), (s_goals, .inl (cy 1, 4, .inl s_goalsf)), (s_e0, .inr (2, [.ref s_e0_fromLawn, .ref s_e0_fromDitch, .ref s_e0_ontoDitch])), (s_e0_fromLawn, .inl (cy 1, 20, .inl s_e0_fromLawnf)), (s_e0_fromDitch, .inl (cy 1, 20, .inl s_e0_fromDitchf)), (s_e0_ontoDitch, .inl (cy 1, 20, .inl s_e0_ontoDitchf)), (s_e1, .inr (2, [.ref s_e1_fromLawn, .ref s_e1_fromDitch, .ref s_e1_ontoDitch])), (s_e1_fromLawn, .inl (cy 1, 20, .inl s_e1_fromLawnf)), (s_e1_fromDitch, .inl (cy 1, 20, .inl s_e1_fromDitchf)), (s_e1_ontoDitch, .inl (cy 1, 20, .inl s_e1_ontoDitchf)), (s_e2, .inr (2, [.ref s_e2_fromLawn, .ref s_e2_fromDitch, .ref s_e2_ontoDitch])), (s_e2_fromLawn, .inl (cy 1, 20, .inl s_e2_fromLawnf)), (s_e2_fromDitch, .inl (cy 1, 20, .inl s_e2_fromDitchf)), (s_e2_ontoDitch, .inl (cy 1, 20, .inl s_e2_ontoDitchf)), (s_e3, .inr (2, [.ref s_e3_fromLawn, .ref s_e3_fromDitch, .ref s_e3_ontoDitch])), (s_e3_fromLawn, .inl (cy 1, 20, .inl s_e3_fromLawnf)), (s_e3_fromDitch, .inl (cy 1, 20, .inl s_e3_fromDitchf)), (s_e3_ontoDitch, .inl (cy 1, 20, .inl s_e3_ontoDitchf))]) hP hD rfl
          have hP := hPD.1
          have hD := hPD.2
          refine lv_istore (lv' := [(6, .int r_20), (5, .int i_6), (0, .ref h0), (1, .int p1), (2, .int 3), (3, .int p3), (4, .int p4)]) hx hb dX8_leastOf_57 hl (by decide) rfl (fun ls hl => ?_)
          refine lv_iload hx hb dX8_leastOf_59 (lv_at hl 0 rfl) ?_
          refine lv_bipush (v := -2) hx hb dX8_leastOf_61 (by decide) ?_
          refine lv_icmp_eq (tgt := 69) hx hb dX8_leastOf_63 (by decide) (fun h_23 => ?_) (fun h_23 => ?_)
          · have h_23 : r_20.toInt = (-2) := c_eq h_23
            obtain ⟨x_24, ex_24⟩ : ∃ y : Int32, y = i_6 + 1 := ⟨_, rfl⟩
            have tx_24 : x_24.toInt = i_6.toInt + 1 := ti_add (A := i_6.toInt) (B := 1) ex_24 rfl rfl (by omega) (by omega)
            refine lv_iinc (v := x_24) (lv' := [(5, .int x_24), (6, .int r_20), (0, .ref h0), (1, .int p1), (2, .int 3), (3, .int p3), (4, .int p4)]) hx hb dX8_leastOf_69 hl (k := 1) rfl (by rw [ex_24]; rfl) (by decide) rfl (fun ls hl => ?_)
            refine lv_goto (tgt := 24) hx hb dX8_leastOf_72 (by decide) ?_
            exact ihlp_5 x_24 s_lost1_19 _ _ _ (by omega) (by omega) (show 21 - x_24.toInt ≤ (nlp_5 : Int) by omega) hP hD hS (lv_sub hl [0, 2, 3, 4, 5, 6] rfl)
          · have h_23 : r_20.toInt ≠ (-2) := c_ne h_23
            refine lv_iload hx hb dX8_leastOf_66 (lv_at hl 0 rfl) ?_
            exact eI hQ X hr hlocks hP hD hS s_lost1_19 [0, 1, 2, 3, 4, 5, 6, 7, 8, 9, 10, 11, 12, 13, 14, 15, 16, 17, 18, 19] (by decide +kernel) rfl rfl (show (0 ≤ s_lost1_19.toInt ∧ s_lost1_19.toInt ≤ 3) from k_21) (Nat.le_of_ble_eq_true rfl) (Nat.le_of_ble_eq_true rfl) dX8_leastOf_68
  exact lp_5 21 0 s_lost _ _ _ (by decide) (by omega) (show 21 - 0 ≤ ((21 : Nat) : Int) by omega) hP hD hS hl
set_option maxHeartbeats 4000000 in
set_option maxRecDepth 100000 in
theorem sX8_fewest_d (l : Launch) (dC : Nat → ClassId) (dI : Nat → Nat → Nat) (cy : Nat → ClassId) (h0 : Nat) (s_floods : Nat) (s_starts : Nat) (s_goals : Nat) (s_walkers : Int32) (s_ditches : Int32) (s_lost : Int32) (s_e0 : Nat) (s_e1 : Nat) (s_e2 : Nat) (s_e3 : Nat) (s_startsf : Nat → Int32) (s_goalsf : Nat → Int32) (s_e0_fromLawn : Nat) (s_e0_fromDitch : Nat) (s_e0_ontoDitch : Nat) (s_e0_fromLawnf : Nat → Int32) (s_e0_fromDitchf : Nat → Int32) (s_e0_ontoDitchf : Nat → Int32) (s_e1_fromLawn : Nat) (s_e1_fromDitch : Nat) (s_e1_ontoDitch : Nat) (s_e1_fromLawnf : Nat → Int32) (s_e1_fromDitchf : Nat → Int32) (s_e1_ontoDitchf : Nat → Int32) (s_e2_fromLawn : Nat) (s_e2_fromDitch : Nat) (s_e2_ontoDitch : Nat) (s_e2_fromLawnf : Nat → Int32) (s_e2_fromDitchf : Nat → Int32) (s_e2_ontoDitchf : Nat → Int32) (s_e3_fromLawn : Nat) (s_e3_fromDitch : Nat) (s_e3_ontoDitch : Nat) (s_e3_fromLawnf : Nat → Int32) (s_e3_fromDitchf : Nat → Int32) (s_e3_ontoDitchf : Nat → Int32) (p1 : Int32) (hs_walkers : 0 ≤ s_walkers.toInt ∧ s_walkers.toInt ≤ 4) (hs_lost : 0 ≤ s_lost.toInt ∧ s_lost.toInt ≤ 3) (hs_startsf : rb s_startsf 4 0 19) (hs_e0_fromLawnf : rb s_e0_fromLawnf 20 0 1048575) (hs_e0_fromDitchf : rb s_e0_fromDitchf 20 0 1048575) (hs_e0_ontoDitchf : rb s_e0_ontoDitchf 20 0 1048575) (hs_e1_fromLawnf : rb s_e1_fromLawnf 20 0 1048575) (hs_e1_fromDitchf : rb s_e1_fromDitchf 20 0 1048575) (hs_e1_ontoDitchf : rb s_e1_ontoDitchf 20 0 1048575) (hs_e2_fromLawnf : rb s_e2_fromLawnf 20 0 1048575) (hs_e2_fromDitchf : rb s_e2_fromDitchf 20 0 1048575) (hs_e2_ontoDitchf : rb s_e2_ontoDitchf 20 0 1048575) (hs_e3_fromLawnf : rb s_e3_fromLawnf 20 0 1048575) (hs_e3_fromDitchf : rb s_e3_fromDitchf 20 0 1048575) (hs_e3_ontoDitchf : rb s_e3_ontoDitchf 20 0 1048575) : ctI l dC dI cy hp yX8_fewest cX8_fewest 4 .int ({ frames := 8, cells := 0, slots := 0, locals := 201 } : Room) [.ref h0, .int p1] [(h0, .inr (1, [.ref s_floods, .ref s_starts, .ref s_goals, .int s_walkers, .int s_ditches, .int s_lost])), (s_floods, .inl (cy 4, 4, .inr (.inr (.inr (.inr ((q4 s_e0 s_e1 s_e2 s_e3))))))), (s_starts, .inl (cy 1, 4, .inl s_startsf)), (s_goals, .inl (cy 1, 4, .inl s_goalsf)), (s_e0, .inr (2, [.ref s_e0_fromLawn, .ref s_e0_fromDitch, .ref s_e0_ontoDitch])), (s_e0_fromLawn, .inl (cy 1, 20, .inl s_e0_fromLawnf)), (s_e0_fromDitch, .inl (cy 1, 20, .inl s_e0_fromDitchf)), (s_e0_ontoDitch, .inl (cy 1, 20, .inl s_e0_ontoDitchf)), (s_e1, .inr (2, [.ref s_e1_fromLawn, .ref s_e1_fromDitch, .ref s_e1_ontoDitch])), (s_e1_fromLawn, .inl (cy 1, 20, .inl s_e1_fromLawnf)), (s_e1_fromDitch, .inl (cy 1, 20, .inl s_e1_fromDitchf)), (s_e1_ontoDitch, .inl (cy 1, 20, .inl s_e1_ontoDitchf)), (s_e2, .inr (2, [.ref s_e2_fromLawn, .ref s_e2_fromDitch, .ref s_e2_ontoDitch])), (s_e2_fromLawn, .inl (cy 1, 20, .inl s_e2_fromLawnf)), (s_e2_fromDitch, .inl (cy 1, 20, .inl s_e2_fromDitchf)), (s_e2_ontoDitch, .inl (cy 1, 20, .inl s_e2_ontoDitchf)), (s_e3, .inr (2, [.ref s_e3_fromLawn, .ref s_e3_fromDitch, .ref s_e3_ontoDitch])), (s_e3_fromLawn, .inl (cy 1, 20, .inl s_e3_fromLawnf)), (s_e3_fromDitch, .inl (cy 1, 20, .inl s_e3_fromDitchf)), (s_e3_ontoDitch, .inl (cy 1, 20, .inl s_e3_ontoDitchf))] (S := Int32) (fun r u => (0 ≤ u.toInt ∧ u.toInt ≤ 3)) (fun u => [(h0, .inr (1, [.ref s_floods, .ref s_starts, .ref s_goals, .int s_walkers, .int s_ditches, .int u])), (s_floods, .inl (cy 4, 4, .inr (.inr (.inr (.inr ((q4 s_e0 s_e1 s_e2 s_e3))))))), (s_starts, .inl (cy 1, 4, .inl s_startsf)), (s_goals, .inl (cy 1, 4, .inl s_goalsf)), (s_e0, .inr (2, [.ref s_e0_fromLawn, .ref s_e0_fromDitch, .ref s_e0_ontoDitch])), (s_e0_fromLawn, .inl (cy 1, 20, .inl s_e0_fromLawnf)), (s_e0_fromDitch, .inl (cy 1, 20, .inl s_e0_fromDitchf)), (s_e0_ontoDitch, .inl (cy 1, 20, .inl s_e0_ontoDitchf)), (s_e1, .inr (2, [.ref s_e1_fromLawn, .ref s_e1_fromDitch, .ref s_e1_ontoDitch])), (s_e1_fromLawn, .inl (cy 1, 20, .inl s_e1_fromLawnf)), (s_e1_fromDitch, .inl (cy 1, 20, .inl s_e1_fromDitchf)), (s_e1_ontoDitch, .inl (cy 1, 20, .inl s_e1_ontoDitchf)), (s_e2, .inr (2, [.ref s_e2_fromLawn, .ref s_e2_fromDitch, .ref s_e2_ontoDitch])), (s_e2_fromLawn, .inl (cy 1, 20, .inl s_e2_fromLawnf)), (s_e2_fromDitch, .inl (cy 1, 20, .inl s_e2_fromDitchf)), (s_e2_ontoDitch, .inl (cy 1, 20, .inl s_e2_ontoDitchf)), (s_e3, .inr (2, [.ref s_e3_fromLawn, .ref s_e3_fromDitch, .ref s_e3_ontoDitch])), (s_e3_fromLawn, .inl (cy 1, 20, .inl s_e3_fromLawnf)), (s_e3_fromDitch, .inl (cy 1, 20, .inl s_e3_fromDitchf)), (s_e3_ontoDitch, .inl (cy 1, 20, .inl s_e3_ontoDitchf))]) := by
  refine ctI.of (by decide +kernel) (Nat.le_of_ble_eq_true rfl) ?_
  intro p e s m args below meth c A ls Q hQ X hr hlocks hin hA hP hD hS hl
  have hx := X.1
  have hb := X.2.1
  have hK := X.2.2.2.2.2.1
  have hl : lv_has ls 4 [(0, .ref h0), (1, .int p1)] := hl
  have dy_1 := ti_bd p1
  refine lv_iconst (v := 0) hx hb dX8_fewest_0 (by decide) ?_
  refine lv_istore_n (lv' := [(2, .int 0), (0, .ref h0), (1, .int p1)]) hx hb dX8_fewest_1 rfl hl (by decide) rfl (fun ls hl => ?_)
  refine lv_iload_n hx hb dX8_fewest_2 rfl (lv_at hl 0 rfl) ?_
  refine lv_iconst (v := 3) hx hb dX8_fewest_3 (by decide) ?_
  refine lv_icmp_gt (tgt := 31) hx hb dX8_fewest_4 (by decide) (fun h_2 => absurd h_2 (by decide)) (fun _ => ?_)
  refine lv_aload_n hx hb dX8_fewest_7 rfl (lv_at hl 1 rfl) ?_
  refine lv_iload_n hx hb dX8_fewest_8 rfl (lv_at hl 2 rfl) ?_
  refine lv_iload_n hx hb dX8_fewest_9 rfl (lv_at hl 0 rfl) ?_
  refine lv_bipush (v := 20) hx hb dX8_fewest_10 (by decide) ?_
  refine lv_iconst (v := 0) hx hb dX8_fewest_12 (by decide) ?_
  refine sl_Ic (rU_I (wc := [(h0, .inr (1, [.ref s_floods, .ref s_starts, .ref s_goals, .int s_walkers, .int s_ditches, .int s_lost])), (s_floods, .inl (cy 4, 4, .inr (.inr (.inr (.inr ((q4 s_e0 s_e1 s_e2 s_e3))))))), (s_starts, .inl (cy 1, 4, .inl s_startsf)), (s_goals, .inl (cy 1, 4, .inl s_goalsf)), (s_e0, .inr (2, [.ref s_e0_fromLawn, .ref s_e0_fromDitch, .ref s_e0_ontoDitch])), (s_e0_fromLawn, .inl (cy 1, 20, .inl s_e0_fromLawnf)), (s_e0_fromDitch, .inl (cy 1, 20, .inl s_e0_fromDitchf)), (s_e0_ontoDitch, .inl (cy 1, 20, .inl s_e0_ontoDitchf)), (s_e1, .inr (2, [.ref s_e1_fromLawn, .ref s_e1_fromDitch, .ref s_e1_ontoDitch])), (s_e1_fromLawn, .inl (cy 1, 20, .inl s_e1_fromLawnf)), (s_e1_fromDitch, .inl (cy 1, 20, .inl s_e1_fromDitchf)), (s_e1_ontoDitch, .inl (cy 1, 20, .inl s_e1_ontoDitchf)), (s_e2, .inr (2, [.ref s_e2_fromLawn, .ref s_e2_fromDitch, .ref s_e2_ontoDitch])), (s_e2_fromLawn, .inl (cy 1, 20, .inl s_e2_fromLawnf)), (s_e2_fromDitch, .inl (cy 1, 20, .inl s_e2_fromDitchf)), (s_e2_ontoDitch, .inl (cy 1, 20, .inl s_e2_ontoDitchf)), (s_e3, .inr (2, [.ref s_e3_fromLawn, .ref s_e3_fromDitch, .ref s_e3_ontoDitch])), (s_e3_fromLawn, .inl (cy 1, 20, .inl s_e3_fromLawnf)), (s_e3_fromDitch, .inl (cy 1, 20, .inl s_e3_fromDitchf)), (s_e3_ontoDitch, .inl (cy 1, 20, .inl s_e3_ontoDitchf))]) (As := [.int p1, .int 0, .int 20, .int 0]) (rest := []) X hp_st (fun _ _ _ h => h) (sX8_leastOf_d0 l dC dI cy h0 s_floods s_starts s_goals s_walkers s_ditches s_lost s_e0 s_e1 s_e2 s_e3 s_startsf s_goalsf s_e0_fromLawn s_e0_fromDitch s_e0_ontoDitch s_e0_fromLawnf s_e0_fromDitchf s_e0_ontoDitchf s_e1_fromLawn s_e1_fromDitch s_e1_ontoDitch s_e1_fromLawnf s_e1_fromDitchf s_e1_ontoDitchf s_e2_fromLawn s_e2_fromDitch s_e2_ontoDitch s_e2_fromLawnf s_e2_fromDitchf s_e2_ontoDitchf s_e3_fromLawn s_e3_fromDitch s_e3_ontoDitch s_e3_fromLawnf s_e3_fromDitchf s_e3_ontoDitchf p1 20 0 hs_walkers hs_lost hs_startsf hs_e0_fromLawnf hs_e0_fromDitchf hs_e0_ontoDitchf hs_e1_fromLawnf hs_e1_fromDitchf hs_e1_ontoDitchf hs_e2_fromLawnf hs_e2_fromDitchf hs_e2_ontoDitchf hs_e3_fromLawnf hs_e3_fromDitchf hs_e3_ontoDitchf (by first | decide | omega | (have h9_0 : Int32.toInt 20 = 20 := (by decide); omega))) kX8_leastOf u_RX1_leastOf w_984 hP hD hS hA [0, 1, 2, 3, 4, 5, 6, 7, 8, 9, 10, 11, 12, 13, 14, 15, 16, 17, 18, 19] (by decide +kernel) rfl 0 (ci := 1) rfl rfl rfl hl rfl rfl (Nat.le_of_ble_eq_true rfl) dX8_fewest_13 ⟨(Nat.le_of_ble_eq_true rfl), (Nat.le_of_ble_eq_true rfl)⟩ ⟨(Nat.le_of_ble_eq_true rfl), (Nat.le_of_ble_eq_true rfl)⟩) hP hD hS hA [0, 1, 2, 3, 4, 5, 6, 7, 8, 9, 10, 11, 12, 13, 14, 15, 16, 17, 18, 19] [false, false, false, false, false, false, false, false, false, false, false, false, false, false, false, false, false, false, false, false] rfl rfl rfl (fun r_4 u_6 H locs k_5 hP hD hS => ?_)
  obtain ⟨s_lost1_3, eu_6⟩ : ∃ z, z = u_6 := ⟨_, rfl⟩
  subst eu_6
  have k_5 : (0 ≤ s_lost1_3.toInt ∧ s_lost1_3.toInt ≤ 3) := k_5
  have hPD := vPD (ws' := [(h0, .inr (1, [.ref s_floods, .ref s_starts, .ref s_goals, .int s_walkers, .int s_ditches, .int s_lost1_3])), (s_floods, .inl (cy 4, 4, .inr (.inr (.inr (.inr ((q4 s_e0 s_e1 s_e2 s_e3))))))), (s_starts, .inl (cy 1, 4, .inl s_startsf)), (s_goals, .inl (cy 1, 4, .inl s_goalsf)), (s_e0, .inr (2, [.ref s_e0_fromLawn, .ref s_e0_fromDitch, .ref s_e0_ontoDitch])), (s_e0_fromLawn, .inl (cy 1, 20, .inl s_e0_fromLawnf)), (s_e0_fromDitch, .inl (cy 1, 20, .inl s_e0_fromDitchf)), (s_e0_ontoDitch, .inl (cy 1, 20, .inl s_e0_ontoDitchf)), (s_e1, .inr (2, [.ref s_e1_fromLawn, .ref s_e1_fromDitch, .ref s_e1_ontoDitch])), (s_e1_fromLawn, .inl (cy 1, 20, .inl s_e1_fromLawnf)), (s_e1_fromDitch, .inl (cy 1, 20, .inl s_e1_fromDitchf)), (s_e1_ontoDitch, .inl (cy 1, 20, .inl s_e1_ontoDitchf)), (s_e2, .inr (2, [.ref s_e2_fromLawn, .ref s_e2_fromDitch, .ref s_e2_ontoDitch])), (s_e2_fromLawn, .inl (cy 1, 20, .inl s_e2_fromLawnf)), (s_e2_fromDitch, .inl (cy 1, 20, .inl s_e2_fromDitchf)), (s_e2_ontoDitch, .inl (cy 1, 20, .inl s_e2_ontoDitchf)), (s_e3, .inr (2, [.ref s_e3_fromLawn, .ref s_e3_fromDitch, .ref s_e3_ontoDitch])), (s_e3_fromLawn, .inl (cy 1, 20, .inl s_e3_fromLawnf)), (s_e3_fromDitch, .inl (cy 1, 20, .inl s_e3_fromDitchf)), (s_e3_ontoDitch, .inl (cy 1, 20, .inl s_e3_ontoDitchf))]) hP hD rfl
  have hP := hPD.1
  have hD := hPD.2
  refine lv_istore_n (lv' := [(3, .int r_4), (2, .int 0), (0, .ref h0), (1, .int p1)]) hx hb dX8_fewest_16 rfl hl (by decide) rfl (fun ls hl => ?_)
  refine lv_iload_n hx hb dX8_fewest_17 rfl (lv_at hl 0 rfl) ?_
  refine lv_bipush (v := -2) hx hb dX8_fewest_18 (by decide) ?_
  refine lv_icmp_eq (tgt := 25) hx hb dX8_fewest_20 (by decide) (fun h_7 => ?_) (fun h_7 => ?_)
  · have h_7 : r_4.toInt = (-2) := c_eq h_7
    refine lv_iinc (v := 1) (lv' := [(2, .int 1), (3, .int r_4), (0, .ref h0), (1, .int p1)]) hx hb dX8_fewest_25 hl (k := 1) rfl (by decide) (by decide) rfl (fun ls hl => ?_)
    refine lv_goto (tgt := 2) hx hb dX8_fewest_28 (by decide) ?_
    refine lv_iload_n hx hb dX8_fewest_2 rfl (lv_at hl 0 rfl) ?_
    refine lv_iconst (v := 3) hx hb dX8_fewest_3 (by decide) ?_
    refine lv_icmp_gt (tgt := 31) hx hb dX8_fewest_4 (by decide) (fun h_8 => absurd h_8 (by decide)) (fun _ => ?_)
    refine lv_aload_n hx hb dX8_fewest_7 rfl (lv_at hl 2 rfl) ?_
    refine lv_iload_n hx hb dX8_fewest_8 rfl (lv_at hl 3 rfl) ?_
    refine lv_iload_n hx hb dX8_fewest_9 rfl (lv_at hl 0 rfl) ?_
    refine lv_bipush (v := 20) hx hb dX8_fewest_10 (by decide) ?_
    refine lv_iconst (v := 0) hx hb dX8_fewest_12 (by decide) ?_
    refine sl_Ic (rU_I (wc := [(h0, .inr (1, [.ref s_floods, .ref s_starts, .ref s_goals, .int s_walkers, .int s_ditches, .int s_lost1_3])), (s_floods, .inl (cy 4, 4, .inr (.inr (.inr (.inr ((q4 s_e0 s_e1 s_e2 s_e3))))))), (s_starts, .inl (cy 1, 4, .inl s_startsf)), (s_goals, .inl (cy 1, 4, .inl s_goalsf)), (s_e0, .inr (2, [.ref s_e0_fromLawn, .ref s_e0_fromDitch, .ref s_e0_ontoDitch])), (s_e0_fromLawn, .inl (cy 1, 20, .inl s_e0_fromLawnf)), (s_e0_fromDitch, .inl (cy 1, 20, .inl s_e0_fromDitchf)), (s_e0_ontoDitch, .inl (cy 1, 20, .inl s_e0_ontoDitchf)), (s_e1, .inr (2, [.ref s_e1_fromLawn, .ref s_e1_fromDitch, .ref s_e1_ontoDitch])), (s_e1_fromLawn, .inl (cy 1, 20, .inl s_e1_fromLawnf)), (s_e1_fromDitch, .inl (cy 1, 20, .inl s_e1_fromDitchf)), (s_e1_ontoDitch, .inl (cy 1, 20, .inl s_e1_ontoDitchf)), (s_e2, .inr (2, [.ref s_e2_fromLawn, .ref s_e2_fromDitch, .ref s_e2_ontoDitch])), (s_e2_fromLawn, .inl (cy 1, 20, .inl s_e2_fromLawnf)), (s_e2_fromDitch, .inl (cy 1, 20, .inl s_e2_fromDitchf)), (s_e2_ontoDitch, .inl (cy 1, 20, .inl s_e2_ontoDitchf)), (s_e3, .inr (2, [.ref s_e3_fromLawn, .ref s_e3_fromDitch, .ref s_e3_ontoDitch])), (s_e3_fromLawn, .inl (cy 1, 20, .inl s_e3_fromLawnf)), (s_e3_fromDitch, .inl (cy 1, 20, .inl s_e3_fromDitchf)), (s_e3_ontoDitch, .inl (cy 1, 20, .inl s_e3_ontoDitchf))]) (As := [.int p1, .int 1, .int 20, .int 0]) (rest := []) X hp_st (fun _ _ _ h => h) (sX8_leastOf_d1 l dC dI cy h0 s_floods s_starts s_goals s_walkers s_ditches s_lost1_3 s_e0 s_e1 s_e2 s_e3 s_startsf s_goalsf s_e0_fromLawn s_e0_fromDitch s_e0_ontoDitch s_e0_fromLawnf s_e0_fromDitchf s_e0_ontoDitchf s_e1_fromLawn s_e1_fromDitch s_e1_ontoDitch s_e1_fromLawnf s_e1_fromDitchf s_e1_ontoDitchf s_e2_fromLawn s_e2_fromDitch s_e2_ontoDitch s_e2_fromLawnf s_e2_fromDitchf s_e2_ontoDitchf s_e3_fromLawn s_e3_fromDitch s_e3_ontoDitch s_e3_fromLawnf s_e3_fromDitchf s_e3_ontoDitchf p1 20 0 hs_walkers k_5 hs_startsf hs_e0_fromLawnf hs_e0_fromDitchf hs_e0_ontoDitchf hs_e1_fromLawnf hs_e1_fromDitchf hs_e1_ontoDitchf hs_e2_fromLawnf hs_e2_fromDitchf hs_e2_ontoDitchf hs_e3_fromLawnf hs_e3_fromDitchf hs_e3_ontoDitchf (by first | decide | omega | (have h9_0 : Int32.toInt 20 = 20 := (by decide); omega))) kX8_leastOf u_RX1_leastOf w_984 hP hD hS hA [0, 1, 2, 3, 4, 5, 6, 7, 8, 9, 10, 11, 12, 13, 14, 15, 16, 17, 18, 19] (by decide +kernel) rfl 0 (ci := 1) rfl rfl rfl hl rfl rfl (Nat.le_of_ble_eq_true rfl) dX8_fewest_13 ⟨(Nat.le_of_ble_eq_true rfl), (Nat.le_of_ble_eq_true rfl)⟩ ⟨(Nat.le_of_ble_eq_true rfl), (Nat.le_of_ble_eq_true rfl)⟩) hP hD hS hA [0, 1, 2, 3, 4, 5, 6, 7, 8, 9, 10, 11, 12, 13, 14, 15, 16, 17, 18, 19] [false, false, false, false, false, false, false, false, false, false, false, false, false, false, false, false, false, false, false, false] rfl rfl rfl (fun r_10 u_12 H locs k_11 hP hD hS => ?_)
    obtain ⟨s_lost1_9, eu_12⟩ : ∃ z, z = u_12 := ⟨_, rfl⟩
    subst eu_12
    have k_11 : (0 ≤ s_lost1_9.toInt ∧ s_lost1_9.toInt ≤ 3) := k_11
    have hPD := vPD (ws' := [(h0, .inr (1, [.ref s_floods, .ref s_starts, .ref s_goals, .int s_walkers, .int s_ditches, .int s_lost1_9])), (s_floods, .inl (cy 4, 4, .inr (.inr (.inr (.inr ((q4 s_e0 s_e1 s_e2 s_e3))))))), (s_starts, .inl (cy 1, 4, .inl s_startsf)), (s_goals, .inl (cy 1, 4, .inl s_goalsf)), (s_e0, .inr (2, [.ref s_e0_fromLawn, .ref s_e0_fromDitch, .ref s_e0_ontoDitch])), (s_e0_fromLawn, .inl (cy 1, 20, .inl s_e0_fromLawnf)), (s_e0_fromDitch, .inl (cy 1, 20, .inl s_e0_fromDitchf)), (s_e0_ontoDitch, .inl (cy 1, 20, .inl s_e0_ontoDitchf)), (s_e1, .inr (2, [.ref s_e1_fromLawn, .ref s_e1_fromDitch, .ref s_e1_ontoDitch])), (s_e1_fromLawn, .inl (cy 1, 20, .inl s_e1_fromLawnf)), (s_e1_fromDitch, .inl (cy 1, 20, .inl s_e1_fromDitchf)), (s_e1_ontoDitch, .inl (cy 1, 20, .inl s_e1_ontoDitchf)), (s_e2, .inr (2, [.ref s_e2_fromLawn, .ref s_e2_fromDitch, .ref s_e2_ontoDitch])), (s_e2_fromLawn, .inl (cy 1, 20, .inl s_e2_fromLawnf)), (s_e2_fromDitch, .inl (cy 1, 20, .inl s_e2_fromDitchf)), (s_e2_ontoDitch, .inl (cy 1, 20, .inl s_e2_ontoDitchf)), (s_e3, .inr (2, [.ref s_e3_fromLawn, .ref s_e3_fromDitch, .ref s_e3_ontoDitch])), (s_e3_fromLawn, .inl (cy 1, 20, .inl s_e3_fromLawnf)), (s_e3_fromDitch, .inl (cy 1, 20, .inl s_e3_fromDitchf)), (s_e3_ontoDitch, .inl (cy 1, 20, .inl s_e3_ontoDitchf))]) hP hD rfl
    have hP := hPD.1
    have hD := hPD.2
    refine lv_istore_n (lv' := [(3, .int r_10), (2, .int 1), (0, .ref h0), (1, .int p1)]) hx hb dX8_fewest_16 rfl hl (by decide) rfl (fun ls hl => ?_)
    refine lv_iload_n hx hb dX8_fewest_17 rfl (lv_at hl 0 rfl) ?_
    refine lv_bipush (v := -2) hx hb dX8_fewest_18 (by decide) ?_
    refine lv_icmp_eq (tgt := 25) hx hb dX8_fewest_20 (by decide) (fun h_13 => ?_) (fun h_13 => ?_)
    · have h_13 : r_10.toInt = (-2) := c_eq h_13
      refine lv_iinc (v := 2) (lv' := [(2, .int 2), (3, .int r_10), (0, .ref h0), (1, .int p1)]) hx hb dX8_fewest_25 hl (k := 1) rfl (by decide) (by decide) rfl (fun ls hl => ?_)
      refine lv_goto (tgt := 2) hx hb dX8_fewest_28 (by decide) ?_
      refine lv_iload_n hx hb dX8_fewest_2 rfl (lv_at hl 0 rfl) ?_
      refine lv_iconst (v := 3) hx hb dX8_fewest_3 (by decide) ?_
      refine lv_icmp_gt (tgt := 31) hx hb dX8_fewest_4 (by decide) (fun h_14 => absurd h_14 (by decide)) (fun _ => ?_)
      refine lv_aload_n hx hb dX8_fewest_7 rfl (lv_at hl 2 rfl) ?_
      refine lv_iload_n hx hb dX8_fewest_8 rfl (lv_at hl 3 rfl) ?_
      refine lv_iload_n hx hb dX8_fewest_9 rfl (lv_at hl 0 rfl) ?_
      refine lv_bipush (v := 20) hx hb dX8_fewest_10 (by decide) ?_
      refine lv_iconst (v := 0) hx hb dX8_fewest_12 (by decide) ?_
      refine sl_Ic (rU_I (wc := [(h0, .inr (1, [.ref s_floods, .ref s_starts, .ref s_goals, .int s_walkers, .int s_ditches, .int s_lost1_9])), (s_floods, .inl (cy 4, 4, .inr (.inr (.inr (.inr ((q4 s_e0 s_e1 s_e2 s_e3))))))), (s_starts, .inl (cy 1, 4, .inl s_startsf)), (s_goals, .inl (cy 1, 4, .inl s_goalsf)), (s_e0, .inr (2, [.ref s_e0_fromLawn, .ref s_e0_fromDitch, .ref s_e0_ontoDitch])), (s_e0_fromLawn, .inl (cy 1, 20, .inl s_e0_fromLawnf)), (s_e0_fromDitch, .inl (cy 1, 20, .inl s_e0_fromDitchf)), (s_e0_ontoDitch, .inl (cy 1, 20, .inl s_e0_ontoDitchf)), (s_e1, .inr (2, [.ref s_e1_fromLawn, .ref s_e1_fromDitch, .ref s_e1_ontoDitch])), (s_e1_fromLawn, .inl (cy 1, 20, .inl s_e1_fromLawnf)), (s_e1_fromDitch, .inl (cy 1, 20, .inl s_e1_fromDitchf)), (s_e1_ontoDitch, .inl (cy 1, 20, .inl s_e1_ontoDitchf)), (s_e2, .inr (2, [.ref s_e2_fromLawn, .ref s_e2_fromDitch, .ref s_e2_ontoDitch])), (s_e2_fromLawn, .inl (cy 1, 20, .inl s_e2_fromLawnf)), (s_e2_fromDitch, .inl (cy 1, 20, .inl s_e2_fromDitchf)), (s_e2_ontoDitch, .inl (cy 1, 20, .inl s_e2_ontoDitchf)), (s_e3, .inr (2, [.ref s_e3_fromLawn, .ref s_e3_fromDitch, .ref s_e3_ontoDitch])), (s_e3_fromLawn, .inl (cy 1, 20, .inl s_e3_fromLawnf)), (s_e3_fromDitch, .inl (cy 1, 20, .inl s_e3_fromDitchf)), (s_e3_ontoDitch, .inl (cy 1, 20, .inl s_e3_ontoDitchf))]) (As := [.int p1, .int 2, .int 20, .int 0]) (rest := []) X hp_st (fun _ _ _ h => h) (sX8_leastOf_d2 l dC dI cy h0 s_floods s_starts s_goals s_walkers s_ditches s_lost1_9 s_e0 s_e1 s_e2 s_e3 s_startsf s_goalsf s_e0_fromLawn s_e0_fromDitch s_e0_ontoDitch s_e0_fromLawnf s_e0_fromDitchf s_e0_ontoDitchf s_e1_fromLawn s_e1_fromDitch s_e1_ontoDitch s_e1_fromLawnf s_e1_fromDitchf s_e1_ontoDitchf s_e2_fromLawn s_e2_fromDitch s_e2_ontoDitch s_e2_fromLawnf s_e2_fromDitchf s_e2_ontoDitchf s_e3_fromLawn s_e3_fromDitch s_e3_ontoDitch s_e3_fromLawnf s_e3_fromDitchf s_e3_ontoDitchf p1 20 0 hs_walkers k_11 hs_startsf hs_e0_fromLawnf hs_e0_fromDitchf hs_e0_ontoDitchf hs_e1_fromLawnf hs_e1_fromDitchf hs_e1_ontoDitchf hs_e2_fromLawnf hs_e2_fromDitchf hs_e2_ontoDitchf hs_e3_fromLawnf hs_e3_fromDitchf hs_e3_ontoDitchf (by first | decide | omega | (have h9_0 : Int32.toInt 20 = 20 := (by decide); omega))) kX8_leastOf u_RX1_leastOf w_984 hP hD hS hA [0, 1, 2, 3, 4, 5, 6, 7, 8, 9, 10, 11, 12, 13, 14, 15, 16, 17, 18, 19] (by decide +kernel) rfl 0 (ci := 1) rfl rfl rfl hl rfl rfl (Nat.le_of_ble_eq_true rfl) dX8_fewest_13 ⟨(Nat.le_of_ble_eq_true rfl), (Nat.le_of_ble_eq_true rfl)⟩ ⟨(Nat.le_of_ble_eq_true rfl), (Nat.le_of_ble_eq_true rfl)⟩) hP hD hS hA [0, 1, 2, 3, 4, 5, 6, 7, 8, 9, 10, 11, 12, 13, 14, 15, 16, 17, 18, 19] [false, false, false, false, false, false, false, false, false, false, false, false, false, false, false, false, false, false, false, false] rfl rfl rfl (fun r_16 u_18 H locs k_17 hP hD hS => ?_)
      obtain ⟨s_lost1_15, eu_18⟩ : ∃ z, z = u_18 := ⟨_, rfl⟩
      subst eu_18
      have k_17 : (0 ≤ s_lost1_15.toInt ∧ s_lost1_15.toInt ≤ 3) := k_17
      have hPD := vPD (ws' := [(h0, .inr (1, [.ref s_floods, .ref s_starts, .ref s_goals, .int s_walkers, .int s_ditches, .int s_lost1_15])), (s_floods, .inl (cy 4, 4, .inr (.inr (.inr (.inr ((q4 s_e0 s_e1 s_e2 s_e3))))))), (s_starts, .inl (cy 1, 4, .inl s_startsf)), (s_goals, .inl (cy 1, 4, .inl s_goalsf)), (s_e0, .inr (2, [.ref s_e0_fromLawn, .ref s_e0_fromDitch, .ref s_e0_ontoDitch])), (s_e0_fromLawn, .inl (cy 1, 20, .inl s_e0_fromLawnf)), (s_e0_fromDitch, .inl (cy 1, 20, .inl s_e0_fromDitchf)), (s_e0_ontoDitch, .inl (cy 1, 20, .inl s_e0_ontoDitchf)), (s_e1, .inr (2, [.ref s_e1_fromLawn, .ref s_e1_fromDitch, .ref s_e1_ontoDitch])), (s_e1_fromLawn, .inl (cy 1, 20, .inl s_e1_fromLawnf)), (s_e1_fromDitch, .inl (cy 1, 20, .inl s_e1_fromDitchf)), (s_e1_ontoDitch, .inl (cy 1, 20, .inl s_e1_ontoDitchf)), (s_e2, .inr (2, [.ref s_e2_fromLawn, .ref s_e2_fromDitch, .ref s_e2_ontoDitch])), (s_e2_fromLawn, .inl (cy 1, 20, .inl s_e2_fromLawnf)), (s_e2_fromDitch, .inl (cy 1, 20, .inl s_e2_fromDitchf)), (s_e2_ontoDitch, .inl (cy 1, 20, .inl s_e2_ontoDitchf)), (s_e3, .inr (2, [.ref s_e3_fromLawn, .ref s_e3_fromDitch, .ref s_e3_ontoDitch])), (s_e3_fromLawn, .inl (cy 1, 20, .inl s_e3_fromLawnf)), (s_e3_fromDitch, .inl (cy 1, 20, .inl s_e3_fromDitchf)), (s_e3_ontoDitch, .inl (cy 1, 20, .inl s_e3_ontoDitchf))]) hP hD rfl
      have hP := hPD.1
      have hD := hPD.2
      refine lv_istore_n (lv' := [(3, .int r_16), (2, .int 2), (0, .ref h0), (1, .int p1)]) hx hb dX8_fewest_16 rfl hl (by decide) rfl (fun ls hl => ?_)
      refine lv_iload_n hx hb dX8_fewest_17 rfl (lv_at hl 0 rfl) ?_
      refine lv_bipush (v := -2) hx hb dX8_fewest_18 (by decide) ?_
      refine lv_icmp_eq (tgt := 25) hx hb dX8_fewest_20 (by decide) (fun h_19 => ?_) (fun h_19 => ?_)
      · have h_19 : r_16.toInt = (-2) := c_eq h_19
        refine lv_iinc (v := 3) (lv' := [(2, .int 3), (3, .int r_16), (0, .ref h0), (1, .int p1)]) hx hb dX8_fewest_25 hl (k := 1) rfl (by decide) (by decide) rfl (fun ls hl => ?_)
        refine lv_goto (tgt := 2) hx hb dX8_fewest_28 (by decide) ?_
        refine lv_iload_n hx hb dX8_fewest_2 rfl (lv_at hl 0 rfl) ?_
        refine lv_iconst (v := 3) hx hb dX8_fewest_3 (by decide) ?_
        refine lv_icmp_gt (tgt := 31) hx hb dX8_fewest_4 (by decide) (fun h_20 => absurd h_20 (by decide)) (fun _ => ?_)
        refine lv_aload_n hx hb dX8_fewest_7 rfl (lv_at hl 2 rfl) ?_
        refine lv_iload_n hx hb dX8_fewest_8 rfl (lv_at hl 3 rfl) ?_
        refine lv_iload_n hx hb dX8_fewest_9 rfl (lv_at hl 0 rfl) ?_
        refine lv_bipush (v := 20) hx hb dX8_fewest_10 (by decide) ?_
        refine lv_iconst (v := 0) hx hb dX8_fewest_12 (by decide) ?_
        refine sl_Ic (rU_I (wc := [(h0, .inr (1, [.ref s_floods, .ref s_starts, .ref s_goals, .int s_walkers, .int s_ditches, .int s_lost1_15])), (s_floods, .inl (cy 4, 4, .inr (.inr (.inr (.inr ((q4 s_e0 s_e1 s_e2 s_e3))))))), (s_starts, .inl (cy 1, 4, .inl s_startsf)), (s_goals, .inl (cy 1, 4, .inl s_goalsf)), (s_e0, .inr (2, [.ref s_e0_fromLawn, .ref s_e0_fromDitch, .ref s_e0_ontoDitch])), (s_e0_fromLawn, .inl (cy 1, 20, .inl s_e0_fromLawnf)), (s_e0_fromDitch, .inl (cy 1, 20, .inl s_e0_fromDitchf)), (s_e0_ontoDitch, .inl (cy 1, 20, .inl s_e0_ontoDitchf)), (s_e1, .inr (2, [.ref s_e1_fromLawn, .ref s_e1_fromDitch, .ref s_e1_ontoDitch])), (s_e1_fromLawn, .inl (cy 1, 20, .inl s_e1_fromLawnf)), (s_e1_fromDitch, .inl (cy 1, 20, .inl s_e1_fromDitchf)), (s_e1_ontoDitch, .inl (cy 1, 20, .inl s_e1_ontoDitchf)), (s_e2, .inr (2, [.ref s_e2_fromLawn, .ref s_e2_fromDitch, .ref s_e2_ontoDitch])), (s_e2_fromLawn, .inl (cy 1, 20, .inl s_e2_fromLawnf)), (s_e2_fromDitch, .inl (cy 1, 20, .inl s_e2_fromDitchf)), (s_e2_ontoDitch, .inl (cy 1, 20, .inl s_e2_ontoDitchf)), (s_e3, .inr (2, [.ref s_e3_fromLawn, .ref s_e3_fromDitch, .ref s_e3_ontoDitch])), (s_e3_fromLawn, .inl (cy 1, 20, .inl s_e3_fromLawnf)), (s_e3_fromDitch, .inl (cy 1, 20, .inl s_e3_fromDitchf)), (s_e3_ontoDitch, .inl (cy 1, 20, .inl s_e3_ontoDitchf))]) (As := [.int p1, .int 3, .int 20, .int 0]) (rest := []) X hp_st (fun _ _ _ h => h) (sX8_leastOf_d3 l dC dI cy h0 s_floods s_starts s_goals s_walkers s_ditches s_lost1_15 s_e0 s_e1 s_e2 s_e3 s_startsf s_goalsf s_e0_fromLawn s_e0_fromDitch s_e0_ontoDitch s_e0_fromLawnf s_e0_fromDitchf s_e0_ontoDitchf s_e1_fromLawn s_e1_fromDitch s_e1_ontoDitch s_e1_fromLawnf s_e1_fromDitchf s_e1_ontoDitchf s_e2_fromLawn s_e2_fromDitch s_e2_ontoDitch s_e2_fromLawnf s_e2_fromDitchf s_e2_ontoDitchf s_e3_fromLawn s_e3_fromDitch s_e3_ontoDitch s_e3_fromLawnf s_e3_fromDitchf s_e3_ontoDitchf p1 20 0 hs_walkers k_17 hs_startsf hs_e0_fromLawnf hs_e0_fromDitchf hs_e0_ontoDitchf hs_e1_fromLawnf hs_e1_fromDitchf hs_e1_ontoDitchf hs_e2_fromLawnf hs_e2_fromDitchf hs_e2_ontoDitchf hs_e3_fromLawnf hs_e3_fromDitchf hs_e3_ontoDitchf (by first | decide | omega | (have h9_0 : Int32.toInt 20 = 20 := (by decide); omega))) kX8_leastOf u_RX1_leastOf w_984 hP hD hS hA [0, 1, 2, 3, 4, 5, 6, 7, 8, 9, 10, 11, 12, 13, 14, 15, 16, 17, 18, 19] (by decide +kernel) rfl 0 (ci := 1) rfl rfl rfl hl rfl rfl (Nat.le_of_ble_eq_true rfl) dX8_fewest_13 ⟨(Nat.le_of_ble_eq_true rfl), (Nat.le_of_ble_eq_true rfl)⟩ ⟨(Nat.le_of_ble_eq_true rfl), (Nat.le_of_ble_eq_true rfl)⟩) hP hD hS hA [0, 1, 2, 3, 4, 5, 6, 7, 8, 9, 10, 11, 12, 13, 14, 15, 16, 17, 18, 19] [false, false, false, false, false, false, false, false, false, false, false, false, false, false, false, false, false, false, false, false] rfl rfl rfl (fun r_22 u_24 H locs k_23 hP hD hS => ?_)
        obtain ⟨s_lost1_21, eu_24⟩ : ∃ z, z = u_24 := ⟨_, rfl⟩
        subst eu_24
        have k_23 : (0 ≤ s_lost1_21.toInt ∧ s_lost1_21.toInt ≤ 3) := k_23
        have hPD := vPD (ws' := [(h0, .inr (1, [.ref s_floods, .ref s_starts, .ref s_goals, .int s_walkers, .int s_ditches, .int s_lost1_21])), (s_floods, .inl (cy 4, 4, .inr (.inr (.inr (.inr ((q4 s_e0 s_e1 s_e2 s_e3))))))), (s_starts, .inl (cy 1, 4, .inl s_startsf)), (s_goals, .inl (cy 1, 4, .inl s_goalsf)), (s_e0, .inr (2, [.ref s_e0_fromLawn, .ref s_e0_fromDitch, .ref s_e0_ontoDitch])), (s_e0_fromLawn, .inl (cy 1, 20, .inl s_e0_fromLawnf)), (s_e0_fromDitch, .inl (cy 1, 20, .inl s_e0_fromDitchf)), (s_e0_ontoDitch, .inl (cy 1, 20, .inl s_e0_ontoDitchf)), (s_e1, .inr (2, [.ref s_e1_fromLawn, .ref s_e1_fromDitch, .ref s_e1_ontoDitch])), (s_e1_fromLawn, .inl (cy 1, 20, .inl s_e1_fromLawnf)), (s_e1_fromDitch, .inl (cy 1, 20, .inl s_e1_fromDitchf)), (s_e1_ontoDitch, .inl (cy 1, 20, .inl s_e1_ontoDitchf)), (s_e2, .inr (2, [.ref s_e2_fromLawn, .ref s_e2_fromDitch, .ref s_e2_ontoDitch])), (s_e2_fromLawn, .inl (cy 1, 20, .inl s_e2_fromLawnf)), (s_e2_fromDitch, .inl (cy 1, 20, .inl s_e2_fromDitchf)), (s_e2_ontoDitch, .inl (cy 1, 20, .inl s_e2_ontoDitchf)), (s_e3, .inr (2, [.ref s_e3_fromLawn, .ref s_e3_fromDitch, .ref s_e3_ontoDitch])), (s_e3_fromLawn, .inl (cy 1, 20, .inl s_e3_fromLawnf)), (s_e3_fromDitch, .inl (cy 1, 20, .inl s_e3_fromDitchf)), (s_e3_ontoDitch, .inl (cy 1, 20, .inl s_e3_ontoDitchf))]) hP hD rfl
        have hP := hPD.1
        have hD := hPD.2
        refine lv_istore_n (lv' := [(3, .int r_22), (2, .int 3), (0, .ref h0), (1, .int p1)]) hx hb dX8_fewest_16 rfl hl (by decide) rfl (fun ls hl => ?_)
        refine lv_iload_n hx hb dX8_fewest_17 rfl (lv_at hl 0 rfl) ?_
        refine lv_bipush (v := -2) hx hb dX8_fewest_18 (by decide) ?_
        refine lv_icmp_eq (tgt := 25) hx hb dX8_fewest_20 (by decide) (fun h_25 => ?_) (fun h_25 => ?_)
        · have h_25 : r_22.toInt = (-2) := c_eq h_25
          refine lv_iinc (v := 4) (lv' := [(2, .int 4), (3, .int r_22), (0, .ref h0), (1, .int p1)]) hx hb dX8_fewest_25 hl (k := 1) rfl (by decide) (by decide) rfl (fun ls hl => ?_)
          refine lv_goto (tgt := 2) hx hb dX8_fewest_28 (by decide) ?_
          refine lv_iload_n hx hb dX8_fewest_2 rfl (lv_at hl 0 rfl) ?_
          refine lv_iconst (v := 3) hx hb dX8_fewest_3 (by decide) ?_
          refine lv_icmp_gt (tgt := 31) hx hb dX8_fewest_4 (by decide) (fun _ => ?_) (fun h_26 => absurd (by decide) h_26)
          refine lv_bipush (v := -2) hx hb dX8_fewest_31 (by decide) ?_
          exact eI hQ X hr hlocks hP hD hS s_lost1_21 [0, 1, 2, 3, 4, 5, 6, 7, 8, 9, 10, 11, 12, 13, 14, 15, 16, 17, 18, 19] (by decide +kernel) rfl rfl (show (0 ≤ s_lost1_21.toInt ∧ s_lost1_21.toInt ≤ 3) from k_23) (Nat.le_of_ble_eq_true rfl) (Nat.le_of_ble_eq_true rfl) dX8_fewest_33
        · have h_25 : r_22.toInt ≠ (-2) := c_ne h_25
          refine lv_iload_n hx hb dX8_fewest_23 rfl (lv_at hl 0 rfl) ?_
          exact eI hQ X hr hlocks hP hD hS s_lost1_21 [0, 1, 2, 3, 4, 5, 6, 7, 8, 9, 10, 11, 12, 13, 14, 15, 16, 17, 18, 19] (by decide +kernel) rfl rfl (show (0 ≤ s_lost1_21.toInt ∧ s_lost1_21.toInt ≤ 3) from k_23) (Nat.le_of_ble_eq_true rfl) (Nat.le_of_ble_eq_true rfl) dX8_fewest_24
      · have h_19 : r_16.toInt ≠ (-2) := c_ne h_19
        refine lv_iload_n hx hb dX8_fewest_23 rfl (lv_at hl 0 rfl) ?_
        exact eI hQ X hr hlocks hP hD hS s_lost1_15 [0, 1, 2, 3, 4, 5, 6, 7, 8, 9, 10, 11, 12, 13, 14, 15, 16, 17, 18, 19] (by decide +kernel) rfl rfl (show (0 ≤ s_lost1_15.toInt ∧ s_lost1_15.toInt ≤ 3) from k_17) (Nat.le_of_ble_eq_true rfl) (Nat.le_of_ble_eq_true rfl) dX8_fewest_24
    · have h_13 : r_10.toInt ≠ (-2) := c_ne h_13
      refine lv_iload_n hx hb dX8_fewest_23 rfl (lv_at hl 0 rfl) ?_
      exact eI hQ X hr hlocks hP hD hS s_lost1_9 [0, 1, 2, 3, 4, 5, 6, 7, 8, 9, 10, 11, 12, 13, 14, 15, 16, 17, 18, 19] (by decide +kernel) rfl rfl (show (0 ≤ s_lost1_9.toInt ∧ s_lost1_9.toInt ≤ 3) from k_11) (Nat.le_of_ble_eq_true rfl) (Nat.le_of_ble_eq_true rfl) dX8_fewest_24
  · have h_7 : r_4.toInt ≠ (-2) := c_ne h_7
    refine lv_iload_n hx hb dX8_fewest_23 rfl (lv_at hl 0 rfl) ?_
    exact eI hQ X hr hlocks hP hD hS s_lost1_3 [0, 1, 2, 3, 4, 5, 6, 7, 8, 9, 10, 11, 12, 13, 14, 15, 16, 17, 18, 19] (by decide +kernel) rfl rfl (show (0 ≤ s_lost1_3.toInt ∧ s_lost1_3.toInt ≤ 3) from k_5) (Nat.le_of_ble_eq_true rfl) (Nat.le_of_ble_eq_true rfl) dX8_fewest_24
