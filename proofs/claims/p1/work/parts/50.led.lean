theorem ofWH {l : Launch} {y : MethodName} {ws ws' : List Cond} {rm : Room} {Pc : Array Value → State → Prop} {Qc : Array Value → State → Outcome → State → Prop} {mc ms : Nat} {free : Addr → Prop} {cc : ByteArray} {maxL : Nat} {ret : Option FieldType} {hh : List (Nat × Nat × Nat × Nat)}
    (hy : plainName y.cls = true) (hw : ws = Cond.codeWith y cc maxL ret hh :: ws')
    (body : ∀ p e s m args below meth c s₁, BodyLoose p l y (headSpec ws rm) cc maxL ret e s m args below meth c s₁ → c.maxLocals = maxL → Pc args s →
      W p l e (headSpec ws rm).room s m args below meth c s.heap [] 0 0 (MQ below Qc args s mc ms free) (entryFrame m args maxL)) : Met l y ws rm Pc Qc mc ms free := by
  refine MetFree.of_bodyS (code := cc) (maxLocals := maxL) (ret := ret) hy ?_ ?_
  · intro args s m h hn
    obtain ⟨m9, meth, c, hn9, h1, h2, h3, h4, -, h5, h6, -⟩ := Cond.codeWith_spec (atoms_spec (ws := ws) h _ (by rw [hw]; exact List.mem_cons_self))
    cases hn.symm.trans hn9
    exact ⟨meth, c, h1, h2, h3, h4, h5, h6⟩
  · intro p e s m args below meth c s₁ B hml hP _
    have hh0 : s₁.heap = s.heap := by rw [B.state]; rfl
    obtain ⟨t, a1, o, b1, b2, b3, b4⟩ := body p e s m args below meth c s₁ B hml hP s₁ hh0 (Stand.of_body B)
    exact ⟨t, o, a1, b1, b2, b3, b4⟩
abbrev nsE : String := "java/util/NoSuchElementException"
abbrev nsL : List Cond := vx_at0 RX11 359 nsE ["java/lang/RuntimeException", "java/lang/Exception"]
theorem ns_good : ∀ w ∈ nsL.filter goodWord, w ∈ wsU := by
  intro w hw
  have h : w ∈ lw_tbl := (show ∀ w ∈ nsL.filter goodWord, w ∈ lw_tbl by decide +kernel) w hw
  exact List.mem_filter.mpr ⟨h, (List.mem_filter.mp hw).2⟩
theorem ns_tab : ∀ w ∈ nsL.filter (fun w => !goodWord w), w ∈ nwL := by
  intro w hw
  have h : w ∈ lw_tbl ∧ isNest w = true := (show ∀ w ∈ nsL.filter (fun w => !goodWord w), w ∈ lw_tbl ∧ isNest w = true by decide +kernel) w hw
  exact List.mem_filter.mpr h
/-- what a throw reads of Throwable's statics -/
def zx (A : Nat → Prop) (U : State) (H : Heap) : Prop := vx_Zq Bundle.tN "UNASSIGNED_STACK" Bundle.steD A U H ∧ vx_Zq Bundle.tN "SUPPRESSED_SENTINEL" Bundle.listD A U H
def pZ (dC : Nat → ClassId) (dI : Nat → Nat → Nat) (cy : Nat → ClassId) (ws : va_W) (sz : Nat) (U : State) : Prop := pS dC dI cy ws sz U ∧ zx (va_A ws sz) U U.heap
theorem pZ.blind {dC : Nat → ClassId} {dI : Nat → Nat → Nat} {cy : Nat → ClassId} {ws : va_W} {sz : Nat} {av : List Value} : FrameBlind (va_Pc av (pZ dC dI cy ws sz)) := by
  intro a U g mk q
  obtain ⟨q0, ⟨q1, qP, qK, qD, qE⟩, z1, z2⟩ := q
  exact ⟨q0, ⟨q1, qP, va_K.moved (u := U) (U := U.calling g mk a) (Vm.Alike.refl U.vm) qK, qD, ev.same (u := U) (U := U.calling g mk a) rfl qE⟩, z1.moved (u := U) (U := U.calling g mk a) (Vm.Alike.refl U.vm), z2.moved (u := U) (U := U.calling g mk a) (Vm.Alike.refl U.vm)⟩
theorem zx.at {A0 A1 : Nat → Prop} {s U : State} {H : Heap} {locs : List Loc} (h : zx A0 s s.heap) (hS : va_S A0 s.heap H locs) (hA : ∀ q, A1 q → A0 q) (hU : U.heap = H) (hvm : s.vm.Alike U.vm) : zx A1 U U.heap := by
  rw [hU]
  exact ⟨(((h.1.kept (fun a h1 h2 => hS.2.1 a h1 h2)).narrow hA).moved hvm), (((h.2.kept (fun a h1 h2 => hS.2.1 a h1 h2)).narrow hA).moved hvm)⟩
set_option maxHeartbeats 4000000 in
set_option maxRecDepth 100000 in
theorem tX11_led (l : Launch) (hl9 : l.stackTraces = false) (dC : Nat → ClassId) (dI : Nat → Nat → Nat) (cy : Nat → ClassId) (h0 : Nat) (v0 : Value) (v1 : Value) (v2 : Value) (v3 : Value) (v4 : Value) (v5 : Value) (v6 : Value) (v7 : Value) (v8 : Value) (v9 : Value) (v10 : Value) (v11 : Value) (td : Nat) (v13 : Value) (v14 : Value) (v15 : Value) (v16 : Value) (tg : Nat) (t0 : Nat) (t1 : Nat) (t2 : Nat) (t3 : Nat) (t4 : Nat) (t5 : Nat) (t6 : Nat) (t7 : Nat) (p1 : Int32) (sz : Nat) : vx_Met l yX11_led (.code yX11_led cX11_led 4 (some .int) :: wsU) { frames := 6, cells := 1, slots := 6, locals := 81 } (va_Pc [.ref h0, .int p1] (pZ dC dI cy [(h0, .inr (10, [v0, v1, v2, v3, v4, v5, v6, v7, v8, v9, v10, v11, .ref td, v13, v14, v15, v16])), (td, .inr (7, [.ref tg, .int 0, .int 0, .int 0, .int 0, .ref t0, .int 0, .ref t1, .ref t2, .ref t3, .ref t4, .int 0, .ref t5, .ref t6, .ref t7]))] sz)) (va_Qi (fun _ (_ : Unit) => False) (fun _ _ => True) (va_A [(h0, .inr (10, [v0, v1, v2, v3, v4, v5, v6, v7, v8, v9, v10, v11, .ref td, v13, v14, v15, v16])), (td, .inr (7, [.ref tg, .int 0, .int 0, .int 0, .int 0, .ref t0, .int 0, .ref t1, .ref t2, .ref t3, .ref t4, .int 0, .ref t5, .ref t6, .ref t7]))] sz)) (vx_X (fun _ : Unit => True) (fun E _ _ => E = nsE) (va_A [(h0, .inr (10, [v0, v1, v2, v3, v4, v5, v6, v7, v8, v9, v10, v11, .ref td, v13, v14, v15, v16])), (td, .inr (7, [.ref tg, .int 0, .int 0, .int 0, .int 0, .ref t0, .int 0, .ref t1, .ref t2, .ref t3, .ref t4, .int 0, .ref t5, .ref t6, .ref t7]))] sz)) 1 6 (va_A [(h0, .inr (10, [v0, v1, v2, v3, v4, v5, v6, v7, v8, v9, v10, v11, .ref td, v13, v14, v15, v16])), (td, .inr (7, [.ref tg, .int 0, .int 0, .int 0, .int 0, .ref t0, .int 0, .ref t1, .ref t2, .ref t3, .ref t4, .int 0, .ref t5, .ref t6, .ref t7]))] sz) := by
  refine vx_ofW (cc := cX11_led) (maxL := 4) (ret := some .int) (by decide +kernel) rfl ?_
  intro p e s m args below meth c s₁ B hml hno hv
  obtain ⟨rfl, ⟨hsz, hP, hK, hD0, hE⟩, hZ⟩ := hv
  have hts := atoms_spec (ws := .code yX11_led cX11_led 4 (some .int) :: wsU) B.pre
  have hown : s.vm.findClass RX11 = some m.cls := findClass_of_methodNamed B.named
  subst hsz
  have X : fx p s m c cX11_led 4 _ RX11 dC dI cy := ⟨B.exec, B.bytes, hml, hown, fun w hw => hts w (List.mem_cons_of_mem _ hw), hK, hE⟩
  have hD := hD0.self (sz := s.heap.size)
  generalize hAe : va_A [(h0, .inr (10, [v0, v1, v2, v3, v4, v5, v6, v7, v8, v9, v10, v11, .ref td, v13, v14, v15, v16])), (td, .inr (7, [.ref tg, .int 0, .int 0, .int 0, .int 0, .ref t0, .int 0, .ref t1, .ref t2, .ref t3, .ref t4, .int 0, .ref t5, .ref t6, .ref t7]))] s.heap.size = A at hD hZ ⊢
  have hS : va_S A s.heap s.heap [] := va_S.rf
  have hx := X.1
  have hb := X.2.1
  have hl := lv_entry ([.ref h0, .int p1]) (n := 4) (Nat.le_of_ble_eq_true rfl)
  rw [lg_entry_eq]
  generalize (lg_sl ([.ref h0, .int p1]) ++ List.replicate (4 - (lg_sl ([.ref h0, .int p1])).length) Slot.unset).toArray = ls at hl ⊢
  have hl : lv_has ls 4 [(0, .ref h0), (1, .int p1)] := hl
  refine lv_iconst (v := 0) hx hb dX11_led_0 (by decide) ?_
  refine lv_istore_n (lv' := [(2, .int 0), (0, .ref h0), (1, .int p1)]) hx hb dX11_led_1 rfl hl (by decide) rfl (fun ls hl => ?_)
  refine lv_iconst (v := 0) hx hb dX11_led_2 (by decide) ?_
  refine lv_istore_n (lv' := [(3, .int 0), (2, .int 0), (0, .ref h0), (1, .int p1)]) hx hb dX11_led_3 rfl hl (by decide) rfl (fun ls hl => ?_)
  refine lv_iload_n hx hb dX11_led_4 rfl (lv_at hl 0 rfl) ?_
  refine lv_aload_n hx hb dX11_led_5 rfl (lv_at hl 2 rfl) ?_
  refine r_get X kcX11 (ci := 10) rfl hP 0 rfl 12 (by decide) fX11_81 rfl dX11_led_6 ?_
  refine r_get X kcX7 (ci := 7) rfl hP 1 rfl 6 (by decide) fX11_223 rfl dX11_led_9 ?_
  refine lv_icmp_ge (tgt := 50) hx hb dX11_led_12 (by decide) (fun _ => ?_) (fun h_1 => absurd (by decide) h_1)
  exact vx_throw0 (A := A) (mc := 1) (ms := 6) hx hb hl9 (own := RX11) (cls := nsE) (names := ["java/lang/RuntimeException", "java/lang/Exception"]) hown (by decide +kernel) (by decide +kernel) (X.2.2.2.2.1 _ w_1267) (X.2.2.2.2.1 _ w_125) (vx_hat (fun w hw => X.2.2.2.2.1 w (ns_good w hw)) ns_tab (fun w hw => va_Nw.use (isNest_tab (List.mem_filter.mp hw).2) (X.2.2.2.2.2.2.1 w hw))) (by decide +kernel) hZ.1 hZ.2 hS (hl.1.trans hml.symm) dX11_led_50 dX11_led_53 dX11_led_54 dX11_led_57 (fun x hx9 => (hno x hx9).elim) (Nat.le_of_ble_eq_true rfl) (Nat.le_of_ble_eq_true rfl) (Nat.le_of_ble_eq_true rfl) (Nat.le_of_ble_eq_true rfl) B.notSynchronized (fun t h1 h2 h3 => ⟨(), trivial, rfl, h2, fun q h4 _ => h3 q h4⟩) hS.2.2 (Nat.le_of_ble_eq_true rfl) (Nat.le_of_ble_eq_true rfl)
set_option maxHeartbeats 4000000 in
set_option maxRecDepth 100000 in
theorem cL_ledM (l : Launch) (hl9 : l.stackTraces = false) (dC : Nat → ClassId) (dI : Nat → Nat → Nat) (cy : Nat → ClassId) (h0 : Nat) (v0 : Value) (v1 : Value) (v2 : Value) (v3 : Value) (v4 : Value) (v5 : Value) (v6 : Value) (v7 : Value) (v8 : Value) (v9 : Value) (v10 : Value) (v11 : Value) (td : Nat) (v13 : Value) (v14 : Value) (v15 : Value) (v16 : Value) (tg : Nat) (t0 : Nat) (t1 : Nat) (t2 : Nat) (t3 : Nat) (t4 : Nat) (t5 : Nat) (t6 : Nat) (t7 : Nat) (p1 : Int32) (ob : Nat) (sz : Nat) : Met l yL_led (.codeWith yL_led cL_led 4 (some .int) [(0, 9, 12, 13)] :: wsU) { frames := 7, cells := 1, slots := 6, locals := 104 } (va_Pc [.ref h0, .int p1, .ref ob] (pZ dC dI cy [(h0, .inr (10, [v0, v1, v2, v3, v4, v5, v6, v7, v8, v9, v10, v11, .ref td, v13, v14, v15, v16])), (td, .inr (7, [.ref tg, .int 0, .int 0, .int 0, .int 0, .ref t0, .int 0, .ref t1, .ref t2, .ref t3, .ref t4, .int 0, .ref t5, .ref t6, .ref t7]))] sz)) (va_Qi (fun r (_ : Unit) => r = 1) (qS dC dI (va_A [(h0, .inr (10, [v0, v1, v2, v3, v4, v5, v6, v7, v8, v9, v10, v11, .ref td, v13, v14, v15, v16])), (td, .inr (7, [.ref tg, .int 0, .int 0, .int 0, .int 0, .ref t0, .int 0, .ref t1, .ref t2, .ref t3, .ref t4, .int 0, .ref t5, .ref t6, .ref t7]))] sz) (fun _ => [])) (va_A [(h0, .inr (10, [v0, v1, v2, v3, v4, v5, v6, v7, v8, v9, v10, v11, .ref td, v13, v14, v15, v16])), (td, .inr (7, [.ref tg, .int 0, .int 0, .int 0, .int 0, .ref t0, .int 0, .ref t1, .ref t2, .ref t3, .ref t4, .int 0, .ref t5, .ref t6, .ref t7]))] sz)) 1 6 (va_A [(h0, .inr (10, [v0, v1, v2, v3, v4, v5, v6, v7, v8, v9, v10, v11, .ref td, v13, v14, v15, v16])), (td, .inr (7, [.ref tg, .int 0, .int 0, .int 0, .int 0, .ref t0, .int 0, .ref t1, .ref t2, .ref t3, .ref t4, .int 0, .ref t5, .ref t6, .ref t7]))] sz) := by
  refine ofWH (cc := cL_led) (maxL := 4) (ret := some .int) (hh := [(0, 9, 12, 13)]) (by decide +kernel) rfl ?_
  intro p e s m args below meth c s₁ B hml hv
  obtain ⟨rfl, ⟨hsz, hP, hK, hD0, hE⟩, hZ⟩ := hv
  have hts := atoms_spec (ws := .codeWith yL_led cL_led 4 (some .int) [(0, 9, 12, 13)] :: wsU) B.pre
  have htab := vx_table (x := yL_led) B (hts _ List.mem_cons_self)
  have hown : s.vm.findClass RL = some m.cls := findClass_of_methodNamed B.named
  subst hsz
  have X : fx p s m c cL_led 4 _ RL dC dI cy := ⟨B.exec, B.bytes, hml, hown, fun w hw => hts w (List.mem_cons_of_mem _ hw), hK, hE⟩
  have hD := hD0.self (sz := s.heap.size)
  have hS : va_S (va_A [(h0, .inr (10, [v0, v1, v2, v3, v4, v5, v6, v7, v8, v9, v10, v11, .ref td, v13, v14, v15, v16])), (td, .inr (7, [.ref tg, .int 0, .int 0, .int 0, .int 0, .ref t0, .int 0, .ref t1, .ref t2, .ref t3, .ref t4, .int 0, .ref t5, .ref t6, .ref t7]))] s.heap.size) s.heap s.heap [] := va_S.rf
  have hx := X.1
  have hb := X.2.1
  have hl := lv_entry ([.ref h0, .int p1, .ref ob]) (n := 4) (Nat.le_of_ble_eq_true rfl)
  rw [lg_entry_eq]
  generalize (lg_sl ([.ref h0, .int p1, .ref ob]) ++ List.replicate (4 - (lg_sl ([.ref h0, .int p1, .ref ob])).length) Slot.unset).toArray = ls at hl ⊢
  have hl : lv_has ls 4 [(0, .ref h0), (1, .int p1), (2, .ref ob)] := hl
  refine lv_aload_n hx hb dL_led_0 rfl (lv_at hl 2 rfl) ?_
  refine lv_iconst (v := 0) hx hb dL_led_1 (by decide) ?_
  refine lv_aload_n hx hb dL_led_2 rfl (lv_at hl 0 rfl) ?_
  refine lv_iload_n hx hb dL_led_3 rfl (lv_at hl 1 rfl) ?_
  refine vx_calli (vx_runV (As := [.int p1]) (rest := [.int 0, .ref ob]) ⟨hx, hb, hml, hown, X.2.2.2.2.1⟩ (tX11_led l hl9 dC dI cy h0 v0 v1 v2 v3 v4 v5 v6 v7 v8 v9 v10 v11 td v13 v14 v15 v16 tg t0 t1 t2 t3 t4 t5 t6 t7 p1 s.heap.size) ⟨callB_of 1 X.2.2.2.2.1 (goodU kX11_led.1 (fun _ h => h)) rfl rfl rfl (X.2.2.2.2.1 _ kX11_led.2.1) (X.2.2.2.2.1 _ w_1263) kX11_led.2.2 ⟨(Nat.le_of_ble_eq_true rfl), (Nat.le_of_ble_eq_true rfl)⟩, X.2.2.2.2.1 _ vX11_led.1, X.2.2.2.2.1 _ vX11_led.2⟩ ⟨pZ.blind, va_recv hK hP (ci := 10) (q0 := 0) rfl rfl, fun U hU hW => ⟨rfl, (X_pre (av := [.ref h0, .int p1]) X hP hD U hU hW).2, hZ.at hS (fun _ h => h) hU hW.alike⟩⟩ rfl rfl hl.1 rfl (lv_room (Nat.le_of_ble_eq_true rfl)) dL_led_4 ⟨(Nat.le_of_ble_eq_true rfl), (Nat.le_of_ble_eq_true rfl)⟩) hS (fun q _ h => h) (fun q h => h) (fun q _ h => h) (fun E ce q9 u t H1 locs1 ht hvm hpx hE9 hz hk hS1 hce hcv hcl => ?_) (fun r u t H1 locs1 ht hvm hw hB hz hk hS1 => hw.elim)
  subst hE9
  refine vx_catch (own := RL) (name := nsE) hown [] ⟨0, 9, 12, 13⟩ [] htab (fun z hz => by cases hz) (by decide) (by decide) (X.2.2.2.2.1 _ w_1262) (va_Nw.use rfl (X.2.2.2.2.2.2.1 _ n_1269)) hce hcv hcl ?_
  refine lv_astore_n (lv' := [(3, .ref q9), (0, .ref h0), (1, .int p1), (2, .ref ob)]) hx hb dL_led_12 rfl hl (by decide) rfl (fun ls hl => ?_)
  refine lv_iconst (v := 1) hx hb dL_led_13 (by decide) ?_
  exact eI (ws := []) (w1 := fun _ => []) X B.returns B.notSynchronized (fun k q h => by simp at h) ⟨fun i j p q h => by simp at h, fun k q h => by simp at h⟩ hS1 () [] (by decide) rfl rfl rfl (Nat.le_of_ble_eq_true rfl) (Nat.le_of_ble_eq_true rfl) dL_led_14
