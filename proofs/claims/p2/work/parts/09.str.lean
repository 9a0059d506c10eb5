theorem sh0 (x : Int32) : x >>> ((0 : Int32) &&& 31) = x := by
  apply Int32.toBitVec_inj.mp
  show x.toBitVec.sshiftRight _ = _
  exact BitVec.sshiftRight_zero
section Str
variable {p : Program} {l : Launch} {e : Env} {R : Room} {s : State} {m : MethodId} {args : Array Value} {below : List Frame} {meth : Method} {c : Code} {H : Heap} {locs : List Loc} {cells slots : Nat} {Q : State → Prop}
variable {cc : ByteArray} {pc nL : Nat} {ls : Array Slot} {rest : List Value} {own : String} {dC : Nat → ClassId} {dI : Nat → Nat → Nat} {cy : Nat → ClassId} {ex ex0 : exT} {ws : va_W} {A : Nat → Prop} {a ci idx N : Nat} {C : String} {T : u_T} {fs : List Value} {ty0 : Nat → FieldType} {v : Value}
variable {y : MethodName} {bytes : ByteArray} {maxL n b : Nat} {ret : Option FieldType} {rm : Room} {Qc : (Nat → Prop) → Array Value → State → Outcome → State → Prop} {As st : List Value} {wc wr : va_W} {lv : List (Nat × Value)}
theorem X_pre2 (X : fx p s m c cc nL args own dC dI cy ex0 A) (hst : stb ex) (hxe : ex A s s.heap) (hS : va_S A s.heap H locs) (hF : ∀ q, va_A wc H.size q → A q) (hP : va_P (dC, dI) vwCl wc H) (hD : va_D A wc) {av : List Value} (U : State) (hU : U.heap = H) (hW : s.WarmedH U.vm) : va_Pc av (pS dC dI cy ex wc H.size) av.toArray U :=
  ⟨rfl, by rw [hU], by rw [hU]; exact hP, va_K.moved hW.alike X.2.2.2.2.2.1, hD.weaken (fun _ _ _ _ => trivial), X.2.2.2.2.2.2.1.warm hW, by rw [hU]; exact hst.1 A _ s U s.heap H hxe hW hS.2.1 hF⟩
/-- a call on an object that isn't of the world -/
theorem rVo (X : fx p s m c cc nL args own dC dI cy ex0 A) (hst : stb ex) (hxe : ex A s s.heap) (hM : ∀ sz, Met l y (.code y bytes maxL ret :: wsU) rm (va_Pc (.ref b :: As) (pS dC dI cy ex wc sz)) (Qc (va_A wc sz)) rm.cells rm.slots (va_A wc sz)) (km : mOK y bytes maxL ret n) (kv : Cond.instanceMethod y ∈ wsU ∧ Cond.selects y.cls y y ∈ wsU) (lk : mLk own idx y) (hP : va_P (dC, dI) vwCl ws H) (hD : va_D A ws) (hS : va_S A s.heap H locs) (hA : ∀ q, s.heap.size ≤ q → A q) (isC : List Nat) (hnd : va_nd isC = true) (hC : isC.map (fun i => ws[i]?) = wc.map some) (hO : va_O y.cls b A s s.heap) (hl : lv_has ls nL lv) (hn : As.length = n) (hst0 : st = As.reverse ++ .ref b :: rest) (hcat : (rest.map fun v => v.category).sum ≤ 8) (hdg : decode cc pc = .ok (.invokevirtual idx, 3))
    (hR : rm.frames + 1 ≤ R.frames ∧ 8 + (maxL + 11) + rm.locals ≤ R.locals) (hf : cells + rm.cells ≤ R.cells ∧ slots + rm.slots ≤ R.slots) :
    va_Run p l e R s m args below meth c H locs cells slots rm.cells rm.slots (F0 m pc ls st) rest (Qc (va_A wc H.size) (Value.ref b :: As).toArray) (va_A wc H.size) := by
  have hPc := hP.sub (ws' := wc) isC (fm_of hC)
  have hDc := hD.sub (ws' := wc) isC hnd hC
  have hFc := va_free (wc := wc) hD hS hA isC hC
  have hG : GoodIn wsU (Cond.code y bytes maxL ret :: wsU) := goodU km.1 (fun _ h => h)
  have hrec : ∃ cellB : Cell, H[b]? = some cellB ∧ cellB.vm.isStatics = false ∧ s.vm.findClass y.cls = some cellB.cls := by
    obtain ⟨cell, h1, h2, h3, -⟩ := hO.kept hS.2.1
    exact ⟨cell, h1, h2, h3⟩
  rcases lk with h | ⟨host, h⟩
  · exact va_runV (As := As) (rest := rest) ⟨X.1, X.2.1, X.2.2.1, X.2.2.2.1, X.2.2.2.2.1⟩ (hM H.size) ⟨callB_of n X.2.2.2.2.1 hG rfl rfl rfl (X.2.2.2.2.1 _ km.2.1) (X.2.2.2.2.1 _ h) km.2.2 hR, X.2.2.2.2.1 _ kv.1, X.2.2.2.2.1 _ kv.2⟩ ⟨pS.blind hst, hrec, fun U hU hW => X_pre2 X hst hxe hS hFc hPc hDc U hU hW⟩ rfl hn hl.1 hst0 (lv_room hcat) hdg hf
  · exact va_runVN (As := As) (rest := rest) ⟨X.1, X.2.1, X.2.2.1, X.2.2.2.1, X.2.2.2.2.1⟩ (hM H.size) ⟨va_cnB n X.2.2.2.2.1 hG rfl rfl rfl (X.2.2.2.2.2.2.1.1 _ h) (X.2.2.2.2.1 _ km.2.1) km.2.2 hR, X.2.2.2.2.1 _ kv.1, X.2.2.2.2.1 _ kv.2⟩ ⟨pS.blind hst, hrec, fun U hU hW => X_pre2 X hst hxe hS hFc hPc hDc U hU hW⟩ rfl hn hl.1 hst0 (lv_room hcat) hdg hf
theorem rVo_I {S : Type} {post : Int32 → S → Prop} {w1 : S → va_W} {rt : FieldType} (X : fx p s m c cc nL args own dC dI cy ex0 A) (hst : stb ex) (hxe : ex A s s.heap) (hM : ctI l dC dI cy ex y bytes maxL rt rm (.ref b :: As) wc post w1) (km : mOK y bytes maxL (some rt) n) (kv : Cond.instanceMethod y ∈ wsU ∧ Cond.selects y.cls y y ∈ wsU) (lk : mLk own idx y) (hP : va_P (dC, dI) vwCl ws H) (hD : va_D A ws) (hS : va_S A s.heap H locs) (hA : ∀ q, s.heap.size ≤ q → A q) (isC : List Nat) (hnd : va_nd isC = true) (hC : isC.map (fun i => ws[i]?) = wc.map some) (hO : va_O y.cls b A s s.heap) (hl : lv_has ls nL lv) (hn : As.length = n) (hst0 : st = As.reverse ++ .ref b :: rest) (hcat : (rest.map fun v => v.category).sum ≤ 8) (hdg : decode cc pc = .ok (.invokevirtual idx, 3))
    (hR : rm.frames + 1 ≤ R.frames ∧ 8 + (maxL + 11) + rm.locals ≤ R.locals) (hf : cells + rm.cells ≤ R.cells ∧ slots + rm.slots ≤ R.slots) :
    va_Run p l e R s m args below meth c H locs cells slots rm.cells rm.slots (F0 m pc ls st) rest (va_Qi post (qS dC dI (va_A wc H.size) w1) (va_A wc H.size) (Value.ref b :: As).toArray) (va_A wc H.size) :=
  rVo (Qc := fun A => va_Qi post (qS dC dI A w1) A) X hst hxe hM km kv lk hP hD hS hA isC hnd hC hO hl hn hst0 hcat hdg hR hf
theorem rVe (X : fx p s m c cc nL args own dC dI cy ex0 A) (hst : stb ex) (hxe : ex A s s.heap) (hM : ∀ sz, Met l y (.code y bytes maxL ret :: wsU) rm (va_Pc (.ref b :: As) (pS dC dI cy ex wc sz)) (Qc (va_A wc sz)) rm.cells rm.slots (va_A wc sz)) (km : mOK y bytes maxL ret n) (kv : Cond.instanceMethod y ∈ wsU ∧ Cond.selects y.cls y y ∈ wsU) (lk : mLk own idx y) (hP : va_P (dC, dI) vwCl ws H) (hD : va_D A ws) (hS : va_S A s.heap H locs) (hA : ∀ q, s.heap.size ≤ q → A q) (isC : List Nat) (hnd : va_nd isC = true) (hC : isC.map (fun i => ws[i]?) = wc.map some) (q0 : Nat) {q : vw_C} (hq : wc[q0]? = some (b, .inr (ci, fs))) (hc : vwCl[ci]? = some q) (hq1 : q.1 = y.cls) (hl : lv_has ls nL lv) (hn : As.length = n) (hst0 : st = As.reverse ++ .ref b :: rest) (hcat : (rest.map fun v => v.category).sum ≤ 8) (hdg : decode cc pc = .ok (.invokevirtual idx, 3))
    (hR : rm.frames + 1 ≤ R.frames ∧ 8 + (maxL + 11) + rm.locals ≤ R.locals) (hf : cells + rm.cells ≤ R.cells ∧ slots + rm.slots ≤ R.slots) :
    va_Run p l e R s m args below meth c H locs cells slots rm.cells rm.slots (F0 m pc ls st) rest (Qc (va_A wc H.size) (Value.ref b :: As).toArray) (va_A wc H.size) := by
  have hPc := hP.sub (ws' := wc) isC (fm_of hC)
  have hDc := hD.sub (ws' := wc) isC hnd hC
  have hFc := va_free (wc := wc) hD hS hA isC hC
  have hG : GoodIn wsU (Cond.code y bytes maxL ret :: wsU) := goodU km.1 (fun _ h => h)
  have hrec := va_recv (s := s) X.2.2.2.2.2.1 hPc hc hq
  rw [hq1] at hrec
  rcases lk with h | ⟨host, h⟩
  · exact va_runV (As := As) (rest := rest) ⟨X.1, X.2.1, X.2.2.1, X.2.2.2.1, X.2.2.2.2.1⟩ (hM H.size) ⟨callB_of n X.2.2.2.2.1 hG rfl rfl rfl (X.2.2.2.2.1 _ km.2.1) (X.2.2.2.2.1 _ h) km.2.2 hR, X.2.2.2.2.1 _ kv.1, X.2.2.2.2.1 _ kv.2⟩ ⟨pS.blind hst, hrec, fun U hU hW => X_pre2 X hst hxe hS hFc hPc hDc U hU hW⟩ rfl hn hl.1 hst0 (lv_room hcat) hdg hf
  · exact va_runVN (As := As) (rest := rest) ⟨X.1, X.2.1, X.2.2.1, X.2.2.2.1, X.2.2.2.2.1⟩ (hM H.size) ⟨va_cnB n X.2.2.2.2.1 hG rfl rfl rfl (X.2.2.2.2.2.2.1.1 _ h) (X.2.2.2.2.1 _ km.2.1) km.2.2 hR, X.2.2.2.2.1 _ kv.1, X.2.2.2.2.1 _ kv.2⟩ ⟨pS.blind hst, hrec, fun U hU hW => X_pre2 X hst hxe hS hFc hPc hDc U hU hW⟩ rfl hn hl.1 hst0 (lv_room hcat) hdg hf
theorem rVe_I {S : Type} {post : Int32 → S → Prop} {w1 : S → va_W} {rt : FieldType} (X : fx p s m c cc nL args own dC dI cy ex0 A) (hst : stb ex) (hxe : ex A s s.heap) (hM : ctI l dC dI cy ex y bytes maxL rt rm (.ref b :: As) wc post w1) (km : mOK y bytes maxL (some rt) n) (kv : Cond.instanceMethod y ∈ wsU ∧ Cond.selects y.cls y y ∈ wsU) (lk : mLk own idx y) (hP : va_P (dC, dI) vwCl ws H) (hD : va_D A ws) (hS : va_S A s.heap H locs) (hA : ∀ q, s.heap.size ≤ q → A q) (isC : List Nat) (hnd : va_nd isC = true) (hC : isC.map (fun i => ws[i]?) = wc.map some) (q0 : Nat) {q : vw_C} (hq : wc[q0]? = some (b, .inr (ci, fs))) (hc : vwCl[ci]? = some q) (hq1 : q.1 = y.cls) (hl : lv_has ls nL lv) (hn : As.length = n) (hst0 : st = As.reverse ++ .ref b :: rest) (hcat : (rest.map fun v => v.category).sum ≤ 8) (hdg : decode cc pc = .ok (.invokevirtual idx, 3))
    (hR : rm.frames + 1 ≤ R.frames ∧ 8 + (maxL + 11) + rm.locals ≤ R.locals) (hf : cells + rm.cells ≤ R.cells ∧ slots + rm.slots ≤ R.slots) :
    va_Run p l e R s m args below meth c H locs cells slots rm.cells rm.slots (F0 m pc ls st) rest (va_Qi post (qS dC dI (va_A wc H.size) w1) (va_A wc H.size) (Value.ref b :: As).toArray) (va_A wc H.size) :=
  rVe (Qc := fun A => va_Qi post (qS dC dI A w1) A) X hst hxe hM km kv lk hP hD hS hA isC hnd hC q0 hq hc hq1 hl hn hst0 hcat hdg hR hf
end Str
set_option maxHeartbeats 4000000 in
set_option maxRecDepth 100000 in
theorem sJ0_coder (l : Launch) (dC : Nat → ClassId) (dI : Nat → Nat → Nat) (cy : Nat → ClassId) (sa : Nat) (sv : Nat) (sn : Nat) (sf : Nat → Int32) : ctI l dC dI cy (andX hp (sO sa sv sn sf)) yJ0_coder_7d493 cJ0_coder_7d493 1 .byte ({ frames := 0, cells := 0, slots := 0, locals := 0 } : Room) [.ref sa] [] (S := Unit) (fun r _ => (r = 0)) (fun _ => []) := by
  refine ctI.of (by decide +kernel) (Nat.le_of_ble_eq_true rfl) ?_
  intro p e s m args below meth c A ls Q hQ X hr hlocks hin hA hP hD hS hl
  have hx := X.1
  have hb := X.2.1
  have hK := X.2.2.2.2.2.1
  have hl : lv_has ls 1 [(0, .ref sa)] := hl
  refine va_gets hx hb X.2.2.2.2.2.2.2.1.2.1 hS X.2.2.2.1 (X.2.2.2.2.1 _ w_565) (fun _ h9 => h9) dJ0_coder_7d493_0 ?_
  refine lv_if_eq (tgt := 13) hx hb dJ0_coder_7d493_3 (by decide) (fun h_1 => absurd h_1 (by decide)) (fun _ => ?_)
  refine lv_aload_n hx hb dJ0_coder_7d493_6 rfl (lv_at hl 0 rfl) ?_
  refine vk_getf hx hb X.2.2.2.2.2.2.2.2.2.1 hS X.2.2.2.1 (X.2.2.2.2.1 _ w_2044) (fun _ h9 => h9) dJ0_coder_7d493_7 ?_
  refine lv_goto (tgt := 14) hx hb dJ0_coder_7d493_10 (by decide) ?_
  exact eI hQ X hr hlocks hP hD hS () [] (by decide) rfl rfl (show ((0 : Int32) = 0) from rfl) (Nat.le_of_ble_eq_true rfl) (Nat.le_of_ble_eq_true rfl) dJ0_coder_7d493_14
set_option maxHeartbeats 4000000 in
set_option maxRecDepth 100000 in
theorem sJ0_isLatin1 (l : Launch) (dC : Nat → ClassId) (dI : Nat → Nat → Nat) (cy : Nat → ClassId) (sa : Nat) (sv : Nat) (sn : Nat) (sf : Nat → Int32) : ctI l dC dI cy (andX hp (sO sa sv sn sf)) yJ0_isLatin1_aae02 cJ0_isLatin1_aae02 1 .boolean ({ frames := 0, cells := 0, slots := 0, locals := 0 } : Room) [.ref sa] [] (S := Unit) (fun r _ => (r = 1)) (fun _ => []) := by
  refine ctI.of (by decide +kernel) (Nat.le_of_ble_eq_true rfl) ?_
  intro p e s m args below meth c A ls Q hQ X hr hlocks hin hA hP hD hS hl
  have hx := X.1
  have hb := X.2.1
  have hK := X.2.2.2.2.2.1
  have hl : lv_has ls 1 [(0, .ref sa)] := hl
  refine va_gets hx hb X.2.2.2.2.2.2.2.1.2.1 hS X.2.2.2.1 (X.2.2.2.2.1 _ w_565) (fun _ h9 => h9) dJ0_isLatin1_aae02_0 ?_
  refine lv_if_eq (tgt := 17) hx hb dJ0_isLatin1_aae02_3 (by decide) (fun h_1 => absurd h_1 (by decide)) (fun _ => ?_)
  refine lv_aload_n hx hb dJ0_isLatin1_aae02_6 rfl (lv_at hl 0 rfl) ?_
  refine vk_getf hx hb X.2.2.2.2.2.2.2.2.2.1 hS X.2.2.2.1 (X.2.2.2.2.1 _ w_2044) (fun _ h9 => h9) dJ0_isLatin1_aae02_7 ?_
  refine lv_if_ne (tgt := 17) hx hb dJ0_isLatin1_aae02_10 (by decide) (fun h_2 => absurd (by decide) h_2) (fun _ => ?_)
  refine lv_iconst (v := 1) hx hb dJ0_isLatin1_aae02_13 (by decide) ?_
  refine lv_goto (tgt := 18) hx hb dJ0_isLatin1_aae02_14 (by decide) ?_
  exact eI hQ X hr hlocks hP hD hS () [] (by decide) rfl rfl (show ((1 : Int32) = 1) from rfl) (Nat.le_of_ble_eq_true rfl) (Nat.le_of_ble_eq_true rfl) dJ0_isLatin1_aae02_18
set_option maxHeartbeats 4000000 in
set_option maxRecDepth 100000 in
theorem sJ0_length (l : Launch) (dC : Nat → ClassId) (dI : Nat → Nat → Nat) (cy : Nat → ClassId) (sa : Nat) (sv : Nat) (sn : Nat) (sf : Nat → Int32) (hsn : sn < 1000) : ctI l dC dI cy (andX hp (sO sa sv sn sf)) yJ0_length_8abf5 cJ0_length_8abf5 1 .int ({ frames := 1, cells := 0, slots := 0, locals := 20 } : Room) [.ref sa] [] (S := Unit) (fun r _ => (0 ≤ r.toInt ∧ r.toInt ≤ 1000) ∧ (r.toInt = (sn : Int))) (fun _ => []) := by
  refine ctI.of (by decide +kernel) (Nat.le_of_ble_eq_true rfl) ?_
  intro p e s m args below meth c A ls Q hQ X hr hlocks hin hA hP hD hS hl
  have hx := X.1
  have hb := X.2.1
  have hK := X.2.2.2.2.2.1
  have hl : lv_has ls 1 [(0, .ref sa)] := hl
  refine lv_aload_n hx hb dJ0_length_8abf5_0 rfl (lv_at hl 0 rfl) ?_
  refine vk_getf hx hb X.2.2.2.2.2.2.2.2.2.2.1 hS X.2.2.2.1 (X.2.2.2.2.1 _ w_2043) (fun _ h9 => h9) dJ0_length_8abf5_1 ?_
  obtain ⟨x_1, ex_1⟩ : ∃ y : Int32, Int32.ofNat sn = y := ⟨_, rfl⟩
  have tx_1 : x_1.toInt = (sn : Int) := by rw [← ex_1]; exact Int32.toInt_ofNat_of_lt (by omega)
  refine va_tlen hx hb X.2.2.2.2.2.2.2.2.2.2.2 hS ex_1 dJ0_length_8abf5_4 ?_
  refine lv_aload_n hx hb dJ0_length_8abf5_5 rfl (lv_at hl 0 rfl) ?_
  refine fI (wr := []) (rVo_I (wc := []) (As := []) (rest := [.int x_1]) X (andX_st hp_st (sO_st sa sv sn sf)) X.2.2.2.2.2.2.2 (sJ0_coder l dC dI cy sa _ _ _) kJ0_coder_7d493 vJ0_coder_7d493 mJ0_335 hP hD hS hA [] rfl rfl X.2.2.2.2.2.2.2.2.1 hl rfl rfl (Nat.le_of_ble_eq_true rfl) dJ0_length_8abf5_6 ⟨(Nat.le_of_ble_eq_true rfl), (Nat.le_of_ble_eq_true rfl)⟩ ⟨(Nat.le_of_ble_eq_true rfl), (Nat.le_of_ble_eq_true rfl)⟩) hP hD hS hA [] [] rfl rfl (by decide) (by decide) (fun r_2 u_4 H locs k_3 hP hD hS => ?_)
  have k_3 : (r_2 = 0) := k_3
  have hP : va_P (dC, dI) vwCl [] H := hP
  have hD : va_D A [] := hD
  have er_2 : r_2 = 0 := k_3
  subst er_2
  refine lv_ishr hx hb dJ0_length_8abf5_9 ?_
  refine lv_topi (fun x_5 ex_5 => ?_)
  have qx_5 : x_1 = x_5 := by rw [ex_5]; exact (sh0 _).symm
  subst qx_5
  exact eI hQ X hr hlocks hP hD hS () [] (by decide) rfl rfl (show (0 ≤ x_1.toInt ∧ x_1.toInt ≤ 1000) ∧ (x_1.toInt = (sn : Int)) from ⟨(by omega), (by omega)⟩) (Nat.le_of_ble_eq_true rfl) (Nat.le_of_ble_eq_true rfl) dJ0_length_8abf5_10
set_option maxHeartbeats 4000000 in
set_option maxRecDepth 100000 in
theorem sJ3_checkIndex_n (l : Launch) (dC : Nat → ClassId) (dI : Nat → Nat → Nat) (cy : Nat → ClassId) (p1 : Int32) (p2 : Int32) (hp1 : 0 ≤ p1.toInt ∧ p1.toInt < p2.toInt) : ctI l dC dI cy hp yJ3_checkIndex_8e157 cJ3_checkIndex_8e157 3 .int ({ frames := 0, cells := 0, slots := 0, locals := 0 } : Room) [.int p1, .int p2, .null] [] (S := Unit) (fun r _ => True) (fun _ => []) := by
  refine ctI.of (by decide +kernel) (Nat.le_of_ble_eq_true rfl) ?_
  intro p e s m args below meth c A ls Q hQ X hr hlocks hin hA hP hD hS hl
  have hx := X.1
  have hb := X.2.1
  have hK := X.2.2.2.2.2.1
  have hl : lv_has ls 3 [(0, .int p1), (1, .int p2), (2, .null)] := hl
  have dy_1 := ti_bd p1
  have dy_2 := ti_bd p2
  refine lv_iload_n hx hb dJ3_checkIndex_8e157_0 rfl (lv_at hl 0 rfl) ?_
  refine lv_if_lt (tgt := 9) hx hb dJ3_checkIndex_8e157_1 (by decide) (fun h_3 => ?_) (fun h_3 => ?_)
  · have h_3 : p1.toInt < 0 := c_lt h_3
    exfalso
    omega
  · have h_3 : 0 ≤ p1.toInt := c_nlt h_3
    refine lv_iload_n hx hb dJ3_checkIndex_8e157_4 rfl (lv_at hl 0 rfl) ?_
    refine lv_iload_n hx hb dJ3_checkIndex_8e157_5 rfl (lv_at hl 1 rfl) ?_
    refine lv_icmp_lt (tgt := 16) hx hb dJ3_checkIndex_8e157_6 (by decide) (fun h_4 => ?_) (fun h_4 => ?_)
    · have h_4 : p1.toInt < p2.toInt := c_lt h_4
      refine lv_iload_n hx hb dJ3_checkIndex_8e157_16 rfl (lv_at hl 0 rfl) ?_
      exact eI hQ X hr hlocks hP hD hS () [] (by decide) rfl rfl trivial (Nat.le_of_ble_eq_true rfl) (Nat.le_of_ble_eq_true rfl) dJ3_checkIndex_8e157_17
    · have h_4 : p2.toInt ≤ p1.toInt := c_nlt h_4
      exfalso
      omega
set_option maxHeartbeats 4000000 in
set_option maxRecDepth 100000 in
theorem sJ3_checkIndex_r (l : Launch) (dC : Nat → ClassId) (dI : Nat → Nat → Nat) (cy : Nat → ClassId) (p1 : Int32) (p2 : Int32) (p3 : Nat) (hp1 : 0 ≤ p1.toInt ∧ p1.toInt < p2.toInt) : ctI l dC dI cy hp yJ3_checkIndex_8e157 cJ3_checkIndex_8e157 3 .int ({ frames := 0, cells := 0, slots := 0, locals := 0 } : Room) [.int p1, .int p2, .ref p3] [] (S := Unit) (fun r _ => True) (fun _ => []) := by
  refine ctI.of (by decide +kernel) (Nat.le_of_ble_eq_true rfl) ?_
  intro p e s m args below meth c A ls Q hQ X hr hlocks hin hA hP hD hS hl
  have hx := X.1
  have hb := X.2.1
  have hK := X.2.2.2.2.2.1
  have hl : lv_has ls 3 [(0, .int p1), (1, .int p2), (2, .ref p3)] := hl
  have dy_1 := ti_bd p1
  have dy_2 := ti_bd p2
  refine lv_iload_n hx hb dJ3_checkIndex_8e157_0 rfl (lv_at hl 0 rfl) ?_
  refine lv_if_lt (tgt := 9) hx hb dJ3_checkIndex_8e157_1 (by decide) (fun h_3 => ?_) (fun h_3 => ?_)
  · have h_3 : p1.toInt < 0 := c_lt h_3
    exfalso
    omega
  · have h_3 : 0 ≤ p1.toInt := c_nlt h_3
    refine lv_iload_n hx hb dJ3_checkIndex_8e157_4 rfl (lv_at hl 0 rfl) ?_
    refine lv_iload_n hx hb dJ3_checkIndex_8e157_5 rfl (lv_at hl 1 rfl) ?_
    refine lv_icmp_lt (tgt := 16) hx hb dJ3_checkIndex_8e157_6 (by decide) (fun h_4 => ?_) (fun h_4 => ?_)
    · have h_4 : p1.toInt < p2.toInt := c_lt h_4
      refine lv_iload_n hx hb dJ3_checkIndex_8e157_16 rfl (lv_at hl 0 rfl) ?_
      exact eI hQ X hr hlocks hP hD hS () [] (by decide) rfl rfl trivial (Nat.le_of_ble_eq_true rfl) (Nat.le_of_ble_eq_true rfl) dJ3_checkIndex_8e157_17
    · have h_4 : p2.toInt ≤ p1.toInt := c_nlt h_4
      exfalso
      omega
set_option maxHeartbeats 4000000 in
set_option maxRecDepth 100000 in
theorem sJ0_checkIndex (l : Launch) (dC : Nat → ClassId) (dI : Nat → Nat → Nat) (cy : Nat → ClassId) (p1 : Int32) (p2 : Int32) (hp1 : 0 ≤ p1.toInt ∧ p1.toInt < p2.toInt) : ctV l dC dI cy hp yJ0_checkIndex_df160 cJ0_checkIndex_df160 2 ({ frames := 1, cells := 0, slots := 0, locals := 22 } : Room) [.int p1, .int p2] [] (S := Unit) (fun _ => True) (fun _ => []) := by
  refine ctV.of (by decide +kernel) (Nat.le_of_ble_eq_true rfl) ?_
  intro p e s m args below meth c A ls Q hQ X hr hlocks hin hA hP hD hS hl
  have hx := X.1
  have hb := X.2.1
  have hK := X.2.2.2.2.2.1
  have hl : lv_has ls 2 [(0, .int p1), (1, .int p2)] := hl
  have dy_1 := ti_bd p1
  have dy_2 := ti_bd p2
  refine lv_iload_n hx hb dJ0_checkIndex_df160_0 rfl (lv_at hl 0 rfl) ?_
  refine lv_iload_n hx hb dJ0_checkIndex_df160_1 rfl (lv_at hl 1 rfl) ?_
  rcases X.2.2.2.2.2.2.2.2.2.1 with hz | ⟨q_3, hz⟩
  · refine va_gets hx hb hz hS X.2.2.2.1 (X.2.2.2.2.1 _ w_581) (fun _ h9 => h9) dJ0_checkIndex_df160_2 ?_
    refine fI (wr := []) (rS_I (wc := []) (As := [.int p1, .int p2, .null]) (rest := []) X hp_st (fun _ _ _ h => h) (sJ3_checkIndex_n l dC dI cy p1 p2 hp1) kJ3_checkIndex_8e157 w_584 mJ0_1059 hP hD hS hA [] (by decide) rfl hl rfl rfl (Nat.le_of_ble_eq_true rfl) dJ0_checkIndex_df160_5 ⟨(Nat.le_of_ble_eq_true rfl), (Nat.le_of_ble_eq_true rfl)⟩ ⟨(Nat.le_of_ble_eq_true rfl), (Nat.le_of_ble_eq_true rfl)⟩) hP hD hS hA [] [] rfl rfl (by decide) (by decide) (fun r_4 u_6 H locs k_5 hP hD hS => ?_)
    have hP : va_P (dC, dI) vwCl [] H := hP
    have hD : va_D A [] := hD
    refine lv_pop hx hb dJ0_checkIndex_df160_8 rfl ?_
    exact eV hQ X hr hlocks hP hD hS () [] (by decide) rfl trivial (Nat.le_of_ble_eq_true rfl) (Nat.le_of_ble_eq_true rfl) dJ0_checkIndex_df160_9
  · refine va_gets hx hb hz hS X.2.2.2.1 (X.2.2.2.2.1 _ w_581) (fun _ h9 => h9) dJ0_checkIndex_df160_2 ?_
    refine fI (wr := []) (rS_I (wc := []) (As := [.int p1, .int p2, .ref q_3]) (rest := []) X hp_st (fun _ _ _ h => h) (sJ3_checkIndex_r l dC dI cy p1 p2 q_3 hp1) kJ3_checkIndex_8e157 w_584 mJ0_1059 hP hD hS hA [] (by decide) rfl hl rfl rfl (Nat.le_of_ble_eq_true rfl) dJ0_checkIndex_df160_5 ⟨(Nat.le_of_ble_eq_true rfl), (Nat.le_of_ble_eq_true rfl)⟩ ⟨(Nat.le_of_ble_eq_true rfl), (Nat.le_of_ble_eq_true rfl)⟩) hP hD hS hA [] [] rfl rfl (by decide) (by decide) (fun r_7 u_9 H locs k_8 hP hD hS => ?_)
    have hP : va_P (dC, dI) vwCl [] H := hP
    have hD : va_D A [] := hD
    refine lv_pop hx hb dJ0_checkIndex_df160_8 rfl ?_
    exact eV hQ X hr hlocks hP hD hS () [] (by decide) rfl trivial (Nat.le_of_ble_eq_true rfl) (Nat.le_of_ble_eq_true rfl) dJ0_checkIndex_df160_9
set_option maxHeartbeats 4000000 in
set_option maxRecDepth 100000 in
theorem sJ1_charAt (l : Launch) (dC : Nat → ClassId) (dI : Nat → Nat → Nat) (cy : Nat → ClassId) (sa : Nat) (sv : Nat) (sn : Nat) (sf : Nat → Int32) (p1 : Int32) (hsn : sn < 1000) (hp1 : 0 ≤ p1.toInt ∧ p1.toInt < (sn : Int)) : ctI l dC dI cy (andX hp (sO sa sv sn sf)) yJ1_charAt_3b067 cJ1_charAt_3b067 2 .char ({ frames := 2, cells := 0, slots := 0, locals := 43 } : Room) [.ref sv, .int p1] [] (S := Unit) (fun r _ => (narrow .char (.int r) = .int r)) (fun _ => []) := by
  refine ctI.of (by decide +kernel) (Nat.le_of_ble_eq_true rfl) ?_
  intro p e s m args below meth c A ls Q hQ X hr hlocks hin hA hP hD hS hl
  have hx := X.1
  have hb := X.2.1
  have hK := X.2.2.2.2.2.1
  have hl : lv_has ls 2 [(0, .ref sv), (1, .int p1)] := hl
  have dy_1 := ti_bd p1
  refine lv_iload_n hx hb dJ1_charAt_3b067_0 rfl (lv_at hl 1 rfl) ?_
  refine lv_aload_n hx hb dJ1_charAt_3b067_1 rfl (lv_at hl 0 rfl) ?_
  obtain ⟨x_2, ex_2⟩ : ∃ y : Int32, Int32.ofNat sn = y := ⟨_, rfl⟩
  have tx_2 : x_2.toInt = (sn : Int) := by rw [← ex_2]; exact Int32.toInt_ofNat_of_lt (by omega)
  refine va_tlen hx hb X.2.2.2.2.2.2.2.2.2.2.2 hS ex_2 dJ1_charAt_3b067_2 ?_
  refine fV (wr := []) (rS_V (wc := []) (As := [.int p1, .int x_2]) (rest := []) X hp_st (fun _ _ _ h => h.1) (sJ0_checkIndex l dC dI cy p1 x_2 (by first | omega | decide)) kJ0_checkIndex_df160 w_579 mJ1_9 hP hD hS hA [] (by decide) rfl hl rfl rfl (Nat.le_of_ble_eq_true rfl) dJ1_charAt_3b067_3 ⟨(Nat.le_of_ble_eq_true rfl), (Nat.le_of_ble_eq_true rfl)⟩ ⟨(Nat.le_of_ble_eq_true rfl), (Nat.le_of_ble_eq_true rfl)⟩) hP hD hS hA [] [] rfl rfl (by decide) (by decide) (fun u_5 H locs k_4 hP hD hS => ?_)
  have hP : va_P (dC, dI) vwCl [] H := hP
  have hD : va_D A [] := hD
  refine lv_aload_n hx hb dJ1_charAt_3b067_6 rfl (lv_at hl 0 rfl) ?_
  refine lv_iload_n hx hb dJ1_charAt_3b067_7 rfl (lv_at hl 1 rfl) ?_
  obtain ⟨x_6, ex_6⟩ : ∃ y : Int32, sf (Int32.toNatClampNeg p1) = y := ⟨_, rfl⟩
  refine va_tb hx hb X.2.2.2.2.2.2.2.2.2.2.2 hS (i := p1) (vin (by omega) (by omega)) (v := .int x_6) (by rw [ex_6]) dJ1_charAt_3b067_8 ?_
  refine lv_sipush (v := 255) hx hb dJ1_charAt_3b067_9 (by decide) ?_
  refine lv_iand hx hb dJ1_charAt_3b067_12 ?_
  have dy_7 := ti_bd x_6
  refine lv_topi (fun x_8 ex_8 => ?_)
  have tx_8 : 0 ≤ x_8.toInt ∧ x_8.toInt ≤ 255 := ti_andr ex_8 (by decide)
  obtain ⟨x_9, ex_9⟩ : ∃ y : Int32, (x_8.toUInt32 % 65536).toInt32 = y := ⟨_, rfl⟩
  refine lv_i2c hx hb dJ1_charAt_3b067_13 ex_9 ?_
  exact eI hQ X hr hlocks hP hD hS () [] (by decide) rfl (by rw [← ex_9]; exact pk_nc _) (show (narrow .char (.int x_9) = .int x_9) from (by rw [← ex_9]; exact pk_nc _)) (Nat.le_of_ble_eq_true rfl) (Nat.le_of_ble_eq_true rfl) dJ1_charAt_3b067_14
set_option maxHeartbeats 4000000 in
set_option maxRecDepth 100000 in
theorem sJ0_charAt (l : Launch) (dC : Nat → ClassId) (dI : Nat → Nat → Nat) (cy : Nat → ClassId) (sa : Nat) (sv : Nat) (sn : Nat) (sf : Nat → Int32) (p1 : Int32) (hsn : sn < 1000) (hp1 : 0 ≤ p1.toInt ∧ p1.toInt < (sn : Int)) : ctI l dC dI cy (andX hp (sO sa sv sn sf)) yJ0_charAt_5068e cJ0_charAt_5068e 2 .char ({ frames := 3, cells := 0, slots := 0, locals := 64 } : Room) [.ref sa, .int p1] [] (S := Unit) (fun r _ => True) (fun _ => []) := by
  refine ctI.of (by decide +kernel) (Nat.le_of_ble_eq_true rfl) ?_
  intro p e s m args below meth c A ls Q hQ X hr hlocks hin hA hP hD hS hl
  have hx := X.1
  have hb := X.2.1
  have hK := X.2.2.2.2.2.1
  have hl : lv_has ls 2 [(0, .ref sa), (1, .int p1)] := hl
  have dy_1 := ti_bd p1
  refine lv_aload_n hx hb dJ0_charAt_5068e_0 rfl (lv_at hl 0 rfl) ?_
  refine fI (wr := []) (rVo_I (wc := []) (As := []) (rest := []) X (andX_st hp_st (sO_st sa sv sn sf)) X.2.2.2.2.2.2.2 (sJ0_isLatin1 l dC dI cy sa _ _ _) kJ0_isLatin1_aae02 vJ0_isLatin1_aae02 mJ0_492 hP hD hS hA [] rfl rfl X.2.2.2.2.2.2.2.2.1 hl rfl rfl (Nat.le_of_ble_eq_true rfl) dJ0_charAt_5068e_1 ⟨(Nat.le_of_ble_eq_true rfl), (Nat.le_of_ble_eq_true rfl)⟩ ⟨(Nat.le_of_ble_eq_true rfl), (Nat.le_of_ble_eq_true rfl)⟩) hP hD hS hA [] [] rfl rfl (by decide) (by decide) (fun r_2 u_4 H locs k_3 hP hD hS => ?_)
  have k_3 : (r_2 = 1) := k_3
  have hP : va_P (dC, dI) vwCl [] H := hP
  have hD : va_D A [] := hD
  have er_2 : r_2 = 1 := k_3
  subst er_2
  refine lv_if_eq (tgt := 16) hx hb dJ0_charAt_5068e_4 (by decide) (fun h_5 => absurd h_5 (by decide)) (fun _ => ?_)
  refine lv_aload_n hx hb dJ0_charAt_5068e_7 rfl (lv_at hl 0 rfl) ?_
  refine vk_getf hx hb X.2.2.2.2.2.2.2.2.2.2.1 hS X.2.2.2.1 (X.2.2.2.2.1 _ w_2043) (fun _ h9 => h9) dJ0_charAt_5068e_8 ?_
  refine lv_iload_n hx hb dJ0_charAt_5068e_11 rfl (lv_at hl 1 rfl) ?_
  refine fI (wr := []) (rS_I (wc := []) (As := [.ref sv, .int p1]) (rest := []) X (andX_st hp_st (sO_st sa sv sn sf)) (fun _ _ _ h => h) (sJ1_charAt l dC dI cy _ sv _ _ p1 hsn hp1) kJ1_charAt_3b067 w_576 mJ0_495 hP hD hS hA [] (by decide) rfl hl rfl rfl (Nat.le_of_ble_eq_true rfl) dJ0_charAt_5068e_12 ⟨(Nat.le_of_ble_eq_true rfl), (Nat.le_of_ble_eq_true rfl)⟩ ⟨(Nat.le_of_ble_eq_true rfl), (Nat.le_of_ble_eq_true rfl)⟩) hP hD hS hA [] [] rfl rfl (by decide) (by decide) (fun r_6 u_8 H locs k_7 hP hD hS => ?_)
  have k_7 : (narrow .char (.int r_6) = .int r_6) := k_7
  have hP : va_P (dC, dI) vwCl [] H := hP
  have hD : va_D A [] := hD
  exact eI hQ X hr hlocks hP hD hS () [] (by decide) rfl k_7 trivial (Nat.le_of_ble_eq_true rfl) (Nat.le_of_ble_eq_true rfl) dJ0_charAt_5068e_15
set_option maxHeartbeats 4000000 in
set_option maxRecDepth 100000 in
theorem sJ1_canEncode (l : Launch) (dC : Nat → ClassId) (dI : Nat → Nat → Nat) (cy : Nat → ClassId) (p1 : Int32) : ctI l dC dI cy hp yJ1_canEncode_9a6ad cJ1_canEncode_9a6ad 1 .boolean ({ frames := 0, cells := 0, slots := 0, locals := 0 } : Room) [.int p1] [] (S := Unit) (fun r _ => (0 ≤ r.toInt ∧ r.toInt ≤ 1)) (fun _ => []) := by
  refine ctI.of (by decide +kernel) (Nat.le_of_ble_eq_true rfl) ?_
  intro p e s m args below meth c A ls Q hQ X hr hlocks hin hA hP hD hS hl
  have hx := X.1
  have hb := X.2.1
  have hK := X.2.2.2.2.2.1
  have hl : lv_has ls 1 [(0, .int p1)] := hl
  have dy_1 := ti_bd p1
  refine lv_iload_n hx hb dJ1_canEncode_9a6ad_0 rfl (lv_at hl 0 rfl) ?_
  refine lv_if_lt (tgt := 15) hx hb dJ1_canEncode_9a6ad_1 (by decide) (fun h_2 => ?_) (fun h_2 => ?_)
  · have h_2 : p1.toInt < 0 := c_lt h_2
    refine lv_iconst (v := 0) hx hb dJ1_canEncode_9a6ad_15 (by decide) ?_
    exact eI hQ X hr hlocks hP hD hS () [] (by decide) rfl rfl (show (0 ≤ (0 : Int32).toInt ∧ (0 : Int32).toInt ≤ 1) from (by first | omega | decide | (refine ⟨by decide, ?_⟩; omega) | (have h9_0 : (0 : Int32).toInt = 0 := (by decide); omega))) (Nat.le_of_ble_eq_true rfl) (Nat.le_of_ble_eq_true rfl) dJ1_canEncode_9a6ad_16
  · have h_2 : 0 ≤ p1.toInt := c_nlt h_2
    refine lv_iload_n hx hb dJ1_canEncode_9a6ad_4 rfl (lv_at hl 0 rfl) ?_
    refine lv_sipush (v := 255) hx hb dJ1_canEncode_9a6ad_5 (by decide) ?_
    refine lv_icmp_gt (tgt := 15) hx hb dJ1_canEncode_9a6ad_8 (by decide) (fun h_3 => ?_) (fun h_3 => ?_)
    · have h_3 : 255 < p1.toInt := c_lt h_3
      refine lv_iconst (v := 0) hx hb dJ1_canEncode_9a6ad_15 (by decide) ?_
      exact eI hQ X hr hlocks hP hD hS () [] (by decide) rfl rfl (show (0 ≤ (0 : Int32).toInt ∧ (0 : Int32).toInt ≤ 1) from (by first | omega | decide | (refine ⟨by decide, ?_⟩; omega) | (have h9_0 : (0 : Int32).toInt = 0 := (by decide); omega))) (Nat.le_of_ble_eq_true rfl) (Nat.le_of_ble_eq_true rfl) dJ1_canEncode_9a6ad_16
    · have h_3 : p1.toInt ≤ 255 := c_nlt h_3
      refine lv_iconst (v := 1) hx hb dJ1_canEncode_9a6ad_11 (by decide) ?_
      refine lv_goto (tgt := 16) hx hb dJ1_canEncode_9a6ad_12 (by decide) ?_
      exact eI hQ X hr hlocks hP hD hS () [] (by decide) rfl rfl (show (0 ≤ (1 : Int32).toInt ∧ (1 : Int32).toInt ≤ 1) from (by first | omega | decide | (refine ⟨by decide, ?_⟩; omega) | (have h9_0 : (1 : Int32).toInt = 1 := (by decide); omega))) (Nat.le_of_ble_eq_true rfl) (Nat.le_of_ble_eq_true rfl) dJ1_canEncode_9a6ad_16
set_option maxHeartbeats 4000000 in
set_option maxRecDepth 100000 in
theorem sJ1_indexOfChar (l : Launch) (dC : Nat → ClassId) (dI : Nat → Nat → Nat) (cy : Nat → ClassId) (sa : Nat) (sv : Nat) (sn : Nat) (sf : Nat → Int32) (p1 : Int32) (p2 : Int32) (p3 : Int32) (hsn : sn < 1000) (hp2 : 0 ≤ p2.toInt ∧ p2.toInt ≤ 1000) (hp3 : 0 ≤ p3.toInt ∧ p3.toInt ≤ 1000) (hp4 : p3.toInt ≤ (sn : Int)) : ctI l dC dI cy (andX hp (sO sa sv sn sf)) yJ1_indexOfChar_4cfef cJ1_indexOfChar_4cfef 6 .int ({ frames := 0, cells := 0, slots := 0, locals := 0 } : Room) [.ref sv, .int p1, .int p2, .int p3] [] (S := Unit) (fun r _ => ((-1) ≤ r.toInt ∧ r.toInt ≤ 999) ∧ (r.toInt < (sn : Int))) (fun _ => []) := by
  refine ctI.of (by decide +kernel) (Nat.le_of_ble_eq_true rfl) ?_
  intro p e s m args below meth c A ls Q hQ X hr hlocks hin hA hP hD hS hl
  have hx := X.1
  have hb := X.2.1
  have hK := X.2.2.2.2.2.1
  have hl : lv_has ls 6 [(0, .ref sv), (1, .int p1), (2, .int p2), (3, .int p3)] := hl
  have dy_1 := ti_bd p1
  refine lv_iload_n hx hb dJ1_indexOfChar_4cfef_0 rfl (lv_at hl 1 rfl) ?_
  obtain ⟨x_2, ex_2⟩ : ∃ y : Int32, p1.toInt8.toInt32 = y := ⟨_, rfl⟩
  refine lv_i2b hx hb dJ1_indexOfChar_4cfef_1 ex_2 ?_
  refine lv_istore (lv' := [(4, .int x_2), (0, .ref sv), (1, .int p1), (2, .int p2), (3, .int p3)]) hx hb dJ1_indexOfChar_4cfef_2 hl (by decide) rfl (fun ls hl => ?_)
  refine lv_iload_n hx hb dJ1_indexOfChar_4cfef_4 rfl (lv_at hl 3 rfl) ?_
  refine lv_istore (lv' := [(5, .int p2), (4, .int x_2), (0, .ref sv), (1, .int p1), (2, .int p2), (3, .int p3)]) hx hb dJ1_indexOfChar_4cfef_5 hl (by decide) rfl (fun ls hl => ?_)
  have lp_3 : ∀ (nlp_3 : Nat) (i_4 : Int32) (H : Heap) (locs : List Loc) (ls : Array Slot), (0 ≤ i_4.toInt ∧ i_4.toInt ≤ 1000) → (1001 - i_4.toInt ≤ (nlp_3 : Int)) → va_P (dC, dI) vwCl [] H → va_D A [] → va_S A s.heap H locs → lv_has ls 6 [(5, .int i_4), (4, .int x_2), (0, .ref sv), (1, .int p1), (2, .int p2), (3, .int p3)] → W p l e ({ frames := 0, cells := 0, slots := 0, locals := 0 } : Room) s m args below meth c H locs 0 0 Q (F0 m 7 ls []) := by
    intro nlp_3
    induction nlp_3 with
    | zero =>
      intro i_4 H locs ls b_5 hmlp_3 hP hD hS hl
      exfalso
      have di_4 := ti_bd i_4
      omega
    | succ nlp_3 ihlp_3 =>
      intro i_4 H locs ls b_5 hmlp_3 hP hD hS hl
      refine lv_iload hx hb dJ1_indexOfChar_4cfef_7 (lv_at hl 0 rfl) ?_
      refine lv_iload_n hx hb dJ1_indexOfChar_4cfef_9 rfl (lv_at hl 5 rfl) ?_
      refine lv_icmp_ge (tgt := 31) hx hb dJ1_indexOfChar_4cfef_10 (by decide) (fun h_6 => ?_) (fun h_6 => ?_)
      · have h_6 : p3.toInt ≤ i_4.toInt := c_le h_6
        refine lv_iconst (v := -1) hx hb dJ1_indexOfChar_4cfef_31 (by decide) ?_
        exact eI hQ X hr hlocks hP hD hS () [] (by decide) rfl rfl (show ((-1) ≤ (-1 : Int32).toInt ∧ (-1 : Int32).toInt ≤ 999) ∧ ((-1 : Int32).toInt < (sn : Int)) from ⟨(by first | omega | decide | (refine ⟨by decide, ?_⟩; omega) | (have h9_0 : (-1 : Int32).toInt = (-1) := (by decide); omega)), (by first | omega | decide | (refine ⟨by decide, ?_⟩; omega) | (have h9_0 : (-1 : Int32).toInt = (-1) := (by decide); omega))⟩) (Nat.le_of_ble_eq_true rfl) (Nat.le_of_ble_eq_true rfl) dJ1_indexOfChar_4cfef_32
      · have h_6 : i_4.toInt < p3.toInt := c_nle h_6
        refine lv_aload_n hx hb dJ1_indexOfChar_4cfef_13 rfl (lv_at hl 2 rfl) ?_
        refine lv_iload hx hb dJ1_indexOfChar_4cfef_14 (lv_at hl 0 rfl) ?_
        obtain ⟨x_7, ex_7⟩ : ∃ y : Int32, sf (Int32.toNatClampNeg i_4) = y := ⟨_, rfl⟩
        refine va_tb hx hb X.2.2.2.2.2.2.2.2.2.2.2 hS (i := i_4) (vin (by omega) (by omega)) (v := .int x_7) (by rw [ex_7]) dJ1_indexOfChar_4cfef_16 ?_
        refine lv_iload hx hb dJ1_indexOfChar_4cfef_17 (lv_at hl 1 rfl) ?_
        refine lv_icmp_ne (tgt := 25) hx hb dJ1_indexOfChar_4cfef_19 (by decide) (fun h_8 => ?_) (fun h_8 => ?_)
        · have h_8 : x_7.toInt ≠ x_2.toInt := c_ne h_8
          obtain ⟨x_9, ex_9⟩ : ∃ y : Int32, y = i_4 + 1 := ⟨_, rfl⟩
          have tx_9 : x_9.toInt = i_4.toInt + 1 := ti_add (A := i_4.toInt) (B := 1) ex_9 rfl rfl (by omega) (by omega)
          refine lv_iinc (v := x_9) (lv' := [(5, .int x_9), (4, .int x_2), (0, .ref sv), (1, .int p1), (2, .int p2), (3, .int p3)]) hx hb dJ1_indexOfChar_4cfef_25 hl (k := 0) rfl (by rw [ex_9]; rfl) (by decide) rfl (fun ls hl => ?_)
          refine lv_goto (tgt := 7) hx hb dJ1_indexOfChar_4cfef_28 (by decide) ?_
          exact ihlp_3 x_9 _ _ _ (by omega) (show 1001 - x_9.toInt ≤ (nlp_3 : Int) by omega) hP hD hS (lv_sub hl [0, 1, 2, 3, 4, 5] rfl)
        · have h_8 : x_7.toInt = x_2.toInt := c_eq h_8
          refine lv_iload hx hb dJ1_indexOfChar_4cfef_22 (lv_at hl 0 rfl) ?_
          exact eI hQ X hr hlocks hP hD hS () [] (by decide) rfl rfl (show ((-1) ≤ i_4.toInt ∧ i_4.toInt ≤ 999) ∧ (i_4.toInt < (sn : Int)) from ⟨(by omega), (by omega)⟩) (Nat.le_of_ble_eq_true rfl) (Nat.le_of_ble_eq_true rfl) dJ1_indexOfChar_4cfef_24
  exact lp_3 1001 p2 _ _ _ (by omega) (show 1001 - p2.toInt ≤ ((1001 : Nat) : Int) by omega) hP hD hS hl
set_option maxHeartbeats 4000000 in
set_option maxRecDepth 100000 in
theorem sJ1_indexOf (l : Launch) (dC : Nat → ClassId) (dI : Nat → Nat → Nat) (cy : Nat → ClassId) (sa : Nat) (sv : Nat) (sn : Nat) (sf : Nat → Int32) (p1 : Int32) (p3 : Int32) (hsn : sn < 1000) (hp3 : 0 ≤ p3.toInt ∧ p3.toInt ≤ 1000) (hp4 : p3.toInt ≤ (sn : Int)) : ctI l dC dI cy (andX hp (sO sa sv sn sf)) yJ1_indexOf_4cfef cJ1_indexOf_4cfef 4 .int ({ frames := 1, cells := 0, slots := 0, locals := 25 } : Room) [.ref sv, .int p1, .int 0, .int p3] [] (S := Unit) (fun r _ => ((-1) ≤ r.toInt ∧ r.toInt ≤ 999) ∧ (r.toInt < (sn : Int))) (fun _ => []) := by
  refine ctI.of (by decide +kernel) (Nat.le_of_ble_eq_true rfl) ?_
  intro p e s m args below meth c A ls Q hQ X hr hlocks hin hA hP hD hS hl
  have hx := X.1
  have hb := X.2.1
  have hK := X.2.2.2.2.2.1
  have hl : lv_has ls 4 [(0, .ref sv), (1, .int p1), (2, .int 0), (3, .int p3)] := hl
  have dy_1 := ti_bd p1
  refine lv_iload_n hx hb dJ1_indexOf_4cfef_0 rfl (lv_at hl 1 rfl) ?_
  refine fI (wr := []) (rS_I (wc := []) (As := [.int p1]) (rest := []) X hp_st (fun _ _ _ h => h.1) (sJ1_canEncode l dC dI cy p1) kJ1_canEncode_9a6ad w_660 mJ1_88 hP hD hS hA [] (by decide) rfl hl rfl rfl (Nat.le_of_ble_eq_true rfl) dJ1_indexOf_4cfef_1 ⟨(Nat.le_of_ble_eq_true rfl), (Nat.le_of_ble_eq_true rfl)⟩ ⟨(Nat.le_of_ble_eq_true rfl), (Nat.le_of_ble_eq_true rfl)⟩) hP hD hS hA [] [] rfl rfl (by decide) (by decide) (fun r_2 u_4 H locs k_3 hP hD hS => ?_)
  have k_3 : (0 ≤ r_2.toInt ∧ r_2.toInt ≤ 1) := k_3
  have hP : va_P (dC, dI) vwCl [] H := hP
  have hD : va_D A [] := hD
  refine lv_if_ne (tgt := 9) hx hb dJ1_indexOf_4cfef_4 (by decide) (fun h_5 => ?_) (fun h_5 => ?_)
  · have h_5 : r_2.toInt ≠ 0 := c_ne h_5
    refine lv_iload_n hx hb dJ1_indexOf_4cfef_9 rfl (lv_at hl 2 rfl) ?_
    refine lv_iconst (v := 0) hx hb dJ1_indexOf_4cfef_10 (by decide) ?_
    refine va_mmax hx hb (X.2.2.1.trans hl.1.symm) X.2.2.2.1 (X.2.2.2.2.1 _ w_662) (X.2.2.2.2.1 _ w_546) (X.2.2.2.2.1 _ w_113) (X.2.2.2.2.1 _ w_547) (Nat.le_of_ble_eq_true rfl) (Nat.le_of_ble_eq_true rfl) (Nat.le_of_ble_eq_true rfl) (Nat.le_of_ble_eq_true rfl) dJ1_indexOf_4cfef_11 ?_
    refine lv_topi (fun x_6 ex_6 => ?_)
    have tx_6 := ti_max ex_6
    have kx_6 : Int32.toInt 0 = 0 := by decide
    have kx_6 : Int32.toInt 0 = 0 := by decide
    refine lv_istore_n (lv' := [(2, .int x_6), (0, .ref sv), (1, .int p1), (3, .int p3)]) hx hb dJ1_indexOf_4cfef_14 rfl hl (by decide) rfl (fun ls hl => ?_)
    refine lv_iload_n hx hb dJ1_indexOf_4cfef_15 rfl (lv_at hl 3 rfl) ?_
    refine lv_aload_n hx hb dJ1_indexOf_4cfef_16 rfl (lv_at hl 1 rfl) ?_
    obtain ⟨x_7, ex_7⟩ : ∃ y : Int32, Int32.ofNat sn = y := ⟨_, rfl⟩
    have tx_7 : x_7.toInt = (sn : Int) := by rw [← ex_7]; exact Int32.toInt_ofNat_of_lt (by omega)
    refine va_tlen hx hb X.2.2.2.2.2.2.2.2.2.2.2 hS ex_7 dJ1_indexOf_4cfef_17 ?_
    refine va_mmin hx hb (X.2.2.1.trans hl.1.symm) X.2.2.2.1 (X.2.2.2.2.1 _ w_663) (X.2.2.2.2.1 _ w_527) (X.2.2.2.2.1 _ w_113) (X.2.2.2.2.1 _ w_528) (Nat.le_of_ble_eq_true rfl) (Nat.le_of_ble_eq_true rfl) (Nat.le_of_ble_eq_true rfl) (Nat.le_of_ble_eq_true rfl) dJ1_indexOf_4cfef_18 ?_
    refine lv_topi (fun x_8 ex_8 => ?_)
    have tx_8 := ti_min ex_8
    refine lv_istore_n (lv' := [(3, .int x_8), (2, .int x_6), (0, .ref sv), (1, .int p1)]) hx hb dJ1_indexOf_4cfef_21 rfl hl (by decide) rfl (fun ls hl => ?_)
    refine lv_iload_n hx hb dJ1_indexOf_4cfef_22 rfl (lv_at hl 1 rfl) ?_
    refine lv_iload_n hx hb dJ1_indexOf_4cfef_23 rfl (lv_at hl 0 rfl) ?_
    refine lv_icmp_lt (tgt := 29) hx hb dJ1_indexOf_4cfef_24 (by decide) (fun h_9 => ?_) (fun h_9 => ?_)
    · have h_9 : x_6.toInt < x_8.toInt := c_lt h_9
      refine lv_aload_n hx hb dJ1_indexOf_4cfef_29 rfl (lv_at hl 2 rfl) ?_
      refine lv_iload_n hx hb dJ1_indexOf_4cfef_30 rfl (lv_at hl 3 rfl) ?_
      refine lv_iload_n hx hb dJ1_indexOf_4cfef_31 rfl (lv_at hl 1 rfl) ?_
      refine lv_iload_n hx hb dJ1_indexOf_4cfef_32 rfl (lv_at hl 0 rfl) ?_
      refine fI (wr := []) (rS_I (wc := []) (As := [.ref sv, .int p1, .int x_6, .int x_8]) (rest := []) X (andX_st hp_st (sO_st sa sv sn sf)) (fun _ _ _ h => h) (sJ1_indexOfChar l dC dI cy _ sv _ _ p1 x_6 x_8 hsn (by first | omega | decide) (by first | omega | decide) (by first | omega | decide)) kJ1_indexOfChar_4cfef w_665 mJ1_95 hP hD hS hA [] (by decide) rfl hl rfl rfl (Nat.le_of_ble_eq_true rfl) dJ1_indexOf_4cfef_33 ⟨(Nat.le_of_ble_eq_true rfl), (Nat.le_of_ble_eq_true rfl)⟩ ⟨(Nat.le_of_ble_eq_true rfl), (Nat.le_of_ble_eq_true rfl)⟩) hP hD hS hA [] [] rfl rfl (by decide) (by decide) (fun r_10 u_12 H locs k_11 hP hD hS => ?_)
      have k_11 : ((-1) ≤ r_10.toInt ∧ r_10.toInt ≤ 999) ∧ (r_10.toInt < (sn : Int)) := k_11
      obtain ⟨k_11_0, k_11_1⟩ := k_11
      have hP : va_P (dC, dI) vwCl [] H := hP
      have hD : va_D A [] := hD
      exact eI hQ X hr hlocks hP hD hS () [] (by decide) rfl rfl (show ((-1) ≤ r_10.toInt ∧ r_10.toInt ≤ 999) ∧ (r_10.toInt < (sn : Int)) from ⟨k_11_0, k_11_1⟩) (Nat.le_of_ble_eq_true rfl) (Nat.le_of_ble_eq_true rfl) dJ1_indexOf_4cfef_36
    · have h_9 : x_8.toInt ≤ x_6.toInt := c_nlt h_9
      refine lv_iconst (v := -1) hx hb dJ1_indexOf_4cfef_27 (by decide) ?_
      exact eI hQ X hr hlocks hP hD hS () [] (by decide) rfl rfl (show ((-1) ≤ (-1 : Int32).toInt ∧ (-1 : Int32).toInt ≤ 999) ∧ ((-1 : Int32).toInt < (sn : Int)) from ⟨(by first | omega | decide | (refine ⟨by decide, ?_⟩; omega) | (have h9_0 : (-1 : Int32).toInt = (-1) := (by decide); omega)), (by first | omega | decide | (refine ⟨by decide, ?_⟩; omega) | (have h9_0 : (-1 : Int32).toInt = (-1) := (by decide); omega))⟩) (Nat.le_of_ble_eq_true rfl) (Nat.le_of_ble_eq_true rfl) dJ1_indexOf_4cfef_28
  · have h_5 : r_2.toInt = 0 := c_eq h_5
    refine lv_iconst (v := -1) hx hb dJ1_indexOf_4cfef_7 (by decide) ?_
    exact eI hQ X hr hlocks hP hD hS () [] (by decide) rfl rfl (show ((-1) ≤ (-1 : Int32).toInt ∧ (-1 : Int32).toInt ≤ 999) ∧ ((-1 : Int32).toInt < (sn : Int)) from ⟨(by first | omega | decide | (refine ⟨by decide, ?_⟩; omega) | (have h9_0 : (-1 : Int32).toInt = (-1) := (by decide); omega)), (by first | omega | decide | (refine ⟨by decide, ?_⟩; omega) | (have h9_0 : (-1 : Int32).toInt = (-1) := (by decide); omega))⟩) (Nat.le_of_ble_eq_true rfl) (Nat.le_of_ble_eq_true rfl) dJ1_indexOf_4cfef_8
set_option maxHeartbeats 4000000 in
set_option maxRecDepth 100000 in
theorem sJ0_indexOf2 (l : Launch) (dC : Nat → ClassId) (dI : Nat → Nat → Nat) (cy : Nat → ClassId) (sa : Nat) (sv : Nat) (sn : Nat) (sf : Nat → Int32) (p1 : Int32) (hsn : sn < 1000) : ctI l dC dI cy (andX hp (sO sa sv sn sf)) yJ0_indexOf_7cf53 cJ0_indexOf_7cf53 3 .int ({ frames := 2, cells := 0, slots := 0, locals := 48 } : Room) [.ref sa, .int p1, .int 0] [] (S := Unit) (fun r _ => ((-1) ≤ r.toInt ∧ r.toInt ≤ 999) ∧ (r.toInt < (sn : Int))) (fun _ => []) := by
  refine ctI.of (by decide +kernel) (Nat.le_of_ble_eq_true rfl) ?_
  intro p e s m args below meth c A ls Q hQ X hr hlocks hin hA hP hD hS hl
  have hx := X.1
  have hb := X.2.1
  have hK := X.2.2.2.2.2.1
  have hl : lv_has ls 3 [(0, .ref sa), (1, .int p1), (2, .int 0)] := hl
  have dy_1 := ti_bd p1
  refine lv_aload_n hx hb dJ0_indexOf_7cf53_0 rfl (lv_at hl 0 rfl) ?_
  refine fI (wr := []) (rVo_I (wc := []) (As := []) (rest := []) X (andX_st hp_st (sO_st sa sv sn sf)) X.2.2.2.2.2.2.2 (sJ0_isLatin1 l dC dI cy sa _ _ _) kJ0_isLatin1_aae02 vJ0_isLatin1_aae02 mJ0_492 hP hD hS hA [] rfl rfl X.2.2.2.2.2.2.2.2.1 hl rfl rfl (Nat.le_of_ble_eq_true rfl) dJ0_indexOf_7cf53_1 ⟨(Nat.le_of_ble_eq_true rfl), (Nat.le_of_ble_eq_true rfl)⟩ ⟨(Nat.le_of_ble_eq_true rfl), (Nat.le_of_ble_eq_true rfl)⟩) hP hD hS hA [] [] rfl rfl (by decide) (by decide) (fun r_2 u_4 H locs k_3 hP hD hS => ?_)
  have k_3 : (r_2 = 1) := k_3
  have hP : va_P (dC, dI) vwCl [] H := hP
  have hD : va_D A [] := hD
  have er_2 : r_2 = 1 := k_3
  subst er_2
  refine lv_if_eq (tgt := 23) hx hb dJ0_indexOf_7cf53_4 (by decide) (fun h_5 => absurd h_5 (by decide)) (fun _ => ?_)
  refine lv_aload_n hx hb dJ0_indexOf_7cf53_7 rfl (lv_at hl 0 rfl) ?_
  refine vk_getf hx hb X.2.2.2.2.2.2.2.2.2.2.1 hS X.2.2.2.1 (X.2.2.2.2.1 _ w_2043) (fun _ h9 => h9) dJ0_indexOf_7cf53_8 ?_
  refine lv_iload_n hx hb dJ0_indexOf_7cf53_11 rfl (lv_at hl 1 rfl) ?_
  refine lv_iload_n hx hb dJ0_indexOf_7cf53_12 rfl (lv_at hl 2 rfl) ?_
  refine lv_aload_n hx hb dJ0_indexOf_7cf53_13 rfl (lv_at hl 0 rfl) ?_
  refine fI (wr := []) (rVo_I (wc := []) (As := []) (rest := [.int 0, .int p1, .ref sv]) X (andX_st hp_st (sO_st sa sv sn sf)) X.2.2.2.2.2.2.2 (sJ0_length l dC dI cy sa _ _ _ hsn) kJ0_length_8abf5 vJ0_length_8abf5 mJ0_505 hP hD hS hA [] rfl rfl X.2.2.2.2.2.2.2.2.1 hl rfl rfl (Nat.le_of_ble_eq_true rfl) dJ0_indexOf_7cf53_14 ⟨(Nat.le_of_ble_eq_true rfl), (Nat.le_of_ble_eq_true rfl)⟩ ⟨(Nat.le_of_ble_eq_true rfl), (Nat.le_of_ble_eq_true rfl)⟩) hP hD hS hA [] [] rfl rfl (by decide) (by decide) (fun r_6 u_8 H locs k_7 hP hD hS => ?_)
  have k_7 : (0 ≤ r_6.toInt ∧ r_6.toInt ≤ 1000) ∧ (r_6.toInt = (sn : Int)) := k_7
  obtain ⟨k_7_0, k_7_1⟩ := k_7
  have hP : va_P (dC, dI) vwCl [] H := hP
  have hD : va_D A [] := hD
  refine fI (wr := []) (rS_I (wc := []) (As := [.ref sv, .int p1, .int 0, .int r_6]) (rest := []) X (andX_st hp_st (sO_st sa sv sn sf)) (fun _ _ _ h => h) (sJ1_indexOf l dC dI cy _ sv _ _ p1 r_6 hsn (by first | omega | decide) (by first | omega | decide)) kJ1_indexOf_4cfef w_657 mJ0_637 hP hD hS hA [] (by decide) rfl hl rfl rfl (Nat.le_of_ble_eq_true rfl) dJ0_indexOf_7cf53_17 ⟨(Nat.le_of_ble_eq_true rfl), (Nat.le_of_ble_eq_true rfl)⟩ ⟨(Nat.le_of_ble_eq_true rfl), (Nat.le_of_ble_eq_true rfl)⟩) hP hD hS hA [] [] rfl rfl (by decide) (by decide) (fun r_9 u_11 H locs k_10 hP hD hS => ?_)
  have k_10 : ((-1) ≤ r_9.toInt ∧ r_9.toInt ≤ 999) ∧ (r_9.toInt < (sn : Int)) := k_10
  obtain ⟨k_10_0, k_10_1⟩ := k_10
  have hP : va_P (dC, dI) vwCl [] H := hP
  have hD : va_D A [] := hD
  refine lv_goto (tgt := 36) hx hb dJ0_indexOf_7cf53_20 (by decide) ?_
  exact eI hQ X hr hlocks hP hD hS () [] (by decide) rfl rfl (show ((-1) ≤ r_9.toInt ∧ r_9.toInt ≤ 999) ∧ (r_9.toInt < (sn : Int)) from ⟨k_10_0, k_10_1⟩) (Nat.le_of_ble_eq_true rfl) (Nat.le_of_ble_eq_true rfl) dJ0_indexOf_7cf53_36
set_option maxHeartbeats 4000000 in
set_option maxRecDepth 100000 in
theorem sJ0_indexOf (l : Launch) (dC : Nat → ClassId) (dI : Nat → Nat → Nat) (cy : Nat → ClassId) (sa : Nat) (sv : Nat) (sn : Nat) (sf : Nat → Int32) (p1 : Int32) (hsn : sn < 1000) : ctI l dC dI cy (andX hp (sO sa sv sn sf)) yJ0_indexOf_0f7a4 cJ0_indexOf_0f7a4 2 .int ({ frames := 3, cells := 0, slots := 0, locals := 70 } : Room) [.ref sa, .int p1] [] (S := Unit) (fun r _ => ((-1) ≤ r.toInt ∧ r.toInt ≤ 999) ∧ (r.toInt < (sn : Int))) (fun _ => []) := by
  refine ctI.of (by decide +kernel) (Nat.le_of_ble_eq_true rfl) ?_
  intro p e s m args below meth c A ls Q hQ X hr hlocks hin hA hP hD hS hl
  have hx := X.1
  have hb := X.2.1
  have hK := X.2.2.2.2.2.1
  have hl : lv_has ls 2 [(0, .ref sa), (1, .int p1)] := hl
  have dy_1 := ti_bd p1
  refine lv_aload_n hx hb dJ0_indexOf_0f7a4_0 rfl (lv_at hl 0 rfl) ?_
  refine lv_iload_n hx hb dJ0_indexOf_0f7a4_1 rfl (lv_at hl 1 rfl) ?_
  refine lv_iconst (v := 0) hx hb dJ0_indexOf_0f7a4_2 (by decide) ?_
  refine fI (wr := []) (rVo_I (wc := []) (As := [.int p1, .int 0]) (rest := []) X (andX_st hp_st (sO_st sa sv sn sf)) X.2.2.2.2.2.2.2 (sJ0_indexOf2 l dC dI cy sa _ _ _ p1 hsn) kJ0_indexOf_7cf53 vJ0_indexOf_7cf53 mJ0_633 hP hD hS hA [] rfl rfl X.2.2.2.2.2.2.2.2.1 hl rfl rfl (Nat.le_of_ble_eq_true rfl) dJ0_indexOf_0f7a4_3 ⟨(Nat.le_of_ble_eq_true rfl), (Nat.le_of_ble_eq_true rfl)⟩ ⟨(Nat.le_of_ble_eq_true rfl), (Nat.le_of_ble_eq_true rfl)⟩) hP hD hS hA [] [] rfl rfl (by decide) (by decide) (fun r_2 u_4 H locs k_3 hP hD hS => ?_)
  have k_3 : ((-1) ≤ r_2.toInt ∧ r_2.toInt ≤ 999) ∧ (r_2.toInt < (sn : Int)) := k_3
  obtain ⟨k_3_0, k_3_1⟩ := k_3
  have hP : va_P (dC, dI) vwCl [] H := hP
  have hD : va_D A [] := hD
  exact eI hQ X hr hlocks hP hD hS () [] (by decide) rfl rfl (show ((-1) ≤ r_2.toInt ∧ r_2.toInt ≤ 999) ∧ (r_2.toInt < (sn : Int)) from ⟨(by omega), (by omega)⟩) (Nat.le_of_ble_eq_true rfl) (Nat.le_of_ble_eq_true rfl) dJ0_indexOf_0f7a4_6
