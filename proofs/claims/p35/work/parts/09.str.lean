theorem sh0 (x : Int32) : x >>> ((0 : Int32) &&& 31) = x := by
  apply Int32.toBitVec_inj.mp
  show x.toBitVec.sshiftRight _ = _
  exact BitVec.sshiftRight_zero
section Str
variable {p : Program} {l : Launch} {e : Env} {R : Room} {s : State} {m : MethodId} {args : Array Value} {below : List Frame} {meth : Method} {c : Code} {H : Heap} {locs : List Loc} {cells slots : Nat} {Q : State → Prop}
variable {cc : ByteArray} {pc nL : Nat} {ls : Array Slot} {rest : List Value} {own : String} {dC : Nat → ClassId} {dI : Nat → Nat → Nat} {cy : Nat → ClassId} {ex ex0 : exT} {ws : va_W} {A : Nat → Prop} {a ci idx N : Nat} {C : String} {T : u_T} {fs : List Value} {ty0 : Nat → FieldType} {v : Value}
variable {y : MethodName} {bytes : ByteArray} {maxL n b : Nat} {ret : Option FieldType} {rm : Room} {Qc : (Nat → Prop) → Array Value → State → Outcome → State → Prop} {As st : List Value} {wc wr : va_W} {lv : List (Nat × Value)}
theorem X_pre2 (X : fx p s m c cc nL args own dC dI cy ex0 A) (hst : stb ex) (hxe : ex A s s.heap) (hS : va_S A s.heap H locs) (hF : ∀ q, va_A wc H.size q → A q) (hP : va_P (dC, dI) vwCl wc H) (hD : va_D A wc) {av : List Value} (U : State) (hU : U.heap = H) (hW : s.WarmedH U.vm) : va_Pc av (pS dC dI cy ex wc H.size) av.toArray U :=
  ⟨rfl, by rw [hU], by rw [hU]; exact hP, va_K.moved hW.alike X.2.2.2.2.2.1, hD.weaken (fun _ _ _ _ => trivial), X.2.2.2.2.2.2.1.warm hW, by rw [hU]; exact hst.1 A _ s U s.heap H hxe hW hS.2.1 hF⟩
/-- a call on an object that isn't of the world -/
theorem rVo (X : fx p s m c cc nL args own dC dI cy ex0 A) (hst : stb ex) (hxe : ex A s s.heap) (hM : ∀ sz, Met l y (.code y bytes maxL ret :: wsU) rm (va_Pc (.ref b :: As) (pS dC dI cy ex wc sz)) (Qc (va_A wc sz)) rm.cells rm.slots (va_A wc sz)) (km : mOK y bytes maxL ret n) (kv : Cond.instanceMethod y ∈ wsU ∧ Cond.selects y.cls y y ∈ wsU) (lk : mLk own idx y) (hP : va_P (dC, dI) vwCl ws H) (hD : va_D A ws) (hS : va_S A s.heap H locs) (hA : ∀ q, s.heap.size ≤ q → A q) (isC : List Nat) (hnd : va_nd isC = true) (hC : isC.map (fun i => ws[i]?) = wc.map some) (hO : va_O y.cls b A s s.heap) (hl : lv_has ls nL lv) (hn : As.length = n) (hst0 : st = As.reverse ++ .ref b :: rest) (hcat : (rest.map fun v => v.category).sum ≤ 8) (hdg : decode cc pc = .ok (.invokevirtual idx, 3))
    (hR : rm.frames + 1 ≤ R.frames ∧ 8 + (maxL + 11) + rm.locals ≤ R.locals) (hf : cells + rm.cells ≤ R.cells ∧ slots + rm.slots ≤ R.slots) :
    va_Run p l e R s m args below meth c H locs cells slots rm.cells rm.slots (F0 m pc ls st) rest (Qc (va_A wc H.size) (Value.ref b :: As).toArray) (va_A wc H.size) := by
  have hPc := hP.sub (ws' := wc) isC (fm_of hC)
  have hDc := hD.sub (ws' := wc) isC hnd hC
  have hFc := va_free (wc := wc) hD hS hA isC hC
  have hG : GoodIn wsU (Cond.code y bytes maxL ret :: wsU) := goodU km.1 (fun _ h => h)
  have hrec : ∃ cellB : Cell, H[b]? = some cellB ∧ cellB.vm.isStatics = false ∧ s.vm.findClass y.cls = some cellB.cls := by
    obtain ⟨cell, h1, h2, h3, -⟩ := hO.kept hS.2.1
    exact ⟨cell, h1, h2, h3⟩
  rcases lk with h | ⟨host, h⟩
  · exact va_runV (As := As) (rest := rest) ⟨X.1, X.2.1, X.2.2.1, X.2.2.2.1, X.2.2.2.2.1⟩ (hM H.size) ⟨callB_of n X.2.2.2.2.1 hG rfl rfl rfl (X.2.2.2.2.1 _ km.2.1) (X.2.2.2.2.1 _ h) km.2.2 hR, X.2.2.2.2.1 _ kv.1, X.2.2.2.2.1 _ kv.2⟩ ⟨pS.blind hst, hrec, fun U hU hW => X_pre2 X hst hxe hS hFc hPc hDc U hU hW⟩ rfl hn hl.1 hst0 (lv_room hcat) hdg hf
  · exact va_runVN (As := As) (rest := rest) ⟨X.1, X.2.1, X.2.2.1, X.2.2.2.1, X.2.2.2.2.1⟩ (hM H.size) ⟨va_cnB n X.2.2.2.2.1 hG rfl rfl rfl (X.2.2.2.2.2.2.1.1 _ h) (X.2.2.2.2.1 _ km.2.1) km.2.2 hR, X.2.2.2.2.1 _ kv.1, X.2.2.2.2.1 _ kv.2⟩ ⟨pS.blind hst, hrec, fun U hU hW => X_pre2 X hst hxe hS hFc hPc hDc U hU hW⟩ rfl hn hl.1 hst0 (lv_room hcat) hdg hf
theorem rVo_I {S : Type} {post : Int32 → S → Prop} {w1 : S → va_W} {rt : FieldType} (X : fx p s m c cc nL args own dC dI cy ex0 A) (hst : stb ex) (hxe : ex A s s.heap) (hM : ctI l dC dI cy ex y bytes maxL rt rm (.ref b :: As) wc post w1) (km : mOK y bytes maxL (some rt) n) (kv : Cond.instanceMethod y ∈ wsU ∧ Cond.selects y.cls y y ∈ wsU) (lk : mLk own idx y) (hP : va_P (dC, dI) vwCl ws H) (hD : va_D A ws) (hS : va_S A s.heap H locs) (hA : ∀ q, s.heap.size ≤ q → A q) (isC : List Nat) (hnd : va_nd isC = true) (hC : isC.map (fun i => ws[i]?) = wc.map some) (hO : va_O y.cls b A s s.heap) (hl : lv_has ls nL lv) (hn : As.length = n) (hst0 : st = As.reverse ++ .ref b :: rest) (hcat : (rest.map fun v => v.category).sum ≤ 8) (hdg : decode cc pc = .ok (.invokevirtual idx, 3))
    (hR : rm.frames + 1 ≤ R.frames ∧ 8 + (maxL + 11) + rm.locals ≤ R.locals) (hf : cells + rm.cells ≤ R.cells ∧ slots + rm.slots ≤ R.slots) :
    va_Run p l e R s m args below meth c H locs cells slots rm.cells rm.slots (F0 m pc ls st) rest (va_Qi post (qS dC dI (va_A wc H.size) w1) (va_A wc H.size) (Value.ref b :: As).toArray) (va_A wc H.size) :=
  rVo (Qc := fun A => va_Qi post (qS dC dI A w1) A) X hst hxe hM km kv lk hP hD hS hA isC hnd hC hO hl hn hst0 hcat hdg hR hf
theorem rVe (X : fx p s m c cc nL args own dC dI cy ex0 A) (hst : stb ex) (hxe : ex A s s.heap) (hM : ∀ sz, Met l y (.code y bytes maxL ret :: wsU) rm (va_Pc (.ref b :: As) (pS dC dI cy ex wc sz)) (Qc (va_A wc sz)) rm.cells rm.slots (va_A wc sz)) (km : mOK y bytes maxL ret n) (kv : Cond.instanceMethod y ∈ wsU ∧ Cond.selects y.cls y y ∈ wsU) (lk : mLk own idx y) (hP : va_P (dC, dI) vwCl ws H) (hD : va_D A ws) (hS : va_S A s.heap H locs) (hA : ∀ q, s.heap.size ≤ q → A q) (isC : List Nat) (hnd : va_nd isC = true) (hC : isC.map (fun i => ws[i]?) = wc.map some) (q0 : Nat) {q : vw_C} (hq : wc[q0]? = some (b, .inr (ci, fs))) (hc : vwCl[ci]? = some q) (hq1 : q.1 = y.cls) (hl : lv_has ls nL lv) (hn : As.length = n) (hst0 : st = As.reverse ++ .ref b :: rest) (hcat : (rest.map fun v => v.category).sum ≤ 8) (hdg : decode cc pc = .ok (.invokevirtual idx, 3))
    (hR : rm.frames + 1 ≤ R.frames ∧ 8 + (maxL + 11) + rm.locals ≤ R.locals) (hf : cells + rm.cells ≤ R.cells ∧ slots + rm.slots ≤ R.slots) :
    va_Run p l e R s m args below meth c H locs cells slots rm.cells rm.slots (F0 m pc ls st) rest (Qc (va_A wc H.size) (Value.ref b :: As).toArray) (va_A wc H.size) := by
  have hPc := hP.sub (ws' := wc) isC (fm_of hC)
  have hDc := hD.sub (ws' := wc) isC hnd hC
  have hFc := va_free (wc := wc) hD hS hA isC hC
  have hG : GoodIn wsU (Cond.code y bytes maxL ret :: wsU) := goodU km.1 (fun _ h => h)
  have hrec := va_recv (s := s) X.2.2.2.2.2.1 hPc hc hq
  rw [hq1] at hrec
  rcases lk with h | ⟨host, h⟩
  · exact va_runV (As := As) (rest := rest) ⟨X.1, X.2.1, X.2.2.1, X.2.2.2.1, X.2.2.2.2.1⟩ (hM H.size) ⟨callB_of n X.2.2.2.2.1 hG rfl rfl rfl (X.2.2.2.2.1 _ km.2.1) (X.2.2.2.2.1 _ h) km.2.2 hR, X.2.2.2.2.1 _ kv.1, X.2.2.2.2.1 _ kv.2⟩ ⟨pS.blind hst, hrec, fun U hU hW => X_pre2 X hst hxe hS hFc hPc hDc U hU hW⟩ rfl hn hl.1 hst0 (lv_room hcat) hdg hf
  · exact va_runVN (As := As) (rest := rest) ⟨X.1, X.2.1, X.2.2.1, X.2.2.2.1, X.2.2.2.2.1⟩ (hM H.size) ⟨va_cnB n X.2.2.2.2.1 hG rfl rfl rfl (X.2.2.2.2.2.2.1.1 _ h) (X.2.2.2.2.1 _ km.2.1) km.2.2 hR, X.2.2.2.2.1 _ kv.1, X.2.2.2.2.1 _ kv.2⟩ ⟨pS.blind hst, hrec, fun U hU hW => X_pre2 X hst hxe hS hFc hPc hDc U hU hW⟩ rfl hn hl.1 hst0 (lv_room hcat) hdg hf
theorem rVe_I {S : Type} {post : Int32 → S → Prop} {w1 : S → va_W} {rt : FieldType} (X : fx p s m c cc nL args own dC dI cy ex0 A) (hst : stb ex) (hxe : ex A s s.heap) (hM : ctI l dC dI cy ex y bytes maxL rt rm (.ref b :: As) wc post w1) (km : mOK y bytes maxL (some rt) n) (kv : Cond.instanceMethod y ∈ wsU ∧ Cond.selects y.cls y y ∈ wsU) (lk : mLk own idx y) (hP : va_P (dC, dI) vwCl ws H) (hD : va_D A ws) (hS : va_S A s.heap H locs) (hA : ∀ q, s.heap.size ≤ q → A q) (isC : List Nat) (hnd : va_nd isC = true) (hC : isC.map (fun i => ws[i]?) = wc.map some) (q0 : Nat) {q : vw_C} (hq : wc[q0]? = some (b, .inr (ci, fs))) (hc : vwCl[ci]? = some q) (hq1 : q.1 = y.cls) (hl : lv_has ls nL lv) (hn : As.length = n) (hst0 : st = As.reverse ++ .ref b :: rest) (hcat : (rest.map fun v => v.category).sum ≤ 8) (hdg : decode cc pc = .ok (.invokevirtual idx, 3))
    (hR : rm.frames + 1 ≤ R.frames ∧ 8 + (maxL + 11) + rm.locals ≤ R.locals) (hf : cells + rm.cells ≤ R.cells ∧ slots + rm.slots ≤ R.slots) :
    va_Run p l e R s m args below meth c H locs cells slots rm.cells rm.slots (F0 m pc ls st) rest (va_Qi post (qS dC dI (va_A wc H.size) w1) (va_A wc H.size) (Value.ref b :: As).toArray) (va_A wc H.size) :=
  rVe (Qc := fun A => va_Qi post (qS dC dI A w1) A) X hst hxe hM km kv lk hP hD hS hA isC hnd hC q0 hq hc hq1 hl hn hst0 hcat hdg hR hf
end Str
set_option maxHeartbeats 4000000 in
set_option maxRecDepth 100000 in
theorem sJ0_coder (l : Launch) (dC : Nat → ClassId) (dI : Nat → Nat → Nat) (cy : Nat → ClassId) (sa : Nat) (sv : Nat) (sn : Nat) (sf : Nat → Int32) : ctI l dC dI cy (andX hp (sO sa sv sn sf)) yJ0_coder_7d493 cJ0_coder_7d493 1 .byte ({ frames := 0, cells := 0, slots := 0, locals := 0 } : Room) [.ref sa] [] (S := Unit) (fun r _ => (r = 0)) (fun _ => []) := by
  refine ctI.of (by decide +kernel) (Nat.le_of_ble_eq_true rfl) ?_
  intro p e s m args below meth c A ls Q hQ X hr hlocks hin hA hP hD hS hl
  have hx := X.1
  have hb := X.2.1
  have hK := X.2.2.2.2.2.1
  have hl : lv_has ls 1 [(0, .ref sa)] := hl
  refine va_gets hx hb X.2.2.2.2.2.2.2.1.2.1 hS X.2.2.2.1 (X.2.2.2.2.1 _ w_565) (fun _ h9 => h9) dJ0_coder_7d493_0 ?_
  refine lv_if_eq (tgt := 13) hx hb dJ0_coder_7d493_3 (by decide) (fun h_1 => absurd h_1 (by decide)) (fun _ => ?_)
  refine lv_aload_n hx hb dJ0_coder_7d493_6 rfl (lv_at hl 0 rfl) ?_
  refine vk_getf hx hb X.2.2.2.2.2.2.2.2.2.1 hS X.2.2.2.1 (X.2.2.2.2.1 _ w_2044) (fun _ h9 => h9) dJ0_coder_7d493_7 ?_
  refine lv_goto (tgt := 14) hx hb dJ0_coder_7d493_10 (by decide) ?_
  exact eI hQ X hr hlocks hP hD hS () [] (by decide) rfl rfl (show ((0 : Int32) = 0) from rfl) (Nat.le_of_ble_eq_true rfl) (Nat.le_of_ble_eq_true rfl) dJ0_coder_7d493_14
set_option maxHeartbeats 4000000 in
set_option maxRecDepth 100000 in
theorem sJ0_isLatin1 (l : Launch) (dC : Nat → ClassId) (dI : Nat → Nat → Nat) (cy : Nat → ClassId) (sa : Nat) (sv : Nat) (sn : Nat) (sf : Nat → Int32) : ctI l dC dI cy (andX hp (sO sa sv sn sf)) yJ0_isLatin1_aae02 cJ0_isLatin1_aae02 1 .boolean ({ frames := 0, cells := 0, slots := 0, locals := 0 } : Room) [.ref sa] [] (S := Unit) (fun r _ => (r = 1)) (fun _ => []) := by
  refine ctI.of (by decide +kernel) (Nat.le_of_ble_eq_true rfl) ?_
  intro p e s m args below meth c A ls Q hQ X hr hlocks hin hA hP hD hS hl
  have hx := X.1
  have hb := X.2.1
  have hK := X.2.2.2.2.2.1
  have hl : lv_has ls 1 [(0, .ref sa)] := hl
  refine va_gets hx hb X.2.2.2.2.2.2.2.1.2.1 hS X.2.2.2.1 (X.2.2.2.2.1 _ w_565) (fun _ h9 => h9) dJ0_isLatin1_aae02_0 ?_
  refine lv_if_eq (tgt := 17) hx hb dJ0_isLatin1_aae02_3 (by decide) (fun h_1 => absurd h_1 (by decide)) (fun _ => ?_)
  refine lv_aload_n hx hb dJ0_isLatin1_aae02_6 rfl (lv_at hl 0 rfl) ?_
  refine vk_getf hx hb X.2.2.2.2.2.2.2.2.2.1 hS X.2.2.2.1 (X.2.2.2.2.1 _ w_2044) (fun _ h9 => h9) dJ0_isLatin1_aae02_7 ?_
  refine lv_if_ne (tgt := 17) hx hb dJ0_isLatin1_aae02_10 (by decide) (fun h_2 => absurd (by decide) h_2) (fun _ => ?_)
  refine lv_iconst (v := 1) hx hb dJ0_isLatin1_aae02_13 (by decide) ?_
  refine lv_goto (tgt := 18) hx hb dJ0_isLatin1_aae02_14 (by decide) ?_
  exact eI hQ X hr hlocks hP hD hS () [] (by decide) rfl rfl (show ((1 : Int32) = 1) from rfl) (Nat.le_of_ble_eq_true rfl) (Nat.le_of_ble_eq_true rfl) dJ0_isLatin1_aae02_18
set_option maxHeartbeats 4000000 in
set_option maxRecDepth 100000 in
theorem sJ0_length (l : Launch) (dC : Nat → ClassId) (dI : Nat → Nat → Nat) (cy : Nat → ClassId) (sa : Nat) (sv : Nat) (sn : Nat) (sf : Nat → Int32) (hsn : sn < 1000) : ctI l dC dI cy (andX hp (sO sa sv sn sf)) yJ0_length_8abf5 cJ0_length_8abf5 1 .int ({ frames := 1, cells := 0, slots := 0, locals := 20 } : Room) [.ref sa] [] (S := Unit) (fun r _ => (0 ≤ r.toInt ∧ r.toInt ≤ 1000) ∧ (r.toInt = (sn : Int))) (fun _ => []) := by
  refine ctI.of (by decide +kernel) (Nat.le_of_ble_eq_true rfl) ?_
  intro p e s m args below meth c A ls Q hQ X hr hlocks hin hA hP hD hS hl
  have hx := X.1
  have hb := X.2.1
  have hK := X.2.2.2.2.2.1
  have hl : lv_has ls 1 [(0, .ref sa)] := hl
  refine lv_aload_n hx hb dJ0_length_8abf5_0 rfl (lv_at hl 0 rfl) ?_
  refine vk_getf hx hb X.2.2.2.2.2.2.2.2.2.2.1 hS X.2.2.2.1 (X.2.2.2.2.1 _ w_2043) (fun _ h9 => h9) dJ0_length_8abf5_1 ?_
  obtain ⟨x_1, ex_1⟩ : ∃ y : Int32, Int32.ofNat sn = y := ⟨_, rfl⟩
  have tx_1 : x_1.toInt = (sn : Int) := by rw [← ex_1]; exact Int32.toInt_ofNat_of_lt (by omega)
  refine va_tlen hx hb X.2.2.2.2.2.2.2.2.2.2.2 hS ex_1 dJ0_length_8abf5_4 ?_
  refine lv_aload_n hx hb dJ0_length_8abf5_5 rfl (lv_at hl 0 rfl) ?_
  refine fI (wr := []) (rVo_I (wc := []) (As := []) (rest := [.int x_1]) X (andX_st hp_st (sO_st sa sv sn sf)) X.2.2.2.2.2.2.2 (sJ0_coder l dC dI cy sa _ _ _) kJ0_coder_7d493 vJ0_coder_7d493 mJ0_335 hP hD hS hA [] rfl rfl X.2.2.2.2.2.2.2.2.1 hl rfl rfl (Nat.le_of_ble_eq_true rfl) dJ0_length_8abf5_6 ⟨(Nat.le_of_ble_eq_true rfl), (Nat.le_of_ble_eq_true rfl)⟩ ⟨(Nat.le_of_ble_eq_true rfl), (Nat.le_of_ble_eq_true rfl)⟩) hP hD hS hA [] [] rfl rfl (by decide) (by decide) (fun r_2 u_4 H locs k_3 hP hD hS => ?_)
  have k_3 : (r_2 = 0) := k_3
  have hP : va_P (dC, dI) vwCl [] H := hP
  have hD : va_D A [] := hD
  have er_2 : r_2 = 0 := k_3
  subst er_2
  refine lv_ishr hx hb dJ0_length_8abf5_9 ?_
  refine lv_topi (fun x_5 ex_5 => ?_)
  have qx_5 : x_1 = x_5 := by rw [ex_5]; exact (sh0 _).symm
  subst qx_5
  exact eI hQ X hr hlocks hP hD hS () [] (by decide) rfl rfl (show (0 ≤ x_1.toInt ∧ x_1.toInt ≤ 1000) ∧ (x_1.toInt = (sn : Int)) from ⟨(by omega), (by omega)⟩) (Nat.le_of_ble_eq_true rfl) (Nat.le_of_ble_eq_true rfl) dJ0_length_8abf5_10
set_option maxHeartbeats 4000000 in
set_option maxRecDepth 100000 in
theorem sJ3_checkIndex_n (l : Launch) (dC : Nat → ClassId) (dI : Nat → Nat → Nat) (cy : Nat → ClassId) (p1 : Int32) (p2 : Int32) (hp1 : 0 ≤ p1.toInt ∧ p1.toInt < p2.toInt) : ctI l dC dI cy hp yJ3_checkIndex_8e157 cJ3_checkIndex_8e157 3 .int ({ frames := 0, cells := 0, slots := 0, locals := 0 } : Room) [.int p1, .int p2, .null] [] (S := Unit) (fun r _ => True) (fun _ => []) := by
  refine ctI.of (by decide +kernel) (Nat.le_of_ble_eq_true rfl) ?_
  intro p e s m args below meth c A ls Q hQ X hr hlocks hin hA hP hD hS hl
  have hx := X.1
  have hb := X.2.1
  have hK := X.2.2.2.2.2.1
  have hl : lv_has ls 3 [(0, .int p1), (1, .int p2), (2, .null)] := hl
  have dy_1 := ti_bd p1
  have dy_2 := ti_bd p2
  refine lv_iload_n hx hb dJ3_checkIndex_8e157_0 rfl (lv_at hl 0 rfl) ?_
  refine lv_if_lt (tgt := 9) hx hb dJ3_checkIndex_8e157_1 (by decide) (fun h_3 => ?_) (fun h_3 => ?_)
  · have h_3 : p1.toInt < 0 := c_lt h_3
    exfalso
    omega
  · have h_3 : 0 ≤ p1.toInt := c_nlt h_3
    refine lv_iload_n hx hb dJ3_checkIndex_8e157_4 rfl (lv_at hl 0 rfl) ?_
    refine lv_iload_n hx hb dJ3_checkIndex_8e157_5 rfl (lv_at hl 1 rfl) ?_
    refine lv_icmp_lt (tgt := 16) hx hb dJ3_checkIndex_8e157_6 (by decide) (fun h_4 => ?_) (fun h_4 => ?_)
    · have h_4 : p1.toInt < p2.toInt := c_lt h_4
      refine lv_iload_n hx hb dJ3_checkIndex_8e157_16 rfl (lv_at hl 0 rfl) ?_
      exact eI hQ X hr hlocks hP hD hS () [] (by decide) rfl rfl trivial (Nat.le_of_ble_eq_true rfl) (Nat.le_of_ble_eq_true rfl) dJ3_checkIndex_8e157_17
    · have h_4 : p2.toInt ≤ p1.toInt := c_nlt h_4
      exfalso
      omega
set_option maxHeartbeats 4000000 in
set_option maxRecDepth 100000 in
theorem sJ3_checkIndex_r (l : Launch) (dC : Nat → ClassId) (dI : Nat → Nat → Nat) (cy : Nat → ClassId) (p1 : Int32) (p2 : Int32) (p3 : Nat) (hp1 : 0 ≤ p1.toInt ∧ p1.toInt < p2.toInt) : ctI l dC dI cy hp yJ3_checkIndex_8e157 cJ3_checkIndex_8e157 3 .int ({ frames := 0, cells := 0, slots := 0, locals := 0 } : Room) [.int p1, .int p2, .ref p3] [] (S := Unit) (fun r _ => True) (fun _ => []) := by
  refine ctI.of (by decide +kernel) (Nat.le_of_ble_eq_true rfl) ?_
  intro p e s m args below meth c A ls Q hQ X hr hlocks hin hA hP hD hS hl
  have hx := X.1
  have hb := X.2.1
  have hK := X.2.2.2.2.2.1
  have hl : lv_has ls 3 [(0, .int p1), (1, .int p2), (2, .ref p3)] := hl
  have dy_1 := ti_bd p1
  have dy_2 := ti_bd p2
  refine lv_iload_n hx hb dJ3_checkIndex_8e157_0 rfl (lv_at hl 0 rfl) ?_
  refine lv_if_lt (tgt := 9) hx hb dJ3_checkIndex_8e157_1 (by decide) (fun h_3 => ?_) (fun h_3 => ?_)
  · have h_3 : p1.toInt < 0 := c_lt h_3
    exfalso
    omega
  · have h_3 : 0 ≤ p1.toInt := c_nlt h_3
    refine lv_iload_n hx hb dJ3_checkIndex_8e157_4 rfl (lv_at hl 0 rfl) ?_
    refine lv_iload_n hx hb dJ3_checkIndex_8e157_5 rfl (lv_at hl 1 rfl) ?_
    refine lv_icmp_lt (tgt := 16) hx hb dJ3_checkIndex_8e157_6 (by decide) (fun h_4 => ?_) (fun h_4 => ?_)
    · have h_4 : p1.toInt < p2.toInt := c_lt h_4
      refine lv_iload_n hx hb dJ3_checkIndex_8e157_16 rfl (lv_at hl 0 rfl) ?_
      exact eI hQ X hr hlocks hP hD hS () [] (by decide) rfl rfl trivial (Nat.le_of_ble_eq_true rfl) (Nat.le_of_ble_eq_true rfl) dJ3_checkIndex_8e157_17
    · have h_4 : p2.toInt ≤ p1.toInt := c_nlt h_4
      exfalso
      omega
set_option maxHeartbeats 4000000 in
set_option maxRecDepth 100000 in
theorem sJ0_checkIndex (l : Launch) (dC : Nat → ClassId) (dI : Nat → Nat → Nat) (cy : Nat → ClassId) (p1 : Int32) (p2 : Int32) (hp1 : 0 ≤ p1.toInt ∧ p1.toInt < p2.toInt) : ctV l dC dI cy hp yJ0_checkIndex_df160 cJ0_checkIndex_df160 2 ({ frames := 1, cells := 0, slots := 0, locals := 22 } : Room) [.int p1, .int p2] [] (S := Unit) (fun _ => True) (fun _ => []) := by
  refine ctV.of (by decide +kernel) (Nat.le_of_ble_eq_true rfl) ?_
  intro p e s m args below meth c A ls Q hQ X hr hlocks hin hA hP hD hS hl
  have hx := X.1
  have hb := X.2.1
  have hK := X.2.2.2.2.2.1
  have hl : lv_has ls 2 [(0, .int p1), (1, .int p2)] := hl
  have dy_1 := ti_bd p1
  have dy_2 := ti_bd p2
  refine lv_iload_n hx hb dJ0_checkIndex_df160_0 rfl (lv_at hl 0 rfl) ?_
  refine lv_iload_n hx hb dJ0_checkIndex_df160_1 rfl (lv_at hl 1 rfl) ?_
  rcases X.2.2.2.2.2.2.2.2.2.1 with hz | ⟨q_3, hz⟩
  · refine va_gets hx hb hz hS X.2.2.2.1 (X.2.2.2.2.1 _ w_581) (fun _ h9 => h9) dJ0_checkIndex_df160_2 ?_
    refine fI (wr := []) (rS_I (wc := []) (As := [.int p1, .int p2, .null]) (rest := []) X hp_st (fun _ _ _ h => h) (sJ3_checkIndex_n l dC dI cy p1 p2 hp1) kJ3_checkIndex_8e157 w_584 mJ0_1059 hP hD hS hA [] (by decide) rfl hl rfl rfl (Nat.le_of_ble_eq_true rfl) dJ0_checkIndex_df160_5 ⟨(Nat.le_of_ble_eq_true rfl), (Nat.le_of_ble_eq_true rfl)⟩ ⟨(Nat.le_of_ble_eq_true rfl), (Nat.le_of_ble_eq_true rfl)⟩) hP hD hS hA [] [] rfl rfl (by decide) (by decide) (fun r_4 u_6 H locs k_5 hP hD hS => ?_)
    have hP : va_P (dC, dI) vwCl [] H := hP
    have hD : va_D A [] := hD
    refine lv_pop hx hb dJ0_checkIndex_df160_8 rfl ?_
    exact eV hQ X hr hlocks hP hD hS () [] (by decide) rfl trivial (Nat.le_of_ble_eq_true rfl) (Nat.le_of_ble_eq_true rfl) dJ0_checkIndex_df160_9
  · refine va_gets hx hb hz hS X.2.2.2.1 (X.2.2.2.2.1 _ w_581) (fun _ h9 => h9) dJ0_checkIndex_df160_2 ?_
    refine fI (wr := []) (rS_I (wc := []) (As := [.int p1, .int p2, .ref q_3]) (rest := []) X hp_st (fun _ _ _ h => h) (sJ3_checkIndex_r l dC dI cy p1 p2 q_3 hp1) kJ3_checkIndex_8e157 w_584 mJ0_1059 hP hD hS hA [] (by decide) rfl hl rfl rfl (Nat.le_of_ble_eq_true rfl) dJ0_checkIndex_df160_5 ⟨(Nat.le_of_ble_eq_true rfl), (Nat.le_of_ble_eq_true rfl)⟩ ⟨(Nat.le_of_ble_eq_true rfl), (Nat.le_of_ble_eq_true rfl)⟩) hP hD hS hA [] [] rfl rfl (by decide) (by decide) (fun r_7 u_9 H locs k_8 hP hD hS => ?_)
    have hP : va_P (dC, dI) vwCl [] H := hP
    have hD : va_D A [] := hD
    refine lv_pop hx hb dJ0_checkIndex_df160_8 rfl ?_
    exact eV hQ X hr hlocks hP hD hS () [] (by decide) rfl trivial (Nat.le_of_ble_eq_true rfl) (Nat.le_of_ble_eq_true rfl) dJ0_checkIndex_df160_9
