variable {p : Program} {l : Launch} {e : Env} {s : State} {m : MethodId} {below : List Frame} {meth : Method} {c : Code} {b : Nat} {dC : Nat → ClassId} {dI : Nat → Nat → Nat} {cy : Nat → ClassId} {H : Heap} {locs : List Loc} {ls : Array Slot} {A : Nat → Prop} {Q : State → Prop} {lv : List (Nat × Value)}
set_option maxHeartbeats 40000000 in
set_option maxRecDepth 100000 in
theorem law_new1 (X : fx p s m c code 7 #[Value.ref b] RL dC dI cy hp A) (hA : ∀ q, s.heap.size ≤ q → A q) (hP : va_P (dC, dI) vwCl [] H) (hD : va_D A []) (hS : va_S A s.heap H locs) (hl : lv_has ls 7 [(0, .ref b)]) (kk : ∀ (x : Nat) (ss : List va_W) (H : Heap) (locs : List Loc), HI cy x K0 ss → PDs dC dI A ss H → va_S A s.heap H locs → W p l e room_1 s m #[Value.ref b] below meth c H locs 200 2831 Q (F0 m 7 ls [.ref x])) : W p l e room_1 s m #[Value.ref b] below meth c H locs 0 0 Q (F0 m 0 ls []) := by
  have hx := X.1
  have hb := X.2.1
  have hK := X.2.2.2.2.2.1
  refine r_new X kcX11 (ci := 10) rfl w_126 w_127 w_100 hP hD hS hA [.null, .null, .null, .null, .null, .null, .null, .null, .null, .null, .null, .null, .null, .null, .int 0, .int 0, .int 0] (fun j hj => by rcases (show j = 0 ∨ j = 1 ∨ j = 2 ∨ j = 3 ∨ j = 4 ∨ j = 5 ∨ j = 6 ∨ j = 7 ∨ j = 8 ∨ j = 9 ∨ j = 10 ∨ j = 11 ∨ j = 12 ∨ j = 13 ∨ j = 14 ∨ j = 15 ∨ j = 16 by omega) with rfl | rfl | rfl | rfl | rfl | rfl | rfl | rfl | rfl | rfl | rfl | rfl | rfl | rfl | rfl | rfl | rfl <;> rfl) (Nat.le_of_ble_eq_true rfl) (Nat.le_of_ble_eq_true rfl) dL_law_0 (fun q H hP hD hS => ?_)
  have hP : va_P (dC, dI) vwCl [(q, .inr (10, [.null, .null, .null, .null, .null, .null, .null, .null, .null, .null, .null, .null, .null, .null, .int 0, .int 0, .int 0]))] H := hP
  have hD : va_D A [(q, .inr (10, [.null, .null, .null, .null, .null, .null, .null, .null, .null, .null, .null, .null, .null, .null, .int 0, .int 0, .int 0]))] := hD
  refine lv_dup hx hb dL_law_3 rfl ?_
  refine fV (wr := []) (rC_V (wc := [(q, .inr (10, [.null, .null, .null, .null, .null, .null, .null, .null, .null, .null, .null, .null, .null, .null, .int 0, .int 0, .int 0]))]) (As := []) (rest := [.ref q]) X hp_st (fun _ _ _ h => h) (sX11_iniS l dC dI cy q) kX11_init w_129 rfl mL_15 hP hD hS hA [0] (by decide) rfl hl rfl rfl (Nat.le_of_ble_eq_true rfl) dL_law_4 ⟨(Nat.le_of_ble_eq_true rfl), (Nat.le_of_ble_eq_true rfl)⟩ ⟨(Nat.le_of_ble_eq_true rfl), (Nat.le_of_ble_eq_true rfl)⟩) hP hD hS hA [0] [] rfl rfl (by decide) (by decide) (fun u H locs k hP hD hS => ?_)
  exact kk q u H locs k ⟨hP, hD⟩ hS
