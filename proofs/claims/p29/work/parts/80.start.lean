theorem ar_prim {args : Array Value} {s : State} {ty : FieldType} (hp : ∀ C, ty ≠ .object C) (h : (Cond.arrayClass ty).before args s = true) : ∃ cA : ClassId, ArrOfT s cA ty ∧ va_RA s cA ty := by
  obtain ⟨cA, kA, comp, f1, f2, f3⟩ := Cond.arrayClass_spec h
  refine ⟨cA, fun N z => ⟨(fun k h => by cases h), kA, f2, comp, f3⟩, ?_⟩
  cases ty <;> first | exact f1 | exact absurd rfl (hp _)
theorem ar_obj {s : State} {C : String} (h : va_AO C s) : ∃ cA : ClassId, ArrOfT s cA (.object C) ∧ va_RA s cA (.object C) := by
  obtain ⟨comp, cA, kA, h1, h2, h3, h4, h5⟩ := Cond.arrayOver_spec h
  exact ⟨cA, fun N z => ⟨(fun k h => by cases h), kA, h3, comp, h4⟩, kA, comp, h3, h4, h1, h5⟩
/-- a text's object and its bytes, out of what the Statement gives -/
theorem str_of {args : Array Value} {s : State} {own tx : String} {k : Nat} {A : Nat → Prop} (h1 : (Cond.stringRef own k tx).before args s = true) (hex : (Cond.exactly (.string own k) "java/lang/String").before args s = true) (hco : (Cond.eq (.field (.string own k) "java/lang/String" "coder" "B") (.int 0)).before args s = true) (har : (Cond.arrayOf (.field (.string own k) "java/lang/String" "value" "[B") .byte).before args s = true) (hn : tx.length < 2 ^ 31) (hle : (Cond.eq (.length (.field (.string own k) "java/lang/String" "value" "[B")) (.int (Int32.ofNat tx.length))).before args s = true)
    (hel : ∀ j : Nat, j < tx.length → (Cond.eq (.elem (.field (.string own k) "java/lang/String" "value" "[B") (.int (Int32.ofNat j))) (.int (txB tx j))).before args s = true) (hA : ∀ a : Nat, a < s.heap.size → ¬ A a) : ∃ a v, vk_R own k tx a s ∧ sO a v tx.length (txB tx) A s s.heap := by
  obtain ⟨a, c, cA, kA, q1, q2, q3, q4, q5, q6, -⟩ := Cond.exactly_spec (args := args) (first := s) (o := none) (s := s) (idx := []) (t := .string own k) (cls := "java/lang/String") hex
  obtain ⟨t, ht, hT⟩ := va_Tof (f := fun j => .int (txB tx j)) (A := A) hn har (va_eqt hle) (fun j hj => va_eqt (hel j hj)) hA
  exact ⟨a, t, vk_R.of h1 q1, ⟨cA, q3, q5, by rw [q6]; exact q2, hA a (Array.getElem?_eq_some_iff.mp q3).1⟩, vk_OFof q1 (va_eqt hco) hA, vk_OFof q1 ht hA, hT⟩
/-- a private method of a class above is found as it stands -/
theorem sel_priv {C : String} {y z z0 : MethodName} {s : State} {args : Array Value} {n : Nat} (hy : y.cls ≠ "java/lang/invoke/MethodHandle" ∧ y.cls ≠ "java/lang/invoke/VarHandle")
    (hins : (Cond.instantiable C n).before args s = true) (hpriv : (Cond.privateMethod y).before args s = true) (hinst : (Cond.instanceMethod y).before args s = true) (hz : (Cond.selects C z0 z).before args s = true) (hzc : z.cls = y.cls) :
    (Cond.selects C y y).before args s = true := by
  obtain ⟨c, k, hc, hk, -, hniab, -, -⟩ := Cond.instantiable_spec hins
  obtain ⟨mk, methM, hnamed, hmethM, -, -⟩ := Cond.instanceMethod_spec hinst
  have hfound : s.methodFound? y.cls y.name y.desc = some mk := State.methodFound?_of_named hnamed hy
  obtain ⟨c2, r2, m2, q1, q2, q3, q4, kP, hkP, hkPi⟩ := Cond.selects_spec hz
  have hcls : m2.cls = mk.cls := by
    have g1 := findClass_of_methodNamed q3
    have g2 := findClass_of_methodNamed hnamed
    rw [hzc] at g1
    exact Option.some.inj (g1.symm.trans g2)
  rw [hcls] at hkP
  have hsel : selectMethod {} s.vm c mk = .method mk := selectMethod_private hmethM (Cond.privateMethod_at hpriv mk methM hnamed hmethM)
  simp only [Cond.before, Cond.holds, Cond.value, hc, hfound, hnamed, hsel, hkP]
  simp
  exact hkPi
theorem st_tbl : ∀ q ∈ stL, Cond.stringRef q.1 q.2.1 q.2.2 ∈ lw_tbl := by
  intro q hq
  have h : stL.map (fun q => Cond.stringRef q.1 q.2.1 q.2.2) = ([552, 605, 606, 607, 620, 629, 630, 631, 646, 727, 728, 729, 730, 731, 740, 745, 746, 747, 1532, 1550, 1570, 1571, 1572, 1573, 1581, 1594, 1599, 1600, 1601, 1602, 1603, 1608, 1613, 1614, 1615] : List Nat).filterMap (fun i => lw_tbl[i]?) := by decide +kernel
  have h2 : Cond.stringRef q.1 q.2.1 q.2.2 ∈ stL.map (fun q => Cond.stringRef q.1 q.2.1 q.2.2) := List.mem_map.mpr ⟨q, hq, rfl⟩
  rw [h] at h2
  obtain ⟨i, -, hi⟩ := List.mem_filterMap.mp h2
  exact List.mem_of_getElem? hi
theorem ao_2 : Cond.arrayOver (.object RX2) ∈ lw_tbl := List.mem_of_getElem? (i := 311) (by decide +kernel)
theorem ao_6 : Cond.arrayOver (.object RX6) ∈ lw_tbl := List.mem_of_getElem? (i := 230) (by decide +kernel)
theorem ls_U : Cond.laysStatic Bundle.tN "UNASSIGNED_STACK" Bundle.steD ∈ lw_tbl := List.mem_of_getElem? (i := 1294) (by decide +kernel)
theorem ls_N : Cond.laysStatic Bundle.tN "SUPPRESSED_SENTINEL" Bundle.listD ∈ lw_tbl := List.mem_of_getElem? (i := 1296) (by decide +kernel)
theorem in_T : Cond.initialized Bundle.tN ∈ lw_tbl := List.mem_of_getElem? (i := 122) (by decide +kernel)
theorem ls_C : Cond.laysStatic "java/lang/String" "COMPACT_STRINGS" "Z" ∈ lw_tbl := List.mem_of_getElem? (i := 566) (by decide +kernel)
theorem in_S : Cond.initialized "java/lang/String" ∈ lw_tbl := List.mem_of_getElem? (i := 114) (by decide +kernel)
theorem ls_F : Cond.laysStatic "jdk/internal/util/Preconditions" "SIOOBE_FORMATTER" "Ljava/util/function/BiFunction;" ∈ lw_tbl := List.mem_of_getElem? (i := 582) (by decide +kernel)
theorem in_P : Cond.initialized "jdk/internal/util/Preconditions" ∈ lw_tbl := List.mem_of_getElem? (i := 116) (by decide +kernel)
theorem pv_l : Cond.privateMethod yX8_leastOf ∈ lw_tbl := List.mem_of_getElem? (i := 985) (by decide +kernel)
theorem im_l : Cond.instanceMethod yX8_leastOf ∈ lw_tbl := List.mem_of_getElem? (i := 986) (by decide +kernel)
theorem ins_RX0 : Cond.instantiable RX0 4 ∈ lw_tbl := List.mem_of_getElem? (i := 281) (by decide +kernel)
theorem sf_RX0 : Cond.selects RX0 ⟨RX0, "fewest", "(I)I"⟩ yX8_fewest ∈ lw_tbl := List.mem_of_getElem? (i := 981) (by decide +kernel)
theorem ins_RX1 : Cond.instantiable RX1 6 ∈ lw_tbl := List.mem_of_getElem? (i := 305) (by decide +kernel)
theorem sf_RX1 : Cond.selects RX1 ⟨RX1, "fewest", "(I)I"⟩ yX8_fewest ∈ lw_tbl := List.mem_of_getElem? (i := 1015) (by decide +kernel)
set_option maxHeartbeats 4000000 in
set_option maxRecDepth 100000 in
theorem law_in {p : Program} {s : State} {m : MethodId} {meth : Method} {c : Code} {b L : Nat} {xs : Nat → Int32} (C0 : lw_At p s m meth c b L xs) : ∃ (dC : Nat → ClassId) (dI : Nat → Nat → Nat) (cy : Nat → ClassId), fx p s m c code 7 #[Value.ref b] RL dC dI cy hp (fun q : Nat => s.heap.size ≤ q) := by
  obtain ⟨hx, hb, hr, hml, hown, hts, hX, hbl, hlocks, hgv⟩ := C0
  have hU : ∀ w ∈ wsU, w.before #[Value.ref b] s = true := by
    intro w hw
    rcases List.mem_append.mp hw with h | h
    · rcases List.mem_cons.mp h with h | h
      · subst h; exact sel_priv (by decide +kernel) (hts _ ins_RX0) (hts _ pv_l) (hts _ im_l) (hts _ sf_RX0) rfl
      · rcases List.mem_cons.mp h with h | h
        · subst h; exact sel_priv (by decide +kernel) (hts _ ins_RX1) (hts _ pv_l) (hts _ im_l) (hts _ sf_RX1) rfl
        · cases h
    · exact hts w (List.mem_filter.mp h).1
  obtain ⟨c0, iS0, hKn0⟩ := u_known (C := RX0) (T := TX0) (N := 4) (n := 4) hU (fun w h => kcX0.1 w h) (hU (.instantiable RX0 4) w_281)
  obtain ⟨c1, iS1, hKn1⟩ := u_known (C := RX1) (T := TX1) (N := 6) (n := 6) hU (fun w h => kcX1.1 w h) (hU (.instantiable RX1 6) w_305)
  obtain ⟨c2, iS2, hKn2⟩ := u_known (C := RX2) (T := TX2) (N := 3) (n := 3) hU (fun w h => kcX2.1 w h) (hU (.instantiable RX2 3) w_265)
  obtain ⟨c3, iS3, hKn3⟩ := u_known (C := RX3) (T := TX3) (N := 2) (n := 2) hU (fun w h => kcX3.1 w h) (hU (.instantiable RX3 2) w_350)
  obtain ⟨c4, iS4, hKn4⟩ := u_known (C := RX4) (T := TX4) (N := 4) (n := 4) hU (fun w h => kcX4.1 w h) (hU (.instantiable RX4 4) w_179)
  obtain ⟨c5, iS5, hKn5⟩ := u_known (C := RX5) (T := TX5) (N := 3) (n := 3) hU (fun w h => kcX5.1 w h) (hU (.instantiable RX5 3) w_333)
  obtain ⟨c6, iS6, hKn6⟩ := u_known (C := RX6) (T := TX6) (N := 5) (n := 5) hU (fun w h => kcX6.1 w h) (hU (.instantiable RX6 5) w_173)
  obtain ⟨c7, iS7, hKn7⟩ := u_known (C := RX7) (T := TX7) (N := 15) (n := 15) hU (fun w h => kcX7.1 w h) (hU (.instantiable RX7 15) w_365)
  obtain ⟨c8, iS8, hKn8⟩ := u_known (C := RX9) (T := TX9) (N := 9) (n := 9) hU (fun w h => kcX9.1 w h) (hU (.instantiable RX9 9) w_135)
  obtain ⟨c9, iS9, hKn9⟩ := u_known (C := RX10) (T := TX10) (N := 8) (n := 8) hU (fun w h => kcX10.1 w h) (hU (.instantiable RX10 8) w_232)
  obtain ⟨c10, iS10, hKn10⟩ := u_known (C := RX11) (T := TX11) (N := 17) (n := 17) hU (fun w h => kcX11.1 w h) (hU (.instantiable RX11 17) w_127)
  obtain ⟨c11, iS11, hKn11⟩ := u_known (C := RX12) (T := TX12) (N := 17) (n := 17) hU (fun w h => kcX12.1 w h) (hU (.instantiable RX12 17) w_1441)
  obtain ⟨c12, iS12, hKn12⟩ := u_known (C := RX13) (T := TX13) (N := 31) (n := 31) hU (fun w h => kcX13.1 w h) (hU (.instantiable RX13 31) w_1329)
  have hAO2 : va_AO RX2 s := va_AO.of (hts _ ao_2)
  have hAO6 : va_AO RX6 s := va_AO.of (hts _ ao_6)
  obtain ⟨y0, hy0⟩ := ar_prim (fun C h => by cases h) (hU (.arrayClass .byte) w_171)
  obtain ⟨y1, hy1⟩ := ar_prim (fun C h => by cases h) (hU (.arrayClass .int) w_207)
  obtain ⟨y2, hy2⟩ := ar_prim (fun C h => by cases h) (hU (.arrayClass .long) w_348)
  obtain ⟨y3, hy3⟩ := ar_prim (fun C h => by cases h) (hU (.arrayClass .boolean) w_449)
  obtain ⟨y4, hy4⟩ := ar_obj hAO2
  obtain ⟨y5, hy5⟩ := ar_obj hAO6
  have hAh : ∀ a : Nat, a < s.heap.size → ¬ (fun q : Nat => s.heap.size ≤ q) a := fun a h => Nat.not_le.mpr h
  have hs := flat_of_before _ hgv
  refine ⟨fun k => if k = 0 then c0 else if k = 1 then c1 else if k = 2 then c2 else if k = 3 then c3 else if k = 4 then c4 else if k = 5 then c5 else if k = 6 then c6 else if k = 7 then c7 else if k = 8 then c8 else if k = 9 then c9 else if k = 10 then c10 else if k = 11 then c11 else c12, fun k => if k = 0 then iS0 else if k = 1 then iS1 else if k = 2 then iS2 else if k = 3 then iS3 else if k = 4 then iS4 else if k = 5 then iS5 else if k = 6 then iS6 else if k = 7 then iS7 else if k = 8 then iS8 else if k = 9 then iS9 else if k = 10 then iS10 else if k = 11 then iS11 else iS12, fun k => if k = 0 then y0 else if k = 1 then y1 else if k = 2 then y2 else if k = 3 then y3 else if k = 4 then y4 else y5, ⟨hx, hb, hml, hown, hU, ⟨?_, ?_⟩, ⟨?_, hAO2, hAO6⟩, ⟨?_, ?_, ?_, ?_⟩⟩⟩
  · intro k q hq
    match k, hq with
    | 0, hq => cases hq; exact hKn0
    | 1, hq => cases hq; exact hKn1
    | 2, hq => cases hq; exact hKn2
    | 3, hq => cases hq; exact hKn3
    | 4, hq => cases hq; exact hKn4
    | 5, hq => cases hq; exact hKn5
    | 6, hq => cases hq; exact hKn6
    | 7, hq => cases hq; exact hKn7
    | 8, hq => cases hq; exact hKn8
    | 9, hq => cases hq; exact hKn9
    | 10, hq => cases hq; exact hKn10
    | 11, hq => cases hq; exact hKn11
    | 12, hq => cases hq; exact hKn12
    | k + 13, hq => simp [vwCl] at hq
  · intro k q hq
    match k, hq with
    | 0, hq => cases hq; exact hy0
    | 1, hq => cases hq; exact hy1
    | 2, hq => cases hq; exact hy2
    | 3, hq => cases hq; exact hy3
    | 4, hq => cases hq; exact hy4
    | 5, hq => cases hq; exact hy5
    | k + 6, hq => simp [tyA] at hq
  · intro w hw
    exact va_Nw.of (isNest_tab (List.mem_filter.mp hw).2) (hts w (List.mem_filter.mp hw).1)
  · exact ⟨vx_Zqof (hts _ ls_U) (hts _ in_T) (hs _ (by decide +kernel)) hAh, vx_Zqof (hts _ ls_N) (hts _ in_T) (hs _ (by decide +kernel)) hAh⟩
  · exact va_Zof (hts _ ls_C) (hts _ in_S) (va_eqt (hs _ st_cs)) hAh
  · exact va_Zqof (hts _ ls_F) (hts _ in_P) (hs _ st_sf) hAh
  · intro q hq
    exact str_of (hts _ (st_tbl q hq)) (hs _ (st_ex q hq)) (hs _ (st_co q hq)) (hs _ (st_ar q hq)) (st_ln q hq) (hs _ (st_le q hq)) (fun j hj => hs _ (st_el q hq j hj)) hAh
