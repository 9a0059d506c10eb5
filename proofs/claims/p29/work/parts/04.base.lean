abbrev stL : List (String × Nat × String) := [("HahaLawn$Tape", 203, "park"), ("HahaLawn$Tape", 205, "row"), ("HahaLawn$Tape", 207, "walker"), ("HahaLawn$Tape", 209, "walk"), ("HahaLawn$Tape", 76, "wide"), ("HahaLawn$Tape", 89, "deep"), ("HahaLawn$Tape", 91, "errs"), ("HahaLawn$Tape", 95, "slips"), ("HahaLawn$Tape", 117, "odghu"), ("HahaLawn$Tape", 211, "guest"), ("HahaLawn$Tape", 213, "child"), ("HahaLawn$Tape", 215, "colonel"), ("HahaLawn$Tape", 217, "keeper"), ("HahaLawn$Tape", 152, "at"), ("HahaLawn$Tape", 161, "to"), ("HahaLawn$Tape", 179, "steps"), ("HahaLawn$Tape", 181, "fell"), ("HahaLawn$Tape", 186, "dry"), ("HahaLawnModel", 139, "park"), ("HahaLawnModel", 181, "wide"), ("HahaLawnModel", 186, "deep"), ("HahaLawnModel", 187, "errs"), ("HahaLawnModel", 189, "slips"), ("HahaLawnModel", 141, "row"), ("HahaLawnModel", 143, "walker"), ("HahaLawnModel", 145, "walk"), ("HahaLawnModel", 219, "guest"), ("HahaLawnModel", 221, "child"), ("HahaLawnModel", 223, "colonel"), ("HahaLawnModel", 225, "keeper"), ("HahaLawnModel", 227, "at"), ("HahaLawnModel", 232, "to"), ("HahaLawnModel", 248, "steps"), ("HahaLawnModel", 250, "fell"), ("HahaLawnModel", 252, "dry")]
/-- the class ids of rows: byte, int, long, boolean, Flood, Now -/
abbrev tyA (cy : Nat → ClassId) : List (ClassId × FieldType) := [(cy 0, .byte), (cy 1, .int), (cy 2, .long), (cy 3, .boolean), (cy 4, .object RX2), (cy 5, .object RX6)]
def isNest : Cond → Bool
  | .fieldLinkNest .. => true
  | .methodLinkNest .. => true
  | .castable .. => true
  | .declares .. => true
  | _ => false
/-- 'selects' of the private method that both searches inherit -/
def wsX : List Cond := [Cond.selects RX0 yX8_leastOf yX8_leastOf, Cond.selects RX1 yX8_leastOf yX8_leastOf]
/-- all words of the tables that a method's own list may hold -/
def wsU : List Cond := wsX ++ lw_tbl.filter goodWord
def nwL : List Cond := lw_tbl.filter isNest
/-- what a method needs beside its words: nest mates' links, classes of arrays of references, string constants -/
def ev (U : State) : Prop := (∀ w ∈ nwL, va_Nw w U) ∧ va_AO RX2 U ∧ va_AO RX6 U
theorem isNest_tab {w : Cond} (h : isNest w = true) : w.onTables = true := by
  cases w <;> first | rfl | cases h
theorem ev.warm {s U : State} (hW : s.WarmedH U.vm) (h : ev s) : ev U := by
  obtain ⟨h1, h2, h3⟩ := h
  refine ⟨fun w hw => ?_, h2.moved hW.alike, h3.moved hW.alike⟩
  · have hn : isNest w = true := (List.mem_filter.mp hw).2
    have h9 := h1 w hw
    cases w <;> first | exact va_Nw.warmF hW h9 | exact va_Nw.warmM hW h9 | exact va_Nw.warmC hW h9 | exact va_Nw.warmD hW h9 | cases hn
theorem ev.same {u U : State} (hv : u.vm = U.vm) (h : ev u) : ev U := by
  obtain ⟨h1, h2, h3⟩ := h
  refine ⟨fun w hw => va_Nw.same (isNest_tab (List.mem_filter.mp hw).2) hv (h1 w hw), ?_, ?_⟩
  · exact h2.moved (by rw [hv]; exact Vm.Alike.refl _)
  · exact h3.moved (by rw [hv]; exact Vm.Alike.refl _)
theorem wU {w : Cond} (i : Nat) (h : lw_tbl[i]? = some w) (hg : goodWord w = true) : w ∈ wsU := List.mem_append_right _ (List.mem_filter.mpr ⟨List.mem_of_getElem? h, hg⟩)
theorem nU {w : Cond} (i : Nat) (h : lw_tbl[i]? = some w) (hg : isNest w = true) : w ∈ nwL := List.mem_filter.mpr ⟨List.mem_of_getElem? h, hg⟩
theorem tb_1 {w : Cond} {i : Nat} (h : tables_1_1[i]? = some w) : w ∈ lw_tbl := List.mem_append_right _ (show w ∈ tables_1_1 ++ (tables_1_2 ++ (tables_1_3 ++ (tables_1_4 ++ (tables_1_5 ++ (tables_1_6 ++ (tables_1_7 ++ (tables_1_8 ++ tables_1_9))))))) from (List.mem_append_left _ (List.mem_of_getElem? h)))
theorem wT1 {w : Cond} (i : Nat) (h : tables_1_1[i]? = some w) (hg : goodWord w = true) : w ∈ wsU := List.mem_append_right _ (List.mem_filter.mpr ⟨tb_1 h, hg⟩)
theorem nT1 {w : Cond} (i : Nat) (h : tables_1_1[i]? = some w) (hg : isNest w = true) : w ∈ nwL := List.mem_filter.mpr ⟨tb_1 h, hg⟩
theorem tb_2 {w : Cond} {i : Nat} (h : tables_1_2[i]? = some w) : w ∈ lw_tbl := List.mem_append_right _ (show w ∈ tables_1_1 ++ (tables_1_2 ++ (tables_1_3 ++ (tables_1_4 ++ (tables_1_5 ++ (tables_1_6 ++ (tables_1_7 ++ (tables_1_8 ++ tables_1_9))))))) from (List.mem_append_right _ (List.mem_append_left _ (List.mem_of_getElem? h))))
theorem wT2 {w : Cond} (i : Nat) (h : tables_1_2[i]? = some w) (hg : goodWord w = true) : w ∈ wsU := List.mem_append_right _ (List.mem_filter.mpr ⟨tb_2 h, hg⟩)
theorem nT2 {w : Cond} (i : Nat) (h : tables_1_2[i]? = some w) (hg : isNest w = true) : w ∈ nwL := List.mem_filter.mpr ⟨tb_2 h, hg⟩
theorem tb_3 {w : Cond} {i : Nat} (h : tables_1_3[i]? = some w) : w ∈ lw_tbl := List.mem_append_right _ (show w ∈ tables_1_1 ++ (tables_1_2 ++ (tables_1_3 ++ (tables_1_4 ++ (tables_1_5 ++ (tables_1_6 ++ (tables_1_7 ++ (tables_1_8 ++ tables_1_9))))))) from (List.mem_append_right _ (List.mem_append_right _ (List.mem_append_left _ (List.mem_of_getElem? h)))))
theorem wT3 {w : Cond} (i : Nat) (h : tables_1_3[i]? = some w) (hg : goodWord w = true) : w ∈ wsU := List.mem_append_right _ (List.mem_filter.mpr ⟨tb_3 h, hg⟩)
theorem nT3 {w : Cond} (i : Nat) (h : tables_1_3[i]? = some w) (hg : isNest w = true) : w ∈ nwL := List.mem_filter.mpr ⟨tb_3 h, hg⟩
theorem tb_4 {w : Cond} {i : Nat} (h : tables_1_4[i]? = some w) : w ∈ lw_tbl := List.mem_append_right _ (show w ∈ tables_1_1 ++ (tables_1_2 ++ (tables_1_3 ++ (tables_1_4 ++ (tables_1_5 ++ (tables_1_6 ++ (tables_1_7 ++ (tables_1_8 ++ tables_1_9))))))) from (List.mem_append_right _ (List.mem_append_right _ (List.mem_append_right _ (List.mem_append_left _ (List.mem_of_getElem? h))))))
theorem wT4 {w : Cond} (i : Nat) (h : tables_1_4[i]? = some w) (hg : goodWord w = true) : w ∈ wsU := List.mem_append_right _ (List.mem_filter.mpr ⟨tb_4 h, hg⟩)
theorem nT4 {w : Cond} (i : Nat) (h : tables_1_4[i]? = some w) (hg : isNest w = true) : w ∈ nwL := List.mem_filter.mpr ⟨tb_4 h, hg⟩
theorem tb_5 {w : Cond} {i : Nat} (h : tables_1_5[i]? = some w) : w ∈ lw_tbl := List.mem_append_right _ (show w ∈ tables_1_1 ++ (tables_1_2 ++ (tables_1_3 ++ (tables_1_4 ++ (tables_1_5 ++ (tables_1_6 ++ (tables_1_7 ++ (tables_1_8 ++ tables_1_9))))))) from (List.mem_append_right _ (List.mem_append_right _ (List.mem_append_right _ (List.mem_append_right _ (List.mem_append_left _ (List.mem_of_getElem? h)))))))
theorem wT5 {w : Cond} (i : Nat) (h : tables_1_5[i]? = some w) (hg : goodWord w = true) : w ∈ wsU := List.mem_append_right _ (List.mem_filter.mpr ⟨tb_5 h, hg⟩)
theorem nT5 {w : Cond} (i : Nat) (h : tables_1_5[i]? = some w) (hg : isNest w = true) : w ∈ nwL := List.mem_filter.mpr ⟨tb_5 h, hg⟩
theorem tb_6 {w : Cond} {i : Nat} (h : tables_1_6[i]? = some w) : w ∈ lw_tbl := List.mem_append_right _ (show w ∈ tables_1_1 ++ (tables_1_2 ++ (tables_1_3 ++ (tables_1_4 ++ (tables_1_5 ++ (tables_1_6 ++ (tables_1_7 ++ (tables_1_8 ++ tables_1_9))))))) from (List.mem_append_right _ (List.mem_append_right _ (List.mem_append_right _ (List.mem_append_right _ (List.mem_append_right _ (List.mem_append_left _ (List.mem_of_getElem? h))))))))
theorem wT6 {w : Cond} (i : Nat) (h : tables_1_6[i]? = some w) (hg : goodWord w = true) : w ∈ wsU := List.mem_append_right _ (List.mem_filter.mpr ⟨tb_6 h, hg⟩)
theorem nT6 {w : Cond} (i : Nat) (h : tables_1_6[i]? = some w) (hg : isNest w = true) : w ∈ nwL := List.mem_filter.mpr ⟨tb_6 h, hg⟩
theorem tb_7 {w : Cond} {i : Nat} (h : tables_1_7[i]? = some w) : w ∈ lw_tbl := List.mem_append_right _ (show w ∈ tables_1_1 ++ (tables_1_2 ++ (tables_1_3 ++ (tables_1_4 ++ (tables_1_5 ++ (tables_1_6 ++ (tables_1_7 ++ (tables_1_8 ++ tables_1_9))))))) from (List.mem_append_right _ (List.mem_append_right _ (List.mem_append_right _ (List.mem_append_right _ (List.mem_append_right _ (List.mem_append_right _ (List.mem_append_left _ (List.mem_of_getElem? h)))))))))
theorem wT7 {w : Cond} (i : Nat) (h : tables_1_7[i]? = some w) (hg : goodWord w = true) : w ∈ wsU := List.mem_append_right _ (List.mem_filter.mpr ⟨tb_7 h, hg⟩)
theorem nT7 {w : Cond} (i : Nat) (h : tables_1_7[i]? = some w) (hg : isNest w = true) : w ∈ nwL := List.mem_filter.mpr ⟨tb_7 h, hg⟩
theorem tb_8 {w : Cond} {i : Nat} (h : tables_1_8[i]? = some w) : w ∈ lw_tbl := List.mem_append_right _ (show w ∈ tables_1_1 ++ (tables_1_2 ++ (tables_1_3 ++ (tables_1_4 ++ (tables_1_5 ++ (tables_1_6 ++ (tables_1_7 ++ (tables_1_8 ++ tables_1_9))))))) from (List.mem_append_right _ (List.mem_append_right _ (List.mem_append_right _ (List.mem_append_right _ (List.mem_append_right _ (List.mem_append_right _ (List.mem_append_right _ (List.mem_append_left _ (List.mem_of_getElem? h))))))))))
theorem wT8 {w : Cond} (i : Nat) (h : tables_1_8[i]? = some w) (hg : goodWord w = true) : w ∈ wsU := List.mem_append_right _ (List.mem_filter.mpr ⟨tb_8 h, hg⟩)
theorem nT8 {w : Cond} (i : Nat) (h : tables_1_8[i]? = some w) (hg : isNest w = true) : w ∈ nwL := List.mem_filter.mpr ⟨tb_8 h, hg⟩
theorem tb_9 {w : Cond} {i : Nat} (h : tables_1_9[i]? = some w) : w ∈ lw_tbl := List.mem_append_right _ (show w ∈ tables_1_1 ++ (tables_1_2 ++ (tables_1_3 ++ (tables_1_4 ++ (tables_1_5 ++ (tables_1_6 ++ (tables_1_7 ++ (tables_1_8 ++ tables_1_9))))))) from (List.mem_append_right _ (List.mem_append_right _ (List.mem_append_right _ (List.mem_append_right _ (List.mem_append_right _ (List.mem_append_right _ (List.mem_append_right _ (List.mem_append_right _ (List.mem_of_getElem? h))))))))))
theorem wT9 {w : Cond} (i : Nat) (h : tables_1_9[i]? = some w) (hg : goodWord w = true) : w ∈ wsU := List.mem_append_right _ (List.mem_filter.mpr ⟨tb_9 h, hg⟩)
theorem nT9 {w : Cond} (i : Nat) (h : tables_1_9[i]? = some w) (hg : isNest w = true) : w ∈ nwL := List.mem_filter.mpr ⟨tb_9 h, hg⟩
theorem wUs (ws : List Cond) (ps : List Nat) (hp : ws = ps.filterMap (fun i => lw_tbl[i]?)) (h : ws.all goodWord = true) : ∀ w ∈ ws, w ∈ wsU := by
  intro w hw
  have h1 := List.all_eq_true.mp h w hw
  rw [hp] at hw
  obtain ⟨i, -, hi⟩ := List.mem_filterMap.mp hw
  exact List.mem_append_right _ (List.mem_filter.mpr ⟨List.mem_of_getElem? hi, h1⟩)
theorem goodU {c0 : Cond} (h : c0 ∈ wsU) {b : List Cond} (hb : ∀ w ∈ wsU, w ∈ b) : GoodIn b (c0 :: wsU) := by
  intro w hw
  have hm : w ∈ wsU := by
    rcases List.mem_cons.mp hw with h1 | h1
    · rw [h1]; exact h
    · exact h1
  have hg : goodWord w = true := by
    rcases List.mem_append.mp hm with h1 | h1
    · exact (show ∀ w ∈ wsX, goodWord w = true by decide +kernel) w h1
    · exact (List.mem_filter.mp h1).2
  exact ⟨hb w hm, good_of_word hg⟩
/-- facts of the heap outside a method's own cells, that stay -/
abbrev exT : Type := (Nat → Prop) → State → Heap → Prop
def stb (ex : exT) : Prop := (∀ (A B : Nat → Prop) (u U : State) (H H1 : Heap), ex A u H → u.WarmedH U.vm → (∀ a : Nat, a < H.size → ¬ A a → H1[a]? = H[a]?) → (∀ q, B q → A q) → ex B U H1) ∧ ∀ (A : Nat → Prop) (u U : State) (H : Heap), u.vm = U.vm → ex A u H → ex A U H
/-- a text's object and its bytes -/
def sO (a v n : Nat) (f : Nat → Int32) : exT := fun A U H => va_O "java/lang/String" a A U H ∧ va_OF "java/lang/String" "coder" "B" (.int 0) a A U H ∧ va_OF "java/lang/String" "value" "[B" (.ref v) a A U H ∧ va_T .byte v n (fun j => .int (f j)) A U H
theorem sO_st (a v n : Nat) (f : Nat → Int32) : stb (sO a v n f) := by
  refine ⟨fun A B u U H H1 h hW hk hAB => ?_, fun A u U H hv h => ?_⟩
  · obtain ⟨h1, h2, h3, h4⟩ := h
    exact ⟨((h1.kept hk).narrow hAB).moved hW.alike, ((h2.kept hk).narrow hAB).moved hW.alike, ((h3.kept hk).narrow hAB).moved hW.alike, ((h4.kept hk).narrow hAB).moved hW.alike⟩
  · obtain ⟨h1, h2, h3, h4⟩ := h
    have ha : u.vm.Alike U.vm := by rw [hv]; exact Vm.Alike.refl _
    exact ⟨h1.moved ha, h2.moved ha, h3.moved ha, h4.moved ha⟩
def txB (t : String) : Nat → Int32 := fun j => Int32.ofNat ((t.toList.getD j 'a').toNat)
/-- what the whole program reads of the heap that it doesn't make: Throwable's statics, String's, the texts -/
def hp : exT := fun A U H => (vx_Zq Bundle.tN "UNASSIGNED_STACK" Bundle.steD A U H ∧ vx_Zq Bundle.tN "SUPPRESSED_SENTINEL" Bundle.listD A U H) ∧ va_Z "java/lang/String" "COMPACT_STRINGS" "Z" (.int 1) A U H ∧ va_Zq "jdk/internal/util/Preconditions" "SIOOBE_FORMATTER" "Ljava/util/function/BiFunction;" A U H ∧ ∀ q ∈ stL, ∃ a v, vk_R q.1 q.2.1 q.2.2 a U ∧ sO a v q.2.2.length (txB q.2.2) A U H
theorem hp_st : stb hp := by
  refine ⟨fun A B u U H H1 h hW hk hAB => ?_, fun A u U H hv h => ?_⟩
  · obtain ⟨⟨h1, h2⟩, h3, h4, h5⟩ := h
    refine ⟨⟨((h1.kept hk).narrow hAB).moved hW.alike, ((h2.kept hk).narrow hAB).moved hW.alike⟩, ((h3.kept hk).narrow hAB).moved hW.alike, ((h4.kept hk).narrow hAB).moved hW.alike, fun q hq => ?_⟩
    obtain ⟨a, v, g1, g2⟩ := h5 q hq
    exact ⟨a, v, g1.warm hW, (sO_st _ _ _ _).1 A B u U H H1 g2 hW hk hAB⟩
  · obtain ⟨⟨h1, h2⟩, h3, h4, h5⟩ := h
    have ha : u.vm.Alike U.vm := by rw [hv]; exact Vm.Alike.refl _
    refine ⟨⟨h1.moved ha, h2.moved ha⟩, h3.moved ha, h4.moved ha, fun q hq => ?_⟩
    obtain ⟨a, v, g1, g2⟩ := h5 q hq
    exact ⟨a, v, g1.same hv.symm, (sO_st _ _ _ _).2 A u U H hv g2⟩
def andX (e1 e2 : exT) : exT := fun A U H => e1 A U H ∧ e2 A U H
theorem andX_st {e1 e2 : exT} (h1 : stb e1) (h2 : stb e2) : stb (andX e1 e2) := ⟨fun A B u U H H1 h hW hk hAB => ⟨h1.1 A B u U H H1 h.1 hW hk hAB, h2.1 A B u U H H1 h.2 hW hk hAB⟩, fun A u U H hv h => ⟨h1.2 A u U H hv h.1, h2.2 A u U H hv h.2⟩⟩
theorem wO_inst : Cond.instanceMethod objectInit ∈ wsU := wU 132 (by decide +kernel) (by decide +kernel)
theorem wO_code : Cond.code objectInit ⟨#[0xb1]⟩ 1 none ∈ wsU := wU 133 (by decide +kernel) (by decide +kernel)
/-- a method's start: its world, the classes, the links -/
def pS (dC : Nat → ClassId) (dI : Nat → Nat → Nat) (cy : Nat → ClassId) (ex : exT) (ws : va_W) (sz : Nat) (U : State) : Prop :=
  U.heap.size = sz ∧ va_P (dC, dI) vwCl ws U.heap ∧ va_K (dC, dI) vwCl (tyA cy) U ∧ va_D (fun _ => True) ws ∧ ev U ∧ ex (va_A ws sz) U U.heap
/-- a method's end: its world -/
def qS {S : Type} (dC : Nat → ClassId) (dI : Nat → Nat → Nat) (A : Nat → Prop) (w1 : S → va_W) (u : S) (t : State) : Prop :=
  va_P (dC, dI) vwCl (w1 u) t.heap ∧ va_D A (w1 u)
theorem pS.blind {dC : Nat → ClassId} {dI : Nat → Nat → Nat} {cy : Nat → ClassId} {ex : exT} (hst : stb ex) {ws : va_W} {sz : Nat} {av : List Value} : FrameBlind (va_Pc av (pS dC dI cy ex ws sz)) := by
  intro a U g mk q
  obtain ⟨q0, q1, qP, qK, qD, qE, qX⟩ := q
  exact ⟨q0, q1, qP, va_K.moved (u := U) (U := U.calling g mk a) (Vm.Alike.refl U.vm) qK, qD, ev.same (u := U) (U := U.calling g mk a) rfl qE, hst.2 _ U (U.calling g mk a) _ rfl qX⟩
/-- what stays as it is within a method's body -/
def fx (p : Program) (s : State) (m : MethodId) (c : Code) (cc : ByteArray) (nL : Nat) (args : Array Value) (own : String) (dC : Nat → ClassId) (dI : Nat → Nat → Nat) (cy : Nat → ClassId) (ex : exT) (A : Nat → Prop) : Prop :=
  p.tables.exec = Jvm.exec ∧ c.code = cc ∧ c.maxLocals = nL ∧ s.vm.findClass own = some m.cls ∧ (∀ w ∈ wsU, w.before args s = true) ∧ va_K (dC, dI) vwCl (tyA cy) s ∧ ev s ∧ ex A s s.heap
/-- contracts: an int, a long, nothing -/
def ctI (l : Launch) (dC : Nat → ClassId) (dI : Nat → Nat → Nat) (cy : Nat → ClassId) (ex : exT) (y : MethodName) (cc : ByteArray) (nL : Nat) (ret : FieldType) (rm : Room) (av : List Value) (wc : va_W) {S : Type} (post : Int32 → S → Prop) (w1 : S → va_W) : Prop :=
  ∀ sz, Met l y (.code y cc nL (some ret) :: wsU) rm (va_Pc av (pS dC dI cy ex wc sz)) (va_Qi post (qS dC dI (va_A wc sz) w1) (va_A wc sz)) rm.cells rm.slots (va_A wc sz)
def ctL (l : Launch) (dC : Nat → ClassId) (dI : Nat → Nat → Nat) (cy : Nat → ClassId) (ex : exT) (y : MethodName) (cc : ByteArray) (nL : Nat) (rm : Room) (av : List Value) (wc : va_W) {S : Type} (post : Int64 → S → Prop) (w1 : S → va_W) : Prop :=
  ∀ sz, Met l y (.code y cc nL (some .long) :: wsU) rm (va_Pc av (pS dC dI cy ex wc sz)) (va_Ql post (qS dC dI (va_A wc sz) w1) (va_A wc sz)) rm.cells rm.slots (va_A wc sz)
def ctV (l : Launch) (dC : Nat → ClassId) (dI : Nat → Nat → Nat) (cy : Nat → ClassId) (ex : exT) (y : MethodName) (cc : ByteArray) (nL : Nat) (rm : Room) (av : List Value) (wc : va_W) {S : Type} (post : S → Prop) (w1 : S → va_W) : Prop :=
  ∀ sz, Met l y (.code y cc nL none :: wsU) rm (va_Pc av (pS dC dI cy ex wc sz)) (va_Qv post (qS dC dI (va_A wc sz) w1) (va_A wc sz)) rm.cells rm.slots (va_A wc sz)
/-- the walk that a contract asks for -/
def opn (l : Launch) (dC : Nat → ClassId) (dI : Nat → Nat → Nat) (cy : Nat → ClassId) (ex : exT) (y : MethodName) (cc : ByteArray) (nL : Nat) (ret : Option FieldType) (rm : Room) (av : List Value) (wc : va_W) (Qc : (Nat → Prop) → Array Value → State → Outcome → State → Prop) : Prop :=
  ∀ (p : Program) (e : Env) (s : State) (m : MethodId) (args : Array Value) (below : List Frame) (meth : Method) (c : Code) (A : Nat → Prop) (ls : Array Slot) (Q : State → Prop), Q = MQ below (Qc A) args s rm.cells rm.slots A →
    fx p s m c cc nL args y.cls dC dI cy ex A → meth.sig.returnType = ret → meth.locks = false → meth.name = y.name → (∀ q, s.heap.size ≤ q → A q) → va_P (dC, dI) vwCl wc s.heap → va_D A wc → va_S A s.heap s.heap [] → lv_has ls nL (lv_args 0 av) →
    W p l e rm s m args below meth c s.heap [] 0 0 Q (F0 m 0 ls [])
theorem opn.met {l : Launch} {dC : Nat → ClassId} {dI : Nat → Nat → Nat} {cy : Nat → ClassId} {ex : exT} {y : MethodName} {cc : ByteArray} {nL : Nat} {ret : Option FieldType} {rm : Room} {av : List Value} {wc : va_W} {Qc : (Nat → Prop) → Array Value → State → Outcome → State → Prop}
    (hy : plainName y.cls = true) (hn : (lg_sl av).length ≤ nL) (h : opn l dC dI cy ex y cc nL ret rm av wc Qc) (sz : Nat) : Met l y (.code y cc nL ret :: wsU) rm (va_Pc av (pS dC dI cy ex wc sz)) (Qc (va_A wc sz)) rm.cells rm.slots (va_A wc sz) := by
  refine Met.ofW (cc := cc) (maxL := nL) (ret := ret) hy rfl ?_
  intro p e s m args below meth c s₁ B hml hv
  obtain ⟨rfl, hsz, hP, hK, hD0, hE, hEx⟩ := hv
  have hts := atoms_spec (ws := .code y cc nL ret :: wsU) B.pre
  have hown : s.vm.findClass y.cls = some m.cls := findClass_of_methodNamed B.named
  subst hsz
  have hD := hD0.self (sz := s.heap.size)
  have hl := lv_entry av (n := nL) hn
  rw [lg_entry_eq]
  generalize (lg_sl av ++ List.replicate (nL - (lg_sl av).length) Slot.unset).toArray = ls at hl ⊢
  exact h p e s m _ below meth c _ ls _ rfl ⟨B.exec, B.bytes, hml, hown, fun w hw => hts w (List.mem_cons_of_mem _ hw), hK, hE, hEx⟩ B.returns B.notSynchronized (name_of_methodNamed B.named B.method).1 (fun q h => Or.inr h) hP hD va_S.rf hl
theorem ctI.of {l : Launch} {dC : Nat → ClassId} {dI : Nat → Nat → Nat} {cy : Nat → ClassId} {ex : exT} {y : MethodName} {cc : ByteArray} {nL : Nat} {rt : FieldType} {rm : Room} {av : List Value} {wc : va_W} {S : Type} {post : Int32 → S → Prop} {w1 : S → va_W} (hy : plainName y.cls = true) (hn : (lg_sl av).length ≤ nL) (h : opn l dC dI cy ex y cc nL (some rt) rm av wc (fun A => va_Qi post (qS dC dI A w1) A)) : ctI l dC dI cy ex y cc nL rt rm av wc post w1 := fun sz => opn.met hy hn h sz
theorem ctL.of {l : Launch} {dC : Nat → ClassId} {dI : Nat → Nat → Nat} {cy : Nat → ClassId} {ex : exT} {y : MethodName} {cc : ByteArray} {nL : Nat} {rm : Room} {av : List Value} {wc : va_W} {S : Type} {post : Int64 → S → Prop} {w1 : S → va_W} (hy : plainName y.cls = true) (hn : (lg_sl av).length ≤ nL) (h : opn l dC dI cy ex y cc nL (some .long) rm av wc (fun A => va_Ql post (qS dC dI A w1) A)) : ctL l dC dI cy ex y cc nL rm av wc post w1 := fun sz => opn.met hy hn h sz
theorem ctV.of {l : Launch} {dC : Nat → ClassId} {dI : Nat → Nat → Nat} {cy : Nat → ClassId} {ex : exT} {y : MethodName} {cc : ByteArray} {nL : Nat} {rm : Room} {av : List Value} {wc : va_W} {S : Type} {post : S → Prop} {w1 : S → va_W} (hy : plainName y.cls = true) (hn : (lg_sl av).length ≤ nL) (h : opn l dC dI cy ex y cc nL none rm av wc (fun A => va_Qv post (qS dC dI A w1) A)) : ctV l dC dI cy ex y cc nL rm av wc post w1 := fun sz => opn.met hy hn h sz
section Rows
variable {p : Program} {l : Launch} {e : Env} {R : Room} {s : State} {m : MethodId} {args : Array Value} {below : List Frame} {meth : Method} {c : Code} {H : Heap} {locs : List Loc} {cells slots : Nat} {Q : State → Prop}
variable {cc : ByteArray} {pc nL : Nat} {ls : Array Slot} {rest : List Value} {own : String} {dC : Nat → ClassId} {dI : Nat → Nat → Nat} {cy : Nat → ClassId} {ex ex0 : exT} {ws : va_W} {A A9 : Nat → Prop} {a ci idx N : Nat} {C : String} {T : u_T} {fs : List Value} {ty0 : Nat → FieldType} {v : Value}
/-- a class of the table: its words, types, names -/
def cOK (C : String) (T : u_T) (N : Nat) (ty0 : Nat → FieldType) : Prop := (∀ w ∈ u_ws C T N, w ∈ wsU) ∧ (∀ k, k < N → parseFieldDescriptor (T k).2.2.1 = some (ty0 k)) ∧ ∀ a, a < N → ∀ b, b < N → a ≠ b → (T a).2.1 ≠ (T b).2.1
/-- a field's link, plain or of a nest mate -/
def fLk (own : String) (idx : Nat) (t : String × String × String × Bool) : Prop := Cond.fieldLink own idx t.1 t.2.1 t.2.2.1 ∈ wsU ∨ ∃ host, Cond.fieldLinkNest own idx t.1 t.2.1 t.2.2.1 host ∈ nwL
theorem r_get (X : fx p s m c cc nL args own dC dI cy ex0 A9) (K : cOK C T N ty0) (hc : vwCl[ci]? = some (C, T, N)) (hP : va_P (dC, dI) vwCl ws H) (q0 : Nat) (he : ws[q0]? = some (a, .inr (ci, fs))) (k : Nat) (hk : k < N) (hlk : fLk own idx (T k)) (hv : fs[k]? = some v) (hdg : decode cc pc = .ok (.getfield idx, 3))
    (kk : W p l e R s m args below meth c H locs cells slots Q (F0 m (pc + 3) ls (v :: rest))) : W p l e R s m args below meth c H locs cells slots Q (F0 m pc ls (.ref a :: rest)) := by
  rcases hlk with h | ⟨host, h⟩
  · exact va_get (D := (dC, dI)) X.1 X.2.1 X.2.2.2.2.1 K.1 X.2.2.2.1 X.2.2.2.2.2.1 hP q0 he hc k hk (X.2.2.2.2.1 _ h) (fun _ h9 => h9) hv hdg kk
  · exact va_getN (D := (dC, dI)) X.1 X.2.1 X.2.2.2.2.1 K.1 X.2.2.2.1 X.2.2.2.2.2.1 hP q0 he hc k hk (va_Nw.use rfl (X.2.2.2.2.2.2.1.1 _ h)) (fun _ h9 => h9) hv hdg kk
theorem r_put (X : fx p s m c cc nL args own dC dI cy ex0 A9) (K : cOK C T N ty0) (hc : vwCl[ci]? = some (C, T, N)) (hP : va_P (dC, dI) vwCl ws H) (hD : va_D A ws) (hS : va_S A s.heap H locs) (q0 : Nat) (he : ws[q0]? = some (a, .inr (ci, fs))) (k : Nat) (hk : k < N) (hlk : fLk own idx (T k)) (hfin : (T k).2.2.2 = false) (hn : narrow (ty0 k) v = v) (hfit : fits (ty0 k) v = true) (hl : k < fs.length) (hdg : decode cc pc = .ok (.putfield idx, 3))
    (kk : ∀ (H1 : Heap) (locs1 : List Loc), va_P (dC, dI) vwCl (ws.set q0 (a, .inr (ci, fs.set k v))) H1 → va_D A (ws.set q0 (a, .inr (ci, fs.set k v))) → va_S A s.heap H1 locs1 → W p l e R s m args below meth c H1 locs1 cells slots Q (F0 m (pc + 3) ls rest)) : W p l e R s m args below meth c H locs cells slots Q (F0 m pc ls (v :: .ref a :: rest)) := by
  rcases hlk with h | ⟨host, h⟩
  · exact va_put (D := (dC, dI)) X.1 X.2.1 X.2.2.2.2.1 K.1 ty0 K.2.1 K.2.2 X.2.2.2.1 X.2.2.2.2.2.1 hP hD hS q0 he hc k hk (X.2.2.2.2.1 _ h) (fun _ h9 => h9) hfin (K.2.1 k hk) hn hfit hl hdg kk
  · exact va_putN (D := (dC, dI)) X.1 X.2.1 X.2.2.2.2.1 K.1 ty0 K.2.1 K.2.2 X.2.2.2.1 X.2.2.2.2.2.1 hP hD hS q0 he hc k hk (va_Nw.use rfl (X.2.2.2.2.2.2.1.1 _ h)) (fun _ h9 => h9) hfin (K.2.1 k hk) hn hfit hl hdg kk
theorem r_putF (X : fx p s m c cc nL args own dC dI cy ex0 A9) (K : cOK C T N ty0) (hc : vwCl[ci]? = some (C, T, N)) (hP : va_P (dC, dI) vwCl ws H) (hD : va_D A ws) (hS : va_S A s.heap H locs) (hin : meth.name = "<init>") (q0 : Nat) (he : ws[q0]? = some (a, .inr (ci, fs))) (k : Nat) (hk : k < N) (hlk : Cond.fieldLink own idx (T k).1 (T k).2.1 (T k).2.2.1 ∈ wsU) (hfin : (T k).2.2.2 = true) (hdecl : (T k).1 = own) (hn : narrow (ty0 k) v = v) (hfit : fits (ty0 k) v = true) (hl : k < fs.length) (hdg : decode cc pc = .ok (.putfield idx, 3))
    (kk : ∀ (H1 : Heap) (locs1 : List Loc), va_P (dC, dI) vwCl (ws.set q0 (a, .inr (ci, fs.set k v))) H1 → va_D A (ws.set q0 (a, .inr (ci, fs.set k v))) → va_S A s.heap H1 locs1 → W p l e R s m args below meth c H1 locs1 cells slots Q (F0 m (pc + 3) ls rest)) : W p l e R s m args below meth c H locs cells slots Q (F0 m pc ls (v :: .ref a :: rest)) :=
  va_putF (D := (dC, dI)) X.1 X.2.1 X.2.2.2.2.1 K.1 ty0 K.2.1 K.2.2 X.2.2.2.1 X.2.2.2.2.2.1 hP hD hS q0 he hc k hk (X.2.2.2.2.1 _ hlk) (fun _ h9 => h9) hfin hin hdecl (K.2.1 k hk) hn hfit hl hdg kk
theorem r_new (X : fx p s m c cc nL args own dC dI cy ex0 A9) (K : cOK C T N ty0) (hc : vwCl[ci]? = some (C, T, N)) (hcl : Cond.classLink own idx C ∈ wsU) (hinst : Cond.instantiable C N ∈ wsU) (hini : Cond.initialized C ∈ wsU) (hP : va_P (dC, dI) vwCl ws H) (hD : va_D A ws) (hS : va_S A s.heap H locs) (hA : ∀ q, s.heap.size ≤ q → A q) (fs : List Value) (hfs : ∀ j, j < N → defaultValue (ty0 j) = vp_V fs j) (hcells : cells + 1 ≤ R.cells) (hslots : slots + N ≤ R.slots) (hdg : decode cc pc = .ok (.new idx, 3))
    (kk : ∀ (q : Nat) (H1 : Heap), va_P (dC, dI) vwCl (ws ++ [(q, .inr (ci, fs))]) H1 → va_D A (ws ++ [(q, .inr (ci, fs))]) → va_S A s.heap H1 locs → W p l e R s m args below meth c H1 locs (cells + 1) (slots + N) Q (F0 m (pc + 3) ls (.ref q :: rest))) : W p l e R s m args below meth c H locs cells slots Q (F0 m pc ls rest) :=
  va_new (D := (dC, dI)) X.1 X.2.1 X.2.2.2.2.1 K.1 ty0 K.2.1 X.2.2.2.1 (X.2.2.2.2.1 _ hcl) (X.2.2.2.2.1 _ hinst) (X.2.2.2.2.1 _ hini) X.2.2.2.2.2.1 hP hD hS hA hc hfs hcells hslots hdg kk
theorem RA_name {U : State} {cA : ClassId} {ty : FieldType} (h : va_RA U cA ty) : U.vm.findClass ("[" ++ ty.toString) = some cA := by
  cases ty <;> first | exact h | (obtain ⟨_, _, _, _, _, h4⟩ := h; exact h4)
theorem r_newa (X : fx p s m c cc nL args own dC dI cy ex0 A9) {atype : ArrayType} {ty : FieldType} {t0 : Nat} {cA : ClassId} (ht : (tyA cy)[t0]? = some (cA, ty)) (harr : Cond.arrayClass ty ∈ wsU) (hty : newarray.typeOf atype = ty) (hP : va_P (dC, dI) vwCl ws H) (hD : va_D A ws) (hS : va_S A s.heap H locs) (hA : ∀ q, s.heap.size ≤ q → A q)
    {n : Int32} {N' : Nat} {a0 : vp_A} (ha : ∀ cA : ClassId, vp_cell cA a0 = arrV cA N' (fun _ => defaultValue ty)) (hn : ¬ n < 0) (hN : n.toNatClampNeg = N') (hbytes : N' * componentBytes ty ≤ 536870912) (hcells : cells + 1 ≤ R.cells) (hslots : slots + N' ≤ R.slots) (hdg : decode cc pc = .ok (.newarray atype, 2))
    (kk : ∀ (q : Nat) (H1 : Heap), va_P (dC, dI) vwCl (ws ++ [(q, .inl (cA, a0))]) H1 → va_D A (ws ++ [(q, .inl (cA, a0))]) → va_S A s.heap H1 locs → W p l e R s m args below meth c H1 locs (cells + 1) (slots + N') Q (F0 m (pc + 2) ls (.ref q :: rest))) : W p l e R s m args below meth c H locs cells slots Q (F0 m pc ls (.int n :: rest)) := by
  refine va_newa (D := (dC, dI)) (cl := vwCl) (tys := tyA cy) (atype := atype) (ty := ty) X.1 X.2.1 (by rw [hty]; exact X.2.2.2.2.1 _ harr) hty X.2.2.2.2.2.1 hP hD hS hA ha hn hN hbytes hcells hslots hdg (fun q cB H1 hK1 hP1 hD1 hS1 => ?_)
  have e1 := RA_name (X.2.2.2.2.2.1.2 t0 _ ht).2
  have e2 := RA_name (hK1.2 6 (cB, ty) rfl).2
  have e3 : cB = cA := Option.some.inj (e2.symm.trans e1)
  subst e3
  exact kk q H1 hP1 hD1 hS1
theorem r_newq (X : fx p s m c cc nL args own dC dI cy ex0 A9) {C : String} {t0 : Nat} {cA : ClassId} (ht : (tyA cy)[t0]? = some (cA, .object C)) (hao : va_AO C s) (hcl : Cond.classLink own idx C ∈ wsU) (hP : va_P (dC, dI) vwCl ws H) (hD : va_D A ws) (hS : va_S A s.heap H locs) (hA : ∀ q, s.heap.size ≤ q → A q)
    {n : Int32} {N' : Nat} (hn : ¬ n < 0) (hN : n.toNatClampNeg = N') (hbytes : N' * 4 ≤ 536870912) (hcells : cells + 1 ≤ R.cells) (hslots : slots + N' ≤ R.slots) (hdg : decode cc pc = .ok (.anewarray idx, 3))
    (kk : ∀ (q : Nat) (H1 : Heap), va_P (dC, dI) vwCl (ws ++ [(q, .inl (cA, N', .inr (.inr (.inr (.inr (fun _ => none))))))]) H1 → va_D A (ws ++ [(q, .inl (cA, N', .inr (.inr (.inr (.inr (fun _ => none))))))]) → va_S A s.heap H1 locs → W p l e R s m args below meth c H1 locs (cells + 1) (slots + N') Q (F0 m (pc + 3) ls (.ref q :: rest))) : W p l e R s m args below meth c H locs cells slots Q (F0 m pc ls (.int n :: rest)) := by
  refine va_newq (D := (dC, dI)) (cl := vwCl) (tys := tyA cy) X.1 X.2.1 X.2.2.2.1 (X.2.2.2.2.1 _ hcl) hao X.2.2.2.2.2.1 hP hD hS hA hn hN hbytes hcells hslots hdg (fun q cB H1 hK1 hP1 hD1 hS1 => ?_)
  have e1 := RA_name (X.2.2.2.2.2.1.2 t0 _ ht).2
  have e2 := RA_name (hK1.2 6 (cB, .object C) rfl).2
  have e3 : cB = cA := Option.some.inj (e2.symm.trans e1)
  subst e3
  exact kk q H1 hP1 hD1 hS1
theorem r_oinit (X : fx p s m c cc nL args own dC dI cy ex0 A9) {lv : List (Nat × Value)} (hl : lv_has ls nL lv) (hlk : Cond.methodLink own idx objectInit ∈ wsU) (hdg : decode cc pc = .ok (.invokespecial idx, 3)) (hfr : 1 ≤ R.frames) (hlo : (rest.map fun v => v.category).sum + 12 ≤ R.locals)
    (kk : W p l e R s m args below meth c H locs cells slots Q (F0 m (pc + 3) ls rest)) : W p l e R s m args below meth c H locs cells slots Q (F0 m pc ls (.ref a :: rest)) :=
  W.objInit X.1 X.2.1 X.2.2.2.1 (X.2.2.2.2.1 _ hlk) (X.2.2.2.2.1 _ wO_inst) (X.2.2.2.2.1 _ wO_code) rfl (by rw [X.2.2.1]; exact hl.1) rfl hdg hfr (by show 2 * 0 + _ + 12 ≤ _; omega) kk
/-- a method's own words -/
def mOK (y : MethodName) (cc : ByteArray) (nL : Nat) (ret : Option FieldType) (n : Nat) : Prop := Cond.code y cc nL ret ∈ wsU ∧ Cond.initialized y.cls ∈ wsU ∧ y.cls ≠ "java/lang/invoke/MethodHandle" ∧ y.cls ≠ "java/lang/invoke/VarHandle" ∧ (parseMethodDescriptor y.desc).map (fun d => d.parameters.length) = some n
def mLk (own : String) (idx : Nat) (y : MethodName) : Prop := Cond.methodLink own idx y ∈ wsU ∨ ∃ host, Cond.methodLinkNest own idx y host ∈ nwL
variable {y : MethodName} {bytes : ByteArray} {maxL n b : Nat} {ret : Option FieldType} {rm : Room} {Qc : (Nat → Prop) → Array Value → State → Outcome → State → Prop} {As st : List Value} {wc wr : va_W} {lv : List (Nat × Value)}
theorem X_pre (X : fx p s m c cc nL args own dC dI cy ex0 A) (hst : stb ex) (hex : ∀ A U H, ex0 A U H → ex A U H) (hS : va_S A s.heap H locs) (hF : ∀ q, va_A wc H.size q → A q) (hP : va_P (dC, dI) vwCl wc H) (hD : va_D A wc) {av : List Value} (U : State) (hU : U.heap = H) (hW : s.WarmedH U.vm) : va_Pc av (pS dC dI cy ex wc H.size) av.toArray U :=
  ⟨rfl, by rw [hU], by rw [hU]; exact hP, va_K.moved hW.alike X.2.2.2.2.2.1, hD.weaken (fun _ _ _ _ => trivial), X.2.2.2.2.2.2.1.warm hW, by rw [hU]; exact hst.1 A _ s U s.heap H (hex _ _ _ X.2.2.2.2.2.2.2) hW hS.2.1 hF⟩
theorem fm_of {isC : List Nat} {wc ws : va_W} (hC : isC.map (fun i => ws[i]?) = wc.map some) : isC.filterMap (fun i => ws[i]?) = wc := by
  have h := congrArg (List.filterMap id) hC
  rw [List.filterMap_map, List.filterMap_map] at h
  exact h.trans List.filterMap_some
/-- a call on an object -/
theorem rV (X : fx p s m c cc nL args own dC dI cy ex0 A) (hst : stb ex) (hex : ∀ A U H, ex0 A U H → ex A U H) (hM : ∀ sz, Met l y (.code y bytes maxL ret :: wsU) rm (va_Pc (.ref b :: As) (pS dC dI cy ex wc sz)) (Qc (va_A wc sz)) rm.cells rm.slots (va_A wc sz)) (km : mOK y bytes maxL ret n) (kv : Cond.instanceMethod y ∈ wsU ∧ Cond.selects y.cls y y ∈ wsU) (lk : mLk own idx y) (hP : va_P (dC, dI) vwCl ws H) (hD : va_D A ws) (hS : va_S A s.heap H locs) (hA : ∀ q, s.heap.size ≤ q → A q) (isC : List Nat) (hnd : va_nd isC = true) (hC : isC.map (fun i => ws[i]?) = wc.map some) (q0 : Nat) {q : vw_C} (hq : wc[q0]? = some (b, .inr (ci, fs))) (hc : vwCl[ci]? = some q) (hq1 : q.1 = y.cls) (hl : lv_has ls nL lv) (hn : As.length = n) (hst0 : st = As.reverse ++ .ref b :: rest) (hcat : (rest.map fun v => v.category).sum ≤ 8) (hdg : decode cc pc = .ok (.invokevirtual idx, 3))
    (hR : rm.frames + 1 ≤ R.frames ∧ 8 + (maxL + 11) + rm.locals ≤ R.locals) (hf : cells + rm.cells ≤ R.cells ∧ slots + rm.slots ≤ R.slots) :
    va_Run p l e R s m args below meth c H locs cells slots rm.cells rm.slots (F0 m pc ls st) rest (Qc (va_A wc H.size) (Value.ref b :: As).toArray) (va_A wc H.size) := by
  have hPc := hP.sub (ws' := wc) isC (fm_of hC)
  have hDc := hD.sub (ws' := wc) isC hnd hC
  have hFc := va_free (wc := wc) hD hS hA isC hC
  have hG : GoodIn wsU (Cond.code y bytes maxL ret :: wsU) := goodU km.1 (fun _ h => h)
  have hrec := va_recv (s := s) X.2.2.2.2.2.1 hPc hc hq
  rw [hq1] at hrec
  rcases lk with h | ⟨host, h⟩
  · exact va_runV (As := As) (rest := rest) ⟨X.1, X.2.1, X.2.2.1, X.2.2.2.1, X.2.2.2.2.1⟩ (hM H.size) ⟨callB_of n X.2.2.2.2.1 hG rfl rfl rfl (X.2.2.2.2.1 _ km.2.1) (X.2.2.2.2.1 _ h) km.2.2 hR, X.2.2.2.2.1 _ kv.1, X.2.2.2.2.1 _ kv.2⟩ ⟨pS.blind hst, hrec, fun U hU hW => X_pre X hst hex hS hFc hPc hDc U hU hW⟩ rfl hn hl.1 hst0 (lv_room hcat) hdg hf
  · exact va_runVN (As := As) (rest := rest) ⟨X.1, X.2.1, X.2.2.1, X.2.2.2.1, X.2.2.2.2.1⟩ (hM H.size) ⟨va_cnB n X.2.2.2.2.1 hG rfl rfl rfl (X.2.2.2.2.2.2.1.1 _ h) (X.2.2.2.2.1 _ km.2.1) km.2.2 hR, X.2.2.2.2.1 _ kv.1, X.2.2.2.2.1 _ kv.2⟩ ⟨pS.blind hst, hrec, fun U hU hW => X_pre X hst hex hS hFc hPc hDc U hU hW⟩ rfl hn hl.1 hst0 (lv_room hcat) hdg hf
/-- a call of a static method -/
theorem rS (X : fx p s m c cc nL args own dC dI cy ex0 A) (hst : stb ex) (hex : ∀ A U H, ex0 A U H → ex A U H) (hM : ∀ sz, Met l y (.code y bytes maxL ret :: wsU) rm (va_Pc As (pS dC dI cy ex wc sz)) (Qc (va_A wc sz)) rm.cells rm.slots (va_A wc sz)) (km : mOK y bytes maxL ret n) (kv : Cond.static y ∈ wsU) (lk : mLk own idx y) (hP : va_P (dC, dI) vwCl ws H) (hD : va_D A ws) (hS : va_S A s.heap H locs) (hA : ∀ q, s.heap.size ≤ q → A q) (isC : List Nat) (hnd : va_nd isC = true) (hC : isC.map (fun i => ws[i]?) = wc.map some) (hl : lv_has ls nL lv) (hn : As.length = n) (hst0 : st = As.reverse ++ rest) (hcat : (rest.map fun v => v.category).sum ≤ 8) (hdg : decode cc pc = .ok (.invokestatic idx, 3))
    (hR : rm.frames + 1 ≤ R.frames ∧ 8 + (maxL + 11) + rm.locals ≤ R.locals) (hf : cells + rm.cells ≤ R.cells ∧ slots + rm.slots ≤ R.slots) :
    va_Run p l e R s m args below meth c H locs cells slots rm.cells rm.slots (F0 m pc ls st) rest (Qc (va_A wc H.size) As.toArray) (va_A wc H.size) := by
  have hPc := hP.sub (ws' := wc) isC (fm_of hC)
  have hDc := hD.sub (ws' := wc) isC hnd hC
  have hFc := va_free (wc := wc) hD hS hA isC hC
  have hG : GoodIn wsU (Cond.code y bytes maxL ret :: wsU) := goodU km.1 (fun _ h => h)
  rcases lk with h | ⟨host, h⟩
  · exact va_runS (As := As) (rest := rest) ⟨X.1, X.2.1, X.2.2.1, X.2.2.2.1, X.2.2.2.2.1⟩ (hM H.size) ⟨callB_of n X.2.2.2.2.1 hG rfl rfl rfl (X.2.2.2.2.1 _ km.2.1) (X.2.2.2.2.1 _ h) km.2.2 hR, X.2.2.2.2.1 _ kv⟩ ⟨pS.blind hst, fun U hU hW => X_pre X hst hex hS hFc hPc hDc U hU hW⟩ rfl hn hl.1 hst0 (lv_room hcat) hdg hf
  · exact va_runSN (As := As) (rest := rest) ⟨X.1, X.2.1, X.2.2.1, X.2.2.2.1, X.2.2.2.2.1⟩ (hM H.size) ⟨va_cnB n X.2.2.2.2.1 hG rfl rfl rfl (X.2.2.2.2.2.2.1.1 _ h) (X.2.2.2.2.1 _ km.2.1) km.2.2 hR, X.2.2.2.2.1 _ kv, trivial⟩ ⟨pS.blind hst, fun U hU hW => X_pre X hst hex hS hFc hPc hDc U hU hW⟩ rfl hn hl.1 hst0 (lv_room hcat) hdg hf
/-- a constructor's call -/
theorem rC (X : fx p s m c cc nL args own dC dI cy ex0 A) (hst : stb ex) (hex : ∀ A U H, ex0 A U H → ex A U H) (hM : ∀ sz, Met l y (.code y bytes maxL none :: wsU) rm (va_Pc (.ref b :: As) (pS dC dI cy ex wc sz)) (Qc (va_A wc sz)) rm.cells rm.slots (va_A wc sz)) (km : mOK y bytes maxL none n) (kv : Cond.instanceMethod y ∈ wsU) (hy1 : y.name = "<init>") (lk : mLk own idx y) (hP : va_P (dC, dI) vwCl ws H) (hD : va_D A ws) (hS : va_S A s.heap H locs) (hA : ∀ q, s.heap.size ≤ q → A q) (isC : List Nat) (hnd : va_nd isC = true) (hC : isC.map (fun i => ws[i]?) = wc.map some) (hl : lv_has ls nL lv) (hn : As.length = n) (hst0 : st = As.reverse ++ .ref b :: rest) (hcat : (rest.map fun v => v.category).sum ≤ 8) (hdg : decode cc pc = .ok (.invokespecial idx, 3))
    (hR : rm.frames + 1 ≤ R.frames ∧ 8 + (maxL + 11) + rm.locals ≤ R.locals) (hf : cells + rm.cells ≤ R.cells ∧ slots + rm.slots ≤ R.slots) :
    va_Run p l e R s m args below meth c H locs cells slots rm.cells rm.slots (F0 m pc ls st) rest (Qc (va_A wc H.size) (Value.ref b :: As).toArray) (va_A wc H.size) := by
  have hPc := hP.sub (ws' := wc) isC (fm_of hC)
  have hDc := hD.sub (ws' := wc) isC hnd hC
  have hFc := va_free (wc := wc) hD hS hA isC hC
  have hG : GoodIn wsU (Cond.code y bytes maxL none :: wsU) := goodU km.1 (fun _ h => h)
  rcases lk with h | ⟨host, h⟩
  · exact va_runI (As := As) (rest := rest) ⟨X.1, X.2.1, X.2.2.1, X.2.2.2.1, X.2.2.2.2.1⟩ (hM H.size) ⟨callB_of n X.2.2.2.2.1 hG rfl rfl rfl (X.2.2.2.2.1 _ km.2.1) (X.2.2.2.2.1 _ h) km.2.2 hR, hy1, X.2.2.2.2.1 _ kv⟩ ⟨pS.blind hst, fun U hU hW => X_pre X hst hex hS hFc hPc hDc U hU hW⟩ rfl hn hl.1 hst0 (lv_room hcat) hdg hf
  · exact va_runIN (As := As) (rest := rest) ⟨X.1, X.2.1, X.2.2.1, X.2.2.2.1, X.2.2.2.2.1⟩ (hM H.size) ⟨va_cnB n X.2.2.2.2.1 hG rfl rfl rfl (X.2.2.2.2.2.2.1.1 _ h) (X.2.2.2.2.1 _ km.2.1) km.2.2 hR, hy1, X.2.2.2.2.1 _ kv⟩ ⟨pS.blind hst, fun U hU hW => X_pre X hst hex hS hFc hPc hDc U hU hW⟩ rfl hn hl.1 hst0 (lv_room hcat) hdg hf
theorem rV_I {S : Type} {post : Int32 → S → Prop} {w1 : S → va_W} {rt : FieldType} (X : fx p s m c cc nL args own dC dI cy ex0 A) (hst : stb ex) (hex : ∀ A U H, ex0 A U H → ex A U H) (hM : ctI l dC dI cy ex y bytes maxL rt rm (.ref b :: As) wc post w1) (km : mOK y bytes maxL (some rt) n) (kv : Cond.instanceMethod y ∈ wsU ∧ Cond.selects y.cls y y ∈ wsU) (lk : mLk own idx y) (hP : va_P (dC, dI) vwCl ws H) (hD : va_D A ws) (hS : va_S A s.heap H locs) (hA : ∀ q, s.heap.size ≤ q → A q) (isC : List Nat) (hnd : va_nd isC = true) (hC : isC.map (fun i => ws[i]?) = wc.map some) (q0 : Nat) {q : vw_C} (hq : wc[q0]? = some (b, .inr (ci, fs))) (hc : vwCl[ci]? = some q) (hq1 : q.1 = y.cls) (hl : lv_has ls nL lv) (hn : As.length = n) (hst0 : st = As.reverse ++ .ref b :: rest) (hcat : (rest.map fun v => v.category).sum ≤ 8) (hdg : decode cc pc = .ok (.invokevirtual idx, 3))
    (hR : rm.frames + 1 ≤ R.frames ∧ 8 + (maxL + 11) + rm.locals ≤ R.locals) (hf : cells + rm.cells ≤ R.cells ∧ slots + rm.slots ≤ R.slots) :
    va_Run p l e R s m args below meth c H locs cells slots rm.cells rm.slots (F0 m pc ls st) rest (va_Qi post (qS dC dI (va_A wc H.size) w1) (va_A wc H.size) (Value.ref b :: As).toArray) (va_A wc H.size) :=
  rV (Qc := fun A => va_Qi post (qS dC dI A w1) A) X hst hex hM km kv lk hP hD hS hA isC hnd hC q0 hq hc hq1 hl hn hst0 hcat hdg hR hf
theorem rV_L {S : Type} {post : Int64 → S → Prop} {w1 : S → va_W} (X : fx p s m c cc nL args own dC dI cy ex0 A) (hst : stb ex) (hex : ∀ A U H, ex0 A U H → ex A U H) (hM : ctL l dC dI cy ex y bytes maxL rm (.ref b :: As) wc post w1) (km : mOK y bytes maxL (some .long) n) (kv : Cond.instanceMethod y ∈ wsU ∧ Cond.selects y.cls y y ∈ wsU) (lk : mLk own idx y) (hP : va_P (dC, dI) vwCl ws H) (hD : va_D A ws) (hS : va_S A s.heap H locs) (hA : ∀ q, s.heap.size ≤ q → A q) (isC : List Nat) (hnd : va_nd isC = true) (hC : isC.map (fun i => ws[i]?) = wc.map some) (q0 : Nat) {q : vw_C} (hq : wc[q0]? = some (b, .inr (ci, fs))) (hc : vwCl[ci]? = some q) (hq1 : q.1 = y.cls) (hl : lv_has ls nL lv) (hn : As.length = n) (hst0 : st = As.reverse ++ .ref b :: rest) (hcat : (rest.map fun v => v.category).sum ≤ 8) (hdg : decode cc pc = .ok (.invokevirtual idx, 3))
    (hR : rm.frames + 1 ≤ R.frames ∧ 8 + (maxL + 11) + rm.locals ≤ R.locals) (hf : cells + rm.cells ≤ R.cells ∧ slots + rm.slots ≤ R.slots) :
    va_Run p l e R s m args below meth c H locs cells slots rm.cells rm.slots (F0 m pc ls st) rest (va_Ql post (qS dC dI (va_A wc H.size) w1) (va_A wc H.size) (Value.ref b :: As).toArray) (va_A wc H.size) :=
  rV (Qc := fun A => va_Ql post (qS dC dI A w1) A) X hst hex hM km kv lk hP hD hS hA isC hnd hC q0 hq hc hq1 hl hn hst0 hcat hdg hR hf
theorem rV_V {S : Type} {post : S → Prop} {w1 : S → va_W} (X : fx p s m c cc nL args own dC dI cy ex0 A) (hst : stb ex) (hex : ∀ A U H, ex0 A U H → ex A U H) (hM : ctV l dC dI cy ex y bytes maxL rm (.ref b :: As) wc post w1) (km : mOK y bytes maxL none n) (kv : Cond.instanceMethod y ∈ wsU ∧ Cond.selects y.cls y y ∈ wsU) (lk : mLk own idx y) (hP : va_P (dC, dI) vwCl ws H) (hD : va_D A ws) (hS : va_S A s.heap H locs) (hA : ∀ q, s.heap.size ≤ q → A q) (isC : List Nat) (hnd : va_nd isC = true) (hC : isC.map (fun i => ws[i]?) = wc.map some) (q0 : Nat) {q : vw_C} (hq : wc[q0]? = some (b, .inr (ci, fs))) (hc : vwCl[ci]? = some q) (hq1 : q.1 = y.cls) (hl : lv_has ls nL lv) (hn : As.length = n) (hst0 : st = As.reverse ++ .ref b :: rest) (hcat : (rest.map fun v => v.category).sum ≤ 8) (hdg : decode cc pc = .ok (.invokevirtual idx, 3))
    (hR : rm.frames + 1 ≤ R.frames ∧ 8 + (maxL + 11) + rm.locals ≤ R.locals) (hf : cells + rm.cells ≤ R.cells ∧ slots + rm.slots ≤ R.slots) :
    va_Run p l e R s m args below meth c H locs cells slots rm.cells rm.slots (F0 m pc ls st) rest (va_Qv post (qS dC dI (va_A wc H.size) w1) (va_A wc H.size) (Value.ref b :: As).toArray) (va_A wc H.size) :=
  rV (Qc := fun A => va_Qv post (qS dC dI A w1) A) X hst hex hM km kv lk hP hD hS hA isC hnd hC q0 hq hc hq1 hl hn hst0 hcat hdg hR hf
theorem rS_I {S : Type} {post : Int32 → S → Prop} {w1 : S → va_W} {rt : FieldType} (X : fx p s m c cc nL args own dC dI cy ex0 A) (hst : stb ex) (hex : ∀ A U H, ex0 A U H → ex A U H) (hM : ctI l dC dI cy ex y bytes maxL rt rm As wc post w1) (km : mOK y bytes maxL (some rt) n) (kv : Cond.static y ∈ wsU) (lk : mLk own idx y) (hP : va_P (dC, dI) vwCl ws H) (hD : va_D A ws) (hS : va_S A s.heap H locs) (hA : ∀ q, s.heap.size ≤ q → A q) (isC : List Nat) (hnd : va_nd isC = true) (hC : isC.map (fun i => ws[i]?) = wc.map some) (hl : lv_has ls nL lv) (hn : As.length = n) (hst0 : st = As.reverse ++ rest) (hcat : (rest.map fun v => v.category).sum ≤ 8) (hdg : decode cc pc = .ok (.invokestatic idx, 3))
    (hR : rm.frames + 1 ≤ R.frames ∧ 8 + (maxL + 11) + rm.locals ≤ R.locals) (hf : cells + rm.cells ≤ R.cells ∧ slots + rm.slots ≤ R.slots) :
    va_Run p l e R s m args below meth c H locs cells slots rm.cells rm.slots (F0 m pc ls st) rest (va_Qi post (qS dC dI (va_A wc H.size) w1) (va_A wc H.size) As.toArray) (va_A wc H.size) :=
  rS (Qc := fun A => va_Qi post (qS dC dI A w1) A) X hst hex hM km kv lk hP hD hS hA isC hnd hC hl hn hst0 hcat hdg hR hf
theorem rS_L {S : Type} {post : Int64 → S → Prop} {w1 : S → va_W} (X : fx p s m c cc nL args own dC dI cy ex0 A) (hst : stb ex) (hex : ∀ A U H, ex0 A U H → ex A U H) (hM : ctL l dC dI cy ex y bytes maxL rm As wc post w1) (km : mOK y bytes maxL (some .long) n) (kv : Cond.static y ∈ wsU) (lk : mLk own idx y) (hP : va_P (dC, dI) vwCl ws H) (hD : va_D A ws) (hS : va_S A s.heap H locs) (hA : ∀ q, s.heap.size ≤ q → A q) (isC : List Nat) (hnd : va_nd isC = true) (hC : isC.map (fun i => ws[i]?) = wc.map some) (hl : lv_has ls nL lv) (hn : As.length = n) (hst0 : st = As.reverse ++ rest) (hcat : (rest.map fun v => v.category).sum ≤ 8) (hdg : decode cc pc = .ok (.invokestatic idx, 3))
    (hR : rm.frames + 1 ≤ R.frames ∧ 8 + (maxL + 11) + rm.locals ≤ R.locals) (hf : cells + rm.cells ≤ R.cells ∧ slots + rm.slots ≤ R.slots) :
    va_Run p l e R s m args below meth c H locs cells slots rm.cells rm.slots (F0 m pc ls st) rest (va_Ql post (qS dC dI (va_A wc H.size) w1) (va_A wc H.size) As.toArray) (va_A wc H.size) :=
  rS (Qc := fun A => va_Ql post (qS dC dI A w1) A) X hst hex hM km kv lk hP hD hS hA isC hnd hC hl hn hst0 hcat hdg hR hf
theorem rS_V {S : Type} {post : S → Prop} {w1 : S → va_W} (X : fx p s m c cc nL args own dC dI cy ex0 A) (hst : stb ex) (hex : ∀ A U H, ex0 A U H → ex A U H) (hM : ctV l dC dI cy ex y bytes maxL rm As wc post w1) (km : mOK y bytes maxL none n) (kv : Cond.static y ∈ wsU) (lk : mLk own idx y) (hP : va_P (dC, dI) vwCl ws H) (hD : va_D A ws) (hS : va_S A s.heap H locs) (hA : ∀ q, s.heap.size ≤ q → A q) (isC : List Nat) (hnd : va_nd isC = true) (hC : isC.map (fun i => ws[i]?) = wc.map some) (hl : lv_has ls nL lv) (hn : As.length = n) (hst0 : st = As.reverse ++ rest) (hcat : (rest.map fun v => v.category).sum ≤ 8) (hdg : decode cc pc = .ok (.invokestatic idx, 3))
    (hR : rm.frames + 1 ≤ R.frames ∧ 8 + (maxL + 11) + rm.locals ≤ R.locals) (hf : cells + rm.cells ≤ R.cells ∧ slots + rm.slots ≤ R.slots) :
    va_Run p l e R s m args below meth c H locs cells slots rm.cells rm.slots (F0 m pc ls st) rest (va_Qv post (qS dC dI (va_A wc H.size) w1) (va_A wc H.size) As.toArray) (va_A wc H.size) :=
  rS (Qc := fun A => va_Qv post (qS dC dI A w1) A) X hst hex hM km kv lk hP hD hS hA isC hnd hC hl hn hst0 hcat hdg hR hf
theorem rC_V {S : Type} {post : S → Prop} {w1 : S → va_W} (X : fx p s m c cc nL args own dC dI cy ex0 A) (hst : stb ex) (hex : ∀ A U H, ex0 A U H → ex A U H) (hM : ctV l dC dI cy ex y bytes maxL rm (.ref b :: As) wc post w1) (km : mOK y bytes maxL none n) (kv : Cond.instanceMethod y ∈ wsU) (hy1 : y.name = "<init>") (lk : mLk own idx y) (hP : va_P (dC, dI) vwCl ws H) (hD : va_D A ws) (hS : va_S A s.heap H locs) (hA : ∀ q, s.heap.size ≤ q → A q) (isC : List Nat) (hnd : va_nd isC = true) (hC : isC.map (fun i => ws[i]?) = wc.map some) (hl : lv_has ls nL lv) (hn : As.length = n) (hst0 : st = As.reverse ++ .ref b :: rest) (hcat : (rest.map fun v => v.category).sum ≤ 8) (hdg : decode cc pc = .ok (.invokespecial idx, 3))
    (hR : rm.frames + 1 ≤ R.frames ∧ 8 + (maxL + 11) + rm.locals ≤ R.locals) (hf : cells + rm.cells ≤ R.cells ∧ slots + rm.slots ≤ R.slots) :
    va_Run p l e R s m args below meth c H locs cells slots rm.cells rm.slots (F0 m pc ls st) rest (va_Qv post (qS dC dI (va_A wc H.size) w1) (va_A wc H.size) (Value.ref b :: As).toArray) (va_A wc H.size) :=
  rC (Qc := fun A => va_Qv post (qS dC dI A w1) A) X hst hex hM km kv hy1 lk hP hD hS hA isC hnd hC hl hn hst0 hcat hdg hR hf
/-- behind a call: the caller's other cells and the callee's world -/
theorem fI {S : Type} {post : Int32 → S → Prop} {w1 : S → va_W} {mc ms : Nat} {av : Array Value} (hr : va_Run p l e R s m args below meth c H locs cells slots mc ms (F0 m pc ls st) rest (va_Qi post (qS dC dI (va_A wc H.size) w1) (va_A wc H.size) av) (va_A wc H.size)) (hP : va_P (dC, dI) vwCl ws H) (hD : va_D A ws) (hS : va_S A s.heap H locs) (hA : ∀ q, s.heap.size ≤ q → A q) (isC isR : List Nat) (hC : isC.map (fun i => ws[i]?) = wc.map some) (hRr : isR.map (fun i => ws[i]?) = wr.map some) (hnd : va_nd isR = true) (hdis : ∀ i ∈ isR, i ∉ isC)
    (kk : ∀ (r : Int32) (u : S) (H1 : Heap) (locs1 : List Loc), post r u → va_P (dC, dI) vwCl (wr ++ w1 u) H1 → va_D A (wr ++ w1 u) → va_S A s.heap H1 locs1 → W p l e R s m args below meth c H1 locs1 (cells + mc) (slots + ms) Q (F0 m (pc + 3) ls (.int r :: rest))) : W p l e R s m args below meth c H locs cells slots Q (F0 m pc ls st) := by
  have hFc := va_free (wc := wc) hD hS hA isC hC
  refine va_calli hr hS (fun q _ h => hFc q h) hFc (fun r u t H1 locs1 ht hvm hw hB hz1 hk1 hS1 => ?_)
  obtain ⟨hP1, hD1⟩ := hB
  rw [ht] at hP1
  obtain ⟨hP2, hD2⟩ := va_join (wr := wr) (w1 := w1 u) hP hD isC isR hC hRr hnd hdis hk1 hFc hP1 hD1
  exact kk r u H1 locs1 hw hP2 hD2 hS1
theorem fL {S : Type} {post : Int64 → S → Prop} {w1 : S → va_W} {mc ms : Nat} {av : Array Value} (hr : va_Run p l e R s m args below meth c H locs cells slots mc ms (F0 m pc ls st) rest (va_Ql post (qS dC dI (va_A wc H.size) w1) (va_A wc H.size) av) (va_A wc H.size)) (hP : va_P (dC, dI) vwCl ws H) (hD : va_D A ws) (hS : va_S A s.heap H locs) (hA : ∀ q, s.heap.size ≤ q → A q) (isC isR : List Nat) (hC : isC.map (fun i => ws[i]?) = wc.map some) (hRr : isR.map (fun i => ws[i]?) = wr.map some) (hnd : va_nd isR = true) (hdis : ∀ i ∈ isR, i ∉ isC)
    (kk : ∀ (r : Int64) (u : S) (H1 : Heap) (locs1 : List Loc), post r u → va_P (dC, dI) vwCl (wr ++ w1 u) H1 → va_D A (wr ++ w1 u) → va_S A s.heap H1 locs1 → W p l e R s m args below meth c H1 locs1 (cells + mc) (slots + ms) Q (F0 m (pc + 3) ls (.long r :: rest))) : W p l e R s m args below meth c H locs cells slots Q (F0 m pc ls st) := by
  have hFc := va_free (wc := wc) hD hS hA isC hC
  refine va_calll hr hS (fun q _ h => hFc q h) hFc (fun r u t H1 locs1 ht hvm hw hB hz1 hk1 hS1 => ?_)
  obtain ⟨hP1, hD1⟩ := hB
  rw [ht] at hP1
  obtain ⟨hP2, hD2⟩ := va_join (wr := wr) (w1 := w1 u) hP hD isC isR hC hRr hnd hdis hk1 hFc hP1 hD1
  exact kk r u H1 locs1 hw hP2 hD2 hS1
theorem fV {S : Type} {post : S → Prop} {w1 : S → va_W} {mc ms : Nat} {av : Array Value} (hr : va_Run p l e R s m args below meth c H locs cells slots mc ms (F0 m pc ls st) rest (va_Qv post (qS dC dI (va_A wc H.size) w1) (va_A wc H.size) av) (va_A wc H.size)) (hP : va_P (dC, dI) vwCl ws H) (hD : va_D A ws) (hS : va_S A s.heap H locs) (hA : ∀ q, s.heap.size ≤ q → A q) (isC isR : List Nat) (hC : isC.map (fun i => ws[i]?) = wc.map some) (hRr : isR.map (fun i => ws[i]?) = wr.map some) (hnd : va_nd isR = true) (hdis : ∀ i ∈ isR, i ∉ isC)
    (kk : ∀ (u : S) (H1 : Heap) (locs1 : List Loc), post u → va_P (dC, dI) vwCl (wr ++ w1 u) H1 → va_D A (wr ++ w1 u) → va_S A s.heap H1 locs1 → W p l e R s m args below meth c H1 locs1 (cells + mc) (slots + ms) Q (F0 m (pc + 3) ls rest)) : W p l e R s m args below meth c H locs cells slots Q (F0 m pc ls st) := by
  have hFc := va_free (wc := wc) hD hS hA isC hC
  refine va_callv hr hS (fun q _ h => hFc q h) hFc (fun u t H1 locs1 ht hvm hw hB hz1 hk1 hS1 => ?_)
  obtain ⟨hP1, hD1⟩ := hB
  rw [ht] at hP1
  obtain ⟨hP2, hD2⟩ := va_join (wr := wr) (w1 := w1 u) hP hD isC isR hC hRr hnd hdis hk1 hFc hP1 hD1
  exact kk u H1 locs1 hw hP2 hD2 hS1
/-- a method's ends -/
theorem eI {S : Type} {post : Int32 → S → Prop} {w1 : S → va_W} {mc ms : Nat} {x : Int32} {ty : FieldType} (hQ : Q = MQ below (va_Qi post (qS dC dI A w1) A) args s mc ms A) (X : fx p s m c cc nL args own dC dI cy ex0 A9) (hr : meth.sig.returnType = some ty) (hlocks : meth.locks = false) (hP : va_P (dC, dI) vwCl ws H) (hD : va_D A ws) (hS : va_S A s.heap H locs) (u : S) (is : List Nat) (hnd : va_nd is = true) (hs : is.map (fun i => ws[i]?) = (w1 u).map some) (hn : narrow ty (.int x) = .int x) (hp : post x u) (hc : cells ≤ mc) (hsl : slots ≤ ms) (hdg : decode cc pc = .ok (.ireturn, 1)) :
    W p l e R s m args below meth c H locs cells slots Q (F0 m pc ls [.int x]) := by
  subst hQ
  have hP9 := hP.sub (ws' := w1 u) is (fm_of hs)
  have hD9 := hD.sub (ws' := w1 u) is hnd hs
  refine W.widen (k := mc) (n := ms) hc hsl ?_
  exact W.zret X.1 X.2.1 hr hn (fun t ht hW => ⟨⟨x, u, rfl, hp, by rw [ht]; exact hP9, hD9⟩, hS.F ht⟩) hS.2.2 hdg hlocks
theorem eL {S : Type} {post : Int64 → S → Prop} {w1 : S → va_W} {mc ms : Nat} {x : Int64} (hQ : Q = MQ below (va_Ql post (qS dC dI A w1) A) args s mc ms A) (X : fx p s m c cc nL args own dC dI cy ex0 A9) (hr : meth.sig.returnType = some .long) (hlocks : meth.locks = false) (hP : va_P (dC, dI) vwCl ws H) (hD : va_D A ws) (hS : va_S A s.heap H locs) (u : S) (is : List Nat) (hnd : va_nd is = true) (hs : is.map (fun i => ws[i]?) = (w1 u).map some) (hp : post x u) (hc : cells ≤ mc) (hsl : slots ≤ ms) (hdg : decode cc pc = .ok (.lreturn, 1)) :
    W p l e R s m args below meth c H locs cells slots Q (F0 m pc ls [.long x]) := by
  subst hQ
  have hP9 := hP.sub (ws' := w1 u) is (fm_of hs)
  have hD9 := hD.sub (ws' := w1 u) is hnd hs
  refine W.widen (k := mc) (n := ms) hc hsl ?_
  exact W.lret X.1 X.2.1 hr (fun t ht hW => ⟨⟨x, u, rfl, hp, by rw [ht]; exact hP9, hD9⟩, hS.F ht⟩) hS.2.2 hdg hlocks
theorem eV {S : Type} {post : S → Prop} {w1 : S → va_W} {mc ms : Nat} (hQ : Q = MQ below (va_Qv post (qS dC dI A w1) A) args s mc ms A) (X : fx p s m c cc nL args own dC dI cy ex0 A9) (hr : meth.sig.returnType = none) (hlocks : meth.locks = false) (hP : va_P (dC, dI) vwCl ws H) (hD : va_D A ws) (hS : va_S A s.heap H locs) (u : S) (is : List Nat) (hnd : va_nd is = true) (hs : is.map (fun i => ws[i]?) = (w1 u).map some) (hp : post u) (hc : cells ≤ mc) (hsl : slots ≤ ms) (hdg : decode cc pc = .ok (.return_, 1)) :
    W p l e R s m args below meth c H locs cells slots Q (F0 m pc ls []) := by
  subst hQ
  have hP9 := hP.sub (ws' := w1 u) is (fm_of hs)
  have hD9 := hD.sub (ws' := w1 u) is hnd hs
  refine W.widen (k := mc) (n := ms) hc hsl ?_
  exact W.vret X.1 X.2.1 hr (fun t ht hW => ⟨⟨u, rfl, hp, by rw [ht]; exact hP9, hD9⟩, hS.F ht⟩) hS.2.2 hdg hlocks
end Rows
/-- the same cells under another name of the row -/
theorem vPD {D : va_G} {cl : List vw_C} {A : Nat → Prop} {ws ws' : va_W} {H : Heap} (hP : va_P D cl ws H) (hD : va_D A ws) (e : ws = ws') : va_P D cl ws' H ∧ va_D A ws' := by
  subst e
  exact ⟨hP, hD⟩
theorem sl_ft {P : Prop} (h : false = true) : P := by cases h
/-- the cells at these places -/
def sl_W : List Nat → va_W → va_W
  | [], _ => []
  | i :: is, ws => (ws[i]?).toList ++ sl_W is ws
def sl_A : List Nat → va_W → Bool
  | [], _ => true
  | i :: is, ws => (ws[i]?).isSome && sl_A is ws
theorem sl_W_map : ∀ (is : List Nat) (ws : va_W), sl_A is ws = true → is.map (fun i => ws[i]?) = (sl_W is ws).map some
  | [], _, _ => rfl
  | i :: is, ws, h => by
    have h1 : ((ws[i]?).isSome && sl_A is ws) = true := h
    rw [Bool.and_eq_true] at h1
    have g := sl_W_map is ws h1.2
    show ws[i]? :: is.map (fun i => ws[i]?) = List.map some ((ws[i]?).toList ++ sl_W is ws)
    cases e : ws[i]? with
    | none =>
      rw [e] at h1
      exact sl_ft h1.1
    | some a => exact congrArg (List.cons (some a)) g
/-- the cells that a row of marks leaves -/
def sl_M : List Bool → va_W → va_W
  | [], _ => []
  | b :: mk, ws => match ws with
    | [] => []
    | a :: ws => match b with
      | true => a :: sl_M mk ws
      | false => sl_M mk ws
/-- as many marks as cells -/
def sl_L : List Bool → va_W → Bool
  | [], ws => match ws with
    | [] => true
    | _ :: _ => false
  | _ :: mk, ws => match ws with
    | [] => false
    | _ :: ws => sl_L mk ws
/-- these places aren't marked -/
def sl_C (mk : List Bool) : List Nat → Bool
  | [] => true
  | i :: is => (match mk[i]? with
    | some false => true
    | some true => false
    | none => false) && sl_C mk is
def sl_0 : Bool → List Nat
  | true => [0]
  | false => []
def sl_K : List Bool → List Nat
  | [] => []
  | b :: mk => sl_0 b ++ (sl_K mk).map (fun i => i + 1)
theorem sl_M_map : ∀ (mk : List Bool) (ws : va_W), sl_L mk ws = true → (sl_K mk).map (fun i => ws[i]?) = (sl_M mk ws).map some
  | [], _, _ => rfl
  | _ :: _, [], h => sl_ft h
  | b :: mk, a :: ws, h => by
    have g := sl_M_map mk ws h
    have e : ((sl_K mk).map (fun i => i + 1)).map (fun i => (a :: ws)[i]?) = (sl_M mk ws).map some := by
      rw [List.map_map]
      exact g
    cases b with
    | true => exact congrArg (List.cons (some a)) e
    | false => exact e
theorem sl_nd : ∀ is : List Nat, va_nd is = true → va_nd (is.map (fun i => i + 1)) = true
  | [], _ => rfl
  | a :: is, h => by
    rw [List.map_cons]
    simp only [va_nd, Bool.and_eq_true, decide_eq_true_eq] at h ⊢
    refine ⟨fun hm => ?_, sl_nd is h.2⟩
    obtain ⟨j, hj, e⟩ := List.mem_map.mp hm
    have e1 : j + 1 = a + 1 := e
    have e2 : j = a := by omega
    rw [e2] at hj
    exact h.1 hj
theorem sl_K_nd : ∀ mk : List Bool, va_nd (sl_K mk) = true
  | [] => rfl
  | b :: mk => by
    have g := sl_nd (sl_K mk) (sl_K_nd mk)
    cases b with
    | true =>
      show va_nd (0 :: (sl_K mk).map (fun i => i + 1)) = true
      simp only [va_nd, Bool.and_eq_true, decide_eq_true_eq]
      refine ⟨fun hm => ?_, g⟩
      obtain ⟨j, hj, e⟩ := List.mem_map.mp hm
      have e1 : j + 1 = 0 := e
      omega
    | false => exact g
theorem sl_K_mem : ∀ (mk : List Bool) (i : Nat), i ∈ sl_K mk → mk[i]? = some true
  | [], i, h => by
    have h3 : i ∈ ([] : List Nat) := h
    cases h3
  | b :: mk, i, h => by
    have h1 : i ∈ sl_0 b ++ (sl_K mk).map (fun i => i + 1) := h
    rcases List.mem_append.mp h1 with h2 | h2
    · cases b with
      | true =>
        have h3 : i ∈ [0] := h2
        have h4 := List.mem_singleton.mp h3
        subst h4
        rfl
      | false =>
        have h3 : i ∈ ([] : List Nat) := h2
        cases h3
    · obtain ⟨j, hj, e⟩ := List.mem_map.mp h2
      have e1 : j + 1 = i := e
      rw [← e1]
      exact sl_K_mem mk j hj
theorem sl_C_not {mk : List Bool} : ∀ is : List Nat, sl_C mk is = true → ∀ i ∈ is, mk[i]? = some false
  | [], _, i, h => by cases h
  | j :: is, hc, i, h => by
    have h1 : ((match mk[j]? with
      | some false => true
      | some true => false
      | none => false) && sl_C mk is) = true := hc
    rw [Bool.and_eq_true] at h1
    rcases List.mem_cons.mp h with e | e
    · rw [e]
      have h2 := h1.1
      cases z : mk[j]? with
      | none =>
        rw [z] at h2
        exact sl_ft h2
      | some b =>
        rw [z] at h2
        cases b with
        | true => exact sl_ft h2
        | false => rfl
    · exact sl_C_not is h1.2 i e
theorem sl_dis {mk : List Bool} {isC : List Nat} (h : sl_C mk isC = true) : ∀ i ∈ sl_K mk, i ∉ isC := fun i hi hc => by
  have h1 := sl_K_mem mk i hi
  rw [sl_C_not isC h i hc] at h1
  exact sl_ft (Option.some.inj h1)
section Pick
variable {p : Program} {l : Launch} {e : Env} {R : Room} {s : State} {m : MethodId} {args : Array Value} {below : List Frame} {meth : Method} {c : Code} {H : Heap} {locs : List Loc} {cells slots : Nat} {Q : State → Prop}
variable {pc : Nat} {ls : Array Slot} {rest st : List Value} {dC : Nat → ClassId} {dI : Nat → Nat → Nat} {A : Nat → Prop} {ws wc : va_W}
theorem sl_Ic {S : Type} {post : Int32 → S → Prop} {w1 : S → va_W} {mc ms : Nat} {av : Array Value} (hr : va_Run p l e R s m args below meth c H locs cells slots mc ms (F0 m pc ls st) rest (va_Qi post (qS dC dI (va_A wc H.size) w1) (va_A wc H.size) av) (va_A wc H.size)) (hP : va_P (dC, dI) vwCl ws H) (hD : va_D A ws) (hS : va_S A s.heap H locs) (hA : ∀ q, s.heap.size ≤ q → A q) (isC : List Nat) (mk : List Bool) (hC : isC.map (fun i => ws[i]?) = wc.map some) (hL : sl_L mk ws = true) (hK : sl_C mk isC = true)
    (kk : ∀ (r : Int32) (u : S) (H1 : Heap) (locs1 : List Loc), post r u → va_P (dC, dI) vwCl (sl_M mk ws ++ w1 u) H1 → va_D A (sl_M mk ws ++ w1 u) → va_S A s.heap H1 locs1 → W p l e R s m args below meth c H1 locs1 (cells + mc) (slots + ms) Q (F0 m (pc + 3) ls (.int r :: rest))) : W p l e R s m args below meth c H locs cells slots Q (F0 m pc ls st) :=
  fI hr hP hD hS hA isC (sl_K mk) hC (sl_M_map mk ws hL) (sl_K_nd mk) (sl_dis hK) kk
theorem sl_Lc {S : Type} {post : Int64 → S → Prop} {w1 : S → va_W} {mc ms : Nat} {av : Array Value} (hr : va_Run p l e R s m args below meth c H locs cells slots mc ms (F0 m pc ls st) rest (va_Ql post (qS dC dI (va_A wc H.size) w1) (va_A wc H.size) av) (va_A wc H.size)) (hP : va_P (dC, dI) vwCl ws H) (hD : va_D A ws) (hS : va_S A s.heap H locs) (hA : ∀ q, s.heap.size ≤ q → A q) (isC : List Nat) (mk : List Bool) (hC : isC.map (fun i => ws[i]?) = wc.map some) (hL : sl_L mk ws = true) (hK : sl_C mk isC = true)
    (kk : ∀ (r : Int64) (u : S) (H1 : Heap) (locs1 : List Loc), post r u → va_P (dC, dI) vwCl (sl_M mk ws ++ w1 u) H1 → va_D A (sl_M mk ws ++ w1 u) → va_S A s.heap H1 locs1 → W p l e R s m args below meth c H1 locs1 (cells + mc) (slots + ms) Q (F0 m (pc + 3) ls (.long r :: rest))) : W p l e R s m args below meth c H locs cells slots Q (F0 m pc ls st) :=
  fL hr hP hD hS hA isC (sl_K mk) hC (sl_M_map mk ws hL) (sl_K_nd mk) (sl_dis hK) kk
theorem sl_Vc {S : Type} {post : S → Prop} {w1 : S → va_W} {mc ms : Nat} {av : Array Value} (hr : va_Run p l e R s m args below meth c H locs cells slots mc ms (F0 m pc ls st) rest (va_Qv post (qS dC dI (va_A wc H.size) w1) (va_A wc H.size) av) (va_A wc H.size)) (hP : va_P (dC, dI) vwCl ws H) (hD : va_D A ws) (hS : va_S A s.heap H locs) (hA : ∀ q, s.heap.size ≤ q → A q) (isC : List Nat) (mk : List Bool) (hC : isC.map (fun i => ws[i]?) = wc.map some) (hL : sl_L mk ws = true) (hK : sl_C mk isC = true)
    (kk : ∀ (u : S) (H1 : Heap) (locs1 : List Loc), post u → va_P (dC, dI) vwCl (sl_M mk ws ++ w1 u) H1 → va_D A (sl_M mk ws ++ w1 u) → va_S A s.heap H1 locs1 → W p l e R s m args below meth c H1 locs1 (cells + mc) (slots + ms) Q (F0 m (pc + 3) ls rest)) : W p l e R s m args below meth c H locs cells slots Q (F0 m pc ls st) :=
  fV hr hP hD hS hA isC (sl_K mk) hC (sl_M_map mk ws hL) (sl_K_nd mk) (sl_dis hK) kk
end Pick
