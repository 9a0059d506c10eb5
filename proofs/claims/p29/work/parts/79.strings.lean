def sNF (q : String × Nat × String) : List Jvm.Cond := [Cond.exactly (.string q.1 q.2.1) "java/lang/String", Cond.eq (.field (.string q.1 q.2.1) "java/lang/String" "coder" "B") (.int 0), Cond.arrayOf (.field (.string q.1 q.2.1) "java/lang/String" "value" "[B") .byte, Cond.eq (.length (.field (.string q.1 q.2.1) "java/lang/String" "value" "[B")) (.int (Int32.ofNat q.2.2.length))] ++ (List.range q.2.2.length).map (fun j => Cond.eq (.elem (.field (.string q.1 q.2.1) "java/lang/String" "value" "[B") (.int (Int32.ofNat j))) (.int (txB q.2.2 j)))
def sNO (c : Jvm.Cond) : Bool := match c with
  | .eq (.string _ _) _ => false
  | _ => true
theorem sN_all : stL.flatMap sNF = ((flatC (Jvm.Cond.and given_1 narrow_1)).drop 54).filter sNO := by decide +kernel
theorem sN_in {q : String × Nat × String} (hq : q ∈ stL) {c : Jvm.Cond} (h : c ∈ sNF q) : c ∈ flatC (Jvm.Cond.and given_1 narrow_1) := by
  have h2 : c ∈ stL.flatMap sNF := List.mem_flatMap.mpr ⟨q, hq, h⟩
  rw [sN_all] at h2
  exact List.mem_of_mem_drop (List.mem_filter.mp h2).1
theorem st_ex : ∀ q ∈ stL, Cond.exactly (.string q.1 q.2.1) "java/lang/String" ∈ flatC (Jvm.Cond.and given_1 narrow_1) := fun q hq => sN_in hq (List.mem_append_left _ (List.Mem.head _))
theorem st_co : ∀ q ∈ stL, Cond.eq (.field (.string q.1 q.2.1) "java/lang/String" "coder" "B") (.int 0) ∈ flatC (Jvm.Cond.and given_1 narrow_1) := fun q hq => sN_in hq (List.mem_append_left _ (List.Mem.tail _ (List.Mem.head _)))
theorem st_ar : ∀ q ∈ stL, Cond.arrayOf (.field (.string q.1 q.2.1) "java/lang/String" "value" "[B") .byte ∈ flatC (Jvm.Cond.and given_1 narrow_1) := fun q hq => sN_in hq (List.mem_append_left _ (List.Mem.tail _ (List.Mem.tail _ (List.Mem.head _))))
theorem st_le : ∀ q ∈ stL, Cond.eq (.length (.field (.string q.1 q.2.1) "java/lang/String" "value" "[B")) (.int (Int32.ofNat q.2.2.length)) ∈ flatC (Jvm.Cond.and given_1 narrow_1) := fun q hq => sN_in hq (List.mem_append_left _ (List.Mem.tail _ (List.Mem.tail _ (List.Mem.tail _ (List.Mem.head _)))))
theorem st_ln : ∀ q ∈ stL, q.2.2.length < 2 ^ 31 := by decide +kernel
theorem st_cs : Cond.eq (.static "java/lang/String" "COMPACT_STRINGS" "Z") (.int 1) ∈ flatC (Jvm.Cond.and given_1 narrow_1) := by decide +kernel
theorem st_sf : Cond.isRef (.static "jdk/internal/util/Preconditions" "SIOOBE_FORMATTER" "Ljava/util/function/BiFunction;") ∈ flatC (Jvm.Cond.and given_1 narrow_1) := by decide +kernel
theorem st_el : ∀ q ∈ stL, ∀ j, j < q.2.2.length → Cond.eq (.elem (.field (.string q.1 q.2.1) "java/lang/String" "value" "[B") (.int (Int32.ofNat j))) (.int (txB q.2.2 j)) ∈ flatC (Jvm.Cond.and given_1 narrow_1) := fun q hq j hj => sN_in hq (List.mem_append_right _ (List.mem_map.mpr ⟨j, List.mem_range.mpr hj, rfl⟩))
