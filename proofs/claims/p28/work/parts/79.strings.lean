theorem st_ex : ∀ q ∈ stL, Cond.exactly (.string q.1 q.2.1) "java/lang/String" ∈ flatC (Jvm.Cond.and given_1 narrow_1) := by decide +kernel
theorem st_co : ∀ q ∈ stL, Cond.eq (.field (.string q.1 q.2.1) "java/lang/String" "coder" "B") (.int 0) ∈ flatC (Jvm.Cond.and given_1 narrow_1) := by decide +kernel
theorem st_ar : ∀ q ∈ stL, Cond.arrayOf (.field (.string q.1 q.2.1) "java/lang/String" "value" "[B") .byte ∈ flatC (Jvm.Cond.and given_1 narrow_1) := by decide +kernel
theorem st_le : ∀ q ∈ stL, Cond.eq (.length (.field (.string q.1 q.2.1) "java/lang/String" "value" "[B")) (.int (Int32.ofNat q.2.2.length)) ∈ flatC (Jvm.Cond.and given_1 narrow_1) := by decide +kernel
theorem st_ln : ∀ q ∈ stL, q.2.2.length < 2 ^ 31 := by decide +kernel
theorem st_cs : Cond.eq (.static "java/lang/String" "COMPACT_STRINGS" "Z") (.int 1) ∈ flatC (Jvm.Cond.and given_1 narrow_1) := by decide +kernel
theorem st_sf : Cond.isRef (.static "jdk/internal/util/Preconditions" "SIOOBE_FORMATTER" "Ljava/util/function/BiFunction;") ∈ flatC (Jvm.Cond.and given_1 narrow_1) := by decide +kernel
theorem st_el_0 : ∀ j, j < 4 → Cond.eq (.elem (.field (.string "HahaLawn$Tape" 203) "java/lang/String" "value" "[B") (.int (Int32.ofNat j))) (.int (txB "park" j)) ∈ flatC (Jvm.Cond.and given_1 narrow_1) := by decide +kernel
theorem st_el_1 : ∀ j, j < 3 → Cond.eq (.elem (.field (.string "HahaLawn$Tape" 205) "java/lang/String" "value" "[B") (.int (Int32.ofNat j))) (.int (txB "row" j)) ∈ flatC (Jvm.Cond.and given_1 narrow_1) := by decide +kernel
theorem st_el_2 : ∀ j, j < 6 → Cond.eq (.elem (.field (.string "HahaLawn$Tape" 207) "java/lang/String" "value" "[B") (.int (Int32.ofNat j))) (.int (txB "walker" j)) ∈ flatC (Jvm.Cond.and given_1 narrow_1) := by decide +kernel
theorem st_el_3 : ∀ j, j < 4 → Cond.eq (.elem (.field (.string "HahaLawn$Tape" 209) "java/lang/String" "value" "[B") (.int (Int32.ofNat j))) (.int (txB "walk" j)) ∈ flatC (Jvm.Cond.and given_1 narrow_1) := by decide +kernel
theorem st_el_4 : ∀ j, j < 4 → Cond.eq (.elem (.field (.string "HahaLawn$Tape" 76) "java/lang/String" "value" "[B") (.int (Int32.ofNat j))) (.int (txB "wide" j)) ∈ flatC (Jvm.Cond.and given_1 narrow_1) := by decide +kernel
theorem st_el_5 : ∀ j, j < 4 → Cond.eq (.elem (.field (.string "HahaLawn$Tape" 89) "java/lang/String" "value" "[B") (.int (Int32.ofNat j))) (.int (txB "deep" j)) ∈ flatC (Jvm.Cond.and given_1 narrow_1) := by decide +kernel
theorem st_el_6 : ∀ j, j < 4 → Cond.eq (.elem (.field (.string "HahaLawn$Tape" 91) "java/lang/String" "value" "[B") (.int (Int32.ofNat j))) (.int (txB "errs" j)) ∈ flatC (Jvm.Cond.and given_1 narrow_1) := by decide +kernel
theorem st_el_7 : ∀ j, j < 5 → Cond.eq (.elem (.field (.string "HahaLawn$Tape" 95) "java/lang/String" "value" "[B") (.int (Int32.ofNat j))) (.int (txB "slips" j)) ∈ flatC (Jvm.Cond.and given_1 narrow_1) := by decide +kernel
theorem st_el_8 : ∀ j, j < 5 → Cond.eq (.elem (.field (.string "HahaLawn$Tape" 117) "java/lang/String" "value" "[B") (.int (Int32.ofNat j))) (.int (txB "odghu" j)) ∈ flatC (Jvm.Cond.and given_1 narrow_1) := by decide +kernel
theorem st_el_9 : ∀ j, j < 5 → Cond.eq (.elem (.field (.string "HahaLawn$Tape" 211) "java/lang/String" "value" "[B") (.int (Int32.ofNat j))) (.int (txB "guest" j)) ∈ flatC (Jvm.Cond.and given_1 narrow_1) := by decide +kernel
theorem st_el_10 : ∀ j, j < 5 → Cond.eq (.elem (.field (.string "HahaLawn$Tape" 213) "java/lang/String" "value" "[B") (.int (Int32.ofNat j))) (.int (txB "child" j)) ∈ flatC (Jvm.Cond.and given_1 narrow_1) := by decide +kernel
theorem st_el_11 : ∀ j, j < 7 → Cond.eq (.elem (.field (.string "HahaLawn$Tape" 215) "java/lang/String" "value" "[B") (.int (Int32.ofNat j))) (.int (txB "colonel" j)) ∈ flatC (Jvm.Cond.and given_1 narrow_1) := by decide +kernel
theorem st_el_12 : ∀ j, j < 6 → Cond.eq (.elem (.field (.string "HahaLawn$Tape" 217) "java/lang/String" "value" "[B") (.int (Int32.ofNat j))) (.int (txB "keeper" j)) ∈ flatC (Jvm.Cond.and given_1 narrow_1) := by decide +kernel
theorem st_el_13 : ∀ j, j < 2 → Cond.eq (.elem (.field (.string "HahaLawn$Tape" 152) "java/lang/String" "value" "[B") (.int (Int32.ofNat j))) (.int (txB "at" j)) ∈ flatC (Jvm.Cond.and given_1 narrow_1) := by decide +kernel
theorem st_el_14 : ∀ j, j < 2 → Cond.eq (.elem (.field (.string "HahaLawn$Tape" 161) "java/lang/String" "value" "[B") (.int (Int32.ofNat j))) (.int (txB "to" j)) ∈ flatC (Jvm.Cond.and given_1 narrow_1) := by decide +kernel
theorem st_el_15 : ∀ j, j < 5 → Cond.eq (.elem (.field (.string "HahaLawn$Tape" 179) "java/lang/String" "value" "[B") (.int (Int32.ofNat j))) (.int (txB "steps" j)) ∈ flatC (Jvm.Cond.and given_1 narrow_1) := by decide +kernel
theorem st_el_16 : ∀ j, j < 4 → Cond.eq (.elem (.field (.string "HahaLawn$Tape" 181) "java/lang/String" "value" "[B") (.int (Int32.ofNat j))) (.int (txB "fell" j)) ∈ flatC (Jvm.Cond.and given_1 narrow_1) := by decide +kernel
theorem st_el_17 : ∀ j, j < 3 → Cond.eq (.elem (.field (.string "HahaLawn$Tape" 186) "java/lang/String" "value" "[B") (.int (Int32.ofNat j))) (.int (txB "dry" j)) ∈ flatC (Jvm.Cond.and given_1 narrow_1) := by decide +kernel
theorem st_el_18 : ∀ j, j < 4 → Cond.eq (.elem (.field (.string "HahaLawnModel" 139) "java/lang/String" "value" "[B") (.int (Int32.ofNat j))) (.int (txB "park" j)) ∈ flatC (Jvm.Cond.and given_1 narrow_1) := by decide +kernel
theorem st_el_19 : ∀ j, j < 4 → Cond.eq (.elem (.field (.string "HahaLawnModel" 181) "java/lang/String" "value" "[B") (.int (Int32.ofNat j))) (.int (txB "wide" j)) ∈ flatC (Jvm.Cond.and given_1 narrow_1) := by decide +kernel
theorem st_el_20 : ∀ j, j < 4 → Cond.eq (.elem (.field (.string "HahaLawnModel" 186) "java/lang/String" "value" "[B") (.int (Int32.ofNat j))) (.int (txB "deep" j)) ∈ flatC (Jvm.Cond.and given_1 narrow_1) := by decide +kernel
theorem st_el_21 : ∀ j, j < 4 → Cond.eq (.elem (.field (.string "HahaLawnModel" 187) "java/lang/String" "value" "[B") (.int (Int32.ofNat j))) (.int (txB "errs" j)) ∈ flatC (Jvm.Cond.and given_1 narrow_1) := by decide +kernel
theorem st_el_22 : ∀ j, j < 5 → Cond.eq (.elem (.field (.string "HahaLawnModel" 189) "java/lang/String" "value" "[B") (.int (Int32.ofNat j))) (.int (txB "slips" j)) ∈ flatC (Jvm.Cond.and given_1 narrow_1) := by decide +kernel
theorem st_el_23 : ∀ j, j < 3 → Cond.eq (.elem (.field (.string "HahaLawnModel" 141) "java/lang/String" "value" "[B") (.int (Int32.ofNat j))) (.int (txB "row" j)) ∈ flatC (Jvm.Cond.and given_1 narrow_1) := by decide +kernel
theorem st_el_24 : ∀ j, j < 6 → Cond.eq (.elem (.field (.string "HahaLawnModel" 143) "java/lang/String" "value" "[B") (.int (Int32.ofNat j))) (.int (txB "walker" j)) ∈ flatC (Jvm.Cond.and given_1 narrow_1) := by decide +kernel
theorem st_el_25 : ∀ j, j < 4 → Cond.eq (.elem (.field (.string "HahaLawnModel" 145) "java/lang/String" "value" "[B") (.int (Int32.ofNat j))) (.int (txB "walk" j)) ∈ flatC (Jvm.Cond.and given_1 narrow_1) := by decide +kernel
theorem st_el_26 : ∀ j, j < 5 → Cond.eq (.elem (.field (.string "HahaLawnModel" 219) "java/lang/String" "value" "[B") (.int (Int32.ofNat j))) (.int (txB "guest" j)) ∈ flatC (Jvm.Cond.and given_1 narrow_1) := by decide +kernel
theorem st_el_27 : ∀ j, j < 5 → Cond.eq (.elem (.field (.string "HahaLawnModel" 221) "java/lang/String" "value" "[B") (.int (Int32.ofNat j))) (.int (txB "child" j)) ∈ flatC (Jvm.Cond.and given_1 narrow_1) := by decide +kernel
theorem st_el_28 : ∀ j, j < 7 → Cond.eq (.elem (.field (.string "HahaLawnModel" 223) "java/lang/String" "value" "[B") (.int (Int32.ofNat j))) (.int (txB "colonel" j)) ∈ flatC (Jvm.Cond.and given_1 narrow_1) := by decide +kernel
theorem st_el_29 : ∀ j, j < 6 → Cond.eq (.elem (.field (.string "HahaLawnModel" 225) "java/lang/String" "value" "[B") (.int (Int32.ofNat j))) (.int (txB "keeper" j)) ∈ flatC (Jvm.Cond.and given_1 narrow_1) := by decide +kernel
theorem st_el_30 : ∀ j, j < 2 → Cond.eq (.elem (.field (.string "HahaLawnModel" 227) "java/lang/String" "value" "[B") (.int (Int32.ofNat j))) (.int (txB "at" j)) ∈ flatC (Jvm.Cond.and given_1 narrow_1) := by decide +kernel
theorem st_el_31 : ∀ j, j < 2 → Cond.eq (.elem (.field (.string "HahaLawnModel" 232) "java/lang/String" "value" "[B") (.int (Int32.ofNat j))) (.int (txB "to" j)) ∈ flatC (Jvm.Cond.and given_1 narrow_1) := by decide +kernel
theorem st_el_32 : ∀ j, j < 5 → Cond.eq (.elem (.field (.string "HahaLawnModel" 248) "java/lang/String" "value" "[B") (.int (Int32.ofNat j))) (.int (txB "steps" j)) ∈ flatC (Jvm.Cond.and given_1 narrow_1) := by decide +kernel
theorem st_el_33 : ∀ j, j < 4 → Cond.eq (.elem (.field (.string "HahaLawnModel" 250) "java/lang/String" "value" "[B") (.int (Int32.ofNat j))) (.int (txB "fell" j)) ∈ flatC (Jvm.Cond.and given_1 narrow_1) := by decide +kernel
theorem st_el_34 : ∀ j, j < 3 → Cond.eq (.elem (.field (.string "HahaLawnModel" 252) "java/lang/String" "value" "[B") (.int (Int32.ofNat j))) (.int (txB "dry" j)) ∈ flatC (Jvm.Cond.and given_1 narrow_1) := by decide +kernel
theorem st_el : ∀ q ∈ stL, ∀ j, j < q.2.2.length → Cond.eq (.elem (.field (.string q.1 q.2.1) "java/lang/String" "value" "[B") (.int (Int32.ofNat j))) (.int (txB q.2.2 j)) ∈ flatC (Jvm.Cond.and given_1 narrow_1) := by
  intro q hq
  rcases List.mem_cons.mp hq with rfl | hq
  · exact st_el_0
  rcases List.mem_cons.mp hq with rfl | hq
  · exact st_el_1
  rcases List.mem_cons.mp hq with rfl | hq
  · exact st_el_2
  rcases List.mem_cons.mp hq with rfl | hq
  · exact st_el_3
  rcases List.mem_cons.mp hq with rfl | hq
  · exact st_el_4
  rcases List.mem_cons.mp hq with rfl | hq
  · exact st_el_5
  rcases List.mem_cons.mp hq with rfl | hq
  · exact st_el_6
  rcases List.mem_cons.mp hq with rfl | hq
  · exact st_el_7
  rcases List.mem_cons.mp hq with rfl | hq
  · exact st_el_8
  rcases List.mem_cons.mp hq with rfl | hq
  · exact st_el_9
  rcases List.mem_cons.mp hq with rfl | hq
  · exact st_el_10
  rcases List.mem_cons.mp hq with rfl | hq
  · exact st_el_11
  rcases List.mem_cons.mp hq with rfl | hq
  · exact st_el_12
  rcases List.mem_cons.mp hq with rfl | hq
  · exact st_el_13
  rcases List.mem_cons.mp hq with rfl | hq
  · exact st_el_14
  rcases List.mem_cons.mp hq with rfl | hq
  · exact st_el_15
  rcases List.mem_cons.mp hq with rfl | hq
  · exact st_el_16
  rcases List.mem_cons.mp hq with rfl | hq
  · exact st_el_17
  rcases List.mem_cons.mp hq with rfl | hq
  · exact st_el_18
  rcases List.mem_cons.mp hq with rfl | hq
  · exact st_el_19
  rcases List.mem_cons.mp hq with rfl | hq
  · exact st_el_20
  rcases List.mem_cons.mp hq with rfl | hq
  · exact st_el_21
  rcases List.mem_cons.mp hq with rfl | hq
  · exact st_el_22
  rcases List.mem_cons.mp hq with rfl | hq
  · exact st_el_23
  rcases List.mem_cons.mp hq with rfl | hq
  · exact st_el_24
  rcases List.mem_cons.mp hq with rfl | hq
  · exact st_el_25
  rcases List.mem_cons.mp hq with rfl | hq
  · exact st_el_26
  rcases List.mem_cons.mp hq with rfl | hq
  · exact st_el_27
  rcases List.mem_cons.mp hq with rfl | hq
  · exact st_el_28
  rcases List.mem_cons.mp hq with rfl | hq
  · exact st_el_29
  rcases List.mem_cons.mp hq with rfl | hq
  · exact st_el_30
  rcases List.mem_cons.mp hq with rfl | hq
  · exact st_el_31
  rcases List.mem_cons.mp hq with rfl | hq
  · exact st_el_32
  rcases List.mem_cons.mp hq with rfl | hq
  · exact st_el_33
  rcases List.mem_cons.mp hq with rfl | hq
  · exact st_el_34
  cases hq
