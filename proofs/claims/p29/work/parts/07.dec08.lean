theorem dzbX4_timeOntoDitch_2 : dzB cX4_timeOntoDitch 2 [160, 0, 6, 16, 254, 172, 26, 5, 159, 0, 13, 27, 4, 159, 0, 8, 27, 6, 160, 0, 5, 4, 172, 26] := by decide +kernel
theorem dX4_timeOntoDitch_2 : decode cX4_timeOntoDitch 2 = .ok (.if_icmp .ne 6, 3) := dz4 dzo160 0 0 6 6 rfl dzbX4_timeOntoDitch_2 rfl
theorem dX4_timeOntoDitch_5 : decode cX4_timeOntoDitch 5 = .ok (.bipush (-2), 2) := dz3 dzo16 3 254 (-2) rfl dzbX4_timeOntoDitch_2 rfl
theorem dX4_timeOntoDitch_7 : decode cX4_timeOntoDitch 7 = .ok (.ireturn, 1) := dz0 dzo172 5 dzbX4_timeOntoDitch_2 rfl
theorem dX4_timeOntoDitch_8 : decode cX4_timeOntoDitch 8 = .ok (.iload_n 0, 1) := dz0 dzo26 6 dzbX4_timeOntoDitch_2 rfl
theorem dX4_timeOntoDitch_9 : decode cX4_timeOntoDitch 9 = .ok (.iconst 2, 1) := dz0 dzo5 7 dzbX4_timeOntoDitch_2 rfl
theorem dX4_timeOntoDitch_10 : decode cX4_timeOntoDitch 10 = .ok (.if_icmp .eq 13, 3) := dz4 dzo159 8 0 13 13 rfl dzbX4_timeOntoDitch_2 rfl
theorem dX4_timeOntoDitch_13 : decode cX4_timeOntoDitch 13 = .ok (.iload_n 1, 1) := dz0 dzo27 11 dzbX4_timeOntoDitch_2 rfl
theorem dX4_timeOntoDitch_14 : decode cX4_timeOntoDitch 14 = .ok (.iconst 1, 1) := dz0 dzo4 12 dzbX4_timeOntoDitch_2 rfl
theorem dX4_timeOntoDitch_15 : decode cX4_timeOntoDitch 15 = .ok (.if_icmp .eq 8, 3) := dz4 dzo159 13 0 8 8 rfl dzbX4_timeOntoDitch_2 rfl
theorem dX4_timeOntoDitch_18 : decode cX4_timeOntoDitch 18 = .ok (.iload_n 1, 1) := dz0 dzo27 16 dzbX4_timeOntoDitch_2 rfl
theorem dX4_timeOntoDitch_19 : decode cX4_timeOntoDitch 19 = .ok (.iconst 3, 1) := dz0 dzo6 17 dzbX4_timeOntoDitch_2 rfl
theorem dX4_timeOntoDitch_20 : decode cX4_timeOntoDitch 20 = .ok (.if_icmp .ne 5, 3) := dz4 dzo160 18 0 5 5 rfl dzbX4_timeOntoDitch_2 rfl
theorem dX4_timeOntoDitch_23 : decode cX4_timeOntoDitch 23 = .ok (.iconst 1, 1) := dz0 dzo4 21 dzbX4_timeOntoDitch_2 rfl
theorem dX4_timeOntoDitch_24 : decode cX4_timeOntoDitch 24 = .ok (.ireturn, 1) := dz0 dzo172 22 dzbX4_timeOntoDitch_2 rfl
theorem dX4_timeOntoDitch_25 : decode cX4_timeOntoDitch 25 = .ok (.iload_n 0, 1) := dz0 dzo26 23 dzbX4_timeOntoDitch_2 rfl
theorem dzbX4_timeOntoDitch_26 : dzB cX4_timeOntoDitch 26 [6, 160, 0, 14, 27, 5, 160, 0, 7, 5, 167, 0, 4, 7, 172, 27, 5, 160, 0, 7, 6, 167, 0, 5] := by decide +kernel
theorem dX4_timeOntoDitch_26 : decode cX4_timeOntoDitch 26 = .ok (.iconst 3, 1) := dz0 dzo6 0 dzbX4_timeOntoDitch_26 rfl
theorem dX4_timeOntoDitch_27 : decode cX4_timeOntoDitch 27 = .ok (.if_icmp .ne 14, 3) := dz4 dzo160 1 0 14 14 rfl dzbX4_timeOntoDitch_26 rfl
theorem dX4_timeOntoDitch_30 : decode cX4_timeOntoDitch 30 = .ok (.iload_n 1, 1) := dz0 dzo27 4 dzbX4_timeOntoDitch_26 rfl
theorem dX4_timeOntoDitch_31 : decode cX4_timeOntoDitch 31 = .ok (.iconst 2, 1) := dz0 dzo5 5 dzbX4_timeOntoDitch_26 rfl
theorem dX4_timeOntoDitch_32 : decode cX4_timeOntoDitch 32 = .ok (.if_icmp .ne 7, 3) := dz4 dzo160 6 0 7 7 rfl dzbX4_timeOntoDitch_26 rfl
theorem dX4_timeOntoDitch_35 : decode cX4_timeOntoDitch 35 = .ok (.iconst 2, 1) := dz0 dzo5 9 dzbX4_timeOntoDitch_26 rfl
theorem dX4_timeOntoDitch_36 : decode cX4_timeOntoDitch 36 = .ok (.goto 4, 3) := dz4 dzo167 10 0 4 4 rfl dzbX4_timeOntoDitch_26 rfl
theorem dX4_timeOntoDitch_39 : decode cX4_timeOntoDitch 39 = .ok (.iconst 4, 1) := dz0 dzo7 13 dzbX4_timeOntoDitch_26 rfl
theorem dX4_timeOntoDitch_40 : decode cX4_timeOntoDitch 40 = .ok (.ireturn, 1) := dz0 dzo172 14 dzbX4_timeOntoDitch_26 rfl
theorem dX4_timeOntoDitch_41 : decode cX4_timeOntoDitch 41 = .ok (.iload_n 1, 1) := dz0 dzo27 15 dzbX4_timeOntoDitch_26 rfl
theorem dX4_timeOntoDitch_42 : decode cX4_timeOntoDitch 42 = .ok (.iconst 2, 1) := dz0 dzo5 16 dzbX4_timeOntoDitch_26 rfl
theorem dX4_timeOntoDitch_43 : decode cX4_timeOntoDitch 43 = .ok (.if_icmp .ne 7, 3) := dz4 dzo160 17 0 7 7 rfl dzbX4_timeOntoDitch_26 rfl
theorem dX4_timeOntoDitch_46 : decode cX4_timeOntoDitch 46 = .ok (.iconst 3, 1) := dz0 dzo6 20 dzbX4_timeOntoDitch_26 rfl
theorem dX4_timeOntoDitch_47 : decode cX4_timeOntoDitch 47 = .ok (.goto 5, 3) := dz4 dzo167 21 0 5 5 rfl dzbX4_timeOntoDitch_26 rfl
theorem dzbX4_timeOntoDitch_50 : dzB cX4_timeOntoDitch 50 [16, 254, 172] := by decide +kernel
theorem dX4_timeOntoDitch_50 : decode cX4_timeOntoDitch 50 = .ok (.bipush (-2), 2) := dz3 dzo16 0 254 (-2) rfl dzbX4_timeOntoDitch_50 rfl
theorem dX4_timeOntoDitch_52 : decode cX4_timeOntoDitch 52 = .ok (.ireturn, 1) := dz0 dzo172 2 dzbX4_timeOntoDitch_50 rfl
theorem dzbX4_timeOutOfDitch_0 : dzB cX4_timeOutOfDitch 0 [26, 5, 159, 0, 8, 27, 5, 159, 0, 5, 4, 172, 26, 6, 160, 0, 7, 7, 167, 0, 5, 16, 254, 172] := by decide +kernel
theorem dX4_timeOutOfDitch_0 : decode cX4_timeOutOfDitch 0 = .ok (.iload_n 0, 1) := dz0 dzo26 0 dzbX4_timeOutOfDitch_0 rfl
theorem dX4_timeOutOfDitch_1 : decode cX4_timeOutOfDitch 1 = .ok (.iconst 2, 1) := dz0 dzo5 1 dzbX4_timeOutOfDitch_0 rfl
theorem dX4_timeOutOfDitch_2 : decode cX4_timeOutOfDitch 2 = .ok (.if_icmp .eq 8, 3) := dz4 dzo159 2 0 8 8 rfl dzbX4_timeOutOfDitch_0 rfl
theorem dX4_timeOutOfDitch_5 : decode cX4_timeOutOfDitch 5 = .ok (.iload_n 1, 1) := dz0 dzo27 5 dzbX4_timeOutOfDitch_0 rfl
theorem dX4_timeOutOfDitch_6 : decode cX4_timeOutOfDitch 6 = .ok (.iconst 2, 1) := dz0 dzo5 6 dzbX4_timeOutOfDitch_0 rfl
theorem dX4_timeOutOfDitch_7 : decode cX4_timeOutOfDitch 7 = .ok (.if_icmp .eq 5, 3) := dz4 dzo159 7 0 5 5 rfl dzbX4_timeOutOfDitch_0 rfl
theorem dX4_timeOutOfDitch_10 : decode cX4_timeOutOfDitch 10 = .ok (.iconst 1, 1) := dz0 dzo4 10 dzbX4_timeOutOfDitch_0 rfl
theorem dX4_timeOutOfDitch_11 : decode cX4_timeOutOfDitch 11 = .ok (.ireturn, 1) := dz0 dzo172 11 dzbX4_timeOutOfDitch_0 rfl
theorem dX4_timeOutOfDitch_12 : decode cX4_timeOutOfDitch 12 = .ok (.iload_n 0, 1) := dz0 dzo26 12 dzbX4_timeOutOfDitch_0 rfl
theorem dX4_timeOutOfDitch_13 : decode cX4_timeOutOfDitch 13 = .ok (.iconst 3, 1) := dz0 dzo6 13 dzbX4_timeOutOfDitch_0 rfl
theorem dX4_timeOutOfDitch_14 : decode cX4_timeOutOfDitch 14 = .ok (.if_icmp .ne 7, 3) := dz4 dzo160 14 0 7 7 rfl dzbX4_timeOutOfDitch_0 rfl
theorem dX4_timeOutOfDitch_17 : decode cX4_timeOutOfDitch 17 = .ok (.iconst 4, 1) := dz0 dzo7 17 dzbX4_timeOutOfDitch_0 rfl
theorem dX4_timeOutOfDitch_18 : decode cX4_timeOutOfDitch 18 = .ok (.goto 5, 3) := dz4 dzo167 18 0 5 5 rfl dzbX4_timeOutOfDitch_0 rfl
theorem dX4_timeOutOfDitch_21 : decode cX4_timeOutOfDitch 21 = .ok (.bipush (-2), 2) := dz3 dzo16 21 254 (-2) rfl dzbX4_timeOutOfDitch_0 rfl
theorem dX4_timeOutOfDitch_23 : decode cX4_timeOutOfDitch 23 = .ok (.ireturn, 1) := dz0 dzo172 23 dzbX4_timeOutOfDitch_0 rfl
theorem dzbX5_best_0 : dzB cX5_best 0 [42, 182, 0, 51, 154, 0, 6, 16, 254, 172, 16, 254, 61, 16, 33, 62, 3, 54, 4, 21, 4, 27] := by decide +kernel
theorem dX5_best_0 : decode cX5_best 0 = .ok (.aload_n 0, 1) := dz0 dzo42 0 dzbX5_best_0 rfl
theorem dX5_best_1 : decode cX5_best 1 = .ok (.invokevirtual 51, 3) := dz2 dzo182 1 0 51 dzbX5_best_0 rfl
theorem dX5_best_4 : decode cX5_best 4 = .ok (.ifCond .ne 6, 3) := dz4 dzo154 4 0 6 6 rfl dzbX5_best_0 rfl
theorem dX5_best_7 : decode cX5_best 7 = .ok (.bipush (-2), 2) := dz3 dzo16 7 254 (-2) rfl dzbX5_best_0 rfl
theorem dX5_best_9 : decode cX5_best 9 = .ok (.ireturn, 1) := dz0 dzo172 9 dzbX5_best_0 rfl
theorem dX5_best_10 : decode cX5_best 10 = .ok (.bipush (-2), 2) := dz3 dzo16 10 254 (-2) rfl dzbX5_best_0 rfl
theorem dX5_best_12 : decode cX5_best 12 = .ok (.istore_n 2, 1) := dz0 dzo61 12 dzbX5_best_0 rfl
theorem dX5_best_13 : decode cX5_best 13 = .ok (.bipush 33, 2) := dz3 dzo16 13 33 33 rfl dzbX5_best_0 rfl
theorem dX5_best_15 : decode cX5_best 15 = .ok (.istore_n 3, 1) := dz0 dzo62 15 dzbX5_best_0 rfl
theorem dX5_best_16 : decode cX5_best 16 = .ok (.iconst 0, 1) := dz0 dzo3 16 dzbX5_best_0 rfl
theorem dX5_best_17 : decode cX5_best 17 = .ok (.istore 4, 2) := dz1 dzo54 17 4 dzbX5_best_0 rfl
theorem dX5_best_19 : decode cX5_best 19 = .ok (.iload 4, 2) := dz1 dzo21 19 4 dzbX5_best_0 rfl
theorem dX5_best_21 : decode cX5_best 21 = .ok (.iload_n 1, 1) := dz0 dzo27 21 dzbX5_best_0 rfl
theorem dzbX5_best_22 : dzB cX5_best 22 [162, 0, 29, 42, 21, 4, 182, 0, 61, 54, 5, 21, 5, 29, 162, 0, 9, 21, 5, 62, 21, 4, 61] := by decide +kernel
theorem dX5_best_22 : decode cX5_best 22 = .ok (.if_icmp .ge 29, 3) := dz4 dzo162 0 0 29 29 rfl dzbX5_best_22 rfl
theorem dX5_best_25 : decode cX5_best 25 = .ok (.aload_n 0, 1) := dz0 dzo42 3 dzbX5_best_22 rfl
theorem dX5_best_26 : decode cX5_best 26 = .ok (.iload 4, 2) := dz1 dzo21 4 4 dzbX5_best_22 rfl
theorem dX5_best_28 : decode cX5_best 28 = .ok (.invokevirtual 61, 3) := dz2 dzo182 6 0 61 dzbX5_best_22 rfl
theorem dX5_best_31 : decode cX5_best 31 = .ok (.istore 5, 2) := dz1 dzo54 9 5 dzbX5_best_22 rfl
theorem dX5_best_33 : decode cX5_best 33 = .ok (.iload 5, 2) := dz1 dzo21 11 5 dzbX5_best_22 rfl
theorem dX5_best_35 : decode cX5_best 35 = .ok (.iload_n 3, 1) := dz0 dzo29 13 dzbX5_best_22 rfl
theorem dX5_best_36 : decode cX5_best 36 = .ok (.if_icmp .ge 9, 3) := dz4 dzo162 14 0 9 9 rfl dzbX5_best_22 rfl
theorem dX5_best_39 : decode cX5_best 39 = .ok (.iload 5, 2) := dz1 dzo21 17 5 dzbX5_best_22 rfl
theorem dX5_best_41 : decode cX5_best 41 = .ok (.istore_n 3, 1) := dz0 dzo62 19 dzbX5_best_22 rfl
theorem dX5_best_42 : decode cX5_best 42 = .ok (.iload 4, 2) := dz1 dzo21 20 4 dzbX5_best_22 rfl
theorem dX5_best_44 : decode cX5_best 44 = .ok (.istore_n 2, 1) := dz0 dzo61 22 dzbX5_best_22 rfl
theorem dzbX5_best_45 : dzB cX5_best 45 [132, 4, 1, 167, 255, 227, 28, 172] := by decide +kernel
theorem dX5_best_45 : decode cX5_best 45 = .ok (.iinc 4 1, 3) := dz5 dzo132 0 4 1 1 rfl dzbX5_best_45 rfl
theorem dX5_best_48 : decode cX5_best 48 = .ok (.goto (-29), 3) := dz4 dzo167 3 255 227 (-29) rfl dzbX5_best_45 rfl
theorem dX5_best_51 : decode cX5_best 51 = .ok (.iload_n 2, 1) := dz0 dzo28 6 dzbX5_best_45 rfl
theorem dX5_best_52 : decode cX5_best 52 = .ok (.ireturn, 1) := dz0 dzo172 7 dzbX5_best_45 rfl
theorem dzbX5_count_0 : dzB cX5_count 0 [3, 60, 3, 61, 28, 42, 180, 0, 35, 162, 0, 28, 27, 42, 180, 0, 15, 28, 47, 9, 148, 158, 0, 7] := by decide +kernel
theorem dX5_count_0 : decode cX5_count 0 = .ok (.iconst 0, 1) := dz0 dzo3 0 dzbX5_count_0 rfl
theorem dX5_count_1 : decode cX5_count 1 = .ok (.istore_n 1, 1) := dz0 dzo60 1 dzbX5_count_0 rfl
theorem dX5_count_2 : decode cX5_count 2 = .ok (.iconst 0, 1) := dz0 dzo3 2 dzbX5_count_0 rfl
theorem dX5_count_3 : decode cX5_count 3 = .ok (.istore_n 2, 1) := dz0 dzo61 3 dzbX5_count_0 rfl
theorem dX5_count_4 : decode cX5_count 4 = .ok (.iload_n 2, 1) := dz0 dzo28 4 dzbX5_count_0 rfl
theorem dX5_count_5 : decode cX5_count 5 = .ok (.aload_n 0, 1) := dz0 dzo42 5 dzbX5_count_0 rfl
theorem dX5_count_6 : decode cX5_count 6 = .ok (.getfield 35, 3) := dz2 dzo180 6 0 35 dzbX5_count_0 rfl
theorem dX5_count_9 : decode cX5_count 9 = .ok (.if_icmp .ge 28, 3) := dz4 dzo162 9 0 28 28 rfl dzbX5_count_0 rfl
theorem dX5_count_12 : decode cX5_count 12 = .ok (.iload_n 1, 1) := dz0 dzo27 12 dzbX5_count_0 rfl
theorem dX5_count_13 : decode cX5_count 13 = .ok (.aload_n 0, 1) := dz0 dzo42 13 dzbX5_count_0 rfl
theorem dX5_count_14 : decode cX5_count 14 = .ok (.getfield 15, 3) := dz2 dzo180 14 0 15 dzbX5_count_0 rfl
theorem dX5_count_17 : decode cX5_count 17 = .ok (.iload_n 2, 1) := dz0 dzo28 17 dzbX5_count_0 rfl
theorem dX5_count_18 : decode cX5_count 18 = .ok (.laload, 1) := dz0 dzo47 18 dzbX5_count_0 rfl
theorem dX5_count_19 : decode cX5_count 19 = .ok (.lconst 0, 1) := dz0 dzo9 19 dzbX5_count_0 rfl
theorem dX5_count_20 : decode cX5_count 20 = .ok (.lcmp, 1) := dz0 dzo148 20 dzbX5_count_0 rfl
theorem dX5_count_21 : decode cX5_count 21 = .ok (.ifCond .le 7, 3) := dz4 dzo158 21 0 7 7 rfl dzbX5_count_0 rfl
theorem dzbX5_count_24 : dzB cX5_count 24 [4, 167, 0, 4, 3, 96, 60, 132, 2, 1, 167, 255, 226, 27, 172] := by decide +kernel
theorem dX5_count_24 : decode cX5_count 24 = .ok (.iconst 1, 1) := dz0 dzo4 0 dzbX5_count_24 rfl
theorem dX5_count_25 : decode cX5_count 25 = .ok (.goto 4, 3) := dz4 dzo167 1 0 4 4 rfl dzbX5_count_24 rfl
theorem dX5_count_28 : decode cX5_count 28 = .ok (.iconst 0, 1) := dz0 dzo3 4 dzbX5_count_24 rfl
theorem dX5_count_29 : decode cX5_count 29 = .ok (.iadd, 1) := dz0 dzo96 5 dzbX5_count_24 rfl
theorem dX5_count_30 : decode cX5_count 30 = .ok (.istore_n 1, 1) := dz0 dzo60 6 dzbX5_count_24 rfl
theorem dX5_count_31 : decode cX5_count 31 = .ok (.iinc 2 1, 3) := dz5 dzo132 7 2 1 1 rfl dzbX5_count_24 rfl
theorem dX5_count_34 : decode cX5_count 34 = .ok (.goto (-30), 3) := dz4 dzo167 10 255 226 (-30) rfl dzbX5_count_24 rfl
theorem dX5_count_37 : decode cX5_count 37 = .ok (.iload_n 1, 1) := dz0 dzo27 13 dzbX5_count_24 rfl
theorem dX5_count_38 : decode cX5_count 38 = .ok (.ireturn, 1) := dz0 dzo172 14 dzbX5_count_24 rfl
theorem dzbX5_heaviest_0 : dzB cX5_heaviest 0 [16, 254, 60, 9, 65, 3, 54, 4, 21, 4, 42, 180, 0, 35, 162, 0, 32, 42, 180, 0, 15, 21, 4, 47] := by decide +kernel
theorem dX5_heaviest_0 : decode cX5_heaviest 0 = .ok (.bipush (-2), 2) := dz3 dzo16 0 254 (-2) rfl dzbX5_heaviest_0 rfl
theorem dX5_heaviest_2 : decode cX5_heaviest 2 = .ok (.istore_n 1, 1) := dz0 dzo60 2 dzbX5_heaviest_0 rfl
theorem dX5_heaviest_3 : decode cX5_heaviest 3 = .ok (.lconst 0, 1) := dz0 dzo9 3 dzbX5_heaviest_0 rfl
theorem dX5_heaviest_4 : decode cX5_heaviest 4 = .ok (.lstore_n 2, 1) := dz0 dzo65 4 dzbX5_heaviest_0 rfl
theorem dX5_heaviest_5 : decode cX5_heaviest 5 = .ok (.iconst 0, 1) := dz0 dzo3 5 dzbX5_heaviest_0 rfl
theorem dX5_heaviest_6 : decode cX5_heaviest 6 = .ok (.istore 4, 2) := dz1 dzo54 6 4 dzbX5_heaviest_0 rfl
theorem dX5_heaviest_8 : decode cX5_heaviest 8 = .ok (.iload 4, 2) := dz1 dzo21 8 4 dzbX5_heaviest_0 rfl
theorem dX5_heaviest_10 : decode cX5_heaviest 10 = .ok (.aload_n 0, 1) := dz0 dzo42 10 dzbX5_heaviest_0 rfl
theorem dX5_heaviest_11 : decode cX5_heaviest 11 = .ok (.getfield 35, 3) := dz2 dzo180 11 0 35 dzbX5_heaviest_0 rfl
theorem dX5_heaviest_14 : decode cX5_heaviest 14 = .ok (.if_icmp .ge 32, 3) := dz4 dzo162 14 0 32 32 rfl dzbX5_heaviest_0 rfl
theorem dX5_heaviest_17 : decode cX5_heaviest 17 = .ok (.aload_n 0, 1) := dz0 dzo42 17 dzbX5_heaviest_0 rfl
theorem dX5_heaviest_18 : decode cX5_heaviest 18 = .ok (.getfield 15, 3) := dz2 dzo180 18 0 15 dzbX5_heaviest_0 rfl
theorem dX5_heaviest_21 : decode cX5_heaviest 21 = .ok (.iload 4, 2) := dz1 dzo21 21 4 dzbX5_heaviest_0 rfl
theorem dX5_heaviest_23 : decode cX5_heaviest 23 = .ok (.laload, 1) := dz0 dzo47 23 dzbX5_heaviest_0 rfl
theorem dzbX5_heaviest_24 : dzB cX5_heaviest 24 [32, 148, 158, 0, 14, 42, 180, 0, 15, 21, 4, 47, 65, 21, 4, 60, 132, 4, 1, 167, 255, 221, 27, 172] := by decide +kernel
theorem dX5_heaviest_24 : decode cX5_heaviest 24 = .ok (.lload_n 2, 1) := dz0 dzo32 0 dzbX5_heaviest_24 rfl
theorem dX5_heaviest_25 : decode cX5_heaviest 25 = .ok (.lcmp, 1) := dz0 dzo148 1 dzbX5_heaviest_24 rfl
theorem dX5_heaviest_26 : decode cX5_heaviest 26 = .ok (.ifCond .le 14, 3) := dz4 dzo158 2 0 14 14 rfl dzbX5_heaviest_24 rfl
theorem dX5_heaviest_29 : decode cX5_heaviest 29 = .ok (.aload_n 0, 1) := dz0 dzo42 5 dzbX5_heaviest_24 rfl
theorem dX5_heaviest_30 : decode cX5_heaviest 30 = .ok (.getfield 15, 3) := dz2 dzo180 6 0 15 dzbX5_heaviest_24 rfl
theorem dX5_heaviest_33 : decode cX5_heaviest 33 = .ok (.iload 4, 2) := dz1 dzo21 9 4 dzbX5_heaviest_24 rfl
theorem dX5_heaviest_35 : decode cX5_heaviest 35 = .ok (.laload, 1) := dz0 dzo47 11 dzbX5_heaviest_24 rfl
theorem dX5_heaviest_36 : decode cX5_heaviest 36 = .ok (.lstore_n 2, 1) := dz0 dzo65 12 dzbX5_heaviest_24 rfl
theorem dX5_heaviest_37 : decode cX5_heaviest 37 = .ok (.iload 4, 2) := dz1 dzo21 13 4 dzbX5_heaviest_24 rfl
theorem dX5_heaviest_39 : decode cX5_heaviest 39 = .ok (.istore_n 1, 1) := dz0 dzo60 15 dzbX5_heaviest_24 rfl
theorem dX5_heaviest_40 : decode cX5_heaviest 40 = .ok (.iinc 4 1, 3) := dz5 dzo132 16 4 1 1 rfl dzbX5_heaviest_24 rfl
theorem dX5_heaviest_43 : decode cX5_heaviest 43 = .ok (.goto (-35), 3) := dz4 dzo167 19 255 221 (-35) rfl dzbX5_heaviest_24 rfl
theorem dX5_heaviest_46 : decode cX5_heaviest 46 = .ok (.iload_n 1, 1) := dz0 dzo27 22 dzbX5_heaviest_24 rfl
theorem dX5_heaviest_47 : decode cX5_heaviest 47 = .ok (.ireturn, 1) := dz0 dzo172 23 dzbX5_heaviest_24 rfl
theorem dzbX5_init_0 : dzB cX5_init 0 [42, 183, 0, 3, 42, 16, 32] := by decide +kernel
theorem dX5_init_0 : decode cX5_init 0 = .ok (.aload_n 0, 1) := dz0 dzo42 0 dzbX5_init_0 rfl
theorem dX5_init_1 : decode cX5_init 1 = .ok (.invokespecial 3, 3) := dz2 dzo183 1 0 3 dzbX5_init_0 rfl
theorem dX5_init_4 : decode cX5_init 4 = .ok (.aload_n 0, 1) := dz0 dzo42 4 dzbX5_init_0 rfl
theorem dX5_init_5 : decode cX5_init 5 = .ok (.bipush 32, 2) := dz3 dzo16 5 32 32 rfl dzbX5_init_0 rfl
theorem dX5_init_7 : decode cX5_init 7 = .ok (.newarray .int, 2) := by decide +kernel
theorem dzbX5_init_9 : dzB cX5_init 9 [181, 0, 11, 42, 16, 32] := by decide +kernel
theorem dX5_init_9 : decode cX5_init 9 = .ok (.putfield 11, 3) := dz2 dzo181 0 0 11 dzbX5_init_9 rfl
theorem dX5_init_12 : decode cX5_init 12 = .ok (.aload_n 0, 1) := dz0 dzo42 3 dzbX5_init_9 rfl
theorem dX5_init_13 : decode cX5_init 13 = .ok (.bipush 32, 2) := dz3 dzo16 4 32 32 rfl dzbX5_init_9 rfl
theorem dX5_init_15 : decode cX5_init 15 = .ok (.newarray .long, 2) := by decide +kernel
theorem dzbX5_init_17 : dzB cX5_init 17 [181, 0, 15, 177] := by decide +kernel
theorem dX5_init_17 : decode cX5_init 17 = .ok (.putfield 15, 3) := dz2 dzo181 0 0 15 dzbX5_init_17 rfl
theorem dX5_init_20 : decode cX5_init 20 = .ok (.return_, 1) := dz0 dzo177 3 dzbX5_init_17 rfl
theorem dzbX5_ith_0 : dzB cX5_ith 0 [3, 61, 3, 62, 29, 42, 180, 0, 35, 162, 0, 30, 42, 180, 0, 15, 29, 47, 9, 148, 158, 0, 13, 28] := by decide +kernel
theorem dX5_ith_0 : decode cX5_ith 0 = .ok (.iconst 0, 1) := dz0 dzo3 0 dzbX5_ith_0 rfl
theorem dX5_ith_1 : decode cX5_ith 1 = .ok (.istore_n 2, 1) := dz0 dzo61 1 dzbX5_ith_0 rfl
theorem dX5_ith_2 : decode cX5_ith 2 = .ok (.iconst 0, 1) := dz0 dzo3 2 dzbX5_ith_0 rfl
theorem dX5_ith_3 : decode cX5_ith 3 = .ok (.istore_n 3, 1) := dz0 dzo62 3 dzbX5_ith_0 rfl
theorem dX5_ith_4 : decode cX5_ith 4 = .ok (.iload_n 3, 1) := dz0 dzo29 4 dzbX5_ith_0 rfl
theorem dX5_ith_5 : decode cX5_ith 5 = .ok (.aload_n 0, 1) := dz0 dzo42 5 dzbX5_ith_0 rfl
theorem dX5_ith_6 : decode cX5_ith 6 = .ok (.getfield 35, 3) := dz2 dzo180 6 0 35 dzbX5_ith_0 rfl
theorem dX5_ith_9 : decode cX5_ith 9 = .ok (.if_icmp .ge 30, 3) := dz4 dzo162 9 0 30 30 rfl dzbX5_ith_0 rfl
theorem dX5_ith_12 : decode cX5_ith 12 = .ok (.aload_n 0, 1) := dz0 dzo42 12 dzbX5_ith_0 rfl
theorem dX5_ith_13 : decode cX5_ith 13 = .ok (.getfield 15, 3) := dz2 dzo180 13 0 15 dzbX5_ith_0 rfl
theorem dX5_ith_16 : decode cX5_ith 16 = .ok (.iload_n 3, 1) := dz0 dzo29 16 dzbX5_ith_0 rfl
theorem dX5_ith_17 : decode cX5_ith 17 = .ok (.laload, 1) := dz0 dzo47 17 dzbX5_ith_0 rfl
theorem dX5_ith_18 : decode cX5_ith 18 = .ok (.lconst 0, 1) := dz0 dzo9 18 dzbX5_ith_0 rfl
theorem dX5_ith_19 : decode cX5_ith 19 = .ok (.lcmp, 1) := dz0 dzo148 19 dzbX5_ith_0 rfl
theorem dX5_ith_20 : decode cX5_ith 20 = .ok (.ifCond .le 13, 3) := dz4 dzo158 20 0 13 13 rfl dzbX5_ith_0 rfl
theorem dX5_ith_23 : decode cX5_ith 23 = .ok (.iload_n 2, 1) := dz0 dzo28 23 dzbX5_ith_0 rfl
theorem dzbX5_ith_24 : dzB cX5_ith 24 [27, 160, 0, 5, 29, 172, 132, 2, 1, 132, 3, 1, 167, 255, 224, 2, 172] := by decide +kernel
theorem dX5_ith_24 : decode cX5_ith 24 = .ok (.iload_n 1, 1) := dz0 dzo27 0 dzbX5_ith_24 rfl
theorem dX5_ith_25 : decode cX5_ith 25 = .ok (.if_icmp .ne 5, 3) := dz4 dzo160 1 0 5 5 rfl dzbX5_ith_24 rfl
theorem dX5_ith_28 : decode cX5_ith 28 = .ok (.iload_n 3, 1) := dz0 dzo29 4 dzbX5_ith_24 rfl
theorem dX5_ith_29 : decode cX5_ith 29 = .ok (.ireturn, 1) := dz0 dzo172 5 dzbX5_ith_24 rfl
theorem dX5_ith_30 : decode cX5_ith 30 = .ok (.iinc 2 1, 3) := dz5 dzo132 6 2 1 1 rfl dzbX5_ith_24 rfl
theorem dX5_ith_33 : decode cX5_ith 33 = .ok (.iinc 3 1, 3) := dz5 dzo132 9 3 1 1 rfl dzbX5_ith_24 rfl
theorem dX5_ith_36 : decode cX5_ith 36 = .ok (.goto (-32), 3) := dz4 dzo167 12 255 224 (-32) rfl dzbX5_ith_24 rfl
theorem dX5_ith_39 : decode cX5_ith 39 = .ok (.iconst (-1), 1) := dz0 dzo2 15 dzbX5_ith_24 rfl
theorem dX5_ith_40 : decode cX5_ith 40 = .ok (.ireturn, 1) := dz0 dzo172 16 dzbX5_ith_24 rfl
theorem dzbX5_learn_0 : dzB cX5_learn 0 [43, 180, 0, 19, 4, 182, 0, 25, 61, 42, 4, 43, 180, 0, 31, 120, 181, 0, 35, 3, 62, 29, 42] := by decide +kernel
theorem dX5_learn_0 : decode cX5_learn 0 = .ok (.aload_n 1, 1) := dz0 dzo43 0 dzbX5_learn_0 rfl
theorem dX5_learn_1 : decode cX5_learn 1 = .ok (.getfield 19, 3) := dz2 dzo180 1 0 19 dzbX5_learn_0 rfl
theorem dX5_learn_4 : decode cX5_learn 4 = .ok (.iconst 1, 1) := dz0 dzo4 4 dzbX5_learn_0 rfl
theorem dX5_learn_5 : decode cX5_learn 5 = .ok (.invokevirtual 25, 3) := dz2 dzo182 5 0 25 dzbX5_learn_0 rfl
theorem dX5_learn_8 : decode cX5_learn 8 = .ok (.istore_n 2, 1) := dz0 dzo61 8 dzbX5_learn_0 rfl
theorem dX5_learn_9 : decode cX5_learn 9 = .ok (.aload_n 0, 1) := dz0 dzo42 9 dzbX5_learn_0 rfl
theorem dX5_learn_10 : decode cX5_learn 10 = .ok (.iconst 1, 1) := dz0 dzo4 10 dzbX5_learn_0 rfl
theorem dX5_learn_11 : decode cX5_learn 11 = .ok (.aload_n 1, 1) := dz0 dzo43 11 dzbX5_learn_0 rfl
theorem dX5_learn_12 : decode cX5_learn 12 = .ok (.getfield 31, 3) := dz2 dzo180 12 0 31 dzbX5_learn_0 rfl
theorem dX5_learn_15 : decode cX5_learn 15 = .ok (.ishl, 1) := dz0 dzo120 15 dzbX5_learn_0 rfl
theorem dX5_learn_16 : decode cX5_learn 16 = .ok (.putfield 35, 3) := dz2 dzo181 16 0 35 dzbX5_learn_0 rfl
theorem dX5_learn_19 : decode cX5_learn 19 = .ok (.iconst 0, 1) := dz0 dzo3 19 dzbX5_learn_0 rfl
theorem dX5_learn_20 : decode cX5_learn 20 = .ok (.istore_n 3, 1) := dz0 dzo62 20 dzbX5_learn_0 rfl
theorem dX5_learn_21 : decode cX5_learn 21 = .ok (.iload_n 3, 1) := dz0 dzo29 21 dzbX5_learn_0 rfl
theorem dX5_learn_22 : decode cX5_learn 22 = .ok (.aload_n 0, 1) := dz0 dzo42 22 dzbX5_learn_0 rfl
theorem dzbX5_learn_23 : dzB cX5_learn 23 [180, 0, 35, 162, 0, 87, 42, 180, 0, 11, 29, 28, 43, 29, 182, 0, 38, 128, 79, 10, 55, 4, 3] := by decide +kernel
theorem dX5_learn_23 : decode cX5_learn 23 = .ok (.getfield 35, 3) := dz2 dzo180 0 0 35 dzbX5_learn_23 rfl
theorem dX5_learn_26 : decode cX5_learn 26 = .ok (.if_icmp .ge 87, 3) := dz4 dzo162 3 0 87 87 rfl dzbX5_learn_23 rfl
theorem dX5_learn_29 : decode cX5_learn 29 = .ok (.aload_n 0, 1) := dz0 dzo42 6 dzbX5_learn_23 rfl
theorem dX5_learn_30 : decode cX5_learn 30 = .ok (.getfield 11, 3) := dz2 dzo180 7 0 11 dzbX5_learn_23 rfl
theorem dX5_learn_33 : decode cX5_learn 33 = .ok (.iload_n 3, 1) := dz0 dzo29 10 dzbX5_learn_23 rfl
theorem dX5_learn_34 : decode cX5_learn 34 = .ok (.iload_n 2, 1) := dz0 dzo28 11 dzbX5_learn_23 rfl
theorem dX5_learn_35 : decode cX5_learn 35 = .ok (.aload_n 1, 1) := dz0 dzo43 12 dzbX5_learn_23 rfl
theorem dX5_learn_36 : decode cX5_learn 36 = .ok (.iload_n 3, 1) := dz0 dzo29 13 dzbX5_learn_23 rfl
theorem dX5_learn_37 : decode cX5_learn 37 = .ok (.invokevirtual 38, 3) := dz2 dzo182 14 0 38 dzbX5_learn_23 rfl
theorem dX5_learn_40 : decode cX5_learn 40 = .ok (.ior, 1) := dz0 dzo128 17 dzbX5_learn_23 rfl
theorem dX5_learn_41 : decode cX5_learn 41 = .ok (.iastore, 1) := dz0 dzo79 18 dzbX5_learn_23 rfl
theorem dX5_learn_42 : decode cX5_learn 42 = .ok (.lconst 1, 1) := dz0 dzo10 19 dzbX5_learn_23 rfl
theorem dX5_learn_43 : decode cX5_learn 43 = .ok (.lstore 4, 2) := dz1 dzo55 20 4 dzbX5_learn_23 rfl
theorem dX5_learn_45 : decode cX5_learn 45 = .ok (.iconst 0, 1) := dz0 dzo3 22 dzbX5_learn_23 rfl
theorem dzbX5_learn_46 : dzB cX5_learn 46 [54, 6, 21, 6, 43, 180, 0, 41, 162, 0, 45, 22, 4, 43, 21, 6, 42, 180, 0, 11, 29, 46] := by decide +kernel
theorem dX5_learn_46 : decode cX5_learn 46 = .ok (.istore 6, 2) := dz1 dzo54 0 6 dzbX5_learn_46 rfl
theorem dX5_learn_48 : decode cX5_learn 48 = .ok (.iload 6, 2) := dz1 dzo21 2 6 dzbX5_learn_46 rfl
theorem dX5_learn_50 : decode cX5_learn 50 = .ok (.aload_n 1, 1) := dz0 dzo43 4 dzbX5_learn_46 rfl
theorem dX5_learn_51 : decode cX5_learn 51 = .ok (.getfield 41, 3) := dz2 dzo180 5 0 41 dzbX5_learn_46 rfl
theorem dX5_learn_54 : decode cX5_learn 54 = .ok (.if_icmp .ge 45, 3) := dz4 dzo162 8 0 45 45 rfl dzbX5_learn_46 rfl
theorem dX5_learn_57 : decode cX5_learn 57 = .ok (.lload 4, 2) := dz1 dzo22 11 4 dzbX5_learn_46 rfl
theorem dX5_learn_59 : decode cX5_learn 59 = .ok (.aload_n 1, 1) := dz0 dzo43 13 dzbX5_learn_46 rfl
theorem dX5_learn_60 : decode cX5_learn 60 = .ok (.iload 6, 2) := dz1 dzo21 14 6 dzbX5_learn_46 rfl
theorem dX5_learn_62 : decode cX5_learn 62 = .ok (.aload_n 0, 1) := dz0 dzo42 16 dzbX5_learn_46 rfl
theorem dX5_learn_63 : decode cX5_learn 63 = .ok (.getfield 11, 3) := dz2 dzo180 17 0 11 dzbX5_learn_46 rfl
theorem dX5_learn_66 : decode cX5_learn 66 = .ok (.iload_n 3, 1) := dz0 dzo29 20 dzbX5_learn_46 rfl
theorem dX5_learn_67 : decode cX5_learn 67 = .ok (.iaload, 1) := dz0 dzo46 21 dzbX5_learn_46 rfl
theorem dzbX5_learn_68 : dzB cX5_learn 68 [182, 0, 44, 153, 0, 11, 43, 180, 0, 48, 133, 167, 0, 11, 16, 100, 43, 180, 0, 48, 100, 133, 105] := by decide +kernel
theorem dX5_learn_68 : decode cX5_learn 68 = .ok (.invokevirtual 44, 3) := dz2 dzo182 0 0 44 dzbX5_learn_68 rfl
theorem dX5_learn_71 : decode cX5_learn 71 = .ok (.ifCond .eq 11, 3) := dz4 dzo153 3 0 11 11 rfl dzbX5_learn_68 rfl
theorem dX5_learn_74 : decode cX5_learn 74 = .ok (.aload_n 1, 1) := dz0 dzo43 6 dzbX5_learn_68 rfl
theorem dX5_learn_75 : decode cX5_learn 75 = .ok (.getfield 48, 3) := dz2 dzo180 7 0 48 dzbX5_learn_68 rfl
theorem dX5_learn_78 : decode cX5_learn 78 = .ok (.i2l, 1) := dz0 dzo133 10 dzbX5_learn_68 rfl
theorem dX5_learn_79 : decode cX5_learn 79 = .ok (.goto 11, 3) := dz4 dzo167 11 0 11 11 rfl dzbX5_learn_68 rfl
theorem dX5_learn_82 : decode cX5_learn 82 = .ok (.bipush 100, 2) := dz3 dzo16 14 100 100 rfl dzbX5_learn_68 rfl
theorem dX5_learn_84 : decode cX5_learn 84 = .ok (.aload_n 1, 1) := dz0 dzo43 16 dzbX5_learn_68 rfl
theorem dX5_learn_85 : decode cX5_learn 85 = .ok (.getfield 48, 3) := dz2 dzo180 17 0 48 dzbX5_learn_68 rfl
theorem dX5_learn_88 : decode cX5_learn 88 = .ok (.isub, 1) := dz0 dzo100 20 dzbX5_learn_68 rfl
theorem dX5_learn_89 : decode cX5_learn 89 = .ok (.i2l, 1) := dz0 dzo133 21 dzbX5_learn_68 rfl
theorem dX5_learn_90 : decode cX5_learn 90 = .ok (.lmul, 1) := dz0 dzo105 22 dzbX5_learn_68 rfl
theorem dzbX5_learn_91 : dzB cX5_learn 91 [55, 4, 132, 6, 1, 167, 255, 208, 42, 180, 0, 15, 29, 22, 4, 80, 132, 3, 1, 167, 255, 167, 177] := by decide +kernel
theorem dX5_learn_91 : decode cX5_learn 91 = .ok (.lstore 4, 2) := dz1 dzo55 0 4 dzbX5_learn_91 rfl
theorem dX5_learn_93 : decode cX5_learn 93 = .ok (.iinc 6 1, 3) := dz5 dzo132 2 6 1 1 rfl dzbX5_learn_91 rfl
theorem dX5_learn_96 : decode cX5_learn 96 = .ok (.goto (-48), 3) := dz4 dzo167 5 255 208 (-48) rfl dzbX5_learn_91 rfl
theorem dX5_learn_99 : decode cX5_learn 99 = .ok (.aload_n 0, 1) := dz0 dzo42 8 dzbX5_learn_91 rfl
theorem dX5_learn_100 : decode cX5_learn 100 = .ok (.getfield 15, 3) := dz2 dzo180 9 0 15 dzbX5_learn_91 rfl
theorem dX5_learn_103 : decode cX5_learn 103 = .ok (.iload_n 3, 1) := dz0 dzo29 12 dzbX5_learn_91 rfl
theorem dX5_learn_104 : decode cX5_learn 104 = .ok (.lload 4, 2) := dz1 dzo22 13 4 dzbX5_learn_91 rfl
theorem dX5_learn_106 : decode cX5_learn 106 = .ok (.lastore, 1) := dz0 dzo80 15 dzbX5_learn_91 rfl
theorem dX5_learn_107 : decode cX5_learn 107 = .ok (.iinc 3 1, 3) := dz5 dzo132 16 3 1 1 rfl dzbX5_learn_91 rfl
theorem dX5_learn_110 : decode cX5_learn 110 = .ok (.goto (-89), 3) := dz4 dzo167 19 255 167 (-89) rfl dzbX5_learn_91 rfl
theorem dX5_learn_113 : decode cX5_learn 113 = .ok (.return_, 1) := dz0 dzo177 22 dzbX5_learn_91 rfl
theorem dzbX5_leftAtMost_0 : dzB cX5_leftAtMost 0 [3, 61, 3, 62, 29, 42, 180, 0, 35, 162, 0, 32, 42, 180, 0, 15, 29, 47, 9, 148, 158, 0, 15, 29] := by decide +kernel
theorem dX5_leftAtMost_0 : decode cX5_leftAtMost 0 = .ok (.iconst 0, 1) := dz0 dzo3 0 dzbX5_leftAtMost_0 rfl
theorem dX5_leftAtMost_1 : decode cX5_leftAtMost 1 = .ok (.istore_n 2, 1) := dz0 dzo61 1 dzbX5_leftAtMost_0 rfl
theorem dX5_leftAtMost_2 : decode cX5_leftAtMost 2 = .ok (.iconst 0, 1) := dz0 dzo3 2 dzbX5_leftAtMost_0 rfl
theorem dX5_leftAtMost_3 : decode cX5_leftAtMost 3 = .ok (.istore_n 3, 1) := dz0 dzo62 3 dzbX5_leftAtMost_0 rfl
theorem dX5_leftAtMost_4 : decode cX5_leftAtMost 4 = .ok (.iload_n 3, 1) := dz0 dzo29 4 dzbX5_leftAtMost_0 rfl
theorem dX5_leftAtMost_5 : decode cX5_leftAtMost 5 = .ok (.aload_n 0, 1) := dz0 dzo42 5 dzbX5_leftAtMost_0 rfl
theorem dX5_leftAtMost_6 : decode cX5_leftAtMost 6 = .ok (.getfield 35, 3) := dz2 dzo180 6 0 35 dzbX5_leftAtMost_0 rfl
theorem dX5_leftAtMost_9 : decode cX5_leftAtMost 9 = .ok (.if_icmp .ge 32, 3) := dz4 dzo162 9 0 32 32 rfl dzbX5_leftAtMost_0 rfl
theorem dX5_leftAtMost_12 : decode cX5_leftAtMost 12 = .ok (.aload_n 0, 1) := dz0 dzo42 12 dzbX5_leftAtMost_0 rfl
theorem dX5_leftAtMost_13 : decode cX5_leftAtMost 13 = .ok (.getfield 15, 3) := dz2 dzo180 13 0 15 dzbX5_leftAtMost_0 rfl
theorem dX5_leftAtMost_16 : decode cX5_leftAtMost 16 = .ok (.iload_n 3, 1) := dz0 dzo29 16 dzbX5_leftAtMost_0 rfl
theorem dX5_leftAtMost_17 : decode cX5_leftAtMost 17 = .ok (.laload, 1) := dz0 dzo47 17 dzbX5_leftAtMost_0 rfl
theorem dX5_leftAtMost_18 : decode cX5_leftAtMost 18 = .ok (.lconst 0, 1) := dz0 dzo9 18 dzbX5_leftAtMost_0 rfl
theorem dX5_leftAtMost_19 : decode cX5_leftAtMost 19 = .ok (.lcmp, 1) := dz0 dzo148 19 dzbX5_leftAtMost_0 rfl
theorem dX5_leftAtMost_20 : decode cX5_leftAtMost 20 = .ok (.ifCond .le 15, 3) := dz4 dzo158 20 0 15 15 rfl dzbX5_leftAtMost_0 rfl
theorem dX5_leftAtMost_23 : decode cX5_leftAtMost 23 = .ok (.iload_n 3, 1) := dz0 dzo29 23 dzbX5_leftAtMost_0 rfl
theorem dzbX5_leftAtMost_24 : dzB cX5_leftAtMost 24 [27, 122, 4, 126, 4, 160, 0, 6, 132, 2, 1, 132, 3, 1, 167, 255, 222, 28, 42, 182, 0, 51, 28, 100] := by decide +kernel
theorem dX5_leftAtMost_24 : decode cX5_leftAtMost 24 = .ok (.iload_n 1, 1) := dz0 dzo27 0 dzbX5_leftAtMost_24 rfl
theorem dX5_leftAtMost_25 : decode cX5_leftAtMost 25 = .ok (.ishr, 1) := dz0 dzo122 1 dzbX5_leftAtMost_24 rfl
theorem dX5_leftAtMost_26 : decode cX5_leftAtMost 26 = .ok (.iconst 1, 1) := dz0 dzo4 2 dzbX5_leftAtMost_24 rfl
theorem dX5_leftAtMost_27 : decode cX5_leftAtMost 27 = .ok (.iand, 1) := dz0 dzo126 3 dzbX5_leftAtMost_24 rfl
theorem dX5_leftAtMost_28 : decode cX5_leftAtMost 28 = .ok (.iconst 1, 1) := dz0 dzo4 4 dzbX5_leftAtMost_24 rfl
theorem dX5_leftAtMost_29 : decode cX5_leftAtMost 29 = .ok (.if_icmp .ne 6, 3) := dz4 dzo160 5 0 6 6 rfl dzbX5_leftAtMost_24 rfl
theorem dX5_leftAtMost_32 : decode cX5_leftAtMost 32 = .ok (.iinc 2 1, 3) := dz5 dzo132 8 2 1 1 rfl dzbX5_leftAtMost_24 rfl
theorem dX5_leftAtMost_35 : decode cX5_leftAtMost 35 = .ok (.iinc 3 1, 3) := dz5 dzo132 11 3 1 1 rfl dzbX5_leftAtMost_24 rfl
theorem dX5_leftAtMost_38 : decode cX5_leftAtMost 38 = .ok (.goto (-34), 3) := dz4 dzo167 14 255 222 (-34) rfl dzbX5_leftAtMost_24 rfl
theorem dX5_leftAtMost_41 : decode cX5_leftAtMost 41 = .ok (.iload_n 2, 1) := dz0 dzo28 17 dzbX5_leftAtMost_24 rfl
theorem dX5_leftAtMost_42 : decode cX5_leftAtMost 42 = .ok (.aload_n 0, 1) := dz0 dzo42 18 dzbX5_leftAtMost_24 rfl
theorem dX5_leftAtMost_43 : decode cX5_leftAtMost 43 = .ok (.invokevirtual 51, 3) := dz2 dzo182 19 0 51 dzbX5_leftAtMost_24 rfl
theorem dX5_leftAtMost_46 : decode cX5_leftAtMost 46 = .ok (.iload_n 2, 1) := dz0 dzo28 22 dzbX5_leftAtMost_24 rfl
theorem dX5_leftAtMost_47 : decode cX5_leftAtMost 47 = .ok (.isub, 1) := dz0 dzo100 23 dzbX5_leftAtMost_24 rfl
theorem dzbX5_leftAtMost_48 : dzB cX5_leftAtMost 48 [184, 0, 55, 172] := by decide +kernel
theorem dX5_leftAtMost_48 : decode cX5_leftAtMost 48 = .ok (.invokestatic 55, 3) := dz2 dzo184 0 0 55 dzbX5_leftAtMost_48 rfl
theorem dX5_leftAtMost_51 : decode cX5_leftAtMost 51 = .ok (.ireturn, 1) := dz0 dzo172 3 dzbX5_leftAtMost_48 rfl
theorem dzbX5_weightOf_0 : dzB cX5_weightOf 0 [9, 65, 3, 54, 4, 21, 4, 42, 180, 0, 35, 162, 0, 29, 21, 4, 27, 122, 4, 126, 4, 160, 0, 13] := by decide +kernel
theorem dX5_weightOf_0 : decode cX5_weightOf 0 = .ok (.lconst 0, 1) := dz0 dzo9 0 dzbX5_weightOf_0 rfl
theorem dX5_weightOf_1 : decode cX5_weightOf 1 = .ok (.lstore_n 2, 1) := dz0 dzo65 1 dzbX5_weightOf_0 rfl
theorem dX5_weightOf_2 : decode cX5_weightOf 2 = .ok (.iconst 0, 1) := dz0 dzo3 2 dzbX5_weightOf_0 rfl
theorem dX5_weightOf_3 : decode cX5_weightOf 3 = .ok (.istore 4, 2) := dz1 dzo54 3 4 dzbX5_weightOf_0 rfl
theorem dX5_weightOf_5 : decode cX5_weightOf 5 = .ok (.iload 4, 2) := dz1 dzo21 5 4 dzbX5_weightOf_0 rfl
theorem dX5_weightOf_7 : decode cX5_weightOf 7 = .ok (.aload_n 0, 1) := dz0 dzo42 7 dzbX5_weightOf_0 rfl
theorem dX5_weightOf_8 : decode cX5_weightOf 8 = .ok (.getfield 35, 3) := dz2 dzo180 8 0 35 dzbX5_weightOf_0 rfl
theorem dX5_weightOf_11 : decode cX5_weightOf 11 = .ok (.if_icmp .ge 29, 3) := dz4 dzo162 11 0 29 29 rfl dzbX5_weightOf_0 rfl
theorem dX5_weightOf_14 : decode cX5_weightOf 14 = .ok (.iload 4, 2) := dz1 dzo21 14 4 dzbX5_weightOf_0 rfl
theorem dX5_weightOf_16 : decode cX5_weightOf 16 = .ok (.iload_n 1, 1) := dz0 dzo27 16 dzbX5_weightOf_0 rfl
theorem dX5_weightOf_17 : decode cX5_weightOf 17 = .ok (.ishr, 1) := dz0 dzo122 17 dzbX5_weightOf_0 rfl
theorem dX5_weightOf_18 : decode cX5_weightOf 18 = .ok (.iconst 1, 1) := dz0 dzo4 18 dzbX5_weightOf_0 rfl
theorem dX5_weightOf_19 : decode cX5_weightOf 19 = .ok (.iand, 1) := dz0 dzo126 19 dzbX5_weightOf_0 rfl
theorem dX5_weightOf_20 : decode cX5_weightOf 20 = .ok (.iconst 1, 1) := dz0 dzo4 20 dzbX5_weightOf_0 rfl
theorem dX5_weightOf_21 : decode cX5_weightOf 21 = .ok (.if_icmp .ne 13, 3) := dz4 dzo160 21 0 13 13 rfl dzbX5_weightOf_0 rfl
theorem dzbX5_weightOf_24 : dzB cX5_weightOf 24 [32, 42, 180, 0, 15, 21, 4, 47, 97, 65, 132, 4, 1, 167, 255, 224, 32, 173] := by decide +kernel
theorem dX5_weightOf_24 : decode cX5_weightOf 24 = .ok (.lload_n 2, 1) := dz0 dzo32 0 dzbX5_weightOf_24 rfl
theorem dX5_weightOf_25 : decode cX5_weightOf 25 = .ok (.aload_n 0, 1) := dz0 dzo42 1 dzbX5_weightOf_24 rfl
theorem dX5_weightOf_26 : decode cX5_weightOf 26 = .ok (.getfield 15, 3) := dz2 dzo180 2 0 15 dzbX5_weightOf_24 rfl
theorem dX5_weightOf_29 : decode cX5_weightOf 29 = .ok (.iload 4, 2) := dz1 dzo21 5 4 dzbX5_weightOf_24 rfl
theorem dX5_weightOf_31 : decode cX5_weightOf 31 = .ok (.laload, 1) := dz0 dzo47 7 dzbX5_weightOf_24 rfl
theorem dX5_weightOf_32 : decode cX5_weightOf 32 = .ok (.ladd, 1) := dz0 dzo97 8 dzbX5_weightOf_24 rfl
theorem dX5_weightOf_33 : decode cX5_weightOf 33 = .ok (.lstore_n 2, 1) := dz0 dzo65 9 dzbX5_weightOf_24 rfl
theorem dX5_weightOf_34 : decode cX5_weightOf 34 = .ok (.iinc 4 1, 3) := dz5 dzo132 10 4 1 1 rfl dzbX5_weightOf_24 rfl
theorem dX5_weightOf_37 : decode cX5_weightOf 37 = .ok (.goto (-32), 3) := dz4 dzo167 13 255 224 (-32) rfl dzbX5_weightOf_24 rfl
theorem dX5_weightOf_40 : decode cX5_weightOf 40 = .ok (.lload_n 2, 1) := dz0 dzo32 16 dzbX5_weightOf_24 rfl
theorem dX5_weightOf_41 : decode cX5_weightOf 41 = .ok (.lreturn, 1) := dz0 dzo173 17 dzbX5_weightOf_24 rfl
theorem dzbX5_weightOfAll_0 : dzB cX5_weightOfAll 0 [9, 64, 3, 62, 29, 42, 180, 0, 35, 162, 0, 18, 31, 42, 180, 0, 15, 29, 47, 97, 64, 132, 3, 1] := by decide +kernel
theorem dX5_weightOfAll_0 : decode cX5_weightOfAll 0 = .ok (.lconst 0, 1) := dz0 dzo9 0 dzbX5_weightOfAll_0 rfl
theorem dX5_weightOfAll_1 : decode cX5_weightOfAll 1 = .ok (.lstore_n 1, 1) := dz0 dzo64 1 dzbX5_weightOfAll_0 rfl
theorem dX5_weightOfAll_2 : decode cX5_weightOfAll 2 = .ok (.iconst 0, 1) := dz0 dzo3 2 dzbX5_weightOfAll_0 rfl
theorem dX5_weightOfAll_3 : decode cX5_weightOfAll 3 = .ok (.istore_n 3, 1) := dz0 dzo62 3 dzbX5_weightOfAll_0 rfl
theorem dX5_weightOfAll_4 : decode cX5_weightOfAll 4 = .ok (.iload_n 3, 1) := dz0 dzo29 4 dzbX5_weightOfAll_0 rfl
theorem dX5_weightOfAll_5 : decode cX5_weightOfAll 5 = .ok (.aload_n 0, 1) := dz0 dzo42 5 dzbX5_weightOfAll_0 rfl
theorem dX5_weightOfAll_6 : decode cX5_weightOfAll 6 = .ok (.getfield 35, 3) := dz2 dzo180 6 0 35 dzbX5_weightOfAll_0 rfl
theorem dX5_weightOfAll_9 : decode cX5_weightOfAll 9 = .ok (.if_icmp .ge 18, 3) := dz4 dzo162 9 0 18 18 rfl dzbX5_weightOfAll_0 rfl
theorem dX5_weightOfAll_12 : decode cX5_weightOfAll 12 = .ok (.lload_n 1, 1) := dz0 dzo31 12 dzbX5_weightOfAll_0 rfl
theorem dX5_weightOfAll_13 : decode cX5_weightOfAll 13 = .ok (.aload_n 0, 1) := dz0 dzo42 13 dzbX5_weightOfAll_0 rfl
theorem dX5_weightOfAll_14 : decode cX5_weightOfAll 14 = .ok (.getfield 15, 3) := dz2 dzo180 14 0 15 dzbX5_weightOfAll_0 rfl
theorem dX5_weightOfAll_17 : decode cX5_weightOfAll 17 = .ok (.iload_n 3, 1) := dz0 dzo29 17 dzbX5_weightOfAll_0 rfl
theorem dX5_weightOfAll_18 : decode cX5_weightOfAll 18 = .ok (.laload, 1) := dz0 dzo47 18 dzbX5_weightOfAll_0 rfl
theorem dX5_weightOfAll_19 : decode cX5_weightOfAll 19 = .ok (.ladd, 1) := dz0 dzo97 19 dzbX5_weightOfAll_0 rfl
theorem dX5_weightOfAll_20 : decode cX5_weightOfAll 20 = .ok (.lstore_n 1, 1) := dz0 dzo64 20 dzbX5_weightOfAll_0 rfl
theorem dX5_weightOfAll_21 : decode cX5_weightOfAll 21 = .ok (.iinc 3 1, 3) := dz5 dzo132 21 3 1 1 rfl dzbX5_weightOfAll_0 rfl
theorem dzbX5_weightOfAll_24 : dzB cX5_weightOfAll 24 [167, 255, 236, 31, 173] := by decide +kernel
theorem dX5_weightOfAll_24 : decode cX5_weightOfAll 24 = .ok (.goto (-20), 3) := dz4 dzo167 0 255 236 (-20) rfl dzbX5_weightOfAll_24 rfl
theorem dX5_weightOfAll_27 : decode cX5_weightOfAll 27 = .ok (.lload_n 1, 1) := dz0 dzo31 3 dzbX5_weightOfAll_24 rfl
theorem dX5_weightOfAll_28 : decode cX5_weightOfAll 28 = .ok (.lreturn, 1) := dz0 dzo173 4 dzbX5_weightOfAll_24 rfl
theorem dzbX5_weightOver_0 : dzB cX5_weightOver 0 [9, 65, 3, 54, 4, 21, 4, 42, 180, 0, 35, 162, 0, 31, 42, 180, 0, 11, 21, 4, 46, 27, 126] := by decide +kernel
theorem dX5_weightOver_0 : decode cX5_weightOver 0 = .ok (.lconst 0, 1) := dz0 dzo9 0 dzbX5_weightOver_0 rfl
theorem dX5_weightOver_1 : decode cX5_weightOver 1 = .ok (.lstore_n 2, 1) := dz0 dzo65 1 dzbX5_weightOver_0 rfl
theorem dX5_weightOver_2 : decode cX5_weightOver 2 = .ok (.iconst 0, 1) := dz0 dzo3 2 dzbX5_weightOver_0 rfl
theorem dX5_weightOver_3 : decode cX5_weightOver 3 = .ok (.istore 4, 2) := dz1 dzo54 3 4 dzbX5_weightOver_0 rfl
theorem dX5_weightOver_5 : decode cX5_weightOver 5 = .ok (.iload 4, 2) := dz1 dzo21 5 4 dzbX5_weightOver_0 rfl
theorem dX5_weightOver_7 : decode cX5_weightOver 7 = .ok (.aload_n 0, 1) := dz0 dzo42 7 dzbX5_weightOver_0 rfl
theorem dX5_weightOver_8 : decode cX5_weightOver 8 = .ok (.getfield 35, 3) := dz2 dzo180 8 0 35 dzbX5_weightOver_0 rfl
theorem dX5_weightOver_11 : decode cX5_weightOver 11 = .ok (.if_icmp .ge 31, 3) := dz4 dzo162 11 0 31 31 rfl dzbX5_weightOver_0 rfl
theorem dX5_weightOver_14 : decode cX5_weightOver 14 = .ok (.aload_n 0, 1) := dz0 dzo42 14 dzbX5_weightOver_0 rfl
theorem dX5_weightOver_15 : decode cX5_weightOver 15 = .ok (.getfield 11, 3) := dz2 dzo180 15 0 11 dzbX5_weightOver_0 rfl
theorem dX5_weightOver_18 : decode cX5_weightOver 18 = .ok (.iload 4, 2) := dz1 dzo21 18 4 dzbX5_weightOver_0 rfl
theorem dX5_weightOver_20 : decode cX5_weightOver 20 = .ok (.iaload, 1) := dz0 dzo46 20 dzbX5_weightOver_0 rfl
theorem dX5_weightOver_21 : decode cX5_weightOver 21 = .ok (.iload_n 1, 1) := dz0 dzo27 21 dzbX5_weightOver_0 rfl
theorem dX5_weightOver_22 : decode cX5_weightOver 22 = .ok (.iand, 1) := dz0 dzo126 22 dzbX5_weightOver_0 rfl
theorem dzbX5_weightOver_23 : dzB cX5_weightOver 23 [153, 0, 13, 32, 42, 180, 0, 15, 21, 4, 47, 97, 65, 132, 4, 1, 167, 255, 222, 32, 173] := by decide +kernel
theorem dX5_weightOver_23 : decode cX5_weightOver 23 = .ok (.ifCond .eq 13, 3) := dz4 dzo153 0 0 13 13 rfl dzbX5_weightOver_23 rfl
theorem dX5_weightOver_26 : decode cX5_weightOver 26 = .ok (.lload_n 2, 1) := dz0 dzo32 3 dzbX5_weightOver_23 rfl
theorem dX5_weightOver_27 : decode cX5_weightOver 27 = .ok (.aload_n 0, 1) := dz0 dzo42 4 dzbX5_weightOver_23 rfl
theorem dX5_weightOver_28 : decode cX5_weightOver 28 = .ok (.getfield 15, 3) := dz2 dzo180 5 0 15 dzbX5_weightOver_23 rfl
theorem dX5_weightOver_31 : decode cX5_weightOver 31 = .ok (.iload 4, 2) := dz1 dzo21 8 4 dzbX5_weightOver_23 rfl
theorem dX5_weightOver_33 : decode cX5_weightOver 33 = .ok (.laload, 1) := dz0 dzo47 10 dzbX5_weightOver_23 rfl
theorem dX5_weightOver_34 : decode cX5_weightOver 34 = .ok (.ladd, 1) := dz0 dzo97 11 dzbX5_weightOver_23 rfl
theorem dX5_weightOver_35 : decode cX5_weightOver 35 = .ok (.lstore_n 2, 1) := dz0 dzo65 12 dzbX5_weightOver_23 rfl
theorem dX5_weightOver_36 : decode cX5_weightOver 36 = .ok (.iinc 4 1, 3) := dz5 dzo132 13 4 1 1 rfl dzbX5_weightOver_23 rfl
theorem dX5_weightOver_39 : decode cX5_weightOver 39 = .ok (.goto (-34), 3) := dz4 dzo167 16 255 222 (-34) rfl dzbX5_weightOver_23 rfl
theorem dX5_weightOver_42 : decode cX5_weightOver 42 = .ok (.lload_n 2, 1) := dz0 dzo32 19 dzbX5_weightOver_23 rfl
theorem dX5_weightOver_43 : decode cX5_weightOver 43 = .ok (.lreturn, 1) := dz0 dzo173 20 dzbX5_weightOver_23 rfl
theorem dzbX6_begin_0 : dzB cX6_begin 0 [42, 180, 0, 12, 43, 180, 0, 28, 182, 0, 31, 42, 43, 180, 0, 35, 181, 0, 39, 3, 61, 28, 7] := by decide +kernel
theorem dX6_begin_0 : decode cX6_begin 0 = .ok (.aload_n 0, 1) := dz0 dzo42 0 dzbX6_begin_0 rfl
theorem dX6_begin_1 : decode cX6_begin 1 = .ok (.getfield 12, 3) := dz2 dzo180 1 0 12 dzbX6_begin_0 rfl
theorem dX6_begin_4 : decode cX6_begin 4 = .ok (.aload_n 1, 1) := dz0 dzo43 4 dzbX6_begin_0 rfl
theorem dX6_begin_5 : decode cX6_begin 5 = .ok (.getfield 28, 3) := dz2 dzo180 5 0 28 dzbX6_begin_0 rfl
theorem dX6_begin_8 : decode cX6_begin 8 = .ok (.invokevirtual 31, 3) := dz2 dzo182 8 0 31 dzbX6_begin_0 rfl
theorem dX6_begin_11 : decode cX6_begin 11 = .ok (.aload_n 0, 1) := dz0 dzo42 11 dzbX6_begin_0 rfl
theorem dX6_begin_12 : decode cX6_begin 12 = .ok (.aload_n 1, 1) := dz0 dzo43 12 dzbX6_begin_0 rfl
theorem dX6_begin_13 : decode cX6_begin 13 = .ok (.getfield 35, 3) := dz2 dzo180 13 0 35 dzbX6_begin_0 rfl
theorem dX6_begin_16 : decode cX6_begin 16 = .ok (.putfield 39, 3) := dz2 dzo181 16 0 39 dzbX6_begin_0 rfl
theorem dX6_begin_19 : decode cX6_begin 19 = .ok (.iconst 0, 1) := dz0 dzo3 19 dzbX6_begin_0 rfl
theorem dX6_begin_20 : decode cX6_begin 20 = .ok (.istore_n 2, 1) := dz0 dzo61 20 dzbX6_begin_0 rfl
theorem dX6_begin_21 : decode cX6_begin 21 = .ok (.iload_n 2, 1) := dz0 dzo28 21 dzbX6_begin_0 rfl
theorem dX6_begin_22 : decode cX6_begin 22 = .ok (.iconst 4, 1) := dz0 dzo7 22 dzbX6_begin_0 rfl
theorem dzbX6_begin_23 : dzB cX6_begin 23 [162, 0, 35, 42, 180, 0, 18, 28, 43, 180, 0, 40, 28, 46, 79, 42, 180, 0, 22, 28, 3, 79, 42] := by decide +kernel
theorem dX6_begin_23 : decode cX6_begin 23 = .ok (.if_icmp .ge 35, 3) := dz4 dzo162 0 0 35 35 rfl dzbX6_begin_23 rfl
theorem dX6_begin_26 : decode cX6_begin 26 = .ok (.aload_n 0, 1) := dz0 dzo42 3 dzbX6_begin_23 rfl
theorem dX6_begin_27 : decode cX6_begin 27 = .ok (.getfield 18, 3) := dz2 dzo180 4 0 18 dzbX6_begin_23 rfl
theorem dX6_begin_30 : decode cX6_begin 30 = .ok (.iload_n 2, 1) := dz0 dzo28 7 dzbX6_begin_23 rfl
theorem dX6_begin_31 : decode cX6_begin 31 = .ok (.aload_n 1, 1) := dz0 dzo43 8 dzbX6_begin_23 rfl
theorem dX6_begin_32 : decode cX6_begin 32 = .ok (.getfield 40, 3) := dz2 dzo180 9 0 40 dzbX6_begin_23 rfl
theorem dX6_begin_35 : decode cX6_begin 35 = .ok (.iload_n 2, 1) := dz0 dzo28 12 dzbX6_begin_23 rfl
theorem dX6_begin_36 : decode cX6_begin 36 = .ok (.iaload, 1) := dz0 dzo46 13 dzbX6_begin_23 rfl
theorem dX6_begin_37 : decode cX6_begin 37 = .ok (.iastore, 1) := dz0 dzo79 14 dzbX6_begin_23 rfl
theorem dX6_begin_38 : decode cX6_begin 38 = .ok (.aload_n 0, 1) := dz0 dzo42 15 dzbX6_begin_23 rfl
theorem dX6_begin_39 : decode cX6_begin 39 = .ok (.getfield 22, 3) := dz2 dzo180 16 0 22 dzbX6_begin_23 rfl
theorem dX6_begin_42 : decode cX6_begin 42 = .ok (.iload_n 2, 1) := dz0 dzo28 19 dzbX6_begin_23 rfl
theorem dX6_begin_43 : decode cX6_begin 43 = .ok (.iconst 0, 1) := dz0 dzo3 20 dzbX6_begin_23 rfl
theorem dX6_begin_44 : decode cX6_begin 44 = .ok (.iastore, 1) := dz0 dzo79 21 dzbX6_begin_23 rfl
theorem dX6_begin_45 : decode cX6_begin 45 = .ok (.aload_n 0, 1) := dz0 dzo42 22 dzbX6_begin_23 rfl
theorem dzbX6_begin_46 : dzB cX6_begin 46 [180, 0, 25, 28, 3, 79, 132, 2, 1, 167, 255, 222, 177] := by decide +kernel
theorem dX6_begin_46 : decode cX6_begin 46 = .ok (.getfield 25, 3) := dz2 dzo180 0 0 25 dzbX6_begin_46 rfl
theorem dX6_begin_49 : decode cX6_begin 49 = .ok (.iload_n 2, 1) := dz0 dzo28 3 dzbX6_begin_46 rfl
theorem dX6_begin_50 : decode cX6_begin 50 = .ok (.iconst 0, 1) := dz0 dzo3 4 dzbX6_begin_46 rfl
theorem dX6_begin_51 : decode cX6_begin 51 = .ok (.iastore, 1) := dz0 dzo79 5 dzbX6_begin_46 rfl
theorem dX6_begin_52 : decode cX6_begin 52 = .ok (.iinc 2 1, 3) := dz5 dzo132 6 2 1 1 rfl dzbX6_begin_46 rfl
theorem dX6_begin_55 : decode cX6_begin 55 = .ok (.goto (-34), 3) := dz4 dzo167 9 255 222 (-34) rfl dzbX6_begin_46 rfl
theorem dX6_begin_58 : decode cX6_begin 58 = .ok (.return_, 1) := dz0 dzo177 12 dzbX6_begin_46 rfl
theorem dzbX6_go_0 : dzB cX6_go 0 [42, 180, 0, 12, 28, 42, 180, 0, 18, 27, 46, 29, 182, 0, 49, 54, 4, 21, 4, 16, 254, 159, 0, 58] := by decide +kernel
theorem dX6_go_0 : decode cX6_go 0 = .ok (.aload_n 0, 1) := dz0 dzo42 0 dzbX6_go_0 rfl
theorem dX6_go_1 : decode cX6_go 1 = .ok (.getfield 12, 3) := dz2 dzo180 1 0 12 dzbX6_go_0 rfl
theorem dX6_go_4 : decode cX6_go 4 = .ok (.iload_n 2, 1) := dz0 dzo28 4 dzbX6_go_0 rfl
theorem dX6_go_5 : decode cX6_go 5 = .ok (.aload_n 0, 1) := dz0 dzo42 5 dzbX6_go_0 rfl
theorem dX6_go_6 : decode cX6_go 6 = .ok (.getfield 18, 3) := dz2 dzo180 6 0 18 dzbX6_go_0 rfl
theorem dX6_go_9 : decode cX6_go 9 = .ok (.iload_n 1, 1) := dz0 dzo27 9 dzbX6_go_0 rfl
theorem dX6_go_10 : decode cX6_go 10 = .ok (.iaload, 1) := dz0 dzo46 10 dzbX6_go_0 rfl
theorem dX6_go_11 : decode cX6_go 11 = .ok (.iload_n 3, 1) := dz0 dzo29 11 dzbX6_go_0 rfl
theorem dX6_go_12 : decode cX6_go 12 = .ok (.invokevirtual 49, 3) := dz2 dzo182 12 0 49 dzbX6_go_0 rfl
theorem dX6_go_15 : decode cX6_go 15 = .ok (.istore 4, 2) := dz1 dzo54 15 4 dzbX6_go_0 rfl
theorem dX6_go_17 : decode cX6_go 17 = .ok (.iload 4, 2) := dz1 dzo21 17 4 dzbX6_go_0 rfl
theorem dX6_go_19 : decode cX6_go 19 = .ok (.bipush (-2), 2) := dz3 dzo16 19 254 (-2) rfl dzbX6_go_0 rfl
theorem dX6_go_21 : decode cX6_go 21 = .ok (.if_icmp .eq 58, 3) := dz4 dzo159 21 0 58 58 rfl dzbX6_go_0 rfl
theorem dzbX6_go_24 : dzB cX6_go 24 [42, 180, 0, 25, 27, 92, 46, 21, 4, 96, 79, 42, 180, 0, 22, 27, 92, 46, 42, 180, 0, 12, 28, 42] := by decide +kernel
theorem dX6_go_24 : decode cX6_go 24 = .ok (.aload_n 0, 1) := dz0 dzo42 0 dzbX6_go_24 rfl
theorem dX6_go_25 : decode cX6_go 25 = .ok (.getfield 25, 3) := dz2 dzo180 1 0 25 dzbX6_go_24 rfl
theorem dX6_go_28 : decode cX6_go 28 = .ok (.iload_n 1, 1) := dz0 dzo27 4 dzbX6_go_24 rfl
theorem dX6_go_29 : decode cX6_go 29 = .ok (.dup2, 1) := dz0 dzo92 5 dzbX6_go_24 rfl
theorem dX6_go_30 : decode cX6_go 30 = .ok (.iaload, 1) := dz0 dzo46 6 dzbX6_go_24 rfl
theorem dX6_go_31 : decode cX6_go 31 = .ok (.iload 4, 2) := dz1 dzo21 7 4 dzbX6_go_24 rfl
theorem dX6_go_33 : decode cX6_go 33 = .ok (.iadd, 1) := dz0 dzo96 9 dzbX6_go_24 rfl
theorem dX6_go_34 : decode cX6_go 34 = .ok (.iastore, 1) := dz0 dzo79 10 dzbX6_go_24 rfl
theorem dX6_go_35 : decode cX6_go 35 = .ok (.aload_n 0, 1) := dz0 dzo42 11 dzbX6_go_24 rfl
theorem dX6_go_36 : decode cX6_go 36 = .ok (.getfield 22, 3) := dz2 dzo180 12 0 22 dzbX6_go_24 rfl
theorem dX6_go_39 : decode cX6_go 39 = .ok (.iload_n 1, 1) := dz0 dzo27 15 dzbX6_go_24 rfl
theorem dX6_go_40 : decode cX6_go 40 = .ok (.dup2, 1) := dz0 dzo92 16 dzbX6_go_24 rfl
theorem dX6_go_41 : decode cX6_go 41 = .ok (.iaload, 1) := dz0 dzo46 17 dzbX6_go_24 rfl
theorem dX6_go_42 : decode cX6_go 42 = .ok (.aload_n 0, 1) := dz0 dzo42 18 dzbX6_go_24 rfl
theorem dX6_go_43 : decode cX6_go 43 = .ok (.getfield 12, 3) := dz2 dzo180 19 0 12 dzbX6_go_24 rfl
theorem dX6_go_46 : decode cX6_go 46 = .ok (.iload_n 2, 1) := dz0 dzo28 22 dzbX6_go_24 rfl
theorem dX6_go_47 : decode cX6_go 47 = .ok (.aload_n 0, 1) := dz0 dzo42 23 dzbX6_go_24 rfl
theorem dzbX6_go_48 : dzB cX6_go 48 [180, 0, 18, 27, 46, 29, 182, 0, 53, 96, 79, 42, 180, 0, 18, 27, 42, 180, 0, 12, 42, 180, 0, 18] := by decide +kernel
theorem dX6_go_48 : decode cX6_go 48 = .ok (.getfield 18, 3) := dz2 dzo180 0 0 18 dzbX6_go_48 rfl
theorem dX6_go_51 : decode cX6_go 51 = .ok (.iload_n 1, 1) := dz0 dzo27 3 dzbX6_go_48 rfl
theorem dX6_go_52 : decode cX6_go 52 = .ok (.iaload, 1) := dz0 dzo46 4 dzbX6_go_48 rfl
theorem dX6_go_53 : decode cX6_go 53 = .ok (.iload_n 3, 1) := dz0 dzo29 5 dzbX6_go_48 rfl
theorem dX6_go_54 : decode cX6_go 54 = .ok (.invokevirtual 53, 3) := dz2 dzo182 6 0 53 dzbX6_go_48 rfl
theorem dX6_go_57 : decode cX6_go 57 = .ok (.iadd, 1) := dz0 dzo96 9 dzbX6_go_48 rfl
theorem dX6_go_58 : decode cX6_go 58 = .ok (.iastore, 1) := dz0 dzo79 10 dzbX6_go_48 rfl
theorem dX6_go_59 : decode cX6_go 59 = .ok (.aload_n 0, 1) := dz0 dzo42 11 dzbX6_go_48 rfl
theorem dX6_go_60 : decode cX6_go 60 = .ok (.getfield 18, 3) := dz2 dzo180 12 0 18 dzbX6_go_48 rfl
theorem dX6_go_63 : decode cX6_go 63 = .ok (.iload_n 1, 1) := dz0 dzo27 15 dzbX6_go_48 rfl
theorem dX6_go_64 : decode cX6_go 64 = .ok (.aload_n 0, 1) := dz0 dzo42 16 dzbX6_go_48 rfl
theorem dX6_go_65 : decode cX6_go 65 = .ok (.getfield 12, 3) := dz2 dzo180 17 0 12 dzbX6_go_48 rfl
theorem dX6_go_68 : decode cX6_go 68 = .ok (.aload_n 0, 1) := dz0 dzo42 20 dzbX6_go_48 rfl
theorem dX6_go_69 : decode cX6_go 69 = .ok (.getfield 18, 3) := dz2 dzo180 21 0 18 dzbX6_go_48 rfl
theorem dzbX6_go_72 : dzB cX6_go 72 [27, 46, 29, 182, 0, 56, 79, 177] := by decide +kernel
theorem dX6_go_72 : decode cX6_go 72 = .ok (.iload_n 1, 1) := dz0 dzo27 0 dzbX6_go_72 rfl
theorem dX6_go_73 : decode cX6_go 73 = .ok (.iaload, 1) := dz0 dzo46 1 dzbX6_go_72 rfl
theorem dX6_go_74 : decode cX6_go 74 = .ok (.iload_n 3, 1) := dz0 dzo29 2 dzbX6_go_72 rfl
theorem dX6_go_75 : decode cX6_go 75 = .ok (.invokevirtual 56, 3) := dz2 dzo182 3 0 56 dzbX6_go_72 rfl
theorem dX6_go_78 : decode cX6_go 78 = .ok (.iastore, 1) := dz0 dzo79 6 dzbX6_go_72 rfl
theorem dX6_go_79 : decode cX6_go 79 = .ok (.return_, 1) := dz0 dzo177 7 dzbX6_go_72 rfl
theorem dzbX6_init_0 : dzB cX6_init 0 [42, 183, 0, 3, 42, 187, 0, 9, 89, 183, 0, 11, 181, 0, 12, 42, 7] := by decide +kernel
theorem dX6_init_0 : decode cX6_init 0 = .ok (.aload_n 0, 1) := dz0 dzo42 0 dzbX6_init_0 rfl
theorem dX6_init_1 : decode cX6_init 1 = .ok (.invokespecial 3, 3) := dz2 dzo183 1 0 3 dzbX6_init_0 rfl
theorem dX6_init_4 : decode cX6_init 4 = .ok (.aload_n 0, 1) := dz0 dzo42 4 dzbX6_init_0 rfl
theorem dX6_init_5 : decode cX6_init 5 = .ok (.new 9, 3) := dz2 dzo187 5 0 9 dzbX6_init_0 rfl
theorem dX6_init_8 : decode cX6_init 8 = .ok (.dup, 1) := dz0 dzo89 8 dzbX6_init_0 rfl
theorem dX6_init_9 : decode cX6_init 9 = .ok (.invokespecial 11, 3) := dz2 dzo183 9 0 11 dzbX6_init_0 rfl
theorem dX6_init_12 : decode cX6_init 12 = .ok (.putfield 12, 3) := dz2 dzo181 12 0 12 dzbX6_init_0 rfl
theorem dX6_init_15 : decode cX6_init 15 = .ok (.aload_n 0, 1) := dz0 dzo42 15 dzbX6_init_0 rfl
theorem dX6_init_16 : decode cX6_init 16 = .ok (.iconst 4, 1) := dz0 dzo7 16 dzbX6_init_0 rfl
theorem dX6_init_17 : decode cX6_init 17 = .ok (.newarray .int, 2) := by decide +kernel
theorem dzbX6_init_19 : dzB cX6_init 19 [181, 0, 18, 42, 7] := by decide +kernel
theorem dX6_init_19 : decode cX6_init 19 = .ok (.putfield 18, 3) := dz2 dzo181 0 0 18 dzbX6_init_19 rfl
theorem dX6_init_22 : decode cX6_init 22 = .ok (.aload_n 0, 1) := dz0 dzo42 3 dzbX6_init_19 rfl
theorem dX6_init_23 : decode cX6_init 23 = .ok (.iconst 4, 1) := dz0 dzo7 4 dzbX6_init_19 rfl
theorem dX6_init_24 : decode cX6_init 24 = .ok (.newarray .int, 2) := by decide +kernel
theorem dzbX6_init_26 : dzB cX6_init 26 [181, 0, 22, 42, 7] := by decide +kernel
theorem dX6_init_26 : decode cX6_init 26 = .ok (.putfield 22, 3) := dz2 dzo181 0 0 22 dzbX6_init_26 rfl
theorem dX6_init_29 : decode cX6_init 29 = .ok (.aload_n 0, 1) := dz0 dzo42 3 dzbX6_init_26 rfl
theorem dX6_init_30 : decode cX6_init 30 = .ok (.iconst 4, 1) := dz0 dzo7 4 dzbX6_init_26 rfl
theorem dX6_init_31 : decode cX6_init 31 = .ok (.newarray .int, 2) := by decide +kernel
theorem dzbX6_init_33 : dzB cX6_init 33 [181, 0, 25, 177] := by decide +kernel
theorem dX6_init_33 : decode cX6_init 33 = .ok (.putfield 25, 3) := dz2 dzo181 0 0 25 dzbX6_init_33 rfl
theorem dX6_init_36 : decode cX6_init 36 = .ok (.return_, 1) := dz0 dzo177 3 dzbX6_init_33 rfl
theorem dzbX6_take_0 : dzB cX6_take 0 [42, 180, 0, 12, 43, 180, 0, 12, 182, 0, 31, 42, 43, 180, 0, 39, 181, 0, 39, 43, 180, 0, 18, 3] := by decide +kernel
theorem dX6_take_0 : decode cX6_take 0 = .ok (.aload_n 0, 1) := dz0 dzo42 0 dzbX6_take_0 rfl
theorem dX6_take_1 : decode cX6_take 1 = .ok (.getfield 12, 3) := dz2 dzo180 1 0 12 dzbX6_take_0 rfl
theorem dX6_take_4 : decode cX6_take 4 = .ok (.aload_n 1, 1) := dz0 dzo43 4 dzbX6_take_0 rfl
theorem dX6_take_5 : decode cX6_take 5 = .ok (.getfield 12, 3) := dz2 dzo180 5 0 12 dzbX6_take_0 rfl
theorem dX6_take_8 : decode cX6_take 8 = .ok (.invokevirtual 31, 3) := dz2 dzo182 8 0 31 dzbX6_take_0 rfl
theorem dX6_take_11 : decode cX6_take 11 = .ok (.aload_n 0, 1) := dz0 dzo42 11 dzbX6_take_0 rfl
theorem dX6_take_12 : decode cX6_take 12 = .ok (.aload_n 1, 1) := dz0 dzo43 12 dzbX6_take_0 rfl
theorem dX6_take_13 : decode cX6_take 13 = .ok (.getfield 39, 3) := dz2 dzo180 13 0 39 dzbX6_take_0 rfl
theorem dX6_take_16 : decode cX6_take 16 = .ok (.putfield 39, 3) := dz2 dzo181 16 0 39 dzbX6_take_0 rfl
theorem dX6_take_19 : decode cX6_take 19 = .ok (.aload_n 1, 1) := dz0 dzo43 19 dzbX6_take_0 rfl
theorem dX6_take_20 : decode cX6_take 20 = .ok (.getfield 18, 3) := dz2 dzo180 20 0 18 dzbX6_take_0 rfl
theorem dX6_take_23 : decode cX6_take 23 = .ok (.iconst 0, 1) := dz0 dzo3 23 dzbX6_take_0 rfl
theorem dzbX6_take_24 : dzB cX6_take 24 [42, 180, 0, 18, 3, 7, 184, 0, 43, 43, 180, 0, 22, 3, 42, 180, 0, 22, 3, 7, 184, 0, 43, 43] := by decide +kernel
theorem dX6_take_24 : decode cX6_take 24 = .ok (.aload_n 0, 1) := dz0 dzo42 0 dzbX6_take_24 rfl
theorem dX6_take_25 : decode cX6_take 25 = .ok (.getfield 18, 3) := dz2 dzo180 1 0 18 dzbX6_take_24 rfl
theorem dX6_take_28 : decode cX6_take 28 = .ok (.iconst 0, 1) := dz0 dzo3 4 dzbX6_take_24 rfl
theorem dX6_take_29 : decode cX6_take 29 = .ok (.iconst 4, 1) := dz0 dzo7 5 dzbX6_take_24 rfl
theorem dX6_take_30 : decode cX6_take 30 = .ok (.invokestatic 43, 3) := dz2 dzo184 6 0 43 dzbX6_take_24 rfl
theorem dX6_take_33 : decode cX6_take 33 = .ok (.aload_n 1, 1) := dz0 dzo43 9 dzbX6_take_24 rfl
theorem dX6_take_34 : decode cX6_take 34 = .ok (.getfield 22, 3) := dz2 dzo180 10 0 22 dzbX6_take_24 rfl
theorem dX6_take_37 : decode cX6_take 37 = .ok (.iconst 0, 1) := dz0 dzo3 13 dzbX6_take_24 rfl
theorem dX6_take_38 : decode cX6_take 38 = .ok (.aload_n 0, 1) := dz0 dzo42 14 dzbX6_take_24 rfl
theorem dX6_take_39 : decode cX6_take 39 = .ok (.getfield 22, 3) := dz2 dzo180 15 0 22 dzbX6_take_24 rfl
theorem dX6_take_42 : decode cX6_take 42 = .ok (.iconst 0, 1) := dz0 dzo3 18 dzbX6_take_24 rfl
theorem dX6_take_43 : decode cX6_take 43 = .ok (.iconst 4, 1) := dz0 dzo7 19 dzbX6_take_24 rfl
theorem dX6_take_44 : decode cX6_take 44 = .ok (.invokestatic 43, 3) := dz2 dzo184 20 0 43 dzbX6_take_24 rfl
theorem dX6_take_47 : decode cX6_take 47 = .ok (.aload_n 1, 1) := dz0 dzo43 23 dzbX6_take_24 rfl
theorem dzbX6_take_48 : dzB cX6_take 48 [180, 0, 25, 3, 42, 180, 0, 25, 3, 7, 184, 0, 43, 177] := by decide +kernel
theorem dX6_take_48 : decode cX6_take 48 = .ok (.getfield 25, 3) := dz2 dzo180 0 0 25 dzbX6_take_48 rfl
theorem dX6_take_51 : decode cX6_take 51 = .ok (.iconst 0, 1) := dz0 dzo3 3 dzbX6_take_48 rfl
theorem dX6_take_52 : decode cX6_take 52 = .ok (.aload_n 0, 1) := dz0 dzo42 4 dzbX6_take_48 rfl
theorem dX6_take_53 : decode cX6_take 53 = .ok (.getfield 25, 3) := dz2 dzo180 5 0 25 dzbX6_take_48 rfl
theorem dX6_take_56 : decode cX6_take 56 = .ok (.iconst 0, 1) := dz0 dzo3 8 dzbX6_take_48 rfl
theorem dX6_take_57 : decode cX6_take 57 = .ok (.iconst 4, 1) := dz0 dzo7 9 dzbX6_take_48 rfl
theorem dX6_take_58 : decode cX6_take 58 = .ok (.invokestatic 43, 3) := dz2 dzo184 10 0 43 dzbX6_take_48 rfl
theorem dX6_take_61 : decode cX6_take 61 = .ok (.return_, 1) := dz0 dzo177 13 dzbX6_take_48 rfl
theorem dzbX6_walkersAt_0 : dzB cX6_walkersAt 0 [3, 61, 3, 62, 29, 42, 180, 0, 39, 162, 0, 25, 42, 180, 0, 18, 29, 46, 27, 160, 0, 9, 28, 4] := by decide +kernel
theorem dX6_walkersAt_0 : decode cX6_walkersAt 0 = .ok (.iconst 0, 1) := dz0 dzo3 0 dzbX6_walkersAt_0 rfl
theorem dX6_walkersAt_1 : decode cX6_walkersAt 1 = .ok (.istore_n 2, 1) := dz0 dzo61 1 dzbX6_walkersAt_0 rfl
theorem dX6_walkersAt_2 : decode cX6_walkersAt 2 = .ok (.iconst 0, 1) := dz0 dzo3 2 dzbX6_walkersAt_0 rfl
theorem dX6_walkersAt_3 : decode cX6_walkersAt 3 = .ok (.istore_n 3, 1) := dz0 dzo62 3 dzbX6_walkersAt_0 rfl
theorem dX6_walkersAt_4 : decode cX6_walkersAt 4 = .ok (.iload_n 3, 1) := dz0 dzo29 4 dzbX6_walkersAt_0 rfl
theorem dX6_walkersAt_5 : decode cX6_walkersAt 5 = .ok (.aload_n 0, 1) := dz0 dzo42 5 dzbX6_walkersAt_0 rfl
theorem dX6_walkersAt_6 : decode cX6_walkersAt 6 = .ok (.getfield 39, 3) := dz2 dzo180 6 0 39 dzbX6_walkersAt_0 rfl
theorem dX6_walkersAt_9 : decode cX6_walkersAt 9 = .ok (.if_icmp .ge 25, 3) := dz4 dzo162 9 0 25 25 rfl dzbX6_walkersAt_0 rfl
theorem dX6_walkersAt_12 : decode cX6_walkersAt 12 = .ok (.aload_n 0, 1) := dz0 dzo42 12 dzbX6_walkersAt_0 rfl
theorem dX6_walkersAt_13 : decode cX6_walkersAt 13 = .ok (.getfield 18, 3) := dz2 dzo180 13 0 18 dzbX6_walkersAt_0 rfl
theorem dX6_walkersAt_16 : decode cX6_walkersAt 16 = .ok (.iload_n 3, 1) := dz0 dzo29 16 dzbX6_walkersAt_0 rfl
theorem dX6_walkersAt_17 : decode cX6_walkersAt 17 = .ok (.iaload, 1) := dz0 dzo46 17 dzbX6_walkersAt_0 rfl
theorem dX6_walkersAt_18 : decode cX6_walkersAt 18 = .ok (.iload_n 1, 1) := dz0 dzo27 18 dzbX6_walkersAt_0 rfl
theorem dX6_walkersAt_19 : decode cX6_walkersAt 19 = .ok (.if_icmp .ne 9, 3) := dz4 dzo160 19 0 9 9 rfl dzbX6_walkersAt_0 rfl
theorem dX6_walkersAt_22 : decode cX6_walkersAt 22 = .ok (.iload_n 2, 1) := dz0 dzo28 22 dzbX6_walkersAt_0 rfl
theorem dX6_walkersAt_23 : decode cX6_walkersAt 23 = .ok (.iconst 1, 1) := dz0 dzo4 23 dzbX6_walkersAt_0 rfl
theorem dzbX6_walkersAt_24 : dzB cX6_walkersAt 24 [29, 120, 128, 61, 132, 3, 1, 167, 255, 229, 28, 172] := by decide +kernel
theorem dX6_walkersAt_24 : decode cX6_walkersAt 24 = .ok (.iload_n 3, 1) := dz0 dzo29 0 dzbX6_walkersAt_24 rfl
theorem dX6_walkersAt_25 : decode cX6_walkersAt 25 = .ok (.ishl, 1) := dz0 dzo120 1 dzbX6_walkersAt_24 rfl
theorem dX6_walkersAt_26 : decode cX6_walkersAt 26 = .ok (.ior, 1) := dz0 dzo128 2 dzbX6_walkersAt_24 rfl
theorem dX6_walkersAt_27 : decode cX6_walkersAt 27 = .ok (.istore_n 2, 1) := dz0 dzo61 3 dzbX6_walkersAt_24 rfl
theorem dX6_walkersAt_28 : decode cX6_walkersAt 28 = .ok (.iinc 3 1, 3) := dz5 dzo132 4 3 1 1 rfl dzbX6_walkersAt_24 rfl
theorem dX6_walkersAt_31 : decode cX6_walkersAt 31 = .ok (.goto (-27), 3) := dz4 dzo167 7 255 229 (-27) rfl dzbX6_walkersAt_24 rfl
theorem dX6_walkersAt_34 : decode cX6_walkersAt 34 = .ok (.iload_n 2, 1) := dz0 dzo28 10 dzbX6_walkersAt_24 rfl
theorem dX6_walkersAt_35 : decode cX6_walkersAt 35 = .ok (.ireturn, 1) := dz0 dzo172 11 dzbX6_walkersAt_24 rfl
theorem dzbX7_clear_0 : dzB cX7_clear 0 [42, 180, 0, 12, 3, 3, 182, 0, 45, 42, 3, 181, 0, 49, 42, 3, 181, 0, 53, 42, 3, 181, 0, 56] := by decide +kernel
theorem dX7_clear_0 : decode cX7_clear 0 = .ok (.aload_n 0, 1) := dz0 dzo42 0 dzbX7_clear_0 rfl
theorem dX7_clear_1 : decode cX7_clear 1 = .ok (.getfield 12, 3) := dz2 dzo180 1 0 12 dzbX7_clear_0 rfl
theorem dX7_clear_4 : decode cX7_clear 4 = .ok (.iconst 0, 1) := dz0 dzo3 4 dzbX7_clear_0 rfl
theorem dX7_clear_5 : decode cX7_clear 5 = .ok (.iconst 0, 1) := dz0 dzo3 5 dzbX7_clear_0 rfl
theorem dX7_clear_6 : decode cX7_clear 6 = .ok (.invokevirtual 45, 3) := dz2 dzo182 6 0 45 dzbX7_clear_0 rfl
theorem dX7_clear_9 : decode cX7_clear 9 = .ok (.aload_n 0, 1) := dz0 dzo42 9 dzbX7_clear_0 rfl
theorem dX7_clear_10 : decode cX7_clear 10 = .ok (.iconst 0, 1) := dz0 dzo3 10 dzbX7_clear_0 rfl
theorem dX7_clear_11 : decode cX7_clear 11 = .ok (.putfield 49, 3) := dz2 dzo181 11 0 49 dzbX7_clear_0 rfl
theorem dX7_clear_14 : decode cX7_clear 14 = .ok (.aload_n 0, 1) := dz0 dzo42 14 dzbX7_clear_0 rfl
theorem dX7_clear_15 : decode cX7_clear 15 = .ok (.iconst 0, 1) := dz0 dzo3 15 dzbX7_clear_0 rfl
theorem dX7_clear_16 : decode cX7_clear 16 = .ok (.putfield 53, 3) := dz2 dzo181 16 0 53 dzbX7_clear_0 rfl
theorem dX7_clear_19 : decode cX7_clear 19 = .ok (.aload_n 0, 1) := dz0 dzo42 19 dzbX7_clear_0 rfl
theorem dX7_clear_20 : decode cX7_clear 20 = .ok (.iconst 0, 1) := dz0 dzo3 20 dzbX7_clear_0 rfl
theorem dX7_clear_21 : decode cX7_clear 21 = .ok (.putfield 56, 3) := dz2 dzo181 21 0 56 dzbX7_clear_0 rfl
theorem dzbX7_clear_24 : dzB cX7_clear 24 [42, 3, 181, 0, 59, 177] := by decide +kernel
theorem dX7_clear_24 : decode cX7_clear 24 = .ok (.aload_n 0, 1) := dz0 dzo42 0 dzbX7_clear_24 rfl
theorem dX7_clear_25 : decode cX7_clear 25 = .ok (.iconst 0, 1) := dz0 dzo3 1 dzbX7_clear_24 rfl
theorem dX7_clear_26 : decode cX7_clear 26 = .ok (.putfield 59, 3) := dz2 dzo181 2 0 59 dzbX7_clear_24 rfl
theorem dX7_clear_29 : decode cX7_clear 29 = .ok (.return_, 1) := dz0 dzo177 5 dzbX7_clear_24 rfl
theorem dzbX7_hasAllRows_0 : dzB cX7_hasAllRows 0 [42, 182, 0, 65, 153, 0, 21, 42, 180, 0, 49, 42, 180, 0, 12, 180, 0, 69, 161, 0, 7, 4] := by decide +kernel
theorem dX7_hasAllRows_0 : decode cX7_hasAllRows 0 = .ok (.aload_n 0, 1) := dz0 dzo42 0 dzbX7_hasAllRows_0 rfl
theorem dX7_hasAllRows_1 : decode cX7_hasAllRows 1 = .ok (.invokevirtual 65, 3) := dz2 dzo182 1 0 65 dzbX7_hasAllRows_0 rfl
theorem dX7_hasAllRows_4 : decode cX7_hasAllRows 4 = .ok (.ifCond .eq 21, 3) := dz4 dzo153 4 0 21 21 rfl dzbX7_hasAllRows_0 rfl
theorem dX7_hasAllRows_7 : decode cX7_hasAllRows 7 = .ok (.aload_n 0, 1) := dz0 dzo42 7 dzbX7_hasAllRows_0 rfl
theorem dX7_hasAllRows_8 : decode cX7_hasAllRows 8 = .ok (.getfield 49, 3) := dz2 dzo180 8 0 49 dzbX7_hasAllRows_0 rfl
theorem dX7_hasAllRows_11 : decode cX7_hasAllRows 11 = .ok (.aload_n 0, 1) := dz0 dzo42 11 dzbX7_hasAllRows_0 rfl
theorem dX7_hasAllRows_12 : decode cX7_hasAllRows 12 = .ok (.getfield 12, 3) := dz2 dzo180 12 0 12 dzbX7_hasAllRows_0 rfl
theorem dX7_hasAllRows_15 : decode cX7_hasAllRows 15 = .ok (.getfield 69, 3) := dz2 dzo180 15 0 69 dzbX7_hasAllRows_0 rfl
theorem dX7_hasAllRows_18 : decode cX7_hasAllRows 18 = .ok (.if_icmp .lt 7, 3) := dz4 dzo161 18 0 7 7 rfl dzbX7_hasAllRows_0 rfl
theorem dX7_hasAllRows_21 : decode cX7_hasAllRows 21 = .ok (.iconst 1, 1) := dz0 dzo4 21 dzbX7_hasAllRows_0 rfl
theorem dzbX7_hasAllRows_22 : dzB cX7_hasAllRows 22 [167, 0, 4, 3, 172] := by decide +kernel
theorem dX7_hasAllRows_22 : decode cX7_hasAllRows 22 = .ok (.goto 4, 3) := dz4 dzo167 0 0 4 4 rfl dzbX7_hasAllRows_22 rfl
theorem dX7_hasAllRows_25 : decode cX7_hasAllRows 25 = .ok (.iconst 0, 1) := dz0 dzo3 3 dzbX7_hasAllRows_22 rfl
theorem dX7_hasAllRows_26 : decode cX7_hasAllRows 26 = .ok (.ireturn, 1) := dz0 dzo172 4 dzbX7_hasAllRows_22 rfl
theorem dzbX7_hasName_0 : dzB cX7_hasName 0 [3, 62, 29, 42, 180, 0, 56, 162, 0, 22, 42, 180, 0, 22, 29, 47, 31, 148, 154, 0, 5, 4, 172] := by decide +kernel
theorem dX7_hasName_0 : decode cX7_hasName 0 = .ok (.iconst 0, 1) := dz0 dzo3 0 dzbX7_hasName_0 rfl
theorem dX7_hasName_1 : decode cX7_hasName 1 = .ok (.istore_n 3, 1) := dz0 dzo62 1 dzbX7_hasName_0 rfl
theorem dX7_hasName_2 : decode cX7_hasName 2 = .ok (.iload_n 3, 1) := dz0 dzo29 2 dzbX7_hasName_0 rfl
theorem dX7_hasName_3 : decode cX7_hasName 3 = .ok (.aload_n 0, 1) := dz0 dzo42 3 dzbX7_hasName_0 rfl
theorem dX7_hasName_4 : decode cX7_hasName 4 = .ok (.getfield 56, 3) := dz2 dzo180 4 0 56 dzbX7_hasName_0 rfl
theorem dX7_hasName_7 : decode cX7_hasName 7 = .ok (.if_icmp .ge 22, 3) := dz4 dzo162 7 0 22 22 rfl dzbX7_hasName_0 rfl
theorem dX7_hasName_10 : decode cX7_hasName 10 = .ok (.aload_n 0, 1) := dz0 dzo42 10 dzbX7_hasName_0 rfl
theorem dX7_hasName_11 : decode cX7_hasName 11 = .ok (.getfield 22, 3) := dz2 dzo180 11 0 22 dzbX7_hasName_0 rfl
theorem dX7_hasName_14 : decode cX7_hasName 14 = .ok (.iload_n 3, 1) := dz0 dzo29 14 dzbX7_hasName_0 rfl
theorem dX7_hasName_15 : decode cX7_hasName 15 = .ok (.laload, 1) := dz0 dzo47 15 dzbX7_hasName_0 rfl
theorem dX7_hasName_16 : decode cX7_hasName 16 = .ok (.lload_n 1, 1) := dz0 dzo31 16 dzbX7_hasName_0 rfl
theorem dX7_hasName_17 : decode cX7_hasName 17 = .ok (.lcmp, 1) := dz0 dzo148 17 dzbX7_hasName_0 rfl
theorem dX7_hasName_18 : decode cX7_hasName 18 = .ok (.ifCond .ne 5, 3) := dz4 dzo154 18 0 5 5 rfl dzbX7_hasName_0 rfl
theorem dX7_hasName_21 : decode cX7_hasName 21 = .ok (.iconst 1, 1) := dz0 dzo4 21 dzbX7_hasName_0 rfl
theorem dX7_hasName_22 : decode cX7_hasName 22 = .ok (.ireturn, 1) := dz0 dzo172 22 dzbX7_hasName_0 rfl
theorem dzbX7_hasName_23 : dzB cX7_hasName 23 [132, 3, 1, 167, 255, 232, 3, 172] := by decide +kernel
theorem dX7_hasName_23 : decode cX7_hasName 23 = .ok (.iinc 3 1, 3) := dz5 dzo132 0 3 1 1 rfl dzbX7_hasName_23 rfl
theorem dX7_hasName_26 : decode cX7_hasName 26 = .ok (.goto (-24), 3) := dz4 dzo167 3 255 232 (-24) rfl dzbX7_hasName_23 rfl
theorem dX7_hasName_29 : decode cX7_hasName 29 = .ok (.iconst 0, 1) := dz0 dzo3 6 dzbX7_hasName_23 rfl
theorem dX7_hasName_30 : decode cX7_hasName 30 = .ok (.ireturn, 1) := dz0 dzo172 7 dzbX7_hasName_23 rfl
theorem dzbX7_init_0 : dzB cX7_init 0 [42, 183, 0, 3, 42, 187, 0, 9, 89, 183, 0, 11, 181, 0, 12, 42, 8] := by decide +kernel
theorem dX7_init_0 : decode cX7_init 0 = .ok (.aload_n 0, 1) := dz0 dzo42 0 dzbX7_init_0 rfl
theorem dX7_init_1 : decode cX7_init 1 = .ok (.invokespecial 3, 3) := dz2 dzo183 1 0 3 dzbX7_init_0 rfl
theorem dX7_init_4 : decode cX7_init 4 = .ok (.aload_n 0, 1) := dz0 dzo42 4 dzbX7_init_0 rfl
theorem dX7_init_5 : decode cX7_init 5 = .ok (.new 9, 3) := dz2 dzo187 5 0 9 dzbX7_init_0 rfl
theorem dX7_init_8 : decode cX7_init 8 = .ok (.dup, 1) := dz0 dzo89 8 dzbX7_init_0 rfl
theorem dX7_init_9 : decode cX7_init 9 = .ok (.invokespecial 11, 3) := dz2 dzo183 9 0 11 dzbX7_init_0 rfl
theorem dX7_init_12 : decode cX7_init 12 = .ok (.putfield 12, 3) := dz2 dzo181 12 0 12 dzbX7_init_0 rfl
theorem dX7_init_15 : decode cX7_init 15 = .ok (.aload_n 0, 1) := dz0 dzo42 15 dzbX7_init_0 rfl
theorem dX7_init_16 : decode cX7_init 16 = .ok (.iconst 5, 1) := dz0 dzo8 16 dzbX7_init_0 rfl
theorem dX7_init_17 : decode cX7_init 17 = .ok (.newarray .int, 2) := by decide +kernel
theorem dzbX7_init_19 : dzB cX7_init 19 [181, 0, 18, 42, 7] := by decide +kernel
theorem dX7_init_19 : decode cX7_init 19 = .ok (.putfield 18, 3) := dz2 dzo181 0 0 18 dzbX7_init_19 rfl
theorem dX7_init_22 : decode cX7_init 22 = .ok (.aload_n 0, 1) := dz0 dzo42 3 dzbX7_init_19 rfl
theorem dX7_init_23 : decode cX7_init 23 = .ok (.iconst 4, 1) := dz0 dzo7 4 dzbX7_init_19 rfl
theorem dX7_init_24 : decode cX7_init 24 = .ok (.newarray .long, 2) := by decide +kernel
theorem dzbX7_init_26 : dzB cX7_init 26 [181, 0, 22, 42, 7] := by decide +kernel
theorem dX7_init_26 : decode cX7_init 26 = .ok (.putfield 22, 3) := dz2 dzo181 0 0 22 dzbX7_init_26 rfl
theorem dX7_init_29 : decode cX7_init 29 = .ok (.aload_n 0, 1) := dz0 dzo42 3 dzbX7_init_26 rfl
theorem dX7_init_30 : decode cX7_init 30 = .ok (.iconst 4, 1) := dz0 dzo7 4 dzbX7_init_26 rfl
theorem dX7_init_31 : decode cX7_init 31 = .ok (.newarray .int, 2) := by decide +kernel
theorem dzbX7_init_33 : dzB cX7_init 33 [181, 0, 26, 42, 7] := by decide +kernel
theorem dX7_init_33 : decode cX7_init 33 = .ok (.putfield 26, 3) := dz2 dzo181 0 0 26 dzbX7_init_33 rfl
theorem dX7_init_36 : decode cX7_init 36 = .ok (.aload_n 0, 1) := dz0 dzo42 3 dzbX7_init_33 rfl
theorem dX7_init_37 : decode cX7_init 37 = .ok (.iconst 4, 1) := dz0 dzo7 4 dzbX7_init_33 rfl
theorem dX7_init_38 : decode cX7_init 38 = .ok (.newarray .int, 2) := by decide +kernel
theorem dzbX7_init_40 : dzB cX7_init 40 [181, 0, 29, 42, 7] := by decide +kernel
theorem dX7_init_40 : decode cX7_init 40 = .ok (.putfield 29, 3) := dz2 dzo181 0 0 29 dzbX7_init_40 rfl
theorem dX7_init_43 : decode cX7_init 43 = .ok (.aload_n 0, 1) := dz0 dzo42 3 dzbX7_init_40 rfl
theorem dX7_init_44 : decode cX7_init 44 = .ok (.iconst 4, 1) := dz0 dzo7 4 dzbX7_init_40 rfl
theorem dX7_init_45 : decode cX7_init 45 = .ok (.newarray .int, 2) := by decide +kernel
theorem dzbX7_init_47 : dzB cX7_init 47 [181, 0, 32, 42, 16, 6] := by decide +kernel
theorem dX7_init_47 : decode cX7_init 47 = .ok (.putfield 32, 3) := dz2 dzo181 0 0 32 dzbX7_init_47 rfl
theorem dX7_init_50 : decode cX7_init 50 = .ok (.aload_n 0, 1) := dz0 dzo42 3 dzbX7_init_47 rfl
theorem dX7_init_51 : decode cX7_init 51 = .ok (.bipush 6, 2) := dz3 dzo16 4 6 6 rfl dzbX7_init_47 rfl
theorem dX7_init_53 : decode cX7_init 53 = .ok (.newarray .int, 2) := by decide +kernel
theorem dzbX7_init_55 : dzB cX7_init 55 [181, 0, 35, 42, 16, 6] := by decide +kernel
theorem dX7_init_55 : decode cX7_init 55 = .ok (.putfield 35, 3) := dz2 dzo181 0 0 35 dzbX7_init_55 rfl
theorem dX7_init_58 : decode cX7_init 58 = .ok (.aload_n 0, 1) := dz0 dzo42 3 dzbX7_init_55 rfl
theorem dX7_init_59 : decode cX7_init 59 = .ok (.bipush 6, 2) := dz3 dzo16 4 6 6 rfl dzbX7_init_55 rfl
theorem dX7_init_61 : decode cX7_init 61 = .ok (.newarray .int, 2) := by decide +kernel
theorem dzbX7_init_63 : dzB cX7_init 63 [181, 0, 38, 42, 16, 6] := by decide +kernel
theorem dX7_init_63 : decode cX7_init 63 = .ok (.putfield 38, 3) := dz2 dzo181 0 0 38 dzbX7_init_63 rfl
theorem dX7_init_66 : decode cX7_init 66 = .ok (.aload_n 0, 1) := dz0 dzo42 3 dzbX7_init_63 rfl
theorem dX7_init_67 : decode cX7_init 67 = .ok (.bipush 6, 2) := dz3 dzo16 4 6 6 rfl dzbX7_init_63 rfl
theorem dX7_init_69 : decode cX7_init 69 = .ok (.newarray .boolean, 2) := by decide +kernel
theorem dzbX7_init_71 : dzB cX7_init 71 [181, 0, 41, 177] := by decide +kernel
theorem dX7_init_71 : decode cX7_init 71 = .ok (.putfield 41, 3) := dz2 dzo181 0 0 41 dzbX7_init_71 rfl
theorem dX7_init_74 : decode cX7_init 74 = .ok (.return_, 1) := dz0 dzo177 3 dzbX7_init_71 rfl
theorem dzbX7_isTold_0 : dzB cX7_isTold 0 [42, 180, 0, 12, 180, 0, 62, 158, 0, 7, 4, 167, 0, 4, 3, 172] := by decide +kernel
theorem dX7_isTold_0 : decode cX7_isTold 0 = .ok (.aload_n 0, 1) := dz0 dzo42 0 dzbX7_isTold_0 rfl
theorem dX7_isTold_1 : decode cX7_isTold 1 = .ok (.getfield 12, 3) := dz2 dzo180 1 0 12 dzbX7_isTold_0 rfl
theorem dX7_isTold_4 : decode cX7_isTold 4 = .ok (.getfield 62, 3) := dz2 dzo180 4 0 62 dzbX7_isTold_0 rfl
theorem dX7_isTold_7 : decode cX7_isTold 7 = .ok (.ifCond .le 7, 3) := dz4 dzo158 7 0 7 7 rfl dzbX7_isTold_0 rfl
theorem dX7_isTold_10 : decode cX7_isTold 10 = .ok (.iconst 1, 1) := dz0 dzo4 10 dzbX7_isTold_0 rfl
theorem dX7_isTold_11 : decode cX7_isTold 11 = .ok (.goto 4, 3) := dz4 dzo167 11 0 4 4 rfl dzbX7_isTold_0 rfl
theorem dX7_isTold_14 : decode cX7_isTold 14 = .ok (.iconst 0, 1) := dz0 dzo3 14 dzbX7_isTold_0 rfl
theorem dX7_isTold_15 : decode cX7_isTold 15 = .ok (.ireturn, 1) := dz0 dzo172 15 dzbX7_isTold_0 rfl
theorem dzbX7_isToldWrongly_0 : dzB cX7_isToldWrongly 0 [42, 180, 0, 12, 42, 180, 0, 35, 27, 46, 42, 180, 0, 38, 27, 46, 182, 0, 76, 28, 126, 153, 0, 7] := by decide +kernel
theorem dX7_isToldWrongly_0 : decode cX7_isToldWrongly 0 = .ok (.aload_n 0, 1) := dz0 dzo42 0 dzbX7_isToldWrongly_0 rfl
theorem dX7_isToldWrongly_1 : decode cX7_isToldWrongly 1 = .ok (.getfield 12, 3) := dz2 dzo180 1 0 12 dzbX7_isToldWrongly_0 rfl
theorem dX7_isToldWrongly_4 : decode cX7_isToldWrongly 4 = .ok (.aload_n 0, 1) := dz0 dzo42 4 dzbX7_isToldWrongly_0 rfl
theorem dX7_isToldWrongly_5 : decode cX7_isToldWrongly 5 = .ok (.getfield 35, 3) := dz2 dzo180 5 0 35 dzbX7_isToldWrongly_0 rfl
theorem dX7_isToldWrongly_8 : decode cX7_isToldWrongly 8 = .ok (.iload_n 1, 1) := dz0 dzo27 8 dzbX7_isToldWrongly_0 rfl
theorem dX7_isToldWrongly_9 : decode cX7_isToldWrongly 9 = .ok (.iaload, 1) := dz0 dzo46 9 dzbX7_isToldWrongly_0 rfl
theorem dX7_isToldWrongly_10 : decode cX7_isToldWrongly 10 = .ok (.aload_n 0, 1) := dz0 dzo42 10 dzbX7_isToldWrongly_0 rfl
theorem dX7_isToldWrongly_11 : decode cX7_isToldWrongly 11 = .ok (.getfield 38, 3) := dz2 dzo180 11 0 38 dzbX7_isToldWrongly_0 rfl
theorem dX7_isToldWrongly_14 : decode cX7_isToldWrongly 14 = .ok (.iload_n 1, 1) := dz0 dzo27 14 dzbX7_isToldWrongly_0 rfl
theorem dX7_isToldWrongly_15 : decode cX7_isToldWrongly 15 = .ok (.iaload, 1) := dz0 dzo46 15 dzbX7_isToldWrongly_0 rfl
theorem dX7_isToldWrongly_16 : decode cX7_isToldWrongly 16 = .ok (.invokevirtual 76, 3) := dz2 dzo182 16 0 76 dzbX7_isToldWrongly_0 rfl
theorem dX7_isToldWrongly_19 : decode cX7_isToldWrongly 19 = .ok (.iload_n 2, 1) := dz0 dzo28 19 dzbX7_isToldWrongly_0 rfl
theorem dX7_isToldWrongly_20 : decode cX7_isToldWrongly 20 = .ok (.iand, 1) := dz0 dzo126 20 dzbX7_isToldWrongly_0 rfl
theorem dX7_isToldWrongly_21 : decode cX7_isToldWrongly 21 = .ok (.ifCond .eq 7, 3) := dz4 dzo153 21 0 7 7 rfl dzbX7_isToldWrongly_0 rfl
theorem dzbX7_isToldWrongly_24 : dzB cX7_isToldWrongly 24 [4, 167, 0, 4, 3, 62, 29, 42, 180, 0, 41, 27, 51, 159, 0, 7, 4, 167, 0, 4, 3, 172] := by decide +kernel
theorem dX7_isToldWrongly_24 : decode cX7_isToldWrongly 24 = .ok (.iconst 1, 1) := dz0 dzo4 0 dzbX7_isToldWrongly_24 rfl
theorem dX7_isToldWrongly_25 : decode cX7_isToldWrongly 25 = .ok (.goto 4, 3) := dz4 dzo167 1 0 4 4 rfl dzbX7_isToldWrongly_24 rfl
theorem dX7_isToldWrongly_28 : decode cX7_isToldWrongly 28 = .ok (.iconst 0, 1) := dz0 dzo3 4 dzbX7_isToldWrongly_24 rfl
theorem dX7_isToldWrongly_29 : decode cX7_isToldWrongly 29 = .ok (.istore_n 3, 1) := dz0 dzo62 5 dzbX7_isToldWrongly_24 rfl
theorem dX7_isToldWrongly_30 : decode cX7_isToldWrongly 30 = .ok (.iload_n 3, 1) := dz0 dzo29 6 dzbX7_isToldWrongly_24 rfl
theorem dX7_isToldWrongly_31 : decode cX7_isToldWrongly 31 = .ok (.aload_n 0, 1) := dz0 dzo42 7 dzbX7_isToldWrongly_24 rfl
theorem dX7_isToldWrongly_32 : decode cX7_isToldWrongly 32 = .ok (.getfield 41, 3) := dz2 dzo180 8 0 41 dzbX7_isToldWrongly_24 rfl
theorem dX7_isToldWrongly_35 : decode cX7_isToldWrongly 35 = .ok (.iload_n 1, 1) := dz0 dzo27 11 dzbX7_isToldWrongly_24 rfl
theorem dX7_isToldWrongly_36 : decode cX7_isToldWrongly 36 = .ok (.baload, 1) := dz0 dzo51 12 dzbX7_isToldWrongly_24 rfl
theorem dX7_isToldWrongly_37 : decode cX7_isToldWrongly 37 = .ok (.if_icmp .eq 7, 3) := dz4 dzo159 13 0 7 7 rfl dzbX7_isToldWrongly_24 rfl
theorem dX7_isToldWrongly_40 : decode cX7_isToldWrongly 40 = .ok (.iconst 1, 1) := dz0 dzo4 16 dzbX7_isToldWrongly_24 rfl
theorem dX7_isToldWrongly_41 : decode cX7_isToldWrongly 41 = .ok (.goto 4, 3) := dz4 dzo167 17 0 4 4 rfl dzbX7_isToldWrongly_24 rfl
theorem dX7_isToldWrongly_44 : decode cX7_isToldWrongly 44 = .ok (.iconst 0, 1) := dz0 dzo3 20 dzbX7_isToldWrongly_24 rfl
theorem dX7_isToldWrongly_45 : decode cX7_isToldWrongly 45 = .ok (.ireturn, 1) := dz0 dzo172 21 dzbX7_isToldWrongly_24 rfl
theorem dzbX7_isUnsure_0 : dzB cX7_isUnsure 0 [42, 4, 42, 180, 0, 53, 120, 4, 100, 182, 0, 72, 27, 122, 4, 126, 4, 160, 0, 7, 4, 167, 0, 4] := by decide +kernel
theorem dX7_isUnsure_0 : decode cX7_isUnsure 0 = .ok (.aload_n 0, 1) := dz0 dzo42 0 dzbX7_isUnsure_0 rfl
theorem dX7_isUnsure_1 : decode cX7_isUnsure 1 = .ok (.iconst 1, 1) := dz0 dzo4 1 dzbX7_isUnsure_0 rfl
theorem dX7_isUnsure_2 : decode cX7_isUnsure 2 = .ok (.aload_n 0, 1) := dz0 dzo42 2 dzbX7_isUnsure_0 rfl
theorem dX7_isUnsure_3 : decode cX7_isUnsure 3 = .ok (.getfield 53, 3) := dz2 dzo180 3 0 53 dzbX7_isUnsure_0 rfl
theorem dX7_isUnsure_6 : decode cX7_isUnsure 6 = .ok (.ishl, 1) := dz0 dzo120 6 dzbX7_isUnsure_0 rfl
theorem dX7_isUnsure_7 : decode cX7_isUnsure 7 = .ok (.iconst 1, 1) := dz0 dzo4 7 dzbX7_isUnsure_0 rfl
theorem dX7_isUnsure_8 : decode cX7_isUnsure 8 = .ok (.isub, 1) := dz0 dzo100 8 dzbX7_isUnsure_0 rfl
theorem dX7_isUnsure_9 : decode cX7_isUnsure 9 = .ok (.invokevirtual 72, 3) := dz2 dzo182 9 0 72 dzbX7_isUnsure_0 rfl
theorem dX7_isUnsure_12 : decode cX7_isUnsure 12 = .ok (.iload_n 1, 1) := dz0 dzo27 12 dzbX7_isUnsure_0 rfl
theorem dX7_isUnsure_13 : decode cX7_isUnsure 13 = .ok (.ishr, 1) := dz0 dzo122 13 dzbX7_isUnsure_0 rfl
theorem dX7_isUnsure_14 : decode cX7_isUnsure 14 = .ok (.iconst 1, 1) := dz0 dzo4 14 dzbX7_isUnsure_0 rfl
theorem dX7_isUnsure_15 : decode cX7_isUnsure 15 = .ok (.iand, 1) := dz0 dzo126 15 dzbX7_isUnsure_0 rfl
theorem dX7_isUnsure_16 : decode cX7_isUnsure 16 = .ok (.iconst 1, 1) := dz0 dzo4 16 dzbX7_isUnsure_0 rfl
theorem dX7_isUnsure_17 : decode cX7_isUnsure 17 = .ok (.if_icmp .ne 7, 3) := dz4 dzo160 17 0 7 7 rfl dzbX7_isUnsure_0 rfl
theorem dX7_isUnsure_20 : decode cX7_isUnsure 20 = .ok (.iconst 1, 1) := dz0 dzo4 20 dzbX7_isUnsure_0 rfl
theorem dX7_isUnsure_21 : decode cX7_isUnsure 21 = .ok (.goto 4, 3) := dz4 dzo167 21 0 4 4 rfl dzbX7_isUnsure_0 rfl
theorem dzbX7_isUnsure_24 : dzB cX7_isUnsure 24 [3, 172] := by decide +kernel
theorem dX7_isUnsure_24 : decode cX7_isUnsure 24 = .ok (.iconst 0, 1) := dz0 dzo3 0 dzbX7_isUnsure_24 rfl
theorem dX7_isUnsure_25 : decode cX7_isUnsure 25 = .ok (.ireturn, 1) := dz0 dzo172 1 dzbX7_isUnsure_24 rfl
theorem dzbX7_unsureBits_0 : dzB cX7_unsureBits 0 [3, 61, 3, 62, 29, 42, 180, 0, 53, 162, 0, 29, 27, 29, 122, 4, 126, 4, 160, 0, 14, 28, 4, 42] := by decide +kernel
theorem dX7_unsureBits_0 : decode cX7_unsureBits 0 = .ok (.iconst 0, 1) := dz0 dzo3 0 dzbX7_unsureBits_0 rfl
theorem dX7_unsureBits_1 : decode cX7_unsureBits 1 = .ok (.istore_n 2, 1) := dz0 dzo61 1 dzbX7_unsureBits_0 rfl
theorem dX7_unsureBits_2 : decode cX7_unsureBits 2 = .ok (.iconst 0, 1) := dz0 dzo3 2 dzbX7_unsureBits_0 rfl
theorem dX7_unsureBits_3 : decode cX7_unsureBits 3 = .ok (.istore_n 3, 1) := dz0 dzo62 3 dzbX7_unsureBits_0 rfl
theorem dX7_unsureBits_4 : decode cX7_unsureBits 4 = .ok (.iload_n 3, 1) := dz0 dzo29 4 dzbX7_unsureBits_0 rfl
theorem dX7_unsureBits_5 : decode cX7_unsureBits 5 = .ok (.aload_n 0, 1) := dz0 dzo42 5 dzbX7_unsureBits_0 rfl
theorem dX7_unsureBits_6 : decode cX7_unsureBits 6 = .ok (.getfield 53, 3) := dz2 dzo180 6 0 53 dzbX7_unsureBits_0 rfl
theorem dX7_unsureBits_9 : decode cX7_unsureBits 9 = .ok (.if_icmp .ge 29, 3) := dz4 dzo162 9 0 29 29 rfl dzbX7_unsureBits_0 rfl
theorem dX7_unsureBits_12 : decode cX7_unsureBits 12 = .ok (.iload_n 1, 1) := dz0 dzo27 12 dzbX7_unsureBits_0 rfl
theorem dX7_unsureBits_13 : decode cX7_unsureBits 13 = .ok (.iload_n 3, 1) := dz0 dzo29 13 dzbX7_unsureBits_0 rfl
theorem dX7_unsureBits_14 : decode cX7_unsureBits 14 = .ok (.ishr, 1) := dz0 dzo122 14 dzbX7_unsureBits_0 rfl
theorem dX7_unsureBits_15 : decode cX7_unsureBits 15 = .ok (.iconst 1, 1) := dz0 dzo4 15 dzbX7_unsureBits_0 rfl
theorem dX7_unsureBits_16 : decode cX7_unsureBits 16 = .ok (.iand, 1) := dz0 dzo126 16 dzbX7_unsureBits_0 rfl
theorem dX7_unsureBits_17 : decode cX7_unsureBits 17 = .ok (.iconst 1, 1) := dz0 dzo4 17 dzbX7_unsureBits_0 rfl
theorem dX7_unsureBits_18 : decode cX7_unsureBits 18 = .ok (.if_icmp .ne 14, 3) := dz4 dzo160 18 0 14 14 rfl dzbX7_unsureBits_0 rfl
theorem dX7_unsureBits_21 : decode cX7_unsureBits 21 = .ok (.iload_n 2, 1) := dz0 dzo28 21 dzbX7_unsureBits_0 rfl
theorem dX7_unsureBits_22 : decode cX7_unsureBits 22 = .ok (.iconst 1, 1) := dz0 dzo4 22 dzbX7_unsureBits_0 rfl
theorem dX7_unsureBits_23 : decode cX7_unsureBits 23 = .ok (.aload_n 0, 1) := dz0 dzo42 23 dzbX7_unsureBits_0 rfl
theorem dzbX7_unsureBits_24 : dzB cX7_unsureBits 24 [180, 0, 18, 29, 46, 120, 128, 61, 132, 3, 1, 167, 255, 225, 28, 172] := by decide +kernel
theorem dX7_unsureBits_24 : decode cX7_unsureBits 24 = .ok (.getfield 18, 3) := dz2 dzo180 0 0 18 dzbX7_unsureBits_24 rfl
theorem dX7_unsureBits_27 : decode cX7_unsureBits 27 = .ok (.iload_n 3, 1) := dz0 dzo29 3 dzbX7_unsureBits_24 rfl
theorem dX7_unsureBits_28 : decode cX7_unsureBits 28 = .ok (.iaload, 1) := dz0 dzo46 4 dzbX7_unsureBits_24 rfl
theorem dX7_unsureBits_29 : decode cX7_unsureBits 29 = .ok (.ishl, 1) := dz0 dzo120 5 dzbX7_unsureBits_24 rfl
theorem dX7_unsureBits_30 : decode cX7_unsureBits 30 = .ok (.ior, 1) := dz0 dzo128 6 dzbX7_unsureBits_24 rfl
theorem dX7_unsureBits_31 : decode cX7_unsureBits 31 = .ok (.istore_n 2, 1) := dz0 dzo61 7 dzbX7_unsureBits_24 rfl
theorem dX7_unsureBits_32 : decode cX7_unsureBits 32 = .ok (.iinc 3 1, 3) := dz5 dzo132 8 3 1 1 rfl dzbX7_unsureBits_24 rfl
theorem dX7_unsureBits_35 : decode cX7_unsureBits 35 = .ok (.goto (-31), 3) := dz4 dzo167 11 255 225 (-31) rfl dzbX7_unsureBits_24 rfl
theorem dX7_unsureBits_38 : decode cX7_unsureBits 38 = .ok (.iload_n 2, 1) := dz0 dzo28 14 dzbX7_unsureBits_24 rfl
theorem dX7_unsureBits_39 : decode cX7_unsureBits 39 = .ok (.ireturn, 1) := dz0 dzo172 15 dzbX7_unsureBits_24 rfl
theorem dzbX8_fewest_0 : dzB cX8_fewest 0 [3, 61, 28, 6, 163, 0, 27, 42, 27, 28, 16, 20, 3, 182, 0, 11, 62, 29, 16, 254, 159, 0, 5, 29] := by decide +kernel
theorem dX8_fewest_0 : decode cX8_fewest 0 = .ok (.iconst 0, 1) := dz0 dzo3 0 dzbX8_fewest_0 rfl
theorem dX8_fewest_1 : decode cX8_fewest 1 = .ok (.istore_n 2, 1) := dz0 dzo61 1 dzbX8_fewest_0 rfl
theorem dX8_fewest_2 : decode cX8_fewest 2 = .ok (.iload_n 2, 1) := dz0 dzo28 2 dzbX8_fewest_0 rfl
theorem dX8_fewest_3 : decode cX8_fewest 3 = .ok (.iconst 3, 1) := dz0 dzo6 3 dzbX8_fewest_0 rfl
theorem dX8_fewest_4 : decode cX8_fewest 4 = .ok (.if_icmp .gt 27, 3) := dz4 dzo163 4 0 27 27 rfl dzbX8_fewest_0 rfl
theorem dX8_fewest_7 : decode cX8_fewest 7 = .ok (.aload_n 0, 1) := dz0 dzo42 7 dzbX8_fewest_0 rfl
theorem dX8_fewest_8 : decode cX8_fewest 8 = .ok (.iload_n 1, 1) := dz0 dzo27 8 dzbX8_fewest_0 rfl
theorem dX8_fewest_9 : decode cX8_fewest 9 = .ok (.iload_n 2, 1) := dz0 dzo28 9 dzbX8_fewest_0 rfl
theorem dX8_fewest_10 : decode cX8_fewest 10 = .ok (.bipush 20, 2) := dz3 dzo16 10 20 20 rfl dzbX8_fewest_0 rfl
theorem dX8_fewest_12 : decode cX8_fewest 12 = .ok (.iconst 0, 1) := dz0 dzo3 12 dzbX8_fewest_0 rfl
theorem dX8_fewest_13 : decode cX8_fewest 13 = .ok (.invokevirtual 11, 3) := dz2 dzo182 13 0 11 dzbX8_fewest_0 rfl
theorem dX8_fewest_16 : decode cX8_fewest 16 = .ok (.istore_n 3, 1) := dz0 dzo62 16 dzbX8_fewest_0 rfl
theorem dX8_fewest_17 : decode cX8_fewest 17 = .ok (.iload_n 3, 1) := dz0 dzo29 17 dzbX8_fewest_0 rfl
theorem dX8_fewest_18 : decode cX8_fewest 18 = .ok (.bipush (-2), 2) := dz3 dzo16 18 254 (-2) rfl dzbX8_fewest_0 rfl
theorem dX8_fewest_20 : decode cX8_fewest 20 = .ok (.if_icmp .eq 5, 3) := dz4 dzo159 20 0 5 5 rfl dzbX8_fewest_0 rfl
theorem dX8_fewest_23 : decode cX8_fewest 23 = .ok (.iload_n 3, 1) := dz0 dzo29 23 dzbX8_fewest_0 rfl
theorem dzbX8_fewest_24 : dzB cX8_fewest 24 [172, 132, 2, 1, 167, 255, 230, 16, 254, 172] := by decide +kernel
theorem dX8_fewest_24 : decode cX8_fewest 24 = .ok (.ireturn, 1) := dz0 dzo172 0 dzbX8_fewest_24 rfl
theorem dX8_fewest_25 : decode cX8_fewest 25 = .ok (.iinc 2 1, 3) := dz5 dzo132 1 2 1 1 rfl dzbX8_fewest_24 rfl
theorem dX8_fewest_28 : decode cX8_fewest 28 = .ok (.goto (-26), 3) := dz4 dzo167 4 255 230 (-26) rfl dzbX8_fewest_24 rfl
theorem dX8_fewest_31 : decode cX8_fewest 31 = .ok (.bipush (-2), 2) := dz3 dzo16 7 254 (-2) rfl dzbX8_fewest_24 rfl
theorem dX8_fewest_33 : decode cX8_fewest 33 = .ok (.ireturn, 1) := dz0 dzo172 9 dzbX8_fewest_24 rfl
theorem dzbX8_init_0 : dzB cX8_init 0 [42, 183, 0, 3, 177] := by decide +kernel
theorem dX8_init_0 : decode cX8_init 0 = .ok (.aload_n 0, 1) := dz0 dzo42 0 dzbX8_init_0 rfl
theorem dX8_init_1 : decode cX8_init 1 = .ok (.invokespecial 3, 3) := dz2 dzo183 1 0 3 dzbX8_init_0 rfl
theorem dX8_init_4 : decode cX8_init 4 = .ok (.return_, 1) := dz0 dzo177 4 dzbX8_init_0 rfl
theorem dzbX8_leastOf_0 : dzB cX8_leastOf 0 [28, 157, 0, 20, 42, 21, 4, 182, 0, 15, 153, 0, 8, 21, 4, 167, 0, 5, 16, 254, 172, 3, 54, 5] := by decide +kernel
theorem dX8_leastOf_0 : decode cX8_leastOf 0 = .ok (.iload_n 2, 1) := dz0 dzo28 0 dzbX8_leastOf_0 rfl
theorem dX8_leastOf_1 : decode cX8_leastOf 1 = .ok (.ifCond .gt 20, 3) := dz4 dzo157 1 0 20 20 rfl dzbX8_leastOf_0 rfl
theorem dX8_leastOf_4 : decode cX8_leastOf 4 = .ok (.aload_n 0, 1) := dz0 dzo42 4 dzbX8_leastOf_0 rfl
theorem dX8_leastOf_5 : decode cX8_leastOf 5 = .ok (.iload 4, 2) := dz1 dzo21 5 4 dzbX8_leastOf_0 rfl
theorem dX8_leastOf_7 : decode cX8_leastOf 7 = .ok (.invokevirtual 15, 3) := dz2 dzo182 7 0 15 dzbX8_leastOf_0 rfl
theorem dX8_leastOf_10 : decode cX8_leastOf 10 = .ok (.ifCond .eq 8, 3) := dz4 dzo153 10 0 8 8 rfl dzbX8_leastOf_0 rfl
theorem dX8_leastOf_13 : decode cX8_leastOf 13 = .ok (.iload 4, 2) := dz1 dzo21 13 4 dzbX8_leastOf_0 rfl
theorem dX8_leastOf_15 : decode cX8_leastOf 15 = .ok (.goto 5, 3) := dz4 dzo167 15 0 5 5 rfl dzbX8_leastOf_0 rfl
theorem dX8_leastOf_18 : decode cX8_leastOf 18 = .ok (.bipush (-2), 2) := dz3 dzo16 18 254 (-2) rfl dzbX8_leastOf_0 rfl
theorem dX8_leastOf_20 : decode cX8_leastOf 20 = .ok (.ireturn, 1) := dz0 dzo172 20 dzbX8_leastOf_0 rfl
theorem dX8_leastOf_21 : decode cX8_leastOf 21 = .ok (.iconst 0, 1) := dz0 dzo3 21 dzbX8_leastOf_0 rfl
theorem dX8_leastOf_22 : decode cX8_leastOf 22 = .ok (.istore 5, 2) := dz1 dzo54 22 5 dzbX8_leastOf_0 rfl
theorem dzbX8_leastOf_24 : dzB cX8_leastOf 24 [21, 5, 29, 162, 0, 48, 27, 21, 5, 122, 4, 126, 4, 160, 0, 32, 42, 27, 28, 4, 100, 21, 5] := by decide +kernel
theorem dX8_leastOf_24 : decode cX8_leastOf 24 = .ok (.iload 5, 2) := dz1 dzo21 0 5 dzbX8_leastOf_24 rfl
theorem dX8_leastOf_26 : decode cX8_leastOf 26 = .ok (.iload_n 3, 1) := dz0 dzo29 2 dzbX8_leastOf_24 rfl
theorem dX8_leastOf_27 : decode cX8_leastOf 27 = .ok (.if_icmp .ge 48, 3) := dz4 dzo162 3 0 48 48 rfl dzbX8_leastOf_24 rfl
theorem dX8_leastOf_30 : decode cX8_leastOf 30 = .ok (.iload_n 1, 1) := dz0 dzo27 6 dzbX8_leastOf_24 rfl
theorem dX8_leastOf_31 : decode cX8_leastOf 31 = .ok (.iload 5, 2) := dz1 dzo21 7 5 dzbX8_leastOf_24 rfl
theorem dX8_leastOf_33 : decode cX8_leastOf 33 = .ok (.ishr, 1) := dz0 dzo122 9 dzbX8_leastOf_24 rfl
theorem dX8_leastOf_34 : decode cX8_leastOf 34 = .ok (.iconst 1, 1) := dz0 dzo4 10 dzbX8_leastOf_24 rfl
theorem dX8_leastOf_35 : decode cX8_leastOf 35 = .ok (.iand, 1) := dz0 dzo126 11 dzbX8_leastOf_24 rfl
theorem dX8_leastOf_36 : decode cX8_leastOf 36 = .ok (.iconst 1, 1) := dz0 dzo4 12 dzbX8_leastOf_24 rfl
theorem dX8_leastOf_37 : decode cX8_leastOf 37 = .ok (.if_icmp .ne 32, 3) := dz4 dzo160 13 0 32 32 rfl dzbX8_leastOf_24 rfl
theorem dX8_leastOf_40 : decode cX8_leastOf 40 = .ok (.aload_n 0, 1) := dz0 dzo42 16 dzbX8_leastOf_24 rfl
theorem dX8_leastOf_41 : decode cX8_leastOf 41 = .ok (.iload_n 1, 1) := dz0 dzo27 17 dzbX8_leastOf_24 rfl
theorem dX8_leastOf_42 : decode cX8_leastOf 42 = .ok (.iload_n 2, 1) := dz0 dzo28 18 dzbX8_leastOf_24 rfl
theorem dX8_leastOf_43 : decode cX8_leastOf 43 = .ok (.iconst 1, 1) := dz0 dzo4 19 dzbX8_leastOf_24 rfl
theorem dX8_leastOf_44 : decode cX8_leastOf 44 = .ok (.isub, 1) := dz0 dzo100 20 dzbX8_leastOf_24 rfl
theorem dX8_leastOf_45 : decode cX8_leastOf 45 = .ok (.iload 5, 2) := dz1 dzo21 21 5 dzbX8_leastOf_24 rfl
theorem dzbX8_leastOf_47 : dzB cX8_leastOf 47 [21, 4, 4, 21, 5, 120, 128, 182, 0, 11, 54, 6, 21, 6, 16, 254, 159, 0, 6, 21, 6, 172] := by decide +kernel
theorem dX8_leastOf_47 : decode cX8_leastOf 47 = .ok (.iload 4, 2) := dz1 dzo21 0 4 dzbX8_leastOf_47 rfl
theorem dX8_leastOf_49 : decode cX8_leastOf 49 = .ok (.iconst 1, 1) := dz0 dzo4 2 dzbX8_leastOf_47 rfl
theorem dX8_leastOf_50 : decode cX8_leastOf 50 = .ok (.iload 5, 2) := dz1 dzo21 3 5 dzbX8_leastOf_47 rfl
theorem dX8_leastOf_52 : decode cX8_leastOf 52 = .ok (.ishl, 1) := dz0 dzo120 5 dzbX8_leastOf_47 rfl
theorem dX8_leastOf_53 : decode cX8_leastOf 53 = .ok (.ior, 1) := dz0 dzo128 6 dzbX8_leastOf_47 rfl
theorem dX8_leastOf_54 : decode cX8_leastOf 54 = .ok (.invokevirtual 11, 3) := dz2 dzo182 7 0 11 dzbX8_leastOf_47 rfl
theorem dX8_leastOf_57 : decode cX8_leastOf 57 = .ok (.istore 6, 2) := dz1 dzo54 10 6 dzbX8_leastOf_47 rfl
theorem dX8_leastOf_59 : decode cX8_leastOf 59 = .ok (.iload 6, 2) := dz1 dzo21 12 6 dzbX8_leastOf_47 rfl
theorem dX8_leastOf_61 : decode cX8_leastOf 61 = .ok (.bipush (-2), 2) := dz3 dzo16 14 254 (-2) rfl dzbX8_leastOf_47 rfl
theorem dX8_leastOf_63 : decode cX8_leastOf 63 = .ok (.if_icmp .eq 6, 3) := dz4 dzo159 16 0 6 6 rfl dzbX8_leastOf_47 rfl
theorem dX8_leastOf_66 : decode cX8_leastOf 66 = .ok (.iload 6, 2) := dz1 dzo21 19 6 dzbX8_leastOf_47 rfl
theorem dX8_leastOf_68 : decode cX8_leastOf 68 = .ok (.ireturn, 1) := dz0 dzo172 21 dzbX8_leastOf_47 rfl
theorem dzbX8_leastOf_69 : dzB cX8_leastOf 69 [132, 5, 1, 167, 255, 208, 16, 254, 172] := by decide +kernel
theorem dX8_leastOf_69 : decode cX8_leastOf 69 = .ok (.iinc 5 1, 3) := dz5 dzo132 0 5 1 1 rfl dzbX8_leastOf_69 rfl
theorem dX8_leastOf_72 : decode cX8_leastOf 72 = .ok (.goto (-48), 3) := dz4 dzo167 3 255 208 (-48) rfl dzbX8_leastOf_69 rfl
theorem dX8_leastOf_75 : decode cX8_leastOf 75 = .ok (.bipush (-2), 2) := dz3 dzo16 6 254 (-2) rfl dzbX8_leastOf_69 rfl
theorem dX8_leastOf_77 : decode cX8_leastOf 77 = .ok (.ireturn, 1) := dz0 dzo172 8 dzbX8_leastOf_69 rfl
theorem dzbX9_append_0 : dzB cX9_append 0 [42, 180, 0, 15, 7, 96, 17, 3, 32, 163, 0, 72, 42, 180, 0, 11, 42, 180, 0, 15, 27, 16, 24, 122] := by decide +kernel
theorem dX9_append_0 : decode cX9_append 0 = .ok (.aload_n 0, 1) := dz0 dzo42 0 dzbX9_append_0 rfl
theorem dX9_append_1 : decode cX9_append 1 = .ok (.getfield 15, 3) := dz2 dzo180 1 0 15 dzbX9_append_0 rfl
theorem dX9_append_4 : decode cX9_append 4 = .ok (.iconst 4, 1) := dz0 dzo7 4 dzbX9_append_0 rfl
theorem dX9_append_5 : decode cX9_append 5 = .ok (.iadd, 1) := dz0 dzo96 5 dzbX9_append_0 rfl
theorem dX9_append_6 : decode cX9_append 6 = .ok (.sipush 800, 3) := dz4 dzo17 6 3 32 800 rfl dzbX9_append_0 rfl
theorem dX9_append_9 : decode cX9_append 9 = .ok (.if_icmp .gt 72, 3) := dz4 dzo163 9 0 72 72 rfl dzbX9_append_0 rfl
theorem dX9_append_12 : decode cX9_append 12 = .ok (.aload_n 0, 1) := dz0 dzo42 12 dzbX9_append_0 rfl
theorem dX9_append_13 : decode cX9_append 13 = .ok (.getfield 11, 3) := dz2 dzo180 13 0 11 dzbX9_append_0 rfl
theorem dX9_append_16 : decode cX9_append 16 = .ok (.aload_n 0, 1) := dz0 dzo42 16 dzbX9_append_0 rfl
theorem dX9_append_17 : decode cX9_append 17 = .ok (.getfield 15, 3) := dz2 dzo180 17 0 15 dzbX9_append_0 rfl
theorem dX9_append_20 : decode cX9_append 20 = .ok (.iload_n 1, 1) := dz0 dzo27 20 dzbX9_append_0 rfl
theorem dX9_append_21 : decode cX9_append 21 = .ok (.bipush 24, 2) := dz3 dzo16 21 24 24 rfl dzbX9_append_0 rfl
theorem dX9_append_23 : decode cX9_append 23 = .ok (.ishr, 1) := dz0 dzo122 23 dzbX9_append_0 rfl
theorem dzbX9_append_24 : dzB cX9_append 24 [145, 84, 42, 180, 0, 11, 42, 180, 0, 15, 4, 96, 27, 16, 16, 122, 145, 84, 42, 180, 0, 11, 42] := by decide +kernel
theorem dX9_append_24 : decode cX9_append 24 = .ok (.i2b, 1) := dz0 dzo145 0 dzbX9_append_24 rfl
theorem dX9_append_25 : decode cX9_append 25 = .ok (.bastore, 1) := dz0 dzo84 1 dzbX9_append_24 rfl
theorem dX9_append_26 : decode cX9_append 26 = .ok (.aload_n 0, 1) := dz0 dzo42 2 dzbX9_append_24 rfl
theorem dX9_append_27 : decode cX9_append 27 = .ok (.getfield 11, 3) := dz2 dzo180 3 0 11 dzbX9_append_24 rfl
theorem dX9_append_30 : decode cX9_append 30 = .ok (.aload_n 0, 1) := dz0 dzo42 6 dzbX9_append_24 rfl
theorem dX9_append_31 : decode cX9_append 31 = .ok (.getfield 15, 3) := dz2 dzo180 7 0 15 dzbX9_append_24 rfl
theorem dX9_append_34 : decode cX9_append 34 = .ok (.iconst 1, 1) := dz0 dzo4 10 dzbX9_append_24 rfl
theorem dX9_append_35 : decode cX9_append 35 = .ok (.iadd, 1) := dz0 dzo96 11 dzbX9_append_24 rfl
theorem dX9_append_36 : decode cX9_append 36 = .ok (.iload_n 1, 1) := dz0 dzo27 12 dzbX9_append_24 rfl
theorem dX9_append_37 : decode cX9_append 37 = .ok (.bipush 16, 2) := dz3 dzo16 13 16 16 rfl dzbX9_append_24 rfl
theorem dX9_append_39 : decode cX9_append 39 = .ok (.ishr, 1) := dz0 dzo122 15 dzbX9_append_24 rfl
theorem dX9_append_40 : decode cX9_append 40 = .ok (.i2b, 1) := dz0 dzo145 16 dzbX9_append_24 rfl
theorem dX9_append_41 : decode cX9_append 41 = .ok (.bastore, 1) := dz0 dzo84 17 dzbX9_append_24 rfl
theorem dX9_append_42 : decode cX9_append 42 = .ok (.aload_n 0, 1) := dz0 dzo42 18 dzbX9_append_24 rfl
theorem dX9_append_43 : decode cX9_append 43 = .ok (.getfield 11, 3) := dz2 dzo180 19 0 11 dzbX9_append_24 rfl
theorem dX9_append_46 : decode cX9_append 46 = .ok (.aload_n 0, 1) := dz0 dzo42 22 dzbX9_append_24 rfl
theorem dzbX9_append_47 : dzB cX9_append 47 [180, 0, 15, 5, 96, 27, 16, 8, 122, 145, 84, 42, 180, 0, 11, 42, 180, 0, 15, 6, 96, 27, 145, 84] := by decide +kernel
theorem dX9_append_47 : decode cX9_append 47 = .ok (.getfield 15, 3) := dz2 dzo180 0 0 15 dzbX9_append_47 rfl
theorem dX9_append_50 : decode cX9_append 50 = .ok (.iconst 2, 1) := dz0 dzo5 3 dzbX9_append_47 rfl
theorem dX9_append_51 : decode cX9_append 51 = .ok (.iadd, 1) := dz0 dzo96 4 dzbX9_append_47 rfl
theorem dX9_append_52 : decode cX9_append 52 = .ok (.iload_n 1, 1) := dz0 dzo27 5 dzbX9_append_47 rfl
theorem dX9_append_53 : decode cX9_append 53 = .ok (.bipush 8, 2) := dz3 dzo16 6 8 8 rfl dzbX9_append_47 rfl
theorem dX9_append_55 : decode cX9_append 55 = .ok (.ishr, 1) := dz0 dzo122 8 dzbX9_append_47 rfl
theorem dX9_append_56 : decode cX9_append 56 = .ok (.i2b, 1) := dz0 dzo145 9 dzbX9_append_47 rfl
theorem dX9_append_57 : decode cX9_append 57 = .ok (.bastore, 1) := dz0 dzo84 10 dzbX9_append_47 rfl
theorem dX9_append_58 : decode cX9_append 58 = .ok (.aload_n 0, 1) := dz0 dzo42 11 dzbX9_append_47 rfl
theorem dX9_append_59 : decode cX9_append 59 = .ok (.getfield 11, 3) := dz2 dzo180 12 0 11 dzbX9_append_47 rfl
theorem dX9_append_62 : decode cX9_append 62 = .ok (.aload_n 0, 1) := dz0 dzo42 15 dzbX9_append_47 rfl
theorem dX9_append_63 : decode cX9_append 63 = .ok (.getfield 15, 3) := dz2 dzo180 16 0 15 dzbX9_append_47 rfl
theorem dX9_append_66 : decode cX9_append 66 = .ok (.iconst 3, 1) := dz0 dzo6 19 dzbX9_append_47 rfl
theorem dX9_append_67 : decode cX9_append 67 = .ok (.iadd, 1) := dz0 dzo96 20 dzbX9_append_47 rfl
theorem dX9_append_68 : decode cX9_append 68 = .ok (.iload_n 1, 1) := dz0 dzo27 21 dzbX9_append_47 rfl
theorem dX9_append_69 : decode cX9_append 69 = .ok (.i2b, 1) := dz0 dzo145 22 dzbX9_append_47 rfl
theorem dX9_append_70 : decode cX9_append 70 = .ok (.bastore, 1) := dz0 dzo84 23 dzbX9_append_47 rfl
theorem dzbX9_append_71 : dzB cX9_append 71 [42, 89, 180, 0, 15, 7, 96, 181, 0, 15, 177] := by decide +kernel
theorem dX9_append_71 : decode cX9_append 71 = .ok (.aload_n 0, 1) := dz0 dzo42 0 dzbX9_append_71 rfl
theorem dX9_append_72 : decode cX9_append 72 = .ok (.dup, 1) := dz0 dzo89 1 dzbX9_append_71 rfl
theorem dX9_append_73 : decode cX9_append 73 = .ok (.getfield 15, 3) := dz2 dzo180 2 0 15 dzbX9_append_71 rfl
theorem dX9_append_76 : decode cX9_append 76 = .ok (.iconst 4, 1) := dz0 dzo7 5 dzbX9_append_71 rfl
theorem dX9_append_77 : decode cX9_append 77 = .ok (.iadd, 1) := dz0 dzo96 6 dzbX9_append_71 rfl
theorem dX9_append_78 : decode cX9_append 78 = .ok (.putfield 15, 3) := dz2 dzo181 7 0 15 dzbX9_append_71 rfl
theorem dX9_append_81 : decode cX9_append 81 = .ok (.return_, 1) := dz0 dzo177 10 dzbX9_append_71 rfl
theorem dzbX9_hasRoom_0 : dzB cX9_hasRoom 0 [42, 180, 0, 15, 16, 20, 96, 17, 3, 32, 163, 0, 7, 4, 167, 0, 4, 3, 172] := by decide +kernel
theorem dX9_hasRoom_0 : decode cX9_hasRoom 0 = .ok (.aload_n 0, 1) := dz0 dzo42 0 dzbX9_hasRoom_0 rfl
theorem dX9_hasRoom_1 : decode cX9_hasRoom 1 = .ok (.getfield 15, 3) := dz2 dzo180 1 0 15 dzbX9_hasRoom_0 rfl
theorem dX9_hasRoom_4 : decode cX9_hasRoom 4 = .ok (.bipush 20, 2) := dz3 dzo16 4 20 20 rfl dzbX9_hasRoom_0 rfl
theorem dX9_hasRoom_6 : decode cX9_hasRoom 6 = .ok (.iadd, 1) := dz0 dzo96 6 dzbX9_hasRoom_0 rfl
theorem dX9_hasRoom_7 : decode cX9_hasRoom 7 = .ok (.sipush 800, 3) := dz4 dzo17 7 3 32 800 rfl dzbX9_hasRoom_0 rfl
theorem dX9_hasRoom_10 : decode cX9_hasRoom 10 = .ok (.if_icmp .gt 7, 3) := dz4 dzo163 10 0 7 7 rfl dzbX9_hasRoom_0 rfl
theorem dX9_hasRoom_13 : decode cX9_hasRoom 13 = .ok (.iconst 1, 1) := dz0 dzo4 13 dzbX9_hasRoom_0 rfl
theorem dX9_hasRoom_14 : decode cX9_hasRoom 14 = .ok (.goto 4, 3) := dz4 dzo167 14 0 4 4 rfl dzbX9_hasRoom_0 rfl
theorem dX9_hasRoom_17 : decode cX9_hasRoom 17 = .ok (.iconst 0, 1) := dz0 dzo3 17 dzbX9_hasRoom_0 rfl
theorem dX9_hasRoom_18 : decode cX9_hasRoom 18 = .ok (.ireturn, 1) := dz0 dzo172 18 dzbX9_hasRoom_0 rfl
theorem dzbX9_init_0 : dzB cX9_init 0 [42, 183, 0, 3, 42, 17, 3, 32] := by decide +kernel
theorem dX9_init_0 : decode cX9_init 0 = .ok (.aload_n 0, 1) := dz0 dzo42 0 dzbX9_init_0 rfl
theorem dX9_init_1 : decode cX9_init 1 = .ok (.invokespecial 3, 3) := dz2 dzo183 1 0 3 dzbX9_init_0 rfl
theorem dX9_init_4 : decode cX9_init 4 = .ok (.aload_n 0, 1) := dz0 dzo42 4 dzbX9_init_0 rfl
theorem dX9_init_5 : decode cX9_init 5 = .ok (.sipush 800, 3) := dz4 dzo17 5 3 32 800 rfl dzbX9_init_0 rfl
theorem dX9_init_8 : decode cX9_init 8 = .ok (.newarray .byte, 2) := by decide +kernel
theorem dzbX9_init_10 : dzB cX9_init 10 [181, 0, 11, 177] := by decide +kernel
theorem dX9_init_10 : decode cX9_init 10 = .ok (.putfield 11, 3) := dz2 dzo181 0 0 11 dzbX9_init_10 rfl
theorem dX9_init_13 : decode cX9_init 13 = .ok (.return_, 1) := dz0 dzo177 3 dzbX9_init_10 rfl
theorem dzbX9_isRow_0 : dzB cX9_isRow 0 [42, 180, 0, 66, 4, 160, 0, 16, 42, 180, 0, 28, 42, 180, 0, 119, 100, 27, 159, 0, 5, 3, 172, 42] := by decide +kernel
theorem dX9_isRow_0 : decode cX9_isRow 0 = .ok (.aload_n 0, 1) := dz0 dzo42 0 dzbX9_isRow_0 rfl
theorem dX9_isRow_1 : decode cX9_isRow 1 = .ok (.getfield 66, 3) := dz2 dzo180 1 0 66 dzbX9_isRow_0 rfl
theorem dX9_isRow_4 : decode cX9_isRow 4 = .ok (.iconst 1, 1) := dz0 dzo4 4 dzbX9_isRow_0 rfl
theorem dX9_isRow_5 : decode cX9_isRow 5 = .ok (.if_icmp .ne 16, 3) := dz4 dzo160 5 0 16 16 rfl dzbX9_isRow_0 rfl
theorem dX9_isRow_8 : decode cX9_isRow 8 = .ok (.aload_n 0, 1) := dz0 dzo42 8 dzbX9_isRow_0 rfl
theorem dX9_isRow_9 : decode cX9_isRow 9 = .ok (.getfield 28, 3) := dz2 dzo180 9 0 28 dzbX9_isRow_0 rfl
theorem dX9_isRow_12 : decode cX9_isRow 12 = .ok (.aload_n 0, 1) := dz0 dzo42 12 dzbX9_isRow_0 rfl
theorem dX9_isRow_13 : decode cX9_isRow 13 = .ok (.getfield 119, 3) := dz2 dzo180 13 0 119 dzbX9_isRow_0 rfl
theorem dX9_isRow_16 : decode cX9_isRow 16 = .ok (.isub, 1) := dz0 dzo100 16 dzbX9_isRow_0 rfl
theorem dX9_isRow_17 : decode cX9_isRow 17 = .ok (.iload_n 1, 1) := dz0 dzo27 17 dzbX9_isRow_0 rfl
theorem dX9_isRow_18 : decode cX9_isRow 18 = .ok (.if_icmp .eq 5, 3) := dz4 dzo159 18 0 5 5 rfl dzbX9_isRow_0 rfl
theorem dX9_isRow_21 : decode cX9_isRow 21 = .ok (.iconst 0, 1) := dz0 dzo3 21 dzbX9_isRow_0 rfl
theorem dX9_isRow_22 : decode cX9_isRow 22 = .ok (.ireturn, 1) := dz0 dzo172 22 dzbX9_isRow_0 rfl
theorem dX9_isRow_23 : decode cX9_isRow 23 = .ok (.aload_n 0, 1) := dz0 dzo42 23 dzbX9_isRow_0 rfl
theorem dzbX9_isRow_24 : dzB cX9_isRow 24 [180, 0, 119, 61, 28, 42, 180, 0, 28, 162, 0, 26, 18, 117, 42, 180, 0, 11, 28, 51, 146, 182, 0, 122] := by decide +kernel
theorem dX9_isRow_24 : decode cX9_isRow 24 = .ok (.getfield 119, 3) := dz2 dzo180 0 0 119 dzbX9_isRow_24 rfl
theorem dX9_isRow_27 : decode cX9_isRow 27 = .ok (.istore_n 2, 1) := dz0 dzo61 3 dzbX9_isRow_24 rfl
theorem dX9_isRow_28 : decode cX9_isRow 28 = .ok (.iload_n 2, 1) := dz0 dzo28 4 dzbX9_isRow_24 rfl
theorem dX9_isRow_29 : decode cX9_isRow 29 = .ok (.aload_n 0, 1) := dz0 dzo42 5 dzbX9_isRow_24 rfl
theorem dX9_isRow_30 : decode cX9_isRow 30 = .ok (.getfield 28, 3) := dz2 dzo180 6 0 28 dzbX9_isRow_24 rfl
theorem dX9_isRow_33 : decode cX9_isRow 33 = .ok (.if_icmp .ge 26, 3) := dz4 dzo162 9 0 26 26 rfl dzbX9_isRow_24 rfl
theorem dX9_isRow_36 : decode cX9_isRow 36 = .ok (.ldc 117, 2) := dz1 dzo18 12 117 dzbX9_isRow_24 rfl
theorem dX9_isRow_38 : decode cX9_isRow 38 = .ok (.aload_n 0, 1) := dz0 dzo42 14 dzbX9_isRow_24 rfl
theorem dX9_isRow_39 : decode cX9_isRow 39 = .ok (.getfield 11, 3) := dz2 dzo180 15 0 11 dzbX9_isRow_24 rfl
theorem dX9_isRow_42 : decode cX9_isRow 42 = .ok (.iload_n 2, 1) := dz0 dzo28 18 dzbX9_isRow_24 rfl
theorem dX9_isRow_43 : decode cX9_isRow 43 = .ok (.baload, 1) := dz0 dzo51 19 dzbX9_isRow_24 rfl
theorem dX9_isRow_44 : decode cX9_isRow 44 = .ok (.i2c, 1) := dz0 dzo146 20 dzbX9_isRow_24 rfl
theorem dX9_isRow_45 : decode cX9_isRow 45 = .ok (.invokevirtual 122, 3) := dz2 dzo182 21 0 122 dzbX9_isRow_24 rfl
theorem dzbX9_isRow_48 : dzB cX9_isRow 48 [156, 0, 5, 3, 172, 132, 2, 1, 167, 255, 228, 4, 172] := by decide +kernel
theorem dX9_isRow_48 : decode cX9_isRow 48 = .ok (.ifCond .ge 5, 3) := dz4 dzo156 0 0 5 5 rfl dzbX9_isRow_48 rfl
theorem dX9_isRow_51 : decode cX9_isRow 51 = .ok (.iconst 0, 1) := dz0 dzo3 3 dzbX9_isRow_48 rfl
theorem dX9_isRow_52 : decode cX9_isRow 52 = .ok (.ireturn, 1) := dz0 dzo172 4 dzbX9_isRow_48 rfl
theorem dX9_isRow_53 : decode cX9_isRow 53 = .ok (.iinc 2 1, 3) := dz5 dzo132 5 2 1 1 rfl dzbX9_isRow_48 rfl
theorem dX9_isRow_56 : decode cX9_isRow 56 = .ok (.goto (-28), 3) := dz4 dzo167 8 255 228 (-28) rfl dzbX9_isRow_48 rfl
theorem dX9_isRow_59 : decode cX9_isRow 59 = .ok (.iconst 1, 1) := dz0 dzo4 11 dzbX9_isRow_48 rfl
theorem dX9_isRow_60 : decode cX9_isRow 60 = .ok (.ireturn, 1) := dz0 dzo172 12 dzbX9_isRow_48 rfl
theorem dzbX9_isWord_0 : dzB cX9_isWord 0 [42, 180, 0, 66, 4, 160, 0, 19, 42, 180, 0, 28, 42, 180, 0, 119, 100, 43, 182, 0, 219, 159, 0, 5] := by decide +kernel
theorem dX9_isWord_0 : decode cX9_isWord 0 = .ok (.aload_n 0, 1) := dz0 dzo42 0 dzbX9_isWord_0 rfl
theorem dX9_isWord_1 : decode cX9_isWord 1 = .ok (.getfield 66, 3) := dz2 dzo180 1 0 66 dzbX9_isWord_0 rfl
theorem dX9_isWord_4 : decode cX9_isWord 4 = .ok (.iconst 1, 1) := dz0 dzo4 4 dzbX9_isWord_0 rfl
theorem dX9_isWord_5 : decode cX9_isWord 5 = .ok (.if_icmp .ne 19, 3) := dz4 dzo160 5 0 19 19 rfl dzbX9_isWord_0 rfl
theorem dX9_isWord_8 : decode cX9_isWord 8 = .ok (.aload_n 0, 1) := dz0 dzo42 8 dzbX9_isWord_0 rfl
theorem dX9_isWord_9 : decode cX9_isWord 9 = .ok (.getfield 28, 3) := dz2 dzo180 9 0 28 dzbX9_isWord_0 rfl
theorem dX9_isWord_12 : decode cX9_isWord 12 = .ok (.aload_n 0, 1) := dz0 dzo42 12 dzbX9_isWord_0 rfl
theorem dX9_isWord_13 : decode cX9_isWord 13 = .ok (.getfield 119, 3) := dz2 dzo180 13 0 119 dzbX9_isWord_0 rfl
theorem dX9_isWord_16 : decode cX9_isWord 16 = .ok (.isub, 1) := dz0 dzo100 16 dzbX9_isWord_0 rfl
theorem dX9_isWord_17 : decode cX9_isWord 17 = .ok (.aload_n 1, 1) := dz0 dzo43 17 dzbX9_isWord_0 rfl
theorem dX9_isWord_18 : decode cX9_isWord 18 = .ok (.invokevirtual 219, 3) := dz2 dzo182 18 0 219 dzbX9_isWord_0 rfl
theorem dX9_isWord_21 : decode cX9_isWord 21 = .ok (.if_icmp .eq 5, 3) := dz4 dzo159 21 0 5 5 rfl dzbX9_isWord_0 rfl
theorem dzbX9_isWord_24 : dzB cX9_isWord 24 [3, 172, 3, 61, 28, 43, 182, 0, 219, 162, 0, 30, 42, 180, 0, 11, 42, 180, 0, 119, 28, 96, 51, 43] := by decide +kernel
theorem dX9_isWord_24 : decode cX9_isWord 24 = .ok (.iconst 0, 1) := dz0 dzo3 0 dzbX9_isWord_24 rfl
theorem dX9_isWord_25 : decode cX9_isWord 25 = .ok (.ireturn, 1) := dz0 dzo172 1 dzbX9_isWord_24 rfl
theorem dX9_isWord_26 : decode cX9_isWord 26 = .ok (.iconst 0, 1) := dz0 dzo3 2 dzbX9_isWord_24 rfl
theorem dX9_isWord_27 : decode cX9_isWord 27 = .ok (.istore_n 2, 1) := dz0 dzo61 3 dzbX9_isWord_24 rfl
theorem dX9_isWord_28 : decode cX9_isWord 28 = .ok (.iload_n 2, 1) := dz0 dzo28 4 dzbX9_isWord_24 rfl
theorem dX9_isWord_29 : decode cX9_isWord 29 = .ok (.aload_n 1, 1) := dz0 dzo43 5 dzbX9_isWord_24 rfl
theorem dX9_isWord_30 : decode cX9_isWord 30 = .ok (.invokevirtual 219, 3) := dz2 dzo182 6 0 219 dzbX9_isWord_24 rfl
theorem dX9_isWord_33 : decode cX9_isWord 33 = .ok (.if_icmp .ge 30, 3) := dz4 dzo162 9 0 30 30 rfl dzbX9_isWord_24 rfl
theorem dX9_isWord_36 : decode cX9_isWord 36 = .ok (.aload_n 0, 1) := dz0 dzo42 12 dzbX9_isWord_24 rfl
theorem dX9_isWord_37 : decode cX9_isWord 37 = .ok (.getfield 11, 3) := dz2 dzo180 13 0 11 dzbX9_isWord_24 rfl
theorem dX9_isWord_40 : decode cX9_isWord 40 = .ok (.aload_n 0, 1) := dz0 dzo42 16 dzbX9_isWord_24 rfl
theorem dX9_isWord_41 : decode cX9_isWord 41 = .ok (.getfield 119, 3) := dz2 dzo180 17 0 119 dzbX9_isWord_24 rfl
theorem dX9_isWord_44 : decode cX9_isWord 44 = .ok (.iload_n 2, 1) := dz0 dzo28 20 dzbX9_isWord_24 rfl
theorem dX9_isWord_45 : decode cX9_isWord 45 = .ok (.iadd, 1) := dz0 dzo96 21 dzbX9_isWord_24 rfl
theorem dX9_isWord_46 : decode cX9_isWord 46 = .ok (.baload, 1) := dz0 dzo51 22 dzbX9_isWord_24 rfl
theorem dX9_isWord_47 : decode cX9_isWord 47 = .ok (.aload_n 1, 1) := dz0 dzo43 23 dzbX9_isWord_24 rfl
theorem dzbX9_isWord_48 : dzB cX9_isWord 48 [28, 182, 0, 221, 159, 0, 5, 3, 172, 132, 2, 1, 167, 255, 224, 4, 172] := by decide +kernel
theorem dX9_isWord_48 : decode cX9_isWord 48 = .ok (.iload_n 2, 1) := dz0 dzo28 0 dzbX9_isWord_48 rfl
theorem dX9_isWord_49 : decode cX9_isWord 49 = .ok (.invokevirtual 221, 3) := dz2 dzo182 1 0 221 dzbX9_isWord_48 rfl
theorem dX9_isWord_52 : decode cX9_isWord 52 = .ok (.if_icmp .eq 5, 3) := dz4 dzo159 4 0 5 5 rfl dzbX9_isWord_48 rfl
theorem dX9_isWord_55 : decode cX9_isWord 55 = .ok (.iconst 0, 1) := dz0 dzo3 7 dzbX9_isWord_48 rfl
theorem dX9_isWord_56 : decode cX9_isWord 56 = .ok (.ireturn, 1) := dz0 dzo172 8 dzbX9_isWord_48 rfl
theorem dX9_isWord_57 : decode cX9_isWord 57 = .ok (.iinc 2 1, 3) := dz5 dzo132 9 2 1 1 rfl dzbX9_isWord_48 rfl
theorem dX9_isWord_60 : decode cX9_isWord 60 = .ok (.goto (-32), 3) := dz4 dzo167 12 255 224 (-32) rfl dzbX9_isWord_48 rfl
theorem dX9_isWord_63 : decode cX9_isWord 63 = .ok (.iconst 1, 1) := dz0 dzo4 15 dzbX9_isWord_48 rfl
theorem dX9_isWord_64 : decode cX9_isWord 64 = .ok (.ireturn, 1) := dz0 dzo172 16 dzbX9_isWord_48 rfl
theorem dzbX9_kindOfWord_0 : dzB cX9_kindOfWord 0 [42, 18, 211, 182, 0, 183, 153, 0, 5, 3, 172, 42, 18, 213, 182, 0, 183, 153, 0, 5, 4, 172, 42] := by decide +kernel
theorem dX9_kindOfWord_0 : decode cX9_kindOfWord 0 = .ok (.aload_n 0, 1) := dz0 dzo42 0 dzbX9_kindOfWord_0 rfl
theorem dX9_kindOfWord_1 : decode cX9_kindOfWord 1 = .ok (.ldc 211, 2) := dz1 dzo18 1 211 dzbX9_kindOfWord_0 rfl
theorem dX9_kindOfWord_3 : decode cX9_kindOfWord 3 = .ok (.invokevirtual 183, 3) := dz2 dzo182 3 0 183 dzbX9_kindOfWord_0 rfl
theorem dX9_kindOfWord_6 : decode cX9_kindOfWord 6 = .ok (.ifCond .eq 5, 3) := dz4 dzo153 6 0 5 5 rfl dzbX9_kindOfWord_0 rfl
theorem dX9_kindOfWord_9 : decode cX9_kindOfWord 9 = .ok (.iconst 0, 1) := dz0 dzo3 9 dzbX9_kindOfWord_0 rfl
theorem dX9_kindOfWord_10 : decode cX9_kindOfWord 10 = .ok (.ireturn, 1) := dz0 dzo172 10 dzbX9_kindOfWord_0 rfl
theorem dX9_kindOfWord_11 : decode cX9_kindOfWord 11 = .ok (.aload_n 0, 1) := dz0 dzo42 11 dzbX9_kindOfWord_0 rfl
theorem dX9_kindOfWord_12 : decode cX9_kindOfWord 12 = .ok (.ldc 213, 2) := dz1 dzo18 12 213 dzbX9_kindOfWord_0 rfl
theorem dX9_kindOfWord_14 : decode cX9_kindOfWord 14 = .ok (.invokevirtual 183, 3) := dz2 dzo182 14 0 183 dzbX9_kindOfWord_0 rfl
theorem dX9_kindOfWord_17 : decode cX9_kindOfWord 17 = .ok (.ifCond .eq 5, 3) := dz4 dzo153 17 0 5 5 rfl dzbX9_kindOfWord_0 rfl
theorem dX9_kindOfWord_20 : decode cX9_kindOfWord 20 = .ok (.iconst 1, 1) := dz0 dzo4 20 dzbX9_kindOfWord_0 rfl
theorem dX9_kindOfWord_21 : decode cX9_kindOfWord 21 = .ok (.ireturn, 1) := dz0 dzo172 21 dzbX9_kindOfWord_0 rfl
theorem dX9_kindOfWord_22 : decode cX9_kindOfWord 22 = .ok (.aload_n 0, 1) := dz0 dzo42 22 dzbX9_kindOfWord_0 rfl
theorem dzbX9_kindOfWord_23 : dzB cX9_kindOfWord 23 [18, 215, 182, 0, 183, 153, 0, 5, 5, 172, 42, 18, 217, 182, 0, 183, 153, 0, 7, 6, 167, 0, 4, 2] := by decide +kernel
theorem dX9_kindOfWord_23 : decode cX9_kindOfWord 23 = .ok (.ldc 215, 2) := dz1 dzo18 0 215 dzbX9_kindOfWord_23 rfl
theorem dX9_kindOfWord_25 : decode cX9_kindOfWord 25 = .ok (.invokevirtual 183, 3) := dz2 dzo182 2 0 183 dzbX9_kindOfWord_23 rfl
theorem dX9_kindOfWord_28 : decode cX9_kindOfWord 28 = .ok (.ifCond .eq 5, 3) := dz4 dzo153 5 0 5 5 rfl dzbX9_kindOfWord_23 rfl
theorem dX9_kindOfWord_31 : decode cX9_kindOfWord 31 = .ok (.iconst 2, 1) := dz0 dzo5 8 dzbX9_kindOfWord_23 rfl
theorem dX9_kindOfWord_32 : decode cX9_kindOfWord 32 = .ok (.ireturn, 1) := dz0 dzo172 9 dzbX9_kindOfWord_23 rfl
theorem dX9_kindOfWord_33 : decode cX9_kindOfWord 33 = .ok (.aload_n 0, 1) := dz0 dzo42 10 dzbX9_kindOfWord_23 rfl
theorem dX9_kindOfWord_34 : decode cX9_kindOfWord 34 = .ok (.ldc 217, 2) := dz1 dzo18 11 217 dzbX9_kindOfWord_23 rfl
theorem dX9_kindOfWord_36 : decode cX9_kindOfWord 36 = .ok (.invokevirtual 183, 3) := dz2 dzo182 13 0 183 dzbX9_kindOfWord_23 rfl
theorem dX9_kindOfWord_39 : decode cX9_kindOfWord 39 = .ok (.ifCond .eq 7, 3) := dz4 dzo153 16 0 7 7 rfl dzbX9_kindOfWord_23 rfl
theorem dX9_kindOfWord_42 : decode cX9_kindOfWord 42 = .ok (.iconst 3, 1) := dz0 dzo6 19 dzbX9_kindOfWord_23 rfl
theorem dX9_kindOfWord_43 : decode cX9_kindOfWord 43 = .ok (.goto 4, 3) := dz4 dzo167 20 0 4 4 rfl dzbX9_kindOfWord_23 rfl
theorem dX9_kindOfWord_46 : decode cX9_kindOfWord 46 = .ok (.iconst (-1), 1) := dz0 dzo2 23 dzbX9_kindOfWord_23 rfl
theorem dzbX9_kindOfWord_47 : dzB cX9_kindOfWord 47 [172] := by decide +kernel
theorem dX9_kindOfWord_47 : decode cX9_kindOfWord 47 = .ok (.ireturn, 1) := dz0 dzo172 0 dzbX9_kindOfWord_47 rfl
theorem dzbX9_lineWord_0 : dzB cX9_lineWord 0 [42, 18, 203, 182, 0, 183, 153, 0, 5, 3, 172, 42, 18, 205, 182, 0, 183, 153, 0, 5, 4, 172, 42] := by decide +kernel
theorem dX9_lineWord_0 : decode cX9_lineWord 0 = .ok (.aload_n 0, 1) := dz0 dzo42 0 dzbX9_lineWord_0 rfl
theorem dX9_lineWord_1 : decode cX9_lineWord 1 = .ok (.ldc 203, 2) := dz1 dzo18 1 203 dzbX9_lineWord_0 rfl
theorem dX9_lineWord_3 : decode cX9_lineWord 3 = .ok (.invokevirtual 183, 3) := dz2 dzo182 3 0 183 dzbX9_lineWord_0 rfl
theorem dX9_lineWord_6 : decode cX9_lineWord 6 = .ok (.ifCond .eq 5, 3) := dz4 dzo153 6 0 5 5 rfl dzbX9_lineWord_0 rfl
theorem dX9_lineWord_9 : decode cX9_lineWord 9 = .ok (.iconst 0, 1) := dz0 dzo3 9 dzbX9_lineWord_0 rfl
theorem dX9_lineWord_10 : decode cX9_lineWord 10 = .ok (.ireturn, 1) := dz0 dzo172 10 dzbX9_lineWord_0 rfl
theorem dX9_lineWord_11 : decode cX9_lineWord 11 = .ok (.aload_n 0, 1) := dz0 dzo42 11 dzbX9_lineWord_0 rfl
theorem dX9_lineWord_12 : decode cX9_lineWord 12 = .ok (.ldc 205, 2) := dz1 dzo18 12 205 dzbX9_lineWord_0 rfl
theorem dX9_lineWord_14 : decode cX9_lineWord 14 = .ok (.invokevirtual 183, 3) := dz2 dzo182 14 0 183 dzbX9_lineWord_0 rfl
theorem dX9_lineWord_17 : decode cX9_lineWord 17 = .ok (.ifCond .eq 5, 3) := dz4 dzo153 17 0 5 5 rfl dzbX9_lineWord_0 rfl
theorem dX9_lineWord_20 : decode cX9_lineWord 20 = .ok (.iconst 1, 1) := dz0 dzo4 20 dzbX9_lineWord_0 rfl
theorem dX9_lineWord_21 : decode cX9_lineWord 21 = .ok (.ireturn, 1) := dz0 dzo172 21 dzbX9_lineWord_0 rfl
theorem dX9_lineWord_22 : decode cX9_lineWord 22 = .ok (.aload_n 0, 1) := dz0 dzo42 22 dzbX9_lineWord_0 rfl
theorem dzbX9_lineWord_23 : dzB cX9_lineWord 23 [18, 207, 182, 0, 183, 153, 0, 5, 5, 172, 42, 18, 209, 182, 0, 183, 153, 0, 7, 6, 167, 0, 4, 2] := by decide +kernel
theorem dX9_lineWord_23 : decode cX9_lineWord 23 = .ok (.ldc 207, 2) := dz1 dzo18 0 207 dzbX9_lineWord_23 rfl
theorem dX9_lineWord_25 : decode cX9_lineWord 25 = .ok (.invokevirtual 183, 3) := dz2 dzo182 2 0 183 dzbX9_lineWord_23 rfl
theorem dX9_lineWord_28 : decode cX9_lineWord 28 = .ok (.ifCond .eq 5, 3) := dz4 dzo153 5 0 5 5 rfl dzbX9_lineWord_23 rfl
theorem dX9_lineWord_31 : decode cX9_lineWord 31 = .ok (.iconst 2, 1) := dz0 dzo5 8 dzbX9_lineWord_23 rfl
theorem dX9_lineWord_32 : decode cX9_lineWord 32 = .ok (.ireturn, 1) := dz0 dzo172 9 dzbX9_lineWord_23 rfl
theorem dX9_lineWord_33 : decode cX9_lineWord 33 = .ok (.aload_n 0, 1) := dz0 dzo42 10 dzbX9_lineWord_23 rfl
theorem dX9_lineWord_34 : decode cX9_lineWord 34 = .ok (.ldc 209, 2) := dz1 dzo18 11 209 dzbX9_lineWord_23 rfl
theorem dX9_lineWord_36 : decode cX9_lineWord 36 = .ok (.invokevirtual 183, 3) := dz2 dzo182 13 0 183 dzbX9_lineWord_23 rfl
theorem dX9_lineWord_39 : decode cX9_lineWord 39 = .ok (.ifCond .eq 7, 3) := dz4 dzo153 16 0 7 7 rfl dzbX9_lineWord_23 rfl
theorem dX9_lineWord_42 : decode cX9_lineWord 42 = .ok (.iconst 3, 1) := dz0 dzo6 19 dzbX9_lineWord_23 rfl
theorem dX9_lineWord_43 : decode cX9_lineWord 43 = .ok (.goto 4, 3) := dz4 dzo167 20 0 4 4 rfl dzbX9_lineWord_23 rfl
theorem dX9_lineWord_46 : decode cX9_lineWord 46 = .ok (.iconst (-1), 1) := dz0 dzo2 23 dzbX9_lineWord_23 rfl
theorem dzbX9_lineWord_47 : dzB cX9_lineWord 47 [172] := by decide +kernel
theorem dX9_lineWord_47 : decode cX9_lineWord 47 = .ok (.ireturn, 1) := dz0 dzo172 0 dzbX9_lineWord_47 rfl
theorem dzbX9_nameCode_0 : dzB cX9_nameCode 0 [9, 64, 42, 180, 0, 119, 62, 29, 42, 180, 0, 28, 162, 0, 28, 31, 20, 0, 225, 105, 42, 180, 0, 11] := by decide +kernel
theorem dX9_nameCode_0 : decode cX9_nameCode 0 = .ok (.lconst 0, 1) := dz0 dzo9 0 dzbX9_nameCode_0 rfl
theorem dX9_nameCode_1 : decode cX9_nameCode 1 = .ok (.lstore_n 1, 1) := dz0 dzo64 1 dzbX9_nameCode_0 rfl
theorem dX9_nameCode_2 : decode cX9_nameCode 2 = .ok (.aload_n 0, 1) := dz0 dzo42 2 dzbX9_nameCode_0 rfl
theorem dX9_nameCode_3 : decode cX9_nameCode 3 = .ok (.getfield 119, 3) := dz2 dzo180 3 0 119 dzbX9_nameCode_0 rfl
theorem dX9_nameCode_6 : decode cX9_nameCode 6 = .ok (.istore_n 3, 1) := dz0 dzo62 6 dzbX9_nameCode_0 rfl
theorem dX9_nameCode_7 : decode cX9_nameCode 7 = .ok (.iload_n 3, 1) := dz0 dzo29 7 dzbX9_nameCode_0 rfl
theorem dX9_nameCode_8 : decode cX9_nameCode 8 = .ok (.aload_n 0, 1) := dz0 dzo42 8 dzbX9_nameCode_0 rfl
theorem dX9_nameCode_9 : decode cX9_nameCode 9 = .ok (.getfield 28, 3) := dz2 dzo180 9 0 28 dzbX9_nameCode_0 rfl
theorem dX9_nameCode_12 : decode cX9_nameCode 12 = .ok (.if_icmp .ge 28, 3) := dz4 dzo162 12 0 28 28 rfl dzbX9_nameCode_0 rfl
theorem dX9_nameCode_15 : decode cX9_nameCode 15 = .ok (.lload_n 1, 1) := dz0 dzo31 15 dzbX9_nameCode_0 rfl
theorem dX9_nameCode_16 : decode cX9_nameCode 16 = .ok (.ldc2_w 225, 3) := dz2 dzo20 16 0 225 dzbX9_nameCode_0 rfl
theorem dX9_nameCode_19 : decode cX9_nameCode 19 = .ok (.lmul, 1) := dz0 dzo105 19 dzbX9_nameCode_0 rfl
theorem dX9_nameCode_20 : decode cX9_nameCode 20 = .ok (.aload_n 0, 1) := dz0 dzo42 20 dzbX9_nameCode_0 rfl
theorem dX9_nameCode_21 : decode cX9_nameCode 21 = .ok (.getfield 11, 3) := dz2 dzo180 21 0 11 dzbX9_nameCode_0 rfl
theorem dzbX9_nameCode_24 : dzB cX9_nameCode 24 [29, 51, 16, 97, 100, 4, 96, 133, 97, 64, 132, 3, 1, 167, 255, 226, 31, 173] := by decide +kernel
theorem dX9_nameCode_24 : decode cX9_nameCode 24 = .ok (.iload_n 3, 1) := dz0 dzo29 0 dzbX9_nameCode_24 rfl
theorem dX9_nameCode_25 : decode cX9_nameCode 25 = .ok (.baload, 1) := dz0 dzo51 1 dzbX9_nameCode_24 rfl
theorem dX9_nameCode_26 : decode cX9_nameCode 26 = .ok (.bipush 97, 2) := dz3 dzo16 2 97 97 rfl dzbX9_nameCode_24 rfl
theorem dX9_nameCode_28 : decode cX9_nameCode 28 = .ok (.isub, 1) := dz0 dzo100 4 dzbX9_nameCode_24 rfl
theorem dX9_nameCode_29 : decode cX9_nameCode 29 = .ok (.iconst 1, 1) := dz0 dzo4 5 dzbX9_nameCode_24 rfl
theorem dX9_nameCode_30 : decode cX9_nameCode 30 = .ok (.iadd, 1) := dz0 dzo96 6 dzbX9_nameCode_24 rfl
theorem dX9_nameCode_31 : decode cX9_nameCode 31 = .ok (.i2l, 1) := dz0 dzo133 7 dzbX9_nameCode_24 rfl
theorem dX9_nameCode_32 : decode cX9_nameCode 32 = .ok (.ladd, 1) := dz0 dzo97 8 dzbX9_nameCode_24 rfl
theorem dX9_nameCode_33 : decode cX9_nameCode 33 = .ok (.lstore_n 1, 1) := dz0 dzo64 9 dzbX9_nameCode_24 rfl
theorem dX9_nameCode_34 : decode cX9_nameCode 34 = .ok (.iinc 3 1, 3) := dz5 dzo132 10 3 1 1 rfl dzbX9_nameCode_24 rfl
theorem dX9_nameCode_37 : decode cX9_nameCode 37 = .ok (.goto (-30), 3) := dz4 dzo167 13 255 226 (-30) rfl dzbX9_nameCode_24 rfl
theorem dX9_nameCode_40 : decode cX9_nameCode 40 = .ok (.lload_n 1, 1) := dz0 dzo31 16 dzbX9_nameCode_24 rfl
theorem dX9_nameCode_41 : decode cX9_nameCode 41 = .ok (.lreturn, 1) := dz0 dzo173 17 dzbX9_nameCode_24 rfl
theorem dzbX9_next_0 : dzB cX9_next 0 [42, 42, 42, 180, 0, 28, 16, 32, 16, 32, 182, 0, 227, 181, 0, 119, 42, 42, 180, 0, 119, 16, 97] := by decide +kernel
theorem dX9_next_0 : decode cX9_next 0 = .ok (.aload_n 0, 1) := dz0 dzo42 0 dzbX9_next_0 rfl
theorem dX9_next_1 : decode cX9_next 1 = .ok (.aload_n 0, 1) := dz0 dzo42 1 dzbX9_next_0 rfl
theorem dX9_next_2 : decode cX9_next 2 = .ok (.aload_n 0, 1) := dz0 dzo42 2 dzbX9_next_0 rfl
theorem dX9_next_3 : decode cX9_next 3 = .ok (.getfield 28, 3) := dz2 dzo180 3 0 28 dzbX9_next_0 rfl
theorem dX9_next_6 : decode cX9_next 6 = .ok (.bipush 32, 2) := dz3 dzo16 6 32 32 rfl dzbX9_next_0 rfl
theorem dX9_next_8 : decode cX9_next 8 = .ok (.bipush 32, 2) := dz3 dzo16 8 32 32 rfl dzbX9_next_0 rfl
theorem dX9_next_10 : decode cX9_next 10 = .ok (.invokevirtual 227, 3) := dz2 dzo182 10 0 227 dzbX9_next_0 rfl
theorem dX9_next_13 : decode cX9_next 13 = .ok (.putfield 119, 3) := dz2 dzo181 13 0 119 dzbX9_next_0 rfl
theorem dX9_next_16 : decode cX9_next 16 = .ok (.aload_n 0, 1) := dz0 dzo42 16 dzbX9_next_0 rfl
theorem dX9_next_17 : decode cX9_next 17 = .ok (.aload_n 0, 1) := dz0 dzo42 17 dzbX9_next_0 rfl
theorem dX9_next_18 : decode cX9_next 18 = .ok (.getfield 119, 3) := dz2 dzo180 18 0 119 dzbX9_next_0 rfl
theorem dX9_next_21 : decode cX9_next 21 = .ok (.bipush 97, 2) := dz3 dzo16 21 97 97 rfl dzbX9_next_0 rfl
theorem dzbX9_next_23 : dzB cX9_next 23 [16, 122, 182, 0, 227, 42, 180, 0, 119, 100, 60, 42, 42, 180, 0, 119, 16, 48, 16, 57, 182, 0, 227, 42] := by decide +kernel
theorem dX9_next_23 : decode cX9_next 23 = .ok (.bipush 122, 2) := dz3 dzo16 0 122 122 rfl dzbX9_next_23 rfl
theorem dX9_next_25 : decode cX9_next 25 = .ok (.invokevirtual 227, 3) := dz2 dzo182 2 0 227 dzbX9_next_23 rfl
theorem dX9_next_28 : decode cX9_next 28 = .ok (.aload_n 0, 1) := dz0 dzo42 5 dzbX9_next_23 rfl
theorem dX9_next_29 : decode cX9_next 29 = .ok (.getfield 119, 3) := dz2 dzo180 6 0 119 dzbX9_next_23 rfl
theorem dX9_next_32 : decode cX9_next 32 = .ok (.isub, 1) := dz0 dzo100 9 dzbX9_next_23 rfl
theorem dX9_next_33 : decode cX9_next 33 = .ok (.istore_n 1, 1) := dz0 dzo60 10 dzbX9_next_23 rfl
theorem dX9_next_34 : decode cX9_next 34 = .ok (.aload_n 0, 1) := dz0 dzo42 11 dzbX9_next_23 rfl
theorem dX9_next_35 : decode cX9_next 35 = .ok (.aload_n 0, 1) := dz0 dzo42 12 dzbX9_next_23 rfl
theorem dX9_next_36 : decode cX9_next 36 = .ok (.getfield 119, 3) := dz2 dzo180 13 0 119 dzbX9_next_23 rfl
theorem dX9_next_39 : decode cX9_next 39 = .ok (.bipush 48, 2) := dz3 dzo16 16 48 48 rfl dzbX9_next_23 rfl
theorem dX9_next_41 : decode cX9_next 41 = .ok (.bipush 57, 2) := dz3 dzo16 18 57 57 rfl dzbX9_next_23 rfl
theorem dX9_next_43 : decode cX9_next 43 = .ok (.invokevirtual 227, 3) := dz2 dzo182 20 0 227 dzbX9_next_23 rfl
theorem dX9_next_46 : decode cX9_next 46 = .ok (.aload_n 0, 1) := dz0 dzo42 23 dzbX9_next_23 rfl
theorem dzbX9_next_47 : dzB cX9_next 47 [180, 0, 119, 100, 61, 42, 42, 180, 0, 119, 27, 28, 184, 0, 231, 96, 181, 0, 28, 42, 180, 0, 119, 42] := by decide +kernel
theorem dX9_next_47 : decode cX9_next 47 = .ok (.getfield 119, 3) := dz2 dzo180 0 0 119 dzbX9_next_47 rfl
theorem dX9_next_50 : decode cX9_next 50 = .ok (.isub, 1) := dz0 dzo100 3 dzbX9_next_47 rfl
theorem dX9_next_51 : decode cX9_next 51 = .ok (.istore_n 2, 1) := dz0 dzo61 4 dzbX9_next_47 rfl
theorem dX9_next_52 : decode cX9_next 52 = .ok (.aload_n 0, 1) := dz0 dzo42 5 dzbX9_next_47 rfl
theorem dX9_next_53 : decode cX9_next 53 = .ok (.aload_n 0, 1) := dz0 dzo42 6 dzbX9_next_47 rfl
theorem dX9_next_54 : decode cX9_next 54 = .ok (.getfield 119, 3) := dz2 dzo180 7 0 119 dzbX9_next_47 rfl
theorem dX9_next_57 : decode cX9_next 57 = .ok (.iload_n 1, 1) := dz0 dzo27 10 dzbX9_next_47 rfl
theorem dX9_next_58 : decode cX9_next 58 = .ok (.iload_n 2, 1) := dz0 dzo28 11 dzbX9_next_47 rfl
theorem dX9_next_59 : decode cX9_next 59 = .ok (.invokestatic 231, 3) := dz2 dzo184 12 0 231 dzbX9_next_47 rfl
theorem dX9_next_62 : decode cX9_next 62 = .ok (.iadd, 1) := dz0 dzo96 15 dzbX9_next_47 rfl
theorem dX9_next_63 : decode cX9_next 63 = .ok (.putfield 28, 3) := dz2 dzo181 16 0 28 dzbX9_next_47 rfl
theorem dX9_next_66 : decode cX9_next 66 = .ok (.aload_n 0, 1) := dz0 dzo42 19 dzbX9_next_47 rfl
theorem dX9_next_67 : decode cX9_next 67 = .ok (.getfield 119, 3) := dz2 dzo180 20 0 119 dzbX9_next_47 rfl
theorem dX9_next_70 : decode cX9_next 70 = .ok (.aload_n 0, 1) := dz0 dzo42 23 dzbX9_next_47 rfl
theorem dzbX9_next_71 : dzB cX9_next 71 [180, 0, 25, 161, 0, 11, 42, 7, 181, 0, 66, 167, 0, 79, 27] := by decide +kernel
theorem dX9_next_71 : decode cX9_next 71 = .ok (.getfield 25, 3) := dz2 dzo180 0 0 25 dzbX9_next_71 rfl
theorem dX9_next_74 : decode cX9_next 74 = .ok (.if_icmp .lt 11, 3) := dz4 dzo161 3 0 11 11 rfl dzbX9_next_71 rfl
theorem dX9_next_77 : decode cX9_next 77 = .ok (.aload_n 0, 1) := dz0 dzo42 6 dzbX9_next_71 rfl
theorem dX9_next_78 : decode cX9_next 78 = .ok (.iconst 4, 1) := dz0 dzo7 7 dzbX9_next_71 rfl
theorem dX9_next_79 : decode cX9_next 79 = .ok (.putfield 66, 3) := dz2 dzo181 8 0 66 dzbX9_next_71 rfl
theorem dX9_next_82 : decode cX9_next 82 = .ok (.goto 79, 3) := dz4 dzo167 11 0 79 79 rfl dzbX9_next_71 rfl
theorem dX9_next_85 : decode cX9_next 85 = .ok (.iload_n 1, 1) := dz0 dzo27 14 dzbX9_next_71 rfl
