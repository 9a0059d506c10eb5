theorem dzbX13_isFallen_38 : dzB cX13_isFallen 38 [172] := by decide +kernel
theorem dX13_isFallen_38 : decode cX13_isFallen 38 = .ok (.ireturn, 1) := dz0 dzo172 0 dzbX13_isFallen_38 rfl
theorem dzbX13_isLetter_0 : dzB cX13_isLetter 0 [26, 16, 97, 161, 0, 13, 26, 16, 122, 163, 0, 7, 4, 167, 0, 4, 3, 172] := by decide +kernel
theorem dX13_isLetter_0 : decode cX13_isLetter 0 = .ok (.iload_n 0, 1) := dz0 dzo26 0 dzbX13_isLetter_0 rfl
theorem dX13_isLetter_1 : decode cX13_isLetter 1 = .ok (.bipush 97, 2) := dz3 dzo16 1 97 97 rfl dzbX13_isLetter_0 rfl
theorem dX13_isLetter_3 : decode cX13_isLetter 3 = .ok (.if_icmp .lt 13, 3) := dz4 dzo161 3 0 13 13 rfl dzbX13_isLetter_0 rfl
theorem dX13_isLetter_6 : decode cX13_isLetter 6 = .ok (.iload_n 0, 1) := dz0 dzo26 6 dzbX13_isLetter_0 rfl
theorem dX13_isLetter_7 : decode cX13_isLetter 7 = .ok (.bipush 122, 2) := dz3 dzo16 7 122 122 rfl dzbX13_isLetter_0 rfl
theorem dX13_isLetter_9 : decode cX13_isLetter 9 = .ok (.if_icmp .gt 7, 3) := dz4 dzo163 9 0 7 7 rfl dzbX13_isLetter_0 rfl
theorem dX13_isLetter_12 : decode cX13_isLetter 12 = .ok (.iconst 1, 1) := dz0 dzo4 12 dzbX13_isLetter_0 rfl
theorem dX13_isLetter_13 : decode cX13_isLetter 13 = .ok (.goto 4, 3) := dz4 dzo167 13 0 4 4 rfl dzbX13_isLetter_0 rfl
theorem dX13_isLetter_16 : decode cX13_isLetter 16 = .ok (.iconst 0, 1) := dz0 dzo3 16 dzbX13_isLetter_0 rfl
theorem dX13_isLetter_17 : decode cX13_isLetter 17 = .ok (.ireturn, 1) := dz0 dzo172 17 dzbX13_isLetter_0 rfl
theorem dzbX13_isName_0 : dzB cX13_isName 0 [42, 180, 0, 74, 5, 160, 0, 43, 42, 18, 139, 182, 0, 116, 154, 0, 34, 42, 18, 141, 182, 0, 116] := by decide +kernel
theorem dX13_isName_0 : decode cX13_isName 0 = .ok (.aload_n 0, 1) := dz0 dzo42 0 dzbX13_isName_0 rfl
theorem dX13_isName_1 : decode cX13_isName 1 = .ok (.getfield 74, 3) := dz2 dzo180 1 0 74 dzbX13_isName_0 rfl
theorem dX13_isName_4 : decode cX13_isName 4 = .ok (.iconst 2, 1) := dz0 dzo5 4 dzbX13_isName_0 rfl
theorem dX13_isName_5 : decode cX13_isName 5 = .ok (.if_icmp .ne 43, 3) := dz4 dzo160 5 0 43 43 rfl dzbX13_isName_0 rfl
theorem dX13_isName_8 : decode cX13_isName 8 = .ok (.aload_n 0, 1) := dz0 dzo42 8 dzbX13_isName_0 rfl
theorem dX13_isName_9 : decode cX13_isName 9 = .ok (.ldc 139, 2) := dz1 dzo18 9 139 dzbX13_isName_0 rfl
theorem dX13_isName_11 : decode cX13_isName 11 = .ok (.invokevirtual 116, 3) := dz2 dzo182 11 0 116 dzbX13_isName_0 rfl
theorem dX13_isName_14 : decode cX13_isName 14 = .ok (.ifCond .ne 34, 3) := dz4 dzo154 14 0 34 34 rfl dzbX13_isName_0 rfl
theorem dX13_isName_17 : decode cX13_isName 17 = .ok (.aload_n 0, 1) := dz0 dzo42 17 dzbX13_isName_0 rfl
theorem dX13_isName_18 : decode cX13_isName 18 = .ok (.ldc 141, 2) := dz1 dzo18 18 141 dzbX13_isName_0 rfl
theorem dX13_isName_20 : decode cX13_isName 20 = .ok (.invokevirtual 116, 3) := dz2 dzo182 20 0 116 dzbX13_isName_0 rfl
theorem dzbX13_isName_23 : dzB cX13_isName 23 [154, 0, 25, 42, 18, 143, 182, 0, 116, 154, 0, 16, 42, 18, 145, 182, 0, 116, 154, 0, 7, 4] := by decide +kernel
theorem dX13_isName_23 : decode cX13_isName 23 = .ok (.ifCond .ne 25, 3) := dz4 dzo154 0 0 25 25 rfl dzbX13_isName_23 rfl
theorem dX13_isName_26 : decode cX13_isName 26 = .ok (.aload_n 0, 1) := dz0 dzo42 3 dzbX13_isName_23 rfl
theorem dX13_isName_27 : decode cX13_isName 27 = .ok (.ldc 143, 2) := dz1 dzo18 4 143 dzbX13_isName_23 rfl
theorem dX13_isName_29 : decode cX13_isName 29 = .ok (.invokevirtual 116, 3) := dz2 dzo182 6 0 116 dzbX13_isName_23 rfl
theorem dX13_isName_32 : decode cX13_isName 32 = .ok (.ifCond .ne 16, 3) := dz4 dzo154 9 0 16 16 rfl dzbX13_isName_23 rfl
theorem dX13_isName_35 : decode cX13_isName 35 = .ok (.aload_n 0, 1) := dz0 dzo42 12 dzbX13_isName_23 rfl
theorem dX13_isName_36 : decode cX13_isName 36 = .ok (.ldc 145, 2) := dz1 dzo18 13 145 dzbX13_isName_23 rfl
theorem dX13_isName_38 : decode cX13_isName 38 = .ok (.invokevirtual 116, 3) := dz2 dzo182 15 0 116 dzbX13_isName_23 rfl
theorem dX13_isName_41 : decode cX13_isName 41 = .ok (.ifCond .ne 7, 3) := dz4 dzo154 18 0 7 7 rfl dzbX13_isName_23 rfl
theorem dX13_isName_44 : decode cX13_isName 44 = .ok (.iconst 1, 1) := dz0 dzo4 21 dzbX13_isName_23 rfl
theorem dzbX13_isName_45 : dzB cX13_isName 45 [167, 0, 4, 3, 172] := by decide +kernel
theorem dX13_isName_45 : decode cX13_isName 45 = .ok (.goto 4, 3) := dz4 dzo167 0 0 4 4 rfl dzbX13_isName_45 rfl
theorem dX13_isName_48 : decode cX13_isName 48 = .ok (.iconst 0, 1) := dz0 dzo3 3 dzbX13_isName_45 rfl
theorem dX13_isName_49 : decode cX13_isName 49 = .ok (.ireturn, 1) := dz0 dzo172 4 dzbX13_isName_45 rfl
theorem dzbX13_isPlace_0 : dzB cX13_isPlace 0 [42, 180, 1, 13, 198, 0, 19, 27, 155, 0, 15, 27, 42, 182, 1, 21, 162, 0, 7, 4, 167, 0, 4, 3] := by decide +kernel
theorem dX13_isPlace_0 : decode cX13_isPlace 0 = .ok (.aload_n 0, 1) := dz0 dzo42 0 dzbX13_isPlace_0 rfl
theorem dX13_isPlace_1 : decode cX13_isPlace 1 = .ok (.getfield 269, 3) := dz2 dzo180 1 1 13 dzbX13_isPlace_0 rfl
theorem dX13_isPlace_4 : decode cX13_isPlace 4 = .ok (.ifnull 19, 3) := dz4 dzo198 4 0 19 19 rfl dzbX13_isPlace_0 rfl
theorem dX13_isPlace_7 : decode cX13_isPlace 7 = .ok (.iload_n 1, 1) := dz0 dzo27 7 dzbX13_isPlace_0 rfl
theorem dX13_isPlace_8 : decode cX13_isPlace 8 = .ok (.ifCond .lt 15, 3) := dz4 dzo155 8 0 15 15 rfl dzbX13_isPlace_0 rfl
theorem dX13_isPlace_11 : decode cX13_isPlace 11 = .ok (.iload_n 1, 1) := dz0 dzo27 11 dzbX13_isPlace_0 rfl
theorem dX13_isPlace_12 : decode cX13_isPlace 12 = .ok (.aload_n 0, 1) := dz0 dzo42 12 dzbX13_isPlace_0 rfl
theorem dX13_isPlace_13 : decode cX13_isPlace 13 = .ok (.invokevirtual 277, 3) := dz2 dzo182 13 1 21 dzbX13_isPlace_0 rfl
theorem dX13_isPlace_16 : decode cX13_isPlace 16 = .ok (.if_icmp .ge 7, 3) := dz4 dzo162 16 0 7 7 rfl dzbX13_isPlace_0 rfl
theorem dX13_isPlace_19 : decode cX13_isPlace 19 = .ok (.iconst 1, 1) := dz0 dzo4 19 dzbX13_isPlace_0 rfl
theorem dX13_isPlace_20 : decode cX13_isPlace 20 = .ok (.goto 4, 3) := dz4 dzo167 20 0 4 4 rfl dzbX13_isPlace_0 rfl
theorem dX13_isPlace_23 : decode cX13_isPlace 23 = .ok (.iconst 0, 1) := dz0 dzo3 23 dzbX13_isPlace_0 rfl
theorem dzbX13_isPlace_24 : dzB cX13_isPlace 24 [172] := by decide +kernel
theorem dX13_isPlace_24 : decode cX13_isPlace 24 = .ok (.ireturn, 1) := dz0 dzo172 0 dzbX13_isPlace_24 rfl
theorem dzbX13_isRest_0 : dzB cX13_isRest 0 [27, 4, 164, 0, 7, 4, 167, 0, 4, 3, 61, 27, 5, 112, 4, 160, 0, 7, 4, 167, 0, 4, 3, 62] := by decide +kernel
theorem dX13_isRest_0 : decode cX13_isRest 0 = .ok (.iload_n 1, 1) := dz0 dzo27 0 dzbX13_isRest_0 rfl
theorem dX13_isRest_1 : decode cX13_isRest 1 = .ok (.iconst 1, 1) := dz0 dzo4 1 dzbX13_isRest_0 rfl
theorem dX13_isRest_2 : decode cX13_isRest 2 = .ok (.if_icmp .le 7, 3) := dz4 dzo164 2 0 7 7 rfl dzbX13_isRest_0 rfl
theorem dX13_isRest_5 : decode cX13_isRest 5 = .ok (.iconst 1, 1) := dz0 dzo4 5 dzbX13_isRest_0 rfl
theorem dX13_isRest_6 : decode cX13_isRest 6 = .ok (.goto 4, 3) := dz4 dzo167 6 0 4 4 rfl dzbX13_isRest_0 rfl
theorem dX13_isRest_9 : decode cX13_isRest 9 = .ok (.iconst 0, 1) := dz0 dzo3 9 dzbX13_isRest_0 rfl
theorem dX13_isRest_10 : decode cX13_isRest 10 = .ok (.istore_n 2, 1) := dz0 dzo61 10 dzbX13_isRest_0 rfl
theorem dX13_isRest_11 : decode cX13_isRest 11 = .ok (.iload_n 1, 1) := dz0 dzo27 11 dzbX13_isRest_0 rfl
theorem dX13_isRest_12 : decode cX13_isRest 12 = .ok (.iconst 2, 1) := dz0 dzo5 12 dzbX13_isRest_0 rfl
theorem dX13_isRest_13 : decode cX13_isRest 13 = .ok (.irem, 1) := dz0 dzo112 13 dzbX13_isRest_0 rfl
theorem dX13_isRest_14 : decode cX13_isRest 14 = .ok (.iconst 1, 1) := dz0 dzo4 14 dzbX13_isRest_0 rfl
theorem dX13_isRest_15 : decode cX13_isRest 15 = .ok (.if_icmp .ne 7, 3) := dz4 dzo160 15 0 7 7 rfl dzbX13_isRest_0 rfl
theorem dX13_isRest_18 : decode cX13_isRest 18 = .ok (.iconst 1, 1) := dz0 dzo4 18 dzbX13_isRest_0 rfl
theorem dX13_isRest_19 : decode cX13_isRest 19 = .ok (.goto 4, 3) := dz4 dzo167 19 0 4 4 rfl dzbX13_isRest_0 rfl
theorem dX13_isRest_22 : decode cX13_isRest 22 = .ok (.iconst 0, 1) := dz0 dzo3 22 dzbX13_isRest_0 rfl
theorem dX13_isRest_23 : decode cX13_isRest 23 = .ok (.istore_n 3, 1) := dz0 dzo62 23 dzbX13_isRest_0 rfl
theorem dzbX13_isRest_24 : dzB cX13_isRest 24 [26, 28, 154, 0, 7, 4, 167, 0, 4, 3, 29, 184, 1, 155, 26, 28, 29, 184, 1, 155, 163, 0, 30, 26] := by decide +kernel
theorem dX13_isRest_24 : decode cX13_isRest 24 = .ok (.iload_n 0, 1) := dz0 dzo26 0 dzbX13_isRest_24 rfl
theorem dX13_isRest_25 : decode cX13_isRest 25 = .ok (.iload_n 2, 1) := dz0 dzo28 1 dzbX13_isRest_24 rfl
theorem dX13_isRest_26 : decode cX13_isRest 26 = .ok (.ifCond .ne 7, 3) := dz4 dzo154 2 0 7 7 rfl dzbX13_isRest_24 rfl
theorem dX13_isRest_29 : decode cX13_isRest 29 = .ok (.iconst 1, 1) := dz0 dzo4 5 dzbX13_isRest_24 rfl
theorem dX13_isRest_30 : decode cX13_isRest 30 = .ok (.goto 4, 3) := dz4 dzo167 6 0 4 4 rfl dzbX13_isRest_24 rfl
theorem dX13_isRest_33 : decode cX13_isRest 33 = .ok (.iconst 0, 1) := dz0 dzo3 9 dzbX13_isRest_24 rfl
theorem dX13_isRest_34 : decode cX13_isRest 34 = .ok (.iload_n 3, 1) := dz0 dzo29 10 dzbX13_isRest_24 rfl
theorem dX13_isRest_35 : decode cX13_isRest 35 = .ok (.invokestatic 411, 3) := dz2 dzo184 11 1 155 dzbX13_isRest_24 rfl
theorem dX13_isRest_38 : decode cX13_isRest 38 = .ok (.iload_n 0, 1) := dz0 dzo26 14 dzbX13_isRest_24 rfl
theorem dX13_isRest_39 : decode cX13_isRest 39 = .ok (.iload_n 2, 1) := dz0 dzo28 15 dzbX13_isRest_24 rfl
theorem dX13_isRest_40 : decode cX13_isRest 40 = .ok (.iload_n 3, 1) := dz0 dzo29 16 dzbX13_isRest_24 rfl
theorem dX13_isRest_41 : decode cX13_isRest 41 = .ok (.invokestatic 411, 3) := dz2 dzo184 17 1 155 dzbX13_isRest_24 rfl
theorem dX13_isRest_44 : decode cX13_isRest 44 = .ok (.if_icmp .gt 30, 3) := dz4 dzo163 20 0 30 30 rfl dzbX13_isRest_24 rfl
theorem dX13_isRest_47 : decode cX13_isRest 47 = .ok (.iload_n 0, 1) := dz0 dzo26 23 dzbX13_isRest_24 rfl
theorem dzbX13_isRest_48 : dzB cX13_isRest 48 [29, 154, 0, 7, 4, 167, 0, 4, 3, 28, 184, 1, 155, 26, 29, 28, 184, 1, 155, 163, 0, 7, 4] := by decide +kernel
theorem dX13_isRest_48 : decode cX13_isRest 48 = .ok (.iload_n 3, 1) := dz0 dzo29 0 dzbX13_isRest_48 rfl
theorem dX13_isRest_49 : decode cX13_isRest 49 = .ok (.ifCond .ne 7, 3) := dz4 dzo154 1 0 7 7 rfl dzbX13_isRest_48 rfl
theorem dX13_isRest_52 : decode cX13_isRest 52 = .ok (.iconst 1, 1) := dz0 dzo4 4 dzbX13_isRest_48 rfl
theorem dX13_isRest_53 : decode cX13_isRest 53 = .ok (.goto 4, 3) := dz4 dzo167 5 0 4 4 rfl dzbX13_isRest_48 rfl
theorem dX13_isRest_56 : decode cX13_isRest 56 = .ok (.iconst 0, 1) := dz0 dzo3 8 dzbX13_isRest_48 rfl
theorem dX13_isRest_57 : decode cX13_isRest 57 = .ok (.iload_n 2, 1) := dz0 dzo28 9 dzbX13_isRest_48 rfl
theorem dX13_isRest_58 : decode cX13_isRest 58 = .ok (.invokestatic 411, 3) := dz2 dzo184 10 1 155 dzbX13_isRest_48 rfl
theorem dX13_isRest_61 : decode cX13_isRest 61 = .ok (.iload_n 0, 1) := dz0 dzo26 13 dzbX13_isRest_48 rfl
theorem dX13_isRest_62 : decode cX13_isRest 62 = .ok (.iload_n 3, 1) := dz0 dzo29 14 dzbX13_isRest_48 rfl
theorem dX13_isRest_63 : decode cX13_isRest 63 = .ok (.iload_n 2, 1) := dz0 dzo28 15 dzbX13_isRest_48 rfl
theorem dX13_isRest_64 : decode cX13_isRest 64 = .ok (.invokestatic 411, 3) := dz2 dzo184 16 1 155 dzbX13_isRest_48 rfl
theorem dX13_isRest_67 : decode cX13_isRest 67 = .ok (.if_icmp .gt 7, 3) := dz4 dzo163 19 0 7 7 rfl dzbX13_isRest_48 rfl
theorem dX13_isRest_70 : decode cX13_isRest 70 = .ok (.iconst 1, 1) := dz0 dzo4 22 dzbX13_isRest_48 rfl
theorem dzbX13_isRest_71 : dzB cX13_isRest 71 [167, 0, 4, 3, 172] := by decide +kernel
theorem dX13_isRest_71 : decode cX13_isRest 71 = .ok (.goto 4, 3) := dz4 dzo167 0 0 4 4 rfl dzbX13_isRest_71 rfl
theorem dX13_isRest_74 : decode cX13_isRest 74 = .ok (.iconst 0, 1) := dz0 dzo3 3 dzbX13_isRest_71 rfl
theorem dX13_isRest_75 : decode cX13_isRest 75 = .ok (.ireturn, 1) := dz0 dzo172 4 dzbX13_isRest_71 rfl
theorem dzbX13_isShut_0 : dzB cX13_isShut 0 [42, 182, 1, 61, 3, 62, 29, 42, 182, 1, 21, 162, 0, 24, 28, 29, 184, 1, 89, 153, 0, 10, 42] := by decide +kernel
theorem dX13_isShut_0 : decode cX13_isShut 0 = .ok (.aload_n 0, 1) := dz0 dzo42 0 dzbX13_isShut_0 rfl
theorem dX13_isShut_1 : decode cX13_isShut 1 = .ok (.invokevirtual 317, 3) := dz2 dzo182 1 1 61 dzbX13_isShut_0 rfl
theorem dX13_isShut_4 : decode cX13_isShut 4 = .ok (.iconst 0, 1) := dz0 dzo3 4 dzbX13_isShut_0 rfl
theorem dX13_isShut_5 : decode cX13_isShut 5 = .ok (.istore_n 3, 1) := dz0 dzo62 5 dzbX13_isShut_0 rfl
theorem dX13_isShut_6 : decode cX13_isShut 6 = .ok (.iload_n 3, 1) := dz0 dzo29 6 dzbX13_isShut_0 rfl
theorem dX13_isShut_7 : decode cX13_isShut 7 = .ok (.aload_n 0, 1) := dz0 dzo42 7 dzbX13_isShut_0 rfl
theorem dX13_isShut_8 : decode cX13_isShut 8 = .ok (.invokevirtual 277, 3) := dz2 dzo182 8 1 21 dzbX13_isShut_0 rfl
theorem dX13_isShut_11 : decode cX13_isShut 11 = .ok (.if_icmp .ge 24, 3) := dz4 dzo162 11 0 24 24 rfl dzbX13_isShut_0 rfl
theorem dX13_isShut_14 : decode cX13_isShut 14 = .ok (.iload_n 2, 1) := dz0 dzo28 14 dzbX13_isShut_0 rfl
theorem dX13_isShut_15 : decode cX13_isShut 15 = .ok (.iload_n 3, 1) := dz0 dzo29 15 dzbX13_isShut_0 rfl
theorem dX13_isShut_16 : decode cX13_isShut 16 = .ok (.invokestatic 345, 3) := dz2 dzo184 16 1 89 dzbX13_isShut_0 rfl
theorem dX13_isShut_19 : decode cX13_isShut 19 = .ok (.ifCond .eq 10, 3) := dz4 dzo153 19 0 10 10 rfl dzbX13_isShut_0 rfl
theorem dX13_isShut_22 : decode cX13_isShut 22 = .ok (.aload_n 0, 1) := dz0 dzo42 22 dzbX13_isShut_0 rfl
theorem dzbX13_isShut_23 : dzB cX13_isShut 23 [180, 0, 21, 29, 6, 79, 132, 3, 1, 167, 255, 230, 42, 27, 4, 182, 1, 67, 19, 1, 37, 160, 0, 7] := by decide +kernel
theorem dX13_isShut_23 : decode cX13_isShut 23 = .ok (.getfield 21, 3) := dz2 dzo180 0 0 21 dzbX13_isShut_23 rfl
theorem dX13_isShut_26 : decode cX13_isShut 26 = .ok (.iload_n 3, 1) := dz0 dzo29 3 dzbX13_isShut_23 rfl
theorem dX13_isShut_27 : decode cX13_isShut 27 = .ok (.iconst 3, 1) := dz0 dzo6 4 dzbX13_isShut_23 rfl
theorem dX13_isShut_28 : decode cX13_isShut 28 = .ok (.iastore, 1) := dz0 dzo79 5 dzbX13_isShut_23 rfl
theorem dX13_isShut_29 : decode cX13_isShut 29 = .ok (.iinc 3 1, 3) := dz5 dzo132 6 3 1 1 rfl dzbX13_isShut_23 rfl
theorem dX13_isShut_32 : decode cX13_isShut 32 = .ok (.goto (-26), 3) := dz4 dzo167 9 255 230 (-26) rfl dzbX13_isShut_23 rfl
theorem dX13_isShut_35 : decode cX13_isShut 35 = .ok (.aload_n 0, 1) := dz0 dzo42 12 dzbX13_isShut_23 rfl
theorem dX13_isShut_36 : decode cX13_isShut 36 = .ok (.iload_n 1, 1) := dz0 dzo27 13 dzbX13_isShut_23 rfl
theorem dX13_isShut_37 : decode cX13_isShut 37 = .ok (.iconst 1, 1) := dz0 dzo4 14 dzbX13_isShut_23 rfl
theorem dX13_isShut_38 : decode cX13_isShut 38 = .ok (.invokevirtual 323, 3) := dz2 dzo182 15 1 67 dzbX13_isShut_23 rfl
theorem dX13_isShut_41 : decode cX13_isShut 41 = .ok (.ldc_w 293, 3) := dz2 dzo19 18 1 37 dzbX13_isShut_23 rfl
theorem dX13_isShut_44 : decode cX13_isShut 44 = .ok (.if_icmp .ne 7, 3) := dz4 dzo160 21 0 7 7 rfl dzbX13_isShut_23 rfl
theorem dzbX13_isShut_47 : dzB cX13_isShut 47 [4, 167, 0, 4, 3, 172] := by decide +kernel
theorem dX13_isShut_47 : decode cX13_isShut 47 = .ok (.iconst 1, 1) := dz0 dzo4 0 dzbX13_isShut_47 rfl
theorem dX13_isShut_48 : decode cX13_isShut 48 = .ok (.goto 4, 3) := dz4 dzo167 1 0 4 4 rfl dzbX13_isShut_47 rfl
theorem dX13_isShut_51 : decode cX13_isShut 51 = .ok (.iconst 0, 1) := dz0 dzo3 4 dzbX13_isShut_47 rfl
theorem dX13_isShut_52 : decode cX13_isShut 52 = .ok (.ireturn, 1) := dz0 dzo172 5 dzbX13_isShut_47 rfl
theorem dzbX13_isToldRight_0 : dzB cX13_isToldRight 0 [42, 42, 180, 1, 13, 180, 0, 254, 27, 46, 42, 180, 1, 13, 180, 1, 1, 27, 46, 28, 182, 1, 120, 42] := by decide +kernel
theorem dX13_isToldRight_0 : decode cX13_isToldRight 0 = .ok (.aload_n 0, 1) := dz0 dzo42 0 dzbX13_isToldRight_0 rfl
theorem dX13_isToldRight_1 : decode cX13_isToldRight 1 = .ok (.aload_n 0, 1) := dz0 dzo42 1 dzbX13_isToldRight_0 rfl
theorem dX13_isToldRight_2 : decode cX13_isToldRight 2 = .ok (.getfield 269, 3) := dz2 dzo180 2 1 13 dzbX13_isToldRight_0 rfl
theorem dX13_isToldRight_5 : decode cX13_isToldRight 5 = .ok (.getfield 254, 3) := dz2 dzo180 5 0 254 dzbX13_isToldRight_0 rfl
theorem dX13_isToldRight_8 : decode cX13_isToldRight 8 = .ok (.iload_n 1, 1) := dz0 dzo27 8 dzbX13_isToldRight_0 rfl
theorem dX13_isToldRight_9 : decode cX13_isToldRight 9 = .ok (.iaload, 1) := dz0 dzo46 9 dzbX13_isToldRight_0 rfl
theorem dX13_isToldRight_10 : decode cX13_isToldRight 10 = .ok (.aload_n 0, 1) := dz0 dzo42 10 dzbX13_isToldRight_0 rfl
theorem dX13_isToldRight_11 : decode cX13_isToldRight 11 = .ok (.getfield 269, 3) := dz2 dzo180 11 1 13 dzbX13_isToldRight_0 rfl
theorem dX13_isToldRight_14 : decode cX13_isToldRight 14 = .ok (.getfield 257, 3) := dz2 dzo180 14 1 1 dzbX13_isToldRight_0 rfl
theorem dX13_isToldRight_17 : decode cX13_isToldRight 17 = .ok (.iload_n 1, 1) := dz0 dzo27 17 dzbX13_isToldRight_0 rfl
theorem dX13_isToldRight_18 : decode cX13_isToldRight 18 = .ok (.iaload, 1) := dz0 dzo46 18 dzbX13_isToldRight_0 rfl
theorem dX13_isToldRight_19 : decode cX13_isToldRight 19 = .ok (.iload_n 2, 1) := dz0 dzo28 19 dzbX13_isToldRight_0 rfl
theorem dX13_isToldRight_20 : decode cX13_isToldRight 20 = .ok (.invokevirtual 376, 3) := dz2 dzo182 20 1 120 dzbX13_isToldRight_0 rfl
theorem dX13_isToldRight_23 : decode cX13_isToldRight 23 = .ok (.aload_n 0, 1) := dz0 dzo42 23 dzbX13_isToldRight_0 rfl
theorem dzbX13_isToldRight_24 : dzB cX13_isToldRight 24 [180, 1, 13, 180, 1, 3, 27, 51, 160, 0, 7, 4, 167, 0, 4, 3, 172] := by decide +kernel
theorem dX13_isToldRight_24 : decode cX13_isToldRight 24 = .ok (.getfield 269, 3) := dz2 dzo180 0 1 13 dzbX13_isToldRight_24 rfl
theorem dX13_isToldRight_27 : decode cX13_isToldRight 27 = .ok (.getfield 259, 3) := dz2 dzo180 3 1 3 dzbX13_isToldRight_24 rfl
theorem dX13_isToldRight_30 : decode cX13_isToldRight 30 = .ok (.iload_n 1, 1) := dz0 dzo27 6 dzbX13_isToldRight_24 rfl
theorem dX13_isToldRight_31 : decode cX13_isToldRight 31 = .ok (.baload, 1) := dz0 dzo51 7 dzbX13_isToldRight_24 rfl
theorem dX13_isToldRight_32 : decode cX13_isToldRight 32 = .ok (.if_icmp .ne 7, 3) := dz4 dzo160 8 0 7 7 rfl dzbX13_isToldRight_24 rfl
theorem dX13_isToldRight_35 : decode cX13_isToldRight 35 = .ok (.iconst 1, 1) := dz0 dzo4 11 dzbX13_isToldRight_24 rfl
theorem dX13_isToldRight_36 : decode cX13_isToldRight 36 = .ok (.goto 4, 3) := dz4 dzo167 12 0 4 4 rfl dzbX13_isToldRight_24 rfl
theorem dX13_isToldRight_39 : decode cX13_isToldRight 39 = .ok (.iconst 0, 1) := dz0 dzo3 15 dzbX13_isToldRight_24 rfl
theorem dX13_isToldRight_40 : decode cX13_isToldRight 40 = .ok (.ireturn, 1) := dz0 dzo172 16 dzbX13_isToldRight_24 rfl
theorem dzbX13_isWalker_0 : dzB cX13_isWalker 0 [42, 180, 1, 13, 198, 0, 22, 27, 155, 0, 18, 27, 42, 180, 1, 13, 180, 0, 206, 162, 0, 7, 4] := by decide +kernel
theorem dX13_isWalker_0 : decode cX13_isWalker 0 = .ok (.aload_n 0, 1) := dz0 dzo42 0 dzbX13_isWalker_0 rfl
theorem dX13_isWalker_1 : decode cX13_isWalker 1 = .ok (.getfield 269, 3) := dz2 dzo180 1 1 13 dzbX13_isWalker_0 rfl
theorem dX13_isWalker_4 : decode cX13_isWalker 4 = .ok (.ifnull 22, 3) := dz4 dzo198 4 0 22 22 rfl dzbX13_isWalker_0 rfl
theorem dX13_isWalker_7 : decode cX13_isWalker 7 = .ok (.iload_n 1, 1) := dz0 dzo27 7 dzbX13_isWalker_0 rfl
theorem dX13_isWalker_8 : decode cX13_isWalker 8 = .ok (.ifCond .lt 18, 3) := dz4 dzo155 8 0 18 18 rfl dzbX13_isWalker_0 rfl
theorem dX13_isWalker_11 : decode cX13_isWalker 11 = .ok (.iload_n 1, 1) := dz0 dzo27 11 dzbX13_isWalker_0 rfl
theorem dX13_isWalker_12 : decode cX13_isWalker 12 = .ok (.aload_n 0, 1) := dz0 dzo42 12 dzbX13_isWalker_0 rfl
theorem dX13_isWalker_13 : decode cX13_isWalker 13 = .ok (.getfield 269, 3) := dz2 dzo180 13 1 13 dzbX13_isWalker_0 rfl
theorem dX13_isWalker_16 : decode cX13_isWalker 16 = .ok (.getfield 206, 3) := dz2 dzo180 16 0 206 dzbX13_isWalker_0 rfl
theorem dX13_isWalker_19 : decode cX13_isWalker 19 = .ok (.if_icmp .ge 7, 3) := dz4 dzo162 19 0 7 7 rfl dzbX13_isWalker_0 rfl
theorem dX13_isWalker_22 : decode cX13_isWalker 22 = .ok (.iconst 1, 1) := dz0 dzo4 22 dzbX13_isWalker_0 rfl
theorem dzbX13_isWalker_23 : dzB cX13_isWalker 23 [167, 0, 4, 3, 172] := by decide +kernel
theorem dX13_isWalker_23 : decode cX13_isWalker 23 = .ok (.goto 4, 3) := dz4 dzo167 0 0 4 4 rfl dzbX13_isWalker_23 rfl
theorem dX13_isWalker_26 : decode cX13_isWalker 26 = .ok (.iconst 0, 1) := dz0 dzo3 3 dzbX13_isWalker_23 rfl
theorem dX13_isWalker_27 : decode cX13_isWalker 27 = .ok (.ireturn, 1) := dz0 dzo172 4 dzbX13_isWalker_23 rfl
theorem dzbX13_isWord_0 : dzB cX13_isWord 0 [42, 180, 0, 74, 5, 160, 0, 19, 42, 180, 0, 90, 43, 184, 0, 109, 148, 154, 0, 7, 4, 167, 0, 4] := by decide +kernel
theorem dX13_isWord_0 : decode cX13_isWord 0 = .ok (.aload_n 0, 1) := dz0 dzo42 0 dzbX13_isWord_0 rfl
theorem dX13_isWord_1 : decode cX13_isWord 1 = .ok (.getfield 74, 3) := dz2 dzo180 1 0 74 dzbX13_isWord_0 rfl
theorem dX13_isWord_4 : decode cX13_isWord 4 = .ok (.iconst 2, 1) := dz0 dzo5 4 dzbX13_isWord_0 rfl
theorem dX13_isWord_5 : decode cX13_isWord 5 = .ok (.if_icmp .ne 19, 3) := dz4 dzo160 5 0 19 19 rfl dzbX13_isWord_0 rfl
theorem dX13_isWord_8 : decode cX13_isWord 8 = .ok (.aload_n 0, 1) := dz0 dzo42 8 dzbX13_isWord_0 rfl
theorem dX13_isWord_9 : decode cX13_isWord 9 = .ok (.getfield 90, 3) := dz2 dzo180 9 0 90 dzbX13_isWord_0 rfl
theorem dX13_isWord_12 : decode cX13_isWord 12 = .ok (.aload_n 1, 1) := dz0 dzo43 12 dzbX13_isWord_0 rfl
theorem dX13_isWord_13 : decode cX13_isWord 13 = .ok (.invokestatic 109, 3) := dz2 dzo184 13 0 109 dzbX13_isWord_0 rfl
theorem dX13_isWord_16 : decode cX13_isWord 16 = .ok (.lcmp, 1) := dz0 dzo148 16 dzbX13_isWord_0 rfl
theorem dX13_isWord_17 : decode cX13_isWord 17 = .ok (.ifCond .ne 7, 3) := dz4 dzo154 17 0 7 7 rfl dzbX13_isWord_0 rfl
theorem dX13_isWord_20 : decode cX13_isWord 20 = .ok (.iconst 1, 1) := dz0 dzo4 20 dzbX13_isWord_0 rfl
theorem dX13_isWord_21 : decode cX13_isWord 21 = .ok (.goto 4, 3) := dz4 dzo167 21 0 4 4 rfl dzbX13_isWord_0 rfl
theorem dzbX13_isWord_24 : dzB cX13_isWord 24 [3, 172] := by decide +kernel
theorem dX13_isWord_24 : decode cX13_isWord 24 = .ok (.iconst 0, 1) := dz0 dzo3 0 dzbX13_isWord_24 rfl
theorem dX13_isWord_25 : decode cX13_isWord 25 = .ok (.ireturn, 1) := dz0 dzo172 1 dzbX13_isWord_24 rfl
theorem dzbX13_judge_0 : dzB cX13_judge 0 [42, 3, 181, 0, 42, 42, 180, 1, 13, 199, 0, 9, 42, 4, 182, 0, 48, 172, 3, 60, 27, 42] := by decide +kernel
theorem dX13_judge_0 : decode cX13_judge 0 = .ok (.aload_n 0, 1) := dz0 dzo42 0 dzbX13_judge_0 rfl
theorem dX13_judge_1 : decode cX13_judge 1 = .ok (.iconst 0, 1) := dz0 dzo3 1 dzbX13_judge_0 rfl
theorem dX13_judge_2 : decode cX13_judge 2 = .ok (.putfield 42, 3) := dz2 dzo181 2 0 42 dzbX13_judge_0 rfl
theorem dX13_judge_5 : decode cX13_judge 5 = .ok (.aload_n 0, 1) := dz0 dzo42 5 dzbX13_judge_0 rfl
theorem dX13_judge_6 : decode cX13_judge 6 = .ok (.getfield 269, 3) := dz2 dzo180 6 1 13 dzbX13_judge_0 rfl
theorem dX13_judge_9 : decode cX13_judge 9 = .ok (.ifnonnull 9, 3) := dz4 dzo199 9 0 9 9 rfl dzbX13_judge_0 rfl
theorem dX13_judge_12 : decode cX13_judge 12 = .ok (.aload_n 0, 1) := dz0 dzo42 12 dzbX13_judge_0 rfl
theorem dX13_judge_13 : decode cX13_judge 13 = .ok (.iconst 1, 1) := dz0 dzo4 13 dzbX13_judge_0 rfl
theorem dX13_judge_14 : decode cX13_judge 14 = .ok (.invokevirtual 48, 3) := dz2 dzo182 14 0 48 dzbX13_judge_0 rfl
theorem dX13_judge_17 : decode cX13_judge 17 = .ok (.ireturn, 1) := dz0 dzo172 17 dzbX13_judge_0 rfl
theorem dX13_judge_18 : decode cX13_judge 18 = .ok (.iconst 0, 1) := dz0 dzo3 18 dzbX13_judge_0 rfl
theorem dX13_judge_19 : decode cX13_judge 19 = .ok (.istore_n 1, 1) := dz0 dzo60 19 dzbX13_judge_0 rfl
theorem dX13_judge_20 : decode cX13_judge 20 = .ok (.iload_n 1, 1) := dz0 dzo27 20 dzbX13_judge_0 rfl
theorem dX13_judge_21 : decode cX13_judge 21 = .ok (.aload_n 0, 1) := dz0 dzo42 21 dzbX13_judge_0 rfl
theorem dzbX13_judge_22 : dzB cX13_judge 22 [180, 1, 13, 180, 0, 245, 162, 0, 24, 42, 27, 3, 182, 1, 123, 154, 0, 9, 42, 27, 182, 0, 52, 172] := by decide +kernel
theorem dX13_judge_22 : decode cX13_judge 22 = .ok (.getfield 269, 3) := dz2 dzo180 0 1 13 dzbX13_judge_22 rfl
theorem dX13_judge_25 : decode cX13_judge 25 = .ok (.getfield 245, 3) := dz2 dzo180 3 0 245 dzbX13_judge_22 rfl
theorem dX13_judge_28 : decode cX13_judge 28 = .ok (.if_icmp .ge 24, 3) := dz4 dzo162 6 0 24 24 rfl dzbX13_judge_22 rfl
theorem dX13_judge_31 : decode cX13_judge 31 = .ok (.aload_n 0, 1) := dz0 dzo42 9 dzbX13_judge_22 rfl
theorem dX13_judge_32 : decode cX13_judge 32 = .ok (.iload_n 1, 1) := dz0 dzo27 10 dzbX13_judge_22 rfl
theorem dX13_judge_33 : decode cX13_judge 33 = .ok (.iconst 0, 1) := dz0 dzo3 11 dzbX13_judge_22 rfl
theorem dX13_judge_34 : decode cX13_judge 34 = .ok (.invokevirtual 379, 3) := dz2 dzo182 12 1 123 dzbX13_judge_22 rfl
theorem dX13_judge_37 : decode cX13_judge 37 = .ok (.ifCond .ne 9, 3) := dz4 dzo154 15 0 9 9 rfl dzbX13_judge_22 rfl
theorem dX13_judge_40 : decode cX13_judge 40 = .ok (.aload_n 0, 1) := dz0 dzo42 18 dzbX13_judge_22 rfl
theorem dX13_judge_41 : decode cX13_judge 41 = .ok (.iload_n 1, 1) := dz0 dzo27 19 dzbX13_judge_22 rfl
theorem dX13_judge_42 : decode cX13_judge 42 = .ok (.invokevirtual 52, 3) := dz2 dzo182 20 0 52 dzbX13_judge_22 rfl
theorem dX13_judge_45 : decode cX13_judge 45 = .ok (.ireturn, 1) := dz0 dzo172 23 dzbX13_judge_22 rfl
theorem dzbX13_judge_46 : dzB cX13_judge 46 [132, 1, 1, 167, 255, 227, 42, 16, 254, 182, 0, 52, 172] := by decide +kernel
theorem dX13_judge_46 : decode cX13_judge 46 = .ok (.iinc 1 1, 3) := dz5 dzo132 0 1 1 1 rfl dzbX13_judge_46 rfl
theorem dX13_judge_49 : decode cX13_judge 49 = .ok (.goto (-29), 3) := dz4 dzo167 3 255 227 (-29) rfl dzbX13_judge_46 rfl
theorem dX13_judge_52 : decode cX13_judge 52 = .ok (.aload_n 0, 1) := dz0 dzo42 6 dzbX13_judge_46 rfl
theorem dX13_judge_53 : decode cX13_judge 53 = .ok (.bipush (-2), 2) := dz3 dzo16 7 254 (-2) rfl dzbX13_judge_46 rfl
theorem dX13_judge_55 : decode cX13_judge 55 = .ok (.invokevirtual 52, 3) := dz2 dzo182 9 0 52 dzbX13_judge_46 rfl
theorem dX13_judge_58 : decode cX13_judge 58 = .ok (.ireturn, 1) := dz0 dzo172 12 dzbX13_judge_46 rfl
theorem dzbX13_lain_0 : dzB cX13_lain 0 [27, 153, 0, 17, 28, 153, 0, 9, 5, 26, 100, 167, 0, 16, 7, 167, 0, 12, 28, 153, 0, 7, 3] := by decide +kernel
theorem dX13_lain_0 : decode cX13_lain 0 = .ok (.iload_n 1, 1) := dz0 dzo27 0 dzbX13_lain_0 rfl
theorem dX13_lain_1 : decode cX13_lain 1 = .ok (.ifCond .eq 17, 3) := dz4 dzo153 1 0 17 17 rfl dzbX13_lain_0 rfl
theorem dX13_lain_4 : decode cX13_lain 4 = .ok (.iload_n 2, 1) := dz0 dzo28 4 dzbX13_lain_0 rfl
theorem dX13_lain_5 : decode cX13_lain 5 = .ok (.ifCond .eq 9, 3) := dz4 dzo153 5 0 9 9 rfl dzbX13_lain_0 rfl
theorem dX13_lain_8 : decode cX13_lain 8 = .ok (.iconst 2, 1) := dz0 dzo5 8 dzbX13_lain_0 rfl
theorem dX13_lain_9 : decode cX13_lain 9 = .ok (.iload_n 0, 1) := dz0 dzo26 9 dzbX13_lain_0 rfl
theorem dX13_lain_10 : decode cX13_lain 10 = .ok (.isub, 1) := dz0 dzo100 10 dzbX13_lain_0 rfl
theorem dX13_lain_11 : decode cX13_lain 11 = .ok (.goto 16, 3) := dz4 dzo167 11 0 16 16 rfl dzbX13_lain_0 rfl
theorem dX13_lain_14 : decode cX13_lain 14 = .ok (.iconst 4, 1) := dz0 dzo7 14 dzbX13_lain_0 rfl
theorem dX13_lain_15 : decode cX13_lain 15 = .ok (.goto 12, 3) := dz4 dzo167 15 0 12 12 rfl dzbX13_lain_0 rfl
theorem dX13_lain_18 : decode cX13_lain 18 = .ok (.iload_n 2, 1) := dz0 dzo28 18 dzbX13_lain_0 rfl
theorem dX13_lain_19 : decode cX13_lain 19 = .ok (.ifCond .eq 7, 3) := dz4 dzo153 19 0 7 7 rfl dzbX13_lain_0 rfl
theorem dX13_lain_22 : decode cX13_lain 22 = .ok (.iconst 0, 1) := dz0 dzo3 22 dzbX13_lain_0 rfl
theorem dzbX13_lain_23 : dzB cX13_lain 23 [167, 0, 4, 4, 172] := by decide +kernel
theorem dX13_lain_23 : decode cX13_lain 23 = .ok (.goto 4, 3) := dz4 dzo167 0 0 4 4 rfl dzbX13_lain_23 rfl
theorem dX13_lain_26 : decode cX13_lain 26 = .ok (.iconst 1, 1) := dz0 dzo4 3 dzbX13_lain_23 rfl
theorem dX13_lain_27 : decode cX13_lain 27 = .ok (.ireturn, 1) := dz0 dzo172 4 dzbX13_lain_23 rfl
theorem dzbX13_lasts_0 : dzB cX13_lasts 0 [42, 28, 29, 182, 1, 24, 54, 4, 21, 4, 16, 254, 159, 0, 14, 42, 180, 0, 21, 21, 4, 46, 6] := by decide +kernel
theorem dX13_lasts_0 : decode cX13_lasts 0 = .ok (.aload_n 0, 1) := dz0 dzo42 0 dzbX13_lasts_0 rfl
theorem dX13_lasts_1 : decode cX13_lasts 1 = .ok (.iload_n 2, 1) := dz0 dzo28 1 dzbX13_lasts_0 rfl
theorem dX13_lasts_2 : decode cX13_lasts 2 = .ok (.iload_n 3, 1) := dz0 dzo29 2 dzbX13_lasts_0 rfl
theorem dX13_lasts_3 : decode cX13_lasts 3 = .ok (.invokevirtual 280, 3) := dz2 dzo182 3 1 24 dzbX13_lasts_0 rfl
theorem dX13_lasts_6 : decode cX13_lasts 6 = .ok (.istore 4, 2) := dz1 dzo54 6 4 dzbX13_lasts_0 rfl
theorem dX13_lasts_8 : decode cX13_lasts 8 = .ok (.iload 4, 2) := dz1 dzo21 8 4 dzbX13_lasts_0 rfl
theorem dX13_lasts_10 : decode cX13_lasts 10 = .ok (.bipush (-2), 2) := dz3 dzo16 10 254 (-2) rfl dzbX13_lasts_0 rfl
theorem dX13_lasts_12 : decode cX13_lasts 12 = .ok (.if_icmp .eq 14, 3) := dz4 dzo159 12 0 14 14 rfl dzbX13_lasts_0 rfl
theorem dX13_lasts_15 : decode cX13_lasts 15 = .ok (.aload_n 0, 1) := dz0 dzo42 15 dzbX13_lasts_0 rfl
theorem dX13_lasts_16 : decode cX13_lasts 16 = .ok (.getfield 21, 3) := dz2 dzo180 16 0 21 dzbX13_lasts_0 rfl
theorem dX13_lasts_19 : decode cX13_lasts 19 = .ok (.iload 4, 2) := dz1 dzo21 19 4 dzbX13_lasts_0 rfl
theorem dX13_lasts_21 : decode cX13_lasts 21 = .ok (.iaload, 1) := dz0 dzo46 21 dzbX13_lasts_0 rfl
theorem dX13_lasts_22 : decode cX13_lasts 22 = .ok (.iconst 3, 1) := dz0 dzo6 22 dzbX13_lasts_0 rfl
theorem dzbX13_lasts_23 : dzB cX13_lasts 23 [160, 0, 6, 16, 254, 172, 42, 180, 0, 21, 21, 4, 46, 4, 160, 0, 9, 27, 29, 184, 1, 27, 172, 42] := by decide +kernel
theorem dX13_lasts_23 : decode cX13_lasts 23 = .ok (.if_icmp .ne 6, 3) := dz4 dzo160 0 0 6 6 rfl dzbX13_lasts_23 rfl
theorem dX13_lasts_26 : decode cX13_lasts 26 = .ok (.bipush (-2), 2) := dz3 dzo16 3 254 (-2) rfl dzbX13_lasts_23 rfl
theorem dX13_lasts_28 : decode cX13_lasts 28 = .ok (.ireturn, 1) := dz0 dzo172 5 dzbX13_lasts_23 rfl
theorem dX13_lasts_29 : decode cX13_lasts 29 = .ok (.aload_n 0, 1) := dz0 dzo42 6 dzbX13_lasts_23 rfl
theorem dX13_lasts_30 : decode cX13_lasts 30 = .ok (.getfield 21, 3) := dz2 dzo180 7 0 21 dzbX13_lasts_23 rfl
theorem dX13_lasts_33 : decode cX13_lasts 33 = .ok (.iload 4, 2) := dz1 dzo21 10 4 dzbX13_lasts_23 rfl
theorem dX13_lasts_35 : decode cX13_lasts 35 = .ok (.iaload, 1) := dz0 dzo46 12 dzbX13_lasts_23 rfl
theorem dX13_lasts_36 : decode cX13_lasts 36 = .ok (.iconst 1, 1) := dz0 dzo4 13 dzbX13_lasts_23 rfl
theorem dX13_lasts_37 : decode cX13_lasts 37 = .ok (.if_icmp .ne 9, 3) := dz4 dzo160 14 0 9 9 rfl dzbX13_lasts_23 rfl
theorem dX13_lasts_40 : decode cX13_lasts 40 = .ok (.iload_n 1, 1) := dz0 dzo27 17 dzbX13_lasts_23 rfl
theorem dX13_lasts_41 : decode cX13_lasts 41 = .ok (.iload_n 3, 1) := dz0 dzo29 18 dzbX13_lasts_23 rfl
theorem dX13_lasts_42 : decode cX13_lasts 42 = .ok (.invokestatic 283, 3) := dz2 dzo184 19 1 27 dzbX13_lasts_23 rfl
theorem dX13_lasts_45 : decode cX13_lasts 45 = .ok (.ireturn, 1) := dz0 dzo172 22 dzbX13_lasts_23 rfl
theorem dX13_lasts_46 : decode cX13_lasts 46 = .ok (.aload_n 0, 1) := dz0 dzo42 23 dzbX13_lasts_23 rfl
theorem dzbX13_lasts_47 : dzB cX13_lasts 47 [180, 0, 21, 28, 46, 4, 160, 0, 8, 29, 5, 159, 0, 5, 4, 172, 27, 5, 160, 0, 7, 4] := by decide +kernel
theorem dX13_lasts_47 : decode cX13_lasts 47 = .ok (.getfield 21, 3) := dz2 dzo180 0 0 21 dzbX13_lasts_47 rfl
theorem dX13_lasts_50 : decode cX13_lasts 50 = .ok (.iload_n 2, 1) := dz0 dzo28 3 dzbX13_lasts_47 rfl
theorem dX13_lasts_51 : decode cX13_lasts 51 = .ok (.iaload, 1) := dz0 dzo46 4 dzbX13_lasts_47 rfl
theorem dX13_lasts_52 : decode cX13_lasts 52 = .ok (.iconst 1, 1) := dz0 dzo4 5 dzbX13_lasts_47 rfl
theorem dX13_lasts_53 : decode cX13_lasts 53 = .ok (.if_icmp .ne 8, 3) := dz4 dzo160 6 0 8 8 rfl dzbX13_lasts_47 rfl
theorem dX13_lasts_56 : decode cX13_lasts 56 = .ok (.iload_n 3, 1) := dz0 dzo29 9 dzbX13_lasts_47 rfl
theorem dX13_lasts_57 : decode cX13_lasts 57 = .ok (.iconst 2, 1) := dz0 dzo5 10 dzbX13_lasts_47 rfl
theorem dX13_lasts_58 : decode cX13_lasts 58 = .ok (.if_icmp .eq 5, 3) := dz4 dzo159 11 0 5 5 rfl dzbX13_lasts_47 rfl
theorem dX13_lasts_61 : decode cX13_lasts 61 = .ok (.iconst 1, 1) := dz0 dzo4 14 dzbX13_lasts_47 rfl
theorem dX13_lasts_62 : decode cX13_lasts 62 = .ok (.ireturn, 1) := dz0 dzo172 15 dzbX13_lasts_47 rfl
theorem dX13_lasts_63 : decode cX13_lasts 63 = .ok (.iload_n 1, 1) := dz0 dzo27 16 dzbX13_lasts_47 rfl
theorem dX13_lasts_64 : decode cX13_lasts 64 = .ok (.iconst 2, 1) := dz0 dzo5 17 dzbX13_lasts_47 rfl
theorem dX13_lasts_65 : decode cX13_lasts 65 = .ok (.if_icmp .ne 7, 3) := dz4 dzo160 18 0 7 7 rfl dzbX13_lasts_47 rfl
theorem dX13_lasts_68 : decode cX13_lasts 68 = .ok (.iconst 1, 1) := dz0 dzo4 21 dzbX13_lasts_47 rfl
theorem dzbX13_lasts_69 : dzB cX13_lasts 69 [167, 0, 14, 27, 6, 160, 0, 7, 7, 167, 0, 5, 16, 254, 172] := by decide +kernel
theorem dX13_lasts_69 : decode cX13_lasts 69 = .ok (.goto 14, 3) := dz4 dzo167 0 0 14 14 rfl dzbX13_lasts_69 rfl
theorem dX13_lasts_72 : decode cX13_lasts 72 = .ok (.iload_n 1, 1) := dz0 dzo27 3 dzbX13_lasts_69 rfl
theorem dX13_lasts_73 : decode cX13_lasts 73 = .ok (.iconst 3, 1) := dz0 dzo6 4 dzbX13_lasts_69 rfl
theorem dX13_lasts_74 : decode cX13_lasts 74 = .ok (.if_icmp .ne 7, 3) := dz4 dzo160 5 0 7 7 rfl dzbX13_lasts_69 rfl
theorem dX13_lasts_77 : decode cX13_lasts 77 = .ok (.iconst 4, 1) := dz0 dzo7 8 dzbX13_lasts_69 rfl
theorem dX13_lasts_78 : decode cX13_lasts 78 = .ok (.goto 5, 3) := dz4 dzo167 9 0 5 5 rfl dzbX13_lasts_69 rfl
theorem dX13_lasts_81 : decode cX13_lasts 81 = .ok (.bipush (-2), 2) := dz3 dzo16 12 254 (-2) rfl dzbX13_lasts_69 rfl
theorem dX13_lasts_83 : decode cX13_lasts 83 = .ok (.ireturn, 1) := dz0 dzo172 14 dzbX13_lasts_69 rfl
theorem dzbX13_latest_0 : dzB cX13_latest 0 [42, 3, 181, 0, 42, 42, 180, 1, 13, 199, 0, 9, 42, 4, 182, 0, 48, 172, 42, 182, 1, 61, 16, 254] := by decide +kernel
theorem dX13_latest_0 : decode cX13_latest 0 = .ok (.aload_n 0, 1) := dz0 dzo42 0 dzbX13_latest_0 rfl
theorem dX13_latest_1 : decode cX13_latest 1 = .ok (.iconst 0, 1) := dz0 dzo3 1 dzbX13_latest_0 rfl
theorem dX13_latest_2 : decode cX13_latest 2 = .ok (.putfield 42, 3) := dz2 dzo181 2 0 42 dzbX13_latest_0 rfl
theorem dX13_latest_5 : decode cX13_latest 5 = .ok (.aload_n 0, 1) := dz0 dzo42 5 dzbX13_latest_0 rfl
theorem dX13_latest_6 : decode cX13_latest 6 = .ok (.getfield 269, 3) := dz2 dzo180 6 1 13 dzbX13_latest_0 rfl
theorem dX13_latest_9 : decode cX13_latest 9 = .ok (.ifnonnull 9, 3) := dz4 dzo199 9 0 9 9 rfl dzbX13_latest_0 rfl
theorem dX13_latest_12 : decode cX13_latest 12 = .ok (.aload_n 0, 1) := dz0 dzo42 12 dzbX13_latest_0 rfl
theorem dX13_latest_13 : decode cX13_latest 13 = .ok (.iconst 1, 1) := dz0 dzo4 13 dzbX13_latest_0 rfl
theorem dX13_latest_14 : decode cX13_latest 14 = .ok (.invokevirtual 48, 3) := dz2 dzo182 14 0 48 dzbX13_latest_0 rfl
theorem dX13_latest_17 : decode cX13_latest 17 = .ok (.ireturn, 1) := dz0 dzo172 17 dzbX13_latest_0 rfl
theorem dX13_latest_18 : decode cX13_latest 18 = .ok (.aload_n 0, 1) := dz0 dzo42 18 dzbX13_latest_0 rfl
theorem dX13_latest_19 : decode cX13_latest 19 = .ok (.invokevirtual 317, 3) := dz2 dzo182 19 1 61 dzbX13_latest_0 rfl
theorem dX13_latest_22 : decode cX13_latest 22 = .ok (.bipush (-2), 2) := dz3 dzo16 22 254 (-2) rfl dzbX13_latest_0 rfl
theorem dzbX13_latest_24 : dzB cX13_latest 24 [60, 2, 61, 3, 62, 29, 42, 180, 1, 13, 180, 0, 206, 162, 0, 47, 42, 29, 4, 182, 1, 67, 54, 4] := by decide +kernel
theorem dX13_latest_24 : decode cX13_latest 24 = .ok (.istore_n 1, 1) := dz0 dzo60 0 dzbX13_latest_24 rfl
theorem dX13_latest_25 : decode cX13_latest 25 = .ok (.iconst (-1), 1) := dz0 dzo2 1 dzbX13_latest_24 rfl
theorem dX13_latest_26 : decode cX13_latest 26 = .ok (.istore_n 2, 1) := dz0 dzo61 2 dzbX13_latest_24 rfl
theorem dX13_latest_27 : decode cX13_latest 27 = .ok (.iconst 0, 1) := dz0 dzo3 3 dzbX13_latest_24 rfl
theorem dX13_latest_28 : decode cX13_latest 28 = .ok (.istore_n 3, 1) := dz0 dzo62 4 dzbX13_latest_24 rfl
theorem dX13_latest_29 : decode cX13_latest 29 = .ok (.iload_n 3, 1) := dz0 dzo29 5 dzbX13_latest_24 rfl
theorem dX13_latest_30 : decode cX13_latest 30 = .ok (.aload_n 0, 1) := dz0 dzo42 6 dzbX13_latest_24 rfl
theorem dX13_latest_31 : decode cX13_latest 31 = .ok (.getfield 269, 3) := dz2 dzo180 7 1 13 dzbX13_latest_24 rfl
theorem dX13_latest_34 : decode cX13_latest 34 = .ok (.getfield 206, 3) := dz2 dzo180 10 0 206 dzbX13_latest_24 rfl
theorem dX13_latest_37 : decode cX13_latest 37 = .ok (.if_icmp .ge 47, 3) := dz4 dzo162 13 0 47 47 rfl dzbX13_latest_24 rfl
theorem dX13_latest_40 : decode cX13_latest 40 = .ok (.aload_n 0, 1) := dz0 dzo42 16 dzbX13_latest_24 rfl
theorem dX13_latest_41 : decode cX13_latest 41 = .ok (.iload_n 3, 1) := dz0 dzo29 17 dzbX13_latest_24 rfl
theorem dX13_latest_42 : decode cX13_latest 42 = .ok (.iconst 1, 1) := dz0 dzo4 18 dzbX13_latest_24 rfl
theorem dX13_latest_43 : decode cX13_latest 43 = .ok (.invokevirtual 323, 3) := dz2 dzo182 19 1 67 dzbX13_latest_24 rfl
theorem dX13_latest_46 : decode cX13_latest 46 = .ok (.istore 4, 2) := dz1 dzo54 22 4 dzbX13_latest_24 rfl
theorem dzbX13_latest_48 : dzB cX13_latest 48 [21, 4, 19, 1, 37, 159, 0, 25, 21, 4, 17, 3, 232, 108, 28, 163, 0, 6, 167, 0, 12, 21, 4] := by decide +kernel
theorem dX13_latest_48 : decode cX13_latest 48 = .ok (.iload 4, 2) := dz1 dzo21 0 4 dzbX13_latest_48 rfl
theorem dX13_latest_50 : decode cX13_latest 50 = .ok (.ldc_w 293, 3) := dz2 dzo19 2 1 37 dzbX13_latest_48 rfl
theorem dX13_latest_53 : decode cX13_latest 53 = .ok (.if_icmp .eq 25, 3) := dz4 dzo159 5 0 25 25 rfl dzbX13_latest_48 rfl
theorem dX13_latest_56 : decode cX13_latest 56 = .ok (.iload 4, 2) := dz1 dzo21 8 4 dzbX13_latest_48 rfl
theorem dX13_latest_58 : decode cX13_latest 58 = .ok (.sipush 1000, 3) := dz4 dzo17 10 3 232 1000 rfl dzbX13_latest_48 rfl
theorem dX13_latest_61 : decode cX13_latest 61 = .ok (.idiv, 1) := dz0 dzo108 13 dzbX13_latest_48 rfl
theorem dX13_latest_62 : decode cX13_latest 62 = .ok (.iload_n 2, 1) := dz0 dzo28 14 dzbX13_latest_48 rfl
theorem dX13_latest_63 : decode cX13_latest 63 = .ok (.if_icmp .gt 6, 3) := dz4 dzo163 15 0 6 6 rfl dzbX13_latest_48 rfl
theorem dX13_latest_66 : decode cX13_latest 66 = .ok (.goto 12, 3) := dz4 dzo167 18 0 12 12 rfl dzbX13_latest_48 rfl
theorem dX13_latest_69 : decode cX13_latest 69 = .ok (.iload 4, 2) := dz1 dzo21 21 4 dzbX13_latest_48 rfl
theorem dzbX13_latest_71 : dzB cX13_latest 71 [17, 3, 232, 108, 61, 29, 60, 132, 3, 1, 167, 255, 204, 42, 27, 182, 0, 52, 172] := by decide +kernel
theorem dX13_latest_71 : decode cX13_latest 71 = .ok (.sipush 1000, 3) := dz4 dzo17 0 3 232 1000 rfl dzbX13_latest_71 rfl
theorem dX13_latest_74 : decode cX13_latest 74 = .ok (.idiv, 1) := dz0 dzo108 3 dzbX13_latest_71 rfl
theorem dX13_latest_75 : decode cX13_latest 75 = .ok (.istore_n 2, 1) := dz0 dzo61 4 dzbX13_latest_71 rfl
theorem dX13_latest_76 : decode cX13_latest 76 = .ok (.iload_n 3, 1) := dz0 dzo29 5 dzbX13_latest_71 rfl
theorem dX13_latest_77 : decode cX13_latest 77 = .ok (.istore_n 1, 1) := dz0 dzo60 6 dzbX13_latest_71 rfl
theorem dX13_latest_78 : decode cX13_latest 78 = .ok (.iinc 3 1, 3) := dz5 dzo132 7 3 1 1 rfl dzbX13_latest_71 rfl
theorem dX13_latest_81 : decode cX13_latest 81 = .ok (.goto (-52), 3) := dz4 dzo167 10 255 204 (-52) rfl dzbX13_latest_71 rfl
theorem dX13_latest_84 : decode cX13_latest 84 = .ok (.aload_n 0, 1) := dz0 dzo42 13 dzbX13_latest_71 rfl
theorem dX13_latest_85 : decode cX13_latest 85 = .ok (.iload_n 1, 1) := dz0 dzo27 14 dzbX13_latest_71 rfl
theorem dX13_latest_86 : decode cX13_latest 86 = .ok (.invokevirtual 52, 3) := dz2 dzo182 15 0 52 dzbX13_latest_71 rfl
theorem dX13_latest_89 : decode cX13_latest 89 = .ok (.ireturn, 1) := dz0 dzo172 18 dzbX13_latest_71 rfl
theorem dzbX13_leastSet_0 : dzB cX13_leastSet 0 [42, 27, 3, 182, 1, 99, 153, 0, 5, 3, 172, 3, 62, 29, 42, 182, 1, 21, 162, 0, 32, 28, 29] := by decide +kernel
theorem dX13_leastSet_0 : decode cX13_leastSet 0 = .ok (.aload_n 0, 1) := dz0 dzo42 0 dzbX13_leastSet_0 rfl
theorem dX13_leastSet_1 : decode cX13_leastSet 1 = .ok (.iload_n 1, 1) := dz0 dzo27 1 dzbX13_leastSet_0 rfl
theorem dX13_leastSet_2 : decode cX13_leastSet 2 = .ok (.iconst 0, 1) := dz0 dzo3 2 dzbX13_leastSet_0 rfl
theorem dX13_leastSet_3 : decode cX13_leastSet 3 = .ok (.invokevirtual 355, 3) := dz2 dzo182 3 1 99 dzbX13_leastSet_0 rfl
theorem dX13_leastSet_6 : decode cX13_leastSet 6 = .ok (.ifCond .eq 5, 3) := dz4 dzo153 6 0 5 5 rfl dzbX13_leastSet_0 rfl
theorem dX13_leastSet_9 : decode cX13_leastSet 9 = .ok (.iconst 0, 1) := dz0 dzo3 9 dzbX13_leastSet_0 rfl
theorem dX13_leastSet_10 : decode cX13_leastSet 10 = .ok (.ireturn, 1) := dz0 dzo172 10 dzbX13_leastSet_0 rfl
theorem dX13_leastSet_11 : decode cX13_leastSet 11 = .ok (.iconst 0, 1) := dz0 dzo3 11 dzbX13_leastSet_0 rfl
theorem dX13_leastSet_12 : decode cX13_leastSet 12 = .ok (.istore_n 3, 1) := dz0 dzo62 12 dzbX13_leastSet_0 rfl
theorem dX13_leastSet_13 : decode cX13_leastSet 13 = .ok (.iload_n 3, 1) := dz0 dzo29 13 dzbX13_leastSet_0 rfl
theorem dX13_leastSet_14 : decode cX13_leastSet 14 = .ok (.aload_n 0, 1) := dz0 dzo42 14 dzbX13_leastSet_0 rfl
theorem dX13_leastSet_15 : decode cX13_leastSet 15 = .ok (.invokevirtual 277, 3) := dz2 dzo182 15 1 21 dzbX13_leastSet_0 rfl
theorem dX13_leastSet_18 : decode cX13_leastSet 18 = .ok (.if_icmp .ge 32, 3) := dz4 dzo162 18 0 32 32 rfl dzbX13_leastSet_0 rfl
theorem dX13_leastSet_21 : decode cX13_leastSet 21 = .ok (.iload_n 2, 1) := dz0 dzo28 21 dzbX13_leastSet_0 rfl
theorem dX13_leastSet_22 : decode cX13_leastSet 22 = .ok (.iload_n 3, 1) := dz0 dzo29 22 dzbX13_leastSet_0 rfl
theorem dzbX13_leastSet_23 : dzB cX13_leastSet 23 [184, 1, 89, 153, 0, 18, 42, 27, 4, 29, 120, 182, 1, 99, 153, 0, 7, 4, 29, 120, 172, 132, 3, 1] := by decide +kernel
theorem dX13_leastSet_23 : decode cX13_leastSet 23 = .ok (.invokestatic 345, 3) := dz2 dzo184 0 1 89 dzbX13_leastSet_23 rfl
theorem dX13_leastSet_26 : decode cX13_leastSet 26 = .ok (.ifCond .eq 18, 3) := dz4 dzo153 3 0 18 18 rfl dzbX13_leastSet_23 rfl
theorem dX13_leastSet_29 : decode cX13_leastSet 29 = .ok (.aload_n 0, 1) := dz0 dzo42 6 dzbX13_leastSet_23 rfl
theorem dX13_leastSet_30 : decode cX13_leastSet 30 = .ok (.iload_n 1, 1) := dz0 dzo27 7 dzbX13_leastSet_23 rfl
theorem dX13_leastSet_31 : decode cX13_leastSet 31 = .ok (.iconst 1, 1) := dz0 dzo4 8 dzbX13_leastSet_23 rfl
theorem dX13_leastSet_32 : decode cX13_leastSet 32 = .ok (.iload_n 3, 1) := dz0 dzo29 9 dzbX13_leastSet_23 rfl
theorem dX13_leastSet_33 : decode cX13_leastSet 33 = .ok (.ishl, 1) := dz0 dzo120 10 dzbX13_leastSet_23 rfl
theorem dX13_leastSet_34 : decode cX13_leastSet 34 = .ok (.invokevirtual 355, 3) := dz2 dzo182 11 1 99 dzbX13_leastSet_23 rfl
theorem dX13_leastSet_37 : decode cX13_leastSet 37 = .ok (.ifCond .eq 7, 3) := dz4 dzo153 14 0 7 7 rfl dzbX13_leastSet_23 rfl
theorem dX13_leastSet_40 : decode cX13_leastSet 40 = .ok (.iconst 1, 1) := dz0 dzo4 17 dzbX13_leastSet_23 rfl
theorem dX13_leastSet_41 : decode cX13_leastSet 41 = .ok (.iload_n 3, 1) := dz0 dzo29 18 dzbX13_leastSet_23 rfl
theorem dX13_leastSet_42 : decode cX13_leastSet 42 = .ok (.ishl, 1) := dz0 dzo120 19 dzbX13_leastSet_23 rfl
theorem dX13_leastSet_43 : decode cX13_leastSet 43 = .ok (.ireturn, 1) := dz0 dzo172 20 dzbX13_leastSet_23 rfl
theorem dX13_leastSet_44 : decode cX13_leastSet 44 = .ok (.iinc 3 1, 3) := dz5 dzo132 21 3 1 1 rfl dzbX13_leastSet_23 rfl
theorem dzbX13_leastSet_47 : dzB cX13_leastSet 47 [167, 255, 222, 3, 62, 29, 42, 182, 1, 21, 162, 0, 66, 3, 54, 4, 21, 4, 29, 162, 0, 51, 28] := by decide +kernel
theorem dX13_leastSet_47 : decode cX13_leastSet 47 = .ok (.goto (-34), 3) := dz4 dzo167 0 255 222 (-34) rfl dzbX13_leastSet_47 rfl
theorem dX13_leastSet_50 : decode cX13_leastSet 50 = .ok (.iconst 0, 1) := dz0 dzo3 3 dzbX13_leastSet_47 rfl
theorem dX13_leastSet_51 : decode cX13_leastSet 51 = .ok (.istore_n 3, 1) := dz0 dzo62 4 dzbX13_leastSet_47 rfl
theorem dX13_leastSet_52 : decode cX13_leastSet 52 = .ok (.iload_n 3, 1) := dz0 dzo29 5 dzbX13_leastSet_47 rfl
theorem dX13_leastSet_53 : decode cX13_leastSet 53 = .ok (.aload_n 0, 1) := dz0 dzo42 6 dzbX13_leastSet_47 rfl
theorem dX13_leastSet_54 : decode cX13_leastSet 54 = .ok (.invokevirtual 277, 3) := dz2 dzo182 7 1 21 dzbX13_leastSet_47 rfl
theorem dX13_leastSet_57 : decode cX13_leastSet 57 = .ok (.if_icmp .ge 66, 3) := dz4 dzo162 10 0 66 66 rfl dzbX13_leastSet_47 rfl
theorem dX13_leastSet_60 : decode cX13_leastSet 60 = .ok (.iconst 0, 1) := dz0 dzo3 13 dzbX13_leastSet_47 rfl
theorem dX13_leastSet_61 : decode cX13_leastSet 61 = .ok (.istore 4, 2) := dz1 dzo54 14 4 dzbX13_leastSet_47 rfl
theorem dX13_leastSet_63 : decode cX13_leastSet 63 = .ok (.iload 4, 2) := dz1 dzo21 16 4 dzbX13_leastSet_47 rfl
theorem dX13_leastSet_65 : decode cX13_leastSet 65 = .ok (.iload_n 3, 1) := dz0 dzo29 18 dzbX13_leastSet_47 rfl
theorem dX13_leastSet_66 : decode cX13_leastSet 66 = .ok (.if_icmp .ge 51, 3) := dz4 dzo162 19 0 51 51 rfl dzbX13_leastSet_47 rfl
theorem dX13_leastSet_69 : decode cX13_leastSet 69 = .ok (.iload_n 2, 1) := dz0 dzo28 22 dzbX13_leastSet_47 rfl
theorem dzbX13_leastSet_70 : dzB cX13_leastSet 70 [21, 4, 184, 1, 89, 153, 0, 36, 28, 29, 184, 1, 89, 153, 0, 28, 42, 27, 4, 21, 4, 120, 4, 29] := by decide +kernel
theorem dX13_leastSet_70 : decode cX13_leastSet 70 = .ok (.iload 4, 2) := dz1 dzo21 0 4 dzbX13_leastSet_70 rfl
theorem dX13_leastSet_72 : decode cX13_leastSet 72 = .ok (.invokestatic 345, 3) := dz2 dzo184 2 1 89 dzbX13_leastSet_70 rfl
theorem dX13_leastSet_75 : decode cX13_leastSet 75 = .ok (.ifCond .eq 36, 3) := dz4 dzo153 5 0 36 36 rfl dzbX13_leastSet_70 rfl
theorem dX13_leastSet_78 : decode cX13_leastSet 78 = .ok (.iload_n 2, 1) := dz0 dzo28 8 dzbX13_leastSet_70 rfl
theorem dX13_leastSet_79 : decode cX13_leastSet 79 = .ok (.iload_n 3, 1) := dz0 dzo29 9 dzbX13_leastSet_70 rfl
theorem dX13_leastSet_80 : decode cX13_leastSet 80 = .ok (.invokestatic 345, 3) := dz2 dzo184 10 1 89 dzbX13_leastSet_70 rfl
theorem dX13_leastSet_83 : decode cX13_leastSet 83 = .ok (.ifCond .eq 28, 3) := dz4 dzo153 13 0 28 28 rfl dzbX13_leastSet_70 rfl
theorem dX13_leastSet_86 : decode cX13_leastSet 86 = .ok (.aload_n 0, 1) := dz0 dzo42 16 dzbX13_leastSet_70 rfl
theorem dX13_leastSet_87 : decode cX13_leastSet 87 = .ok (.iload_n 1, 1) := dz0 dzo27 17 dzbX13_leastSet_70 rfl
theorem dX13_leastSet_88 : decode cX13_leastSet 88 = .ok (.iconst 1, 1) := dz0 dzo4 18 dzbX13_leastSet_70 rfl
theorem dX13_leastSet_89 : decode cX13_leastSet 89 = .ok (.iload 4, 2) := dz1 dzo21 19 4 dzbX13_leastSet_70 rfl
theorem dX13_leastSet_91 : decode cX13_leastSet 91 = .ok (.ishl, 1) := dz0 dzo120 21 dzbX13_leastSet_70 rfl
theorem dX13_leastSet_92 : decode cX13_leastSet 92 = .ok (.iconst 1, 1) := dz0 dzo4 22 dzbX13_leastSet_70 rfl
theorem dX13_leastSet_93 : decode cX13_leastSet 93 = .ok (.iload_n 3, 1) := dz0 dzo29 23 dzbX13_leastSet_70 rfl
theorem dzbX13_leastSet_94 : dzB cX13_leastSet 94 [120, 128, 182, 1, 99, 153, 0, 12, 4, 21, 4, 120, 4, 29, 120, 128, 172, 132, 4, 1, 167, 255, 205] := by decide +kernel
theorem dX13_leastSet_94 : decode cX13_leastSet 94 = .ok (.ishl, 1) := dz0 dzo120 0 dzbX13_leastSet_94 rfl
theorem dX13_leastSet_95 : decode cX13_leastSet 95 = .ok (.ior, 1) := dz0 dzo128 1 dzbX13_leastSet_94 rfl
theorem dX13_leastSet_96 : decode cX13_leastSet 96 = .ok (.invokevirtual 355, 3) := dz2 dzo182 2 1 99 dzbX13_leastSet_94 rfl
theorem dX13_leastSet_99 : decode cX13_leastSet 99 = .ok (.ifCond .eq 12, 3) := dz4 dzo153 5 0 12 12 rfl dzbX13_leastSet_94 rfl
theorem dX13_leastSet_102 : decode cX13_leastSet 102 = .ok (.iconst 1, 1) := dz0 dzo4 8 dzbX13_leastSet_94 rfl
theorem dX13_leastSet_103 : decode cX13_leastSet 103 = .ok (.iload 4, 2) := dz1 dzo21 9 4 dzbX13_leastSet_94 rfl
theorem dX13_leastSet_105 : decode cX13_leastSet 105 = .ok (.ishl, 1) := dz0 dzo120 11 dzbX13_leastSet_94 rfl
theorem dX13_leastSet_106 : decode cX13_leastSet 106 = .ok (.iconst 1, 1) := dz0 dzo4 12 dzbX13_leastSet_94 rfl
theorem dX13_leastSet_107 : decode cX13_leastSet 107 = .ok (.iload_n 3, 1) := dz0 dzo29 13 dzbX13_leastSet_94 rfl
theorem dX13_leastSet_108 : decode cX13_leastSet 108 = .ok (.ishl, 1) := dz0 dzo120 14 dzbX13_leastSet_94 rfl
theorem dX13_leastSet_109 : decode cX13_leastSet 109 = .ok (.ior, 1) := dz0 dzo128 15 dzbX13_leastSet_94 rfl
theorem dX13_leastSet_110 : decode cX13_leastSet 110 = .ok (.ireturn, 1) := dz0 dzo172 16 dzbX13_leastSet_94 rfl
theorem dX13_leastSet_111 : decode cX13_leastSet 111 = .ok (.iinc 4 1, 3) := dz5 dzo132 17 4 1 1 rfl dzbX13_leastSet_94 rfl
theorem dX13_leastSet_114 : decode cX13_leastSet 114 = .ok (.goto (-51), 3) := dz4 dzo167 20 255 205 (-51) rfl dzbX13_leastSet_94 rfl
theorem dzbX13_leastSet_117 : dzB cX13_leastSet 117 [132, 3, 1, 167, 255, 188, 3, 62, 29, 42, 182, 1, 21, 162, 0, 77, 3, 54, 4, 21, 4, 29] := by decide +kernel
theorem dX13_leastSet_117 : decode cX13_leastSet 117 = .ok (.iinc 3 1, 3) := dz5 dzo132 0 3 1 1 rfl dzbX13_leastSet_117 rfl
theorem dX13_leastSet_120 : decode cX13_leastSet 120 = .ok (.goto (-68), 3) := dz4 dzo167 3 255 188 (-68) rfl dzbX13_leastSet_117 rfl
theorem dX13_leastSet_123 : decode cX13_leastSet 123 = .ok (.iconst 0, 1) := dz0 dzo3 6 dzbX13_leastSet_117 rfl
theorem dX13_leastSet_124 : decode cX13_leastSet 124 = .ok (.istore_n 3, 1) := dz0 dzo62 7 dzbX13_leastSet_117 rfl
theorem dX13_leastSet_125 : decode cX13_leastSet 125 = .ok (.iload_n 3, 1) := dz0 dzo29 8 dzbX13_leastSet_117 rfl
theorem dX13_leastSet_126 : decode cX13_leastSet 126 = .ok (.aload_n 0, 1) := dz0 dzo42 9 dzbX13_leastSet_117 rfl
theorem dX13_leastSet_127 : decode cX13_leastSet 127 = .ok (.invokevirtual 277, 3) := dz2 dzo182 10 1 21 dzbX13_leastSet_117 rfl
theorem dX13_leastSet_130 : decode cX13_leastSet 130 = .ok (.if_icmp .ge 77, 3) := dz4 dzo162 13 0 77 77 rfl dzbX13_leastSet_117 rfl
theorem dX13_leastSet_133 : decode cX13_leastSet 133 = .ok (.iconst 0, 1) := dz0 dzo3 16 dzbX13_leastSet_117 rfl
theorem dX13_leastSet_134 : decode cX13_leastSet 134 = .ok (.istore 4, 2) := dz1 dzo54 17 4 dzbX13_leastSet_117 rfl
theorem dX13_leastSet_136 : decode cX13_leastSet 136 = .ok (.iload 4, 2) := dz1 dzo21 19 4 dzbX13_leastSet_117 rfl
theorem dX13_leastSet_138 : decode cX13_leastSet 138 = .ok (.iload_n 3, 1) := dz0 dzo29 21 dzbX13_leastSet_117 rfl
theorem dzbX13_leastSet_139 : dzB cX13_leastSet 139 [162, 0, 62, 3, 54, 5, 21, 5, 21, 4, 162, 0, 46, 4, 21, 5, 120, 4, 21, 4, 120, 128, 4, 29] := by decide +kernel
theorem dX13_leastSet_139 : decode cX13_leastSet 139 = .ok (.if_icmp .ge 62, 3) := dz4 dzo162 0 0 62 62 rfl dzbX13_leastSet_139 rfl
theorem dX13_leastSet_142 : decode cX13_leastSet 142 = .ok (.iconst 0, 1) := dz0 dzo3 3 dzbX13_leastSet_139 rfl
theorem dX13_leastSet_143 : decode cX13_leastSet 143 = .ok (.istore 5, 2) := dz1 dzo54 4 5 dzbX13_leastSet_139 rfl
theorem dX13_leastSet_145 : decode cX13_leastSet 145 = .ok (.iload 5, 2) := dz1 dzo21 6 5 dzbX13_leastSet_139 rfl
theorem dX13_leastSet_147 : decode cX13_leastSet 147 = .ok (.iload 4, 2) := dz1 dzo21 8 4 dzbX13_leastSet_139 rfl
theorem dX13_leastSet_149 : decode cX13_leastSet 149 = .ok (.if_icmp .ge 46, 3) := dz4 dzo162 10 0 46 46 rfl dzbX13_leastSet_139 rfl
theorem dX13_leastSet_152 : decode cX13_leastSet 152 = .ok (.iconst 1, 1) := dz0 dzo4 13 dzbX13_leastSet_139 rfl
theorem dX13_leastSet_153 : decode cX13_leastSet 153 = .ok (.iload 5, 2) := dz1 dzo21 14 5 dzbX13_leastSet_139 rfl
theorem dX13_leastSet_155 : decode cX13_leastSet 155 = .ok (.ishl, 1) := dz0 dzo120 16 dzbX13_leastSet_139 rfl
theorem dX13_leastSet_156 : decode cX13_leastSet 156 = .ok (.iconst 1, 1) := dz0 dzo4 17 dzbX13_leastSet_139 rfl
theorem dX13_leastSet_157 : decode cX13_leastSet 157 = .ok (.iload 4, 2) := dz1 dzo21 18 4 dzbX13_leastSet_139 rfl
theorem dX13_leastSet_159 : decode cX13_leastSet 159 = .ok (.ishl, 1) := dz0 dzo120 20 dzbX13_leastSet_139 rfl
theorem dX13_leastSet_160 : decode cX13_leastSet 160 = .ok (.ior, 1) := dz0 dzo128 21 dzbX13_leastSet_139 rfl
theorem dX13_leastSet_161 : decode cX13_leastSet 161 = .ok (.iconst 1, 1) := dz0 dzo4 22 dzbX13_leastSet_139 rfl
theorem dX13_leastSet_162 : decode cX13_leastSet 162 = .ok (.iload_n 3, 1) := dz0 dzo29 23 dzbX13_leastSet_139 rfl
theorem dzbX13_leastSet_163 : dzB cX13_leastSet 163 [120, 128, 54, 6, 21, 6, 28, 2, 130, 126, 154, 0, 16, 42, 27, 21, 6, 182, 1, 99, 153, 0, 6] := by decide +kernel
theorem dX13_leastSet_163 : decode cX13_leastSet 163 = .ok (.ishl, 1) := dz0 dzo120 0 dzbX13_leastSet_163 rfl
theorem dX13_leastSet_164 : decode cX13_leastSet 164 = .ok (.ior, 1) := dz0 dzo128 1 dzbX13_leastSet_163 rfl
theorem dX13_leastSet_165 : decode cX13_leastSet 165 = .ok (.istore 6, 2) := dz1 dzo54 2 6 dzbX13_leastSet_163 rfl
theorem dX13_leastSet_167 : decode cX13_leastSet 167 = .ok (.iload 6, 2) := dz1 dzo21 4 6 dzbX13_leastSet_163 rfl
theorem dX13_leastSet_169 : decode cX13_leastSet 169 = .ok (.iload_n 2, 1) := dz0 dzo28 6 dzbX13_leastSet_163 rfl
theorem dX13_leastSet_170 : decode cX13_leastSet 170 = .ok (.iconst (-1), 1) := dz0 dzo2 7 dzbX13_leastSet_163 rfl
theorem dX13_leastSet_171 : decode cX13_leastSet 171 = .ok (.ixor, 1) := dz0 dzo130 8 dzbX13_leastSet_163 rfl
theorem dX13_leastSet_172 : decode cX13_leastSet 172 = .ok (.iand, 1) := dz0 dzo126 9 dzbX13_leastSet_163 rfl
theorem dX13_leastSet_173 : decode cX13_leastSet 173 = .ok (.ifCond .ne 16, 3) := dz4 dzo154 10 0 16 16 rfl dzbX13_leastSet_163 rfl
theorem dX13_leastSet_176 : decode cX13_leastSet 176 = .ok (.aload_n 0, 1) := dz0 dzo42 13 dzbX13_leastSet_163 rfl
theorem dX13_leastSet_177 : decode cX13_leastSet 177 = .ok (.iload_n 1, 1) := dz0 dzo27 14 dzbX13_leastSet_163 rfl
theorem dX13_leastSet_178 : decode cX13_leastSet 178 = .ok (.iload 6, 2) := dz1 dzo21 15 6 dzbX13_leastSet_163 rfl
theorem dX13_leastSet_180 : decode cX13_leastSet 180 = .ok (.invokevirtual 355, 3) := dz2 dzo182 17 1 99 dzbX13_leastSet_163 rfl
theorem dX13_leastSet_183 : decode cX13_leastSet 183 = .ok (.ifCond .eq 6, 3) := dz4 dzo153 20 0 6 6 rfl dzbX13_leastSet_163 rfl
theorem dzbX13_leastSet_186 : dzB cX13_leastSet 186 [21, 6, 172, 132, 5, 1, 167, 255, 209, 132, 4, 1, 167, 255, 194, 132, 3, 1, 167, 255, 177, 16, 254, 172] := by decide +kernel
theorem dX13_leastSet_186 : decode cX13_leastSet 186 = .ok (.iload 6, 2) := dz1 dzo21 0 6 dzbX13_leastSet_186 rfl
theorem dX13_leastSet_188 : decode cX13_leastSet 188 = .ok (.ireturn, 1) := dz0 dzo172 2 dzbX13_leastSet_186 rfl
theorem dX13_leastSet_189 : decode cX13_leastSet 189 = .ok (.iinc 5 1, 3) := dz5 dzo132 3 5 1 1 rfl dzbX13_leastSet_186 rfl
theorem dX13_leastSet_192 : decode cX13_leastSet 192 = .ok (.goto (-47), 3) := dz4 dzo167 6 255 209 (-47) rfl dzbX13_leastSet_186 rfl
theorem dX13_leastSet_195 : decode cX13_leastSet 195 = .ok (.iinc 4 1, 3) := dz5 dzo132 9 4 1 1 rfl dzbX13_leastSet_186 rfl
theorem dX13_leastSet_198 : decode cX13_leastSet 198 = .ok (.goto (-62), 3) := dz4 dzo167 12 255 194 (-62) rfl dzbX13_leastSet_186 rfl
theorem dX13_leastSet_201 : decode cX13_leastSet 201 = .ok (.iinc 3 1, 3) := dz5 dzo132 15 3 1 1 rfl dzbX13_leastSet_186 rfl
theorem dX13_leastSet_204 : decode cX13_leastSet 204 = .ok (.goto (-79), 3) := dz4 dzo167 18 255 177 (-79) rfl dzbX13_leastSet_186 rfl
theorem dX13_leastSet_207 : decode cX13_leastSet 207 = .ok (.bipush (-2), 2) := dz3 dzo16 21 254 (-2) rfl dzbX13_leastSet_186 rfl
theorem dX13_leastSet_209 : decode cX13_leastSet 209 = .ok (.ireturn, 1) := dz0 dzo172 23 dzbX13_leastSet_186 rfl
theorem dzbX13_leaves_0 : dzB cX13_leaves 0 [42, 180, 1, 13, 180, 0, 238, 27, 46, 62, 3, 54, 4, 21, 4, 42, 182, 1, 21, 162, 0, 19, 42] := by decide +kernel
theorem dX13_leaves_0 : decode cX13_leaves 0 = .ok (.aload_n 0, 1) := dz0 dzo42 0 dzbX13_leaves_0 rfl
theorem dX13_leaves_1 : decode cX13_leaves 1 = .ok (.getfield 269, 3) := dz2 dzo180 1 1 13 dzbX13_leaves_0 rfl
theorem dX13_leaves_4 : decode cX13_leaves 4 = .ok (.getfield 238, 3) := dz2 dzo180 4 0 238 dzbX13_leaves_0 rfl
theorem dX13_leaves_7 : decode cX13_leaves 7 = .ok (.iload_n 1, 1) := dz0 dzo27 7 dzbX13_leaves_0 rfl
theorem dX13_leaves_8 : decode cX13_leaves 8 = .ok (.iaload, 1) := dz0 dzo46 8 dzbX13_leaves_0 rfl
theorem dX13_leaves_9 : decode cX13_leaves 9 = .ok (.istore_n 3, 1) := dz0 dzo62 9 dzbX13_leaves_0 rfl
theorem dX13_leaves_10 : decode cX13_leaves 10 = .ok (.iconst 0, 1) := dz0 dzo3 10 dzbX13_leaves_0 rfl
theorem dX13_leaves_11 : decode cX13_leaves 11 = .ok (.istore 4, 2) := dz1 dzo54 11 4 dzbX13_leaves_0 rfl
theorem dX13_leaves_13 : decode cX13_leaves 13 = .ok (.iload 4, 2) := dz1 dzo21 13 4 dzbX13_leaves_0 rfl
theorem dX13_leaves_15 : decode cX13_leaves 15 = .ok (.aload_n 0, 1) := dz0 dzo42 15 dzbX13_leaves_0 rfl
theorem dX13_leaves_16 : decode cX13_leaves 16 = .ok (.invokevirtual 277, 3) := dz2 dzo182 16 1 21 dzbX13_leaves_0 rfl
theorem dX13_leaves_19 : decode cX13_leaves 19 = .ok (.if_icmp .ge 19, 3) := dz4 dzo162 19 0 19 19 rfl dzbX13_leaves_0 rfl
theorem dX13_leaves_22 : decode cX13_leaves 22 = .ok (.aload_n 0, 1) := dz0 dzo42 22 dzbX13_leaves_0 rfl
theorem dzbX13_leaves_23 : dzB cX13_leaves 23 [180, 0, 30, 21, 4, 19, 1, 37, 79, 132, 4, 1, 167, 255, 234, 42, 180, 0, 30, 42, 180, 1, 13] := by decide +kernel
theorem dX13_leaves_23 : decode cX13_leaves 23 = .ok (.getfield 30, 3) := dz2 dzo180 0 0 30 dzbX13_leaves_23 rfl
theorem dX13_leaves_26 : decode cX13_leaves 26 = .ok (.iload 4, 2) := dz1 dzo21 3 4 dzbX13_leaves_23 rfl
theorem dX13_leaves_28 : decode cX13_leaves 28 = .ok (.ldc_w 293, 3) := dz2 dzo19 5 1 37 dzbX13_leaves_23 rfl
theorem dX13_leaves_31 : decode cX13_leaves 31 = .ok (.iastore, 1) := dz0 dzo79 8 dzbX13_leaves_23 rfl
theorem dX13_leaves_32 : decode cX13_leaves 32 = .ok (.iinc 4 1, 3) := dz5 dzo132 9 4 1 1 rfl dzbX13_leaves_23 rfl
theorem dX13_leaves_35 : decode cX13_leaves 35 = .ok (.goto (-22), 3) := dz4 dzo167 12 255 234 (-22) rfl dzbX13_leaves_23 rfl
theorem dX13_leaves_38 : decode cX13_leaves 38 = .ok (.aload_n 0, 1) := dz0 dzo42 15 dzbX13_leaves_23 rfl
theorem dX13_leaves_39 : decode cX13_leaves 39 = .ok (.getfield 30, 3) := dz2 dzo180 16 0 30 dzbX13_leaves_23 rfl
theorem dX13_leaves_42 : decode cX13_leaves 42 = .ok (.aload_n 0, 1) := dz0 dzo42 19 dzbX13_leaves_23 rfl
theorem dX13_leaves_43 : decode cX13_leaves 43 = .ok (.getfield 269, 3) := dz2 dzo180 20 1 13 dzbX13_leaves_23 rfl
theorem dzbX13_leaves_46 : dzB cX13_leaves 46 [180, 0, 243, 27, 46, 3, 79, 4, 54, 4, 21, 4, 153, 0, 131, 3, 54, 4, 3, 54, 5, 21, 5, 42] := by decide +kernel
theorem dX13_leaves_46 : decode cX13_leaves 46 = .ok (.getfield 243, 3) := dz2 dzo180 0 0 243 dzbX13_leaves_46 rfl
theorem dX13_leaves_49 : decode cX13_leaves 49 = .ok (.iload_n 1, 1) := dz0 dzo27 3 dzbX13_leaves_46 rfl
theorem dX13_leaves_50 : decode cX13_leaves 50 = .ok (.iaload, 1) := dz0 dzo46 4 dzbX13_leaves_46 rfl
theorem dX13_leaves_51 : decode cX13_leaves 51 = .ok (.iconst 0, 1) := dz0 dzo3 5 dzbX13_leaves_46 rfl
theorem dX13_leaves_52 : decode cX13_leaves 52 = .ok (.iastore, 1) := dz0 dzo79 6 dzbX13_leaves_46 rfl
theorem dX13_leaves_53 : decode cX13_leaves 53 = .ok (.iconst 1, 1) := dz0 dzo4 7 dzbX13_leaves_46 rfl
theorem dX13_leaves_54 : decode cX13_leaves 54 = .ok (.istore 4, 2) := dz1 dzo54 8 4 dzbX13_leaves_46 rfl
theorem dX13_leaves_56 : decode cX13_leaves 56 = .ok (.iload 4, 2) := dz1 dzo21 10 4 dzbX13_leaves_46 rfl
theorem dX13_leaves_58 : decode cX13_leaves 58 = .ok (.ifCond .eq 131, 3) := dz4 dzo153 12 0 131 131 rfl dzbX13_leaves_46 rfl
theorem dX13_leaves_61 : decode cX13_leaves 61 = .ok (.iconst 0, 1) := dz0 dzo3 15 dzbX13_leaves_46 rfl
theorem dX13_leaves_62 : decode cX13_leaves 62 = .ok (.istore 4, 2) := dz1 dzo54 16 4 dzbX13_leaves_46 rfl
theorem dX13_leaves_64 : decode cX13_leaves 64 = .ok (.iconst 0, 1) := dz0 dzo3 18 dzbX13_leaves_46 rfl
theorem dX13_leaves_65 : decode cX13_leaves 65 = .ok (.istore 5, 2) := dz1 dzo54 19 5 dzbX13_leaves_46 rfl
theorem dX13_leaves_67 : decode cX13_leaves 67 = .ok (.iload 5, 2) := dz1 dzo21 21 5 dzbX13_leaves_46 rfl
theorem dX13_leaves_69 : decode cX13_leaves 69 = .ok (.aload_n 0, 1) := dz0 dzo42 23 dzbX13_leaves_46 rfl
theorem dzbX13_leaves_70 : dzB cX13_leaves 70 [182, 1, 21, 162, 0, 113, 3, 54, 6, 21, 6, 7, 162, 0, 98, 42, 29, 21, 5, 21, 6, 182, 1, 33] := by decide +kernel
theorem dX13_leaves_70 : decode cX13_leaves 70 = .ok (.invokevirtual 277, 3) := dz2 dzo182 0 1 21 dzbX13_leaves_70 rfl
theorem dX13_leaves_73 : decode cX13_leaves 73 = .ok (.if_icmp .ge 113, 3) := dz4 dzo162 3 0 113 113 rfl dzbX13_leaves_70 rfl
theorem dX13_leaves_76 : decode cX13_leaves 76 = .ok (.iconst 0, 1) := dz0 dzo3 6 dzbX13_leaves_70 rfl
theorem dX13_leaves_77 : decode cX13_leaves 77 = .ok (.istore 6, 2) := dz1 dzo54 7 6 dzbX13_leaves_70 rfl
theorem dX13_leaves_79 : decode cX13_leaves 79 = .ok (.iload 6, 2) := dz1 dzo21 9 6 dzbX13_leaves_70 rfl
theorem dX13_leaves_81 : decode cX13_leaves 81 = .ok (.iconst 4, 1) := dz0 dzo7 11 dzbX13_leaves_70 rfl
theorem dX13_leaves_82 : decode cX13_leaves 82 = .ok (.if_icmp .ge 98, 3) := dz4 dzo162 12 0 98 98 rfl dzbX13_leaves_70 rfl
theorem dX13_leaves_85 : decode cX13_leaves 85 = .ok (.aload_n 0, 1) := dz0 dzo42 15 dzbX13_leaves_70 rfl
theorem dX13_leaves_86 : decode cX13_leaves 86 = .ok (.iload_n 3, 1) := dz0 dzo29 16 dzbX13_leaves_70 rfl
theorem dX13_leaves_87 : decode cX13_leaves 87 = .ok (.iload 5, 2) := dz1 dzo21 17 5 dzbX13_leaves_70 rfl
theorem dX13_leaves_89 : decode cX13_leaves 89 = .ok (.iload 6, 2) := dz1 dzo21 19 6 dzbX13_leaves_70 rfl
theorem dX13_leaves_91 : decode cX13_leaves 91 = .ok (.invokevirtual 289, 3) := dz2 dzo182 21 1 33 dzbX13_leaves_70 rfl
theorem dzbX13_leaves_94 : dzB cX13_leaves 94 [16, 254, 159, 0, 78, 42, 180, 0, 30, 42, 21, 5, 21, 6, 182, 1, 24, 46, 19, 1, 37, 160, 0, 6] := by decide +kernel
theorem dX13_leaves_94 : decode cX13_leaves 94 = .ok (.bipush (-2), 2) := dz3 dzo16 0 254 (-2) rfl dzbX13_leaves_94 rfl
theorem dX13_leaves_96 : decode cX13_leaves 96 = .ok (.if_icmp .eq 78, 3) := dz4 dzo159 2 0 78 78 rfl dzbX13_leaves_94 rfl
theorem dX13_leaves_99 : decode cX13_leaves 99 = .ok (.aload_n 0, 1) := dz0 dzo42 5 dzbX13_leaves_94 rfl
theorem dX13_leaves_100 : decode cX13_leaves 100 = .ok (.getfield 30, 3) := dz2 dzo180 6 0 30 dzbX13_leaves_94 rfl
theorem dX13_leaves_103 : decode cX13_leaves 103 = .ok (.aload_n 0, 1) := dz0 dzo42 9 dzbX13_leaves_94 rfl
theorem dX13_leaves_104 : decode cX13_leaves 104 = .ok (.iload 5, 2) := dz1 dzo21 10 5 dzbX13_leaves_94 rfl
theorem dX13_leaves_106 : decode cX13_leaves 106 = .ok (.iload 6, 2) := dz1 dzo21 12 6 dzbX13_leaves_94 rfl
theorem dX13_leaves_108 : decode cX13_leaves 108 = .ok (.invokevirtual 280, 3) := dz2 dzo182 14 1 24 dzbX13_leaves_94 rfl
theorem dX13_leaves_111 : decode cX13_leaves 111 = .ok (.iaload, 1) := dz0 dzo46 17 dzbX13_leaves_94 rfl
theorem dX13_leaves_112 : decode cX13_leaves 112 = .ok (.ldc_w 293, 3) := dz2 dzo19 18 1 37 dzbX13_leaves_94 rfl
theorem dX13_leaves_115 : decode cX13_leaves 115 = .ok (.if_icmp .ne 6, 3) := dz4 dzo160 21 0 6 6 rfl dzbX13_leaves_94 rfl
theorem dzbX13_leaves_118 : dzB cX13_leaves 118 [167, 0, 56, 42, 29, 21, 5, 21, 6, 28, 182, 1, 38, 42, 180, 0, 30, 42, 21, 5, 21, 6] := by decide +kernel
theorem dX13_leaves_118 : decode cX13_leaves 118 = .ok (.goto 56, 3) := dz4 dzo167 0 0 56 56 rfl dzbX13_leaves_118 rfl
theorem dX13_leaves_121 : decode cX13_leaves 121 = .ok (.aload_n 0, 1) := dz0 dzo42 3 dzbX13_leaves_118 rfl
theorem dX13_leaves_122 : decode cX13_leaves 122 = .ok (.iload_n 3, 1) := dz0 dzo29 4 dzbX13_leaves_118 rfl
theorem dX13_leaves_123 : decode cX13_leaves 123 = .ok (.iload 5, 2) := dz1 dzo21 5 5 dzbX13_leaves_118 rfl
theorem dX13_leaves_125 : decode cX13_leaves 125 = .ok (.iload 6, 2) := dz1 dzo21 7 6 dzbX13_leaves_118 rfl
theorem dX13_leaves_127 : decode cX13_leaves 127 = .ok (.iload_n 2, 1) := dz0 dzo28 9 dzbX13_leaves_118 rfl
theorem dX13_leaves_128 : decode cX13_leaves 128 = .ok (.invokevirtual 294, 3) := dz2 dzo182 10 1 38 dzbX13_leaves_118 rfl
theorem dX13_leaves_131 : decode cX13_leaves 131 = .ok (.aload_n 0, 1) := dz0 dzo42 13 dzbX13_leaves_118 rfl
theorem dX13_leaves_132 : decode cX13_leaves 132 = .ok (.getfield 30, 3) := dz2 dzo180 14 0 30 dzbX13_leaves_118 rfl
theorem dX13_leaves_135 : decode cX13_leaves 135 = .ok (.aload_n 0, 1) := dz0 dzo42 17 dzbX13_leaves_118 rfl
theorem dX13_leaves_136 : decode cX13_leaves 136 = .ok (.iload 5, 2) := dz1 dzo21 18 5 dzbX13_leaves_118 rfl
theorem dX13_leaves_138 : decode cX13_leaves 138 = .ok (.iload 6, 2) := dz1 dzo21 20 6 dzbX13_leaves_118 rfl
theorem dzbX13_leaves_140 : dzB cX13_leaves 140 [182, 1, 24, 46, 96, 54, 7, 21, 7, 42, 180, 0, 30, 21, 5, 46, 161, 0, 6, 167, 0, 15, 42] := by decide +kernel
theorem dX13_leaves_140 : decode cX13_leaves 140 = .ok (.invokevirtual 280, 3) := dz2 dzo182 0 1 24 dzbX13_leaves_140 rfl
theorem dX13_leaves_143 : decode cX13_leaves 143 = .ok (.iaload, 1) := dz0 dzo46 3 dzbX13_leaves_140 rfl
theorem dX13_leaves_144 : decode cX13_leaves 144 = .ok (.iadd, 1) := dz0 dzo96 4 dzbX13_leaves_140 rfl
theorem dX13_leaves_145 : decode cX13_leaves 145 = .ok (.istore 7, 2) := dz1 dzo54 5 7 dzbX13_leaves_140 rfl
theorem dX13_leaves_147 : decode cX13_leaves 147 = .ok (.iload 7, 2) := dz1 dzo21 7 7 dzbX13_leaves_140 rfl
theorem dX13_leaves_149 : decode cX13_leaves 149 = .ok (.aload_n 0, 1) := dz0 dzo42 9 dzbX13_leaves_140 rfl
theorem dX13_leaves_150 : decode cX13_leaves 150 = .ok (.getfield 30, 3) := dz2 dzo180 10 0 30 dzbX13_leaves_140 rfl
theorem dX13_leaves_153 : decode cX13_leaves 153 = .ok (.iload 5, 2) := dz1 dzo21 13 5 dzbX13_leaves_140 rfl
theorem dX13_leaves_155 : decode cX13_leaves 155 = .ok (.iaload, 1) := dz0 dzo46 15 dzbX13_leaves_140 rfl
theorem dX13_leaves_156 : decode cX13_leaves 156 = .ok (.if_icmp .lt 6, 3) := dz4 dzo161 16 0 6 6 rfl dzbX13_leaves_140 rfl
theorem dX13_leaves_159 : decode cX13_leaves 159 = .ok (.goto 15, 3) := dz4 dzo167 19 0 15 15 rfl dzbX13_leaves_140 rfl
theorem dX13_leaves_162 : decode cX13_leaves 162 = .ok (.aload_n 0, 1) := dz0 dzo42 22 dzbX13_leaves_140 rfl
theorem dzbX13_leaves_163 : dzB cX13_leaves 163 [180, 0, 30, 21, 5, 21, 7, 79, 4, 54, 4, 132, 6, 1, 167, 255, 158, 132, 5, 1, 167, 255, 140] := by decide +kernel
theorem dX13_leaves_163 : decode cX13_leaves 163 = .ok (.getfield 30, 3) := dz2 dzo180 0 0 30 dzbX13_leaves_163 rfl
theorem dX13_leaves_166 : decode cX13_leaves 166 = .ok (.iload 5, 2) := dz1 dzo21 3 5 dzbX13_leaves_163 rfl
theorem dX13_leaves_168 : decode cX13_leaves 168 = .ok (.iload 7, 2) := dz1 dzo21 5 7 dzbX13_leaves_163 rfl
theorem dX13_leaves_170 : decode cX13_leaves 170 = .ok (.iastore, 1) := dz0 dzo79 7 dzbX13_leaves_163 rfl
theorem dX13_leaves_171 : decode cX13_leaves 171 = .ok (.iconst 1, 1) := dz0 dzo4 8 dzbX13_leaves_163 rfl
theorem dX13_leaves_172 : decode cX13_leaves 172 = .ok (.istore 4, 2) := dz1 dzo54 9 4 dzbX13_leaves_163 rfl
theorem dX13_leaves_174 : decode cX13_leaves 174 = .ok (.iinc 6 1, 3) := dz5 dzo132 11 6 1 1 rfl dzbX13_leaves_163 rfl
theorem dX13_leaves_177 : decode cX13_leaves 177 = .ok (.goto (-98), 3) := dz4 dzo167 14 255 158 (-98) rfl dzbX13_leaves_163 rfl
theorem dX13_leaves_180 : decode cX13_leaves 180 = .ok (.iinc 5 1, 3) := dz5 dzo132 17 5 1 1 rfl dzbX13_leaves_163 rfl
theorem dX13_leaves_183 : decode cX13_leaves 183 = .ok (.goto (-116), 3) := dz4 dzo167 20 255 140 (-116) rfl dzbX13_leaves_163 rfl
theorem dzbX13_leaves_186 : dzB cX13_leaves 186 [167, 255, 126, 177] := by decide +kernel
theorem dX13_leaves_186 : decode cX13_leaves 186 = .ok (.goto (-130), 3) := dz4 dzo167 0 255 126 (-130) rfl dzbX13_leaves_186 rfl
theorem dX13_leaves_189 : decode cX13_leaves 189 = .ok (.return_, 1) := dz0 dzo177 3 dzbX13_leaves_186 rfl
theorem dzbX13_led_0 : dzB cX13_led 0 [42, 3, 181, 0, 42, 3, 61, 42, 180, 1, 13, 198, 0, 7, 42, 182, 1, 61, 3, 62, 42, 180, 1, 13] := by decide +kernel
theorem dX13_led_0 : decode cX13_led 0 = .ok (.aload_n 0, 1) := dz0 dzo42 0 dzbX13_led_0 rfl
theorem dX13_led_1 : decode cX13_led 1 = .ok (.iconst 0, 1) := dz0 dzo3 1 dzbX13_led_0 rfl
theorem dX13_led_2 : decode cX13_led 2 = .ok (.putfield 42, 3) := dz2 dzo181 2 0 42 dzbX13_led_0 rfl
theorem dX13_led_5 : decode cX13_led 5 = .ok (.iconst 0, 1) := dz0 dzo3 5 dzbX13_led_0 rfl
theorem dX13_led_6 : decode cX13_led 6 = .ok (.istore_n 2, 1) := dz0 dzo61 6 dzbX13_led_0 rfl
theorem dX13_led_7 : decode cX13_led 7 = .ok (.aload_n 0, 1) := dz0 dzo42 7 dzbX13_led_0 rfl
theorem dX13_led_8 : decode cX13_led 8 = .ok (.getfield 269, 3) := dz2 dzo180 8 1 13 dzbX13_led_0 rfl
theorem dX13_led_11 : decode cX13_led 11 = .ok (.ifnull 7, 3) := dz4 dzo198 11 0 7 7 rfl dzbX13_led_0 rfl
theorem dX13_led_14 : decode cX13_led 14 = .ok (.aload_n 0, 1) := dz0 dzo42 14 dzbX13_led_0 rfl
theorem dX13_led_15 : decode cX13_led 15 = .ok (.invokevirtual 317, 3) := dz2 dzo182 15 1 61 dzbX13_led_0 rfl
theorem dX13_led_18 : decode cX13_led 18 = .ok (.iconst 0, 1) := dz0 dzo3 18 dzbX13_led_0 rfl
theorem dX13_led_19 : decode cX13_led 19 = .ok (.istore_n 3, 1) := dz0 dzo62 19 dzbX13_led_0 rfl
theorem dX13_led_20 : decode cX13_led 20 = .ok (.aload_n 0, 1) := dz0 dzo42 20 dzbX13_led_0 rfl
theorem dX13_led_21 : decode cX13_led 21 = .ok (.getfield 269, 3) := dz2 dzo180 21 1 13 dzbX13_led_0 rfl
theorem dzbX13_led_24 : dzB cX13_led 24 [198, 0, 45, 29, 42, 180, 1, 13, 180, 0, 206, 162, 0, 34, 42, 29, 4, 182, 1, 67, 19, 1, 37] := by decide +kernel
theorem dX13_led_24 : decode cX13_led 24 = .ok (.ifnull 45, 3) := dz4 dzo198 0 0 45 45 rfl dzbX13_led_24 rfl
theorem dX13_led_27 : decode cX13_led 27 = .ok (.iload_n 3, 1) := dz0 dzo29 3 dzbX13_led_24 rfl
theorem dX13_led_28 : decode cX13_led 28 = .ok (.aload_n 0, 1) := dz0 dzo42 4 dzbX13_led_24 rfl
theorem dX13_led_29 : decode cX13_led 29 = .ok (.getfield 269, 3) := dz2 dzo180 5 1 13 dzbX13_led_24 rfl
theorem dX13_led_32 : decode cX13_led 32 = .ok (.getfield 206, 3) := dz2 dzo180 8 0 206 dzbX13_led_24 rfl
theorem dX13_led_35 : decode cX13_led 35 = .ok (.if_icmp .ge 34, 3) := dz4 dzo162 11 0 34 34 rfl dzbX13_led_24 rfl
theorem dX13_led_38 : decode cX13_led 38 = .ok (.aload_n 0, 1) := dz0 dzo42 14 dzbX13_led_24 rfl
theorem dX13_led_39 : decode cX13_led 39 = .ok (.iload_n 3, 1) := dz0 dzo29 15 dzbX13_led_24 rfl
theorem dX13_led_40 : decode cX13_led 40 = .ok (.iconst 1, 1) := dz0 dzo4 16 dzbX13_led_24 rfl
theorem dX13_led_41 : decode cX13_led 41 = .ok (.invokevirtual 323, 3) := dz2 dzo182 17 1 67 dzbX13_led_24 rfl
theorem dX13_led_44 : decode cX13_led 44 = .ok (.ldc_w 293, 3) := dz2 dzo19 20 1 37 dzbX13_led_24 rfl
theorem dzbX13_led_47 : dzB cX13_led 47 [159, 0, 6, 167, 0, 13, 28, 27, 160, 0, 5, 29, 172, 132, 2, 1, 132, 3, 1, 167, 255, 210, 42, 4] := by decide +kernel
theorem dX13_led_47 : decode cX13_led 47 = .ok (.if_icmp .eq 6, 3) := dz4 dzo159 0 0 6 6 rfl dzbX13_led_47 rfl
theorem dX13_led_50 : decode cX13_led 50 = .ok (.goto 13, 3) := dz4 dzo167 3 0 13 13 rfl dzbX13_led_47 rfl
theorem dX13_led_53 : decode cX13_led 53 = .ok (.iload_n 2, 1) := dz0 dzo28 6 dzbX13_led_47 rfl
theorem dX13_led_54 : decode cX13_led 54 = .ok (.iload_n 1, 1) := dz0 dzo27 7 dzbX13_led_47 rfl
theorem dX13_led_55 : decode cX13_led 55 = .ok (.if_icmp .ne 5, 3) := dz4 dzo160 8 0 5 5 rfl dzbX13_led_47 rfl
theorem dX13_led_58 : decode cX13_led 58 = .ok (.iload_n 3, 1) := dz0 dzo29 11 dzbX13_led_47 rfl
theorem dX13_led_59 : decode cX13_led 59 = .ok (.ireturn, 1) := dz0 dzo172 12 dzbX13_led_47 rfl
theorem dX13_led_60 : decode cX13_led 60 = .ok (.iinc 2 1, 3) := dz5 dzo132 13 2 1 1 rfl dzbX13_led_47 rfl
theorem dX13_led_63 : decode cX13_led 63 = .ok (.iinc 3 1, 3) := dz5 dzo132 16 3 1 1 rfl dzbX13_led_47 rfl
theorem dX13_led_66 : decode cX13_led 66 = .ok (.goto (-46), 3) := dz4 dzo167 19 255 210 (-46) rfl dzbX13_led_47 rfl
theorem dX13_led_69 : decode cX13_led 69 = .ok (.aload_n 0, 1) := dz0 dzo42 22 dzbX13_led_47 rfl
theorem dX13_led_70 : decode cX13_led 70 = .ok (.iconst 1, 1) := dz0 dzo4 23 dzbX13_led_47 rfl
theorem dzbX13_led_71 : dzB cX13_led 71 [181, 0, 42, 3, 172] := by decide +kernel
theorem dX13_led_71 : decode cX13_led 71 = .ok (.putfield 42, 3) := dz2 dzo181 0 0 42 dzbX13_led_71 rfl
theorem dX13_led_74 : decode cX13_led 74 = .ok (.iconst 0, 1) := dz0 dzo3 3 dzbX13_led_71 rfl
theorem dX13_led_75 : decode cX13_led 75 = .ok (.ireturn, 1) := dz0 dzo172 4 dzbX13_led_71 rfl
theorem dzbX13_lies_0 : dzB cX13_lies 0 [42, 3, 181, 0, 42, 42, 27, 182, 1, 149, 54, 5, 21, 5, 158, 0, 12, 42, 21, 5, 182, 1, 152] := by decide +kernel
theorem dX13_lies_0 : decode cX13_lies 0 = .ok (.aload_n 0, 1) := dz0 dzo42 0 dzbX13_lies_0 rfl
theorem dX13_lies_1 : decode cX13_lies 1 = .ok (.iconst 0, 1) := dz0 dzo3 1 dzbX13_lies_0 rfl
theorem dX13_lies_2 : decode cX13_lies 2 = .ok (.putfield 42, 3) := dz2 dzo181 2 0 42 dzbX13_lies_0 rfl
theorem dX13_lies_5 : decode cX13_lies 5 = .ok (.aload_n 0, 1) := dz0 dzo42 5 dzbX13_lies_0 rfl
theorem dX13_lies_6 : decode cX13_lies 6 = .ok (.iload_n 1, 1) := dz0 dzo27 6 dzbX13_lies_0 rfl
theorem dX13_lies_7 : decode cX13_lies 7 = .ok (.invokevirtual 405, 3) := dz2 dzo182 7 1 149 dzbX13_lies_0 rfl
theorem dX13_lies_10 : decode cX13_lies 10 = .ok (.istore 5, 2) := dz1 dzo54 10 5 dzbX13_lies_0 rfl
theorem dX13_lies_12 : decode cX13_lies 12 = .ok (.iload 5, 2) := dz1 dzo21 12 5 dzbX13_lies_0 rfl
theorem dX13_lies_14 : decode cX13_lies 14 = .ok (.ifCond .le 12, 3) := dz4 dzo158 14 0 12 12 rfl dzbX13_lies_0 rfl
theorem dX13_lies_17 : decode cX13_lies 17 = .ok (.aload_n 0, 1) := dz0 dzo42 17 dzbX13_lies_0 rfl
theorem dX13_lies_18 : decode cX13_lies 18 = .ok (.iload 5, 2) := dz1 dzo21 18 5 dzbX13_lies_0 rfl
theorem dX13_lies_20 : decode cX13_lies 20 = .ok (.invokevirtual 408, 3) := dz2 dzo182 20 1 152 dzbX13_lies_0 rfl
theorem dzbX13_lies_23 : dzB cX13_lies 23 [167, 0, 27, 42, 21, 4, 153, 0, 12, 27, 29, 28, 184, 1, 155, 167, 0, 9, 27, 28, 29, 184, 1, 155] := by decide +kernel
theorem dX13_lies_23 : decode cX13_lies 23 = .ok (.goto 27, 3) := dz4 dzo167 0 0 27 27 rfl dzbX13_lies_23 rfl
theorem dX13_lies_26 : decode cX13_lies 26 = .ok (.aload_n 0, 1) := dz0 dzo42 3 dzbX13_lies_23 rfl
theorem dX13_lies_27 : decode cX13_lies 27 = .ok (.iload 4, 2) := dz1 dzo21 4 4 dzbX13_lies_23 rfl
theorem dX13_lies_29 : decode cX13_lies 29 = .ok (.ifCond .eq 12, 3) := dz4 dzo153 6 0 12 12 rfl dzbX13_lies_23 rfl
theorem dX13_lies_32 : decode cX13_lies 32 = .ok (.iload_n 1, 1) := dz0 dzo27 9 dzbX13_lies_23 rfl
theorem dX13_lies_33 : decode cX13_lies 33 = .ok (.iload_n 3, 1) := dz0 dzo29 10 dzbX13_lies_23 rfl
theorem dX13_lies_34 : decode cX13_lies 34 = .ok (.iload_n 2, 1) := dz0 dzo28 11 dzbX13_lies_23 rfl
theorem dX13_lies_35 : decode cX13_lies 35 = .ok (.invokestatic 411, 3) := dz2 dzo184 12 1 155 dzbX13_lies_23 rfl
theorem dX13_lies_38 : decode cX13_lies 38 = .ok (.goto 9, 3) := dz4 dzo167 15 0 9 9 rfl dzbX13_lies_23 rfl
theorem dX13_lies_41 : decode cX13_lies 41 = .ok (.iload_n 1, 1) := dz0 dzo27 18 dzbX13_lies_23 rfl
theorem dX13_lies_42 : decode cX13_lies 42 = .ok (.iload_n 2, 1) := dz0 dzo28 19 dzbX13_lies_23 rfl
theorem dX13_lies_43 : decode cX13_lies 43 = .ok (.iload_n 3, 1) := dz0 dzo29 20 dzbX13_lies_23 rfl
theorem dX13_lies_44 : decode cX13_lies 44 = .ok (.invokestatic 411, 3) := dz2 dzo184 21 1 155 dzbX13_lies_23 rfl
theorem dzbX13_lies_47 : dzB cX13_lies 47 [182, 0, 52, 172] := by decide +kernel
theorem dX13_lies_47 : decode cX13_lies 47 = .ok (.invokevirtual 52, 3) := dz2 dzo182 0 0 52 dzbX13_lies_47 rfl
theorem dX13_lies_50 : decode cX13_lies 50 = .ok (.ireturn, 1) := dz0 dzo172 3 dzbX13_lies_47 rfl
theorem dzbX13_likeliest_0 : dzB cX13_likeliest 0 [42, 3, 181, 0, 42, 42, 180, 1, 13, 199, 0, 9, 42, 4, 182, 0, 48, 172, 16, 254, 60, 9, 65, 3] := by decide +kernel
theorem dX13_likeliest_0 : decode cX13_likeliest 0 = .ok (.aload_n 0, 1) := dz0 dzo42 0 dzbX13_likeliest_0 rfl
theorem dX13_likeliest_1 : decode cX13_likeliest 1 = .ok (.iconst 0, 1) := dz0 dzo3 1 dzbX13_likeliest_0 rfl
theorem dX13_likeliest_2 : decode cX13_likeliest 2 = .ok (.putfield 42, 3) := dz2 dzo181 2 0 42 dzbX13_likeliest_0 rfl
theorem dX13_likeliest_5 : decode cX13_likeliest 5 = .ok (.aload_n 0, 1) := dz0 dzo42 5 dzbX13_likeliest_0 rfl
theorem dX13_likeliest_6 : decode cX13_likeliest 6 = .ok (.getfield 269, 3) := dz2 dzo180 6 1 13 dzbX13_likeliest_0 rfl
theorem dX13_likeliest_9 : decode cX13_likeliest 9 = .ok (.ifnonnull 9, 3) := dz4 dzo199 9 0 9 9 rfl dzbX13_likeliest_0 rfl
theorem dX13_likeliest_12 : decode cX13_likeliest 12 = .ok (.aload_n 0, 1) := dz0 dzo42 12 dzbX13_likeliest_0 rfl
theorem dX13_likeliest_13 : decode cX13_likeliest 13 = .ok (.iconst 1, 1) := dz0 dzo4 13 dzbX13_likeliest_0 rfl
theorem dX13_likeliest_14 : decode cX13_likeliest 14 = .ok (.invokevirtual 48, 3) := dz2 dzo182 14 0 48 dzbX13_likeliest_0 rfl
theorem dX13_likeliest_17 : decode cX13_likeliest 17 = .ok (.ireturn, 1) := dz0 dzo172 17 dzbX13_likeliest_0 rfl
theorem dX13_likeliest_18 : decode cX13_likeliest 18 = .ok (.bipush (-2), 2) := dz3 dzo16 18 254 (-2) rfl dzbX13_likeliest_0 rfl
theorem dX13_likeliest_20 : decode cX13_likeliest 20 = .ok (.istore_n 1, 1) := dz0 dzo60 20 dzbX13_likeliest_0 rfl
theorem dX13_likeliest_21 : decode cX13_likeliest 21 = .ok (.lconst 0, 1) := dz0 dzo9 21 dzbX13_likeliest_0 rfl
theorem dX13_likeliest_22 : decode cX13_likeliest 22 = .ok (.lstore_n 2, 1) := dz0 dzo65 22 dzbX13_likeliest_0 rfl
theorem dX13_likeliest_23 : decode cX13_likeliest 23 = .ok (.iconst 0, 1) := dz0 dzo3 23 dzbX13_likeliest_0 rfl
theorem dzbX13_likeliest_24 : dzB cX13_likeliest 24 [54, 4, 21, 4, 42, 182, 1, 129, 162, 0, 33, 42, 21, 4, 182, 1, 132, 32, 148, 157, 0, 6] := by decide +kernel
theorem dX13_likeliest_24 : decode cX13_likeliest 24 = .ok (.istore 4, 2) := dz1 dzo54 0 4 dzbX13_likeliest_24 rfl
theorem dX13_likeliest_26 : decode cX13_likeliest 26 = .ok (.iload 4, 2) := dz1 dzo21 2 4 dzbX13_likeliest_24 rfl
theorem dX13_likeliest_28 : decode cX13_likeliest 28 = .ok (.aload_n 0, 1) := dz0 dzo42 4 dzbX13_likeliest_24 rfl
theorem dX13_likeliest_29 : decode cX13_likeliest 29 = .ok (.invokevirtual 385, 3) := dz2 dzo182 5 1 129 dzbX13_likeliest_24 rfl
theorem dX13_likeliest_32 : decode cX13_likeliest 32 = .ok (.if_icmp .ge 33, 3) := dz4 dzo162 8 0 33 33 rfl dzbX13_likeliest_24 rfl
theorem dX13_likeliest_35 : decode cX13_likeliest 35 = .ok (.aload_n 0, 1) := dz0 dzo42 11 dzbX13_likeliest_24 rfl
theorem dX13_likeliest_36 : decode cX13_likeliest 36 = .ok (.iload 4, 2) := dz1 dzo21 12 4 dzbX13_likeliest_24 rfl
theorem dX13_likeliest_38 : decode cX13_likeliest 38 = .ok (.invokevirtual 388, 3) := dz2 dzo182 14 1 132 dzbX13_likeliest_24 rfl
theorem dX13_likeliest_41 : decode cX13_likeliest 41 = .ok (.lload_n 2, 1) := dz0 dzo32 17 dzbX13_likeliest_24 rfl
theorem dX13_likeliest_42 : decode cX13_likeliest 42 = .ok (.lcmp, 1) := dz0 dzo148 18 dzbX13_likeliest_24 rfl
theorem dX13_likeliest_43 : decode cX13_likeliest 43 = .ok (.ifCond .gt 6, 3) := dz4 dzo157 19 0 6 6 rfl dzbX13_likeliest_24 rfl
theorem dzbX13_likeliest_46 : dzB cX13_likeliest 46 [167, 0, 13, 42, 21, 4, 182, 1, 132, 65, 21, 4, 60, 132, 4, 1, 167, 255, 220, 42, 27, 182, 0, 52] := by decide +kernel
theorem dX13_likeliest_46 : decode cX13_likeliest 46 = .ok (.goto 13, 3) := dz4 dzo167 0 0 13 13 rfl dzbX13_likeliest_46 rfl
theorem dX13_likeliest_49 : decode cX13_likeliest 49 = .ok (.aload_n 0, 1) := dz0 dzo42 3 dzbX13_likeliest_46 rfl
theorem dX13_likeliest_50 : decode cX13_likeliest 50 = .ok (.iload 4, 2) := dz1 dzo21 4 4 dzbX13_likeliest_46 rfl
theorem dX13_likeliest_52 : decode cX13_likeliest 52 = .ok (.invokevirtual 388, 3) := dz2 dzo182 6 1 132 dzbX13_likeliest_46 rfl
theorem dX13_likeliest_55 : decode cX13_likeliest 55 = .ok (.lstore_n 2, 1) := dz0 dzo65 9 dzbX13_likeliest_46 rfl
theorem dX13_likeliest_56 : decode cX13_likeliest 56 = .ok (.iload 4, 2) := dz1 dzo21 10 4 dzbX13_likeliest_46 rfl
theorem dX13_likeliest_58 : decode cX13_likeliest 58 = .ok (.istore_n 1, 1) := dz0 dzo60 12 dzbX13_likeliest_46 rfl
theorem dX13_likeliest_59 : decode cX13_likeliest 59 = .ok (.iinc 4 1, 3) := dz5 dzo132 13 4 1 1 rfl dzbX13_likeliest_46 rfl
theorem dX13_likeliest_62 : decode cX13_likeliest 62 = .ok (.goto (-36), 3) := dz4 dzo167 16 255 220 (-36) rfl dzbX13_likeliest_46 rfl
theorem dX13_likeliest_65 : decode cX13_likeliest 65 = .ok (.aload_n 0, 1) := dz0 dzo42 19 dzbX13_likeliest_46 rfl
theorem dX13_likeliest_66 : decode cX13_likeliest 66 = .ok (.iload_n 1, 1) := dz0 dzo27 20 dzbX13_likeliest_46 rfl
theorem dX13_likeliest_67 : decode cX13_likeliest 67 = .ok (.invokevirtual 52, 3) := dz2 dzo182 21 0 52 dzbX13_likeliest_46 rfl
theorem dzbX13_likeliest_70 : dzB cX13_likeliest 70 [172] := by decide +kernel
theorem dX13_likeliest_70 : decode cX13_likeliest 70 = .ok (.ireturn, 1) := dz0 dzo172 0 dzbX13_likeliest_70 rfl
theorem dzbX13_lineBegins_0 : dzB cX13_lineBegins 0 [27, 28, 160, 0, 8, 42, 8, 182, 0, 120, 42, 180, 0, 154, 180, 0, 158, 153, 0, 20, 42, 180, 0, 154] := by decide +kernel
theorem dX13_lineBegins_0 : decode cX13_lineBegins 0 = .ok (.iload_n 1, 1) := dz0 dzo27 0 dzbX13_lineBegins_0 rfl
theorem dX13_lineBegins_1 : decode cX13_lineBegins 1 = .ok (.iload_n 2, 1) := dz0 dzo28 1 dzbX13_lineBegins_0 rfl
theorem dX13_lineBegins_2 : decode cX13_lineBegins 2 = .ok (.if_icmp .ne 8, 3) := dz4 dzo160 2 0 8 8 rfl dzbX13_lineBegins_0 rfl
theorem dX13_lineBegins_5 : decode cX13_lineBegins 5 = .ok (.aload_n 0, 1) := dz0 dzo42 5 dzbX13_lineBegins_0 rfl
theorem dX13_lineBegins_6 : decode cX13_lineBegins 6 = .ok (.iconst 5, 1) := dz0 dzo8 6 dzbX13_lineBegins_0 rfl
theorem dX13_lineBegins_7 : decode cX13_lineBegins 7 = .ok (.invokevirtual 120, 3) := dz2 dzo182 7 0 120 dzbX13_lineBegins_0 rfl
theorem dX13_lineBegins_10 : decode cX13_lineBegins 10 = .ok (.aload_n 0, 1) := dz0 dzo42 10 dzbX13_lineBegins_0 rfl
theorem dX13_lineBegins_11 : decode cX13_lineBegins 11 = .ok (.getfield 154, 3) := dz2 dzo180 11 0 154 dzbX13_lineBegins_0 rfl
theorem dX13_lineBegins_14 : decode cX13_lineBegins 14 = .ok (.getfield 158, 3) := dz2 dzo180 14 0 158 dzbX13_lineBegins_0 rfl
theorem dX13_lineBegins_17 : decode cX13_lineBegins 17 = .ok (.ifCond .eq 20, 3) := dz4 dzo153 17 0 20 20 rfl dzbX13_lineBegins_0 rfl
theorem dX13_lineBegins_20 : decode cX13_lineBegins 20 = .ok (.aload_n 0, 1) := dz0 dzo42 20 dzbX13_lineBegins_0 rfl
theorem dX13_lineBegins_21 : decode cX13_lineBegins 21 = .ok (.getfield 154, 3) := dz2 dzo180 21 0 154 dzbX13_lineBegins_0 rfl
theorem dzbX13_lineBegins_24 : dzB cX13_lineBegins 24 [180, 0, 163, 42, 180, 0, 154, 180, 0, 166, 162, 0, 9, 42, 16, 6, 182, 0, 120, 42, 182, 0, 113, 177] := by decide +kernel
theorem dX13_lineBegins_24 : decode cX13_lineBegins 24 = .ok (.getfield 163, 3) := dz2 dzo180 0 0 163 dzbX13_lineBegins_24 rfl
theorem dX13_lineBegins_27 : decode cX13_lineBegins 27 = .ok (.aload_n 0, 1) := dz0 dzo42 3 dzbX13_lineBegins_24 rfl
theorem dX13_lineBegins_28 : decode cX13_lineBegins 28 = .ok (.getfield 154, 3) := dz2 dzo180 4 0 154 dzbX13_lineBegins_24 rfl
theorem dX13_lineBegins_31 : decode cX13_lineBegins 31 = .ok (.getfield 166, 3) := dz2 dzo180 7 0 166 dzbX13_lineBegins_24 rfl
theorem dX13_lineBegins_34 : decode cX13_lineBegins 34 = .ok (.if_icmp .ge 9, 3) := dz4 dzo162 10 0 9 9 rfl dzbX13_lineBegins_24 rfl
theorem dX13_lineBegins_37 : decode cX13_lineBegins 37 = .ok (.aload_n 0, 1) := dz0 dzo42 13 dzbX13_lineBegins_24 rfl
theorem dX13_lineBegins_38 : decode cX13_lineBegins 38 = .ok (.bipush 6, 2) := dz3 dzo16 14 6 6 rfl dzbX13_lineBegins_24 rfl
theorem dX13_lineBegins_40 : decode cX13_lineBegins 40 = .ok (.invokevirtual 120, 3) := dz2 dzo182 16 0 120 dzbX13_lineBegins_24 rfl
theorem dX13_lineBegins_43 : decode cX13_lineBegins 43 = .ok (.aload_n 0, 1) := dz0 dzo42 19 dzbX13_lineBegins_24 rfl
theorem dX13_lineBegins_44 : decode cX13_lineBegins 44 = .ok (.invokevirtual 113, 3) := dz2 dzo182 20 0 113 dzbX13_lineBegins_24 rfl
theorem dX13_lineBegins_47 : decode cX13_lineBegins 47 = .ok (.return_, 1) := dz0 dzo177 23 dzbX13_lineBegins_24 rfl
theorem dzbX13_lines_0 : dzB cX13_lines 0 [42, 27, 4, 182, 1, 67, 19, 1, 37, 160, 0, 5, 3, 172, 42, 180, 0, 17, 16, 20, 27, 96, 46, 62] := by decide +kernel
theorem dX13_lines_0 : decode cX13_lines 0 = .ok (.aload_n 0, 1) := dz0 dzo42 0 dzbX13_lines_0 rfl
theorem dX13_lines_1 : decode cX13_lines 1 = .ok (.iload_n 1, 1) := dz0 dzo27 1 dzbX13_lines_0 rfl
theorem dX13_lines_2 : decode cX13_lines 2 = .ok (.iconst 1, 1) := dz0 dzo4 2 dzbX13_lines_0 rfl
theorem dX13_lines_3 : decode cX13_lines 3 = .ok (.invokevirtual 323, 3) := dz2 dzo182 3 1 67 dzbX13_lines_0 rfl
theorem dX13_lines_6 : decode cX13_lines 6 = .ok (.ldc_w 293, 3) := dz2 dzo19 6 1 37 dzbX13_lines_0 rfl
theorem dX13_lines_9 : decode cX13_lines 9 = .ok (.if_icmp .ne 5, 3) := dz4 dzo160 9 0 5 5 rfl dzbX13_lines_0 rfl
theorem dX13_lines_12 : decode cX13_lines 12 = .ok (.iconst 0, 1) := dz0 dzo3 12 dzbX13_lines_0 rfl
theorem dX13_lines_13 : decode cX13_lines 13 = .ok (.ireturn, 1) := dz0 dzo172 13 dzbX13_lines_0 rfl
theorem dX13_lines_14 : decode cX13_lines 14 = .ok (.aload_n 0, 1) := dz0 dzo42 14 dzbX13_lines_0 rfl
theorem dX13_lines_15 : decode cX13_lines 15 = .ok (.getfield 17, 3) := dz2 dzo180 15 0 17 dzbX13_lines_0 rfl
theorem dX13_lines_18 : decode cX13_lines 18 = .ok (.bipush 20, 2) := dz3 dzo16 18 20 20 rfl dzbX13_lines_0 rfl
theorem dX13_lines_20 : decode cX13_lines 20 = .ok (.iload_n 1, 1) := dz0 dzo27 20 dzbX13_lines_0 rfl
theorem dX13_lines_21 : decode cX13_lines 21 = .ok (.iadd, 1) := dz0 dzo96 21 dzbX13_lines_0 rfl
theorem dX13_lines_22 : decode cX13_lines 22 = .ok (.iaload, 1) := dz0 dzo46 22 dzbX13_lines_0 rfl
theorem dX13_lines_23 : decode cX13_lines 23 = .ok (.istore_n 3, 1) := dz0 dzo62 23 dzbX13_lines_0 rfl
theorem dzbX13_lines_24 : dzB cX13_lines 24 [3, 54, 4, 42, 180, 0, 30, 29, 46, 158, 0, 71, 42, 27, 29, 4, 182, 1, 71, 54, 5, 21, 4, 42] := by decide +kernel
theorem dX13_lines_24 : decode cX13_lines 24 = .ok (.iconst 0, 1) := dz0 dzo3 0 dzbX13_lines_24 rfl
theorem dX13_lines_25 : decode cX13_lines 25 = .ok (.istore 4, 2) := dz1 dzo54 1 4 dzbX13_lines_24 rfl
theorem dX13_lines_27 : decode cX13_lines 27 = .ok (.aload_n 0, 1) := dz0 dzo42 3 dzbX13_lines_24 rfl
theorem dX13_lines_28 : decode cX13_lines 28 = .ok (.getfield 30, 3) := dz2 dzo180 4 0 30 dzbX13_lines_24 rfl
theorem dX13_lines_31 : decode cX13_lines 31 = .ok (.iload_n 3, 1) := dz0 dzo29 7 dzbX13_lines_24 rfl
theorem dX13_lines_32 : decode cX13_lines 32 = .ok (.iaload, 1) := dz0 dzo46 8 dzbX13_lines_24 rfl
theorem dX13_lines_33 : decode cX13_lines 33 = .ok (.ifCond .le 71, 3) := dz4 dzo158 9 0 71 71 rfl dzbX13_lines_24 rfl
theorem dX13_lines_36 : decode cX13_lines 36 = .ok (.aload_n 0, 1) := dz0 dzo42 12 dzbX13_lines_24 rfl
theorem dX13_lines_37 : decode cX13_lines 37 = .ok (.iload_n 1, 1) := dz0 dzo27 13 dzbX13_lines_24 rfl
theorem dX13_lines_38 : decode cX13_lines 38 = .ok (.iload_n 3, 1) := dz0 dzo29 14 dzbX13_lines_24 rfl
theorem dX13_lines_39 : decode cX13_lines 39 = .ok (.iconst 1, 1) := dz0 dzo4 15 dzbX13_lines_24 rfl
theorem dX13_lines_40 : decode cX13_lines 40 = .ok (.invokevirtual 327, 3) := dz2 dzo182 16 1 71 dzbX13_lines_24 rfl
theorem dX13_lines_43 : decode cX13_lines 43 = .ok (.istore 5, 2) := dz1 dzo54 19 5 dzbX13_lines_24 rfl
theorem dX13_lines_45 : decode cX13_lines 45 = .ok (.iload 4, 2) := dz1 dzo21 21 4 dzbX13_lines_24 rfl
theorem dX13_lines_47 : decode cX13_lines 47 = .ok (.aload_n 0, 1) := dz0 dzo42 23 dzbX13_lines_24 rfl
theorem dzbX13_lines_48 : dzB cX13_lines 48 [42, 180, 1, 13, 180, 0, 238, 27, 46, 29, 21, 5, 182, 1, 33, 96, 54, 6, 21, 4, 21, 6] := by decide +kernel
theorem dX13_lines_48 : decode cX13_lines 48 = .ok (.aload_n 0, 1) := dz0 dzo42 0 dzbX13_lines_48 rfl
theorem dX13_lines_49 : decode cX13_lines 49 = .ok (.getfield 269, 3) := dz2 dzo180 1 1 13 dzbX13_lines_48 rfl
theorem dX13_lines_52 : decode cX13_lines 52 = .ok (.getfield 238, 3) := dz2 dzo180 4 0 238 dzbX13_lines_48 rfl
theorem dX13_lines_55 : decode cX13_lines 55 = .ok (.iload_n 1, 1) := dz0 dzo27 7 dzbX13_lines_48 rfl
theorem dX13_lines_56 : decode cX13_lines 56 = .ok (.iaload, 1) := dz0 dzo46 8 dzbX13_lines_48 rfl
theorem dX13_lines_57 : decode cX13_lines 57 = .ok (.iload_n 3, 1) := dz0 dzo29 9 dzbX13_lines_48 rfl
theorem dX13_lines_58 : decode cX13_lines 58 = .ok (.iload 5, 2) := dz1 dzo21 10 5 dzbX13_lines_48 rfl
theorem dX13_lines_60 : decode cX13_lines 60 = .ok (.invokevirtual 289, 3) := dz2 dzo182 12 1 33 dzbX13_lines_48 rfl
theorem dX13_lines_63 : decode cX13_lines 63 = .ok (.iadd, 1) := dz0 dzo96 15 dzbX13_lines_48 rfl
theorem dX13_lines_64 : decode cX13_lines 64 = .ok (.istore 6, 2) := dz1 dzo54 16 6 dzbX13_lines_48 rfl
theorem dX13_lines_66 : decode cX13_lines 66 = .ok (.iload 4, 2) := dz1 dzo21 18 4 dzbX13_lines_48 rfl
theorem dX13_lines_68 : decode cX13_lines 68 = .ok (.iload 6, 2) := dz1 dzo21 20 6 dzbX13_lines_48 rfl
theorem dzbX13_lines_70 : dzB cX13_lines 70 [162, 0, 23, 42, 180, 0, 36, 17, 0, 201, 28, 104, 21, 4, 96, 29, 79, 132, 4, 1, 167, 255, 232, 42] := by decide +kernel
theorem dX13_lines_70 : decode cX13_lines 70 = .ok (.if_icmp .ge 23, 3) := dz4 dzo162 0 0 23 23 rfl dzbX13_lines_70 rfl
theorem dX13_lines_73 : decode cX13_lines 73 = .ok (.aload_n 0, 1) := dz0 dzo42 3 dzbX13_lines_70 rfl
theorem dX13_lines_74 : decode cX13_lines 74 = .ok (.getfield 36, 3) := dz2 dzo180 4 0 36 dzbX13_lines_70 rfl
theorem dX13_lines_77 : decode cX13_lines 77 = .ok (.sipush 201, 3) := dz4 dzo17 7 0 201 201 rfl dzbX13_lines_70 rfl
theorem dX13_lines_80 : decode cX13_lines 80 = .ok (.iload_n 2, 1) := dz0 dzo28 10 dzbX13_lines_70 rfl
theorem dX13_lines_81 : decode cX13_lines 81 = .ok (.imul, 1) := dz0 dzo104 11 dzbX13_lines_70 rfl
theorem dX13_lines_82 : decode cX13_lines 82 = .ok (.iload 4, 2) := dz1 dzo21 12 4 dzbX13_lines_70 rfl
theorem dX13_lines_84 : decode cX13_lines 84 = .ok (.iadd, 1) := dz0 dzo96 14 dzbX13_lines_70 rfl
theorem dX13_lines_85 : decode cX13_lines 85 = .ok (.iload_n 3, 1) := dz0 dzo29 15 dzbX13_lines_70 rfl
theorem dX13_lines_86 : decode cX13_lines 86 = .ok (.iastore, 1) := dz0 dzo79 16 dzbX13_lines_70 rfl
theorem dX13_lines_87 : decode cX13_lines 87 = .ok (.iinc 4 1, 3) := dz5 dzo132 17 4 1 1 rfl dzbX13_lines_70 rfl
theorem dX13_lines_90 : decode cX13_lines 90 = .ok (.goto (-24), 3) := dz4 dzo167 20 255 232 (-24) rfl dzbX13_lines_70 rfl
theorem dX13_lines_93 : decode cX13_lines 93 = .ok (.aload_n 0, 1) := dz0 dzo42 23 dzbX13_lines_70 rfl
theorem dzbX13_lines_94 : dzB cX13_lines 94 [29, 21, 5, 182, 1, 24, 62, 167, 255, 182, 21, 4, 17, 0, 200, 163, 0, 23, 42, 180, 0, 36] := by decide +kernel
theorem dX13_lines_94 : decode cX13_lines 94 = .ok (.iload_n 3, 1) := dz0 dzo29 0 dzbX13_lines_94 rfl
theorem dX13_lines_95 : decode cX13_lines 95 = .ok (.iload 5, 2) := dz1 dzo21 1 5 dzbX13_lines_94 rfl
theorem dX13_lines_97 : decode cX13_lines 97 = .ok (.invokevirtual 280, 3) := dz2 dzo182 3 1 24 dzbX13_lines_94 rfl
theorem dX13_lines_100 : decode cX13_lines 100 = .ok (.istore_n 3, 1) := dz0 dzo62 6 dzbX13_lines_94 rfl
theorem dX13_lines_101 : decode cX13_lines 101 = .ok (.goto (-74), 3) := dz4 dzo167 7 255 182 (-74) rfl dzbX13_lines_94 rfl
theorem dX13_lines_104 : decode cX13_lines 104 = .ok (.iload 4, 2) := dz1 dzo21 10 4 dzbX13_lines_94 rfl
theorem dX13_lines_106 : decode cX13_lines 106 = .ok (.sipush 200, 3) := dz4 dzo17 12 0 200 200 rfl dzbX13_lines_94 rfl
theorem dX13_lines_109 : decode cX13_lines 109 = .ok (.if_icmp .gt 23, 3) := dz4 dzo163 15 0 23 23 rfl dzbX13_lines_94 rfl
theorem dX13_lines_112 : decode cX13_lines 112 = .ok (.aload_n 0, 1) := dz0 dzo42 18 dzbX13_lines_94 rfl
theorem dX13_lines_113 : decode cX13_lines 113 = .ok (.getfield 36, 3) := dz2 dzo180 19 0 36 dzbX13_lines_94 rfl
theorem dzbX13_lines_116 : dzB cX13_lines 116 [17, 0, 201, 28, 104, 21, 4, 96, 29, 79, 132, 4, 1, 167, 255, 231, 4, 172] := by decide +kernel
theorem dX13_lines_116 : decode cX13_lines 116 = .ok (.sipush 201, 3) := dz4 dzo17 0 0 201 201 rfl dzbX13_lines_116 rfl
theorem dX13_lines_119 : decode cX13_lines 119 = .ok (.iload_n 2, 1) := dz0 dzo28 3 dzbX13_lines_116 rfl
theorem dX13_lines_120 : decode cX13_lines 120 = .ok (.imul, 1) := dz0 dzo104 4 dzbX13_lines_116 rfl
theorem dX13_lines_121 : decode cX13_lines 121 = .ok (.iload 4, 2) := dz1 dzo21 5 4 dzbX13_lines_116 rfl
theorem dX13_lines_123 : decode cX13_lines 123 = .ok (.iadd, 1) := dz0 dzo96 7 dzbX13_lines_116 rfl
theorem dX13_lines_124 : decode cX13_lines 124 = .ok (.iload_n 3, 1) := dz0 dzo29 8 dzbX13_lines_116 rfl
theorem dX13_lines_125 : decode cX13_lines 125 = .ok (.iastore, 1) := dz0 dzo79 9 dzbX13_lines_116 rfl
theorem dX13_lines_126 : decode cX13_lines 126 = .ok (.iinc 4 1, 3) := dz5 dzo132 10 4 1 1 rfl dzbX13_lines_116 rfl
theorem dX13_lines_129 : decode cX13_lines 129 = .ok (.goto (-25), 3) := dz4 dzo167 13 255 231 (-25) rfl dzbX13_lines_116 rfl
theorem dX13_lines_132 : decode cX13_lines 132 = .ok (.iconst 1, 1) := dz0 dzo4 16 dzbX13_lines_116 rfl
theorem dX13_lines_133 : decode cX13_lines 133 = .ok (.ireturn, 1) := dz0 dzo172 17 dzbX13_lines_116 rfl
theorem dzbX13_lost_0 : dzB cX13_lost 0 [42, 27, 182, 0, 48, 87, 16, 156, 172] := by decide +kernel
theorem dX13_lost_0 : decode cX13_lost 0 = .ok (.aload_n 0, 1) := dz0 dzo42 0 dzbX13_lost_0 rfl
theorem dX13_lost_1 : decode cX13_lost 1 = .ok (.iload_n 1, 1) := dz0 dzo27 1 dzbX13_lost_0 rfl
theorem dX13_lost_2 : decode cX13_lost 2 = .ok (.invokevirtual 48, 3) := dz2 dzo182 2 0 48 dzbX13_lost_0 rfl
theorem dX13_lost_5 : decode cX13_lost 5 = .ok (.pop, 1) := dz0 dzo87 5 dzbX13_lost_0 rfl
theorem dX13_lost_6 : decode cX13_lost 6 = .ok (.bipush (-100), 2) := dz3 dzo16 6 156 (-100) rfl dzbX13_lost_0 rfl
theorem dX13_lost_8 : decode cX13_lost 8 = .ok (.ireturn, 1) := dz0 dzo172 8 dzbX13_lost_0 rfl
theorem dzbX13_mean_0 : dzB cX13_mean 0 [42, 3, 181, 0, 42, 42, 27, 182, 1, 55, 154, 0, 10, 42, 4, 182, 0, 48, 133, 173, 42, 27] := by decide +kernel
theorem dX13_mean_0 : decode cX13_mean 0 = .ok (.aload_n 0, 1) := dz0 dzo42 0 dzbX13_mean_0 rfl
theorem dX13_mean_1 : decode cX13_mean 1 = .ok (.iconst 0, 1) := dz0 dzo3 1 dzbX13_mean_0 rfl
theorem dX13_mean_2 : decode cX13_mean 2 = .ok (.putfield 42, 3) := dz2 dzo181 2 0 42 dzbX13_mean_0 rfl
theorem dX13_mean_5 : decode cX13_mean 5 = .ok (.aload_n 0, 1) := dz0 dzo42 5 dzbX13_mean_0 rfl
theorem dX13_mean_6 : decode cX13_mean 6 = .ok (.iload_n 1, 1) := dz0 dzo27 6 dzbX13_mean_0 rfl
theorem dX13_mean_7 : decode cX13_mean 7 = .ok (.invokevirtual 311, 3) := dz2 dzo182 7 1 55 dzbX13_mean_0 rfl
theorem dX13_mean_10 : decode cX13_mean 10 = .ok (.ifCond .ne 10, 3) := dz4 dzo154 10 0 10 10 rfl dzbX13_mean_0 rfl
theorem dX13_mean_13 : decode cX13_mean 13 = .ok (.aload_n 0, 1) := dz0 dzo42 13 dzbX13_mean_0 rfl
theorem dX13_mean_14 : decode cX13_mean 14 = .ok (.iconst 1, 1) := dz0 dzo4 14 dzbX13_mean_0 rfl
theorem dX13_mean_15 : decode cX13_mean 15 = .ok (.invokevirtual 48, 3) := dz2 dzo182 15 0 48 dzbX13_mean_0 rfl
theorem dX13_mean_18 : decode cX13_mean 18 = .ok (.i2l, 1) := dz0 dzo133 18 dzbX13_mean_0 rfl
theorem dX13_mean_19 : decode cX13_mean 19 = .ok (.lreturn, 1) := dz0 dzo173 19 dzbX13_mean_0 rfl
theorem dX13_mean_20 : decode cX13_mean 20 = .ok (.aload_n 0, 1) := dz0 dzo42 20 dzbX13_mean_0 rfl
theorem dX13_mean_21 : decode cX13_mean 21 = .ok (.iload_n 1, 1) := dz0 dzo27 21 dzbX13_mean_0 rfl
theorem dzbX13_mean_22 : dzB cX13_mean 22 [182, 1, 161, 62, 29, 16, 254, 160, 0, 13, 42, 16, 6, 182, 0, 48, 133, 167, 0, 25, 42, 29, 133] := by decide +kernel
theorem dX13_mean_22 : decode cX13_mean 22 = .ok (.invokevirtual 417, 3) := dz2 dzo182 0 1 161 dzbX13_mean_22 rfl
theorem dX13_mean_25 : decode cX13_mean 25 = .ok (.istore_n 3, 1) := dz0 dzo62 3 dzbX13_mean_22 rfl
theorem dX13_mean_26 : decode cX13_mean 26 = .ok (.iload_n 3, 1) := dz0 dzo29 4 dzbX13_mean_22 rfl
theorem dX13_mean_27 : decode cX13_mean 27 = .ok (.bipush (-2), 2) := dz3 dzo16 5 254 (-2) rfl dzbX13_mean_22 rfl
theorem dX13_mean_29 : decode cX13_mean 29 = .ok (.if_icmp .ne 13, 3) := dz4 dzo160 7 0 13 13 rfl dzbX13_mean_22 rfl
theorem dX13_mean_32 : decode cX13_mean 32 = .ok (.aload_n 0, 1) := dz0 dzo42 10 dzbX13_mean_22 rfl
theorem dX13_mean_33 : decode cX13_mean 33 = .ok (.bipush 6, 2) := dz3 dzo16 11 6 6 rfl dzbX13_mean_22 rfl
theorem dX13_mean_35 : decode cX13_mean 35 = .ok (.invokevirtual 48, 3) := dz2 dzo182 13 0 48 dzbX13_mean_22 rfl
theorem dX13_mean_38 : decode cX13_mean 38 = .ok (.i2l, 1) := dz0 dzo133 16 dzbX13_mean_22 rfl
theorem dX13_mean_39 : decode cX13_mean 39 = .ok (.goto 25, 3) := dz4 dzo167 17 0 25 25 rfl dzbX13_mean_22 rfl
theorem dX13_mean_42 : decode cX13_mean 42 = .ok (.aload_n 0, 1) := dz0 dzo42 20 dzbX13_mean_22 rfl
theorem dX13_mean_43 : decode cX13_mean 43 = .ok (.iload_n 3, 1) := dz0 dzo29 21 dzbX13_mean_22 rfl
theorem dX13_mean_44 : decode cX13_mean 44 = .ok (.i2l, 1) := dz0 dzo133 22 dzbX13_mean_22 rfl
theorem dzbX13_mean_45 : dzB cX13_mean 45 [16, 100, 42, 180, 1, 13, 180, 0, 193, 100, 133, 105, 20, 1, 164, 28, 182, 1, 139, 173] := by decide +kernel
theorem dX13_mean_45 : decode cX13_mean 45 = .ok (.bipush 100, 2) := dz3 dzo16 0 100 100 rfl dzbX13_mean_45 rfl
theorem dX13_mean_47 : decode cX13_mean 47 = .ok (.aload_n 0, 1) := dz0 dzo42 2 dzbX13_mean_45 rfl
theorem dX13_mean_48 : decode cX13_mean 48 = .ok (.getfield 269, 3) := dz2 dzo180 3 1 13 dzbX13_mean_45 rfl
theorem dX13_mean_51 : decode cX13_mean 51 = .ok (.getfield 193, 3) := dz2 dzo180 6 0 193 dzbX13_mean_45 rfl
theorem dX13_mean_54 : decode cX13_mean 54 = .ok (.isub, 1) := dz0 dzo100 9 dzbX13_mean_45 rfl
theorem dX13_mean_55 : decode cX13_mean 55 = .ok (.i2l, 1) := dz0 dzo133 10 dzbX13_mean_45 rfl
theorem dX13_mean_56 : decode cX13_mean 56 = .ok (.lmul, 1) := dz0 dzo105 11 dzbX13_mean_45 rfl
theorem dX13_mean_57 : decode cX13_mean 57 = .ok (.ldc2_w 420, 3) := dz2 dzo20 12 1 164 dzbX13_mean_45 rfl
theorem dX13_mean_60 : decode cX13_mean 60 = .ok (.iload_n 2, 1) := dz0 dzo28 15 dzbX13_mean_45 rfl
theorem dX13_mean_61 : decode cX13_mean 61 = .ok (.invokevirtual 395, 3) := dz2 dzo182 16 1 139 dzbX13_mean_45 rfl
theorem dX13_mean_64 : decode cX13_mean 64 = .ok (.lreturn, 1) := dz0 dzo173 19 dzbX13_mean_45 rfl
theorem dzbX13_meet_0 : dzB cX13_meet 0 [42, 3, 181, 0, 42, 42, 27, 182, 1, 55, 153, 0, 29, 42, 28, 182, 1, 55, 153, 0, 21, 27, 28] := by decide +kernel
theorem dX13_meet_0 : decode cX13_meet 0 = .ok (.aload_n 0, 1) := dz0 dzo42 0 dzbX13_meet_0 rfl
theorem dX13_meet_1 : decode cX13_meet 1 = .ok (.iconst 0, 1) := dz0 dzo3 1 dzbX13_meet_0 rfl
theorem dX13_meet_2 : decode cX13_meet 2 = .ok (.putfield 42, 3) := dz2 dzo181 2 0 42 dzbX13_meet_0 rfl
theorem dX13_meet_5 : decode cX13_meet 5 = .ok (.aload_n 0, 1) := dz0 dzo42 5 dzbX13_meet_0 rfl
theorem dX13_meet_6 : decode cX13_meet 6 = .ok (.iload_n 1, 1) := dz0 dzo27 6 dzbX13_meet_0 rfl
theorem dX13_meet_7 : decode cX13_meet 7 = .ok (.invokevirtual 311, 3) := dz2 dzo182 7 1 55 dzbX13_meet_0 rfl
theorem dX13_meet_10 : decode cX13_meet 10 = .ok (.ifCond .eq 29, 3) := dz4 dzo153 10 0 29 29 rfl dzbX13_meet_0 rfl
theorem dX13_meet_13 : decode cX13_meet 13 = .ok (.aload_n 0, 1) := dz0 dzo42 13 dzbX13_meet_0 rfl
theorem dX13_meet_14 : decode cX13_meet 14 = .ok (.iload_n 2, 1) := dz0 dzo28 14 dzbX13_meet_0 rfl
theorem dX13_meet_15 : decode cX13_meet 15 = .ok (.invokevirtual 311, 3) := dz2 dzo182 15 1 55 dzbX13_meet_0 rfl
theorem dX13_meet_18 : decode cX13_meet 18 = .ok (.ifCond .eq 21, 3) := dz4 dzo153 18 0 21 21 rfl dzbX13_meet_0 rfl
theorem dX13_meet_21 : decode cX13_meet 21 = .ok (.iload_n 1, 1) := dz0 dzo27 21 dzbX13_meet_0 rfl
theorem dX13_meet_22 : decode cX13_meet 22 = .ok (.iload_n 2, 1) := dz0 dzo28 22 dzbX13_meet_0 rfl
theorem dzbX13_meet_23 : dzB cX13_meet 23 [159, 0, 16, 42, 42, 27, 28, 182, 1, 114, 182, 0, 52, 167, 0, 8, 42, 4, 182, 0, 48, 172] := by decide +kernel
theorem dX13_meet_23 : decode cX13_meet 23 = .ok (.if_icmp .eq 16, 3) := dz4 dzo159 0 0 16 16 rfl dzbX13_meet_23 rfl
theorem dX13_meet_26 : decode cX13_meet 26 = .ok (.aload_n 0, 1) := dz0 dzo42 3 dzbX13_meet_23 rfl
theorem dX13_meet_27 : decode cX13_meet 27 = .ok (.aload_n 0, 1) := dz0 dzo42 4 dzbX13_meet_23 rfl
theorem dX13_meet_28 : decode cX13_meet 28 = .ok (.iload_n 1, 1) := dz0 dzo27 5 dzbX13_meet_23 rfl
theorem dX13_meet_29 : decode cX13_meet 29 = .ok (.iload_n 2, 1) := dz0 dzo28 6 dzbX13_meet_23 rfl
theorem dX13_meet_30 : decode cX13_meet 30 = .ok (.invokevirtual 370, 3) := dz2 dzo182 7 1 114 dzbX13_meet_23 rfl
theorem dX13_meet_33 : decode cX13_meet 33 = .ok (.invokevirtual 52, 3) := dz2 dzo182 10 0 52 dzbX13_meet_23 rfl
theorem dX13_meet_36 : decode cX13_meet 36 = .ok (.goto 8, 3) := dz4 dzo167 13 0 8 8 rfl dzbX13_meet_23 rfl
theorem dX13_meet_39 : decode cX13_meet 39 = .ok (.aload_n 0, 1) := dz0 dzo42 16 dzbX13_meet_23 rfl
theorem dX13_meet_40 : decode cX13_meet 40 = .ok (.iconst 1, 1) := dz0 dzo4 17 dzbX13_meet_23 rfl
theorem dX13_meet_41 : decode cX13_meet 41 = .ok (.invokevirtual 48, 3) := dz2 dzo182 18 0 48 dzbX13_meet_23 rfl
theorem dX13_meet_44 : decode cX13_meet 44 = .ok (.ireturn, 1) := dz0 dzo172 21 dzbX13_meet_23 rfl
theorem dzbX13_meetAt_0 : dzB cX13_meetAt 0 [42, 3, 181, 0, 42, 42, 27, 182, 1, 55, 153, 0, 16, 42, 28, 182, 1, 55, 153, 0, 8, 27, 28] := by decide +kernel
theorem dX13_meetAt_0 : decode cX13_meetAt 0 = .ok (.aload_n 0, 1) := dz0 dzo42 0 dzbX13_meetAt_0 rfl
theorem dX13_meetAt_1 : decode cX13_meetAt 1 = .ok (.iconst 0, 1) := dz0 dzo3 1 dzbX13_meetAt_0 rfl
theorem dX13_meetAt_2 : decode cX13_meetAt 2 = .ok (.putfield 42, 3) := dz2 dzo181 2 0 42 dzbX13_meetAt_0 rfl
theorem dX13_meetAt_5 : decode cX13_meetAt 5 = .ok (.aload_n 0, 1) := dz0 dzo42 5 dzbX13_meetAt_0 rfl
theorem dX13_meetAt_6 : decode cX13_meetAt 6 = .ok (.iload_n 1, 1) := dz0 dzo27 6 dzbX13_meetAt_0 rfl
theorem dX13_meetAt_7 : decode cX13_meetAt 7 = .ok (.invokevirtual 311, 3) := dz2 dzo182 7 1 55 dzbX13_meetAt_0 rfl
theorem dX13_meetAt_10 : decode cX13_meetAt 10 = .ok (.ifCond .eq 16, 3) := dz4 dzo153 10 0 16 16 rfl dzbX13_meetAt_0 rfl
theorem dX13_meetAt_13 : decode cX13_meetAt 13 = .ok (.aload_n 0, 1) := dz0 dzo42 13 dzbX13_meetAt_0 rfl
theorem dX13_meetAt_14 : decode cX13_meetAt 14 = .ok (.iload_n 2, 1) := dz0 dzo28 14 dzbX13_meetAt_0 rfl
theorem dX13_meetAt_15 : decode cX13_meetAt 15 = .ok (.invokevirtual 311, 3) := dz2 dzo182 15 1 55 dzbX13_meetAt_0 rfl
theorem dX13_meetAt_18 : decode cX13_meetAt 18 = .ok (.ifCond .eq 8, 3) := dz4 dzo153 18 0 8 8 rfl dzbX13_meetAt_0 rfl
theorem dX13_meetAt_21 : decode cX13_meetAt 21 = .ok (.iload_n 1, 1) := dz0 dzo27 21 dzbX13_meetAt_0 rfl
theorem dX13_meetAt_22 : decode cX13_meetAt 22 = .ok (.iload_n 2, 1) := dz0 dzo28 22 dzbX13_meetAt_0 rfl
theorem dzbX13_meetAt_23 : dzB cX13_meetAt 23 [160, 0, 9, 42, 4, 182, 0, 48, 172, 42, 27, 28, 182, 1, 114, 62, 42, 29, 16, 254, 160, 0, 8] := by decide +kernel
theorem dX13_meetAt_23 : decode cX13_meetAt 23 = .ok (.if_icmp .ne 9, 3) := dz4 dzo160 0 0 9 9 rfl dzbX13_meetAt_23 rfl
theorem dX13_meetAt_26 : decode cX13_meetAt 26 = .ok (.aload_n 0, 1) := dz0 dzo42 3 dzbX13_meetAt_23 rfl
theorem dX13_meetAt_27 : decode cX13_meetAt 27 = .ok (.iconst 1, 1) := dz0 dzo4 4 dzbX13_meetAt_23 rfl
theorem dX13_meetAt_28 : decode cX13_meetAt 28 = .ok (.invokevirtual 48, 3) := dz2 dzo182 5 0 48 dzbX13_meetAt_23 rfl
theorem dX13_meetAt_31 : decode cX13_meetAt 31 = .ok (.ireturn, 1) := dz0 dzo172 8 dzbX13_meetAt_23 rfl
theorem dX13_meetAt_32 : decode cX13_meetAt 32 = .ok (.aload_n 0, 1) := dz0 dzo42 9 dzbX13_meetAt_23 rfl
theorem dX13_meetAt_33 : decode cX13_meetAt 33 = .ok (.iload_n 1, 1) := dz0 dzo27 10 dzbX13_meetAt_23 rfl
theorem dX13_meetAt_34 : decode cX13_meetAt 34 = .ok (.iload_n 2, 1) := dz0 dzo28 11 dzbX13_meetAt_23 rfl
theorem dX13_meetAt_35 : decode cX13_meetAt 35 = .ok (.invokevirtual 370, 3) := dz2 dzo182 12 1 114 dzbX13_meetAt_23 rfl
theorem dX13_meetAt_38 : decode cX13_meetAt 38 = .ok (.istore_n 3, 1) := dz0 dzo62 15 dzbX13_meetAt_23 rfl
theorem dX13_meetAt_39 : decode cX13_meetAt 39 = .ok (.aload_n 0, 1) := dz0 dzo42 16 dzbX13_meetAt_23 rfl
theorem dX13_meetAt_40 : decode cX13_meetAt 40 = .ok (.iload_n 3, 1) := dz0 dzo29 17 dzbX13_meetAt_23 rfl
theorem dX13_meetAt_41 : decode cX13_meetAt 41 = .ok (.bipush (-2), 2) := dz3 dzo16 18 254 (-2) rfl dzbX13_meetAt_23 rfl
theorem dX13_meetAt_43 : decode cX13_meetAt 43 = .ok (.if_icmp .ne 8, 3) := dz4 dzo160 20 0 8 8 rfl dzbX13_meetAt_23 rfl
theorem dzbX13_meetAt_46 : dzB cX13_meetAt 46 [16, 254, 167, 0, 9, 42, 180, 0, 36, 29, 46, 182, 0, 52, 172] := by decide +kernel
theorem dX13_meetAt_46 : decode cX13_meetAt 46 = .ok (.bipush (-2), 2) := dz3 dzo16 0 254 (-2) rfl dzbX13_meetAt_46 rfl
theorem dX13_meetAt_48 : decode cX13_meetAt 48 = .ok (.goto 9, 3) := dz4 dzo167 2 0 9 9 rfl dzbX13_meetAt_46 rfl
theorem dX13_meetAt_51 : decode cX13_meetAt 51 = .ok (.aload_n 0, 1) := dz0 dzo42 5 dzbX13_meetAt_46 rfl
theorem dX13_meetAt_52 : decode cX13_meetAt 52 = .ok (.getfield 36, 3) := dz2 dzo180 6 0 36 dzbX13_meetAt_46 rfl
theorem dX13_meetAt_55 : decode cX13_meetAt 55 = .ok (.iload_n 3, 1) := dz0 dzo29 9 dzbX13_meetAt_46 rfl
theorem dX13_meetAt_56 : decode cX13_meetAt 56 = .ok (.iaload, 1) := dz0 dzo46 10 dzbX13_meetAt_46 rfl
theorem dX13_meetAt_57 : decode cX13_meetAt 57 = .ok (.invokevirtual 52, 3) := dz2 dzo182 11 0 52 dzbX13_meetAt_46 rfl
theorem dX13_meetAt_60 : decode cX13_meetAt 60 = .ok (.ireturn, 1) := dz0 dzo172 14 dzbX13_meetAt_46 rfl
theorem dzbX13_meets_0 : dzB cX13_meets 0 [42, 182, 1, 61, 42, 27, 3, 182, 1, 111, 153, 0, 12, 42, 28, 4, 182, 1, 111, 154, 0, 6, 16, 254] := by decide +kernel
theorem dX13_meets_0 : decode cX13_meets 0 = .ok (.aload_n 0, 1) := dz0 dzo42 0 dzbX13_meets_0 rfl
theorem dX13_meets_1 : decode cX13_meets 1 = .ok (.invokevirtual 317, 3) := dz2 dzo182 1 1 61 dzbX13_meets_0 rfl
theorem dX13_meets_4 : decode cX13_meets 4 = .ok (.aload_n 0, 1) := dz0 dzo42 4 dzbX13_meets_0 rfl
theorem dX13_meets_5 : decode cX13_meets 5 = .ok (.iload_n 1, 1) := dz0 dzo27 5 dzbX13_meets_0 rfl
theorem dX13_meets_6 : decode cX13_meets 6 = .ok (.iconst 0, 1) := dz0 dzo3 6 dzbX13_meets_0 rfl
theorem dX13_meets_7 : decode cX13_meets 7 = .ok (.invokevirtual 367, 3) := dz2 dzo182 7 1 111 dzbX13_meets_0 rfl
theorem dX13_meets_10 : decode cX13_meets 10 = .ok (.ifCond .eq 12, 3) := dz4 dzo153 10 0 12 12 rfl dzbX13_meets_0 rfl
theorem dX13_meets_13 : decode cX13_meets 13 = .ok (.aload_n 0, 1) := dz0 dzo42 13 dzbX13_meets_0 rfl
theorem dX13_meets_14 : decode cX13_meets 14 = .ok (.iload_n 2, 1) := dz0 dzo28 14 dzbX13_meets_0 rfl
theorem dX13_meets_15 : decode cX13_meets 15 = .ok (.iconst 1, 1) := dz0 dzo4 15 dzbX13_meets_0 rfl
theorem dX13_meets_16 : decode cX13_meets 16 = .ok (.invokevirtual 367, 3) := dz2 dzo182 16 1 111 dzbX13_meets_0 rfl
theorem dX13_meets_19 : decode cX13_meets 19 = .ok (.ifCond .ne 6, 3) := dz4 dzo154 19 0 6 6 rfl dzbX13_meets_0 rfl
theorem dX13_meets_22 : decode cX13_meets 22 = .ok (.bipush (-2), 2) := dz3 dzo16 22 254 (-2) rfl dzbX13_meets_0 rfl
theorem dzbX13_meets_24 : dzB cX13_meets 24 [172, 3, 62, 29, 17, 0, 200, 163, 0, 30, 42, 180, 0, 36, 29, 46, 42, 180, 0, 36, 17, 0, 201, 29] := by decide +kernel
theorem dX13_meets_24 : decode cX13_meets 24 = .ok (.ireturn, 1) := dz0 dzo172 0 dzbX13_meets_24 rfl
theorem dX13_meets_25 : decode cX13_meets 25 = .ok (.iconst 0, 1) := dz0 dzo3 1 dzbX13_meets_24 rfl
theorem dX13_meets_26 : decode cX13_meets 26 = .ok (.istore_n 3, 1) := dz0 dzo62 2 dzbX13_meets_24 rfl
theorem dX13_meets_27 : decode cX13_meets 27 = .ok (.iload_n 3, 1) := dz0 dzo29 3 dzbX13_meets_24 rfl
theorem dX13_meets_28 : decode cX13_meets 28 = .ok (.sipush 200, 3) := dz4 dzo17 4 0 200 200 rfl dzbX13_meets_24 rfl
theorem dX13_meets_31 : decode cX13_meets 31 = .ok (.if_icmp .gt 30, 3) := dz4 dzo163 7 0 30 30 rfl dzbX13_meets_24 rfl
theorem dX13_meets_34 : decode cX13_meets 34 = .ok (.aload_n 0, 1) := dz0 dzo42 10 dzbX13_meets_24 rfl
theorem dX13_meets_35 : decode cX13_meets 35 = .ok (.getfield 36, 3) := dz2 dzo180 11 0 36 dzbX13_meets_24 rfl
theorem dX13_meets_38 : decode cX13_meets 38 = .ok (.iload_n 3, 1) := dz0 dzo29 14 dzbX13_meets_24 rfl
theorem dX13_meets_39 : decode cX13_meets 39 = .ok (.iaload, 1) := dz0 dzo46 15 dzbX13_meets_24 rfl
theorem dX13_meets_40 : decode cX13_meets 40 = .ok (.aload_n 0, 1) := dz0 dzo42 16 dzbX13_meets_24 rfl
theorem dX13_meets_41 : decode cX13_meets 41 = .ok (.getfield 36, 3) := dz2 dzo180 17 0 36 dzbX13_meets_24 rfl
theorem dX13_meets_44 : decode cX13_meets 44 = .ok (.sipush 201, 3) := dz4 dzo17 20 0 201 201 rfl dzbX13_meets_24 rfl
theorem dX13_meets_47 : decode cX13_meets 47 = .ok (.iload_n 3, 1) := dz0 dzo29 23 dzbX13_meets_24 rfl
theorem dzbX13_meets_48 : dzB cX13_meets 48 [96, 46, 160, 0, 5, 29, 172, 132, 3, 1, 167, 255, 225, 16, 254, 172] := by decide +kernel
theorem dX13_meets_48 : decode cX13_meets 48 = .ok (.iadd, 1) := dz0 dzo96 0 dzbX13_meets_48 rfl
theorem dX13_meets_49 : decode cX13_meets 49 = .ok (.iaload, 1) := dz0 dzo46 1 dzbX13_meets_48 rfl
theorem dX13_meets_50 : decode cX13_meets 50 = .ok (.if_icmp .ne 5, 3) := dz4 dzo160 2 0 5 5 rfl dzbX13_meets_48 rfl
theorem dX13_meets_53 : decode cX13_meets 53 = .ok (.iload_n 3, 1) := dz0 dzo29 5 dzbX13_meets_48 rfl
theorem dX13_meets_54 : decode cX13_meets 54 = .ok (.ireturn, 1) := dz0 dzo172 6 dzbX13_meets_48 rfl
theorem dX13_meets_55 : decode cX13_meets 55 = .ok (.iinc 3 1, 3) := dz5 dzo132 7 3 1 1 rfl dzbX13_meets_48 rfl
theorem dX13_meets_58 : decode cX13_meets 58 = .ok (.goto (-31), 3) := dz4 dzo167 10 255 225 (-31) rfl dzbX13_meets_48 rfl
theorem dX13_meets_61 : decode cX13_meets 61 = .ok (.bipush (-2), 2) := dz3 dzo16 13 254 (-2) rfl dzbX13_meets_48 rfl
theorem dX13_meets_63 : decode cX13_meets 63 = .ok (.ireturn, 1) := dz0 dzo172 15 dzbX13_meets_48 rfl
theorem dzbX13_minutes_0 : dzB cX13_minutes 0 [42, 3, 181, 0, 42, 42, 27, 28, 29, 182, 1, 58, 54, 4, 21, 4, 158, 0, 10, 42, 21, 4] := by decide +kernel
theorem dX13_minutes_0 : decode cX13_minutes 0 = .ok (.aload_n 0, 1) := dz0 dzo42 0 dzbX13_minutes_0 rfl
theorem dX13_minutes_1 : decode cX13_minutes 1 = .ok (.iconst 0, 1) := dz0 dzo3 1 dzbX13_minutes_0 rfl
theorem dX13_minutes_2 : decode cX13_minutes 2 = .ok (.putfield 42, 3) := dz2 dzo181 2 0 42 dzbX13_minutes_0 rfl
theorem dX13_minutes_5 : decode cX13_minutes 5 = .ok (.aload_n 0, 1) := dz0 dzo42 5 dzbX13_minutes_0 rfl
theorem dX13_minutes_6 : decode cX13_minutes 6 = .ok (.iload_n 1, 1) := dz0 dzo27 6 dzbX13_minutes_0 rfl
theorem dX13_minutes_7 : decode cX13_minutes 7 = .ok (.iload_n 2, 1) := dz0 dzo28 7 dzbX13_minutes_0 rfl
theorem dX13_minutes_8 : decode cX13_minutes 8 = .ok (.iload_n 3, 1) := dz0 dzo29 8 dzbX13_minutes_0 rfl
theorem dX13_minutes_9 : decode cX13_minutes 9 = .ok (.invokevirtual 314, 3) := dz2 dzo182 9 1 58 dzbX13_minutes_0 rfl
theorem dX13_minutes_12 : decode cX13_minutes 12 = .ok (.istore 4, 2) := dz1 dzo54 12 4 dzbX13_minutes_0 rfl
theorem dX13_minutes_14 : decode cX13_minutes 14 = .ok (.iload 4, 2) := dz1 dzo21 14 4 dzbX13_minutes_0 rfl
theorem dX13_minutes_16 : decode cX13_minutes 16 = .ok (.ifCond .le 10, 3) := dz4 dzo158 16 0 10 10 rfl dzbX13_minutes_0 rfl
theorem dX13_minutes_19 : decode cX13_minutes 19 = .ok (.aload_n 0, 1) := dz0 dzo42 19 dzbX13_minutes_0 rfl
theorem dX13_minutes_20 : decode cX13_minutes 20 = .ok (.iload 4, 2) := dz1 dzo21 20 4 dzbX13_minutes_0 rfl
theorem dzbX13_minutes_22 : dzB cX13_minutes 22 [182, 0, 48, 172, 42, 182, 1, 61, 42, 42, 42, 180, 1, 13, 180, 0, 238, 27, 46, 28, 29, 182, 1, 33] := by decide +kernel
theorem dX13_minutes_22 : decode cX13_minutes 22 = .ok (.invokevirtual 48, 3) := dz2 dzo182 0 0 48 dzbX13_minutes_22 rfl
theorem dX13_minutes_25 : decode cX13_minutes 25 = .ok (.ireturn, 1) := dz0 dzo172 3 dzbX13_minutes_22 rfl
theorem dX13_minutes_26 : decode cX13_minutes 26 = .ok (.aload_n 0, 1) := dz0 dzo42 4 dzbX13_minutes_22 rfl
theorem dX13_minutes_27 : decode cX13_minutes 27 = .ok (.invokevirtual 317, 3) := dz2 dzo182 5 1 61 dzbX13_minutes_22 rfl
theorem dX13_minutes_30 : decode cX13_minutes 30 = .ok (.aload_n 0, 1) := dz0 dzo42 8 dzbX13_minutes_22 rfl
theorem dX13_minutes_31 : decode cX13_minutes 31 = .ok (.aload_n 0, 1) := dz0 dzo42 9 dzbX13_minutes_22 rfl
theorem dX13_minutes_32 : decode cX13_minutes 32 = .ok (.aload_n 0, 1) := dz0 dzo42 10 dzbX13_minutes_22 rfl
theorem dX13_minutes_33 : decode cX13_minutes 33 = .ok (.getfield 269, 3) := dz2 dzo180 11 1 13 dzbX13_minutes_22 rfl
theorem dX13_minutes_36 : decode cX13_minutes 36 = .ok (.getfield 238, 3) := dz2 dzo180 14 0 238 dzbX13_minutes_22 rfl
theorem dX13_minutes_39 : decode cX13_minutes 39 = .ok (.iload_n 1, 1) := dz0 dzo27 17 dzbX13_minutes_22 rfl
theorem dX13_minutes_40 : decode cX13_minutes 40 = .ok (.iaload, 1) := dz0 dzo46 18 dzbX13_minutes_22 rfl
theorem dX13_minutes_41 : decode cX13_minutes 41 = .ok (.iload_n 2, 1) := dz0 dzo28 19 dzbX13_minutes_22 rfl
theorem dX13_minutes_42 : decode cX13_minutes 42 = .ok (.iload_n 3, 1) := dz0 dzo29 20 dzbX13_minutes_22 rfl
theorem dX13_minutes_43 : decode cX13_minutes 43 = .ok (.invokevirtual 289, 3) := dz2 dzo182 21 1 33 dzbX13_minutes_22 rfl
theorem dzbX13_minutes_46 : dzB cX13_minutes 46 [182, 0, 52, 172] := by decide +kernel
theorem dX13_minutes_46 : decode cX13_minutes 46 = .ok (.invokevirtual 52, 3) := dz2 dzo182 0 0 52 dzbX13_minutes_46 rfl
theorem dX13_minutes_49 : decode cX13_minutes 49 = .ok (.ireturn, 1) := dz0 dzo172 3 dzbX13_minutes_46 rfl
theorem dzbX13_minutesTo_0 : dzB cX13_minutesTo 0 [42, 3, 181, 0, 42, 42, 27, 182, 1, 55, 153, 0, 11, 42, 28, 182, 1, 46, 154, 0, 9, 42, 4] := by decide +kernel
theorem dX13_minutesTo_0 : decode cX13_minutesTo 0 = .ok (.aload_n 0, 1) := dz0 dzo42 0 dzbX13_minutesTo_0 rfl
theorem dX13_minutesTo_1 : decode cX13_minutesTo 1 = .ok (.iconst 0, 1) := dz0 dzo3 1 dzbX13_minutesTo_0 rfl
theorem dX13_minutesTo_2 : decode cX13_minutesTo 2 = .ok (.putfield 42, 3) := dz2 dzo181 2 0 42 dzbX13_minutesTo_0 rfl
theorem dX13_minutesTo_5 : decode cX13_minutesTo 5 = .ok (.aload_n 0, 1) := dz0 dzo42 5 dzbX13_minutesTo_0 rfl
theorem dX13_minutesTo_6 : decode cX13_minutesTo 6 = .ok (.iload_n 1, 1) := dz0 dzo27 6 dzbX13_minutesTo_0 rfl
theorem dX13_minutesTo_7 : decode cX13_minutesTo 7 = .ok (.invokevirtual 311, 3) := dz2 dzo182 7 1 55 dzbX13_minutesTo_0 rfl
theorem dX13_minutesTo_10 : decode cX13_minutesTo 10 = .ok (.ifCond .eq 11, 3) := dz4 dzo153 10 0 11 11 rfl dzbX13_minutesTo_0 rfl
theorem dX13_minutesTo_13 : decode cX13_minutesTo 13 = .ok (.aload_n 0, 1) := dz0 dzo42 13 dzbX13_minutesTo_0 rfl
theorem dX13_minutesTo_14 : decode cX13_minutesTo 14 = .ok (.iload_n 2, 1) := dz0 dzo28 14 dzbX13_minutesTo_0 rfl
theorem dX13_minutesTo_15 : decode cX13_minutesTo 15 = .ok (.invokevirtual 302, 3) := dz2 dzo182 15 1 46 dzbX13_minutesTo_0 rfl
theorem dX13_minutesTo_18 : decode cX13_minutesTo 18 = .ok (.ifCond .ne 9, 3) := dz4 dzo154 18 0 9 9 rfl dzbX13_minutesTo_0 rfl
theorem dX13_minutesTo_21 : decode cX13_minutesTo 21 = .ok (.aload_n 0, 1) := dz0 dzo42 21 dzbX13_minutesTo_0 rfl
theorem dX13_minutesTo_22 : decode cX13_minutesTo 22 = .ok (.iconst 1, 1) := dz0 dzo4 22 dzbX13_minutesTo_0 rfl
theorem dzbX13_minutesTo_23 : dzB cX13_minutesTo 23 [182, 0, 48, 172, 42, 182, 1, 61, 42, 27, 182, 1, 82, 42, 42, 180, 0, 33, 28, 46, 19, 1, 37] := by decide +kernel
theorem dX13_minutesTo_23 : decode cX13_minutesTo 23 = .ok (.invokevirtual 48, 3) := dz2 dzo182 0 0 48 dzbX13_minutesTo_23 rfl
theorem dX13_minutesTo_26 : decode cX13_minutesTo 26 = .ok (.ireturn, 1) := dz0 dzo172 3 dzbX13_minutesTo_23 rfl
theorem dX13_minutesTo_27 : decode cX13_minutesTo 27 = .ok (.aload_n 0, 1) := dz0 dzo42 4 dzbX13_minutesTo_23 rfl
theorem dX13_minutesTo_28 : decode cX13_minutesTo 28 = .ok (.invokevirtual 317, 3) := dz2 dzo182 5 1 61 dzbX13_minutesTo_23 rfl
theorem dX13_minutesTo_31 : decode cX13_minutesTo 31 = .ok (.aload_n 0, 1) := dz0 dzo42 8 dzbX13_minutesTo_23 rfl
theorem dX13_minutesTo_32 : decode cX13_minutesTo 32 = .ok (.iload_n 1, 1) := dz0 dzo27 9 dzbX13_minutesTo_23 rfl
theorem dX13_minutesTo_33 : decode cX13_minutesTo 33 = .ok (.invokevirtual 338, 3) := dz2 dzo182 10 1 82 dzbX13_minutesTo_23 rfl
theorem dX13_minutesTo_36 : decode cX13_minutesTo 36 = .ok (.aload_n 0, 1) := dz0 dzo42 13 dzbX13_minutesTo_23 rfl
theorem dX13_minutesTo_37 : decode cX13_minutesTo 37 = .ok (.aload_n 0, 1) := dz0 dzo42 14 dzbX13_minutesTo_23 rfl
theorem dX13_minutesTo_38 : decode cX13_minutesTo 38 = .ok (.getfield 33, 3) := dz2 dzo180 15 0 33 dzbX13_minutesTo_23 rfl
theorem dX13_minutesTo_41 : decode cX13_minutesTo 41 = .ok (.iload_n 2, 1) := dz0 dzo28 18 dzbX13_minutesTo_23 rfl
theorem dX13_minutesTo_42 : decode cX13_minutesTo 42 = .ok (.iaload, 1) := dz0 dzo46 19 dzbX13_minutesTo_23 rfl
theorem dX13_minutesTo_43 : decode cX13_minutesTo 43 = .ok (.ldc_w 293, 3) := dz2 dzo19 20 1 37 dzbX13_minutesTo_23 rfl
theorem dzbX13_minutesTo_46 : dzB cX13_minutesTo 46 [160, 0, 8, 16, 254, 167, 0, 9, 42, 180, 0, 33, 28, 46, 182, 0, 52, 172] := by decide +kernel
theorem dX13_minutesTo_46 : decode cX13_minutesTo 46 = .ok (.if_icmp .ne 8, 3) := dz4 dzo160 0 0 8 8 rfl dzbX13_minutesTo_46 rfl
theorem dX13_minutesTo_49 : decode cX13_minutesTo 49 = .ok (.bipush (-2), 2) := dz3 dzo16 3 254 (-2) rfl dzbX13_minutesTo_46 rfl
theorem dX13_minutesTo_51 : decode cX13_minutesTo 51 = .ok (.goto 9, 3) := dz4 dzo167 5 0 9 9 rfl dzbX13_minutesTo_46 rfl
theorem dX13_minutesTo_54 : decode cX13_minutesTo 54 = .ok (.aload_n 0, 1) := dz0 dzo42 8 dzbX13_minutesTo_46 rfl
theorem dX13_minutesTo_55 : decode cX13_minutesTo 55 = .ok (.getfield 33, 3) := dz2 dzo180 9 0 33 dzbX13_minutesTo_46 rfl
theorem dX13_minutesTo_58 : decode cX13_minutesTo 58 = .ok (.iload_n 2, 1) := dz0 dzo28 12 dzbX13_minutesTo_46 rfl
theorem dX13_minutesTo_59 : decode cX13_minutesTo 59 = .ok (.iaload, 1) := dz0 dzo46 13 dzbX13_minutesTo_46 rfl
theorem dX13_minutesTo_60 : decode cX13_minutesTo 60 = .ok (.invokevirtual 52, 3) := dz2 dzo182 14 0 52 dzbX13_minutesTo_46 rfl
theorem dX13_minutesTo_63 : decode cX13_minutesTo 63 = .ok (.ireturn, 1) := dz0 dzo172 17 dzbX13_minutesTo_46 rfl
theorem dzbX13_needs_0 : dzB cX13_needs 0 [42, 43, 182, 0, 116, 154, 0, 8, 42, 4, 182, 0, 120, 42, 182, 0, 113, 177] := by decide +kernel
theorem dX13_needs_0 : decode cX13_needs 0 = .ok (.aload_n 0, 1) := dz0 dzo42 0 dzbX13_needs_0 rfl
theorem dX13_needs_1 : decode cX13_needs 1 = .ok (.aload_n 1, 1) := dz0 dzo43 1 dzbX13_needs_0 rfl
theorem dX13_needs_2 : decode cX13_needs 2 = .ok (.invokevirtual 116, 3) := dz2 dzo182 2 0 116 dzbX13_needs_0 rfl
theorem dX13_needs_5 : decode cX13_needs 5 = .ok (.ifCond .ne 8, 3) := dz4 dzo154 5 0 8 8 rfl dzbX13_needs_0 rfl
theorem dX13_needs_8 : decode cX13_needs 8 = .ok (.aload_n 0, 1) := dz0 dzo42 8 dzbX13_needs_0 rfl
theorem dX13_needs_9 : decode cX13_needs 9 = .ok (.iconst 1, 1) := dz0 dzo4 9 dzbX13_needs_0 rfl
theorem dX13_needs_10 : decode cX13_needs 10 = .ok (.invokevirtual 120, 3) := dz2 dzo182 10 0 120 dzbX13_needs_0 rfl
theorem dX13_needs_13 : decode cX13_needs 13 = .ok (.aload_n 0, 1) := dz0 dzo42 13 dzbX13_needs_0 rfl
theorem dX13_needs_14 : decode cX13_needs 14 = .ok (.invokevirtual 113, 3) := dz2 dzo182 14 0 113 dzbX13_needs_0 rfl
theorem dX13_needs_17 : decode cX13_needs 17 = .ok (.return_, 1) := dz0 dzo177 17 dzbX13_needs_0 rfl
theorem dzbX13_odds_0 : dzB cX13_odds 0 [42, 3, 181, 0, 42, 42, 180, 1, 13, 198, 0, 18, 27, 155, 0, 14, 27, 42, 180, 1, 13, 180, 0, 195] := by decide +kernel
theorem dX13_odds_0 : decode cX13_odds 0 = .ok (.aload_n 0, 1) := dz0 dzo42 0 dzbX13_odds_0 rfl
theorem dX13_odds_1 : decode cX13_odds 1 = .ok (.iconst 0, 1) := dz0 dzo3 1 dzbX13_odds_0 rfl
theorem dX13_odds_2 : decode cX13_odds 2 = .ok (.putfield 42, 3) := dz2 dzo181 2 0 42 dzbX13_odds_0 rfl
theorem dX13_odds_5 : decode cX13_odds 5 = .ok (.aload_n 0, 1) := dz0 dzo42 5 dzbX13_odds_0 rfl
theorem dX13_odds_6 : decode cX13_odds 6 = .ok (.getfield 269, 3) := dz2 dzo180 6 1 13 dzbX13_odds_0 rfl
theorem dX13_odds_9 : decode cX13_odds 9 = .ok (.ifnull 18, 3) := dz4 dzo198 9 0 18 18 rfl dzbX13_odds_0 rfl
theorem dX13_odds_12 : decode cX13_odds 12 = .ok (.iload_n 1, 1) := dz0 dzo27 12 dzbX13_odds_0 rfl
theorem dX13_odds_13 : decode cX13_odds 13 = .ok (.ifCond .lt 14, 3) := dz4 dzo155 13 0 14 14 rfl dzbX13_odds_0 rfl
theorem dX13_odds_16 : decode cX13_odds 16 = .ok (.iload_n 1, 1) := dz0 dzo27 16 dzbX13_odds_0 rfl
theorem dX13_odds_17 : decode cX13_odds 17 = .ok (.aload_n 0, 1) := dz0 dzo42 17 dzbX13_odds_0 rfl
theorem dX13_odds_18 : decode cX13_odds 18 = .ok (.getfield 269, 3) := dz2 dzo180 18 1 13 dzbX13_odds_0 rfl
theorem dX13_odds_21 : decode cX13_odds 21 = .ok (.getfield 195, 3) := dz2 dzo180 21 0 195 dzbX13_odds_0 rfl
theorem dzbX13_odds_24 : dzB cX13_odds 24 [161, 0, 10, 42, 4, 182, 0, 48, 133, 173, 9, 66, 9, 55, 5, 3, 54, 7, 21, 7, 42, 182, 1, 129] := by decide +kernel
theorem dX13_odds_24 : decode cX13_odds 24 = .ok (.if_icmp .lt 10, 3) := dz4 dzo161 0 0 10 10 rfl dzbX13_odds_24 rfl
theorem dX13_odds_27 : decode cX13_odds 27 = .ok (.aload_n 0, 1) := dz0 dzo42 3 dzbX13_odds_24 rfl
theorem dX13_odds_28 : decode cX13_odds 28 = .ok (.iconst 1, 1) := dz0 dzo4 4 dzbX13_odds_24 rfl
theorem dX13_odds_29 : decode cX13_odds 29 = .ok (.invokevirtual 48, 3) := dz2 dzo182 5 0 48 dzbX13_odds_24 rfl
theorem dX13_odds_32 : decode cX13_odds 32 = .ok (.i2l, 1) := dz0 dzo133 8 dzbX13_odds_24 rfl
theorem dX13_odds_33 : decode cX13_odds 33 = .ok (.lreturn, 1) := dz0 dzo173 9 dzbX13_odds_24 rfl
theorem dX13_odds_34 : decode cX13_odds 34 = .ok (.lconst 0, 1) := dz0 dzo9 10 dzbX13_odds_24 rfl
theorem dX13_odds_35 : decode cX13_odds 35 = .ok (.lstore_n 3, 1) := dz0 dzo66 11 dzbX13_odds_24 rfl
theorem dX13_odds_36 : decode cX13_odds 36 = .ok (.lconst 0, 1) := dz0 dzo9 12 dzbX13_odds_24 rfl
theorem dX13_odds_37 : decode cX13_odds 37 = .ok (.lstore 5, 2) := dz1 dzo55 13 5 dzbX13_odds_24 rfl
theorem dX13_odds_39 : decode cX13_odds 39 = .ok (.iconst 0, 1) := dz0 dzo3 15 dzbX13_odds_24 rfl
theorem dX13_odds_40 : decode cX13_odds 40 = .ok (.istore 7, 2) := dz1 dzo54 16 7 dzbX13_odds_24 rfl
theorem dX13_odds_42 : decode cX13_odds 42 = .ok (.iload 7, 2) := dz1 dzo21 18 7 dzbX13_odds_24 rfl
theorem dX13_odds_44 : decode cX13_odds 44 = .ok (.aload_n 0, 1) := dz0 dzo42 20 dzbX13_odds_24 rfl
theorem dX13_odds_45 : decode cX13_odds 45 = .ok (.invokevirtual 385, 3) := dz2 dzo182 21 1 129 dzbX13_odds_24 rfl
theorem dzbX13_odds_48 : dzB cX13_odds 48 [162, 0, 42, 22, 5, 42, 21, 7, 182, 1, 132, 97, 55, 5, 33, 21, 7, 27, 184, 1, 89, 153, 0, 12] := by decide +kernel
theorem dX13_odds_48 : decode cX13_odds 48 = .ok (.if_icmp .ge 42, 3) := dz4 dzo162 0 0 42 42 rfl dzbX13_odds_48 rfl
theorem dX13_odds_51 : decode cX13_odds 51 = .ok (.lload 5, 2) := dz1 dzo22 3 5 dzbX13_odds_48 rfl
theorem dX13_odds_53 : decode cX13_odds 53 = .ok (.aload_n 0, 1) := dz0 dzo42 5 dzbX13_odds_48 rfl
theorem dX13_odds_54 : decode cX13_odds 54 = .ok (.iload 7, 2) := dz1 dzo21 6 7 dzbX13_odds_48 rfl
theorem dX13_odds_56 : decode cX13_odds 56 = .ok (.invokevirtual 388, 3) := dz2 dzo182 8 1 132 dzbX13_odds_48 rfl
theorem dX13_odds_59 : decode cX13_odds 59 = .ok (.ladd, 1) := dz0 dzo97 11 dzbX13_odds_48 rfl
theorem dX13_odds_60 : decode cX13_odds 60 = .ok (.lstore 5, 2) := dz1 dzo55 12 5 dzbX13_odds_48 rfl
theorem dX13_odds_62 : decode cX13_odds 62 = .ok (.lload_n 3, 1) := dz0 dzo33 14 dzbX13_odds_48 rfl
theorem dX13_odds_63 : decode cX13_odds 63 = .ok (.iload 7, 2) := dz1 dzo21 15 7 dzbX13_odds_48 rfl
theorem dX13_odds_65 : decode cX13_odds 65 = .ok (.iload_n 1, 1) := dz0 dzo27 17 dzbX13_odds_48 rfl
theorem dX13_odds_66 : decode cX13_odds 66 = .ok (.invokestatic 345, 3) := dz2 dzo184 18 1 89 dzbX13_odds_48 rfl
theorem dX13_odds_69 : decode cX13_odds 69 = .ok (.ifCond .eq 12, 3) := dz4 dzo153 21 0 12 12 rfl dzbX13_odds_48 rfl
theorem dzbX13_odds_72 : dzB cX13_odds 72 [42, 21, 7, 182, 1, 132, 167, 0, 4] := by decide +kernel
theorem dX13_odds_72 : decode cX13_odds 72 = .ok (.aload_n 0, 1) := dz0 dzo42 0 dzbX13_odds_72 rfl
theorem dX13_odds_73 : decode cX13_odds 73 = .ok (.iload 7, 2) := dz1 dzo21 1 7 dzbX13_odds_72 rfl
theorem dX13_odds_75 : decode cX13_odds 75 = .ok (.invokevirtual 388, 3) := dz2 dzo182 3 1 132 dzbX13_odds_72 rfl
theorem dX13_odds_78 : decode cX13_odds 78 = .ok (.goto 4, 3) := dz4 dzo167 6 0 4 4 rfl dzbX13_odds_72 rfl
