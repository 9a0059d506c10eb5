theorem dzbX0_begin_0 : dzB cX0_begin 0 [42, 180, 0, 12, 43, 28, 4, 182, 0, 18, 42, 43, 4, 182, 0, 22, 181, 0, 28, 42, 29, 181, 0, 32] := by decide +kernel
theorem dX0_begin_0 : decode cX0_begin 0 = .ok (.aload_n 0, 1) := dz0 dzo42 0 dzbX0_begin_0 rfl
theorem dX0_begin_1 : decode cX0_begin 1 = .ok (.getfield 12, 3) := dz2 dzo180 1 0 12 dzbX0_begin_0 rfl
theorem dX0_begin_4 : decode cX0_begin 4 = .ok (.aload_n 1, 1) := dz0 dzo43 4 dzbX0_begin_0 rfl
theorem dX0_begin_5 : decode cX0_begin 5 = .ok (.iload_n 2, 1) := dz0 dzo28 5 dzbX0_begin_0 rfl
theorem dX0_begin_6 : decode cX0_begin 6 = .ok (.iconst 1, 1) := dz0 dzo4 6 dzbX0_begin_0 rfl
theorem dX0_begin_7 : decode cX0_begin 7 = .ok (.invokevirtual 18, 3) := dz2 dzo182 7 0 18 dzbX0_begin_0 rfl
theorem dX0_begin_10 : decode cX0_begin 10 = .ok (.aload_n 0, 1) := dz0 dzo42 10 dzbX0_begin_0 rfl
theorem dX0_begin_11 : decode cX0_begin 11 = .ok (.aload_n 1, 1) := dz0 dzo43 11 dzbX0_begin_0 rfl
theorem dX0_begin_12 : decode cX0_begin 12 = .ok (.iconst 1, 1) := dz0 dzo4 12 dzbX0_begin_0 rfl
theorem dX0_begin_13 : decode cX0_begin 13 = .ok (.invokevirtual 22, 3) := dz2 dzo182 13 0 22 dzbX0_begin_0 rfl
theorem dX0_begin_16 : decode cX0_begin 16 = .ok (.putfield 28, 3) := dz2 dzo181 16 0 28 dzbX0_begin_0 rfl
theorem dX0_begin_19 : decode cX0_begin 19 = .ok (.aload_n 0, 1) := dz0 dzo42 19 dzbX0_begin_0 rfl
theorem dX0_begin_20 : decode cX0_begin 20 = .ok (.iload_n 3, 1) := dz0 dzo29 20 dzbX0_begin_0 rfl
theorem dX0_begin_21 : decode cX0_begin 21 = .ok (.putfield 32, 3) := dz2 dzo181 21 0 32 dzbX0_begin_0 rfl
theorem dzbX0_begin_24 : dzB cX0_begin 24 [42, 21, 4, 181, 0, 35, 177] := by decide +kernel
theorem dX0_begin_24 : decode cX0_begin 24 = .ok (.aload_n 0, 1) := dz0 dzo42 0 dzbX0_begin_24 rfl
theorem dX0_begin_25 : decode cX0_begin 25 = .ok (.iload 4, 2) := dz1 dzo21 1 4 dzbX0_begin_24 rfl
theorem dX0_begin_27 : decode cX0_begin 27 = .ok (.putfield 35, 3) := dz2 dzo181 3 0 35 dzbX0_begin_24 rfl
theorem dX0_begin_30 : decode cX0_begin 30 = .ok (.return_, 1) := dz0 dzo177 6 dzbX0_begin_24 rfl
theorem dzbX0_init_0 : dzB cX0_init 0 [42, 183, 0, 3, 42, 187, 0, 9, 89, 183, 0, 11, 181, 0, 12, 177] := by decide +kernel
theorem dX0_init_0 : decode cX0_init 0 = .ok (.aload_n 0, 1) := dz0 dzo42 0 dzbX0_init_0 rfl
theorem dX0_init_1 : decode cX0_init 1 = .ok (.invokespecial 3, 3) := dz2 dzo183 1 0 3 dzbX0_init_0 rfl
theorem dX0_init_4 : decode cX0_init 4 = .ok (.aload_n 0, 1) := dz0 dzo42 4 dzbX0_init_0 rfl
theorem dX0_init_5 : decode cX0_init 5 = .ok (.new 9, 3) := dz2 dzo187 5 0 9 dzbX0_init_0 rfl
theorem dX0_init_8 : decode cX0_init 8 = .ok (.dup, 1) := dz0 dzo89 8 dzbX0_init_0 rfl
theorem dX0_init_9 : decode cX0_init 9 = .ok (.invokespecial 11, 3) := dz2 dzo183 9 0 11 dzbX0_init_0 rfl
theorem dX0_init_12 : decode cX0_init 12 = .ok (.putfield 12, 3) := dz2 dzo181 12 0 12 dzbX0_init_0 rfl
theorem dX0_init_15 : decode cX0_init 15 = .ok (.return_, 1) := dz0 dzo177 15 dzbX0_init_0 rfl
theorem dzbX0_worksBy_0 : dzB cX0_worksBy 0 [42, 180, 0, 12, 42, 180, 0, 32, 42, 180, 0, 35, 42, 180, 0, 28, 27, 182, 0, 38, 154, 0, 7, 4] := by decide +kernel
theorem dX0_worksBy_0 : decode cX0_worksBy 0 = .ok (.aload_n 0, 1) := dz0 dzo42 0 dzbX0_worksBy_0 rfl
theorem dX0_worksBy_1 : decode cX0_worksBy 1 = .ok (.getfield 12, 3) := dz2 dzo180 1 0 12 dzbX0_worksBy_0 rfl
theorem dX0_worksBy_4 : decode cX0_worksBy 4 = .ok (.aload_n 0, 1) := dz0 dzo42 4 dzbX0_worksBy_0 rfl
theorem dX0_worksBy_5 : decode cX0_worksBy 5 = .ok (.getfield 32, 3) := dz2 dzo180 5 0 32 dzbX0_worksBy_0 rfl
theorem dX0_worksBy_8 : decode cX0_worksBy 8 = .ok (.aload_n 0, 1) := dz0 dzo42 8 dzbX0_worksBy_0 rfl
theorem dX0_worksBy_9 : decode cX0_worksBy 9 = .ok (.getfield 35, 3) := dz2 dzo180 9 0 35 dzbX0_worksBy_0 rfl
theorem dX0_worksBy_12 : decode cX0_worksBy 12 = .ok (.aload_n 0, 1) := dz0 dzo42 12 dzbX0_worksBy_0 rfl
theorem dX0_worksBy_13 : decode cX0_worksBy 13 = .ok (.getfield 28, 3) := dz2 dzo180 13 0 28 dzbX0_worksBy_0 rfl
theorem dX0_worksBy_16 : decode cX0_worksBy 16 = .ok (.iload_n 1, 1) := dz0 dzo27 16 dzbX0_worksBy_0 rfl
theorem dX0_worksBy_17 : decode cX0_worksBy 17 = .ok (.invokevirtual 38, 3) := dz2 dzo182 17 0 38 dzbX0_worksBy_0 rfl
theorem dX0_worksBy_20 : decode cX0_worksBy 20 = .ok (.ifCond .ne 7, 3) := dz4 dzo154 20 0 7 7 rfl dzbX0_worksBy_0 rfl
theorem dX0_worksBy_23 : decode cX0_worksBy 23 = .ok (.iconst 1, 1) := dz0 dzo4 23 dzbX0_worksBy_0 rfl
theorem dzbX0_worksBy_24 : dzB cX0_worksBy 24 [167, 0, 4, 3, 172] := by decide +kernel
theorem dX0_worksBy_24 : decode cX0_worksBy 24 = .ok (.goto 4, 3) := dz4 dzo167 0 0 4 4 rfl dzbX0_worksBy_24 rfl
theorem dX0_worksBy_27 : decode cX0_worksBy 27 = .ok (.iconst 0, 1) := dz0 dzo3 3 dzbX0_worksBy_24 rfl
theorem dX0_worksBy_28 : decode cX0_worksBy 28 = .ok (.ireturn, 1) := dz0 dzo172 4 dzbX0_worksBy_24 rfl
theorem dzbX10_find_0 : dzB cX10_find 0 [42, 3, 181, 0, 30, 42, 3, 181, 0, 34, 42, 180, 0, 24, 3, 29, 79, 42, 180, 0, 27, 3, 3, 79] := by decide +kernel
theorem dX10_find_0 : decode cX10_find 0 = .ok (.aload_n 0, 1) := dz0 dzo42 0 dzbX10_find_0 rfl
theorem dX10_find_1 : decode cX10_find 1 = .ok (.iconst 0, 1) := dz0 dzo3 1 dzbX10_find_0 rfl
theorem dX10_find_2 : decode cX10_find 2 = .ok (.putfield 30, 3) := dz2 dzo181 2 0 30 dzbX10_find_0 rfl
theorem dX10_find_5 : decode cX10_find 5 = .ok (.aload_n 0, 1) := dz0 dzo42 5 dzbX10_find_0 rfl
theorem dX10_find_6 : decode cX10_find 6 = .ok (.iconst 0, 1) := dz0 dzo3 6 dzbX10_find_0 rfl
theorem dX10_find_7 : decode cX10_find 7 = .ok (.putfield 34, 3) := dz2 dzo181 7 0 34 dzbX10_find_0 rfl
theorem dX10_find_10 : decode cX10_find 10 = .ok (.aload_n 0, 1) := dz0 dzo42 10 dzbX10_find_0 rfl
theorem dX10_find_11 : decode cX10_find 11 = .ok (.getfield 24, 3) := dz2 dzo180 11 0 24 dzbX10_find_0 rfl
theorem dX10_find_14 : decode cX10_find 14 = .ok (.iconst 0, 1) := dz0 dzo3 14 dzbX10_find_0 rfl
theorem dX10_find_15 : decode cX10_find 15 = .ok (.iload_n 3, 1) := dz0 dzo29 15 dzbX10_find_0 rfl
theorem dX10_find_16 : decode cX10_find 16 = .ok (.iastore, 1) := dz0 dzo79 16 dzbX10_find_0 rfl
theorem dX10_find_17 : decode cX10_find 17 = .ok (.aload_n 0, 1) := dz0 dzo42 17 dzbX10_find_0 rfl
theorem dX10_find_18 : decode cX10_find 18 = .ok (.getfield 27, 3) := dz2 dzo180 18 0 27 dzbX10_find_0 rfl
theorem dX10_find_21 : decode cX10_find 21 = .ok (.iconst 0, 1) := dz0 dzo3 21 dzbX10_find_0 rfl
theorem dX10_find_22 : decode cX10_find 22 = .ok (.iconst 0, 1) := dz0 dzo3 22 dzbX10_find_0 rfl
theorem dX10_find_23 : decode cX10_find 23 = .ok (.iastore, 1) := dz0 dzo79 23 dzbX10_find_0 rfl
theorem dzbX10_find_24 : dzB cX10_find 24 [43, 29, 182, 0, 37, 153, 0, 12, 43, 21, 4, 182, 0, 37, 154, 0, 5, 3, 172, 42, 43, 28, 21, 5] := by decide +kernel
theorem dX10_find_24 : decode cX10_find 24 = .ok (.aload_n 1, 1) := dz0 dzo43 0 dzbX10_find_24 rfl
theorem dX10_find_25 : decode cX10_find 25 = .ok (.iload_n 3, 1) := dz0 dzo29 1 dzbX10_find_24 rfl
theorem dX10_find_26 : decode cX10_find 26 = .ok (.invokevirtual 37, 3) := dz2 dzo182 2 0 37 dzbX10_find_24 rfl
theorem dX10_find_29 : decode cX10_find 29 = .ok (.ifCond .eq 12, 3) := dz4 dzo153 5 0 12 12 rfl dzbX10_find_24 rfl
theorem dX10_find_32 : decode cX10_find 32 = .ok (.aload_n 1, 1) := dz0 dzo43 8 dzbX10_find_24 rfl
theorem dX10_find_33 : decode cX10_find 33 = .ok (.iload 4, 2) := dz1 dzo21 9 4 dzbX10_find_24 rfl
theorem dX10_find_35 : decode cX10_find 35 = .ok (.invokevirtual 37, 3) := dz2 dzo182 11 0 37 dzbX10_find_24 rfl
theorem dX10_find_38 : decode cX10_find 38 = .ok (.ifCond .ne 5, 3) := dz4 dzo154 14 0 5 5 rfl dzbX10_find_24 rfl
theorem dX10_find_41 : decode cX10_find 41 = .ok (.iconst 0, 1) := dz0 dzo3 17 dzbX10_find_24 rfl
theorem dX10_find_42 : decode cX10_find 42 = .ok (.ireturn, 1) := dz0 dzo172 18 dzbX10_find_24 rfl
theorem dX10_find_43 : decode cX10_find 43 = .ok (.aload_n 0, 1) := dz0 dzo42 19 dzbX10_find_24 rfl
theorem dX10_find_44 : decode cX10_find 44 = .ok (.aload_n 1, 1) := dz0 dzo43 20 dzbX10_find_24 rfl
theorem dX10_find_45 : decode cX10_find 45 = .ok (.iload_n 2, 1) := dz0 dzo28 21 dzbX10_find_24 rfl
theorem dX10_find_46 : decode cX10_find 46 = .ok (.iload 5, 2) := dz1 dzo21 22 5 dzbX10_find_24 rfl
theorem dzbX10_find_48 : dzB cX10_find 48 [182, 0, 43, 42, 43, 180, 0, 47, 21, 4, 182, 0, 50, 42, 180, 0, 18, 29, 46, 18, 54, 161, 0, 5] := by decide +kernel
theorem dX10_find_48 : decode cX10_find 48 = .ok (.invokevirtual 43, 3) := dz2 dzo182 0 0 43 dzbX10_find_48 rfl
theorem dX10_find_51 : decode cX10_find 51 = .ok (.aload_n 0, 1) := dz0 dzo42 3 dzbX10_find_48 rfl
theorem dX10_find_52 : decode cX10_find 52 = .ok (.aload_n 1, 1) := dz0 dzo43 4 dzbX10_find_48 rfl
theorem dX10_find_53 : decode cX10_find 53 = .ok (.getfield 47, 3) := dz2 dzo180 5 0 47 dzbX10_find_48 rfl
theorem dX10_find_56 : decode cX10_find 56 = .ok (.iload 4, 2) := dz1 dzo21 8 4 dzbX10_find_48 rfl
theorem dX10_find_58 : decode cX10_find 58 = .ok (.invokevirtual 50, 3) := dz2 dzo182 10 0 50 dzbX10_find_48 rfl
theorem dX10_find_61 : decode cX10_find 61 = .ok (.aload_n 0, 1) := dz0 dzo42 13 dzbX10_find_48 rfl
theorem dX10_find_62 : decode cX10_find 62 = .ok (.getfield 18, 3) := dz2 dzo180 14 0 18 dzbX10_find_48 rfl
theorem dX10_find_65 : decode cX10_find 65 = .ok (.iload_n 3, 1) := dz0 dzo29 17 dzbX10_find_48 rfl
theorem dX10_find_66 : decode cX10_find 66 = .ok (.iaload, 1) := dz0 dzo46 18 dzbX10_find_48 rfl
theorem dX10_find_67 : decode cX10_find 67 = .ok (.ldc 54, 2) := dz1 dzo18 19 54 dzbX10_find_48 rfl
theorem dX10_find_69 : decode cX10_find 69 = .ok (.if_icmp .lt 5, 3) := dz4 dzo161 21 0 5 5 rfl dzbX10_find_48 rfl
theorem dzbX10_find_72 : dzB cX10_find 72 [3, 172, 42, 43, 28, 21, 4, 182, 0, 55, 4, 172] := by decide +kernel
theorem dX10_find_72 : decode cX10_find 72 = .ok (.iconst 0, 1) := dz0 dzo3 0 dzbX10_find_72 rfl
theorem dX10_find_73 : decode cX10_find 73 = .ok (.ireturn, 1) := dz0 dzo172 1 dzbX10_find_72 rfl
theorem dX10_find_74 : decode cX10_find 74 = .ok (.aload_n 0, 1) := dz0 dzo42 2 dzbX10_find_72 rfl
theorem dX10_find_75 : decode cX10_find 75 = .ok (.aload_n 1, 1) := dz0 dzo43 3 dzbX10_find_72 rfl
theorem dX10_find_76 : decode cX10_find 76 = .ok (.iload_n 2, 1) := dz0 dzo28 4 dzbX10_find_72 rfl
theorem dX10_find_77 : decode cX10_find 77 = .ok (.iload 4, 2) := dz1 dzo21 5 4 dzbX10_find_72 rfl
theorem dX10_find_79 : decode cX10_find 79 = .ok (.invokevirtual 55, 3) := dz2 dzo182 7 0 55 dzbX10_find_72 rfl
theorem dX10_find_82 : decode cX10_find 82 = .ok (.iconst 1, 1) := dz0 dzo4 10 dzbX10_find_72 rfl
theorem dX10_find_83 : decode cX10_find 83 = .ok (.ireturn, 1) := dz0 dzo172 11 dzbX10_find_72 rfl
theorem dzbX10_firstStep_0 : dzB cX10_firstStep 0 [3, 61, 28, 7, 162, 0, 54, 27, 7, 104, 28, 96, 62, 42, 180, 0, 9, 29, 46, 2, 159, 0, 32, 42] := by decide +kernel
theorem dX10_firstStep_0 : decode cX10_firstStep 0 = .ok (.iconst 0, 1) := dz0 dzo3 0 dzbX10_firstStep_0 rfl
theorem dX10_firstStep_1 : decode cX10_firstStep 1 = .ok (.istore_n 2, 1) := dz0 dzo61 1 dzbX10_firstStep_0 rfl
theorem dX10_firstStep_2 : decode cX10_firstStep 2 = .ok (.iload_n 2, 1) := dz0 dzo28 2 dzbX10_firstStep_0 rfl
theorem dX10_firstStep_3 : decode cX10_firstStep 3 = .ok (.iconst 4, 1) := dz0 dzo7 3 dzbX10_firstStep_0 rfl
theorem dX10_firstStep_4 : decode cX10_firstStep 4 = .ok (.if_icmp .ge 54, 3) := dz4 dzo162 4 0 54 54 rfl dzbX10_firstStep_0 rfl
theorem dX10_firstStep_7 : decode cX10_firstStep 7 = .ok (.iload_n 1, 1) := dz0 dzo27 7 dzbX10_firstStep_0 rfl
theorem dX10_firstStep_8 : decode cX10_firstStep 8 = .ok (.iconst 4, 1) := dz0 dzo7 8 dzbX10_firstStep_0 rfl
theorem dX10_firstStep_9 : decode cX10_firstStep 9 = .ok (.imul, 1) := dz0 dzo104 9 dzbX10_firstStep_0 rfl
theorem dX10_firstStep_10 : decode cX10_firstStep 10 = .ok (.iload_n 2, 1) := dz0 dzo28 10 dzbX10_firstStep_0 rfl
theorem dX10_firstStep_11 : decode cX10_firstStep 11 = .ok (.iadd, 1) := dz0 dzo96 11 dzbX10_firstStep_0 rfl
theorem dX10_firstStep_12 : decode cX10_firstStep 12 = .ok (.istore_n 3, 1) := dz0 dzo62 12 dzbX10_firstStep_0 rfl
theorem dX10_firstStep_13 : decode cX10_firstStep 13 = .ok (.aload_n 0, 1) := dz0 dzo42 13 dzbX10_firstStep_0 rfl
theorem dX10_firstStep_14 : decode cX10_firstStep 14 = .ok (.getfield 9, 3) := dz2 dzo180 14 0 9 dzbX10_firstStep_0 rfl
theorem dX10_firstStep_17 : decode cX10_firstStep 17 = .ok (.iload_n 3, 1) := dz0 dzo29 17 dzbX10_firstStep_0 rfl
theorem dX10_firstStep_18 : decode cX10_firstStep 18 = .ok (.iaload, 1) := dz0 dzo46 18 dzbX10_firstStep_0 rfl
theorem dX10_firstStep_19 : decode cX10_firstStep 19 = .ok (.iconst (-1), 1) := dz0 dzo2 19 dzbX10_firstStep_0 rfl
theorem dX10_firstStep_20 : decode cX10_firstStep 20 = .ok (.if_icmp .eq 32, 3) := dz4 dzo159 20 0 32 32 rfl dzbX10_firstStep_0 rfl
theorem dX10_firstStep_23 : decode cX10_firstStep 23 = .ok (.aload_n 0, 1) := dz0 dzo42 23 dzbX10_firstStep_0 rfl
theorem dzbX10_firstStep_24 : dzB cX10_firstStep 24 [180, 0, 15, 29, 46, 42, 180, 0, 18, 42, 180, 0, 9, 29, 46, 46, 96, 42, 180, 0, 18, 27, 46] := by decide +kernel
theorem dX10_firstStep_24 : decode cX10_firstStep 24 = .ok (.getfield 15, 3) := dz2 dzo180 0 0 15 dzbX10_firstStep_24 rfl
theorem dX10_firstStep_27 : decode cX10_firstStep 27 = .ok (.iload_n 3, 1) := dz0 dzo29 3 dzbX10_firstStep_24 rfl
theorem dX10_firstStep_28 : decode cX10_firstStep 28 = .ok (.iaload, 1) := dz0 dzo46 4 dzbX10_firstStep_24 rfl
theorem dX10_firstStep_29 : decode cX10_firstStep 29 = .ok (.aload_n 0, 1) := dz0 dzo42 5 dzbX10_firstStep_24 rfl
theorem dX10_firstStep_30 : decode cX10_firstStep 30 = .ok (.getfield 18, 3) := dz2 dzo180 6 0 18 dzbX10_firstStep_24 rfl
theorem dX10_firstStep_33 : decode cX10_firstStep 33 = .ok (.aload_n 0, 1) := dz0 dzo42 9 dzbX10_firstStep_24 rfl
theorem dX10_firstStep_34 : decode cX10_firstStep 34 = .ok (.getfield 9, 3) := dz2 dzo180 10 0 9 dzbX10_firstStep_24 rfl
theorem dX10_firstStep_37 : decode cX10_firstStep 37 = .ok (.iload_n 3, 1) := dz0 dzo29 13 dzbX10_firstStep_24 rfl
theorem dX10_firstStep_38 : decode cX10_firstStep 38 = .ok (.iaload, 1) := dz0 dzo46 14 dzbX10_firstStep_24 rfl
theorem dX10_firstStep_39 : decode cX10_firstStep 39 = .ok (.iaload, 1) := dz0 dzo46 15 dzbX10_firstStep_24 rfl
theorem dX10_firstStep_40 : decode cX10_firstStep 40 = .ok (.iadd, 1) := dz0 dzo96 16 dzbX10_firstStep_24 rfl
theorem dX10_firstStep_41 : decode cX10_firstStep 41 = .ok (.aload_n 0, 1) := dz0 dzo42 17 dzbX10_firstStep_24 rfl
theorem dX10_firstStep_42 : decode cX10_firstStep 42 = .ok (.getfield 18, 3) := dz2 dzo180 18 0 18 dzbX10_firstStep_24 rfl
theorem dX10_firstStep_45 : decode cX10_firstStep 45 = .ok (.iload_n 1, 1) := dz0 dzo27 21 dzbX10_firstStep_24 rfl
theorem dX10_firstStep_46 : decode cX10_firstStep 46 = .ok (.iaload, 1) := dz0 dzo46 22 dzbX10_firstStep_24 rfl
theorem dzbX10_firstStep_47 : dzB cX10_firstStep 47 [160, 0, 5, 28, 172, 132, 2, 1, 167, 255, 203, 2, 172] := by decide +kernel
theorem dX10_firstStep_47 : decode cX10_firstStep 47 = .ok (.if_icmp .ne 5, 3) := dz4 dzo160 0 0 5 5 rfl dzbX10_firstStep_47 rfl
theorem dX10_firstStep_50 : decode cX10_firstStep 50 = .ok (.iload_n 2, 1) := dz0 dzo28 3 dzbX10_firstStep_47 rfl
theorem dX10_firstStep_51 : decode cX10_firstStep 51 = .ok (.ireturn, 1) := dz0 dzo172 4 dzbX10_firstStep_47 rfl
theorem dX10_firstStep_52 : decode cX10_firstStep 52 = .ok (.iinc 2 1, 3) := dz5 dzo132 5 2 1 1 rfl dzbX10_firstStep_47 rfl
theorem dX10_firstStep_55 : decode cX10_firstStep 55 = .ok (.goto (-53), 3) := dz4 dzo167 8 255 203 (-53) rfl dzbX10_firstStep_47 rfl
theorem dX10_firstStep_58 : decode cX10_firstStep 58 = .ok (.iconst (-1), 1) := dz0 dzo2 11 dzbX10_firstStep_47 rfl
theorem dX10_firstStep_59 : decode cX10_firstStep 59 = .ok (.ireturn, 1) := dz0 dzo172 12 dzbX10_firstStep_47 rfl
theorem dzbX10_follow_0 : dzB cX10_follow 0 [42, 180, 0, 24, 3, 46, 54, 4, 3, 54, 5, 21, 5, 16, 20, 162, 0, 116, 21, 4, 29, 159, 0, 110] := by decide +kernel
theorem dX10_follow_0 : decode cX10_follow 0 = .ok (.aload_n 0, 1) := dz0 dzo42 0 dzbX10_follow_0 rfl
theorem dX10_follow_1 : decode cX10_follow 1 = .ok (.getfield 24, 3) := dz2 dzo180 1 0 24 dzbX10_follow_0 rfl
theorem dX10_follow_4 : decode cX10_follow 4 = .ok (.iconst 0, 1) := dz0 dzo3 4 dzbX10_follow_0 rfl
theorem dX10_follow_5 : decode cX10_follow 5 = .ok (.iaload, 1) := dz0 dzo46 5 dzbX10_follow_0 rfl
theorem dX10_follow_6 : decode cX10_follow 6 = .ok (.istore 4, 2) := dz1 dzo54 6 4 dzbX10_follow_0 rfl
theorem dX10_follow_8 : decode cX10_follow 8 = .ok (.iconst 0, 1) := dz0 dzo3 8 dzbX10_follow_0 rfl
theorem dX10_follow_9 : decode cX10_follow 9 = .ok (.istore 5, 2) := dz1 dzo54 9 5 dzbX10_follow_0 rfl
theorem dX10_follow_11 : decode cX10_follow 11 = .ok (.iload 5, 2) := dz1 dzo21 11 5 dzbX10_follow_0 rfl
theorem dX10_follow_13 : decode cX10_follow 13 = .ok (.bipush 20, 2) := dz3 dzo16 13 20 20 rfl dzbX10_follow_0 rfl
theorem dX10_follow_15 : decode cX10_follow 15 = .ok (.if_icmp .ge 116, 3) := dz4 dzo162 15 0 116 116 rfl dzbX10_follow_0 rfl
theorem dX10_follow_18 : decode cX10_follow 18 = .ok (.iload 4, 2) := dz1 dzo21 18 4 dzbX10_follow_0 rfl
theorem dX10_follow_20 : decode cX10_follow 20 = .ok (.iload_n 3, 1) := dz0 dzo29 20 dzbX10_follow_0 rfl
theorem dX10_follow_21 : decode cX10_follow 21 = .ok (.if_icmp .eq 110, 3) := dz4 dzo159 21 0 110 110 rfl dzbX10_follow_0 rfl
theorem dzbX10_follow_24 : dzB cX10_follow 24 [42, 21, 4, 182, 0, 73, 54, 6, 21, 6, 2, 160, 0, 4, 177, 42, 89, 180, 0, 34, 43, 28, 21, 4] := by decide +kernel
theorem dX10_follow_24 : decode cX10_follow 24 = .ok (.aload_n 0, 1) := dz0 dzo42 0 dzbX10_follow_24 rfl
theorem dX10_follow_25 : decode cX10_follow 25 = .ok (.iload 4, 2) := dz1 dzo21 1 4 dzbX10_follow_24 rfl
theorem dX10_follow_27 : decode cX10_follow 27 = .ok (.invokevirtual 73, 3) := dz2 dzo182 3 0 73 dzbX10_follow_24 rfl
theorem dX10_follow_30 : decode cX10_follow 30 = .ok (.istore 6, 2) := dz1 dzo54 6 6 dzbX10_follow_24 rfl
theorem dX10_follow_32 : decode cX10_follow 32 = .ok (.iload 6, 2) := dz1 dzo21 8 6 dzbX10_follow_24 rfl
theorem dX10_follow_34 : decode cX10_follow 34 = .ok (.iconst (-1), 1) := dz0 dzo2 10 dzbX10_follow_24 rfl
theorem dX10_follow_35 : decode cX10_follow 35 = .ok (.if_icmp .ne 4, 3) := dz4 dzo160 11 0 4 4 rfl dzbX10_follow_24 rfl
theorem dX10_follow_38 : decode cX10_follow 38 = .ok (.return_, 1) := dz0 dzo177 14 dzbX10_follow_24 rfl
theorem dX10_follow_39 : decode cX10_follow 39 = .ok (.aload_n 0, 1) := dz0 dzo42 15 dzbX10_follow_24 rfl
theorem dX10_follow_40 : decode cX10_follow 40 = .ok (.dup, 1) := dz0 dzo89 16 dzbX10_follow_24 rfl
theorem dX10_follow_41 : decode cX10_follow 41 = .ok (.getfield 34, 3) := dz2 dzo180 17 0 34 dzbX10_follow_24 rfl
theorem dX10_follow_44 : decode cX10_follow 44 = .ok (.aload_n 1, 1) := dz0 dzo43 20 dzbX10_follow_24 rfl
theorem dX10_follow_45 : decode cX10_follow 45 = .ok (.iload_n 2, 1) := dz0 dzo28 21 dzbX10_follow_24 rfl
theorem dX10_follow_46 : decode cX10_follow 46 = .ok (.iload 4, 2) := dz1 dzo21 22 4 dzbX10_follow_24 rfl
theorem dzbX10_follow_48 : dzB cX10_follow 48 [21, 6, 182, 0, 63, 96, 181, 0, 34, 42, 180, 0, 27, 21, 5, 4, 96, 42, 180, 0, 27, 21, 5, 46] := by decide +kernel
theorem dX10_follow_48 : decode cX10_follow 48 = .ok (.iload 6, 2) := dz1 dzo21 0 6 dzbX10_follow_48 rfl
theorem dX10_follow_50 : decode cX10_follow 50 = .ok (.invokevirtual 63, 3) := dz2 dzo182 2 0 63 dzbX10_follow_48 rfl
theorem dX10_follow_53 : decode cX10_follow 53 = .ok (.iadd, 1) := dz0 dzo96 5 dzbX10_follow_48 rfl
theorem dX10_follow_54 : decode cX10_follow 54 = .ok (.putfield 34, 3) := dz2 dzo181 6 0 34 dzbX10_follow_48 rfl
theorem dX10_follow_57 : decode cX10_follow 57 = .ok (.aload_n 0, 1) := dz0 dzo42 9 dzbX10_follow_48 rfl
theorem dX10_follow_58 : decode cX10_follow 58 = .ok (.getfield 27, 3) := dz2 dzo180 10 0 27 dzbX10_follow_48 rfl
theorem dX10_follow_61 : decode cX10_follow 61 = .ok (.iload 5, 2) := dz1 dzo21 13 5 dzbX10_follow_48 rfl
theorem dX10_follow_63 : decode cX10_follow 63 = .ok (.iconst 1, 1) := dz0 dzo4 15 dzbX10_follow_48 rfl
theorem dX10_follow_64 : decode cX10_follow 64 = .ok (.iadd, 1) := dz0 dzo96 16 dzbX10_follow_48 rfl
theorem dX10_follow_65 : decode cX10_follow 65 = .ok (.aload_n 0, 1) := dz0 dzo42 17 dzbX10_follow_48 rfl
theorem dX10_follow_66 : decode cX10_follow 66 = .ok (.getfield 27, 3) := dz2 dzo180 18 0 27 dzbX10_follow_48 rfl
theorem dX10_follow_69 : decode cX10_follow 69 = .ok (.iload 5, 2) := dz1 dzo21 21 5 dzbX10_follow_48 rfl
theorem dX10_follow_71 : decode cX10_follow 71 = .ok (.iaload, 1) := dz0 dzo46 23 dzbX10_follow_48 rfl
theorem dzbX10_follow_72 : dzB cX10_follow 72 [43, 28, 21, 4, 21, 6, 182, 0, 59, 96, 79, 42, 180, 0, 9, 21, 4, 7, 104, 21, 6, 96, 46] := by decide +kernel
theorem dX10_follow_72 : decode cX10_follow 72 = .ok (.aload_n 1, 1) := dz0 dzo43 0 dzbX10_follow_72 rfl
theorem dX10_follow_73 : decode cX10_follow 73 = .ok (.iload_n 2, 1) := dz0 dzo28 1 dzbX10_follow_72 rfl
theorem dX10_follow_74 : decode cX10_follow 74 = .ok (.iload 4, 2) := dz1 dzo21 2 4 dzbX10_follow_72 rfl
theorem dX10_follow_76 : decode cX10_follow 76 = .ok (.iload 6, 2) := dz1 dzo21 4 6 dzbX10_follow_72 rfl
theorem dX10_follow_78 : decode cX10_follow 78 = .ok (.invokevirtual 59, 3) := dz2 dzo182 6 0 59 dzbX10_follow_72 rfl
theorem dX10_follow_81 : decode cX10_follow 81 = .ok (.iadd, 1) := dz0 dzo96 9 dzbX10_follow_72 rfl
theorem dX10_follow_82 : decode cX10_follow 82 = .ok (.iastore, 1) := dz0 dzo79 10 dzbX10_follow_72 rfl
theorem dX10_follow_83 : decode cX10_follow 83 = .ok (.aload_n 0, 1) := dz0 dzo42 11 dzbX10_follow_72 rfl
theorem dX10_follow_84 : decode cX10_follow 84 = .ok (.getfield 9, 3) := dz2 dzo180 12 0 9 dzbX10_follow_72 rfl
theorem dX10_follow_87 : decode cX10_follow 87 = .ok (.iload 4, 2) := dz1 dzo21 15 4 dzbX10_follow_72 rfl
theorem dX10_follow_89 : decode cX10_follow 89 = .ok (.iconst 4, 1) := dz0 dzo7 17 dzbX10_follow_72 rfl
theorem dX10_follow_90 : decode cX10_follow 90 = .ok (.imul, 1) := dz0 dzo104 18 dzbX10_follow_72 rfl
theorem dX10_follow_91 : decode cX10_follow 91 = .ok (.iload 6, 2) := dz1 dzo21 19 6 dzbX10_follow_72 rfl
theorem dX10_follow_93 : decode cX10_follow 93 = .ok (.iadd, 1) := dz0 dzo96 21 dzbX10_follow_72 rfl
theorem dX10_follow_94 : decode cX10_follow 94 = .ok (.iaload, 1) := dz0 dzo46 22 dzbX10_follow_72 rfl
theorem dzbX10_follow_95 : dzB cX10_follow 95 [54, 4, 42, 180, 0, 21, 21, 5, 21, 6, 79, 42, 180, 0, 24, 21, 5, 4, 96, 21, 4, 79, 42] := by decide +kernel
theorem dX10_follow_95 : decode cX10_follow 95 = .ok (.istore 4, 2) := dz1 dzo54 0 4 dzbX10_follow_95 rfl
theorem dX10_follow_97 : decode cX10_follow 97 = .ok (.aload_n 0, 1) := dz0 dzo42 2 dzbX10_follow_95 rfl
theorem dX10_follow_98 : decode cX10_follow 98 = .ok (.getfield 21, 3) := dz2 dzo180 3 0 21 dzbX10_follow_95 rfl
theorem dX10_follow_101 : decode cX10_follow 101 = .ok (.iload 5, 2) := dz1 dzo21 6 5 dzbX10_follow_95 rfl
theorem dX10_follow_103 : decode cX10_follow 103 = .ok (.iload 6, 2) := dz1 dzo21 8 6 dzbX10_follow_95 rfl
theorem dX10_follow_105 : decode cX10_follow 105 = .ok (.iastore, 1) := dz0 dzo79 10 dzbX10_follow_95 rfl
theorem dX10_follow_106 : decode cX10_follow 106 = .ok (.aload_n 0, 1) := dz0 dzo42 11 dzbX10_follow_95 rfl
theorem dX10_follow_107 : decode cX10_follow 107 = .ok (.getfield 24, 3) := dz2 dzo180 12 0 24 dzbX10_follow_95 rfl
theorem dX10_follow_110 : decode cX10_follow 110 = .ok (.iload 5, 2) := dz1 dzo21 15 5 dzbX10_follow_95 rfl
theorem dX10_follow_112 : decode cX10_follow 112 = .ok (.iconst 1, 1) := dz0 dzo4 17 dzbX10_follow_95 rfl
theorem dX10_follow_113 : decode cX10_follow 113 = .ok (.iadd, 1) := dz0 dzo96 18 dzbX10_follow_95 rfl
theorem dX10_follow_114 : decode cX10_follow 114 = .ok (.iload 4, 2) := dz1 dzo21 19 4 dzbX10_follow_95 rfl
theorem dX10_follow_116 : decode cX10_follow 116 = .ok (.iastore, 1) := dz0 dzo79 21 dzbX10_follow_95 rfl
theorem dX10_follow_117 : decode cX10_follow 117 = .ok (.aload_n 0, 1) := dz0 dzo42 22 dzbX10_follow_95 rfl
theorem dzbX10_follow_118 : dzB cX10_follow 118 [21, 5, 4, 96, 181, 0, 30, 132, 5, 1, 167, 255, 139, 177] := by decide +kernel
theorem dX10_follow_118 : decode cX10_follow 118 = .ok (.iload 5, 2) := dz1 dzo21 0 5 dzbX10_follow_118 rfl
theorem dX10_follow_120 : decode cX10_follow 120 = .ok (.iconst 1, 1) := dz0 dzo4 2 dzbX10_follow_118 rfl
theorem dX10_follow_121 : decode cX10_follow 121 = .ok (.iadd, 1) := dz0 dzo96 3 dzbX10_follow_118 rfl
theorem dX10_follow_122 : decode cX10_follow 122 = .ok (.putfield 30, 3) := dz2 dzo181 4 0 30 dzbX10_follow_118 rfl
theorem dX10_follow_125 : decode cX10_follow 125 = .ok (.iinc 5 1, 3) := dz5 dzo132 7 5 1 1 rfl dzbX10_follow_118 rfl
theorem dX10_follow_128 : decode cX10_follow 128 = .ok (.goto (-117), 3) := dz4 dzo167 10 255 139 (-117) rfl dzbX10_follow_118 rfl
theorem dX10_follow_131 : decode cX10_follow 131 = .ok (.return_, 1) := dz0 dzo177 13 dzbX10_follow_118 rfl
theorem dzbX10_hasStep_0 : dzB cX10_hasStep 0 [27, 155, 0, 15, 27, 42, 180, 0, 30, 162, 0, 7, 4, 167, 0, 4, 3, 172] := by decide +kernel
theorem dX10_hasStep_0 : decode cX10_hasStep 0 = .ok (.iload_n 1, 1) := dz0 dzo27 0 dzbX10_hasStep_0 rfl
theorem dX10_hasStep_1 : decode cX10_hasStep 1 = .ok (.ifCond .lt 15, 3) := dz4 dzo155 1 0 15 15 rfl dzbX10_hasStep_0 rfl
theorem dX10_hasStep_4 : decode cX10_hasStep 4 = .ok (.iload_n 1, 1) := dz0 dzo27 4 dzbX10_hasStep_0 rfl
theorem dX10_hasStep_5 : decode cX10_hasStep 5 = .ok (.aload_n 0, 1) := dz0 dzo42 5 dzbX10_hasStep_0 rfl
theorem dX10_hasStep_6 : decode cX10_hasStep 6 = .ok (.getfield 30, 3) := dz2 dzo180 6 0 30 dzbX10_hasStep_0 rfl
theorem dX10_hasStep_9 : decode cX10_hasStep 9 = .ok (.if_icmp .ge 7, 3) := dz4 dzo162 9 0 7 7 rfl dzbX10_hasStep_0 rfl
theorem dX10_hasStep_12 : decode cX10_hasStep 12 = .ok (.iconst 1, 1) := dz0 dzo4 12 dzbX10_hasStep_0 rfl
theorem dX10_hasStep_13 : decode cX10_hasStep 13 = .ok (.goto 4, 3) := dz4 dzo167 13 0 4 4 rfl dzbX10_hasStep_0 rfl
theorem dX10_hasStep_16 : decode cX10_hasStep 16 = .ok (.iconst 0, 1) := dz0 dzo3 16 dzbX10_hasStep_0 rfl
theorem dX10_hasStep_17 : decode cX10_hasStep 17 = .ok (.ireturn, 1) := dz0 dzo172 17 dzbX10_hasStep_0 rfl
theorem dzbX10_improve_0 : dzB cX10_improve 0 [3, 61, 3, 62, 29, 27, 7, 104, 162, 0, 64, 42, 180, 0, 9, 29, 46, 2, 159, 0, 48, 42] := by decide +kernel
theorem dX10_improve_0 : decode cX10_improve 0 = .ok (.iconst 0, 1) := dz0 dzo3 0 dzbX10_improve_0 rfl
theorem dX10_improve_1 : decode cX10_improve 1 = .ok (.istore_n 2, 1) := dz0 dzo61 1 dzbX10_improve_0 rfl
theorem dX10_improve_2 : decode cX10_improve 2 = .ok (.iconst 0, 1) := dz0 dzo3 2 dzbX10_improve_0 rfl
theorem dX10_improve_3 : decode cX10_improve 3 = .ok (.istore_n 3, 1) := dz0 dzo62 3 dzbX10_improve_0 rfl
theorem dX10_improve_4 : decode cX10_improve 4 = .ok (.iload_n 3, 1) := dz0 dzo29 4 dzbX10_improve_0 rfl
theorem dX10_improve_5 : decode cX10_improve 5 = .ok (.iload_n 1, 1) := dz0 dzo27 5 dzbX10_improve_0 rfl
theorem dX10_improve_6 : decode cX10_improve 6 = .ok (.iconst 4, 1) := dz0 dzo7 6 dzbX10_improve_0 rfl
theorem dX10_improve_7 : decode cX10_improve 7 = .ok (.imul, 1) := dz0 dzo104 7 dzbX10_improve_0 rfl
theorem dX10_improve_8 : decode cX10_improve 8 = .ok (.if_icmp .ge 64, 3) := dz4 dzo162 8 0 64 64 rfl dzbX10_improve_0 rfl
theorem dX10_improve_11 : decode cX10_improve 11 = .ok (.aload_n 0, 1) := dz0 dzo42 11 dzbX10_improve_0 rfl
theorem dX10_improve_12 : decode cX10_improve 12 = .ok (.getfield 9, 3) := dz2 dzo180 12 0 9 dzbX10_improve_0 rfl
theorem dX10_improve_15 : decode cX10_improve 15 = .ok (.iload_n 3, 1) := dz0 dzo29 15 dzbX10_improve_0 rfl
theorem dX10_improve_16 : decode cX10_improve 16 = .ok (.iaload, 1) := dz0 dzo46 16 dzbX10_improve_0 rfl
theorem dX10_improve_17 : decode cX10_improve 17 = .ok (.iconst (-1), 1) := dz0 dzo2 17 dzbX10_improve_0 rfl
theorem dX10_improve_18 : decode cX10_improve 18 = .ok (.if_icmp .eq 48, 3) := dz4 dzo159 18 0 48 48 rfl dzbX10_improve_0 rfl
theorem dX10_improve_21 : decode cX10_improve 21 = .ok (.aload_n 0, 1) := dz0 dzo42 21 dzbX10_improve_0 rfl
theorem dzbX10_improve_22 : dzB cX10_improve 22 [180, 0, 15, 29, 46, 42, 180, 0, 18, 42, 180, 0, 9, 29, 46, 46, 96, 54, 4, 21, 4, 42] := by decide +kernel
theorem dX10_improve_22 : decode cX10_improve 22 = .ok (.getfield 15, 3) := dz2 dzo180 0 0 15 dzbX10_improve_22 rfl
theorem dX10_improve_25 : decode cX10_improve 25 = .ok (.iload_n 3, 1) := dz0 dzo29 3 dzbX10_improve_22 rfl
theorem dX10_improve_26 : decode cX10_improve 26 = .ok (.iaload, 1) := dz0 dzo46 4 dzbX10_improve_22 rfl
theorem dX10_improve_27 : decode cX10_improve 27 = .ok (.aload_n 0, 1) := dz0 dzo42 5 dzbX10_improve_22 rfl
theorem dX10_improve_28 : decode cX10_improve 28 = .ok (.getfield 18, 3) := dz2 dzo180 6 0 18 dzbX10_improve_22 rfl
theorem dX10_improve_31 : decode cX10_improve 31 = .ok (.aload_n 0, 1) := dz0 dzo42 9 dzbX10_improve_22 rfl
theorem dX10_improve_32 : decode cX10_improve 32 = .ok (.getfield 9, 3) := dz2 dzo180 10 0 9 dzbX10_improve_22 rfl
theorem dX10_improve_35 : decode cX10_improve 35 = .ok (.iload_n 3, 1) := dz0 dzo29 13 dzbX10_improve_22 rfl
theorem dX10_improve_36 : decode cX10_improve 36 = .ok (.iaload, 1) := dz0 dzo46 14 dzbX10_improve_22 rfl
theorem dX10_improve_37 : decode cX10_improve 37 = .ok (.iaload, 1) := dz0 dzo46 15 dzbX10_improve_22 rfl
theorem dX10_improve_38 : decode cX10_improve 38 = .ok (.iadd, 1) := dz0 dzo96 16 dzbX10_improve_22 rfl
theorem dX10_improve_39 : decode cX10_improve 39 = .ok (.istore 4, 2) := dz1 dzo54 17 4 dzbX10_improve_22 rfl
theorem dX10_improve_41 : decode cX10_improve 41 = .ok (.iload 4, 2) := dz1 dzo21 19 4 dzbX10_improve_22 rfl
theorem dX10_improve_43 : decode cX10_improve 43 = .ok (.aload_n 0, 1) := dz0 dzo42 21 dzbX10_improve_22 rfl
theorem dzbX10_improve_44 : dzB cX10_improve 44 [180, 0, 18, 29, 7, 108, 46, 162, 0, 15, 42, 180, 0, 18, 29, 7, 108, 21, 4, 79, 4, 61] := by decide +kernel
theorem dX10_improve_44 : decode cX10_improve 44 = .ok (.getfield 18, 3) := dz2 dzo180 0 0 18 dzbX10_improve_44 rfl
theorem dX10_improve_47 : decode cX10_improve 47 = .ok (.iload_n 3, 1) := dz0 dzo29 3 dzbX10_improve_44 rfl
theorem dX10_improve_48 : decode cX10_improve 48 = .ok (.iconst 4, 1) := dz0 dzo7 4 dzbX10_improve_44 rfl
theorem dX10_improve_49 : decode cX10_improve 49 = .ok (.idiv, 1) := dz0 dzo108 5 dzbX10_improve_44 rfl
theorem dX10_improve_50 : decode cX10_improve 50 = .ok (.iaload, 1) := dz0 dzo46 6 dzbX10_improve_44 rfl
theorem dX10_improve_51 : decode cX10_improve 51 = .ok (.if_icmp .ge 15, 3) := dz4 dzo162 7 0 15 15 rfl dzbX10_improve_44 rfl
theorem dX10_improve_54 : decode cX10_improve 54 = .ok (.aload_n 0, 1) := dz0 dzo42 10 dzbX10_improve_44 rfl
theorem dX10_improve_55 : decode cX10_improve 55 = .ok (.getfield 18, 3) := dz2 dzo180 11 0 18 dzbX10_improve_44 rfl
theorem dX10_improve_58 : decode cX10_improve 58 = .ok (.iload_n 3, 1) := dz0 dzo29 14 dzbX10_improve_44 rfl
theorem dX10_improve_59 : decode cX10_improve 59 = .ok (.iconst 4, 1) := dz0 dzo7 15 dzbX10_improve_44 rfl
theorem dX10_improve_60 : decode cX10_improve 60 = .ok (.idiv, 1) := dz0 dzo108 16 dzbX10_improve_44 rfl
theorem dX10_improve_61 : decode cX10_improve 61 = .ok (.iload 4, 2) := dz1 dzo21 17 4 dzbX10_improve_44 rfl
theorem dX10_improve_63 : decode cX10_improve 63 = .ok (.iastore, 1) := dz0 dzo79 19 dzbX10_improve_44 rfl
theorem dX10_improve_64 : decode cX10_improve 64 = .ok (.iconst 1, 1) := dz0 dzo4 20 dzbX10_improve_44 rfl
theorem dX10_improve_65 : decode cX10_improve 65 = .ok (.istore_n 2, 1) := dz0 dzo61 21 dzbX10_improve_44 rfl
theorem dzbX10_improve_66 : dzB cX10_improve 66 [132, 3, 1, 167, 255, 191, 28, 172] := by decide +kernel
theorem dX10_improve_66 : decode cX10_improve 66 = .ok (.iinc 3 1, 3) := dz5 dzo132 0 3 1 1 rfl dzbX10_improve_66 rfl
theorem dX10_improve_69 : decode cX10_improve 69 = .ok (.goto (-65), 3) := dz4 dzo167 3 255 191 (-65) rfl dzbX10_improve_66 rfl
theorem dX10_improve_72 : decode cX10_improve 72 = .ok (.iload_n 2, 1) := dz0 dzo28 6 dzbX10_improve_66 rfl
theorem dX10_improve_73 : decode cX10_improve 73 = .ok (.ireturn, 1) := dz0 dzo172 7 dzbX10_improve_66 rfl
theorem dzbX10_init_0 : dzB cX10_init 0 [42, 183, 0, 3, 42, 16, 80] := by decide +kernel
theorem dX10_init_0 : decode cX10_init 0 = .ok (.aload_n 0, 1) := dz0 dzo42 0 dzbX10_init_0 rfl
theorem dX10_init_1 : decode cX10_init 1 = .ok (.invokespecial 3, 3) := dz2 dzo183 1 0 3 dzbX10_init_0 rfl
theorem dX10_init_4 : decode cX10_init 4 = .ok (.aload_n 0, 1) := dz0 dzo42 4 dzbX10_init_0 rfl
theorem dX10_init_5 : decode cX10_init 5 = .ok (.bipush 80, 2) := dz3 dzo16 5 80 80 rfl dzbX10_init_0 rfl
theorem dX10_init_7 : decode cX10_init 7 = .ok (.newarray .int, 2) := by decide +kernel
theorem dzbX10_init_9 : dzB cX10_init 9 [181, 0, 9, 42, 16, 80] := by decide +kernel
theorem dX10_init_9 : decode cX10_init 9 = .ok (.putfield 9, 3) := dz2 dzo181 0 0 9 dzbX10_init_9 rfl
theorem dX10_init_12 : decode cX10_init 12 = .ok (.aload_n 0, 1) := dz0 dzo42 3 dzbX10_init_9 rfl
theorem dX10_init_13 : decode cX10_init 13 = .ok (.bipush 80, 2) := dz3 dzo16 4 80 80 rfl dzbX10_init_9 rfl
theorem dX10_init_15 : decode cX10_init 15 = .ok (.newarray .int, 2) := by decide +kernel
theorem dzbX10_init_17 : dzB cX10_init 17 [181, 0, 15, 42, 16, 20] := by decide +kernel
theorem dX10_init_17 : decode cX10_init 17 = .ok (.putfield 15, 3) := dz2 dzo181 0 0 15 dzbX10_init_17 rfl
theorem dX10_init_20 : decode cX10_init 20 = .ok (.aload_n 0, 1) := dz0 dzo42 3 dzbX10_init_17 rfl
theorem dX10_init_21 : decode cX10_init 21 = .ok (.bipush 20, 2) := dz3 dzo16 4 20 20 rfl dzbX10_init_17 rfl
theorem dX10_init_23 : decode cX10_init 23 = .ok (.newarray .int, 2) := by decide +kernel
theorem dzbX10_init_25 : dzB cX10_init 25 [181, 0, 18, 42, 16, 20] := by decide +kernel
theorem dX10_init_25 : decode cX10_init 25 = .ok (.putfield 18, 3) := dz2 dzo181 0 0 18 dzbX10_init_25 rfl
theorem dX10_init_28 : decode cX10_init 28 = .ok (.aload_n 0, 1) := dz0 dzo42 3 dzbX10_init_25 rfl
theorem dX10_init_29 : decode cX10_init 29 = .ok (.bipush 20, 2) := dz3 dzo16 4 20 20 rfl dzbX10_init_25 rfl
theorem dX10_init_31 : decode cX10_init 31 = .ok (.newarray .int, 2) := by decide +kernel
theorem dzbX10_init_33 : dzB cX10_init 33 [181, 0, 21, 42, 16, 21] := by decide +kernel
theorem dX10_init_33 : decode cX10_init 33 = .ok (.putfield 21, 3) := dz2 dzo181 0 0 21 dzbX10_init_33 rfl
theorem dX10_init_36 : decode cX10_init 36 = .ok (.aload_n 0, 1) := dz0 dzo42 3 dzbX10_init_33 rfl
theorem dX10_init_37 : decode cX10_init 37 = .ok (.bipush 21, 2) := dz3 dzo16 4 21 21 rfl dzbX10_init_33 rfl
theorem dX10_init_39 : decode cX10_init 39 = .ok (.newarray .int, 2) := by decide +kernel
theorem dzbX10_init_41 : dzB cX10_init 41 [181, 0, 24, 42, 16, 21] := by decide +kernel
theorem dX10_init_41 : decode cX10_init 41 = .ok (.putfield 24, 3) := dz2 dzo181 0 0 24 dzbX10_init_41 rfl
theorem dX10_init_44 : decode cX10_init 44 = .ok (.aload_n 0, 1) := dz0 dzo42 3 dzbX10_init_41 rfl
theorem dX10_init_45 : decode cX10_init 45 = .ok (.bipush 21, 2) := dz3 dzo16 4 21 21 rfl dzbX10_init_41 rfl
theorem dX10_init_47 : decode cX10_init 47 = .ok (.newarray .int, 2) := by decide +kernel
theorem dzbX10_init_49 : dzB cX10_init 49 [181, 0, 27, 177] := by decide +kernel
theorem dX10_init_49 : decode cX10_init 49 = .ok (.putfield 27, 3) := dz2 dzo181 0 0 27 dzbX10_init_49 rfl
theorem dX10_init_52 : decode cX10_init 52 = .ok (.return_, 1) := dz0 dzo177 3 dzbX10_init_49 rfl
theorem dzbX10_measure_0 : dzB cX10_measure 0 [3, 62, 29, 27, 162, 0, 26, 42, 180, 0, 18, 29, 29, 28, 160, 0, 7, 3, 167, 0, 5, 18, 54, 79] := by decide +kernel
theorem dX10_measure_0 : decode cX10_measure 0 = .ok (.iconst 0, 1) := dz0 dzo3 0 dzbX10_measure_0 rfl
theorem dX10_measure_1 : decode cX10_measure 1 = .ok (.istore_n 3, 1) := dz0 dzo62 1 dzbX10_measure_0 rfl
theorem dX10_measure_2 : decode cX10_measure 2 = .ok (.iload_n 3, 1) := dz0 dzo29 2 dzbX10_measure_0 rfl
theorem dX10_measure_3 : decode cX10_measure 3 = .ok (.iload_n 1, 1) := dz0 dzo27 3 dzbX10_measure_0 rfl
theorem dX10_measure_4 : decode cX10_measure 4 = .ok (.if_icmp .ge 26, 3) := dz4 dzo162 4 0 26 26 rfl dzbX10_measure_0 rfl
theorem dX10_measure_7 : decode cX10_measure 7 = .ok (.aload_n 0, 1) := dz0 dzo42 7 dzbX10_measure_0 rfl
theorem dX10_measure_8 : decode cX10_measure 8 = .ok (.getfield 18, 3) := dz2 dzo180 8 0 18 dzbX10_measure_0 rfl
theorem dX10_measure_11 : decode cX10_measure 11 = .ok (.iload_n 3, 1) := dz0 dzo29 11 dzbX10_measure_0 rfl
theorem dX10_measure_12 : decode cX10_measure 12 = .ok (.iload_n 3, 1) := dz0 dzo29 12 dzbX10_measure_0 rfl
theorem dX10_measure_13 : decode cX10_measure 13 = .ok (.iload_n 2, 1) := dz0 dzo28 13 dzbX10_measure_0 rfl
theorem dX10_measure_14 : decode cX10_measure 14 = .ok (.if_icmp .ne 7, 3) := dz4 dzo160 14 0 7 7 rfl dzbX10_measure_0 rfl
theorem dX10_measure_17 : decode cX10_measure 17 = .ok (.iconst 0, 1) := dz0 dzo3 17 dzbX10_measure_0 rfl
theorem dX10_measure_18 : decode cX10_measure 18 = .ok (.goto 5, 3) := dz4 dzo167 18 0 5 5 rfl dzbX10_measure_0 rfl
theorem dX10_measure_21 : decode cX10_measure 21 = .ok (.ldc 54, 2) := dz1 dzo18 21 54 dzbX10_measure_0 rfl
theorem dX10_measure_23 : decode cX10_measure 23 = .ok (.iastore, 1) := dz0 dzo79 23 dzbX10_measure_0 rfl
theorem dzbX10_measure_24 : dzB cX10_measure 24 [132, 3, 1, 167, 255, 231, 4, 62, 3, 54, 4, 21, 4, 27, 162, 0, 19, 29, 153, 0, 15, 42, 27] := by decide +kernel
theorem dX10_measure_24 : decode cX10_measure 24 = .ok (.iinc 3 1, 3) := dz5 dzo132 0 3 1 1 rfl dzbX10_measure_24 rfl
theorem dX10_measure_27 : decode cX10_measure 27 = .ok (.goto (-25), 3) := dz4 dzo167 3 255 231 (-25) rfl dzbX10_measure_24 rfl
theorem dX10_measure_30 : decode cX10_measure 30 = .ok (.iconst 1, 1) := dz0 dzo4 6 dzbX10_measure_24 rfl
theorem dX10_measure_31 : decode cX10_measure 31 = .ok (.istore_n 3, 1) := dz0 dzo62 7 dzbX10_measure_24 rfl
theorem dX10_measure_32 : decode cX10_measure 32 = .ok (.iconst 0, 1) := dz0 dzo3 8 dzbX10_measure_24 rfl
theorem dX10_measure_33 : decode cX10_measure 33 = .ok (.istore 4, 2) := dz1 dzo54 9 4 dzbX10_measure_24 rfl
theorem dX10_measure_35 : decode cX10_measure 35 = .ok (.iload 4, 2) := dz1 dzo21 11 4 dzbX10_measure_24 rfl
theorem dX10_measure_37 : decode cX10_measure 37 = .ok (.iload_n 1, 1) := dz0 dzo27 13 dzbX10_measure_24 rfl
theorem dX10_measure_38 : decode cX10_measure 38 = .ok (.if_icmp .ge 19, 3) := dz4 dzo162 14 0 19 19 rfl dzbX10_measure_24 rfl
theorem dX10_measure_41 : decode cX10_measure 41 = .ok (.iload_n 3, 1) := dz0 dzo29 17 dzbX10_measure_24 rfl
theorem dX10_measure_42 : decode cX10_measure 42 = .ok (.ifCond .eq 15, 3) := dz4 dzo153 18 0 15 15 rfl dzbX10_measure_24 rfl
theorem dX10_measure_45 : decode cX10_measure 45 = .ok (.aload_n 0, 1) := dz0 dzo42 21 dzbX10_measure_24 rfl
theorem dX10_measure_46 : decode cX10_measure 46 = .ok (.iload_n 1, 1) := dz0 dzo27 22 dzbX10_measure_24 rfl
theorem dzbX10_measure_47 : dzB cX10_measure 47 [182, 0, 70, 62, 132, 4, 1, 167, 255, 237, 177] := by decide +kernel
theorem dX10_measure_47 : decode cX10_measure 47 = .ok (.invokevirtual 70, 3) := dz2 dzo182 0 0 70 dzbX10_measure_47 rfl
theorem dX10_measure_50 : decode cX10_measure 50 = .ok (.istore_n 3, 1) := dz0 dzo62 3 dzbX10_measure_47 rfl
theorem dX10_measure_51 : decode cX10_measure 51 = .ok (.iinc 4 1, 3) := dz5 dzo132 4 4 1 1 rfl dzbX10_measure_47 rfl
theorem dX10_measure_54 : decode cX10_measure 54 = .ok (.goto (-19), 3) := dz4 dzo167 7 255 237 (-19) rfl dzbX10_measure_47 rfl
theorem dX10_measure_57 : decode cX10_measure 57 = .ok (.return_, 1) := dz0 dzo177 10 dzbX10_measure_47 rfl
theorem dzbX10_minutesInAll_0 : dzB cX10_minutesInAll 0 [42, 180, 0, 27, 42, 180, 0, 30, 46, 172] := by decide +kernel
theorem dX10_minutesInAll_0 : decode cX10_minutesInAll 0 = .ok (.aload_n 0, 1) := dz0 dzo42 0 dzbX10_minutesInAll_0 rfl
theorem dX10_minutesInAll_1 : decode cX10_minutesInAll 1 = .ok (.getfield 27, 3) := dz2 dzo180 1 0 27 dzbX10_minutesInAll_0 rfl
theorem dX10_minutesInAll_4 : decode cX10_minutesInAll 4 = .ok (.aload_n 0, 1) := dz0 dzo42 4 dzbX10_minutesInAll_0 rfl
theorem dX10_minutesInAll_5 : decode cX10_minutesInAll 5 = .ok (.getfield 30, 3) := dz2 dzo180 5 0 30 dzbX10_minutesInAll_0 rfl
theorem dX10_minutesInAll_8 : decode cX10_minutesInAll 8 = .ok (.iaload, 1) := dz0 dzo46 8 dzbX10_minutesInAll_0 rfl
theorem dX10_minutesInAll_9 : decode cX10_minutesInAll 9 = .ok (.ireturn, 1) := dz0 dzo172 9 dzbX10_minutesInAll_0 rfl
theorem dzbX10_placeAfter_0 : dzB cX10_placeAfter 0 [42, 180, 0, 24, 3, 46, 61, 4, 62, 29, 42, 180, 0, 30, 163, 0, 26, 42, 180, 0, 27, 29, 46, 27] := by decide +kernel
theorem dX10_placeAfter_0 : decode cX10_placeAfter 0 = .ok (.aload_n 0, 1) := dz0 dzo42 0 dzbX10_placeAfter_0 rfl
theorem dX10_placeAfter_1 : decode cX10_placeAfter 1 = .ok (.getfield 24, 3) := dz2 dzo180 1 0 24 dzbX10_placeAfter_0 rfl
theorem dX10_placeAfter_4 : decode cX10_placeAfter 4 = .ok (.iconst 0, 1) := dz0 dzo3 4 dzbX10_placeAfter_0 rfl
theorem dX10_placeAfter_5 : decode cX10_placeAfter 5 = .ok (.iaload, 1) := dz0 dzo46 5 dzbX10_placeAfter_0 rfl
theorem dX10_placeAfter_6 : decode cX10_placeAfter 6 = .ok (.istore_n 2, 1) := dz0 dzo61 6 dzbX10_placeAfter_0 rfl
theorem dX10_placeAfter_7 : decode cX10_placeAfter 7 = .ok (.iconst 1, 1) := dz0 dzo4 7 dzbX10_placeAfter_0 rfl
theorem dX10_placeAfter_8 : decode cX10_placeAfter 8 = .ok (.istore_n 3, 1) := dz0 dzo62 8 dzbX10_placeAfter_0 rfl
theorem dX10_placeAfter_9 : decode cX10_placeAfter 9 = .ok (.iload_n 3, 1) := dz0 dzo29 9 dzbX10_placeAfter_0 rfl
theorem dX10_placeAfter_10 : decode cX10_placeAfter 10 = .ok (.aload_n 0, 1) := dz0 dzo42 10 dzbX10_placeAfter_0 rfl
theorem dX10_placeAfter_11 : decode cX10_placeAfter 11 = .ok (.getfield 30, 3) := dz2 dzo180 11 0 30 dzbX10_placeAfter_0 rfl
theorem dX10_placeAfter_14 : decode cX10_placeAfter 14 = .ok (.if_icmp .gt 26, 3) := dz4 dzo163 14 0 26 26 rfl dzbX10_placeAfter_0 rfl
theorem dX10_placeAfter_17 : decode cX10_placeAfter 17 = .ok (.aload_n 0, 1) := dz0 dzo42 17 dzbX10_placeAfter_0 rfl
theorem dX10_placeAfter_18 : decode cX10_placeAfter 18 = .ok (.getfield 27, 3) := dz2 dzo180 18 0 27 dzbX10_placeAfter_0 rfl
theorem dX10_placeAfter_21 : decode cX10_placeAfter 21 = .ok (.iload_n 3, 1) := dz0 dzo29 21 dzbX10_placeAfter_0 rfl
theorem dX10_placeAfter_22 : decode cX10_placeAfter 22 = .ok (.iaload, 1) := dz0 dzo46 22 dzbX10_placeAfter_0 rfl
theorem dX10_placeAfter_23 : decode cX10_placeAfter 23 = .ok (.iload_n 1, 1) := dz0 dzo27 23 dzbX10_placeAfter_0 rfl
theorem dzbX10_placeAfter_24 : dzB cX10_placeAfter 24 [163, 0, 16, 42, 180, 0, 24, 29, 46, 61, 132, 3, 1, 167, 255, 228, 28, 172] := by decide +kernel
theorem dX10_placeAfter_24 : decode cX10_placeAfter 24 = .ok (.if_icmp .gt 16, 3) := dz4 dzo163 0 0 16 16 rfl dzbX10_placeAfter_24 rfl
theorem dX10_placeAfter_27 : decode cX10_placeAfter 27 = .ok (.aload_n 0, 1) := dz0 dzo42 3 dzbX10_placeAfter_24 rfl
theorem dX10_placeAfter_28 : decode cX10_placeAfter 28 = .ok (.getfield 24, 3) := dz2 dzo180 4 0 24 dzbX10_placeAfter_24 rfl
theorem dX10_placeAfter_31 : decode cX10_placeAfter 31 = .ok (.iload_n 3, 1) := dz0 dzo29 7 dzbX10_placeAfter_24 rfl
theorem dX10_placeAfter_32 : decode cX10_placeAfter 32 = .ok (.iaload, 1) := dz0 dzo46 8 dzbX10_placeAfter_24 rfl
theorem dX10_placeAfter_33 : decode cX10_placeAfter 33 = .ok (.istore_n 2, 1) := dz0 dzo61 9 dzbX10_placeAfter_24 rfl
theorem dX10_placeAfter_34 : decode cX10_placeAfter 34 = .ok (.iinc 3 1, 3) := dz5 dzo132 10 3 1 1 rfl dzbX10_placeAfter_24 rfl
theorem dX10_placeAfter_37 : decode cX10_placeAfter 37 = .ok (.goto (-28), 3) := dz4 dzo167 13 255 228 (-28) rfl dzbX10_placeAfter_24 rfl
theorem dX10_placeAfter_40 : decode cX10_placeAfter 40 = .ok (.iload_n 2, 1) := dz0 dzo28 16 dzbX10_placeAfter_24 rfl
theorem dX10_placeAfter_41 : decode cX10_placeAfter 41 = .ok (.ireturn, 1) := dz0 dzo172 17 dzbX10_placeAfter_24 rfl
theorem dzbX10_touches_0 : dzB cX10_touches 0 [3, 61, 28, 42, 180, 0, 30, 163, 0, 21, 42, 180, 0, 24, 28, 46, 27, 160, 0, 5, 4, 172] := by decide +kernel
theorem dX10_touches_0 : decode cX10_touches 0 = .ok (.iconst 0, 1) := dz0 dzo3 0 dzbX10_touches_0 rfl
theorem dX10_touches_1 : decode cX10_touches 1 = .ok (.istore_n 2, 1) := dz0 dzo61 1 dzbX10_touches_0 rfl
theorem dX10_touches_2 : decode cX10_touches 2 = .ok (.iload_n 2, 1) := dz0 dzo28 2 dzbX10_touches_0 rfl
theorem dX10_touches_3 : decode cX10_touches 3 = .ok (.aload_n 0, 1) := dz0 dzo42 3 dzbX10_touches_0 rfl
theorem dX10_touches_4 : decode cX10_touches 4 = .ok (.getfield 30, 3) := dz2 dzo180 4 0 30 dzbX10_touches_0 rfl
theorem dX10_touches_7 : decode cX10_touches 7 = .ok (.if_icmp .gt 21, 3) := dz4 dzo163 7 0 21 21 rfl dzbX10_touches_0 rfl
theorem dX10_touches_10 : decode cX10_touches 10 = .ok (.aload_n 0, 1) := dz0 dzo42 10 dzbX10_touches_0 rfl
theorem dX10_touches_11 : decode cX10_touches 11 = .ok (.getfield 24, 3) := dz2 dzo180 11 0 24 dzbX10_touches_0 rfl
theorem dX10_touches_14 : decode cX10_touches 14 = .ok (.iload_n 2, 1) := dz0 dzo28 14 dzbX10_touches_0 rfl
theorem dX10_touches_15 : decode cX10_touches 15 = .ok (.iaload, 1) := dz0 dzo46 15 dzbX10_touches_0 rfl
theorem dX10_touches_16 : decode cX10_touches 16 = .ok (.iload_n 1, 1) := dz0 dzo27 16 dzbX10_touches_0 rfl
theorem dX10_touches_17 : decode cX10_touches 17 = .ok (.if_icmp .ne 5, 3) := dz4 dzo160 17 0 5 5 rfl dzbX10_touches_0 rfl
theorem dX10_touches_20 : decode cX10_touches 20 = .ok (.iconst 1, 1) := dz0 dzo4 20 dzbX10_touches_0 rfl
theorem dX10_touches_21 : decode cX10_touches 21 = .ok (.ireturn, 1) := dz0 dzo172 21 dzbX10_touches_0 rfl
theorem dzbX10_touches_22 : dzB cX10_touches 22 [132, 2, 1, 167, 255, 233, 3, 172] := by decide +kernel
theorem dX10_touches_22 : decode cX10_touches 22 = .ok (.iinc 2 1, 3) := dz5 dzo132 0 2 1 1 rfl dzbX10_touches_22 rfl
theorem dX10_touches_25 : decode cX10_touches 25 = .ok (.goto (-23), 3) := dz4 dzo167 3 255 233 (-23) rfl dzbX10_touches_22 rfl
theorem dX10_touches_28 : decode cX10_touches 28 = .ok (.iconst 0, 1) := dz0 dzo3 6 dzbX10_touches_22 rfl
theorem dX10_touches_29 : decode cX10_touches 29 = .ok (.ireturn, 1) := dz0 dzo172 7 dzbX10_touches_22 rfl
theorem dzbX10_weigh_0 : dzB cX10_weigh 0 [3, 54, 4, 21, 4, 43, 180, 0, 47, 162, 0, 117, 3, 54, 5, 21, 5, 7, 162, 0, 102, 21, 4, 7] := by decide +kernel
theorem dX10_weigh_0 : decode cX10_weigh 0 = .ok (.iconst 0, 1) := dz0 dzo3 0 dzbX10_weigh_0 rfl
theorem dX10_weigh_1 : decode cX10_weigh 1 = .ok (.istore 4, 2) := dz1 dzo54 1 4 dzbX10_weigh_0 rfl
theorem dX10_weigh_3 : decode cX10_weigh 3 = .ok (.iload 4, 2) := dz1 dzo21 3 4 dzbX10_weigh_0 rfl
theorem dX10_weigh_5 : decode cX10_weigh 5 = .ok (.aload_n 1, 1) := dz0 dzo43 5 dzbX10_weigh_0 rfl
theorem dX10_weigh_6 : decode cX10_weigh 6 = .ok (.getfield 47, 3) := dz2 dzo180 6 0 47 dzbX10_weigh_0 rfl
theorem dX10_weigh_9 : decode cX10_weigh 9 = .ok (.if_icmp .ge 117, 3) := dz4 dzo162 9 0 117 117 rfl dzbX10_weigh_0 rfl
theorem dX10_weigh_12 : decode cX10_weigh 12 = .ok (.iconst 0, 1) := dz0 dzo3 12 dzbX10_weigh_0 rfl
theorem dX10_weigh_13 : decode cX10_weigh 13 = .ok (.istore 5, 2) := dz1 dzo54 13 5 dzbX10_weigh_0 rfl
theorem dX10_weigh_15 : decode cX10_weigh 15 = .ok (.iload 5, 2) := dz1 dzo21 15 5 dzbX10_weigh_0 rfl
theorem dX10_weigh_17 : decode cX10_weigh 17 = .ok (.iconst 4, 1) := dz0 dzo7 17 dzbX10_weigh_0 rfl
theorem dX10_weigh_18 : decode cX10_weigh 18 = .ok (.if_icmp .ge 102, 3) := dz4 dzo162 18 0 102 102 rfl dzbX10_weigh_0 rfl
theorem dX10_weigh_21 : decode cX10_weigh 21 = .ok (.iload 4, 2) := dz1 dzo21 21 4 dzbX10_weigh_0 rfl
theorem dX10_weigh_23 : decode cX10_weigh 23 = .ok (.iconst 4, 1) := dz0 dzo7 23 dzbX10_weigh_0 rfl
theorem dzbX10_weigh_24 : dzB cX10_weigh 24 [104, 21, 5, 96, 54, 6, 43, 28, 21, 4, 21, 5, 182, 0, 59, 54, 7, 42, 180, 0, 9, 21, 6, 2] := by decide +kernel
theorem dX10_weigh_24 : decode cX10_weigh 24 = .ok (.imul, 1) := dz0 dzo104 0 dzbX10_weigh_24 rfl
theorem dX10_weigh_25 : decode cX10_weigh 25 = .ok (.iload 5, 2) := dz1 dzo21 1 5 dzbX10_weigh_24 rfl
theorem dX10_weigh_27 : decode cX10_weigh 27 = .ok (.iadd, 1) := dz0 dzo96 3 dzbX10_weigh_24 rfl
theorem dX10_weigh_28 : decode cX10_weigh 28 = .ok (.istore 6, 2) := dz1 dzo54 4 6 dzbX10_weigh_24 rfl
theorem dX10_weigh_30 : decode cX10_weigh 30 = .ok (.aload_n 1, 1) := dz0 dzo43 6 dzbX10_weigh_24 rfl
theorem dX10_weigh_31 : decode cX10_weigh 31 = .ok (.iload_n 2, 1) := dz0 dzo28 7 dzbX10_weigh_24 rfl
theorem dX10_weigh_32 : decode cX10_weigh 32 = .ok (.iload 4, 2) := dz1 dzo21 8 4 dzbX10_weigh_24 rfl
theorem dX10_weigh_34 : decode cX10_weigh 34 = .ok (.iload 5, 2) := dz1 dzo21 10 5 dzbX10_weigh_24 rfl
theorem dX10_weigh_36 : decode cX10_weigh 36 = .ok (.invokevirtual 59, 3) := dz2 dzo182 12 0 59 dzbX10_weigh_24 rfl
theorem dX10_weigh_39 : decode cX10_weigh 39 = .ok (.istore 7, 2) := dz1 dzo54 15 7 dzbX10_weigh_24 rfl
theorem dX10_weigh_41 : decode cX10_weigh 41 = .ok (.aload_n 0, 1) := dz0 dzo42 17 dzbX10_weigh_24 rfl
theorem dX10_weigh_42 : decode cX10_weigh 42 = .ok (.getfield 9, 3) := dz2 dzo180 18 0 9 dzbX10_weigh_24 rfl
theorem dX10_weigh_45 : decode cX10_weigh 45 = .ok (.iload 6, 2) := dz1 dzo21 21 6 dzbX10_weigh_24 rfl
theorem dX10_weigh_47 : decode cX10_weigh 47 = .ok (.iconst (-1), 1) := dz0 dzo2 23 dzbX10_weigh_24 rfl
theorem dzbX10_weigh_48 : dzB cX10_weigh 48 [79, 21, 7, 16, 254, 159, 0, 61, 43, 28, 21, 4, 21, 5, 182, 0, 63, 54, 8, 42, 180, 0, 9] := by decide +kernel
theorem dX10_weigh_48 : decode cX10_weigh 48 = .ok (.iastore, 1) := dz0 dzo79 0 dzbX10_weigh_48 rfl
theorem dX10_weigh_49 : decode cX10_weigh 49 = .ok (.iload 7, 2) := dz1 dzo21 1 7 dzbX10_weigh_48 rfl
theorem dX10_weigh_51 : decode cX10_weigh 51 = .ok (.bipush (-2), 2) := dz3 dzo16 3 254 (-2) rfl dzbX10_weigh_48 rfl
theorem dX10_weigh_53 : decode cX10_weigh 53 = .ok (.if_icmp .eq 61, 3) := dz4 dzo159 5 0 61 61 rfl dzbX10_weigh_48 rfl
theorem dX10_weigh_56 : decode cX10_weigh 56 = .ok (.aload_n 1, 1) := dz0 dzo43 8 dzbX10_weigh_48 rfl
theorem dX10_weigh_57 : decode cX10_weigh 57 = .ok (.iload_n 2, 1) := dz0 dzo28 9 dzbX10_weigh_48 rfl
theorem dX10_weigh_58 : decode cX10_weigh 58 = .ok (.iload 4, 2) := dz1 dzo21 10 4 dzbX10_weigh_48 rfl
theorem dX10_weigh_60 : decode cX10_weigh 60 = .ok (.iload 5, 2) := dz1 dzo21 12 5 dzbX10_weigh_48 rfl
theorem dX10_weigh_62 : decode cX10_weigh 62 = .ok (.invokevirtual 63, 3) := dz2 dzo182 14 0 63 dzbX10_weigh_48 rfl
theorem dX10_weigh_65 : decode cX10_weigh 65 = .ok (.istore 8, 2) := dz1 dzo54 17 8 dzbX10_weigh_48 rfl
theorem dX10_weigh_67 : decode cX10_weigh 67 = .ok (.aload_n 0, 1) := dz0 dzo42 19 dzbX10_weigh_48 rfl
theorem dX10_weigh_68 : decode cX10_weigh 68 = .ok (.getfield 9, 3) := dz2 dzo180 20 0 9 dzbX10_weigh_48 rfl
theorem dzbX10_weigh_71 : dzB cX10_weigh 71 [21, 6, 43, 21, 4, 21, 5, 182, 0, 66, 79, 42, 180, 0, 15, 21, 6, 29, 153, 0, 15, 21, 8] := by decide +kernel
theorem dX10_weigh_71 : decode cX10_weigh 71 = .ok (.iload 6, 2) := dz1 dzo21 0 6 dzbX10_weigh_71 rfl
theorem dX10_weigh_73 : decode cX10_weigh 73 = .ok (.aload_n 1, 1) := dz0 dzo43 2 dzbX10_weigh_71 rfl
theorem dX10_weigh_74 : decode cX10_weigh 74 = .ok (.iload 4, 2) := dz1 dzo21 3 4 dzbX10_weigh_71 rfl
theorem dX10_weigh_76 : decode cX10_weigh 76 = .ok (.iload 5, 2) := dz1 dzo21 5 5 dzbX10_weigh_71 rfl
theorem dX10_weigh_78 : decode cX10_weigh 78 = .ok (.invokevirtual 66, 3) := dz2 dzo182 7 0 66 dzbX10_weigh_71 rfl
theorem dX10_weigh_81 : decode cX10_weigh 81 = .ok (.iastore, 1) := dz0 dzo79 10 dzbX10_weigh_71 rfl
theorem dX10_weigh_82 : decode cX10_weigh 82 = .ok (.aload_n 0, 1) := dz0 dzo42 11 dzbX10_weigh_71 rfl
theorem dX10_weigh_83 : decode cX10_weigh 83 = .ok (.getfield 15, 3) := dz2 dzo180 12 0 15 dzbX10_weigh_71 rfl
theorem dX10_weigh_86 : decode cX10_weigh 86 = .ok (.iload 6, 2) := dz1 dzo21 15 6 dzbX10_weigh_71 rfl
theorem dX10_weigh_88 : decode cX10_weigh 88 = .ok (.iload_n 3, 1) := dz0 dzo29 17 dzbX10_weigh_71 rfl
theorem dX10_weigh_89 : decode cX10_weigh 89 = .ok (.ifCond .eq 15, 3) := dz4 dzo153 18 0 15 15 rfl dzbX10_weigh_71 rfl
theorem dX10_weigh_92 : decode cX10_weigh 92 = .ok (.iload 8, 2) := dz1 dzo21 21 8 dzbX10_weigh_71 rfl
theorem dzbX10_weigh_94 : dzB cX10_weigh 94 [17, 3, 232, 104, 21, 7, 96, 167, 0, 12, 21, 7, 17, 3, 232, 104, 21, 8, 96, 79, 132, 5, 1] := by decide +kernel
theorem dX10_weigh_94 : decode cX10_weigh 94 = .ok (.sipush 1000, 3) := dz4 dzo17 0 3 232 1000 rfl dzbX10_weigh_94 rfl
theorem dX10_weigh_97 : decode cX10_weigh 97 = .ok (.imul, 1) := dz0 dzo104 3 dzbX10_weigh_94 rfl
theorem dX10_weigh_98 : decode cX10_weigh 98 = .ok (.iload 7, 2) := dz1 dzo21 4 7 dzbX10_weigh_94 rfl
theorem dX10_weigh_100 : decode cX10_weigh 100 = .ok (.iadd, 1) := dz0 dzo96 6 dzbX10_weigh_94 rfl
theorem dX10_weigh_101 : decode cX10_weigh 101 = .ok (.goto 12, 3) := dz4 dzo167 7 0 12 12 rfl dzbX10_weigh_94 rfl
theorem dX10_weigh_104 : decode cX10_weigh 104 = .ok (.iload 7, 2) := dz1 dzo21 10 7 dzbX10_weigh_94 rfl
theorem dX10_weigh_106 : decode cX10_weigh 106 = .ok (.sipush 1000, 3) := dz4 dzo17 12 3 232 1000 rfl dzbX10_weigh_94 rfl
theorem dX10_weigh_109 : decode cX10_weigh 109 = .ok (.imul, 1) := dz0 dzo104 15 dzbX10_weigh_94 rfl
theorem dX10_weigh_110 : decode cX10_weigh 110 = .ok (.iload 8, 2) := dz1 dzo21 16 8 dzbX10_weigh_94 rfl
theorem dX10_weigh_112 : decode cX10_weigh 112 = .ok (.iadd, 1) := dz0 dzo96 18 dzbX10_weigh_94 rfl
theorem dX10_weigh_113 : decode cX10_weigh 113 = .ok (.iastore, 1) := dz0 dzo79 19 dzbX10_weigh_94 rfl
theorem dX10_weigh_114 : decode cX10_weigh 114 = .ok (.iinc 5 1, 3) := dz5 dzo132 20 5 1 1 rfl dzbX10_weigh_94 rfl
theorem dzbX10_weigh_117 : dzB cX10_weigh 117 [167, 255, 154, 132, 4, 1, 167, 255, 136, 177] := by decide +kernel
theorem dX10_weigh_117 : decode cX10_weigh 117 = .ok (.goto (-102), 3) := dz4 dzo167 0 255 154 (-102) rfl dzbX10_weigh_117 rfl
theorem dX10_weigh_120 : decode cX10_weigh 120 = .ok (.iinc 4 1, 3) := dz5 dzo132 3 4 1 1 rfl dzbX10_weigh_117 rfl
theorem dX10_weigh_123 : decode cX10_weigh 123 = .ok (.goto (-120), 3) := dz4 dzo167 6 255 136 (-120) rfl dzbX10_weigh_117 rfl
theorem dX10_weigh_126 : decode cX10_weigh 126 = .ok (.return_, 1) := dz0 dzo177 9 dzbX10_weigh_117 rfl
theorem dzbX11_all_0 : dzB cX11_all 0 [42, 182, 0, 188, 154, 0, 9, 42, 4, 182, 0, 100, 172, 27, 155, 0, 8, 27, 6, 164, 0, 9, 42, 5] := by decide +kernel
theorem dX11_all_0 : decode cX11_all 0 = .ok (.aload_n 0, 1) := dz0 dzo42 0 dzbX11_all_0 rfl
theorem dX11_all_1 : decode cX11_all 1 = .ok (.invokevirtual 188, 3) := dz2 dzo182 1 0 188 dzbX11_all_0 rfl
theorem dX11_all_4 : decode cX11_all 4 = .ok (.ifCond .ne 9, 3) := dz4 dzo154 4 0 9 9 rfl dzbX11_all_0 rfl
theorem dX11_all_7 : decode cX11_all 7 = .ok (.aload_n 0, 1) := dz0 dzo42 7 dzbX11_all_0 rfl
theorem dX11_all_8 : decode cX11_all 8 = .ok (.iconst 1, 1) := dz0 dzo4 8 dzbX11_all_0 rfl
theorem dX11_all_9 : decode cX11_all 9 = .ok (.invokevirtual 100, 3) := dz2 dzo182 9 0 100 dzbX11_all_0 rfl
theorem dX11_all_12 : decode cX11_all 12 = .ok (.ireturn, 1) := dz0 dzo172 12 dzbX11_all_0 rfl
theorem dX11_all_13 : decode cX11_all 13 = .ok (.iload_n 1, 1) := dz0 dzo27 13 dzbX11_all_0 rfl
theorem dX11_all_14 : decode cX11_all 14 = .ok (.ifCond .lt 8, 3) := dz4 dzo155 14 0 8 8 rfl dzbX11_all_0 rfl
theorem dX11_all_17 : decode cX11_all 17 = .ok (.iload_n 1, 1) := dz0 dzo27 17 dzbX11_all_0 rfl
theorem dX11_all_18 : decode cX11_all 18 = .ok (.iconst 3, 1) := dz0 dzo6 18 dzbX11_all_0 rfl
theorem dX11_all_19 : decode cX11_all 19 = .ok (.if_icmp .le 9, 3) := dz4 dzo164 19 0 9 9 rfl dzbX11_all_0 rfl
theorem dX11_all_22 : decode cX11_all 22 = .ok (.aload_n 0, 1) := dz0 dzo42 22 dzbX11_all_0 rfl
theorem dX11_all_23 : decode cX11_all 23 = .ok (.iconst 2, 1) := dz0 dzo5 23 dzbX11_all_0 rfl
theorem dzbX11_all_24 : dzB cX11_all 24 [182, 0, 100, 172, 42, 42, 180, 0, 19, 180, 0, 121, 27, 182, 0, 191, 182, 0, 130, 172] := by decide +kernel
theorem dX11_all_24 : decode cX11_all 24 = .ok (.invokevirtual 100, 3) := dz2 dzo182 0 0 100 dzbX11_all_24 rfl
theorem dX11_all_27 : decode cX11_all 27 = .ok (.ireturn, 1) := dz0 dzo172 3 dzbX11_all_24 rfl
theorem dX11_all_28 : decode cX11_all 28 = .ok (.aload_n 0, 1) := dz0 dzo42 4 dzbX11_all_24 rfl
theorem dX11_all_29 : decode cX11_all 29 = .ok (.aload_n 0, 1) := dz0 dzo42 5 dzbX11_all_24 rfl
theorem dX11_all_30 : decode cX11_all 30 = .ok (.getfield 19, 3) := dz2 dzo180 6 0 19 dzbX11_all_24 rfl
theorem dX11_all_33 : decode cX11_all 33 = .ok (.getfield 121, 3) := dz2 dzo180 9 0 121 dzbX11_all_24 rfl
theorem dX11_all_36 : decode cX11_all 36 = .ok (.iload_n 1, 1) := dz0 dzo27 12 dzbX11_all_24 rfl
theorem dX11_all_37 : decode cX11_all 37 = .ok (.invokevirtual 191, 3) := dz2 dzo182 13 0 191 dzbX11_all_24 rfl
theorem dX11_all_40 : decode cX11_all 40 = .ok (.invokevirtual 130, 3) := dz2 dzo182 16 0 130 dzbX11_all_24 rfl
theorem dX11_all_43 : decode cX11_all 43 = .ok (.ireturn, 1) := dz0 dzo172 19 dzbX11_all_24 rfl
theorem dzbX11_answer_0 : dzB cX11_answer 0 [42, 3, 181, 0, 136, 27, 172] := by decide +kernel
theorem dX11_answer_0 : decode cX11_answer 0 = .ok (.aload_n 0, 1) := dz0 dzo42 0 dzbX11_answer_0 rfl
theorem dX11_answer_1 : decode cX11_answer 1 = .ok (.iconst 0, 1) := dz0 dzo3 1 dzbX11_answer_0 rfl
theorem dX11_answer_2 : decode cX11_answer 2 = .ok (.putfield 136, 3) := dz2 dzo181 2 0 136 dzbX11_answer_0 rfl
theorem dX11_answer_5 : decode cX11_answer 5 = .ok (.iload_n 1, 1) := dz0 dzo27 5 dzbX11_answer_0 rfl
theorem dX11_answer_6 : decode cX11_answer 6 = .ok (.ireturn, 1) := dz0 dzo172 6 dzbX11_answer_0 rfl
theorem dzbX11_back_0 : dzB cX11_back 0 [27, 155, 0, 11, 27, 42, 180, 0, 118, 161, 0, 9, 42, 4, 182, 1, 98, 172, 42, 180, 0, 19, 42] := by decide +kernel
theorem dX11_back_0 : decode cX11_back 0 = .ok (.iload_n 1, 1) := dz0 dzo27 0 dzbX11_back_0 rfl
theorem dX11_back_1 : decode cX11_back 1 = .ok (.ifCond .lt 11, 3) := dz4 dzo155 1 0 11 11 rfl dzbX11_back_0 rfl
theorem dX11_back_4 : decode cX11_back 4 = .ok (.iload_n 1, 1) := dz0 dzo27 4 dzbX11_back_0 rfl
theorem dX11_back_5 : decode cX11_back 5 = .ok (.aload_n 0, 1) := dz0 dzo42 5 dzbX11_back_0 rfl
theorem dX11_back_6 : decode cX11_back 6 = .ok (.getfield 118, 3) := dz2 dzo180 6 0 118 dzbX11_back_0 rfl
theorem dX11_back_9 : decode cX11_back 9 = .ok (.if_icmp .lt 9, 3) := dz4 dzo161 9 0 9 9 rfl dzbX11_back_0 rfl
theorem dX11_back_12 : decode cX11_back 12 = .ok (.aload_n 0, 1) := dz0 dzo42 12 dzbX11_back_0 rfl
theorem dX11_back_13 : decode cX11_back 13 = .ok (.iconst 1, 1) := dz0 dzo4 13 dzbX11_back_0 rfl
theorem dX11_back_14 : decode cX11_back 14 = .ok (.invokevirtual 354, 3) := dz2 dzo182 14 1 98 dzbX11_back_0 rfl
theorem dX11_back_17 : decode cX11_back 17 = .ok (.ireturn, 1) := dz0 dzo172 17 dzbX11_back_0 rfl
theorem dX11_back_18 : decode cX11_back 18 = .ok (.aload_n 0, 1) := dz0 dzo42 18 dzbX11_back_0 rfl
theorem dX11_back_19 : decode cX11_back 19 = .ok (.getfield 19, 3) := dz2 dzo180 19 0 19 dzbX11_back_0 rfl
theorem dX11_back_22 : decode cX11_back 22 = .ok (.aload_n 0, 1) := dz0 dzo42 22 dzbX11_back_0 rfl
theorem dzbX11_back_23 : dzB cX11_back 23 [180, 0, 30, 27, 50, 182, 0, 240, 42, 3, 181, 0, 115, 42, 3, 182, 1, 98, 172] := by decide +kernel
theorem dX11_back_23 : decode cX11_back 23 = .ok (.getfield 30, 3) := dz2 dzo180 0 0 30 dzbX11_back_23 rfl
theorem dX11_back_26 : decode cX11_back 26 = .ok (.iload_n 1, 1) := dz0 dzo27 3 dzbX11_back_23 rfl
theorem dX11_back_27 : decode cX11_back 27 = .ok (.aaload, 1) := dz0 dzo50 4 dzbX11_back_23 rfl
theorem dX11_back_28 : decode cX11_back 28 = .ok (.invokevirtual 240, 3) := dz2 dzo182 5 0 240 dzbX11_back_23 rfl
theorem dX11_back_31 : decode cX11_back 31 = .ok (.aload_n 0, 1) := dz0 dzo42 8 dzbX11_back_23 rfl
theorem dX11_back_32 : decode cX11_back 32 = .ok (.iconst 0, 1) := dz0 dzo3 9 dzbX11_back_23 rfl
theorem dX11_back_33 : decode cX11_back 33 = .ok (.putfield 115, 3) := dz2 dzo181 10 0 115 dzbX11_back_23 rfl
theorem dX11_back_36 : decode cX11_back 36 = .ok (.aload_n 0, 1) := dz0 dzo42 13 dzbX11_back_23 rfl
theorem dX11_back_37 : decode cX11_back 37 = .ok (.iconst 0, 1) := dz0 dzo3 14 dzbX11_back_23 rfl
theorem dX11_back_38 : decode cX11_back 38 = .ok (.invokevirtual 354, 3) := dz2 dzo182 15 1 98 dzbX11_back_23 rfl
theorem dX11_back_41 : decode cX11_back 41 = .ok (.ireturn, 1) := dz0 dzo172 18 dzbX11_back_23 rfl
theorem dzbX11_change_0 : dzB cX11_change 0 [42, 180, 0, 19, 180, 0, 121, 27, 182, 0, 142, 154, 0, 9, 42, 4, 182, 1, 98, 172, 42, 180, 0, 19] := by decide +kernel
theorem dX11_change_0 : decode cX11_change 0 = .ok (.aload_n 0, 1) := dz0 dzo42 0 dzbX11_change_0 rfl
theorem dX11_change_1 : decode cX11_change 1 = .ok (.getfield 19, 3) := dz2 dzo180 1 0 19 dzbX11_change_0 rfl
theorem dX11_change_4 : decode cX11_change 4 = .ok (.getfield 121, 3) := dz2 dzo180 4 0 121 dzbX11_change_0 rfl
theorem dX11_change_7 : decode cX11_change 7 = .ok (.iload_n 1, 1) := dz0 dzo27 7 dzbX11_change_0 rfl
theorem dX11_change_8 : decode cX11_change 8 = .ok (.invokevirtual 142, 3) := dz2 dzo182 8 0 142 dzbX11_change_0 rfl
theorem dX11_change_11 : decode cX11_change 11 = .ok (.ifCond .ne 9, 3) := dz4 dzo154 11 0 9 9 rfl dzbX11_change_0 rfl
theorem dX11_change_14 : decode cX11_change 14 = .ok (.aload_n 0, 1) := dz0 dzo42 14 dzbX11_change_0 rfl
theorem dX11_change_15 : decode cX11_change 15 = .ok (.iconst 1, 1) := dz0 dzo4 15 dzbX11_change_0 rfl
theorem dX11_change_16 : decode cX11_change 16 = .ok (.invokevirtual 354, 3) := dz2 dzo182 16 1 98 dzbX11_change_0 rfl
theorem dX11_change_19 : decode cX11_change 19 = .ok (.ireturn, 1) := dz0 dzo172 19 dzbX11_change_0 rfl
theorem dX11_change_20 : decode cX11_change 20 = .ok (.aload_n 0, 1) := dz0 dzo42 20 dzbX11_change_0 rfl
theorem dX11_change_21 : decode cX11_change 21 = .ok (.getfield 19, 3) := dz2 dzo180 21 0 19 dzbX11_change_0 rfl
theorem dzbX11_change_24 : dzB cX11_change 24 [180, 0, 121, 27, 182, 0, 146, 28, 159, 0, 9, 42, 8, 182, 1, 98, 172, 42, 182, 1, 88, 42] := by decide +kernel
theorem dX11_change_24 : decode cX11_change 24 = .ok (.getfield 121, 3) := dz2 dzo180 0 0 121 dzbX11_change_24 rfl
theorem dX11_change_27 : decode cX11_change 27 = .ok (.iload_n 1, 1) := dz0 dzo27 3 dzbX11_change_24 rfl
theorem dX11_change_28 : decode cX11_change 28 = .ok (.invokevirtual 146, 3) := dz2 dzo182 4 0 146 dzbX11_change_24 rfl
theorem dX11_change_31 : decode cX11_change 31 = .ok (.iload_n 2, 1) := dz0 dzo28 7 dzbX11_change_24 rfl
theorem dX11_change_32 : decode cX11_change 32 = .ok (.if_icmp .eq 9, 3) := dz4 dzo159 8 0 9 9 rfl dzbX11_change_24 rfl
theorem dX11_change_35 : decode cX11_change 35 = .ok (.aload_n 0, 1) := dz0 dzo42 11 dzbX11_change_24 rfl
theorem dX11_change_36 : decode cX11_change 36 = .ok (.iconst 5, 1) := dz0 dzo8 12 dzbX11_change_24 rfl
theorem dX11_change_37 : decode cX11_change 37 = .ok (.invokevirtual 354, 3) := dz2 dzo182 13 1 98 dzbX11_change_24 rfl
theorem dX11_change_40 : decode cX11_change 40 = .ok (.ireturn, 1) := dz0 dzo172 16 dzbX11_change_24 rfl
theorem dX11_change_41 : decode cX11_change 41 = .ok (.aload_n 0, 1) := dz0 dzo42 17 dzbX11_change_24 rfl
theorem dX11_change_42 : decode cX11_change 42 = .ok (.invokevirtual 344, 3) := dz2 dzo182 18 1 88 dzbX11_change_24 rfl
theorem dX11_change_45 : decode cX11_change 45 = .ok (.aload_n 0, 1) := dz0 dzo42 21 dzbX11_change_24 rfl
theorem dzbX11_change_46 : dzB cX11_change 46 [180, 0, 19, 180, 0, 121, 27, 29, 182, 0, 244, 42, 3, 182, 1, 98, 172] := by decide +kernel
theorem dX11_change_46 : decode cX11_change 46 = .ok (.getfield 19, 3) := dz2 dzo180 0 0 19 dzbX11_change_46 rfl
theorem dX11_change_49 : decode cX11_change 49 = .ok (.getfield 121, 3) := dz2 dzo180 3 0 121 dzbX11_change_46 rfl
theorem dX11_change_52 : decode cX11_change 52 = .ok (.iload_n 1, 1) := dz0 dzo27 6 dzbX11_change_46 rfl
theorem dX11_change_53 : decode cX11_change 53 = .ok (.iload_n 3, 1) := dz0 dzo29 7 dzbX11_change_46 rfl
theorem dX11_change_54 : decode cX11_change 54 = .ok (.invokevirtual 244, 3) := dz2 dzo182 8 0 244 dzbX11_change_46 rfl
theorem dX11_change_57 : decode cX11_change 57 = .ok (.aload_n 0, 1) := dz0 dzo42 11 dzbX11_change_46 rfl
theorem dX11_change_58 : decode cX11_change 58 = .ok (.iconst 0, 1) := dz0 dzo3 12 dzbX11_change_46 rfl
theorem dX11_change_59 : decode cX11_change 59 = .ok (.invokevirtual 354, 3) := dz2 dzo182 13 1 98 dzbX11_change_46 rfl
theorem dX11_change_62 : decode cX11_change 62 = .ok (.ireturn, 1) := dz0 dzo172 16 dzbX11_change_46 rfl
theorem dzbX11_cut_0 : dzB cX11_cut 0 [42, 27, 182, 0, 159, 154, 0, 9, 42, 4, 182, 0, 100, 172, 42, 180, 0, 81, 180, 0, 169, 27, 46, 61] := by decide +kernel
theorem dX11_cut_0 : decode cX11_cut 0 = .ok (.aload_n 0, 1) := dz0 dzo42 0 dzbX11_cut_0 rfl
theorem dX11_cut_1 : decode cX11_cut 1 = .ok (.iload_n 1, 1) := dz0 dzo27 1 dzbX11_cut_0 rfl
theorem dX11_cut_2 : decode cX11_cut 2 = .ok (.invokevirtual 159, 3) := dz2 dzo182 2 0 159 dzbX11_cut_0 rfl
theorem dX11_cut_5 : decode cX11_cut 5 = .ok (.ifCond .ne 9, 3) := dz4 dzo154 5 0 9 9 rfl dzbX11_cut_0 rfl
theorem dX11_cut_8 : decode cX11_cut 8 = .ok (.aload_n 0, 1) := dz0 dzo42 8 dzbX11_cut_0 rfl
theorem dX11_cut_9 : decode cX11_cut 9 = .ok (.iconst 1, 1) := dz0 dzo4 9 dzbX11_cut_0 rfl
theorem dX11_cut_10 : decode cX11_cut 10 = .ok (.invokevirtual 100, 3) := dz2 dzo182 10 0 100 dzbX11_cut_0 rfl
theorem dX11_cut_13 : decode cX11_cut 13 = .ok (.ireturn, 1) := dz0 dzo172 13 dzbX11_cut_0 rfl
theorem dX11_cut_14 : decode cX11_cut 14 = .ok (.aload_n 0, 1) := dz0 dzo42 14 dzbX11_cut_0 rfl
theorem dX11_cut_15 : decode cX11_cut 15 = .ok (.getfield 81, 3) := dz2 dzo180 15 0 81 dzbX11_cut_0 rfl
theorem dX11_cut_18 : decode cX11_cut 18 = .ok (.getfield 169, 3) := dz2 dzo180 18 0 169 dzbX11_cut_0 rfl
theorem dX11_cut_21 : decode cX11_cut 21 = .ok (.iload_n 1, 1) := dz0 dzo27 21 dzbX11_cut_0 rfl
theorem dX11_cut_22 : decode cX11_cut 22 = .ok (.iaload, 1) := dz0 dzo46 22 dzbX11_cut_0 rfl
theorem dX11_cut_23 : decode cX11_cut 23 = .ok (.istore_n 2, 1) := dz0 dzo61 23 dzbX11_cut_0 rfl
theorem dzbX11_cut_24 : dzB cX11_cut 24 [42, 180, 0, 53, 42, 180, 0, 19, 180, 0, 121, 42, 180, 0, 81, 180, 0, 162, 27, 46, 42, 180, 0, 19] := by decide +kernel
theorem dX11_cut_24 : decode cX11_cut 24 = .ok (.aload_n 0, 1) := dz0 dzo42 0 dzbX11_cut_24 rfl
theorem dX11_cut_25 : decode cX11_cut 25 = .ok (.getfield 53, 3) := dz2 dzo180 1 0 53 dzbX11_cut_24 rfl
theorem dX11_cut_28 : decode cX11_cut 28 = .ok (.aload_n 0, 1) := dz0 dzo42 4 dzbX11_cut_24 rfl
theorem dX11_cut_29 : decode cX11_cut 29 = .ok (.getfield 19, 3) := dz2 dzo180 5 0 19 dzbX11_cut_24 rfl
theorem dX11_cut_32 : decode cX11_cut 32 = .ok (.getfield 121, 3) := dz2 dzo180 8 0 121 dzbX11_cut_24 rfl
theorem dX11_cut_35 : decode cX11_cut 35 = .ok (.aload_n 0, 1) := dz0 dzo42 11 dzbX11_cut_24 rfl
theorem dX11_cut_36 : decode cX11_cut 36 = .ok (.getfield 81, 3) := dz2 dzo180 12 0 81 dzbX11_cut_24 rfl
theorem dX11_cut_39 : decode cX11_cut 39 = .ok (.getfield 162, 3) := dz2 dzo180 15 0 162 dzbX11_cut_24 rfl
theorem dX11_cut_42 : decode cX11_cut 42 = .ok (.iload_n 1, 1) := dz0 dzo27 18 dzbX11_cut_24 rfl
theorem dX11_cut_43 : decode cX11_cut 43 = .ok (.iaload, 1) := dz0 dzo46 19 dzbX11_cut_24 rfl
theorem dX11_cut_44 : decode cX11_cut 44 = .ok (.aload_n 0, 1) := dz0 dzo42 20 dzbX11_cut_24 rfl
theorem dX11_cut_45 : decode cX11_cut 45 = .ok (.getfield 19, 3) := dz2 dzo180 21 0 19 dzbX11_cut_24 rfl
theorem dzbX11_cut_48 : dzB cX11_cut 48 [180, 0, 166, 27, 46, 28, 182, 0, 226, 42, 180, 0, 19, 180, 0, 121, 6, 182, 0, 191, 4, 42] := by decide +kernel
theorem dX11_cut_48 : decode cX11_cut 48 = .ok (.getfield 166, 3) := dz2 dzo180 0 0 166 dzbX11_cut_48 rfl
theorem dX11_cut_51 : decode cX11_cut 51 = .ok (.iload_n 1, 1) := dz0 dzo27 3 dzbX11_cut_48 rfl
theorem dX11_cut_52 : decode cX11_cut 52 = .ok (.iaload, 1) := dz0 dzo46 4 dzbX11_cut_48 rfl
theorem dX11_cut_53 : decode cX11_cut 53 = .ok (.iload_n 2, 1) := dz0 dzo28 5 dzbX11_cut_48 rfl
theorem dX11_cut_54 : decode cX11_cut 54 = .ok (.invokevirtual 226, 3) := dz2 dzo182 6 0 226 dzbX11_cut_48 rfl
theorem dX11_cut_57 : decode cX11_cut 57 = .ok (.aload_n 0, 1) := dz0 dzo42 9 dzbX11_cut_48 rfl
theorem dX11_cut_58 : decode cX11_cut 58 = .ok (.getfield 19, 3) := dz2 dzo180 10 0 19 dzbX11_cut_48 rfl
theorem dX11_cut_61 : decode cX11_cut 61 = .ok (.getfield 121, 3) := dz2 dzo180 13 0 121 dzbX11_cut_48 rfl
theorem dX11_cut_64 : decode cX11_cut 64 = .ok (.iconst 3, 1) := dz0 dzo6 16 dzbX11_cut_48 rfl
theorem dX11_cut_65 : decode cX11_cut 65 = .ok (.invokevirtual 191, 3) := dz2 dzo182 17 0 191 dzbX11_cut_48 rfl
theorem dX11_cut_68 : decode cX11_cut 68 = .ok (.iconst 1, 1) := dz0 dzo4 20 dzbX11_cut_48 rfl
theorem dX11_cut_69 : decode cX11_cut 69 = .ok (.aload_n 0, 1) := dz0 dzo42 21 dzbX11_cut_48 rfl
theorem dzbX11_cut_70 : dzB cX11_cut 70 [180, 0, 19, 180, 0, 166, 27, 46, 120, 128, 4, 28, 120, 128, 62, 42, 42, 180, 0, 53, 42, 180, 0, 19] := by decide +kernel
theorem dX11_cut_70 : decode cX11_cut 70 = .ok (.getfield 19, 3) := dz2 dzo180 0 0 19 dzbX11_cut_70 rfl
theorem dX11_cut_73 : decode cX11_cut 73 = .ok (.getfield 166, 3) := dz2 dzo180 3 0 166 dzbX11_cut_70 rfl
theorem dX11_cut_76 : decode cX11_cut 76 = .ok (.iload_n 1, 1) := dz0 dzo27 6 dzbX11_cut_70 rfl
theorem dX11_cut_77 : decode cX11_cut 77 = .ok (.iaload, 1) := dz0 dzo46 7 dzbX11_cut_70 rfl
theorem dX11_cut_78 : decode cX11_cut 78 = .ok (.ishl, 1) := dz0 dzo120 8 dzbX11_cut_70 rfl
theorem dX11_cut_79 : decode cX11_cut 79 = .ok (.ior, 1) := dz0 dzo128 9 dzbX11_cut_70 rfl
theorem dX11_cut_80 : decode cX11_cut 80 = .ok (.iconst 1, 1) := dz0 dzo4 10 dzbX11_cut_70 rfl
theorem dX11_cut_81 : decode cX11_cut 81 = .ok (.iload_n 2, 1) := dz0 dzo28 11 dzbX11_cut_70 rfl
theorem dX11_cut_82 : decode cX11_cut 82 = .ok (.ishl, 1) := dz0 dzo120 12 dzbX11_cut_70 rfl
theorem dX11_cut_83 : decode cX11_cut 83 = .ok (.ior, 1) := dz0 dzo128 13 dzbX11_cut_70 rfl
theorem dX11_cut_84 : decode cX11_cut 84 = .ok (.istore_n 3, 1) := dz0 dzo62 14 dzbX11_cut_70 rfl
theorem dX11_cut_85 : decode cX11_cut 85 = .ok (.aload_n 0, 1) := dz0 dzo42 15 dzbX11_cut_70 rfl
theorem dX11_cut_86 : decode cX11_cut 86 = .ok (.aload_n 0, 1) := dz0 dzo42 16 dzbX11_cut_70 rfl
theorem dX11_cut_87 : decode cX11_cut 87 = .ok (.getfield 53, 3) := dz2 dzo180 17 0 53 dzbX11_cut_70 rfl
theorem dX11_cut_90 : decode cX11_cut 90 = .ok (.aload_n 0, 1) := dz0 dzo42 20 dzbX11_cut_70 rfl
theorem dX11_cut_91 : decode cX11_cut 91 = .ok (.getfield 19, 3) := dz2 dzo180 21 0 19 dzbX11_cut_70 rfl
theorem dzbX11_cut_94 : dzB cX11_cut 94 [180, 0, 121, 182, 0, 229, 29, 2, 130, 126, 182, 0, 232, 182, 0, 130, 172] := by decide +kernel
theorem dX11_cut_94 : decode cX11_cut 94 = .ok (.getfield 121, 3) := dz2 dzo180 0 0 121 dzbX11_cut_94 rfl
theorem dX11_cut_97 : decode cX11_cut 97 = .ok (.invokevirtual 229, 3) := dz2 dzo182 3 0 229 dzbX11_cut_94 rfl
theorem dX11_cut_100 : decode cX11_cut 100 = .ok (.iload_n 3, 1) := dz0 dzo29 6 dzbX11_cut_94 rfl
theorem dX11_cut_101 : decode cX11_cut 101 = .ok (.iconst (-1), 1) := dz0 dzo2 7 dzbX11_cut_94 rfl
theorem dX11_cut_102 : decode cX11_cut 102 = .ok (.ixor, 1) := dz0 dzo130 8 dzbX11_cut_94 rfl
theorem dX11_cut_103 : decode cX11_cut 103 = .ok (.iand, 1) := dz0 dzo126 9 dzbX11_cut_94 rfl
theorem dX11_cut_104 : decode cX11_cut 104 = .ok (.invokevirtual 232, 3) := dz2 dzo182 10 0 232 dzbX11_cut_94 rfl
theorem dX11_cut_107 : decode cX11_cut 107 = .ok (.invokevirtual 130, 3) := dz2 dzo182 13 0 130 dzbX11_cut_94 rfl
theorem dX11_cut_110 : decode cX11_cut 110 = .ok (.ireturn, 1) := dz0 dzo172 16 dzbX11_cut_94 rfl
theorem dzbX11_dig_0 : dzB cX11_dig 0 [42, 27, 3, 4, 182, 1, 94, 172] := by decide +kernel
theorem dX11_dig_0 : decode cX11_dig 0 = .ok (.aload_n 0, 1) := dz0 dzo42 0 dzbX11_dig_0 rfl
theorem dX11_dig_1 : decode cX11_dig 1 = .ok (.iload_n 1, 1) := dz0 dzo27 1 dzbX11_dig_0 rfl
theorem dX11_dig_2 : decode cX11_dig 2 = .ok (.iconst 0, 1) := dz0 dzo3 2 dzbX11_dig_0 rfl
theorem dX11_dig_3 : decode cX11_dig 3 = .ok (.iconst 1, 1) := dz0 dzo4 3 dzbX11_dig_0 rfl
theorem dX11_dig_4 : decode cX11_dig 4 = .ok (.invokevirtual 350, 3) := dz2 dzo182 4 1 94 dzbX11_dig_0 rfl
theorem dX11_dig_7 : decode cX11_dig 7 = .ok (.ireturn, 1) := dz0 dzo172 7 dzbX11_dig_0 rfl
theorem dzbX11_dry_0 : dzB cX11_dry 0 [42, 27, 182, 0, 159, 154, 0, 9, 42, 4, 182, 0, 100, 172, 42, 42, 27, 182, 0, 211, 153, 0, 13, 42] := by decide +kernel
theorem dX11_dry_0 : decode cX11_dry 0 = .ok (.aload_n 0, 1) := dz0 dzo42 0 dzbX11_dry_0 rfl
theorem dX11_dry_1 : decode cX11_dry 1 = .ok (.iload_n 1, 1) := dz0 dzo27 1 dzbX11_dry_0 rfl
theorem dX11_dry_2 : decode cX11_dry 2 = .ok (.invokevirtual 159, 3) := dz2 dzo182 2 0 159 dzbX11_dry_0 rfl
theorem dX11_dry_5 : decode cX11_dry 5 = .ok (.ifCond .ne 9, 3) := dz4 dzo154 5 0 9 9 rfl dzbX11_dry_0 rfl
theorem dX11_dry_8 : decode cX11_dry 8 = .ok (.aload_n 0, 1) := dz0 dzo42 8 dzbX11_dry_0 rfl
theorem dX11_dry_9 : decode cX11_dry 9 = .ok (.iconst 1, 1) := dz0 dzo4 9 dzbX11_dry_0 rfl
theorem dX11_dry_10 : decode cX11_dry 10 = .ok (.invokevirtual 100, 3) := dz2 dzo182 10 0 100 dzbX11_dry_0 rfl
theorem dX11_dry_13 : decode cX11_dry 13 = .ok (.ireturn, 1) := dz0 dzo172 13 dzbX11_dry_0 rfl
theorem dX11_dry_14 : decode cX11_dry 14 = .ok (.aload_n 0, 1) := dz0 dzo42 14 dzbX11_dry_0 rfl
theorem dX11_dry_15 : decode cX11_dry 15 = .ok (.aload_n 0, 1) := dz0 dzo42 15 dzbX11_dry_0 rfl
theorem dX11_dry_16 : decode cX11_dry 16 = .ok (.iload_n 1, 1) := dz0 dzo27 16 dzbX11_dry_0 rfl
theorem dX11_dry_17 : decode cX11_dry 17 = .ok (.invokevirtual 211, 3) := dz2 dzo182 17 0 211 dzbX11_dry_0 rfl
theorem dX11_dry_20 : decode cX11_dry 20 = .ok (.ifCond .eq 13, 3) := dz4 dzo153 20 0 13 13 rfl dzbX11_dry_0 rfl
theorem dX11_dry_23 : decode cX11_dry 23 = .ok (.aload_n 0, 1) := dz0 dzo42 23 dzbX11_dry_0 rfl
theorem dzbX11_dry_24 : dzB cX11_dry 24 [180, 0, 36, 180, 0, 202, 167, 0, 5, 16, 254, 182, 0, 130, 172] := by decide +kernel
theorem dX11_dry_24 : decode cX11_dry 24 = .ok (.getfield 36, 3) := dz2 dzo180 0 0 36 dzbX11_dry_24 rfl
theorem dX11_dry_27 : decode cX11_dry 27 = .ok (.getfield 202, 3) := dz2 dzo180 3 0 202 dzbX11_dry_24 rfl
theorem dX11_dry_30 : decode cX11_dry 30 = .ok (.goto 5, 3) := dz4 dzo167 6 0 5 5 rfl dzbX11_dry_24 rfl
theorem dX11_dry_33 : decode cX11_dry 33 = .ok (.bipush (-2), 2) := dz3 dzo16 9 254 (-2) rfl dzbX11_dry_24 rfl
theorem dX11_dry_35 : decode cX11_dry 35 = .ok (.invokevirtual 130, 3) := dz2 dzo182 11 0 130 dzbX11_dry_24 rfl
theorem dX11_dry_38 : decode cX11_dry 38 = .ok (.ireturn, 1) := dz0 dzo172 14 dzbX11_dry_24 rfl
theorem dzbX11_dryAt_0 : dzB cX11_dryAt 0 [42, 27, 182, 0, 159, 153, 0, 22, 42, 27, 182, 0, 211, 153, 0, 14, 42, 180, 0, 36, 28, 182, 0, 205] := by decide +kernel
theorem dX11_dryAt_0 : decode cX11_dryAt 0 = .ok (.aload_n 0, 1) := dz0 dzo42 0 dzbX11_dryAt_0 rfl
theorem dX11_dryAt_1 : decode cX11_dryAt 1 = .ok (.iload_n 1, 1) := dz0 dzo27 1 dzbX11_dryAt_0 rfl
theorem dX11_dryAt_2 : decode cX11_dryAt 2 = .ok (.invokevirtual 159, 3) := dz2 dzo182 2 0 159 dzbX11_dryAt_0 rfl
theorem dX11_dryAt_5 : decode cX11_dryAt 5 = .ok (.ifCond .eq 22, 3) := dz4 dzo153 5 0 22 22 rfl dzbX11_dryAt_0 rfl
theorem dX11_dryAt_8 : decode cX11_dryAt 8 = .ok (.aload_n 0, 1) := dz0 dzo42 8 dzbX11_dryAt_0 rfl
theorem dX11_dryAt_9 : decode cX11_dryAt 9 = .ok (.iload_n 1, 1) := dz0 dzo27 9 dzbX11_dryAt_0 rfl
theorem dX11_dryAt_10 : decode cX11_dryAt 10 = .ok (.invokevirtual 211, 3) := dz2 dzo182 10 0 211 dzbX11_dryAt_0 rfl
theorem dX11_dryAt_13 : decode cX11_dryAt 13 = .ok (.ifCond .eq 14, 3) := dz4 dzo153 13 0 14 14 rfl dzbX11_dryAt_0 rfl
theorem dX11_dryAt_16 : decode cX11_dryAt 16 = .ok (.aload_n 0, 1) := dz0 dzo42 16 dzbX11_dryAt_0 rfl
theorem dX11_dryAt_17 : decode cX11_dryAt 17 = .ok (.getfield 36, 3) := dz2 dzo180 17 0 36 dzbX11_dryAt_0 rfl
theorem dX11_dryAt_20 : decode cX11_dryAt 20 = .ok (.iload_n 2, 1) := dz0 dzo28 20 dzbX11_dryAt_0 rfl
theorem dX11_dryAt_21 : decode cX11_dryAt 21 = .ok (.invokevirtual 205, 3) := dz2 dzo182 21 0 205 dzbX11_dryAt_0 rfl
theorem dzbX11_dryAt_24 : dzB cX11_dryAt 24 [154, 0, 9, 42, 4, 182, 0, 100, 172, 42, 42, 180, 0, 36, 180, 0, 208, 28, 46, 182, 0, 130, 172] := by decide +kernel
theorem dX11_dryAt_24 : decode cX11_dryAt 24 = .ok (.ifCond .ne 9, 3) := dz4 dzo154 0 0 9 9 rfl dzbX11_dryAt_24 rfl
theorem dX11_dryAt_27 : decode cX11_dryAt 27 = .ok (.aload_n 0, 1) := dz0 dzo42 3 dzbX11_dryAt_24 rfl
theorem dX11_dryAt_28 : decode cX11_dryAt 28 = .ok (.iconst 1, 1) := dz0 dzo4 4 dzbX11_dryAt_24 rfl
theorem dX11_dryAt_29 : decode cX11_dryAt 29 = .ok (.invokevirtual 100, 3) := dz2 dzo182 5 0 100 dzbX11_dryAt_24 rfl
theorem dX11_dryAt_32 : decode cX11_dryAt 32 = .ok (.ireturn, 1) := dz0 dzo172 8 dzbX11_dryAt_24 rfl
theorem dX11_dryAt_33 : decode cX11_dryAt 33 = .ok (.aload_n 0, 1) := dz0 dzo42 9 dzbX11_dryAt_24 rfl
theorem dX11_dryAt_34 : decode cX11_dryAt 34 = .ok (.aload_n 0, 1) := dz0 dzo42 10 dzbX11_dryAt_24 rfl
theorem dX11_dryAt_35 : decode cX11_dryAt 35 = .ok (.getfield 36, 3) := dz2 dzo180 11 0 36 dzbX11_dryAt_24 rfl
theorem dX11_dryAt_38 : decode cX11_dryAt 38 = .ok (.getfield 208, 3) := dz2 dzo180 14 0 208 dzbX11_dryAt_24 rfl
theorem dX11_dryAt_41 : decode cX11_dryAt 41 = .ok (.iload_n 2, 1) := dz0 dzo28 17 dzbX11_dryAt_24 rfl
theorem dX11_dryAt_42 : decode cX11_dryAt 42 = .ok (.iaload, 1) := dz0 dzo46 18 dzbX11_dryAt_24 rfl
theorem dX11_dryAt_43 : decode cX11_dryAt 43 = .ok (.invokevirtual 130, 3) := dz2 dzo182 19 0 130 dzbX11_dryAt_24 rfl
theorem dX11_dryAt_46 : decode cX11_dryAt 46 = .ok (.ireturn, 1) := dz0 dzo172 22 dzbX11_dryAt_24 rfl
theorem dzbX11_dryMinutes_0 : dzB cX11_dryMinutes 0 [42, 27, 182, 0, 159, 154, 0, 9, 42, 4, 182, 0, 100, 172, 42, 42, 27, 182, 0, 211, 153, 0, 13, 42] := by decide +kernel
theorem dX11_dryMinutes_0 : decode cX11_dryMinutes 0 = .ok (.aload_n 0, 1) := dz0 dzo42 0 dzbX11_dryMinutes_0 rfl
theorem dX11_dryMinutes_1 : decode cX11_dryMinutes 1 = .ok (.iload_n 1, 1) := dz0 dzo27 1 dzbX11_dryMinutes_0 rfl
theorem dX11_dryMinutes_2 : decode cX11_dryMinutes 2 = .ok (.invokevirtual 159, 3) := dz2 dzo182 2 0 159 dzbX11_dryMinutes_0 rfl
theorem dX11_dryMinutes_5 : decode cX11_dryMinutes 5 = .ok (.ifCond .ne 9, 3) := dz4 dzo154 5 0 9 9 rfl dzbX11_dryMinutes_0 rfl
theorem dX11_dryMinutes_8 : decode cX11_dryMinutes 8 = .ok (.aload_n 0, 1) := dz0 dzo42 8 dzbX11_dryMinutes_0 rfl
theorem dX11_dryMinutes_9 : decode cX11_dryMinutes 9 = .ok (.iconst 1, 1) := dz0 dzo4 9 dzbX11_dryMinutes_0 rfl
theorem dX11_dryMinutes_10 : decode cX11_dryMinutes 10 = .ok (.invokevirtual 100, 3) := dz2 dzo182 10 0 100 dzbX11_dryMinutes_0 rfl
theorem dX11_dryMinutes_13 : decode cX11_dryMinutes 13 = .ok (.ireturn, 1) := dz0 dzo172 13 dzbX11_dryMinutes_0 rfl
theorem dX11_dryMinutes_14 : decode cX11_dryMinutes 14 = .ok (.aload_n 0, 1) := dz0 dzo42 14 dzbX11_dryMinutes_0 rfl
theorem dX11_dryMinutes_15 : decode cX11_dryMinutes 15 = .ok (.aload_n 0, 1) := dz0 dzo42 15 dzbX11_dryMinutes_0 rfl
theorem dX11_dryMinutes_16 : decode cX11_dryMinutes 16 = .ok (.iload_n 1, 1) := dz0 dzo27 16 dzbX11_dryMinutes_0 rfl
theorem dX11_dryMinutes_17 : decode cX11_dryMinutes 17 = .ok (.invokevirtual 211, 3) := dz2 dzo182 17 0 211 dzbX11_dryMinutes_0 rfl
theorem dX11_dryMinutes_20 : decode cX11_dryMinutes 20 = .ok (.ifCond .eq 13, 3) := dz4 dzo153 20 0 13 13 rfl dzbX11_dryMinutes_0 rfl
theorem dX11_dryMinutes_23 : decode cX11_dryMinutes 23 = .ok (.aload_n 0, 1) := dz0 dzo42 23 dzbX11_dryMinutes_0 rfl
theorem dzbX11_dryMinutes_24 : dzB cX11_dryMinutes 24 [180, 0, 36, 182, 0, 198, 167, 0, 5, 16, 254, 182, 0, 130, 172] := by decide +kernel
theorem dX11_dryMinutes_24 : decode cX11_dryMinutes 24 = .ok (.getfield 36, 3) := dz2 dzo180 0 0 36 dzbX11_dryMinutes_24 rfl
theorem dX11_dryMinutes_27 : decode cX11_dryMinutes 27 = .ok (.invokevirtual 198, 3) := dz2 dzo182 3 0 198 dzbX11_dryMinutes_24 rfl
theorem dX11_dryMinutes_30 : decode cX11_dryMinutes 30 = .ok (.goto 5, 3) := dz4 dzo167 6 0 5 5 rfl dzbX11_dryMinutes_24 rfl
theorem dX11_dryMinutes_33 : decode cX11_dryMinutes 33 = .ok (.bipush (-2), 2) := dz3 dzo16 9 254 (-2) rfl dzbX11_dryMinutes_24 rfl
theorem dX11_dryMinutes_35 : decode cX11_dryMinutes 35 = .ok (.invokevirtual 130, 3) := dz2 dzo182 11 0 130 dzbX11_dryMinutes_24 rfl
theorem dX11_dryMinutes_38 : decode cX11_dryMinutes 38 = .ok (.ireturn, 1) := dz0 dzo172 14 dzbX11_dryMinutes_24 rfl
theorem dzbX11_fallOdds_0 : dzB cX11_fallOdds 0 [42, 27, 182, 0, 159, 154, 0, 10, 42, 4, 182, 0, 100, 133, 173, 28, 155, 0, 9, 28, 16, 9] := by decide +kernel
theorem dX11_fallOdds_0 : decode cX11_fallOdds 0 = .ok (.aload_n 0, 1) := dz0 dzo42 0 dzbX11_fallOdds_0 rfl
theorem dX11_fallOdds_1 : decode cX11_fallOdds 1 = .ok (.iload_n 1, 1) := dz0 dzo27 1 dzbX11_fallOdds_0 rfl
theorem dX11_fallOdds_2 : decode cX11_fallOdds 2 = .ok (.invokevirtual 159, 3) := dz2 dzo182 2 0 159 dzbX11_fallOdds_0 rfl
theorem dX11_fallOdds_5 : decode cX11_fallOdds 5 = .ok (.ifCond .ne 10, 3) := dz4 dzo154 5 0 10 10 rfl dzbX11_fallOdds_0 rfl
theorem dX11_fallOdds_8 : decode cX11_fallOdds 8 = .ok (.aload_n 0, 1) := dz0 dzo42 8 dzbX11_fallOdds_0 rfl
theorem dX11_fallOdds_9 : decode cX11_fallOdds 9 = .ok (.iconst 1, 1) := dz0 dzo4 9 dzbX11_fallOdds_0 rfl
theorem dX11_fallOdds_10 : decode cX11_fallOdds 10 = .ok (.invokevirtual 100, 3) := dz2 dzo182 10 0 100 dzbX11_fallOdds_0 rfl
theorem dX11_fallOdds_13 : decode cX11_fallOdds 13 = .ok (.i2l, 1) := dz0 dzo133 13 dzbX11_fallOdds_0 rfl
theorem dX11_fallOdds_14 : decode cX11_fallOdds 14 = .ok (.lreturn, 1) := dz0 dzo173 14 dzbX11_fallOdds_0 rfl
theorem dX11_fallOdds_15 : decode cX11_fallOdds 15 = .ok (.iload_n 2, 1) := dz0 dzo28 15 dzbX11_fallOdds_0 rfl
theorem dX11_fallOdds_16 : decode cX11_fallOdds 16 = .ok (.ifCond .lt 9, 3) := dz4 dzo155 16 0 9 9 rfl dzbX11_fallOdds_0 rfl
theorem dX11_fallOdds_19 : decode cX11_fallOdds 19 = .ok (.iload_n 2, 1) := dz0 dzo28 19 dzbX11_fallOdds_0 rfl
theorem dX11_fallOdds_20 : decode cX11_fallOdds 20 = .ok (.bipush 9, 2) := dz3 dzo16 20 9 9 rfl dzbX11_fallOdds_0 rfl
theorem dzbX11_fallOdds_22 : dzB cX11_fallOdds 22 [164, 0, 10, 42, 5, 182, 0, 100, 133, 173, 42, 27, 182, 0, 211, 154, 0, 11, 42, 16, 6, 182, 0, 100] := by decide +kernel
theorem dX11_fallOdds_22 : decode cX11_fallOdds 22 = .ok (.if_icmp .le 10, 3) := dz4 dzo164 0 0 10 10 rfl dzbX11_fallOdds_22 rfl
theorem dX11_fallOdds_25 : decode cX11_fallOdds 25 = .ok (.aload_n 0, 1) := dz0 dzo42 3 dzbX11_fallOdds_22 rfl
theorem dX11_fallOdds_26 : decode cX11_fallOdds 26 = .ok (.iconst 2, 1) := dz0 dzo5 4 dzbX11_fallOdds_22 rfl
theorem dX11_fallOdds_27 : decode cX11_fallOdds 27 = .ok (.invokevirtual 100, 3) := dz2 dzo182 5 0 100 dzbX11_fallOdds_22 rfl
theorem dX11_fallOdds_30 : decode cX11_fallOdds 30 = .ok (.i2l, 1) := dz0 dzo133 8 dzbX11_fallOdds_22 rfl
theorem dX11_fallOdds_31 : decode cX11_fallOdds 31 = .ok (.lreturn, 1) := dz0 dzo173 9 dzbX11_fallOdds_22 rfl
theorem dX11_fallOdds_32 : decode cX11_fallOdds 32 = .ok (.aload_n 0, 1) := dz0 dzo42 10 dzbX11_fallOdds_22 rfl
theorem dX11_fallOdds_33 : decode cX11_fallOdds 33 = .ok (.iload_n 1, 1) := dz0 dzo27 11 dzbX11_fallOdds_22 rfl
theorem dX11_fallOdds_34 : decode cX11_fallOdds 34 = .ok (.invokevirtual 211, 3) := dz2 dzo182 12 0 211 dzbX11_fallOdds_22 rfl
theorem dX11_fallOdds_37 : decode cX11_fallOdds 37 = .ok (.ifCond .ne 11, 3) := dz4 dzo154 15 0 11 11 rfl dzbX11_fallOdds_22 rfl
theorem dX11_fallOdds_40 : decode cX11_fallOdds 40 = .ok (.aload_n 0, 1) := dz0 dzo42 18 dzbX11_fallOdds_22 rfl
theorem dX11_fallOdds_41 : decode cX11_fallOdds 41 = .ok (.bipush 6, 2) := dz3 dzo16 19 6 6 rfl dzbX11_fallOdds_22 rfl
theorem dX11_fallOdds_43 : decode cX11_fallOdds 43 = .ok (.invokevirtual 100, 3) := dz2 dzo182 21 0 100 dzbX11_fallOdds_22 rfl
theorem dzbX11_fallOdds_46 : dzB cX11_fallOdds 46 [133, 173, 42, 180, 0, 74, 42, 180, 0, 36, 180, 0, 202, 28, 42, 180, 0, 81, 180, 1, 73, 182, 1, 76] := by decide +kernel
theorem dX11_fallOdds_46 : decode cX11_fallOdds 46 = .ok (.i2l, 1) := dz0 dzo133 0 dzbX11_fallOdds_46 rfl
theorem dX11_fallOdds_47 : decode cX11_fallOdds 47 = .ok (.lreturn, 1) := dz0 dzo173 1 dzbX11_fallOdds_46 rfl
theorem dX11_fallOdds_48 : decode cX11_fallOdds 48 = .ok (.aload_n 0, 1) := dz0 dzo42 2 dzbX11_fallOdds_46 rfl
theorem dX11_fallOdds_49 : decode cX11_fallOdds 49 = .ok (.getfield 74, 3) := dz2 dzo180 3 0 74 dzbX11_fallOdds_46 rfl
theorem dX11_fallOdds_52 : decode cX11_fallOdds 52 = .ok (.aload_n 0, 1) := dz0 dzo42 6 dzbX11_fallOdds_46 rfl
theorem dX11_fallOdds_53 : decode cX11_fallOdds 53 = .ok (.getfield 36, 3) := dz2 dzo180 7 0 36 dzbX11_fallOdds_46 rfl
theorem dX11_fallOdds_56 : decode cX11_fallOdds 56 = .ok (.getfield 202, 3) := dz2 dzo180 10 0 202 dzbX11_fallOdds_46 rfl
theorem dX11_fallOdds_59 : decode cX11_fallOdds 59 = .ok (.iload_n 2, 1) := dz0 dzo28 13 dzbX11_fallOdds_46 rfl
theorem dX11_fallOdds_60 : decode cX11_fallOdds 60 = .ok (.aload_n 0, 1) := dz0 dzo42 14 dzbX11_fallOdds_46 rfl
theorem dX11_fallOdds_61 : decode cX11_fallOdds 61 = .ok (.getfield 81, 3) := dz2 dzo180 15 0 81 dzbX11_fallOdds_46 rfl
theorem dX11_fallOdds_64 : decode cX11_fallOdds 64 = .ok (.getfield 329, 3) := dz2 dzo180 18 1 73 dzbX11_fallOdds_46 rfl
theorem dX11_fallOdds_67 : decode cX11_fallOdds 67 = .ok (.invokevirtual 332, 3) := dz2 dzo182 21 1 76 dzbX11_fallOdds_46 rfl
theorem dzbX11_fallOdds_70 : dzB cX11_fallOdds 70 [42, 29, 182, 1, 32, 173] := by decide +kernel
theorem dX11_fallOdds_70 : decode cX11_fallOdds 70 = .ok (.aload_n 0, 1) := dz0 dzo42 0 dzbX11_fallOdds_70 rfl
theorem dX11_fallOdds_71 : decode cX11_fallOdds 71 = .ok (.iload_n 3, 1) := dz0 dzo29 1 dzbX11_fallOdds_70 rfl
theorem dX11_fallOdds_72 : decode cX11_fallOdds 72 = .ok (.invokevirtual 288, 3) := dz2 dzo182 2 1 32 dzbX11_fallOdds_70 rfl
theorem dX11_fallOdds_75 : decode cX11_fallOdds 75 = .ok (.lreturn, 1) := dz0 dzo173 5 dzbX11_fallOdds_70 rfl
theorem dzbX11_falls_0 : dzB cX11_falls 0 [42, 27, 182, 0, 159, 153, 0, 17, 42, 180, 0, 19, 180, 0, 121, 28, 182, 0, 142, 154, 0, 9, 42, 4] := by decide +kernel
theorem dX11_falls_0 : decode cX11_falls 0 = .ok (.aload_n 0, 1) := dz0 dzo42 0 dzbX11_falls_0 rfl
theorem dX11_falls_1 : decode cX11_falls 1 = .ok (.iload_n 1, 1) := dz0 dzo27 1 dzbX11_falls_0 rfl
theorem dX11_falls_2 : decode cX11_falls 2 = .ok (.invokevirtual 159, 3) := dz2 dzo182 2 0 159 dzbX11_falls_0 rfl
theorem dX11_falls_5 : decode cX11_falls 5 = .ok (.ifCond .eq 17, 3) := dz4 dzo153 5 0 17 17 rfl dzbX11_falls_0 rfl
theorem dX11_falls_8 : decode cX11_falls 8 = .ok (.aload_n 0, 1) := dz0 dzo42 8 dzbX11_falls_0 rfl
theorem dX11_falls_9 : decode cX11_falls 9 = .ok (.getfield 19, 3) := dz2 dzo180 9 0 19 dzbX11_falls_0 rfl
theorem dX11_falls_12 : decode cX11_falls 12 = .ok (.getfield 121, 3) := dz2 dzo180 12 0 121 dzbX11_falls_0 rfl
theorem dX11_falls_15 : decode cX11_falls 15 = .ok (.iload_n 2, 1) := dz0 dzo28 15 dzbX11_falls_0 rfl
theorem dX11_falls_16 : decode cX11_falls 16 = .ok (.invokevirtual 142, 3) := dz2 dzo182 16 0 142 dzbX11_falls_0 rfl
theorem dX11_falls_19 : decode cX11_falls 19 = .ok (.ifCond .ne 9, 3) := dz4 dzo154 19 0 9 9 rfl dzbX11_falls_0 rfl
theorem dX11_falls_22 : decode cX11_falls 22 = .ok (.aload_n 0, 1) := dz0 dzo42 22 dzbX11_falls_0 rfl
theorem dX11_falls_23 : decode cX11_falls 23 = .ok (.iconst 1, 1) := dz0 dzo4 23 dzbX11_falls_0 rfl
theorem dzbX11_falls_24 : dzB cX11_falls 24 [182, 0, 100, 172, 29, 184, 0, 178, 154, 0, 9, 42, 5, 182, 0, 100, 172, 42, 180, 0, 81, 180, 0, 162] := by decide +kernel
theorem dX11_falls_24 : decode cX11_falls 24 = .ok (.invokevirtual 100, 3) := dz2 dzo182 0 0 100 dzbX11_falls_24 rfl
theorem dX11_falls_27 : decode cX11_falls 27 = .ok (.ireturn, 1) := dz0 dzo172 3 dzbX11_falls_24 rfl
theorem dX11_falls_28 : decode cX11_falls 28 = .ok (.iload_n 3, 1) := dz0 dzo29 4 dzbX11_falls_24 rfl
theorem dX11_falls_29 : decode cX11_falls 29 = .ok (.invokestatic 178, 3) := dz2 dzo184 5 0 178 dzbX11_falls_24 rfl
theorem dX11_falls_32 : decode cX11_falls 32 = .ok (.ifCond .ne 9, 3) := dz4 dzo154 8 0 9 9 rfl dzbX11_falls_24 rfl
theorem dX11_falls_35 : decode cX11_falls 35 = .ok (.aload_n 0, 1) := dz0 dzo42 11 dzbX11_falls_24 rfl
theorem dX11_falls_36 : decode cX11_falls 36 = .ok (.iconst 2, 1) := dz0 dzo5 12 dzbX11_falls_24 rfl
theorem dX11_falls_37 : decode cX11_falls 37 = .ok (.invokevirtual 100, 3) := dz2 dzo182 13 0 100 dzbX11_falls_24 rfl
theorem dX11_falls_40 : decode cX11_falls 40 = .ok (.ireturn, 1) := dz0 dzo172 16 dzbX11_falls_24 rfl
theorem dX11_falls_41 : decode cX11_falls 41 = .ok (.aload_n 0, 1) := dz0 dzo42 17 dzbX11_falls_24 rfl
theorem dX11_falls_42 : decode cX11_falls 42 = .ok (.getfield 81, 3) := dz2 dzo180 18 0 81 dzbX11_falls_24 rfl
theorem dX11_falls_45 : decode cX11_falls 45 = .ok (.getfield 162, 3) := dz2 dzo180 21 0 162 dzbX11_falls_24 rfl
theorem dzbX11_falls_48 : dzB cX11_falls 48 [27, 46, 54, 4, 42, 180, 0, 19, 180, 0, 121, 21, 4, 28, 29, 182, 0, 181, 16, 254, 159, 0, 7, 4] := by decide +kernel
theorem dX11_falls_48 : decode cX11_falls 48 = .ok (.iload_n 1, 1) := dz0 dzo27 0 dzbX11_falls_48 rfl
theorem dX11_falls_49 : decode cX11_falls 49 = .ok (.iaload, 1) := dz0 dzo46 1 dzbX11_falls_48 rfl
theorem dX11_falls_50 : decode cX11_falls 50 = .ok (.istore 4, 2) := dz1 dzo54 2 4 dzbX11_falls_48 rfl
theorem dX11_falls_52 : decode cX11_falls 52 = .ok (.aload_n 0, 1) := dz0 dzo42 4 dzbX11_falls_48 rfl
theorem dX11_falls_53 : decode cX11_falls 53 = .ok (.getfield 19, 3) := dz2 dzo180 5 0 19 dzbX11_falls_48 rfl
theorem dX11_falls_56 : decode cX11_falls 56 = .ok (.getfield 121, 3) := dz2 dzo180 8 0 121 dzbX11_falls_48 rfl
theorem dX11_falls_59 : decode cX11_falls 59 = .ok (.iload 4, 2) := dz1 dzo21 11 4 dzbX11_falls_48 rfl
theorem dX11_falls_61 : decode cX11_falls 61 = .ok (.iload_n 2, 1) := dz0 dzo28 13 dzbX11_falls_48 rfl
theorem dX11_falls_62 : decode cX11_falls 62 = .ok (.iload_n 3, 1) := dz0 dzo29 14 dzbX11_falls_48 rfl
theorem dX11_falls_63 : decode cX11_falls 63 = .ok (.invokevirtual 181, 3) := dz2 dzo182 15 0 181 dzbX11_falls_48 rfl
theorem dX11_falls_66 : decode cX11_falls 66 = .ok (.bipush (-2), 2) := dz3 dzo16 18 254 (-2) rfl dzbX11_falls_48 rfl
theorem dX11_falls_68 : decode cX11_falls 68 = .ok (.if_icmp .eq 7, 3) := dz4 dzo159 20 0 7 7 rfl dzbX11_falls_48 rfl
theorem dX11_falls_71 : decode cX11_falls 71 = .ok (.iconst 1, 1) := dz0 dzo4 23 dzbX11_falls_48 rfl
theorem dzbX11_falls_72 : dzB cX11_falls 72 [167, 0, 4, 3, 54, 5, 42, 21, 5, 153, 0, 20, 42, 180, 0, 19, 180, 0, 121, 21, 4, 28, 29] := by decide +kernel
theorem dX11_falls_72 : decode cX11_falls 72 = .ok (.goto 4, 3) := dz4 dzo167 0 0 4 4 rfl dzbX11_falls_72 rfl
theorem dX11_falls_75 : decode cX11_falls 75 = .ok (.iconst 0, 1) := dz0 dzo3 3 dzbX11_falls_72 rfl
theorem dX11_falls_76 : decode cX11_falls 76 = .ok (.istore 5, 2) := dz1 dzo54 4 5 dzbX11_falls_72 rfl
theorem dX11_falls_78 : decode cX11_falls 78 = .ok (.aload_n 0, 1) := dz0 dzo42 6 dzbX11_falls_72 rfl
theorem dX11_falls_79 : decode cX11_falls 79 = .ok (.iload 5, 2) := dz1 dzo21 7 5 dzbX11_falls_72 rfl
theorem dX11_falls_81 : decode cX11_falls 81 = .ok (.ifCond .eq 20, 3) := dz4 dzo153 9 0 20 20 rfl dzbX11_falls_72 rfl
theorem dX11_falls_84 : decode cX11_falls 84 = .ok (.aload_n 0, 1) := dz0 dzo42 12 dzbX11_falls_72 rfl
theorem dX11_falls_85 : decode cX11_falls 85 = .ok (.getfield 19, 3) := dz2 dzo180 13 0 19 dzbX11_falls_72 rfl
theorem dX11_falls_88 : decode cX11_falls 88 = .ok (.getfield 121, 3) := dz2 dzo180 16 0 121 dzbX11_falls_72 rfl
theorem dX11_falls_91 : decode cX11_falls 91 = .ok (.iload 4, 2) := dz1 dzo21 19 4 dzbX11_falls_72 rfl
theorem dX11_falls_93 : decode cX11_falls 93 = .ok (.iload_n 2, 1) := dz0 dzo28 21 dzbX11_falls_72 rfl
theorem dX11_falls_94 : decode cX11_falls 94 = .ok (.iload_n 3, 1) := dz0 dzo29 22 dzbX11_falls_72 rfl
theorem dzbX11_falls_95 : dzB cX11_falls 95 [182, 0, 185, 167, 0, 5, 16, 254, 182, 0, 130, 172] := by decide +kernel
theorem dX11_falls_95 : decode cX11_falls 95 = .ok (.invokevirtual 185, 3) := dz2 dzo182 0 0 185 dzbX11_falls_95 rfl
theorem dX11_falls_98 : decode cX11_falls 98 = .ok (.goto 5, 3) := dz4 dzo167 3 0 5 5 rfl dzbX11_falls_95 rfl
theorem dX11_falls_101 : decode cX11_falls 101 = .ok (.bipush (-2), 2) := dz3 dzo16 6 254 (-2) rfl dzbX11_falls_95 rfl
theorem dX11_falls_103 : decode cX11_falls 103 = .ok (.invokevirtual 130, 3) := dz2 dzo182 8 0 130 dzbX11_falls_95 rfl
theorem dX11_falls_106 : decode cX11_falls 106 = .ok (.ireturn, 1) := dz0 dzo172 11 dzbX11_falls_95 rfl
theorem dzbX11_fault_0 : dzB cX11_fault 0 [42, 180, 0, 10, 180, 0, 133, 172] := by decide +kernel
theorem dX11_fault_0 : decode cX11_fault 0 = .ok (.aload_n 0, 1) := dz0 dzo42 0 dzbX11_fault_0 rfl
theorem dX11_fault_1 : decode cX11_fault 1 = .ok (.getfield 10, 3) := dz2 dzo180 1 0 10 dzbX11_fault_0 rfl
theorem dX11_fault_4 : decode cX11_fault 4 = .ok (.getfield 133, 3) := dz2 dzo180 4 0 133 dzbX11_fault_0 rfl
theorem dX11_fault_7 : decode cX11_fault 7 = .ok (.ireturn, 1) := dz0 dzo172 7 dzbX11_fault_0 rfl
theorem dzbX11_feed_0 : dzB cX11_feed 0 [42, 180, 0, 10, 182, 0, 88, 154, 0, 5, 2, 172, 42, 180, 0, 10, 27, 182, 0, 92, 42, 180, 0, 10] := by decide +kernel
theorem dX11_feed_0 : decode cX11_feed 0 = .ok (.aload_n 0, 1) := dz0 dzo42 0 dzbX11_feed_0 rfl
theorem dX11_feed_1 : decode cX11_feed 1 = .ok (.getfield 10, 3) := dz2 dzo180 1 0 10 dzbX11_feed_0 rfl
theorem dX11_feed_4 : decode cX11_feed 4 = .ok (.invokevirtual 88, 3) := dz2 dzo182 4 0 88 dzbX11_feed_0 rfl
theorem dX11_feed_7 : decode cX11_feed 7 = .ok (.ifCond .ne 5, 3) := dz4 dzo154 7 0 5 5 rfl dzbX11_feed_0 rfl
theorem dX11_feed_10 : decode cX11_feed 10 = .ok (.iconst (-1), 1) := dz0 dzo2 10 dzbX11_feed_0 rfl
theorem dX11_feed_11 : decode cX11_feed 11 = .ok (.ireturn, 1) := dz0 dzo172 11 dzbX11_feed_0 rfl
theorem dX11_feed_12 : decode cX11_feed 12 = .ok (.aload_n 0, 1) := dz0 dzo42 12 dzbX11_feed_0 rfl
theorem dX11_feed_13 : decode cX11_feed 13 = .ok (.getfield 10, 3) := dz2 dzo180 13 0 10 dzbX11_feed_0 rfl
theorem dX11_feed_16 : decode cX11_feed 16 = .ok (.iload_n 1, 1) := dz0 dzo27 16 dzbX11_feed_0 rfl
theorem dX11_feed_17 : decode cX11_feed 17 = .ok (.invokevirtual 92, 3) := dz2 dzo182 17 0 92 dzbX11_feed_0 rfl
theorem dX11_feed_20 : decode cX11_feed 20 = .ok (.aload_n 0, 1) := dz0 dzo42 20 dzbX11_feed_0 rfl
theorem dX11_feed_21 : decode cX11_feed 21 = .ok (.getfield 10, 3) := dz2 dzo180 21 0 10 dzbX11_feed_0 rfl
theorem dzbX11_feed_24 : dzB cX11_feed 24 [28, 182, 0, 92, 42, 180, 0, 10, 29, 182, 0, 92, 42, 180, 0, 10, 21, 4, 182, 0, 92, 42] := by decide +kernel
theorem dX11_feed_24 : decode cX11_feed 24 = .ok (.iload_n 2, 1) := dz0 dzo28 0 dzbX11_feed_24 rfl
theorem dX11_feed_25 : decode cX11_feed 25 = .ok (.invokevirtual 92, 3) := dz2 dzo182 1 0 92 dzbX11_feed_24 rfl
theorem dX11_feed_28 : decode cX11_feed 28 = .ok (.aload_n 0, 1) := dz0 dzo42 4 dzbX11_feed_24 rfl
theorem dX11_feed_29 : decode cX11_feed 29 = .ok (.getfield 10, 3) := dz2 dzo180 5 0 10 dzbX11_feed_24 rfl
theorem dX11_feed_32 : decode cX11_feed 32 = .ok (.iload_n 3, 1) := dz0 dzo29 8 dzbX11_feed_24 rfl
theorem dX11_feed_33 : decode cX11_feed 33 = .ok (.invokevirtual 92, 3) := dz2 dzo182 9 0 92 dzbX11_feed_24 rfl
theorem dX11_feed_36 : decode cX11_feed 36 = .ok (.aload_n 0, 1) := dz0 dzo42 12 dzbX11_feed_24 rfl
theorem dX11_feed_37 : decode cX11_feed 37 = .ok (.getfield 10, 3) := dz2 dzo180 13 0 10 dzbX11_feed_24 rfl
theorem dX11_feed_40 : decode cX11_feed 40 = .ok (.iload 4, 2) := dz1 dzo21 16 4 dzbX11_feed_24 rfl
theorem dX11_feed_42 : decode cX11_feed 42 = .ok (.invokevirtual 92, 3) := dz2 dzo182 18 0 92 dzbX11_feed_24 rfl
theorem dX11_feed_45 : decode cX11_feed 45 = .ok (.aload_n 0, 1) := dz0 dzo42 21 dzbX11_feed_24 rfl
theorem dzbX11_feed_46 : dzB cX11_feed 46 [180, 0, 10, 21, 5, 182, 0, 92, 42, 180, 0, 10, 180, 0, 96, 172] := by decide +kernel
theorem dX11_feed_46 : decode cX11_feed 46 = .ok (.getfield 10, 3) := dz2 dzo180 0 0 10 dzbX11_feed_46 rfl
theorem dX11_feed_49 : decode cX11_feed 49 = .ok (.iload 5, 2) := dz1 dzo21 3 5 dzbX11_feed_46 rfl
theorem dX11_feed_51 : decode cX11_feed 51 = .ok (.invokevirtual 92, 3) := dz2 dzo182 5 0 92 dzbX11_feed_46 rfl
theorem dX11_feed_54 : decode cX11_feed 54 = .ok (.aload_n 0, 1) := dz0 dzo42 8 dzbX11_feed_46 rfl
theorem dX11_feed_55 : decode cX11_feed 55 = .ok (.getfield 10, 3) := dz2 dzo180 9 0 10 dzbX11_feed_46 rfl
theorem dX11_feed_58 : decode cX11_feed 58 = .ok (.getfield 96, 3) := dz2 dzo180 12 0 96 dzbX11_feed_46 rfl
theorem dX11_feed_61 : decode cX11_feed 61 = .ok (.ireturn, 1) := dz0 dzo172 15 dzbX11_feed_46 rfl
theorem dzbX11_fill_0 : dzB cX11_fill 0 [42, 27, 4, 3, 182, 1, 94, 172] := by decide +kernel
theorem dX11_fill_0 : decode cX11_fill 0 = .ok (.aload_n 0, 1) := dz0 dzo42 0 dzbX11_fill_0 rfl
theorem dX11_fill_1 : decode cX11_fill 1 = .ok (.iload_n 1, 1) := dz0 dzo27 1 dzbX11_fill_0 rfl
theorem dX11_fill_2 : decode cX11_fill 2 = .ok (.iconst 1, 1) := dz0 dzo4 2 dzbX11_fill_0 rfl
theorem dX11_fill_3 : decode cX11_fill 3 = .ok (.iconst 0, 1) := dz0 dzo3 3 dzbX11_fill_0 rfl
theorem dX11_fill_4 : decode cX11_fill 4 = .ok (.invokevirtual 350, 3) := dz2 dzo182 4 1 94 dzbX11_fill_0 rfl
theorem dX11_fill_7 : decode cX11_fill 7 = .ok (.ireturn, 1) := dz0 dzo172 7 dzbX11_fill_0 rfl
theorem dzbX11_findDry_0 : dzB cX11_findDry 0 [42, 180, 0, 36, 42, 180, 0, 19, 180, 0, 121, 42, 180, 0, 81, 180, 0, 162, 27, 46, 42, 180, 0, 19] := by decide +kernel
theorem dX11_findDry_0 : decode cX11_findDry 0 = .ok (.aload_n 0, 1) := dz0 dzo42 0 dzbX11_findDry_0 rfl
theorem dX11_findDry_1 : decode cX11_findDry 1 = .ok (.getfield 36, 3) := dz2 dzo180 1 0 36 dzbX11_findDry_0 rfl
theorem dX11_findDry_4 : decode cX11_findDry 4 = .ok (.aload_n 0, 1) := dz0 dzo42 4 dzbX11_findDry_0 rfl
theorem dX11_findDry_5 : decode cX11_findDry 5 = .ok (.getfield 19, 3) := dz2 dzo180 5 0 19 dzbX11_findDry_0 rfl
theorem dX11_findDry_8 : decode cX11_findDry 8 = .ok (.getfield 121, 3) := dz2 dzo180 8 0 121 dzbX11_findDry_0 rfl
theorem dX11_findDry_11 : decode cX11_findDry 11 = .ok (.aload_n 0, 1) := dz0 dzo42 11 dzbX11_findDry_0 rfl
theorem dX11_findDry_12 : decode cX11_findDry 12 = .ok (.getfield 81, 3) := dz2 dzo180 12 0 81 dzbX11_findDry_0 rfl
theorem dX11_findDry_15 : decode cX11_findDry 15 = .ok (.getfield 162, 3) := dz2 dzo180 15 0 162 dzbX11_findDry_0 rfl
theorem dX11_findDry_18 : decode cX11_findDry 18 = .ok (.iload_n 1, 1) := dz0 dzo27 18 dzbX11_findDry_0 rfl
theorem dX11_findDry_19 : decode cX11_findDry 19 = .ok (.iaload, 1) := dz0 dzo46 19 dzbX11_findDry_0 rfl
theorem dX11_findDry_20 : decode cX11_findDry 20 = .ok (.aload_n 0, 1) := dz0 dzo42 20 dzbX11_findDry_0 rfl
theorem dX11_findDry_21 : decode cX11_findDry 21 = .ok (.getfield 19, 3) := dz2 dzo180 21 0 19 dzbX11_findDry_0 rfl
theorem dzbX11_findDry_24 : dzB cX11_findDry 24 [180, 0, 166, 27, 46, 42, 180, 0, 81, 180, 0, 169, 27, 46, 4, 182, 1, 118, 172] := by decide +kernel
theorem dX11_findDry_24 : decode cX11_findDry 24 = .ok (.getfield 166, 3) := dz2 dzo180 0 0 166 dzbX11_findDry_24 rfl
theorem dX11_findDry_27 : decode cX11_findDry 27 = .ok (.iload_n 1, 1) := dz0 dzo27 3 dzbX11_findDry_24 rfl
theorem dX11_findDry_28 : decode cX11_findDry 28 = .ok (.iaload, 1) := dz0 dzo46 4 dzbX11_findDry_24 rfl
theorem dX11_findDry_29 : decode cX11_findDry 29 = .ok (.aload_n 0, 1) := dz0 dzo42 5 dzbX11_findDry_24 rfl
theorem dX11_findDry_30 : decode cX11_findDry 30 = .ok (.getfield 81, 3) := dz2 dzo180 6 0 81 dzbX11_findDry_24 rfl
theorem dX11_findDry_33 : decode cX11_findDry 33 = .ok (.getfield 169, 3) := dz2 dzo180 9 0 169 dzbX11_findDry_24 rfl
theorem dX11_findDry_36 : decode cX11_findDry 36 = .ok (.iload_n 1, 1) := dz0 dzo27 12 dzbX11_findDry_24 rfl
theorem dX11_findDry_37 : decode cX11_findDry 37 = .ok (.iaload, 1) := dz0 dzo46 13 dzbX11_findDry_24 rfl
theorem dX11_findDry_38 : decode cX11_findDry 38 = .ok (.iconst 1, 1) := dz0 dzo4 14 dzbX11_findDry_24 rfl
theorem dX11_findDry_39 : decode cX11_findDry 39 = .ok (.invokevirtual 374, 3) := dz2 dzo182 15 1 118 dzbX11_findDry_24 rfl
theorem dX11_findDry_42 : decode cX11_findDry 42 = .ok (.ireturn, 1) := dz0 dzo172 18 dzbX11_findDry_24 rfl
theorem dzbX11_findQuick_0 : dzB cX11_findQuick 0 [43, 42, 180, 0, 19, 180, 0, 121, 42, 180, 0, 81, 180, 0, 162, 28, 46, 42, 180, 0, 19, 180, 0, 166] := by decide +kernel
theorem dX11_findQuick_0 : decode cX11_findQuick 0 = .ok (.aload_n 1, 1) := dz0 dzo43 0 dzbX11_findQuick_0 rfl
theorem dX11_findQuick_1 : decode cX11_findQuick 1 = .ok (.aload_n 0, 1) := dz0 dzo42 1 dzbX11_findQuick_0 rfl
theorem dX11_findQuick_2 : decode cX11_findQuick 2 = .ok (.getfield 19, 3) := dz2 dzo180 2 0 19 dzbX11_findQuick_0 rfl
theorem dX11_findQuick_5 : decode cX11_findQuick 5 = .ok (.getfield 121, 3) := dz2 dzo180 5 0 121 dzbX11_findQuick_0 rfl
theorem dX11_findQuick_8 : decode cX11_findQuick 8 = .ok (.aload_n 0, 1) := dz0 dzo42 8 dzbX11_findQuick_0 rfl
theorem dX11_findQuick_9 : decode cX11_findQuick 9 = .ok (.getfield 81, 3) := dz2 dzo180 9 0 81 dzbX11_findQuick_0 rfl
theorem dX11_findQuick_12 : decode cX11_findQuick 12 = .ok (.getfield 162, 3) := dz2 dzo180 12 0 162 dzbX11_findQuick_0 rfl
theorem dX11_findQuick_15 : decode cX11_findQuick 15 = .ok (.iload_n 2, 1) := dz0 dzo28 15 dzbX11_findQuick_0 rfl
theorem dX11_findQuick_16 : decode cX11_findQuick 16 = .ok (.iaload, 1) := dz0 dzo46 16 dzbX11_findQuick_0 rfl
theorem dX11_findQuick_17 : decode cX11_findQuick 17 = .ok (.aload_n 0, 1) := dz0 dzo42 17 dzbX11_findQuick_0 rfl
theorem dX11_findQuick_18 : decode cX11_findQuick 18 = .ok (.getfield 19, 3) := dz2 dzo180 18 0 19 dzbX11_findQuick_0 rfl
theorem dX11_findQuick_21 : decode cX11_findQuick 21 = .ok (.getfield 166, 3) := dz2 dzo180 21 0 166 dzbX11_findQuick_0 rfl
theorem dzbX11_findQuick_24 : dzB cX11_findQuick 24 [28, 46, 42, 180, 0, 81, 180, 0, 169, 28, 46, 3, 182, 1, 118, 172] := by decide +kernel
theorem dX11_findQuick_24 : decode cX11_findQuick 24 = .ok (.iload_n 2, 1) := dz0 dzo28 0 dzbX11_findQuick_24 rfl
theorem dX11_findQuick_25 : decode cX11_findQuick 25 = .ok (.iaload, 1) := dz0 dzo46 1 dzbX11_findQuick_24 rfl
theorem dX11_findQuick_26 : decode cX11_findQuick 26 = .ok (.aload_n 0, 1) := dz0 dzo42 2 dzbX11_findQuick_24 rfl
theorem dX11_findQuick_27 : decode cX11_findQuick 27 = .ok (.getfield 81, 3) := dz2 dzo180 3 0 81 dzbX11_findQuick_24 rfl
theorem dX11_findQuick_30 : decode cX11_findQuick 30 = .ok (.getfield 169, 3) := dz2 dzo180 6 0 169 dzbX11_findQuick_24 rfl
theorem dX11_findQuick_33 : decode cX11_findQuick 33 = .ok (.iload_n 2, 1) := dz0 dzo28 9 dzbX11_findQuick_24 rfl
theorem dX11_findQuick_34 : decode cX11_findQuick 34 = .ok (.iaload, 1) := dz0 dzo46 10 dzbX11_findQuick_24 rfl
theorem dX11_findQuick_35 : decode cX11_findQuick 35 = .ok (.iconst 0, 1) := dz0 dzo3 11 dzbX11_findQuick_24 rfl
theorem dX11_findQuick_36 : decode cX11_findQuick 36 = .ok (.invokevirtual 374, 3) := dz2 dzo182 12 1 118 dzbX11_findQuick_24 rfl
theorem dX11_findQuick_39 : decode cX11_findQuick 39 = .ok (.ireturn, 1) := dz0 dzo172 15 dzbX11_findQuick_24 rfl
theorem dzbX11_firstMeeting_0 : dzB cX11_firstMeeting 0 [42, 42, 180, 0, 36, 27, 182, 0, 194, 153, 0, 15, 42, 42, 180, 0, 40, 28, 182, 0, 194, 154, 0, 6] := by decide +kernel
theorem dX11_firstMeeting_0 : decode cX11_firstMeeting 0 = .ok (.aload_n 0, 1) := dz0 dzo42 0 dzbX11_firstMeeting_0 rfl
theorem dX11_firstMeeting_1 : decode cX11_firstMeeting 1 = .ok (.aload_n 0, 1) := dz0 dzo42 1 dzbX11_firstMeeting_0 rfl
theorem dX11_firstMeeting_2 : decode cX11_firstMeeting 2 = .ok (.getfield 36, 3) := dz2 dzo180 2 0 36 dzbX11_firstMeeting_0 rfl
theorem dX11_firstMeeting_5 : decode cX11_firstMeeting 5 = .ok (.iload_n 1, 1) := dz0 dzo27 5 dzbX11_firstMeeting_0 rfl
theorem dX11_firstMeeting_6 : decode cX11_firstMeeting 6 = .ok (.invokevirtual 194, 3) := dz2 dzo182 6 0 194 dzbX11_firstMeeting_0 rfl
theorem dX11_firstMeeting_9 : decode cX11_firstMeeting 9 = .ok (.ifCond .eq 15, 3) := dz4 dzo153 9 0 15 15 rfl dzbX11_firstMeeting_0 rfl
theorem dX11_firstMeeting_12 : decode cX11_firstMeeting 12 = .ok (.aload_n 0, 1) := dz0 dzo42 12 dzbX11_firstMeeting_0 rfl
theorem dX11_firstMeeting_13 : decode cX11_firstMeeting 13 = .ok (.aload_n 0, 1) := dz0 dzo42 13 dzbX11_firstMeeting_0 rfl
theorem dX11_firstMeeting_14 : decode cX11_firstMeeting 14 = .ok (.getfield 40, 3) := dz2 dzo180 14 0 40 dzbX11_firstMeeting_0 rfl
theorem dX11_firstMeeting_17 : decode cX11_firstMeeting 17 = .ok (.iload_n 2, 1) := dz0 dzo28 17 dzbX11_firstMeeting_0 rfl
theorem dX11_firstMeeting_18 : decode cX11_firstMeeting 18 = .ok (.invokevirtual 194, 3) := dz2 dzo182 18 0 194 dzbX11_firstMeeting_0 rfl
theorem dX11_firstMeeting_21 : decode cX11_firstMeeting 21 = .ok (.ifCond .ne 6, 3) := dz4 dzo154 21 0 6 6 rfl dzbX11_firstMeeting_0 rfl
theorem dzbX11_firstMeeting_24 : dzB cX11_firstMeeting 24 [16, 254, 172, 42, 180, 0, 36, 182, 0, 198, 42, 180, 0, 40, 182, 0, 198, 184, 1, 122, 62, 3, 54, 4] := by decide +kernel
theorem dX11_firstMeeting_24 : decode cX11_firstMeeting 24 = .ok (.bipush (-2), 2) := dz3 dzo16 0 254 (-2) rfl dzbX11_firstMeeting_24 rfl
theorem dX11_firstMeeting_26 : decode cX11_firstMeeting 26 = .ok (.ireturn, 1) := dz0 dzo172 2 dzbX11_firstMeeting_24 rfl
theorem dX11_firstMeeting_27 : decode cX11_firstMeeting 27 = .ok (.aload_n 0, 1) := dz0 dzo42 3 dzbX11_firstMeeting_24 rfl
theorem dX11_firstMeeting_28 : decode cX11_firstMeeting 28 = .ok (.getfield 36, 3) := dz2 dzo180 4 0 36 dzbX11_firstMeeting_24 rfl
theorem dX11_firstMeeting_31 : decode cX11_firstMeeting 31 = .ok (.invokevirtual 198, 3) := dz2 dzo182 7 0 198 dzbX11_firstMeeting_24 rfl
theorem dX11_firstMeeting_34 : decode cX11_firstMeeting 34 = .ok (.aload_n 0, 1) := dz0 dzo42 10 dzbX11_firstMeeting_24 rfl
theorem dX11_firstMeeting_35 : decode cX11_firstMeeting 35 = .ok (.getfield 40, 3) := dz2 dzo180 11 0 40 dzbX11_firstMeeting_24 rfl
theorem dX11_firstMeeting_38 : decode cX11_firstMeeting 38 = .ok (.invokevirtual 198, 3) := dz2 dzo182 14 0 198 dzbX11_firstMeeting_24 rfl
theorem dX11_firstMeeting_41 : decode cX11_firstMeeting 41 = .ok (.invokestatic 378, 3) := dz2 dzo184 17 1 122 dzbX11_firstMeeting_24 rfl
theorem dX11_firstMeeting_44 : decode cX11_firstMeeting 44 = .ok (.istore_n 3, 1) := dz0 dzo62 20 dzbX11_firstMeeting_24 rfl
theorem dX11_firstMeeting_45 : decode cX11_firstMeeting 45 = .ok (.iconst 0, 1) := dz0 dzo3 21 dzbX11_firstMeeting_24 rfl
theorem dX11_firstMeeting_46 : decode cX11_firstMeeting 46 = .ok (.istore 4, 2) := dz1 dzo54 22 4 dzbX11_firstMeeting_24 rfl
theorem dzbX11_firstMeeting_48 : dzB cX11_firstMeeting 48 [21, 4, 29, 163, 0, 33, 42, 180, 0, 36, 21, 4, 182, 1, 7, 42, 180, 0, 40, 21, 4, 182, 1, 7] := by decide +kernel
theorem dX11_firstMeeting_48 : decode cX11_firstMeeting 48 = .ok (.iload 4, 2) := dz1 dzo21 0 4 dzbX11_firstMeeting_48 rfl
theorem dX11_firstMeeting_50 : decode cX11_firstMeeting 50 = .ok (.iload_n 3, 1) := dz0 dzo29 2 dzbX11_firstMeeting_48 rfl
theorem dX11_firstMeeting_51 : decode cX11_firstMeeting 51 = .ok (.if_icmp .gt 33, 3) := dz4 dzo163 3 0 33 33 rfl dzbX11_firstMeeting_48 rfl
theorem dX11_firstMeeting_54 : decode cX11_firstMeeting 54 = .ok (.aload_n 0, 1) := dz0 dzo42 6 dzbX11_firstMeeting_48 rfl
theorem dX11_firstMeeting_55 : decode cX11_firstMeeting 55 = .ok (.getfield 36, 3) := dz2 dzo180 7 0 36 dzbX11_firstMeeting_48 rfl
theorem dX11_firstMeeting_58 : decode cX11_firstMeeting 58 = .ok (.iload 4, 2) := dz1 dzo21 10 4 dzbX11_firstMeeting_48 rfl
theorem dX11_firstMeeting_60 : decode cX11_firstMeeting 60 = .ok (.invokevirtual 263, 3) := dz2 dzo182 12 1 7 dzbX11_firstMeeting_48 rfl
theorem dX11_firstMeeting_63 : decode cX11_firstMeeting 63 = .ok (.aload_n 0, 1) := dz0 dzo42 15 dzbX11_firstMeeting_48 rfl
theorem dX11_firstMeeting_64 : decode cX11_firstMeeting 64 = .ok (.getfield 40, 3) := dz2 dzo180 16 0 40 dzbX11_firstMeeting_48 rfl
theorem dX11_firstMeeting_67 : decode cX11_firstMeeting 67 = .ok (.iload 4, 2) := dz1 dzo21 19 4 dzbX11_firstMeeting_48 rfl
theorem dX11_firstMeeting_69 : decode cX11_firstMeeting 69 = .ok (.invokevirtual 263, 3) := dz2 dzo182 21 1 7 dzbX11_firstMeeting_48 rfl
theorem dzbX11_firstMeeting_72 : dzB cX11_firstMeeting 72 [160, 0, 6, 21, 4, 172, 132, 4, 1, 167, 255, 223, 16, 254, 172] := by decide +kernel
theorem dX11_firstMeeting_72 : decode cX11_firstMeeting 72 = .ok (.if_icmp .ne 6, 3) := dz4 dzo160 0 0 6 6 rfl dzbX11_firstMeeting_72 rfl
theorem dX11_firstMeeting_75 : decode cX11_firstMeeting 75 = .ok (.iload 4, 2) := dz1 dzo21 3 4 dzbX11_firstMeeting_72 rfl
theorem dX11_firstMeeting_77 : decode cX11_firstMeeting 77 = .ok (.ireturn, 1) := dz0 dzo172 5 dzbX11_firstMeeting_72 rfl
theorem dX11_firstMeeting_78 : decode cX11_firstMeeting 78 = .ok (.iinc 4 1, 3) := dz5 dzo132 6 4 1 1 rfl dzbX11_firstMeeting_72 rfl
theorem dX11_firstMeeting_81 : decode cX11_firstMeeting 81 = .ok (.goto (-33), 3) := dz4 dzo167 9 255 223 (-33) rfl dzbX11_firstMeeting_72 rfl
theorem dX11_firstMeeting_84 : decode cX11_firstMeeting 84 = .ok (.bipush (-2), 2) := dz3 dzo16 12 254 (-2) rfl dzbX11_firstMeeting_72 rfl
theorem dX11_firstMeeting_86 : decode cX11_firstMeeting 86 = .ok (.ireturn, 1) := dz0 dzo172 14 dzbX11_firstMeeting_72 rfl
theorem dzbX11_fitAt_0 : dzB cX11_fitAt 0 [27, 156, 0, 7, 2, 167, 0, 11, 42, 180, 0, 67, 27, 182, 1, 15, 61, 28, 2, 160, 0, 11, 42, 4] := by decide +kernel
theorem dX11_fitAt_0 : decode cX11_fitAt 0 = .ok (.iload_n 1, 1) := dz0 dzo27 0 dzbX11_fitAt_0 rfl
theorem dX11_fitAt_1 : decode cX11_fitAt 1 = .ok (.ifCond .ge 7, 3) := dz4 dzo156 1 0 7 7 rfl dzbX11_fitAt_0 rfl
theorem dX11_fitAt_4 : decode cX11_fitAt 4 = .ok (.iconst (-1), 1) := dz0 dzo2 4 dzbX11_fitAt_0 rfl
theorem dX11_fitAt_5 : decode cX11_fitAt 5 = .ok (.goto 11, 3) := dz4 dzo167 5 0 11 11 rfl dzbX11_fitAt_0 rfl
theorem dX11_fitAt_8 : decode cX11_fitAt 8 = .ok (.aload_n 0, 1) := dz0 dzo42 8 dzbX11_fitAt_0 rfl
theorem dX11_fitAt_9 : decode cX11_fitAt 9 = .ok (.getfield 67, 3) := dz2 dzo180 9 0 67 dzbX11_fitAt_0 rfl
theorem dX11_fitAt_12 : decode cX11_fitAt 12 = .ok (.iload_n 1, 1) := dz0 dzo27 12 dzbX11_fitAt_0 rfl
theorem dX11_fitAt_13 : decode cX11_fitAt 13 = .ok (.invokevirtual 271, 3) := dz2 dzo182 13 1 15 dzbX11_fitAt_0 rfl
theorem dX11_fitAt_16 : decode cX11_fitAt 16 = .ok (.istore_n 2, 1) := dz0 dzo61 16 dzbX11_fitAt_0 rfl
theorem dX11_fitAt_17 : decode cX11_fitAt 17 = .ok (.iload_n 2, 1) := dz0 dzo28 17 dzbX11_fitAt_0 rfl
theorem dX11_fitAt_18 : decode cX11_fitAt 18 = .ok (.iconst (-1), 1) := dz0 dzo2 18 dzbX11_fitAt_0 rfl
theorem dX11_fitAt_19 : decode cX11_fitAt 19 = .ok (.if_icmp .ne 11, 3) := dz4 dzo160 19 0 11 11 rfl dzbX11_fitAt_0 rfl
theorem dX11_fitAt_22 : decode cX11_fitAt 22 = .ok (.aload_n 0, 1) := dz0 dzo42 22 dzbX11_fitAt_0 rfl
theorem dX11_fitAt_23 : decode cX11_fitAt 23 = .ok (.iconst 1, 1) := dz0 dzo4 23 dzbX11_fitAt_0 rfl
theorem dzbX11_fitAt_24 : dzB cX11_fitAt 24 [182, 0, 100, 167, 0, 8, 42, 28, 182, 0, 130, 172] := by decide +kernel
theorem dX11_fitAt_24 : decode cX11_fitAt 24 = .ok (.invokevirtual 100, 3) := dz2 dzo182 0 0 100 dzbX11_fitAt_24 rfl
theorem dX11_fitAt_27 : decode cX11_fitAt 27 = .ok (.goto 8, 3) := dz4 dzo167 3 0 8 8 rfl dzbX11_fitAt_24 rfl
theorem dX11_fitAt_30 : decode cX11_fitAt 30 = .ok (.aload_n 0, 1) := dz0 dzo42 6 dzbX11_fitAt_24 rfl
theorem dX11_fitAt_31 : decode cX11_fitAt 31 = .ok (.iload_n 2, 1) := dz0 dzo28 7 dzbX11_fitAt_24 rfl
theorem dX11_fitAt_32 : decode cX11_fitAt 32 = .ok (.invokevirtual 130, 3) := dz2 dzo182 8 0 130 dzbX11_fitAt_24 rfl
theorem dX11_fitAt_35 : decode cX11_fitAt 35 = .ok (.ireturn, 1) := dz0 dzo172 11 dzbX11_fitAt_24 rfl
theorem dzbX11_fits_0 : dzB cX11_fits 0 [42, 182, 0, 188, 154, 0, 9, 42, 4, 182, 0, 100, 172, 42, 42, 180, 0, 67, 182, 1, 13, 182, 0, 130] := by decide +kernel
theorem dX11_fits_0 : decode cX11_fits 0 = .ok (.aload_n 0, 1) := dz0 dzo42 0 dzbX11_fits_0 rfl
theorem dX11_fits_1 : decode cX11_fits 1 = .ok (.invokevirtual 188, 3) := dz2 dzo182 1 0 188 dzbX11_fits_0 rfl
theorem dX11_fits_4 : decode cX11_fits 4 = .ok (.ifCond .ne 9, 3) := dz4 dzo154 4 0 9 9 rfl dzbX11_fits_0 rfl
theorem dX11_fits_7 : decode cX11_fits 7 = .ok (.aload_n 0, 1) := dz0 dzo42 7 dzbX11_fits_0 rfl
theorem dX11_fits_8 : decode cX11_fits 8 = .ok (.iconst 1, 1) := dz0 dzo4 8 dzbX11_fits_0 rfl
theorem dX11_fits_9 : decode cX11_fits 9 = .ok (.invokevirtual 100, 3) := dz2 dzo182 9 0 100 dzbX11_fits_0 rfl
theorem dX11_fits_12 : decode cX11_fits 12 = .ok (.ireturn, 1) := dz0 dzo172 12 dzbX11_fits_0 rfl
theorem dX11_fits_13 : decode cX11_fits 13 = .ok (.aload_n 0, 1) := dz0 dzo42 13 dzbX11_fits_0 rfl
theorem dX11_fits_14 : decode cX11_fits 14 = .ok (.aload_n 0, 1) := dz0 dzo42 14 dzbX11_fits_0 rfl
theorem dX11_fits_15 : decode cX11_fits 15 = .ok (.getfield 67, 3) := dz2 dzo180 15 0 67 dzbX11_fits_0 rfl
theorem dX11_fits_18 : decode cX11_fits 18 = .ok (.invokevirtual 269, 3) := dz2 dzo182 18 1 13 dzbX11_fits_0 rfl
theorem dX11_fits_21 : decode cX11_fits 21 = .ok (.invokevirtual 130, 3) := dz2 dzo182 21 0 130 dzbX11_fits_0 rfl
theorem dzbX11_fits_24 : dzB cX11_fits 24 [172] := by decide +kernel
theorem dX11_fits_24 : decode cX11_fits 24 = .ok (.ireturn, 1) := dz0 dzo172 0 dzbX11_fits_24 rfl
theorem dzbX11_gate_0 : dzB cX11_gate 0 [42, 27, 4, 5, 182, 1, 94, 172] := by decide +kernel
theorem dX11_gate_0 : decode cX11_gate 0 = .ok (.aload_n 0, 1) := dz0 dzo42 0 dzbX11_gate_0 rfl
theorem dX11_gate_1 : decode cX11_gate 1 = .ok (.iload_n 1, 1) := dz0 dzo27 1 dzbX11_gate_0 rfl
theorem dX11_gate_2 : decode cX11_gate 2 = .ok (.iconst 1, 1) := dz0 dzo4 2 dzbX11_gate_0 rfl
theorem dX11_gate_3 : decode cX11_gate 3 = .ok (.iconst 2, 1) := dz0 dzo5 3 dzbX11_gate_0 rfl
theorem dX11_gate_4 : decode cX11_gate 4 = .ok (.invokevirtual 350, 3) := dz2 dzo182 4 1 94 dzbX11_gate_0 rfl
theorem dX11_gate_7 : decode cX11_gate 7 = .ok (.ireturn, 1) := dz0 dzo172 7 dzbX11_gate_0 rfl
theorem dzbX11_gates_0 : dzB cX11_gates 0 [42, 182, 0, 188, 154, 0, 9, 42, 4, 182, 0, 100, 172, 42, 180, 0, 60, 42, 180, 0, 81, 42] := by decide +kernel
theorem dX11_gates_0 : decode cX11_gates 0 = .ok (.aload_n 0, 1) := dz0 dzo42 0 dzbX11_gates_0 rfl
theorem dX11_gates_1 : decode cX11_gates 1 = .ok (.invokevirtual 188, 3) := dz2 dzo182 1 0 188 dzbX11_gates_0 rfl
theorem dX11_gates_4 : decode cX11_gates 4 = .ok (.ifCond .ne 9, 3) := dz4 dzo154 4 0 9 9 rfl dzbX11_gates_0 rfl
theorem dX11_gates_7 : decode cX11_gates 7 = .ok (.aload_n 0, 1) := dz0 dzo42 7 dzbX11_gates_0 rfl
theorem dX11_gates_8 : decode cX11_gates 8 = .ok (.iconst 1, 1) := dz0 dzo4 8 dzbX11_gates_0 rfl
theorem dX11_gates_9 : decode cX11_gates 9 = .ok (.invokevirtual 100, 3) := dz2 dzo182 9 0 100 dzbX11_gates_0 rfl
theorem dX11_gates_12 : decode cX11_gates 12 = .ok (.ireturn, 1) := dz0 dzo172 12 dzbX11_gates_0 rfl
theorem dX11_gates_13 : decode cX11_gates 13 = .ok (.aload_n 0, 1) := dz0 dzo42 13 dzbX11_gates_0 rfl
theorem dX11_gates_14 : decode cX11_gates 14 = .ok (.getfield 60, 3) := dz2 dzo180 14 0 60 dzbX11_gates_0 rfl
theorem dX11_gates_17 : decode cX11_gates 17 = .ok (.aload_n 0, 1) := dz0 dzo42 17 dzbX11_gates_0 rfl
theorem dX11_gates_18 : decode cX11_gates 18 = .ok (.getfield 81, 3) := dz2 dzo180 18 0 81 dzbX11_gates_0 rfl
theorem dX11_gates_21 : decode cX11_gates 21 = .ok (.aload_n 0, 1) := dz0 dzo42 21 dzbX11_gates_0 rfl
theorem dzbX11_gates_22 : dzB cX11_gates 22 [180, 0, 19, 182, 0, 235, 42, 42, 180, 0, 60, 42, 180, 0, 19, 180, 0, 121, 4, 182, 0, 191] := by decide +kernel
theorem dX11_gates_22 : decode cX11_gates 22 = .ok (.getfield 19, 3) := dz2 dzo180 0 0 19 dzbX11_gates_22 rfl
theorem dX11_gates_25 : decode cX11_gates 25 = .ok (.invokevirtual 235, 3) := dz2 dzo182 3 0 235 dzbX11_gates_22 rfl
theorem dX11_gates_28 : decode cX11_gates 28 = .ok (.aload_n 0, 1) := dz0 dzo42 6 dzbX11_gates_22 rfl
theorem dX11_gates_29 : decode cX11_gates 29 = .ok (.aload_n 0, 1) := dz0 dzo42 7 dzbX11_gates_22 rfl
theorem dX11_gates_30 : decode cX11_gates 30 = .ok (.getfield 60, 3) := dz2 dzo180 8 0 60 dzbX11_gates_22 rfl
theorem dX11_gates_33 : decode cX11_gates 33 = .ok (.aload_n 0, 1) := dz0 dzo42 11 dzbX11_gates_22 rfl
theorem dX11_gates_34 : decode cX11_gates 34 = .ok (.getfield 19, 3) := dz2 dzo180 12 0 19 dzbX11_gates_22 rfl
theorem dX11_gates_37 : decode cX11_gates 37 = .ok (.getfield 121, 3) := dz2 dzo180 15 0 121 dzbX11_gates_22 rfl
theorem dX11_gates_40 : decode cX11_gates 40 = .ok (.iconst 1, 1) := dz0 dzo4 18 dzbX11_gates_22 rfl
theorem dX11_gates_41 : decode cX11_gates 41 = .ok (.invokevirtual 191, 3) := dz2 dzo182 19 0 191 dzbX11_gates_22 rfl
theorem dzbX11_gates_44 : dzB cX11_gates 44 [182, 0, 238, 182, 0, 130, 172] := by decide +kernel
theorem dX11_gates_44 : decode cX11_gates 44 = .ok (.invokevirtual 238, 3) := dz2 dzo182 0 0 238 dzbX11_gates_44 rfl
theorem dX11_gates_47 : decode cX11_gates 47 = .ok (.invokevirtual 130, 3) := dz2 dzo182 3 0 130 dzbX11_gates_44 rfl
theorem dX11_gates_50 : decode cX11_gates 50 = .ok (.ireturn, 1) := dz0 dzo172 6 dzbX11_gates_44 rfl
theorem dzbX11_hasPark_0 : dzB cX11_hasPark 0 [42, 180, 0, 19, 180, 0, 121, 180, 0, 125, 158, 0, 7, 4, 167, 0, 4, 3, 172] := by decide +kernel
theorem dX11_hasPark_0 : decode cX11_hasPark 0 = .ok (.aload_n 0, 1) := dz0 dzo42 0 dzbX11_hasPark_0 rfl
theorem dX11_hasPark_1 : decode cX11_hasPark 1 = .ok (.getfield 19, 3) := dz2 dzo180 1 0 19 dzbX11_hasPark_0 rfl
theorem dX11_hasPark_4 : decode cX11_hasPark 4 = .ok (.getfield 121, 3) := dz2 dzo180 4 0 121 dzbX11_hasPark_0 rfl
theorem dX11_hasPark_7 : decode cX11_hasPark 7 = .ok (.getfield 125, 3) := dz2 dzo180 7 0 125 dzbX11_hasPark_0 rfl
theorem dX11_hasPark_10 : decode cX11_hasPark 10 = .ok (.ifCond .le 7, 3) := dz4 dzo158 10 0 7 7 rfl dzbX11_hasPark_0 rfl
theorem dX11_hasPark_13 : decode cX11_hasPark 13 = .ok (.iconst 1, 1) := dz0 dzo4 13 dzbX11_hasPark_0 rfl
theorem dX11_hasPark_14 : decode cX11_hasPark 14 = .ok (.goto 4, 3) := dz4 dzo167 14 0 4 4 rfl dzbX11_hasPark_0 rfl
theorem dX11_hasPark_17 : decode cX11_hasPark 17 = .ok (.iconst 0, 1) := dz0 dzo3 17 dzbX11_hasPark_0 rfl
theorem dX11_hasPark_18 : decode cX11_hasPark 18 = .ok (.ireturn, 1) := dz0 dzo172 18 dzbX11_hasPark_0 rfl
theorem dzbX11_hedge_0 : dzB cX11_hedge 0 [42, 180, 0, 19, 180, 0, 121, 27, 182, 0, 142, 153, 0, 20, 42, 180, 0, 19, 27, 182, 0, 152] := by decide +kernel
theorem dX11_hedge_0 : decode cX11_hedge 0 = .ok (.aload_n 0, 1) := dz0 dzo42 0 dzbX11_hedge_0 rfl
theorem dX11_hedge_1 : decode cX11_hedge 1 = .ok (.getfield 19, 3) := dz2 dzo180 1 0 19 dzbX11_hedge_0 rfl
theorem dX11_hedge_4 : decode cX11_hedge 4 = .ok (.getfield 121, 3) := dz2 dzo180 4 0 121 dzbX11_hedge_0 rfl
theorem dX11_hedge_7 : decode cX11_hedge 7 = .ok (.iload_n 1, 1) := dz0 dzo27 7 dzbX11_hedge_0 rfl
theorem dX11_hedge_8 : decode cX11_hedge 8 = .ok (.invokevirtual 142, 3) := dz2 dzo182 8 0 142 dzbX11_hedge_0 rfl
theorem dX11_hedge_11 : decode cX11_hedge 11 = .ok (.ifCond .eq 20, 3) := dz4 dzo153 11 0 20 20 rfl dzbX11_hedge_0 rfl
theorem dX11_hedge_14 : decode cX11_hedge 14 = .ok (.aload_n 0, 1) := dz0 dzo42 14 dzbX11_hedge_0 rfl
theorem dX11_hedge_15 : decode cX11_hedge 15 = .ok (.getfield 19, 3) := dz2 dzo180 15 0 19 dzbX11_hedge_0 rfl
theorem dX11_hedge_18 : decode cX11_hedge 18 = .ok (.iload_n 1, 1) := dz0 dzo27 18 dzbX11_hedge_0 rfl
theorem dX11_hedge_19 : decode cX11_hedge 19 = .ok (.invokevirtual 152, 3) := dz2 dzo182 19 0 152 dzbX11_hedge_0 rfl
theorem dzbX11_hedge_22 : dzB cX11_hedge 22 [153, 0, 9, 42, 8, 182, 1, 98, 172, 42, 27, 3, 6, 182, 1, 94, 172] := by decide +kernel
theorem dX11_hedge_22 : decode cX11_hedge 22 = .ok (.ifCond .eq 9, 3) := dz4 dzo153 0 0 9 9 rfl dzbX11_hedge_22 rfl
theorem dX11_hedge_25 : decode cX11_hedge 25 = .ok (.aload_n 0, 1) := dz0 dzo42 3 dzbX11_hedge_22 rfl
theorem dX11_hedge_26 : decode cX11_hedge 26 = .ok (.iconst 5, 1) := dz0 dzo8 4 dzbX11_hedge_22 rfl
theorem dX11_hedge_27 : decode cX11_hedge 27 = .ok (.invokevirtual 354, 3) := dz2 dzo182 5 1 98 dzbX11_hedge_22 rfl
theorem dX11_hedge_30 : decode cX11_hedge 30 = .ok (.ireturn, 1) := dz0 dzo172 8 dzbX11_hedge_22 rfl
theorem dX11_hedge_31 : decode cX11_hedge 31 = .ok (.aload_n 0, 1) := dz0 dzo42 9 dzbX11_hedge_22 rfl
theorem dX11_hedge_32 : decode cX11_hedge 32 = .ok (.iload_n 1, 1) := dz0 dzo27 10 dzbX11_hedge_22 rfl
theorem dX11_hedge_33 : decode cX11_hedge 33 = .ok (.iconst 0, 1) := dz0 dzo3 11 dzbX11_hedge_22 rfl
theorem dX11_hedge_34 : decode cX11_hedge 34 = .ok (.iconst 3, 1) := dz0 dzo6 12 dzbX11_hedge_22 rfl
theorem dX11_hedge_35 : decode cX11_hedge 35 = .ok (.invokevirtual 350, 3) := dz2 dzo182 13 1 94 dzbX11_hedge_22 rfl
theorem dX11_hedge_38 : decode cX11_hedge 38 = .ok (.ireturn, 1) := dz0 dzo172 16 dzbX11_hedge_22 rfl
theorem dzbX11_image_0 : dzB cX11_image 0 [42, 182, 0, 188, 154, 0, 9, 42, 4, 182, 0, 100, 172, 42, 180, 0, 118, 6, 160, 0, 9, 42, 6] := by decide +kernel
theorem dX11_image_0 : decode cX11_image 0 = .ok (.aload_n 0, 1) := dz0 dzo42 0 dzbX11_image_0 rfl
theorem dX11_image_1 : decode cX11_image 1 = .ok (.invokevirtual 188, 3) := dz2 dzo182 1 0 188 dzbX11_image_0 rfl
theorem dX11_image_4 : decode cX11_image 4 = .ok (.ifCond .ne 9, 3) := dz4 dzo154 4 0 9 9 rfl dzbX11_image_0 rfl
theorem dX11_image_7 : decode cX11_image 7 = .ok (.aload_n 0, 1) := dz0 dzo42 7 dzbX11_image_0 rfl
theorem dX11_image_8 : decode cX11_image 8 = .ok (.iconst 1, 1) := dz0 dzo4 8 dzbX11_image_0 rfl
theorem dX11_image_9 : decode cX11_image 9 = .ok (.invokevirtual 100, 3) := dz2 dzo182 9 0 100 dzbX11_image_0 rfl
theorem dX11_image_12 : decode cX11_image 12 = .ok (.ireturn, 1) := dz0 dzo172 12 dzbX11_image_0 rfl
theorem dX11_image_13 : decode cX11_image 13 = .ok (.aload_n 0, 1) := dz0 dzo42 13 dzbX11_image_0 rfl
theorem dX11_image_14 : decode cX11_image 14 = .ok (.getfield 118, 3) := dz2 dzo180 14 0 118 dzbX11_image_0 rfl
theorem dX11_image_17 : decode cX11_image 17 = .ok (.iconst 3, 1) := dz0 dzo6 17 dzbX11_image_0 rfl
theorem dX11_image_18 : decode cX11_image 18 = .ok (.if_icmp .ne 9, 3) := dz4 dzo160 18 0 9 9 rfl dzbX11_image_0 rfl
theorem dX11_image_21 : decode cX11_image 21 = .ok (.aload_n 0, 1) := dz0 dzo42 21 dzbX11_image_0 rfl
theorem dX11_image_22 : decode cX11_image 22 = .ok (.iconst 3, 1) := dz0 dzo6 22 dzbX11_image_0 rfl
theorem dzbX11_image_23 : dzB cX11_image 23 [182, 0, 100, 172, 42, 180, 0, 30, 42, 180, 0, 118] := by decide +kernel
theorem dX11_image_23 : decode cX11_image 23 = .ok (.invokevirtual 100, 3) := dz2 dzo182 0 0 100 dzbX11_image_23 rfl
theorem dX11_image_26 : decode cX11_image 26 = .ok (.ireturn, 1) := dz0 dzo172 3 dzbX11_image_23 rfl
theorem dX11_image_27 : decode cX11_image 27 = .ok (.aload_n 0, 1) := dz0 dzo42 4 dzbX11_image_23 rfl
theorem dX11_image_28 : decode cX11_image 28 = .ok (.getfield 30, 3) := dz2 dzo180 5 0 30 dzbX11_image_23 rfl
theorem dX11_image_31 : decode cX11_image 31 = .ok (.aload_n 0, 1) := dz0 dzo42 8 dzbX11_image_23 rfl
theorem dX11_image_32 : decode cX11_image 32 = .ok (.getfield 118, 3) := dz2 dzo180 9 0 118 dzbX11_image_23 rfl
