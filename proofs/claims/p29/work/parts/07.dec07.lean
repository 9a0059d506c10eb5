theorem dzbX13_walkersAt_3 : dzB cX13_walkersAt 3 [62, 29, 42, 180, 1, 13, 180, 0, 206, 162, 0, 32, 28, 42, 180, 0, 17, 16, 20, 29, 96, 46, 27] := by decide +kernel
theorem dX13_walkersAt_3 : decode cX13_walkersAt 3 = .ok (.istore_n 3, 1) := dz0 dzo62 0 dzbX13_walkersAt_3 rfl
theorem dX13_walkersAt_4 : decode cX13_walkersAt 4 = .ok (.iload_n 3, 1) := dz0 dzo29 1 dzbX13_walkersAt_3 rfl
theorem dX13_walkersAt_5 : decode cX13_walkersAt 5 = .ok (.aload_n 0, 1) := dz0 dzo42 2 dzbX13_walkersAt_3 rfl
theorem dX13_walkersAt_6 : decode cX13_walkersAt 6 = .ok (.getfield 269, 3) := dz2 dzo180 3 1 13 dzbX13_walkersAt_3 rfl
theorem dX13_walkersAt_9 : decode cX13_walkersAt 9 = .ok (.getfield 206, 3) := dz2 dzo180 6 0 206 dzbX13_walkersAt_3 rfl
theorem dX13_walkersAt_12 : decode cX13_walkersAt 12 = .ok (.if_icmp .ge 32, 3) := dz4 dzo162 9 0 32 32 rfl dzbX13_walkersAt_3 rfl
theorem dX13_walkersAt_15 : decode cX13_walkersAt 15 = .ok (.iload_n 2, 1) := dz0 dzo28 12 dzbX13_walkersAt_3 rfl
theorem dX13_walkersAt_16 : decode cX13_walkersAt 16 = .ok (.aload_n 0, 1) := dz0 dzo42 13 dzbX13_walkersAt_3 rfl
theorem dX13_walkersAt_17 : decode cX13_walkersAt 17 = .ok (.getfield 17, 3) := dz2 dzo180 14 0 17 dzbX13_walkersAt_3 rfl
theorem dX13_walkersAt_20 : decode cX13_walkersAt 20 = .ok (.bipush 20, 2) := dz3 dzo16 17 20 20 rfl dzbX13_walkersAt_3 rfl
theorem dX13_walkersAt_22 : decode cX13_walkersAt 22 = .ok (.iload_n 3, 1) := dz0 dzo29 19 dzbX13_walkersAt_3 rfl
theorem dX13_walkersAt_23 : decode cX13_walkersAt 23 = .ok (.iadd, 1) := dz0 dzo96 20 dzbX13_walkersAt_3 rfl
theorem dX13_walkersAt_24 : decode cX13_walkersAt 24 = .ok (.iaload, 1) := dz0 dzo46 21 dzbX13_walkersAt_3 rfl
theorem dX13_walkersAt_25 : decode cX13_walkersAt 25 = .ok (.iload_n 1, 1) := dz0 dzo27 22 dzbX13_walkersAt_3 rfl
theorem dzbX13_walkersAt_26 : dzB cX13_walkersAt 26 [160, 0, 9, 4, 29, 120, 167, 0, 4, 3, 128, 61, 132, 3, 1, 167, 255, 219, 28, 172] := by decide +kernel
theorem dX13_walkersAt_26 : decode cX13_walkersAt 26 = .ok (.if_icmp .ne 9, 3) := dz4 dzo160 0 0 9 9 rfl dzbX13_walkersAt_26 rfl
theorem dX13_walkersAt_29 : decode cX13_walkersAt 29 = .ok (.iconst 1, 1) := dz0 dzo4 3 dzbX13_walkersAt_26 rfl
theorem dX13_walkersAt_30 : decode cX13_walkersAt 30 = .ok (.iload_n 3, 1) := dz0 dzo29 4 dzbX13_walkersAt_26 rfl
theorem dX13_walkersAt_31 : decode cX13_walkersAt 31 = .ok (.ishl, 1) := dz0 dzo120 5 dzbX13_walkersAt_26 rfl
theorem dX13_walkersAt_32 : decode cX13_walkersAt 32 = .ok (.goto 4, 3) := dz4 dzo167 6 0 4 4 rfl dzbX13_walkersAt_26 rfl
theorem dX13_walkersAt_35 : decode cX13_walkersAt 35 = .ok (.iconst 0, 1) := dz0 dzo3 9 dzbX13_walkersAt_26 rfl
theorem dX13_walkersAt_36 : decode cX13_walkersAt 36 = .ok (.ior, 1) := dz0 dzo128 10 dzbX13_walkersAt_26 rfl
theorem dX13_walkersAt_37 : decode cX13_walkersAt 37 = .ok (.istore_n 2, 1) := dz0 dzo61 11 dzbX13_walkersAt_26 rfl
theorem dX13_walkersAt_38 : decode cX13_walkersAt 38 = .ok (.iinc 3 1, 3) := dz5 dzo132 12 3 1 1 rfl dzbX13_walkersAt_26 rfl
theorem dX13_walkersAt_41 : decode cX13_walkersAt 41 = .ok (.goto (-37), 3) := dz4 dzo167 15 255 219 (-37) rfl dzbX13_walkersAt_26 rfl
theorem dX13_walkersAt_44 : decode cX13_walkersAt 44 = .ok (.iload_n 2, 1) := dz0 dzo28 18 dzbX13_walkersAt_26 rfl
theorem dX13_walkersAt_45 : decode cX13_walkersAt 45 = .ok (.ireturn, 1) := dz0 dzo172 19 dzbX13_walkersAt_26 rfl
theorem dzbX13_way_0 : dzB cX13_way 0 [42, 27, 28, 182, 1, 42, 42, 180, 0, 30, 42, 180, 0, 17, 16, 20, 27, 96, 46, 46, 172] := by decide +kernel
theorem dX13_way_0 : decode cX13_way 0 = .ok (.aload_n 0, 1) := dz0 dzo42 0 dzbX13_way_0 rfl
theorem dX13_way_1 : decode cX13_way 1 = .ok (.iload_n 1, 1) := dz0 dzo27 1 dzbX13_way_0 rfl
theorem dX13_way_2 : decode cX13_way 2 = .ok (.iload_n 2, 1) := dz0 dzo28 2 dzbX13_way_0 rfl
theorem dX13_way_3 : decode cX13_way 3 = .ok (.invokevirtual 298, 3) := dz2 dzo182 3 1 42 dzbX13_way_0 rfl
theorem dX13_way_6 : decode cX13_way 6 = .ok (.aload_n 0, 1) := dz0 dzo42 6 dzbX13_way_0 rfl
theorem dX13_way_7 : decode cX13_way 7 = .ok (.getfield 30, 3) := dz2 dzo180 7 0 30 dzbX13_way_0 rfl
theorem dX13_way_10 : decode cX13_way 10 = .ok (.aload_n 0, 1) := dz0 dzo42 10 dzbX13_way_0 rfl
theorem dX13_way_11 : decode cX13_way 11 = .ok (.getfield 17, 3) := dz2 dzo180 11 0 17 dzbX13_way_0 rfl
theorem dX13_way_14 : decode cX13_way 14 = .ok (.bipush 20, 2) := dz3 dzo16 14 20 20 rfl dzbX13_way_0 rfl
theorem dX13_way_16 : decode cX13_way 16 = .ok (.iload_n 1, 1) := dz0 dzo27 16 dzbX13_way_0 rfl
theorem dX13_way_17 : decode cX13_way 17 = .ok (.iadd, 1) := dz0 dzo96 17 dzbX13_way_0 rfl
theorem dX13_way_18 : decode cX13_way 18 = .ok (.iaload, 1) := dz0 dzo46 18 dzbX13_way_0 rfl
theorem dX13_way_19 : decode cX13_way 19 = .ok (.iaload, 1) := dz0 dzo46 19 dzbX13_way_0 rfl
theorem dX13_way_20 : decode cX13_way 20 = .ok (.ireturn, 1) := dz0 dzo172 20 dzbX13_way_0 rfl
theorem dzbX13_wayPart_0 : dzB cX13_wayPart 0 [42, 27, 182, 1, 55, 154, 0, 9, 42, 4, 182, 0, 48, 172, 42, 182, 1, 61, 42, 27, 28, 182, 1, 67] := by decide +kernel
theorem dX13_wayPart_0 : decode cX13_wayPart 0 = .ok (.aload_n 0, 1) := dz0 dzo42 0 dzbX13_wayPart_0 rfl
theorem dX13_wayPart_1 : decode cX13_wayPart 1 = .ok (.iload_n 1, 1) := dz0 dzo27 1 dzbX13_wayPart_0 rfl
theorem dX13_wayPart_2 : decode cX13_wayPart 2 = .ok (.invokevirtual 311, 3) := dz2 dzo182 2 1 55 dzbX13_wayPart_0 rfl
theorem dX13_wayPart_5 : decode cX13_wayPart 5 = .ok (.ifCond .ne 9, 3) := dz4 dzo154 5 0 9 9 rfl dzbX13_wayPart_0 rfl
theorem dX13_wayPart_8 : decode cX13_wayPart 8 = .ok (.aload_n 0, 1) := dz0 dzo42 8 dzbX13_wayPart_0 rfl
theorem dX13_wayPart_9 : decode cX13_wayPart 9 = .ok (.iconst 1, 1) := dz0 dzo4 9 dzbX13_wayPart_0 rfl
theorem dX13_wayPart_10 : decode cX13_wayPart 10 = .ok (.invokevirtual 48, 3) := dz2 dzo182 10 0 48 dzbX13_wayPart_0 rfl
theorem dX13_wayPart_13 : decode cX13_wayPart 13 = .ok (.ireturn, 1) := dz0 dzo172 13 dzbX13_wayPart_0 rfl
theorem dX13_wayPart_14 : decode cX13_wayPart 14 = .ok (.aload_n 0, 1) := dz0 dzo42 14 dzbX13_wayPart_0 rfl
theorem dX13_wayPart_15 : decode cX13_wayPart 15 = .ok (.invokevirtual 317, 3) := dz2 dzo182 15 1 61 dzbX13_wayPart_0 rfl
theorem dX13_wayPart_18 : decode cX13_wayPart 18 = .ok (.aload_n 0, 1) := dz0 dzo42 18 dzbX13_wayPart_0 rfl
theorem dX13_wayPart_19 : decode cX13_wayPart 19 = .ok (.iload_n 1, 1) := dz0 dzo27 19 dzbX13_wayPart_0 rfl
theorem dX13_wayPart_20 : decode cX13_wayPart 20 = .ok (.iload_n 2, 1) := dz0 dzo28 20 dzbX13_wayPart_0 rfl
theorem dX13_wayPart_21 : decode cX13_wayPart 21 = .ok (.invokevirtual 323, 3) := dz2 dzo182 21 1 67 dzbX13_wayPart_0 rfl
theorem dzbX13_wayPart_24 : dzB cX13_wayPart 24 [54, 4, 42, 21, 4, 19, 1, 37, 160, 0, 8, 16, 254, 167, 0, 22, 29, 153, 0, 12, 21, 4] := by decide +kernel
theorem dX13_wayPart_24 : decode cX13_wayPart 24 = .ok (.istore 4, 2) := dz1 dzo54 0 4 dzbX13_wayPart_24 rfl
theorem dX13_wayPart_26 : decode cX13_wayPart 26 = .ok (.aload_n 0, 1) := dz0 dzo42 2 dzbX13_wayPart_24 rfl
theorem dX13_wayPart_27 : decode cX13_wayPart 27 = .ok (.iload 4, 2) := dz1 dzo21 3 4 dzbX13_wayPart_24 rfl
theorem dX13_wayPart_29 : decode cX13_wayPart 29 = .ok (.ldc_w 293, 3) := dz2 dzo19 5 1 37 dzbX13_wayPart_24 rfl
theorem dX13_wayPart_32 : decode cX13_wayPart 32 = .ok (.if_icmp .ne 8, 3) := dz4 dzo160 8 0 8 8 rfl dzbX13_wayPart_24 rfl
theorem dX13_wayPart_35 : decode cX13_wayPart 35 = .ok (.bipush (-2), 2) := dz3 dzo16 11 254 (-2) rfl dzbX13_wayPart_24 rfl
theorem dX13_wayPart_37 : decode cX13_wayPart 37 = .ok (.goto 22, 3) := dz4 dzo167 13 0 22 22 rfl dzbX13_wayPart_24 rfl
theorem dX13_wayPart_40 : decode cX13_wayPart 40 = .ok (.iload_n 3, 1) := dz0 dzo29 16 dzbX13_wayPart_24 rfl
theorem dX13_wayPart_41 : decode cX13_wayPart 41 = .ok (.ifCond .eq 12, 3) := dz4 dzo153 17 0 12 12 rfl dzbX13_wayPart_24 rfl
theorem dX13_wayPart_44 : decode cX13_wayPart 44 = .ok (.iload 4, 2) := dz1 dzo21 20 4 dzbX13_wayPart_24 rfl
theorem dzbX13_wayPart_46 : dzB cX13_wayPart 46 [17, 3, 232, 108, 167, 0, 9, 21, 4, 17, 3, 232, 112, 182, 0, 52, 172] := by decide +kernel
theorem dX13_wayPart_46 : decode cX13_wayPart 46 = .ok (.sipush 1000, 3) := dz4 dzo17 0 3 232 1000 rfl dzbX13_wayPart_46 rfl
theorem dX13_wayPart_49 : decode cX13_wayPart 49 = .ok (.idiv, 1) := dz0 dzo108 3 dzbX13_wayPart_46 rfl
theorem dX13_wayPart_50 : decode cX13_wayPart 50 = .ok (.goto 9, 3) := dz4 dzo167 4 0 9 9 rfl dzbX13_wayPart_46 rfl
theorem dX13_wayPart_53 : decode cX13_wayPart 53 = .ok (.iload 4, 2) := dz1 dzo21 7 4 dzbX13_wayPart_46 rfl
theorem dX13_wayPart_55 : decode cX13_wayPart 55 = .ok (.sipush 1000, 3) := dz4 dzo17 9 3 232 1000 rfl dzbX13_wayPart_46 rfl
theorem dX13_wayPart_58 : decode cX13_wayPart 58 = .ok (.irem, 1) := dz0 dzo112 12 dzbX13_wayPart_46 rfl
theorem dX13_wayPart_59 : decode cX13_wayPart 59 = .ok (.invokevirtual 52, 3) := dz2 dzo182 13 0 52 dzbX13_wayPart_46 rfl
theorem dX13_wayPart_62 : decode cX13_wayPart 62 = .ok (.ireturn, 1) := dz0 dzo172 16 dzbX13_wayPart_46 rfl
theorem dzbX13_wayStep_0 : dzB cX13_wayStep 0 [42, 27, 182, 1, 55, 153, 0, 7, 28, 156, 0, 9, 42, 4, 182, 0, 48, 172, 42, 182, 1, 61, 42, 27] := by decide +kernel
theorem dX13_wayStep_0 : decode cX13_wayStep 0 = .ok (.aload_n 0, 1) := dz0 dzo42 0 dzbX13_wayStep_0 rfl
theorem dX13_wayStep_1 : decode cX13_wayStep 1 = .ok (.iload_n 1, 1) := dz0 dzo27 1 dzbX13_wayStep_0 rfl
theorem dX13_wayStep_2 : decode cX13_wayStep 2 = .ok (.invokevirtual 311, 3) := dz2 dzo182 2 1 55 dzbX13_wayStep_0 rfl
theorem dX13_wayStep_5 : decode cX13_wayStep 5 = .ok (.ifCond .eq 7, 3) := dz4 dzo153 5 0 7 7 rfl dzbX13_wayStep_0 rfl
theorem dX13_wayStep_8 : decode cX13_wayStep 8 = .ok (.iload_n 2, 1) := dz0 dzo28 8 dzbX13_wayStep_0 rfl
theorem dX13_wayStep_9 : decode cX13_wayStep 9 = .ok (.ifCond .ge 9, 3) := dz4 dzo156 9 0 9 9 rfl dzbX13_wayStep_0 rfl
theorem dX13_wayStep_12 : decode cX13_wayStep 12 = .ok (.aload_n 0, 1) := dz0 dzo42 12 dzbX13_wayStep_0 rfl
theorem dX13_wayStep_13 : decode cX13_wayStep 13 = .ok (.iconst 1, 1) := dz0 dzo4 13 dzbX13_wayStep_0 rfl
theorem dX13_wayStep_14 : decode cX13_wayStep 14 = .ok (.invokevirtual 48, 3) := dz2 dzo182 14 0 48 dzbX13_wayStep_0 rfl
theorem dX13_wayStep_17 : decode cX13_wayStep 17 = .ok (.ireturn, 1) := dz0 dzo172 17 dzbX13_wayStep_0 rfl
theorem dX13_wayStep_18 : decode cX13_wayStep 18 = .ok (.aload_n 0, 1) := dz0 dzo42 18 dzbX13_wayStep_0 rfl
theorem dX13_wayStep_19 : decode cX13_wayStep 19 = .ok (.invokevirtual 317, 3) := dz2 dzo182 19 1 61 dzbX13_wayStep_0 rfl
theorem dX13_wayStep_22 : decode cX13_wayStep 22 = .ok (.aload_n 0, 1) := dz0 dzo42 22 dzbX13_wayStep_0 rfl
theorem dX13_wayStep_23 : decode cX13_wayStep 23 = .ok (.iload_n 1, 1) := dz0 dzo27 23 dzbX13_wayStep_0 rfl
theorem dzbX13_wayStep_24 : dzB cX13_wayStep 24 [29, 182, 1, 67, 19, 1, 37, 160, 0, 9, 42, 4, 182, 0, 48, 172, 42, 180, 0, 17, 16, 20, 27, 96] := by decide +kernel
theorem dX13_wayStep_24 : decode cX13_wayStep 24 = .ok (.iload_n 3, 1) := dz0 dzo29 0 dzbX13_wayStep_24 rfl
theorem dX13_wayStep_25 : decode cX13_wayStep 25 = .ok (.invokevirtual 323, 3) := dz2 dzo182 1 1 67 dzbX13_wayStep_24 rfl
theorem dX13_wayStep_28 : decode cX13_wayStep 28 = .ok (.ldc_w 293, 3) := dz2 dzo19 4 1 37 dzbX13_wayStep_24 rfl
theorem dX13_wayStep_31 : decode cX13_wayStep 31 = .ok (.if_icmp .ne 9, 3) := dz4 dzo160 7 0 9 9 rfl dzbX13_wayStep_24 rfl
theorem dX13_wayStep_34 : decode cX13_wayStep 34 = .ok (.aload_n 0, 1) := dz0 dzo42 10 dzbX13_wayStep_24 rfl
theorem dX13_wayStep_35 : decode cX13_wayStep 35 = .ok (.iconst 1, 1) := dz0 dzo4 11 dzbX13_wayStep_24 rfl
theorem dX13_wayStep_36 : decode cX13_wayStep 36 = .ok (.invokevirtual 48, 3) := dz2 dzo182 12 0 48 dzbX13_wayStep_24 rfl
theorem dX13_wayStep_39 : decode cX13_wayStep 39 = .ok (.ireturn, 1) := dz0 dzo172 15 dzbX13_wayStep_24 rfl
theorem dX13_wayStep_40 : decode cX13_wayStep 40 = .ok (.aload_n 0, 1) := dz0 dzo42 16 dzbX13_wayStep_24 rfl
theorem dX13_wayStep_41 : decode cX13_wayStep 41 = .ok (.getfield 17, 3) := dz2 dzo180 17 0 17 dzbX13_wayStep_24 rfl
theorem dX13_wayStep_44 : decode cX13_wayStep 44 = .ok (.bipush 20, 2) := dz3 dzo16 20 20 20 rfl dzbX13_wayStep_24 rfl
theorem dX13_wayStep_46 : decode cX13_wayStep 46 = .ok (.iload_n 1, 1) := dz0 dzo27 22 dzbX13_wayStep_24 rfl
theorem dX13_wayStep_47 : decode cX13_wayStep 47 = .ok (.iadd, 1) := dz0 dzo96 23 dzbX13_wayStep_24 rfl
theorem dzbX13_wayStep_48 : dzB cX13_wayStep 48 [46, 54, 4, 3, 54, 5, 21, 5, 28, 162, 0, 35, 42, 180, 0, 30, 21, 4, 46, 158, 0, 25, 42] := by decide +kernel
theorem dX13_wayStep_48 : decode cX13_wayStep 48 = .ok (.iaload, 1) := dz0 dzo46 0 dzbX13_wayStep_48 rfl
theorem dX13_wayStep_49 : decode cX13_wayStep 49 = .ok (.istore 4, 2) := dz1 dzo54 1 4 dzbX13_wayStep_48 rfl
theorem dX13_wayStep_51 : decode cX13_wayStep 51 = .ok (.iconst 0, 1) := dz0 dzo3 3 dzbX13_wayStep_48 rfl
theorem dX13_wayStep_52 : decode cX13_wayStep 52 = .ok (.istore 5, 2) := dz1 dzo54 4 5 dzbX13_wayStep_48 rfl
theorem dX13_wayStep_54 : decode cX13_wayStep 54 = .ok (.iload 5, 2) := dz1 dzo21 6 5 dzbX13_wayStep_48 rfl
theorem dX13_wayStep_56 : decode cX13_wayStep 56 = .ok (.iload_n 2, 1) := dz0 dzo28 8 dzbX13_wayStep_48 rfl
theorem dX13_wayStep_57 : decode cX13_wayStep 57 = .ok (.if_icmp .ge 35, 3) := dz4 dzo162 9 0 35 35 rfl dzbX13_wayStep_48 rfl
theorem dX13_wayStep_60 : decode cX13_wayStep 60 = .ok (.aload_n 0, 1) := dz0 dzo42 12 dzbX13_wayStep_48 rfl
theorem dX13_wayStep_61 : decode cX13_wayStep 61 = .ok (.getfield 30, 3) := dz2 dzo180 13 0 30 dzbX13_wayStep_48 rfl
theorem dX13_wayStep_64 : decode cX13_wayStep 64 = .ok (.iload 4, 2) := dz1 dzo21 16 4 dzbX13_wayStep_48 rfl
theorem dX13_wayStep_66 : decode cX13_wayStep 66 = .ok (.iaload, 1) := dz0 dzo46 18 dzbX13_wayStep_48 rfl
theorem dX13_wayStep_67 : decode cX13_wayStep 67 = .ok (.ifCond .le 25, 3) := dz4 dzo158 19 0 25 25 rfl dzbX13_wayStep_48 rfl
theorem dX13_wayStep_70 : decode cX13_wayStep 70 = .ok (.aload_n 0, 1) := dz0 dzo42 22 dzbX13_wayStep_48 rfl
theorem dzbX13_wayStep_71 : dzB cX13_wayStep 71 [21, 4, 42, 27, 21, 4, 29, 182, 1, 71, 182, 1, 24, 54, 4, 132, 5, 1, 167, 255, 221, 42] := by decide +kernel
theorem dX13_wayStep_71 : decode cX13_wayStep 71 = .ok (.iload 4, 2) := dz1 dzo21 0 4 dzbX13_wayStep_71 rfl
theorem dX13_wayStep_73 : decode cX13_wayStep 73 = .ok (.aload_n 0, 1) := dz0 dzo42 2 dzbX13_wayStep_71 rfl
theorem dX13_wayStep_74 : decode cX13_wayStep 74 = .ok (.iload_n 1, 1) := dz0 dzo27 3 dzbX13_wayStep_71 rfl
theorem dX13_wayStep_75 : decode cX13_wayStep 75 = .ok (.iload 4, 2) := dz1 dzo21 4 4 dzbX13_wayStep_71 rfl
theorem dX13_wayStep_77 : decode cX13_wayStep 77 = .ok (.iload_n 3, 1) := dz0 dzo29 6 dzbX13_wayStep_71 rfl
theorem dX13_wayStep_78 : decode cX13_wayStep 78 = .ok (.invokevirtual 327, 3) := dz2 dzo182 7 1 71 dzbX13_wayStep_71 rfl
theorem dX13_wayStep_81 : decode cX13_wayStep 81 = .ok (.invokevirtual 280, 3) := dz2 dzo182 10 1 24 dzbX13_wayStep_71 rfl
theorem dX13_wayStep_84 : decode cX13_wayStep 84 = .ok (.istore 4, 2) := dz1 dzo54 13 4 dzbX13_wayStep_71 rfl
theorem dX13_wayStep_86 : decode cX13_wayStep 86 = .ok (.iinc 5 1, 3) := dz5 dzo132 15 5 1 1 rfl dzbX13_wayStep_71 rfl
theorem dX13_wayStep_89 : decode cX13_wayStep 89 = .ok (.goto (-35), 3) := dz4 dzo167 18 255 221 (-35) rfl dzbX13_wayStep_71 rfl
theorem dX13_wayStep_92 : decode cX13_wayStep 92 = .ok (.aload_n 0, 1) := dz0 dzo42 21 dzbX13_wayStep_71 rfl
theorem dzbX13_wayStep_93 : dzB cX13_wayStep 93 [180, 0, 30, 21, 4, 46, 158, 0, 18, 42, 42, 27, 21, 4, 29, 182, 1, 71, 182, 0, 52, 167, 0, 8] := by decide +kernel
theorem dX13_wayStep_93 : decode cX13_wayStep 93 = .ok (.getfield 30, 3) := dz2 dzo180 0 0 30 dzbX13_wayStep_93 rfl
theorem dX13_wayStep_96 : decode cX13_wayStep 96 = .ok (.iload 4, 2) := dz1 dzo21 3 4 dzbX13_wayStep_93 rfl
theorem dX13_wayStep_98 : decode cX13_wayStep 98 = .ok (.iaload, 1) := dz0 dzo46 5 dzbX13_wayStep_93 rfl
theorem dX13_wayStep_99 : decode cX13_wayStep 99 = .ok (.ifCond .le 18, 3) := dz4 dzo158 6 0 18 18 rfl dzbX13_wayStep_93 rfl
theorem dX13_wayStep_102 : decode cX13_wayStep 102 = .ok (.aload_n 0, 1) := dz0 dzo42 9 dzbX13_wayStep_93 rfl
theorem dX13_wayStep_103 : decode cX13_wayStep 103 = .ok (.aload_n 0, 1) := dz0 dzo42 10 dzbX13_wayStep_93 rfl
theorem dX13_wayStep_104 : decode cX13_wayStep 104 = .ok (.iload_n 1, 1) := dz0 dzo27 11 dzbX13_wayStep_93 rfl
theorem dX13_wayStep_105 : decode cX13_wayStep 105 = .ok (.iload 4, 2) := dz1 dzo21 12 4 dzbX13_wayStep_93 rfl
theorem dX13_wayStep_107 : decode cX13_wayStep 107 = .ok (.iload_n 3, 1) := dz0 dzo29 14 dzbX13_wayStep_93 rfl
theorem dX13_wayStep_108 : decode cX13_wayStep 108 = .ok (.invokevirtual 327, 3) := dz2 dzo182 15 1 71 dzbX13_wayStep_93 rfl
theorem dX13_wayStep_111 : decode cX13_wayStep 111 = .ok (.invokevirtual 52, 3) := dz2 dzo182 18 0 52 dzbX13_wayStep_93 rfl
theorem dX13_wayStep_114 : decode cX13_wayStep 114 = .ok (.goto 8, 3) := dz4 dzo167 21 0 8 8 rfl dzbX13_wayStep_93 rfl
theorem dzbX13_wayStep_117 : dzB cX13_wayStep 117 [42, 4, 182, 0, 48, 172] := by decide +kernel
theorem dX13_wayStep_117 : decode cX13_wayStep 117 = .ok (.aload_n 0, 1) := dz0 dzo42 0 dzbX13_wayStep_117 rfl
theorem dX13_wayStep_118 : decode cX13_wayStep 118 = .ok (.iconst 1, 1) := dz0 dzo4 1 dzbX13_wayStep_117 rfl
theorem dX13_wayStep_119 : decode cX13_wayStep 119 = .ok (.invokevirtual 48, 3) := dz2 dzo182 2 0 48 dzbX13_wayStep_117 rfl
theorem dX13_wayStep_122 : decode cX13_wayStep 122 = .ok (.ireturn, 1) := dz0 dzo172 5 dzbX13_wayStep_117 rfl
theorem dzbX13_weighs_0 : dzB cX13_weighs 0 [42, 27, 28, 29, 182, 1, 30, 153, 0, 7, 4, 167, 0, 4, 3, 54, 5, 42, 27, 28, 29, 182, 1, 33] := by decide +kernel
theorem dX13_weighs_0 : decode cX13_weighs 0 = .ok (.aload_n 0, 1) := dz0 dzo42 0 dzbX13_weighs_0 rfl
theorem dX13_weighs_1 : decode cX13_weighs 1 = .ok (.iload_n 1, 1) := dz0 dzo27 1 dzbX13_weighs_0 rfl
theorem dX13_weighs_2 : decode cX13_weighs 2 = .ok (.iload_n 2, 1) := dz0 dzo28 2 dzbX13_weighs_0 rfl
theorem dX13_weighs_3 : decode cX13_weighs 3 = .ok (.iload_n 3, 1) := dz0 dzo29 3 dzbX13_weighs_0 rfl
theorem dX13_weighs_4 : decode cX13_weighs 4 = .ok (.invokevirtual 286, 3) := dz2 dzo182 4 1 30 dzbX13_weighs_0 rfl
theorem dX13_weighs_7 : decode cX13_weighs 7 = .ok (.ifCond .eq 7, 3) := dz4 dzo153 7 0 7 7 rfl dzbX13_weighs_0 rfl
theorem dX13_weighs_10 : decode cX13_weighs 10 = .ok (.iconst 1, 1) := dz0 dzo4 10 dzbX13_weighs_0 rfl
theorem dX13_weighs_11 : decode cX13_weighs 11 = .ok (.goto 4, 3) := dz4 dzo167 11 0 4 4 rfl dzbX13_weighs_0 rfl
theorem dX13_weighs_14 : decode cX13_weighs 14 = .ok (.iconst 0, 1) := dz0 dzo3 14 dzbX13_weighs_0 rfl
theorem dX13_weighs_15 : decode cX13_weighs 15 = .ok (.istore 5, 2) := dz1 dzo54 15 5 dzbX13_weighs_0 rfl
theorem dX13_weighs_17 : decode cX13_weighs 17 = .ok (.aload_n 0, 1) := dz0 dzo42 17 dzbX13_weighs_0 rfl
theorem dX13_weighs_18 : decode cX13_weighs 18 = .ok (.iload_n 1, 1) := dz0 dzo27 18 dzbX13_weighs_0 rfl
theorem dX13_weighs_19 : decode cX13_weighs 19 = .ok (.iload_n 2, 1) := dz0 dzo28 19 dzbX13_weighs_0 rfl
theorem dX13_weighs_20 : decode cX13_weighs 20 = .ok (.iload_n 3, 1) := dz0 dzo29 20 dzbX13_weighs_0 rfl
theorem dX13_weighs_21 : decode cX13_weighs 21 = .ok (.invokevirtual 289, 3) := dz2 dzo182 21 1 33 dzbX13_weighs_0 rfl
theorem dzbX13_weighs_24 : dzB cX13_weighs 24 [54, 6, 21, 4, 153, 0, 15, 17, 3, 232, 21, 6, 104, 21, 5, 96, 167, 0, 12, 17, 3, 232, 21, 5] := by decide +kernel
theorem dX13_weighs_24 : decode cX13_weighs 24 = .ok (.istore 6, 2) := dz1 dzo54 0 6 dzbX13_weighs_24 rfl
theorem dX13_weighs_26 : decode cX13_weighs 26 = .ok (.iload 4, 2) := dz1 dzo21 2 4 dzbX13_weighs_24 rfl
theorem dX13_weighs_28 : decode cX13_weighs 28 = .ok (.ifCond .eq 15, 3) := dz4 dzo153 4 0 15 15 rfl dzbX13_weighs_24 rfl
theorem dX13_weighs_31 : decode cX13_weighs 31 = .ok (.sipush 1000, 3) := dz4 dzo17 7 3 232 1000 rfl dzbX13_weighs_24 rfl
theorem dX13_weighs_34 : decode cX13_weighs 34 = .ok (.iload 6, 2) := dz1 dzo21 10 6 dzbX13_weighs_24 rfl
theorem dX13_weighs_36 : decode cX13_weighs 36 = .ok (.imul, 1) := dz0 dzo104 12 dzbX13_weighs_24 rfl
theorem dX13_weighs_37 : decode cX13_weighs 37 = .ok (.iload 5, 2) := dz1 dzo21 13 5 dzbX13_weighs_24 rfl
theorem dX13_weighs_39 : decode cX13_weighs 39 = .ok (.iadd, 1) := dz0 dzo96 15 dzbX13_weighs_24 rfl
theorem dX13_weighs_40 : decode cX13_weighs 40 = .ok (.goto 12, 3) := dz4 dzo167 16 0 12 12 rfl dzbX13_weighs_24 rfl
theorem dX13_weighs_43 : decode cX13_weighs 43 = .ok (.sipush 1000, 3) := dz4 dzo17 19 3 232 1000 rfl dzbX13_weighs_24 rfl
theorem dX13_weighs_46 : decode cX13_weighs 46 = .ok (.iload 5, 2) := dz1 dzo21 22 5 dzbX13_weighs_24 rfl
theorem dzbX13_weighs_48 : dzB cX13_weighs 48 [104, 21, 6, 96, 172] := by decide +kernel
theorem dX13_weighs_48 : decode cX13_weighs 48 = .ok (.imul, 1) := dz0 dzo104 0 dzbX13_weighs_48 rfl
theorem dX13_weighs_49 : decode cX13_weighs 49 = .ok (.iload 6, 2) := dz1 dzo21 1 6 dzbX13_weighs_48 rfl
theorem dX13_weighs_51 : decode cX13_weighs 51 = .ok (.iadd, 1) := dz0 dzo96 3 dzbX13_weighs_48 rfl
theorem dX13_weighs_52 : decode cX13_weighs 52 = .ok (.ireturn, 1) := dz0 dzo172 4 dzbX13_weighs_48 rfl
theorem dzbX13_weightOf_0 : dzB cX13_weightOf 0 [10, 65, 3, 54, 4, 21, 4, 42, 180, 1, 13, 180, 0, 245, 162, 0, 44, 32, 42, 21, 4, 27] := by decide +kernel
theorem dX13_weightOf_0 : decode cX13_weightOf 0 = .ok (.lconst 1, 1) := dz0 dzo10 0 dzbX13_weightOf_0 rfl
theorem dX13_weightOf_1 : decode cX13_weightOf 1 = .ok (.lstore_n 2, 1) := dz0 dzo65 1 dzbX13_weightOf_0 rfl
theorem dX13_weightOf_2 : decode cX13_weightOf 2 = .ok (.iconst 0, 1) := dz0 dzo3 2 dzbX13_weightOf_0 rfl
theorem dX13_weightOf_3 : decode cX13_weightOf 3 = .ok (.istore 4, 2) := dz1 dzo54 3 4 dzbX13_weightOf_0 rfl
theorem dX13_weightOf_5 : decode cX13_weightOf 5 = .ok (.iload 4, 2) := dz1 dzo21 5 4 dzbX13_weightOf_0 rfl
theorem dX13_weightOf_7 : decode cX13_weightOf 7 = .ok (.aload_n 0, 1) := dz0 dzo42 7 dzbX13_weightOf_0 rfl
theorem dX13_weightOf_8 : decode cX13_weightOf 8 = .ok (.getfield 269, 3) := dz2 dzo180 8 1 13 dzbX13_weightOf_0 rfl
theorem dX13_weightOf_11 : decode cX13_weightOf 11 = .ok (.getfield 245, 3) := dz2 dzo180 11 0 245 dzbX13_weightOf_0 rfl
theorem dX13_weightOf_14 : decode cX13_weightOf 14 = .ok (.if_icmp .ge 44, 3) := dz4 dzo162 14 0 44 44 rfl dzbX13_weightOf_0 rfl
theorem dX13_weightOf_17 : decode cX13_weightOf 17 = .ok (.lload_n 2, 1) := dz0 dzo32 17 dzbX13_weightOf_0 rfl
theorem dX13_weightOf_18 : decode cX13_weightOf 18 = .ok (.aload_n 0, 1) := dz0 dzo42 18 dzbX13_weightOf_0 rfl
theorem dX13_weightOf_19 : decode cX13_weightOf 19 = .ok (.iload 4, 2) := dz1 dzo21 19 4 dzbX13_weightOf_0 rfl
theorem dX13_weightOf_21 : decode cX13_weightOf 21 = .ok (.iload_n 1, 1) := dz0 dzo27 21 dzbX13_weightOf_0 rfl
theorem dzbX13_weightOf_22 : dzB cX13_weightOf 22 [182, 1, 123, 153, 0, 17, 16, 100, 42, 180, 1, 13, 180, 0, 191, 100, 133, 167, 0, 11, 42, 180, 1, 13] := by decide +kernel
theorem dX13_weightOf_22 : decode cX13_weightOf 22 = .ok (.invokevirtual 379, 3) := dz2 dzo182 0 1 123 dzbX13_weightOf_22 rfl
theorem dX13_weightOf_25 : decode cX13_weightOf 25 = .ok (.ifCond .eq 17, 3) := dz4 dzo153 3 0 17 17 rfl dzbX13_weightOf_22 rfl
theorem dX13_weightOf_28 : decode cX13_weightOf 28 = .ok (.bipush 100, 2) := dz3 dzo16 6 100 100 rfl dzbX13_weightOf_22 rfl
theorem dX13_weightOf_30 : decode cX13_weightOf 30 = .ok (.aload_n 0, 1) := dz0 dzo42 8 dzbX13_weightOf_22 rfl
theorem dX13_weightOf_31 : decode cX13_weightOf 31 = .ok (.getfield 269, 3) := dz2 dzo180 9 1 13 dzbX13_weightOf_22 rfl
theorem dX13_weightOf_34 : decode cX13_weightOf 34 = .ok (.getfield 191, 3) := dz2 dzo180 12 0 191 dzbX13_weightOf_22 rfl
theorem dX13_weightOf_37 : decode cX13_weightOf 37 = .ok (.isub, 1) := dz0 dzo100 15 dzbX13_weightOf_22 rfl
theorem dX13_weightOf_38 : decode cX13_weightOf 38 = .ok (.i2l, 1) := dz0 dzo133 16 dzbX13_weightOf_22 rfl
theorem dX13_weightOf_39 : decode cX13_weightOf 39 = .ok (.goto 11, 3) := dz4 dzo167 17 0 11 11 rfl dzbX13_weightOf_22 rfl
theorem dX13_weightOf_42 : decode cX13_weightOf 42 = .ok (.aload_n 0, 1) := dz0 dzo42 20 dzbX13_weightOf_22 rfl
theorem dX13_weightOf_43 : decode cX13_weightOf 43 = .ok (.getfield 269, 3) := dz2 dzo180 21 1 13 dzbX13_weightOf_22 rfl
theorem dzbX13_weightOf_46 : dzB cX13_weightOf 46 [180, 0, 191, 133, 105, 65, 132, 4, 1, 167, 255, 206, 32, 173] := by decide +kernel
theorem dX13_weightOf_46 : decode cX13_weightOf 46 = .ok (.getfield 191, 3) := dz2 dzo180 0 0 191 dzbX13_weightOf_46 rfl
theorem dX13_weightOf_49 : decode cX13_weightOf 49 = .ok (.i2l, 1) := dz0 dzo133 3 dzbX13_weightOf_46 rfl
theorem dX13_weightOf_50 : decode cX13_weightOf 50 = .ok (.lmul, 1) := dz0 dzo105 4 dzbX13_weightOf_46 rfl
theorem dX13_weightOf_51 : decode cX13_weightOf 51 = .ok (.lstore_n 2, 1) := dz0 dzo65 5 dzbX13_weightOf_46 rfl
theorem dX13_weightOf_52 : decode cX13_weightOf 52 = .ok (.iinc 4 1, 3) := dz5 dzo132 6 4 1 1 rfl dzbX13_weightOf_46 rfl
theorem dX13_weightOf_55 : decode cX13_weightOf 55 = .ok (.goto (-50), 3) := dz4 dzo167 9 255 206 (-50) rfl dzbX13_weightOf_46 rfl
theorem dX13_weightOf_58 : decode cX13_weightOf 58 = .ok (.lload_n 2, 1) := dz0 dzo32 12 dzbX13_weightOf_46 rfl
theorem dX13_weightOf_59 : decode cX13_weightOf 59 = .ok (.lreturn, 1) := dz0 dzo173 13 dzbX13_weightOf_46 rfl
theorem dzbX13_where_0 : dzB cX13_where 0 [42, 3, 181, 0, 42, 42, 180, 0, 9, 172] := by decide +kernel
theorem dX13_where_0 : decode cX13_where 0 = .ok (.aload_n 0, 1) := dz0 dzo42 0 dzbX13_where_0 rfl
theorem dX13_where_1 : decode cX13_where 1 = .ok (.iconst 0, 1) := dz0 dzo3 1 dzbX13_where_0 rfl
theorem dX13_where_2 : decode cX13_where 2 = .ok (.putfield 42, 3) := dz2 dzo181 2 0 42 dzbX13_where_0 rfl
theorem dX13_where_5 : decode cX13_where 5 = .ok (.aload_n 0, 1) := dz0 dzo42 5 dzbX13_where_0 rfl
theorem dX13_where_6 : decode cX13_where 6 = .ok (.getfield 9, 3) := dz2 dzo180 6 0 9 dzbX13_where_0 rfl
theorem dX13_where_9 : decode cX13_where 9 = .ok (.ireturn, 1) := dz0 dzo172 9 dzbX13_where_0 rfl
theorem dzbX13_wholeAt_0 : dzB cX13_wholeAt 0 [42, 180, 0, 74, 6, 159, 0, 11, 42, 4, 182, 0, 120, 167, 0, 20, 42, 180, 0, 100, 27, 28] := by decide +kernel
theorem dX13_wholeAt_0 : decode cX13_wholeAt 0 = .ok (.aload_n 0, 1) := dz0 dzo42 0 dzbX13_wholeAt_0 rfl
theorem dX13_wholeAt_1 : decode cX13_wholeAt 1 = .ok (.getfield 74, 3) := dz2 dzo180 1 0 74 dzbX13_wholeAt_0 rfl
theorem dX13_wholeAt_4 : decode cX13_wholeAt 4 = .ok (.iconst 3, 1) := dz0 dzo6 4 dzbX13_wholeAt_0 rfl
theorem dX13_wholeAt_5 : decode cX13_wholeAt 5 = .ok (.if_icmp .eq 11, 3) := dz4 dzo159 5 0 11 11 rfl dzbX13_wholeAt_0 rfl
theorem dX13_wholeAt_8 : decode cX13_wholeAt 8 = .ok (.aload_n 0, 1) := dz0 dzo42 8 dzbX13_wholeAt_0 rfl
theorem dX13_wholeAt_9 : decode cX13_wholeAt 9 = .ok (.iconst 1, 1) := dz0 dzo4 9 dzbX13_wholeAt_0 rfl
theorem dX13_wholeAt_10 : decode cX13_wholeAt 10 = .ok (.invokevirtual 120, 3) := dz2 dzo182 10 0 120 dzbX13_wholeAt_0 rfl
theorem dX13_wholeAt_13 : decode cX13_wholeAt 13 = .ok (.goto 20, 3) := dz4 dzo167 13 0 20 20 rfl dzbX13_wholeAt_0 rfl
theorem dX13_wholeAt_16 : decode cX13_wholeAt 16 = .ok (.aload_n 0, 1) := dz0 dzo42 16 dzbX13_wholeAt_0 rfl
theorem dX13_wholeAt_17 : decode cX13_wholeAt 17 = .ok (.getfield 100, 3) := dz2 dzo180 17 0 100 dzbX13_wholeAt_0 rfl
theorem dX13_wholeAt_20 : decode cX13_wholeAt 20 = .ok (.iload_n 1, 1) := dz0 dzo27 20 dzbX13_wholeAt_0 rfl
theorem dX13_wholeAt_21 : decode cX13_wholeAt 21 = .ok (.iload_n 2, 1) := dz0 dzo28 21 dzbX13_wholeAt_0 rfl
theorem dzbX13_wholeAt_22 : dzB cX13_wholeAt 22 [184, 0, 124, 154, 0, 8, 42, 7, 182, 0, 120, 42, 180, 0, 74, 8, 160, 0, 7, 27, 167, 0, 7, 42] := by decide +kernel
theorem dX13_wholeAt_22 : decode cX13_wholeAt 22 = .ok (.invokestatic 124, 3) := dz2 dzo184 0 0 124 dzbX13_wholeAt_22 rfl
theorem dX13_wholeAt_25 : decode cX13_wholeAt 25 = .ok (.ifCond .ne 8, 3) := dz4 dzo154 3 0 8 8 rfl dzbX13_wholeAt_22 rfl
theorem dX13_wholeAt_28 : decode cX13_wholeAt 28 = .ok (.aload_n 0, 1) := dz0 dzo42 6 dzbX13_wholeAt_22 rfl
theorem dX13_wholeAt_29 : decode cX13_wholeAt 29 = .ok (.iconst 4, 1) := dz0 dzo7 7 dzbX13_wholeAt_22 rfl
theorem dX13_wholeAt_30 : decode cX13_wholeAt 30 = .ok (.invokevirtual 120, 3) := dz2 dzo182 8 0 120 dzbX13_wholeAt_22 rfl
theorem dX13_wholeAt_33 : decode cX13_wholeAt 33 = .ok (.aload_n 0, 1) := dz0 dzo42 11 dzbX13_wholeAt_22 rfl
theorem dX13_wholeAt_34 : decode cX13_wholeAt 34 = .ok (.getfield 74, 3) := dz2 dzo180 12 0 74 dzbX13_wholeAt_22 rfl
theorem dX13_wholeAt_37 : decode cX13_wholeAt 37 = .ok (.iconst 5, 1) := dz0 dzo8 15 dzbX13_wholeAt_22 rfl
theorem dX13_wholeAt_38 : decode cX13_wholeAt 38 = .ok (.if_icmp .ne 7, 3) := dz4 dzo160 16 0 7 7 rfl dzbX13_wholeAt_22 rfl
theorem dX13_wholeAt_41 : decode cX13_wholeAt 41 = .ok (.iload_n 1, 1) := dz0 dzo27 19 dzbX13_wholeAt_22 rfl
theorem dX13_wholeAt_42 : decode cX13_wholeAt 42 = .ok (.goto 7, 3) := dz4 dzo167 20 0 7 7 rfl dzbX13_wholeAt_22 rfl
theorem dX13_wholeAt_45 : decode cX13_wholeAt 45 = .ok (.aload_n 0, 1) := dz0 dzo42 23 dzbX13_wholeAt_22 rfl
theorem dzbX13_wholeAt_46 : dzB cX13_wholeAt 46 [180, 0, 100, 172] := by decide +kernel
theorem dX13_wholeAt_46 : decode cX13_wholeAt 46 = .ok (.getfield 100, 3) := dz2 dzo180 0 0 100 dzbX13_wholeAt_46 rfl
theorem dX13_wholeAt_49 : decode cX13_wholeAt 49 = .ok (.ireturn, 1) := dz0 dzo172 3 dzbX13_wholeAt_46 rfl
theorem dzbX13_within_0 : dzB cX13_within 0 [3, 61, 3, 62, 29, 42, 182, 1, 21, 162, 0, 29, 28, 42, 180, 0, 33, 29, 46, 27, 163, 0, 9, 4] := by decide +kernel
theorem dX13_within_0 : decode cX13_within 0 = .ok (.iconst 0, 1) := dz0 dzo3 0 dzbX13_within_0 rfl
theorem dX13_within_1 : decode cX13_within 1 = .ok (.istore_n 2, 1) := dz0 dzo61 1 dzbX13_within_0 rfl
theorem dX13_within_2 : decode cX13_within 2 = .ok (.iconst 0, 1) := dz0 dzo3 2 dzbX13_within_0 rfl
theorem dX13_within_3 : decode cX13_within 3 = .ok (.istore_n 3, 1) := dz0 dzo62 3 dzbX13_within_0 rfl
theorem dX13_within_4 : decode cX13_within 4 = .ok (.iload_n 3, 1) := dz0 dzo29 4 dzbX13_within_0 rfl
theorem dX13_within_5 : decode cX13_within 5 = .ok (.aload_n 0, 1) := dz0 dzo42 5 dzbX13_within_0 rfl
theorem dX13_within_6 : decode cX13_within 6 = .ok (.invokevirtual 277, 3) := dz2 dzo182 6 1 21 dzbX13_within_0 rfl
theorem dX13_within_9 : decode cX13_within 9 = .ok (.if_icmp .ge 29, 3) := dz4 dzo162 9 0 29 29 rfl dzbX13_within_0 rfl
theorem dX13_within_12 : decode cX13_within 12 = .ok (.iload_n 2, 1) := dz0 dzo28 12 dzbX13_within_0 rfl
theorem dX13_within_13 : decode cX13_within 13 = .ok (.aload_n 0, 1) := dz0 dzo42 13 dzbX13_within_0 rfl
theorem dX13_within_14 : decode cX13_within 14 = .ok (.getfield 33, 3) := dz2 dzo180 14 0 33 dzbX13_within_0 rfl
theorem dX13_within_17 : decode cX13_within 17 = .ok (.iload_n 3, 1) := dz0 dzo29 17 dzbX13_within_0 rfl
theorem dX13_within_18 : decode cX13_within 18 = .ok (.iaload, 1) := dz0 dzo46 18 dzbX13_within_0 rfl
theorem dX13_within_19 : decode cX13_within 19 = .ok (.iload_n 1, 1) := dz0 dzo27 19 dzbX13_within_0 rfl
theorem dX13_within_20 : decode cX13_within 20 = .ok (.if_icmp .gt 9, 3) := dz4 dzo163 20 0 9 9 rfl dzbX13_within_0 rfl
theorem dX13_within_23 : decode cX13_within 23 = .ok (.iconst 1, 1) := dz0 dzo4 23 dzbX13_within_0 rfl
theorem dzbX13_within_24 : dzB cX13_within 24 [29, 120, 167, 0, 4, 3, 128, 61, 132, 3, 1, 167, 255, 225, 28, 172] := by decide +kernel
theorem dX13_within_24 : decode cX13_within 24 = .ok (.iload_n 3, 1) := dz0 dzo29 0 dzbX13_within_24 rfl
theorem dX13_within_25 : decode cX13_within 25 = .ok (.ishl, 1) := dz0 dzo120 1 dzbX13_within_24 rfl
theorem dX13_within_26 : decode cX13_within 26 = .ok (.goto 4, 3) := dz4 dzo167 2 0 4 4 rfl dzbX13_within_24 rfl
theorem dX13_within_29 : decode cX13_within 29 = .ok (.iconst 0, 1) := dz0 dzo3 5 dzbX13_within_24 rfl
theorem dX13_within_30 : decode cX13_within 30 = .ok (.ior, 1) := dz0 dzo128 6 dzbX13_within_24 rfl
theorem dX13_within_31 : decode cX13_within 31 = .ok (.istore_n 2, 1) := dz0 dzo61 7 dzbX13_within_24 rfl
theorem dX13_within_32 : decode cX13_within 32 = .ok (.iinc 3 1, 3) := dz5 dzo132 8 3 1 1 rfl dzbX13_within_24 rfl
theorem dX13_within_35 : decode cX13_within 35 = .ok (.goto (-31), 3) := dz4 dzo167 11 255 225 (-31) rfl dzbX13_within_24 rfl
theorem dX13_within_38 : decode cX13_within 38 = .ok (.iload_n 2, 1) := dz0 dzo28 14 dzbX13_within_24 rfl
theorem dX13_within_39 : decode cX13_within 39 = .ok (.ireturn, 1) := dz0 dzo172 15 dzbX13_within_24 rfl
theorem dzbX13_works_0 : dzB cX13_works 0 [3, 60, 27, 16, 20, 162, 0, 21, 42, 180, 0, 21, 27, 42, 180, 0, 17, 27, 46, 79, 132, 1, 1] := by decide +kernel
theorem dX13_works_0 : decode cX13_works 0 = .ok (.iconst 0, 1) := dz0 dzo3 0 dzbX13_works_0 rfl
theorem dX13_works_1 : decode cX13_works 1 = .ok (.istore_n 1, 1) := dz0 dzo60 1 dzbX13_works_0 rfl
theorem dX13_works_2 : decode cX13_works 2 = .ok (.iload_n 1, 1) := dz0 dzo27 2 dzbX13_works_0 rfl
theorem dX13_works_3 : decode cX13_works 3 = .ok (.bipush 20, 2) := dz3 dzo16 3 20 20 rfl dzbX13_works_0 rfl
theorem dX13_works_5 : decode cX13_works 5 = .ok (.if_icmp .ge 21, 3) := dz4 dzo162 5 0 21 21 rfl dzbX13_works_0 rfl
theorem dX13_works_8 : decode cX13_works 8 = .ok (.aload_n 0, 1) := dz0 dzo42 8 dzbX13_works_0 rfl
theorem dX13_works_9 : decode cX13_works 9 = .ok (.getfield 21, 3) := dz2 dzo180 9 0 21 dzbX13_works_0 rfl
theorem dX13_works_12 : decode cX13_works 12 = .ok (.iload_n 1, 1) := dz0 dzo27 12 dzbX13_works_0 rfl
theorem dX13_works_13 : decode cX13_works 13 = .ok (.aload_n 0, 1) := dz0 dzo42 13 dzbX13_works_0 rfl
theorem dX13_works_14 : decode cX13_works 14 = .ok (.getfield 17, 3) := dz2 dzo180 14 0 17 dzbX13_works_0 rfl
theorem dX13_works_17 : decode cX13_works 17 = .ok (.iload_n 1, 1) := dz0 dzo27 17 dzbX13_works_0 rfl
theorem dX13_works_18 : decode cX13_works 18 = .ok (.iaload, 1) := dz0 dzo46 18 dzbX13_works_0 rfl
theorem dX13_works_19 : decode cX13_works 19 = .ok (.iastore, 1) := dz0 dzo79 19 dzbX13_works_0 rfl
theorem dX13_works_20 : decode cX13_works 20 = .ok (.iinc 1 1, 3) := dz5 dzo132 20 1 1 1 rfl dzbX13_works_0 rfl
theorem dzbX13_works_23 : dzB cX13_works 23 [167, 255, 235, 177] := by decide +kernel
theorem dX13_works_23 : decode cX13_works 23 = .ok (.goto (-21), 3) := dz4 dzo167 0 255 235 (-21) rfl dzbX13_works_23 rfl
theorem dX13_works_26 : decode cX13_works 26 = .ok (.return_, 1) := dz0 dzo177 3 dzbX13_works_23 rfl
theorem dzbX1_begin_0 : dzB cX1_begin 0 [42, 43, 180, 0, 25, 181, 0, 31, 42, 44, 180, 0, 32, 4, 182, 0, 38, 181, 0, 44, 42, 3] := by decide +kernel
theorem dX1_begin_0 : decode cX1_begin 0 = .ok (.aload_n 0, 1) := dz0 dzo42 0 dzbX1_begin_0 rfl
theorem dX1_begin_1 : decode cX1_begin 1 = .ok (.aload_n 1, 1) := dz0 dzo43 1 dzbX1_begin_0 rfl
theorem dX1_begin_2 : decode cX1_begin 2 = .ok (.getfield 25, 3) := dz2 dzo180 2 0 25 dzbX1_begin_0 rfl
theorem dX1_begin_5 : decode cX1_begin 5 = .ok (.putfield 31, 3) := dz2 dzo181 5 0 31 dzbX1_begin_0 rfl
theorem dX1_begin_8 : decode cX1_begin 8 = .ok (.aload_n 0, 1) := dz0 dzo42 8 dzbX1_begin_0 rfl
theorem dX1_begin_9 : decode cX1_begin 9 = .ok (.aload_n 2, 1) := dz0 dzo44 9 dzbX1_begin_0 rfl
theorem dX1_begin_10 : decode cX1_begin 10 = .ok (.getfield 32, 3) := dz2 dzo180 10 0 32 dzbX1_begin_0 rfl
theorem dX1_begin_13 : decode cX1_begin 13 = .ok (.iconst 1, 1) := dz0 dzo4 13 dzbX1_begin_0 rfl
theorem dX1_begin_14 : decode cX1_begin 14 = .ok (.invokevirtual 38, 3) := dz2 dzo182 14 0 38 dzbX1_begin_0 rfl
theorem dX1_begin_17 : decode cX1_begin 17 = .ok (.putfield 44, 3) := dz2 dzo181 17 0 44 dzbX1_begin_0 rfl
theorem dX1_begin_20 : decode cX1_begin 20 = .ok (.aload_n 0, 1) := dz0 dzo42 20 dzbX1_begin_0 rfl
theorem dX1_begin_21 : decode cX1_begin 21 = .ok (.iconst 0, 1) := dz0 dzo3 21 dzbX1_begin_0 rfl
theorem dzbX1_begin_22 : dzB cX1_begin 22 [181, 0, 47, 3, 62, 29, 42, 180, 0, 31, 162, 0, 53, 42, 180, 0, 11, 29, 50, 44, 180, 0, 32, 43] := by decide +kernel
theorem dX1_begin_22 : decode cX1_begin 22 = .ok (.putfield 47, 3) := dz2 dzo181 0 0 47 dzbX1_begin_22 rfl
theorem dX1_begin_25 : decode cX1_begin 25 = .ok (.iconst 0, 1) := dz0 dzo3 3 dzbX1_begin_22 rfl
theorem dX1_begin_26 : decode cX1_begin 26 = .ok (.istore_n 3, 1) := dz0 dzo62 4 dzbX1_begin_22 rfl
theorem dX1_begin_27 : decode cX1_begin 27 = .ok (.iload_n 3, 1) := dz0 dzo29 5 dzbX1_begin_22 rfl
theorem dX1_begin_28 : decode cX1_begin 28 = .ok (.aload_n 0, 1) := dz0 dzo42 6 dzbX1_begin_22 rfl
theorem dX1_begin_29 : decode cX1_begin 29 = .ok (.getfield 31, 3) := dz2 dzo180 7 0 31 dzbX1_begin_22 rfl
theorem dX1_begin_32 : decode cX1_begin 32 = .ok (.if_icmp .ge 53, 3) := dz4 dzo162 10 0 53 53 rfl dzbX1_begin_22 rfl
theorem dX1_begin_35 : decode cX1_begin 35 = .ok (.aload_n 0, 1) := dz0 dzo42 13 dzbX1_begin_22 rfl
theorem dX1_begin_36 : decode cX1_begin 36 = .ok (.getfield 11, 3) := dz2 dzo180 14 0 11 dzbX1_begin_22 rfl
theorem dX1_begin_39 : decode cX1_begin 39 = .ok (.iload_n 3, 1) := dz0 dzo29 17 dzbX1_begin_22 rfl
theorem dX1_begin_40 : decode cX1_begin 40 = .ok (.aaload, 1) := dz0 dzo50 18 dzbX1_begin_22 rfl
theorem dX1_begin_41 : decode cX1_begin 41 = .ok (.aload_n 2, 1) := dz0 dzo44 19 dzbX1_begin_22 rfl
theorem dX1_begin_42 : decode cX1_begin 42 = .ok (.getfield 32, 3) := dz2 dzo180 20 0 32 dzbX1_begin_22 rfl
theorem dX1_begin_45 : decode cX1_begin 45 = .ok (.aload_n 1, 1) := dz0 dzo43 23 dzbX1_begin_22 rfl
theorem dzbX1_begin_46 : dzB cX1_begin 46 [180, 0, 50, 29, 46, 3, 182, 0, 53, 42, 180, 0, 17, 29, 44, 180, 0, 57, 29, 46, 79, 42] := by decide +kernel
theorem dX1_begin_46 : decode cX1_begin 46 = .ok (.getfield 50, 3) := dz2 dzo180 0 0 50 dzbX1_begin_46 rfl
theorem dX1_begin_49 : decode cX1_begin 49 = .ok (.iload_n 3, 1) := dz0 dzo29 3 dzbX1_begin_46 rfl
theorem dX1_begin_50 : decode cX1_begin 50 = .ok (.iaload, 1) := dz0 dzo46 4 dzbX1_begin_46 rfl
theorem dX1_begin_51 : decode cX1_begin 51 = .ok (.iconst 0, 1) := dz0 dzo3 5 dzbX1_begin_46 rfl
theorem dX1_begin_52 : decode cX1_begin 52 = .ok (.invokevirtual 53, 3) := dz2 dzo182 6 0 53 dzbX1_begin_46 rfl
theorem dX1_begin_55 : decode cX1_begin 55 = .ok (.aload_n 0, 1) := dz0 dzo42 9 dzbX1_begin_46 rfl
theorem dX1_begin_56 : decode cX1_begin 56 = .ok (.getfield 17, 3) := dz2 dzo180 10 0 17 dzbX1_begin_46 rfl
theorem dX1_begin_59 : decode cX1_begin 59 = .ok (.iload_n 3, 1) := dz0 dzo29 13 dzbX1_begin_46 rfl
theorem dX1_begin_60 : decode cX1_begin 60 = .ok (.aload_n 2, 1) := dz0 dzo44 14 dzbX1_begin_46 rfl
theorem dX1_begin_61 : decode cX1_begin 61 = .ok (.getfield 57, 3) := dz2 dzo180 15 0 57 dzbX1_begin_46 rfl
theorem dX1_begin_64 : decode cX1_begin 64 = .ok (.iload_n 3, 1) := dz0 dzo29 18 dzbX1_begin_46 rfl
theorem dX1_begin_65 : decode cX1_begin 65 = .ok (.iaload, 1) := dz0 dzo46 19 dzbX1_begin_46 rfl
theorem dX1_begin_66 : decode cX1_begin 66 = .ok (.iastore, 1) := dz0 dzo79 20 dzbX1_begin_46 rfl
theorem dX1_begin_67 : decode cX1_begin 67 = .ok (.aload_n 0, 1) := dz0 dzo42 21 dzbX1_begin_46 rfl
theorem dzbX1_begin_68 : dzB cX1_begin 68 [180, 0, 21, 29, 43, 180, 0, 60, 29, 46, 79, 132, 3, 1, 167, 255, 201, 177] := by decide +kernel
theorem dX1_begin_68 : decode cX1_begin 68 = .ok (.getfield 21, 3) := dz2 dzo180 0 0 21 dzbX1_begin_68 rfl
theorem dX1_begin_71 : decode cX1_begin 71 = .ok (.iload_n 3, 1) := dz0 dzo29 3 dzbX1_begin_68 rfl
theorem dX1_begin_72 : decode cX1_begin 72 = .ok (.aload_n 1, 1) := dz0 dzo43 4 dzbX1_begin_68 rfl
theorem dX1_begin_73 : decode cX1_begin 73 = .ok (.getfield 60, 3) := dz2 dzo180 5 0 60 dzbX1_begin_68 rfl
theorem dX1_begin_76 : decode cX1_begin 76 = .ok (.iload_n 3, 1) := dz0 dzo29 8 dzbX1_begin_68 rfl
theorem dX1_begin_77 : decode cX1_begin 77 = .ok (.iaload, 1) := dz0 dzo46 9 dzbX1_begin_68 rfl
theorem dX1_begin_78 : decode cX1_begin 78 = .ok (.iastore, 1) := dz0 dzo79 10 dzbX1_begin_68 rfl
theorem dX1_begin_79 : decode cX1_begin 79 = .ok (.iinc 3 1, 3) := dz5 dzo132 11 3 1 1 rfl dzbX1_begin_68 rfl
theorem dX1_begin_82 : decode cX1_begin 82 = .ok (.goto (-55), 3) := dz4 dzo167 14 255 201 (-55) rfl dzbX1_begin_68 rfl
theorem dX1_begin_85 : decode cX1_begin 85 = .ok (.return_, 1) := dz0 dzo177 17 dzbX1_begin_68 rfl
theorem dzbX1_init_0 : dzB cX1_init 0 [42, 183, 0, 3, 42, 7, 189, 0, 9, 181, 0, 11, 42, 7] := by decide +kernel
theorem dX1_init_0 : decode cX1_init 0 = .ok (.aload_n 0, 1) := dz0 dzo42 0 dzbX1_init_0 rfl
theorem dX1_init_1 : decode cX1_init 1 = .ok (.invokespecial 3, 3) := dz2 dzo183 1 0 3 dzbX1_init_0 rfl
theorem dX1_init_4 : decode cX1_init 4 = .ok (.aload_n 0, 1) := dz0 dzo42 4 dzbX1_init_0 rfl
theorem dX1_init_5 : decode cX1_init 5 = .ok (.iconst 4, 1) := dz0 dzo7 5 dzbX1_init_0 rfl
theorem dX1_init_6 : decode cX1_init 6 = .ok (.anewarray 9, 3) := dz2 dzo189 6 0 9 dzbX1_init_0 rfl
theorem dX1_init_9 : decode cX1_init 9 = .ok (.putfield 11, 3) := dz2 dzo181 9 0 11 dzbX1_init_0 rfl
theorem dX1_init_12 : decode cX1_init 12 = .ok (.aload_n 0, 1) := dz0 dzo42 12 dzbX1_init_0 rfl
theorem dX1_init_13 : decode cX1_init 13 = .ok (.iconst 4, 1) := dz0 dzo7 13 dzbX1_init_0 rfl
theorem dX1_init_14 : decode cX1_init 14 = .ok (.newarray .int, 2) := by decide +kernel
theorem dzbX1_init_16 : dzB cX1_init 16 [181, 0, 17, 42, 7] := by decide +kernel
theorem dX1_init_16 : decode cX1_init 16 = .ok (.putfield 17, 3) := dz2 dzo181 0 0 17 dzbX1_init_16 rfl
theorem dX1_init_19 : decode cX1_init 19 = .ok (.aload_n 0, 1) := dz0 dzo42 3 dzbX1_init_16 rfl
theorem dX1_init_20 : decode cX1_init 20 = .ok (.iconst 4, 1) := dz0 dzo7 4 dzbX1_init_16 rfl
theorem dX1_init_21 : decode cX1_init 21 = .ok (.newarray .int, 2) := by decide +kernel
theorem dzbX1_init_23 : dzB cX1_init 23 [181, 0, 21, 3, 60, 27, 7, 162, 0, 22, 42, 180, 0, 11, 27, 187, 0, 9, 89, 183, 0, 24, 83] := by decide +kernel
theorem dX1_init_23 : decode cX1_init 23 = .ok (.putfield 21, 3) := dz2 dzo181 0 0 21 dzbX1_init_23 rfl
theorem dX1_init_26 : decode cX1_init 26 = .ok (.iconst 0, 1) := dz0 dzo3 3 dzbX1_init_23 rfl
theorem dX1_init_27 : decode cX1_init 27 = .ok (.istore_n 1, 1) := dz0 dzo60 4 dzbX1_init_23 rfl
theorem dX1_init_28 : decode cX1_init 28 = .ok (.iload_n 1, 1) := dz0 dzo27 5 dzbX1_init_23 rfl
theorem dX1_init_29 : decode cX1_init 29 = .ok (.iconst 4, 1) := dz0 dzo7 6 dzbX1_init_23 rfl
theorem dX1_init_30 : decode cX1_init 30 = .ok (.if_icmp .ge 22, 3) := dz4 dzo162 7 0 22 22 rfl dzbX1_init_23 rfl
theorem dX1_init_33 : decode cX1_init 33 = .ok (.aload_n 0, 1) := dz0 dzo42 10 dzbX1_init_23 rfl
theorem dX1_init_34 : decode cX1_init 34 = .ok (.getfield 11, 3) := dz2 dzo180 11 0 11 dzbX1_init_23 rfl
theorem dX1_init_37 : decode cX1_init 37 = .ok (.iload_n 1, 1) := dz0 dzo27 14 dzbX1_init_23 rfl
theorem dX1_init_38 : decode cX1_init 38 = .ok (.new 9, 3) := dz2 dzo187 15 0 9 dzbX1_init_23 rfl
theorem dX1_init_41 : decode cX1_init 41 = .ok (.dup, 1) := dz0 dzo89 18 dzbX1_init_23 rfl
theorem dX1_init_42 : decode cX1_init 42 = .ok (.invokespecial 24, 3) := dz2 dzo183 19 0 24 dzbX1_init_23 rfl
theorem dX1_init_45 : decode cX1_init 45 = .ok (.aastore, 1) := dz0 dzo83 22 dzbX1_init_23 rfl
theorem dzbX1_init_46 : dzB cX1_init 46 [132, 1, 1, 167, 255, 235, 177] := by decide +kernel
theorem dX1_init_46 : decode cX1_init 46 = .ok (.iinc 1 1, 3) := dz5 dzo132 0 1 1 1 rfl dzbX1_init_46 rfl
theorem dX1_init_49 : decode cX1_init 49 = .ok (.goto (-21), 3) := dz4 dzo167 3 255 235 (-21) rfl dzbX1_init_46 rfl
theorem dX1_init_52 : decode cX1_init 52 = .ok (.return_, 1) := dz0 dzo177 6 dzbX1_init_46 rfl
theorem dzbX1_walkersBy_0 : dzB cX1_walkersBy 0 [3, 61, 3, 62, 29, 42, 180, 0, 31, 162, 0, 46, 42, 180, 0, 11, 29, 50, 42, 180, 0, 17, 29, 46] := by decide +kernel
theorem dX1_walkersBy_0 : decode cX1_walkersBy 0 = .ok (.iconst 0, 1) := dz0 dzo3 0 dzbX1_walkersBy_0 rfl
theorem dX1_walkersBy_1 : decode cX1_walkersBy 1 = .ok (.istore_n 2, 1) := dz0 dzo61 1 dzbX1_walkersBy_0 rfl
theorem dX1_walkersBy_2 : decode cX1_walkersBy 2 = .ok (.iconst 0, 1) := dz0 dzo3 2 dzbX1_walkersBy_0 rfl
theorem dX1_walkersBy_3 : decode cX1_walkersBy 3 = .ok (.istore_n 3, 1) := dz0 dzo62 3 dzbX1_walkersBy_0 rfl
theorem dX1_walkersBy_4 : decode cX1_walkersBy 4 = .ok (.iload_n 3, 1) := dz0 dzo29 4 dzbX1_walkersBy_0 rfl
theorem dX1_walkersBy_5 : decode cX1_walkersBy 5 = .ok (.aload_n 0, 1) := dz0 dzo42 5 dzbX1_walkersBy_0 rfl
theorem dX1_walkersBy_6 : decode cX1_walkersBy 6 = .ok (.getfield 31, 3) := dz2 dzo180 6 0 31 dzbX1_walkersBy_0 rfl
theorem dX1_walkersBy_9 : decode cX1_walkersBy 9 = .ok (.if_icmp .ge 46, 3) := dz4 dzo162 9 0 46 46 rfl dzbX1_walkersBy_0 rfl
theorem dX1_walkersBy_12 : decode cX1_walkersBy 12 = .ok (.aload_n 0, 1) := dz0 dzo42 12 dzbX1_walkersBy_0 rfl
theorem dX1_walkersBy_13 : decode cX1_walkersBy 13 = .ok (.getfield 11, 3) := dz2 dzo180 13 0 11 dzbX1_walkersBy_0 rfl
theorem dX1_walkersBy_16 : decode cX1_walkersBy 16 = .ok (.iload_n 3, 1) := dz0 dzo29 16 dzbX1_walkersBy_0 rfl
theorem dX1_walkersBy_17 : decode cX1_walkersBy 17 = .ok (.aaload, 1) := dz0 dzo50 17 dzbX1_walkersBy_0 rfl
theorem dX1_walkersBy_18 : decode cX1_walkersBy 18 = .ok (.aload_n 0, 1) := dz0 dzo42 18 dzbX1_walkersBy_0 rfl
theorem dX1_walkersBy_19 : decode cX1_walkersBy 19 = .ok (.getfield 17, 3) := dz2 dzo180 19 0 17 dzbX1_walkersBy_0 rfl
theorem dX1_walkersBy_22 : decode cX1_walkersBy 22 = .ok (.iload_n 3, 1) := dz0 dzo29 22 dzbX1_walkersBy_0 rfl
theorem dX1_walkersBy_23 : decode cX1_walkersBy 23 = .ok (.iaload, 1) := dz0 dzo46 23 dzbX1_walkersBy_0 rfl
theorem dzbX1_walkersBy_24 : dzB cX1_walkersBy 24 [42, 180, 0, 21, 29, 46, 42, 180, 0, 44, 27, 128, 3, 182, 0, 61, 153, 0, 9, 28, 4, 29, 120, 128] := by decide +kernel
theorem dX1_walkersBy_24 : decode cX1_walkersBy 24 = .ok (.aload_n 0, 1) := dz0 dzo42 0 dzbX1_walkersBy_24 rfl
theorem dX1_walkersBy_25 : decode cX1_walkersBy 25 = .ok (.getfield 21, 3) := dz2 dzo180 1 0 21 dzbX1_walkersBy_24 rfl
theorem dX1_walkersBy_28 : decode cX1_walkersBy 28 = .ok (.iload_n 3, 1) := dz0 dzo29 4 dzbX1_walkersBy_24 rfl
theorem dX1_walkersBy_29 : decode cX1_walkersBy 29 = .ok (.iaload, 1) := dz0 dzo46 5 dzbX1_walkersBy_24 rfl
theorem dX1_walkersBy_30 : decode cX1_walkersBy 30 = .ok (.aload_n 0, 1) := dz0 dzo42 6 dzbX1_walkersBy_24 rfl
theorem dX1_walkersBy_31 : decode cX1_walkersBy 31 = .ok (.getfield 44, 3) := dz2 dzo180 7 0 44 dzbX1_walkersBy_24 rfl
theorem dX1_walkersBy_34 : decode cX1_walkersBy 34 = .ok (.iload_n 1, 1) := dz0 dzo27 10 dzbX1_walkersBy_24 rfl
theorem dX1_walkersBy_35 : decode cX1_walkersBy 35 = .ok (.ior, 1) := dz0 dzo128 11 dzbX1_walkersBy_24 rfl
theorem dX1_walkersBy_36 : decode cX1_walkersBy 36 = .ok (.iconst 0, 1) := dz0 dzo3 12 dzbX1_walkersBy_24 rfl
theorem dX1_walkersBy_37 : decode cX1_walkersBy 37 = .ok (.invokevirtual 61, 3) := dz2 dzo182 13 0 61 dzbX1_walkersBy_24 rfl
theorem dX1_walkersBy_40 : decode cX1_walkersBy 40 = .ok (.ifCond .eq 9, 3) := dz4 dzo153 16 0 9 9 rfl dzbX1_walkersBy_24 rfl
theorem dX1_walkersBy_43 : decode cX1_walkersBy 43 = .ok (.iload_n 2, 1) := dz0 dzo28 19 dzbX1_walkersBy_24 rfl
theorem dX1_walkersBy_44 : decode cX1_walkersBy 44 = .ok (.iconst 1, 1) := dz0 dzo4 20 dzbX1_walkersBy_24 rfl
theorem dX1_walkersBy_45 : decode cX1_walkersBy 45 = .ok (.iload_n 3, 1) := dz0 dzo29 21 dzbX1_walkersBy_24 rfl
theorem dX1_walkersBy_46 : decode cX1_walkersBy 46 = .ok (.ishl, 1) := dz0 dzo120 22 dzbX1_walkersBy_24 rfl
theorem dX1_walkersBy_47 : decode cX1_walkersBy 47 = .ok (.ior, 1) := dz0 dzo128 23 dzbX1_walkersBy_24 rfl
theorem dzbX1_walkersBy_48 : dzB cX1_walkersBy 48 [61, 132, 3, 1, 167, 255, 208, 28, 172] := by decide +kernel
theorem dX1_walkersBy_48 : decode cX1_walkersBy 48 = .ok (.istore_n 2, 1) := dz0 dzo61 0 dzbX1_walkersBy_48 rfl
theorem dX1_walkersBy_49 : decode cX1_walkersBy 49 = .ok (.iinc 3 1, 3) := dz5 dzo132 1 3 1 1 rfl dzbX1_walkersBy_48 rfl
theorem dX1_walkersBy_52 : decode cX1_walkersBy 52 = .ok (.goto (-48), 3) := dz4 dzo167 4 255 208 (-48) rfl dzbX1_walkersBy_48 rfl
theorem dX1_walkersBy_55 : decode cX1_walkersBy 55 = .ok (.iload_n 2, 1) := dz0 dzo28 7 dzbX1_walkersBy_48 rfl
theorem dX1_walkersBy_56 : decode cX1_walkersBy 56 = .ok (.ireturn, 1) := dz0 dzo172 8 dzbX1_walkersBy_48 rfl
theorem dzbX1_worksBy_0 : dzB cX1_worksBy 0 [3, 61, 28, 42, 180, 0, 31, 162, 0, 61, 42, 180, 0, 47, 28, 96, 42, 180, 0, 31, 112, 62, 42] := by decide +kernel
theorem dX1_worksBy_0 : decode cX1_worksBy 0 = .ok (.iconst 0, 1) := dz0 dzo3 0 dzbX1_worksBy_0 rfl
theorem dX1_worksBy_1 : decode cX1_worksBy 1 = .ok (.istore_n 2, 1) := dz0 dzo61 1 dzbX1_worksBy_0 rfl
theorem dX1_worksBy_2 : decode cX1_worksBy 2 = .ok (.iload_n 2, 1) := dz0 dzo28 2 dzbX1_worksBy_0 rfl
theorem dX1_worksBy_3 : decode cX1_worksBy 3 = .ok (.aload_n 0, 1) := dz0 dzo42 3 dzbX1_worksBy_0 rfl
theorem dX1_worksBy_4 : decode cX1_worksBy 4 = .ok (.getfield 31, 3) := dz2 dzo180 4 0 31 dzbX1_worksBy_0 rfl
theorem dX1_worksBy_7 : decode cX1_worksBy 7 = .ok (.if_icmp .ge 61, 3) := dz4 dzo162 7 0 61 61 rfl dzbX1_worksBy_0 rfl
theorem dX1_worksBy_10 : decode cX1_worksBy 10 = .ok (.aload_n 0, 1) := dz0 dzo42 10 dzbX1_worksBy_0 rfl
theorem dX1_worksBy_11 : decode cX1_worksBy 11 = .ok (.getfield 47, 3) := dz2 dzo180 11 0 47 dzbX1_worksBy_0 rfl
theorem dX1_worksBy_14 : decode cX1_worksBy 14 = .ok (.iload_n 2, 1) := dz0 dzo28 14 dzbX1_worksBy_0 rfl
theorem dX1_worksBy_15 : decode cX1_worksBy 15 = .ok (.iadd, 1) := dz0 dzo96 15 dzbX1_worksBy_0 rfl
theorem dX1_worksBy_16 : decode cX1_worksBy 16 = .ok (.aload_n 0, 1) := dz0 dzo42 16 dzbX1_worksBy_0 rfl
theorem dX1_worksBy_17 : decode cX1_worksBy 17 = .ok (.getfield 31, 3) := dz2 dzo180 17 0 31 dzbX1_worksBy_0 rfl
theorem dX1_worksBy_20 : decode cX1_worksBy 20 = .ok (.irem, 1) := dz0 dzo112 20 dzbX1_worksBy_0 rfl
theorem dX1_worksBy_21 : decode cX1_worksBy 21 = .ok (.istore_n 3, 1) := dz0 dzo62 21 dzbX1_worksBy_0 rfl
theorem dX1_worksBy_22 : decode cX1_worksBy 22 = .ok (.aload_n 0, 1) := dz0 dzo42 22 dzbX1_worksBy_0 rfl
theorem dzbX1_worksBy_23 : dzB cX1_worksBy 23 [180, 0, 11, 29, 50, 42, 180, 0, 17, 29, 46, 42, 180, 0, 21, 29, 46, 42, 180, 0, 44, 27, 2, 130] := by decide +kernel
theorem dX1_worksBy_23 : decode cX1_worksBy 23 = .ok (.getfield 11, 3) := dz2 dzo180 0 0 11 dzbX1_worksBy_23 rfl
theorem dX1_worksBy_26 : decode cX1_worksBy 26 = .ok (.iload_n 3, 1) := dz0 dzo29 3 dzbX1_worksBy_23 rfl
theorem dX1_worksBy_27 : decode cX1_worksBy 27 = .ok (.aaload, 1) := dz0 dzo50 4 dzbX1_worksBy_23 rfl
theorem dX1_worksBy_28 : decode cX1_worksBy 28 = .ok (.aload_n 0, 1) := dz0 dzo42 5 dzbX1_worksBy_23 rfl
theorem dX1_worksBy_29 : decode cX1_worksBy 29 = .ok (.getfield 17, 3) := dz2 dzo180 6 0 17 dzbX1_worksBy_23 rfl
theorem dX1_worksBy_32 : decode cX1_worksBy 32 = .ok (.iload_n 3, 1) := dz0 dzo29 9 dzbX1_worksBy_23 rfl
theorem dX1_worksBy_33 : decode cX1_worksBy 33 = .ok (.iaload, 1) := dz0 dzo46 10 dzbX1_worksBy_23 rfl
theorem dX1_worksBy_34 : decode cX1_worksBy 34 = .ok (.aload_n 0, 1) := dz0 dzo42 11 dzbX1_worksBy_23 rfl
theorem dX1_worksBy_35 : decode cX1_worksBy 35 = .ok (.getfield 21, 3) := dz2 dzo180 12 0 21 dzbX1_worksBy_23 rfl
theorem dX1_worksBy_38 : decode cX1_worksBy 38 = .ok (.iload_n 3, 1) := dz0 dzo29 15 dzbX1_worksBy_23 rfl
theorem dX1_worksBy_39 : decode cX1_worksBy 39 = .ok (.iaload, 1) := dz0 dzo46 16 dzbX1_worksBy_23 rfl
theorem dX1_worksBy_40 : decode cX1_worksBy 40 = .ok (.aload_n 0, 1) := dz0 dzo42 17 dzbX1_worksBy_23 rfl
theorem dX1_worksBy_41 : decode cX1_worksBy 41 = .ok (.getfield 44, 3) := dz2 dzo180 18 0 44 dzbX1_worksBy_23 rfl
theorem dX1_worksBy_44 : decode cX1_worksBy 44 = .ok (.iload_n 1, 1) := dz0 dzo27 21 dzbX1_worksBy_23 rfl
theorem dX1_worksBy_45 : decode cX1_worksBy 45 = .ok (.iconst (-1), 1) := dz0 dzo2 22 dzbX1_worksBy_23 rfl
theorem dX1_worksBy_46 : decode cX1_worksBy 46 = .ok (.ixor, 1) := dz0 dzo130 23 dzbX1_worksBy_23 rfl
theorem dzbX1_worksBy_47 : dzB cX1_worksBy 47 [126, 3, 182, 0, 61, 154, 0, 10, 42, 29, 181, 0, 47, 3, 172, 132, 2, 1, 167, 255, 193, 4, 172] := by decide +kernel
theorem dX1_worksBy_47 : decode cX1_worksBy 47 = .ok (.iand, 1) := dz0 dzo126 0 dzbX1_worksBy_47 rfl
theorem dX1_worksBy_48 : decode cX1_worksBy 48 = .ok (.iconst 0, 1) := dz0 dzo3 1 dzbX1_worksBy_47 rfl
theorem dX1_worksBy_49 : decode cX1_worksBy 49 = .ok (.invokevirtual 61, 3) := dz2 dzo182 2 0 61 dzbX1_worksBy_47 rfl
theorem dX1_worksBy_52 : decode cX1_worksBy 52 = .ok (.ifCond .ne 10, 3) := dz4 dzo154 5 0 10 10 rfl dzbX1_worksBy_47 rfl
theorem dX1_worksBy_55 : decode cX1_worksBy 55 = .ok (.aload_n 0, 1) := dz0 dzo42 8 dzbX1_worksBy_47 rfl
theorem dX1_worksBy_56 : decode cX1_worksBy 56 = .ok (.iload_n 3, 1) := dz0 dzo29 9 dzbX1_worksBy_47 rfl
theorem dX1_worksBy_57 : decode cX1_worksBy 57 = .ok (.putfield 47, 3) := dz2 dzo181 10 0 47 dzbX1_worksBy_47 rfl
theorem dX1_worksBy_60 : decode cX1_worksBy 60 = .ok (.iconst 0, 1) := dz0 dzo3 13 dzbX1_worksBy_47 rfl
theorem dX1_worksBy_61 : decode cX1_worksBy 61 = .ok (.ireturn, 1) := dz0 dzo172 14 dzbX1_worksBy_47 rfl
theorem dX1_worksBy_62 : decode cX1_worksBy 62 = .ok (.iinc 2 1, 3) := dz5 dzo132 15 2 1 1 rfl dzbX1_worksBy_47 rfl
theorem dX1_worksBy_65 : decode cX1_worksBy 65 = .ok (.goto (-63), 3) := dz4 dzo167 18 255 193 (-63) rfl dzbX1_worksBy_47 rfl
theorem dX1_worksBy_68 : decode cX1_worksBy 68 = .ok (.iconst 1, 1) := dz0 dzo4 21 dzbX1_worksBy_47 rfl
theorem dX1_worksBy_69 : decode cX1_worksBy 69 = .ok (.ireturn, 1) := dz0 dzo172 22 dzbX1_worksBy_47 rfl
theorem dzbX2_comesTo_0 : dzB cX2_comesTo 0 [42, 27, 29, 21, 4, 182, 0, 47, 28, 122, 4, 126, 4, 160, 0, 7, 4, 167, 0, 4, 3, 172] := by decide +kernel
theorem dX2_comesTo_0 : decode cX2_comesTo 0 = .ok (.aload_n 0, 1) := dz0 dzo42 0 dzbX2_comesTo_0 rfl
theorem dX2_comesTo_1 : decode cX2_comesTo 1 = .ok (.iload_n 1, 1) := dz0 dzo27 1 dzbX2_comesTo_0 rfl
theorem dX2_comesTo_2 : decode cX2_comesTo 2 = .ok (.iload_n 3, 1) := dz0 dzo29 2 dzbX2_comesTo_0 rfl
theorem dX2_comesTo_3 : decode cX2_comesTo 3 = .ok (.iload 4, 2) := dz1 dzo21 3 4 dzbX2_comesTo_0 rfl
theorem dX2_comesTo_5 : decode cX2_comesTo 5 = .ok (.invokevirtual 47, 3) := dz2 dzo182 5 0 47 dzbX2_comesTo_0 rfl
theorem dX2_comesTo_8 : decode cX2_comesTo 8 = .ok (.iload_n 2, 1) := dz0 dzo28 8 dzbX2_comesTo_0 rfl
theorem dX2_comesTo_9 : decode cX2_comesTo 9 = .ok (.ishr, 1) := dz0 dzo122 9 dzbX2_comesTo_0 rfl
theorem dX2_comesTo_10 : decode cX2_comesTo 10 = .ok (.iconst 1, 1) := dz0 dzo4 10 dzbX2_comesTo_0 rfl
theorem dX2_comesTo_11 : decode cX2_comesTo 11 = .ok (.iand, 1) := dz0 dzo126 11 dzbX2_comesTo_0 rfl
theorem dX2_comesTo_12 : decode cX2_comesTo 12 = .ok (.iconst 1, 1) := dz0 dzo4 12 dzbX2_comesTo_0 rfl
theorem dX2_comesTo_13 : decode cX2_comesTo 13 = .ok (.if_icmp .ne 7, 3) := dz4 dzo160 13 0 7 7 rfl dzbX2_comesTo_0 rfl
theorem dX2_comesTo_16 : decode cX2_comesTo 16 = .ok (.iconst 1, 1) := dz0 dzo4 16 dzbX2_comesTo_0 rfl
theorem dX2_comesTo_17 : decode cX2_comesTo 17 = .ok (.goto 4, 3) := dz4 dzo167 17 0 4 4 rfl dzbX2_comesTo_0 rfl
theorem dX2_comesTo_20 : decode cX2_comesTo 20 = .ok (.iconst 0, 1) := dz0 dzo3 20 dzbX2_comesTo_0 rfl
theorem dX2_comesTo_21 : decode cX2_comesTo 21 = .ok (.ireturn, 1) := dz0 dzo172 21 dzbX2_comesTo_0 rfl
theorem dzbX2_init_0 : dzB cX2_init 0 [42, 183, 0, 3, 42, 16, 20] := by decide +kernel
theorem dX2_init_0 : decode cX2_init 0 = .ok (.aload_n 0, 1) := dz0 dzo42 0 dzbX2_init_0 rfl
theorem dX2_init_1 : decode cX2_init 1 = .ok (.invokespecial 3, 3) := dz2 dzo183 1 0 3 dzbX2_init_0 rfl
theorem dX2_init_4 : decode cX2_init 4 = .ok (.aload_n 0, 1) := dz0 dzo42 4 dzbX2_init_0 rfl
theorem dX2_init_5 : decode cX2_init 5 = .ok (.bipush 20, 2) := dz3 dzo16 5 20 20 rfl dzbX2_init_0 rfl
theorem dX2_init_7 : decode cX2_init 7 = .ok (.newarray .int, 2) := by decide +kernel
theorem dzbX2_init_9 : dzB cX2_init 9 [181, 0, 9, 42, 16, 20] := by decide +kernel
theorem dX2_init_9 : decode cX2_init 9 = .ok (.putfield 9, 3) := dz2 dzo181 0 0 9 dzbX2_init_9 rfl
theorem dX2_init_12 : decode cX2_init 12 = .ok (.aload_n 0, 1) := dz0 dzo42 3 dzbX2_init_9 rfl
theorem dX2_init_13 : decode cX2_init 13 = .ok (.bipush 20, 2) := dz3 dzo16 4 20 20 rfl dzbX2_init_9 rfl
theorem dX2_init_15 : decode cX2_init 15 = .ok (.newarray .int, 2) := by decide +kernel
theorem dzbX2_init_17 : dzB cX2_init 17 [181, 0, 15, 42, 16, 20] := by decide +kernel
theorem dX2_init_17 : decode cX2_init 17 = .ok (.putfield 15, 3) := dz2 dzo181 0 0 15 dzbX2_init_17 rfl
theorem dX2_init_20 : decode cX2_init 20 = .ok (.aload_n 0, 1) := dz0 dzo42 3 dzbX2_init_17 rfl
theorem dX2_init_21 : decode cX2_init 21 = .ok (.bipush 20, 2) := dz3 dzo16 4 20 20 rfl dzbX2_init_17 rfl
theorem dX2_init_23 : decode cX2_init 23 = .ok (.newarray .int, 2) := by decide +kernel
theorem dzbX2_init_25 : dzB cX2_init 25 [181, 0, 18, 177] := by decide +kernel
theorem dX2_init_25 : decode cX2_init 25 = .ok (.putfield 18, 3) := dz2 dzo181 0 0 18 dzbX2_init_25 rfl
theorem dX2_init_28 : decode cX2_init 28 = .ok (.return_, 1) := dz0 dzo177 3 dzbX2_init_25 rfl
theorem dzbX2_learn_0 : dzB cX2_learn 0 [3, 54, 4, 21, 4, 43, 180, 0, 21, 162, 0, 157, 42, 180, 0, 9, 21, 4, 3, 79, 42, 180, 0, 15] := by decide +kernel
theorem dX2_learn_0 : decode cX2_learn 0 = .ok (.iconst 0, 1) := dz0 dzo3 0 dzbX2_learn_0 rfl
theorem dX2_learn_1 : decode cX2_learn 1 = .ok (.istore 4, 2) := dz1 dzo54 1 4 dzbX2_learn_0 rfl
theorem dX2_learn_3 : decode cX2_learn 3 = .ok (.iload 4, 2) := dz1 dzo21 3 4 dzbX2_learn_0 rfl
theorem dX2_learn_5 : decode cX2_learn 5 = .ok (.aload_n 1, 1) := dz0 dzo43 5 dzbX2_learn_0 rfl
theorem dX2_learn_6 : decode cX2_learn 6 = .ok (.getfield 21, 3) := dz2 dzo180 6 0 21 dzbX2_learn_0 rfl
theorem dX2_learn_9 : decode cX2_learn 9 = .ok (.if_icmp .ge 157, 3) := dz4 dzo162 9 0 157 157 rfl dzbX2_learn_0 rfl
theorem dX2_learn_12 : decode cX2_learn 12 = .ok (.aload_n 0, 1) := dz0 dzo42 12 dzbX2_learn_0 rfl
theorem dX2_learn_13 : decode cX2_learn 13 = .ok (.getfield 9, 3) := dz2 dzo180 13 0 9 dzbX2_learn_0 rfl
theorem dX2_learn_16 : decode cX2_learn 16 = .ok (.iload 4, 2) := dz1 dzo21 16 4 dzbX2_learn_0 rfl
theorem dX2_learn_18 : decode cX2_learn 18 = .ok (.iconst 0, 1) := dz0 dzo3 18 dzbX2_learn_0 rfl
theorem dX2_learn_19 : decode cX2_learn 19 = .ok (.iastore, 1) := dz0 dzo79 19 dzbX2_learn_0 rfl
theorem dX2_learn_20 : decode cX2_learn 20 = .ok (.aload_n 0, 1) := dz0 dzo42 20 dzbX2_learn_0 rfl
theorem dX2_learn_21 : decode cX2_learn 21 = .ok (.getfield 15, 3) := dz2 dzo180 21 0 15 dzbX2_learn_0 rfl
theorem dzbX2_learn_24 : dzB cX2_learn 24 [21, 4, 3, 79, 42, 180, 0, 18, 21, 4, 3, 79, 3, 54, 5, 21, 5, 7, 162, 0, 118, 43, 21, 4] := by decide +kernel
theorem dX2_learn_24 : decode cX2_learn 24 = .ok (.iload 4, 2) := dz1 dzo21 0 4 dzbX2_learn_24 rfl
theorem dX2_learn_26 : decode cX2_learn 26 = .ok (.iconst 0, 1) := dz0 dzo3 2 dzbX2_learn_24 rfl
theorem dX2_learn_27 : decode cX2_learn 27 = .ok (.iastore, 1) := dz0 dzo79 3 dzbX2_learn_24 rfl
theorem dX2_learn_28 : decode cX2_learn 28 = .ok (.aload_n 0, 1) := dz0 dzo42 4 dzbX2_learn_24 rfl
theorem dX2_learn_29 : decode cX2_learn 29 = .ok (.getfield 18, 3) := dz2 dzo180 5 0 18 dzbX2_learn_24 rfl
theorem dX2_learn_32 : decode cX2_learn 32 = .ok (.iload 4, 2) := dz1 dzo21 8 4 dzbX2_learn_24 rfl
theorem dX2_learn_34 : decode cX2_learn 34 = .ok (.iconst 0, 1) := dz0 dzo3 10 dzbX2_learn_24 rfl
theorem dX2_learn_35 : decode cX2_learn 35 = .ok (.iastore, 1) := dz0 dzo79 11 dzbX2_learn_24 rfl
theorem dX2_learn_36 : decode cX2_learn 36 = .ok (.iconst 0, 1) := dz0 dzo3 12 dzbX2_learn_24 rfl
theorem dX2_learn_37 : decode cX2_learn 37 = .ok (.istore 5, 2) := dz1 dzo54 13 5 dzbX2_learn_24 rfl
theorem dX2_learn_39 : decode cX2_learn 39 = .ok (.iload 5, 2) := dz1 dzo21 15 5 dzbX2_learn_24 rfl
theorem dX2_learn_41 : decode cX2_learn 41 = .ok (.iconst 4, 1) := dz0 dzo7 17 dzbX2_learn_24 rfl
theorem dX2_learn_42 : decode cX2_learn 42 = .ok (.if_icmp .ge 118, 3) := dz4 dzo162 18 0 118 118 rfl dzbX2_learn_24 rfl
theorem dX2_learn_45 : decode cX2_learn 45 = .ok (.aload_n 1, 1) := dz0 dzo43 21 dzbX2_learn_24 rfl
theorem dX2_learn_46 : decode cX2_learn 46 = .ok (.iload 4, 2) := dz1 dzo21 22 4 dzbX2_learn_24 rfl
theorem dzbX2_learn_48 : dzB cX2_learn 48 [21, 5, 182, 0, 27, 54, 6, 21, 6, 2, 160, 0, 7, 3, 167, 0, 7, 4, 21, 6, 120, 54, 7, 42] := by decide +kernel
theorem dX2_learn_48 : decode cX2_learn 48 = .ok (.iload 5, 2) := dz1 dzo21 0 5 dzbX2_learn_48 rfl
theorem dX2_learn_50 : decode cX2_learn 50 = .ok (.invokevirtual 27, 3) := dz2 dzo182 2 0 27 dzbX2_learn_48 rfl
theorem dX2_learn_53 : decode cX2_learn 53 = .ok (.istore 6, 2) := dz1 dzo54 5 6 dzbX2_learn_48 rfl
theorem dX2_learn_55 : decode cX2_learn 55 = .ok (.iload 6, 2) := dz1 dzo21 7 6 dzbX2_learn_48 rfl
theorem dX2_learn_57 : decode cX2_learn 57 = .ok (.iconst (-1), 1) := dz0 dzo2 9 dzbX2_learn_48 rfl
theorem dX2_learn_58 : decode cX2_learn 58 = .ok (.if_icmp .ne 7, 3) := dz4 dzo160 10 0 7 7 rfl dzbX2_learn_48 rfl
theorem dX2_learn_61 : decode cX2_learn 61 = .ok (.iconst 0, 1) := dz0 dzo3 13 dzbX2_learn_48 rfl
theorem dX2_learn_62 : decode cX2_learn 62 = .ok (.goto 7, 3) := dz4 dzo167 14 0 7 7 rfl dzbX2_learn_48 rfl
theorem dX2_learn_65 : decode cX2_learn 65 = .ok (.iconst 1, 1) := dz0 dzo4 17 dzbX2_learn_48 rfl
theorem dX2_learn_66 : decode cX2_learn 66 = .ok (.iload 6, 2) := dz1 dzo21 18 6 dzbX2_learn_48 rfl
theorem dX2_learn_68 : decode cX2_learn 68 = .ok (.ishl, 1) := dz0 dzo120 20 dzbX2_learn_48 rfl
theorem dX2_learn_69 : decode cX2_learn 69 = .ok (.istore 7, 2) := dz1 dzo54 21 7 dzbX2_learn_48 rfl
theorem dX2_learn_71 : decode cX2_learn 71 = .ok (.aload_n 0, 1) := dz0 dzo42 23 dzbX2_learn_48 rfl
theorem dzbX2_learn_72 : dzB cX2_learn 72 [180, 0, 9, 21, 4, 92, 46, 21, 7, 128, 79, 28, 21, 5, 184, 0, 31, 16, 254, 159, 0, 15, 42] := by decide +kernel
theorem dX2_learn_72 : decode cX2_learn 72 = .ok (.getfield 9, 3) := dz2 dzo180 0 0 9 dzbX2_learn_72 rfl
theorem dX2_learn_75 : decode cX2_learn 75 = .ok (.iload 4, 2) := dz1 dzo21 3 4 dzbX2_learn_72 rfl
theorem dX2_learn_77 : decode cX2_learn 77 = .ok (.dup2, 1) := dz0 dzo92 5 dzbX2_learn_72 rfl
theorem dX2_learn_78 : decode cX2_learn 78 = .ok (.iaload, 1) := dz0 dzo46 6 dzbX2_learn_72 rfl
theorem dX2_learn_79 : decode cX2_learn 79 = .ok (.iload 7, 2) := dz1 dzo21 7 7 dzbX2_learn_72 rfl
theorem dX2_learn_81 : decode cX2_learn 81 = .ok (.ior, 1) := dz0 dzo128 9 dzbX2_learn_72 rfl
theorem dX2_learn_82 : decode cX2_learn 82 = .ok (.iastore, 1) := dz0 dzo79 10 dzbX2_learn_72 rfl
theorem dX2_learn_83 : decode cX2_learn 83 = .ok (.iload_n 2, 1) := dz0 dzo28 11 dzbX2_learn_72 rfl
theorem dX2_learn_84 : decode cX2_learn 84 = .ok (.iload 5, 2) := dz1 dzo21 12 5 dzbX2_learn_72 rfl
theorem dX2_learn_86 : decode cX2_learn 86 = .ok (.invokestatic 31, 3) := dz2 dzo184 14 0 31 dzbX2_learn_72 rfl
theorem dX2_learn_89 : decode cX2_learn 89 = .ok (.bipush (-2), 2) := dz3 dzo16 17 254 (-2) rfl dzbX2_learn_72 rfl
theorem dX2_learn_91 : decode cX2_learn 91 = .ok (.if_icmp .eq 15, 3) := dz4 dzo159 19 0 15 15 rfl dzbX2_learn_72 rfl
theorem dX2_learn_94 : decode cX2_learn 94 = .ok (.aload_n 0, 1) := dz0 dzo42 22 dzbX2_learn_72 rfl
theorem dzbX2_learn_95 : dzB cX2_learn 95 [180, 0, 15, 21, 4, 92, 46, 21, 7, 128, 79, 29, 154, 0, 12, 28, 21, 5, 184, 0, 34, 154, 0, 7] := by decide +kernel
theorem dX2_learn_95 : decode cX2_learn 95 = .ok (.getfield 15, 3) := dz2 dzo180 0 0 15 dzbX2_learn_95 rfl
theorem dX2_learn_98 : decode cX2_learn 98 = .ok (.iload 4, 2) := dz1 dzo21 3 4 dzbX2_learn_95 rfl
theorem dX2_learn_100 : decode cX2_learn 100 = .ok (.dup2, 1) := dz0 dzo92 5 dzbX2_learn_95 rfl
theorem dX2_learn_101 : decode cX2_learn 101 = .ok (.iaload, 1) := dz0 dzo46 6 dzbX2_learn_95 rfl
theorem dX2_learn_102 : decode cX2_learn 102 = .ok (.iload 7, 2) := dz1 dzo21 7 7 dzbX2_learn_95 rfl
theorem dX2_learn_104 : decode cX2_learn 104 = .ok (.ior, 1) := dz0 dzo128 9 dzbX2_learn_95 rfl
theorem dX2_learn_105 : decode cX2_learn 105 = .ok (.iastore, 1) := dz0 dzo79 10 dzbX2_learn_95 rfl
theorem dX2_learn_106 : decode cX2_learn 106 = .ok (.iload_n 3, 1) := dz0 dzo29 11 dzbX2_learn_95 rfl
theorem dX2_learn_107 : decode cX2_learn 107 = .ok (.ifCond .ne 12, 3) := dz4 dzo154 12 0 12 12 rfl dzbX2_learn_95 rfl
theorem dX2_learn_110 : decode cX2_learn 110 = .ok (.iload_n 2, 1) := dz0 dzo28 15 dzbX2_learn_95 rfl
theorem dX2_learn_111 : decode cX2_learn 111 = .ok (.iload 5, 2) := dz1 dzo21 16 5 dzbX2_learn_95 rfl
theorem dX2_learn_113 : decode cX2_learn 113 = .ok (.invokestatic 34, 3) := dz2 dzo184 18 0 34 dzbX2_learn_95 rfl
theorem dX2_learn_116 : decode cX2_learn 116 = .ok (.ifCond .ne 7, 3) := dz4 dzo154 21 0 7 7 rfl dzbX2_learn_95 rfl
theorem dzbX2_learn_119 : dzB cX2_learn 119 [4, 167, 0, 4, 3, 54, 8, 21, 8, 153, 0, 26, 28, 21, 5, 184, 0, 38, 16, 254, 159, 0, 15, 42] := by decide +kernel
theorem dX2_learn_119 : decode cX2_learn 119 = .ok (.iconst 1, 1) := dz0 dzo4 0 dzbX2_learn_119 rfl
theorem dX2_learn_120 : decode cX2_learn 120 = .ok (.goto 4, 3) := dz4 dzo167 1 0 4 4 rfl dzbX2_learn_119 rfl
theorem dX2_learn_123 : decode cX2_learn 123 = .ok (.iconst 0, 1) := dz0 dzo3 4 dzbX2_learn_119 rfl
theorem dX2_learn_124 : decode cX2_learn 124 = .ok (.istore 8, 2) := dz1 dzo54 5 8 dzbX2_learn_119 rfl
theorem dX2_learn_126 : decode cX2_learn 126 = .ok (.iload 8, 2) := dz1 dzo21 7 8 dzbX2_learn_119 rfl
theorem dX2_learn_128 : decode cX2_learn 128 = .ok (.ifCond .eq 26, 3) := dz4 dzo153 9 0 26 26 rfl dzbX2_learn_119 rfl
theorem dX2_learn_131 : decode cX2_learn 131 = .ok (.iload_n 2, 1) := dz0 dzo28 12 dzbX2_learn_119 rfl
theorem dX2_learn_132 : decode cX2_learn 132 = .ok (.iload 5, 2) := dz1 dzo21 13 5 dzbX2_learn_119 rfl
theorem dX2_learn_134 : decode cX2_learn 134 = .ok (.invokestatic 38, 3) := dz2 dzo184 15 0 38 dzbX2_learn_119 rfl
theorem dX2_learn_137 : decode cX2_learn 137 = .ok (.bipush (-2), 2) := dz3 dzo16 18 254 (-2) rfl dzbX2_learn_119 rfl
theorem dX2_learn_139 : decode cX2_learn 139 = .ok (.if_icmp .eq 15, 3) := dz4 dzo159 20 0 15 15 rfl dzbX2_learn_119 rfl
theorem dX2_learn_142 : decode cX2_learn 142 = .ok (.aload_n 0, 1) := dz0 dzo42 23 dzbX2_learn_119 rfl
theorem dzbX2_learn_143 : dzB cX2_learn 143 [180, 0, 18, 21, 4, 92, 46, 21, 7, 128, 79, 132, 5, 1, 167, 255, 138, 132, 4, 1, 167, 255, 96, 177] := by decide +kernel
theorem dX2_learn_143 : decode cX2_learn 143 = .ok (.getfield 18, 3) := dz2 dzo180 0 0 18 dzbX2_learn_143 rfl
theorem dX2_learn_146 : decode cX2_learn 146 = .ok (.iload 4, 2) := dz1 dzo21 3 4 dzbX2_learn_143 rfl
theorem dX2_learn_148 : decode cX2_learn 148 = .ok (.dup2, 1) := dz0 dzo92 5 dzbX2_learn_143 rfl
theorem dX2_learn_149 : decode cX2_learn 149 = .ok (.iaload, 1) := dz0 dzo46 6 dzbX2_learn_143 rfl
theorem dX2_learn_150 : decode cX2_learn 150 = .ok (.iload 7, 2) := dz1 dzo21 7 7 dzbX2_learn_143 rfl
theorem dX2_learn_152 : decode cX2_learn 152 = .ok (.ior, 1) := dz0 dzo128 9 dzbX2_learn_143 rfl
theorem dX2_learn_153 : decode cX2_learn 153 = .ok (.iastore, 1) := dz0 dzo79 10 dzbX2_learn_143 rfl
theorem dX2_learn_154 : decode cX2_learn 154 = .ok (.iinc 5 1, 3) := dz5 dzo132 11 5 1 1 rfl dzbX2_learn_143 rfl
theorem dX2_learn_157 : decode cX2_learn 157 = .ok (.goto (-118), 3) := dz4 dzo167 14 255 138 (-118) rfl dzbX2_learn_143 rfl
theorem dX2_learn_160 : decode cX2_learn 160 = .ok (.iinc 4 1, 3) := dz5 dzo132 17 4 1 1 rfl dzbX2_learn_143 rfl
theorem dX2_learn_163 : decode cX2_learn 163 = .ok (.goto (-160), 3) := dz4 dzo167 20 255 96 (-160) rfl dzbX2_learn_143 rfl
theorem dX2_learn_166 : decode cX2_learn 166 = .ok (.return_, 1) := dz0 dzo177 23 dzbX2_learn_143 rfl
theorem dzbX2_spread_0 : dzB cX2_spread 0 [4, 27, 120, 54, 4, 21, 4, 54, 5, 3, 54, 6, 21, 6, 16, 20, 162, 0, 103, 21, 5, 153, 0, 98] := by decide +kernel
theorem dX2_spread_0 : decode cX2_spread 0 = .ok (.iconst 1, 1) := dz0 dzo4 0 dzbX2_spread_0 rfl
theorem dX2_spread_1 : decode cX2_spread 1 = .ok (.iload_n 1, 1) := dz0 dzo27 1 dzbX2_spread_0 rfl
theorem dX2_spread_2 : decode cX2_spread 2 = .ok (.ishl, 1) := dz0 dzo120 2 dzbX2_spread_0 rfl
theorem dX2_spread_3 : decode cX2_spread 3 = .ok (.istore 4, 2) := dz1 dzo54 3 4 dzbX2_spread_0 rfl
theorem dX2_spread_5 : decode cX2_spread 5 = .ok (.iload 4, 2) := dz1 dzo21 5 4 dzbX2_spread_0 rfl
theorem dX2_spread_7 : decode cX2_spread 7 = .ok (.istore 5, 2) := dz1 dzo54 7 5 dzbX2_spread_0 rfl
theorem dX2_spread_9 : decode cX2_spread 9 = .ok (.iconst 0, 1) := dz0 dzo3 9 dzbX2_spread_0 rfl
theorem dX2_spread_10 : decode cX2_spread 10 = .ok (.istore 6, 2) := dz1 dzo54 10 6 dzbX2_spread_0 rfl
theorem dX2_spread_12 : decode cX2_spread 12 = .ok (.iload 6, 2) := dz1 dzo21 12 6 dzbX2_spread_0 rfl
theorem dX2_spread_14 : decode cX2_spread 14 = .ok (.bipush 20, 2) := dz3 dzo16 14 20 20 rfl dzbX2_spread_0 rfl
theorem dX2_spread_16 : decode cX2_spread 16 = .ok (.if_icmp .ge 103, 3) := dz4 dzo162 16 0 103 103 rfl dzbX2_spread_0 rfl
theorem dX2_spread_19 : decode cX2_spread 19 = .ok (.iload 5, 2) := dz1 dzo21 19 5 dzbX2_spread_0 rfl
theorem dX2_spread_21 : decode cX2_spread 21 = .ok (.ifCond .eq 98, 3) := dz4 dzo153 21 0 98 98 rfl dzbX2_spread_0 rfl
theorem dzbX2_spread_24 : dzB cX2_spread 24 [21, 5, 21, 5, 116, 126, 54, 7, 21, 7, 4, 100, 184, 0, 41, 54, 8, 28, 21, 7, 126, 154, 0, 13] := by decide +kernel
theorem dX2_spread_24 : decode cX2_spread 24 = .ok (.iload 5, 2) := dz1 dzo21 0 5 dzbX2_spread_24 rfl
theorem dX2_spread_26 : decode cX2_spread 26 = .ok (.iload 5, 2) := dz1 dzo21 2 5 dzbX2_spread_24 rfl
theorem dX2_spread_28 : decode cX2_spread 28 = .ok (.ineg, 1) := dz0 dzo116 4 dzbX2_spread_24 rfl
theorem dX2_spread_29 : decode cX2_spread 29 = .ok (.iand, 1) := dz0 dzo126 5 dzbX2_spread_24 rfl
theorem dX2_spread_30 : decode cX2_spread 30 = .ok (.istore 7, 2) := dz1 dzo54 6 7 dzbX2_spread_24 rfl
theorem dX2_spread_32 : decode cX2_spread 32 = .ok (.iload 7, 2) := dz1 dzo21 8 7 dzbX2_spread_24 rfl
theorem dX2_spread_34 : decode cX2_spread 34 = .ok (.iconst 1, 1) := dz0 dzo4 10 dzbX2_spread_24 rfl
theorem dX2_spread_35 : decode cX2_spread 35 = .ok (.isub, 1) := dz0 dzo100 11 dzbX2_spread_24 rfl
theorem dX2_spread_36 : decode cX2_spread 36 = .ok (.invokestatic 41, 3) := dz2 dzo184 12 0 41 dzbX2_spread_24 rfl
theorem dX2_spread_39 : decode cX2_spread 39 = .ok (.istore 8, 2) := dz1 dzo54 15 8 dzbX2_spread_24 rfl
theorem dX2_spread_41 : decode cX2_spread 41 = .ok (.iload_n 2, 1) := dz0 dzo28 17 dzbX2_spread_24 rfl
theorem dX2_spread_42 : decode cX2_spread 42 = .ok (.iload 7, 2) := dz1 dzo21 18 7 dzbX2_spread_24 rfl
theorem dX2_spread_44 : decode cX2_spread 44 = .ok (.iand, 1) := dz0 dzo126 20 dzbX2_spread_24 rfl
theorem dX2_spread_45 : decode cX2_spread 45 = .ok (.ifCond .ne 13, 3) := dz4 dzo154 21 0 13 13 rfl dzbX2_spread_24 rfl
theorem dzbX2_spread_48 : dzB cX2_spread 48 [42, 180, 0, 9, 21, 8, 46, 167, 0, 10, 42, 180, 0, 15, 21, 8, 46, 28, 2, 130, 126, 42] := by decide +kernel
theorem dX2_spread_48 : decode cX2_spread 48 = .ok (.aload_n 0, 1) := dz0 dzo42 0 dzbX2_spread_48 rfl
theorem dX2_spread_49 : decode cX2_spread 49 = .ok (.getfield 9, 3) := dz2 dzo180 1 0 9 dzbX2_spread_48 rfl
theorem dX2_spread_52 : decode cX2_spread 52 = .ok (.iload 8, 2) := dz1 dzo21 4 8 dzbX2_spread_48 rfl
theorem dX2_spread_54 : decode cX2_spread 54 = .ok (.iaload, 1) := dz0 dzo46 6 dzbX2_spread_48 rfl
theorem dX2_spread_55 : decode cX2_spread 55 = .ok (.goto 10, 3) := dz4 dzo167 7 0 10 10 rfl dzbX2_spread_48 rfl
theorem dX2_spread_58 : decode cX2_spread 58 = .ok (.aload_n 0, 1) := dz0 dzo42 10 dzbX2_spread_48 rfl
theorem dX2_spread_59 : decode cX2_spread 59 = .ok (.getfield 15, 3) := dz2 dzo180 11 0 15 dzbX2_spread_48 rfl
theorem dX2_spread_62 : decode cX2_spread 62 = .ok (.iload 8, 2) := dz1 dzo21 14 8 dzbX2_spread_48 rfl
theorem dX2_spread_64 : decode cX2_spread 64 = .ok (.iaload, 1) := dz0 dzo46 16 dzbX2_spread_48 rfl
theorem dX2_spread_65 : decode cX2_spread 65 = .ok (.iload_n 2, 1) := dz0 dzo28 17 dzbX2_spread_48 rfl
theorem dX2_spread_66 : decode cX2_spread 66 = .ok (.iconst (-1), 1) := dz0 dzo2 18 dzbX2_spread_48 rfl
theorem dX2_spread_67 : decode cX2_spread 67 = .ok (.ixor, 1) := dz0 dzo130 19 dzbX2_spread_48 rfl
theorem dX2_spread_68 : decode cX2_spread 68 = .ok (.iand, 1) := dz0 dzo126 20 dzbX2_spread_48 rfl
theorem dX2_spread_69 : decode cX2_spread 69 = .ok (.aload_n 0, 1) := dz0 dzo42 21 dzbX2_spread_48 rfl
theorem dzbX2_spread_70 : dzB cX2_spread 70 [180, 0, 18, 21, 8, 46, 28, 126, 128, 54, 9, 21, 9, 21, 4, 2, 130, 126, 29, 2, 130, 126, 54, 10] := by decide +kernel
theorem dX2_spread_70 : decode cX2_spread 70 = .ok (.getfield 18, 3) := dz2 dzo180 0 0 18 dzbX2_spread_70 rfl
theorem dX2_spread_73 : decode cX2_spread 73 = .ok (.iload 8, 2) := dz1 dzo21 3 8 dzbX2_spread_70 rfl
theorem dX2_spread_75 : decode cX2_spread 75 = .ok (.iaload, 1) := dz0 dzo46 5 dzbX2_spread_70 rfl
theorem dX2_spread_76 : decode cX2_spread 76 = .ok (.iload_n 2, 1) := dz0 dzo28 6 dzbX2_spread_70 rfl
theorem dX2_spread_77 : decode cX2_spread 77 = .ok (.iand, 1) := dz0 dzo126 7 dzbX2_spread_70 rfl
theorem dX2_spread_78 : decode cX2_spread 78 = .ok (.ior, 1) := dz0 dzo128 8 dzbX2_spread_70 rfl
theorem dX2_spread_79 : decode cX2_spread 79 = .ok (.istore 9, 2) := dz1 dzo54 9 9 dzbX2_spread_70 rfl
theorem dX2_spread_81 : decode cX2_spread 81 = .ok (.iload 9, 2) := dz1 dzo21 11 9 dzbX2_spread_70 rfl
theorem dX2_spread_83 : decode cX2_spread 83 = .ok (.iload 4, 2) := dz1 dzo21 13 4 dzbX2_spread_70 rfl
theorem dX2_spread_85 : decode cX2_spread 85 = .ok (.iconst (-1), 1) := dz0 dzo2 15 dzbX2_spread_70 rfl
theorem dX2_spread_86 : decode cX2_spread 86 = .ok (.ixor, 1) := dz0 dzo130 16 dzbX2_spread_70 rfl
theorem dX2_spread_87 : decode cX2_spread 87 = .ok (.iand, 1) := dz0 dzo126 17 dzbX2_spread_70 rfl
theorem dX2_spread_88 : decode cX2_spread 88 = .ok (.iload_n 3, 1) := dz0 dzo29 18 dzbX2_spread_70 rfl
theorem dX2_spread_89 : decode cX2_spread 89 = .ok (.iconst (-1), 1) := dz0 dzo2 19 dzbX2_spread_70 rfl
theorem dX2_spread_90 : decode cX2_spread 90 = .ok (.ixor, 1) := dz0 dzo130 20 dzbX2_spread_70 rfl
theorem dX2_spread_91 : decode cX2_spread 91 = .ok (.iand, 1) := dz0 dzo126 21 dzbX2_spread_70 rfl
theorem dX2_spread_92 : decode cX2_spread 92 = .ok (.istore 10, 2) := dz1 dzo54 22 10 dzbX2_spread_70 rfl
theorem dzbX2_spread_94 : dzB cX2_spread 94 [21, 4, 21, 10, 128, 54, 4, 21, 5, 21, 7, 2, 130, 126, 21, 10, 128, 54, 5, 132, 6, 1] := by decide +kernel
theorem dX2_spread_94 : decode cX2_spread 94 = .ok (.iload 4, 2) := dz1 dzo21 0 4 dzbX2_spread_94 rfl
theorem dX2_spread_96 : decode cX2_spread 96 = .ok (.iload 10, 2) := dz1 dzo21 2 10 dzbX2_spread_94 rfl
theorem dX2_spread_98 : decode cX2_spread 98 = .ok (.ior, 1) := dz0 dzo128 4 dzbX2_spread_94 rfl
theorem dX2_spread_99 : decode cX2_spread 99 = .ok (.istore 4, 2) := dz1 dzo54 5 4 dzbX2_spread_94 rfl
theorem dX2_spread_101 : decode cX2_spread 101 = .ok (.iload 5, 2) := dz1 dzo21 7 5 dzbX2_spread_94 rfl
theorem dX2_spread_103 : decode cX2_spread 103 = .ok (.iload 7, 2) := dz1 dzo21 9 7 dzbX2_spread_94 rfl
theorem dX2_spread_105 : decode cX2_spread 105 = .ok (.iconst (-1), 1) := dz0 dzo2 11 dzbX2_spread_94 rfl
theorem dX2_spread_106 : decode cX2_spread 106 = .ok (.ixor, 1) := dz0 dzo130 12 dzbX2_spread_94 rfl
theorem dX2_spread_107 : decode cX2_spread 107 = .ok (.iand, 1) := dz0 dzo126 13 dzbX2_spread_94 rfl
theorem dX2_spread_108 : decode cX2_spread 108 = .ok (.iload 10, 2) := dz1 dzo21 14 10 dzbX2_spread_94 rfl
theorem dX2_spread_110 : decode cX2_spread 110 = .ok (.ior, 1) := dz0 dzo128 16 dzbX2_spread_94 rfl
theorem dX2_spread_111 : decode cX2_spread 111 = .ok (.istore 5, 2) := dz1 dzo54 17 5 dzbX2_spread_94 rfl
theorem dX2_spread_113 : decode cX2_spread 113 = .ok (.iinc 6 1, 3) := dz5 dzo132 19 6 1 1 rfl dzbX2_spread_94 rfl
theorem dzbX2_spread_116 : dzB cX2_spread 116 [167, 255, 152, 21, 4, 172] := by decide +kernel
theorem dX2_spread_116 : decode cX2_spread 116 = .ok (.goto (-104), 3) := dz4 dzo167 0 255 152 (-104) rfl dzbX2_spread_116 rfl
theorem dX2_spread_119 : decode cX2_spread 119 = .ok (.iload 4, 2) := dz1 dzo21 3 4 dzbX2_spread_116 rfl
theorem dX2_spread_121 : decode cX2_spread 121 = .ok (.ireturn, 1) := dz0 dzo172 5 dzbX2_spread_116 rfl
theorem dzbX3_init_0 : dzB cX3_init 0 [42, 183, 0, 1, 42, 10, 181, 0, 7, 177] := by decide +kernel
theorem dX3_init_0 : decode cX3_init 0 = .ok (.aload_n 0, 1) := dz0 dzo42 0 dzbX3_init_0 rfl
theorem dX3_init_1 : decode cX3_init 1 = .ok (.invokespecial 1, 3) := dz2 dzo183 1 0 1 dzbX3_init_0 rfl
theorem dX3_init_4 : decode cX3_init 4 = .ok (.aload_n 0, 1) := dz0 dzo42 4 dzbX3_init_0 rfl
theorem dX3_init_5 : decode cX3_init 5 = .ok (.lconst 1, 1) := dz0 dzo10 5 dzbX3_init_0 rfl
theorem dX3_init_6 : decode cX3_init 6 = .ok (.putfield 7, 3) := dz2 dzo181 6 0 7 dzbX3_init_0 rfl
theorem dX3_init_9 : decode cX3_init 9 = .ok (.return_, 1) := dz0 dzo177 9 dzbX3_init_0 rfl
theorem dzbX3_put_0 : dzB cX3_put 0 [31, 9, 148, 158, 0, 9, 33, 9, 148, 157, 0, 14, 42, 9, 181, 0, 13, 42, 10, 181, 0, 7, 177, 31] := by decide +kernel
theorem dX3_put_0 : decode cX3_put 0 = .ok (.lload_n 1, 1) := dz0 dzo31 0 dzbX3_put_0 rfl
theorem dX3_put_1 : decode cX3_put 1 = .ok (.lconst 0, 1) := dz0 dzo9 1 dzbX3_put_0 rfl
theorem dX3_put_2 : decode cX3_put 2 = .ok (.lcmp, 1) := dz0 dzo148 2 dzbX3_put_0 rfl
theorem dX3_put_3 : decode cX3_put 3 = .ok (.ifCond .le 9, 3) := dz4 dzo158 3 0 9 9 rfl dzbX3_put_0 rfl
theorem dX3_put_6 : decode cX3_put 6 = .ok (.lload_n 3, 1) := dz0 dzo33 6 dzbX3_put_0 rfl
theorem dX3_put_7 : decode cX3_put 7 = .ok (.lconst 0, 1) := dz0 dzo9 7 dzbX3_put_0 rfl
theorem dX3_put_8 : decode cX3_put 8 = .ok (.lcmp, 1) := dz0 dzo148 8 dzbX3_put_0 rfl
theorem dX3_put_9 : decode cX3_put 9 = .ok (.ifCond .gt 14, 3) := dz4 dzo157 9 0 14 14 rfl dzbX3_put_0 rfl
theorem dX3_put_12 : decode cX3_put 12 = .ok (.aload_n 0, 1) := dz0 dzo42 12 dzbX3_put_0 rfl
theorem dX3_put_13 : decode cX3_put 13 = .ok (.lconst 0, 1) := dz0 dzo9 13 dzbX3_put_0 rfl
theorem dX3_put_14 : decode cX3_put 14 = .ok (.putfield 13, 3) := dz2 dzo181 14 0 13 dzbX3_put_0 rfl
theorem dX3_put_17 : decode cX3_put 17 = .ok (.aload_n 0, 1) := dz0 dzo42 17 dzbX3_put_0 rfl
theorem dX3_put_18 : decode cX3_put 18 = .ok (.lconst 1, 1) := dz0 dzo10 18 dzbX3_put_0 rfl
theorem dX3_put_19 : decode cX3_put 19 = .ok (.putfield 7, 3) := dz2 dzo181 19 0 7 dzbX3_put_0 rfl
theorem dX3_put_22 : decode cX3_put 22 = .ok (.return_, 1) := dz0 dzo177 22 dzbX3_put_0 rfl
theorem dX3_put_23 : decode cX3_put 23 = .ok (.lload_n 1, 1) := dz0 dzo31 23 dzbX3_put_0 rfl
theorem dzbX3_put_24 : dzB cX3_put 24 [55, 5, 33, 55, 7, 3, 54, 9, 21, 9, 16, 100, 162, 0, 31, 22, 7, 9, 148, 153, 0, 24, 22, 5] := by decide +kernel
theorem dX3_put_24 : decode cX3_put 24 = .ok (.lstore 5, 2) := dz1 dzo55 0 5 dzbX3_put_24 rfl
theorem dX3_put_26 : decode cX3_put 26 = .ok (.lload_n 3, 1) := dz0 dzo33 2 dzbX3_put_24 rfl
theorem dX3_put_27 : decode cX3_put 27 = .ok (.lstore 7, 2) := dz1 dzo55 3 7 dzbX3_put_24 rfl
theorem dX3_put_29 : decode cX3_put 29 = .ok (.iconst 0, 1) := dz0 dzo3 5 dzbX3_put_24 rfl
theorem dX3_put_30 : decode cX3_put 30 = .ok (.istore 9, 2) := dz1 dzo54 6 9 dzbX3_put_24 rfl
theorem dX3_put_32 : decode cX3_put 32 = .ok (.iload 9, 2) := dz1 dzo21 8 9 dzbX3_put_24 rfl
theorem dX3_put_34 : decode cX3_put 34 = .ok (.bipush 100, 2) := dz3 dzo16 10 100 100 rfl dzbX3_put_24 rfl
theorem dX3_put_36 : decode cX3_put 36 = .ok (.if_icmp .ge 31, 3) := dz4 dzo162 12 0 31 31 rfl dzbX3_put_24 rfl
theorem dX3_put_39 : decode cX3_put 39 = .ok (.lload 7, 2) := dz1 dzo22 15 7 dzbX3_put_24 rfl
theorem dX3_put_41 : decode cX3_put 41 = .ok (.lconst 0, 1) := dz0 dzo9 17 dzbX3_put_24 rfl
theorem dX3_put_42 : decode cX3_put 42 = .ok (.lcmp, 1) := dz0 dzo148 18 dzbX3_put_24 rfl
theorem dX3_put_43 : decode cX3_put 43 = .ok (.ifCond .eq 24, 3) := dz4 dzo153 19 0 24 24 rfl dzbX3_put_24 rfl
theorem dX3_put_46 : decode cX3_put 46 = .ok (.lload 5, 2) := dz1 dzo22 22 5 dzbX3_put_24 rfl
theorem dzbX3_put_48 : dzB cX3_put 48 [22, 7, 113, 55, 10, 22, 7, 55, 5, 22, 10, 55, 7, 132, 9, 1, 167, 255, 224, 42, 31, 22, 5, 109] := by decide +kernel
theorem dX3_put_48 : decode cX3_put 48 = .ok (.lload 7, 2) := dz1 dzo22 0 7 dzbX3_put_48 rfl
theorem dX3_put_50 : decode cX3_put 50 = .ok (.lrem, 1) := dz0 dzo113 2 dzbX3_put_48 rfl
theorem dX3_put_51 : decode cX3_put 51 = .ok (.lstore 10, 2) := dz1 dzo55 3 10 dzbX3_put_48 rfl
theorem dX3_put_53 : decode cX3_put 53 = .ok (.lload 7, 2) := dz1 dzo22 5 7 dzbX3_put_48 rfl
theorem dX3_put_55 : decode cX3_put 55 = .ok (.lstore 5, 2) := dz1 dzo55 7 5 dzbX3_put_48 rfl
theorem dX3_put_57 : decode cX3_put 57 = .ok (.lload 10, 2) := dz1 dzo22 9 10 dzbX3_put_48 rfl
theorem dX3_put_59 : decode cX3_put 59 = .ok (.lstore 7, 2) := dz1 dzo55 11 7 dzbX3_put_48 rfl
theorem dX3_put_61 : decode cX3_put 61 = .ok (.iinc 9 1, 3) := dz5 dzo132 13 9 1 1 rfl dzbX3_put_48 rfl
theorem dX3_put_64 : decode cX3_put 64 = .ok (.goto (-32), 3) := dz4 dzo167 16 255 224 (-32) rfl dzbX3_put_48 rfl
theorem dX3_put_67 : decode cX3_put 67 = .ok (.aload_n 0, 1) := dz0 dzo42 19 dzbX3_put_48 rfl
theorem dX3_put_68 : decode cX3_put 68 = .ok (.lload_n 1, 1) := dz0 dzo31 20 dzbX3_put_48 rfl
theorem dX3_put_69 : decode cX3_put 69 = .ok (.lload 5, 2) := dz1 dzo22 21 5 dzbX3_put_48 rfl
theorem dX3_put_71 : decode cX3_put 71 = .ok (.ldiv, 1) := dz0 dzo109 23 dzbX3_put_48 rfl
theorem dzbX3_put_72 : dzB cX3_put 72 [181, 0, 13, 42, 33, 22, 5, 109, 181, 0, 7, 177] := by decide +kernel
theorem dX3_put_72 : decode cX3_put 72 = .ok (.putfield 13, 3) := dz2 dzo181 0 0 13 dzbX3_put_72 rfl
theorem dX3_put_75 : decode cX3_put 75 = .ok (.aload_n 0, 1) := dz0 dzo42 3 dzbX3_put_72 rfl
theorem dX3_put_76 : decode cX3_put 76 = .ok (.lload_n 3, 1) := dz0 dzo33 4 dzbX3_put_72 rfl
theorem dX3_put_77 : decode cX3_put 77 = .ok (.lload 5, 2) := dz1 dzo22 5 5 dzbX3_put_72 rfl
theorem dX3_put_79 : decode cX3_put 79 = .ok (.ldiv, 1) := dz0 dzo109 7 dzbX3_put_72 rfl
theorem dX3_put_80 : decode cX3_put 80 = .ok (.putfield 7, 3) := dz2 dzo181 8 0 7 dzbX3_put_72 rfl
theorem dX3_put_83 : decode cX3_put 83 = .ok (.return_, 1) := dz0 dzo177 11 dzbX3_put_72 rfl
theorem dzbX3_putBinomial_0 : dzB cX3_putBinomial 0 [28, 27, 164, 0, 7, 9, 167, 0, 4, 10, 55, 4, 4, 54, 6, 21, 6, 28, 163, 0, 25, 22, 4, 27] := by decide +kernel
theorem dX3_putBinomial_0 : decode cX3_putBinomial 0 = .ok (.iload_n 2, 1) := dz0 dzo28 0 dzbX3_putBinomial_0 rfl
theorem dX3_putBinomial_1 : decode cX3_putBinomial 1 = .ok (.iload_n 1, 1) := dz0 dzo27 1 dzbX3_putBinomial_0 rfl
theorem dX3_putBinomial_2 : decode cX3_putBinomial 2 = .ok (.if_icmp .le 7, 3) := dz4 dzo164 2 0 7 7 rfl dzbX3_putBinomial_0 rfl
theorem dX3_putBinomial_5 : decode cX3_putBinomial 5 = .ok (.lconst 0, 1) := dz0 dzo9 5 dzbX3_putBinomial_0 rfl
theorem dX3_putBinomial_6 : decode cX3_putBinomial 6 = .ok (.goto 4, 3) := dz4 dzo167 6 0 4 4 rfl dzbX3_putBinomial_0 rfl
theorem dX3_putBinomial_9 : decode cX3_putBinomial 9 = .ok (.lconst 1, 1) := dz0 dzo10 9 dzbX3_putBinomial_0 rfl
theorem dX3_putBinomial_10 : decode cX3_putBinomial 10 = .ok (.lstore 4, 2) := dz1 dzo55 10 4 dzbX3_putBinomial_0 rfl
theorem dX3_putBinomial_12 : decode cX3_putBinomial 12 = .ok (.iconst 1, 1) := dz0 dzo4 12 dzbX3_putBinomial_0 rfl
theorem dX3_putBinomial_13 : decode cX3_putBinomial 13 = .ok (.istore 6, 2) := dz1 dzo54 13 6 dzbX3_putBinomial_0 rfl
theorem dX3_putBinomial_15 : decode cX3_putBinomial 15 = .ok (.iload 6, 2) := dz1 dzo21 15 6 dzbX3_putBinomial_0 rfl
theorem dX3_putBinomial_17 : decode cX3_putBinomial 17 = .ok (.iload_n 2, 1) := dz0 dzo28 17 dzbX3_putBinomial_0 rfl
theorem dX3_putBinomial_18 : decode cX3_putBinomial 18 = .ok (.if_icmp .gt 25, 3) := dz4 dzo163 18 0 25 25 rfl dzbX3_putBinomial_0 rfl
theorem dX3_putBinomial_21 : decode cX3_putBinomial 21 = .ok (.lload 4, 2) := dz1 dzo22 21 4 dzbX3_putBinomial_0 rfl
theorem dX3_putBinomial_23 : decode cX3_putBinomial 23 = .ok (.iload_n 1, 1) := dz0 dzo27 23 dzbX3_putBinomial_0 rfl
theorem dzbX3_putBinomial_24 : dzB cX3_putBinomial 24 [28, 100, 21, 6, 96, 133, 105, 21, 6, 133, 109, 55, 4, 132, 6, 1, 167, 255, 231, 10, 55, 6, 3] := by decide +kernel
theorem dX3_putBinomial_24 : decode cX3_putBinomial 24 = .ok (.iload_n 2, 1) := dz0 dzo28 0 dzbX3_putBinomial_24 rfl
theorem dX3_putBinomial_25 : decode cX3_putBinomial 25 = .ok (.isub, 1) := dz0 dzo100 1 dzbX3_putBinomial_24 rfl
theorem dX3_putBinomial_26 : decode cX3_putBinomial 26 = .ok (.iload 6, 2) := dz1 dzo21 2 6 dzbX3_putBinomial_24 rfl
theorem dX3_putBinomial_28 : decode cX3_putBinomial 28 = .ok (.iadd, 1) := dz0 dzo96 4 dzbX3_putBinomial_24 rfl
theorem dX3_putBinomial_29 : decode cX3_putBinomial 29 = .ok (.i2l, 1) := dz0 dzo133 5 dzbX3_putBinomial_24 rfl
theorem dX3_putBinomial_30 : decode cX3_putBinomial 30 = .ok (.lmul, 1) := dz0 dzo105 6 dzbX3_putBinomial_24 rfl
theorem dX3_putBinomial_31 : decode cX3_putBinomial 31 = .ok (.iload 6, 2) := dz1 dzo21 7 6 dzbX3_putBinomial_24 rfl
theorem dX3_putBinomial_33 : decode cX3_putBinomial 33 = .ok (.i2l, 1) := dz0 dzo133 9 dzbX3_putBinomial_24 rfl
theorem dX3_putBinomial_34 : decode cX3_putBinomial 34 = .ok (.ldiv, 1) := dz0 dzo109 10 dzbX3_putBinomial_24 rfl
theorem dX3_putBinomial_35 : decode cX3_putBinomial 35 = .ok (.lstore 4, 2) := dz1 dzo55 11 4 dzbX3_putBinomial_24 rfl
theorem dX3_putBinomial_37 : decode cX3_putBinomial 37 = .ok (.iinc 6 1, 3) := dz5 dzo132 13 6 1 1 rfl dzbX3_putBinomial_24 rfl
theorem dX3_putBinomial_40 : decode cX3_putBinomial 40 = .ok (.goto (-25), 3) := dz4 dzo167 16 255 231 (-25) rfl dzbX3_putBinomial_24 rfl
theorem dX3_putBinomial_43 : decode cX3_putBinomial 43 = .ok (.lconst 1, 1) := dz0 dzo10 19 dzbX3_putBinomial_24 rfl
theorem dX3_putBinomial_44 : decode cX3_putBinomial 44 = .ok (.lstore 6, 2) := dz1 dzo55 20 6 dzbX3_putBinomial_24 rfl
theorem dX3_putBinomial_46 : decode cX3_putBinomial 46 = .ok (.iconst 0, 1) := dz0 dzo3 22 dzbX3_putBinomial_24 rfl
theorem dzbX3_putBinomial_47 : dzB cX3_putBinomial 47 [54, 8, 21, 8, 27, 162, 0, 38, 22, 4, 21, 8, 28, 162, 0, 8, 29, 133, 167, 0, 8, 16, 100, 29] := by decide +kernel
theorem dX3_putBinomial_47 : decode cX3_putBinomial 47 = .ok (.istore 8, 2) := dz1 dzo54 0 8 dzbX3_putBinomial_47 rfl
theorem dX3_putBinomial_49 : decode cX3_putBinomial 49 = .ok (.iload 8, 2) := dz1 dzo21 2 8 dzbX3_putBinomial_47 rfl
theorem dX3_putBinomial_51 : decode cX3_putBinomial 51 = .ok (.iload_n 1, 1) := dz0 dzo27 4 dzbX3_putBinomial_47 rfl
theorem dX3_putBinomial_52 : decode cX3_putBinomial 52 = .ok (.if_icmp .ge 38, 3) := dz4 dzo162 5 0 38 38 rfl dzbX3_putBinomial_47 rfl
theorem dX3_putBinomial_55 : decode cX3_putBinomial 55 = .ok (.lload 4, 2) := dz1 dzo22 8 4 dzbX3_putBinomial_47 rfl
theorem dX3_putBinomial_57 : decode cX3_putBinomial 57 = .ok (.iload 8, 2) := dz1 dzo21 10 8 dzbX3_putBinomial_47 rfl
theorem dX3_putBinomial_59 : decode cX3_putBinomial 59 = .ok (.iload_n 2, 1) := dz0 dzo28 12 dzbX3_putBinomial_47 rfl
theorem dX3_putBinomial_60 : decode cX3_putBinomial 60 = .ok (.if_icmp .ge 8, 3) := dz4 dzo162 13 0 8 8 rfl dzbX3_putBinomial_47 rfl
theorem dX3_putBinomial_63 : decode cX3_putBinomial 63 = .ok (.iload_n 3, 1) := dz0 dzo29 16 dzbX3_putBinomial_47 rfl
theorem dX3_putBinomial_64 : decode cX3_putBinomial 64 = .ok (.i2l, 1) := dz0 dzo133 17 dzbX3_putBinomial_47 rfl
theorem dX3_putBinomial_65 : decode cX3_putBinomial 65 = .ok (.goto 8, 3) := dz4 dzo167 18 0 8 8 rfl dzbX3_putBinomial_47 rfl
theorem dX3_putBinomial_68 : decode cX3_putBinomial 68 = .ok (.bipush 100, 2) := dz3 dzo16 21 100 100 rfl dzbX3_putBinomial_47 rfl
theorem dX3_putBinomial_70 : decode cX3_putBinomial 70 = .ok (.iload_n 3, 1) := dz0 dzo29 23 dzbX3_putBinomial_47 rfl
theorem dzbX3_putBinomial_71 : dzB cX3_putBinomial 71 [100, 133, 105, 55, 4, 22, 6, 20, 0, 16, 105, 55, 6, 132, 8, 1, 167, 255, 218, 42, 22, 4, 22, 6] := by decide +kernel
theorem dX3_putBinomial_71 : decode cX3_putBinomial 71 = .ok (.isub, 1) := dz0 dzo100 0 dzbX3_putBinomial_71 rfl
theorem dX3_putBinomial_72 : decode cX3_putBinomial 72 = .ok (.i2l, 1) := dz0 dzo133 1 dzbX3_putBinomial_71 rfl
theorem dX3_putBinomial_73 : decode cX3_putBinomial 73 = .ok (.lmul, 1) := dz0 dzo105 2 dzbX3_putBinomial_71 rfl
theorem dX3_putBinomial_74 : decode cX3_putBinomial 74 = .ok (.lstore 4, 2) := dz1 dzo55 3 4 dzbX3_putBinomial_71 rfl
theorem dX3_putBinomial_76 : decode cX3_putBinomial 76 = .ok (.lload 6, 2) := dz1 dzo22 5 6 dzbX3_putBinomial_71 rfl
theorem dX3_putBinomial_78 : decode cX3_putBinomial 78 = .ok (.ldc2_w 16, 3) := dz2 dzo20 7 0 16 dzbX3_putBinomial_71 rfl
theorem dX3_putBinomial_81 : decode cX3_putBinomial 81 = .ok (.lmul, 1) := dz0 dzo105 10 dzbX3_putBinomial_71 rfl
theorem dX3_putBinomial_82 : decode cX3_putBinomial 82 = .ok (.lstore 6, 2) := dz1 dzo55 11 6 dzbX3_putBinomial_71 rfl
theorem dX3_putBinomial_84 : decode cX3_putBinomial 84 = .ok (.iinc 8 1, 3) := dz5 dzo132 13 8 1 1 rfl dzbX3_putBinomial_71 rfl
theorem dX3_putBinomial_87 : decode cX3_putBinomial 87 = .ok (.goto (-38), 3) := dz4 dzo167 16 255 218 (-38) rfl dzbX3_putBinomial_71 rfl
theorem dX3_putBinomial_90 : decode cX3_putBinomial 90 = .ok (.aload_n 0, 1) := dz0 dzo42 19 dzbX3_putBinomial_71 rfl
theorem dX3_putBinomial_91 : decode cX3_putBinomial 91 = .ok (.lload 4, 2) := dz1 dzo22 20 4 dzbX3_putBinomial_71 rfl
theorem dX3_putBinomial_93 : decode cX3_putBinomial 93 = .ok (.lload 6, 2) := dz1 dzo22 22 6 dzbX3_putBinomial_71 rfl
theorem dzbX3_putBinomial_95 : dzB cX3_putBinomial 95 [182, 0, 18, 177] := by decide +kernel
theorem dX3_putBinomial_95 : decode cX3_putBinomial 95 = .ok (.invokevirtual 18, 3) := dz2 dzo182 0 0 18 dzbX3_putBinomial_95 rfl
theorem dX3_putBinomial_98 : decode cX3_putBinomial 98 = .ok (.return_, 1) := dz0 dzo177 3 dzbX3_putBinomial_95 rfl
theorem dzbX4_allBits_0 : dzB cX4_allBits 0 [4, 42, 180, 0, 22, 120, 4, 100, 172] := by decide +kernel
theorem dX4_allBits_0 : decode cX4_allBits 0 = .ok (.iconst 1, 1) := dz0 dzo4 0 dzbX4_allBits_0 rfl
theorem dX4_allBits_1 : decode cX4_allBits 1 = .ok (.aload_n 0, 1) := dz0 dzo42 1 dzbX4_allBits_0 rfl
theorem dX4_allBits_2 : decode cX4_allBits 2 = .ok (.getfield 22, 3) := dz2 dzo180 2 0 22 dzbX4_allBits_0 rfl
theorem dX4_allBits_5 : decode cX4_allBits 5 = .ok (.ishl, 1) := dz0 dzo120 5 dzbX4_allBits_0 rfl
theorem dX4_allBits_6 : decode cX4_allBits 6 = .ok (.iconst 1, 1) := dz0 dzo4 6 dzbX4_allBits_0 rfl
theorem dX4_allBits_7 : decode cX4_allBits 7 = .ok (.isub, 1) := dz0 dzo100 7 dzbX4_allBits_0 rfl
theorem dX4_allBits_8 : decode cX4_allBits 8 = .ok (.ireturn, 1) := dz0 dzo172 8 dzbX4_allBits_0 rfl
theorem dzbX4_bitsOf_0 : dzB cX4_bitsOf 0 [3, 61, 3, 62, 29, 42, 180, 0, 22, 162, 0, 25, 42, 180, 0, 9, 29, 46, 27, 160, 0, 9, 28, 4] := by decide +kernel
theorem dX4_bitsOf_0 : decode cX4_bitsOf 0 = .ok (.iconst 0, 1) := dz0 dzo3 0 dzbX4_bitsOf_0 rfl
theorem dX4_bitsOf_1 : decode cX4_bitsOf 1 = .ok (.istore_n 2, 1) := dz0 dzo61 1 dzbX4_bitsOf_0 rfl
theorem dX4_bitsOf_2 : decode cX4_bitsOf 2 = .ok (.iconst 0, 1) := dz0 dzo3 2 dzbX4_bitsOf_0 rfl
theorem dX4_bitsOf_3 : decode cX4_bitsOf 3 = .ok (.istore_n 3, 1) := dz0 dzo62 3 dzbX4_bitsOf_0 rfl
theorem dX4_bitsOf_4 : decode cX4_bitsOf 4 = .ok (.iload_n 3, 1) := dz0 dzo29 4 dzbX4_bitsOf_0 rfl
theorem dX4_bitsOf_5 : decode cX4_bitsOf 5 = .ok (.aload_n 0, 1) := dz0 dzo42 5 dzbX4_bitsOf_0 rfl
theorem dX4_bitsOf_6 : decode cX4_bitsOf 6 = .ok (.getfield 22, 3) := dz2 dzo180 6 0 22 dzbX4_bitsOf_0 rfl
theorem dX4_bitsOf_9 : decode cX4_bitsOf 9 = .ok (.if_icmp .ge 25, 3) := dz4 dzo162 9 0 25 25 rfl dzbX4_bitsOf_0 rfl
theorem dX4_bitsOf_12 : decode cX4_bitsOf 12 = .ok (.aload_n 0, 1) := dz0 dzo42 12 dzbX4_bitsOf_0 rfl
theorem dX4_bitsOf_13 : decode cX4_bitsOf 13 = .ok (.getfield 9, 3) := dz2 dzo180 13 0 9 dzbX4_bitsOf_0 rfl
theorem dX4_bitsOf_16 : decode cX4_bitsOf 16 = .ok (.iload_n 3, 1) := dz0 dzo29 16 dzbX4_bitsOf_0 rfl
theorem dX4_bitsOf_17 : decode cX4_bitsOf 17 = .ok (.iaload, 1) := dz0 dzo46 17 dzbX4_bitsOf_0 rfl
theorem dX4_bitsOf_18 : decode cX4_bitsOf 18 = .ok (.iload_n 1, 1) := dz0 dzo27 18 dzbX4_bitsOf_0 rfl
theorem dX4_bitsOf_19 : decode cX4_bitsOf 19 = .ok (.if_icmp .ne 9, 3) := dz4 dzo160 19 0 9 9 rfl dzbX4_bitsOf_0 rfl
theorem dX4_bitsOf_22 : decode cX4_bitsOf 22 = .ok (.iload_n 2, 1) := dz0 dzo28 22 dzbX4_bitsOf_0 rfl
theorem dX4_bitsOf_23 : decode cX4_bitsOf 23 = .ok (.iconst 1, 1) := dz0 dzo4 23 dzbX4_bitsOf_0 rfl
theorem dzbX4_bitsOf_24 : dzB cX4_bitsOf 24 [29, 120, 128, 61, 132, 3, 1, 167, 255, 229, 28, 172] := by decide +kernel
theorem dX4_bitsOf_24 : decode cX4_bitsOf 24 = .ok (.iload_n 3, 1) := dz0 dzo29 0 dzbX4_bitsOf_24 rfl
theorem dX4_bitsOf_25 : decode cX4_bitsOf 25 = .ok (.ishl, 1) := dz0 dzo120 1 dzbX4_bitsOf_24 rfl
theorem dX4_bitsOf_26 : decode cX4_bitsOf 26 = .ok (.ior, 1) := dz0 dzo128 2 dzbX4_bitsOf_24 rfl
theorem dX4_bitsOf_27 : decode cX4_bitsOf 27 = .ok (.istore_n 2, 1) := dz0 dzo61 3 dzbX4_bitsOf_24 rfl
theorem dX4_bitsOf_28 : decode cX4_bitsOf 28 = .ok (.iinc 3 1, 3) := dz5 dzo132 4 3 1 1 rfl dzbX4_bitsOf_24 rfl
theorem dX4_bitsOf_31 : decode cX4_bitsOf 31 = .ok (.goto (-27), 3) := dz4 dzo167 7 255 229 (-27) rfl dzbX4_bitsOf_24 rfl
theorem dX4_bitsOf_34 : decode cX4_bitsOf 34 = .ok (.iload_n 2, 1) := dz0 dzo28 10 dzbX4_bitsOf_24 rfl
theorem dX4_bitsOf_35 : decode cX4_bitsOf 35 = .ok (.ireturn, 1) := dz0 dzo172 11 dzbX4_bitsOf_24 rfl
theorem dzbX4_bitsSouthOf_0 : dzB cX4_bitsSouthOf 0 [3, 62, 4, 54, 4, 21, 4, 28, 163, 0, 23, 29, 4, 27, 21, 4, 42, 180, 0, 15, 104, 96, 120, 128] := by decide +kernel
theorem dX4_bitsSouthOf_0 : decode cX4_bitsSouthOf 0 = .ok (.iconst 0, 1) := dz0 dzo3 0 dzbX4_bitsSouthOf_0 rfl
theorem dX4_bitsSouthOf_1 : decode cX4_bitsSouthOf 1 = .ok (.istore_n 3, 1) := dz0 dzo62 1 dzbX4_bitsSouthOf_0 rfl
theorem dX4_bitsSouthOf_2 : decode cX4_bitsSouthOf 2 = .ok (.iconst 1, 1) := dz0 dzo4 2 dzbX4_bitsSouthOf_0 rfl
theorem dX4_bitsSouthOf_3 : decode cX4_bitsSouthOf 3 = .ok (.istore 4, 2) := dz1 dzo54 3 4 dzbX4_bitsSouthOf_0 rfl
theorem dX4_bitsSouthOf_5 : decode cX4_bitsSouthOf 5 = .ok (.iload 4, 2) := dz1 dzo21 5 4 dzbX4_bitsSouthOf_0 rfl
theorem dX4_bitsSouthOf_7 : decode cX4_bitsSouthOf 7 = .ok (.iload_n 2, 1) := dz0 dzo28 7 dzbX4_bitsSouthOf_0 rfl
theorem dX4_bitsSouthOf_8 : decode cX4_bitsSouthOf 8 = .ok (.if_icmp .gt 23, 3) := dz4 dzo163 8 0 23 23 rfl dzbX4_bitsSouthOf_0 rfl
theorem dX4_bitsSouthOf_11 : decode cX4_bitsSouthOf 11 = .ok (.iload_n 3, 1) := dz0 dzo29 11 dzbX4_bitsSouthOf_0 rfl
theorem dX4_bitsSouthOf_12 : decode cX4_bitsSouthOf 12 = .ok (.iconst 1, 1) := dz0 dzo4 12 dzbX4_bitsSouthOf_0 rfl
theorem dX4_bitsSouthOf_13 : decode cX4_bitsSouthOf 13 = .ok (.iload_n 1, 1) := dz0 dzo27 13 dzbX4_bitsSouthOf_0 rfl
theorem dX4_bitsSouthOf_14 : decode cX4_bitsSouthOf 14 = .ok (.iload 4, 2) := dz1 dzo21 14 4 dzbX4_bitsSouthOf_0 rfl
theorem dX4_bitsSouthOf_16 : decode cX4_bitsSouthOf 16 = .ok (.aload_n 0, 1) := dz0 dzo42 16 dzbX4_bitsSouthOf_0 rfl
theorem dX4_bitsSouthOf_17 : decode cX4_bitsSouthOf 17 = .ok (.getfield 15, 3) := dz2 dzo180 17 0 15 dzbX4_bitsSouthOf_0 rfl
theorem dX4_bitsSouthOf_20 : decode cX4_bitsSouthOf 20 = .ok (.imul, 1) := dz0 dzo104 20 dzbX4_bitsSouthOf_0 rfl
theorem dX4_bitsSouthOf_21 : decode cX4_bitsSouthOf 21 = .ok (.iadd, 1) := dz0 dzo96 21 dzbX4_bitsSouthOf_0 rfl
theorem dX4_bitsSouthOf_22 : decode cX4_bitsSouthOf 22 = .ok (.ishl, 1) := dz0 dzo120 22 dzbX4_bitsSouthOf_0 rfl
theorem dX4_bitsSouthOf_23 : decode cX4_bitsSouthOf 23 = .ok (.ior, 1) := dz0 dzo128 23 dzbX4_bitsSouthOf_0 rfl
theorem dzbX4_bitsSouthOf_24 : dzB cX4_bitsSouthOf 24 [62, 132, 4, 1, 167, 255, 233, 29, 172] := by decide +kernel
theorem dX4_bitsSouthOf_24 : decode cX4_bitsSouthOf 24 = .ok (.istore_n 3, 1) := dz0 dzo62 0 dzbX4_bitsSouthOf_24 rfl
theorem dX4_bitsSouthOf_25 : decode cX4_bitsSouthOf 25 = .ok (.iinc 4 1, 3) := dz5 dzo132 1 4 1 1 rfl dzbX4_bitsSouthOf_24 rfl
theorem dX4_bitsSouthOf_28 : decode cX4_bitsSouthOf 28 = .ok (.goto (-23), 3) := dz4 dzo167 4 255 233 (-23) rfl dzbX4_bitsSouthOf_24 rfl
theorem dX4_bitsSouthOf_31 : decode cX4_bitsSouthOf 31 = .ok (.iload_n 3, 1) := dz0 dzo29 7 dzbX4_bitsSouthOf_24 rfl
theorem dX4_bitsSouthOf_32 : decode cX4_bitsSouthOf 32 = .ok (.ireturn, 1) := dz0 dzo172 8 dzbX4_bitsSouthOf_24 rfl
theorem dzbX4_fallsFor_0 : dzB cX4_fallsFor 0 [42, 28, 29, 182, 0, 29, 54, 4, 21, 4, 2, 159, 0, 26, 42, 180, 0, 9, 21, 4, 46, 4] := by decide +kernel
theorem dX4_fallsFor_0 : decode cX4_fallsFor 0 = .ok (.aload_n 0, 1) := dz0 dzo42 0 dzbX4_fallsFor_0 rfl
theorem dX4_fallsFor_1 : decode cX4_fallsFor 1 = .ok (.iload_n 2, 1) := dz0 dzo28 1 dzbX4_fallsFor_0 rfl
theorem dX4_fallsFor_2 : decode cX4_fallsFor 2 = .ok (.iload_n 3, 1) := dz0 dzo29 2 dzbX4_fallsFor_0 rfl
theorem dX4_fallsFor_3 : decode cX4_fallsFor 3 = .ok (.invokevirtual 29, 3) := dz2 dzo182 3 0 29 dzbX4_fallsFor_0 rfl
theorem dX4_fallsFor_6 : decode cX4_fallsFor 6 = .ok (.istore 4, 2) := dz1 dzo54 6 4 dzbX4_fallsFor_0 rfl
theorem dX4_fallsFor_8 : decode cX4_fallsFor 8 = .ok (.iload 4, 2) := dz1 dzo21 8 4 dzbX4_fallsFor_0 rfl
theorem dX4_fallsFor_10 : decode cX4_fallsFor 10 = .ok (.iconst (-1), 1) := dz0 dzo2 10 dzbX4_fallsFor_0 rfl
theorem dX4_fallsFor_11 : decode cX4_fallsFor 11 = .ok (.if_icmp .eq 26, 3) := dz4 dzo159 11 0 26 26 rfl dzbX4_fallsFor_0 rfl
theorem dX4_fallsFor_14 : decode cX4_fallsFor 14 = .ok (.aload_n 0, 1) := dz0 dzo42 14 dzbX4_fallsFor_0 rfl
theorem dX4_fallsFor_15 : decode cX4_fallsFor 15 = .ok (.getfield 9, 3) := dz2 dzo180 15 0 9 dzbX4_fallsFor_0 rfl
theorem dX4_fallsFor_18 : decode cX4_fallsFor 18 = .ok (.iload 4, 2) := dz1 dzo21 18 4 dzbX4_fallsFor_0 rfl
theorem dX4_fallsFor_20 : decode cX4_fallsFor 20 = .ok (.iaload, 1) := dz0 dzo46 20 dzbX4_fallsFor_0 rfl
theorem dX4_fallsFor_21 : decode cX4_fallsFor 21 = .ok (.iconst 1, 1) := dz0 dzo4 21 dzbX4_fallsFor_0 rfl
theorem dzbX4_fallsFor_22 : dzB cX4_fallsFor 22 [160, 0, 15, 27, 29, 184, 0, 39, 153, 0, 7, 4, 167, 0, 4, 3, 172] := by decide +kernel
theorem dX4_fallsFor_22 : decode cX4_fallsFor 22 = .ok (.if_icmp .ne 15, 3) := dz4 dzo160 0 0 15 15 rfl dzbX4_fallsFor_22 rfl
theorem dX4_fallsFor_25 : decode cX4_fallsFor 25 = .ok (.iload_n 1, 1) := dz0 dzo27 3 dzbX4_fallsFor_22 rfl
theorem dX4_fallsFor_26 : decode cX4_fallsFor 26 = .ok (.iload_n 3, 1) := dz0 dzo29 4 dzbX4_fallsFor_22 rfl
theorem dX4_fallsFor_27 : decode cX4_fallsFor 27 = .ok (.invokestatic 39, 3) := dz2 dzo184 5 0 39 dzbX4_fallsFor_22 rfl
theorem dX4_fallsFor_30 : decode cX4_fallsFor 30 = .ok (.ifCond .eq 7, 3) := dz4 dzo153 8 0 7 7 rfl dzbX4_fallsFor_22 rfl
theorem dX4_fallsFor_33 : decode cX4_fallsFor 33 = .ok (.iconst 1, 1) := dz0 dzo4 11 dzbX4_fallsFor_22 rfl
theorem dX4_fallsFor_34 : decode cX4_fallsFor 34 = .ok (.goto 4, 3) := dz4 dzo167 12 0 4 4 rfl dzbX4_fallsFor_22 rfl
theorem dX4_fallsFor_37 : decode cX4_fallsFor 37 = .ok (.iconst 0, 1) := dz0 dzo3 15 dzbX4_fallsFor_22 rfl
theorem dX4_fallsFor_38 : decode cX4_fallsFor 38 = .ok (.ireturn, 1) := dz0 dzo172 16 dzbX4_fallsFor_22 rfl
theorem dzbX4_holds_0 : dzB cX4_holds 0 [27, 155, 0, 15, 27, 42, 180, 0, 22, 162, 0, 7, 4, 167, 0, 4, 3, 172] := by decide +kernel
theorem dX4_holds_0 : decode cX4_holds 0 = .ok (.iload_n 1, 1) := dz0 dzo27 0 dzbX4_holds_0 rfl
theorem dX4_holds_1 : decode cX4_holds 1 = .ok (.ifCond .lt 15, 3) := dz4 dzo155 1 0 15 15 rfl dzbX4_holds_0 rfl
theorem dX4_holds_4 : decode cX4_holds 4 = .ok (.iload_n 1, 1) := dz0 dzo27 4 dzbX4_holds_0 rfl
theorem dX4_holds_5 : decode cX4_holds 5 = .ok (.aload_n 0, 1) := dz0 dzo42 5 dzbX4_holds_0 rfl
theorem dX4_holds_6 : decode cX4_holds 6 = .ok (.getfield 22, 3) := dz2 dzo180 6 0 22 dzbX4_holds_0 rfl
theorem dX4_holds_9 : decode cX4_holds 9 = .ok (.if_icmp .ge 7, 3) := dz4 dzo162 9 0 7 7 rfl dzbX4_holds_0 rfl
theorem dX4_holds_12 : decode cX4_holds 12 = .ok (.iconst 1, 1) := dz0 dzo4 12 dzbX4_holds_0 rfl
theorem dX4_holds_13 : decode cX4_holds 13 = .ok (.goto 4, 3) := dz4 dzo167 13 0 4 4 rfl dzbX4_holds_0 rfl
theorem dX4_holds_16 : decode cX4_holds 16 = .ok (.iconst 0, 1) := dz0 dzo3 16 dzbX4_holds_0 rfl
theorem dX4_holds_17 : decode cX4_holds 17 = .ok (.ireturn, 1) := dz0 dzo172 17 dzbX4_holds_0 rfl
theorem dzbX4_init_0 : dzB cX4_init 0 [42, 183, 0, 3, 42, 16, 20] := by decide +kernel
theorem dX4_init_0 : decode cX4_init 0 = .ok (.aload_n 0, 1) := dz0 dzo42 0 dzbX4_init_0 rfl
theorem dX4_init_1 : decode cX4_init 1 = .ok (.invokespecial 3, 3) := dz2 dzo183 1 0 3 dzbX4_init_0 rfl
theorem dX4_init_4 : decode cX4_init 4 = .ok (.aload_n 0, 1) := dz0 dzo42 4 dzbX4_init_0 rfl
theorem dX4_init_5 : decode cX4_init 5 = .ok (.bipush 20, 2) := dz3 dzo16 5 20 20 rfl dzbX4_init_0 rfl
theorem dX4_init_7 : decode cX4_init 7 = .ok (.newarray .int, 2) := by decide +kernel
theorem dzbX4_init_9 : dzB cX4_init 9 [181, 0, 9, 177] := by decide +kernel
theorem dX4_init_9 : decode cX4_init 9 = .ok (.putfield 9, 3) := dz2 dzo181 0 0 9 dzbX4_init_9 rfl
theorem dX4_init_12 : decode cX4_init 12 = .ok (.return_, 1) := dz0 dzo177 3 dzbX4_init_9 rfl
theorem dzbX4_isFallOntoDitch_0 : dzB cX4_isFallOntoDitch 0 [26, 154, 0, 12, 27, 5, 160, 0, 7, 4, 167, 0, 4, 3, 172] := by decide +kernel
theorem dX4_isFallOntoDitch_0 : decode cX4_isFallOntoDitch 0 = .ok (.iload_n 0, 1) := dz0 dzo26 0 dzbX4_isFallOntoDitch_0 rfl
theorem dX4_isFallOntoDitch_1 : decode cX4_isFallOntoDitch 1 = .ok (.ifCond .ne 12, 3) := dz4 dzo154 1 0 12 12 rfl dzbX4_isFallOntoDitch_0 rfl
theorem dX4_isFallOntoDitch_4 : decode cX4_isFallOntoDitch 4 = .ok (.iload_n 1, 1) := dz0 dzo27 4 dzbX4_isFallOntoDitch_0 rfl
theorem dX4_isFallOntoDitch_5 : decode cX4_isFallOntoDitch 5 = .ok (.iconst 2, 1) := dz0 dzo5 5 dzbX4_isFallOntoDitch_0 rfl
theorem dX4_isFallOntoDitch_6 : decode cX4_isFallOntoDitch 6 = .ok (.if_icmp .ne 7, 3) := dz4 dzo160 6 0 7 7 rfl dzbX4_isFallOntoDitch_0 rfl
theorem dX4_isFallOntoDitch_9 : decode cX4_isFallOntoDitch 9 = .ok (.iconst 1, 1) := dz0 dzo4 9 dzbX4_isFallOntoDitch_0 rfl
theorem dX4_isFallOntoDitch_10 : decode cX4_isFallOntoDitch 10 = .ok (.goto 4, 3) := dz4 dzo167 10 0 4 4 rfl dzbX4_isFallOntoDitch_0 rfl
theorem dX4_isFallOntoDitch_13 : decode cX4_isFallOntoDitch 13 = .ok (.iconst 0, 1) := dz0 dzo3 13 dzbX4_isFallOntoDitch_0 rfl
theorem dX4_isFallOntoDitch_14 : decode cX4_isFallOntoDitch 14 = .ok (.ireturn, 1) := dz0 dzo172 14 dzbX4_isFallOntoDitch_0 rfl
theorem dzbX4_put_0 : dzB cX4_put 0 [42, 27, 182, 0, 25, 153, 0, 10, 42, 180, 0, 9, 27, 28, 79, 177] := by decide +kernel
theorem dX4_put_0 : decode cX4_put 0 = .ok (.aload_n 0, 1) := dz0 dzo42 0 dzbX4_put_0 rfl
theorem dX4_put_1 : decode cX4_put 1 = .ok (.iload_n 1, 1) := dz0 dzo27 1 dzbX4_put_0 rfl
theorem dX4_put_2 : decode cX4_put 2 = .ok (.invokevirtual 25, 3) := dz2 dzo182 2 0 25 dzbX4_put_0 rfl
theorem dX4_put_5 : decode cX4_put 5 = .ok (.ifCond .eq 10, 3) := dz4 dzo153 5 0 10 10 rfl dzbX4_put_0 rfl
theorem dX4_put_8 : decode cX4_put 8 = .ok (.aload_n 0, 1) := dz0 dzo42 8 dzbX4_put_0 rfl
theorem dX4_put_9 : decode cX4_put 9 = .ok (.getfield 9, 3) := dz2 dzo180 9 0 9 dzbX4_put_0 rfl
theorem dX4_put_12 : decode cX4_put 12 = .ok (.iload_n 1, 1) := dz0 dzo27 12 dzbX4_put_0 rfl
theorem dX4_put_13 : decode cX4_put 13 = .ok (.iload_n 2, 1) := dz0 dzo28 13 dzbX4_put_0 rfl
theorem dX4_put_14 : decode cX4_put 14 = .ok (.iastore, 1) := dz0 dzo79 14 dzbX4_put_0 rfl
theorem dX4_put_15 : decode cX4_put 15 = .ok (.return_, 1) := dz0 dzo177 15 dzbX4_put_0 rfl
theorem dzbX4_resize_0 : dzB cX4_resize 0 [42, 27, 181, 0, 15, 42, 28, 181, 0, 19, 42, 27, 28, 104, 181, 0, 22, 177] := by decide +kernel
theorem dX4_resize_0 : decode cX4_resize 0 = .ok (.aload_n 0, 1) := dz0 dzo42 0 dzbX4_resize_0 rfl
theorem dX4_resize_1 : decode cX4_resize 1 = .ok (.iload_n 1, 1) := dz0 dzo27 1 dzbX4_resize_0 rfl
theorem dX4_resize_2 : decode cX4_resize 2 = .ok (.putfield 15, 3) := dz2 dzo181 2 0 15 dzbX4_resize_0 rfl
theorem dX4_resize_5 : decode cX4_resize 5 = .ok (.aload_n 0, 1) := dz0 dzo42 5 dzbX4_resize_0 rfl
theorem dX4_resize_6 : decode cX4_resize 6 = .ok (.iload_n 2, 1) := dz0 dzo28 6 dzbX4_resize_0 rfl
theorem dX4_resize_7 : decode cX4_resize 7 = .ok (.putfield 19, 3) := dz2 dzo181 7 0 19 dzbX4_resize_0 rfl
theorem dX4_resize_10 : decode cX4_resize 10 = .ok (.aload_n 0, 1) := dz0 dzo42 10 dzbX4_resize_0 rfl
theorem dX4_resize_11 : decode cX4_resize 11 = .ok (.iload_n 1, 1) := dz0 dzo27 11 dzbX4_resize_0 rfl
theorem dX4_resize_12 : decode cX4_resize 12 = .ok (.iload_n 2, 1) := dz0 dzo28 12 dzbX4_resize_0 rfl
theorem dX4_resize_13 : decode cX4_resize 13 = .ok (.imul, 1) := dz0 dzo104 13 dzbX4_resize_0 rfl
theorem dX4_resize_14 : decode cX4_resize 14 = .ok (.putfield 22, 3) := dz2 dzo181 14 0 22 dzbX4_resize_0 rfl
theorem dX4_resize_17 : decode cX4_resize 17 = .ok (.return_, 1) := dz0 dzo177 17 dzbX4_resize_0 rfl
theorem dzbX4_sortAt_0 : dzB cX4_sortAt 0 [42, 27, 182, 0, 25, 153, 0, 12, 42, 180, 0, 9, 27, 46, 167, 0, 4, 6, 172] := by decide +kernel
theorem dX4_sortAt_0 : decode cX4_sortAt 0 = .ok (.aload_n 0, 1) := dz0 dzo42 0 dzbX4_sortAt_0 rfl
theorem dX4_sortAt_1 : decode cX4_sortAt 1 = .ok (.iload_n 1, 1) := dz0 dzo27 1 dzbX4_sortAt_0 rfl
theorem dX4_sortAt_2 : decode cX4_sortAt 2 = .ok (.invokevirtual 25, 3) := dz2 dzo182 2 0 25 dzbX4_sortAt_0 rfl
theorem dX4_sortAt_5 : decode cX4_sortAt 5 = .ok (.ifCond .eq 12, 3) := dz4 dzo153 5 0 12 12 rfl dzbX4_sortAt_0 rfl
theorem dX4_sortAt_8 : decode cX4_sortAt 8 = .ok (.aload_n 0, 1) := dz0 dzo42 8 dzbX4_sortAt_0 rfl
theorem dX4_sortAt_9 : decode cX4_sortAt 9 = .ok (.getfield 9, 3) := dz2 dzo180 9 0 9 dzbX4_sortAt_0 rfl
theorem dX4_sortAt_12 : decode cX4_sortAt 12 = .ok (.iload_n 1, 1) := dz0 dzo27 12 dzbX4_sortAt_0 rfl
theorem dX4_sortAt_13 : decode cX4_sortAt 13 = .ok (.iaload, 1) := dz0 dzo46 13 dzbX4_sortAt_0 rfl
theorem dX4_sortAt_14 : decode cX4_sortAt 14 = .ok (.goto 4, 3) := dz4 dzo167 14 0 4 4 rfl dzbX4_sortAt_0 rfl
theorem dX4_sortAt_17 : decode cX4_sortAt 17 = .ok (.iconst 3, 1) := dz0 dzo6 17 dzbX4_sortAt_0 rfl
theorem dX4_sortAt_18 : decode cX4_sortAt 18 = .ok (.ireturn, 1) := dz0 dzo172 18 dzbX4_sortAt_0 rfl
theorem dzbX4_take_0 : dzB cX4_take 0 [42, 43, 180, 0, 15, 43, 180, 0, 19, 182, 0, 43, 43, 180, 0, 9, 3, 42, 180, 0, 9, 3, 16, 20] := by decide +kernel
theorem dX4_take_0 : decode cX4_take 0 = .ok (.aload_n 0, 1) := dz0 dzo42 0 dzbX4_take_0 rfl
theorem dX4_take_1 : decode cX4_take 1 = .ok (.aload_n 1, 1) := dz0 dzo43 1 dzbX4_take_0 rfl
theorem dX4_take_2 : decode cX4_take 2 = .ok (.getfield 15, 3) := dz2 dzo180 2 0 15 dzbX4_take_0 rfl
theorem dX4_take_5 : decode cX4_take 5 = .ok (.aload_n 1, 1) := dz0 dzo43 5 dzbX4_take_0 rfl
theorem dX4_take_6 : decode cX4_take 6 = .ok (.getfield 19, 3) := dz2 dzo180 6 0 19 dzbX4_take_0 rfl
theorem dX4_take_9 : decode cX4_take 9 = .ok (.invokevirtual 43, 3) := dz2 dzo182 9 0 43 dzbX4_take_0 rfl
theorem dX4_take_12 : decode cX4_take 12 = .ok (.aload_n 1, 1) := dz0 dzo43 12 dzbX4_take_0 rfl
theorem dX4_take_13 : decode cX4_take 13 = .ok (.getfield 9, 3) := dz2 dzo180 13 0 9 dzbX4_take_0 rfl
theorem dX4_take_16 : decode cX4_take 16 = .ok (.iconst 0, 1) := dz0 dzo3 16 dzbX4_take_0 rfl
theorem dX4_take_17 : decode cX4_take 17 = .ok (.aload_n 0, 1) := dz0 dzo42 17 dzbX4_take_0 rfl
theorem dX4_take_18 : decode cX4_take 18 = .ok (.getfield 9, 3) := dz2 dzo180 18 0 9 dzbX4_take_0 rfl
theorem dX4_take_21 : decode cX4_take 21 = .ok (.iconst 0, 1) := dz0 dzo3 21 dzbX4_take_0 rfl
theorem dX4_take_22 : decode cX4_take 22 = .ok (.bipush 20, 2) := dz3 dzo16 22 20 20 rfl dzbX4_take_0 rfl
theorem dzbX4_take_24 : dzB cX4_take 24 [184, 0, 47, 177] := by decide +kernel
theorem dX4_take_24 : decode cX4_take 24 = .ok (.invokestatic 47, 3) := dz2 dzo184 0 0 47 dzbX4_take_24 rfl
theorem dX4_take_27 : decode cX4_take 27 = .ok (.return_, 1) := dz0 dzo177 3 dzbX4_take_24 rfl
theorem dzbX4_target_0 : dzB cX4_target 0 [27, 155, 0, 18, 27, 42, 180, 0, 22, 162, 0, 10, 42, 180, 0, 15, 157, 0, 5, 2, 172, 2, 62, 28] := by decide +kernel
theorem dX4_target_0 : decode cX4_target 0 = .ok (.iload_n 1, 1) := dz0 dzo27 0 dzbX4_target_0 rfl
theorem dX4_target_1 : decode cX4_target 1 = .ok (.ifCond .lt 18, 3) := dz4 dzo155 1 0 18 18 rfl dzbX4_target_0 rfl
theorem dX4_target_4 : decode cX4_target 4 = .ok (.iload_n 1, 1) := dz0 dzo27 4 dzbX4_target_0 rfl
theorem dX4_target_5 : decode cX4_target 5 = .ok (.aload_n 0, 1) := dz0 dzo42 5 dzbX4_target_0 rfl
theorem dX4_target_6 : decode cX4_target 6 = .ok (.getfield 22, 3) := dz2 dzo180 6 0 22 dzbX4_target_0 rfl
theorem dX4_target_9 : decode cX4_target 9 = .ok (.if_icmp .ge 10, 3) := dz4 dzo162 9 0 10 10 rfl dzbX4_target_0 rfl
theorem dX4_target_12 : decode cX4_target 12 = .ok (.aload_n 0, 1) := dz0 dzo42 12 dzbX4_target_0 rfl
theorem dX4_target_13 : decode cX4_target 13 = .ok (.getfield 15, 3) := dz2 dzo180 13 0 15 dzbX4_target_0 rfl
theorem dX4_target_16 : decode cX4_target 16 = .ok (.ifCond .gt 5, 3) := dz4 dzo157 16 0 5 5 rfl dzbX4_target_0 rfl
theorem dX4_target_19 : decode cX4_target 19 = .ok (.iconst (-1), 1) := dz0 dzo2 19 dzbX4_target_0 rfl
theorem dX4_target_20 : decode cX4_target 20 = .ok (.ireturn, 1) := dz0 dzo172 20 dzbX4_target_0 rfl
theorem dX4_target_21 : decode cX4_target 21 = .ok (.iconst (-1), 1) := dz0 dzo2 21 dzbX4_target_0 rfl
theorem dX4_target_22 : decode cX4_target 22 = .ok (.istore_n 3, 1) := dz0 dzo62 22 dzbX4_target_0 rfl
theorem dX4_target_23 : decode cX4_target 23 = .ok (.iload_n 2, 1) := dz0 dzo28 23 dzbX4_target_0 rfl
theorem dzbX4_target_24 : dzB cX4_target 24 [154, 0, 13, 27, 42, 180, 0, 15, 100, 62, 167, 0, 63, 28, 5, 160, 0, 13, 27, 42, 180, 0, 15, 96] := by decide +kernel
theorem dX4_target_24 : decode cX4_target 24 = .ok (.ifCond .ne 13, 3) := dz4 dzo154 0 0 13 13 rfl dzbX4_target_24 rfl
theorem dX4_target_27 : decode cX4_target 27 = .ok (.iload_n 1, 1) := dz0 dzo27 3 dzbX4_target_24 rfl
theorem dX4_target_28 : decode cX4_target 28 = .ok (.aload_n 0, 1) := dz0 dzo42 4 dzbX4_target_24 rfl
theorem dX4_target_29 : decode cX4_target 29 = .ok (.getfield 15, 3) := dz2 dzo180 5 0 15 dzbX4_target_24 rfl
theorem dX4_target_32 : decode cX4_target 32 = .ok (.isub, 1) := dz0 dzo100 8 dzbX4_target_24 rfl
theorem dX4_target_33 : decode cX4_target 33 = .ok (.istore_n 3, 1) := dz0 dzo62 9 dzbX4_target_24 rfl
theorem dX4_target_34 : decode cX4_target 34 = .ok (.goto 63, 3) := dz4 dzo167 10 0 63 63 rfl dzbX4_target_24 rfl
theorem dX4_target_37 : decode cX4_target 37 = .ok (.iload_n 2, 1) := dz0 dzo28 13 dzbX4_target_24 rfl
theorem dX4_target_38 : decode cX4_target 38 = .ok (.iconst 2, 1) := dz0 dzo5 14 dzbX4_target_24 rfl
theorem dX4_target_39 : decode cX4_target 39 = .ok (.if_icmp .ne 13, 3) := dz4 dzo160 15 0 13 13 rfl dzbX4_target_24 rfl
theorem dX4_target_42 : decode cX4_target 42 = .ok (.iload_n 1, 1) := dz0 dzo27 18 dzbX4_target_24 rfl
theorem dX4_target_43 : decode cX4_target 43 = .ok (.aload_n 0, 1) := dz0 dzo42 19 dzbX4_target_24 rfl
theorem dX4_target_44 : decode cX4_target 44 = .ok (.getfield 15, 3) := dz2 dzo180 20 0 15 dzbX4_target_24 rfl
theorem dX4_target_47 : decode cX4_target 47 = .ok (.iadd, 1) := dz0 dzo96 23 dzbX4_target_24 rfl
theorem dzbX4_target_48 : dzB cX4_target 48 [62, 167, 0, 48, 28, 4, 160, 0, 25, 27, 42, 180, 0, 15, 112, 42, 180, 0, 15, 4, 100, 162, 0, 10] := by decide +kernel
theorem dX4_target_48 : decode cX4_target 48 = .ok (.istore_n 3, 1) := dz0 dzo62 0 dzbX4_target_48 rfl
theorem dX4_target_49 : decode cX4_target 49 = .ok (.goto 48, 3) := dz4 dzo167 1 0 48 48 rfl dzbX4_target_48 rfl
theorem dX4_target_52 : decode cX4_target 52 = .ok (.iload_n 2, 1) := dz0 dzo28 4 dzbX4_target_48 rfl
theorem dX4_target_53 : decode cX4_target 53 = .ok (.iconst 1, 1) := dz0 dzo4 5 dzbX4_target_48 rfl
theorem dX4_target_54 : decode cX4_target 54 = .ok (.if_icmp .ne 25, 3) := dz4 dzo160 6 0 25 25 rfl dzbX4_target_48 rfl
theorem dX4_target_57 : decode cX4_target 57 = .ok (.iload_n 1, 1) := dz0 dzo27 9 dzbX4_target_48 rfl
theorem dX4_target_58 : decode cX4_target 58 = .ok (.aload_n 0, 1) := dz0 dzo42 10 dzbX4_target_48 rfl
theorem dX4_target_59 : decode cX4_target 59 = .ok (.getfield 15, 3) := dz2 dzo180 11 0 15 dzbX4_target_48 rfl
theorem dX4_target_62 : decode cX4_target 62 = .ok (.irem, 1) := dz0 dzo112 14 dzbX4_target_48 rfl
theorem dX4_target_63 : decode cX4_target 63 = .ok (.aload_n 0, 1) := dz0 dzo42 15 dzbX4_target_48 rfl
theorem dX4_target_64 : decode cX4_target 64 = .ok (.getfield 15, 3) := dz2 dzo180 16 0 15 dzbX4_target_48 rfl
theorem dX4_target_67 : decode cX4_target 67 = .ok (.iconst 1, 1) := dz0 dzo4 19 dzbX4_target_48 rfl
theorem dX4_target_68 : decode cX4_target 68 = .ok (.isub, 1) := dz0 dzo100 20 dzbX4_target_48 rfl
theorem dX4_target_69 : decode cX4_target 69 = .ok (.if_icmp .ge 10, 3) := dz4 dzo162 21 0 10 10 rfl dzbX4_target_48 rfl
theorem dzbX4_target_72 : dzB cX4_target 72 [27, 4, 96, 62, 167, 0, 21, 28, 6, 160, 0, 16, 27, 42, 180, 0, 15, 112, 158, 0, 7, 27, 4, 100] := by decide +kernel
theorem dX4_target_72 : decode cX4_target 72 = .ok (.iload_n 1, 1) := dz0 dzo27 0 dzbX4_target_72 rfl
theorem dX4_target_73 : decode cX4_target 73 = .ok (.iconst 1, 1) := dz0 dzo4 1 dzbX4_target_72 rfl
theorem dX4_target_74 : decode cX4_target 74 = .ok (.iadd, 1) := dz0 dzo96 2 dzbX4_target_72 rfl
theorem dX4_target_75 : decode cX4_target 75 = .ok (.istore_n 3, 1) := dz0 dzo62 3 dzbX4_target_72 rfl
theorem dX4_target_76 : decode cX4_target 76 = .ok (.goto 21, 3) := dz4 dzo167 4 0 21 21 rfl dzbX4_target_72 rfl
theorem dX4_target_79 : decode cX4_target 79 = .ok (.iload_n 2, 1) := dz0 dzo28 7 dzbX4_target_72 rfl
theorem dX4_target_80 : decode cX4_target 80 = .ok (.iconst 3, 1) := dz0 dzo6 8 dzbX4_target_72 rfl
theorem dX4_target_81 : decode cX4_target 81 = .ok (.if_icmp .ne 16, 3) := dz4 dzo160 9 0 16 16 rfl dzbX4_target_72 rfl
theorem dX4_target_84 : decode cX4_target 84 = .ok (.iload_n 1, 1) := dz0 dzo27 12 dzbX4_target_72 rfl
theorem dX4_target_85 : decode cX4_target 85 = .ok (.aload_n 0, 1) := dz0 dzo42 13 dzbX4_target_72 rfl
theorem dX4_target_86 : decode cX4_target 86 = .ok (.getfield 15, 3) := dz2 dzo180 14 0 15 dzbX4_target_72 rfl
theorem dX4_target_89 : decode cX4_target 89 = .ok (.irem, 1) := dz0 dzo112 17 dzbX4_target_72 rfl
theorem dX4_target_90 : decode cX4_target 90 = .ok (.ifCond .le 7, 3) := dz4 dzo158 18 0 7 7 rfl dzbX4_target_72 rfl
theorem dX4_target_93 : decode cX4_target 93 = .ok (.iload_n 1, 1) := dz0 dzo27 21 dzbX4_target_72 rfl
theorem dX4_target_94 : decode cX4_target 94 = .ok (.iconst 1, 1) := dz0 dzo4 22 dzbX4_target_72 rfl
theorem dX4_target_95 : decode cX4_target 95 = .ok (.isub, 1) := dz0 dzo100 23 dzbX4_target_72 rfl
theorem dzbX4_target_96 : dzB cX4_target 96 [62, 29, 155, 0, 21, 29, 42, 180, 0, 22, 162, 0, 13, 42, 180, 0, 9, 29, 46, 6, 160, 0, 7, 2] := by decide +kernel
theorem dX4_target_96 : decode cX4_target 96 = .ok (.istore_n 3, 1) := dz0 dzo62 0 dzbX4_target_96 rfl
theorem dX4_target_97 : decode cX4_target 97 = .ok (.iload_n 3, 1) := dz0 dzo29 1 dzbX4_target_96 rfl
theorem dX4_target_98 : decode cX4_target 98 = .ok (.ifCond .lt 21, 3) := dz4 dzo155 2 0 21 21 rfl dzbX4_target_96 rfl
theorem dX4_target_101 : decode cX4_target 101 = .ok (.iload_n 3, 1) := dz0 dzo29 5 dzbX4_target_96 rfl
theorem dX4_target_102 : decode cX4_target 102 = .ok (.aload_n 0, 1) := dz0 dzo42 6 dzbX4_target_96 rfl
theorem dX4_target_103 : decode cX4_target 103 = .ok (.getfield 22, 3) := dz2 dzo180 7 0 22 dzbX4_target_96 rfl
theorem dX4_target_106 : decode cX4_target 106 = .ok (.if_icmp .ge 13, 3) := dz4 dzo162 10 0 13 13 rfl dzbX4_target_96 rfl
theorem dX4_target_109 : decode cX4_target 109 = .ok (.aload_n 0, 1) := dz0 dzo42 13 dzbX4_target_96 rfl
theorem dX4_target_110 : decode cX4_target 110 = .ok (.getfield 9, 3) := dz2 dzo180 14 0 9 dzbX4_target_96 rfl
theorem dX4_target_113 : decode cX4_target 113 = .ok (.iload_n 3, 1) := dz0 dzo29 17 dzbX4_target_96 rfl
theorem dX4_target_114 : decode cX4_target 114 = .ok (.iaload, 1) := dz0 dzo46 18 dzbX4_target_96 rfl
theorem dX4_target_115 : decode cX4_target 115 = .ok (.iconst 3, 1) := dz0 dzo6 19 dzbX4_target_96 rfl
theorem dX4_target_116 : decode cX4_target 116 = .ok (.if_icmp .ne 7, 3) := dz4 dzo160 20 0 7 7 rfl dzbX4_target_96 rfl
theorem dX4_target_119 : decode cX4_target 119 = .ok (.iconst (-1), 1) := dz0 dzo2 23 dzbX4_target_96 rfl
theorem dzbX4_target_120 : dzB cX4_target 120 [167, 0, 4, 29, 172] := by decide +kernel
theorem dX4_target_120 : decode cX4_target 120 = .ok (.goto 4, 3) := dz4 dzo167 0 0 4 4 rfl dzbX4_target_120 rfl
theorem dX4_target_123 : decode cX4_target 123 = .ok (.iload_n 3, 1) := dz0 dzo29 3 dzbX4_target_120 rfl
theorem dX4_target_124 : decode cX4_target 124 = .ok (.ireturn, 1) := dz0 dzo172 4 dzbX4_target_120 rfl
theorem dzbX4_timeFor_0 : dzB cX4_timeFor 0 [42, 28, 29, 182, 0, 29, 54, 4, 21, 4, 2, 160, 0, 6, 16, 254, 172, 42, 180, 0, 9, 21, 4, 46] := by decide +kernel
theorem dX4_timeFor_0 : decode cX4_timeFor 0 = .ok (.aload_n 0, 1) := dz0 dzo42 0 dzbX4_timeFor_0 rfl
theorem dX4_timeFor_1 : decode cX4_timeFor 1 = .ok (.iload_n 2, 1) := dz0 dzo28 1 dzbX4_timeFor_0 rfl
theorem dX4_timeFor_2 : decode cX4_timeFor 2 = .ok (.iload_n 3, 1) := dz0 dzo29 2 dzbX4_timeFor_0 rfl
theorem dX4_timeFor_3 : decode cX4_timeFor 3 = .ok (.invokevirtual 29, 3) := dz2 dzo182 3 0 29 dzbX4_timeFor_0 rfl
theorem dX4_timeFor_6 : decode cX4_timeFor 6 = .ok (.istore 4, 2) := dz1 dzo54 6 4 dzbX4_timeFor_0 rfl
theorem dX4_timeFor_8 : decode cX4_timeFor 8 = .ok (.iload 4, 2) := dz1 dzo21 8 4 dzbX4_timeFor_0 rfl
theorem dX4_timeFor_10 : decode cX4_timeFor 10 = .ok (.iconst (-1), 1) := dz0 dzo2 10 dzbX4_timeFor_0 rfl
theorem dX4_timeFor_11 : decode cX4_timeFor 11 = .ok (.if_icmp .ne 6, 3) := dz4 dzo160 11 0 6 6 rfl dzbX4_timeFor_0 rfl
theorem dX4_timeFor_14 : decode cX4_timeFor 14 = .ok (.bipush (-2), 2) := dz3 dzo16 14 254 (-2) rfl dzbX4_timeFor_0 rfl
theorem dX4_timeFor_16 : decode cX4_timeFor 16 = .ok (.ireturn, 1) := dz0 dzo172 16 dzbX4_timeFor_0 rfl
theorem dX4_timeFor_17 : decode cX4_timeFor 17 = .ok (.aload_n 0, 1) := dz0 dzo42 17 dzbX4_timeFor_0 rfl
theorem dX4_timeFor_18 : decode cX4_timeFor 18 = .ok (.getfield 9, 3) := dz2 dzo180 18 0 9 dzbX4_timeFor_0 rfl
theorem dX4_timeFor_21 : decode cX4_timeFor 21 = .ok (.iload 4, 2) := dz1 dzo21 21 4 dzbX4_timeFor_0 rfl
theorem dX4_timeFor_23 : decode cX4_timeFor 23 = .ok (.iaload, 1) := dz0 dzo46 23 dzbX4_timeFor_0 rfl
theorem dzbX4_timeFor_24 : dzB cX4_timeFor 24 [4, 160, 0, 9, 27, 29, 184, 0, 33, 172, 42, 180, 0, 9, 28, 46, 4, 160, 0, 11, 27, 29] := by decide +kernel
theorem dX4_timeFor_24 : decode cX4_timeFor 24 = .ok (.iconst 1, 1) := dz0 dzo4 0 dzbX4_timeFor_24 rfl
theorem dX4_timeFor_25 : decode cX4_timeFor 25 = .ok (.if_icmp .ne 9, 3) := dz4 dzo160 1 0 9 9 rfl dzbX4_timeFor_24 rfl
theorem dX4_timeFor_28 : decode cX4_timeFor 28 = .ok (.iload_n 1, 1) := dz0 dzo27 4 dzbX4_timeFor_24 rfl
theorem dX4_timeFor_29 : decode cX4_timeFor 29 = .ok (.iload_n 3, 1) := dz0 dzo29 5 dzbX4_timeFor_24 rfl
theorem dX4_timeFor_30 : decode cX4_timeFor 30 = .ok (.invokestatic 33, 3) := dz2 dzo184 6 0 33 dzbX4_timeFor_24 rfl
theorem dX4_timeFor_33 : decode cX4_timeFor 33 = .ok (.ireturn, 1) := dz0 dzo172 9 dzbX4_timeFor_24 rfl
theorem dX4_timeFor_34 : decode cX4_timeFor 34 = .ok (.aload_n 0, 1) := dz0 dzo42 10 dzbX4_timeFor_24 rfl
theorem dX4_timeFor_35 : decode cX4_timeFor 35 = .ok (.getfield 9, 3) := dz2 dzo180 11 0 9 dzbX4_timeFor_24 rfl
theorem dX4_timeFor_38 : decode cX4_timeFor 38 = .ok (.iload_n 2, 1) := dz0 dzo28 14 dzbX4_timeFor_24 rfl
theorem dX4_timeFor_39 : decode cX4_timeFor 39 = .ok (.iaload, 1) := dz0 dzo46 15 dzbX4_timeFor_24 rfl
theorem dX4_timeFor_40 : decode cX4_timeFor 40 = .ok (.iconst 1, 1) := dz0 dzo4 16 dzbX4_timeFor_24 rfl
theorem dX4_timeFor_41 : decode cX4_timeFor 41 = .ok (.if_icmp .ne 11, 3) := dz4 dzo160 17 0 11 11 rfl dzbX4_timeFor_24 rfl
theorem dX4_timeFor_44 : decode cX4_timeFor 44 = .ok (.iload_n 1, 1) := dz0 dzo27 20 dzbX4_timeFor_24 rfl
theorem dX4_timeFor_45 : decode cX4_timeFor 45 = .ok (.iload_n 3, 1) := dz0 dzo29 21 dzbX4_timeFor_24 rfl
theorem dzbX4_timeFor_46 : dzB cX4_timeFor 46 [184, 0, 36, 167, 0, 4, 4, 172] := by decide +kernel
theorem dX4_timeFor_46 : decode cX4_timeFor 46 = .ok (.invokestatic 36, 3) := dz2 dzo184 0 0 36 dzbX4_timeFor_46 rfl
theorem dX4_timeFor_49 : decode cX4_timeFor 49 = .ok (.goto 4, 3) := dz4 dzo167 3 0 4 4 rfl dzbX4_timeFor_46 rfl
theorem dX4_timeFor_52 : decode cX4_timeFor 52 = .ok (.iconst 1, 1) := dz0 dzo4 6 dzbX4_timeFor_46 rfl
theorem dX4_timeFor_53 : decode cX4_timeFor 53 = .ok (.ireturn, 1) := dz0 dzo172 7 dzbX4_timeFor_46 rfl
theorem dzbX4_timeOntoDitch_0 : dzB cX4_timeOntoDitch 0 [26, 4] := by decide +kernel
theorem dX4_timeOntoDitch_0 : decode cX4_timeOntoDitch 0 = .ok (.iload_n 0, 1) := dz0 dzo26 0 dzbX4_timeOntoDitch_0 rfl
theorem dX4_timeOntoDitch_1 : decode cX4_timeOntoDitch 1 = .ok (.iconst 1, 1) := dz0 dzo4 1 dzbX4_timeOntoDitch_0 rfl
