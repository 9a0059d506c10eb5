theorem dzbX13_odds_81 : dzB cX13_odds 81 [9, 97, 66, 132, 7, 1, 167, 255, 211, 42, 33, 22, 5, 28, 182, 1, 139, 173] := by decide +kernel
theorem dX13_odds_81 : decode cX13_odds 81 = .ok (.lconst 0, 1) := dz0 dzo9 0 dzbX13_odds_81 rfl
theorem dX13_odds_82 : decode cX13_odds 82 = .ok (.ladd, 1) := dz0 dzo97 1 dzbX13_odds_81 rfl
theorem dX13_odds_83 : decode cX13_odds 83 = .ok (.lstore_n 3, 1) := dz0 dzo66 2 dzbX13_odds_81 rfl
theorem dX13_odds_84 : decode cX13_odds 84 = .ok (.iinc 7 1, 3) := dz5 dzo132 3 7 1 1 rfl dzbX13_odds_81 rfl
theorem dX13_odds_87 : decode cX13_odds 87 = .ok (.goto (-45), 3) := dz4 dzo167 6 255 211 (-45) rfl dzbX13_odds_81 rfl
theorem dX13_odds_90 : decode cX13_odds 90 = .ok (.aload_n 0, 1) := dz0 dzo42 9 dzbX13_odds_81 rfl
theorem dX13_odds_91 : decode cX13_odds 91 = .ok (.lload_n 3, 1) := dz0 dzo33 10 dzbX13_odds_81 rfl
theorem dX13_odds_92 : decode cX13_odds 92 = .ok (.lload 5, 2) := dz1 dzo22 11 5 dzbX13_odds_81 rfl
theorem dX13_odds_94 : decode cX13_odds 94 = .ok (.iload_n 2, 1) := dz0 dzo28 13 dzbX13_odds_81 rfl
theorem dX13_odds_95 : decode cX13_odds 95 = .ok (.invokevirtual 395, 3) := dz2 dzo182 14 1 139 dzbX13_odds_81 rfl
theorem dX13_odds_98 : decode cX13_odds 98 = .ok (.lreturn, 1) := dz0 dzo173 17 dzbX13_odds_81 rfl
theorem dzbX13_onto_0 : dzB cX13_onto 0 [27, 42, 180, 1, 13, 180, 0, 158, 112, 62, 28, 154, 0, 29, 27, 42, 180, 1, 13, 180, 0, 158] := by decide +kernel
theorem dX13_onto_0 : decode cX13_onto 0 = .ok (.iload_n 1, 1) := dz0 dzo27 0 dzbX13_onto_0 rfl
theorem dX13_onto_1 : decode cX13_onto 1 = .ok (.aload_n 0, 1) := dz0 dzo42 1 dzbX13_onto_0 rfl
theorem dX13_onto_2 : decode cX13_onto 2 = .ok (.getfield 269, 3) := dz2 dzo180 2 1 13 dzbX13_onto_0 rfl
theorem dX13_onto_5 : decode cX13_onto 5 = .ok (.getfield 158, 3) := dz2 dzo180 5 0 158 dzbX13_onto_0 rfl
theorem dX13_onto_8 : decode cX13_onto 8 = .ok (.irem, 1) := dz0 dzo112 8 dzbX13_onto_0 rfl
theorem dX13_onto_9 : decode cX13_onto 9 = .ok (.istore_n 3, 1) := dz0 dzo62 9 dzbX13_onto_0 rfl
theorem dX13_onto_10 : decode cX13_onto 10 = .ok (.iload_n 2, 1) := dz0 dzo28 10 dzbX13_onto_0 rfl
theorem dX13_onto_11 : decode cX13_onto 11 = .ok (.ifCond .ne 29, 3) := dz4 dzo154 11 0 29 29 rfl dzbX13_onto_0 rfl
theorem dX13_onto_14 : decode cX13_onto 14 = .ok (.iload_n 1, 1) := dz0 dzo27 14 dzbX13_onto_0 rfl
theorem dX13_onto_15 : decode cX13_onto 15 = .ok (.aload_n 0, 1) := dz0 dzo42 15 dzbX13_onto_0 rfl
theorem dX13_onto_16 : decode cX13_onto 16 = .ok (.getfield 269, 3) := dz2 dzo180 16 1 13 dzbX13_onto_0 rfl
theorem dX13_onto_19 : decode cX13_onto 19 = .ok (.getfield 158, 3) := dz2 dzo180 19 0 158 dzbX13_onto_0 rfl
theorem dzbX13_onto_22 : dzB cX13_onto 22 [162, 0, 8, 16, 254, 167, 0, 12, 27, 42, 180, 1, 13, 180, 0, 158, 100, 172, 28, 5, 160, 0, 34, 27] := by decide +kernel
theorem dX13_onto_22 : decode cX13_onto 22 = .ok (.if_icmp .ge 8, 3) := dz4 dzo162 0 0 8 8 rfl dzbX13_onto_22 rfl
theorem dX13_onto_25 : decode cX13_onto 25 = .ok (.bipush (-2), 2) := dz3 dzo16 3 254 (-2) rfl dzbX13_onto_22 rfl
theorem dX13_onto_27 : decode cX13_onto 27 = .ok (.goto 12, 3) := dz4 dzo167 5 0 12 12 rfl dzbX13_onto_22 rfl
theorem dX13_onto_30 : decode cX13_onto 30 = .ok (.iload_n 1, 1) := dz0 dzo27 8 dzbX13_onto_22 rfl
theorem dX13_onto_31 : decode cX13_onto 31 = .ok (.aload_n 0, 1) := dz0 dzo42 9 dzbX13_onto_22 rfl
theorem dX13_onto_32 : decode cX13_onto 32 = .ok (.getfield 269, 3) := dz2 dzo180 10 1 13 dzbX13_onto_22 rfl
theorem dX13_onto_35 : decode cX13_onto 35 = .ok (.getfield 158, 3) := dz2 dzo180 13 0 158 dzbX13_onto_22 rfl
theorem dX13_onto_38 : decode cX13_onto 38 = .ok (.isub, 1) := dz0 dzo100 16 dzbX13_onto_22 rfl
theorem dX13_onto_39 : decode cX13_onto 39 = .ok (.ireturn, 1) := dz0 dzo172 17 dzbX13_onto_22 rfl
theorem dX13_onto_40 : decode cX13_onto 40 = .ok (.iload_n 2, 1) := dz0 dzo28 18 dzbX13_onto_22 rfl
theorem dX13_onto_41 : decode cX13_onto 41 = .ok (.iconst 2, 1) := dz0 dzo5 19 dzbX13_onto_22 rfl
theorem dX13_onto_42 : decode cX13_onto 42 = .ok (.if_icmp .ne 34, 3) := dz4 dzo160 20 0 34 34 rfl dzbX13_onto_22 rfl
theorem dX13_onto_45 : decode cX13_onto 45 = .ok (.iload_n 1, 1) := dz0 dzo27 23 dzbX13_onto_22 rfl
theorem dzbX13_onto_46 : dzB cX13_onto 46 [42, 180, 1, 13, 180, 0, 158, 96, 42, 182, 1, 21, 162, 0, 15, 27, 42, 180, 1, 13, 180, 0, 158, 96] := by decide +kernel
theorem dX13_onto_46 : decode cX13_onto 46 = .ok (.aload_n 0, 1) := dz0 dzo42 0 dzbX13_onto_46 rfl
theorem dX13_onto_47 : decode cX13_onto 47 = .ok (.getfield 269, 3) := dz2 dzo180 1 1 13 dzbX13_onto_46 rfl
theorem dX13_onto_50 : decode cX13_onto 50 = .ok (.getfield 158, 3) := dz2 dzo180 4 0 158 dzbX13_onto_46 rfl
theorem dX13_onto_53 : decode cX13_onto 53 = .ok (.iadd, 1) := dz0 dzo96 7 dzbX13_onto_46 rfl
theorem dX13_onto_54 : decode cX13_onto 54 = .ok (.aload_n 0, 1) := dz0 dzo42 8 dzbX13_onto_46 rfl
theorem dX13_onto_55 : decode cX13_onto 55 = .ok (.invokevirtual 277, 3) := dz2 dzo182 9 1 21 dzbX13_onto_46 rfl
theorem dX13_onto_58 : decode cX13_onto 58 = .ok (.if_icmp .ge 15, 3) := dz4 dzo162 12 0 15 15 rfl dzbX13_onto_46 rfl
theorem dX13_onto_61 : decode cX13_onto 61 = .ok (.iload_n 1, 1) := dz0 dzo27 15 dzbX13_onto_46 rfl
theorem dX13_onto_62 : decode cX13_onto 62 = .ok (.aload_n 0, 1) := dz0 dzo42 16 dzbX13_onto_46 rfl
theorem dX13_onto_63 : decode cX13_onto 63 = .ok (.getfield 269, 3) := dz2 dzo180 17 1 13 dzbX13_onto_46 rfl
theorem dX13_onto_66 : decode cX13_onto 66 = .ok (.getfield 158, 3) := dz2 dzo180 20 0 158 dzbX13_onto_46 rfl
theorem dX13_onto_69 : decode cX13_onto 69 = .ok (.iadd, 1) := dz0 dzo96 23 dzbX13_onto_46 rfl
theorem dzbX13_onto_70 : dzB cX13_onto 70 [167, 0, 5, 16, 254, 172, 28, 4, 160, 0, 25, 29, 4, 96, 42, 180, 1, 13, 180, 0, 158, 162, 0, 9] := by decide +kernel
theorem dX13_onto_70 : decode cX13_onto 70 = .ok (.goto 5, 3) := dz4 dzo167 0 0 5 5 rfl dzbX13_onto_70 rfl
theorem dX13_onto_73 : decode cX13_onto 73 = .ok (.bipush (-2), 2) := dz3 dzo16 3 254 (-2) rfl dzbX13_onto_70 rfl
theorem dX13_onto_75 : decode cX13_onto 75 = .ok (.ireturn, 1) := dz0 dzo172 5 dzbX13_onto_70 rfl
theorem dX13_onto_76 : decode cX13_onto 76 = .ok (.iload_n 2, 1) := dz0 dzo28 6 dzbX13_onto_70 rfl
theorem dX13_onto_77 : decode cX13_onto 77 = .ok (.iconst 1, 1) := dz0 dzo4 7 dzbX13_onto_70 rfl
theorem dX13_onto_78 : decode cX13_onto 78 = .ok (.if_icmp .ne 25, 3) := dz4 dzo160 8 0 25 25 rfl dzbX13_onto_70 rfl
theorem dX13_onto_81 : decode cX13_onto 81 = .ok (.iload_n 3, 1) := dz0 dzo29 11 dzbX13_onto_70 rfl
theorem dX13_onto_82 : decode cX13_onto 82 = .ok (.iconst 1, 1) := dz0 dzo4 12 dzbX13_onto_70 rfl
theorem dX13_onto_83 : decode cX13_onto 83 = .ok (.iadd, 1) := dz0 dzo96 13 dzbX13_onto_70 rfl
theorem dX13_onto_84 : decode cX13_onto 84 = .ok (.aload_n 0, 1) := dz0 dzo42 14 dzbX13_onto_70 rfl
theorem dX13_onto_85 : decode cX13_onto 85 = .ok (.getfield 269, 3) := dz2 dzo180 15 1 13 dzbX13_onto_70 rfl
theorem dX13_onto_88 : decode cX13_onto 88 = .ok (.getfield 158, 3) := dz2 dzo180 18 0 158 dzbX13_onto_70 rfl
theorem dX13_onto_91 : decode cX13_onto 91 = .ok (.if_icmp .ge 9, 3) := dz4 dzo162 21 0 9 9 rfl dzbX13_onto_70 rfl
theorem dzbX13_onto_94 : dzB cX13_onto 94 [27, 4, 96, 167, 0, 5, 16, 254, 172, 29, 158, 0, 9, 27, 4, 100, 167, 0, 5, 16, 254, 172] := by decide +kernel
theorem dX13_onto_94 : decode cX13_onto 94 = .ok (.iload_n 1, 1) := dz0 dzo27 0 dzbX13_onto_94 rfl
theorem dX13_onto_95 : decode cX13_onto 95 = .ok (.iconst 1, 1) := dz0 dzo4 1 dzbX13_onto_94 rfl
theorem dX13_onto_96 : decode cX13_onto 96 = .ok (.iadd, 1) := dz0 dzo96 2 dzbX13_onto_94 rfl
theorem dX13_onto_97 : decode cX13_onto 97 = .ok (.goto 5, 3) := dz4 dzo167 3 0 5 5 rfl dzbX13_onto_94 rfl
theorem dX13_onto_100 : decode cX13_onto 100 = .ok (.bipush (-2), 2) := dz3 dzo16 6 254 (-2) rfl dzbX13_onto_94 rfl
theorem dX13_onto_102 : decode cX13_onto 102 = .ok (.ireturn, 1) := dz0 dzo172 8 dzbX13_onto_94 rfl
theorem dX13_onto_103 : decode cX13_onto 103 = .ok (.iload_n 3, 1) := dz0 dzo29 9 dzbX13_onto_94 rfl
theorem dX13_onto_104 : decode cX13_onto 104 = .ok (.ifCond .le 9, 3) := dz4 dzo158 10 0 9 9 rfl dzbX13_onto_94 rfl
theorem dX13_onto_107 : decode cX13_onto 107 = .ok (.iload_n 1, 1) := dz0 dzo27 13 dzbX13_onto_94 rfl
theorem dX13_onto_108 : decode cX13_onto 108 = .ok (.iconst 1, 1) := dz0 dzo4 14 dzbX13_onto_94 rfl
theorem dX13_onto_109 : decode cX13_onto 109 = .ok (.isub, 1) := dz0 dzo100 15 dzbX13_onto_94 rfl
theorem dX13_onto_110 : decode cX13_onto 110 = .ok (.goto 5, 3) := dz4 dzo167 16 0 5 5 rfl dzbX13_onto_94 rfl
theorem dX13_onto_113 : decode cX13_onto 113 = .ok (.bipush (-2), 2) := dz3 dzo16 19 254 (-2) rfl dzbX13_onto_94 rfl
theorem dX13_onto_115 : decode cX13_onto 115 = .ok (.ireturn, 1) := dz0 dzo172 21 dzbX13_onto_94 rfl
theorem dzbX13_ontoDitch_0 : dzB cX13_ontoDitch 0 [26] := by decide +kernel
theorem dX13_ontoDitch_0 : decode cX13_ontoDitch 0 = .ok (.iload_n 0, 1) := dz0 dzo26 0 dzbX13_ontoDitch_0 rfl
theorem dX13_ontoDitch_1 : decode cX13_ontoDitch 1 = .ok (.tableswitch 52 0 2 #[27, 47, 50], 27) := by decide +kernel
theorem dzbX13_ontoDitch_28 : dzB cX13_ontoDitch 28 [27, 5, 160, 0, 7, 6, 167, 0, 13, 27, 154, 0, 8, 16, 254, 167, 0, 4, 4, 172, 16, 254, 172, 4] := by decide +kernel
theorem dX13_ontoDitch_28 : decode cX13_ontoDitch 28 = .ok (.iload_n 1, 1) := dz0 dzo27 0 dzbX13_ontoDitch_28 rfl
theorem dX13_ontoDitch_29 : decode cX13_ontoDitch 29 = .ok (.iconst 2, 1) := dz0 dzo5 1 dzbX13_ontoDitch_28 rfl
theorem dX13_ontoDitch_30 : decode cX13_ontoDitch 30 = .ok (.if_icmp .ne 7, 3) := dz4 dzo160 2 0 7 7 rfl dzbX13_ontoDitch_28 rfl
theorem dX13_ontoDitch_33 : decode cX13_ontoDitch 33 = .ok (.iconst 3, 1) := dz0 dzo6 5 dzbX13_ontoDitch_28 rfl
theorem dX13_ontoDitch_34 : decode cX13_ontoDitch 34 = .ok (.goto 13, 3) := dz4 dzo167 6 0 13 13 rfl dzbX13_ontoDitch_28 rfl
theorem dX13_ontoDitch_37 : decode cX13_ontoDitch 37 = .ok (.iload_n 1, 1) := dz0 dzo27 9 dzbX13_ontoDitch_28 rfl
theorem dX13_ontoDitch_38 : decode cX13_ontoDitch 38 = .ok (.ifCond .ne 8, 3) := dz4 dzo154 10 0 8 8 rfl dzbX13_ontoDitch_28 rfl
theorem dX13_ontoDitch_41 : decode cX13_ontoDitch 41 = .ok (.bipush (-2), 2) := dz3 dzo16 13 254 (-2) rfl dzbX13_ontoDitch_28 rfl
theorem dX13_ontoDitch_43 : decode cX13_ontoDitch 43 = .ok (.goto 4, 3) := dz4 dzo167 15 0 4 4 rfl dzbX13_ontoDitch_28 rfl
theorem dX13_ontoDitch_46 : decode cX13_ontoDitch 46 = .ok (.iconst 1, 1) := dz0 dzo4 18 dzbX13_ontoDitch_28 rfl
theorem dX13_ontoDitch_47 : decode cX13_ontoDitch 47 = .ok (.ireturn, 1) := dz0 dzo172 19 dzbX13_ontoDitch_28 rfl
theorem dX13_ontoDitch_48 : decode cX13_ontoDitch 48 = .ok (.bipush (-2), 2) := dz3 dzo16 20 254 (-2) rfl dzbX13_ontoDitch_28 rfl
theorem dX13_ontoDitch_50 : decode cX13_ontoDitch 50 = .ok (.ireturn, 1) := dz0 dzo172 22 dzbX13_ontoDitch_28 rfl
theorem dX13_ontoDitch_51 : decode cX13_ontoDitch 51 = .ok (.iconst 1, 1) := dz0 dzo4 23 dzbX13_ontoDitch_28 rfl
theorem dzbX13_ontoDitch_52 : dzB cX13_ontoDitch 52 [172, 27, 5, 160, 0, 7, 5, 167, 0, 12, 27, 154, 0, 7, 7, 167, 0, 4, 4, 172] := by decide +kernel
theorem dX13_ontoDitch_52 : decode cX13_ontoDitch 52 = .ok (.ireturn, 1) := dz0 dzo172 0 dzbX13_ontoDitch_52 rfl
theorem dX13_ontoDitch_53 : decode cX13_ontoDitch 53 = .ok (.iload_n 1, 1) := dz0 dzo27 1 dzbX13_ontoDitch_52 rfl
theorem dX13_ontoDitch_54 : decode cX13_ontoDitch 54 = .ok (.iconst 2, 1) := dz0 dzo5 2 dzbX13_ontoDitch_52 rfl
theorem dX13_ontoDitch_55 : decode cX13_ontoDitch 55 = .ok (.if_icmp .ne 7, 3) := dz4 dzo160 3 0 7 7 rfl dzbX13_ontoDitch_52 rfl
theorem dX13_ontoDitch_58 : decode cX13_ontoDitch 58 = .ok (.iconst 2, 1) := dz0 dzo5 6 dzbX13_ontoDitch_52 rfl
theorem dX13_ontoDitch_59 : decode cX13_ontoDitch 59 = .ok (.goto 12, 3) := dz4 dzo167 7 0 12 12 rfl dzbX13_ontoDitch_52 rfl
theorem dX13_ontoDitch_62 : decode cX13_ontoDitch 62 = .ok (.iload_n 1, 1) := dz0 dzo27 10 dzbX13_ontoDitch_52 rfl
theorem dX13_ontoDitch_63 : decode cX13_ontoDitch 63 = .ok (.ifCond .ne 7, 3) := dz4 dzo154 11 0 7 7 rfl dzbX13_ontoDitch_52 rfl
theorem dX13_ontoDitch_66 : decode cX13_ontoDitch 66 = .ok (.iconst 4, 1) := dz0 dzo7 14 dzbX13_ontoDitch_52 rfl
theorem dX13_ontoDitch_67 : decode cX13_ontoDitch 67 = .ok (.goto 4, 3) := dz4 dzo167 15 0 4 4 rfl dzbX13_ontoDitch_52 rfl
theorem dX13_ontoDitch_70 : decode cX13_ontoDitch 70 = .ok (.iconst 1, 1) := dz0 dzo4 18 dzbX13_ontoDitch_52 rfl
theorem dX13_ontoDitch_71 : decode cX13_ontoDitch 71 = .ok (.ireturn, 1) := dz0 dzo172 19 dzbX13_ontoDitch_52 rfl
theorem dzbX13_packed_0 : dzB cX13_packed 0 [9, 64, 3, 62, 29, 42, 182, 0, 62, 162, 0, 27, 20, 0, 68, 31, 105, 42, 29, 182, 0, 70, 16, 97] := by decide +kernel
theorem dX13_packed_0 : decode cX13_packed 0 = .ok (.lconst 0, 1) := dz0 dzo9 0 dzbX13_packed_0 rfl
theorem dX13_packed_1 : decode cX13_packed 1 = .ok (.lstore_n 1, 1) := dz0 dzo64 1 dzbX13_packed_0 rfl
theorem dX13_packed_2 : decode cX13_packed 2 = .ok (.iconst 0, 1) := dz0 dzo3 2 dzbX13_packed_0 rfl
theorem dX13_packed_3 : decode cX13_packed 3 = .ok (.istore_n 3, 1) := dz0 dzo62 3 dzbX13_packed_0 rfl
theorem dX13_packed_4 : decode cX13_packed 4 = .ok (.iload_n 3, 1) := dz0 dzo29 4 dzbX13_packed_0 rfl
theorem dX13_packed_5 : decode cX13_packed 5 = .ok (.aload_n 0, 1) := dz0 dzo42 5 dzbX13_packed_0 rfl
theorem dX13_packed_6 : decode cX13_packed 6 = .ok (.invokevirtual 62, 3) := dz2 dzo182 6 0 62 dzbX13_packed_0 rfl
theorem dX13_packed_9 : decode cX13_packed 9 = .ok (.if_icmp .ge 27, 3) := dz4 dzo162 9 0 27 27 rfl dzbX13_packed_0 rfl
theorem dX13_packed_12 : decode cX13_packed 12 = .ok (.ldc2_w 68, 3) := dz2 dzo20 12 0 68 dzbX13_packed_0 rfl
theorem dX13_packed_15 : decode cX13_packed 15 = .ok (.lload_n 1, 1) := dz0 dzo31 15 dzbX13_packed_0 rfl
theorem dX13_packed_16 : decode cX13_packed 16 = .ok (.lmul, 1) := dz0 dzo105 16 dzbX13_packed_0 rfl
theorem dX13_packed_17 : decode cX13_packed 17 = .ok (.aload_n 0, 1) := dz0 dzo42 17 dzbX13_packed_0 rfl
theorem dX13_packed_18 : decode cX13_packed 18 = .ok (.iload_n 3, 1) := dz0 dzo29 18 dzbX13_packed_0 rfl
theorem dX13_packed_19 : decode cX13_packed 19 = .ok (.invokevirtual 70, 3) := dz2 dzo182 19 0 70 dzbX13_packed_0 rfl
theorem dX13_packed_22 : decode cX13_packed 22 = .ok (.bipush 97, 2) := dz3 dzo16 22 97 97 rfl dzbX13_packed_0 rfl
theorem dzbX13_packed_24 : dzB cX13_packed 24 [100, 4, 96, 133, 97, 64, 132, 3, 1, 167, 255, 227, 31, 173] := by decide +kernel
theorem dX13_packed_24 : decode cX13_packed 24 = .ok (.isub, 1) := dz0 dzo100 0 dzbX13_packed_24 rfl
theorem dX13_packed_25 : decode cX13_packed 25 = .ok (.iconst 1, 1) := dz0 dzo4 1 dzbX13_packed_24 rfl
theorem dX13_packed_26 : decode cX13_packed 26 = .ok (.iadd, 1) := dz0 dzo96 2 dzbX13_packed_24 rfl
theorem dX13_packed_27 : decode cX13_packed 27 = .ok (.i2l, 1) := dz0 dzo133 3 dzbX13_packed_24 rfl
theorem dX13_packed_28 : decode cX13_packed 28 = .ok (.ladd, 1) := dz0 dzo97 4 dzbX13_packed_24 rfl
theorem dX13_packed_29 : decode cX13_packed 29 = .ok (.lstore_n 1, 1) := dz0 dzo64 5 dzbX13_packed_24 rfl
theorem dX13_packed_30 : decode cX13_packed 30 = .ok (.iinc 3 1, 3) := dz5 dzo132 6 3 1 1 rfl dzbX13_packed_24 rfl
theorem dX13_packed_33 : decode cX13_packed 33 = .ok (.goto (-29), 3) := dz4 dzo167 9 255 227 (-29) rfl dzbX13_packed_24 rfl
theorem dX13_packed_36 : decode cX13_packed 36 = .ok (.lload_n 1, 1) := dz0 dzo31 12 dzbX13_packed_24 rfl
theorem dX13_packed_37 : decode cX13_packed 37 = .ok (.lreturn, 1) := dz0 dzo173 13 dzbX13_packed_24 rfl
theorem dzbX13_park_0 : dzB cX13_park 0 [42, 3, 181, 0, 42, 27, 155, 0, 11, 27, 42, 180, 1, 6, 164, 0, 9, 42, 5, 182, 0, 48, 172, 42] := by decide +kernel
theorem dX13_park_0 : decode cX13_park 0 = .ok (.aload_n 0, 1) := dz0 dzo42 0 dzbX13_park_0 rfl
theorem dX13_park_1 : decode cX13_park 1 = .ok (.iconst 0, 1) := dz0 dzo3 1 dzbX13_park_0 rfl
theorem dX13_park_2 : decode cX13_park 2 = .ok (.putfield 42, 3) := dz2 dzo181 2 0 42 dzbX13_park_0 rfl
theorem dX13_park_5 : decode cX13_park 5 = .ok (.iload_n 1, 1) := dz0 dzo27 5 dzbX13_park_0 rfl
theorem dX13_park_6 : decode cX13_park 6 = .ok (.ifCond .lt 11, 3) := dz4 dzo155 6 0 11 11 rfl dzbX13_park_0 rfl
theorem dX13_park_9 : decode cX13_park 9 = .ok (.iload_n 1, 1) := dz0 dzo27 9 dzbX13_park_0 rfl
theorem dX13_park_10 : decode cX13_park 10 = .ok (.aload_n 0, 1) := dz0 dzo42 10 dzbX13_park_0 rfl
theorem dX13_park_11 : decode cX13_park 11 = .ok (.getfield 262, 3) := dz2 dzo180 11 1 6 dzbX13_park_0 rfl
theorem dX13_park_14 : decode cX13_park 14 = .ok (.if_icmp .le 9, 3) := dz4 dzo164 14 0 9 9 rfl dzbX13_park_0 rfl
theorem dX13_park_17 : decode cX13_park 17 = .ok (.aload_n 0, 1) := dz0 dzo42 17 dzbX13_park_0 rfl
theorem dX13_park_18 : decode cX13_park 18 = .ok (.iconst 2, 1) := dz0 dzo5 18 dzbX13_park_0 rfl
theorem dX13_park_19 : decode cX13_park 19 = .ok (.invokevirtual 48, 3) := dz2 dzo182 19 0 48 dzbX13_park_0 rfl
theorem dX13_park_22 : decode cX13_park 22 = .ok (.ireturn, 1) := dz0 dzo172 22 dzbX13_park_0 rfl
theorem dX13_park_23 : decode cX13_park 23 = .ok (.aload_n 0, 1) := dz0 dzo42 23 dzbX13_park_0 rfl
theorem dzbX13_park_24 : dzB cX13_park 24 [27, 181, 0, 59, 42, 3, 181, 1, 6, 42, 3, 181, 0, 77, 42, 3, 181, 0, 103, 42, 187, 0, 159, 89] := by decide +kernel
theorem dX13_park_24 : decode cX13_park 24 = .ok (.iload_n 1, 1) := dz0 dzo27 0 dzbX13_park_24 rfl
theorem dX13_park_25 : decode cX13_park 25 = .ok (.putfield 59, 3) := dz2 dzo181 1 0 59 dzbX13_park_24 rfl
theorem dX13_park_28 : decode cX13_park 28 = .ok (.aload_n 0, 1) := dz0 dzo42 4 dzbX13_park_24 rfl
theorem dX13_park_29 : decode cX13_park 29 = .ok (.iconst 0, 1) := dz0 dzo3 5 dzbX13_park_24 rfl
theorem dX13_park_30 : decode cX13_park 30 = .ok (.putfield 262, 3) := dz2 dzo181 6 1 6 dzbX13_park_24 rfl
theorem dX13_park_33 : decode cX13_park 33 = .ok (.aload_n 0, 1) := dz0 dzo42 9 dzbX13_park_24 rfl
theorem dX13_park_34 : decode cX13_park 34 = .ok (.iconst 0, 1) := dz0 dzo3 10 dzbX13_park_24 rfl
theorem dX13_park_35 : decode cX13_park 35 = .ok (.putfield 77, 3) := dz2 dzo181 11 0 77 dzbX13_park_24 rfl
theorem dX13_park_38 : decode cX13_park 38 = .ok (.aload_n 0, 1) := dz0 dzo42 14 dzbX13_park_24 rfl
theorem dX13_park_39 : decode cX13_park 39 = .ok (.iconst 0, 1) := dz0 dzo3 15 dzbX13_park_24 rfl
theorem dX13_park_40 : decode cX13_park 40 = .ok (.putfield 103, 3) := dz2 dzo181 16 0 103 dzbX13_park_24 rfl
theorem dX13_park_43 : decode cX13_park 43 = .ok (.aload_n 0, 1) := dz0 dzo42 19 dzbX13_park_24 rfl
theorem dX13_park_44 : decode cX13_park 44 = .ok (.new 159, 3) := dz2 dzo187 20 0 159 dzbX13_park_24 rfl
theorem dX13_park_47 : decode cX13_park 47 = .ok (.dup, 1) := dz0 dzo89 23 dzbX13_park_24 rfl
theorem dzbX13_park_48 : dzB cX13_park 48 [183, 1, 9, 181, 0, 154, 42, 3, 181, 0, 74, 42, 182, 0, 113, 42, 182, 1, 10, 42, 180, 0, 103] := by decide +kernel
theorem dX13_park_48 : decode cX13_park 48 = .ok (.invokespecial 265, 3) := dz2 dzo183 0 1 9 dzbX13_park_48 rfl
theorem dX13_park_51 : decode cX13_park 51 = .ok (.putfield 154, 3) := dz2 dzo181 3 0 154 dzbX13_park_48 rfl
theorem dX13_park_54 : decode cX13_park 54 = .ok (.aload_n 0, 1) := dz0 dzo42 6 dzbX13_park_48 rfl
theorem dX13_park_55 : decode cX13_park 55 = .ok (.iconst 0, 1) := dz0 dzo3 7 dzbX13_park_48 rfl
theorem dX13_park_56 : decode cX13_park 56 = .ok (.putfield 74, 3) := dz2 dzo181 8 0 74 dzbX13_park_48 rfl
theorem dX13_park_59 : decode cX13_park 59 = .ok (.aload_n 0, 1) := dz0 dzo42 11 dzbX13_park_48 rfl
theorem dX13_park_60 : decode cX13_park 60 = .ok (.invokevirtual 113, 3) := dz2 dzo182 12 0 113 dzbX13_park_48 rfl
theorem dX13_park_63 : decode cX13_park 63 = .ok (.aload_n 0, 1) := dz0 dzo42 15 dzbX13_park_48 rfl
theorem dX13_park_64 : decode cX13_park 64 = .ok (.invokevirtual 266, 3) := dz2 dzo182 16 1 10 dzbX13_park_48 rfl
theorem dX13_park_67 : decode cX13_park 67 = .ok (.aload_n 0, 1) := dz0 dzo42 19 dzbX13_park_48 rfl
theorem dX13_park_68 : decode cX13_park 68 = .ok (.getfield 103, 3) := dz2 dzo180 20 0 103 dzbX13_park_48 rfl
theorem dzbX13_park_71 : dzB cX13_park 71 [158, 0, 18, 42, 7, 181, 0, 45, 42, 42, 180, 0, 106, 181, 0, 9, 2, 172, 42, 42, 180, 0, 154] := by decide +kernel
theorem dX13_park_71 : decode cX13_park 71 = .ok (.ifCond .le 18, 3) := dz4 dzo158 0 0 18 18 rfl dzbX13_park_71 rfl
theorem dX13_park_74 : decode cX13_park 74 = .ok (.aload_n 0, 1) := dz0 dzo42 3 dzbX13_park_71 rfl
theorem dX13_park_75 : decode cX13_park 75 = .ok (.iconst 4, 1) := dz0 dzo7 4 dzbX13_park_71 rfl
theorem dX13_park_76 : decode cX13_park 76 = .ok (.putfield 45, 3) := dz2 dzo181 5 0 45 dzbX13_park_71 rfl
theorem dX13_park_79 : decode cX13_park 79 = .ok (.aload_n 0, 1) := dz0 dzo42 8 dzbX13_park_71 rfl
theorem dX13_park_80 : decode cX13_park 80 = .ok (.aload_n 0, 1) := dz0 dzo42 9 dzbX13_park_71 rfl
theorem dX13_park_81 : decode cX13_park 81 = .ok (.getfield 106, 3) := dz2 dzo180 10 0 106 dzbX13_park_71 rfl
theorem dX13_park_84 : decode cX13_park 84 = .ok (.putfield 9, 3) := dz2 dzo181 13 0 9 dzbX13_park_71 rfl
theorem dX13_park_87 : decode cX13_park 87 = .ok (.iconst (-1), 1) := dz0 dzo2 16 dzbX13_park_71 rfl
theorem dX13_park_88 : decode cX13_park 88 = .ok (.ireturn, 1) := dz0 dzo172 17 dzbX13_park_71 rfl
theorem dX13_park_89 : decode cX13_park 89 = .ok (.aload_n 0, 1) := dz0 dzo42 18 dzbX13_park_71 rfl
theorem dX13_park_90 : decode cX13_park 90 = .ok (.aload_n 0, 1) := dz0 dzo42 19 dzbX13_park_71 rfl
theorem dX13_park_91 : decode cX13_park 91 = .ok (.getfield 154, 3) := dz2 dzo180 20 0 154 dzbX13_park_71 rfl
theorem dzbX13_park_94 : dzB cX13_park 94 [181, 1, 13, 3, 61, 28, 16, 32, 162, 0, 16, 42, 180, 0, 17, 28, 3, 79, 132, 2, 1, 167, 255, 240] := by decide +kernel
theorem dX13_park_94 : decode cX13_park 94 = .ok (.putfield 269, 3) := dz2 dzo181 0 1 13 dzbX13_park_94 rfl
theorem dX13_park_97 : decode cX13_park 97 = .ok (.iconst 0, 1) := dz0 dzo3 3 dzbX13_park_94 rfl
theorem dX13_park_98 : decode cX13_park 98 = .ok (.istore_n 2, 1) := dz0 dzo61 4 dzbX13_park_94 rfl
theorem dX13_park_99 : decode cX13_park 99 = .ok (.iload_n 2, 1) := dz0 dzo28 5 dzbX13_park_94 rfl
theorem dX13_park_100 : decode cX13_park 100 = .ok (.bipush 32, 2) := dz3 dzo16 6 32 32 rfl dzbX13_park_94 rfl
theorem dX13_park_102 : decode cX13_park 102 = .ok (.if_icmp .ge 16, 3) := dz4 dzo162 8 0 16 16 rfl dzbX13_park_94 rfl
theorem dX13_park_105 : decode cX13_park 105 = .ok (.aload_n 0, 1) := dz0 dzo42 11 dzbX13_park_94 rfl
theorem dX13_park_106 : decode cX13_park 106 = .ok (.getfield 17, 3) := dz2 dzo180 12 0 17 dzbX13_park_94 rfl
theorem dX13_park_109 : decode cX13_park 109 = .ok (.iload_n 2, 1) := dz0 dzo28 15 dzbX13_park_94 rfl
theorem dX13_park_110 : decode cX13_park 110 = .ok (.iconst 0, 1) := dz0 dzo3 16 dzbX13_park_94 rfl
theorem dX13_park_111 : decode cX13_park 111 = .ok (.iastore, 1) := dz0 dzo79 17 dzbX13_park_94 rfl
theorem dX13_park_112 : decode cX13_park 112 = .ok (.iinc 2 1, 3) := dz5 dzo132 18 2 1 1 rfl dzbX13_park_94 rfl
theorem dX13_park_115 : decode cX13_park 115 = .ok (.goto (-16), 3) := dz4 dzo167 21 255 240 (-16) rfl dzbX13_park_94 rfl
theorem dzbX13_park_118 : dzB cX13_park 118 [3, 61, 28, 16, 20, 162, 0, 24, 42, 180, 0, 17, 28, 42, 180, 1, 13, 180, 0, 201, 28, 46, 79] := by decide +kernel
theorem dX13_park_118 : decode cX13_park 118 = .ok (.iconst 0, 1) := dz0 dzo3 0 dzbX13_park_118 rfl
theorem dX13_park_119 : decode cX13_park 119 = .ok (.istore_n 2, 1) := dz0 dzo61 1 dzbX13_park_118 rfl
theorem dX13_park_120 : decode cX13_park 120 = .ok (.iload_n 2, 1) := dz0 dzo28 2 dzbX13_park_118 rfl
theorem dX13_park_121 : decode cX13_park 121 = .ok (.bipush 20, 2) := dz3 dzo16 3 20 20 rfl dzbX13_park_118 rfl
theorem dX13_park_123 : decode cX13_park 123 = .ok (.if_icmp .ge 24, 3) := dz4 dzo162 5 0 24 24 rfl dzbX13_park_118 rfl
theorem dX13_park_126 : decode cX13_park 126 = .ok (.aload_n 0, 1) := dz0 dzo42 8 dzbX13_park_118 rfl
theorem dX13_park_127 : decode cX13_park 127 = .ok (.getfield 17, 3) := dz2 dzo180 9 0 17 dzbX13_park_118 rfl
theorem dX13_park_130 : decode cX13_park 130 = .ok (.iload_n 2, 1) := dz0 dzo28 12 dzbX13_park_118 rfl
theorem dX13_park_131 : decode cX13_park 131 = .ok (.aload_n 0, 1) := dz0 dzo42 13 dzbX13_park_118 rfl
theorem dX13_park_132 : decode cX13_park 132 = .ok (.getfield 269, 3) := dz2 dzo180 14 1 13 dzbX13_park_118 rfl
theorem dX13_park_135 : decode cX13_park 135 = .ok (.getfield 201, 3) := dz2 dzo180 17 0 201 dzbX13_park_118 rfl
theorem dX13_park_138 : decode cX13_park 138 = .ok (.iload_n 2, 1) := dz0 dzo28 20 dzbX13_park_118 rfl
theorem dX13_park_139 : decode cX13_park 139 = .ok (.iaload, 1) := dz0 dzo46 21 dzbX13_park_118 rfl
theorem dX13_park_140 : decode cX13_park 140 = .ok (.iastore, 1) := dz0 dzo79 22 dzbX13_park_118 rfl
theorem dzbX13_park_141 : dzB cX13_park 141 [132, 2, 1, 167, 255, 232, 3, 61, 28, 42, 180, 1, 13, 180, 0, 206, 162, 0, 27, 42, 180, 0, 17] := by decide +kernel
theorem dX13_park_141 : decode cX13_park 141 = .ok (.iinc 2 1, 3) := dz5 dzo132 0 2 1 1 rfl dzbX13_park_141 rfl
theorem dX13_park_144 : decode cX13_park 144 = .ok (.goto (-24), 3) := dz4 dzo167 3 255 232 (-24) rfl dzbX13_park_141 rfl
theorem dX13_park_147 : decode cX13_park 147 = .ok (.iconst 0, 1) := dz0 dzo3 6 dzbX13_park_141 rfl
theorem dX13_park_148 : decode cX13_park 148 = .ok (.istore_n 2, 1) := dz0 dzo61 7 dzbX13_park_141 rfl
theorem dX13_park_149 : decode cX13_park 149 = .ok (.iload_n 2, 1) := dz0 dzo28 8 dzbX13_park_141 rfl
theorem dX13_park_150 : decode cX13_park 150 = .ok (.aload_n 0, 1) := dz0 dzo42 9 dzbX13_park_141 rfl
theorem dX13_park_151 : decode cX13_park 151 = .ok (.getfield 269, 3) := dz2 dzo180 10 1 13 dzbX13_park_141 rfl
theorem dX13_park_154 : decode cX13_park 154 = .ok (.getfield 206, 3) := dz2 dzo180 13 0 206 dzbX13_park_141 rfl
theorem dX13_park_157 : decode cX13_park 157 = .ok (.if_icmp .ge 27, 3) := dz4 dzo162 16 0 27 27 rfl dzbX13_park_141 rfl
theorem dX13_park_160 : decode cX13_park 160 = .ok (.aload_n 0, 1) := dz0 dzo42 19 dzbX13_park_141 rfl
theorem dX13_park_161 : decode cX13_park 161 = .ok (.getfield 17, 3) := dz2 dzo180 20 0 17 dzbX13_park_141 rfl
theorem dzbX13_park_164 : dzB cX13_park 164 [16, 20, 28, 96, 42, 180, 1, 13, 180, 0, 241, 28, 46, 79, 132, 2, 1, 167, 255, 224, 42, 3] := by decide +kernel
theorem dX13_park_164 : decode cX13_park 164 = .ok (.bipush 20, 2) := dz3 dzo16 0 20 20 rfl dzbX13_park_164 rfl
theorem dX13_park_166 : decode cX13_park 166 = .ok (.iload_n 2, 1) := dz0 dzo28 2 dzbX13_park_164 rfl
theorem dX13_park_167 : decode cX13_park 167 = .ok (.iadd, 1) := dz0 dzo96 3 dzbX13_park_164 rfl
theorem dX13_park_168 : decode cX13_park 168 = .ok (.aload_n 0, 1) := dz0 dzo42 4 dzbX13_park_164 rfl
theorem dX13_park_169 : decode cX13_park 169 = .ok (.getfield 269, 3) := dz2 dzo180 5 1 13 dzbX13_park_164 rfl
theorem dX13_park_172 : decode cX13_park 172 = .ok (.getfield 241, 3) := dz2 dzo180 8 0 241 dzbX13_park_164 rfl
theorem dX13_park_175 : decode cX13_park 175 = .ok (.iload_n 2, 1) := dz0 dzo28 11 dzbX13_park_164 rfl
theorem dX13_park_176 : decode cX13_park 176 = .ok (.iaload, 1) := dz0 dzo46 12 dzbX13_park_164 rfl
theorem dX13_park_177 : decode cX13_park 177 = .ok (.iastore, 1) := dz0 dzo79 13 dzbX13_park_164 rfl
theorem dX13_park_178 : decode cX13_park 178 = .ok (.iinc 2 1, 3) := dz5 dzo132 14 2 1 1 rfl dzbX13_park_164 rfl
theorem dX13_park_181 : decode cX13_park 181 = .ok (.goto (-32), 3) := dz4 dzo167 17 255 224 (-32) rfl dzbX13_park_164 rfl
theorem dX13_park_184 : decode cX13_park 184 = .ok (.aload_n 0, 1) := dz0 dzo42 20 dzbX13_park_164 rfl
theorem dX13_park_185 : decode cX13_park 185 = .ok (.iconst 0, 1) := dz0 dzo3 21 dzbX13_park_164 rfl
theorem dzbX13_park_186 : dzB cX13_park 186 [181, 1, 15, 42, 3, 181, 1, 18, 42, 42, 182, 1, 21, 182, 0, 52, 172] := by decide +kernel
theorem dX13_park_186 : decode cX13_park 186 = .ok (.putfield 271, 3) := dz2 dzo181 0 1 15 dzbX13_park_186 rfl
theorem dX13_park_189 : decode cX13_park 189 = .ok (.aload_n 0, 1) := dz0 dzo42 3 dzbX13_park_186 rfl
theorem dX13_park_190 : decode cX13_park 190 = .ok (.iconst 0, 1) := dz0 dzo3 4 dzbX13_park_186 rfl
theorem dX13_park_191 : decode cX13_park 191 = .ok (.putfield 274, 3) := dz2 dzo181 5 1 18 dzbX13_park_186 rfl
theorem dX13_park_194 : decode cX13_park 194 = .ok (.aload_n 0, 1) := dz0 dzo42 8 dzbX13_park_186 rfl
theorem dX13_park_195 : decode cX13_park 195 = .ok (.aload_n 0, 1) := dz0 dzo42 9 dzbX13_park_186 rfl
theorem dX13_park_196 : decode cX13_park 196 = .ok (.invokevirtual 277, 3) := dz2 dzo182 10 1 21 dzbX13_park_186 rfl
theorem dX13_park_199 : decode cX13_park 199 = .ok (.invokevirtual 52, 3) := dz2 dzo182 13 0 52 dzbX13_park_186 rfl
theorem dX13_park_202 : decode cX13_park 202 = .ok (.ireturn, 1) := dz0 dzo172 16 dzbX13_park_186 rfl
theorem dzbX13_passers_0 : dzB cX13_passers 0 [42, 3, 181, 0, 42, 42, 27, 182, 1, 46, 154, 0, 9, 42, 4, 182, 0, 48, 172, 42, 182, 1, 61, 3] := by decide +kernel
theorem dX13_passers_0 : decode cX13_passers 0 = .ok (.aload_n 0, 1) := dz0 dzo42 0 dzbX13_passers_0 rfl
theorem dX13_passers_1 : decode cX13_passers 1 = .ok (.iconst 0, 1) := dz0 dzo3 1 dzbX13_passers_0 rfl
theorem dX13_passers_2 : decode cX13_passers 2 = .ok (.putfield 42, 3) := dz2 dzo181 2 0 42 dzbX13_passers_0 rfl
theorem dX13_passers_5 : decode cX13_passers 5 = .ok (.aload_n 0, 1) := dz0 dzo42 5 dzbX13_passers_0 rfl
theorem dX13_passers_6 : decode cX13_passers 6 = .ok (.iload_n 1, 1) := dz0 dzo27 6 dzbX13_passers_0 rfl
theorem dX13_passers_7 : decode cX13_passers 7 = .ok (.invokevirtual 302, 3) := dz2 dzo182 7 1 46 dzbX13_passers_0 rfl
theorem dX13_passers_10 : decode cX13_passers 10 = .ok (.ifCond .ne 9, 3) := dz4 dzo154 10 0 9 9 rfl dzbX13_passers_0 rfl
theorem dX13_passers_13 : decode cX13_passers 13 = .ok (.aload_n 0, 1) := dz0 dzo42 13 dzbX13_passers_0 rfl
theorem dX13_passers_14 : decode cX13_passers 14 = .ok (.iconst 1, 1) := dz0 dzo4 14 dzbX13_passers_0 rfl
theorem dX13_passers_15 : decode cX13_passers 15 = .ok (.invokevirtual 48, 3) := dz2 dzo182 15 0 48 dzbX13_passers_0 rfl
theorem dX13_passers_18 : decode cX13_passers 18 = .ok (.ireturn, 1) := dz0 dzo172 18 dzbX13_passers_0 rfl
theorem dX13_passers_19 : decode cX13_passers 19 = .ok (.aload_n 0, 1) := dz0 dzo42 19 dzbX13_passers_0 rfl
theorem dX13_passers_20 : decode cX13_passers 20 = .ok (.invokevirtual 317, 3) := dz2 dzo182 20 1 61 dzbX13_passers_0 rfl
theorem dX13_passers_23 : decode cX13_passers 23 = .ok (.iconst 0, 1) := dz0 dzo3 23 dzbX13_passers_0 rfl
theorem dzbX13_passers_24 : dzB cX13_passers 24 [61, 3, 62, 29, 42, 180, 1, 13, 180, 0, 206, 162, 0, 55, 42, 29, 3, 182, 1, 111, 154, 0, 6] := by decide +kernel
theorem dX13_passers_24 : decode cX13_passers 24 = .ok (.istore_n 2, 1) := dz0 dzo61 0 dzbX13_passers_24 rfl
theorem dX13_passers_25 : decode cX13_passers 25 = .ok (.iconst 0, 1) := dz0 dzo3 1 dzbX13_passers_24 rfl
theorem dX13_passers_26 : decode cX13_passers 26 = .ok (.istore_n 3, 1) := dz0 dzo62 2 dzbX13_passers_24 rfl
theorem dX13_passers_27 : decode cX13_passers 27 = .ok (.iload_n 3, 1) := dz0 dzo29 3 dzbX13_passers_24 rfl
theorem dX13_passers_28 : decode cX13_passers 28 = .ok (.aload_n 0, 1) := dz0 dzo42 4 dzbX13_passers_24 rfl
theorem dX13_passers_29 : decode cX13_passers 29 = .ok (.getfield 269, 3) := dz2 dzo180 5 1 13 dzbX13_passers_24 rfl
theorem dX13_passers_32 : decode cX13_passers 32 = .ok (.getfield 206, 3) := dz2 dzo180 8 0 206 dzbX13_passers_24 rfl
theorem dX13_passers_35 : decode cX13_passers 35 = .ok (.if_icmp .ge 55, 3) := dz4 dzo162 11 0 55 55 rfl dzbX13_passers_24 rfl
theorem dX13_passers_38 : decode cX13_passers 38 = .ok (.aload_n 0, 1) := dz0 dzo42 14 dzbX13_passers_24 rfl
theorem dX13_passers_39 : decode cX13_passers 39 = .ok (.iload_n 3, 1) := dz0 dzo29 15 dzbX13_passers_24 rfl
theorem dX13_passers_40 : decode cX13_passers 40 = .ok (.iconst 0, 1) := dz0 dzo3 16 dzbX13_passers_24 rfl
theorem dX13_passers_41 : decode cX13_passers 41 = .ok (.invokevirtual 367, 3) := dz2 dzo182 17 1 111 dzbX13_passers_24 rfl
theorem dX13_passers_44 : decode cX13_passers 44 = .ok (.ifCond .ne 6, 3) := dz4 dzo154 20 0 6 6 rfl dzbX13_passers_24 rfl
theorem dzbX13_passers_47 : dzB cX13_passers 47 [167, 0, 37, 3, 54, 4, 21, 4, 17, 0, 200, 163, 0, 26, 42, 180, 0, 36, 21, 4, 46, 27] := by decide +kernel
theorem dX13_passers_47 : decode cX13_passers 47 = .ok (.goto 37, 3) := dz4 dzo167 0 0 37 37 rfl dzbX13_passers_47 rfl
theorem dX13_passers_50 : decode cX13_passers 50 = .ok (.iconst 0, 1) := dz0 dzo3 3 dzbX13_passers_47 rfl
theorem dX13_passers_51 : decode cX13_passers 51 = .ok (.istore 4, 2) := dz1 dzo54 4 4 dzbX13_passers_47 rfl
theorem dX13_passers_53 : decode cX13_passers 53 = .ok (.iload 4, 2) := dz1 dzo21 6 4 dzbX13_passers_47 rfl
theorem dX13_passers_55 : decode cX13_passers 55 = .ok (.sipush 200, 3) := dz4 dzo17 8 0 200 200 rfl dzbX13_passers_47 rfl
theorem dX13_passers_58 : decode cX13_passers 58 = .ok (.if_icmp .gt 26, 3) := dz4 dzo163 11 0 26 26 rfl dzbX13_passers_47 rfl
theorem dX13_passers_61 : decode cX13_passers 61 = .ok (.aload_n 0, 1) := dz0 dzo42 14 dzbX13_passers_47 rfl
theorem dX13_passers_62 : decode cX13_passers 62 = .ok (.getfield 36, 3) := dz2 dzo180 15 0 36 dzbX13_passers_47 rfl
theorem dX13_passers_65 : decode cX13_passers 65 = .ok (.iload 4, 2) := dz1 dzo21 18 4 dzbX13_passers_47 rfl
theorem dX13_passers_67 : decode cX13_passers 67 = .ok (.iaload, 1) := dz0 dzo46 20 dzbX13_passers_47 rfl
theorem dX13_passers_68 : decode cX13_passers 68 = .ok (.iload_n 1, 1) := dz0 dzo27 21 dzbX13_passers_47 rfl
theorem dzbX13_passers_69 : dzB cX13_passers 69 [160, 0, 9, 28, 4, 29, 120, 128, 61, 132, 4, 1, 167, 255, 228, 132, 3, 1, 167, 255, 196, 42, 28] := by decide +kernel
theorem dX13_passers_69 : decode cX13_passers 69 = .ok (.if_icmp .ne 9, 3) := dz4 dzo160 0 0 9 9 rfl dzbX13_passers_69 rfl
theorem dX13_passers_72 : decode cX13_passers 72 = .ok (.iload_n 2, 1) := dz0 dzo28 3 dzbX13_passers_69 rfl
theorem dX13_passers_73 : decode cX13_passers 73 = .ok (.iconst 1, 1) := dz0 dzo4 4 dzbX13_passers_69 rfl
theorem dX13_passers_74 : decode cX13_passers 74 = .ok (.iload_n 3, 1) := dz0 dzo29 5 dzbX13_passers_69 rfl
theorem dX13_passers_75 : decode cX13_passers 75 = .ok (.ishl, 1) := dz0 dzo120 6 dzbX13_passers_69 rfl
theorem dX13_passers_76 : decode cX13_passers 76 = .ok (.ior, 1) := dz0 dzo128 7 dzbX13_passers_69 rfl
theorem dX13_passers_77 : decode cX13_passers 77 = .ok (.istore_n 2, 1) := dz0 dzo61 8 dzbX13_passers_69 rfl
theorem dX13_passers_78 : decode cX13_passers 78 = .ok (.iinc 4 1, 3) := dz5 dzo132 9 4 1 1 rfl dzbX13_passers_69 rfl
theorem dX13_passers_81 : decode cX13_passers 81 = .ok (.goto (-28), 3) := dz4 dzo167 12 255 228 (-28) rfl dzbX13_passers_69 rfl
theorem dX13_passers_84 : decode cX13_passers 84 = .ok (.iinc 3 1, 3) := dz5 dzo132 15 3 1 1 rfl dzbX13_passers_69 rfl
theorem dX13_passers_87 : decode cX13_passers 87 = .ok (.goto (-60), 3) := dz4 dzo167 18 255 196 (-60) rfl dzbX13_passers_69 rfl
theorem dX13_passers_90 : decode cX13_passers 90 = .ok (.aload_n 0, 1) := dz0 dzo42 21 dzbX13_passers_69 rfl
theorem dX13_passers_91 : decode cX13_passers 91 = .ok (.iload_n 2, 1) := dz0 dzo28 22 dzbX13_passers_69 rfl
theorem dzbX13_passers_92 : dzB cX13_passers 92 [182, 0, 52, 172] := by decide +kernel
theorem dX13_passers_92 : decode cX13_passers 92 = .ok (.invokevirtual 52, 3) := dz2 dzo182 0 0 52 dzbX13_passers_92 rfl
theorem dX13_passers_95 : decode cX13_passers 95 = .ok (.ireturn, 1) := dz0 dzo172 3 dzbX13_passers_92 rfl
theorem dzbX13_place_0 : dzB cX13_place 0 [42, 3, 181, 0, 42, 42, 27, 182, 1, 46, 153, 0, 12, 28, 3, 6, 184, 0, 124, 154, 0, 9, 42, 4] := by decide +kernel
theorem dX13_place_0 : decode cX13_place 0 = .ok (.aload_n 0, 1) := dz0 dzo42 0 dzbX13_place_0 rfl
theorem dX13_place_1 : decode cX13_place 1 = .ok (.iconst 0, 1) := dz0 dzo3 1 dzbX13_place_0 rfl
theorem dX13_place_2 : decode cX13_place 2 = .ok (.putfield 42, 3) := dz2 dzo181 2 0 42 dzbX13_place_0 rfl
theorem dX13_place_5 : decode cX13_place 5 = .ok (.aload_n 0, 1) := dz0 dzo42 5 dzbX13_place_0 rfl
theorem dX13_place_6 : decode cX13_place 6 = .ok (.iload_n 1, 1) := dz0 dzo27 6 dzbX13_place_0 rfl
theorem dX13_place_7 : decode cX13_place 7 = .ok (.invokevirtual 302, 3) := dz2 dzo182 7 1 46 dzbX13_place_0 rfl
theorem dX13_place_10 : decode cX13_place 10 = .ok (.ifCond .eq 12, 3) := dz4 dzo153 10 0 12 12 rfl dzbX13_place_0 rfl
theorem dX13_place_13 : decode cX13_place 13 = .ok (.iload_n 2, 1) := dz0 dzo28 13 dzbX13_place_0 rfl
theorem dX13_place_14 : decode cX13_place 14 = .ok (.iconst 0, 1) := dz0 dzo3 14 dzbX13_place_0 rfl
theorem dX13_place_15 : decode cX13_place 15 = .ok (.iconst 3, 1) := dz0 dzo6 15 dzbX13_place_0 rfl
theorem dX13_place_16 : decode cX13_place 16 = .ok (.invokestatic 124, 3) := dz2 dzo184 16 0 124 dzbX13_place_0 rfl
theorem dX13_place_19 : decode cX13_place 19 = .ok (.ifCond .ne 9, 3) := dz4 dzo154 19 0 9 9 rfl dzbX13_place_0 rfl
theorem dX13_place_22 : decode cX13_place 22 = .ok (.aload_n 0, 1) := dz0 dzo42 22 dzbX13_place_0 rfl
theorem dX13_place_23 : decode cX13_place 23 = .ok (.iconst 1, 1) := dz0 dzo4 23 dzbX13_place_0 rfl
theorem dzbX13_place_24 : dzB cX13_place 24 [182, 0, 48, 172, 42, 28, 154, 0, 12, 42, 180, 0, 17, 27, 46, 167, 0, 46, 28, 4, 160, 0, 22, 42] := by decide +kernel
theorem dX13_place_24 : decode cX13_place 24 = .ok (.invokevirtual 48, 3) := dz2 dzo182 0 0 48 dzbX13_place_24 rfl
theorem dX13_place_27 : decode cX13_place 27 = .ok (.ireturn, 1) := dz0 dzo172 3 dzbX13_place_24 rfl
theorem dX13_place_28 : decode cX13_place 28 = .ok (.aload_n 0, 1) := dz0 dzo42 4 dzbX13_place_24 rfl
theorem dX13_place_29 : decode cX13_place 29 = .ok (.iload_n 2, 1) := dz0 dzo28 5 dzbX13_place_24 rfl
theorem dX13_place_30 : decode cX13_place 30 = .ok (.ifCond .ne 12, 3) := dz4 dzo154 6 0 12 12 rfl dzbX13_place_24 rfl
theorem dX13_place_33 : decode cX13_place 33 = .ok (.aload_n 0, 1) := dz0 dzo42 9 dzbX13_place_24 rfl
theorem dX13_place_34 : decode cX13_place 34 = .ok (.getfield 17, 3) := dz2 dzo180 10 0 17 dzbX13_place_24 rfl
theorem dX13_place_37 : decode cX13_place 37 = .ok (.iload_n 1, 1) := dz0 dzo27 13 dzbX13_place_24 rfl
theorem dX13_place_38 : decode cX13_place 38 = .ok (.iaload, 1) := dz0 dzo46 14 dzbX13_place_24 rfl
theorem dX13_place_39 : decode cX13_place 39 = .ok (.goto 46, 3) := dz4 dzo167 15 0 46 46 rfl dzbX13_place_24 rfl
theorem dX13_place_42 : decode cX13_place 42 = .ok (.iload_n 2, 1) := dz0 dzo28 18 dzbX13_place_24 rfl
theorem dX13_place_43 : decode cX13_place 43 = .ok (.iconst 1, 1) := dz0 dzo4 19 dzbX13_place_24 rfl
theorem dX13_place_44 : decode cX13_place 44 = .ok (.if_icmp .ne 22, 3) := dz4 dzo160 20 0 22 22 rfl dzbX13_place_24 rfl
theorem dX13_place_47 : decode cX13_place 47 = .ok (.aload_n 0, 1) := dz0 dzo42 23 dzbX13_place_24 rfl
theorem dzbX13_place_48 : dzB cX13_place 48 [180, 1, 13, 27, 182, 1, 49, 153, 0, 7, 4, 167, 0, 26, 3, 167, 0, 22, 28, 5, 160, 0, 11, 42] := by decide +kernel
theorem dX13_place_48 : decode cX13_place 48 = .ok (.getfield 269, 3) := dz2 dzo180 0 1 13 dzbX13_place_48 rfl
theorem dX13_place_51 : decode cX13_place 51 = .ok (.iload_n 1, 1) := dz0 dzo27 3 dzbX13_place_48 rfl
theorem dX13_place_52 : decode cX13_place 52 = .ok (.invokevirtual 305, 3) := dz2 dzo182 4 1 49 dzbX13_place_48 rfl
theorem dX13_place_55 : decode cX13_place 55 = .ok (.ifCond .eq 7, 3) := dz4 dzo153 7 0 7 7 rfl dzbX13_place_48 rfl
theorem dX13_place_58 : decode cX13_place 58 = .ok (.iconst 1, 1) := dz0 dzo4 10 dzbX13_place_48 rfl
theorem dX13_place_59 : decode cX13_place 59 = .ok (.goto 26, 3) := dz4 dzo167 11 0 26 26 rfl dzbX13_place_48 rfl
theorem dX13_place_62 : decode cX13_place 62 = .ok (.iconst 0, 1) := dz0 dzo3 14 dzbX13_place_48 rfl
theorem dX13_place_63 : decode cX13_place 63 = .ok (.goto 22, 3) := dz4 dzo167 15 0 22 22 rfl dzbX13_place_48 rfl
theorem dX13_place_66 : decode cX13_place 66 = .ok (.iload_n 2, 1) := dz0 dzo28 18 dzbX13_place_48 rfl
theorem dX13_place_67 : decode cX13_place 67 = .ok (.iconst 2, 1) := dz0 dzo5 19 dzbX13_place_48 rfl
theorem dX13_place_68 : decode cX13_place 68 = .ok (.if_icmp .ne 11, 3) := dz4 dzo160 20 0 11 11 rfl dzbX13_place_48 rfl
theorem dX13_place_71 : decode cX13_place 71 = .ok (.aload_n 0, 1) := dz0 dzo42 23 dzbX13_place_48 rfl
theorem dzbX13_place_72 : dzB cX13_place 72 [27, 182, 1, 52, 167, 0, 9, 42, 27, 5, 182, 1, 24, 182, 0, 52, 172] := by decide +kernel
theorem dX13_place_72 : decode cX13_place 72 = .ok (.iload_n 1, 1) := dz0 dzo27 0 dzbX13_place_72 rfl
theorem dX13_place_73 : decode cX13_place 73 = .ok (.invokevirtual 308, 3) := dz2 dzo182 1 1 52 dzbX13_place_72 rfl
theorem dX13_place_76 : decode cX13_place 76 = .ok (.goto 9, 3) := dz4 dzo167 4 0 9 9 rfl dzbX13_place_72 rfl
theorem dX13_place_79 : decode cX13_place 79 = .ok (.aload_n 0, 1) := dz0 dzo42 7 dzbX13_place_72 rfl
theorem dX13_place_80 : decode cX13_place 80 = .ok (.iload_n 1, 1) := dz0 dzo27 8 dzbX13_place_72 rfl
theorem dX13_place_81 : decode cX13_place 81 = .ok (.iconst 2, 1) := dz0 dzo5 9 dzbX13_place_72 rfl
theorem dX13_place_82 : decode cX13_place 82 = .ok (.invokevirtual 280, 3) := dz2 dzo182 10 1 24 dzbX13_place_72 rfl
theorem dX13_place_85 : decode cX13_place 85 = .ok (.invokevirtual 52, 3) := dz2 dzo182 13 0 52 dzbX13_place_72 rfl
theorem dX13_place_88 : decode cX13_place 88 = .ok (.ireturn, 1) := dz0 dzo172 16 dzbX13_place_72 rfl
theorem dzbX13_places_0 : dzB cX13_places 0 [42, 180, 1, 13, 180, 0, 158, 42, 180, 1, 13, 180, 0, 166, 104, 172] := by decide +kernel
theorem dX13_places_0 : decode cX13_places 0 = .ok (.aload_n 0, 1) := dz0 dzo42 0 dzbX13_places_0 rfl
theorem dX13_places_1 : decode cX13_places 1 = .ok (.getfield 269, 3) := dz2 dzo180 1 1 13 dzbX13_places_0 rfl
theorem dX13_places_4 : decode cX13_places 4 = .ok (.getfield 158, 3) := dz2 dzo180 4 0 158 dzbX13_places_0 rfl
theorem dX13_places_7 : decode cX13_places 7 = .ok (.aload_n 0, 1) := dz0 dzo42 7 dzbX13_places_0 rfl
theorem dX13_places_8 : decode cX13_places 8 = .ok (.getfield 269, 3) := dz2 dzo180 8 1 13 dzbX13_places_0 rfl
theorem dX13_places_11 : decode cX13_places 11 = .ok (.getfield 166, 3) := dz2 dzo180 11 0 166 dzbX13_places_0 rfl
theorem dX13_places_14 : decode cX13_places 14 = .ok (.imul, 1) := dz0 dzo104 14 dzbX13_places_0 rfl
theorem dX13_places_15 : decode cX13_places 15 = .ok (.ireturn, 1) := dz0 dzo172 15 dzbX13_places_0 rfl
theorem dzbX13_quick_0 : dzB cX13_quick 0 [42, 3, 181, 0, 42, 42, 27, 4, 4, 182, 1, 75, 172] := by decide +kernel
theorem dX13_quick_0 : decode cX13_quick 0 = .ok (.aload_n 0, 1) := dz0 dzo42 0 dzbX13_quick_0 rfl
theorem dX13_quick_1 : decode cX13_quick 1 = .ok (.iconst 0, 1) := dz0 dzo3 1 dzbX13_quick_0 rfl
theorem dX13_quick_2 : decode cX13_quick 2 = .ok (.putfield 42, 3) := dz2 dzo181 2 0 42 dzbX13_quick_0 rfl
theorem dX13_quick_5 : decode cX13_quick 5 = .ok (.aload_n 0, 1) := dz0 dzo42 5 dzbX13_quick_0 rfl
theorem dX13_quick_6 : decode cX13_quick 6 = .ok (.iload_n 1, 1) := dz0 dzo27 6 dzbX13_quick_0 rfl
theorem dX13_quick_7 : decode cX13_quick 7 = .ok (.iconst 1, 1) := dz0 dzo4 7 dzbX13_quick_0 rfl
theorem dX13_quick_8 : decode cX13_quick 8 = .ok (.iconst 1, 1) := dz0 dzo4 8 dzbX13_quick_0 rfl
theorem dX13_quick_9 : decode cX13_quick 9 = .ok (.invokevirtual 331, 3) := dz2 dzo182 9 1 75 dzbX13_quick_0 rfl
theorem dX13_quick_12 : decode cX13_quick 12 = .ok (.ireturn, 1) := dz0 dzo172 12 dzbX13_quick_0 rfl
theorem dzbX13_quickAt_0 : dzB cX13_quickAt 0 [42, 3, 181, 0, 42, 42, 27, 28, 4, 182, 1, 79, 172] := by decide +kernel
theorem dX13_quickAt_0 : decode cX13_quickAt 0 = .ok (.aload_n 0, 1) := dz0 dzo42 0 dzbX13_quickAt_0 rfl
theorem dX13_quickAt_1 : decode cX13_quickAt 1 = .ok (.iconst 0, 1) := dz0 dzo3 1 dzbX13_quickAt_0 rfl
theorem dX13_quickAt_2 : decode cX13_quickAt 2 = .ok (.putfield 42, 3) := dz2 dzo181 2 0 42 dzbX13_quickAt_0 rfl
theorem dX13_quickAt_5 : decode cX13_quickAt 5 = .ok (.aload_n 0, 1) := dz0 dzo42 5 dzbX13_quickAt_0 rfl
theorem dX13_quickAt_6 : decode cX13_quickAt 6 = .ok (.iload_n 1, 1) := dz0 dzo27 6 dzbX13_quickAt_0 rfl
theorem dX13_quickAt_7 : decode cX13_quickAt 7 = .ok (.iload_n 2, 1) := dz0 dzo28 7 dzbX13_quickAt_0 rfl
theorem dX13_quickAt_8 : decode cX13_quickAt 8 = .ok (.iconst 1, 1) := dz0 dzo4 8 dzbX13_quickAt_0 rfl
theorem dX13_quickAt_9 : decode cX13_quickAt 9 = .ok (.invokevirtual 335, 3) := dz2 dzo182 9 1 79 dzbX13_quickAt_0 rfl
theorem dX13_quickAt_12 : decode cX13_quickAt 12 = .ok (.ireturn, 1) := dz0 dzo172 12 dzbX13_quickAt_0 rfl
theorem dzbX13_quickFalls_0 : dzB cX13_quickFalls 0 [42, 3, 181, 0, 42, 42, 27, 4, 3, 182, 1, 75, 172] := by decide +kernel
theorem dX13_quickFalls_0 : decode cX13_quickFalls 0 = .ok (.aload_n 0, 1) := dz0 dzo42 0 dzbX13_quickFalls_0 rfl
theorem dX13_quickFalls_1 : decode cX13_quickFalls 1 = .ok (.iconst 0, 1) := dz0 dzo3 1 dzbX13_quickFalls_0 rfl
theorem dX13_quickFalls_2 : decode cX13_quickFalls 2 = .ok (.putfield 42, 3) := dz2 dzo181 2 0 42 dzbX13_quickFalls_0 rfl
theorem dX13_quickFalls_5 : decode cX13_quickFalls 5 = .ok (.aload_n 0, 1) := dz0 dzo42 5 dzbX13_quickFalls_0 rfl
theorem dX13_quickFalls_6 : decode cX13_quickFalls 6 = .ok (.iload_n 1, 1) := dz0 dzo27 6 dzbX13_quickFalls_0 rfl
theorem dX13_quickFalls_7 : decode cX13_quickFalls 7 = .ok (.iconst 1, 1) := dz0 dzo4 7 dzbX13_quickFalls_0 rfl
theorem dX13_quickFalls_8 : decode cX13_quickFalls 8 = .ok (.iconst 0, 1) := dz0 dzo3 8 dzbX13_quickFalls_0 rfl
theorem dX13_quickFalls_9 : decode cX13_quickFalls 9 = .ok (.invokevirtual 331, 3) := dz2 dzo182 9 1 75 dzbX13_quickFalls_0 rfl
theorem dX13_quickFalls_12 : decode cX13_quickFalls 12 = .ok (.ireturn, 1) := dz0 dzo172 12 dzbX13_quickFalls_0 rfl
theorem dzbX13_ramble_0 : dzB cX13_ramble 0 [42, 3, 181, 0, 42, 42, 27, 28, 29, 182, 1, 182, 54, 4, 21, 4, 158, 0, 10, 42, 21, 4] := by decide +kernel
theorem dX13_ramble_0 : decode cX13_ramble 0 = .ok (.aload_n 0, 1) := dz0 dzo42 0 dzbX13_ramble_0 rfl
theorem dX13_ramble_1 : decode cX13_ramble 1 = .ok (.iconst 0, 1) := dz0 dzo3 1 dzbX13_ramble_0 rfl
theorem dX13_ramble_2 : decode cX13_ramble 2 = .ok (.putfield 42, 3) := dz2 dzo181 2 0 42 dzbX13_ramble_0 rfl
theorem dX13_ramble_5 : decode cX13_ramble 5 = .ok (.aload_n 0, 1) := dz0 dzo42 5 dzbX13_ramble_0 rfl
theorem dX13_ramble_6 : decode cX13_ramble 6 = .ok (.iload_n 1, 1) := dz0 dzo27 6 dzbX13_ramble_0 rfl
theorem dX13_ramble_7 : decode cX13_ramble 7 = .ok (.iload_n 2, 1) := dz0 dzo28 7 dzbX13_ramble_0 rfl
theorem dX13_ramble_8 : decode cX13_ramble 8 = .ok (.iload_n 3, 1) := dz0 dzo29 8 dzbX13_ramble_0 rfl
theorem dX13_ramble_9 : decode cX13_ramble 9 = .ok (.invokevirtual 438, 3) := dz2 dzo182 9 1 182 dzbX13_ramble_0 rfl
theorem dX13_ramble_12 : decode cX13_ramble 12 = .ok (.istore 4, 2) := dz1 dzo54 12 4 dzbX13_ramble_0 rfl
theorem dX13_ramble_14 : decode cX13_ramble 14 = .ok (.iload 4, 2) := dz1 dzo21 14 4 dzbX13_ramble_0 rfl
theorem dX13_ramble_16 : decode cX13_ramble 16 = .ok (.ifCond .le 10, 3) := dz4 dzo158 16 0 10 10 rfl dzbX13_ramble_0 rfl
theorem dX13_ramble_19 : decode cX13_ramble 19 = .ok (.aload_n 0, 1) := dz0 dzo42 19 dzbX13_ramble_0 rfl
theorem dX13_ramble_20 : decode cX13_ramble 20 = .ok (.iload 4, 2) := dz1 dzo21 20 4 dzbX13_ramble_0 rfl
theorem dzbX13_ramble_22 : dzB cX13_ramble 22 [182, 0, 48, 172, 42, 27, 28, 29, 182, 1, 185, 42, 42, 180, 1, 178, 182, 0, 52, 172] := by decide +kernel
theorem dX13_ramble_22 : decode cX13_ramble 22 = .ok (.invokevirtual 48, 3) := dz2 dzo182 0 0 48 dzbX13_ramble_22 rfl
theorem dX13_ramble_25 : decode cX13_ramble 25 = .ok (.ireturn, 1) := dz0 dzo172 3 dzbX13_ramble_22 rfl
theorem dX13_ramble_26 : decode cX13_ramble 26 = .ok (.aload_n 0, 1) := dz0 dzo42 4 dzbX13_ramble_22 rfl
theorem dX13_ramble_27 : decode cX13_ramble 27 = .ok (.iload_n 1, 1) := dz0 dzo27 5 dzbX13_ramble_22 rfl
theorem dX13_ramble_28 : decode cX13_ramble 28 = .ok (.iload_n 2, 1) := dz0 dzo28 6 dzbX13_ramble_22 rfl
theorem dX13_ramble_29 : decode cX13_ramble 29 = .ok (.iload_n 3, 1) := dz0 dzo29 7 dzbX13_ramble_22 rfl
theorem dX13_ramble_30 : decode cX13_ramble 30 = .ok (.invokevirtual 441, 3) := dz2 dzo182 8 1 185 dzbX13_ramble_22 rfl
theorem dX13_ramble_33 : decode cX13_ramble 33 = .ok (.aload_n 0, 1) := dz0 dzo42 11 dzbX13_ramble_22 rfl
theorem dX13_ramble_34 : decode cX13_ramble 34 = .ok (.aload_n 0, 1) := dz0 dzo42 12 dzbX13_ramble_22 rfl
theorem dX13_ramble_35 : decode cX13_ramble 35 = .ok (.getfield 434, 3) := dz2 dzo180 13 1 178 dzbX13_ramble_22 rfl
theorem dX13_ramble_38 : decode cX13_ramble 38 = .ok (.invokevirtual 52, 3) := dz2 dzo182 16 0 52 dzbX13_ramble_22 rfl
theorem dX13_ramble_41 : decode cX13_ramble 41 = .ok (.ireturn, 1) := dz0 dzo172 19 dzbX13_ramble_22 rfl
theorem dzbX13_rambleFalls_0 : dzB cX13_rambleFalls 0 [42, 3, 181, 0, 42, 42, 27, 28, 29, 182, 1, 182, 54, 4, 21, 4, 158, 0, 10, 42, 21, 4] := by decide +kernel
theorem dX13_rambleFalls_0 : decode cX13_rambleFalls 0 = .ok (.aload_n 0, 1) := dz0 dzo42 0 dzbX13_rambleFalls_0 rfl
theorem dX13_rambleFalls_1 : decode cX13_rambleFalls 1 = .ok (.iconst 0, 1) := dz0 dzo3 1 dzbX13_rambleFalls_0 rfl
theorem dX13_rambleFalls_2 : decode cX13_rambleFalls 2 = .ok (.putfield 42, 3) := dz2 dzo181 2 0 42 dzbX13_rambleFalls_0 rfl
theorem dX13_rambleFalls_5 : decode cX13_rambleFalls 5 = .ok (.aload_n 0, 1) := dz0 dzo42 5 dzbX13_rambleFalls_0 rfl
theorem dX13_rambleFalls_6 : decode cX13_rambleFalls 6 = .ok (.iload_n 1, 1) := dz0 dzo27 6 dzbX13_rambleFalls_0 rfl
theorem dX13_rambleFalls_7 : decode cX13_rambleFalls 7 = .ok (.iload_n 2, 1) := dz0 dzo28 7 dzbX13_rambleFalls_0 rfl
theorem dX13_rambleFalls_8 : decode cX13_rambleFalls 8 = .ok (.iload_n 3, 1) := dz0 dzo29 8 dzbX13_rambleFalls_0 rfl
theorem dX13_rambleFalls_9 : decode cX13_rambleFalls 9 = .ok (.invokevirtual 438, 3) := dz2 dzo182 9 1 182 dzbX13_rambleFalls_0 rfl
theorem dX13_rambleFalls_12 : decode cX13_rambleFalls 12 = .ok (.istore 4, 2) := dz1 dzo54 12 4 dzbX13_rambleFalls_0 rfl
theorem dX13_rambleFalls_14 : decode cX13_rambleFalls 14 = .ok (.iload 4, 2) := dz1 dzo21 14 4 dzbX13_rambleFalls_0 rfl
theorem dX13_rambleFalls_16 : decode cX13_rambleFalls 16 = .ok (.ifCond .le 10, 3) := dz4 dzo158 16 0 10 10 rfl dzbX13_rambleFalls_0 rfl
theorem dX13_rambleFalls_19 : decode cX13_rambleFalls 19 = .ok (.aload_n 0, 1) := dz0 dzo42 19 dzbX13_rambleFalls_0 rfl
theorem dX13_rambleFalls_20 : decode cX13_rambleFalls 20 = .ok (.iload 4, 2) := dz1 dzo21 20 4 dzbX13_rambleFalls_0 rfl
theorem dzbX13_rambleFalls_22 : dzB cX13_rambleFalls 22 [182, 0, 48, 172, 42, 27, 28, 29, 182, 1, 185, 42, 42, 180, 1, 166, 182, 0, 52, 172] := by decide +kernel
theorem dX13_rambleFalls_22 : decode cX13_rambleFalls 22 = .ok (.invokevirtual 48, 3) := dz2 dzo182 0 0 48 dzbX13_rambleFalls_22 rfl
theorem dX13_rambleFalls_25 : decode cX13_rambleFalls 25 = .ok (.ireturn, 1) := dz0 dzo172 3 dzbX13_rambleFalls_22 rfl
theorem dX13_rambleFalls_26 : decode cX13_rambleFalls 26 = .ok (.aload_n 0, 1) := dz0 dzo42 4 dzbX13_rambleFalls_22 rfl
theorem dX13_rambleFalls_27 : decode cX13_rambleFalls 27 = .ok (.iload_n 1, 1) := dz0 dzo27 5 dzbX13_rambleFalls_22 rfl
theorem dX13_rambleFalls_28 : decode cX13_rambleFalls 28 = .ok (.iload_n 2, 1) := dz0 dzo28 6 dzbX13_rambleFalls_22 rfl
theorem dX13_rambleFalls_29 : decode cX13_rambleFalls 29 = .ok (.iload_n 3, 1) := dz0 dzo29 7 dzbX13_rambleFalls_22 rfl
theorem dX13_rambleFalls_30 : decode cX13_rambleFalls 30 = .ok (.invokevirtual 441, 3) := dz2 dzo182 8 1 185 dzbX13_rambleFalls_22 rfl
theorem dX13_rambleFalls_33 : decode cX13_rambleFalls 33 = .ok (.aload_n 0, 1) := dz0 dzo42 11 dzbX13_rambleFalls_22 rfl
theorem dX13_rambleFalls_34 : decode cX13_rambleFalls 34 = .ok (.aload_n 0, 1) := dz0 dzo42 12 dzbX13_rambleFalls_22 rfl
theorem dX13_rambleFalls_35 : decode cX13_rambleFalls 35 = .ok (.getfield 422, 3) := dz2 dzo180 13 1 166 dzbX13_rambleFalls_22 rfl
theorem dX13_rambleFalls_38 : decode cX13_rambleFalls 38 = .ok (.invokevirtual 52, 3) := dz2 dzo182 16 0 52 dzbX13_rambleFalls_22 rfl
theorem dX13_rambleFalls_41 : decode cX13_rambleFalls 41 = .ok (.ireturn, 1) := dz0 dzo172 19 dzbX13_rambleFalls_22 rfl
theorem dzbX13_rambles_0 : dzB cX13_rambles 0 [42, 182, 1, 61, 28, 54, 4, 42, 180, 0, 17, 16, 20, 27, 96, 46, 54, 5, 42, 3, 181, 1, 166, 42] := by decide +kernel
theorem dX13_rambles_0 : decode cX13_rambles 0 = .ok (.aload_n 0, 1) := dz0 dzo42 0 dzbX13_rambles_0 rfl
theorem dX13_rambles_1 : decode cX13_rambles 1 = .ok (.invokevirtual 317, 3) := dz2 dzo182 1 1 61 dzbX13_rambles_0 rfl
theorem dX13_rambles_4 : decode cX13_rambles 4 = .ok (.iload_n 2, 1) := dz0 dzo28 4 dzbX13_rambles_0 rfl
theorem dX13_rambles_5 : decode cX13_rambles 5 = .ok (.istore 4, 2) := dz1 dzo54 5 4 dzbX13_rambles_0 rfl
theorem dX13_rambles_7 : decode cX13_rambles 7 = .ok (.aload_n 0, 1) := dz0 dzo42 7 dzbX13_rambles_0 rfl
theorem dX13_rambles_8 : decode cX13_rambles 8 = .ok (.getfield 17, 3) := dz2 dzo180 8 0 17 dzbX13_rambles_0 rfl
theorem dX13_rambles_11 : decode cX13_rambles 11 = .ok (.bipush 20, 2) := dz3 dzo16 11 20 20 rfl dzbX13_rambles_0 rfl
theorem dX13_rambles_13 : decode cX13_rambles 13 = .ok (.iload_n 1, 1) := dz0 dzo27 13 dzbX13_rambles_0 rfl
theorem dX13_rambles_14 : decode cX13_rambles 14 = .ok (.iadd, 1) := dz0 dzo96 14 dzbX13_rambles_0 rfl
theorem dX13_rambles_15 : decode cX13_rambles 15 = .ok (.iaload, 1) := dz0 dzo46 15 dzbX13_rambles_0 rfl
theorem dX13_rambles_16 : decode cX13_rambles 16 = .ok (.istore 5, 2) := dz1 dzo54 16 5 dzbX13_rambles_0 rfl
theorem dX13_rambles_18 : decode cX13_rambles 18 = .ok (.aload_n 0, 1) := dz0 dzo42 18 dzbX13_rambles_0 rfl
theorem dX13_rambles_19 : decode cX13_rambles 19 = .ok (.iconst 0, 1) := dz0 dzo3 19 dzbX13_rambles_0 rfl
theorem dX13_rambles_20 : decode cX13_rambles 20 = .ok (.putfield 422, 3) := dz2 dzo181 20 1 166 dzbX13_rambles_0 rfl
theorem dX13_rambles_23 : decode cX13_rambles 23 = .ok (.aload_n 0, 1) := dz0 dzo42 23 dzbX13_rambles_0 rfl
theorem dzbX13_rambles_24 : dzB cX13_rambles 24 [21, 5, 42, 180, 1, 13, 180, 0, 243, 27, 46, 160, 0, 7, 3, 167, 0, 5, 16, 254, 181, 1, 169, 4] := by decide +kernel
theorem dX13_rambles_24 : decode cX13_rambles 24 = .ok (.iload 5, 2) := dz1 dzo21 0 5 dzbX13_rambles_24 rfl
theorem dX13_rambles_26 : decode cX13_rambles 26 = .ok (.aload_n 0, 1) := dz0 dzo42 2 dzbX13_rambles_24 rfl
theorem dX13_rambles_27 : decode cX13_rambles 27 = .ok (.getfield 269, 3) := dz2 dzo180 3 1 13 dzbX13_rambles_24 rfl
theorem dX13_rambles_30 : decode cX13_rambles 30 = .ok (.getfield 243, 3) := dz2 dzo180 6 0 243 dzbX13_rambles_24 rfl
theorem dX13_rambles_33 : decode cX13_rambles 33 = .ok (.iload_n 1, 1) := dz0 dzo27 9 dzbX13_rambles_24 rfl
theorem dX13_rambles_34 : decode cX13_rambles 34 = .ok (.iaload, 1) := dz0 dzo46 10 dzbX13_rambles_24 rfl
theorem dX13_rambles_35 : decode cX13_rambles 35 = .ok (.if_icmp .ne 7, 3) := dz4 dzo160 11 0 7 7 rfl dzbX13_rambles_24 rfl
theorem dX13_rambles_38 : decode cX13_rambles 38 = .ok (.iconst 0, 1) := dz0 dzo3 14 dzbX13_rambles_24 rfl
theorem dX13_rambles_39 : decode cX13_rambles 39 = .ok (.goto 5, 3) := dz4 dzo167 15 0 5 5 rfl dzbX13_rambles_24 rfl
theorem dX13_rambles_42 : decode cX13_rambles 42 = .ok (.bipush (-2), 2) := dz3 dzo16 18 254 (-2) rfl dzbX13_rambles_24 rfl
theorem dX13_rambles_44 : decode cX13_rambles 44 = .ok (.putfield 425, 3) := dz2 dzo181 20 1 169 dzbX13_rambles_24 rfl
theorem dX13_rambles_47 : decode cX13_rambles 47 = .ok (.iconst 1, 1) := dz0 dzo4 23 dzbX13_rambles_24 rfl
theorem dzbX13_rambles_48 : dzB cX13_rambles 48 [54, 6, 21, 6, 29, 163, 0, 128, 20, 1, 172, 21, 4, 133, 105, 20, 1, 174, 97, 20, 1, 176, 113, 136] := by decide +kernel
theorem dX13_rambles_48 : decode cX13_rambles 48 = .ok (.istore 6, 2) := dz1 dzo54 0 6 dzbX13_rambles_48 rfl
theorem dX13_rambles_50 : decode cX13_rambles 50 = .ok (.iload 6, 2) := dz1 dzo21 2 6 dzbX13_rambles_48 rfl
theorem dX13_rambles_52 : decode cX13_rambles 52 = .ok (.iload_n 3, 1) := dz0 dzo29 4 dzbX13_rambles_48 rfl
theorem dX13_rambles_53 : decode cX13_rambles 53 = .ok (.if_icmp .gt 128, 3) := dz4 dzo163 5 0 128 128 rfl dzbX13_rambles_48 rfl
theorem dX13_rambles_56 : decode cX13_rambles 56 = .ok (.ldc2_w 428, 3) := dz2 dzo20 8 1 172 dzbX13_rambles_48 rfl
theorem dX13_rambles_59 : decode cX13_rambles 59 = .ok (.iload 4, 2) := dz1 dzo21 11 4 dzbX13_rambles_48 rfl
theorem dX13_rambles_61 : decode cX13_rambles 61 = .ok (.i2l, 1) := dz0 dzo133 13 dzbX13_rambles_48 rfl
theorem dX13_rambles_62 : decode cX13_rambles 62 = .ok (.lmul, 1) := dz0 dzo105 14 dzbX13_rambles_48 rfl
theorem dX13_rambles_63 : decode cX13_rambles 63 = .ok (.ldc2_w 430, 3) := dz2 dzo20 15 1 174 dzbX13_rambles_48 rfl
theorem dX13_rambles_66 : decode cX13_rambles 66 = .ok (.ladd, 1) := dz0 dzo97 18 dzbX13_rambles_48 rfl
theorem dX13_rambles_67 : decode cX13_rambles 67 = .ok (.ldc2_w 432, 3) := dz2 dzo20 19 1 176 dzbX13_rambles_48 rfl
theorem dX13_rambles_70 : decode cX13_rambles 70 = .ok (.lrem, 1) := dz0 dzo113 22 dzbX13_rambles_48 rfl
theorem dX13_rambles_71 : decode cX13_rambles 71 = .ok (.l2i, 1) := dz0 dzo136 23 dzbX13_rambles_48 rfl
theorem dzbX13_rambles_72 : dzB cX13_rambles 72 [54, 4, 21, 4, 7, 112, 54, 7, 42, 42, 180, 1, 13, 180, 0, 238, 27, 46, 21, 5, 21, 7] := by decide +kernel
theorem dX13_rambles_72 : decode cX13_rambles 72 = .ok (.istore 4, 2) := dz1 dzo54 0 4 dzbX13_rambles_72 rfl
theorem dX13_rambles_74 : decode cX13_rambles 74 = .ok (.iload 4, 2) := dz1 dzo21 2 4 dzbX13_rambles_72 rfl
theorem dX13_rambles_76 : decode cX13_rambles 76 = .ok (.iconst 4, 1) := dz0 dzo7 4 dzbX13_rambles_72 rfl
theorem dX13_rambles_77 : decode cX13_rambles 77 = .ok (.irem, 1) := dz0 dzo112 5 dzbX13_rambles_72 rfl
theorem dX13_rambles_78 : decode cX13_rambles 78 = .ok (.istore 7, 2) := dz1 dzo54 6 7 dzbX13_rambles_72 rfl
theorem dX13_rambles_80 : decode cX13_rambles 80 = .ok (.aload_n 0, 1) := dz0 dzo42 8 dzbX13_rambles_72 rfl
theorem dX13_rambles_81 : decode cX13_rambles 81 = .ok (.aload_n 0, 1) := dz0 dzo42 9 dzbX13_rambles_72 rfl
theorem dX13_rambles_82 : decode cX13_rambles 82 = .ok (.getfield 269, 3) := dz2 dzo180 10 1 13 dzbX13_rambles_72 rfl
theorem dX13_rambles_85 : decode cX13_rambles 85 = .ok (.getfield 238, 3) := dz2 dzo180 13 0 238 dzbX13_rambles_72 rfl
theorem dX13_rambles_88 : decode cX13_rambles 88 = .ok (.iload_n 1, 1) := dz0 dzo27 16 dzbX13_rambles_72 rfl
theorem dX13_rambles_89 : decode cX13_rambles 89 = .ok (.iaload, 1) := dz0 dzo46 17 dzbX13_rambles_72 rfl
theorem dX13_rambles_90 : decode cX13_rambles 90 = .ok (.iload 5, 2) := dz1 dzo21 18 5 dzbX13_rambles_72 rfl
theorem dX13_rambles_92 : decode cX13_rambles 92 = .ok (.iload 7, 2) := dz1 dzo21 20 7 dzbX13_rambles_72 rfl
theorem dzbX13_rambles_94 : dzB cX13_rambles 94 [182, 1, 33, 16, 254, 159, 0, 47, 42, 89, 180, 1, 166, 42, 42, 180, 1, 13, 180, 0, 238, 27, 46] := by decide +kernel
theorem dX13_rambles_94 : decode cX13_rambles 94 = .ok (.invokevirtual 289, 3) := dz2 dzo182 0 1 33 dzbX13_rambles_94 rfl
theorem dX13_rambles_97 : decode cX13_rambles 97 = .ok (.bipush (-2), 2) := dz3 dzo16 3 254 (-2) rfl dzbX13_rambles_94 rfl
theorem dX13_rambles_99 : decode cX13_rambles 99 = .ok (.if_icmp .eq 47, 3) := dz4 dzo159 5 0 47 47 rfl dzbX13_rambles_94 rfl
theorem dX13_rambles_102 : decode cX13_rambles 102 = .ok (.aload_n 0, 1) := dz0 dzo42 8 dzbX13_rambles_94 rfl
theorem dX13_rambles_103 : decode cX13_rambles 103 = .ok (.dup, 1) := dz0 dzo89 9 dzbX13_rambles_94 rfl
theorem dX13_rambles_104 : decode cX13_rambles 104 = .ok (.getfield 422, 3) := dz2 dzo180 10 1 166 dzbX13_rambles_94 rfl
theorem dX13_rambles_107 : decode cX13_rambles 107 = .ok (.aload_n 0, 1) := dz0 dzo42 13 dzbX13_rambles_94 rfl
theorem dX13_rambles_108 : decode cX13_rambles 108 = .ok (.aload_n 0, 1) := dz0 dzo42 14 dzbX13_rambles_94 rfl
theorem dX13_rambles_109 : decode cX13_rambles 109 = .ok (.getfield 269, 3) := dz2 dzo180 15 1 13 dzbX13_rambles_94 rfl
theorem dX13_rambles_112 : decode cX13_rambles 112 = .ok (.getfield 238, 3) := dz2 dzo180 18 0 238 dzbX13_rambles_94 rfl
theorem dX13_rambles_115 : decode cX13_rambles 115 = .ok (.iload_n 1, 1) := dz0 dzo27 21 dzbX13_rambles_94 rfl
theorem dX13_rambles_116 : decode cX13_rambles 116 = .ok (.iaload, 1) := dz0 dzo46 22 dzbX13_rambles_94 rfl
theorem dzbX13_rambles_117 : dzB cX13_rambles 117 [21, 5, 21, 7, 182, 1, 30, 153, 0, 7, 4, 167, 0, 4, 3, 96, 181, 1, 166, 42, 21, 5, 21, 7] := by decide +kernel
theorem dX13_rambles_117 : decode cX13_rambles 117 = .ok (.iload 5, 2) := dz1 dzo21 0 5 dzbX13_rambles_117 rfl
theorem dX13_rambles_119 : decode cX13_rambles 119 = .ok (.iload 7, 2) := dz1 dzo21 2 7 dzbX13_rambles_117 rfl
theorem dX13_rambles_121 : decode cX13_rambles 121 = .ok (.invokevirtual 286, 3) := dz2 dzo182 4 1 30 dzbX13_rambles_117 rfl
theorem dX13_rambles_124 : decode cX13_rambles 124 = .ok (.ifCond .eq 7, 3) := dz4 dzo153 7 0 7 7 rfl dzbX13_rambles_117 rfl
theorem dX13_rambles_127 : decode cX13_rambles 127 = .ok (.iconst 1, 1) := dz0 dzo4 10 dzbX13_rambles_117 rfl
theorem dX13_rambles_128 : decode cX13_rambles 128 = .ok (.goto 4, 3) := dz4 dzo167 11 0 4 4 rfl dzbX13_rambles_117 rfl
theorem dX13_rambles_131 : decode cX13_rambles 131 = .ok (.iconst 0, 1) := dz0 dzo3 14 dzbX13_rambles_117 rfl
theorem dX13_rambles_132 : decode cX13_rambles 132 = .ok (.iadd, 1) := dz0 dzo96 15 dzbX13_rambles_117 rfl
theorem dX13_rambles_133 : decode cX13_rambles 133 = .ok (.putfield 422, 3) := dz2 dzo181 16 1 166 dzbX13_rambles_117 rfl
theorem dX13_rambles_136 : decode cX13_rambles 136 = .ok (.aload_n 0, 1) := dz0 dzo42 19 dzbX13_rambles_117 rfl
theorem dX13_rambles_137 : decode cX13_rambles 137 = .ok (.iload 5, 2) := dz1 dzo21 20 5 dzbX13_rambles_117 rfl
theorem dX13_rambles_139 : decode cX13_rambles 139 = .ok (.iload 7, 2) := dz1 dzo21 22 7 dzbX13_rambles_117 rfl
theorem dzbX13_rambles_141 : dzB cX13_rambles 141 [182, 1, 24, 54, 5, 42, 180, 1, 169, 16, 254, 160, 0, 23, 21, 5, 42, 180, 1, 13, 180, 0, 243, 27] := by decide +kernel
theorem dX13_rambles_141 : decode cX13_rambles 141 = .ok (.invokevirtual 280, 3) := dz2 dzo182 0 1 24 dzbX13_rambles_141 rfl
theorem dX13_rambles_144 : decode cX13_rambles 144 = .ok (.istore 5, 2) := dz1 dzo54 3 5 dzbX13_rambles_141 rfl
theorem dX13_rambles_146 : decode cX13_rambles 146 = .ok (.aload_n 0, 1) := dz0 dzo42 5 dzbX13_rambles_141 rfl
theorem dX13_rambles_147 : decode cX13_rambles 147 = .ok (.getfield 425, 3) := dz2 dzo180 6 1 169 dzbX13_rambles_141 rfl
theorem dX13_rambles_150 : decode cX13_rambles 150 = .ok (.bipush (-2), 2) := dz3 dzo16 9 254 (-2) rfl dzbX13_rambles_141 rfl
theorem dX13_rambles_152 : decode cX13_rambles 152 = .ok (.if_icmp .ne 23, 3) := dz4 dzo160 11 0 23 23 rfl dzbX13_rambles_141 rfl
theorem dX13_rambles_155 : decode cX13_rambles 155 = .ok (.iload 5, 2) := dz1 dzo21 14 5 dzbX13_rambles_141 rfl
theorem dX13_rambles_157 : decode cX13_rambles 157 = .ok (.aload_n 0, 1) := dz0 dzo42 16 dzbX13_rambles_141 rfl
theorem dX13_rambles_158 : decode cX13_rambles 158 = .ok (.getfield 269, 3) := dz2 dzo180 17 1 13 dzbX13_rambles_141 rfl
theorem dX13_rambles_161 : decode cX13_rambles 161 = .ok (.getfield 243, 3) := dz2 dzo180 20 0 243 dzbX13_rambles_141 rfl
theorem dX13_rambles_164 : decode cX13_rambles 164 = .ok (.iload_n 1, 1) := dz0 dzo27 23 dzbX13_rambles_141 rfl
theorem dzbX13_rambles_165 : dzB cX13_rambles 165 [46, 160, 0, 9, 42, 21, 6, 181, 1, 169, 132, 6, 1, 167, 255, 128, 42, 21, 5, 181, 1, 178, 177] := by decide +kernel
theorem dX13_rambles_165 : decode cX13_rambles 165 = .ok (.iaload, 1) := dz0 dzo46 0 dzbX13_rambles_165 rfl
theorem dX13_rambles_166 : decode cX13_rambles 166 = .ok (.if_icmp .ne 9, 3) := dz4 dzo160 1 0 9 9 rfl dzbX13_rambles_165 rfl
theorem dX13_rambles_169 : decode cX13_rambles 169 = .ok (.aload_n 0, 1) := dz0 dzo42 4 dzbX13_rambles_165 rfl
theorem dX13_rambles_170 : decode cX13_rambles 170 = .ok (.iload 6, 2) := dz1 dzo21 5 6 dzbX13_rambles_165 rfl
theorem dX13_rambles_172 : decode cX13_rambles 172 = .ok (.putfield 425, 3) := dz2 dzo181 7 1 169 dzbX13_rambles_165 rfl
theorem dX13_rambles_175 : decode cX13_rambles 175 = .ok (.iinc 6 1, 3) := dz5 dzo132 10 6 1 1 rfl dzbX13_rambles_165 rfl
theorem dX13_rambles_178 : decode cX13_rambles 178 = .ok (.goto (-128), 3) := dz4 dzo167 13 255 128 (-128) rfl dzbX13_rambles_165 rfl
theorem dX13_rambles_181 : decode cX13_rambles 181 = .ok (.aload_n 0, 1) := dz0 dzo42 16 dzbX13_rambles_165 rfl
theorem dX13_rambles_182 : decode cX13_rambles 182 = .ok (.iload 5, 2) := dz1 dzo21 17 5 dzbX13_rambles_165 rfl
theorem dX13_rambles_184 : decode cX13_rambles 184 = .ok (.putfield 434, 3) := dz2 dzo181 19 1 178 dzbX13_rambles_165 rfl
theorem dX13_rambles_187 : decode cX13_rambles 187 = .ok (.return_, 1) := dz0 dzo177 22 dzbX13_rambles_165 rfl
theorem dzbX13_reach_0 : dzB cX13_reach 0 [42, 3, 181, 0, 42, 42, 27, 182, 1, 55, 154, 0, 9, 42, 4, 182, 0, 48, 172, 42, 182, 1, 61, 42] := by decide +kernel
theorem dX13_reach_0 : decode cX13_reach 0 = .ok (.aload_n 0, 1) := dz0 dzo42 0 dzbX13_reach_0 rfl
theorem dX13_reach_1 : decode cX13_reach 1 = .ok (.iconst 0, 1) := dz0 dzo3 1 dzbX13_reach_0 rfl
theorem dX13_reach_2 : decode cX13_reach 2 = .ok (.putfield 42, 3) := dz2 dzo181 2 0 42 dzbX13_reach_0 rfl
theorem dX13_reach_5 : decode cX13_reach 5 = .ok (.aload_n 0, 1) := dz0 dzo42 5 dzbX13_reach_0 rfl
theorem dX13_reach_6 : decode cX13_reach 6 = .ok (.iload_n 1, 1) := dz0 dzo27 6 dzbX13_reach_0 rfl
theorem dX13_reach_7 : decode cX13_reach 7 = .ok (.invokevirtual 311, 3) := dz2 dzo182 7 1 55 dzbX13_reach_0 rfl
theorem dX13_reach_10 : decode cX13_reach 10 = .ok (.ifCond .ne 9, 3) := dz4 dzo154 10 0 9 9 rfl dzbX13_reach_0 rfl
theorem dX13_reach_13 : decode cX13_reach 13 = .ok (.aload_n 0, 1) := dz0 dzo42 13 dzbX13_reach_0 rfl
theorem dX13_reach_14 : decode cX13_reach 14 = .ok (.iconst 1, 1) := dz0 dzo4 14 dzbX13_reach_0 rfl
theorem dX13_reach_15 : decode cX13_reach 15 = .ok (.invokevirtual 48, 3) := dz2 dzo182 15 0 48 dzbX13_reach_0 rfl
theorem dX13_reach_18 : decode cX13_reach 18 = .ok (.ireturn, 1) := dz0 dzo172 18 dzbX13_reach_0 rfl
theorem dX13_reach_19 : decode cX13_reach 19 = .ok (.aload_n 0, 1) := dz0 dzo42 19 dzbX13_reach_0 rfl
theorem dX13_reach_20 : decode cX13_reach 20 = .ok (.invokevirtual 317, 3) := dz2 dzo182 20 1 61 dzbX13_reach_0 rfl
theorem dX13_reach_23 : decode cX13_reach 23 = .ok (.aload_n 0, 1) := dz0 dzo42 23 dzbX13_reach_0 rfl
theorem dzbX13_reach_24 : dzB cX13_reach 24 [27, 182, 1, 82, 42, 42, 19, 1, 85, 182, 1, 86, 182, 0, 52, 172] := by decide +kernel
theorem dX13_reach_24 : decode cX13_reach 24 = .ok (.iload_n 1, 1) := dz0 dzo27 0 dzbX13_reach_24 rfl
theorem dX13_reach_25 : decode cX13_reach 25 = .ok (.invokevirtual 338, 3) := dz2 dzo182 1 1 82 dzbX13_reach_24 rfl
theorem dX13_reach_28 : decode cX13_reach 28 = .ok (.aload_n 0, 1) := dz0 dzo42 4 dzbX13_reach_24 rfl
theorem dX13_reach_29 : decode cX13_reach 29 = .ok (.aload_n 0, 1) := dz0 dzo42 5 dzbX13_reach_24 rfl
theorem dX13_reach_30 : decode cX13_reach 30 = .ok (.ldc_w 341, 3) := dz2 dzo19 6 1 85 dzbX13_reach_24 rfl
theorem dX13_reach_33 : decode cX13_reach 33 = .ok (.invokevirtual 342, 3) := dz2 dzo182 9 1 86 dzbX13_reach_24 rfl
theorem dX13_reach_36 : decode cX13_reach 36 = .ok (.invokevirtual 52, 3) := dz2 dzo182 12 0 52 dzbX13_reach_24 rfl
theorem dX13_reach_39 : decode cX13_reach 39 = .ok (.ireturn, 1) := dz0 dzo172 15 dzbX13_reach_24 rfl
theorem dzbX13_reachIn_0 : dzB cX13_reachIn 0 [42, 3, 181, 0, 42, 42, 27, 182, 1, 55, 154, 0, 9, 42, 4, 182, 0, 48, 172, 28, 3, 16, 99] := by decide +kernel
theorem dX13_reachIn_0 : decode cX13_reachIn 0 = .ok (.aload_n 0, 1) := dz0 dzo42 0 dzbX13_reachIn_0 rfl
theorem dX13_reachIn_1 : decode cX13_reachIn 1 = .ok (.iconst 0, 1) := dz0 dzo3 1 dzbX13_reachIn_0 rfl
theorem dX13_reachIn_2 : decode cX13_reachIn 2 = .ok (.putfield 42, 3) := dz2 dzo181 2 0 42 dzbX13_reachIn_0 rfl
theorem dX13_reachIn_5 : decode cX13_reachIn 5 = .ok (.aload_n 0, 1) := dz0 dzo42 5 dzbX13_reachIn_0 rfl
theorem dX13_reachIn_6 : decode cX13_reachIn 6 = .ok (.iload_n 1, 1) := dz0 dzo27 6 dzbX13_reachIn_0 rfl
theorem dX13_reachIn_7 : decode cX13_reachIn 7 = .ok (.invokevirtual 311, 3) := dz2 dzo182 7 1 55 dzbX13_reachIn_0 rfl
theorem dX13_reachIn_10 : decode cX13_reachIn 10 = .ok (.ifCond .ne 9, 3) := dz4 dzo154 10 0 9 9 rfl dzbX13_reachIn_0 rfl
theorem dX13_reachIn_13 : decode cX13_reachIn 13 = .ok (.aload_n 0, 1) := dz0 dzo42 13 dzbX13_reachIn_0 rfl
theorem dX13_reachIn_14 : decode cX13_reachIn 14 = .ok (.iconst 1, 1) := dz0 dzo4 14 dzbX13_reachIn_0 rfl
theorem dX13_reachIn_15 : decode cX13_reachIn 15 = .ok (.invokevirtual 48, 3) := dz2 dzo182 15 0 48 dzbX13_reachIn_0 rfl
theorem dX13_reachIn_18 : decode cX13_reachIn 18 = .ok (.ireturn, 1) := dz0 dzo172 18 dzbX13_reachIn_0 rfl
theorem dX13_reachIn_19 : decode cX13_reachIn 19 = .ok (.iload_n 2, 1) := dz0 dzo28 19 dzbX13_reachIn_0 rfl
theorem dX13_reachIn_20 : decode cX13_reachIn 20 = .ok (.iconst 0, 1) := dz0 dzo3 20 dzbX13_reachIn_0 rfl
theorem dX13_reachIn_21 : decode cX13_reachIn 21 = .ok (.bipush 99, 2) := dz3 dzo16 21 99 99 rfl dzbX13_reachIn_0 rfl
theorem dzbX13_reachIn_23 : dzB cX13_reachIn 23 [184, 0, 124, 154, 0, 9, 42, 5, 182, 0, 48, 172, 42, 182, 1, 61, 42, 27, 182, 1, 82, 42, 42, 28] := by decide +kernel
theorem dX13_reachIn_23 : decode cX13_reachIn 23 = .ok (.invokestatic 124, 3) := dz2 dzo184 0 0 124 dzbX13_reachIn_23 rfl
theorem dX13_reachIn_26 : decode cX13_reachIn 26 = .ok (.ifCond .ne 9, 3) := dz4 dzo154 3 0 9 9 rfl dzbX13_reachIn_23 rfl
theorem dX13_reachIn_29 : decode cX13_reachIn 29 = .ok (.aload_n 0, 1) := dz0 dzo42 6 dzbX13_reachIn_23 rfl
theorem dX13_reachIn_30 : decode cX13_reachIn 30 = .ok (.iconst 2, 1) := dz0 dzo5 7 dzbX13_reachIn_23 rfl
theorem dX13_reachIn_31 : decode cX13_reachIn 31 = .ok (.invokevirtual 48, 3) := dz2 dzo182 8 0 48 dzbX13_reachIn_23 rfl
theorem dX13_reachIn_34 : decode cX13_reachIn 34 = .ok (.ireturn, 1) := dz0 dzo172 11 dzbX13_reachIn_23 rfl
theorem dX13_reachIn_35 : decode cX13_reachIn 35 = .ok (.aload_n 0, 1) := dz0 dzo42 12 dzbX13_reachIn_23 rfl
theorem dX13_reachIn_36 : decode cX13_reachIn 36 = .ok (.invokevirtual 317, 3) := dz2 dzo182 13 1 61 dzbX13_reachIn_23 rfl
theorem dX13_reachIn_39 : decode cX13_reachIn 39 = .ok (.aload_n 0, 1) := dz0 dzo42 16 dzbX13_reachIn_23 rfl
theorem dX13_reachIn_40 : decode cX13_reachIn 40 = .ok (.iload_n 1, 1) := dz0 dzo27 17 dzbX13_reachIn_23 rfl
theorem dX13_reachIn_41 : decode cX13_reachIn 41 = .ok (.invokevirtual 338, 3) := dz2 dzo182 18 1 82 dzbX13_reachIn_23 rfl
theorem dX13_reachIn_44 : decode cX13_reachIn 44 = .ok (.aload_n 0, 1) := dz0 dzo42 21 dzbX13_reachIn_23 rfl
theorem dX13_reachIn_45 : decode cX13_reachIn 45 = .ok (.aload_n 0, 1) := dz0 dzo42 22 dzbX13_reachIn_23 rfl
theorem dX13_reachIn_46 : decode cX13_reachIn 46 = .ok (.iload_n 2, 1) := dz0 dzo28 23 dzbX13_reachIn_23 rfl
theorem dzbX13_reachIn_47 : dzB cX13_reachIn 47 [182, 1, 86, 182, 0, 52, 172] := by decide +kernel
theorem dX13_reachIn_47 : decode cX13_reachIn 47 = .ok (.invokevirtual 342, 3) := dz2 dzo182 0 1 86 dzbX13_reachIn_47 rfl
theorem dX13_reachIn_50 : decode cX13_reachIn 50 = .ok (.invokevirtual 52, 3) := dz2 dzo182 3 0 52 dzbX13_reachIn_47 rfl
theorem dX13_reachIn_53 : decode cX13_reachIn 53 = .ok (.ireturn, 1) := dz0 dzo172 6 dzbX13_reachIn_47 rfl
theorem dzbX13_readAll_0 : dzB cX13_readAll 0 [4, 60, 27, 153, 0, 15, 42, 182, 0, 147, 42, 182, 0, 150, 60, 167, 255, 243, 42, 180, 0, 74, 4] := by decide +kernel
theorem dX13_readAll_0 : decode cX13_readAll 0 = .ok (.iconst 1, 1) := dz0 dzo4 0 dzbX13_readAll_0 rfl
theorem dX13_readAll_1 : decode cX13_readAll 1 = .ok (.istore_n 1, 1) := dz0 dzo60 1 dzbX13_readAll_0 rfl
theorem dX13_readAll_2 : decode cX13_readAll 2 = .ok (.iload_n 1, 1) := dz0 dzo27 2 dzbX13_readAll_0 rfl
theorem dX13_readAll_3 : decode cX13_readAll 3 = .ok (.ifCond .eq 15, 3) := dz4 dzo153 3 0 15 15 rfl dzbX13_readAll_0 rfl
theorem dX13_readAll_6 : decode cX13_readAll 6 = .ok (.aload_n 0, 1) := dz0 dzo42 6 dzbX13_readAll_0 rfl
theorem dX13_readAll_7 : decode cX13_readAll 7 = .ok (.invokevirtual 147, 3) := dz2 dzo182 7 0 147 dzbX13_readAll_0 rfl
theorem dX13_readAll_10 : decode cX13_readAll 10 = .ok (.aload_n 0, 1) := dz0 dzo42 10 dzbX13_readAll_0 rfl
theorem dX13_readAll_11 : decode cX13_readAll 11 = .ok (.invokevirtual 150, 3) := dz2 dzo182 11 0 150 dzbX13_readAll_0 rfl
theorem dX13_readAll_14 : decode cX13_readAll 14 = .ok (.istore_n 1, 1) := dz0 dzo60 14 dzbX13_readAll_0 rfl
theorem dX13_readAll_15 : decode cX13_readAll 15 = .ok (.goto (-13), 3) := dz4 dzo167 15 255 243 (-13) rfl dzbX13_readAll_0 rfl
theorem dX13_readAll_18 : decode cX13_readAll 18 = .ok (.aload_n 0, 1) := dz0 dzo42 18 dzbX13_readAll_0 rfl
theorem dX13_readAll_19 : decode cX13_readAll 19 = .ok (.getfield 74, 3) := dz2 dzo180 19 0 74 dzbX13_readAll_0 rfl
theorem dX13_readAll_22 : decode cX13_readAll 22 = .ok (.iconst 1, 1) := dz0 dzo4 22 dzbX13_readAll_0 rfl
theorem dzbX13_readAll_23 : dzB cX13_readAll 23 [159, 0, 8, 42, 4, 182, 0, 120, 42, 180, 0, 154, 180, 0, 158, 153, 0, 20, 42, 180, 0, 154] := by decide +kernel
theorem dX13_readAll_23 : decode cX13_readAll 23 = .ok (.if_icmp .eq 8, 3) := dz4 dzo159 0 0 8 8 rfl dzbX13_readAll_23 rfl
theorem dX13_readAll_26 : decode cX13_readAll 26 = .ok (.aload_n 0, 1) := dz0 dzo42 3 dzbX13_readAll_23 rfl
theorem dX13_readAll_27 : decode cX13_readAll 27 = .ok (.iconst 1, 1) := dz0 dzo4 4 dzbX13_readAll_23 rfl
theorem dX13_readAll_28 : decode cX13_readAll 28 = .ok (.invokevirtual 120, 3) := dz2 dzo182 5 0 120 dzbX13_readAll_23 rfl
theorem dX13_readAll_31 : decode cX13_readAll 31 = .ok (.aload_n 0, 1) := dz0 dzo42 8 dzbX13_readAll_23 rfl
theorem dX13_readAll_32 : decode cX13_readAll 32 = .ok (.getfield 154, 3) := dz2 dzo180 9 0 154 dzbX13_readAll_23 rfl
theorem dX13_readAll_35 : decode cX13_readAll 35 = .ok (.getfield 158, 3) := dz2 dzo180 12 0 158 dzbX13_readAll_23 rfl
theorem dX13_readAll_38 : decode cX13_readAll 38 = .ok (.ifCond .eq 20, 3) := dz4 dzo153 15 0 20 20 rfl dzbX13_readAll_23 rfl
theorem dX13_readAll_41 : decode cX13_readAll 41 = .ok (.aload_n 0, 1) := dz0 dzo42 18 dzbX13_readAll_23 rfl
theorem dX13_readAll_42 : decode cX13_readAll 42 = .ok (.getfield 154, 3) := dz2 dzo180 19 0 154 dzbX13_readAll_23 rfl
theorem dzbX13_readAll_45 : dzB cX13_readAll 45 [180, 0, 163, 42, 180, 0, 154, 180, 0, 166, 162, 0, 9, 42, 16, 6, 182, 0, 120, 177] := by decide +kernel
theorem dX13_readAll_45 : decode cX13_readAll 45 = .ok (.getfield 163, 3) := dz2 dzo180 0 0 163 dzbX13_readAll_45 rfl
theorem dX13_readAll_48 : decode cX13_readAll 48 = .ok (.aload_n 0, 1) := dz0 dzo42 3 dzbX13_readAll_45 rfl
theorem dX13_readAll_49 : decode cX13_readAll 49 = .ok (.getfield 154, 3) := dz2 dzo180 4 0 154 dzbX13_readAll_45 rfl
theorem dX13_readAll_52 : decode cX13_readAll 52 = .ok (.getfield 166, 3) := dz2 dzo180 7 0 166 dzbX13_readAll_45 rfl
theorem dX13_readAll_55 : decode cX13_readAll 55 = .ok (.if_icmp .ge 9, 3) := dz4 dzo162 10 0 9 9 rfl dzbX13_readAll_45 rfl
theorem dX13_readAll_58 : decode cX13_readAll 58 = .ok (.aload_n 0, 1) := dz0 dzo42 13 dzbX13_readAll_45 rfl
theorem dX13_readAll_59 : decode cX13_readAll 59 = .ok (.bipush 6, 2) := dz3 dzo16 14 6 6 rfl dzbX13_readAll_45 rfl
theorem dX13_readAll_61 : decode cX13_readAll 61 = .ok (.invokevirtual 120, 3) := dz2 dzo182 16 0 120 dzbX13_readAll_45 rfl
theorem dX13_readAll_64 : decode cX13_readAll 64 = .ok (.return_, 1) := dz0 dzo177 19 dzbX13_readAll_45 rfl
theorem dzbX13_readLine_0 : dzB cX13_readLine 0 [42, 18, 139, 182, 0, 116, 153, 0, 10, 42, 182, 0, 169, 167, 0, 56, 42, 18, 141, 182, 0, 116] := by decide +kernel
theorem dX13_readLine_0 : decode cX13_readLine 0 = .ok (.aload_n 0, 1) := dz0 dzo42 0 dzbX13_readLine_0 rfl
theorem dX13_readLine_1 : decode cX13_readLine 1 = .ok (.ldc 139, 2) := dz1 dzo18 1 139 dzbX13_readLine_0 rfl
theorem dX13_readLine_3 : decode cX13_readLine 3 = .ok (.invokevirtual 116, 3) := dz2 dzo182 3 0 116 dzbX13_readLine_0 rfl
theorem dX13_readLine_6 : decode cX13_readLine 6 = .ok (.ifCond .eq 10, 3) := dz4 dzo153 6 0 10 10 rfl dzbX13_readLine_0 rfl
theorem dX13_readLine_9 : decode cX13_readLine 9 = .ok (.aload_n 0, 1) := dz0 dzo42 9 dzbX13_readLine_0 rfl
theorem dX13_readLine_10 : decode cX13_readLine 10 = .ok (.invokevirtual 169, 3) := dz2 dzo182 10 0 169 dzbX13_readLine_0 rfl
theorem dX13_readLine_13 : decode cX13_readLine 13 = .ok (.goto 56, 3) := dz4 dzo167 13 0 56 56 rfl dzbX13_readLine_0 rfl
theorem dX13_readLine_16 : decode cX13_readLine 16 = .ok (.aload_n 0, 1) := dz0 dzo42 16 dzbX13_readLine_0 rfl
theorem dX13_readLine_17 : decode cX13_readLine 17 = .ok (.ldc 141, 2) := dz1 dzo18 17 141 dzbX13_readLine_0 rfl
theorem dX13_readLine_19 : decode cX13_readLine 19 = .ok (.invokevirtual 116, 3) := dz2 dzo182 19 0 116 dzbX13_readLine_0 rfl
theorem dzbX13_readLine_22 : dzB cX13_readLine 22 [153, 0, 10, 42, 182, 0, 172, 167, 0, 40, 42, 18, 143, 182, 0, 116, 153, 0, 10, 42, 182, 0, 175] := by decide +kernel
theorem dX13_readLine_22 : decode cX13_readLine 22 = .ok (.ifCond .eq 10, 3) := dz4 dzo153 0 0 10 10 rfl dzbX13_readLine_22 rfl
theorem dX13_readLine_25 : decode cX13_readLine 25 = .ok (.aload_n 0, 1) := dz0 dzo42 3 dzbX13_readLine_22 rfl
theorem dX13_readLine_26 : decode cX13_readLine 26 = .ok (.invokevirtual 172, 3) := dz2 dzo182 4 0 172 dzbX13_readLine_22 rfl
theorem dX13_readLine_29 : decode cX13_readLine 29 = .ok (.goto 40, 3) := dz4 dzo167 7 0 40 40 rfl dzbX13_readLine_22 rfl
theorem dX13_readLine_32 : decode cX13_readLine 32 = .ok (.aload_n 0, 1) := dz0 dzo42 10 dzbX13_readLine_22 rfl
theorem dX13_readLine_33 : decode cX13_readLine 33 = .ok (.ldc 143, 2) := dz1 dzo18 11 143 dzbX13_readLine_22 rfl
theorem dX13_readLine_35 : decode cX13_readLine 35 = .ok (.invokevirtual 116, 3) := dz2 dzo182 13 0 116 dzbX13_readLine_22 rfl
theorem dX13_readLine_38 : decode cX13_readLine 38 = .ok (.ifCond .eq 10, 3) := dz4 dzo153 16 0 10 10 rfl dzbX13_readLine_22 rfl
theorem dX13_readLine_41 : decode cX13_readLine 41 = .ok (.aload_n 0, 1) := dz0 dzo42 19 dzbX13_readLine_22 rfl
theorem dX13_readLine_42 : decode cX13_readLine 42 = .ok (.invokevirtual 175, 3) := dz2 dzo182 20 0 175 dzbX13_readLine_22 rfl
theorem dzbX13_readLine_45 : dzB cX13_readLine 45 [167, 0, 24, 42, 18, 145, 182, 0, 116, 153, 0, 10, 42, 182, 0, 178, 167, 0, 8, 42, 4, 182, 0, 120] := by decide +kernel
theorem dX13_readLine_45 : decode cX13_readLine 45 = .ok (.goto 24, 3) := dz4 dzo167 0 0 24 24 rfl dzbX13_readLine_45 rfl
theorem dX13_readLine_48 : decode cX13_readLine 48 = .ok (.aload_n 0, 1) := dz0 dzo42 3 dzbX13_readLine_45 rfl
theorem dX13_readLine_49 : decode cX13_readLine 49 = .ok (.ldc 145, 2) := dz1 dzo18 4 145 dzbX13_readLine_45 rfl
theorem dX13_readLine_51 : decode cX13_readLine 51 = .ok (.invokevirtual 116, 3) := dz2 dzo182 6 0 116 dzbX13_readLine_45 rfl
theorem dX13_readLine_54 : decode cX13_readLine 54 = .ok (.ifCond .eq 10, 3) := dz4 dzo153 9 0 10 10 rfl dzbX13_readLine_45 rfl
theorem dX13_readLine_57 : decode cX13_readLine 57 = .ok (.aload_n 0, 1) := dz0 dzo42 12 dzbX13_readLine_45 rfl
theorem dX13_readLine_58 : decode cX13_readLine 58 = .ok (.invokevirtual 178, 3) := dz2 dzo182 13 0 178 dzbX13_readLine_45 rfl
theorem dX13_readLine_61 : decode cX13_readLine 61 = .ok (.goto 8, 3) := dz4 dzo167 16 0 8 8 rfl dzbX13_readLine_45 rfl
theorem dX13_readLine_64 : decode cX13_readLine 64 = .ok (.aload_n 0, 1) := dz0 dzo42 19 dzbX13_readLine_45 rfl
theorem dX13_readLine_65 : decode cX13_readLine 65 = .ok (.iconst 1, 1) := dz0 dzo4 20 dzbX13_readLine_45 rfl
theorem dX13_readLine_66 : decode cX13_readLine 66 = .ok (.invokevirtual 120, 3) := dz2 dzo182 21 0 120 dzbX13_readLine_45 rfl
theorem dzbX13_readLine_69 : dzB cX13_readLine 69 [177] := by decide +kernel
theorem dX13_readLine_69 : decode cX13_readLine 69 = .ok (.return_, 1) := dz0 dzo177 0 dzbX13_readLine_69 rfl
theorem dzbX13_readPark_0 : dzB cX13_readPark 0 [42, 180, 0, 154, 180, 0, 158, 158, 0, 8, 42, 6, 182, 0, 120, 42, 182, 0, 113, 42, 18, 181, 5, 8] := by decide +kernel
theorem dX13_readPark_0 : decode cX13_readPark 0 = .ok (.aload_n 0, 1) := dz0 dzo42 0 dzbX13_readPark_0 rfl
theorem dX13_readPark_1 : decode cX13_readPark 1 = .ok (.getfield 154, 3) := dz2 dzo180 1 0 154 dzbX13_readPark_0 rfl
theorem dX13_readPark_4 : decode cX13_readPark 4 = .ok (.getfield 158, 3) := dz2 dzo180 4 0 158 dzbX13_readPark_0 rfl
theorem dX13_readPark_7 : decode cX13_readPark 7 = .ok (.ifCond .le 8, 3) := dz4 dzo158 7 0 8 8 rfl dzbX13_readPark_0 rfl
theorem dX13_readPark_10 : decode cX13_readPark 10 = .ok (.aload_n 0, 1) := dz0 dzo42 10 dzbX13_readPark_0 rfl
theorem dX13_readPark_11 : decode cX13_readPark 11 = .ok (.iconst 3, 1) := dz0 dzo6 11 dzbX13_readPark_0 rfl
theorem dX13_readPark_12 : decode cX13_readPark 12 = .ok (.invokevirtual 120, 3) := dz2 dzo182 12 0 120 dzbX13_readPark_0 rfl
theorem dX13_readPark_15 : decode cX13_readPark 15 = .ok (.aload_n 0, 1) := dz0 dzo42 15 dzbX13_readPark_0 rfl
theorem dX13_readPark_16 : decode cX13_readPark 16 = .ok (.invokevirtual 113, 3) := dz2 dzo182 16 0 113 dzbX13_readPark_0 rfl
theorem dX13_readPark_19 : decode cX13_readPark 19 = .ok (.aload_n 0, 1) := dz0 dzo42 19 dzbX13_readPark_0 rfl
theorem dX13_readPark_20 : decode cX13_readPark 20 = .ok (.ldc 181, 2) := dz1 dzo18 20 181 dzbX13_readPark_0 rfl
theorem dX13_readPark_22 : decode cX13_readPark 22 = .ok (.iconst 2, 1) := dz0 dzo5 22 dzbX13_readPark_0 rfl
theorem dX13_readPark_23 : decode cX13_readPark 23 = .ok (.iconst 5, 1) := dz0 dzo8 23 dzbX13_readPark_0 rfl
theorem dzbX13_readPark_24 : dzB cX13_readPark 24 [182, 0, 182, 60, 42, 18, 186, 5, 7, 182, 0, 182, 61, 42, 18, 187, 3, 16, 100, 182, 0, 182, 62, 42] := by decide +kernel
theorem dX13_readPark_24 : decode cX13_readPark 24 = .ok (.invokevirtual 182, 3) := dz2 dzo182 0 0 182 dzbX13_readPark_24 rfl
theorem dX13_readPark_27 : decode cX13_readPark 27 = .ok (.istore_n 1, 1) := dz0 dzo60 3 dzbX13_readPark_24 rfl
theorem dX13_readPark_28 : decode cX13_readPark 28 = .ok (.aload_n 0, 1) := dz0 dzo42 4 dzbX13_readPark_24 rfl
theorem dX13_readPark_29 : decode cX13_readPark 29 = .ok (.ldc 186, 2) := dz1 dzo18 5 186 dzbX13_readPark_24 rfl
theorem dX13_readPark_31 : decode cX13_readPark 31 = .ok (.iconst 2, 1) := dz0 dzo5 7 dzbX13_readPark_24 rfl
theorem dX13_readPark_32 : decode cX13_readPark 32 = .ok (.iconst 4, 1) := dz0 dzo7 8 dzbX13_readPark_24 rfl
theorem dX13_readPark_33 : decode cX13_readPark 33 = .ok (.invokevirtual 182, 3) := dz2 dzo182 9 0 182 dzbX13_readPark_24 rfl
theorem dX13_readPark_36 : decode cX13_readPark 36 = .ok (.istore_n 2, 1) := dz0 dzo61 12 dzbX13_readPark_24 rfl
theorem dX13_readPark_37 : decode cX13_readPark 37 = .ok (.aload_n 0, 1) := dz0 dzo42 13 dzbX13_readPark_24 rfl
theorem dX13_readPark_38 : decode cX13_readPark 38 = .ok (.ldc 187, 2) := dz1 dzo18 14 187 dzbX13_readPark_24 rfl
theorem dX13_readPark_40 : decode cX13_readPark 40 = .ok (.iconst 0, 1) := dz0 dzo3 16 dzbX13_readPark_24 rfl
theorem dX13_readPark_41 : decode cX13_readPark 41 = .ok (.bipush 100, 2) := dz3 dzo16 17 100 100 rfl dzbX13_readPark_24 rfl
theorem dX13_readPark_43 : decode cX13_readPark 43 = .ok (.invokevirtual 182, 3) := dz2 dzo182 19 0 182 dzbX13_readPark_24 rfl
theorem dX13_readPark_46 : decode cX13_readPark 46 = .ok (.istore_n 3, 1) := dz0 dzo62 22 dzbX13_readPark_24 rfl
theorem dX13_readPark_47 : decode cX13_readPark 47 = .ok (.aload_n 0, 1) := dz0 dzo42 23 dzbX13_readPark_24 rfl
theorem dzbX13_readPark_48 : dzB cX13_readPark 48 [18, 189, 3, 16, 100, 182, 0, 182, 54, 4, 42, 180, 0, 74, 8, 160, 0, 4, 177, 42, 180, 0, 154, 27] := by decide +kernel
theorem dX13_readPark_48 : decode cX13_readPark 48 = .ok (.ldc 189, 2) := dz1 dzo18 0 189 dzbX13_readPark_48 rfl
theorem dX13_readPark_50 : decode cX13_readPark 50 = .ok (.iconst 0, 1) := dz0 dzo3 2 dzbX13_readPark_48 rfl
theorem dX13_readPark_51 : decode cX13_readPark 51 = .ok (.bipush 100, 2) := dz3 dzo16 3 100 100 rfl dzbX13_readPark_48 rfl
theorem dX13_readPark_53 : decode cX13_readPark 53 = .ok (.invokevirtual 182, 3) := dz2 dzo182 5 0 182 dzbX13_readPark_48 rfl
theorem dX13_readPark_56 : decode cX13_readPark 56 = .ok (.istore 4, 2) := dz1 dzo54 8 4 dzbX13_readPark_48 rfl
theorem dX13_readPark_58 : decode cX13_readPark 58 = .ok (.aload_n 0, 1) := dz0 dzo42 10 dzbX13_readPark_48 rfl
theorem dX13_readPark_59 : decode cX13_readPark 59 = .ok (.getfield 74, 3) := dz2 dzo180 11 0 74 dzbX13_readPark_48 rfl
theorem dX13_readPark_62 : decode cX13_readPark 62 = .ok (.iconst 5, 1) := dz0 dzo8 14 dzbX13_readPark_48 rfl
theorem dX13_readPark_63 : decode cX13_readPark 63 = .ok (.if_icmp .ne 4, 3) := dz4 dzo160 15 0 4 4 rfl dzbX13_readPark_48 rfl
theorem dX13_readPark_66 : decode cX13_readPark 66 = .ok (.return_, 1) := dz0 dzo177 18 dzbX13_readPark_48 rfl
theorem dX13_readPark_67 : decode cX13_readPark 67 = .ok (.aload_n 0, 1) := dz0 dzo42 19 dzbX13_readPark_48 rfl
theorem dX13_readPark_68 : decode cX13_readPark 68 = .ok (.getfield 154, 3) := dz2 dzo180 20 0 154 dzbX13_readPark_48 rfl
theorem dX13_readPark_71 : decode cX13_readPark 71 = .ok (.iload_n 1, 1) := dz0 dzo27 23 dzbX13_readPark_48 rfl
theorem dzbX13_readPark_72 : dzB cX13_readPark 72 [181, 0, 158, 42, 180, 0, 154, 28, 181, 0, 166, 42, 180, 0, 154, 29, 181, 0, 191, 42, 180, 0, 154] := by decide +kernel
theorem dX13_readPark_72 : decode cX13_readPark 72 = .ok (.putfield 158, 3) := dz2 dzo181 0 0 158 dzbX13_readPark_72 rfl
theorem dX13_readPark_75 : decode cX13_readPark 75 = .ok (.aload_n 0, 1) := dz0 dzo42 3 dzbX13_readPark_72 rfl
theorem dX13_readPark_76 : decode cX13_readPark 76 = .ok (.getfield 154, 3) := dz2 dzo180 4 0 154 dzbX13_readPark_72 rfl
theorem dX13_readPark_79 : decode cX13_readPark 79 = .ok (.iload_n 2, 1) := dz0 dzo28 7 dzbX13_readPark_72 rfl
theorem dX13_readPark_80 : decode cX13_readPark 80 = .ok (.putfield 166, 3) := dz2 dzo181 8 0 166 dzbX13_readPark_72 rfl
theorem dX13_readPark_83 : decode cX13_readPark 83 = .ok (.aload_n 0, 1) := dz0 dzo42 11 dzbX13_readPark_72 rfl
theorem dX13_readPark_84 : decode cX13_readPark 84 = .ok (.getfield 154, 3) := dz2 dzo180 12 0 154 dzbX13_readPark_72 rfl
theorem dX13_readPark_87 : decode cX13_readPark 87 = .ok (.iload_n 3, 1) := dz0 dzo29 15 dzbX13_readPark_72 rfl
theorem dX13_readPark_88 : decode cX13_readPark 88 = .ok (.putfield 191, 3) := dz2 dzo181 16 0 191 dzbX13_readPark_72 rfl
theorem dX13_readPark_91 : decode cX13_readPark 91 = .ok (.aload_n 0, 1) := dz0 dzo42 19 dzbX13_readPark_72 rfl
theorem dX13_readPark_92 : decode cX13_readPark 92 = .ok (.getfield 154, 3) := dz2 dzo180 20 0 154 dzbX13_readPark_72 rfl
theorem dzbX13_readPark_95 : dzB cX13_readPark 95 [21, 4, 181, 0, 193, 177] := by decide +kernel
theorem dX13_readPark_95 : decode cX13_readPark 95 = .ok (.iload 4, 2) := dz1 dzo21 0 4 dzbX13_readPark_95 rfl
theorem dX13_readPark_97 : decode cX13_readPark 97 = .ok (.putfield 193, 3) := dz2 dzo181 2 0 193 dzbX13_readPark_95 rfl
theorem dX13_readPark_100 : decode cX13_readPark 100 = .ok (.return_, 1) := dz0 dzo177 5 dzbX13_readPark_95 rfl
theorem dzbX13_readPart_0 : dzB cX13_readPart 0 [42, 43, 182, 0, 132, 42, 28, 29, 182, 0, 136, 172] := by decide +kernel
theorem dX13_readPart_0 : decode cX13_readPart 0 = .ok (.aload_n 0, 1) := dz0 dzo42 0 dzbX13_readPart_0 rfl
theorem dX13_readPart_1 : decode cX13_readPart 1 = .ok (.aload_n 1, 1) := dz0 dzo43 1 dzbX13_readPart_0 rfl
theorem dX13_readPart_2 : decode cX13_readPart 2 = .ok (.invokevirtual 132, 3) := dz2 dzo182 2 0 132 dzbX13_readPart_0 rfl
theorem dX13_readPart_5 : decode cX13_readPart 5 = .ok (.aload_n 0, 1) := dz0 dzo42 5 dzbX13_readPart_0 rfl
theorem dX13_readPart_6 : decode cX13_readPart 6 = .ok (.iload_n 2, 1) := dz0 dzo28 6 dzbX13_readPart_0 rfl
theorem dX13_readPart_7 : decode cX13_readPart 7 = .ok (.iload_n 3, 1) := dz0 dzo29 7 dzbX13_readPart_0 rfl
theorem dX13_readPart_8 : decode cX13_readPart 8 = .ok (.invokevirtual 136, 3) := dz2 dzo182 8 0 136 dzbX13_readPart_0 rfl
theorem dX13_readPart_11 : decode cX13_readPart 11 = .ok (.ireturn, 1) := dz0 dzo172 11 dzbX13_readPart_0 rfl
theorem dzbX13_readRow_0 : dzB cX13_readRow 0 [42, 180, 0, 154, 180, 0, 158, 158, 0, 25, 42, 180, 0, 154, 180, 0, 163, 42, 180, 0, 154, 180, 0, 166] := by decide +kernel
theorem dX13_readRow_0 : decode cX13_readRow 0 = .ok (.aload_n 0, 1) := dz0 dzo42 0 dzbX13_readRow_0 rfl
theorem dX13_readRow_1 : decode cX13_readRow 1 = .ok (.getfield 154, 3) := dz2 dzo180 1 0 154 dzbX13_readRow_0 rfl
theorem dX13_readRow_4 : decode cX13_readRow 4 = .ok (.getfield 158, 3) := dz2 dzo180 4 0 158 dzbX13_readRow_0 rfl
theorem dX13_readRow_7 : decode cX13_readRow 7 = .ok (.ifCond .le 25, 3) := dz4 dzo158 7 0 25 25 rfl dzbX13_readRow_0 rfl
theorem dX13_readRow_10 : decode cX13_readRow 10 = .ok (.aload_n 0, 1) := dz0 dzo42 10 dzbX13_readRow_0 rfl
theorem dX13_readRow_11 : decode cX13_readRow 11 = .ok (.getfield 154, 3) := dz2 dzo180 11 0 154 dzbX13_readRow_0 rfl
theorem dX13_readRow_14 : decode cX13_readRow 14 = .ok (.getfield 163, 3) := dz2 dzo180 14 0 163 dzbX13_readRow_0 rfl
theorem dX13_readRow_17 : decode cX13_readRow 17 = .ok (.aload_n 0, 1) := dz0 dzo42 17 dzbX13_readRow_0 rfl
theorem dX13_readRow_18 : decode cX13_readRow 18 = .ok (.getfield 154, 3) := dz2 dzo180 18 0 154 dzbX13_readRow_0 rfl
theorem dX13_readRow_21 : decode cX13_readRow 21 = .ok (.getfield 166, 3) := dz2 dzo180 21 0 166 dzbX13_readRow_0 rfl
theorem dzbX13_readRow_24 : dzB cX13_readRow 24 [160, 0, 8, 42, 8, 182, 0, 120, 42, 180, 0, 154, 180, 0, 158, 154, 0, 9, 42, 16, 6, 182, 0, 120] := by decide +kernel
theorem dX13_readRow_24 : decode cX13_readRow 24 = .ok (.if_icmp .ne 8, 3) := dz4 dzo160 0 0 8 8 rfl dzbX13_readRow_24 rfl
theorem dX13_readRow_27 : decode cX13_readRow 27 = .ok (.aload_n 0, 1) := dz0 dzo42 3 dzbX13_readRow_24 rfl
theorem dX13_readRow_28 : decode cX13_readRow 28 = .ok (.iconst 5, 1) := dz0 dzo8 4 dzbX13_readRow_24 rfl
theorem dX13_readRow_29 : decode cX13_readRow 29 = .ok (.invokevirtual 120, 3) := dz2 dzo182 5 0 120 dzbX13_readRow_24 rfl
theorem dX13_readRow_32 : decode cX13_readRow 32 = .ok (.aload_n 0, 1) := dz0 dzo42 8 dzbX13_readRow_24 rfl
theorem dX13_readRow_33 : decode cX13_readRow 33 = .ok (.getfield 154, 3) := dz2 dzo180 9 0 154 dzbX13_readRow_24 rfl
theorem dX13_readRow_36 : decode cX13_readRow 36 = .ok (.getfield 158, 3) := dz2 dzo180 12 0 158 dzbX13_readRow_24 rfl
theorem dX13_readRow_39 : decode cX13_readRow 39 = .ok (.ifCond .ne 9, 3) := dz4 dzo154 15 0 9 9 rfl dzbX13_readRow_24 rfl
theorem dX13_readRow_42 : decode cX13_readRow 42 = .ok (.aload_n 0, 1) := dz0 dzo42 18 dzbX13_readRow_24 rfl
theorem dX13_readRow_43 : decode cX13_readRow 43 = .ok (.bipush 6, 2) := dz3 dzo16 19 6 6 rfl dzbX13_readRow_24 rfl
theorem dX13_readRow_45 : decode cX13_readRow 45 = .ok (.invokevirtual 120, 3) := dz2 dzo182 21 0 120 dzbX13_readRow_24 rfl
theorem dzbX13_readRow_48 : dzB cX13_readRow 48 [42, 182, 0, 113, 42, 180, 0, 74, 5, 160, 0, 17, 42, 180, 0, 94, 42, 180, 0, 154, 180, 0, 158] := by decide +kernel
theorem dX13_readRow_48 : decode cX13_readRow 48 = .ok (.aload_n 0, 1) := dz0 dzo42 0 dzbX13_readRow_48 rfl
theorem dX13_readRow_49 : decode cX13_readRow 49 = .ok (.invokevirtual 113, 3) := dz2 dzo182 1 0 113 dzbX13_readRow_48 rfl
theorem dX13_readRow_52 : decode cX13_readRow 52 = .ok (.aload_n 0, 1) := dz0 dzo42 4 dzbX13_readRow_48 rfl
theorem dX13_readRow_53 : decode cX13_readRow 53 = .ok (.getfield 74, 3) := dz2 dzo180 5 0 74 dzbX13_readRow_48 rfl
theorem dX13_readRow_56 : decode cX13_readRow 56 = .ok (.iconst 2, 1) := dz0 dzo5 8 dzbX13_readRow_48 rfl
theorem dX13_readRow_57 : decode cX13_readRow 57 = .ok (.if_icmp .ne 17, 3) := dz4 dzo160 9 0 17 17 rfl dzbX13_readRow_48 rfl
theorem dX13_readRow_60 : decode cX13_readRow 60 = .ok (.aload_n 0, 1) := dz0 dzo42 12 dzbX13_readRow_48 rfl
theorem dX13_readRow_61 : decode cX13_readRow 61 = .ok (.getfield 94, 3) := dz2 dzo180 13 0 94 dzbX13_readRow_48 rfl
theorem dX13_readRow_64 : decode cX13_readRow 64 = .ok (.aload_n 0, 1) := dz0 dzo42 16 dzbX13_readRow_48 rfl
theorem dX13_readRow_65 : decode cX13_readRow 65 = .ok (.getfield 154, 3) := dz2 dzo180 17 0 154 dzbX13_readRow_48 rfl
theorem dX13_readRow_68 : decode cX13_readRow 68 = .ok (.getfield 158, 3) := dz2 dzo180 20 0 158 dzbX13_readRow_48 rfl
theorem dzbX13_readRow_71 : dzB cX13_readRow 71 [159, 0, 8, 42, 4, 182, 0, 120, 42, 180, 0, 154, 180, 0, 195, 60, 3, 61, 28, 42, 180, 0, 154] := by decide +kernel
theorem dX13_readRow_71 : decode cX13_readRow 71 = .ok (.if_icmp .eq 8, 3) := dz4 dzo159 0 0 8 8 rfl dzbX13_readRow_71 rfl
theorem dX13_readRow_74 : decode cX13_readRow 74 = .ok (.aload_n 0, 1) := dz0 dzo42 3 dzbX13_readRow_71 rfl
theorem dX13_readRow_75 : decode cX13_readRow 75 = .ok (.iconst 1, 1) := dz0 dzo4 4 dzbX13_readRow_71 rfl
theorem dX13_readRow_76 : decode cX13_readRow 76 = .ok (.invokevirtual 120, 3) := dz2 dzo182 5 0 120 dzbX13_readRow_71 rfl
theorem dX13_readRow_79 : decode cX13_readRow 79 = .ok (.aload_n 0, 1) := dz0 dzo42 8 dzbX13_readRow_71 rfl
theorem dX13_readRow_80 : decode cX13_readRow 80 = .ok (.getfield 154, 3) := dz2 dzo180 9 0 154 dzbX13_readRow_71 rfl
theorem dX13_readRow_83 : decode cX13_readRow 83 = .ok (.getfield 195, 3) := dz2 dzo180 12 0 195 dzbX13_readRow_71 rfl
theorem dX13_readRow_86 : decode cX13_readRow 86 = .ok (.istore_n 1, 1) := dz0 dzo60 15 dzbX13_readRow_71 rfl
theorem dX13_readRow_87 : decode cX13_readRow 87 = .ok (.iconst 0, 1) := dz0 dzo3 16 dzbX13_readRow_71 rfl
theorem dX13_readRow_88 : decode cX13_readRow 88 = .ok (.istore_n 2, 1) := dz0 dzo61 17 dzbX13_readRow_71 rfl
theorem dX13_readRow_89 : decode cX13_readRow 89 = .ok (.iload_n 2, 1) := dz0 dzo28 18 dzbX13_readRow_71 rfl
theorem dX13_readRow_90 : decode cX13_readRow 90 = .ok (.aload_n 0, 1) := dz0 dzo42 19 dzbX13_readRow_71 rfl
theorem dX13_readRow_91 : decode cX13_readRow 91 = .ok (.getfield 154, 3) := dz2 dzo180 20 0 154 dzbX13_readRow_71 rfl
theorem dzbX13_readRow_94 : dzB cX13_readRow 94 [180, 0, 158, 162, 0, 62, 42, 180, 0, 74, 8, 159, 0, 54, 42, 42, 180, 0, 83, 28, 96, 182, 0, 80] := by decide +kernel
theorem dX13_readRow_94 : decode cX13_readRow 94 = .ok (.getfield 158, 3) := dz2 dzo180 0 0 158 dzbX13_readRow_94 rfl
theorem dX13_readRow_97 : decode cX13_readRow 97 = .ok (.if_icmp .ge 62, 3) := dz4 dzo162 3 0 62 62 rfl dzbX13_readRow_94 rfl
theorem dX13_readRow_100 : decode cX13_readRow 100 = .ok (.aload_n 0, 1) := dz0 dzo42 6 dzbX13_readRow_94 rfl
theorem dX13_readRow_101 : decode cX13_readRow 101 = .ok (.getfield 74, 3) := dz2 dzo180 7 0 74 dzbX13_readRow_94 rfl
theorem dX13_readRow_104 : decode cX13_readRow 104 = .ok (.iconst 5, 1) := dz0 dzo8 10 dzbX13_readRow_94 rfl
theorem dX13_readRow_105 : decode cX13_readRow 105 = .ok (.if_icmp .eq 54, 3) := dz4 dzo159 11 0 54 54 rfl dzbX13_readRow_94 rfl
theorem dX13_readRow_108 : decode cX13_readRow 108 = .ok (.aload_n 0, 1) := dz0 dzo42 14 dzbX13_readRow_94 rfl
theorem dX13_readRow_109 : decode cX13_readRow 109 = .ok (.aload_n 0, 1) := dz0 dzo42 15 dzbX13_readRow_94 rfl
theorem dX13_readRow_110 : decode cX13_readRow 110 = .ok (.getfield 83, 3) := dz2 dzo180 16 0 83 dzbX13_readRow_94 rfl
theorem dX13_readRow_113 : decode cX13_readRow 113 = .ok (.iload_n 2, 1) := dz0 dzo28 19 dzbX13_readRow_94 rfl
theorem dX13_readRow_114 : decode cX13_readRow 114 = .ok (.iadd, 1) := dz0 dzo96 20 dzbX13_readRow_94 rfl
theorem dX13_readRow_115 : decode cX13_readRow 115 = .ok (.invokevirtual 80, 3) := dz2 dzo182 21 0 80 dzbX13_readRow_94 rfl
theorem dzbX13_readRow_118 : dzB cX13_readRow 118 [184, 0, 198, 2, 160, 0, 8, 42, 4, 182, 0, 120, 27, 42, 42, 180, 0, 83, 28, 96, 182, 0, 80] := by decide +kernel
theorem dX13_readRow_118 : decode cX13_readRow 118 = .ok (.invokestatic 198, 3) := dz2 dzo184 0 0 198 dzbX13_readRow_118 rfl
theorem dX13_readRow_121 : decode cX13_readRow 121 = .ok (.iconst (-1), 1) := dz0 dzo2 3 dzbX13_readRow_118 rfl
theorem dX13_readRow_122 : decode cX13_readRow 122 = .ok (.if_icmp .ne 8, 3) := dz4 dzo160 4 0 8 8 rfl dzbX13_readRow_118 rfl
theorem dX13_readRow_125 : decode cX13_readRow 125 = .ok (.aload_n 0, 1) := dz0 dzo42 7 dzbX13_readRow_118 rfl
theorem dX13_readRow_126 : decode cX13_readRow 126 = .ok (.iconst 1, 1) := dz0 dzo4 8 dzbX13_readRow_118 rfl
theorem dX13_readRow_127 : decode cX13_readRow 127 = .ok (.invokevirtual 120, 3) := dz2 dzo182 9 0 120 dzbX13_readRow_118 rfl
theorem dX13_readRow_130 : decode cX13_readRow 130 = .ok (.iload_n 1, 1) := dz0 dzo27 12 dzbX13_readRow_118 rfl
theorem dX13_readRow_131 : decode cX13_readRow 131 = .ok (.aload_n 0, 1) := dz0 dzo42 13 dzbX13_readRow_118 rfl
theorem dX13_readRow_132 : decode cX13_readRow 132 = .ok (.aload_n 0, 1) := dz0 dzo42 14 dzbX13_readRow_118 rfl
theorem dX13_readRow_133 : decode cX13_readRow 133 = .ok (.getfield 83, 3) := dz2 dzo180 15 0 83 dzbX13_readRow_118 rfl
theorem dX13_readRow_136 : decode cX13_readRow 136 = .ok (.iload_n 2, 1) := dz0 dzo28 18 dzbX13_readRow_118 rfl
theorem dX13_readRow_137 : decode cX13_readRow 137 = .ok (.iadd, 1) := dz0 dzo96 19 dzbX13_readRow_118 rfl
theorem dX13_readRow_138 : decode cX13_readRow 138 = .ok (.invokevirtual 80, 3) := dz2 dzo182 20 0 80 dzbX13_readRow_118 rfl
theorem dzbX13_readRow_141 : dzB cX13_readRow 141 [16, 117, 160, 0, 7, 4, 167, 0, 4, 3, 96, 60, 132, 2, 1, 167, 255, 189, 27, 8, 164, 0, 8, 42] := by decide +kernel
theorem dX13_readRow_141 : decode cX13_readRow 141 = .ok (.bipush 117, 2) := dz3 dzo16 0 117 117 rfl dzbX13_readRow_141 rfl
theorem dX13_readRow_143 : decode cX13_readRow 143 = .ok (.if_icmp .ne 7, 3) := dz4 dzo160 2 0 7 7 rfl dzbX13_readRow_141 rfl
theorem dX13_readRow_146 : decode cX13_readRow 146 = .ok (.iconst 1, 1) := dz0 dzo4 5 dzbX13_readRow_141 rfl
theorem dX13_readRow_147 : decode cX13_readRow 147 = .ok (.goto 4, 3) := dz4 dzo167 6 0 4 4 rfl dzbX13_readRow_141 rfl
theorem dX13_readRow_150 : decode cX13_readRow 150 = .ok (.iconst 0, 1) := dz0 dzo3 9 dzbX13_readRow_141 rfl
theorem dX13_readRow_151 : decode cX13_readRow 151 = .ok (.iadd, 1) := dz0 dzo96 10 dzbX13_readRow_141 rfl
theorem dX13_readRow_152 : decode cX13_readRow 152 = .ok (.istore_n 1, 1) := dz0 dzo60 11 dzbX13_readRow_141 rfl
theorem dX13_readRow_153 : decode cX13_readRow 153 = .ok (.iinc 2 1, 3) := dz5 dzo132 12 2 1 1 rfl dzbX13_readRow_141 rfl
theorem dX13_readRow_156 : decode cX13_readRow 156 = .ok (.goto (-67), 3) := dz4 dzo167 15 255 189 (-67) rfl dzbX13_readRow_141 rfl
theorem dX13_readRow_159 : decode cX13_readRow 159 = .ok (.iload_n 1, 1) := dz0 dzo27 18 dzbX13_readRow_141 rfl
theorem dX13_readRow_160 : decode cX13_readRow 160 = .ok (.iconst 5, 1) := dz0 dzo8 19 dzbX13_readRow_141 rfl
theorem dX13_readRow_161 : decode cX13_readRow 161 = .ok (.if_icmp .le 8, 3) := dz4 dzo164 20 0 8 8 rfl dzbX13_readRow_141 rfl
theorem dX13_readRow_164 : decode cX13_readRow 164 = .ok (.aload_n 0, 1) := dz0 dzo42 23 dzbX13_readRow_141 rfl
theorem dzbX13_readRow_165 : dzB cX13_readRow 165 [8, 182, 0, 120, 3, 61, 28, 42, 180, 0, 154, 180, 0, 158, 162, 0, 104, 42, 180, 0, 74, 8] := by decide +kernel
theorem dX13_readRow_165 : decode cX13_readRow 165 = .ok (.iconst 5, 1) := dz0 dzo8 0 dzbX13_readRow_165 rfl
theorem dX13_readRow_166 : decode cX13_readRow 166 = .ok (.invokevirtual 120, 3) := dz2 dzo182 1 0 120 dzbX13_readRow_165 rfl
theorem dX13_readRow_169 : decode cX13_readRow 169 = .ok (.iconst 0, 1) := dz0 dzo3 4 dzbX13_readRow_165 rfl
theorem dX13_readRow_170 : decode cX13_readRow 170 = .ok (.istore_n 2, 1) := dz0 dzo61 5 dzbX13_readRow_165 rfl
theorem dX13_readRow_171 : decode cX13_readRow 171 = .ok (.iload_n 2, 1) := dz0 dzo28 6 dzbX13_readRow_165 rfl
theorem dX13_readRow_172 : decode cX13_readRow 172 = .ok (.aload_n 0, 1) := dz0 dzo42 7 dzbX13_readRow_165 rfl
theorem dX13_readRow_173 : decode cX13_readRow 173 = .ok (.getfield 154, 3) := dz2 dzo180 8 0 154 dzbX13_readRow_165 rfl
theorem dX13_readRow_176 : decode cX13_readRow 176 = .ok (.getfield 158, 3) := dz2 dzo180 11 0 158 dzbX13_readRow_165 rfl
theorem dX13_readRow_179 : decode cX13_readRow 179 = .ok (.if_icmp .ge 104, 3) := dz4 dzo162 14 0 104 104 rfl dzbX13_readRow_165 rfl
theorem dX13_readRow_182 : decode cX13_readRow 182 = .ok (.aload_n 0, 1) := dz0 dzo42 17 dzbX13_readRow_165 rfl
theorem dX13_readRow_183 : decode cX13_readRow 183 = .ok (.getfield 74, 3) := dz2 dzo180 18 0 74 dzbX13_readRow_165 rfl
theorem dX13_readRow_186 : decode cX13_readRow 186 = .ok (.iconst 5, 1) := dz0 dzo8 21 dzbX13_readRow_165 rfl
theorem dzbX13_readRow_187 : dzB cX13_readRow 187 [159, 0, 96, 42, 180, 0, 154, 180, 0, 158, 42, 180, 0, 154, 180, 0, 163, 104, 28, 96, 62, 42] := by decide +kernel
theorem dX13_readRow_187 : decode cX13_readRow 187 = .ok (.if_icmp .eq 96, 3) := dz4 dzo159 0 0 96 96 rfl dzbX13_readRow_187 rfl
theorem dX13_readRow_190 : decode cX13_readRow 190 = .ok (.aload_n 0, 1) := dz0 dzo42 3 dzbX13_readRow_187 rfl
theorem dX13_readRow_191 : decode cX13_readRow 191 = .ok (.getfield 154, 3) := dz2 dzo180 4 0 154 dzbX13_readRow_187 rfl
theorem dX13_readRow_194 : decode cX13_readRow 194 = .ok (.getfield 158, 3) := dz2 dzo180 7 0 158 dzbX13_readRow_187 rfl
theorem dX13_readRow_197 : decode cX13_readRow 197 = .ok (.aload_n 0, 1) := dz0 dzo42 10 dzbX13_readRow_187 rfl
theorem dX13_readRow_198 : decode cX13_readRow 198 = .ok (.getfield 154, 3) := dz2 dzo180 11 0 154 dzbX13_readRow_187 rfl
theorem dX13_readRow_201 : decode cX13_readRow 201 = .ok (.getfield 163, 3) := dz2 dzo180 14 0 163 dzbX13_readRow_187 rfl
theorem dX13_readRow_204 : decode cX13_readRow 204 = .ok (.imul, 1) := dz0 dzo104 17 dzbX13_readRow_187 rfl
theorem dX13_readRow_205 : decode cX13_readRow 205 = .ok (.iload_n 2, 1) := dz0 dzo28 18 dzbX13_readRow_187 rfl
theorem dX13_readRow_206 : decode cX13_readRow 206 = .ok (.iadd, 1) := dz0 dzo96 19 dzbX13_readRow_187 rfl
theorem dX13_readRow_207 : decode cX13_readRow 207 = .ok (.istore_n 3, 1) := dz0 dzo62 20 dzbX13_readRow_187 rfl
theorem dX13_readRow_208 : decode cX13_readRow 208 = .ok (.aload_n 0, 1) := dz0 dzo42 21 dzbX13_readRow_187 rfl
theorem dzbX13_readRow_209 : dzB cX13_readRow 209 [180, 0, 154, 180, 0, 201, 29, 42, 42, 180, 0, 83, 28, 96, 182, 0, 80, 184, 0, 198, 79, 42, 42] := by decide +kernel
theorem dX13_readRow_209 : decode cX13_readRow 209 = .ok (.getfield 154, 3) := dz2 dzo180 0 0 154 dzbX13_readRow_209 rfl
theorem dX13_readRow_212 : decode cX13_readRow 212 = .ok (.getfield 201, 3) := dz2 dzo180 3 0 201 dzbX13_readRow_209 rfl
theorem dX13_readRow_215 : decode cX13_readRow 215 = .ok (.iload_n 3, 1) := dz0 dzo29 6 dzbX13_readRow_209 rfl
theorem dX13_readRow_216 : decode cX13_readRow 216 = .ok (.aload_n 0, 1) := dz0 dzo42 7 dzbX13_readRow_209 rfl
theorem dX13_readRow_217 : decode cX13_readRow 217 = .ok (.aload_n 0, 1) := dz0 dzo42 8 dzbX13_readRow_209 rfl
theorem dX13_readRow_218 : decode cX13_readRow 218 = .ok (.getfield 83, 3) := dz2 dzo180 9 0 83 dzbX13_readRow_209 rfl
theorem dX13_readRow_221 : decode cX13_readRow 221 = .ok (.iload_n 2, 1) := dz0 dzo28 12 dzbX13_readRow_209 rfl
theorem dX13_readRow_222 : decode cX13_readRow 222 = .ok (.iadd, 1) := dz0 dzo96 13 dzbX13_readRow_209 rfl
theorem dX13_readRow_223 : decode cX13_readRow 223 = .ok (.invokevirtual 80, 3) := dz2 dzo182 14 0 80 dzbX13_readRow_209 rfl
theorem dX13_readRow_226 : decode cX13_readRow 226 = .ok (.invokestatic 198, 3) := dz2 dzo184 17 0 198 dzbX13_readRow_209 rfl
theorem dX13_readRow_229 : decode cX13_readRow 229 = .ok (.iastore, 1) := dz0 dzo79 20 dzbX13_readRow_209 rfl
theorem dX13_readRow_230 : decode cX13_readRow 230 = .ok (.aload_n 0, 1) := dz0 dzo42 21 dzbX13_readRow_209 rfl
theorem dX13_readRow_231 : decode cX13_readRow 231 = .ok (.aload_n 0, 1) := dz0 dzo42 22 dzbX13_readRow_209 rfl
theorem dzbX13_readRow_232 : dzB cX13_readRow 232 [180, 0, 83, 28, 96, 182, 0, 80, 16, 117, 159, 0, 6, 167, 0, 32, 42, 180, 0, 154, 180, 0, 203, 42] := by decide +kernel
theorem dX13_readRow_232 : decode cX13_readRow 232 = .ok (.getfield 83, 3) := dz2 dzo180 0 0 83 dzbX13_readRow_232 rfl
theorem dX13_readRow_235 : decode cX13_readRow 235 = .ok (.iload_n 2, 1) := dz0 dzo28 3 dzbX13_readRow_232 rfl
theorem dX13_readRow_236 : decode cX13_readRow 236 = .ok (.iadd, 1) := dz0 dzo96 4 dzbX13_readRow_232 rfl
theorem dX13_readRow_237 : decode cX13_readRow 237 = .ok (.invokevirtual 80, 3) := dz2 dzo182 5 0 80 dzbX13_readRow_232 rfl
theorem dX13_readRow_240 : decode cX13_readRow 240 = .ok (.bipush 117, 2) := dz3 dzo16 8 117 117 rfl dzbX13_readRow_232 rfl
theorem dX13_readRow_242 : decode cX13_readRow 242 = .ok (.if_icmp .eq 6, 3) := dz4 dzo159 10 0 6 6 rfl dzbX13_readRow_232 rfl
theorem dX13_readRow_245 : decode cX13_readRow 245 = .ok (.goto 32, 3) := dz4 dzo167 13 0 32 32 rfl dzbX13_readRow_232 rfl
theorem dX13_readRow_248 : decode cX13_readRow 248 = .ok (.aload_n 0, 1) := dz0 dzo42 16 dzbX13_readRow_232 rfl
theorem dX13_readRow_249 : decode cX13_readRow 249 = .ok (.getfield 154, 3) := dz2 dzo180 17 0 154 dzbX13_readRow_232 rfl
theorem dX13_readRow_252 : decode cX13_readRow 252 = .ok (.getfield 203, 3) := dz2 dzo180 20 0 203 dzbX13_readRow_232 rfl
theorem dX13_readRow_255 : decode cX13_readRow 255 = .ok (.aload_n 0, 1) := dz0 dzo42 23 dzbX13_readRow_232 rfl
theorem dzbX13_readRow_256 : dzB cX13_readRow 256 [180, 0, 154, 180, 0, 195, 29, 79, 42, 180, 0, 154, 89, 180, 0, 195, 4, 96, 181, 0, 195, 132, 2, 1] := by decide +kernel
theorem dX13_readRow_256 : decode cX13_readRow 256 = .ok (.getfield 154, 3) := dz2 dzo180 0 0 154 dzbX13_readRow_256 rfl
theorem dX13_readRow_259 : decode cX13_readRow 259 = .ok (.getfield 195, 3) := dz2 dzo180 3 0 195 dzbX13_readRow_256 rfl
theorem dX13_readRow_262 : decode cX13_readRow 262 = .ok (.iload_n 3, 1) := dz0 dzo29 6 dzbX13_readRow_256 rfl
theorem dX13_readRow_263 : decode cX13_readRow 263 = .ok (.iastore, 1) := dz0 dzo79 7 dzbX13_readRow_256 rfl
theorem dX13_readRow_264 : decode cX13_readRow 264 = .ok (.aload_n 0, 1) := dz0 dzo42 8 dzbX13_readRow_256 rfl
theorem dX13_readRow_265 : decode cX13_readRow 265 = .ok (.getfield 154, 3) := dz2 dzo180 9 0 154 dzbX13_readRow_256 rfl
theorem dX13_readRow_268 : decode cX13_readRow 268 = .ok (.dup, 1) := dz0 dzo89 12 dzbX13_readRow_256 rfl
theorem dX13_readRow_269 : decode cX13_readRow 269 = .ok (.getfield 195, 3) := dz2 dzo180 13 0 195 dzbX13_readRow_256 rfl
theorem dX13_readRow_272 : decode cX13_readRow 272 = .ok (.iconst 1, 1) := dz0 dzo4 16 dzbX13_readRow_256 rfl
theorem dX13_readRow_273 : decode cX13_readRow 273 = .ok (.iadd, 1) := dz0 dzo96 17 dzbX13_readRow_256 rfl
theorem dX13_readRow_274 : decode cX13_readRow 274 = .ok (.putfield 195, 3) := dz2 dzo181 18 0 195 dzbX13_readRow_256 rfl
theorem dX13_readRow_277 : decode cX13_readRow 277 = .ok (.iinc 2 1, 3) := dz5 dzo132 21 2 1 1 rfl dzbX13_readRow_256 rfl
theorem dzbX13_readRow_280 : dzB cX13_readRow 280 [167, 255, 147, 42, 182, 0, 113, 42, 180, 0, 74, 8, 159, 0, 16, 42, 180, 0, 154, 89, 180, 0, 163, 4] := by decide +kernel
theorem dX13_readRow_280 : decode cX13_readRow 280 = .ok (.goto (-109), 3) := dz4 dzo167 0 255 147 (-109) rfl dzbX13_readRow_280 rfl
theorem dX13_readRow_283 : decode cX13_readRow 283 = .ok (.aload_n 0, 1) := dz0 dzo42 3 dzbX13_readRow_280 rfl
theorem dX13_readRow_284 : decode cX13_readRow 284 = .ok (.invokevirtual 113, 3) := dz2 dzo182 4 0 113 dzbX13_readRow_280 rfl
theorem dX13_readRow_287 : decode cX13_readRow 287 = .ok (.aload_n 0, 1) := dz0 dzo42 7 dzbX13_readRow_280 rfl
theorem dX13_readRow_288 : decode cX13_readRow 288 = .ok (.getfield 74, 3) := dz2 dzo180 8 0 74 dzbX13_readRow_280 rfl
theorem dX13_readRow_291 : decode cX13_readRow 291 = .ok (.iconst 5, 1) := dz0 dzo8 11 dzbX13_readRow_280 rfl
theorem dX13_readRow_292 : decode cX13_readRow 292 = .ok (.if_icmp .eq 16, 3) := dz4 dzo159 12 0 16 16 rfl dzbX13_readRow_280 rfl
theorem dX13_readRow_295 : decode cX13_readRow 295 = .ok (.aload_n 0, 1) := dz0 dzo42 15 dzbX13_readRow_280 rfl
theorem dX13_readRow_296 : decode cX13_readRow 296 = .ok (.getfield 154, 3) := dz2 dzo180 16 0 154 dzbX13_readRow_280 rfl
theorem dX13_readRow_299 : decode cX13_readRow 299 = .ok (.dup, 1) := dz0 dzo89 19 dzbX13_readRow_280 rfl
theorem dX13_readRow_300 : decode cX13_readRow 300 = .ok (.getfield 163, 3) := dz2 dzo180 20 0 163 dzbX13_readRow_280 rfl
theorem dX13_readRow_303 : decode cX13_readRow 303 = .ok (.iconst 1, 1) := dz0 dzo4 23 dzbX13_readRow_280 rfl
theorem dzbX13_readRow_304 : dzB cX13_readRow 304 [96, 181, 0, 163, 177] := by decide +kernel
theorem dX13_readRow_304 : decode cX13_readRow 304 = .ok (.iadd, 1) := dz0 dzo96 0 dzbX13_readRow_304 rfl
theorem dX13_readRow_305 : decode cX13_readRow 305 = .ok (.putfield 163, 3) := dz2 dzo181 1 0 163 dzbX13_readRow_304 rfl
theorem dX13_readRow_308 : decode cX13_readRow 308 = .ok (.return_, 1) := dz0 dzo177 4 dzbX13_readRow_304 rfl
theorem dzbX13_readSpot_0 : dzB cX13_readSpot 0 [42, 3, 42, 180, 0, 154, 180, 0, 158, 4, 100, 182, 0, 136, 60, 42, 3, 42, 180, 0, 154, 180, 0, 166] := by decide +kernel
theorem dX13_readSpot_0 : decode cX13_readSpot 0 = .ok (.aload_n 0, 1) := dz0 dzo42 0 dzbX13_readSpot_0 rfl
theorem dX13_readSpot_1 : decode cX13_readSpot 1 = .ok (.iconst 0, 1) := dz0 dzo3 1 dzbX13_readSpot_0 rfl
theorem dX13_readSpot_2 : decode cX13_readSpot 2 = .ok (.aload_n 0, 1) := dz0 dzo42 2 dzbX13_readSpot_0 rfl
theorem dX13_readSpot_3 : decode cX13_readSpot 3 = .ok (.getfield 154, 3) := dz2 dzo180 3 0 154 dzbX13_readSpot_0 rfl
theorem dX13_readSpot_6 : decode cX13_readSpot 6 = .ok (.getfield 158, 3) := dz2 dzo180 6 0 158 dzbX13_readSpot_0 rfl
theorem dX13_readSpot_9 : decode cX13_readSpot 9 = .ok (.iconst 1, 1) := dz0 dzo4 9 dzbX13_readSpot_0 rfl
theorem dX13_readSpot_10 : decode cX13_readSpot 10 = .ok (.isub, 1) := dz0 dzo100 10 dzbX13_readSpot_0 rfl
theorem dX13_readSpot_11 : decode cX13_readSpot 11 = .ok (.invokevirtual 136, 3) := dz2 dzo182 11 0 136 dzbX13_readSpot_0 rfl
theorem dX13_readSpot_14 : decode cX13_readSpot 14 = .ok (.istore_n 1, 1) := dz0 dzo60 14 dzbX13_readSpot_0 rfl
theorem dX13_readSpot_15 : decode cX13_readSpot 15 = .ok (.aload_n 0, 1) := dz0 dzo42 15 dzbX13_readSpot_0 rfl
theorem dX13_readSpot_16 : decode cX13_readSpot 16 = .ok (.iconst 0, 1) := dz0 dzo3 16 dzbX13_readSpot_0 rfl
theorem dX13_readSpot_17 : decode cX13_readSpot 17 = .ok (.aload_n 0, 1) := dz0 dzo42 17 dzbX13_readSpot_0 rfl
theorem dX13_readSpot_18 : decode cX13_readSpot 18 = .ok (.getfield 154, 3) := dz2 dzo180 18 0 154 dzbX13_readSpot_0 rfl
theorem dX13_readSpot_21 : decode cX13_readSpot 21 = .ok (.getfield 166, 3) := dz2 dzo180 21 0 166 dzbX13_readSpot_0 rfl
theorem dzbX13_readSpot_24 : dzB cX13_readSpot 24 [4, 100, 182, 0, 128, 61, 42, 180, 0, 154, 180, 0, 158, 28, 104, 27, 96, 62, 42, 180, 0, 74, 8] := by decide +kernel
theorem dX13_readSpot_24 : decode cX13_readSpot 24 = .ok (.iconst 1, 1) := dz0 dzo4 0 dzbX13_readSpot_24 rfl
theorem dX13_readSpot_25 : decode cX13_readSpot 25 = .ok (.isub, 1) := dz0 dzo100 1 dzbX13_readSpot_24 rfl
theorem dX13_readSpot_26 : decode cX13_readSpot 26 = .ok (.invokevirtual 128, 3) := dz2 dzo182 2 0 128 dzbX13_readSpot_24 rfl
theorem dX13_readSpot_29 : decode cX13_readSpot 29 = .ok (.istore_n 2, 1) := dz0 dzo61 5 dzbX13_readSpot_24 rfl
theorem dX13_readSpot_30 : decode cX13_readSpot 30 = .ok (.aload_n 0, 1) := dz0 dzo42 6 dzbX13_readSpot_24 rfl
theorem dX13_readSpot_31 : decode cX13_readSpot 31 = .ok (.getfield 154, 3) := dz2 dzo180 7 0 154 dzbX13_readSpot_24 rfl
theorem dX13_readSpot_34 : decode cX13_readSpot 34 = .ok (.getfield 158, 3) := dz2 dzo180 10 0 158 dzbX13_readSpot_24 rfl
theorem dX13_readSpot_37 : decode cX13_readSpot 37 = .ok (.iload_n 2, 1) := dz0 dzo28 13 dzbX13_readSpot_24 rfl
theorem dX13_readSpot_38 : decode cX13_readSpot 38 = .ok (.imul, 1) := dz0 dzo104 14 dzbX13_readSpot_24 rfl
theorem dX13_readSpot_39 : decode cX13_readSpot 39 = .ok (.iload_n 1, 1) := dz0 dzo27 15 dzbX13_readSpot_24 rfl
theorem dX13_readSpot_40 : decode cX13_readSpot 40 = .ok (.iadd, 1) := dz0 dzo96 16 dzbX13_readSpot_24 rfl
theorem dX13_readSpot_41 : decode cX13_readSpot 41 = .ok (.istore_n 3, 1) := dz0 dzo62 17 dzbX13_readSpot_24 rfl
theorem dX13_readSpot_42 : decode cX13_readSpot 42 = .ok (.aload_n 0, 1) := dz0 dzo42 18 dzbX13_readSpot_24 rfl
theorem dX13_readSpot_43 : decode cX13_readSpot 43 = .ok (.getfield 74, 3) := dz2 dzo180 19 0 74 dzbX13_readSpot_24 rfl
theorem dX13_readSpot_46 : decode cX13_readSpot 46 = .ok (.iconst 5, 1) := dz0 dzo8 22 dzbX13_readSpot_24 rfl
theorem dzbX13_readSpot_47 : dzB cX13_readSpot 47 [159, 0, 22, 42, 180, 0, 154, 180, 0, 201, 29, 46, 6, 160, 0, 9, 42, 16, 7, 182, 0, 120, 42] := by decide +kernel
theorem dX13_readSpot_47 : decode cX13_readSpot 47 = .ok (.if_icmp .eq 22, 3) := dz4 dzo159 0 0 22 22 rfl dzbX13_readSpot_47 rfl
theorem dX13_readSpot_50 : decode cX13_readSpot 50 = .ok (.aload_n 0, 1) := dz0 dzo42 3 dzbX13_readSpot_47 rfl
theorem dX13_readSpot_51 : decode cX13_readSpot 51 = .ok (.getfield 154, 3) := dz2 dzo180 4 0 154 dzbX13_readSpot_47 rfl
theorem dX13_readSpot_54 : decode cX13_readSpot 54 = .ok (.getfield 201, 3) := dz2 dzo180 7 0 201 dzbX13_readSpot_47 rfl
theorem dX13_readSpot_57 : decode cX13_readSpot 57 = .ok (.iload_n 3, 1) := dz0 dzo29 10 dzbX13_readSpot_47 rfl
theorem dX13_readSpot_58 : decode cX13_readSpot 58 = .ok (.iaload, 1) := dz0 dzo46 11 dzbX13_readSpot_47 rfl
theorem dX13_readSpot_59 : decode cX13_readSpot 59 = .ok (.iconst 3, 1) := dz0 dzo6 12 dzbX13_readSpot_47 rfl
theorem dX13_readSpot_60 : decode cX13_readSpot 60 = .ok (.if_icmp .ne 9, 3) := dz4 dzo160 13 0 9 9 rfl dzbX13_readSpot_47 rfl
theorem dX13_readSpot_63 : decode cX13_readSpot 63 = .ok (.aload_n 0, 1) := dz0 dzo42 16 dzbX13_readSpot_47 rfl
theorem dX13_readSpot_64 : decode cX13_readSpot 64 = .ok (.bipush 7, 2) := dz3 dzo16 17 7 7 rfl dzbX13_readSpot_47 rfl
theorem dX13_readSpot_66 : decode cX13_readSpot 66 = .ok (.invokevirtual 120, 3) := dz2 dzo182 19 0 120 dzbX13_readSpot_47 rfl
theorem dX13_readSpot_69 : decode cX13_readSpot 69 = .ok (.aload_n 0, 1) := dz0 dzo42 22 dzbX13_readSpot_47 rfl
theorem dzbX13_readSpot_70 : dzB cX13_readSpot 70 [182, 0, 113, 29, 172] := by decide +kernel
theorem dX13_readSpot_70 : decode cX13_readSpot 70 = .ok (.invokevirtual 113, 3) := dz2 dzo182 0 0 113 dzbX13_readSpot_70 rfl
theorem dX13_readSpot_73 : decode cX13_readSpot 73 = .ok (.iload_n 3, 1) := dz0 dzo29 3 dzbX13_readSpot_70 rfl
theorem dX13_readSpot_74 : decode cX13_readSpot 74 = .ok (.ireturn, 1) := dz0 dzo172 4 dzbX13_readSpot_70 rfl
theorem dzbX13_readWalk_0 : dzB cX13_readWalk 0 [42, 42, 180, 0, 154, 180, 0, 245, 16, 6, 182, 0, 209, 42, 3, 42, 180, 0, 154, 180, 0, 158, 4, 100] := by decide +kernel
theorem dX13_readWalk_0 : decode cX13_readWalk 0 = .ok (.aload_n 0, 1) := dz0 dzo42 0 dzbX13_readWalk_0 rfl
theorem dX13_readWalk_1 : decode cX13_readWalk 1 = .ok (.aload_n 0, 1) := dz0 dzo42 1 dzbX13_readWalk_0 rfl
theorem dX13_readWalk_2 : decode cX13_readWalk 2 = .ok (.getfield 154, 3) := dz2 dzo180 2 0 154 dzbX13_readWalk_0 rfl
theorem dX13_readWalk_5 : decode cX13_readWalk 5 = .ok (.getfield 245, 3) := dz2 dzo180 5 0 245 dzbX13_readWalk_0 rfl
theorem dX13_readWalk_8 : decode cX13_readWalk 8 = .ok (.bipush 6, 2) := dz3 dzo16 8 6 6 rfl dzbX13_readWalk_0 rfl
theorem dX13_readWalk_10 : decode cX13_readWalk 10 = .ok (.invokevirtual 209, 3) := dz2 dzo182 10 0 209 dzbX13_readWalk_0 rfl
theorem dX13_readWalk_13 : decode cX13_readWalk 13 = .ok (.aload_n 0, 1) := dz0 dzo42 13 dzbX13_readWalk_0 rfl
theorem dX13_readWalk_14 : decode cX13_readWalk 14 = .ok (.iconst 0, 1) := dz0 dzo3 14 dzbX13_readWalk_0 rfl
theorem dX13_readWalk_15 : decode cX13_readWalk 15 = .ok (.aload_n 0, 1) := dz0 dzo42 15 dzbX13_readWalk_0 rfl
theorem dX13_readWalk_16 : decode cX13_readWalk 16 = .ok (.getfield 154, 3) := dz2 dzo180 16 0 154 dzbX13_readWalk_0 rfl
theorem dX13_readWalk_19 : decode cX13_readWalk 19 = .ok (.getfield 158, 3) := dz2 dzo180 19 0 158 dzbX13_readWalk_0 rfl
theorem dX13_readWalk_22 : decode cX13_readWalk 22 = .ok (.iconst 1, 1) := dz0 dzo4 22 dzbX13_readWalk_0 rfl
theorem dX13_readWalk_23 : decode cX13_readWalk 23 = .ok (.isub, 1) := dz0 dzo100 23 dzbX13_readWalk_0 rfl
theorem dzbX13_readWalk_24 : dzB cX13_readWalk 24 [182, 0, 136, 60, 42, 3, 42, 180, 0, 154, 180, 0, 166, 4, 100, 182, 0, 136, 61, 42, 180, 0, 154] := by decide +kernel
theorem dX13_readWalk_24 : decode cX13_readWalk 24 = .ok (.invokevirtual 136, 3) := dz2 dzo182 0 0 136 dzbX13_readWalk_24 rfl
theorem dX13_readWalk_27 : decode cX13_readWalk 27 = .ok (.istore_n 1, 1) := dz0 dzo60 3 dzbX13_readWalk_24 rfl
theorem dX13_readWalk_28 : decode cX13_readWalk 28 = .ok (.aload_n 0, 1) := dz0 dzo42 4 dzbX13_readWalk_24 rfl
theorem dX13_readWalk_29 : decode cX13_readWalk 29 = .ok (.iconst 0, 1) := dz0 dzo3 5 dzbX13_readWalk_24 rfl
theorem dX13_readWalk_30 : decode cX13_readWalk 30 = .ok (.aload_n 0, 1) := dz0 dzo42 6 dzbX13_readWalk_24 rfl
theorem dX13_readWalk_31 : decode cX13_readWalk 31 = .ok (.getfield 154, 3) := dz2 dzo180 7 0 154 dzbX13_readWalk_24 rfl
theorem dX13_readWalk_34 : decode cX13_readWalk 34 = .ok (.getfield 166, 3) := dz2 dzo180 10 0 166 dzbX13_readWalk_24 rfl
theorem dX13_readWalk_37 : decode cX13_readWalk 37 = .ok (.iconst 1, 1) := dz0 dzo4 13 dzbX13_readWalk_24 rfl
theorem dX13_readWalk_38 : decode cX13_readWalk 38 = .ok (.isub, 1) := dz0 dzo100 14 dzbX13_readWalk_24 rfl
theorem dX13_readWalk_39 : decode cX13_readWalk 39 = .ok (.invokevirtual 136, 3) := dz2 dzo182 15 0 136 dzbX13_readWalk_24 rfl
theorem dX13_readWalk_42 : decode cX13_readWalk 42 = .ok (.istore_n 2, 1) := dz0 dzo61 18 dzbX13_readWalk_24 rfl
theorem dX13_readWalk_43 : decode cX13_readWalk 43 = .ok (.aload_n 0, 1) := dz0 dzo42 19 dzbX13_readWalk_24 rfl
theorem dX13_readWalk_44 : decode cX13_readWalk 44 = .ok (.getfield 154, 3) := dz2 dzo180 20 0 154 dzbX13_readWalk_24 rfl
theorem dzbX13_readWalk_47 : dzB cX13_readWalk 47 [180, 0, 166, 4, 100, 28, 100, 62, 42, 18, 248, 4, 29, 6, 162, 0, 7, 29, 167, 0, 4, 6] := by decide +kernel
theorem dX13_readWalk_47 : decode cX13_readWalk 47 = .ok (.getfield 166, 3) := dz2 dzo180 0 0 166 dzbX13_readWalk_47 rfl
theorem dX13_readWalk_50 : decode cX13_readWalk 50 = .ok (.iconst 1, 1) := dz0 dzo4 3 dzbX13_readWalk_47 rfl
theorem dX13_readWalk_51 : decode cX13_readWalk 51 = .ok (.isub, 1) := dz0 dzo100 4 dzbX13_readWalk_47 rfl
theorem dX13_readWalk_52 : decode cX13_readWalk 52 = .ok (.iload_n 2, 1) := dz0 dzo28 5 dzbX13_readWalk_47 rfl
theorem dX13_readWalk_53 : decode cX13_readWalk 53 = .ok (.isub, 1) := dz0 dzo100 6 dzbX13_readWalk_47 rfl
theorem dX13_readWalk_54 : decode cX13_readWalk 54 = .ok (.istore_n 3, 1) := dz0 dzo62 7 dzbX13_readWalk_47 rfl
theorem dX13_readWalk_55 : decode cX13_readWalk 55 = .ok (.aload_n 0, 1) := dz0 dzo42 8 dzbX13_readWalk_47 rfl
theorem dX13_readWalk_56 : decode cX13_readWalk 56 = .ok (.ldc 248, 2) := dz1 dzo18 9 248 dzbX13_readWalk_47 rfl
theorem dX13_readWalk_58 : decode cX13_readWalk 58 = .ok (.iconst 1, 1) := dz0 dzo4 11 dzbX13_readWalk_47 rfl
theorem dX13_readWalk_59 : decode cX13_readWalk 59 = .ok (.iload_n 3, 1) := dz0 dzo29 12 dzbX13_readWalk_47 rfl
theorem dX13_readWalk_60 : decode cX13_readWalk 60 = .ok (.iconst 3, 1) := dz0 dzo6 13 dzbX13_readWalk_47 rfl
theorem dX13_readWalk_61 : decode cX13_readWalk 61 = .ok (.if_icmp .ge 7, 3) := dz4 dzo162 14 0 7 7 rfl dzbX13_readWalk_47 rfl
theorem dX13_readWalk_64 : decode cX13_readWalk 64 = .ok (.iload_n 3, 1) := dz0 dzo29 17 dzbX13_readWalk_47 rfl
theorem dX13_readWalk_65 : decode cX13_readWalk 65 = .ok (.goto 4, 3) := dz4 dzo167 18 0 4 4 rfl dzbX13_readWalk_47 rfl
theorem dX13_readWalk_68 : decode cX13_readWalk 68 = .ok (.iconst 3, 1) := dz0 dzo6 21 dzbX13_readWalk_47 rfl
theorem dzbX13_readWalk_69 : dzB cX13_readWalk 69 [182, 0, 182, 54, 4, 42, 18, 250, 182, 0, 116, 54, 5, 21, 5, 154, 0, 17, 42, 18, 252, 182, 0, 116] := by decide +kernel
theorem dX13_readWalk_69 : decode cX13_readWalk 69 = .ok (.invokevirtual 182, 3) := dz2 dzo182 0 0 182 dzbX13_readWalk_69 rfl
theorem dX13_readWalk_72 : decode cX13_readWalk 72 = .ok (.istore 4, 2) := dz1 dzo54 3 4 dzbX13_readWalk_69 rfl
theorem dX13_readWalk_74 : decode cX13_readWalk 74 = .ok (.aload_n 0, 1) := dz0 dzo42 5 dzbX13_readWalk_69 rfl
theorem dX13_readWalk_75 : decode cX13_readWalk 75 = .ok (.ldc 250, 2) := dz1 dzo18 6 250 dzbX13_readWalk_69 rfl
theorem dX13_readWalk_77 : decode cX13_readWalk 77 = .ok (.invokevirtual 116, 3) := dz2 dzo182 8 0 116 dzbX13_readWalk_69 rfl
theorem dX13_readWalk_80 : decode cX13_readWalk 80 = .ok (.istore 5, 2) := dz1 dzo54 11 5 dzbX13_readWalk_69 rfl
theorem dX13_readWalk_82 : decode cX13_readWalk 82 = .ok (.iload 5, 2) := dz1 dzo21 13 5 dzbX13_readWalk_69 rfl
theorem dX13_readWalk_84 : decode cX13_readWalk 84 = .ok (.ifCond .ne 17, 3) := dz4 dzo154 15 0 17 17 rfl dzbX13_readWalk_69 rfl
theorem dX13_readWalk_87 : decode cX13_readWalk 87 = .ok (.aload_n 0, 1) := dz0 dzo42 18 dzbX13_readWalk_69 rfl
theorem dX13_readWalk_88 : decode cX13_readWalk 88 = .ok (.ldc 252, 2) := dz1 dzo18 19 252 dzbX13_readWalk_69 rfl
theorem dX13_readWalk_90 : decode cX13_readWalk 90 = .ok (.invokevirtual 116, 3) := dz2 dzo182 21 0 116 dzbX13_readWalk_69 rfl
theorem dzbX13_readWalk_93 : dzB cX13_readWalk 93 [154, 0, 8, 42, 4, 182, 0, 120, 42, 182, 0, 113, 42, 180, 0, 74, 8, 160, 0, 4, 177, 42] := by decide +kernel
theorem dX13_readWalk_93 : decode cX13_readWalk 93 = .ok (.ifCond .ne 8, 3) := dz4 dzo154 0 0 8 8 rfl dzbX13_readWalk_93 rfl
theorem dX13_readWalk_96 : decode cX13_readWalk 96 = .ok (.aload_n 0, 1) := dz0 dzo42 3 dzbX13_readWalk_93 rfl
theorem dX13_readWalk_97 : decode cX13_readWalk 97 = .ok (.iconst 1, 1) := dz0 dzo4 4 dzbX13_readWalk_93 rfl
theorem dX13_readWalk_98 : decode cX13_readWalk 98 = .ok (.invokevirtual 120, 3) := dz2 dzo182 5 0 120 dzbX13_readWalk_93 rfl
theorem dX13_readWalk_101 : decode cX13_readWalk 101 = .ok (.aload_n 0, 1) := dz0 dzo42 8 dzbX13_readWalk_93 rfl
theorem dX13_readWalk_102 : decode cX13_readWalk 102 = .ok (.invokevirtual 113, 3) := dz2 dzo182 9 0 113 dzbX13_readWalk_93 rfl
theorem dX13_readWalk_105 : decode cX13_readWalk 105 = .ok (.aload_n 0, 1) := dz0 dzo42 12 dzbX13_readWalk_93 rfl
theorem dX13_readWalk_106 : decode cX13_readWalk 106 = .ok (.getfield 74, 3) := dz2 dzo180 13 0 74 dzbX13_readWalk_93 rfl
theorem dX13_readWalk_109 : decode cX13_readWalk 109 = .ok (.iconst 5, 1) := dz0 dzo8 16 dzbX13_readWalk_93 rfl
theorem dX13_readWalk_110 : decode cX13_readWalk 110 = .ok (.if_icmp .ne 4, 3) := dz4 dzo160 17 0 4 4 rfl dzbX13_readWalk_93 rfl
theorem dX13_readWalk_113 : decode cX13_readWalk 113 = .ok (.return_, 1) := dz0 dzo177 20 dzbX13_readWalk_93 rfl
theorem dX13_readWalk_114 : decode cX13_readWalk 114 = .ok (.aload_n 0, 1) := dz0 dzo42 21 dzbX13_readWalk_93 rfl
theorem dzbX13_readWalk_115 : dzB cX13_readWalk 115 [180, 0, 154, 180, 0, 254, 42, 180, 0, 154, 180, 0, 245, 42, 180, 0, 154, 180, 0, 158, 28, 104, 27, 96] := by decide +kernel
theorem dX13_readWalk_115 : decode cX13_readWalk 115 = .ok (.getfield 154, 3) := dz2 dzo180 0 0 154 dzbX13_readWalk_115 rfl
theorem dX13_readWalk_118 : decode cX13_readWalk 118 = .ok (.getfield 254, 3) := dz2 dzo180 3 0 254 dzbX13_readWalk_115 rfl
theorem dX13_readWalk_121 : decode cX13_readWalk 121 = .ok (.aload_n 0, 1) := dz0 dzo42 6 dzbX13_readWalk_115 rfl
theorem dX13_readWalk_122 : decode cX13_readWalk 122 = .ok (.getfield 154, 3) := dz2 dzo180 7 0 154 dzbX13_readWalk_115 rfl
theorem dX13_readWalk_125 : decode cX13_readWalk 125 = .ok (.getfield 245, 3) := dz2 dzo180 10 0 245 dzbX13_readWalk_115 rfl
theorem dX13_readWalk_128 : decode cX13_readWalk 128 = .ok (.aload_n 0, 1) := dz0 dzo42 13 dzbX13_readWalk_115 rfl
theorem dX13_readWalk_129 : decode cX13_readWalk 129 = .ok (.getfield 154, 3) := dz2 dzo180 14 0 154 dzbX13_readWalk_115 rfl
theorem dX13_readWalk_132 : decode cX13_readWalk 132 = .ok (.getfield 158, 3) := dz2 dzo180 17 0 158 dzbX13_readWalk_115 rfl
theorem dX13_readWalk_135 : decode cX13_readWalk 135 = .ok (.iload_n 2, 1) := dz0 dzo28 20 dzbX13_readWalk_115 rfl
theorem dX13_readWalk_136 : decode cX13_readWalk 136 = .ok (.imul, 1) := dz0 dzo104 21 dzbX13_readWalk_115 rfl
theorem dX13_readWalk_137 : decode cX13_readWalk 137 = .ok (.iload_n 1, 1) := dz0 dzo27 22 dzbX13_readWalk_115 rfl
theorem dX13_readWalk_138 : decode cX13_readWalk 138 = .ok (.iadd, 1) := dz0 dzo96 23 dzbX13_readWalk_115 rfl
theorem dzbX13_readWalk_139 : dzB cX13_readWalk 139 [79, 42, 180, 0, 154, 180, 1, 1, 42, 180, 0, 154, 180, 0, 245, 21, 4, 79, 42, 180, 0, 154] := by decide +kernel
theorem dX13_readWalk_139 : decode cX13_readWalk 139 = .ok (.iastore, 1) := dz0 dzo79 0 dzbX13_readWalk_139 rfl
theorem dX13_readWalk_140 : decode cX13_readWalk 140 = .ok (.aload_n 0, 1) := dz0 dzo42 1 dzbX13_readWalk_139 rfl
theorem dX13_readWalk_141 : decode cX13_readWalk 141 = .ok (.getfield 154, 3) := dz2 dzo180 2 0 154 dzbX13_readWalk_139 rfl
theorem dX13_readWalk_144 : decode cX13_readWalk 144 = .ok (.getfield 257, 3) := dz2 dzo180 5 1 1 dzbX13_readWalk_139 rfl
theorem dX13_readWalk_147 : decode cX13_readWalk 147 = .ok (.aload_n 0, 1) := dz0 dzo42 8 dzbX13_readWalk_139 rfl
theorem dX13_readWalk_148 : decode cX13_readWalk 148 = .ok (.getfield 154, 3) := dz2 dzo180 9 0 154 dzbX13_readWalk_139 rfl
theorem dX13_readWalk_151 : decode cX13_readWalk 151 = .ok (.getfield 245, 3) := dz2 dzo180 12 0 245 dzbX13_readWalk_139 rfl
theorem dX13_readWalk_154 : decode cX13_readWalk 154 = .ok (.iload 4, 2) := dz1 dzo21 15 4 dzbX13_readWalk_139 rfl
theorem dX13_readWalk_156 : decode cX13_readWalk 156 = .ok (.iastore, 1) := dz0 dzo79 17 dzbX13_readWalk_139 rfl
theorem dX13_readWalk_157 : decode cX13_readWalk 157 = .ok (.aload_n 0, 1) := dz0 dzo42 18 dzbX13_readWalk_139 rfl
theorem dX13_readWalk_158 : decode cX13_readWalk 158 = .ok (.getfield 154, 3) := dz2 dzo180 19 0 154 dzbX13_readWalk_139 rfl
theorem dzbX13_readWalk_161 : dzB cX13_readWalk 161 [180, 1, 3, 42, 180, 0, 154, 180, 0, 245, 21, 5] := by decide +kernel
theorem dX13_readWalk_161 : decode cX13_readWalk 161 = .ok (.getfield 259, 3) := dz2 dzo180 0 1 3 dzbX13_readWalk_161 rfl
theorem dX13_readWalk_164 : decode cX13_readWalk 164 = .ok (.aload_n 0, 1) := dz0 dzo42 3 dzbX13_readWalk_161 rfl
theorem dX13_readWalk_165 : decode cX13_readWalk 165 = .ok (.getfield 154, 3) := dz2 dzo180 4 0 154 dzbX13_readWalk_161 rfl
theorem dX13_readWalk_168 : decode cX13_readWalk 168 = .ok (.getfield 245, 3) := dz2 dzo180 7 0 245 dzbX13_readWalk_161 rfl
theorem dX13_readWalk_171 : decode cX13_readWalk 171 = .ok (.iload 5, 2) := dz1 dzo21 10 5 dzbX13_readWalk_161 rfl
