theorem dX13_odds_81 : decode cX13_odds 81 = .ok (.lconst 0, 1) := by decide +kernel
theorem dX13_odds_82 : decode cX13_odds 82 = .ok (.ladd, 1) := by decide +kernel
theorem dX13_odds_83 : decode cX13_odds 83 = .ok (.lstore_n 3, 1) := by decide +kernel
theorem dX13_odds_84 : decode cX13_odds 84 = .ok (.iinc 7 1, 3) := by decide +kernel
theorem dX13_odds_87 : decode cX13_odds 87 = .ok (.goto (-45), 3) := by decide +kernel
theorem dX13_odds_90 : decode cX13_odds 90 = .ok (.aload_n 0, 1) := by decide +kernel
theorem dX13_odds_91 : decode cX13_odds 91 = .ok (.lload_n 3, 1) := by decide +kernel
theorem dX13_odds_92 : decode cX13_odds 92 = .ok (.lload 5, 2) := by decide +kernel
theorem dX13_odds_94 : decode cX13_odds 94 = .ok (.iload_n 2, 1) := by decide +kernel
theorem dX13_odds_95 : decode cX13_odds 95 = .ok (.invokevirtual 395, 3) := by decide +kernel
theorem dX13_odds_98 : decode cX13_odds 98 = .ok (.lreturn, 1) := by decide +kernel
theorem dX13_onto_0 : decode cX13_onto 0 = .ok (.iload_n 1, 1) := by decide +kernel
theorem dX13_onto_1 : decode cX13_onto 1 = .ok (.aload_n 0, 1) := by decide +kernel
theorem dX13_onto_2 : decode cX13_onto 2 = .ok (.getfield 269, 3) := by decide +kernel
theorem dX13_onto_5 : decode cX13_onto 5 = .ok (.getfield 158, 3) := by decide +kernel
theorem dX13_onto_8 : decode cX13_onto 8 = .ok (.irem, 1) := by decide +kernel
theorem dX13_onto_9 : decode cX13_onto 9 = .ok (.istore_n 3, 1) := by decide +kernel
theorem dX13_onto_10 : decode cX13_onto 10 = .ok (.iload_n 2, 1) := by decide +kernel
theorem dX13_onto_11 : decode cX13_onto 11 = .ok (.ifCond .ne 29, 3) := by decide +kernel
theorem dX13_onto_14 : decode cX13_onto 14 = .ok (.iload_n 1, 1) := by decide +kernel
theorem dX13_onto_15 : decode cX13_onto 15 = .ok (.aload_n 0, 1) := by decide +kernel
theorem dX13_onto_16 : decode cX13_onto 16 = .ok (.getfield 269, 3) := by decide +kernel
theorem dX13_onto_19 : decode cX13_onto 19 = .ok (.getfield 158, 3) := by decide +kernel
theorem dX13_onto_22 : decode cX13_onto 22 = .ok (.if_icmp .ge 8, 3) := by decide +kernel
theorem dX13_onto_25 : decode cX13_onto 25 = .ok (.bipush (-2), 2) := by decide +kernel
theorem dX13_onto_27 : decode cX13_onto 27 = .ok (.goto 12, 3) := by decide +kernel
theorem dX13_onto_30 : decode cX13_onto 30 = .ok (.iload_n 1, 1) := by decide +kernel
theorem dX13_onto_31 : decode cX13_onto 31 = .ok (.aload_n 0, 1) := by decide +kernel
theorem dX13_onto_32 : decode cX13_onto 32 = .ok (.getfield 269, 3) := by decide +kernel
theorem dX13_onto_35 : decode cX13_onto 35 = .ok (.getfield 158, 3) := by decide +kernel
theorem dX13_onto_38 : decode cX13_onto 38 = .ok (.isub, 1) := by decide +kernel
theorem dX13_onto_39 : decode cX13_onto 39 = .ok (.ireturn, 1) := by decide +kernel
theorem dX13_onto_40 : decode cX13_onto 40 = .ok (.iload_n 2, 1) := by decide +kernel
theorem dX13_onto_41 : decode cX13_onto 41 = .ok (.iconst 2, 1) := by decide +kernel
theorem dX13_onto_42 : decode cX13_onto 42 = .ok (.if_icmp .ne 34, 3) := by decide +kernel
theorem dX13_onto_45 : decode cX13_onto 45 = .ok (.iload_n 1, 1) := by decide +kernel
theorem dX13_onto_46 : decode cX13_onto 46 = .ok (.aload_n 0, 1) := by decide +kernel
theorem dX13_onto_47 : decode cX13_onto 47 = .ok (.getfield 269, 3) := by decide +kernel
theorem dX13_onto_50 : decode cX13_onto 50 = .ok (.getfield 158, 3) := by decide +kernel
theorem dX13_onto_53 : decode cX13_onto 53 = .ok (.iadd, 1) := by decide +kernel
theorem dX13_onto_54 : decode cX13_onto 54 = .ok (.aload_n 0, 1) := by decide +kernel
theorem dX13_onto_55 : decode cX13_onto 55 = .ok (.invokevirtual 277, 3) := by decide +kernel
theorem dX13_onto_58 : decode cX13_onto 58 = .ok (.if_icmp .ge 15, 3) := by decide +kernel
theorem dX13_onto_61 : decode cX13_onto 61 = .ok (.iload_n 1, 1) := by decide +kernel
theorem dX13_onto_62 : decode cX13_onto 62 = .ok (.aload_n 0, 1) := by decide +kernel
theorem dX13_onto_63 : decode cX13_onto 63 = .ok (.getfield 269, 3) := by decide +kernel
theorem dX13_onto_66 : decode cX13_onto 66 = .ok (.getfield 158, 3) := by decide +kernel
theorem dX13_onto_69 : decode cX13_onto 69 = .ok (.iadd, 1) := by decide +kernel
theorem dX13_onto_70 : decode cX13_onto 70 = .ok (.goto 5, 3) := by decide +kernel
theorem dX13_onto_73 : decode cX13_onto 73 = .ok (.bipush (-2), 2) := by decide +kernel
theorem dX13_onto_75 : decode cX13_onto 75 = .ok (.ireturn, 1) := by decide +kernel
theorem dX13_onto_76 : decode cX13_onto 76 = .ok (.iload_n 2, 1) := by decide +kernel
theorem dX13_onto_77 : decode cX13_onto 77 = .ok (.iconst 1, 1) := by decide +kernel
theorem dX13_onto_78 : decode cX13_onto 78 = .ok (.if_icmp .ne 25, 3) := by decide +kernel
theorem dX13_onto_81 : decode cX13_onto 81 = .ok (.iload_n 3, 1) := by decide +kernel
theorem dX13_onto_82 : decode cX13_onto 82 = .ok (.iconst 1, 1) := by decide +kernel
theorem dX13_onto_83 : decode cX13_onto 83 = .ok (.iadd, 1) := by decide +kernel
theorem dX13_onto_84 : decode cX13_onto 84 = .ok (.aload_n 0, 1) := by decide +kernel
theorem dX13_onto_85 : decode cX13_onto 85 = .ok (.getfield 269, 3) := by decide +kernel
theorem dX13_onto_88 : decode cX13_onto 88 = .ok (.getfield 158, 3) := by decide +kernel
theorem dX13_onto_91 : decode cX13_onto 91 = .ok (.if_icmp .ge 9, 3) := by decide +kernel
theorem dX13_onto_94 : decode cX13_onto 94 = .ok (.iload_n 1, 1) := by decide +kernel
theorem dX13_onto_95 : decode cX13_onto 95 = .ok (.iconst 1, 1) := by decide +kernel
theorem dX13_onto_96 : decode cX13_onto 96 = .ok (.iadd, 1) := by decide +kernel
theorem dX13_onto_97 : decode cX13_onto 97 = .ok (.goto 5, 3) := by decide +kernel
theorem dX13_onto_100 : decode cX13_onto 100 = .ok (.bipush (-2), 2) := by decide +kernel
theorem dX13_onto_102 : decode cX13_onto 102 = .ok (.ireturn, 1) := by decide +kernel
theorem dX13_onto_103 : decode cX13_onto 103 = .ok (.iload_n 3, 1) := by decide +kernel
theorem dX13_onto_104 : decode cX13_onto 104 = .ok (.ifCond .le 9, 3) := by decide +kernel
theorem dX13_onto_107 : decode cX13_onto 107 = .ok (.iload_n 1, 1) := by decide +kernel
theorem dX13_onto_108 : decode cX13_onto 108 = .ok (.iconst 1, 1) := by decide +kernel
theorem dX13_onto_109 : decode cX13_onto 109 = .ok (.isub, 1) := by decide +kernel
theorem dX13_onto_110 : decode cX13_onto 110 = .ok (.goto 5, 3) := by decide +kernel
theorem dX13_onto_113 : decode cX13_onto 113 = .ok (.bipush (-2), 2) := by decide +kernel
theorem dX13_onto_115 : decode cX13_onto 115 = .ok (.ireturn, 1) := by decide +kernel
theorem dX13_ontoDitch_0 : decode cX13_ontoDitch 0 = .ok (.iload_n 0, 1) := by decide +kernel
theorem dX13_ontoDitch_1 : decode cX13_ontoDitch 1 = .ok (.tableswitch 52 0 2 #[27, 47, 50], 27) := by decide +kernel
theorem dX13_ontoDitch_28 : decode cX13_ontoDitch 28 = .ok (.iload_n 1, 1) := by decide +kernel
theorem dX13_ontoDitch_29 : decode cX13_ontoDitch 29 = .ok (.iconst 2, 1) := by decide +kernel
theorem dX13_ontoDitch_30 : decode cX13_ontoDitch 30 = .ok (.if_icmp .ne 7, 3) := by decide +kernel
theorem dX13_ontoDitch_33 : decode cX13_ontoDitch 33 = .ok (.iconst 3, 1) := by decide +kernel
theorem dX13_ontoDitch_34 : decode cX13_ontoDitch 34 = .ok (.goto 13, 3) := by decide +kernel
theorem dX13_ontoDitch_37 : decode cX13_ontoDitch 37 = .ok (.iload_n 1, 1) := by decide +kernel
theorem dX13_ontoDitch_38 : decode cX13_ontoDitch 38 = .ok (.ifCond .ne 8, 3) := by decide +kernel
theorem dX13_ontoDitch_41 : decode cX13_ontoDitch 41 = .ok (.bipush (-2), 2) := by decide +kernel
theorem dX13_ontoDitch_43 : decode cX13_ontoDitch 43 = .ok (.goto 4, 3) := by decide +kernel
theorem dX13_ontoDitch_46 : decode cX13_ontoDitch 46 = .ok (.iconst 1, 1) := by decide +kernel
theorem dX13_ontoDitch_47 : decode cX13_ontoDitch 47 = .ok (.ireturn, 1) := by decide +kernel
theorem dX13_ontoDitch_48 : decode cX13_ontoDitch 48 = .ok (.bipush (-2), 2) := by decide +kernel
theorem dX13_ontoDitch_50 : decode cX13_ontoDitch 50 = .ok (.ireturn, 1) := by decide +kernel
theorem dX13_ontoDitch_51 : decode cX13_ontoDitch 51 = .ok (.iconst 1, 1) := by decide +kernel
theorem dX13_ontoDitch_52 : decode cX13_ontoDitch 52 = .ok (.ireturn, 1) := by decide +kernel
theorem dX13_ontoDitch_53 : decode cX13_ontoDitch 53 = .ok (.iload_n 1, 1) := by decide +kernel
theorem dX13_ontoDitch_54 : decode cX13_ontoDitch 54 = .ok (.iconst 2, 1) := by decide +kernel
theorem dX13_ontoDitch_55 : decode cX13_ontoDitch 55 = .ok (.if_icmp .ne 7, 3) := by decide +kernel
theorem dX13_ontoDitch_58 : decode cX13_ontoDitch 58 = .ok (.iconst 2, 1) := by decide +kernel
theorem dX13_ontoDitch_59 : decode cX13_ontoDitch 59 = .ok (.goto 12, 3) := by decide +kernel
theorem dX13_ontoDitch_62 : decode cX13_ontoDitch 62 = .ok (.iload_n 1, 1) := by decide +kernel
theorem dX13_ontoDitch_63 : decode cX13_ontoDitch 63 = .ok (.ifCond .ne 7, 3) := by decide +kernel
theorem dX13_ontoDitch_66 : decode cX13_ontoDitch 66 = .ok (.iconst 4, 1) := by decide +kernel
theorem dX13_ontoDitch_67 : decode cX13_ontoDitch 67 = .ok (.goto 4, 3) := by decide +kernel
theorem dX13_ontoDitch_70 : decode cX13_ontoDitch 70 = .ok (.iconst 1, 1) := by decide +kernel
theorem dX13_ontoDitch_71 : decode cX13_ontoDitch 71 = .ok (.ireturn, 1) := by decide +kernel
theorem dX13_packed_0 : decode cX13_packed 0 = .ok (.lconst 0, 1) := by decide +kernel
theorem dX13_packed_1 : decode cX13_packed 1 = .ok (.lstore_n 1, 1) := by decide +kernel
theorem dX13_packed_2 : decode cX13_packed 2 = .ok (.iconst 0, 1) := by decide +kernel
theorem dX13_packed_3 : decode cX13_packed 3 = .ok (.istore_n 3, 1) := by decide +kernel
theorem dX13_packed_4 : decode cX13_packed 4 = .ok (.iload_n 3, 1) := by decide +kernel
theorem dX13_packed_5 : decode cX13_packed 5 = .ok (.aload_n 0, 1) := by decide +kernel
theorem dX13_packed_6 : decode cX13_packed 6 = .ok (.invokevirtual 62, 3) := by decide +kernel
theorem dX13_packed_9 : decode cX13_packed 9 = .ok (.if_icmp .ge 27, 3) := by decide +kernel
theorem dX13_packed_12 : decode cX13_packed 12 = .ok (.ldc2_w 68, 3) := by decide +kernel
theorem dX13_packed_15 : decode cX13_packed 15 = .ok (.lload_n 1, 1) := by decide +kernel
theorem dX13_packed_16 : decode cX13_packed 16 = .ok (.lmul, 1) := by decide +kernel
theorem dX13_packed_17 : decode cX13_packed 17 = .ok (.aload_n 0, 1) := by decide +kernel
theorem dX13_packed_18 : decode cX13_packed 18 = .ok (.iload_n 3, 1) := by decide +kernel
theorem dX13_packed_19 : decode cX13_packed 19 = .ok (.invokevirtual 70, 3) := by decide +kernel
theorem dX13_packed_22 : decode cX13_packed 22 = .ok (.bipush 97, 2) := by decide +kernel
theorem dX13_packed_24 : decode cX13_packed 24 = .ok (.isub, 1) := by decide +kernel
theorem dX13_packed_25 : decode cX13_packed 25 = .ok (.iconst 1, 1) := by decide +kernel
theorem dX13_packed_26 : decode cX13_packed 26 = .ok (.iadd, 1) := by decide +kernel
theorem dX13_packed_27 : decode cX13_packed 27 = .ok (.i2l, 1) := by decide +kernel
theorem dX13_packed_28 : decode cX13_packed 28 = .ok (.ladd, 1) := by decide +kernel
theorem dX13_packed_29 : decode cX13_packed 29 = .ok (.lstore_n 1, 1) := by decide +kernel
theorem dX13_packed_30 : decode cX13_packed 30 = .ok (.iinc 3 1, 3) := by decide +kernel
theorem dX13_packed_33 : decode cX13_packed 33 = .ok (.goto (-29), 3) := by decide +kernel
theorem dX13_packed_36 : decode cX13_packed 36 = .ok (.lload_n 1, 1) := by decide +kernel
theorem dX13_packed_37 : decode cX13_packed 37 = .ok (.lreturn, 1) := by decide +kernel
theorem dX13_park_0 : decode cX13_park 0 = .ok (.aload_n 0, 1) := by decide +kernel
theorem dX13_park_1 : decode cX13_park 1 = .ok (.iconst 0, 1) := by decide +kernel
theorem dX13_park_2 : decode cX13_park 2 = .ok (.putfield 42, 3) := by decide +kernel
theorem dX13_park_5 : decode cX13_park 5 = .ok (.iload_n 1, 1) := by decide +kernel
theorem dX13_park_6 : decode cX13_park 6 = .ok (.ifCond .lt 11, 3) := by decide +kernel
theorem dX13_park_9 : decode cX13_park 9 = .ok (.iload_n 1, 1) := by decide +kernel
theorem dX13_park_10 : decode cX13_park 10 = .ok (.aload_n 0, 1) := by decide +kernel
theorem dX13_park_11 : decode cX13_park 11 = .ok (.getfield 262, 3) := by decide +kernel
theorem dX13_park_14 : decode cX13_park 14 = .ok (.if_icmp .le 9, 3) := by decide +kernel
theorem dX13_park_17 : decode cX13_park 17 = .ok (.aload_n 0, 1) := by decide +kernel
theorem dX13_park_18 : decode cX13_park 18 = .ok (.iconst 2, 1) := by decide +kernel
theorem dX13_park_19 : decode cX13_park 19 = .ok (.invokevirtual 48, 3) := by decide +kernel
theorem dX13_park_22 : decode cX13_park 22 = .ok (.ireturn, 1) := by decide +kernel
theorem dX13_park_23 : decode cX13_park 23 = .ok (.aload_n 0, 1) := by decide +kernel
theorem dX13_park_24 : decode cX13_park 24 = .ok (.iload_n 1, 1) := by decide +kernel
theorem dX13_park_25 : decode cX13_park 25 = .ok (.putfield 59, 3) := by decide +kernel
theorem dX13_park_28 : decode cX13_park 28 = .ok (.aload_n 0, 1) := by decide +kernel
theorem dX13_park_29 : decode cX13_park 29 = .ok (.iconst 0, 1) := by decide +kernel
theorem dX13_park_30 : decode cX13_park 30 = .ok (.putfield 262, 3) := by decide +kernel
theorem dX13_park_33 : decode cX13_park 33 = .ok (.aload_n 0, 1) := by decide +kernel
theorem dX13_park_34 : decode cX13_park 34 = .ok (.iconst 0, 1) := by decide +kernel
theorem dX13_park_35 : decode cX13_park 35 = .ok (.putfield 77, 3) := by decide +kernel
theorem dX13_park_38 : decode cX13_park 38 = .ok (.aload_n 0, 1) := by decide +kernel
theorem dX13_park_39 : decode cX13_park 39 = .ok (.iconst 0, 1) := by decide +kernel
theorem dX13_park_40 : decode cX13_park 40 = .ok (.putfield 103, 3) := by decide +kernel
theorem dX13_park_43 : decode cX13_park 43 = .ok (.aload_n 0, 1) := by decide +kernel
theorem dX13_park_44 : decode cX13_park 44 = .ok (.new 159, 3) := by decide +kernel
theorem dX13_park_47 : decode cX13_park 47 = .ok (.dup, 1) := by decide +kernel
theorem dX13_park_48 : decode cX13_park 48 = .ok (.invokespecial 265, 3) := by decide +kernel
theorem dX13_park_51 : decode cX13_park 51 = .ok (.putfield 154, 3) := by decide +kernel
theorem dX13_park_54 : decode cX13_park 54 = .ok (.aload_n 0, 1) := by decide +kernel
theorem dX13_park_55 : decode cX13_park 55 = .ok (.iconst 0, 1) := by decide +kernel
theorem dX13_park_56 : decode cX13_park 56 = .ok (.putfield 74, 3) := by decide +kernel
theorem dX13_park_59 : decode cX13_park 59 = .ok (.aload_n 0, 1) := by decide +kernel
theorem dX13_park_60 : decode cX13_park 60 = .ok (.invokevirtual 113, 3) := by decide +kernel
theorem dX13_park_63 : decode cX13_park 63 = .ok (.aload_n 0, 1) := by decide +kernel
theorem dX13_park_64 : decode cX13_park 64 = .ok (.invokevirtual 266, 3) := by decide +kernel
theorem dX13_park_67 : decode cX13_park 67 = .ok (.aload_n 0, 1) := by decide +kernel
theorem dX13_park_68 : decode cX13_park 68 = .ok (.getfield 103, 3) := by decide +kernel
theorem dX13_park_71 : decode cX13_park 71 = .ok (.ifCond .le 18, 3) := by decide +kernel
theorem dX13_park_74 : decode cX13_park 74 = .ok (.aload_n 0, 1) := by decide +kernel
theorem dX13_park_75 : decode cX13_park 75 = .ok (.iconst 4, 1) := by decide +kernel
theorem dX13_park_76 : decode cX13_park 76 = .ok (.putfield 45, 3) := by decide +kernel
theorem dX13_park_79 : decode cX13_park 79 = .ok (.aload_n 0, 1) := by decide +kernel
theorem dX13_park_80 : decode cX13_park 80 = .ok (.aload_n 0, 1) := by decide +kernel
theorem dX13_park_81 : decode cX13_park 81 = .ok (.getfield 106, 3) := by decide +kernel
theorem dX13_park_84 : decode cX13_park 84 = .ok (.putfield 9, 3) := by decide +kernel
theorem dX13_park_87 : decode cX13_park 87 = .ok (.iconst (-1), 1) := by decide +kernel
theorem dX13_park_88 : decode cX13_park 88 = .ok (.ireturn, 1) := by decide +kernel
theorem dX13_park_89 : decode cX13_park 89 = .ok (.aload_n 0, 1) := by decide +kernel
theorem dX13_park_90 : decode cX13_park 90 = .ok (.aload_n 0, 1) := by decide +kernel
theorem dX13_park_91 : decode cX13_park 91 = .ok (.getfield 154, 3) := by decide +kernel
theorem dX13_park_94 : decode cX13_park 94 = .ok (.putfield 269, 3) := by decide +kernel
theorem dX13_park_97 : decode cX13_park 97 = .ok (.iconst 0, 1) := by decide +kernel
theorem dX13_park_98 : decode cX13_park 98 = .ok (.istore_n 2, 1) := by decide +kernel
theorem dX13_park_99 : decode cX13_park 99 = .ok (.iload_n 2, 1) := by decide +kernel
theorem dX13_park_100 : decode cX13_park 100 = .ok (.bipush 32, 2) := by decide +kernel
theorem dX13_park_102 : decode cX13_park 102 = .ok (.if_icmp .ge 16, 3) := by decide +kernel
theorem dX13_park_105 : decode cX13_park 105 = .ok (.aload_n 0, 1) := by decide +kernel
theorem dX13_park_106 : decode cX13_park 106 = .ok (.getfield 17, 3) := by decide +kernel
theorem dX13_park_109 : decode cX13_park 109 = .ok (.iload_n 2, 1) := by decide +kernel
theorem dX13_park_110 : decode cX13_park 110 = .ok (.iconst 0, 1) := by decide +kernel
theorem dX13_park_111 : decode cX13_park 111 = .ok (.iastore, 1) := by decide +kernel
theorem dX13_park_112 : decode cX13_park 112 = .ok (.iinc 2 1, 3) := by decide +kernel
theorem dX13_park_115 : decode cX13_park 115 = .ok (.goto (-16), 3) := by decide +kernel
theorem dX13_park_118 : decode cX13_park 118 = .ok (.iconst 0, 1) := by decide +kernel
theorem dX13_park_119 : decode cX13_park 119 = .ok (.istore_n 2, 1) := by decide +kernel
theorem dX13_park_120 : decode cX13_park 120 = .ok (.iload_n 2, 1) := by decide +kernel
theorem dX13_park_121 : decode cX13_park 121 = .ok (.bipush 20, 2) := by decide +kernel
theorem dX13_park_123 : decode cX13_park 123 = .ok (.if_icmp .ge 24, 3) := by decide +kernel
theorem dX13_park_126 : decode cX13_park 126 = .ok (.aload_n 0, 1) := by decide +kernel
theorem dX13_park_127 : decode cX13_park 127 = .ok (.getfield 17, 3) := by decide +kernel
theorem dX13_park_130 : decode cX13_park 130 = .ok (.iload_n 2, 1) := by decide +kernel
theorem dX13_park_131 : decode cX13_park 131 = .ok (.aload_n 0, 1) := by decide +kernel
theorem dX13_park_132 : decode cX13_park 132 = .ok (.getfield 269, 3) := by decide +kernel
theorem dX13_park_135 : decode cX13_park 135 = .ok (.getfield 201, 3) := by decide +kernel
theorem dX13_park_138 : decode cX13_park 138 = .ok (.iload_n 2, 1) := by decide +kernel
theorem dX13_park_139 : decode cX13_park 139 = .ok (.iaload, 1) := by decide +kernel
theorem dX13_park_140 : decode cX13_park 140 = .ok (.iastore, 1) := by decide +kernel
theorem dX13_park_141 : decode cX13_park 141 = .ok (.iinc 2 1, 3) := by decide +kernel
theorem dX13_park_144 : decode cX13_park 144 = .ok (.goto (-24), 3) := by decide +kernel
theorem dX13_park_147 : decode cX13_park 147 = .ok (.iconst 0, 1) := by decide +kernel
theorem dX13_park_148 : decode cX13_park 148 = .ok (.istore_n 2, 1) := by decide +kernel
theorem dX13_park_149 : decode cX13_park 149 = .ok (.iload_n 2, 1) := by decide +kernel
theorem dX13_park_150 : decode cX13_park 150 = .ok (.aload_n 0, 1) := by decide +kernel
theorem dX13_park_151 : decode cX13_park 151 = .ok (.getfield 269, 3) := by decide +kernel
theorem dX13_park_154 : decode cX13_park 154 = .ok (.getfield 206, 3) := by decide +kernel
theorem dX13_park_157 : decode cX13_park 157 = .ok (.if_icmp .ge 27, 3) := by decide +kernel
theorem dX13_park_160 : decode cX13_park 160 = .ok (.aload_n 0, 1) := by decide +kernel
theorem dX13_park_161 : decode cX13_park 161 = .ok (.getfield 17, 3) := by decide +kernel
theorem dX13_park_164 : decode cX13_park 164 = .ok (.bipush 20, 2) := by decide +kernel
theorem dX13_park_166 : decode cX13_park 166 = .ok (.iload_n 2, 1) := by decide +kernel
theorem dX13_park_167 : decode cX13_park 167 = .ok (.iadd, 1) := by decide +kernel
theorem dX13_park_168 : decode cX13_park 168 = .ok (.aload_n 0, 1) := by decide +kernel
theorem dX13_park_169 : decode cX13_park 169 = .ok (.getfield 269, 3) := by decide +kernel
theorem dX13_park_172 : decode cX13_park 172 = .ok (.getfield 241, 3) := by decide +kernel
theorem dX13_park_175 : decode cX13_park 175 = .ok (.iload_n 2, 1) := by decide +kernel
theorem dX13_park_176 : decode cX13_park 176 = .ok (.iaload, 1) := by decide +kernel
theorem dX13_park_177 : decode cX13_park 177 = .ok (.iastore, 1) := by decide +kernel
theorem dX13_park_178 : decode cX13_park 178 = .ok (.iinc 2 1, 3) := by decide +kernel
theorem dX13_park_181 : decode cX13_park 181 = .ok (.goto (-32), 3) := by decide +kernel
theorem dX13_park_184 : decode cX13_park 184 = .ok (.aload_n 0, 1) := by decide +kernel
theorem dX13_park_185 : decode cX13_park 185 = .ok (.iconst 0, 1) := by decide +kernel
theorem dX13_park_186 : decode cX13_park 186 = .ok (.putfield 271, 3) := by decide +kernel
theorem dX13_park_189 : decode cX13_park 189 = .ok (.aload_n 0, 1) := by decide +kernel
theorem dX13_park_190 : decode cX13_park 190 = .ok (.iconst 0, 1) := by decide +kernel
theorem dX13_park_191 : decode cX13_park 191 = .ok (.putfield 274, 3) := by decide +kernel
theorem dX13_park_194 : decode cX13_park 194 = .ok (.aload_n 0, 1) := by decide +kernel
theorem dX13_park_195 : decode cX13_park 195 = .ok (.aload_n 0, 1) := by decide +kernel
theorem dX13_park_196 : decode cX13_park 196 = .ok (.invokevirtual 277, 3) := by decide +kernel
theorem dX13_park_199 : decode cX13_park 199 = .ok (.invokevirtual 52, 3) := by decide +kernel
theorem dX13_park_202 : decode cX13_park 202 = .ok (.ireturn, 1) := by decide +kernel
theorem dX13_passers_0 : decode cX13_passers 0 = .ok (.aload_n 0, 1) := by decide +kernel
theorem dX13_passers_1 : decode cX13_passers 1 = .ok (.iconst 0, 1) := by decide +kernel
theorem dX13_passers_2 : decode cX13_passers 2 = .ok (.putfield 42, 3) := by decide +kernel
theorem dX13_passers_5 : decode cX13_passers 5 = .ok (.aload_n 0, 1) := by decide +kernel
theorem dX13_passers_6 : decode cX13_passers 6 = .ok (.iload_n 1, 1) := by decide +kernel
theorem dX13_passers_7 : decode cX13_passers 7 = .ok (.invokevirtual 302, 3) := by decide +kernel
theorem dX13_passers_10 : decode cX13_passers 10 = .ok (.ifCond .ne 9, 3) := by decide +kernel
theorem dX13_passers_13 : decode cX13_passers 13 = .ok (.aload_n 0, 1) := by decide +kernel
theorem dX13_passers_14 : decode cX13_passers 14 = .ok (.iconst 1, 1) := by decide +kernel
theorem dX13_passers_15 : decode cX13_passers 15 = .ok (.invokevirtual 48, 3) := by decide +kernel
theorem dX13_passers_18 : decode cX13_passers 18 = .ok (.ireturn, 1) := by decide +kernel
theorem dX13_passers_19 : decode cX13_passers 19 = .ok (.aload_n 0, 1) := by decide +kernel
theorem dX13_passers_20 : decode cX13_passers 20 = .ok (.invokevirtual 317, 3) := by decide +kernel
theorem dX13_passers_23 : decode cX13_passers 23 = .ok (.iconst 0, 1) := by decide +kernel
theorem dX13_passers_24 : decode cX13_passers 24 = .ok (.istore_n 2, 1) := by decide +kernel
theorem dX13_passers_25 : decode cX13_passers 25 = .ok (.iconst 0, 1) := by decide +kernel
theorem dX13_passers_26 : decode cX13_passers 26 = .ok (.istore_n 3, 1) := by decide +kernel
theorem dX13_passers_27 : decode cX13_passers 27 = .ok (.iload_n 3, 1) := by decide +kernel
theorem dX13_passers_28 : decode cX13_passers 28 = .ok (.aload_n 0, 1) := by decide +kernel
theorem dX13_passers_29 : decode cX13_passers 29 = .ok (.getfield 269, 3) := by decide +kernel
theorem dX13_passers_32 : decode cX13_passers 32 = .ok (.getfield 206, 3) := by decide +kernel
theorem dX13_passers_35 : decode cX13_passers 35 = .ok (.if_icmp .ge 55, 3) := by decide +kernel
theorem dX13_passers_38 : decode cX13_passers 38 = .ok (.aload_n 0, 1) := by decide +kernel
theorem dX13_passers_39 : decode cX13_passers 39 = .ok (.iload_n 3, 1) := by decide +kernel
theorem dX13_passers_40 : decode cX13_passers 40 = .ok (.iconst 0, 1) := by decide +kernel
theorem dX13_passers_41 : decode cX13_passers 41 = .ok (.invokevirtual 367, 3) := by decide +kernel
theorem dX13_passers_44 : decode cX13_passers 44 = .ok (.ifCond .ne 6, 3) := by decide +kernel
theorem dX13_passers_47 : decode cX13_passers 47 = .ok (.goto 37, 3) := by decide +kernel
theorem dX13_passers_50 : decode cX13_passers 50 = .ok (.iconst 0, 1) := by decide +kernel
theorem dX13_passers_51 : decode cX13_passers 51 = .ok (.istore 4, 2) := by decide +kernel
theorem dX13_passers_53 : decode cX13_passers 53 = .ok (.iload 4, 2) := by decide +kernel
theorem dX13_passers_55 : decode cX13_passers 55 = .ok (.sipush 200, 3) := by decide +kernel
theorem dX13_passers_58 : decode cX13_passers 58 = .ok (.if_icmp .gt 26, 3) := by decide +kernel
theorem dX13_passers_61 : decode cX13_passers 61 = .ok (.aload_n 0, 1) := by decide +kernel
theorem dX13_passers_62 : decode cX13_passers 62 = .ok (.getfield 36, 3) := by decide +kernel
theorem dX13_passers_65 : decode cX13_passers 65 = .ok (.iload 4, 2) := by decide +kernel
theorem dX13_passers_67 : decode cX13_passers 67 = .ok (.iaload, 1) := by decide +kernel
theorem dX13_passers_68 : decode cX13_passers 68 = .ok (.iload_n 1, 1) := by decide +kernel
theorem dX13_passers_69 : decode cX13_passers 69 = .ok (.if_icmp .ne 9, 3) := by decide +kernel
theorem dX13_passers_72 : decode cX13_passers 72 = .ok (.iload_n 2, 1) := by decide +kernel
theorem dX13_passers_73 : decode cX13_passers 73 = .ok (.iconst 1, 1) := by decide +kernel
theorem dX13_passers_74 : decode cX13_passers 74 = .ok (.iload_n 3, 1) := by decide +kernel
theorem dX13_passers_75 : decode cX13_passers 75 = .ok (.ishl, 1) := by decide +kernel
theorem dX13_passers_76 : decode cX13_passers 76 = .ok (.ior, 1) := by decide +kernel
theorem dX13_passers_77 : decode cX13_passers 77 = .ok (.istore_n 2, 1) := by decide +kernel
theorem dX13_passers_78 : decode cX13_passers 78 = .ok (.iinc 4 1, 3) := by decide +kernel
theorem dX13_passers_81 : decode cX13_passers 81 = .ok (.goto (-28), 3) := by decide +kernel
theorem dX13_passers_84 : decode cX13_passers 84 = .ok (.iinc 3 1, 3) := by decide +kernel
theorem dX13_passers_87 : decode cX13_passers 87 = .ok (.goto (-60), 3) := by decide +kernel
theorem dX13_passers_90 : decode cX13_passers 90 = .ok (.aload_n 0, 1) := by decide +kernel
theorem dX13_passers_91 : decode cX13_passers 91 = .ok (.iload_n 2, 1) := by decide +kernel
theorem dX13_passers_92 : decode cX13_passers 92 = .ok (.invokevirtual 52, 3) := by decide +kernel
theorem dX13_passers_95 : decode cX13_passers 95 = .ok (.ireturn, 1) := by decide +kernel
theorem dX13_place_0 : decode cX13_place 0 = .ok (.aload_n 0, 1) := by decide +kernel
theorem dX13_place_1 : decode cX13_place 1 = .ok (.iconst 0, 1) := by decide +kernel
theorem dX13_place_2 : decode cX13_place 2 = .ok (.putfield 42, 3) := by decide +kernel
theorem dX13_place_5 : decode cX13_place 5 = .ok (.aload_n 0, 1) := by decide +kernel
theorem dX13_place_6 : decode cX13_place 6 = .ok (.iload_n 1, 1) := by decide +kernel
theorem dX13_place_7 : decode cX13_place 7 = .ok (.invokevirtual 302, 3) := by decide +kernel
theorem dX13_place_10 : decode cX13_place 10 = .ok (.ifCond .eq 12, 3) := by decide +kernel
theorem dX13_place_13 : decode cX13_place 13 = .ok (.iload_n 2, 1) := by decide +kernel
theorem dX13_place_14 : decode cX13_place 14 = .ok (.iconst 0, 1) := by decide +kernel
theorem dX13_place_15 : decode cX13_place 15 = .ok (.iconst 3, 1) := by decide +kernel
theorem dX13_place_16 : decode cX13_place 16 = .ok (.invokestatic 124, 3) := by decide +kernel
theorem dX13_place_19 : decode cX13_place 19 = .ok (.ifCond .ne 9, 3) := by decide +kernel
theorem dX13_place_22 : decode cX13_place 22 = .ok (.aload_n 0, 1) := by decide +kernel
theorem dX13_place_23 : decode cX13_place 23 = .ok (.iconst 1, 1) := by decide +kernel
theorem dX13_place_24 : decode cX13_place 24 = .ok (.invokevirtual 48, 3) := by decide +kernel
theorem dX13_place_27 : decode cX13_place 27 = .ok (.ireturn, 1) := by decide +kernel
theorem dX13_place_28 : decode cX13_place 28 = .ok (.aload_n 0, 1) := by decide +kernel
theorem dX13_place_29 : decode cX13_place 29 = .ok (.iload_n 2, 1) := by decide +kernel
theorem dX13_place_30 : decode cX13_place 30 = .ok (.ifCond .ne 12, 3) := by decide +kernel
theorem dX13_place_33 : decode cX13_place 33 = .ok (.aload_n 0, 1) := by decide +kernel
theorem dX13_place_34 : decode cX13_place 34 = .ok (.getfield 17, 3) := by decide +kernel
theorem dX13_place_37 : decode cX13_place 37 = .ok (.iload_n 1, 1) := by decide +kernel
theorem dX13_place_38 : decode cX13_place 38 = .ok (.iaload, 1) := by decide +kernel
theorem dX13_place_39 : decode cX13_place 39 = .ok (.goto 46, 3) := by decide +kernel
theorem dX13_place_42 : decode cX13_place 42 = .ok (.iload_n 2, 1) := by decide +kernel
theorem dX13_place_43 : decode cX13_place 43 = .ok (.iconst 1, 1) := by decide +kernel
theorem dX13_place_44 : decode cX13_place 44 = .ok (.if_icmp .ne 22, 3) := by decide +kernel
theorem dX13_place_47 : decode cX13_place 47 = .ok (.aload_n 0, 1) := by decide +kernel
theorem dX13_place_48 : decode cX13_place 48 = .ok (.getfield 269, 3) := by decide +kernel
theorem dX13_place_51 : decode cX13_place 51 = .ok (.iload_n 1, 1) := by decide +kernel
theorem dX13_place_52 : decode cX13_place 52 = .ok (.invokevirtual 305, 3) := by decide +kernel
theorem dX13_place_55 : decode cX13_place 55 = .ok (.ifCond .eq 7, 3) := by decide +kernel
theorem dX13_place_58 : decode cX13_place 58 = .ok (.iconst 1, 1) := by decide +kernel
theorem dX13_place_59 : decode cX13_place 59 = .ok (.goto 26, 3) := by decide +kernel
theorem dX13_place_62 : decode cX13_place 62 = .ok (.iconst 0, 1) := by decide +kernel
theorem dX13_place_63 : decode cX13_place 63 = .ok (.goto 22, 3) := by decide +kernel
theorem dX13_place_66 : decode cX13_place 66 = .ok (.iload_n 2, 1) := by decide +kernel
theorem dX13_place_67 : decode cX13_place 67 = .ok (.iconst 2, 1) := by decide +kernel
theorem dX13_place_68 : decode cX13_place 68 = .ok (.if_icmp .ne 11, 3) := by decide +kernel
theorem dX13_place_71 : decode cX13_place 71 = .ok (.aload_n 0, 1) := by decide +kernel
theorem dX13_place_72 : decode cX13_place 72 = .ok (.iload_n 1, 1) := by decide +kernel
theorem dX13_place_73 : decode cX13_place 73 = .ok (.invokevirtual 308, 3) := by decide +kernel
theorem dX13_place_76 : decode cX13_place 76 = .ok (.goto 9, 3) := by decide +kernel
theorem dX13_place_79 : decode cX13_place 79 = .ok (.aload_n 0, 1) := by decide +kernel
theorem dX13_place_80 : decode cX13_place 80 = .ok (.iload_n 1, 1) := by decide +kernel
theorem dX13_place_81 : decode cX13_place 81 = .ok (.iconst 2, 1) := by decide +kernel
theorem dX13_place_82 : decode cX13_place 82 = .ok (.invokevirtual 280, 3) := by decide +kernel
theorem dX13_place_85 : decode cX13_place 85 = .ok (.invokevirtual 52, 3) := by decide +kernel
theorem dX13_place_88 : decode cX13_place 88 = .ok (.ireturn, 1) := by decide +kernel
theorem dX13_places_0 : decode cX13_places 0 = .ok (.aload_n 0, 1) := by decide +kernel
theorem dX13_places_1 : decode cX13_places 1 = .ok (.getfield 269, 3) := by decide +kernel
theorem dX13_places_4 : decode cX13_places 4 = .ok (.getfield 158, 3) := by decide +kernel
theorem dX13_places_7 : decode cX13_places 7 = .ok (.aload_n 0, 1) := by decide +kernel
theorem dX13_places_8 : decode cX13_places 8 = .ok (.getfield 269, 3) := by decide +kernel
theorem dX13_places_11 : decode cX13_places 11 = .ok (.getfield 166, 3) := by decide +kernel
theorem dX13_places_14 : decode cX13_places 14 = .ok (.imul, 1) := by decide +kernel
theorem dX13_places_15 : decode cX13_places 15 = .ok (.ireturn, 1) := by decide +kernel
theorem dX13_quick_0 : decode cX13_quick 0 = .ok (.aload_n 0, 1) := by decide +kernel
theorem dX13_quick_1 : decode cX13_quick 1 = .ok (.iconst 0, 1) := by decide +kernel
theorem dX13_quick_2 : decode cX13_quick 2 = .ok (.putfield 42, 3) := by decide +kernel
theorem dX13_quick_5 : decode cX13_quick 5 = .ok (.aload_n 0, 1) := by decide +kernel
theorem dX13_quick_6 : decode cX13_quick 6 = .ok (.iload_n 1, 1) := by decide +kernel
theorem dX13_quick_7 : decode cX13_quick 7 = .ok (.iconst 1, 1) := by decide +kernel
theorem dX13_quick_8 : decode cX13_quick 8 = .ok (.iconst 1, 1) := by decide +kernel
theorem dX13_quick_9 : decode cX13_quick 9 = .ok (.invokevirtual 331, 3) := by decide +kernel
theorem dX13_quick_12 : decode cX13_quick 12 = .ok (.ireturn, 1) := by decide +kernel
theorem dX13_quickAt_0 : decode cX13_quickAt 0 = .ok (.aload_n 0, 1) := by decide +kernel
theorem dX13_quickAt_1 : decode cX13_quickAt 1 = .ok (.iconst 0, 1) := by decide +kernel
theorem dX13_quickAt_2 : decode cX13_quickAt 2 = .ok (.putfield 42, 3) := by decide +kernel
theorem dX13_quickAt_5 : decode cX13_quickAt 5 = .ok (.aload_n 0, 1) := by decide +kernel
theorem dX13_quickAt_6 : decode cX13_quickAt 6 = .ok (.iload_n 1, 1) := by decide +kernel
theorem dX13_quickAt_7 : decode cX13_quickAt 7 = .ok (.iload_n 2, 1) := by decide +kernel
theorem dX13_quickAt_8 : decode cX13_quickAt 8 = .ok (.iconst 1, 1) := by decide +kernel
theorem dX13_quickAt_9 : decode cX13_quickAt 9 = .ok (.invokevirtual 335, 3) := by decide +kernel
theorem dX13_quickAt_12 : decode cX13_quickAt 12 = .ok (.ireturn, 1) := by decide +kernel
theorem dX13_quickFalls_0 : decode cX13_quickFalls 0 = .ok (.aload_n 0, 1) := by decide +kernel
theorem dX13_quickFalls_1 : decode cX13_quickFalls 1 = .ok (.iconst 0, 1) := by decide +kernel
theorem dX13_quickFalls_2 : decode cX13_quickFalls 2 = .ok (.putfield 42, 3) := by decide +kernel
theorem dX13_quickFalls_5 : decode cX13_quickFalls 5 = .ok (.aload_n 0, 1) := by decide +kernel
theorem dX13_quickFalls_6 : decode cX13_quickFalls 6 = .ok (.iload_n 1, 1) := by decide +kernel
theorem dX13_quickFalls_7 : decode cX13_quickFalls 7 = .ok (.iconst 1, 1) := by decide +kernel
theorem dX13_quickFalls_8 : decode cX13_quickFalls 8 = .ok (.iconst 0, 1) := by decide +kernel
theorem dX13_quickFalls_9 : decode cX13_quickFalls 9 = .ok (.invokevirtual 331, 3) := by decide +kernel
theorem dX13_quickFalls_12 : decode cX13_quickFalls 12 = .ok (.ireturn, 1) := by decide +kernel
theorem dX13_ramble_0 : decode cX13_ramble 0 = .ok (.aload_n 0, 1) := by decide +kernel
theorem dX13_ramble_1 : decode cX13_ramble 1 = .ok (.iconst 0, 1) := by decide +kernel
theorem dX13_ramble_2 : decode cX13_ramble 2 = .ok (.putfield 42, 3) := by decide +kernel
theorem dX13_ramble_5 : decode cX13_ramble 5 = .ok (.aload_n 0, 1) := by decide +kernel
theorem dX13_ramble_6 : decode cX13_ramble 6 = .ok (.iload_n 1, 1) := by decide +kernel
theorem dX13_ramble_7 : decode cX13_ramble 7 = .ok (.iload_n 2, 1) := by decide +kernel
theorem dX13_ramble_8 : decode cX13_ramble 8 = .ok (.iload_n 3, 1) := by decide +kernel
theorem dX13_ramble_9 : decode cX13_ramble 9 = .ok (.invokevirtual 438, 3) := by decide +kernel
theorem dX13_ramble_12 : decode cX13_ramble 12 = .ok (.istore 4, 2) := by decide +kernel
theorem dX13_ramble_14 : decode cX13_ramble 14 = .ok (.iload 4, 2) := by decide +kernel
theorem dX13_ramble_16 : decode cX13_ramble 16 = .ok (.ifCond .le 10, 3) := by decide +kernel
theorem dX13_ramble_19 : decode cX13_ramble 19 = .ok (.aload_n 0, 1) := by decide +kernel
theorem dX13_ramble_20 : decode cX13_ramble 20 = .ok (.iload 4, 2) := by decide +kernel
theorem dX13_ramble_22 : decode cX13_ramble 22 = .ok (.invokevirtual 48, 3) := by decide +kernel
theorem dX13_ramble_25 : decode cX13_ramble 25 = .ok (.ireturn, 1) := by decide +kernel
theorem dX13_ramble_26 : decode cX13_ramble 26 = .ok (.aload_n 0, 1) := by decide +kernel
theorem dX13_ramble_27 : decode cX13_ramble 27 = .ok (.iload_n 1, 1) := by decide +kernel
theorem dX13_ramble_28 : decode cX13_ramble 28 = .ok (.iload_n 2, 1) := by decide +kernel
theorem dX13_ramble_29 : decode cX13_ramble 29 = .ok (.iload_n 3, 1) := by decide +kernel
theorem dX13_ramble_30 : decode cX13_ramble 30 = .ok (.invokevirtual 441, 3) := by decide +kernel
theorem dX13_ramble_33 : decode cX13_ramble 33 = .ok (.aload_n 0, 1) := by decide +kernel
theorem dX13_ramble_34 : decode cX13_ramble 34 = .ok (.aload_n 0, 1) := by decide +kernel
theorem dX13_ramble_35 : decode cX13_ramble 35 = .ok (.getfield 434, 3) := by decide +kernel
theorem dX13_ramble_38 : decode cX13_ramble 38 = .ok (.invokevirtual 52, 3) := by decide +kernel
theorem dX13_ramble_41 : decode cX13_ramble 41 = .ok (.ireturn, 1) := by decide +kernel
theorem dX13_rambleFalls_0 : decode cX13_rambleFalls 0 = .ok (.aload_n 0, 1) := by decide +kernel
theorem dX13_rambleFalls_1 : decode cX13_rambleFalls 1 = .ok (.iconst 0, 1) := by decide +kernel
theorem dX13_rambleFalls_2 : decode cX13_rambleFalls 2 = .ok (.putfield 42, 3) := by decide +kernel
theorem dX13_rambleFalls_5 : decode cX13_rambleFalls 5 = .ok (.aload_n 0, 1) := by decide +kernel
theorem dX13_rambleFalls_6 : decode cX13_rambleFalls 6 = .ok (.iload_n 1, 1) := by decide +kernel
theorem dX13_rambleFalls_7 : decode cX13_rambleFalls 7 = .ok (.iload_n 2, 1) := by decide +kernel
theorem dX13_rambleFalls_8 : decode cX13_rambleFalls 8 = .ok (.iload_n 3, 1) := by decide +kernel
theorem dX13_rambleFalls_9 : decode cX13_rambleFalls 9 = .ok (.invokevirtual 438, 3) := by decide +kernel
theorem dX13_rambleFalls_12 : decode cX13_rambleFalls 12 = .ok (.istore 4, 2) := by decide +kernel
theorem dX13_rambleFalls_14 : decode cX13_rambleFalls 14 = .ok (.iload 4, 2) := by decide +kernel
theorem dX13_rambleFalls_16 : decode cX13_rambleFalls 16 = .ok (.ifCond .le 10, 3) := by decide +kernel
theorem dX13_rambleFalls_19 : decode cX13_rambleFalls 19 = .ok (.aload_n 0, 1) := by decide +kernel
theorem dX13_rambleFalls_20 : decode cX13_rambleFalls 20 = .ok (.iload 4, 2) := by decide +kernel
theorem dX13_rambleFalls_22 : decode cX13_rambleFalls 22 = .ok (.invokevirtual 48, 3) := by decide +kernel
theorem dX13_rambleFalls_25 : decode cX13_rambleFalls 25 = .ok (.ireturn, 1) := by decide +kernel
theorem dX13_rambleFalls_26 : decode cX13_rambleFalls 26 = .ok (.aload_n 0, 1) := by decide +kernel
theorem dX13_rambleFalls_27 : decode cX13_rambleFalls 27 = .ok (.iload_n 1, 1) := by decide +kernel
theorem dX13_rambleFalls_28 : decode cX13_rambleFalls 28 = .ok (.iload_n 2, 1) := by decide +kernel
theorem dX13_rambleFalls_29 : decode cX13_rambleFalls 29 = .ok (.iload_n 3, 1) := by decide +kernel
theorem dX13_rambleFalls_30 : decode cX13_rambleFalls 30 = .ok (.invokevirtual 441, 3) := by decide +kernel
theorem dX13_rambleFalls_33 : decode cX13_rambleFalls 33 = .ok (.aload_n 0, 1) := by decide +kernel
theorem dX13_rambleFalls_34 : decode cX13_rambleFalls 34 = .ok (.aload_n 0, 1) := by decide +kernel
theorem dX13_rambleFalls_35 : decode cX13_rambleFalls 35 = .ok (.getfield 422, 3) := by decide +kernel
theorem dX13_rambleFalls_38 : decode cX13_rambleFalls 38 = .ok (.invokevirtual 52, 3) := by decide +kernel
theorem dX13_rambleFalls_41 : decode cX13_rambleFalls 41 = .ok (.ireturn, 1) := by decide +kernel
theorem dX13_rambles_0 : decode cX13_rambles 0 = .ok (.aload_n 0, 1) := by decide +kernel
theorem dX13_rambles_1 : decode cX13_rambles 1 = .ok (.invokevirtual 317, 3) := by decide +kernel
theorem dX13_rambles_4 : decode cX13_rambles 4 = .ok (.iload_n 2, 1) := by decide +kernel
theorem dX13_rambles_5 : decode cX13_rambles 5 = .ok (.istore 4, 2) := by decide +kernel
theorem dX13_rambles_7 : decode cX13_rambles 7 = .ok (.aload_n 0, 1) := by decide +kernel
theorem dX13_rambles_8 : decode cX13_rambles 8 = .ok (.getfield 17, 3) := by decide +kernel
theorem dX13_rambles_11 : decode cX13_rambles 11 = .ok (.bipush 20, 2) := by decide +kernel
theorem dX13_rambles_13 : decode cX13_rambles 13 = .ok (.iload_n 1, 1) := by decide +kernel
theorem dX13_rambles_14 : decode cX13_rambles 14 = .ok (.iadd, 1) := by decide +kernel
theorem dX13_rambles_15 : decode cX13_rambles 15 = .ok (.iaload, 1) := by decide +kernel
theorem dX13_rambles_16 : decode cX13_rambles 16 = .ok (.istore 5, 2) := by decide +kernel
theorem dX13_rambles_18 : decode cX13_rambles 18 = .ok (.aload_n 0, 1) := by decide +kernel
theorem dX13_rambles_19 : decode cX13_rambles 19 = .ok (.iconst 0, 1) := by decide +kernel
theorem dX13_rambles_20 : decode cX13_rambles 20 = .ok (.putfield 422, 3) := by decide +kernel
theorem dX13_rambles_23 : decode cX13_rambles 23 = .ok (.aload_n 0, 1) := by decide +kernel
theorem dX13_rambles_24 : decode cX13_rambles 24 = .ok (.iload 5, 2) := by decide +kernel
theorem dX13_rambles_26 : decode cX13_rambles 26 = .ok (.aload_n 0, 1) := by decide +kernel
theorem dX13_rambles_27 : decode cX13_rambles 27 = .ok (.getfield 269, 3) := by decide +kernel
theorem dX13_rambles_30 : decode cX13_rambles 30 = .ok (.getfield 243, 3) := by decide +kernel
theorem dX13_rambles_33 : decode cX13_rambles 33 = .ok (.iload_n 1, 1) := by decide +kernel
theorem dX13_rambles_34 : decode cX13_rambles 34 = .ok (.iaload, 1) := by decide +kernel
theorem dX13_rambles_35 : decode cX13_rambles 35 = .ok (.if_icmp .ne 7, 3) := by decide +kernel
theorem dX13_rambles_38 : decode cX13_rambles 38 = .ok (.iconst 0, 1) := by decide +kernel
theorem dX13_rambles_39 : decode cX13_rambles 39 = .ok (.goto 5, 3) := by decide +kernel
theorem dX13_rambles_42 : decode cX13_rambles 42 = .ok (.bipush (-2), 2) := by decide +kernel
theorem dX13_rambles_44 : decode cX13_rambles 44 = .ok (.putfield 425, 3) := by decide +kernel
theorem dX13_rambles_47 : decode cX13_rambles 47 = .ok (.iconst 1, 1) := by decide +kernel
theorem dX13_rambles_48 : decode cX13_rambles 48 = .ok (.istore 6, 2) := by decide +kernel
theorem dX13_rambles_50 : decode cX13_rambles 50 = .ok (.iload 6, 2) := by decide +kernel
theorem dX13_rambles_52 : decode cX13_rambles 52 = .ok (.iload_n 3, 1) := by decide +kernel
theorem dX13_rambles_53 : decode cX13_rambles 53 = .ok (.if_icmp .gt 128, 3) := by decide +kernel
theorem dX13_rambles_56 : decode cX13_rambles 56 = .ok (.ldc2_w 428, 3) := by decide +kernel
theorem dX13_rambles_59 : decode cX13_rambles 59 = .ok (.iload 4, 2) := by decide +kernel
theorem dX13_rambles_61 : decode cX13_rambles 61 = .ok (.i2l, 1) := by decide +kernel
theorem dX13_rambles_62 : decode cX13_rambles 62 = .ok (.lmul, 1) := by decide +kernel
theorem dX13_rambles_63 : decode cX13_rambles 63 = .ok (.ldc2_w 430, 3) := by decide +kernel
theorem dX13_rambles_66 : decode cX13_rambles 66 = .ok (.ladd, 1) := by decide +kernel
theorem dX13_rambles_67 : decode cX13_rambles 67 = .ok (.ldc2_w 432, 3) := by decide +kernel
theorem dX13_rambles_70 : decode cX13_rambles 70 = .ok (.lrem, 1) := by decide +kernel
theorem dX13_rambles_71 : decode cX13_rambles 71 = .ok (.l2i, 1) := by decide +kernel
theorem dX13_rambles_72 : decode cX13_rambles 72 = .ok (.istore 4, 2) := by decide +kernel
theorem dX13_rambles_74 : decode cX13_rambles 74 = .ok (.iload 4, 2) := by decide +kernel
theorem dX13_rambles_76 : decode cX13_rambles 76 = .ok (.iconst 4, 1) := by decide +kernel
theorem dX13_rambles_77 : decode cX13_rambles 77 = .ok (.irem, 1) := by decide +kernel
theorem dX13_rambles_78 : decode cX13_rambles 78 = .ok (.istore 7, 2) := by decide +kernel
theorem dX13_rambles_80 : decode cX13_rambles 80 = .ok (.aload_n 0, 1) := by decide +kernel
theorem dX13_rambles_81 : decode cX13_rambles 81 = .ok (.aload_n 0, 1) := by decide +kernel
theorem dX13_rambles_82 : decode cX13_rambles 82 = .ok (.getfield 269, 3) := by decide +kernel
theorem dX13_rambles_85 : decode cX13_rambles 85 = .ok (.getfield 238, 3) := by decide +kernel
theorem dX13_rambles_88 : decode cX13_rambles 88 = .ok (.iload_n 1, 1) := by decide +kernel
theorem dX13_rambles_89 : decode cX13_rambles 89 = .ok (.iaload, 1) := by decide +kernel
theorem dX13_rambles_90 : decode cX13_rambles 90 = .ok (.iload 5, 2) := by decide +kernel
theorem dX13_rambles_92 : decode cX13_rambles 92 = .ok (.iload 7, 2) := by decide +kernel
theorem dX13_rambles_94 : decode cX13_rambles 94 = .ok (.invokevirtual 289, 3) := by decide +kernel
theorem dX13_rambles_97 : decode cX13_rambles 97 = .ok (.bipush (-2), 2) := by decide +kernel
theorem dX13_rambles_99 : decode cX13_rambles 99 = .ok (.if_icmp .eq 47, 3) := by decide +kernel
theorem dX13_rambles_102 : decode cX13_rambles 102 = .ok (.aload_n 0, 1) := by decide +kernel
theorem dX13_rambles_103 : decode cX13_rambles 103 = .ok (.dup, 1) := by decide +kernel
theorem dX13_rambles_104 : decode cX13_rambles 104 = .ok (.getfield 422, 3) := by decide +kernel
theorem dX13_rambles_107 : decode cX13_rambles 107 = .ok (.aload_n 0, 1) := by decide +kernel
theorem dX13_rambles_108 : decode cX13_rambles 108 = .ok (.aload_n 0, 1) := by decide +kernel
theorem dX13_rambles_109 : decode cX13_rambles 109 = .ok (.getfield 269, 3) := by decide +kernel
theorem dX13_rambles_112 : decode cX13_rambles 112 = .ok (.getfield 238, 3) := by decide +kernel
theorem dX13_rambles_115 : decode cX13_rambles 115 = .ok (.iload_n 1, 1) := by decide +kernel
theorem dX13_rambles_116 : decode cX13_rambles 116 = .ok (.iaload, 1) := by decide +kernel
theorem dX13_rambles_117 : decode cX13_rambles 117 = .ok (.iload 5, 2) := by decide +kernel
theorem dX13_rambles_119 : decode cX13_rambles 119 = .ok (.iload 7, 2) := by decide +kernel
theorem dX13_rambles_121 : decode cX13_rambles 121 = .ok (.invokevirtual 286, 3) := by decide +kernel
theorem dX13_rambles_124 : decode cX13_rambles 124 = .ok (.ifCond .eq 7, 3) := by decide +kernel
theorem dX13_rambles_127 : decode cX13_rambles 127 = .ok (.iconst 1, 1) := by decide +kernel
theorem dX13_rambles_128 : decode cX13_rambles 128 = .ok (.goto 4, 3) := by decide +kernel
theorem dX13_rambles_131 : decode cX13_rambles 131 = .ok (.iconst 0, 1) := by decide +kernel
theorem dX13_rambles_132 : decode cX13_rambles 132 = .ok (.iadd, 1) := by decide +kernel
theorem dX13_rambles_133 : decode cX13_rambles 133 = .ok (.putfield 422, 3) := by decide +kernel
theorem dX13_rambles_136 : decode cX13_rambles 136 = .ok (.aload_n 0, 1) := by decide +kernel
theorem dX13_rambles_137 : decode cX13_rambles 137 = .ok (.iload 5, 2) := by decide +kernel
theorem dX13_rambles_139 : decode cX13_rambles 139 = .ok (.iload 7, 2) := by decide +kernel
theorem dX13_rambles_141 : decode cX13_rambles 141 = .ok (.invokevirtual 280, 3) := by decide +kernel
theorem dX13_rambles_144 : decode cX13_rambles 144 = .ok (.istore 5, 2) := by decide +kernel
theorem dX13_rambles_146 : decode cX13_rambles 146 = .ok (.aload_n 0, 1) := by decide +kernel
theorem dX13_rambles_147 : decode cX13_rambles 147 = .ok (.getfield 425, 3) := by decide +kernel
theorem dX13_rambles_150 : decode cX13_rambles 150 = .ok (.bipush (-2), 2) := by decide +kernel
theorem dX13_rambles_152 : decode cX13_rambles 152 = .ok (.if_icmp .ne 23, 3) := by decide +kernel
theorem dX13_rambles_155 : decode cX13_rambles 155 = .ok (.iload 5, 2) := by decide +kernel
theorem dX13_rambles_157 : decode cX13_rambles 157 = .ok (.aload_n 0, 1) := by decide +kernel
theorem dX13_rambles_158 : decode cX13_rambles 158 = .ok (.getfield 269, 3) := by decide +kernel
theorem dX13_rambles_161 : decode cX13_rambles 161 = .ok (.getfield 243, 3) := by decide +kernel
theorem dX13_rambles_164 : decode cX13_rambles 164 = .ok (.iload_n 1, 1) := by decide +kernel
theorem dX13_rambles_165 : decode cX13_rambles 165 = .ok (.iaload, 1) := by decide +kernel
theorem dX13_rambles_166 : decode cX13_rambles 166 = .ok (.if_icmp .ne 9, 3) := by decide +kernel
theorem dX13_rambles_169 : decode cX13_rambles 169 = .ok (.aload_n 0, 1) := by decide +kernel
theorem dX13_rambles_170 : decode cX13_rambles 170 = .ok (.iload 6, 2) := by decide +kernel
theorem dX13_rambles_172 : decode cX13_rambles 172 = .ok (.putfield 425, 3) := by decide +kernel
theorem dX13_rambles_175 : decode cX13_rambles 175 = .ok (.iinc 6 1, 3) := by decide +kernel
theorem dX13_rambles_178 : decode cX13_rambles 178 = .ok (.goto (-128), 3) := by decide +kernel
theorem dX13_rambles_181 : decode cX13_rambles 181 = .ok (.aload_n 0, 1) := by decide +kernel
theorem dX13_rambles_182 : decode cX13_rambles 182 = .ok (.iload 5, 2) := by decide +kernel
theorem dX13_rambles_184 : decode cX13_rambles 184 = .ok (.putfield 434, 3) := by decide +kernel
theorem dX13_rambles_187 : decode cX13_rambles 187 = .ok (.return_, 1) := by decide +kernel
theorem dX13_reach_0 : decode cX13_reach 0 = .ok (.aload_n 0, 1) := by decide +kernel
theorem dX13_reach_1 : decode cX13_reach 1 = .ok (.iconst 0, 1) := by decide +kernel
theorem dX13_reach_2 : decode cX13_reach 2 = .ok (.putfield 42, 3) := by decide +kernel
theorem dX13_reach_5 : decode cX13_reach 5 = .ok (.aload_n 0, 1) := by decide +kernel
theorem dX13_reach_6 : decode cX13_reach 6 = .ok (.iload_n 1, 1) := by decide +kernel
theorem dX13_reach_7 : decode cX13_reach 7 = .ok (.invokevirtual 311, 3) := by decide +kernel
theorem dX13_reach_10 : decode cX13_reach 10 = .ok (.ifCond .ne 9, 3) := by decide +kernel
theorem dX13_reach_13 : decode cX13_reach 13 = .ok (.aload_n 0, 1) := by decide +kernel
theorem dX13_reach_14 : decode cX13_reach 14 = .ok (.iconst 1, 1) := by decide +kernel
theorem dX13_reach_15 : decode cX13_reach 15 = .ok (.invokevirtual 48, 3) := by decide +kernel
theorem dX13_reach_18 : decode cX13_reach 18 = .ok (.ireturn, 1) := by decide +kernel
theorem dX13_reach_19 : decode cX13_reach 19 = .ok (.aload_n 0, 1) := by decide +kernel
theorem dX13_reach_20 : decode cX13_reach 20 = .ok (.invokevirtual 317, 3) := by decide +kernel
theorem dX13_reach_23 : decode cX13_reach 23 = .ok (.aload_n 0, 1) := by decide +kernel
theorem dX13_reach_24 : decode cX13_reach 24 = .ok (.iload_n 1, 1) := by decide +kernel
theorem dX13_reach_25 : decode cX13_reach 25 = .ok (.invokevirtual 338, 3) := by decide +kernel
theorem dX13_reach_28 : decode cX13_reach 28 = .ok (.aload_n 0, 1) := by decide +kernel
theorem dX13_reach_29 : decode cX13_reach 29 = .ok (.aload_n 0, 1) := by decide +kernel
theorem dX13_reach_30 : decode cX13_reach 30 = .ok (.ldc_w 341, 3) := by decide +kernel
theorem dX13_reach_33 : decode cX13_reach 33 = .ok (.invokevirtual 342, 3) := by decide +kernel
theorem dX13_reach_36 : decode cX13_reach 36 = .ok (.invokevirtual 52, 3) := by decide +kernel
theorem dX13_reach_39 : decode cX13_reach 39 = .ok (.ireturn, 1) := by decide +kernel
theorem dX13_reachIn_0 : decode cX13_reachIn 0 = .ok (.aload_n 0, 1) := by decide +kernel
theorem dX13_reachIn_1 : decode cX13_reachIn 1 = .ok (.iconst 0, 1) := by decide +kernel
theorem dX13_reachIn_2 : decode cX13_reachIn 2 = .ok (.putfield 42, 3) := by decide +kernel
theorem dX13_reachIn_5 : decode cX13_reachIn 5 = .ok (.aload_n 0, 1) := by decide +kernel
theorem dX13_reachIn_6 : decode cX13_reachIn 6 = .ok (.iload_n 1, 1) := by decide +kernel
theorem dX13_reachIn_7 : decode cX13_reachIn 7 = .ok (.invokevirtual 311, 3) := by decide +kernel
theorem dX13_reachIn_10 : decode cX13_reachIn 10 = .ok (.ifCond .ne 9, 3) := by decide +kernel
theorem dX13_reachIn_13 : decode cX13_reachIn 13 = .ok (.aload_n 0, 1) := by decide +kernel
theorem dX13_reachIn_14 : decode cX13_reachIn 14 = .ok (.iconst 1, 1) := by decide +kernel
theorem dX13_reachIn_15 : decode cX13_reachIn 15 = .ok (.invokevirtual 48, 3) := by decide +kernel
theorem dX13_reachIn_18 : decode cX13_reachIn 18 = .ok (.ireturn, 1) := by decide +kernel
theorem dX13_reachIn_19 : decode cX13_reachIn 19 = .ok (.iload_n 2, 1) := by decide +kernel
theorem dX13_reachIn_20 : decode cX13_reachIn 20 = .ok (.iconst 0, 1) := by decide +kernel
theorem dX13_reachIn_21 : decode cX13_reachIn 21 = .ok (.bipush 99, 2) := by decide +kernel
theorem dX13_reachIn_23 : decode cX13_reachIn 23 = .ok (.invokestatic 124, 3) := by decide +kernel
theorem dX13_reachIn_26 : decode cX13_reachIn 26 = .ok (.ifCond .ne 9, 3) := by decide +kernel
theorem dX13_reachIn_29 : decode cX13_reachIn 29 = .ok (.aload_n 0, 1) := by decide +kernel
theorem dX13_reachIn_30 : decode cX13_reachIn 30 = .ok (.iconst 2, 1) := by decide +kernel
theorem dX13_reachIn_31 : decode cX13_reachIn 31 = .ok (.invokevirtual 48, 3) := by decide +kernel
theorem dX13_reachIn_34 : decode cX13_reachIn 34 = .ok (.ireturn, 1) := by decide +kernel
theorem dX13_reachIn_35 : decode cX13_reachIn 35 = .ok (.aload_n 0, 1) := by decide +kernel
theorem dX13_reachIn_36 : decode cX13_reachIn 36 = .ok (.invokevirtual 317, 3) := by decide +kernel
theorem dX13_reachIn_39 : decode cX13_reachIn 39 = .ok (.aload_n 0, 1) := by decide +kernel
theorem dX13_reachIn_40 : decode cX13_reachIn 40 = .ok (.iload_n 1, 1) := by decide +kernel
theorem dX13_reachIn_41 : decode cX13_reachIn 41 = .ok (.invokevirtual 338, 3) := by decide +kernel
theorem dX13_reachIn_44 : decode cX13_reachIn 44 = .ok (.aload_n 0, 1) := by decide +kernel
theorem dX13_reachIn_45 : decode cX13_reachIn 45 = .ok (.aload_n 0, 1) := by decide +kernel
theorem dX13_reachIn_46 : decode cX13_reachIn 46 = .ok (.iload_n 2, 1) := by decide +kernel
theorem dX13_reachIn_47 : decode cX13_reachIn 47 = .ok (.invokevirtual 342, 3) := by decide +kernel
theorem dX13_reachIn_50 : decode cX13_reachIn 50 = .ok (.invokevirtual 52, 3) := by decide +kernel
theorem dX13_reachIn_53 : decode cX13_reachIn 53 = .ok (.ireturn, 1) := by decide +kernel
theorem dX13_readAll_0 : decode cX13_readAll 0 = .ok (.iconst 1, 1) := by decide +kernel
theorem dX13_readAll_1 : decode cX13_readAll 1 = .ok (.istore_n 1, 1) := by decide +kernel
theorem dX13_readAll_2 : decode cX13_readAll 2 = .ok (.iload_n 1, 1) := by decide +kernel
theorem dX13_readAll_3 : decode cX13_readAll 3 = .ok (.ifCond .eq 15, 3) := by decide +kernel
theorem dX13_readAll_6 : decode cX13_readAll 6 = .ok (.aload_n 0, 1) := by decide +kernel
theorem dX13_readAll_7 : decode cX13_readAll 7 = .ok (.invokevirtual 147, 3) := by decide +kernel
theorem dX13_readAll_10 : decode cX13_readAll 10 = .ok (.aload_n 0, 1) := by decide +kernel
theorem dX13_readAll_11 : decode cX13_readAll 11 = .ok (.invokevirtual 150, 3) := by decide +kernel
theorem dX13_readAll_14 : decode cX13_readAll 14 = .ok (.istore_n 1, 1) := by decide +kernel
theorem dX13_readAll_15 : decode cX13_readAll 15 = .ok (.goto (-13), 3) := by decide +kernel
theorem dX13_readAll_18 : decode cX13_readAll 18 = .ok (.aload_n 0, 1) := by decide +kernel
theorem dX13_readAll_19 : decode cX13_readAll 19 = .ok (.getfield 74, 3) := by decide +kernel
theorem dX13_readAll_22 : decode cX13_readAll 22 = .ok (.iconst 1, 1) := by decide +kernel
theorem dX13_readAll_23 : decode cX13_readAll 23 = .ok (.if_icmp .eq 8, 3) := by decide +kernel
theorem dX13_readAll_26 : decode cX13_readAll 26 = .ok (.aload_n 0, 1) := by decide +kernel
theorem dX13_readAll_27 : decode cX13_readAll 27 = .ok (.iconst 1, 1) := by decide +kernel
theorem dX13_readAll_28 : decode cX13_readAll 28 = .ok (.invokevirtual 120, 3) := by decide +kernel
theorem dX13_readAll_31 : decode cX13_readAll 31 = .ok (.aload_n 0, 1) := by decide +kernel
theorem dX13_readAll_32 : decode cX13_readAll 32 = .ok (.getfield 154, 3) := by decide +kernel
theorem dX13_readAll_35 : decode cX13_readAll 35 = .ok (.getfield 158, 3) := by decide +kernel
theorem dX13_readAll_38 : decode cX13_readAll 38 = .ok (.ifCond .eq 20, 3) := by decide +kernel
theorem dX13_readAll_41 : decode cX13_readAll 41 = .ok (.aload_n 0, 1) := by decide +kernel
theorem dX13_readAll_42 : decode cX13_readAll 42 = .ok (.getfield 154, 3) := by decide +kernel
theorem dX13_readAll_45 : decode cX13_readAll 45 = .ok (.getfield 163, 3) := by decide +kernel
theorem dX13_readAll_48 : decode cX13_readAll 48 = .ok (.aload_n 0, 1) := by decide +kernel
theorem dX13_readAll_49 : decode cX13_readAll 49 = .ok (.getfield 154, 3) := by decide +kernel
theorem dX13_readAll_52 : decode cX13_readAll 52 = .ok (.getfield 166, 3) := by decide +kernel
theorem dX13_readAll_55 : decode cX13_readAll 55 = .ok (.if_icmp .ge 9, 3) := by decide +kernel
theorem dX13_readAll_58 : decode cX13_readAll 58 = .ok (.aload_n 0, 1) := by decide +kernel
theorem dX13_readAll_59 : decode cX13_readAll 59 = .ok (.bipush 6, 2) := by decide +kernel
theorem dX13_readAll_61 : decode cX13_readAll 61 = .ok (.invokevirtual 120, 3) := by decide +kernel
theorem dX13_readAll_64 : decode cX13_readAll 64 = .ok (.return_, 1) := by decide +kernel
theorem dX13_readLine_0 : decode cX13_readLine 0 = .ok (.aload_n 0, 1) := by decide +kernel
theorem dX13_readLine_1 : decode cX13_readLine 1 = .ok (.ldc 139, 2) := by decide +kernel
theorem dX13_readLine_3 : decode cX13_readLine 3 = .ok (.invokevirtual 116, 3) := by decide +kernel
theorem dX13_readLine_6 : decode cX13_readLine 6 = .ok (.ifCond .eq 10, 3) := by decide +kernel
theorem dX13_readLine_9 : decode cX13_readLine 9 = .ok (.aload_n 0, 1) := by decide +kernel
theorem dX13_readLine_10 : decode cX13_readLine 10 = .ok (.invokevirtual 169, 3) := by decide +kernel
theorem dX13_readLine_13 : decode cX13_readLine 13 = .ok (.goto 56, 3) := by decide +kernel
theorem dX13_readLine_16 : decode cX13_readLine 16 = .ok (.aload_n 0, 1) := by decide +kernel
theorem dX13_readLine_17 : decode cX13_readLine 17 = .ok (.ldc 141, 2) := by decide +kernel
theorem dX13_readLine_19 : decode cX13_readLine 19 = .ok (.invokevirtual 116, 3) := by decide +kernel
theorem dX13_readLine_22 : decode cX13_readLine 22 = .ok (.ifCond .eq 10, 3) := by decide +kernel
theorem dX13_readLine_25 : decode cX13_readLine 25 = .ok (.aload_n 0, 1) := by decide +kernel
theorem dX13_readLine_26 : decode cX13_readLine 26 = .ok (.invokevirtual 172, 3) := by decide +kernel
theorem dX13_readLine_29 : decode cX13_readLine 29 = .ok (.goto 40, 3) := by decide +kernel
theorem dX13_readLine_32 : decode cX13_readLine 32 = .ok (.aload_n 0, 1) := by decide +kernel
theorem dX13_readLine_33 : decode cX13_readLine 33 = .ok (.ldc 143, 2) := by decide +kernel
theorem dX13_readLine_35 : decode cX13_readLine 35 = .ok (.invokevirtual 116, 3) := by decide +kernel
theorem dX13_readLine_38 : decode cX13_readLine 38 = .ok (.ifCond .eq 10, 3) := by decide +kernel
theorem dX13_readLine_41 : decode cX13_readLine 41 = .ok (.aload_n 0, 1) := by decide +kernel
theorem dX13_readLine_42 : decode cX13_readLine 42 = .ok (.invokevirtual 175, 3) := by decide +kernel
theorem dX13_readLine_45 : decode cX13_readLine 45 = .ok (.goto 24, 3) := by decide +kernel
theorem dX13_readLine_48 : decode cX13_readLine 48 = .ok (.aload_n 0, 1) := by decide +kernel
theorem dX13_readLine_49 : decode cX13_readLine 49 = .ok (.ldc 145, 2) := by decide +kernel
theorem dX13_readLine_51 : decode cX13_readLine 51 = .ok (.invokevirtual 116, 3) := by decide +kernel
theorem dX13_readLine_54 : decode cX13_readLine 54 = .ok (.ifCond .eq 10, 3) := by decide +kernel
theorem dX13_readLine_57 : decode cX13_readLine 57 = .ok (.aload_n 0, 1) := by decide +kernel
theorem dX13_readLine_58 : decode cX13_readLine 58 = .ok (.invokevirtual 178, 3) := by decide +kernel
theorem dX13_readLine_61 : decode cX13_readLine 61 = .ok (.goto 8, 3) := by decide +kernel
theorem dX13_readLine_64 : decode cX13_readLine 64 = .ok (.aload_n 0, 1) := by decide +kernel
theorem dX13_readLine_65 : decode cX13_readLine 65 = .ok (.iconst 1, 1) := by decide +kernel
theorem dX13_readLine_66 : decode cX13_readLine 66 = .ok (.invokevirtual 120, 3) := by decide +kernel
theorem dX13_readLine_69 : decode cX13_readLine 69 = .ok (.return_, 1) := by decide +kernel
theorem dX13_readPark_0 : decode cX13_readPark 0 = .ok (.aload_n 0, 1) := by decide +kernel
theorem dX13_readPark_1 : decode cX13_readPark 1 = .ok (.getfield 154, 3) := by decide +kernel
theorem dX13_readPark_4 : decode cX13_readPark 4 = .ok (.getfield 158, 3) := by decide +kernel
theorem dX13_readPark_7 : decode cX13_readPark 7 = .ok (.ifCond .le 8, 3) := by decide +kernel
theorem dX13_readPark_10 : decode cX13_readPark 10 = .ok (.aload_n 0, 1) := by decide +kernel
theorem dX13_readPark_11 : decode cX13_readPark 11 = .ok (.iconst 3, 1) := by decide +kernel
theorem dX13_readPark_12 : decode cX13_readPark 12 = .ok (.invokevirtual 120, 3) := by decide +kernel
theorem dX13_readPark_15 : decode cX13_readPark 15 = .ok (.aload_n 0, 1) := by decide +kernel
theorem dX13_readPark_16 : decode cX13_readPark 16 = .ok (.invokevirtual 113, 3) := by decide +kernel
theorem dX13_readPark_19 : decode cX13_readPark 19 = .ok (.aload_n 0, 1) := by decide +kernel
theorem dX13_readPark_20 : decode cX13_readPark 20 = .ok (.ldc 181, 2) := by decide +kernel
theorem dX13_readPark_22 : decode cX13_readPark 22 = .ok (.iconst 2, 1) := by decide +kernel
theorem dX13_readPark_23 : decode cX13_readPark 23 = .ok (.iconst 5, 1) := by decide +kernel
theorem dX13_readPark_24 : decode cX13_readPark 24 = .ok (.invokevirtual 182, 3) := by decide +kernel
theorem dX13_readPark_27 : decode cX13_readPark 27 = .ok (.istore_n 1, 1) := by decide +kernel
theorem dX13_readPark_28 : decode cX13_readPark 28 = .ok (.aload_n 0, 1) := by decide +kernel
theorem dX13_readPark_29 : decode cX13_readPark 29 = .ok (.ldc 186, 2) := by decide +kernel
theorem dX13_readPark_31 : decode cX13_readPark 31 = .ok (.iconst 2, 1) := by decide +kernel
theorem dX13_readPark_32 : decode cX13_readPark 32 = .ok (.iconst 4, 1) := by decide +kernel
theorem dX13_readPark_33 : decode cX13_readPark 33 = .ok (.invokevirtual 182, 3) := by decide +kernel
theorem dX13_readPark_36 : decode cX13_readPark 36 = .ok (.istore_n 2, 1) := by decide +kernel
theorem dX13_readPark_37 : decode cX13_readPark 37 = .ok (.aload_n 0, 1) := by decide +kernel
theorem dX13_readPark_38 : decode cX13_readPark 38 = .ok (.ldc 187, 2) := by decide +kernel
theorem dX13_readPark_40 : decode cX13_readPark 40 = .ok (.iconst 0, 1) := by decide +kernel
theorem dX13_readPark_41 : decode cX13_readPark 41 = .ok (.bipush 100, 2) := by decide +kernel
theorem dX13_readPark_43 : decode cX13_readPark 43 = .ok (.invokevirtual 182, 3) := by decide +kernel
theorem dX13_readPark_46 : decode cX13_readPark 46 = .ok (.istore_n 3, 1) := by decide +kernel
theorem dX13_readPark_47 : decode cX13_readPark 47 = .ok (.aload_n 0, 1) := by decide +kernel
theorem dX13_readPark_48 : decode cX13_readPark 48 = .ok (.ldc 189, 2) := by decide +kernel
theorem dX13_readPark_50 : decode cX13_readPark 50 = .ok (.iconst 0, 1) := by decide +kernel
theorem dX13_readPark_51 : decode cX13_readPark 51 = .ok (.bipush 100, 2) := by decide +kernel
theorem dX13_readPark_53 : decode cX13_readPark 53 = .ok (.invokevirtual 182, 3) := by decide +kernel
theorem dX13_readPark_56 : decode cX13_readPark 56 = .ok (.istore 4, 2) := by decide +kernel
theorem dX13_readPark_58 : decode cX13_readPark 58 = .ok (.aload_n 0, 1) := by decide +kernel
theorem dX13_readPark_59 : decode cX13_readPark 59 = .ok (.getfield 74, 3) := by decide +kernel
theorem dX13_readPark_62 : decode cX13_readPark 62 = .ok (.iconst 5, 1) := by decide +kernel
theorem dX13_readPark_63 : decode cX13_readPark 63 = .ok (.if_icmp .ne 4, 3) := by decide +kernel
theorem dX13_readPark_66 : decode cX13_readPark 66 = .ok (.return_, 1) := by decide +kernel
theorem dX13_readPark_67 : decode cX13_readPark 67 = .ok (.aload_n 0, 1) := by decide +kernel
theorem dX13_readPark_68 : decode cX13_readPark 68 = .ok (.getfield 154, 3) := by decide +kernel
theorem dX13_readPark_71 : decode cX13_readPark 71 = .ok (.iload_n 1, 1) := by decide +kernel
theorem dX13_readPark_72 : decode cX13_readPark 72 = .ok (.putfield 158, 3) := by decide +kernel
theorem dX13_readPark_75 : decode cX13_readPark 75 = .ok (.aload_n 0, 1) := by decide +kernel
theorem dX13_readPark_76 : decode cX13_readPark 76 = .ok (.getfield 154, 3) := by decide +kernel
theorem dX13_readPark_79 : decode cX13_readPark 79 = .ok (.iload_n 2, 1) := by decide +kernel
theorem dX13_readPark_80 : decode cX13_readPark 80 = .ok (.putfield 166, 3) := by decide +kernel
theorem dX13_readPark_83 : decode cX13_readPark 83 = .ok (.aload_n 0, 1) := by decide +kernel
theorem dX13_readPark_84 : decode cX13_readPark 84 = .ok (.getfield 154, 3) := by decide +kernel
theorem dX13_readPark_87 : decode cX13_readPark 87 = .ok (.iload_n 3, 1) := by decide +kernel
theorem dX13_readPark_88 : decode cX13_readPark 88 = .ok (.putfield 191, 3) := by decide +kernel
theorem dX13_readPark_91 : decode cX13_readPark 91 = .ok (.aload_n 0, 1) := by decide +kernel
theorem dX13_readPark_92 : decode cX13_readPark 92 = .ok (.getfield 154, 3) := by decide +kernel
theorem dX13_readPark_95 : decode cX13_readPark 95 = .ok (.iload 4, 2) := by decide +kernel
theorem dX13_readPark_97 : decode cX13_readPark 97 = .ok (.putfield 193, 3) := by decide +kernel
theorem dX13_readPark_100 : decode cX13_readPark 100 = .ok (.return_, 1) := by decide +kernel
theorem dX13_readPart_0 : decode cX13_readPart 0 = .ok (.aload_n 0, 1) := by decide +kernel
theorem dX13_readPart_1 : decode cX13_readPart 1 = .ok (.aload_n 1, 1) := by decide +kernel
theorem dX13_readPart_2 : decode cX13_readPart 2 = .ok (.invokevirtual 132, 3) := by decide +kernel
theorem dX13_readPart_5 : decode cX13_readPart 5 = .ok (.aload_n 0, 1) := by decide +kernel
theorem dX13_readPart_6 : decode cX13_readPart 6 = .ok (.iload_n 2, 1) := by decide +kernel
theorem dX13_readPart_7 : decode cX13_readPart 7 = .ok (.iload_n 3, 1) := by decide +kernel
theorem dX13_readPart_8 : decode cX13_readPart 8 = .ok (.invokevirtual 136, 3) := by decide +kernel
theorem dX13_readPart_11 : decode cX13_readPart 11 = .ok (.ireturn, 1) := by decide +kernel
theorem dX13_readRow_0 : decode cX13_readRow 0 = .ok (.aload_n 0, 1) := by decide +kernel
theorem dX13_readRow_1 : decode cX13_readRow 1 = .ok (.getfield 154, 3) := by decide +kernel
theorem dX13_readRow_4 : decode cX13_readRow 4 = .ok (.getfield 158, 3) := by decide +kernel
theorem dX13_readRow_7 : decode cX13_readRow 7 = .ok (.ifCond .le 25, 3) := by decide +kernel
theorem dX13_readRow_10 : decode cX13_readRow 10 = .ok (.aload_n 0, 1) := by decide +kernel
theorem dX13_readRow_11 : decode cX13_readRow 11 = .ok (.getfield 154, 3) := by decide +kernel
theorem dX13_readRow_14 : decode cX13_readRow 14 = .ok (.getfield 163, 3) := by decide +kernel
theorem dX13_readRow_17 : decode cX13_readRow 17 = .ok (.aload_n 0, 1) := by decide +kernel
theorem dX13_readRow_18 : decode cX13_readRow 18 = .ok (.getfield 154, 3) := by decide +kernel
theorem dX13_readRow_21 : decode cX13_readRow 21 = .ok (.getfield 166, 3) := by decide +kernel
theorem dX13_readRow_24 : decode cX13_readRow 24 = .ok (.if_icmp .ne 8, 3) := by decide +kernel
theorem dX13_readRow_27 : decode cX13_readRow 27 = .ok (.aload_n 0, 1) := by decide +kernel
theorem dX13_readRow_28 : decode cX13_readRow 28 = .ok (.iconst 5, 1) := by decide +kernel
theorem dX13_readRow_29 : decode cX13_readRow 29 = .ok (.invokevirtual 120, 3) := by decide +kernel
theorem dX13_readRow_32 : decode cX13_readRow 32 = .ok (.aload_n 0, 1) := by decide +kernel
theorem dX13_readRow_33 : decode cX13_readRow 33 = .ok (.getfield 154, 3) := by decide +kernel
theorem dX13_readRow_36 : decode cX13_readRow 36 = .ok (.getfield 158, 3) := by decide +kernel
theorem dX13_readRow_39 : decode cX13_readRow 39 = .ok (.ifCond .ne 9, 3) := by decide +kernel
theorem dX13_readRow_42 : decode cX13_readRow 42 = .ok (.aload_n 0, 1) := by decide +kernel
theorem dX13_readRow_43 : decode cX13_readRow 43 = .ok (.bipush 6, 2) := by decide +kernel
theorem dX13_readRow_45 : decode cX13_readRow 45 = .ok (.invokevirtual 120, 3) := by decide +kernel
theorem dX13_readRow_48 : decode cX13_readRow 48 = .ok (.aload_n 0, 1) := by decide +kernel
theorem dX13_readRow_49 : decode cX13_readRow 49 = .ok (.invokevirtual 113, 3) := by decide +kernel
theorem dX13_readRow_52 : decode cX13_readRow 52 = .ok (.aload_n 0, 1) := by decide +kernel
theorem dX13_readRow_53 : decode cX13_readRow 53 = .ok (.getfield 74, 3) := by decide +kernel
theorem dX13_readRow_56 : decode cX13_readRow 56 = .ok (.iconst 2, 1) := by decide +kernel
theorem dX13_readRow_57 : decode cX13_readRow 57 = .ok (.if_icmp .ne 17, 3) := by decide +kernel
theorem dX13_readRow_60 : decode cX13_readRow 60 = .ok (.aload_n 0, 1) := by decide +kernel
theorem dX13_readRow_61 : decode cX13_readRow 61 = .ok (.getfield 94, 3) := by decide +kernel
theorem dX13_readRow_64 : decode cX13_readRow 64 = .ok (.aload_n 0, 1) := by decide +kernel
theorem dX13_readRow_65 : decode cX13_readRow 65 = .ok (.getfield 154, 3) := by decide +kernel
theorem dX13_readRow_68 : decode cX13_readRow 68 = .ok (.getfield 158, 3) := by decide +kernel
theorem dX13_readRow_71 : decode cX13_readRow 71 = .ok (.if_icmp .eq 8, 3) := by decide +kernel
theorem dX13_readRow_74 : decode cX13_readRow 74 = .ok (.aload_n 0, 1) := by decide +kernel
theorem dX13_readRow_75 : decode cX13_readRow 75 = .ok (.iconst 1, 1) := by decide +kernel
theorem dX13_readRow_76 : decode cX13_readRow 76 = .ok (.invokevirtual 120, 3) := by decide +kernel
theorem dX13_readRow_79 : decode cX13_readRow 79 = .ok (.aload_n 0, 1) := by decide +kernel
theorem dX13_readRow_80 : decode cX13_readRow 80 = .ok (.getfield 154, 3) := by decide +kernel
theorem dX13_readRow_83 : decode cX13_readRow 83 = .ok (.getfield 195, 3) := by decide +kernel
theorem dX13_readRow_86 : decode cX13_readRow 86 = .ok (.istore_n 1, 1) := by decide +kernel
theorem dX13_readRow_87 : decode cX13_readRow 87 = .ok (.iconst 0, 1) := by decide +kernel
theorem dX13_readRow_88 : decode cX13_readRow 88 = .ok (.istore_n 2, 1) := by decide +kernel
theorem dX13_readRow_89 : decode cX13_readRow 89 = .ok (.iload_n 2, 1) := by decide +kernel
theorem dX13_readRow_90 : decode cX13_readRow 90 = .ok (.aload_n 0, 1) := by decide +kernel
theorem dX13_readRow_91 : decode cX13_readRow 91 = .ok (.getfield 154, 3) := by decide +kernel
theorem dX13_readRow_94 : decode cX13_readRow 94 = .ok (.getfield 158, 3) := by decide +kernel
theorem dX13_readRow_97 : decode cX13_readRow 97 = .ok (.if_icmp .ge 62, 3) := by decide +kernel
theorem dX13_readRow_100 : decode cX13_readRow 100 = .ok (.aload_n 0, 1) := by decide +kernel
theorem dX13_readRow_101 : decode cX13_readRow 101 = .ok (.getfield 74, 3) := by decide +kernel
theorem dX13_readRow_104 : decode cX13_readRow 104 = .ok (.iconst 5, 1) := by decide +kernel
theorem dX13_readRow_105 : decode cX13_readRow 105 = .ok (.if_icmp .eq 54, 3) := by decide +kernel
theorem dX13_readRow_108 : decode cX13_readRow 108 = .ok (.aload_n 0, 1) := by decide +kernel
theorem dX13_readRow_109 : decode cX13_readRow 109 = .ok (.aload_n 0, 1) := by decide +kernel
theorem dX13_readRow_110 : decode cX13_readRow 110 = .ok (.getfield 83, 3) := by decide +kernel
theorem dX13_readRow_113 : decode cX13_readRow 113 = .ok (.iload_n 2, 1) := by decide +kernel
theorem dX13_readRow_114 : decode cX13_readRow 114 = .ok (.iadd, 1) := by decide +kernel
theorem dX13_readRow_115 : decode cX13_readRow 115 = .ok (.invokevirtual 80, 3) := by decide +kernel
theorem dX13_readRow_118 : decode cX13_readRow 118 = .ok (.invokestatic 198, 3) := by decide +kernel
theorem dX13_readRow_121 : decode cX13_readRow 121 = .ok (.iconst (-1), 1) := by decide +kernel
theorem dX13_readRow_122 : decode cX13_readRow 122 = .ok (.if_icmp .ne 8, 3) := by decide +kernel
theorem dX13_readRow_125 : decode cX13_readRow 125 = .ok (.aload_n 0, 1) := by decide +kernel
theorem dX13_readRow_126 : decode cX13_readRow 126 = .ok (.iconst 1, 1) := by decide +kernel
theorem dX13_readRow_127 : decode cX13_readRow 127 = .ok (.invokevirtual 120, 3) := by decide +kernel
theorem dX13_readRow_130 : decode cX13_readRow 130 = .ok (.iload_n 1, 1) := by decide +kernel
theorem dX13_readRow_131 : decode cX13_readRow 131 = .ok (.aload_n 0, 1) := by decide +kernel
theorem dX13_readRow_132 : decode cX13_readRow 132 = .ok (.aload_n 0, 1) := by decide +kernel
theorem dX13_readRow_133 : decode cX13_readRow 133 = .ok (.getfield 83, 3) := by decide +kernel
theorem dX13_readRow_136 : decode cX13_readRow 136 = .ok (.iload_n 2, 1) := by decide +kernel
theorem dX13_readRow_137 : decode cX13_readRow 137 = .ok (.iadd, 1) := by decide +kernel
theorem dX13_readRow_138 : decode cX13_readRow 138 = .ok (.invokevirtual 80, 3) := by decide +kernel
theorem dX13_readRow_141 : decode cX13_readRow 141 = .ok (.bipush 117, 2) := by decide +kernel
theorem dX13_readRow_143 : decode cX13_readRow 143 = .ok (.if_icmp .ne 7, 3) := by decide +kernel
theorem dX13_readRow_146 : decode cX13_readRow 146 = .ok (.iconst 1, 1) := by decide +kernel
theorem dX13_readRow_147 : decode cX13_readRow 147 = .ok (.goto 4, 3) := by decide +kernel
theorem dX13_readRow_150 : decode cX13_readRow 150 = .ok (.iconst 0, 1) := by decide +kernel
theorem dX13_readRow_151 : decode cX13_readRow 151 = .ok (.iadd, 1) := by decide +kernel
theorem dX13_readRow_152 : decode cX13_readRow 152 = .ok (.istore_n 1, 1) := by decide +kernel
theorem dX13_readRow_153 : decode cX13_readRow 153 = .ok (.iinc 2 1, 3) := by decide +kernel
theorem dX13_readRow_156 : decode cX13_readRow 156 = .ok (.goto (-67), 3) := by decide +kernel
theorem dX13_readRow_159 : decode cX13_readRow 159 = .ok (.iload_n 1, 1) := by decide +kernel
theorem dX13_readRow_160 : decode cX13_readRow 160 = .ok (.iconst 5, 1) := by decide +kernel
theorem dX13_readRow_161 : decode cX13_readRow 161 = .ok (.if_icmp .le 8, 3) := by decide +kernel
theorem dX13_readRow_164 : decode cX13_readRow 164 = .ok (.aload_n 0, 1) := by decide +kernel
theorem dX13_readRow_165 : decode cX13_readRow 165 = .ok (.iconst 5, 1) := by decide +kernel
theorem dX13_readRow_166 : decode cX13_readRow 166 = .ok (.invokevirtual 120, 3) := by decide +kernel
theorem dX13_readRow_169 : decode cX13_readRow 169 = .ok (.iconst 0, 1) := by decide +kernel
theorem dX13_readRow_170 : decode cX13_readRow 170 = .ok (.istore_n 2, 1) := by decide +kernel
theorem dX13_readRow_171 : decode cX13_readRow 171 = .ok (.iload_n 2, 1) := by decide +kernel
theorem dX13_readRow_172 : decode cX13_readRow 172 = .ok (.aload_n 0, 1) := by decide +kernel
theorem dX13_readRow_173 : decode cX13_readRow 173 = .ok (.getfield 154, 3) := by decide +kernel
theorem dX13_readRow_176 : decode cX13_readRow 176 = .ok (.getfield 158, 3) := by decide +kernel
theorem dX13_readRow_179 : decode cX13_readRow 179 = .ok (.if_icmp .ge 104, 3) := by decide +kernel
theorem dX13_readRow_182 : decode cX13_readRow 182 = .ok (.aload_n 0, 1) := by decide +kernel
theorem dX13_readRow_183 : decode cX13_readRow 183 = .ok (.getfield 74, 3) := by decide +kernel
theorem dX13_readRow_186 : decode cX13_readRow 186 = .ok (.iconst 5, 1) := by decide +kernel
theorem dX13_readRow_187 : decode cX13_readRow 187 = .ok (.if_icmp .eq 96, 3) := by decide +kernel
theorem dX13_readRow_190 : decode cX13_readRow 190 = .ok (.aload_n 0, 1) := by decide +kernel
theorem dX13_readRow_191 : decode cX13_readRow 191 = .ok (.getfield 154, 3) := by decide +kernel
theorem dX13_readRow_194 : decode cX13_readRow 194 = .ok (.getfield 158, 3) := by decide +kernel
theorem dX13_readRow_197 : decode cX13_readRow 197 = .ok (.aload_n 0, 1) := by decide +kernel
theorem dX13_readRow_198 : decode cX13_readRow 198 = .ok (.getfield 154, 3) := by decide +kernel
theorem dX13_readRow_201 : decode cX13_readRow 201 = .ok (.getfield 163, 3) := by decide +kernel
theorem dX13_readRow_204 : decode cX13_readRow 204 = .ok (.imul, 1) := by decide +kernel
theorem dX13_readRow_205 : decode cX13_readRow 205 = .ok (.iload_n 2, 1) := by decide +kernel
theorem dX13_readRow_206 : decode cX13_readRow 206 = .ok (.iadd, 1) := by decide +kernel
theorem dX13_readRow_207 : decode cX13_readRow 207 = .ok (.istore_n 3, 1) := by decide +kernel
theorem dX13_readRow_208 : decode cX13_readRow 208 = .ok (.aload_n 0, 1) := by decide +kernel
theorem dX13_readRow_209 : decode cX13_readRow 209 = .ok (.getfield 154, 3) := by decide +kernel
theorem dX13_readRow_212 : decode cX13_readRow 212 = .ok (.getfield 201, 3) := by decide +kernel
theorem dX13_readRow_215 : decode cX13_readRow 215 = .ok (.iload_n 3, 1) := by decide +kernel
theorem dX13_readRow_216 : decode cX13_readRow 216 = .ok (.aload_n 0, 1) := by decide +kernel
theorem dX13_readRow_217 : decode cX13_readRow 217 = .ok (.aload_n 0, 1) := by decide +kernel
theorem dX13_readRow_218 : decode cX13_readRow 218 = .ok (.getfield 83, 3) := by decide +kernel
theorem dX13_readRow_221 : decode cX13_readRow 221 = .ok (.iload_n 2, 1) := by decide +kernel
theorem dX13_readRow_222 : decode cX13_readRow 222 = .ok (.iadd, 1) := by decide +kernel
theorem dX13_readRow_223 : decode cX13_readRow 223 = .ok (.invokevirtual 80, 3) := by decide +kernel
theorem dX13_readRow_226 : decode cX13_readRow 226 = .ok (.invokestatic 198, 3) := by decide +kernel
theorem dX13_readRow_229 : decode cX13_readRow 229 = .ok (.iastore, 1) := by decide +kernel
theorem dX13_readRow_230 : decode cX13_readRow 230 = .ok (.aload_n 0, 1) := by decide +kernel
theorem dX13_readRow_231 : decode cX13_readRow 231 = .ok (.aload_n 0, 1) := by decide +kernel
theorem dX13_readRow_232 : decode cX13_readRow 232 = .ok (.getfield 83, 3) := by decide +kernel
theorem dX13_readRow_235 : decode cX13_readRow 235 = .ok (.iload_n 2, 1) := by decide +kernel
theorem dX13_readRow_236 : decode cX13_readRow 236 = .ok (.iadd, 1) := by decide +kernel
theorem dX13_readRow_237 : decode cX13_readRow 237 = .ok (.invokevirtual 80, 3) := by decide +kernel
theorem dX13_readRow_240 : decode cX13_readRow 240 = .ok (.bipush 117, 2) := by decide +kernel
theorem dX13_readRow_242 : decode cX13_readRow 242 = .ok (.if_icmp .eq 6, 3) := by decide +kernel
theorem dX13_readRow_245 : decode cX13_readRow 245 = .ok (.goto 32, 3) := by decide +kernel
theorem dX13_readRow_248 : decode cX13_readRow 248 = .ok (.aload_n 0, 1) := by decide +kernel
theorem dX13_readRow_249 : decode cX13_readRow 249 = .ok (.getfield 154, 3) := by decide +kernel
theorem dX13_readRow_252 : decode cX13_readRow 252 = .ok (.getfield 203, 3) := by decide +kernel
theorem dX13_readRow_255 : decode cX13_readRow 255 = .ok (.aload_n 0, 1) := by decide +kernel
theorem dX13_readRow_256 : decode cX13_readRow 256 = .ok (.getfield 154, 3) := by decide +kernel
theorem dX13_readRow_259 : decode cX13_readRow 259 = .ok (.getfield 195, 3) := by decide +kernel
theorem dX13_readRow_262 : decode cX13_readRow 262 = .ok (.iload_n 3, 1) := by decide +kernel
theorem dX13_readRow_263 : decode cX13_readRow 263 = .ok (.iastore, 1) := by decide +kernel
theorem dX13_readRow_264 : decode cX13_readRow 264 = .ok (.aload_n 0, 1) := by decide +kernel
theorem dX13_readRow_265 : decode cX13_readRow 265 = .ok (.getfield 154, 3) := by decide +kernel
theorem dX13_readRow_268 : decode cX13_readRow 268 = .ok (.dup, 1) := by decide +kernel
theorem dX13_readRow_269 : decode cX13_readRow 269 = .ok (.getfield 195, 3) := by decide +kernel
theorem dX13_readRow_272 : decode cX13_readRow 272 = .ok (.iconst 1, 1) := by decide +kernel
theorem dX13_readRow_273 : decode cX13_readRow 273 = .ok (.iadd, 1) := by decide +kernel
theorem dX13_readRow_274 : decode cX13_readRow 274 = .ok (.putfield 195, 3) := by decide +kernel
theorem dX13_readRow_277 : decode cX13_readRow 277 = .ok (.iinc 2 1, 3) := by decide +kernel
theorem dX13_readRow_280 : decode cX13_readRow 280 = .ok (.goto (-109), 3) := by decide +kernel
theorem dX13_readRow_283 : decode cX13_readRow 283 = .ok (.aload_n 0, 1) := by decide +kernel
theorem dX13_readRow_284 : decode cX13_readRow 284 = .ok (.invokevirtual 113, 3) := by decide +kernel
theorem dX13_readRow_287 : decode cX13_readRow 287 = .ok (.aload_n 0, 1) := by decide +kernel
theorem dX13_readRow_288 : decode cX13_readRow 288 = .ok (.getfield 74, 3) := by decide +kernel
theorem dX13_readRow_291 : decode cX13_readRow 291 = .ok (.iconst 5, 1) := by decide +kernel
theorem dX13_readRow_292 : decode cX13_readRow 292 = .ok (.if_icmp .eq 16, 3) := by decide +kernel
theorem dX13_readRow_295 : decode cX13_readRow 295 = .ok (.aload_n 0, 1) := by decide +kernel
theorem dX13_readRow_296 : decode cX13_readRow 296 = .ok (.getfield 154, 3) := by decide +kernel
theorem dX13_readRow_299 : decode cX13_readRow 299 = .ok (.dup, 1) := by decide +kernel
theorem dX13_readRow_300 : decode cX13_readRow 300 = .ok (.getfield 163, 3) := by decide +kernel
theorem dX13_readRow_303 : decode cX13_readRow 303 = .ok (.iconst 1, 1) := by decide +kernel
theorem dX13_readRow_304 : decode cX13_readRow 304 = .ok (.iadd, 1) := by decide +kernel
theorem dX13_readRow_305 : decode cX13_readRow 305 = .ok (.putfield 163, 3) := by decide +kernel
theorem dX13_readRow_308 : decode cX13_readRow 308 = .ok (.return_, 1) := by decide +kernel
theorem dX13_readSpot_0 : decode cX13_readSpot 0 = .ok (.aload_n 0, 1) := by decide +kernel
theorem dX13_readSpot_1 : decode cX13_readSpot 1 = .ok (.iconst 0, 1) := by decide +kernel
theorem dX13_readSpot_2 : decode cX13_readSpot 2 = .ok (.aload_n 0, 1) := by decide +kernel
theorem dX13_readSpot_3 : decode cX13_readSpot 3 = .ok (.getfield 154, 3) := by decide +kernel
theorem dX13_readSpot_6 : decode cX13_readSpot 6 = .ok (.getfield 158, 3) := by decide +kernel
theorem dX13_readSpot_9 : decode cX13_readSpot 9 = .ok (.iconst 1, 1) := by decide +kernel
theorem dX13_readSpot_10 : decode cX13_readSpot 10 = .ok (.isub, 1) := by decide +kernel
theorem dX13_readSpot_11 : decode cX13_readSpot 11 = .ok (.invokevirtual 136, 3) := by decide +kernel
theorem dX13_readSpot_14 : decode cX13_readSpot 14 = .ok (.istore_n 1, 1) := by decide +kernel
theorem dX13_readSpot_15 : decode cX13_readSpot 15 = .ok (.aload_n 0, 1) := by decide +kernel
theorem dX13_readSpot_16 : decode cX13_readSpot 16 = .ok (.iconst 0, 1) := by decide +kernel
theorem dX13_readSpot_17 : decode cX13_readSpot 17 = .ok (.aload_n 0, 1) := by decide +kernel
theorem dX13_readSpot_18 : decode cX13_readSpot 18 = .ok (.getfield 154, 3) := by decide +kernel
theorem dX13_readSpot_21 : decode cX13_readSpot 21 = .ok (.getfield 166, 3) := by decide +kernel
theorem dX13_readSpot_24 : decode cX13_readSpot 24 = .ok (.iconst 1, 1) := by decide +kernel
theorem dX13_readSpot_25 : decode cX13_readSpot 25 = .ok (.isub, 1) := by decide +kernel
theorem dX13_readSpot_26 : decode cX13_readSpot 26 = .ok (.invokevirtual 128, 3) := by decide +kernel
theorem dX13_readSpot_29 : decode cX13_readSpot 29 = .ok (.istore_n 2, 1) := by decide +kernel
theorem dX13_readSpot_30 : decode cX13_readSpot 30 = .ok (.aload_n 0, 1) := by decide +kernel
theorem dX13_readSpot_31 : decode cX13_readSpot 31 = .ok (.getfield 154, 3) := by decide +kernel
theorem dX13_readSpot_34 : decode cX13_readSpot 34 = .ok (.getfield 158, 3) := by decide +kernel
theorem dX13_readSpot_37 : decode cX13_readSpot 37 = .ok (.iload_n 2, 1) := by decide +kernel
theorem dX13_readSpot_38 : decode cX13_readSpot 38 = .ok (.imul, 1) := by decide +kernel
theorem dX13_readSpot_39 : decode cX13_readSpot 39 = .ok (.iload_n 1, 1) := by decide +kernel
theorem dX13_readSpot_40 : decode cX13_readSpot 40 = .ok (.iadd, 1) := by decide +kernel
theorem dX13_readSpot_41 : decode cX13_readSpot 41 = .ok (.istore_n 3, 1) := by decide +kernel
theorem dX13_readSpot_42 : decode cX13_readSpot 42 = .ok (.aload_n 0, 1) := by decide +kernel
theorem dX13_readSpot_43 : decode cX13_readSpot 43 = .ok (.getfield 74, 3) := by decide +kernel
theorem dX13_readSpot_46 : decode cX13_readSpot 46 = .ok (.iconst 5, 1) := by decide +kernel
theorem dX13_readSpot_47 : decode cX13_readSpot 47 = .ok (.if_icmp .eq 22, 3) := by decide +kernel
theorem dX13_readSpot_50 : decode cX13_readSpot 50 = .ok (.aload_n 0, 1) := by decide +kernel
theorem dX13_readSpot_51 : decode cX13_readSpot 51 = .ok (.getfield 154, 3) := by decide +kernel
theorem dX13_readSpot_54 : decode cX13_readSpot 54 = .ok (.getfield 201, 3) := by decide +kernel
theorem dX13_readSpot_57 : decode cX13_readSpot 57 = .ok (.iload_n 3, 1) := by decide +kernel
theorem dX13_readSpot_58 : decode cX13_readSpot 58 = .ok (.iaload, 1) := by decide +kernel
theorem dX13_readSpot_59 : decode cX13_readSpot 59 = .ok (.iconst 3, 1) := by decide +kernel
theorem dX13_readSpot_60 : decode cX13_readSpot 60 = .ok (.if_icmp .ne 9, 3) := by decide +kernel
theorem dX13_readSpot_63 : decode cX13_readSpot 63 = .ok (.aload_n 0, 1) := by decide +kernel
theorem dX13_readSpot_64 : decode cX13_readSpot 64 = .ok (.bipush 7, 2) := by decide +kernel
theorem dX13_readSpot_66 : decode cX13_readSpot 66 = .ok (.invokevirtual 120, 3) := by decide +kernel
theorem dX13_readSpot_69 : decode cX13_readSpot 69 = .ok (.aload_n 0, 1) := by decide +kernel
theorem dX13_readSpot_70 : decode cX13_readSpot 70 = .ok (.invokevirtual 113, 3) := by decide +kernel
theorem dX13_readSpot_73 : decode cX13_readSpot 73 = .ok (.iload_n 3, 1) := by decide +kernel
theorem dX13_readSpot_74 : decode cX13_readSpot 74 = .ok (.ireturn, 1) := by decide +kernel
theorem dX13_readWalk_0 : decode cX13_readWalk 0 = .ok (.aload_n 0, 1) := by decide +kernel
theorem dX13_readWalk_1 : decode cX13_readWalk 1 = .ok (.aload_n 0, 1) := by decide +kernel
theorem dX13_readWalk_2 : decode cX13_readWalk 2 = .ok (.getfield 154, 3) := by decide +kernel
theorem dX13_readWalk_5 : decode cX13_readWalk 5 = .ok (.getfield 245, 3) := by decide +kernel
theorem dX13_readWalk_8 : decode cX13_readWalk 8 = .ok (.bipush 6, 2) := by decide +kernel
theorem dX13_readWalk_10 : decode cX13_readWalk 10 = .ok (.invokevirtual 209, 3) := by decide +kernel
theorem dX13_readWalk_13 : decode cX13_readWalk 13 = .ok (.aload_n 0, 1) := by decide +kernel
theorem dX13_readWalk_14 : decode cX13_readWalk 14 = .ok (.iconst 0, 1) := by decide +kernel
theorem dX13_readWalk_15 : decode cX13_readWalk 15 = .ok (.aload_n 0, 1) := by decide +kernel
theorem dX13_readWalk_16 : decode cX13_readWalk 16 = .ok (.getfield 154, 3) := by decide +kernel
theorem dX13_readWalk_19 : decode cX13_readWalk 19 = .ok (.getfield 158, 3) := by decide +kernel
theorem dX13_readWalk_22 : decode cX13_readWalk 22 = .ok (.iconst 1, 1) := by decide +kernel
theorem dX13_readWalk_23 : decode cX13_readWalk 23 = .ok (.isub, 1) := by decide +kernel
theorem dX13_readWalk_24 : decode cX13_readWalk 24 = .ok (.invokevirtual 136, 3) := by decide +kernel
theorem dX13_readWalk_27 : decode cX13_readWalk 27 = .ok (.istore_n 1, 1) := by decide +kernel
theorem dX13_readWalk_28 : decode cX13_readWalk 28 = .ok (.aload_n 0, 1) := by decide +kernel
theorem dX13_readWalk_29 : decode cX13_readWalk 29 = .ok (.iconst 0, 1) := by decide +kernel
theorem dX13_readWalk_30 : decode cX13_readWalk 30 = .ok (.aload_n 0, 1) := by decide +kernel
theorem dX13_readWalk_31 : decode cX13_readWalk 31 = .ok (.getfield 154, 3) := by decide +kernel
theorem dX13_readWalk_34 : decode cX13_readWalk 34 = .ok (.getfield 166, 3) := by decide +kernel
theorem dX13_readWalk_37 : decode cX13_readWalk 37 = .ok (.iconst 1, 1) := by decide +kernel
theorem dX13_readWalk_38 : decode cX13_readWalk 38 = .ok (.isub, 1) := by decide +kernel
theorem dX13_readWalk_39 : decode cX13_readWalk 39 = .ok (.invokevirtual 136, 3) := by decide +kernel
theorem dX13_readWalk_42 : decode cX13_readWalk 42 = .ok (.istore_n 2, 1) := by decide +kernel
theorem dX13_readWalk_43 : decode cX13_readWalk 43 = .ok (.aload_n 0, 1) := by decide +kernel
theorem dX13_readWalk_44 : decode cX13_readWalk 44 = .ok (.getfield 154, 3) := by decide +kernel
theorem dX13_readWalk_47 : decode cX13_readWalk 47 = .ok (.getfield 166, 3) := by decide +kernel
theorem dX13_readWalk_50 : decode cX13_readWalk 50 = .ok (.iconst 1, 1) := by decide +kernel
theorem dX13_readWalk_51 : decode cX13_readWalk 51 = .ok (.isub, 1) := by decide +kernel
theorem dX13_readWalk_52 : decode cX13_readWalk 52 = .ok (.iload_n 2, 1) := by decide +kernel
theorem dX13_readWalk_53 : decode cX13_readWalk 53 = .ok (.isub, 1) := by decide +kernel
theorem dX13_readWalk_54 : decode cX13_readWalk 54 = .ok (.istore_n 3, 1) := by decide +kernel
theorem dX13_readWalk_55 : decode cX13_readWalk 55 = .ok (.aload_n 0, 1) := by decide +kernel
theorem dX13_readWalk_56 : decode cX13_readWalk 56 = .ok (.ldc 248, 2) := by decide +kernel
theorem dX13_readWalk_58 : decode cX13_readWalk 58 = .ok (.iconst 1, 1) := by decide +kernel
theorem dX13_readWalk_59 : decode cX13_readWalk 59 = .ok (.iload_n 3, 1) := by decide +kernel
theorem dX13_readWalk_60 : decode cX13_readWalk 60 = .ok (.iconst 3, 1) := by decide +kernel
theorem dX13_readWalk_61 : decode cX13_readWalk 61 = .ok (.if_icmp .ge 7, 3) := by decide +kernel
theorem dX13_readWalk_64 : decode cX13_readWalk 64 = .ok (.iload_n 3, 1) := by decide +kernel
theorem dX13_readWalk_65 : decode cX13_readWalk 65 = .ok (.goto 4, 3) := by decide +kernel
theorem dX13_readWalk_68 : decode cX13_readWalk 68 = .ok (.iconst 3, 1) := by decide +kernel
theorem dX13_readWalk_69 : decode cX13_readWalk 69 = .ok (.invokevirtual 182, 3) := by decide +kernel
theorem dX13_readWalk_72 : decode cX13_readWalk 72 = .ok (.istore 4, 2) := by decide +kernel
theorem dX13_readWalk_74 : decode cX13_readWalk 74 = .ok (.aload_n 0, 1) := by decide +kernel
theorem dX13_readWalk_75 : decode cX13_readWalk 75 = .ok (.ldc 250, 2) := by decide +kernel
theorem dX13_readWalk_77 : decode cX13_readWalk 77 = .ok (.invokevirtual 116, 3) := by decide +kernel
theorem dX13_readWalk_80 : decode cX13_readWalk 80 = .ok (.istore 5, 2) := by decide +kernel
theorem dX13_readWalk_82 : decode cX13_readWalk 82 = .ok (.iload 5, 2) := by decide +kernel
theorem dX13_readWalk_84 : decode cX13_readWalk 84 = .ok (.ifCond .ne 17, 3) := by decide +kernel
theorem dX13_readWalk_87 : decode cX13_readWalk 87 = .ok (.aload_n 0, 1) := by decide +kernel
theorem dX13_readWalk_88 : decode cX13_readWalk 88 = .ok (.ldc 252, 2) := by decide +kernel
theorem dX13_readWalk_90 : decode cX13_readWalk 90 = .ok (.invokevirtual 116, 3) := by decide +kernel
theorem dX13_readWalk_93 : decode cX13_readWalk 93 = .ok (.ifCond .ne 8, 3) := by decide +kernel
theorem dX13_readWalk_96 : decode cX13_readWalk 96 = .ok (.aload_n 0, 1) := by decide +kernel
theorem dX13_readWalk_97 : decode cX13_readWalk 97 = .ok (.iconst 1, 1) := by decide +kernel
theorem dX13_readWalk_98 : decode cX13_readWalk 98 = .ok (.invokevirtual 120, 3) := by decide +kernel
theorem dX13_readWalk_101 : decode cX13_readWalk 101 = .ok (.aload_n 0, 1) := by decide +kernel
theorem dX13_readWalk_102 : decode cX13_readWalk 102 = .ok (.invokevirtual 113, 3) := by decide +kernel
theorem dX13_readWalk_105 : decode cX13_readWalk 105 = .ok (.aload_n 0, 1) := by decide +kernel
theorem dX13_readWalk_106 : decode cX13_readWalk 106 = .ok (.getfield 74, 3) := by decide +kernel
theorem dX13_readWalk_109 : decode cX13_readWalk 109 = .ok (.iconst 5, 1) := by decide +kernel
theorem dX13_readWalk_110 : decode cX13_readWalk 110 = .ok (.if_icmp .ne 4, 3) := by decide +kernel
theorem dX13_readWalk_113 : decode cX13_readWalk 113 = .ok (.return_, 1) := by decide +kernel
theorem dX13_readWalk_114 : decode cX13_readWalk 114 = .ok (.aload_n 0, 1) := by decide +kernel
theorem dX13_readWalk_115 : decode cX13_readWalk 115 = .ok (.getfield 154, 3) := by decide +kernel
theorem dX13_readWalk_118 : decode cX13_readWalk 118 = .ok (.getfield 254, 3) := by decide +kernel
theorem dX13_readWalk_121 : decode cX13_readWalk 121 = .ok (.aload_n 0, 1) := by decide +kernel
theorem dX13_readWalk_122 : decode cX13_readWalk 122 = .ok (.getfield 154, 3) := by decide +kernel
theorem dX13_readWalk_125 : decode cX13_readWalk 125 = .ok (.getfield 245, 3) := by decide +kernel
theorem dX13_readWalk_128 : decode cX13_readWalk 128 = .ok (.aload_n 0, 1) := by decide +kernel
theorem dX13_readWalk_129 : decode cX13_readWalk 129 = .ok (.getfield 154, 3) := by decide +kernel
theorem dX13_readWalk_132 : decode cX13_readWalk 132 = .ok (.getfield 158, 3) := by decide +kernel
theorem dX13_readWalk_135 : decode cX13_readWalk 135 = .ok (.iload_n 2, 1) := by decide +kernel
theorem dX13_readWalk_136 : decode cX13_readWalk 136 = .ok (.imul, 1) := by decide +kernel
theorem dX13_readWalk_137 : decode cX13_readWalk 137 = .ok (.iload_n 1, 1) := by decide +kernel
theorem dX13_readWalk_138 : decode cX13_readWalk 138 = .ok (.iadd, 1) := by decide +kernel
theorem dX13_readWalk_139 : decode cX13_readWalk 139 = .ok (.iastore, 1) := by decide +kernel
theorem dX13_readWalk_140 : decode cX13_readWalk 140 = .ok (.aload_n 0, 1) := by decide +kernel
theorem dX13_readWalk_141 : decode cX13_readWalk 141 = .ok (.getfield 154, 3) := by decide +kernel
theorem dX13_readWalk_144 : decode cX13_readWalk 144 = .ok (.getfield 257, 3) := by decide +kernel
theorem dX13_readWalk_147 : decode cX13_readWalk 147 = .ok (.aload_n 0, 1) := by decide +kernel
theorem dX13_readWalk_148 : decode cX13_readWalk 148 = .ok (.getfield 154, 3) := by decide +kernel
theorem dX13_readWalk_151 : decode cX13_readWalk 151 = .ok (.getfield 245, 3) := by decide +kernel
theorem dX13_readWalk_154 : decode cX13_readWalk 154 = .ok (.iload 4, 2) := by decide +kernel
theorem dX13_readWalk_156 : decode cX13_readWalk 156 = .ok (.iastore, 1) := by decide +kernel
theorem dX13_readWalk_157 : decode cX13_readWalk 157 = .ok (.aload_n 0, 1) := by decide +kernel
theorem dX13_readWalk_158 : decode cX13_readWalk 158 = .ok (.getfield 154, 3) := by decide +kernel
theorem dX13_readWalk_161 : decode cX13_readWalk 161 = .ok (.getfield 259, 3) := by decide +kernel
theorem dX13_readWalk_164 : decode cX13_readWalk 164 = .ok (.aload_n 0, 1) := by decide +kernel
theorem dX13_readWalk_165 : decode cX13_readWalk 165 = .ok (.getfield 154, 3) := by decide +kernel
theorem dX13_readWalk_168 : decode cX13_readWalk 168 = .ok (.getfield 245, 3) := by decide +kernel
theorem dX13_readWalk_171 : decode cX13_readWalk 171 = .ok (.iload 5, 2) := by decide +kernel
