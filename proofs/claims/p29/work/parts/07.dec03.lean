theorem dzbX13_comes_101 : dzB cX13_comes 101 [54, 6, 21, 6, 16, 254, 159, 0, 57, 42, 180, 0, 33, 21, 4, 46, 21, 6, 96, 42, 180, 0, 33, 42] := by decide +kernel
theorem dX13_comes_101 : decode cX13_comes 101 = .ok (.istore 6, 2) := dz1 dzo54 0 6 dzbX13_comes_101 rfl
theorem dX13_comes_103 : decode cX13_comes 103 = .ok (.iload 6, 2) := dz1 dzo21 2 6 dzbX13_comes_101 rfl
theorem dX13_comes_105 : decode cX13_comes 105 = .ok (.bipush (-2), 2) := dz3 dzo16 4 254 (-2) rfl dzbX13_comes_101 rfl
theorem dX13_comes_107 : decode cX13_comes 107 = .ok (.if_icmp .eq 57, 3) := dz4 dzo159 6 0 57 57 rfl dzbX13_comes_101 rfl
theorem dX13_comes_110 : decode cX13_comes 110 = .ok (.aload_n 0, 1) := dz0 dzo42 9 dzbX13_comes_101 rfl
theorem dX13_comes_111 : decode cX13_comes 111 = .ok (.getfield 33, 3) := dz2 dzo180 10 0 33 dzbX13_comes_101 rfl
theorem dX13_comes_114 : decode cX13_comes 114 = .ok (.iload 4, 2) := dz1 dzo21 13 4 dzbX13_comes_101 rfl
theorem dX13_comes_116 : decode cX13_comes 116 = .ok (.iaload, 1) := dz0 dzo46 15 dzbX13_comes_101 rfl
theorem dX13_comes_117 : decode cX13_comes 117 = .ok (.iload 6, 2) := dz1 dzo21 16 6 dzbX13_comes_101 rfl
theorem dX13_comes_119 : decode cX13_comes 119 = .ok (.iadd, 1) := dz0 dzo96 18 dzbX13_comes_101 rfl
theorem dX13_comes_120 : decode cX13_comes 120 = .ok (.aload_n 0, 1) := dz0 dzo42 19 dzbX13_comes_101 rfl
theorem dX13_comes_121 : decode cX13_comes 121 = .ok (.getfield 33, 3) := dz2 dzo180 20 0 33 dzbX13_comes_101 rfl
theorem dX13_comes_124 : decode cX13_comes 124 = .ok (.aload_n 0, 1) := dz0 dzo42 23 dzbX13_comes_101 rfl
theorem dzbX13_comes_125 : dzB cX13_comes 125 [21, 4, 21, 5, 182, 1, 24, 46, 161, 0, 6, 167, 0, 28, 42, 180, 0, 33, 42, 21, 4, 21, 5] := by decide +kernel
theorem dX13_comes_125 : decode cX13_comes 125 = .ok (.iload 4, 2) := dz1 dzo21 0 4 dzbX13_comes_125 rfl
theorem dX13_comes_127 : decode cX13_comes 127 = .ok (.iload 5, 2) := dz1 dzo21 2 5 dzbX13_comes_125 rfl
theorem dX13_comes_129 : decode cX13_comes 129 = .ok (.invokevirtual 280, 3) := dz2 dzo182 4 1 24 dzbX13_comes_125 rfl
theorem dX13_comes_132 : decode cX13_comes 132 = .ok (.iaload, 1) := dz0 dzo46 7 dzbX13_comes_125 rfl
theorem dX13_comes_133 : decode cX13_comes 133 = .ok (.if_icmp .lt 6, 3) := dz4 dzo161 8 0 6 6 rfl dzbX13_comes_125 rfl
theorem dX13_comes_136 : decode cX13_comes 136 = .ok (.goto 28, 3) := dz4 dzo167 11 0 28 28 rfl dzbX13_comes_125 rfl
theorem dX13_comes_139 : decode cX13_comes 139 = .ok (.aload_n 0, 1) := dz0 dzo42 14 dzbX13_comes_125 rfl
theorem dX13_comes_140 : decode cX13_comes 140 = .ok (.getfield 33, 3) := dz2 dzo180 15 0 33 dzbX13_comes_125 rfl
theorem dX13_comes_143 : decode cX13_comes 143 = .ok (.aload_n 0, 1) := dz0 dzo42 18 dzbX13_comes_125 rfl
theorem dX13_comes_144 : decode cX13_comes 144 = .ok (.iload 4, 2) := dz1 dzo21 19 4 dzbX13_comes_125 rfl
theorem dX13_comes_146 : decode cX13_comes 146 = .ok (.iload 5, 2) := dz1 dzo21 21 5 dzbX13_comes_125 rfl
theorem dzbX13_comes_148 : dzB cX13_comes 148 [182, 1, 24, 42, 180, 0, 33, 21, 4, 46, 21, 6, 96, 79, 4, 62, 132, 5, 1, 167, 255, 162] := by decide +kernel
theorem dX13_comes_148 : decode cX13_comes 148 = .ok (.invokevirtual 280, 3) := dz2 dzo182 0 1 24 dzbX13_comes_148 rfl
theorem dX13_comes_151 : decode cX13_comes 151 = .ok (.aload_n 0, 1) := dz0 dzo42 3 dzbX13_comes_148 rfl
theorem dX13_comes_152 : decode cX13_comes 152 = .ok (.getfield 33, 3) := dz2 dzo180 4 0 33 dzbX13_comes_148 rfl
theorem dX13_comes_155 : decode cX13_comes 155 = .ok (.iload 4, 2) := dz1 dzo21 7 4 dzbX13_comes_148 rfl
theorem dX13_comes_157 : decode cX13_comes 157 = .ok (.iaload, 1) := dz0 dzo46 9 dzbX13_comes_148 rfl
theorem dX13_comes_158 : decode cX13_comes 158 = .ok (.iload 6, 2) := dz1 dzo21 10 6 dzbX13_comes_148 rfl
theorem dX13_comes_160 : decode cX13_comes 160 = .ok (.iadd, 1) := dz0 dzo96 12 dzbX13_comes_148 rfl
theorem dX13_comes_161 : decode cX13_comes 161 = .ok (.iastore, 1) := dz0 dzo79 13 dzbX13_comes_148 rfl
theorem dX13_comes_162 : decode cX13_comes 162 = .ok (.iconst 1, 1) := dz0 dzo4 14 dzbX13_comes_148 rfl
theorem dX13_comes_163 : decode cX13_comes 163 = .ok (.istore_n 3, 1) := dz0 dzo62 15 dzbX13_comes_148 rfl
theorem dX13_comes_164 : decode cX13_comes 164 = .ok (.iinc 5 1, 3) := dz5 dzo132 16 5 1 1 rfl dzbX13_comes_148 rfl
theorem dX13_comes_167 : decode cX13_comes 167 = .ok (.goto (-94), 3) := dz4 dzo167 19 255 162 (-94) rfl dzbX13_comes_148 rfl
theorem dzbX13_comes_170 : dzB cX13_comes 170 [132, 4, 1, 167, 255, 144, 167, 255, 132, 177] := by decide +kernel
theorem dX13_comes_170 : decode cX13_comes 170 = .ok (.iinc 4 1, 3) := dz5 dzo132 0 4 1 1 rfl dzbX13_comes_170 rfl
theorem dX13_comes_173 : decode cX13_comes 173 = .ok (.goto (-112), 3) := dz4 dzo167 3 255 144 (-112) rfl dzbX13_comes_170 rfl
theorem dX13_comes_176 : decode cX13_comes 176 = .ok (.goto (-124), 3) := dz4 dzo167 6 255 132 (-124) rfl dzbX13_comes_170 rfl
theorem dX13_comes_179 : decode cX13_comes 179 = .ok (.return_, 1) := dz0 dzo177 9 dzbX13_comes_170 rfl
theorem dzbX13_common_0 : dzB cX13_common 0 [30, 55, 4, 32, 55, 6, 22, 6, 9, 148, 153, 0, 21, 22, 4, 22, 6, 113, 55, 8, 22, 6, 55, 4] := by decide +kernel
theorem dX13_common_0 : decode cX13_common 0 = .ok (.lload_n 0, 1) := dz0 dzo30 0 dzbX13_common_0 rfl
theorem dX13_common_1 : decode cX13_common 1 = .ok (.lstore 4, 2) := dz1 dzo55 1 4 dzbX13_common_0 rfl
theorem dX13_common_3 : decode cX13_common 3 = .ok (.lload_n 2, 1) := dz0 dzo32 3 dzbX13_common_0 rfl
theorem dX13_common_4 : decode cX13_common 4 = .ok (.lstore 6, 2) := dz1 dzo55 4 6 dzbX13_common_0 rfl
theorem dX13_common_6 : decode cX13_common 6 = .ok (.lload 6, 2) := dz1 dzo22 6 6 dzbX13_common_0 rfl
theorem dX13_common_8 : decode cX13_common 8 = .ok (.lconst 0, 1) := dz0 dzo9 8 dzbX13_common_0 rfl
theorem dX13_common_9 : decode cX13_common 9 = .ok (.lcmp, 1) := dz0 dzo148 9 dzbX13_common_0 rfl
theorem dX13_common_10 : decode cX13_common 10 = .ok (.ifCond .eq 21, 3) := dz4 dzo153 10 0 21 21 rfl dzbX13_common_0 rfl
theorem dX13_common_13 : decode cX13_common 13 = .ok (.lload 4, 2) := dz1 dzo22 13 4 dzbX13_common_0 rfl
theorem dX13_common_15 : decode cX13_common 15 = .ok (.lload 6, 2) := dz1 dzo22 15 6 dzbX13_common_0 rfl
theorem dX13_common_17 : decode cX13_common 17 = .ok (.lrem, 1) := dz0 dzo113 17 dzbX13_common_0 rfl
theorem dX13_common_18 : decode cX13_common 18 = .ok (.lstore 8, 2) := dz1 dzo55 18 8 dzbX13_common_0 rfl
theorem dX13_common_20 : decode cX13_common 20 = .ok (.lload 6, 2) := dz1 dzo22 20 6 dzbX13_common_0 rfl
theorem dX13_common_22 : decode cX13_common 22 = .ok (.lstore 4, 2) := dz1 dzo55 22 4 dzbX13_common_0 rfl
theorem dzbX13_common_24 : dzB cX13_common 24 [22, 8, 55, 6, 167, 255, 234, 22, 4, 173] := by decide +kernel
theorem dX13_common_24 : decode cX13_common 24 = .ok (.lload 8, 2) := dz1 dzo22 0 8 dzbX13_common_24 rfl
theorem dX13_common_26 : decode cX13_common 26 = .ok (.lstore 6, 2) := dz1 dzo55 2 6 dzbX13_common_24 rfl
theorem dX13_common_28 : decode cX13_common 28 = .ok (.goto (-22), 3) := dz4 dzo167 4 255 234 (-22) rfl dzbX13_common_24 rfl
theorem dX13_common_31 : decode cX13_common 31 = .ok (.lload 4, 2) := dz1 dzo22 7 4 dzbX13_common_24 rfl
theorem dX13_common_33 : decode cX13_common 33 = .ok (.lreturn, 1) := dz0 dzo173 9 dzbX13_common_24 rfl
theorem dzbX13_cut_0 : dzB cX13_cut 0 [42, 3, 181, 0, 42, 42, 27, 182, 1, 55, 154, 0, 9, 42, 4, 182, 0, 48, 172, 4, 42, 182, 1, 21] := by decide +kernel
theorem dX13_cut_0 : decode cX13_cut 0 = .ok (.aload_n 0, 1) := dz0 dzo42 0 dzbX13_cut_0 rfl
theorem dX13_cut_1 : decode cX13_cut 1 = .ok (.iconst 0, 1) := dz0 dzo3 1 dzbX13_cut_0 rfl
theorem dX13_cut_2 : decode cX13_cut 2 = .ok (.putfield 42, 3) := dz2 dzo181 2 0 42 dzbX13_cut_0 rfl
theorem dX13_cut_5 : decode cX13_cut 5 = .ok (.aload_n 0, 1) := dz0 dzo42 5 dzbX13_cut_0 rfl
theorem dX13_cut_6 : decode cX13_cut 6 = .ok (.iload_n 1, 1) := dz0 dzo27 6 dzbX13_cut_0 rfl
theorem dX13_cut_7 : decode cX13_cut 7 = .ok (.invokevirtual 311, 3) := dz2 dzo182 7 1 55 dzbX13_cut_0 rfl
theorem dX13_cut_10 : decode cX13_cut 10 = .ok (.ifCond .ne 9, 3) := dz4 dzo154 10 0 9 9 rfl dzbX13_cut_0 rfl
theorem dX13_cut_13 : decode cX13_cut 13 = .ok (.aload_n 0, 1) := dz0 dzo42 13 dzbX13_cut_0 rfl
theorem dX13_cut_14 : decode cX13_cut 14 = .ok (.iconst 1, 1) := dz0 dzo4 14 dzbX13_cut_0 rfl
theorem dX13_cut_15 : decode cX13_cut 15 = .ok (.invokevirtual 48, 3) := dz2 dzo182 15 0 48 dzbX13_cut_0 rfl
theorem dX13_cut_18 : decode cX13_cut 18 = .ok (.ireturn, 1) := dz0 dzo172 18 dzbX13_cut_0 rfl
theorem dX13_cut_19 : decode cX13_cut 19 = .ok (.iconst 1, 1) := dz0 dzo4 19 dzbX13_cut_0 rfl
theorem dX13_cut_20 : decode cX13_cut 20 = .ok (.aload_n 0, 1) := dz0 dzo42 20 dzbX13_cut_0 rfl
theorem dX13_cut_21 : decode cX13_cut 21 = .ok (.invokevirtual 277, 3) := dz2 dzo182 21 1 21 dzbX13_cut_0 rfl
theorem dzbX13_cut_24 : dzB cX13_cut 24 [120, 4, 100, 42, 6, 182, 1, 64, 2, 130, 126, 4, 42, 180, 0, 17, 16, 20, 27, 96, 46, 120, 2, 130] := by decide +kernel
theorem dX13_cut_24 : decode cX13_cut 24 = .ok (.ishl, 1) := dz0 dzo120 0 dzbX13_cut_24 rfl
theorem dX13_cut_25 : decode cX13_cut 25 = .ok (.iconst 1, 1) := dz0 dzo4 1 dzbX13_cut_24 rfl
theorem dX13_cut_26 : decode cX13_cut 26 = .ok (.isub, 1) := dz0 dzo100 2 dzbX13_cut_24 rfl
theorem dX13_cut_27 : decode cX13_cut 27 = .ok (.aload_n 0, 1) := dz0 dzo42 3 dzbX13_cut_24 rfl
theorem dX13_cut_28 : decode cX13_cut 28 = .ok (.iconst 3, 1) := dz0 dzo6 4 dzbX13_cut_24 rfl
theorem dX13_cut_29 : decode cX13_cut 29 = .ok (.invokevirtual 320, 3) := dz2 dzo182 5 1 64 dzbX13_cut_24 rfl
theorem dX13_cut_32 : decode cX13_cut 32 = .ok (.iconst (-1), 1) := dz0 dzo2 8 dzbX13_cut_24 rfl
theorem dX13_cut_33 : decode cX13_cut 33 = .ok (.ixor, 1) := dz0 dzo130 9 dzbX13_cut_24 rfl
theorem dX13_cut_34 : decode cX13_cut 34 = .ok (.iand, 1) := dz0 dzo126 10 dzbX13_cut_24 rfl
theorem dX13_cut_35 : decode cX13_cut 35 = .ok (.iconst 1, 1) := dz0 dzo4 11 dzbX13_cut_24 rfl
theorem dX13_cut_36 : decode cX13_cut 36 = .ok (.aload_n 0, 1) := dz0 dzo42 12 dzbX13_cut_24 rfl
theorem dX13_cut_37 : decode cX13_cut 37 = .ok (.getfield 17, 3) := dz2 dzo180 13 0 17 dzbX13_cut_24 rfl
theorem dX13_cut_40 : decode cX13_cut 40 = .ok (.bipush 20, 2) := dz3 dzo16 16 20 20 rfl dzbX13_cut_24 rfl
theorem dX13_cut_42 : decode cX13_cut 42 = .ok (.iload_n 1, 1) := dz0 dzo27 18 dzbX13_cut_24 rfl
theorem dX13_cut_43 : decode cX13_cut 43 = .ok (.iadd, 1) := dz0 dzo96 19 dzbX13_cut_24 rfl
theorem dX13_cut_44 : decode cX13_cut 44 = .ok (.iaload, 1) := dz0 dzo46 20 dzbX13_cut_24 rfl
theorem dX13_cut_45 : decode cX13_cut 45 = .ok (.ishl, 1) := dz0 dzo120 21 dzbX13_cut_24 rfl
theorem dX13_cut_46 : decode cX13_cut 46 = .ok (.iconst (-1), 1) := dz0 dzo2 22 dzbX13_cut_24 rfl
theorem dX13_cut_47 : decode cX13_cut 47 = .ok (.ixor, 1) := dz0 dzo130 23 dzbX13_cut_24 rfl
theorem dzbX13_cut_48 : dzB cX13_cut 48 [126, 4, 42, 180, 1, 13, 180, 0, 243, 27, 46, 120, 2, 130, 126, 61, 42, 42, 180, 0, 17, 16, 20, 27] := by decide +kernel
theorem dX13_cut_48 : decode cX13_cut 48 = .ok (.iand, 1) := dz0 dzo126 0 dzbX13_cut_48 rfl
theorem dX13_cut_49 : decode cX13_cut 49 = .ok (.iconst 1, 1) := dz0 dzo4 1 dzbX13_cut_48 rfl
theorem dX13_cut_50 : decode cX13_cut 50 = .ok (.aload_n 0, 1) := dz0 dzo42 2 dzbX13_cut_48 rfl
theorem dX13_cut_51 : decode cX13_cut 51 = .ok (.getfield 269, 3) := dz2 dzo180 3 1 13 dzbX13_cut_48 rfl
theorem dX13_cut_54 : decode cX13_cut 54 = .ok (.getfield 243, 3) := dz2 dzo180 6 0 243 dzbX13_cut_48 rfl
theorem dX13_cut_57 : decode cX13_cut 57 = .ok (.iload_n 1, 1) := dz0 dzo27 9 dzbX13_cut_48 rfl
theorem dX13_cut_58 : decode cX13_cut 58 = .ok (.iaload, 1) := dz0 dzo46 10 dzbX13_cut_48 rfl
theorem dX13_cut_59 : decode cX13_cut 59 = .ok (.ishl, 1) := dz0 dzo120 11 dzbX13_cut_48 rfl
theorem dX13_cut_60 : decode cX13_cut 60 = .ok (.iconst (-1), 1) := dz0 dzo2 12 dzbX13_cut_48 rfl
theorem dX13_cut_61 : decode cX13_cut 61 = .ok (.ixor, 1) := dz0 dzo130 13 dzbX13_cut_48 rfl
theorem dX13_cut_62 : decode cX13_cut 62 = .ok (.iand, 1) := dz0 dzo126 14 dzbX13_cut_48 rfl
theorem dX13_cut_63 : decode cX13_cut 63 = .ok (.istore_n 2, 1) := dz0 dzo61 15 dzbX13_cut_48 rfl
theorem dX13_cut_64 : decode cX13_cut 64 = .ok (.aload_n 0, 1) := dz0 dzo42 16 dzbX13_cut_48 rfl
theorem dX13_cut_65 : decode cX13_cut 65 = .ok (.aload_n 0, 1) := dz0 dzo42 17 dzbX13_cut_48 rfl
theorem dX13_cut_66 : decode cX13_cut 66 = .ok (.getfield 17, 3) := dz2 dzo180 18 0 17 dzbX13_cut_48 rfl
theorem dX13_cut_69 : decode cX13_cut 69 = .ok (.bipush 20, 2) := dz3 dzo16 21 20 20 rfl dzbX13_cut_48 rfl
theorem dX13_cut_71 : decode cX13_cut 71 = .ok (.iload_n 1, 1) := dz0 dzo27 23 dzbX13_cut_48 rfl
theorem dzbX13_cut_72 : dzB cX13_cut 72 [96, 46, 42, 180, 1, 13, 180, 0, 243, 27, 46, 160, 0, 8, 16, 254, 167, 0, 9, 42, 27, 28] := by decide +kernel
theorem dX13_cut_72 : decode cX13_cut 72 = .ok (.iadd, 1) := dz0 dzo96 0 dzbX13_cut_72 rfl
theorem dX13_cut_73 : decode cX13_cut 73 = .ok (.iaload, 1) := dz0 dzo46 1 dzbX13_cut_72 rfl
theorem dX13_cut_74 : decode cX13_cut 74 = .ok (.aload_n 0, 1) := dz0 dzo42 2 dzbX13_cut_72 rfl
theorem dX13_cut_75 : decode cX13_cut 75 = .ok (.getfield 269, 3) := dz2 dzo180 3 1 13 dzbX13_cut_72 rfl
theorem dX13_cut_78 : decode cX13_cut 78 = .ok (.getfield 243, 3) := dz2 dzo180 6 0 243 dzbX13_cut_72 rfl
theorem dX13_cut_81 : decode cX13_cut 81 = .ok (.iload_n 1, 1) := dz0 dzo27 9 dzbX13_cut_72 rfl
theorem dX13_cut_82 : decode cX13_cut 82 = .ok (.iaload, 1) := dz0 dzo46 10 dzbX13_cut_72 rfl
theorem dX13_cut_83 : decode cX13_cut 83 = .ok (.if_icmp .ne 8, 3) := dz4 dzo160 11 0 8 8 rfl dzbX13_cut_72 rfl
theorem dX13_cut_86 : decode cX13_cut 86 = .ok (.bipush (-2), 2) := dz3 dzo16 14 254 (-2) rfl dzbX13_cut_72 rfl
theorem dX13_cut_88 : decode cX13_cut 88 = .ok (.goto 9, 3) := dz4 dzo167 16 0 9 9 rfl dzbX13_cut_72 rfl
theorem dX13_cut_91 : decode cX13_cut 91 = .ok (.aload_n 0, 1) := dz0 dzo42 19 dzbX13_cut_72 rfl
theorem dX13_cut_92 : decode cX13_cut 92 = .ok (.iload_n 1, 1) := dz0 dzo27 20 dzbX13_cut_72 rfl
theorem dX13_cut_93 : decode cX13_cut 93 = .ok (.iload_n 2, 1) := dz0 dzo28 21 dzbX13_cut_72 rfl
theorem dzbX13_cut_94 : dzB cX13_cut 94 [182, 1, 102, 182, 0, 52, 172] := by decide +kernel
theorem dX13_cut_94 : decode cX13_cut 94 = .ok (.invokevirtual 358, 3) := dz2 dzo182 0 1 102 dzbX13_cut_94 rfl
theorem dX13_cut_97 : decode cX13_cut 97 = .ok (.invokevirtual 52, 3) := dz2 dzo182 3 0 52 dzbX13_cut_94 rfl
theorem dX13_cut_100 : decode cX13_cut 100 = .ok (.ireturn, 1) := dz0 dzo172 6 dzbX13_cut_94 rfl
theorem dzbX13_denied_0 : dzB cX13_denied 0 [42, 27, 182, 0, 48, 87, 3, 172] := by decide +kernel
theorem dX13_denied_0 : decode cX13_denied 0 = .ok (.aload_n 0, 1) := dz0 dzo42 0 dzbX13_denied_0 rfl
theorem dX13_denied_1 : decode cX13_denied 1 = .ok (.iload_n 1, 1) := dz0 dzo27 1 dzbX13_denied_0 rfl
theorem dX13_denied_2 : decode cX13_denied 2 = .ok (.invokevirtual 48, 3) := dz2 dzo182 2 0 48 dzbX13_denied_0 rfl
theorem dX13_denied_5 : decode cX13_denied 5 = .ok (.pop, 1) := dz0 dzo87 5 dzbX13_denied_0 rfl
theorem dX13_denied_6 : decode cX13_denied 6 = .ok (.iconst 0, 1) := dz0 dzo3 6 dzbX13_denied_0 rfl
theorem dX13_denied_7 : decode cX13_denied 7 = .ok (.ireturn, 1) := dz0 dzo172 7 dzbX13_denied_0 rfl
theorem dzbX13_dig_0 : dzB cX13_dig 0 [42, 3, 181, 0, 42, 42, 27, 3, 4, 182, 1, 198, 172] := by decide +kernel
theorem dX13_dig_0 : decode cX13_dig 0 = .ok (.aload_n 0, 1) := dz0 dzo42 0 dzbX13_dig_0 rfl
theorem dX13_dig_1 : decode cX13_dig 1 = .ok (.iconst 0, 1) := dz0 dzo3 1 dzbX13_dig_0 rfl
theorem dX13_dig_2 : decode cX13_dig 2 = .ok (.putfield 42, 3) := dz2 dzo181 2 0 42 dzbX13_dig_0 rfl
theorem dX13_dig_5 : decode cX13_dig 5 = .ok (.aload_n 0, 1) := dz0 dzo42 5 dzbX13_dig_0 rfl
theorem dX13_dig_6 : decode cX13_dig 6 = .ok (.iload_n 1, 1) := dz0 dzo27 6 dzbX13_dig_0 rfl
theorem dX13_dig_7 : decode cX13_dig 7 = .ok (.iconst 0, 1) := dz0 dzo3 7 dzbX13_dig_0 rfl
theorem dX13_dig_8 : decode cX13_dig 8 = .ok (.iconst 1, 1) := dz0 dzo4 8 dzbX13_dig_0 rfl
theorem dX13_dig_9 : decode cX13_dig 9 = .ok (.invokevirtual 454, 3) := dz2 dzo182 9 1 198 dzbX13_dig_0 rfl
theorem dX13_dig_12 : decode cX13_dig 12 = .ok (.ireturn, 1) := dz0 dzo172 12 dzbX13_dig_0 rfl
theorem dzbX13_does_0 : dzB cX13_does 0 [27, 2, 160, 0, 11, 42, 28, 182, 1, 93, 167, 0, 9, 42, 27, 28, 182, 1, 96, 172] := by decide +kernel
theorem dX13_does_0 : decode cX13_does 0 = .ok (.iload_n 1, 1) := dz0 dzo27 0 dzbX13_does_0 rfl
theorem dX13_does_1 : decode cX13_does 1 = .ok (.iconst (-1), 1) := dz0 dzo2 1 dzbX13_does_0 rfl
theorem dX13_does_2 : decode cX13_does 2 = .ok (.if_icmp .ne 11, 3) := dz4 dzo160 2 0 11 11 rfl dzbX13_does_0 rfl
theorem dX13_does_5 : decode cX13_does 5 = .ok (.aload_n 0, 1) := dz0 dzo42 5 dzbX13_does_0 rfl
theorem dX13_does_6 : decode cX13_does 6 = .ok (.iload_n 2, 1) := dz0 dzo28 6 dzbX13_does_0 rfl
theorem dX13_does_7 : decode cX13_does 7 = .ok (.invokevirtual 349, 3) := dz2 dzo182 7 1 93 dzbX13_does_0 rfl
theorem dX13_does_10 : decode cX13_does 10 = .ok (.goto 9, 3) := dz4 dzo167 10 0 9 9 rfl dzbX13_does_0 rfl
theorem dX13_does_13 : decode cX13_does 13 = .ok (.aload_n 0, 1) := dz0 dzo42 13 dzbX13_does_0 rfl
theorem dX13_does_14 : decode cX13_does 14 = .ok (.iload_n 1, 1) := dz0 dzo27 14 dzbX13_does_0 rfl
theorem dX13_does_15 : decode cX13_does 15 = .ok (.iload_n 2, 1) := dz0 dzo28 15 dzbX13_does_0 rfl
theorem dX13_does_16 : decode cX13_does 16 = .ok (.invokevirtual 352, 3) := dz2 dzo182 16 1 96 dzbX13_does_0 rfl
theorem dX13_does_19 : decode cX13_does 19 = .ok (.ireturn, 1) := dz0 dzo172 19 dzbX13_does_0 rfl
theorem dzbX13_dry_0 : dzB cX13_dry 0 [42, 3, 181, 0, 42, 42, 27, 3, 4, 182, 1, 75, 172] := by decide +kernel
theorem dX13_dry_0 : decode cX13_dry 0 = .ok (.aload_n 0, 1) := dz0 dzo42 0 dzbX13_dry_0 rfl
theorem dX13_dry_1 : decode cX13_dry 1 = .ok (.iconst 0, 1) := dz0 dzo3 1 dzbX13_dry_0 rfl
theorem dX13_dry_2 : decode cX13_dry 2 = .ok (.putfield 42, 3) := dz2 dzo181 2 0 42 dzbX13_dry_0 rfl
theorem dX13_dry_5 : decode cX13_dry 5 = .ok (.aload_n 0, 1) := dz0 dzo42 5 dzbX13_dry_0 rfl
theorem dX13_dry_6 : decode cX13_dry 6 = .ok (.iload_n 1, 1) := dz0 dzo27 6 dzbX13_dry_0 rfl
theorem dX13_dry_7 : decode cX13_dry 7 = .ok (.iconst 0, 1) := dz0 dzo3 7 dzbX13_dry_0 rfl
theorem dX13_dry_8 : decode cX13_dry 8 = .ok (.iconst 1, 1) := dz0 dzo4 8 dzbX13_dry_0 rfl
theorem dX13_dry_9 : decode cX13_dry 9 = .ok (.invokevirtual 331, 3) := dz2 dzo182 9 1 75 dzbX13_dry_0 rfl
theorem dX13_dry_12 : decode cX13_dry 12 = .ok (.ireturn, 1) := dz0 dzo172 12 dzbX13_dry_0 rfl
theorem dzbX13_dryAt_0 : dzB cX13_dryAt 0 [42, 3, 181, 0, 42, 42, 27, 28, 3, 182, 1, 79, 172] := by decide +kernel
theorem dX13_dryAt_0 : decode cX13_dryAt 0 = .ok (.aload_n 0, 1) := dz0 dzo42 0 dzbX13_dryAt_0 rfl
theorem dX13_dryAt_1 : decode cX13_dryAt 1 = .ok (.iconst 0, 1) := dz0 dzo3 1 dzbX13_dryAt_0 rfl
theorem dX13_dryAt_2 : decode cX13_dryAt 2 = .ok (.putfield 42, 3) := dz2 dzo181 2 0 42 dzbX13_dryAt_0 rfl
theorem dX13_dryAt_5 : decode cX13_dryAt 5 = .ok (.aload_n 0, 1) := dz0 dzo42 5 dzbX13_dryAt_0 rfl
theorem dX13_dryAt_6 : decode cX13_dryAt 6 = .ok (.iload_n 1, 1) := dz0 dzo27 6 dzbX13_dryAt_0 rfl
theorem dX13_dryAt_7 : decode cX13_dryAt 7 = .ok (.iload_n 2, 1) := dz0 dzo28 7 dzbX13_dryAt_0 rfl
theorem dX13_dryAt_8 : decode cX13_dryAt 8 = .ok (.iconst 0, 1) := dz0 dzo3 8 dzbX13_dryAt_0 rfl
theorem dX13_dryAt_9 : decode cX13_dryAt 9 = .ok (.invokevirtual 335, 3) := dz2 dzo182 9 1 79 dzbX13_dryAt_0 rfl
theorem dX13_dryAt_12 : decode cX13_dryAt 12 = .ok (.ireturn, 1) := dz0 dzo172 12 dzbX13_dryAt_0 rfl
theorem dzbX13_dryFalls_0 : dzB cX13_dryFalls 0 [42, 182, 1, 61, 42, 27, 3, 182, 1, 67, 61, 28, 19, 1, 37, 160, 0, 8, 16, 254, 167, 0, 8, 28] := by decide +kernel
theorem dX13_dryFalls_0 : decode cX13_dryFalls 0 = .ok (.aload_n 0, 1) := dz0 dzo42 0 dzbX13_dryFalls_0 rfl
theorem dX13_dryFalls_1 : decode cX13_dryFalls 1 = .ok (.invokevirtual 317, 3) := dz2 dzo182 1 1 61 dzbX13_dryFalls_0 rfl
theorem dX13_dryFalls_4 : decode cX13_dryFalls 4 = .ok (.aload_n 0, 1) := dz0 dzo42 4 dzbX13_dryFalls_0 rfl
theorem dX13_dryFalls_5 : decode cX13_dryFalls 5 = .ok (.iload_n 1, 1) := dz0 dzo27 5 dzbX13_dryFalls_0 rfl
theorem dX13_dryFalls_6 : decode cX13_dryFalls 6 = .ok (.iconst 0, 1) := dz0 dzo3 6 dzbX13_dryFalls_0 rfl
theorem dX13_dryFalls_7 : decode cX13_dryFalls 7 = .ok (.invokevirtual 323, 3) := dz2 dzo182 7 1 67 dzbX13_dryFalls_0 rfl
theorem dX13_dryFalls_10 : decode cX13_dryFalls 10 = .ok (.istore_n 2, 1) := dz0 dzo61 10 dzbX13_dryFalls_0 rfl
theorem dX13_dryFalls_11 : decode cX13_dryFalls 11 = .ok (.iload_n 2, 1) := dz0 dzo28 11 dzbX13_dryFalls_0 rfl
theorem dX13_dryFalls_12 : decode cX13_dryFalls 12 = .ok (.ldc_w 293, 3) := dz2 dzo19 12 1 37 dzbX13_dryFalls_0 rfl
theorem dX13_dryFalls_15 : decode cX13_dryFalls 15 = .ok (.if_icmp .ne 8, 3) := dz4 dzo160 15 0 8 8 rfl dzbX13_dryFalls_0 rfl
theorem dX13_dryFalls_18 : decode cX13_dryFalls 18 = .ok (.bipush (-2), 2) := dz3 dzo16 18 254 (-2) rfl dzbX13_dryFalls_0 rfl
theorem dX13_dryFalls_20 : decode cX13_dryFalls 20 = .ok (.goto 8, 3) := dz4 dzo167 20 0 8 8 rfl dzbX13_dryFalls_0 rfl
theorem dX13_dryFalls_23 : decode cX13_dryFalls 23 = .ok (.iload_n 2, 1) := dz0 dzo28 23 dzbX13_dryFalls_0 rfl
theorem dzbX13_dryFalls_24 : dzB cX13_dryFalls 24 [17, 3, 232, 108, 172] := by decide +kernel
theorem dX13_dryFalls_24 : decode cX13_dryFalls 24 = .ok (.sipush 1000, 3) := dz4 dzo17 0 3 232 1000 rfl dzbX13_dryFalls_24 rfl
theorem dX13_dryFalls_27 : decode cX13_dryFalls 27 = .ok (.idiv, 1) := dz0 dzo108 3 dzbX13_dryFalls_24 rfl
theorem dX13_dryFalls_28 : decode cX13_dryFalls 28 = .ok (.ireturn, 1) := dz0 dzo172 4 dzbX13_dryFalls_24 rfl
theorem dzbX13_dryMinutes_0 : dzB cX13_dryMinutes 0 [42, 3, 181, 0, 42, 42, 27, 3, 3, 182, 1, 75, 172] := by decide +kernel
theorem dX13_dryMinutes_0 : decode cX13_dryMinutes 0 = .ok (.aload_n 0, 1) := dz0 dzo42 0 dzbX13_dryMinutes_0 rfl
theorem dX13_dryMinutes_1 : decode cX13_dryMinutes 1 = .ok (.iconst 0, 1) := dz0 dzo3 1 dzbX13_dryMinutes_0 rfl
theorem dX13_dryMinutes_2 : decode cX13_dryMinutes 2 = .ok (.putfield 42, 3) := dz2 dzo181 2 0 42 dzbX13_dryMinutes_0 rfl
theorem dX13_dryMinutes_5 : decode cX13_dryMinutes 5 = .ok (.aload_n 0, 1) := dz0 dzo42 5 dzbX13_dryMinutes_0 rfl
theorem dX13_dryMinutes_6 : decode cX13_dryMinutes 6 = .ok (.iload_n 1, 1) := dz0 dzo27 6 dzbX13_dryMinutes_0 rfl
theorem dX13_dryMinutes_7 : decode cX13_dryMinutes 7 = .ok (.iconst 0, 1) := dz0 dzo3 7 dzbX13_dryMinutes_0 rfl
theorem dX13_dryMinutes_8 : decode cX13_dryMinutes 8 = .ok (.iconst 0, 1) := dz0 dzo3 8 dzbX13_dryMinutes_0 rfl
theorem dX13_dryMinutes_9 : decode cX13_dryMinutes 9 = .ok (.invokevirtual 331, 3) := dz2 dzo182 9 1 75 dzbX13_dryMinutes_0 rfl
theorem dX13_dryMinutes_12 : decode cX13_dryMinutes 12 = .ok (.ireturn, 1) := dz0 dzo172 12 dzbX13_dryMinutes_0 rfl
theorem dzbX13_dryOnes_0 : dzB cX13_dryOnes 0 [3, 60, 3, 61, 28, 42, 180, 1, 13, 180, 0, 206, 162, 0, 31, 27, 42, 28, 3, 182, 1, 67] := by decide +kernel
theorem dX13_dryOnes_0 : decode cX13_dryOnes 0 = .ok (.iconst 0, 1) := dz0 dzo3 0 dzbX13_dryOnes_0 rfl
theorem dX13_dryOnes_1 : decode cX13_dryOnes 1 = .ok (.istore_n 1, 1) := dz0 dzo60 1 dzbX13_dryOnes_0 rfl
theorem dX13_dryOnes_2 : decode cX13_dryOnes 2 = .ok (.iconst 0, 1) := dz0 dzo3 2 dzbX13_dryOnes_0 rfl
theorem dX13_dryOnes_3 : decode cX13_dryOnes 3 = .ok (.istore_n 2, 1) := dz0 dzo61 3 dzbX13_dryOnes_0 rfl
theorem dX13_dryOnes_4 : decode cX13_dryOnes 4 = .ok (.iload_n 2, 1) := dz0 dzo28 4 dzbX13_dryOnes_0 rfl
theorem dX13_dryOnes_5 : decode cX13_dryOnes 5 = .ok (.aload_n 0, 1) := dz0 dzo42 5 dzbX13_dryOnes_0 rfl
theorem dX13_dryOnes_6 : decode cX13_dryOnes 6 = .ok (.getfield 269, 3) := dz2 dzo180 6 1 13 dzbX13_dryOnes_0 rfl
theorem dX13_dryOnes_9 : decode cX13_dryOnes 9 = .ok (.getfield 206, 3) := dz2 dzo180 9 0 206 dzbX13_dryOnes_0 rfl
theorem dX13_dryOnes_12 : decode cX13_dryOnes 12 = .ok (.if_icmp .ge 31, 3) := dz4 dzo162 12 0 31 31 rfl dzbX13_dryOnes_0 rfl
theorem dX13_dryOnes_15 : decode cX13_dryOnes 15 = .ok (.iload_n 1, 1) := dz0 dzo27 15 dzbX13_dryOnes_0 rfl
theorem dX13_dryOnes_16 : decode cX13_dryOnes 16 = .ok (.aload_n 0, 1) := dz0 dzo42 16 dzbX13_dryOnes_0 rfl
theorem dX13_dryOnes_17 : decode cX13_dryOnes 17 = .ok (.iload_n 2, 1) := dz0 dzo28 17 dzbX13_dryOnes_0 rfl
theorem dX13_dryOnes_18 : decode cX13_dryOnes 18 = .ok (.iconst 0, 1) := dz0 dzo3 18 dzbX13_dryOnes_0 rfl
theorem dX13_dryOnes_19 : decode cX13_dryOnes 19 = .ok (.invokevirtual 323, 3) := dz2 dzo182 19 1 67 dzbX13_dryOnes_0 rfl
theorem dzbX13_dryOnes_22 : dzB cX13_dryOnes 22 [17, 3, 232, 162, 0, 9, 4, 28, 120, 167, 0, 4, 3, 128, 60, 132, 2, 1, 167, 255, 220, 27, 172] := by decide +kernel
theorem dX13_dryOnes_22 : decode cX13_dryOnes 22 = .ok (.sipush 1000, 3) := dz4 dzo17 0 3 232 1000 rfl dzbX13_dryOnes_22 rfl
theorem dX13_dryOnes_25 : decode cX13_dryOnes 25 = .ok (.if_icmp .ge 9, 3) := dz4 dzo162 3 0 9 9 rfl dzbX13_dryOnes_22 rfl
theorem dX13_dryOnes_28 : decode cX13_dryOnes 28 = .ok (.iconst 1, 1) := dz0 dzo4 6 dzbX13_dryOnes_22 rfl
theorem dX13_dryOnes_29 : decode cX13_dryOnes 29 = .ok (.iload_n 2, 1) := dz0 dzo28 7 dzbX13_dryOnes_22 rfl
theorem dX13_dryOnes_30 : decode cX13_dryOnes 30 = .ok (.ishl, 1) := dz0 dzo120 8 dzbX13_dryOnes_22 rfl
theorem dX13_dryOnes_31 : decode cX13_dryOnes 31 = .ok (.goto 4, 3) := dz4 dzo167 9 0 4 4 rfl dzbX13_dryOnes_22 rfl
theorem dX13_dryOnes_34 : decode cX13_dryOnes 34 = .ok (.iconst 0, 1) := dz0 dzo3 12 dzbX13_dryOnes_22 rfl
theorem dX13_dryOnes_35 : decode cX13_dryOnes 35 = .ok (.ior, 1) := dz0 dzo128 13 dzbX13_dryOnes_22 rfl
theorem dX13_dryOnes_36 : decode cX13_dryOnes 36 = .ok (.istore_n 1, 1) := dz0 dzo60 14 dzbX13_dryOnes_22 rfl
theorem dX13_dryOnes_37 : decode cX13_dryOnes 37 = .ok (.iinc 2 1, 3) := dz5 dzo132 15 2 1 1 rfl dzbX13_dryOnes_22 rfl
theorem dX13_dryOnes_40 : decode cX13_dryOnes 40 = .ok (.goto (-36), 3) := dz4 dzo167 18 255 220 (-36) rfl dzbX13_dryOnes_22 rfl
theorem dX13_dryOnes_43 : decode cX13_dryOnes 43 = .ok (.iload_n 1, 1) := dz0 dzo27 21 dzbX13_dryOnes_22 rfl
theorem dX13_dryOnes_44 : decode cX13_dryOnes 44 = .ok (.ireturn, 1) := dz0 dzo172 22 dzbX13_dryOnes_22 rfl
theorem dzbX13_eatsSemicolon_0 : dzB cX13_eatsSemicolon 0 [42, 180, 0, 74, 7, 160, 0, 7, 4, 167, 0, 4, 3, 60, 27, 153, 0, 7, 42, 182, 0, 113, 27, 172] := by decide +kernel
theorem dX13_eatsSemicolon_0 : decode cX13_eatsSemicolon 0 = .ok (.aload_n 0, 1) := dz0 dzo42 0 dzbX13_eatsSemicolon_0 rfl
theorem dX13_eatsSemicolon_1 : decode cX13_eatsSemicolon 1 = .ok (.getfield 74, 3) := dz2 dzo180 1 0 74 dzbX13_eatsSemicolon_0 rfl
theorem dX13_eatsSemicolon_4 : decode cX13_eatsSemicolon 4 = .ok (.iconst 4, 1) := dz0 dzo7 4 dzbX13_eatsSemicolon_0 rfl
theorem dX13_eatsSemicolon_5 : decode cX13_eatsSemicolon 5 = .ok (.if_icmp .ne 7, 3) := dz4 dzo160 5 0 7 7 rfl dzbX13_eatsSemicolon_0 rfl
theorem dX13_eatsSemicolon_8 : decode cX13_eatsSemicolon 8 = .ok (.iconst 1, 1) := dz0 dzo4 8 dzbX13_eatsSemicolon_0 rfl
theorem dX13_eatsSemicolon_9 : decode cX13_eatsSemicolon 9 = .ok (.goto 4, 3) := dz4 dzo167 9 0 4 4 rfl dzbX13_eatsSemicolon_0 rfl
theorem dX13_eatsSemicolon_12 : decode cX13_eatsSemicolon 12 = .ok (.iconst 0, 1) := dz0 dzo3 12 dzbX13_eatsSemicolon_0 rfl
theorem dX13_eatsSemicolon_13 : decode cX13_eatsSemicolon 13 = .ok (.istore_n 1, 1) := dz0 dzo60 13 dzbX13_eatsSemicolon_0 rfl
theorem dX13_eatsSemicolon_14 : decode cX13_eatsSemicolon 14 = .ok (.iload_n 1, 1) := dz0 dzo27 14 dzbX13_eatsSemicolon_0 rfl
theorem dX13_eatsSemicolon_15 : decode cX13_eatsSemicolon 15 = .ok (.ifCond .eq 7, 3) := dz4 dzo153 15 0 7 7 rfl dzbX13_eatsSemicolon_0 rfl
theorem dX13_eatsSemicolon_18 : decode cX13_eatsSemicolon 18 = .ok (.aload_n 0, 1) := dz0 dzo42 18 dzbX13_eatsSemicolon_0 rfl
theorem dX13_eatsSemicolon_19 : decode cX13_eatsSemicolon 19 = .ok (.invokevirtual 113, 3) := dz2 dzo182 19 0 113 dzbX13_eatsSemicolon_0 rfl
theorem dX13_eatsSemicolon_22 : decode cX13_eatsSemicolon 22 = .ok (.iload_n 1, 1) := dz0 dzo27 22 dzbX13_eatsSemicolon_0 rfl
theorem dX13_eatsSemicolon_23 : decode cX13_eatsSemicolon 23 = .ok (.ireturn, 1) := dz0 dzo172 23 dzbX13_eatsSemicolon_0 rfl
theorem dzbX13_fallOdds_0 : dzB cX13_fallOdds 0 [42, 3, 181, 0, 42, 42, 27, 182, 1, 55, 154, 0, 10, 42, 4, 182, 0, 48, 133, 173, 28, 3, 16, 9] := by decide +kernel
theorem dX13_fallOdds_0 : decode cX13_fallOdds 0 = .ok (.aload_n 0, 1) := dz0 dzo42 0 dzbX13_fallOdds_0 rfl
theorem dX13_fallOdds_1 : decode cX13_fallOdds 1 = .ok (.iconst 0, 1) := dz0 dzo3 1 dzbX13_fallOdds_0 rfl
theorem dX13_fallOdds_2 : decode cX13_fallOdds 2 = .ok (.putfield 42, 3) := dz2 dzo181 2 0 42 dzbX13_fallOdds_0 rfl
theorem dX13_fallOdds_5 : decode cX13_fallOdds 5 = .ok (.aload_n 0, 1) := dz0 dzo42 5 dzbX13_fallOdds_0 rfl
theorem dX13_fallOdds_6 : decode cX13_fallOdds 6 = .ok (.iload_n 1, 1) := dz0 dzo27 6 dzbX13_fallOdds_0 rfl
theorem dX13_fallOdds_7 : decode cX13_fallOdds 7 = .ok (.invokevirtual 311, 3) := dz2 dzo182 7 1 55 dzbX13_fallOdds_0 rfl
theorem dX13_fallOdds_10 : decode cX13_fallOdds 10 = .ok (.ifCond .ne 10, 3) := dz4 dzo154 10 0 10 10 rfl dzbX13_fallOdds_0 rfl
theorem dX13_fallOdds_13 : decode cX13_fallOdds 13 = .ok (.aload_n 0, 1) := dz0 dzo42 13 dzbX13_fallOdds_0 rfl
theorem dX13_fallOdds_14 : decode cX13_fallOdds 14 = .ok (.iconst 1, 1) := dz0 dzo4 14 dzbX13_fallOdds_0 rfl
theorem dX13_fallOdds_15 : decode cX13_fallOdds 15 = .ok (.invokevirtual 48, 3) := dz2 dzo182 15 0 48 dzbX13_fallOdds_0 rfl
theorem dX13_fallOdds_18 : decode cX13_fallOdds 18 = .ok (.i2l, 1) := dz0 dzo133 18 dzbX13_fallOdds_0 rfl
theorem dX13_fallOdds_19 : decode cX13_fallOdds 19 = .ok (.lreturn, 1) := dz0 dzo173 19 dzbX13_fallOdds_0 rfl
theorem dX13_fallOdds_20 : decode cX13_fallOdds 20 = .ok (.iload_n 2, 1) := dz0 dzo28 20 dzbX13_fallOdds_0 rfl
theorem dX13_fallOdds_21 : decode cX13_fallOdds 21 = .ok (.iconst 0, 1) := dz0 dzo3 21 dzbX13_fallOdds_0 rfl
theorem dX13_fallOdds_22 : decode cX13_fallOdds 22 = .ok (.bipush 9, 2) := dz3 dzo16 22 9 9 rfl dzbX13_fallOdds_0 rfl
theorem dzbX13_fallOdds_24 : dzB cX13_fallOdds 24 [184, 0, 124, 154, 0, 10, 42, 5, 182, 0, 48, 133, 173, 42, 27, 182, 1, 161, 54, 4, 21, 4, 16, 254] := by decide +kernel
theorem dX13_fallOdds_24 : decode cX13_fallOdds 24 = .ok (.invokestatic 124, 3) := dz2 dzo184 0 0 124 dzbX13_fallOdds_24 rfl
theorem dX13_fallOdds_27 : decode cX13_fallOdds 27 = .ok (.ifCond .ne 10, 3) := dz4 dzo154 3 0 10 10 rfl dzbX13_fallOdds_24 rfl
theorem dX13_fallOdds_30 : decode cX13_fallOdds 30 = .ok (.aload_n 0, 1) := dz0 dzo42 6 dzbX13_fallOdds_24 rfl
theorem dX13_fallOdds_31 : decode cX13_fallOdds 31 = .ok (.iconst 2, 1) := dz0 dzo5 7 dzbX13_fallOdds_24 rfl
theorem dX13_fallOdds_32 : decode cX13_fallOdds 32 = .ok (.invokevirtual 48, 3) := dz2 dzo182 8 0 48 dzbX13_fallOdds_24 rfl
theorem dX13_fallOdds_35 : decode cX13_fallOdds 35 = .ok (.i2l, 1) := dz0 dzo133 11 dzbX13_fallOdds_24 rfl
theorem dX13_fallOdds_36 : decode cX13_fallOdds 36 = .ok (.lreturn, 1) := dz0 dzo173 12 dzbX13_fallOdds_24 rfl
theorem dX13_fallOdds_37 : decode cX13_fallOdds 37 = .ok (.aload_n 0, 1) := dz0 dzo42 13 dzbX13_fallOdds_24 rfl
theorem dX13_fallOdds_38 : decode cX13_fallOdds 38 = .ok (.iload_n 1, 1) := dz0 dzo27 14 dzbX13_fallOdds_24 rfl
theorem dX13_fallOdds_39 : decode cX13_fallOdds 39 = .ok (.invokevirtual 417, 3) := dz2 dzo182 15 1 161 dzbX13_fallOdds_24 rfl
theorem dX13_fallOdds_42 : decode cX13_fallOdds 42 = .ok (.istore 4, 2) := dz1 dzo54 18 4 dzbX13_fallOdds_24 rfl
theorem dX13_fallOdds_44 : decode cX13_fallOdds 44 = .ok (.iload 4, 2) := dz1 dzo21 20 4 dzbX13_fallOdds_24 rfl
theorem dX13_fallOdds_46 : decode cX13_fallOdds 46 = .ok (.bipush (-2), 2) := dz3 dzo16 22 254 (-2) rfl dzbX13_fallOdds_24 rfl
theorem dzbX13_fallOdds_48 : dzB cX13_fallOdds 48 [160, 0, 11, 42, 16, 6, 182, 0, 48, 133, 173, 28, 21, 4, 164, 0, 11, 42, 9, 10, 29, 182, 1, 139] := by decide +kernel
theorem dX13_fallOdds_48 : decode cX13_fallOdds 48 = .ok (.if_icmp .ne 11, 3) := dz4 dzo160 0 0 11 11 rfl dzbX13_fallOdds_48 rfl
theorem dX13_fallOdds_51 : decode cX13_fallOdds 51 = .ok (.aload_n 0, 1) := dz0 dzo42 3 dzbX13_fallOdds_48 rfl
theorem dX13_fallOdds_52 : decode cX13_fallOdds 52 = .ok (.bipush 6, 2) := dz3 dzo16 4 6 6 rfl dzbX13_fallOdds_48 rfl
theorem dX13_fallOdds_54 : decode cX13_fallOdds 54 = .ok (.invokevirtual 48, 3) := dz2 dzo182 6 0 48 dzbX13_fallOdds_48 rfl
theorem dX13_fallOdds_57 : decode cX13_fallOdds 57 = .ok (.i2l, 1) := dz0 dzo133 9 dzbX13_fallOdds_48 rfl
theorem dX13_fallOdds_58 : decode cX13_fallOdds 58 = .ok (.lreturn, 1) := dz0 dzo173 10 dzbX13_fallOdds_48 rfl
theorem dX13_fallOdds_59 : decode cX13_fallOdds 59 = .ok (.iload_n 2, 1) := dz0 dzo28 11 dzbX13_fallOdds_48 rfl
theorem dX13_fallOdds_60 : decode cX13_fallOdds 60 = .ok (.iload 4, 2) := dz1 dzo21 12 4 dzbX13_fallOdds_48 rfl
theorem dX13_fallOdds_62 : decode cX13_fallOdds 62 = .ok (.if_icmp .le 11, 3) := dz4 dzo164 14 0 11 11 rfl dzbX13_fallOdds_48 rfl
theorem dX13_fallOdds_65 : decode cX13_fallOdds 65 = .ok (.aload_n 0, 1) := dz0 dzo42 17 dzbX13_fallOdds_48 rfl
theorem dX13_fallOdds_66 : decode cX13_fallOdds 66 = .ok (.lconst 0, 1) := dz0 dzo9 18 dzbX13_fallOdds_48 rfl
theorem dX13_fallOdds_67 : decode cX13_fallOdds 67 = .ok (.lconst 1, 1) := dz0 dzo10 19 dzbX13_fallOdds_48 rfl
theorem dX13_fallOdds_68 : decode cX13_fallOdds 68 = .ok (.iload_n 3, 1) := dz0 dzo29 20 dzbX13_fallOdds_48 rfl
theorem dX13_fallOdds_69 : decode cX13_fallOdds 69 = .ok (.invokevirtual 395, 3) := dz2 dzo182 21 1 139 dzbX13_fallOdds_48 rfl
theorem dzbX13_fallOdds_72 : dzB cX13_fallOdds 72 [173, 10, 55, 5, 10, 55, 7, 3, 54, 9, 21, 9, 21, 4, 162, 0, 50, 22, 5, 21, 9, 28] := by decide +kernel
theorem dX13_fallOdds_72 : decode cX13_fallOdds 72 = .ok (.lreturn, 1) := dz0 dzo173 0 dzbX13_fallOdds_72 rfl
theorem dX13_fallOdds_73 : decode cX13_fallOdds 73 = .ok (.lconst 1, 1) := dz0 dzo10 1 dzbX13_fallOdds_72 rfl
theorem dX13_fallOdds_74 : decode cX13_fallOdds 74 = .ok (.lstore 5, 2) := dz1 dzo55 2 5 dzbX13_fallOdds_72 rfl
theorem dX13_fallOdds_76 : decode cX13_fallOdds 76 = .ok (.lconst 1, 1) := dz0 dzo10 4 dzbX13_fallOdds_72 rfl
theorem dX13_fallOdds_77 : decode cX13_fallOdds 77 = .ok (.lstore 7, 2) := dz1 dzo55 5 7 dzbX13_fallOdds_72 rfl
theorem dX13_fallOdds_79 : decode cX13_fallOdds 79 = .ok (.iconst 0, 1) := dz0 dzo3 7 dzbX13_fallOdds_72 rfl
theorem dX13_fallOdds_80 : decode cX13_fallOdds 80 = .ok (.istore 9, 2) := dz1 dzo54 8 9 dzbX13_fallOdds_72 rfl
theorem dX13_fallOdds_82 : decode cX13_fallOdds 82 = .ok (.iload 9, 2) := dz1 dzo21 10 9 dzbX13_fallOdds_72 rfl
theorem dX13_fallOdds_84 : decode cX13_fallOdds 84 = .ok (.iload 4, 2) := dz1 dzo21 12 4 dzbX13_fallOdds_72 rfl
theorem dX13_fallOdds_86 : decode cX13_fallOdds 86 = .ok (.if_icmp .ge 50, 3) := dz4 dzo162 14 0 50 50 rfl dzbX13_fallOdds_72 rfl
theorem dX13_fallOdds_89 : decode cX13_fallOdds 89 = .ok (.lload 5, 2) := dz1 dzo22 17 5 dzbX13_fallOdds_72 rfl
theorem dX13_fallOdds_91 : decode cX13_fallOdds 91 = .ok (.iload 9, 2) := dz1 dzo21 19 9 dzbX13_fallOdds_72 rfl
theorem dX13_fallOdds_93 : decode cX13_fallOdds 93 = .ok (.iload_n 2, 1) := dz0 dzo28 21 dzbX13_fallOdds_72 rfl
theorem dzbX13_fallOdds_94 : dzB cX13_fallOdds 94 [162, 0, 17, 16, 100, 42, 180, 1, 13, 180, 0, 193, 100, 133, 167, 0, 11, 42, 180, 1, 13, 180, 0, 193] := by decide +kernel
theorem dX13_fallOdds_94 : decode cX13_fallOdds 94 = .ok (.if_icmp .ge 17, 3) := dz4 dzo162 0 0 17 17 rfl dzbX13_fallOdds_94 rfl
theorem dX13_fallOdds_97 : decode cX13_fallOdds 97 = .ok (.bipush 100, 2) := dz3 dzo16 3 100 100 rfl dzbX13_fallOdds_94 rfl
theorem dX13_fallOdds_99 : decode cX13_fallOdds 99 = .ok (.aload_n 0, 1) := dz0 dzo42 5 dzbX13_fallOdds_94 rfl
theorem dX13_fallOdds_100 : decode cX13_fallOdds 100 = .ok (.getfield 269, 3) := dz2 dzo180 6 1 13 dzbX13_fallOdds_94 rfl
theorem dX13_fallOdds_103 : decode cX13_fallOdds 103 = .ok (.getfield 193, 3) := dz2 dzo180 9 0 193 dzbX13_fallOdds_94 rfl
theorem dX13_fallOdds_106 : decode cX13_fallOdds 106 = .ok (.isub, 1) := dz0 dzo100 12 dzbX13_fallOdds_94 rfl
theorem dX13_fallOdds_107 : decode cX13_fallOdds 107 = .ok (.i2l, 1) := dz0 dzo133 13 dzbX13_fallOdds_94 rfl
theorem dX13_fallOdds_108 : decode cX13_fallOdds 108 = .ok (.goto 11, 3) := dz4 dzo167 14 0 11 11 rfl dzbX13_fallOdds_94 rfl
theorem dX13_fallOdds_111 : decode cX13_fallOdds 111 = .ok (.aload_n 0, 1) := dz0 dzo42 17 dzbX13_fallOdds_94 rfl
theorem dX13_fallOdds_112 : decode cX13_fallOdds 112 = .ok (.getfield 269, 3) := dz2 dzo180 18 1 13 dzbX13_fallOdds_94 rfl
theorem dX13_fallOdds_115 : decode cX13_fallOdds 115 = .ok (.getfield 193, 3) := dz2 dzo180 21 0 193 dzbX13_fallOdds_94 rfl
theorem dzbX13_fallOdds_118 : dzB cX13_fallOdds 118 [133, 105, 55, 5, 22, 7, 20, 1, 164, 105, 55, 7, 132, 9, 1, 167, 255, 205, 10, 55, 9, 3, 54, 11] := by decide +kernel
theorem dX13_fallOdds_118 : decode cX13_fallOdds 118 = .ok (.i2l, 1) := dz0 dzo133 0 dzbX13_fallOdds_118 rfl
theorem dX13_fallOdds_119 : decode cX13_fallOdds 119 = .ok (.lmul, 1) := dz0 dzo105 1 dzbX13_fallOdds_118 rfl
theorem dX13_fallOdds_120 : decode cX13_fallOdds 120 = .ok (.lstore 5, 2) := dz1 dzo55 2 5 dzbX13_fallOdds_118 rfl
theorem dX13_fallOdds_122 : decode cX13_fallOdds 122 = .ok (.lload 7, 2) := dz1 dzo22 4 7 dzbX13_fallOdds_118 rfl
theorem dX13_fallOdds_124 : decode cX13_fallOdds 124 = .ok (.ldc2_w 420, 3) := dz2 dzo20 6 1 164 dzbX13_fallOdds_118 rfl
theorem dX13_fallOdds_127 : decode cX13_fallOdds 127 = .ok (.lmul, 1) := dz0 dzo105 9 dzbX13_fallOdds_118 rfl
theorem dX13_fallOdds_128 : decode cX13_fallOdds 128 = .ok (.lstore 7, 2) := dz1 dzo55 10 7 dzbX13_fallOdds_118 rfl
theorem dX13_fallOdds_130 : decode cX13_fallOdds 130 = .ok (.iinc 9 1, 3) := dz5 dzo132 12 9 1 1 rfl dzbX13_fallOdds_118 rfl
theorem dX13_fallOdds_133 : decode cX13_fallOdds 133 = .ok (.goto (-51), 3) := dz4 dzo167 15 255 205 (-51) rfl dzbX13_fallOdds_118 rfl
theorem dX13_fallOdds_136 : decode cX13_fallOdds 136 = .ok (.lconst 1, 1) := dz0 dzo10 18 dzbX13_fallOdds_118 rfl
theorem dX13_fallOdds_137 : decode cX13_fallOdds 137 = .ok (.lstore 9, 2) := dz1 dzo55 19 9 dzbX13_fallOdds_118 rfl
theorem dX13_fallOdds_139 : decode cX13_fallOdds 139 = .ok (.iconst 0, 1) := dz0 dzo3 21 dzbX13_fallOdds_118 rfl
theorem dX13_fallOdds_140 : decode cX13_fallOdds 140 = .ok (.istore 11, 2) := dz1 dzo54 22 11 dzbX13_fallOdds_118 rfl
theorem dzbX13_fallOdds_142 : dzB cX13_fallOdds 142 [21, 11, 28, 162, 0, 26, 22, 9, 21, 4, 21, 11, 100, 133, 105, 21, 11, 4, 96, 133, 109, 55, 9] := by decide +kernel
theorem dX13_fallOdds_142 : decode cX13_fallOdds 142 = .ok (.iload 11, 2) := dz1 dzo21 0 11 dzbX13_fallOdds_142 rfl
theorem dX13_fallOdds_144 : decode cX13_fallOdds 144 = .ok (.iload_n 2, 1) := dz0 dzo28 2 dzbX13_fallOdds_142 rfl
theorem dX13_fallOdds_145 : decode cX13_fallOdds 145 = .ok (.if_icmp .ge 26, 3) := dz4 dzo162 3 0 26 26 rfl dzbX13_fallOdds_142 rfl
theorem dX13_fallOdds_148 : decode cX13_fallOdds 148 = .ok (.lload 9, 2) := dz1 dzo22 6 9 dzbX13_fallOdds_142 rfl
theorem dX13_fallOdds_150 : decode cX13_fallOdds 150 = .ok (.iload 4, 2) := dz1 dzo21 8 4 dzbX13_fallOdds_142 rfl
theorem dX13_fallOdds_152 : decode cX13_fallOdds 152 = .ok (.iload 11, 2) := dz1 dzo21 10 11 dzbX13_fallOdds_142 rfl
theorem dX13_fallOdds_154 : decode cX13_fallOdds 154 = .ok (.isub, 1) := dz0 dzo100 12 dzbX13_fallOdds_142 rfl
theorem dX13_fallOdds_155 : decode cX13_fallOdds 155 = .ok (.i2l, 1) := dz0 dzo133 13 dzbX13_fallOdds_142 rfl
theorem dX13_fallOdds_156 : decode cX13_fallOdds 156 = .ok (.lmul, 1) := dz0 dzo105 14 dzbX13_fallOdds_142 rfl
theorem dX13_fallOdds_157 : decode cX13_fallOdds 157 = .ok (.iload 11, 2) := dz1 dzo21 15 11 dzbX13_fallOdds_142 rfl
theorem dX13_fallOdds_159 : decode cX13_fallOdds 159 = .ok (.iconst 1, 1) := dz0 dzo4 17 dzbX13_fallOdds_142 rfl
theorem dX13_fallOdds_160 : decode cX13_fallOdds 160 = .ok (.iadd, 1) := dz0 dzo96 18 dzbX13_fallOdds_142 rfl
theorem dX13_fallOdds_161 : decode cX13_fallOdds 161 = .ok (.i2l, 1) := dz0 dzo133 19 dzbX13_fallOdds_142 rfl
theorem dX13_fallOdds_162 : decode cX13_fallOdds 162 = .ok (.ldiv, 1) := dz0 dzo109 20 dzbX13_fallOdds_142 rfl
theorem dX13_fallOdds_163 : decode cX13_fallOdds 163 = .ok (.lstore 9, 2) := dz1 dzo55 21 9 dzbX13_fallOdds_142 rfl
theorem dzbX13_fallOdds_165 : dzB cX13_fallOdds 165 [132, 11, 1, 167, 255, 230, 42, 22, 9, 22, 5, 105, 22, 7, 29, 182, 1, 139, 173] := by decide +kernel
theorem dX13_fallOdds_165 : decode cX13_fallOdds 165 = .ok (.iinc 11 1, 3) := dz5 dzo132 0 11 1 1 rfl dzbX13_fallOdds_165 rfl
theorem dX13_fallOdds_168 : decode cX13_fallOdds 168 = .ok (.goto (-26), 3) := dz4 dzo167 3 255 230 (-26) rfl dzbX13_fallOdds_165 rfl
theorem dX13_fallOdds_171 : decode cX13_fallOdds 171 = .ok (.aload_n 0, 1) := dz0 dzo42 6 dzbX13_fallOdds_165 rfl
theorem dX13_fallOdds_172 : decode cX13_fallOdds 172 = .ok (.lload 9, 2) := dz1 dzo22 7 9 dzbX13_fallOdds_165 rfl
theorem dX13_fallOdds_174 : decode cX13_fallOdds 174 = .ok (.lload 5, 2) := dz1 dzo22 9 5 dzbX13_fallOdds_165 rfl
theorem dX13_fallOdds_176 : decode cX13_fallOdds 176 = .ok (.lmul, 1) := dz0 dzo105 11 dzbX13_fallOdds_165 rfl
theorem dX13_fallOdds_177 : decode cX13_fallOdds 177 = .ok (.lload 7, 2) := dz1 dzo22 12 7 dzbX13_fallOdds_165 rfl
theorem dX13_fallOdds_179 : decode cX13_fallOdds 179 = .ok (.iload_n 3, 1) := dz0 dzo29 14 dzbX13_fallOdds_165 rfl
theorem dX13_fallOdds_180 : decode cX13_fallOdds 180 = .ok (.invokevirtual 395, 3) := dz2 dzo182 15 1 139 dzbX13_fallOdds_165 rfl
theorem dX13_fallOdds_183 : decode cX13_fallOdds 183 = .ok (.lreturn, 1) := dz0 dzo173 18 dzbX13_fallOdds_165 rfl
theorem dzbX13_falls_0 : dzB cX13_falls 0 [42, 3, 181, 0, 42, 42, 27, 28, 29, 182, 1, 58, 54, 4, 21, 4, 158, 0, 10, 42, 21, 4] := by decide +kernel
theorem dX13_falls_0 : decode cX13_falls 0 = .ok (.aload_n 0, 1) := dz0 dzo42 0 dzbX13_falls_0 rfl
theorem dX13_falls_1 : decode cX13_falls 1 = .ok (.iconst 0, 1) := dz0 dzo3 1 dzbX13_falls_0 rfl
theorem dX13_falls_2 : decode cX13_falls 2 = .ok (.putfield 42, 3) := dz2 dzo181 2 0 42 dzbX13_falls_0 rfl
theorem dX13_falls_5 : decode cX13_falls 5 = .ok (.aload_n 0, 1) := dz0 dzo42 5 dzbX13_falls_0 rfl
theorem dX13_falls_6 : decode cX13_falls 6 = .ok (.iload_n 1, 1) := dz0 dzo27 6 dzbX13_falls_0 rfl
theorem dX13_falls_7 : decode cX13_falls 7 = .ok (.iload_n 2, 1) := dz0 dzo28 7 dzbX13_falls_0 rfl
theorem dX13_falls_8 : decode cX13_falls 8 = .ok (.iload_n 3, 1) := dz0 dzo29 8 dzbX13_falls_0 rfl
theorem dX13_falls_9 : decode cX13_falls 9 = .ok (.invokevirtual 314, 3) := dz2 dzo182 9 1 58 dzbX13_falls_0 rfl
theorem dX13_falls_12 : decode cX13_falls 12 = .ok (.istore 4, 2) := dz1 dzo54 12 4 dzbX13_falls_0 rfl
theorem dX13_falls_14 : decode cX13_falls 14 = .ok (.iload 4, 2) := dz1 dzo21 14 4 dzbX13_falls_0 rfl
theorem dX13_falls_16 : decode cX13_falls 16 = .ok (.ifCond .le 10, 3) := dz4 dzo158 16 0 10 10 rfl dzbX13_falls_0 rfl
theorem dX13_falls_19 : decode cX13_falls 19 = .ok (.aload_n 0, 1) := dz0 dzo42 19 dzbX13_falls_0 rfl
theorem dX13_falls_20 : decode cX13_falls 20 = .ok (.iload 4, 2) := dz1 dzo21 20 4 dzbX13_falls_0 rfl
theorem dzbX13_falls_22 : dzB cX13_falls 22 [182, 0, 48, 172, 42, 182, 1, 61, 42, 42, 180, 1, 13, 180, 0, 238, 27, 46, 28, 29, 182, 1, 33] := by decide +kernel
theorem dX13_falls_22 : decode cX13_falls 22 = .ok (.invokevirtual 48, 3) := dz2 dzo182 0 0 48 dzbX13_falls_22 rfl
theorem dX13_falls_25 : decode cX13_falls 25 = .ok (.ireturn, 1) := dz0 dzo172 3 dzbX13_falls_22 rfl
theorem dX13_falls_26 : decode cX13_falls 26 = .ok (.aload_n 0, 1) := dz0 dzo42 4 dzbX13_falls_22 rfl
theorem dX13_falls_27 : decode cX13_falls 27 = .ok (.invokevirtual 317, 3) := dz2 dzo182 5 1 61 dzbX13_falls_22 rfl
theorem dX13_falls_30 : decode cX13_falls 30 = .ok (.aload_n 0, 1) := dz0 dzo42 8 dzbX13_falls_22 rfl
theorem dX13_falls_31 : decode cX13_falls 31 = .ok (.aload_n 0, 1) := dz0 dzo42 9 dzbX13_falls_22 rfl
theorem dX13_falls_32 : decode cX13_falls 32 = .ok (.getfield 269, 3) := dz2 dzo180 10 1 13 dzbX13_falls_22 rfl
theorem dX13_falls_35 : decode cX13_falls 35 = .ok (.getfield 238, 3) := dz2 dzo180 13 0 238 dzbX13_falls_22 rfl
theorem dX13_falls_38 : decode cX13_falls 38 = .ok (.iload_n 1, 1) := dz0 dzo27 16 dzbX13_falls_22 rfl
theorem dX13_falls_39 : decode cX13_falls 39 = .ok (.iaload, 1) := dz0 dzo46 17 dzbX13_falls_22 rfl
theorem dX13_falls_40 : decode cX13_falls 40 = .ok (.iload_n 2, 1) := dz0 dzo28 18 dzbX13_falls_22 rfl
theorem dX13_falls_41 : decode cX13_falls 41 = .ok (.iload_n 3, 1) := dz0 dzo29 19 dzbX13_falls_22 rfl
theorem dX13_falls_42 : decode cX13_falls 42 = .ok (.invokevirtual 289, 3) := dz2 dzo182 20 1 33 dzbX13_falls_22 rfl
theorem dzbX13_falls_45 : dzB cX13_falls 45 [16, 254, 160, 0, 10, 42, 16, 254, 182, 0, 52, 172, 42, 42, 42, 180, 1, 13, 180, 0, 238, 27, 46, 28] := by decide +kernel
theorem dX13_falls_45 : decode cX13_falls 45 = .ok (.bipush (-2), 2) := dz3 dzo16 0 254 (-2) rfl dzbX13_falls_45 rfl
theorem dX13_falls_47 : decode cX13_falls 47 = .ok (.if_icmp .ne 10, 3) := dz4 dzo160 2 0 10 10 rfl dzbX13_falls_45 rfl
theorem dX13_falls_50 : decode cX13_falls 50 = .ok (.aload_n 0, 1) := dz0 dzo42 5 dzbX13_falls_45 rfl
theorem dX13_falls_51 : decode cX13_falls 51 = .ok (.bipush (-2), 2) := dz3 dzo16 6 254 (-2) rfl dzbX13_falls_45 rfl
theorem dX13_falls_53 : decode cX13_falls 53 = .ok (.invokevirtual 52, 3) := dz2 dzo182 8 0 52 dzbX13_falls_45 rfl
theorem dX13_falls_56 : decode cX13_falls 56 = .ok (.ireturn, 1) := dz0 dzo172 11 dzbX13_falls_45 rfl
theorem dX13_falls_57 : decode cX13_falls 57 = .ok (.aload_n 0, 1) := dz0 dzo42 12 dzbX13_falls_45 rfl
theorem dX13_falls_58 : decode cX13_falls 58 = .ok (.aload_n 0, 1) := dz0 dzo42 13 dzbX13_falls_45 rfl
theorem dX13_falls_59 : decode cX13_falls 59 = .ok (.aload_n 0, 1) := dz0 dzo42 14 dzbX13_falls_45 rfl
theorem dX13_falls_60 : decode cX13_falls 60 = .ok (.getfield 269, 3) := dz2 dzo180 15 1 13 dzbX13_falls_45 rfl
theorem dX13_falls_63 : decode cX13_falls 63 = .ok (.getfield 238, 3) := dz2 dzo180 18 0 238 dzbX13_falls_45 rfl
theorem dX13_falls_66 : decode cX13_falls 66 = .ok (.iload_n 1, 1) := dz0 dzo27 21 dzbX13_falls_45 rfl
theorem dX13_falls_67 : decode cX13_falls 67 = .ok (.iaload, 1) := dz0 dzo46 22 dzbX13_falls_45 rfl
theorem dX13_falls_68 : decode cX13_falls 68 = .ok (.iload_n 2, 1) := dz0 dzo28 23 dzbX13_falls_45 rfl
theorem dzbX13_falls_69 : dzB cX13_falls 69 [29, 182, 1, 30, 153, 0, 7, 4, 167, 0, 4, 3, 182, 0, 52, 172] := by decide +kernel
theorem dX13_falls_69 : decode cX13_falls 69 = .ok (.iload_n 3, 1) := dz0 dzo29 0 dzbX13_falls_69 rfl
theorem dX13_falls_70 : decode cX13_falls 70 = .ok (.invokevirtual 286, 3) := dz2 dzo182 1 1 30 dzbX13_falls_69 rfl
theorem dX13_falls_73 : decode cX13_falls 73 = .ok (.ifCond .eq 7, 3) := dz4 dzo153 4 0 7 7 rfl dzbX13_falls_69 rfl
theorem dX13_falls_76 : decode cX13_falls 76 = .ok (.iconst 1, 1) := dz0 dzo4 7 dzbX13_falls_69 rfl
theorem dX13_falls_77 : decode cX13_falls 77 = .ok (.goto 4, 3) := dz4 dzo167 8 0 4 4 rfl dzbX13_falls_69 rfl
theorem dX13_falls_80 : decode cX13_falls 80 = .ok (.iconst 0, 1) := dz0 dzo3 11 dzbX13_falls_69 rfl
theorem dX13_falls_81 : decode cX13_falls 81 = .ok (.invokevirtual 52, 3) := dz2 dzo182 12 0 52 dzbX13_falls_69 rfl
theorem dX13_falls_84 : decode cX13_falls 84 = .ok (.ireturn, 1) := dz0 dzo172 15 dzbX13_falls_69 rfl
theorem dzbX13_fault_0 : dzB cX13_fault 0 [42, 3, 181, 0, 42, 42, 180, 0, 103, 172] := by decide +kernel
theorem dX13_fault_0 : decode cX13_fault 0 = .ok (.aload_n 0, 1) := dz0 dzo42 0 dzbX13_fault_0 rfl
theorem dX13_fault_1 : decode cX13_fault 1 = .ok (.iconst 0, 1) := dz0 dzo3 1 dzbX13_fault_0 rfl
theorem dX13_fault_2 : decode cX13_fault 2 = .ok (.putfield 42, 3) := dz2 dzo181 2 0 42 dzbX13_fault_0 rfl
theorem dX13_fault_5 : decode cX13_fault 5 = .ok (.aload_n 0, 1) := dz0 dzo42 5 dzbX13_fault_0 rfl
theorem dX13_fault_6 : decode cX13_fault 6 = .ok (.getfield 103, 3) := dz2 dzo180 6 0 103 dzbX13_fault_0 rfl
theorem dX13_fault_9 : decode cX13_fault 9 = .ok (.ireturn, 1) := dz0 dzo172 9 dzbX13_fault_0 rfl
theorem dzbX13_feed_0 : dzB cX13_feed 0 [42, 3, 181, 0, 42, 42, 180, 1, 6, 16, 20, 96, 17, 3, 32, 164, 0, 5, 2, 172, 3, 54, 6] := by decide +kernel
theorem dX13_feed_0 : decode cX13_feed 0 = .ok (.aload_n 0, 1) := dz0 dzo42 0 dzbX13_feed_0 rfl
theorem dX13_feed_1 : decode cX13_feed 1 = .ok (.iconst 0, 1) := dz0 dzo3 1 dzbX13_feed_0 rfl
theorem dX13_feed_2 : decode cX13_feed 2 = .ok (.putfield 42, 3) := dz2 dzo181 2 0 42 dzbX13_feed_0 rfl
theorem dX13_feed_5 : decode cX13_feed 5 = .ok (.aload_n 0, 1) := dz0 dzo42 5 dzbX13_feed_0 rfl
theorem dX13_feed_6 : decode cX13_feed 6 = .ok (.getfield 262, 3) := dz2 dzo180 6 1 6 dzbX13_feed_0 rfl
theorem dX13_feed_9 : decode cX13_feed 9 = .ok (.bipush 20, 2) := dz3 dzo16 9 20 20 rfl dzbX13_feed_0 rfl
theorem dX13_feed_11 : decode cX13_feed 11 = .ok (.iadd, 1) := dz0 dzo96 11 dzbX13_feed_0 rfl
theorem dX13_feed_12 : decode cX13_feed 12 = .ok (.sipush 800, 3) := dz4 dzo17 12 3 32 800 rfl dzbX13_feed_0 rfl
theorem dX13_feed_15 : decode cX13_feed 15 = .ok (.if_icmp .le 5, 3) := dz4 dzo164 15 0 5 5 rfl dzbX13_feed_0 rfl
theorem dX13_feed_18 : decode cX13_feed 18 = .ok (.iconst (-1), 1) := dz0 dzo2 18 dzbX13_feed_0 rfl
theorem dX13_feed_19 : decode cX13_feed 19 = .ok (.ireturn, 1) := dz0 dzo172 19 dzbX13_feed_0 rfl
theorem dX13_feed_20 : decode cX13_feed 20 = .ok (.iconst 0, 1) := dz0 dzo3 20 dzbX13_feed_0 rfl
theorem dX13_feed_21 : decode cX13_feed 21 = .ok (.istore 6, 2) := dz1 dzo54 21 6 dzbX13_feed_0 rfl
theorem dzbX13_feed_23 : dzB cX13_feed 23 [21, 6, 16, 20, 162, 0, 90, 21, 6, 7, 162, 0, 7, 27, 167, 0, 39, 21, 6, 16, 8, 162, 0, 7] := by decide +kernel
theorem dX13_feed_23 : decode cX13_feed 23 = .ok (.iload 6, 2) := dz1 dzo21 0 6 dzbX13_feed_23 rfl
theorem dX13_feed_25 : decode cX13_feed 25 = .ok (.bipush 20, 2) := dz3 dzo16 2 20 20 rfl dzbX13_feed_23 rfl
theorem dX13_feed_27 : decode cX13_feed 27 = .ok (.if_icmp .ge 90, 3) := dz4 dzo162 4 0 90 90 rfl dzbX13_feed_23 rfl
theorem dX13_feed_30 : decode cX13_feed 30 = .ok (.iload 6, 2) := dz1 dzo21 7 6 dzbX13_feed_23 rfl
theorem dX13_feed_32 : decode cX13_feed 32 = .ok (.iconst 4, 1) := dz0 dzo7 9 dzbX13_feed_23 rfl
theorem dX13_feed_33 : decode cX13_feed 33 = .ok (.if_icmp .ge 7, 3) := dz4 dzo162 10 0 7 7 rfl dzbX13_feed_23 rfl
theorem dX13_feed_36 : decode cX13_feed 36 = .ok (.iload_n 1, 1) := dz0 dzo27 13 dzbX13_feed_23 rfl
theorem dX13_feed_37 : decode cX13_feed 37 = .ok (.goto 39, 3) := dz4 dzo167 14 0 39 39 rfl dzbX13_feed_23 rfl
theorem dX13_feed_40 : decode cX13_feed 40 = .ok (.iload 6, 2) := dz1 dzo21 17 6 dzbX13_feed_23 rfl
theorem dX13_feed_42 : decode cX13_feed 42 = .ok (.bipush 8, 2) := dz3 dzo16 19 8 8 rfl dzbX13_feed_23 rfl
theorem dX13_feed_44 : decode cX13_feed 44 = .ok (.if_icmp .ge 7, 3) := dz4 dzo162 21 0 7 7 rfl dzbX13_feed_23 rfl
theorem dzbX13_feed_47 : dzB cX13_feed 47 [28, 167, 0, 28, 21, 6, 16, 12, 162, 0, 7, 29, 167, 0, 17, 21, 6, 16, 16, 162, 0, 8, 21, 4] := by decide +kernel
theorem dX13_feed_47 : decode cX13_feed 47 = .ok (.iload_n 2, 1) := dz0 dzo28 0 dzbX13_feed_47 rfl
theorem dX13_feed_48 : decode cX13_feed 48 = .ok (.goto 28, 3) := dz4 dzo167 1 0 28 28 rfl dzbX13_feed_47 rfl
theorem dX13_feed_51 : decode cX13_feed 51 = .ok (.iload 6, 2) := dz1 dzo21 4 6 dzbX13_feed_47 rfl
theorem dX13_feed_53 : decode cX13_feed 53 = .ok (.bipush 12, 2) := dz3 dzo16 6 12 12 rfl dzbX13_feed_47 rfl
theorem dX13_feed_55 : decode cX13_feed 55 = .ok (.if_icmp .ge 7, 3) := dz4 dzo162 8 0 7 7 rfl dzbX13_feed_47 rfl
theorem dX13_feed_58 : decode cX13_feed 58 = .ok (.iload_n 3, 1) := dz0 dzo29 11 dzbX13_feed_47 rfl
theorem dX13_feed_59 : decode cX13_feed 59 = .ok (.goto 17, 3) := dz4 dzo167 12 0 17 17 rfl dzbX13_feed_47 rfl
theorem dX13_feed_62 : decode cX13_feed 62 = .ok (.iload 6, 2) := dz1 dzo21 15 6 dzbX13_feed_47 rfl
theorem dX13_feed_64 : decode cX13_feed 64 = .ok (.bipush 16, 2) := dz3 dzo16 17 16 16 rfl dzbX13_feed_47 rfl
theorem dX13_feed_66 : decode cX13_feed 66 = .ok (.if_icmp .ge 8, 3) := dz4 dzo162 19 0 8 8 rfl dzbX13_feed_47 rfl
theorem dX13_feed_69 : decode cX13_feed 69 = .ok (.iload 4, 2) := dz1 dzo21 22 4 dzbX13_feed_47 rfl
theorem dzbX13_feed_71 : dzB cX13_feed 71 [167, 0, 5, 21, 5, 54, 7, 42, 180, 0, 13, 42, 180, 1, 6, 21, 7, 16, 24, 16, 8, 21, 6, 7] := by decide +kernel
theorem dX13_feed_71 : decode cX13_feed 71 = .ok (.goto 5, 3) := dz4 dzo167 0 0 5 5 rfl dzbX13_feed_71 rfl
theorem dX13_feed_74 : decode cX13_feed 74 = .ok (.iload 5, 2) := dz1 dzo21 3 5 dzbX13_feed_71 rfl
theorem dX13_feed_76 : decode cX13_feed 76 = .ok (.istore 7, 2) := dz1 dzo54 5 7 dzbX13_feed_71 rfl
theorem dX13_feed_78 : decode cX13_feed 78 = .ok (.aload_n 0, 1) := dz0 dzo42 7 dzbX13_feed_71 rfl
theorem dX13_feed_79 : decode cX13_feed 79 = .ok (.getfield 13, 3) := dz2 dzo180 8 0 13 dzbX13_feed_71 rfl
theorem dX13_feed_82 : decode cX13_feed 82 = .ok (.aload_n 0, 1) := dz0 dzo42 11 dzbX13_feed_71 rfl
theorem dX13_feed_83 : decode cX13_feed 83 = .ok (.getfield 262, 3) := dz2 dzo180 12 1 6 dzbX13_feed_71 rfl
theorem dX13_feed_86 : decode cX13_feed 86 = .ok (.iload 7, 2) := dz1 dzo21 15 7 dzbX13_feed_71 rfl
theorem dX13_feed_88 : decode cX13_feed 88 = .ok (.bipush 24, 2) := dz3 dzo16 17 24 24 rfl dzbX13_feed_71 rfl
theorem dX13_feed_90 : decode cX13_feed 90 = .ok (.bipush 8, 2) := dz3 dzo16 19 8 8 rfl dzbX13_feed_71 rfl
theorem dX13_feed_92 : decode cX13_feed 92 = .ok (.iload 6, 2) := dz1 dzo21 21 6 dzbX13_feed_71 rfl
theorem dX13_feed_94 : decode cX13_feed 94 = .ok (.iconst 4, 1) := dz0 dzo7 23 dzbX13_feed_71 rfl
theorem dzbX13_feed_95 : dzB cX13_feed 95 [112, 104, 100, 122, 145, 84, 42, 89, 180, 1, 6, 4, 96, 181, 1, 6, 132, 6, 1, 167, 255, 165, 42] := by decide +kernel
theorem dX13_feed_95 : decode cX13_feed 95 = .ok (.irem, 1) := dz0 dzo112 0 dzbX13_feed_95 rfl
theorem dX13_feed_96 : decode cX13_feed 96 = .ok (.imul, 1) := dz0 dzo104 1 dzbX13_feed_95 rfl
theorem dX13_feed_97 : decode cX13_feed 97 = .ok (.isub, 1) := dz0 dzo100 2 dzbX13_feed_95 rfl
theorem dX13_feed_98 : decode cX13_feed 98 = .ok (.ishr, 1) := dz0 dzo122 3 dzbX13_feed_95 rfl
theorem dX13_feed_99 : decode cX13_feed 99 = .ok (.i2b, 1) := dz0 dzo145 4 dzbX13_feed_95 rfl
theorem dX13_feed_100 : decode cX13_feed 100 = .ok (.bastore, 1) := dz0 dzo84 5 dzbX13_feed_95 rfl
theorem dX13_feed_101 : decode cX13_feed 101 = .ok (.aload_n 0, 1) := dz0 dzo42 6 dzbX13_feed_95 rfl
theorem dX13_feed_102 : decode cX13_feed 102 = .ok (.dup, 1) := dz0 dzo89 7 dzbX13_feed_95 rfl
theorem dX13_feed_103 : decode cX13_feed 103 = .ok (.getfield 262, 3) := dz2 dzo180 8 1 6 dzbX13_feed_95 rfl
theorem dX13_feed_106 : decode cX13_feed 106 = .ok (.iconst 1, 1) := dz0 dzo4 11 dzbX13_feed_95 rfl
theorem dX13_feed_107 : decode cX13_feed 107 = .ok (.iadd, 1) := dz0 dzo96 12 dzbX13_feed_95 rfl
theorem dX13_feed_108 : decode cX13_feed 108 = .ok (.putfield 262, 3) := dz2 dzo181 13 1 6 dzbX13_feed_95 rfl
theorem dX13_feed_111 : decode cX13_feed 111 = .ok (.iinc 6 1, 3) := dz5 dzo132 16 6 1 1 rfl dzbX13_feed_95 rfl
theorem dX13_feed_114 : decode cX13_feed 114 = .ok (.goto (-91), 3) := dz4 dzo167 19 255 165 (-91) rfl dzbX13_feed_95 rfl
theorem dX13_feed_117 : decode cX13_feed 117 = .ok (.aload_n 0, 1) := dz0 dzo42 22 dzbX13_feed_95 rfl
theorem dzbX13_feed_118 : dzB cX13_feed 118 [180, 1, 6, 172] := by decide +kernel
theorem dX13_feed_118 : decode cX13_feed 118 = .ok (.getfield 262, 3) := dz2 dzo180 0 1 6 dzbX13_feed_118 rfl
theorem dX13_feed_121 : decode cX13_feed 121 = .ok (.ireturn, 1) := dz0 dzo172 3 dzbX13_feed_118 rfl
theorem dzbX13_fill_0 : dzB cX13_fill 0 [42, 3, 181, 0, 42, 42, 27, 4, 3, 182, 1, 198, 172] := by decide +kernel
theorem dX13_fill_0 : decode cX13_fill 0 = .ok (.aload_n 0, 1) := dz0 dzo42 0 dzbX13_fill_0 rfl
theorem dX13_fill_1 : decode cX13_fill 1 = .ok (.iconst 0, 1) := dz0 dzo3 1 dzbX13_fill_0 rfl
theorem dX13_fill_2 : decode cX13_fill 2 = .ok (.putfield 42, 3) := dz2 dzo181 2 0 42 dzbX13_fill_0 rfl
theorem dX13_fill_5 : decode cX13_fill 5 = .ok (.aload_n 0, 1) := dz0 dzo42 5 dzbX13_fill_0 rfl
theorem dX13_fill_6 : decode cX13_fill 6 = .ok (.iload_n 1, 1) := dz0 dzo27 6 dzbX13_fill_0 rfl
theorem dX13_fill_7 : decode cX13_fill 7 = .ok (.iconst 1, 1) := dz0 dzo4 7 dzbX13_fill_0 rfl
theorem dX13_fill_8 : decode cX13_fill 8 = .ok (.iconst 0, 1) := dz0 dzo3 8 dzbX13_fill_0 rfl
theorem dX13_fill_9 : decode cX13_fill 9 = .ok (.invokevirtual 454, 3) := dz2 dzo182 9 1 198 dzbX13_fill_0 rfl
theorem dX13_fill_12 : decode cX13_fill 12 = .ok (.ireturn, 1) := dz0 dzo172 12 dzbX13_fill_0 rfl
theorem dzbX13_fitAt_0 : dzB cX13_fitAt 0 [42, 3, 181, 0, 42, 42, 180, 1, 13, 198, 0, 7, 27, 156, 0, 9, 42, 4, 182, 0, 48, 172, 42, 27] := by decide +kernel
theorem dX13_fitAt_0 : decode cX13_fitAt 0 = .ok (.aload_n 0, 1) := dz0 dzo42 0 dzbX13_fitAt_0 rfl
theorem dX13_fitAt_1 : decode cX13_fitAt 1 = .ok (.iconst 0, 1) := dz0 dzo3 1 dzbX13_fitAt_0 rfl
theorem dX13_fitAt_2 : decode cX13_fitAt 2 = .ok (.putfield 42, 3) := dz2 dzo181 2 0 42 dzbX13_fitAt_0 rfl
theorem dX13_fitAt_5 : decode cX13_fitAt 5 = .ok (.aload_n 0, 1) := dz0 dzo42 5 dzbX13_fitAt_0 rfl
theorem dX13_fitAt_6 : decode cX13_fitAt 6 = .ok (.getfield 269, 3) := dz2 dzo180 6 1 13 dzbX13_fitAt_0 rfl
theorem dX13_fitAt_9 : decode cX13_fitAt 9 = .ok (.ifnull 7, 3) := dz4 dzo198 9 0 7 7 rfl dzbX13_fitAt_0 rfl
theorem dX13_fitAt_12 : decode cX13_fitAt 12 = .ok (.iload_n 1, 1) := dz0 dzo27 12 dzbX13_fitAt_0 rfl
theorem dX13_fitAt_13 : decode cX13_fitAt 13 = .ok (.ifCond .ge 9, 3) := dz4 dzo156 13 0 9 9 rfl dzbX13_fitAt_0 rfl
theorem dX13_fitAt_16 : decode cX13_fitAt 16 = .ok (.aload_n 0, 1) := dz0 dzo42 16 dzbX13_fitAt_0 rfl
theorem dX13_fitAt_17 : decode cX13_fitAt 17 = .ok (.iconst 1, 1) := dz0 dzo4 17 dzbX13_fitAt_0 rfl
theorem dX13_fitAt_18 : decode cX13_fitAt 18 = .ok (.invokevirtual 48, 3) := dz2 dzo182 18 0 48 dzbX13_fitAt_0 rfl
theorem dX13_fitAt_21 : decode cX13_fitAt 21 = .ok (.ireturn, 1) := dz0 dzo172 21 dzbX13_fitAt_0 rfl
theorem dX13_fitAt_22 : decode cX13_fitAt 22 = .ok (.aload_n 0, 1) := dz0 dzo42 22 dzbX13_fitAt_0 rfl
theorem dX13_fitAt_23 : decode cX13_fitAt 23 = .ok (.iload_n 1, 1) := dz0 dzo27 23 dzbX13_fitAt_0 rfl
theorem dzbX13_fitAt_24 : dzB cX13_fitAt 24 [182, 1, 136, 61, 28, 2, 160, 0, 11, 42, 4, 182, 0, 48, 167, 0, 8, 42, 28, 182, 0, 52, 172] := by decide +kernel
theorem dX13_fitAt_24 : decode cX13_fitAt 24 = .ok (.invokevirtual 392, 3) := dz2 dzo182 0 1 136 dzbX13_fitAt_24 rfl
theorem dX13_fitAt_27 : decode cX13_fitAt 27 = .ok (.istore_n 2, 1) := dz0 dzo61 3 dzbX13_fitAt_24 rfl
theorem dX13_fitAt_28 : decode cX13_fitAt 28 = .ok (.iload_n 2, 1) := dz0 dzo28 4 dzbX13_fitAt_24 rfl
theorem dX13_fitAt_29 : decode cX13_fitAt 29 = .ok (.iconst (-1), 1) := dz0 dzo2 5 dzbX13_fitAt_24 rfl
theorem dX13_fitAt_30 : decode cX13_fitAt 30 = .ok (.if_icmp .ne 11, 3) := dz4 dzo160 6 0 11 11 rfl dzbX13_fitAt_24 rfl
theorem dX13_fitAt_33 : decode cX13_fitAt 33 = .ok (.aload_n 0, 1) := dz0 dzo42 9 dzbX13_fitAt_24 rfl
theorem dX13_fitAt_34 : decode cX13_fitAt 34 = .ok (.iconst 1, 1) := dz0 dzo4 10 dzbX13_fitAt_24 rfl
theorem dX13_fitAt_35 : decode cX13_fitAt 35 = .ok (.invokevirtual 48, 3) := dz2 dzo182 11 0 48 dzbX13_fitAt_24 rfl
theorem dX13_fitAt_38 : decode cX13_fitAt 38 = .ok (.goto 8, 3) := dz4 dzo167 14 0 8 8 rfl dzbX13_fitAt_24 rfl
theorem dX13_fitAt_41 : decode cX13_fitAt 41 = .ok (.aload_n 0, 1) := dz0 dzo42 17 dzbX13_fitAt_24 rfl
theorem dX13_fitAt_42 : decode cX13_fitAt 42 = .ok (.iload_n 2, 1) := dz0 dzo28 18 dzbX13_fitAt_24 rfl
theorem dX13_fitAt_43 : decode cX13_fitAt 43 = .ok (.invokevirtual 52, 3) := dz2 dzo182 19 0 52 dzbX13_fitAt_24 rfl
theorem dX13_fitAt_46 : decode cX13_fitAt 46 = .ok (.ireturn, 1) := dz0 dzo172 22 dzbX13_fitAt_24 rfl
theorem dzbX13_fits_0 : dzB cX13_fits 0 [42, 3, 181, 0, 42, 42, 180, 1, 13, 199, 0, 9, 42, 4, 182, 0, 48, 172, 42, 2, 182, 1, 136, 87] := by decide +kernel
theorem dX13_fits_0 : decode cX13_fits 0 = .ok (.aload_n 0, 1) := dz0 dzo42 0 dzbX13_fits_0 rfl
theorem dX13_fits_1 : decode cX13_fits 1 = .ok (.iconst 0, 1) := dz0 dzo3 1 dzbX13_fits_0 rfl
theorem dX13_fits_2 : decode cX13_fits 2 = .ok (.putfield 42, 3) := dz2 dzo181 2 0 42 dzbX13_fits_0 rfl
theorem dX13_fits_5 : decode cX13_fits 5 = .ok (.aload_n 0, 1) := dz0 dzo42 5 dzbX13_fits_0 rfl
theorem dX13_fits_6 : decode cX13_fits 6 = .ok (.getfield 269, 3) := dz2 dzo180 6 1 13 dzbX13_fits_0 rfl
theorem dX13_fits_9 : decode cX13_fits 9 = .ok (.ifnonnull 9, 3) := dz4 dzo199 9 0 9 9 rfl dzbX13_fits_0 rfl
theorem dX13_fits_12 : decode cX13_fits 12 = .ok (.aload_n 0, 1) := dz0 dzo42 12 dzbX13_fits_0 rfl
theorem dX13_fits_13 : decode cX13_fits 13 = .ok (.iconst 1, 1) := dz0 dzo4 13 dzbX13_fits_0 rfl
theorem dX13_fits_14 : decode cX13_fits 14 = .ok (.invokevirtual 48, 3) := dz2 dzo182 14 0 48 dzbX13_fits_0 rfl
theorem dX13_fits_17 : decode cX13_fits 17 = .ok (.ireturn, 1) := dz0 dzo172 17 dzbX13_fits_0 rfl
theorem dX13_fits_18 : decode cX13_fits 18 = .ok (.aload_n 0, 1) := dz0 dzo42 18 dzbX13_fits_0 rfl
theorem dX13_fits_19 : decode cX13_fits 19 = .ok (.iconst (-1), 1) := dz0 dzo2 19 dzbX13_fits_0 rfl
theorem dX13_fits_20 : decode cX13_fits 20 = .ok (.invokevirtual 392, 3) := dz2 dzo182 20 1 136 dzbX13_fits_0 rfl
theorem dX13_fits_23 : decode cX13_fits 23 = .ok (.pop, 1) := dz0 dzo87 23 dzbX13_fits_0 rfl
theorem dzbX13_fits_24 : dzB cX13_fits 24 [42, 42, 180, 1, 126, 182, 0, 52, 172] := by decide +kernel
theorem dX13_fits_24 : decode cX13_fits 24 = .ok (.aload_n 0, 1) := dz0 dzo42 0 dzbX13_fits_24 rfl
theorem dX13_fits_25 : decode cX13_fits 25 = .ok (.aload_n 0, 1) := dz0 dzo42 1 dzbX13_fits_24 rfl
theorem dX13_fits_26 : decode cX13_fits 26 = .ok (.getfield 382, 3) := dz2 dzo180 2 1 126 dzbX13_fits_24 rfl
theorem dX13_fits_29 : decode cX13_fits 29 = .ok (.invokevirtual 52, 3) := dz2 dzo182 5 0 52 dzbX13_fits_24 rfl
theorem dX13_fits_32 : decode cX13_fits 32 = .ok (.ireturn, 1) := dz0 dzo172 8 dzbX13_fits_24 rfl
theorem dzbX13_fitting_0 : dzB cX13_fitting 0 [42, 3, 181, 1, 126, 2, 61, 3, 62, 29, 8, 162, 0, 16, 42, 180, 0, 39, 29, 3, 79, 132, 3, 1] := by decide +kernel
theorem dX13_fitting_0 : decode cX13_fitting 0 = .ok (.aload_n 0, 1) := dz0 dzo42 0 dzbX13_fitting_0 rfl
theorem dX13_fitting_1 : decode cX13_fitting 1 = .ok (.iconst 0, 1) := dz0 dzo3 1 dzbX13_fitting_0 rfl
theorem dX13_fitting_2 : decode cX13_fitting 2 = .ok (.putfield 382, 3) := dz2 dzo181 2 1 126 dzbX13_fitting_0 rfl
theorem dX13_fitting_5 : decode cX13_fitting 5 = .ok (.iconst (-1), 1) := dz0 dzo2 5 dzbX13_fitting_0 rfl
theorem dX13_fitting_6 : decode cX13_fitting 6 = .ok (.istore_n 2, 1) := dz0 dzo61 6 dzbX13_fitting_0 rfl
theorem dX13_fitting_7 : decode cX13_fitting 7 = .ok (.iconst 0, 1) := dz0 dzo3 7 dzbX13_fitting_0 rfl
theorem dX13_fitting_8 : decode cX13_fitting 8 = .ok (.istore_n 3, 1) := dz0 dzo62 8 dzbX13_fitting_0 rfl
theorem dX13_fitting_9 : decode cX13_fitting 9 = .ok (.iload_n 3, 1) := dz0 dzo29 9 dzbX13_fitting_0 rfl
theorem dX13_fitting_10 : decode cX13_fitting 10 = .ok (.iconst 5, 1) := dz0 dzo8 10 dzbX13_fitting_0 rfl
theorem dX13_fitting_11 : decode cX13_fitting 11 = .ok (.if_icmp .ge 16, 3) := dz4 dzo162 11 0 16 16 rfl dzbX13_fitting_0 rfl
theorem dX13_fitting_14 : decode cX13_fitting 14 = .ok (.aload_n 0, 1) := dz0 dzo42 14 dzbX13_fitting_0 rfl
theorem dX13_fitting_15 : decode cX13_fitting 15 = .ok (.getfield 39, 3) := dz2 dzo180 15 0 39 dzbX13_fitting_0 rfl
theorem dX13_fitting_18 : decode cX13_fitting 18 = .ok (.iload_n 3, 1) := dz0 dzo29 18 dzbX13_fitting_0 rfl
theorem dX13_fitting_19 : decode cX13_fitting 19 = .ok (.iconst 0, 1) := dz0 dzo3 19 dzbX13_fitting_0 rfl
theorem dX13_fitting_20 : decode cX13_fitting 20 = .ok (.iastore, 1) := dz0 dzo79 20 dzbX13_fitting_0 rfl
theorem dX13_fitting_21 : decode cX13_fitting 21 = .ok (.iinc 3 1, 3) := dz5 dzo132 21 3 1 1 rfl dzbX13_fitting_0 rfl
theorem dzbX13_fitting_24 : dzB cX13_fitting 24 [167, 255, 241, 3, 62, 29, 42, 182, 1, 129, 162, 0, 87, 42, 29, 182, 1, 132, 9, 148, 154, 0, 6] := by decide +kernel
theorem dX13_fitting_24 : decode cX13_fitting 24 = .ok (.goto (-15), 3) := dz4 dzo167 0 255 241 (-15) rfl dzbX13_fitting_24 rfl
theorem dX13_fitting_27 : decode cX13_fitting 27 = .ok (.iconst 0, 1) := dz0 dzo3 3 dzbX13_fitting_24 rfl
theorem dX13_fitting_28 : decode cX13_fitting 28 = .ok (.istore_n 3, 1) := dz0 dzo62 4 dzbX13_fitting_24 rfl
theorem dX13_fitting_29 : decode cX13_fitting 29 = .ok (.iload_n 3, 1) := dz0 dzo29 5 dzbX13_fitting_24 rfl
theorem dX13_fitting_30 : decode cX13_fitting 30 = .ok (.aload_n 0, 1) := dz0 dzo42 6 dzbX13_fitting_24 rfl
theorem dX13_fitting_31 : decode cX13_fitting 31 = .ok (.invokevirtual 385, 3) := dz2 dzo182 7 1 129 dzbX13_fitting_24 rfl
theorem dX13_fitting_34 : decode cX13_fitting 34 = .ok (.if_icmp .ge 87, 3) := dz4 dzo162 10 0 87 87 rfl dzbX13_fitting_24 rfl
theorem dX13_fitting_37 : decode cX13_fitting 37 = .ok (.aload_n 0, 1) := dz0 dzo42 13 dzbX13_fitting_24 rfl
theorem dX13_fitting_38 : decode cX13_fitting 38 = .ok (.iload_n 3, 1) := dz0 dzo29 14 dzbX13_fitting_24 rfl
theorem dX13_fitting_39 : decode cX13_fitting 39 = .ok (.invokevirtual 388, 3) := dz2 dzo182 15 1 132 dzbX13_fitting_24 rfl
theorem dX13_fitting_42 : decode cX13_fitting 42 = .ok (.lconst 0, 1) := dz0 dzo9 18 dzbX13_fitting_24 rfl
theorem dX13_fitting_43 : decode cX13_fitting 43 = .ok (.lcmp, 1) := dz0 dzo148 19 dzbX13_fitting_24 rfl
theorem dX13_fitting_44 : decode cX13_fitting 44 = .ok (.ifCond .ne 6, 3) := dz4 dzo154 20 0 6 6 rfl dzbX13_fitting_24 rfl
theorem dzbX13_fitting_47 : dzB cX13_fitting 47 [167, 0, 68, 42, 180, 1, 126, 27, 160, 0, 5, 29, 61, 42, 89, 180, 1, 126, 4, 96, 181, 1, 126, 3] := by decide +kernel
theorem dX13_fitting_47 : decode cX13_fitting 47 = .ok (.goto 68, 3) := dz4 dzo167 0 0 68 68 rfl dzbX13_fitting_47 rfl
theorem dX13_fitting_50 : decode cX13_fitting 50 = .ok (.aload_n 0, 1) := dz0 dzo42 3 dzbX13_fitting_47 rfl
theorem dX13_fitting_51 : decode cX13_fitting 51 = .ok (.getfield 382, 3) := dz2 dzo180 4 1 126 dzbX13_fitting_47 rfl
theorem dX13_fitting_54 : decode cX13_fitting 54 = .ok (.iload_n 1, 1) := dz0 dzo27 7 dzbX13_fitting_47 rfl
theorem dX13_fitting_55 : decode cX13_fitting 55 = .ok (.if_icmp .ne 5, 3) := dz4 dzo160 8 0 5 5 rfl dzbX13_fitting_47 rfl
theorem dX13_fitting_58 : decode cX13_fitting 58 = .ok (.iload_n 3, 1) := dz0 dzo29 11 dzbX13_fitting_47 rfl
theorem dX13_fitting_59 : decode cX13_fitting 59 = .ok (.istore_n 2, 1) := dz0 dzo61 12 dzbX13_fitting_47 rfl
theorem dX13_fitting_60 : decode cX13_fitting 60 = .ok (.aload_n 0, 1) := dz0 dzo42 13 dzbX13_fitting_47 rfl
theorem dX13_fitting_61 : decode cX13_fitting 61 = .ok (.dup, 1) := dz0 dzo89 14 dzbX13_fitting_47 rfl
theorem dX13_fitting_62 : decode cX13_fitting 62 = .ok (.getfield 382, 3) := dz2 dzo180 15 1 126 dzbX13_fitting_47 rfl
theorem dX13_fitting_65 : decode cX13_fitting 65 = .ok (.iconst 1, 1) := dz0 dzo4 18 dzbX13_fitting_47 rfl
theorem dX13_fitting_66 : decode cX13_fitting 66 = .ok (.iadd, 1) := dz0 dzo96 19 dzbX13_fitting_47 rfl
theorem dX13_fitting_67 : decode cX13_fitting 67 = .ok (.putfield 382, 3) := dz2 dzo181 20 1 126 dzbX13_fitting_47 rfl
theorem dX13_fitting_70 : decode cX13_fitting 70 = .ok (.iconst 0, 1) := dz0 dzo3 23 dzbX13_fitting_47 rfl
theorem dzbX13_fitting_71 : dzB cX13_fitting 71 [54, 4, 21, 4, 42, 180, 1, 13, 180, 0, 195, 162, 0, 33, 42, 180, 0, 39, 21, 4, 92, 46, 29] := by decide +kernel
theorem dX13_fitting_71 : decode cX13_fitting 71 = .ok (.istore 4, 2) := dz1 dzo54 0 4 dzbX13_fitting_71 rfl
theorem dX13_fitting_73 : decode cX13_fitting 73 = .ok (.iload 4, 2) := dz1 dzo21 2 4 dzbX13_fitting_71 rfl
theorem dX13_fitting_75 : decode cX13_fitting 75 = .ok (.aload_n 0, 1) := dz0 dzo42 4 dzbX13_fitting_71 rfl
theorem dX13_fitting_76 : decode cX13_fitting 76 = .ok (.getfield 269, 3) := dz2 dzo180 5 1 13 dzbX13_fitting_71 rfl
theorem dX13_fitting_79 : decode cX13_fitting 79 = .ok (.getfield 195, 3) := dz2 dzo180 8 0 195 dzbX13_fitting_71 rfl
theorem dX13_fitting_82 : decode cX13_fitting 82 = .ok (.if_icmp .ge 33, 3) := dz4 dzo162 11 0 33 33 rfl dzbX13_fitting_71 rfl
theorem dX13_fitting_85 : decode cX13_fitting 85 = .ok (.aload_n 0, 1) := dz0 dzo42 14 dzbX13_fitting_71 rfl
theorem dX13_fitting_86 : decode cX13_fitting 86 = .ok (.getfield 39, 3) := dz2 dzo180 15 0 39 dzbX13_fitting_71 rfl
theorem dX13_fitting_89 : decode cX13_fitting 89 = .ok (.iload 4, 2) := dz1 dzo21 18 4 dzbX13_fitting_71 rfl
theorem dX13_fitting_91 : decode cX13_fitting 91 = .ok (.dup2, 1) := dz0 dzo92 20 dzbX13_fitting_71 rfl
theorem dX13_fitting_92 : decode cX13_fitting 92 = .ok (.iaload, 1) := dz0 dzo46 21 dzbX13_fitting_71 rfl
theorem dX13_fitting_93 : decode cX13_fitting 93 = .ok (.iload_n 3, 1) := dz0 dzo29 22 dzbX13_fitting_71 rfl
theorem dzbX13_fitting_94 : dzB cX13_fitting 94 [21, 4, 184, 1, 89, 153, 0, 7, 4, 167, 0, 4, 3, 96, 79, 132, 4, 1, 167, 255, 217, 132, 3, 1] := by decide +kernel
theorem dX13_fitting_94 : decode cX13_fitting 94 = .ok (.iload 4, 2) := dz1 dzo21 0 4 dzbX13_fitting_94 rfl
theorem dX13_fitting_96 : decode cX13_fitting 96 = .ok (.invokestatic 345, 3) := dz2 dzo184 2 1 89 dzbX13_fitting_94 rfl
theorem dX13_fitting_99 : decode cX13_fitting 99 = .ok (.ifCond .eq 7, 3) := dz4 dzo153 5 0 7 7 rfl dzbX13_fitting_94 rfl
theorem dX13_fitting_102 : decode cX13_fitting 102 = .ok (.iconst 1, 1) := dz0 dzo4 8 dzbX13_fitting_94 rfl
theorem dX13_fitting_103 : decode cX13_fitting 103 = .ok (.goto 4, 3) := dz4 dzo167 9 0 4 4 rfl dzbX13_fitting_94 rfl
theorem dX13_fitting_106 : decode cX13_fitting 106 = .ok (.iconst 0, 1) := dz0 dzo3 12 dzbX13_fitting_94 rfl
theorem dX13_fitting_107 : decode cX13_fitting 107 = .ok (.iadd, 1) := dz0 dzo96 13 dzbX13_fitting_94 rfl
theorem dX13_fitting_108 : decode cX13_fitting 108 = .ok (.iastore, 1) := dz0 dzo79 14 dzbX13_fitting_94 rfl
theorem dX13_fitting_109 : decode cX13_fitting 109 = .ok (.iinc 4 1, 3) := dz5 dzo132 15 4 1 1 rfl dzbX13_fitting_94 rfl
theorem dX13_fitting_112 : decode cX13_fitting 112 = .ok (.goto (-39), 3) := dz4 dzo167 18 255 217 (-39) rfl dzbX13_fitting_94 rfl
theorem dX13_fitting_115 : decode cX13_fitting 115 = .ok (.iinc 3 1, 3) := dz5 dzo132 21 3 1 1 rfl dzbX13_fitting_94 rfl
theorem dzbX13_fitting_118 : dzB cX13_fitting 118 [167, 255, 167, 28, 172] := by decide +kernel
theorem dX13_fitting_118 : decode cX13_fitting 118 = .ok (.goto (-89), 3) := dz4 dzo167 0 255 167 (-89) rfl dzbX13_fitting_118 rfl
theorem dX13_fitting_121 : decode cX13_fitting 121 = .ok (.iload_n 2, 1) := dz0 dzo28 3 dzbX13_fitting_118 rfl
theorem dX13_fitting_122 : decode cX13_fitting 122 = .ok (.ireturn, 1) := dz0 dzo172 4 dzbX13_fitting_118 rfl
theorem dzbX13_flaw_0 : dzB cX13_flaw 0 [42, 180, 0, 74, 8, 160, 0, 4, 177, 42, 27, 181, 0, 103, 42, 42, 180, 0, 83, 181, 0, 106, 42, 8] := by decide +kernel
theorem dX13_flaw_0 : decode cX13_flaw 0 = .ok (.aload_n 0, 1) := dz0 dzo42 0 dzbX13_flaw_0 rfl
theorem dX13_flaw_1 : decode cX13_flaw 1 = .ok (.getfield 74, 3) := dz2 dzo180 1 0 74 dzbX13_flaw_0 rfl
theorem dX13_flaw_4 : decode cX13_flaw 4 = .ok (.iconst 5, 1) := dz0 dzo8 4 dzbX13_flaw_0 rfl
theorem dX13_flaw_5 : decode cX13_flaw 5 = .ok (.if_icmp .ne 4, 3) := dz4 dzo160 5 0 4 4 rfl dzbX13_flaw_0 rfl
theorem dX13_flaw_8 : decode cX13_flaw 8 = .ok (.return_, 1) := dz0 dzo177 8 dzbX13_flaw_0 rfl
theorem dX13_flaw_9 : decode cX13_flaw 9 = .ok (.aload_n 0, 1) := dz0 dzo42 9 dzbX13_flaw_0 rfl
theorem dX13_flaw_10 : decode cX13_flaw 10 = .ok (.iload_n 1, 1) := dz0 dzo27 10 dzbX13_flaw_0 rfl
theorem dX13_flaw_11 : decode cX13_flaw 11 = .ok (.putfield 103, 3) := dz2 dzo181 11 0 103 dzbX13_flaw_0 rfl
theorem dX13_flaw_14 : decode cX13_flaw 14 = .ok (.aload_n 0, 1) := dz0 dzo42 14 dzbX13_flaw_0 rfl
theorem dX13_flaw_15 : decode cX13_flaw 15 = .ok (.aload_n 0, 1) := dz0 dzo42 15 dzbX13_flaw_0 rfl
theorem dX13_flaw_16 : decode cX13_flaw 16 = .ok (.getfield 83, 3) := dz2 dzo180 16 0 83 dzbX13_flaw_0 rfl
theorem dX13_flaw_19 : decode cX13_flaw 19 = .ok (.putfield 106, 3) := dz2 dzo181 19 0 106 dzbX13_flaw_0 rfl
theorem dX13_flaw_22 : decode cX13_flaw 22 = .ok (.aload_n 0, 1) := dz0 dzo42 22 dzbX13_flaw_0 rfl
theorem dX13_flaw_23 : decode cX13_flaw 23 = .ok (.iconst 5, 1) := dz0 dzo8 23 dzbX13_flaw_0 rfl
theorem dzbX13_flaw_24 : dzB cX13_flaw 24 [181, 0, 74, 177] := by decide +kernel
theorem dX13_flaw_24 : decode cX13_flaw 24 = .ok (.putfield 74, 3) := dz2 dzo181 0 0 74 dzbX13_flaw_24 rfl
theorem dX13_flaw_27 : decode cX13_flaw 27 = .ok (.return_, 1) := dz0 dzo177 3 dzbX13_flaw_24 rfl
theorem dzbX13_fraction_0 : dzB cX13_fraction 0 [42, 3, 182, 0, 52, 87, 33, 9, 148, 154, 0, 14, 21, 5, 153, 0, 7, 10, 167, 0, 4, 9, 173] := by decide +kernel
theorem dX13_fraction_0 : decode cX13_fraction 0 = .ok (.aload_n 0, 1) := dz0 dzo42 0 dzbX13_fraction_0 rfl
theorem dX13_fraction_1 : decode cX13_fraction 1 = .ok (.iconst 0, 1) := dz0 dzo3 1 dzbX13_fraction_0 rfl
theorem dX13_fraction_2 : decode cX13_fraction 2 = .ok (.invokevirtual 52, 3) := dz2 dzo182 2 0 52 dzbX13_fraction_0 rfl
theorem dX13_fraction_5 : decode cX13_fraction 5 = .ok (.pop, 1) := dz0 dzo87 5 dzbX13_fraction_0 rfl
theorem dX13_fraction_6 : decode cX13_fraction 6 = .ok (.lload_n 3, 1) := dz0 dzo33 6 dzbX13_fraction_0 rfl
theorem dX13_fraction_7 : decode cX13_fraction 7 = .ok (.lconst 0, 1) := dz0 dzo9 7 dzbX13_fraction_0 rfl
theorem dX13_fraction_8 : decode cX13_fraction 8 = .ok (.lcmp, 1) := dz0 dzo148 8 dzbX13_fraction_0 rfl
theorem dX13_fraction_9 : decode cX13_fraction 9 = .ok (.ifCond .ne 14, 3) := dz4 dzo154 9 0 14 14 rfl dzbX13_fraction_0 rfl
theorem dX13_fraction_12 : decode cX13_fraction 12 = .ok (.iload 5, 2) := dz1 dzo21 12 5 dzbX13_fraction_0 rfl
theorem dX13_fraction_14 : decode cX13_fraction 14 = .ok (.ifCond .eq 7, 3) := dz4 dzo153 14 0 7 7 rfl dzbX13_fraction_0 rfl
theorem dX13_fraction_17 : decode cX13_fraction 17 = .ok (.lconst 1, 1) := dz0 dzo10 17 dzbX13_fraction_0 rfl
theorem dX13_fraction_18 : decode cX13_fraction 18 = .ok (.goto 4, 3) := dz4 dzo167 18 0 4 4 rfl dzbX13_fraction_0 rfl
theorem dX13_fraction_21 : decode cX13_fraction 21 = .ok (.lconst 0, 1) := dz0 dzo9 21 dzbX13_fraction_0 rfl
theorem dX13_fraction_22 : decode cX13_fraction 22 = .ok (.lreturn, 1) := dz0 dzo173 22 dzbX13_fraction_0 rfl
theorem dzbX13_fraction_23 : dzB cX13_fraction 23 [21, 5, 153, 0, 7, 33, 167, 0, 4, 31, 31, 33, 184, 0, 55, 109, 173] := by decide +kernel
theorem dX13_fraction_23 : decode cX13_fraction 23 = .ok (.iload 5, 2) := dz1 dzo21 0 5 dzbX13_fraction_23 rfl
theorem dX13_fraction_25 : decode cX13_fraction 25 = .ok (.ifCond .eq 7, 3) := dz4 dzo153 2 0 7 7 rfl dzbX13_fraction_23 rfl
theorem dX13_fraction_28 : decode cX13_fraction 28 = .ok (.lload_n 3, 1) := dz0 dzo33 5 dzbX13_fraction_23 rfl
theorem dX13_fraction_29 : decode cX13_fraction 29 = .ok (.goto 4, 3) := dz4 dzo167 6 0 4 4 rfl dzbX13_fraction_23 rfl
theorem dX13_fraction_32 : decode cX13_fraction 32 = .ok (.lload_n 1, 1) := dz0 dzo31 9 dzbX13_fraction_23 rfl
theorem dX13_fraction_33 : decode cX13_fraction 33 = .ok (.lload_n 1, 1) := dz0 dzo31 10 dzbX13_fraction_23 rfl
theorem dX13_fraction_34 : decode cX13_fraction 34 = .ok (.lload_n 3, 1) := dz0 dzo33 11 dzbX13_fraction_23 rfl
theorem dX13_fraction_35 : decode cX13_fraction 35 = .ok (.invokestatic 55, 3) := dz2 dzo184 12 0 55 dzbX13_fraction_23 rfl
theorem dX13_fraction_38 : decode cX13_fraction 38 = .ok (.ldiv, 1) := dz0 dzo109 15 dzbX13_fraction_23 rfl
theorem dX13_fraction_39 : decode cX13_fraction 39 = .ok (.lreturn, 1) := dz0 dzo173 16 dzbX13_fraction_23 rfl
theorem dzbX13_gate_0 : dzB cX13_gate 0 [42, 3, 181, 0, 42, 42, 27, 4, 5, 182, 1, 198, 172] := by decide +kernel
theorem dX13_gate_0 : decode cX13_gate 0 = .ok (.aload_n 0, 1) := dz0 dzo42 0 dzbX13_gate_0 rfl
theorem dX13_gate_1 : decode cX13_gate 1 = .ok (.iconst 0, 1) := dz0 dzo3 1 dzbX13_gate_0 rfl
theorem dX13_gate_2 : decode cX13_gate 2 = .ok (.putfield 42, 3) := dz2 dzo181 2 0 42 dzbX13_gate_0 rfl
theorem dX13_gate_5 : decode cX13_gate 5 = .ok (.aload_n 0, 1) := dz0 dzo42 5 dzbX13_gate_0 rfl
theorem dX13_gate_6 : decode cX13_gate 6 = .ok (.iload_n 1, 1) := dz0 dzo27 6 dzbX13_gate_0 rfl
theorem dX13_gate_7 : decode cX13_gate 7 = .ok (.iconst 1, 1) := dz0 dzo4 7 dzbX13_gate_0 rfl
theorem dX13_gate_8 : decode cX13_gate 8 = .ok (.iconst 2, 1) := dz0 dzo5 8 dzbX13_gate_0 rfl
theorem dX13_gate_9 : decode cX13_gate 9 = .ok (.invokevirtual 454, 3) := dz2 dzo182 9 1 198 dzbX13_gate_0 rfl
theorem dX13_gate_12 : decode cX13_gate 12 = .ok (.ireturn, 1) := dz0 dzo172 12 dzbX13_gate_0 rfl
theorem dzbX13_gates_0 : dzB cX13_gates 0 [42, 3, 181, 0, 42, 42, 180, 1, 13, 199, 0, 9, 42, 4, 182, 0, 48, 172, 42, 42, 2, 42, 4] := by decide +kernel
theorem dX13_gates_0 : decode cX13_gates 0 = .ok (.aload_n 0, 1) := dz0 dzo42 0 dzbX13_gates_0 rfl
theorem dX13_gates_1 : decode cX13_gates 1 = .ok (.iconst 0, 1) := dz0 dzo3 1 dzbX13_gates_0 rfl
theorem dX13_gates_2 : decode cX13_gates 2 = .ok (.putfield 42, 3) := dz2 dzo181 2 0 42 dzbX13_gates_0 rfl
theorem dX13_gates_5 : decode cX13_gates 5 = .ok (.aload_n 0, 1) := dz0 dzo42 5 dzbX13_gates_0 rfl
theorem dX13_gates_6 : decode cX13_gates 6 = .ok (.getfield 269, 3) := dz2 dzo180 6 1 13 dzbX13_gates_0 rfl
theorem dX13_gates_9 : decode cX13_gates 9 = .ok (.ifnonnull 9, 3) := dz4 dzo199 9 0 9 9 rfl dzbX13_gates_0 rfl
theorem dX13_gates_12 : decode cX13_gates 12 = .ok (.aload_n 0, 1) := dz0 dzo42 12 dzbX13_gates_0 rfl
theorem dX13_gates_13 : decode cX13_gates 13 = .ok (.iconst 1, 1) := dz0 dzo4 13 dzbX13_gates_0 rfl
theorem dX13_gates_14 : decode cX13_gates 14 = .ok (.invokevirtual 48, 3) := dz2 dzo182 14 0 48 dzbX13_gates_0 rfl
theorem dX13_gates_17 : decode cX13_gates 17 = .ok (.ireturn, 1) := dz0 dzo172 17 dzbX13_gates_0 rfl
theorem dX13_gates_18 : decode cX13_gates 18 = .ok (.aload_n 0, 1) := dz0 dzo42 18 dzbX13_gates_0 rfl
theorem dX13_gates_19 : decode cX13_gates 19 = .ok (.aload_n 0, 1) := dz0 dzo42 19 dzbX13_gates_0 rfl
theorem dX13_gates_20 : decode cX13_gates 20 = .ok (.iconst (-1), 1) := dz0 dzo2 20 dzbX13_gates_0 rfl
theorem dX13_gates_21 : decode cX13_gates 21 = .ok (.aload_n 0, 1) := dz0 dzo42 21 dzbX13_gates_0 rfl
theorem dX13_gates_22 : decode cX13_gates 22 = .ok (.iconst 1, 1) := dz0 dzo4 22 dzbX13_gates_0 rfl
theorem dzbX13_gates_23 : dzB cX13_gates 23 [182, 1, 64, 182, 1, 102, 182, 0, 52, 172] := by decide +kernel
theorem dX13_gates_23 : decode cX13_gates 23 = .ok (.invokevirtual 320, 3) := dz2 dzo182 0 1 64 dzbX13_gates_23 rfl
theorem dX13_gates_26 : decode cX13_gates 26 = .ok (.invokevirtual 358, 3) := dz2 dzo182 3 1 102 dzbX13_gates_23 rfl
theorem dX13_gates_29 : decode cX13_gates 29 = .ok (.invokevirtual 52, 3) := dz2 dzo182 6 0 52 dzbX13_gates_23 rfl
theorem dX13_gates_32 : decode cX13_gates 32 = .ok (.ireturn, 1) := dz0 dzo172 9 dzbX13_gates_23 rfl
theorem dzbX13_goesOn_0 : dzB cX13_goesOn 0 [42, 180, 0, 74, 8, 160, 0, 4, 177, 42, 42, 180, 0, 77, 182, 0, 80, 16, 32, 160, 0, 16, 42, 89] := by decide +kernel
theorem dX13_goesOn_0 : decode cX13_goesOn 0 = .ok (.aload_n 0, 1) := dz0 dzo42 0 dzbX13_goesOn_0 rfl
theorem dX13_goesOn_1 : decode cX13_goesOn 1 = .ok (.getfield 74, 3) := dz2 dzo180 1 0 74 dzbX13_goesOn_0 rfl
theorem dX13_goesOn_4 : decode cX13_goesOn 4 = .ok (.iconst 5, 1) := dz0 dzo8 4 dzbX13_goesOn_0 rfl
theorem dX13_goesOn_5 : decode cX13_goesOn 5 = .ok (.if_icmp .ne 4, 3) := dz4 dzo160 5 0 4 4 rfl dzbX13_goesOn_0 rfl
theorem dX13_goesOn_8 : decode cX13_goesOn 8 = .ok (.return_, 1) := dz0 dzo177 8 dzbX13_goesOn_0 rfl
theorem dX13_goesOn_9 : decode cX13_goesOn 9 = .ok (.aload_n 0, 1) := dz0 dzo42 9 dzbX13_goesOn_0 rfl
theorem dX13_goesOn_10 : decode cX13_goesOn 10 = .ok (.aload_n 0, 1) := dz0 dzo42 10 dzbX13_goesOn_0 rfl
theorem dX13_goesOn_11 : decode cX13_goesOn 11 = .ok (.getfield 77, 3) := dz2 dzo180 11 0 77 dzbX13_goesOn_0 rfl
theorem dX13_goesOn_14 : decode cX13_goesOn 14 = .ok (.invokevirtual 80, 3) := dz2 dzo182 14 0 80 dzbX13_goesOn_0 rfl
theorem dX13_goesOn_17 : decode cX13_goesOn 17 = .ok (.bipush 32, 2) := dz3 dzo16 17 32 32 rfl dzbX13_goesOn_0 rfl
theorem dX13_goesOn_19 : decode cX13_goesOn 19 = .ok (.if_icmp .ne 16, 3) := dz4 dzo160 19 0 16 16 rfl dzbX13_goesOn_0 rfl
theorem dX13_goesOn_22 : decode cX13_goesOn 22 = .ok (.aload_n 0, 1) := dz0 dzo42 22 dzbX13_goesOn_0 rfl
theorem dX13_goesOn_23 : decode cX13_goesOn 23 = .ok (.dup, 1) := dz0 dzo89 23 dzbX13_goesOn_0 rfl
theorem dzbX13_goesOn_24 : dzB cX13_goesOn 24 [180, 0, 77, 4, 96, 181, 0, 77, 167, 255, 233, 42, 42, 180, 0, 77, 181, 0, 83, 42, 3, 181, 0, 74] := by decide +kernel
theorem dX13_goesOn_24 : decode cX13_goesOn 24 = .ok (.getfield 77, 3) := dz2 dzo180 0 0 77 dzbX13_goesOn_24 rfl
theorem dX13_goesOn_27 : decode cX13_goesOn 27 = .ok (.iconst 1, 1) := dz0 dzo4 3 dzbX13_goesOn_24 rfl
theorem dX13_goesOn_28 : decode cX13_goesOn 28 = .ok (.iadd, 1) := dz0 dzo96 4 dzbX13_goesOn_24 rfl
theorem dX13_goesOn_29 : decode cX13_goesOn 29 = .ok (.putfield 77, 3) := dz2 dzo181 5 0 77 dzbX13_goesOn_24 rfl
theorem dX13_goesOn_32 : decode cX13_goesOn 32 = .ok (.goto (-23), 3) := dz4 dzo167 8 255 233 (-23) rfl dzbX13_goesOn_24 rfl
theorem dX13_goesOn_35 : decode cX13_goesOn 35 = .ok (.aload_n 0, 1) := dz0 dzo42 11 dzbX13_goesOn_24 rfl
theorem dX13_goesOn_36 : decode cX13_goesOn 36 = .ok (.aload_n 0, 1) := dz0 dzo42 12 dzbX13_goesOn_24 rfl
theorem dX13_goesOn_37 : decode cX13_goesOn 37 = .ok (.getfield 77, 3) := dz2 dzo180 13 0 77 dzbX13_goesOn_24 rfl
theorem dX13_goesOn_40 : decode cX13_goesOn 40 = .ok (.putfield 83, 3) := dz2 dzo181 16 0 83 dzbX13_goesOn_24 rfl
theorem dX13_goesOn_43 : decode cX13_goesOn 43 = .ok (.aload_n 0, 1) := dz0 dzo42 19 dzbX13_goesOn_24 rfl
theorem dX13_goesOn_44 : decode cX13_goesOn 44 = .ok (.iconst 0, 1) := dz0 dzo3 20 dzbX13_goesOn_24 rfl
theorem dX13_goesOn_45 : decode cX13_goesOn 45 = .ok (.putfield 74, 3) := dz2 dzo181 21 0 74 dzbX13_goesOn_24 rfl
theorem dzbX13_goesOn_48 : dzB cX13_goesOn 48 [42, 42, 180, 0, 77, 182, 0, 80, 60, 3, 61, 27, 2, 160, 0, 11, 42, 4, 181, 0, 74, 167, 0, 201] := by decide +kernel
theorem dX13_goesOn_48 : decode cX13_goesOn 48 = .ok (.aload_n 0, 1) := dz0 dzo42 0 dzbX13_goesOn_48 rfl
theorem dX13_goesOn_49 : decode cX13_goesOn 49 = .ok (.aload_n 0, 1) := dz0 dzo42 1 dzbX13_goesOn_48 rfl
theorem dX13_goesOn_50 : decode cX13_goesOn 50 = .ok (.getfield 77, 3) := dz2 dzo180 2 0 77 dzbX13_goesOn_48 rfl
theorem dX13_goesOn_53 : decode cX13_goesOn 53 = .ok (.invokevirtual 80, 3) := dz2 dzo182 5 0 80 dzbX13_goesOn_48 rfl
theorem dX13_goesOn_56 : decode cX13_goesOn 56 = .ok (.istore_n 1, 1) := dz0 dzo60 8 dzbX13_goesOn_48 rfl
theorem dX13_goesOn_57 : decode cX13_goesOn 57 = .ok (.iconst 0, 1) := dz0 dzo3 9 dzbX13_goesOn_48 rfl
theorem dX13_goesOn_58 : decode cX13_goesOn 58 = .ok (.istore_n 2, 1) := dz0 dzo61 10 dzbX13_goesOn_48 rfl
theorem dX13_goesOn_59 : decode cX13_goesOn 59 = .ok (.iload_n 1, 1) := dz0 dzo27 11 dzbX13_goesOn_48 rfl
theorem dX13_goesOn_60 : decode cX13_goesOn 60 = .ok (.iconst (-1), 1) := dz0 dzo2 12 dzbX13_goesOn_48 rfl
theorem dX13_goesOn_61 : decode cX13_goesOn 61 = .ok (.if_icmp .ne 11, 3) := dz4 dzo160 13 0 11 11 rfl dzbX13_goesOn_48 rfl
theorem dX13_goesOn_64 : decode cX13_goesOn 64 = .ok (.aload_n 0, 1) := dz0 dzo42 16 dzbX13_goesOn_48 rfl
theorem dX13_goesOn_65 : decode cX13_goesOn 65 = .ok (.iconst 1, 1) := dz0 dzo4 17 dzbX13_goesOn_48 rfl
theorem dX13_goesOn_66 : decode cX13_goesOn 66 = .ok (.putfield 74, 3) := dz2 dzo181 18 0 74 dzbX13_goesOn_48 rfl
theorem dX13_goesOn_69 : decode cX13_goesOn 69 = .ok (.goto 201, 3) := dz4 dzo167 21 0 201 201 rfl dzbX13_goesOn_48 rfl
theorem dzbX13_goesOn_72 : dzB cX13_goesOn 72 [27, 184, 0, 86, 153, 0, 90, 42, 9, 181, 0, 90, 42, 42, 180, 0, 77, 182, 0, 80, 184, 0, 86] := by decide +kernel
theorem dX13_goesOn_72 : decode cX13_goesOn 72 = .ok (.iload_n 1, 1) := dz0 dzo27 0 dzbX13_goesOn_72 rfl
theorem dX13_goesOn_73 : decode cX13_goesOn 73 = .ok (.invokestatic 86, 3) := dz2 dzo184 1 0 86 dzbX13_goesOn_72 rfl
theorem dX13_goesOn_76 : decode cX13_goesOn 76 = .ok (.ifCond .eq 90, 3) := dz4 dzo153 4 0 90 90 rfl dzbX13_goesOn_72 rfl
theorem dX13_goesOn_79 : decode cX13_goesOn 79 = .ok (.aload_n 0, 1) := dz0 dzo42 7 dzbX13_goesOn_72 rfl
theorem dX13_goesOn_80 : decode cX13_goesOn 80 = .ok (.lconst 0, 1) := dz0 dzo9 8 dzbX13_goesOn_72 rfl
theorem dX13_goesOn_81 : decode cX13_goesOn 81 = .ok (.putfield 90, 3) := dz2 dzo181 9 0 90 dzbX13_goesOn_72 rfl
theorem dX13_goesOn_84 : decode cX13_goesOn 84 = .ok (.aload_n 0, 1) := dz0 dzo42 12 dzbX13_goesOn_72 rfl
theorem dX13_goesOn_85 : decode cX13_goesOn 85 = .ok (.aload_n 0, 1) := dz0 dzo42 13 dzbX13_goesOn_72 rfl
theorem dX13_goesOn_86 : decode cX13_goesOn 86 = .ok (.getfield 77, 3) := dz2 dzo180 14 0 77 dzbX13_goesOn_72 rfl
theorem dX13_goesOn_89 : decode cX13_goesOn 89 = .ok (.invokevirtual 80, 3) := dz2 dzo182 17 0 80 dzbX13_goesOn_72 rfl
theorem dX13_goesOn_92 : decode cX13_goesOn 92 = .ok (.invokestatic 86, 3) := dz2 dzo184 20 0 86 dzbX13_goesOn_72 rfl
theorem dzbX13_goesOn_95 : dzB cX13_goesOn 95 [153, 0, 52, 28, 16, 8, 162, 0, 30, 42, 20, 0, 68, 42, 180, 0, 90, 105, 42, 42, 180, 0, 77] := by decide +kernel
theorem dX13_goesOn_95 : decode cX13_goesOn 95 = .ok (.ifCond .eq 52, 3) := dz4 dzo153 0 0 52 52 rfl dzbX13_goesOn_95 rfl
theorem dX13_goesOn_98 : decode cX13_goesOn 98 = .ok (.iload_n 2, 1) := dz0 dzo28 3 dzbX13_goesOn_95 rfl
theorem dX13_goesOn_99 : decode cX13_goesOn 99 = .ok (.bipush 8, 2) := dz3 dzo16 4 8 8 rfl dzbX13_goesOn_95 rfl
theorem dX13_goesOn_101 : decode cX13_goesOn 101 = .ok (.if_icmp .ge 30, 3) := dz4 dzo162 6 0 30 30 rfl dzbX13_goesOn_95 rfl
theorem dX13_goesOn_104 : decode cX13_goesOn 104 = .ok (.aload_n 0, 1) := dz0 dzo42 9 dzbX13_goesOn_95 rfl
theorem dX13_goesOn_105 : decode cX13_goesOn 105 = .ok (.ldc2_w 68, 3) := dz2 dzo20 10 0 68 dzbX13_goesOn_95 rfl
theorem dX13_goesOn_108 : decode cX13_goesOn 108 = .ok (.aload_n 0, 1) := dz0 dzo42 13 dzbX13_goesOn_95 rfl
theorem dX13_goesOn_109 : decode cX13_goesOn 109 = .ok (.getfield 90, 3) := dz2 dzo180 14 0 90 dzbX13_goesOn_95 rfl
theorem dX13_goesOn_112 : decode cX13_goesOn 112 = .ok (.lmul, 1) := dz0 dzo105 17 dzbX13_goesOn_95 rfl
theorem dX13_goesOn_113 : decode cX13_goesOn 113 = .ok (.aload_n 0, 1) := dz0 dzo42 18 dzbX13_goesOn_95 rfl
theorem dX13_goesOn_114 : decode cX13_goesOn 114 = .ok (.aload_n 0, 1) := dz0 dzo42 19 dzbX13_goesOn_95 rfl
theorem dX13_goesOn_115 : decode cX13_goesOn 115 = .ok (.getfield 77, 3) := dz2 dzo180 20 0 77 dzbX13_goesOn_95 rfl
theorem dzbX13_goesOn_118 : dzB cX13_goesOn 118 [182, 0, 80, 16, 97, 100, 4, 96, 133, 97, 181, 0, 90, 132, 2, 1, 42, 89, 180, 0, 77, 4, 96] := by decide +kernel
theorem dX13_goesOn_118 : decode cX13_goesOn 118 = .ok (.invokevirtual 80, 3) := dz2 dzo182 0 0 80 dzbX13_goesOn_118 rfl
theorem dX13_goesOn_121 : decode cX13_goesOn 121 = .ok (.bipush 97, 2) := dz3 dzo16 3 97 97 rfl dzbX13_goesOn_118 rfl
theorem dX13_goesOn_123 : decode cX13_goesOn 123 = .ok (.isub, 1) := dz0 dzo100 5 dzbX13_goesOn_118 rfl
theorem dX13_goesOn_124 : decode cX13_goesOn 124 = .ok (.iconst 1, 1) := dz0 dzo4 6 dzbX13_goesOn_118 rfl
theorem dX13_goesOn_125 : decode cX13_goesOn 125 = .ok (.iadd, 1) := dz0 dzo96 7 dzbX13_goesOn_118 rfl
theorem dX13_goesOn_126 : decode cX13_goesOn 126 = .ok (.i2l, 1) := dz0 dzo133 8 dzbX13_goesOn_118 rfl
theorem dX13_goesOn_127 : decode cX13_goesOn 127 = .ok (.ladd, 1) := dz0 dzo97 9 dzbX13_goesOn_118 rfl
theorem dX13_goesOn_128 : decode cX13_goesOn 128 = .ok (.putfield 90, 3) := dz2 dzo181 10 0 90 dzbX13_goesOn_118 rfl
theorem dX13_goesOn_131 : decode cX13_goesOn 131 = .ok (.iinc 2 1, 3) := dz5 dzo132 13 2 1 1 rfl dzbX13_goesOn_118 rfl
theorem dX13_goesOn_134 : decode cX13_goesOn 134 = .ok (.aload_n 0, 1) := dz0 dzo42 16 dzbX13_goesOn_118 rfl
theorem dX13_goesOn_135 : decode cX13_goesOn 135 = .ok (.dup, 1) := dz0 dzo89 17 dzbX13_goesOn_118 rfl
theorem dX13_goesOn_136 : decode cX13_goesOn 136 = .ok (.getfield 77, 3) := dz2 dzo180 18 0 77 dzbX13_goesOn_118 rfl
theorem dX13_goesOn_139 : decode cX13_goesOn 139 = .ok (.iconst 1, 1) := dz0 dzo4 21 dzbX13_goesOn_118 rfl
theorem dX13_goesOn_140 : decode cX13_goesOn 140 = .ok (.iadd, 1) := dz0 dzo96 22 dzbX13_goesOn_118 rfl
theorem dzbX13_goesOn_141 : dzB cX13_goesOn 141 [181, 0, 77, 167, 255, 196, 42, 28, 181, 0, 94, 28, 16, 8, 163, 0, 115, 42, 5, 181, 0, 74] := by decide +kernel
theorem dX13_goesOn_141 : decode cX13_goesOn 141 = .ok (.putfield 77, 3) := dz2 dzo181 0 0 77 dzbX13_goesOn_141 rfl
theorem dX13_goesOn_144 : decode cX13_goesOn 144 = .ok (.goto (-60), 3) := dz4 dzo167 3 255 196 (-60) rfl dzbX13_goesOn_141 rfl
theorem dX13_goesOn_147 : decode cX13_goesOn 147 = .ok (.aload_n 0, 1) := dz0 dzo42 6 dzbX13_goesOn_141 rfl
theorem dX13_goesOn_148 : decode cX13_goesOn 148 = .ok (.iload_n 2, 1) := dz0 dzo28 7 dzbX13_goesOn_141 rfl
theorem dX13_goesOn_149 : decode cX13_goesOn 149 = .ok (.putfield 94, 3) := dz2 dzo181 8 0 94 dzbX13_goesOn_141 rfl
theorem dX13_goesOn_152 : decode cX13_goesOn 152 = .ok (.iload_n 2, 1) := dz0 dzo28 11 dzbX13_goesOn_141 rfl
theorem dX13_goesOn_153 : decode cX13_goesOn 153 = .ok (.bipush 8, 2) := dz3 dzo16 12 8 8 rfl dzbX13_goesOn_141 rfl
theorem dX13_goesOn_155 : decode cX13_goesOn 155 = .ok (.if_icmp .gt 115, 3) := dz4 dzo163 14 0 115 115 rfl dzbX13_goesOn_141 rfl
theorem dX13_goesOn_158 : decode cX13_goesOn 158 = .ok (.aload_n 0, 1) := dz0 dzo42 17 dzbX13_goesOn_141 rfl
theorem dX13_goesOn_159 : decode cX13_goesOn 159 = .ok (.iconst 2, 1) := dz0 dzo5 18 dzbX13_goesOn_141 rfl
theorem dX13_goesOn_160 : decode cX13_goesOn 160 = .ok (.putfield 74, 3) := dz2 dzo181 19 0 74 dzbX13_goesOn_141 rfl
theorem dzbX13_goesOn_163 : dzB cX13_goesOn 163 [167, 0, 107, 27, 184, 0, 97, 153, 0, 79, 42, 3, 181, 0, 100, 42, 42, 180, 0, 77, 182, 0, 80] := by decide +kernel
theorem dX13_goesOn_163 : decode cX13_goesOn 163 = .ok (.goto 107, 3) := dz4 dzo167 0 0 107 107 rfl dzbX13_goesOn_163 rfl
theorem dX13_goesOn_166 : decode cX13_goesOn 166 = .ok (.iload_n 1, 1) := dz0 dzo27 3 dzbX13_goesOn_163 rfl
theorem dX13_goesOn_167 : decode cX13_goesOn 167 = .ok (.invokestatic 97, 3) := dz2 dzo184 4 0 97 dzbX13_goesOn_163 rfl
theorem dX13_goesOn_170 : decode cX13_goesOn 170 = .ok (.ifCond .eq 79, 3) := dz4 dzo153 7 0 79 79 rfl dzbX13_goesOn_163 rfl
theorem dX13_goesOn_173 : decode cX13_goesOn 173 = .ok (.aload_n 0, 1) := dz0 dzo42 10 dzbX13_goesOn_163 rfl
theorem dX13_goesOn_174 : decode cX13_goesOn 174 = .ok (.iconst 0, 1) := dz0 dzo3 11 dzbX13_goesOn_163 rfl
theorem dX13_goesOn_175 : decode cX13_goesOn 175 = .ok (.putfield 100, 3) := dz2 dzo181 12 0 100 dzbX13_goesOn_163 rfl
theorem dX13_goesOn_178 : decode cX13_goesOn 178 = .ok (.aload_n 0, 1) := dz0 dzo42 15 dzbX13_goesOn_163 rfl
theorem dX13_goesOn_179 : decode cX13_goesOn 179 = .ok (.aload_n 0, 1) := dz0 dzo42 16 dzbX13_goesOn_163 rfl
theorem dX13_goesOn_180 : decode cX13_goesOn 180 = .ok (.getfield 77, 3) := dz2 dzo180 17 0 77 dzbX13_goesOn_163 rfl
theorem dX13_goesOn_183 : decode cX13_goesOn 183 = .ok (.invokevirtual 80, 3) := dz2 dzo182 20 0 80 dzbX13_goesOn_163 rfl
theorem dzbX13_goesOn_186 : dzB cX13_goesOn 186 [184, 0, 97, 153, 0, 47, 28, 6, 162, 0, 26, 42, 16, 10, 42, 180, 0, 100, 104, 42, 42, 180, 0, 77] := by decide +kernel
theorem dX13_goesOn_186 : decode cX13_goesOn 186 = .ok (.invokestatic 97, 3) := dz2 dzo184 0 0 97 dzbX13_goesOn_186 rfl
theorem dX13_goesOn_189 : decode cX13_goesOn 189 = .ok (.ifCond .eq 47, 3) := dz4 dzo153 3 0 47 47 rfl dzbX13_goesOn_186 rfl
theorem dX13_goesOn_192 : decode cX13_goesOn 192 = .ok (.iload_n 2, 1) := dz0 dzo28 6 dzbX13_goesOn_186 rfl
theorem dX13_goesOn_193 : decode cX13_goesOn 193 = .ok (.iconst 3, 1) := dz0 dzo6 7 dzbX13_goesOn_186 rfl
theorem dX13_goesOn_194 : decode cX13_goesOn 194 = .ok (.if_icmp .ge 26, 3) := dz4 dzo162 8 0 26 26 rfl dzbX13_goesOn_186 rfl
theorem dX13_goesOn_197 : decode cX13_goesOn 197 = .ok (.aload_n 0, 1) := dz0 dzo42 11 dzbX13_goesOn_186 rfl
theorem dX13_goesOn_198 : decode cX13_goesOn 198 = .ok (.bipush 10, 2) := dz3 dzo16 12 10 10 rfl dzbX13_goesOn_186 rfl
theorem dX13_goesOn_200 : decode cX13_goesOn 200 = .ok (.aload_n 0, 1) := dz0 dzo42 14 dzbX13_goesOn_186 rfl
theorem dX13_goesOn_201 : decode cX13_goesOn 201 = .ok (.getfield 100, 3) := dz2 dzo180 15 0 100 dzbX13_goesOn_186 rfl
theorem dX13_goesOn_204 : decode cX13_goesOn 204 = .ok (.imul, 1) := dz0 dzo104 18 dzbX13_goesOn_186 rfl
theorem dX13_goesOn_205 : decode cX13_goesOn 205 = .ok (.aload_n 0, 1) := dz0 dzo42 19 dzbX13_goesOn_186 rfl
theorem dX13_goesOn_206 : decode cX13_goesOn 206 = .ok (.aload_n 0, 1) := dz0 dzo42 20 dzbX13_goesOn_186 rfl
theorem dX13_goesOn_207 : decode cX13_goesOn 207 = .ok (.getfield 77, 3) := dz2 dzo180 21 0 77 dzbX13_goesOn_186 rfl
theorem dzbX13_goesOn_210 : dzB cX13_goesOn 210 [182, 0, 80, 96, 16, 48, 100, 181, 0, 100, 132, 2, 1, 42, 89, 180, 0, 77, 4, 96, 181, 0, 77] := by decide +kernel
theorem dX13_goesOn_210 : decode cX13_goesOn 210 = .ok (.invokevirtual 80, 3) := dz2 dzo182 0 0 80 dzbX13_goesOn_210 rfl
theorem dX13_goesOn_213 : decode cX13_goesOn 213 = .ok (.iadd, 1) := dz0 dzo96 3 dzbX13_goesOn_210 rfl
theorem dX13_goesOn_214 : decode cX13_goesOn 214 = .ok (.bipush 48, 2) := dz3 dzo16 4 48 48 rfl dzbX13_goesOn_210 rfl
theorem dX13_goesOn_216 : decode cX13_goesOn 216 = .ok (.isub, 1) := dz0 dzo100 6 dzbX13_goesOn_210 rfl
theorem dX13_goesOn_217 : decode cX13_goesOn 217 = .ok (.putfield 100, 3) := dz2 dzo181 7 0 100 dzbX13_goesOn_210 rfl
theorem dX13_goesOn_220 : decode cX13_goesOn 220 = .ok (.iinc 2 1, 3) := dz5 dzo132 10 2 1 1 rfl dzbX13_goesOn_210 rfl
theorem dX13_goesOn_223 : decode cX13_goesOn 223 = .ok (.aload_n 0, 1) := dz0 dzo42 13 dzbX13_goesOn_210 rfl
theorem dX13_goesOn_224 : decode cX13_goesOn 224 = .ok (.dup, 1) := dz0 dzo89 14 dzbX13_goesOn_210 rfl
theorem dX13_goesOn_225 : decode cX13_goesOn 225 = .ok (.getfield 77, 3) := dz2 dzo180 15 0 77 dzbX13_goesOn_210 rfl
theorem dX13_goesOn_228 : decode cX13_goesOn 228 = .ok (.iconst 1, 1) := dz0 dzo4 18 dzbX13_goesOn_210 rfl
theorem dX13_goesOn_229 : decode cX13_goesOn 229 = .ok (.iadd, 1) := dz0 dzo96 19 dzbX13_goesOn_210 rfl
theorem dX13_goesOn_230 : decode cX13_goesOn 230 = .ok (.putfield 77, 3) := dz2 dzo181 20 0 77 dzbX13_goesOn_210 rfl
theorem dzbX13_goesOn_233 : dzB cX13_goesOn 233 [167, 255, 201, 28, 6, 163, 0, 32, 42, 6, 181, 0, 74, 167, 0, 24, 27, 16, 59, 160, 0, 18, 42, 7] := by decide +kernel
theorem dX13_goesOn_233 : decode cX13_goesOn 233 = .ok (.goto (-55), 3) := dz4 dzo167 0 255 201 (-55) rfl dzbX13_goesOn_233 rfl
theorem dX13_goesOn_236 : decode cX13_goesOn 236 = .ok (.iload_n 2, 1) := dz0 dzo28 3 dzbX13_goesOn_233 rfl
theorem dX13_goesOn_237 : decode cX13_goesOn 237 = .ok (.iconst 3, 1) := dz0 dzo6 4 dzbX13_goesOn_233 rfl
theorem dX13_goesOn_238 : decode cX13_goesOn 238 = .ok (.if_icmp .gt 32, 3) := dz4 dzo163 5 0 32 32 rfl dzbX13_goesOn_233 rfl
theorem dX13_goesOn_241 : decode cX13_goesOn 241 = .ok (.aload_n 0, 1) := dz0 dzo42 8 dzbX13_goesOn_233 rfl
theorem dX13_goesOn_242 : decode cX13_goesOn 242 = .ok (.iconst 3, 1) := dz0 dzo6 9 dzbX13_goesOn_233 rfl
theorem dX13_goesOn_243 : decode cX13_goesOn 243 = .ok (.putfield 74, 3) := dz2 dzo181 10 0 74 dzbX13_goesOn_233 rfl
theorem dX13_goesOn_246 : decode cX13_goesOn 246 = .ok (.goto 24, 3) := dz4 dzo167 13 0 24 24 rfl dzbX13_goesOn_233 rfl
theorem dX13_goesOn_249 : decode cX13_goesOn 249 = .ok (.iload_n 1, 1) := dz0 dzo27 16 dzbX13_goesOn_233 rfl
theorem dX13_goesOn_250 : decode cX13_goesOn 250 = .ok (.bipush 59, 2) := dz3 dzo16 17 59 59 rfl dzbX13_goesOn_233 rfl
theorem dX13_goesOn_252 : decode cX13_goesOn 252 = .ok (.if_icmp .ne 18, 3) := dz4 dzo160 19 0 18 18 rfl dzbX13_goesOn_233 rfl
theorem dX13_goesOn_255 : decode cX13_goesOn 255 = .ok (.aload_n 0, 1) := dz0 dzo42 22 dzbX13_goesOn_233 rfl
theorem dX13_goesOn_256 : decode cX13_goesOn 256 = .ok (.iconst 4, 1) := dz0 dzo7 23 dzbX13_goesOn_233 rfl
theorem dzbX13_goesOn_257 : dzB cX13_goesOn 257 [181, 0, 74, 42, 89, 180, 0, 77, 4, 96, 181, 0, 77, 177] := by decide +kernel
theorem dX13_goesOn_257 : decode cX13_goesOn 257 = .ok (.putfield 74, 3) := dz2 dzo181 0 0 74 dzbX13_goesOn_257 rfl
theorem dX13_goesOn_260 : decode cX13_goesOn 260 = .ok (.aload_n 0, 1) := dz0 dzo42 3 dzbX13_goesOn_257 rfl
theorem dX13_goesOn_261 : decode cX13_goesOn 261 = .ok (.dup, 1) := dz0 dzo89 4 dzbX13_goesOn_257 rfl
theorem dX13_goesOn_262 : decode cX13_goesOn 262 = .ok (.getfield 77, 3) := dz2 dzo180 5 0 77 dzbX13_goesOn_257 rfl
theorem dX13_goesOn_265 : decode cX13_goesOn 265 = .ok (.iconst 1, 1) := dz0 dzo4 8 dzbX13_goesOn_257 rfl
theorem dX13_goesOn_266 : decode cX13_goesOn 266 = .ok (.iadd, 1) := dz0 dzo96 9 dzbX13_goesOn_257 rfl
theorem dX13_goesOn_267 : decode cX13_goesOn 267 = .ok (.putfield 77, 3) := dz2 dzo181 10 0 77 dzbX13_goesOn_257 rfl
theorem dX13_goesOn_270 : decode cX13_goesOn 270 = .ok (.return_, 1) := dz0 dzo177 13 dzbX13_goesOn_257 rfl
theorem dzbX13_good_0 : dzB cX13_good 0 [42, 3, 181, 0, 45, 42, 2, 181, 0, 9, 27, 172] := by decide +kernel
theorem dX13_good_0 : decode cX13_good 0 = .ok (.aload_n 0, 1) := dz0 dzo42 0 dzbX13_good_0 rfl
theorem dX13_good_1 : decode cX13_good 1 = .ok (.iconst 0, 1) := dz0 dzo3 1 dzbX13_good_0 rfl
theorem dX13_good_2 : decode cX13_good 2 = .ok (.putfield 45, 3) := dz2 dzo181 2 0 45 dzbX13_good_0 rfl
theorem dX13_good_5 : decode cX13_good 5 = .ok (.aload_n 0, 1) := dz0 dzo42 5 dzbX13_good_0 rfl
theorem dX13_good_6 : decode cX13_good 6 = .ok (.iconst (-1), 1) := dz0 dzo2 6 dzbX13_good_0 rfl
theorem dX13_good_7 : decode cX13_good 7 = .ok (.putfield 9, 3) := dz2 dzo181 7 0 9 dzbX13_good_0 rfl
theorem dX13_good_10 : decode cX13_good 10 = .ok (.iload_n 1, 1) := dz0 dzo27 10 dzbX13_good_0 rfl
theorem dX13_good_11 : decode cX13_good 11 = .ok (.ireturn, 1) := dz0 dzo172 11 dzbX13_good_0 rfl
theorem dzbX13_granted_0 : dzB cX13_granted 0 [42, 3, 182, 0, 52, 87, 4, 172] := by decide +kernel
theorem dX13_granted_0 : decode cX13_granted 0 = .ok (.aload_n 0, 1) := dz0 dzo42 0 dzbX13_granted_0 rfl
theorem dX13_granted_1 : decode cX13_granted 1 = .ok (.iconst 0, 1) := dz0 dzo3 1 dzbX13_granted_0 rfl
theorem dX13_granted_2 : decode cX13_granted 2 = .ok (.invokevirtual 52, 3) := dz2 dzo182 2 0 52 dzbX13_granted_0 rfl
theorem dX13_granted_5 : decode cX13_granted 5 = .ok (.pop, 1) := dz0 dzo87 5 dzbX13_granted_0 rfl
theorem dX13_granted_6 : decode cX13_granted 6 = .ok (.iconst 1, 1) := dz0 dzo4 6 dzbX13_granted_0 rfl
theorem dX13_granted_7 : decode cX13_granted 7 = .ok (.ireturn, 1) := dz0 dzo172 7 dzbX13_granted_0 rfl
theorem dzbX13_hedge_0 : dzB cX13_hedge 0 [42, 3, 181, 0, 42, 42, 27, 3, 6, 182, 1, 198, 172] := by decide +kernel
theorem dX13_hedge_0 : decode cX13_hedge 0 = .ok (.aload_n 0, 1) := dz0 dzo42 0 dzbX13_hedge_0 rfl
theorem dX13_hedge_1 : decode cX13_hedge 1 = .ok (.iconst 0, 1) := dz0 dzo3 1 dzbX13_hedge_0 rfl
theorem dX13_hedge_2 : decode cX13_hedge 2 = .ok (.putfield 42, 3) := dz2 dzo181 2 0 42 dzbX13_hedge_0 rfl
theorem dX13_hedge_5 : decode cX13_hedge 5 = .ok (.aload_n 0, 1) := dz0 dzo42 5 dzbX13_hedge_0 rfl
theorem dX13_hedge_6 : decode cX13_hedge 6 = .ok (.iload_n 1, 1) := dz0 dzo27 6 dzbX13_hedge_0 rfl
theorem dX13_hedge_7 : decode cX13_hedge 7 = .ok (.iconst 0, 1) := dz0 dzo3 7 dzbX13_hedge_0 rfl
theorem dX13_hedge_8 : decode cX13_hedge 8 = .ok (.iconst 3, 1) := dz0 dzo6 8 dzbX13_hedge_0 rfl
theorem dX13_hedge_9 : decode cX13_hedge 9 = .ok (.invokevirtual 454, 3) := dz2 dzo182 9 1 198 dzbX13_hedge_0 rfl
theorem dX13_hedge_12 : decode cX13_hedge 12 = .ok (.ireturn, 1) := dz0 dzo172 12 dzbX13_hedge_0 rfl
theorem dzbX13_image_0 : dzB cX13_image 0 [42, 3, 181, 0, 42, 42, 180, 1, 13, 199, 0, 9, 42, 4, 182, 0, 48, 172, 42, 180, 1, 18, 6] := by decide +kernel
theorem dX13_image_0 : decode cX13_image 0 = .ok (.aload_n 0, 1) := dz0 dzo42 0 dzbX13_image_0 rfl
theorem dX13_image_1 : decode cX13_image 1 = .ok (.iconst 0, 1) := dz0 dzo3 1 dzbX13_image_0 rfl
theorem dX13_image_2 : decode cX13_image 2 = .ok (.putfield 42, 3) := dz2 dzo181 2 0 42 dzbX13_image_0 rfl
theorem dX13_image_5 : decode cX13_image 5 = .ok (.aload_n 0, 1) := dz0 dzo42 5 dzbX13_image_0 rfl
theorem dX13_image_6 : decode cX13_image 6 = .ok (.getfield 269, 3) := dz2 dzo180 6 1 13 dzbX13_image_0 rfl
theorem dX13_image_9 : decode cX13_image 9 = .ok (.ifnonnull 9, 3) := dz4 dzo199 9 0 9 9 rfl dzbX13_image_0 rfl
theorem dX13_image_12 : decode cX13_image 12 = .ok (.aload_n 0, 1) := dz0 dzo42 12 dzbX13_image_0 rfl
theorem dX13_image_13 : decode cX13_image 13 = .ok (.iconst 1, 1) := dz0 dzo4 13 dzbX13_image_0 rfl
theorem dX13_image_14 : decode cX13_image 14 = .ok (.invokevirtual 48, 3) := dz2 dzo182 14 0 48 dzbX13_image_0 rfl
theorem dX13_image_17 : decode cX13_image 17 = .ok (.ireturn, 1) := dz0 dzo172 17 dzbX13_image_0 rfl
theorem dX13_image_18 : decode cX13_image 18 = .ok (.aload_n 0, 1) := dz0 dzo42 18 dzbX13_image_0 rfl
theorem dX13_image_19 : decode cX13_image 19 = .ok (.getfield 274, 3) := dz2 dzo180 19 1 18 dzbX13_image_0 rfl
theorem dX13_image_22 : decode cX13_image 22 = .ok (.iconst 3, 1) := dz0 dzo6 22 dzbX13_image_0 rfl
theorem dzbX13_image_23 : dzB cX13_image 23 [160, 0, 9, 42, 6, 182, 0, 48, 172, 3, 60, 27, 16, 32, 162, 0, 29, 42, 180, 0, 27, 16, 32, 42] := by decide +kernel
theorem dX13_image_23 : decode cX13_image 23 = .ok (.if_icmp .ne 9, 3) := dz4 dzo160 0 0 9 9 rfl dzbX13_image_23 rfl
theorem dX13_image_26 : decode cX13_image 26 = .ok (.aload_n 0, 1) := dz0 dzo42 3 dzbX13_image_23 rfl
theorem dX13_image_27 : decode cX13_image 27 = .ok (.iconst 3, 1) := dz0 dzo6 4 dzbX13_image_23 rfl
theorem dX13_image_28 : decode cX13_image 28 = .ok (.invokevirtual 48, 3) := dz2 dzo182 5 0 48 dzbX13_image_23 rfl
theorem dX13_image_31 : decode cX13_image 31 = .ok (.ireturn, 1) := dz0 dzo172 8 dzbX13_image_23 rfl
theorem dX13_image_32 : decode cX13_image 32 = .ok (.iconst 0, 1) := dz0 dzo3 9 dzbX13_image_23 rfl
theorem dX13_image_33 : decode cX13_image 33 = .ok (.istore_n 1, 1) := dz0 dzo60 10 dzbX13_image_23 rfl
theorem dX13_image_34 : decode cX13_image 34 = .ok (.iload_n 1, 1) := dz0 dzo27 11 dzbX13_image_23 rfl
theorem dX13_image_35 : decode cX13_image 35 = .ok (.bipush 32, 2) := dz3 dzo16 12 32 32 rfl dzbX13_image_23 rfl
theorem dX13_image_37 : decode cX13_image 37 = .ok (.if_icmp .ge 29, 3) := dz4 dzo162 14 0 29 29 rfl dzbX13_image_23 rfl
theorem dX13_image_40 : decode cX13_image 40 = .ok (.aload_n 0, 1) := dz0 dzo42 17 dzbX13_image_23 rfl
theorem dX13_image_41 : decode cX13_image 41 = .ok (.getfield 27, 3) := dz2 dzo180 18 0 27 dzbX13_image_23 rfl
theorem dX13_image_44 : decode cX13_image 44 = .ok (.bipush 32, 2) := dz3 dzo16 21 32 32 rfl dzbX13_image_23 rfl
theorem dX13_image_46 : decode cX13_image 46 = .ok (.aload_n 0, 1) := dz0 dzo42 23 dzbX13_image_23 rfl
theorem dzbX13_image_47 : dzB cX13_image 47 [180, 1, 18, 104, 27, 96, 42, 180, 0, 17, 27, 46, 79, 132, 1, 1, 167, 255, 227, 42, 89, 180, 1, 18] := by decide +kernel
theorem dX13_image_47 : decode cX13_image 47 = .ok (.getfield 274, 3) := dz2 dzo180 0 1 18 dzbX13_image_47 rfl
theorem dX13_image_50 : decode cX13_image 50 = .ok (.imul, 1) := dz0 dzo104 3 dzbX13_image_47 rfl
theorem dX13_image_51 : decode cX13_image 51 = .ok (.iload_n 1, 1) := dz0 dzo27 4 dzbX13_image_47 rfl
theorem dX13_image_52 : decode cX13_image 52 = .ok (.iadd, 1) := dz0 dzo96 5 dzbX13_image_47 rfl
theorem dX13_image_53 : decode cX13_image 53 = .ok (.aload_n 0, 1) := dz0 dzo42 6 dzbX13_image_47 rfl
theorem dX13_image_54 : decode cX13_image 54 = .ok (.getfield 17, 3) := dz2 dzo180 7 0 17 dzbX13_image_47 rfl
theorem dX13_image_57 : decode cX13_image 57 = .ok (.iload_n 1, 1) := dz0 dzo27 10 dzbX13_image_47 rfl
theorem dX13_image_58 : decode cX13_image 58 = .ok (.iaload, 1) := dz0 dzo46 11 dzbX13_image_47 rfl
theorem dX13_image_59 : decode cX13_image 59 = .ok (.iastore, 1) := dz0 dzo79 12 dzbX13_image_47 rfl
theorem dX13_image_60 : decode cX13_image 60 = .ok (.iinc 1 1, 3) := dz5 dzo132 13 1 1 1 rfl dzbX13_image_47 rfl
theorem dX13_image_63 : decode cX13_image 63 = .ok (.goto (-29), 3) := dz4 dzo167 16 255 227 (-29) rfl dzbX13_image_47 rfl
theorem dX13_image_66 : decode cX13_image 66 = .ok (.aload_n 0, 1) := dz0 dzo42 19 dzbX13_image_47 rfl
theorem dX13_image_67 : decode cX13_image 67 = .ok (.dup, 1) := dz0 dzo89 20 dzbX13_image_47 rfl
theorem dX13_image_68 : decode cX13_image 68 = .ok (.getfield 274, 3) := dz2 dzo180 21 1 18 dzbX13_image_47 rfl
theorem dzbX13_image_71 : dzB cX13_image 71 [4, 96, 181, 1, 18, 42, 42, 180, 1, 18, 4, 100, 182, 0, 52, 172] := by decide +kernel
theorem dX13_image_71 : decode cX13_image 71 = .ok (.iconst 1, 1) := dz0 dzo4 0 dzbX13_image_71 rfl
theorem dX13_image_72 : decode cX13_image 72 = .ok (.iadd, 1) := dz0 dzo96 1 dzbX13_image_71 rfl
theorem dX13_image_73 : decode cX13_image 73 = .ok (.putfield 274, 3) := dz2 dzo181 2 1 18 dzbX13_image_71 rfl
theorem dX13_image_76 : decode cX13_image 76 = .ok (.aload_n 0, 1) := dz0 dzo42 5 dzbX13_image_71 rfl
theorem dX13_image_77 : decode cX13_image 77 = .ok (.aload_n 0, 1) := dz0 dzo42 6 dzbX13_image_71 rfl
theorem dX13_image_78 : decode cX13_image 78 = .ok (.getfield 274, 3) := dz2 dzo180 7 1 18 dzbX13_image_71 rfl
theorem dX13_image_81 : decode cX13_image 81 = .ok (.iconst 1, 1) := dz0 dzo4 10 dzbX13_image_71 rfl
theorem dX13_image_82 : decode cX13_image 82 = .ok (.isub, 1) := dz0 dzo100 11 dzbX13_image_71 rfl
theorem dX13_image_83 : decode cX13_image 83 = .ok (.invokevirtual 52, 3) := dz2 dzo182 12 0 52 dzbX13_image_71 rfl
theorem dX13_image_86 : decode cX13_image 86 = .ok (.ireturn, 1) := dz0 dzo172 15 dzbX13_image_71 rfl
theorem dzbX13_in_0 : dzB cX13_in 0 [26, 27, 161, 0, 12, 26, 28, 163, 0, 7, 4, 167, 0, 4, 3, 172] := by decide +kernel
theorem dX13_in_0 : decode cX13_in 0 = .ok (.iload_n 0, 1) := dz0 dzo26 0 dzbX13_in_0 rfl
theorem dX13_in_1 : decode cX13_in 1 = .ok (.iload_n 1, 1) := dz0 dzo27 1 dzbX13_in_0 rfl
theorem dX13_in_2 : decode cX13_in 2 = .ok (.if_icmp .lt 12, 3) := dz4 dzo161 2 0 12 12 rfl dzbX13_in_0 rfl
theorem dX13_in_5 : decode cX13_in 5 = .ok (.iload_n 0, 1) := dz0 dzo26 5 dzbX13_in_0 rfl
theorem dX13_in_6 : decode cX13_in 6 = .ok (.iload_n 2, 1) := dz0 dzo28 6 dzbX13_in_0 rfl
theorem dX13_in_7 : decode cX13_in 7 = .ok (.if_icmp .gt 7, 3) := dz4 dzo163 7 0 7 7 rfl dzbX13_in_0 rfl
theorem dX13_in_10 : decode cX13_in 10 = .ok (.iconst 1, 1) := dz0 dzo4 10 dzbX13_in_0 rfl
theorem dX13_in_11 : decode cX13_in 11 = .ok (.goto 4, 3) := dz4 dzo167 11 0 4 4 rfl dzbX13_in_0 rfl
theorem dX13_in_14 : decode cX13_in 14 = .ok (.iconst 0, 1) := dz0 dzo3 14 dzbX13_in_0 rfl
theorem dX13_in_15 : decode cX13_in 15 = .ok (.ireturn, 1) := dz0 dzo172 15 dzbX13_in_0 rfl
theorem dzbX13_init_0 : dzB cX13_init 0 [42, 183, 0, 3, 42, 2, 181, 0, 9, 42, 17, 3, 32] := by decide +kernel
theorem dX13_init_0 : decode cX13_init 0 = .ok (.aload_n 0, 1) := dz0 dzo42 0 dzbX13_init_0 rfl
theorem dX13_init_1 : decode cX13_init 1 = .ok (.invokespecial 3, 3) := dz2 dzo183 1 0 3 dzbX13_init_0 rfl
theorem dX13_init_4 : decode cX13_init 4 = .ok (.aload_n 0, 1) := dz0 dzo42 4 dzbX13_init_0 rfl
theorem dX13_init_5 : decode cX13_init 5 = .ok (.iconst (-1), 1) := dz0 dzo2 5 dzbX13_init_0 rfl
theorem dX13_init_6 : decode cX13_init 6 = .ok (.putfield 9, 3) := dz2 dzo181 6 0 9 dzbX13_init_0 rfl
theorem dX13_init_9 : decode cX13_init 9 = .ok (.aload_n 0, 1) := dz0 dzo42 9 dzbX13_init_0 rfl
theorem dX13_init_10 : decode cX13_init 10 = .ok (.sipush 800, 3) := dz4 dzo17 10 3 32 800 rfl dzbX13_init_0 rfl
theorem dX13_init_13 : decode cX13_init 13 = .ok (.newarray .byte, 2) := by decide +kernel
theorem dzbX13_init_15 : dzB cX13_init 15 [181, 0, 13, 42, 16, 32] := by decide +kernel
theorem dX13_init_15 : decode cX13_init 15 = .ok (.putfield 13, 3) := dz2 dzo181 0 0 13 dzbX13_init_15 rfl
theorem dX13_init_18 : decode cX13_init 18 = .ok (.aload_n 0, 1) := dz0 dzo42 3 dzbX13_init_15 rfl
theorem dX13_init_19 : decode cX13_init 19 = .ok (.bipush 32, 2) := dz3 dzo16 4 32 32 rfl dzbX13_init_15 rfl
theorem dX13_init_21 : decode cX13_init 21 = .ok (.newarray .int, 2) := by decide +kernel
theorem dzbX13_init_23 : dzB cX13_init 23 [181, 0, 17, 42, 16, 20] := by decide +kernel
theorem dX13_init_23 : decode cX13_init 23 = .ok (.putfield 17, 3) := dz2 dzo181 0 0 17 dzbX13_init_23 rfl
theorem dX13_init_26 : decode cX13_init 26 = .ok (.aload_n 0, 1) := dz0 dzo42 3 dzbX13_init_23 rfl
theorem dX13_init_27 : decode cX13_init 27 = .ok (.bipush 20, 2) := dz3 dzo16 4 20 20 rfl dzbX13_init_23 rfl
theorem dX13_init_29 : decode cX13_init 29 = .ok (.newarray .int, 2) := by decide +kernel
theorem dzbX13_init_31 : dzB cX13_init 31 [181, 0, 21, 42, 17, 2, 0] := by decide +kernel
theorem dX13_init_31 : decode cX13_init 31 = .ok (.putfield 21, 3) := dz2 dzo181 0 0 21 dzbX13_init_31 rfl
theorem dX13_init_34 : decode cX13_init 34 = .ok (.aload_n 0, 1) := dz0 dzo42 3 dzbX13_init_31 rfl
theorem dX13_init_35 : decode cX13_init 35 = .ok (.sipush 512, 3) := dz4 dzo17 4 2 0 512 rfl dzbX13_init_31 rfl
theorem dX13_init_38 : decode cX13_init 38 = .ok (.newarray .int, 2) := by decide +kernel
theorem dzbX13_init_40 : dzB cX13_init 40 [181, 0, 24, 42, 16, 96] := by decide +kernel
theorem dX13_init_40 : decode cX13_init 40 = .ok (.putfield 24, 3) := dz2 dzo181 0 0 24 dzbX13_init_40 rfl
theorem dX13_init_43 : decode cX13_init 43 = .ok (.aload_n 0, 1) := dz0 dzo42 3 dzbX13_init_40 rfl
theorem dX13_init_44 : decode cX13_init 44 = .ok (.bipush 96, 2) := dz3 dzo16 4 96 96 rfl dzbX13_init_40 rfl
theorem dX13_init_46 : decode cX13_init 46 = .ok (.newarray .int, 2) := by decide +kernel
theorem dzbX13_init_48 : dzB cX13_init 48 [181, 0, 27, 42, 16, 20] := by decide +kernel
theorem dX13_init_48 : decode cX13_init 48 = .ok (.putfield 27, 3) := dz2 dzo181 0 0 27 dzbX13_init_48 rfl
theorem dX13_init_51 : decode cX13_init 51 = .ok (.aload_n 0, 1) := dz0 dzo42 3 dzbX13_init_48 rfl
theorem dX13_init_52 : decode cX13_init 52 = .ok (.bipush 20, 2) := dz3 dzo16 4 20 20 rfl dzbX13_init_48 rfl
theorem dX13_init_54 : decode cX13_init 54 = .ok (.newarray .int, 2) := by decide +kernel
theorem dzbX13_init_56 : dzB cX13_init 56 [181, 0, 30, 42, 16, 20] := by decide +kernel
theorem dX13_init_56 : decode cX13_init 56 = .ok (.putfield 30, 3) := dz2 dzo181 0 0 30 dzbX13_init_56 rfl
theorem dX13_init_59 : decode cX13_init 59 = .ok (.aload_n 0, 1) := dz0 dzo42 3 dzbX13_init_56 rfl
theorem dX13_init_60 : decode cX13_init 60 = .ok (.bipush 20, 2) := dz3 dzo16 4 20 20 rfl dzbX13_init_56 rfl
theorem dX13_init_62 : decode cX13_init 62 = .ok (.newarray .int, 2) := by decide +kernel
theorem dzbX13_init_64 : dzB cX13_init 64 [181, 0, 33, 42, 17, 1, 146] := by decide +kernel
theorem dX13_init_64 : decode cX13_init 64 = .ok (.putfield 33, 3) := dz2 dzo181 0 0 33 dzbX13_init_64 rfl
theorem dX13_init_67 : decode cX13_init 67 = .ok (.aload_n 0, 1) := dz0 dzo42 3 dzbX13_init_64 rfl
theorem dX13_init_68 : decode cX13_init 68 = .ok (.sipush 402, 3) := dz4 dzo17 4 1 146 402 rfl dzbX13_init_64 rfl
theorem dX13_init_71 : decode cX13_init 71 = .ok (.newarray .int, 2) := by decide +kernel
theorem dzbX13_init_73 : dzB cX13_init 73 [181, 0, 36, 42, 8] := by decide +kernel
theorem dX13_init_73 : decode cX13_init 73 = .ok (.putfield 36, 3) := dz2 dzo181 0 0 36 dzbX13_init_73 rfl
theorem dX13_init_76 : decode cX13_init 76 = .ok (.aload_n 0, 1) := dz0 dzo42 3 dzbX13_init_73 rfl
theorem dX13_init_77 : decode cX13_init 77 = .ok (.iconst 5, 1) := dz0 dzo8 4 dzbX13_init_73 rfl
theorem dX13_init_78 : decode cX13_init 78 = .ok (.newarray .int, 2) := by decide +kernel
theorem dzbX13_init_80 : dzB cX13_init 80 [181, 0, 39, 177] := by decide +kernel
theorem dX13_init_80 : decode cX13_init 80 = .ok (.putfield 39, 3) := dz2 dzo181 0 0 39 dzbX13_init_80 rfl
theorem dX13_init_83 : decode cX13_init 83 = .ok (.return_, 1) := dz0 dzo177 3 dzbX13_init_80 rfl
theorem dzbX13_isDigit_0 : dzB cX13_isDigit 0 [26, 16, 48, 161, 0, 13, 26, 16, 57, 163, 0, 7, 4, 167, 0, 4, 3, 172] := by decide +kernel
theorem dX13_isDigit_0 : decode cX13_isDigit 0 = .ok (.iload_n 0, 1) := dz0 dzo26 0 dzbX13_isDigit_0 rfl
theorem dX13_isDigit_1 : decode cX13_isDigit 1 = .ok (.bipush 48, 2) := dz3 dzo16 1 48 48 rfl dzbX13_isDigit_0 rfl
theorem dX13_isDigit_3 : decode cX13_isDigit 3 = .ok (.if_icmp .lt 13, 3) := dz4 dzo161 3 0 13 13 rfl dzbX13_isDigit_0 rfl
theorem dX13_isDigit_6 : decode cX13_isDigit 6 = .ok (.iload_n 0, 1) := dz0 dzo26 6 dzbX13_isDigit_0 rfl
theorem dX13_isDigit_7 : decode cX13_isDigit 7 = .ok (.bipush 57, 2) := dz3 dzo16 7 57 57 rfl dzbX13_isDigit_0 rfl
theorem dX13_isDigit_9 : decode cX13_isDigit 9 = .ok (.if_icmp .gt 7, 3) := dz4 dzo163 9 0 7 7 rfl dzbX13_isDigit_0 rfl
theorem dX13_isDigit_12 : decode cX13_isDigit 12 = .ok (.iconst 1, 1) := dz0 dzo4 12 dzbX13_isDigit_0 rfl
theorem dX13_isDigit_13 : decode cX13_isDigit 13 = .ok (.goto 4, 3) := dz4 dzo167 13 0 4 4 rfl dzbX13_isDigit_0 rfl
theorem dX13_isDigit_16 : decode cX13_isDigit 16 = .ok (.iconst 0, 1) := dz0 dzo3 16 dzbX13_isDigit_0 rfl
theorem dX13_isDigit_17 : decode cX13_isDigit 17 = .ok (.ireturn, 1) := dz0 dzo172 17 dzbX13_isDigit_0 rfl
theorem dzbX13_isDitch_0 : dzB cX13_isDitch 0 [3, 62, 29, 42, 180, 1, 13, 180, 0, 195, 162, 0, 28, 42, 180, 1, 13, 180, 0, 203, 29, 46, 27] := by decide +kernel
theorem dX13_isDitch_0 : decode cX13_isDitch 0 = .ok (.iconst 0, 1) := dz0 dzo3 0 dzbX13_isDitch_0 rfl
theorem dX13_isDitch_1 : decode cX13_isDitch 1 = .ok (.istore_n 3, 1) := dz0 dzo62 1 dzbX13_isDitch_0 rfl
theorem dX13_isDitch_2 : decode cX13_isDitch 2 = .ok (.iload_n 3, 1) := dz0 dzo29 2 dzbX13_isDitch_0 rfl
theorem dX13_isDitch_3 : decode cX13_isDitch 3 = .ok (.aload_n 0, 1) := dz0 dzo42 3 dzbX13_isDitch_0 rfl
theorem dX13_isDitch_4 : decode cX13_isDitch 4 = .ok (.getfield 269, 3) := dz2 dzo180 4 1 13 dzbX13_isDitch_0 rfl
theorem dX13_isDitch_7 : decode cX13_isDitch 7 = .ok (.getfield 195, 3) := dz2 dzo180 7 0 195 dzbX13_isDitch_0 rfl
theorem dX13_isDitch_10 : decode cX13_isDitch 10 = .ok (.if_icmp .ge 28, 3) := dz4 dzo162 10 0 28 28 rfl dzbX13_isDitch_0 rfl
theorem dX13_isDitch_13 : decode cX13_isDitch 13 = .ok (.aload_n 0, 1) := dz0 dzo42 13 dzbX13_isDitch_0 rfl
theorem dX13_isDitch_14 : decode cX13_isDitch 14 = .ok (.getfield 269, 3) := dz2 dzo180 14 1 13 dzbX13_isDitch_0 rfl
theorem dX13_isDitch_17 : decode cX13_isDitch 17 = .ok (.getfield 203, 3) := dz2 dzo180 17 0 203 dzbX13_isDitch_0 rfl
theorem dX13_isDitch_20 : decode cX13_isDitch 20 = .ok (.iload_n 3, 1) := dz0 dzo29 20 dzbX13_isDitch_0 rfl
theorem dX13_isDitch_21 : decode cX13_isDitch 21 = .ok (.iaload, 1) := dz0 dzo46 21 dzbX13_isDitch_0 rfl
theorem dX13_isDitch_22 : decode cX13_isDitch 22 = .ok (.iload_n 1, 1) := dz0 dzo27 22 dzbX13_isDitch_0 rfl
theorem dzbX13_isDitch_23 : dzB cX13_isDitch 23 [160, 0, 9, 28, 29, 184, 1, 89, 172, 132, 3, 1, 167, 255, 223, 42, 180, 1, 13, 180, 0, 201, 27, 46] := by decide +kernel
theorem dX13_isDitch_23 : decode cX13_isDitch 23 = .ok (.if_icmp .ne 9, 3) := dz4 dzo160 0 0 9 9 rfl dzbX13_isDitch_23 rfl
theorem dX13_isDitch_26 : decode cX13_isDitch 26 = .ok (.iload_n 2, 1) := dz0 dzo28 3 dzbX13_isDitch_23 rfl
theorem dX13_isDitch_27 : decode cX13_isDitch 27 = .ok (.iload_n 3, 1) := dz0 dzo29 4 dzbX13_isDitch_23 rfl
theorem dX13_isDitch_28 : decode cX13_isDitch 28 = .ok (.invokestatic 345, 3) := dz2 dzo184 5 1 89 dzbX13_isDitch_23 rfl
theorem dX13_isDitch_31 : decode cX13_isDitch 31 = .ok (.ireturn, 1) := dz0 dzo172 8 dzbX13_isDitch_23 rfl
theorem dX13_isDitch_32 : decode cX13_isDitch 32 = .ok (.iinc 3 1, 3) := dz5 dzo132 9 3 1 1 rfl dzbX13_isDitch_23 rfl
theorem dX13_isDitch_35 : decode cX13_isDitch 35 = .ok (.goto (-33), 3) := dz4 dzo167 12 255 223 (-33) rfl dzbX13_isDitch_23 rfl
theorem dX13_isDitch_38 : decode cX13_isDitch 38 = .ok (.aload_n 0, 1) := dz0 dzo42 15 dzbX13_isDitch_23 rfl
theorem dX13_isDitch_39 : decode cX13_isDitch 39 = .ok (.getfield 269, 3) := dz2 dzo180 16 1 13 dzbX13_isDitch_23 rfl
theorem dX13_isDitch_42 : decode cX13_isDitch 42 = .ok (.getfield 201, 3) := dz2 dzo180 19 0 201 dzbX13_isDitch_23 rfl
theorem dX13_isDitch_45 : decode cX13_isDitch 45 = .ok (.iload_n 1, 1) := dz0 dzo27 22 dzbX13_isDitch_23 rfl
theorem dX13_isDitch_46 : decode cX13_isDitch 46 = .ok (.iaload, 1) := dz0 dzo46 23 dzbX13_isDitch_23 rfl
theorem dzbX13_isDitch_47 : dzB cX13_isDitch 47 [4, 160, 0, 7, 4, 167, 0, 4, 3, 172] := by decide +kernel
theorem dX13_isDitch_47 : decode cX13_isDitch 47 = .ok (.iconst 1, 1) := dz0 dzo4 0 dzbX13_isDitch_47 rfl
theorem dX13_isDitch_48 : decode cX13_isDitch 48 = .ok (.if_icmp .ne 7, 3) := dz4 dzo160 1 0 7 7 rfl dzbX13_isDitch_47 rfl
theorem dX13_isDitch_51 : decode cX13_isDitch 51 = .ok (.iconst 1, 1) := dz0 dzo4 4 dzbX13_isDitch_47 rfl
theorem dX13_isDitch_52 : decode cX13_isDitch 52 = .ok (.goto 4, 3) := dz4 dzo167 5 0 4 4 rfl dzbX13_isDitch_47 rfl
theorem dX13_isDitch_55 : decode cX13_isDitch 55 = .ok (.iconst 0, 1) := dz0 dzo3 8 dzbX13_isDitch_47 rfl
theorem dX13_isDitch_56 : decode cX13_isDitch 56 = .ok (.ireturn, 1) := dz0 dzo172 9 dzbX13_isDitch_47 rfl
theorem dzbX13_isFall_0 : dzB cX13_isFall 0 [27, 154, 0, 27, 29, 5, 160, 0, 22, 42, 180, 0, 21, 42, 28, 29, 182, 1, 24, 46, 4, 160, 0, 7] := by decide +kernel
theorem dX13_isFall_0 : decode cX13_isFall 0 = .ok (.iload_n 1, 1) := dz0 dzo27 0 dzbX13_isFall_0 rfl
theorem dX13_isFall_1 : decode cX13_isFall 1 = .ok (.ifCond .ne 27, 3) := dz4 dzo154 1 0 27 27 rfl dzbX13_isFall_0 rfl
theorem dX13_isFall_4 : decode cX13_isFall 4 = .ok (.iload_n 3, 1) := dz0 dzo29 4 dzbX13_isFall_0 rfl
theorem dX13_isFall_5 : decode cX13_isFall 5 = .ok (.iconst 2, 1) := dz0 dzo5 5 dzbX13_isFall_0 rfl
theorem dX13_isFall_6 : decode cX13_isFall 6 = .ok (.if_icmp .ne 22, 3) := dz4 dzo160 6 0 22 22 rfl dzbX13_isFall_0 rfl
theorem dX13_isFall_9 : decode cX13_isFall 9 = .ok (.aload_n 0, 1) := dz0 dzo42 9 dzbX13_isFall_0 rfl
theorem dX13_isFall_10 : decode cX13_isFall 10 = .ok (.getfield 21, 3) := dz2 dzo180 10 0 21 dzbX13_isFall_0 rfl
theorem dX13_isFall_13 : decode cX13_isFall 13 = .ok (.aload_n 0, 1) := dz0 dzo42 13 dzbX13_isFall_0 rfl
theorem dX13_isFall_14 : decode cX13_isFall 14 = .ok (.iload_n 2, 1) := dz0 dzo28 14 dzbX13_isFall_0 rfl
theorem dX13_isFall_15 : decode cX13_isFall 15 = .ok (.iload_n 3, 1) := dz0 dzo29 15 dzbX13_isFall_0 rfl
theorem dX13_isFall_16 : decode cX13_isFall 16 = .ok (.invokevirtual 280, 3) := dz2 dzo182 16 1 24 dzbX13_isFall_0 rfl
theorem dX13_isFall_19 : decode cX13_isFall 19 = .ok (.iaload, 1) := dz0 dzo46 19 dzbX13_isFall_0 rfl
theorem dX13_isFall_20 : decode cX13_isFall 20 = .ok (.iconst 1, 1) := dz0 dzo4 20 dzbX13_isFall_0 rfl
theorem dX13_isFall_21 : decode cX13_isFall 21 = .ok (.if_icmp .ne 7, 3) := dz4 dzo160 21 0 7 7 rfl dzbX13_isFall_0 rfl
theorem dzbX13_isFall_24 : dzB cX13_isFall 24 [4, 167, 0, 4, 3, 172] := by decide +kernel
theorem dX13_isFall_24 : decode cX13_isFall 24 = .ok (.iconst 1, 1) := dz0 dzo4 0 dzbX13_isFall_24 rfl
theorem dX13_isFall_25 : decode cX13_isFall 25 = .ok (.goto 4, 3) := dz4 dzo167 1 0 4 4 rfl dzbX13_isFall_24 rfl
theorem dX13_isFall_28 : decode cX13_isFall 28 = .ok (.iconst 0, 1) := dz0 dzo3 4 dzbX13_isFall_24 rfl
theorem dX13_isFall_29 : decode cX13_isFall 29 = .ok (.ireturn, 1) := dz0 dzo172 5 dzbX13_isFall_24 rfl
theorem dzbX13_isFallen_0 : dzB cX13_isFallen 0 [4, 54, 4, 21, 4, 28, 163, 0, 31, 42, 27, 42, 180, 1, 13, 180, 0, 158, 21, 4, 104, 96, 29] := by decide +kernel
theorem dX13_isFallen_0 : decode cX13_isFallen 0 = .ok (.iconst 1, 1) := dz0 dzo4 0 dzbX13_isFallen_0 rfl
theorem dX13_isFallen_1 : decode cX13_isFallen 1 = .ok (.istore 4, 2) := dz1 dzo54 1 4 dzbX13_isFallen_0 rfl
theorem dX13_isFallen_3 : decode cX13_isFallen 3 = .ok (.iload 4, 2) := dz1 dzo21 3 4 dzbX13_isFallen_0 rfl
theorem dX13_isFallen_5 : decode cX13_isFallen 5 = .ok (.iload_n 2, 1) := dz0 dzo28 5 dzbX13_isFallen_0 rfl
theorem dX13_isFallen_6 : decode cX13_isFallen 6 = .ok (.if_icmp .gt 31, 3) := dz4 dzo163 6 0 31 31 rfl dzbX13_isFallen_0 rfl
theorem dX13_isFallen_9 : decode cX13_isFallen 9 = .ok (.aload_n 0, 1) := dz0 dzo42 9 dzbX13_isFallen_0 rfl
theorem dX13_isFallen_10 : decode cX13_isFallen 10 = .ok (.iload_n 1, 1) := dz0 dzo27 10 dzbX13_isFallen_0 rfl
theorem dX13_isFallen_11 : decode cX13_isFallen 11 = .ok (.aload_n 0, 1) := dz0 dzo42 11 dzbX13_isFallen_0 rfl
theorem dX13_isFallen_12 : decode cX13_isFallen 12 = .ok (.getfield 269, 3) := dz2 dzo180 12 1 13 dzbX13_isFallen_0 rfl
theorem dX13_isFallen_15 : decode cX13_isFallen 15 = .ok (.getfield 158, 3) := dz2 dzo180 15 0 158 dzbX13_isFallen_0 rfl
theorem dX13_isFallen_18 : decode cX13_isFallen 18 = .ok (.iload 4, 2) := dz1 dzo21 18 4 dzbX13_isFallen_0 rfl
theorem dX13_isFallen_20 : decode cX13_isFallen 20 = .ok (.imul, 1) := dz0 dzo104 20 dzbX13_isFallen_0 rfl
theorem dX13_isFallen_21 : decode cX13_isFallen 21 = .ok (.iadd, 1) := dz0 dzo96 21 dzbX13_isFallen_0 rfl
theorem dX13_isFallen_22 : decode cX13_isFallen 22 = .ok (.iload_n 3, 1) := dz0 dzo29 22 dzbX13_isFallen_0 rfl
theorem dzbX13_isFallen_23 : dzB cX13_isFallen 23 [182, 1, 117, 153, 0, 5, 4, 172, 132, 4, 1, 167, 255, 225, 3] := by decide +kernel
theorem dX13_isFallen_23 : decode cX13_isFallen 23 = .ok (.invokevirtual 373, 3) := dz2 dzo182 0 1 117 dzbX13_isFallen_23 rfl
theorem dX13_isFallen_26 : decode cX13_isFallen 26 = .ok (.ifCond .eq 5, 3) := dz4 dzo153 3 0 5 5 rfl dzbX13_isFallen_23 rfl
theorem dX13_isFallen_29 : decode cX13_isFallen 29 = .ok (.iconst 1, 1) := dz0 dzo4 6 dzbX13_isFallen_23 rfl
theorem dX13_isFallen_30 : decode cX13_isFallen 30 = .ok (.ireturn, 1) := dz0 dzo172 7 dzbX13_isFallen_23 rfl
theorem dX13_isFallen_31 : decode cX13_isFallen 31 = .ok (.iinc 4 1, 3) := dz5 dzo132 8 4 1 1 rfl dzbX13_isFallen_23 rfl
theorem dX13_isFallen_34 : decode cX13_isFallen 34 = .ok (.goto (-31), 3) := dz4 dzo167 11 255 225 (-31) rfl dzbX13_isFallen_23 rfl
theorem dX13_isFallen_37 : decode cX13_isFallen 37 = .ok (.iconst 0, 1) := dz0 dzo3 14 dzbX13_isFallen_23 rfl
