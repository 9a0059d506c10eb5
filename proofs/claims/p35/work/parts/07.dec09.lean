theorem dzbX9_next_86 : dzB cX9_next 86 [158, 0, 21, 42, 27, 16, 8, 163, 0, 7, 4, 167, 0, 4, 3, 181, 0, 66, 167, 0, 57, 28] := by decide +kernel
theorem dX9_next_86 : decode cX9_next 86 = .ok (.ifCond .le 21, 3) := dz4 dzo158 0 0 21 21 rfl dzbX9_next_86 rfl
theorem dX9_next_89 : decode cX9_next 89 = .ok (.aload_n 0, 1) := dz0 dzo42 3 dzbX9_next_86 rfl
theorem dX9_next_90 : decode cX9_next 90 = .ok (.iload_n 1, 1) := dz0 dzo27 4 dzbX9_next_86 rfl
theorem dX9_next_91 : decode cX9_next 91 = .ok (.bipush 8, 2) := dz3 dzo16 5 8 8 rfl dzbX9_next_86 rfl
theorem dX9_next_93 : decode cX9_next 93 = .ok (.if_icmp .gt 7, 3) := dz4 dzo163 7 0 7 7 rfl dzbX9_next_86 rfl
theorem dX9_next_96 : decode cX9_next 96 = .ok (.iconst 1, 1) := dz0 dzo4 10 dzbX9_next_86 rfl
theorem dX9_next_97 : decode cX9_next 97 = .ok (.goto 4, 3) := dz4 dzo167 11 0 4 4 rfl dzbX9_next_86 rfl
theorem dX9_next_100 : decode cX9_next 100 = .ok (.iconst 0, 1) := dz0 dzo3 14 dzbX9_next_86 rfl
theorem dX9_next_101 : decode cX9_next 101 = .ok (.putfield 66, 3) := dz2 dzo181 15 0 66 dzbX9_next_86 rfl
theorem dX9_next_104 : decode cX9_next 104 = .ok (.goto 57, 3) := dz4 dzo167 18 0 57 57 rfl dzbX9_next_86 rfl
theorem dX9_next_107 : decode cX9_next 107 = .ok (.iload_n 2, 1) := dz0 dzo28 21 dzbX9_next_86 rfl
theorem dzbX9_next_108 : dzB cX9_next 108 [158, 0, 20, 42, 28, 6, 163, 0, 7, 5, 167, 0, 4, 3, 181, 0, 66, 167, 0, 36, 42, 42] := by decide +kernel
theorem dX9_next_108 : decode cX9_next 108 = .ok (.ifCond .le 20, 3) := dz4 dzo158 0 0 20 20 rfl dzbX9_next_108 rfl
theorem dX9_next_111 : decode cX9_next 111 = .ok (.aload_n 0, 1) := dz0 dzo42 3 dzbX9_next_108 rfl
theorem dX9_next_112 : decode cX9_next 112 = .ok (.iload_n 2, 1) := dz0 dzo28 4 dzbX9_next_108 rfl
theorem dX9_next_113 : decode cX9_next 113 = .ok (.iconst 3, 1) := dz0 dzo6 5 dzbX9_next_108 rfl
theorem dX9_next_114 : decode cX9_next 114 = .ok (.if_icmp .gt 7, 3) := dz4 dzo163 6 0 7 7 rfl dzbX9_next_108 rfl
theorem dX9_next_117 : decode cX9_next 117 = .ok (.iconst 2, 1) := dz0 dzo5 9 dzbX9_next_108 rfl
theorem dX9_next_118 : decode cX9_next 118 = .ok (.goto 4, 3) := dz4 dzo167 10 0 4 4 rfl dzbX9_next_108 rfl
theorem dX9_next_121 : decode cX9_next 121 = .ok (.iconst 0, 1) := dz0 dzo3 13 dzbX9_next_108 rfl
theorem dX9_next_122 : decode cX9_next 122 = .ok (.putfield 66, 3) := dz2 dzo181 14 0 66 dzbX9_next_108 rfl
theorem dX9_next_125 : decode cX9_next 125 = .ok (.goto 36, 3) := dz4 dzo167 17 0 36 36 rfl dzbX9_next_108 rfl
theorem dX9_next_128 : decode cX9_next 128 = .ok (.aload_n 0, 1) := dz0 dzo42 20 dzbX9_next_108 rfl
theorem dX9_next_129 : decode cX9_next 129 = .ok (.aload_n 0, 1) := dz0 dzo42 21 dzbX9_next_108 rfl
theorem dzbX9_next_130 : dzB cX9_next 130 [180, 0, 11, 42, 180, 0, 119, 51, 16, 59, 160, 0, 7, 6, 167, 0, 4, 3, 181, 0, 66, 42, 42] := by decide +kernel
theorem dX9_next_130 : decode cX9_next 130 = .ok (.getfield 11, 3) := dz2 dzo180 0 0 11 dzbX9_next_130 rfl
theorem dX9_next_133 : decode cX9_next 133 = .ok (.aload_n 0, 1) := dz0 dzo42 3 dzbX9_next_130 rfl
theorem dX9_next_134 : decode cX9_next 134 = .ok (.getfield 119, 3) := dz2 dzo180 4 0 119 dzbX9_next_130 rfl
theorem dX9_next_137 : decode cX9_next 137 = .ok (.baload, 1) := dz0 dzo51 7 dzbX9_next_130 rfl
theorem dX9_next_138 : decode cX9_next 138 = .ok (.bipush 59, 2) := dz3 dzo16 8 59 59 rfl dzbX9_next_130 rfl
theorem dX9_next_140 : decode cX9_next 140 = .ok (.if_icmp .ne 7, 3) := dz4 dzo160 10 0 7 7 rfl dzbX9_next_130 rfl
theorem dX9_next_143 : decode cX9_next 143 = .ok (.iconst 3, 1) := dz0 dzo6 13 dzbX9_next_130 rfl
theorem dX9_next_144 : decode cX9_next 144 = .ok (.goto 4, 3) := dz4 dzo167 14 0 4 4 rfl dzbX9_next_130 rfl
theorem dX9_next_147 : decode cX9_next 147 = .ok (.iconst 0, 1) := dz0 dzo3 17 dzbX9_next_130 rfl
theorem dX9_next_148 : decode cX9_next 148 = .ok (.putfield 66, 3) := dz2 dzo181 18 0 66 dzbX9_next_130 rfl
theorem dX9_next_151 : decode cX9_next 151 = .ok (.aload_n 0, 1) := dz0 dzo42 21 dzbX9_next_130 rfl
theorem dX9_next_152 : decode cX9_next 152 = .ok (.aload_n 0, 1) := dz0 dzo42 22 dzbX9_next_130 rfl
theorem dzbX9_next_153 : dzB cX9_next 153 [180, 0, 119, 4, 96, 181, 0, 28, 177] := by decide +kernel
theorem dX9_next_153 : decode cX9_next 153 = .ok (.getfield 119, 3) := dz2 dzo180 0 0 119 dzbX9_next_153 rfl
theorem dX9_next_156 : decode cX9_next 156 = .ok (.iconst 1, 1) := dz0 dzo4 3 dzbX9_next_153 rfl
theorem dX9_next_157 : decode cX9_next 157 = .ok (.iadd, 1) := dz0 dzo96 4 dzbX9_next_153 rfl
theorem dX9_next_158 : decode cX9_next 158 = .ok (.putfield 28, 3) := dz2 dzo181 5 0 28 dzbX9_next_153 rfl
theorem dX9_next_161 : decode cX9_next 161 = .ok (.return_, 1) := dz0 dzo177 8 dzbX9_next_153 rfl
theorem dzbX9_read_0 : dzB cX9_read 0 [42, 27, 42, 180, 0, 15, 184, 0, 19, 181, 0, 25, 42, 3, 181, 0, 15, 42, 3, 181, 0, 28, 42, 3] := by decide +kernel
theorem dX9_read_0 : decode cX9_read 0 = .ok (.aload_n 0, 1) := dz0 dzo42 0 dzbX9_read_0 rfl
theorem dX9_read_1 : decode cX9_read 1 = .ok (.iload_n 1, 1) := dz0 dzo27 1 dzbX9_read_0 rfl
theorem dX9_read_2 : decode cX9_read 2 = .ok (.aload_n 0, 1) := dz0 dzo42 2 dzbX9_read_0 rfl
theorem dX9_read_3 : decode cX9_read 3 = .ok (.getfield 15, 3) := dz2 dzo180 3 0 15 dzbX9_read_0 rfl
theorem dX9_read_6 : decode cX9_read 6 = .ok (.invokestatic 19, 3) := dz2 dzo184 6 0 19 dzbX9_read_0 rfl
theorem dX9_read_9 : decode cX9_read 9 = .ok (.putfield 25, 3) := dz2 dzo181 9 0 25 dzbX9_read_0 rfl
theorem dX9_read_12 : decode cX9_read 12 = .ok (.aload_n 0, 1) := dz0 dzo42 12 dzbX9_read_0 rfl
theorem dX9_read_13 : decode cX9_read 13 = .ok (.iconst 0, 1) := dz0 dzo3 13 dzbX9_read_0 rfl
theorem dX9_read_14 : decode cX9_read 14 = .ok (.putfield 15, 3) := dz2 dzo181 14 0 15 dzbX9_read_0 rfl
theorem dX9_read_17 : decode cX9_read 17 = .ok (.aload_n 0, 1) := dz0 dzo42 17 dzbX9_read_0 rfl
theorem dX9_read_18 : decode cX9_read 18 = .ok (.iconst 0, 1) := dz0 dzo3 18 dzbX9_read_0 rfl
theorem dX9_read_19 : decode cX9_read 19 = .ok (.putfield 28, 3) := dz2 dzo181 19 0 28 dzbX9_read_0 rfl
theorem dX9_read_22 : decode cX9_read 22 = .ok (.aload_n 0, 1) := dz0 dzo42 22 dzbX9_read_0 rfl
theorem dX9_read_23 : decode cX9_read 23 = .ok (.iconst 0, 1) := dz0 dzo3 23 dzbX9_read_0 rfl
theorem dzbX9_read_24 : dzB cX9_read 24 [181, 0, 31, 42, 2, 181, 0, 34, 44, 182, 0, 37, 42, 182, 0, 42, 3, 62, 29, 17, 3, 32] := by decide +kernel
theorem dX9_read_24 : decode cX9_read 24 = .ok (.putfield 31, 3) := dz2 dzo181 0 0 31 dzbX9_read_24 rfl
theorem dX9_read_27 : decode cX9_read 27 = .ok (.aload_n 0, 1) := dz0 dzo42 3 dzbX9_read_24 rfl
theorem dX9_read_28 : decode cX9_read 28 = .ok (.iconst (-1), 1) := dz0 dzo2 4 dzbX9_read_24 rfl
theorem dX9_read_29 : decode cX9_read 29 = .ok (.putfield 34, 3) := dz2 dzo181 5 0 34 dzbX9_read_24 rfl
theorem dX9_read_32 : decode cX9_read 32 = .ok (.aload_n 2, 1) := dz0 dzo44 8 dzbX9_read_24 rfl
theorem dX9_read_33 : decode cX9_read 33 = .ok (.invokevirtual 37, 3) := dz2 dzo182 9 0 37 dzbX9_read_24 rfl
theorem dX9_read_36 : decode cX9_read 36 = .ok (.aload_n 0, 1) := dz0 dzo42 12 dzbX9_read_24 rfl
theorem dX9_read_37 : decode cX9_read 37 = .ok (.invokevirtual 42, 3) := dz2 dzo182 13 0 42 dzbX9_read_24 rfl
theorem dX9_read_40 : decode cX9_read 40 = .ok (.iconst 0, 1) := dz0 dzo3 16 dzbX9_read_24 rfl
theorem dX9_read_41 : decode cX9_read 41 = .ok (.istore_n 3, 1) := dz0 dzo62 17 dzbX9_read_24 rfl
theorem dX9_read_42 : decode cX9_read 42 = .ok (.iload_n 3, 1) := dz0 dzo29 18 dzbX9_read_24 rfl
theorem dX9_read_43 : decode cX9_read 43 = .ok (.sipush 800, 3) := dz4 dzo17 19 3 32 800 rfl dzbX9_read_24 rfl
theorem dzbX9_read_46 : dzB cX9_read 46 [163, 0, 146, 42, 182, 0, 45] := by decide +kernel
theorem dX9_read_46 : decode cX9_read 46 = .ok (.if_icmp .gt 146, 3) := dz4 dzo163 0 0 146 146 rfl dzbX9_read_46 rfl
theorem dX9_read_49 : decode cX9_read 49 = .ok (.aload_n 0, 1) := dz0 dzo42 3 dzbX9_read_46 rfl
theorem dX9_read_50 : decode cX9_read 50 = .ok (.invokevirtual 45, 3) := dz2 dzo182 4 0 45 dzbX9_read_46 rfl
theorem dX9_read_53 : decode cX9_read 53 = .ok (.tableswitch 71 0 3 #[31, 41, 51, 61], 31) := by decide +kernel
theorem dzbX9_read_84 : dzB cX9_read 84 [42, 44, 182, 0, 49, 54, 4, 167, 0, 40, 42, 44, 182, 0, 53, 54, 4, 167, 0, 30, 42, 44] := by decide +kernel
theorem dX9_read_84 : decode cX9_read 84 = .ok (.aload_n 0, 1) := dz0 dzo42 0 dzbX9_read_84 rfl
theorem dX9_read_85 : decode cX9_read 85 = .ok (.aload_n 2, 1) := dz0 dzo44 1 dzbX9_read_84 rfl
theorem dX9_read_86 : decode cX9_read 86 = .ok (.invokevirtual 49, 3) := dz2 dzo182 2 0 49 dzbX9_read_84 rfl
theorem dX9_read_89 : decode cX9_read 89 = .ok (.istore 4, 2) := dz1 dzo54 5 4 dzbX9_read_84 rfl
theorem dX9_read_91 : decode cX9_read 91 = .ok (.goto 40, 3) := dz4 dzo167 7 0 40 40 rfl dzbX9_read_84 rfl
theorem dX9_read_94 : decode cX9_read 94 = .ok (.aload_n 0, 1) := dz0 dzo42 10 dzbX9_read_84 rfl
theorem dX9_read_95 : decode cX9_read 95 = .ok (.aload_n 2, 1) := dz0 dzo44 11 dzbX9_read_84 rfl
theorem dX9_read_96 : decode cX9_read 96 = .ok (.invokevirtual 53, 3) := dz2 dzo182 12 0 53 dzbX9_read_84 rfl
theorem dX9_read_99 : decode cX9_read 99 = .ok (.istore 4, 2) := dz1 dzo54 15 4 dzbX9_read_84 rfl
theorem dX9_read_101 : decode cX9_read 101 = .ok (.goto 30, 3) := dz4 dzo167 17 0 30 30 rfl dzbX9_read_84 rfl
theorem dX9_read_104 : decode cX9_read 104 = .ok (.aload_n 0, 1) := dz0 dzo42 20 dzbX9_read_84 rfl
theorem dX9_read_105 : decode cX9_read 105 = .ok (.aload_n 2, 1) := dz0 dzo44 21 dzbX9_read_84 rfl
theorem dzbX9_read_106 : dzB cX9_read 106 [182, 0, 56, 54, 4, 167, 0, 20, 42, 44, 182, 0, 59, 54, 4, 167, 0, 10, 42, 4, 182, 0, 62] := by decide +kernel
theorem dX9_read_106 : decode cX9_read 106 = .ok (.invokevirtual 56, 3) := dz2 dzo182 0 0 56 dzbX9_read_106 rfl
theorem dX9_read_109 : decode cX9_read 109 = .ok (.istore 4, 2) := dz1 dzo54 3 4 dzbX9_read_106 rfl
theorem dX9_read_111 : decode cX9_read 111 = .ok (.goto 20, 3) := dz4 dzo167 5 0 20 20 rfl dzbX9_read_106 rfl
theorem dX9_read_114 : decode cX9_read 114 = .ok (.aload_n 0, 1) := dz0 dzo42 8 dzbX9_read_106 rfl
theorem dX9_read_115 : decode cX9_read 115 = .ok (.aload_n 2, 1) := dz0 dzo44 9 dzbX9_read_106 rfl
theorem dX9_read_116 : decode cX9_read 116 = .ok (.invokevirtual 59, 3) := dz2 dzo182 10 0 59 dzbX9_read_106 rfl
theorem dX9_read_119 : decode cX9_read 119 = .ok (.istore 4, 2) := dz1 dzo54 13 4 dzbX9_read_106 rfl
theorem dX9_read_121 : decode cX9_read 121 = .ok (.goto 10, 3) := dz4 dzo167 15 0 10 10 rfl dzbX9_read_106 rfl
theorem dX9_read_124 : decode cX9_read 124 = .ok (.aload_n 0, 1) := dz0 dzo42 18 dzbX9_read_106 rfl
theorem dX9_read_125 : decode cX9_read 125 = .ok (.iconst 1, 1) := dz0 dzo4 19 dzbX9_read_106 rfl
theorem dX9_read_126 : decode cX9_read 126 = .ok (.invokevirtual 62, 3) := dz2 dzo182 20 0 62 dzbX9_read_106 rfl
theorem dzbX9_read_129 : dzB cX9_read 129 [54, 4, 21, 4, 154, 0, 5, 3, 172, 42, 180, 0, 66, 7, 160, 0, 25, 44, 182, 0, 69, 154, 0, 12] := by decide +kernel
theorem dX9_read_129 : decode cX9_read 129 = .ok (.istore 4, 2) := dz1 dzo54 0 4 dzbX9_read_129 rfl
theorem dX9_read_131 : decode cX9_read 131 = .ok (.iload 4, 2) := dz1 dzo21 2 4 dzbX9_read_129 rfl
theorem dX9_read_133 : decode cX9_read 133 = .ok (.ifCond .ne 5, 3) := dz4 dzo154 4 0 5 5 rfl dzbX9_read_129 rfl
theorem dX9_read_136 : decode cX9_read 136 = .ok (.iconst 0, 1) := dz0 dzo3 7 dzbX9_read_129 rfl
theorem dX9_read_137 : decode cX9_read 137 = .ok (.ireturn, 1) := dz0 dzo172 8 dzbX9_read_129 rfl
theorem dX9_read_138 : decode cX9_read 138 = .ok (.aload_n 0, 1) := dz0 dzo42 9 dzbX9_read_129 rfl
theorem dX9_read_139 : decode cX9_read 139 = .ok (.getfield 66, 3) := dz2 dzo180 10 0 66 dzbX9_read_129 rfl
theorem dX9_read_142 : decode cX9_read 142 = .ok (.iconst 4, 1) := dz0 dzo7 13 dzbX9_read_129 rfl
theorem dX9_read_143 : decode cX9_read 143 = .ok (.if_icmp .ne 25, 3) := dz4 dzo160 14 0 25 25 rfl dzbX9_read_129 rfl
theorem dX9_read_146 : decode cX9_read 146 = .ok (.aload_n 2, 1) := dz0 dzo44 17 dzbX9_read_129 rfl
theorem dX9_read_147 : decode cX9_read 147 = .ok (.invokevirtual 69, 3) := dz2 dzo182 18 0 69 dzbX9_read_129 rfl
theorem dX9_read_150 : decode cX9_read 150 = .ok (.ifCond .ne 12, 3) := dz4 dzo154 21 0 12 12 rfl dzbX9_read_129 rfl
theorem dzbX9_read_153 : dzB cX9_read 153 [42, 16, 6, 182, 0, 62, 153, 0, 7, 4, 167, 0, 4, 3, 172, 42, 180, 0, 66, 6, 159, 0, 9, 42] := by decide +kernel
theorem dX9_read_153 : decode cX9_read 153 = .ok (.aload_n 0, 1) := dz0 dzo42 0 dzbX9_read_153 rfl
theorem dX9_read_154 : decode cX9_read 154 = .ok (.bipush 6, 2) := dz3 dzo16 1 6 6 rfl dzbX9_read_153 rfl
theorem dX9_read_156 : decode cX9_read 156 = .ok (.invokevirtual 62, 3) := dz2 dzo182 3 0 62 dzbX9_read_153 rfl
theorem dX9_read_159 : decode cX9_read 159 = .ok (.ifCond .eq 7, 3) := dz4 dzo153 6 0 7 7 rfl dzbX9_read_153 rfl
theorem dX9_read_162 : decode cX9_read 162 = .ok (.iconst 1, 1) := dz0 dzo4 9 dzbX9_read_153 rfl
theorem dX9_read_163 : decode cX9_read 163 = .ok (.goto 4, 3) := dz4 dzo167 10 0 4 4 rfl dzbX9_read_153 rfl
theorem dX9_read_166 : decode cX9_read 166 = .ok (.iconst 0, 1) := dz0 dzo3 13 dzbX9_read_153 rfl
theorem dX9_read_167 : decode cX9_read 167 = .ok (.ireturn, 1) := dz0 dzo172 14 dzbX9_read_153 rfl
theorem dX9_read_168 : decode cX9_read 168 = .ok (.aload_n 0, 1) := dz0 dzo42 15 dzbX9_read_153 rfl
theorem dX9_read_169 : decode cX9_read 169 = .ok (.getfield 66, 3) := dz2 dzo180 16 0 66 dzbX9_read_153 rfl
theorem dX9_read_172 : decode cX9_read 172 = .ok (.iconst 3, 1) := dz0 dzo6 19 dzbX9_read_153 rfl
theorem dX9_read_173 : decode cX9_read 173 = .ok (.if_icmp .eq 9, 3) := dz4 dzo159 20 0 9 9 rfl dzbX9_read_153 rfl
theorem dX9_read_176 : decode cX9_read 176 = .ok (.aload_n 0, 1) := dz0 dzo42 23 dzbX9_read_153 rfl
theorem dzbX9_read_177 : dzB cX9_read 177 [4, 182, 0, 62, 172, 42, 182, 0, 42, 132, 3, 1, 167, 255, 109, 42, 4, 182, 0, 62, 172] := by decide +kernel
theorem dX9_read_177 : decode cX9_read 177 = .ok (.iconst 1, 1) := dz0 dzo4 0 dzbX9_read_177 rfl
theorem dX9_read_178 : decode cX9_read 178 = .ok (.invokevirtual 62, 3) := dz2 dzo182 1 0 62 dzbX9_read_177 rfl
theorem dX9_read_181 : decode cX9_read 181 = .ok (.ireturn, 1) := dz0 dzo172 4 dzbX9_read_177 rfl
theorem dX9_read_182 : decode cX9_read 182 = .ok (.aload_n 0, 1) := dz0 dzo42 5 dzbX9_read_177 rfl
theorem dX9_read_183 : decode cX9_read 183 = .ok (.invokevirtual 42, 3) := dz2 dzo182 6 0 42 dzbX9_read_177 rfl
theorem dX9_read_186 : decode cX9_read 186 = .ok (.iinc 3 1, 3) := dz5 dzo132 9 3 1 1 rfl dzbX9_read_177 rfl
theorem dX9_read_189 : decode cX9_read 189 = .ok (.goto (-147), 3) := dz4 dzo167 12 255 109 (-147) rfl dzbX9_read_177 rfl
theorem dX9_read_192 : decode cX9_read 192 = .ok (.aload_n 0, 1) := dz0 dzo42 15 dzbX9_read_177 rfl
theorem dX9_read_193 : decode cX9_read 193 = .ok (.iconst 1, 1) := dz0 dzo4 16 dzbX9_read_177 rfl
theorem dX9_read_194 : decode cX9_read 194 = .ok (.invokevirtual 62, 3) := dz2 dzo182 17 0 62 dzbX9_read_177 rfl
theorem dX9_read_197 : decode cX9_read 197 = .ok (.ireturn, 1) := dz0 dzo172 20 dzbX9_read_177 rfl
theorem dzbX9_readPark_0 : dzB cX9_readPark 0 [43, 182, 0, 73, 153, 0, 9, 42, 6, 182, 0, 62, 172, 42, 182, 0, 42, 42, 18, 76, 182, 0, 78] := by decide +kernel
theorem dX9_readPark_0 : decode cX9_readPark 0 = .ok (.aload_n 1, 1) := dz0 dzo43 0 dzbX9_readPark_0 rfl
theorem dX9_readPark_1 : decode cX9_readPark 1 = .ok (.invokevirtual 73, 3) := dz2 dzo182 1 0 73 dzbX9_readPark_0 rfl
theorem dX9_readPark_4 : decode cX9_readPark 4 = .ok (.ifCond .eq 9, 3) := dz4 dzo153 4 0 9 9 rfl dzbX9_readPark_0 rfl
theorem dX9_readPark_7 : decode cX9_readPark 7 = .ok (.aload_n 0, 1) := dz0 dzo42 7 dzbX9_readPark_0 rfl
theorem dX9_readPark_8 : decode cX9_readPark 8 = .ok (.iconst 3, 1) := dz0 dzo6 8 dzbX9_readPark_0 rfl
theorem dX9_readPark_9 : decode cX9_readPark 9 = .ok (.invokevirtual 62, 3) := dz2 dzo182 9 0 62 dzbX9_readPark_0 rfl
theorem dX9_readPark_12 : decode cX9_readPark 12 = .ok (.ireturn, 1) := dz0 dzo172 12 dzbX9_readPark_0 rfl
theorem dX9_readPark_13 : decode cX9_readPark 13 = .ok (.aload_n 0, 1) := dz0 dzo42 13 dzbX9_readPark_0 rfl
theorem dX9_readPark_14 : decode cX9_readPark 14 = .ok (.invokevirtual 42, 3) := dz2 dzo182 14 0 42 dzbX9_readPark_0 rfl
theorem dX9_readPark_17 : decode cX9_readPark 17 = .ok (.aload_n 0, 1) := dz0 dzo42 17 dzbX9_readPark_0 rfl
theorem dX9_readPark_18 : decode cX9_readPark 18 = .ok (.ldc 76, 2) := dz1 dzo18 18 76 dzbX9_readPark_0 rfl
theorem dX9_readPark_20 : decode cX9_readPark 20 = .ok (.invokevirtual 78, 3) := dz2 dzo182 20 0 78 dzbX9_readPark_0 rfl
theorem dzbX9_readPark_23 : dzB cX9_readPark 23 [153, 0, 12, 42, 5, 8, 182, 0, 82, 154, 0, 5, 3, 172, 42, 180, 0, 86, 61, 42, 18, 89] := by decide +kernel
theorem dX9_readPark_23 : decode cX9_readPark 23 = .ok (.ifCond .eq 12, 3) := dz4 dzo153 0 0 12 12 rfl dzbX9_readPark_23 rfl
theorem dX9_readPark_26 : decode cX9_readPark 26 = .ok (.aload_n 0, 1) := dz0 dzo42 3 dzbX9_readPark_23 rfl
theorem dX9_readPark_27 : decode cX9_readPark 27 = .ok (.iconst 2, 1) := dz0 dzo5 4 dzbX9_readPark_23 rfl
theorem dX9_readPark_28 : decode cX9_readPark 28 = .ok (.iconst 5, 1) := dz0 dzo8 5 dzbX9_readPark_23 rfl
theorem dX9_readPark_29 : decode cX9_readPark 29 = .ok (.invokevirtual 82, 3) := dz2 dzo182 6 0 82 dzbX9_readPark_23 rfl
theorem dX9_readPark_32 : decode cX9_readPark 32 = .ok (.ifCond .ne 5, 3) := dz4 dzo154 9 0 5 5 rfl dzbX9_readPark_23 rfl
theorem dX9_readPark_35 : decode cX9_readPark 35 = .ok (.iconst 0, 1) := dz0 dzo3 12 dzbX9_readPark_23 rfl
theorem dX9_readPark_36 : decode cX9_readPark 36 = .ok (.ireturn, 1) := dz0 dzo172 13 dzbX9_readPark_23 rfl
theorem dX9_readPark_37 : decode cX9_readPark 37 = .ok (.aload_n 0, 1) := dz0 dzo42 14 dzbX9_readPark_23 rfl
theorem dX9_readPark_38 : decode cX9_readPark 38 = .ok (.getfield 86, 3) := dz2 dzo180 15 0 86 dzbX9_readPark_23 rfl
theorem dX9_readPark_41 : decode cX9_readPark 41 = .ok (.istore_n 2, 1) := dz0 dzo61 18 dzbX9_readPark_23 rfl
theorem dX9_readPark_42 : decode cX9_readPark 42 = .ok (.aload_n 0, 1) := dz0 dzo42 19 dzbX9_readPark_23 rfl
theorem dX9_readPark_43 : decode cX9_readPark 43 = .ok (.ldc 89, 2) := dz1 dzo18 20 89 dzbX9_readPark_23 rfl
theorem dzbX9_readPark_45 : dzB cX9_readPark 45 [182, 0, 78, 153, 0, 12, 42, 5, 7, 182, 0, 82, 154, 0, 5, 3, 172, 42, 180, 0, 86, 62, 42] := by decide +kernel
theorem dX9_readPark_45 : decode cX9_readPark 45 = .ok (.invokevirtual 78, 3) := dz2 dzo182 0 0 78 dzbX9_readPark_45 rfl
theorem dX9_readPark_48 : decode cX9_readPark 48 = .ok (.ifCond .eq 12, 3) := dz4 dzo153 3 0 12 12 rfl dzbX9_readPark_45 rfl
theorem dX9_readPark_51 : decode cX9_readPark 51 = .ok (.aload_n 0, 1) := dz0 dzo42 6 dzbX9_readPark_45 rfl
theorem dX9_readPark_52 : decode cX9_readPark 52 = .ok (.iconst 2, 1) := dz0 dzo5 7 dzbX9_readPark_45 rfl
theorem dX9_readPark_53 : decode cX9_readPark 53 = .ok (.iconst 4, 1) := dz0 dzo7 8 dzbX9_readPark_45 rfl
theorem dX9_readPark_54 : decode cX9_readPark 54 = .ok (.invokevirtual 82, 3) := dz2 dzo182 9 0 82 dzbX9_readPark_45 rfl
theorem dX9_readPark_57 : decode cX9_readPark 57 = .ok (.ifCond .ne 5, 3) := dz4 dzo154 12 0 5 5 rfl dzbX9_readPark_45 rfl
theorem dX9_readPark_60 : decode cX9_readPark 60 = .ok (.iconst 0, 1) := dz0 dzo3 15 dzbX9_readPark_45 rfl
theorem dX9_readPark_61 : decode cX9_readPark 61 = .ok (.ireturn, 1) := dz0 dzo172 16 dzbX9_readPark_45 rfl
theorem dX9_readPark_62 : decode cX9_readPark 62 = .ok (.aload_n 0, 1) := dz0 dzo42 17 dzbX9_readPark_45 rfl
theorem dX9_readPark_63 : decode cX9_readPark 63 = .ok (.getfield 86, 3) := dz2 dzo180 18 0 86 dzbX9_readPark_45 rfl
theorem dX9_readPark_66 : decode cX9_readPark 66 = .ok (.istore_n 3, 1) := dz0 dzo62 21 dzbX9_readPark_45 rfl
theorem dX9_readPark_67 : decode cX9_readPark 67 = .ok (.aload_n 0, 1) := dz0 dzo42 22 dzbX9_readPark_45 rfl
theorem dzbX9_readPark_68 : dzB cX9_readPark 68 [18, 91, 182, 0, 78, 153, 0, 13, 42, 3, 16, 100, 182, 0, 82, 154, 0, 5, 3, 172, 43, 42] := by decide +kernel
theorem dX9_readPark_68 : decode cX9_readPark 68 = .ok (.ldc 91, 2) := dz1 dzo18 0 91 dzbX9_readPark_68 rfl
theorem dX9_readPark_70 : decode cX9_readPark 70 = .ok (.invokevirtual 78, 3) := dz2 dzo182 2 0 78 dzbX9_readPark_68 rfl
theorem dX9_readPark_73 : decode cX9_readPark 73 = .ok (.ifCond .eq 13, 3) := dz4 dzo153 5 0 13 13 rfl dzbX9_readPark_68 rfl
theorem dX9_readPark_76 : decode cX9_readPark 76 = .ok (.aload_n 0, 1) := dz0 dzo42 8 dzbX9_readPark_68 rfl
theorem dX9_readPark_77 : decode cX9_readPark 77 = .ok (.iconst 0, 1) := dz0 dzo3 9 dzbX9_readPark_68 rfl
theorem dX9_readPark_78 : decode cX9_readPark 78 = .ok (.bipush 100, 2) := dz3 dzo16 10 100 100 rfl dzbX9_readPark_68 rfl
theorem dX9_readPark_80 : decode cX9_readPark 80 = .ok (.invokevirtual 82, 3) := dz2 dzo182 12 0 82 dzbX9_readPark_68 rfl
theorem dX9_readPark_83 : decode cX9_readPark 83 = .ok (.ifCond .ne 5, 3) := dz4 dzo154 15 0 5 5 rfl dzbX9_readPark_68 rfl
theorem dX9_readPark_86 : decode cX9_readPark 86 = .ok (.iconst 0, 1) := dz0 dzo3 18 dzbX9_readPark_68 rfl
theorem dX9_readPark_87 : decode cX9_readPark 87 = .ok (.ireturn, 1) := dz0 dzo172 19 dzbX9_readPark_68 rfl
theorem dX9_readPark_88 : decode cX9_readPark 88 = .ok (.aload_n 1, 1) := dz0 dzo43 20 dzbX9_readPark_68 rfl
theorem dX9_readPark_89 : decode cX9_readPark 89 = .ok (.aload_n 0, 1) := dz0 dzo42 21 dzbX9_readPark_68 rfl
theorem dzbX9_readPark_90 : dzB cX9_readPark 90 [180, 0, 86, 181, 0, 93, 42, 18, 95, 182, 0, 78, 153, 0, 13, 42, 3, 16, 100, 182, 0, 82] := by decide +kernel
theorem dX9_readPark_90 : decode cX9_readPark 90 = .ok (.getfield 86, 3) := dz2 dzo180 0 0 86 dzbX9_readPark_90 rfl
theorem dX9_readPark_93 : decode cX9_readPark 93 = .ok (.putfield 93, 3) := dz2 dzo181 3 0 93 dzbX9_readPark_90 rfl
theorem dX9_readPark_96 : decode cX9_readPark 96 = .ok (.aload_n 0, 1) := dz0 dzo42 6 dzbX9_readPark_90 rfl
theorem dX9_readPark_97 : decode cX9_readPark 97 = .ok (.ldc 95, 2) := dz1 dzo18 7 95 dzbX9_readPark_90 rfl
theorem dX9_readPark_99 : decode cX9_readPark 99 = .ok (.invokevirtual 78, 3) := dz2 dzo182 9 0 78 dzbX9_readPark_90 rfl
theorem dX9_readPark_102 : decode cX9_readPark 102 = .ok (.ifCond .eq 13, 3) := dz4 dzo153 12 0 13 13 rfl dzbX9_readPark_90 rfl
theorem dX9_readPark_105 : decode cX9_readPark 105 = .ok (.aload_n 0, 1) := dz0 dzo42 15 dzbX9_readPark_90 rfl
theorem dX9_readPark_106 : decode cX9_readPark 106 = .ok (.iconst 0, 1) := dz0 dzo3 16 dzbX9_readPark_90 rfl
theorem dX9_readPark_107 : decode cX9_readPark 107 = .ok (.bipush 100, 2) := dz3 dzo16 17 100 100 rfl dzbX9_readPark_90 rfl
theorem dX9_readPark_109 : decode cX9_readPark 109 = .ok (.invokevirtual 82, 3) := dz2 dzo182 19 0 82 dzbX9_readPark_90 rfl
theorem dzbX9_readPark_112 : dzB cX9_readPark 112 [154, 0, 5, 3, 172, 43, 42, 180, 0, 86, 181, 0, 97, 43, 180, 0, 99, 28, 29, 182, 0, 103, 4, 172] := by decide +kernel
theorem dX9_readPark_112 : decode cX9_readPark 112 = .ok (.ifCond .ne 5, 3) := dz4 dzo154 0 0 5 5 rfl dzbX9_readPark_112 rfl
theorem dX9_readPark_115 : decode cX9_readPark 115 = .ok (.iconst 0, 1) := dz0 dzo3 3 dzbX9_readPark_112 rfl
theorem dX9_readPark_116 : decode cX9_readPark 116 = .ok (.ireturn, 1) := dz0 dzo172 4 dzbX9_readPark_112 rfl
theorem dX9_readPark_117 : decode cX9_readPark 117 = .ok (.aload_n 1, 1) := dz0 dzo43 5 dzbX9_readPark_112 rfl
theorem dX9_readPark_118 : decode cX9_readPark 118 = .ok (.aload_n 0, 1) := dz0 dzo42 6 dzbX9_readPark_112 rfl
theorem dX9_readPark_119 : decode cX9_readPark 119 = .ok (.getfield 86, 3) := dz2 dzo180 7 0 86 dzbX9_readPark_112 rfl
theorem dX9_readPark_122 : decode cX9_readPark 122 = .ok (.putfield 97, 3) := dz2 dzo181 10 0 97 dzbX9_readPark_112 rfl
theorem dX9_readPark_125 : decode cX9_readPark 125 = .ok (.aload_n 1, 1) := dz0 dzo43 13 dzbX9_readPark_112 rfl
theorem dX9_readPark_126 : decode cX9_readPark 126 = .ok (.getfield 99, 3) := dz2 dzo180 14 0 99 dzbX9_readPark_112 rfl
theorem dX9_readPark_129 : decode cX9_readPark 129 = .ok (.iload_n 2, 1) := dz0 dzo28 17 dzbX9_readPark_112 rfl
theorem dX9_readPark_130 : decode cX9_readPark 130 = .ok (.iload_n 3, 1) := dz0 dzo29 18 dzbX9_readPark_112 rfl
theorem dX9_readPark_131 : decode cX9_readPark 131 = .ok (.invokevirtual 103, 3) := dz2 dzo182 19 0 103 dzbX9_readPark_112 rfl
theorem dX9_readPark_134 : decode cX9_readPark 134 = .ok (.iconst 1, 1) := dz0 dzo4 22 dzbX9_readPark_112 rfl
theorem dX9_readPark_135 : decode cX9_readPark 135 = .ok (.ireturn, 1) := dz0 dzo172 23 dzbX9_readPark_112 rfl
theorem dzbX9_readPlace_0 : dzB cX9_readPlace 0 [42, 3, 43, 180, 0, 109, 4, 100, 182, 0, 82, 154, 0, 5, 3, 172, 42, 180, 0, 86, 62, 42] := by decide +kernel
theorem dX9_readPlace_0 : decode cX9_readPlace 0 = .ok (.aload_n 0, 1) := dz0 dzo42 0 dzbX9_readPlace_0 rfl
theorem dX9_readPlace_1 : decode cX9_readPlace 1 = .ok (.iconst 0, 1) := dz0 dzo3 1 dzbX9_readPlace_0 rfl
theorem dX9_readPlace_2 : decode cX9_readPlace 2 = .ok (.aload_n 1, 1) := dz0 dzo43 2 dzbX9_readPlace_0 rfl
theorem dX9_readPlace_3 : decode cX9_readPlace 3 = .ok (.getfield 109, 3) := dz2 dzo180 3 0 109 dzbX9_readPlace_0 rfl
theorem dX9_readPlace_6 : decode cX9_readPlace 6 = .ok (.iconst 1, 1) := dz0 dzo4 6 dzbX9_readPlace_0 rfl
theorem dX9_readPlace_7 : decode cX9_readPlace 7 = .ok (.isub, 1) := dz0 dzo100 7 dzbX9_readPlace_0 rfl
theorem dX9_readPlace_8 : decode cX9_readPlace 8 = .ok (.invokevirtual 82, 3) := dz2 dzo182 8 0 82 dzbX9_readPlace_0 rfl
theorem dX9_readPlace_11 : decode cX9_readPlace 11 = .ok (.ifCond .ne 5, 3) := dz4 dzo154 11 0 5 5 rfl dzbX9_readPlace_0 rfl
theorem dX9_readPlace_14 : decode cX9_readPlace 14 = .ok (.iconst 0, 1) := dz0 dzo3 14 dzbX9_readPlace_0 rfl
theorem dX9_readPlace_15 : decode cX9_readPlace 15 = .ok (.ireturn, 1) := dz0 dzo172 15 dzbX9_readPlace_0 rfl
theorem dX9_readPlace_16 : decode cX9_readPlace 16 = .ok (.aload_n 0, 1) := dz0 dzo42 16 dzbX9_readPlace_0 rfl
theorem dX9_readPlace_17 : decode cX9_readPlace 17 = .ok (.getfield 86, 3) := dz2 dzo180 17 0 86 dzbX9_readPlace_0 rfl
theorem dX9_readPlace_20 : decode cX9_readPlace 20 = .ok (.istore_n 3, 1) := dz0 dzo62 20 dzbX9_readPlace_0 rfl
theorem dX9_readPlace_21 : decode cX9_readPlace 21 = .ok (.aload_n 0, 1) := dz0 dzo42 21 dzbX9_readPlace_0 rfl
theorem dzbX9_readPlace_22 : dzB cX9_readPlace 22 [180, 0, 119, 54, 4, 42, 3, 43, 180, 0, 198, 4, 100, 182, 0, 82, 154, 0, 5, 3, 172, 42, 42] := by decide +kernel
theorem dX9_readPlace_22 : decode cX9_readPlace 22 = .ok (.getfield 119, 3) := dz2 dzo180 0 0 119 dzbX9_readPlace_22 rfl
theorem dX9_readPlace_25 : decode cX9_readPlace 25 = .ok (.istore 4, 2) := dz1 dzo54 3 4 dzbX9_readPlace_22 rfl
theorem dX9_readPlace_27 : decode cX9_readPlace 27 = .ok (.aload_n 0, 1) := dz0 dzo42 5 dzbX9_readPlace_22 rfl
theorem dX9_readPlace_28 : decode cX9_readPlace 28 = .ok (.iconst 0, 1) := dz0 dzo3 6 dzbX9_readPlace_22 rfl
theorem dX9_readPlace_29 : decode cX9_readPlace 29 = .ok (.aload_n 1, 1) := dz0 dzo43 7 dzbX9_readPlace_22 rfl
theorem dX9_readPlace_30 : decode cX9_readPlace 30 = .ok (.getfield 198, 3) := dz2 dzo180 8 0 198 dzbX9_readPlace_22 rfl
theorem dX9_readPlace_33 : decode cX9_readPlace 33 = .ok (.iconst 1, 1) := dz0 dzo4 11 dzbX9_readPlace_22 rfl
theorem dX9_readPlace_34 : decode cX9_readPlace 34 = .ok (.isub, 1) := dz0 dzo100 12 dzbX9_readPlace_22 rfl
theorem dX9_readPlace_35 : decode cX9_readPlace 35 = .ok (.invokevirtual 82, 3) := dz2 dzo182 13 0 82 dzbX9_readPlace_22 rfl
theorem dX9_readPlace_38 : decode cX9_readPlace 38 = .ok (.ifCond .ne 5, 3) := dz4 dzo154 16 0 5 5 rfl dzbX9_readPlace_22 rfl
theorem dX9_readPlace_41 : decode cX9_readPlace 41 = .ok (.iconst 0, 1) := dz0 dzo3 19 dzbX9_readPlace_22 rfl
theorem dX9_readPlace_42 : decode cX9_readPlace 42 = .ok (.ireturn, 1) := dz0 dzo172 20 dzbX9_readPlace_22 rfl
theorem dX9_readPlace_43 : decode cX9_readPlace 43 = .ok (.aload_n 0, 1) := dz0 dzo42 21 dzbX9_readPlace_22 rfl
theorem dX9_readPlace_44 : decode cX9_readPlace 44 = .ok (.aload_n 0, 1) := dz0 dzo42 22 dzbX9_readPlace_22 rfl
theorem dzbX9_readPlace_45 : dzB cX9_readPlace 45 [180, 0, 86, 43, 180, 0, 109, 104, 29, 96, 181, 0, 86, 28, 154, 0, 28, 43, 42, 180, 0, 86] := by decide +kernel
theorem dX9_readPlace_45 : decode cX9_readPlace 45 = .ok (.getfield 86, 3) := dz2 dzo180 0 0 86 dzbX9_readPlace_45 rfl
theorem dX9_readPlace_48 : decode cX9_readPlace 48 = .ok (.aload_n 1, 1) := dz0 dzo43 3 dzbX9_readPlace_45 rfl
theorem dX9_readPlace_49 : decode cX9_readPlace 49 = .ok (.getfield 109, 3) := dz2 dzo180 4 0 109 dzbX9_readPlace_45 rfl
theorem dX9_readPlace_52 : decode cX9_readPlace 52 = .ok (.imul, 1) := dz0 dzo104 7 dzbX9_readPlace_45 rfl
theorem dX9_readPlace_53 : decode cX9_readPlace 53 = .ok (.iload_n 3, 1) := dz0 dzo29 8 dzbX9_readPlace_45 rfl
theorem dX9_readPlace_54 : decode cX9_readPlace 54 = .ok (.iadd, 1) := dz0 dzo96 9 dzbX9_readPlace_45 rfl
theorem dX9_readPlace_55 : decode cX9_readPlace 55 = .ok (.putfield 86, 3) := dz2 dzo181 10 0 86 dzbX9_readPlace_45 rfl
theorem dX9_readPlace_58 : decode cX9_readPlace 58 = .ok (.iload_n 2, 1) := dz0 dzo28 13 dzbX9_readPlace_45 rfl
theorem dX9_readPlace_59 : decode cX9_readPlace 59 = .ok (.ifCond .ne 28, 3) := dz4 dzo154 14 0 28 28 rfl dzbX9_readPlace_45 rfl
theorem dX9_readPlace_62 : decode cX9_readPlace 62 = .ok (.aload_n 1, 1) := dz0 dzo43 17 dzbX9_readPlace_45 rfl
theorem dX9_readPlace_63 : decode cX9_readPlace 63 = .ok (.aload_n 0, 1) := dz0 dzo42 18 dzbX9_readPlace_45 rfl
theorem dX9_readPlace_64 : decode cX9_readPlace 64 = .ok (.getfield 86, 3) := dz2 dzo180 19 0 86 dzbX9_readPlace_45 rfl
theorem dzbX9_readPlace_67 : dzB cX9_readPlace 67 [182, 0, 200, 6, 160, 0, 16, 42, 21, 4, 181, 0, 119, 42, 16, 7, 182, 0, 62, 172, 4, 172] := by decide +kernel
theorem dX9_readPlace_67 : decode cX9_readPlace 67 = .ok (.invokevirtual 200, 3) := dz2 dzo182 0 0 200 dzbX9_readPlace_67 rfl
theorem dX9_readPlace_70 : decode cX9_readPlace 70 = .ok (.iconst 3, 1) := dz0 dzo6 3 dzbX9_readPlace_67 rfl
theorem dX9_readPlace_71 : decode cX9_readPlace 71 = .ok (.if_icmp .ne 16, 3) := dz4 dzo160 4 0 16 16 rfl dzbX9_readPlace_67 rfl
theorem dX9_readPlace_74 : decode cX9_readPlace 74 = .ok (.aload_n 0, 1) := dz0 dzo42 7 dzbX9_readPlace_67 rfl
theorem dX9_readPlace_75 : decode cX9_readPlace 75 = .ok (.iload 4, 2) := dz1 dzo21 8 4 dzbX9_readPlace_67 rfl
theorem dX9_readPlace_77 : decode cX9_readPlace 77 = .ok (.putfield 119, 3) := dz2 dzo181 10 0 119 dzbX9_readPlace_67 rfl
theorem dX9_readPlace_80 : decode cX9_readPlace 80 = .ok (.aload_n 0, 1) := dz0 dzo42 13 dzbX9_readPlace_67 rfl
theorem dX9_readPlace_81 : decode cX9_readPlace 81 = .ok (.bipush 7, 2) := dz3 dzo16 14 7 7 rfl dzbX9_readPlace_67 rfl
theorem dX9_readPlace_83 : decode cX9_readPlace 83 = .ok (.invokevirtual 62, 3) := dz2 dzo182 16 0 62 dzbX9_readPlace_67 rfl
theorem dX9_readPlace_86 : decode cX9_readPlace 86 = .ok (.ireturn, 1) := dz0 dzo172 19 dzbX9_readPlace_67 rfl
theorem dX9_readPlace_87 : decode cX9_readPlace 87 = .ok (.iconst 1, 1) := dz0 dzo4 20 dzbX9_readPlace_67 rfl
theorem dX9_readPlace_88 : decode cX9_readPlace 88 = .ok (.ireturn, 1) := dz0 dzo172 21 dzbX9_readPlace_67 rfl
theorem dzbX9_readRow_0 : dzB cX9_readRow 0 [43, 182, 0, 73, 154, 0, 10, 42, 16, 6, 182, 0, 62, 172, 43, 182, 0, 69, 153, 0, 9, 42, 8] := by decide +kernel
theorem dX9_readRow_0 : decode cX9_readRow 0 = .ok (.aload_n 1, 1) := dz0 dzo43 0 dzbX9_readRow_0 rfl
theorem dX9_readRow_1 : decode cX9_readRow 1 = .ok (.invokevirtual 73, 3) := dz2 dzo182 1 0 73 dzbX9_readRow_0 rfl
theorem dX9_readRow_4 : decode cX9_readRow 4 = .ok (.ifCond .ne 10, 3) := dz4 dzo154 4 0 10 10 rfl dzbX9_readRow_0 rfl
theorem dX9_readRow_7 : decode cX9_readRow 7 = .ok (.aload_n 0, 1) := dz0 dzo42 7 dzbX9_readRow_0 rfl
theorem dX9_readRow_8 : decode cX9_readRow 8 = .ok (.bipush 6, 2) := dz3 dzo16 8 6 6 rfl dzbX9_readRow_0 rfl
theorem dX9_readRow_10 : decode cX9_readRow 10 = .ok (.invokevirtual 62, 3) := dz2 dzo182 10 0 62 dzbX9_readRow_0 rfl
theorem dX9_readRow_13 : decode cX9_readRow 13 = .ok (.ireturn, 1) := dz0 dzo172 13 dzbX9_readRow_0 rfl
theorem dX9_readRow_14 : decode cX9_readRow 14 = .ok (.aload_n 1, 1) := dz0 dzo43 14 dzbX9_readRow_0 rfl
theorem dX9_readRow_15 : decode cX9_readRow 15 = .ok (.invokevirtual 69, 3) := dz2 dzo182 15 0 69 dzbX9_readRow_0 rfl
theorem dX9_readRow_18 : decode cX9_readRow 18 = .ok (.ifCond .eq 9, 3) := dz4 dzo153 18 0 9 9 rfl dzbX9_readRow_0 rfl
theorem dX9_readRow_21 : decode cX9_readRow 21 = .ok (.aload_n 0, 1) := dz0 dzo42 21 dzbX9_readRow_0 rfl
theorem dX9_readRow_22 : decode cX9_readRow 22 = .ok (.iconst 5, 1) := dz0 dzo8 22 dzbX9_readRow_0 rfl
theorem dzbX9_readRow_23 : dzB cX9_readRow 23 [182, 0, 62, 172, 42, 182, 0, 42, 42, 43, 180, 0, 99, 180, 0, 109, 182, 0, 111, 154, 0, 9, 42, 4] := by decide +kernel
theorem dX9_readRow_23 : decode cX9_readRow 23 = .ok (.invokevirtual 62, 3) := dz2 dzo182 0 0 62 dzbX9_readRow_23 rfl
theorem dX9_readRow_26 : decode cX9_readRow 26 = .ok (.ireturn, 1) := dz0 dzo172 3 dzbX9_readRow_23 rfl
theorem dX9_readRow_27 : decode cX9_readRow 27 = .ok (.aload_n 0, 1) := dz0 dzo42 4 dzbX9_readRow_23 rfl
theorem dX9_readRow_28 : decode cX9_readRow 28 = .ok (.invokevirtual 42, 3) := dz2 dzo182 5 0 42 dzbX9_readRow_23 rfl
theorem dX9_readRow_31 : decode cX9_readRow 31 = .ok (.aload_n 0, 1) := dz0 dzo42 8 dzbX9_readRow_23 rfl
theorem dX9_readRow_32 : decode cX9_readRow 32 = .ok (.aload_n 1, 1) := dz0 dzo43 9 dzbX9_readRow_23 rfl
theorem dX9_readRow_33 : decode cX9_readRow 33 = .ok (.getfield 99, 3) := dz2 dzo180 10 0 99 dzbX9_readRow_23 rfl
theorem dX9_readRow_36 : decode cX9_readRow 36 = .ok (.getfield 109, 3) := dz2 dzo180 13 0 109 dzbX9_readRow_23 rfl
theorem dX9_readRow_39 : decode cX9_readRow 39 = .ok (.invokevirtual 111, 3) := dz2 dzo182 16 0 111 dzbX9_readRow_23 rfl
theorem dX9_readRow_42 : decode cX9_readRow 42 = .ok (.ifCond .ne 9, 3) := dz4 dzo154 19 0 9 9 rfl dzbX9_readRow_23 rfl
theorem dX9_readRow_45 : decode cX9_readRow 45 = .ok (.aload_n 0, 1) := dz0 dzo42 22 dzbX9_readRow_23 rfl
theorem dX9_readRow_46 : decode cX9_readRow 46 = .ok (.iconst 1, 1) := dz0 dzo4 23 dzbX9_readRow_23 rfl
theorem dzbX9_readRow_47 : dzB cX9_readRow 47 [182, 0, 62, 172, 43, 180, 0, 114, 43, 180, 0, 99, 180, 0, 109, 104, 61, 3, 62, 29, 43, 180, 0, 99] := by decide +kernel
theorem dX9_readRow_47 : decode cX9_readRow 47 = .ok (.invokevirtual 62, 3) := dz2 dzo182 0 0 62 dzbX9_readRow_47 rfl
theorem dX9_readRow_50 : decode cX9_readRow 50 = .ok (.ireturn, 1) := dz0 dzo172 3 dzbX9_readRow_47 rfl
theorem dX9_readRow_51 : decode cX9_readRow 51 = .ok (.aload_n 1, 1) := dz0 dzo43 4 dzbX9_readRow_47 rfl
theorem dX9_readRow_52 : decode cX9_readRow 52 = .ok (.getfield 114, 3) := dz2 dzo180 5 0 114 dzbX9_readRow_47 rfl
theorem dX9_readRow_55 : decode cX9_readRow 55 = .ok (.aload_n 1, 1) := dz0 dzo43 8 dzbX9_readRow_47 rfl
theorem dX9_readRow_56 : decode cX9_readRow 56 = .ok (.getfield 99, 3) := dz2 dzo180 9 0 99 dzbX9_readRow_47 rfl
theorem dX9_readRow_59 : decode cX9_readRow 59 = .ok (.getfield 109, 3) := dz2 dzo180 12 0 109 dzbX9_readRow_47 rfl
theorem dX9_readRow_62 : decode cX9_readRow 62 = .ok (.imul, 1) := dz0 dzo104 15 dzbX9_readRow_47 rfl
theorem dX9_readRow_63 : decode cX9_readRow 63 = .ok (.istore_n 2, 1) := dz0 dzo61 16 dzbX9_readRow_47 rfl
theorem dX9_readRow_64 : decode cX9_readRow 64 = .ok (.iconst 0, 1) := dz0 dzo3 17 dzbX9_readRow_47 rfl
theorem dX9_readRow_65 : decode cX9_readRow 65 = .ok (.istore_n 3, 1) := dz0 dzo62 18 dzbX9_readRow_47 rfl
theorem dX9_readRow_66 : decode cX9_readRow 66 = .ok (.iload_n 3, 1) := dz0 dzo29 19 dzbX9_readRow_47 rfl
theorem dX9_readRow_67 : decode cX9_readRow 67 = .ok (.aload_n 1, 1) := dz0 dzo43 20 dzbX9_readRow_47 rfl
theorem dX9_readRow_68 : decode cX9_readRow 68 = .ok (.getfield 99, 3) := dz2 dzo180 21 0 99 dzbX9_readRow_47 rfl
theorem dzbX9_readRow_71 : dzB cX9_readRow 71 [180, 0, 109, 162, 0, 85, 18, 117, 42, 180, 0, 11, 42, 180, 0, 119, 29, 96, 51, 146, 182, 0, 122] := by decide +kernel
theorem dX9_readRow_71 : decode cX9_readRow 71 = .ok (.getfield 109, 3) := dz2 dzo180 0 0 109 dzbX9_readRow_71 rfl
theorem dX9_readRow_74 : decode cX9_readRow 74 = .ok (.if_icmp .ge 85, 3) := dz4 dzo162 3 0 85 85 rfl dzbX9_readRow_71 rfl
theorem dX9_readRow_77 : decode cX9_readRow 77 = .ok (.ldc 117, 2) := dz1 dzo18 6 117 dzbX9_readRow_71 rfl
theorem dX9_readRow_79 : decode cX9_readRow 79 = .ok (.aload_n 0, 1) := dz0 dzo42 8 dzbX9_readRow_71 rfl
theorem dX9_readRow_80 : decode cX9_readRow 80 = .ok (.getfield 11, 3) := dz2 dzo180 9 0 11 dzbX9_readRow_71 rfl
theorem dX9_readRow_83 : decode cX9_readRow 83 = .ok (.aload_n 0, 1) := dz0 dzo42 12 dzbX9_readRow_71 rfl
theorem dX9_readRow_84 : decode cX9_readRow 84 = .ok (.getfield 119, 3) := dz2 dzo180 13 0 119 dzbX9_readRow_71 rfl
theorem dX9_readRow_87 : decode cX9_readRow 87 = .ok (.iload_n 3, 1) := dz0 dzo29 16 dzbX9_readRow_71 rfl
theorem dX9_readRow_88 : decode cX9_readRow 88 = .ok (.iadd, 1) := dz0 dzo96 17 dzbX9_readRow_71 rfl
theorem dX9_readRow_89 : decode cX9_readRow 89 = .ok (.baload, 1) := dz0 dzo51 18 dzbX9_readRow_71 rfl
theorem dX9_readRow_90 : decode cX9_readRow 90 = .ok (.i2c, 1) := dz0 dzo146 19 dzbX9_readRow_71 rfl
theorem dX9_readRow_91 : decode cX9_readRow 91 = .ok (.invokevirtual 122, 3) := dz2 dzo182 20 0 122 dzbX9_readRow_71 rfl
theorem dzbX9_readRow_94 : dzB cX9_readRow 94 [54, 4, 21, 4, 6, 164, 0, 42, 43, 180, 0, 128, 8, 160, 0, 9, 42, 8, 182, 0, 62, 172, 43] := by decide +kernel
theorem dX9_readRow_94 : decode cX9_readRow 94 = .ok (.istore 4, 2) := dz1 dzo54 0 4 dzbX9_readRow_94 rfl
theorem dX9_readRow_96 : decode cX9_readRow 96 = .ok (.iload 4, 2) := dz1 dzo21 2 4 dzbX9_readRow_94 rfl
theorem dX9_readRow_98 : decode cX9_readRow 98 = .ok (.iconst 3, 1) := dz0 dzo6 4 dzbX9_readRow_94 rfl
theorem dX9_readRow_99 : decode cX9_readRow 99 = .ok (.if_icmp .le 42, 3) := dz4 dzo164 5 0 42 42 rfl dzbX9_readRow_94 rfl
theorem dX9_readRow_102 : decode cX9_readRow 102 = .ok (.aload_n 1, 1) := dz0 dzo43 8 dzbX9_readRow_94 rfl
theorem dX9_readRow_103 : decode cX9_readRow 103 = .ok (.getfield 128, 3) := dz2 dzo180 9 0 128 dzbX9_readRow_94 rfl
theorem dX9_readRow_106 : decode cX9_readRow 106 = .ok (.iconst 5, 1) := dz0 dzo8 12 dzbX9_readRow_94 rfl
theorem dX9_readRow_107 : decode cX9_readRow 107 = .ok (.if_icmp .ne 9, 3) := dz4 dzo160 13 0 9 9 rfl dzbX9_readRow_94 rfl
theorem dX9_readRow_110 : decode cX9_readRow 110 = .ok (.aload_n 0, 1) := dz0 dzo42 16 dzbX9_readRow_94 rfl
theorem dX9_readRow_111 : decode cX9_readRow 111 = .ok (.iconst 5, 1) := dz0 dzo8 17 dzbX9_readRow_94 rfl
theorem dX9_readRow_112 : decode cX9_readRow 112 = .ok (.invokevirtual 62, 3) := dz2 dzo182 18 0 62 dzbX9_readRow_94 rfl
theorem dX9_readRow_115 : decode cX9_readRow 115 = .ok (.ireturn, 1) := dz0 dzo172 21 dzbX9_readRow_94 rfl
theorem dX9_readRow_116 : decode cX9_readRow 116 = .ok (.aload_n 1, 1) := dz0 dzo43 22 dzbX9_readRow_94 rfl
theorem dzbX9_readRow_117 : dzB cX9_readRow 117 [180, 0, 131, 43, 180, 0, 128, 28, 29, 96, 79, 43, 89, 180, 0, 128, 4, 96, 181, 0, 128, 3, 54, 4] := by decide +kernel
theorem dX9_readRow_117 : decode cX9_readRow 117 = .ok (.getfield 131, 3) := dz2 dzo180 0 0 131 dzbX9_readRow_117 rfl
theorem dX9_readRow_120 : decode cX9_readRow 120 = .ok (.aload_n 1, 1) := dz0 dzo43 3 dzbX9_readRow_117 rfl
theorem dX9_readRow_121 : decode cX9_readRow 121 = .ok (.getfield 128, 3) := dz2 dzo180 4 0 128 dzbX9_readRow_117 rfl
theorem dX9_readRow_124 : decode cX9_readRow 124 = .ok (.iload_n 2, 1) := dz0 dzo28 7 dzbX9_readRow_117 rfl
theorem dX9_readRow_125 : decode cX9_readRow 125 = .ok (.iload_n 3, 1) := dz0 dzo29 8 dzbX9_readRow_117 rfl
theorem dX9_readRow_126 : decode cX9_readRow 126 = .ok (.iadd, 1) := dz0 dzo96 9 dzbX9_readRow_117 rfl
theorem dX9_readRow_127 : decode cX9_readRow 127 = .ok (.iastore, 1) := dz0 dzo79 10 dzbX9_readRow_117 rfl
theorem dX9_readRow_128 : decode cX9_readRow 128 = .ok (.aload_n 1, 1) := dz0 dzo43 11 dzbX9_readRow_117 rfl
theorem dX9_readRow_129 : decode cX9_readRow 129 = .ok (.dup, 1) := dz0 dzo89 12 dzbX9_readRow_117 rfl
theorem dX9_readRow_130 : decode cX9_readRow 130 = .ok (.getfield 128, 3) := dz2 dzo180 13 0 128 dzbX9_readRow_117 rfl
theorem dX9_readRow_133 : decode cX9_readRow 133 = .ok (.iconst 1, 1) := dz0 dzo4 16 dzbX9_readRow_117 rfl
theorem dX9_readRow_134 : decode cX9_readRow 134 = .ok (.iadd, 1) := dz0 dzo96 17 dzbX9_readRow_117 rfl
theorem dX9_readRow_135 : decode cX9_readRow 135 = .ok (.putfield 128, 3) := dz2 dzo181 18 0 128 dzbX9_readRow_117 rfl
theorem dX9_readRow_138 : decode cX9_readRow 138 = .ok (.iconst 0, 1) := dz0 dzo3 21 dzbX9_readRow_117 rfl
theorem dX9_readRow_139 : decode cX9_readRow 139 = .ok (.istore 4, 2) := dz1 dzo54 22 4 dzbX9_readRow_117 rfl
theorem dzbX9_readRow_141 : dzB cX9_readRow 141 [43, 180, 0, 99, 28, 29, 96, 21, 4, 182, 0, 135, 132, 3, 1, 167, 255, 166, 43, 89, 180, 0, 114, 4] := by decide +kernel
theorem dX9_readRow_141 : decode cX9_readRow 141 = .ok (.aload_n 1, 1) := dz0 dzo43 0 dzbX9_readRow_141 rfl
theorem dX9_readRow_142 : decode cX9_readRow 142 = .ok (.getfield 99, 3) := dz2 dzo180 1 0 99 dzbX9_readRow_141 rfl
theorem dX9_readRow_145 : decode cX9_readRow 145 = .ok (.iload_n 2, 1) := dz0 dzo28 4 dzbX9_readRow_141 rfl
theorem dX9_readRow_146 : decode cX9_readRow 146 = .ok (.iload_n 3, 1) := dz0 dzo29 5 dzbX9_readRow_141 rfl
theorem dX9_readRow_147 : decode cX9_readRow 147 = .ok (.iadd, 1) := dz0 dzo96 6 dzbX9_readRow_141 rfl
theorem dX9_readRow_148 : decode cX9_readRow 148 = .ok (.iload 4, 2) := dz1 dzo21 7 4 dzbX9_readRow_141 rfl
theorem dX9_readRow_150 : decode cX9_readRow 150 = .ok (.invokevirtual 135, 3) := dz2 dzo182 9 0 135 dzbX9_readRow_141 rfl
theorem dX9_readRow_153 : decode cX9_readRow 153 = .ok (.iinc 3 1, 3) := dz5 dzo132 12 3 1 1 rfl dzbX9_readRow_141 rfl
theorem dX9_readRow_156 : decode cX9_readRow 156 = .ok (.goto (-90), 3) := dz4 dzo167 15 255 166 (-90) rfl dzbX9_readRow_141 rfl
theorem dX9_readRow_159 : decode cX9_readRow 159 = .ok (.aload_n 1, 1) := dz0 dzo43 18 dzbX9_readRow_141 rfl
theorem dX9_readRow_160 : decode cX9_readRow 160 = .ok (.dup, 1) := dz0 dzo89 19 dzbX9_readRow_141 rfl
theorem dX9_readRow_161 : decode cX9_readRow 161 = .ok (.getfield 114, 3) := dz2 dzo180 20 0 114 dzbX9_readRow_141 rfl
theorem dX9_readRow_164 : decode cX9_readRow 164 = .ok (.iconst 1, 1) := dz0 dzo4 23 dzbX9_readRow_141 rfl
theorem dzbX9_readRow_165 : dzB cX9_readRow 165 [96, 181, 0, 114, 42, 182, 0, 42, 4, 172] := by decide +kernel
theorem dX9_readRow_165 : decode cX9_readRow 165 = .ok (.iadd, 1) := dz0 dzo96 0 dzbX9_readRow_165 rfl
theorem dX9_readRow_166 : decode cX9_readRow 166 = .ok (.putfield 114, 3) := dz2 dzo181 1 0 114 dzbX9_readRow_165 rfl
theorem dX9_readRow_169 : decode cX9_readRow 169 = .ok (.aload_n 0, 1) := dz0 dzo42 4 dzbX9_readRow_165 rfl
theorem dX9_readRow_170 : decode cX9_readRow 170 = .ok (.invokevirtual 42, 3) := dz2 dzo182 5 0 42 dzbX9_readRow_165 rfl
theorem dX9_readRow_173 : decode cX9_readRow 173 = .ok (.iconst 1, 1) := dz0 dzo4 8 dzbX9_readRow_165 rfl
theorem dX9_readRow_174 : decode cX9_readRow 174 = .ok (.ireturn, 1) := dz0 dzo172 9 dzbX9_readRow_165 rfl
theorem dzbX9_readWalk_0 : dzB cX9_readWalk 0 [43, 182, 0, 69, 154, 0, 10, 42, 16, 6, 182, 0, 62, 172, 43, 180, 0, 173, 61, 28, 16, 6] := by decide +kernel
theorem dX9_readWalk_0 : decode cX9_readWalk 0 = .ok (.aload_n 1, 1) := dz0 dzo43 0 dzbX9_readWalk_0 rfl
theorem dX9_readWalk_1 : decode cX9_readWalk 1 = .ok (.invokevirtual 69, 3) := dz2 dzo182 1 0 69 dzbX9_readWalk_0 rfl
theorem dX9_readWalk_4 : decode cX9_readWalk 4 = .ok (.ifCond .ne 10, 3) := dz4 dzo154 4 0 10 10 rfl dzbX9_readWalk_0 rfl
theorem dX9_readWalk_7 : decode cX9_readWalk 7 = .ok (.aload_n 0, 1) := dz0 dzo42 7 dzbX9_readWalk_0 rfl
theorem dX9_readWalk_8 : decode cX9_readWalk 8 = .ok (.bipush 6, 2) := dz3 dzo16 8 6 6 rfl dzbX9_readWalk_0 rfl
theorem dX9_readWalk_10 : decode cX9_readWalk 10 = .ok (.invokevirtual 62, 3) := dz2 dzo182 10 0 62 dzbX9_readWalk_0 rfl
theorem dX9_readWalk_13 : decode cX9_readWalk 13 = .ok (.ireturn, 1) := dz0 dzo172 13 dzbX9_readWalk_0 rfl
theorem dX9_readWalk_14 : decode cX9_readWalk 14 = .ok (.aload_n 1, 1) := dz0 dzo43 14 dzbX9_readWalk_0 rfl
theorem dX9_readWalk_15 : decode cX9_readWalk 15 = .ok (.getfield 173, 3) := dz2 dzo180 15 0 173 dzbX9_readWalk_0 rfl
theorem dX9_readWalk_18 : decode cX9_readWalk 18 = .ok (.istore_n 2, 1) := dz0 dzo61 18 dzbX9_readWalk_0 rfl
theorem dX9_readWalk_19 : decode cX9_readWalk 19 = .ok (.iload_n 2, 1) := dz0 dzo28 19 dzbX9_readWalk_0 rfl
theorem dX9_readWalk_20 : decode cX9_readWalk 20 = .ok (.bipush 6, 2) := dz3 dzo16 20 6 6 rfl dzbX9_readWalk_0 rfl
theorem dzbX9_readWalk_22 : dzB cX9_readWalk 22 [160, 0, 9, 42, 8, 182, 0, 62, 172, 42, 182, 0, 42, 42, 43, 180, 0, 99, 4, 182, 0, 154] := by decide +kernel
theorem dX9_readWalk_22 : decode cX9_readWalk 22 = .ok (.if_icmp .ne 9, 3) := dz4 dzo160 0 0 9 9 rfl dzbX9_readWalk_22 rfl
theorem dX9_readWalk_25 : decode cX9_readWalk 25 = .ok (.aload_n 0, 1) := dz0 dzo42 3 dzbX9_readWalk_22 rfl
theorem dX9_readWalk_26 : decode cX9_readWalk 26 = .ok (.iconst 5, 1) := dz0 dzo8 4 dzbX9_readWalk_22 rfl
theorem dX9_readWalk_27 : decode cX9_readWalk 27 = .ok (.invokevirtual 62, 3) := dz2 dzo182 5 0 62 dzbX9_readWalk_22 rfl
theorem dX9_readWalk_30 : decode cX9_readWalk 30 = .ok (.ireturn, 1) := dz0 dzo172 8 dzbX9_readWalk_22 rfl
theorem dX9_readWalk_31 : decode cX9_readWalk 31 = .ok (.aload_n 0, 1) := dz0 dzo42 9 dzbX9_readWalk_22 rfl
theorem dX9_readWalk_32 : decode cX9_readWalk 32 = .ok (.invokevirtual 42, 3) := dz2 dzo182 10 0 42 dzbX9_readWalk_22 rfl
theorem dX9_readWalk_35 : decode cX9_readWalk 35 = .ok (.aload_n 0, 1) := dz0 dzo42 13 dzbX9_readWalk_22 rfl
theorem dX9_readWalk_36 : decode cX9_readWalk 36 = .ok (.aload_n 1, 1) := dz0 dzo43 14 dzbX9_readWalk_22 rfl
theorem dX9_readWalk_37 : decode cX9_readWalk 37 = .ok (.getfield 99, 3) := dz2 dzo180 15 0 99 dzbX9_readWalk_22 rfl
theorem dX9_readWalk_40 : decode cX9_readWalk 40 = .ok (.iconst 1, 1) := dz0 dzo4 18 dzbX9_readWalk_22 rfl
theorem dX9_readWalk_41 : decode cX9_readWalk 41 = .ok (.invokevirtual 154, 3) := dz2 dzo182 19 0 154 dzbX9_readWalk_22 rfl
theorem dzbX9_readWalk_44 : dzB cX9_readWalk 44 [154, 0, 5, 3, 172, 42, 180, 0, 86, 62, 43, 180, 0, 99, 180, 0, 176, 4, 100, 29, 100, 43] := by decide +kernel
theorem dX9_readWalk_44 : decode cX9_readWalk 44 = .ok (.ifCond .ne 5, 3) := dz4 dzo154 0 0 5 5 rfl dzbX9_readWalk_44 rfl
theorem dX9_readWalk_47 : decode cX9_readWalk 47 = .ok (.iconst 0, 1) := dz0 dzo3 3 dzbX9_readWalk_44 rfl
theorem dX9_readWalk_48 : decode cX9_readWalk 48 = .ok (.ireturn, 1) := dz0 dzo172 4 dzbX9_readWalk_44 rfl
theorem dX9_readWalk_49 : decode cX9_readWalk 49 = .ok (.aload_n 0, 1) := dz0 dzo42 5 dzbX9_readWalk_44 rfl
theorem dX9_readWalk_50 : decode cX9_readWalk 50 = .ok (.getfield 86, 3) := dz2 dzo180 6 0 86 dzbX9_readWalk_44 rfl
theorem dX9_readWalk_53 : decode cX9_readWalk 53 = .ok (.istore_n 3, 1) := dz0 dzo62 9 dzbX9_readWalk_44 rfl
theorem dX9_readWalk_54 : decode cX9_readWalk 54 = .ok (.aload_n 1, 1) := dz0 dzo43 10 dzbX9_readWalk_44 rfl
theorem dX9_readWalk_55 : decode cX9_readWalk 55 = .ok (.getfield 99, 3) := dz2 dzo180 11 0 99 dzbX9_readWalk_44 rfl
theorem dX9_readWalk_58 : decode cX9_readWalk 58 = .ok (.getfield 176, 3) := dz2 dzo180 14 0 176 dzbX9_readWalk_44 rfl
theorem dX9_readWalk_61 : decode cX9_readWalk 61 = .ok (.iconst 1, 1) := dz0 dzo4 17 dzbX9_readWalk_44 rfl
theorem dX9_readWalk_62 : decode cX9_readWalk 62 = .ok (.isub, 1) := dz0 dzo100 18 dzbX9_readWalk_44 rfl
theorem dX9_readWalk_63 : decode cX9_readWalk 63 = .ok (.iload_n 3, 1) := dz0 dzo29 19 dzbX9_readWalk_44 rfl
theorem dX9_readWalk_64 : decode cX9_readWalk 64 = .ok (.isub, 1) := dz0 dzo100 20 dzbX9_readWalk_44 rfl
theorem dX9_readWalk_65 : decode cX9_readWalk 65 = .ok (.aload_n 1, 1) := dz0 dzo43 21 dzbX9_readWalk_44 rfl
theorem dzbX9_readWalk_66 : dzB cX9_readWalk 66 [180, 0, 99, 180, 0, 109, 108, 54, 4, 42, 18, 179, 182, 0, 78, 153, 0, 17, 42, 4, 6, 21, 4] := by decide +kernel
theorem dX9_readWalk_66 : decode cX9_readWalk 66 = .ok (.getfield 99, 3) := dz2 dzo180 0 0 99 dzbX9_readWalk_66 rfl
theorem dX9_readWalk_69 : decode cX9_readWalk 69 = .ok (.getfield 109, 3) := dz2 dzo180 3 0 109 dzbX9_readWalk_66 rfl
theorem dX9_readWalk_72 : decode cX9_readWalk 72 = .ok (.idiv, 1) := dz0 dzo108 6 dzbX9_readWalk_66 rfl
theorem dX9_readWalk_73 : decode cX9_readWalk 73 = .ok (.istore 4, 2) := dz1 dzo54 7 4 dzbX9_readWalk_66 rfl
theorem dX9_readWalk_75 : decode cX9_readWalk 75 = .ok (.aload_n 0, 1) := dz0 dzo42 9 dzbX9_readWalk_66 rfl
theorem dX9_readWalk_76 : decode cX9_readWalk 76 = .ok (.ldc 179, 2) := dz1 dzo18 10 179 dzbX9_readWalk_66 rfl
theorem dX9_readWalk_78 : decode cX9_readWalk 78 = .ok (.invokevirtual 78, 3) := dz2 dzo182 12 0 78 dzbX9_readWalk_66 rfl
theorem dX9_readWalk_81 : decode cX9_readWalk 81 = .ok (.ifCond .eq 17, 3) := dz4 dzo153 15 0 17 17 rfl dzbX9_readWalk_66 rfl
theorem dX9_readWalk_84 : decode cX9_readWalk 84 = .ok (.aload_n 0, 1) := dz0 dzo42 18 dzbX9_readWalk_66 rfl
theorem dX9_readWalk_85 : decode cX9_readWalk 85 = .ok (.iconst 1, 1) := dz0 dzo4 19 dzbX9_readWalk_66 rfl
theorem dX9_readWalk_86 : decode cX9_readWalk 86 = .ok (.iconst 3, 1) := dz0 dzo6 20 dzbX9_readWalk_66 rfl
theorem dX9_readWalk_87 : decode cX9_readWalk 87 = .ok (.iload 4, 2) := dz1 dzo21 21 4 dzbX9_readWalk_66 rfl
theorem dzbX9_readWalk_89 : dzB cX9_readWalk 89 [184, 0, 19, 182, 0, 82, 154, 0, 5, 3, 172, 42, 18, 181, 182, 0, 183, 54, 5, 21, 5, 154, 0, 18] := by decide +kernel
theorem dX9_readWalk_89 : decode cX9_readWalk 89 = .ok (.invokestatic 19, 3) := dz2 dzo184 0 0 19 dzbX9_readWalk_89 rfl
theorem dX9_readWalk_92 : decode cX9_readWalk 92 = .ok (.invokevirtual 82, 3) := dz2 dzo182 3 0 82 dzbX9_readWalk_89 rfl
theorem dX9_readWalk_95 : decode cX9_readWalk 95 = .ok (.ifCond .ne 5, 3) := dz4 dzo154 6 0 5 5 rfl dzbX9_readWalk_89 rfl
theorem dX9_readWalk_98 : decode cX9_readWalk 98 = .ok (.iconst 0, 1) := dz0 dzo3 9 dzbX9_readWalk_89 rfl
theorem dX9_readWalk_99 : decode cX9_readWalk 99 = .ok (.ireturn, 1) := dz0 dzo172 10 dzbX9_readWalk_89 rfl
theorem dX9_readWalk_100 : decode cX9_readWalk 100 = .ok (.aload_n 0, 1) := dz0 dzo42 11 dzbX9_readWalk_89 rfl
theorem dX9_readWalk_101 : decode cX9_readWalk 101 = .ok (.ldc 181, 2) := dz1 dzo18 12 181 dzbX9_readWalk_89 rfl
theorem dX9_readWalk_103 : decode cX9_readWalk 103 = .ok (.invokevirtual 183, 3) := dz2 dzo182 14 0 183 dzbX9_readWalk_89 rfl
theorem dX9_readWalk_106 : decode cX9_readWalk 106 = .ok (.istore 5, 2) := dz1 dzo54 17 5 dzbX9_readWalk_89 rfl
theorem dX9_readWalk_108 : decode cX9_readWalk 108 = .ok (.iload 5, 2) := dz1 dzo21 19 5 dzbX9_readWalk_89 rfl
theorem dX9_readWalk_110 : decode cX9_readWalk 110 = .ok (.ifCond .ne 18, 3) := dz4 dzo154 21 0 18 18 rfl dzbX9_readWalk_89 rfl
theorem dzbX9_readWalk_113 : dzB cX9_readWalk 113 [42, 18, 186, 182, 0, 183, 154, 0, 9, 42, 4, 182, 0, 62, 172, 42, 182, 0, 42, 43, 180, 0, 188, 28] := by decide +kernel
theorem dX9_readWalk_113 : decode cX9_readWalk 113 = .ok (.aload_n 0, 1) := dz0 dzo42 0 dzbX9_readWalk_113 rfl
theorem dX9_readWalk_114 : decode cX9_readWalk 114 = .ok (.ldc 186, 2) := dz1 dzo18 1 186 dzbX9_readWalk_113 rfl
theorem dX9_readWalk_116 : decode cX9_readWalk 116 = .ok (.invokevirtual 183, 3) := dz2 dzo182 3 0 183 dzbX9_readWalk_113 rfl
theorem dX9_readWalk_119 : decode cX9_readWalk 119 = .ok (.ifCond .ne 9, 3) := dz4 dzo154 6 0 9 9 rfl dzbX9_readWalk_113 rfl
theorem dX9_readWalk_122 : decode cX9_readWalk 122 = .ok (.aload_n 0, 1) := dz0 dzo42 9 dzbX9_readWalk_113 rfl
theorem dX9_readWalk_123 : decode cX9_readWalk 123 = .ok (.iconst 1, 1) := dz0 dzo4 10 dzbX9_readWalk_113 rfl
theorem dX9_readWalk_124 : decode cX9_readWalk 124 = .ok (.invokevirtual 62, 3) := dz2 dzo182 11 0 62 dzbX9_readWalk_113 rfl
theorem dX9_readWalk_127 : decode cX9_readWalk 127 = .ok (.ireturn, 1) := dz0 dzo172 14 dzbX9_readWalk_113 rfl
theorem dX9_readWalk_128 : decode cX9_readWalk 128 = .ok (.aload_n 0, 1) := dz0 dzo42 15 dzbX9_readWalk_113 rfl
theorem dX9_readWalk_129 : decode cX9_readWalk 129 = .ok (.invokevirtual 42, 3) := dz2 dzo182 16 0 42 dzbX9_readWalk_113 rfl
theorem dX9_readWalk_132 : decode cX9_readWalk 132 = .ok (.aload_n 1, 1) := dz0 dzo43 19 dzbX9_readWalk_113 rfl
theorem dX9_readWalk_133 : decode cX9_readWalk 133 = .ok (.getfield 188, 3) := dz2 dzo180 20 0 188 dzbX9_readWalk_113 rfl
theorem dX9_readWalk_136 : decode cX9_readWalk 136 = .ok (.iload_n 2, 1) := dz0 dzo28 23 dzbX9_readWalk_113 rfl
theorem dzbX9_readWalk_137 : dzB cX9_readWalk 137 [29, 79, 43, 180, 0, 191, 28, 42, 180, 0, 86, 79, 43, 180, 0, 194, 28, 21, 5, 84, 43, 89] := by decide +kernel
theorem dX9_readWalk_137 : decode cX9_readWalk 137 = .ok (.iload_n 3, 1) := dz0 dzo29 0 dzbX9_readWalk_137 rfl
theorem dX9_readWalk_138 : decode cX9_readWalk 138 = .ok (.iastore, 1) := dz0 dzo79 1 dzbX9_readWalk_137 rfl
theorem dX9_readWalk_139 : decode cX9_readWalk 139 = .ok (.aload_n 1, 1) := dz0 dzo43 2 dzbX9_readWalk_137 rfl
theorem dX9_readWalk_140 : decode cX9_readWalk 140 = .ok (.getfield 191, 3) := dz2 dzo180 3 0 191 dzbX9_readWalk_137 rfl
theorem dX9_readWalk_143 : decode cX9_readWalk 143 = .ok (.iload_n 2, 1) := dz0 dzo28 6 dzbX9_readWalk_137 rfl
theorem dX9_readWalk_144 : decode cX9_readWalk 144 = .ok (.aload_n 0, 1) := dz0 dzo42 7 dzbX9_readWalk_137 rfl
theorem dX9_readWalk_145 : decode cX9_readWalk 145 = .ok (.getfield 86, 3) := dz2 dzo180 8 0 86 dzbX9_readWalk_137 rfl
theorem dX9_readWalk_148 : decode cX9_readWalk 148 = .ok (.iastore, 1) := dz0 dzo79 11 dzbX9_readWalk_137 rfl
theorem dX9_readWalk_149 : decode cX9_readWalk 149 = .ok (.aload_n 1, 1) := dz0 dzo43 12 dzbX9_readWalk_137 rfl
theorem dX9_readWalk_150 : decode cX9_readWalk 150 = .ok (.getfield 194, 3) := dz2 dzo180 13 0 194 dzbX9_readWalk_137 rfl
theorem dX9_readWalk_153 : decode cX9_readWalk 153 = .ok (.iload_n 2, 1) := dz0 dzo28 16 dzbX9_readWalk_137 rfl
theorem dX9_readWalk_154 : decode cX9_readWalk 154 = .ok (.iload 5, 2) := dz1 dzo21 17 5 dzbX9_readWalk_137 rfl
theorem dX9_readWalk_156 : decode cX9_readWalk 156 = .ok (.bastore, 1) := dz0 dzo84 19 dzbX9_readWalk_137 rfl
theorem dX9_readWalk_157 : decode cX9_readWalk 157 = .ok (.aload_n 1, 1) := dz0 dzo43 20 dzbX9_readWalk_137 rfl
theorem dX9_readWalk_158 : decode cX9_readWalk 158 = .ok (.dup, 1) := dz0 dzo89 21 dzbX9_readWalk_137 rfl
theorem dzbX9_readWalk_159 : dzB cX9_readWalk 159 [180, 0, 173, 4, 96, 181, 0, 173, 4, 172] := by decide +kernel
theorem dX9_readWalk_159 : decode cX9_readWalk 159 = .ok (.getfield 173, 3) := dz2 dzo180 0 0 173 dzbX9_readWalk_159 rfl
theorem dX9_readWalk_162 : decode cX9_readWalk 162 = .ok (.iconst 1, 1) := dz0 dzo4 3 dzbX9_readWalk_159 rfl
theorem dX9_readWalk_163 : decode cX9_readWalk 163 = .ok (.iadd, 1) := dz0 dzo96 4 dzbX9_readWalk_159 rfl
theorem dX9_readWalk_164 : decode cX9_readWalk 164 = .ok (.putfield 173, 3) := dz2 dzo181 5 0 173 dzbX9_readWalk_159 rfl
theorem dX9_readWalk_167 : decode cX9_readWalk 167 = .ok (.iconst 1, 1) := dz0 dzo4 8 dzbX9_readWalk_159 rfl
theorem dX9_readWalk_168 : decode cX9_readWalk 168 = .ok (.ireturn, 1) := dz0 dzo172 9 dzbX9_readWalk_159 rfl
theorem dzbX9_readWalker_0 : dzB cX9_readWalker 0 [43, 182, 0, 69, 154, 0, 10, 42, 16, 6, 182, 0, 62, 172, 43, 180, 0, 138, 61, 28, 7, 160, 0, 9] := by decide +kernel
theorem dX9_readWalker_0 : decode cX9_readWalker 0 = .ok (.aload_n 1, 1) := dz0 dzo43 0 dzbX9_readWalker_0 rfl
theorem dX9_readWalker_1 : decode cX9_readWalker 1 = .ok (.invokevirtual 69, 3) := dz2 dzo182 1 0 69 dzbX9_readWalker_0 rfl
theorem dX9_readWalker_4 : decode cX9_readWalker 4 = .ok (.ifCond .ne 10, 3) := dz4 dzo154 4 0 10 10 rfl dzbX9_readWalker_0 rfl
theorem dX9_readWalker_7 : decode cX9_readWalker 7 = .ok (.aload_n 0, 1) := dz0 dzo42 7 dzbX9_readWalker_0 rfl
theorem dX9_readWalker_8 : decode cX9_readWalker 8 = .ok (.bipush 6, 2) := dz3 dzo16 8 6 6 rfl dzbX9_readWalker_0 rfl
theorem dX9_readWalker_10 : decode cX9_readWalker 10 = .ok (.invokevirtual 62, 3) := dz2 dzo182 10 0 62 dzbX9_readWalker_0 rfl
theorem dX9_readWalker_13 : decode cX9_readWalker 13 = .ok (.ireturn, 1) := dz0 dzo172 13 dzbX9_readWalker_0 rfl
theorem dX9_readWalker_14 : decode cX9_readWalker 14 = .ok (.aload_n 1, 1) := dz0 dzo43 14 dzbX9_readWalker_0 rfl
theorem dX9_readWalker_15 : decode cX9_readWalker 15 = .ok (.getfield 138, 3) := dz2 dzo180 15 0 138 dzbX9_readWalker_0 rfl
theorem dX9_readWalker_18 : decode cX9_readWalker 18 = .ok (.istore_n 2, 1) := dz0 dzo61 18 dzbX9_readWalker_0 rfl
theorem dX9_readWalker_19 : decode cX9_readWalker 19 = .ok (.iload_n 2, 1) := dz0 dzo28 19 dzbX9_readWalker_0 rfl
theorem dX9_readWalker_20 : decode cX9_readWalker 20 = .ok (.iconst 4, 1) := dz0 dzo7 20 dzbX9_readWalker_0 rfl
theorem dX9_readWalker_21 : decode cX9_readWalker 21 = .ok (.if_icmp .ne 9, 3) := dz4 dzo160 21 0 9 9 rfl dzbX9_readWalker_0 rfl
theorem dzbX9_readWalker_24 : dzB cX9_readWalker 24 [42, 8, 182, 0, 62, 172, 42, 182, 0, 42, 42, 180, 0, 66, 4, 160, 0, 11, 42, 182, 0, 45, 2] := by decide +kernel
theorem dX9_readWalker_24 : decode cX9_readWalker 24 = .ok (.aload_n 0, 1) := dz0 dzo42 0 dzbX9_readWalker_24 rfl
theorem dX9_readWalker_25 : decode cX9_readWalker 25 = .ok (.iconst 5, 1) := dz0 dzo8 1 dzbX9_readWalker_24 rfl
theorem dX9_readWalker_26 : decode cX9_readWalker 26 = .ok (.invokevirtual 62, 3) := dz2 dzo182 2 0 62 dzbX9_readWalker_24 rfl
theorem dX9_readWalker_29 : decode cX9_readWalker 29 = .ok (.ireturn, 1) := dz0 dzo172 5 dzbX9_readWalker_24 rfl
theorem dX9_readWalker_30 : decode cX9_readWalker 30 = .ok (.aload_n 0, 1) := dz0 dzo42 6 dzbX9_readWalker_24 rfl
theorem dX9_readWalker_31 : decode cX9_readWalker 31 = .ok (.invokevirtual 42, 3) := dz2 dzo182 7 0 42 dzbX9_readWalker_24 rfl
theorem dX9_readWalker_34 : decode cX9_readWalker 34 = .ok (.aload_n 0, 1) := dz0 dzo42 10 dzbX9_readWalker_24 rfl
theorem dX9_readWalker_35 : decode cX9_readWalker 35 = .ok (.getfield 66, 3) := dz2 dzo180 11 0 66 dzbX9_readWalker_24 rfl
theorem dX9_readWalker_38 : decode cX9_readWalker 38 = .ok (.iconst 1, 1) := dz0 dzo4 14 dzbX9_readWalker_24 rfl
theorem dX9_readWalker_39 : decode cX9_readWalker 39 = .ok (.if_icmp .ne 11, 3) := dz4 dzo160 15 0 11 11 rfl dzbX9_readWalker_24 rfl
theorem dX9_readWalker_42 : decode cX9_readWalker 42 = .ok (.aload_n 0, 1) := dz0 dzo42 18 dzbX9_readWalker_24 rfl
theorem dX9_readWalker_43 : decode cX9_readWalker 43 = .ok (.invokevirtual 45, 3) := dz2 dzo182 19 0 45 dzbX9_readWalker_24 rfl
theorem dX9_readWalker_46 : decode cX9_readWalker 46 = .ok (.iconst (-1), 1) := dz0 dzo2 22 dzbX9_readWalker_24 rfl
theorem dzbX9_readWalker_47 : dzB cX9_readWalker 47 [159, 0, 9, 42, 4, 182, 0, 62, 172, 42, 182, 0, 141, 66, 43, 33, 182, 0, 145, 153, 0, 9, 42, 6] := by decide +kernel
theorem dX9_readWalker_47 : decode cX9_readWalker 47 = .ok (.if_icmp .eq 9, 3) := dz4 dzo159 0 0 9 9 rfl dzbX9_readWalker_47 rfl
theorem dX9_readWalker_50 : decode cX9_readWalker 50 = .ok (.aload_n 0, 1) := dz0 dzo42 3 dzbX9_readWalker_47 rfl
theorem dX9_readWalker_51 : decode cX9_readWalker 51 = .ok (.iconst 1, 1) := dz0 dzo4 4 dzbX9_readWalker_47 rfl
theorem dX9_readWalker_52 : decode cX9_readWalker 52 = .ok (.invokevirtual 62, 3) := dz2 dzo182 5 0 62 dzbX9_readWalker_47 rfl
theorem dX9_readWalker_55 : decode cX9_readWalker 55 = .ok (.ireturn, 1) := dz0 dzo172 8 dzbX9_readWalker_47 rfl
theorem dX9_readWalker_56 : decode cX9_readWalker 56 = .ok (.aload_n 0, 1) := dz0 dzo42 9 dzbX9_readWalker_47 rfl
theorem dX9_readWalker_57 : decode cX9_readWalker 57 = .ok (.invokevirtual 141, 3) := dz2 dzo182 10 0 141 dzbX9_readWalker_47 rfl
theorem dX9_readWalker_60 : decode cX9_readWalker 60 = .ok (.lstore_n 3, 1) := dz0 dzo66 13 dzbX9_readWalker_47 rfl
theorem dX9_readWalker_61 : decode cX9_readWalker 61 = .ok (.aload_n 1, 1) := dz0 dzo43 14 dzbX9_readWalker_47 rfl
theorem dX9_readWalker_62 : decode cX9_readWalker 62 = .ok (.lload_n 3, 1) := dz0 dzo33 15 dzbX9_readWalker_47 rfl
theorem dX9_readWalker_63 : decode cX9_readWalker 63 = .ok (.invokevirtual 145, 3) := dz2 dzo182 16 0 145 dzbX9_readWalker_47 rfl
theorem dX9_readWalker_66 : decode cX9_readWalker 66 = .ok (.ifCond .eq 9, 3) := dz4 dzo153 19 0 9 9 rfl dzbX9_readWalker_47 rfl
theorem dX9_readWalker_69 : decode cX9_readWalker 69 = .ok (.aload_n 0, 1) := dz0 dzo42 22 dzbX9_readWalker_47 rfl
theorem dX9_readWalker_70 : decode cX9_readWalker 70 = .ok (.iconst 3, 1) := dz0 dzo6 23 dzbX9_readWalker_47 rfl
theorem dzbX9_readWalker_71 : dzB cX9_readWalker 71 [182, 0, 62, 172, 42, 182, 0, 42, 42, 182, 0, 149, 54, 5, 21, 5, 2, 160, 0, 9, 42, 4] := by decide +kernel
theorem dX9_readWalker_71 : decode cX9_readWalker 71 = .ok (.invokevirtual 62, 3) := dz2 dzo182 0 0 62 dzbX9_readWalker_71 rfl
theorem dX9_readWalker_74 : decode cX9_readWalker 74 = .ok (.ireturn, 1) := dz0 dzo172 3 dzbX9_readWalker_71 rfl
theorem dX9_readWalker_75 : decode cX9_readWalker 75 = .ok (.aload_n 0, 1) := dz0 dzo42 4 dzbX9_readWalker_71 rfl
theorem dX9_readWalker_76 : decode cX9_readWalker 76 = .ok (.invokevirtual 42, 3) := dz2 dzo182 5 0 42 dzbX9_readWalker_71 rfl
theorem dX9_readWalker_79 : decode cX9_readWalker 79 = .ok (.aload_n 0, 1) := dz0 dzo42 8 dzbX9_readWalker_71 rfl
theorem dX9_readWalker_80 : decode cX9_readWalker 80 = .ok (.invokevirtual 149, 3) := dz2 dzo182 9 0 149 dzbX9_readWalker_71 rfl
theorem dX9_readWalker_83 : decode cX9_readWalker 83 = .ok (.istore 5, 2) := dz1 dzo54 12 5 dzbX9_readWalker_71 rfl
theorem dX9_readWalker_85 : decode cX9_readWalker 85 = .ok (.iload 5, 2) := dz1 dzo21 14 5 dzbX9_readWalker_71 rfl
theorem dX9_readWalker_87 : decode cX9_readWalker 87 = .ok (.iconst (-1), 1) := dz0 dzo2 16 dzbX9_readWalker_71 rfl
theorem dX9_readWalker_88 : decode cX9_readWalker 88 = .ok (.if_icmp .ne 9, 3) := dz4 dzo160 17 0 9 9 rfl dzbX9_readWalker_71 rfl
theorem dX9_readWalker_91 : decode cX9_readWalker 91 = .ok (.aload_n 0, 1) := dz0 dzo42 20 dzbX9_readWalker_71 rfl
theorem dX9_readWalker_92 : decode cX9_readWalker 92 = .ok (.iconst 1, 1) := dz0 dzo4 21 dzbX9_readWalker_71 rfl
theorem dzbX9_readWalker_93 : dzB cX9_readWalker 93 [182, 0, 62, 172, 42, 182, 0, 42, 42, 18, 152, 182, 0, 78, 153, 0, 15, 42, 43, 180, 0, 99, 3] := by decide +kernel
theorem dX9_readWalker_93 : decode cX9_readWalker 93 = .ok (.invokevirtual 62, 3) := dz2 dzo182 0 0 62 dzbX9_readWalker_93 rfl
theorem dX9_readWalker_96 : decode cX9_readWalker 96 = .ok (.ireturn, 1) := dz0 dzo172 3 dzbX9_readWalker_93 rfl
theorem dX9_readWalker_97 : decode cX9_readWalker 97 = .ok (.aload_n 0, 1) := dz0 dzo42 4 dzbX9_readWalker_93 rfl
theorem dX9_readWalker_98 : decode cX9_readWalker 98 = .ok (.invokevirtual 42, 3) := dz2 dzo182 5 0 42 dzbX9_readWalker_93 rfl
theorem dX9_readWalker_101 : decode cX9_readWalker 101 = .ok (.aload_n 0, 1) := dz0 dzo42 8 dzbX9_readWalker_93 rfl
theorem dX9_readWalker_102 : decode cX9_readWalker 102 = .ok (.ldc 152, 2) := dz1 dzo18 9 152 dzbX9_readWalker_93 rfl
theorem dX9_readWalker_104 : decode cX9_readWalker 104 = .ok (.invokevirtual 78, 3) := dz2 dzo182 11 0 78 dzbX9_readWalker_93 rfl
theorem dX9_readWalker_107 : decode cX9_readWalker 107 = .ok (.ifCond .eq 15, 3) := dz4 dzo153 14 0 15 15 rfl dzbX9_readWalker_93 rfl
theorem dX9_readWalker_110 : decode cX9_readWalker 110 = .ok (.aload_n 0, 1) := dz0 dzo42 17 dzbX9_readWalker_93 rfl
theorem dX9_readWalker_111 : decode cX9_readWalker 111 = .ok (.aload_n 1, 1) := dz0 dzo43 18 dzbX9_readWalker_93 rfl
theorem dX9_readWalker_112 : decode cX9_readWalker 112 = .ok (.getfield 99, 3) := dz2 dzo180 19 0 99 dzbX9_readWalker_93 rfl
theorem dX9_readWalker_115 : decode cX9_readWalker 115 = .ok (.iconst 0, 1) := dz0 dzo3 22 dzbX9_readWalker_93 rfl
theorem dzbX9_readWalker_116 : dzB cX9_readWalker 116 [182, 0, 154, 154, 0, 5, 3, 172, 43, 180, 0, 158, 28, 42, 180, 0, 86, 79, 42, 18, 161, 182, 0, 78] := by decide +kernel
theorem dX9_readWalker_116 : decode cX9_readWalker 116 = .ok (.invokevirtual 154, 3) := dz2 dzo182 0 0 154 dzbX9_readWalker_116 rfl
theorem dX9_readWalker_119 : decode cX9_readWalker 119 = .ok (.ifCond .ne 5, 3) := dz4 dzo154 3 0 5 5 rfl dzbX9_readWalker_116 rfl
theorem dX9_readWalker_122 : decode cX9_readWalker 122 = .ok (.iconst 0, 1) := dz0 dzo3 6 dzbX9_readWalker_116 rfl
theorem dX9_readWalker_123 : decode cX9_readWalker 123 = .ok (.ireturn, 1) := dz0 dzo172 7 dzbX9_readWalker_116 rfl
theorem dX9_readWalker_124 : decode cX9_readWalker 124 = .ok (.aload_n 1, 1) := dz0 dzo43 8 dzbX9_readWalker_116 rfl
theorem dX9_readWalker_125 : decode cX9_readWalker 125 = .ok (.getfield 158, 3) := dz2 dzo180 9 0 158 dzbX9_readWalker_116 rfl
theorem dX9_readWalker_128 : decode cX9_readWalker 128 = .ok (.iload_n 2, 1) := dz0 dzo28 12 dzbX9_readWalker_116 rfl
theorem dX9_readWalker_129 : decode cX9_readWalker 129 = .ok (.aload_n 0, 1) := dz0 dzo42 13 dzbX9_readWalker_116 rfl
theorem dX9_readWalker_130 : decode cX9_readWalker 130 = .ok (.getfield 86, 3) := dz2 dzo180 14 0 86 dzbX9_readWalker_116 rfl
theorem dX9_readWalker_133 : decode cX9_readWalker 133 = .ok (.iastore, 1) := dz0 dzo79 17 dzbX9_readWalker_116 rfl
theorem dX9_readWalker_134 : decode cX9_readWalker 134 = .ok (.aload_n 0, 1) := dz0 dzo42 18 dzbX9_readWalker_116 rfl
theorem dX9_readWalker_135 : decode cX9_readWalker 135 = .ok (.ldc 161, 2) := dz1 dzo18 19 161 dzbX9_readWalker_116 rfl
theorem dX9_readWalker_137 : decode cX9_readWalker 137 = .ok (.invokevirtual 78, 3) := dz2 dzo182 21 0 78 dzbX9_readWalker_116 rfl
theorem dzbX9_readWalker_140 : dzB cX9_readWalker 140 [153, 0, 15, 42, 43, 180, 0, 99, 3, 182, 0, 154, 154, 0, 5, 3, 172, 43, 180, 0, 163, 28, 42] := by decide +kernel
theorem dX9_readWalker_140 : decode cX9_readWalker 140 = .ok (.ifCond .eq 15, 3) := dz4 dzo153 0 0 15 15 rfl dzbX9_readWalker_140 rfl
theorem dX9_readWalker_143 : decode cX9_readWalker 143 = .ok (.aload_n 0, 1) := dz0 dzo42 3 dzbX9_readWalker_140 rfl
theorem dX9_readWalker_144 : decode cX9_readWalker 144 = .ok (.aload_n 1, 1) := dz0 dzo43 4 dzbX9_readWalker_140 rfl
theorem dX9_readWalker_145 : decode cX9_readWalker 145 = .ok (.getfield 99, 3) := dz2 dzo180 5 0 99 dzbX9_readWalker_140 rfl
theorem dX9_readWalker_148 : decode cX9_readWalker 148 = .ok (.iconst 0, 1) := dz0 dzo3 8 dzbX9_readWalker_140 rfl
theorem dX9_readWalker_149 : decode cX9_readWalker 149 = .ok (.invokevirtual 154, 3) := dz2 dzo182 9 0 154 dzbX9_readWalker_140 rfl
theorem dX9_readWalker_152 : decode cX9_readWalker 152 = .ok (.ifCond .ne 5, 3) := dz4 dzo154 12 0 5 5 rfl dzbX9_readWalker_140 rfl
theorem dX9_readWalker_155 : decode cX9_readWalker 155 = .ok (.iconst 0, 1) := dz0 dzo3 15 dzbX9_readWalker_140 rfl
theorem dX9_readWalker_156 : decode cX9_readWalker 156 = .ok (.ireturn, 1) := dz0 dzo172 16 dzbX9_readWalker_140 rfl
theorem dX9_readWalker_157 : decode cX9_readWalker 157 = .ok (.aload_n 1, 1) := dz0 dzo43 17 dzbX9_readWalker_140 rfl
theorem dX9_readWalker_158 : decode cX9_readWalker 158 = .ok (.getfield 163, 3) := dz2 dzo180 18 0 163 dzbX9_readWalker_140 rfl
theorem dX9_readWalker_161 : decode cX9_readWalker 161 = .ok (.iload_n 2, 1) := dz0 dzo28 21 dzbX9_readWalker_140 rfl
theorem dX9_readWalker_162 : decode cX9_readWalker 162 = .ok (.aload_n 0, 1) := dz0 dzo42 22 dzbX9_readWalker_140 rfl
theorem dzbX9_readWalker_163 : dzB cX9_readWalker 163 [180, 0, 86, 79, 43, 180, 0, 166, 28, 33, 80, 43, 180, 0, 170, 28, 21, 5, 79, 43, 89, 180, 0, 138] := by decide +kernel
theorem dX9_readWalker_163 : decode cX9_readWalker 163 = .ok (.getfield 86, 3) := dz2 dzo180 0 0 86 dzbX9_readWalker_163 rfl
theorem dX9_readWalker_166 : decode cX9_readWalker 166 = .ok (.iastore, 1) := dz0 dzo79 3 dzbX9_readWalker_163 rfl
theorem dX9_readWalker_167 : decode cX9_readWalker 167 = .ok (.aload_n 1, 1) := dz0 dzo43 4 dzbX9_readWalker_163 rfl
theorem dX9_readWalker_168 : decode cX9_readWalker 168 = .ok (.getfield 166, 3) := dz2 dzo180 5 0 166 dzbX9_readWalker_163 rfl
theorem dX9_readWalker_171 : decode cX9_readWalker 171 = .ok (.iload_n 2, 1) := dz0 dzo28 8 dzbX9_readWalker_163 rfl
theorem dX9_readWalker_172 : decode cX9_readWalker 172 = .ok (.lload_n 3, 1) := dz0 dzo33 9 dzbX9_readWalker_163 rfl
theorem dX9_readWalker_173 : decode cX9_readWalker 173 = .ok (.lastore, 1) := dz0 dzo80 10 dzbX9_readWalker_163 rfl
theorem dX9_readWalker_174 : decode cX9_readWalker 174 = .ok (.aload_n 1, 1) := dz0 dzo43 11 dzbX9_readWalker_163 rfl
theorem dX9_readWalker_175 : decode cX9_readWalker 175 = .ok (.getfield 170, 3) := dz2 dzo180 12 0 170 dzbX9_readWalker_163 rfl
theorem dX9_readWalker_178 : decode cX9_readWalker 178 = .ok (.iload_n 2, 1) := dz0 dzo28 15 dzbX9_readWalker_163 rfl
theorem dX9_readWalker_179 : decode cX9_readWalker 179 = .ok (.iload 5, 2) := dz1 dzo21 16 5 dzbX9_readWalker_163 rfl
theorem dX9_readWalker_181 : decode cX9_readWalker 181 = .ok (.iastore, 1) := dz0 dzo79 18 dzbX9_readWalker_163 rfl
theorem dX9_readWalker_182 : decode cX9_readWalker 182 = .ok (.aload_n 1, 1) := dz0 dzo43 19 dzbX9_readWalker_163 rfl
theorem dX9_readWalker_183 : decode cX9_readWalker 183 = .ok (.dup, 1) := dz0 dzo89 20 dzbX9_readWalker_163 rfl
theorem dX9_readWalker_184 : decode cX9_readWalker 184 = .ok (.getfield 138, 3) := dz2 dzo180 21 0 138 dzbX9_readWalker_163 rfl
theorem dzbX9_readWalker_187 : dzB cX9_readWalker 187 [4, 96, 181, 0, 138, 4, 172] := by decide +kernel
theorem dX9_readWalker_187 : decode cX9_readWalker 187 = .ok (.iconst 1, 1) := dz0 dzo4 0 dzbX9_readWalker_187 rfl
theorem dX9_readWalker_188 : decode cX9_readWalker 188 = .ok (.iadd, 1) := dz0 dzo96 1 dzbX9_readWalker_187 rfl
theorem dX9_readWalker_189 : decode cX9_readWalker 189 = .ok (.putfield 138, 3) := dz2 dzo181 2 0 138 dzbX9_readWalker_187 rfl
theorem dX9_readWalker_192 : decode cX9_readWalker 192 = .ok (.iconst 1, 1) := dz0 dzo4 5 dzbX9_readWalker_187 rfl
theorem dX9_readWalker_193 : decode cX9_readWalker 193 = .ok (.ireturn, 1) := dz0 dzo172 6 dzbX9_readWalker_187 rfl
theorem dzbX9_readWhole_0 : dzB cX9_readWhole 0 [42, 180, 0, 66, 5, 159, 0, 9, 42, 4, 182, 0, 62, 172, 42, 3, 181, 0, 86, 42, 180, 0, 119, 62] := by decide +kernel
theorem dX9_readWhole_0 : decode cX9_readWhole 0 = .ok (.aload_n 0, 1) := dz0 dzo42 0 dzbX9_readWhole_0 rfl
theorem dX9_readWhole_1 : decode cX9_readWhole 1 = .ok (.getfield 66, 3) := dz2 dzo180 1 0 66 dzbX9_readWhole_0 rfl
theorem dX9_readWhole_4 : decode cX9_readWhole 4 = .ok (.iconst 2, 1) := dz0 dzo5 4 dzbX9_readWhole_0 rfl
theorem dX9_readWhole_5 : decode cX9_readWhole 5 = .ok (.if_icmp .eq 9, 3) := dz4 dzo159 5 0 9 9 rfl dzbX9_readWhole_0 rfl
theorem dX9_readWhole_8 : decode cX9_readWhole 8 = .ok (.aload_n 0, 1) := dz0 dzo42 8 dzbX9_readWhole_0 rfl
theorem dX9_readWhole_9 : decode cX9_readWhole 9 = .ok (.iconst 1, 1) := dz0 dzo4 9 dzbX9_readWhole_0 rfl
theorem dX9_readWhole_10 : decode cX9_readWhole 10 = .ok (.invokevirtual 62, 3) := dz2 dzo182 10 0 62 dzbX9_readWhole_0 rfl
theorem dX9_readWhole_13 : decode cX9_readWhole 13 = .ok (.ireturn, 1) := dz0 dzo172 13 dzbX9_readWhole_0 rfl
theorem dX9_readWhole_14 : decode cX9_readWhole 14 = .ok (.aload_n 0, 1) := dz0 dzo42 14 dzbX9_readWhole_0 rfl
theorem dX9_readWhole_15 : decode cX9_readWhole 15 = .ok (.iconst 0, 1) := dz0 dzo3 15 dzbX9_readWhole_0 rfl
theorem dX9_readWhole_16 : decode cX9_readWhole 16 = .ok (.putfield 86, 3) := dz2 dzo181 16 0 86 dzbX9_readWhole_0 rfl
theorem dX9_readWhole_19 : decode cX9_readWhole 19 = .ok (.aload_n 0, 1) := dz0 dzo42 19 dzbX9_readWhole_0 rfl
theorem dX9_readWhole_20 : decode cX9_readWhole 20 = .ok (.getfield 119, 3) := dz2 dzo180 20 0 119 dzbX9_readWhole_0 rfl
theorem dX9_readWhole_23 : decode cX9_readWhole 23 = .ok (.istore_n 3, 1) := dz0 dzo62 23 dzbX9_readWhole_0 rfl
theorem dzbX9_readWhole_24 : dzB cX9_readWhole 24 [29, 42, 180, 0, 28, 162, 0, 30, 42, 42, 180, 0, 86, 16, 10, 104, 42, 180, 0, 11, 29, 51, 96] := by decide +kernel
theorem dX9_readWhole_24 : decode cX9_readWhole 24 = .ok (.iload_n 3, 1) := dz0 dzo29 0 dzbX9_readWhole_24 rfl
theorem dX9_readWhole_25 : decode cX9_readWhole 25 = .ok (.aload_n 0, 1) := dz0 dzo42 1 dzbX9_readWhole_24 rfl
theorem dX9_readWhole_26 : decode cX9_readWhole 26 = .ok (.getfield 28, 3) := dz2 dzo180 2 0 28 dzbX9_readWhole_24 rfl
theorem dX9_readWhole_29 : decode cX9_readWhole 29 = .ok (.if_icmp .ge 30, 3) := dz4 dzo162 5 0 30 30 rfl dzbX9_readWhole_24 rfl
theorem dX9_readWhole_32 : decode cX9_readWhole 32 = .ok (.aload_n 0, 1) := dz0 dzo42 8 dzbX9_readWhole_24 rfl
theorem dX9_readWhole_33 : decode cX9_readWhole 33 = .ok (.aload_n 0, 1) := dz0 dzo42 9 dzbX9_readWhole_24 rfl
theorem dX9_readWhole_34 : decode cX9_readWhole 34 = .ok (.getfield 86, 3) := dz2 dzo180 10 0 86 dzbX9_readWhole_24 rfl
theorem dX9_readWhole_37 : decode cX9_readWhole 37 = .ok (.bipush 10, 2) := dz3 dzo16 13 10 10 rfl dzbX9_readWhole_24 rfl
theorem dX9_readWhole_39 : decode cX9_readWhole 39 = .ok (.imul, 1) := dz0 dzo104 15 dzbX9_readWhole_24 rfl
theorem dX9_readWhole_40 : decode cX9_readWhole 40 = .ok (.aload_n 0, 1) := dz0 dzo42 16 dzbX9_readWhole_24 rfl
theorem dX9_readWhole_41 : decode cX9_readWhole 41 = .ok (.getfield 11, 3) := dz2 dzo180 17 0 11 dzbX9_readWhole_24 rfl
theorem dX9_readWhole_44 : decode cX9_readWhole 44 = .ok (.iload_n 3, 1) := dz0 dzo29 20 dzbX9_readWhole_24 rfl
theorem dX9_readWhole_45 : decode cX9_readWhole 45 = .ok (.baload, 1) := dz0 dzo51 21 dzbX9_readWhole_24 rfl
theorem dX9_readWhole_46 : decode cX9_readWhole 46 = .ok (.iadd, 1) := dz0 dzo96 22 dzbX9_readWhole_24 rfl
theorem dzbX9_readWhole_47 : dzB cX9_readWhole 47 [16, 48, 100, 181, 0, 86, 132, 3, 1, 167, 255, 224, 42, 180, 0, 86, 27, 161, 0, 11, 42, 180, 0, 86] := by decide +kernel
theorem dX9_readWhole_47 : decode cX9_readWhole 47 = .ok (.bipush 48, 2) := dz3 dzo16 0 48 48 rfl dzbX9_readWhole_47 rfl
theorem dX9_readWhole_49 : decode cX9_readWhole 49 = .ok (.isub, 1) := dz0 dzo100 2 dzbX9_readWhole_47 rfl
theorem dX9_readWhole_50 : decode cX9_readWhole 50 = .ok (.putfield 86, 3) := dz2 dzo181 3 0 86 dzbX9_readWhole_47 rfl
theorem dX9_readWhole_53 : decode cX9_readWhole 53 = .ok (.iinc 3 1, 3) := dz5 dzo132 6 3 1 1 rfl dzbX9_readWhole_47 rfl
theorem dX9_readWhole_56 : decode cX9_readWhole 56 = .ok (.goto (-32), 3) := dz4 dzo167 9 255 224 (-32) rfl dzbX9_readWhole_47 rfl
theorem dX9_readWhole_59 : decode cX9_readWhole 59 = .ok (.aload_n 0, 1) := dz0 dzo42 12 dzbX9_readWhole_47 rfl
theorem dX9_readWhole_60 : decode cX9_readWhole 60 = .ok (.getfield 86, 3) := dz2 dzo180 13 0 86 dzbX9_readWhole_47 rfl
theorem dX9_readWhole_63 : decode cX9_readWhole 63 = .ok (.iload_n 1, 1) := dz0 dzo27 16 dzbX9_readWhole_47 rfl
theorem dX9_readWhole_64 : decode cX9_readWhole 64 = .ok (.if_icmp .lt 11, 3) := dz4 dzo161 17 0 11 11 rfl dzbX9_readWhole_47 rfl
theorem dX9_readWhole_67 : decode cX9_readWhole 67 = .ok (.aload_n 0, 1) := dz0 dzo42 20 dzbX9_readWhole_47 rfl
theorem dX9_readWhole_68 : decode cX9_readWhole 68 = .ok (.getfield 86, 3) := dz2 dzo180 21 0 86 dzbX9_readWhole_47 rfl
theorem dzbX9_readWhole_71 : dzB cX9_readWhole 71 [28, 164, 0, 9, 42, 7, 182, 0, 62, 172, 42, 182, 0, 42, 4, 172] := by decide +kernel
theorem dX9_readWhole_71 : decode cX9_readWhole 71 = .ok (.iload_n 2, 1) := dz0 dzo28 0 dzbX9_readWhole_71 rfl
theorem dX9_readWhole_72 : decode cX9_readWhole 72 = .ok (.if_icmp .le 9, 3) := dz4 dzo164 1 0 9 9 rfl dzbX9_readWhole_71 rfl
theorem dX9_readWhole_75 : decode cX9_readWhole 75 = .ok (.aload_n 0, 1) := dz0 dzo42 4 dzbX9_readWhole_71 rfl
theorem dX9_readWhole_76 : decode cX9_readWhole 76 = .ok (.iconst 4, 1) := dz0 dzo7 5 dzbX9_readWhole_71 rfl
theorem dX9_readWhole_77 : decode cX9_readWhole 77 = .ok (.invokevirtual 62, 3) := dz2 dzo182 6 0 62 dzbX9_readWhole_71 rfl
theorem dX9_readWhole_80 : decode cX9_readWhole 80 = .ok (.ireturn, 1) := dz0 dzo172 9 dzbX9_readWhole_71 rfl
theorem dX9_readWhole_81 : decode cX9_readWhole 81 = .ok (.aload_n 0, 1) := dz0 dzo42 10 dzbX9_readWhole_71 rfl
theorem dX9_readWhole_82 : decode cX9_readWhole 82 = .ok (.invokevirtual 42, 3) := dz2 dzo182 11 0 42 dzbX9_readWhole_71 rfl
theorem dX9_readWhole_85 : decode cX9_readWhole 85 = .ok (.iconst 1, 1) := dz0 dzo4 14 dzbX9_readWhole_71 rfl
theorem dX9_readWhole_86 : decode cX9_readWhole 86 = .ok (.ireturn, 1) := dz0 dzo172 15 dzbX9_readWhole_71 rfl
theorem dzbX9_readWord_0 : dzB cX9_readWord 0 [42, 43, 182, 0, 183, 154, 0, 9, 42, 4, 182, 0, 62, 172, 42, 182, 0, 42, 4, 172] := by decide +kernel
theorem dX9_readWord_0 : decode cX9_readWord 0 = .ok (.aload_n 0, 1) := dz0 dzo42 0 dzbX9_readWord_0 rfl
theorem dX9_readWord_1 : decode cX9_readWord 1 = .ok (.aload_n 1, 1) := dz0 dzo43 1 dzbX9_readWord_0 rfl
theorem dX9_readWord_2 : decode cX9_readWord 2 = .ok (.invokevirtual 183, 3) := dz2 dzo182 2 0 183 dzbX9_readWord_0 rfl
theorem dX9_readWord_5 : decode cX9_readWord 5 = .ok (.ifCond .ne 9, 3) := dz4 dzo154 5 0 9 9 rfl dzbX9_readWord_0 rfl
theorem dX9_readWord_8 : decode cX9_readWord 8 = .ok (.aload_n 0, 1) := dz0 dzo42 8 dzbX9_readWord_0 rfl
theorem dX9_readWord_9 : decode cX9_readWord 9 = .ok (.iconst 1, 1) := dz0 dzo4 9 dzbX9_readWord_0 rfl
theorem dX9_readWord_10 : decode cX9_readWord 10 = .ok (.invokevirtual 62, 3) := dz2 dzo182 10 0 62 dzbX9_readWord_0 rfl
theorem dX9_readWord_13 : decode cX9_readWord 13 = .ok (.ireturn, 1) := dz0 dzo172 13 dzbX9_readWord_0 rfl
theorem dX9_readWord_14 : decode cX9_readWord 14 = .ok (.aload_n 0, 1) := dz0 dzo42 14 dzbX9_readWord_0 rfl
theorem dX9_readWord_15 : decode cX9_readWord 15 = .ok (.invokevirtual 42, 3) := dz2 dzo182 15 0 42 dzbX9_readWord_0 rfl
theorem dX9_readWord_18 : decode cX9_readWord 18 = .ok (.iconst 1, 1) := dz0 dzo4 18 dzbX9_readWord_0 rfl
theorem dX9_readWord_19 : decode cX9_readWord 19 = .ok (.ireturn, 1) := dz0 dzo172 19 dzbX9_readWord_0 rfl
theorem dzbX9_runEnd_0 : dzB cX9_runEnd 0 [27, 54, 4, 21, 4, 42, 180, 0, 25, 162, 0, 31, 42, 180, 0, 11, 21, 4, 51, 28, 161, 0, 20, 42] := by decide +kernel
theorem dX9_runEnd_0 : decode cX9_runEnd 0 = .ok (.iload_n 1, 1) := dz0 dzo27 0 dzbX9_runEnd_0 rfl
theorem dX9_runEnd_1 : decode cX9_runEnd 1 = .ok (.istore 4, 2) := dz1 dzo54 1 4 dzbX9_runEnd_0 rfl
theorem dX9_runEnd_3 : decode cX9_runEnd 3 = .ok (.iload 4, 2) := dz1 dzo21 3 4 dzbX9_runEnd_0 rfl
theorem dX9_runEnd_5 : decode cX9_runEnd 5 = .ok (.aload_n 0, 1) := dz0 dzo42 5 dzbX9_runEnd_0 rfl
theorem dX9_runEnd_6 : decode cX9_runEnd 6 = .ok (.getfield 25, 3) := dz2 dzo180 6 0 25 dzbX9_runEnd_0 rfl
theorem dX9_runEnd_9 : decode cX9_runEnd 9 = .ok (.if_icmp .ge 31, 3) := dz4 dzo162 9 0 31 31 rfl dzbX9_runEnd_0 rfl
theorem dX9_runEnd_12 : decode cX9_runEnd 12 = .ok (.aload_n 0, 1) := dz0 dzo42 12 dzbX9_runEnd_0 rfl
theorem dX9_runEnd_13 : decode cX9_runEnd 13 = .ok (.getfield 11, 3) := dz2 dzo180 13 0 11 dzbX9_runEnd_0 rfl
theorem dX9_runEnd_16 : decode cX9_runEnd 16 = .ok (.iload 4, 2) := dz1 dzo21 16 4 dzbX9_runEnd_0 rfl
theorem dX9_runEnd_18 : decode cX9_runEnd 18 = .ok (.baload, 1) := dz0 dzo51 18 dzbX9_runEnd_0 rfl
theorem dX9_runEnd_19 : decode cX9_runEnd 19 = .ok (.iload_n 2, 1) := dz0 dzo28 19 dzbX9_runEnd_0 rfl
theorem dX9_runEnd_20 : decode cX9_runEnd 20 = .ok (.if_icmp .lt 20, 3) := dz4 dzo161 20 0 20 20 rfl dzbX9_runEnd_0 rfl
theorem dX9_runEnd_23 : decode cX9_runEnd 23 = .ok (.aload_n 0, 1) := dz0 dzo42 23 dzbX9_runEnd_0 rfl
theorem dzbX9_runEnd_24 : dzB cX9_runEnd 24 [180, 0, 11, 21, 4, 51, 29, 163, 0, 9, 132, 4, 1, 167, 255, 222, 21, 4, 172] := by decide +kernel
theorem dX9_runEnd_24 : decode cX9_runEnd 24 = .ok (.getfield 11, 3) := dz2 dzo180 0 0 11 dzbX9_runEnd_24 rfl
theorem dX9_runEnd_27 : decode cX9_runEnd 27 = .ok (.iload 4, 2) := dz1 dzo21 3 4 dzbX9_runEnd_24 rfl
theorem dX9_runEnd_29 : decode cX9_runEnd 29 = .ok (.baload, 1) := dz0 dzo51 5 dzbX9_runEnd_24 rfl
theorem dX9_runEnd_30 : decode cX9_runEnd 30 = .ok (.iload_n 3, 1) := dz0 dzo29 6 dzbX9_runEnd_24 rfl
theorem dX9_runEnd_31 : decode cX9_runEnd 31 = .ok (.if_icmp .gt 9, 3) := dz4 dzo163 7 0 9 9 rfl dzbX9_runEnd_24 rfl
theorem dX9_runEnd_34 : decode cX9_runEnd 34 = .ok (.iinc 4 1, 3) := dz5 dzo132 10 4 1 1 rfl dzbX9_runEnd_24 rfl
theorem dX9_runEnd_37 : decode cX9_runEnd 37 = .ok (.goto (-34), 3) := dz4 dzo167 13 255 222 (-34) rfl dzbX9_runEnd_24 rfl
theorem dX9_runEnd_40 : decode cX9_runEnd 40 = .ok (.iload 4, 2) := dz1 dzo21 16 4 dzbX9_runEnd_24 rfl
theorem dX9_runEnd_42 : decode cX9_runEnd 42 = .ok (.ireturn, 1) := dz0 dzo172 18 dzbX9_runEnd_24 rfl
theorem dzbX9_wrong_0 : dzB cX9_wrong 0 [42, 27, 181, 0, 31, 42, 42, 180, 0, 119, 181, 0, 34, 3, 172] := by decide +kernel
theorem dX9_wrong_0 : decode cX9_wrong 0 = .ok (.aload_n 0, 1) := dz0 dzo42 0 dzbX9_wrong_0 rfl
theorem dX9_wrong_1 : decode cX9_wrong 1 = .ok (.iload_n 1, 1) := dz0 dzo27 1 dzbX9_wrong_0 rfl
theorem dX9_wrong_2 : decode cX9_wrong 2 = .ok (.putfield 31, 3) := dz2 dzo181 2 0 31 dzbX9_wrong_0 rfl
theorem dX9_wrong_5 : decode cX9_wrong 5 = .ok (.aload_n 0, 1) := dz0 dzo42 5 dzbX9_wrong_0 rfl
theorem dX9_wrong_6 : decode cX9_wrong 6 = .ok (.aload_n 0, 1) := dz0 dzo42 6 dzbX9_wrong_0 rfl
theorem dX9_wrong_7 : decode cX9_wrong 7 = .ok (.getfield 119, 3) := dz2 dzo180 7 0 119 dzbX9_wrong_0 rfl
theorem dX9_wrong_10 : decode cX9_wrong 10 = .ok (.putfield 34, 3) := dz2 dzo181 10 0 34 dzbX9_wrong_0 rfl
theorem dX9_wrong_13 : decode cX9_wrong 13 = .ok (.iconst 0, 1) := dz0 dzo3 13 dzbX9_wrong_0 rfl
theorem dX9_wrong_14 : decode cX9_wrong 14 = .ok (.ireturn, 1) := dz0 dzo172 14 dzbX9_wrong_0 rfl
