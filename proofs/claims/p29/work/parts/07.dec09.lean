section
theorem dzbX9_next_86 : dzB cX9_next 86 [158, 0, 21, 42, 27, 16, 8, 163, 0, 7, 4, 167, 0, 4, 3, 181, 0, 66, 167, 0, 57, 28] := by decide +kernel
theorem dX9_next_86 : decode cX9_next 86 = .ok (.ifCond .le 21, 3) := dz4 dzo158 0 0 21 21 rfl dzbX9_next_86 rfl
theorem dX9_next_89 : decode cX9_next 89 = .ok (.aload_n 0, 1) := dz0 dzo42 3 dzbX9_next_86 rfl
theorem dX9_next_90 : decode cX9_next 90 = .ok (.iload_n 1, 1) := dz0 dzo27 4 dzbX9_next_86 rfl
theorem dX9_next_91 : decode cX9_next 91 = .ok (.bipush 8, 2) := dz3 dzo16 5 8 8 rfl dzbX9_next_86 rfl
theorem dX9_next_93 : decode cX9_next 93 = .ok (.if_icmp .gt 7, 3) := dz4 dzo163 7 0 7 7 rfl dzbX9_next_86 rfl
theorem dX9_next_96 : decode cX9_next 96 = .ok (.iconst 1, 1) := dz0 dzo4 10 dzbX9_next_86 rfl
theorem dX9_next_97 : decode cX9_next 97 = .ok (.goto 4, 3) := dz4 dzo167 11 0 4 4 rfl dzbX9_next_86 rfl
theorem dX9_next_100 : decode cX9_next 100 = .ok (.iconst 0, 1) := dz0 dzo3 14 dzbX9_next_86 rfl
theorem dX9_next_101 : decode cX9_next 101 = .ok (.putfield 66, 3) := dz2 dzo181 15 0 66 dzbX9_next_86 rfl
theorem dX9_next_104 : decode cX9_next 104 = .ok (.goto 57, 3) := dz4 dzo167 18 0 57 57 rfl dzbX9_next_86 rfl
theorem dX9_next_107 : decode cX9_next 107 = .ok (.iload_n 2, 1) := dz0 dzo28 21 dzbX9_next_86 rfl
theorem dzbX9_next_108 : dzB cX9_next 108 [158, 0, 20, 42, 28, 6, 163, 0, 7, 5, 167, 0, 4, 3, 181, 0, 66, 167, 0, 36, 42, 42] := by decide +kernel
theorem dX9_next_108 : decode cX9_next 108 = .ok (.ifCond .le 20, 3) := dz4 dzo158 0 0 20 20 rfl dzbX9_next_108 rfl
theorem dX9_next_111 : decode cX9_next 111 = .ok (.aload_n 0, 1) := dz0 dzo42 3 dzbX9_next_108 rfl
theorem dX9_next_112 : decode cX9_next 112 = .ok (.iload_n 2, 1) := dz0 dzo28 4 dzbX9_next_108 rfl
theorem dX9_next_113 : decode cX9_next 113 = .ok (.iconst 3, 1) := dz0 dzo6 5 dzbX9_next_108 rfl
theorem dX9_next_114 : decode cX9_next 114 = .ok (.if_icmp .gt 7, 3) := dz4 dzo163 6 0 7 7 rfl dzbX9_next_108 rfl
theorem dX9_next_117 : decode cX9_next 117 = .ok (.iconst 2, 1) := dz0 dzo5 9 dzbX9_next_108 rfl
theorem dX9_next_118 : decode cX9_next 118 = .ok (.goto 4, 3) := dz4 dzo167 10 0 4 4 rfl dzbX9_next_108 rfl
theorem dX9_next_121 : decode cX9_next 121 = .ok (.iconst 0, 1) := dz0 dzo3 13 dzbX9_next_108 rfl
theorem dX9_next_122 : decode cX9_next 122 = .ok (.putfield 66, 3) := dz2 dzo181 14 0 66 dzbX9_next_108 rfl
theorem dX9_next_125 : decode cX9_next 125 = .ok (.goto 36, 3) := dz4 dzo167 17 0 36 36 rfl dzbX9_next_108 rfl
theorem dX9_next_128 : decode cX9_next 128 = .ok (.aload_n 0, 1) := dz0 dzo42 20 dzbX9_next_108 rfl
theorem dX9_next_129 : decode cX9_next 129 = .ok (.aload_n 0, 1) := dz0 dzo42 21 dzbX9_next_108 rfl
theorem dzbX9_next_130 : dzB cX9_next 130 [180, 0, 11, 42, 180, 0, 119, 51, 16, 59, 160, 0, 7, 6, 167, 0, 4, 3, 181, 0, 66, 42, 42] := by decide +kernel
theorem dX9_next_130 : decode cX9_next 130 = .ok (.getfield 11, 3) := dz2 dzo180 0 0 11 dzbX9_next_130 rfl
theorem dX9_next_133 : decode cX9_next 133 = .ok (.aload_n 0, 1) := dz0 dzo42 3 dzbX9_next_130 rfl
theorem dX9_next_134 : decode cX9_next 134 = .ok (.getfield 119, 3) := dz2 dzo180 4 0 119 dzbX9_next_130 rfl
theorem dX9_next_137 : decode cX9_next 137 = .ok (.baload, 1) := dz0 dzo51 7 dzbX9_next_130 rfl
theorem dX9_next_138 : decode cX9_next 138 = .ok (.bipush 59, 2) := dz3 dzo16 8 59 59 rfl dzbX9_next_130 rfl
theorem dX9_next_140 : decode cX9_next 140 = .ok (.if_icmp .ne 7, 3) := dz4 dzo160 10 0 7 7 rfl dzbX9_next_130 rfl
theorem dX9_next_143 : decode cX9_next 143 = .ok (.iconst 3, 1) := dz0 dzo6 13 dzbX9_next_130 rfl
theorem dX9_next_144 : decode cX9_next 144 = .ok (.goto 4, 3) := dz4 dzo167 14 0 4 4 rfl dzbX9_next_130 rfl
theorem dX9_next_147 : decode cX9_next 147 = .ok (.iconst 0, 1) := dz0 dzo3 17 dzbX9_next_130 rfl
theorem dX9_next_148 : decode cX9_next 148 = .ok (.putfield 66, 3) := dz2 dzo181 18 0 66 dzbX9_next_130 rfl
theorem dX9_next_151 : decode cX9_next 151 = .ok (.aload_n 0, 1) := dz0 dzo42 21 dzbX9_next_130 rfl
theorem dX9_next_152 : decode cX9_next 152 = .ok (.aload_n 0, 1) := dz0 dzo42 22 dzbX9_next_130 rfl
theorem dzbX9_next_153 : dzB cX9_next 153 [180, 0, 119, 4, 96, 181, 0, 28, 177] := by decide +kernel
theorem dX9_next_153 : decode cX9_next 153 = .ok (.getfield 119, 3) := dz2 dzo180 0 0 119 dzbX9_next_153 rfl
theorem dX9_next_156 : decode cX9_next 156 = .ok (.iconst 1, 1) := dz0 dzo4 3 dzbX9_next_153 rfl
theorem dX9_next_157 : decode cX9_next 157 = .ok (.iadd, 1) := dz0 dzo96 4 dzbX9_next_153 rfl
theorem dX9_next_158 : decode cX9_next 158 = .ok (.putfield 28, 3) := dz2 dzo181 5 0 28 dzbX9_next_153 rfl
theorem dX9_next_161 : decode cX9_next 161 = .ok (.return_, 1) := dz0 dzo177 8 dzbX9_next_153 rfl
theorem dzbX9_read_0 : dzB cX9_read 0 [42, 27, 42, 180, 0, 15, 184, 0, 19, 181, 0, 25, 42, 3, 181, 0, 15, 42, 3, 181, 0, 28, 42, 3] := by decide +kernel
theorem dX9_read_0 : decode cX9_read 0 = .ok (.aload_n 0, 1) := dz0 dzo42 0 dzbX9_read_0 rfl
theorem dX9_read_1 : decode cX9_read 1 = .ok (.iload_n 1, 1) := dz0 dzo27 1 dzbX9_read_0 rfl
theorem dX9_read_2 : decode cX9_read 2 = .ok (.aload_n 0, 1) := dz0 dzo42 2 dzbX9_read_0 rfl
theorem dX9_read_3 : decode cX9_read 3 = .ok (.getfield 15, 3) := dz2 dzo180 3 0 15 dzbX9_read_0 rfl
theorem dX9_read_6 : decode cX9_read 6 = .ok (.invokestatic 19, 3) := dz2 dzo184 6 0 19 dzbX9_read_0 rfl
theorem dX9_read_9 : decode cX9_read 9 = .ok (.putfield 25, 3) := dz2 dzo181 9 0 25 dzbX9_read_0 rfl
theorem dX9_read_12 : decode cX9_read 12 = .ok (.aload_n 0, 1) := dz0 dzo42 12 dzbX9_read_0 rfl
theorem dX9_read_13 : decode cX9_read 13 = .ok (.iconst 0, 1) := dz0 dzo3 13 dzbX9_read_0 rfl
theorem dX9_read_14 : decode cX9_read 14 = .ok (.putfield 15, 3) := dz2 dzo181 14 0 15 dzbX9_read_0 rfl
theorem dX9_read_17 : decode cX9_read 17 = .ok (.aload_n 0, 1) := dz0 dzo42 17 dzbX9_read_0 rfl
theorem dX9_read_18 : decode cX9_read 18 = .ok (.iconst 0, 1) := dz0 dzo3 18 dzbX9_read_0 rfl
theorem dX9_read_19 : decode cX9_read 19 = .ok (.putfield 28, 3) := dz2 dzo181 19 0 28 dzbX9_read_0 rfl
theorem dX9_read_22 : decode cX9_read 22 = .ok (.aload_n 0, 1) := dz0 dzo42 22 dzbX9_read_0 rfl
theorem dX9_read_23 : decode cX9_read 23 = .ok (.iconst 0, 1) := dz0 dzo3 23 dzbX9_read_0 rfl
theorem dzbX9_read_24 : dzB cX9_read 24 [181, 0, 31, 42, 2, 181, 0, 34, 44, 182, 0, 37, 42, 182, 0, 42, 3, 62, 29, 17, 3, 32] := by decide +kernel
theorem dX9_read_24 : decode cX9_read 24 = .ok (.putfield 31, 3) := dz2 dzo181 0 0 31 dzbX9_read_24 rfl
theorem dX9_read_27 : decode cX9_read 27 = .ok (.aload_n 0, 1) := dz0 dzo42 3 dzbX9_read_24 rfl
theorem dX9_read_28 : decode cX9_read 28 = .ok (.iconst (-1), 1) := dz0 dzo2 4 dzbX9_read_24 rfl
theorem dX9_read_29 : decode cX9_read 29 = .ok (.putfield 34, 3) := dz2 dzo181 5 0 34 dzbX9_read_24 rfl
theorem dX9_read_32 : decode cX9_read 32 = .ok (.aload_n 2, 1) := dz0 dzo44 8 dzbX9_read_24 rfl
theorem dX9_read_33 : decode cX9_read 33 = .ok (.invokevirtual 37, 3) := dz2 dzo182 9 0 37 dzbX9_read_24 rfl
theorem dX9_read_36 : decode cX9_read 36 = .ok (.aload_n 0, 1) := dz0 dzo42 12 dzbX9_read_24 rfl
theorem dX9_read_37 : decode cX9_read 37 = .ok (.invokevirtual 42, 3) := dz2 dzo182 13 0 42 dzbX9_read_24 rfl
theorem dX9_read_40 : decode cX9_read 40 = .ok (.iconst 0, 1) := dz0 dzo3 16 dzbX9_read_24 rfl
theorem dX9_read_41 : decode cX9_read 41 = .ok (.istore_n 3, 1) := dz0 dzo62 17 dzbX9_read_24 rfl
theorem dX9_read_42 : decode cX9_read 42 = .ok (.iload_n 3, 1) := dz0 dzo29 18 dzbX9_read_24 rfl
theorem dX9_read_43 : decode cX9_read 43 = .ok (.sipush 800, 3) := dz4 dzo17 19 3 32 800 rfl dzbX9_read_24 rfl
theorem dzbX9_read_46 : dzB cX9_read 46 [163, 0, 146, 42, 182, 0, 45] := by decide +kernel
theorem dX9_read_46 : decode cX9_read 46 = .ok (.if_icmp .gt 146, 3) := dz4 dzo163 0 0 146 146 rfl dzbX9_read_46 rfl
theorem dX9_read_49 : decode cX9_read 49 = .ok (.aload_n 0, 1) := dz0 dzo42 3 dzbX9_read_46 rfl
theorem dX9_read_50 : decode cX9_read 50 = .ok (.invokevirtual 45, 3) := dz2 dzo182 4 0 45 dzbX9_read_46 rfl
theorem dX9_read_53 : decode cX9_read 53 = .ok (.tableswitch 71 0 3 #[31, 41, 51, 61], 31) := by decide +kernel
theorem dzbX9_read_84 : dzB cX9_read 84 [42, 44, 182, 0, 49, 54, 4, 167, 0, 40, 42, 44, 182, 0, 53, 54, 4, 167, 0, 30, 42, 44] := by decide +kernel
theorem dX9_read_84 : decode cX9_read 84 = .ok (.aload_n 0, 1) := dz0 dzo42 0 dzbX9_read_84 rfl
theorem dX9_read_85 : decode cX9_read 85 = .ok (.aload_n 2, 1) := dz0 dzo44 1 dzbX9_read_84 rfl
theorem dX9_read_86 : decode cX9_read 86 = .ok (.invokevirtual 49, 3) := dz2 dzo182 2 0 49 dzbX9_read_84 rfl
theorem dX9_read_89 : decode cX9_read 89 = .ok (.istore 4, 2) := dz1 dzo54 5 4 dzbX9_read_84 rfl
theorem dX9_read_91 : decode cX9_read 91 = .ok (.goto 40, 3) := dz4 dzo167 7 0 40 40 rfl dzbX9_read_84 rfl
theorem dX9_read_94 : decode cX9_read 94 = .ok (.aload_n 0, 1) := dz0 dzo42 10 dzbX9_read_84 rfl
theorem dX9_read_95 : decode cX9_read 95 = .ok (.aload_n 2, 1) := dz0 dzo44 11 dzbX9_read_84 rfl
theorem dX9_read_96 : decode cX9_read 96 = .ok (.invokevirtual 53, 3) := dz2 dzo182 12 0 53 dzbX9_read_84 rfl
theorem dX9_read_99 : decode cX9_read 99 = .ok (.istore 4, 2) := dz1 dzo54 15 4 dzbX9_read_84 rfl
theorem dX9_read_101 : decode cX9_read 101 = .ok (.goto 30, 3) := dz4 dzo167 17 0 30 30 rfl dzbX9_read_84 rfl
theorem dX9_read_104 : decode cX9_read 104 = .ok (.aload_n 0, 1) := dz0 dzo42 20 dzbX9_read_84 rfl
theorem dX9_read_105 : decode cX9_read 105 = .ok (.aload_n 2, 1) := dz0 dzo44 21 dzbX9_read_84 rfl
theorem dzbX9_read_106 : dzB cX9_read 106 [182, 0, 56, 54, 4, 167, 0, 20, 42, 44, 182, 0, 59, 54, 4, 167, 0, 10, 42, 4, 182, 0, 62] := by decide +kernel
theorem dX9_read_106 : decode cX9_read 106 = .ok (.invokevirtual 56, 3) := dz2 dzo182 0 0 56 dzbX9_read_106 rfl
theorem dX9_read_109 : decode cX9_read 109 = .ok (.istore 4, 2) := dz1 dzo54 3 4 dzbX9_read_106 rfl
theorem dX9_read_111 : decode cX9_read 111 = .ok (.goto 20, 3) := dz4 dzo167 5 0 20 20 rfl dzbX9_read_106 rfl
theorem dX9_read_114 : decode cX9_read 114 = .ok (.aload_n 0, 1) := dz0 dzo42 8 dzbX9_read_106 rfl
theorem dX9_read_115 : decode cX9_read 115 = .ok (.aload_n 2, 1) := dz0 dzo44 9 dzbX9_read_106 rfl
theorem dX9_read_116 : decode cX9_read 116 = .ok (.invokevirtual 59, 3) := dz2 dzo182 10 0 59 dzbX9_read_106 rfl
theorem dX9_read_119 : decode cX9_read 119 = .ok (.istore 4, 2) := dz1 dzo54 13 4 dzbX9_read_106 rfl
theorem dX9_read_121 : decode cX9_read 121 = .ok (.goto 10, 3) := dz4 dzo167 15 0 10 10 rfl dzbX9_read_106 rfl
theorem dX9_read_124 : decode cX9_read 124 = .ok (.aload_n 0, 1) := dz0 dzo42 18 dzbX9_read_106 rfl
theorem dX9_read_125 : decode cX9_read 125 = .ok (.iconst 1, 1) := dz0 dzo4 19 dzbX9_read_106 rfl
theorem dX9_read_126 : decode cX9_read 126 = .ok (.invokevirtual 62, 3) := dz2 dzo182 20 0 62 dzbX9_read_106 rfl
theorem dzbX9_read_129 : dzB cX9_read 129 [54, 4, 21, 4, 154, 0, 5, 3, 172, 42, 180, 0, 66, 7, 160, 0, 25, 44, 182, 0, 69, 154, 0, 12] := by decide +kernel
theorem dX9_read_129 : decode cX9_read 129 = .ok (.istore 4, 2) := dz1 dzo54 0 4 dzbX9_read_129 rfl
theorem dX9_read_131 : decode cX9_read 131 = .ok (.iload 4, 2) := dz1 dzo21 2 4 dzbX9_read_129 rfl
theorem dX9_read_133 : decode cX9_read 133 = .ok (.ifCond .ne 5, 3) := dz4 dzo154 4 0 5 5 rfl dzbX9_read_129 rfl
theorem dX9_read_136 : decode cX9_read 136 = .ok (.iconst 0, 1) := dz0 dzo3 7 dzbX9_read_129 rfl
theorem dX9_read_137 : decode cX9_read 137 = .ok (.ireturn, 1) := dz0 dzo172 8 dzbX9_read_129 rfl
theorem dX9_read_138 : decode cX9_read 138 = .ok (.aload_n 0, 1) := dz0 dzo42 9 dzbX9_read_129 rfl
theorem dX9_read_139 : decode cX9_read 139 = .ok (.getfield 66, 3) := dz2 dzo180 10 0 66 dzbX9_read_129 rfl
theorem dX9_read_142 : decode cX9_read 142 = .ok (.iconst 4, 1) := dz0 dzo7 13 dzbX9_read_129 rfl
theorem dX9_read_143 : decode cX9_read 143 = .ok (.if_icmp .ne 25, 3) := dz4 dzo160 14 0 25 25 rfl dzbX9_read_129 rfl
theorem dX9_read_146 : decode cX9_read 146 = .ok (.aload_n 2, 1) := dz0 dzo44 17 dzbX9_read_129 rfl
theorem dX9_read_147 : decode cX9_read 147 = .ok (.invokevirtual 69, 3) := dz2 dzo182 18 0 69 dzbX9_read_129 rfl
theorem dX9_read_150 : decode cX9_read 150 = .ok (.ifCond .ne 12, 3) := dz4 dzo154 21 0 12 12 rfl dzbX9_read_129 rfl
theorem dzbX9_read_153 : dzB cX9_read 153 [42, 16, 6, 182, 0, 62, 153, 0, 7, 4, 167, 0, 4, 3, 172, 42, 180, 0, 66, 6, 159, 0, 9, 42] := by decide +kernel
theorem dX9_read_153 : decode cX9_read 153 = .ok (.aload_n 0, 1) := dz0 dzo42 0 dzbX9_read_153 rfl
theorem dX9_read_154 : decode cX9_read 154 = .ok (.bipush 6, 2) := dz3 dzo16 1 6 6 rfl dzbX9_read_153 rfl
theorem dX9_read_156 : decode cX9_read 156 = .ok (.invokevirtual 62, 3) := dz2 dzo182 3 0 62 dzbX9_read_153 rfl
theorem dX9_read_159 : decode cX9_read 159 = .ok (.ifCond .eq 7, 3) := dz4 dzo153 6 0 7 7 rfl dzbX9_read_153 rfl
theorem dX9_read_162 : decode cX9_read 162 = .ok (.iconst 1, 1) := dz0 dzo4 9 dzbX9_read_153 rfl
theorem dX9_read_163 : decode cX9_read 163 = .ok (.goto 4, 3) := dz4 dzo167 10 0 4 4 rfl dzbX9_read_153 rfl
theorem dX9_read_166 : decode cX9_read 166 = .ok (.iconst 0, 1) := dz0 dzo3 13 dzbX9_read_153 rfl
theorem dX9_read_167 : decode cX9_read 167 = .ok (.ireturn, 1) := dz0 dzo172 14 dzbX9_read_153 rfl
theorem dX9_read_168 : decode cX9_read 168 = .ok (.aload_n 0, 1) := dz0 dzo42 15 dzbX9_read_153 rfl
theorem dX9_read_169 : decode cX9_read 169 = .ok (.getfield 66, 3) := dz2 dzo180 16 0 66 dzbX9_read_153 rfl
theorem dX9_read_172 : decode cX9_read 172 = .ok (.iconst 3, 1) := dz0 dzo6 19 dzbX9_read_153 rfl
theorem dX9_read_173 : decode cX9_read 173 = .ok (.if_icmp .eq 9, 3) := dz4 dzo159 20 0 9 9 rfl dzbX9_read_153 rfl
theorem dX9_read_176 : decode cX9_read 176 = .ok (.aload_n 0, 1) := dz0 dzo42 23 dzbX9_read_153 rfl
theorem dzbX9_read_177 : dzB cX9_read 177 [4, 182, 0, 62, 172, 42, 182, 0, 42, 132, 3, 1, 167, 255, 109, 42, 4, 182, 0, 62, 172] := by decide +kernel
theorem dX9_read_177 : decode cX9_read 177 = .ok (.iconst 1, 1) := dz0 dzo4 0 dzbX9_read_177 rfl
theorem dX9_read_178 : decode cX9_read 178 = .ok (.invokevirtual 62, 3) := dz2 dzo182 1 0 62 dzbX9_read_177 rfl
theorem dX9_read_181 : decode cX9_read 181 = .ok (.ireturn, 1) := dz0 dzo172 4 dzbX9_read_177 rfl
theorem dX9_read_182 : decode cX9_read 182 = .ok (.aload_n 0, 1) := dz0 dzo42 5 dzbX9_read_177 rfl
theorem dX9_read_183 : decode cX9_read 183 = .ok (.invokevirtual 42, 3) := dz2 dzo182 6 0 42 dzbX9_read_177 rfl
theorem dX9_read_186 : decode cX9_read 186 = .ok (.iinc 3 1, 3) := dz5 dzo132 9 3 1 1 rfl dzbX9_read_177 rfl
theorem dX9_read_189 : decode cX9_read 189 = .ok (.goto (-147), 3) := dz4 dzo167 12 255 109 (-147) rfl dzbX9_read_177 rfl
theorem dX9_read_192 : decode cX9_read 192 = .ok (.aload_n 0, 1) := dz0 dzo42 15 dzbX9_read_177 rfl
theorem dX9_read_193 : decode cX9_read 193 = .ok (.iconst 1, 1) := dz0 dzo4 16 dzbX9_read_177 rfl
theorem dX9_read_194 : decode cX9_read 194 = .ok (.invokevirtual 62, 3) := dz2 dzo182 17 0 62 dzbX9_read_177 rfl
theorem dX9_read_197 : decode cX9_read 197 = .ok (.ireturn, 1) := dz0 dzo172 20 dzbX9_read_177 rfl
theorem dzbX9_readPark_0 : dzB cX9_readPark 0 [43, 182, 0, 73, 153, 0, 9, 42, 6, 182, 0, 62, 172, 42, 182, 0, 42, 42, 18, 76, 182, 0, 78] := by decide +kernel
theorem dX9_readPark_0 : decode cX9_readPark 0 = .ok (.aload_n 1, 1) := dz0 dzo43 0 dzbX9_readPark_0 rfl
theorem dX9_readPark_1 : decode cX9_readPark 1 = .ok (.invokevirtual 73, 3) := dz2 dzo182 1 0 73 dzbX9_readPark_0 rfl
theorem dX9_readPark_4 : decode cX9_readPark 4 = .ok (.ifCond .eq 9, 3) := dz4 dzo153 4 0 9 9 rfl dzbX9_readPark_0 rfl
theorem dX9_readPark_7 : decode cX9_readPark 7 = .ok (.aload_n 0, 1) := dz0 dzo42 7 dzbX9_readPark_0 rfl
theorem dX9_readPark_8 : decode cX9_readPark 8 = .ok (.iconst 3, 1) := dz0 dzo6 8 dzbX9_readPark_0 rfl
theorem dX9_readPark_9 : decode cX9_readPark 9 = .ok (.invokevirtual 62, 3) := dz2 dzo182 9 0 62 dzbX9_readPark_0 rfl
theorem dX9_readPark_12 : decode cX9_readPark 12 = .ok (.ireturn, 1) := dz0 dzo172 12 dzbX9_readPark_0 rfl
theorem dX9_readPark_13 : decode cX9_readPark 13 = .ok (.aload_n 0, 1) := dz0 dzo42 13 dzbX9_readPark_0 rfl
theorem dX9_readPark_14 : decode cX9_readPark 14 = .ok (.invokevirtual 42, 3) := dz2 dzo182 14 0 42 dzbX9_readPark_0 rfl
theorem dX9_readPark_17 : decode cX9_readPark 17 = .ok (.aload_n 0, 1) := dz0 dzo42 17 dzbX9_readPark_0 rfl
theorem dX9_readPark_18 : decode cX9_readPark 18 = .ok (.ldc 76, 2) := dz1 dzo18 18 76 dzbX9_readPark_0 rfl
theorem dX9_readPark_20 : decode cX9_readPark 20 = .ok (.invokevirtual 78, 3) := dz2 dzo182 20 0 78 dzbX9_readPark_0 rfl
theorem dzbX9_readPark_23 : dzB cX9_readPark 23 [153, 0, 12, 42, 5, 8, 182, 0, 82, 154, 0, 5, 3, 172, 42, 180, 0, 86, 61, 42, 18, 89] := by decide +kernel
theorem dX9_readPark_23 : decode cX9_readPark 23 = .ok (.ifCond .eq 12, 3) := dz4 dzo153 0 0 12 12 rfl dzbX9_readPark_23 rfl
theorem dX9_readPark_26 : decode cX9_readPark 26 = .ok (.aload_n 0, 1) := dz0 dzo42 3 dzbX9_readPark_23 rfl
theorem dX9_readPark_27 : decode cX9_readPark 27 = .ok (.iconst 2, 1) := dz0 dzo5 4 dzbX9_readPark_23 rfl
theorem dX9_readPark_28 : decode cX9_readPark 28 = .ok (.iconst 5, 1) := dz0 dzo8 5 dzbX9_readPark_23 rfl
theorem dX9_readPark_29 : decode cX9_readPark 29 = .ok (.invokevirtual 82, 3) := dz2 dzo182 6 0 82 dzbX9_readPark_23 rfl
theorem dX9_readPark_32 : decode cX9_readPark 32 = .ok (.ifCond .ne 5, 3) := dz4 dzo154 9 0 5 5 rfl dzbX9_readPark_23 rfl
theorem dX9_readPark_35 : decode cX9_readPark 35 = .ok (.iconst 0, 1) := dz0 dzo3 12 dzbX9_readPark_23 rfl
theorem dX9_readPark_36 : decode cX9_readPark 36 = .ok (.ireturn, 1) := dz0 dzo172 13 dzbX9_readPark_23 rfl
theorem dX9_readPark_37 : decode cX9_readPark 37 = .ok (.aload_n 0, 1) := dz0 dzo42 14 dzbX9_readPark_23 rfl
theorem dX9_readPark_38 : decode cX9_readPark 38 = .ok (.getfield 86, 3) := dz2 dzo180 15 0 86 dzbX9_readPark_23 rfl
theorem dX9_readPark_41 : decode cX9_readPark 41 = .ok (.istore_n 2, 1) := dz0 dzo61 18 dzbX9_readPark_23 rfl
theorem dX9_readPark_42 : decode cX9_readPark 42 = .ok (.aload_n 0, 1) := dz0 dzo42 19 dzbX9_readPark_23 rfl
theorem dX9_readPark_43 : decode cX9_readPark 43 = .ok (.ldc 89, 2) := dz1 dzo18 20 89 dzbX9_readPark_23 rfl
theorem dzbX9_readPark_45 : dzB cX9_readPark 45 [182, 0, 78, 153, 0, 12, 42, 5, 7, 182, 0, 82, 154, 0, 5, 3, 172, 42, 180, 0, 86, 62, 42] := by decide +kernel
theorem dX9_readPark_45 : decode cX9_readPark 45 = .ok (.invokevirtual 78, 3) := dz2 dzo182 0 0 78 dzbX9_readPark_45 rfl
theorem dX9_readPark_48 : decode cX9_readPark 48 = .ok (.ifCond .eq 12, 3) := dz4 dzo153 3 0 12 12 rfl dzbX9_readPark_45 rfl
theorem dX9_readPark_51 : decode cX9_readPark 51 = .ok (.aload_n 0, 1) := dz0 dzo42 6 dzbX9_readPark_45 rfl
theorem dX9_readPark_52 : decode cX9_readPark 52 = .ok (.iconst 2, 1) := dz0 dzo5 7 dzbX9_readPark_45 rfl
theorem dX9_readPark_53 : decode cX9_readPark 53 = .ok (.iconst 4, 1) := dz0 dzo7 8 dzbX9_readPark_45 rfl
theorem dX9_readPark_54 : decode cX9_readPark 54 = .ok (.invokevirtual 82, 3) := dz2 dzo182 9 0 82 dzbX9_readPark_45 rfl
theorem dX9_readPark_57 : decode cX9_readPark 57 = .ok (.ifCond .ne 5, 3) := dz4 dzo154 12 0 5 5 rfl dzbX9_readPark_45 rfl
theorem dX9_readPark_60 : decode cX9_readPark 60 = .ok (.iconst 0, 1) := dz0 dzo3 15 dzbX9_readPark_45 rfl
theorem dX9_readPark_61 : decode cX9_readPark 61 = .ok (.ireturn, 1) := dz0 dzo172 16 dzbX9_readPark_45 rfl
theorem dX9_readPark_62 : decode cX9_readPark 62 = .ok (.aload_n 0, 1) := dz0 dzo42 17 dzbX9_readPark_45 rfl
theorem dX9_readPark_63 : decode cX9_readPark 63 = .ok (.getfield 86, 3) := dz2 dzo180 18 0 86 dzbX9_readPark_45 rfl
theorem dX9_readPark_66 : decode cX9_readPark 66 = .ok (.istore_n 3, 1) := dz0 dzo62 21 dzbX9_readPark_45 rfl
theorem dX9_readPark_67 : decode cX9_readPark 67 = .ok (.aload_n 0, 1) := dz0 dzo42 22 dzbX9_readPark_45 rfl
theorem dzbX9_readPark_68 : dzB cX9_readPark 68 [18, 91, 182, 0, 78, 153, 0, 13, 42, 3, 16, 100, 182, 0, 82, 154, 0, 5, 3, 172, 43, 42] := by decide +kernel
theorem dX9_readPark_68 : decode cX9_readPark 68 = .ok (.ldc 91, 2) := dz1 dzo18 0 91 dzbX9_readPark_68 rfl
theorem dX9_readPark_70 : decode cX9_readPark 70 = .ok (.invokevirtual 78, 3) := dz2 dzo182 2 0 78 dzbX9_readPark_68 rfl
theorem dX9_readPark_73 : decode cX9_readPark 73 = .ok (.ifCond .eq 13, 3) := dz4 dzo153 5 0 13 13 rfl dzbX9_readPark_68 rfl
theorem dX9_readPark_76 : decode cX9_readPark 76 = .ok (.aload_n 0, 1) := dz0 dzo42 8 dzbX9_readPark_68 rfl
theorem dX9_readPark_77 : decode cX9_readPark 77 = .ok (.iconst 0, 1) := dz0 dzo3 9 dzbX9_readPark_68 rfl
theorem dX9_readPark_78 : decode cX9_readPark 78 = .ok (.bipush 100, 2) := dz3 dzo16 10 100 100 rfl dzbX9_readPark_68 rfl
theorem dX9_readPark_80 : decode cX9_readPark 80 = .ok (.invokevirtual 82, 3) := dz2 dzo182 12 0 82 dzbX9_readPark_68 rfl
theorem dX9_readPark_83 : decode cX9_readPark 83 = .ok (.ifCond .ne 5, 3) := dz4 dzo154 15 0 5 5 rfl dzbX9_readPark_68 rfl
theorem dX9_readPark_86 : decode cX9_readPark 86 = .ok (.iconst 0, 1) := dz0 dzo3 18 dzbX9_readPark_68 rfl
theorem dX9_readPark_87 : decode cX9_readPark 87 = .ok (.ireturn, 1) := dz0 dzo172 19 dzbX9_readPark_68 rfl
theorem dX9_readPark_88 : decode cX9_readPark 88 = .ok (.aload_n 1, 1) := dz0 dzo43 20 dzbX9_readPark_68 rfl
theorem dX9_readPark_89 : decode cX9_readPark 89 = .ok (.aload_n 0, 1) := dz0 dzo42 21 dzbX9_readPark_68 rfl
theorem dzbX9_readPark_90 : dzB cX9_readPark 90 [180, 0, 86, 181, 0, 93, 42, 18, 95, 182, 0, 78, 153, 0, 13, 42, 3, 16, 100, 182, 0, 82] := by decide +kernel
theorem dX9_readPark_90 : decode cX9_readPark 90 = .ok (.getfield 86, 3) := dz2 dzo180 0 0 86 dzbX9_readPark_90 rfl
theorem dX9_readPark_93 : decode cX9_readPark 93 = .ok (.putfield 93, 3) := dz2 dzo181 3 0 93 dzbX9_readPark_90 rfl
theorem dX9_readPark_96 : decode cX9_readPark 96 = .ok (.aload_n 0, 1) := dz0 dzo42 6 dzbX9_readPark_90 rfl
theorem dX9_readPark_97 : decode cX9_readPark 97 = .ok (.ldc 95, 2) := dz1 dzo18 7 95 dzbX9_readPark_90 rfl
theorem dX9_readPark_99 : decode cX9_readPark 99 = .ok (.invokevirtual 78, 3) := dz2 dzo182 9 0 78 dzbX9_readPark_90 rfl
theorem dX9_readPark_102 : decode cX9_readPark 102 = .ok (.ifCond .eq 13, 3) := dz4 dzo153 12 0 13 13 rfl dzbX9_readPark_90 rfl
theorem dX9_readPark_105 : decode cX9_readPark 105 = .ok (.aload_n 0, 1) := dz0 dzo42 15 dzbX9_readPark_90 rfl
theorem dX9_readPark_106 : decode cX9_readPark 106 = .ok (.iconst 0, 1) := dz0 dzo3 16 dzbX9_readPark_90 rfl
theorem dX9_readPark_107 : decode cX9_readPark 107 = .ok (.bipush 100, 2) := dz3 dzo16 17 100 100 rfl dzbX9_readPark_90 rfl
theorem dX9_readPark_109 : decode cX9_readPark 109 = .ok (.invokevirtual 82, 3) := dz2 dzo182 19 0 82 dzbX9_readPark_90 rfl
theorem dzbX9_readPark_112 : dzB cX9_readPark 112 [154, 0, 5, 3, 172, 43, 42, 180, 0, 86, 181, 0, 97, 43, 180, 0, 99, 28, 29, 182, 0, 103, 4, 172] := by decide +kernel
theorem dX9_readPark_112 : decode cX9_readPark 112 = .ok (.ifCond .ne 5, 3) := dz4 dzo154 0 0 5 5 rfl dzbX9_readPark_112 rfl
theorem dX9_readPark_115 : decode cX9_readPark 115 = .ok (.iconst 0, 1) := dz0 dzo3 3 dzbX9_readPark_112 rfl
theorem dX9_readPark_116 : decode cX9_readPark 116 = .ok (.ireturn, 1) := dz0 dzo172 4 dzbX9_readPark_112 rfl
theorem dX9_readPark_117 : decode cX9_readPark 117 = .ok (.aload_n 1, 1) := dz0 dzo43 5 dzbX9_readPark_112 rfl
theorem dX9_readPark_118 : decode cX9_readPark 118 = .ok (.aload_n 0, 1) := dz0 dzo42 6 dzbX9_readPark_112 rfl
theorem dX9_readPark_119 : decode cX9_readPark 119 = .ok (.getfield 86, 3) := dz2 dzo180 7 0 86 dzbX9_readPark_112 rfl
theorem dX9_readPark_122 : decode cX9_readPark 122 = .ok (.putfield 97, 3) := dz2 dzo181 10 0 97 dzbX9_readPark_112 rfl
theorem dX9_readPark_125 : decode cX9_readPark 125 = .ok (.aload_n 1, 1) := dz0 dzo43 13 dzbX9_readPark_112 rfl
theorem dX9_readPark_126 : decode cX9_readPark 126 = .ok (.getfield 99, 3) := dz2 dzo180 14 0 99 dzbX9_readPark_112 rfl
theorem dX9_readPark_129 : decode cX9_readPark 129 = .ok (.iload_n 2, 1) := dz0 dzo28 17 dzbX9_readPark_112 rfl
theorem dX9_readPark_130 : decode cX9_readPark 130 = .ok (.iload_n 3, 1) := dz0 dzo29 18 dzbX9_readPark_112 rfl
theorem dX9_readPark_131 : decode cX9_readPark 131 = .ok (.invokevirtual 103, 3) := dz2 dzo182 19 0 103 dzbX9_readPark_112 rfl
theorem dX9_readPark_134 : decode cX9_readPark 134 = .ok (.iconst 1, 1) := dz0 dzo4 22 dzbX9_readPark_112 rfl
theorem dX9_readPark_135 : decode cX9_readPark 135 = .ok (.ireturn, 1) := dz0 dzo172 23 dzbX9_readPark_112 rfl
theorem dzbX9_readPlace_0 : dzB cX9_readPlace 0 [42, 3, 43, 180, 0, 109, 4, 100, 182, 0, 82, 154, 0, 5, 3, 172, 42, 180, 0, 86, 62, 42] := by decide +kernel
theorem dX9_readPlace_0 : decode cX9_readPlace 0 = .ok (.aload_n 0, 1) := dz0 dzo42 0 dzbX9_readPlace_0 rfl
theorem dX9_readPlace_1 : decode cX9_readPlace 1 = .ok (.iconst 0, 1) := dz0 dzo3 1 dzbX9_readPlace_0 rfl
theorem dX9_readPlace_2 : decode cX9_readPlace 2 = .ok (.aload_n 1, 1) := dz0 dzo43 2 dzbX9_readPlace_0 rfl
theorem dX9_readPlace_3 : decode cX9_readPlace 3 = .ok (.getfield 109, 3) := dz2 dzo180 3 0 109 dzbX9_readPlace_0 rfl
theorem dX9_readPlace_6 : decode cX9_readPlace 6 = .ok (.iconst 1, 1) := dz0 dzo4 6 dzbX9_readPlace_0 rfl
theorem dX9_readPlace_7 : decode cX9_readPlace 7 = .ok (.isub, 1) := dz0 dzo100 7 dzbX9_readPlace_0 rfl
theorem dX9_readPlace_8 : decode cX9_readPlace 8 = .ok (.invokevirtual 82, 3) := dz2 dzo182 8 0 82 dzbX9_readPlace_0 rfl
theorem dX9_readPlace_11 : decode cX9_readPlace 11 = .ok (.ifCond .ne 5, 3) := dz4 dzo154 11 0 5 5 rfl dzbX9_readPlace_0 rfl
theorem dX9_readPlace_14 : decode cX9_readPlace 14 = .ok (.iconst 0, 1) := dz0 dzo3 14 dzbX9_readPlace_0 rfl
theorem dX9_readPlace_15 : decode cX9_readPlace 15 = .ok (.ireturn, 1) := dz0 dzo172 15 dzbX9_readPlace_0 rfl
theorem dX9_readPlace_16 : decode cX9_readPlace 16 = .ok (.aload_n 0, 1) := dz0 dzo42 16 dzbX9_readPlace_0 rfl
theorem dX9_readPlace_17 : decode cX9_readPlace 17 = .ok (.getfield 86, 3) := dz2 dzo180 17 0 86 dzbX9_readPlace_0 rfl
theorem dX9_readPlace_20 : decode cX9_readPlace 20 = .ok (.istore_n 3, 1) := dz0 dzo62 20 dzbX9_readPlace_0 rfl
theorem dX9_readPlace_21 : decode cX9_readPlace 21 = .ok (.aload_n 0, 1) := dz0 dzo42 21 dzbX9_readPlace_0 rfl
theorem dzbX9_readPlace_22 : dzB cX9_readPlace 22 [180, 0, 119, 54, 4, 42, 3, 43, 180, 0, 198, 4, 100, 182, 0, 82, 154, 0, 5, 3, 172, 42, 42] := by decide +kernel
theorem dX9_readPlace_22 : decode cX9_readPlace 22 = .ok (.getfield 119, 3) := dz2 dzo180 0 0 119 dzbX9_readPlace_22 rfl
theorem dX9_readPlace_25 : decode cX9_readPlace 25 = .ok (.istore 4, 2) := dz1 dzo54 3 4 dzbX9_readPlace_22 rfl
theorem dX9_readPlace_27 : decode cX9_readPlace 27 = .ok (.aload_n 0, 1) := dz0 dzo42 5 dzbX9_readPlace_22 rfl
theorem dX9_readPlace_28 : decode cX9_readPlace 28 = .ok (.iconst 0, 1) := dz0 dzo3 6 dzbX9_readPlace_22 rfl
theorem dX9_readPlace_29 : decode cX9_readPlace 29 = .ok (.aload_n 1, 1) := dz0 dzo43 7 dzbX9_readPlace_22 rfl
theorem dX9_readPlace_30 : decode cX9_readPlace 30 = .ok (.getfield 198, 3) := dz2 dzo180 8 0 198 dzbX9_readPlace_22 rfl
theorem dX9_readPlace_33 : decode cX9_readPlace 33 = .ok (.iconst 1, 1) := dz0 dzo4 11 dzbX9_readPlace_22 rfl
theorem dX9_readPlace_34 : decode cX9_readPlace 34 = .ok (.isub, 1) := dz0 dzo100 12 dzbX9_readPlace_22 rfl
theorem dX9_readPlace_35 : decode cX9_readPlace 35 = .ok (.invokevirtual 82, 3) := dz2 dzo182 13 0 82 dzbX9_readPlace_22 rfl
theorem dX9_readPlace_38 : decode cX9_readPlace 38 = .ok (.ifCond .ne 5, 3) := dz4 dzo154 16 0 5 5 rfl dzbX9_readPlace_22 rfl
theorem dX9_readPlace_41 : decode cX9_readPlace 41 = .ok (.iconst 0, 1) := dz0 dzo3 19 dzbX9_readPlace_22 rfl
theorem dX9_readPlace_42 : decode cX9_readPlace 42 = .ok (.ireturn, 1) := dz0 dzo172 20 dzbX9_readPlace_22 rfl
theorem dX9_readPlace_43 : decode cX9_readPlace 43 = .ok (.aload_n 0, 1) := dz0 dzo42 21 dzbX9_readPlace_22 rfl
theorem dX9_readPlace_44 : decode cX9_readPlace 44 = .ok (.aload_n 0, 1) := dz0 dzo42 22 dzbX9_readPlace_22 rfl
theorem dzbX9_readPlace_45 : dzB cX9_readPlace 45 [180, 0, 86, 43, 180, 0, 109, 104, 29, 96, 181, 0, 86, 28, 154, 0, 28, 43, 42, 180, 0, 86] := by decide +kernel
theorem dX9_readPlace_45 : decode cX9_readPlace 45 = .ok (.getfield 86, 3) := dz2 dzo180 0 0 86 dzbX9_readPlace_45 rfl
theorem dX9_readPlace_48 : decode cX9_readPlace 48 = .ok (.aload_n 1, 1) := dz0 dzo43 3 dzbX9_readPlace_45 rfl
theorem dX9_readPlace_49 : decode cX9_readPlace 49 = .ok (.getfield 109, 3) := dz2 dzo180 4 0 109 dzbX9_readPlace_45 rfl
theorem dX9_readPlace_52 : decode cX9_readPlace 52 = .ok (.imul, 1) := dz0 dzo104 7 dzbX9_readPlace_45 rfl
theorem dX9_readPlace_53 : decode cX9_readPlace 53 = .ok (.iload_n 3, 1) := dz0 dzo29 8 dzbX9_readPlace_45 rfl
theorem dX9_readPlace_54 : decode cX9_readPlace 54 = .ok (.iadd, 1) := dz0 dzo96 9 dzbX9_readPlace_45 rfl
theorem dX9_readPlace_55 : decode cX9_readPlace 55 = .ok (.putfield 86, 3) := dz2 dzo181 10 0 86 dzbX9_readPlace_45 rfl
theorem dX9_readPlace_58 : decode cX9_readPlace 58 = .ok (.iload_n 2, 1) := dz0 dzo28 13 dzbX9_readPlace_45 rfl
theorem dX9_readPlace_59 : decode cX9_readPlace 59 = .ok (.ifCond .ne 28, 3) := dz4 dzo154 14 0 28 28 rfl dzbX9_readPlace_45 rfl
theorem dX9_readPlace_62 : decode cX9_readPlace 62 = .ok (.aload_n 1, 1) := dz0 dzo43 17 dzbX9_readPlace_45 rfl
theorem dX9_readPlace_63 : decode cX9_readPlace 63 = .ok (.aload_n 0, 1) := dz0 dzo42 18 dzbX9_readPlace_45 rfl
theorem dX9_readPlace_64 : decode cX9_readPlace 64 = .ok (.getfield 86, 3) := dz2 dzo180 19 0 86 dzbX9_readPlace_45 rfl
theorem dzbX9_readPlace_67 : dzB cX9_readPlace 67 [182, 0, 200, 6, 160, 0, 16, 42, 21, 4, 181, 0, 119, 42, 16, 7, 182, 0, 62, 172, 4, 172] := by decide +kernel
theorem dX9_readPlace_67 : decode cX9_readPlace 67 = .ok (.invokevirtual 200, 3) := dz2 dzo182 0 0 200 dzbX9_readPlace_67 rfl
theorem dX9_readPlace_70 : decode cX9_readPlace 70 = .ok (.iconst 3, 1) := dz0 dzo6 3 dzbX9_readPlace_67 rfl
theorem dX9_readPlace_71 : decode cX9_readPlace 71 = .ok (.if_icmp .ne 16, 3) := dz4 dzo160 4 0 16 16 rfl dzbX9_readPlace_67 rfl
theorem dX9_readPlace_74 : decode cX9_readPlace 74 = .ok (.aload_n 0, 1) := dz0 dzo42 7 dzbX9_readPlace_67 rfl
theorem dX9_readPlace_75 : decode cX9_readPlace 75 = .ok (.iload 4, 2) := dz1 dzo21 8 4 dzbX9_readPlace_67 rfl
theorem dX9_readPlace_77 : decode cX9_readPlace 77 = .ok (.putfield 119, 3) := dz2 dzo181 10 0 119 dzbX9_readPlace_67 rfl
theorem dX9_readPlace_80 : decode cX9_readPlace 80 = .ok (.aload_n 0, 1) := dz0 dzo42 13 dzbX9_readPlace_67 rfl
theorem dX9_readPlace_81 : decode cX9_readPlace 81 = .ok (.bipush 7, 2) := dz3 dzo16 14 7 7 rfl dzbX9_readPlace_67 rfl
theorem dX9_readPlace_83 : decode cX9_readPlace 83 = .ok (.invokevirtual 62, 3) := dz2 dzo182 16 0 62 dzbX9_readPlace_67 rfl
theorem dX9_readPlace_86 : decode cX9_readPlace 86 = .ok (.ireturn, 1) := dz0 dzo172 19 dzbX9_readPlace_67 rfl
theorem dX9_readPlace_87 : decode cX9_readPlace 87 = .ok (.iconst 1, 1) := dz0 dzo4 20 dzbX9_readPlace_67 rfl
theorem dX9_readPlace_88 : decode cX9_readPlace 88 = .ok (.ireturn, 1) := dz0 dzo172 21 dzbX9_readPlace_67 rfl
theorem dzbX9_readRow_0 : dzB cX9_readRow 0 [43, 182, 0, 73, 154, 0, 10, 42, 16, 6, 182, 0, 62, 172, 43, 182, 0, 69, 153, 0, 9, 42, 8] := by decide +kernel
theorem dX9_readRow_0 : decode cX9_readRow 0 = .ok (.aload_n 1, 1) := dz0 dzo43 0 dzbX9_readRow_0 rfl
theorem dX9_readRow_1 : decode cX9_readRow 1 = .ok (.invokevirtual 73, 3) := dz2 dzo182 1 0 73 dzbX9_readRow_0 rfl
theorem dX9_readRow_4 : decode cX9_readRow 4 = .ok (.ifCond .ne 10, 3) := dz4 dzo154 4 0 10 10 rfl dzbX9_readRow_0 rfl
theorem dX9_readRow_7 : decode cX9_readRow 7 = .ok (.aload_n 0, 1) := dz0 dzo42 7 dzbX9_readRow_0 rfl
theorem dX9_readRow_8 : decode cX9_readRow 8 = .ok (.bipush 6, 2) := dz3 dzo16 8 6 6 rfl dzbX9_readRow_0 rfl
theorem dX9_readRow_10 : decode cX9_readRow 10 = .ok (.invokevirtual 62, 3) := dz2 dzo182 10 0 62 dzbX9_readRow_0 rfl
theorem dX9_readRow_13 : decode cX9_readRow 13 = .ok (.ireturn, 1) := dz0 dzo172 13 dzbX9_readRow_0 rfl
theorem dX9_readRow_14 : decode cX9_readRow 14 = .ok (.aload_n 1, 1) := dz0 dzo43 14 dzbX9_readRow_0 rfl
theorem dX9_readRow_15 : decode cX9_readRow 15 = .ok (.invokevirtual 69, 3) := dz2 dzo182 15 0 69 dzbX9_readRow_0 rfl
theorem dX9_readRow_18 : decode cX9_readRow 18 = .ok (.ifCond .eq 9, 3) := dz4 dzo153 18 0 9 9 rfl dzbX9_readRow_0 rfl
theorem dX9_readRow_21 : decode cX9_readRow 21 = .ok (.aload_n 0, 1) := dz0 dzo42 21 dzbX9_readRow_0 rfl
theorem dX9_readRow_22 : decode cX9_readRow 22 = .ok (.iconst 5, 1) := dz0 dzo8 22 dzbX9_readRow_0 rfl
theorem dzbX9_readRow_23 : dzB cX9_readRow 23 [182, 0, 62, 172, 42, 182, 0, 42, 42, 43, 180, 0, 99, 180, 0, 109, 182, 0, 111, 154, 0, 9, 42, 4] := by decide +kernel
theorem dX9_readRow_23 : decode cX9_readRow 23 = .ok (.invokevirtual 62, 3) := dz2 dzo182 0 0 62 dzbX9_readRow_23 rfl
theorem dX9_readRow_26 : decode cX9_readRow 26 = .ok (.ireturn, 1) := dz0 dzo172 3 dzbX9_readRow_23 rfl
theorem dX9_readRow_27 : decode cX9_readRow 27 = .ok (.aload_n 0, 1) := dz0 dzo42 4 dzbX9_readRow_23 rfl
theorem dX9_readRow_28 : decode cX9_readRow 28 = .ok (.invokevirtual 42, 3) := dz2 dzo182 5 0 42 dzbX9_readRow_23 rfl
theorem dX9_readRow_31 : decode cX9_readRow 31 = .ok (.aload_n 0, 1) := dz0 dzo42 8 dzbX9_readRow_23 rfl
theorem dX9_readRow_32 : decode cX9_readRow 32 = .ok (.aload_n 1, 1) := dz0 dzo43 9 dzbX9_readRow_23 rfl
theorem dX9_readRow_33 : decode cX9_readRow 33 = .ok (.getfield 99, 3) := dz2 dzo180 10 0 99 dzbX9_readRow_23 rfl
theorem dX9_readRow_36 : decode cX9_readRow 36 = .ok (.getfield 109, 3) := dz2 dzo180 13 0 109 dzbX9_readRow_23 rfl
theorem dX9_readRow_39 : decode cX9_readRow 39 = .ok (.invokevirtual 111, 3) := dz2 dzo182 16 0 111 dzbX9_readRow_23 rfl
theorem dX9_readRow_42 : decode cX9_readRow 42 = .ok (.ifCond .ne 9, 3) := dz4 dzo154 19 0 9 9 rfl dzbX9_readRow_23 rfl
theorem dX9_readRow_45 : decode cX9_readRow 45 = .ok (.aload_n 0, 1) := dz0 dzo42 22 dzbX9_readRow_23 rfl
theorem dX9_readRow_46 : decode cX9_readRow 46 = .ok (.iconst 1, 1) := dz0 dzo4 23 dzbX9_readRow_23 rfl
theorem dzbX9_readRow_47 : dzB cX9_readRow 47 [182, 0, 62, 172, 43, 180, 0, 114, 43, 180, 0, 99, 180, 0, 109, 104, 61, 3, 62, 29, 43, 180, 0, 99] := by decide +kernel
theorem dX9_readRow_47 : decode cX9_readRow 47 = .ok (.invokevirtual 62, 3) := dz2 dzo182 0 0 62 dzbX9_readRow_47 rfl
theorem dX9_readRow_50 : decode cX9_readRow 50 = .ok (.ireturn, 1) := dz0 dzo172 3 dzbX9_readRow_47 rfl
theorem dX9_readRow_51 : decode cX9_readRow 51 = .ok (.aload_n 1, 1) := dz0 dzo43 4 dzbX9_readRow_47 rfl
theorem dX9_readRow_52 : decode cX9_readRow 52 = .ok (.getfield 114, 3) := dz2 dzo180 5 0 114 dzbX9_readRow_47 rfl
theorem dX9_readRow_55 : decode cX9_readRow 55 = .ok (.aload_n 1, 1) := dz0 dzo43 8 dzbX9_readRow_47 rfl
theorem dX9_readRow_56 : decode cX9_readRow 56 = .ok (.getfield 99, 3) := dz2 dzo180 9 0 99 dzbX9_readRow_47 rfl
theorem dX9_readRow_59 : decode cX9_readRow 59 = .ok (.getfield 109, 3) := dz2 dzo180 12 0 109 dzbX9_readRow_47 rfl
theorem dX9_readRow_62 : decode cX9_readRow 62 = .ok (.imul, 1) := dz0 dzo104 15 dzbX9_readRow_47 rfl
theorem dX9_readRow_63 : decode cX9_readRow 63 = .ok (.istore_n 2, 1) := dz0 dzo61 16 dzbX9_readRow_47 rfl
theorem dX9_readRow_64 : decode cX9_readRow 64 = .ok (.iconst 0, 1) := dz0 dzo3 17 dzbX9_readRow_47 rfl
theorem dX9_readRow_65 : decode cX9_readRow 65 = .ok (.istore_n 3, 1) := dz0 dzo62 18 dzbX9_readRow_47 rfl
theorem dX9_readRow_66 : decode cX9_readRow 66 = .ok (.iload_n 3, 1) := dz0 dzo29 19 dzbX9_readRow_47 rfl
theorem dX9_readRow_67 : decode cX9_readRow 67 = .ok (.aload_n 1, 1) := dz0 dzo43 20 dzbX9_readRow_47 rfl
theorem dX9_readRow_68 : decode cX9_readRow 68 = .ok (.getfield 99, 3) := dz2 dzo180 21 0 99 dzbX9_readRow_47 rfl
theorem dzbX9_readRow_71 : dzB cX9_readRow 71 [180, 0, 109, 162, 0, 85, 18, 117, 42, 180, 0, 11, 42, 180, 0, 119, 29, 96, 51, 146, 182, 0, 122] := by decide +kernel
theorem dX9_readRow_71 : decode cX9_readRow 71 = .ok (.getfield 109, 3) := dz2 dzo180 0 0 109 dzbX9_readRow_71 rfl
theorem dX9_readRow_74 : decode cX9_readRow 74 = .ok (.if_icmp .ge 85, 3) := dz4 dzo162 3 0 85 85 rfl dzbX9_readRow_71 rfl
theorem dX9_readRow_77 : decode cX9_readRow 77 = .ok (.ldc 117, 2) := dz1 dzo18 6 117 dzbX9_readRow_71 rfl
theorem dX9_readRow_79 : decode cX9_readRow 79 = .ok (.aload_n 0, 1) := dz0 dzo42 8 dzbX9_readRow_71 rfl
theorem dX9_readRow_80 : decode cX9_readRow 80 = .ok (.getfield 11, 3) := dz2 dzo180 9 0 11 dzbX9_readRow_71 rfl
theorem dX9_readRow_83 : decode cX9_readRow 83 = .ok (.aload_n 0, 1) := dz0 dzo42 12 dzbX9_readRow_71 rfl
theorem dX9_readRow_84 : decode cX9_readRow 84 = .ok (.getfield 119, 3) := dz2 dzo180 13 0 119 dzbX9_readRow_71 rfl
theorem dX9_readRow_87 : decode cX9_readRow 87 = .ok (.iload_n 3, 1) := dz0 dzo29 16 dzbX9_readRow_71 rfl
theorem dX9_readRow_88 : decode cX9_readRow 88 = .ok (.iadd, 1) := dz0 dzo96 17 dzbX9_readRow_71 rfl
theorem dX9_readRow_89 : decode cX9_readRow 89 = .ok (.baload, 1) := dz0 dzo51 18 dzbX9_readRow_71 rfl
theorem dX9_readRow_90 : decode cX9_readRow 90 = .ok (.i2c, 1) := dz0 dzo146 19 dzbX9_readRow_71 rfl
theorem dX9_readRow_91 : decode cX9_readRow 91 = .ok (.invokevirtual 122, 3) := dz2 dzo182 20 0 122 dzbX9_readRow_71 rfl
theorem dzbX9_readRow_94 : dzB cX9_readRow 94 [54, 4, 21, 4, 6, 164, 0, 42, 43, 180, 0, 128, 8, 160, 0, 9, 42, 8, 182, 0, 62, 172, 43] := by decide +kernel
theorem dX9_readRow_94 : decode cX9_readRow 94 = .ok (.istore 4, 2) := dz1 dzo54 0 4 dzbX9_readRow_94 rfl
theorem dX9_readRow_96 : decode cX9_readRow 96 = .ok (.iload 4, 2) := dz1 dzo21 2 4 dzbX9_readRow_94 rfl
theorem dX9_readRow_98 : decode cX9_readRow 98 = .ok (.iconst 3, 1) := dz0 dzo6 4 dzbX9_readRow_94 rfl
theorem dX9_readRow_99 : decode cX9_readRow 99 = .ok (.if_icmp .le 42, 3) := dz4 dzo164 5 0 42 42 rfl dzbX9_readRow_94 rfl
theorem dX9_readRow_102 : decode cX9_readRow 102 = .ok (.aload_n 1, 1) := dz0 dzo43 8 dzbX9_readRow_94 rfl
theorem dX9_readRow_103 : decode cX9_readRow 103 = .ok (.getfield 128, 3) := dz2 dzo180 9 0 128 dzbX9_readRow_94 rfl
theorem dX9_readRow_106 : decode cX9_readRow 106 = .ok (.iconst 5, 1) := dz0 dzo8 12 dzbX9_readRow_94 rfl
theorem dX9_readRow_107 : decode cX9_readRow 107 = .ok (.if_icmp .ne 9, 3) := dz4 dzo160 13 0 9 9 rfl dzbX9_readRow_94 rfl
theorem dX9_readRow_110 : decode cX9_readRow 110 = .ok (.aload_n 0, 1) := dz0 dzo42 16 dzbX9_readRow_94 rfl
theorem dX9_readRow_111 : decode cX9_readRow 111 = .ok (.iconst 5, 1) := dz0 dzo8 17 dzbX9_readRow_94 rfl
theorem dX9_readRow_112 : decode cX9_readRow 112 = .ok (.invokevirtual 62, 3) := dz2 dzo182 18 0 62 dzbX9_readRow_94 rfl
theorem dX9_readRow_115 : decode cX9_readRow 115 = .ok (.ireturn, 1) := dz0 dzo172 21 dzbX9_readRow_94 rfl
theorem dX9_readRow_116 : decode cX9_readRow 116 = .ok (.aload_n 1, 1) := dz0 dzo43 22 dzbX9_readRow_94 rfl
theorem dzbX9_readRow_117 : dzB cX9_readRow 117 [180, 0, 131, 43, 180, 0, 128, 28, 29, 96, 79, 43, 89, 180, 0, 128, 4, 96, 181, 0, 128, 3, 54, 4] := by decide +kernel
theorem dX9_readRow_117 : decode cX9_readRow 117 = .ok (.getfield 131, 3) := dz2 dzo180 0 0 131 dzbX9_readRow_117 rfl
theorem dX9_readRow_120 : decode cX9_readRow 120 = .ok (.aload_n 1, 1) := dz0 dzo43 3 dzbX9_readRow_117 rfl
theorem dX9_readRow_121 : decode cX9_readRow 121 = .ok (.getfield 128, 3) := dz2 dzo180 4 0 128 dzbX9_readRow_117 rfl
theorem dX9_readRow_124 : decode cX9_readRow 124 = .ok (.iload_n 2, 1) := dz0 dzo28 7 dzbX9_readRow_117 rfl
theorem dX9_readRow_125 : decode cX9_readRow 125 = .ok (.iload_n 3, 1) := dz0 dzo29 8 dzbX9_readRow_117 rfl
theorem dX9_readRow_126 : decode cX9_readRow 126 = .ok (.iadd, 1) := dz0 dzo96 9 dzbX9_readRow_117 rfl
theorem dX9_readRow_127 : decode cX9_readRow 127 = .ok (.iastore, 1) := dz0 dzo79 10 dzbX9_readRow_117 rfl
theorem dX9_readRow_128 : decode cX9_readRow 128 = .ok (.aload_n 1, 1) := dz0 dzo43 11 dzbX9_readRow_117 rfl
theorem dX9_readRow_129 : decode cX9_readRow 129 = .ok (.dup, 1) := dz0 dzo89 12 dzbX9_readRow_117 rfl
theorem dX9_readRow_130 : decode cX9_readRow 130 = .ok (.getfield 128, 3) := dz2 dzo180 13 0 128 dzbX9_readRow_117 rfl
theorem dX9_readRow_133 : decode cX9_readRow 133 = .ok (.iconst 1, 1) := dz0 dzo4 16 dzbX9_readRow_117 rfl
theorem dX9_readRow_134 : decode cX9_readRow 134 = .ok (.iadd, 1) := dz0 dzo96 17 dzbX9_readRow_117 rfl
theorem dX9_readRow_135 : decode cX9_readRow 135 = .ok (.putfield 128, 3) := dz2 dzo181 18 0 128 dzbX9_readRow_117 rfl
theorem dX9_readRow_138 : decode cX9_readRow 138 = .ok (.iconst 0, 1) := dz0 dzo3 21 dzbX9_readRow_117 rfl
theorem dX9_readRow_139 : decode cX9_readRow 139 = .ok (.istore 4, 2) := dz1 dzo54 22 4 dzbX9_readRow_117 rfl
theorem dzbX9_readRow_141 : dzB cX9_readRow 141 [43, 180, 0, 99, 28, 29, 96, 21, 4, 182, 0, 135, 132, 3, 1, 167, 255, 166, 43, 89, 180, 0, 114, 4] := by decide +kernel
theorem dX9_readRow_141 : decode cX9_readRow 141 = .ok (.aload_n 1, 1) := dz0 dzo43 0 dzbX9_readRow_141 rfl
theorem dX9_readRow_142 : decode cX9_readRow 142 = .ok (.getfield 99, 3) := dz2 dzo180 1 0 99 dzbX9_readRow_141 rfl
theorem dX9_readRow_145 : decode cX9_readRow 145 = .ok (.iload_n 2, 1) := dz0 dzo28 4 dzbX9_readRow_141 rfl
theorem dX9_readRow_146 : decode cX9_readRow 146 = .ok (.iload_n 3, 1) := dz0 dzo29 5 dzbX9_readRow_141 rfl
theorem dX9_readRow_147 : decode cX9_readRow 147 = .ok (.iadd, 1) := dz0 dzo96 6 dzbX9_readRow_141 rfl
theorem dX9_readRow_148 : decode cX9_readRow 148 = .ok (.iload 4, 2) := dz1 dzo21 7 4 dzbX9_readRow_141 rfl
theorem dX9_readRow_150 : decode cX9_readRow 150 = .ok (.invokevirtual 135, 3) := dz2 dzo182 9 0 135 dzbX9_readRow_141 rfl
theorem dX9_readRow_153 : decode cX9_readRow 153 = .ok (.iinc 3 1, 3) := dz5 dzo132 12 3 1 1 rfl dzbX9_readRow_141 rfl
theorem dX9_readRow_156 : decode cX9_readRow 156 = .ok (.goto (-90), 3) := dz4 dzo167 15 255 166 (-90) rfl dzbX9_readRow_141 rfl
theorem dX9_readRow_159 : decode cX9_readRow 159 = .ok (.aload_n 1, 1) := dz0 dzo43 18 dzbX9_readRow_141 rfl
theorem dX9_readRow_160 : decode cX9_readRow 160 = .ok (.dup, 1) := dz0 dzo89 19 dzbX9_readRow_141 rfl
theorem dX9_readRow_161 : decode cX9_readRow 161 = .ok (.getfield 114, 3) := dz2 dzo180 20 0 114 dzbX9_readRow_141 rfl
theorem dX9_readRow_164 : decode cX9_readRow 164 = .ok (.iconst 1, 1) := dz0 dzo4 23 dzbX9_readRow_141 rfl
theorem dzbX9_readRow_165 : dzB cX9_readRow 165 [96, 181, 0, 114, 42, 182, 0, 42, 4, 172] := by decide +kernel
theorem dX9_readRow_165 : decode cX9_readRow 165 = .ok (.iadd, 1) := dz0 dzo96 0 dzbX9_readRow_165 rfl
theorem dX9_readRow_166 : decode cX9_readRow 166 = .ok (.putfield 114, 3) := dz2 dzo181 1 0 114 dzbX9_readRow_165 rfl
theorem dX9_readRow_169 : decode cX9_readRow 169 = .ok (.aload_n 0, 1) := dz0 dzo42 4 dzbX9_readRow_165 rfl
theorem dX9_readRow_170 : decode cX9_readRow 170 = .ok (.invokevirtual 42, 3) := dz2 dzo182 5 0 42 dzbX9_readRow_165 rfl
theorem dX9_readRow_173 : decode cX9_readRow 173 = .ok (.iconst 1, 1) := dz0 dzo4 8 dzbX9_readRow_165 rfl
theorem dX9_readRow_174 : decode cX9_readRow 174 = .ok (.ireturn, 1) := dz0 dzo172 9 dzbX9_readRow_165 rfl
theorem dzbX9_readWalk_0 : dzB cX9_readWalk 0 [43, 182, 0, 69, 154, 0, 10, 42, 16, 6, 182, 0, 62, 172, 43, 180, 0, 173, 61, 28, 16, 6] := by decide +kernel
theorem dX9_readWalk_0 : decode cX9_readWalk 0 = .ok (.aload_n 1, 1) := dz0 dzo43 0 dzbX9_readWalk_0 rfl
theorem dX9_readWalk_1 : decode cX9_readWalk 1 = .ok (.invokevirtual 69, 3) := dz2 dzo182 1 0 69 dzbX9_readWalk_0 rfl
theorem dX9_readWalk_4 : decode cX9_readWalk 4 = .ok (.ifCond .ne 10, 3) := dz4 dzo154 4 0 10 10 rfl dzbX9_readWalk_0 rfl
theorem dX9_readWalk_7 : decode cX9_readWalk 7 = .ok (.aload_n 0, 1) := dz0 dzo42 7 dzbX9_readWalk_0 rfl
theorem dX9_readWalk_8 : decode cX9_readWalk 8 = .ok (.bipush 6, 2) := dz3 dzo16 8 6 6 rfl dzbX9_readWalk_0 rfl
theorem dX9_readWalk_10 : decode cX9_readWalk 10 = .ok (.invokevirtual 62, 3) := dz2 dzo182 10 0 62 dzbX9_readWalk_0 rfl
theorem dX9_readWalk_13 : decode cX9_readWalk 13 = .ok (.ireturn, 1) := dz0 dzo172 13 dzbX9_readWalk_0 rfl
theorem dX9_readWalk_14 : decode cX9_readWalk 14 = .ok (.aload_n 1, 1) := dz0 dzo43 14 dzbX9_readWalk_0 rfl
theorem dX9_readWalk_15 : decode cX9_readWalk 15 = .ok (.getfield 173, 3) := dz2 dzo180 15 0 173 dzbX9_readWalk_0 rfl
theorem dX9_readWalk_18 : decode cX9_readWalk 18 = .ok (.istore_n 2, 1) := dz0 dzo61 18 dzbX9_readWalk_0 rfl
theorem dX9_readWalk_19 : decode cX9_readWalk 19 = .ok (.iload_n 2, 1) := dz0 dzo28 19 dzbX9_readWalk_0 rfl
theorem dX9_readWalk_20 : decode cX9_readWalk 20 = .ok (.bipush 6, 2) := dz3 dzo16 20 6 6 rfl dzbX9_readWalk_0 rfl
theorem dzbX9_readWalk_22 : dzB cX9_readWalk 22 [160, 0, 9, 42, 8, 182, 0, 62, 172, 42, 182, 0, 42, 42, 43, 180, 0, 99, 4, 182, 0, 154] := by decide +kernel
theorem dX9_readWalk_22 : decode cX9_readWalk 22 = .ok (.if_icmp .ne 9, 3) := dz4 dzo160 0 0 9 9 rfl dzbX9_readWalk_22 rfl
theorem dX9_readWalk_25 : decode cX9_readWalk 25 = .ok (.aload_n 0, 1) := dz0 dzo42 3 dzbX9_readWalk_22 rfl
theorem dX9_readWalk_26 : decode cX9_readWalk 26 = .ok (.iconst 5, 1) := dz0 dzo8 4 dzbX9_readWalk_22 rfl
theorem dX9_readWalk_27 : decode cX9_readWalk 27 = .ok (.invokevirtual 62, 3) := dz2 dzo182 5 0 62 dzbX9_readWalk_22 rfl
theorem dX9_readWalk_30 : decode cX9_readWalk 30 = .ok (.ireturn, 1) := dz0 dzo172 8 dzbX9_readWalk_22 rfl
theorem dX9_readWalk_31 : decode cX9_readWalk 31 = .ok (.aload_n 0, 1) := dz0 dzo42 9 dzbX9_readWalk_22 rfl
theorem dX9_readWalk_32 : decode cX9_readWalk 32 = .ok (.invokevirtual 42, 3) := dz2 dzo182 10 0 42 dzbX9_readWalk_22 rfl
theorem dX9_readWalk_35 : decode cX9_readWalk 35 = .ok (.aload_n 0, 1) := dz0 dzo42 13 dzbX9_readWalk_22 rfl
theorem dX9_readWalk_36 : decode cX9_readWalk 36 = .ok (.aload_n 1, 1) := dz0 dzo43 14 dzbX9_readWalk_22 rfl
theorem dX9_readWalk_37 : decode cX9_readWalk 37 = .ok (.getfield 99, 3) := dz2 dzo180 15 0 99 dzbX9_readWalk_22 rfl
theorem dX9_readWalk_40 : decode cX9_readWalk 40 = .ok (.iconst 1, 1) := dz0 dzo4 18 dzbX9_readWalk_22 rfl
theorem dX9_readWalk_41 : decode cX9_readWalk 41 = .ok (.invokevirtual 154, 3) := dz2 dzo182 19 0 154 dzbX9_readWalk_22 rfl
theorem dzbX9_readWalk_44 : dzB cX9_readWalk 44 [154, 0, 5, 3, 172, 42, 180, 0, 86, 62, 43, 180, 0, 99, 180, 0, 176, 4, 100, 29, 100, 43] := by decide +kernel
theorem dX9_readWalk_44 : decode cX9_readWalk 44 = .ok (.ifCond .ne 5, 3) := dz4 dzo154 0 0 5 5 rfl dzbX9_readWalk_44 rfl
theorem dX9_readWalk_47 : decode cX9_readWalk 47 = .ok (.iconst 0, 1) := dz0 dzo3 3 dzbX9_readWalk_44 rfl
theorem dX9_readWalk_48 : decode cX9_readWalk 48 = .ok (.ireturn, 1) := dz0 dzo172 4 dzbX9_readWalk_44 rfl
theorem dX9_readWalk_49 : decode cX9_readWalk 49 = .ok (.aload_n 0, 1) := dz0 dzo42 5 dzbX9_readWalk_44 rfl
theorem dX9_readWalk_50 : decode cX9_readWalk 50 = .ok (.getfield 86, 3) := dz2 dzo180 6 0 86 dzbX9_readWalk_44 rfl
theorem dX9_readWalk_53 : decode cX9_readWalk 53 = .ok (.istore_n 3, 1) := dz0 dzo62 9 dzbX9_readWalk_44 rfl
theorem dX9_readWalk_54 : decode cX9_readWalk 54 = .ok (.aload_n 1, 1) := dz0 dzo43 10 dzbX9_readWalk_44 rfl
theorem dX9_readWalk_55 : decode cX9_readWalk 55 = .ok (.getfield 99, 3) := dz2 dzo180 11 0 99 dzbX9_readWalk_44 rfl
theorem dX9_readWalk_58 : decode cX9_readWalk 58 = .ok (.getfield 176, 3) := dz2 dzo180 14 0 176 dzbX9_readWalk_44 rfl
theorem dX9_readWalk_61 : decode cX9_readWalk 61 = .ok (.iconst 1, 1) := dz0 dzo4 17 dzbX9_readWalk_44 rfl
theorem dX9_readWalk_62 : decode cX9_readWalk 62 = .ok (.isub, 1) := dz0 dzo100 18 dzbX9_readWalk_44 rfl
theorem dX9_readWalk_63 : decode cX9_readWalk 63 = .ok (.iload_n 3, 1) := dz0 dzo29 19 dzbX9_readWalk_44 rfl
theorem dX9_readWalk_64 : decode cX9_readWalk 64 = .ok (.isub, 1) := dz0 dzo100 20 dzbX9_readWalk_44 rfl
theorem dX9_readWalk_65 : decode cX9_readWalk 65 = .ok (.aload_n 1, 1) := dz0 dzo43 21 dzbX9_readWalk_44 rfl
theorem dzbX9_readWalk_66 : dzB cX9_readWalk 66 [180, 0, 99, 180, 0, 109, 108, 54, 4, 42, 18, 179, 182, 0, 78, 153, 0, 17, 42, 4, 6, 21, 4] := by decide +kernel
theorem dX9_readWalk_66 : decode cX9_readWalk 66 = .ok (.getfield 99, 3) := dz2 dzo180 0 0 99 dzbX9_readWalk_66 rfl
theorem dX9_readWalk_69 : decode cX9_readWalk 69 = .ok (.getfield 109, 3) := dz2 dzo180 3 0 109 dzbX9_readWalk_66 rfl
theorem dX9_readWalk_72 : decode cX9_readWalk 72 = .ok (.idiv, 1) := dz0 dzo108 6 dzbX9_readWalk_66 rfl
theorem dX9_readWalk_73 : decode cX9_readWalk 73 = .ok (.istore 4, 2) := dz1 dzo54 7 4 dzbX9_readWalk_66 rfl
theorem dX9_readWalk_75 : decode cX9_readWalk 75 = .ok (.aload_n 0, 1) := dz0 dzo42 9 dzbX9_readWalk_66 rfl
theorem dX9_readWalk_76 : decode cX9_readWalk 76 = .ok (.ldc 179, 2) := dz1 dzo18 10 179 dzbX9_readWalk_66 rfl
theorem dX9_readWalk_78 : decode cX9_readWalk 78 = .ok (.invokevirtual 78, 3) := dz2 dzo182 12 0 78 dzbX9_readWalk_66 rfl
theorem dX9_readWalk_81 : decode cX9_readWalk 81 = .ok (.ifCond .eq 17, 3) := dz4 dzo153 15 0 17 17 rfl dzbX9_readWalk_66 rfl
theorem dX9_readWalk_84 : decode cX9_readWalk 84 = .ok (.aload_n 0, 1) := dz0 dzo42 18 dzbX9_readWalk_66 rfl
theorem dX9_readWalk_85 : decode cX9_readWalk 85 = .ok (.iconst 1, 1) := dz0 dzo4 19 dzbX9_readWalk_66 rfl
theorem dX9_readWalk_86 : decode cX9_readWalk 86 = .ok (.iconst 3, 1) := dz0 dzo6 20 dzbX9_readWalk_66 rfl
theorem dX9_readWalk_87 : decode cX9_readWalk 87 = .ok (.iload 4, 2) := dz1 dzo21 21 4 dzbX9_readWalk_66 rfl
theorem dzbX9_readWalk_89 : dzB cX9_readWalk 89 [184, 0, 19, 182, 0, 82, 154, 0, 5, 3, 172, 42, 18, 181, 182, 0, 183, 54, 5, 21, 5, 154, 0, 18] := by decide +kernel
theorem dX9_readWalk_89 : decode cX9_readWalk 89 = .ok (.invokestatic 19, 3) := dz2 dzo184 0 0 19 dzbX9_readWalk_89 rfl
theorem dX9_readWalk_92 : decode cX9_readWalk 92 = .ok (.invokevirtual 82, 3) := dz2 dzo182 3 0 82 dzbX9_readWalk_89 rfl
theorem dX9_readWalk_95 : decode cX9_readWalk 95 = .ok (.ifCond .ne 5, 3) := dz4 dzo154 6 0 5 5 rfl dzbX9_readWalk_89 rfl
theorem dX9_readWalk_98 : decode cX9_readWalk 98 = .ok (.iconst 0, 1) := dz0 dzo3 9 dzbX9_readWalk_89 rfl
theorem dX9_readWalk_99 : decode cX9_readWalk 99 = .ok (.ireturn, 1) := dz0 dzo172 10 dzbX9_readWalk_89 rfl
theorem dX9_readWalk_100 : decode cX9_readWalk 100 = .ok (.aload_n 0, 1) := dz0 dzo42 11 dzbX9_readWalk_89 rfl
theorem dX9_readWalk_101 : decode cX9_readWalk 101 = .ok (.ldc 181, 2) := dz1 dzo18 12 181 dzbX9_readWalk_89 rfl
theorem dX9_readWalk_103 : decode cX9_readWalk 103 = .ok (.invokevirtual 183, 3) := dz2 dzo182 14 0 183 dzbX9_readWalk_89 rfl
theorem dX9_readWalk_106 : decode cX9_readWalk 106 = .ok (.istore 5, 2) := dz1 dzo54 17 5 dzbX9_readWalk_89 rfl
theorem dX9_readWalk_108 : decode cX9_readWalk 108 = .ok (.iload 5, 2) := dz1 dzo21 19 5 dzbX9_readWalk_89 rfl
theorem dX9_readWalk_110 : decode cX9_readWalk 110 = .ok (.ifCond .ne 18, 3) := dz4 dzo154 21 0 18 18 rfl dzbX9_readWalk_89 rfl
theorem dzbX9_readWalk_113 : dzB cX9_readWalk 113 [42, 18, 186, 182, 0, 183, 154, 0, 9, 42, 4, 182, 0, 62, 172, 42, 182, 0, 42, 43, 180, 0, 188, 28] := by decide +kernel
theorem dX9_readWalk_113 : decode cX9_readWalk 113 = .ok (.aload_n 0, 1) := dz0 dzo42 0 dzbX9_readWalk_113 rfl
theorem dX9_readWalk_114 : decode cX9_readWalk 114 = .ok (.ldc 186, 2) := dz1 dzo18 1 186 dzbX9_readWalk_113 rfl
theorem dX9_readWalk_116 : decode cX9_readWalk 116 = .ok (.invokevirtual 183, 3) := dz2 dzo182 3 0 183 dzbX9_readWalk_113 rfl
theorem dX9_readWalk_119 : decode cX9_readWalk 119 = .ok (.ifCond .ne 9, 3) := dz4 dzo154 6 0 9 9 rfl dzbX9_readWalk_113 rfl
theorem dX9_readWalk_122 : decode cX9_readWalk 122 = .ok (.aload_n 0, 1) := dz0 dzo42 9 dzbX9_readWalk_113 rfl
theorem dX9_readWalk_123 : decode cX9_readWalk 123 = .ok (.iconst 1, 1) := dz0 dzo4 10 dzbX9_readWalk_113 rfl
theorem dX9_readWalk_124 : decode cX9_readWalk 124 = .ok (.invokevirtual 62, 3) := dz2 dzo182 11 0 62 dzbX9_readWalk_113 rfl
theorem dX9_readWalk_127 : decode cX9_readWalk 127 = .ok (.ireturn, 1) := dz0 dzo172 14 dzbX9_readWalk_113 rfl
theorem dX9_readWalk_128 : decode cX9_readWalk 128 = .ok (.aload_n 0, 1) := dz0 dzo42 15 dzbX9_readWalk_113 rfl
theorem dX9_readWalk_129 : decode cX9_readWalk 129 = .ok (.invokevirtual 42, 3) := dz2 dzo182 16 0 42 dzbX9_readWalk_113 rfl
theorem dX9_readWalk_132 : decode cX9_readWalk 132 = .ok (.aload_n 1, 1) := dz0 dzo43 19 dzbX9_readWalk_113 rfl
theorem dX9_readWalk_133 : decode cX9_readWalk 133 = .ok (.getfield 188, 3) := dz2 dzo180 20 0 188 dzbX9_readWalk_113 rfl
theorem dX9_readWalk_136 : decode cX9_readWalk 136 = .ok (.iload_n 2, 1) := dz0 dzo28 23 dzbX9_readWalk_113 rfl
theorem dzbX9_readWalk_137 : dzB cX9_readWalk 137 [29, 79, 43, 180, 0, 191, 28, 42, 180, 0, 86, 79, 43, 180, 0, 194, 28, 21, 5, 84, 43, 89] := by decide +kernel
theorem dX9_readWalk_137 : decode cX9_readWalk 137 = .ok (.iload_n 3, 1) := dz0 dzo29 0 dzbX9_readWalk_137 rfl
theorem dX9_readWalk_138 : decode cX9_readWalk 138 = .ok (.iastore, 1) := dz0 dzo79 1 dzbX9_readWalk_137 rfl
theorem dX9_readWalk_139 : decode cX9_readWalk 139 = .ok (.aload_n 1, 1) := dz0 dzo43 2 dzbX9_readWalk_137 rfl
theorem dX9_readWalk_140 : decode cX9_readWalk 140 = .ok (.getfield 191, 3) := dz2 dzo180 3 0 191 dzbX9_readWalk_137 rfl
theorem dX9_readWalk_143 : decode cX9_readWalk 143 = .ok (.iload_n 2, 1) := dz0 dzo28 6 dzbX9_readWalk_137 rfl
theorem dX9_readWalk_144 : decode cX9_readWalk 144 = .ok (.aload_n 0, 1) := dz0 dzo42 7 dzbX9_readWalk_137 rfl
theorem dX9_readWalk_145 : decode cX9_readWalk 145 = .ok (.getfield 86, 3) := dz2 dzo180 8 0 86 dzbX9_readWalk_137 rfl
theorem dX9_readWalk_148 : decode cX9_readWalk 148 = .ok (.iastore, 1) := dz0 dzo79 11 dzbX9_readWalk_137 rfl
theorem dX9_readWalk_149 : decode cX9_readWalk 149 = .ok (.aload_n 1, 1) := dz0 dzo43 12 dzbX9_readWalk_137 rfl
theorem dX9_readWalk_150 : decode cX9_readWalk 150 = .ok (.getfield 194, 3) := dz2 dzo180 13 0 194 dzbX9_readWalk_137 rfl
theorem dX9_readWalk_153 : decode cX9_readWalk 153 = .ok (.iload_n 2, 1) := dz0 dzo28 16 dzbX9_readWalk_137 rfl
theorem dX9_readWalk_154 : decode cX9_readWalk 154 = .ok (.iload 5, 2) := dz1 dzo21 17 5 dzbX9_readWalk_137 rfl
theorem dX9_readWalk_156 : decode cX9_readWalk 156 = .ok (.bastore, 1) := dz0 dzo84 19 dzbX9_readWalk_137 rfl
theorem dX9_readWalk_157 : decode cX9_readWalk 157 = .ok (.aload_n 1, 1) := dz0 dzo43 20 dzbX9_readWalk_137 rfl
theorem dX9_readWalk_158 : decode cX9_readWalk 158 = .ok (.dup, 1) := dz0 dzo89 21 dzbX9_readWalk_137 rfl
theorem dzbX9_readWalk_159 : dzB cX9_readWalk 159 [180, 0, 173, 4, 96, 181, 0, 173, 4, 172] := by decide +kernel
theorem dX9_readWalk_159 : decode cX9_readWalk 159 = .ok (.getfield 173, 3) := dz2 dzo180 0 0 173 dzbX9_readWalk_159 rfl
theorem dX9_readWalk_162 : decode cX9_readWalk 162 = .ok (.iconst 1, 1) := dz0 dzo4 3 dzbX9_readWalk_159 rfl
theorem dX9_readWalk_163 : decode cX9_readWalk 163 = .ok (.iadd, 1) := dz0 dzo96 4 dzbX9_readWalk_159 rfl
theorem dX9_readWalk_164 : decode cX9_readWalk 164 = .ok (.putfield 173, 3) := dz2 dzo181 5 0 173 dzbX9_readWalk_159 rfl
theorem dX9_readWalk_167 : decode cX9_readWalk 167 = .ok (.iconst 1, 1) := dz0 dzo4 8 dzbX9_readWalk_159 rfl
theorem dX9_readWalk_168 : decode cX9_readWalk 168 = .ok (.ireturn, 1) := dz0 dzo172 9 dzbX9_readWalk_159 rfl
theorem dzbX9_readWalker_0 : dzB cX9_readWalker 0 [43, 182, 0, 69, 154, 0, 10, 42, 16, 6, 182, 0, 62, 172, 43, 180, 0, 138, 61, 28, 7, 160, 0, 9] := by decide +kernel
theorem dX9_readWalker_0 : decode cX9_readWalker 0 = .ok (.aload_n 1, 1) := dz0 dzo43 0 dzbX9_readWalker_0 rfl
theorem dX9_readWalker_1 : decode cX9_readWalker 1 = .ok (.invokevirtual 69, 3) := dz2 dzo182 1 0 69 dzbX9_readWalker_0 rfl
theorem dX9_readWalker_4 : decode cX9_readWalker 4 = .ok (.ifCond .ne 10, 3) := dz4 dzo154 4 0 10 10 rfl dzbX9_readWalker_0 rfl
theorem dX9_readWalker_7 : decode cX9_readWalker 7 = .ok (.aload_n 0, 1) := dz0 dzo42 7 dzbX9_readWalker_0 rfl
theorem dX9_readWalker_8 : decode cX9_readWalker 8 = .ok (.bipush 6, 2) := dz3 dzo16 8 6 6 rfl dzbX9_readWalker_0 rfl
theorem dX9_readWalker_10 : decode cX9_readWalker 10 = .ok (.invokevirtual 62, 3) := dz2 dzo182 10 0 62 dzbX9_readWalker_0 rfl
theorem dX9_readWalker_13 : decode cX9_readWalker 13 = .ok (.ireturn, 1) := dz0 dzo172 13 dzbX9_readWalker_0 rfl
theorem dX9_readWalker_14 : decode cX9_readWalker 14 = .ok (.aload_n 1, 1) := dz0 dzo43 14 dzbX9_readWalker_0 rfl
theorem dX9_readWalker_15 : decode cX9_readWalker 15 = .ok (.getfield 138, 3) := dz2 dzo180 15 0 138 dzbX9_readWalker_0 rfl
theorem dX9_readWalker_18 : decode cX9_readWalker 18 = .ok (.istore_n 2, 1) := dz0 dzo61 18 dzbX9_readWalker_0 rfl
theorem dX9_readWalker_19 : decode cX9_readWalker 19 = .ok (.iload_n 2, 1) := dz0 dzo28 19 dzbX9_readWalker_0 rfl
theorem dX9_readWalker_20 : decode cX9_readWalker 20 = .ok (.iconst 4, 1) := dz0 dzo7 20 dzbX9_readWalker_0 rfl
theorem dX9_readWalker_21 : decode cX9_readWalker 21 = .ok (.if_icmp .ne 9, 3) := dz4 dzo160 21 0 9 9 rfl dzbX9_readWalker_0 rfl
theorem dzbX9_readWalker_24 : dzB cX9_readWalker 24 [42, 8, 182, 0, 62, 172, 42, 182, 0, 42, 42, 180, 0, 66, 4, 160, 0, 11, 42, 182, 0, 45, 2] := by decide +kernel
theorem dX9_readWalker_24 : decode cX9_readWalker 24 = .ok (.aload_n 0, 1) := dz0 dzo42 0 dzbX9_readWalker_24 rfl
theorem dX9_readWalker_25 : decode cX9_readWalker 25 = .ok (.iconst 5, 1) := dz0 dzo8 1 dzbX9_readWalker_24 rfl
theorem dX9_readWalker_26 : decode cX9_readWalker 26 = .ok (.invokevirtual 62, 3) := dz2 dzo182 2 0 62 dzbX9_readWalker_24 rfl
theorem dX9_readWalker_29 : decode cX9_readWalker 29 = .ok (.ireturn, 1) := dz0 dzo172 5 dzbX9_readWalker_24 rfl
theorem dX9_readWalker_30 : decode cX9_readWalker 30 = .ok (.aload_n 0, 1) := dz0 dzo42 6 dzbX9_readWalker_24 rfl
theorem dX9_readWalker_31 : decode cX9_readWalker 31 = .ok (.invokevirtual 42, 3) := dz2 dzo182 7 0 42 dzbX9_readWalker_24 rfl
theorem dX9_readWalker_34 : decode cX9_readWalker 34 = .ok (.aload_n 0, 1) := dz0 dzo42 10 dzbX9_readWalker_24 rfl
theorem dX9_readWalker_35 : decode cX9_readWalker 35 = .ok (.getfield 66, 3) := dz2 dzo180 11 0 66 dzbX9_readWalker_24 rfl
theorem dX9_readWalker_38 : decode cX9_readWalker 38 = .ok (.iconst 1, 1) := dz0 dzo4 14 dzbX9_readWalker_24 rfl
theorem dX9_readWalker_39 : decode cX9_readWalker 39 = .ok (.if_icmp .ne 11, 3) := dz4 dzo160 15 0 11 11 rfl dzbX9_readWalker_24 rfl
theorem dX9_readWalker_42 : decode cX9_readWalker 42 = .ok (.aload_n 0, 1) := dz0 dzo42 18 dzbX9_readWalker_24 rfl
theorem dX9_readWalker_43 : decode cX9_readWalker 43 = .ok (.invokevirtual 45, 3) := dz2 dzo182 19 0 45 dzbX9_readWalker_24 rfl
theorem dX9_readWalker_46 : decode cX9_readWalker 46 = .ok (.iconst (-1), 1) := dz0 dzo2 22 dzbX9_readWalker_24 rfl
theorem dzbX9_readWalker_47 : dzB cX9_readWalker 47 [159, 0, 9, 42, 4, 182, 0, 62, 172, 42, 182, 0, 141, 66, 43, 33, 182, 0, 145, 153, 0, 9, 42, 6] := by decide +kernel
theorem dX9_readWalker_47 : decode cX9_readWalker 47 = .ok (.if_icmp .eq 9, 3) := dz4 dzo159 0 0 9 9 rfl dzbX9_readWalker_47 rfl
theorem dX9_readWalker_50 : decode cX9_readWalker 50 = .ok (.aload_n 0, 1) := dz0 dzo42 3 dzbX9_readWalker_47 rfl
theorem dX9_readWalker_51 : decode cX9_readWalker 51 = .ok (.iconst 1, 1) := dz0 dzo4 4 dzbX9_readWalker_47 rfl
theorem dX9_readWalker_52 : decode cX9_readWalker 52 = .ok (.invokevirtual 62, 3) := dz2 dzo182 5 0 62 dzbX9_readWalker_47 rfl
theorem dX9_readWalker_55 : decode cX9_readWalker 55 = .ok (.ireturn, 1) := dz0 dzo172 8 dzbX9_readWalker_47 rfl
theorem dX9_readWalker_56 : decode cX9_readWalker 56 = .ok (.aload_n 0, 1) := dz0 dzo42 9 dzbX9_readWalker_47 rfl
theorem dX9_readWalker_57 : decode cX9_readWalker 57 = .ok (.invokevirtual 141, 3) := dz2 dzo182 10 0 141 dzbX9_readWalker_47 rfl
theorem dX9_readWalker_60 : decode cX9_readWalker 60 = .ok (.lstore_n 3, 1) := dz0 dzo66 13 dzbX9_readWalker_47 rfl
theorem dX9_readWalker_61 : decode cX9_readWalker 61 = .ok (.aload_n 1, 1) := dz0 dzo43 14 dzbX9_readWalker_47 rfl
theorem dX9_readWalker_62 : decode cX9_readWalker 62 = .ok (.lload_n 3, 1) := dz0 dzo33 15 dzbX9_readWalker_47 rfl
theorem dX9_readWalker_63 : decode cX9_readWalker 63 = .ok (.invokevirtual 145, 3) := dz2 dzo182 16 0 145 dzbX9_readWalker_47 rfl
theorem dX9_readWalker_66 : decode cX9_readWalker 66 = .ok (.ifCond .eq 9, 3) := dz4 dzo153 19 0 9 9 rfl dzbX9_readWalker_47 rfl
theorem dX9_readWalker_69 : decode cX9_readWalker 69 = .ok (.aload_n 0, 1) := dz0 dzo42 22 dzbX9_readWalker_47 rfl
theorem dX9_readWalker_70 : decode cX9_readWalker 70 = .ok (.iconst 3, 1) := dz0 dzo6 23 dzbX9_readWalker_47 rfl
theorem dzbX9_readWalker_71 : dzB cX9_readWalker 71 [182, 0, 62, 172, 42, 182, 0, 42, 42, 182, 0, 149, 54, 5, 21, 5, 2, 160, 0, 9, 42, 4] := by decide +kernel
theorem dX9_readWalker_71 : decode cX9_readWalker 71 = .ok (.invokevirtual 62, 3) := dz2 dzo182 0 0 62 dzbX9_readWalker_71 rfl
theorem dX9_readWalker_74 : decode cX9_readWalker 74 = .ok (.ireturn, 1) := dz0 dzo172 3 dzbX9_readWalker_71 rfl
theorem dX9_readWalker_75 : decode cX9_readWalker 75 = .ok (.aload_n 0, 1) := dz0 dzo42 4 dzbX9_readWalker_71 rfl
theorem dX9_readWalker_76 : decode cX9_readWalker 76 = .ok (.invokevirtual 42, 3) := dz2 dzo182 5 0 42 dzbX9_readWalker_71 rfl
theorem dX9_readWalker_79 : decode cX9_readWalker 79 = .ok (.aload_n 0, 1) := dz0 dzo42 8 dzbX9_readWalker_71 rfl
theorem dX9_readWalker_80 : decode cX9_readWalker 80 = .ok (.invokevirtual 149, 3) := dz2 dzo182 9 0 149 dzbX9_readWalker_71 rfl
theorem dX9_readWalker_83 : decode cX9_readWalker 83 = .ok (.istore 5, 2) := dz1 dzo54 12 5 dzbX9_readWalker_71 rfl
theorem dX9_readWalker_85 : decode cX9_readWalker 85 = .ok (.iload 5, 2) := dz1 dzo21 14 5 dzbX9_readWalker_71 rfl
theorem dX9_readWalker_87 : decode cX9_readWalker 87 = .ok (.iconst (-1), 1) := dz0 dzo2 16 dzbX9_readWalker_71 rfl
theorem dX9_readWalker_88 : decode cX9_readWalker 88 = .ok (.if_icmp .ne 9, 3) := dz4 dzo160 17 0 9 9 rfl dzbX9_readWalker_71 rfl
theorem dX9_readWalker_91 : decode cX9_readWalker 91 = .ok (.aload_n 0, 1) := dz0 dzo42 20 dzbX9_readWalker_71 rfl
theorem dX9_readWalker_92 : decode cX9_readWalker 92 = .ok (.iconst 1, 1) := dz0 dzo4 21 dzbX9_readWalker_71 rfl
theorem dzbX9_readWalker_93 : dzB cX9_readWalker 93 [182, 0, 62, 172, 42, 182, 0, 42, 42, 18, 152, 182, 0, 78, 153, 0, 15, 42, 43, 180, 0, 99, 3] := by decide +kernel
theorem dX9_readWalker_93 : decode cX9_readWalker 93 = .ok (.invokevirtual 62, 3) := dz2 dzo182 0 0 62 dzbX9_readWalker_93 rfl
theorem dX9_readWalker_96 : decode cX9_readWalker 96 = .ok (.ireturn, 1) := dz0 dzo172 3 dzbX9_readWalker_93 rfl
theorem dX9_readWalker_97 : decode cX9_readWalker 97 = .ok (.aload_n 0, 1) := dz0 dzo42 4 dzbX9_readWalker_93 rfl
theorem dX9_readWalker_98 : decode cX9_readWalker 98 = .ok (.invokevirtual 42, 3) := dz2 dzo182 5 0 42 dzbX9_readWalker_93 rfl
theorem dX9_readWalker_101 : decode cX9_readWalker 101 = .ok (.aload_n 0, 1) := dz0 dzo42 8 dzbX9_readWalker_93 rfl
theorem dX9_readWalker_102 : decode cX9_readWalker 102 = .ok (.ldc 152, 2) := dz1 dzo18 9 152 dzbX9_readWalker_93 rfl
theorem dX9_readWalker_104 : decode cX9_readWalker 104 = .ok (.invokevirtual 78, 3) := dz2 dzo182 11 0 78 dzbX9_readWalker_93 rfl
theorem dX9_readWalker_107 : decode cX9_readWalker 107 = .ok (.ifCond .eq 15, 3) := dz4 dzo153 14 0 15 15 rfl dzbX9_readWalker_93 rfl
theorem dX9_readWalker_110 : decode cX9_readWalker 110 = .ok (.aload_n 0, 1) := dz0 dzo42 17 dzbX9_readWalker_93 rfl
theorem dX9_readWalker_111 : decode cX9_readWalker 111 = .ok (.aload_n 1, 1) := dz0 dzo43 18 dzbX9_readWalker_93 rfl
theorem dX9_readWalker_112 : decode cX9_readWalker 112 = .ok (.getfield 99, 3) := dz2 dzo180 19 0 99 dzbX9_readWalker_93 rfl
theorem dX9_readWalker_115 : decode cX9_readWalker 115 = .ok (.iconst 0, 1) := dz0 dzo3 22 dzbX9_readWalker_93 rfl
theorem dzbX9_readWalker_116 : dzB cX9_readWalker 116 [182, 0, 154, 154, 0, 5, 3, 172, 43, 180, 0, 158, 28, 42, 180, 0, 86, 79, 42, 18, 161, 182, 0, 78] := by decide +kernel
theorem dX9_readWalker_116 : decode cX9_readWalker 116 = .ok (.invokevirtual 154, 3) := dz2 dzo182 0 0 154 dzbX9_readWalker_116 rfl
theorem dX9_readWalker_119 : decode cX9_readWalker 119 = .ok (.ifCond .ne 5, 3) := dz4 dzo154 3 0 5 5 rfl dzbX9_readWalker_116 rfl
theorem dX9_readWalker_122 : decode cX9_readWalker 122 = .ok (.iconst 0, 1) := dz0 dzo3 6 dzbX9_readWalker_116 rfl
theorem dX9_readWalker_123 : decode cX9_readWalker 123 = .ok (.ireturn, 1) := dz0 dzo172 7 dzbX9_readWalker_116 rfl
theorem dX9_readWalker_124 : decode cX9_readWalker 124 = .ok (.aload_n 1, 1) := dz0 dzo43 8 dzbX9_readWalker_116 rfl
theorem dX9_readWalker_125 : decode cX9_readWalker 125 = .ok (.getfield 158, 3) := dz2 dzo180 9 0 158 dzbX9_readWalker_116 rfl
theorem dX9_readWalker_128 : decode cX9_readWalker 128 = .ok (.iload_n 2, 1) := dz0 dzo28 12 dzbX9_readWalker_116 rfl
theorem dX9_readWalker_129 : decode cX9_readWalker 129 = .ok (.aload_n 0, 1) := dz0 dzo42 13 dzbX9_readWalker_116 rfl
theorem dX9_readWalker_130 : decode cX9_readWalker 130 = .ok (.getfield 86, 3) := dz2 dzo180 14 0 86 dzbX9_readWalker_116 rfl
theorem dX9_readWalker_133 : decode cX9_readWalker 133 = .ok (.iastore, 1) := dz0 dzo79 17 dzbX9_readWalker_116 rfl
theorem dX9_readWalker_134 : decode cX9_readWalker 134 = .ok (.aload_n 0, 1) := dz0 dzo42 18 dzbX9_readWalker_116 rfl
theorem dX9_readWalker_135 : decode cX9_readWalker 135 = .ok (.ldc 161, 2) := dz1 dzo18 19 161 dzbX9_readWalker_116 rfl
theorem dX9_readWalker_137 : decode cX9_readWalker 137 = .ok (.invokevirtual 78, 3) := dz2 dzo182 21 0 78 dzbX9_readWalker_116 rfl
theorem dzbX9_readWalker_140 : dzB cX9_readWalker 140 [153, 0, 15, 42, 43, 180, 0, 99, 3, 182, 0, 154, 154, 0, 5, 3, 172, 43, 180, 0, 163, 28, 42] := by decide +kernel
theorem dX9_readWalker_140 : decode cX9_readWalker 140 = .ok (.ifCond .eq 15, 3) := dz4 dzo153 0 0 15 15 rfl dzbX9_readWalker_140 rfl
theorem dX9_readWalker_143 : decode cX9_readWalker 143 = .ok (.aload_n 0, 1) := dz0 dzo42 3 dzbX9_readWalker_140 rfl
theorem dX9_readWalker_144 : decode cX9_readWalker 144 = .ok (.aload_n 1, 1) := dz0 dzo43 4 dzbX9_readWalker_140 rfl
theorem dX9_readWalker_145 : decode cX9_readWalker 145 = .ok (.getfield 99, 3) := dz2 dzo180 5 0 99 dzbX9_readWalker_140 rfl
theorem dX9_readWalker_148 : decode cX9_readWalker 148 = .ok (.iconst 0, 1) := dz0 dzo3 8 dzbX9_readWalker_140 rfl
theorem dX9_readWalker_149 : decode cX9_readWalker 149 = .ok (.invokevirtual 154, 3) := dz2 dzo182 9 0 154 dzbX9_readWalker_140 rfl
theorem dX9_readWalker_152 : decode cX9_readWalker 152 = .ok (.ifCond .ne 5, 3) := dz4 dzo154 12 0 5 5 rfl dzbX9_readWalker_140 rfl
theorem dX9_readWalker_155 : decode cX9_readWalker 155 = .ok (.iconst 0, 1) := dz0 dzo3 15 dzbX9_readWalker_140 rfl
theorem dX9_readWalker_156 : decode cX9_readWalker 156 = .ok (.ireturn, 1) := dz0 dzo172 16 dzbX9_readWalker_140 rfl
theorem dX9_readWalker_157 : decode cX9_readWalker 157 = .ok (.aload_n 1, 1) := dz0 dzo43 17 dzbX9_readWalker_140 rfl
theorem dX9_readWalker_158 : decode cX9_readWalker 158 = .ok (.getfield 163, 3) := dz2 dzo180 18 0 163 dzbX9_readWalker_140 rfl
theorem dX9_readWalker_161 : decode cX9_readWalker 161 = .ok (.iload_n 2, 1) := dz0 dzo28 21 dzbX9_readWalker_140 rfl
theorem dX9_readWalker_162 : decode cX9_readWalker 162 = .ok (.aload_n 0, 1) := dz0 dzo42 22 dzbX9_readWalker_140 rfl
theorem dzbX9_readWalker_163 : dzB cX9_readWalker 163 [180, 0, 86, 79, 43, 180, 0, 166, 28, 33, 80, 43, 180, 0, 170, 28, 21, 5, 79, 43, 89, 180, 0, 138] := by decide +kernel
theorem dX9_readWalker_163 : decode cX9_readWalker 163 = .ok (.getfield 86, 3) := dz2 dzo180 0 0 86 dzbX9_readWalker_163 rfl
theorem dX9_readWalker_166 : decode cX9_readWalker 166 = .ok (.iastore, 1) := dz0 dzo79 3 dzbX9_readWalker_163 rfl
theorem dX9_readWalker_167 : decode cX9_readWalker 167 = .ok (.aload_n 1, 1) := dz0 dzo43 4 dzbX9_readWalker_163 rfl
theorem dX9_readWalker_168 : decode cX9_readWalker 168 = .ok (.getfield 166, 3) := dz2 dzo180 5 0 166 dzbX9_readWalker_163 rfl
theorem dX9_readWalker_171 : decode cX9_readWalker 171 = .ok (.iload_n 2, 1) := dz0 dzo28 8 dzbX9_readWalker_163 rfl
theorem dX9_readWalker_172 : decode cX9_readWalker 172 = .ok (.lload_n 3, 1) := dz0 dzo33 9 dzbX9_readWalker_163 rfl
theorem dX9_readWalker_173 : decode cX9_readWalker 173 = .ok (.lastore, 1) := dz0 dzo80 10 dzbX9_readWalker_163 rfl
theorem dX9_readWalker_174 : decode cX9_readWalker 174 = .ok (.aload_n 1, 1) := dz0 dzo43 11 dzbX9_readWalker_163 rfl
theorem dX9_readWalker_175 : decode cX9_readWalker 175 = .ok (.getfield 170, 3) := dz2 dzo180 12 0 170 dzbX9_readWalker_163 rfl
theorem dX9_readWalker_178 : decode cX9_readWalker 178 = .ok (.iload_n 2, 1) := dz0 dzo28 15 dzbX9_readWalker_163 rfl
theorem dX9_readWalker_179 : decode cX9_readWalker 179 = .ok (.iload 5, 2) := dz1 dzo21 16 5 dzbX9_readWalker_163 rfl
theorem dX9_readWalker_181 : decode cX9_readWalker 181 = .ok (.iastore, 1) := dz0 dzo79 18 dzbX9_readWalker_163 rfl
theorem dX9_readWalker_182 : decode cX9_readWalker 182 = .ok (.aload_n 1, 1) := dz0 dzo43 19 dzbX9_readWalker_163 rfl
theorem dX9_readWalker_183 : decode cX9_readWalker 183 = .ok (.dup, 1) := dz0 dzo89 20 dzbX9_readWalker_163 rfl
theorem dX9_readWalker_184 : decode cX9_readWalker 184 = .ok (.getfield 138, 3) := dz2 dzo180 21 0 138 dzbX9_readWalker_163 rfl
theorem dzbX9_readWalker_187 : dzB cX9_readWalker 187 [4, 96, 181, 0, 138, 4, 172] := by decide +kernel
theorem dX9_readWalker_187 : decode cX9_readWalker 187 = .ok (.iconst 1, 1) := dz0 dzo4 0 dzbX9_readWalker_187 rfl
theorem dX9_readWalker_188 : decode cX9_readWalker 188 = .ok (.iadd, 1) := dz0 dzo96 1 dzbX9_readWalker_187 rfl
theorem dX9_readWalker_189 : decode cX9_readWalker 189 = .ok (.putfield 138, 3) := dz2 dzo181 2 0 138 dzbX9_readWalker_187 rfl
theorem dX9_readWalker_192 : decode cX9_readWalker 192 = .ok (.iconst 1, 1) := dz0 dzo4 5 dzbX9_readWalker_187 rfl
theorem dX9_readWalker_193 : decode cX9_readWalker 193 = .ok (.ireturn, 1) := dz0 dzo172 6 dzbX9_readWalker_187 rfl
theorem dzbX9_readWhole_0 : dzB cX9_readWhole 0 [42, 180, 0, 66, 5, 159, 0, 9, 42, 4, 182, 0, 62, 172, 42, 3, 181, 0, 86, 42, 180, 0, 119, 62] := by decide +kernel
theorem dX9_readWhole_0 : decode cX9_readWhole 0 = .ok (.aload_n 0, 1) := dz0 dzo42 0 dzbX9_readWhole_0 rfl
theorem dX9_readWhole_1 : decode cX9_readWhole 1 = .ok (.getfield 66, 3) := dz2 dzo180 1 0 66 dzbX9_readWhole_0 rfl
theorem dX9_readWhole_4 : decode cX9_readWhole 4 = .ok (.iconst 2, 1) := dz0 dzo5 4 dzbX9_readWhole_0 rfl
theorem dX9_readWhole_5 : decode cX9_readWhole 5 = .ok (.if_icmp .eq 9, 3) := dz4 dzo159 5 0 9 9 rfl dzbX9_readWhole_0 rfl
theorem dX9_readWhole_8 : decode cX9_readWhole 8 = .ok (.aload_n 0, 1) := dz0 dzo42 8 dzbX9_readWhole_0 rfl
theorem dX9_readWhole_9 : decode cX9_readWhole 9 = .ok (.iconst 1, 1) := dz0 dzo4 9 dzbX9_readWhole_0 rfl
theorem dX9_readWhole_10 : decode cX9_readWhole 10 = .ok (.invokevirtual 62, 3) := dz2 dzo182 10 0 62 dzbX9_readWhole_0 rfl
theorem dX9_readWhole_13 : decode cX9_readWhole 13 = .ok (.ireturn, 1) := dz0 dzo172 13 dzbX9_readWhole_0 rfl
theorem dX9_readWhole_14 : decode cX9_readWhole 14 = .ok (.aload_n 0, 1) := dz0 dzo42 14 dzbX9_readWhole_0 rfl
theorem dX9_readWhole_15 : decode cX9_readWhole 15 = .ok (.iconst 0, 1) := dz0 dzo3 15 dzbX9_readWhole_0 rfl
theorem dX9_readWhole_16 : decode cX9_readWhole 16 = .ok (.putfield 86, 3) := dz2 dzo181 16 0 86 dzbX9_readWhole_0 rfl
theorem dX9_readWhole_19 : decode cX9_readWhole 19 = .ok (.aload_n 0, 1) := dz0 dzo42 19 dzbX9_readWhole_0 rfl
theorem dX9_readWhole_20 : decode cX9_readWhole 20 = .ok (.getfield 119, 3) := dz2 dzo180 20 0 119 dzbX9_readWhole_0 rfl
theorem dX9_readWhole_23 : decode cX9_readWhole 23 = .ok (.istore_n 3, 1) := dz0 dzo62 23 dzbX9_readWhole_0 rfl
theorem dzbX9_readWhole_24 : dzB cX9_readWhole 24 [29, 42, 180, 0, 28, 162, 0, 30, 42, 42, 180, 0, 86, 16, 10, 104, 42, 180, 0, 11, 29, 51, 96] := by decide +kernel
theorem dX9_readWhole_24 : decode cX9_readWhole 24 = .ok (.iload_n 3, 1) := dz0 dzo29 0 dzbX9_readWhole_24 rfl
theorem dX9_readWhole_25 : decode cX9_readWhole 25 = .ok (.aload_n 0, 1) := dz0 dzo42 1 dzbX9_readWhole_24 rfl
theorem dX9_readWhole_26 : decode cX9_readWhole 26 = .ok (.getfield 28, 3) := dz2 dzo180 2 0 28 dzbX9_readWhole_24 rfl
theorem dX9_readWhole_29 : decode cX9_readWhole 29 = .ok (.if_icmp .ge 30, 3) := dz4 dzo162 5 0 30 30 rfl dzbX9_readWhole_24 rfl
theorem dX9_readWhole_32 : decode cX9_readWhole 32 = .ok (.aload_n 0, 1) := dz0 dzo42 8 dzbX9_readWhole_24 rfl
theorem dX9_readWhole_33 : decode cX9_readWhole 33 = .ok (.aload_n 0, 1) := dz0 dzo42 9 dzbX9_readWhole_24 rfl
theorem dX9_readWhole_34 : decode cX9_readWhole 34 = .ok (.getfield 86, 3) := dz2 dzo180 10 0 86 dzbX9_readWhole_24 rfl
theorem dX9_readWhole_37 : decode cX9_readWhole 37 = .ok (.bipush 10, 2) := dz3 dzo16 13 10 10 rfl dzbX9_readWhole_24 rfl
theorem dX9_readWhole_39 : decode cX9_readWhole 39 = .ok (.imul, 1) := dz0 dzo104 15 dzbX9_readWhole_24 rfl
theorem dX9_readWhole_40 : decode cX9_readWhole 40 = .ok (.aload_n 0, 1) := dz0 dzo42 16 dzbX9_readWhole_24 rfl
theorem dX9_readWhole_41 : decode cX9_readWhole 41 = .ok (.getfield 11, 3) := dz2 dzo180 17 0 11 dzbX9_readWhole_24 rfl
theorem dX9_readWhole_44 : decode cX9_readWhole 44 = .ok (.iload_n 3, 1) := dz0 dzo29 20 dzbX9_readWhole_24 rfl
theorem dX9_readWhole_45 : decode cX9_readWhole 45 = .ok (.baload, 1) := dz0 dzo51 21 dzbX9_readWhole_24 rfl
theorem dX9_readWhole_46 : decode cX9_readWhole 46 = .ok (.iadd, 1) := dz0 dzo96 22 dzbX9_readWhole_24 rfl
theorem dzbX9_readWhole_47 : dzB cX9_readWhole 47 [16, 48, 100, 181, 0, 86, 132, 3, 1, 167, 255, 224, 42, 180, 0, 86, 27, 161, 0, 11, 42, 180, 0, 86] := by decide +kernel
theorem dX9_readWhole_47 : decode cX9_readWhole 47 = .ok (.bipush 48, 2) := dz3 dzo16 0 48 48 rfl dzbX9_readWhole_47 rfl
theorem dX9_readWhole_49 : decode cX9_readWhole 49 = .ok (.isub, 1) := dz0 dzo100 2 dzbX9_readWhole_47 rfl
theorem dX9_readWhole_50 : decode cX9_readWhole 50 = .ok (.putfield 86, 3) := dz2 dzo181 3 0 86 dzbX9_readWhole_47 rfl
theorem dX9_readWhole_53 : decode cX9_readWhole 53 = .ok (.iinc 3 1, 3) := dz5 dzo132 6 3 1 1 rfl dzbX9_readWhole_47 rfl
theorem dX9_readWhole_56 : decode cX9_readWhole 56 = .ok (.goto (-32), 3) := dz4 dzo167 9 255 224 (-32) rfl dzbX9_readWhole_47 rfl
theorem dX9_readWhole_59 : decode cX9_readWhole 59 = .ok (.aload_n 0, 1) := dz0 dzo42 12 dzbX9_readWhole_47 rfl
theorem dX9_readWhole_60 : decode cX9_readWhole 60 = .ok (.getfield 86, 3) := dz2 dzo180 13 0 86 dzbX9_readWhole_47 rfl
theorem dX9_readWhole_63 : decode cX9_readWhole 63 = .ok (.iload_n 1, 1) := dz0 dzo27 16 dzbX9_readWhole_47 rfl
theorem dX9_readWhole_64 : decode cX9_readWhole 64 = .ok (.if_icmp .lt 11, 3) := dz4 dzo161 17 0 11 11 rfl dzbX9_readWhole_47 rfl
theorem dX9_readWhole_67 : decode cX9_readWhole 67 = .ok (.aload_n 0, 1) := dz0 dzo42 20 dzbX9_readWhole_47 rfl
theorem dX9_readWhole_68 : decode cX9_readWhole 68 = .ok (.getfield 86, 3) := dz2 dzo180 21 0 86 dzbX9_readWhole_47 rfl
theorem dzbX9_readWhole_71 : dzB cX9_readWhole 71 [28, 164, 0, 9, 42, 7, 182, 0, 62, 172, 42, 182, 0, 42, 4, 172] := by decide +kernel
theorem dX9_readWhole_71 : decode cX9_readWhole 71 = .ok (.iload_n 2, 1) := dz0 dzo28 0 dzbX9_readWhole_71 rfl
theorem dX9_readWhole_72 : decode cX9_readWhole 72 = .ok (.if_icmp .le 9, 3) := dz4 dzo164 1 0 9 9 rfl dzbX9_readWhole_71 rfl
theorem dX9_readWhole_75 : decode cX9_readWhole 75 = .ok (.aload_n 0, 1) := dz0 dzo42 4 dzbX9_readWhole_71 rfl
theorem dX9_readWhole_76 : decode cX9_readWhole 76 = .ok (.iconst 4, 1) := dz0 dzo7 5 dzbX9_readWhole_71 rfl
theorem dX9_readWhole_77 : decode cX9_readWhole 77 = .ok (.invokevirtual 62, 3) := dz2 dzo182 6 0 62 dzbX9_readWhole_71 rfl
theorem dX9_readWhole_80 : decode cX9_readWhole 80 = .ok (.ireturn, 1) := dz0 dzo172 9 dzbX9_readWhole_71 rfl
theorem dX9_readWhole_81 : decode cX9_readWhole 81 = .ok (.aload_n 0, 1) := dz0 dzo42 10 dzbX9_readWhole_71 rfl
theorem dX9_readWhole_82 : decode cX9_readWhole 82 = .ok (.invokevirtual 42, 3) := dz2 dzo182 11 0 42 dzbX9_readWhole_71 rfl
theorem dX9_readWhole_85 : decode cX9_readWhole 85 = .ok (.iconst 1, 1) := dz0 dzo4 14 dzbX9_readWhole_71 rfl
theorem dX9_readWhole_86 : decode cX9_readWhole 86 = .ok (.ireturn, 1) := dz0 dzo172 15 dzbX9_readWhole_71 rfl
theorem dzbX9_readWord_0 : dzB cX9_readWord 0 [42, 43, 182, 0, 183, 154, 0, 9, 42, 4, 182, 0, 62, 172, 42, 182, 0, 42, 4, 172] := by decide +kernel
theorem dX9_readWord_0 : decode cX9_readWord 0 = .ok (.aload_n 0, 1) := dz0 dzo42 0 dzbX9_readWord_0 rfl
theorem dX9_readWord_1 : decode cX9_readWord 1 = .ok (.aload_n 1, 1) := dz0 dzo43 1 dzbX9_readWord_0 rfl
theorem dX9_readWord_2 : decode cX9_readWord 2 = .ok (.invokevirtual 183, 3) := dz2 dzo182 2 0 183 dzbX9_readWord_0 rfl
theorem dX9_readWord_5 : decode cX9_readWord 5 = .ok (.ifCond .ne 9, 3) := dz4 dzo154 5 0 9 9 rfl dzbX9_readWord_0 rfl
theorem dX9_readWord_8 : decode cX9_readWord 8 = .ok (.aload_n 0, 1) := dz0 dzo42 8 dzbX9_readWord_0 rfl
theorem dX9_readWord_9 : decode cX9_readWord 9 = .ok (.iconst 1, 1) := dz0 dzo4 9 dzbX9_readWord_0 rfl
theorem dX9_readWord_10 : decode cX9_readWord 10 = .ok (.invokevirtual 62, 3) := dz2 dzo182 10 0 62 dzbX9_readWord_0 rfl
theorem dX9_readWord_13 : decode cX9_readWord 13 = .ok (.ireturn, 1) := dz0 dzo172 13 dzbX9_readWord_0 rfl
theorem dX9_readWord_14 : decode cX9_readWord 14 = .ok (.aload_n 0, 1) := dz0 dzo42 14 dzbX9_readWord_0 rfl
theorem dX9_readWord_15 : decode cX9_readWord 15 = .ok (.invokevirtual 42, 3) := dz2 dzo182 15 0 42 dzbX9_readWord_0 rfl
theorem dX9_readWord_18 : decode cX9_readWord 18 = .ok (.iconst 1, 1) := dz0 dzo4 18 dzbX9_readWord_0 rfl
theorem dX9_readWord_19 : decode cX9_readWord 19 = .ok (.ireturn, 1) := dz0 dzo172 19 dzbX9_readWord_0 rfl
theorem dzbX9_runEnd_0 : dzB cX9_runEnd 0 [27, 54, 4, 21, 4, 42, 180, 0, 25, 162, 0, 31, 42, 180, 0, 11, 21, 4, 51, 28, 161, 0, 20, 42] := by decide +kernel
theorem dX9_runEnd_0 : decode cX9_runEnd 0 = .ok (.iload_n 1, 1) := dz0 dzo27 0 dzbX9_runEnd_0 rfl
theorem dX9_runEnd_1 : decode cX9_runEnd 1 = .ok (.istore 4, 2) := dz1 dzo54 1 4 dzbX9_runEnd_0 rfl
theorem dX9_runEnd_3 : decode cX9_runEnd 3 = .ok (.iload 4, 2) := dz1 dzo21 3 4 dzbX9_runEnd_0 rfl
theorem dX9_runEnd_5 : decode cX9_runEnd 5 = .ok (.aload_n 0, 1) := dz0 dzo42 5 dzbX9_runEnd_0 rfl
theorem dX9_runEnd_6 : decode cX9_runEnd 6 = .ok (.getfield 25, 3) := dz2 dzo180 6 0 25 dzbX9_runEnd_0 rfl
theorem dX9_runEnd_9 : decode cX9_runEnd 9 = .ok (.if_icmp .ge 31, 3) := dz4 dzo162 9 0 31 31 rfl dzbX9_runEnd_0 rfl
theorem dX9_runEnd_12 : decode cX9_runEnd 12 = .ok (.aload_n 0, 1) := dz0 dzo42 12 dzbX9_runEnd_0 rfl
theorem dX9_runEnd_13 : decode cX9_runEnd 13 = .ok (.getfield 11, 3) := dz2 dzo180 13 0 11 dzbX9_runEnd_0 rfl
theorem dX9_runEnd_16 : decode cX9_runEnd 16 = .ok (.iload 4, 2) := dz1 dzo21 16 4 dzbX9_runEnd_0 rfl
theorem dX9_runEnd_18 : decode cX9_runEnd 18 = .ok (.baload, 1) := dz0 dzo51 18 dzbX9_runEnd_0 rfl
theorem dX9_runEnd_19 : decode cX9_runEnd 19 = .ok (.iload_n 2, 1) := dz0 dzo28 19 dzbX9_runEnd_0 rfl
theorem dX9_runEnd_20 : decode cX9_runEnd 20 = .ok (.if_icmp .lt 20, 3) := dz4 dzo161 20 0 20 20 rfl dzbX9_runEnd_0 rfl
theorem dX9_runEnd_23 : decode cX9_runEnd 23 = .ok (.aload_n 0, 1) := dz0 dzo42 23 dzbX9_runEnd_0 rfl
theorem dzbX9_runEnd_24 : dzB cX9_runEnd 24 [180, 0, 11, 21, 4, 51, 29, 163, 0, 9, 132, 4, 1, 167, 255, 222, 21, 4, 172] := by decide +kernel
theorem dX9_runEnd_24 : decode cX9_runEnd 24 = .ok (.getfield 11, 3) := dz2 dzo180 0 0 11 dzbX9_runEnd_24 rfl
theorem dX9_runEnd_27 : decode cX9_runEnd 27 = .ok (.iload 4, 2) := dz1 dzo21 3 4 dzbX9_runEnd_24 rfl
theorem dX9_runEnd_29 : decode cX9_runEnd 29 = .ok (.baload, 1) := dz0 dzo51 5 dzbX9_runEnd_24 rfl
theorem dX9_runEnd_30 : decode cX9_runEnd 30 = .ok (.iload_n 3, 1) := dz0 dzo29 6 dzbX9_runEnd_24 rfl
theorem dX9_runEnd_31 : decode cX9_runEnd 31 = .ok (.if_icmp .gt 9, 3) := dz4 dzo163 7 0 9 9 rfl dzbX9_runEnd_24 rfl
theorem dX9_runEnd_34 : decode cX9_runEnd 34 = .ok (.iinc 4 1, 3) := dz5 dzo132 10 4 1 1 rfl dzbX9_runEnd_24 rfl
theorem dX9_runEnd_37 : decode cX9_runEnd 37 = .ok (.goto (-34), 3) := dz4 dzo167 13 255 222 (-34) rfl dzbX9_runEnd_24 rfl
theorem dX9_runEnd_40 : decode cX9_runEnd 40 = .ok (.iload 4, 2) := dz1 dzo21 16 4 dzbX9_runEnd_24 rfl
theorem dX9_runEnd_42 : decode cX9_runEnd 42 = .ok (.ireturn, 1) := dz0 dzo172 18 dzbX9_runEnd_24 rfl
theorem dzbX9_wrong_0 : dzB cX9_wrong 0 [42, 27, 181, 0, 31, 42, 42, 180, 0, 119, 181, 0, 34, 3, 172] := by decide +kernel
theorem dX9_wrong_0 : decode cX9_wrong 0 = .ok (.aload_n 0, 1) := dz0 dzo42 0 dzbX9_wrong_0 rfl
theorem dX9_wrong_1 : decode cX9_wrong 1 = .ok (.iload_n 1, 1) := dz0 dzo27 1 dzbX9_wrong_0 rfl
theorem dX9_wrong_2 : decode cX9_wrong 2 = .ok (.putfield 31, 3) := dz2 dzo181 2 0 31 dzbX9_wrong_0 rfl
theorem dX9_wrong_5 : decode cX9_wrong 5 = .ok (.aload_n 0, 1) := dz0 dzo42 5 dzbX9_wrong_0 rfl
theorem dX9_wrong_6 : decode cX9_wrong 6 = .ok (.aload_n 0, 1) := dz0 dzo42 6 dzbX9_wrong_0 rfl
theorem dX9_wrong_7 : decode cX9_wrong 7 = .ok (.getfield 119, 3) := dz2 dzo180 7 0 119 dzbX9_wrong_0 rfl
theorem dX9_wrong_10 : decode cX9_wrong 10 = .ok (.putfield 34, 3) := dz2 dzo181 10 0 34 dzbX9_wrong_0 rfl
theorem dX9_wrong_13 : decode cX9_wrong 13 = .ok (.iconst 0, 1) := dz0 dzo3 13 dzbX9_wrong_0 rfl
theorem dX9_wrong_14 : decode cX9_wrong 14 = .ok (.ireturn, 1) := dz0 dzo172 14 dzbX9_wrong_0 rfl
end
section
abbrev cJ6_bitCount_0f7a4 : ByteArray := prog_21_method_49_code
def yJ6_bitCount_0f7a4 : MethodName := ⟨"java/lang/Integer", "bitCount", "(I)I"⟩
abbrev cJ0_length_8abf5 : ByteArray := prog_24_method_54_code
def yJ0_length_8abf5 : MethodName := ⟨"java/lang/String", "length", "()I"⟩
abbrev cJ0_coder_7d493 : ByteArray := prog_24_method_152_code
def yJ0_coder_7d493 : MethodName := ⟨"java/lang/String", "coder", "()B"⟩
abbrev cJ0_isLatin1_aae02 : ByteArray := prog_24_method_154_code
def yJ0_isLatin1_aae02 : MethodName := ⟨"java/lang/String", "isLatin1", "()Z"⟩
abbrev cJ0_charAt_5068e : ByteArray := prog_24_method_56_code
def yJ0_charAt_5068e : MethodName := ⟨"java/lang/String", "charAt", "(I)C"⟩
abbrev cJ1_charAt_3b067 : ByteArray := prog_25_method_2_code
def yJ1_charAt_3b067 : MethodName := ⟨"java/lang/StringLatin1", "charAt", "([BI)C"⟩
abbrev cJ0_checkIndex_df160 : ByteArray := prog_24_method_155_code
def yJ0_checkIndex_df160 : MethodName := ⟨"java/lang/String", "checkIndex", "(II)V"⟩
abbrev cJ3_checkIndex_8e157 : ByteArray := prog_32_method_11_code
def yJ3_checkIndex_8e157 : MethodName := ⟨"jdk/internal/util/Preconditions", "checkIndex", "(IILjava/util/function/BiFunction;)I"⟩
abbrev cJ0_indexOf_0f7a4 : ByteArray := prog_24_method_79_code
def yJ0_indexOf_0f7a4 : MethodName := ⟨"java/lang/String", "indexOf", "(I)I"⟩
abbrev cJ0_indexOf_7cf53 : ByteArray := prog_24_method_80_code
def yJ0_indexOf_7cf53 : MethodName := ⟨"java/lang/String", "indexOf", "(II)I"⟩
abbrev cJ1_indexOf_4cfef : ByteArray := prog_25_method_22_code
def yJ1_indexOf_4cfef : MethodName := ⟨"java/lang/StringLatin1", "indexOf", "([BIII)I"⟩
abbrev cJ1_canEncode_9a6ad : ByteArray := prog_25_method_4_code
def yJ1_canEncode_9a6ad : MethodName := ⟨"java/lang/StringLatin1", "canEncode", "(I)Z"⟩
abbrev cJ1_indexOfChar_4cfef : ByteArray := prog_25_method_23_code
def yJ1_indexOfChar_4cfef : MethodName := ⟨"java/lang/StringLatin1", "indexOfChar", "([BIII)I"⟩
theorem w_944 : Cond.code yJ6_bitCount_0f7a4 cJ6_bitCount_0f7a4 1 (some .int) ∈ wsU := wT4 125 rfl (by decide +kernel)
theorem w_943 : Cond.static yJ6_bitCount_0f7a4 ∈ wsU := wT4 124 rfl (by decide +kernel)
theorem w_945 : Cond.constant "java/lang/Integer" 265 (1431655765) ∈ wsU := wT4 126 rfl (by decide +kernel)
theorem w_946 : Cond.constant "java/lang/Integer" 266 (858993459) ∈ wsU := wT4 127 rfl (by decide +kernel)
theorem w_947 : Cond.constant "java/lang/Integer" 267 (252645135) ∈ wsU := wT4 128 rfl (by decide +kernel)
theorem w_942 : Cond.methodLink RX2 41 yJ6_bitCount_0f7a4 ∈ wsU := wT4 123 rfl (by decide +kernel)
theorem mX2_41 : mLk RX2 41 yJ6_bitCount_0f7a4 := Or.inl w_942
theorem w_1039 : Cond.methodLink RX11 255 yJ6_bitCount_0f7a4 ∈ wsU := wT4 220 rfl (by decide +kernel)
theorem mX11_255 : mLk RX11 255 yJ6_bitCount_0f7a4 := Or.inl w_1039
theorem kJ6_bitCount_0f7a4 : mOK yJ6_bitCount_0f7a4 cJ6_bitCount_0f7a4 1 (some .int) 1 := ⟨w_944, w_121, by decide +kernel, by decide +kernel, by decide +kernel⟩
theorem dJ6_bitCount_0f7a4_0 : decode cJ6_bitCount_0f7a4 0 = .ok (.iload_n 0, 1) := by decide +kernel
theorem dJ6_bitCount_0f7a4_1 : decode cJ6_bitCount_0f7a4 1 = .ok (.iload_n 0, 1) := by decide +kernel
theorem dJ6_bitCount_0f7a4_2 : decode cJ6_bitCount_0f7a4 2 = .ok (.iconst 1, 1) := by decide +kernel
theorem dJ6_bitCount_0f7a4_3 : decode cJ6_bitCount_0f7a4 3 = .ok (.iushr, 1) := by decide +kernel
theorem dJ6_bitCount_0f7a4_4 : decode cJ6_bitCount_0f7a4 4 = .ok (.ldc_w 265, 3) := by decide +kernel
theorem dJ6_bitCount_0f7a4_7 : decode cJ6_bitCount_0f7a4 7 = .ok (.iand, 1) := by decide +kernel
theorem dJ6_bitCount_0f7a4_8 : decode cJ6_bitCount_0f7a4 8 = .ok (.isub, 1) := by decide +kernel
theorem dJ6_bitCount_0f7a4_9 : decode cJ6_bitCount_0f7a4 9 = .ok (.istore_n 0, 1) := by decide +kernel
theorem dJ6_bitCount_0f7a4_10 : decode cJ6_bitCount_0f7a4 10 = .ok (.iload_n 0, 1) := by decide +kernel
theorem dJ6_bitCount_0f7a4_11 : decode cJ6_bitCount_0f7a4 11 = .ok (.ldc_w 266, 3) := by decide +kernel
theorem dJ6_bitCount_0f7a4_14 : decode cJ6_bitCount_0f7a4 14 = .ok (.iand, 1) := by decide +kernel
theorem dJ6_bitCount_0f7a4_15 : decode cJ6_bitCount_0f7a4 15 = .ok (.iload_n 0, 1) := by decide +kernel
theorem dJ6_bitCount_0f7a4_16 : decode cJ6_bitCount_0f7a4 16 = .ok (.iconst 2, 1) := by decide +kernel
theorem dJ6_bitCount_0f7a4_17 : decode cJ6_bitCount_0f7a4 17 = .ok (.iushr, 1) := by decide +kernel
theorem dJ6_bitCount_0f7a4_18 : decode cJ6_bitCount_0f7a4 18 = .ok (.ldc_w 266, 3) := by decide +kernel
theorem dJ6_bitCount_0f7a4_21 : decode cJ6_bitCount_0f7a4 21 = .ok (.iand, 1) := by decide +kernel
theorem dJ6_bitCount_0f7a4_22 : decode cJ6_bitCount_0f7a4 22 = .ok (.iadd, 1) := by decide +kernel
theorem dJ6_bitCount_0f7a4_23 : decode cJ6_bitCount_0f7a4 23 = .ok (.istore_n 0, 1) := by decide +kernel
theorem dJ6_bitCount_0f7a4_24 : decode cJ6_bitCount_0f7a4 24 = .ok (.iload_n 0, 1) := by decide +kernel
theorem dJ6_bitCount_0f7a4_25 : decode cJ6_bitCount_0f7a4 25 = .ok (.iload_n 0, 1) := by decide +kernel
theorem dJ6_bitCount_0f7a4_26 : decode cJ6_bitCount_0f7a4 26 = .ok (.iconst 4, 1) := by decide +kernel
theorem dJ6_bitCount_0f7a4_27 : decode cJ6_bitCount_0f7a4 27 = .ok (.iushr, 1) := by decide +kernel
theorem dJ6_bitCount_0f7a4_28 : decode cJ6_bitCount_0f7a4 28 = .ok (.iadd, 1) := by decide +kernel
theorem dJ6_bitCount_0f7a4_29 : decode cJ6_bitCount_0f7a4 29 = .ok (.ldc_w 267, 3) := by decide +kernel
theorem dJ6_bitCount_0f7a4_32 : decode cJ6_bitCount_0f7a4 32 = .ok (.iand, 1) := by decide +kernel
theorem dJ6_bitCount_0f7a4_33 : decode cJ6_bitCount_0f7a4 33 = .ok (.istore_n 0, 1) := by decide +kernel
theorem dJ6_bitCount_0f7a4_34 : decode cJ6_bitCount_0f7a4 34 = .ok (.iload_n 0, 1) := by decide +kernel
theorem dJ6_bitCount_0f7a4_35 : decode cJ6_bitCount_0f7a4 35 = .ok (.iload_n 0, 1) := by decide +kernel
theorem dJ6_bitCount_0f7a4_36 : decode cJ6_bitCount_0f7a4 36 = .ok (.bipush 8, 2) := by decide +kernel
theorem dJ6_bitCount_0f7a4_38 : decode cJ6_bitCount_0f7a4 38 = .ok (.iushr, 1) := by decide +kernel
theorem dJ6_bitCount_0f7a4_39 : decode cJ6_bitCount_0f7a4 39 = .ok (.iadd, 1) := by decide +kernel
theorem dJ6_bitCount_0f7a4_40 : decode cJ6_bitCount_0f7a4 40 = .ok (.istore_n 0, 1) := by decide +kernel
theorem dJ6_bitCount_0f7a4_41 : decode cJ6_bitCount_0f7a4 41 = .ok (.iload_n 0, 1) := by decide +kernel
theorem dJ6_bitCount_0f7a4_42 : decode cJ6_bitCount_0f7a4 42 = .ok (.iload_n 0, 1) := by decide +kernel
theorem dJ6_bitCount_0f7a4_43 : decode cJ6_bitCount_0f7a4 43 = .ok (.bipush 16, 2) := by decide +kernel
theorem dJ6_bitCount_0f7a4_45 : decode cJ6_bitCount_0f7a4 45 = .ok (.iushr, 1) := by decide +kernel
theorem dJ6_bitCount_0f7a4_46 : decode cJ6_bitCount_0f7a4 46 = .ok (.iadd, 1) := by decide +kernel
theorem dJ6_bitCount_0f7a4_47 : decode cJ6_bitCount_0f7a4 47 = .ok (.istore_n 0, 1) := by decide +kernel
theorem dJ6_bitCount_0f7a4_48 : decode cJ6_bitCount_0f7a4 48 = .ok (.iload_n 0, 1) := by decide +kernel
theorem dJ6_bitCount_0f7a4_49 : decode cJ6_bitCount_0f7a4 49 = .ok (.bipush 63, 2) := by decide +kernel
theorem dJ6_bitCount_0f7a4_51 : decode cJ6_bitCount_0f7a4 51 = .ok (.iand, 1) := by decide +kernel
theorem dJ6_bitCount_0f7a4_52 : decode cJ6_bitCount_0f7a4 52 = .ok (.ireturn, 1) := by decide +kernel
theorem w_560 : Cond.code yJ0_length_8abf5 cJ0_length_8abf5 1 (some .int) ∈ wsU := wT2 221 rfl (by decide +kernel)
theorem w_558 : Cond.instanceMethod yJ0_length_8abf5 ∈ wsU := wT2 219 rfl (by decide +kernel)
theorem w_559 : Cond.selects "java/lang/String" yJ0_length_8abf5 yJ0_length_8abf5 ∈ wsU := wT2 220 rfl (by decide +kernel)
theorem w_565 : Cond.fieldLink "java/lang/String" 38 "java/lang/String" "COMPACT_STRINGS" "Z" ∈ wsU := wT2 226 rfl (by decide +kernel)
theorem w_581 : Cond.fieldLink "java/lang/String" 1053 "jdk/internal/util/Preconditions" "SIOOBE_FORMATTER" "Ljava/util/function/BiFunction;" ∈ wsU := wT3 2 rfl (by decide +kernel)
theorem w_2043 : Cond.fieldLink "java/lang/String" 9 "java/lang/String" "value" "[B" ∈ wsU := wT9 24 rfl (by decide +kernel)
theorem w_2044 : Cond.fieldLink "java/lang/String" 15 "java/lang/String" "coder" "B" ∈ wsU := wT9 25 rfl (by decide +kernel)
theorem w_557 : Cond.methodLink RX9 219 yJ0_length_8abf5 ∈ wsU := wT2 218 rfl (by decide +kernel)
theorem mX9_219 : mLk RX9 219 yJ0_length_8abf5 := Or.inl w_557
theorem w_655 : Cond.methodLink "java/lang/String" 505 yJ0_length_8abf5 ∈ wsU := wT3 76 rfl (by decide +kernel)
theorem mJ0_505 : mLk "java/lang/String" 505 yJ0_length_8abf5 := Or.inl w_655
theorem w_1540 : Cond.methodLink RX13 62 yJ0_length_8abf5 ∈ wsU := wT7 1 rfl (by decide +kernel)
theorem mX13_62 : mLk RX13 62 yJ0_length_8abf5 := Or.inl w_1540
theorem kJ0_length_8abf5 : mOK yJ0_length_8abf5 cJ0_length_8abf5 1 (some .int) 0 := ⟨w_560, w_114, by decide +kernel, by decide +kernel, by decide +kernel⟩
theorem vJ0_length_8abf5 : Cond.instanceMethod yJ0_length_8abf5 ∈ wsU ∧ Cond.selects yJ0_length_8abf5.cls yJ0_length_8abf5 yJ0_length_8abf5 ∈ wsU := ⟨w_558, w_559⟩
theorem dJ0_length_8abf5_0 : decode cJ0_length_8abf5 0 = .ok (.aload_n 0, 1) := by decide +kernel
theorem dJ0_length_8abf5_1 : decode cJ0_length_8abf5 1 = .ok (.getfield 9, 3) := by decide +kernel
theorem dJ0_length_8abf5_4 : decode cJ0_length_8abf5 4 = .ok (.arraylength, 1) := by decide +kernel
theorem dJ0_length_8abf5_5 : decode cJ0_length_8abf5 5 = .ok (.aload_n 0, 1) := by decide +kernel
theorem dJ0_length_8abf5_6 : decode cJ0_length_8abf5 6 = .ok (.invokevirtual 335, 3) := by decide +kernel
theorem dJ0_length_8abf5_9 : decode cJ0_length_8abf5 9 = .ok (.ishr, 1) := by decide +kernel
theorem dJ0_length_8abf5_10 : decode cJ0_length_8abf5 10 = .ok (.ireturn, 1) := by decide +kernel
theorem w_564 : Cond.code yJ0_coder_7d493 cJ0_coder_7d493 1 (some .byte) ∈ wsU := wT2 225 rfl (by decide +kernel)
theorem w_562 : Cond.instanceMethod yJ0_coder_7d493 ∈ wsU := wT2 223 rfl (by decide +kernel)
theorem w_563 : Cond.selects "java/lang/String" yJ0_coder_7d493 yJ0_coder_7d493 ∈ wsU := wT2 224 rfl (by decide +kernel)
theorem w_561 : Cond.methodLink "java/lang/String" 335 yJ0_coder_7d493 ∈ wsU := wT2 222 rfl (by decide +kernel)
theorem mJ0_335 : mLk "java/lang/String" 335 yJ0_coder_7d493 := Or.inl w_561
theorem kJ0_coder_7d493 : mOK yJ0_coder_7d493 cJ0_coder_7d493 1 (some .byte) 0 := ⟨w_564, w_114, by decide +kernel, by decide +kernel, by decide +kernel⟩
theorem vJ0_coder_7d493 : Cond.instanceMethod yJ0_coder_7d493 ∈ wsU ∧ Cond.selects yJ0_coder_7d493.cls yJ0_coder_7d493 yJ0_coder_7d493 ∈ wsU := ⟨w_562, w_563⟩
theorem dJ0_coder_7d493_0 : decode cJ0_coder_7d493 0 = .ok (.getstatic 38, 3) := by decide +kernel
theorem dJ0_coder_7d493_3 : decode cJ0_coder_7d493 3 = .ok (.ifCond .eq 10, 3) := by decide +kernel
theorem dJ0_coder_7d493_6 : decode cJ0_coder_7d493 6 = .ok (.aload_n 0, 1) := by decide +kernel
theorem dJ0_coder_7d493_7 : decode cJ0_coder_7d493 7 = .ok (.getfield 15, 3) := by decide +kernel
theorem dJ0_coder_7d493_10 : decode cJ0_coder_7d493 10 = .ok (.goto 4, 3) := by decide +kernel
theorem dJ0_coder_7d493_14 : decode cJ0_coder_7d493 14 = .ok (.ireturn, 1) := by decide +kernel
theorem w_574 : Cond.code yJ0_isLatin1_aae02 cJ0_isLatin1_aae02 1 (some .boolean) ∈ wsU := wT2 235 rfl (by decide +kernel)
theorem w_572 : Cond.instanceMethod yJ0_isLatin1_aae02 ∈ wsU := wT2 233 rfl (by decide +kernel)
theorem w_573 : Cond.selects "java/lang/String" yJ0_isLatin1_aae02 yJ0_isLatin1_aae02 ∈ wsU := wT2 234 rfl (by decide +kernel)
theorem w_571 : Cond.methodLink "java/lang/String" 492 yJ0_isLatin1_aae02 ∈ wsU := wT2 232 rfl (by decide +kernel)
theorem mJ0_492 : mLk "java/lang/String" 492 yJ0_isLatin1_aae02 := Or.inl w_571
theorem kJ0_isLatin1_aae02 : mOK yJ0_isLatin1_aae02 cJ0_isLatin1_aae02 1 (some .boolean) 0 := ⟨w_574, w_114, by decide +kernel, by decide +kernel, by decide +kernel⟩
theorem vJ0_isLatin1_aae02 : Cond.instanceMethod yJ0_isLatin1_aae02 ∈ wsU ∧ Cond.selects yJ0_isLatin1_aae02.cls yJ0_isLatin1_aae02 yJ0_isLatin1_aae02 ∈ wsU := ⟨w_572, w_573⟩
theorem dJ0_isLatin1_aae02_0 : decode cJ0_isLatin1_aae02 0 = .ok (.getstatic 38, 3) := by decide +kernel
theorem dJ0_isLatin1_aae02_3 : decode cJ0_isLatin1_aae02 3 = .ok (.ifCond .eq 14, 3) := by decide +kernel
theorem dJ0_isLatin1_aae02_6 : decode cJ0_isLatin1_aae02 6 = .ok (.aload_n 0, 1) := by decide +kernel
theorem dJ0_isLatin1_aae02_7 : decode cJ0_isLatin1_aae02 7 = .ok (.getfield 15, 3) := by decide +kernel
theorem dJ0_isLatin1_aae02_10 : decode cJ0_isLatin1_aae02 10 = .ok (.ifCond .ne 7, 3) := by decide +kernel
theorem dJ0_isLatin1_aae02_13 : decode cJ0_isLatin1_aae02 13 = .ok (.iconst 1, 1) := by decide +kernel
theorem dJ0_isLatin1_aae02_14 : decode cJ0_isLatin1_aae02 14 = .ok (.goto 4, 3) := by decide +kernel
theorem dJ0_isLatin1_aae02_18 : decode cJ0_isLatin1_aae02 18 = .ok (.ireturn, 1) := by decide +kernel
theorem w_570 : Cond.code yJ0_charAt_5068e cJ0_charAt_5068e 2 (some .char) ∈ wsU := wT2 231 rfl (by decide +kernel)
theorem w_568 : Cond.instanceMethod yJ0_charAt_5068e ∈ wsU := wT2 229 rfl (by decide +kernel)
theorem w_569 : Cond.selects "java/lang/String" yJ0_charAt_5068e yJ0_charAt_5068e ∈ wsU := wT2 230 rfl (by decide +kernel)
theorem w_567 : Cond.methodLink RX9 221 yJ0_charAt_5068e ∈ wsU := wT2 228 rfl (by decide +kernel)
theorem mX9_221 : mLk RX9 221 yJ0_charAt_5068e := Or.inl w_567
theorem w_1541 : Cond.methodLink RX13 70 yJ0_charAt_5068e ∈ wsU := wT7 2 rfl (by decide +kernel)
theorem mX13_70 : mLk RX13 70 yJ0_charAt_5068e := Or.inl w_1541
theorem kJ0_charAt_5068e : mOK yJ0_charAt_5068e cJ0_charAt_5068e 2 (some .char) 1 := ⟨w_570, w_114, by decide +kernel, by decide +kernel, by decide +kernel⟩
theorem vJ0_charAt_5068e : Cond.instanceMethod yJ0_charAt_5068e ∈ wsU ∧ Cond.selects yJ0_charAt_5068e.cls yJ0_charAt_5068e yJ0_charAt_5068e ∈ wsU := ⟨w_568, w_569⟩
theorem dJ0_charAt_5068e_0 : decode cJ0_charAt_5068e 0 = .ok (.aload_n 0, 1) := by decide +kernel
theorem dJ0_charAt_5068e_1 : decode cJ0_charAt_5068e 1 = .ok (.invokevirtual 492, 3) := by decide +kernel
theorem dJ0_charAt_5068e_4 : decode cJ0_charAt_5068e 4 = .ok (.ifCond .eq 12, 3) := by decide +kernel
theorem dJ0_charAt_5068e_7 : decode cJ0_charAt_5068e 7 = .ok (.aload_n 0, 1) := by decide +kernel
theorem dJ0_charAt_5068e_8 : decode cJ0_charAt_5068e 8 = .ok (.getfield 9, 3) := by decide +kernel
theorem dJ0_charAt_5068e_11 : decode cJ0_charAt_5068e 11 = .ok (.iload_n 1, 1) := by decide +kernel
theorem dJ0_charAt_5068e_12 : decode cJ0_charAt_5068e 12 = .ok (.invokestatic 495, 3) := by decide +kernel
theorem dJ0_charAt_5068e_15 : decode cJ0_charAt_5068e 15 = .ok (.ireturn, 1) := by decide +kernel
theorem w_577 : Cond.code yJ1_charAt_3b067 cJ1_charAt_3b067 2 (some .char) ∈ wsU := wT2 238 rfl (by decide +kernel)
theorem w_576 : Cond.static yJ1_charAt_3b067 ∈ wsU := wT2 237 rfl (by decide +kernel)
theorem w_662 : Cond.methodLink "java/lang/StringLatin1" 92 Lib.Math.max.name ∈ wsU := wT3 83 rfl (by decide +kernel)
theorem w_663 : Cond.methodLink "java/lang/StringLatin1" 38 Lib.Math.min.name ∈ wsU := wT3 84 rfl (by decide +kernel)
theorem w_575 : Cond.methodLink "java/lang/String" 495 yJ1_charAt_3b067 ∈ wsU := wT2 236 rfl (by decide +kernel)
theorem mJ0_495 : mLk "java/lang/String" 495 yJ1_charAt_3b067 := Or.inl w_575
theorem kJ1_charAt_3b067 : mOK yJ1_charAt_3b067 cJ1_charAt_3b067 2 (some .char) 2 := ⟨w_577, w_115, by decide +kernel, by decide +kernel, by decide +kernel⟩
theorem dJ1_charAt_3b067_0 : decode cJ1_charAt_3b067 0 = .ok (.iload_n 1, 1) := by decide +kernel
theorem dJ1_charAt_3b067_1 : decode cJ1_charAt_3b067 1 = .ok (.aload_n 0, 1) := by decide +kernel
theorem dJ1_charAt_3b067_2 : decode cJ1_charAt_3b067 2 = .ok (.arraylength, 1) := by decide +kernel
theorem dJ1_charAt_3b067_3 : decode cJ1_charAt_3b067 3 = .ok (.invokestatic 9, 3) := by decide +kernel
theorem dJ1_charAt_3b067_6 : decode cJ1_charAt_3b067 6 = .ok (.aload_n 0, 1) := by decide +kernel
theorem dJ1_charAt_3b067_7 : decode cJ1_charAt_3b067 7 = .ok (.iload_n 1, 1) := by decide +kernel
theorem dJ1_charAt_3b067_8 : decode cJ1_charAt_3b067 8 = .ok (.baload, 1) := by decide +kernel
theorem dJ1_charAt_3b067_9 : decode cJ1_charAt_3b067 9 = .ok (.sipush 255, 3) := by decide +kernel
theorem dJ1_charAt_3b067_12 : decode cJ1_charAt_3b067 12 = .ok (.iand, 1) := by decide +kernel
theorem dJ1_charAt_3b067_13 : decode cJ1_charAt_3b067 13 = .ok (.i2c, 1) := by decide +kernel
theorem dJ1_charAt_3b067_14 : decode cJ1_charAt_3b067 14 = .ok (.ireturn, 1) := by decide +kernel
theorem w_580 : Cond.code yJ0_checkIndex_df160 cJ0_checkIndex_df160 2 none ∈ wsU := wT3 1 rfl (by decide +kernel)
theorem w_579 : Cond.static yJ0_checkIndex_df160 ∈ wsU := wT3 0 rfl (by decide +kernel)
theorem w_578 : Cond.methodLink "java/lang/StringLatin1" 9 yJ0_checkIndex_df160 ∈ wsU := wT2 239 rfl (by decide +kernel)
theorem mJ1_9 : mLk "java/lang/StringLatin1" 9 yJ0_checkIndex_df160 := Or.inl w_578
theorem kJ0_checkIndex_df160 : mOK yJ0_checkIndex_df160 cJ0_checkIndex_df160 2 none 2 := ⟨w_580, w_114, by decide +kernel, by decide +kernel, by decide +kernel⟩
theorem dJ0_checkIndex_df160_0 : decode cJ0_checkIndex_df160 0 = .ok (.iload_n 0, 1) := by decide +kernel
theorem dJ0_checkIndex_df160_1 : decode cJ0_checkIndex_df160 1 = .ok (.iload_n 1, 1) := by decide +kernel
theorem dJ0_checkIndex_df160_2 : decode cJ0_checkIndex_df160 2 = .ok (.getstatic 1053, 3) := by decide +kernel
theorem dJ0_checkIndex_df160_5 : decode cJ0_checkIndex_df160 5 = .ok (.invokestatic 1059, 3) := by decide +kernel
theorem dJ0_checkIndex_df160_8 : decode cJ0_checkIndex_df160 8 = .ok (.pop, 1) := by decide +kernel
theorem dJ0_checkIndex_df160_9 : decode cJ0_checkIndex_df160 9 = .ok (.return_, 1) := by decide +kernel
theorem w_585 : Cond.code yJ3_checkIndex_8e157 cJ3_checkIndex_8e157 3 (some .int) ∈ wsU := wT3 6 rfl (by decide +kernel)
theorem w_584 : Cond.static yJ3_checkIndex_8e157 ∈ wsU := wT3 5 rfl (by decide +kernel)
theorem w_583 : Cond.methodLink "java/lang/String" 1059 yJ3_checkIndex_8e157 ∈ wsU := wT3 4 rfl (by decide +kernel)
theorem mJ0_1059 : mLk "java/lang/String" 1059 yJ3_checkIndex_8e157 := Or.inl w_583
theorem kJ3_checkIndex_8e157 : mOK yJ3_checkIndex_8e157 cJ3_checkIndex_8e157 3 (some .int) 3 := ⟨w_585, w_116, by decide +kernel, by decide +kernel, by decide +kernel⟩
theorem dJ3_checkIndex_8e157_0 : decode cJ3_checkIndex_8e157 0 = .ok (.iload_n 0, 1) := by decide +kernel
theorem dJ3_checkIndex_8e157_1 : decode cJ3_checkIndex_8e157 1 = .ok (.ifCond .lt 8, 3) := by decide +kernel
theorem dJ3_checkIndex_8e157_4 : decode cJ3_checkIndex_8e157 4 = .ok (.iload_n 0, 1) := by decide +kernel
theorem dJ3_checkIndex_8e157_5 : decode cJ3_checkIndex_8e157 5 = .ok (.iload_n 1, 1) := by decide +kernel
theorem dJ3_checkIndex_8e157_6 : decode cJ3_checkIndex_8e157 6 = .ok (.if_icmp .lt 10, 3) := by decide +kernel
theorem dJ3_checkIndex_8e157_16 : decode cJ3_checkIndex_8e157 16 = .ok (.iload_n 0, 1) := by decide +kernel
theorem dJ3_checkIndex_8e157_17 : decode cJ3_checkIndex_8e157 17 = .ok (.ireturn, 1) := by decide +kernel
theorem w_650 : Cond.code yJ0_indexOf_0f7a4 cJ0_indexOf_0f7a4 2 (some .int) ∈ wsU := wT3 71 rfl (by decide +kernel)
theorem w_648 : Cond.instanceMethod yJ0_indexOf_0f7a4 ∈ wsU := wT3 69 rfl (by decide +kernel)
theorem w_649 : Cond.selects "java/lang/String" yJ0_indexOf_0f7a4 yJ0_indexOf_0f7a4 ∈ wsU := wT3 70 rfl (by decide +kernel)
theorem w_647 : Cond.methodLink RX9 122 yJ0_indexOf_0f7a4 ∈ wsU := wT3 68 rfl (by decide +kernel)
theorem mX9_122 : mLk RX9 122 yJ0_indexOf_0f7a4 := Or.inl w_647
theorem kJ0_indexOf_0f7a4 : mOK yJ0_indexOf_0f7a4 cJ0_indexOf_0f7a4 2 (some .int) 1 := ⟨w_650, w_114, by decide +kernel, by decide +kernel, by decide +kernel⟩
theorem vJ0_indexOf_0f7a4 : Cond.instanceMethod yJ0_indexOf_0f7a4 ∈ wsU ∧ Cond.selects yJ0_indexOf_0f7a4.cls yJ0_indexOf_0f7a4 yJ0_indexOf_0f7a4 ∈ wsU := ⟨w_648, w_649⟩
theorem dJ0_indexOf_0f7a4_0 : decode cJ0_indexOf_0f7a4 0 = .ok (.aload_n 0, 1) := by decide +kernel
theorem dJ0_indexOf_0f7a4_1 : decode cJ0_indexOf_0f7a4 1 = .ok (.iload_n 1, 1) := by decide +kernel
theorem dJ0_indexOf_0f7a4_2 : decode cJ0_indexOf_0f7a4 2 = .ok (.iconst 0, 1) := by decide +kernel
theorem dJ0_indexOf_0f7a4_3 : decode cJ0_indexOf_0f7a4 3 = .ok (.invokevirtual 633, 3) := by decide +kernel
theorem dJ0_indexOf_0f7a4_6 : decode cJ0_indexOf_0f7a4 6 = .ok (.ireturn, 1) := by decide +kernel
theorem w_654 : Cond.code yJ0_indexOf_7cf53 cJ0_indexOf_7cf53 3 (some .int) ∈ wsU := wT3 75 rfl (by decide +kernel)
theorem w_652 : Cond.instanceMethod yJ0_indexOf_7cf53 ∈ wsU := wT3 73 rfl (by decide +kernel)
theorem w_653 : Cond.selects "java/lang/String" yJ0_indexOf_7cf53 yJ0_indexOf_7cf53 ∈ wsU := wT3 74 rfl (by decide +kernel)
theorem w_651 : Cond.methodLink "java/lang/String" 633 yJ0_indexOf_7cf53 ∈ wsU := wT3 72 rfl (by decide +kernel)
theorem mJ0_633 : mLk "java/lang/String" 633 yJ0_indexOf_7cf53 := Or.inl w_651
theorem kJ0_indexOf_7cf53 : mOK yJ0_indexOf_7cf53 cJ0_indexOf_7cf53 3 (some .int) 2 := ⟨w_654, w_114, by decide +kernel, by decide +kernel, by decide +kernel⟩
theorem vJ0_indexOf_7cf53 : Cond.instanceMethod yJ0_indexOf_7cf53 ∈ wsU ∧ Cond.selects yJ0_indexOf_7cf53.cls yJ0_indexOf_7cf53 yJ0_indexOf_7cf53 ∈ wsU := ⟨w_652, w_653⟩
theorem dJ0_indexOf_7cf53_0 : decode cJ0_indexOf_7cf53 0 = .ok (.aload_n 0, 1) := by decide +kernel
theorem dJ0_indexOf_7cf53_1 : decode cJ0_indexOf_7cf53 1 = .ok (.invokevirtual 492, 3) := by decide +kernel
theorem dJ0_indexOf_7cf53_4 : decode cJ0_indexOf_7cf53 4 = .ok (.ifCond .eq 19, 3) := by decide +kernel
theorem dJ0_indexOf_7cf53_7 : decode cJ0_indexOf_7cf53 7 = .ok (.aload_n 0, 1) := by decide +kernel
theorem dJ0_indexOf_7cf53_8 : decode cJ0_indexOf_7cf53 8 = .ok (.getfield 9, 3) := by decide +kernel
theorem dJ0_indexOf_7cf53_11 : decode cJ0_indexOf_7cf53 11 = .ok (.iload_n 1, 1) := by decide +kernel
theorem dJ0_indexOf_7cf53_12 : decode cJ0_indexOf_7cf53 12 = .ok (.iload_n 2, 1) := by decide +kernel
theorem dJ0_indexOf_7cf53_13 : decode cJ0_indexOf_7cf53 13 = .ok (.aload_n 0, 1) := by decide +kernel
theorem dJ0_indexOf_7cf53_14 : decode cJ0_indexOf_7cf53 14 = .ok (.invokevirtual 505, 3) := by decide +kernel
theorem dJ0_indexOf_7cf53_17 : decode cJ0_indexOf_7cf53 17 = .ok (.invokestatic 637, 3) := by decide +kernel
theorem dJ0_indexOf_7cf53_20 : decode cJ0_indexOf_7cf53 20 = .ok (.goto 16, 3) := by decide +kernel
theorem dJ0_indexOf_7cf53_36 : decode cJ0_indexOf_7cf53 36 = .ok (.ireturn, 1) := by decide +kernel
theorem w_658 : Cond.code yJ1_indexOf_4cfef cJ1_indexOf_4cfef 4 (some .int) ∈ wsU := wT3 79 rfl (by decide +kernel)
theorem w_657 : Cond.static yJ1_indexOf_4cfef ∈ wsU := wT3 78 rfl (by decide +kernel)
theorem w_656 : Cond.methodLink "java/lang/String" 637 yJ1_indexOf_4cfef ∈ wsU := wT3 77 rfl (by decide +kernel)
theorem mJ0_637 : mLk "java/lang/String" 637 yJ1_indexOf_4cfef := Or.inl w_656
theorem kJ1_indexOf_4cfef : mOK yJ1_indexOf_4cfef cJ1_indexOf_4cfef 4 (some .int) 4 := ⟨w_658, w_115, by decide +kernel, by decide +kernel, by decide +kernel⟩
theorem dJ1_indexOf_4cfef_0 : decode cJ1_indexOf_4cfef 0 = .ok (.iload_n 1, 1) := by decide +kernel
theorem dJ1_indexOf_4cfef_1 : decode cJ1_indexOf_4cfef 1 = .ok (.invokestatic 88, 3) := by decide +kernel
theorem dJ1_indexOf_4cfef_4 : decode cJ1_indexOf_4cfef 4 = .ok (.ifCond .ne 5, 3) := by decide +kernel
theorem dJ1_indexOf_4cfef_7 : decode cJ1_indexOf_4cfef 7 = .ok (.iconst (-1), 1) := by decide +kernel
theorem dJ1_indexOf_4cfef_8 : decode cJ1_indexOf_4cfef 8 = .ok (.ireturn, 1) := by decide +kernel
theorem dJ1_indexOf_4cfef_9 : decode cJ1_indexOf_4cfef 9 = .ok (.iload_n 2, 1) := by decide +kernel
theorem dJ1_indexOf_4cfef_10 : decode cJ1_indexOf_4cfef 10 = .ok (.iconst 0, 1) := by decide +kernel
theorem dJ1_indexOf_4cfef_11 : decode cJ1_indexOf_4cfef 11 = .ok (.invokestatic 92, 3) := by decide +kernel
theorem dJ1_indexOf_4cfef_14 : decode cJ1_indexOf_4cfef 14 = .ok (.istore_n 2, 1) := by decide +kernel
theorem dJ1_indexOf_4cfef_15 : decode cJ1_indexOf_4cfef 15 = .ok (.iload_n 3, 1) := by decide +kernel
theorem dJ1_indexOf_4cfef_16 : decode cJ1_indexOf_4cfef 16 = .ok (.aload_n 0, 1) := by decide +kernel
theorem dJ1_indexOf_4cfef_17 : decode cJ1_indexOf_4cfef 17 = .ok (.arraylength, 1) := by decide +kernel
theorem dJ1_indexOf_4cfef_18 : decode cJ1_indexOf_4cfef 18 = .ok (.invokestatic 38, 3) := by decide +kernel
theorem dJ1_indexOf_4cfef_21 : decode cJ1_indexOf_4cfef 21 = .ok (.istore_n 3, 1) := by decide +kernel
theorem dJ1_indexOf_4cfef_22 : decode cJ1_indexOf_4cfef 22 = .ok (.iload_n 2, 1) := by decide +kernel
theorem dJ1_indexOf_4cfef_23 : decode cJ1_indexOf_4cfef 23 = .ok (.iload_n 3, 1) := by decide +kernel
theorem dJ1_indexOf_4cfef_24 : decode cJ1_indexOf_4cfef 24 = .ok (.if_icmp .lt 5, 3) := by decide +kernel
theorem dJ1_indexOf_4cfef_27 : decode cJ1_indexOf_4cfef 27 = .ok (.iconst (-1), 1) := by decide +kernel
theorem dJ1_indexOf_4cfef_28 : decode cJ1_indexOf_4cfef 28 = .ok (.ireturn, 1) := by decide +kernel
theorem dJ1_indexOf_4cfef_29 : decode cJ1_indexOf_4cfef 29 = .ok (.aload_n 0, 1) := by decide +kernel
theorem dJ1_indexOf_4cfef_30 : decode cJ1_indexOf_4cfef 30 = .ok (.iload_n 1, 1) := by decide +kernel
theorem dJ1_indexOf_4cfef_31 : decode cJ1_indexOf_4cfef 31 = .ok (.iload_n 2, 1) := by decide +kernel
theorem dJ1_indexOf_4cfef_32 : decode cJ1_indexOf_4cfef 32 = .ok (.iload_n 3, 1) := by decide +kernel
theorem dJ1_indexOf_4cfef_33 : decode cJ1_indexOf_4cfef 33 = .ok (.invokestatic 95, 3) := by decide +kernel
theorem dJ1_indexOf_4cfef_36 : decode cJ1_indexOf_4cfef 36 = .ok (.ireturn, 1) := by decide +kernel
theorem w_661 : Cond.code yJ1_canEncode_9a6ad cJ1_canEncode_9a6ad 1 (some .boolean) ∈ wsU := wT3 82 rfl (by decide +kernel)
theorem w_660 : Cond.static yJ1_canEncode_9a6ad ∈ wsU := wT3 81 rfl (by decide +kernel)
theorem w_659 : Cond.methodLink "java/lang/StringLatin1" 88 yJ1_canEncode_9a6ad ∈ wsU := wT3 80 rfl (by decide +kernel)
theorem mJ1_88 : mLk "java/lang/StringLatin1" 88 yJ1_canEncode_9a6ad := Or.inl w_659
theorem kJ1_canEncode_9a6ad : mOK yJ1_canEncode_9a6ad cJ1_canEncode_9a6ad 1 (some .boolean) 1 := ⟨w_661, w_115, by decide +kernel, by decide +kernel, by decide +kernel⟩
theorem dJ1_canEncode_9a6ad_0 : decode cJ1_canEncode_9a6ad 0 = .ok (.iload_n 0, 1) := by decide +kernel
theorem dJ1_canEncode_9a6ad_1 : decode cJ1_canEncode_9a6ad 1 = .ok (.ifCond .lt 14, 3) := by decide +kernel
theorem dJ1_canEncode_9a6ad_4 : decode cJ1_canEncode_9a6ad 4 = .ok (.iload_n 0, 1) := by decide +kernel
theorem dJ1_canEncode_9a6ad_5 : decode cJ1_canEncode_9a6ad 5 = .ok (.sipush 255, 3) := by decide +kernel
theorem dJ1_canEncode_9a6ad_8 : decode cJ1_canEncode_9a6ad 8 = .ok (.if_icmp .gt 7, 3) := by decide +kernel
theorem dJ1_canEncode_9a6ad_11 : decode cJ1_canEncode_9a6ad 11 = .ok (.iconst 1, 1) := by decide +kernel
theorem dJ1_canEncode_9a6ad_12 : decode cJ1_canEncode_9a6ad 12 = .ok (.goto 4, 3) := by decide +kernel
theorem dJ1_canEncode_9a6ad_15 : decode cJ1_canEncode_9a6ad 15 = .ok (.iconst 0, 1) := by decide +kernel
theorem dJ1_canEncode_9a6ad_16 : decode cJ1_canEncode_9a6ad 16 = .ok (.ireturn, 1) := by decide +kernel
theorem w_666 : Cond.code yJ1_indexOfChar_4cfef cJ1_indexOfChar_4cfef 6 (some .int) ∈ wsU := wT3 87 rfl (by decide +kernel)
theorem w_665 : Cond.static yJ1_indexOfChar_4cfef ∈ wsU := wT3 86 rfl (by decide +kernel)
theorem w_664 : Cond.methodLink "java/lang/StringLatin1" 95 yJ1_indexOfChar_4cfef ∈ wsU := wT3 85 rfl (by decide +kernel)
theorem mJ1_95 : mLk "java/lang/StringLatin1" 95 yJ1_indexOfChar_4cfef := Or.inl w_664
theorem kJ1_indexOfChar_4cfef : mOK yJ1_indexOfChar_4cfef cJ1_indexOfChar_4cfef 6 (some .int) 4 := ⟨w_666, w_115, by decide +kernel, by decide +kernel, by decide +kernel⟩
theorem dJ1_indexOfChar_4cfef_0 : decode cJ1_indexOfChar_4cfef 0 = .ok (.iload_n 1, 1) := by decide +kernel
theorem dJ1_indexOfChar_4cfef_1 : decode cJ1_indexOfChar_4cfef 1 = .ok (.i2b, 1) := by decide +kernel
theorem dJ1_indexOfChar_4cfef_2 : decode cJ1_indexOfChar_4cfef 2 = .ok (.istore 4, 2) := by decide +kernel
theorem dJ1_indexOfChar_4cfef_4 : decode cJ1_indexOfChar_4cfef 4 = .ok (.iload_n 2, 1) := by decide +kernel
theorem dJ1_indexOfChar_4cfef_5 : decode cJ1_indexOfChar_4cfef 5 = .ok (.istore 5, 2) := by decide +kernel
theorem dJ1_indexOfChar_4cfef_7 : decode cJ1_indexOfChar_4cfef 7 = .ok (.iload 5, 2) := by decide +kernel
theorem dJ1_indexOfChar_4cfef_9 : decode cJ1_indexOfChar_4cfef 9 = .ok (.iload_n 3, 1) := by decide +kernel
theorem dJ1_indexOfChar_4cfef_10 : decode cJ1_indexOfChar_4cfef 10 = .ok (.if_icmp .ge 21, 3) := by decide +kernel
theorem dJ1_indexOfChar_4cfef_13 : decode cJ1_indexOfChar_4cfef 13 = .ok (.aload_n 0, 1) := by decide +kernel
theorem dJ1_indexOfChar_4cfef_14 : decode cJ1_indexOfChar_4cfef 14 = .ok (.iload 5, 2) := by decide +kernel
theorem dJ1_indexOfChar_4cfef_16 : decode cJ1_indexOfChar_4cfef 16 = .ok (.baload, 1) := by decide +kernel
theorem dJ1_indexOfChar_4cfef_17 : decode cJ1_indexOfChar_4cfef 17 = .ok (.iload 4, 2) := by decide +kernel
theorem dJ1_indexOfChar_4cfef_19 : decode cJ1_indexOfChar_4cfef 19 = .ok (.if_icmp .ne 6, 3) := by decide +kernel
theorem dJ1_indexOfChar_4cfef_22 : decode cJ1_indexOfChar_4cfef 22 = .ok (.iload 5, 2) := by decide +kernel
theorem dJ1_indexOfChar_4cfef_24 : decode cJ1_indexOfChar_4cfef 24 = .ok (.ireturn, 1) := by decide +kernel
theorem dJ1_indexOfChar_4cfef_25 : decode cJ1_indexOfChar_4cfef 25 = .ok (.iinc 5 1, 3) := by decide +kernel
theorem dJ1_indexOfChar_4cfef_28 : decode cJ1_indexOfChar_4cfef 28 = .ok (.goto (-21), 3) := by decide +kernel
theorem dJ1_indexOfChar_4cfef_31 : decode cJ1_indexOfChar_4cfef 31 = .ok (.iconst (-1), 1) := by decide +kernel
theorem dJ1_indexOfChar_4cfef_32 : decode cJ1_indexOfChar_4cfef 32 = .ok (.ireturn, 1) := by decide +kernel
end
section
theorem c_lt {a b : Int32} (h : a < b) : a.toInt < b.toInt := Int32.lt_iff_toInt_lt.mp h
theorem c_nlt {a b : Int32} (h : ¬ a < b) : b.toInt ≤ a.toInt := Int.not_lt.mp (fun q => h (Int32.lt_iff_toInt_lt.mpr q))
theorem c_le {a b : Int32} (h : a ≤ b) : a.toInt ≤ b.toInt := Int32.le_iff_toInt_le.mp h
theorem c_nle {a b : Int32} (h : ¬ a ≤ b) : b.toInt < a.toInt := Int.not_le.mp (fun q => h (Int32.le_iff_toInt_le.mpr q))
theorem c_eq {a b : Int32} (h : a = b) : a.toInt = b.toInt := congrArg Int32.toInt h
theorem c_ne {a b : Int32} (h : ¬ a = b) : a.toInt ≠ b.toInt := fun q => h (Int32.toInt_inj.mp q)
theorem ti_bd (a : Int32) : -2147483648 ≤ a.toInt ∧ a.toInt ≤ 2147483647 := ⟨Int32.le_toInt a, by have := Int32.toInt_lt a; omega⟩
theorem bm_id {z : Int} (h1 : -2147483648 ≤ z) (h2 : z ≤ 2147483647) : z.bmod (2 ^ 32) = z := by
  rw [Int.bmod_def]
  split <;> omega
theorem ti_add {a b x : Int32} {A B : Int} (e : x = a + b) (ha : a.toInt = A) (hb : b.toInt = B) (h1 : -2147483648 ≤ A + B) (h2 : A + B ≤ 2147483647) : x.toInt = A + B := by
  subst ha; subst hb; rw [e, Int32.toInt_add]; exact bm_id h1 h2
theorem ti_sub {a b x : Int32} {A B : Int} (e : x = a - b) (ha : a.toInt = A) (hb : b.toInt = B) (h1 : -2147483648 ≤ A - B) (h2 : A - B ≤ 2147483647) : x.toInt = A - B := by
  subst ha; subst hb; rw [e, Int32.toInt_sub]; exact bm_id h1 h2
theorem ti_mul {a b x : Int32} (e : x = a * b) (h1 : -2147483648 ≤ a.toInt * b.toInt) (h2 : a.toInt * b.toInt ≤ 2147483647) : x.toInt = a.toInt * b.toInt := by
  rw [e, Int32.toInt_mul]; exact bm_id h1 h2
theorem ti_mulk {a b x : Int32} {A B : Int} (e : x = a * b) (ha : a.toInt = A) (hb : b.toInt = B) (h1 : -2147483648 ≤ A * B) (h2 : A * B ≤ 2147483647) : x.toInt = A * B := by
  subst ha; subst hb; exact ti_mul e h1 h2
theorem vin {i : Int32} {n : Nat} (h0 : 0 ≤ i.toInt) (h1 : i.toInt < n) : vp_in i n := by
  intro h
  rcases h with h | h
  · have := c_lt h
    rw [Int32.toInt_zero] at this
    omega
  · have e : (i.toNatClampNeg : Int) = i.toInt := by
      rw [show i.toNatClampNeg = i.toInt.toNat from rfl]; omega
    omega
theorem cl_lt {i : Int32} {n : Nat} (h0 : 0 ≤ i.toInt) (h1 : i.toInt < n) : i.toNatClampNeg < n := by
  rw [show i.toNatClampNeg = i.toInt.toNat from rfl]; omega
/-- all entries of a row within bounds -/
def rb (f : Nat → Int32) (n : Nat) (lo hi : Int) : Prop := ∀ k, k < n → lo ≤ (f k).toInt ∧ (f k).toInt ≤ hi
theorem rb_upd {f : Nat → Int32} {n : Nat} {lo hi : Int} (h : rb f n lo hi) {j : Nat} {v : Int32} (h1 : lo ≤ v.toInt) (h2 : v.toInt ≤ hi) : rb (upd f j v) n lo hi := by
  intro k hk
  unfold upd
  split
  · exact ⟨h1, h2⟩
  · exact h k hk
theorem rb_at {f : Nat → Int32} {n : Nat} {lo hi : Int} (h : rb f n lo hi) {i : Int32} {x : Int32} (e : x = f i.toNatClampNeg) (h0 : 0 ≤ i.toInt) (h1 : i.toInt < n) : lo ≤ x.toInt ∧ x.toInt ≤ hi := by
  rw [e]; exact h _ (cl_lt h0 h1)
theorem ti_divb {a b x : Int32} (e : x = a / b) (ha : 0 ≤ a.toInt) (hb : 0 < b.toInt) : 0 ≤ x.toInt ∧ x.toInt ≤ a.toInt ∧ x.toInt = a.toInt / b.toInt := by
  have hb0 := ti_bd a
  have h : x.toInt = (a.toInt.tdiv b.toInt).bmod (2 ^ 32) := by rw [e, Int32.toInt_div]
  have h1 : a.toInt.tdiv b.toInt = a.toInt / b.toInt := Int.tdiv_eq_ediv_of_nonneg ha
  have h2 : 0 ≤ a.toInt / b.toInt := Int.ediv_nonneg ha (by omega)
  have h3 : a.toInt / b.toInt ≤ a.toInt := Int.ediv_le_self _ ha
  rw [h, h1, bm_id (by omega) (by omega)]
  exact ⟨h2, h3, rfl⟩
theorem ti_rem {a b x : Int32} (e : x = a - a / b * b) (ha : 0 ≤ a.toInt) (hb : 0 < b.toInt) : 0 ≤ x.toInt ∧ x.toInt < b.toInt ∧ x.toInt ≤ a.toInt ∧ x.toInt = a.toInt % b.toInt := by
  have hb0 := ti_bd a
  obtain ⟨h1, h2, h3⟩ := ti_divb (x := a / b) rfl ha hb
  have h4 : a.toInt / b.toInt * b.toInt ≤ a.toInt := Int.ediv_mul_le _ (by omega)
  have h5 : 0 ≤ a.toInt / b.toInt * b.toInt := Int.mul_nonneg (by omega) (by omega)
  have h6 : (a / b * b).toInt = a.toInt / b.toInt * b.toInt := ti_mulk (A := a.toInt / b.toInt) (B := b.toInt) rfl h3 rfl (by omega) (by omega)
  have h7 : x.toInt = a.toInt - a.toInt / b.toInt * b.toInt := ti_sub (A := a.toInt) (B := a.toInt / b.toInt * b.toInt) e rfl h6 (by omega) (by omega)
  have h8 : a.toInt - a.toInt / b.toInt * b.toInt = a.toInt % b.toInt := by rw [Int.emod_def, Int.mul_comm]
  have h9 := Int.emod_lt_of_pos a.toInt hb
  have h10 := Int.emod_nonneg a.toInt (show b.toInt ≠ 0 by omega)
  omega
theorem ti_max {a b x : Int32} (e : x = if a < b then b else a) : a.toInt ≤ x.toInt ∧ b.toInt ≤ x.toInt ∧ (x.toInt = a.toInt ∨ x.toInt = b.toInt) := by
  subst e; split
  · rename_i h; have := c_lt h; omega
  · rename_i h; have := c_nlt h; omega
theorem ti_min {a b x : Int32} (e : x = if b < a then b else a) : x.toInt ≤ a.toInt ∧ x.toInt ≤ b.toInt ∧ (x.toInt = a.toInt ∨ x.toInt = b.toInt) := by
  subst e; split
  · rename_i h; have := c_lt h; omega
  · rename_i h; have := c_nlt h; omega
theorem ti_and1 {a x : Int32} (e : x = a &&& 1) : x.toInt = 0 ∨ x.toInt = 1 := by
  subst e
  have h : (a &&& 1) = 0 ∨ (a &&& 1) = 1 := by
    have hb : (a &&& 1).toBitVec = a.toBitVec &&& 1#32 := rfl
    have : a.toBitVec &&& 1#32 = 0#32 ∨ a.toBitVec &&& 1#32 = 1#32 := by
      rw [← BitVec.toNat_inj, ← BitVec.toNat_inj, BitVec.toNat_and]
      have e1 : (1#32).toNat = 1 := rfl
      have e0 : (0#32).toNat = 0 := rfl
      rw [e1, e0, Nat.and_one_is_mod]
      omega
    rcases this with h | h
    · exact Or.inl (Int32.toBitVec_inj.mp (hb.trans h))
    · exact Or.inr (Int32.toBitVec_inj.mp (hb.trans h))
  rcases h with h | h <;> rw [h] <;> decide
/-- bounds that grow with the place -/
def rbk (f : Nat → Int32) (n : Nat) (lo hi : Int) : Prop := ∀ k, k < n → lo * (k : Int) ≤ (f k).toInt ∧ (f k).toInt ≤ hi * (k : Int)
theorem rbk_upd {f : Nat → Int32} {n : Nat} {lo hi : Int} {i : Int32} (h : rbk f n lo hi) {v : Int32} (h0 : 0 ≤ i.toInt) (h1 : lo * i.toInt ≤ v.toInt) (h2 : v.toInt ≤ hi * i.toInt) : rbk (upd f i.toNatClampNeg v) n lo hi := by
  intro k hk
  unfold upd
  by_cases hj : k = i.toNatClampNeg
  · have hi' : ((i.toNatClampNeg : Nat) : Int) = i.toInt := Int.toNat_of_nonneg h0
    subst hj
    simp only [if_true]
    rw [hi']
    exact ⟨h1, h2⟩
  · rw [if_neg hj]
    exact h k hk
theorem rbk_at {f : Nat → Int32} {n : Nat} {lo hi : Int} (h : rbk f n lo hi) {i : Int32} {x : Int32} (e : x = f i.toNatClampNeg) (h0 : 0 ≤ i.toInt) (h1 : i.toInt < n) : lo * i.toInt ≤ x.toInt ∧ x.toInt ≤ hi * i.toInt := by
  have hi' : ((i.toNatClampNeg : Nat) : Int) = i.toInt := Int.toNat_of_nonneg h0
  have h2 := h i.toNatClampNeg (by omega)
  rw [hi'] at h2
  rw [e]
  exact h2
theorem rb_cpy {f g : Nat → Int32} {N : Nat} {lo hi : Int} (h : rb f N lo hi) {a b n : Nat} (ha : a = 0 := by rfl) (hb : b = 0 := by rfl) (hn : n = N := by rfl) : rb (va_cpy f g a b n) N lo hi := by
  subst ha; subst hb; subst hn
  intro k hk
  unfold va_cpy
  rw [if_pos (by omega)]
  exact h _ (by omega)
/-- where a step leads, in whole numbers; -1 nowhere -/
def tg2 (n : Int) (f : Nat → Int32) (to : Int) : Int := if to < 0 ∨ n ≤ to ∨ (f to.toNat).toInt = 3 then -1 else to
def tgZ (w n : Int) (f : Nat → Int32) (c st : Int) : Int := if c < 0 ∨ n ≤ c ∨ w ≤ 0 then -1 else tg2 n f (if st = 0 then c - w else if st = 2 then c + w else if st = 1 ∧ c % w < w - 1 then c + 1 else if st = 3 ∧ 0 < c % w then c - 1 else -1)
theorem ti_shl1 {y x : Int32} (e : x = 1 <<< (y &&& 31)) (h0 : 0 ≤ y.toInt) (h1 : y.toInt ≤ 19) : 0 ≤ x.toInt ∧ x.toInt ≤ 1048575 := by
  have key : ∀ k : Nat, k < 20 → 0 ≤ ((1 : Int32) <<< (Int32.ofNat k &&& 31)).toInt ∧ ((1 : Int32) <<< (Int32.ofNat k &&& 31)).toInt ≤ 1048575 := by decide +kernel
  have hy : y = Int32.ofNat y.toInt.toNat := by
    apply Int32.toInt_inj.mp
    rw [Int32.toInt_ofNat_of_lt (by omega)]; omega
  rw [e, hy]
  exact key _ (by omega)
theorem ti_nat {a : Int32} (h : 0 ≤ a.toInt) : a.toInt = (a.toBitVec.toNat : Int) := by
  have h1 : a.toInt = a.toBitVec.toInt := rfl
  rw [h1] at h ⊢
  rw [BitVec.toInt_eq_toNat_cond] at h ⊢
  split
  · rfl
  · rename_i h2; rw [if_neg h2] at h; have := a.toBitVec.isLt; omega
theorem ti_of_nat {a : Int32} {n : Nat} (h : a.toBitVec.toNat = n) (hn : n < 2 ^ 31) : a.toInt = (n : Int) := by
  have h1 : a.toInt = a.toBitVec.toInt := rfl
  rw [h1, BitVec.toInt_eq_toNat_cond, h, if_pos (by omega)]
theorem ti_or20 {a b x : Int32} (e : x = a ||| b) (ha : 0 ≤ a.toInt) (hA : a.toInt ≤ 1048575) (hb : 0 ≤ b.toInt) (hB : b.toInt ≤ 1048575) : 0 ≤ x.toInt ∧ x.toInt ≤ 1048575 := by
  have na := ti_nat ha
  have nb := ti_nat hb
  have hx : x.toBitVec.toNat = a.toBitVec.toNat ||| b.toBitVec.toNat := by rw [e]; exact BitVec.toNat_or ..
  have hlt : a.toBitVec.toNat ||| b.toBitVec.toNat < 2 ^ 20 := Nat.or_lt_two_pow (by omega) (by omega)
  have := ti_of_nat hx (by omega)
  omega
theorem ti_andl {a b x : Int32} (e : x = a &&& b) (ha : 0 ≤ a.toInt) : 0 ≤ x.toInt ∧ x.toInt ≤ a.toInt := by
  have na := ti_nat ha
  have hx : x.toBitVec.toNat = a.toBitVec.toNat &&& b.toBitVec.toNat := by rw [e]; exact BitVec.toNat_and ..
  have hle : a.toBitVec.toNat &&& b.toBitVec.toNat ≤ a.toBitVec.toNat := Nat.and_le_left
  have hbd := ti_bd a
  have := ti_of_nat hx (by omega)
  omega
theorem ti_andr {a b x : Int32} (e : x = a &&& b) (hb : 0 ≤ b.toInt) : 0 ≤ x.toInt ∧ x.toInt ≤ b.toInt := by
  have nb := ti_nat hb
  have hx : x.toBitVec.toNat = a.toBitVec.toNat &&& b.toBitVec.toNat := by rw [e]; exact BitVec.toNat_and ..
  have hle : a.toBitVec.toNat &&& b.toBitVec.toNat ≤ b.toBitVec.toNat := Nat.and_le_right
  have hbd := ti_bd b
  have := ti_of_nat hx (by omega)
  omega
theorem nar_b {x : Int32} (h0 : 0 ≤ x.toInt) (h1 : x.toInt ≤ 1) : narrow .boolean (.int x) = .int x := by
  have h : x = 0 ∨ x = 1 := by
    rcases (show x.toInt = 0 ∨ x.toInt = 1 by omega) with h | h
    · exact Or.inl (Int32.toInt_inj.mp h)
    · exact Or.inr (Int32.toInt_inj.mp h)
  rcases h with rfl | rfl <;> rfl
theorem nz_i2l {i : Int32} {x : Int64} (e : i.toInt64 = x) (h : i.toInt ≠ 0) : ¬ x = 0 := by
  intro hz
  rw [hz] at e
  have h1 : i.toInt64.toInt = i.toInt := Int32.toInt_toInt64 i
  rw [e] at h1
  exact h (h1.symm.trans (by decide))
theorem nz_cmp {a : Int64} {x : Int32} (e : x = lg_cmp a 0) (h : x.toInt ≠ 0) : ¬ a = 0 := by
  intro hz
  rw [hz] at e
  rw [e] at h
  exact h (by decide)
theorem ti_shl5 {y x : Int32} (e : x = 1 <<< (y &&& 31)) (h0 : 0 ≤ y.toInt) (h1 : y.toInt ≤ 5) : 1 ≤ x.toInt ∧ x.toInt ≤ 32 := by
  have key : ∀ k : Nat, k < 6 → 1 ≤ ((1 : Int32) <<< (Int32.ofNat k &&& 31)).toInt ∧ ((1 : Int32) <<< (Int32.ofNat k &&& 31)).toInt ≤ 32 := by decide +kernel
  have hy : y = Int32.ofNat y.toInt.toNat := by
    apply Int32.toInt_inj.mp
    rw [Int32.toInt_ofNat_of_lt (by omega)]; omega
  rw [e, hy]
  exact key _ (by omega)
end
section
theorem ti_mulr {a b x : Int32} {A B : Int} (e : x = a * b) (ha : 0 ≤ a.toInt) (hA : a.toInt ≤ A) (hb : 0 ≤ b.toInt) (hB : b.toInt ≤ B) (hAB : A * B ≤ 2147483647) : x.toInt = a.toInt * b.toInt ∧ 0 ≤ a.toInt * b.toInt ∧ a.toInt * b.toInt ≤ A * B := by
  have h0 : 0 ≤ a.toInt * b.toInt := Int.mul_nonneg ha hb
  have h1 : a.toInt * b.toInt ≤ A * B := Int.mul_le_mul hA hB hb (Int.le_trans ha hA)
  exact ⟨ti_mul e (by omega) (by omega), h0, h1⟩
/-- the first i cells are as they were -/
def cpZ (f g : Nat → Int32) (i : Int) : Prop := ∀ k : Nat, (k : Int) < i → g k = f k
theorem cpZ_0 {f g : Nat → Int32} {i : Int} (h : i ≤ 0) : cpZ f g i := fun k hk => by omega
theorem cpZ_rf {f : Nat → Int32} {i : Int} : cpZ f f i := fun _ _ => rfl
theorem cpZ_cpy {f g h : Nat → Int32} {a b n : Nat} {i : Int} (e : va_cpy f g a b n = h) (ha : a = 0) (hb : b = 0) (hi : i = n) : cpZ f h i := by
  subst ha; subst hb; subst hi
  intro k hk
  rw [← e]
  unfold va_cpy
  rw [if_pos (by omega)]
  show f (0 + (k - 0)) = f k
  rw [show 0 + (k - 0) = k by omega]
theorem cpZ_le {f g : Nat → Int32} {i j : Int} (h : cpZ f g i) (hj : j ≤ i) : cpZ f g j := fun k hk => h k (by omega)
theorem cpZ_up {f g g1 : Nat → Int32} {j v : Int32} {i i1 : Int} (h : cpZ f g i) (e : upd g (Int32.toNatClampNeg j) v = g1) (hj : j.toInt = i) (h0 : 0 ≤ i) (hv : v = f (Int32.toNatClampNeg j)) (hi : i1 = i + 1) : cpZ f g1 i1 := by
  have n0 : j.toNatClampNeg = i.toNat := by rw [← hj]; rfl
  intro k hk
  rw [← e]
  unfold upd
  by_cases hq : k = i.toNat
  · rw [if_pos (by rw [n0]; exact hq), hv, n0, hq]
  · rw [if_neg (by rw [n0]; exact hq)]
    exact h k (by omega)
/-- the first i cells are 0 -/
def zrZ (f : Nat → Int32) (i : Int) : Prop := ∀ k : Nat, (k : Int) < i → (f k).toInt = 0
theorem zrZ_0 {f : Nat → Int32} {i : Int} (h : i ≤ 0) : zrZ f i := fun k hk => by omega
theorem zrZ_up {g g1 : Nat → Int32} {j v : Int32} {i i1 : Int} (h : zrZ g i) (e : upd g (Int32.toNatClampNeg j) v = g1) (hj : j.toInt = i) (h0 : 0 ≤ i) (hv : v.toInt = 0) (hi : i1 = i + 1) : zrZ g1 i1 := by
  have n0 : j.toNatClampNeg = i.toNat := by rw [← hj]; rfl
  intro k hk
  rw [← e]
  unfold upd
  by_cases hq : k = i.toNat
  · rw [if_pos (by rw [n0]; exact hq)]; exact hv
  · rw [if_neg (by rw [n0]; exact hq)]
    exact h k (by omega)
/-- all that acts change, copied -/
def nwC (w d : Int32) (s a f g : Nat → Int32) (k w1 d1 c1 : Int32) (s1 a1 f1 g1 : Nat → Int32) (k1 : Int32) : Prop := w1 = w ∧ d1 = d ∧ c1.toInt = w.toInt * d.toInt ∧ cpZ s s1 20 ∧ cpZ a a1 4 ∧ cpZ f f1 4 ∧ cpZ g g1 4 ∧ k1 = k
/-- a park's first now -/
def nwB (w d : Int32) (s a : Nat → Int32) (k w1 d1 c1 : Int32) (s1 a1 f1 g1 : Nat → Int32) (k1 : Int32) : Prop := w1 = w ∧ d1 = d ∧ c1.toInt = w.toInt * d.toInt ∧ cpZ s s1 20 ∧ cpZ a a1 4 ∧ zrZ f1 4 ∧ zrZ g1 4 ∧ k1 = k
/-- a cell of the ground, and one that is put -/
def saZ (n : Int) (f : Nat → Int32) (c r : Int) : Prop := (0 ≤ c ∧ c < n ∧ r = (f c.toNat).toInt) ∨ ((c < 0 ∨ n ≤ c) ∧ r = 3)
def ptZ (n : Int) (s s1 : Nat → Int32) (c : Int32) (v : Int32) : Prop := 0 ≤ c.toInt → c.toInt < n → s1 = upd s c.toNatClampNeg v
theorem ti_orp {a b x : Int32} (e : x = a ||| b) (ha : 0 ≤ a.toInt) (hA : a.toInt ≤ 1048575) (hb : 0 ≤ b.toInt) (hB : b.toInt ≤ 1048575) : a.toInt ≤ x.toInt ∧ b.toInt ≤ x.toInt ∧ (a.toInt = 0 → x.toInt = b.toInt) := by
  have na := ti_nat ha
  have nb := ti_nat hb
  have hx : x.toBitVec.toNat = a.toBitVec.toNat ||| b.toBitVec.toNat := by rw [e]; exact BitVec.toNat_or ..
  have hlt : a.toBitVec.toNat ||| b.toBitVec.toNat < 2 ^ 20 := Nat.or_lt_two_pow (by omega) (by omega)
  have h1 := ti_of_nat hx (by omega)
  have h2 : a.toBitVec.toNat ≤ a.toBitVec.toNat ||| b.toBitVec.toNat := Nat.left_le_or
  have h3 : b.toBitVec.toNat ≤ a.toBitVec.toNat ||| b.toBitVec.toNat := Nat.right_le_or
  refine ⟨by omega, by omega, fun h0 => ?_⟩
  have h4 : a.toBitVec.toNat = 0 := by omega
  rw [h4, Nat.zero_or] at h1
  omega
/-- walkers at a place: none, one -/
def waN (f : Nat → Int32) (k c : Int) : Prop := ∀ j : Nat, (j : Int) < k → (f j).toInt ≠ c
def waY (f : Nat → Int32) (k c : Int) : Prop := ∃ j : Nat, (j : Int) < k ∧ (f j).toInt = c
def waP (f : Nat → Int32) (k c r : Int) : Prop := (r = 0 ∧ waN f k c) ∨ (1 ≤ r ∧ waY f k c)
theorem waP_0 {f : Nat → Int32} {k c r : Int} (hk : k ≤ 0) (hr : r = 0) : waP f k c r := Or.inl ⟨hr, fun j hj => by omega⟩
theorem waP_n {f : Nat → Int32} {k k1 c r r1 : Int} {i x : Int32} (h : waP f k c r) (ex : x = f i.toNatClampNeg) (hi : i.toInt = k) (h0 : 0 ≤ k) (hx : x.toInt ≠ c) (hr : r1 = r) (hk : k1 = k + 1) : waP f k1 c r1 := by
  have n0 : i.toNatClampNeg = k.toNat := by rw [← hi]; rfl
  rw [n0] at ex
  rcases h with ⟨h1, h2⟩ | ⟨h1, j, h2, h3⟩
  · refine Or.inl ⟨by omega, fun j hj => ?_⟩
    by_cases hq : j = k.toNat
    · rw [hq, ← ex]
      exact hx
    · exact h2 j (by omega)
  · exact Or.inr ⟨by omega, j, by omega, h3⟩
theorem waP_y {f : Nat → Int32} {k k1 c r r1 : Int} {i x : Int32} (h : waP f k c r) (ex : x = f i.toNatClampNeg) (hi : i.toInt = k) (h0 : 0 ≤ k) (hx : x.toInt = c) (hr : 1 ≤ r1) (hk : k1 = k + 1) : waP f k1 c r1 := by
  have n0 : i.toNatClampNeg = k.toNat := by rw [← hi]; rfl
  rw [n0] at ex
  exact Or.inr ⟨hr, k.toNat, by omega, by rw [← ex]; exact hx⟩
theorem waP_e {f : Nat → Int32} {k k1 c r : Int} (h : waP f k1 c r) (e : k1 = k) : waP f k c r := by rw [← e]; exact h
theorem waP_no {f : Nat → Int32} {k c r : Int} (h : waP f k c r) (hr : r = 0) : waN f k c := by
  rcases h with ⟨-, h2⟩ | ⟨h1, -⟩
  · exact h2
  · omega
theorem waP_ye {f : Nat → Int32} {k c r : Int} (h : waP f k c r) (hr : r ≠ 0) : waY f k c := by
  rcases h with ⟨h1, -⟩ | ⟨-, h2⟩
  · omega
  · exact h2
end
section
/-- minutes onto a ditch, out of one, by who he is: the class -/
def oD (k st : Int) : Int := if k = 1 then -2 else if k = 2 ∨ st = 1 ∨ st = 3 then 1 else if k = 3 then (if st = 2 then 2 else 4) else if st = 2 then 3 else -2
def oU (k st : Int) : Int := if k = 2 ∨ st ≠ 2 then 1 else if k = 3 then 4 else -2
def tfZ (w n : Int) (f : Nat → Int32) (k c st : Int) : Int := if tgZ w n f c st = -1 then -2 else if (f (tgZ w n f c st).toNat).toInt = 1 then oD k st else if (f c.toNat).toInt = 1 then oU k st else 1
def flZ (w n : Int) (f : Nat → Int32) (k c st : Int) : Int := if tgZ w n f c st ≠ -1 ∧ (f (tgZ w n f c st).toNat).toInt = 1 ∧ k = 0 ∧ st = 2 then 1 else 0
/-- a step done: where he is, how often he fell, how long he went -/
def goP (w n : Int) (f a fe we : Nat → Int32) (i : Int32) (k st : Int) (a1 fe1 we1 : Nat → Int32) : Prop := (tfZ w n f k (a i.toNatClampNeg).toInt st = -2 ∧ a1 = a ∧ fe1 = fe ∧ we1 = we) ∨ (tfZ w n f k (a i.toNatClampNeg).toInt st ≠ -2 ∧ a1 = upd a i.toNatClampNeg (Int32.ofInt (tgZ w n f (a i.toNatClampNeg).toInt st)) ∧ fe1 = upd fe i.toNatClampNeg (fe i.toNatClampNeg + Int32.ofInt (flZ w n f k (a i.toNatClampNeg).toInt st)) ∧ we1 = upd we i.toNatClampNeg (we i.toNatClampNeg + Int32.ofInt (tfZ w n f k (a i.toNatClampNeg).toInt st)))
theorem goP_n {w n : Int} {f a fe we : Nat → Int32} {i x t : Int32} {k st : Int} (ex : x = a i.toNatClampNeg) (ht : t.toInt = tfZ w n f k x.toInt st) (h : t.toInt = -2) : goP w n f a fe we i k st a fe we := by
  subst ex
  exact Or.inl ⟨ht.symm.trans h, rfl, rfl, rfl⟩
theorem oi_of {x : Int32} {v : Int} (h : x.toInt = v) : x = Int32.ofInt v := by
  rw [← h]
  exact (Int32.ofInt_toInt x).symm
theorem goP_y {w n : Int} {f a fe we a1 fe1 we1 : Nat → Int32} {i x t y1 s1 y2 q s2 g : Int32} {k st : Int} (ex : x = a i.toNatClampNeg) (ht : t.toInt = tfZ w n f k x.toInt st) (h : t.toInt ≠ -2) (hq : q.toInt = flZ w n f k x.toInt st) (hg : g.toInt = tgZ w n f x.toInt st) (e1 : y1 = we i.toNatClampNeg) (f1 : s1 = y1 + t) (e2 : y2 = fe i.toNatClampNeg) (f2 : s2 = y2 + q) (u1 : upd we i.toNatClampNeg s1 = we1) (u2 : upd fe i.toNatClampNeg s2 = fe1) (u3 : upd a i.toNatClampNeg g = a1) : goP w n f a fe we i k st a1 fe1 we1 := by
  subst ex e1 f1 e2 f2 u1 u2 u3
  refine Or.inr ⟨fun z => h (ht.trans z), ?_, ?_, ?_⟩
  · rw [← oi_of hg]
  · rw [← oi_of hq]
  · rw [← oi_of ht]
/-- the places of a sort, as bits -/
def boZ (f : Nat → Int32) (s : Int) : Nat → Int32
  | 0 => 0
  | k + 1 => if (f k).toInt = s then boZ f s k ||| (1 <<< (Int32.ofNat k &&& 31)) else boZ f s k
theorem oN_of {x : Int32} {k : Nat} (h : x.toInt = (k : Int)) : x = Int32.ofNat k := by
  have h1 := oi_of h
  rw [h1]
  rfl
theorem boZ_y {f : Nat → Int32} {s k k1 : Int} {b i x y z : Int32} (h : b = boZ f s k.toNat) (hi : i.toInt = k) (h0 : 0 ≤ k) (ex : x = f i.toNatClampNeg) (hx : x.toInt = s) (ey : y = 1 <<< (i &&& 31)) (ez : z = b ||| y) (hk : k1 = k + 1) : z = boZ f s k1.toNat := by
  have n0 : i.toNatClampNeg = k.toNat := by rw [← hi]; rfl
  have e1 : i = Int32.ofNat k.toNat := oN_of (by omega)
  rw [n0] at ex
  rw [show k1.toNat = k.toNat + 1 by omega]
  show z = if (f k.toNat).toInt = s then boZ f s k.toNat ||| (1 <<< (Int32.ofNat k.toNat &&& 31)) else boZ f s k.toNat
  rw [if_pos (by rw [← ex]; exact hx), ez, ey, h, ← e1]
theorem boZ_n {f : Nat → Int32} {s k k1 : Int} {b i x : Int32} (h : b = boZ f s k.toNat) (hi : i.toInt = k) (h0 : 0 ≤ k) (ex : x = f i.toNatClampNeg) (hx : x.toInt ≠ s) (hk : k1 = k + 1) : b = boZ f s k1.toNat := by
  have n0 : i.toNatClampNeg = k.toNat := by rw [← hi]; rfl
  rw [n0] at ex
  rw [show k1.toNat = k.toNat + 1 by omega]
  show b = if (f k.toNat).toInt = s then boZ f s k.toNat ||| (1 <<< (Int32.ofNat k.toNat &&& 31)) else boZ f s k.toNat
  rw [if_neg (by rw [← ex]; exact hx)]
  exact h
theorem boZ_n0 {f : Nat → Int32} {s k k1 : Int} {b i x z : Int32} (h : b = boZ f s k.toNat) (hi : i.toInt = k) (h0 : 0 ≤ k) (ex : x = f i.toNatClampNeg) (hx : x.toInt ≠ s) (ez : z = b ||| 0) (hk : k1 = k + 1) : z = boZ f s k1.toNat := by
  have e : z = b := by
    rw [ez]
    exact Int32.or_zero
  rw [e]
  exact boZ_n h hi h0 ex hx hk
/-- a part of a row -/
def shF (f : Nat → Int32) (b : Nat) : Nat → Int32 := fun j => f (b + j)
/-- a step that was asked for -/
def stG (tr r wk w n : Int) (k s a f e : Nat → Int32) (p : Int32) (st : Int) (a1 f1 e1 : Nat → Int32) : Prop := (tr ≠ 0 ∧ r = -1 ∧ (p.toInt < 0 ∨ wk ≤ p.toInt ∨ st < 0 ∨ 3 < st ∨ tfZ w n s (k p.toInt.toNat).toInt (a p.toInt.toNat).toInt st = -2)) ∨ (tr = 0 ∧ 0 ≤ p.toInt ∧ p.toInt < wk ∧ 0 ≤ st ∧ st ≤ 3 ∧ tfZ w n s (k p.toInt.toNat).toInt (a p.toInt.toNat).toInt st ≠ -2 ∧ goP w n s a f e p (k p.toInt.toNat).toInt st a1 f1 e1 ∧ r = (a1 p.toInt.toNat).toInt)
/-- a ramble: the draw, where he is, how often he fell, when he was first where he goes -/
def rbS (tf fl tg : Int → Int → Int) (g : Int) (q : Int × Int × Int32 × Int) (k : Nat) : Int × Int × Int32 × Int := ((75 * q.1 + 74) % 65537, (if tf q.2.1 ((75 * q.1 + 74) % 65537 % 4) = -2 then q.2.1 else tg q.2.1 ((75 * q.1 + 74) % 65537 % 4)), (if tf q.2.1 ((75 * q.1 + 74) % 65537 % 4) = -2 then q.2.2.1 else q.2.2.1 + Int32.ofInt (fl q.2.1 ((75 * q.1 + 74) % 65537 % 4))), (if q.2.2.2 = -2 ∧ (if tf q.2.1 ((75 * q.1 + 74) % 65537 % 4) = -2 then q.2.1 else tg q.2.1 ((75 * q.1 + 74) % 65537 % 4)) = g then (k : Int) + 1 else q.2.2.2))
def rbN (tf fl tg : Int → Int → Int) (g sd c0 a0 : Int) : Nat → Int × Int × Int32 × Int
  | 0 => (sd, c0, 0, a0)
  | k + 1 => rbS tf fl tg g (rbN tf fl tg g sd c0 a0 k) k
theorem rbN_s {tf fl tg : Int → Int → Int} {g sd c0 a0 s c a : Int} {F : Int32} {k : Nat} (h : rbN tf fl tg g sd c0 a0 k = (s, c, F, a)) : rbN tf fl tg g sd c0 a0 (k + 1) = ((75 * s + 74) % 65537, (if tf c ((75 * s + 74) % 65537 % 4) = -2 then c else tg c ((75 * s + 74) % 65537 % 4)), (if tf c ((75 * s + 74) % 65537 % 4) = -2 then F else F + Int32.ofInt (fl c ((75 * s + 74) % 65537 % 4))), (if a = -2 ∧ (if tf c ((75 * s + 74) % 65537 % 4) = -2 then c else tg c ((75 * s + 74) % 65537 % 4)) = g then (k : Int) + 1 else a)) := by
  have e : rbN tf fl tg g sd c0 a0 (k + 1) = rbS tf fl tg g (rbN tf fl tg g sd c0 a0 k) k := rfl
  rw [e, h]
  rfl
/-- one more draw: s is drawn, t its step; the place, the falls behind it; a the arrival -/
theorem rbN_up {tf fl tg : Int → Int → Int} {g sd c0 a0 s c a s1 st c1 a1 k1 : Int} {F F1 : Int32} {k : Nat} (h : rbN tf fl tg g sd c0 a0 k = (s, c, F, a)) (e1 : s1 = (75 * s + 74) % 65537) (e2 : st = s1 % 4) (hc : (tf c st = -2 ∧ c1 = c ∧ F1 = F) ∨ (tf c st ≠ -2 ∧ c1 = tg c st ∧ F1 = F + Int32.ofInt (fl c st))) (ha : (a = -2 ∧ c1 = g ∧ a1 = k1) ∨ (¬ (a = -2 ∧ c1 = g) ∧ a1 = a)) (hk : k1 = (k : Int) + 1) : rbN tf fl tg g sd c0 a0 (k + 1) = (s1, c1, F1, a1) := by
  rw [rbN_s h, ← e1, ← e2]
  rcases hc with ⟨t1, t2, t3⟩ | ⟨t1, t2, t3⟩
  · rw [if_pos t1, if_pos t1, ← t2, t3]
    rcases ha with ⟨u1, u2, u3⟩ | ⟨u1, u2⟩
    · rw [if_pos ⟨u1, u2⟩, u3, hk]
    · rw [if_neg u1, u2]
  · rw [if_neg t1, if_neg t1, ← t2, ← t3]
    rcases ha with ⟨u1, u2, u3⟩ | ⟨u1, u2⟩
    · rw [if_pos ⟨u1, u2⟩, u3, hk]
    · rw [if_neg u1, u2]
def rbC (w n : Int) (f : Nat → Int32) (k g sd c0 m : Int) : Int × Int × Int32 × Int := rbN (tfZ w n f k) (flZ w n f k) (tgZ w n f) g sd c0 (if c0 = g then 0 else -2) m.toNat
/-- the class's ramble, behind m draws -/
def rwI (w n : Int) (f : Nat → Int32) (k g sd c0 m s a : Int) (p : Int32) (A fe fe0 : Nat → Int32) : Prop := ∃ F : Int32, rbC w n f k g sd c0 m = (s, (A p.toNatClampNeg).toInt, F, a) ∧ fe p.toNatClampNeg = fe0 p.toNatClampNeg + F
theorem rwI_0 {w n : Int} {f : Nat → Int32} {k g sd c0 m s a : Int} {p : Int32} {A fe fe0 : Nat → Int32} (hm : m = 0) (hs : s = sd) (hA : (A p.toNatClampNeg).toInt = c0) (ha : (c0 = g ∧ a = 0) ∨ (c0 ≠ g ∧ a = -2)) (hf : fe p.toNatClampNeg = fe0 p.toNatClampNeg) : rwI w n f k g sd c0 m s a p A fe fe0 := by
  subst hm hs
  refine ⟨0, ?_, ?_⟩
  · unfold rbC
    have e : rbN (tfZ w n f k) (flZ w n f k) (tgZ w n f) g s c0 (if c0 = g then 0 else -2) (Int.toNat 0) = (s, c0, 0, (if c0 = g then 0 else -2)) := rfl
    rw [e, hA]
    rcases ha with ⟨h1, h2⟩ | ⟨h1, h2⟩
    · rw [if_pos h1, h2]
    · rw [if_neg h1, h2]
  · rw [hf, Int32.add_zero]
theorem rwI_up {w n : Int} {f : Nat → Int32} {k g sd c0 m m1 s a s1 st a1 : Int} {p : Int32} {A fe we A1 fe1 we1 fe0 : Nat → Int32} (h : rwI w n f k g sd c0 m s a p A fe fe0) (h0 : 0 ≤ m) (e1 : s1 = (75 * s + 74) % 65537) (e2 : st = s1 % 4) (hg : goP w n f A fe we p k st A1 fe1 we1) (hb : tgZ w n f (A p.toNatClampNeg).toInt st = -1 ∨ (0 ≤ tgZ w n f (A p.toNatClampNeg).toInt st ∧ tgZ w n f (A p.toNatClampNeg).toInt st ≤ 19)) (ha : (a = -2 ∧ (A1 p.toNatClampNeg).toInt = g ∧ a1 = m1) ∨ (¬ (a = -2 ∧ (A1 p.toNatClampNeg).toInt = g) ∧ a1 = a)) (hm : m1 = m + 1) : rwI w n f k g sd c0 m1 s1 a1 p A1 fe1 fe0 := by
  obtain ⟨F, h1, h2⟩ := h
  unfold rbC at h1
  have hn : m1.toNat = m.toNat + 1 := by omega
  rcases hg with ⟨g1, g2, g3, g4⟩ | ⟨g1, g2, g3, g4⟩
  · subst g2 g3
    refine ⟨F, ?_, h2⟩
    unfold rbC
    rw [hn]
    exact rbN_up h1 e1 e2 (Or.inl ⟨g1, rfl, rfl⟩) ha (by omega)
  · refine ⟨F + Int32.ofInt (flZ w n f k (A p.toNatClampNeg).toInt st), ?_, ?_⟩
    · unfold rbC
      rw [hn]
      have hA : (A1 p.toNatClampNeg).toInt = tgZ w n f (A p.toNatClampNeg).toInt st := by
        rw [g2]
        unfold upd
        rw [if_pos rfl]
        exact Int32.toInt_ofInt_of_le (by omega) (by omega)
      exact rbN_up h1 e1 e2 (Or.inr ⟨g1, hA, rfl⟩) ha (by omega)
    · rw [g3]
      unfold upd
      rw [if_pos rfl, h2, Int32.add_assoc]
/-- the answers -/
def rmB (wk p sd n : Int) : Prop := p < 0 ∨ wk ≤ p ∨ sd < 0 ∨ 65536 < sd ∨ n < 0 ∨ 90 < n
/-- wander: what it says -/
def wnP (w n : Int) (f k g at_ fe : Nat → Int32) (p : Int32) (sd m r : Int) (A1 fe1 : Nat → Int32) : Prop := ∃ (s : Int) (F : Int32), rbC w n f (k p.toNatClampNeg).toInt (g p.toNatClampNeg).toInt sd (at_ p.toNatClampNeg).toInt m = (s, (A1 p.toNatClampNeg).toInt, F, r) ∧ fe1 p.toNatClampNeg = fe p.toNatClampNeg + F
theorem tgZ_bd {w n : Int} {f : Nat → Int32} {c st : Int} (hn : n ≤ 20) : tgZ w n f c st = -1 ∨ (0 ≤ tgZ w n f c st ∧ tgZ w n f c st ≤ 19) := by
  have key : ∀ t : Int, tg2 n f t = -1 ∨ (0 ≤ tg2 n f t ∧ tg2 n f t ≤ 19) := fun t => by
    unfold tg2
    split
    · exact Or.inl rfl
    · exact Or.inr (by omega)
  unfold tgZ
  split
  · exact Or.inl rfl
  · exact key _
theorem tgZ_f {w n : Int} {f g : Nat → Int32} (h : cpZ f g 20) (hn : n ≤ 20) : tgZ w n g = tgZ w n f := by
  funext c st
  unfold tgZ
  split
  · rfl
  · have key : ∀ t : Int, tg2 n g t = tg2 n f t := fun t => by
      unfold tg2
      by_cases q : t < 0 ∨ n ≤ t
      · rw [if_pos (by omega), if_pos (by omega)]
      · rw [h t.toNat (by omega)]
    exact key _
theorem tfZ_f {w n : Int} {f g : Nat → Int32} {k : Int} (h : cpZ f g 20) (hn : n ≤ 20) : tfZ w n g k = tfZ w n f k := by
  funext c st
  unfold tfZ
  rw [tgZ_f h hn]
  by_cases q : tgZ w n f c st = -1
  · rw [if_pos q, if_pos q]
  · have hb := tgZ_bd (w := w) (f := f) (c := c) (st := st) hn
    have hc : ¬ (c < 0 ∨ n ≤ c ∨ w ≤ 0) := fun z => q (by unfold tgZ; exact if_pos z)
    rw [h (tgZ w n f c st).toNat (by omega), h c.toNat (by omega)]
theorem flZ_f {w n : Int} {f g : Nat → Int32} {k : Int} (h : cpZ f g 20) (hn : n ≤ 20) : flZ w n g k = flZ w n f k := by
  funext c st
  unfold flZ
  rw [tgZ_f h hn]
  by_cases q : tgZ w n f c st = -1
  · rw [if_neg (fun z => z.1 q), if_neg (fun z => z.1 q)]
  · have hb := tgZ_bd (w := w) (f := f) (c := c) (st := st) hn
    rw [h (tgZ w n f c st).toNat (by omega)]
theorem wnP_of {nw nd nk tw td tn tk p : Int32} {ns na nf ng ts ta tf tg k g A fe : Nat → Int32} {kk gg sd m m' s a : Int} (hc : nwC nw nd ns na nf ng nk tw td tn ts ta tf tg tk) (h : rwI tw.toInt tn.toInt ts kk gg sd (ta p.toNatClampNeg).toInt m s a p A fe tf) (h0 : 0 ≤ p.toInt) (h3 : p.toInt ≤ 3) (hm : m = m') (hn : tn.toInt ≤ 20) (hk : (k p.toNatClampNeg).toInt = kk) (hg : (g p.toNatClampNeg).toInt = gg) : wnP nw.toInt (nw.toInt * nd.toInt) ns k g na nf p sd m' a A fe := by
  have n1 : p.toNatClampNeg = p.toInt.toNat := rfl
  obtain ⟨c1, c2, c3, c4, c5, c6, c7, c8⟩ := hc
  obtain ⟨F, h1, h2⟩ := h
  subst hm hk hg
  rw [c5 p.toNatClampNeg (by omega)] at h1
  rw [c6 p.toNatClampNeg (by omega)] at h2
  refine ⟨s, F, ?_, h2⟩
  unfold rbC at h1 ⊢
  rw [c1, c3] at h1
  rw [c3] at hn
  rw [tfZ_f c4 hn, flZ_f c4 hn, tgZ_f c4 hn] at h1
  exact h1
end
section
theorem sh0 (x : Int32) : x >>> ((0 : Int32) &&& 31) = x := by
  apply Int32.toBitVec_inj.mp
  show x.toBitVec.sshiftRight _ = _
  exact BitVec.sshiftRight_zero
section Str
variable {p : Program} {l : Launch} {e : Env} {R : Room} {s : State} {m : MethodId} {args : Array Value} {below : List Frame} {meth : Method} {c : Code} {H : Heap} {locs : List Loc} {cells slots : Nat} {Q : State → Prop}
variable {cc : ByteArray} {pc nL : Nat} {ls : Array Slot} {rest : List Value} {own : String} {dC : Nat → ClassId} {dI : Nat → Nat → Nat} {cy : Nat → ClassId} {ex ex0 : exT} {ws : va_W} {A : Nat → Prop} {a ci idx N : Nat} {C : String} {T : u_T} {fs : List Value} {ty0 : Nat → FieldType} {v : Value}
variable {y : MethodName} {bytes : ByteArray} {maxL n b : Nat} {ret : Option FieldType} {rm : Room} {Qc : (Nat → Prop) → Array Value → State → Outcome → State → Prop} {As st : List Value} {wc wr : va_W} {lv : List (Nat × Value)}
theorem X_pre2 (X : fx p s m c cc nL args own dC dI cy ex0 A) (hst : stb ex) (hxe : ex A s s.heap) (hS : va_S A s.heap H locs) (hF : ∀ q, va_A wc H.size q → A q) (hP : va_P (dC, dI) vwCl wc H) (hD : va_D A wc) {av : List Value} (U : State) (hU : U.heap = H) (hW : s.WarmedH U.vm) : va_Pc av (pS dC dI cy ex wc H.size) av.toArray U :=
  ⟨rfl, by rw [hU], by rw [hU]; exact hP, va_K.moved hW.alike X.2.2.2.2.2.1, hD.weaken (fun _ _ _ _ => trivial), X.2.2.2.2.2.2.1.warm hW, by rw [hU]; exact hst.1 A _ s U s.heap H hxe hW hS.2.1 hF⟩
/-- a call on an object that isn't of the world -/
theorem rVo (X : fx p s m c cc nL args own dC dI cy ex0 A) (hst : stb ex) (hxe : ex A s s.heap) (hM : ∀ sz, Met l y (.code y bytes maxL ret :: wsU) rm (va_Pc (.ref b :: As) (pS dC dI cy ex wc sz)) (Qc (va_A wc sz)) rm.cells rm.slots (va_A wc sz)) (km : mOK y bytes maxL ret n) (kv : Cond.instanceMethod y ∈ wsU ∧ Cond.selects y.cls y y ∈ wsU) (lk : mLk own idx y) (hP : va_P (dC, dI) vwCl ws H) (hD : va_D A ws) (hS : va_S A s.heap H locs) (hA : ∀ q, s.heap.size ≤ q → A q) (isC : List Nat) (hnd : va_nd isC = true) (hC : isC.map (fun i => ws[i]?) = wc.map some) (hO : va_O y.cls b A s s.heap) (hl : lv_has ls nL lv) (hn : As.length = n) (hst0 : st = As.reverse ++ .ref b :: rest) (hcat : (rest.map fun v => v.category).sum ≤ 8) (hdg : decode cc pc = .ok (.invokevirtual idx, 3))
    (hR : rm.frames + 1 ≤ R.frames ∧ 8 + (maxL + 11) + rm.locals ≤ R.locals) (hf : cells + rm.cells ≤ R.cells ∧ slots + rm.slots ≤ R.slots) :
    va_Run p l e R s m args below meth c H locs cells slots rm.cells rm.slots (F0 m pc ls st) rest (Qc (va_A wc H.size) (Value.ref b :: As).toArray) (va_A wc H.size) := by
  have hPc := hP.sub (ws' := wc) isC (fm_of hC)
  have hDc := hD.sub (ws' := wc) isC hnd hC
  have hFc := va_free (wc := wc) hD hS hA isC hC
  have hG : GoodIn wsU (Cond.code y bytes maxL ret :: wsU) := goodU km.1 (fun _ h => h)
  have hrec : ∃ cellB : Cell, H[b]? = some cellB ∧ cellB.vm.isStatics = false ∧ s.vm.findClass y.cls = some cellB.cls := by
    obtain ⟨cell, h1, h2, h3, -⟩ := hO.kept hS.2.1
    exact ⟨cell, h1, h2, h3⟩
  rcases lk with h | ⟨host, h⟩
  · exact va_runV (As := As) (rest := rest) ⟨X.1, X.2.1, X.2.2.1, X.2.2.2.1, X.2.2.2.2.1⟩ (hM H.size) ⟨callB_of n X.2.2.2.2.1 hG rfl rfl rfl (X.2.2.2.2.1 _ km.2.1) (X.2.2.2.2.1 _ h) km.2.2 hR, X.2.2.2.2.1 _ kv.1, X.2.2.2.2.1 _ kv.2⟩ ⟨pS.blind hst, hrec, fun U hU hW => X_pre2 X hst hxe hS hFc hPc hDc U hU hW⟩ rfl hn hl.1 hst0 (lv_room hcat) hdg hf
  · exact va_runVN (As := As) (rest := rest) ⟨X.1, X.2.1, X.2.2.1, X.2.2.2.1, X.2.2.2.2.1⟩ (hM H.size) ⟨va_cnB n X.2.2.2.2.1 hG rfl rfl rfl (X.2.2.2.2.2.2.1.1 _ h) (X.2.2.2.2.1 _ km.2.1) km.2.2 hR, X.2.2.2.2.1 _ kv.1, X.2.2.2.2.1 _ kv.2⟩ ⟨pS.blind hst, hrec, fun U hU hW => X_pre2 X hst hxe hS hFc hPc hDc U hU hW⟩ rfl hn hl.1 hst0 (lv_room hcat) hdg hf
theorem rVo_I {S : Type} {post : Int32 → S → Prop} {w1 : S → va_W} {rt : FieldType} (X : fx p s m c cc nL args own dC dI cy ex0 A) (hst : stb ex) (hxe : ex A s s.heap) (hM : ctI l dC dI cy ex y bytes maxL rt rm (.ref b :: As) wc post w1) (km : mOK y bytes maxL (some rt) n) (kv : Cond.instanceMethod y ∈ wsU ∧ Cond.selects y.cls y y ∈ wsU) (lk : mLk own idx y) (hP : va_P (dC, dI) vwCl ws H) (hD : va_D A ws) (hS : va_S A s.heap H locs) (hA : ∀ q, s.heap.size ≤ q → A q) (isC : List Nat) (hnd : va_nd isC = true) (hC : isC.map (fun i => ws[i]?) = wc.map some) (hO : va_O y.cls b A s s.heap) (hl : lv_has ls nL lv) (hn : As.length = n) (hst0 : st = As.reverse ++ .ref b :: rest) (hcat : (rest.map fun v => v.category).sum ≤ 8) (hdg : decode cc pc = .ok (.invokevirtual idx, 3))
    (hR : rm.frames + 1 ≤ R.frames ∧ 8 + (maxL + 11) + rm.locals ≤ R.locals) (hf : cells + rm.cells ≤ R.cells ∧ slots + rm.slots ≤ R.slots) :
    va_Run p l e R s m args below meth c H locs cells slots rm.cells rm.slots (F0 m pc ls st) rest (va_Qi post (qS dC dI (va_A wc H.size) w1) (va_A wc H.size) (Value.ref b :: As).toArray) (va_A wc H.size) :=
  rVo (Qc := fun A => va_Qi post (qS dC dI A w1) A) X hst hxe hM km kv lk hP hD hS hA isC hnd hC hO hl hn hst0 hcat hdg hR hf
theorem rVe (X : fx p s m c cc nL args own dC dI cy ex0 A) (hst : stb ex) (hxe : ex A s s.heap) (hM : ∀ sz, Met l y (.code y bytes maxL ret :: wsU) rm (va_Pc (.ref b :: As) (pS dC dI cy ex wc sz)) (Qc (va_A wc sz)) rm.cells rm.slots (va_A wc sz)) (km : mOK y bytes maxL ret n) (kv : Cond.instanceMethod y ∈ wsU ∧ Cond.selects y.cls y y ∈ wsU) (lk : mLk own idx y) (hP : va_P (dC, dI) vwCl ws H) (hD : va_D A ws) (hS : va_S A s.heap H locs) (hA : ∀ q, s.heap.size ≤ q → A q) (isC : List Nat) (hnd : va_nd isC = true) (hC : isC.map (fun i => ws[i]?) = wc.map some) (q0 : Nat) {q : vw_C} (hq : wc[q0]? = some (b, .inr (ci, fs))) (hc : vwCl[ci]? = some q) (hq1 : q.1 = y.cls) (hl : lv_has ls nL lv) (hn : As.length = n) (hst0 : st = As.reverse ++ .ref b :: rest) (hcat : (rest.map fun v => v.category).sum ≤ 8) (hdg : decode cc pc = .ok (.invokevirtual idx, 3))
    (hR : rm.frames + 1 ≤ R.frames ∧ 8 + (maxL + 11) + rm.locals ≤ R.locals) (hf : cells + rm.cells ≤ R.cells ∧ slots + rm.slots ≤ R.slots) :
    va_Run p l e R s m args below meth c H locs cells slots rm.cells rm.slots (F0 m pc ls st) rest (Qc (va_A wc H.size) (Value.ref b :: As).toArray) (va_A wc H.size) := by
  have hPc := hP.sub (ws' := wc) isC (fm_of hC)
  have hDc := hD.sub (ws' := wc) isC hnd hC
  have hFc := va_free (wc := wc) hD hS hA isC hC
  have hG : GoodIn wsU (Cond.code y bytes maxL ret :: wsU) := goodU km.1 (fun _ h => h)
  have hrec := va_recv (s := s) X.2.2.2.2.2.1 hPc hc hq
  rw [hq1] at hrec
  rcases lk with h | ⟨host, h⟩
  · exact va_runV (As := As) (rest := rest) ⟨X.1, X.2.1, X.2.2.1, X.2.2.2.1, X.2.2.2.2.1⟩ (hM H.size) ⟨callB_of n X.2.2.2.2.1 hG rfl rfl rfl (X.2.2.2.2.1 _ km.2.1) (X.2.2.2.2.1 _ h) km.2.2 hR, X.2.2.2.2.1 _ kv.1, X.2.2.2.2.1 _ kv.2⟩ ⟨pS.blind hst, hrec, fun U hU hW => X_pre2 X hst hxe hS hFc hPc hDc U hU hW⟩ rfl hn hl.1 hst0 (lv_room hcat) hdg hf
  · exact va_runVN (As := As) (rest := rest) ⟨X.1, X.2.1, X.2.2.1, X.2.2.2.1, X.2.2.2.2.1⟩ (hM H.size) ⟨va_cnB n X.2.2.2.2.1 hG rfl rfl rfl (X.2.2.2.2.2.2.1.1 _ h) (X.2.2.2.2.1 _ km.2.1) km.2.2 hR, X.2.2.2.2.1 _ kv.1, X.2.2.2.2.1 _ kv.2⟩ ⟨pS.blind hst, hrec, fun U hU hW => X_pre2 X hst hxe hS hFc hPc hDc U hU hW⟩ rfl hn hl.1 hst0 (lv_room hcat) hdg hf
theorem rVe_I {S : Type} {post : Int32 → S → Prop} {w1 : S → va_W} {rt : FieldType} (X : fx p s m c cc nL args own dC dI cy ex0 A) (hst : stb ex) (hxe : ex A s s.heap) (hM : ctI l dC dI cy ex y bytes maxL rt rm (.ref b :: As) wc post w1) (km : mOK y bytes maxL (some rt) n) (kv : Cond.instanceMethod y ∈ wsU ∧ Cond.selects y.cls y y ∈ wsU) (lk : mLk own idx y) (hP : va_P (dC, dI) vwCl ws H) (hD : va_D A ws) (hS : va_S A s.heap H locs) (hA : ∀ q, s.heap.size ≤ q → A q) (isC : List Nat) (hnd : va_nd isC = true) (hC : isC.map (fun i => ws[i]?) = wc.map some) (q0 : Nat) {q : vw_C} (hq : wc[q0]? = some (b, .inr (ci, fs))) (hc : vwCl[ci]? = some q) (hq1 : q.1 = y.cls) (hl : lv_has ls nL lv) (hn : As.length = n) (hst0 : st = As.reverse ++ .ref b :: rest) (hcat : (rest.map fun v => v.category).sum ≤ 8) (hdg : decode cc pc = .ok (.invokevirtual idx, 3))
    (hR : rm.frames + 1 ≤ R.frames ∧ 8 + (maxL + 11) + rm.locals ≤ R.locals) (hf : cells + rm.cells ≤ R.cells ∧ slots + rm.slots ≤ R.slots) :
    va_Run p l e R s m args below meth c H locs cells slots rm.cells rm.slots (F0 m pc ls st) rest (va_Qi post (qS dC dI (va_A wc H.size) w1) (va_A wc H.size) (Value.ref b :: As).toArray) (va_A wc H.size) :=
  rVe (Qc := fun A => va_Qi post (qS dC dI A w1) A) X hst hxe hM km kv lk hP hD hS hA isC hnd hC q0 hq hc hq1 hl hn hst0 hcat hdg hR hf
end Str
set_option maxHeartbeats 4000000 in
set_option maxRecDepth 100000 in
theorem sJ0_coder (l : Launch) (dC : Nat → ClassId) (dI : Nat → Nat → Nat) (cy : Nat → ClassId) (sa : Nat) (sv : Nat) (sn : Nat) (sf : Nat → Int32) : ctI l dC dI cy (andX hp (sO sa sv sn sf)) yJ0_coder_7d493 cJ0_coder_7d493 1 .byte ({ frames := 0, cells := 0, slots := 0, locals := 0 } : Room) [.ref sa] [] (S := Unit) (fun r _ => (r = 0)) (fun _ => []) := by
  refine ctI.of (by decide +kernel) (Nat.le_of_ble_eq_true rfl) ?_
  intro p e s m args below meth c A ls Q hQ X hr hlocks hin hA hP hD hS hl
  have hx := X.1
  have hb := X.2.1
  have hK := X.2.2.2.2.2.1
  have hl : lv_has ls 1 [(0, .ref sa)] := hl
  refine va_gets hx hb X.2.2.2.2.2.2.2.1.2.1 hS X.2.2.2.1 (X.2.2.2.2.1 _ w_565) (fun _ h9 => h9) dJ0_coder_7d493_0 ?_
  refine lv_if_eq (tgt := 13) hx hb dJ0_coder_7d493_3 (by decide) (fun h_1 => absurd h_1 (by decide)) (fun _ => ?_)
  refine lv_aload_n hx hb dJ0_coder_7d493_6 rfl (lv_at hl 0 rfl) ?_
  refine vk_getf hx hb X.2.2.2.2.2.2.2.2.2.1 hS X.2.2.2.1 (X.2.2.2.2.1 _ w_2044) (fun _ h9 => h9) dJ0_coder_7d493_7 ?_
  refine lv_goto (tgt := 14) hx hb dJ0_coder_7d493_10 (by decide) ?_
  exact eI hQ X hr hlocks hP hD hS () [] (by decide) rfl rfl (show ((0 : Int32) = 0) from rfl) (Nat.le_of_ble_eq_true rfl) (Nat.le_of_ble_eq_true rfl) dJ0_coder_7d493_14
set_option maxHeartbeats 4000000 in
set_option maxRecDepth 100000 in
theorem sJ0_isLatin1 (l : Launch) (dC : Nat → ClassId) (dI : Nat → Nat → Nat) (cy : Nat → ClassId) (sa : Nat) (sv : Nat) (sn : Nat) (sf : Nat → Int32) : ctI l dC dI cy (andX hp (sO sa sv sn sf)) yJ0_isLatin1_aae02 cJ0_isLatin1_aae02 1 .boolean ({ frames := 0, cells := 0, slots := 0, locals := 0 } : Room) [.ref sa] [] (S := Unit) (fun r _ => (r = 1)) (fun _ => []) := by
  refine ctI.of (by decide +kernel) (Nat.le_of_ble_eq_true rfl) ?_
  intro p e s m args below meth c A ls Q hQ X hr hlocks hin hA hP hD hS hl
  have hx := X.1
  have hb := X.2.1
  have hK := X.2.2.2.2.2.1
  have hl : lv_has ls 1 [(0, .ref sa)] := hl
  refine va_gets hx hb X.2.2.2.2.2.2.2.1.2.1 hS X.2.2.2.1 (X.2.2.2.2.1 _ w_565) (fun _ h9 => h9) dJ0_isLatin1_aae02_0 ?_
  refine lv_if_eq (tgt := 17) hx hb dJ0_isLatin1_aae02_3 (by decide) (fun h_1 => absurd h_1 (by decide)) (fun _ => ?_)
  refine lv_aload_n hx hb dJ0_isLatin1_aae02_6 rfl (lv_at hl 0 rfl) ?_
  refine vk_getf hx hb X.2.2.2.2.2.2.2.2.2.1 hS X.2.2.2.1 (X.2.2.2.2.1 _ w_2044) (fun _ h9 => h9) dJ0_isLatin1_aae02_7 ?_
  refine lv_if_ne (tgt := 17) hx hb dJ0_isLatin1_aae02_10 (by decide) (fun h_2 => absurd (by decide) h_2) (fun _ => ?_)
  refine lv_iconst (v := 1) hx hb dJ0_isLatin1_aae02_13 (by decide) ?_
  refine lv_goto (tgt := 18) hx hb dJ0_isLatin1_aae02_14 (by decide) ?_
  exact eI hQ X hr hlocks hP hD hS () [] (by decide) rfl rfl (show ((1 : Int32) = 1) from rfl) (Nat.le_of_ble_eq_true rfl) (Nat.le_of_ble_eq_true rfl) dJ0_isLatin1_aae02_18
set_option maxHeartbeats 4000000 in
set_option maxRecDepth 100000 in
theorem sJ0_length (l : Launch) (dC : Nat → ClassId) (dI : Nat → Nat → Nat) (cy : Nat → ClassId) (sa : Nat) (sv : Nat) (sn : Nat) (sf : Nat → Int32) (hsn : sn < 1000) : ctI l dC dI cy (andX hp (sO sa sv sn sf)) yJ0_length_8abf5 cJ0_length_8abf5 1 .int ({ frames := 1, cells := 0, slots := 0, locals := 20 } : Room) [.ref sa] [] (S := Unit) (fun r _ => (0 ≤ r.toInt ∧ r.toInt ≤ 1000) ∧ (r.toInt = (sn : Int))) (fun _ => []) := by
  refine ctI.of (by decide +kernel) (Nat.le_of_ble_eq_true rfl) ?_
  intro p e s m args below meth c A ls Q hQ X hr hlocks hin hA hP hD hS hl
  have hx := X.1
  have hb := X.2.1
  have hK := X.2.2.2.2.2.1
  have hl : lv_has ls 1 [(0, .ref sa)] := hl
  refine lv_aload_n hx hb dJ0_length_8abf5_0 rfl (lv_at hl 0 rfl) ?_
  refine vk_getf hx hb X.2.2.2.2.2.2.2.2.2.2.1 hS X.2.2.2.1 (X.2.2.2.2.1 _ w_2043) (fun _ h9 => h9) dJ0_length_8abf5_1 ?_
  obtain ⟨x_1, ex_1⟩ : ∃ y : Int32, Int32.ofNat sn = y := ⟨_, rfl⟩
  have tx_1 : x_1.toInt = (sn : Int) := by rw [← ex_1]; exact Int32.toInt_ofNat_of_lt (by omega)
  refine va_tlen hx hb X.2.2.2.2.2.2.2.2.2.2.2 hS ex_1 dJ0_length_8abf5_4 ?_
  refine lv_aload_n hx hb dJ0_length_8abf5_5 rfl (lv_at hl 0 rfl) ?_
  refine sl_Ic (rVo_I (wc := []) (As := []) (rest := [.int x_1]) X (andX_st hp_st (sO_st sa sv sn sf)) X.2.2.2.2.2.2.2 (sJ0_coder l dC dI cy sa _ _ _) kJ0_coder_7d493 vJ0_coder_7d493 mJ0_335 hP hD hS hA [] rfl rfl X.2.2.2.2.2.2.2.2.1 hl rfl rfl (Nat.le_of_ble_eq_true rfl) dJ0_length_8abf5_6 ⟨(Nat.le_of_ble_eq_true rfl), (Nat.le_of_ble_eq_true rfl)⟩ ⟨(Nat.le_of_ble_eq_true rfl), (Nat.le_of_ble_eq_true rfl)⟩) hP hD hS hA [] [] rfl rfl rfl (fun r_2 u_4 H locs k_3 hP hD hS => ?_)
  have k_3 : (r_2 = 0) := k_3
  have hPD := vPD (ws' := []) hP hD rfl
  have hP := hPD.1
  have hD := hPD.2
  have er_2 : r_2 = 0 := k_3
  subst er_2
  refine lv_ishr hx hb dJ0_length_8abf5_9 ?_
  refine lv_topi (fun x_5 ex_5 => ?_)
  have qx_5 : x_1 = x_5 := by rw [ex_5]; exact (sh0 _).symm
  subst qx_5
  exact eI hQ X hr hlocks hP hD hS () [] (by decide) rfl rfl (show (0 ≤ x_1.toInt ∧ x_1.toInt ≤ 1000) ∧ (x_1.toInt = (sn : Int)) from ⟨(by omega), (by omega)⟩) (Nat.le_of_ble_eq_true rfl) (Nat.le_of_ble_eq_true rfl) dJ0_length_8abf5_10
set_option maxHeartbeats 4000000 in
set_option maxRecDepth 100000 in
theorem sJ3_checkIndex_n (l : Launch) (dC : Nat → ClassId) (dI : Nat → Nat → Nat) (cy : Nat → ClassId) (p1 : Int32) (p2 : Int32) (hp1 : 0 ≤ p1.toInt ∧ p1.toInt < p2.toInt) : ctI l dC dI cy hp yJ3_checkIndex_8e157 cJ3_checkIndex_8e157 3 .int ({ frames := 0, cells := 0, slots := 0, locals := 0 } : Room) [.int p1, .int p2, .null] [] (S := Unit) (fun r _ => True) (fun _ => []) := by
  refine ctI.of (by decide +kernel) (Nat.le_of_ble_eq_true rfl) ?_
  intro p e s m args below meth c A ls Q hQ X hr hlocks hin hA hP hD hS hl
  have hx := X.1
  have hb := X.2.1
  have hK := X.2.2.2.2.2.1
  have hl : lv_has ls 3 [(0, .int p1), (1, .int p2), (2, .null)] := hl
  have dy_1 := ti_bd p1
  have dy_2 := ti_bd p2
  refine lv_iload_n hx hb dJ3_checkIndex_8e157_0 rfl (lv_at hl 0 rfl) ?_
  refine lv_if_lt (tgt := 9) hx hb dJ3_checkIndex_8e157_1 (by decide) (fun h_3 => ?_) (fun h_3 => ?_)
  · have h_3 : p1.toInt < 0 := c_lt h_3
    exfalso
    omega
  · have h_3 : 0 ≤ p1.toInt := c_nlt h_3
    refine lv_iload_n hx hb dJ3_checkIndex_8e157_4 rfl (lv_at hl 0 rfl) ?_
    refine lv_iload_n hx hb dJ3_checkIndex_8e157_5 rfl (lv_at hl 1 rfl) ?_
    refine lv_icmp_lt (tgt := 16) hx hb dJ3_checkIndex_8e157_6 (by decide) (fun h_4 => ?_) (fun h_4 => ?_)
    · have h_4 : p1.toInt < p2.toInt := c_lt h_4
      refine lv_iload_n hx hb dJ3_checkIndex_8e157_16 rfl (lv_at hl 0 rfl) ?_
      exact eI hQ X hr hlocks hP hD hS () [] (by decide) rfl rfl trivial (Nat.le_of_ble_eq_true rfl) (Nat.le_of_ble_eq_true rfl) dJ3_checkIndex_8e157_17
    · have h_4 : p2.toInt ≤ p1.toInt := c_nlt h_4
      exfalso
      omega
set_option maxHeartbeats 4000000 in
set_option maxRecDepth 100000 in
theorem sJ3_checkIndex_r (l : Launch) (dC : Nat → ClassId) (dI : Nat → Nat → Nat) (cy : Nat → ClassId) (p1 : Int32) (p2 : Int32) (p3 : Nat) (hp1 : 0 ≤ p1.toInt ∧ p1.toInt < p2.toInt) : ctI l dC dI cy hp yJ3_checkIndex_8e157 cJ3_checkIndex_8e157 3 .int ({ frames := 0, cells := 0, slots := 0, locals := 0 } : Room) [.int p1, .int p2, .ref p3] [] (S := Unit) (fun r _ => True) (fun _ => []) := by
  refine ctI.of (by decide +kernel) (Nat.le_of_ble_eq_true rfl) ?_
  intro p e s m args below meth c A ls Q hQ X hr hlocks hin hA hP hD hS hl
  have hx := X.1
  have hb := X.2.1
  have hK := X.2.2.2.2.2.1
  have hl : lv_has ls 3 [(0, .int p1), (1, .int p2), (2, .ref p3)] := hl
  have dy_1 := ti_bd p1
  have dy_2 := ti_bd p2
  refine lv_iload_n hx hb dJ3_checkIndex_8e157_0 rfl (lv_at hl 0 rfl) ?_
  refine lv_if_lt (tgt := 9) hx hb dJ3_checkIndex_8e157_1 (by decide) (fun h_3 => ?_) (fun h_3 => ?_)
  · have h_3 : p1.toInt < 0 := c_lt h_3
    exfalso
    omega
  · have h_3 : 0 ≤ p1.toInt := c_nlt h_3
    refine lv_iload_n hx hb dJ3_checkIndex_8e157_4 rfl (lv_at hl 0 rfl) ?_
    refine lv_iload_n hx hb dJ3_checkIndex_8e157_5 rfl (lv_at hl 1 rfl) ?_
    refine lv_icmp_lt (tgt := 16) hx hb dJ3_checkIndex_8e157_6 (by decide) (fun h_4 => ?_) (fun h_4 => ?_)
    · have h_4 : p1.toInt < p2.toInt := c_lt h_4
      refine lv_iload_n hx hb dJ3_checkIndex_8e157_16 rfl (lv_at hl 0 rfl) ?_
      exact eI hQ X hr hlocks hP hD hS () [] (by decide) rfl rfl trivial (Nat.le_of_ble_eq_true rfl) (Nat.le_of_ble_eq_true rfl) dJ3_checkIndex_8e157_17
    · have h_4 : p2.toInt ≤ p1.toInt := c_nlt h_4
      exfalso
      omega
set_option maxHeartbeats 4000000 in
set_option maxRecDepth 100000 in
theorem sJ0_checkIndex (l : Launch) (dC : Nat → ClassId) (dI : Nat → Nat → Nat) (cy : Nat → ClassId) (p1 : Int32) (p2 : Int32) (hp1 : 0 ≤ p1.toInt ∧ p1.toInt < p2.toInt) : ctV l dC dI cy hp yJ0_checkIndex_df160 cJ0_checkIndex_df160 2 ({ frames := 1, cells := 0, slots := 0, locals := 22 } : Room) [.int p1, .int p2] [] (S := Unit) (fun _ => True) (fun _ => []) := by
  refine ctV.of (by decide +kernel) (Nat.le_of_ble_eq_true rfl) ?_
  intro p e s m args below meth c A ls Q hQ X hr hlocks hin hA hP hD hS hl
  have hx := X.1
  have hb := X.2.1
  have hK := X.2.2.2.2.2.1
  have hl : lv_has ls 2 [(0, .int p1), (1, .int p2)] := hl
  have dy_1 := ti_bd p1
  have dy_2 := ti_bd p2
  refine lv_iload_n hx hb dJ0_checkIndex_df160_0 rfl (lv_at hl 0 rfl) ?_
  refine lv_iload_n hx hb dJ0_checkIndex_df160_1 rfl (lv_at hl 1 rfl) ?_
  rcases X.2.2.2.2.2.2.2.2.2.1 with hz | ⟨q_3, hz⟩
  · refine va_gets hx hb hz hS X.2.2.2.1 (X.2.2.2.2.1 _ w_581) (fun _ h9 => h9) dJ0_checkIndex_df160_2 ?_
    refine sl_Ic (rS_I (As := [.int p1, .int p2, .null]) (rest := []) X hp_st (fun _ _ _ h => h) (sJ3_checkIndex_n l dC dI cy p1 p2 hp1) kJ3_checkIndex_8e157 w_584 mJ0_1059 hP hD hS hA [] (by decide) rfl hl rfl rfl (Nat.le_of_ble_eq_true rfl) dJ0_checkIndex_df160_5 ⟨(Nat.le_of_ble_eq_true rfl), (Nat.le_of_ble_eq_true rfl)⟩ ⟨(Nat.le_of_ble_eq_true rfl), (Nat.le_of_ble_eq_true rfl)⟩) hP hD hS hA [] [] rfl rfl rfl (fun r_4 u_6 H locs k_5 hP hD hS => ?_)
    have hPD := vPD (ws' := []) hP hD rfl
    have hP := hPD.1
    have hD := hPD.2
    refine lv_pop hx hb dJ0_checkIndex_df160_8 rfl ?_
    exact eV hQ X hr hlocks hP hD hS () [] (by decide) rfl trivial (Nat.le_of_ble_eq_true rfl) (Nat.le_of_ble_eq_true rfl) dJ0_checkIndex_df160_9
  · refine va_gets hx hb hz hS X.2.2.2.1 (X.2.2.2.2.1 _ w_581) (fun _ h9 => h9) dJ0_checkIndex_df160_2 ?_
    refine sl_Ic (rS_I (As := [.int p1, .int p2, .ref q_3]) (rest := []) X hp_st (fun _ _ _ h => h) (sJ3_checkIndex_r l dC dI cy p1 p2 q_3 hp1) kJ3_checkIndex_8e157 w_584 mJ0_1059 hP hD hS hA [] (by decide) rfl hl rfl rfl (Nat.le_of_ble_eq_true rfl) dJ0_checkIndex_df160_5 ⟨(Nat.le_of_ble_eq_true rfl), (Nat.le_of_ble_eq_true rfl)⟩ ⟨(Nat.le_of_ble_eq_true rfl), (Nat.le_of_ble_eq_true rfl)⟩) hP hD hS hA [] [] rfl rfl rfl (fun r_7 u_9 H locs k_8 hP hD hS => ?_)
    have hPD := vPD (ws' := []) hP hD rfl
    have hP := hPD.1
    have hD := hPD.2
    refine lv_pop hx hb dJ0_checkIndex_df160_8 rfl ?_
    exact eV hQ X hr hlocks hP hD hS () [] (by decide) rfl trivial (Nat.le_of_ble_eq_true rfl) (Nat.le_of_ble_eq_true rfl) dJ0_checkIndex_df160_9
end
