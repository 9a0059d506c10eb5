theorem dzbX13_readWalk_173 : dzB cX13_readWalk 173 [84, 42, 180, 0, 154, 89, 180, 0, 245, 4, 96, 181, 0, 245, 177] := by decide +kernel
theorem dX13_readWalk_173 : decode cX13_readWalk 173 = .ok (.bastore, 1) := dz0 dzo84 0 dzbX13_readWalk_173 rfl
theorem dX13_readWalk_174 : decode cX13_readWalk 174 = .ok (.aload_n 0, 1) := dz0 dzo42 1 dzbX13_readWalk_173 rfl
theorem dX13_readWalk_175 : decode cX13_readWalk 175 = .ok (.getfield 154, 3) := dz2 dzo180 2 0 154 dzbX13_readWalk_173 rfl
theorem dX13_readWalk_178 : decode cX13_readWalk 178 = .ok (.dup, 1) := dz0 dzo89 5 dzbX13_readWalk_173 rfl
theorem dX13_readWalk_179 : decode cX13_readWalk 179 = .ok (.getfield 245, 3) := dz2 dzo180 6 0 245 dzbX13_readWalk_173 rfl
theorem dX13_readWalk_182 : decode cX13_readWalk 182 = .ok (.iconst 1, 1) := dz0 dzo4 9 dzbX13_readWalk_173 rfl
theorem dX13_readWalk_183 : decode cX13_readWalk 183 = .ok (.iadd, 1) := dz0 dzo96 10 dzbX13_readWalk_173 rfl
theorem dX13_readWalk_184 : decode cX13_readWalk 184 = .ok (.putfield 245, 3) := dz2 dzo181 11 0 245 dzbX13_readWalk_173 rfl
theorem dX13_readWalk_187 : decode cX13_readWalk 187 = .ok (.return_, 1) := dz0 dzo177 14 dzbX13_readWalk_173 rfl
theorem dzbX13_readWalker_0 : dzB cX13_readWalker 0 [42, 42, 180, 0, 154, 180, 0, 206, 7, 182, 0, 209, 42, 182, 0, 213, 154, 0, 8, 42, 4, 182, 0, 120] := by decide +kernel
theorem dX13_readWalker_0 : decode cX13_readWalker 0 = .ok (.aload_n 0, 1) := dz0 dzo42 0 dzbX13_readWalker_0 rfl
theorem dX13_readWalker_1 : decode cX13_readWalker 1 = .ok (.aload_n 0, 1) := dz0 dzo42 1 dzbX13_readWalker_0 rfl
theorem dX13_readWalker_2 : decode cX13_readWalker 2 = .ok (.getfield 154, 3) := dz2 dzo180 2 0 154 dzbX13_readWalker_0 rfl
theorem dX13_readWalker_5 : decode cX13_readWalker 5 = .ok (.getfield 206, 3) := dz2 dzo180 5 0 206 dzbX13_readWalker_0 rfl
theorem dX13_readWalker_8 : decode cX13_readWalker 8 = .ok (.iconst 4, 1) := dz0 dzo7 8 dzbX13_readWalker_0 rfl
theorem dX13_readWalker_9 : decode cX13_readWalker 9 = .ok (.invokevirtual 209, 3) := dz2 dzo182 9 0 209 dzbX13_readWalker_0 rfl
theorem dX13_readWalker_12 : decode cX13_readWalker 12 = .ok (.aload_n 0, 1) := dz0 dzo42 12 dzbX13_readWalker_0 rfl
theorem dX13_readWalker_13 : decode cX13_readWalker 13 = .ok (.invokevirtual 213, 3) := dz2 dzo182 13 0 213 dzbX13_readWalker_0 rfl
theorem dX13_readWalker_16 : decode cX13_readWalker 16 = .ok (.ifCond .ne 8, 3) := dz4 dzo154 16 0 8 8 rfl dzbX13_readWalker_0 rfl
theorem dX13_readWalker_19 : decode cX13_readWalker 19 = .ok (.aload_n 0, 1) := dz0 dzo42 19 dzbX13_readWalker_0 rfl
theorem dX13_readWalker_20 : decode cX13_readWalker 20 = .ok (.iconst 1, 1) := dz0 dzo4 20 dzbX13_readWalker_0 rfl
theorem dX13_readWalker_21 : decode cX13_readWalker 21 = .ok (.invokevirtual 120, 3) := dz2 dzo182 21 0 120 dzbX13_readWalker_0 rfl
theorem dzbX13_readWalker_24 : dzB cX13_readWalker 24 [42, 180, 0, 154, 42, 180, 0, 90, 182, 0, 216, 153, 0, 8, 42, 6, 182, 0, 120, 42, 180, 0, 90, 64] := by decide +kernel
theorem dX13_readWalker_24 : decode cX13_readWalker 24 = .ok (.aload_n 0, 1) := dz0 dzo42 0 dzbX13_readWalker_24 rfl
theorem dX13_readWalker_25 : decode cX13_readWalker 25 = .ok (.getfield 154, 3) := dz2 dzo180 1 0 154 dzbX13_readWalker_24 rfl
theorem dX13_readWalker_28 : decode cX13_readWalker 28 = .ok (.aload_n 0, 1) := dz0 dzo42 4 dzbX13_readWalker_24 rfl
theorem dX13_readWalker_29 : decode cX13_readWalker 29 = .ok (.getfield 90, 3) := dz2 dzo180 5 0 90 dzbX13_readWalker_24 rfl
theorem dX13_readWalker_32 : decode cX13_readWalker 32 = .ok (.invokevirtual 216, 3) := dz2 dzo182 8 0 216 dzbX13_readWalker_24 rfl
theorem dX13_readWalker_35 : decode cX13_readWalker 35 = .ok (.ifCond .eq 8, 3) := dz4 dzo153 11 0 8 8 rfl dzbX13_readWalker_24 rfl
theorem dX13_readWalker_38 : decode cX13_readWalker 38 = .ok (.aload_n 0, 1) := dz0 dzo42 14 dzbX13_readWalker_24 rfl
theorem dX13_readWalker_39 : decode cX13_readWalker 39 = .ok (.iconst 3, 1) := dz0 dzo6 15 dzbX13_readWalker_24 rfl
theorem dX13_readWalker_40 : decode cX13_readWalker 40 = .ok (.invokevirtual 120, 3) := dz2 dzo182 16 0 120 dzbX13_readWalker_24 rfl
theorem dX13_readWalker_43 : decode cX13_readWalker 43 = .ok (.aload_n 0, 1) := dz0 dzo42 19 dzbX13_readWalker_24 rfl
theorem dX13_readWalker_44 : decode cX13_readWalker 44 = .ok (.getfield 90, 3) := dz2 dzo180 20 0 90 dzbX13_readWalker_24 rfl
theorem dX13_readWalker_47 : decode cX13_readWalker 47 = .ok (.lstore_n 1, 1) := dz0 dzo64 23 dzbX13_readWalker_24 rfl
theorem dzbX13_readWalker_48 : dzB cX13_readWalker 48 [42, 182, 0, 113, 42, 18, 219, 182, 0, 116, 153, 0, 7, 3, 167, 0, 43, 42, 18, 221, 182, 0, 116] := by decide +kernel
theorem dX13_readWalker_48 : decode cX13_readWalker 48 = .ok (.aload_n 0, 1) := dz0 dzo42 0 dzbX13_readWalker_48 rfl
theorem dX13_readWalker_49 : decode cX13_readWalker 49 = .ok (.invokevirtual 113, 3) := dz2 dzo182 1 0 113 dzbX13_readWalker_48 rfl
theorem dX13_readWalker_52 : decode cX13_readWalker 52 = .ok (.aload_n 0, 1) := dz0 dzo42 4 dzbX13_readWalker_48 rfl
theorem dX13_readWalker_53 : decode cX13_readWalker 53 = .ok (.ldc 219, 2) := dz1 dzo18 5 219 dzbX13_readWalker_48 rfl
theorem dX13_readWalker_55 : decode cX13_readWalker 55 = .ok (.invokevirtual 116, 3) := dz2 dzo182 7 0 116 dzbX13_readWalker_48 rfl
theorem dX13_readWalker_58 : decode cX13_readWalker 58 = .ok (.ifCond .eq 7, 3) := dz4 dzo153 10 0 7 7 rfl dzbX13_readWalker_48 rfl
theorem dX13_readWalker_61 : decode cX13_readWalker 61 = .ok (.iconst 0, 1) := dz0 dzo3 13 dzbX13_readWalker_48 rfl
theorem dX13_readWalker_62 : decode cX13_readWalker 62 = .ok (.goto 43, 3) := dz4 dzo167 14 0 43 43 rfl dzbX13_readWalker_48 rfl
theorem dX13_readWalker_65 : decode cX13_readWalker 65 = .ok (.aload_n 0, 1) := dz0 dzo42 17 dzbX13_readWalker_48 rfl
theorem dX13_readWalker_66 : decode cX13_readWalker 66 = .ok (.ldc 221, 2) := dz1 dzo18 18 221 dzbX13_readWalker_48 rfl
theorem dX13_readWalker_68 : decode cX13_readWalker 68 = .ok (.invokevirtual 116, 3) := dz2 dzo182 20 0 116 dzbX13_readWalker_48 rfl
theorem dzbX13_readWalker_71 : dzB cX13_readWalker 71 [153, 0, 7, 4, 167, 0, 30, 42, 18, 223, 182, 0, 116, 153, 0, 7, 5, 167, 0, 17, 42, 18, 225] := by decide +kernel
theorem dX13_readWalker_71 : decode cX13_readWalker 71 = .ok (.ifCond .eq 7, 3) := dz4 dzo153 0 0 7 7 rfl dzbX13_readWalker_71 rfl
theorem dX13_readWalker_74 : decode cX13_readWalker 74 = .ok (.iconst 1, 1) := dz0 dzo4 3 dzbX13_readWalker_71 rfl
theorem dX13_readWalker_75 : decode cX13_readWalker 75 = .ok (.goto 30, 3) := dz4 dzo167 4 0 30 30 rfl dzbX13_readWalker_71 rfl
theorem dX13_readWalker_78 : decode cX13_readWalker 78 = .ok (.aload_n 0, 1) := dz0 dzo42 7 dzbX13_readWalker_71 rfl
theorem dX13_readWalker_79 : decode cX13_readWalker 79 = .ok (.ldc 223, 2) := dz1 dzo18 8 223 dzbX13_readWalker_71 rfl
theorem dX13_readWalker_81 : decode cX13_readWalker 81 = .ok (.invokevirtual 116, 3) := dz2 dzo182 10 0 116 dzbX13_readWalker_71 rfl
theorem dX13_readWalker_84 : decode cX13_readWalker 84 = .ok (.ifCond .eq 7, 3) := dz4 dzo153 13 0 7 7 rfl dzbX13_readWalker_71 rfl
theorem dX13_readWalker_87 : decode cX13_readWalker 87 = .ok (.iconst 2, 1) := dz0 dzo5 16 dzbX13_readWalker_71 rfl
theorem dX13_readWalker_88 : decode cX13_readWalker 88 = .ok (.goto 17, 3) := dz4 dzo167 17 0 17 17 rfl dzbX13_readWalker_71 rfl
theorem dX13_readWalker_91 : decode cX13_readWalker 91 = .ok (.aload_n 0, 1) := dz0 dzo42 20 dzbX13_readWalker_71 rfl
theorem dX13_readWalker_92 : decode cX13_readWalker 92 = .ok (.ldc 225, 2) := dz1 dzo18 21 225 dzbX13_readWalker_71 rfl
theorem dzbX13_readWalker_94 : dzB cX13_readWalker 94 [182, 0, 116, 153, 0, 7, 6, 167, 0, 4, 2, 62, 29, 2, 160, 0, 8, 42, 4, 182, 0, 120, 42] := by decide +kernel
theorem dX13_readWalker_94 : decode cX13_readWalker 94 = .ok (.invokevirtual 116, 3) := dz2 dzo182 0 0 116 dzbX13_readWalker_94 rfl
theorem dX13_readWalker_97 : decode cX13_readWalker 97 = .ok (.ifCond .eq 7, 3) := dz4 dzo153 3 0 7 7 rfl dzbX13_readWalker_94 rfl
theorem dX13_readWalker_100 : decode cX13_readWalker 100 = .ok (.iconst 3, 1) := dz0 dzo6 6 dzbX13_readWalker_94 rfl
theorem dX13_readWalker_101 : decode cX13_readWalker 101 = .ok (.goto 4, 3) := dz4 dzo167 7 0 4 4 rfl dzbX13_readWalker_94 rfl
theorem dX13_readWalker_104 : decode cX13_readWalker 104 = .ok (.iconst (-1), 1) := dz0 dzo2 10 dzbX13_readWalker_94 rfl
theorem dX13_readWalker_105 : decode cX13_readWalker 105 = .ok (.istore_n 3, 1) := dz0 dzo62 11 dzbX13_readWalker_94 rfl
theorem dX13_readWalker_106 : decode cX13_readWalker 106 = .ok (.iload_n 3, 1) := dz0 dzo29 12 dzbX13_readWalker_94 rfl
theorem dX13_readWalker_107 : decode cX13_readWalker 107 = .ok (.iconst (-1), 1) := dz0 dzo2 13 dzbX13_readWalker_94 rfl
theorem dX13_readWalker_108 : decode cX13_readWalker 108 = .ok (.if_icmp .ne 8, 3) := dz4 dzo160 14 0 8 8 rfl dzbX13_readWalker_94 rfl
theorem dX13_readWalker_111 : decode cX13_readWalker 111 = .ok (.aload_n 0, 1) := dz0 dzo42 17 dzbX13_readWalker_94 rfl
theorem dX13_readWalker_112 : decode cX13_readWalker 112 = .ok (.iconst 1, 1) := dz0 dzo4 18 dzbX13_readWalker_94 rfl
theorem dX13_readWalker_113 : decode cX13_readWalker 113 = .ok (.invokevirtual 120, 3) := dz2 dzo182 19 0 120 dzbX13_readWalker_94 rfl
theorem dX13_readWalker_116 : decode cX13_readWalker 116 = .ok (.aload_n 0, 1) := dz0 dzo42 22 dzbX13_readWalker_94 rfl
theorem dzbX13_readWalker_117 : dzB cX13_readWalker 117 [182, 0, 113, 42, 18, 227, 182, 0, 132, 42, 182, 0, 229, 54, 4, 42, 18, 232, 182, 0, 132, 42] := by decide +kernel
theorem dX13_readWalker_117 : decode cX13_readWalker 117 = .ok (.invokevirtual 113, 3) := dz2 dzo182 0 0 113 dzbX13_readWalker_117 rfl
theorem dX13_readWalker_120 : decode cX13_readWalker 120 = .ok (.aload_n 0, 1) := dz0 dzo42 3 dzbX13_readWalker_117 rfl
theorem dX13_readWalker_121 : decode cX13_readWalker 121 = .ok (.ldc 227, 2) := dz1 dzo18 4 227 dzbX13_readWalker_117 rfl
theorem dX13_readWalker_123 : decode cX13_readWalker 123 = .ok (.invokevirtual 132, 3) := dz2 dzo182 6 0 132 dzbX13_readWalker_117 rfl
theorem dX13_readWalker_126 : decode cX13_readWalker 126 = .ok (.aload_n 0, 1) := dz0 dzo42 9 dzbX13_readWalker_117 rfl
theorem dX13_readWalker_127 : decode cX13_readWalker 127 = .ok (.invokevirtual 229, 3) := dz2 dzo182 10 0 229 dzbX13_readWalker_117 rfl
theorem dX13_readWalker_130 : decode cX13_readWalker 130 = .ok (.istore 4, 2) := dz1 dzo54 13 4 dzbX13_readWalker_117 rfl
theorem dX13_readWalker_132 : decode cX13_readWalker 132 = .ok (.aload_n 0, 1) := dz0 dzo42 15 dzbX13_readWalker_117 rfl
theorem dX13_readWalker_133 : decode cX13_readWalker 133 = .ok (.ldc 232, 2) := dz1 dzo18 16 232 dzbX13_readWalker_117 rfl
theorem dX13_readWalker_135 : decode cX13_readWalker 135 = .ok (.invokevirtual 132, 3) := dz2 dzo182 18 0 132 dzbX13_readWalker_117 rfl
theorem dX13_readWalker_138 : decode cX13_readWalker 138 = .ok (.aload_n 0, 1) := dz0 dzo42 21 dzbX13_readWalker_117 rfl
theorem dzbX13_readWalker_139 : dzB cX13_readWalker 139 [182, 0, 229, 54, 5, 42, 180, 0, 74, 8, 160, 0, 4, 177, 42, 180, 0, 154, 180, 0, 234, 42] := by decide +kernel
theorem dX13_readWalker_139 : decode cX13_readWalker 139 = .ok (.invokevirtual 229, 3) := dz2 dzo182 0 0 229 dzbX13_readWalker_139 rfl
theorem dX13_readWalker_142 : decode cX13_readWalker 142 = .ok (.istore 5, 2) := dz1 dzo54 3 5 dzbX13_readWalker_139 rfl
theorem dX13_readWalker_144 : decode cX13_readWalker 144 = .ok (.aload_n 0, 1) := dz0 dzo42 5 dzbX13_readWalker_139 rfl
theorem dX13_readWalker_145 : decode cX13_readWalker 145 = .ok (.getfield 74, 3) := dz2 dzo180 6 0 74 dzbX13_readWalker_139 rfl
theorem dX13_readWalker_148 : decode cX13_readWalker 148 = .ok (.iconst 5, 1) := dz0 dzo8 9 dzbX13_readWalker_139 rfl
theorem dX13_readWalker_149 : decode cX13_readWalker 149 = .ok (.if_icmp .ne 4, 3) := dz4 dzo160 10 0 4 4 rfl dzbX13_readWalker_139 rfl
theorem dX13_readWalker_152 : decode cX13_readWalker 152 = .ok (.return_, 1) := dz0 dzo177 13 dzbX13_readWalker_139 rfl
theorem dX13_readWalker_153 : decode cX13_readWalker 153 = .ok (.aload_n 0, 1) := dz0 dzo42 14 dzbX13_readWalker_139 rfl
theorem dX13_readWalker_154 : decode cX13_readWalker 154 = .ok (.getfield 154, 3) := dz2 dzo180 15 0 154 dzbX13_readWalker_139 rfl
theorem dX13_readWalker_157 : decode cX13_readWalker 157 = .ok (.getfield 234, 3) := dz2 dzo180 18 0 234 dzbX13_readWalker_139 rfl
theorem dX13_readWalker_160 : decode cX13_readWalker 160 = .ok (.aload_n 0, 1) := dz0 dzo42 21 dzbX13_readWalker_139 rfl
theorem dzbX13_readWalker_161 : dzB cX13_readWalker 161 [180, 0, 154, 180, 0, 206, 31, 80, 42, 180, 0, 154, 180, 0, 238, 42, 180, 0, 154, 180, 0, 206, 29, 79] := by decide +kernel
theorem dX13_readWalker_161 : decode cX13_readWalker 161 = .ok (.getfield 154, 3) := dz2 dzo180 0 0 154 dzbX13_readWalker_161 rfl
theorem dX13_readWalker_164 : decode cX13_readWalker 164 = .ok (.getfield 206, 3) := dz2 dzo180 3 0 206 dzbX13_readWalker_161 rfl
theorem dX13_readWalker_167 : decode cX13_readWalker 167 = .ok (.lload_n 1, 1) := dz0 dzo31 6 dzbX13_readWalker_161 rfl
theorem dX13_readWalker_168 : decode cX13_readWalker 168 = .ok (.lastore, 1) := dz0 dzo80 7 dzbX13_readWalker_161 rfl
theorem dX13_readWalker_169 : decode cX13_readWalker 169 = .ok (.aload_n 0, 1) := dz0 dzo42 8 dzbX13_readWalker_161 rfl
theorem dX13_readWalker_170 : decode cX13_readWalker 170 = .ok (.getfield 154, 3) := dz2 dzo180 9 0 154 dzbX13_readWalker_161 rfl
theorem dX13_readWalker_173 : decode cX13_readWalker 173 = .ok (.getfield 238, 3) := dz2 dzo180 12 0 238 dzbX13_readWalker_161 rfl
theorem dX13_readWalker_176 : decode cX13_readWalker 176 = .ok (.aload_n 0, 1) := dz0 dzo42 15 dzbX13_readWalker_161 rfl
theorem dX13_readWalker_177 : decode cX13_readWalker 177 = .ok (.getfield 154, 3) := dz2 dzo180 16 0 154 dzbX13_readWalker_161 rfl
theorem dX13_readWalker_180 : decode cX13_readWalker 180 = .ok (.getfield 206, 3) := dz2 dzo180 19 0 206 dzbX13_readWalker_161 rfl
theorem dX13_readWalker_183 : decode cX13_readWalker 183 = .ok (.iload_n 3, 1) := dz0 dzo29 22 dzbX13_readWalker_161 rfl
theorem dX13_readWalker_184 : decode cX13_readWalker 184 = .ok (.iastore, 1) := dz0 dzo79 23 dzbX13_readWalker_161 rfl
theorem dzbX13_readWalker_185 : dzB cX13_readWalker 185 [42, 180, 0, 154, 180, 0, 241, 42, 180, 0, 154, 180, 0, 206, 21, 4, 79, 42, 180, 0, 154, 180, 0, 243] := by decide +kernel
theorem dX13_readWalker_185 : decode cX13_readWalker 185 = .ok (.aload_n 0, 1) := dz0 dzo42 0 dzbX13_readWalker_185 rfl
theorem dX13_readWalker_186 : decode cX13_readWalker 186 = .ok (.getfield 154, 3) := dz2 dzo180 1 0 154 dzbX13_readWalker_185 rfl
theorem dX13_readWalker_189 : decode cX13_readWalker 189 = .ok (.getfield 241, 3) := dz2 dzo180 4 0 241 dzbX13_readWalker_185 rfl
theorem dX13_readWalker_192 : decode cX13_readWalker 192 = .ok (.aload_n 0, 1) := dz0 dzo42 7 dzbX13_readWalker_185 rfl
theorem dX13_readWalker_193 : decode cX13_readWalker 193 = .ok (.getfield 154, 3) := dz2 dzo180 8 0 154 dzbX13_readWalker_185 rfl
theorem dX13_readWalker_196 : decode cX13_readWalker 196 = .ok (.getfield 206, 3) := dz2 dzo180 11 0 206 dzbX13_readWalker_185 rfl
theorem dX13_readWalker_199 : decode cX13_readWalker 199 = .ok (.iload 4, 2) := dz1 dzo21 14 4 dzbX13_readWalker_185 rfl
theorem dX13_readWalker_201 : decode cX13_readWalker 201 = .ok (.iastore, 1) := dz0 dzo79 16 dzbX13_readWalker_185 rfl
theorem dX13_readWalker_202 : decode cX13_readWalker 202 = .ok (.aload_n 0, 1) := dz0 dzo42 17 dzbX13_readWalker_185 rfl
theorem dX13_readWalker_203 : decode cX13_readWalker 203 = .ok (.getfield 154, 3) := dz2 dzo180 18 0 154 dzbX13_readWalker_185 rfl
theorem dX13_readWalker_206 : decode cX13_readWalker 206 = .ok (.getfield 243, 3) := dz2 dzo180 21 0 243 dzbX13_readWalker_185 rfl
theorem dzbX13_readWalker_209 : dzB cX13_readWalker 209 [42, 180, 0, 154, 180, 0, 206, 21, 5, 79, 42, 180, 0, 154, 89, 180, 0, 206, 4, 96, 181, 0, 206, 177] := by decide +kernel
theorem dX13_readWalker_209 : decode cX13_readWalker 209 = .ok (.aload_n 0, 1) := dz0 dzo42 0 dzbX13_readWalker_209 rfl
theorem dX13_readWalker_210 : decode cX13_readWalker 210 = .ok (.getfield 154, 3) := dz2 dzo180 1 0 154 dzbX13_readWalker_209 rfl
theorem dX13_readWalker_213 : decode cX13_readWalker 213 = .ok (.getfield 206, 3) := dz2 dzo180 4 0 206 dzbX13_readWalker_209 rfl
theorem dX13_readWalker_216 : decode cX13_readWalker 216 = .ok (.iload 5, 2) := dz1 dzo21 7 5 dzbX13_readWalker_209 rfl
theorem dX13_readWalker_218 : decode cX13_readWalker 218 = .ok (.iastore, 1) := dz0 dzo79 9 dzbX13_readWalker_209 rfl
theorem dX13_readWalker_219 : decode cX13_readWalker 219 = .ok (.aload_n 0, 1) := dz0 dzo42 10 dzbX13_readWalker_209 rfl
theorem dX13_readWalker_220 : decode cX13_readWalker 220 = .ok (.getfield 154, 3) := dz2 dzo180 11 0 154 dzbX13_readWalker_209 rfl
theorem dX13_readWalker_223 : decode cX13_readWalker 223 = .ok (.dup, 1) := dz0 dzo89 14 dzbX13_readWalker_209 rfl
theorem dX13_readWalker_224 : decode cX13_readWalker 224 = .ok (.getfield 206, 3) := dz2 dzo180 15 0 206 dzbX13_readWalker_209 rfl
theorem dX13_readWalker_227 : decode cX13_readWalker 227 = .ok (.iconst 1, 1) := dz0 dzo4 18 dzbX13_readWalker_209 rfl
theorem dX13_readWalker_228 : decode cX13_readWalker 228 = .ok (.iadd, 1) := dz0 dzo96 19 dzbX13_readWalker_209 rfl
theorem dX13_readWalker_229 : decode cX13_readWalker 229 = .ok (.putfield 206, 3) := dz2 dzo181 20 0 206 dzbX13_readWalker_209 rfl
theorem dX13_readWalker_232 : decode cX13_readWalker 232 = .ok (.return_, 1) := dz0 dzo177 23 dzbX13_readWalker_209 rfl
theorem dzbX13_readWhole_0 : dzB cX13_readWhole 0 [42, 27, 28, 182, 0, 128, 62, 42, 182, 0, 113, 29, 172] := by decide +kernel
theorem dX13_readWhole_0 : decode cX13_readWhole 0 = .ok (.aload_n 0, 1) := dz0 dzo42 0 dzbX13_readWhole_0 rfl
theorem dX13_readWhole_1 : decode cX13_readWhole 1 = .ok (.iload_n 1, 1) := dz0 dzo27 1 dzbX13_readWhole_0 rfl
theorem dX13_readWhole_2 : decode cX13_readWhole 2 = .ok (.iload_n 2, 1) := dz0 dzo28 2 dzbX13_readWhole_0 rfl
theorem dX13_readWhole_3 : decode cX13_readWhole 3 = .ok (.invokevirtual 128, 3) := dz2 dzo182 3 0 128 dzbX13_readWhole_0 rfl
theorem dX13_readWhole_6 : decode cX13_readWhole 6 = .ok (.istore_n 3, 1) := dz0 dzo62 6 dzbX13_readWhole_0 rfl
theorem dX13_readWhole_7 : decode cX13_readWhole 7 = .ok (.aload_n 0, 1) := dz0 dzo42 7 dzbX13_readWhole_0 rfl
theorem dX13_readWhole_8 : decode cX13_readWhole 8 = .ok (.invokevirtual 113, 3) := dz2 dzo182 8 0 113 dzbX13_readWhole_0 rfl
theorem dX13_readWhole_11 : decode cX13_readWhole 11 = .ok (.iload_n 3, 1) := dz0 dzo29 11 dzbX13_readWhole_0 rfl
theorem dX13_readWhole_12 : decode cX13_readWhole 12 = .ok (.ireturn, 1) := dz0 dzo172 12 dzbX13_readWhole_0 rfl
theorem dzbX13_refused_0 : dzB cX13_refused 0 [42, 27, 181, 0, 45, 42, 2, 181, 0, 9, 2, 172] := by decide +kernel
theorem dX13_refused_0 : decode cX13_refused 0 = .ok (.aload_n 0, 1) := dz0 dzo42 0 dzbX13_refused_0 rfl
theorem dX13_refused_1 : decode cX13_refused 1 = .ok (.iload_n 1, 1) := dz0 dzo27 1 dzbX13_refused_0 rfl
theorem dX13_refused_2 : decode cX13_refused 2 = .ok (.putfield 45, 3) := dz2 dzo181 2 0 45 dzbX13_refused_0 rfl
theorem dX13_refused_5 : decode cX13_refused 5 = .ok (.aload_n 0, 1) := dz0 dzo42 5 dzbX13_refused_0 rfl
theorem dX13_refused_6 : decode cX13_refused 6 = .ok (.iconst (-1), 1) := dz0 dzo2 6 dzbX13_refused_0 rfl
theorem dX13_refused_7 : decode cX13_refused 7 = .ok (.putfield 9, 3) := dz2 dzo181 7 0 9 dzbX13_refused_0 rfl
theorem dX13_refused_10 : decode cX13_refused 10 = .ok (.iconst (-1), 1) := dz0 dzo2 10 dzbX13_refused_0 rfl
theorem dX13_refused_11 : decode cX13_refused 11 = .ok (.ireturn, 1) := dz0 dzo172 11 dzbX13_refused_0 rfl
theorem dzbX13_refusesSeed_0 : dzB cX13_refusesSeed 0 [42, 27, 182, 1, 55, 154, 0, 7, 4, 167, 0, 29, 28, 3, 19, 1, 181, 184, 0, 124, 153, 0, 17, 29] := by decide +kernel
theorem dX13_refusesSeed_0 : decode cX13_refusesSeed 0 = .ok (.aload_n 0, 1) := dz0 dzo42 0 dzbX13_refusesSeed_0 rfl
theorem dX13_refusesSeed_1 : decode cX13_refusesSeed 1 = .ok (.iload_n 1, 1) := dz0 dzo27 1 dzbX13_refusesSeed_0 rfl
theorem dX13_refusesSeed_2 : decode cX13_refusesSeed 2 = .ok (.invokevirtual 311, 3) := dz2 dzo182 2 1 55 dzbX13_refusesSeed_0 rfl
theorem dX13_refusesSeed_5 : decode cX13_refusesSeed 5 = .ok (.ifCond .ne 7, 3) := dz4 dzo154 5 0 7 7 rfl dzbX13_refusesSeed_0 rfl
theorem dX13_refusesSeed_8 : decode cX13_refusesSeed 8 = .ok (.iconst 1, 1) := dz0 dzo4 8 dzbX13_refusesSeed_0 rfl
theorem dX13_refusesSeed_9 : decode cX13_refusesSeed 9 = .ok (.goto 29, 3) := dz4 dzo167 9 0 29 29 rfl dzbX13_refusesSeed_0 rfl
theorem dX13_refusesSeed_12 : decode cX13_refusesSeed 12 = .ok (.iload_n 2, 1) := dz0 dzo28 12 dzbX13_refusesSeed_0 rfl
theorem dX13_refusesSeed_13 : decode cX13_refusesSeed 13 = .ok (.iconst 0, 1) := dz0 dzo3 13 dzbX13_refusesSeed_0 rfl
theorem dX13_refusesSeed_14 : decode cX13_refusesSeed 14 = .ok (.ldc_w 437, 3) := dz2 dzo19 14 1 181 dzbX13_refusesSeed_0 rfl
theorem dX13_refusesSeed_17 : decode cX13_refusesSeed 17 = .ok (.invokestatic 124, 3) := dz2 dzo184 17 0 124 dzbX13_refusesSeed_0 rfl
theorem dX13_refusesSeed_20 : decode cX13_refusesSeed 20 = .ok (.ifCond .eq 17, 3) := dz4 dzo153 20 0 17 17 rfl dzbX13_refusesSeed_0 rfl
theorem dX13_refusesSeed_23 : decode cX13_refusesSeed 23 = .ok (.iload_n 3, 1) := dz0 dzo29 23 dzbX13_refusesSeed_0 rfl
theorem dzbX13_refusesSeed_24 : dzB cX13_refusesSeed 24 [3, 16, 90, 184, 0, 124, 153, 0, 7, 3, 167, 0, 4, 5, 172] := by decide +kernel
theorem dX13_refusesSeed_24 : decode cX13_refusesSeed 24 = .ok (.iconst 0, 1) := dz0 dzo3 0 dzbX13_refusesSeed_24 rfl
theorem dX13_refusesSeed_25 : decode cX13_refusesSeed 25 = .ok (.bipush 90, 2) := dz3 dzo16 1 90 90 rfl dzbX13_refusesSeed_24 rfl
theorem dX13_refusesSeed_27 : decode cX13_refusesSeed 27 = .ok (.invokestatic 124, 3) := dz2 dzo184 3 0 124 dzbX13_refusesSeed_24 rfl
theorem dX13_refusesSeed_30 : decode cX13_refusesSeed 30 = .ok (.ifCond .eq 7, 3) := dz4 dzo153 6 0 7 7 rfl dzbX13_refusesSeed_24 rfl
theorem dX13_refusesSeed_33 : decode cX13_refusesSeed 33 = .ok (.iconst 0, 1) := dz0 dzo3 9 dzbX13_refusesSeed_24 rfl
theorem dX13_refusesSeed_34 : decode cX13_refusesSeed 34 = .ok (.goto 4, 3) := dz4 dzo167 10 0 4 4 rfl dzbX13_refusesSeed_24 rfl
theorem dX13_refusesSeed_37 : decode cX13_refusesSeed 37 = .ok (.iconst 2, 1) := dz0 dzo5 13 dzbX13_refusesSeed_24 rfl
theorem dX13_refusesSeed_38 : decode cX13_refusesSeed 38 = .ok (.ireturn, 1) := dz0 dzo172 14 dzbX13_refusesSeed_24 rfl
theorem dzbX13_refusesShame_0 : dzB cX13_refusesShame 0 [42, 180, 1, 13, 199, 0, 7, 4, 167, 0, 18, 27, 3, 16, 9, 184, 0, 124, 153, 0, 7, 3] := by decide +kernel
theorem dX13_refusesShame_0 : decode cX13_refusesShame 0 = .ok (.aload_n 0, 1) := dz0 dzo42 0 dzbX13_refusesShame_0 rfl
theorem dX13_refusesShame_1 : decode cX13_refusesShame 1 = .ok (.getfield 269, 3) := dz2 dzo180 1 1 13 dzbX13_refusesShame_0 rfl
theorem dX13_refusesShame_4 : decode cX13_refusesShame 4 = .ok (.ifnonnull 7, 3) := dz4 dzo199 4 0 7 7 rfl dzbX13_refusesShame_0 rfl
theorem dX13_refusesShame_7 : decode cX13_refusesShame 7 = .ok (.iconst 1, 1) := dz0 dzo4 7 dzbX13_refusesShame_0 rfl
theorem dX13_refusesShame_8 : decode cX13_refusesShame 8 = .ok (.goto 18, 3) := dz4 dzo167 8 0 18 18 rfl dzbX13_refusesShame_0 rfl
theorem dX13_refusesShame_11 : decode cX13_refusesShame 11 = .ok (.iload_n 1, 1) := dz0 dzo27 11 dzbX13_refusesShame_0 rfl
theorem dX13_refusesShame_12 : decode cX13_refusesShame 12 = .ok (.iconst 0, 1) := dz0 dzo3 12 dzbX13_refusesShame_0 rfl
theorem dX13_refusesShame_13 : decode cX13_refusesShame 13 = .ok (.bipush 9, 2) := dz3 dzo16 13 9 9 rfl dzbX13_refusesShame_0 rfl
theorem dX13_refusesShame_15 : decode cX13_refusesShame 15 = .ok (.invokestatic 124, 3) := dz2 dzo184 15 0 124 dzbX13_refusesShame_0 rfl
theorem dX13_refusesShame_18 : decode cX13_refusesShame 18 = .ok (.ifCond .eq 7, 3) := dz4 dzo153 18 0 7 7 rfl dzbX13_refusesShame_0 rfl
theorem dX13_refusesShame_21 : decode cX13_refusesShame 21 = .ok (.iconst 0, 1) := dz0 dzo3 21 dzbX13_refusesShame_0 rfl
theorem dzbX13_refusesShame_22 : dzB cX13_refusesShame 22 [167, 0, 4, 5, 172] := by decide +kernel
theorem dX13_refusesShame_22 : decode cX13_refusesShame 22 = .ok (.goto 4, 3) := dz4 dzo167 0 0 4 4 rfl dzbX13_refusesShame_22 rfl
theorem dX13_refusesShame_25 : decode cX13_refusesShame 25 = .ok (.iconst 2, 1) := dz0 dzo5 3 dzbX13_refusesShame_22 rfl
theorem dX13_refusesShame_26 : decode cX13_refusesShame 26 = .ok (.ireturn, 1) := dz0 dzo172 4 dzbX13_refusesShame_22 rfl
theorem dzbX13_refusesStep_0 : dzB cX13_refusesStep 0 [42, 27, 182, 1, 55, 153, 0, 11, 42, 28, 182, 1, 46, 154, 0, 7, 4, 167, 0, 17, 29, 3, 6] := by decide +kernel
theorem dX13_refusesStep_0 : decode cX13_refusesStep 0 = .ok (.aload_n 0, 1) := dz0 dzo42 0 dzbX13_refusesStep_0 rfl
theorem dX13_refusesStep_1 : decode cX13_refusesStep 1 = .ok (.iload_n 1, 1) := dz0 dzo27 1 dzbX13_refusesStep_0 rfl
theorem dX13_refusesStep_2 : decode cX13_refusesStep 2 = .ok (.invokevirtual 311, 3) := dz2 dzo182 2 1 55 dzbX13_refusesStep_0 rfl
theorem dX13_refusesStep_5 : decode cX13_refusesStep 5 = .ok (.ifCond .eq 11, 3) := dz4 dzo153 5 0 11 11 rfl dzbX13_refusesStep_0 rfl
theorem dX13_refusesStep_8 : decode cX13_refusesStep 8 = .ok (.aload_n 0, 1) := dz0 dzo42 8 dzbX13_refusesStep_0 rfl
theorem dX13_refusesStep_9 : decode cX13_refusesStep 9 = .ok (.iload_n 2, 1) := dz0 dzo28 9 dzbX13_refusesStep_0 rfl
theorem dX13_refusesStep_10 : decode cX13_refusesStep 10 = .ok (.invokevirtual 302, 3) := dz2 dzo182 10 1 46 dzbX13_refusesStep_0 rfl
theorem dX13_refusesStep_13 : decode cX13_refusesStep 13 = .ok (.ifCond .ne 7, 3) := dz4 dzo154 13 0 7 7 rfl dzbX13_refusesStep_0 rfl
theorem dX13_refusesStep_16 : decode cX13_refusesStep 16 = .ok (.iconst 1, 1) := dz0 dzo4 16 dzbX13_refusesStep_0 rfl
theorem dX13_refusesStep_17 : decode cX13_refusesStep 17 = .ok (.goto 17, 3) := dz4 dzo167 17 0 17 17 rfl dzbX13_refusesStep_0 rfl
theorem dX13_refusesStep_20 : decode cX13_refusesStep 20 = .ok (.iload_n 3, 1) := dz0 dzo29 20 dzbX13_refusesStep_0 rfl
theorem dX13_refusesStep_21 : decode cX13_refusesStep 21 = .ok (.iconst 0, 1) := dz0 dzo3 21 dzbX13_refusesStep_0 rfl
theorem dX13_refusesStep_22 : decode cX13_refusesStep 22 = .ok (.iconst 3, 1) := dz0 dzo6 22 dzbX13_refusesStep_0 rfl
theorem dzbX13_refusesStep_23 : dzB cX13_refusesStep 23 [184, 0, 124, 153, 0, 7, 3, 167, 0, 4, 5, 172] := by decide +kernel
theorem dX13_refusesStep_23 : decode cX13_refusesStep 23 = .ok (.invokestatic 124, 3) := dz2 dzo184 0 0 124 dzbX13_refusesStep_23 rfl
theorem dX13_refusesStep_26 : decode cX13_refusesStep 26 = .ok (.ifCond .eq 7, 3) := dz4 dzo153 3 0 7 7 rfl dzbX13_refusesStep_23 rfl
theorem dX13_refusesStep_29 : decode cX13_refusesStep 29 = .ok (.iconst 0, 1) := dz0 dzo3 6 dzbX13_refusesStep_23 rfl
theorem dX13_refusesStep_30 : decode cX13_refusesStep 30 = .ok (.goto 4, 3) := dz4 dzo167 7 0 4 4 rfl dzbX13_refusesStep_23 rfl
theorem dX13_refusesStep_33 : decode cX13_refusesStep 33 = .ok (.iconst 2, 1) := dz0 dzo5 10 dzbX13_refusesStep_23 rfl
theorem dX13_refusesStep_34 : decode cX13_refusesStep 34 = .ok (.ireturn, 1) := dz0 dzo172 11 dzbX13_refusesStep_23 rfl
theorem dzbX13_remembers_0 : dzB cX13_remembers 0 [42, 180, 1, 15, 16, 16, 160, 0, 43, 3, 60, 27, 17, 1, 224, 162, 0, 24, 42, 180, 0, 24, 27, 42] := by decide +kernel
theorem dX13_remembers_0 : decode cX13_remembers 0 = .ok (.aload_n 0, 1) := dz0 dzo42 0 dzbX13_remembers_0 rfl
theorem dX13_remembers_1 : decode cX13_remembers 1 = .ok (.getfield 271, 3) := dz2 dzo180 1 1 15 dzbX13_remembers_0 rfl
theorem dX13_remembers_4 : decode cX13_remembers 4 = .ok (.bipush 16, 2) := dz3 dzo16 4 16 16 rfl dzbX13_remembers_0 rfl
theorem dX13_remembers_6 : decode cX13_remembers 6 = .ok (.if_icmp .ne 43, 3) := dz4 dzo160 6 0 43 43 rfl dzbX13_remembers_0 rfl
theorem dX13_remembers_9 : decode cX13_remembers 9 = .ok (.iconst 0, 1) := dz0 dzo3 9 dzbX13_remembers_0 rfl
theorem dX13_remembers_10 : decode cX13_remembers 10 = .ok (.istore_n 1, 1) := dz0 dzo60 10 dzbX13_remembers_0 rfl
theorem dX13_remembers_11 : decode cX13_remembers 11 = .ok (.iload_n 1, 1) := dz0 dzo27 11 dzbX13_remembers_0 rfl
theorem dX13_remembers_12 : decode cX13_remembers 12 = .ok (.sipush 480, 3) := dz4 dzo17 12 1 224 480 rfl dzbX13_remembers_0 rfl
theorem dX13_remembers_15 : decode cX13_remembers 15 = .ok (.if_icmp .ge 24, 3) := dz4 dzo162 15 0 24 24 rfl dzbX13_remembers_0 rfl
theorem dX13_remembers_18 : decode cX13_remembers 18 = .ok (.aload_n 0, 1) := dz0 dzo42 18 dzbX13_remembers_0 rfl
theorem dX13_remembers_19 : decode cX13_remembers 19 = .ok (.getfield 24, 3) := dz2 dzo180 19 0 24 dzbX13_remembers_0 rfl
theorem dX13_remembers_22 : decode cX13_remembers 22 = .ok (.iload_n 1, 1) := dz0 dzo27 22 dzbX13_remembers_0 rfl
theorem dX13_remembers_23 : decode cX13_remembers 23 = .ok (.aload_n 0, 1) := dz0 dzo42 23 dzbX13_remembers_0 rfl
theorem dzbX13_remembers_24 : dzB cX13_remembers 24 [180, 0, 24, 27, 16, 32, 96, 46, 79, 132, 1, 1, 167, 255, 231, 42, 89, 180, 1, 15, 4, 100] := by decide +kernel
theorem dX13_remembers_24 : decode cX13_remembers 24 = .ok (.getfield 24, 3) := dz2 dzo180 0 0 24 dzbX13_remembers_24 rfl
theorem dX13_remembers_27 : decode cX13_remembers 27 = .ok (.iload_n 1, 1) := dz0 dzo27 3 dzbX13_remembers_24 rfl
theorem dX13_remembers_28 : decode cX13_remembers 28 = .ok (.bipush 32, 2) := dz3 dzo16 4 32 32 rfl dzbX13_remembers_24 rfl
theorem dX13_remembers_30 : decode cX13_remembers 30 = .ok (.iadd, 1) := dz0 dzo96 6 dzbX13_remembers_24 rfl
theorem dX13_remembers_31 : decode cX13_remembers 31 = .ok (.iaload, 1) := dz0 dzo46 7 dzbX13_remembers_24 rfl
theorem dX13_remembers_32 : decode cX13_remembers 32 = .ok (.iastore, 1) := dz0 dzo79 8 dzbX13_remembers_24 rfl
theorem dX13_remembers_33 : decode cX13_remembers 33 = .ok (.iinc 1 1, 3) := dz5 dzo132 9 1 1 1 rfl dzbX13_remembers_24 rfl
theorem dX13_remembers_36 : decode cX13_remembers 36 = .ok (.goto (-25), 3) := dz4 dzo167 12 255 231 (-25) rfl dzbX13_remembers_24 rfl
theorem dX13_remembers_39 : decode cX13_remembers 39 = .ok (.aload_n 0, 1) := dz0 dzo42 15 dzbX13_remembers_24 rfl
theorem dX13_remembers_40 : decode cX13_remembers 40 = .ok (.dup, 1) := dz0 dzo89 16 dzbX13_remembers_24 rfl
theorem dX13_remembers_41 : decode cX13_remembers 41 = .ok (.getfield 271, 3) := dz2 dzo180 17 1 15 dzbX13_remembers_24 rfl
theorem dX13_remembers_44 : decode cX13_remembers 44 = .ok (.iconst 1, 1) := dz0 dzo4 20 dzbX13_remembers_24 rfl
theorem dX13_remembers_45 : decode cX13_remembers 45 = .ok (.isub, 1) := dz0 dzo100 21 dzbX13_remembers_24 rfl
theorem dzbX13_remembers_46 : dzB cX13_remembers 46 [181, 1, 15, 3, 60, 27, 16, 32, 162, 0, 29, 42, 180, 0, 24, 16, 32, 42, 180, 1, 15, 104, 27, 96] := by decide +kernel
theorem dX13_remembers_46 : decode cX13_remembers 46 = .ok (.putfield 271, 3) := dz2 dzo181 0 1 15 dzbX13_remembers_46 rfl
theorem dX13_remembers_49 : decode cX13_remembers 49 = .ok (.iconst 0, 1) := dz0 dzo3 3 dzbX13_remembers_46 rfl
theorem dX13_remembers_50 : decode cX13_remembers 50 = .ok (.istore_n 1, 1) := dz0 dzo60 4 dzbX13_remembers_46 rfl
theorem dX13_remembers_51 : decode cX13_remembers 51 = .ok (.iload_n 1, 1) := dz0 dzo27 5 dzbX13_remembers_46 rfl
theorem dX13_remembers_52 : decode cX13_remembers 52 = .ok (.bipush 32, 2) := dz3 dzo16 6 32 32 rfl dzbX13_remembers_46 rfl
theorem dX13_remembers_54 : decode cX13_remembers 54 = .ok (.if_icmp .ge 29, 3) := dz4 dzo162 8 0 29 29 rfl dzbX13_remembers_46 rfl
theorem dX13_remembers_57 : decode cX13_remembers 57 = .ok (.aload_n 0, 1) := dz0 dzo42 11 dzbX13_remembers_46 rfl
theorem dX13_remembers_58 : decode cX13_remembers 58 = .ok (.getfield 24, 3) := dz2 dzo180 12 0 24 dzbX13_remembers_46 rfl
theorem dX13_remembers_61 : decode cX13_remembers 61 = .ok (.bipush 32, 2) := dz3 dzo16 15 32 32 rfl dzbX13_remembers_46 rfl
theorem dX13_remembers_63 : decode cX13_remembers 63 = .ok (.aload_n 0, 1) := dz0 dzo42 17 dzbX13_remembers_46 rfl
theorem dX13_remembers_64 : decode cX13_remembers 64 = .ok (.getfield 271, 3) := dz2 dzo180 18 1 15 dzbX13_remembers_46 rfl
theorem dX13_remembers_67 : decode cX13_remembers 67 = .ok (.imul, 1) := dz0 dzo104 21 dzbX13_remembers_46 rfl
theorem dX13_remembers_68 : decode cX13_remembers 68 = .ok (.iload_n 1, 1) := dz0 dzo27 22 dzbX13_remembers_46 rfl
theorem dX13_remembers_69 : decode cX13_remembers 69 = .ok (.iadd, 1) := dz0 dzo96 23 dzbX13_remembers_46 rfl
theorem dzbX13_remembers_70 : dzB cX13_remembers 70 [42, 180, 0, 17, 27, 46, 79, 132, 1, 1, 167, 255, 227, 42, 89, 180, 1, 15, 4, 96, 181, 1, 15, 177] := by decide +kernel
theorem dX13_remembers_70 : decode cX13_remembers 70 = .ok (.aload_n 0, 1) := dz0 dzo42 0 dzbX13_remembers_70 rfl
theorem dX13_remembers_71 : decode cX13_remembers 71 = .ok (.getfield 17, 3) := dz2 dzo180 1 0 17 dzbX13_remembers_70 rfl
theorem dX13_remembers_74 : decode cX13_remembers 74 = .ok (.iload_n 1, 1) := dz0 dzo27 4 dzbX13_remembers_70 rfl
theorem dX13_remembers_75 : decode cX13_remembers 75 = .ok (.iaload, 1) := dz0 dzo46 5 dzbX13_remembers_70 rfl
theorem dX13_remembers_76 : decode cX13_remembers 76 = .ok (.iastore, 1) := dz0 dzo79 6 dzbX13_remembers_70 rfl
theorem dX13_remembers_77 : decode cX13_remembers 77 = .ok (.iinc 1 1, 3) := dz5 dzo132 7 1 1 1 rfl dzbX13_remembers_70 rfl
theorem dX13_remembers_80 : decode cX13_remembers 80 = .ok (.goto (-29), 3) := dz4 dzo167 10 255 227 (-29) rfl dzbX13_remembers_70 rfl
theorem dX13_remembers_83 : decode cX13_remembers 83 = .ok (.aload_n 0, 1) := dz0 dzo42 13 dzbX13_remembers_70 rfl
theorem dX13_remembers_84 : decode cX13_remembers 84 = .ok (.dup, 1) := dz0 dzo89 14 dzbX13_remembers_70 rfl
theorem dX13_remembers_85 : decode cX13_remembers 85 = .ok (.getfield 271, 3) := dz2 dzo180 15 1 15 dzbX13_remembers_70 rfl
theorem dX13_remembers_88 : decode cX13_remembers 88 = .ok (.iconst 1, 1) := dz0 dzo4 18 dzbX13_remembers_70 rfl
theorem dX13_remembers_89 : decode cX13_remembers 89 = .ok (.iadd, 1) := dz0 dzo96 19 dzbX13_remembers_70 rfl
theorem dX13_remembers_90 : decode cX13_remembers 90 = .ok (.putfield 271, 3) := dz2 dzo181 20 1 15 dzbX13_remembers_70 rfl
theorem dX13_remembers_93 : decode cX13_remembers 93 = .ok (.return_, 1) := dz0 dzo177 23 dzbX13_remembers_70 rfl
theorem dzbX13_rest_0 : dzB cX13_rest 0 [42, 3, 181, 0, 42, 42, 27, 182, 1, 149, 61, 28, 158, 0, 9, 42, 28, 182, 0, 48, 172, 3, 62, 29] := by decide +kernel
theorem dX13_rest_0 : decode cX13_rest 0 = .ok (.aload_n 0, 1) := dz0 dzo42 0 dzbX13_rest_0 rfl
theorem dX13_rest_1 : decode cX13_rest 1 = .ok (.iconst 0, 1) := dz0 dzo3 1 dzbX13_rest_0 rfl
theorem dX13_rest_2 : decode cX13_rest 2 = .ok (.putfield 42, 3) := dz2 dzo181 2 0 42 dzbX13_rest_0 rfl
theorem dX13_rest_5 : decode cX13_rest 5 = .ok (.aload_n 0, 1) := dz0 dzo42 5 dzbX13_rest_0 rfl
theorem dX13_rest_6 : decode cX13_rest 6 = .ok (.iload_n 1, 1) := dz0 dzo27 6 dzbX13_rest_0 rfl
theorem dX13_rest_7 : decode cX13_rest 7 = .ok (.invokevirtual 405, 3) := dz2 dzo182 7 1 149 dzbX13_rest_0 rfl
theorem dX13_rest_10 : decode cX13_rest 10 = .ok (.istore_n 2, 1) := dz0 dzo61 10 dzbX13_rest_0 rfl
theorem dX13_rest_11 : decode cX13_rest 11 = .ok (.iload_n 2, 1) := dz0 dzo28 11 dzbX13_rest_0 rfl
theorem dX13_rest_12 : decode cX13_rest 12 = .ok (.ifCond .le 9, 3) := dz4 dzo158 12 0 9 9 rfl dzbX13_rest_0 rfl
theorem dX13_rest_15 : decode cX13_rest 15 = .ok (.aload_n 0, 1) := dz0 dzo42 15 dzbX13_rest_0 rfl
theorem dX13_rest_16 : decode cX13_rest 16 = .ok (.iload_n 2, 1) := dz0 dzo28 16 dzbX13_rest_0 rfl
theorem dX13_rest_17 : decode cX13_rest 17 = .ok (.invokevirtual 48, 3) := dz2 dzo182 17 0 48 dzbX13_rest_0 rfl
theorem dX13_rest_20 : decode cX13_rest 20 = .ok (.ireturn, 1) := dz0 dzo172 20 dzbX13_rest_0 rfl
theorem dX13_rest_21 : decode cX13_rest 21 = .ok (.iconst 0, 1) := dz0 dzo3 21 dzbX13_rest_0 rfl
theorem dX13_rest_22 : decode cX13_rest 22 = .ok (.istore_n 3, 1) := dz0 dzo62 22 dzbX13_rest_0 rfl
theorem dX13_rest_23 : decode cX13_rest 23 = .ok (.iload_n 3, 1) := dz0 dzo29 23 dzbX13_rest_0 rfl
theorem dzbX13_rest_24 : dzB cX13_rest 24 [7, 162, 0, 32, 27, 29, 184, 1, 158, 153, 0, 18, 42, 16, 10, 29, 5, 108, 104, 29, 5, 112, 96] := by decide +kernel
theorem dX13_rest_24 : decode cX13_rest 24 = .ok (.iconst 4, 1) := dz0 dzo7 0 dzbX13_rest_24 rfl
theorem dX13_rest_25 : decode cX13_rest 25 = .ok (.if_icmp .ge 32, 3) := dz4 dzo162 1 0 32 32 rfl dzbX13_rest_24 rfl
theorem dX13_rest_28 : decode cX13_rest 28 = .ok (.iload_n 1, 1) := dz0 dzo27 4 dzbX13_rest_24 rfl
theorem dX13_rest_29 : decode cX13_rest 29 = .ok (.iload_n 3, 1) := dz0 dzo29 5 dzbX13_rest_24 rfl
theorem dX13_rest_30 : decode cX13_rest 30 = .ok (.invokestatic 414, 3) := dz2 dzo184 6 1 158 dzbX13_rest_24 rfl
theorem dX13_rest_33 : decode cX13_rest 33 = .ok (.ifCond .eq 18, 3) := dz4 dzo153 9 0 18 18 rfl dzbX13_rest_24 rfl
theorem dX13_rest_36 : decode cX13_rest 36 = .ok (.aload_n 0, 1) := dz0 dzo42 12 dzbX13_rest_24 rfl
theorem dX13_rest_37 : decode cX13_rest 37 = .ok (.bipush 10, 2) := dz3 dzo16 13 10 10 rfl dzbX13_rest_24 rfl
theorem dX13_rest_39 : decode cX13_rest 39 = .ok (.iload_n 3, 1) := dz0 dzo29 15 dzbX13_rest_24 rfl
theorem dX13_rest_40 : decode cX13_rest 40 = .ok (.iconst 2, 1) := dz0 dzo5 16 dzbX13_rest_24 rfl
theorem dX13_rest_41 : decode cX13_rest 41 = .ok (.idiv, 1) := dz0 dzo108 17 dzbX13_rest_24 rfl
theorem dX13_rest_42 : decode cX13_rest 42 = .ok (.imul, 1) := dz0 dzo104 18 dzbX13_rest_24 rfl
theorem dX13_rest_43 : decode cX13_rest 43 = .ok (.iload_n 3, 1) := dz0 dzo29 19 dzbX13_rest_24 rfl
theorem dX13_rest_44 : decode cX13_rest 44 = .ok (.iconst 2, 1) := dz0 dzo5 20 dzbX13_rest_24 rfl
theorem dX13_rest_45 : decode cX13_rest 45 = .ok (.irem, 1) := dz0 dzo112 21 dzbX13_rest_24 rfl
theorem dX13_rest_46 : decode cX13_rest 46 = .ok (.iadd, 1) := dz0 dzo96 22 dzbX13_rest_24 rfl
theorem dzbX13_rest_47 : dzB cX13_rest 47 [182, 0, 52, 172, 132, 3, 1, 167, 255, 225, 42, 16, 254, 182, 0, 52, 172] := by decide +kernel
theorem dX13_rest_47 : decode cX13_rest 47 = .ok (.invokevirtual 52, 3) := dz2 dzo182 0 0 52 dzbX13_rest_47 rfl
theorem dX13_rest_50 : decode cX13_rest 50 = .ok (.ireturn, 1) := dz0 dzo172 3 dzbX13_rest_47 rfl
theorem dX13_rest_51 : decode cX13_rest 51 = .ok (.iinc 3 1, 3) := dz5 dzo132 4 3 1 1 rfl dzbX13_rest_47 rfl
theorem dX13_rest_54 : decode cX13_rest 54 = .ok (.goto (-31), 3) := dz4 dzo167 7 255 225 (-31) rfl dzbX13_rest_47 rfl
theorem dX13_rest_57 : decode cX13_rest 57 = .ok (.aload_n 0, 1) := dz0 dzo42 10 dzbX13_rest_47 rfl
theorem dX13_rest_58 : decode cX13_rest 58 = .ok (.bipush (-2), 2) := dz3 dzo16 11 254 (-2) rfl dzbX13_rest_47 rfl
theorem dX13_rest_60 : decode cX13_rest 60 = .ok (.invokevirtual 52, 3) := dz2 dzo182 13 0 52 dzbX13_rest_47 rfl
theorem dX13_rest_63 : decode cX13_rest 63 = .ok (.ireturn, 1) := dz0 dzo172 16 dzbX13_rest_47 rfl
theorem dzbX13_rests_0 : dzB cX13_rests 0 [42, 3, 181, 0, 42, 42, 27, 182, 1, 149, 61, 28, 158, 0, 9, 42, 28, 182, 0, 48, 172, 3, 62, 3] := by decide +kernel
theorem dX13_rests_0 : decode cX13_rests 0 = .ok (.aload_n 0, 1) := dz0 dzo42 0 dzbX13_rests_0 rfl
theorem dX13_rests_1 : decode cX13_rests 1 = .ok (.iconst 0, 1) := dz0 dzo3 1 dzbX13_rests_0 rfl
theorem dX13_rests_2 : decode cX13_rests 2 = .ok (.putfield 42, 3) := dz2 dzo181 2 0 42 dzbX13_rests_0 rfl
theorem dX13_rests_5 : decode cX13_rests 5 = .ok (.aload_n 0, 1) := dz0 dzo42 5 dzbX13_rests_0 rfl
theorem dX13_rests_6 : decode cX13_rests 6 = .ok (.iload_n 1, 1) := dz0 dzo27 6 dzbX13_rests_0 rfl
theorem dX13_rests_7 : decode cX13_rests 7 = .ok (.invokevirtual 405, 3) := dz2 dzo182 7 1 149 dzbX13_rests_0 rfl
theorem dX13_rests_10 : decode cX13_rests 10 = .ok (.istore_n 2, 1) := dz0 dzo61 10 dzbX13_rests_0 rfl
theorem dX13_rests_11 : decode cX13_rests 11 = .ok (.iload_n 2, 1) := dz0 dzo28 11 dzbX13_rests_0 rfl
theorem dX13_rests_12 : decode cX13_rests 12 = .ok (.ifCond .le 9, 3) := dz4 dzo158 12 0 9 9 rfl dzbX13_rests_0 rfl
theorem dX13_rests_15 : decode cX13_rests 15 = .ok (.aload_n 0, 1) := dz0 dzo42 15 dzbX13_rests_0 rfl
theorem dX13_rests_16 : decode cX13_rests 16 = .ok (.iload_n 2, 1) := dz0 dzo28 16 dzbX13_rests_0 rfl
theorem dX13_rests_17 : decode cX13_rests 17 = .ok (.invokevirtual 48, 3) := dz2 dzo182 17 0 48 dzbX13_rests_0 rfl
theorem dX13_rests_20 : decode cX13_rests 20 = .ok (.ireturn, 1) := dz0 dzo172 20 dzbX13_rests_0 rfl
theorem dX13_rests_21 : decode cX13_rests 21 = .ok (.iconst 0, 1) := dz0 dzo3 21 dzbX13_rests_0 rfl
theorem dX13_rests_22 : decode cX13_rests 22 = .ok (.istore_n 3, 1) := dz0 dzo62 22 dzbX13_rests_0 rfl
theorem dX13_rests_23 : decode cX13_rests 23 = .ok (.iconst 0, 1) := dz0 dzo3 23 dzbX13_rests_0 rfl
theorem dzbX13_rests_24 : dzB cX13_rests 24 [54, 4, 21, 4, 7, 162, 0, 26, 29, 27, 21, 4, 184, 1, 158, 153, 0, 7, 4, 167, 0, 4, 3, 96] := by decide +kernel
theorem dX13_rests_24 : decode cX13_rests 24 = .ok (.istore 4, 2) := dz1 dzo54 0 4 dzbX13_rests_24 rfl
theorem dX13_rests_26 : decode cX13_rests 26 = .ok (.iload 4, 2) := dz1 dzo21 2 4 dzbX13_rests_24 rfl
theorem dX13_rests_28 : decode cX13_rests 28 = .ok (.iconst 4, 1) := dz0 dzo7 4 dzbX13_rests_24 rfl
theorem dX13_rests_29 : decode cX13_rests 29 = .ok (.if_icmp .ge 26, 3) := dz4 dzo162 5 0 26 26 rfl dzbX13_rests_24 rfl
theorem dX13_rests_32 : decode cX13_rests 32 = .ok (.iload_n 3, 1) := dz0 dzo29 8 dzbX13_rests_24 rfl
theorem dX13_rests_33 : decode cX13_rests 33 = .ok (.iload_n 1, 1) := dz0 dzo27 9 dzbX13_rests_24 rfl
theorem dX13_rests_34 : decode cX13_rests 34 = .ok (.iload 4, 2) := dz1 dzo21 10 4 dzbX13_rests_24 rfl
theorem dX13_rests_36 : decode cX13_rests 36 = .ok (.invokestatic 414, 3) := dz2 dzo184 12 1 158 dzbX13_rests_24 rfl
theorem dX13_rests_39 : decode cX13_rests 39 = .ok (.ifCond .eq 7, 3) := dz4 dzo153 15 0 7 7 rfl dzbX13_rests_24 rfl
theorem dX13_rests_42 : decode cX13_rests 42 = .ok (.iconst 1, 1) := dz0 dzo4 18 dzbX13_rests_24 rfl
theorem dX13_rests_43 : decode cX13_rests 43 = .ok (.goto 4, 3) := dz4 dzo167 19 0 4 4 rfl dzbX13_rests_24 rfl
theorem dX13_rests_46 : decode cX13_rests 46 = .ok (.iconst 0, 1) := dz0 dzo3 22 dzbX13_rests_24 rfl
theorem dX13_rests_47 : decode cX13_rests 47 = .ok (.iadd, 1) := dz0 dzo96 23 dzbX13_rests_24 rfl
theorem dzbX13_rests_48 : dzB cX13_rests 48 [62, 132, 4, 1, 167, 255, 230, 42, 29, 182, 0, 52, 172] := by decide +kernel
theorem dX13_rests_48 : decode cX13_rests 48 = .ok (.istore_n 3, 1) := dz0 dzo62 0 dzbX13_rests_48 rfl
theorem dX13_rests_49 : decode cX13_rests 49 = .ok (.iinc 4 1, 3) := dz5 dzo132 1 4 1 1 rfl dzbX13_rests_48 rfl
theorem dX13_rests_52 : decode cX13_rests 52 = .ok (.goto (-26), 3) := dz4 dzo167 4 255 230 (-26) rfl dzbX13_rests_48 rfl
theorem dX13_rests_55 : decode cX13_rests 55 = .ok (.aload_n 0, 1) := dz0 dzo42 7 dzbX13_rests_48 rfl
theorem dX13_rests_56 : decode cX13_rests 56 = .ok (.iload_n 3, 1) := dz0 dzo29 8 dzbX13_rests_48 rfl
theorem dX13_rests_57 : decode cX13_rests 57 = .ok (.invokevirtual 52, 3) := dz2 dzo182 9 0 52 dzbX13_rests_48 rfl
theorem dX13_rests_60 : decode cX13_rests 60 = .ok (.ireturn, 1) := dz0 dzo172 12 dzbX13_rests_48 rfl
theorem dzbX13_sets_0 : dzB cX13_sets 0 [4, 42, 180, 1, 13, 180, 0, 195, 120, 172] := by decide +kernel
theorem dX13_sets_0 : decode cX13_sets 0 = .ok (.iconst 1, 1) := dz0 dzo4 0 dzbX13_sets_0 rfl
theorem dX13_sets_1 : decode cX13_sets 1 = .ok (.aload_n 0, 1) := dz0 dzo42 1 dzbX13_sets_0 rfl
theorem dX13_sets_2 : decode cX13_sets 2 = .ok (.getfield 269, 3) := dz2 dzo180 2 1 13 dzbX13_sets_0 rfl
theorem dX13_sets_5 : decode cX13_sets 5 = .ok (.getfield 195, 3) := dz2 dzo180 5 0 195 dzbX13_sets_0 rfl
theorem dX13_sets_8 : decode cX13_sets 8 = .ok (.ishl, 1) := dz0 dzo120 8 dzbX13_sets_0 rfl
theorem dX13_sets_9 : decode cX13_sets 9 = .ok (.ireturn, 1) := dz0 dzo172 9 dzbX13_sets_0 rfl
theorem dzbX13_size_0 : dzB cX13_size 0 [42, 3, 181, 0, 42, 27, 16, 9, 160, 0, 8, 42, 180, 1, 6, 172, 27, 3, 16, 8, 184, 0, 124] := by decide +kernel
theorem dX13_size_0 : decode cX13_size 0 = .ok (.aload_n 0, 1) := dz0 dzo42 0 dzbX13_size_0 rfl
theorem dX13_size_1 : decode cX13_size 1 = .ok (.iconst 0, 1) := dz0 dzo3 1 dzbX13_size_0 rfl
theorem dX13_size_2 : decode cX13_size 2 = .ok (.putfield 42, 3) := dz2 dzo181 2 0 42 dzbX13_size_0 rfl
theorem dX13_size_5 : decode cX13_size 5 = .ok (.iload_n 1, 1) := dz0 dzo27 5 dzbX13_size_0 rfl
theorem dX13_size_6 : decode cX13_size 6 = .ok (.bipush 9, 2) := dz3 dzo16 6 9 9 rfl dzbX13_size_0 rfl
theorem dX13_size_8 : decode cX13_size 8 = .ok (.if_icmp .ne 8, 3) := dz4 dzo160 8 0 8 8 rfl dzbX13_size_0 rfl
theorem dX13_size_11 : decode cX13_size 11 = .ok (.aload_n 0, 1) := dz0 dzo42 11 dzbX13_size_0 rfl
theorem dX13_size_12 : decode cX13_size 12 = .ok (.getfield 262, 3) := dz2 dzo180 12 1 6 dzbX13_size_0 rfl
theorem dX13_size_15 : decode cX13_size 15 = .ok (.ireturn, 1) := dz0 dzo172 15 dzbX13_size_0 rfl
theorem dX13_size_16 : decode cX13_size 16 = .ok (.iload_n 1, 1) := dz0 dzo27 16 dzbX13_size_0 rfl
theorem dX13_size_17 : decode cX13_size 17 = .ok (.iconst 0, 1) := dz0 dzo3 17 dzbX13_size_0 rfl
theorem dX13_size_18 : decode cX13_size 18 = .ok (.bipush 8, 2) := dz3 dzo16 18 8 8 rfl dzbX13_size_0 rfl
theorem dX13_size_20 : decode cX13_size 20 = .ok (.invokestatic 124, 3) := dz2 dzo184 20 0 124 dzbX13_size_0 rfl
theorem dzbX13_size_23 : dzB cX13_size 23 [154, 0, 5, 2, 172, 42, 180, 1, 13, 199, 0, 5, 3, 172, 27] := by decide +kernel
theorem dX13_size_23 : decode cX13_size 23 = .ok (.ifCond .ne 5, 3) := dz4 dzo154 0 0 5 5 rfl dzbX13_size_23 rfl
theorem dX13_size_26 : decode cX13_size 26 = .ok (.iconst (-1), 1) := dz0 dzo2 3 dzbX13_size_23 rfl
theorem dX13_size_27 : decode cX13_size 27 = .ok (.ireturn, 1) := dz0 dzo172 4 dzbX13_size_23 rfl
theorem dX13_size_28 : decode cX13_size 28 = .ok (.aload_n 0, 1) := dz0 dzo42 5 dzbX13_size_23 rfl
theorem dX13_size_29 : decode cX13_size 29 = .ok (.getfield 269, 3) := dz2 dzo180 6 1 13 dzbX13_size_23 rfl
theorem dX13_size_32 : decode cX13_size 32 = .ok (.ifnonnull 5, 3) := dz4 dzo199 9 0 5 5 rfl dzbX13_size_23 rfl
theorem dX13_size_35 : decode cX13_size 35 = .ok (.iconst 0, 1) := dz0 dzo3 12 dzbX13_size_23 rfl
theorem dX13_size_36 : decode cX13_size 36 = .ok (.ireturn, 1) := dz0 dzo172 13 dzbX13_size_23 rfl
theorem dX13_size_37 : decode cX13_size 37 = .ok (.iload_n 1, 1) := dz0 dzo27 14 dzbX13_size_23 rfl
theorem dX13_size_38 : decode cX13_size 38 = .ok (.tableswitch 107 0 7 #[46, 54, 62, 70, 78, 86, 94, 102], 46) := by decide +kernel
theorem dzbX13_size_84 : dzB cX13_size 84 [42, 180, 1, 13, 180, 0, 158, 172, 42, 180, 1, 13, 180, 0, 166, 172, 42, 180, 1, 13, 180, 0, 191, 172] := by decide +kernel
theorem dX13_size_84 : decode cX13_size 84 = .ok (.aload_n 0, 1) := dz0 dzo42 0 dzbX13_size_84 rfl
theorem dX13_size_85 : decode cX13_size 85 = .ok (.getfield 269, 3) := dz2 dzo180 1 1 13 dzbX13_size_84 rfl
theorem dX13_size_88 : decode cX13_size 88 = .ok (.getfield 158, 3) := dz2 dzo180 4 0 158 dzbX13_size_84 rfl
theorem dX13_size_91 : decode cX13_size 91 = .ok (.ireturn, 1) := dz0 dzo172 7 dzbX13_size_84 rfl
theorem dX13_size_92 : decode cX13_size 92 = .ok (.aload_n 0, 1) := dz0 dzo42 8 dzbX13_size_84 rfl
theorem dX13_size_93 : decode cX13_size 93 = .ok (.getfield 269, 3) := dz2 dzo180 9 1 13 dzbX13_size_84 rfl
theorem dX13_size_96 : decode cX13_size 96 = .ok (.getfield 166, 3) := dz2 dzo180 12 0 166 dzbX13_size_84 rfl
theorem dX13_size_99 : decode cX13_size 99 = .ok (.ireturn, 1) := dz0 dzo172 15 dzbX13_size_84 rfl
theorem dX13_size_100 : decode cX13_size 100 = .ok (.aload_n 0, 1) := dz0 dzo42 16 dzbX13_size_84 rfl
theorem dX13_size_101 : decode cX13_size 101 = .ok (.getfield 269, 3) := dz2 dzo180 17 1 13 dzbX13_size_84 rfl
theorem dX13_size_104 : decode cX13_size 104 = .ok (.getfield 191, 3) := dz2 dzo180 20 0 191 dzbX13_size_84 rfl
theorem dX13_size_107 : decode cX13_size 107 = .ok (.ireturn, 1) := dz0 dzo172 23 dzbX13_size_84 rfl
theorem dzbX13_size_108 : dzB cX13_size 108 [42, 180, 1, 13, 180, 0, 193, 172, 42, 180, 1, 13, 180, 0, 206, 172, 42, 180, 1, 13, 180, 0, 245, 172] := by decide +kernel
theorem dX13_size_108 : decode cX13_size 108 = .ok (.aload_n 0, 1) := dz0 dzo42 0 dzbX13_size_108 rfl
theorem dX13_size_109 : decode cX13_size 109 = .ok (.getfield 269, 3) := dz2 dzo180 1 1 13 dzbX13_size_108 rfl
theorem dX13_size_112 : decode cX13_size 112 = .ok (.getfield 193, 3) := dz2 dzo180 4 0 193 dzbX13_size_108 rfl
theorem dX13_size_115 : decode cX13_size 115 = .ok (.ireturn, 1) := dz0 dzo172 7 dzbX13_size_108 rfl
theorem dX13_size_116 : decode cX13_size 116 = .ok (.aload_n 0, 1) := dz0 dzo42 8 dzbX13_size_108 rfl
theorem dX13_size_117 : decode cX13_size 117 = .ok (.getfield 269, 3) := dz2 dzo180 9 1 13 dzbX13_size_108 rfl
theorem dX13_size_120 : decode cX13_size 120 = .ok (.getfield 206, 3) := dz2 dzo180 12 0 206 dzbX13_size_108 rfl
theorem dX13_size_123 : decode cX13_size 123 = .ok (.ireturn, 1) := dz0 dzo172 15 dzbX13_size_108 rfl
theorem dX13_size_124 : decode cX13_size 124 = .ok (.aload_n 0, 1) := dz0 dzo42 16 dzbX13_size_108 rfl
theorem dX13_size_125 : decode cX13_size 125 = .ok (.getfield 269, 3) := dz2 dzo180 17 1 13 dzbX13_size_108 rfl
theorem dX13_size_128 : decode cX13_size 128 = .ok (.getfield 245, 3) := dz2 dzo180 20 0 245 dzbX13_size_108 rfl
theorem dX13_size_131 : decode cX13_size 131 = .ok (.ireturn, 1) := dz0 dzo172 23 dzbX13_size_108 rfl
theorem dzbX13_size_132 : dzB cX13_size 132 [42, 180, 1, 13, 180, 0, 195, 172, 42, 180, 1, 15, 172, 42, 180, 1, 18, 172] := by decide +kernel
theorem dX13_size_132 : decode cX13_size 132 = .ok (.aload_n 0, 1) := dz0 dzo42 0 dzbX13_size_132 rfl
theorem dX13_size_133 : decode cX13_size 133 = .ok (.getfield 269, 3) := dz2 dzo180 1 1 13 dzbX13_size_132 rfl
theorem dX13_size_136 : decode cX13_size 136 = .ok (.getfield 195, 3) := dz2 dzo180 4 0 195 dzbX13_size_132 rfl
theorem dX13_size_139 : decode cX13_size 139 = .ok (.ireturn, 1) := dz0 dzo172 7 dzbX13_size_132 rfl
theorem dX13_size_140 : decode cX13_size 140 = .ok (.aload_n 0, 1) := dz0 dzo42 8 dzbX13_size_132 rfl
theorem dX13_size_141 : decode cX13_size 141 = .ok (.getfield 271, 3) := dz2 dzo180 9 1 15 dzbX13_size_132 rfl
theorem dX13_size_144 : decode cX13_size 144 = .ok (.ireturn, 1) := dz0 dzo172 12 dzbX13_size_132 rfl
theorem dX13_size_145 : decode cX13_size 145 = .ok (.aload_n 0, 1) := dz0 dzo42 13 dzbX13_size_132 rfl
theorem dX13_size_146 : decode cX13_size 146 = .ok (.getfield 274, 3) := dz2 dzo180 14 1 18 dzbX13_size_132 rfl
theorem dX13_size_149 : decode cX13_size 149 = .ok (.ireturn, 1) := dz0 dzo172 17 dzbX13_size_132 rfl
theorem dzbX13_sortOf_0 : dzB cX13_sortOf 0 [26, 16, 111, 159, 0, 9, 26, 16, 117, 160, 0, 7, 3, 167, 0, 34, 26, 16, 100, 160, 0, 7, 4] := by decide +kernel
theorem dX13_sortOf_0 : decode cX13_sortOf 0 = .ok (.iload_n 0, 1) := dz0 dzo26 0 dzbX13_sortOf_0 rfl
theorem dX13_sortOf_1 : decode cX13_sortOf 1 = .ok (.bipush 111, 2) := dz3 dzo16 1 111 111 rfl dzbX13_sortOf_0 rfl
theorem dX13_sortOf_3 : decode cX13_sortOf 3 = .ok (.if_icmp .eq 9, 3) := dz4 dzo159 3 0 9 9 rfl dzbX13_sortOf_0 rfl
theorem dX13_sortOf_6 : decode cX13_sortOf 6 = .ok (.iload_n 0, 1) := dz0 dzo26 6 dzbX13_sortOf_0 rfl
theorem dX13_sortOf_7 : decode cX13_sortOf 7 = .ok (.bipush 117, 2) := dz3 dzo16 7 117 117 rfl dzbX13_sortOf_0 rfl
theorem dX13_sortOf_9 : decode cX13_sortOf 9 = .ok (.if_icmp .ne 7, 3) := dz4 dzo160 9 0 7 7 rfl dzbX13_sortOf_0 rfl
theorem dX13_sortOf_12 : decode cX13_sortOf 12 = .ok (.iconst 0, 1) := dz0 dzo3 12 dzbX13_sortOf_0 rfl
theorem dX13_sortOf_13 : decode cX13_sortOf 13 = .ok (.goto 34, 3) := dz4 dzo167 13 0 34 34 rfl dzbX13_sortOf_0 rfl
theorem dX13_sortOf_16 : decode cX13_sortOf 16 = .ok (.iload_n 0, 1) := dz0 dzo26 16 dzbX13_sortOf_0 rfl
theorem dX13_sortOf_17 : decode cX13_sortOf 17 = .ok (.bipush 100, 2) := dz3 dzo16 17 100 100 rfl dzbX13_sortOf_0 rfl
theorem dX13_sortOf_19 : decode cX13_sortOf 19 = .ok (.if_icmp .ne 7, 3) := dz4 dzo160 19 0 7 7 rfl dzbX13_sortOf_0 rfl
theorem dX13_sortOf_22 : decode cX13_sortOf 22 = .ok (.iconst 1, 1) := dz0 dzo4 22 dzbX13_sortOf_0 rfl
theorem dzbX13_sortOf_23 : dzB cX13_sortOf 23 [167, 0, 24, 26, 16, 103, 160, 0, 7, 5, 167, 0, 14, 26, 16, 104, 160, 0, 7, 6, 167, 0, 4, 2] := by decide +kernel
theorem dX13_sortOf_23 : decode cX13_sortOf 23 = .ok (.goto 24, 3) := dz4 dzo167 0 0 24 24 rfl dzbX13_sortOf_23 rfl
theorem dX13_sortOf_26 : decode cX13_sortOf 26 = .ok (.iload_n 0, 1) := dz0 dzo26 3 dzbX13_sortOf_23 rfl
theorem dX13_sortOf_27 : decode cX13_sortOf 27 = .ok (.bipush 103, 2) := dz3 dzo16 4 103 103 rfl dzbX13_sortOf_23 rfl
theorem dX13_sortOf_29 : decode cX13_sortOf 29 = .ok (.if_icmp .ne 7, 3) := dz4 dzo160 6 0 7 7 rfl dzbX13_sortOf_23 rfl
theorem dX13_sortOf_32 : decode cX13_sortOf 32 = .ok (.iconst 2, 1) := dz0 dzo5 9 dzbX13_sortOf_23 rfl
theorem dX13_sortOf_33 : decode cX13_sortOf 33 = .ok (.goto 14, 3) := dz4 dzo167 10 0 14 14 rfl dzbX13_sortOf_23 rfl
theorem dX13_sortOf_36 : decode cX13_sortOf 36 = .ok (.iload_n 0, 1) := dz0 dzo26 13 dzbX13_sortOf_23 rfl
theorem dX13_sortOf_37 : decode cX13_sortOf 37 = .ok (.bipush 104, 2) := dz3 dzo16 14 104 104 rfl dzbX13_sortOf_23 rfl
theorem dX13_sortOf_39 : decode cX13_sortOf 39 = .ok (.if_icmp .ne 7, 3) := dz4 dzo160 16 0 7 7 rfl dzbX13_sortOf_23 rfl
theorem dX13_sortOf_42 : decode cX13_sortOf 42 = .ok (.iconst 3, 1) := dz0 dzo6 19 dzbX13_sortOf_23 rfl
theorem dX13_sortOf_43 : decode cX13_sortOf 43 = .ok (.goto 4, 3) := dz4 dzo167 20 0 4 4 rfl dzbX13_sortOf_23 rfl
theorem dX13_sortOf_46 : decode cX13_sortOf 46 = .ok (.iconst (-1), 1) := dz0 dzo2 23 dzbX13_sortOf_23 rfl
theorem dzbX13_sortOf_47 : dzB cX13_sortOf 47 [172] := by decide +kernel
theorem dX13_sortOf_47 : decode cX13_sortOf 47 = .ok (.ireturn, 1) := dz0 dzo172 0 dzbX13_sortOf_47 rfl
theorem dzbX13_step_0 : dzB cX13_step 0 [42, 3, 181, 0, 42, 42, 27, 182, 1, 55, 154, 0, 9, 42, 4, 182, 0, 48, 172, 28, 3, 6] := by decide +kernel
theorem dX13_step_0 : decode cX13_step 0 = .ok (.aload_n 0, 1) := dz0 dzo42 0 dzbX13_step_0 rfl
theorem dX13_step_1 : decode cX13_step 1 = .ok (.iconst 0, 1) := dz0 dzo3 1 dzbX13_step_0 rfl
theorem dX13_step_2 : decode cX13_step 2 = .ok (.putfield 42, 3) := dz2 dzo181 2 0 42 dzbX13_step_0 rfl
theorem dX13_step_5 : decode cX13_step 5 = .ok (.aload_n 0, 1) := dz0 dzo42 5 dzbX13_step_0 rfl
theorem dX13_step_6 : decode cX13_step 6 = .ok (.iload_n 1, 1) := dz0 dzo27 6 dzbX13_step_0 rfl
theorem dX13_step_7 : decode cX13_step 7 = .ok (.invokevirtual 311, 3) := dz2 dzo182 7 1 55 dzbX13_step_0 rfl
theorem dX13_step_10 : decode cX13_step 10 = .ok (.ifCond .ne 9, 3) := dz4 dzo154 10 0 9 9 rfl dzbX13_step_0 rfl
theorem dX13_step_13 : decode cX13_step 13 = .ok (.aload_n 0, 1) := dz0 dzo42 13 dzbX13_step_0 rfl
theorem dX13_step_14 : decode cX13_step 14 = .ok (.iconst 1, 1) := dz0 dzo4 14 dzbX13_step_0 rfl
theorem dX13_step_15 : decode cX13_step 15 = .ok (.invokevirtual 48, 3) := dz2 dzo182 15 0 48 dzbX13_step_0 rfl
theorem dX13_step_18 : decode cX13_step 18 = .ok (.ireturn, 1) := dz0 dzo172 18 dzbX13_step_0 rfl
theorem dX13_step_19 : decode cX13_step 19 = .ok (.iload_n 2, 1) := dz0 dzo28 19 dzbX13_step_0 rfl
theorem dX13_step_20 : decode cX13_step 20 = .ok (.iconst 0, 1) := dz0 dzo3 20 dzbX13_step_0 rfl
theorem dX13_step_21 : decode cX13_step 21 = .ok (.iconst 3, 1) := dz0 dzo6 21 dzbX13_step_0 rfl
theorem dzbX13_step_22 : dzB cX13_step 22 [184, 0, 124, 154, 0, 9, 42, 5, 182, 0, 48, 172, 42, 182, 1, 61, 42, 180, 0, 17, 16, 20, 27, 96] := by decide +kernel
theorem dX13_step_22 : decode cX13_step 22 = .ok (.invokestatic 124, 3) := dz2 dzo184 0 0 124 dzbX13_step_22 rfl
theorem dX13_step_25 : decode cX13_step 25 = .ok (.ifCond .ne 9, 3) := dz4 dzo154 3 0 9 9 rfl dzbX13_step_22 rfl
theorem dX13_step_28 : decode cX13_step 28 = .ok (.aload_n 0, 1) := dz0 dzo42 6 dzbX13_step_22 rfl
theorem dX13_step_29 : decode cX13_step 29 = .ok (.iconst 2, 1) := dz0 dzo5 7 dzbX13_step_22 rfl
theorem dX13_step_30 : decode cX13_step 30 = .ok (.invokevirtual 48, 3) := dz2 dzo182 8 0 48 dzbX13_step_22 rfl
theorem dX13_step_33 : decode cX13_step 33 = .ok (.ireturn, 1) := dz0 dzo172 11 dzbX13_step_22 rfl
theorem dX13_step_34 : decode cX13_step 34 = .ok (.aload_n 0, 1) := dz0 dzo42 12 dzbX13_step_22 rfl
theorem dX13_step_35 : decode cX13_step 35 = .ok (.invokevirtual 317, 3) := dz2 dzo182 13 1 61 dzbX13_step_22 rfl
theorem dX13_step_38 : decode cX13_step 38 = .ok (.aload_n 0, 1) := dz0 dzo42 16 dzbX13_step_22 rfl
theorem dX13_step_39 : decode cX13_step 39 = .ok (.getfield 17, 3) := dz2 dzo180 17 0 17 dzbX13_step_22 rfl
theorem dX13_step_42 : decode cX13_step 42 = .ok (.bipush 20, 2) := dz3 dzo16 20 20 20 rfl dzbX13_step_22 rfl
theorem dX13_step_44 : decode cX13_step 44 = .ok (.iload_n 1, 1) := dz0 dzo27 22 dzbX13_step_22 rfl
theorem dX13_step_45 : decode cX13_step 45 = .ok (.iadd, 1) := dz0 dzo96 23 dzbX13_step_22 rfl
theorem dzbX13_step_46 : dzB cX13_step 46 [46, 62, 42, 42, 180, 1, 13, 180, 0, 238, 27, 46, 29, 28, 182, 1, 33, 54, 4, 21, 4, 16, 254] := by decide +kernel
theorem dX13_step_46 : decode cX13_step 46 = .ok (.iaload, 1) := dz0 dzo46 0 dzbX13_step_46 rfl
theorem dX13_step_47 : decode cX13_step 47 = .ok (.istore_n 3, 1) := dz0 dzo62 1 dzbX13_step_46 rfl
theorem dX13_step_48 : decode cX13_step 48 = .ok (.aload_n 0, 1) := dz0 dzo42 2 dzbX13_step_46 rfl
theorem dX13_step_49 : decode cX13_step 49 = .ok (.aload_n 0, 1) := dz0 dzo42 3 dzbX13_step_46 rfl
theorem dX13_step_50 : decode cX13_step 50 = .ok (.getfield 269, 3) := dz2 dzo180 4 1 13 dzbX13_step_46 rfl
theorem dX13_step_53 : decode cX13_step 53 = .ok (.getfield 238, 3) := dz2 dzo180 7 0 238 dzbX13_step_46 rfl
theorem dX13_step_56 : decode cX13_step 56 = .ok (.iload_n 1, 1) := dz0 dzo27 10 dzbX13_step_46 rfl
theorem dX13_step_57 : decode cX13_step 57 = .ok (.iaload, 1) := dz0 dzo46 11 dzbX13_step_46 rfl
theorem dX13_step_58 : decode cX13_step 58 = .ok (.iload_n 3, 1) := dz0 dzo29 12 dzbX13_step_46 rfl
theorem dX13_step_59 : decode cX13_step 59 = .ok (.iload_n 2, 1) := dz0 dzo28 13 dzbX13_step_46 rfl
theorem dX13_step_60 : decode cX13_step 60 = .ok (.invokevirtual 289, 3) := dz2 dzo182 14 1 33 dzbX13_step_46 rfl
theorem dX13_step_63 : decode cX13_step 63 = .ok (.istore 4, 2) := dz1 dzo54 17 4 dzbX13_step_46 rfl
theorem dX13_step_65 : decode cX13_step 65 = .ok (.iload 4, 2) := dz1 dzo21 19 4 dzbX13_step_46 rfl
theorem dX13_step_67 : decode cX13_step 67 = .ok (.bipush (-2), 2) := dz3 dzo16 21 254 (-2) rfl dzbX13_step_46 rfl
theorem dzbX13_step_69 : dzB cX13_step 69 [160, 0, 10, 42, 16, 6, 182, 0, 48, 172, 42, 182, 1, 189, 42, 180, 0, 17, 16, 20, 27, 96, 42, 29] := by decide +kernel
theorem dX13_step_69 : decode cX13_step 69 = .ok (.if_icmp .ne 10, 3) := dz4 dzo160 0 0 10 10 rfl dzbX13_step_69 rfl
theorem dX13_step_72 : decode cX13_step 72 = .ok (.aload_n 0, 1) := dz0 dzo42 3 dzbX13_step_69 rfl
theorem dX13_step_73 : decode cX13_step 73 = .ok (.bipush 6, 2) := dz3 dzo16 4 6 6 rfl dzbX13_step_69 rfl
theorem dX13_step_75 : decode cX13_step 75 = .ok (.invokevirtual 48, 3) := dz2 dzo182 6 0 48 dzbX13_step_69 rfl
theorem dX13_step_78 : decode cX13_step 78 = .ok (.ireturn, 1) := dz0 dzo172 9 dzbX13_step_69 rfl
theorem dX13_step_79 : decode cX13_step 79 = .ok (.aload_n 0, 1) := dz0 dzo42 10 dzbX13_step_69 rfl
theorem dX13_step_80 : decode cX13_step 80 = .ok (.invokevirtual 445, 3) := dz2 dzo182 11 1 189 dzbX13_step_69 rfl
theorem dX13_step_83 : decode cX13_step 83 = .ok (.aload_n 0, 1) := dz0 dzo42 14 dzbX13_step_69 rfl
theorem dX13_step_84 : decode cX13_step 84 = .ok (.getfield 17, 3) := dz2 dzo180 15 0 17 dzbX13_step_69 rfl
theorem dX13_step_87 : decode cX13_step 87 = .ok (.bipush 20, 2) := dz3 dzo16 18 20 20 rfl dzbX13_step_69 rfl
theorem dX13_step_89 : decode cX13_step 89 = .ok (.iload_n 1, 1) := dz0 dzo27 20 dzbX13_step_69 rfl
theorem dX13_step_90 : decode cX13_step 90 = .ok (.iadd, 1) := dz0 dzo96 21 dzbX13_step_69 rfl
theorem dX13_step_91 : decode cX13_step 91 = .ok (.aload_n 0, 1) := dz0 dzo42 22 dzbX13_step_69 rfl
theorem dX13_step_92 : decode cX13_step 92 = .ok (.iload_n 3, 1) := dz0 dzo29 23 dzbX13_step_69 rfl
theorem dzbX13_step_93 : dzB cX13_step 93 [28, 182, 1, 24, 79, 42, 180, 0, 17, 16, 24, 27, 96, 92, 46, 42, 42, 180, 1, 13, 180, 0, 238, 27] := by decide +kernel
theorem dX13_step_93 : decode cX13_step 93 = .ok (.iload_n 2, 1) := dz0 dzo28 0 dzbX13_step_93 rfl
theorem dX13_step_94 : decode cX13_step 94 = .ok (.invokevirtual 280, 3) := dz2 dzo182 1 1 24 dzbX13_step_93 rfl
theorem dX13_step_97 : decode cX13_step 97 = .ok (.iastore, 1) := dz0 dzo79 4 dzbX13_step_93 rfl
theorem dX13_step_98 : decode cX13_step 98 = .ok (.aload_n 0, 1) := dz0 dzo42 5 dzbX13_step_93 rfl
theorem dX13_step_99 : decode cX13_step 99 = .ok (.getfield 17, 3) := dz2 dzo180 6 0 17 dzbX13_step_93 rfl
theorem dX13_step_102 : decode cX13_step 102 = .ok (.bipush 24, 2) := dz3 dzo16 9 24 24 rfl dzbX13_step_93 rfl
theorem dX13_step_104 : decode cX13_step 104 = .ok (.iload_n 1, 1) := dz0 dzo27 11 dzbX13_step_93 rfl
theorem dX13_step_105 : decode cX13_step 105 = .ok (.iadd, 1) := dz0 dzo96 12 dzbX13_step_93 rfl
theorem dX13_step_106 : decode cX13_step 106 = .ok (.dup2, 1) := dz0 dzo92 13 dzbX13_step_93 rfl
theorem dX13_step_107 : decode cX13_step 107 = .ok (.iaload, 1) := dz0 dzo46 14 dzbX13_step_93 rfl
theorem dX13_step_108 : decode cX13_step 108 = .ok (.aload_n 0, 1) := dz0 dzo42 15 dzbX13_step_93 rfl
theorem dX13_step_109 : decode cX13_step 109 = .ok (.aload_n 0, 1) := dz0 dzo42 16 dzbX13_step_93 rfl
theorem dX13_step_110 : decode cX13_step 110 = .ok (.getfield 269, 3) := dz2 dzo180 17 1 13 dzbX13_step_93 rfl
theorem dX13_step_113 : decode cX13_step 113 = .ok (.getfield 238, 3) := dz2 dzo180 20 0 238 dzbX13_step_93 rfl
theorem dX13_step_116 : decode cX13_step 116 = .ok (.iload_n 1, 1) := dz0 dzo27 23 dzbX13_step_93 rfl
theorem dzbX13_step_117 : dzB cX13_step 117 [46, 29, 28, 182, 1, 30, 153, 0, 7, 4, 167, 0, 4, 3, 96, 79, 42, 180, 0, 17, 16, 28, 27, 96] := by decide +kernel
theorem dX13_step_117 : decode cX13_step 117 = .ok (.iaload, 1) := dz0 dzo46 0 dzbX13_step_117 rfl
theorem dX13_step_118 : decode cX13_step 118 = .ok (.iload_n 3, 1) := dz0 dzo29 1 dzbX13_step_117 rfl
theorem dX13_step_119 : decode cX13_step 119 = .ok (.iload_n 2, 1) := dz0 dzo28 2 dzbX13_step_117 rfl
theorem dX13_step_120 : decode cX13_step 120 = .ok (.invokevirtual 286, 3) := dz2 dzo182 3 1 30 dzbX13_step_117 rfl
theorem dX13_step_123 : decode cX13_step 123 = .ok (.ifCond .eq 7, 3) := dz4 dzo153 6 0 7 7 rfl dzbX13_step_117 rfl
theorem dX13_step_126 : decode cX13_step 126 = .ok (.iconst 1, 1) := dz0 dzo4 9 dzbX13_step_117 rfl
theorem dX13_step_127 : decode cX13_step 127 = .ok (.goto 4, 3) := dz4 dzo167 10 0 4 4 rfl dzbX13_step_117 rfl
theorem dX13_step_130 : decode cX13_step 130 = .ok (.iconst 0, 1) := dz0 dzo3 13 dzbX13_step_117 rfl
theorem dX13_step_131 : decode cX13_step 131 = .ok (.iadd, 1) := dz0 dzo96 14 dzbX13_step_117 rfl
theorem dX13_step_132 : decode cX13_step 132 = .ok (.iastore, 1) := dz0 dzo79 15 dzbX13_step_117 rfl
theorem dX13_step_133 : decode cX13_step 133 = .ok (.aload_n 0, 1) := dz0 dzo42 16 dzbX13_step_117 rfl
theorem dX13_step_134 : decode cX13_step 134 = .ok (.getfield 17, 3) := dz2 dzo180 17 0 17 dzbX13_step_117 rfl
theorem dX13_step_137 : decode cX13_step 137 = .ok (.bipush 28, 2) := dz3 dzo16 20 28 28 rfl dzbX13_step_117 rfl
theorem dX13_step_139 : decode cX13_step 139 = .ok (.iload_n 1, 1) := dz0 dzo27 22 dzbX13_step_117 rfl
theorem dX13_step_140 : decode cX13_step 140 = .ok (.iadd, 1) := dz0 dzo96 23 dzbX13_step_117 rfl
theorem dzbX13_step_141 : dzB cX13_step 141 [92, 46, 21, 4, 96, 79, 42, 42, 180, 0, 17, 16, 20, 27, 96, 46, 182, 0, 52, 172] := by decide +kernel
theorem dX13_step_141 : decode cX13_step 141 = .ok (.dup2, 1) := dz0 dzo92 0 dzbX13_step_141 rfl
theorem dX13_step_142 : decode cX13_step 142 = .ok (.iaload, 1) := dz0 dzo46 1 dzbX13_step_141 rfl
theorem dX13_step_143 : decode cX13_step 143 = .ok (.iload 4, 2) := dz1 dzo21 2 4 dzbX13_step_141 rfl
theorem dX13_step_145 : decode cX13_step 145 = .ok (.iadd, 1) := dz0 dzo96 4 dzbX13_step_141 rfl
theorem dX13_step_146 : decode cX13_step 146 = .ok (.iastore, 1) := dz0 dzo79 5 dzbX13_step_141 rfl
theorem dX13_step_147 : decode cX13_step 147 = .ok (.aload_n 0, 1) := dz0 dzo42 6 dzbX13_step_141 rfl
theorem dX13_step_148 : decode cX13_step 148 = .ok (.aload_n 0, 1) := dz0 dzo42 7 dzbX13_step_141 rfl
theorem dX13_step_149 : decode cX13_step 149 = .ok (.getfield 17, 3) := dz2 dzo180 8 0 17 dzbX13_step_141 rfl
theorem dX13_step_152 : decode cX13_step 152 = .ok (.bipush 20, 2) := dz3 dzo16 11 20 20 rfl dzbX13_step_141 rfl
theorem dX13_step_154 : decode cX13_step 154 = .ok (.iload_n 1, 1) := dz0 dzo27 13 dzbX13_step_141 rfl
theorem dX13_step_155 : decode cX13_step 155 = .ok (.iadd, 1) := dz0 dzo96 14 dzbX13_step_141 rfl
theorem dX13_step_156 : decode cX13_step 156 = .ok (.iaload, 1) := dz0 dzo46 15 dzbX13_step_141 rfl
theorem dX13_step_157 : decode cX13_step 157 = .ok (.invokevirtual 52, 3) := dz2 dzo182 16 0 52 dzbX13_step_141 rfl
theorem dX13_step_160 : decode cX13_step 160 = .ok (.ireturn, 1) := dz0 dzo172 19 dzbX13_step_141 rfl
theorem dzbX13_stepFrom_0 : dzB cX13_stepFrom 0 [42, 180, 1, 13, 180, 0, 238, 27, 46, 54, 4, 3, 54, 5, 42, 21, 4, 28, 21, 5, 182, 1, 33] := by decide +kernel
theorem dX13_stepFrom_0 : decode cX13_stepFrom 0 = .ok (.aload_n 0, 1) := dz0 dzo42 0 dzbX13_stepFrom_0 rfl
theorem dX13_stepFrom_1 : decode cX13_stepFrom 1 = .ok (.getfield 269, 3) := dz2 dzo180 1 1 13 dzbX13_stepFrom_0 rfl
theorem dX13_stepFrom_4 : decode cX13_stepFrom 4 = .ok (.getfield 238, 3) := dz2 dzo180 4 0 238 dzbX13_stepFrom_0 rfl
theorem dX13_stepFrom_7 : decode cX13_stepFrom 7 = .ok (.iload_n 1, 1) := dz0 dzo27 7 dzbX13_stepFrom_0 rfl
theorem dX13_stepFrom_8 : decode cX13_stepFrom 8 = .ok (.iaload, 1) := dz0 dzo46 8 dzbX13_stepFrom_0 rfl
theorem dX13_stepFrom_9 : decode cX13_stepFrom 9 = .ok (.istore 4, 2) := dz1 dzo54 9 4 dzbX13_stepFrom_0 rfl
theorem dX13_stepFrom_11 : decode cX13_stepFrom 11 = .ok (.iconst 0, 1) := dz0 dzo3 11 dzbX13_stepFrom_0 rfl
theorem dX13_stepFrom_12 : decode cX13_stepFrom 12 = .ok (.istore 5, 2) := dz1 dzo54 12 5 dzbX13_stepFrom_0 rfl
theorem dX13_stepFrom_14 : decode cX13_stepFrom 14 = .ok (.aload_n 0, 1) := dz0 dzo42 14 dzbX13_stepFrom_0 rfl
theorem dX13_stepFrom_15 : decode cX13_stepFrom 15 = .ok (.iload 4, 2) := dz1 dzo21 15 4 dzbX13_stepFrom_0 rfl
theorem dX13_stepFrom_17 : decode cX13_stepFrom 17 = .ok (.iload_n 2, 1) := dz0 dzo28 17 dzbX13_stepFrom_0 rfl
theorem dX13_stepFrom_18 : decode cX13_stepFrom 18 = .ok (.iload 5, 2) := dz1 dzo21 18 5 dzbX13_stepFrom_0 rfl
theorem dX13_stepFrom_20 : decode cX13_stepFrom 20 = .ok (.invokevirtual 289, 3) := dz2 dzo182 20 1 33 dzbX13_stepFrom_0 rfl
theorem dzbX13_stepFrom_23 : dzB cX13_stepFrom 23 [16, 254, 159, 0, 53, 42, 180, 0, 30, 42, 28, 21, 5, 182, 1, 24, 46, 19, 1, 37, 159, 0, 35, 42] := by decide +kernel
theorem dX13_stepFrom_23 : decode cX13_stepFrom 23 = .ok (.bipush (-2), 2) := dz3 dzo16 0 254 (-2) rfl dzbX13_stepFrom_23 rfl
theorem dX13_stepFrom_25 : decode cX13_stepFrom 25 = .ok (.if_icmp .eq 53, 3) := dz4 dzo159 2 0 53 53 rfl dzbX13_stepFrom_23 rfl
theorem dX13_stepFrom_28 : decode cX13_stepFrom 28 = .ok (.aload_n 0, 1) := dz0 dzo42 5 dzbX13_stepFrom_23 rfl
theorem dX13_stepFrom_29 : decode cX13_stepFrom 29 = .ok (.getfield 30, 3) := dz2 dzo180 6 0 30 dzbX13_stepFrom_23 rfl
theorem dX13_stepFrom_32 : decode cX13_stepFrom 32 = .ok (.aload_n 0, 1) := dz0 dzo42 9 dzbX13_stepFrom_23 rfl
theorem dX13_stepFrom_33 : decode cX13_stepFrom 33 = .ok (.iload_n 2, 1) := dz0 dzo28 10 dzbX13_stepFrom_23 rfl
theorem dX13_stepFrom_34 : decode cX13_stepFrom 34 = .ok (.iload 5, 2) := dz1 dzo21 11 5 dzbX13_stepFrom_23 rfl
theorem dX13_stepFrom_36 : decode cX13_stepFrom 36 = .ok (.invokevirtual 280, 3) := dz2 dzo182 13 1 24 dzbX13_stepFrom_23 rfl
theorem dX13_stepFrom_39 : decode cX13_stepFrom 39 = .ok (.iaload, 1) := dz0 dzo46 16 dzbX13_stepFrom_23 rfl
theorem dX13_stepFrom_40 : decode cX13_stepFrom 40 = .ok (.ldc_w 293, 3) := dz2 dzo19 17 1 37 dzbX13_stepFrom_23 rfl
theorem dX13_stepFrom_43 : decode cX13_stepFrom 43 = .ok (.if_icmp .eq 35, 3) := dz4 dzo159 20 0 35 35 rfl dzbX13_stepFrom_23 rfl
theorem dX13_stepFrom_46 : decode cX13_stepFrom 46 = .ok (.aload_n 0, 1) := dz0 dzo42 23 dzbX13_stepFrom_23 rfl
theorem dzbX13_stepFrom_47 : dzB cX13_stepFrom 47 [21, 4, 28, 21, 5, 29, 182, 1, 38, 42, 180, 0, 30, 42, 28, 21, 5, 182, 1, 24, 46, 96, 42] := by decide +kernel
theorem dX13_stepFrom_47 : decode cX13_stepFrom 47 = .ok (.iload 4, 2) := dz1 dzo21 0 4 dzbX13_stepFrom_47 rfl
theorem dX13_stepFrom_49 : decode cX13_stepFrom 49 = .ok (.iload_n 2, 1) := dz0 dzo28 2 dzbX13_stepFrom_47 rfl
theorem dX13_stepFrom_50 : decode cX13_stepFrom 50 = .ok (.iload 5, 2) := dz1 dzo21 3 5 dzbX13_stepFrom_47 rfl
theorem dX13_stepFrom_52 : decode cX13_stepFrom 52 = .ok (.iload_n 3, 1) := dz0 dzo29 5 dzbX13_stepFrom_47 rfl
theorem dX13_stepFrom_53 : decode cX13_stepFrom 53 = .ok (.invokevirtual 294, 3) := dz2 dzo182 6 1 38 dzbX13_stepFrom_47 rfl
theorem dX13_stepFrom_56 : decode cX13_stepFrom 56 = .ok (.aload_n 0, 1) := dz0 dzo42 9 dzbX13_stepFrom_47 rfl
theorem dX13_stepFrom_57 : decode cX13_stepFrom 57 = .ok (.getfield 30, 3) := dz2 dzo180 10 0 30 dzbX13_stepFrom_47 rfl
theorem dX13_stepFrom_60 : decode cX13_stepFrom 60 = .ok (.aload_n 0, 1) := dz0 dzo42 13 dzbX13_stepFrom_47 rfl
theorem dX13_stepFrom_61 : decode cX13_stepFrom 61 = .ok (.iload_n 2, 1) := dz0 dzo28 14 dzbX13_stepFrom_47 rfl
theorem dX13_stepFrom_62 : decode cX13_stepFrom 62 = .ok (.iload 5, 2) := dz1 dzo21 15 5 dzbX13_stepFrom_47 rfl
theorem dX13_stepFrom_64 : decode cX13_stepFrom 64 = .ok (.invokevirtual 280, 3) := dz2 dzo182 17 1 24 dzbX13_stepFrom_47 rfl
theorem dX13_stepFrom_67 : decode cX13_stepFrom 67 = .ok (.iaload, 1) := dz0 dzo46 20 dzbX13_stepFrom_47 rfl
theorem dX13_stepFrom_68 : decode cX13_stepFrom 68 = .ok (.iadd, 1) := dz0 dzo96 21 dzbX13_stepFrom_47 rfl
theorem dX13_stepFrom_69 : decode cX13_stepFrom 69 = .ok (.aload_n 0, 1) := dz0 dzo42 22 dzbX13_stepFrom_47 rfl
theorem dzbX13_stepFrom_70 : dzB cX13_stepFrom 70 [180, 0, 30, 28, 46, 159, 0, 9, 132, 5, 1, 167, 255, 189, 21, 5, 172] := by decide +kernel
theorem dX13_stepFrom_70 : decode cX13_stepFrom 70 = .ok (.getfield 30, 3) := dz2 dzo180 0 0 30 dzbX13_stepFrom_70 rfl
theorem dX13_stepFrom_73 : decode cX13_stepFrom 73 = .ok (.iload_n 2, 1) := dz0 dzo28 3 dzbX13_stepFrom_70 rfl
theorem dX13_stepFrom_74 : decode cX13_stepFrom 74 = .ok (.iaload, 1) := dz0 dzo46 4 dzbX13_stepFrom_70 rfl
theorem dX13_stepFrom_75 : decode cX13_stepFrom 75 = .ok (.if_icmp .eq 9, 3) := dz4 dzo159 5 0 9 9 rfl dzbX13_stepFrom_70 rfl
theorem dX13_stepFrom_78 : decode cX13_stepFrom 78 = .ok (.iinc 5 1, 3) := dz5 dzo132 8 5 1 1 rfl dzbX13_stepFrom_70 rfl
theorem dX13_stepFrom_81 : decode cX13_stepFrom 81 = .ok (.goto (-67), 3) := dz4 dzo167 11 255 189 (-67) rfl dzbX13_stepFrom_70 rfl
theorem dX13_stepFrom_84 : decode cX13_stepFrom 84 = .ok (.iload 5, 2) := dz1 dzo21 14 5 dzbX13_stepFrom_70 rfl
theorem dX13_stepFrom_86 : decode cX13_stepFrom 86 = .ok (.ireturn, 1) := dz0 dzo172 16 dzbX13_stepFrom_70 rfl
theorem dzbX13_strayed_0 : dzB cX13_strayed 0 [42, 3, 181, 0, 42, 42, 27, 28, 29, 182, 1, 182, 54, 4, 21, 4, 158, 0, 10, 42, 21, 4] := by decide +kernel
theorem dX13_strayed_0 : decode cX13_strayed 0 = .ok (.aload_n 0, 1) := dz0 dzo42 0 dzbX13_strayed_0 rfl
theorem dX13_strayed_1 : decode cX13_strayed 1 = .ok (.iconst 0, 1) := dz0 dzo3 1 dzbX13_strayed_0 rfl
theorem dX13_strayed_2 : decode cX13_strayed 2 = .ok (.putfield 42, 3) := dz2 dzo181 2 0 42 dzbX13_strayed_0 rfl
theorem dX13_strayed_5 : decode cX13_strayed 5 = .ok (.aload_n 0, 1) := dz0 dzo42 5 dzbX13_strayed_0 rfl
theorem dX13_strayed_6 : decode cX13_strayed 6 = .ok (.iload_n 1, 1) := dz0 dzo27 6 dzbX13_strayed_0 rfl
theorem dX13_strayed_7 : decode cX13_strayed 7 = .ok (.iload_n 2, 1) := dz0 dzo28 7 dzbX13_strayed_0 rfl
theorem dX13_strayed_8 : decode cX13_strayed 8 = .ok (.iload_n 3, 1) := dz0 dzo29 8 dzbX13_strayed_0 rfl
theorem dX13_strayed_9 : decode cX13_strayed 9 = .ok (.invokevirtual 438, 3) := dz2 dzo182 9 1 182 dzbX13_strayed_0 rfl
theorem dX13_strayed_12 : decode cX13_strayed 12 = .ok (.istore 4, 2) := dz1 dzo54 12 4 dzbX13_strayed_0 rfl
theorem dX13_strayed_14 : decode cX13_strayed 14 = .ok (.iload 4, 2) := dz1 dzo21 14 4 dzbX13_strayed_0 rfl
theorem dX13_strayed_16 : decode cX13_strayed 16 = .ok (.ifCond .le 10, 3) := dz4 dzo158 16 0 10 10 rfl dzbX13_strayed_0 rfl
theorem dX13_strayed_19 : decode cX13_strayed 19 = .ok (.aload_n 0, 1) := dz0 dzo42 19 dzbX13_strayed_0 rfl
theorem dX13_strayed_20 : decode cX13_strayed 20 = .ok (.iload 4, 2) := dz1 dzo21 20 4 dzbX13_strayed_0 rfl
theorem dzbX13_strayed_22 : dzB cX13_strayed 22 [182, 0, 48, 172, 42, 27, 28, 29, 182, 1, 185, 42, 42, 180, 1, 169, 182, 0, 52, 172] := by decide +kernel
theorem dX13_strayed_22 : decode cX13_strayed 22 = .ok (.invokevirtual 48, 3) := dz2 dzo182 0 0 48 dzbX13_strayed_22 rfl
theorem dX13_strayed_25 : decode cX13_strayed 25 = .ok (.ireturn, 1) := dz0 dzo172 3 dzbX13_strayed_22 rfl
theorem dX13_strayed_26 : decode cX13_strayed 26 = .ok (.aload_n 0, 1) := dz0 dzo42 4 dzbX13_strayed_22 rfl
theorem dX13_strayed_27 : decode cX13_strayed 27 = .ok (.iload_n 1, 1) := dz0 dzo27 5 dzbX13_strayed_22 rfl
theorem dX13_strayed_28 : decode cX13_strayed 28 = .ok (.iload_n 2, 1) := dz0 dzo28 6 dzbX13_strayed_22 rfl
theorem dX13_strayed_29 : decode cX13_strayed 29 = .ok (.iload_n 3, 1) := dz0 dzo29 7 dzbX13_strayed_22 rfl
theorem dX13_strayed_30 : decode cX13_strayed 30 = .ok (.invokevirtual 441, 3) := dz2 dzo182 8 1 185 dzbX13_strayed_22 rfl
theorem dX13_strayed_33 : decode cX13_strayed 33 = .ok (.aload_n 0, 1) := dz0 dzo42 11 dzbX13_strayed_22 rfl
theorem dX13_strayed_34 : decode cX13_strayed 34 = .ok (.aload_n 0, 1) := dz0 dzo42 12 dzbX13_strayed_22 rfl
theorem dX13_strayed_35 : decode cX13_strayed 35 = .ok (.getfield 425, 3) := dz2 dzo180 13 1 169 dzbX13_strayed_22 rfl
theorem dX13_strayed_38 : decode cX13_strayed 38 = .ok (.invokevirtual 52, 3) := dz2 dzo182 16 0 52 dzbX13_strayed_22 rfl
theorem dX13_strayed_41 : decode cX13_strayed 41 = .ok (.ireturn, 1) := dz0 dzo172 19 dzbX13_strayed_22 rfl
theorem dzbX13_toFill_0 : dzB cX13_toFill 0 [42, 3, 181, 0, 42, 42, 180, 1, 13, 199, 0, 9, 42, 4, 182, 0, 48, 172, 16, 254, 60, 19, 1, 37] := by decide +kernel
theorem dX13_toFill_0 : decode cX13_toFill 0 = .ok (.aload_n 0, 1) := dz0 dzo42 0 dzbX13_toFill_0 rfl
theorem dX13_toFill_1 : decode cX13_toFill 1 = .ok (.iconst 0, 1) := dz0 dzo3 1 dzbX13_toFill_0 rfl
theorem dX13_toFill_2 : decode cX13_toFill 2 = .ok (.putfield 42, 3) := dz2 dzo181 2 0 42 dzbX13_toFill_0 rfl
theorem dX13_toFill_5 : decode cX13_toFill 5 = .ok (.aload_n 0, 1) := dz0 dzo42 5 dzbX13_toFill_0 rfl
theorem dX13_toFill_6 : decode cX13_toFill 6 = .ok (.getfield 269, 3) := dz2 dzo180 6 1 13 dzbX13_toFill_0 rfl
theorem dX13_toFill_9 : decode cX13_toFill 9 = .ok (.ifnonnull 9, 3) := dz4 dzo199 9 0 9 9 rfl dzbX13_toFill_0 rfl
theorem dX13_toFill_12 : decode cX13_toFill 12 = .ok (.aload_n 0, 1) := dz0 dzo42 12 dzbX13_toFill_0 rfl
theorem dX13_toFill_13 : decode cX13_toFill 13 = .ok (.iconst 1, 1) := dz0 dzo4 13 dzbX13_toFill_0 rfl
theorem dX13_toFill_14 : decode cX13_toFill 14 = .ok (.invokevirtual 48, 3) := dz2 dzo182 14 0 48 dzbX13_toFill_0 rfl
theorem dX13_toFill_17 : decode cX13_toFill 17 = .ok (.ireturn, 1) := dz0 dzo172 17 dzbX13_toFill_0 rfl
theorem dX13_toFill_18 : decode cX13_toFill 18 = .ok (.bipush (-2), 2) := dz3 dzo16 18 254 (-2) rfl dzbX13_toFill_0 rfl
theorem dX13_toFill_20 : decode cX13_toFill 20 = .ok (.istore_n 1, 1) := dz0 dzo60 20 dzbX13_toFill_0 rfl
theorem dX13_toFill_21 : decode cX13_toFill 21 = .ok (.ldc_w 293, 3) := dz2 dzo19 21 1 37 dzbX13_toFill_0 rfl
theorem dzbX13_toFill_24 : dzB cX13_toFill 24 [61, 3, 62, 29, 42, 182, 1, 21, 162, 0, 104, 42, 180, 0, 17, 29, 46, 4, 159, 0, 6, 167, 0, 85] := by decide +kernel
theorem dX13_toFill_24 : decode cX13_toFill 24 = .ok (.istore_n 2, 1) := dz0 dzo61 0 dzbX13_toFill_24 rfl
theorem dX13_toFill_25 : decode cX13_toFill 25 = .ok (.iconst 0, 1) := dz0 dzo3 1 dzbX13_toFill_24 rfl
theorem dX13_toFill_26 : decode cX13_toFill 26 = .ok (.istore_n 3, 1) := dz0 dzo62 2 dzbX13_toFill_24 rfl
theorem dX13_toFill_27 : decode cX13_toFill 27 = .ok (.iload_n 3, 1) := dz0 dzo29 3 dzbX13_toFill_24 rfl
theorem dX13_toFill_28 : decode cX13_toFill 28 = .ok (.aload_n 0, 1) := dz0 dzo42 4 dzbX13_toFill_24 rfl
theorem dX13_toFill_29 : decode cX13_toFill 29 = .ok (.invokevirtual 277, 3) := dz2 dzo182 5 1 21 dzbX13_toFill_24 rfl
theorem dX13_toFill_32 : decode cX13_toFill 32 = .ok (.if_icmp .ge 104, 3) := dz4 dzo162 8 0 104 104 rfl dzbX13_toFill_24 rfl
theorem dX13_toFill_35 : decode cX13_toFill 35 = .ok (.aload_n 0, 1) := dz0 dzo42 11 dzbX13_toFill_24 rfl
theorem dX13_toFill_36 : decode cX13_toFill 36 = .ok (.getfield 17, 3) := dz2 dzo180 12 0 17 dzbX13_toFill_24 rfl
theorem dX13_toFill_39 : decode cX13_toFill 39 = .ok (.iload_n 3, 1) := dz0 dzo29 15 dzbX13_toFill_24 rfl
theorem dX13_toFill_40 : decode cX13_toFill 40 = .ok (.iaload, 1) := dz0 dzo46 16 dzbX13_toFill_24 rfl
theorem dX13_toFill_41 : decode cX13_toFill 41 = .ok (.iconst 1, 1) := dz0 dzo4 17 dzbX13_toFill_24 rfl
theorem dX13_toFill_42 : decode cX13_toFill 42 = .ok (.if_icmp .eq 6, 3) := dz4 dzo159 18 0 6 6 rfl dzbX13_toFill_24 rfl
theorem dX13_toFill_45 : decode cX13_toFill 45 = .ok (.goto 85, 3) := dz4 dzo167 21 0 85 85 rfl dzbX13_toFill_24 rfl
theorem dzbX13_toFill_48 : dzB cX13_toFill 48 [42, 182, 1, 61, 42, 180, 0, 21, 29, 3, 79, 3, 54, 4, 3, 54, 5, 21, 5, 42, 180, 1, 13] := by decide +kernel
theorem dX13_toFill_48 : decode cX13_toFill 48 = .ok (.aload_n 0, 1) := dz0 dzo42 0 dzbX13_toFill_48 rfl
theorem dX13_toFill_49 : decode cX13_toFill 49 = .ok (.invokevirtual 317, 3) := dz2 dzo182 1 1 61 dzbX13_toFill_48 rfl
theorem dX13_toFill_52 : decode cX13_toFill 52 = .ok (.aload_n 0, 1) := dz0 dzo42 4 dzbX13_toFill_48 rfl
theorem dX13_toFill_53 : decode cX13_toFill 53 = .ok (.getfield 21, 3) := dz2 dzo180 5 0 21 dzbX13_toFill_48 rfl
theorem dX13_toFill_56 : decode cX13_toFill 56 = .ok (.iload_n 3, 1) := dz0 dzo29 8 dzbX13_toFill_48 rfl
theorem dX13_toFill_57 : decode cX13_toFill 57 = .ok (.iconst 0, 1) := dz0 dzo3 9 dzbX13_toFill_48 rfl
theorem dX13_toFill_58 : decode cX13_toFill 58 = .ok (.iastore, 1) := dz0 dzo79 10 dzbX13_toFill_48 rfl
theorem dX13_toFill_59 : decode cX13_toFill 59 = .ok (.iconst 0, 1) := dz0 dzo3 11 dzbX13_toFill_48 rfl
theorem dX13_toFill_60 : decode cX13_toFill 60 = .ok (.istore 4, 2) := dz1 dzo54 12 4 dzbX13_toFill_48 rfl
theorem dX13_toFill_62 : decode cX13_toFill 62 = .ok (.iconst 0, 1) := dz0 dzo3 14 dzbX13_toFill_48 rfl
theorem dX13_toFill_63 : decode cX13_toFill 63 = .ok (.istore 5, 2) := dz1 dzo54 15 5 dzbX13_toFill_48 rfl
theorem dX13_toFill_65 : decode cX13_toFill 65 = .ok (.iload 5, 2) := dz1 dzo21 17 5 dzbX13_toFill_48 rfl
theorem dX13_toFill_67 : decode cX13_toFill 67 = .ok (.aload_n 0, 1) := dz0 dzo42 19 dzbX13_toFill_48 rfl
theorem dX13_toFill_68 : decode cX13_toFill 68 = .ok (.getfield 269, 3) := dz2 dzo180 20 1 13 dzbX13_toFill_48 rfl
theorem dzbX13_toFill_71 : dzB cX13_toFill 71 [180, 0, 206, 162, 0, 42, 42, 21, 5, 4, 182, 1, 67, 54, 6, 21, 4, 21, 6, 19, 1, 37] := by decide +kernel
theorem dX13_toFill_71 : decode cX13_toFill 71 = .ok (.getfield 206, 3) := dz2 dzo180 0 0 206 dzbX13_toFill_71 rfl
theorem dX13_toFill_74 : decode cX13_toFill 74 = .ok (.if_icmp .ge 42, 3) := dz4 dzo162 3 0 42 42 rfl dzbX13_toFill_71 rfl
theorem dX13_toFill_77 : decode cX13_toFill 77 = .ok (.aload_n 0, 1) := dz0 dzo42 6 dzbX13_toFill_71 rfl
theorem dX13_toFill_78 : decode cX13_toFill 78 = .ok (.iload 5, 2) := dz1 dzo21 7 5 dzbX13_toFill_71 rfl
theorem dX13_toFill_80 : decode cX13_toFill 80 = .ok (.iconst 1, 1) := dz0 dzo4 9 dzbX13_toFill_71 rfl
theorem dX13_toFill_81 : decode cX13_toFill 81 = .ok (.invokevirtual 323, 3) := dz2 dzo182 10 1 67 dzbX13_toFill_71 rfl
theorem dX13_toFill_84 : decode cX13_toFill 84 = .ok (.istore 6, 2) := dz1 dzo54 13 6 dzbX13_toFill_71 rfl
theorem dX13_toFill_86 : decode cX13_toFill 86 = .ok (.iload 4, 2) := dz1 dzo21 15 4 dzbX13_toFill_71 rfl
theorem dX13_toFill_88 : decode cX13_toFill 88 = .ok (.iload 6, 2) := dz1 dzo21 17 6 dzbX13_toFill_71 rfl
theorem dX13_toFill_90 : decode cX13_toFill 90 = .ok (.ldc_w 293, 3) := dz2 dzo19 19 1 37 dzbX13_toFill_71 rfl
theorem dzbX13_toFill_93 : dzB cX13_toFill 93 [160, 0, 8, 16, 60, 167, 0, 9, 21, 6, 17, 3, 232, 108, 96, 54, 4, 132, 5, 1, 167, 255, 208] := by decide +kernel
theorem dX13_toFill_93 : decode cX13_toFill 93 = .ok (.if_icmp .ne 8, 3) := dz4 dzo160 0 0 8 8 rfl dzbX13_toFill_93 rfl
theorem dX13_toFill_96 : decode cX13_toFill 96 = .ok (.bipush 60, 2) := dz3 dzo16 3 60 60 rfl dzbX13_toFill_93 rfl
theorem dX13_toFill_98 : decode cX13_toFill 98 = .ok (.goto 9, 3) := dz4 dzo167 5 0 9 9 rfl dzbX13_toFill_93 rfl
theorem dX13_toFill_101 : decode cX13_toFill 101 = .ok (.iload 6, 2) := dz1 dzo21 8 6 dzbX13_toFill_93 rfl
theorem dX13_toFill_103 : decode cX13_toFill 103 = .ok (.sipush 1000, 3) := dz4 dzo17 10 3 232 1000 rfl dzbX13_toFill_93 rfl
theorem dX13_toFill_106 : decode cX13_toFill 106 = .ok (.idiv, 1) := dz0 dzo108 13 dzbX13_toFill_93 rfl
theorem dX13_toFill_107 : decode cX13_toFill 107 = .ok (.iadd, 1) := dz0 dzo96 14 dzbX13_toFill_93 rfl
theorem dX13_toFill_108 : decode cX13_toFill 108 = .ok (.istore 4, 2) := dz1 dzo54 15 4 dzbX13_toFill_93 rfl
theorem dX13_toFill_110 : decode cX13_toFill 110 = .ok (.iinc 5 1, 3) := dz5 dzo132 17 5 1 1 rfl dzbX13_toFill_93 rfl
theorem dX13_toFill_113 : decode cX13_toFill 113 = .ok (.goto (-48), 3) := dz4 dzo167 20 255 208 (-48) rfl dzbX13_toFill_93 rfl
theorem dzbX13_toFill_116 : dzB cX13_toFill 116 [21, 4, 28, 161, 0, 6, 167, 0, 8, 21, 4, 61, 29, 60, 132, 3, 1, 167, 255, 150, 42, 27] := by decide +kernel
theorem dX13_toFill_116 : decode cX13_toFill 116 = .ok (.iload 4, 2) := dz1 dzo21 0 4 dzbX13_toFill_116 rfl
theorem dX13_toFill_118 : decode cX13_toFill 118 = .ok (.iload_n 2, 1) := dz0 dzo28 2 dzbX13_toFill_116 rfl
theorem dX13_toFill_119 : decode cX13_toFill 119 = .ok (.if_icmp .lt 6, 3) := dz4 dzo161 3 0 6 6 rfl dzbX13_toFill_116 rfl
theorem dX13_toFill_122 : decode cX13_toFill 122 = .ok (.goto 8, 3) := dz4 dzo167 6 0 8 8 rfl dzbX13_toFill_116 rfl
theorem dX13_toFill_125 : decode cX13_toFill 125 = .ok (.iload 4, 2) := dz1 dzo21 9 4 dzbX13_toFill_116 rfl
theorem dX13_toFill_127 : decode cX13_toFill 127 = .ok (.istore_n 2, 1) := dz0 dzo61 11 dzbX13_toFill_116 rfl
theorem dX13_toFill_128 : decode cX13_toFill 128 = .ok (.iload_n 3, 1) := dz0 dzo29 12 dzbX13_toFill_116 rfl
theorem dX13_toFill_129 : decode cX13_toFill 129 = .ok (.istore_n 1, 1) := dz0 dzo60 13 dzbX13_toFill_116 rfl
theorem dX13_toFill_130 : decode cX13_toFill 130 = .ok (.iinc 3 1, 3) := dz5 dzo132 14 3 1 1 rfl dzbX13_toFill_116 rfl
theorem dX13_toFill_133 : decode cX13_toFill 133 = .ok (.goto (-106), 3) := dz4 dzo167 17 255 150 (-106) rfl dzbX13_toFill_116 rfl
theorem dX13_toFill_136 : decode cX13_toFill 136 = .ok (.aload_n 0, 1) := dz0 dzo42 20 dzbX13_toFill_116 rfl
theorem dX13_toFill_137 : decode cX13_toFill 137 = .ok (.iload_n 1, 1) := dz0 dzo27 21 dzbX13_toFill_116 rfl
theorem dzbX13_toFill_138 : dzB cX13_toFill 138 [182, 0, 52, 172] := by decide +kernel
theorem dX13_toFill_138 : decode cX13_toFill 138 = .ok (.invokevirtual 52, 3) := dz2 dzo182 0 0 52 dzbX13_toFill_138 rfl
theorem dX13_toFill_141 : decode cX13_toFill 141 = .ok (.ireturn, 1) := dz0 dzo172 3 dzbX13_toFill_138 rfl
theorem dzbX13_trap_0 : dzB cX13_trap 0 [42, 3, 181, 0, 42, 42, 180, 1, 13, 199, 0, 9, 42, 4, 182, 0, 48, 172, 42, 182, 1, 61, 42] := by decide +kernel
theorem dX13_trap_0 : decode cX13_trap 0 = .ok (.aload_n 0, 1) := dz0 dzo42 0 dzbX13_trap_0 rfl
theorem dX13_trap_1 : decode cX13_trap 1 = .ok (.iconst 0, 1) := dz0 dzo3 1 dzbX13_trap_0 rfl
theorem dX13_trap_2 : decode cX13_trap 2 = .ok (.putfield 42, 3) := dz2 dzo181 2 0 42 dzbX13_trap_0 rfl
theorem dX13_trap_5 : decode cX13_trap 5 = .ok (.aload_n 0, 1) := dz0 dzo42 5 dzbX13_trap_0 rfl
theorem dX13_trap_6 : decode cX13_trap 6 = .ok (.getfield 269, 3) := dz2 dzo180 6 1 13 dzbX13_trap_0 rfl
theorem dX13_trap_9 : decode cX13_trap 9 = .ok (.ifnonnull 9, 3) := dz4 dzo199 9 0 9 9 rfl dzbX13_trap_0 rfl
theorem dX13_trap_12 : decode cX13_trap 12 = .ok (.aload_n 0, 1) := dz0 dzo42 12 dzbX13_trap_0 rfl
theorem dX13_trap_13 : decode cX13_trap 13 = .ok (.iconst 1, 1) := dz0 dzo4 13 dzbX13_trap_0 rfl
theorem dX13_trap_14 : decode cX13_trap 14 = .ok (.invokevirtual 48, 3) := dz2 dzo182 14 0 48 dzbX13_trap_0 rfl
theorem dX13_trap_17 : decode cX13_trap 17 = .ok (.ireturn, 1) := dz0 dzo172 17 dzbX13_trap_0 rfl
theorem dX13_trap_18 : decode cX13_trap 18 = .ok (.aload_n 0, 1) := dz0 dzo42 18 dzbX13_trap_0 rfl
theorem dX13_trap_19 : decode cX13_trap 19 = .ok (.invokevirtual 317, 3) := dz2 dzo182 19 1 61 dzbX13_trap_0 rfl
theorem dX13_trap_22 : decode cX13_trap 22 = .ok (.aload_n 0, 1) := dz0 dzo42 22 dzbX13_trap_0 rfl
theorem dzbX13_trap_23 : dzB cX13_trap 23 [182, 1, 105, 60, 16, 254, 61, 3, 62, 3, 54, 4, 21, 4, 42, 182, 1, 21, 162, 0, 71, 42] := by decide +kernel
theorem dX13_trap_23 : decode cX13_trap 23 = .ok (.invokevirtual 361, 3) := dz2 dzo182 0 1 105 dzbX13_trap_23 rfl
theorem dX13_trap_26 : decode cX13_trap 26 = .ok (.istore_n 1, 1) := dz0 dzo60 3 dzbX13_trap_23 rfl
theorem dX13_trap_27 : decode cX13_trap 27 = .ok (.bipush (-2), 2) := dz3 dzo16 4 254 (-2) rfl dzbX13_trap_23 rfl
theorem dX13_trap_29 : decode cX13_trap 29 = .ok (.istore_n 2, 1) := dz0 dzo61 6 dzbX13_trap_23 rfl
theorem dX13_trap_30 : decode cX13_trap 30 = .ok (.iconst 0, 1) := dz0 dzo3 7 dzbX13_trap_23 rfl
theorem dX13_trap_31 : decode cX13_trap 31 = .ok (.istore_n 3, 1) := dz0 dzo62 8 dzbX13_trap_23 rfl
theorem dX13_trap_32 : decode cX13_trap 32 = .ok (.iconst 0, 1) := dz0 dzo3 9 dzbX13_trap_23 rfl
theorem dX13_trap_33 : decode cX13_trap 33 = .ok (.istore 4, 2) := dz1 dzo54 10 4 dzbX13_trap_23 rfl
theorem dX13_trap_35 : decode cX13_trap 35 = .ok (.iload 4, 2) := dz1 dzo21 12 4 dzbX13_trap_23 rfl
theorem dX13_trap_37 : decode cX13_trap 37 = .ok (.aload_n 0, 1) := dz0 dzo42 14 dzbX13_trap_23 rfl
theorem dX13_trap_38 : decode cX13_trap 38 = .ok (.invokevirtual 277, 3) := dz2 dzo182 15 1 21 dzbX13_trap_23 rfl
theorem dX13_trap_41 : decode cX13_trap 41 = .ok (.if_icmp .ge 71, 3) := dz4 dzo162 18 0 71 71 rfl dzbX13_trap_23 rfl
theorem dX13_trap_44 : decode cX13_trap 44 = .ok (.aload_n 0, 1) := dz0 dzo42 21 dzbX13_trap_23 rfl
theorem dzbX13_trap_45 : dzB cX13_trap 45 [180, 0, 17, 21, 4, 46, 154, 0, 55, 42, 21, 4, 182, 1, 52, 153, 0, 6, 167, 0, 43, 42] := by decide +kernel
theorem dX13_trap_45 : decode cX13_trap 45 = .ok (.getfield 17, 3) := dz2 dzo180 0 0 17 dzbX13_trap_45 rfl
theorem dX13_trap_48 : decode cX13_trap 48 = .ok (.iload 4, 2) := dz1 dzo21 3 4 dzbX13_trap_45 rfl
theorem dX13_trap_50 : decode cX13_trap 50 = .ok (.iaload, 1) := dz0 dzo46 5 dzbX13_trap_45 rfl
theorem dX13_trap_51 : decode cX13_trap 51 = .ok (.ifCond .ne 55, 3) := dz4 dzo154 6 0 55 55 rfl dzbX13_trap_45 rfl
theorem dX13_trap_54 : decode cX13_trap 54 = .ok (.aload_n 0, 1) := dz0 dzo42 9 dzbX13_trap_45 rfl
theorem dX13_trap_55 : decode cX13_trap 55 = .ok (.iload 4, 2) := dz1 dzo21 10 4 dzbX13_trap_45 rfl
theorem dX13_trap_57 : decode cX13_trap 57 = .ok (.invokevirtual 308, 3) := dz2 dzo182 12 1 52 dzbX13_trap_45 rfl
theorem dX13_trap_60 : decode cX13_trap 60 = .ok (.ifCond .eq 6, 3) := dz4 dzo153 15 0 6 6 rfl dzbX13_trap_45 rfl
theorem dX13_trap_63 : decode cX13_trap 63 = .ok (.goto 43, 3) := dz4 dzo167 18 0 43 43 rfl dzbX13_trap_45 rfl
theorem dX13_trap_66 : decode cX13_trap 66 = .ok (.aload_n 0, 1) := dz0 dzo42 21 dzbX13_trap_45 rfl
theorem dzbX13_trap_67 : dzB cX13_trap 67 [182, 1, 61, 42, 180, 0, 21, 21, 4, 4, 79, 27, 42, 182, 1, 105, 2, 130, 126, 184, 1, 108, 54, 5] := by decide +kernel
theorem dX13_trap_67 : decode cX13_trap 67 = .ok (.invokevirtual 317, 3) := dz2 dzo182 0 1 61 dzbX13_trap_67 rfl
theorem dX13_trap_70 : decode cX13_trap 70 = .ok (.aload_n 0, 1) := dz0 dzo42 3 dzbX13_trap_67 rfl
theorem dX13_trap_71 : decode cX13_trap 71 = .ok (.getfield 21, 3) := dz2 dzo180 4 0 21 dzbX13_trap_67 rfl
theorem dX13_trap_74 : decode cX13_trap 74 = .ok (.iload 4, 2) := dz1 dzo21 7 4 dzbX13_trap_67 rfl
theorem dX13_trap_76 : decode cX13_trap 76 = .ok (.iconst 1, 1) := dz0 dzo4 9 dzbX13_trap_67 rfl
theorem dX13_trap_77 : decode cX13_trap 77 = .ok (.iastore, 1) := dz0 dzo79 10 dzbX13_trap_67 rfl
theorem dX13_trap_78 : decode cX13_trap 78 = .ok (.iload_n 1, 1) := dz0 dzo27 11 dzbX13_trap_67 rfl
theorem dX13_trap_79 : decode cX13_trap 79 = .ok (.aload_n 0, 1) := dz0 dzo42 12 dzbX13_trap_67 rfl
theorem dX13_trap_80 : decode cX13_trap 80 = .ok (.invokevirtual 361, 3) := dz2 dzo182 13 1 105 dzbX13_trap_67 rfl
theorem dX13_trap_83 : decode cX13_trap 83 = .ok (.iconst (-1), 1) := dz0 dzo2 16 dzbX13_trap_67 rfl
theorem dX13_trap_84 : decode cX13_trap 84 = .ok (.ixor, 1) := dz0 dzo130 17 dzbX13_trap_67 rfl
theorem dX13_trap_85 : decode cX13_trap 85 = .ok (.iand, 1) := dz0 dzo126 18 dzbX13_trap_67 rfl
theorem dX13_trap_86 : decode cX13_trap 86 = .ok (.invokestatic 364, 3) := dz2 dzo184 19 1 108 dzbX13_trap_67 rfl
theorem dX13_trap_89 : decode cX13_trap 89 = .ok (.istore 5, 2) := dz1 dzo54 22 5 dzbX13_trap_67 rfl
theorem dzbX13_trap_91 : dzB cX13_trap 91 [21, 5, 29, 163, 0, 6, 167, 0, 9, 21, 5, 62, 21, 4, 61, 132, 4, 1, 167, 255, 182, 42, 28] := by decide +kernel
theorem dX13_trap_91 : decode cX13_trap 91 = .ok (.iload 5, 2) := dz1 dzo21 0 5 dzbX13_trap_91 rfl
theorem dX13_trap_93 : decode cX13_trap 93 = .ok (.iload_n 3, 1) := dz0 dzo29 2 dzbX13_trap_91 rfl
theorem dX13_trap_94 : decode cX13_trap 94 = .ok (.if_icmp .gt 6, 3) := dz4 dzo163 3 0 6 6 rfl dzbX13_trap_91 rfl
theorem dX13_trap_97 : decode cX13_trap 97 = .ok (.goto 9, 3) := dz4 dzo167 6 0 9 9 rfl dzbX13_trap_91 rfl
theorem dX13_trap_100 : decode cX13_trap 100 = .ok (.iload 5, 2) := dz1 dzo21 9 5 dzbX13_trap_91 rfl
theorem dX13_trap_102 : decode cX13_trap 102 = .ok (.istore_n 3, 1) := dz0 dzo62 11 dzbX13_trap_91 rfl
theorem dX13_trap_103 : decode cX13_trap 103 = .ok (.iload 4, 2) := dz1 dzo21 12 4 dzbX13_trap_91 rfl
theorem dX13_trap_105 : decode cX13_trap 105 = .ok (.istore_n 2, 1) := dz0 dzo61 14 dzbX13_trap_91 rfl
theorem dX13_trap_106 : decode cX13_trap 106 = .ok (.iinc 4 1, 3) := dz5 dzo132 15 4 1 1 rfl dzbX13_trap_91 rfl
theorem dX13_trap_109 : decode cX13_trap 109 = .ok (.goto (-74), 3) := dz4 dzo167 18 255 182 (-74) rfl dzbX13_trap_91 rfl
theorem dX13_trap_112 : decode cX13_trap 112 = .ok (.aload_n 0, 1) := dz0 dzo42 21 dzbX13_trap_91 rfl
theorem dX13_trap_113 : decode cX13_trap 113 = .ok (.iload_n 2, 1) := dz0 dzo28 22 dzbX13_trap_91 rfl
theorem dzbX13_trap_114 : dzB cX13_trap 114 [182, 0, 52, 172] := by decide +kernel
theorem dX13_trap_114 : decode cX13_trap 114 = .ok (.invokevirtual 52, 3) := dz2 dzo182 0 0 52 dzbX13_trap_114 rfl
theorem dX13_trap_117 : decode cX13_trap 117 = .ok (.ireturn, 1) := dz0 dzo172 3 dzbX13_trap_114 rfl
theorem dzbX13_tread_0 : dzB cX13_tread 0 [42, 3, 181, 0, 42, 42, 180, 1, 13, 199, 0, 11, 42, 4, 182, 0, 48, 167, 0, 11, 42, 42] := by decide +kernel
theorem dX13_tread_0 : decode cX13_tread 0 = .ok (.aload_n 0, 1) := dz0 dzo42 0 dzbX13_tread_0 rfl
theorem dX13_tread_1 : decode cX13_tread 1 = .ok (.iconst 0, 1) := dz0 dzo3 1 dzbX13_tread_0 rfl
theorem dX13_tread_2 : decode cX13_tread 2 = .ok (.putfield 42, 3) := dz2 dzo181 2 0 42 dzbX13_tread_0 rfl
theorem dX13_tread_5 : decode cX13_tread 5 = .ok (.aload_n 0, 1) := dz0 dzo42 5 dzbX13_tread_0 rfl
theorem dX13_tread_6 : decode cX13_tread 6 = .ok (.getfield 269, 3) := dz2 dzo180 6 1 13 dzbX13_tread_0 rfl
theorem dX13_tread_9 : decode cX13_tread 9 = .ok (.ifnonnull 11, 3) := dz4 dzo199 9 0 11 11 rfl dzbX13_tread_0 rfl
theorem dX13_tread_12 : decode cX13_tread 12 = .ok (.aload_n 0, 1) := dz0 dzo42 12 dzbX13_tread_0 rfl
theorem dX13_tread_13 : decode cX13_tread 13 = .ok (.iconst 1, 1) := dz0 dzo4 13 dzbX13_tread_0 rfl
theorem dX13_tread_14 : decode cX13_tread 14 = .ok (.invokevirtual 48, 3) := dz2 dzo182 14 0 48 dzbX13_tread_0 rfl
theorem dX13_tread_17 : decode cX13_tread 17 = .ok (.goto 11, 3) := dz4 dzo167 17 0 11 11 rfl dzbX13_tread_0 rfl
theorem dX13_tread_20 : decode cX13_tread 20 = .ok (.aload_n 0, 1) := dz0 dzo42 20 dzbX13_tread_0 rfl
theorem dX13_tread_21 : decode cX13_tread 21 = .ok (.aload_n 0, 1) := dz0 dzo42 21 dzbX13_tread_0 rfl
theorem dzbX13_tread_22 : dzB cX13_tread 22 [182, 1, 146, 182, 0, 52, 172] := by decide +kernel
theorem dX13_tread_22 : decode cX13_tread 22 = .ok (.invokevirtual 402, 3) := dz2 dzo182 0 1 146 dzbX13_tread_22 rfl
theorem dX13_tread_25 : decode cX13_tread 25 = .ok (.invokevirtual 52, 3) := dz2 dzo182 3 0 52 dzbX13_tread_22 rfl
theorem dX13_tread_28 : decode cX13_tread 28 = .ok (.ireturn, 1) := dz0 dzo172 6 dzbX13_tread_22 rfl
theorem dzbX13_treadLeaves_0 : dzB cX13_treadLeaves 0 [42, 3, 181, 0, 42, 42, 180, 1, 13, 199, 0, 9, 42, 4, 182, 0, 48, 172, 42, 182, 1, 146, 87, 42] := by decide +kernel
theorem dX13_treadLeaves_0 : decode cX13_treadLeaves 0 = .ok (.aload_n 0, 1) := dz0 dzo42 0 dzbX13_treadLeaves_0 rfl
theorem dX13_treadLeaves_1 : decode cX13_treadLeaves 1 = .ok (.iconst 0, 1) := dz0 dzo3 1 dzbX13_treadLeaves_0 rfl
theorem dX13_treadLeaves_2 : decode cX13_treadLeaves 2 = .ok (.putfield 42, 3) := dz2 dzo181 2 0 42 dzbX13_treadLeaves_0 rfl
theorem dX13_treadLeaves_5 : decode cX13_treadLeaves 5 = .ok (.aload_n 0, 1) := dz0 dzo42 5 dzbX13_treadLeaves_0 rfl
theorem dX13_treadLeaves_6 : decode cX13_treadLeaves 6 = .ok (.getfield 269, 3) := dz2 dzo180 6 1 13 dzbX13_treadLeaves_0 rfl
theorem dX13_treadLeaves_9 : decode cX13_treadLeaves 9 = .ok (.ifnonnull 9, 3) := dz4 dzo199 9 0 9 9 rfl dzbX13_treadLeaves_0 rfl
theorem dX13_treadLeaves_12 : decode cX13_treadLeaves 12 = .ok (.aload_n 0, 1) := dz0 dzo42 12 dzbX13_treadLeaves_0 rfl
theorem dX13_treadLeaves_13 : decode cX13_treadLeaves 13 = .ok (.iconst 1, 1) := dz0 dzo4 13 dzbX13_treadLeaves_0 rfl
theorem dX13_treadLeaves_14 : decode cX13_treadLeaves 14 = .ok (.invokevirtual 48, 3) := dz2 dzo182 14 0 48 dzbX13_treadLeaves_0 rfl
theorem dX13_treadLeaves_17 : decode cX13_treadLeaves 17 = .ok (.ireturn, 1) := dz0 dzo172 17 dzbX13_treadLeaves_0 rfl
theorem dX13_treadLeaves_18 : decode cX13_treadLeaves 18 = .ok (.aload_n 0, 1) := dz0 dzo42 18 dzbX13_treadLeaves_0 rfl
theorem dX13_treadLeaves_19 : decode cX13_treadLeaves 19 = .ok (.invokevirtual 402, 3) := dz2 dzo182 19 1 146 dzbX13_treadLeaves_0 rfl
theorem dX13_treadLeaves_22 : decode cX13_treadLeaves 22 = .ok (.pop, 1) := dz0 dzo87 22 dzbX13_treadLeaves_0 rfl
theorem dX13_treadLeaves_23 : decode cX13_treadLeaves 23 = .ok (.aload_n 0, 1) := dz0 dzo42 23 dzbX13_treadLeaves_0 rfl
theorem dzbX13_treadLeaves_24 : dzB cX13_treadLeaves 24 [42, 180, 1, 143, 182, 0, 52, 172] := by decide +kernel
theorem dX13_treadLeaves_24 : decode cX13_treadLeaves 24 = .ok (.aload_n 0, 1) := dz0 dzo42 0 dzbX13_treadLeaves_24 rfl
theorem dX13_treadLeaves_25 : decode cX13_treadLeaves 25 = .ok (.getfield 399, 3) := dz2 dzo180 1 1 143 dzbX13_treadLeaves_24 rfl
theorem dX13_treadLeaves_28 : decode cX13_treadLeaves 28 = .ok (.invokevirtual 52, 3) := dz2 dzo182 4 0 52 dzbX13_treadLeaves_24 rfl
theorem dX13_treadLeaves_31 : decode cX13_treadLeaves 31 = .ok (.ireturn, 1) := dz0 dzo172 7 dzbX13_treadLeaves_24 rfl
theorem dzbX13_treads_0 : dzB cX13_treads 0 [42, 2, 182, 1, 136, 87, 16, 254, 60, 42, 16, 254, 181, 1, 143, 3, 61, 28, 42, 180, 1, 13] := by decide +kernel
theorem dX13_treads_0 : decode cX13_treads 0 = .ok (.aload_n 0, 1) := dz0 dzo42 0 dzbX13_treads_0 rfl
theorem dX13_treads_1 : decode cX13_treads 1 = .ok (.iconst (-1), 1) := dz0 dzo2 1 dzbX13_treads_0 rfl
theorem dX13_treads_2 : decode cX13_treads 2 = .ok (.invokevirtual 392, 3) := dz2 dzo182 2 1 136 dzbX13_treads_0 rfl
theorem dX13_treads_5 : decode cX13_treads 5 = .ok (.pop, 1) := dz0 dzo87 5 dzbX13_treads_0 rfl
theorem dX13_treads_6 : decode cX13_treads 6 = .ok (.bipush (-2), 2) := dz3 dzo16 6 254 (-2) rfl dzbX13_treads_0 rfl
theorem dX13_treads_8 : decode cX13_treads 8 = .ok (.istore_n 1, 1) := dz0 dzo60 8 dzbX13_treads_0 rfl
theorem dX13_treads_9 : decode cX13_treads 9 = .ok (.aload_n 0, 1) := dz0 dzo42 9 dzbX13_treads_0 rfl
theorem dX13_treads_10 : decode cX13_treads 10 = .ok (.bipush (-2), 2) := dz3 dzo16 10 254 (-2) rfl dzbX13_treads_0 rfl
theorem dX13_treads_12 : decode cX13_treads 12 = .ok (.putfield 399, 3) := dz2 dzo181 12 1 143 dzbX13_treads_0 rfl
theorem dX13_treads_15 : decode cX13_treads 15 = .ok (.iconst 0, 1) := dz0 dzo3 15 dzbX13_treads_0 rfl
theorem dX13_treads_16 : decode cX13_treads 16 = .ok (.istore_n 2, 1) := dz0 dzo61 16 dzbX13_treads_0 rfl
theorem dX13_treads_17 : decode cX13_treads 17 = .ok (.iload_n 2, 1) := dz0 dzo28 17 dzbX13_treads_0 rfl
theorem dX13_treads_18 : decode cX13_treads 18 = .ok (.aload_n 0, 1) := dz0 dzo42 18 dzbX13_treads_0 rfl
theorem dX13_treads_19 : decode cX13_treads 19 = .ok (.getfield 269, 3) := dz2 dzo180 19 1 13 dzbX13_treads_0 rfl
theorem dzbX13_treads_22 : dzB cX13_treads 22 [180, 0, 195, 162, 0, 81, 42, 180, 1, 126, 158, 0, 74, 42, 180, 0, 39, 28, 46, 42, 180, 1, 126, 42] := by decide +kernel
theorem dX13_treads_22 : decode cX13_treads 22 = .ok (.getfield 195, 3) := dz2 dzo180 0 0 195 dzbX13_treads_22 rfl
theorem dX13_treads_25 : decode cX13_treads 25 = .ok (.if_icmp .ge 81, 3) := dz4 dzo162 3 0 81 81 rfl dzbX13_treads_22 rfl
theorem dX13_treads_28 : decode cX13_treads 28 = .ok (.aload_n 0, 1) := dz0 dzo42 6 dzbX13_treads_22 rfl
theorem dX13_treads_29 : decode cX13_treads 29 = .ok (.getfield 382, 3) := dz2 dzo180 7 1 126 dzbX13_treads_22 rfl
theorem dX13_treads_32 : decode cX13_treads 32 = .ok (.ifCond .le 74, 3) := dz4 dzo158 10 0 74 74 rfl dzbX13_treads_22 rfl
theorem dX13_treads_35 : decode cX13_treads 35 = .ok (.aload_n 0, 1) := dz0 dzo42 13 dzbX13_treads_22 rfl
theorem dX13_treads_36 : decode cX13_treads 36 = .ok (.getfield 39, 3) := dz2 dzo180 14 0 39 dzbX13_treads_22 rfl
theorem dX13_treads_39 : decode cX13_treads 39 = .ok (.iload_n 2, 1) := dz0 dzo28 17 dzbX13_treads_22 rfl
theorem dX13_treads_40 : decode cX13_treads 40 = .ok (.iaload, 1) := dz0 dzo46 18 dzbX13_treads_22 rfl
theorem dX13_treads_41 : decode cX13_treads 41 = .ok (.aload_n 0, 1) := dz0 dzo42 19 dzbX13_treads_22 rfl
theorem dX13_treads_42 : decode cX13_treads 42 = .ok (.getfield 382, 3) := dz2 dzo180 20 1 126 dzbX13_treads_22 rfl
theorem dX13_treads_45 : decode cX13_treads 45 = .ok (.aload_n 0, 1) := dz0 dzo42 23 dzbX13_treads_22 rfl
theorem dzbX13_treads_46 : dzB cX13_treads 46 [180, 0, 39, 28, 46, 100, 164, 0, 12, 42, 180, 0, 39, 28, 46, 167, 0, 14, 42, 180, 1, 126, 42] := by decide +kernel
theorem dX13_treads_46 : decode cX13_treads 46 = .ok (.getfield 39, 3) := dz2 dzo180 0 0 39 dzbX13_treads_46 rfl
theorem dX13_treads_49 : decode cX13_treads 49 = .ok (.iload_n 2, 1) := dz0 dzo28 3 dzbX13_treads_46 rfl
theorem dX13_treads_50 : decode cX13_treads 50 = .ok (.iaload, 1) := dz0 dzo46 4 dzbX13_treads_46 rfl
theorem dX13_treads_51 : decode cX13_treads 51 = .ok (.isub, 1) := dz0 dzo100 5 dzbX13_treads_46 rfl
theorem dX13_treads_52 : decode cX13_treads 52 = .ok (.if_icmp .le 12, 3) := dz4 dzo164 6 0 12 12 rfl dzbX13_treads_46 rfl
theorem dX13_treads_55 : decode cX13_treads 55 = .ok (.aload_n 0, 1) := dz0 dzo42 9 dzbX13_treads_46 rfl
theorem dX13_treads_56 : decode cX13_treads 56 = .ok (.getfield 39, 3) := dz2 dzo180 10 0 39 dzbX13_treads_46 rfl
theorem dX13_treads_59 : decode cX13_treads 59 = .ok (.iload_n 2, 1) := dz0 dzo28 13 dzbX13_treads_46 rfl
theorem dX13_treads_60 : decode cX13_treads 60 = .ok (.iaload, 1) := dz0 dzo46 14 dzbX13_treads_46 rfl
theorem dX13_treads_61 : decode cX13_treads 61 = .ok (.goto 14, 3) := dz4 dzo167 15 0 14 14 rfl dzbX13_treads_46 rfl
theorem dX13_treads_64 : decode cX13_treads 64 = .ok (.aload_n 0, 1) := dz0 dzo42 18 dzbX13_treads_46 rfl
theorem dX13_treads_65 : decode cX13_treads 65 = .ok (.getfield 382, 3) := dz2 dzo180 19 1 126 dzbX13_treads_46 rfl
theorem dX13_treads_68 : decode cX13_treads 68 = .ok (.aload_n 0, 1) := dz0 dzo42 22 dzbX13_treads_46 rfl
theorem dzbX13_treads_69 : dzB cX13_treads 69 [180, 0, 39, 28, 46, 100, 62, 27, 16, 254, 159, 0, 14, 29, 42, 180, 1, 143, 161, 0, 6, 167, 0, 10] := by decide +kernel
theorem dX13_treads_69 : decode cX13_treads 69 = .ok (.getfield 39, 3) := dz2 dzo180 0 0 39 dzbX13_treads_69 rfl
theorem dX13_treads_72 : decode cX13_treads 72 = .ok (.iload_n 2, 1) := dz0 dzo28 3 dzbX13_treads_69 rfl
theorem dX13_treads_73 : decode cX13_treads 73 = .ok (.iaload, 1) := dz0 dzo46 4 dzbX13_treads_69 rfl
theorem dX13_treads_74 : decode cX13_treads 74 = .ok (.isub, 1) := dz0 dzo100 5 dzbX13_treads_69 rfl
theorem dX13_treads_75 : decode cX13_treads 75 = .ok (.istore_n 3, 1) := dz0 dzo62 6 dzbX13_treads_69 rfl
theorem dX13_treads_76 : decode cX13_treads 76 = .ok (.iload_n 1, 1) := dz0 dzo27 7 dzbX13_treads_69 rfl
theorem dX13_treads_77 : decode cX13_treads 77 = .ok (.bipush (-2), 2) := dz3 dzo16 8 254 (-2) rfl dzbX13_treads_69 rfl
theorem dX13_treads_79 : decode cX13_treads 79 = .ok (.if_icmp .eq 14, 3) := dz4 dzo159 10 0 14 14 rfl dzbX13_treads_69 rfl
theorem dX13_treads_82 : decode cX13_treads 82 = .ok (.iload_n 3, 1) := dz0 dzo29 13 dzbX13_treads_69 rfl
theorem dX13_treads_83 : decode cX13_treads 83 = .ok (.aload_n 0, 1) := dz0 dzo42 14 dzbX13_treads_69 rfl
theorem dX13_treads_84 : decode cX13_treads 84 = .ok (.getfield 399, 3) := dz2 dzo180 15 1 143 dzbX13_treads_69 rfl
theorem dX13_treads_87 : decode cX13_treads 87 = .ok (.if_icmp .lt 6, 3) := dz4 dzo161 18 0 6 6 rfl dzbX13_treads_69 rfl
theorem dX13_treads_90 : decode cX13_treads 90 = .ok (.goto 10, 3) := dz4 dzo167 21 0 10 10 rfl dzbX13_treads_69 rfl
theorem dzbX13_treads_93 : dzB cX13_treads 93 [28, 60, 42, 29, 181, 1, 143, 132, 2, 1, 167, 255, 170, 27, 172] := by decide +kernel
theorem dX13_treads_93 : decode cX13_treads 93 = .ok (.iload_n 2, 1) := dz0 dzo28 0 dzbX13_treads_93 rfl
theorem dX13_treads_94 : decode cX13_treads 94 = .ok (.istore_n 1, 1) := dz0 dzo60 1 dzbX13_treads_93 rfl
theorem dX13_treads_95 : decode cX13_treads 95 = .ok (.aload_n 0, 1) := dz0 dzo42 2 dzbX13_treads_93 rfl
theorem dX13_treads_96 : decode cX13_treads 96 = .ok (.iload_n 3, 1) := dz0 dzo29 3 dzbX13_treads_93 rfl
theorem dX13_treads_97 : decode cX13_treads 97 = .ok (.putfield 399, 3) := dz2 dzo181 4 1 143 dzbX13_treads_93 rfl
theorem dX13_treads_100 : decode cX13_treads 100 = .ok (.iinc 2 1, 3) := dz5 dzo132 7 2 1 1 rfl dzbX13_treads_93 rfl
theorem dX13_treads_103 : decode cX13_treads 103 = .ok (.goto (-86), 3) := dz4 dzo167 10 255 170 (-86) rfl dzbX13_treads_93 rfl
theorem dX13_treads_106 : decode cX13_treads 106 = .ok (.iload_n 1, 1) := dz0 dzo27 13 dzbX13_treads_93 rfl
theorem dX13_treads_107 : decode cX13_treads 107 = .ok (.ireturn, 1) := dz0 dzo172 14 dzbX13_treads_93 rfl
theorem dzbX13_trouble_0 : dzB cX13_trouble 0 [42, 3, 181, 0, 42, 42, 180, 0, 45, 172] := by decide +kernel
theorem dX13_trouble_0 : decode cX13_trouble 0 = .ok (.aload_n 0, 1) := dz0 dzo42 0 dzbX13_trouble_0 rfl
theorem dX13_trouble_1 : decode cX13_trouble 1 = .ok (.iconst 0, 1) := dz0 dzo3 1 dzbX13_trouble_0 rfl
theorem dX13_trouble_2 : decode cX13_trouble 2 = .ok (.putfield 42, 3) := dz2 dzo181 2 0 42 dzbX13_trouble_0 rfl
theorem dX13_trouble_5 : decode cX13_trouble 5 = .ok (.aload_n 0, 1) := dz0 dzo42 5 dzbX13_trouble_0 rfl
theorem dX13_trouble_6 : decode cX13_trouble 6 = .ok (.getfield 45, 3) := dz2 dzo180 6 0 45 dzbX13_trouble_0 rfl
theorem dX13_trouble_9 : decode cX13_trouble 9 = .ok (.ireturn, 1) := dz0 dzo172 9 dzbX13_trouble_0 rfl
theorem dzbX13_undo_0 : dzB cX13_undo 0 [42, 3, 181, 0, 42, 42, 180, 1, 13, 198, 0, 10, 42, 180, 1, 15, 154, 0, 10, 42, 16, 6] := by decide +kernel
theorem dX13_undo_0 : decode cX13_undo 0 = .ok (.aload_n 0, 1) := dz0 dzo42 0 dzbX13_undo_0 rfl
theorem dX13_undo_1 : decode cX13_undo 1 = .ok (.iconst 0, 1) := dz0 dzo3 1 dzbX13_undo_0 rfl
theorem dX13_undo_2 : decode cX13_undo 2 = .ok (.putfield 42, 3) := dz2 dzo181 2 0 42 dzbX13_undo_0 rfl
theorem dX13_undo_5 : decode cX13_undo 5 = .ok (.aload_n 0, 1) := dz0 dzo42 5 dzbX13_undo_0 rfl
theorem dX13_undo_6 : decode cX13_undo 6 = .ok (.getfield 269, 3) := dz2 dzo180 6 1 13 dzbX13_undo_0 rfl
theorem dX13_undo_9 : decode cX13_undo 9 = .ok (.ifnull 10, 3) := dz4 dzo198 9 0 10 10 rfl dzbX13_undo_0 rfl
theorem dX13_undo_12 : decode cX13_undo 12 = .ok (.aload_n 0, 1) := dz0 dzo42 12 dzbX13_undo_0 rfl
theorem dX13_undo_13 : decode cX13_undo 13 = .ok (.getfield 271, 3) := dz2 dzo180 13 1 15 dzbX13_undo_0 rfl
theorem dX13_undo_16 : decode cX13_undo 16 = .ok (.ifCond .ne 10, 3) := dz4 dzo154 16 0 10 10 rfl dzbX13_undo_0 rfl
theorem dX13_undo_19 : decode cX13_undo 19 = .ok (.aload_n 0, 1) := dz0 dzo42 19 dzbX13_undo_0 rfl
theorem dX13_undo_20 : decode cX13_undo 20 = .ok (.bipush 6, 2) := dz3 dzo16 20 6 6 rfl dzbX13_undo_0 rfl
theorem dzbX13_undo_22 : dzB cX13_undo 22 [182, 1, 192, 172, 42, 89, 180, 1, 15, 4, 100, 181, 1, 15, 3, 60, 27, 16, 32, 162, 0, 29, 42] := by decide +kernel
theorem dX13_undo_22 : decode cX13_undo 22 = .ok (.invokevirtual 448, 3) := dz2 dzo182 0 1 192 dzbX13_undo_22 rfl
theorem dX13_undo_25 : decode cX13_undo 25 = .ok (.ireturn, 1) := dz0 dzo172 3 dzbX13_undo_22 rfl
theorem dX13_undo_26 : decode cX13_undo 26 = .ok (.aload_n 0, 1) := dz0 dzo42 4 dzbX13_undo_22 rfl
theorem dX13_undo_27 : decode cX13_undo 27 = .ok (.dup, 1) := dz0 dzo89 5 dzbX13_undo_22 rfl
theorem dX13_undo_28 : decode cX13_undo 28 = .ok (.getfield 271, 3) := dz2 dzo180 6 1 15 dzbX13_undo_22 rfl
theorem dX13_undo_31 : decode cX13_undo 31 = .ok (.iconst 1, 1) := dz0 dzo4 9 dzbX13_undo_22 rfl
theorem dX13_undo_32 : decode cX13_undo 32 = .ok (.isub, 1) := dz0 dzo100 10 dzbX13_undo_22 rfl
theorem dX13_undo_33 : decode cX13_undo 33 = .ok (.putfield 271, 3) := dz2 dzo181 11 1 15 dzbX13_undo_22 rfl
theorem dX13_undo_36 : decode cX13_undo 36 = .ok (.iconst 0, 1) := dz0 dzo3 14 dzbX13_undo_22 rfl
theorem dX13_undo_37 : decode cX13_undo 37 = .ok (.istore_n 1, 1) := dz0 dzo60 15 dzbX13_undo_22 rfl
theorem dX13_undo_38 : decode cX13_undo 38 = .ok (.iload_n 1, 1) := dz0 dzo27 16 dzbX13_undo_22 rfl
theorem dX13_undo_39 : decode cX13_undo 39 = .ok (.bipush 32, 2) := dz3 dzo16 17 32 32 rfl dzbX13_undo_22 rfl
theorem dX13_undo_41 : decode cX13_undo 41 = .ok (.if_icmp .ge 29, 3) := dz4 dzo162 19 0 29 29 rfl dzbX13_undo_22 rfl
theorem dX13_undo_44 : decode cX13_undo 44 = .ok (.aload_n 0, 1) := dz0 dzo42 22 dzbX13_undo_22 rfl
theorem dzbX13_undo_45 : dzB cX13_undo 45 [180, 0, 17, 27, 42, 180, 0, 24, 16, 32, 42, 180, 1, 15, 104, 27, 96, 46, 79, 132, 1, 1] := by decide +kernel
theorem dX13_undo_45 : decode cX13_undo 45 = .ok (.getfield 17, 3) := dz2 dzo180 0 0 17 dzbX13_undo_45 rfl
theorem dX13_undo_48 : decode cX13_undo 48 = .ok (.iload_n 1, 1) := dz0 dzo27 3 dzbX13_undo_45 rfl
theorem dX13_undo_49 : decode cX13_undo 49 = .ok (.aload_n 0, 1) := dz0 dzo42 4 dzbX13_undo_45 rfl
theorem dX13_undo_50 : decode cX13_undo 50 = .ok (.getfield 24, 3) := dz2 dzo180 5 0 24 dzbX13_undo_45 rfl
theorem dX13_undo_53 : decode cX13_undo 53 = .ok (.bipush 32, 2) := dz3 dzo16 8 32 32 rfl dzbX13_undo_45 rfl
theorem dX13_undo_55 : decode cX13_undo 55 = .ok (.aload_n 0, 1) := dz0 dzo42 10 dzbX13_undo_45 rfl
theorem dX13_undo_56 : decode cX13_undo 56 = .ok (.getfield 271, 3) := dz2 dzo180 11 1 15 dzbX13_undo_45 rfl
theorem dX13_undo_59 : decode cX13_undo 59 = .ok (.imul, 1) := dz0 dzo104 14 dzbX13_undo_45 rfl
theorem dX13_undo_60 : decode cX13_undo 60 = .ok (.iload_n 1, 1) := dz0 dzo27 15 dzbX13_undo_45 rfl
theorem dX13_undo_61 : decode cX13_undo 61 = .ok (.iadd, 1) := dz0 dzo96 16 dzbX13_undo_45 rfl
theorem dX13_undo_62 : decode cX13_undo 62 = .ok (.iaload, 1) := dz0 dzo46 17 dzbX13_undo_45 rfl
theorem dX13_undo_63 : decode cX13_undo 63 = .ok (.iastore, 1) := dz0 dzo79 18 dzbX13_undo_45 rfl
theorem dX13_undo_64 : decode cX13_undo 64 = .ok (.iinc 1 1, 3) := dz5 dzo132 19 1 1 1 rfl dzbX13_undo_45 rfl
theorem dzbX13_undo_67 : dzB cX13_undo 67 [167, 255, 227, 42, 182, 1, 195, 172] := by decide +kernel
theorem dX13_undo_67 : decode cX13_undo 67 = .ok (.goto (-29), 3) := dz4 dzo167 0 255 227 (-29) rfl dzbX13_undo_67 rfl
theorem dX13_undo_70 : decode cX13_undo 70 = .ok (.aload_n 0, 1) := dz0 dzo42 3 dzbX13_undo_67 rfl
theorem dX13_undo_71 : decode cX13_undo 71 = .ok (.invokevirtual 451, 3) := dz2 dzo182 4 1 195 dzbX13_undo_67 rfl
theorem dX13_undo_74 : decode cX13_undo 74 = .ok (.ireturn, 1) := dz0 dzo172 7 dzbX13_undo_67 rfl
theorem dzbX13_walkOdds_0 : dzB cX13_walkOdds 0 [42, 3, 181, 0, 42, 42, 27, 182, 1, 46, 154, 0, 10, 42, 4, 182, 0, 48, 133, 173, 28, 4, 6] := by decide +kernel
theorem dX13_walkOdds_0 : decode cX13_walkOdds 0 = .ok (.aload_n 0, 1) := dz0 dzo42 0 dzbX13_walkOdds_0 rfl
theorem dX13_walkOdds_1 : decode cX13_walkOdds 1 = .ok (.iconst 0, 1) := dz0 dzo3 1 dzbX13_walkOdds_0 rfl
theorem dX13_walkOdds_2 : decode cX13_walkOdds 2 = .ok (.putfield 42, 3) := dz2 dzo181 2 0 42 dzbX13_walkOdds_0 rfl
theorem dX13_walkOdds_5 : decode cX13_walkOdds 5 = .ok (.aload_n 0, 1) := dz0 dzo42 5 dzbX13_walkOdds_0 rfl
theorem dX13_walkOdds_6 : decode cX13_walkOdds 6 = .ok (.iload_n 1, 1) := dz0 dzo27 6 dzbX13_walkOdds_0 rfl
theorem dX13_walkOdds_7 : decode cX13_walkOdds 7 = .ok (.invokevirtual 302, 3) := dz2 dzo182 7 1 46 dzbX13_walkOdds_0 rfl
theorem dX13_walkOdds_10 : decode cX13_walkOdds 10 = .ok (.ifCond .ne 10, 3) := dz4 dzo154 10 0 10 10 rfl dzbX13_walkOdds_0 rfl
theorem dX13_walkOdds_13 : decode cX13_walkOdds 13 = .ok (.aload_n 0, 1) := dz0 dzo42 13 dzbX13_walkOdds_0 rfl
theorem dX13_walkOdds_14 : decode cX13_walkOdds 14 = .ok (.iconst 1, 1) := dz0 dzo4 14 dzbX13_walkOdds_0 rfl
theorem dX13_walkOdds_15 : decode cX13_walkOdds 15 = .ok (.invokevirtual 48, 3) := dz2 dzo182 15 0 48 dzbX13_walkOdds_0 rfl
theorem dX13_walkOdds_18 : decode cX13_walkOdds 18 = .ok (.i2l, 1) := dz0 dzo133 18 dzbX13_walkOdds_0 rfl
theorem dX13_walkOdds_19 : decode cX13_walkOdds 19 = .ok (.lreturn, 1) := dz0 dzo173 19 dzbX13_walkOdds_0 rfl
theorem dX13_walkOdds_20 : decode cX13_walkOdds 20 = .ok (.iload_n 2, 1) := dz0 dzo28 20 dzbX13_walkOdds_0 rfl
theorem dX13_walkOdds_21 : decode cX13_walkOdds 21 = .ok (.iconst 1, 1) := dz0 dzo4 21 dzbX13_walkOdds_0 rfl
theorem dX13_walkOdds_22 : decode cX13_walkOdds 22 = .ok (.iconst 3, 1) := dz0 dzo6 22 dzbX13_walkOdds_0 rfl
theorem dzbX13_walkOdds_23 : dzB cX13_walkOdds 23 [184, 0, 124, 153, 0, 21, 27, 42, 180, 1, 13, 180, 0, 158, 28, 104, 96, 42, 182, 1, 21, 161, 0, 10] := by decide +kernel
theorem dX13_walkOdds_23 : decode cX13_walkOdds 23 = .ok (.invokestatic 124, 3) := dz2 dzo184 0 0 124 dzbX13_walkOdds_23 rfl
theorem dX13_walkOdds_26 : decode cX13_walkOdds 26 = .ok (.ifCond .eq 21, 3) := dz4 dzo153 3 0 21 21 rfl dzbX13_walkOdds_23 rfl
theorem dX13_walkOdds_29 : decode cX13_walkOdds 29 = .ok (.iload_n 1, 1) := dz0 dzo27 6 dzbX13_walkOdds_23 rfl
theorem dX13_walkOdds_30 : decode cX13_walkOdds 30 = .ok (.aload_n 0, 1) := dz0 dzo42 7 dzbX13_walkOdds_23 rfl
theorem dX13_walkOdds_31 : decode cX13_walkOdds 31 = .ok (.getfield 269, 3) := dz2 dzo180 8 1 13 dzbX13_walkOdds_23 rfl
theorem dX13_walkOdds_34 : decode cX13_walkOdds 34 = .ok (.getfield 158, 3) := dz2 dzo180 11 0 158 dzbX13_walkOdds_23 rfl
theorem dX13_walkOdds_37 : decode cX13_walkOdds 37 = .ok (.iload_n 2, 1) := dz0 dzo28 14 dzbX13_walkOdds_23 rfl
theorem dX13_walkOdds_38 : decode cX13_walkOdds 38 = .ok (.imul, 1) := dz0 dzo104 15 dzbX13_walkOdds_23 rfl
theorem dX13_walkOdds_39 : decode cX13_walkOdds 39 = .ok (.iadd, 1) := dz0 dzo96 16 dzbX13_walkOdds_23 rfl
theorem dX13_walkOdds_40 : decode cX13_walkOdds 40 = .ok (.aload_n 0, 1) := dz0 dzo42 17 dzbX13_walkOdds_23 rfl
theorem dX13_walkOdds_41 : decode cX13_walkOdds 41 = .ok (.invokevirtual 277, 3) := dz2 dzo182 18 1 21 dzbX13_walkOdds_23 rfl
theorem dX13_walkOdds_44 : decode cX13_walkOdds 44 = .ok (.if_icmp .lt 10, 3) := dz4 dzo161 21 0 10 10 rfl dzbX13_walkOdds_23 rfl
theorem dzbX13_walkOdds_47 : dzB cX13_walkOdds 47 [42, 5, 182, 0, 48, 133, 173, 9, 55, 4, 9, 55, 6, 3, 54, 8, 21, 8, 42, 182, 1, 129] := by decide +kernel
theorem dX13_walkOdds_47 : decode cX13_walkOdds 47 = .ok (.aload_n 0, 1) := dz0 dzo42 0 dzbX13_walkOdds_47 rfl
theorem dX13_walkOdds_48 : decode cX13_walkOdds 48 = .ok (.iconst 2, 1) := dz0 dzo5 1 dzbX13_walkOdds_47 rfl
theorem dX13_walkOdds_49 : decode cX13_walkOdds 49 = .ok (.invokevirtual 48, 3) := dz2 dzo182 2 0 48 dzbX13_walkOdds_47 rfl
theorem dX13_walkOdds_52 : decode cX13_walkOdds 52 = .ok (.i2l, 1) := dz0 dzo133 5 dzbX13_walkOdds_47 rfl
theorem dX13_walkOdds_53 : decode cX13_walkOdds 53 = .ok (.lreturn, 1) := dz0 dzo173 6 dzbX13_walkOdds_47 rfl
theorem dX13_walkOdds_54 : decode cX13_walkOdds 54 = .ok (.lconst 0, 1) := dz0 dzo9 7 dzbX13_walkOdds_47 rfl
theorem dX13_walkOdds_55 : decode cX13_walkOdds 55 = .ok (.lstore 4, 2) := dz1 dzo55 8 4 dzbX13_walkOdds_47 rfl
theorem dX13_walkOdds_57 : decode cX13_walkOdds 57 = .ok (.lconst 0, 1) := dz0 dzo9 10 dzbX13_walkOdds_47 rfl
theorem dX13_walkOdds_58 : decode cX13_walkOdds 58 = .ok (.lstore 6, 2) := dz1 dzo55 11 6 dzbX13_walkOdds_47 rfl
theorem dX13_walkOdds_60 : decode cX13_walkOdds 60 = .ok (.iconst 0, 1) := dz0 dzo3 13 dzbX13_walkOdds_47 rfl
theorem dX13_walkOdds_61 : decode cX13_walkOdds 61 = .ok (.istore 8, 2) := dz1 dzo54 14 8 dzbX13_walkOdds_47 rfl
theorem dX13_walkOdds_63 : decode cX13_walkOdds 63 = .ok (.iload 8, 2) := dz1 dzo21 16 8 dzbX13_walkOdds_47 rfl
theorem dX13_walkOdds_65 : decode cX13_walkOdds 65 = .ok (.aload_n 0, 1) := dz0 dzo42 18 dzbX13_walkOdds_47 rfl
theorem dX13_walkOdds_66 : decode cX13_walkOdds 66 = .ok (.invokevirtual 385, 3) := dz2 dzo182 19 1 129 dzbX13_walkOdds_47 rfl
theorem dzbX13_walkOdds_69 : dzB cX13_walkOdds 69 [162, 0, 46, 22, 6, 42, 21, 8, 182, 1, 132, 97, 55, 6, 22, 4, 42, 27, 28, 21, 8, 182, 1, 120] := by decide +kernel
theorem dX13_walkOdds_69 : decode cX13_walkOdds 69 = .ok (.if_icmp .ge 46, 3) := dz4 dzo162 0 0 46 46 rfl dzbX13_walkOdds_69 rfl
theorem dX13_walkOdds_72 : decode cX13_walkOdds 72 = .ok (.lload 6, 2) := dz1 dzo22 3 6 dzbX13_walkOdds_69 rfl
theorem dX13_walkOdds_74 : decode cX13_walkOdds 74 = .ok (.aload_n 0, 1) := dz0 dzo42 5 dzbX13_walkOdds_69 rfl
theorem dX13_walkOdds_75 : decode cX13_walkOdds 75 = .ok (.iload 8, 2) := dz1 dzo21 6 8 dzbX13_walkOdds_69 rfl
theorem dX13_walkOdds_77 : decode cX13_walkOdds 77 = .ok (.invokevirtual 388, 3) := dz2 dzo182 8 1 132 dzbX13_walkOdds_69 rfl
theorem dX13_walkOdds_80 : decode cX13_walkOdds 80 = .ok (.ladd, 1) := dz0 dzo97 11 dzbX13_walkOdds_69 rfl
theorem dX13_walkOdds_81 : decode cX13_walkOdds 81 = .ok (.lstore 6, 2) := dz1 dzo55 12 6 dzbX13_walkOdds_69 rfl
theorem dX13_walkOdds_83 : decode cX13_walkOdds 83 = .ok (.lload 4, 2) := dz1 dzo22 14 4 dzbX13_walkOdds_69 rfl
theorem dX13_walkOdds_85 : decode cX13_walkOdds 85 = .ok (.aload_n 0, 1) := dz0 dzo42 16 dzbX13_walkOdds_69 rfl
theorem dX13_walkOdds_86 : decode cX13_walkOdds 86 = .ok (.iload_n 1, 1) := dz0 dzo27 17 dzbX13_walkOdds_69 rfl
theorem dX13_walkOdds_87 : decode cX13_walkOdds 87 = .ok (.iload_n 2, 1) := dz0 dzo28 18 dzbX13_walkOdds_69 rfl
theorem dX13_walkOdds_88 : decode cX13_walkOdds 88 = .ok (.iload 8, 2) := dz1 dzo21 19 8 dzbX13_walkOdds_69 rfl
theorem dX13_walkOdds_90 : decode cX13_walkOdds 90 = .ok (.invokevirtual 376, 3) := dz2 dzo182 21 1 120 dzbX13_walkOdds_69 rfl
theorem dzbX13_walkOdds_93 : dzB cX13_walkOdds 93 [153, 0, 12, 42, 21, 8, 182, 1, 132, 167, 0, 4, 9, 97, 55, 4, 132, 8, 1, 167, 255, 207, 42] := by decide +kernel
theorem dX13_walkOdds_93 : decode cX13_walkOdds 93 = .ok (.ifCond .eq 12, 3) := dz4 dzo153 0 0 12 12 rfl dzbX13_walkOdds_93 rfl
theorem dX13_walkOdds_96 : decode cX13_walkOdds 96 = .ok (.aload_n 0, 1) := dz0 dzo42 3 dzbX13_walkOdds_93 rfl
theorem dX13_walkOdds_97 : decode cX13_walkOdds 97 = .ok (.iload 8, 2) := dz1 dzo21 4 8 dzbX13_walkOdds_93 rfl
theorem dX13_walkOdds_99 : decode cX13_walkOdds 99 = .ok (.invokevirtual 388, 3) := dz2 dzo182 6 1 132 dzbX13_walkOdds_93 rfl
theorem dX13_walkOdds_102 : decode cX13_walkOdds 102 = .ok (.goto 4, 3) := dz4 dzo167 9 0 4 4 rfl dzbX13_walkOdds_93 rfl
theorem dX13_walkOdds_105 : decode cX13_walkOdds 105 = .ok (.lconst 0, 1) := dz0 dzo9 12 dzbX13_walkOdds_93 rfl
theorem dX13_walkOdds_106 : decode cX13_walkOdds 106 = .ok (.ladd, 1) := dz0 dzo97 13 dzbX13_walkOdds_93 rfl
theorem dX13_walkOdds_107 : decode cX13_walkOdds 107 = .ok (.lstore 4, 2) := dz1 dzo55 14 4 dzbX13_walkOdds_93 rfl
theorem dX13_walkOdds_109 : decode cX13_walkOdds 109 = .ok (.iinc 8 1, 3) := dz5 dzo132 16 8 1 1 rfl dzbX13_walkOdds_93 rfl
theorem dX13_walkOdds_112 : decode cX13_walkOdds 112 = .ok (.goto (-49), 3) := dz4 dzo167 19 255 207 (-49) rfl dzbX13_walkOdds_93 rfl
theorem dX13_walkOdds_115 : decode cX13_walkOdds 115 = .ok (.aload_n 0, 1) := dz0 dzo42 22 dzbX13_walkOdds_93 rfl
theorem dzbX13_walkOdds_116 : dzB cX13_walkOdds 116 [22, 4, 22, 6, 29, 182, 1, 139, 173] := by decide +kernel
theorem dX13_walkOdds_116 : decode cX13_walkOdds 116 = .ok (.lload 4, 2) := dz1 dzo22 0 4 dzbX13_walkOdds_116 rfl
theorem dX13_walkOdds_118 : decode cX13_walkOdds 118 = .ok (.lload 6, 2) := dz1 dzo22 2 6 dzbX13_walkOdds_116 rfl
theorem dX13_walkOdds_120 : decode cX13_walkOdds 120 = .ok (.iload_n 3, 1) := dz0 dzo29 4 dzbX13_walkOdds_116 rfl
theorem dX13_walkOdds_121 : decode cX13_walkOdds 121 = .ok (.invokevirtual 395, 3) := dz2 dzo182 5 1 139 dzbX13_walkOdds_116 rfl
theorem dX13_walkOdds_124 : decode cX13_walkOdds 124 = .ok (.lreturn, 1) := dz0 dzo173 8 dzbX13_walkOdds_116 rfl
theorem dzbX13_walker_0 : dzB cX13_walker 0 [42, 3, 181, 0, 42, 42, 27, 182, 1, 55, 153, 0, 12, 28, 3, 7, 184, 0, 124, 154, 0, 9, 42, 4] := by decide +kernel
theorem dX13_walker_0 : decode cX13_walker 0 = .ok (.aload_n 0, 1) := dz0 dzo42 0 dzbX13_walker_0 rfl
theorem dX13_walker_1 : decode cX13_walker 1 = .ok (.iconst 0, 1) := dz0 dzo3 1 dzbX13_walker_0 rfl
theorem dX13_walker_2 : decode cX13_walker 2 = .ok (.putfield 42, 3) := dz2 dzo181 2 0 42 dzbX13_walker_0 rfl
theorem dX13_walker_5 : decode cX13_walker 5 = .ok (.aload_n 0, 1) := dz0 dzo42 5 dzbX13_walker_0 rfl
theorem dX13_walker_6 : decode cX13_walker 6 = .ok (.iload_n 1, 1) := dz0 dzo27 6 dzbX13_walker_0 rfl
theorem dX13_walker_7 : decode cX13_walker 7 = .ok (.invokevirtual 311, 3) := dz2 dzo182 7 1 55 dzbX13_walker_0 rfl
theorem dX13_walker_10 : decode cX13_walker 10 = .ok (.ifCond .eq 12, 3) := dz4 dzo153 10 0 12 12 rfl dzbX13_walker_0 rfl
theorem dX13_walker_13 : decode cX13_walker 13 = .ok (.iload_n 2, 1) := dz0 dzo28 13 dzbX13_walker_0 rfl
theorem dX13_walker_14 : decode cX13_walker 14 = .ok (.iconst 0, 1) := dz0 dzo3 14 dzbX13_walker_0 rfl
theorem dX13_walker_15 : decode cX13_walker 15 = .ok (.iconst 4, 1) := dz0 dzo7 15 dzbX13_walker_0 rfl
theorem dX13_walker_16 : decode cX13_walker 16 = .ok (.invokestatic 124, 3) := dz2 dzo184 16 0 124 dzbX13_walker_0 rfl
theorem dX13_walker_19 : decode cX13_walker 19 = .ok (.ifCond .ne 9, 3) := dz4 dzo154 19 0 9 9 rfl dzbX13_walker_0 rfl
theorem dX13_walker_22 : decode cX13_walker 22 = .ok (.aload_n 0, 1) := dz0 dzo42 22 dzbX13_walker_0 rfl
theorem dX13_walker_23 : decode cX13_walker 23 = .ok (.iconst 1, 1) := dz0 dzo4 23 dzbX13_walker_0 rfl
theorem dzbX13_walker_24 : dzB cX13_walker 24 [182, 0, 48, 172, 28] := by decide +kernel
theorem dX13_walker_24 : decode cX13_walker 24 = .ok (.invokevirtual 48, 3) := dz2 dzo182 0 0 48 dzbX13_walker_24 rfl
theorem dX13_walker_27 : decode cX13_walker 27 = .ok (.ireturn, 1) := dz0 dzo172 3 dzbX13_walker_24 rfl
theorem dX13_walker_28 : decode cX13_walker 28 = .ok (.iload_n 2, 1) := dz0 dzo28 4 dzbX13_walker_24 rfl
theorem dX13_walker_29 : decode cX13_walker 29 = .ok (.tableswitch 87 0 3 #[31, 45, 59, 73], 31) := by decide +kernel
theorem dzbX13_walker_60 : dzB cX13_walker 60 [42, 42, 180, 1, 13, 180, 0, 238, 27, 46, 182, 0, 52, 172, 42, 42, 180, 0, 17, 16, 20, 27, 96, 46] := by decide +kernel
theorem dX13_walker_60 : decode cX13_walker 60 = .ok (.aload_n 0, 1) := dz0 dzo42 0 dzbX13_walker_60 rfl
theorem dX13_walker_61 : decode cX13_walker 61 = .ok (.aload_n 0, 1) := dz0 dzo42 1 dzbX13_walker_60 rfl
theorem dX13_walker_62 : decode cX13_walker 62 = .ok (.getfield 269, 3) := dz2 dzo180 2 1 13 dzbX13_walker_60 rfl
theorem dX13_walker_65 : decode cX13_walker 65 = .ok (.getfield 238, 3) := dz2 dzo180 5 0 238 dzbX13_walker_60 rfl
theorem dX13_walker_68 : decode cX13_walker 68 = .ok (.iload_n 1, 1) := dz0 dzo27 8 dzbX13_walker_60 rfl
theorem dX13_walker_69 : decode cX13_walker 69 = .ok (.iaload, 1) := dz0 dzo46 9 dzbX13_walker_60 rfl
theorem dX13_walker_70 : decode cX13_walker 70 = .ok (.invokevirtual 52, 3) := dz2 dzo182 10 0 52 dzbX13_walker_60 rfl
theorem dX13_walker_73 : decode cX13_walker 73 = .ok (.ireturn, 1) := dz0 dzo172 13 dzbX13_walker_60 rfl
theorem dX13_walker_74 : decode cX13_walker 74 = .ok (.aload_n 0, 1) := dz0 dzo42 14 dzbX13_walker_60 rfl
theorem dX13_walker_75 : decode cX13_walker 75 = .ok (.aload_n 0, 1) := dz0 dzo42 15 dzbX13_walker_60 rfl
theorem dX13_walker_76 : decode cX13_walker 76 = .ok (.getfield 17, 3) := dz2 dzo180 16 0 17 dzbX13_walker_60 rfl
theorem dX13_walker_79 : decode cX13_walker 79 = .ok (.bipush 20, 2) := dz3 dzo16 19 20 20 rfl dzbX13_walker_60 rfl
theorem dX13_walker_81 : decode cX13_walker 81 = .ok (.iload_n 1, 1) := dz0 dzo27 21 dzbX13_walker_60 rfl
theorem dX13_walker_82 : decode cX13_walker 82 = .ok (.iadd, 1) := dz0 dzo96 22 dzbX13_walker_60 rfl
theorem dX13_walker_83 : decode cX13_walker 83 = .ok (.iaload, 1) := dz0 dzo46 23 dzbX13_walker_60 rfl
theorem dzbX13_walker_84 : dzB cX13_walker 84 [182, 0, 52, 172, 42, 42, 180, 1, 13, 180, 0, 243, 27, 46, 182, 0, 52, 172, 42, 42, 180, 0, 17] := by decide +kernel
theorem dX13_walker_84 : decode cX13_walker 84 = .ok (.invokevirtual 52, 3) := dz2 dzo182 0 0 52 dzbX13_walker_84 rfl
theorem dX13_walker_87 : decode cX13_walker 87 = .ok (.ireturn, 1) := dz0 dzo172 3 dzbX13_walker_84 rfl
theorem dX13_walker_88 : decode cX13_walker 88 = .ok (.aload_n 0, 1) := dz0 dzo42 4 dzbX13_walker_84 rfl
theorem dX13_walker_89 : decode cX13_walker 89 = .ok (.aload_n 0, 1) := dz0 dzo42 5 dzbX13_walker_84 rfl
theorem dX13_walker_90 : decode cX13_walker 90 = .ok (.getfield 269, 3) := dz2 dzo180 6 1 13 dzbX13_walker_84 rfl
theorem dX13_walker_93 : decode cX13_walker 93 = .ok (.getfield 243, 3) := dz2 dzo180 9 0 243 dzbX13_walker_84 rfl
theorem dX13_walker_96 : decode cX13_walker 96 = .ok (.iload_n 1, 1) := dz0 dzo27 12 dzbX13_walker_84 rfl
theorem dX13_walker_97 : decode cX13_walker 97 = .ok (.iaload, 1) := dz0 dzo46 13 dzbX13_walker_84 rfl
theorem dX13_walker_98 : decode cX13_walker 98 = .ok (.invokevirtual 52, 3) := dz2 dzo182 14 0 52 dzbX13_walker_84 rfl
theorem dX13_walker_101 : decode cX13_walker 101 = .ok (.ireturn, 1) := dz0 dzo172 17 dzbX13_walker_84 rfl
theorem dX13_walker_102 : decode cX13_walker 102 = .ok (.aload_n 0, 1) := dz0 dzo42 18 dzbX13_walker_84 rfl
theorem dX13_walker_103 : decode cX13_walker 103 = .ok (.aload_n 0, 1) := dz0 dzo42 19 dzbX13_walker_84 rfl
theorem dX13_walker_104 : decode cX13_walker 104 = .ok (.getfield 17, 3) := dz2 dzo180 20 0 17 dzbX13_walker_84 rfl
theorem dzbX13_walker_107 : dzB cX13_walker 107 [16, 24, 27, 96, 46, 182, 0, 52, 172, 42, 42, 180, 0, 17, 16, 28, 27, 96, 46, 182, 0, 52, 172] := by decide +kernel
theorem dX13_walker_107 : decode cX13_walker 107 = .ok (.bipush 24, 2) := dz3 dzo16 0 24 24 rfl dzbX13_walker_107 rfl
theorem dX13_walker_109 : decode cX13_walker 109 = .ok (.iload_n 1, 1) := dz0 dzo27 2 dzbX13_walker_107 rfl
theorem dX13_walker_110 : decode cX13_walker 110 = .ok (.iadd, 1) := dz0 dzo96 3 dzbX13_walker_107 rfl
theorem dX13_walker_111 : decode cX13_walker 111 = .ok (.iaload, 1) := dz0 dzo46 4 dzbX13_walker_107 rfl
theorem dX13_walker_112 : decode cX13_walker 112 = .ok (.invokevirtual 52, 3) := dz2 dzo182 5 0 52 dzbX13_walker_107 rfl
theorem dX13_walker_115 : decode cX13_walker 115 = .ok (.ireturn, 1) := dz0 dzo172 8 dzbX13_walker_107 rfl
theorem dX13_walker_116 : decode cX13_walker 116 = .ok (.aload_n 0, 1) := dz0 dzo42 9 dzbX13_walker_107 rfl
theorem dX13_walker_117 : decode cX13_walker 117 = .ok (.aload_n 0, 1) := dz0 dzo42 10 dzbX13_walker_107 rfl
theorem dX13_walker_118 : decode cX13_walker 118 = .ok (.getfield 17, 3) := dz2 dzo180 11 0 17 dzbX13_walker_107 rfl
theorem dX13_walker_121 : decode cX13_walker 121 = .ok (.bipush 28, 2) := dz3 dzo16 14 28 28 rfl dzbX13_walker_107 rfl
theorem dX13_walker_123 : decode cX13_walker 123 = .ok (.iload_n 1, 1) := dz0 dzo27 16 dzbX13_walker_107 rfl
theorem dX13_walker_124 : decode cX13_walker 124 = .ok (.iadd, 1) := dz0 dzo96 17 dzbX13_walker_107 rfl
theorem dX13_walker_125 : decode cX13_walker 125 = .ok (.iaload, 1) := dz0 dzo46 18 dzbX13_walker_107 rfl
theorem dX13_walker_126 : decode cX13_walker 126 = .ok (.invokevirtual 52, 3) := dz2 dzo182 19 0 52 dzbX13_walker_107 rfl
theorem dX13_walker_129 : decode cX13_walker 129 = .ok (.ireturn, 1) := dz0 dzo172 22 dzbX13_walker_107 rfl
theorem dzbX13_walkersAt_0 : dzB cX13_walkersAt 0 [3, 61, 3] := by decide +kernel
theorem dX13_walkersAt_0 : decode cX13_walkersAt 0 = .ok (.iconst 0, 1) := dz0 dzo3 0 dzbX13_walkersAt_0 rfl
theorem dX13_walkersAt_1 : decode cX13_walkersAt 1 = .ok (.istore_n 2, 1) := dz0 dzo61 1 dzbX13_walkersAt_0 rfl
theorem dX13_walkersAt_2 : decode cX13_walkersAt 2 = .ok (.iconst 0, 1) := dz0 dzo3 2 dzbX13_walkersAt_0 rfl
