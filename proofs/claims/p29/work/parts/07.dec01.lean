theorem dzbX11_image_35 : dzB cX11_image 35 [50, 42, 180, 0, 19, 182, 0, 240, 42, 89, 180, 0, 118, 4, 96, 181, 0, 118, 42, 42, 180, 0, 118, 4] := by decide +kernel
theorem dX11_image_35 : decode cX11_image 35 = .ok (.aaload, 1) := dz0 dzo50 0 dzbX11_image_35 rfl
theorem dX11_image_36 : decode cX11_image 36 = .ok (.aload_n 0, 1) := dz0 dzo42 1 dzbX11_image_35 rfl
theorem dX11_image_37 : decode cX11_image 37 = .ok (.getfield 19, 3) := dz2 dzo180 2 0 19 dzbX11_image_35 rfl
theorem dX11_image_40 : decode cX11_image 40 = .ok (.invokevirtual 240, 3) := dz2 dzo182 5 0 240 dzbX11_image_35 rfl
theorem dX11_image_43 : decode cX11_image 43 = .ok (.aload_n 0, 1) := dz0 dzo42 8 dzbX11_image_35 rfl
theorem dX11_image_44 : decode cX11_image 44 = .ok (.dup, 1) := dz0 dzo89 9 dzbX11_image_35 rfl
theorem dX11_image_45 : decode cX11_image 45 = .ok (.getfield 118, 3) := dz2 dzo180 10 0 118 dzbX11_image_35 rfl
theorem dX11_image_48 : decode cX11_image 48 = .ok (.iconst 1, 1) := dz0 dzo4 13 dzbX11_image_35 rfl
theorem dX11_image_49 : decode cX11_image 49 = .ok (.iadd, 1) := dz0 dzo96 14 dzbX11_image_35 rfl
theorem dX11_image_50 : decode cX11_image 50 = .ok (.putfield 118, 3) := dz2 dzo181 15 0 118 dzbX11_image_35 rfl
theorem dX11_image_53 : decode cX11_image 53 = .ok (.aload_n 0, 1) := dz0 dzo42 18 dzbX11_image_35 rfl
theorem dX11_image_54 : decode cX11_image 54 = .ok (.aload_n 0, 1) := dz0 dzo42 19 dzbX11_image_35 rfl
theorem dX11_image_55 : decode cX11_image 55 = .ok (.getfield 118, 3) := dz2 dzo180 20 0 118 dzbX11_image_35 rfl
theorem dX11_image_58 : decode cX11_image 58 = .ok (.iconst 1, 1) := dz0 dzo4 23 dzbX11_image_35 rfl
theorem dzbX11_image_59 : dzB cX11_image 59 [100, 182, 0, 130, 172] := by decide +kernel
theorem dX11_image_59 : decode cX11_image 59 = .ok (.isub, 1) := dz0 dzo100 0 dzbX11_image_59 rfl
theorem dX11_image_60 : decode cX11_image 60 = .ok (.invokevirtual 130, 3) := dz2 dzo182 1 0 130 dzbX11_image_59 rfl
theorem dX11_image_63 : decode cX11_image 63 = .ok (.ireturn, 1) := dz0 dzo172 4 dzbX11_image_59 rfl
theorem dzbX11_init_0 : dzB cX11_init 0 [42, 183, 0, 1, 42, 187, 0, 7, 89, 183, 0, 9, 181, 0, 10, 42, 187, 0, 16, 89, 183, 0, 18] := by decide +kernel
theorem dX11_init_0 : decode cX11_init 0 = .ok (.aload_n 0, 1) := dz0 dzo42 0 dzbX11_init_0 rfl
theorem dX11_init_1 : decode cX11_init 1 = .ok (.invokespecial 1, 3) := dz2 dzo183 1 0 1 dzbX11_init_0 rfl
theorem dX11_init_4 : decode cX11_init 4 = .ok (.aload_n 0, 1) := dz0 dzo42 4 dzbX11_init_0 rfl
theorem dX11_init_5 : decode cX11_init 5 = .ok (.new 7, 3) := dz2 dzo187 5 0 7 dzbX11_init_0 rfl
theorem dX11_init_8 : decode cX11_init 8 = .ok (.dup, 1) := dz0 dzo89 8 dzbX11_init_0 rfl
theorem dX11_init_9 : decode cX11_init 9 = .ok (.invokespecial 9, 3) := dz2 dzo183 9 0 9 dzbX11_init_0 rfl
theorem dX11_init_12 : decode cX11_init 12 = .ok (.putfield 10, 3) := dz2 dzo181 12 0 10 dzbX11_init_0 rfl
theorem dX11_init_15 : decode cX11_init 15 = .ok (.aload_n 0, 1) := dz0 dzo42 15 dzbX11_init_0 rfl
theorem dX11_init_16 : decode cX11_init 16 = .ok (.new 16, 3) := dz2 dzo187 16 0 16 dzbX11_init_0 rfl
theorem dX11_init_19 : decode cX11_init 19 = .ok (.dup, 1) := dz0 dzo89 19 dzbX11_init_0 rfl
theorem dX11_init_20 : decode cX11_init 20 = .ok (.invokespecial 18, 3) := dz2 dzo183 20 0 18 dzbX11_init_0 rfl
theorem dzbX11_init_23 : dzB cX11_init 23 [181, 0, 19, 42, 187, 0, 16, 89, 183, 0, 18, 181, 0, 23, 42, 16, 16, 189, 0, 16, 181, 0, 26, 42] := by decide +kernel
theorem dX11_init_23 : decode cX11_init 23 = .ok (.putfield 19, 3) := dz2 dzo181 0 0 19 dzbX11_init_23 rfl
theorem dX11_init_26 : decode cX11_init 26 = .ok (.aload_n 0, 1) := dz0 dzo42 3 dzbX11_init_23 rfl
theorem dX11_init_27 : decode cX11_init 27 = .ok (.new 16, 3) := dz2 dzo187 4 0 16 dzbX11_init_23 rfl
theorem dX11_init_30 : decode cX11_init 30 = .ok (.dup, 1) := dz0 dzo89 7 dzbX11_init_23 rfl
theorem dX11_init_31 : decode cX11_init 31 = .ok (.invokespecial 18, 3) := dz2 dzo183 8 0 18 dzbX11_init_23 rfl
theorem dX11_init_34 : decode cX11_init 34 = .ok (.putfield 23, 3) := dz2 dzo181 11 0 23 dzbX11_init_23 rfl
theorem dX11_init_37 : decode cX11_init 37 = .ok (.aload_n 0, 1) := dz0 dzo42 14 dzbX11_init_23 rfl
theorem dX11_init_38 : decode cX11_init 38 = .ok (.bipush 16, 2) := dz3 dzo16 15 16 16 rfl dzbX11_init_23 rfl
theorem dX11_init_40 : decode cX11_init 40 = .ok (.anewarray 16, 3) := dz2 dzo189 17 0 16 dzbX11_init_23 rfl
theorem dX11_init_43 : decode cX11_init 43 = .ok (.putfield 26, 3) := dz2 dzo181 20 0 26 dzbX11_init_23 rfl
theorem dX11_init_46 : decode cX11_init 46 = .ok (.aload_n 0, 1) := dz0 dzo42 23 dzbX11_init_23 rfl
theorem dzbX11_init_47 : dzB cX11_init 47 [6, 189, 0, 16, 181, 0, 30, 42, 187, 0, 33, 89, 183, 0, 35, 181, 0, 36, 42, 187, 0, 33, 89] := by decide +kernel
theorem dX11_init_47 : decode cX11_init 47 = .ok (.iconst 3, 1) := dz0 dzo6 0 dzbX11_init_47 rfl
theorem dX11_init_48 : decode cX11_init 48 = .ok (.anewarray 16, 3) := dz2 dzo189 1 0 16 dzbX11_init_47 rfl
theorem dX11_init_51 : decode cX11_init 51 = .ok (.putfield 30, 3) := dz2 dzo181 4 0 30 dzbX11_init_47 rfl
theorem dX11_init_54 : decode cX11_init 54 = .ok (.aload_n 0, 1) := dz0 dzo42 7 dzbX11_init_47 rfl
theorem dX11_init_55 : decode cX11_init 55 = .ok (.new 33, 3) := dz2 dzo187 8 0 33 dzbX11_init_47 rfl
theorem dX11_init_58 : decode cX11_init 58 = .ok (.dup, 1) := dz0 dzo89 11 dzbX11_init_47 rfl
theorem dX11_init_59 : decode cX11_init 59 = .ok (.invokespecial 35, 3) := dz2 dzo183 12 0 35 dzbX11_init_47 rfl
theorem dX11_init_62 : decode cX11_init 62 = .ok (.putfield 36, 3) := dz2 dzo181 15 0 36 dzbX11_init_47 rfl
theorem dX11_init_65 : decode cX11_init 65 = .ok (.aload_n 0, 1) := dz0 dzo42 18 dzbX11_init_47 rfl
theorem dX11_init_66 : decode cX11_init 66 = .ok (.new 33, 3) := dz2 dzo187 19 0 33 dzbX11_init_47 rfl
theorem dX11_init_69 : decode cX11_init 69 = .ok (.dup, 1) := dz0 dzo89 22 dzbX11_init_47 rfl
theorem dzbX11_init_70 : dzB cX11_init 70 [183, 0, 35, 181, 0, 40, 42, 187, 0, 43, 89, 183, 0, 45, 181, 0, 46, 42, 187, 0, 50, 89] := by decide +kernel
theorem dX11_init_70 : decode cX11_init 70 = .ok (.invokespecial 35, 3) := dz2 dzo183 0 0 35 dzbX11_init_70 rfl
theorem dX11_init_73 : decode cX11_init 73 = .ok (.putfield 40, 3) := dz2 dzo181 3 0 40 dzbX11_init_70 rfl
theorem dX11_init_76 : decode cX11_init 76 = .ok (.aload_n 0, 1) := dz0 dzo42 6 dzbX11_init_70 rfl
theorem dX11_init_77 : decode cX11_init 77 = .ok (.new 43, 3) := dz2 dzo187 7 0 43 dzbX11_init_70 rfl
theorem dX11_init_80 : decode cX11_init 80 = .ok (.dup, 1) := dz0 dzo89 10 dzbX11_init_70 rfl
theorem dX11_init_81 : decode cX11_init 81 = .ok (.invokespecial 45, 3) := dz2 dzo183 11 0 45 dzbX11_init_70 rfl
theorem dX11_init_84 : decode cX11_init 84 = .ok (.putfield 46, 3) := dz2 dzo181 14 0 46 dzbX11_init_70 rfl
theorem dX11_init_87 : decode cX11_init 87 = .ok (.aload_n 0, 1) := dz0 dzo42 17 dzbX11_init_70 rfl
theorem dX11_init_88 : decode cX11_init 88 = .ok (.new 50, 3) := dz2 dzo187 18 0 50 dzbX11_init_70 rfl
theorem dX11_init_91 : decode cX11_init 91 = .ok (.dup, 1) := dz0 dzo89 21 dzbX11_init_70 rfl
theorem dzbX11_init_92 : dzB cX11_init 92 [183, 0, 52, 181, 0, 53, 42, 187, 0, 57, 89, 183, 0, 59, 181, 0, 60, 42, 187, 0, 64, 89] := by decide +kernel
theorem dX11_init_92 : decode cX11_init 92 = .ok (.invokespecial 52, 3) := dz2 dzo183 0 0 52 dzbX11_init_92 rfl
theorem dX11_init_95 : decode cX11_init 95 = .ok (.putfield 53, 3) := dz2 dzo181 3 0 53 dzbX11_init_92 rfl
theorem dX11_init_98 : decode cX11_init 98 = .ok (.aload_n 0, 1) := dz0 dzo42 6 dzbX11_init_92 rfl
theorem dX11_init_99 : decode cX11_init 99 = .ok (.new 57, 3) := dz2 dzo187 7 0 57 dzbX11_init_92 rfl
theorem dX11_init_102 : decode cX11_init 102 = .ok (.dup, 1) := dz0 dzo89 10 dzbX11_init_92 rfl
theorem dX11_init_103 : decode cX11_init 103 = .ok (.invokespecial 59, 3) := dz2 dzo183 11 0 59 dzbX11_init_92 rfl
theorem dX11_init_106 : decode cX11_init 106 = .ok (.putfield 60, 3) := dz2 dzo181 14 0 60 dzbX11_init_92 rfl
theorem dX11_init_109 : decode cX11_init 109 = .ok (.aload_n 0, 1) := dz0 dzo42 17 dzbX11_init_92 rfl
theorem dX11_init_110 : decode cX11_init 110 = .ok (.new 64, 3) := dz2 dzo187 18 0 64 dzbX11_init_92 rfl
theorem dX11_init_113 : decode cX11_init 113 = .ok (.dup, 1) := dz0 dzo89 21 dzbX11_init_92 rfl
theorem dzbX11_init_114 : dzB cX11_init 114 [183, 0, 66, 181, 0, 67, 42, 187, 0, 71, 89, 183, 0, 73, 181, 0, 74, 42, 187, 0, 78, 89] := by decide +kernel
theorem dX11_init_114 : decode cX11_init 114 = .ok (.invokespecial 66, 3) := dz2 dzo183 0 0 66 dzbX11_init_114 rfl
theorem dX11_init_117 : decode cX11_init 117 = .ok (.putfield 67, 3) := dz2 dzo181 3 0 67 dzbX11_init_114 rfl
theorem dX11_init_120 : decode cX11_init 120 = .ok (.aload_n 0, 1) := dz0 dzo42 6 dzbX11_init_114 rfl
theorem dX11_init_121 : decode cX11_init 121 = .ok (.new 71, 3) := dz2 dzo187 7 0 71 dzbX11_init_114 rfl
theorem dX11_init_124 : decode cX11_init 124 = .ok (.dup, 1) := dz0 dzo89 10 dzbX11_init_114 rfl
theorem dX11_init_125 : decode cX11_init 125 = .ok (.invokespecial 73, 3) := dz2 dzo183 11 0 73 dzbX11_init_114 rfl
theorem dX11_init_128 : decode cX11_init 128 = .ok (.putfield 74, 3) := dz2 dzo181 14 0 74 dzbX11_init_114 rfl
theorem dX11_init_131 : decode cX11_init 131 = .ok (.aload_n 0, 1) := dz0 dzo42 17 dzbX11_init_114 rfl
theorem dX11_init_132 : decode cX11_init 132 = .ok (.new 78, 3) := dz2 dzo187 18 0 78 dzbX11_init_114 rfl
theorem dX11_init_135 : decode cX11_init 135 = .ok (.dup, 1) := dz0 dzo89 21 dzbX11_init_114 rfl
theorem dzbX11_init_136 : dzB cX11_init 136 [183, 0, 80, 181, 0, 81, 42, 187, 0, 78, 89, 183, 0, 80, 181, 0, 85, 3, 60, 27, 16, 16] := by decide +kernel
theorem dX11_init_136 : decode cX11_init 136 = .ok (.invokespecial 80, 3) := dz2 dzo183 0 0 80 dzbX11_init_136 rfl
theorem dX11_init_139 : decode cX11_init 139 = .ok (.putfield 81, 3) := dz2 dzo181 3 0 81 dzbX11_init_136 rfl
theorem dX11_init_142 : decode cX11_init 142 = .ok (.aload_n 0, 1) := dz0 dzo42 6 dzbX11_init_136 rfl
theorem dX11_init_143 : decode cX11_init 143 = .ok (.new 78, 3) := dz2 dzo187 7 0 78 dzbX11_init_136 rfl
theorem dX11_init_146 : decode cX11_init 146 = .ok (.dup, 1) := dz0 dzo89 10 dzbX11_init_136 rfl
theorem dX11_init_147 : decode cX11_init 147 = .ok (.invokespecial 80, 3) := dz2 dzo183 11 0 80 dzbX11_init_136 rfl
theorem dX11_init_150 : decode cX11_init 150 = .ok (.putfield 85, 3) := dz2 dzo181 14 0 85 dzbX11_init_136 rfl
theorem dX11_init_153 : decode cX11_init 153 = .ok (.iconst 0, 1) := dz0 dzo3 17 dzbX11_init_136 rfl
theorem dX11_init_154 : decode cX11_init 154 = .ok (.istore_n 1, 1) := dz0 dzo60 18 dzbX11_init_136 rfl
theorem dX11_init_155 : decode cX11_init 155 = .ok (.iload_n 1, 1) := dz0 dzo27 19 dzbX11_init_136 rfl
theorem dX11_init_156 : decode cX11_init 156 = .ok (.bipush 16, 2) := dz3 dzo16 20 16 16 rfl dzbX11_init_136 rfl
theorem dzbX11_init_158 : dzB cX11_init 158 [162, 0, 22, 42, 180, 0, 26, 27, 187, 0, 16, 89, 183, 0, 18, 83, 132, 1, 1, 167, 255, 234, 3, 60] := by decide +kernel
theorem dX11_init_158 : decode cX11_init 158 = .ok (.if_icmp .ge 22, 3) := dz4 dzo162 0 0 22 22 rfl dzbX11_init_158 rfl
theorem dX11_init_161 : decode cX11_init 161 = .ok (.aload_n 0, 1) := dz0 dzo42 3 dzbX11_init_158 rfl
theorem dX11_init_162 : decode cX11_init 162 = .ok (.getfield 26, 3) := dz2 dzo180 4 0 26 dzbX11_init_158 rfl
theorem dX11_init_165 : decode cX11_init 165 = .ok (.iload_n 1, 1) := dz0 dzo27 7 dzbX11_init_158 rfl
theorem dX11_init_166 : decode cX11_init 166 = .ok (.new 16, 3) := dz2 dzo187 8 0 16 dzbX11_init_158 rfl
theorem dX11_init_169 : decode cX11_init 169 = .ok (.dup, 1) := dz0 dzo89 11 dzbX11_init_158 rfl
theorem dX11_init_170 : decode cX11_init 170 = .ok (.invokespecial 18, 3) := dz2 dzo183 12 0 18 dzbX11_init_158 rfl
theorem dX11_init_173 : decode cX11_init 173 = .ok (.aastore, 1) := dz0 dzo83 15 dzbX11_init_158 rfl
theorem dX11_init_174 : decode cX11_init 174 = .ok (.iinc 1 1, 3) := dz5 dzo132 16 1 1 1 rfl dzbX11_init_158 rfl
theorem dX11_init_177 : decode cX11_init 177 = .ok (.goto (-22), 3) := dz4 dzo167 19 255 234 (-22) rfl dzbX11_init_158 rfl
theorem dX11_init_180 : decode cX11_init 180 = .ok (.iconst 0, 1) := dz0 dzo3 22 dzbX11_init_158 rfl
theorem dX11_init_181 : decode cX11_init 181 = .ok (.istore_n 1, 1) := dz0 dzo60 23 dzbX11_init_158 rfl
theorem dzbX11_init_182 : dzB cX11_init 182 [27, 6, 162, 0, 22, 42, 180, 0, 30, 27, 187, 0, 16, 89, 183, 0, 18, 83, 132, 1, 1, 167, 255, 235] := by decide +kernel
theorem dX11_init_182 : decode cX11_init 182 = .ok (.iload_n 1, 1) := dz0 dzo27 0 dzbX11_init_182 rfl
theorem dX11_init_183 : decode cX11_init 183 = .ok (.iconst 3, 1) := dz0 dzo6 1 dzbX11_init_182 rfl
theorem dX11_init_184 : decode cX11_init 184 = .ok (.if_icmp .ge 22, 3) := dz4 dzo162 2 0 22 22 rfl dzbX11_init_182 rfl
theorem dX11_init_187 : decode cX11_init 187 = .ok (.aload_n 0, 1) := dz0 dzo42 5 dzbX11_init_182 rfl
theorem dX11_init_188 : decode cX11_init 188 = .ok (.getfield 30, 3) := dz2 dzo180 6 0 30 dzbX11_init_182 rfl
theorem dX11_init_191 : decode cX11_init 191 = .ok (.iload_n 1, 1) := dz0 dzo27 9 dzbX11_init_182 rfl
theorem dX11_init_192 : decode cX11_init 192 = .ok (.new 16, 3) := dz2 dzo187 10 0 16 dzbX11_init_182 rfl
theorem dX11_init_195 : decode cX11_init 195 = .ok (.dup, 1) := dz0 dzo89 13 dzbX11_init_182 rfl
theorem dX11_init_196 : decode cX11_init 196 = .ok (.invokespecial 18, 3) := dz2 dzo183 14 0 18 dzbX11_init_182 rfl
theorem dX11_init_199 : decode cX11_init 199 = .ok (.aastore, 1) := dz0 dzo83 17 dzbX11_init_182 rfl
theorem dX11_init_200 : decode cX11_init 200 = .ok (.iinc 1 1, 3) := dz5 dzo132 18 1 1 1 rfl dzbX11_init_182 rfl
theorem dX11_init_203 : decode cX11_init 203 = .ok (.goto (-21), 3) := dz4 dzo167 21 255 235 (-21) rfl dzbX11_init_182 rfl
theorem dzbX11_init_206 : dzB cX11_init 206 [177] := by decide +kernel
theorem dX11_init_206 : decode cX11_init 206 = .ok (.return_, 1) := dz0 dzo177 0 dzbX11_init_206 rfl
theorem dzbX11_isRest_0 : dzB cX11_isRest 0 [26, 27, 28, 184, 1, 65, 26, 27, 154, 0, 7, 4, 167, 0, 4, 3, 28, 184, 1, 65, 161, 0, 7, 4] := by decide +kernel
theorem dX11_isRest_0 : decode cX11_isRest 0 = .ok (.iload_n 0, 1) := dz0 dzo26 0 dzbX11_isRest_0 rfl
theorem dX11_isRest_1 : decode cX11_isRest 1 = .ok (.iload_n 1, 1) := dz0 dzo27 1 dzbX11_isRest_0 rfl
theorem dX11_isRest_2 : decode cX11_isRest 2 = .ok (.iload_n 2, 1) := dz0 dzo28 2 dzbX11_isRest_0 rfl
theorem dX11_isRest_3 : decode cX11_isRest 3 = .ok (.invokestatic 321, 3) := dz2 dzo184 3 1 65 dzbX11_isRest_0 rfl
theorem dX11_isRest_6 : decode cX11_isRest 6 = .ok (.iload_n 0, 1) := dz0 dzo26 6 dzbX11_isRest_0 rfl
theorem dX11_isRest_7 : decode cX11_isRest 7 = .ok (.iload_n 1, 1) := dz0 dzo27 7 dzbX11_isRest_0 rfl
theorem dX11_isRest_8 : decode cX11_isRest 8 = .ok (.ifCond .ne 7, 3) := dz4 dzo154 8 0 7 7 rfl dzbX11_isRest_0 rfl
theorem dX11_isRest_11 : decode cX11_isRest 11 = .ok (.iconst 1, 1) := dz0 dzo4 11 dzbX11_isRest_0 rfl
theorem dX11_isRest_12 : decode cX11_isRest 12 = .ok (.goto 4, 3) := dz4 dzo167 12 0 4 4 rfl dzbX11_isRest_0 rfl
theorem dX11_isRest_15 : decode cX11_isRest 15 = .ok (.iconst 0, 1) := dz0 dzo3 15 dzbX11_isRest_0 rfl
theorem dX11_isRest_16 : decode cX11_isRest 16 = .ok (.iload_n 2, 1) := dz0 dzo28 16 dzbX11_isRest_0 rfl
theorem dX11_isRest_17 : decode cX11_isRest 17 = .ok (.invokestatic 321, 3) := dz2 dzo184 17 1 65 dzbX11_isRest_0 rfl
theorem dX11_isRest_20 : decode cX11_isRest 20 = .ok (.if_icmp .lt 7, 3) := dz4 dzo161 20 0 7 7 rfl dzbX11_isRest_0 rfl
theorem dX11_isRest_23 : decode cX11_isRest 23 = .ok (.iconst 1, 1) := dz0 dzo4 23 dzbX11_isRest_0 rfl
theorem dzbX11_isRest_24 : dzB cX11_isRest 24 [167, 0, 4, 3, 62, 26, 28, 27, 184, 1, 65, 26, 28, 154, 0, 7, 4, 167, 0, 4, 3, 27] := by decide +kernel
theorem dX11_isRest_24 : decode cX11_isRest 24 = .ok (.goto 4, 3) := dz4 dzo167 0 0 4 4 rfl dzbX11_isRest_24 rfl
theorem dX11_isRest_27 : decode cX11_isRest 27 = .ok (.iconst 0, 1) := dz0 dzo3 3 dzbX11_isRest_24 rfl
theorem dX11_isRest_28 : decode cX11_isRest 28 = .ok (.istore_n 3, 1) := dz0 dzo62 4 dzbX11_isRest_24 rfl
theorem dX11_isRest_29 : decode cX11_isRest 29 = .ok (.iload_n 0, 1) := dz0 dzo26 5 dzbX11_isRest_24 rfl
theorem dX11_isRest_30 : decode cX11_isRest 30 = .ok (.iload_n 2, 1) := dz0 dzo28 6 dzbX11_isRest_24 rfl
theorem dX11_isRest_31 : decode cX11_isRest 31 = .ok (.iload_n 1, 1) := dz0 dzo27 7 dzbX11_isRest_24 rfl
theorem dX11_isRest_32 : decode cX11_isRest 32 = .ok (.invokestatic 321, 3) := dz2 dzo184 8 1 65 dzbX11_isRest_24 rfl
theorem dX11_isRest_35 : decode cX11_isRest 35 = .ok (.iload_n 0, 1) := dz0 dzo26 11 dzbX11_isRest_24 rfl
theorem dX11_isRest_36 : decode cX11_isRest 36 = .ok (.iload_n 2, 1) := dz0 dzo28 12 dzbX11_isRest_24 rfl
theorem dX11_isRest_37 : decode cX11_isRest 37 = .ok (.ifCond .ne 7, 3) := dz4 dzo154 13 0 7 7 rfl dzbX11_isRest_24 rfl
theorem dX11_isRest_40 : decode cX11_isRest 40 = .ok (.iconst 1, 1) := dz0 dzo4 16 dzbX11_isRest_24 rfl
theorem dX11_isRest_41 : decode cX11_isRest 41 = .ok (.goto 4, 3) := dz4 dzo167 17 0 4 4 rfl dzbX11_isRest_24 rfl
theorem dX11_isRest_44 : decode cX11_isRest 44 = .ok (.iconst 0, 1) := dz0 dzo3 20 dzbX11_isRest_24 rfl
theorem dX11_isRest_45 : decode cX11_isRest 45 = .ok (.iload_n 1, 1) := dz0 dzo27 21 dzbX11_isRest_24 rfl
theorem dzbX11_isRest_46 : dzB cX11_isRest 46 [184, 1, 65, 161, 0, 7, 4, 167, 0, 4, 3, 54, 4, 29, 153, 0, 12, 21, 4, 153, 0, 7, 4] := by decide +kernel
theorem dX11_isRest_46 : decode cX11_isRest 46 = .ok (.invokestatic 321, 3) := dz2 dzo184 0 1 65 dzbX11_isRest_46 rfl
theorem dX11_isRest_49 : decode cX11_isRest 49 = .ok (.if_icmp .lt 7, 3) := dz4 dzo161 3 0 7 7 rfl dzbX11_isRest_46 rfl
theorem dX11_isRest_52 : decode cX11_isRest 52 = .ok (.iconst 1, 1) := dz0 dzo4 6 dzbX11_isRest_46 rfl
theorem dX11_isRest_53 : decode cX11_isRest 53 = .ok (.goto 4, 3) := dz4 dzo167 7 0 4 4 rfl dzbX11_isRest_46 rfl
theorem dX11_isRest_56 : decode cX11_isRest 56 = .ok (.iconst 0, 1) := dz0 dzo3 10 dzbX11_isRest_46 rfl
theorem dX11_isRest_57 : decode cX11_isRest 57 = .ok (.istore 4, 2) := dz1 dzo54 11 4 dzbX11_isRest_46 rfl
theorem dX11_isRest_59 : decode cX11_isRest 59 = .ok (.iload_n 3, 1) := dz0 dzo29 13 dzbX11_isRest_46 rfl
theorem dX11_isRest_60 : decode cX11_isRest 60 = .ok (.ifCond .eq 12, 3) := dz4 dzo153 14 0 12 12 rfl dzbX11_isRest_46 rfl
theorem dX11_isRest_63 : decode cX11_isRest 63 = .ok (.iload 4, 2) := dz1 dzo21 17 4 dzbX11_isRest_46 rfl
theorem dX11_isRest_65 : decode cX11_isRest 65 = .ok (.ifCond .eq 7, 3) := dz4 dzo153 19 0 7 7 rfl dzbX11_isRest_46 rfl
theorem dX11_isRest_68 : decode cX11_isRest 68 = .ok (.iconst 1, 1) := dz0 dzo4 22 dzbX11_isRest_46 rfl
theorem dzbX11_isRest_69 : dzB cX11_isRest 69 [167, 0, 4, 3, 172] := by decide +kernel
theorem dX11_isRest_69 : decode cX11_isRest 69 = .ok (.goto 4, 3) := dz4 dzo167 0 0 4 4 rfl dzbX11_isRest_69 rfl
theorem dX11_isRest_72 : decode cX11_isRest 72 = .ok (.iconst 0, 1) := dz0 dzo3 3 dzbX11_isRest_69 rfl
theorem dX11_isRest_73 : decode cX11_isRest 73 = .ok (.ireturn, 1) := dz0 dzo172 4 dzbX11_isRest_69 rfl
theorem dzbX11_isStep_0 : dzB cX11_isStep 0 [26, 155, 0, 12, 26, 7, 162, 0, 7, 4, 167, 0, 4, 3, 172] := by decide +kernel
theorem dX11_isStep_0 : decode cX11_isStep 0 = .ok (.iload_n 0, 1) := dz0 dzo26 0 dzbX11_isStep_0 rfl
theorem dX11_isStep_1 : decode cX11_isStep 1 = .ok (.ifCond .lt 12, 3) := dz4 dzo155 1 0 12 12 rfl dzbX11_isStep_0 rfl
theorem dX11_isStep_4 : decode cX11_isStep 4 = .ok (.iload_n 0, 1) := dz0 dzo26 4 dzbX11_isStep_0 rfl
theorem dX11_isStep_5 : decode cX11_isStep 5 = .ok (.iconst 4, 1) := dz0 dzo7 5 dzbX11_isStep_0 rfl
theorem dX11_isStep_6 : decode cX11_isStep 6 = .ok (.if_icmp .ge 7, 3) := dz4 dzo162 6 0 7 7 rfl dzbX11_isStep_0 rfl
theorem dX11_isStep_9 : decode cX11_isStep 9 = .ok (.iconst 1, 1) := dz0 dzo4 9 dzbX11_isStep_0 rfl
theorem dX11_isStep_10 : decode cX11_isStep 10 = .ok (.goto 4, 3) := dz4 dzo167 10 0 4 4 rfl dzbX11_isStep_0 rfl
theorem dX11_isStep_13 : decode cX11_isStep 13 = .ok (.iconst 0, 1) := dz0 dzo3 13 dzbX11_isStep_0 rfl
theorem dX11_isStep_14 : decode cX11_isStep 14 = .ok (.ireturn, 1) := dz0 dzo172 14 dzbX11_isStep_0 rfl
theorem dzbX11_isWalker_0 : dzB cX11_isWalker 0 [27, 155, 0, 18, 27, 42, 180, 0, 81, 180, 0, 223, 162, 0, 7, 4, 167, 0, 4, 3, 172] := by decide +kernel
theorem dX11_isWalker_0 : decode cX11_isWalker 0 = .ok (.iload_n 1, 1) := dz0 dzo27 0 dzbX11_isWalker_0 rfl
theorem dX11_isWalker_1 : decode cX11_isWalker 1 = .ok (.ifCond .lt 18, 3) := dz4 dzo155 1 0 18 18 rfl dzbX11_isWalker_0 rfl
theorem dX11_isWalker_4 : decode cX11_isWalker 4 = .ok (.iload_n 1, 1) := dz0 dzo27 4 dzbX11_isWalker_0 rfl
theorem dX11_isWalker_5 : decode cX11_isWalker 5 = .ok (.aload_n 0, 1) := dz0 dzo42 5 dzbX11_isWalker_0 rfl
theorem dX11_isWalker_6 : decode cX11_isWalker 6 = .ok (.getfield 81, 3) := dz2 dzo180 6 0 81 dzbX11_isWalker_0 rfl
theorem dX11_isWalker_9 : decode cX11_isWalker 9 = .ok (.getfield 223, 3) := dz2 dzo180 9 0 223 dzbX11_isWalker_0 rfl
theorem dX11_isWalker_12 : decode cX11_isWalker 12 = .ok (.if_icmp .ge 7, 3) := dz4 dzo162 12 0 7 7 rfl dzbX11_isWalker_0 rfl
theorem dX11_isWalker_15 : decode cX11_isWalker 15 = .ok (.iconst 1, 1) := dz0 dzo4 15 dzbX11_isWalker_0 rfl
theorem dX11_isWalker_16 : decode cX11_isWalker 16 = .ok (.goto 4, 3) := dz4 dzo167 16 0 4 4 rfl dzbX11_isWalker_0 rfl
theorem dX11_isWalker_19 : decode cX11_isWalker 19 = .ok (.iconst 0, 1) := dz0 dzo3 19 dzbX11_isWalker_0 rfl
theorem dX11_isWalker_20 : decode cX11_isWalker 20 = .ok (.ireturn, 1) := dz0 dzo172 20 dzbX11_isWalker_0 rfl
theorem dzbX11_judge_0 : dzB cX11_judge 0 [42, 182, 0, 188, 154, 0, 9, 42, 4, 182, 0, 100, 172, 42, 180, 0, 81, 180, 1, 45, 4, 182, 0, 191] := by decide +kernel
theorem dX11_judge_0 : decode cX11_judge 0 = .ok (.aload_n 0, 1) := dz0 dzo42 0 dzbX11_judge_0 rfl
theorem dX11_judge_1 : decode cX11_judge 1 = .ok (.invokevirtual 188, 3) := dz2 dzo182 1 0 188 dzbX11_judge_0 rfl
theorem dX11_judge_4 : decode cX11_judge 4 = .ok (.ifCond .ne 9, 3) := dz4 dzo154 4 0 9 9 rfl dzbX11_judge_0 rfl
theorem dX11_judge_7 : decode cX11_judge 7 = .ok (.aload_n 0, 1) := dz0 dzo42 7 dzbX11_judge_0 rfl
theorem dX11_judge_8 : decode cX11_judge 8 = .ok (.iconst 1, 1) := dz0 dzo4 8 dzbX11_judge_0 rfl
theorem dX11_judge_9 : decode cX11_judge 9 = .ok (.invokevirtual 100, 3) := dz2 dzo182 9 0 100 dzbX11_judge_0 rfl
theorem dX11_judge_12 : decode cX11_judge 12 = .ok (.ireturn, 1) := dz0 dzo172 12 dzbX11_judge_0 rfl
theorem dX11_judge_13 : decode cX11_judge 13 = .ok (.aload_n 0, 1) := dz0 dzo42 13 dzbX11_judge_0 rfl
theorem dX11_judge_14 : decode cX11_judge 14 = .ok (.getfield 81, 3) := dz2 dzo180 14 0 81 dzbX11_judge_0 rfl
theorem dX11_judge_17 : decode cX11_judge 17 = .ok (.getfield 301, 3) := dz2 dzo180 17 1 45 dzbX11_judge_0 rfl
theorem dX11_judge_20 : decode cX11_judge 20 = .ok (.iconst 1, 1) := dz0 dzo4 20 dzbX11_judge_0 rfl
theorem dX11_judge_21 : decode cX11_judge 21 = .ok (.invokevirtual 191, 3) := dz2 dzo182 21 0 191 dzbX11_judge_0 rfl
theorem dzbX11_judge_24 : dzB cX11_judge 24 [60, 3, 61, 28, 42, 180, 0, 81, 180, 1, 46, 162, 0, 27, 42, 180, 0, 81, 28, 27, 182, 1, 49] := by decide +kernel
theorem dX11_judge_24 : decode cX11_judge 24 = .ok (.istore_n 1, 1) := dz0 dzo60 0 dzbX11_judge_24 rfl
theorem dX11_judge_25 : decode cX11_judge 25 = .ok (.iconst 0, 1) := dz0 dzo3 1 dzbX11_judge_24 rfl
theorem dX11_judge_26 : decode cX11_judge 26 = .ok (.istore_n 2, 1) := dz0 dzo61 2 dzbX11_judge_24 rfl
theorem dX11_judge_27 : decode cX11_judge 27 = .ok (.iload_n 2, 1) := dz0 dzo28 3 dzbX11_judge_24 rfl
theorem dX11_judge_28 : decode cX11_judge 28 = .ok (.aload_n 0, 1) := dz0 dzo42 4 dzbX11_judge_24 rfl
theorem dX11_judge_29 : decode cX11_judge 29 = .ok (.getfield 81, 3) := dz2 dzo180 5 0 81 dzbX11_judge_24 rfl
theorem dX11_judge_32 : decode cX11_judge 32 = .ok (.getfield 302, 3) := dz2 dzo180 8 1 46 dzbX11_judge_24 rfl
theorem dX11_judge_35 : decode cX11_judge 35 = .ok (.if_icmp .ge 27, 3) := dz4 dzo162 11 0 27 27 rfl dzbX11_judge_24 rfl
theorem dX11_judge_38 : decode cX11_judge 38 = .ok (.aload_n 0, 1) := dz0 dzo42 14 dzbX11_judge_24 rfl
theorem dX11_judge_39 : decode cX11_judge 39 = .ok (.getfield 81, 3) := dz2 dzo180 15 0 81 dzbX11_judge_24 rfl
theorem dX11_judge_42 : decode cX11_judge 42 = .ok (.iload_n 2, 1) := dz0 dzo28 18 dzbX11_judge_24 rfl
theorem dX11_judge_43 : decode cX11_judge 43 = .ok (.iload_n 1, 1) := dz0 dzo27 19 dzbX11_judge_24 rfl
theorem dX11_judge_44 : decode cX11_judge 44 = .ok (.invokevirtual 305, 3) := dz2 dzo182 20 1 49 dzbX11_judge_24 rfl
theorem dzbX11_judge_47 : dzB cX11_judge 47 [153, 0, 9, 42, 28, 182, 0, 130, 172, 132, 2, 1, 167, 255, 224, 42, 16, 254, 182, 0, 130, 172] := by decide +kernel
theorem dX11_judge_47 : decode cX11_judge 47 = .ok (.ifCond .eq 9, 3) := dz4 dzo153 0 0 9 9 rfl dzbX11_judge_47 rfl
theorem dX11_judge_50 : decode cX11_judge 50 = .ok (.aload_n 0, 1) := dz0 dzo42 3 dzbX11_judge_47 rfl
theorem dX11_judge_51 : decode cX11_judge 51 = .ok (.iload_n 2, 1) := dz0 dzo28 4 dzbX11_judge_47 rfl
theorem dX11_judge_52 : decode cX11_judge 52 = .ok (.invokevirtual 130, 3) := dz2 dzo182 5 0 130 dzbX11_judge_47 rfl
theorem dX11_judge_55 : decode cX11_judge 55 = .ok (.ireturn, 1) := dz0 dzo172 8 dzbX11_judge_47 rfl
theorem dX11_judge_56 : decode cX11_judge 56 = .ok (.iinc 2 1, 3) := dz5 dzo132 9 2 1 1 rfl dzbX11_judge_47 rfl
theorem dX11_judge_59 : decode cX11_judge 59 = .ok (.goto (-32), 3) := dz4 dzo167 12 255 224 (-32) rfl dzbX11_judge_47 rfl
theorem dX11_judge_62 : decode cX11_judge 62 = .ok (.aload_n 0, 1) := dz0 dzo42 15 dzbX11_judge_47 rfl
theorem dX11_judge_63 : decode cX11_judge 63 = .ok (.bipush (-2), 2) := dz3 dzo16 16 254 (-2) rfl dzbX11_judge_47 rfl
theorem dX11_judge_65 : decode cX11_judge 65 = .ok (.invokevirtual 130, 3) := dz2 dzo182 18 0 130 dzbX11_judge_47 rfl
theorem dX11_judge_68 : decode cX11_judge 68 = .ok (.ireturn, 1) := dz0 dzo172 21 dzbX11_judge_47 rfl
theorem dzbX11_keepNow_0 : dzB cX11_keepNow 0 [42, 180, 0, 115, 16, 16, 160, 0, 56, 42, 180, 0, 26, 3, 50, 76, 4, 61, 28, 16, 16, 162, 0, 23] := by decide +kernel
theorem dX11_keepNow_0 : decode cX11_keepNow 0 = .ok (.aload_n 0, 1) := dz0 dzo42 0 dzbX11_keepNow_0 rfl
theorem dX11_keepNow_1 : decode cX11_keepNow 1 = .ok (.getfield 115, 3) := dz2 dzo180 1 0 115 dzbX11_keepNow_0 rfl
theorem dX11_keepNow_4 : decode cX11_keepNow 4 = .ok (.bipush 16, 2) := dz3 dzo16 4 16 16 rfl dzbX11_keepNow_0 rfl
theorem dX11_keepNow_6 : decode cX11_keepNow 6 = .ok (.if_icmp .ne 56, 3) := dz4 dzo160 6 0 56 56 rfl dzbX11_keepNow_0 rfl
theorem dX11_keepNow_9 : decode cX11_keepNow 9 = .ok (.aload_n 0, 1) := dz0 dzo42 9 dzbX11_keepNow_0 rfl
theorem dX11_keepNow_10 : decode cX11_keepNow 10 = .ok (.getfield 26, 3) := dz2 dzo180 10 0 26 dzbX11_keepNow_0 rfl
theorem dX11_keepNow_13 : decode cX11_keepNow 13 = .ok (.iconst 0, 1) := dz0 dzo3 13 dzbX11_keepNow_0 rfl
theorem dX11_keepNow_14 : decode cX11_keepNow 14 = .ok (.aaload, 1) := dz0 dzo50 14 dzbX11_keepNow_0 rfl
theorem dX11_keepNow_15 : decode cX11_keepNow 15 = .ok (.astore_n 1, 1) := dz0 dzo76 15 dzbX11_keepNow_0 rfl
theorem dX11_keepNow_16 : decode cX11_keepNow 16 = .ok (.iconst 1, 1) := dz0 dzo4 16 dzbX11_keepNow_0 rfl
theorem dX11_keepNow_17 : decode cX11_keepNow 17 = .ok (.istore_n 2, 1) := dz0 dzo61 17 dzbX11_keepNow_0 rfl
theorem dX11_keepNow_18 : decode cX11_keepNow 18 = .ok (.iload_n 2, 1) := dz0 dzo28 18 dzbX11_keepNow_0 rfl
theorem dX11_keepNow_19 : decode cX11_keepNow 19 = .ok (.bipush 16, 2) := dz3 dzo16 19 16 16 rfl dzbX11_keepNow_0 rfl
theorem dX11_keepNow_21 : decode cX11_keepNow 21 = .ok (.if_icmp .ge 23, 3) := dz4 dzo162 21 0 23 23 rfl dzbX11_keepNow_0 rfl
theorem dzbX11_keepNow_24 : dzB cX11_keepNow 24 [42, 180, 0, 26, 28, 4, 100, 42, 180, 0, 26, 28, 50, 83, 132, 2, 1, 167, 255, 233, 42, 180, 0, 26] := by decide +kernel
theorem dX11_keepNow_24 : decode cX11_keepNow 24 = .ok (.aload_n 0, 1) := dz0 dzo42 0 dzbX11_keepNow_24 rfl
theorem dX11_keepNow_25 : decode cX11_keepNow 25 = .ok (.getfield 26, 3) := dz2 dzo180 1 0 26 dzbX11_keepNow_24 rfl
theorem dX11_keepNow_28 : decode cX11_keepNow 28 = .ok (.iload_n 2, 1) := dz0 dzo28 4 dzbX11_keepNow_24 rfl
theorem dX11_keepNow_29 : decode cX11_keepNow 29 = .ok (.iconst 1, 1) := dz0 dzo4 5 dzbX11_keepNow_24 rfl
theorem dX11_keepNow_30 : decode cX11_keepNow 30 = .ok (.isub, 1) := dz0 dzo100 6 dzbX11_keepNow_24 rfl
theorem dX11_keepNow_31 : decode cX11_keepNow 31 = .ok (.aload_n 0, 1) := dz0 dzo42 7 dzbX11_keepNow_24 rfl
theorem dX11_keepNow_32 : decode cX11_keepNow 32 = .ok (.getfield 26, 3) := dz2 dzo180 8 0 26 dzbX11_keepNow_24 rfl
theorem dX11_keepNow_35 : decode cX11_keepNow 35 = .ok (.iload_n 2, 1) := dz0 dzo28 11 dzbX11_keepNow_24 rfl
theorem dX11_keepNow_36 : decode cX11_keepNow 36 = .ok (.aaload, 1) := dz0 dzo50 12 dzbX11_keepNow_24 rfl
theorem dX11_keepNow_37 : decode cX11_keepNow 37 = .ok (.aastore, 1) := dz0 dzo83 13 dzbX11_keepNow_24 rfl
theorem dX11_keepNow_38 : decode cX11_keepNow 38 = .ok (.iinc 2 1, 3) := dz5 dzo132 14 2 1 1 rfl dzbX11_keepNow_24 rfl
theorem dX11_keepNow_41 : decode cX11_keepNow 41 = .ok (.goto (-23), 3) := dz4 dzo167 17 255 233 (-23) rfl dzbX11_keepNow_24 rfl
theorem dX11_keepNow_44 : decode cX11_keepNow 44 = .ok (.aload_n 0, 1) := dz0 dzo42 20 dzbX11_keepNow_24 rfl
theorem dX11_keepNow_45 : decode cX11_keepNow 45 = .ok (.getfield 26, 3) := dz2 dzo180 21 0 26 dzbX11_keepNow_24 rfl
theorem dzbX11_keepNow_48 : dzB cX11_keepNow 48 [16, 15, 43, 83, 42, 89, 180, 0, 115, 4, 100, 181, 0, 115, 42, 180, 0, 26, 42, 180, 0, 115, 50, 42] := by decide +kernel
theorem dX11_keepNow_48 : decode cX11_keepNow 48 = .ok (.bipush 15, 2) := dz3 dzo16 0 15 15 rfl dzbX11_keepNow_48 rfl
theorem dX11_keepNow_50 : decode cX11_keepNow 50 = .ok (.aload_n 1, 1) := dz0 dzo43 2 dzbX11_keepNow_48 rfl
theorem dX11_keepNow_51 : decode cX11_keepNow 51 = .ok (.aastore, 1) := dz0 dzo83 3 dzbX11_keepNow_48 rfl
theorem dX11_keepNow_52 : decode cX11_keepNow 52 = .ok (.aload_n 0, 1) := dz0 dzo42 4 dzbX11_keepNow_48 rfl
theorem dX11_keepNow_53 : decode cX11_keepNow 53 = .ok (.dup, 1) := dz0 dzo89 5 dzbX11_keepNow_48 rfl
theorem dX11_keepNow_54 : decode cX11_keepNow 54 = .ok (.getfield 115, 3) := dz2 dzo180 6 0 115 dzbX11_keepNow_48 rfl
theorem dX11_keepNow_57 : decode cX11_keepNow 57 = .ok (.iconst 1, 1) := dz0 dzo4 9 dzbX11_keepNow_48 rfl
theorem dX11_keepNow_58 : decode cX11_keepNow 58 = .ok (.isub, 1) := dz0 dzo100 10 dzbX11_keepNow_48 rfl
theorem dX11_keepNow_59 : decode cX11_keepNow 59 = .ok (.putfield 115, 3) := dz2 dzo181 11 0 115 dzbX11_keepNow_48 rfl
theorem dX11_keepNow_62 : decode cX11_keepNow 62 = .ok (.aload_n 0, 1) := dz0 dzo42 14 dzbX11_keepNow_48 rfl
theorem dX11_keepNow_63 : decode cX11_keepNow 63 = .ok (.getfield 26, 3) := dz2 dzo180 15 0 26 dzbX11_keepNow_48 rfl
theorem dX11_keepNow_66 : decode cX11_keepNow 66 = .ok (.aload_n 0, 1) := dz0 dzo42 18 dzbX11_keepNow_48 rfl
theorem dX11_keepNow_67 : decode cX11_keepNow 67 = .ok (.getfield 115, 3) := dz2 dzo180 19 0 115 dzbX11_keepNow_48 rfl
theorem dX11_keepNow_70 : decode cX11_keepNow 70 = .ok (.aaload, 1) := dz0 dzo50 22 dzbX11_keepNow_48 rfl
theorem dX11_keepNow_71 : decode cX11_keepNow 71 = .ok (.aload_n 0, 1) := dz0 dzo42 23 dzbX11_keepNow_48 rfl
theorem dzbX11_keepNow_72 : dzB cX11_keepNow 72 [180, 0, 19, 182, 0, 240, 42, 89, 180, 0, 115, 4, 96, 181, 0, 115, 177] := by decide +kernel
theorem dX11_keepNow_72 : decode cX11_keepNow 72 = .ok (.getfield 19, 3) := dz2 dzo180 0 0 19 dzbX11_keepNow_72 rfl
theorem dX11_keepNow_75 : decode cX11_keepNow 75 = .ok (.invokevirtual 240, 3) := dz2 dzo182 3 0 240 dzbX11_keepNow_72 rfl
theorem dX11_keepNow_78 : decode cX11_keepNow 78 = .ok (.aload_n 0, 1) := dz0 dzo42 6 dzbX11_keepNow_72 rfl
theorem dX11_keepNow_79 : decode cX11_keepNow 79 = .ok (.dup, 1) := dz0 dzo89 7 dzbX11_keepNow_72 rfl
theorem dX11_keepNow_80 : decode cX11_keepNow 80 = .ok (.getfield 115, 3) := dz2 dzo180 8 0 115 dzbX11_keepNow_72 rfl
theorem dX11_keepNow_83 : decode cX11_keepNow 83 = .ok (.iconst 1, 1) := dz0 dzo4 11 dzbX11_keepNow_72 rfl
theorem dX11_keepNow_84 : decode cX11_keepNow 84 = .ok (.iadd, 1) := dz0 dzo96 12 dzbX11_keepNow_72 rfl
theorem dX11_keepNow_85 : decode cX11_keepNow 85 = .ok (.putfield 115, 3) := dz2 dzo181 13 0 115 dzbX11_keepNow_72 rfl
theorem dX11_keepNow_88 : decode cX11_keepNow 88 = .ok (.return_, 1) := dz0 dzo177 16 dzbX11_keepNow_72 rfl
theorem dzbX11_latest_0 : dzB cX11_latest 0 [42, 182, 0, 188, 154, 0, 9, 42, 4, 182, 0, 100, 172, 16, 254, 60, 2, 61, 3, 62, 29, 42] := by decide +kernel
theorem dX11_latest_0 : decode cX11_latest 0 = .ok (.aload_n 0, 1) := dz0 dzo42 0 dzbX11_latest_0 rfl
theorem dX11_latest_1 : decode cX11_latest 1 = .ok (.invokevirtual 188, 3) := dz2 dzo182 1 0 188 dzbX11_latest_0 rfl
theorem dX11_latest_4 : decode cX11_latest 4 = .ok (.ifCond .ne 9, 3) := dz4 dzo154 4 0 9 9 rfl dzbX11_latest_0 rfl
theorem dX11_latest_7 : decode cX11_latest 7 = .ok (.aload_n 0, 1) := dz0 dzo42 7 dzbX11_latest_0 rfl
theorem dX11_latest_8 : decode cX11_latest 8 = .ok (.iconst 1, 1) := dz0 dzo4 8 dzbX11_latest_0 rfl
theorem dX11_latest_9 : decode cX11_latest 9 = .ok (.invokevirtual 100, 3) := dz2 dzo182 9 0 100 dzbX11_latest_0 rfl
theorem dX11_latest_12 : decode cX11_latest 12 = .ok (.ireturn, 1) := dz0 dzo172 12 dzbX11_latest_0 rfl
theorem dX11_latest_13 : decode cX11_latest 13 = .ok (.bipush (-2), 2) := dz3 dzo16 13 254 (-2) rfl dzbX11_latest_0 rfl
theorem dX11_latest_15 : decode cX11_latest 15 = .ok (.istore_n 1, 1) := dz0 dzo60 15 dzbX11_latest_0 rfl
theorem dX11_latest_16 : decode cX11_latest 16 = .ok (.iconst (-1), 1) := dz0 dzo2 16 dzbX11_latest_0 rfl
theorem dX11_latest_17 : decode cX11_latest 17 = .ok (.istore_n 2, 1) := dz0 dzo61 17 dzbX11_latest_0 rfl
theorem dX11_latest_18 : decode cX11_latest 18 = .ok (.iconst 0, 1) := dz0 dzo3 18 dzbX11_latest_0 rfl
theorem dX11_latest_19 : decode cX11_latest 19 = .ok (.istore_n 3, 1) := dz0 dzo62 19 dzbX11_latest_0 rfl
theorem dX11_latest_20 : decode cX11_latest 20 = .ok (.iload_n 3, 1) := dz0 dzo29 20 dzbX11_latest_0 rfl
theorem dX11_latest_21 : decode cX11_latest 21 = .ok (.aload_n 0, 1) := dz0 dzo42 21 dzbX11_latest_0 rfl
theorem dzbX11_latest_22 : dzB cX11_latest 22 [180, 0, 81, 180, 0, 223, 162, 0, 36, 42, 29, 42, 180, 0, 81, 180, 0, 169, 29, 46, 182, 0, 220] := by decide +kernel
theorem dX11_latest_22 : decode cX11_latest 22 = .ok (.getfield 81, 3) := dz2 dzo180 0 0 81 dzbX11_latest_22 rfl
theorem dX11_latest_25 : decode cX11_latest 25 = .ok (.getfield 223, 3) := dz2 dzo180 3 0 223 dzbX11_latest_22 rfl
theorem dX11_latest_28 : decode cX11_latest 28 = .ok (.if_icmp .ge 36, 3) := dz4 dzo162 6 0 36 36 rfl dzbX11_latest_22 rfl
theorem dX11_latest_31 : decode cX11_latest 31 = .ok (.aload_n 0, 1) := dz0 dzo42 9 dzbX11_latest_22 rfl
theorem dX11_latest_32 : decode cX11_latest 32 = .ok (.iload_n 3, 1) := dz0 dzo29 10 dzbX11_latest_22 rfl
theorem dX11_latest_33 : decode cX11_latest 33 = .ok (.aload_n 0, 1) := dz0 dzo42 11 dzbX11_latest_22 rfl
theorem dX11_latest_34 : decode cX11_latest 34 = .ok (.getfield 81, 3) := dz2 dzo180 12 0 81 dzbX11_latest_22 rfl
theorem dX11_latest_37 : decode cX11_latest 37 = .ok (.getfield 169, 3) := dz2 dzo180 15 0 169 dzbX11_latest_22 rfl
theorem dX11_latest_40 : decode cX11_latest 40 = .ok (.iload_n 3, 1) := dz0 dzo29 18 dzbX11_latest_22 rfl
theorem dX11_latest_41 : decode cX11_latest 41 = .ok (.iaload, 1) := dz0 dzo46 19 dzbX11_latest_22 rfl
theorem dX11_latest_42 : decode cX11_latest 42 = .ok (.invokevirtual 220, 3) := dz2 dzo182 20 0 220 dzbX11_latest_22 rfl
theorem dzbX11_latest_45 : dzB cX11_latest 45 [54, 4, 21, 4, 28, 164, 0, 8, 21, 4, 61, 29, 60, 132, 3, 1, 167, 255, 215, 42, 27, 182, 0, 130] := by decide +kernel
theorem dX11_latest_45 : decode cX11_latest 45 = .ok (.istore 4, 2) := dz1 dzo54 0 4 dzbX11_latest_45 rfl
theorem dX11_latest_47 : decode cX11_latest 47 = .ok (.iload 4, 2) := dz1 dzo21 2 4 dzbX11_latest_45 rfl
theorem dX11_latest_49 : decode cX11_latest 49 = .ok (.iload_n 2, 1) := dz0 dzo28 4 dzbX11_latest_45 rfl
theorem dX11_latest_50 : decode cX11_latest 50 = .ok (.if_icmp .le 8, 3) := dz4 dzo164 5 0 8 8 rfl dzbX11_latest_45 rfl
theorem dX11_latest_53 : decode cX11_latest 53 = .ok (.iload 4, 2) := dz1 dzo21 8 4 dzbX11_latest_45 rfl
theorem dX11_latest_55 : decode cX11_latest 55 = .ok (.istore_n 2, 1) := dz0 dzo61 10 dzbX11_latest_45 rfl
theorem dX11_latest_56 : decode cX11_latest 56 = .ok (.iload_n 3, 1) := dz0 dzo29 11 dzbX11_latest_45 rfl
theorem dX11_latest_57 : decode cX11_latest 57 = .ok (.istore_n 1, 1) := dz0 dzo60 12 dzbX11_latest_45 rfl
theorem dX11_latest_58 : decode cX11_latest 58 = .ok (.iinc 3 1, 3) := dz5 dzo132 13 3 1 1 rfl dzbX11_latest_45 rfl
theorem dX11_latest_61 : decode cX11_latest 61 = .ok (.goto (-41), 3) := dz4 dzo167 16 255 215 (-41) rfl dzbX11_latest_45 rfl
theorem dX11_latest_64 : decode cX11_latest 64 = .ok (.aload_n 0, 1) := dz0 dzo42 19 dzbX11_latest_45 rfl
theorem dX11_latest_65 : decode cX11_latest 65 = .ok (.iload_n 1, 1) := dz0 dzo27 20 dzbX11_latest_45 rfl
theorem dX11_latest_66 : decode cX11_latest 66 = .ok (.invokevirtual 130, 3) := dz2 dzo182 21 0 130 dzbX11_latest_45 rfl
theorem dzbX11_latest_69 : dzB cX11_latest 69 [172] := by decide +kernel
theorem dX11_latest_69 : decode cX11_latest 69 = .ok (.ireturn, 1) := dz0 dzo172 0 dzbX11_latest_69 rfl
theorem dzbX11_led_0 : dzB cX11_led 0 [3, 61, 3, 62, 29, 42, 180, 0, 81, 180, 0, 223, 162, 0, 38, 42, 29, 42, 180, 0, 81, 180, 0, 169] := by decide +kernel
theorem dX11_led_0 : decode cX11_led 0 = .ok (.iconst 0, 1) := dz0 dzo3 0 dzbX11_led_0 rfl
theorem dX11_led_1 : decode cX11_led 1 = .ok (.istore_n 2, 1) := dz0 dzo61 1 dzbX11_led_0 rfl
theorem dX11_led_2 : decode cX11_led 2 = .ok (.iconst 0, 1) := dz0 dzo3 2 dzbX11_led_0 rfl
theorem dX11_led_3 : decode cX11_led 3 = .ok (.istore_n 3, 1) := dz0 dzo62 3 dzbX11_led_0 rfl
theorem dX11_led_4 : decode cX11_led 4 = .ok (.iload_n 3, 1) := dz0 dzo29 4 dzbX11_led_0 rfl
theorem dX11_led_5 : decode cX11_led 5 = .ok (.aload_n 0, 1) := dz0 dzo42 5 dzbX11_led_0 rfl
theorem dX11_led_6 : decode cX11_led 6 = .ok (.getfield 81, 3) := dz2 dzo180 6 0 81 dzbX11_led_0 rfl
theorem dX11_led_9 : decode cX11_led 9 = .ok (.getfield 223, 3) := dz2 dzo180 9 0 223 dzbX11_led_0 rfl
theorem dX11_led_12 : decode cX11_led 12 = .ok (.if_icmp .ge 38, 3) := dz4 dzo162 12 0 38 38 rfl dzbX11_led_0 rfl
theorem dX11_led_15 : decode cX11_led 15 = .ok (.aload_n 0, 1) := dz0 dzo42 15 dzbX11_led_0 rfl
theorem dX11_led_16 : decode cX11_led 16 = .ok (.iload_n 3, 1) := dz0 dzo29 16 dzbX11_led_0 rfl
theorem dX11_led_17 : decode cX11_led 17 = .ok (.aload_n 0, 1) := dz0 dzo42 17 dzbX11_led_0 rfl
theorem dX11_led_18 : decode cX11_led 18 = .ok (.getfield 81, 3) := dz2 dzo180 18 0 81 dzbX11_led_0 rfl
theorem dX11_led_21 : decode cX11_led 21 = .ok (.getfield 169, 3) := dz2 dzo180 21 0 169 dzbX11_led_0 rfl
theorem dzbX11_led_24 : dzB cX11_led 24 [29, 46, 182, 0, 220, 16, 254, 160, 0, 13, 28, 27, 160, 0, 5, 29, 172, 132, 2, 1, 132, 3, 1] := by decide +kernel
theorem dX11_led_24 : decode cX11_led 24 = .ok (.iload_n 3, 1) := dz0 dzo29 0 dzbX11_led_24 rfl
theorem dX11_led_25 : decode cX11_led 25 = .ok (.iaload, 1) := dz0 dzo46 1 dzbX11_led_24 rfl
theorem dX11_led_26 : decode cX11_led 26 = .ok (.invokevirtual 220, 3) := dz2 dzo182 2 0 220 dzbX11_led_24 rfl
theorem dX11_led_29 : decode cX11_led 29 = .ok (.bipush (-2), 2) := dz3 dzo16 5 254 (-2) rfl dzbX11_led_24 rfl
theorem dX11_led_31 : decode cX11_led 31 = .ok (.if_icmp .ne 13, 3) := dz4 dzo160 7 0 13 13 rfl dzbX11_led_24 rfl
theorem dX11_led_34 : decode cX11_led 34 = .ok (.iload_n 2, 1) := dz0 dzo28 10 dzbX11_led_24 rfl
theorem dX11_led_35 : decode cX11_led 35 = .ok (.iload_n 1, 1) := dz0 dzo27 11 dzbX11_led_24 rfl
theorem dX11_led_36 : decode cX11_led 36 = .ok (.if_icmp .ne 5, 3) := dz4 dzo160 12 0 5 5 rfl dzbX11_led_24 rfl
theorem dX11_led_39 : decode cX11_led 39 = .ok (.iload_n 3, 1) := dz0 dzo29 15 dzbX11_led_24 rfl
theorem dX11_led_40 : decode cX11_led 40 = .ok (.ireturn, 1) := dz0 dzo172 16 dzbX11_led_24 rfl
theorem dX11_led_41 : decode cX11_led 41 = .ok (.iinc 2 1, 3) := dz5 dzo132 17 2 1 1 rfl dzbX11_led_24 rfl
theorem dX11_led_44 : decode cX11_led 44 = .ok (.iinc 3 1, 3) := dz5 dzo132 20 3 1 1 rfl dzbX11_led_24 rfl
theorem dzbX11_led_47 : dzB cX11_led 47 [167, 255, 213, 187, 1, 101, 89, 183, 1, 103, 191] := by decide +kernel
theorem dX11_led_47 : decode cX11_led 47 = .ok (.goto (-43), 3) := dz4 dzo167 0 255 213 (-43) rfl dzbX11_led_47 rfl
theorem dX11_led_50 : decode cX11_led 50 = .ok (.new 357, 3) := dz2 dzo187 3 1 101 dzbX11_led_47 rfl
theorem dX11_led_53 : decode cX11_led 53 = .ok (.dup, 1) := dz0 dzo89 6 dzbX11_led_47 rfl
theorem dX11_led_54 : decode cX11_led 54 = .ok (.invokespecial 359, 3) := dz2 dzo183 7 1 103 dzbX11_led_47 rfl
theorem dX11_led_57 : decode cX11_led 57 = .ok (.athrow, 1) := dz0 dzo191 10 dzbX11_led_47 rfl
theorem dzbX11_lies_0 : dzB cX11_lies 0 [42, 27, 182, 1, 62, 54, 5, 21, 5, 153, 0, 13, 42, 21, 5, 182, 0, 100, 87, 16, 156, 172, 42] := by decide +kernel
theorem dX11_lies_0 : decode cX11_lies 0 = .ok (.aload_n 0, 1) := dz0 dzo42 0 dzbX11_lies_0 rfl
theorem dX11_lies_1 : decode cX11_lies 1 = .ok (.iload_n 1, 1) := dz0 dzo27 1 dzbX11_lies_0 rfl
theorem dX11_lies_2 : decode cX11_lies 2 = .ok (.invokevirtual 318, 3) := dz2 dzo182 2 1 62 dzbX11_lies_0 rfl
theorem dX11_lies_5 : decode cX11_lies 5 = .ok (.istore 5, 2) := dz1 dzo54 5 5 dzbX11_lies_0 rfl
theorem dX11_lies_7 : decode cX11_lies 7 = .ok (.iload 5, 2) := dz1 dzo21 7 5 dzbX11_lies_0 rfl
theorem dX11_lies_9 : decode cX11_lies 9 = .ok (.ifCond .eq 13, 3) := dz4 dzo153 9 0 13 13 rfl dzbX11_lies_0 rfl
theorem dX11_lies_12 : decode cX11_lies 12 = .ok (.aload_n 0, 1) := dz0 dzo42 12 dzbX11_lies_0 rfl
theorem dX11_lies_13 : decode cX11_lies 13 = .ok (.iload 5, 2) := dz1 dzo21 13 5 dzbX11_lies_0 rfl
theorem dX11_lies_15 : decode cX11_lies 15 = .ok (.invokevirtual 100, 3) := dz2 dzo182 15 0 100 dzbX11_lies_0 rfl
theorem dX11_lies_18 : decode cX11_lies 18 = .ok (.pop, 1) := dz0 dzo87 18 dzbX11_lies_0 rfl
theorem dX11_lies_19 : decode cX11_lies 19 = .ok (.bipush (-100), 2) := dz3 dzo16 19 156 (-100) rfl dzbX11_lies_0 rfl
theorem dX11_lies_21 : decode cX11_lies 21 = .ok (.ireturn, 1) := dz0 dzo172 21 dzbX11_lies_0 rfl
theorem dX11_lies_22 : decode cX11_lies 22 = .ok (.aload_n 0, 1) := dz0 dzo42 22 dzbX11_lies_0 rfl
theorem dzbX11_lies_23 : dzB cX11_lies 23 [21, 4, 153, 0, 12, 27, 29, 28, 184, 1, 65, 167, 0, 9, 27, 28, 29, 184, 1, 65, 182, 0, 130, 172] := by decide +kernel
theorem dX11_lies_23 : decode cX11_lies 23 = .ok (.iload 4, 2) := dz1 dzo21 0 4 dzbX11_lies_23 rfl
theorem dX11_lies_25 : decode cX11_lies 25 = .ok (.ifCond .eq 12, 3) := dz4 dzo153 2 0 12 12 rfl dzbX11_lies_23 rfl
theorem dX11_lies_28 : decode cX11_lies 28 = .ok (.iload_n 1, 1) := dz0 dzo27 5 dzbX11_lies_23 rfl
theorem dX11_lies_29 : decode cX11_lies 29 = .ok (.iload_n 3, 1) := dz0 dzo29 6 dzbX11_lies_23 rfl
theorem dX11_lies_30 : decode cX11_lies 30 = .ok (.iload_n 2, 1) := dz0 dzo28 7 dzbX11_lies_23 rfl
theorem dX11_lies_31 : decode cX11_lies 31 = .ok (.invokestatic 321, 3) := dz2 dzo184 8 1 65 dzbX11_lies_23 rfl
theorem dX11_lies_34 : decode cX11_lies 34 = .ok (.goto 9, 3) := dz4 dzo167 11 0 9 9 rfl dzbX11_lies_23 rfl
theorem dX11_lies_37 : decode cX11_lies 37 = .ok (.iload_n 1, 1) := dz0 dzo27 14 dzbX11_lies_23 rfl
theorem dX11_lies_38 : decode cX11_lies 38 = .ok (.iload_n 2, 1) := dz0 dzo28 15 dzbX11_lies_23 rfl
theorem dX11_lies_39 : decode cX11_lies 39 = .ok (.iload_n 3, 1) := dz0 dzo29 16 dzbX11_lies_23 rfl
theorem dX11_lies_40 : decode cX11_lies 40 = .ok (.invokestatic 321, 3) := dz2 dzo184 17 1 65 dzbX11_lies_23 rfl
theorem dX11_lies_43 : decode cX11_lies 43 = .ok (.invokevirtual 130, 3) := dz2 dzo182 20 0 130 dzbX11_lies_23 rfl
theorem dX11_lies_46 : decode cX11_lies 46 = .ok (.ireturn, 1) := dz0 dzo172 23 dzbX11_lies_23 rfl
theorem dzbX11_likeliest_0 : dzB cX11_likeliest 0 [42, 182, 0, 188, 154, 0, 9, 42, 4, 182, 0, 100, 172, 42, 42, 180, 0, 67, 182, 1, 36, 182, 0, 130] := by decide +kernel
theorem dX11_likeliest_0 : decode cX11_likeliest 0 = .ok (.aload_n 0, 1) := dz0 dzo42 0 dzbX11_likeliest_0 rfl
theorem dX11_likeliest_1 : decode cX11_likeliest 1 = .ok (.invokevirtual 188, 3) := dz2 dzo182 1 0 188 dzbX11_likeliest_0 rfl
theorem dX11_likeliest_4 : decode cX11_likeliest 4 = .ok (.ifCond .ne 9, 3) := dz4 dzo154 4 0 9 9 rfl dzbX11_likeliest_0 rfl
theorem dX11_likeliest_7 : decode cX11_likeliest 7 = .ok (.aload_n 0, 1) := dz0 dzo42 7 dzbX11_likeliest_0 rfl
theorem dX11_likeliest_8 : decode cX11_likeliest 8 = .ok (.iconst 1, 1) := dz0 dzo4 8 dzbX11_likeliest_0 rfl
theorem dX11_likeliest_9 : decode cX11_likeliest 9 = .ok (.invokevirtual 100, 3) := dz2 dzo182 9 0 100 dzbX11_likeliest_0 rfl
theorem dX11_likeliest_12 : decode cX11_likeliest 12 = .ok (.ireturn, 1) := dz0 dzo172 12 dzbX11_likeliest_0 rfl
theorem dX11_likeliest_13 : decode cX11_likeliest 13 = .ok (.aload_n 0, 1) := dz0 dzo42 13 dzbX11_likeliest_0 rfl
theorem dX11_likeliest_14 : decode cX11_likeliest 14 = .ok (.aload_n 0, 1) := dz0 dzo42 14 dzbX11_likeliest_0 rfl
theorem dX11_likeliest_15 : decode cX11_likeliest 15 = .ok (.getfield 67, 3) := dz2 dzo180 15 0 67 dzbX11_likeliest_0 rfl
theorem dX11_likeliest_18 : decode cX11_likeliest 18 = .ok (.invokevirtual 292, 3) := dz2 dzo182 18 1 36 dzbX11_likeliest_0 rfl
theorem dX11_likeliest_21 : decode cX11_likeliest 21 = .ok (.invokevirtual 130, 3) := dz2 dzo182 21 0 130 dzbX11_likeliest_0 rfl
theorem dzbX11_likeliest_24 : dzB cX11_likeliest 24 [172] := by decide +kernel
theorem dX11_likeliest_24 : decode cX11_likeliest 24 = .ok (.ireturn, 1) := dz0 dzo172 0 dzbX11_likeliest_24 rfl
theorem dzbX11_mean_0 : dzB cX11_mean 0 [42, 27, 182, 0, 159, 154, 0, 10, 42, 4, 182, 0, 100, 133, 173, 42, 27, 182, 0, 211, 154, 0, 11, 42] := by decide +kernel
theorem dX11_mean_0 : decode cX11_mean 0 = .ok (.aload_n 0, 1) := dz0 dzo42 0 dzbX11_mean_0 rfl
theorem dX11_mean_1 : decode cX11_mean 1 = .ok (.iload_n 1, 1) := dz0 dzo27 1 dzbX11_mean_0 rfl
theorem dX11_mean_2 : decode cX11_mean 2 = .ok (.invokevirtual 159, 3) := dz2 dzo182 2 0 159 dzbX11_mean_0 rfl
theorem dX11_mean_5 : decode cX11_mean 5 = .ok (.ifCond .ne 10, 3) := dz4 dzo154 5 0 10 10 rfl dzbX11_mean_0 rfl
theorem dX11_mean_8 : decode cX11_mean 8 = .ok (.aload_n 0, 1) := dz0 dzo42 8 dzbX11_mean_0 rfl
theorem dX11_mean_9 : decode cX11_mean 9 = .ok (.iconst 1, 1) := dz0 dzo4 9 dzbX11_mean_0 rfl
theorem dX11_mean_10 : decode cX11_mean 10 = .ok (.invokevirtual 100, 3) := dz2 dzo182 10 0 100 dzbX11_mean_0 rfl
theorem dX11_mean_13 : decode cX11_mean 13 = .ok (.i2l, 1) := dz0 dzo133 13 dzbX11_mean_0 rfl
theorem dX11_mean_14 : decode cX11_mean 14 = .ok (.lreturn, 1) := dz0 dzo173 14 dzbX11_mean_0 rfl
theorem dX11_mean_15 : decode cX11_mean 15 = .ok (.aload_n 0, 1) := dz0 dzo42 15 dzbX11_mean_0 rfl
theorem dX11_mean_16 : decode cX11_mean 16 = .ok (.iload_n 1, 1) := dz0 dzo27 16 dzbX11_mean_0 rfl
theorem dX11_mean_17 : decode cX11_mean 17 = .ok (.invokevirtual 211, 3) := dz2 dzo182 17 0 211 dzbX11_mean_0 rfl
theorem dX11_mean_20 : decode cX11_mean 20 = .ok (.ifCond .ne 11, 3) := dz4 dzo154 20 0 11 11 rfl dzbX11_mean_0 rfl
theorem dX11_mean_23 : decode cX11_mean 23 = .ok (.aload_n 0, 1) := dz0 dzo42 23 dzbX11_mean_0 rfl
theorem dzbX11_mean_24 : dzB cX11_mean 24 [16, 6, 182, 0, 100, 133, 173, 42, 180, 0, 74, 42, 180, 0, 36, 180, 0, 202, 133, 42, 180, 0, 81] := by decide +kernel
theorem dX11_mean_24 : decode cX11_mean 24 = .ok (.bipush 6, 2) := dz3 dzo16 0 6 6 rfl dzbX11_mean_24 rfl
theorem dX11_mean_26 : decode cX11_mean 26 = .ok (.invokevirtual 100, 3) := dz2 dzo182 2 0 100 dzbX11_mean_24 rfl
theorem dX11_mean_29 : decode cX11_mean 29 = .ok (.i2l, 1) := dz0 dzo133 5 dzbX11_mean_24 rfl
theorem dX11_mean_30 : decode cX11_mean 30 = .ok (.lreturn, 1) := dz0 dzo173 6 dzbX11_mean_24 rfl
theorem dX11_mean_31 : decode cX11_mean 31 = .ok (.aload_n 0, 1) := dz0 dzo42 7 dzbX11_mean_24 rfl
theorem dX11_mean_32 : decode cX11_mean 32 = .ok (.getfield 74, 3) := dz2 dzo180 8 0 74 dzbX11_mean_24 rfl
theorem dX11_mean_35 : decode cX11_mean 35 = .ok (.aload_n 0, 1) := dz0 dzo42 11 dzbX11_mean_24 rfl
theorem dX11_mean_36 : decode cX11_mean 36 = .ok (.getfield 36, 3) := dz2 dzo180 12 0 36 dzbX11_mean_24 rfl
theorem dX11_mean_39 : decode cX11_mean 39 = .ok (.getfield 202, 3) := dz2 dzo180 15 0 202 dzbX11_mean_24 rfl
theorem dX11_mean_42 : decode cX11_mean 42 = .ok (.i2l, 1) := dz0 dzo133 18 dzbX11_mean_24 rfl
theorem dX11_mean_43 : decode cX11_mean 43 = .ok (.aload_n 0, 1) := dz0 dzo42 19 dzbX11_mean_24 rfl
theorem dX11_mean_44 : decode cX11_mean 44 = .ok (.getfield 81, 3) := dz2 dzo180 20 0 81 dzbX11_mean_24 rfl
theorem dzbX11_mean_47 : dzB cX11_mean 47 [180, 1, 73, 133, 105, 20, 1, 80, 182, 1, 29, 42, 28, 182, 1, 32, 173] := by decide +kernel
theorem dX11_mean_47 : decode cX11_mean 47 = .ok (.getfield 329, 3) := dz2 dzo180 0 1 73 dzbX11_mean_47 rfl
theorem dX11_mean_50 : decode cX11_mean 50 = .ok (.i2l, 1) := dz0 dzo133 3 dzbX11_mean_47 rfl
theorem dX11_mean_51 : decode cX11_mean 51 = .ok (.lmul, 1) := dz0 dzo105 4 dzbX11_mean_47 rfl
theorem dX11_mean_52 : decode cX11_mean 52 = .ok (.ldc2_w 336, 3) := dz2 dzo20 5 1 80 dzbX11_mean_47 rfl
theorem dX11_mean_55 : decode cX11_mean 55 = .ok (.invokevirtual 285, 3) := dz2 dzo182 8 1 29 dzbX11_mean_47 rfl
theorem dX11_mean_58 : decode cX11_mean 58 = .ok (.aload_n 0, 1) := dz0 dzo42 11 dzbX11_mean_47 rfl
theorem dX11_mean_59 : decode cX11_mean 59 = .ok (.iload_n 2, 1) := dz0 dzo28 12 dzbX11_mean_47 rfl
theorem dX11_mean_60 : decode cX11_mean 60 = .ok (.invokevirtual 288, 3) := dz2 dzo182 13 1 32 dzbX11_mean_47 rfl
theorem dX11_mean_63 : decode cX11_mean 63 = .ok (.lreturn, 1) := dz0 dzo173 16 dzbX11_mean_47 rfl
theorem dzbX11_meet_0 : dzB cX11_meet 0 [42, 27, 182, 0, 159, 153, 0, 16, 42, 28, 182, 0, 159, 153, 0, 8, 27, 28, 160, 0, 9, 42, 4] := by decide +kernel
theorem dX11_meet_0 : decode cX11_meet 0 = .ok (.aload_n 0, 1) := dz0 dzo42 0 dzbX11_meet_0 rfl
theorem dX11_meet_1 : decode cX11_meet 1 = .ok (.iload_n 1, 1) := dz0 dzo27 1 dzbX11_meet_0 rfl
theorem dX11_meet_2 : decode cX11_meet 2 = .ok (.invokevirtual 159, 3) := dz2 dzo182 2 0 159 dzbX11_meet_0 rfl
theorem dX11_meet_5 : decode cX11_meet 5 = .ok (.ifCond .eq 16, 3) := dz4 dzo153 5 0 16 16 rfl dzbX11_meet_0 rfl
theorem dX11_meet_8 : decode cX11_meet 8 = .ok (.aload_n 0, 1) := dz0 dzo42 8 dzbX11_meet_0 rfl
theorem dX11_meet_9 : decode cX11_meet 9 = .ok (.iload_n 2, 1) := dz0 dzo28 9 dzbX11_meet_0 rfl
theorem dX11_meet_10 : decode cX11_meet 10 = .ok (.invokevirtual 159, 3) := dz2 dzo182 10 0 159 dzbX11_meet_0 rfl
theorem dX11_meet_13 : decode cX11_meet 13 = .ok (.ifCond .eq 8, 3) := dz4 dzo153 13 0 8 8 rfl dzbX11_meet_0 rfl
theorem dX11_meet_16 : decode cX11_meet 16 = .ok (.iload_n 1, 1) := dz0 dzo27 16 dzbX11_meet_0 rfl
theorem dX11_meet_17 : decode cX11_meet 17 = .ok (.iload_n 2, 1) := dz0 dzo28 17 dzbX11_meet_0 rfl
theorem dX11_meet_18 : decode cX11_meet 18 = .ok (.if_icmp .ne 9, 3) := dz4 dzo160 18 0 9 9 rfl dzbX11_meet_0 rfl
theorem dX11_meet_21 : decode cX11_meet 21 = .ok (.aload_n 0, 1) := dz0 dzo42 21 dzbX11_meet_0 rfl
theorem dX11_meet_22 : decode cX11_meet 22 = .ok (.iconst 1, 1) := dz0 dzo4 22 dzbX11_meet_0 rfl
theorem dzbX11_meet_23 : dzB cX11_meet 23 [182, 0, 100, 172, 42, 42, 27, 28, 182, 1, 4, 182, 0, 130, 172] := by decide +kernel
theorem dX11_meet_23 : decode cX11_meet 23 = .ok (.invokevirtual 100, 3) := dz2 dzo182 0 0 100 dzbX11_meet_23 rfl
theorem dX11_meet_26 : decode cX11_meet 26 = .ok (.ireturn, 1) := dz0 dzo172 3 dzbX11_meet_23 rfl
theorem dX11_meet_27 : decode cX11_meet 27 = .ok (.aload_n 0, 1) := dz0 dzo42 4 dzbX11_meet_23 rfl
theorem dX11_meet_28 : decode cX11_meet 28 = .ok (.aload_n 0, 1) := dz0 dzo42 5 dzbX11_meet_23 rfl
theorem dX11_meet_29 : decode cX11_meet 29 = .ok (.iload_n 1, 1) := dz0 dzo27 6 dzbX11_meet_23 rfl
theorem dX11_meet_30 : decode cX11_meet 30 = .ok (.iload_n 2, 1) := dz0 dzo28 7 dzbX11_meet_23 rfl
theorem dX11_meet_31 : decode cX11_meet 31 = .ok (.invokevirtual 260, 3) := dz2 dzo182 8 1 4 dzbX11_meet_23 rfl
theorem dX11_meet_34 : decode cX11_meet 34 = .ok (.invokevirtual 130, 3) := dz2 dzo182 11 0 130 dzbX11_meet_23 rfl
theorem dX11_meet_37 : decode cX11_meet 37 = .ok (.ireturn, 1) := dz0 dzo172 14 dzbX11_meet_23 rfl
theorem dzbX11_meetAt_0 : dzB cX11_meetAt 0 [42, 27, 182, 0, 159, 153, 0, 16, 42, 28, 182, 0, 159, 153, 0, 8, 27, 28, 160, 0, 9, 42, 4] := by decide +kernel
theorem dX11_meetAt_0 : decode cX11_meetAt 0 = .ok (.aload_n 0, 1) := dz0 dzo42 0 dzbX11_meetAt_0 rfl
theorem dX11_meetAt_1 : decode cX11_meetAt 1 = .ok (.iload_n 1, 1) := dz0 dzo27 1 dzbX11_meetAt_0 rfl
theorem dX11_meetAt_2 : decode cX11_meetAt 2 = .ok (.invokevirtual 159, 3) := dz2 dzo182 2 0 159 dzbX11_meetAt_0 rfl
theorem dX11_meetAt_5 : decode cX11_meetAt 5 = .ok (.ifCond .eq 16, 3) := dz4 dzo153 5 0 16 16 rfl dzbX11_meetAt_0 rfl
theorem dX11_meetAt_8 : decode cX11_meetAt 8 = .ok (.aload_n 0, 1) := dz0 dzo42 8 dzbX11_meetAt_0 rfl
theorem dX11_meetAt_9 : decode cX11_meetAt 9 = .ok (.iload_n 2, 1) := dz0 dzo28 9 dzbX11_meetAt_0 rfl
theorem dX11_meetAt_10 : decode cX11_meetAt 10 = .ok (.invokevirtual 159, 3) := dz2 dzo182 10 0 159 dzbX11_meetAt_0 rfl
theorem dX11_meetAt_13 : decode cX11_meetAt 13 = .ok (.ifCond .eq 8, 3) := dz4 dzo153 13 0 8 8 rfl dzbX11_meetAt_0 rfl
theorem dX11_meetAt_16 : decode cX11_meetAt 16 = .ok (.iload_n 1, 1) := dz0 dzo27 16 dzbX11_meetAt_0 rfl
theorem dX11_meetAt_17 : decode cX11_meetAt 17 = .ok (.iload_n 2, 1) := dz0 dzo28 17 dzbX11_meetAt_0 rfl
theorem dX11_meetAt_18 : decode cX11_meetAt 18 = .ok (.if_icmp .ne 9, 3) := dz4 dzo160 18 0 9 9 rfl dzbX11_meetAt_0 rfl
theorem dX11_meetAt_21 : decode cX11_meetAt 21 = .ok (.aload_n 0, 1) := dz0 dzo42 21 dzbX11_meetAt_0 rfl
theorem dX11_meetAt_22 : decode cX11_meetAt 22 = .ok (.iconst 1, 1) := dz0 dzo4 22 dzbX11_meetAt_0 rfl
theorem dzbX11_meetAt_23 : dzB cX11_meetAt 23 [182, 0, 100, 172, 42, 27, 28, 182, 1, 4, 62, 42, 29, 16, 254, 160, 0, 8, 16, 254, 167, 0, 11, 42] := by decide +kernel
theorem dX11_meetAt_23 : decode cX11_meetAt 23 = .ok (.invokevirtual 100, 3) := dz2 dzo182 0 0 100 dzbX11_meetAt_23 rfl
theorem dX11_meetAt_26 : decode cX11_meetAt 26 = .ok (.ireturn, 1) := dz0 dzo172 3 dzbX11_meetAt_23 rfl
theorem dX11_meetAt_27 : decode cX11_meetAt 27 = .ok (.aload_n 0, 1) := dz0 dzo42 4 dzbX11_meetAt_23 rfl
theorem dX11_meetAt_28 : decode cX11_meetAt 28 = .ok (.iload_n 1, 1) := dz0 dzo27 5 dzbX11_meetAt_23 rfl
theorem dX11_meetAt_29 : decode cX11_meetAt 29 = .ok (.iload_n 2, 1) := dz0 dzo28 6 dzbX11_meetAt_23 rfl
theorem dX11_meetAt_30 : decode cX11_meetAt 30 = .ok (.invokevirtual 260, 3) := dz2 dzo182 7 1 4 dzbX11_meetAt_23 rfl
theorem dX11_meetAt_33 : decode cX11_meetAt 33 = .ok (.istore_n 3, 1) := dz0 dzo62 10 dzbX11_meetAt_23 rfl
theorem dX11_meetAt_34 : decode cX11_meetAt 34 = .ok (.aload_n 0, 1) := dz0 dzo42 11 dzbX11_meetAt_23 rfl
theorem dX11_meetAt_35 : decode cX11_meetAt 35 = .ok (.iload_n 3, 1) := dz0 dzo29 12 dzbX11_meetAt_23 rfl
theorem dX11_meetAt_36 : decode cX11_meetAt 36 = .ok (.bipush (-2), 2) := dz3 dzo16 13 254 (-2) rfl dzbX11_meetAt_23 rfl
theorem dX11_meetAt_38 : decode cX11_meetAt 38 = .ok (.if_icmp .ne 8, 3) := dz4 dzo160 15 0 8 8 rfl dzbX11_meetAt_23 rfl
theorem dX11_meetAt_41 : decode cX11_meetAt 41 = .ok (.bipush (-2), 2) := dz3 dzo16 18 254 (-2) rfl dzbX11_meetAt_23 rfl
theorem dX11_meetAt_43 : decode cX11_meetAt 43 = .ok (.goto 11, 3) := dz4 dzo167 20 0 11 11 rfl dzbX11_meetAt_23 rfl
theorem dX11_meetAt_46 : decode cX11_meetAt 46 = .ok (.aload_n 0, 1) := dz0 dzo42 23 dzbX11_meetAt_23 rfl
theorem dzbX11_meetAt_47 : dzB cX11_meetAt 47 [180, 0, 36, 29, 182, 1, 7, 182, 0, 130, 172] := by decide +kernel
theorem dX11_meetAt_47 : decode cX11_meetAt 47 = .ok (.getfield 36, 3) := dz2 dzo180 0 0 36 dzbX11_meetAt_47 rfl
theorem dX11_meetAt_50 : decode cX11_meetAt 50 = .ok (.iload_n 3, 1) := dz0 dzo29 3 dzbX11_meetAt_47 rfl
theorem dX11_meetAt_51 : decode cX11_meetAt 51 = .ok (.invokevirtual 263, 3) := dz2 dzo182 4 1 7 dzbX11_meetAt_47 rfl
theorem dX11_meetAt_54 : decode cX11_meetAt 54 = .ok (.invokevirtual 130, 3) := dz2 dzo182 7 0 130 dzbX11_meetAt_47 rfl
theorem dX11_meetAt_57 : decode cX11_meetAt 57 = .ok (.ireturn, 1) := dz0 dzo172 10 dzbX11_meetAt_47 rfl
theorem dzbX11_minutes_0 : dzB cX11_minutes 0 [42, 27, 182, 0, 159, 153, 0, 17, 42, 180, 0, 19, 180, 0, 121, 28, 182, 0, 142, 154, 0, 9, 42, 4] := by decide +kernel
theorem dX11_minutes_0 : decode cX11_minutes 0 = .ok (.aload_n 0, 1) := dz0 dzo42 0 dzbX11_minutes_0 rfl
theorem dX11_minutes_1 : decode cX11_minutes 1 = .ok (.iload_n 1, 1) := dz0 dzo27 1 dzbX11_minutes_0 rfl
theorem dX11_minutes_2 : decode cX11_minutes 2 = .ok (.invokevirtual 159, 3) := dz2 dzo182 2 0 159 dzbX11_minutes_0 rfl
theorem dX11_minutes_5 : decode cX11_minutes 5 = .ok (.ifCond .eq 17, 3) := dz4 dzo153 5 0 17 17 rfl dzbX11_minutes_0 rfl
theorem dX11_minutes_8 : decode cX11_minutes 8 = .ok (.aload_n 0, 1) := dz0 dzo42 8 dzbX11_minutes_0 rfl
theorem dX11_minutes_9 : decode cX11_minutes 9 = .ok (.getfield 19, 3) := dz2 dzo180 9 0 19 dzbX11_minutes_0 rfl
theorem dX11_minutes_12 : decode cX11_minutes 12 = .ok (.getfield 121, 3) := dz2 dzo180 12 0 121 dzbX11_minutes_0 rfl
theorem dX11_minutes_15 : decode cX11_minutes 15 = .ok (.iload_n 2, 1) := dz0 dzo28 15 dzbX11_minutes_0 rfl
theorem dX11_minutes_16 : decode cX11_minutes 16 = .ok (.invokevirtual 142, 3) := dz2 dzo182 16 0 142 dzbX11_minutes_0 rfl
theorem dX11_minutes_19 : decode cX11_minutes 19 = .ok (.ifCond .ne 9, 3) := dz4 dzo154 19 0 9 9 rfl dzbX11_minutes_0 rfl
theorem dX11_minutes_22 : decode cX11_minutes 22 = .ok (.aload_n 0, 1) := dz0 dzo42 22 dzbX11_minutes_0 rfl
theorem dX11_minutes_23 : decode cX11_minutes 23 = .ok (.iconst 1, 1) := dz0 dzo4 23 dzbX11_minutes_0 rfl
theorem dzbX11_minutes_24 : dzB cX11_minutes 24 [182, 0, 100, 172, 29, 184, 0, 178, 154, 0, 9, 42, 5, 182, 0, 100, 172, 42, 42, 180, 0, 19] := by decide +kernel
theorem dX11_minutes_24 : decode cX11_minutes 24 = .ok (.invokevirtual 100, 3) := dz2 dzo182 0 0 100 dzbX11_minutes_24 rfl
theorem dX11_minutes_27 : decode cX11_minutes 27 = .ok (.ireturn, 1) := dz0 dzo172 3 dzbX11_minutes_24 rfl
theorem dX11_minutes_28 : decode cX11_minutes 28 = .ok (.iload_n 3, 1) := dz0 dzo29 4 dzbX11_minutes_24 rfl
theorem dX11_minutes_29 : decode cX11_minutes 29 = .ok (.invokestatic 178, 3) := dz2 dzo184 5 0 178 dzbX11_minutes_24 rfl
theorem dX11_minutes_32 : decode cX11_minutes 32 = .ok (.ifCond .ne 9, 3) := dz4 dzo154 8 0 9 9 rfl dzbX11_minutes_24 rfl
theorem dX11_minutes_35 : decode cX11_minutes 35 = .ok (.aload_n 0, 1) := dz0 dzo42 11 dzbX11_minutes_24 rfl
theorem dX11_minutes_36 : decode cX11_minutes 36 = .ok (.iconst 2, 1) := dz0 dzo5 12 dzbX11_minutes_24 rfl
theorem dX11_minutes_37 : decode cX11_minutes 37 = .ok (.invokevirtual 100, 3) := dz2 dzo182 13 0 100 dzbX11_minutes_24 rfl
theorem dX11_minutes_40 : decode cX11_minutes 40 = .ok (.ireturn, 1) := dz0 dzo172 16 dzbX11_minutes_24 rfl
theorem dX11_minutes_41 : decode cX11_minutes 41 = .ok (.aload_n 0, 1) := dz0 dzo42 17 dzbX11_minutes_24 rfl
theorem dX11_minutes_42 : decode cX11_minutes 42 = .ok (.aload_n 0, 1) := dz0 dzo42 18 dzbX11_minutes_24 rfl
theorem dX11_minutes_43 : decode cX11_minutes 43 = .ok (.getfield 19, 3) := dz2 dzo180 19 0 19 dzbX11_minutes_24 rfl
theorem dzbX11_minutes_46 : dzB cX11_minutes 46 [180, 0, 121, 42, 180, 0, 81, 180, 0, 162, 27, 46, 28, 29, 182, 0, 181, 182, 0, 130, 172] := by decide +kernel
theorem dX11_minutes_46 : decode cX11_minutes 46 = .ok (.getfield 121, 3) := dz2 dzo180 0 0 121 dzbX11_minutes_46 rfl
theorem dX11_minutes_49 : decode cX11_minutes 49 = .ok (.aload_n 0, 1) := dz0 dzo42 3 dzbX11_minutes_46 rfl
theorem dX11_minutes_50 : decode cX11_minutes 50 = .ok (.getfield 81, 3) := dz2 dzo180 4 0 81 dzbX11_minutes_46 rfl
theorem dX11_minutes_53 : decode cX11_minutes 53 = .ok (.getfield 162, 3) := dz2 dzo180 7 0 162 dzbX11_minutes_46 rfl
theorem dX11_minutes_56 : decode cX11_minutes 56 = .ok (.iload_n 1, 1) := dz0 dzo27 10 dzbX11_minutes_46 rfl
theorem dX11_minutes_57 : decode cX11_minutes 57 = .ok (.iaload, 1) := dz0 dzo46 11 dzbX11_minutes_46 rfl
theorem dX11_minutes_58 : decode cX11_minutes 58 = .ok (.iload_n 2, 1) := dz0 dzo28 12 dzbX11_minutes_46 rfl
theorem dX11_minutes_59 : decode cX11_minutes 59 = .ok (.iload_n 3, 1) := dz0 dzo29 13 dzbX11_minutes_46 rfl
theorem dX11_minutes_60 : decode cX11_minutes 60 = .ok (.invokevirtual 181, 3) := dz2 dzo182 14 0 181 dzbX11_minutes_46 rfl
theorem dX11_minutes_63 : decode cX11_minutes 63 = .ok (.invokevirtual 130, 3) := dz2 dzo182 17 0 130 dzbX11_minutes_46 rfl
theorem dX11_minutes_66 : decode cX11_minutes 66 = .ok (.ireturn, 1) := dz0 dzo172 20 dzbX11_minutes_46 rfl
theorem dzbX11_minutesOfAll_0 : dzB cX11_minutesOfAll 0 [3, 61, 3, 62, 29, 42, 180, 0, 81, 180, 0, 223, 162, 0, 67, 42, 180, 0, 36, 43, 180, 0, 121, 42] := by decide +kernel
theorem dX11_minutesOfAll_0 : decode cX11_minutesOfAll 0 = .ok (.iconst 0, 1) := dz0 dzo3 0 dzbX11_minutesOfAll_0 rfl
theorem dX11_minutesOfAll_1 : decode cX11_minutesOfAll 1 = .ok (.istore_n 2, 1) := dz0 dzo61 1 dzbX11_minutesOfAll_0 rfl
theorem dX11_minutesOfAll_2 : decode cX11_minutesOfAll 2 = .ok (.iconst 0, 1) := dz0 dzo3 2 dzbX11_minutesOfAll_0 rfl
theorem dX11_minutesOfAll_3 : decode cX11_minutesOfAll 3 = .ok (.istore_n 3, 1) := dz0 dzo62 3 dzbX11_minutesOfAll_0 rfl
theorem dX11_minutesOfAll_4 : decode cX11_minutesOfAll 4 = .ok (.iload_n 3, 1) := dz0 dzo29 4 dzbX11_minutesOfAll_0 rfl
theorem dX11_minutesOfAll_5 : decode cX11_minutesOfAll 5 = .ok (.aload_n 0, 1) := dz0 dzo42 5 dzbX11_minutesOfAll_0 rfl
theorem dX11_minutesOfAll_6 : decode cX11_minutesOfAll 6 = .ok (.getfield 81, 3) := dz2 dzo180 6 0 81 dzbX11_minutesOfAll_0 rfl
theorem dX11_minutesOfAll_9 : decode cX11_minutesOfAll 9 = .ok (.getfield 223, 3) := dz2 dzo180 9 0 223 dzbX11_minutesOfAll_0 rfl
theorem dX11_minutesOfAll_12 : decode cX11_minutesOfAll 12 = .ok (.if_icmp .ge 67, 3) := dz4 dzo162 12 0 67 67 rfl dzbX11_minutesOfAll_0 rfl
theorem dX11_minutesOfAll_15 : decode cX11_minutesOfAll 15 = .ok (.aload_n 0, 1) := dz0 dzo42 15 dzbX11_minutesOfAll_0 rfl
theorem dX11_minutesOfAll_16 : decode cX11_minutesOfAll 16 = .ok (.getfield 36, 3) := dz2 dzo180 16 0 36 dzbX11_minutesOfAll_0 rfl
theorem dX11_minutesOfAll_19 : decode cX11_minutesOfAll 19 = .ok (.aload_n 1, 1) := dz0 dzo43 19 dzbX11_minutesOfAll_0 rfl
theorem dX11_minutesOfAll_20 : decode cX11_minutesOfAll 20 = .ok (.getfield 121, 3) := dz2 dzo180 20 0 121 dzbX11_minutesOfAll_0 rfl
theorem dX11_minutesOfAll_23 : decode cX11_minutesOfAll 23 = .ok (.aload_n 0, 1) := dz0 dzo42 23 dzbX11_minutesOfAll_0 rfl
theorem dzbX11_minutesOfAll_24 : dzB cX11_minutesOfAll 24 [180, 0, 81, 180, 0, 162, 29, 46, 43, 180, 0, 166, 29, 46, 42, 180, 0, 81, 180, 0, 169, 29, 46, 3] := by decide +kernel
theorem dX11_minutesOfAll_24 : decode cX11_minutesOfAll 24 = .ok (.getfield 81, 3) := dz2 dzo180 0 0 81 dzbX11_minutesOfAll_24 rfl
theorem dX11_minutesOfAll_27 : decode cX11_minutesOfAll 27 = .ok (.getfield 162, 3) := dz2 dzo180 3 0 162 dzbX11_minutesOfAll_24 rfl
theorem dX11_minutesOfAll_30 : decode cX11_minutesOfAll 30 = .ok (.iload_n 3, 1) := dz0 dzo29 6 dzbX11_minutesOfAll_24 rfl
theorem dX11_minutesOfAll_31 : decode cX11_minutesOfAll 31 = .ok (.iaload, 1) := dz0 dzo46 7 dzbX11_minutesOfAll_24 rfl
theorem dX11_minutesOfAll_32 : decode cX11_minutesOfAll 32 = .ok (.aload_n 1, 1) := dz0 dzo43 8 dzbX11_minutesOfAll_24 rfl
theorem dX11_minutesOfAll_33 : decode cX11_minutesOfAll 33 = .ok (.getfield 166, 3) := dz2 dzo180 9 0 166 dzbX11_minutesOfAll_24 rfl
theorem dX11_minutesOfAll_36 : decode cX11_minutesOfAll 36 = .ok (.iload_n 3, 1) := dz0 dzo29 12 dzbX11_minutesOfAll_24 rfl
theorem dX11_minutesOfAll_37 : decode cX11_minutesOfAll 37 = .ok (.iaload, 1) := dz0 dzo46 13 dzbX11_minutesOfAll_24 rfl
theorem dX11_minutesOfAll_38 : decode cX11_minutesOfAll 38 = .ok (.aload_n 0, 1) := dz0 dzo42 14 dzbX11_minutesOfAll_24 rfl
theorem dX11_minutesOfAll_39 : decode cX11_minutesOfAll 39 = .ok (.getfield 81, 3) := dz2 dzo180 15 0 81 dzbX11_minutesOfAll_24 rfl
theorem dX11_minutesOfAll_42 : decode cX11_minutesOfAll 42 = .ok (.getfield 169, 3) := dz2 dzo180 18 0 169 dzbX11_minutesOfAll_24 rfl
theorem dX11_minutesOfAll_45 : decode cX11_minutesOfAll 45 = .ok (.iload_n 3, 1) := dz0 dzo29 21 dzbX11_minutesOfAll_24 rfl
theorem dX11_minutesOfAll_46 : decode cX11_minutesOfAll 46 = .ok (.iaload, 1) := dz0 dzo46 22 dzbX11_minutesOfAll_24 rfl
theorem dX11_minutesOfAll_47 : decode cX11_minutesOfAll 47 = .ok (.iconst 0, 1) := dz0 dzo3 23 dzbX11_minutesOfAll_24 rfl
theorem dzbX11_minutesOfAll_48 : dzB cX11_minutesOfAll 48 [182, 1, 118, 54, 4, 28, 21, 4, 153, 0, 13, 42, 180, 0, 36, 182, 0, 198, 167, 0, 5, 16, 60, 96] := by decide +kernel
theorem dX11_minutesOfAll_48 : decode cX11_minutesOfAll 48 = .ok (.invokevirtual 374, 3) := dz2 dzo182 0 1 118 dzbX11_minutesOfAll_48 rfl
theorem dX11_minutesOfAll_51 : decode cX11_minutesOfAll 51 = .ok (.istore 4, 2) := dz1 dzo54 3 4 dzbX11_minutesOfAll_48 rfl
theorem dX11_minutesOfAll_53 : decode cX11_minutesOfAll 53 = .ok (.iload_n 2, 1) := dz0 dzo28 5 dzbX11_minutesOfAll_48 rfl
theorem dX11_minutesOfAll_54 : decode cX11_minutesOfAll 54 = .ok (.iload 4, 2) := dz1 dzo21 6 4 dzbX11_minutesOfAll_48 rfl
theorem dX11_minutesOfAll_56 : decode cX11_minutesOfAll 56 = .ok (.ifCond .eq 13, 3) := dz4 dzo153 8 0 13 13 rfl dzbX11_minutesOfAll_48 rfl
theorem dX11_minutesOfAll_59 : decode cX11_minutesOfAll 59 = .ok (.aload_n 0, 1) := dz0 dzo42 11 dzbX11_minutesOfAll_48 rfl
theorem dX11_minutesOfAll_60 : decode cX11_minutesOfAll 60 = .ok (.getfield 36, 3) := dz2 dzo180 12 0 36 dzbX11_minutesOfAll_48 rfl
theorem dX11_minutesOfAll_63 : decode cX11_minutesOfAll 63 = .ok (.invokevirtual 198, 3) := dz2 dzo182 15 0 198 dzbX11_minutesOfAll_48 rfl
theorem dX11_minutesOfAll_66 : decode cX11_minutesOfAll 66 = .ok (.goto 5, 3) := dz4 dzo167 18 0 5 5 rfl dzbX11_minutesOfAll_48 rfl
theorem dX11_minutesOfAll_69 : decode cX11_minutesOfAll 69 = .ok (.bipush 60, 2) := dz3 dzo16 21 60 60 rfl dzbX11_minutesOfAll_48 rfl
theorem dX11_minutesOfAll_71 : decode cX11_minutesOfAll 71 = .ok (.iadd, 1) := dz0 dzo96 23 dzbX11_minutesOfAll_48 rfl
theorem dzbX11_minutesOfAll_72 : dzB cX11_minutesOfAll 72 [61, 132, 3, 1, 167, 255, 184, 28, 172] := by decide +kernel
theorem dX11_minutesOfAll_72 : decode cX11_minutesOfAll 72 = .ok (.istore_n 2, 1) := dz0 dzo61 0 dzbX11_minutesOfAll_72 rfl
theorem dX11_minutesOfAll_73 : decode cX11_minutesOfAll 73 = .ok (.iinc 3 1, 3) := dz5 dzo132 1 3 1 1 rfl dzbX11_minutesOfAll_72 rfl
theorem dX11_minutesOfAll_76 : decode cX11_minutesOfAll 76 = .ok (.goto (-72), 3) := dz4 dzo167 4 255 184 (-72) rfl dzbX11_minutesOfAll_72 rfl
theorem dX11_minutesOfAll_79 : decode cX11_minutesOfAll 79 = .ok (.iload_n 2, 1) := dz0 dzo28 7 dzbX11_minutesOfAll_72 rfl
theorem dX11_minutesOfAll_80 : decode cX11_minutesOfAll 80 = .ok (.ireturn, 1) := dz0 dzo172 8 dzbX11_minutesOfAll_72 rfl
theorem dzbX11_minutesTo_0 : dzB cX11_minutesTo 0 [42, 27, 182, 0, 159, 153, 0, 17, 42, 180, 0, 19, 180, 0, 121, 28, 182, 0, 142, 154, 0, 9, 42, 4] := by decide +kernel
theorem dX11_minutesTo_0 : decode cX11_minutesTo 0 = .ok (.aload_n 0, 1) := dz0 dzo42 0 dzbX11_minutesTo_0 rfl
theorem dX11_minutesTo_1 : decode cX11_minutesTo 1 = .ok (.iload_n 1, 1) := dz0 dzo27 1 dzbX11_minutesTo_0 rfl
theorem dX11_minutesTo_2 : decode cX11_minutesTo 2 = .ok (.invokevirtual 159, 3) := dz2 dzo182 2 0 159 dzbX11_minutesTo_0 rfl
theorem dX11_minutesTo_5 : decode cX11_minutesTo 5 = .ok (.ifCond .eq 17, 3) := dz4 dzo153 5 0 17 17 rfl dzbX11_minutesTo_0 rfl
theorem dX11_minutesTo_8 : decode cX11_minutesTo 8 = .ok (.aload_n 0, 1) := dz0 dzo42 8 dzbX11_minutesTo_0 rfl
theorem dX11_minutesTo_9 : decode cX11_minutesTo 9 = .ok (.getfield 19, 3) := dz2 dzo180 9 0 19 dzbX11_minutesTo_0 rfl
theorem dX11_minutesTo_12 : decode cX11_minutesTo 12 = .ok (.getfield 121, 3) := dz2 dzo180 12 0 121 dzbX11_minutesTo_0 rfl
theorem dX11_minutesTo_15 : decode cX11_minutesTo 15 = .ok (.iload_n 2, 1) := dz0 dzo28 15 dzbX11_minutesTo_0 rfl
theorem dX11_minutesTo_16 : decode cX11_minutesTo 16 = .ok (.invokevirtual 142, 3) := dz2 dzo182 16 0 142 dzbX11_minutesTo_0 rfl
theorem dX11_minutesTo_19 : decode cX11_minutesTo 19 = .ok (.ifCond .ne 9, 3) := dz4 dzo154 19 0 9 9 rfl dzbX11_minutesTo_0 rfl
theorem dX11_minutesTo_22 : decode cX11_minutesTo 22 = .ok (.aload_n 0, 1) := dz0 dzo42 22 dzbX11_minutesTo_0 rfl
theorem dX11_minutesTo_23 : decode cX11_minutesTo 23 = .ok (.iconst 1, 1) := dz0 dzo4 23 dzbX11_minutesTo_0 rfl
theorem dzbX11_minutesTo_24 : dzB cX11_minutesTo 24 [182, 0, 100, 172, 42, 42, 27, 28, 182, 0, 220, 182, 0, 130, 172] := by decide +kernel
theorem dX11_minutesTo_24 : decode cX11_minutesTo 24 = .ok (.invokevirtual 100, 3) := dz2 dzo182 0 0 100 dzbX11_minutesTo_24 rfl
theorem dX11_minutesTo_27 : decode cX11_minutesTo 27 = .ok (.ireturn, 1) := dz0 dzo172 3 dzbX11_minutesTo_24 rfl
theorem dX11_minutesTo_28 : decode cX11_minutesTo 28 = .ok (.aload_n 0, 1) := dz0 dzo42 4 dzbX11_minutesTo_24 rfl
theorem dX11_minutesTo_29 : decode cX11_minutesTo 29 = .ok (.aload_n 0, 1) := dz0 dzo42 5 dzbX11_minutesTo_24 rfl
theorem dX11_minutesTo_30 : decode cX11_minutesTo 30 = .ok (.iload_n 1, 1) := dz0 dzo27 6 dzbX11_minutesTo_24 rfl
theorem dX11_minutesTo_31 : decode cX11_minutesTo 31 = .ok (.iload_n 2, 1) := dz0 dzo28 7 dzbX11_minutesTo_24 rfl
theorem dX11_minutesTo_32 : decode cX11_minutesTo 32 = .ok (.invokevirtual 220, 3) := dz2 dzo182 8 0 220 dzbX11_minutesTo_24 rfl
theorem dX11_minutesTo_35 : decode cX11_minutesTo 35 = .ok (.invokevirtual 130, 3) := dz2 dzo182 11 0 130 dzbX11_minutesTo_24 rfl
theorem dX11_minutesTo_38 : decode cX11_minutesTo 38 = .ok (.ireturn, 1) := dz0 dzo172 14 dzbX11_minutesTo_24 rfl
theorem dzbX11_odds_0 : dzB cX11_odds 0 [27, 155, 0, 14, 27, 42, 180, 0, 81, 180, 1, 18, 161, 0, 10, 42, 4, 182, 0, 100, 133, 173, 42] := by decide +kernel
theorem dX11_odds_0 : decode cX11_odds 0 = .ok (.iload_n 1, 1) := dz0 dzo27 0 dzbX11_odds_0 rfl
theorem dX11_odds_1 : decode cX11_odds 1 = .ok (.ifCond .lt 14, 3) := dz4 dzo155 1 0 14 14 rfl dzbX11_odds_0 rfl
theorem dX11_odds_4 : decode cX11_odds 4 = .ok (.iload_n 1, 1) := dz0 dzo27 4 dzbX11_odds_0 rfl
theorem dX11_odds_5 : decode cX11_odds 5 = .ok (.aload_n 0, 1) := dz0 dzo42 5 dzbX11_odds_0 rfl
theorem dX11_odds_6 : decode cX11_odds 6 = .ok (.getfield 81, 3) := dz2 dzo180 6 0 81 dzbX11_odds_0 rfl
theorem dX11_odds_9 : decode cX11_odds 9 = .ok (.getfield 274, 3) := dz2 dzo180 9 1 18 dzbX11_odds_0 rfl
theorem dX11_odds_12 : decode cX11_odds 12 = .ok (.if_icmp .lt 10, 3) := dz4 dzo161 12 0 10 10 rfl dzbX11_odds_0 rfl
theorem dX11_odds_15 : decode cX11_odds 15 = .ok (.aload_n 0, 1) := dz0 dzo42 15 dzbX11_odds_0 rfl
theorem dX11_odds_16 : decode cX11_odds 16 = .ok (.iconst 1, 1) := dz0 dzo4 16 dzbX11_odds_0 rfl
theorem dX11_odds_17 : decode cX11_odds 17 = .ok (.invokevirtual 100, 3) := dz2 dzo182 17 0 100 dzbX11_odds_0 rfl
theorem dX11_odds_20 : decode cX11_odds 20 = .ok (.i2l, 1) := dz0 dzo133 20 dzbX11_odds_0 rfl
theorem dX11_odds_21 : decode cX11_odds 21 = .ok (.lreturn, 1) := dz0 dzo173 21 dzbX11_odds_0 rfl
theorem dX11_odds_22 : decode cX11_odds 22 = .ok (.aload_n 0, 1) := dz0 dzo42 22 dzbX11_odds_0 rfl
theorem dzbX11_odds_23 : dzB cX11_odds 23 [180, 0, 74, 42, 180, 0, 67, 27, 182, 1, 21, 42, 180, 0, 67, 182, 1, 25, 182, 1, 29, 42, 28] := by decide +kernel
theorem dX11_odds_23 : decode cX11_odds 23 = .ok (.getfield 74, 3) := dz2 dzo180 0 0 74 dzbX11_odds_23 rfl
theorem dX11_odds_26 : decode cX11_odds 26 = .ok (.aload_n 0, 1) := dz0 dzo42 3 dzbX11_odds_23 rfl
theorem dX11_odds_27 : decode cX11_odds 27 = .ok (.getfield 67, 3) := dz2 dzo180 4 0 67 dzbX11_odds_23 rfl
theorem dX11_odds_30 : decode cX11_odds 30 = .ok (.iload_n 1, 1) := dz0 dzo27 7 dzbX11_odds_23 rfl
theorem dX11_odds_31 : decode cX11_odds 31 = .ok (.invokevirtual 277, 3) := dz2 dzo182 8 1 21 dzbX11_odds_23 rfl
theorem dX11_odds_34 : decode cX11_odds 34 = .ok (.aload_n 0, 1) := dz0 dzo42 11 dzbX11_odds_23 rfl
theorem dX11_odds_35 : decode cX11_odds 35 = .ok (.getfield 67, 3) := dz2 dzo180 12 0 67 dzbX11_odds_23 rfl
theorem dX11_odds_38 : decode cX11_odds 38 = .ok (.invokevirtual 281, 3) := dz2 dzo182 15 1 25 dzbX11_odds_23 rfl
theorem dX11_odds_41 : decode cX11_odds 41 = .ok (.invokevirtual 285, 3) := dz2 dzo182 18 1 29 dzbX11_odds_23 rfl
theorem dX11_odds_44 : decode cX11_odds 44 = .ok (.aload_n 0, 1) := dz0 dzo42 21 dzbX11_odds_23 rfl
theorem dX11_odds_45 : decode cX11_odds 45 = .ok (.iload_n 2, 1) := dz0 dzo28 22 dzbX11_odds_23 rfl
theorem dzbX11_odds_46 : dzB cX11_odds 46 [182, 1, 32, 173] := by decide +kernel
theorem dX11_odds_46 : decode cX11_odds 46 = .ok (.invokevirtual 288, 3) := dz2 dzo182 0 1 32 dzbX11_odds_46 rfl
theorem dX11_odds_49 : decode cX11_odds 49 = .ok (.lreturn, 1) := dz0 dzo173 3 dzbX11_odds_46 rfl
theorem dzbX11_park_0 : dzB cX11_park 0 [27, 155, 0, 14, 27, 42, 180, 0, 10, 180, 0, 96, 164, 0, 9, 42, 5, 182, 0, 100, 172, 42] := by decide +kernel
theorem dX11_park_0 : decode cX11_park 0 = .ok (.iload_n 1, 1) := dz0 dzo27 0 dzbX11_park_0 rfl
theorem dX11_park_1 : decode cX11_park 1 = .ok (.ifCond .lt 14, 3) := dz4 dzo155 1 0 14 14 rfl dzbX11_park_0 rfl
theorem dX11_park_4 : decode cX11_park 4 = .ok (.iload_n 1, 1) := dz0 dzo27 4 dzbX11_park_0 rfl
theorem dX11_park_5 : decode cX11_park 5 = .ok (.aload_n 0, 1) := dz0 dzo42 5 dzbX11_park_0 rfl
theorem dX11_park_6 : decode cX11_park 6 = .ok (.getfield 10, 3) := dz2 dzo180 6 0 10 dzbX11_park_0 rfl
theorem dX11_park_9 : decode cX11_park 9 = .ok (.getfield 96, 3) := dz2 dzo180 9 0 96 dzbX11_park_0 rfl
theorem dX11_park_12 : decode cX11_park 12 = .ok (.if_icmp .le 9, 3) := dz4 dzo164 12 0 9 9 rfl dzbX11_park_0 rfl
theorem dX11_park_15 : decode cX11_park 15 = .ok (.aload_n 0, 1) := dz0 dzo42 15 dzbX11_park_0 rfl
theorem dX11_park_16 : decode cX11_park 16 = .ok (.iconst 2, 1) := dz0 dzo5 16 dzbX11_park_0 rfl
theorem dX11_park_17 : decode cX11_park 17 = .ok (.invokevirtual 100, 3) := dz2 dzo182 17 0 100 dzbX11_park_0 rfl
theorem dX11_park_20 : decode cX11_park 20 = .ok (.ireturn, 1) := dz0 dzo172 20 dzbX11_park_0 rfl
theorem dX11_park_21 : decode cX11_park 21 = .ok (.aload_n 0, 1) := dz0 dzo42 21 dzbX11_park_0 rfl
theorem dzbX11_park_22 : dzB cX11_park 22 [180, 0, 10, 27, 42, 180, 0, 85, 182, 0, 104, 154, 0, 9, 42, 7, 182, 0, 100, 172, 42, 180, 0, 81] := by decide +kernel
theorem dX11_park_22 : decode cX11_park 22 = .ok (.getfield 10, 3) := dz2 dzo180 0 0 10 dzbX11_park_22 rfl
theorem dX11_park_25 : decode cX11_park 25 = .ok (.iload_n 1, 1) := dz0 dzo27 3 dzbX11_park_22 rfl
theorem dX11_park_26 : decode cX11_park 26 = .ok (.aload_n 0, 1) := dz0 dzo42 4 dzbX11_park_22 rfl
theorem dX11_park_27 : decode cX11_park 27 = .ok (.getfield 85, 3) := dz2 dzo180 5 0 85 dzbX11_park_22 rfl
theorem dX11_park_30 : decode cX11_park 30 = .ok (.invokevirtual 104, 3) := dz2 dzo182 8 0 104 dzbX11_park_22 rfl
theorem dX11_park_33 : decode cX11_park 33 = .ok (.ifCond .ne 9, 3) := dz4 dzo154 11 0 9 9 rfl dzbX11_park_22 rfl
theorem dX11_park_36 : decode cX11_park 36 = .ok (.aload_n 0, 1) := dz0 dzo42 14 dzbX11_park_22 rfl
theorem dX11_park_37 : decode cX11_park 37 = .ok (.iconst 4, 1) := dz0 dzo7 15 dzbX11_park_22 rfl
theorem dX11_park_38 : decode cX11_park 38 = .ok (.invokevirtual 100, 3) := dz2 dzo182 16 0 100 dzbX11_park_22 rfl
theorem dX11_park_41 : decode cX11_park 41 = .ok (.ireturn, 1) := dz0 dzo172 19 dzbX11_park_22 rfl
theorem dX11_park_42 : decode cX11_park 42 = .ok (.aload_n 0, 1) := dz0 dzo42 20 dzbX11_park_22 rfl
theorem dX11_park_43 : decode cX11_park 43 = .ok (.getfield 81, 3) := dz2 dzo180 21 0 81 dzbX11_park_22 rfl
theorem dzbX11_park_46 : dzB cX11_park 46 [77, 42, 42, 180, 0, 85, 181, 0, 81, 42, 44, 181, 0, 85, 42, 180, 0, 19, 42, 180, 0, 81] := by decide +kernel
theorem dX11_park_46 : decode cX11_park 46 = .ok (.astore_n 2, 1) := dz0 dzo77 0 dzbX11_park_46 rfl
theorem dX11_park_47 : decode cX11_park 47 = .ok (.aload_n 0, 1) := dz0 dzo42 1 dzbX11_park_46 rfl
theorem dX11_park_48 : decode cX11_park 48 = .ok (.aload_n 0, 1) := dz0 dzo42 2 dzbX11_park_46 rfl
theorem dX11_park_49 : decode cX11_park 49 = .ok (.getfield 85, 3) := dz2 dzo180 3 0 85 dzbX11_park_46 rfl
theorem dX11_park_52 : decode cX11_park 52 = .ok (.putfield 81, 3) := dz2 dzo181 6 0 81 dzbX11_park_46 rfl
theorem dX11_park_55 : decode cX11_park 55 = .ok (.aload_n 0, 1) := dz0 dzo42 9 dzbX11_park_46 rfl
theorem dX11_park_56 : decode cX11_park 56 = .ok (.aload_n 2, 1) := dz0 dzo44 10 dzbX11_park_46 rfl
theorem dX11_park_57 : decode cX11_park 57 = .ok (.putfield 85, 3) := dz2 dzo181 11 0 85 dzbX11_park_46 rfl
theorem dX11_park_60 : decode cX11_park 60 = .ok (.aload_n 0, 1) := dz0 dzo42 14 dzbX11_park_46 rfl
theorem dX11_park_61 : decode cX11_park 61 = .ok (.getfield 19, 3) := dz2 dzo180 15 0 19 dzbX11_park_46 rfl
theorem dX11_park_64 : decode cX11_park 64 = .ok (.aload_n 0, 1) := dz0 dzo42 18 dzbX11_park_46 rfl
theorem dX11_park_65 : decode cX11_park 65 = .ok (.getfield 81, 3) := dz2 dzo180 19 0 81 dzbX11_park_46 rfl
theorem dzbX11_park_68 : dzB cX11_park 68 [182, 0, 108, 42, 180, 0, 67, 42, 180, 0, 81, 182, 0, 112, 42, 3, 181, 0, 115, 42, 3, 181, 0, 118] := by decide +kernel
theorem dX11_park_68 : decode cX11_park 68 = .ok (.invokevirtual 108, 3) := dz2 dzo182 0 0 108 dzbX11_park_68 rfl
theorem dX11_park_71 : decode cX11_park 71 = .ok (.aload_n 0, 1) := dz0 dzo42 3 dzbX11_park_68 rfl
theorem dX11_park_72 : decode cX11_park 72 = .ok (.getfield 67, 3) := dz2 dzo180 4 0 67 dzbX11_park_68 rfl
theorem dX11_park_75 : decode cX11_park 75 = .ok (.aload_n 0, 1) := dz0 dzo42 7 dzbX11_park_68 rfl
theorem dX11_park_76 : decode cX11_park 76 = .ok (.getfield 81, 3) := dz2 dzo180 8 0 81 dzbX11_park_68 rfl
theorem dX11_park_79 : decode cX11_park 79 = .ok (.invokevirtual 112, 3) := dz2 dzo182 11 0 112 dzbX11_park_68 rfl
theorem dX11_park_82 : decode cX11_park 82 = .ok (.aload_n 0, 1) := dz0 dzo42 14 dzbX11_park_68 rfl
theorem dX11_park_83 : decode cX11_park 83 = .ok (.iconst 0, 1) := dz0 dzo3 15 dzbX11_park_68 rfl
theorem dX11_park_84 : decode cX11_park 84 = .ok (.putfield 115, 3) := dz2 dzo181 16 0 115 dzbX11_park_68 rfl
theorem dX11_park_87 : decode cX11_park 87 = .ok (.aload_n 0, 1) := dz0 dzo42 19 dzbX11_park_68 rfl
theorem dX11_park_88 : decode cX11_park 88 = .ok (.iconst 0, 1) := dz0 dzo3 20 dzbX11_park_68 rfl
theorem dX11_park_89 : decode cX11_park 89 = .ok (.putfield 118, 3) := dz2 dzo181 21 0 118 dzbX11_park_68 rfl
theorem dzbX11_park_92 : dzB cX11_park 92 [42, 42, 180, 0, 19, 180, 0, 121, 180, 0, 125, 182, 0, 130, 172] := by decide +kernel
theorem dX11_park_92 : decode cX11_park 92 = .ok (.aload_n 0, 1) := dz0 dzo42 0 dzbX11_park_92 rfl
theorem dX11_park_93 : decode cX11_park 93 = .ok (.aload_n 0, 1) := dz0 dzo42 1 dzbX11_park_92 rfl
theorem dX11_park_94 : decode cX11_park 94 = .ok (.getfield 19, 3) := dz2 dzo180 2 0 19 dzbX11_park_92 rfl
theorem dX11_park_97 : decode cX11_park 97 = .ok (.getfield 121, 3) := dz2 dzo180 5 0 121 dzbX11_park_92 rfl
theorem dX11_park_100 : decode cX11_park 100 = .ok (.getfield 125, 3) := dz2 dzo180 8 0 125 dzbX11_park_92 rfl
theorem dX11_park_103 : decode cX11_park 103 = .ok (.invokevirtual 130, 3) := dz2 dzo182 11 0 130 dzbX11_park_92 rfl
theorem dX11_park_106 : decode cX11_park 106 = .ok (.ireturn, 1) := dz0 dzo172 14 dzbX11_park_92 rfl
theorem dzbX11_passers_0 : dzB cX11_passers 0 [42, 180, 0, 19, 180, 0, 121, 27, 182, 0, 142, 154, 0, 9, 42, 4, 182, 0, 100, 172, 3, 61, 3, 62] := by decide +kernel
theorem dX11_passers_0 : decode cX11_passers 0 = .ok (.aload_n 0, 1) := dz0 dzo42 0 dzbX11_passers_0 rfl
theorem dX11_passers_1 : decode cX11_passers 1 = .ok (.getfield 19, 3) := dz2 dzo180 1 0 19 dzbX11_passers_0 rfl
theorem dX11_passers_4 : decode cX11_passers 4 = .ok (.getfield 121, 3) := dz2 dzo180 4 0 121 dzbX11_passers_0 rfl
theorem dX11_passers_7 : decode cX11_passers 7 = .ok (.iload_n 1, 1) := dz0 dzo27 7 dzbX11_passers_0 rfl
theorem dX11_passers_8 : decode cX11_passers 8 = .ok (.invokevirtual 142, 3) := dz2 dzo182 8 0 142 dzbX11_passers_0 rfl
theorem dX11_passers_11 : decode cX11_passers 11 = .ok (.ifCond .ne 9, 3) := dz4 dzo154 11 0 9 9 rfl dzbX11_passers_0 rfl
theorem dX11_passers_14 : decode cX11_passers 14 = .ok (.aload_n 0, 1) := dz0 dzo42 14 dzbX11_passers_0 rfl
theorem dX11_passers_15 : decode cX11_passers 15 = .ok (.iconst 1, 1) := dz0 dzo4 15 dzbX11_passers_0 rfl
theorem dX11_passers_16 : decode cX11_passers 16 = .ok (.invokevirtual 100, 3) := dz2 dzo182 16 0 100 dzbX11_passers_0 rfl
theorem dX11_passers_19 : decode cX11_passers 19 = .ok (.ireturn, 1) := dz0 dzo172 19 dzbX11_passers_0 rfl
theorem dX11_passers_20 : decode cX11_passers 20 = .ok (.iconst 0, 1) := dz0 dzo3 20 dzbX11_passers_0 rfl
theorem dX11_passers_21 : decode cX11_passers 21 = .ok (.istore_n 2, 1) := dz0 dzo61 21 dzbX11_passers_0 rfl
theorem dX11_passers_22 : decode cX11_passers 22 = .ok (.iconst 0, 1) := dz0 dzo3 22 dzbX11_passers_0 rfl
theorem dX11_passers_23 : decode cX11_passers 23 = .ok (.istore_n 3, 1) := dz0 dzo62 23 dzbX11_passers_0 rfl
theorem dzbX11_passers_24 : dzB cX11_passers 24 [29, 42, 180, 0, 81, 180, 0, 223, 162, 0, 38, 42, 42, 180, 0, 36, 29, 182, 0, 194, 153, 0, 20, 42] := by decide +kernel
theorem dX11_passers_24 : decode cX11_passers 24 = .ok (.iload_n 3, 1) := dz0 dzo29 0 dzbX11_passers_24 rfl
theorem dX11_passers_25 : decode cX11_passers 25 = .ok (.aload_n 0, 1) := dz0 dzo42 1 dzbX11_passers_24 rfl
theorem dX11_passers_26 : decode cX11_passers 26 = .ok (.getfield 81, 3) := dz2 dzo180 2 0 81 dzbX11_passers_24 rfl
theorem dX11_passers_29 : decode cX11_passers 29 = .ok (.getfield 223, 3) := dz2 dzo180 5 0 223 dzbX11_passers_24 rfl
theorem dX11_passers_32 : decode cX11_passers 32 = .ok (.if_icmp .ge 38, 3) := dz4 dzo162 8 0 38 38 rfl dzbX11_passers_24 rfl
theorem dX11_passers_35 : decode cX11_passers 35 = .ok (.aload_n 0, 1) := dz0 dzo42 11 dzbX11_passers_24 rfl
theorem dX11_passers_36 : decode cX11_passers 36 = .ok (.aload_n 0, 1) := dz0 dzo42 12 dzbX11_passers_24 rfl
theorem dX11_passers_37 : decode cX11_passers 37 = .ok (.getfield 36, 3) := dz2 dzo180 13 0 36 dzbX11_passers_24 rfl
theorem dX11_passers_40 : decode cX11_passers 40 = .ok (.iload_n 3, 1) := dz0 dzo29 16 dzbX11_passers_24 rfl
theorem dX11_passers_41 : decode cX11_passers 41 = .ok (.invokevirtual 194, 3) := dz2 dzo182 17 0 194 dzbX11_passers_24 rfl
theorem dX11_passers_44 : decode cX11_passers 44 = .ok (.ifCond .eq 20, 3) := dz4 dzo153 20 0 20 20 rfl dzbX11_passers_24 rfl
theorem dX11_passers_47 : decode cX11_passers 47 = .ok (.aload_n 0, 1) := dz0 dzo42 23 dzbX11_passers_24 rfl
theorem dzbX11_passers_48 : dzB cX11_passers 48 [180, 0, 36, 27, 182, 1, 10, 153, 0, 9, 28, 4, 29, 120, 128, 61, 132, 3, 1, 167, 255, 213, 42, 28] := by decide +kernel
theorem dX11_passers_48 : decode cX11_passers 48 = .ok (.getfield 36, 3) := dz2 dzo180 0 0 36 dzbX11_passers_48 rfl
theorem dX11_passers_51 : decode cX11_passers 51 = .ok (.iload_n 1, 1) := dz0 dzo27 3 dzbX11_passers_48 rfl
theorem dX11_passers_52 : decode cX11_passers 52 = .ok (.invokevirtual 266, 3) := dz2 dzo182 4 1 10 dzbX11_passers_48 rfl
theorem dX11_passers_55 : decode cX11_passers 55 = .ok (.ifCond .eq 9, 3) := dz4 dzo153 7 0 9 9 rfl dzbX11_passers_48 rfl
theorem dX11_passers_58 : decode cX11_passers 58 = .ok (.iload_n 2, 1) := dz0 dzo28 10 dzbX11_passers_48 rfl
theorem dX11_passers_59 : decode cX11_passers 59 = .ok (.iconst 1, 1) := dz0 dzo4 11 dzbX11_passers_48 rfl
theorem dX11_passers_60 : decode cX11_passers 60 = .ok (.iload_n 3, 1) := dz0 dzo29 12 dzbX11_passers_48 rfl
theorem dX11_passers_61 : decode cX11_passers 61 = .ok (.ishl, 1) := dz0 dzo120 13 dzbX11_passers_48 rfl
theorem dX11_passers_62 : decode cX11_passers 62 = .ok (.ior, 1) := dz0 dzo128 14 dzbX11_passers_48 rfl
theorem dX11_passers_63 : decode cX11_passers 63 = .ok (.istore_n 2, 1) := dz0 dzo61 15 dzbX11_passers_48 rfl
theorem dX11_passers_64 : decode cX11_passers 64 = .ok (.iinc 3 1, 3) := dz5 dzo132 16 3 1 1 rfl dzbX11_passers_48 rfl
theorem dX11_passers_67 : decode cX11_passers 67 = .ok (.goto (-43), 3) := dz4 dzo167 19 255 213 (-43) rfl dzbX11_passers_48 rfl
theorem dX11_passers_70 : decode cX11_passers 70 = .ok (.aload_n 0, 1) := dz0 dzo42 22 dzbX11_passers_48 rfl
theorem dX11_passers_71 : decode cX11_passers 71 = .ok (.iload_n 2, 1) := dz0 dzo28 23 dzbX11_passers_48 rfl
theorem dzbX11_passers_72 : dzB cX11_passers 72 [182, 0, 130, 172] := by decide +kernel
theorem dX11_passers_72 : decode cX11_passers 72 = .ok (.invokevirtual 130, 3) := dz2 dzo182 0 0 130 dzbX11_passers_72 rfl
theorem dX11_passers_75 : decode cX11_passers 75 = .ok (.ireturn, 1) := dz0 dzo172 3 dzbX11_passers_72 rfl
theorem dzbX11_pay_0 : dzB cX11_pay 0 [27, 153, 0, 15, 28, 153, 0, 9, 5, 26, 100, 167, 0, 4, 7, 172, 28, 153, 0, 7, 3, 167, 0, 4] := by decide +kernel
theorem dX11_pay_0 : decode cX11_pay 0 = .ok (.iload_n 1, 1) := dz0 dzo27 0 dzbX11_pay_0 rfl
theorem dX11_pay_1 : decode cX11_pay 1 = .ok (.ifCond .eq 15, 3) := dz4 dzo153 1 0 15 15 rfl dzbX11_pay_0 rfl
theorem dX11_pay_4 : decode cX11_pay 4 = .ok (.iload_n 2, 1) := dz0 dzo28 4 dzbX11_pay_0 rfl
theorem dX11_pay_5 : decode cX11_pay 5 = .ok (.ifCond .eq 9, 3) := dz4 dzo153 5 0 9 9 rfl dzbX11_pay_0 rfl
theorem dX11_pay_8 : decode cX11_pay 8 = .ok (.iconst 2, 1) := dz0 dzo5 8 dzbX11_pay_0 rfl
theorem dX11_pay_9 : decode cX11_pay 9 = .ok (.iload_n 0, 1) := dz0 dzo26 9 dzbX11_pay_0 rfl
theorem dX11_pay_10 : decode cX11_pay 10 = .ok (.isub, 1) := dz0 dzo100 10 dzbX11_pay_0 rfl
theorem dX11_pay_11 : decode cX11_pay 11 = .ok (.goto 4, 3) := dz4 dzo167 11 0 4 4 rfl dzbX11_pay_0 rfl
theorem dX11_pay_14 : decode cX11_pay 14 = .ok (.iconst 4, 1) := dz0 dzo7 14 dzbX11_pay_0 rfl
theorem dX11_pay_15 : decode cX11_pay 15 = .ok (.ireturn, 1) := dz0 dzo172 15 dzbX11_pay_0 rfl
theorem dX11_pay_16 : decode cX11_pay 16 = .ok (.iload_n 2, 1) := dz0 dzo28 16 dzbX11_pay_0 rfl
theorem dX11_pay_17 : decode cX11_pay 17 = .ok (.ifCond .eq 7, 3) := dz4 dzo153 17 0 7 7 rfl dzbX11_pay_0 rfl
theorem dX11_pay_20 : decode cX11_pay 20 = .ok (.iconst 0, 1) := dz0 dzo3 20 dzbX11_pay_0 rfl
theorem dX11_pay_21 : decode cX11_pay 21 = .ok (.goto 4, 3) := dz4 dzo167 21 0 4 4 rfl dzbX11_pay_0 rfl
theorem dzbX11_pay_24 : dzB cX11_pay 24 [4, 172] := by decide +kernel
theorem dX11_pay_24 : decode cX11_pay 24 = .ok (.iconst 1, 1) := dz0 dzo4 0 dzbX11_pay_24 rfl
theorem dX11_pay_25 : decode cX11_pay 25 = .ok (.ireturn, 1) := dz0 dzo172 1 dzbX11_pay_24 rfl
theorem dzbX11_place_0 : dzB cX11_place 0 [42, 180, 0, 19, 180, 0, 121, 27, 182, 0, 142, 154, 0, 9, 42, 4, 182, 0, 100, 172, 28] := by decide +kernel
theorem dX11_place_0 : decode cX11_place 0 = .ok (.aload_n 0, 1) := dz0 dzo42 0 dzbX11_place_0 rfl
theorem dX11_place_1 : decode cX11_place 1 = .ok (.getfield 19, 3) := dz2 dzo180 1 0 19 dzbX11_place_0 rfl
theorem dX11_place_4 : decode cX11_place 4 = .ok (.getfield 121, 3) := dz2 dzo180 4 0 121 dzbX11_place_0 rfl
theorem dX11_place_7 : decode cX11_place 7 = .ok (.iload_n 1, 1) := dz0 dzo27 7 dzbX11_place_0 rfl
theorem dX11_place_8 : decode cX11_place 8 = .ok (.invokevirtual 142, 3) := dz2 dzo182 8 0 142 dzbX11_place_0 rfl
theorem dX11_place_11 : decode cX11_place 11 = .ok (.ifCond .ne 9, 3) := dz4 dzo154 11 0 9 9 rfl dzbX11_place_0 rfl
theorem dX11_place_14 : decode cX11_place 14 = .ok (.aload_n 0, 1) := dz0 dzo42 14 dzbX11_place_0 rfl
theorem dX11_place_15 : decode cX11_place 15 = .ok (.iconst 1, 1) := dz0 dzo4 15 dzbX11_place_0 rfl
theorem dX11_place_16 : decode cX11_place 16 = .ok (.invokevirtual 100, 3) := dz2 dzo182 16 0 100 dzbX11_place_0 rfl
theorem dX11_place_19 : decode cX11_place 19 = .ok (.ireturn, 1) := dz0 dzo172 19 dzbX11_place_0 rfl
theorem dX11_place_20 : decode cX11_place 20 = .ok (.iload_n 2, 1) := dz0 dzo28 20 dzbX11_place_0 rfl
theorem dX11_place_21 : decode cX11_place 21 = .ok (.tableswitch 110 0 3 #[31, 47, 68, 81], 31) := by decide +kernel
theorem dzbX11_place_52 : dzB cX11_place 52 [42, 42, 180, 0, 19, 180, 0, 121, 27, 182, 0, 146, 182, 0, 130, 172, 42, 42, 180, 0, 81, 27] := by decide +kernel
theorem dX11_place_52 : decode cX11_place 52 = .ok (.aload_n 0, 1) := dz0 dzo42 0 dzbX11_place_52 rfl
theorem dX11_place_53 : decode cX11_place 53 = .ok (.aload_n 0, 1) := dz0 dzo42 1 dzbX11_place_52 rfl
theorem dX11_place_54 : decode cX11_place 54 = .ok (.getfield 19, 3) := dz2 dzo180 2 0 19 dzbX11_place_52 rfl
theorem dX11_place_57 : decode cX11_place 57 = .ok (.getfield 121, 3) := dz2 dzo180 5 0 121 dzbX11_place_52 rfl
theorem dX11_place_60 : decode cX11_place 60 = .ok (.iload_n 1, 1) := dz0 dzo27 8 dzbX11_place_52 rfl
theorem dX11_place_61 : decode cX11_place 61 = .ok (.invokevirtual 146, 3) := dz2 dzo182 9 0 146 dzbX11_place_52 rfl
theorem dX11_place_64 : decode cX11_place 64 = .ok (.invokevirtual 130, 3) := dz2 dzo182 12 0 130 dzbX11_place_52 rfl
theorem dX11_place_67 : decode cX11_place 67 = .ok (.ireturn, 1) := dz0 dzo172 15 dzbX11_place_52 rfl
theorem dX11_place_68 : decode cX11_place 68 = .ok (.aload_n 0, 1) := dz0 dzo42 16 dzbX11_place_52 rfl
theorem dX11_place_69 : decode cX11_place 69 = .ok (.aload_n 0, 1) := dz0 dzo42 17 dzbX11_place_52 rfl
theorem dX11_place_70 : decode cX11_place 70 = .ok (.getfield 81, 3) := dz2 dzo180 18 0 81 dzbX11_place_52 rfl
theorem dX11_place_73 : decode cX11_place 73 = .ok (.iload_n 1, 1) := dz0 dzo27 21 dzbX11_place_52 rfl
theorem dzbX11_place_74 : dzB cX11_place 74 [182, 0, 149, 153, 0, 7, 4, 167, 0, 4, 3, 182, 0, 130, 172, 42, 42, 180, 0, 19, 27, 182, 0, 152] := by decide +kernel
theorem dX11_place_74 : decode cX11_place 74 = .ok (.invokevirtual 149, 3) := dz2 dzo182 0 0 149 dzbX11_place_74 rfl
theorem dX11_place_77 : decode cX11_place 77 = .ok (.ifCond .eq 7, 3) := dz4 dzo153 3 0 7 7 rfl dzbX11_place_74 rfl
theorem dX11_place_80 : decode cX11_place 80 = .ok (.iconst 1, 1) := dz0 dzo4 6 dzbX11_place_74 rfl
theorem dX11_place_81 : decode cX11_place 81 = .ok (.goto 4, 3) := dz4 dzo167 7 0 4 4 rfl dzbX11_place_74 rfl
theorem dX11_place_84 : decode cX11_place 84 = .ok (.iconst 0, 1) := dz0 dzo3 10 dzbX11_place_74 rfl
theorem dX11_place_85 : decode cX11_place 85 = .ok (.invokevirtual 130, 3) := dz2 dzo182 11 0 130 dzbX11_place_74 rfl
theorem dX11_place_88 : decode cX11_place 88 = .ok (.ireturn, 1) := dz0 dzo172 14 dzbX11_place_74 rfl
theorem dX11_place_89 : decode cX11_place 89 = .ok (.aload_n 0, 1) := dz0 dzo42 15 dzbX11_place_74 rfl
theorem dX11_place_90 : decode cX11_place 90 = .ok (.aload_n 0, 1) := dz0 dzo42 16 dzbX11_place_74 rfl
theorem dX11_place_91 : decode cX11_place 91 = .ok (.getfield 19, 3) := dz2 dzo180 17 0 19 dzbX11_place_74 rfl
theorem dX11_place_94 : decode cX11_place 94 = .ok (.iload_n 1, 1) := dz0 dzo27 20 dzbX11_place_74 rfl
theorem dX11_place_95 : decode cX11_place 95 = .ok (.invokevirtual 152, 3) := dz2 dzo182 21 0 152 dzbX11_place_74 rfl
theorem dzbX11_place_98 : dzB cX11_place 98 [182, 0, 130, 172, 42, 180, 0, 19, 180, 0, 121, 27, 5, 182, 0, 155, 62, 42, 29, 2, 160, 0, 8] := by decide +kernel
theorem dX11_place_98 : decode cX11_place 98 = .ok (.invokevirtual 130, 3) := dz2 dzo182 0 0 130 dzbX11_place_98 rfl
theorem dX11_place_101 : decode cX11_place 101 = .ok (.ireturn, 1) := dz0 dzo172 3 dzbX11_place_98 rfl
theorem dX11_place_102 : decode cX11_place 102 = .ok (.aload_n 0, 1) := dz0 dzo42 4 dzbX11_place_98 rfl
theorem dX11_place_103 : decode cX11_place 103 = .ok (.getfield 19, 3) := dz2 dzo180 5 0 19 dzbX11_place_98 rfl
theorem dX11_place_106 : decode cX11_place 106 = .ok (.getfield 121, 3) := dz2 dzo180 8 0 121 dzbX11_place_98 rfl
theorem dX11_place_109 : decode cX11_place 109 = .ok (.iload_n 1, 1) := dz0 dzo27 11 dzbX11_place_98 rfl
theorem dX11_place_110 : decode cX11_place 110 = .ok (.iconst 2, 1) := dz0 dzo5 12 dzbX11_place_98 rfl
theorem dX11_place_111 : decode cX11_place 111 = .ok (.invokevirtual 155, 3) := dz2 dzo182 13 0 155 dzbX11_place_98 rfl
theorem dX11_place_114 : decode cX11_place 114 = .ok (.istore_n 3, 1) := dz0 dzo62 16 dzbX11_place_98 rfl
theorem dX11_place_115 : decode cX11_place 115 = .ok (.aload_n 0, 1) := dz0 dzo42 17 dzbX11_place_98 rfl
theorem dX11_place_116 : decode cX11_place 116 = .ok (.iload_n 3, 1) := dz0 dzo29 18 dzbX11_place_98 rfl
theorem dX11_place_117 : decode cX11_place 117 = .ok (.iconst (-1), 1) := dz0 dzo2 19 dzbX11_place_98 rfl
theorem dX11_place_118 : decode cX11_place 118 = .ok (.if_icmp .ne 8, 3) := dz4 dzo160 20 0 8 8 rfl dzbX11_place_98 rfl
theorem dzbX11_place_121 : dzB cX11_place 121 [16, 254, 167, 0, 4, 29, 182, 0, 130, 172, 42, 4, 182, 0, 100, 172] := by decide +kernel
theorem dX11_place_121 : decode cX11_place 121 = .ok (.bipush (-2), 2) := dz3 dzo16 0 254 (-2) rfl dzbX11_place_121 rfl
theorem dX11_place_123 : decode cX11_place 123 = .ok (.goto 4, 3) := dz4 dzo167 2 0 4 4 rfl dzbX11_place_121 rfl
theorem dX11_place_126 : decode cX11_place 126 = .ok (.iload_n 3, 1) := dz0 dzo29 5 dzbX11_place_121 rfl
theorem dX11_place_127 : decode cX11_place 127 = .ok (.invokevirtual 130, 3) := dz2 dzo182 6 0 130 dzbX11_place_121 rfl
theorem dX11_place_130 : decode cX11_place 130 = .ok (.ireturn, 1) := dz0 dzo172 9 dzbX11_place_121 rfl
theorem dX11_place_131 : decode cX11_place 131 = .ok (.aload_n 0, 1) := dz0 dzo42 10 dzbX11_place_121 rfl
theorem dX11_place_132 : decode cX11_place 132 = .ok (.iconst 1, 1) := dz0 dzo4 11 dzbX11_place_121 rfl
theorem dX11_place_133 : decode cX11_place 133 = .ok (.invokevirtual 100, 3) := dz2 dzo182 12 0 100 dzbX11_place_121 rfl
theorem dX11_place_136 : decode cX11_place 136 = .ok (.ireturn, 1) := dz0 dzo172 15 dzbX11_place_121 rfl
theorem dzbX11_quick_0 : dzB cX11_quick 0 [42, 27, 182, 0, 159, 154, 0, 9, 42, 4, 182, 0, 100, 172, 42, 42, 42, 180, 0, 36, 27, 182, 0, 194] := by decide +kernel
theorem dX11_quick_0 : decode cX11_quick 0 = .ok (.aload_n 0, 1) := dz0 dzo42 0 dzbX11_quick_0 rfl
theorem dX11_quick_1 : decode cX11_quick 1 = .ok (.iload_n 1, 1) := dz0 dzo27 1 dzbX11_quick_0 rfl
theorem dX11_quick_2 : decode cX11_quick 2 = .ok (.invokevirtual 159, 3) := dz2 dzo182 2 0 159 dzbX11_quick_0 rfl
theorem dX11_quick_5 : decode cX11_quick 5 = .ok (.ifCond .ne 9, 3) := dz4 dzo154 5 0 9 9 rfl dzbX11_quick_0 rfl
theorem dX11_quick_8 : decode cX11_quick 8 = .ok (.aload_n 0, 1) := dz0 dzo42 8 dzbX11_quick_0 rfl
theorem dX11_quick_9 : decode cX11_quick 9 = .ok (.iconst 1, 1) := dz0 dzo4 9 dzbX11_quick_0 rfl
theorem dX11_quick_10 : decode cX11_quick 10 = .ok (.invokevirtual 100, 3) := dz2 dzo182 10 0 100 dzbX11_quick_0 rfl
theorem dX11_quick_13 : decode cX11_quick 13 = .ok (.ireturn, 1) := dz0 dzo172 13 dzbX11_quick_0 rfl
theorem dX11_quick_14 : decode cX11_quick 14 = .ok (.aload_n 0, 1) := dz0 dzo42 14 dzbX11_quick_0 rfl
theorem dX11_quick_15 : decode cX11_quick 15 = .ok (.aload_n 0, 1) := dz0 dzo42 15 dzbX11_quick_0 rfl
theorem dX11_quick_16 : decode cX11_quick 16 = .ok (.aload_n 0, 1) := dz0 dzo42 16 dzbX11_quick_0 rfl
theorem dX11_quick_17 : decode cX11_quick 17 = .ok (.getfield 36, 3) := dz2 dzo180 17 0 36 dzbX11_quick_0 rfl
theorem dX11_quick_20 : decode cX11_quick 20 = .ok (.iload_n 1, 1) := dz0 dzo27 20 dzbX11_quick_0 rfl
theorem dX11_quick_21 : decode cX11_quick 21 = .ok (.invokevirtual 194, 3) := dz2 dzo182 21 0 194 dzbX11_quick_0 rfl
theorem dzbX11_quick_24 : dzB cX11_quick 24 [153, 0, 13, 42, 180, 0, 36, 182, 0, 198, 167, 0, 5, 16, 254, 182, 0, 130, 172] := by decide +kernel
theorem dX11_quick_24 : decode cX11_quick 24 = .ok (.ifCond .eq 13, 3) := dz4 dzo153 0 0 13 13 rfl dzbX11_quick_24 rfl
theorem dX11_quick_27 : decode cX11_quick 27 = .ok (.aload_n 0, 1) := dz0 dzo42 3 dzbX11_quick_24 rfl
theorem dX11_quick_28 : decode cX11_quick 28 = .ok (.getfield 36, 3) := dz2 dzo180 4 0 36 dzbX11_quick_24 rfl
theorem dX11_quick_31 : decode cX11_quick 31 = .ok (.invokevirtual 198, 3) := dz2 dzo182 7 0 198 dzbX11_quick_24 rfl
theorem dX11_quick_34 : decode cX11_quick 34 = .ok (.goto 5, 3) := dz4 dzo167 10 0 5 5 rfl dzbX11_quick_24 rfl
theorem dX11_quick_37 : decode cX11_quick 37 = .ok (.bipush (-2), 2) := dz3 dzo16 13 254 (-2) rfl dzbX11_quick_24 rfl
theorem dX11_quick_39 : decode cX11_quick 39 = .ok (.invokevirtual 130, 3) := dz2 dzo182 15 0 130 dzbX11_quick_24 rfl
theorem dX11_quick_42 : decode cX11_quick 42 = .ok (.ireturn, 1) := dz0 dzo172 18 dzbX11_quick_24 rfl
theorem dzbX11_quickAt_0 : dzB cX11_quickAt 0 [42, 27, 182, 0, 159, 153, 0, 26, 42, 42, 180, 0, 36, 27, 182, 0, 194, 153, 0, 14, 42, 180, 0, 36] := by decide +kernel
theorem dX11_quickAt_0 : decode cX11_quickAt 0 = .ok (.aload_n 0, 1) := dz0 dzo42 0 dzbX11_quickAt_0 rfl
theorem dX11_quickAt_1 : decode cX11_quickAt 1 = .ok (.iload_n 1, 1) := dz0 dzo27 1 dzbX11_quickAt_0 rfl
theorem dX11_quickAt_2 : decode cX11_quickAt 2 = .ok (.invokevirtual 159, 3) := dz2 dzo182 2 0 159 dzbX11_quickAt_0 rfl
theorem dX11_quickAt_5 : decode cX11_quickAt 5 = .ok (.ifCond .eq 26, 3) := dz4 dzo153 5 0 26 26 rfl dzbX11_quickAt_0 rfl
theorem dX11_quickAt_8 : decode cX11_quickAt 8 = .ok (.aload_n 0, 1) := dz0 dzo42 8 dzbX11_quickAt_0 rfl
theorem dX11_quickAt_9 : decode cX11_quickAt 9 = .ok (.aload_n 0, 1) := dz0 dzo42 9 dzbX11_quickAt_0 rfl
theorem dX11_quickAt_10 : decode cX11_quickAt 10 = .ok (.getfield 36, 3) := dz2 dzo180 10 0 36 dzbX11_quickAt_0 rfl
theorem dX11_quickAt_13 : decode cX11_quickAt 13 = .ok (.iload_n 1, 1) := dz0 dzo27 13 dzbX11_quickAt_0 rfl
theorem dX11_quickAt_14 : decode cX11_quickAt 14 = .ok (.invokevirtual 194, 3) := dz2 dzo182 14 0 194 dzbX11_quickAt_0 rfl
theorem dX11_quickAt_17 : decode cX11_quickAt 17 = .ok (.ifCond .eq 14, 3) := dz4 dzo153 17 0 14 14 rfl dzbX11_quickAt_0 rfl
theorem dX11_quickAt_20 : decode cX11_quickAt 20 = .ok (.aload_n 0, 1) := dz0 dzo42 20 dzbX11_quickAt_0 rfl
theorem dX11_quickAt_21 : decode cX11_quickAt 21 = .ok (.getfield 36, 3) := dz2 dzo180 21 0 36 dzbX11_quickAt_0 rfl
theorem dzbX11_quickAt_24 : dzB cX11_quickAt 24 [28, 182, 0, 205, 154, 0, 9, 42, 4, 182, 0, 100, 172, 42, 42, 180, 0, 36, 180, 0, 208, 28, 46] := by decide +kernel
theorem dX11_quickAt_24 : decode cX11_quickAt 24 = .ok (.iload_n 2, 1) := dz0 dzo28 0 dzbX11_quickAt_24 rfl
theorem dX11_quickAt_25 : decode cX11_quickAt 25 = .ok (.invokevirtual 205, 3) := dz2 dzo182 1 0 205 dzbX11_quickAt_24 rfl
theorem dX11_quickAt_28 : decode cX11_quickAt 28 = .ok (.ifCond .ne 9, 3) := dz4 dzo154 4 0 9 9 rfl dzbX11_quickAt_24 rfl
theorem dX11_quickAt_31 : decode cX11_quickAt 31 = .ok (.aload_n 0, 1) := dz0 dzo42 7 dzbX11_quickAt_24 rfl
theorem dX11_quickAt_32 : decode cX11_quickAt 32 = .ok (.iconst 1, 1) := dz0 dzo4 8 dzbX11_quickAt_24 rfl
theorem dX11_quickAt_33 : decode cX11_quickAt 33 = .ok (.invokevirtual 100, 3) := dz2 dzo182 9 0 100 dzbX11_quickAt_24 rfl
theorem dX11_quickAt_36 : decode cX11_quickAt 36 = .ok (.ireturn, 1) := dz0 dzo172 12 dzbX11_quickAt_24 rfl
theorem dX11_quickAt_37 : decode cX11_quickAt 37 = .ok (.aload_n 0, 1) := dz0 dzo42 13 dzbX11_quickAt_24 rfl
theorem dX11_quickAt_38 : decode cX11_quickAt 38 = .ok (.aload_n 0, 1) := dz0 dzo42 14 dzbX11_quickAt_24 rfl
theorem dX11_quickAt_39 : decode cX11_quickAt 39 = .ok (.getfield 36, 3) := dz2 dzo180 15 0 36 dzbX11_quickAt_24 rfl
theorem dX11_quickAt_42 : decode cX11_quickAt 42 = .ok (.getfield 208, 3) := dz2 dzo180 18 0 208 dzbX11_quickAt_24 rfl
theorem dX11_quickAt_45 : decode cX11_quickAt 45 = .ok (.iload_n 2, 1) := dz0 dzo28 21 dzbX11_quickAt_24 rfl
theorem dX11_quickAt_46 : decode cX11_quickAt 46 = .ok (.iaload, 1) := dz0 dzo46 22 dzbX11_quickAt_24 rfl
theorem dzbX11_quickAt_47 : dzB cX11_quickAt 47 [182, 0, 130, 172] := by decide +kernel
theorem dX11_quickAt_47 : decode cX11_quickAt 47 = .ok (.invokevirtual 130, 3) := dz2 dzo182 0 0 130 dzbX11_quickAt_47 rfl
theorem dX11_quickAt_50 : decode cX11_quickAt 50 = .ok (.ireturn, 1) := dz0 dzo172 3 dzbX11_quickAt_47 rfl
theorem dzbX11_quickFalls_0 : dzB cX11_quickFalls 0 [42, 27, 182, 0, 159, 154, 0, 9, 42, 4, 182, 0, 100, 172, 42, 42, 42, 180, 0, 36, 27, 182, 0, 194] := by decide +kernel
theorem dX11_quickFalls_0 : decode cX11_quickFalls 0 = .ok (.aload_n 0, 1) := dz0 dzo42 0 dzbX11_quickFalls_0 rfl
theorem dX11_quickFalls_1 : decode cX11_quickFalls 1 = .ok (.iload_n 1, 1) := dz0 dzo27 1 dzbX11_quickFalls_0 rfl
theorem dX11_quickFalls_2 : decode cX11_quickFalls 2 = .ok (.invokevirtual 159, 3) := dz2 dzo182 2 0 159 dzbX11_quickFalls_0 rfl
theorem dX11_quickFalls_5 : decode cX11_quickFalls 5 = .ok (.ifCond .ne 9, 3) := dz4 dzo154 5 0 9 9 rfl dzbX11_quickFalls_0 rfl
theorem dX11_quickFalls_8 : decode cX11_quickFalls 8 = .ok (.aload_n 0, 1) := dz0 dzo42 8 dzbX11_quickFalls_0 rfl
theorem dX11_quickFalls_9 : decode cX11_quickFalls 9 = .ok (.iconst 1, 1) := dz0 dzo4 9 dzbX11_quickFalls_0 rfl
theorem dX11_quickFalls_10 : decode cX11_quickFalls 10 = .ok (.invokevirtual 100, 3) := dz2 dzo182 10 0 100 dzbX11_quickFalls_0 rfl
theorem dX11_quickFalls_13 : decode cX11_quickFalls 13 = .ok (.ireturn, 1) := dz0 dzo172 13 dzbX11_quickFalls_0 rfl
theorem dX11_quickFalls_14 : decode cX11_quickFalls 14 = .ok (.aload_n 0, 1) := dz0 dzo42 14 dzbX11_quickFalls_0 rfl
theorem dX11_quickFalls_15 : decode cX11_quickFalls 15 = .ok (.aload_n 0, 1) := dz0 dzo42 15 dzbX11_quickFalls_0 rfl
theorem dX11_quickFalls_16 : decode cX11_quickFalls 16 = .ok (.aload_n 0, 1) := dz0 dzo42 16 dzbX11_quickFalls_0 rfl
theorem dX11_quickFalls_17 : decode cX11_quickFalls 17 = .ok (.getfield 36, 3) := dz2 dzo180 17 0 36 dzbX11_quickFalls_0 rfl
theorem dX11_quickFalls_20 : decode cX11_quickFalls 20 = .ok (.iload_n 1, 1) := dz0 dzo27 20 dzbX11_quickFalls_0 rfl
theorem dX11_quickFalls_21 : decode cX11_quickFalls 21 = .ok (.invokevirtual 194, 3) := dz2 dzo182 21 0 194 dzbX11_quickFalls_0 rfl
theorem dzbX11_quickFalls_24 : dzB cX11_quickFalls 24 [153, 0, 13, 42, 180, 0, 36, 180, 0, 202, 167, 0, 5, 16, 254, 182, 0, 130, 172] := by decide +kernel
theorem dX11_quickFalls_24 : decode cX11_quickFalls 24 = .ok (.ifCond .eq 13, 3) := dz4 dzo153 0 0 13 13 rfl dzbX11_quickFalls_24 rfl
theorem dX11_quickFalls_27 : decode cX11_quickFalls 27 = .ok (.aload_n 0, 1) := dz0 dzo42 3 dzbX11_quickFalls_24 rfl
theorem dX11_quickFalls_28 : decode cX11_quickFalls 28 = .ok (.getfield 36, 3) := dz2 dzo180 4 0 36 dzbX11_quickFalls_24 rfl
theorem dX11_quickFalls_31 : decode cX11_quickFalls 31 = .ok (.getfield 202, 3) := dz2 dzo180 7 0 202 dzbX11_quickFalls_24 rfl
theorem dX11_quickFalls_34 : decode cX11_quickFalls 34 = .ok (.goto 5, 3) := dz4 dzo167 10 0 5 5 rfl dzbX11_quickFalls_24 rfl
theorem dX11_quickFalls_37 : decode cX11_quickFalls 37 = .ok (.bipush (-2), 2) := dz3 dzo16 13 254 (-2) rfl dzbX11_quickFalls_24 rfl
theorem dX11_quickFalls_39 : decode cX11_quickFalls 39 = .ok (.invokevirtual 130, 3) := dz2 dzo182 15 0 130 dzbX11_quickFalls_24 rfl
theorem dX11_quickFalls_42 : decode cX11_quickFalls 42 = .ok (.ireturn, 1) := dz0 dzo172 18 dzbX11_quickFalls_24 rfl
theorem dzbX11_ramble_0 : dzB cX11_ramble 0 [42, 27, 28, 29, 182, 1, 82, 54, 4, 21, 4, 153, 0, 10, 42, 21, 4, 182, 0, 100, 172, 42, 27, 28] := by decide +kernel
theorem dX11_ramble_0 : decode cX11_ramble 0 = .ok (.aload_n 0, 1) := dz0 dzo42 0 dzbX11_ramble_0 rfl
theorem dX11_ramble_1 : decode cX11_ramble 1 = .ok (.iload_n 1, 1) := dz0 dzo27 1 dzbX11_ramble_0 rfl
theorem dX11_ramble_2 : decode cX11_ramble 2 = .ok (.iload_n 2, 1) := dz0 dzo28 2 dzbX11_ramble_0 rfl
theorem dX11_ramble_3 : decode cX11_ramble 3 = .ok (.iload_n 3, 1) := dz0 dzo29 3 dzbX11_ramble_0 rfl
theorem dX11_ramble_4 : decode cX11_ramble 4 = .ok (.invokevirtual 338, 3) := dz2 dzo182 4 1 82 dzbX11_ramble_0 rfl
theorem dX11_ramble_7 : decode cX11_ramble 7 = .ok (.istore 4, 2) := dz1 dzo54 7 4 dzbX11_ramble_0 rfl
theorem dX11_ramble_9 : decode cX11_ramble 9 = .ok (.iload 4, 2) := dz1 dzo21 9 4 dzbX11_ramble_0 rfl
theorem dX11_ramble_11 : decode cX11_ramble 11 = .ok (.ifCond .eq 10, 3) := dz4 dzo153 11 0 10 10 rfl dzbX11_ramble_0 rfl
theorem dX11_ramble_14 : decode cX11_ramble 14 = .ok (.aload_n 0, 1) := dz0 dzo42 14 dzbX11_ramble_0 rfl
theorem dX11_ramble_15 : decode cX11_ramble 15 = .ok (.iload 4, 2) := dz1 dzo21 15 4 dzbX11_ramble_0 rfl
theorem dX11_ramble_17 : decode cX11_ramble 17 = .ok (.invokevirtual 100, 3) := dz2 dzo182 17 0 100 dzbX11_ramble_0 rfl
theorem dX11_ramble_20 : decode cX11_ramble 20 = .ok (.ireturn, 1) := dz0 dzo172 20 dzbX11_ramble_0 rfl
theorem dX11_ramble_21 : decode cX11_ramble 21 = .ok (.aload_n 0, 1) := dz0 dzo42 21 dzbX11_ramble_0 rfl
theorem dX11_ramble_22 : decode cX11_ramble 22 = .ok (.iload_n 1, 1) := dz0 dzo27 22 dzbX11_ramble_0 rfl
theorem dX11_ramble_23 : decode cX11_ramble 23 = .ok (.iload_n 2, 1) := dz0 dzo28 23 dzbX11_ramble_0 rfl
theorem dzbX11_ramble_24 : dzB cX11_ramble 24 [29, 182, 1, 85, 87, 42, 42, 180, 0, 23, 180, 0, 166, 27, 46, 182, 0, 130, 172] := by decide +kernel
theorem dX11_ramble_24 : decode cX11_ramble 24 = .ok (.iload_n 3, 1) := dz0 dzo29 0 dzbX11_ramble_24 rfl
theorem dX11_ramble_25 : decode cX11_ramble 25 = .ok (.invokevirtual 341, 3) := dz2 dzo182 1 1 85 dzbX11_ramble_24 rfl
theorem dX11_ramble_28 : decode cX11_ramble 28 = .ok (.pop, 1) := dz0 dzo87 4 dzbX11_ramble_24 rfl
theorem dX11_ramble_29 : decode cX11_ramble 29 = .ok (.aload_n 0, 1) := dz0 dzo42 5 dzbX11_ramble_24 rfl
theorem dX11_ramble_30 : decode cX11_ramble 30 = .ok (.aload_n 0, 1) := dz0 dzo42 6 dzbX11_ramble_24 rfl
theorem dX11_ramble_31 : decode cX11_ramble 31 = .ok (.getfield 23, 3) := dz2 dzo180 7 0 23 dzbX11_ramble_24 rfl
theorem dX11_ramble_34 : decode cX11_ramble 34 = .ok (.getfield 166, 3) := dz2 dzo180 10 0 166 dzbX11_ramble_24 rfl
theorem dX11_ramble_37 : decode cX11_ramble 37 = .ok (.iload_n 1, 1) := dz0 dzo27 13 dzbX11_ramble_24 rfl
theorem dX11_ramble_38 : decode cX11_ramble 38 = .ok (.iaload, 1) := dz0 dzo46 14 dzbX11_ramble_24 rfl
theorem dX11_ramble_39 : decode cX11_ramble 39 = .ok (.invokevirtual 130, 3) := dz2 dzo182 15 0 130 dzbX11_ramble_24 rfl
theorem dX11_ramble_42 : decode cX11_ramble 42 = .ok (.ireturn, 1) := dz0 dzo172 18 dzbX11_ramble_24 rfl
theorem dzbX11_rambleFalls_0 : dzB cX11_rambleFalls 0 [42, 27, 28, 29, 182, 1, 82, 54, 4, 21, 4, 153, 0, 10, 42, 21, 4, 182, 0, 100, 172, 42, 27, 28] := by decide +kernel
theorem dX11_rambleFalls_0 : decode cX11_rambleFalls 0 = .ok (.aload_n 0, 1) := dz0 dzo42 0 dzbX11_rambleFalls_0 rfl
theorem dX11_rambleFalls_1 : decode cX11_rambleFalls 1 = .ok (.iload_n 1, 1) := dz0 dzo27 1 dzbX11_rambleFalls_0 rfl
theorem dX11_rambleFalls_2 : decode cX11_rambleFalls 2 = .ok (.iload_n 2, 1) := dz0 dzo28 2 dzbX11_rambleFalls_0 rfl
theorem dX11_rambleFalls_3 : decode cX11_rambleFalls 3 = .ok (.iload_n 3, 1) := dz0 dzo29 3 dzbX11_rambleFalls_0 rfl
theorem dX11_rambleFalls_4 : decode cX11_rambleFalls 4 = .ok (.invokevirtual 338, 3) := dz2 dzo182 4 1 82 dzbX11_rambleFalls_0 rfl
theorem dX11_rambleFalls_7 : decode cX11_rambleFalls 7 = .ok (.istore 4, 2) := dz1 dzo54 7 4 dzbX11_rambleFalls_0 rfl
theorem dX11_rambleFalls_9 : decode cX11_rambleFalls 9 = .ok (.iload 4, 2) := dz1 dzo21 9 4 dzbX11_rambleFalls_0 rfl
theorem dX11_rambleFalls_11 : decode cX11_rambleFalls 11 = .ok (.ifCond .eq 10, 3) := dz4 dzo153 11 0 10 10 rfl dzbX11_rambleFalls_0 rfl
theorem dX11_rambleFalls_14 : decode cX11_rambleFalls 14 = .ok (.aload_n 0, 1) := dz0 dzo42 14 dzbX11_rambleFalls_0 rfl
theorem dX11_rambleFalls_15 : decode cX11_rambleFalls 15 = .ok (.iload 4, 2) := dz1 dzo21 15 4 dzbX11_rambleFalls_0 rfl
theorem dX11_rambleFalls_17 : decode cX11_rambleFalls 17 = .ok (.invokevirtual 100, 3) := dz2 dzo182 17 0 100 dzbX11_rambleFalls_0 rfl
theorem dX11_rambleFalls_20 : decode cX11_rambleFalls 20 = .ok (.ireturn, 1) := dz0 dzo172 20 dzbX11_rambleFalls_0 rfl
theorem dX11_rambleFalls_21 : decode cX11_rambleFalls 21 = .ok (.aload_n 0, 1) := dz0 dzo42 21 dzbX11_rambleFalls_0 rfl
theorem dX11_rambleFalls_22 : decode cX11_rambleFalls 22 = .ok (.iload_n 1, 1) := dz0 dzo27 22 dzbX11_rambleFalls_0 rfl
theorem dX11_rambleFalls_23 : decode cX11_rambleFalls 23 = .ok (.iload_n 2, 1) := dz0 dzo28 23 dzbX11_rambleFalls_0 rfl
theorem dzbX11_rambleFalls_24 : dzB cX11_rambleFalls 24 [29, 182, 1, 85, 87, 42, 42, 180, 0, 23, 180, 0, 172, 27, 46, 42, 180, 0, 19, 180, 0, 172, 27, 46] := by decide +kernel
theorem dX11_rambleFalls_24 : decode cX11_rambleFalls 24 = .ok (.iload_n 3, 1) := dz0 dzo29 0 dzbX11_rambleFalls_24 rfl
theorem dX11_rambleFalls_25 : decode cX11_rambleFalls 25 = .ok (.invokevirtual 341, 3) := dz2 dzo182 1 1 85 dzbX11_rambleFalls_24 rfl
theorem dX11_rambleFalls_28 : decode cX11_rambleFalls 28 = .ok (.pop, 1) := dz0 dzo87 4 dzbX11_rambleFalls_24 rfl
theorem dX11_rambleFalls_29 : decode cX11_rambleFalls 29 = .ok (.aload_n 0, 1) := dz0 dzo42 5 dzbX11_rambleFalls_24 rfl
theorem dX11_rambleFalls_30 : decode cX11_rambleFalls 30 = .ok (.aload_n 0, 1) := dz0 dzo42 6 dzbX11_rambleFalls_24 rfl
theorem dX11_rambleFalls_31 : decode cX11_rambleFalls 31 = .ok (.getfield 23, 3) := dz2 dzo180 7 0 23 dzbX11_rambleFalls_24 rfl
theorem dX11_rambleFalls_34 : decode cX11_rambleFalls 34 = .ok (.getfield 172, 3) := dz2 dzo180 10 0 172 dzbX11_rambleFalls_24 rfl
theorem dX11_rambleFalls_37 : decode cX11_rambleFalls 37 = .ok (.iload_n 1, 1) := dz0 dzo27 13 dzbX11_rambleFalls_24 rfl
theorem dX11_rambleFalls_38 : decode cX11_rambleFalls 38 = .ok (.iaload, 1) := dz0 dzo46 14 dzbX11_rambleFalls_24 rfl
theorem dX11_rambleFalls_39 : decode cX11_rambleFalls 39 = .ok (.aload_n 0, 1) := dz0 dzo42 15 dzbX11_rambleFalls_24 rfl
theorem dX11_rambleFalls_40 : decode cX11_rambleFalls 40 = .ok (.getfield 19, 3) := dz2 dzo180 16 0 19 dzbX11_rambleFalls_24 rfl
theorem dX11_rambleFalls_43 : decode cX11_rambleFalls 43 = .ok (.getfield 172, 3) := dz2 dzo180 19 0 172 dzbX11_rambleFalls_24 rfl
theorem dX11_rambleFalls_46 : decode cX11_rambleFalls 46 = .ok (.iload_n 1, 1) := dz0 dzo27 22 dzbX11_rambleFalls_24 rfl
theorem dX11_rambleFalls_47 : decode cX11_rambleFalls 47 = .ok (.iaload, 1) := dz0 dzo46 23 dzbX11_rambleFalls_24 rfl
theorem dzbX11_rambleFalls_48 : dzB cX11_rambleFalls 48 [100, 182, 0, 130, 172] := by decide +kernel
theorem dX11_rambleFalls_48 : decode cX11_rambleFalls 48 = .ok (.isub, 1) := dz0 dzo100 0 dzbX11_rambleFalls_48 rfl
theorem dX11_rambleFalls_49 : decode cX11_rambleFalls 49 = .ok (.invokevirtual 130, 3) := dz2 dzo182 1 0 130 dzbX11_rambleFalls_48 rfl
theorem dX11_rambleFalls_52 : decode cX11_rambleFalls 52 = .ok (.ireturn, 1) := dz0 dzo172 4 dzbX11_rambleFalls_48 rfl
theorem dzbX11_reach_0 : dzB cX11_reach 0 [42, 27, 182, 0, 159, 154, 0, 9, 42, 4, 182, 0, 100, 172, 42, 180, 0, 46, 42, 180, 0, 19] := by decide +kernel
theorem dX11_reach_0 : decode cX11_reach 0 = .ok (.aload_n 0, 1) := dz0 dzo42 0 dzbX11_reach_0 rfl
theorem dX11_reach_1 : decode cX11_reach 1 = .ok (.iload_n 1, 1) := dz0 dzo27 1 dzbX11_reach_0 rfl
theorem dX11_reach_2 : decode cX11_reach 2 = .ok (.invokevirtual 159, 3) := dz2 dzo182 2 0 159 dzbX11_reach_0 rfl
theorem dX11_reach_5 : decode cX11_reach 5 = .ok (.ifCond .ne 9, 3) := dz4 dzo154 5 0 9 9 rfl dzbX11_reach_0 rfl
theorem dX11_reach_8 : decode cX11_reach 8 = .ok (.aload_n 0, 1) := dz0 dzo42 8 dzbX11_reach_0 rfl
theorem dX11_reach_9 : decode cX11_reach 9 = .ok (.iconst 1, 1) := dz0 dzo4 9 dzbX11_reach_0 rfl
theorem dX11_reach_10 : decode cX11_reach 10 = .ok (.invokevirtual 100, 3) := dz2 dzo182 10 0 100 dzbX11_reach_0 rfl
theorem dX11_reach_13 : decode cX11_reach 13 = .ok (.ireturn, 1) := dz0 dzo172 13 dzbX11_reach_0 rfl
theorem dX11_reach_14 : decode cX11_reach 14 = .ok (.aload_n 0, 1) := dz0 dzo42 14 dzbX11_reach_0 rfl
theorem dX11_reach_15 : decode cX11_reach 15 = .ok (.getfield 46, 3) := dz2 dzo180 15 0 46 dzbX11_reach_0 rfl
theorem dX11_reach_18 : decode cX11_reach 18 = .ok (.aload_n 0, 1) := dz0 dzo42 18 dzbX11_reach_0 rfl
theorem dX11_reach_19 : decode cX11_reach 19 = .ok (.getfield 19, 3) := dz2 dzo180 19 0 19 dzbX11_reach_0 rfl
theorem dzbX11_reach_22 : dzB cX11_reach 22 [180, 0, 121, 42, 180, 0, 81, 180, 0, 162, 27, 46, 4, 182, 0, 214, 42, 42, 180, 0, 46, 42] := by decide +kernel
theorem dX11_reach_22 : decode cX11_reach 22 = .ok (.getfield 121, 3) := dz2 dzo180 0 0 121 dzbX11_reach_22 rfl
theorem dX11_reach_25 : decode cX11_reach 25 = .ok (.aload_n 0, 1) := dz0 dzo42 3 dzbX11_reach_22 rfl
theorem dX11_reach_26 : decode cX11_reach 26 = .ok (.getfield 81, 3) := dz2 dzo180 4 0 81 dzbX11_reach_22 rfl
theorem dX11_reach_29 : decode cX11_reach 29 = .ok (.getfield 162, 3) := dz2 dzo180 7 0 162 dzbX11_reach_22 rfl
theorem dX11_reach_32 : decode cX11_reach 32 = .ok (.iload_n 1, 1) := dz0 dzo27 10 dzbX11_reach_22 rfl
theorem dX11_reach_33 : decode cX11_reach 33 = .ok (.iaload, 1) := dz0 dzo46 11 dzbX11_reach_22 rfl
theorem dX11_reach_34 : decode cX11_reach 34 = .ok (.iconst 1, 1) := dz0 dzo4 12 dzbX11_reach_22 rfl
theorem dX11_reach_35 : decode cX11_reach 35 = .ok (.invokevirtual 214, 3) := dz2 dzo182 13 0 214 dzbX11_reach_22 rfl
theorem dX11_reach_38 : decode cX11_reach 38 = .ok (.aload_n 0, 1) := dz0 dzo42 16 dzbX11_reach_22 rfl
theorem dX11_reach_39 : decode cX11_reach 39 = .ok (.aload_n 0, 1) := dz0 dzo42 17 dzbX11_reach_22 rfl
theorem dX11_reach_40 : decode cX11_reach 40 = .ok (.getfield 46, 3) := dz2 dzo180 18 0 46 dzbX11_reach_22 rfl
theorem dX11_reach_43 : decode cX11_reach 43 = .ok (.aload_n 0, 1) := dz0 dzo42 21 dzbX11_reach_22 rfl
theorem dzbX11_reach_44 : dzB cX11_reach 44 [180, 0, 19, 180, 0, 166, 27, 46, 42, 180, 0, 19, 180, 0, 121, 4, 182, 0, 191, 3, 182, 0, 217] := by decide +kernel
theorem dX11_reach_44 : decode cX11_reach 44 = .ok (.getfield 19, 3) := dz2 dzo180 0 0 19 dzbX11_reach_44 rfl
theorem dX11_reach_47 : decode cX11_reach 47 = .ok (.getfield 166, 3) := dz2 dzo180 3 0 166 dzbX11_reach_44 rfl
theorem dX11_reach_50 : decode cX11_reach 50 = .ok (.iload_n 1, 1) := dz0 dzo27 6 dzbX11_reach_44 rfl
theorem dX11_reach_51 : decode cX11_reach 51 = .ok (.iaload, 1) := dz0 dzo46 7 dzbX11_reach_44 rfl
theorem dX11_reach_52 : decode cX11_reach 52 = .ok (.aload_n 0, 1) := dz0 dzo42 8 dzbX11_reach_44 rfl
theorem dX11_reach_53 : decode cX11_reach 53 = .ok (.getfield 19, 3) := dz2 dzo180 9 0 19 dzbX11_reach_44 rfl
theorem dX11_reach_56 : decode cX11_reach 56 = .ok (.getfield 121, 3) := dz2 dzo180 12 0 121 dzbX11_reach_44 rfl
theorem dX11_reach_59 : decode cX11_reach 59 = .ok (.iconst 1, 1) := dz0 dzo4 15 dzbX11_reach_44 rfl
theorem dX11_reach_60 : decode cX11_reach 60 = .ok (.invokevirtual 191, 3) := dz2 dzo182 16 0 191 dzbX11_reach_44 rfl
theorem dX11_reach_63 : decode cX11_reach 63 = .ok (.iconst 0, 1) := dz0 dzo3 19 dzbX11_reach_44 rfl
theorem dX11_reach_64 : decode cX11_reach 64 = .ok (.invokevirtual 217, 3) := dz2 dzo182 20 0 217 dzbX11_reach_44 rfl
theorem dzbX11_reach_67 : dzB cX11_reach 67 [182, 0, 130, 172] := by decide +kernel
theorem dX11_reach_67 : decode cX11_reach 67 = .ok (.invokevirtual 130, 3) := dz2 dzo182 0 0 130 dzbX11_reach_67 rfl
theorem dX11_reach_70 : decode cX11_reach 70 = .ok (.ireturn, 1) := dz0 dzo172 3 dzbX11_reach_67 rfl
theorem dzbX11_reachIn_0 : dzB cX11_reachIn 0 [42, 27, 182, 0, 159, 154, 0, 9, 42, 4, 182, 0, 100, 172, 28, 155, 0, 9, 28, 16, 99, 164, 0, 9] := by decide +kernel
theorem dX11_reachIn_0 : decode cX11_reachIn 0 = .ok (.aload_n 0, 1) := dz0 dzo42 0 dzbX11_reachIn_0 rfl
theorem dX11_reachIn_1 : decode cX11_reachIn 1 = .ok (.iload_n 1, 1) := dz0 dzo27 1 dzbX11_reachIn_0 rfl
theorem dX11_reachIn_2 : decode cX11_reachIn 2 = .ok (.invokevirtual 159, 3) := dz2 dzo182 2 0 159 dzbX11_reachIn_0 rfl
theorem dX11_reachIn_5 : decode cX11_reachIn 5 = .ok (.ifCond .ne 9, 3) := dz4 dzo154 5 0 9 9 rfl dzbX11_reachIn_0 rfl
theorem dX11_reachIn_8 : decode cX11_reachIn 8 = .ok (.aload_n 0, 1) := dz0 dzo42 8 dzbX11_reachIn_0 rfl
theorem dX11_reachIn_9 : decode cX11_reachIn 9 = .ok (.iconst 1, 1) := dz0 dzo4 9 dzbX11_reachIn_0 rfl
theorem dX11_reachIn_10 : decode cX11_reachIn 10 = .ok (.invokevirtual 100, 3) := dz2 dzo182 10 0 100 dzbX11_reachIn_0 rfl
theorem dX11_reachIn_13 : decode cX11_reachIn 13 = .ok (.ireturn, 1) := dz0 dzo172 13 dzbX11_reachIn_0 rfl
theorem dX11_reachIn_14 : decode cX11_reachIn 14 = .ok (.iload_n 2, 1) := dz0 dzo28 14 dzbX11_reachIn_0 rfl
theorem dX11_reachIn_15 : decode cX11_reachIn 15 = .ok (.ifCond .lt 9, 3) := dz4 dzo155 15 0 9 9 rfl dzbX11_reachIn_0 rfl
theorem dX11_reachIn_18 : decode cX11_reachIn 18 = .ok (.iload_n 2, 1) := dz0 dzo28 18 dzbX11_reachIn_0 rfl
theorem dX11_reachIn_19 : decode cX11_reachIn 19 = .ok (.bipush 99, 2) := dz3 dzo16 19 99 99 rfl dzbX11_reachIn_0 rfl
theorem dX11_reachIn_21 : decode cX11_reachIn 21 = .ok (.if_icmp .le 9, 3) := dz4 dzo164 21 0 9 9 rfl dzbX11_reachIn_0 rfl
theorem dzbX11_reachIn_24 : dzB cX11_reachIn 24 [42, 5, 182, 0, 100, 172, 3, 62, 3, 54, 4, 21, 4, 42, 180, 0, 19, 180, 0, 121, 180, 0, 125] := by decide +kernel
theorem dX11_reachIn_24 : decode cX11_reachIn 24 = .ok (.aload_n 0, 1) := dz0 dzo42 0 dzbX11_reachIn_24 rfl
theorem dX11_reachIn_25 : decode cX11_reachIn 25 = .ok (.iconst 2, 1) := dz0 dzo5 1 dzbX11_reachIn_24 rfl
theorem dX11_reachIn_26 : decode cX11_reachIn 26 = .ok (.invokevirtual 100, 3) := dz2 dzo182 2 0 100 dzbX11_reachIn_24 rfl
theorem dX11_reachIn_29 : decode cX11_reachIn 29 = .ok (.ireturn, 1) := dz0 dzo172 5 dzbX11_reachIn_24 rfl
theorem dX11_reachIn_30 : decode cX11_reachIn 30 = .ok (.iconst 0, 1) := dz0 dzo3 6 dzbX11_reachIn_24 rfl
theorem dX11_reachIn_31 : decode cX11_reachIn 31 = .ok (.istore_n 3, 1) := dz0 dzo62 7 dzbX11_reachIn_24 rfl
theorem dX11_reachIn_32 : decode cX11_reachIn 32 = .ok (.iconst 0, 1) := dz0 dzo3 8 dzbX11_reachIn_24 rfl
theorem dX11_reachIn_33 : decode cX11_reachIn 33 = .ok (.istore 4, 2) := dz1 dzo54 9 4 dzbX11_reachIn_24 rfl
theorem dX11_reachIn_35 : decode cX11_reachIn 35 = .ok (.iload 4, 2) := dz1 dzo21 11 4 dzbX11_reachIn_24 rfl
theorem dX11_reachIn_37 : decode cX11_reachIn 37 = .ok (.aload_n 0, 1) := dz0 dzo42 13 dzbX11_reachIn_24 rfl
theorem dX11_reachIn_38 : decode cX11_reachIn 38 = .ok (.getfield 19, 3) := dz2 dzo180 14 0 19 dzbX11_reachIn_24 rfl
theorem dX11_reachIn_41 : decode cX11_reachIn 41 = .ok (.getfield 121, 3) := dz2 dzo180 17 0 121 dzbX11_reachIn_24 rfl
theorem dX11_reachIn_44 : decode cX11_reachIn 44 = .ok (.getfield 125, 3) := dz2 dzo180 20 0 125 dzbX11_reachIn_24 rfl
theorem dzbX11_reachIn_47 : dzB cX11_reachIn 47 [162, 0, 38, 42, 27, 21, 4, 182, 0, 220, 54, 5, 21, 5, 16, 254, 159, 0, 16, 21, 5, 28] := by decide +kernel
theorem dX11_reachIn_47 : decode cX11_reachIn 47 = .ok (.if_icmp .ge 38, 3) := dz4 dzo162 0 0 38 38 rfl dzbX11_reachIn_47 rfl
theorem dX11_reachIn_50 : decode cX11_reachIn 50 = .ok (.aload_n 0, 1) := dz0 dzo42 3 dzbX11_reachIn_47 rfl
theorem dX11_reachIn_51 : decode cX11_reachIn 51 = .ok (.iload_n 1, 1) := dz0 dzo27 4 dzbX11_reachIn_47 rfl
theorem dX11_reachIn_52 : decode cX11_reachIn 52 = .ok (.iload 4, 2) := dz1 dzo21 5 4 dzbX11_reachIn_47 rfl
theorem dX11_reachIn_54 : decode cX11_reachIn 54 = .ok (.invokevirtual 220, 3) := dz2 dzo182 7 0 220 dzbX11_reachIn_47 rfl
theorem dX11_reachIn_57 : decode cX11_reachIn 57 = .ok (.istore 5, 2) := dz1 dzo54 10 5 dzbX11_reachIn_47 rfl
theorem dX11_reachIn_59 : decode cX11_reachIn 59 = .ok (.iload 5, 2) := dz1 dzo21 12 5 dzbX11_reachIn_47 rfl
theorem dX11_reachIn_61 : decode cX11_reachIn 61 = .ok (.bipush (-2), 2) := dz3 dzo16 14 254 (-2) rfl dzbX11_reachIn_47 rfl
theorem dX11_reachIn_63 : decode cX11_reachIn 63 = .ok (.if_icmp .eq 16, 3) := dz4 dzo159 16 0 16 16 rfl dzbX11_reachIn_47 rfl
theorem dX11_reachIn_66 : decode cX11_reachIn 66 = .ok (.iload 5, 2) := dz1 dzo21 19 5 dzbX11_reachIn_47 rfl
theorem dX11_reachIn_68 : decode cX11_reachIn 68 = .ok (.iload_n 2, 1) := dz0 dzo28 21 dzbX11_reachIn_47 rfl
theorem dzbX11_reachIn_69 : dzB cX11_reachIn 69 [163, 0, 10, 29, 4, 21, 4, 120, 128, 62, 132, 4, 1, 167, 255, 209, 42, 29, 182, 0, 130, 172] := by decide +kernel
theorem dX11_reachIn_69 : decode cX11_reachIn 69 = .ok (.if_icmp .gt 10, 3) := dz4 dzo163 0 0 10 10 rfl dzbX11_reachIn_69 rfl
theorem dX11_reachIn_72 : decode cX11_reachIn 72 = .ok (.iload_n 3, 1) := dz0 dzo29 3 dzbX11_reachIn_69 rfl
theorem dX11_reachIn_73 : decode cX11_reachIn 73 = .ok (.iconst 1, 1) := dz0 dzo4 4 dzbX11_reachIn_69 rfl
theorem dX11_reachIn_74 : decode cX11_reachIn 74 = .ok (.iload 4, 2) := dz1 dzo21 5 4 dzbX11_reachIn_69 rfl
theorem dX11_reachIn_76 : decode cX11_reachIn 76 = .ok (.ishl, 1) := dz0 dzo120 7 dzbX11_reachIn_69 rfl
theorem dX11_reachIn_77 : decode cX11_reachIn 77 = .ok (.ior, 1) := dz0 dzo128 8 dzbX11_reachIn_69 rfl
theorem dX11_reachIn_78 : decode cX11_reachIn 78 = .ok (.istore_n 3, 1) := dz0 dzo62 9 dzbX11_reachIn_69 rfl
theorem dX11_reachIn_79 : decode cX11_reachIn 79 = .ok (.iinc 4 1, 3) := dz5 dzo132 10 4 1 1 rfl dzbX11_reachIn_69 rfl
theorem dX11_reachIn_82 : decode cX11_reachIn 82 = .ok (.goto (-47), 3) := dz4 dzo167 13 255 209 (-47) rfl dzbX11_reachIn_69 rfl
theorem dX11_reachIn_85 : decode cX11_reachIn 85 = .ok (.aload_n 0, 1) := dz0 dzo42 16 dzbX11_reachIn_69 rfl
theorem dX11_reachIn_86 : decode cX11_reachIn 86 = .ok (.iload_n 3, 1) := dz0 dzo29 17 dzbX11_reachIn_69 rfl
theorem dX11_reachIn_87 : decode cX11_reachIn 87 = .ok (.invokevirtual 130, 3) := dz2 dzo182 18 0 130 dzbX11_reachIn_69 rfl
theorem dX11_reachIn_90 : decode cX11_reachIn 90 = .ok (.ireturn, 1) := dz0 dzo172 21 dzbX11_reachIn_69 rfl
theorem dzbX11_refusalOfRamble_0 : dzB cX11_refusalOfRamble 0 [42, 27, 182, 0, 159, 154, 0, 5, 4, 172, 28, 155, 0, 24, 28, 19, 1, 117, 162, 0, 17, 29] := by decide +kernel
theorem dX11_refusalOfRamble_0 : decode cX11_refusalOfRamble 0 = .ok (.aload_n 0, 1) := dz0 dzo42 0 dzbX11_refusalOfRamble_0 rfl
theorem dX11_refusalOfRamble_1 : decode cX11_refusalOfRamble 1 = .ok (.iload_n 1, 1) := dz0 dzo27 1 dzbX11_refusalOfRamble_0 rfl
theorem dX11_refusalOfRamble_2 : decode cX11_refusalOfRamble 2 = .ok (.invokevirtual 159, 3) := dz2 dzo182 2 0 159 dzbX11_refusalOfRamble_0 rfl
theorem dX11_refusalOfRamble_5 : decode cX11_refusalOfRamble 5 = .ok (.ifCond .ne 5, 3) := dz4 dzo154 5 0 5 5 rfl dzbX11_refusalOfRamble_0 rfl
theorem dX11_refusalOfRamble_8 : decode cX11_refusalOfRamble 8 = .ok (.iconst 1, 1) := dz0 dzo4 8 dzbX11_refusalOfRamble_0 rfl
theorem dX11_refusalOfRamble_9 : decode cX11_refusalOfRamble 9 = .ok (.ireturn, 1) := dz0 dzo172 9 dzbX11_refusalOfRamble_0 rfl
theorem dX11_refusalOfRamble_10 : decode cX11_refusalOfRamble 10 = .ok (.iload_n 2, 1) := dz0 dzo28 10 dzbX11_refusalOfRamble_0 rfl
theorem dX11_refusalOfRamble_11 : decode cX11_refusalOfRamble 11 = .ok (.ifCond .lt 24, 3) := dz4 dzo155 11 0 24 24 rfl dzbX11_refusalOfRamble_0 rfl
theorem dX11_refusalOfRamble_14 : decode cX11_refusalOfRamble 14 = .ok (.iload_n 2, 1) := dz0 dzo28 14 dzbX11_refusalOfRamble_0 rfl
theorem dX11_refusalOfRamble_15 : decode cX11_refusalOfRamble 15 = .ok (.ldc_w 373, 3) := dz2 dzo19 15 1 117 dzbX11_refusalOfRamble_0 rfl
theorem dX11_refusalOfRamble_18 : decode cX11_refusalOfRamble 18 = .ok (.if_icmp .ge 17, 3) := dz4 dzo162 18 0 17 17 rfl dzbX11_refusalOfRamble_0 rfl
theorem dX11_refusalOfRamble_21 : decode cX11_refusalOfRamble 21 = .ok (.iload_n 3, 1) := dz0 dzo29 21 dzbX11_refusalOfRamble_0 rfl
theorem dzbX11_refusalOfRamble_22 : dzB cX11_refusalOfRamble 22 [155, 0, 13, 29, 16, 90, 163, 0, 7, 4, 167, 0, 4, 3, 54, 4, 21, 4, 153, 0, 7] := by decide +kernel
theorem dX11_refusalOfRamble_22 : decode cX11_refusalOfRamble 22 = .ok (.ifCond .lt 13, 3) := dz4 dzo155 0 0 13 13 rfl dzbX11_refusalOfRamble_22 rfl
theorem dX11_refusalOfRamble_25 : decode cX11_refusalOfRamble 25 = .ok (.iload_n 3, 1) := dz0 dzo29 3 dzbX11_refusalOfRamble_22 rfl
theorem dX11_refusalOfRamble_26 : decode cX11_refusalOfRamble 26 = .ok (.bipush 90, 2) := dz3 dzo16 4 90 90 rfl dzbX11_refusalOfRamble_22 rfl
theorem dX11_refusalOfRamble_28 : decode cX11_refusalOfRamble 28 = .ok (.if_icmp .gt 7, 3) := dz4 dzo163 6 0 7 7 rfl dzbX11_refusalOfRamble_22 rfl
theorem dX11_refusalOfRamble_31 : decode cX11_refusalOfRamble 31 = .ok (.iconst 1, 1) := dz0 dzo4 9 dzbX11_refusalOfRamble_22 rfl
theorem dX11_refusalOfRamble_32 : decode cX11_refusalOfRamble 32 = .ok (.goto 4, 3) := dz4 dzo167 10 0 4 4 rfl dzbX11_refusalOfRamble_22 rfl
theorem dX11_refusalOfRamble_35 : decode cX11_refusalOfRamble 35 = .ok (.iconst 0, 1) := dz0 dzo3 13 dzbX11_refusalOfRamble_22 rfl
theorem dX11_refusalOfRamble_36 : decode cX11_refusalOfRamble 36 = .ok (.istore 4, 2) := dz1 dzo54 14 4 dzbX11_refusalOfRamble_22 rfl
theorem dX11_refusalOfRamble_38 : decode cX11_refusalOfRamble 38 = .ok (.iload 4, 2) := dz1 dzo21 16 4 dzbX11_refusalOfRamble_22 rfl
theorem dX11_refusalOfRamble_40 : decode cX11_refusalOfRamble 40 = .ok (.ifCond .eq 7, 3) := dz4 dzo153 18 0 7 7 rfl dzbX11_refusalOfRamble_22 rfl
