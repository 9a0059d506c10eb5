theorem dX9_next_86 : decode cX9_next 86 = .ok (.ifCond .le 21, 3) := by decide +kernel
theorem dX9_next_89 : decode cX9_next 89 = .ok (.aload_n 0, 1) := by decide +kernel
theorem dX9_next_90 : decode cX9_next 90 = .ok (.iload_n 1, 1) := by decide +kernel
theorem dX9_next_91 : decode cX9_next 91 = .ok (.bipush 8, 2) := by decide +kernel
theorem dX9_next_93 : decode cX9_next 93 = .ok (.if_icmp .gt 7, 3) := by decide +kernel
theorem dX9_next_96 : decode cX9_next 96 = .ok (.iconst 1, 1) := by decide +kernel
theorem dX9_next_97 : decode cX9_next 97 = .ok (.goto 4, 3) := by decide +kernel
theorem dX9_next_100 : decode cX9_next 100 = .ok (.iconst 0, 1) := by decide +kernel
theorem dX9_next_101 : decode cX9_next 101 = .ok (.putfield 66, 3) := by decide +kernel
theorem dX9_next_104 : decode cX9_next 104 = .ok (.goto 57, 3) := by decide +kernel
theorem dX9_next_107 : decode cX9_next 107 = .ok (.iload_n 2, 1) := by decide +kernel
theorem dX9_next_108 : decode cX9_next 108 = .ok (.ifCond .le 20, 3) := by decide +kernel
theorem dX9_next_111 : decode cX9_next 111 = .ok (.aload_n 0, 1) := by decide +kernel
theorem dX9_next_112 : decode cX9_next 112 = .ok (.iload_n 2, 1) := by decide +kernel
theorem dX9_next_113 : decode cX9_next 113 = .ok (.iconst 3, 1) := by decide +kernel
theorem dX9_next_114 : decode cX9_next 114 = .ok (.if_icmp .gt 7, 3) := by decide +kernel
theorem dX9_next_117 : decode cX9_next 117 = .ok (.iconst 2, 1) := by decide +kernel
theorem dX9_next_118 : decode cX9_next 118 = .ok (.goto 4, 3) := by decide +kernel
theorem dX9_next_121 : decode cX9_next 121 = .ok (.iconst 0, 1) := by decide +kernel
theorem dX9_next_122 : decode cX9_next 122 = .ok (.putfield 66, 3) := by decide +kernel
theorem dX9_next_125 : decode cX9_next 125 = .ok (.goto 36, 3) := by decide +kernel
theorem dX9_next_128 : decode cX9_next 128 = .ok (.aload_n 0, 1) := by decide +kernel
theorem dX9_next_129 : decode cX9_next 129 = .ok (.aload_n 0, 1) := by decide +kernel
theorem dX9_next_130 : decode cX9_next 130 = .ok (.getfield 11, 3) := by decide +kernel
theorem dX9_next_133 : decode cX9_next 133 = .ok (.aload_n 0, 1) := by decide +kernel
theorem dX9_next_134 : decode cX9_next 134 = .ok (.getfield 119, 3) := by decide +kernel
theorem dX9_next_137 : decode cX9_next 137 = .ok (.baload, 1) := by decide +kernel
theorem dX9_next_138 : decode cX9_next 138 = .ok (.bipush 59, 2) := by decide +kernel
theorem dX9_next_140 : decode cX9_next 140 = .ok (.if_icmp .ne 7, 3) := by decide +kernel
theorem dX9_next_143 : decode cX9_next 143 = .ok (.iconst 3, 1) := by decide +kernel
theorem dX9_next_144 : decode cX9_next 144 = .ok (.goto 4, 3) := by decide +kernel
theorem dX9_next_147 : decode cX9_next 147 = .ok (.iconst 0, 1) := by decide +kernel
theorem dX9_next_148 : decode cX9_next 148 = .ok (.putfield 66, 3) := by decide +kernel
theorem dX9_next_151 : decode cX9_next 151 = .ok (.aload_n 0, 1) := by decide +kernel
theorem dX9_next_152 : decode cX9_next 152 = .ok (.aload_n 0, 1) := by decide +kernel
theorem dX9_next_153 : decode cX9_next 153 = .ok (.getfield 119, 3) := by decide +kernel
theorem dX9_next_156 : decode cX9_next 156 = .ok (.iconst 1, 1) := by decide +kernel
theorem dX9_next_157 : decode cX9_next 157 = .ok (.iadd, 1) := by decide +kernel
theorem dX9_next_158 : decode cX9_next 158 = .ok (.putfield 28, 3) := by decide +kernel
theorem dX9_next_161 : decode cX9_next 161 = .ok (.return_, 1) := by decide +kernel
theorem dX9_read_0 : decode cX9_read 0 = .ok (.aload_n 0, 1) := by decide +kernel
theorem dX9_read_1 : decode cX9_read 1 = .ok (.iload_n 1, 1) := by decide +kernel
theorem dX9_read_2 : decode cX9_read 2 = .ok (.aload_n 0, 1) := by decide +kernel
theorem dX9_read_3 : decode cX9_read 3 = .ok (.getfield 15, 3) := by decide +kernel
theorem dX9_read_6 : decode cX9_read 6 = .ok (.invokestatic 19, 3) := by decide +kernel
theorem dX9_read_9 : decode cX9_read 9 = .ok (.putfield 25, 3) := by decide +kernel
theorem dX9_read_12 : decode cX9_read 12 = .ok (.aload_n 0, 1) := by decide +kernel
theorem dX9_read_13 : decode cX9_read 13 = .ok (.iconst 0, 1) := by decide +kernel
theorem dX9_read_14 : decode cX9_read 14 = .ok (.putfield 15, 3) := by decide +kernel
theorem dX9_read_17 : decode cX9_read 17 = .ok (.aload_n 0, 1) := by decide +kernel
theorem dX9_read_18 : decode cX9_read 18 = .ok (.iconst 0, 1) := by decide +kernel
theorem dX9_read_19 : decode cX9_read 19 = .ok (.putfield 28, 3) := by decide +kernel
theorem dX9_read_22 : decode cX9_read 22 = .ok (.aload_n 0, 1) := by decide +kernel
theorem dX9_read_23 : decode cX9_read 23 = .ok (.iconst 0, 1) := by decide +kernel
theorem dX9_read_24 : decode cX9_read 24 = .ok (.putfield 31, 3) := by decide +kernel
theorem dX9_read_27 : decode cX9_read 27 = .ok (.aload_n 0, 1) := by decide +kernel
theorem dX9_read_28 : decode cX9_read 28 = .ok (.iconst (-1), 1) := by decide +kernel
theorem dX9_read_29 : decode cX9_read 29 = .ok (.putfield 34, 3) := by decide +kernel
theorem dX9_read_32 : decode cX9_read 32 = .ok (.aload_n 2, 1) := by decide +kernel
theorem dX9_read_33 : decode cX9_read 33 = .ok (.invokevirtual 37, 3) := by decide +kernel
theorem dX9_read_36 : decode cX9_read 36 = .ok (.aload_n 0, 1) := by decide +kernel
theorem dX9_read_37 : decode cX9_read 37 = .ok (.invokevirtual 42, 3) := by decide +kernel
theorem dX9_read_40 : decode cX9_read 40 = .ok (.iconst 0, 1) := by decide +kernel
theorem dX9_read_41 : decode cX9_read 41 = .ok (.istore_n 3, 1) := by decide +kernel
theorem dX9_read_42 : decode cX9_read 42 = .ok (.iload_n 3, 1) := by decide +kernel
theorem dX9_read_43 : decode cX9_read 43 = .ok (.sipush 800, 3) := by decide +kernel
theorem dX9_read_46 : decode cX9_read 46 = .ok (.if_icmp .gt 146, 3) := by decide +kernel
theorem dX9_read_49 : decode cX9_read 49 = .ok (.aload_n 0, 1) := by decide +kernel
theorem dX9_read_50 : decode cX9_read 50 = .ok (.invokevirtual 45, 3) := by decide +kernel
theorem dX9_read_53 : decode cX9_read 53 = .ok (.tableswitch 71 0 3 #[31, 41, 51, 61], 31) := by decide +kernel
theorem dX9_read_84 : decode cX9_read 84 = .ok (.aload_n 0, 1) := by decide +kernel
theorem dX9_read_85 : decode cX9_read 85 = .ok (.aload_n 2, 1) := by decide +kernel
theorem dX9_read_86 : decode cX9_read 86 = .ok (.invokevirtual 49, 3) := by decide +kernel
theorem dX9_read_89 : decode cX9_read 89 = .ok (.istore 4, 2) := by decide +kernel
theorem dX9_read_91 : decode cX9_read 91 = .ok (.goto 40, 3) := by decide +kernel
theorem dX9_read_94 : decode cX9_read 94 = .ok (.aload_n 0, 1) := by decide +kernel
theorem dX9_read_95 : decode cX9_read 95 = .ok (.aload_n 2, 1) := by decide +kernel
theorem dX9_read_96 : decode cX9_read 96 = .ok (.invokevirtual 53, 3) := by decide +kernel
theorem dX9_read_99 : decode cX9_read 99 = .ok (.istore 4, 2) := by decide +kernel
theorem dX9_read_101 : decode cX9_read 101 = .ok (.goto 30, 3) := by decide +kernel
theorem dX9_read_104 : decode cX9_read 104 = .ok (.aload_n 0, 1) := by decide +kernel
theorem dX9_read_105 : decode cX9_read 105 = .ok (.aload_n 2, 1) := by decide +kernel
theorem dX9_read_106 : decode cX9_read 106 = .ok (.invokevirtual 56, 3) := by decide +kernel
theorem dX9_read_109 : decode cX9_read 109 = .ok (.istore 4, 2) := by decide +kernel
theorem dX9_read_111 : decode cX9_read 111 = .ok (.goto 20, 3) := by decide +kernel
theorem dX9_read_114 : decode cX9_read 114 = .ok (.aload_n 0, 1) := by decide +kernel
theorem dX9_read_115 : decode cX9_read 115 = .ok (.aload_n 2, 1) := by decide +kernel
theorem dX9_read_116 : decode cX9_read 116 = .ok (.invokevirtual 59, 3) := by decide +kernel
theorem dX9_read_119 : decode cX9_read 119 = .ok (.istore 4, 2) := by decide +kernel
theorem dX9_read_121 : decode cX9_read 121 = .ok (.goto 10, 3) := by decide +kernel
theorem dX9_read_124 : decode cX9_read 124 = .ok (.aload_n 0, 1) := by decide +kernel
theorem dX9_read_125 : decode cX9_read 125 = .ok (.iconst 1, 1) := by decide +kernel
theorem dX9_read_126 : decode cX9_read 126 = .ok (.invokevirtual 62, 3) := by decide +kernel
theorem dX9_read_129 : decode cX9_read 129 = .ok (.istore 4, 2) := by decide +kernel
theorem dX9_read_131 : decode cX9_read 131 = .ok (.iload 4, 2) := by decide +kernel
theorem dX9_read_133 : decode cX9_read 133 = .ok (.ifCond .ne 5, 3) := by decide +kernel
theorem dX9_read_136 : decode cX9_read 136 = .ok (.iconst 0, 1) := by decide +kernel
theorem dX9_read_137 : decode cX9_read 137 = .ok (.ireturn, 1) := by decide +kernel
theorem dX9_read_138 : decode cX9_read 138 = .ok (.aload_n 0, 1) := by decide +kernel
theorem dX9_read_139 : decode cX9_read 139 = .ok (.getfield 66, 3) := by decide +kernel
theorem dX9_read_142 : decode cX9_read 142 = .ok (.iconst 4, 1) := by decide +kernel
theorem dX9_read_143 : decode cX9_read 143 = .ok (.if_icmp .ne 25, 3) := by decide +kernel
theorem dX9_read_146 : decode cX9_read 146 = .ok (.aload_n 2, 1) := by decide +kernel
theorem dX9_read_147 : decode cX9_read 147 = .ok (.invokevirtual 69, 3) := by decide +kernel
theorem dX9_read_150 : decode cX9_read 150 = .ok (.ifCond .ne 12, 3) := by decide +kernel
theorem dX9_read_153 : decode cX9_read 153 = .ok (.aload_n 0, 1) := by decide +kernel
theorem dX9_read_154 : decode cX9_read 154 = .ok (.bipush 6, 2) := by decide +kernel
theorem dX9_read_156 : decode cX9_read 156 = .ok (.invokevirtual 62, 3) := by decide +kernel
theorem dX9_read_159 : decode cX9_read 159 = .ok (.ifCond .eq 7, 3) := by decide +kernel
theorem dX9_read_162 : decode cX9_read 162 = .ok (.iconst 1, 1) := by decide +kernel
theorem dX9_read_163 : decode cX9_read 163 = .ok (.goto 4, 3) := by decide +kernel
theorem dX9_read_166 : decode cX9_read 166 = .ok (.iconst 0, 1) := by decide +kernel
theorem dX9_read_167 : decode cX9_read 167 = .ok (.ireturn, 1) := by decide +kernel
theorem dX9_read_168 : decode cX9_read 168 = .ok (.aload_n 0, 1) := by decide +kernel
theorem dX9_read_169 : decode cX9_read 169 = .ok (.getfield 66, 3) := by decide +kernel
theorem dX9_read_172 : decode cX9_read 172 = .ok (.iconst 3, 1) := by decide +kernel
theorem dX9_read_173 : decode cX9_read 173 = .ok (.if_icmp .eq 9, 3) := by decide +kernel
theorem dX9_read_176 : decode cX9_read 176 = .ok (.aload_n 0, 1) := by decide +kernel
theorem dX9_read_177 : decode cX9_read 177 = .ok (.iconst 1, 1) := by decide +kernel
theorem dX9_read_178 : decode cX9_read 178 = .ok (.invokevirtual 62, 3) := by decide +kernel
theorem dX9_read_181 : decode cX9_read 181 = .ok (.ireturn, 1) := by decide +kernel
theorem dX9_read_182 : decode cX9_read 182 = .ok (.aload_n 0, 1) := by decide +kernel
theorem dX9_read_183 : decode cX9_read 183 = .ok (.invokevirtual 42, 3) := by decide +kernel
theorem dX9_read_186 : decode cX9_read 186 = .ok (.iinc 3 1, 3) := by decide +kernel
theorem dX9_read_189 : decode cX9_read 189 = .ok (.goto (-147), 3) := by decide +kernel
theorem dX9_read_192 : decode cX9_read 192 = .ok (.aload_n 0, 1) := by decide +kernel
theorem dX9_read_193 : decode cX9_read 193 = .ok (.iconst 1, 1) := by decide +kernel
theorem dX9_read_194 : decode cX9_read 194 = .ok (.invokevirtual 62, 3) := by decide +kernel
theorem dX9_read_197 : decode cX9_read 197 = .ok (.ireturn, 1) := by decide +kernel
theorem dX9_readPark_0 : decode cX9_readPark 0 = .ok (.aload_n 1, 1) := by decide +kernel
theorem dX9_readPark_1 : decode cX9_readPark 1 = .ok (.invokevirtual 73, 3) := by decide +kernel
theorem dX9_readPark_4 : decode cX9_readPark 4 = .ok (.ifCond .eq 9, 3) := by decide +kernel
theorem dX9_readPark_7 : decode cX9_readPark 7 = .ok (.aload_n 0, 1) := by decide +kernel
theorem dX9_readPark_8 : decode cX9_readPark 8 = .ok (.iconst 3, 1) := by decide +kernel
theorem dX9_readPark_9 : decode cX9_readPark 9 = .ok (.invokevirtual 62, 3) := by decide +kernel
theorem dX9_readPark_12 : decode cX9_readPark 12 = .ok (.ireturn, 1) := by decide +kernel
theorem dX9_readPark_13 : decode cX9_readPark 13 = .ok (.aload_n 0, 1) := by decide +kernel
theorem dX9_readPark_14 : decode cX9_readPark 14 = .ok (.invokevirtual 42, 3) := by decide +kernel
theorem dX9_readPark_17 : decode cX9_readPark 17 = .ok (.aload_n 0, 1) := by decide +kernel
theorem dX9_readPark_18 : decode cX9_readPark 18 = .ok (.ldc 76, 2) := by decide +kernel
theorem dX9_readPark_20 : decode cX9_readPark 20 = .ok (.invokevirtual 78, 3) := by decide +kernel
theorem dX9_readPark_23 : decode cX9_readPark 23 = .ok (.ifCond .eq 12, 3) := by decide +kernel
theorem dX9_readPark_26 : decode cX9_readPark 26 = .ok (.aload_n 0, 1) := by decide +kernel
theorem dX9_readPark_27 : decode cX9_readPark 27 = .ok (.iconst 2, 1) := by decide +kernel
theorem dX9_readPark_28 : decode cX9_readPark 28 = .ok (.iconst 5, 1) := by decide +kernel
theorem dX9_readPark_29 : decode cX9_readPark 29 = .ok (.invokevirtual 82, 3) := by decide +kernel
theorem dX9_readPark_32 : decode cX9_readPark 32 = .ok (.ifCond .ne 5, 3) := by decide +kernel
theorem dX9_readPark_35 : decode cX9_readPark 35 = .ok (.iconst 0, 1) := by decide +kernel
theorem dX9_readPark_36 : decode cX9_readPark 36 = .ok (.ireturn, 1) := by decide +kernel
theorem dX9_readPark_37 : decode cX9_readPark 37 = .ok (.aload_n 0, 1) := by decide +kernel
theorem dX9_readPark_38 : decode cX9_readPark 38 = .ok (.getfield 86, 3) := by decide +kernel
theorem dX9_readPark_41 : decode cX9_readPark 41 = .ok (.istore_n 2, 1) := by decide +kernel
theorem dX9_readPark_42 : decode cX9_readPark 42 = .ok (.aload_n 0, 1) := by decide +kernel
theorem dX9_readPark_43 : decode cX9_readPark 43 = .ok (.ldc 89, 2) := by decide +kernel
theorem dX9_readPark_45 : decode cX9_readPark 45 = .ok (.invokevirtual 78, 3) := by decide +kernel
theorem dX9_readPark_48 : decode cX9_readPark 48 = .ok (.ifCond .eq 12, 3) := by decide +kernel
theorem dX9_readPark_51 : decode cX9_readPark 51 = .ok (.aload_n 0, 1) := by decide +kernel
theorem dX9_readPark_52 : decode cX9_readPark 52 = .ok (.iconst 2, 1) := by decide +kernel
theorem dX9_readPark_53 : decode cX9_readPark 53 = .ok (.iconst 4, 1) := by decide +kernel
theorem dX9_readPark_54 : decode cX9_readPark 54 = .ok (.invokevirtual 82, 3) := by decide +kernel
theorem dX9_readPark_57 : decode cX9_readPark 57 = .ok (.ifCond .ne 5, 3) := by decide +kernel
theorem dX9_readPark_60 : decode cX9_readPark 60 = .ok (.iconst 0, 1) := by decide +kernel
theorem dX9_readPark_61 : decode cX9_readPark 61 = .ok (.ireturn, 1) := by decide +kernel
theorem dX9_readPark_62 : decode cX9_readPark 62 = .ok (.aload_n 0, 1) := by decide +kernel
theorem dX9_readPark_63 : decode cX9_readPark 63 = .ok (.getfield 86, 3) := by decide +kernel
theorem dX9_readPark_66 : decode cX9_readPark 66 = .ok (.istore_n 3, 1) := by decide +kernel
theorem dX9_readPark_67 : decode cX9_readPark 67 = .ok (.aload_n 0, 1) := by decide +kernel
theorem dX9_readPark_68 : decode cX9_readPark 68 = .ok (.ldc 91, 2) := by decide +kernel
theorem dX9_readPark_70 : decode cX9_readPark 70 = .ok (.invokevirtual 78, 3) := by decide +kernel
theorem dX9_readPark_73 : decode cX9_readPark 73 = .ok (.ifCond .eq 13, 3) := by decide +kernel
theorem dX9_readPark_76 : decode cX9_readPark 76 = .ok (.aload_n 0, 1) := by decide +kernel
theorem dX9_readPark_77 : decode cX9_readPark 77 = .ok (.iconst 0, 1) := by decide +kernel
theorem dX9_readPark_78 : decode cX9_readPark 78 = .ok (.bipush 100, 2) := by decide +kernel
theorem dX9_readPark_80 : decode cX9_readPark 80 = .ok (.invokevirtual 82, 3) := by decide +kernel
theorem dX9_readPark_83 : decode cX9_readPark 83 = .ok (.ifCond .ne 5, 3) := by decide +kernel
theorem dX9_readPark_86 : decode cX9_readPark 86 = .ok (.iconst 0, 1) := by decide +kernel
theorem dX9_readPark_87 : decode cX9_readPark 87 = .ok (.ireturn, 1) := by decide +kernel
theorem dX9_readPark_88 : decode cX9_readPark 88 = .ok (.aload_n 1, 1) := by decide +kernel
theorem dX9_readPark_89 : decode cX9_readPark 89 = .ok (.aload_n 0, 1) := by decide +kernel
theorem dX9_readPark_90 : decode cX9_readPark 90 = .ok (.getfield 86, 3) := by decide +kernel
theorem dX9_readPark_93 : decode cX9_readPark 93 = .ok (.putfield 93, 3) := by decide +kernel
theorem dX9_readPark_96 : decode cX9_readPark 96 = .ok (.aload_n 0, 1) := by decide +kernel
theorem dX9_readPark_97 : decode cX9_readPark 97 = .ok (.ldc 95, 2) := by decide +kernel
theorem dX9_readPark_99 : decode cX9_readPark 99 = .ok (.invokevirtual 78, 3) := by decide +kernel
theorem dX9_readPark_102 : decode cX9_readPark 102 = .ok (.ifCond .eq 13, 3) := by decide +kernel
theorem dX9_readPark_105 : decode cX9_readPark 105 = .ok (.aload_n 0, 1) := by decide +kernel
theorem dX9_readPark_106 : decode cX9_readPark 106 = .ok (.iconst 0, 1) := by decide +kernel
theorem dX9_readPark_107 : decode cX9_readPark 107 = .ok (.bipush 100, 2) := by decide +kernel
theorem dX9_readPark_109 : decode cX9_readPark 109 = .ok (.invokevirtual 82, 3) := by decide +kernel
theorem dX9_readPark_112 : decode cX9_readPark 112 = .ok (.ifCond .ne 5, 3) := by decide +kernel
theorem dX9_readPark_115 : decode cX9_readPark 115 = .ok (.iconst 0, 1) := by decide +kernel
theorem dX9_readPark_116 : decode cX9_readPark 116 = .ok (.ireturn, 1) := by decide +kernel
theorem dX9_readPark_117 : decode cX9_readPark 117 = .ok (.aload_n 1, 1) := by decide +kernel
theorem dX9_readPark_118 : decode cX9_readPark 118 = .ok (.aload_n 0, 1) := by decide +kernel
theorem dX9_readPark_119 : decode cX9_readPark 119 = .ok (.getfield 86, 3) := by decide +kernel
theorem dX9_readPark_122 : decode cX9_readPark 122 = .ok (.putfield 97, 3) := by decide +kernel
theorem dX9_readPark_125 : decode cX9_readPark 125 = .ok (.aload_n 1, 1) := by decide +kernel
theorem dX9_readPark_126 : decode cX9_readPark 126 = .ok (.getfield 99, 3) := by decide +kernel
theorem dX9_readPark_129 : decode cX9_readPark 129 = .ok (.iload_n 2, 1) := by decide +kernel
theorem dX9_readPark_130 : decode cX9_readPark 130 = .ok (.iload_n 3, 1) := by decide +kernel
theorem dX9_readPark_131 : decode cX9_readPark 131 = .ok (.invokevirtual 103, 3) := by decide +kernel
theorem dX9_readPark_134 : decode cX9_readPark 134 = .ok (.iconst 1, 1) := by decide +kernel
theorem dX9_readPark_135 : decode cX9_readPark 135 = .ok (.ireturn, 1) := by decide +kernel
theorem dX9_readPlace_0 : decode cX9_readPlace 0 = .ok (.aload_n 0, 1) := by decide +kernel
theorem dX9_readPlace_1 : decode cX9_readPlace 1 = .ok (.iconst 0, 1) := by decide +kernel
theorem dX9_readPlace_2 : decode cX9_readPlace 2 = .ok (.aload_n 1, 1) := by decide +kernel
theorem dX9_readPlace_3 : decode cX9_readPlace 3 = .ok (.getfield 109, 3) := by decide +kernel
theorem dX9_readPlace_6 : decode cX9_readPlace 6 = .ok (.iconst 1, 1) := by decide +kernel
theorem dX9_readPlace_7 : decode cX9_readPlace 7 = .ok (.isub, 1) := by decide +kernel
theorem dX9_readPlace_8 : decode cX9_readPlace 8 = .ok (.invokevirtual 82, 3) := by decide +kernel
theorem dX9_readPlace_11 : decode cX9_readPlace 11 = .ok (.ifCond .ne 5, 3) := by decide +kernel
theorem dX9_readPlace_14 : decode cX9_readPlace 14 = .ok (.iconst 0, 1) := by decide +kernel
theorem dX9_readPlace_15 : decode cX9_readPlace 15 = .ok (.ireturn, 1) := by decide +kernel
theorem dX9_readPlace_16 : decode cX9_readPlace 16 = .ok (.aload_n 0, 1) := by decide +kernel
theorem dX9_readPlace_17 : decode cX9_readPlace 17 = .ok (.getfield 86, 3) := by decide +kernel
theorem dX9_readPlace_20 : decode cX9_readPlace 20 = .ok (.istore_n 3, 1) := by decide +kernel
theorem dX9_readPlace_21 : decode cX9_readPlace 21 = .ok (.aload_n 0, 1) := by decide +kernel
theorem dX9_readPlace_22 : decode cX9_readPlace 22 = .ok (.getfield 119, 3) := by decide +kernel
theorem dX9_readPlace_25 : decode cX9_readPlace 25 = .ok (.istore 4, 2) := by decide +kernel
theorem dX9_readPlace_27 : decode cX9_readPlace 27 = .ok (.aload_n 0, 1) := by decide +kernel
theorem dX9_readPlace_28 : decode cX9_readPlace 28 = .ok (.iconst 0, 1) := by decide +kernel
theorem dX9_readPlace_29 : decode cX9_readPlace 29 = .ok (.aload_n 1, 1) := by decide +kernel
theorem dX9_readPlace_30 : decode cX9_readPlace 30 = .ok (.getfield 198, 3) := by decide +kernel
theorem dX9_readPlace_33 : decode cX9_readPlace 33 = .ok (.iconst 1, 1) := by decide +kernel
theorem dX9_readPlace_34 : decode cX9_readPlace 34 = .ok (.isub, 1) := by decide +kernel
theorem dX9_readPlace_35 : decode cX9_readPlace 35 = .ok (.invokevirtual 82, 3) := by decide +kernel
theorem dX9_readPlace_38 : decode cX9_readPlace 38 = .ok (.ifCond .ne 5, 3) := by decide +kernel
theorem dX9_readPlace_41 : decode cX9_readPlace 41 = .ok (.iconst 0, 1) := by decide +kernel
theorem dX9_readPlace_42 : decode cX9_readPlace 42 = .ok (.ireturn, 1) := by decide +kernel
theorem dX9_readPlace_43 : decode cX9_readPlace 43 = .ok (.aload_n 0, 1) := by decide +kernel
theorem dX9_readPlace_44 : decode cX9_readPlace 44 = .ok (.aload_n 0, 1) := by decide +kernel
theorem dX9_readPlace_45 : decode cX9_readPlace 45 = .ok (.getfield 86, 3) := by decide +kernel
theorem dX9_readPlace_48 : decode cX9_readPlace 48 = .ok (.aload_n 1, 1) := by decide +kernel
theorem dX9_readPlace_49 : decode cX9_readPlace 49 = .ok (.getfield 109, 3) := by decide +kernel
theorem dX9_readPlace_52 : decode cX9_readPlace 52 = .ok (.imul, 1) := by decide +kernel
theorem dX9_readPlace_53 : decode cX9_readPlace 53 = .ok (.iload_n 3, 1) := by decide +kernel
theorem dX9_readPlace_54 : decode cX9_readPlace 54 = .ok (.iadd, 1) := by decide +kernel
theorem dX9_readPlace_55 : decode cX9_readPlace 55 = .ok (.putfield 86, 3) := by decide +kernel
theorem dX9_readPlace_58 : decode cX9_readPlace 58 = .ok (.iload_n 2, 1) := by decide +kernel
theorem dX9_readPlace_59 : decode cX9_readPlace 59 = .ok (.ifCond .ne 28, 3) := by decide +kernel
theorem dX9_readPlace_62 : decode cX9_readPlace 62 = .ok (.aload_n 1, 1) := by decide +kernel
theorem dX9_readPlace_63 : decode cX9_readPlace 63 = .ok (.aload_n 0, 1) := by decide +kernel
theorem dX9_readPlace_64 : decode cX9_readPlace 64 = .ok (.getfield 86, 3) := by decide +kernel
theorem dX9_readPlace_67 : decode cX9_readPlace 67 = .ok (.invokevirtual 200, 3) := by decide +kernel
theorem dX9_readPlace_70 : decode cX9_readPlace 70 = .ok (.iconst 3, 1) := by decide +kernel
theorem dX9_readPlace_71 : decode cX9_readPlace 71 = .ok (.if_icmp .ne 16, 3) := by decide +kernel
theorem dX9_readPlace_74 : decode cX9_readPlace 74 = .ok (.aload_n 0, 1) := by decide +kernel
theorem dX9_readPlace_75 : decode cX9_readPlace 75 = .ok (.iload 4, 2) := by decide +kernel
theorem dX9_readPlace_77 : decode cX9_readPlace 77 = .ok (.putfield 119, 3) := by decide +kernel
theorem dX9_readPlace_80 : decode cX9_readPlace 80 = .ok (.aload_n 0, 1) := by decide +kernel
theorem dX9_readPlace_81 : decode cX9_readPlace 81 = .ok (.bipush 7, 2) := by decide +kernel
theorem dX9_readPlace_83 : decode cX9_readPlace 83 = .ok (.invokevirtual 62, 3) := by decide +kernel
theorem dX9_readPlace_86 : decode cX9_readPlace 86 = .ok (.ireturn, 1) := by decide +kernel
theorem dX9_readPlace_87 : decode cX9_readPlace 87 = .ok (.iconst 1, 1) := by decide +kernel
theorem dX9_readPlace_88 : decode cX9_readPlace 88 = .ok (.ireturn, 1) := by decide +kernel
theorem dX9_readRow_0 : decode cX9_readRow 0 = .ok (.aload_n 1, 1) := by decide +kernel
theorem dX9_readRow_1 : decode cX9_readRow 1 = .ok (.invokevirtual 73, 3) := by decide +kernel
theorem dX9_readRow_4 : decode cX9_readRow 4 = .ok (.ifCond .ne 10, 3) := by decide +kernel
theorem dX9_readRow_7 : decode cX9_readRow 7 = .ok (.aload_n 0, 1) := by decide +kernel
theorem dX9_readRow_8 : decode cX9_readRow 8 = .ok (.bipush 6, 2) := by decide +kernel
theorem dX9_readRow_10 : decode cX9_readRow 10 = .ok (.invokevirtual 62, 3) := by decide +kernel
theorem dX9_readRow_13 : decode cX9_readRow 13 = .ok (.ireturn, 1) := by decide +kernel
theorem dX9_readRow_14 : decode cX9_readRow 14 = .ok (.aload_n 1, 1) := by decide +kernel
theorem dX9_readRow_15 : decode cX9_readRow 15 = .ok (.invokevirtual 69, 3) := by decide +kernel
theorem dX9_readRow_18 : decode cX9_readRow 18 = .ok (.ifCond .eq 9, 3) := by decide +kernel
theorem dX9_readRow_21 : decode cX9_readRow 21 = .ok (.aload_n 0, 1) := by decide +kernel
theorem dX9_readRow_22 : decode cX9_readRow 22 = .ok (.iconst 5, 1) := by decide +kernel
theorem dX9_readRow_23 : decode cX9_readRow 23 = .ok (.invokevirtual 62, 3) := by decide +kernel
theorem dX9_readRow_26 : decode cX9_readRow 26 = .ok (.ireturn, 1) := by decide +kernel
theorem dX9_readRow_27 : decode cX9_readRow 27 = .ok (.aload_n 0, 1) := by decide +kernel
theorem dX9_readRow_28 : decode cX9_readRow 28 = .ok (.invokevirtual 42, 3) := by decide +kernel
theorem dX9_readRow_31 : decode cX9_readRow 31 = .ok (.aload_n 0, 1) := by decide +kernel
theorem dX9_readRow_32 : decode cX9_readRow 32 = .ok (.aload_n 1, 1) := by decide +kernel
theorem dX9_readRow_33 : decode cX9_readRow 33 = .ok (.getfield 99, 3) := by decide +kernel
theorem dX9_readRow_36 : decode cX9_readRow 36 = .ok (.getfield 109, 3) := by decide +kernel
theorem dX9_readRow_39 : decode cX9_readRow 39 = .ok (.invokevirtual 111, 3) := by decide +kernel
theorem dX9_readRow_42 : decode cX9_readRow 42 = .ok (.ifCond .ne 9, 3) := by decide +kernel
theorem dX9_readRow_45 : decode cX9_readRow 45 = .ok (.aload_n 0, 1) := by decide +kernel
theorem dX9_readRow_46 : decode cX9_readRow 46 = .ok (.iconst 1, 1) := by decide +kernel
theorem dX9_readRow_47 : decode cX9_readRow 47 = .ok (.invokevirtual 62, 3) := by decide +kernel
theorem dX9_readRow_50 : decode cX9_readRow 50 = .ok (.ireturn, 1) := by decide +kernel
theorem dX9_readRow_51 : decode cX9_readRow 51 = .ok (.aload_n 1, 1) := by decide +kernel
theorem dX9_readRow_52 : decode cX9_readRow 52 = .ok (.getfield 114, 3) := by decide +kernel
theorem dX9_readRow_55 : decode cX9_readRow 55 = .ok (.aload_n 1, 1) := by decide +kernel
theorem dX9_readRow_56 : decode cX9_readRow 56 = .ok (.getfield 99, 3) := by decide +kernel
theorem dX9_readRow_59 : decode cX9_readRow 59 = .ok (.getfield 109, 3) := by decide +kernel
theorem dX9_readRow_62 : decode cX9_readRow 62 = .ok (.imul, 1) := by decide +kernel
theorem dX9_readRow_63 : decode cX9_readRow 63 = .ok (.istore_n 2, 1) := by decide +kernel
theorem dX9_readRow_64 : decode cX9_readRow 64 = .ok (.iconst 0, 1) := by decide +kernel
theorem dX9_readRow_65 : decode cX9_readRow 65 = .ok (.istore_n 3, 1) := by decide +kernel
theorem dX9_readRow_66 : decode cX9_readRow 66 = .ok (.iload_n 3, 1) := by decide +kernel
theorem dX9_readRow_67 : decode cX9_readRow 67 = .ok (.aload_n 1, 1) := by decide +kernel
theorem dX9_readRow_68 : decode cX9_readRow 68 = .ok (.getfield 99, 3) := by decide +kernel
theorem dX9_readRow_71 : decode cX9_readRow 71 = .ok (.getfield 109, 3) := by decide +kernel
theorem dX9_readRow_74 : decode cX9_readRow 74 = .ok (.if_icmp .ge 85, 3) := by decide +kernel
theorem dX9_readRow_77 : decode cX9_readRow 77 = .ok (.ldc 117, 2) := by decide +kernel
theorem dX9_readRow_79 : decode cX9_readRow 79 = .ok (.aload_n 0, 1) := by decide +kernel
theorem dX9_readRow_80 : decode cX9_readRow 80 = .ok (.getfield 11, 3) := by decide +kernel
theorem dX9_readRow_83 : decode cX9_readRow 83 = .ok (.aload_n 0, 1) := by decide +kernel
theorem dX9_readRow_84 : decode cX9_readRow 84 = .ok (.getfield 119, 3) := by decide +kernel
theorem dX9_readRow_87 : decode cX9_readRow 87 = .ok (.iload_n 3, 1) := by decide +kernel
theorem dX9_readRow_88 : decode cX9_readRow 88 = .ok (.iadd, 1) := by decide +kernel
theorem dX9_readRow_89 : decode cX9_readRow 89 = .ok (.baload, 1) := by decide +kernel
theorem dX9_readRow_90 : decode cX9_readRow 90 = .ok (.i2c, 1) := by decide +kernel
theorem dX9_readRow_91 : decode cX9_readRow 91 = .ok (.invokevirtual 122, 3) := by decide +kernel
theorem dX9_readRow_94 : decode cX9_readRow 94 = .ok (.istore 4, 2) := by decide +kernel
theorem dX9_readRow_96 : decode cX9_readRow 96 = .ok (.iload 4, 2) := by decide +kernel
theorem dX9_readRow_98 : decode cX9_readRow 98 = .ok (.iconst 3, 1) := by decide +kernel
theorem dX9_readRow_99 : decode cX9_readRow 99 = .ok (.if_icmp .le 42, 3) := by decide +kernel
theorem dX9_readRow_102 : decode cX9_readRow 102 = .ok (.aload_n 1, 1) := by decide +kernel
theorem dX9_readRow_103 : decode cX9_readRow 103 = .ok (.getfield 128, 3) := by decide +kernel
theorem dX9_readRow_106 : decode cX9_readRow 106 = .ok (.iconst 5, 1) := by decide +kernel
theorem dX9_readRow_107 : decode cX9_readRow 107 = .ok (.if_icmp .ne 9, 3) := by decide +kernel
theorem dX9_readRow_110 : decode cX9_readRow 110 = .ok (.aload_n 0, 1) := by decide +kernel
theorem dX9_readRow_111 : decode cX9_readRow 111 = .ok (.iconst 5, 1) := by decide +kernel
theorem dX9_readRow_112 : decode cX9_readRow 112 = .ok (.invokevirtual 62, 3) := by decide +kernel
theorem dX9_readRow_115 : decode cX9_readRow 115 = .ok (.ireturn, 1) := by decide +kernel
theorem dX9_readRow_116 : decode cX9_readRow 116 = .ok (.aload_n 1, 1) := by decide +kernel
theorem dX9_readRow_117 : decode cX9_readRow 117 = .ok (.getfield 131, 3) := by decide +kernel
theorem dX9_readRow_120 : decode cX9_readRow 120 = .ok (.aload_n 1, 1) := by decide +kernel
theorem dX9_readRow_121 : decode cX9_readRow 121 = .ok (.getfield 128, 3) := by decide +kernel
theorem dX9_readRow_124 : decode cX9_readRow 124 = .ok (.iload_n 2, 1) := by decide +kernel
theorem dX9_readRow_125 : decode cX9_readRow 125 = .ok (.iload_n 3, 1) := by decide +kernel
theorem dX9_readRow_126 : decode cX9_readRow 126 = .ok (.iadd, 1) := by decide +kernel
theorem dX9_readRow_127 : decode cX9_readRow 127 = .ok (.iastore, 1) := by decide +kernel
theorem dX9_readRow_128 : decode cX9_readRow 128 = .ok (.aload_n 1, 1) := by decide +kernel
theorem dX9_readRow_129 : decode cX9_readRow 129 = .ok (.dup, 1) := by decide +kernel
theorem dX9_readRow_130 : decode cX9_readRow 130 = .ok (.getfield 128, 3) := by decide +kernel
theorem dX9_readRow_133 : decode cX9_readRow 133 = .ok (.iconst 1, 1) := by decide +kernel
theorem dX9_readRow_134 : decode cX9_readRow 134 = .ok (.iadd, 1) := by decide +kernel
theorem dX9_readRow_135 : decode cX9_readRow 135 = .ok (.putfield 128, 3) := by decide +kernel
theorem dX9_readRow_138 : decode cX9_readRow 138 = .ok (.iconst 0, 1) := by decide +kernel
theorem dX9_readRow_139 : decode cX9_readRow 139 = .ok (.istore 4, 2) := by decide +kernel
theorem dX9_readRow_141 : decode cX9_readRow 141 = .ok (.aload_n 1, 1) := by decide +kernel
theorem dX9_readRow_142 : decode cX9_readRow 142 = .ok (.getfield 99, 3) := by decide +kernel
theorem dX9_readRow_145 : decode cX9_readRow 145 = .ok (.iload_n 2, 1) := by decide +kernel
theorem dX9_readRow_146 : decode cX9_readRow 146 = .ok (.iload_n 3, 1) := by decide +kernel
theorem dX9_readRow_147 : decode cX9_readRow 147 = .ok (.iadd, 1) := by decide +kernel
theorem dX9_readRow_148 : decode cX9_readRow 148 = .ok (.iload 4, 2) := by decide +kernel
theorem dX9_readRow_150 : decode cX9_readRow 150 = .ok (.invokevirtual 135, 3) := by decide +kernel
theorem dX9_readRow_153 : decode cX9_readRow 153 = .ok (.iinc 3 1, 3) := by decide +kernel
theorem dX9_readRow_156 : decode cX9_readRow 156 = .ok (.goto (-90), 3) := by decide +kernel
theorem dX9_readRow_159 : decode cX9_readRow 159 = .ok (.aload_n 1, 1) := by decide +kernel
theorem dX9_readRow_160 : decode cX9_readRow 160 = .ok (.dup, 1) := by decide +kernel
theorem dX9_readRow_161 : decode cX9_readRow 161 = .ok (.getfield 114, 3) := by decide +kernel
theorem dX9_readRow_164 : decode cX9_readRow 164 = .ok (.iconst 1, 1) := by decide +kernel
theorem dX9_readRow_165 : decode cX9_readRow 165 = .ok (.iadd, 1) := by decide +kernel
theorem dX9_readRow_166 : decode cX9_readRow 166 = .ok (.putfield 114, 3) := by decide +kernel
theorem dX9_readRow_169 : decode cX9_readRow 169 = .ok (.aload_n 0, 1) := by decide +kernel
theorem dX9_readRow_170 : decode cX9_readRow 170 = .ok (.invokevirtual 42, 3) := by decide +kernel
theorem dX9_readRow_173 : decode cX9_readRow 173 = .ok (.iconst 1, 1) := by decide +kernel
theorem dX9_readRow_174 : decode cX9_readRow 174 = .ok (.ireturn, 1) := by decide +kernel
theorem dX9_readWalk_0 : decode cX9_readWalk 0 = .ok (.aload_n 1, 1) := by decide +kernel
theorem dX9_readWalk_1 : decode cX9_readWalk 1 = .ok (.invokevirtual 69, 3) := by decide +kernel
theorem dX9_readWalk_4 : decode cX9_readWalk 4 = .ok (.ifCond .ne 10, 3) := by decide +kernel
theorem dX9_readWalk_7 : decode cX9_readWalk 7 = .ok (.aload_n 0, 1) := by decide +kernel
theorem dX9_readWalk_8 : decode cX9_readWalk 8 = .ok (.bipush 6, 2) := by decide +kernel
theorem dX9_readWalk_10 : decode cX9_readWalk 10 = .ok (.invokevirtual 62, 3) := by decide +kernel
theorem dX9_readWalk_13 : decode cX9_readWalk 13 = .ok (.ireturn, 1) := by decide +kernel
theorem dX9_readWalk_14 : decode cX9_readWalk 14 = .ok (.aload_n 1, 1) := by decide +kernel
theorem dX9_readWalk_15 : decode cX9_readWalk 15 = .ok (.getfield 173, 3) := by decide +kernel
theorem dX9_readWalk_18 : decode cX9_readWalk 18 = .ok (.istore_n 2, 1) := by decide +kernel
theorem dX9_readWalk_19 : decode cX9_readWalk 19 = .ok (.iload_n 2, 1) := by decide +kernel
theorem dX9_readWalk_20 : decode cX9_readWalk 20 = .ok (.bipush 6, 2) := by decide +kernel
theorem dX9_readWalk_22 : decode cX9_readWalk 22 = .ok (.if_icmp .ne 9, 3) := by decide +kernel
theorem dX9_readWalk_25 : decode cX9_readWalk 25 = .ok (.aload_n 0, 1) := by decide +kernel
theorem dX9_readWalk_26 : decode cX9_readWalk 26 = .ok (.iconst 5, 1) := by decide +kernel
theorem dX9_readWalk_27 : decode cX9_readWalk 27 = .ok (.invokevirtual 62, 3) := by decide +kernel
theorem dX9_readWalk_30 : decode cX9_readWalk 30 = .ok (.ireturn, 1) := by decide +kernel
theorem dX9_readWalk_31 : decode cX9_readWalk 31 = .ok (.aload_n 0, 1) := by decide +kernel
theorem dX9_readWalk_32 : decode cX9_readWalk 32 = .ok (.invokevirtual 42, 3) := by decide +kernel
theorem dX9_readWalk_35 : decode cX9_readWalk 35 = .ok (.aload_n 0, 1) := by decide +kernel
theorem dX9_readWalk_36 : decode cX9_readWalk 36 = .ok (.aload_n 1, 1) := by decide +kernel
theorem dX9_readWalk_37 : decode cX9_readWalk 37 = .ok (.getfield 99, 3) := by decide +kernel
theorem dX9_readWalk_40 : decode cX9_readWalk 40 = .ok (.iconst 1, 1) := by decide +kernel
theorem dX9_readWalk_41 : decode cX9_readWalk 41 = .ok (.invokevirtual 154, 3) := by decide +kernel
theorem dX9_readWalk_44 : decode cX9_readWalk 44 = .ok (.ifCond .ne 5, 3) := by decide +kernel
theorem dX9_readWalk_47 : decode cX9_readWalk 47 = .ok (.iconst 0, 1) := by decide +kernel
theorem dX9_readWalk_48 : decode cX9_readWalk 48 = .ok (.ireturn, 1) := by decide +kernel
theorem dX9_readWalk_49 : decode cX9_readWalk 49 = .ok (.aload_n 0, 1) := by decide +kernel
theorem dX9_readWalk_50 : decode cX9_readWalk 50 = .ok (.getfield 86, 3) := by decide +kernel
theorem dX9_readWalk_53 : decode cX9_readWalk 53 = .ok (.istore_n 3, 1) := by decide +kernel
theorem dX9_readWalk_54 : decode cX9_readWalk 54 = .ok (.aload_n 1, 1) := by decide +kernel
theorem dX9_readWalk_55 : decode cX9_readWalk 55 = .ok (.getfield 99, 3) := by decide +kernel
theorem dX9_readWalk_58 : decode cX9_readWalk 58 = .ok (.getfield 176, 3) := by decide +kernel
theorem dX9_readWalk_61 : decode cX9_readWalk 61 = .ok (.iconst 1, 1) := by decide +kernel
theorem dX9_readWalk_62 : decode cX9_readWalk 62 = .ok (.isub, 1) := by decide +kernel
theorem dX9_readWalk_63 : decode cX9_readWalk 63 = .ok (.iload_n 3, 1) := by decide +kernel
theorem dX9_readWalk_64 : decode cX9_readWalk 64 = .ok (.isub, 1) := by decide +kernel
theorem dX9_readWalk_65 : decode cX9_readWalk 65 = .ok (.aload_n 1, 1) := by decide +kernel
theorem dX9_readWalk_66 : decode cX9_readWalk 66 = .ok (.getfield 99, 3) := by decide +kernel
theorem dX9_readWalk_69 : decode cX9_readWalk 69 = .ok (.getfield 109, 3) := by decide +kernel
theorem dX9_readWalk_72 : decode cX9_readWalk 72 = .ok (.idiv, 1) := by decide +kernel
theorem dX9_readWalk_73 : decode cX9_readWalk 73 = .ok (.istore 4, 2) := by decide +kernel
theorem dX9_readWalk_75 : decode cX9_readWalk 75 = .ok (.aload_n 0, 1) := by decide +kernel
theorem dX9_readWalk_76 : decode cX9_readWalk 76 = .ok (.ldc 179, 2) := by decide +kernel
theorem dX9_readWalk_78 : decode cX9_readWalk 78 = .ok (.invokevirtual 78, 3) := by decide +kernel
theorem dX9_readWalk_81 : decode cX9_readWalk 81 = .ok (.ifCond .eq 17, 3) := by decide +kernel
theorem dX9_readWalk_84 : decode cX9_readWalk 84 = .ok (.aload_n 0, 1) := by decide +kernel
theorem dX9_readWalk_85 : decode cX9_readWalk 85 = .ok (.iconst 1, 1) := by decide +kernel
theorem dX9_readWalk_86 : decode cX9_readWalk 86 = .ok (.iconst 3, 1) := by decide +kernel
theorem dX9_readWalk_87 : decode cX9_readWalk 87 = .ok (.iload 4, 2) := by decide +kernel
theorem dX9_readWalk_89 : decode cX9_readWalk 89 = .ok (.invokestatic 19, 3) := by decide +kernel
theorem dX9_readWalk_92 : decode cX9_readWalk 92 = .ok (.invokevirtual 82, 3) := by decide +kernel
theorem dX9_readWalk_95 : decode cX9_readWalk 95 = .ok (.ifCond .ne 5, 3) := by decide +kernel
theorem dX9_readWalk_98 : decode cX9_readWalk 98 = .ok (.iconst 0, 1) := by decide +kernel
theorem dX9_readWalk_99 : decode cX9_readWalk 99 = .ok (.ireturn, 1) := by decide +kernel
theorem dX9_readWalk_100 : decode cX9_readWalk 100 = .ok (.aload_n 0, 1) := by decide +kernel
theorem dX9_readWalk_101 : decode cX9_readWalk 101 = .ok (.ldc 181, 2) := by decide +kernel
theorem dX9_readWalk_103 : decode cX9_readWalk 103 = .ok (.invokevirtual 183, 3) := by decide +kernel
theorem dX9_readWalk_106 : decode cX9_readWalk 106 = .ok (.istore 5, 2) := by decide +kernel
theorem dX9_readWalk_108 : decode cX9_readWalk 108 = .ok (.iload 5, 2) := by decide +kernel
theorem dX9_readWalk_110 : decode cX9_readWalk 110 = .ok (.ifCond .ne 18, 3) := by decide +kernel
theorem dX9_readWalk_113 : decode cX9_readWalk 113 = .ok (.aload_n 0, 1) := by decide +kernel
theorem dX9_readWalk_114 : decode cX9_readWalk 114 = .ok (.ldc 186, 2) := by decide +kernel
theorem dX9_readWalk_116 : decode cX9_readWalk 116 = .ok (.invokevirtual 183, 3) := by decide +kernel
theorem dX9_readWalk_119 : decode cX9_readWalk 119 = .ok (.ifCond .ne 9, 3) := by decide +kernel
theorem dX9_readWalk_122 : decode cX9_readWalk 122 = .ok (.aload_n 0, 1) := by decide +kernel
theorem dX9_readWalk_123 : decode cX9_readWalk 123 = .ok (.iconst 1, 1) := by decide +kernel
theorem dX9_readWalk_124 : decode cX9_readWalk 124 = .ok (.invokevirtual 62, 3) := by decide +kernel
theorem dX9_readWalk_127 : decode cX9_readWalk 127 = .ok (.ireturn, 1) := by decide +kernel
theorem dX9_readWalk_128 : decode cX9_readWalk 128 = .ok (.aload_n 0, 1) := by decide +kernel
theorem dX9_readWalk_129 : decode cX9_readWalk 129 = .ok (.invokevirtual 42, 3) := by decide +kernel
theorem dX9_readWalk_132 : decode cX9_readWalk 132 = .ok (.aload_n 1, 1) := by decide +kernel
theorem dX9_readWalk_133 : decode cX9_readWalk 133 = .ok (.getfield 188, 3) := by decide +kernel
theorem dX9_readWalk_136 : decode cX9_readWalk 136 = .ok (.iload_n 2, 1) := by decide +kernel
theorem dX9_readWalk_137 : decode cX9_readWalk 137 = .ok (.iload_n 3, 1) := by decide +kernel
theorem dX9_readWalk_138 : decode cX9_readWalk 138 = .ok (.iastore, 1) := by decide +kernel
theorem dX9_readWalk_139 : decode cX9_readWalk 139 = .ok (.aload_n 1, 1) := by decide +kernel
theorem dX9_readWalk_140 : decode cX9_readWalk 140 = .ok (.getfield 191, 3) := by decide +kernel
theorem dX9_readWalk_143 : decode cX9_readWalk 143 = .ok (.iload_n 2, 1) := by decide +kernel
theorem dX9_readWalk_144 : decode cX9_readWalk 144 = .ok (.aload_n 0, 1) := by decide +kernel
theorem dX9_readWalk_145 : decode cX9_readWalk 145 = .ok (.getfield 86, 3) := by decide +kernel
theorem dX9_readWalk_148 : decode cX9_readWalk 148 = .ok (.iastore, 1) := by decide +kernel
theorem dX9_readWalk_149 : decode cX9_readWalk 149 = .ok (.aload_n 1, 1) := by decide +kernel
theorem dX9_readWalk_150 : decode cX9_readWalk 150 = .ok (.getfield 194, 3) := by decide +kernel
theorem dX9_readWalk_153 : decode cX9_readWalk 153 = .ok (.iload_n 2, 1) := by decide +kernel
theorem dX9_readWalk_154 : decode cX9_readWalk 154 = .ok (.iload 5, 2) := by decide +kernel
theorem dX9_readWalk_156 : decode cX9_readWalk 156 = .ok (.bastore, 1) := by decide +kernel
theorem dX9_readWalk_157 : decode cX9_readWalk 157 = .ok (.aload_n 1, 1) := by decide +kernel
theorem dX9_readWalk_158 : decode cX9_readWalk 158 = .ok (.dup, 1) := by decide +kernel
theorem dX9_readWalk_159 : decode cX9_readWalk 159 = .ok (.getfield 173, 3) := by decide +kernel
theorem dX9_readWalk_162 : decode cX9_readWalk 162 = .ok (.iconst 1, 1) := by decide +kernel
theorem dX9_readWalk_163 : decode cX9_readWalk 163 = .ok (.iadd, 1) := by decide +kernel
theorem dX9_readWalk_164 : decode cX9_readWalk 164 = .ok (.putfield 173, 3) := by decide +kernel
theorem dX9_readWalk_167 : decode cX9_readWalk 167 = .ok (.iconst 1, 1) := by decide +kernel
theorem dX9_readWalk_168 : decode cX9_readWalk 168 = .ok (.ireturn, 1) := by decide +kernel
theorem dX9_readWalker_0 : decode cX9_readWalker 0 = .ok (.aload_n 1, 1) := by decide +kernel
theorem dX9_readWalker_1 : decode cX9_readWalker 1 = .ok (.invokevirtual 69, 3) := by decide +kernel
theorem dX9_readWalker_4 : decode cX9_readWalker 4 = .ok (.ifCond .ne 10, 3) := by decide +kernel
theorem dX9_readWalker_7 : decode cX9_readWalker 7 = .ok (.aload_n 0, 1) := by decide +kernel
theorem dX9_readWalker_8 : decode cX9_readWalker 8 = .ok (.bipush 6, 2) := by decide +kernel
theorem dX9_readWalker_10 : decode cX9_readWalker 10 = .ok (.invokevirtual 62, 3) := by decide +kernel
theorem dX9_readWalker_13 : decode cX9_readWalker 13 = .ok (.ireturn, 1) := by decide +kernel
theorem dX9_readWalker_14 : decode cX9_readWalker 14 = .ok (.aload_n 1, 1) := by decide +kernel
theorem dX9_readWalker_15 : decode cX9_readWalker 15 = .ok (.getfield 138, 3) := by decide +kernel
theorem dX9_readWalker_18 : decode cX9_readWalker 18 = .ok (.istore_n 2, 1) := by decide +kernel
theorem dX9_readWalker_19 : decode cX9_readWalker 19 = .ok (.iload_n 2, 1) := by decide +kernel
theorem dX9_readWalker_20 : decode cX9_readWalker 20 = .ok (.iconst 4, 1) := by decide +kernel
theorem dX9_readWalker_21 : decode cX9_readWalker 21 = .ok (.if_icmp .ne 9, 3) := by decide +kernel
theorem dX9_readWalker_24 : decode cX9_readWalker 24 = .ok (.aload_n 0, 1) := by decide +kernel
theorem dX9_readWalker_25 : decode cX9_readWalker 25 = .ok (.iconst 5, 1) := by decide +kernel
theorem dX9_readWalker_26 : decode cX9_readWalker 26 = .ok (.invokevirtual 62, 3) := by decide +kernel
theorem dX9_readWalker_29 : decode cX9_readWalker 29 = .ok (.ireturn, 1) := by decide +kernel
theorem dX9_readWalker_30 : decode cX9_readWalker 30 = .ok (.aload_n 0, 1) := by decide +kernel
theorem dX9_readWalker_31 : decode cX9_readWalker 31 = .ok (.invokevirtual 42, 3) := by decide +kernel
theorem dX9_readWalker_34 : decode cX9_readWalker 34 = .ok (.aload_n 0, 1) := by decide +kernel
theorem dX9_readWalker_35 : decode cX9_readWalker 35 = .ok (.getfield 66, 3) := by decide +kernel
theorem dX9_readWalker_38 : decode cX9_readWalker 38 = .ok (.iconst 1, 1) := by decide +kernel
theorem dX9_readWalker_39 : decode cX9_readWalker 39 = .ok (.if_icmp .ne 11, 3) := by decide +kernel
theorem dX9_readWalker_42 : decode cX9_readWalker 42 = .ok (.aload_n 0, 1) := by decide +kernel
theorem dX9_readWalker_43 : decode cX9_readWalker 43 = .ok (.invokevirtual 45, 3) := by decide +kernel
theorem dX9_readWalker_46 : decode cX9_readWalker 46 = .ok (.iconst (-1), 1) := by decide +kernel
theorem dX9_readWalker_47 : decode cX9_readWalker 47 = .ok (.if_icmp .eq 9, 3) := by decide +kernel
theorem dX9_readWalker_50 : decode cX9_readWalker 50 = .ok (.aload_n 0, 1) := by decide +kernel
theorem dX9_readWalker_51 : decode cX9_readWalker 51 = .ok (.iconst 1, 1) := by decide +kernel
theorem dX9_readWalker_52 : decode cX9_readWalker 52 = .ok (.invokevirtual 62, 3) := by decide +kernel
theorem dX9_readWalker_55 : decode cX9_readWalker 55 = .ok (.ireturn, 1) := by decide +kernel
theorem dX9_readWalker_56 : decode cX9_readWalker 56 = .ok (.aload_n 0, 1) := by decide +kernel
theorem dX9_readWalker_57 : decode cX9_readWalker 57 = .ok (.invokevirtual 141, 3) := by decide +kernel
theorem dX9_readWalker_60 : decode cX9_readWalker 60 = .ok (.lstore_n 3, 1) := by decide +kernel
theorem dX9_readWalker_61 : decode cX9_readWalker 61 = .ok (.aload_n 1, 1) := by decide +kernel
theorem dX9_readWalker_62 : decode cX9_readWalker 62 = .ok (.lload_n 3, 1) := by decide +kernel
theorem dX9_readWalker_63 : decode cX9_readWalker 63 = .ok (.invokevirtual 145, 3) := by decide +kernel
theorem dX9_readWalker_66 : decode cX9_readWalker 66 = .ok (.ifCond .eq 9, 3) := by decide +kernel
theorem dX9_readWalker_69 : decode cX9_readWalker 69 = .ok (.aload_n 0, 1) := by decide +kernel
theorem dX9_readWalker_70 : decode cX9_readWalker 70 = .ok (.iconst 3, 1) := by decide +kernel
theorem dX9_readWalker_71 : decode cX9_readWalker 71 = .ok (.invokevirtual 62, 3) := by decide +kernel
theorem dX9_readWalker_74 : decode cX9_readWalker 74 = .ok (.ireturn, 1) := by decide +kernel
theorem dX9_readWalker_75 : decode cX9_readWalker 75 = .ok (.aload_n 0, 1) := by decide +kernel
theorem dX9_readWalker_76 : decode cX9_readWalker 76 = .ok (.invokevirtual 42, 3) := by decide +kernel
theorem dX9_readWalker_79 : decode cX9_readWalker 79 = .ok (.aload_n 0, 1) := by decide +kernel
theorem dX9_readWalker_80 : decode cX9_readWalker 80 = .ok (.invokevirtual 149, 3) := by decide +kernel
theorem dX9_readWalker_83 : decode cX9_readWalker 83 = .ok (.istore 5, 2) := by decide +kernel
theorem dX9_readWalker_85 : decode cX9_readWalker 85 = .ok (.iload 5, 2) := by decide +kernel
theorem dX9_readWalker_87 : decode cX9_readWalker 87 = .ok (.iconst (-1), 1) := by decide +kernel
theorem dX9_readWalker_88 : decode cX9_readWalker 88 = .ok (.if_icmp .ne 9, 3) := by decide +kernel
theorem dX9_readWalker_91 : decode cX9_readWalker 91 = .ok (.aload_n 0, 1) := by decide +kernel
theorem dX9_readWalker_92 : decode cX9_readWalker 92 = .ok (.iconst 1, 1) := by decide +kernel
theorem dX9_readWalker_93 : decode cX9_readWalker 93 = .ok (.invokevirtual 62, 3) := by decide +kernel
theorem dX9_readWalker_96 : decode cX9_readWalker 96 = .ok (.ireturn, 1) := by decide +kernel
theorem dX9_readWalker_97 : decode cX9_readWalker 97 = .ok (.aload_n 0, 1) := by decide +kernel
theorem dX9_readWalker_98 : decode cX9_readWalker 98 = .ok (.invokevirtual 42, 3) := by decide +kernel
theorem dX9_readWalker_101 : decode cX9_readWalker 101 = .ok (.aload_n 0, 1) := by decide +kernel
theorem dX9_readWalker_102 : decode cX9_readWalker 102 = .ok (.ldc 152, 2) := by decide +kernel
theorem dX9_readWalker_104 : decode cX9_readWalker 104 = .ok (.invokevirtual 78, 3) := by decide +kernel
theorem dX9_readWalker_107 : decode cX9_readWalker 107 = .ok (.ifCond .eq 15, 3) := by decide +kernel
theorem dX9_readWalker_110 : decode cX9_readWalker 110 = .ok (.aload_n 0, 1) := by decide +kernel
theorem dX9_readWalker_111 : decode cX9_readWalker 111 = .ok (.aload_n 1, 1) := by decide +kernel
theorem dX9_readWalker_112 : decode cX9_readWalker 112 = .ok (.getfield 99, 3) := by decide +kernel
theorem dX9_readWalker_115 : decode cX9_readWalker 115 = .ok (.iconst 0, 1) := by decide +kernel
theorem dX9_readWalker_116 : decode cX9_readWalker 116 = .ok (.invokevirtual 154, 3) := by decide +kernel
theorem dX9_readWalker_119 : decode cX9_readWalker 119 = .ok (.ifCond .ne 5, 3) := by decide +kernel
theorem dX9_readWalker_122 : decode cX9_readWalker 122 = .ok (.iconst 0, 1) := by decide +kernel
theorem dX9_readWalker_123 : decode cX9_readWalker 123 = .ok (.ireturn, 1) := by decide +kernel
theorem dX9_readWalker_124 : decode cX9_readWalker 124 = .ok (.aload_n 1, 1) := by decide +kernel
theorem dX9_readWalker_125 : decode cX9_readWalker 125 = .ok (.getfield 158, 3) := by decide +kernel
theorem dX9_readWalker_128 : decode cX9_readWalker 128 = .ok (.iload_n 2, 1) := by decide +kernel
theorem dX9_readWalker_129 : decode cX9_readWalker 129 = .ok (.aload_n 0, 1) := by decide +kernel
theorem dX9_readWalker_130 : decode cX9_readWalker 130 = .ok (.getfield 86, 3) := by decide +kernel
theorem dX9_readWalker_133 : decode cX9_readWalker 133 = .ok (.iastore, 1) := by decide +kernel
theorem dX9_readWalker_134 : decode cX9_readWalker 134 = .ok (.aload_n 0, 1) := by decide +kernel
theorem dX9_readWalker_135 : decode cX9_readWalker 135 = .ok (.ldc 161, 2) := by decide +kernel
theorem dX9_readWalker_137 : decode cX9_readWalker 137 = .ok (.invokevirtual 78, 3) := by decide +kernel
theorem dX9_readWalker_140 : decode cX9_readWalker 140 = .ok (.ifCond .eq 15, 3) := by decide +kernel
theorem dX9_readWalker_143 : decode cX9_readWalker 143 = .ok (.aload_n 0, 1) := by decide +kernel
theorem dX9_readWalker_144 : decode cX9_readWalker 144 = .ok (.aload_n 1, 1) := by decide +kernel
theorem dX9_readWalker_145 : decode cX9_readWalker 145 = .ok (.getfield 99, 3) := by decide +kernel
theorem dX9_readWalker_148 : decode cX9_readWalker 148 = .ok (.iconst 0, 1) := by decide +kernel
theorem dX9_readWalker_149 : decode cX9_readWalker 149 = .ok (.invokevirtual 154, 3) := by decide +kernel
theorem dX9_readWalker_152 : decode cX9_readWalker 152 = .ok (.ifCond .ne 5, 3) := by decide +kernel
theorem dX9_readWalker_155 : decode cX9_readWalker 155 = .ok (.iconst 0, 1) := by decide +kernel
theorem dX9_readWalker_156 : decode cX9_readWalker 156 = .ok (.ireturn, 1) := by decide +kernel
theorem dX9_readWalker_157 : decode cX9_readWalker 157 = .ok (.aload_n 1, 1) := by decide +kernel
theorem dX9_readWalker_158 : decode cX9_readWalker 158 = .ok (.getfield 163, 3) := by decide +kernel
theorem dX9_readWalker_161 : decode cX9_readWalker 161 = .ok (.iload_n 2, 1) := by decide +kernel
theorem dX9_readWalker_162 : decode cX9_readWalker 162 = .ok (.aload_n 0, 1) := by decide +kernel
theorem dX9_readWalker_163 : decode cX9_readWalker 163 = .ok (.getfield 86, 3) := by decide +kernel
theorem dX9_readWalker_166 : decode cX9_readWalker 166 = .ok (.iastore, 1) := by decide +kernel
theorem dX9_readWalker_167 : decode cX9_readWalker 167 = .ok (.aload_n 1, 1) := by decide +kernel
theorem dX9_readWalker_168 : decode cX9_readWalker 168 = .ok (.getfield 166, 3) := by decide +kernel
theorem dX9_readWalker_171 : decode cX9_readWalker 171 = .ok (.iload_n 2, 1) := by decide +kernel
theorem dX9_readWalker_172 : decode cX9_readWalker 172 = .ok (.lload_n 3, 1) := by decide +kernel
theorem dX9_readWalker_173 : decode cX9_readWalker 173 = .ok (.lastore, 1) := by decide +kernel
theorem dX9_readWalker_174 : decode cX9_readWalker 174 = .ok (.aload_n 1, 1) := by decide +kernel
theorem dX9_readWalker_175 : decode cX9_readWalker 175 = .ok (.getfield 170, 3) := by decide +kernel
theorem dX9_readWalker_178 : decode cX9_readWalker 178 = .ok (.iload_n 2, 1) := by decide +kernel
theorem dX9_readWalker_179 : decode cX9_readWalker 179 = .ok (.iload 5, 2) := by decide +kernel
theorem dX9_readWalker_181 : decode cX9_readWalker 181 = .ok (.iastore, 1) := by decide +kernel
theorem dX9_readWalker_182 : decode cX9_readWalker 182 = .ok (.aload_n 1, 1) := by decide +kernel
theorem dX9_readWalker_183 : decode cX9_readWalker 183 = .ok (.dup, 1) := by decide +kernel
theorem dX9_readWalker_184 : decode cX9_readWalker 184 = .ok (.getfield 138, 3) := by decide +kernel
theorem dX9_readWalker_187 : decode cX9_readWalker 187 = .ok (.iconst 1, 1) := by decide +kernel
theorem dX9_readWalker_188 : decode cX9_readWalker 188 = .ok (.iadd, 1) := by decide +kernel
theorem dX9_readWalker_189 : decode cX9_readWalker 189 = .ok (.putfield 138, 3) := by decide +kernel
theorem dX9_readWalker_192 : decode cX9_readWalker 192 = .ok (.iconst 1, 1) := by decide +kernel
theorem dX9_readWalker_193 : decode cX9_readWalker 193 = .ok (.ireturn, 1) := by decide +kernel
theorem dX9_readWhole_0 : decode cX9_readWhole 0 = .ok (.aload_n 0, 1) := by decide +kernel
theorem dX9_readWhole_1 : decode cX9_readWhole 1 = .ok (.getfield 66, 3) := by decide +kernel
theorem dX9_readWhole_4 : decode cX9_readWhole 4 = .ok (.iconst 2, 1) := by decide +kernel
theorem dX9_readWhole_5 : decode cX9_readWhole 5 = .ok (.if_icmp .eq 9, 3) := by decide +kernel
theorem dX9_readWhole_8 : decode cX9_readWhole 8 = .ok (.aload_n 0, 1) := by decide +kernel
theorem dX9_readWhole_9 : decode cX9_readWhole 9 = .ok (.iconst 1, 1) := by decide +kernel
theorem dX9_readWhole_10 : decode cX9_readWhole 10 = .ok (.invokevirtual 62, 3) := by decide +kernel
theorem dX9_readWhole_13 : decode cX9_readWhole 13 = .ok (.ireturn, 1) := by decide +kernel
theorem dX9_readWhole_14 : decode cX9_readWhole 14 = .ok (.aload_n 0, 1) := by decide +kernel
theorem dX9_readWhole_15 : decode cX9_readWhole 15 = .ok (.iconst 0, 1) := by decide +kernel
theorem dX9_readWhole_16 : decode cX9_readWhole 16 = .ok (.putfield 86, 3) := by decide +kernel
theorem dX9_readWhole_19 : decode cX9_readWhole 19 = .ok (.aload_n 0, 1) := by decide +kernel
theorem dX9_readWhole_20 : decode cX9_readWhole 20 = .ok (.getfield 119, 3) := by decide +kernel
theorem dX9_readWhole_23 : decode cX9_readWhole 23 = .ok (.istore_n 3, 1) := by decide +kernel
theorem dX9_readWhole_24 : decode cX9_readWhole 24 = .ok (.iload_n 3, 1) := by decide +kernel
theorem dX9_readWhole_25 : decode cX9_readWhole 25 = .ok (.aload_n 0, 1) := by decide +kernel
theorem dX9_readWhole_26 : decode cX9_readWhole 26 = .ok (.getfield 28, 3) := by decide +kernel
theorem dX9_readWhole_29 : decode cX9_readWhole 29 = .ok (.if_icmp .ge 30, 3) := by decide +kernel
theorem dX9_readWhole_32 : decode cX9_readWhole 32 = .ok (.aload_n 0, 1) := by decide +kernel
theorem dX9_readWhole_33 : decode cX9_readWhole 33 = .ok (.aload_n 0, 1) := by decide +kernel
theorem dX9_readWhole_34 : decode cX9_readWhole 34 = .ok (.getfield 86, 3) := by decide +kernel
theorem dX9_readWhole_37 : decode cX9_readWhole 37 = .ok (.bipush 10, 2) := by decide +kernel
theorem dX9_readWhole_39 : decode cX9_readWhole 39 = .ok (.imul, 1) := by decide +kernel
theorem dX9_readWhole_40 : decode cX9_readWhole 40 = .ok (.aload_n 0, 1) := by decide +kernel
theorem dX9_readWhole_41 : decode cX9_readWhole 41 = .ok (.getfield 11, 3) := by decide +kernel
theorem dX9_readWhole_44 : decode cX9_readWhole 44 = .ok (.iload_n 3, 1) := by decide +kernel
theorem dX9_readWhole_45 : decode cX9_readWhole 45 = .ok (.baload, 1) := by decide +kernel
theorem dX9_readWhole_46 : decode cX9_readWhole 46 = .ok (.iadd, 1) := by decide +kernel
theorem dX9_readWhole_47 : decode cX9_readWhole 47 = .ok (.bipush 48, 2) := by decide +kernel
theorem dX9_readWhole_49 : decode cX9_readWhole 49 = .ok (.isub, 1) := by decide +kernel
theorem dX9_readWhole_50 : decode cX9_readWhole 50 = .ok (.putfield 86, 3) := by decide +kernel
theorem dX9_readWhole_53 : decode cX9_readWhole 53 = .ok (.iinc 3 1, 3) := by decide +kernel
theorem dX9_readWhole_56 : decode cX9_readWhole 56 = .ok (.goto (-32), 3) := by decide +kernel
theorem dX9_readWhole_59 : decode cX9_readWhole 59 = .ok (.aload_n 0, 1) := by decide +kernel
theorem dX9_readWhole_60 : decode cX9_readWhole 60 = .ok (.getfield 86, 3) := by decide +kernel
theorem dX9_readWhole_63 : decode cX9_readWhole 63 = .ok (.iload_n 1, 1) := by decide +kernel
theorem dX9_readWhole_64 : decode cX9_readWhole 64 = .ok (.if_icmp .lt 11, 3) := by decide +kernel
theorem dX9_readWhole_67 : decode cX9_readWhole 67 = .ok (.aload_n 0, 1) := by decide +kernel
theorem dX9_readWhole_68 : decode cX9_readWhole 68 = .ok (.getfield 86, 3) := by decide +kernel
theorem dX9_readWhole_71 : decode cX9_readWhole 71 = .ok (.iload_n 2, 1) := by decide +kernel
theorem dX9_readWhole_72 : decode cX9_readWhole 72 = .ok (.if_icmp .le 9, 3) := by decide +kernel
theorem dX9_readWhole_75 : decode cX9_readWhole 75 = .ok (.aload_n 0, 1) := by decide +kernel
theorem dX9_readWhole_76 : decode cX9_readWhole 76 = .ok (.iconst 4, 1) := by decide +kernel
theorem dX9_readWhole_77 : decode cX9_readWhole 77 = .ok (.invokevirtual 62, 3) := by decide +kernel
theorem dX9_readWhole_80 : decode cX9_readWhole 80 = .ok (.ireturn, 1) := by decide +kernel
theorem dX9_readWhole_81 : decode cX9_readWhole 81 = .ok (.aload_n 0, 1) := by decide +kernel
theorem dX9_readWhole_82 : decode cX9_readWhole 82 = .ok (.invokevirtual 42, 3) := by decide +kernel
theorem dX9_readWhole_85 : decode cX9_readWhole 85 = .ok (.iconst 1, 1) := by decide +kernel
theorem dX9_readWhole_86 : decode cX9_readWhole 86 = .ok (.ireturn, 1) := by decide +kernel
theorem dX9_readWord_0 : decode cX9_readWord 0 = .ok (.aload_n 0, 1) := by decide +kernel
theorem dX9_readWord_1 : decode cX9_readWord 1 = .ok (.aload_n 1, 1) := by decide +kernel
theorem dX9_readWord_2 : decode cX9_readWord 2 = .ok (.invokevirtual 183, 3) := by decide +kernel
theorem dX9_readWord_5 : decode cX9_readWord 5 = .ok (.ifCond .ne 9, 3) := by decide +kernel
theorem dX9_readWord_8 : decode cX9_readWord 8 = .ok (.aload_n 0, 1) := by decide +kernel
theorem dX9_readWord_9 : decode cX9_readWord 9 = .ok (.iconst 1, 1) := by decide +kernel
theorem dX9_readWord_10 : decode cX9_readWord 10 = .ok (.invokevirtual 62, 3) := by decide +kernel
theorem dX9_readWord_13 : decode cX9_readWord 13 = .ok (.ireturn, 1) := by decide +kernel
theorem dX9_readWord_14 : decode cX9_readWord 14 = .ok (.aload_n 0, 1) := by decide +kernel
theorem dX9_readWord_15 : decode cX9_readWord 15 = .ok (.invokevirtual 42, 3) := by decide +kernel
theorem dX9_readWord_18 : decode cX9_readWord 18 = .ok (.iconst 1, 1) := by decide +kernel
theorem dX9_readWord_19 : decode cX9_readWord 19 = .ok (.ireturn, 1) := by decide +kernel
theorem dX9_runEnd_0 : decode cX9_runEnd 0 = .ok (.iload_n 1, 1) := by decide +kernel
theorem dX9_runEnd_1 : decode cX9_runEnd 1 = .ok (.istore 4, 2) := by decide +kernel
theorem dX9_runEnd_3 : decode cX9_runEnd 3 = .ok (.iload 4, 2) := by decide +kernel
theorem dX9_runEnd_5 : decode cX9_runEnd 5 = .ok (.aload_n 0, 1) := by decide +kernel
theorem dX9_runEnd_6 : decode cX9_runEnd 6 = .ok (.getfield 25, 3) := by decide +kernel
theorem dX9_runEnd_9 : decode cX9_runEnd 9 = .ok (.if_icmp .ge 31, 3) := by decide +kernel
theorem dX9_runEnd_12 : decode cX9_runEnd 12 = .ok (.aload_n 0, 1) := by decide +kernel
theorem dX9_runEnd_13 : decode cX9_runEnd 13 = .ok (.getfield 11, 3) := by decide +kernel
theorem dX9_runEnd_16 : decode cX9_runEnd 16 = .ok (.iload 4, 2) := by decide +kernel
theorem dX9_runEnd_18 : decode cX9_runEnd 18 = .ok (.baload, 1) := by decide +kernel
theorem dX9_runEnd_19 : decode cX9_runEnd 19 = .ok (.iload_n 2, 1) := by decide +kernel
theorem dX9_runEnd_20 : decode cX9_runEnd 20 = .ok (.if_icmp .lt 20, 3) := by decide +kernel
theorem dX9_runEnd_23 : decode cX9_runEnd 23 = .ok (.aload_n 0, 1) := by decide +kernel
theorem dX9_runEnd_24 : decode cX9_runEnd 24 = .ok (.getfield 11, 3) := by decide +kernel
theorem dX9_runEnd_27 : decode cX9_runEnd 27 = .ok (.iload 4, 2) := by decide +kernel
theorem dX9_runEnd_29 : decode cX9_runEnd 29 = .ok (.baload, 1) := by decide +kernel
theorem dX9_runEnd_30 : decode cX9_runEnd 30 = .ok (.iload_n 3, 1) := by decide +kernel
theorem dX9_runEnd_31 : decode cX9_runEnd 31 = .ok (.if_icmp .gt 9, 3) := by decide +kernel
theorem dX9_runEnd_34 : decode cX9_runEnd 34 = .ok (.iinc 4 1, 3) := by decide +kernel
theorem dX9_runEnd_37 : decode cX9_runEnd 37 = .ok (.goto (-34), 3) := by decide +kernel
theorem dX9_runEnd_40 : decode cX9_runEnd 40 = .ok (.iload 4, 2) := by decide +kernel
theorem dX9_runEnd_42 : decode cX9_runEnd 42 = .ok (.ireturn, 1) := by decide +kernel
theorem dX9_wrong_0 : decode cX9_wrong 0 = .ok (.aload_n 0, 1) := by decide +kernel
theorem dX9_wrong_1 : decode cX9_wrong 1 = .ok (.iload_n 1, 1) := by decide +kernel
theorem dX9_wrong_2 : decode cX9_wrong 2 = .ok (.putfield 31, 3) := by decide +kernel
theorem dX9_wrong_5 : decode cX9_wrong 5 = .ok (.aload_n 0, 1) := by decide +kernel
theorem dX9_wrong_6 : decode cX9_wrong 6 = .ok (.aload_n 0, 1) := by decide +kernel
theorem dX9_wrong_7 : decode cX9_wrong 7 = .ok (.getfield 119, 3) := by decide +kernel
theorem dX9_wrong_10 : decode cX9_wrong 10 = .ok (.putfield 34, 3) := by decide +kernel
theorem dX9_wrong_13 : decode cX9_wrong 13 = .ok (.iconst 0, 1) := by decide +kernel
theorem dX9_wrong_14 : decode cX9_wrong 14 = .ok (.ireturn, 1) := by decide +kernel
