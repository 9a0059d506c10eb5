theorem dX11_fault_4 : decode cX11_fault 4 = .ok (.getfield 133, 3) := by decide +kernel
theorem dX11_fault_7 : decode cX11_fault 7 = .ok (.ireturn, 1) := by decide +kernel
theorem dX11_feed_0 : decode cX11_feed 0 = .ok (.aload_n 0, 1) := by decide +kernel
theorem dX11_feed_1 : decode cX11_feed 1 = .ok (.getfield 10, 3) := by decide +kernel
theorem dX11_feed_4 : decode cX11_feed 4 = .ok (.invokevirtual 88, 3) := by decide +kernel
theorem dX11_feed_7 : decode cX11_feed 7 = .ok (.ifCond .ne 5, 3) := by decide +kernel
theorem dX11_feed_12 : decode cX11_feed 12 = .ok (.aload_n 0, 1) := by decide +kernel
theorem dX11_feed_13 : decode cX11_feed 13 = .ok (.getfield 10, 3) := by decide +kernel
theorem dX11_feed_16 : decode cX11_feed 16 = .ok (.iload_n 1, 1) := by decide +kernel
theorem dX11_feed_17 : decode cX11_feed 17 = .ok (.invokevirtual 92, 3) := by decide +kernel
theorem dX11_feed_20 : decode cX11_feed 20 = .ok (.aload_n 0, 1) := by decide +kernel
theorem dX11_feed_21 : decode cX11_feed 21 = .ok (.getfield 10, 3) := by decide +kernel
theorem dX11_feed_24 : decode cX11_feed 24 = .ok (.iload_n 2, 1) := by decide +kernel
theorem dX11_feed_25 : decode cX11_feed 25 = .ok (.invokevirtual 92, 3) := by decide +kernel
theorem dX11_feed_28 : decode cX11_feed 28 = .ok (.aload_n 0, 1) := by decide +kernel
theorem dX11_feed_29 : decode cX11_feed 29 = .ok (.getfield 10, 3) := by decide +kernel
theorem dX11_feed_32 : decode cX11_feed 32 = .ok (.iload_n 3, 1) := by decide +kernel
theorem dX11_feed_33 : decode cX11_feed 33 = .ok (.invokevirtual 92, 3) := by decide +kernel
theorem dX11_feed_36 : decode cX11_feed 36 = .ok (.aload_n 0, 1) := by decide +kernel
theorem dX11_feed_37 : decode cX11_feed 37 = .ok (.getfield 10, 3) := by decide +kernel
theorem dX11_feed_40 : decode cX11_feed 40 = .ok (.iload 4, 2) := by decide +kernel
theorem dX11_feed_42 : decode cX11_feed 42 = .ok (.invokevirtual 92, 3) := by decide +kernel
theorem dX11_feed_45 : decode cX11_feed 45 = .ok (.aload_n 0, 1) := by decide +kernel
theorem dX11_feed_46 : decode cX11_feed 46 = .ok (.getfield 10, 3) := by decide +kernel
theorem dX11_feed_49 : decode cX11_feed 49 = .ok (.iload 5, 2) := by decide +kernel
theorem dX11_feed_51 : decode cX11_feed 51 = .ok (.invokevirtual 92, 3) := by decide +kernel
theorem dX11_feed_54 : decode cX11_feed 54 = .ok (.aload_n 0, 1) := by decide +kernel
theorem dX11_feed_55 : decode cX11_feed 55 = .ok (.getfield 10, 3) := by decide +kernel
theorem dX11_feed_58 : decode cX11_feed 58 = .ok (.getfield 96, 3) := by decide +kernel
theorem dX11_feed_61 : decode cX11_feed 61 = .ok (.ireturn, 1) := by decide +kernel
theorem dX11_fill_0 : decode cX11_fill 0 = .ok (.aload_n 0, 1) := by decide +kernel
theorem dX11_fill_1 : decode cX11_fill 1 = .ok (.iload_n 1, 1) := by decide +kernel
theorem dX11_fill_2 : decode cX11_fill 2 = .ok (.iconst 1, 1) := by decide +kernel
theorem dX11_fill_3 : decode cX11_fill 3 = .ok (.iconst 0, 1) := by decide +kernel
theorem dX11_fill_4 : decode cX11_fill 4 = .ok (.invokevirtual 350, 3) := by decide +kernel
theorem dX11_fill_7 : decode cX11_fill 7 = .ok (.ireturn, 1) := by decide +kernel
theorem dX11_fitAt_0 : decode cX11_fitAt 0 = .ok (.iload_n 1, 1) := by decide +kernel
theorem dX11_fitAt_1 : decode cX11_fitAt 1 = .ok (.ifCond .ge 7, 3) := by decide +kernel
theorem dX11_fitAt_4 : decode cX11_fitAt 4 = .ok (.iconst (-1), 1) := by decide +kernel
theorem dX11_fitAt_5 : decode cX11_fitAt 5 = .ok (.goto 11, 3) := by decide +kernel
theorem dX11_fitAt_8 : decode cX11_fitAt 8 = .ok (.aload_n 0, 1) := by decide +kernel
theorem dX11_fitAt_9 : decode cX11_fitAt 9 = .ok (.getfield 67, 3) := by decide +kernel
theorem dX11_fitAt_12 : decode cX11_fitAt 12 = .ok (.iload_n 1, 1) := by decide +kernel
theorem dX11_fitAt_13 : decode cX11_fitAt 13 = .ok (.invokevirtual 271, 3) := by decide +kernel
theorem dX11_fitAt_16 : decode cX11_fitAt 16 = .ok (.istore_n 2, 1) := by decide +kernel
theorem dX11_fitAt_17 : decode cX11_fitAt 17 = .ok (.iload_n 2, 1) := by decide +kernel
theorem dX11_fitAt_18 : decode cX11_fitAt 18 = .ok (.iconst (-1), 1) := by decide +kernel
theorem dX11_fitAt_19 : decode cX11_fitAt 19 = .ok (.if_icmp .ne 11, 3) := by decide +kernel
theorem dX11_fitAt_22 : decode cX11_fitAt 22 = .ok (.aload_n 0, 1) := by decide +kernel
theorem dX11_fitAt_23 : decode cX11_fitAt 23 = .ok (.iconst 1, 1) := by decide +kernel
theorem dX11_fitAt_24 : decode cX11_fitAt 24 = .ok (.invokevirtual 100, 3) := by decide +kernel
theorem dX11_fitAt_27 : decode cX11_fitAt 27 = .ok (.goto 8, 3) := by decide +kernel
theorem dX11_fitAt_35 : decode cX11_fitAt 35 = .ok (.ireturn, 1) := by decide +kernel
theorem dX11_fits_0 : decode cX11_fits 0 = .ok (.aload_n 0, 1) := by decide +kernel
theorem dX11_fits_1 : decode cX11_fits 1 = .ok (.invokevirtual 188, 3) := by decide +kernel
theorem dX11_fits_4 : decode cX11_fits 4 = .ok (.ifCond .ne 9, 3) := by decide +kernel
theorem dX11_fits_7 : decode cX11_fits 7 = .ok (.aload_n 0, 1) := by decide +kernel
theorem dX11_fits_8 : decode cX11_fits 8 = .ok (.iconst 1, 1) := by decide +kernel
theorem dX11_fits_9 : decode cX11_fits 9 = .ok (.invokevirtual 100, 3) := by decide +kernel
theorem dX11_fits_12 : decode cX11_fits 12 = .ok (.ireturn, 1) := by decide +kernel
theorem dX11_gate_0 : decode cX11_gate 0 = .ok (.aload_n 0, 1) := by decide +kernel
theorem dX11_gate_1 : decode cX11_gate 1 = .ok (.iload_n 1, 1) := by decide +kernel
theorem dX11_gate_2 : decode cX11_gate 2 = .ok (.iconst 1, 1) := by decide +kernel
theorem dX11_gate_3 : decode cX11_gate 3 = .ok (.iconst 2, 1) := by decide +kernel
theorem dX11_gate_4 : decode cX11_gate 4 = .ok (.invokevirtual 350, 3) := by decide +kernel
theorem dX11_gate_7 : decode cX11_gate 7 = .ok (.ireturn, 1) := by decide +kernel
theorem dX11_gates_0 : decode cX11_gates 0 = .ok (.aload_n 0, 1) := by decide +kernel
theorem dX11_gates_1 : decode cX11_gates 1 = .ok (.invokevirtual 188, 3) := by decide +kernel
theorem dX11_gates_4 : decode cX11_gates 4 = .ok (.ifCond .ne 9, 3) := by decide +kernel
theorem dX11_gates_7 : decode cX11_gates 7 = .ok (.aload_n 0, 1) := by decide +kernel
theorem dX11_gates_8 : decode cX11_gates 8 = .ok (.iconst 1, 1) := by decide +kernel
theorem dX11_gates_9 : decode cX11_gates 9 = .ok (.invokevirtual 100, 3) := by decide +kernel
theorem dX11_gates_12 : decode cX11_gates 12 = .ok (.ireturn, 1) := by decide +kernel
theorem dX11_hasPark_0 : decode cX11_hasPark 0 = .ok (.aload_n 0, 1) := by decide +kernel
theorem dX11_hasPark_1 : decode cX11_hasPark 1 = .ok (.getfield 19, 3) := by decide +kernel
theorem dX11_hasPark_4 : decode cX11_hasPark 4 = .ok (.getfield 121, 3) := by decide +kernel
theorem dX11_hasPark_7 : decode cX11_hasPark 7 = .ok (.getfield 125, 3) := by decide +kernel
theorem dX11_hasPark_10 : decode cX11_hasPark 10 = .ok (.ifCond .le 7, 3) := by decide +kernel
theorem dX11_hasPark_17 : decode cX11_hasPark 17 = .ok (.iconst 0, 1) := by decide +kernel
theorem dX11_hasPark_18 : decode cX11_hasPark 18 = .ok (.ireturn, 1) := by decide +kernel
theorem dX11_hedge_0 : decode cX11_hedge 0 = .ok (.aload_n 0, 1) := by decide +kernel
theorem dX11_hedge_1 : decode cX11_hedge 1 = .ok (.getfield 19, 3) := by decide +kernel
theorem dX11_hedge_4 : decode cX11_hedge 4 = .ok (.getfield 121, 3) := by decide +kernel
theorem dX11_hedge_7 : decode cX11_hedge 7 = .ok (.iload_n 1, 1) := by decide +kernel
theorem dX11_hedge_8 : decode cX11_hedge 8 = .ok (.invokevirtual 142, 3) := by decide +kernel
theorem dX11_hedge_11 : decode cX11_hedge 11 = .ok (.ifCond .eq 20, 3) := by decide +kernel
theorem dX11_hedge_31 : decode cX11_hedge 31 = .ok (.aload_n 0, 1) := by decide +kernel
theorem dX11_hedge_32 : decode cX11_hedge 32 = .ok (.iload_n 1, 1) := by decide +kernel
theorem dX11_hedge_33 : decode cX11_hedge 33 = .ok (.iconst 0, 1) := by decide +kernel
theorem dX11_hedge_34 : decode cX11_hedge 34 = .ok (.iconst 3, 1) := by decide +kernel
theorem dX11_hedge_35 : decode cX11_hedge 35 = .ok (.invokevirtual 350, 3) := by decide +kernel
theorem dX11_hedge_38 : decode cX11_hedge 38 = .ok (.ireturn, 1) := by decide +kernel
theorem dX11_image_0 : decode cX11_image 0 = .ok (.aload_n 0, 1) := by decide +kernel
theorem dX11_image_1 : decode cX11_image 1 = .ok (.invokevirtual 188, 3) := by decide +kernel
theorem dX11_image_4 : decode cX11_image 4 = .ok (.ifCond .ne 9, 3) := by decide +kernel
theorem dX11_image_7 : decode cX11_image 7 = .ok (.aload_n 0, 1) := by decide +kernel
theorem dX11_image_8 : decode cX11_image 8 = .ok (.iconst 1, 1) := by decide +kernel
theorem dX11_image_9 : decode cX11_image 9 = .ok (.invokevirtual 100, 3) := by decide +kernel
theorem dX11_image_12 : decode cX11_image 12 = .ok (.ireturn, 1) := by decide +kernel
theorem dX11_init_0 : decode cX11_init 0 = .ok (.aload_n 0, 1) := by decide +kernel
theorem dX11_init_1 : decode cX11_init 1 = .ok (.invokespecial 1, 3) := by decide +kernel
theorem dX11_init_4 : decode cX11_init 4 = .ok (.aload_n 0, 1) := by decide +kernel
theorem dX11_init_5 : decode cX11_init 5 = .ok (.new 7, 3) := by decide +kernel
theorem dX11_init_8 : decode cX11_init 8 = .ok (.dup, 1) := by decide +kernel
theorem dX11_init_9 : decode cX11_init 9 = .ok (.invokespecial 9, 3) := by decide +kernel
theorem dX11_init_12 : decode cX11_init 12 = .ok (.putfield 10, 3) := by decide +kernel
theorem dX11_init_15 : decode cX11_init 15 = .ok (.aload_n 0, 1) := by decide +kernel
theorem dX11_init_16 : decode cX11_init 16 = .ok (.new 16, 3) := by decide +kernel
theorem dX11_init_19 : decode cX11_init 19 = .ok (.dup, 1) := by decide +kernel
theorem dX11_init_20 : decode cX11_init 20 = .ok (.invokespecial 18, 3) := by decide +kernel
theorem dX11_init_23 : decode cX11_init 23 = .ok (.putfield 19, 3) := by decide +kernel
theorem dX11_init_26 : decode cX11_init 26 = .ok (.aload_n 0, 1) := by decide +kernel
theorem dX11_init_27 : decode cX11_init 27 = .ok (.new 16, 3) := by decide +kernel
theorem dX11_init_30 : decode cX11_init 30 = .ok (.dup, 1) := by decide +kernel
theorem dX11_init_31 : decode cX11_init 31 = .ok (.invokespecial 18, 3) := by decide +kernel
theorem dX11_init_34 : decode cX11_init 34 = .ok (.putfield 23, 3) := by decide +kernel
theorem dX11_init_37 : decode cX11_init 37 = .ok (.aload_n 0, 1) := by decide +kernel
theorem dX11_init_38 : decode cX11_init 38 = .ok (.bipush 16, 2) := by decide +kernel
theorem dX11_init_40 : decode cX11_init 40 = .ok (.anewarray 16, 3) := by decide +kernel
theorem dX11_init_43 : decode cX11_init 43 = .ok (.putfield 26, 3) := by decide +kernel
theorem dX11_init_46 : decode cX11_init 46 = .ok (.aload_n 0, 1) := by decide +kernel
theorem dX11_init_47 : decode cX11_init 47 = .ok (.iconst 3, 1) := by decide +kernel
theorem dX11_init_48 : decode cX11_init 48 = .ok (.anewarray 16, 3) := by decide +kernel
theorem dX11_init_51 : decode cX11_init 51 = .ok (.putfield 30, 3) := by decide +kernel
theorem dX11_init_54 : decode cX11_init 54 = .ok (.aload_n 0, 1) := by decide +kernel
theorem dX11_init_55 : decode cX11_init 55 = .ok (.new 33, 3) := by decide +kernel
theorem dX11_init_58 : decode cX11_init 58 = .ok (.dup, 1) := by decide +kernel
theorem dX11_init_59 : decode cX11_init 59 = .ok (.invokespecial 35, 3) := by decide +kernel
theorem dX11_init_62 : decode cX11_init 62 = .ok (.putfield 36, 3) := by decide +kernel
theorem dX11_init_65 : decode cX11_init 65 = .ok (.aload_n 0, 1) := by decide +kernel
theorem dX11_init_66 : decode cX11_init 66 = .ok (.new 33, 3) := by decide +kernel
theorem dX11_init_69 : decode cX11_init 69 = .ok (.dup, 1) := by decide +kernel
theorem dX11_init_70 : decode cX11_init 70 = .ok (.invokespecial 35, 3) := by decide +kernel
theorem dX11_init_73 : decode cX11_init 73 = .ok (.putfield 40, 3) := by decide +kernel
theorem dX11_init_76 : decode cX11_init 76 = .ok (.aload_n 0, 1) := by decide +kernel
theorem dX11_init_77 : decode cX11_init 77 = .ok (.new 43, 3) := by decide +kernel
theorem dX11_init_80 : decode cX11_init 80 = .ok (.dup, 1) := by decide +kernel
theorem dX11_init_81 : decode cX11_init 81 = .ok (.invokespecial 45, 3) := by decide +kernel
theorem dX11_init_84 : decode cX11_init 84 = .ok (.putfield 46, 3) := by decide +kernel
theorem dX11_init_87 : decode cX11_init 87 = .ok (.aload_n 0, 1) := by decide +kernel
theorem dX11_init_88 : decode cX11_init 88 = .ok (.new 50, 3) := by decide +kernel
theorem dX11_init_91 : decode cX11_init 91 = .ok (.dup, 1) := by decide +kernel
theorem dX11_init_92 : decode cX11_init 92 = .ok (.invokespecial 52, 3) := by decide +kernel
theorem dX11_init_95 : decode cX11_init 95 = .ok (.putfield 53, 3) := by decide +kernel
theorem dX11_init_98 : decode cX11_init 98 = .ok (.aload_n 0, 1) := by decide +kernel
theorem dX11_init_99 : decode cX11_init 99 = .ok (.new 57, 3) := by decide +kernel
theorem dX11_init_102 : decode cX11_init 102 = .ok (.dup, 1) := by decide +kernel
theorem dX11_init_103 : decode cX11_init 103 = .ok (.invokespecial 59, 3) := by decide +kernel
theorem dX11_init_106 : decode cX11_init 106 = .ok (.putfield 60, 3) := by decide +kernel
theorem dX11_init_109 : decode cX11_init 109 = .ok (.aload_n 0, 1) := by decide +kernel
theorem dX11_init_110 : decode cX11_init 110 = .ok (.new 64, 3) := by decide +kernel
theorem dX11_init_113 : decode cX11_init 113 = .ok (.dup, 1) := by decide +kernel
theorem dX11_init_114 : decode cX11_init 114 = .ok (.invokespecial 66, 3) := by decide +kernel
theorem dX11_init_117 : decode cX11_init 117 = .ok (.putfield 67, 3) := by decide +kernel
theorem dX11_init_120 : decode cX11_init 120 = .ok (.aload_n 0, 1) := by decide +kernel
theorem dX11_init_121 : decode cX11_init 121 = .ok (.new 71, 3) := by decide +kernel
theorem dX11_init_124 : decode cX11_init 124 = .ok (.dup, 1) := by decide +kernel
theorem dX11_init_125 : decode cX11_init 125 = .ok (.invokespecial 73, 3) := by decide +kernel
theorem dX11_init_128 : decode cX11_init 128 = .ok (.putfield 74, 3) := by decide +kernel
theorem dX11_init_131 : decode cX11_init 131 = .ok (.aload_n 0, 1) := by decide +kernel
theorem dX11_init_132 : decode cX11_init 132 = .ok (.new 78, 3) := by decide +kernel
theorem dX11_init_135 : decode cX11_init 135 = .ok (.dup, 1) := by decide +kernel
theorem dX11_init_136 : decode cX11_init 136 = .ok (.invokespecial 80, 3) := by decide +kernel
theorem dX11_init_139 : decode cX11_init 139 = .ok (.putfield 81, 3) := by decide +kernel
theorem dX11_init_142 : decode cX11_init 142 = .ok (.aload_n 0, 1) := by decide +kernel
theorem dX11_init_143 : decode cX11_init 143 = .ok (.new 78, 3) := by decide +kernel
theorem dX11_init_146 : decode cX11_init 146 = .ok (.dup, 1) := by decide +kernel
theorem dX11_init_147 : decode cX11_init 147 = .ok (.invokespecial 80, 3) := by decide +kernel
theorem dX11_init_150 : decode cX11_init 150 = .ok (.putfield 85, 3) := by decide +kernel
theorem dX11_init_153 : decode cX11_init 153 = .ok (.iconst 0, 1) := by decide +kernel
theorem dX11_init_154 : decode cX11_init 154 = .ok (.istore_n 1, 1) := by decide +kernel
theorem dX11_init_155 : decode cX11_init 155 = .ok (.iload_n 1, 1) := by decide +kernel
theorem dX11_init_156 : decode cX11_init 156 = .ok (.bipush 16, 2) := by decide +kernel
theorem dX11_init_158 : decode cX11_init 158 = .ok (.if_icmp .ge 22, 3) := by decide +kernel
theorem dX11_init_161 : decode cX11_init 161 = .ok (.aload_n 0, 1) := by decide +kernel
theorem dX11_init_162 : decode cX11_init 162 = .ok (.getfield 26, 3) := by decide +kernel
theorem dX11_init_165 : decode cX11_init 165 = .ok (.iload_n 1, 1) := by decide +kernel
theorem dX11_init_166 : decode cX11_init 166 = .ok (.new 16, 3) := by decide +kernel
theorem dX11_init_169 : decode cX11_init 169 = .ok (.dup, 1) := by decide +kernel
theorem dX11_init_170 : decode cX11_init 170 = .ok (.invokespecial 18, 3) := by decide +kernel
theorem dX11_init_173 : decode cX11_init 173 = .ok (.aastore, 1) := by decide +kernel
theorem dX11_init_174 : decode cX11_init 174 = .ok (.iinc 1 1, 3) := by decide +kernel
theorem dX11_init_177 : decode cX11_init 177 = .ok (.goto (-22), 3) := by decide +kernel
theorem dX11_init_180 : decode cX11_init 180 = .ok (.iconst 0, 1) := by decide +kernel
theorem dX11_init_181 : decode cX11_init 181 = .ok (.istore_n 1, 1) := by decide +kernel
theorem dX11_init_182 : decode cX11_init 182 = .ok (.iload_n 1, 1) := by decide +kernel
theorem dX11_init_183 : decode cX11_init 183 = .ok (.iconst 3, 1) := by decide +kernel
theorem dX11_init_184 : decode cX11_init 184 = .ok (.if_icmp .ge 22, 3) := by decide +kernel
theorem dX11_init_187 : decode cX11_init 187 = .ok (.aload_n 0, 1) := by decide +kernel
theorem dX11_init_188 : decode cX11_init 188 = .ok (.getfield 30, 3) := by decide +kernel
theorem dX11_init_191 : decode cX11_init 191 = .ok (.iload_n 1, 1) := by decide +kernel
theorem dX11_init_192 : decode cX11_init 192 = .ok (.new 16, 3) := by decide +kernel
theorem dX11_init_195 : decode cX11_init 195 = .ok (.dup, 1) := by decide +kernel
theorem dX11_init_196 : decode cX11_init 196 = .ok (.invokespecial 18, 3) := by decide +kernel
theorem dX11_init_199 : decode cX11_init 199 = .ok (.aastore, 1) := by decide +kernel
theorem dX11_init_200 : decode cX11_init 200 = .ok (.iinc 1 1, 3) := by decide +kernel
theorem dX11_init_203 : decode cX11_init 203 = .ok (.goto (-21), 3) := by decide +kernel
theorem dX11_init_206 : decode cX11_init 206 = .ok (.return_, 1) := by decide +kernel
theorem dX11_isWalker_0 : decode cX11_isWalker 0 = .ok (.iload_n 1, 1) := by decide +kernel
theorem dX11_isWalker_1 : decode cX11_isWalker 1 = .ok (.ifCond .lt 18, 3) := by decide +kernel
theorem dX11_isWalker_4 : decode cX11_isWalker 4 = .ok (.iload_n 1, 1) := by decide +kernel
theorem dX11_isWalker_5 : decode cX11_isWalker 5 = .ok (.aload_n 0, 1) := by decide +kernel
theorem dX11_isWalker_6 : decode cX11_isWalker 6 = .ok (.getfield 81, 3) := by decide +kernel
theorem dX11_isWalker_9 : decode cX11_isWalker 9 = .ok (.getfield 223, 3) := by decide +kernel
theorem dX11_isWalker_12 : decode cX11_isWalker 12 = .ok (.if_icmp .ge 7, 3) := by decide +kernel
theorem dX11_isWalker_19 : decode cX11_isWalker 19 = .ok (.iconst 0, 1) := by decide +kernel
theorem dX11_isWalker_20 : decode cX11_isWalker 20 = .ok (.ireturn, 1) := by decide +kernel
theorem dX11_judge_0 : decode cX11_judge 0 = .ok (.aload_n 0, 1) := by decide +kernel
theorem dX11_judge_1 : decode cX11_judge 1 = .ok (.invokevirtual 188, 3) := by decide +kernel
theorem dX11_judge_4 : decode cX11_judge 4 = .ok (.ifCond .ne 9, 3) := by decide +kernel
theorem dX11_judge_7 : decode cX11_judge 7 = .ok (.aload_n 0, 1) := by decide +kernel
theorem dX11_judge_8 : decode cX11_judge 8 = .ok (.iconst 1, 1) := by decide +kernel
theorem dX11_judge_9 : decode cX11_judge 9 = .ok (.invokevirtual 100, 3) := by decide +kernel
theorem dX11_judge_12 : decode cX11_judge 12 = .ok (.ireturn, 1) := by decide +kernel
theorem dX11_latest_0 : decode cX11_latest 0 = .ok (.aload_n 0, 1) := by decide +kernel
theorem dX11_latest_1 : decode cX11_latest 1 = .ok (.invokevirtual 188, 3) := by decide +kernel
theorem dX11_latest_4 : decode cX11_latest 4 = .ok (.ifCond .ne 9, 3) := by decide +kernel
theorem dX11_latest_7 : decode cX11_latest 7 = .ok (.aload_n 0, 1) := by decide +kernel
theorem dX11_latest_8 : decode cX11_latest 8 = .ok (.iconst 1, 1) := by decide +kernel
theorem dX11_latest_9 : decode cX11_latest 9 = .ok (.invokevirtual 100, 3) := by decide +kernel
theorem dX11_latest_12 : decode cX11_latest 12 = .ok (.ireturn, 1) := by decide +kernel
theorem dX11_led_0 : decode cX11_led 0 = .ok (.iconst 0, 1) := by decide +kernel
theorem dX11_led_1 : decode cX11_led 1 = .ok (.istore_n 2, 1) := by decide +kernel
theorem dX11_led_2 : decode cX11_led 2 = .ok (.iconst 0, 1) := by decide +kernel
theorem dX11_led_3 : decode cX11_led 3 = .ok (.istore_n 3, 1) := by decide +kernel
theorem dX11_led_4 : decode cX11_led 4 = .ok (.iload_n 3, 1) := by decide +kernel
theorem dX11_led_5 : decode cX11_led 5 = .ok (.aload_n 0, 1) := by decide +kernel
theorem dX11_led_6 : decode cX11_led 6 = .ok (.getfield 81, 3) := by decide +kernel
theorem dX11_led_9 : decode cX11_led 9 = .ok (.getfield 223, 3) := by decide +kernel
theorem dX11_led_12 : decode cX11_led 12 = .ok (.if_icmp .ge 38, 3) := by decide +kernel
theorem dX11_led_50 : decode cX11_led 50 = .ok (.new 357, 3) := by decide +kernel
theorem dX11_led_53 : decode cX11_led 53 = .ok (.dup, 1) := by decide +kernel
theorem dX11_led_54 : decode cX11_led 54 = .ok (.invokespecial 359, 3) := by decide +kernel
theorem dX11_led_57 : decode cX11_led 57 = .ok (.athrow, 1) := by decide +kernel
theorem dX11_lies_0 : decode cX11_lies 0 = .ok (.aload_n 0, 1) := by decide +kernel
theorem dX11_lies_1 : decode cX11_lies 1 = .ok (.iload_n 1, 1) := by decide +kernel
theorem dX11_lies_2 : decode cX11_lies 2 = .ok (.invokevirtual 318, 3) := by decide +kernel
theorem dX11_lies_5 : decode cX11_lies 5 = .ok (.istore 5, 2) := by decide +kernel
theorem dX11_lies_7 : decode cX11_lies 7 = .ok (.iload 5, 2) := by decide +kernel
theorem dX11_lies_9 : decode cX11_lies 9 = .ok (.ifCond .eq 13, 3) := by decide +kernel
theorem dX11_lies_12 : decode cX11_lies 12 = .ok (.aload_n 0, 1) := by decide +kernel
theorem dX11_lies_13 : decode cX11_lies 13 = .ok (.iload 5, 2) := by decide +kernel
theorem dX11_lies_15 : decode cX11_lies 15 = .ok (.invokevirtual 100, 3) := by decide +kernel
theorem dX11_lies_18 : decode cX11_lies 18 = .ok (.pop, 1) := by decide +kernel
theorem dX11_lies_19 : decode cX11_lies 19 = .ok (.bipush (-100), 2) := by decide +kernel
theorem dX11_lies_21 : decode cX11_lies 21 = .ok (.ireturn, 1) := by decide +kernel
theorem dX11_likeliest_0 : decode cX11_likeliest 0 = .ok (.aload_n 0, 1) := by decide +kernel
theorem dX11_likeliest_1 : decode cX11_likeliest 1 = .ok (.invokevirtual 188, 3) := by decide +kernel
theorem dX11_likeliest_4 : decode cX11_likeliest 4 = .ok (.ifCond .ne 9, 3) := by decide +kernel
theorem dX11_likeliest_7 : decode cX11_likeliest 7 = .ok (.aload_n 0, 1) := by decide +kernel
theorem dX11_likeliest_8 : decode cX11_likeliest 8 = .ok (.iconst 1, 1) := by decide +kernel
theorem dX11_likeliest_9 : decode cX11_likeliest 9 = .ok (.invokevirtual 100, 3) := by decide +kernel
theorem dX11_likeliest_12 : decode cX11_likeliest 12 = .ok (.ireturn, 1) := by decide +kernel
theorem dX11_mean_0 : decode cX11_mean 0 = .ok (.aload_n 0, 1) := by decide +kernel
theorem dX11_mean_1 : decode cX11_mean 1 = .ok (.iload_n 1, 1) := by decide +kernel
theorem dX11_mean_2 : decode cX11_mean 2 = .ok (.invokevirtual 159, 3) := by decide +kernel
theorem dX11_mean_5 : decode cX11_mean 5 = .ok (.ifCond .ne 10, 3) := by decide +kernel
theorem dX11_mean_8 : decode cX11_mean 8 = .ok (.aload_n 0, 1) := by decide +kernel
theorem dX11_mean_9 : decode cX11_mean 9 = .ok (.iconst 1, 1) := by decide +kernel
theorem dX11_mean_10 : decode cX11_mean 10 = .ok (.invokevirtual 100, 3) := by decide +kernel
theorem dX11_mean_13 : decode cX11_mean 13 = .ok (.i2l, 1) := by decide +kernel
theorem dX11_mean_14 : decode cX11_mean 14 = .ok (.lreturn, 1) := by decide +kernel
theorem dX11_meet_0 : decode cX11_meet 0 = .ok (.aload_n 0, 1) := by decide +kernel
theorem dX11_meet_1 : decode cX11_meet 1 = .ok (.iload_n 1, 1) := by decide +kernel
theorem dX11_meet_2 : decode cX11_meet 2 = .ok (.invokevirtual 159, 3) := by decide +kernel
theorem dX11_meet_5 : decode cX11_meet 5 = .ok (.ifCond .eq 16, 3) := by decide +kernel
theorem dX11_meet_21 : decode cX11_meet 21 = .ok (.aload_n 0, 1) := by decide +kernel
theorem dX11_meet_22 : decode cX11_meet 22 = .ok (.iconst 1, 1) := by decide +kernel
theorem dX11_meet_23 : decode cX11_meet 23 = .ok (.invokevirtual 100, 3) := by decide +kernel
theorem dX11_meet_26 : decode cX11_meet 26 = .ok (.ireturn, 1) := by decide +kernel
theorem dX11_meetAt_0 : decode cX11_meetAt 0 = .ok (.aload_n 0, 1) := by decide +kernel
theorem dX11_meetAt_1 : decode cX11_meetAt 1 = .ok (.iload_n 1, 1) := by decide +kernel
theorem dX11_meetAt_2 : decode cX11_meetAt 2 = .ok (.invokevirtual 159, 3) := by decide +kernel
theorem dX11_meetAt_5 : decode cX11_meetAt 5 = .ok (.ifCond .eq 16, 3) := by decide +kernel
theorem dX11_meetAt_21 : decode cX11_meetAt 21 = .ok (.aload_n 0, 1) := by decide +kernel
theorem dX11_meetAt_22 : decode cX11_meetAt 22 = .ok (.iconst 1, 1) := by decide +kernel
theorem dX11_meetAt_23 : decode cX11_meetAt 23 = .ok (.invokevirtual 100, 3) := by decide +kernel
theorem dX11_meetAt_26 : decode cX11_meetAt 26 = .ok (.ireturn, 1) := by decide +kernel
theorem dX11_minutes_0 : decode cX11_minutes 0 = .ok (.aload_n 0, 1) := by decide +kernel
theorem dX11_minutes_1 : decode cX11_minutes 1 = .ok (.iload_n 1, 1) := by decide +kernel
theorem dX11_minutes_2 : decode cX11_minutes 2 = .ok (.invokevirtual 159, 3) := by decide +kernel
theorem dX11_minutes_5 : decode cX11_minutes 5 = .ok (.ifCond .eq 17, 3) := by decide +kernel
theorem dX11_minutes_22 : decode cX11_minutes 22 = .ok (.aload_n 0, 1) := by decide +kernel
theorem dX11_minutes_23 : decode cX11_minutes 23 = .ok (.iconst 1, 1) := by decide +kernel
theorem dX11_minutes_24 : decode cX11_minutes 24 = .ok (.invokevirtual 100, 3) := by decide +kernel
theorem dX11_minutes_27 : decode cX11_minutes 27 = .ok (.ireturn, 1) := by decide +kernel
theorem dX11_minutesTo_0 : decode cX11_minutesTo 0 = .ok (.aload_n 0, 1) := by decide +kernel
theorem dX11_minutesTo_1 : decode cX11_minutesTo 1 = .ok (.iload_n 1, 1) := by decide +kernel
theorem dX11_minutesTo_2 : decode cX11_minutesTo 2 = .ok (.invokevirtual 159, 3) := by decide +kernel
theorem dX11_minutesTo_5 : decode cX11_minutesTo 5 = .ok (.ifCond .eq 17, 3) := by decide +kernel
theorem dX11_minutesTo_22 : decode cX11_minutesTo 22 = .ok (.aload_n 0, 1) := by decide +kernel
theorem dX11_minutesTo_23 : decode cX11_minutesTo 23 = .ok (.iconst 1, 1) := by decide +kernel
theorem dX11_minutesTo_24 : decode cX11_minutesTo 24 = .ok (.invokevirtual 100, 3) := by decide +kernel
theorem dX11_minutesTo_27 : decode cX11_minutesTo 27 = .ok (.ireturn, 1) := by decide +kernel
theorem dX11_odds_0 : decode cX11_odds 0 = .ok (.iload_n 1, 1) := by decide +kernel
theorem dX11_odds_1 : decode cX11_odds 1 = .ok (.ifCond .lt 14, 3) := by decide +kernel
theorem dX11_odds_4 : decode cX11_odds 4 = .ok (.iload_n 1, 1) := by decide +kernel
theorem dX11_odds_5 : decode cX11_odds 5 = .ok (.aload_n 0, 1) := by decide +kernel
theorem dX11_odds_6 : decode cX11_odds 6 = .ok (.getfield 81, 3) := by decide +kernel
theorem dX11_odds_9 : decode cX11_odds 9 = .ok (.getfield 274, 3) := by decide +kernel
theorem dX11_odds_12 : decode cX11_odds 12 = .ok (.if_icmp .lt 10, 3) := by decide +kernel
theorem dX11_odds_15 : decode cX11_odds 15 = .ok (.aload_n 0, 1) := by decide +kernel
theorem dX11_odds_16 : decode cX11_odds 16 = .ok (.iconst 1, 1) := by decide +kernel
theorem dX11_odds_17 : decode cX11_odds 17 = .ok (.invokevirtual 100, 3) := by decide +kernel
theorem dX11_odds_20 : decode cX11_odds 20 = .ok (.i2l, 1) := by decide +kernel
theorem dX11_odds_21 : decode cX11_odds 21 = .ok (.lreturn, 1) := by decide +kernel
theorem dX11_park_0 : decode cX11_park 0 = .ok (.iload_n 1, 1) := by decide +kernel
theorem dX11_park_1 : decode cX11_park 1 = .ok (.ifCond .lt 14, 3) := by decide +kernel
theorem dX11_park_4 : decode cX11_park 4 = .ok (.iload_n 1, 1) := by decide +kernel
theorem dX11_park_5 : decode cX11_park 5 = .ok (.aload_n 0, 1) := by decide +kernel
theorem dX11_park_6 : decode cX11_park 6 = .ok (.getfield 10, 3) := by decide +kernel
theorem dX11_park_9 : decode cX11_park 9 = .ok (.getfield 96, 3) := by decide +kernel
theorem dX11_park_12 : decode cX11_park 12 = .ok (.if_icmp .le 9, 3) := by decide +kernel
theorem dX11_park_15 : decode cX11_park 15 = .ok (.aload_n 0, 1) := by decide +kernel
theorem dX11_park_16 : decode cX11_park 16 = .ok (.iconst 2, 1) := by decide +kernel
theorem dX11_park_17 : decode cX11_park 17 = .ok (.invokevirtual 100, 3) := by decide +kernel
theorem dX11_park_20 : decode cX11_park 20 = .ok (.ireturn, 1) := by decide +kernel
theorem dX11_park_21 : decode cX11_park 21 = .ok (.aload_n 0, 1) := by decide +kernel
theorem dX11_park_22 : decode cX11_park 22 = .ok (.getfield 10, 3) := by decide +kernel
theorem dX11_park_25 : decode cX11_park 25 = .ok (.iload_n 1, 1) := by decide +kernel
theorem dX11_park_26 : decode cX11_park 26 = .ok (.aload_n 0, 1) := by decide +kernel
theorem dX11_park_27 : decode cX11_park 27 = .ok (.getfield 85, 3) := by decide +kernel
theorem dX11_park_30 : decode cX11_park 30 = .ok (.invokevirtual 104, 3) := by decide +kernel
theorem dX11_park_33 : decode cX11_park 33 = .ok (.ifCond .ne 9, 3) := by decide +kernel
theorem dX11_park_36 : decode cX11_park 36 = .ok (.aload_n 0, 1) := by decide +kernel
theorem dX11_park_37 : decode cX11_park 37 = .ok (.iconst 4, 1) := by decide +kernel
theorem dX11_park_38 : decode cX11_park 38 = .ok (.invokevirtual 100, 3) := by decide +kernel
theorem dX11_park_41 : decode cX11_park 41 = .ok (.ireturn, 1) := by decide +kernel
theorem dX11_passers_0 : decode cX11_passers 0 = .ok (.aload_n 0, 1) := by decide +kernel
theorem dX11_passers_1 : decode cX11_passers 1 = .ok (.getfield 19, 3) := by decide +kernel
theorem dX11_passers_4 : decode cX11_passers 4 = .ok (.getfield 121, 3) := by decide +kernel
theorem dX11_passers_7 : decode cX11_passers 7 = .ok (.iload_n 1, 1) := by decide +kernel
theorem dX11_passers_8 : decode cX11_passers 8 = .ok (.invokevirtual 142, 3) := by decide +kernel
theorem dX11_passers_11 : decode cX11_passers 11 = .ok (.ifCond .ne 9, 3) := by decide +kernel
theorem dX11_passers_14 : decode cX11_passers 14 = .ok (.aload_n 0, 1) := by decide +kernel
theorem dX11_passers_15 : decode cX11_passers 15 = .ok (.iconst 1, 1) := by decide +kernel
theorem dX11_passers_16 : decode cX11_passers 16 = .ok (.invokevirtual 100, 3) := by decide +kernel
theorem dX11_passers_19 : decode cX11_passers 19 = .ok (.ireturn, 1) := by decide +kernel
theorem dX11_place_0 : decode cX11_place 0 = .ok (.aload_n 0, 1) := by decide +kernel
theorem dX11_place_1 : decode cX11_place 1 = .ok (.getfield 19, 3) := by decide +kernel
theorem dX11_place_4 : decode cX11_place 4 = .ok (.getfield 121, 3) := by decide +kernel
theorem dX11_place_7 : decode cX11_place 7 = .ok (.iload_n 1, 1) := by decide +kernel
theorem dX11_place_8 : decode cX11_place 8 = .ok (.invokevirtual 142, 3) := by decide +kernel
theorem dX11_place_11 : decode cX11_place 11 = .ok (.ifCond .ne 9, 3) := by decide +kernel
theorem dX11_place_14 : decode cX11_place 14 = .ok (.aload_n 0, 1) := by decide +kernel
theorem dX11_place_15 : decode cX11_place 15 = .ok (.iconst 1, 1) := by decide +kernel
theorem dX11_place_16 : decode cX11_place 16 = .ok (.invokevirtual 100, 3) := by decide +kernel
theorem dX11_place_19 : decode cX11_place 19 = .ok (.ireturn, 1) := by decide +kernel
theorem dX11_quick_0 : decode cX11_quick 0 = .ok (.aload_n 0, 1) := by decide +kernel
theorem dX11_quick_1 : decode cX11_quick 1 = .ok (.iload_n 1, 1) := by decide +kernel
theorem dX11_quick_2 : decode cX11_quick 2 = .ok (.invokevirtual 159, 3) := by decide +kernel
theorem dX11_quick_5 : decode cX11_quick 5 = .ok (.ifCond .ne 9, 3) := by decide +kernel
theorem dX11_quick_8 : decode cX11_quick 8 = .ok (.aload_n 0, 1) := by decide +kernel
theorem dX11_quick_9 : decode cX11_quick 9 = .ok (.iconst 1, 1) := by decide +kernel
theorem dX11_quick_10 : decode cX11_quick 10 = .ok (.invokevirtual 100, 3) := by decide +kernel
theorem dX11_quick_13 : decode cX11_quick 13 = .ok (.ireturn, 1) := by decide +kernel
theorem dX11_quickAt_0 : decode cX11_quickAt 0 = .ok (.aload_n 0, 1) := by decide +kernel
theorem dX11_quickAt_1 : decode cX11_quickAt 1 = .ok (.iload_n 1, 1) := by decide +kernel
theorem dX11_quickAt_2 : decode cX11_quickAt 2 = .ok (.invokevirtual 159, 3) := by decide +kernel
theorem dX11_quickAt_5 : decode cX11_quickAt 5 = .ok (.ifCond .eq 26, 3) := by decide +kernel
theorem dX11_quickAt_31 : decode cX11_quickAt 31 = .ok (.aload_n 0, 1) := by decide +kernel
theorem dX11_quickAt_32 : decode cX11_quickAt 32 = .ok (.iconst 1, 1) := by decide +kernel
theorem dX11_quickAt_33 : decode cX11_quickAt 33 = .ok (.invokevirtual 100, 3) := by decide +kernel
theorem dX11_quickAt_36 : decode cX11_quickAt 36 = .ok (.ireturn, 1) := by decide +kernel
theorem dX11_quickFalls_0 : decode cX11_quickFalls 0 = .ok (.aload_n 0, 1) := by decide +kernel
theorem dX11_quickFalls_1 : decode cX11_quickFalls 1 = .ok (.iload_n 1, 1) := by decide +kernel
theorem dX11_quickFalls_2 : decode cX11_quickFalls 2 = .ok (.invokevirtual 159, 3) := by decide +kernel
theorem dX11_quickFalls_5 : decode cX11_quickFalls 5 = .ok (.ifCond .ne 9, 3) := by decide +kernel
theorem dX11_quickFalls_8 : decode cX11_quickFalls 8 = .ok (.aload_n 0, 1) := by decide +kernel
theorem dX11_quickFalls_9 : decode cX11_quickFalls 9 = .ok (.iconst 1, 1) := by decide +kernel
theorem dX11_quickFalls_10 : decode cX11_quickFalls 10 = .ok (.invokevirtual 100, 3) := by decide +kernel
theorem dX11_quickFalls_13 : decode cX11_quickFalls 13 = .ok (.ireturn, 1) := by decide +kernel
theorem dX11_ramble_0 : decode cX11_ramble 0 = .ok (.aload_n 0, 1) := by decide +kernel
theorem dX11_ramble_1 : decode cX11_ramble 1 = .ok (.iload_n 1, 1) := by decide +kernel
theorem dX11_ramble_2 : decode cX11_ramble 2 = .ok (.iload_n 2, 1) := by decide +kernel
theorem dX11_ramble_3 : decode cX11_ramble 3 = .ok (.iload_n 3, 1) := by decide +kernel
theorem dX11_ramble_4 : decode cX11_ramble 4 = .ok (.invokevirtual 338, 3) := by decide +kernel
theorem dX11_ramble_7 : decode cX11_ramble 7 = .ok (.istore 4, 2) := by decide +kernel
theorem dX11_ramble_9 : decode cX11_ramble 9 = .ok (.iload 4, 2) := by decide +kernel
theorem dX11_ramble_11 : decode cX11_ramble 11 = .ok (.ifCond .eq 10, 3) := by decide +kernel
theorem dX11_ramble_14 : decode cX11_ramble 14 = .ok (.aload_n 0, 1) := by decide +kernel
theorem dX11_ramble_15 : decode cX11_ramble 15 = .ok (.iload 4, 2) := by decide +kernel
theorem dX11_ramble_17 : decode cX11_ramble 17 = .ok (.invokevirtual 100, 3) := by decide +kernel
theorem dX11_ramble_20 : decode cX11_ramble 20 = .ok (.ireturn, 1) := by decide +kernel
theorem dX11_rambleFalls_0 : decode cX11_rambleFalls 0 = .ok (.aload_n 0, 1) := by decide +kernel
theorem dX11_rambleFalls_1 : decode cX11_rambleFalls 1 = .ok (.iload_n 1, 1) := by decide +kernel
theorem dX11_rambleFalls_2 : decode cX11_rambleFalls 2 = .ok (.iload_n 2, 1) := by decide +kernel
theorem dX11_rambleFalls_3 : decode cX11_rambleFalls 3 = .ok (.iload_n 3, 1) := by decide +kernel
theorem dX11_rambleFalls_4 : decode cX11_rambleFalls 4 = .ok (.invokevirtual 338, 3) := by decide +kernel
theorem dX11_rambleFalls_7 : decode cX11_rambleFalls 7 = .ok (.istore 4, 2) := by decide +kernel
theorem dX11_rambleFalls_9 : decode cX11_rambleFalls 9 = .ok (.iload 4, 2) := by decide +kernel
theorem dX11_rambleFalls_11 : decode cX11_rambleFalls 11 = .ok (.ifCond .eq 10, 3) := by decide +kernel
theorem dX11_rambleFalls_14 : decode cX11_rambleFalls 14 = .ok (.aload_n 0, 1) := by decide +kernel
theorem dX11_rambleFalls_15 : decode cX11_rambleFalls 15 = .ok (.iload 4, 2) := by decide +kernel
theorem dX11_rambleFalls_17 : decode cX11_rambleFalls 17 = .ok (.invokevirtual 100, 3) := by decide +kernel
theorem dX11_rambleFalls_20 : decode cX11_rambleFalls 20 = .ok (.ireturn, 1) := by decide +kernel
theorem dX11_reach_0 : decode cX11_reach 0 = .ok (.aload_n 0, 1) := by decide +kernel
theorem dX11_reach_1 : decode cX11_reach 1 = .ok (.iload_n 1, 1) := by decide +kernel
theorem dX11_reach_2 : decode cX11_reach 2 = .ok (.invokevirtual 159, 3) := by decide +kernel
theorem dX11_reach_5 : decode cX11_reach 5 = .ok (.ifCond .ne 9, 3) := by decide +kernel
theorem dX11_reach_8 : decode cX11_reach 8 = .ok (.aload_n 0, 1) := by decide +kernel
theorem dX11_reach_9 : decode cX11_reach 9 = .ok (.iconst 1, 1) := by decide +kernel
theorem dX11_reach_10 : decode cX11_reach 10 = .ok (.invokevirtual 100, 3) := by decide +kernel
theorem dX11_reach_13 : decode cX11_reach 13 = .ok (.ireturn, 1) := by decide +kernel
theorem dX11_reachIn_0 : decode cX11_reachIn 0 = .ok (.aload_n 0, 1) := by decide +kernel
theorem dX11_reachIn_1 : decode cX11_reachIn 1 = .ok (.iload_n 1, 1) := by decide +kernel
theorem dX11_reachIn_2 : decode cX11_reachIn 2 = .ok (.invokevirtual 159, 3) := by decide +kernel
theorem dX11_reachIn_5 : decode cX11_reachIn 5 = .ok (.ifCond .ne 9, 3) := by decide +kernel
theorem dX11_reachIn_8 : decode cX11_reachIn 8 = .ok (.aload_n 0, 1) := by decide +kernel
theorem dX11_reachIn_9 : decode cX11_reachIn 9 = .ok (.iconst 1, 1) := by decide +kernel
theorem dX11_reachIn_10 : decode cX11_reachIn 10 = .ok (.invokevirtual 100, 3) := by decide +kernel
theorem dX11_reachIn_13 : decode cX11_reachIn 13 = .ok (.ireturn, 1) := by decide +kernel
theorem dX11_refusalOfRamble_0 : decode cX11_refusalOfRamble 0 = .ok (.aload_n 0, 1) := by decide +kernel
theorem dX11_refusalOfRamble_1 : decode cX11_refusalOfRamble 1 = .ok (.iload_n 1, 1) := by decide +kernel
theorem dX11_refusalOfRamble_2 : decode cX11_refusalOfRamble 2 = .ok (.invokevirtual 159, 3) := by decide +kernel
theorem dX11_refusalOfRamble_5 : decode cX11_refusalOfRamble 5 = .ok (.ifCond .ne 5, 3) := by decide +kernel
theorem dX11_refusalOfRamble_8 : decode cX11_refusalOfRamble 8 = .ok (.iconst 1, 1) := by decide +kernel
theorem dX11_refusalOfRamble_9 : decode cX11_refusalOfRamble 9 = .ok (.ireturn, 1) := by decide +kernel
theorem dX11_refusalOfShame_0 : decode cX11_refusalOfShame 0 = .ok (.aload_n 0, 1) := by decide +kernel
theorem dX11_refusalOfShame_1 : decode cX11_refusalOfShame 1 = .ok (.invokevirtual 188, 3) := by decide +kernel
theorem dX11_refusalOfShame_4 : decode cX11_refusalOfShame 4 = .ok (.ifCond .ne 5, 3) := by decide +kernel
theorem dX11_refusalOfShame_7 : decode cX11_refusalOfShame 7 = .ok (.iconst 1, 1) := by decide +kernel
theorem dX11_refusalOfShame_8 : decode cX11_refusalOfShame 8 = .ok (.ireturn, 1) := by decide +kernel
theorem dX11_refuse_0 : decode cX11_refuse 0 = .ok (.aload_n 0, 1) := by decide +kernel
theorem dX11_refuse_1 : decode cX11_refuse 1 = .ok (.iload_n 1, 1) := by decide +kernel
theorem dX11_refuse_2 : decode cX11_refuse 2 = .ok (.putfield 136, 3) := by decide +kernel
theorem dX11_refuse_5 : decode cX11_refuse 5 = .ok (.iconst (-1), 1) := by decide +kernel
theorem dX11_refuse_6 : decode cX11_refuse 6 = .ok (.ireturn, 1) := by decide +kernel
theorem dX11_report_0 : decode cX11_report 0 = .ok (.aload_n 0, 1) := by decide +kernel
theorem dX11_report_1 : decode cX11_report 1 = .ok (.iload_n 1, 1) := by decide +kernel
theorem dX11_report_2 : decode cX11_report 2 = .ok (.putfield 136, 3) := by decide +kernel
theorem dX11_report_5 : decode cX11_report 5 = .ok (.iload_n 1, 1) := by decide +kernel
theorem dX11_report_6 : decode cX11_report 6 = .ok (.ifCond .ne 7, 3) := by decide +kernel
theorem dX11_report_13 : decode cX11_report 13 = .ok (.iconst 0, 1) := by decide +kernel
theorem dX11_report_14 : decode cX11_report 14 = .ok (.ireturn, 1) := by decide +kernel
theorem dX11_rest_0 : decode cX11_rest 0 = .ok (.aload_n 0, 1) := by decide +kernel
theorem dX11_rest_1 : decode cX11_rest 1 = .ok (.iload_n 1, 1) := by decide +kernel
theorem dX11_rest_2 : decode cX11_rest 2 = .ok (.invokevirtual 318, 3) := by decide +kernel
theorem dX11_rest_5 : decode cX11_rest 5 = .ok (.istore_n 2, 1) := by decide +kernel
theorem dX11_rest_6 : decode cX11_rest 6 = .ok (.iload_n 2, 1) := by decide +kernel
theorem dX11_rest_7 : decode cX11_rest 7 = .ok (.ifCond .eq 9, 3) := by decide +kernel
theorem dX11_rest_10 : decode cX11_rest 10 = .ok (.aload_n 0, 1) := by decide +kernel
theorem dX11_rest_11 : decode cX11_rest 11 = .ok (.iload_n 2, 1) := by decide +kernel
theorem dX11_rest_12 : decode cX11_rest 12 = .ok (.invokevirtual 100, 3) := by decide +kernel
theorem dX11_rest_15 : decode cX11_rest 15 = .ok (.ireturn, 1) := by decide +kernel
theorem dX11_rests_0 : decode cX11_rests 0 = .ok (.aload_n 0, 1) := by decide +kernel
theorem dX11_rests_1 : decode cX11_rests 1 = .ok (.iload_n 1, 1) := by decide +kernel
theorem dX11_rests_2 : decode cX11_rests 2 = .ok (.invokevirtual 318, 3) := by decide +kernel
theorem dX11_rests_5 : decode cX11_rests 5 = .ok (.istore_n 2, 1) := by decide +kernel
theorem dX11_rests_6 : decode cX11_rests 6 = .ok (.iload_n 2, 1) := by decide +kernel
theorem dX11_rests_7 : decode cX11_rests 7 = .ok (.ifCond .eq 9, 3) := by decide +kernel
theorem dX11_rests_10 : decode cX11_rests 10 = .ok (.aload_n 0, 1) := by decide +kernel
theorem dX11_rests_11 : decode cX11_rests 11 = .ok (.iload_n 2, 1) := by decide +kernel
theorem dX11_rests_12 : decode cX11_rests 12 = .ok (.invokevirtual 100, 3) := by decide +kernel
theorem dX11_rests_15 : decode cX11_rests 15 = .ok (.ireturn, 1) := by decide +kernel
theorem dX11_size_0 : decode cX11_size 0 = .ok (.iload_n 1, 1) := by decide +kernel
theorem dX11_size_1 : decode cX11_size 1 = .ok (.tableswitch 135 0 9 #[55, 66, 77, 85, 93, 101, 109, 117, 122, 127], 55) := by decide +kernel
theorem dX11_size_56 : decode cX11_size 56 = .ok (.aload_n 0, 1) := by decide +kernel
theorem dX11_size_57 : decode cX11_size 57 = .ok (.getfield 19, 3) := by decide +kernel
theorem dX11_size_60 : decode cX11_size 60 = .ok (.getfield 121, 3) := by decide +kernel
theorem dX11_size_63 : decode cX11_size 63 = .ok (.getfield 309, 3) := by decide +kernel
theorem dX11_size_66 : decode cX11_size 66 = .ok (.ireturn, 1) := by decide +kernel
theorem dX11_size_67 : decode cX11_size 67 = .ok (.aload_n 0, 1) := by decide +kernel
theorem dX11_size_68 : decode cX11_size 68 = .ok (.getfield 19, 3) := by decide +kernel
theorem dX11_size_71 : decode cX11_size 71 = .ok (.getfield 121, 3) := by decide +kernel
theorem dX11_size_74 : decode cX11_size 74 = .ok (.getfield 360, 3) := by decide +kernel
theorem dX11_size_77 : decode cX11_size 77 = .ok (.ireturn, 1) := by decide +kernel
theorem dX11_size_78 : decode cX11_size 78 = .ok (.aload_n 0, 1) := by decide +kernel
theorem dX11_size_79 : decode cX11_size 79 = .ok (.getfield 81, 3) := by decide +kernel
theorem dX11_size_82 : decode cX11_size 82 = .ok (.getfield 363, 3) := by decide +kernel
theorem dX11_size_85 : decode cX11_size 85 = .ok (.ireturn, 1) := by decide +kernel
theorem dX11_size_86 : decode cX11_size 86 = .ok (.aload_n 0, 1) := by decide +kernel
theorem dX11_size_87 : decode cX11_size 87 = .ok (.getfield 81, 3) := by decide +kernel
theorem dX11_size_90 : decode cX11_size 90 = .ok (.getfield 329, 3) := by decide +kernel
theorem dX11_size_93 : decode cX11_size 93 = .ok (.ireturn, 1) := by decide +kernel
theorem dX11_size_94 : decode cX11_size 94 = .ok (.aload_n 0, 1) := by decide +kernel
theorem dX11_size_95 : decode cX11_size 95 = .ok (.getfield 81, 3) := by decide +kernel
theorem dX11_size_98 : decode cX11_size 98 = .ok (.getfield 223, 3) := by decide +kernel
theorem dX11_size_101 : decode cX11_size 101 = .ok (.ireturn, 1) := by decide +kernel
theorem dX11_size_102 : decode cX11_size 102 = .ok (.aload_n 0, 1) := by decide +kernel
theorem dX11_size_103 : decode cX11_size 103 = .ok (.getfield 81, 3) := by decide +kernel
theorem dX11_size_106 : decode cX11_size 106 = .ok (.getfield 302, 3) := by decide +kernel
theorem dX11_size_109 : decode cX11_size 109 = .ok (.ireturn, 1) := by decide +kernel
theorem dX11_size_110 : decode cX11_size 110 = .ok (.aload_n 0, 1) := by decide +kernel
theorem dX11_size_111 : decode cX11_size 111 = .ok (.getfield 81, 3) := by decide +kernel
theorem dX11_size_114 : decode cX11_size 114 = .ok (.getfield 274, 3) := by decide +kernel
theorem dX11_size_117 : decode cX11_size 117 = .ok (.ireturn, 1) := by decide +kernel
theorem dX11_size_118 : decode cX11_size 118 = .ok (.aload_n 0, 1) := by decide +kernel
theorem dX11_size_119 : decode cX11_size 119 = .ok (.getfield 115, 3) := by decide +kernel
theorem dX11_size_122 : decode cX11_size 122 = .ok (.ireturn, 1) := by decide +kernel
theorem dX11_size_123 : decode cX11_size 123 = .ok (.aload_n 0, 1) := by decide +kernel
theorem dX11_size_124 : decode cX11_size 124 = .ok (.getfield 118, 3) := by decide +kernel
theorem dX11_size_127 : decode cX11_size 127 = .ok (.ireturn, 1) := by decide +kernel
theorem dX11_size_128 : decode cX11_size 128 = .ok (.aload_n 0, 1) := by decide +kernel
theorem dX11_size_129 : decode cX11_size 129 = .ok (.getfield 10, 3) := by decide +kernel
theorem dX11_size_132 : decode cX11_size 132 = .ok (.getfield 96, 3) := by decide +kernel
theorem dX11_size_135 : decode cX11_size 135 = .ok (.ireturn, 1) := by decide +kernel
theorem dX11_size_136 : decode cX11_size 136 = .ok (.iconst (-1), 1) := by decide +kernel
theorem dX11_size_137 : decode cX11_size 137 = .ok (.ireturn, 1) := by decide +kernel
theorem dX11_step_0 : decode cX11_step 0 = .ok (.aload_n 0, 1) := by decide +kernel
theorem dX11_step_1 : decode cX11_step 1 = .ok (.iload_n 1, 1) := by decide +kernel
theorem dX11_step_2 : decode cX11_step 2 = .ok (.invokevirtual 159, 3) := by decide +kernel
theorem dX11_step_5 : decode cX11_step 5 = .ok (.ifCond .ne 9, 3) := by decide +kernel
theorem dX11_step_8 : decode cX11_step 8 = .ok (.aload_n 0, 1) := by decide +kernel
theorem dX11_step_9 : decode cX11_step 9 = .ok (.iconst 1, 1) := by decide +kernel
theorem dX11_step_10 : decode cX11_step 10 = .ok (.invokevirtual 100, 3) := by decide +kernel
theorem dX11_step_13 : decode cX11_step 13 = .ok (.ireturn, 1) := by decide +kernel
theorem dX11_strayed_0 : decode cX11_strayed 0 = .ok (.aload_n 0, 1) := by decide +kernel
theorem dX11_strayed_1 : decode cX11_strayed 1 = .ok (.iload_n 1, 1) := by decide +kernel
theorem dX11_strayed_2 : decode cX11_strayed 2 = .ok (.iload_n 2, 1) := by decide +kernel
theorem dX11_strayed_3 : decode cX11_strayed 3 = .ok (.iload_n 3, 1) := by decide +kernel
theorem dX11_strayed_4 : decode cX11_strayed 4 = .ok (.invokevirtual 338, 3) := by decide +kernel
theorem dX11_strayed_7 : decode cX11_strayed 7 = .ok (.istore 4, 2) := by decide +kernel
theorem dX11_strayed_9 : decode cX11_strayed 9 = .ok (.iload 4, 2) := by decide +kernel
theorem dX11_strayed_11 : decode cX11_strayed 11 = .ok (.ifCond .eq 10, 3) := by decide +kernel
theorem dX11_strayed_14 : decode cX11_strayed 14 = .ok (.aload_n 0, 1) := by decide +kernel
theorem dX11_strayed_15 : decode cX11_strayed 15 = .ok (.iload 4, 2) := by decide +kernel
theorem dX11_strayed_17 : decode cX11_strayed 17 = .ok (.invokevirtual 100, 3) := by decide +kernel
theorem dX11_strayed_20 : decode cX11_strayed 20 = .ok (.ireturn, 1) := by decide +kernel
theorem dX11_toFill_0 : decode cX11_toFill 0 = .ok (.aload_n 0, 1) := by decide +kernel
theorem dX11_toFill_1 : decode cX11_toFill 1 = .ok (.invokevirtual 188, 3) := by decide +kernel
theorem dX11_toFill_4 : decode cX11_toFill 4 = .ok (.ifCond .ne 9, 3) := by decide +kernel
theorem dX11_toFill_7 : decode cX11_toFill 7 = .ok (.aload_n 0, 1) := by decide +kernel
theorem dX11_toFill_8 : decode cX11_toFill 8 = .ok (.iconst 1, 1) := by decide +kernel
theorem dX11_toFill_9 : decode cX11_toFill 9 = .ok (.invokevirtual 100, 3) := by decide +kernel
theorem dX11_toFill_12 : decode cX11_toFill 12 = .ok (.ireturn, 1) := by decide +kernel
theorem dX11_trap_0 : decode cX11_trap 0 = .ok (.aload_n 0, 1) := by decide +kernel
theorem dX11_trap_1 : decode cX11_trap 1 = .ok (.invokevirtual 188, 3) := by decide +kernel
theorem dX11_trap_4 : decode cX11_trap 4 = .ok (.ifCond .ne 9, 3) := by decide +kernel
theorem dX11_trap_7 : decode cX11_trap 7 = .ok (.aload_n 0, 1) := by decide +kernel
theorem dX11_trap_8 : decode cX11_trap 8 = .ok (.iconst 1, 1) := by decide +kernel
theorem dX11_trap_9 : decode cX11_trap 9 = .ok (.invokevirtual 100, 3) := by decide +kernel
theorem dX11_trap_12 : decode cX11_trap 12 = .ok (.ireturn, 1) := by decide +kernel
theorem dX11_tread_0 : decode cX11_tread 0 = .ok (.aload_n 0, 1) := by decide +kernel
theorem dX11_tread_1 : decode cX11_tread 1 = .ok (.invokevirtual 188, 3) := by decide +kernel
theorem dX11_tread_4 : decode cX11_tread 4 = .ok (.ifCond .ne 9, 3) := by decide +kernel
theorem dX11_tread_7 : decode cX11_tread 7 = .ok (.aload_n 0, 1) := by decide +kernel
theorem dX11_tread_8 : decode cX11_tread 8 = .ok (.iconst 1, 1) := by decide +kernel
theorem dX11_tread_9 : decode cX11_tread 9 = .ok (.invokevirtual 100, 3) := by decide +kernel
theorem dX11_tread_12 : decode cX11_tread 12 = .ok (.ireturn, 1) := by decide +kernel
theorem dX11_treadLeaves_0 : decode cX11_treadLeaves 0 = .ok (.aload_n 0, 1) := by decide +kernel
theorem dX11_treadLeaves_1 : decode cX11_treadLeaves 1 = .ok (.invokevirtual 188, 3) := by decide +kernel
theorem dX11_treadLeaves_4 : decode cX11_treadLeaves 4 = .ok (.ifCond .ne 9, 3) := by decide +kernel
theorem dX11_treadLeaves_7 : decode cX11_treadLeaves 7 = .ok (.aload_n 0, 1) := by decide +kernel
theorem dX11_treadLeaves_8 : decode cX11_treadLeaves 8 = .ok (.iconst 1, 1) := by decide +kernel
theorem dX11_treadLeaves_9 : decode cX11_treadLeaves 9 = .ok (.invokevirtual 100, 3) := by decide +kernel
theorem dX11_treadLeaves_12 : decode cX11_treadLeaves 12 = .ok (.ireturn, 1) := by decide +kernel
theorem dX11_trouble_0 : decode cX11_trouble 0 = .ok (.aload_n 0, 1) := by decide +kernel
theorem dX11_trouble_1 : decode cX11_trouble 1 = .ok (.getfield 136, 3) := by decide +kernel
theorem dX11_trouble_4 : decode cX11_trouble 4 = .ok (.ireturn, 1) := by decide +kernel
theorem dX11_undo_0 : decode cX11_undo 0 = .ok (.aload_n 0, 1) := by decide +kernel
theorem dX11_undo_1 : decode cX11_undo 1 = .ok (.getfield 115, 3) := by decide +kernel
theorem dX11_undo_4 : decode cX11_undo 4 = .ok (.ifCond .ne 10, 3) := by decide +kernel
theorem dX11_undo_7 : decode cX11_undo 7 = .ok (.aload_n 0, 1) := by decide +kernel
theorem dX11_undo_8 : decode cX11_undo 8 = .ok (.bipush 6, 2) := by decide +kernel
theorem dX11_undo_10 : decode cX11_undo 10 = .ok (.invokevirtual 354, 3) := by decide +kernel
theorem dX11_undo_13 : decode cX11_undo 13 = .ok (.ireturn, 1) := by decide +kernel
theorem dX11_walkOdds_0 : decode cX11_walkOdds 0 = .ok (.aload_n 0, 1) := by decide +kernel
theorem dX11_walkOdds_1 : decode cX11_walkOdds 1 = .ok (.getfield 19, 3) := by decide +kernel
theorem dX11_walkOdds_4 : decode cX11_walkOdds 4 = .ok (.getfield 121, 3) := by decide +kernel
theorem dX11_walkOdds_7 : decode cX11_walkOdds 7 = .ok (.iload_n 1, 1) := by decide +kernel
theorem dX11_walkOdds_8 : decode cX11_walkOdds 8 = .ok (.invokevirtual 142, 3) := by decide +kernel
theorem dX11_walkOdds_11 : decode cX11_walkOdds 11 = .ok (.ifCond .ne 10, 3) := by decide +kernel
theorem dX11_walkOdds_14 : decode cX11_walkOdds 14 = .ok (.aload_n 0, 1) := by decide +kernel
theorem dX11_walkOdds_15 : decode cX11_walkOdds 15 = .ok (.iconst 1, 1) := by decide +kernel
theorem dX11_walkOdds_16 : decode cX11_walkOdds 16 = .ok (.invokevirtual 100, 3) := by decide +kernel
theorem dX11_walkOdds_19 : decode cX11_walkOdds 19 = .ok (.i2l, 1) := by decide +kernel
theorem dX11_walkOdds_20 : decode cX11_walkOdds 20 = .ok (.lreturn, 1) := by decide +kernel
theorem dX11_walker_0 : decode cX11_walker 0 = .ok (.aload_n 0, 1) := by decide +kernel
theorem dX11_walker_1 : decode cX11_walker 1 = .ok (.iload_n 1, 1) := by decide +kernel
theorem dX11_walker_2 : decode cX11_walker 2 = .ok (.invokevirtual 159, 3) := by decide +kernel
theorem dX11_walker_5 : decode cX11_walker 5 = .ok (.ifCond .ne 9, 3) := by decide +kernel
theorem dX11_walker_8 : decode cX11_walker 8 = .ok (.aload_n 0, 1) := by decide +kernel
theorem dX11_walker_9 : decode cX11_walker 9 = .ok (.iconst 1, 1) := by decide +kernel
theorem dX11_walker_10 : decode cX11_walker 10 = .ok (.invokevirtual 100, 3) := by decide +kernel
theorem dX11_walker_13 : decode cX11_walker 13 = .ok (.ireturn, 1) := by decide +kernel
theorem dX11_where_0 : decode cX11_where 0 = .ok (.aload_n 0, 1) := by decide +kernel
theorem dX11_where_1 : decode cX11_where 1 = .ok (.getfield 136, 3) := by decide +kernel
theorem dX11_where_4 : decode cX11_where 4 = .ok (.iconst 4, 1) := by decide +kernel
theorem dX11_where_5 : decode cX11_where 5 = .ok (.if_icmp .ne 13, 3) := by decide +kernel
theorem dX11_where_18 : decode cX11_where 18 = .ok (.iconst (-1), 1) := by decide +kernel
theorem dX11_where_19 : decode cX11_where 19 = .ok (.ireturn, 1) := by decide +kernel
theorem dX12_init_0 : decode cX12_init 0 = .ok (.aload_n 0, 1) := by decide +kernel
theorem dX12_init_1 : decode cX12_init 1 = .ok (.invokespecial 3, 3) := by decide +kernel
theorem dX12_init_4 : decode cX12_init 4 = .ok (.aload_n 0, 1) := by decide +kernel
theorem dX12_init_5 : decode cX12_init 5 = .ok (.bipush 20, 2) := by decide +kernel
theorem dX12_init_7 : decode cX12_init 7 = .ok (.newarray .int, 2) := by decide +kernel
theorem dX12_init_9 : decode cX12_init 9 = .ok (.putfield 9, 3) := by decide +kernel
theorem dX12_init_12 : decode cX12_init 12 = .ok (.aload_n 0, 1) := by decide +kernel
theorem dX12_init_13 : decode cX12_init 13 = .ok (.iconst 5, 1) := by decide +kernel
theorem dX12_init_14 : decode cX12_init 14 = .ok (.newarray .int, 2) := by decide +kernel
theorem dX12_init_16 : decode cX12_init 16 = .ok (.putfield 15, 3) := by decide +kernel
theorem dX12_init_19 : decode cX12_init 19 = .ok (.aload_n 0, 1) := by decide +kernel
theorem dX12_init_20 : decode cX12_init 20 = .ok (.iconst 4, 1) := by decide +kernel
theorem dX12_init_21 : decode cX12_init 21 = .ok (.newarray .int, 2) := by decide +kernel
theorem dX12_init_23 : decode cX12_init 23 = .ok (.putfield 18, 3) := by decide +kernel
theorem dX12_init_26 : decode cX12_init 26 = .ok (.aload_n 0, 1) := by decide +kernel
theorem dX12_init_27 : decode cX12_init 27 = .ok (.iconst 4, 1) := by decide +kernel
theorem dX12_init_28 : decode cX12_init 28 = .ok (.newarray .int, 2) := by decide +kernel
theorem dX12_init_30 : decode cX12_init 30 = .ok (.putfield 21, 3) := by decide +kernel
