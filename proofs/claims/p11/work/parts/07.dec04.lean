theorem dX13_isFallen_38 : decode cX13_isFallen 38 = .ok (.ireturn, 1) := by decide +kernel
theorem dX13_isLetter_0 : decode cX13_isLetter 0 = .ok (.iload_n 0, 1) := by decide +kernel
theorem dX13_isLetter_1 : decode cX13_isLetter 1 = .ok (.bipush 97, 2) := by decide +kernel
theorem dX13_isLetter_3 : decode cX13_isLetter 3 = .ok (.if_icmp .lt 13, 3) := by decide +kernel
theorem dX13_isLetter_6 : decode cX13_isLetter 6 = .ok (.iload_n 0, 1) := by decide +kernel
theorem dX13_isLetter_7 : decode cX13_isLetter 7 = .ok (.bipush 122, 2) := by decide +kernel
theorem dX13_isLetter_9 : decode cX13_isLetter 9 = .ok (.if_icmp .gt 7, 3) := by decide +kernel
theorem dX13_isLetter_12 : decode cX13_isLetter 12 = .ok (.iconst 1, 1) := by decide +kernel
theorem dX13_isLetter_13 : decode cX13_isLetter 13 = .ok (.goto 4, 3) := by decide +kernel
theorem dX13_isLetter_16 : decode cX13_isLetter 16 = .ok (.iconst 0, 1) := by decide +kernel
theorem dX13_isLetter_17 : decode cX13_isLetter 17 = .ok (.ireturn, 1) := by decide +kernel
theorem dX13_isName_0 : decode cX13_isName 0 = .ok (.aload_n 0, 1) := by decide +kernel
theorem dX13_isName_1 : decode cX13_isName 1 = .ok (.getfield 74, 3) := by decide +kernel
theorem dX13_isName_4 : decode cX13_isName 4 = .ok (.iconst 2, 1) := by decide +kernel
theorem dX13_isName_5 : decode cX13_isName 5 = .ok (.if_icmp .ne 43, 3) := by decide +kernel
theorem dX13_isName_8 : decode cX13_isName 8 = .ok (.aload_n 0, 1) := by decide +kernel
theorem dX13_isName_9 : decode cX13_isName 9 = .ok (.ldc 139, 2) := by decide +kernel
theorem dX13_isName_11 : decode cX13_isName 11 = .ok (.invokevirtual 116, 3) := by decide +kernel
theorem dX13_isName_14 : decode cX13_isName 14 = .ok (.ifCond .ne 34, 3) := by decide +kernel
theorem dX13_isName_17 : decode cX13_isName 17 = .ok (.aload_n 0, 1) := by decide +kernel
theorem dX13_isName_18 : decode cX13_isName 18 = .ok (.ldc 141, 2) := by decide +kernel
theorem dX13_isName_20 : decode cX13_isName 20 = .ok (.invokevirtual 116, 3) := by decide +kernel
theorem dX13_isName_23 : decode cX13_isName 23 = .ok (.ifCond .ne 25, 3) := by decide +kernel
theorem dX13_isName_26 : decode cX13_isName 26 = .ok (.aload_n 0, 1) := by decide +kernel
theorem dX13_isName_27 : decode cX13_isName 27 = .ok (.ldc 143, 2) := by decide +kernel
theorem dX13_isName_29 : decode cX13_isName 29 = .ok (.invokevirtual 116, 3) := by decide +kernel
theorem dX13_isName_32 : decode cX13_isName 32 = .ok (.ifCond .ne 16, 3) := by decide +kernel
theorem dX13_isName_35 : decode cX13_isName 35 = .ok (.aload_n 0, 1) := by decide +kernel
theorem dX13_isName_36 : decode cX13_isName 36 = .ok (.ldc 145, 2) := by decide +kernel
theorem dX13_isName_38 : decode cX13_isName 38 = .ok (.invokevirtual 116, 3) := by decide +kernel
theorem dX13_isName_41 : decode cX13_isName 41 = .ok (.ifCond .ne 7, 3) := by decide +kernel
theorem dX13_isName_44 : decode cX13_isName 44 = .ok (.iconst 1, 1) := by decide +kernel
theorem dX13_isName_45 : decode cX13_isName 45 = .ok (.goto 4, 3) := by decide +kernel
theorem dX13_isName_48 : decode cX13_isName 48 = .ok (.iconst 0, 1) := by decide +kernel
theorem dX13_isName_49 : decode cX13_isName 49 = .ok (.ireturn, 1) := by decide +kernel
theorem dX13_isPlace_0 : decode cX13_isPlace 0 = .ok (.aload_n 0, 1) := by decide +kernel
theorem dX13_isPlace_1 : decode cX13_isPlace 1 = .ok (.getfield 269, 3) := by decide +kernel
theorem dX13_isPlace_4 : decode cX13_isPlace 4 = .ok (.ifnull 19, 3) := by decide +kernel
theorem dX13_isPlace_7 : decode cX13_isPlace 7 = .ok (.iload_n 1, 1) := by decide +kernel
theorem dX13_isPlace_8 : decode cX13_isPlace 8 = .ok (.ifCond .lt 15, 3) := by decide +kernel
theorem dX13_isPlace_11 : decode cX13_isPlace 11 = .ok (.iload_n 1, 1) := by decide +kernel
theorem dX13_isPlace_12 : decode cX13_isPlace 12 = .ok (.aload_n 0, 1) := by decide +kernel
theorem dX13_isPlace_13 : decode cX13_isPlace 13 = .ok (.invokevirtual 277, 3) := by decide +kernel
theorem dX13_isPlace_16 : decode cX13_isPlace 16 = .ok (.if_icmp .ge 7, 3) := by decide +kernel
theorem dX13_isPlace_19 : decode cX13_isPlace 19 = .ok (.iconst 1, 1) := by decide +kernel
theorem dX13_isPlace_20 : decode cX13_isPlace 20 = .ok (.goto 4, 3) := by decide +kernel
theorem dX13_isPlace_23 : decode cX13_isPlace 23 = .ok (.iconst 0, 1) := by decide +kernel
theorem dX13_isPlace_24 : decode cX13_isPlace 24 = .ok (.ireturn, 1) := by decide +kernel
theorem dX13_isRest_0 : decode cX13_isRest 0 = .ok (.iload_n 1, 1) := by decide +kernel
theorem dX13_isRest_1 : decode cX13_isRest 1 = .ok (.iconst 1, 1) := by decide +kernel
theorem dX13_isRest_2 : decode cX13_isRest 2 = .ok (.if_icmp .le 7, 3) := by decide +kernel
theorem dX13_isRest_5 : decode cX13_isRest 5 = .ok (.iconst 1, 1) := by decide +kernel
theorem dX13_isRest_6 : decode cX13_isRest 6 = .ok (.goto 4, 3) := by decide +kernel
theorem dX13_isRest_9 : decode cX13_isRest 9 = .ok (.iconst 0, 1) := by decide +kernel
theorem dX13_isRest_10 : decode cX13_isRest 10 = .ok (.istore_n 2, 1) := by decide +kernel
theorem dX13_isRest_11 : decode cX13_isRest 11 = .ok (.iload_n 1, 1) := by decide +kernel
theorem dX13_isRest_12 : decode cX13_isRest 12 = .ok (.iconst 2, 1) := by decide +kernel
theorem dX13_isRest_13 : decode cX13_isRest 13 = .ok (.irem, 1) := by decide +kernel
theorem dX13_isRest_14 : decode cX13_isRest 14 = .ok (.iconst 1, 1) := by decide +kernel
theorem dX13_isRest_15 : decode cX13_isRest 15 = .ok (.if_icmp .ne 7, 3) := by decide +kernel
theorem dX13_isRest_18 : decode cX13_isRest 18 = .ok (.iconst 1, 1) := by decide +kernel
theorem dX13_isRest_19 : decode cX13_isRest 19 = .ok (.goto 4, 3) := by decide +kernel
theorem dX13_isRest_22 : decode cX13_isRest 22 = .ok (.iconst 0, 1) := by decide +kernel
theorem dX13_isRest_23 : decode cX13_isRest 23 = .ok (.istore_n 3, 1) := by decide +kernel
theorem dX13_isRest_24 : decode cX13_isRest 24 = .ok (.iload_n 0, 1) := by decide +kernel
theorem dX13_isRest_25 : decode cX13_isRest 25 = .ok (.iload_n 2, 1) := by decide +kernel
theorem dX13_isRest_26 : decode cX13_isRest 26 = .ok (.ifCond .ne 7, 3) := by decide +kernel
theorem dX13_isRest_29 : decode cX13_isRest 29 = .ok (.iconst 1, 1) := by decide +kernel
theorem dX13_isRest_30 : decode cX13_isRest 30 = .ok (.goto 4, 3) := by decide +kernel
theorem dX13_isRest_33 : decode cX13_isRest 33 = .ok (.iconst 0, 1) := by decide +kernel
theorem dX13_isRest_34 : decode cX13_isRest 34 = .ok (.iload_n 3, 1) := by decide +kernel
theorem dX13_isRest_35 : decode cX13_isRest 35 = .ok (.invokestatic 411, 3) := by decide +kernel
theorem dX13_isRest_38 : decode cX13_isRest 38 = .ok (.iload_n 0, 1) := by decide +kernel
theorem dX13_isRest_39 : decode cX13_isRest 39 = .ok (.iload_n 2, 1) := by decide +kernel
theorem dX13_isRest_40 : decode cX13_isRest 40 = .ok (.iload_n 3, 1) := by decide +kernel
theorem dX13_isRest_41 : decode cX13_isRest 41 = .ok (.invokestatic 411, 3) := by decide +kernel
theorem dX13_isRest_44 : decode cX13_isRest 44 = .ok (.if_icmp .gt 30, 3) := by decide +kernel
theorem dX13_isRest_47 : decode cX13_isRest 47 = .ok (.iload_n 0, 1) := by decide +kernel
theorem dX13_isRest_48 : decode cX13_isRest 48 = .ok (.iload_n 3, 1) := by decide +kernel
theorem dX13_isRest_49 : decode cX13_isRest 49 = .ok (.ifCond .ne 7, 3) := by decide +kernel
theorem dX13_isRest_52 : decode cX13_isRest 52 = .ok (.iconst 1, 1) := by decide +kernel
theorem dX13_isRest_53 : decode cX13_isRest 53 = .ok (.goto 4, 3) := by decide +kernel
theorem dX13_isRest_56 : decode cX13_isRest 56 = .ok (.iconst 0, 1) := by decide +kernel
theorem dX13_isRest_57 : decode cX13_isRest 57 = .ok (.iload_n 2, 1) := by decide +kernel
theorem dX13_isRest_58 : decode cX13_isRest 58 = .ok (.invokestatic 411, 3) := by decide +kernel
theorem dX13_isRest_61 : decode cX13_isRest 61 = .ok (.iload_n 0, 1) := by decide +kernel
theorem dX13_isRest_62 : decode cX13_isRest 62 = .ok (.iload_n 3, 1) := by decide +kernel
theorem dX13_isRest_63 : decode cX13_isRest 63 = .ok (.iload_n 2, 1) := by decide +kernel
theorem dX13_isRest_64 : decode cX13_isRest 64 = .ok (.invokestatic 411, 3) := by decide +kernel
theorem dX13_isRest_67 : decode cX13_isRest 67 = .ok (.if_icmp .gt 7, 3) := by decide +kernel
theorem dX13_isRest_70 : decode cX13_isRest 70 = .ok (.iconst 1, 1) := by decide +kernel
theorem dX13_isRest_71 : decode cX13_isRest 71 = .ok (.goto 4, 3) := by decide +kernel
theorem dX13_isRest_74 : decode cX13_isRest 74 = .ok (.iconst 0, 1) := by decide +kernel
theorem dX13_isRest_75 : decode cX13_isRest 75 = .ok (.ireturn, 1) := by decide +kernel
theorem dX13_isShut_0 : decode cX13_isShut 0 = .ok (.aload_n 0, 1) := by decide +kernel
theorem dX13_isShut_1 : decode cX13_isShut 1 = .ok (.invokevirtual 317, 3) := by decide +kernel
theorem dX13_isShut_4 : decode cX13_isShut 4 = .ok (.iconst 0, 1) := by decide +kernel
theorem dX13_isShut_5 : decode cX13_isShut 5 = .ok (.istore_n 3, 1) := by decide +kernel
theorem dX13_isShut_6 : decode cX13_isShut 6 = .ok (.iload_n 3, 1) := by decide +kernel
theorem dX13_isShut_7 : decode cX13_isShut 7 = .ok (.aload_n 0, 1) := by decide +kernel
theorem dX13_isShut_8 : decode cX13_isShut 8 = .ok (.invokevirtual 277, 3) := by decide +kernel
theorem dX13_isShut_11 : decode cX13_isShut 11 = .ok (.if_icmp .ge 24, 3) := by decide +kernel
theorem dX13_isShut_14 : decode cX13_isShut 14 = .ok (.iload_n 2, 1) := by decide +kernel
theorem dX13_isShut_15 : decode cX13_isShut 15 = .ok (.iload_n 3, 1) := by decide +kernel
theorem dX13_isShut_16 : decode cX13_isShut 16 = .ok (.invokestatic 345, 3) := by decide +kernel
theorem dX13_isShut_19 : decode cX13_isShut 19 = .ok (.ifCond .eq 10, 3) := by decide +kernel
theorem dX13_isShut_22 : decode cX13_isShut 22 = .ok (.aload_n 0, 1) := by decide +kernel
theorem dX13_isShut_23 : decode cX13_isShut 23 = .ok (.getfield 21, 3) := by decide +kernel
theorem dX13_isShut_26 : decode cX13_isShut 26 = .ok (.iload_n 3, 1) := by decide +kernel
theorem dX13_isShut_27 : decode cX13_isShut 27 = .ok (.iconst 3, 1) := by decide +kernel
theorem dX13_isShut_28 : decode cX13_isShut 28 = .ok (.iastore, 1) := by decide +kernel
theorem dX13_isShut_29 : decode cX13_isShut 29 = .ok (.iinc 3 1, 3) := by decide +kernel
theorem dX13_isShut_32 : decode cX13_isShut 32 = .ok (.goto (-26), 3) := by decide +kernel
theorem dX13_isShut_35 : decode cX13_isShut 35 = .ok (.aload_n 0, 1) := by decide +kernel
theorem dX13_isShut_36 : decode cX13_isShut 36 = .ok (.iload_n 1, 1) := by decide +kernel
theorem dX13_isShut_37 : decode cX13_isShut 37 = .ok (.iconst 1, 1) := by decide +kernel
theorem dX13_isShut_38 : decode cX13_isShut 38 = .ok (.invokevirtual 323, 3) := by decide +kernel
theorem dX13_isShut_41 : decode cX13_isShut 41 = .ok (.ldc_w 293, 3) := by decide +kernel
theorem dX13_isShut_44 : decode cX13_isShut 44 = .ok (.if_icmp .ne 7, 3) := by decide +kernel
theorem dX13_isShut_47 : decode cX13_isShut 47 = .ok (.iconst 1, 1) := by decide +kernel
theorem dX13_isShut_48 : decode cX13_isShut 48 = .ok (.goto 4, 3) := by decide +kernel
theorem dX13_isShut_51 : decode cX13_isShut 51 = .ok (.iconst 0, 1) := by decide +kernel
theorem dX13_isShut_52 : decode cX13_isShut 52 = .ok (.ireturn, 1) := by decide +kernel
theorem dX13_isToldRight_0 : decode cX13_isToldRight 0 = .ok (.aload_n 0, 1) := by decide +kernel
theorem dX13_isToldRight_1 : decode cX13_isToldRight 1 = .ok (.aload_n 0, 1) := by decide +kernel
theorem dX13_isToldRight_2 : decode cX13_isToldRight 2 = .ok (.getfield 269, 3) := by decide +kernel
theorem dX13_isToldRight_5 : decode cX13_isToldRight 5 = .ok (.getfield 254, 3) := by decide +kernel
theorem dX13_isToldRight_8 : decode cX13_isToldRight 8 = .ok (.iload_n 1, 1) := by decide +kernel
theorem dX13_isToldRight_9 : decode cX13_isToldRight 9 = .ok (.iaload, 1) := by decide +kernel
theorem dX13_isToldRight_10 : decode cX13_isToldRight 10 = .ok (.aload_n 0, 1) := by decide +kernel
theorem dX13_isToldRight_11 : decode cX13_isToldRight 11 = .ok (.getfield 269, 3) := by decide +kernel
theorem dX13_isToldRight_14 : decode cX13_isToldRight 14 = .ok (.getfield 257, 3) := by decide +kernel
theorem dX13_isToldRight_17 : decode cX13_isToldRight 17 = .ok (.iload_n 1, 1) := by decide +kernel
theorem dX13_isToldRight_18 : decode cX13_isToldRight 18 = .ok (.iaload, 1) := by decide +kernel
theorem dX13_isToldRight_19 : decode cX13_isToldRight 19 = .ok (.iload_n 2, 1) := by decide +kernel
theorem dX13_isToldRight_20 : decode cX13_isToldRight 20 = .ok (.invokevirtual 376, 3) := by decide +kernel
theorem dX13_isToldRight_23 : decode cX13_isToldRight 23 = .ok (.aload_n 0, 1) := by decide +kernel
theorem dX13_isToldRight_24 : decode cX13_isToldRight 24 = .ok (.getfield 269, 3) := by decide +kernel
theorem dX13_isToldRight_27 : decode cX13_isToldRight 27 = .ok (.getfield 259, 3) := by decide +kernel
theorem dX13_isToldRight_30 : decode cX13_isToldRight 30 = .ok (.iload_n 1, 1) := by decide +kernel
theorem dX13_isToldRight_31 : decode cX13_isToldRight 31 = .ok (.baload, 1) := by decide +kernel
theorem dX13_isToldRight_32 : decode cX13_isToldRight 32 = .ok (.if_icmp .ne 7, 3) := by decide +kernel
theorem dX13_isToldRight_35 : decode cX13_isToldRight 35 = .ok (.iconst 1, 1) := by decide +kernel
theorem dX13_isToldRight_36 : decode cX13_isToldRight 36 = .ok (.goto 4, 3) := by decide +kernel
theorem dX13_isToldRight_39 : decode cX13_isToldRight 39 = .ok (.iconst 0, 1) := by decide +kernel
theorem dX13_isToldRight_40 : decode cX13_isToldRight 40 = .ok (.ireturn, 1) := by decide +kernel
theorem dX13_isWalker_0 : decode cX13_isWalker 0 = .ok (.aload_n 0, 1) := by decide +kernel
theorem dX13_isWalker_1 : decode cX13_isWalker 1 = .ok (.getfield 269, 3) := by decide +kernel
theorem dX13_isWalker_4 : decode cX13_isWalker 4 = .ok (.ifnull 22, 3) := by decide +kernel
theorem dX13_isWalker_7 : decode cX13_isWalker 7 = .ok (.iload_n 1, 1) := by decide +kernel
theorem dX13_isWalker_8 : decode cX13_isWalker 8 = .ok (.ifCond .lt 18, 3) := by decide +kernel
theorem dX13_isWalker_11 : decode cX13_isWalker 11 = .ok (.iload_n 1, 1) := by decide +kernel
theorem dX13_isWalker_12 : decode cX13_isWalker 12 = .ok (.aload_n 0, 1) := by decide +kernel
theorem dX13_isWalker_13 : decode cX13_isWalker 13 = .ok (.getfield 269, 3) := by decide +kernel
theorem dX13_isWalker_16 : decode cX13_isWalker 16 = .ok (.getfield 206, 3) := by decide +kernel
theorem dX13_isWalker_19 : decode cX13_isWalker 19 = .ok (.if_icmp .ge 7, 3) := by decide +kernel
theorem dX13_isWalker_22 : decode cX13_isWalker 22 = .ok (.iconst 1, 1) := by decide +kernel
theorem dX13_isWalker_23 : decode cX13_isWalker 23 = .ok (.goto 4, 3) := by decide +kernel
theorem dX13_isWalker_26 : decode cX13_isWalker 26 = .ok (.iconst 0, 1) := by decide +kernel
theorem dX13_isWalker_27 : decode cX13_isWalker 27 = .ok (.ireturn, 1) := by decide +kernel
theorem dX13_isWord_0 : decode cX13_isWord 0 = .ok (.aload_n 0, 1) := by decide +kernel
theorem dX13_isWord_1 : decode cX13_isWord 1 = .ok (.getfield 74, 3) := by decide +kernel
theorem dX13_isWord_4 : decode cX13_isWord 4 = .ok (.iconst 2, 1) := by decide +kernel
theorem dX13_isWord_5 : decode cX13_isWord 5 = .ok (.if_icmp .ne 19, 3) := by decide +kernel
theorem dX13_isWord_8 : decode cX13_isWord 8 = .ok (.aload_n 0, 1) := by decide +kernel
theorem dX13_isWord_9 : decode cX13_isWord 9 = .ok (.getfield 90, 3) := by decide +kernel
theorem dX13_isWord_12 : decode cX13_isWord 12 = .ok (.aload_n 1, 1) := by decide +kernel
theorem dX13_isWord_13 : decode cX13_isWord 13 = .ok (.invokestatic 109, 3) := by decide +kernel
theorem dX13_isWord_16 : decode cX13_isWord 16 = .ok (.lcmp, 1) := by decide +kernel
theorem dX13_isWord_17 : decode cX13_isWord 17 = .ok (.ifCond .ne 7, 3) := by decide +kernel
theorem dX13_isWord_20 : decode cX13_isWord 20 = .ok (.iconst 1, 1) := by decide +kernel
theorem dX13_isWord_21 : decode cX13_isWord 21 = .ok (.goto 4, 3) := by decide +kernel
theorem dX13_isWord_24 : decode cX13_isWord 24 = .ok (.iconst 0, 1) := by decide +kernel
theorem dX13_isWord_25 : decode cX13_isWord 25 = .ok (.ireturn, 1) := by decide +kernel
theorem dX13_judge_0 : decode cX13_judge 0 = .ok (.aload_n 0, 1) := by decide +kernel
theorem dX13_judge_1 : decode cX13_judge 1 = .ok (.iconst 0, 1) := by decide +kernel
theorem dX13_judge_2 : decode cX13_judge 2 = .ok (.putfield 42, 3) := by decide +kernel
theorem dX13_judge_5 : decode cX13_judge 5 = .ok (.aload_n 0, 1) := by decide +kernel
theorem dX13_judge_6 : decode cX13_judge 6 = .ok (.getfield 269, 3) := by decide +kernel
theorem dX13_judge_9 : decode cX13_judge 9 = .ok (.ifnonnull 9, 3) := by decide +kernel
theorem dX13_judge_12 : decode cX13_judge 12 = .ok (.aload_n 0, 1) := by decide +kernel
theorem dX13_judge_13 : decode cX13_judge 13 = .ok (.iconst 1, 1) := by decide +kernel
theorem dX13_judge_14 : decode cX13_judge 14 = .ok (.invokevirtual 48, 3) := by decide +kernel
theorem dX13_judge_17 : decode cX13_judge 17 = .ok (.ireturn, 1) := by decide +kernel
theorem dX13_judge_18 : decode cX13_judge 18 = .ok (.iconst 0, 1) := by decide +kernel
theorem dX13_judge_19 : decode cX13_judge 19 = .ok (.istore_n 1, 1) := by decide +kernel
theorem dX13_judge_20 : decode cX13_judge 20 = .ok (.iload_n 1, 1) := by decide +kernel
theorem dX13_judge_21 : decode cX13_judge 21 = .ok (.aload_n 0, 1) := by decide +kernel
theorem dX13_judge_22 : decode cX13_judge 22 = .ok (.getfield 269, 3) := by decide +kernel
theorem dX13_judge_25 : decode cX13_judge 25 = .ok (.getfield 245, 3) := by decide +kernel
theorem dX13_judge_28 : decode cX13_judge 28 = .ok (.if_icmp .ge 24, 3) := by decide +kernel
theorem dX13_judge_31 : decode cX13_judge 31 = .ok (.aload_n 0, 1) := by decide +kernel
theorem dX13_judge_32 : decode cX13_judge 32 = .ok (.iload_n 1, 1) := by decide +kernel
theorem dX13_judge_33 : decode cX13_judge 33 = .ok (.iconst 0, 1) := by decide +kernel
theorem dX13_judge_34 : decode cX13_judge 34 = .ok (.invokevirtual 379, 3) := by decide +kernel
theorem dX13_judge_37 : decode cX13_judge 37 = .ok (.ifCond .ne 9, 3) := by decide +kernel
theorem dX13_judge_40 : decode cX13_judge 40 = .ok (.aload_n 0, 1) := by decide +kernel
theorem dX13_judge_41 : decode cX13_judge 41 = .ok (.iload_n 1, 1) := by decide +kernel
theorem dX13_judge_42 : decode cX13_judge 42 = .ok (.invokevirtual 52, 3) := by decide +kernel
theorem dX13_judge_45 : decode cX13_judge 45 = .ok (.ireturn, 1) := by decide +kernel
theorem dX13_judge_46 : decode cX13_judge 46 = .ok (.iinc 1 1, 3) := by decide +kernel
theorem dX13_judge_49 : decode cX13_judge 49 = .ok (.goto (-29), 3) := by decide +kernel
theorem dX13_judge_52 : decode cX13_judge 52 = .ok (.aload_n 0, 1) := by decide +kernel
theorem dX13_judge_53 : decode cX13_judge 53 = .ok (.bipush (-2), 2) := by decide +kernel
theorem dX13_judge_55 : decode cX13_judge 55 = .ok (.invokevirtual 52, 3) := by decide +kernel
theorem dX13_judge_58 : decode cX13_judge 58 = .ok (.ireturn, 1) := by decide +kernel
theorem dX13_lain_0 : decode cX13_lain 0 = .ok (.iload_n 1, 1) := by decide +kernel
theorem dX13_lain_1 : decode cX13_lain 1 = .ok (.ifCond .eq 17, 3) := by decide +kernel
theorem dX13_lain_4 : decode cX13_lain 4 = .ok (.iload_n 2, 1) := by decide +kernel
theorem dX13_lain_5 : decode cX13_lain 5 = .ok (.ifCond .eq 9, 3) := by decide +kernel
theorem dX13_lain_8 : decode cX13_lain 8 = .ok (.iconst 2, 1) := by decide +kernel
theorem dX13_lain_9 : decode cX13_lain 9 = .ok (.iload_n 0, 1) := by decide +kernel
theorem dX13_lain_10 : decode cX13_lain 10 = .ok (.isub, 1) := by decide +kernel
theorem dX13_lain_11 : decode cX13_lain 11 = .ok (.goto 16, 3) := by decide +kernel
theorem dX13_lain_14 : decode cX13_lain 14 = .ok (.iconst 4, 1) := by decide +kernel
theorem dX13_lain_15 : decode cX13_lain 15 = .ok (.goto 12, 3) := by decide +kernel
theorem dX13_lain_18 : decode cX13_lain 18 = .ok (.iload_n 2, 1) := by decide +kernel
theorem dX13_lain_19 : decode cX13_lain 19 = .ok (.ifCond .eq 7, 3) := by decide +kernel
theorem dX13_lain_22 : decode cX13_lain 22 = .ok (.iconst 0, 1) := by decide +kernel
theorem dX13_lain_23 : decode cX13_lain 23 = .ok (.goto 4, 3) := by decide +kernel
theorem dX13_lain_26 : decode cX13_lain 26 = .ok (.iconst 1, 1) := by decide +kernel
theorem dX13_lain_27 : decode cX13_lain 27 = .ok (.ireturn, 1) := by decide +kernel
theorem dX13_lasts_0 : decode cX13_lasts 0 = .ok (.aload_n 0, 1) := by decide +kernel
theorem dX13_lasts_1 : decode cX13_lasts 1 = .ok (.iload_n 2, 1) := by decide +kernel
theorem dX13_lasts_2 : decode cX13_lasts 2 = .ok (.iload_n 3, 1) := by decide +kernel
theorem dX13_lasts_3 : decode cX13_lasts 3 = .ok (.invokevirtual 280, 3) := by decide +kernel
theorem dX13_lasts_6 : decode cX13_lasts 6 = .ok (.istore 4, 2) := by decide +kernel
theorem dX13_lasts_8 : decode cX13_lasts 8 = .ok (.iload 4, 2) := by decide +kernel
theorem dX13_lasts_10 : decode cX13_lasts 10 = .ok (.bipush (-2), 2) := by decide +kernel
theorem dX13_lasts_12 : decode cX13_lasts 12 = .ok (.if_icmp .eq 14, 3) := by decide +kernel
theorem dX13_lasts_15 : decode cX13_lasts 15 = .ok (.aload_n 0, 1) := by decide +kernel
theorem dX13_lasts_16 : decode cX13_lasts 16 = .ok (.getfield 21, 3) := by decide +kernel
theorem dX13_lasts_19 : decode cX13_lasts 19 = .ok (.iload 4, 2) := by decide +kernel
theorem dX13_lasts_21 : decode cX13_lasts 21 = .ok (.iaload, 1) := by decide +kernel
theorem dX13_lasts_22 : decode cX13_lasts 22 = .ok (.iconst 3, 1) := by decide +kernel
theorem dX13_lasts_23 : decode cX13_lasts 23 = .ok (.if_icmp .ne 6, 3) := by decide +kernel
theorem dX13_lasts_26 : decode cX13_lasts 26 = .ok (.bipush (-2), 2) := by decide +kernel
theorem dX13_lasts_28 : decode cX13_lasts 28 = .ok (.ireturn, 1) := by decide +kernel
theorem dX13_lasts_29 : decode cX13_lasts 29 = .ok (.aload_n 0, 1) := by decide +kernel
theorem dX13_lasts_30 : decode cX13_lasts 30 = .ok (.getfield 21, 3) := by decide +kernel
theorem dX13_lasts_33 : decode cX13_lasts 33 = .ok (.iload 4, 2) := by decide +kernel
theorem dX13_lasts_35 : decode cX13_lasts 35 = .ok (.iaload, 1) := by decide +kernel
theorem dX13_lasts_36 : decode cX13_lasts 36 = .ok (.iconst 1, 1) := by decide +kernel
theorem dX13_lasts_37 : decode cX13_lasts 37 = .ok (.if_icmp .ne 9, 3) := by decide +kernel
theorem dX13_lasts_40 : decode cX13_lasts 40 = .ok (.iload_n 1, 1) := by decide +kernel
theorem dX13_lasts_41 : decode cX13_lasts 41 = .ok (.iload_n 3, 1) := by decide +kernel
theorem dX13_lasts_42 : decode cX13_lasts 42 = .ok (.invokestatic 283, 3) := by decide +kernel
theorem dX13_lasts_45 : decode cX13_lasts 45 = .ok (.ireturn, 1) := by decide +kernel
theorem dX13_lasts_46 : decode cX13_lasts 46 = .ok (.aload_n 0, 1) := by decide +kernel
theorem dX13_lasts_47 : decode cX13_lasts 47 = .ok (.getfield 21, 3) := by decide +kernel
theorem dX13_lasts_50 : decode cX13_lasts 50 = .ok (.iload_n 2, 1) := by decide +kernel
theorem dX13_lasts_51 : decode cX13_lasts 51 = .ok (.iaload, 1) := by decide +kernel
theorem dX13_lasts_52 : decode cX13_lasts 52 = .ok (.iconst 1, 1) := by decide +kernel
theorem dX13_lasts_53 : decode cX13_lasts 53 = .ok (.if_icmp .ne 8, 3) := by decide +kernel
theorem dX13_lasts_56 : decode cX13_lasts 56 = .ok (.iload_n 3, 1) := by decide +kernel
theorem dX13_lasts_57 : decode cX13_lasts 57 = .ok (.iconst 2, 1) := by decide +kernel
theorem dX13_lasts_58 : decode cX13_lasts 58 = .ok (.if_icmp .eq 5, 3) := by decide +kernel
theorem dX13_lasts_61 : decode cX13_lasts 61 = .ok (.iconst 1, 1) := by decide +kernel
theorem dX13_lasts_62 : decode cX13_lasts 62 = .ok (.ireturn, 1) := by decide +kernel
theorem dX13_lasts_63 : decode cX13_lasts 63 = .ok (.iload_n 1, 1) := by decide +kernel
theorem dX13_lasts_64 : decode cX13_lasts 64 = .ok (.iconst 2, 1) := by decide +kernel
theorem dX13_lasts_65 : decode cX13_lasts 65 = .ok (.if_icmp .ne 7, 3) := by decide +kernel
theorem dX13_lasts_68 : decode cX13_lasts 68 = .ok (.iconst 1, 1) := by decide +kernel
theorem dX13_lasts_69 : decode cX13_lasts 69 = .ok (.goto 14, 3) := by decide +kernel
theorem dX13_lasts_72 : decode cX13_lasts 72 = .ok (.iload_n 1, 1) := by decide +kernel
theorem dX13_lasts_73 : decode cX13_lasts 73 = .ok (.iconst 3, 1) := by decide +kernel
theorem dX13_lasts_74 : decode cX13_lasts 74 = .ok (.if_icmp .ne 7, 3) := by decide +kernel
theorem dX13_lasts_77 : decode cX13_lasts 77 = .ok (.iconst 4, 1) := by decide +kernel
theorem dX13_lasts_78 : decode cX13_lasts 78 = .ok (.goto 5, 3) := by decide +kernel
theorem dX13_lasts_81 : decode cX13_lasts 81 = .ok (.bipush (-2), 2) := by decide +kernel
theorem dX13_lasts_83 : decode cX13_lasts 83 = .ok (.ireturn, 1) := by decide +kernel
theorem dX13_latest_0 : decode cX13_latest 0 = .ok (.aload_n 0, 1) := by decide +kernel
theorem dX13_latest_1 : decode cX13_latest 1 = .ok (.iconst 0, 1) := by decide +kernel
theorem dX13_latest_2 : decode cX13_latest 2 = .ok (.putfield 42, 3) := by decide +kernel
theorem dX13_latest_5 : decode cX13_latest 5 = .ok (.aload_n 0, 1) := by decide +kernel
theorem dX13_latest_6 : decode cX13_latest 6 = .ok (.getfield 269, 3) := by decide +kernel
theorem dX13_latest_9 : decode cX13_latest 9 = .ok (.ifnonnull 9, 3) := by decide +kernel
theorem dX13_latest_12 : decode cX13_latest 12 = .ok (.aload_n 0, 1) := by decide +kernel
theorem dX13_latest_13 : decode cX13_latest 13 = .ok (.iconst 1, 1) := by decide +kernel
theorem dX13_latest_14 : decode cX13_latest 14 = .ok (.invokevirtual 48, 3) := by decide +kernel
theorem dX13_latest_17 : decode cX13_latest 17 = .ok (.ireturn, 1) := by decide +kernel
theorem dX13_latest_18 : decode cX13_latest 18 = .ok (.aload_n 0, 1) := by decide +kernel
theorem dX13_latest_19 : decode cX13_latest 19 = .ok (.invokevirtual 317, 3) := by decide +kernel
theorem dX13_latest_22 : decode cX13_latest 22 = .ok (.bipush (-2), 2) := by decide +kernel
theorem dX13_latest_24 : decode cX13_latest 24 = .ok (.istore_n 1, 1) := by decide +kernel
theorem dX13_latest_25 : decode cX13_latest 25 = .ok (.iconst (-1), 1) := by decide +kernel
theorem dX13_latest_26 : decode cX13_latest 26 = .ok (.istore_n 2, 1) := by decide +kernel
theorem dX13_latest_27 : decode cX13_latest 27 = .ok (.iconst 0, 1) := by decide +kernel
theorem dX13_latest_28 : decode cX13_latest 28 = .ok (.istore_n 3, 1) := by decide +kernel
theorem dX13_latest_29 : decode cX13_latest 29 = .ok (.iload_n 3, 1) := by decide +kernel
theorem dX13_latest_30 : decode cX13_latest 30 = .ok (.aload_n 0, 1) := by decide +kernel
theorem dX13_latest_31 : decode cX13_latest 31 = .ok (.getfield 269, 3) := by decide +kernel
theorem dX13_latest_34 : decode cX13_latest 34 = .ok (.getfield 206, 3) := by decide +kernel
theorem dX13_latest_37 : decode cX13_latest 37 = .ok (.if_icmp .ge 47, 3) := by decide +kernel
theorem dX13_latest_40 : decode cX13_latest 40 = .ok (.aload_n 0, 1) := by decide +kernel
theorem dX13_latest_41 : decode cX13_latest 41 = .ok (.iload_n 3, 1) := by decide +kernel
theorem dX13_latest_42 : decode cX13_latest 42 = .ok (.iconst 1, 1) := by decide +kernel
theorem dX13_latest_43 : decode cX13_latest 43 = .ok (.invokevirtual 323, 3) := by decide +kernel
theorem dX13_latest_46 : decode cX13_latest 46 = .ok (.istore 4, 2) := by decide +kernel
theorem dX13_latest_48 : decode cX13_latest 48 = .ok (.iload 4, 2) := by decide +kernel
theorem dX13_latest_50 : decode cX13_latest 50 = .ok (.ldc_w 293, 3) := by decide +kernel
theorem dX13_latest_53 : decode cX13_latest 53 = .ok (.if_icmp .eq 25, 3) := by decide +kernel
theorem dX13_latest_56 : decode cX13_latest 56 = .ok (.iload 4, 2) := by decide +kernel
theorem dX13_latest_58 : decode cX13_latest 58 = .ok (.sipush 1000, 3) := by decide +kernel
theorem dX13_latest_61 : decode cX13_latest 61 = .ok (.idiv, 1) := by decide +kernel
theorem dX13_latest_62 : decode cX13_latest 62 = .ok (.iload_n 2, 1) := by decide +kernel
theorem dX13_latest_63 : decode cX13_latest 63 = .ok (.if_icmp .gt 6, 3) := by decide +kernel
theorem dX13_latest_66 : decode cX13_latest 66 = .ok (.goto 12, 3) := by decide +kernel
theorem dX13_latest_69 : decode cX13_latest 69 = .ok (.iload 4, 2) := by decide +kernel
theorem dX13_latest_71 : decode cX13_latest 71 = .ok (.sipush 1000, 3) := by decide +kernel
theorem dX13_latest_74 : decode cX13_latest 74 = .ok (.idiv, 1) := by decide +kernel
theorem dX13_latest_75 : decode cX13_latest 75 = .ok (.istore_n 2, 1) := by decide +kernel
theorem dX13_latest_76 : decode cX13_latest 76 = .ok (.iload_n 3, 1) := by decide +kernel
theorem dX13_latest_77 : decode cX13_latest 77 = .ok (.istore_n 1, 1) := by decide +kernel
theorem dX13_latest_78 : decode cX13_latest 78 = .ok (.iinc 3 1, 3) := by decide +kernel
theorem dX13_latest_81 : decode cX13_latest 81 = .ok (.goto (-52), 3) := by decide +kernel
theorem dX13_latest_84 : decode cX13_latest 84 = .ok (.aload_n 0, 1) := by decide +kernel
theorem dX13_latest_85 : decode cX13_latest 85 = .ok (.iload_n 1, 1) := by decide +kernel
theorem dX13_latest_86 : decode cX13_latest 86 = .ok (.invokevirtual 52, 3) := by decide +kernel
theorem dX13_latest_89 : decode cX13_latest 89 = .ok (.ireturn, 1) := by decide +kernel
theorem dX13_leastSet_0 : decode cX13_leastSet 0 = .ok (.aload_n 0, 1) := by decide +kernel
theorem dX13_leastSet_1 : decode cX13_leastSet 1 = .ok (.iload_n 1, 1) := by decide +kernel
theorem dX13_leastSet_2 : decode cX13_leastSet 2 = .ok (.iconst 0, 1) := by decide +kernel
theorem dX13_leastSet_3 : decode cX13_leastSet 3 = .ok (.invokevirtual 355, 3) := by decide +kernel
theorem dX13_leastSet_6 : decode cX13_leastSet 6 = .ok (.ifCond .eq 5, 3) := by decide +kernel
theorem dX13_leastSet_9 : decode cX13_leastSet 9 = .ok (.iconst 0, 1) := by decide +kernel
theorem dX13_leastSet_10 : decode cX13_leastSet 10 = .ok (.ireturn, 1) := by decide +kernel
theorem dX13_leastSet_11 : decode cX13_leastSet 11 = .ok (.iconst 0, 1) := by decide +kernel
theorem dX13_leastSet_12 : decode cX13_leastSet 12 = .ok (.istore_n 3, 1) := by decide +kernel
theorem dX13_leastSet_13 : decode cX13_leastSet 13 = .ok (.iload_n 3, 1) := by decide +kernel
theorem dX13_leastSet_14 : decode cX13_leastSet 14 = .ok (.aload_n 0, 1) := by decide +kernel
theorem dX13_leastSet_15 : decode cX13_leastSet 15 = .ok (.invokevirtual 277, 3) := by decide +kernel
theorem dX13_leastSet_18 : decode cX13_leastSet 18 = .ok (.if_icmp .ge 32, 3) := by decide +kernel
theorem dX13_leastSet_21 : decode cX13_leastSet 21 = .ok (.iload_n 2, 1) := by decide +kernel
theorem dX13_leastSet_22 : decode cX13_leastSet 22 = .ok (.iload_n 3, 1) := by decide +kernel
theorem dX13_leastSet_23 : decode cX13_leastSet 23 = .ok (.invokestatic 345, 3) := by decide +kernel
theorem dX13_leastSet_26 : decode cX13_leastSet 26 = .ok (.ifCond .eq 18, 3) := by decide +kernel
theorem dX13_leastSet_29 : decode cX13_leastSet 29 = .ok (.aload_n 0, 1) := by decide +kernel
theorem dX13_leastSet_30 : decode cX13_leastSet 30 = .ok (.iload_n 1, 1) := by decide +kernel
theorem dX13_leastSet_31 : decode cX13_leastSet 31 = .ok (.iconst 1, 1) := by decide +kernel
theorem dX13_leastSet_32 : decode cX13_leastSet 32 = .ok (.iload_n 3, 1) := by decide +kernel
theorem dX13_leastSet_33 : decode cX13_leastSet 33 = .ok (.ishl, 1) := by decide +kernel
theorem dX13_leastSet_34 : decode cX13_leastSet 34 = .ok (.invokevirtual 355, 3) := by decide +kernel
theorem dX13_leastSet_37 : decode cX13_leastSet 37 = .ok (.ifCond .eq 7, 3) := by decide +kernel
theorem dX13_leastSet_40 : decode cX13_leastSet 40 = .ok (.iconst 1, 1) := by decide +kernel
theorem dX13_leastSet_41 : decode cX13_leastSet 41 = .ok (.iload_n 3, 1) := by decide +kernel
theorem dX13_leastSet_42 : decode cX13_leastSet 42 = .ok (.ishl, 1) := by decide +kernel
theorem dX13_leastSet_43 : decode cX13_leastSet 43 = .ok (.ireturn, 1) := by decide +kernel
theorem dX13_leastSet_44 : decode cX13_leastSet 44 = .ok (.iinc 3 1, 3) := by decide +kernel
theorem dX13_leastSet_47 : decode cX13_leastSet 47 = .ok (.goto (-34), 3) := by decide +kernel
theorem dX13_leastSet_50 : decode cX13_leastSet 50 = .ok (.iconst 0, 1) := by decide +kernel
theorem dX13_leastSet_51 : decode cX13_leastSet 51 = .ok (.istore_n 3, 1) := by decide +kernel
theorem dX13_leastSet_52 : decode cX13_leastSet 52 = .ok (.iload_n 3, 1) := by decide +kernel
theorem dX13_leastSet_53 : decode cX13_leastSet 53 = .ok (.aload_n 0, 1) := by decide +kernel
theorem dX13_leastSet_54 : decode cX13_leastSet 54 = .ok (.invokevirtual 277, 3) := by decide +kernel
theorem dX13_leastSet_57 : decode cX13_leastSet 57 = .ok (.if_icmp .ge 66, 3) := by decide +kernel
theorem dX13_leastSet_60 : decode cX13_leastSet 60 = .ok (.iconst 0, 1) := by decide +kernel
theorem dX13_leastSet_61 : decode cX13_leastSet 61 = .ok (.istore 4, 2) := by decide +kernel
theorem dX13_leastSet_63 : decode cX13_leastSet 63 = .ok (.iload 4, 2) := by decide +kernel
theorem dX13_leastSet_65 : decode cX13_leastSet 65 = .ok (.iload_n 3, 1) := by decide +kernel
theorem dX13_leastSet_66 : decode cX13_leastSet 66 = .ok (.if_icmp .ge 51, 3) := by decide +kernel
theorem dX13_leastSet_69 : decode cX13_leastSet 69 = .ok (.iload_n 2, 1) := by decide +kernel
theorem dX13_leastSet_70 : decode cX13_leastSet 70 = .ok (.iload 4, 2) := by decide +kernel
theorem dX13_leastSet_72 : decode cX13_leastSet 72 = .ok (.invokestatic 345, 3) := by decide +kernel
theorem dX13_leastSet_75 : decode cX13_leastSet 75 = .ok (.ifCond .eq 36, 3) := by decide +kernel
theorem dX13_leastSet_78 : decode cX13_leastSet 78 = .ok (.iload_n 2, 1) := by decide +kernel
theorem dX13_leastSet_79 : decode cX13_leastSet 79 = .ok (.iload_n 3, 1) := by decide +kernel
theorem dX13_leastSet_80 : decode cX13_leastSet 80 = .ok (.invokestatic 345, 3) := by decide +kernel
theorem dX13_leastSet_83 : decode cX13_leastSet 83 = .ok (.ifCond .eq 28, 3) := by decide +kernel
theorem dX13_leastSet_86 : decode cX13_leastSet 86 = .ok (.aload_n 0, 1) := by decide +kernel
theorem dX13_leastSet_87 : decode cX13_leastSet 87 = .ok (.iload_n 1, 1) := by decide +kernel
theorem dX13_leastSet_88 : decode cX13_leastSet 88 = .ok (.iconst 1, 1) := by decide +kernel
theorem dX13_leastSet_89 : decode cX13_leastSet 89 = .ok (.iload 4, 2) := by decide +kernel
theorem dX13_leastSet_91 : decode cX13_leastSet 91 = .ok (.ishl, 1) := by decide +kernel
theorem dX13_leastSet_92 : decode cX13_leastSet 92 = .ok (.iconst 1, 1) := by decide +kernel
theorem dX13_leastSet_93 : decode cX13_leastSet 93 = .ok (.iload_n 3, 1) := by decide +kernel
theorem dX13_leastSet_94 : decode cX13_leastSet 94 = .ok (.ishl, 1) := by decide +kernel
theorem dX13_leastSet_95 : decode cX13_leastSet 95 = .ok (.ior, 1) := by decide +kernel
theorem dX13_leastSet_96 : decode cX13_leastSet 96 = .ok (.invokevirtual 355, 3) := by decide +kernel
theorem dX13_leastSet_99 : decode cX13_leastSet 99 = .ok (.ifCond .eq 12, 3) := by decide +kernel
theorem dX13_leastSet_102 : decode cX13_leastSet 102 = .ok (.iconst 1, 1) := by decide +kernel
theorem dX13_leastSet_103 : decode cX13_leastSet 103 = .ok (.iload 4, 2) := by decide +kernel
theorem dX13_leastSet_105 : decode cX13_leastSet 105 = .ok (.ishl, 1) := by decide +kernel
theorem dX13_leastSet_106 : decode cX13_leastSet 106 = .ok (.iconst 1, 1) := by decide +kernel
theorem dX13_leastSet_107 : decode cX13_leastSet 107 = .ok (.iload_n 3, 1) := by decide +kernel
theorem dX13_leastSet_108 : decode cX13_leastSet 108 = .ok (.ishl, 1) := by decide +kernel
theorem dX13_leastSet_109 : decode cX13_leastSet 109 = .ok (.ior, 1) := by decide +kernel
theorem dX13_leastSet_110 : decode cX13_leastSet 110 = .ok (.ireturn, 1) := by decide +kernel
theorem dX13_leastSet_111 : decode cX13_leastSet 111 = .ok (.iinc 4 1, 3) := by decide +kernel
theorem dX13_leastSet_114 : decode cX13_leastSet 114 = .ok (.goto (-51), 3) := by decide +kernel
theorem dX13_leastSet_117 : decode cX13_leastSet 117 = .ok (.iinc 3 1, 3) := by decide +kernel
theorem dX13_leastSet_120 : decode cX13_leastSet 120 = .ok (.goto (-68), 3) := by decide +kernel
theorem dX13_leastSet_123 : decode cX13_leastSet 123 = .ok (.iconst 0, 1) := by decide +kernel
theorem dX13_leastSet_124 : decode cX13_leastSet 124 = .ok (.istore_n 3, 1) := by decide +kernel
theorem dX13_leastSet_125 : decode cX13_leastSet 125 = .ok (.iload_n 3, 1) := by decide +kernel
theorem dX13_leastSet_126 : decode cX13_leastSet 126 = .ok (.aload_n 0, 1) := by decide +kernel
theorem dX13_leastSet_127 : decode cX13_leastSet 127 = .ok (.invokevirtual 277, 3) := by decide +kernel
theorem dX13_leastSet_130 : decode cX13_leastSet 130 = .ok (.if_icmp .ge 77, 3) := by decide +kernel
theorem dX13_leastSet_133 : decode cX13_leastSet 133 = .ok (.iconst 0, 1) := by decide +kernel
theorem dX13_leastSet_134 : decode cX13_leastSet 134 = .ok (.istore 4, 2) := by decide +kernel
theorem dX13_leastSet_136 : decode cX13_leastSet 136 = .ok (.iload 4, 2) := by decide +kernel
theorem dX13_leastSet_138 : decode cX13_leastSet 138 = .ok (.iload_n 3, 1) := by decide +kernel
theorem dX13_leastSet_139 : decode cX13_leastSet 139 = .ok (.if_icmp .ge 62, 3) := by decide +kernel
theorem dX13_leastSet_142 : decode cX13_leastSet 142 = .ok (.iconst 0, 1) := by decide +kernel
theorem dX13_leastSet_143 : decode cX13_leastSet 143 = .ok (.istore 5, 2) := by decide +kernel
theorem dX13_leastSet_145 : decode cX13_leastSet 145 = .ok (.iload 5, 2) := by decide +kernel
theorem dX13_leastSet_147 : decode cX13_leastSet 147 = .ok (.iload 4, 2) := by decide +kernel
theorem dX13_leastSet_149 : decode cX13_leastSet 149 = .ok (.if_icmp .ge 46, 3) := by decide +kernel
theorem dX13_leastSet_152 : decode cX13_leastSet 152 = .ok (.iconst 1, 1) := by decide +kernel
theorem dX13_leastSet_153 : decode cX13_leastSet 153 = .ok (.iload 5, 2) := by decide +kernel
theorem dX13_leastSet_155 : decode cX13_leastSet 155 = .ok (.ishl, 1) := by decide +kernel
theorem dX13_leastSet_156 : decode cX13_leastSet 156 = .ok (.iconst 1, 1) := by decide +kernel
theorem dX13_leastSet_157 : decode cX13_leastSet 157 = .ok (.iload 4, 2) := by decide +kernel
theorem dX13_leastSet_159 : decode cX13_leastSet 159 = .ok (.ishl, 1) := by decide +kernel
theorem dX13_leastSet_160 : decode cX13_leastSet 160 = .ok (.ior, 1) := by decide +kernel
theorem dX13_leastSet_161 : decode cX13_leastSet 161 = .ok (.iconst 1, 1) := by decide +kernel
theorem dX13_leastSet_162 : decode cX13_leastSet 162 = .ok (.iload_n 3, 1) := by decide +kernel
theorem dX13_leastSet_163 : decode cX13_leastSet 163 = .ok (.ishl, 1) := by decide +kernel
theorem dX13_leastSet_164 : decode cX13_leastSet 164 = .ok (.ior, 1) := by decide +kernel
theorem dX13_leastSet_165 : decode cX13_leastSet 165 = .ok (.istore 6, 2) := by decide +kernel
theorem dX13_leastSet_167 : decode cX13_leastSet 167 = .ok (.iload 6, 2) := by decide +kernel
theorem dX13_leastSet_169 : decode cX13_leastSet 169 = .ok (.iload_n 2, 1) := by decide +kernel
theorem dX13_leastSet_170 : decode cX13_leastSet 170 = .ok (.iconst (-1), 1) := by decide +kernel
theorem dX13_leastSet_171 : decode cX13_leastSet 171 = .ok (.ixor, 1) := by decide +kernel
theorem dX13_leastSet_172 : decode cX13_leastSet 172 = .ok (.iand, 1) := by decide +kernel
theorem dX13_leastSet_173 : decode cX13_leastSet 173 = .ok (.ifCond .ne 16, 3) := by decide +kernel
theorem dX13_leastSet_176 : decode cX13_leastSet 176 = .ok (.aload_n 0, 1) := by decide +kernel
theorem dX13_leastSet_177 : decode cX13_leastSet 177 = .ok (.iload_n 1, 1) := by decide +kernel
theorem dX13_leastSet_178 : decode cX13_leastSet 178 = .ok (.iload 6, 2) := by decide +kernel
theorem dX13_leastSet_180 : decode cX13_leastSet 180 = .ok (.invokevirtual 355, 3) := by decide +kernel
theorem dX13_leastSet_183 : decode cX13_leastSet 183 = .ok (.ifCond .eq 6, 3) := by decide +kernel
theorem dX13_leastSet_186 : decode cX13_leastSet 186 = .ok (.iload 6, 2) := by decide +kernel
theorem dX13_leastSet_188 : decode cX13_leastSet 188 = .ok (.ireturn, 1) := by decide +kernel
theorem dX13_leastSet_189 : decode cX13_leastSet 189 = .ok (.iinc 5 1, 3) := by decide +kernel
theorem dX13_leastSet_192 : decode cX13_leastSet 192 = .ok (.goto (-47), 3) := by decide +kernel
theorem dX13_leastSet_195 : decode cX13_leastSet 195 = .ok (.iinc 4 1, 3) := by decide +kernel
theorem dX13_leastSet_198 : decode cX13_leastSet 198 = .ok (.goto (-62), 3) := by decide +kernel
theorem dX13_leastSet_201 : decode cX13_leastSet 201 = .ok (.iinc 3 1, 3) := by decide +kernel
theorem dX13_leastSet_204 : decode cX13_leastSet 204 = .ok (.goto (-79), 3) := by decide +kernel
theorem dX13_leastSet_207 : decode cX13_leastSet 207 = .ok (.bipush (-2), 2) := by decide +kernel
theorem dX13_leastSet_209 : decode cX13_leastSet 209 = .ok (.ireturn, 1) := by decide +kernel
theorem dX13_leaves_0 : decode cX13_leaves 0 = .ok (.aload_n 0, 1) := by decide +kernel
theorem dX13_leaves_1 : decode cX13_leaves 1 = .ok (.getfield 269, 3) := by decide +kernel
theorem dX13_leaves_4 : decode cX13_leaves 4 = .ok (.getfield 238, 3) := by decide +kernel
theorem dX13_leaves_7 : decode cX13_leaves 7 = .ok (.iload_n 1, 1) := by decide +kernel
theorem dX13_leaves_8 : decode cX13_leaves 8 = .ok (.iaload, 1) := by decide +kernel
theorem dX13_leaves_9 : decode cX13_leaves 9 = .ok (.istore_n 3, 1) := by decide +kernel
theorem dX13_leaves_10 : decode cX13_leaves 10 = .ok (.iconst 0, 1) := by decide +kernel
theorem dX13_leaves_11 : decode cX13_leaves 11 = .ok (.istore 4, 2) := by decide +kernel
theorem dX13_leaves_13 : decode cX13_leaves 13 = .ok (.iload 4, 2) := by decide +kernel
theorem dX13_leaves_15 : decode cX13_leaves 15 = .ok (.aload_n 0, 1) := by decide +kernel
theorem dX13_leaves_16 : decode cX13_leaves 16 = .ok (.invokevirtual 277, 3) := by decide +kernel
theorem dX13_leaves_19 : decode cX13_leaves 19 = .ok (.if_icmp .ge 19, 3) := by decide +kernel
theorem dX13_leaves_22 : decode cX13_leaves 22 = .ok (.aload_n 0, 1) := by decide +kernel
theorem dX13_leaves_23 : decode cX13_leaves 23 = .ok (.getfield 30, 3) := by decide +kernel
theorem dX13_leaves_26 : decode cX13_leaves 26 = .ok (.iload 4, 2) := by decide +kernel
theorem dX13_leaves_28 : decode cX13_leaves 28 = .ok (.ldc_w 293, 3) := by decide +kernel
theorem dX13_leaves_31 : decode cX13_leaves 31 = .ok (.iastore, 1) := by decide +kernel
theorem dX13_leaves_32 : decode cX13_leaves 32 = .ok (.iinc 4 1, 3) := by decide +kernel
theorem dX13_leaves_35 : decode cX13_leaves 35 = .ok (.goto (-22), 3) := by decide +kernel
theorem dX13_leaves_38 : decode cX13_leaves 38 = .ok (.aload_n 0, 1) := by decide +kernel
theorem dX13_leaves_39 : decode cX13_leaves 39 = .ok (.getfield 30, 3) := by decide +kernel
theorem dX13_leaves_42 : decode cX13_leaves 42 = .ok (.aload_n 0, 1) := by decide +kernel
theorem dX13_leaves_43 : decode cX13_leaves 43 = .ok (.getfield 269, 3) := by decide +kernel
theorem dX13_leaves_46 : decode cX13_leaves 46 = .ok (.getfield 243, 3) := by decide +kernel
theorem dX13_leaves_49 : decode cX13_leaves 49 = .ok (.iload_n 1, 1) := by decide +kernel
theorem dX13_leaves_50 : decode cX13_leaves 50 = .ok (.iaload, 1) := by decide +kernel
theorem dX13_leaves_51 : decode cX13_leaves 51 = .ok (.iconst 0, 1) := by decide +kernel
theorem dX13_leaves_52 : decode cX13_leaves 52 = .ok (.iastore, 1) := by decide +kernel
theorem dX13_leaves_53 : decode cX13_leaves 53 = .ok (.iconst 1, 1) := by decide +kernel
theorem dX13_leaves_54 : decode cX13_leaves 54 = .ok (.istore 4, 2) := by decide +kernel
theorem dX13_leaves_56 : decode cX13_leaves 56 = .ok (.iload 4, 2) := by decide +kernel
theorem dX13_leaves_58 : decode cX13_leaves 58 = .ok (.ifCond .eq 131, 3) := by decide +kernel
theorem dX13_leaves_61 : decode cX13_leaves 61 = .ok (.iconst 0, 1) := by decide +kernel
theorem dX13_leaves_62 : decode cX13_leaves 62 = .ok (.istore 4, 2) := by decide +kernel
theorem dX13_leaves_64 : decode cX13_leaves 64 = .ok (.iconst 0, 1) := by decide +kernel
theorem dX13_leaves_65 : decode cX13_leaves 65 = .ok (.istore 5, 2) := by decide +kernel
theorem dX13_leaves_67 : decode cX13_leaves 67 = .ok (.iload 5, 2) := by decide +kernel
theorem dX13_leaves_69 : decode cX13_leaves 69 = .ok (.aload_n 0, 1) := by decide +kernel
theorem dX13_leaves_70 : decode cX13_leaves 70 = .ok (.invokevirtual 277, 3) := by decide +kernel
theorem dX13_leaves_73 : decode cX13_leaves 73 = .ok (.if_icmp .ge 113, 3) := by decide +kernel
theorem dX13_leaves_76 : decode cX13_leaves 76 = .ok (.iconst 0, 1) := by decide +kernel
theorem dX13_leaves_77 : decode cX13_leaves 77 = .ok (.istore 6, 2) := by decide +kernel
theorem dX13_leaves_79 : decode cX13_leaves 79 = .ok (.iload 6, 2) := by decide +kernel
theorem dX13_leaves_81 : decode cX13_leaves 81 = .ok (.iconst 4, 1) := by decide +kernel
theorem dX13_leaves_82 : decode cX13_leaves 82 = .ok (.if_icmp .ge 98, 3) := by decide +kernel
theorem dX13_leaves_85 : decode cX13_leaves 85 = .ok (.aload_n 0, 1) := by decide +kernel
theorem dX13_leaves_86 : decode cX13_leaves 86 = .ok (.iload_n 3, 1) := by decide +kernel
theorem dX13_leaves_87 : decode cX13_leaves 87 = .ok (.iload 5, 2) := by decide +kernel
theorem dX13_leaves_89 : decode cX13_leaves 89 = .ok (.iload 6, 2) := by decide +kernel
theorem dX13_leaves_91 : decode cX13_leaves 91 = .ok (.invokevirtual 289, 3) := by decide +kernel
theorem dX13_leaves_94 : decode cX13_leaves 94 = .ok (.bipush (-2), 2) := by decide +kernel
theorem dX13_leaves_96 : decode cX13_leaves 96 = .ok (.if_icmp .eq 78, 3) := by decide +kernel
theorem dX13_leaves_99 : decode cX13_leaves 99 = .ok (.aload_n 0, 1) := by decide +kernel
theorem dX13_leaves_100 : decode cX13_leaves 100 = .ok (.getfield 30, 3) := by decide +kernel
theorem dX13_leaves_103 : decode cX13_leaves 103 = .ok (.aload_n 0, 1) := by decide +kernel
theorem dX13_leaves_104 : decode cX13_leaves 104 = .ok (.iload 5, 2) := by decide +kernel
theorem dX13_leaves_106 : decode cX13_leaves 106 = .ok (.iload 6, 2) := by decide +kernel
theorem dX13_leaves_108 : decode cX13_leaves 108 = .ok (.invokevirtual 280, 3) := by decide +kernel
theorem dX13_leaves_111 : decode cX13_leaves 111 = .ok (.iaload, 1) := by decide +kernel
theorem dX13_leaves_112 : decode cX13_leaves 112 = .ok (.ldc_w 293, 3) := by decide +kernel
theorem dX13_leaves_115 : decode cX13_leaves 115 = .ok (.if_icmp .ne 6, 3) := by decide +kernel
theorem dX13_leaves_118 : decode cX13_leaves 118 = .ok (.goto 56, 3) := by decide +kernel
theorem dX13_leaves_121 : decode cX13_leaves 121 = .ok (.aload_n 0, 1) := by decide +kernel
theorem dX13_leaves_122 : decode cX13_leaves 122 = .ok (.iload_n 3, 1) := by decide +kernel
theorem dX13_leaves_123 : decode cX13_leaves 123 = .ok (.iload 5, 2) := by decide +kernel
theorem dX13_leaves_125 : decode cX13_leaves 125 = .ok (.iload 6, 2) := by decide +kernel
theorem dX13_leaves_127 : decode cX13_leaves 127 = .ok (.iload_n 2, 1) := by decide +kernel
theorem dX13_leaves_128 : decode cX13_leaves 128 = .ok (.invokevirtual 294, 3) := by decide +kernel
theorem dX13_leaves_131 : decode cX13_leaves 131 = .ok (.aload_n 0, 1) := by decide +kernel
theorem dX13_leaves_132 : decode cX13_leaves 132 = .ok (.getfield 30, 3) := by decide +kernel
theorem dX13_leaves_135 : decode cX13_leaves 135 = .ok (.aload_n 0, 1) := by decide +kernel
theorem dX13_leaves_136 : decode cX13_leaves 136 = .ok (.iload 5, 2) := by decide +kernel
theorem dX13_leaves_138 : decode cX13_leaves 138 = .ok (.iload 6, 2) := by decide +kernel
theorem dX13_leaves_140 : decode cX13_leaves 140 = .ok (.invokevirtual 280, 3) := by decide +kernel
theorem dX13_leaves_143 : decode cX13_leaves 143 = .ok (.iaload, 1) := by decide +kernel
theorem dX13_leaves_144 : decode cX13_leaves 144 = .ok (.iadd, 1) := by decide +kernel
theorem dX13_leaves_145 : decode cX13_leaves 145 = .ok (.istore 7, 2) := by decide +kernel
theorem dX13_leaves_147 : decode cX13_leaves 147 = .ok (.iload 7, 2) := by decide +kernel
theorem dX13_leaves_149 : decode cX13_leaves 149 = .ok (.aload_n 0, 1) := by decide +kernel
theorem dX13_leaves_150 : decode cX13_leaves 150 = .ok (.getfield 30, 3) := by decide +kernel
theorem dX13_leaves_153 : decode cX13_leaves 153 = .ok (.iload 5, 2) := by decide +kernel
theorem dX13_leaves_155 : decode cX13_leaves 155 = .ok (.iaload, 1) := by decide +kernel
theorem dX13_leaves_156 : decode cX13_leaves 156 = .ok (.if_icmp .lt 6, 3) := by decide +kernel
theorem dX13_leaves_159 : decode cX13_leaves 159 = .ok (.goto 15, 3) := by decide +kernel
theorem dX13_leaves_162 : decode cX13_leaves 162 = .ok (.aload_n 0, 1) := by decide +kernel
theorem dX13_leaves_163 : decode cX13_leaves 163 = .ok (.getfield 30, 3) := by decide +kernel
theorem dX13_leaves_166 : decode cX13_leaves 166 = .ok (.iload 5, 2) := by decide +kernel
theorem dX13_leaves_168 : decode cX13_leaves 168 = .ok (.iload 7, 2) := by decide +kernel
theorem dX13_leaves_170 : decode cX13_leaves 170 = .ok (.iastore, 1) := by decide +kernel
theorem dX13_leaves_171 : decode cX13_leaves 171 = .ok (.iconst 1, 1) := by decide +kernel
theorem dX13_leaves_172 : decode cX13_leaves 172 = .ok (.istore 4, 2) := by decide +kernel
theorem dX13_leaves_174 : decode cX13_leaves 174 = .ok (.iinc 6 1, 3) := by decide +kernel
theorem dX13_leaves_177 : decode cX13_leaves 177 = .ok (.goto (-98), 3) := by decide +kernel
theorem dX13_leaves_180 : decode cX13_leaves 180 = .ok (.iinc 5 1, 3) := by decide +kernel
theorem dX13_leaves_183 : decode cX13_leaves 183 = .ok (.goto (-116), 3) := by decide +kernel
theorem dX13_leaves_186 : decode cX13_leaves 186 = .ok (.goto (-130), 3) := by decide +kernel
theorem dX13_leaves_189 : decode cX13_leaves 189 = .ok (.return_, 1) := by decide +kernel
theorem dX13_led_0 : decode cX13_led 0 = .ok (.aload_n 0, 1) := by decide +kernel
theorem dX13_led_1 : decode cX13_led 1 = .ok (.iconst 0, 1) := by decide +kernel
theorem dX13_led_2 : decode cX13_led 2 = .ok (.putfield 42, 3) := by decide +kernel
theorem dX13_led_5 : decode cX13_led 5 = .ok (.iconst 0, 1) := by decide +kernel
theorem dX13_led_6 : decode cX13_led 6 = .ok (.istore_n 2, 1) := by decide +kernel
theorem dX13_led_7 : decode cX13_led 7 = .ok (.aload_n 0, 1) := by decide +kernel
theorem dX13_led_8 : decode cX13_led 8 = .ok (.getfield 269, 3) := by decide +kernel
theorem dX13_led_11 : decode cX13_led 11 = .ok (.ifnull 7, 3) := by decide +kernel
theorem dX13_led_14 : decode cX13_led 14 = .ok (.aload_n 0, 1) := by decide +kernel
theorem dX13_led_15 : decode cX13_led 15 = .ok (.invokevirtual 317, 3) := by decide +kernel
theorem dX13_led_18 : decode cX13_led 18 = .ok (.iconst 0, 1) := by decide +kernel
theorem dX13_led_19 : decode cX13_led 19 = .ok (.istore_n 3, 1) := by decide +kernel
theorem dX13_led_20 : decode cX13_led 20 = .ok (.aload_n 0, 1) := by decide +kernel
theorem dX13_led_21 : decode cX13_led 21 = .ok (.getfield 269, 3) := by decide +kernel
theorem dX13_led_24 : decode cX13_led 24 = .ok (.ifnull 45, 3) := by decide +kernel
theorem dX13_led_27 : decode cX13_led 27 = .ok (.iload_n 3, 1) := by decide +kernel
theorem dX13_led_28 : decode cX13_led 28 = .ok (.aload_n 0, 1) := by decide +kernel
theorem dX13_led_29 : decode cX13_led 29 = .ok (.getfield 269, 3) := by decide +kernel
theorem dX13_led_32 : decode cX13_led 32 = .ok (.getfield 206, 3) := by decide +kernel
theorem dX13_led_35 : decode cX13_led 35 = .ok (.if_icmp .ge 34, 3) := by decide +kernel
theorem dX13_led_38 : decode cX13_led 38 = .ok (.aload_n 0, 1) := by decide +kernel
theorem dX13_led_39 : decode cX13_led 39 = .ok (.iload_n 3, 1) := by decide +kernel
theorem dX13_led_40 : decode cX13_led 40 = .ok (.iconst 1, 1) := by decide +kernel
theorem dX13_led_41 : decode cX13_led 41 = .ok (.invokevirtual 323, 3) := by decide +kernel
theorem dX13_led_44 : decode cX13_led 44 = .ok (.ldc_w 293, 3) := by decide +kernel
theorem dX13_led_47 : decode cX13_led 47 = .ok (.if_icmp .eq 6, 3) := by decide +kernel
theorem dX13_led_50 : decode cX13_led 50 = .ok (.goto 13, 3) := by decide +kernel
theorem dX13_led_53 : decode cX13_led 53 = .ok (.iload_n 2, 1) := by decide +kernel
theorem dX13_led_54 : decode cX13_led 54 = .ok (.iload_n 1, 1) := by decide +kernel
theorem dX13_led_55 : decode cX13_led 55 = .ok (.if_icmp .ne 5, 3) := by decide +kernel
theorem dX13_led_58 : decode cX13_led 58 = .ok (.iload_n 3, 1) := by decide +kernel
theorem dX13_led_59 : decode cX13_led 59 = .ok (.ireturn, 1) := by decide +kernel
theorem dX13_led_60 : decode cX13_led 60 = .ok (.iinc 2 1, 3) := by decide +kernel
theorem dX13_led_63 : decode cX13_led 63 = .ok (.iinc 3 1, 3) := by decide +kernel
theorem dX13_led_66 : decode cX13_led 66 = .ok (.goto (-46), 3) := by decide +kernel
theorem dX13_led_69 : decode cX13_led 69 = .ok (.aload_n 0, 1) := by decide +kernel
theorem dX13_led_70 : decode cX13_led 70 = .ok (.iconst 1, 1) := by decide +kernel
theorem dX13_led_71 : decode cX13_led 71 = .ok (.putfield 42, 3) := by decide +kernel
theorem dX13_led_74 : decode cX13_led 74 = .ok (.iconst 0, 1) := by decide +kernel
theorem dX13_led_75 : decode cX13_led 75 = .ok (.ireturn, 1) := by decide +kernel
theorem dX13_lies_0 : decode cX13_lies 0 = .ok (.aload_n 0, 1) := by decide +kernel
theorem dX13_lies_1 : decode cX13_lies 1 = .ok (.iconst 0, 1) := by decide +kernel
theorem dX13_lies_2 : decode cX13_lies 2 = .ok (.putfield 42, 3) := by decide +kernel
theorem dX13_lies_5 : decode cX13_lies 5 = .ok (.aload_n 0, 1) := by decide +kernel
theorem dX13_lies_6 : decode cX13_lies 6 = .ok (.iload_n 1, 1) := by decide +kernel
theorem dX13_lies_7 : decode cX13_lies 7 = .ok (.invokevirtual 405, 3) := by decide +kernel
theorem dX13_lies_10 : decode cX13_lies 10 = .ok (.istore 5, 2) := by decide +kernel
theorem dX13_lies_12 : decode cX13_lies 12 = .ok (.iload 5, 2) := by decide +kernel
theorem dX13_lies_14 : decode cX13_lies 14 = .ok (.ifCond .le 12, 3) := by decide +kernel
theorem dX13_lies_17 : decode cX13_lies 17 = .ok (.aload_n 0, 1) := by decide +kernel
theorem dX13_lies_18 : decode cX13_lies 18 = .ok (.iload 5, 2) := by decide +kernel
theorem dX13_lies_20 : decode cX13_lies 20 = .ok (.invokevirtual 408, 3) := by decide +kernel
theorem dX13_lies_23 : decode cX13_lies 23 = .ok (.goto 27, 3) := by decide +kernel
theorem dX13_lies_26 : decode cX13_lies 26 = .ok (.aload_n 0, 1) := by decide +kernel
theorem dX13_lies_27 : decode cX13_lies 27 = .ok (.iload 4, 2) := by decide +kernel
theorem dX13_lies_29 : decode cX13_lies 29 = .ok (.ifCond .eq 12, 3) := by decide +kernel
theorem dX13_lies_32 : decode cX13_lies 32 = .ok (.iload_n 1, 1) := by decide +kernel
theorem dX13_lies_33 : decode cX13_lies 33 = .ok (.iload_n 3, 1) := by decide +kernel
theorem dX13_lies_34 : decode cX13_lies 34 = .ok (.iload_n 2, 1) := by decide +kernel
theorem dX13_lies_35 : decode cX13_lies 35 = .ok (.invokestatic 411, 3) := by decide +kernel
theorem dX13_lies_38 : decode cX13_lies 38 = .ok (.goto 9, 3) := by decide +kernel
theorem dX13_lies_41 : decode cX13_lies 41 = .ok (.iload_n 1, 1) := by decide +kernel
theorem dX13_lies_42 : decode cX13_lies 42 = .ok (.iload_n 2, 1) := by decide +kernel
theorem dX13_lies_43 : decode cX13_lies 43 = .ok (.iload_n 3, 1) := by decide +kernel
theorem dX13_lies_44 : decode cX13_lies 44 = .ok (.invokestatic 411, 3) := by decide +kernel
theorem dX13_lies_47 : decode cX13_lies 47 = .ok (.invokevirtual 52, 3) := by decide +kernel
theorem dX13_lies_50 : decode cX13_lies 50 = .ok (.ireturn, 1) := by decide +kernel
theorem dX13_likeliest_0 : decode cX13_likeliest 0 = .ok (.aload_n 0, 1) := by decide +kernel
theorem dX13_likeliest_1 : decode cX13_likeliest 1 = .ok (.iconst 0, 1) := by decide +kernel
theorem dX13_likeliest_2 : decode cX13_likeliest 2 = .ok (.putfield 42, 3) := by decide +kernel
theorem dX13_likeliest_5 : decode cX13_likeliest 5 = .ok (.aload_n 0, 1) := by decide +kernel
theorem dX13_likeliest_6 : decode cX13_likeliest 6 = .ok (.getfield 269, 3) := by decide +kernel
theorem dX13_likeliest_9 : decode cX13_likeliest 9 = .ok (.ifnonnull 9, 3) := by decide +kernel
theorem dX13_likeliest_12 : decode cX13_likeliest 12 = .ok (.aload_n 0, 1) := by decide +kernel
theorem dX13_likeliest_13 : decode cX13_likeliest 13 = .ok (.iconst 1, 1) := by decide +kernel
theorem dX13_likeliest_14 : decode cX13_likeliest 14 = .ok (.invokevirtual 48, 3) := by decide +kernel
theorem dX13_likeliest_17 : decode cX13_likeliest 17 = .ok (.ireturn, 1) := by decide +kernel
theorem dX13_likeliest_18 : decode cX13_likeliest 18 = .ok (.bipush (-2), 2) := by decide +kernel
theorem dX13_likeliest_20 : decode cX13_likeliest 20 = .ok (.istore_n 1, 1) := by decide +kernel
theorem dX13_likeliest_21 : decode cX13_likeliest 21 = .ok (.lconst 0, 1) := by decide +kernel
theorem dX13_likeliest_22 : decode cX13_likeliest 22 = .ok (.lstore_n 2, 1) := by decide +kernel
theorem dX13_likeliest_23 : decode cX13_likeliest 23 = .ok (.iconst 0, 1) := by decide +kernel
theorem dX13_likeliest_24 : decode cX13_likeliest 24 = .ok (.istore 4, 2) := by decide +kernel
theorem dX13_likeliest_26 : decode cX13_likeliest 26 = .ok (.iload 4, 2) := by decide +kernel
theorem dX13_likeliest_28 : decode cX13_likeliest 28 = .ok (.aload_n 0, 1) := by decide +kernel
theorem dX13_likeliest_29 : decode cX13_likeliest 29 = .ok (.invokevirtual 385, 3) := by decide +kernel
theorem dX13_likeliest_32 : decode cX13_likeliest 32 = .ok (.if_icmp .ge 33, 3) := by decide +kernel
theorem dX13_likeliest_35 : decode cX13_likeliest 35 = .ok (.aload_n 0, 1) := by decide +kernel
theorem dX13_likeliest_36 : decode cX13_likeliest 36 = .ok (.iload 4, 2) := by decide +kernel
theorem dX13_likeliest_38 : decode cX13_likeliest 38 = .ok (.invokevirtual 388, 3) := by decide +kernel
theorem dX13_likeliest_41 : decode cX13_likeliest 41 = .ok (.lload_n 2, 1) := by decide +kernel
theorem dX13_likeliest_42 : decode cX13_likeliest 42 = .ok (.lcmp, 1) := by decide +kernel
theorem dX13_likeliest_43 : decode cX13_likeliest 43 = .ok (.ifCond .gt 6, 3) := by decide +kernel
theorem dX13_likeliest_46 : decode cX13_likeliest 46 = .ok (.goto 13, 3) := by decide +kernel
theorem dX13_likeliest_49 : decode cX13_likeliest 49 = .ok (.aload_n 0, 1) := by decide +kernel
theorem dX13_likeliest_50 : decode cX13_likeliest 50 = .ok (.iload 4, 2) := by decide +kernel
theorem dX13_likeliest_52 : decode cX13_likeliest 52 = .ok (.invokevirtual 388, 3) := by decide +kernel
theorem dX13_likeliest_55 : decode cX13_likeliest 55 = .ok (.lstore_n 2, 1) := by decide +kernel
theorem dX13_likeliest_56 : decode cX13_likeliest 56 = .ok (.iload 4, 2) := by decide +kernel
theorem dX13_likeliest_58 : decode cX13_likeliest 58 = .ok (.istore_n 1, 1) := by decide +kernel
theorem dX13_likeliest_59 : decode cX13_likeliest 59 = .ok (.iinc 4 1, 3) := by decide +kernel
theorem dX13_likeliest_62 : decode cX13_likeliest 62 = .ok (.goto (-36), 3) := by decide +kernel
theorem dX13_likeliest_65 : decode cX13_likeliest 65 = .ok (.aload_n 0, 1) := by decide +kernel
theorem dX13_likeliest_66 : decode cX13_likeliest 66 = .ok (.iload_n 1, 1) := by decide +kernel
theorem dX13_likeliest_67 : decode cX13_likeliest 67 = .ok (.invokevirtual 52, 3) := by decide +kernel
theorem dX13_likeliest_70 : decode cX13_likeliest 70 = .ok (.ireturn, 1) := by decide +kernel
theorem dX13_lineBegins_0 : decode cX13_lineBegins 0 = .ok (.iload_n 1, 1) := by decide +kernel
theorem dX13_lineBegins_1 : decode cX13_lineBegins 1 = .ok (.iload_n 2, 1) := by decide +kernel
theorem dX13_lineBegins_2 : decode cX13_lineBegins 2 = .ok (.if_icmp .ne 8, 3) := by decide +kernel
theorem dX13_lineBegins_5 : decode cX13_lineBegins 5 = .ok (.aload_n 0, 1) := by decide +kernel
theorem dX13_lineBegins_6 : decode cX13_lineBegins 6 = .ok (.iconst 5, 1) := by decide +kernel
theorem dX13_lineBegins_7 : decode cX13_lineBegins 7 = .ok (.invokevirtual 120, 3) := by decide +kernel
theorem dX13_lineBegins_10 : decode cX13_lineBegins 10 = .ok (.aload_n 0, 1) := by decide +kernel
theorem dX13_lineBegins_11 : decode cX13_lineBegins 11 = .ok (.getfield 154, 3) := by decide +kernel
theorem dX13_lineBegins_14 : decode cX13_lineBegins 14 = .ok (.getfield 158, 3) := by decide +kernel
theorem dX13_lineBegins_17 : decode cX13_lineBegins 17 = .ok (.ifCond .eq 20, 3) := by decide +kernel
theorem dX13_lineBegins_20 : decode cX13_lineBegins 20 = .ok (.aload_n 0, 1) := by decide +kernel
theorem dX13_lineBegins_21 : decode cX13_lineBegins 21 = .ok (.getfield 154, 3) := by decide +kernel
theorem dX13_lineBegins_24 : decode cX13_lineBegins 24 = .ok (.getfield 163, 3) := by decide +kernel
theorem dX13_lineBegins_27 : decode cX13_lineBegins 27 = .ok (.aload_n 0, 1) := by decide +kernel
theorem dX13_lineBegins_28 : decode cX13_lineBegins 28 = .ok (.getfield 154, 3) := by decide +kernel
theorem dX13_lineBegins_31 : decode cX13_lineBegins 31 = .ok (.getfield 166, 3) := by decide +kernel
theorem dX13_lineBegins_34 : decode cX13_lineBegins 34 = .ok (.if_icmp .ge 9, 3) := by decide +kernel
theorem dX13_lineBegins_37 : decode cX13_lineBegins 37 = .ok (.aload_n 0, 1) := by decide +kernel
theorem dX13_lineBegins_38 : decode cX13_lineBegins 38 = .ok (.bipush 6, 2) := by decide +kernel
theorem dX13_lineBegins_40 : decode cX13_lineBegins 40 = .ok (.invokevirtual 120, 3) := by decide +kernel
theorem dX13_lineBegins_43 : decode cX13_lineBegins 43 = .ok (.aload_n 0, 1) := by decide +kernel
theorem dX13_lineBegins_44 : decode cX13_lineBegins 44 = .ok (.invokevirtual 113, 3) := by decide +kernel
theorem dX13_lineBegins_47 : decode cX13_lineBegins 47 = .ok (.return_, 1) := by decide +kernel
theorem dX13_lines_0 : decode cX13_lines 0 = .ok (.aload_n 0, 1) := by decide +kernel
theorem dX13_lines_1 : decode cX13_lines 1 = .ok (.iload_n 1, 1) := by decide +kernel
theorem dX13_lines_2 : decode cX13_lines 2 = .ok (.iconst 1, 1) := by decide +kernel
theorem dX13_lines_3 : decode cX13_lines 3 = .ok (.invokevirtual 323, 3) := by decide +kernel
theorem dX13_lines_6 : decode cX13_lines 6 = .ok (.ldc_w 293, 3) := by decide +kernel
theorem dX13_lines_9 : decode cX13_lines 9 = .ok (.if_icmp .ne 5, 3) := by decide +kernel
theorem dX13_lines_12 : decode cX13_lines 12 = .ok (.iconst 0, 1) := by decide +kernel
theorem dX13_lines_13 : decode cX13_lines 13 = .ok (.ireturn, 1) := by decide +kernel
theorem dX13_lines_14 : decode cX13_lines 14 = .ok (.aload_n 0, 1) := by decide +kernel
theorem dX13_lines_15 : decode cX13_lines 15 = .ok (.getfield 17, 3) := by decide +kernel
theorem dX13_lines_18 : decode cX13_lines 18 = .ok (.bipush 20, 2) := by decide +kernel
theorem dX13_lines_20 : decode cX13_lines 20 = .ok (.iload_n 1, 1) := by decide +kernel
theorem dX13_lines_21 : decode cX13_lines 21 = .ok (.iadd, 1) := by decide +kernel
theorem dX13_lines_22 : decode cX13_lines 22 = .ok (.iaload, 1) := by decide +kernel
theorem dX13_lines_23 : decode cX13_lines 23 = .ok (.istore_n 3, 1) := by decide +kernel
theorem dX13_lines_24 : decode cX13_lines 24 = .ok (.iconst 0, 1) := by decide +kernel
theorem dX13_lines_25 : decode cX13_lines 25 = .ok (.istore 4, 2) := by decide +kernel
theorem dX13_lines_27 : decode cX13_lines 27 = .ok (.aload_n 0, 1) := by decide +kernel
theorem dX13_lines_28 : decode cX13_lines 28 = .ok (.getfield 30, 3) := by decide +kernel
theorem dX13_lines_31 : decode cX13_lines 31 = .ok (.iload_n 3, 1) := by decide +kernel
theorem dX13_lines_32 : decode cX13_lines 32 = .ok (.iaload, 1) := by decide +kernel
theorem dX13_lines_33 : decode cX13_lines 33 = .ok (.ifCond .le 71, 3) := by decide +kernel
theorem dX13_lines_36 : decode cX13_lines 36 = .ok (.aload_n 0, 1) := by decide +kernel
theorem dX13_lines_37 : decode cX13_lines 37 = .ok (.iload_n 1, 1) := by decide +kernel
theorem dX13_lines_38 : decode cX13_lines 38 = .ok (.iload_n 3, 1) := by decide +kernel
theorem dX13_lines_39 : decode cX13_lines 39 = .ok (.iconst 1, 1) := by decide +kernel
theorem dX13_lines_40 : decode cX13_lines 40 = .ok (.invokevirtual 327, 3) := by decide +kernel
theorem dX13_lines_43 : decode cX13_lines 43 = .ok (.istore 5, 2) := by decide +kernel
theorem dX13_lines_45 : decode cX13_lines 45 = .ok (.iload 4, 2) := by decide +kernel
theorem dX13_lines_47 : decode cX13_lines 47 = .ok (.aload_n 0, 1) := by decide +kernel
theorem dX13_lines_48 : decode cX13_lines 48 = .ok (.aload_n 0, 1) := by decide +kernel
theorem dX13_lines_49 : decode cX13_lines 49 = .ok (.getfield 269, 3) := by decide +kernel
theorem dX13_lines_52 : decode cX13_lines 52 = .ok (.getfield 238, 3) := by decide +kernel
theorem dX13_lines_55 : decode cX13_lines 55 = .ok (.iload_n 1, 1) := by decide +kernel
theorem dX13_lines_56 : decode cX13_lines 56 = .ok (.iaload, 1) := by decide +kernel
theorem dX13_lines_57 : decode cX13_lines 57 = .ok (.iload_n 3, 1) := by decide +kernel
theorem dX13_lines_58 : decode cX13_lines 58 = .ok (.iload 5, 2) := by decide +kernel
theorem dX13_lines_60 : decode cX13_lines 60 = .ok (.invokevirtual 289, 3) := by decide +kernel
theorem dX13_lines_63 : decode cX13_lines 63 = .ok (.iadd, 1) := by decide +kernel
theorem dX13_lines_64 : decode cX13_lines 64 = .ok (.istore 6, 2) := by decide +kernel
theorem dX13_lines_66 : decode cX13_lines 66 = .ok (.iload 4, 2) := by decide +kernel
theorem dX13_lines_68 : decode cX13_lines 68 = .ok (.iload 6, 2) := by decide +kernel
theorem dX13_lines_70 : decode cX13_lines 70 = .ok (.if_icmp .ge 23, 3) := by decide +kernel
theorem dX13_lines_73 : decode cX13_lines 73 = .ok (.aload_n 0, 1) := by decide +kernel
theorem dX13_lines_74 : decode cX13_lines 74 = .ok (.getfield 36, 3) := by decide +kernel
theorem dX13_lines_77 : decode cX13_lines 77 = .ok (.sipush 201, 3) := by decide +kernel
theorem dX13_lines_80 : decode cX13_lines 80 = .ok (.iload_n 2, 1) := by decide +kernel
theorem dX13_lines_81 : decode cX13_lines 81 = .ok (.imul, 1) := by decide +kernel
theorem dX13_lines_82 : decode cX13_lines 82 = .ok (.iload 4, 2) := by decide +kernel
theorem dX13_lines_84 : decode cX13_lines 84 = .ok (.iadd, 1) := by decide +kernel
theorem dX13_lines_85 : decode cX13_lines 85 = .ok (.iload_n 3, 1) := by decide +kernel
theorem dX13_lines_86 : decode cX13_lines 86 = .ok (.iastore, 1) := by decide +kernel
theorem dX13_lines_87 : decode cX13_lines 87 = .ok (.iinc 4 1, 3) := by decide +kernel
theorem dX13_lines_90 : decode cX13_lines 90 = .ok (.goto (-24), 3) := by decide +kernel
theorem dX13_lines_93 : decode cX13_lines 93 = .ok (.aload_n 0, 1) := by decide +kernel
theorem dX13_lines_94 : decode cX13_lines 94 = .ok (.iload_n 3, 1) := by decide +kernel
theorem dX13_lines_95 : decode cX13_lines 95 = .ok (.iload 5, 2) := by decide +kernel
theorem dX13_lines_97 : decode cX13_lines 97 = .ok (.invokevirtual 280, 3) := by decide +kernel
theorem dX13_lines_100 : decode cX13_lines 100 = .ok (.istore_n 3, 1) := by decide +kernel
theorem dX13_lines_101 : decode cX13_lines 101 = .ok (.goto (-74), 3) := by decide +kernel
theorem dX13_lines_104 : decode cX13_lines 104 = .ok (.iload 4, 2) := by decide +kernel
theorem dX13_lines_106 : decode cX13_lines 106 = .ok (.sipush 200, 3) := by decide +kernel
theorem dX13_lines_109 : decode cX13_lines 109 = .ok (.if_icmp .gt 23, 3) := by decide +kernel
theorem dX13_lines_112 : decode cX13_lines 112 = .ok (.aload_n 0, 1) := by decide +kernel
theorem dX13_lines_113 : decode cX13_lines 113 = .ok (.getfield 36, 3) := by decide +kernel
theorem dX13_lines_116 : decode cX13_lines 116 = .ok (.sipush 201, 3) := by decide +kernel
theorem dX13_lines_119 : decode cX13_lines 119 = .ok (.iload_n 2, 1) := by decide +kernel
theorem dX13_lines_120 : decode cX13_lines 120 = .ok (.imul, 1) := by decide +kernel
theorem dX13_lines_121 : decode cX13_lines 121 = .ok (.iload 4, 2) := by decide +kernel
theorem dX13_lines_123 : decode cX13_lines 123 = .ok (.iadd, 1) := by decide +kernel
theorem dX13_lines_124 : decode cX13_lines 124 = .ok (.iload_n 3, 1) := by decide +kernel
theorem dX13_lines_125 : decode cX13_lines 125 = .ok (.iastore, 1) := by decide +kernel
theorem dX13_lines_126 : decode cX13_lines 126 = .ok (.iinc 4 1, 3) := by decide +kernel
theorem dX13_lines_129 : decode cX13_lines 129 = .ok (.goto (-25), 3) := by decide +kernel
theorem dX13_lines_132 : decode cX13_lines 132 = .ok (.iconst 1, 1) := by decide +kernel
theorem dX13_lines_133 : decode cX13_lines 133 = .ok (.ireturn, 1) := by decide +kernel
theorem dX13_lost_0 : decode cX13_lost 0 = .ok (.aload_n 0, 1) := by decide +kernel
theorem dX13_lost_1 : decode cX13_lost 1 = .ok (.iload_n 1, 1) := by decide +kernel
theorem dX13_lost_2 : decode cX13_lost 2 = .ok (.invokevirtual 48, 3) := by decide +kernel
theorem dX13_lost_5 : decode cX13_lost 5 = .ok (.pop, 1) := by decide +kernel
theorem dX13_lost_6 : decode cX13_lost 6 = .ok (.bipush (-100), 2) := by decide +kernel
theorem dX13_lost_8 : decode cX13_lost 8 = .ok (.ireturn, 1) := by decide +kernel
theorem dX13_mean_0 : decode cX13_mean 0 = .ok (.aload_n 0, 1) := by decide +kernel
theorem dX13_mean_1 : decode cX13_mean 1 = .ok (.iconst 0, 1) := by decide +kernel
theorem dX13_mean_2 : decode cX13_mean 2 = .ok (.putfield 42, 3) := by decide +kernel
theorem dX13_mean_5 : decode cX13_mean 5 = .ok (.aload_n 0, 1) := by decide +kernel
theorem dX13_mean_6 : decode cX13_mean 6 = .ok (.iload_n 1, 1) := by decide +kernel
theorem dX13_mean_7 : decode cX13_mean 7 = .ok (.invokevirtual 311, 3) := by decide +kernel
theorem dX13_mean_10 : decode cX13_mean 10 = .ok (.ifCond .ne 10, 3) := by decide +kernel
theorem dX13_mean_13 : decode cX13_mean 13 = .ok (.aload_n 0, 1) := by decide +kernel
theorem dX13_mean_14 : decode cX13_mean 14 = .ok (.iconst 1, 1) := by decide +kernel
theorem dX13_mean_15 : decode cX13_mean 15 = .ok (.invokevirtual 48, 3) := by decide +kernel
theorem dX13_mean_18 : decode cX13_mean 18 = .ok (.i2l, 1) := by decide +kernel
theorem dX13_mean_19 : decode cX13_mean 19 = .ok (.lreturn, 1) := by decide +kernel
theorem dX13_mean_20 : decode cX13_mean 20 = .ok (.aload_n 0, 1) := by decide +kernel
theorem dX13_mean_21 : decode cX13_mean 21 = .ok (.iload_n 1, 1) := by decide +kernel
theorem dX13_mean_22 : decode cX13_mean 22 = .ok (.invokevirtual 417, 3) := by decide +kernel
theorem dX13_mean_25 : decode cX13_mean 25 = .ok (.istore_n 3, 1) := by decide +kernel
theorem dX13_mean_26 : decode cX13_mean 26 = .ok (.iload_n 3, 1) := by decide +kernel
theorem dX13_mean_27 : decode cX13_mean 27 = .ok (.bipush (-2), 2) := by decide +kernel
theorem dX13_mean_29 : decode cX13_mean 29 = .ok (.if_icmp .ne 13, 3) := by decide +kernel
theorem dX13_mean_32 : decode cX13_mean 32 = .ok (.aload_n 0, 1) := by decide +kernel
theorem dX13_mean_33 : decode cX13_mean 33 = .ok (.bipush 6, 2) := by decide +kernel
theorem dX13_mean_35 : decode cX13_mean 35 = .ok (.invokevirtual 48, 3) := by decide +kernel
theorem dX13_mean_38 : decode cX13_mean 38 = .ok (.i2l, 1) := by decide +kernel
theorem dX13_mean_39 : decode cX13_mean 39 = .ok (.goto 25, 3) := by decide +kernel
theorem dX13_mean_42 : decode cX13_mean 42 = .ok (.aload_n 0, 1) := by decide +kernel
theorem dX13_mean_43 : decode cX13_mean 43 = .ok (.iload_n 3, 1) := by decide +kernel
theorem dX13_mean_44 : decode cX13_mean 44 = .ok (.i2l, 1) := by decide +kernel
theorem dX13_mean_45 : decode cX13_mean 45 = .ok (.bipush 100, 2) := by decide +kernel
theorem dX13_mean_47 : decode cX13_mean 47 = .ok (.aload_n 0, 1) := by decide +kernel
theorem dX13_mean_48 : decode cX13_mean 48 = .ok (.getfield 269, 3) := by decide +kernel
theorem dX13_mean_51 : decode cX13_mean 51 = .ok (.getfield 193, 3) := by decide +kernel
theorem dX13_mean_54 : decode cX13_mean 54 = .ok (.isub, 1) := by decide +kernel
theorem dX13_mean_55 : decode cX13_mean 55 = .ok (.i2l, 1) := by decide +kernel
theorem dX13_mean_56 : decode cX13_mean 56 = .ok (.lmul, 1) := by decide +kernel
theorem dX13_mean_57 : decode cX13_mean 57 = .ok (.ldc2_w 420, 3) := by decide +kernel
theorem dX13_mean_60 : decode cX13_mean 60 = .ok (.iload_n 2, 1) := by decide +kernel
theorem dX13_mean_61 : decode cX13_mean 61 = .ok (.invokevirtual 395, 3) := by decide +kernel
theorem dX13_mean_64 : decode cX13_mean 64 = .ok (.lreturn, 1) := by decide +kernel
theorem dX13_meet_0 : decode cX13_meet 0 = .ok (.aload_n 0, 1) := by decide +kernel
theorem dX13_meet_1 : decode cX13_meet 1 = .ok (.iconst 0, 1) := by decide +kernel
theorem dX13_meet_2 : decode cX13_meet 2 = .ok (.putfield 42, 3) := by decide +kernel
theorem dX13_meet_5 : decode cX13_meet 5 = .ok (.aload_n 0, 1) := by decide +kernel
theorem dX13_meet_6 : decode cX13_meet 6 = .ok (.iload_n 1, 1) := by decide +kernel
theorem dX13_meet_7 : decode cX13_meet 7 = .ok (.invokevirtual 311, 3) := by decide +kernel
theorem dX13_meet_10 : decode cX13_meet 10 = .ok (.ifCond .eq 29, 3) := by decide +kernel
theorem dX13_meet_13 : decode cX13_meet 13 = .ok (.aload_n 0, 1) := by decide +kernel
theorem dX13_meet_14 : decode cX13_meet 14 = .ok (.iload_n 2, 1) := by decide +kernel
theorem dX13_meet_15 : decode cX13_meet 15 = .ok (.invokevirtual 311, 3) := by decide +kernel
theorem dX13_meet_18 : decode cX13_meet 18 = .ok (.ifCond .eq 21, 3) := by decide +kernel
theorem dX13_meet_21 : decode cX13_meet 21 = .ok (.iload_n 1, 1) := by decide +kernel
theorem dX13_meet_22 : decode cX13_meet 22 = .ok (.iload_n 2, 1) := by decide +kernel
theorem dX13_meet_23 : decode cX13_meet 23 = .ok (.if_icmp .eq 16, 3) := by decide +kernel
theorem dX13_meet_26 : decode cX13_meet 26 = .ok (.aload_n 0, 1) := by decide +kernel
theorem dX13_meet_27 : decode cX13_meet 27 = .ok (.aload_n 0, 1) := by decide +kernel
theorem dX13_meet_28 : decode cX13_meet 28 = .ok (.iload_n 1, 1) := by decide +kernel
theorem dX13_meet_29 : decode cX13_meet 29 = .ok (.iload_n 2, 1) := by decide +kernel
theorem dX13_meet_30 : decode cX13_meet 30 = .ok (.invokevirtual 370, 3) := by decide +kernel
theorem dX13_meet_33 : decode cX13_meet 33 = .ok (.invokevirtual 52, 3) := by decide +kernel
theorem dX13_meet_36 : decode cX13_meet 36 = .ok (.goto 8, 3) := by decide +kernel
theorem dX13_meet_39 : decode cX13_meet 39 = .ok (.aload_n 0, 1) := by decide +kernel
theorem dX13_meet_40 : decode cX13_meet 40 = .ok (.iconst 1, 1) := by decide +kernel
theorem dX13_meet_41 : decode cX13_meet 41 = .ok (.invokevirtual 48, 3) := by decide +kernel
theorem dX13_meet_44 : decode cX13_meet 44 = .ok (.ireturn, 1) := by decide +kernel
theorem dX13_meetAt_0 : decode cX13_meetAt 0 = .ok (.aload_n 0, 1) := by decide +kernel
theorem dX13_meetAt_1 : decode cX13_meetAt 1 = .ok (.iconst 0, 1) := by decide +kernel
theorem dX13_meetAt_2 : decode cX13_meetAt 2 = .ok (.putfield 42, 3) := by decide +kernel
theorem dX13_meetAt_5 : decode cX13_meetAt 5 = .ok (.aload_n 0, 1) := by decide +kernel
theorem dX13_meetAt_6 : decode cX13_meetAt 6 = .ok (.iload_n 1, 1) := by decide +kernel
theorem dX13_meetAt_7 : decode cX13_meetAt 7 = .ok (.invokevirtual 311, 3) := by decide +kernel
theorem dX13_meetAt_10 : decode cX13_meetAt 10 = .ok (.ifCond .eq 16, 3) := by decide +kernel
theorem dX13_meetAt_13 : decode cX13_meetAt 13 = .ok (.aload_n 0, 1) := by decide +kernel
theorem dX13_meetAt_14 : decode cX13_meetAt 14 = .ok (.iload_n 2, 1) := by decide +kernel
theorem dX13_meetAt_15 : decode cX13_meetAt 15 = .ok (.invokevirtual 311, 3) := by decide +kernel
theorem dX13_meetAt_18 : decode cX13_meetAt 18 = .ok (.ifCond .eq 8, 3) := by decide +kernel
theorem dX13_meetAt_21 : decode cX13_meetAt 21 = .ok (.iload_n 1, 1) := by decide +kernel
theorem dX13_meetAt_22 : decode cX13_meetAt 22 = .ok (.iload_n 2, 1) := by decide +kernel
theorem dX13_meetAt_23 : decode cX13_meetAt 23 = .ok (.if_icmp .ne 9, 3) := by decide +kernel
theorem dX13_meetAt_26 : decode cX13_meetAt 26 = .ok (.aload_n 0, 1) := by decide +kernel
theorem dX13_meetAt_27 : decode cX13_meetAt 27 = .ok (.iconst 1, 1) := by decide +kernel
theorem dX13_meetAt_28 : decode cX13_meetAt 28 = .ok (.invokevirtual 48, 3) := by decide +kernel
theorem dX13_meetAt_31 : decode cX13_meetAt 31 = .ok (.ireturn, 1) := by decide +kernel
theorem dX13_meetAt_32 : decode cX13_meetAt 32 = .ok (.aload_n 0, 1) := by decide +kernel
theorem dX13_meetAt_33 : decode cX13_meetAt 33 = .ok (.iload_n 1, 1) := by decide +kernel
theorem dX13_meetAt_34 : decode cX13_meetAt 34 = .ok (.iload_n 2, 1) := by decide +kernel
theorem dX13_meetAt_35 : decode cX13_meetAt 35 = .ok (.invokevirtual 370, 3) := by decide +kernel
theorem dX13_meetAt_38 : decode cX13_meetAt 38 = .ok (.istore_n 3, 1) := by decide +kernel
theorem dX13_meetAt_39 : decode cX13_meetAt 39 = .ok (.aload_n 0, 1) := by decide +kernel
theorem dX13_meetAt_40 : decode cX13_meetAt 40 = .ok (.iload_n 3, 1) := by decide +kernel
theorem dX13_meetAt_41 : decode cX13_meetAt 41 = .ok (.bipush (-2), 2) := by decide +kernel
theorem dX13_meetAt_43 : decode cX13_meetAt 43 = .ok (.if_icmp .ne 8, 3) := by decide +kernel
theorem dX13_meetAt_46 : decode cX13_meetAt 46 = .ok (.bipush (-2), 2) := by decide +kernel
theorem dX13_meetAt_48 : decode cX13_meetAt 48 = .ok (.goto 9, 3) := by decide +kernel
theorem dX13_meetAt_51 : decode cX13_meetAt 51 = .ok (.aload_n 0, 1) := by decide +kernel
theorem dX13_meetAt_52 : decode cX13_meetAt 52 = .ok (.getfield 36, 3) := by decide +kernel
theorem dX13_meetAt_55 : decode cX13_meetAt 55 = .ok (.iload_n 3, 1) := by decide +kernel
theorem dX13_meetAt_56 : decode cX13_meetAt 56 = .ok (.iaload, 1) := by decide +kernel
theorem dX13_meetAt_57 : decode cX13_meetAt 57 = .ok (.invokevirtual 52, 3) := by decide +kernel
theorem dX13_meetAt_60 : decode cX13_meetAt 60 = .ok (.ireturn, 1) := by decide +kernel
theorem dX13_meets_0 : decode cX13_meets 0 = .ok (.aload_n 0, 1) := by decide +kernel
theorem dX13_meets_1 : decode cX13_meets 1 = .ok (.invokevirtual 317, 3) := by decide +kernel
theorem dX13_meets_4 : decode cX13_meets 4 = .ok (.aload_n 0, 1) := by decide +kernel
theorem dX13_meets_5 : decode cX13_meets 5 = .ok (.iload_n 1, 1) := by decide +kernel
theorem dX13_meets_6 : decode cX13_meets 6 = .ok (.iconst 0, 1) := by decide +kernel
theorem dX13_meets_7 : decode cX13_meets 7 = .ok (.invokevirtual 367, 3) := by decide +kernel
theorem dX13_meets_10 : decode cX13_meets 10 = .ok (.ifCond .eq 12, 3) := by decide +kernel
theorem dX13_meets_13 : decode cX13_meets 13 = .ok (.aload_n 0, 1) := by decide +kernel
theorem dX13_meets_14 : decode cX13_meets 14 = .ok (.iload_n 2, 1) := by decide +kernel
theorem dX13_meets_15 : decode cX13_meets 15 = .ok (.iconst 1, 1) := by decide +kernel
theorem dX13_meets_16 : decode cX13_meets 16 = .ok (.invokevirtual 367, 3) := by decide +kernel
theorem dX13_meets_19 : decode cX13_meets 19 = .ok (.ifCond .ne 6, 3) := by decide +kernel
theorem dX13_meets_22 : decode cX13_meets 22 = .ok (.bipush (-2), 2) := by decide +kernel
theorem dX13_meets_24 : decode cX13_meets 24 = .ok (.ireturn, 1) := by decide +kernel
theorem dX13_meets_25 : decode cX13_meets 25 = .ok (.iconst 0, 1) := by decide +kernel
theorem dX13_meets_26 : decode cX13_meets 26 = .ok (.istore_n 3, 1) := by decide +kernel
theorem dX13_meets_27 : decode cX13_meets 27 = .ok (.iload_n 3, 1) := by decide +kernel
theorem dX13_meets_28 : decode cX13_meets 28 = .ok (.sipush 200, 3) := by decide +kernel
theorem dX13_meets_31 : decode cX13_meets 31 = .ok (.if_icmp .gt 30, 3) := by decide +kernel
theorem dX13_meets_34 : decode cX13_meets 34 = .ok (.aload_n 0, 1) := by decide +kernel
theorem dX13_meets_35 : decode cX13_meets 35 = .ok (.getfield 36, 3) := by decide +kernel
theorem dX13_meets_38 : decode cX13_meets 38 = .ok (.iload_n 3, 1) := by decide +kernel
theorem dX13_meets_39 : decode cX13_meets 39 = .ok (.iaload, 1) := by decide +kernel
theorem dX13_meets_40 : decode cX13_meets 40 = .ok (.aload_n 0, 1) := by decide +kernel
theorem dX13_meets_41 : decode cX13_meets 41 = .ok (.getfield 36, 3) := by decide +kernel
theorem dX13_meets_44 : decode cX13_meets 44 = .ok (.sipush 201, 3) := by decide +kernel
theorem dX13_meets_47 : decode cX13_meets 47 = .ok (.iload_n 3, 1) := by decide +kernel
theorem dX13_meets_48 : decode cX13_meets 48 = .ok (.iadd, 1) := by decide +kernel
theorem dX13_meets_49 : decode cX13_meets 49 = .ok (.iaload, 1) := by decide +kernel
theorem dX13_meets_50 : decode cX13_meets 50 = .ok (.if_icmp .ne 5, 3) := by decide +kernel
theorem dX13_meets_53 : decode cX13_meets 53 = .ok (.iload_n 3, 1) := by decide +kernel
theorem dX13_meets_54 : decode cX13_meets 54 = .ok (.ireturn, 1) := by decide +kernel
theorem dX13_meets_55 : decode cX13_meets 55 = .ok (.iinc 3 1, 3) := by decide +kernel
theorem dX13_meets_58 : decode cX13_meets 58 = .ok (.goto (-31), 3) := by decide +kernel
theorem dX13_meets_61 : decode cX13_meets 61 = .ok (.bipush (-2), 2) := by decide +kernel
theorem dX13_meets_63 : decode cX13_meets 63 = .ok (.ireturn, 1) := by decide +kernel
theorem dX13_minutes_0 : decode cX13_minutes 0 = .ok (.aload_n 0, 1) := by decide +kernel
theorem dX13_minutes_1 : decode cX13_minutes 1 = .ok (.iconst 0, 1) := by decide +kernel
theorem dX13_minutes_2 : decode cX13_minutes 2 = .ok (.putfield 42, 3) := by decide +kernel
theorem dX13_minutes_5 : decode cX13_minutes 5 = .ok (.aload_n 0, 1) := by decide +kernel
theorem dX13_minutes_6 : decode cX13_minutes 6 = .ok (.iload_n 1, 1) := by decide +kernel
theorem dX13_minutes_7 : decode cX13_minutes 7 = .ok (.iload_n 2, 1) := by decide +kernel
theorem dX13_minutes_8 : decode cX13_minutes 8 = .ok (.iload_n 3, 1) := by decide +kernel
theorem dX13_minutes_9 : decode cX13_minutes 9 = .ok (.invokevirtual 314, 3) := by decide +kernel
theorem dX13_minutes_12 : decode cX13_minutes 12 = .ok (.istore 4, 2) := by decide +kernel
theorem dX13_minutes_14 : decode cX13_minutes 14 = .ok (.iload 4, 2) := by decide +kernel
theorem dX13_minutes_16 : decode cX13_minutes 16 = .ok (.ifCond .le 10, 3) := by decide +kernel
theorem dX13_minutes_19 : decode cX13_minutes 19 = .ok (.aload_n 0, 1) := by decide +kernel
theorem dX13_minutes_20 : decode cX13_minutes 20 = .ok (.iload 4, 2) := by decide +kernel
theorem dX13_minutes_22 : decode cX13_minutes 22 = .ok (.invokevirtual 48, 3) := by decide +kernel
theorem dX13_minutes_25 : decode cX13_minutes 25 = .ok (.ireturn, 1) := by decide +kernel
theorem dX13_minutes_26 : decode cX13_minutes 26 = .ok (.aload_n 0, 1) := by decide +kernel
theorem dX13_minutes_27 : decode cX13_minutes 27 = .ok (.invokevirtual 317, 3) := by decide +kernel
theorem dX13_minutes_30 : decode cX13_minutes 30 = .ok (.aload_n 0, 1) := by decide +kernel
theorem dX13_minutes_31 : decode cX13_minutes 31 = .ok (.aload_n 0, 1) := by decide +kernel
theorem dX13_minutes_32 : decode cX13_minutes 32 = .ok (.aload_n 0, 1) := by decide +kernel
theorem dX13_minutes_33 : decode cX13_minutes 33 = .ok (.getfield 269, 3) := by decide +kernel
theorem dX13_minutes_36 : decode cX13_minutes 36 = .ok (.getfield 238, 3) := by decide +kernel
theorem dX13_minutes_39 : decode cX13_minutes 39 = .ok (.iload_n 1, 1) := by decide +kernel
theorem dX13_minutes_40 : decode cX13_minutes 40 = .ok (.iaload, 1) := by decide +kernel
theorem dX13_minutes_41 : decode cX13_minutes 41 = .ok (.iload_n 2, 1) := by decide +kernel
theorem dX13_minutes_42 : decode cX13_minutes 42 = .ok (.iload_n 3, 1) := by decide +kernel
theorem dX13_minutes_43 : decode cX13_minutes 43 = .ok (.invokevirtual 289, 3) := by decide +kernel
theorem dX13_minutes_46 : decode cX13_minutes 46 = .ok (.invokevirtual 52, 3) := by decide +kernel
theorem dX13_minutes_49 : decode cX13_minutes 49 = .ok (.ireturn, 1) := by decide +kernel
theorem dX13_minutesTo_0 : decode cX13_minutesTo 0 = .ok (.aload_n 0, 1) := by decide +kernel
theorem dX13_minutesTo_1 : decode cX13_minutesTo 1 = .ok (.iconst 0, 1) := by decide +kernel
theorem dX13_minutesTo_2 : decode cX13_minutesTo 2 = .ok (.putfield 42, 3) := by decide +kernel
theorem dX13_minutesTo_5 : decode cX13_minutesTo 5 = .ok (.aload_n 0, 1) := by decide +kernel
theorem dX13_minutesTo_6 : decode cX13_minutesTo 6 = .ok (.iload_n 1, 1) := by decide +kernel
theorem dX13_minutesTo_7 : decode cX13_minutesTo 7 = .ok (.invokevirtual 311, 3) := by decide +kernel
theorem dX13_minutesTo_10 : decode cX13_minutesTo 10 = .ok (.ifCond .eq 11, 3) := by decide +kernel
theorem dX13_minutesTo_13 : decode cX13_minutesTo 13 = .ok (.aload_n 0, 1) := by decide +kernel
theorem dX13_minutesTo_14 : decode cX13_minutesTo 14 = .ok (.iload_n 2, 1) := by decide +kernel
theorem dX13_minutesTo_15 : decode cX13_minutesTo 15 = .ok (.invokevirtual 302, 3) := by decide +kernel
theorem dX13_minutesTo_18 : decode cX13_minutesTo 18 = .ok (.ifCond .ne 9, 3) := by decide +kernel
theorem dX13_minutesTo_21 : decode cX13_minutesTo 21 = .ok (.aload_n 0, 1) := by decide +kernel
theorem dX13_minutesTo_22 : decode cX13_minutesTo 22 = .ok (.iconst 1, 1) := by decide +kernel
theorem dX13_minutesTo_23 : decode cX13_minutesTo 23 = .ok (.invokevirtual 48, 3) := by decide +kernel
theorem dX13_minutesTo_26 : decode cX13_minutesTo 26 = .ok (.ireturn, 1) := by decide +kernel
theorem dX13_minutesTo_27 : decode cX13_minutesTo 27 = .ok (.aload_n 0, 1) := by decide +kernel
theorem dX13_minutesTo_28 : decode cX13_minutesTo 28 = .ok (.invokevirtual 317, 3) := by decide +kernel
theorem dX13_minutesTo_31 : decode cX13_minutesTo 31 = .ok (.aload_n 0, 1) := by decide +kernel
theorem dX13_minutesTo_32 : decode cX13_minutesTo 32 = .ok (.iload_n 1, 1) := by decide +kernel
theorem dX13_minutesTo_33 : decode cX13_minutesTo 33 = .ok (.invokevirtual 338, 3) := by decide +kernel
theorem dX13_minutesTo_36 : decode cX13_minutesTo 36 = .ok (.aload_n 0, 1) := by decide +kernel
theorem dX13_minutesTo_37 : decode cX13_minutesTo 37 = .ok (.aload_n 0, 1) := by decide +kernel
theorem dX13_minutesTo_38 : decode cX13_minutesTo 38 = .ok (.getfield 33, 3) := by decide +kernel
theorem dX13_minutesTo_41 : decode cX13_minutesTo 41 = .ok (.iload_n 2, 1) := by decide +kernel
theorem dX13_minutesTo_42 : decode cX13_minutesTo 42 = .ok (.iaload, 1) := by decide +kernel
theorem dX13_minutesTo_43 : decode cX13_minutesTo 43 = .ok (.ldc_w 293, 3) := by decide +kernel
theorem dX13_minutesTo_46 : decode cX13_minutesTo 46 = .ok (.if_icmp .ne 8, 3) := by decide +kernel
theorem dX13_minutesTo_49 : decode cX13_minutesTo 49 = .ok (.bipush (-2), 2) := by decide +kernel
theorem dX13_minutesTo_51 : decode cX13_minutesTo 51 = .ok (.goto 9, 3) := by decide +kernel
theorem dX13_minutesTo_54 : decode cX13_minutesTo 54 = .ok (.aload_n 0, 1) := by decide +kernel
theorem dX13_minutesTo_55 : decode cX13_minutesTo 55 = .ok (.getfield 33, 3) := by decide +kernel
theorem dX13_minutesTo_58 : decode cX13_minutesTo 58 = .ok (.iload_n 2, 1) := by decide +kernel
theorem dX13_minutesTo_59 : decode cX13_minutesTo 59 = .ok (.iaload, 1) := by decide +kernel
theorem dX13_minutesTo_60 : decode cX13_minutesTo 60 = .ok (.invokevirtual 52, 3) := by decide +kernel
theorem dX13_minutesTo_63 : decode cX13_minutesTo 63 = .ok (.ireturn, 1) := by decide +kernel
theorem dX13_needs_0 : decode cX13_needs 0 = .ok (.aload_n 0, 1) := by decide +kernel
theorem dX13_needs_1 : decode cX13_needs 1 = .ok (.aload_n 1, 1) := by decide +kernel
theorem dX13_needs_2 : decode cX13_needs 2 = .ok (.invokevirtual 116, 3) := by decide +kernel
theorem dX13_needs_5 : decode cX13_needs 5 = .ok (.ifCond .ne 8, 3) := by decide +kernel
theorem dX13_needs_8 : decode cX13_needs 8 = .ok (.aload_n 0, 1) := by decide +kernel
theorem dX13_needs_9 : decode cX13_needs 9 = .ok (.iconst 1, 1) := by decide +kernel
theorem dX13_needs_10 : decode cX13_needs 10 = .ok (.invokevirtual 120, 3) := by decide +kernel
theorem dX13_needs_13 : decode cX13_needs 13 = .ok (.aload_n 0, 1) := by decide +kernel
theorem dX13_needs_14 : decode cX13_needs 14 = .ok (.invokevirtual 113, 3) := by decide +kernel
theorem dX13_needs_17 : decode cX13_needs 17 = .ok (.return_, 1) := by decide +kernel
theorem dX13_odds_0 : decode cX13_odds 0 = .ok (.aload_n 0, 1) := by decide +kernel
theorem dX13_odds_1 : decode cX13_odds 1 = .ok (.iconst 0, 1) := by decide +kernel
theorem dX13_odds_2 : decode cX13_odds 2 = .ok (.putfield 42, 3) := by decide +kernel
theorem dX13_odds_5 : decode cX13_odds 5 = .ok (.aload_n 0, 1) := by decide +kernel
theorem dX13_odds_6 : decode cX13_odds 6 = .ok (.getfield 269, 3) := by decide +kernel
theorem dX13_odds_9 : decode cX13_odds 9 = .ok (.ifnull 18, 3) := by decide +kernel
theorem dX13_odds_12 : decode cX13_odds 12 = .ok (.iload_n 1, 1) := by decide +kernel
theorem dX13_odds_13 : decode cX13_odds 13 = .ok (.ifCond .lt 14, 3) := by decide +kernel
theorem dX13_odds_16 : decode cX13_odds 16 = .ok (.iload_n 1, 1) := by decide +kernel
theorem dX13_odds_17 : decode cX13_odds 17 = .ok (.aload_n 0, 1) := by decide +kernel
theorem dX13_odds_18 : decode cX13_odds 18 = .ok (.getfield 269, 3) := by decide +kernel
theorem dX13_odds_21 : decode cX13_odds 21 = .ok (.getfield 195, 3) := by decide +kernel
theorem dX13_odds_24 : decode cX13_odds 24 = .ok (.if_icmp .lt 10, 3) := by decide +kernel
theorem dX13_odds_27 : decode cX13_odds 27 = .ok (.aload_n 0, 1) := by decide +kernel
theorem dX13_odds_28 : decode cX13_odds 28 = .ok (.iconst 1, 1) := by decide +kernel
theorem dX13_odds_29 : decode cX13_odds 29 = .ok (.invokevirtual 48, 3) := by decide +kernel
theorem dX13_odds_32 : decode cX13_odds 32 = .ok (.i2l, 1) := by decide +kernel
theorem dX13_odds_33 : decode cX13_odds 33 = .ok (.lreturn, 1) := by decide +kernel
theorem dX13_odds_34 : decode cX13_odds 34 = .ok (.lconst 0, 1) := by decide +kernel
theorem dX13_odds_35 : decode cX13_odds 35 = .ok (.lstore_n 3, 1) := by decide +kernel
theorem dX13_odds_36 : decode cX13_odds 36 = .ok (.lconst 0, 1) := by decide +kernel
theorem dX13_odds_37 : decode cX13_odds 37 = .ok (.lstore 5, 2) := by decide +kernel
theorem dX13_odds_39 : decode cX13_odds 39 = .ok (.iconst 0, 1) := by decide +kernel
theorem dX13_odds_40 : decode cX13_odds 40 = .ok (.istore 7, 2) := by decide +kernel
theorem dX13_odds_42 : decode cX13_odds 42 = .ok (.iload 7, 2) := by decide +kernel
theorem dX13_odds_44 : decode cX13_odds 44 = .ok (.aload_n 0, 1) := by decide +kernel
theorem dX13_odds_45 : decode cX13_odds 45 = .ok (.invokevirtual 385, 3) := by decide +kernel
theorem dX13_odds_48 : decode cX13_odds 48 = .ok (.if_icmp .ge 42, 3) := by decide +kernel
theorem dX13_odds_51 : decode cX13_odds 51 = .ok (.lload 5, 2) := by decide +kernel
theorem dX13_odds_53 : decode cX13_odds 53 = .ok (.aload_n 0, 1) := by decide +kernel
theorem dX13_odds_54 : decode cX13_odds 54 = .ok (.iload 7, 2) := by decide +kernel
theorem dX13_odds_56 : decode cX13_odds 56 = .ok (.invokevirtual 388, 3) := by decide +kernel
theorem dX13_odds_59 : decode cX13_odds 59 = .ok (.ladd, 1) := by decide +kernel
theorem dX13_odds_60 : decode cX13_odds 60 = .ok (.lstore 5, 2) := by decide +kernel
theorem dX13_odds_62 : decode cX13_odds 62 = .ok (.lload_n 3, 1) := by decide +kernel
theorem dX13_odds_63 : decode cX13_odds 63 = .ok (.iload 7, 2) := by decide +kernel
theorem dX13_odds_65 : decode cX13_odds 65 = .ok (.iload_n 1, 1) := by decide +kernel
theorem dX13_odds_66 : decode cX13_odds 66 = .ok (.invokestatic 345, 3) := by decide +kernel
theorem dX13_odds_69 : decode cX13_odds 69 = .ok (.ifCond .eq 12, 3) := by decide +kernel
theorem dX13_odds_72 : decode cX13_odds 72 = .ok (.aload_n 0, 1) := by decide +kernel
theorem dX13_odds_73 : decode cX13_odds 73 = .ok (.iload 7, 2) := by decide +kernel
theorem dX13_odds_75 : decode cX13_odds 75 = .ok (.invokevirtual 388, 3) := by decide +kernel
theorem dX13_odds_78 : decode cX13_odds 78 = .ok (.goto 4, 3) := by decide +kernel
