theorem dX4_timeOntoDitch_2 : decode cX4_timeOntoDitch 2 = .ok (.if_icmp .ne 6, 3) := by decide +kernel
theorem dX4_timeOntoDitch_5 : decode cX4_timeOntoDitch 5 = .ok (.bipush (-2), 2) := by decide +kernel
theorem dX4_timeOntoDitch_7 : decode cX4_timeOntoDitch 7 = .ok (.ireturn, 1) := by decide +kernel
theorem dX4_timeOntoDitch_8 : decode cX4_timeOntoDitch 8 = .ok (.iload_n 0, 1) := by decide +kernel
theorem dX4_timeOntoDitch_9 : decode cX4_timeOntoDitch 9 = .ok (.iconst 2, 1) := by decide +kernel
theorem dX4_timeOntoDitch_10 : decode cX4_timeOntoDitch 10 = .ok (.if_icmp .eq 13, 3) := by decide +kernel
theorem dX4_timeOntoDitch_13 : decode cX4_timeOntoDitch 13 = .ok (.iload_n 1, 1) := by decide +kernel
theorem dX4_timeOntoDitch_14 : decode cX4_timeOntoDitch 14 = .ok (.iconst 1, 1) := by decide +kernel
theorem dX4_timeOntoDitch_15 : decode cX4_timeOntoDitch 15 = .ok (.if_icmp .eq 8, 3) := by decide +kernel
theorem dX4_timeOntoDitch_18 : decode cX4_timeOntoDitch 18 = .ok (.iload_n 1, 1) := by decide +kernel
theorem dX4_timeOntoDitch_19 : decode cX4_timeOntoDitch 19 = .ok (.iconst 3, 1) := by decide +kernel
theorem dX4_timeOntoDitch_20 : decode cX4_timeOntoDitch 20 = .ok (.if_icmp .ne 5, 3) := by decide +kernel
theorem dX4_timeOntoDitch_23 : decode cX4_timeOntoDitch 23 = .ok (.iconst 1, 1) := by decide +kernel
theorem dX4_timeOntoDitch_24 : decode cX4_timeOntoDitch 24 = .ok (.ireturn, 1) := by decide +kernel
theorem dX4_timeOntoDitch_25 : decode cX4_timeOntoDitch 25 = .ok (.iload_n 0, 1) := by decide +kernel
theorem dX4_timeOntoDitch_26 : decode cX4_timeOntoDitch 26 = .ok (.iconst 3, 1) := by decide +kernel
theorem dX4_timeOntoDitch_27 : decode cX4_timeOntoDitch 27 = .ok (.if_icmp .ne 14, 3) := by decide +kernel
theorem dX4_timeOntoDitch_30 : decode cX4_timeOntoDitch 30 = .ok (.iload_n 1, 1) := by decide +kernel
theorem dX4_timeOntoDitch_31 : decode cX4_timeOntoDitch 31 = .ok (.iconst 2, 1) := by decide +kernel
theorem dX4_timeOntoDitch_32 : decode cX4_timeOntoDitch 32 = .ok (.if_icmp .ne 7, 3) := by decide +kernel
theorem dX4_timeOntoDitch_35 : decode cX4_timeOntoDitch 35 = .ok (.iconst 2, 1) := by decide +kernel
theorem dX4_timeOntoDitch_36 : decode cX4_timeOntoDitch 36 = .ok (.goto 4, 3) := by decide +kernel
theorem dX4_timeOntoDitch_39 : decode cX4_timeOntoDitch 39 = .ok (.iconst 4, 1) := by decide +kernel
theorem dX4_timeOntoDitch_40 : decode cX4_timeOntoDitch 40 = .ok (.ireturn, 1) := by decide +kernel
theorem dX4_timeOntoDitch_41 : decode cX4_timeOntoDitch 41 = .ok (.iload_n 1, 1) := by decide +kernel
theorem dX4_timeOntoDitch_42 : decode cX4_timeOntoDitch 42 = .ok (.iconst 2, 1) := by decide +kernel
theorem dX4_timeOntoDitch_43 : decode cX4_timeOntoDitch 43 = .ok (.if_icmp .ne 7, 3) := by decide +kernel
theorem dX4_timeOntoDitch_46 : decode cX4_timeOntoDitch 46 = .ok (.iconst 3, 1) := by decide +kernel
theorem dX4_timeOntoDitch_47 : decode cX4_timeOntoDitch 47 = .ok (.goto 5, 3) := by decide +kernel
theorem dX4_timeOntoDitch_50 : decode cX4_timeOntoDitch 50 = .ok (.bipush (-2), 2) := by decide +kernel
theorem dX4_timeOntoDitch_52 : decode cX4_timeOntoDitch 52 = .ok (.ireturn, 1) := by decide +kernel
theorem dX4_timeOutOfDitch_0 : decode cX4_timeOutOfDitch 0 = .ok (.iload_n 0, 1) := by decide +kernel
theorem dX4_timeOutOfDitch_1 : decode cX4_timeOutOfDitch 1 = .ok (.iconst 2, 1) := by decide +kernel
theorem dX4_timeOutOfDitch_2 : decode cX4_timeOutOfDitch 2 = .ok (.if_icmp .eq 8, 3) := by decide +kernel
theorem dX4_timeOutOfDitch_5 : decode cX4_timeOutOfDitch 5 = .ok (.iload_n 1, 1) := by decide +kernel
theorem dX4_timeOutOfDitch_6 : decode cX4_timeOutOfDitch 6 = .ok (.iconst 2, 1) := by decide +kernel
theorem dX4_timeOutOfDitch_7 : decode cX4_timeOutOfDitch 7 = .ok (.if_icmp .eq 5, 3) := by decide +kernel
theorem dX4_timeOutOfDitch_10 : decode cX4_timeOutOfDitch 10 = .ok (.iconst 1, 1) := by decide +kernel
theorem dX4_timeOutOfDitch_11 : decode cX4_timeOutOfDitch 11 = .ok (.ireturn, 1) := by decide +kernel
theorem dX4_timeOutOfDitch_12 : decode cX4_timeOutOfDitch 12 = .ok (.iload_n 0, 1) := by decide +kernel
theorem dX4_timeOutOfDitch_13 : decode cX4_timeOutOfDitch 13 = .ok (.iconst 3, 1) := by decide +kernel
theorem dX4_timeOutOfDitch_14 : decode cX4_timeOutOfDitch 14 = .ok (.if_icmp .ne 7, 3) := by decide +kernel
theorem dX4_timeOutOfDitch_17 : decode cX4_timeOutOfDitch 17 = .ok (.iconst 4, 1) := by decide +kernel
theorem dX4_timeOutOfDitch_18 : decode cX4_timeOutOfDitch 18 = .ok (.goto 5, 3) := by decide +kernel
theorem dX4_timeOutOfDitch_21 : decode cX4_timeOutOfDitch 21 = .ok (.bipush (-2), 2) := by decide +kernel
theorem dX4_timeOutOfDitch_23 : decode cX4_timeOutOfDitch 23 = .ok (.ireturn, 1) := by decide +kernel
theorem dX5_best_0 : decode cX5_best 0 = .ok (.aload_n 0, 1) := by decide +kernel
theorem dX5_best_1 : decode cX5_best 1 = .ok (.invokevirtual 51, 3) := by decide +kernel
theorem dX5_best_4 : decode cX5_best 4 = .ok (.ifCond .ne 6, 3) := by decide +kernel
theorem dX5_best_7 : decode cX5_best 7 = .ok (.bipush (-2), 2) := by decide +kernel
theorem dX5_best_9 : decode cX5_best 9 = .ok (.ireturn, 1) := by decide +kernel
theorem dX5_best_10 : decode cX5_best 10 = .ok (.bipush (-2), 2) := by decide +kernel
theorem dX5_best_12 : decode cX5_best 12 = .ok (.istore_n 2, 1) := by decide +kernel
theorem dX5_best_13 : decode cX5_best 13 = .ok (.bipush 33, 2) := by decide +kernel
theorem dX5_best_15 : decode cX5_best 15 = .ok (.istore_n 3, 1) := by decide +kernel
theorem dX5_best_16 : decode cX5_best 16 = .ok (.iconst 0, 1) := by decide +kernel
theorem dX5_best_17 : decode cX5_best 17 = .ok (.istore 4, 2) := by decide +kernel
theorem dX5_best_19 : decode cX5_best 19 = .ok (.iload 4, 2) := by decide +kernel
theorem dX5_best_21 : decode cX5_best 21 = .ok (.iload_n 1, 1) := by decide +kernel
theorem dX5_best_22 : decode cX5_best 22 = .ok (.if_icmp .ge 29, 3) := by decide +kernel
theorem dX5_best_25 : decode cX5_best 25 = .ok (.aload_n 0, 1) := by decide +kernel
theorem dX5_best_26 : decode cX5_best 26 = .ok (.iload 4, 2) := by decide +kernel
theorem dX5_best_28 : decode cX5_best 28 = .ok (.invokevirtual 61, 3) := by decide +kernel
theorem dX5_best_31 : decode cX5_best 31 = .ok (.istore 5, 2) := by decide +kernel
theorem dX5_best_33 : decode cX5_best 33 = .ok (.iload 5, 2) := by decide +kernel
theorem dX5_best_35 : decode cX5_best 35 = .ok (.iload_n 3, 1) := by decide +kernel
theorem dX5_best_36 : decode cX5_best 36 = .ok (.if_icmp .ge 9, 3) := by decide +kernel
theorem dX5_best_39 : decode cX5_best 39 = .ok (.iload 5, 2) := by decide +kernel
theorem dX5_best_41 : decode cX5_best 41 = .ok (.istore_n 3, 1) := by decide +kernel
theorem dX5_best_42 : decode cX5_best 42 = .ok (.iload 4, 2) := by decide +kernel
theorem dX5_best_44 : decode cX5_best 44 = .ok (.istore_n 2, 1) := by decide +kernel
theorem dX5_best_45 : decode cX5_best 45 = .ok (.iinc 4 1, 3) := by decide +kernel
theorem dX5_best_48 : decode cX5_best 48 = .ok (.goto (-29), 3) := by decide +kernel
theorem dX5_best_51 : decode cX5_best 51 = .ok (.iload_n 2, 1) := by decide +kernel
theorem dX5_best_52 : decode cX5_best 52 = .ok (.ireturn, 1) := by decide +kernel
theorem dX5_count_0 : decode cX5_count 0 = .ok (.iconst 0, 1) := by decide +kernel
theorem dX5_count_1 : decode cX5_count 1 = .ok (.istore_n 1, 1) := by decide +kernel
theorem dX5_count_2 : decode cX5_count 2 = .ok (.iconst 0, 1) := by decide +kernel
theorem dX5_count_3 : decode cX5_count 3 = .ok (.istore_n 2, 1) := by decide +kernel
theorem dX5_count_4 : decode cX5_count 4 = .ok (.iload_n 2, 1) := by decide +kernel
theorem dX5_count_5 : decode cX5_count 5 = .ok (.aload_n 0, 1) := by decide +kernel
theorem dX5_count_6 : decode cX5_count 6 = .ok (.getfield 35, 3) := by decide +kernel
theorem dX5_count_9 : decode cX5_count 9 = .ok (.if_icmp .ge 28, 3) := by decide +kernel
theorem dX5_count_12 : decode cX5_count 12 = .ok (.iload_n 1, 1) := by decide +kernel
theorem dX5_count_13 : decode cX5_count 13 = .ok (.aload_n 0, 1) := by decide +kernel
theorem dX5_count_14 : decode cX5_count 14 = .ok (.getfield 15, 3) := by decide +kernel
theorem dX5_count_17 : decode cX5_count 17 = .ok (.iload_n 2, 1) := by decide +kernel
theorem dX5_count_18 : decode cX5_count 18 = .ok (.laload, 1) := by decide +kernel
theorem dX5_count_19 : decode cX5_count 19 = .ok (.lconst 0, 1) := by decide +kernel
theorem dX5_count_20 : decode cX5_count 20 = .ok (.lcmp, 1) := by decide +kernel
theorem dX5_count_21 : decode cX5_count 21 = .ok (.ifCond .le 7, 3) := by decide +kernel
theorem dX5_count_24 : decode cX5_count 24 = .ok (.iconst 1, 1) := by decide +kernel
theorem dX5_count_25 : decode cX5_count 25 = .ok (.goto 4, 3) := by decide +kernel
theorem dX5_count_28 : decode cX5_count 28 = .ok (.iconst 0, 1) := by decide +kernel
theorem dX5_count_29 : decode cX5_count 29 = .ok (.iadd, 1) := by decide +kernel
theorem dX5_count_30 : decode cX5_count 30 = .ok (.istore_n 1, 1) := by decide +kernel
theorem dX5_count_31 : decode cX5_count 31 = .ok (.iinc 2 1, 3) := by decide +kernel
theorem dX5_count_34 : decode cX5_count 34 = .ok (.goto (-30), 3) := by decide +kernel
theorem dX5_count_37 : decode cX5_count 37 = .ok (.iload_n 1, 1) := by decide +kernel
theorem dX5_count_38 : decode cX5_count 38 = .ok (.ireturn, 1) := by decide +kernel
theorem dX5_heaviest_0 : decode cX5_heaviest 0 = .ok (.bipush (-2), 2) := by decide +kernel
theorem dX5_heaviest_2 : decode cX5_heaviest 2 = .ok (.istore_n 1, 1) := by decide +kernel
theorem dX5_heaviest_3 : decode cX5_heaviest 3 = .ok (.lconst 0, 1) := by decide +kernel
theorem dX5_heaviest_4 : decode cX5_heaviest 4 = .ok (.lstore_n 2, 1) := by decide +kernel
theorem dX5_heaviest_5 : decode cX5_heaviest 5 = .ok (.iconst 0, 1) := by decide +kernel
theorem dX5_heaviest_6 : decode cX5_heaviest 6 = .ok (.istore 4, 2) := by decide +kernel
theorem dX5_heaviest_8 : decode cX5_heaviest 8 = .ok (.iload 4, 2) := by decide +kernel
theorem dX5_heaviest_10 : decode cX5_heaviest 10 = .ok (.aload_n 0, 1) := by decide +kernel
theorem dX5_heaviest_11 : decode cX5_heaviest 11 = .ok (.getfield 35, 3) := by decide +kernel
theorem dX5_heaviest_14 : decode cX5_heaviest 14 = .ok (.if_icmp .ge 32, 3) := by decide +kernel
theorem dX5_heaviest_17 : decode cX5_heaviest 17 = .ok (.aload_n 0, 1) := by decide +kernel
theorem dX5_heaviest_18 : decode cX5_heaviest 18 = .ok (.getfield 15, 3) := by decide +kernel
theorem dX5_heaviest_21 : decode cX5_heaviest 21 = .ok (.iload 4, 2) := by decide +kernel
theorem dX5_heaviest_23 : decode cX5_heaviest 23 = .ok (.laload, 1) := by decide +kernel
theorem dX5_heaviest_24 : decode cX5_heaviest 24 = .ok (.lload_n 2, 1) := by decide +kernel
theorem dX5_heaviest_25 : decode cX5_heaviest 25 = .ok (.lcmp, 1) := by decide +kernel
theorem dX5_heaviest_26 : decode cX5_heaviest 26 = .ok (.ifCond .le 14, 3) := by decide +kernel
theorem dX5_heaviest_29 : decode cX5_heaviest 29 = .ok (.aload_n 0, 1) := by decide +kernel
theorem dX5_heaviest_30 : decode cX5_heaviest 30 = .ok (.getfield 15, 3) := by decide +kernel
theorem dX5_heaviest_33 : decode cX5_heaviest 33 = .ok (.iload 4, 2) := by decide +kernel
theorem dX5_heaviest_35 : decode cX5_heaviest 35 = .ok (.laload, 1) := by decide +kernel
theorem dX5_heaviest_36 : decode cX5_heaviest 36 = .ok (.lstore_n 2, 1) := by decide +kernel
theorem dX5_heaviest_37 : decode cX5_heaviest 37 = .ok (.iload 4, 2) := by decide +kernel
theorem dX5_heaviest_39 : decode cX5_heaviest 39 = .ok (.istore_n 1, 1) := by decide +kernel
theorem dX5_heaviest_40 : decode cX5_heaviest 40 = .ok (.iinc 4 1, 3) := by decide +kernel
theorem dX5_heaviest_43 : decode cX5_heaviest 43 = .ok (.goto (-35), 3) := by decide +kernel
theorem dX5_heaviest_46 : decode cX5_heaviest 46 = .ok (.iload_n 1, 1) := by decide +kernel
theorem dX5_heaviest_47 : decode cX5_heaviest 47 = .ok (.ireturn, 1) := by decide +kernel
theorem dX5_init_0 : decode cX5_init 0 = .ok (.aload_n 0, 1) := by decide +kernel
theorem dX5_init_1 : decode cX5_init 1 = .ok (.invokespecial 3, 3) := by decide +kernel
theorem dX5_init_4 : decode cX5_init 4 = .ok (.aload_n 0, 1) := by decide +kernel
theorem dX5_init_5 : decode cX5_init 5 = .ok (.bipush 32, 2) := by decide +kernel
theorem dX5_init_7 : decode cX5_init 7 = .ok (.newarray .int, 2) := by decide +kernel
theorem dX5_init_9 : decode cX5_init 9 = .ok (.putfield 11, 3) := by decide +kernel
theorem dX5_init_12 : decode cX5_init 12 = .ok (.aload_n 0, 1) := by decide +kernel
theorem dX5_init_13 : decode cX5_init 13 = .ok (.bipush 32, 2) := by decide +kernel
theorem dX5_init_15 : decode cX5_init 15 = .ok (.newarray .long, 2) := by decide +kernel
theorem dX5_init_17 : decode cX5_init 17 = .ok (.putfield 15, 3) := by decide +kernel
theorem dX5_init_20 : decode cX5_init 20 = .ok (.return_, 1) := by decide +kernel
theorem dX5_ith_0 : decode cX5_ith 0 = .ok (.iconst 0, 1) := by decide +kernel
theorem dX5_ith_1 : decode cX5_ith 1 = .ok (.istore_n 2, 1) := by decide +kernel
theorem dX5_ith_2 : decode cX5_ith 2 = .ok (.iconst 0, 1) := by decide +kernel
theorem dX5_ith_3 : decode cX5_ith 3 = .ok (.istore_n 3, 1) := by decide +kernel
theorem dX5_ith_4 : decode cX5_ith 4 = .ok (.iload_n 3, 1) := by decide +kernel
theorem dX5_ith_5 : decode cX5_ith 5 = .ok (.aload_n 0, 1) := by decide +kernel
theorem dX5_ith_6 : decode cX5_ith 6 = .ok (.getfield 35, 3) := by decide +kernel
theorem dX5_ith_9 : decode cX5_ith 9 = .ok (.if_icmp .ge 30, 3) := by decide +kernel
theorem dX5_ith_12 : decode cX5_ith 12 = .ok (.aload_n 0, 1) := by decide +kernel
theorem dX5_ith_13 : decode cX5_ith 13 = .ok (.getfield 15, 3) := by decide +kernel
theorem dX5_ith_16 : decode cX5_ith 16 = .ok (.iload_n 3, 1) := by decide +kernel
theorem dX5_ith_17 : decode cX5_ith 17 = .ok (.laload, 1) := by decide +kernel
theorem dX5_ith_18 : decode cX5_ith 18 = .ok (.lconst 0, 1) := by decide +kernel
theorem dX5_ith_19 : decode cX5_ith 19 = .ok (.lcmp, 1) := by decide +kernel
theorem dX5_ith_20 : decode cX5_ith 20 = .ok (.ifCond .le 13, 3) := by decide +kernel
theorem dX5_ith_23 : decode cX5_ith 23 = .ok (.iload_n 2, 1) := by decide +kernel
theorem dX5_ith_24 : decode cX5_ith 24 = .ok (.iload_n 1, 1) := by decide +kernel
theorem dX5_ith_25 : decode cX5_ith 25 = .ok (.if_icmp .ne 5, 3) := by decide +kernel
theorem dX5_ith_28 : decode cX5_ith 28 = .ok (.iload_n 3, 1) := by decide +kernel
theorem dX5_ith_29 : decode cX5_ith 29 = .ok (.ireturn, 1) := by decide +kernel
theorem dX5_ith_30 : decode cX5_ith 30 = .ok (.iinc 2 1, 3) := by decide +kernel
theorem dX5_ith_33 : decode cX5_ith 33 = .ok (.iinc 3 1, 3) := by decide +kernel
theorem dX5_ith_36 : decode cX5_ith 36 = .ok (.goto (-32), 3) := by decide +kernel
theorem dX5_ith_39 : decode cX5_ith 39 = .ok (.iconst (-1), 1) := by decide +kernel
theorem dX5_ith_40 : decode cX5_ith 40 = .ok (.ireturn, 1) := by decide +kernel
theorem dX5_learn_0 : decode cX5_learn 0 = .ok (.aload_n 1, 1) := by decide +kernel
theorem dX5_learn_1 : decode cX5_learn 1 = .ok (.getfield 19, 3) := by decide +kernel
theorem dX5_learn_4 : decode cX5_learn 4 = .ok (.iconst 1, 1) := by decide +kernel
theorem dX5_learn_5 : decode cX5_learn 5 = .ok (.invokevirtual 25, 3) := by decide +kernel
theorem dX5_learn_8 : decode cX5_learn 8 = .ok (.istore_n 2, 1) := by decide +kernel
theorem dX5_learn_9 : decode cX5_learn 9 = .ok (.aload_n 0, 1) := by decide +kernel
theorem dX5_learn_10 : decode cX5_learn 10 = .ok (.iconst 1, 1) := by decide +kernel
theorem dX5_learn_11 : decode cX5_learn 11 = .ok (.aload_n 1, 1) := by decide +kernel
theorem dX5_learn_12 : decode cX5_learn 12 = .ok (.getfield 31, 3) := by decide +kernel
theorem dX5_learn_15 : decode cX5_learn 15 = .ok (.ishl, 1) := by decide +kernel
theorem dX5_learn_16 : decode cX5_learn 16 = .ok (.putfield 35, 3) := by decide +kernel
theorem dX5_learn_19 : decode cX5_learn 19 = .ok (.iconst 0, 1) := by decide +kernel
theorem dX5_learn_20 : decode cX5_learn 20 = .ok (.istore_n 3, 1) := by decide +kernel
theorem dX5_learn_21 : decode cX5_learn 21 = .ok (.iload_n 3, 1) := by decide +kernel
theorem dX5_learn_22 : decode cX5_learn 22 = .ok (.aload_n 0, 1) := by decide +kernel
theorem dX5_learn_23 : decode cX5_learn 23 = .ok (.getfield 35, 3) := by decide +kernel
theorem dX5_learn_26 : decode cX5_learn 26 = .ok (.if_icmp .ge 87, 3) := by decide +kernel
theorem dX5_learn_29 : decode cX5_learn 29 = .ok (.aload_n 0, 1) := by decide +kernel
theorem dX5_learn_30 : decode cX5_learn 30 = .ok (.getfield 11, 3) := by decide +kernel
theorem dX5_learn_33 : decode cX5_learn 33 = .ok (.iload_n 3, 1) := by decide +kernel
theorem dX5_learn_34 : decode cX5_learn 34 = .ok (.iload_n 2, 1) := by decide +kernel
theorem dX5_learn_35 : decode cX5_learn 35 = .ok (.aload_n 1, 1) := by decide +kernel
theorem dX5_learn_36 : decode cX5_learn 36 = .ok (.iload_n 3, 1) := by decide +kernel
theorem dX5_learn_37 : decode cX5_learn 37 = .ok (.invokevirtual 38, 3) := by decide +kernel
theorem dX5_learn_40 : decode cX5_learn 40 = .ok (.ior, 1) := by decide +kernel
theorem dX5_learn_41 : decode cX5_learn 41 = .ok (.iastore, 1) := by decide +kernel
theorem dX5_learn_42 : decode cX5_learn 42 = .ok (.lconst 1, 1) := by decide +kernel
theorem dX5_learn_43 : decode cX5_learn 43 = .ok (.lstore 4, 2) := by decide +kernel
theorem dX5_learn_45 : decode cX5_learn 45 = .ok (.iconst 0, 1) := by decide +kernel
theorem dX5_learn_46 : decode cX5_learn 46 = .ok (.istore 6, 2) := by decide +kernel
theorem dX5_learn_48 : decode cX5_learn 48 = .ok (.iload 6, 2) := by decide +kernel
theorem dX5_learn_50 : decode cX5_learn 50 = .ok (.aload_n 1, 1) := by decide +kernel
theorem dX5_learn_51 : decode cX5_learn 51 = .ok (.getfield 41, 3) := by decide +kernel
theorem dX5_learn_54 : decode cX5_learn 54 = .ok (.if_icmp .ge 45, 3) := by decide +kernel
theorem dX5_learn_57 : decode cX5_learn 57 = .ok (.lload 4, 2) := by decide +kernel
theorem dX5_learn_59 : decode cX5_learn 59 = .ok (.aload_n 1, 1) := by decide +kernel
theorem dX5_learn_60 : decode cX5_learn 60 = .ok (.iload 6, 2) := by decide +kernel
theorem dX5_learn_62 : decode cX5_learn 62 = .ok (.aload_n 0, 1) := by decide +kernel
theorem dX5_learn_63 : decode cX5_learn 63 = .ok (.getfield 11, 3) := by decide +kernel
theorem dX5_learn_66 : decode cX5_learn 66 = .ok (.iload_n 3, 1) := by decide +kernel
theorem dX5_learn_67 : decode cX5_learn 67 = .ok (.iaload, 1) := by decide +kernel
theorem dX5_learn_68 : decode cX5_learn 68 = .ok (.invokevirtual 44, 3) := by decide +kernel
theorem dX5_learn_71 : decode cX5_learn 71 = .ok (.ifCond .eq 11, 3) := by decide +kernel
theorem dX5_learn_74 : decode cX5_learn 74 = .ok (.aload_n 1, 1) := by decide +kernel
theorem dX5_learn_75 : decode cX5_learn 75 = .ok (.getfield 48, 3) := by decide +kernel
theorem dX5_learn_78 : decode cX5_learn 78 = .ok (.i2l, 1) := by decide +kernel
theorem dX5_learn_79 : decode cX5_learn 79 = .ok (.goto 11, 3) := by decide +kernel
theorem dX5_learn_82 : decode cX5_learn 82 = .ok (.bipush 100, 2) := by decide +kernel
theorem dX5_learn_84 : decode cX5_learn 84 = .ok (.aload_n 1, 1) := by decide +kernel
theorem dX5_learn_85 : decode cX5_learn 85 = .ok (.getfield 48, 3) := by decide +kernel
theorem dX5_learn_88 : decode cX5_learn 88 = .ok (.isub, 1) := by decide +kernel
theorem dX5_learn_89 : decode cX5_learn 89 = .ok (.i2l, 1) := by decide +kernel
theorem dX5_learn_90 : decode cX5_learn 90 = .ok (.lmul, 1) := by decide +kernel
theorem dX5_learn_91 : decode cX5_learn 91 = .ok (.lstore 4, 2) := by decide +kernel
theorem dX5_learn_93 : decode cX5_learn 93 = .ok (.iinc 6 1, 3) := by decide +kernel
theorem dX5_learn_96 : decode cX5_learn 96 = .ok (.goto (-48), 3) := by decide +kernel
theorem dX5_learn_99 : decode cX5_learn 99 = .ok (.aload_n 0, 1) := by decide +kernel
theorem dX5_learn_100 : decode cX5_learn 100 = .ok (.getfield 15, 3) := by decide +kernel
theorem dX5_learn_103 : decode cX5_learn 103 = .ok (.iload_n 3, 1) := by decide +kernel
theorem dX5_learn_104 : decode cX5_learn 104 = .ok (.lload 4, 2) := by decide +kernel
theorem dX5_learn_106 : decode cX5_learn 106 = .ok (.lastore, 1) := by decide +kernel
theorem dX5_learn_107 : decode cX5_learn 107 = .ok (.iinc 3 1, 3) := by decide +kernel
theorem dX5_learn_110 : decode cX5_learn 110 = .ok (.goto (-89), 3) := by decide +kernel
theorem dX5_learn_113 : decode cX5_learn 113 = .ok (.return_, 1) := by decide +kernel
theorem dX5_leftAtMost_0 : decode cX5_leftAtMost 0 = .ok (.iconst 0, 1) := by decide +kernel
theorem dX5_leftAtMost_1 : decode cX5_leftAtMost 1 = .ok (.istore_n 2, 1) := by decide +kernel
theorem dX5_leftAtMost_2 : decode cX5_leftAtMost 2 = .ok (.iconst 0, 1) := by decide +kernel
theorem dX5_leftAtMost_3 : decode cX5_leftAtMost 3 = .ok (.istore_n 3, 1) := by decide +kernel
theorem dX5_leftAtMost_4 : decode cX5_leftAtMost 4 = .ok (.iload_n 3, 1) := by decide +kernel
theorem dX5_leftAtMost_5 : decode cX5_leftAtMost 5 = .ok (.aload_n 0, 1) := by decide +kernel
theorem dX5_leftAtMost_6 : decode cX5_leftAtMost 6 = .ok (.getfield 35, 3) := by decide +kernel
theorem dX5_leftAtMost_9 : decode cX5_leftAtMost 9 = .ok (.if_icmp .ge 32, 3) := by decide +kernel
theorem dX5_leftAtMost_12 : decode cX5_leftAtMost 12 = .ok (.aload_n 0, 1) := by decide +kernel
theorem dX5_leftAtMost_13 : decode cX5_leftAtMost 13 = .ok (.getfield 15, 3) := by decide +kernel
theorem dX5_leftAtMost_16 : decode cX5_leftAtMost 16 = .ok (.iload_n 3, 1) := by decide +kernel
theorem dX5_leftAtMost_17 : decode cX5_leftAtMost 17 = .ok (.laload, 1) := by decide +kernel
theorem dX5_leftAtMost_18 : decode cX5_leftAtMost 18 = .ok (.lconst 0, 1) := by decide +kernel
theorem dX5_leftAtMost_19 : decode cX5_leftAtMost 19 = .ok (.lcmp, 1) := by decide +kernel
theorem dX5_leftAtMost_20 : decode cX5_leftAtMost 20 = .ok (.ifCond .le 15, 3) := by decide +kernel
theorem dX5_leftAtMost_23 : decode cX5_leftAtMost 23 = .ok (.iload_n 3, 1) := by decide +kernel
theorem dX5_leftAtMost_24 : decode cX5_leftAtMost 24 = .ok (.iload_n 1, 1) := by decide +kernel
theorem dX5_leftAtMost_25 : decode cX5_leftAtMost 25 = .ok (.ishr, 1) := by decide +kernel
theorem dX5_leftAtMost_26 : decode cX5_leftAtMost 26 = .ok (.iconst 1, 1) := by decide +kernel
theorem dX5_leftAtMost_27 : decode cX5_leftAtMost 27 = .ok (.iand, 1) := by decide +kernel
theorem dX5_leftAtMost_28 : decode cX5_leftAtMost 28 = .ok (.iconst 1, 1) := by decide +kernel
theorem dX5_leftAtMost_29 : decode cX5_leftAtMost 29 = .ok (.if_icmp .ne 6, 3) := by decide +kernel
theorem dX5_leftAtMost_32 : decode cX5_leftAtMost 32 = .ok (.iinc 2 1, 3) := by decide +kernel
theorem dX5_leftAtMost_35 : decode cX5_leftAtMost 35 = .ok (.iinc 3 1, 3) := by decide +kernel
theorem dX5_leftAtMost_38 : decode cX5_leftAtMost 38 = .ok (.goto (-34), 3) := by decide +kernel
theorem dX5_leftAtMost_41 : decode cX5_leftAtMost 41 = .ok (.iload_n 2, 1) := by decide +kernel
theorem dX5_leftAtMost_42 : decode cX5_leftAtMost 42 = .ok (.aload_n 0, 1) := by decide +kernel
theorem dX5_leftAtMost_43 : decode cX5_leftAtMost 43 = .ok (.invokevirtual 51, 3) := by decide +kernel
theorem dX5_leftAtMost_46 : decode cX5_leftAtMost 46 = .ok (.iload_n 2, 1) := by decide +kernel
theorem dX5_leftAtMost_47 : decode cX5_leftAtMost 47 = .ok (.isub, 1) := by decide +kernel
theorem dX5_leftAtMost_48 : decode cX5_leftAtMost 48 = .ok (.invokestatic 55, 3) := by decide +kernel
theorem dX5_leftAtMost_51 : decode cX5_leftAtMost 51 = .ok (.ireturn, 1) := by decide +kernel
theorem dX5_weightOf_0 : decode cX5_weightOf 0 = .ok (.lconst 0, 1) := by decide +kernel
theorem dX5_weightOf_1 : decode cX5_weightOf 1 = .ok (.lstore_n 2, 1) := by decide +kernel
theorem dX5_weightOf_2 : decode cX5_weightOf 2 = .ok (.iconst 0, 1) := by decide +kernel
theorem dX5_weightOf_3 : decode cX5_weightOf 3 = .ok (.istore 4, 2) := by decide +kernel
theorem dX5_weightOf_5 : decode cX5_weightOf 5 = .ok (.iload 4, 2) := by decide +kernel
theorem dX5_weightOf_7 : decode cX5_weightOf 7 = .ok (.aload_n 0, 1) := by decide +kernel
theorem dX5_weightOf_8 : decode cX5_weightOf 8 = .ok (.getfield 35, 3) := by decide +kernel
theorem dX5_weightOf_11 : decode cX5_weightOf 11 = .ok (.if_icmp .ge 29, 3) := by decide +kernel
theorem dX5_weightOf_14 : decode cX5_weightOf 14 = .ok (.iload 4, 2) := by decide +kernel
theorem dX5_weightOf_16 : decode cX5_weightOf 16 = .ok (.iload_n 1, 1) := by decide +kernel
theorem dX5_weightOf_17 : decode cX5_weightOf 17 = .ok (.ishr, 1) := by decide +kernel
theorem dX5_weightOf_18 : decode cX5_weightOf 18 = .ok (.iconst 1, 1) := by decide +kernel
theorem dX5_weightOf_19 : decode cX5_weightOf 19 = .ok (.iand, 1) := by decide +kernel
theorem dX5_weightOf_20 : decode cX5_weightOf 20 = .ok (.iconst 1, 1) := by decide +kernel
theorem dX5_weightOf_21 : decode cX5_weightOf 21 = .ok (.if_icmp .ne 13, 3) := by decide +kernel
theorem dX5_weightOf_24 : decode cX5_weightOf 24 = .ok (.lload_n 2, 1) := by decide +kernel
theorem dX5_weightOf_25 : decode cX5_weightOf 25 = .ok (.aload_n 0, 1) := by decide +kernel
theorem dX5_weightOf_26 : decode cX5_weightOf 26 = .ok (.getfield 15, 3) := by decide +kernel
theorem dX5_weightOf_29 : decode cX5_weightOf 29 = .ok (.iload 4, 2) := by decide +kernel
theorem dX5_weightOf_31 : decode cX5_weightOf 31 = .ok (.laload, 1) := by decide +kernel
theorem dX5_weightOf_32 : decode cX5_weightOf 32 = .ok (.ladd, 1) := by decide +kernel
theorem dX5_weightOf_33 : decode cX5_weightOf 33 = .ok (.lstore_n 2, 1) := by decide +kernel
theorem dX5_weightOf_34 : decode cX5_weightOf 34 = .ok (.iinc 4 1, 3) := by decide +kernel
theorem dX5_weightOf_37 : decode cX5_weightOf 37 = .ok (.goto (-32), 3) := by decide +kernel
theorem dX5_weightOf_40 : decode cX5_weightOf 40 = .ok (.lload_n 2, 1) := by decide +kernel
theorem dX5_weightOf_41 : decode cX5_weightOf 41 = .ok (.lreturn, 1) := by decide +kernel
theorem dX5_weightOfAll_0 : decode cX5_weightOfAll 0 = .ok (.lconst 0, 1) := by decide +kernel
theorem dX5_weightOfAll_1 : decode cX5_weightOfAll 1 = .ok (.lstore_n 1, 1) := by decide +kernel
theorem dX5_weightOfAll_2 : decode cX5_weightOfAll 2 = .ok (.iconst 0, 1) := by decide +kernel
theorem dX5_weightOfAll_3 : decode cX5_weightOfAll 3 = .ok (.istore_n 3, 1) := by decide +kernel
theorem dX5_weightOfAll_4 : decode cX5_weightOfAll 4 = .ok (.iload_n 3, 1) := by decide +kernel
theorem dX5_weightOfAll_5 : decode cX5_weightOfAll 5 = .ok (.aload_n 0, 1) := by decide +kernel
theorem dX5_weightOfAll_6 : decode cX5_weightOfAll 6 = .ok (.getfield 35, 3) := by decide +kernel
theorem dX5_weightOfAll_9 : decode cX5_weightOfAll 9 = .ok (.if_icmp .ge 18, 3) := by decide +kernel
theorem dX5_weightOfAll_12 : decode cX5_weightOfAll 12 = .ok (.lload_n 1, 1) := by decide +kernel
theorem dX5_weightOfAll_13 : decode cX5_weightOfAll 13 = .ok (.aload_n 0, 1) := by decide +kernel
theorem dX5_weightOfAll_14 : decode cX5_weightOfAll 14 = .ok (.getfield 15, 3) := by decide +kernel
theorem dX5_weightOfAll_17 : decode cX5_weightOfAll 17 = .ok (.iload_n 3, 1) := by decide +kernel
theorem dX5_weightOfAll_18 : decode cX5_weightOfAll 18 = .ok (.laload, 1) := by decide +kernel
theorem dX5_weightOfAll_19 : decode cX5_weightOfAll 19 = .ok (.ladd, 1) := by decide +kernel
theorem dX5_weightOfAll_20 : decode cX5_weightOfAll 20 = .ok (.lstore_n 1, 1) := by decide +kernel
theorem dX5_weightOfAll_21 : decode cX5_weightOfAll 21 = .ok (.iinc 3 1, 3) := by decide +kernel
theorem dX5_weightOfAll_24 : decode cX5_weightOfAll 24 = .ok (.goto (-20), 3) := by decide +kernel
theorem dX5_weightOfAll_27 : decode cX5_weightOfAll 27 = .ok (.lload_n 1, 1) := by decide +kernel
theorem dX5_weightOfAll_28 : decode cX5_weightOfAll 28 = .ok (.lreturn, 1) := by decide +kernel
theorem dX5_weightOver_0 : decode cX5_weightOver 0 = .ok (.lconst 0, 1) := by decide +kernel
theorem dX5_weightOver_1 : decode cX5_weightOver 1 = .ok (.lstore_n 2, 1) := by decide +kernel
theorem dX5_weightOver_2 : decode cX5_weightOver 2 = .ok (.iconst 0, 1) := by decide +kernel
theorem dX5_weightOver_3 : decode cX5_weightOver 3 = .ok (.istore 4, 2) := by decide +kernel
theorem dX5_weightOver_5 : decode cX5_weightOver 5 = .ok (.iload 4, 2) := by decide +kernel
theorem dX5_weightOver_7 : decode cX5_weightOver 7 = .ok (.aload_n 0, 1) := by decide +kernel
theorem dX5_weightOver_8 : decode cX5_weightOver 8 = .ok (.getfield 35, 3) := by decide +kernel
theorem dX5_weightOver_11 : decode cX5_weightOver 11 = .ok (.if_icmp .ge 31, 3) := by decide +kernel
theorem dX5_weightOver_14 : decode cX5_weightOver 14 = .ok (.aload_n 0, 1) := by decide +kernel
theorem dX5_weightOver_15 : decode cX5_weightOver 15 = .ok (.getfield 11, 3) := by decide +kernel
theorem dX5_weightOver_18 : decode cX5_weightOver 18 = .ok (.iload 4, 2) := by decide +kernel
theorem dX5_weightOver_20 : decode cX5_weightOver 20 = .ok (.iaload, 1) := by decide +kernel
theorem dX5_weightOver_21 : decode cX5_weightOver 21 = .ok (.iload_n 1, 1) := by decide +kernel
theorem dX5_weightOver_22 : decode cX5_weightOver 22 = .ok (.iand, 1) := by decide +kernel
theorem dX5_weightOver_23 : decode cX5_weightOver 23 = .ok (.ifCond .eq 13, 3) := by decide +kernel
theorem dX5_weightOver_26 : decode cX5_weightOver 26 = .ok (.lload_n 2, 1) := by decide +kernel
theorem dX5_weightOver_27 : decode cX5_weightOver 27 = .ok (.aload_n 0, 1) := by decide +kernel
theorem dX5_weightOver_28 : decode cX5_weightOver 28 = .ok (.getfield 15, 3) := by decide +kernel
theorem dX5_weightOver_31 : decode cX5_weightOver 31 = .ok (.iload 4, 2) := by decide +kernel
theorem dX5_weightOver_33 : decode cX5_weightOver 33 = .ok (.laload, 1) := by decide +kernel
theorem dX5_weightOver_34 : decode cX5_weightOver 34 = .ok (.ladd, 1) := by decide +kernel
theorem dX5_weightOver_35 : decode cX5_weightOver 35 = .ok (.lstore_n 2, 1) := by decide +kernel
theorem dX5_weightOver_36 : decode cX5_weightOver 36 = .ok (.iinc 4 1, 3) := by decide +kernel
theorem dX5_weightOver_39 : decode cX5_weightOver 39 = .ok (.goto (-34), 3) := by decide +kernel
theorem dX5_weightOver_42 : decode cX5_weightOver 42 = .ok (.lload_n 2, 1) := by decide +kernel
theorem dX5_weightOver_43 : decode cX5_weightOver 43 = .ok (.lreturn, 1) := by decide +kernel
theorem dX6_begin_0 : decode cX6_begin 0 = .ok (.aload_n 0, 1) := by decide +kernel
theorem dX6_begin_1 : decode cX6_begin 1 = .ok (.getfield 12, 3) := by decide +kernel
theorem dX6_begin_4 : decode cX6_begin 4 = .ok (.aload_n 1, 1) := by decide +kernel
theorem dX6_begin_5 : decode cX6_begin 5 = .ok (.getfield 28, 3) := by decide +kernel
theorem dX6_begin_8 : decode cX6_begin 8 = .ok (.invokevirtual 31, 3) := by decide +kernel
theorem dX6_begin_11 : decode cX6_begin 11 = .ok (.aload_n 0, 1) := by decide +kernel
theorem dX6_begin_12 : decode cX6_begin 12 = .ok (.aload_n 1, 1) := by decide +kernel
theorem dX6_begin_13 : decode cX6_begin 13 = .ok (.getfield 35, 3) := by decide +kernel
theorem dX6_begin_16 : decode cX6_begin 16 = .ok (.putfield 39, 3) := by decide +kernel
theorem dX6_begin_19 : decode cX6_begin 19 = .ok (.iconst 0, 1) := by decide +kernel
theorem dX6_begin_20 : decode cX6_begin 20 = .ok (.istore_n 2, 1) := by decide +kernel
theorem dX6_begin_21 : decode cX6_begin 21 = .ok (.iload_n 2, 1) := by decide +kernel
theorem dX6_begin_22 : decode cX6_begin 22 = .ok (.iconst 4, 1) := by decide +kernel
theorem dX6_begin_23 : decode cX6_begin 23 = .ok (.if_icmp .ge 35, 3) := by decide +kernel
theorem dX6_begin_26 : decode cX6_begin 26 = .ok (.aload_n 0, 1) := by decide +kernel
theorem dX6_begin_27 : decode cX6_begin 27 = .ok (.getfield 18, 3) := by decide +kernel
theorem dX6_begin_30 : decode cX6_begin 30 = .ok (.iload_n 2, 1) := by decide +kernel
theorem dX6_begin_31 : decode cX6_begin 31 = .ok (.aload_n 1, 1) := by decide +kernel
theorem dX6_begin_32 : decode cX6_begin 32 = .ok (.getfield 40, 3) := by decide +kernel
theorem dX6_begin_35 : decode cX6_begin 35 = .ok (.iload_n 2, 1) := by decide +kernel
theorem dX6_begin_36 : decode cX6_begin 36 = .ok (.iaload, 1) := by decide +kernel
theorem dX6_begin_37 : decode cX6_begin 37 = .ok (.iastore, 1) := by decide +kernel
theorem dX6_begin_38 : decode cX6_begin 38 = .ok (.aload_n 0, 1) := by decide +kernel
theorem dX6_begin_39 : decode cX6_begin 39 = .ok (.getfield 22, 3) := by decide +kernel
theorem dX6_begin_42 : decode cX6_begin 42 = .ok (.iload_n 2, 1) := by decide +kernel
theorem dX6_begin_43 : decode cX6_begin 43 = .ok (.iconst 0, 1) := by decide +kernel
theorem dX6_begin_44 : decode cX6_begin 44 = .ok (.iastore, 1) := by decide +kernel
theorem dX6_begin_45 : decode cX6_begin 45 = .ok (.aload_n 0, 1) := by decide +kernel
theorem dX6_begin_46 : decode cX6_begin 46 = .ok (.getfield 25, 3) := by decide +kernel
theorem dX6_begin_49 : decode cX6_begin 49 = .ok (.iload_n 2, 1) := by decide +kernel
theorem dX6_begin_50 : decode cX6_begin 50 = .ok (.iconst 0, 1) := by decide +kernel
theorem dX6_begin_51 : decode cX6_begin 51 = .ok (.iastore, 1) := by decide +kernel
theorem dX6_begin_52 : decode cX6_begin 52 = .ok (.iinc 2 1, 3) := by decide +kernel
theorem dX6_begin_55 : decode cX6_begin 55 = .ok (.goto (-34), 3) := by decide +kernel
theorem dX6_begin_58 : decode cX6_begin 58 = .ok (.return_, 1) := by decide +kernel
theorem dX6_go_0 : decode cX6_go 0 = .ok (.aload_n 0, 1) := by decide +kernel
theorem dX6_go_1 : decode cX6_go 1 = .ok (.getfield 12, 3) := by decide +kernel
theorem dX6_go_4 : decode cX6_go 4 = .ok (.iload_n 2, 1) := by decide +kernel
theorem dX6_go_5 : decode cX6_go 5 = .ok (.aload_n 0, 1) := by decide +kernel
theorem dX6_go_6 : decode cX6_go 6 = .ok (.getfield 18, 3) := by decide +kernel
theorem dX6_go_9 : decode cX6_go 9 = .ok (.iload_n 1, 1) := by decide +kernel
theorem dX6_go_10 : decode cX6_go 10 = .ok (.iaload, 1) := by decide +kernel
theorem dX6_go_11 : decode cX6_go 11 = .ok (.iload_n 3, 1) := by decide +kernel
theorem dX6_go_12 : decode cX6_go 12 = .ok (.invokevirtual 49, 3) := by decide +kernel
theorem dX6_go_15 : decode cX6_go 15 = .ok (.istore 4, 2) := by decide +kernel
theorem dX6_go_17 : decode cX6_go 17 = .ok (.iload 4, 2) := by decide +kernel
theorem dX6_go_19 : decode cX6_go 19 = .ok (.bipush (-2), 2) := by decide +kernel
theorem dX6_go_21 : decode cX6_go 21 = .ok (.if_icmp .eq 58, 3) := by decide +kernel
theorem dX6_go_24 : decode cX6_go 24 = .ok (.aload_n 0, 1) := by decide +kernel
theorem dX6_go_25 : decode cX6_go 25 = .ok (.getfield 25, 3) := by decide +kernel
theorem dX6_go_28 : decode cX6_go 28 = .ok (.iload_n 1, 1) := by decide +kernel
theorem dX6_go_29 : decode cX6_go 29 = .ok (.dup2, 1) := by decide +kernel
theorem dX6_go_30 : decode cX6_go 30 = .ok (.iaload, 1) := by decide +kernel
theorem dX6_go_31 : decode cX6_go 31 = .ok (.iload 4, 2) := by decide +kernel
theorem dX6_go_33 : decode cX6_go 33 = .ok (.iadd, 1) := by decide +kernel
theorem dX6_go_34 : decode cX6_go 34 = .ok (.iastore, 1) := by decide +kernel
theorem dX6_go_35 : decode cX6_go 35 = .ok (.aload_n 0, 1) := by decide +kernel
theorem dX6_go_36 : decode cX6_go 36 = .ok (.getfield 22, 3) := by decide +kernel
theorem dX6_go_39 : decode cX6_go 39 = .ok (.iload_n 1, 1) := by decide +kernel
theorem dX6_go_40 : decode cX6_go 40 = .ok (.dup2, 1) := by decide +kernel
theorem dX6_go_41 : decode cX6_go 41 = .ok (.iaload, 1) := by decide +kernel
theorem dX6_go_42 : decode cX6_go 42 = .ok (.aload_n 0, 1) := by decide +kernel
theorem dX6_go_43 : decode cX6_go 43 = .ok (.getfield 12, 3) := by decide +kernel
theorem dX6_go_46 : decode cX6_go 46 = .ok (.iload_n 2, 1) := by decide +kernel
theorem dX6_go_47 : decode cX6_go 47 = .ok (.aload_n 0, 1) := by decide +kernel
theorem dX6_go_48 : decode cX6_go 48 = .ok (.getfield 18, 3) := by decide +kernel
theorem dX6_go_51 : decode cX6_go 51 = .ok (.iload_n 1, 1) := by decide +kernel
theorem dX6_go_52 : decode cX6_go 52 = .ok (.iaload, 1) := by decide +kernel
theorem dX6_go_53 : decode cX6_go 53 = .ok (.iload_n 3, 1) := by decide +kernel
theorem dX6_go_54 : decode cX6_go 54 = .ok (.invokevirtual 53, 3) := by decide +kernel
theorem dX6_go_57 : decode cX6_go 57 = .ok (.iadd, 1) := by decide +kernel
theorem dX6_go_58 : decode cX6_go 58 = .ok (.iastore, 1) := by decide +kernel
theorem dX6_go_59 : decode cX6_go 59 = .ok (.aload_n 0, 1) := by decide +kernel
theorem dX6_go_60 : decode cX6_go 60 = .ok (.getfield 18, 3) := by decide +kernel
theorem dX6_go_63 : decode cX6_go 63 = .ok (.iload_n 1, 1) := by decide +kernel
theorem dX6_go_64 : decode cX6_go 64 = .ok (.aload_n 0, 1) := by decide +kernel
theorem dX6_go_65 : decode cX6_go 65 = .ok (.getfield 12, 3) := by decide +kernel
theorem dX6_go_68 : decode cX6_go 68 = .ok (.aload_n 0, 1) := by decide +kernel
theorem dX6_go_69 : decode cX6_go 69 = .ok (.getfield 18, 3) := by decide +kernel
theorem dX6_go_72 : decode cX6_go 72 = .ok (.iload_n 1, 1) := by decide +kernel
theorem dX6_go_73 : decode cX6_go 73 = .ok (.iaload, 1) := by decide +kernel
theorem dX6_go_74 : decode cX6_go 74 = .ok (.iload_n 3, 1) := by decide +kernel
theorem dX6_go_75 : decode cX6_go 75 = .ok (.invokevirtual 56, 3) := by decide +kernel
theorem dX6_go_78 : decode cX6_go 78 = .ok (.iastore, 1) := by decide +kernel
theorem dX6_go_79 : decode cX6_go 79 = .ok (.return_, 1) := by decide +kernel
theorem dX6_init_0 : decode cX6_init 0 = .ok (.aload_n 0, 1) := by decide +kernel
theorem dX6_init_1 : decode cX6_init 1 = .ok (.invokespecial 3, 3) := by decide +kernel
theorem dX6_init_4 : decode cX6_init 4 = .ok (.aload_n 0, 1) := by decide +kernel
theorem dX6_init_5 : decode cX6_init 5 = .ok (.new 9, 3) := by decide +kernel
theorem dX6_init_8 : decode cX6_init 8 = .ok (.dup, 1) := by decide +kernel
theorem dX6_init_9 : decode cX6_init 9 = .ok (.invokespecial 11, 3) := by decide +kernel
theorem dX6_init_12 : decode cX6_init 12 = .ok (.putfield 12, 3) := by decide +kernel
theorem dX6_init_15 : decode cX6_init 15 = .ok (.aload_n 0, 1) := by decide +kernel
theorem dX6_init_16 : decode cX6_init 16 = .ok (.iconst 4, 1) := by decide +kernel
theorem dX6_init_17 : decode cX6_init 17 = .ok (.newarray .int, 2) := by decide +kernel
theorem dX6_init_19 : decode cX6_init 19 = .ok (.putfield 18, 3) := by decide +kernel
theorem dX6_init_22 : decode cX6_init 22 = .ok (.aload_n 0, 1) := by decide +kernel
theorem dX6_init_23 : decode cX6_init 23 = .ok (.iconst 4, 1) := by decide +kernel
theorem dX6_init_24 : decode cX6_init 24 = .ok (.newarray .int, 2) := by decide +kernel
theorem dX6_init_26 : decode cX6_init 26 = .ok (.putfield 22, 3) := by decide +kernel
theorem dX6_init_29 : decode cX6_init 29 = .ok (.aload_n 0, 1) := by decide +kernel
theorem dX6_init_30 : decode cX6_init 30 = .ok (.iconst 4, 1) := by decide +kernel
theorem dX6_init_31 : decode cX6_init 31 = .ok (.newarray .int, 2) := by decide +kernel
theorem dX6_init_33 : decode cX6_init 33 = .ok (.putfield 25, 3) := by decide +kernel
theorem dX6_init_36 : decode cX6_init 36 = .ok (.return_, 1) := by decide +kernel
theorem dX6_take_0 : decode cX6_take 0 = .ok (.aload_n 0, 1) := by decide +kernel
theorem dX6_take_1 : decode cX6_take 1 = .ok (.getfield 12, 3) := by decide +kernel
theorem dX6_take_4 : decode cX6_take 4 = .ok (.aload_n 1, 1) := by decide +kernel
theorem dX6_take_5 : decode cX6_take 5 = .ok (.getfield 12, 3) := by decide +kernel
theorem dX6_take_8 : decode cX6_take 8 = .ok (.invokevirtual 31, 3) := by decide +kernel
theorem dX6_take_11 : decode cX6_take 11 = .ok (.aload_n 0, 1) := by decide +kernel
theorem dX6_take_12 : decode cX6_take 12 = .ok (.aload_n 1, 1) := by decide +kernel
theorem dX6_take_13 : decode cX6_take 13 = .ok (.getfield 39, 3) := by decide +kernel
theorem dX6_take_16 : decode cX6_take 16 = .ok (.putfield 39, 3) := by decide +kernel
theorem dX6_take_19 : decode cX6_take 19 = .ok (.aload_n 1, 1) := by decide +kernel
theorem dX6_take_20 : decode cX6_take 20 = .ok (.getfield 18, 3) := by decide +kernel
theorem dX6_take_23 : decode cX6_take 23 = .ok (.iconst 0, 1) := by decide +kernel
theorem dX6_take_24 : decode cX6_take 24 = .ok (.aload_n 0, 1) := by decide +kernel
theorem dX6_take_25 : decode cX6_take 25 = .ok (.getfield 18, 3) := by decide +kernel
theorem dX6_take_28 : decode cX6_take 28 = .ok (.iconst 0, 1) := by decide +kernel
theorem dX6_take_29 : decode cX6_take 29 = .ok (.iconst 4, 1) := by decide +kernel
theorem dX6_take_30 : decode cX6_take 30 = .ok (.invokestatic 43, 3) := by decide +kernel
theorem dX6_take_33 : decode cX6_take 33 = .ok (.aload_n 1, 1) := by decide +kernel
theorem dX6_take_34 : decode cX6_take 34 = .ok (.getfield 22, 3) := by decide +kernel
theorem dX6_take_37 : decode cX6_take 37 = .ok (.iconst 0, 1) := by decide +kernel
theorem dX6_take_38 : decode cX6_take 38 = .ok (.aload_n 0, 1) := by decide +kernel
theorem dX6_take_39 : decode cX6_take 39 = .ok (.getfield 22, 3) := by decide +kernel
theorem dX6_take_42 : decode cX6_take 42 = .ok (.iconst 0, 1) := by decide +kernel
theorem dX6_take_43 : decode cX6_take 43 = .ok (.iconst 4, 1) := by decide +kernel
theorem dX6_take_44 : decode cX6_take 44 = .ok (.invokestatic 43, 3) := by decide +kernel
theorem dX6_take_47 : decode cX6_take 47 = .ok (.aload_n 1, 1) := by decide +kernel
theorem dX6_take_48 : decode cX6_take 48 = .ok (.getfield 25, 3) := by decide +kernel
theorem dX6_take_51 : decode cX6_take 51 = .ok (.iconst 0, 1) := by decide +kernel
theorem dX6_take_52 : decode cX6_take 52 = .ok (.aload_n 0, 1) := by decide +kernel
theorem dX6_take_53 : decode cX6_take 53 = .ok (.getfield 25, 3) := by decide +kernel
theorem dX6_take_56 : decode cX6_take 56 = .ok (.iconst 0, 1) := by decide +kernel
theorem dX6_take_57 : decode cX6_take 57 = .ok (.iconst 4, 1) := by decide +kernel
theorem dX6_take_58 : decode cX6_take 58 = .ok (.invokestatic 43, 3) := by decide +kernel
theorem dX6_take_61 : decode cX6_take 61 = .ok (.return_, 1) := by decide +kernel
theorem dX6_walkersAt_0 : decode cX6_walkersAt 0 = .ok (.iconst 0, 1) := by decide +kernel
theorem dX6_walkersAt_1 : decode cX6_walkersAt 1 = .ok (.istore_n 2, 1) := by decide +kernel
theorem dX6_walkersAt_2 : decode cX6_walkersAt 2 = .ok (.iconst 0, 1) := by decide +kernel
theorem dX6_walkersAt_3 : decode cX6_walkersAt 3 = .ok (.istore_n 3, 1) := by decide +kernel
theorem dX6_walkersAt_4 : decode cX6_walkersAt 4 = .ok (.iload_n 3, 1) := by decide +kernel
theorem dX6_walkersAt_5 : decode cX6_walkersAt 5 = .ok (.aload_n 0, 1) := by decide +kernel
theorem dX6_walkersAt_6 : decode cX6_walkersAt 6 = .ok (.getfield 39, 3) := by decide +kernel
theorem dX6_walkersAt_9 : decode cX6_walkersAt 9 = .ok (.if_icmp .ge 25, 3) := by decide +kernel
theorem dX6_walkersAt_12 : decode cX6_walkersAt 12 = .ok (.aload_n 0, 1) := by decide +kernel
theorem dX6_walkersAt_13 : decode cX6_walkersAt 13 = .ok (.getfield 18, 3) := by decide +kernel
theorem dX6_walkersAt_16 : decode cX6_walkersAt 16 = .ok (.iload_n 3, 1) := by decide +kernel
theorem dX6_walkersAt_17 : decode cX6_walkersAt 17 = .ok (.iaload, 1) := by decide +kernel
theorem dX6_walkersAt_18 : decode cX6_walkersAt 18 = .ok (.iload_n 1, 1) := by decide +kernel
theorem dX6_walkersAt_19 : decode cX6_walkersAt 19 = .ok (.if_icmp .ne 9, 3) := by decide +kernel
theorem dX6_walkersAt_22 : decode cX6_walkersAt 22 = .ok (.iload_n 2, 1) := by decide +kernel
theorem dX6_walkersAt_23 : decode cX6_walkersAt 23 = .ok (.iconst 1, 1) := by decide +kernel
theorem dX6_walkersAt_24 : decode cX6_walkersAt 24 = .ok (.iload_n 3, 1) := by decide +kernel
theorem dX6_walkersAt_25 : decode cX6_walkersAt 25 = .ok (.ishl, 1) := by decide +kernel
theorem dX6_walkersAt_26 : decode cX6_walkersAt 26 = .ok (.ior, 1) := by decide +kernel
theorem dX6_walkersAt_27 : decode cX6_walkersAt 27 = .ok (.istore_n 2, 1) := by decide +kernel
theorem dX6_walkersAt_28 : decode cX6_walkersAt 28 = .ok (.iinc 3 1, 3) := by decide +kernel
theorem dX6_walkersAt_31 : decode cX6_walkersAt 31 = .ok (.goto (-27), 3) := by decide +kernel
theorem dX6_walkersAt_34 : decode cX6_walkersAt 34 = .ok (.iload_n 2, 1) := by decide +kernel
theorem dX6_walkersAt_35 : decode cX6_walkersAt 35 = .ok (.ireturn, 1) := by decide +kernel
theorem dX7_clear_0 : decode cX7_clear 0 = .ok (.aload_n 0, 1) := by decide +kernel
theorem dX7_clear_1 : decode cX7_clear 1 = .ok (.getfield 12, 3) := by decide +kernel
theorem dX7_clear_4 : decode cX7_clear 4 = .ok (.iconst 0, 1) := by decide +kernel
theorem dX7_clear_5 : decode cX7_clear 5 = .ok (.iconst 0, 1) := by decide +kernel
theorem dX7_clear_6 : decode cX7_clear 6 = .ok (.invokevirtual 45, 3) := by decide +kernel
theorem dX7_clear_9 : decode cX7_clear 9 = .ok (.aload_n 0, 1) := by decide +kernel
theorem dX7_clear_10 : decode cX7_clear 10 = .ok (.iconst 0, 1) := by decide +kernel
theorem dX7_clear_11 : decode cX7_clear 11 = .ok (.putfield 49, 3) := by decide +kernel
theorem dX7_clear_14 : decode cX7_clear 14 = .ok (.aload_n 0, 1) := by decide +kernel
theorem dX7_clear_15 : decode cX7_clear 15 = .ok (.iconst 0, 1) := by decide +kernel
theorem dX7_clear_16 : decode cX7_clear 16 = .ok (.putfield 53, 3) := by decide +kernel
theorem dX7_clear_19 : decode cX7_clear 19 = .ok (.aload_n 0, 1) := by decide +kernel
theorem dX7_clear_20 : decode cX7_clear 20 = .ok (.iconst 0, 1) := by decide +kernel
theorem dX7_clear_21 : decode cX7_clear 21 = .ok (.putfield 56, 3) := by decide +kernel
theorem dX7_clear_24 : decode cX7_clear 24 = .ok (.aload_n 0, 1) := by decide +kernel
theorem dX7_clear_25 : decode cX7_clear 25 = .ok (.iconst 0, 1) := by decide +kernel
theorem dX7_clear_26 : decode cX7_clear 26 = .ok (.putfield 59, 3) := by decide +kernel
theorem dX7_clear_29 : decode cX7_clear 29 = .ok (.return_, 1) := by decide +kernel
theorem dX7_hasAllRows_0 : decode cX7_hasAllRows 0 = .ok (.aload_n 0, 1) := by decide +kernel
theorem dX7_hasAllRows_1 : decode cX7_hasAllRows 1 = .ok (.invokevirtual 65, 3) := by decide +kernel
theorem dX7_hasAllRows_4 : decode cX7_hasAllRows 4 = .ok (.ifCond .eq 21, 3) := by decide +kernel
theorem dX7_hasAllRows_7 : decode cX7_hasAllRows 7 = .ok (.aload_n 0, 1) := by decide +kernel
theorem dX7_hasAllRows_8 : decode cX7_hasAllRows 8 = .ok (.getfield 49, 3) := by decide +kernel
theorem dX7_hasAllRows_11 : decode cX7_hasAllRows 11 = .ok (.aload_n 0, 1) := by decide +kernel
theorem dX7_hasAllRows_12 : decode cX7_hasAllRows 12 = .ok (.getfield 12, 3) := by decide +kernel
theorem dX7_hasAllRows_15 : decode cX7_hasAllRows 15 = .ok (.getfield 69, 3) := by decide +kernel
theorem dX7_hasAllRows_18 : decode cX7_hasAllRows 18 = .ok (.if_icmp .lt 7, 3) := by decide +kernel
theorem dX7_hasAllRows_21 : decode cX7_hasAllRows 21 = .ok (.iconst 1, 1) := by decide +kernel
theorem dX7_hasAllRows_22 : decode cX7_hasAllRows 22 = .ok (.goto 4, 3) := by decide +kernel
theorem dX7_hasAllRows_25 : decode cX7_hasAllRows 25 = .ok (.iconst 0, 1) := by decide +kernel
theorem dX7_hasAllRows_26 : decode cX7_hasAllRows 26 = .ok (.ireturn, 1) := by decide +kernel
theorem dX7_hasName_0 : decode cX7_hasName 0 = .ok (.iconst 0, 1) := by decide +kernel
theorem dX7_hasName_1 : decode cX7_hasName 1 = .ok (.istore_n 3, 1) := by decide +kernel
theorem dX7_hasName_2 : decode cX7_hasName 2 = .ok (.iload_n 3, 1) := by decide +kernel
theorem dX7_hasName_3 : decode cX7_hasName 3 = .ok (.aload_n 0, 1) := by decide +kernel
theorem dX7_hasName_4 : decode cX7_hasName 4 = .ok (.getfield 56, 3) := by decide +kernel
theorem dX7_hasName_7 : decode cX7_hasName 7 = .ok (.if_icmp .ge 22, 3) := by decide +kernel
theorem dX7_hasName_10 : decode cX7_hasName 10 = .ok (.aload_n 0, 1) := by decide +kernel
theorem dX7_hasName_11 : decode cX7_hasName 11 = .ok (.getfield 22, 3) := by decide +kernel
theorem dX7_hasName_14 : decode cX7_hasName 14 = .ok (.iload_n 3, 1) := by decide +kernel
theorem dX7_hasName_15 : decode cX7_hasName 15 = .ok (.laload, 1) := by decide +kernel
theorem dX7_hasName_16 : decode cX7_hasName 16 = .ok (.lload_n 1, 1) := by decide +kernel
theorem dX7_hasName_17 : decode cX7_hasName 17 = .ok (.lcmp, 1) := by decide +kernel
theorem dX7_hasName_18 : decode cX7_hasName 18 = .ok (.ifCond .ne 5, 3) := by decide +kernel
theorem dX7_hasName_21 : decode cX7_hasName 21 = .ok (.iconst 1, 1) := by decide +kernel
theorem dX7_hasName_22 : decode cX7_hasName 22 = .ok (.ireturn, 1) := by decide +kernel
theorem dX7_hasName_23 : decode cX7_hasName 23 = .ok (.iinc 3 1, 3) := by decide +kernel
theorem dX7_hasName_26 : decode cX7_hasName 26 = .ok (.goto (-24), 3) := by decide +kernel
theorem dX7_hasName_29 : decode cX7_hasName 29 = .ok (.iconst 0, 1) := by decide +kernel
theorem dX7_hasName_30 : decode cX7_hasName 30 = .ok (.ireturn, 1) := by decide +kernel
theorem dX7_init_0 : decode cX7_init 0 = .ok (.aload_n 0, 1) := by decide +kernel
theorem dX7_init_1 : decode cX7_init 1 = .ok (.invokespecial 3, 3) := by decide +kernel
theorem dX7_init_4 : decode cX7_init 4 = .ok (.aload_n 0, 1) := by decide +kernel
theorem dX7_init_5 : decode cX7_init 5 = .ok (.new 9, 3) := by decide +kernel
theorem dX7_init_8 : decode cX7_init 8 = .ok (.dup, 1) := by decide +kernel
theorem dX7_init_9 : decode cX7_init 9 = .ok (.invokespecial 11, 3) := by decide +kernel
theorem dX7_init_12 : decode cX7_init 12 = .ok (.putfield 12, 3) := by decide +kernel
theorem dX7_init_15 : decode cX7_init 15 = .ok (.aload_n 0, 1) := by decide +kernel
theorem dX7_init_16 : decode cX7_init 16 = .ok (.iconst 5, 1) := by decide +kernel
theorem dX7_init_17 : decode cX7_init 17 = .ok (.newarray .int, 2) := by decide +kernel
theorem dX7_init_19 : decode cX7_init 19 = .ok (.putfield 18, 3) := by decide +kernel
theorem dX7_init_22 : decode cX7_init 22 = .ok (.aload_n 0, 1) := by decide +kernel
theorem dX7_init_23 : decode cX7_init 23 = .ok (.iconst 4, 1) := by decide +kernel
theorem dX7_init_24 : decode cX7_init 24 = .ok (.newarray .long, 2) := by decide +kernel
theorem dX7_init_26 : decode cX7_init 26 = .ok (.putfield 22, 3) := by decide +kernel
theorem dX7_init_29 : decode cX7_init 29 = .ok (.aload_n 0, 1) := by decide +kernel
theorem dX7_init_30 : decode cX7_init 30 = .ok (.iconst 4, 1) := by decide +kernel
theorem dX7_init_31 : decode cX7_init 31 = .ok (.newarray .int, 2) := by decide +kernel
theorem dX7_init_33 : decode cX7_init 33 = .ok (.putfield 26, 3) := by decide +kernel
theorem dX7_init_36 : decode cX7_init 36 = .ok (.aload_n 0, 1) := by decide +kernel
theorem dX7_init_37 : decode cX7_init 37 = .ok (.iconst 4, 1) := by decide +kernel
theorem dX7_init_38 : decode cX7_init 38 = .ok (.newarray .int, 2) := by decide +kernel
theorem dX7_init_40 : decode cX7_init 40 = .ok (.putfield 29, 3) := by decide +kernel
theorem dX7_init_43 : decode cX7_init 43 = .ok (.aload_n 0, 1) := by decide +kernel
theorem dX7_init_44 : decode cX7_init 44 = .ok (.iconst 4, 1) := by decide +kernel
theorem dX7_init_45 : decode cX7_init 45 = .ok (.newarray .int, 2) := by decide +kernel
theorem dX7_init_47 : decode cX7_init 47 = .ok (.putfield 32, 3) := by decide +kernel
theorem dX7_init_50 : decode cX7_init 50 = .ok (.aload_n 0, 1) := by decide +kernel
theorem dX7_init_51 : decode cX7_init 51 = .ok (.bipush 6, 2) := by decide +kernel
theorem dX7_init_53 : decode cX7_init 53 = .ok (.newarray .int, 2) := by decide +kernel
theorem dX7_init_55 : decode cX7_init 55 = .ok (.putfield 35, 3) := by decide +kernel
theorem dX7_init_58 : decode cX7_init 58 = .ok (.aload_n 0, 1) := by decide +kernel
theorem dX7_init_59 : decode cX7_init 59 = .ok (.bipush 6, 2) := by decide +kernel
theorem dX7_init_61 : decode cX7_init 61 = .ok (.newarray .int, 2) := by decide +kernel
theorem dX7_init_63 : decode cX7_init 63 = .ok (.putfield 38, 3) := by decide +kernel
theorem dX7_init_66 : decode cX7_init 66 = .ok (.aload_n 0, 1) := by decide +kernel
theorem dX7_init_67 : decode cX7_init 67 = .ok (.bipush 6, 2) := by decide +kernel
theorem dX7_init_69 : decode cX7_init 69 = .ok (.newarray .boolean, 2) := by decide +kernel
theorem dX7_init_71 : decode cX7_init 71 = .ok (.putfield 41, 3) := by decide +kernel
theorem dX7_init_74 : decode cX7_init 74 = .ok (.return_, 1) := by decide +kernel
theorem dX7_isTold_0 : decode cX7_isTold 0 = .ok (.aload_n 0, 1) := by decide +kernel
theorem dX7_isTold_1 : decode cX7_isTold 1 = .ok (.getfield 12, 3) := by decide +kernel
theorem dX7_isTold_4 : decode cX7_isTold 4 = .ok (.getfield 62, 3) := by decide +kernel
theorem dX7_isTold_7 : decode cX7_isTold 7 = .ok (.ifCond .le 7, 3) := by decide +kernel
theorem dX7_isTold_10 : decode cX7_isTold 10 = .ok (.iconst 1, 1) := by decide +kernel
theorem dX7_isTold_11 : decode cX7_isTold 11 = .ok (.goto 4, 3) := by decide +kernel
theorem dX7_isTold_14 : decode cX7_isTold 14 = .ok (.iconst 0, 1) := by decide +kernel
theorem dX7_isTold_15 : decode cX7_isTold 15 = .ok (.ireturn, 1) := by decide +kernel
theorem dX7_isToldWrongly_0 : decode cX7_isToldWrongly 0 = .ok (.aload_n 0, 1) := by decide +kernel
theorem dX7_isToldWrongly_1 : decode cX7_isToldWrongly 1 = .ok (.getfield 12, 3) := by decide +kernel
theorem dX7_isToldWrongly_4 : decode cX7_isToldWrongly 4 = .ok (.aload_n 0, 1) := by decide +kernel
theorem dX7_isToldWrongly_5 : decode cX7_isToldWrongly 5 = .ok (.getfield 35, 3) := by decide +kernel
theorem dX7_isToldWrongly_8 : decode cX7_isToldWrongly 8 = .ok (.iload_n 1, 1) := by decide +kernel
theorem dX7_isToldWrongly_9 : decode cX7_isToldWrongly 9 = .ok (.iaload, 1) := by decide +kernel
theorem dX7_isToldWrongly_10 : decode cX7_isToldWrongly 10 = .ok (.aload_n 0, 1) := by decide +kernel
theorem dX7_isToldWrongly_11 : decode cX7_isToldWrongly 11 = .ok (.getfield 38, 3) := by decide +kernel
theorem dX7_isToldWrongly_14 : decode cX7_isToldWrongly 14 = .ok (.iload_n 1, 1) := by decide +kernel
theorem dX7_isToldWrongly_15 : decode cX7_isToldWrongly 15 = .ok (.iaload, 1) := by decide +kernel
theorem dX7_isToldWrongly_16 : decode cX7_isToldWrongly 16 = .ok (.invokevirtual 76, 3) := by decide +kernel
theorem dX7_isToldWrongly_19 : decode cX7_isToldWrongly 19 = .ok (.iload_n 2, 1) := by decide +kernel
theorem dX7_isToldWrongly_20 : decode cX7_isToldWrongly 20 = .ok (.iand, 1) := by decide +kernel
theorem dX7_isToldWrongly_21 : decode cX7_isToldWrongly 21 = .ok (.ifCond .eq 7, 3) := by decide +kernel
theorem dX7_isToldWrongly_24 : decode cX7_isToldWrongly 24 = .ok (.iconst 1, 1) := by decide +kernel
theorem dX7_isToldWrongly_25 : decode cX7_isToldWrongly 25 = .ok (.goto 4, 3) := by decide +kernel
theorem dX7_isToldWrongly_28 : decode cX7_isToldWrongly 28 = .ok (.iconst 0, 1) := by decide +kernel
theorem dX7_isToldWrongly_29 : decode cX7_isToldWrongly 29 = .ok (.istore_n 3, 1) := by decide +kernel
theorem dX7_isToldWrongly_30 : decode cX7_isToldWrongly 30 = .ok (.iload_n 3, 1) := by decide +kernel
theorem dX7_isToldWrongly_31 : decode cX7_isToldWrongly 31 = .ok (.aload_n 0, 1) := by decide +kernel
theorem dX7_isToldWrongly_32 : decode cX7_isToldWrongly 32 = .ok (.getfield 41, 3) := by decide +kernel
theorem dX7_isToldWrongly_35 : decode cX7_isToldWrongly 35 = .ok (.iload_n 1, 1) := by decide +kernel
theorem dX7_isToldWrongly_36 : decode cX7_isToldWrongly 36 = .ok (.baload, 1) := by decide +kernel
theorem dX7_isToldWrongly_37 : decode cX7_isToldWrongly 37 = .ok (.if_icmp .eq 7, 3) := by decide +kernel
theorem dX7_isToldWrongly_40 : decode cX7_isToldWrongly 40 = .ok (.iconst 1, 1) := by decide +kernel
theorem dX7_isToldWrongly_41 : decode cX7_isToldWrongly 41 = .ok (.goto 4, 3) := by decide +kernel
theorem dX7_isToldWrongly_44 : decode cX7_isToldWrongly 44 = .ok (.iconst 0, 1) := by decide +kernel
theorem dX7_isToldWrongly_45 : decode cX7_isToldWrongly 45 = .ok (.ireturn, 1) := by decide +kernel
theorem dX7_isUnsure_0 : decode cX7_isUnsure 0 = .ok (.aload_n 0, 1) := by decide +kernel
theorem dX7_isUnsure_1 : decode cX7_isUnsure 1 = .ok (.iconst 1, 1) := by decide +kernel
theorem dX7_isUnsure_2 : decode cX7_isUnsure 2 = .ok (.aload_n 0, 1) := by decide +kernel
theorem dX7_isUnsure_3 : decode cX7_isUnsure 3 = .ok (.getfield 53, 3) := by decide +kernel
theorem dX7_isUnsure_6 : decode cX7_isUnsure 6 = .ok (.ishl, 1) := by decide +kernel
theorem dX7_isUnsure_7 : decode cX7_isUnsure 7 = .ok (.iconst 1, 1) := by decide +kernel
theorem dX7_isUnsure_8 : decode cX7_isUnsure 8 = .ok (.isub, 1) := by decide +kernel
theorem dX7_isUnsure_9 : decode cX7_isUnsure 9 = .ok (.invokevirtual 72, 3) := by decide +kernel
theorem dX7_isUnsure_12 : decode cX7_isUnsure 12 = .ok (.iload_n 1, 1) := by decide +kernel
theorem dX7_isUnsure_13 : decode cX7_isUnsure 13 = .ok (.ishr, 1) := by decide +kernel
theorem dX7_isUnsure_14 : decode cX7_isUnsure 14 = .ok (.iconst 1, 1) := by decide +kernel
theorem dX7_isUnsure_15 : decode cX7_isUnsure 15 = .ok (.iand, 1) := by decide +kernel
theorem dX7_isUnsure_16 : decode cX7_isUnsure 16 = .ok (.iconst 1, 1) := by decide +kernel
theorem dX7_isUnsure_17 : decode cX7_isUnsure 17 = .ok (.if_icmp .ne 7, 3) := by decide +kernel
theorem dX7_isUnsure_20 : decode cX7_isUnsure 20 = .ok (.iconst 1, 1) := by decide +kernel
theorem dX7_isUnsure_21 : decode cX7_isUnsure 21 = .ok (.goto 4, 3) := by decide +kernel
theorem dX7_isUnsure_24 : decode cX7_isUnsure 24 = .ok (.iconst 0, 1) := by decide +kernel
theorem dX7_isUnsure_25 : decode cX7_isUnsure 25 = .ok (.ireturn, 1) := by decide +kernel
theorem dX7_unsureBits_0 : decode cX7_unsureBits 0 = .ok (.iconst 0, 1) := by decide +kernel
theorem dX7_unsureBits_1 : decode cX7_unsureBits 1 = .ok (.istore_n 2, 1) := by decide +kernel
theorem dX7_unsureBits_2 : decode cX7_unsureBits 2 = .ok (.iconst 0, 1) := by decide +kernel
theorem dX7_unsureBits_3 : decode cX7_unsureBits 3 = .ok (.istore_n 3, 1) := by decide +kernel
theorem dX7_unsureBits_4 : decode cX7_unsureBits 4 = .ok (.iload_n 3, 1) := by decide +kernel
theorem dX7_unsureBits_5 : decode cX7_unsureBits 5 = .ok (.aload_n 0, 1) := by decide +kernel
theorem dX7_unsureBits_6 : decode cX7_unsureBits 6 = .ok (.getfield 53, 3) := by decide +kernel
theorem dX7_unsureBits_9 : decode cX7_unsureBits 9 = .ok (.if_icmp .ge 29, 3) := by decide +kernel
theorem dX7_unsureBits_12 : decode cX7_unsureBits 12 = .ok (.iload_n 1, 1) := by decide +kernel
theorem dX7_unsureBits_13 : decode cX7_unsureBits 13 = .ok (.iload_n 3, 1) := by decide +kernel
theorem dX7_unsureBits_14 : decode cX7_unsureBits 14 = .ok (.ishr, 1) := by decide +kernel
theorem dX7_unsureBits_15 : decode cX7_unsureBits 15 = .ok (.iconst 1, 1) := by decide +kernel
theorem dX7_unsureBits_16 : decode cX7_unsureBits 16 = .ok (.iand, 1) := by decide +kernel
theorem dX7_unsureBits_17 : decode cX7_unsureBits 17 = .ok (.iconst 1, 1) := by decide +kernel
theorem dX7_unsureBits_18 : decode cX7_unsureBits 18 = .ok (.if_icmp .ne 14, 3) := by decide +kernel
theorem dX7_unsureBits_21 : decode cX7_unsureBits 21 = .ok (.iload_n 2, 1) := by decide +kernel
theorem dX7_unsureBits_22 : decode cX7_unsureBits 22 = .ok (.iconst 1, 1) := by decide +kernel
theorem dX7_unsureBits_23 : decode cX7_unsureBits 23 = .ok (.aload_n 0, 1) := by decide +kernel
theorem dX7_unsureBits_24 : decode cX7_unsureBits 24 = .ok (.getfield 18, 3) := by decide +kernel
theorem dX7_unsureBits_27 : decode cX7_unsureBits 27 = .ok (.iload_n 3, 1) := by decide +kernel
theorem dX7_unsureBits_28 : decode cX7_unsureBits 28 = .ok (.iaload, 1) := by decide +kernel
theorem dX7_unsureBits_29 : decode cX7_unsureBits 29 = .ok (.ishl, 1) := by decide +kernel
theorem dX7_unsureBits_30 : decode cX7_unsureBits 30 = .ok (.ior, 1) := by decide +kernel
theorem dX7_unsureBits_31 : decode cX7_unsureBits 31 = .ok (.istore_n 2, 1) := by decide +kernel
theorem dX7_unsureBits_32 : decode cX7_unsureBits 32 = .ok (.iinc 3 1, 3) := by decide +kernel
theorem dX7_unsureBits_35 : decode cX7_unsureBits 35 = .ok (.goto (-31), 3) := by decide +kernel
theorem dX7_unsureBits_38 : decode cX7_unsureBits 38 = .ok (.iload_n 2, 1) := by decide +kernel
theorem dX7_unsureBits_39 : decode cX7_unsureBits 39 = .ok (.ireturn, 1) := by decide +kernel
theorem dX8_fewest_0 : decode cX8_fewest 0 = .ok (.iconst 0, 1) := by decide +kernel
theorem dX8_fewest_1 : decode cX8_fewest 1 = .ok (.istore_n 2, 1) := by decide +kernel
theorem dX8_fewest_2 : decode cX8_fewest 2 = .ok (.iload_n 2, 1) := by decide +kernel
theorem dX8_fewest_3 : decode cX8_fewest 3 = .ok (.iconst 3, 1) := by decide +kernel
theorem dX8_fewest_4 : decode cX8_fewest 4 = .ok (.if_icmp .gt 27, 3) := by decide +kernel
theorem dX8_fewest_7 : decode cX8_fewest 7 = .ok (.aload_n 0, 1) := by decide +kernel
theorem dX8_fewest_8 : decode cX8_fewest 8 = .ok (.iload_n 1, 1) := by decide +kernel
theorem dX8_fewest_9 : decode cX8_fewest 9 = .ok (.iload_n 2, 1) := by decide +kernel
theorem dX8_fewest_10 : decode cX8_fewest 10 = .ok (.bipush 20, 2) := by decide +kernel
theorem dX8_fewest_12 : decode cX8_fewest 12 = .ok (.iconst 0, 1) := by decide +kernel
theorem dX8_fewest_13 : decode cX8_fewest 13 = .ok (.invokevirtual 11, 3) := by decide +kernel
theorem dX8_fewest_16 : decode cX8_fewest 16 = .ok (.istore_n 3, 1) := by decide +kernel
theorem dX8_fewest_17 : decode cX8_fewest 17 = .ok (.iload_n 3, 1) := by decide +kernel
theorem dX8_fewest_18 : decode cX8_fewest 18 = .ok (.bipush (-2), 2) := by decide +kernel
theorem dX8_fewest_20 : decode cX8_fewest 20 = .ok (.if_icmp .eq 5, 3) := by decide +kernel
theorem dX8_fewest_23 : decode cX8_fewest 23 = .ok (.iload_n 3, 1) := by decide +kernel
theorem dX8_fewest_24 : decode cX8_fewest 24 = .ok (.ireturn, 1) := by decide +kernel
theorem dX8_fewest_25 : decode cX8_fewest 25 = .ok (.iinc 2 1, 3) := by decide +kernel
theorem dX8_fewest_28 : decode cX8_fewest 28 = .ok (.goto (-26), 3) := by decide +kernel
theorem dX8_fewest_31 : decode cX8_fewest 31 = .ok (.bipush (-2), 2) := by decide +kernel
theorem dX8_fewest_33 : decode cX8_fewest 33 = .ok (.ireturn, 1) := by decide +kernel
theorem dX8_init_0 : decode cX8_init 0 = .ok (.aload_n 0, 1) := by decide +kernel
theorem dX8_init_1 : decode cX8_init 1 = .ok (.invokespecial 3, 3) := by decide +kernel
theorem dX8_init_4 : decode cX8_init 4 = .ok (.return_, 1) := by decide +kernel
theorem dX8_leastOf_0 : decode cX8_leastOf 0 = .ok (.iload_n 2, 1) := by decide +kernel
theorem dX8_leastOf_1 : decode cX8_leastOf 1 = .ok (.ifCond .gt 20, 3) := by decide +kernel
theorem dX8_leastOf_4 : decode cX8_leastOf 4 = .ok (.aload_n 0, 1) := by decide +kernel
theorem dX8_leastOf_5 : decode cX8_leastOf 5 = .ok (.iload 4, 2) := by decide +kernel
theorem dX8_leastOf_7 : decode cX8_leastOf 7 = .ok (.invokevirtual 15, 3) := by decide +kernel
theorem dX8_leastOf_10 : decode cX8_leastOf 10 = .ok (.ifCond .eq 8, 3) := by decide +kernel
theorem dX8_leastOf_13 : decode cX8_leastOf 13 = .ok (.iload 4, 2) := by decide +kernel
theorem dX8_leastOf_15 : decode cX8_leastOf 15 = .ok (.goto 5, 3) := by decide +kernel
theorem dX8_leastOf_18 : decode cX8_leastOf 18 = .ok (.bipush (-2), 2) := by decide +kernel
theorem dX8_leastOf_20 : decode cX8_leastOf 20 = .ok (.ireturn, 1) := by decide +kernel
theorem dX8_leastOf_21 : decode cX8_leastOf 21 = .ok (.iconst 0, 1) := by decide +kernel
theorem dX8_leastOf_22 : decode cX8_leastOf 22 = .ok (.istore 5, 2) := by decide +kernel
theorem dX8_leastOf_24 : decode cX8_leastOf 24 = .ok (.iload 5, 2) := by decide +kernel
theorem dX8_leastOf_26 : decode cX8_leastOf 26 = .ok (.iload_n 3, 1) := by decide +kernel
theorem dX8_leastOf_27 : decode cX8_leastOf 27 = .ok (.if_icmp .ge 48, 3) := by decide +kernel
theorem dX8_leastOf_30 : decode cX8_leastOf 30 = .ok (.iload_n 1, 1) := by decide +kernel
theorem dX8_leastOf_31 : decode cX8_leastOf 31 = .ok (.iload 5, 2) := by decide +kernel
theorem dX8_leastOf_33 : decode cX8_leastOf 33 = .ok (.ishr, 1) := by decide +kernel
theorem dX8_leastOf_34 : decode cX8_leastOf 34 = .ok (.iconst 1, 1) := by decide +kernel
theorem dX8_leastOf_35 : decode cX8_leastOf 35 = .ok (.iand, 1) := by decide +kernel
theorem dX8_leastOf_36 : decode cX8_leastOf 36 = .ok (.iconst 1, 1) := by decide +kernel
theorem dX8_leastOf_37 : decode cX8_leastOf 37 = .ok (.if_icmp .ne 32, 3) := by decide +kernel
theorem dX8_leastOf_40 : decode cX8_leastOf 40 = .ok (.aload_n 0, 1) := by decide +kernel
theorem dX8_leastOf_41 : decode cX8_leastOf 41 = .ok (.iload_n 1, 1) := by decide +kernel
theorem dX8_leastOf_42 : decode cX8_leastOf 42 = .ok (.iload_n 2, 1) := by decide +kernel
theorem dX8_leastOf_43 : decode cX8_leastOf 43 = .ok (.iconst 1, 1) := by decide +kernel
theorem dX8_leastOf_44 : decode cX8_leastOf 44 = .ok (.isub, 1) := by decide +kernel
theorem dX8_leastOf_45 : decode cX8_leastOf 45 = .ok (.iload 5, 2) := by decide +kernel
theorem dX8_leastOf_47 : decode cX8_leastOf 47 = .ok (.iload 4, 2) := by decide +kernel
theorem dX8_leastOf_49 : decode cX8_leastOf 49 = .ok (.iconst 1, 1) := by decide +kernel
theorem dX8_leastOf_50 : decode cX8_leastOf 50 = .ok (.iload 5, 2) := by decide +kernel
theorem dX8_leastOf_52 : decode cX8_leastOf 52 = .ok (.ishl, 1) := by decide +kernel
theorem dX8_leastOf_53 : decode cX8_leastOf 53 = .ok (.ior, 1) := by decide +kernel
theorem dX8_leastOf_54 : decode cX8_leastOf 54 = .ok (.invokevirtual 11, 3) := by decide +kernel
theorem dX8_leastOf_57 : decode cX8_leastOf 57 = .ok (.istore 6, 2) := by decide +kernel
theorem dX8_leastOf_59 : decode cX8_leastOf 59 = .ok (.iload 6, 2) := by decide +kernel
theorem dX8_leastOf_61 : decode cX8_leastOf 61 = .ok (.bipush (-2), 2) := by decide +kernel
theorem dX8_leastOf_63 : decode cX8_leastOf 63 = .ok (.if_icmp .eq 6, 3) := by decide +kernel
theorem dX8_leastOf_66 : decode cX8_leastOf 66 = .ok (.iload 6, 2) := by decide +kernel
theorem dX8_leastOf_68 : decode cX8_leastOf 68 = .ok (.ireturn, 1) := by decide +kernel
theorem dX8_leastOf_69 : decode cX8_leastOf 69 = .ok (.iinc 5 1, 3) := by decide +kernel
theorem dX8_leastOf_72 : decode cX8_leastOf 72 = .ok (.goto (-48), 3) := by decide +kernel
theorem dX8_leastOf_75 : decode cX8_leastOf 75 = .ok (.bipush (-2), 2) := by decide +kernel
theorem dX8_leastOf_77 : decode cX8_leastOf 77 = .ok (.ireturn, 1) := by decide +kernel
theorem dX9_append_0 : decode cX9_append 0 = .ok (.aload_n 0, 1) := by decide +kernel
theorem dX9_append_1 : decode cX9_append 1 = .ok (.getfield 15, 3) := by decide +kernel
theorem dX9_append_4 : decode cX9_append 4 = .ok (.iconst 4, 1) := by decide +kernel
theorem dX9_append_5 : decode cX9_append 5 = .ok (.iadd, 1) := by decide +kernel
theorem dX9_append_6 : decode cX9_append 6 = .ok (.sipush 800, 3) := by decide +kernel
theorem dX9_append_9 : decode cX9_append 9 = .ok (.if_icmp .gt 72, 3) := by decide +kernel
theorem dX9_append_12 : decode cX9_append 12 = .ok (.aload_n 0, 1) := by decide +kernel
theorem dX9_append_13 : decode cX9_append 13 = .ok (.getfield 11, 3) := by decide +kernel
theorem dX9_append_16 : decode cX9_append 16 = .ok (.aload_n 0, 1) := by decide +kernel
theorem dX9_append_17 : decode cX9_append 17 = .ok (.getfield 15, 3) := by decide +kernel
theorem dX9_append_20 : decode cX9_append 20 = .ok (.iload_n 1, 1) := by decide +kernel
theorem dX9_append_21 : decode cX9_append 21 = .ok (.bipush 24, 2) := by decide +kernel
theorem dX9_append_23 : decode cX9_append 23 = .ok (.ishr, 1) := by decide +kernel
theorem dX9_append_24 : decode cX9_append 24 = .ok (.i2b, 1) := by decide +kernel
theorem dX9_append_25 : decode cX9_append 25 = .ok (.bastore, 1) := by decide +kernel
theorem dX9_append_26 : decode cX9_append 26 = .ok (.aload_n 0, 1) := by decide +kernel
theorem dX9_append_27 : decode cX9_append 27 = .ok (.getfield 11, 3) := by decide +kernel
theorem dX9_append_30 : decode cX9_append 30 = .ok (.aload_n 0, 1) := by decide +kernel
theorem dX9_append_31 : decode cX9_append 31 = .ok (.getfield 15, 3) := by decide +kernel
theorem dX9_append_34 : decode cX9_append 34 = .ok (.iconst 1, 1) := by decide +kernel
theorem dX9_append_35 : decode cX9_append 35 = .ok (.iadd, 1) := by decide +kernel
theorem dX9_append_36 : decode cX9_append 36 = .ok (.iload_n 1, 1) := by decide +kernel
theorem dX9_append_37 : decode cX9_append 37 = .ok (.bipush 16, 2) := by decide +kernel
theorem dX9_append_39 : decode cX9_append 39 = .ok (.ishr, 1) := by decide +kernel
theorem dX9_append_40 : decode cX9_append 40 = .ok (.i2b, 1) := by decide +kernel
theorem dX9_append_41 : decode cX9_append 41 = .ok (.bastore, 1) := by decide +kernel
theorem dX9_append_42 : decode cX9_append 42 = .ok (.aload_n 0, 1) := by decide +kernel
theorem dX9_append_43 : decode cX9_append 43 = .ok (.getfield 11, 3) := by decide +kernel
theorem dX9_append_46 : decode cX9_append 46 = .ok (.aload_n 0, 1) := by decide +kernel
theorem dX9_append_47 : decode cX9_append 47 = .ok (.getfield 15, 3) := by decide +kernel
theorem dX9_append_50 : decode cX9_append 50 = .ok (.iconst 2, 1) := by decide +kernel
theorem dX9_append_51 : decode cX9_append 51 = .ok (.iadd, 1) := by decide +kernel
theorem dX9_append_52 : decode cX9_append 52 = .ok (.iload_n 1, 1) := by decide +kernel
theorem dX9_append_53 : decode cX9_append 53 = .ok (.bipush 8, 2) := by decide +kernel
theorem dX9_append_55 : decode cX9_append 55 = .ok (.ishr, 1) := by decide +kernel
theorem dX9_append_56 : decode cX9_append 56 = .ok (.i2b, 1) := by decide +kernel
theorem dX9_append_57 : decode cX9_append 57 = .ok (.bastore, 1) := by decide +kernel
theorem dX9_append_58 : decode cX9_append 58 = .ok (.aload_n 0, 1) := by decide +kernel
theorem dX9_append_59 : decode cX9_append 59 = .ok (.getfield 11, 3) := by decide +kernel
theorem dX9_append_62 : decode cX9_append 62 = .ok (.aload_n 0, 1) := by decide +kernel
theorem dX9_append_63 : decode cX9_append 63 = .ok (.getfield 15, 3) := by decide +kernel
theorem dX9_append_66 : decode cX9_append 66 = .ok (.iconst 3, 1) := by decide +kernel
theorem dX9_append_67 : decode cX9_append 67 = .ok (.iadd, 1) := by decide +kernel
theorem dX9_append_68 : decode cX9_append 68 = .ok (.iload_n 1, 1) := by decide +kernel
theorem dX9_append_69 : decode cX9_append 69 = .ok (.i2b, 1) := by decide +kernel
theorem dX9_append_70 : decode cX9_append 70 = .ok (.bastore, 1) := by decide +kernel
theorem dX9_append_71 : decode cX9_append 71 = .ok (.aload_n 0, 1) := by decide +kernel
theorem dX9_append_72 : decode cX9_append 72 = .ok (.dup, 1) := by decide +kernel
theorem dX9_append_73 : decode cX9_append 73 = .ok (.getfield 15, 3) := by decide +kernel
theorem dX9_append_76 : decode cX9_append 76 = .ok (.iconst 4, 1) := by decide +kernel
theorem dX9_append_77 : decode cX9_append 77 = .ok (.iadd, 1) := by decide +kernel
theorem dX9_append_78 : decode cX9_append 78 = .ok (.putfield 15, 3) := by decide +kernel
theorem dX9_append_81 : decode cX9_append 81 = .ok (.return_, 1) := by decide +kernel
theorem dX9_hasRoom_0 : decode cX9_hasRoom 0 = .ok (.aload_n 0, 1) := by decide +kernel
theorem dX9_hasRoom_1 : decode cX9_hasRoom 1 = .ok (.getfield 15, 3) := by decide +kernel
theorem dX9_hasRoom_4 : decode cX9_hasRoom 4 = .ok (.bipush 20, 2) := by decide +kernel
theorem dX9_hasRoom_6 : decode cX9_hasRoom 6 = .ok (.iadd, 1) := by decide +kernel
theorem dX9_hasRoom_7 : decode cX9_hasRoom 7 = .ok (.sipush 800, 3) := by decide +kernel
theorem dX9_hasRoom_10 : decode cX9_hasRoom 10 = .ok (.if_icmp .gt 7, 3) := by decide +kernel
theorem dX9_hasRoom_13 : decode cX9_hasRoom 13 = .ok (.iconst 1, 1) := by decide +kernel
theorem dX9_hasRoom_14 : decode cX9_hasRoom 14 = .ok (.goto 4, 3) := by decide +kernel
theorem dX9_hasRoom_17 : decode cX9_hasRoom 17 = .ok (.iconst 0, 1) := by decide +kernel
theorem dX9_hasRoom_18 : decode cX9_hasRoom 18 = .ok (.ireturn, 1) := by decide +kernel
theorem dX9_init_0 : decode cX9_init 0 = .ok (.aload_n 0, 1) := by decide +kernel
theorem dX9_init_1 : decode cX9_init 1 = .ok (.invokespecial 3, 3) := by decide +kernel
theorem dX9_init_4 : decode cX9_init 4 = .ok (.aload_n 0, 1) := by decide +kernel
theorem dX9_init_5 : decode cX9_init 5 = .ok (.sipush 800, 3) := by decide +kernel
theorem dX9_init_8 : decode cX9_init 8 = .ok (.newarray .byte, 2) := by decide +kernel
theorem dX9_init_10 : decode cX9_init 10 = .ok (.putfield 11, 3) := by decide +kernel
theorem dX9_init_13 : decode cX9_init 13 = .ok (.return_, 1) := by decide +kernel
theorem dX9_isRow_0 : decode cX9_isRow 0 = .ok (.aload_n 0, 1) := by decide +kernel
theorem dX9_isRow_1 : decode cX9_isRow 1 = .ok (.getfield 66, 3) := by decide +kernel
theorem dX9_isRow_4 : decode cX9_isRow 4 = .ok (.iconst 1, 1) := by decide +kernel
theorem dX9_isRow_5 : decode cX9_isRow 5 = .ok (.if_icmp .ne 16, 3) := by decide +kernel
theorem dX9_isRow_8 : decode cX9_isRow 8 = .ok (.aload_n 0, 1) := by decide +kernel
theorem dX9_isRow_9 : decode cX9_isRow 9 = .ok (.getfield 28, 3) := by decide +kernel
theorem dX9_isRow_12 : decode cX9_isRow 12 = .ok (.aload_n 0, 1) := by decide +kernel
theorem dX9_isRow_13 : decode cX9_isRow 13 = .ok (.getfield 119, 3) := by decide +kernel
theorem dX9_isRow_16 : decode cX9_isRow 16 = .ok (.isub, 1) := by decide +kernel
theorem dX9_isRow_17 : decode cX9_isRow 17 = .ok (.iload_n 1, 1) := by decide +kernel
theorem dX9_isRow_18 : decode cX9_isRow 18 = .ok (.if_icmp .eq 5, 3) := by decide +kernel
theorem dX9_isRow_21 : decode cX9_isRow 21 = .ok (.iconst 0, 1) := by decide +kernel
theorem dX9_isRow_22 : decode cX9_isRow 22 = .ok (.ireturn, 1) := by decide +kernel
theorem dX9_isRow_23 : decode cX9_isRow 23 = .ok (.aload_n 0, 1) := by decide +kernel
theorem dX9_isRow_24 : decode cX9_isRow 24 = .ok (.getfield 119, 3) := by decide +kernel
theorem dX9_isRow_27 : decode cX9_isRow 27 = .ok (.istore_n 2, 1) := by decide +kernel
theorem dX9_isRow_28 : decode cX9_isRow 28 = .ok (.iload_n 2, 1) := by decide +kernel
theorem dX9_isRow_29 : decode cX9_isRow 29 = .ok (.aload_n 0, 1) := by decide +kernel
theorem dX9_isRow_30 : decode cX9_isRow 30 = .ok (.getfield 28, 3) := by decide +kernel
theorem dX9_isRow_33 : decode cX9_isRow 33 = .ok (.if_icmp .ge 26, 3) := by decide +kernel
theorem dX9_isRow_36 : decode cX9_isRow 36 = .ok (.ldc 117, 2) := by decide +kernel
theorem dX9_isRow_38 : decode cX9_isRow 38 = .ok (.aload_n 0, 1) := by decide +kernel
theorem dX9_isRow_39 : decode cX9_isRow 39 = .ok (.getfield 11, 3) := by decide +kernel
theorem dX9_isRow_42 : decode cX9_isRow 42 = .ok (.iload_n 2, 1) := by decide +kernel
theorem dX9_isRow_43 : decode cX9_isRow 43 = .ok (.baload, 1) := by decide +kernel
theorem dX9_isRow_44 : decode cX9_isRow 44 = .ok (.i2c, 1) := by decide +kernel
theorem dX9_isRow_45 : decode cX9_isRow 45 = .ok (.invokevirtual 122, 3) := by decide +kernel
theorem dX9_isRow_48 : decode cX9_isRow 48 = .ok (.ifCond .ge 5, 3) := by decide +kernel
theorem dX9_isRow_51 : decode cX9_isRow 51 = .ok (.iconst 0, 1) := by decide +kernel
theorem dX9_isRow_52 : decode cX9_isRow 52 = .ok (.ireturn, 1) := by decide +kernel
theorem dX9_isRow_53 : decode cX9_isRow 53 = .ok (.iinc 2 1, 3) := by decide +kernel
theorem dX9_isRow_56 : decode cX9_isRow 56 = .ok (.goto (-28), 3) := by decide +kernel
theorem dX9_isRow_59 : decode cX9_isRow 59 = .ok (.iconst 1, 1) := by decide +kernel
theorem dX9_isRow_60 : decode cX9_isRow 60 = .ok (.ireturn, 1) := by decide +kernel
theorem dX9_isWord_0 : decode cX9_isWord 0 = .ok (.aload_n 0, 1) := by decide +kernel
theorem dX9_isWord_1 : decode cX9_isWord 1 = .ok (.getfield 66, 3) := by decide +kernel
theorem dX9_isWord_4 : decode cX9_isWord 4 = .ok (.iconst 1, 1) := by decide +kernel
theorem dX9_isWord_5 : decode cX9_isWord 5 = .ok (.if_icmp .ne 19, 3) := by decide +kernel
theorem dX9_isWord_8 : decode cX9_isWord 8 = .ok (.aload_n 0, 1) := by decide +kernel
theorem dX9_isWord_9 : decode cX9_isWord 9 = .ok (.getfield 28, 3) := by decide +kernel
theorem dX9_isWord_12 : decode cX9_isWord 12 = .ok (.aload_n 0, 1) := by decide +kernel
theorem dX9_isWord_13 : decode cX9_isWord 13 = .ok (.getfield 119, 3) := by decide +kernel
theorem dX9_isWord_16 : decode cX9_isWord 16 = .ok (.isub, 1) := by decide +kernel
theorem dX9_isWord_17 : decode cX9_isWord 17 = .ok (.aload_n 1, 1) := by decide +kernel
theorem dX9_isWord_18 : decode cX9_isWord 18 = .ok (.invokevirtual 219, 3) := by decide +kernel
theorem dX9_isWord_21 : decode cX9_isWord 21 = .ok (.if_icmp .eq 5, 3) := by decide +kernel
theorem dX9_isWord_24 : decode cX9_isWord 24 = .ok (.iconst 0, 1) := by decide +kernel
theorem dX9_isWord_25 : decode cX9_isWord 25 = .ok (.ireturn, 1) := by decide +kernel
theorem dX9_isWord_26 : decode cX9_isWord 26 = .ok (.iconst 0, 1) := by decide +kernel
theorem dX9_isWord_27 : decode cX9_isWord 27 = .ok (.istore_n 2, 1) := by decide +kernel
theorem dX9_isWord_28 : decode cX9_isWord 28 = .ok (.iload_n 2, 1) := by decide +kernel
theorem dX9_isWord_29 : decode cX9_isWord 29 = .ok (.aload_n 1, 1) := by decide +kernel
theorem dX9_isWord_30 : decode cX9_isWord 30 = .ok (.invokevirtual 219, 3) := by decide +kernel
theorem dX9_isWord_33 : decode cX9_isWord 33 = .ok (.if_icmp .ge 30, 3) := by decide +kernel
theorem dX9_isWord_36 : decode cX9_isWord 36 = .ok (.aload_n 0, 1) := by decide +kernel
theorem dX9_isWord_37 : decode cX9_isWord 37 = .ok (.getfield 11, 3) := by decide +kernel
theorem dX9_isWord_40 : decode cX9_isWord 40 = .ok (.aload_n 0, 1) := by decide +kernel
theorem dX9_isWord_41 : decode cX9_isWord 41 = .ok (.getfield 119, 3) := by decide +kernel
theorem dX9_isWord_44 : decode cX9_isWord 44 = .ok (.iload_n 2, 1) := by decide +kernel
theorem dX9_isWord_45 : decode cX9_isWord 45 = .ok (.iadd, 1) := by decide +kernel
theorem dX9_isWord_46 : decode cX9_isWord 46 = .ok (.baload, 1) := by decide +kernel
theorem dX9_isWord_47 : decode cX9_isWord 47 = .ok (.aload_n 1, 1) := by decide +kernel
theorem dX9_isWord_48 : decode cX9_isWord 48 = .ok (.iload_n 2, 1) := by decide +kernel
theorem dX9_isWord_49 : decode cX9_isWord 49 = .ok (.invokevirtual 221, 3) := by decide +kernel
theorem dX9_isWord_52 : decode cX9_isWord 52 = .ok (.if_icmp .eq 5, 3) := by decide +kernel
theorem dX9_isWord_55 : decode cX9_isWord 55 = .ok (.iconst 0, 1) := by decide +kernel
theorem dX9_isWord_56 : decode cX9_isWord 56 = .ok (.ireturn, 1) := by decide +kernel
theorem dX9_isWord_57 : decode cX9_isWord 57 = .ok (.iinc 2 1, 3) := by decide +kernel
theorem dX9_isWord_60 : decode cX9_isWord 60 = .ok (.goto (-32), 3) := by decide +kernel
theorem dX9_isWord_63 : decode cX9_isWord 63 = .ok (.iconst 1, 1) := by decide +kernel
theorem dX9_isWord_64 : decode cX9_isWord 64 = .ok (.ireturn, 1) := by decide +kernel
theorem dX9_kindOfWord_0 : decode cX9_kindOfWord 0 = .ok (.aload_n 0, 1) := by decide +kernel
theorem dX9_kindOfWord_1 : decode cX9_kindOfWord 1 = .ok (.ldc 211, 2) := by decide +kernel
theorem dX9_kindOfWord_3 : decode cX9_kindOfWord 3 = .ok (.invokevirtual 183, 3) := by decide +kernel
theorem dX9_kindOfWord_6 : decode cX9_kindOfWord 6 = .ok (.ifCond .eq 5, 3) := by decide +kernel
theorem dX9_kindOfWord_9 : decode cX9_kindOfWord 9 = .ok (.iconst 0, 1) := by decide +kernel
theorem dX9_kindOfWord_10 : decode cX9_kindOfWord 10 = .ok (.ireturn, 1) := by decide +kernel
theorem dX9_kindOfWord_11 : decode cX9_kindOfWord 11 = .ok (.aload_n 0, 1) := by decide +kernel
theorem dX9_kindOfWord_12 : decode cX9_kindOfWord 12 = .ok (.ldc 213, 2) := by decide +kernel
theorem dX9_kindOfWord_14 : decode cX9_kindOfWord 14 = .ok (.invokevirtual 183, 3) := by decide +kernel
theorem dX9_kindOfWord_17 : decode cX9_kindOfWord 17 = .ok (.ifCond .eq 5, 3) := by decide +kernel
theorem dX9_kindOfWord_20 : decode cX9_kindOfWord 20 = .ok (.iconst 1, 1) := by decide +kernel
theorem dX9_kindOfWord_21 : decode cX9_kindOfWord 21 = .ok (.ireturn, 1) := by decide +kernel
theorem dX9_kindOfWord_22 : decode cX9_kindOfWord 22 = .ok (.aload_n 0, 1) := by decide +kernel
theorem dX9_kindOfWord_23 : decode cX9_kindOfWord 23 = .ok (.ldc 215, 2) := by decide +kernel
theorem dX9_kindOfWord_25 : decode cX9_kindOfWord 25 = .ok (.invokevirtual 183, 3) := by decide +kernel
theorem dX9_kindOfWord_28 : decode cX9_kindOfWord 28 = .ok (.ifCond .eq 5, 3) := by decide +kernel
theorem dX9_kindOfWord_31 : decode cX9_kindOfWord 31 = .ok (.iconst 2, 1) := by decide +kernel
theorem dX9_kindOfWord_32 : decode cX9_kindOfWord 32 = .ok (.ireturn, 1) := by decide +kernel
theorem dX9_kindOfWord_33 : decode cX9_kindOfWord 33 = .ok (.aload_n 0, 1) := by decide +kernel
theorem dX9_kindOfWord_34 : decode cX9_kindOfWord 34 = .ok (.ldc 217, 2) := by decide +kernel
theorem dX9_kindOfWord_36 : decode cX9_kindOfWord 36 = .ok (.invokevirtual 183, 3) := by decide +kernel
theorem dX9_kindOfWord_39 : decode cX9_kindOfWord 39 = .ok (.ifCond .eq 7, 3) := by decide +kernel
theorem dX9_kindOfWord_42 : decode cX9_kindOfWord 42 = .ok (.iconst 3, 1) := by decide +kernel
theorem dX9_kindOfWord_43 : decode cX9_kindOfWord 43 = .ok (.goto 4, 3) := by decide +kernel
theorem dX9_kindOfWord_46 : decode cX9_kindOfWord 46 = .ok (.iconst (-1), 1) := by decide +kernel
theorem dX9_kindOfWord_47 : decode cX9_kindOfWord 47 = .ok (.ireturn, 1) := by decide +kernel
theorem dX9_lineWord_0 : decode cX9_lineWord 0 = .ok (.aload_n 0, 1) := by decide +kernel
theorem dX9_lineWord_1 : decode cX9_lineWord 1 = .ok (.ldc 203, 2) := by decide +kernel
theorem dX9_lineWord_3 : decode cX9_lineWord 3 = .ok (.invokevirtual 183, 3) := by decide +kernel
theorem dX9_lineWord_6 : decode cX9_lineWord 6 = .ok (.ifCond .eq 5, 3) := by decide +kernel
theorem dX9_lineWord_9 : decode cX9_lineWord 9 = .ok (.iconst 0, 1) := by decide +kernel
theorem dX9_lineWord_10 : decode cX9_lineWord 10 = .ok (.ireturn, 1) := by decide +kernel
theorem dX9_lineWord_11 : decode cX9_lineWord 11 = .ok (.aload_n 0, 1) := by decide +kernel
theorem dX9_lineWord_12 : decode cX9_lineWord 12 = .ok (.ldc 205, 2) := by decide +kernel
theorem dX9_lineWord_14 : decode cX9_lineWord 14 = .ok (.invokevirtual 183, 3) := by decide +kernel
theorem dX9_lineWord_17 : decode cX9_lineWord 17 = .ok (.ifCond .eq 5, 3) := by decide +kernel
theorem dX9_lineWord_20 : decode cX9_lineWord 20 = .ok (.iconst 1, 1) := by decide +kernel
theorem dX9_lineWord_21 : decode cX9_lineWord 21 = .ok (.ireturn, 1) := by decide +kernel
theorem dX9_lineWord_22 : decode cX9_lineWord 22 = .ok (.aload_n 0, 1) := by decide +kernel
theorem dX9_lineWord_23 : decode cX9_lineWord 23 = .ok (.ldc 207, 2) := by decide +kernel
theorem dX9_lineWord_25 : decode cX9_lineWord 25 = .ok (.invokevirtual 183, 3) := by decide +kernel
theorem dX9_lineWord_28 : decode cX9_lineWord 28 = .ok (.ifCond .eq 5, 3) := by decide +kernel
theorem dX9_lineWord_31 : decode cX9_lineWord 31 = .ok (.iconst 2, 1) := by decide +kernel
theorem dX9_lineWord_32 : decode cX9_lineWord 32 = .ok (.ireturn, 1) := by decide +kernel
theorem dX9_lineWord_33 : decode cX9_lineWord 33 = .ok (.aload_n 0, 1) := by decide +kernel
theorem dX9_lineWord_34 : decode cX9_lineWord 34 = .ok (.ldc 209, 2) := by decide +kernel
theorem dX9_lineWord_36 : decode cX9_lineWord 36 = .ok (.invokevirtual 183, 3) := by decide +kernel
theorem dX9_lineWord_39 : decode cX9_lineWord 39 = .ok (.ifCond .eq 7, 3) := by decide +kernel
theorem dX9_lineWord_42 : decode cX9_lineWord 42 = .ok (.iconst 3, 1) := by decide +kernel
theorem dX9_lineWord_43 : decode cX9_lineWord 43 = .ok (.goto 4, 3) := by decide +kernel
theorem dX9_lineWord_46 : decode cX9_lineWord 46 = .ok (.iconst (-1), 1) := by decide +kernel
theorem dX9_lineWord_47 : decode cX9_lineWord 47 = .ok (.ireturn, 1) := by decide +kernel
theorem dX9_nameCode_0 : decode cX9_nameCode 0 = .ok (.lconst 0, 1) := by decide +kernel
theorem dX9_nameCode_1 : decode cX9_nameCode 1 = .ok (.lstore_n 1, 1) := by decide +kernel
theorem dX9_nameCode_2 : decode cX9_nameCode 2 = .ok (.aload_n 0, 1) := by decide +kernel
theorem dX9_nameCode_3 : decode cX9_nameCode 3 = .ok (.getfield 119, 3) := by decide +kernel
theorem dX9_nameCode_6 : decode cX9_nameCode 6 = .ok (.istore_n 3, 1) := by decide +kernel
theorem dX9_nameCode_7 : decode cX9_nameCode 7 = .ok (.iload_n 3, 1) := by decide +kernel
theorem dX9_nameCode_8 : decode cX9_nameCode 8 = .ok (.aload_n 0, 1) := by decide +kernel
theorem dX9_nameCode_9 : decode cX9_nameCode 9 = .ok (.getfield 28, 3) := by decide +kernel
theorem dX9_nameCode_12 : decode cX9_nameCode 12 = .ok (.if_icmp .ge 28, 3) := by decide +kernel
theorem dX9_nameCode_15 : decode cX9_nameCode 15 = .ok (.lload_n 1, 1) := by decide +kernel
theorem dX9_nameCode_16 : decode cX9_nameCode 16 = .ok (.ldc2_w 225, 3) := by decide +kernel
theorem dX9_nameCode_19 : decode cX9_nameCode 19 = .ok (.lmul, 1) := by decide +kernel
theorem dX9_nameCode_20 : decode cX9_nameCode 20 = .ok (.aload_n 0, 1) := by decide +kernel
theorem dX9_nameCode_21 : decode cX9_nameCode 21 = .ok (.getfield 11, 3) := by decide +kernel
theorem dX9_nameCode_24 : decode cX9_nameCode 24 = .ok (.iload_n 3, 1) := by decide +kernel
theorem dX9_nameCode_25 : decode cX9_nameCode 25 = .ok (.baload, 1) := by decide +kernel
theorem dX9_nameCode_26 : decode cX9_nameCode 26 = .ok (.bipush 97, 2) := by decide +kernel
theorem dX9_nameCode_28 : decode cX9_nameCode 28 = .ok (.isub, 1) := by decide +kernel
theorem dX9_nameCode_29 : decode cX9_nameCode 29 = .ok (.iconst 1, 1) := by decide +kernel
theorem dX9_nameCode_30 : decode cX9_nameCode 30 = .ok (.iadd, 1) := by decide +kernel
theorem dX9_nameCode_31 : decode cX9_nameCode 31 = .ok (.i2l, 1) := by decide +kernel
theorem dX9_nameCode_32 : decode cX9_nameCode 32 = .ok (.ladd, 1) := by decide +kernel
theorem dX9_nameCode_33 : decode cX9_nameCode 33 = .ok (.lstore_n 1, 1) := by decide +kernel
theorem dX9_nameCode_34 : decode cX9_nameCode 34 = .ok (.iinc 3 1, 3) := by decide +kernel
theorem dX9_nameCode_37 : decode cX9_nameCode 37 = .ok (.goto (-30), 3) := by decide +kernel
theorem dX9_nameCode_40 : decode cX9_nameCode 40 = .ok (.lload_n 1, 1) := by decide +kernel
theorem dX9_nameCode_41 : decode cX9_nameCode 41 = .ok (.lreturn, 1) := by decide +kernel
theorem dX9_next_0 : decode cX9_next 0 = .ok (.aload_n 0, 1) := by decide +kernel
theorem dX9_next_1 : decode cX9_next 1 = .ok (.aload_n 0, 1) := by decide +kernel
theorem dX9_next_2 : decode cX9_next 2 = .ok (.aload_n 0, 1) := by decide +kernel
theorem dX9_next_3 : decode cX9_next 3 = .ok (.getfield 28, 3) := by decide +kernel
theorem dX9_next_6 : decode cX9_next 6 = .ok (.bipush 32, 2) := by decide +kernel
theorem dX9_next_8 : decode cX9_next 8 = .ok (.bipush 32, 2) := by decide +kernel
theorem dX9_next_10 : decode cX9_next 10 = .ok (.invokevirtual 227, 3) := by decide +kernel
theorem dX9_next_13 : decode cX9_next 13 = .ok (.putfield 119, 3) := by decide +kernel
theorem dX9_next_16 : decode cX9_next 16 = .ok (.aload_n 0, 1) := by decide +kernel
theorem dX9_next_17 : decode cX9_next 17 = .ok (.aload_n 0, 1) := by decide +kernel
theorem dX9_next_18 : decode cX9_next 18 = .ok (.getfield 119, 3) := by decide +kernel
theorem dX9_next_21 : decode cX9_next 21 = .ok (.bipush 97, 2) := by decide +kernel
theorem dX9_next_23 : decode cX9_next 23 = .ok (.bipush 122, 2) := by decide +kernel
theorem dX9_next_25 : decode cX9_next 25 = .ok (.invokevirtual 227, 3) := by decide +kernel
theorem dX9_next_28 : decode cX9_next 28 = .ok (.aload_n 0, 1) := by decide +kernel
theorem dX9_next_29 : decode cX9_next 29 = .ok (.getfield 119, 3) := by decide +kernel
theorem dX9_next_32 : decode cX9_next 32 = .ok (.isub, 1) := by decide +kernel
theorem dX9_next_33 : decode cX9_next 33 = .ok (.istore_n 1, 1) := by decide +kernel
theorem dX9_next_34 : decode cX9_next 34 = .ok (.aload_n 0, 1) := by decide +kernel
theorem dX9_next_35 : decode cX9_next 35 = .ok (.aload_n 0, 1) := by decide +kernel
theorem dX9_next_36 : decode cX9_next 36 = .ok (.getfield 119, 3) := by decide +kernel
theorem dX9_next_39 : decode cX9_next 39 = .ok (.bipush 48, 2) := by decide +kernel
theorem dX9_next_41 : decode cX9_next 41 = .ok (.bipush 57, 2) := by decide +kernel
theorem dX9_next_43 : decode cX9_next 43 = .ok (.invokevirtual 227, 3) := by decide +kernel
theorem dX9_next_46 : decode cX9_next 46 = .ok (.aload_n 0, 1) := by decide +kernel
theorem dX9_next_47 : decode cX9_next 47 = .ok (.getfield 119, 3) := by decide +kernel
theorem dX9_next_50 : decode cX9_next 50 = .ok (.isub, 1) := by decide +kernel
theorem dX9_next_51 : decode cX9_next 51 = .ok (.istore_n 2, 1) := by decide +kernel
theorem dX9_next_52 : decode cX9_next 52 = .ok (.aload_n 0, 1) := by decide +kernel
theorem dX9_next_53 : decode cX9_next 53 = .ok (.aload_n 0, 1) := by decide +kernel
theorem dX9_next_54 : decode cX9_next 54 = .ok (.getfield 119, 3) := by decide +kernel
theorem dX9_next_57 : decode cX9_next 57 = .ok (.iload_n 1, 1) := by decide +kernel
theorem dX9_next_58 : decode cX9_next 58 = .ok (.iload_n 2, 1) := by decide +kernel
theorem dX9_next_59 : decode cX9_next 59 = .ok (.invokestatic 231, 3) := by decide +kernel
theorem dX9_next_62 : decode cX9_next 62 = .ok (.iadd, 1) := by decide +kernel
theorem dX9_next_63 : decode cX9_next 63 = .ok (.putfield 28, 3) := by decide +kernel
theorem dX9_next_66 : decode cX9_next 66 = .ok (.aload_n 0, 1) := by decide +kernel
theorem dX9_next_67 : decode cX9_next 67 = .ok (.getfield 119, 3) := by decide +kernel
theorem dX9_next_70 : decode cX9_next 70 = .ok (.aload_n 0, 1) := by decide +kernel
theorem dX9_next_71 : decode cX9_next 71 = .ok (.getfield 25, 3) := by decide +kernel
theorem dX9_next_74 : decode cX9_next 74 = .ok (.if_icmp .lt 11, 3) := by decide +kernel
theorem dX9_next_77 : decode cX9_next 77 = .ok (.aload_n 0, 1) := by decide +kernel
theorem dX9_next_78 : decode cX9_next 78 = .ok (.iconst 4, 1) := by decide +kernel
theorem dX9_next_79 : decode cX9_next 79 = .ok (.putfield 66, 3) := by decide +kernel
theorem dX9_next_82 : decode cX9_next 82 = .ok (.goto 79, 3) := by decide +kernel
theorem dX9_next_85 : decode cX9_next 85 = .ok (.iload_n 1, 1) := by decide +kernel
