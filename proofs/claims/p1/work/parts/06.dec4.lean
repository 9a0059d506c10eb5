theorem dX13_place_7 : decode cX13_place 7 = .ok (.invokevirtual 302, 3) := by decide +kernel
theorem dX13_place_10 : decode cX13_place 10 = .ok (.ifCond .eq 12, 3) := by decide +kernel
theorem dX13_place_22 : decode cX13_place 22 = .ok (.aload_n 0, 1) := by decide +kernel
theorem dX13_place_23 : decode cX13_place 23 = .ok (.iconst 1, 1) := by decide +kernel
theorem dX13_place_24 : decode cX13_place 24 = .ok (.invokevirtual 48, 3) := by decide +kernel
theorem dX13_place_27 : decode cX13_place 27 = .ok (.ireturn, 1) := by decide +kernel
theorem dX13_quick_0 : decode cX13_quick 0 = .ok (.aload_n 0, 1) := by decide +kernel
theorem dX13_quick_1 : decode cX13_quick 1 = .ok (.iconst 0, 1) := by decide +kernel
theorem dX13_quick_2 : decode cX13_quick 2 = .ok (.putfield 42, 3) := by decide +kernel
theorem dX13_quick_5 : decode cX13_quick 5 = .ok (.aload_n 0, 1) := by decide +kernel
theorem dX13_quick_6 : decode cX13_quick 6 = .ok (.iload_n 1, 1) := by decide +kernel
theorem dX13_quick_7 : decode cX13_quick 7 = .ok (.iconst 1, 1) := by decide +kernel
theorem dX13_quick_8 : decode cX13_quick 8 = .ok (.iconst 1, 1) := by decide +kernel
theorem dX13_quick_9 : decode cX13_quick 9 = .ok (.invokevirtual 331, 3) := by decide +kernel
theorem dX13_quick_12 : decode cX13_quick 12 = .ok (.ireturn, 1) := by decide +kernel
theorem dX13_quickAt_0 : decode cX13_quickAt 0 = .ok (.aload_n 0, 1) := by decide +kernel
theorem dX13_quickAt_1 : decode cX13_quickAt 1 = .ok (.iconst 0, 1) := by decide +kernel
theorem dX13_quickAt_2 : decode cX13_quickAt 2 = .ok (.putfield 42, 3) := by decide +kernel
theorem dX13_quickAt_5 : decode cX13_quickAt 5 = .ok (.aload_n 0, 1) := by decide +kernel
theorem dX13_quickAt_6 : decode cX13_quickAt 6 = .ok (.iload_n 1, 1) := by decide +kernel
theorem dX13_quickAt_7 : decode cX13_quickAt 7 = .ok (.iload_n 2, 1) := by decide +kernel
theorem dX13_quickAt_8 : decode cX13_quickAt 8 = .ok (.iconst 1, 1) := by decide +kernel
theorem dX13_quickAt_9 : decode cX13_quickAt 9 = .ok (.invokevirtual 335, 3) := by decide +kernel
theorem dX13_quickAt_12 : decode cX13_quickAt 12 = .ok (.ireturn, 1) := by decide +kernel
theorem dX13_quickFalls_0 : decode cX13_quickFalls 0 = .ok (.aload_n 0, 1) := by decide +kernel
theorem dX13_quickFalls_1 : decode cX13_quickFalls 1 = .ok (.iconst 0, 1) := by decide +kernel
theorem dX13_quickFalls_2 : decode cX13_quickFalls 2 = .ok (.putfield 42, 3) := by decide +kernel
theorem dX13_quickFalls_5 : decode cX13_quickFalls 5 = .ok (.aload_n 0, 1) := by decide +kernel
theorem dX13_quickFalls_6 : decode cX13_quickFalls 6 = .ok (.iload_n 1, 1) := by decide +kernel
theorem dX13_quickFalls_7 : decode cX13_quickFalls 7 = .ok (.iconst 1, 1) := by decide +kernel
theorem dX13_quickFalls_8 : decode cX13_quickFalls 8 = .ok (.iconst 0, 1) := by decide +kernel
theorem dX13_quickFalls_9 : decode cX13_quickFalls 9 = .ok (.invokevirtual 331, 3) := by decide +kernel
theorem dX13_quickFalls_12 : decode cX13_quickFalls 12 = .ok (.ireturn, 1) := by decide +kernel
theorem dX13_ramble_0 : decode cX13_ramble 0 = .ok (.aload_n 0, 1) := by decide +kernel
theorem dX13_ramble_1 : decode cX13_ramble 1 = .ok (.iconst 0, 1) := by decide +kernel
theorem dX13_ramble_2 : decode cX13_ramble 2 = .ok (.putfield 42, 3) := by decide +kernel
theorem dX13_ramble_5 : decode cX13_ramble 5 = .ok (.aload_n 0, 1) := by decide +kernel
theorem dX13_ramble_6 : decode cX13_ramble 6 = .ok (.iload_n 1, 1) := by decide +kernel
theorem dX13_ramble_7 : decode cX13_ramble 7 = .ok (.iload_n 2, 1) := by decide +kernel
theorem dX13_ramble_8 : decode cX13_ramble 8 = .ok (.iload_n 3, 1) := by decide +kernel
theorem dX13_ramble_9 : decode cX13_ramble 9 = .ok (.invokevirtual 438, 3) := by decide +kernel
theorem dX13_ramble_12 : decode cX13_ramble 12 = .ok (.istore 4, 2) := by decide +kernel
theorem dX13_ramble_14 : decode cX13_ramble 14 = .ok (.iload 4, 2) := by decide +kernel
theorem dX13_ramble_16 : decode cX13_ramble 16 = .ok (.ifCond .le 10, 3) := by decide +kernel
theorem dX13_ramble_19 : decode cX13_ramble 19 = .ok (.aload_n 0, 1) := by decide +kernel
theorem dX13_ramble_20 : decode cX13_ramble 20 = .ok (.iload 4, 2) := by decide +kernel
theorem dX13_ramble_22 : decode cX13_ramble 22 = .ok (.invokevirtual 48, 3) := by decide +kernel
theorem dX13_ramble_25 : decode cX13_ramble 25 = .ok (.ireturn, 1) := by decide +kernel
theorem dX13_rambleFalls_0 : decode cX13_rambleFalls 0 = .ok (.aload_n 0, 1) := by decide +kernel
theorem dX13_rambleFalls_1 : decode cX13_rambleFalls 1 = .ok (.iconst 0, 1) := by decide +kernel
theorem dX13_rambleFalls_2 : decode cX13_rambleFalls 2 = .ok (.putfield 42, 3) := by decide +kernel
theorem dX13_rambleFalls_5 : decode cX13_rambleFalls 5 = .ok (.aload_n 0, 1) := by decide +kernel
theorem dX13_rambleFalls_6 : decode cX13_rambleFalls 6 = .ok (.iload_n 1, 1) := by decide +kernel
theorem dX13_rambleFalls_7 : decode cX13_rambleFalls 7 = .ok (.iload_n 2, 1) := by decide +kernel
theorem dX13_rambleFalls_8 : decode cX13_rambleFalls 8 = .ok (.iload_n 3, 1) := by decide +kernel
theorem dX13_rambleFalls_9 : decode cX13_rambleFalls 9 = .ok (.invokevirtual 438, 3) := by decide +kernel
theorem dX13_rambleFalls_12 : decode cX13_rambleFalls 12 = .ok (.istore 4, 2) := by decide +kernel
theorem dX13_rambleFalls_14 : decode cX13_rambleFalls 14 = .ok (.iload 4, 2) := by decide +kernel
theorem dX13_rambleFalls_16 : decode cX13_rambleFalls 16 = .ok (.ifCond .le 10, 3) := by decide +kernel
theorem dX13_rambleFalls_19 : decode cX13_rambleFalls 19 = .ok (.aload_n 0, 1) := by decide +kernel
theorem dX13_rambleFalls_20 : decode cX13_rambleFalls 20 = .ok (.iload 4, 2) := by decide +kernel
theorem dX13_rambleFalls_22 : decode cX13_rambleFalls 22 = .ok (.invokevirtual 48, 3) := by decide +kernel
theorem dX13_rambleFalls_25 : decode cX13_rambleFalls 25 = .ok (.ireturn, 1) := by decide +kernel
theorem dX13_reach_0 : decode cX13_reach 0 = .ok (.aload_n 0, 1) := by decide +kernel
theorem dX13_reach_1 : decode cX13_reach 1 = .ok (.iconst 0, 1) := by decide +kernel
theorem dX13_reach_2 : decode cX13_reach 2 = .ok (.putfield 42, 3) := by decide +kernel
theorem dX13_reach_5 : decode cX13_reach 5 = .ok (.aload_n 0, 1) := by decide +kernel
theorem dX13_reach_6 : decode cX13_reach 6 = .ok (.iload_n 1, 1) := by decide +kernel
theorem dX13_reach_7 : decode cX13_reach 7 = .ok (.invokevirtual 311, 3) := by decide +kernel
theorem dX13_reach_10 : decode cX13_reach 10 = .ok (.ifCond .ne 9, 3) := by decide +kernel
theorem dX13_reach_13 : decode cX13_reach 13 = .ok (.aload_n 0, 1) := by decide +kernel
theorem dX13_reach_14 : decode cX13_reach 14 = .ok (.iconst 1, 1) := by decide +kernel
theorem dX13_reach_15 : decode cX13_reach 15 = .ok (.invokevirtual 48, 3) := by decide +kernel
theorem dX13_reach_18 : decode cX13_reach 18 = .ok (.ireturn, 1) := by decide +kernel
theorem dX13_reachIn_0 : decode cX13_reachIn 0 = .ok (.aload_n 0, 1) := by decide +kernel
theorem dX13_reachIn_1 : decode cX13_reachIn 1 = .ok (.iconst 0, 1) := by decide +kernel
theorem dX13_reachIn_2 : decode cX13_reachIn 2 = .ok (.putfield 42, 3) := by decide +kernel
theorem dX13_reachIn_5 : decode cX13_reachIn 5 = .ok (.aload_n 0, 1) := by decide +kernel
theorem dX13_reachIn_6 : decode cX13_reachIn 6 = .ok (.iload_n 1, 1) := by decide +kernel
theorem dX13_reachIn_7 : decode cX13_reachIn 7 = .ok (.invokevirtual 311, 3) := by decide +kernel
theorem dX13_reachIn_10 : decode cX13_reachIn 10 = .ok (.ifCond .ne 9, 3) := by decide +kernel
theorem dX13_reachIn_13 : decode cX13_reachIn 13 = .ok (.aload_n 0, 1) := by decide +kernel
theorem dX13_reachIn_14 : decode cX13_reachIn 14 = .ok (.iconst 1, 1) := by decide +kernel
theorem dX13_reachIn_15 : decode cX13_reachIn 15 = .ok (.invokevirtual 48, 3) := by decide +kernel
theorem dX13_reachIn_18 : decode cX13_reachIn 18 = .ok (.ireturn, 1) := by decide +kernel
theorem dX13_readAll_0 : decode cX13_readAll 0 = .ok (.iconst 1, 1) := by decide +kernel
theorem dX13_readAll_1 : decode cX13_readAll 1 = .ok (.istore_n 1, 1) := by decide +kernel
theorem dX13_readAll_2 : decode cX13_readAll 2 = .ok (.iload_n 1, 1) := by decide +kernel
theorem dX13_readAll_3 : decode cX13_readAll 3 = .ok (.ifCond .eq 15, 3) := by decide +kernel
theorem dX13_readAll_6 : decode cX13_readAll 6 = .ok (.aload_n 0, 1) := by decide +kernel
theorem dX13_readAll_7 : decode cX13_readAll 7 = .ok (.invokevirtual 147, 3) := by decide +kernel
theorem dX13_readAll_10 : decode cX13_readAll 10 = .ok (.aload_n 0, 1) := by decide +kernel
theorem dX13_readAll_11 : decode cX13_readAll 11 = .ok (.invokevirtual 150, 3) := by decide +kernel
theorem dX13_readAll_14 : decode cX13_readAll 14 = .ok (.istore_n 1, 1) := by decide +kernel
theorem dX13_readAll_15 : decode cX13_readAll 15 = .ok (.goto (-13), 3) := by decide +kernel
theorem dX13_readAll_18 : decode cX13_readAll 18 = .ok (.aload_n 0, 1) := by decide +kernel
theorem dX13_readAll_19 : decode cX13_readAll 19 = .ok (.getfield 74, 3) := by decide +kernel
theorem dX13_readAll_22 : decode cX13_readAll 22 = .ok (.iconst 1, 1) := by decide +kernel
theorem dX13_readAll_23 : decode cX13_readAll 23 = .ok (.if_icmp .eq 8, 3) := by decide +kernel
theorem dX13_readAll_26 : decode cX13_readAll 26 = .ok (.aload_n 0, 1) := by decide +kernel
theorem dX13_readAll_27 : decode cX13_readAll 27 = .ok (.iconst 1, 1) := by decide +kernel
theorem dX13_readAll_28 : decode cX13_readAll 28 = .ok (.invokevirtual 120, 3) := by decide +kernel
theorem dX13_readAll_31 : decode cX13_readAll 31 = .ok (.aload_n 0, 1) := by decide +kernel
theorem dX13_readAll_32 : decode cX13_readAll 32 = .ok (.getfield 154, 3) := by decide +kernel
theorem dX13_readAll_35 : decode cX13_readAll 35 = .ok (.getfield 158, 3) := by decide +kernel
theorem dX13_readAll_38 : decode cX13_readAll 38 = .ok (.ifCond .eq 20, 3) := by decide +kernel
theorem dX13_readAll_58 : decode cX13_readAll 58 = .ok (.aload_n 0, 1) := by decide +kernel
theorem dX13_readAll_59 : decode cX13_readAll 59 = .ok (.bipush 6, 2) := by decide +kernel
theorem dX13_readAll_61 : decode cX13_readAll 61 = .ok (.invokevirtual 120, 3) := by decide +kernel
theorem dX13_readAll_64 : decode cX13_readAll 64 = .ok (.return_, 1) := by decide +kernel
theorem dX13_readLine_0 : decode cX13_readLine 0 = .ok (.aload_n 0, 1) := by decide +kernel
theorem dX13_readLine_1 : decode cX13_readLine 1 = .ok (.ldc 139, 2) := by decide +kernel
theorem dX13_readLine_3 : decode cX13_readLine 3 = .ok (.invokevirtual 116, 3) := by decide +kernel
theorem dX13_readLine_6 : decode cX13_readLine 6 = .ok (.ifCond .eq 10, 3) := by decide +kernel
theorem dX13_readLine_16 : decode cX13_readLine 16 = .ok (.aload_n 0, 1) := by decide +kernel
theorem dX13_readLine_17 : decode cX13_readLine 17 = .ok (.ldc 141, 2) := by decide +kernel
theorem dX13_readLine_19 : decode cX13_readLine 19 = .ok (.invokevirtual 116, 3) := by decide +kernel
theorem dX13_readLine_22 : decode cX13_readLine 22 = .ok (.ifCond .eq 10, 3) := by decide +kernel
theorem dX13_readLine_32 : decode cX13_readLine 32 = .ok (.aload_n 0, 1) := by decide +kernel
theorem dX13_readLine_33 : decode cX13_readLine 33 = .ok (.ldc 143, 2) := by decide +kernel
theorem dX13_readLine_35 : decode cX13_readLine 35 = .ok (.invokevirtual 116, 3) := by decide +kernel
theorem dX13_readLine_38 : decode cX13_readLine 38 = .ok (.ifCond .eq 10, 3) := by decide +kernel
theorem dX13_readLine_48 : decode cX13_readLine 48 = .ok (.aload_n 0, 1) := by decide +kernel
theorem dX13_readLine_49 : decode cX13_readLine 49 = .ok (.ldc 145, 2) := by decide +kernel
theorem dX13_readLine_51 : decode cX13_readLine 51 = .ok (.invokevirtual 116, 3) := by decide +kernel
theorem dX13_readLine_54 : decode cX13_readLine 54 = .ok (.ifCond .eq 10, 3) := by decide +kernel
theorem dX13_readLine_64 : decode cX13_readLine 64 = .ok (.aload_n 0, 1) := by decide +kernel
theorem dX13_readLine_65 : decode cX13_readLine 65 = .ok (.iconst 1, 1) := by decide +kernel
theorem dX13_readLine_66 : decode cX13_readLine 66 = .ok (.invokevirtual 120, 3) := by decide +kernel
theorem dX13_readLine_69 : decode cX13_readLine 69 = .ok (.return_, 1) := by decide +kernel
theorem dX13_refused_0 : decode cX13_refused 0 = .ok (.aload_n 0, 1) := by decide +kernel
theorem dX13_refused_1 : decode cX13_refused 1 = .ok (.iload_n 1, 1) := by decide +kernel
theorem dX13_refused_2 : decode cX13_refused 2 = .ok (.putfield 45, 3) := by decide +kernel
theorem dX13_refused_5 : decode cX13_refused 5 = .ok (.aload_n 0, 1) := by decide +kernel
theorem dX13_refused_6 : decode cX13_refused 6 = .ok (.iconst (-1), 1) := by decide +kernel
theorem dX13_refused_7 : decode cX13_refused 7 = .ok (.putfield 9, 3) := by decide +kernel
theorem dX13_refused_10 : decode cX13_refused 10 = .ok (.iconst (-1), 1) := by decide +kernel
theorem dX13_refused_11 : decode cX13_refused 11 = .ok (.ireturn, 1) := by decide +kernel
theorem dX13_refusesSeed_0 : decode cX13_refusesSeed 0 = .ok (.aload_n 0, 1) := by decide +kernel
theorem dX13_refusesSeed_1 : decode cX13_refusesSeed 1 = .ok (.iload_n 1, 1) := by decide +kernel
theorem dX13_refusesSeed_2 : decode cX13_refusesSeed 2 = .ok (.invokevirtual 311, 3) := by decide +kernel
theorem dX13_refusesSeed_5 : decode cX13_refusesSeed 5 = .ok (.ifCond .ne 7, 3) := by decide +kernel
theorem dX13_refusesSeed_8 : decode cX13_refusesSeed 8 = .ok (.iconst 1, 1) := by decide +kernel
theorem dX13_refusesSeed_9 : decode cX13_refusesSeed 9 = .ok (.goto 29, 3) := by decide +kernel
theorem dX13_refusesSeed_38 : decode cX13_refusesSeed 38 = .ok (.ireturn, 1) := by decide +kernel
theorem dX13_refusesShame_0 : decode cX13_refusesShame 0 = .ok (.aload_n 0, 1) := by decide +kernel
theorem dX13_refusesShame_1 : decode cX13_refusesShame 1 = .ok (.getfield 269, 3) := by decide +kernel
theorem dX13_refusesShame_4 : decode cX13_refusesShame 4 = .ok (.ifnonnull 7, 3) := by decide +kernel
theorem dX13_refusesShame_7 : decode cX13_refusesShame 7 = .ok (.iconst 1, 1) := by decide +kernel
theorem dX13_refusesShame_8 : decode cX13_refusesShame 8 = .ok (.goto 18, 3) := by decide +kernel
theorem dX13_refusesShame_26 : decode cX13_refusesShame 26 = .ok (.ireturn, 1) := by decide +kernel
theorem dX13_refusesStep_0 : decode cX13_refusesStep 0 = .ok (.aload_n 0, 1) := by decide +kernel
theorem dX13_refusesStep_1 : decode cX13_refusesStep 1 = .ok (.iload_n 1, 1) := by decide +kernel
theorem dX13_refusesStep_2 : decode cX13_refusesStep 2 = .ok (.invokevirtual 311, 3) := by decide +kernel
theorem dX13_refusesStep_5 : decode cX13_refusesStep 5 = .ok (.ifCond .eq 11, 3) := by decide +kernel
theorem dX13_refusesStep_16 : decode cX13_refusesStep 16 = .ok (.iconst 1, 1) := by decide +kernel
theorem dX13_refusesStep_17 : decode cX13_refusesStep 17 = .ok (.goto 17, 3) := by decide +kernel
theorem dX13_refusesStep_34 : decode cX13_refusesStep 34 = .ok (.ireturn, 1) := by decide +kernel
theorem dX13_rest_0 : decode cX13_rest 0 = .ok (.aload_n 0, 1) := by decide +kernel
theorem dX13_rest_1 : decode cX13_rest 1 = .ok (.iconst 0, 1) := by decide +kernel
theorem dX13_rest_2 : decode cX13_rest 2 = .ok (.putfield 42, 3) := by decide +kernel
theorem dX13_rest_5 : decode cX13_rest 5 = .ok (.aload_n 0, 1) := by decide +kernel
theorem dX13_rest_6 : decode cX13_rest 6 = .ok (.iload_n 1, 1) := by decide +kernel
theorem dX13_rest_7 : decode cX13_rest 7 = .ok (.invokevirtual 405, 3) := by decide +kernel
theorem dX13_rest_10 : decode cX13_rest 10 = .ok (.istore_n 2, 1) := by decide +kernel
theorem dX13_rest_11 : decode cX13_rest 11 = .ok (.iload_n 2, 1) := by decide +kernel
theorem dX13_rest_12 : decode cX13_rest 12 = .ok (.ifCond .le 9, 3) := by decide +kernel
theorem dX13_rest_15 : decode cX13_rest 15 = .ok (.aload_n 0, 1) := by decide +kernel
theorem dX13_rest_16 : decode cX13_rest 16 = .ok (.iload_n 2, 1) := by decide +kernel
theorem dX13_rest_17 : decode cX13_rest 17 = .ok (.invokevirtual 48, 3) := by decide +kernel
theorem dX13_rest_20 : decode cX13_rest 20 = .ok (.ireturn, 1) := by decide +kernel
theorem dX13_rests_0 : decode cX13_rests 0 = .ok (.aload_n 0, 1) := by decide +kernel
theorem dX13_rests_1 : decode cX13_rests 1 = .ok (.iconst 0, 1) := by decide +kernel
theorem dX13_rests_2 : decode cX13_rests 2 = .ok (.putfield 42, 3) := by decide +kernel
theorem dX13_rests_5 : decode cX13_rests 5 = .ok (.aload_n 0, 1) := by decide +kernel
theorem dX13_rests_6 : decode cX13_rests 6 = .ok (.iload_n 1, 1) := by decide +kernel
theorem dX13_rests_7 : decode cX13_rests 7 = .ok (.invokevirtual 405, 3) := by decide +kernel
theorem dX13_rests_10 : decode cX13_rests 10 = .ok (.istore_n 2, 1) := by decide +kernel
theorem dX13_rests_11 : decode cX13_rests 11 = .ok (.iload_n 2, 1) := by decide +kernel
theorem dX13_rests_12 : decode cX13_rests 12 = .ok (.ifCond .le 9, 3) := by decide +kernel
theorem dX13_rests_15 : decode cX13_rests 15 = .ok (.aload_n 0, 1) := by decide +kernel
theorem dX13_rests_16 : decode cX13_rests 16 = .ok (.iload_n 2, 1) := by decide +kernel
theorem dX13_rests_17 : decode cX13_rests 17 = .ok (.invokevirtual 48, 3) := by decide +kernel
theorem dX13_rests_20 : decode cX13_rests 20 = .ok (.ireturn, 1) := by decide +kernel
theorem dX13_size_0 : decode cX13_size 0 = .ok (.aload_n 0, 1) := by decide +kernel
theorem dX13_size_1 : decode cX13_size 1 = .ok (.iconst 0, 1) := by decide +kernel
theorem dX13_size_2 : decode cX13_size 2 = .ok (.putfield 42, 3) := by decide +kernel
theorem dX13_size_5 : decode cX13_size 5 = .ok (.iload_n 1, 1) := by decide +kernel
theorem dX13_size_6 : decode cX13_size 6 = .ok (.bipush 9, 2) := by decide +kernel
theorem dX13_size_8 : decode cX13_size 8 = .ok (.if_icmp .ne 8, 3) := by decide +kernel
theorem dX13_size_11 : decode cX13_size 11 = .ok (.aload_n 0, 1) := by decide +kernel
theorem dX13_size_12 : decode cX13_size 12 = .ok (.getfield 262, 3) := by decide +kernel
theorem dX13_size_15 : decode cX13_size 15 = .ok (.ireturn, 1) := by decide +kernel
theorem dX13_size_16 : decode cX13_size 16 = .ok (.iload_n 1, 1) := by decide +kernel
theorem dX13_size_17 : decode cX13_size 17 = .ok (.iconst 0, 1) := by decide +kernel
theorem dX13_size_18 : decode cX13_size 18 = .ok (.bipush 8, 2) := by decide +kernel
theorem dX13_size_20 : decode cX13_size 20 = .ok (.invokestatic 124, 3) := by decide +kernel
theorem dX13_size_23 : decode cX13_size 23 = .ok (.ifCond .ne 5, 3) := by decide +kernel
theorem dX13_size_26 : decode cX13_size 26 = .ok (.iconst (-1), 1) := by decide +kernel
theorem dX13_size_27 : decode cX13_size 27 = .ok (.ireturn, 1) := by decide +kernel
theorem dX13_size_28 : decode cX13_size 28 = .ok (.aload_n 0, 1) := by decide +kernel
theorem dX13_size_29 : decode cX13_size 29 = .ok (.getfield 269, 3) := by decide +kernel
theorem dX13_size_32 : decode cX13_size 32 = .ok (.ifnonnull 5, 3) := by decide +kernel
theorem dX13_size_35 : decode cX13_size 35 = .ok (.iconst 0, 1) := by decide +kernel
theorem dX13_size_36 : decode cX13_size 36 = .ok (.ireturn, 1) := by decide +kernel
theorem dX13_step_0 : decode cX13_step 0 = .ok (.aload_n 0, 1) := by decide +kernel
theorem dX13_step_1 : decode cX13_step 1 = .ok (.iconst 0, 1) := by decide +kernel
theorem dX13_step_2 : decode cX13_step 2 = .ok (.putfield 42, 3) := by decide +kernel
theorem dX13_step_5 : decode cX13_step 5 = .ok (.aload_n 0, 1) := by decide +kernel
theorem dX13_step_6 : decode cX13_step 6 = .ok (.iload_n 1, 1) := by decide +kernel
theorem dX13_step_7 : decode cX13_step 7 = .ok (.invokevirtual 311, 3) := by decide +kernel
theorem dX13_step_10 : decode cX13_step 10 = .ok (.ifCond .ne 9, 3) := by decide +kernel
theorem dX13_step_13 : decode cX13_step 13 = .ok (.aload_n 0, 1) := by decide +kernel
theorem dX13_step_14 : decode cX13_step 14 = .ok (.iconst 1, 1) := by decide +kernel
theorem dX13_step_15 : decode cX13_step 15 = .ok (.invokevirtual 48, 3) := by decide +kernel
theorem dX13_step_18 : decode cX13_step 18 = .ok (.ireturn, 1) := by decide +kernel
theorem dX13_strayed_0 : decode cX13_strayed 0 = .ok (.aload_n 0, 1) := by decide +kernel
theorem dX13_strayed_1 : decode cX13_strayed 1 = .ok (.iconst 0, 1) := by decide +kernel
theorem dX13_strayed_2 : decode cX13_strayed 2 = .ok (.putfield 42, 3) := by decide +kernel
theorem dX13_strayed_5 : decode cX13_strayed 5 = .ok (.aload_n 0, 1) := by decide +kernel
theorem dX13_strayed_6 : decode cX13_strayed 6 = .ok (.iload_n 1, 1) := by decide +kernel
theorem dX13_strayed_7 : decode cX13_strayed 7 = .ok (.iload_n 2, 1) := by decide +kernel
theorem dX13_strayed_8 : decode cX13_strayed 8 = .ok (.iload_n 3, 1) := by decide +kernel
theorem dX13_strayed_9 : decode cX13_strayed 9 = .ok (.invokevirtual 438, 3) := by decide +kernel
theorem dX13_strayed_12 : decode cX13_strayed 12 = .ok (.istore 4, 2) := by decide +kernel
theorem dX13_strayed_14 : decode cX13_strayed 14 = .ok (.iload 4, 2) := by decide +kernel
theorem dX13_strayed_16 : decode cX13_strayed 16 = .ok (.ifCond .le 10, 3) := by decide +kernel
theorem dX13_strayed_19 : decode cX13_strayed 19 = .ok (.aload_n 0, 1) := by decide +kernel
theorem dX13_strayed_20 : decode cX13_strayed 20 = .ok (.iload 4, 2) := by decide +kernel
theorem dX13_strayed_22 : decode cX13_strayed 22 = .ok (.invokevirtual 48, 3) := by decide +kernel
theorem dX13_strayed_25 : decode cX13_strayed 25 = .ok (.ireturn, 1) := by decide +kernel
theorem dX13_thrown_0 : decode cX13_thrown 0 = .ok (.aload_n 0, 1) := by decide +kernel
theorem dX13_thrown_1 : decode cX13_thrown 1 = .ok (.getfield 42, 3) := by decide +kernel
theorem dX13_thrown_4 : decode cX13_thrown 4 = .ok (.ireturn, 1) := by decide +kernel
theorem dX13_toFill_0 : decode cX13_toFill 0 = .ok (.aload_n 0, 1) := by decide +kernel
theorem dX13_toFill_1 : decode cX13_toFill 1 = .ok (.iconst 0, 1) := by decide +kernel
theorem dX13_toFill_2 : decode cX13_toFill 2 = .ok (.putfield 42, 3) := by decide +kernel
theorem dX13_toFill_5 : decode cX13_toFill 5 = .ok (.aload_n 0, 1) := by decide +kernel
theorem dX13_toFill_6 : decode cX13_toFill 6 = .ok (.getfield 269, 3) := by decide +kernel
theorem dX13_toFill_9 : decode cX13_toFill 9 = .ok (.ifnonnull 9, 3) := by decide +kernel
theorem dX13_toFill_12 : decode cX13_toFill 12 = .ok (.aload_n 0, 1) := by decide +kernel
theorem dX13_toFill_13 : decode cX13_toFill 13 = .ok (.iconst 1, 1) := by decide +kernel
theorem dX13_toFill_14 : decode cX13_toFill 14 = .ok (.invokevirtual 48, 3) := by decide +kernel
theorem dX13_toFill_17 : decode cX13_toFill 17 = .ok (.ireturn, 1) := by decide +kernel
theorem dX13_trap_0 : decode cX13_trap 0 = .ok (.aload_n 0, 1) := by decide +kernel
theorem dX13_trap_1 : decode cX13_trap 1 = .ok (.iconst 0, 1) := by decide +kernel
theorem dX13_trap_2 : decode cX13_trap 2 = .ok (.putfield 42, 3) := by decide +kernel
theorem dX13_trap_5 : decode cX13_trap 5 = .ok (.aload_n 0, 1) := by decide +kernel
theorem dX13_trap_6 : decode cX13_trap 6 = .ok (.getfield 269, 3) := by decide +kernel
theorem dX13_trap_9 : decode cX13_trap 9 = .ok (.ifnonnull 9, 3) := by decide +kernel
theorem dX13_trap_12 : decode cX13_trap 12 = .ok (.aload_n 0, 1) := by decide +kernel
theorem dX13_trap_13 : decode cX13_trap 13 = .ok (.iconst 1, 1) := by decide +kernel
theorem dX13_trap_14 : decode cX13_trap 14 = .ok (.invokevirtual 48, 3) := by decide +kernel
theorem dX13_trap_17 : decode cX13_trap 17 = .ok (.ireturn, 1) := by decide +kernel
theorem dX13_tread_0 : decode cX13_tread 0 = .ok (.aload_n 0, 1) := by decide +kernel
theorem dX13_tread_1 : decode cX13_tread 1 = .ok (.iconst 0, 1) := by decide +kernel
theorem dX13_tread_2 : decode cX13_tread 2 = .ok (.putfield 42, 3) := by decide +kernel
theorem dX13_tread_5 : decode cX13_tread 5 = .ok (.aload_n 0, 1) := by decide +kernel
theorem dX13_tread_6 : decode cX13_tread 6 = .ok (.getfield 269, 3) := by decide +kernel
theorem dX13_tread_9 : decode cX13_tread 9 = .ok (.ifnonnull 11, 3) := by decide +kernel
theorem dX13_tread_12 : decode cX13_tread 12 = .ok (.aload_n 0, 1) := by decide +kernel
theorem dX13_tread_13 : decode cX13_tread 13 = .ok (.iconst 1, 1) := by decide +kernel
theorem dX13_tread_14 : decode cX13_tread 14 = .ok (.invokevirtual 48, 3) := by decide +kernel
theorem dX13_tread_17 : decode cX13_tread 17 = .ok (.goto 11, 3) := by decide +kernel
theorem dX13_tread_28 : decode cX13_tread 28 = .ok (.ireturn, 1) := by decide +kernel
theorem dX13_treadLeaves_0 : decode cX13_treadLeaves 0 = .ok (.aload_n 0, 1) := by decide +kernel
theorem dX13_treadLeaves_1 : decode cX13_treadLeaves 1 = .ok (.iconst 0, 1) := by decide +kernel
theorem dX13_treadLeaves_2 : decode cX13_treadLeaves 2 = .ok (.putfield 42, 3) := by decide +kernel
theorem dX13_treadLeaves_5 : decode cX13_treadLeaves 5 = .ok (.aload_n 0, 1) := by decide +kernel
theorem dX13_treadLeaves_6 : decode cX13_treadLeaves 6 = .ok (.getfield 269, 3) := by decide +kernel
theorem dX13_treadLeaves_9 : decode cX13_treadLeaves 9 = .ok (.ifnonnull 9, 3) := by decide +kernel
theorem dX13_treadLeaves_12 : decode cX13_treadLeaves 12 = .ok (.aload_n 0, 1) := by decide +kernel
theorem dX13_treadLeaves_13 : decode cX13_treadLeaves 13 = .ok (.iconst 1, 1) := by decide +kernel
theorem dX13_treadLeaves_14 : decode cX13_treadLeaves 14 = .ok (.invokevirtual 48, 3) := by decide +kernel
theorem dX13_treadLeaves_17 : decode cX13_treadLeaves 17 = .ok (.ireturn, 1) := by decide +kernel
theorem dX13_trouble_0 : decode cX13_trouble 0 = .ok (.aload_n 0, 1) := by decide +kernel
theorem dX13_trouble_1 : decode cX13_trouble 1 = .ok (.iconst 0, 1) := by decide +kernel
theorem dX13_trouble_2 : decode cX13_trouble 2 = .ok (.putfield 42, 3) := by decide +kernel
theorem dX13_trouble_5 : decode cX13_trouble 5 = .ok (.aload_n 0, 1) := by decide +kernel
theorem dX13_trouble_6 : decode cX13_trouble 6 = .ok (.getfield 45, 3) := by decide +kernel
theorem dX13_trouble_9 : decode cX13_trouble 9 = .ok (.ireturn, 1) := by decide +kernel
theorem dX13_undo_0 : decode cX13_undo 0 = .ok (.aload_n 0, 1) := by decide +kernel
theorem dX13_undo_1 : decode cX13_undo 1 = .ok (.iconst 0, 1) := by decide +kernel
theorem dX13_undo_2 : decode cX13_undo 2 = .ok (.putfield 42, 3) := by decide +kernel
theorem dX13_undo_5 : decode cX13_undo 5 = .ok (.aload_n 0, 1) := by decide +kernel
theorem dX13_undo_6 : decode cX13_undo 6 = .ok (.getfield 269, 3) := by decide +kernel
theorem dX13_undo_9 : decode cX13_undo 9 = .ok (.ifnull 10, 3) := by decide +kernel
theorem dX13_undo_19 : decode cX13_undo 19 = .ok (.aload_n 0, 1) := by decide +kernel
theorem dX13_undo_20 : decode cX13_undo 20 = .ok (.bipush 6, 2) := by decide +kernel
theorem dX13_undo_22 : decode cX13_undo 22 = .ok (.invokevirtual 448, 3) := by decide +kernel
theorem dX13_undo_25 : decode cX13_undo 25 = .ok (.ireturn, 1) := by decide +kernel
theorem dX13_walkOdds_0 : decode cX13_walkOdds 0 = .ok (.aload_n 0, 1) := by decide +kernel
theorem dX13_walkOdds_1 : decode cX13_walkOdds 1 = .ok (.iconst 0, 1) := by decide +kernel
theorem dX13_walkOdds_2 : decode cX13_walkOdds 2 = .ok (.putfield 42, 3) := by decide +kernel
theorem dX13_walkOdds_5 : decode cX13_walkOdds 5 = .ok (.aload_n 0, 1) := by decide +kernel
theorem dX13_walkOdds_6 : decode cX13_walkOdds 6 = .ok (.iload_n 1, 1) := by decide +kernel
theorem dX13_walkOdds_7 : decode cX13_walkOdds 7 = .ok (.invokevirtual 302, 3) := by decide +kernel
theorem dX13_walkOdds_10 : decode cX13_walkOdds 10 = .ok (.ifCond .ne 10, 3) := by decide +kernel
theorem dX13_walkOdds_13 : decode cX13_walkOdds 13 = .ok (.aload_n 0, 1) := by decide +kernel
theorem dX13_walkOdds_14 : decode cX13_walkOdds 14 = .ok (.iconst 1, 1) := by decide +kernel
theorem dX13_walkOdds_15 : decode cX13_walkOdds 15 = .ok (.invokevirtual 48, 3) := by decide +kernel
theorem dX13_walkOdds_18 : decode cX13_walkOdds 18 = .ok (.i2l, 1) := by decide +kernel
theorem dX13_walkOdds_19 : decode cX13_walkOdds 19 = .ok (.lreturn, 1) := by decide +kernel
theorem dX13_walker_0 : decode cX13_walker 0 = .ok (.aload_n 0, 1) := by decide +kernel
theorem dX13_walker_1 : decode cX13_walker 1 = .ok (.iconst 0, 1) := by decide +kernel
theorem dX13_walker_2 : decode cX13_walker 2 = .ok (.putfield 42, 3) := by decide +kernel
theorem dX13_walker_5 : decode cX13_walker 5 = .ok (.aload_n 0, 1) := by decide +kernel
theorem dX13_walker_6 : decode cX13_walker 6 = .ok (.iload_n 1, 1) := by decide +kernel
theorem dX13_walker_7 : decode cX13_walker 7 = .ok (.invokevirtual 311, 3) := by decide +kernel
theorem dX13_walker_10 : decode cX13_walker 10 = .ok (.ifCond .eq 12, 3) := by decide +kernel
theorem dX13_walker_22 : decode cX13_walker 22 = .ok (.aload_n 0, 1) := by decide +kernel
theorem dX13_walker_23 : decode cX13_walker 23 = .ok (.iconst 1, 1) := by decide +kernel
theorem dX13_walker_24 : decode cX13_walker 24 = .ok (.invokevirtual 48, 3) := by decide +kernel
theorem dX13_walker_27 : decode cX13_walker 27 = .ok (.ireturn, 1) := by decide +kernel
theorem dX13_wayPart_0 : decode cX13_wayPart 0 = .ok (.aload_n 0, 1) := by decide +kernel
theorem dX13_wayPart_1 : decode cX13_wayPart 1 = .ok (.iload_n 1, 1) := by decide +kernel
theorem dX13_wayPart_2 : decode cX13_wayPart 2 = .ok (.invokevirtual 311, 3) := by decide +kernel
theorem dX13_wayPart_5 : decode cX13_wayPart 5 = .ok (.ifCond .ne 9, 3) := by decide +kernel
theorem dX13_wayPart_8 : decode cX13_wayPart 8 = .ok (.aload_n 0, 1) := by decide +kernel
theorem dX13_wayPart_9 : decode cX13_wayPart 9 = .ok (.iconst 1, 1) := by decide +kernel
theorem dX13_wayPart_10 : decode cX13_wayPart 10 = .ok (.invokevirtual 48, 3) := by decide +kernel
theorem dX13_wayPart_13 : decode cX13_wayPart 13 = .ok (.ireturn, 1) := by decide +kernel
theorem dX13_wayStep_0 : decode cX13_wayStep 0 = .ok (.aload_n 0, 1) := by decide +kernel
theorem dX13_wayStep_1 : decode cX13_wayStep 1 = .ok (.iload_n 1, 1) := by decide +kernel
theorem dX13_wayStep_2 : decode cX13_wayStep 2 = .ok (.invokevirtual 311, 3) := by decide +kernel
theorem dX13_wayStep_5 : decode cX13_wayStep 5 = .ok (.ifCond .eq 7, 3) := by decide +kernel
theorem dX13_wayStep_12 : decode cX13_wayStep 12 = .ok (.aload_n 0, 1) := by decide +kernel
theorem dX13_wayStep_13 : decode cX13_wayStep 13 = .ok (.iconst 1, 1) := by decide +kernel
theorem dX13_wayStep_14 : decode cX13_wayStep 14 = .ok (.invokevirtual 48, 3) := by decide +kernel
theorem dX13_wayStep_17 : decode cX13_wayStep 17 = .ok (.ireturn, 1) := by decide +kernel
theorem dX13_where_0 : decode cX13_where 0 = .ok (.aload_n 0, 1) := by decide +kernel
theorem dX13_where_1 : decode cX13_where 1 = .ok (.iconst 0, 1) := by decide +kernel
theorem dX13_where_2 : decode cX13_where 2 = .ok (.putfield 42, 3) := by decide +kernel
theorem dX13_where_5 : decode cX13_where 5 = .ok (.aload_n 0, 1) := by decide +kernel
theorem dX13_where_6 : decode cX13_where 6 = .ok (.getfield 9, 3) := by decide +kernel
theorem dX13_where_9 : decode cX13_where 9 = .ok (.ireturn, 1) := by decide +kernel
theorem dX1_init_0 : decode cX1_init 0 = .ok (.aload_n 0, 1) := by decide +kernel
theorem dX1_init_1 : decode cX1_init 1 = .ok (.invokespecial 3, 3) := by decide +kernel
theorem dX1_init_4 : decode cX1_init 4 = .ok (.aload_n 0, 1) := by decide +kernel
theorem dX1_init_5 : decode cX1_init 5 = .ok (.iconst 4, 1) := by decide +kernel
theorem dX1_init_6 : decode cX1_init 6 = .ok (.anewarray 9, 3) := by decide +kernel
theorem dX1_init_9 : decode cX1_init 9 = .ok (.putfield 11, 3) := by decide +kernel
theorem dX1_init_12 : decode cX1_init 12 = .ok (.aload_n 0, 1) := by decide +kernel
theorem dX1_init_13 : decode cX1_init 13 = .ok (.iconst 4, 1) := by decide +kernel
theorem dX1_init_14 : decode cX1_init 14 = .ok (.newarray .int, 2) := by decide +kernel
theorem dX1_init_16 : decode cX1_init 16 = .ok (.putfield 17, 3) := by decide +kernel
theorem dX1_init_19 : decode cX1_init 19 = .ok (.aload_n 0, 1) := by decide +kernel
theorem dX1_init_20 : decode cX1_init 20 = .ok (.iconst 4, 1) := by decide +kernel
theorem dX1_init_21 : decode cX1_init 21 = .ok (.newarray .int, 2) := by decide +kernel
theorem dX1_init_23 : decode cX1_init 23 = .ok (.putfield 21, 3) := by decide +kernel
theorem dX1_init_26 : decode cX1_init 26 = .ok (.iconst 0, 1) := by decide +kernel
theorem dX1_init_27 : decode cX1_init 27 = .ok (.istore_n 1, 1) := by decide +kernel
theorem dX1_init_28 : decode cX1_init 28 = .ok (.iload_n 1, 1) := by decide +kernel
theorem dX1_init_29 : decode cX1_init 29 = .ok (.iconst 4, 1) := by decide +kernel
theorem dX1_init_30 : decode cX1_init 30 = .ok (.if_icmp .ge 22, 3) := by decide +kernel
theorem dX1_init_33 : decode cX1_init 33 = .ok (.aload_n 0, 1) := by decide +kernel
theorem dX1_init_34 : decode cX1_init 34 = .ok (.getfield 11, 3) := by decide +kernel
theorem dX1_init_37 : decode cX1_init 37 = .ok (.iload_n 1, 1) := by decide +kernel
theorem dX1_init_38 : decode cX1_init 38 = .ok (.new 9, 3) := by decide +kernel
theorem dX1_init_41 : decode cX1_init 41 = .ok (.dup, 1) := by decide +kernel
theorem dX1_init_42 : decode cX1_init 42 = .ok (.invokespecial 24, 3) := by decide +kernel
theorem dX1_init_45 : decode cX1_init 45 = .ok (.aastore, 1) := by decide +kernel
theorem dX1_init_46 : decode cX1_init 46 = .ok (.iinc 1 1, 3) := by decide +kernel
theorem dX1_init_49 : decode cX1_init 49 = .ok (.goto (-21), 3) := by decide +kernel
theorem dX1_init_52 : decode cX1_init 52 = .ok (.return_, 1) := by decide +kernel
theorem dX2_init_0 : decode cX2_init 0 = .ok (.aload_n 0, 1) := by decide +kernel
theorem dX2_init_1 : decode cX2_init 1 = .ok (.invokespecial 3, 3) := by decide +kernel
theorem dX2_init_4 : decode cX2_init 4 = .ok (.aload_n 0, 1) := by decide +kernel
theorem dX2_init_5 : decode cX2_init 5 = .ok (.bipush 20, 2) := by decide +kernel
theorem dX2_init_7 : decode cX2_init 7 = .ok (.newarray .int, 2) := by decide +kernel
theorem dX2_init_9 : decode cX2_init 9 = .ok (.putfield 9, 3) := by decide +kernel
theorem dX2_init_12 : decode cX2_init 12 = .ok (.aload_n 0, 1) := by decide +kernel
theorem dX2_init_13 : decode cX2_init 13 = .ok (.bipush 20, 2) := by decide +kernel
theorem dX2_init_15 : decode cX2_init 15 = .ok (.newarray .int, 2) := by decide +kernel
theorem dX2_init_17 : decode cX2_init 17 = .ok (.putfield 15, 3) := by decide +kernel
theorem dX2_init_20 : decode cX2_init 20 = .ok (.aload_n 0, 1) := by decide +kernel
theorem dX2_init_21 : decode cX2_init 21 = .ok (.bipush 20, 2) := by decide +kernel
theorem dX2_init_23 : decode cX2_init 23 = .ok (.newarray .int, 2) := by decide +kernel
theorem dX2_init_25 : decode cX2_init 25 = .ok (.putfield 18, 3) := by decide +kernel
theorem dX2_init_28 : decode cX2_init 28 = .ok (.return_, 1) := by decide +kernel
theorem dX3_init_0 : decode cX3_init 0 = .ok (.aload_n 0, 1) := by decide +kernel
theorem dX3_init_1 : decode cX3_init 1 = .ok (.invokespecial 1, 3) := by decide +kernel
theorem dX3_init_4 : decode cX3_init 4 = .ok (.aload_n 0, 1) := by decide +kernel
theorem dX3_init_5 : decode cX3_init 5 = .ok (.lconst 1, 1) := by decide +kernel
theorem dX3_init_6 : decode cX3_init 6 = .ok (.putfield 7, 3) := by decide +kernel
theorem dX3_init_9 : decode cX3_init 9 = .ok (.return_, 1) := by decide +kernel
theorem dX4_holds_0 : decode cX4_holds 0 = .ok (.iload_n 1, 1) := by decide +kernel
theorem dX4_holds_1 : decode cX4_holds 1 = .ok (.ifCond .lt 15, 3) := by decide +kernel
theorem dX4_holds_4 : decode cX4_holds 4 = .ok (.iload_n 1, 1) := by decide +kernel
theorem dX4_holds_5 : decode cX4_holds 5 = .ok (.aload_n 0, 1) := by decide +kernel
theorem dX4_holds_6 : decode cX4_holds 6 = .ok (.getfield 22, 3) := by decide +kernel
theorem dX4_holds_9 : decode cX4_holds 9 = .ok (.if_icmp .ge 7, 3) := by decide +kernel
theorem dX4_holds_16 : decode cX4_holds 16 = .ok (.iconst 0, 1) := by decide +kernel
theorem dX4_holds_17 : decode cX4_holds 17 = .ok (.ireturn, 1) := by decide +kernel
theorem dX4_init_0 : decode cX4_init 0 = .ok (.aload_n 0, 1) := by decide +kernel
theorem dX4_init_1 : decode cX4_init 1 = .ok (.invokespecial 3, 3) := by decide +kernel
theorem dX4_init_4 : decode cX4_init 4 = .ok (.aload_n 0, 1) := by decide +kernel
theorem dX4_init_5 : decode cX4_init 5 = .ok (.bipush 20, 2) := by decide +kernel
theorem dX4_init_7 : decode cX4_init 7 = .ok (.newarray .int, 2) := by decide +kernel
theorem dX4_init_9 : decode cX4_init 9 = .ok (.putfield 9, 3) := by decide +kernel
theorem dX4_init_12 : decode cX4_init 12 = .ok (.return_, 1) := by decide +kernel
theorem dX4_resize_0 : decode cX4_resize 0 = .ok (.aload_n 0, 1) := by decide +kernel
theorem dX4_resize_1 : decode cX4_resize 1 = .ok (.iload_n 1, 1) := by decide +kernel
theorem dX4_resize_2 : decode cX4_resize 2 = .ok (.putfield 15, 3) := by decide +kernel
theorem dX4_resize_5 : decode cX4_resize 5 = .ok (.aload_n 0, 1) := by decide +kernel
theorem dX4_resize_6 : decode cX4_resize 6 = .ok (.iload_n 2, 1) := by decide +kernel
theorem dX4_resize_7 : decode cX4_resize 7 = .ok (.putfield 19, 3) := by decide +kernel
theorem dX4_resize_10 : decode cX4_resize 10 = .ok (.aload_n 0, 1) := by decide +kernel
theorem dX4_resize_11 : decode cX4_resize 11 = .ok (.iload_n 1, 1) := by decide +kernel
theorem dX4_resize_12 : decode cX4_resize 12 = .ok (.iload_n 2, 1) := by decide +kernel
theorem dX4_resize_13 : decode cX4_resize 13 = .ok (.imul, 1) := by decide +kernel
theorem dX4_resize_14 : decode cX4_resize 14 = .ok (.putfield 22, 3) := by decide +kernel
theorem dX4_resize_17 : decode cX4_resize 17 = .ok (.return_, 1) := by decide +kernel
theorem dX5_init_0 : decode cX5_init 0 = .ok (.aload_n 0, 1) := by decide +kernel
theorem dX5_init_1 : decode cX5_init 1 = .ok (.invokespecial 3, 3) := by decide +kernel
theorem dX5_init_4 : decode cX5_init 4 = .ok (.aload_n 0, 1) := by decide +kernel
theorem dX5_init_5 : decode cX5_init 5 = .ok (.bipush 32, 2) := by decide +kernel
theorem dX5_init_7 : decode cX5_init 7 = .ok (.newarray .int, 2) := by decide +kernel
theorem dX5_init_9 : decode cX5_init 9 = .ok (.putfield 11, 3) := by decide +kernel
theorem dX5_init_12 : decode cX5_init 12 = .ok (.aload_n 0, 1) := by decide +kernel
theorem dX5_init_13 : decode cX5_init 13 = .ok (.bipush 32, 2) := by decide +kernel
theorem dX5_init_15 : decode cX5_init 15 = .ok (.newarray .long, 2) := by decide +kernel
theorem dX5_init_17 : decode cX5_init 17 = .ok (.putfield 15, 3) := by decide +kernel
theorem dX5_init_20 : decode cX5_init 20 = .ok (.return_, 1) := by decide +kernel
theorem dX5_ith_0 : decode cX5_ith 0 = .ok (.iconst 0, 1) := by decide +kernel
theorem dX5_ith_1 : decode cX5_ith 1 = .ok (.istore_n 2, 1) := by decide +kernel
theorem dX5_ith_2 : decode cX5_ith 2 = .ok (.iconst 0, 1) := by decide +kernel
theorem dX5_ith_3 : decode cX5_ith 3 = .ok (.istore_n 3, 1) := by decide +kernel
theorem dX5_ith_4 : decode cX5_ith 4 = .ok (.iload_n 3, 1) := by decide +kernel
theorem dX5_ith_5 : decode cX5_ith 5 = .ok (.aload_n 0, 1) := by decide +kernel
theorem dX5_ith_6 : decode cX5_ith 6 = .ok (.getfield 35, 3) := by decide +kernel
theorem dX5_ith_9 : decode cX5_ith 9 = .ok (.if_icmp .ge 30, 3) := by decide +kernel
theorem dX5_ith_39 : decode cX5_ith 39 = .ok (.iconst (-1), 1) := by decide +kernel
theorem dX5_ith_40 : decode cX5_ith 40 = .ok (.ireturn, 1) := by decide +kernel
theorem dX6_init_0 : decode cX6_init 0 = .ok (.aload_n 0, 1) := by decide +kernel
theorem dX6_init_1 : decode cX6_init 1 = .ok (.invokespecial 3, 3) := by decide +kernel
theorem dX6_init_4 : decode cX6_init 4 = .ok (.aload_n 0, 1) := by decide +kernel
theorem dX6_init_5 : decode cX6_init 5 = .ok (.new 9, 3) := by decide +kernel
theorem dX6_init_8 : decode cX6_init 8 = .ok (.dup, 1) := by decide +kernel
theorem dX6_init_9 : decode cX6_init 9 = .ok (.invokespecial 11, 3) := by decide +kernel
theorem dX6_init_12 : decode cX6_init 12 = .ok (.putfield 12, 3) := by decide +kernel
theorem dX6_init_15 : decode cX6_init 15 = .ok (.aload_n 0, 1) := by decide +kernel
theorem dX6_init_16 : decode cX6_init 16 = .ok (.iconst 4, 1) := by decide +kernel
theorem dX6_init_17 : decode cX6_init 17 = .ok (.newarray .int, 2) := by decide +kernel
theorem dX6_init_19 : decode cX6_init 19 = .ok (.putfield 18, 3) := by decide +kernel
theorem dX6_init_22 : decode cX6_init 22 = .ok (.aload_n 0, 1) := by decide +kernel
theorem dX6_init_23 : decode cX6_init 23 = .ok (.iconst 4, 1) := by decide +kernel
theorem dX6_init_24 : decode cX6_init 24 = .ok (.newarray .int, 2) := by decide +kernel
theorem dX6_init_26 : decode cX6_init 26 = .ok (.putfield 22, 3) := by decide +kernel
theorem dX6_init_29 : decode cX6_init 29 = .ok (.aload_n 0, 1) := by decide +kernel
theorem dX6_init_30 : decode cX6_init 30 = .ok (.iconst 4, 1) := by decide +kernel
theorem dX6_init_31 : decode cX6_init 31 = .ok (.newarray .int, 2) := by decide +kernel
theorem dX6_init_33 : decode cX6_init 33 = .ok (.putfield 25, 3) := by decide +kernel
theorem dX6_init_36 : decode cX6_init 36 = .ok (.return_, 1) := by decide +kernel
theorem dX7_clear_0 : decode cX7_clear 0 = .ok (.aload_n 0, 1) := by decide +kernel
theorem dX7_clear_1 : decode cX7_clear 1 = .ok (.getfield 12, 3) := by decide +kernel
theorem dX7_clear_4 : decode cX7_clear 4 = .ok (.iconst 0, 1) := by decide +kernel
theorem dX7_clear_5 : decode cX7_clear 5 = .ok (.iconst 0, 1) := by decide +kernel
theorem dX7_clear_6 : decode cX7_clear 6 = .ok (.invokevirtual 45, 3) := by decide +kernel
theorem dX7_clear_9 : decode cX7_clear 9 = .ok (.aload_n 0, 1) := by decide +kernel
theorem dX7_clear_10 : decode cX7_clear 10 = .ok (.iconst 0, 1) := by decide +kernel
theorem dX7_clear_11 : decode cX7_clear 11 = .ok (.putfield 49, 3) := by decide +kernel
theorem dX7_clear_14 : decode cX7_clear 14 = .ok (.aload_n 0, 1) := by decide +kernel
theorem dX7_clear_15 : decode cX7_clear 15 = .ok (.iconst 0, 1) := by decide +kernel
theorem dX7_clear_16 : decode cX7_clear 16 = .ok (.putfield 53, 3) := by decide +kernel
theorem dX7_clear_19 : decode cX7_clear 19 = .ok (.aload_n 0, 1) := by decide +kernel
theorem dX7_clear_20 : decode cX7_clear 20 = .ok (.iconst 0, 1) := by decide +kernel
theorem dX7_clear_21 : decode cX7_clear 21 = .ok (.putfield 56, 3) := by decide +kernel
theorem dX7_clear_24 : decode cX7_clear 24 = .ok (.aload_n 0, 1) := by decide +kernel
theorem dX7_clear_25 : decode cX7_clear 25 = .ok (.iconst 0, 1) := by decide +kernel
theorem dX7_clear_26 : decode cX7_clear 26 = .ok (.putfield 59, 3) := by decide +kernel
theorem dX7_clear_29 : decode cX7_clear 29 = .ok (.return_, 1) := by decide +kernel
theorem dX7_init_0 : decode cX7_init 0 = .ok (.aload_n 0, 1) := by decide +kernel
theorem dX7_init_1 : decode cX7_init 1 = .ok (.invokespecial 3, 3) := by decide +kernel
theorem dX7_init_4 : decode cX7_init 4 = .ok (.aload_n 0, 1) := by decide +kernel
theorem dX7_init_5 : decode cX7_init 5 = .ok (.new 9, 3) := by decide +kernel
theorem dX7_init_8 : decode cX7_init 8 = .ok (.dup, 1) := by decide +kernel
theorem dX7_init_9 : decode cX7_init 9 = .ok (.invokespecial 11, 3) := by decide +kernel
theorem dX7_init_12 : decode cX7_init 12 = .ok (.putfield 12, 3) := by decide +kernel
theorem dX7_init_15 : decode cX7_init 15 = .ok (.aload_n 0, 1) := by decide +kernel
theorem dX7_init_16 : decode cX7_init 16 = .ok (.iconst 5, 1) := by decide +kernel
theorem dX7_init_17 : decode cX7_init 17 = .ok (.newarray .int, 2) := by decide +kernel
theorem dX7_init_19 : decode cX7_init 19 = .ok (.putfield 18, 3) := by decide +kernel
theorem dX7_init_22 : decode cX7_init 22 = .ok (.aload_n 0, 1) := by decide +kernel
theorem dX7_init_23 : decode cX7_init 23 = .ok (.iconst 4, 1) := by decide +kernel
theorem dX7_init_24 : decode cX7_init 24 = .ok (.newarray .long, 2) := by decide +kernel
theorem dX7_init_26 : decode cX7_init 26 = .ok (.putfield 22, 3) := by decide +kernel
theorem dX7_init_29 : decode cX7_init 29 = .ok (.aload_n 0, 1) := by decide +kernel
theorem dX7_init_30 : decode cX7_init 30 = .ok (.iconst 4, 1) := by decide +kernel
theorem dX7_init_31 : decode cX7_init 31 = .ok (.newarray .int, 2) := by decide +kernel
theorem dX7_init_33 : decode cX7_init 33 = .ok (.putfield 26, 3) := by decide +kernel
theorem dX7_init_36 : decode cX7_init 36 = .ok (.aload_n 0, 1) := by decide +kernel
theorem dX7_init_37 : decode cX7_init 37 = .ok (.iconst 4, 1) := by decide +kernel
theorem dX7_init_38 : decode cX7_init 38 = .ok (.newarray .int, 2) := by decide +kernel
theorem dX7_init_40 : decode cX7_init 40 = .ok (.putfield 29, 3) := by decide +kernel
theorem dX7_init_43 : decode cX7_init 43 = .ok (.aload_n 0, 1) := by decide +kernel
theorem dX7_init_44 : decode cX7_init 44 = .ok (.iconst 4, 1) := by decide +kernel
theorem dX7_init_45 : decode cX7_init 45 = .ok (.newarray .int, 2) := by decide +kernel
theorem dX7_init_47 : decode cX7_init 47 = .ok (.putfield 32, 3) := by decide +kernel
theorem dX7_init_50 : decode cX7_init 50 = .ok (.aload_n 0, 1) := by decide +kernel
theorem dX7_init_51 : decode cX7_init 51 = .ok (.bipush 6, 2) := by decide +kernel
theorem dX7_init_53 : decode cX7_init 53 = .ok (.newarray .int, 2) := by decide +kernel
theorem dX7_init_55 : decode cX7_init 55 = .ok (.putfield 35, 3) := by decide +kernel
theorem dX7_init_58 : decode cX7_init 58 = .ok (.aload_n 0, 1) := by decide +kernel
theorem dX7_init_59 : decode cX7_init 59 = .ok (.bipush 6, 2) := by decide +kernel
theorem dX7_init_61 : decode cX7_init 61 = .ok (.newarray .int, 2) := by decide +kernel
theorem dX7_init_63 : decode cX7_init 63 = .ok (.putfield 38, 3) := by decide +kernel
theorem dX7_init_66 : decode cX7_init 66 = .ok (.aload_n 0, 1) := by decide +kernel
theorem dX7_init_67 : decode cX7_init 67 = .ok (.bipush 6, 2) := by decide +kernel
theorem dX7_init_69 : decode cX7_init 69 = .ok (.newarray .boolean, 2) := by decide +kernel
theorem dX7_init_71 : decode cX7_init 71 = .ok (.putfield 41, 3) := by decide +kernel
theorem dX7_init_74 : decode cX7_init 74 = .ok (.return_, 1) := by decide +kernel
theorem dX8_init_0 : decode cX8_init 0 = .ok (.aload_n 0, 1) := by decide +kernel
theorem dX8_init_1 : decode cX8_init 1 = .ok (.invokespecial 3, 3) := by decide +kernel
theorem dX8_init_4 : decode cX8_init 4 = .ok (.return_, 1) := by decide +kernel
theorem dX9_append_0 : decode cX9_append 0 = .ok (.aload_n 0, 1) := by decide +kernel
theorem dX9_append_1 : decode cX9_append 1 = .ok (.getfield 15, 3) := by decide +kernel
theorem dX9_append_4 : decode cX9_append 4 = .ok (.iconst 4, 1) := by decide +kernel
theorem dX9_append_5 : decode cX9_append 5 = .ok (.iadd, 1) := by decide +kernel
theorem dX9_append_6 : decode cX9_append 6 = .ok (.sipush 800, 3) := by decide +kernel
theorem dX9_append_9 : decode cX9_append 9 = .ok (.if_icmp .gt 72, 3) := by decide +kernel
theorem dX9_append_12 : decode cX9_append 12 = .ok (.aload_n 0, 1) := by decide +kernel
theorem dX9_append_13 : decode cX9_append 13 = .ok (.getfield 11, 3) := by decide +kernel
theorem dX9_append_16 : decode cX9_append 16 = .ok (.aload_n 0, 1) := by decide +kernel
theorem dX9_append_17 : decode cX9_append 17 = .ok (.getfield 15, 3) := by decide +kernel
theorem dX9_append_20 : decode cX9_append 20 = .ok (.iload_n 1, 1) := by decide +kernel
theorem dX9_append_21 : decode cX9_append 21 = .ok (.bipush 24, 2) := by decide +kernel
theorem dX9_append_23 : decode cX9_append 23 = .ok (.ishr, 1) := by decide +kernel
theorem dX9_append_24 : decode cX9_append 24 = .ok (.i2b, 1) := by decide +kernel
theorem dX9_append_25 : decode cX9_append 25 = .ok (.bastore, 1) := by decide +kernel
theorem dX9_append_26 : decode cX9_append 26 = .ok (.aload_n 0, 1) := by decide +kernel
theorem dX9_append_27 : decode cX9_append 27 = .ok (.getfield 11, 3) := by decide +kernel
theorem dX9_append_30 : decode cX9_append 30 = .ok (.aload_n 0, 1) := by decide +kernel
theorem dX9_append_31 : decode cX9_append 31 = .ok (.getfield 15, 3) := by decide +kernel
theorem dX9_append_34 : decode cX9_append 34 = .ok (.iconst 1, 1) := by decide +kernel
theorem dX9_append_35 : decode cX9_append 35 = .ok (.iadd, 1) := by decide +kernel
theorem dX9_append_36 : decode cX9_append 36 = .ok (.iload_n 1, 1) := by decide +kernel
theorem dX9_append_37 : decode cX9_append 37 = .ok (.bipush 16, 2) := by decide +kernel
theorem dX9_append_39 : decode cX9_append 39 = .ok (.ishr, 1) := by decide +kernel
theorem dX9_append_40 : decode cX9_append 40 = .ok (.i2b, 1) := by decide +kernel
theorem dX9_append_41 : decode cX9_append 41 = .ok (.bastore, 1) := by decide +kernel
theorem dX9_append_42 : decode cX9_append 42 = .ok (.aload_n 0, 1) := by decide +kernel
theorem dX9_append_43 : decode cX9_append 43 = .ok (.getfield 11, 3) := by decide +kernel
theorem dX9_append_46 : decode cX9_append 46 = .ok (.aload_n 0, 1) := by decide +kernel
theorem dX9_append_47 : decode cX9_append 47 = .ok (.getfield 15, 3) := by decide +kernel
theorem dX9_append_50 : decode cX9_append 50 = .ok (.iconst 2, 1) := by decide +kernel
theorem dX9_append_51 : decode cX9_append 51 = .ok (.iadd, 1) := by decide +kernel
theorem dX9_append_52 : decode cX9_append 52 = .ok (.iload_n 1, 1) := by decide +kernel
theorem dX9_append_53 : decode cX9_append 53 = .ok (.bipush 8, 2) := by decide +kernel
theorem dX9_append_55 : decode cX9_append 55 = .ok (.ishr, 1) := by decide +kernel
theorem dX9_append_56 : decode cX9_append 56 = .ok (.i2b, 1) := by decide +kernel
theorem dX9_append_57 : decode cX9_append 57 = .ok (.bastore, 1) := by decide +kernel
theorem dX9_append_58 : decode cX9_append 58 = .ok (.aload_n 0, 1) := by decide +kernel
theorem dX9_append_59 : decode cX9_append 59 = .ok (.getfield 11, 3) := by decide +kernel
theorem dX9_append_62 : decode cX9_append 62 = .ok (.aload_n 0, 1) := by decide +kernel
theorem dX9_append_63 : decode cX9_append 63 = .ok (.getfield 15, 3) := by decide +kernel
theorem dX9_append_66 : decode cX9_append 66 = .ok (.iconst 3, 1) := by decide +kernel
theorem dX9_append_67 : decode cX9_append 67 = .ok (.iadd, 1) := by decide +kernel
theorem dX9_append_68 : decode cX9_append 68 = .ok (.iload_n 1, 1) := by decide +kernel
theorem dX9_append_69 : decode cX9_append 69 = .ok (.i2b, 1) := by decide +kernel
theorem dX9_append_70 : decode cX9_append 70 = .ok (.bastore, 1) := by decide +kernel
theorem dX9_append_71 : decode cX9_append 71 = .ok (.aload_n 0, 1) := by decide +kernel
theorem dX9_append_72 : decode cX9_append 72 = .ok (.dup, 1) := by decide +kernel
theorem dX9_append_73 : decode cX9_append 73 = .ok (.getfield 15, 3) := by decide +kernel
theorem dX9_append_76 : decode cX9_append 76 = .ok (.iconst 4, 1) := by decide +kernel
theorem dX9_append_77 : decode cX9_append 77 = .ok (.iadd, 1) := by decide +kernel
theorem dX9_append_78 : decode cX9_append 78 = .ok (.putfield 15, 3) := by decide +kernel
theorem dX9_append_81 : decode cX9_append 81 = .ok (.return_, 1) := by decide +kernel
theorem dX9_hasRoom_0 : decode cX9_hasRoom 0 = .ok (.aload_n 0, 1) := by decide +kernel
theorem dX9_hasRoom_1 : decode cX9_hasRoom 1 = .ok (.getfield 15, 3) := by decide +kernel
theorem dX9_hasRoom_4 : decode cX9_hasRoom 4 = .ok (.bipush 20, 2) := by decide +kernel
theorem dX9_hasRoom_6 : decode cX9_hasRoom 6 = .ok (.iadd, 1) := by decide +kernel
theorem dX9_hasRoom_7 : decode cX9_hasRoom 7 = .ok (.sipush 800, 3) := by decide +kernel
theorem dX9_hasRoom_10 : decode cX9_hasRoom 10 = .ok (.if_icmp .gt 7, 3) := by decide +kernel
theorem dX9_hasRoom_13 : decode cX9_hasRoom 13 = .ok (.iconst 1, 1) := by decide +kernel
theorem dX9_hasRoom_14 : decode cX9_hasRoom 14 = .ok (.goto 4, 3) := by decide +kernel
theorem dX9_hasRoom_18 : decode cX9_hasRoom 18 = .ok (.ireturn, 1) := by decide +kernel
theorem dX9_init_0 : decode cX9_init 0 = .ok (.aload_n 0, 1) := by decide +kernel
theorem dX9_init_1 : decode cX9_init 1 = .ok (.invokespecial 3, 3) := by decide +kernel
theorem dX9_init_4 : decode cX9_init 4 = .ok (.aload_n 0, 1) := by decide +kernel
theorem dX9_init_5 : decode cX9_init 5 = .ok (.sipush 800, 3) := by decide +kernel
theorem dX9_init_8 : decode cX9_init 8 = .ok (.newarray .byte, 2) := by decide +kernel
theorem dX9_init_10 : decode cX9_init 10 = .ok (.putfield 11, 3) := by decide +kernel
theorem dX9_init_13 : decode cX9_init 13 = .ok (.return_, 1) := by decide +kernel
theorem dX9_isWord_0 : decode cX9_isWord 0 = .ok (.aload_n 0, 1) := by decide +kernel
theorem dX9_isWord_1 : decode cX9_isWord 1 = .ok (.getfield 66, 3) := by decide +kernel
theorem dX9_isWord_4 : decode cX9_isWord 4 = .ok (.iconst 1, 1) := by decide +kernel
theorem dX9_isWord_5 : decode cX9_isWord 5 = .ok (.if_icmp .ne 19, 3) := by decide +kernel
theorem dX9_isWord_24 : decode cX9_isWord 24 = .ok (.iconst 0, 1) := by decide +kernel
theorem dX9_isWord_25 : decode cX9_isWord 25 = .ok (.ireturn, 1) := by decide +kernel
theorem dX9_lineWord_0 : decode cX9_lineWord 0 = .ok (.aload_n 0, 1) := by decide +kernel
theorem dX9_lineWord_1 : decode cX9_lineWord 1 = .ok (.ldc 203, 2) := by decide +kernel
theorem dX9_lineWord_3 : decode cX9_lineWord 3 = .ok (.invokevirtual 183, 3) := by decide +kernel
theorem dX9_lineWord_6 : decode cX9_lineWord 6 = .ok (.ifCond .eq 5, 3) := by decide +kernel
theorem dX9_lineWord_11 : decode cX9_lineWord 11 = .ok (.aload_n 0, 1) := by decide +kernel
theorem dX9_lineWord_12 : decode cX9_lineWord 12 = .ok (.ldc 205, 2) := by decide +kernel
theorem dX9_lineWord_14 : decode cX9_lineWord 14 = .ok (.invokevirtual 183, 3) := by decide +kernel
theorem dX9_lineWord_17 : decode cX9_lineWord 17 = .ok (.ifCond .eq 5, 3) := by decide +kernel
theorem dX9_lineWord_22 : decode cX9_lineWord 22 = .ok (.aload_n 0, 1) := by decide +kernel
theorem dX9_lineWord_23 : decode cX9_lineWord 23 = .ok (.ldc 207, 2) := by decide +kernel
