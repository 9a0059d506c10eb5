theorem dX12_init_33 : decode cX12_init 33 = .ok (.aload_n 0, 1) := by decide +kernel
theorem dX12_init_34 : decode cX12_init 34 = .ok (.iconst 4, 1) := by decide +kernel
theorem dX12_init_35 : decode cX12_init 35 = .ok (.newarray .int, 2) := by decide +kernel
theorem dX12_init_37 : decode cX12_init 37 = .ok (.putfield 24, 3) := by decide +kernel
theorem dX12_init_40 : decode cX12_init 40 = .ok (.aload_n 0, 1) := by decide +kernel
theorem dX12_init_41 : decode cX12_init 41 = .ok (.bipush 6, 2) := by decide +kernel
theorem dX12_init_43 : decode cX12_init 43 = .ok (.newarray .int, 2) := by decide +kernel
theorem dX12_init_45 : decode cX12_init 45 = .ok (.putfield 27, 3) := by decide +kernel
theorem dX12_init_48 : decode cX12_init 48 = .ok (.aload_n 0, 1) := by decide +kernel
theorem dX12_init_49 : decode cX12_init 49 = .ok (.bipush 6, 2) := by decide +kernel
theorem dX12_init_51 : decode cX12_init 51 = .ok (.newarray .int, 2) := by decide +kernel
theorem dX12_init_53 : decode cX12_init 53 = .ok (.putfield 30, 3) := by decide +kernel
theorem dX12_init_56 : decode cX12_init 56 = .ok (.aload_n 0, 1) := by decide +kernel
theorem dX12_init_57 : decode cX12_init 57 = .ok (.bipush 6, 2) := by decide +kernel
theorem dX12_init_59 : decode cX12_init 59 = .ok (.newarray .boolean, 2) := by decide +kernel
theorem dX12_init_61 : decode cX12_init 61 = .ok (.putfield 33, 3) := by decide +kernel
theorem dX12_init_64 : decode cX12_init 64 = .ok (.aload_n 0, 1) := by decide +kernel
theorem dX12_init_65 : decode cX12_init 65 = .ok (.iconst 4, 1) := by decide +kernel
theorem dX12_init_66 : decode cX12_init 66 = .ok (.newarray .long, 2) := by decide +kernel
theorem dX12_init_68 : decode cX12_init 68 = .ok (.putfield 37, 3) := by decide +kernel
theorem dX12_init_71 : decode cX12_init 71 = .ok (.return_, 1) := by decide +kernel
theorem dX13_all_0 : decode cX13_all 0 = .ok (.aload_n 0, 1) := by decide +kernel
theorem dX13_all_1 : decode cX13_all 1 = .ok (.iconst 0, 1) := by decide +kernel
theorem dX13_all_2 : decode cX13_all 2 = .ok (.putfield 42, 3) := by decide +kernel
theorem dX13_all_5 : decode cX13_all 5 = .ok (.aload_n 0, 1) := by decide +kernel
theorem dX13_all_6 : decode cX13_all 6 = .ok (.getfield 269, 3) := by decide +kernel
theorem dX13_all_9 : decode cX13_all 9 = .ok (.ifnonnull 9, 3) := by decide +kernel
theorem dX13_all_12 : decode cX13_all 12 = .ok (.aload_n 0, 1) := by decide +kernel
theorem dX13_all_13 : decode cX13_all 13 = .ok (.iconst 1, 1) := by decide +kernel
theorem dX13_all_14 : decode cX13_all 14 = .ok (.invokevirtual 48, 3) := by decide +kernel
theorem dX13_all_17 : decode cX13_all 17 = .ok (.ireturn, 1) := by decide +kernel
theorem dX13_back_0 : decode cX13_back 0 = .ok (.aload_n 0, 1) := by decide +kernel
theorem dX13_back_1 : decode cX13_back 1 = .ok (.iconst 0, 1) := by decide +kernel
theorem dX13_back_2 : decode cX13_back 2 = .ok (.putfield 42, 3) := by decide +kernel
theorem dX13_back_5 : decode cX13_back 5 = .ok (.aload_n 0, 1) := by decide +kernel
theorem dX13_back_6 : decode cX13_back 6 = .ok (.getfield 269, 3) := by decide +kernel
theorem dX13_back_9 : decode cX13_back 9 = .ok (.ifnull 15, 3) := by decide +kernel
theorem dX13_back_24 : decode cX13_back 24 = .ok (.aload_n 0, 1) := by decide +kernel
theorem dX13_back_25 : decode cX13_back 25 = .ok (.iconst 1, 1) := by decide +kernel
theorem dX13_back_26 : decode cX13_back 26 = .ok (.invokevirtual 448, 3) := by decide +kernel
theorem dX13_back_29 : decode cX13_back 29 = .ok (.ireturn, 1) := by decide +kernel
theorem dX13_becomes_0 : decode cX13_becomes 0 = .ok (.aload_n 0, 1) := by decide +kernel
theorem dX13_becomes_1 : decode cX13_becomes 1 = .ok (.iload_n 1, 1) := by decide +kernel
theorem dX13_becomes_2 : decode cX13_becomes 2 = .ok (.invokevirtual 302, 3) := by decide +kernel
theorem dX13_becomes_5 : decode cX13_becomes 5 = .ok (.ifCond .ne 9, 3) := by decide +kernel
theorem dX13_becomes_8 : decode cX13_becomes 8 = .ok (.aload_n 0, 1) := by decide +kernel
theorem dX13_becomes_9 : decode cX13_becomes 9 = .ok (.iconst 1, 1) := by decide +kernel
theorem dX13_becomes_10 : decode cX13_becomes 10 = .ok (.invokevirtual 448, 3) := by decide +kernel
theorem dX13_becomes_13 : decode cX13_becomes 13 = .ok (.ireturn, 1) := by decide +kernel
theorem dX13_byteAt_0 : decode cX13_byteAt 0 = .ok (.iload_n 1, 1) := by decide +kernel
theorem dX13_byteAt_1 : decode cX13_byteAt 1 = .ok (.aload_n 0, 1) := by decide +kernel
theorem dX13_byteAt_2 : decode cX13_byteAt 2 = .ok (.getfield 59, 3) := by decide +kernel
theorem dX13_byteAt_5 : decode cX13_byteAt 5 = .ok (.if_icmp .ge 16, 3) := by decide +kernel
theorem dX13_byteAt_21 : decode cX13_byteAt 21 = .ok (.iconst (-1), 1) := by decide +kernel
theorem dX13_byteAt_22 : decode cX13_byteAt 22 = .ok (.ireturn, 1) := by decide +kernel
theorem dX13_cut_0 : decode cX13_cut 0 = .ok (.aload_n 0, 1) := by decide +kernel
theorem dX13_cut_1 : decode cX13_cut 1 = .ok (.iconst 0, 1) := by decide +kernel
theorem dX13_cut_2 : decode cX13_cut 2 = .ok (.putfield 42, 3) := by decide +kernel
theorem dX13_cut_5 : decode cX13_cut 5 = .ok (.aload_n 0, 1) := by decide +kernel
theorem dX13_cut_6 : decode cX13_cut 6 = .ok (.iload_n 1, 1) := by decide +kernel
theorem dX13_cut_7 : decode cX13_cut 7 = .ok (.invokevirtual 311, 3) := by decide +kernel
theorem dX13_cut_10 : decode cX13_cut 10 = .ok (.ifCond .ne 9, 3) := by decide +kernel
theorem dX13_cut_13 : decode cX13_cut 13 = .ok (.aload_n 0, 1) := by decide +kernel
theorem dX13_cut_14 : decode cX13_cut 14 = .ok (.iconst 1, 1) := by decide +kernel
theorem dX13_cut_15 : decode cX13_cut 15 = .ok (.invokevirtual 48, 3) := by decide +kernel
theorem dX13_cut_18 : decode cX13_cut 18 = .ok (.ireturn, 1) := by decide +kernel
theorem dX13_denied_0 : decode cX13_denied 0 = .ok (.aload_n 0, 1) := by decide +kernel
theorem dX13_denied_1 : decode cX13_denied 1 = .ok (.iload_n 1, 1) := by decide +kernel
theorem dX13_denied_2 : decode cX13_denied 2 = .ok (.invokevirtual 48, 3) := by decide +kernel
theorem dX13_denied_5 : decode cX13_denied 5 = .ok (.pop, 1) := by decide +kernel
theorem dX13_denied_6 : decode cX13_denied 6 = .ok (.iconst 0, 1) := by decide +kernel
theorem dX13_denied_7 : decode cX13_denied 7 = .ok (.ireturn, 1) := by decide +kernel
theorem dX13_dig_0 : decode cX13_dig 0 = .ok (.aload_n 0, 1) := by decide +kernel
theorem dX13_dig_1 : decode cX13_dig 1 = .ok (.iconst 0, 1) := by decide +kernel
theorem dX13_dig_2 : decode cX13_dig 2 = .ok (.putfield 42, 3) := by decide +kernel
theorem dX13_dig_5 : decode cX13_dig 5 = .ok (.aload_n 0, 1) := by decide +kernel
theorem dX13_dig_6 : decode cX13_dig 6 = .ok (.iload_n 1, 1) := by decide +kernel
theorem dX13_dig_7 : decode cX13_dig 7 = .ok (.iconst 0, 1) := by decide +kernel
theorem dX13_dig_8 : decode cX13_dig 8 = .ok (.iconst 1, 1) := by decide +kernel
theorem dX13_dig_9 : decode cX13_dig 9 = .ok (.invokevirtual 454, 3) := by decide +kernel
theorem dX13_dig_12 : decode cX13_dig 12 = .ok (.ireturn, 1) := by decide +kernel
theorem dX13_dry_0 : decode cX13_dry 0 = .ok (.aload_n 0, 1) := by decide +kernel
theorem dX13_dry_1 : decode cX13_dry 1 = .ok (.iconst 0, 1) := by decide +kernel
theorem dX13_dry_2 : decode cX13_dry 2 = .ok (.putfield 42, 3) := by decide +kernel
theorem dX13_dry_5 : decode cX13_dry 5 = .ok (.aload_n 0, 1) := by decide +kernel
theorem dX13_dry_6 : decode cX13_dry 6 = .ok (.iload_n 1, 1) := by decide +kernel
theorem dX13_dry_7 : decode cX13_dry 7 = .ok (.iconst 0, 1) := by decide +kernel
theorem dX13_dry_8 : decode cX13_dry 8 = .ok (.iconst 1, 1) := by decide +kernel
theorem dX13_dry_9 : decode cX13_dry 9 = .ok (.invokevirtual 331, 3) := by decide +kernel
theorem dX13_dry_12 : decode cX13_dry 12 = .ok (.ireturn, 1) := by decide +kernel
theorem dX13_dryAt_0 : decode cX13_dryAt 0 = .ok (.aload_n 0, 1) := by decide +kernel
theorem dX13_dryAt_1 : decode cX13_dryAt 1 = .ok (.iconst 0, 1) := by decide +kernel
theorem dX13_dryAt_2 : decode cX13_dryAt 2 = .ok (.putfield 42, 3) := by decide +kernel
theorem dX13_dryAt_5 : decode cX13_dryAt 5 = .ok (.aload_n 0, 1) := by decide +kernel
theorem dX13_dryAt_6 : decode cX13_dryAt 6 = .ok (.iload_n 1, 1) := by decide +kernel
theorem dX13_dryAt_7 : decode cX13_dryAt 7 = .ok (.iload_n 2, 1) := by decide +kernel
theorem dX13_dryAt_8 : decode cX13_dryAt 8 = .ok (.iconst 0, 1) := by decide +kernel
theorem dX13_dryAt_9 : decode cX13_dryAt 9 = .ok (.invokevirtual 335, 3) := by decide +kernel
theorem dX13_dryAt_12 : decode cX13_dryAt 12 = .ok (.ireturn, 1) := by decide +kernel
theorem dX13_dryMinutes_0 : decode cX13_dryMinutes 0 = .ok (.aload_n 0, 1) := by decide +kernel
theorem dX13_dryMinutes_1 : decode cX13_dryMinutes 1 = .ok (.iconst 0, 1) := by decide +kernel
theorem dX13_dryMinutes_2 : decode cX13_dryMinutes 2 = .ok (.putfield 42, 3) := by decide +kernel
theorem dX13_dryMinutes_5 : decode cX13_dryMinutes 5 = .ok (.aload_n 0, 1) := by decide +kernel
theorem dX13_dryMinutes_6 : decode cX13_dryMinutes 6 = .ok (.iload_n 1, 1) := by decide +kernel
theorem dX13_dryMinutes_7 : decode cX13_dryMinutes 7 = .ok (.iconst 0, 1) := by decide +kernel
theorem dX13_dryMinutes_8 : decode cX13_dryMinutes 8 = .ok (.iconst 0, 1) := by decide +kernel
theorem dX13_dryMinutes_9 : decode cX13_dryMinutes 9 = .ok (.invokevirtual 331, 3) := by decide +kernel
theorem dX13_dryMinutes_12 : decode cX13_dryMinutes 12 = .ok (.ireturn, 1) := by decide +kernel
theorem dX13_eatsSemicolon_0 : decode cX13_eatsSemicolon 0 = .ok (.aload_n 0, 1) := by decide +kernel
theorem dX13_eatsSemicolon_1 : decode cX13_eatsSemicolon 1 = .ok (.getfield 74, 3) := by decide +kernel
theorem dX13_eatsSemicolon_4 : decode cX13_eatsSemicolon 4 = .ok (.iconst 4, 1) := by decide +kernel
theorem dX13_eatsSemicolon_5 : decode cX13_eatsSemicolon 5 = .ok (.if_icmp .ne 7, 3) := by decide +kernel
theorem dX13_eatsSemicolon_12 : decode cX13_eatsSemicolon 12 = .ok (.iconst 0, 1) := by decide +kernel
theorem dX13_eatsSemicolon_13 : decode cX13_eatsSemicolon 13 = .ok (.istore_n 1, 1) := by decide +kernel
theorem dX13_eatsSemicolon_14 : decode cX13_eatsSemicolon 14 = .ok (.iload_n 1, 1) := by decide +kernel
theorem dX13_eatsSemicolon_15 : decode cX13_eatsSemicolon 15 = .ok (.ifCond .eq 7, 3) := by decide +kernel
theorem dX13_eatsSemicolon_22 : decode cX13_eatsSemicolon 22 = .ok (.iload_n 1, 1) := by decide +kernel
theorem dX13_eatsSemicolon_23 : decode cX13_eatsSemicolon 23 = .ok (.ireturn, 1) := by decide +kernel
theorem dX13_fallOdds_0 : decode cX13_fallOdds 0 = .ok (.aload_n 0, 1) := by decide +kernel
theorem dX13_fallOdds_1 : decode cX13_fallOdds 1 = .ok (.iconst 0, 1) := by decide +kernel
theorem dX13_fallOdds_2 : decode cX13_fallOdds 2 = .ok (.putfield 42, 3) := by decide +kernel
theorem dX13_fallOdds_5 : decode cX13_fallOdds 5 = .ok (.aload_n 0, 1) := by decide +kernel
theorem dX13_fallOdds_6 : decode cX13_fallOdds 6 = .ok (.iload_n 1, 1) := by decide +kernel
theorem dX13_fallOdds_7 : decode cX13_fallOdds 7 = .ok (.invokevirtual 311, 3) := by decide +kernel
theorem dX13_fallOdds_10 : decode cX13_fallOdds 10 = .ok (.ifCond .ne 10, 3) := by decide +kernel
theorem dX13_fallOdds_13 : decode cX13_fallOdds 13 = .ok (.aload_n 0, 1) := by decide +kernel
theorem dX13_fallOdds_14 : decode cX13_fallOdds 14 = .ok (.iconst 1, 1) := by decide +kernel
theorem dX13_fallOdds_15 : decode cX13_fallOdds 15 = .ok (.invokevirtual 48, 3) := by decide +kernel
theorem dX13_fallOdds_18 : decode cX13_fallOdds 18 = .ok (.i2l, 1) := by decide +kernel
theorem dX13_fallOdds_19 : decode cX13_fallOdds 19 = .ok (.lreturn, 1) := by decide +kernel
theorem dX13_falls_0 : decode cX13_falls 0 = .ok (.aload_n 0, 1) := by decide +kernel
theorem dX13_falls_1 : decode cX13_falls 1 = .ok (.iconst 0, 1) := by decide +kernel
theorem dX13_falls_2 : decode cX13_falls 2 = .ok (.putfield 42, 3) := by decide +kernel
theorem dX13_falls_5 : decode cX13_falls 5 = .ok (.aload_n 0, 1) := by decide +kernel
theorem dX13_falls_6 : decode cX13_falls 6 = .ok (.iload_n 1, 1) := by decide +kernel
theorem dX13_falls_7 : decode cX13_falls 7 = .ok (.iload_n 2, 1) := by decide +kernel
theorem dX13_falls_8 : decode cX13_falls 8 = .ok (.iload_n 3, 1) := by decide +kernel
theorem dX13_falls_9 : decode cX13_falls 9 = .ok (.invokevirtual 314, 3) := by decide +kernel
theorem dX13_falls_12 : decode cX13_falls 12 = .ok (.istore 4, 2) := by decide +kernel
theorem dX13_falls_14 : decode cX13_falls 14 = .ok (.iload 4, 2) := by decide +kernel
theorem dX13_falls_16 : decode cX13_falls 16 = .ok (.ifCond .le 10, 3) := by decide +kernel
theorem dX13_falls_19 : decode cX13_falls 19 = .ok (.aload_n 0, 1) := by decide +kernel
theorem dX13_falls_20 : decode cX13_falls 20 = .ok (.iload 4, 2) := by decide +kernel
theorem dX13_falls_22 : decode cX13_falls 22 = .ok (.invokevirtual 48, 3) := by decide +kernel
theorem dX13_falls_25 : decode cX13_falls 25 = .ok (.ireturn, 1) := by decide +kernel
theorem dX13_fault_0 : decode cX13_fault 0 = .ok (.aload_n 0, 1) := by decide +kernel
theorem dX13_fault_1 : decode cX13_fault 1 = .ok (.iconst 0, 1) := by decide +kernel
theorem dX13_fault_2 : decode cX13_fault 2 = .ok (.putfield 42, 3) := by decide +kernel
theorem dX13_fault_5 : decode cX13_fault 5 = .ok (.aload_n 0, 1) := by decide +kernel
theorem dX13_fault_6 : decode cX13_fault 6 = .ok (.getfield 103, 3) := by decide +kernel
theorem dX13_fault_9 : decode cX13_fault 9 = .ok (.ireturn, 1) := by decide +kernel
theorem dX13_feed_0 : decode cX13_feed 0 = .ok (.aload_n 0, 1) := by decide +kernel
theorem dX13_feed_1 : decode cX13_feed 1 = .ok (.iconst 0, 1) := by decide +kernel
theorem dX13_feed_2 : decode cX13_feed 2 = .ok (.putfield 42, 3) := by decide +kernel
theorem dX13_feed_5 : decode cX13_feed 5 = .ok (.aload_n 0, 1) := by decide +kernel
theorem dX13_feed_6 : decode cX13_feed 6 = .ok (.getfield 262, 3) := by decide +kernel
theorem dX13_feed_9 : decode cX13_feed 9 = .ok (.bipush 20, 2) := by decide +kernel
theorem dX13_feed_11 : decode cX13_feed 11 = .ok (.iadd, 1) := by decide +kernel
theorem dX13_feed_12 : decode cX13_feed 12 = .ok (.sipush 800, 3) := by decide +kernel
theorem dX13_feed_15 : decode cX13_feed 15 = .ok (.if_icmp .le 5, 3) := by decide +kernel
theorem dX13_feed_20 : decode cX13_feed 20 = .ok (.iconst 0, 1) := by decide +kernel
theorem dX13_feed_21 : decode cX13_feed 21 = .ok (.istore 6, 2) := by decide +kernel
theorem dX13_feed_23 : decode cX13_feed 23 = .ok (.iload 6, 2) := by decide +kernel
theorem dX13_feed_25 : decode cX13_feed 25 = .ok (.bipush 20, 2) := by decide +kernel
theorem dX13_feed_27 : decode cX13_feed 27 = .ok (.if_icmp .ge 90, 3) := by decide +kernel
theorem dX13_feed_30 : decode cX13_feed 30 = .ok (.iload 6, 2) := by decide +kernel
theorem dX13_feed_32 : decode cX13_feed 32 = .ok (.iconst 4, 1) := by decide +kernel
theorem dX13_feed_33 : decode cX13_feed 33 = .ok (.if_icmp .ge 7, 3) := by decide +kernel
theorem dX13_feed_36 : decode cX13_feed 36 = .ok (.iload_n 1, 1) := by decide +kernel
theorem dX13_feed_37 : decode cX13_feed 37 = .ok (.goto 39, 3) := by decide +kernel
theorem dX13_feed_40 : decode cX13_feed 40 = .ok (.iload 6, 2) := by decide +kernel
theorem dX13_feed_42 : decode cX13_feed 42 = .ok (.bipush 8, 2) := by decide +kernel
theorem dX13_feed_44 : decode cX13_feed 44 = .ok (.if_icmp .ge 7, 3) := by decide +kernel
theorem dX13_feed_47 : decode cX13_feed 47 = .ok (.iload_n 2, 1) := by decide +kernel
theorem dX13_feed_48 : decode cX13_feed 48 = .ok (.goto 28, 3) := by decide +kernel
theorem dX13_feed_51 : decode cX13_feed 51 = .ok (.iload 6, 2) := by decide +kernel
theorem dX13_feed_53 : decode cX13_feed 53 = .ok (.bipush 12, 2) := by decide +kernel
theorem dX13_feed_55 : decode cX13_feed 55 = .ok (.if_icmp .ge 7, 3) := by decide +kernel
theorem dX13_feed_58 : decode cX13_feed 58 = .ok (.iload_n 3, 1) := by decide +kernel
theorem dX13_feed_59 : decode cX13_feed 59 = .ok (.goto 17, 3) := by decide +kernel
theorem dX13_feed_62 : decode cX13_feed 62 = .ok (.iload 6, 2) := by decide +kernel
theorem dX13_feed_64 : decode cX13_feed 64 = .ok (.bipush 16, 2) := by decide +kernel
theorem dX13_feed_66 : decode cX13_feed 66 = .ok (.if_icmp .ge 8, 3) := by decide +kernel
theorem dX13_feed_69 : decode cX13_feed 69 = .ok (.iload 4, 2) := by decide +kernel
theorem dX13_feed_71 : decode cX13_feed 71 = .ok (.goto 5, 3) := by decide +kernel
theorem dX13_feed_74 : decode cX13_feed 74 = .ok (.iload 5, 2) := by decide +kernel
theorem dX13_feed_76 : decode cX13_feed 76 = .ok (.istore 7, 2) := by decide +kernel
theorem dX13_feed_78 : decode cX13_feed 78 = .ok (.aload_n 0, 1) := by decide +kernel
theorem dX13_feed_79 : decode cX13_feed 79 = .ok (.getfield 13, 3) := by decide +kernel
theorem dX13_feed_82 : decode cX13_feed 82 = .ok (.aload_n 0, 1) := by decide +kernel
theorem dX13_feed_83 : decode cX13_feed 83 = .ok (.getfield 262, 3) := by decide +kernel
theorem dX13_feed_86 : decode cX13_feed 86 = .ok (.iload 7, 2) := by decide +kernel
theorem dX13_feed_88 : decode cX13_feed 88 = .ok (.bipush 24, 2) := by decide +kernel
theorem dX13_feed_90 : decode cX13_feed 90 = .ok (.bipush 8, 2) := by decide +kernel
theorem dX13_feed_92 : decode cX13_feed 92 = .ok (.iload 6, 2) := by decide +kernel
theorem dX13_feed_94 : decode cX13_feed 94 = .ok (.iconst 4, 1) := by decide +kernel
theorem dX13_feed_95 : decode cX13_feed 95 = .ok (.irem, 1) := by decide +kernel
theorem dX13_feed_96 : decode cX13_feed 96 = .ok (.imul, 1) := by decide +kernel
theorem dX13_feed_97 : decode cX13_feed 97 = .ok (.isub, 1) := by decide +kernel
theorem dX13_feed_98 : decode cX13_feed 98 = .ok (.ishr, 1) := by decide +kernel
theorem dX13_feed_99 : decode cX13_feed 99 = .ok (.i2b, 1) := by decide +kernel
theorem dX13_feed_100 : decode cX13_feed 100 = .ok (.bastore, 1) := by decide +kernel
theorem dX13_feed_101 : decode cX13_feed 101 = .ok (.aload_n 0, 1) := by decide +kernel
theorem dX13_feed_102 : decode cX13_feed 102 = .ok (.dup, 1) := by decide +kernel
theorem dX13_feed_103 : decode cX13_feed 103 = .ok (.getfield 262, 3) := by decide +kernel
theorem dX13_feed_106 : decode cX13_feed 106 = .ok (.iconst 1, 1) := by decide +kernel
theorem dX13_feed_107 : decode cX13_feed 107 = .ok (.iadd, 1) := by decide +kernel
theorem dX13_feed_108 : decode cX13_feed 108 = .ok (.putfield 262, 3) := by decide +kernel
theorem dX13_feed_111 : decode cX13_feed 111 = .ok (.iinc 6 1, 3) := by decide +kernel
theorem dX13_feed_114 : decode cX13_feed 114 = .ok (.goto (-91), 3) := by decide +kernel
theorem dX13_feed_117 : decode cX13_feed 117 = .ok (.aload_n 0, 1) := by decide +kernel
theorem dX13_feed_118 : decode cX13_feed 118 = .ok (.getfield 262, 3) := by decide +kernel
theorem dX13_feed_121 : decode cX13_feed 121 = .ok (.ireturn, 1) := by decide +kernel
theorem dX13_fill_0 : decode cX13_fill 0 = .ok (.aload_n 0, 1) := by decide +kernel
theorem dX13_fill_1 : decode cX13_fill 1 = .ok (.iconst 0, 1) := by decide +kernel
theorem dX13_fill_2 : decode cX13_fill 2 = .ok (.putfield 42, 3) := by decide +kernel
theorem dX13_fill_5 : decode cX13_fill 5 = .ok (.aload_n 0, 1) := by decide +kernel
theorem dX13_fill_6 : decode cX13_fill 6 = .ok (.iload_n 1, 1) := by decide +kernel
theorem dX13_fill_7 : decode cX13_fill 7 = .ok (.iconst 1, 1) := by decide +kernel
theorem dX13_fill_8 : decode cX13_fill 8 = .ok (.iconst 0, 1) := by decide +kernel
theorem dX13_fill_9 : decode cX13_fill 9 = .ok (.invokevirtual 454, 3) := by decide +kernel
theorem dX13_fill_12 : decode cX13_fill 12 = .ok (.ireturn, 1) := by decide +kernel
theorem dX13_fitAt_0 : decode cX13_fitAt 0 = .ok (.aload_n 0, 1) := by decide +kernel
theorem dX13_fitAt_1 : decode cX13_fitAt 1 = .ok (.iconst 0, 1) := by decide +kernel
theorem dX13_fitAt_2 : decode cX13_fitAt 2 = .ok (.putfield 42, 3) := by decide +kernel
theorem dX13_fitAt_5 : decode cX13_fitAt 5 = .ok (.aload_n 0, 1) := by decide +kernel
theorem dX13_fitAt_6 : decode cX13_fitAt 6 = .ok (.getfield 269, 3) := by decide +kernel
theorem dX13_fitAt_9 : decode cX13_fitAt 9 = .ok (.ifnull 7, 3) := by decide +kernel
theorem dX13_fitAt_16 : decode cX13_fitAt 16 = .ok (.aload_n 0, 1) := by decide +kernel
theorem dX13_fitAt_17 : decode cX13_fitAt 17 = .ok (.iconst 1, 1) := by decide +kernel
theorem dX13_fitAt_18 : decode cX13_fitAt 18 = .ok (.invokevirtual 48, 3) := by decide +kernel
theorem dX13_fitAt_21 : decode cX13_fitAt 21 = .ok (.ireturn, 1) := by decide +kernel
theorem dX13_fits_0 : decode cX13_fits 0 = .ok (.aload_n 0, 1) := by decide +kernel
theorem dX13_fits_1 : decode cX13_fits 1 = .ok (.iconst 0, 1) := by decide +kernel
theorem dX13_fits_2 : decode cX13_fits 2 = .ok (.putfield 42, 3) := by decide +kernel
theorem dX13_fits_5 : decode cX13_fits 5 = .ok (.aload_n 0, 1) := by decide +kernel
theorem dX13_fits_6 : decode cX13_fits 6 = .ok (.getfield 269, 3) := by decide +kernel
theorem dX13_fits_9 : decode cX13_fits 9 = .ok (.ifnonnull 9, 3) := by decide +kernel
theorem dX13_fits_12 : decode cX13_fits 12 = .ok (.aload_n 0, 1) := by decide +kernel
theorem dX13_fits_13 : decode cX13_fits 13 = .ok (.iconst 1, 1) := by decide +kernel
theorem dX13_fits_14 : decode cX13_fits 14 = .ok (.invokevirtual 48, 3) := by decide +kernel
theorem dX13_fits_17 : decode cX13_fits 17 = .ok (.ireturn, 1) := by decide +kernel
theorem dX13_flaw_0 : decode cX13_flaw 0 = .ok (.aload_n 0, 1) := by decide +kernel
theorem dX13_flaw_1 : decode cX13_flaw 1 = .ok (.getfield 74, 3) := by decide +kernel
theorem dX13_flaw_4 : decode cX13_flaw 4 = .ok (.iconst 5, 1) := by decide +kernel
theorem dX13_flaw_5 : decode cX13_flaw 5 = .ok (.if_icmp .ne 4, 3) := by decide +kernel
theorem dX13_flaw_8 : decode cX13_flaw 8 = .ok (.return_, 1) := by decide +kernel
theorem dX13_flaw_9 : decode cX13_flaw 9 = .ok (.aload_n 0, 1) := by decide +kernel
theorem dX13_flaw_10 : decode cX13_flaw 10 = .ok (.iload_n 1, 1) := by decide +kernel
theorem dX13_flaw_11 : decode cX13_flaw 11 = .ok (.putfield 103, 3) := by decide +kernel
theorem dX13_flaw_14 : decode cX13_flaw 14 = .ok (.aload_n 0, 1) := by decide +kernel
theorem dX13_flaw_15 : decode cX13_flaw 15 = .ok (.aload_n 0, 1) := by decide +kernel
theorem dX13_flaw_16 : decode cX13_flaw 16 = .ok (.getfield 83, 3) := by decide +kernel
theorem dX13_flaw_19 : decode cX13_flaw 19 = .ok (.putfield 106, 3) := by decide +kernel
theorem dX13_flaw_22 : decode cX13_flaw 22 = .ok (.aload_n 0, 1) := by decide +kernel
theorem dX13_flaw_23 : decode cX13_flaw 23 = .ok (.iconst 5, 1) := by decide +kernel
theorem dX13_flaw_24 : decode cX13_flaw 24 = .ok (.putfield 74, 3) := by decide +kernel
theorem dX13_flaw_27 : decode cX13_flaw 27 = .ok (.return_, 1) := by decide +kernel
theorem dX13_gate_0 : decode cX13_gate 0 = .ok (.aload_n 0, 1) := by decide +kernel
theorem dX13_gate_1 : decode cX13_gate 1 = .ok (.iconst 0, 1) := by decide +kernel
theorem dX13_gate_2 : decode cX13_gate 2 = .ok (.putfield 42, 3) := by decide +kernel
theorem dX13_gate_5 : decode cX13_gate 5 = .ok (.aload_n 0, 1) := by decide +kernel
theorem dX13_gate_6 : decode cX13_gate 6 = .ok (.iload_n 1, 1) := by decide +kernel
theorem dX13_gate_7 : decode cX13_gate 7 = .ok (.iconst 1, 1) := by decide +kernel
theorem dX13_gate_8 : decode cX13_gate 8 = .ok (.iconst 2, 1) := by decide +kernel
theorem dX13_gate_9 : decode cX13_gate 9 = .ok (.invokevirtual 454, 3) := by decide +kernel
theorem dX13_gate_12 : decode cX13_gate 12 = .ok (.ireturn, 1) := by decide +kernel
theorem dX13_gates_0 : decode cX13_gates 0 = .ok (.aload_n 0, 1) := by decide +kernel
theorem dX13_gates_1 : decode cX13_gates 1 = .ok (.iconst 0, 1) := by decide +kernel
theorem dX13_gates_2 : decode cX13_gates 2 = .ok (.putfield 42, 3) := by decide +kernel
theorem dX13_gates_5 : decode cX13_gates 5 = .ok (.aload_n 0, 1) := by decide +kernel
theorem dX13_gates_6 : decode cX13_gates 6 = .ok (.getfield 269, 3) := by decide +kernel
theorem dX13_gates_9 : decode cX13_gates 9 = .ok (.ifnonnull 9, 3) := by decide +kernel
theorem dX13_gates_12 : decode cX13_gates 12 = .ok (.aload_n 0, 1) := by decide +kernel
theorem dX13_gates_13 : decode cX13_gates 13 = .ok (.iconst 1, 1) := by decide +kernel
theorem dX13_gates_14 : decode cX13_gates 14 = .ok (.invokevirtual 48, 3) := by decide +kernel
theorem dX13_gates_17 : decode cX13_gates 17 = .ok (.ireturn, 1) := by decide +kernel
theorem dX13_goesOn_0 : decode cX13_goesOn 0 = .ok (.aload_n 0, 1) := by decide +kernel
theorem dX13_goesOn_1 : decode cX13_goesOn 1 = .ok (.getfield 74, 3) := by decide +kernel
theorem dX13_goesOn_4 : decode cX13_goesOn 4 = .ok (.iconst 5, 1) := by decide +kernel
theorem dX13_goesOn_5 : decode cX13_goesOn 5 = .ok (.if_icmp .ne 4, 3) := by decide +kernel
theorem dX13_goesOn_9 : decode cX13_goesOn 9 = .ok (.aload_n 0, 1) := by decide +kernel
theorem dX13_goesOn_10 : decode cX13_goesOn 10 = .ok (.aload_n 0, 1) := by decide +kernel
theorem dX13_goesOn_11 : decode cX13_goesOn 11 = .ok (.getfield 77, 3) := by decide +kernel
theorem dX13_goesOn_14 : decode cX13_goesOn 14 = .ok (.invokevirtual 80, 3) := by decide +kernel
theorem dX13_goesOn_17 : decode cX13_goesOn 17 = .ok (.bipush 32, 2) := by decide +kernel
theorem dX13_goesOn_19 : decode cX13_goesOn 19 = .ok (.if_icmp .ne 16, 3) := by decide +kernel
theorem dX13_goesOn_35 : decode cX13_goesOn 35 = .ok (.aload_n 0, 1) := by decide +kernel
theorem dX13_goesOn_36 : decode cX13_goesOn 36 = .ok (.aload_n 0, 1) := by decide +kernel
theorem dX13_goesOn_37 : decode cX13_goesOn 37 = .ok (.getfield 77, 3) := by decide +kernel
theorem dX13_goesOn_40 : decode cX13_goesOn 40 = .ok (.putfield 83, 3) := by decide +kernel
theorem dX13_goesOn_43 : decode cX13_goesOn 43 = .ok (.aload_n 0, 1) := by decide +kernel
theorem dX13_goesOn_44 : decode cX13_goesOn 44 = .ok (.iconst 0, 1) := by decide +kernel
theorem dX13_goesOn_45 : decode cX13_goesOn 45 = .ok (.putfield 74, 3) := by decide +kernel
theorem dX13_goesOn_48 : decode cX13_goesOn 48 = .ok (.aload_n 0, 1) := by decide +kernel
theorem dX13_goesOn_49 : decode cX13_goesOn 49 = .ok (.aload_n 0, 1) := by decide +kernel
theorem dX13_goesOn_50 : decode cX13_goesOn 50 = .ok (.getfield 77, 3) := by decide +kernel
theorem dX13_goesOn_53 : decode cX13_goesOn 53 = .ok (.invokevirtual 80, 3) := by decide +kernel
theorem dX13_goesOn_56 : decode cX13_goesOn 56 = .ok (.istore_n 1, 1) := by decide +kernel
theorem dX13_goesOn_57 : decode cX13_goesOn 57 = .ok (.iconst 0, 1) := by decide +kernel
theorem dX13_goesOn_58 : decode cX13_goesOn 58 = .ok (.istore_n 2, 1) := by decide +kernel
theorem dX13_goesOn_59 : decode cX13_goesOn 59 = .ok (.iload_n 1, 1) := by decide +kernel
theorem dX13_goesOn_60 : decode cX13_goesOn 60 = .ok (.iconst (-1), 1) := by decide +kernel
theorem dX13_goesOn_61 : decode cX13_goesOn 61 = .ok (.if_icmp .ne 11, 3) := by decide +kernel
theorem dX13_goesOn_64 : decode cX13_goesOn 64 = .ok (.aload_n 0, 1) := by decide +kernel
theorem dX13_goesOn_65 : decode cX13_goesOn 65 = .ok (.iconst 1, 1) := by decide +kernel
theorem dX13_goesOn_66 : decode cX13_goesOn 66 = .ok (.putfield 74, 3) := by decide +kernel
theorem dX13_goesOn_69 : decode cX13_goesOn 69 = .ok (.goto 201, 3) := by decide +kernel
theorem dX13_goesOn_270 : decode cX13_goesOn 270 = .ok (.return_, 1) := by decide +kernel
theorem dX13_hedge_0 : decode cX13_hedge 0 = .ok (.aload_n 0, 1) := by decide +kernel
theorem dX13_hedge_1 : decode cX13_hedge 1 = .ok (.iconst 0, 1) := by decide +kernel
theorem dX13_hedge_2 : decode cX13_hedge 2 = .ok (.putfield 42, 3) := by decide +kernel
theorem dX13_hedge_5 : decode cX13_hedge 5 = .ok (.aload_n 0, 1) := by decide +kernel
theorem dX13_hedge_6 : decode cX13_hedge 6 = .ok (.iload_n 1, 1) := by decide +kernel
theorem dX13_hedge_7 : decode cX13_hedge 7 = .ok (.iconst 0, 1) := by decide +kernel
theorem dX13_hedge_8 : decode cX13_hedge 8 = .ok (.iconst 3, 1) := by decide +kernel
theorem dX13_hedge_9 : decode cX13_hedge 9 = .ok (.invokevirtual 454, 3) := by decide +kernel
theorem dX13_hedge_12 : decode cX13_hedge 12 = .ok (.ireturn, 1) := by decide +kernel
theorem dX13_image_0 : decode cX13_image 0 = .ok (.aload_n 0, 1) := by decide +kernel
theorem dX13_image_1 : decode cX13_image 1 = .ok (.iconst 0, 1) := by decide +kernel
theorem dX13_image_2 : decode cX13_image 2 = .ok (.putfield 42, 3) := by decide +kernel
theorem dX13_image_5 : decode cX13_image 5 = .ok (.aload_n 0, 1) := by decide +kernel
theorem dX13_image_6 : decode cX13_image 6 = .ok (.getfield 269, 3) := by decide +kernel
theorem dX13_image_9 : decode cX13_image 9 = .ok (.ifnonnull 9, 3) := by decide +kernel
theorem dX13_image_12 : decode cX13_image 12 = .ok (.aload_n 0, 1) := by decide +kernel
theorem dX13_image_13 : decode cX13_image 13 = .ok (.iconst 1, 1) := by decide +kernel
theorem dX13_image_14 : decode cX13_image 14 = .ok (.invokevirtual 48, 3) := by decide +kernel
theorem dX13_image_17 : decode cX13_image 17 = .ok (.ireturn, 1) := by decide +kernel
theorem dX13_in_0 : decode cX13_in 0 = .ok (.iload_n 0, 1) := by decide +kernel
theorem dX13_in_1 : decode cX13_in 1 = .ok (.iload_n 1, 1) := by decide +kernel
theorem dX13_in_2 : decode cX13_in 2 = .ok (.if_icmp .lt 12, 3) := by decide +kernel
theorem dX13_in_5 : decode cX13_in 5 = .ok (.iload_n 0, 1) := by decide +kernel
theorem dX13_in_6 : decode cX13_in 6 = .ok (.iload_n 2, 1) := by decide +kernel
theorem dX13_in_7 : decode cX13_in 7 = .ok (.if_icmp .gt 7, 3) := by decide +kernel
theorem dX13_in_10 : decode cX13_in 10 = .ok (.iconst 1, 1) := by decide +kernel
theorem dX13_in_11 : decode cX13_in 11 = .ok (.goto 4, 3) := by decide +kernel
theorem dX13_in_14 : decode cX13_in 14 = .ok (.iconst 0, 1) := by decide +kernel
theorem dX13_in_15 : decode cX13_in 15 = .ok (.ireturn, 1) := by decide +kernel
theorem dX13_init_0 : decode cX13_init 0 = .ok (.aload_n 0, 1) := by decide +kernel
theorem dX13_init_1 : decode cX13_init 1 = .ok (.invokespecial 3, 3) := by decide +kernel
theorem dX13_init_4 : decode cX13_init 4 = .ok (.aload_n 0, 1) := by decide +kernel
theorem dX13_init_5 : decode cX13_init 5 = .ok (.iconst (-1), 1) := by decide +kernel
theorem dX13_init_6 : decode cX13_init 6 = .ok (.putfield 9, 3) := by decide +kernel
theorem dX13_init_9 : decode cX13_init 9 = .ok (.aload_n 0, 1) := by decide +kernel
theorem dX13_init_10 : decode cX13_init 10 = .ok (.sipush 800, 3) := by decide +kernel
theorem dX13_init_13 : decode cX13_init 13 = .ok (.newarray .byte, 2) := by decide +kernel
theorem dX13_init_15 : decode cX13_init 15 = .ok (.putfield 13, 3) := by decide +kernel
theorem dX13_init_18 : decode cX13_init 18 = .ok (.aload_n 0, 1) := by decide +kernel
theorem dX13_init_19 : decode cX13_init 19 = .ok (.bipush 32, 2) := by decide +kernel
theorem dX13_init_21 : decode cX13_init 21 = .ok (.newarray .int, 2) := by decide +kernel
theorem dX13_init_23 : decode cX13_init 23 = .ok (.putfield 17, 3) := by decide +kernel
theorem dX13_init_26 : decode cX13_init 26 = .ok (.aload_n 0, 1) := by decide +kernel
theorem dX13_init_27 : decode cX13_init 27 = .ok (.bipush 20, 2) := by decide +kernel
theorem dX13_init_29 : decode cX13_init 29 = .ok (.newarray .int, 2) := by decide +kernel
theorem dX13_init_31 : decode cX13_init 31 = .ok (.putfield 21, 3) := by decide +kernel
theorem dX13_init_34 : decode cX13_init 34 = .ok (.aload_n 0, 1) := by decide +kernel
theorem dX13_init_35 : decode cX13_init 35 = .ok (.sipush 512, 3) := by decide +kernel
theorem dX13_init_38 : decode cX13_init 38 = .ok (.newarray .int, 2) := by decide +kernel
theorem dX13_init_40 : decode cX13_init 40 = .ok (.putfield 24, 3) := by decide +kernel
theorem dX13_init_43 : decode cX13_init 43 = .ok (.aload_n 0, 1) := by decide +kernel
theorem dX13_init_44 : decode cX13_init 44 = .ok (.bipush 96, 2) := by decide +kernel
theorem dX13_init_46 : decode cX13_init 46 = .ok (.newarray .int, 2) := by decide +kernel
theorem dX13_init_48 : decode cX13_init 48 = .ok (.putfield 27, 3) := by decide +kernel
theorem dX13_init_51 : decode cX13_init 51 = .ok (.aload_n 0, 1) := by decide +kernel
theorem dX13_init_52 : decode cX13_init 52 = .ok (.bipush 20, 2) := by decide +kernel
theorem dX13_init_54 : decode cX13_init 54 = .ok (.newarray .int, 2) := by decide +kernel
theorem dX13_init_56 : decode cX13_init 56 = .ok (.putfield 30, 3) := by decide +kernel
theorem dX13_init_59 : decode cX13_init 59 = .ok (.aload_n 0, 1) := by decide +kernel
theorem dX13_init_60 : decode cX13_init 60 = .ok (.bipush 20, 2) := by decide +kernel
theorem dX13_init_62 : decode cX13_init 62 = .ok (.newarray .int, 2) := by decide +kernel
theorem dX13_init_64 : decode cX13_init 64 = .ok (.putfield 33, 3) := by decide +kernel
theorem dX13_init_67 : decode cX13_init 67 = .ok (.aload_n 0, 1) := by decide +kernel
theorem dX13_init_68 : decode cX13_init 68 = .ok (.sipush 402, 3) := by decide +kernel
theorem dX13_init_71 : decode cX13_init 71 = .ok (.newarray .int, 2) := by decide +kernel
theorem dX13_init_73 : decode cX13_init 73 = .ok (.putfield 36, 3) := by decide +kernel
theorem dX13_init_76 : decode cX13_init 76 = .ok (.aload_n 0, 1) := by decide +kernel
theorem dX13_init_77 : decode cX13_init 77 = .ok (.iconst 5, 1) := by decide +kernel
theorem dX13_init_78 : decode cX13_init 78 = .ok (.newarray .int, 2) := by decide +kernel
theorem dX13_init_80 : decode cX13_init 80 = .ok (.putfield 39, 3) := by decide +kernel
theorem dX13_init_83 : decode cX13_init 83 = .ok (.return_, 1) := by decide +kernel
theorem dX13_isPlace_0 : decode cX13_isPlace 0 = .ok (.aload_n 0, 1) := by decide +kernel
theorem dX13_isPlace_1 : decode cX13_isPlace 1 = .ok (.getfield 269, 3) := by decide +kernel
theorem dX13_isPlace_4 : decode cX13_isPlace 4 = .ok (.ifnull 19, 3) := by decide +kernel
theorem dX13_isPlace_23 : decode cX13_isPlace 23 = .ok (.iconst 0, 1) := by decide +kernel
theorem dX13_isPlace_24 : decode cX13_isPlace 24 = .ok (.ireturn, 1) := by decide +kernel
theorem dX13_isWalker_0 : decode cX13_isWalker 0 = .ok (.aload_n 0, 1) := by decide +kernel
theorem dX13_isWalker_1 : decode cX13_isWalker 1 = .ok (.getfield 269, 3) := by decide +kernel
theorem dX13_isWalker_4 : decode cX13_isWalker 4 = .ok (.ifnull 22, 3) := by decide +kernel
theorem dX13_isWalker_26 : decode cX13_isWalker 26 = .ok (.iconst 0, 1) := by decide +kernel
theorem dX13_isWalker_27 : decode cX13_isWalker 27 = .ok (.ireturn, 1) := by decide +kernel
theorem dX13_isWord_0 : decode cX13_isWord 0 = .ok (.aload_n 0, 1) := by decide +kernel
theorem dX13_isWord_1 : decode cX13_isWord 1 = .ok (.getfield 74, 3) := by decide +kernel
theorem dX13_isWord_4 : decode cX13_isWord 4 = .ok (.iconst 2, 1) := by decide +kernel
theorem dX13_isWord_5 : decode cX13_isWord 5 = .ok (.if_icmp .ne 19, 3) := by decide +kernel
theorem dX13_isWord_24 : decode cX13_isWord 24 = .ok (.iconst 0, 1) := by decide +kernel
theorem dX13_isWord_25 : decode cX13_isWord 25 = .ok (.ireturn, 1) := by decide +kernel
theorem dX13_judge_0 : decode cX13_judge 0 = .ok (.aload_n 0, 1) := by decide +kernel
theorem dX13_judge_1 : decode cX13_judge 1 = .ok (.iconst 0, 1) := by decide +kernel
theorem dX13_judge_2 : decode cX13_judge 2 = .ok (.putfield 42, 3) := by decide +kernel
theorem dX13_judge_5 : decode cX13_judge 5 = .ok (.aload_n 0, 1) := by decide +kernel
theorem dX13_judge_6 : decode cX13_judge 6 = .ok (.getfield 269, 3) := by decide +kernel
theorem dX13_judge_9 : decode cX13_judge 9 = .ok (.ifnonnull 9, 3) := by decide +kernel
theorem dX13_judge_12 : decode cX13_judge 12 = .ok (.aload_n 0, 1) := by decide +kernel
theorem dX13_judge_13 : decode cX13_judge 13 = .ok (.iconst 1, 1) := by decide +kernel
theorem dX13_judge_14 : decode cX13_judge 14 = .ok (.invokevirtual 48, 3) := by decide +kernel
theorem dX13_judge_17 : decode cX13_judge 17 = .ok (.ireturn, 1) := by decide +kernel
theorem dX13_latest_0 : decode cX13_latest 0 = .ok (.aload_n 0, 1) := by decide +kernel
theorem dX13_latest_1 : decode cX13_latest 1 = .ok (.iconst 0, 1) := by decide +kernel
theorem dX13_latest_2 : decode cX13_latest 2 = .ok (.putfield 42, 3) := by decide +kernel
theorem dX13_latest_5 : decode cX13_latest 5 = .ok (.aload_n 0, 1) := by decide +kernel
theorem dX13_latest_6 : decode cX13_latest 6 = .ok (.getfield 269, 3) := by decide +kernel
theorem dX13_latest_9 : decode cX13_latest 9 = .ok (.ifnonnull 9, 3) := by decide +kernel
theorem dX13_latest_12 : decode cX13_latest 12 = .ok (.aload_n 0, 1) := by decide +kernel
theorem dX13_latest_13 : decode cX13_latest 13 = .ok (.iconst 1, 1) := by decide +kernel
theorem dX13_latest_14 : decode cX13_latest 14 = .ok (.invokevirtual 48, 3) := by decide +kernel
theorem dX13_latest_17 : decode cX13_latest 17 = .ok (.ireturn, 1) := by decide +kernel
theorem dX13_led_0 : decode cX13_led 0 = .ok (.aload_n 0, 1) := by decide +kernel
theorem dX13_led_1 : decode cX13_led 1 = .ok (.iconst 0, 1) := by decide +kernel
theorem dX13_led_2 : decode cX13_led 2 = .ok (.putfield 42, 3) := by decide +kernel
theorem dX13_led_5 : decode cX13_led 5 = .ok (.iconst 0, 1) := by decide +kernel
theorem dX13_led_6 : decode cX13_led 6 = .ok (.istore_n 2, 1) := by decide +kernel
theorem dX13_led_7 : decode cX13_led 7 = .ok (.aload_n 0, 1) := by decide +kernel
theorem dX13_led_8 : decode cX13_led 8 = .ok (.getfield 269, 3) := by decide +kernel
theorem dX13_led_11 : decode cX13_led 11 = .ok (.ifnull 7, 3) := by decide +kernel
theorem dX13_led_18 : decode cX13_led 18 = .ok (.iconst 0, 1) := by decide +kernel
theorem dX13_led_19 : decode cX13_led 19 = .ok (.istore_n 3, 1) := by decide +kernel
theorem dX13_led_20 : decode cX13_led 20 = .ok (.aload_n 0, 1) := by decide +kernel
theorem dX13_led_21 : decode cX13_led 21 = .ok (.getfield 269, 3) := by decide +kernel
theorem dX13_led_24 : decode cX13_led 24 = .ok (.ifnull 45, 3) := by decide +kernel
theorem dX13_led_69 : decode cX13_led 69 = .ok (.aload_n 0, 1) := by decide +kernel
theorem dX13_led_70 : decode cX13_led 70 = .ok (.iconst 1, 1) := by decide +kernel
theorem dX13_led_71 : decode cX13_led 71 = .ok (.putfield 42, 3) := by decide +kernel
theorem dX13_led_74 : decode cX13_led 74 = .ok (.iconst 0, 1) := by decide +kernel
theorem dX13_led_75 : decode cX13_led 75 = .ok (.ireturn, 1) := by decide +kernel
theorem dX13_lies_0 : decode cX13_lies 0 = .ok (.aload_n 0, 1) := by decide +kernel
theorem dX13_lies_1 : decode cX13_lies 1 = .ok (.iconst 0, 1) := by decide +kernel
theorem dX13_lies_2 : decode cX13_lies 2 = .ok (.putfield 42, 3) := by decide +kernel
theorem dX13_lies_5 : decode cX13_lies 5 = .ok (.aload_n 0, 1) := by decide +kernel
theorem dX13_lies_6 : decode cX13_lies 6 = .ok (.iload_n 1, 1) := by decide +kernel
theorem dX13_lies_7 : decode cX13_lies 7 = .ok (.invokevirtual 405, 3) := by decide +kernel
theorem dX13_lies_10 : decode cX13_lies 10 = .ok (.istore 5, 2) := by decide +kernel
theorem dX13_lies_12 : decode cX13_lies 12 = .ok (.iload 5, 2) := by decide +kernel
theorem dX13_lies_14 : decode cX13_lies 14 = .ok (.ifCond .le 12, 3) := by decide +kernel
theorem dX13_lies_17 : decode cX13_lies 17 = .ok (.aload_n 0, 1) := by decide +kernel
theorem dX13_lies_18 : decode cX13_lies 18 = .ok (.iload 5, 2) := by decide +kernel
theorem dX13_lies_20 : decode cX13_lies 20 = .ok (.invokevirtual 408, 3) := by decide +kernel
theorem dX13_lies_23 : decode cX13_lies 23 = .ok (.goto 27, 3) := by decide +kernel
theorem dX13_lies_50 : decode cX13_lies 50 = .ok (.ireturn, 1) := by decide +kernel
theorem dX13_likeliest_0 : decode cX13_likeliest 0 = .ok (.aload_n 0, 1) := by decide +kernel
theorem dX13_likeliest_1 : decode cX13_likeliest 1 = .ok (.iconst 0, 1) := by decide +kernel
theorem dX13_likeliest_2 : decode cX13_likeliest 2 = .ok (.putfield 42, 3) := by decide +kernel
theorem dX13_likeliest_5 : decode cX13_likeliest 5 = .ok (.aload_n 0, 1) := by decide +kernel
theorem dX13_likeliest_6 : decode cX13_likeliest 6 = .ok (.getfield 269, 3) := by decide +kernel
theorem dX13_likeliest_9 : decode cX13_likeliest 9 = .ok (.ifnonnull 9, 3) := by decide +kernel
theorem dX13_likeliest_12 : decode cX13_likeliest 12 = .ok (.aload_n 0, 1) := by decide +kernel
theorem dX13_likeliest_13 : decode cX13_likeliest 13 = .ok (.iconst 1, 1) := by decide +kernel
theorem dX13_likeliest_14 : decode cX13_likeliest 14 = .ok (.invokevirtual 48, 3) := by decide +kernel
theorem dX13_likeliest_17 : decode cX13_likeliest 17 = .ok (.ireturn, 1) := by decide +kernel
theorem dX13_lost_0 : decode cX13_lost 0 = .ok (.aload_n 0, 1) := by decide +kernel
theorem dX13_lost_1 : decode cX13_lost 1 = .ok (.iload_n 1, 1) := by decide +kernel
theorem dX13_lost_2 : decode cX13_lost 2 = .ok (.invokevirtual 48, 3) := by decide +kernel
theorem dX13_lost_5 : decode cX13_lost 5 = .ok (.pop, 1) := by decide +kernel
theorem dX13_lost_6 : decode cX13_lost 6 = .ok (.bipush (-100), 2) := by decide +kernel
theorem dX13_lost_8 : decode cX13_lost 8 = .ok (.ireturn, 1) := by decide +kernel
theorem dX13_mean_0 : decode cX13_mean 0 = .ok (.aload_n 0, 1) := by decide +kernel
theorem dX13_mean_1 : decode cX13_mean 1 = .ok (.iconst 0, 1) := by decide +kernel
theorem dX13_mean_2 : decode cX13_mean 2 = .ok (.putfield 42, 3) := by decide +kernel
theorem dX13_mean_5 : decode cX13_mean 5 = .ok (.aload_n 0, 1) := by decide +kernel
theorem dX13_mean_6 : decode cX13_mean 6 = .ok (.iload_n 1, 1) := by decide +kernel
theorem dX13_mean_7 : decode cX13_mean 7 = .ok (.invokevirtual 311, 3) := by decide +kernel
theorem dX13_mean_10 : decode cX13_mean 10 = .ok (.ifCond .ne 10, 3) := by decide +kernel
theorem dX13_mean_13 : decode cX13_mean 13 = .ok (.aload_n 0, 1) := by decide +kernel
theorem dX13_mean_14 : decode cX13_mean 14 = .ok (.iconst 1, 1) := by decide +kernel
theorem dX13_mean_15 : decode cX13_mean 15 = .ok (.invokevirtual 48, 3) := by decide +kernel
theorem dX13_mean_18 : decode cX13_mean 18 = .ok (.i2l, 1) := by decide +kernel
theorem dX13_mean_19 : decode cX13_mean 19 = .ok (.lreturn, 1) := by decide +kernel
theorem dX13_meet_0 : decode cX13_meet 0 = .ok (.aload_n 0, 1) := by decide +kernel
theorem dX13_meet_1 : decode cX13_meet 1 = .ok (.iconst 0, 1) := by decide +kernel
theorem dX13_meet_2 : decode cX13_meet 2 = .ok (.putfield 42, 3) := by decide +kernel
theorem dX13_meet_5 : decode cX13_meet 5 = .ok (.aload_n 0, 1) := by decide +kernel
theorem dX13_meet_6 : decode cX13_meet 6 = .ok (.iload_n 1, 1) := by decide +kernel
theorem dX13_meet_7 : decode cX13_meet 7 = .ok (.invokevirtual 311, 3) := by decide +kernel
theorem dX13_meet_10 : decode cX13_meet 10 = .ok (.ifCond .eq 29, 3) := by decide +kernel
theorem dX13_meet_39 : decode cX13_meet 39 = .ok (.aload_n 0, 1) := by decide +kernel
theorem dX13_meet_40 : decode cX13_meet 40 = .ok (.iconst 1, 1) := by decide +kernel
theorem dX13_meet_41 : decode cX13_meet 41 = .ok (.invokevirtual 48, 3) := by decide +kernel
theorem dX13_meet_44 : decode cX13_meet 44 = .ok (.ireturn, 1) := by decide +kernel
theorem dX13_meetAt_0 : decode cX13_meetAt 0 = .ok (.aload_n 0, 1) := by decide +kernel
theorem dX13_meetAt_1 : decode cX13_meetAt 1 = .ok (.iconst 0, 1) := by decide +kernel
theorem dX13_meetAt_2 : decode cX13_meetAt 2 = .ok (.putfield 42, 3) := by decide +kernel
theorem dX13_meetAt_5 : decode cX13_meetAt 5 = .ok (.aload_n 0, 1) := by decide +kernel
theorem dX13_meetAt_6 : decode cX13_meetAt 6 = .ok (.iload_n 1, 1) := by decide +kernel
theorem dX13_meetAt_7 : decode cX13_meetAt 7 = .ok (.invokevirtual 311, 3) := by decide +kernel
theorem dX13_meetAt_10 : decode cX13_meetAt 10 = .ok (.ifCond .eq 16, 3) := by decide +kernel
theorem dX13_meetAt_26 : decode cX13_meetAt 26 = .ok (.aload_n 0, 1) := by decide +kernel
theorem dX13_meetAt_27 : decode cX13_meetAt 27 = .ok (.iconst 1, 1) := by decide +kernel
theorem dX13_meetAt_28 : decode cX13_meetAt 28 = .ok (.invokevirtual 48, 3) := by decide +kernel
theorem dX13_meetAt_31 : decode cX13_meetAt 31 = .ok (.ireturn, 1) := by decide +kernel
theorem dX13_minutes_0 : decode cX13_minutes 0 = .ok (.aload_n 0, 1) := by decide +kernel
theorem dX13_minutes_1 : decode cX13_minutes 1 = .ok (.iconst 0, 1) := by decide +kernel
theorem dX13_minutes_2 : decode cX13_minutes 2 = .ok (.putfield 42, 3) := by decide +kernel
theorem dX13_minutes_5 : decode cX13_minutes 5 = .ok (.aload_n 0, 1) := by decide +kernel
theorem dX13_minutes_6 : decode cX13_minutes 6 = .ok (.iload_n 1, 1) := by decide +kernel
theorem dX13_minutes_7 : decode cX13_minutes 7 = .ok (.iload_n 2, 1) := by decide +kernel
theorem dX13_minutes_8 : decode cX13_minutes 8 = .ok (.iload_n 3, 1) := by decide +kernel
theorem dX13_minutes_9 : decode cX13_minutes 9 = .ok (.invokevirtual 314, 3) := by decide +kernel
theorem dX13_minutes_12 : decode cX13_minutes 12 = .ok (.istore 4, 2) := by decide +kernel
theorem dX13_minutes_14 : decode cX13_minutes 14 = .ok (.iload 4, 2) := by decide +kernel
theorem dX13_minutes_16 : decode cX13_minutes 16 = .ok (.ifCond .le 10, 3) := by decide +kernel
theorem dX13_minutes_19 : decode cX13_minutes 19 = .ok (.aload_n 0, 1) := by decide +kernel
theorem dX13_minutes_20 : decode cX13_minutes 20 = .ok (.iload 4, 2) := by decide +kernel
theorem dX13_minutes_22 : decode cX13_minutes 22 = .ok (.invokevirtual 48, 3) := by decide +kernel
theorem dX13_minutes_25 : decode cX13_minutes 25 = .ok (.ireturn, 1) := by decide +kernel
theorem dX13_minutesTo_0 : decode cX13_minutesTo 0 = .ok (.aload_n 0, 1) := by decide +kernel
theorem dX13_minutesTo_1 : decode cX13_minutesTo 1 = .ok (.iconst 0, 1) := by decide +kernel
theorem dX13_minutesTo_2 : decode cX13_minutesTo 2 = .ok (.putfield 42, 3) := by decide +kernel
theorem dX13_minutesTo_5 : decode cX13_minutesTo 5 = .ok (.aload_n 0, 1) := by decide +kernel
theorem dX13_minutesTo_6 : decode cX13_minutesTo 6 = .ok (.iload_n 1, 1) := by decide +kernel
theorem dX13_minutesTo_7 : decode cX13_minutesTo 7 = .ok (.invokevirtual 311, 3) := by decide +kernel
theorem dX13_minutesTo_10 : decode cX13_minutesTo 10 = .ok (.ifCond .eq 11, 3) := by decide +kernel
theorem dX13_minutesTo_21 : decode cX13_minutesTo 21 = .ok (.aload_n 0, 1) := by decide +kernel
theorem dX13_minutesTo_22 : decode cX13_minutesTo 22 = .ok (.iconst 1, 1) := by decide +kernel
theorem dX13_minutesTo_23 : decode cX13_minutesTo 23 = .ok (.invokevirtual 48, 3) := by decide +kernel
theorem dX13_minutesTo_26 : decode cX13_minutesTo 26 = .ok (.ireturn, 1) := by decide +kernel
theorem dX13_odds_0 : decode cX13_odds 0 = .ok (.aload_n 0, 1) := by decide +kernel
theorem dX13_odds_1 : decode cX13_odds 1 = .ok (.iconst 0, 1) := by decide +kernel
theorem dX13_odds_2 : decode cX13_odds 2 = .ok (.putfield 42, 3) := by decide +kernel
theorem dX13_odds_5 : decode cX13_odds 5 = .ok (.aload_n 0, 1) := by decide +kernel
theorem dX13_odds_6 : decode cX13_odds 6 = .ok (.getfield 269, 3) := by decide +kernel
theorem dX13_odds_9 : decode cX13_odds 9 = .ok (.ifnull 18, 3) := by decide +kernel
theorem dX13_odds_27 : decode cX13_odds 27 = .ok (.aload_n 0, 1) := by decide +kernel
theorem dX13_odds_28 : decode cX13_odds 28 = .ok (.iconst 1, 1) := by decide +kernel
theorem dX13_odds_29 : decode cX13_odds 29 = .ok (.invokevirtual 48, 3) := by decide +kernel
theorem dX13_odds_32 : decode cX13_odds 32 = .ok (.i2l, 1) := by decide +kernel
theorem dX13_odds_33 : decode cX13_odds 33 = .ok (.lreturn, 1) := by decide +kernel
theorem dX13_park_0 : decode cX13_park 0 = .ok (.aload_n 0, 1) := by decide +kernel
theorem dX13_park_1 : decode cX13_park 1 = .ok (.iconst 0, 1) := by decide +kernel
theorem dX13_park_2 : decode cX13_park 2 = .ok (.putfield 42, 3) := by decide +kernel
theorem dX13_park_5 : decode cX13_park 5 = .ok (.iload_n 1, 1) := by decide +kernel
theorem dX13_park_6 : decode cX13_park 6 = .ok (.ifCond .lt 11, 3) := by decide +kernel
theorem dX13_park_9 : decode cX13_park 9 = .ok (.iload_n 1, 1) := by decide +kernel
theorem dX13_park_10 : decode cX13_park 10 = .ok (.aload_n 0, 1) := by decide +kernel
theorem dX13_park_11 : decode cX13_park 11 = .ok (.getfield 262, 3) := by decide +kernel
theorem dX13_park_14 : decode cX13_park 14 = .ok (.if_icmp .le 9, 3) := by decide +kernel
theorem dX13_park_17 : decode cX13_park 17 = .ok (.aload_n 0, 1) := by decide +kernel
theorem dX13_park_18 : decode cX13_park 18 = .ok (.iconst 2, 1) := by decide +kernel
theorem dX13_park_19 : decode cX13_park 19 = .ok (.invokevirtual 48, 3) := by decide +kernel
theorem dX13_park_22 : decode cX13_park 22 = .ok (.ireturn, 1) := by decide +kernel
theorem dX13_park_23 : decode cX13_park 23 = .ok (.aload_n 0, 1) := by decide +kernel
theorem dX13_park_24 : decode cX13_park 24 = .ok (.iload_n 1, 1) := by decide +kernel
theorem dX13_park_25 : decode cX13_park 25 = .ok (.putfield 59, 3) := by decide +kernel
theorem dX13_park_28 : decode cX13_park 28 = .ok (.aload_n 0, 1) := by decide +kernel
theorem dX13_park_29 : decode cX13_park 29 = .ok (.iconst 0, 1) := by decide +kernel
theorem dX13_park_30 : decode cX13_park 30 = .ok (.putfield 262, 3) := by decide +kernel
theorem dX13_park_33 : decode cX13_park 33 = .ok (.aload_n 0, 1) := by decide +kernel
theorem dX13_park_34 : decode cX13_park 34 = .ok (.iconst 0, 1) := by decide +kernel
theorem dX13_park_35 : decode cX13_park 35 = .ok (.putfield 77, 3) := by decide +kernel
theorem dX13_park_38 : decode cX13_park 38 = .ok (.aload_n 0, 1) := by decide +kernel
theorem dX13_park_39 : decode cX13_park 39 = .ok (.iconst 0, 1) := by decide +kernel
theorem dX13_park_40 : decode cX13_park 40 = .ok (.putfield 103, 3) := by decide +kernel
theorem dX13_park_43 : decode cX13_park 43 = .ok (.aload_n 0, 1) := by decide +kernel
theorem dX13_park_44 : decode cX13_park 44 = .ok (.new 159, 3) := by decide +kernel
theorem dX13_park_47 : decode cX13_park 47 = .ok (.dup, 1) := by decide +kernel
theorem dX13_park_48 : decode cX13_park 48 = .ok (.invokespecial 265, 3) := by decide +kernel
theorem dX13_park_51 : decode cX13_park 51 = .ok (.putfield 154, 3) := by decide +kernel
theorem dX13_park_54 : decode cX13_park 54 = .ok (.aload_n 0, 1) := by decide +kernel
theorem dX13_park_55 : decode cX13_park 55 = .ok (.iconst 0, 1) := by decide +kernel
theorem dX13_park_56 : decode cX13_park 56 = .ok (.putfield 74, 3) := by decide +kernel
theorem dX13_park_59 : decode cX13_park 59 = .ok (.aload_n 0, 1) := by decide +kernel
theorem dX13_park_60 : decode cX13_park 60 = .ok (.invokevirtual 113, 3) := by decide +kernel
theorem dX13_park_63 : decode cX13_park 63 = .ok (.aload_n 0, 1) := by decide +kernel
theorem dX13_park_64 : decode cX13_park 64 = .ok (.invokevirtual 266, 3) := by decide +kernel
theorem dX13_park_67 : decode cX13_park 67 = .ok (.aload_n 0, 1) := by decide +kernel
theorem dX13_park_68 : decode cX13_park 68 = .ok (.getfield 103, 3) := by decide +kernel
theorem dX13_park_71 : decode cX13_park 71 = .ok (.ifCond .le 18, 3) := by decide +kernel
theorem dX13_park_74 : decode cX13_park 74 = .ok (.aload_n 0, 1) := by decide +kernel
theorem dX13_park_75 : decode cX13_park 75 = .ok (.iconst 4, 1) := by decide +kernel
theorem dX13_park_76 : decode cX13_park 76 = .ok (.putfield 45, 3) := by decide +kernel
theorem dX13_park_79 : decode cX13_park 79 = .ok (.aload_n 0, 1) := by decide +kernel
theorem dX13_park_80 : decode cX13_park 80 = .ok (.aload_n 0, 1) := by decide +kernel
theorem dX13_park_81 : decode cX13_park 81 = .ok (.getfield 106, 3) := by decide +kernel
theorem dX13_park_84 : decode cX13_park 84 = .ok (.putfield 9, 3) := by decide +kernel
theorem dX13_park_87 : decode cX13_park 87 = .ok (.iconst (-1), 1) := by decide +kernel
theorem dX13_park_88 : decode cX13_park 88 = .ok (.ireturn, 1) := by decide +kernel
theorem dX13_passers_0 : decode cX13_passers 0 = .ok (.aload_n 0, 1) := by decide +kernel
theorem dX13_passers_1 : decode cX13_passers 1 = .ok (.iconst 0, 1) := by decide +kernel
theorem dX13_passers_2 : decode cX13_passers 2 = .ok (.putfield 42, 3) := by decide +kernel
theorem dX13_passers_5 : decode cX13_passers 5 = .ok (.aload_n 0, 1) := by decide +kernel
theorem dX13_passers_6 : decode cX13_passers 6 = .ok (.iload_n 1, 1) := by decide +kernel
theorem dX13_passers_7 : decode cX13_passers 7 = .ok (.invokevirtual 302, 3) := by decide +kernel
theorem dX13_passers_10 : decode cX13_passers 10 = .ok (.ifCond .ne 9, 3) := by decide +kernel
theorem dX13_passers_13 : decode cX13_passers 13 = .ok (.aload_n 0, 1) := by decide +kernel
theorem dX13_passers_14 : decode cX13_passers 14 = .ok (.iconst 1, 1) := by decide +kernel
theorem dX13_passers_15 : decode cX13_passers 15 = .ok (.invokevirtual 48, 3) := by decide +kernel
theorem dX13_passers_18 : decode cX13_passers 18 = .ok (.ireturn, 1) := by decide +kernel
theorem dX13_place_0 : decode cX13_place 0 = .ok (.aload_n 0, 1) := by decide +kernel
theorem dX13_place_1 : decode cX13_place 1 = .ok (.iconst 0, 1) := by decide +kernel
theorem dX13_place_2 : decode cX13_place 2 = .ok (.putfield 42, 3) := by decide +kernel
theorem dX13_place_5 : decode cX13_place 5 = .ok (.aload_n 0, 1) := by decide +kernel
theorem dX13_place_6 : decode cX13_place 6 = .ok (.iload_n 1, 1) := by decide +kernel
