theorem dX7_init_40 : decode cX7_init 40 = .ok (.putfield 29, 3) := by decide +kernel
theorem dX7_init_43 : decode cX7_init 43 = .ok (.aload_n 0, 1) := by decide +kernel
theorem dX7_init_44 : decode cX7_init 44 = .ok (.iconst 4, 1) := by decide +kernel
theorem dX7_init_45 : decode cX7_init 45 = .ok (.newarray .int, 2) := by decide +kernel
theorem dX7_init_47 : decode cX7_init 47 = .ok (.putfield 32, 3) := by decide +kernel
theorem dX7_init_50 : decode cX7_init 50 = .ok (.aload_n 0, 1) := by decide +kernel
theorem dX7_init_51 : decode cX7_init 51 = .ok (.bipush 6, 2) := by decide +kernel
theorem dX7_init_53 : decode cX7_init 53 = .ok (.newarray .int, 2) := by decide +kernel
theorem dX7_init_55 : decode cX7_init 55 = .ok (.putfield 35, 3) := by decide +kernel
theorem dX7_init_58 : decode cX7_init 58 = .ok (.aload_n 0, 1) := by decide +kernel
theorem dX7_init_59 : decode cX7_init 59 = .ok (.bipush 6, 2) := by decide +kernel
theorem dX7_init_61 : decode cX7_init 61 = .ok (.newarray .int, 2) := by decide +kernel
theorem dX7_init_63 : decode cX7_init 63 = .ok (.putfield 38, 3) := by decide +kernel
theorem dX7_init_66 : decode cX7_init 66 = .ok (.aload_n 0, 1) := by decide +kernel
theorem dX7_init_67 : decode cX7_init 67 = .ok (.bipush 6, 2) := by decide +kernel
theorem dX7_init_69 : decode cX7_init 69 = .ok (.newarray .boolean, 2) := by decide +kernel
theorem dX7_init_71 : decode cX7_init 71 = .ok (.putfield 41, 3) := by decide +kernel
theorem dX7_init_74 : decode cX7_init 74 = .ok (.return_, 1) := by decide +kernel
theorem dX8_init_0 : decode cX8_init 0 = .ok (.aload_n 0, 1) := by decide +kernel
theorem dX8_init_1 : decode cX8_init 1 = .ok (.invokespecial 3, 3) := by decide +kernel
theorem dX8_init_4 : decode cX8_init 4 = .ok (.return_, 1) := by decide +kernel
theorem dX9_append_0 : decode cX9_append 0 = .ok (.aload_n 0, 1) := by decide +kernel
theorem dX9_append_1 : decode cX9_append 1 = .ok (.getfield 15, 3) := by decide +kernel
theorem dX9_append_4 : decode cX9_append 4 = .ok (.iconst 4, 1) := by decide +kernel
theorem dX9_append_5 : decode cX9_append 5 = .ok (.iadd, 1) := by decide +kernel
theorem dX9_append_6 : decode cX9_append 6 = .ok (.sipush 800, 3) := by decide +kernel
theorem dX9_append_9 : decode cX9_append 9 = .ok (.if_icmp .gt 72, 3) := by decide +kernel
theorem dX9_append_12 : decode cX9_append 12 = .ok (.aload_n 0, 1) := by decide +kernel
theorem dX9_append_13 : decode cX9_append 13 = .ok (.getfield 11, 3) := by decide +kernel
theorem dX9_append_16 : decode cX9_append 16 = .ok (.aload_n 0, 1) := by decide +kernel
theorem dX9_append_17 : decode cX9_append 17 = .ok (.getfield 15, 3) := by decide +kernel
theorem dX9_append_20 : decode cX9_append 20 = .ok (.iload_n 1, 1) := by decide +kernel
theorem dX9_append_21 : decode cX9_append 21 = .ok (.bipush 24, 2) := by decide +kernel
theorem dX9_append_23 : decode cX9_append 23 = .ok (.ishr, 1) := by decide +kernel
theorem dX9_append_24 : decode cX9_append 24 = .ok (.i2b, 1) := by decide +kernel
theorem dX9_append_25 : decode cX9_append 25 = .ok (.bastore, 1) := by decide +kernel
theorem dX9_append_26 : decode cX9_append 26 = .ok (.aload_n 0, 1) := by decide +kernel
theorem dX9_append_27 : decode cX9_append 27 = .ok (.getfield 11, 3) := by decide +kernel
theorem dX9_append_30 : decode cX9_append 30 = .ok (.aload_n 0, 1) := by decide +kernel
theorem dX9_append_31 : decode cX9_append 31 = .ok (.getfield 15, 3) := by decide +kernel
theorem dX9_append_34 : decode cX9_append 34 = .ok (.iconst 1, 1) := by decide +kernel
theorem dX9_append_35 : decode cX9_append 35 = .ok (.iadd, 1) := by decide +kernel
theorem dX9_append_36 : decode cX9_append 36 = .ok (.iload_n 1, 1) := by decide +kernel
theorem dX9_append_37 : decode cX9_append 37 = .ok (.bipush 16, 2) := by decide +kernel
theorem dX9_append_39 : decode cX9_append 39 = .ok (.ishr, 1) := by decide +kernel
theorem dX9_append_40 : decode cX9_append 40 = .ok (.i2b, 1) := by decide +kernel
theorem dX9_append_41 : decode cX9_append 41 = .ok (.bastore, 1) := by decide +kernel
theorem dX9_append_42 : decode cX9_append 42 = .ok (.aload_n 0, 1) := by decide +kernel
theorem dX9_append_43 : decode cX9_append 43 = .ok (.getfield 11, 3) := by decide +kernel
theorem dX9_append_46 : decode cX9_append 46 = .ok (.aload_n 0, 1) := by decide +kernel
theorem dX9_append_47 : decode cX9_append 47 = .ok (.getfield 15, 3) := by decide +kernel
theorem dX9_append_50 : decode cX9_append 50 = .ok (.iconst 2, 1) := by decide +kernel
theorem dX9_append_51 : decode cX9_append 51 = .ok (.iadd, 1) := by decide +kernel
theorem dX9_append_52 : decode cX9_append 52 = .ok (.iload_n 1, 1) := by decide +kernel
theorem dX9_append_53 : decode cX9_append 53 = .ok (.bipush 8, 2) := by decide +kernel
theorem dX9_append_55 : decode cX9_append 55 = .ok (.ishr, 1) := by decide +kernel
theorem dX9_append_56 : decode cX9_append 56 = .ok (.i2b, 1) := by decide +kernel
theorem dX9_append_57 : decode cX9_append 57 = .ok (.bastore, 1) := by decide +kernel
theorem dX9_append_58 : decode cX9_append 58 = .ok (.aload_n 0, 1) := by decide +kernel
theorem dX9_append_59 : decode cX9_append 59 = .ok (.getfield 11, 3) := by decide +kernel
theorem dX9_append_62 : decode cX9_append 62 = .ok (.aload_n 0, 1) := by decide +kernel
theorem dX9_append_63 : decode cX9_append 63 = .ok (.getfield 15, 3) := by decide +kernel
theorem dX9_append_66 : decode cX9_append 66 = .ok (.iconst 3, 1) := by decide +kernel
theorem dX9_append_67 : decode cX9_append 67 = .ok (.iadd, 1) := by decide +kernel
theorem dX9_append_68 : decode cX9_append 68 = .ok (.iload_n 1, 1) := by decide +kernel
theorem dX9_append_69 : decode cX9_append 69 = .ok (.i2b, 1) := by decide +kernel
theorem dX9_append_70 : decode cX9_append 70 = .ok (.bastore, 1) := by decide +kernel
theorem dX9_append_71 : decode cX9_append 71 = .ok (.aload_n 0, 1) := by decide +kernel
theorem dX9_append_72 : decode cX9_append 72 = .ok (.dup, 1) := by decide +kernel
theorem dX9_append_73 : decode cX9_append 73 = .ok (.getfield 15, 3) := by decide +kernel
theorem dX9_append_76 : decode cX9_append 76 = .ok (.iconst 4, 1) := by decide +kernel
theorem dX9_append_77 : decode cX9_append 77 = .ok (.iadd, 1) := by decide +kernel
theorem dX9_append_78 : decode cX9_append 78 = .ok (.putfield 15, 3) := by decide +kernel
theorem dX9_append_81 : decode cX9_append 81 = .ok (.return_, 1) := by decide +kernel
theorem dX9_hasRoom_0 : decode cX9_hasRoom 0 = .ok (.aload_n 0, 1) := by decide +kernel
theorem dX9_hasRoom_1 : decode cX9_hasRoom 1 = .ok (.getfield 15, 3) := by decide +kernel
theorem dX9_hasRoom_4 : decode cX9_hasRoom 4 = .ok (.bipush 20, 2) := by decide +kernel
theorem dX9_hasRoom_6 : decode cX9_hasRoom 6 = .ok (.iadd, 1) := by decide +kernel
theorem dX9_hasRoom_7 : decode cX9_hasRoom 7 = .ok (.sipush 800, 3) := by decide +kernel
theorem dX9_hasRoom_10 : decode cX9_hasRoom 10 = .ok (.if_icmp .gt 7, 3) := by decide +kernel
theorem dX9_hasRoom_13 : decode cX9_hasRoom 13 = .ok (.iconst 1, 1) := by decide +kernel
theorem dX9_hasRoom_14 : decode cX9_hasRoom 14 = .ok (.goto 4, 3) := by decide +kernel
theorem dX9_hasRoom_18 : decode cX9_hasRoom 18 = .ok (.ireturn, 1) := by decide +kernel
theorem dX9_init_0 : decode cX9_init 0 = .ok (.aload_n 0, 1) := by decide +kernel
theorem dX9_init_1 : decode cX9_init 1 = .ok (.invokespecial 3, 3) := by decide +kernel
theorem dX9_init_4 : decode cX9_init 4 = .ok (.aload_n 0, 1) := by decide +kernel
theorem dX9_init_5 : decode cX9_init 5 = .ok (.sipush 800, 3) := by decide +kernel
theorem dX9_init_8 : decode cX9_init 8 = .ok (.newarray .byte, 2) := by decide +kernel
theorem dX9_init_10 : decode cX9_init 10 = .ok (.putfield 11, 3) := by decide +kernel
theorem dX9_init_13 : decode cX9_init 13 = .ok (.return_, 1) := by decide +kernel
theorem dX9_isWord_0 : decode cX9_isWord 0 = .ok (.aload_n 0, 1) := by decide +kernel
theorem dX9_isWord_1 : decode cX9_isWord 1 = .ok (.getfield 66, 3) := by decide +kernel
theorem dX9_isWord_4 : decode cX9_isWord 4 = .ok (.iconst 1, 1) := by decide +kernel
theorem dX9_isWord_5 : decode cX9_isWord 5 = .ok (.if_icmp .ne 19, 3) := by decide +kernel
theorem dX9_isWord_24 : decode cX9_isWord 24 = .ok (.iconst 0, 1) := by decide +kernel
theorem dX9_isWord_25 : decode cX9_isWord 25 = .ok (.ireturn, 1) := by decide +kernel
theorem dX9_lineWord_0 : decode cX9_lineWord 0 = .ok (.aload_n 0, 1) := by decide +kernel
theorem dX9_lineWord_1 : decode cX9_lineWord 1 = .ok (.ldc 203, 2) := by decide +kernel
theorem dX9_lineWord_3 : decode cX9_lineWord 3 = .ok (.invokevirtual 183, 3) := by decide +kernel
theorem dX9_lineWord_6 : decode cX9_lineWord 6 = .ok (.ifCond .eq 5, 3) := by decide +kernel
theorem dX9_lineWord_11 : decode cX9_lineWord 11 = .ok (.aload_n 0, 1) := by decide +kernel
theorem dX9_lineWord_12 : decode cX9_lineWord 12 = .ok (.ldc 205, 2) := by decide +kernel
theorem dX9_lineWord_14 : decode cX9_lineWord 14 = .ok (.invokevirtual 183, 3) := by decide +kernel
theorem dX9_lineWord_17 : decode cX9_lineWord 17 = .ok (.ifCond .eq 5, 3) := by decide +kernel
theorem dX9_lineWord_22 : decode cX9_lineWord 22 = .ok (.aload_n 0, 1) := by decide +kernel
theorem dX9_lineWord_23 : decode cX9_lineWord 23 = .ok (.ldc 207, 2) := by decide +kernel
theorem dX9_lineWord_25 : decode cX9_lineWord 25 = .ok (.invokevirtual 183, 3) := by decide +kernel
theorem dX9_lineWord_28 : decode cX9_lineWord 28 = .ok (.ifCond .eq 5, 3) := by decide +kernel
theorem dX9_lineWord_33 : decode cX9_lineWord 33 = .ok (.aload_n 0, 1) := by decide +kernel
theorem dX9_lineWord_34 : decode cX9_lineWord 34 = .ok (.ldc 209, 2) := by decide +kernel
theorem dX9_lineWord_36 : decode cX9_lineWord 36 = .ok (.invokevirtual 183, 3) := by decide +kernel
theorem dX9_lineWord_39 : decode cX9_lineWord 39 = .ok (.ifCond .eq 7, 3) := by decide +kernel
theorem dX9_lineWord_46 : decode cX9_lineWord 46 = .ok (.iconst (-1), 1) := by decide +kernel
theorem dX9_lineWord_47 : decode cX9_lineWord 47 = .ok (.ireturn, 1) := by decide +kernel
theorem dX9_next_0 : decode cX9_next 0 = .ok (.aload_n 0, 1) := by decide +kernel
theorem dX9_next_1 : decode cX9_next 1 = .ok (.aload_n 0, 1) := by decide +kernel
theorem dX9_next_2 : decode cX9_next 2 = .ok (.aload_n 0, 1) := by decide +kernel
theorem dX9_next_3 : decode cX9_next 3 = .ok (.getfield 28, 3) := by decide +kernel
theorem dX9_next_6 : decode cX9_next 6 = .ok (.bipush 32, 2) := by decide +kernel
theorem dX9_next_8 : decode cX9_next 8 = .ok (.bipush 32, 2) := by decide +kernel
theorem dX9_next_10 : decode cX9_next 10 = .ok (.invokevirtual 227, 3) := by decide +kernel
theorem dX9_next_13 : decode cX9_next 13 = .ok (.putfield 119, 3) := by decide +kernel
theorem dX9_next_16 : decode cX9_next 16 = .ok (.aload_n 0, 1) := by decide +kernel
theorem dX9_next_17 : decode cX9_next 17 = .ok (.aload_n 0, 1) := by decide +kernel
theorem dX9_next_18 : decode cX9_next 18 = .ok (.getfield 119, 3) := by decide +kernel
theorem dX9_next_21 : decode cX9_next 21 = .ok (.bipush 97, 2) := by decide +kernel
theorem dX9_next_23 : decode cX9_next 23 = .ok (.bipush 122, 2) := by decide +kernel
theorem dX9_next_25 : decode cX9_next 25 = .ok (.invokevirtual 227, 3) := by decide +kernel
theorem dX9_next_28 : decode cX9_next 28 = .ok (.aload_n 0, 1) := by decide +kernel
theorem dX9_next_29 : decode cX9_next 29 = .ok (.getfield 119, 3) := by decide +kernel
theorem dX9_next_32 : decode cX9_next 32 = .ok (.isub, 1) := by decide +kernel
theorem dX9_next_33 : decode cX9_next 33 = .ok (.istore_n 1, 1) := by decide +kernel
theorem dX9_next_34 : decode cX9_next 34 = .ok (.aload_n 0, 1) := by decide +kernel
theorem dX9_next_35 : decode cX9_next 35 = .ok (.aload_n 0, 1) := by decide +kernel
theorem dX9_next_36 : decode cX9_next 36 = .ok (.getfield 119, 3) := by decide +kernel
theorem dX9_next_39 : decode cX9_next 39 = .ok (.bipush 48, 2) := by decide +kernel
theorem dX9_next_41 : decode cX9_next 41 = .ok (.bipush 57, 2) := by decide +kernel
theorem dX9_next_43 : decode cX9_next 43 = .ok (.invokevirtual 227, 3) := by decide +kernel
theorem dX9_next_46 : decode cX9_next 46 = .ok (.aload_n 0, 1) := by decide +kernel
theorem dX9_next_47 : decode cX9_next 47 = .ok (.getfield 119, 3) := by decide +kernel
theorem dX9_next_50 : decode cX9_next 50 = .ok (.isub, 1) := by decide +kernel
theorem dX9_next_51 : decode cX9_next 51 = .ok (.istore_n 2, 1) := by decide +kernel
theorem dX9_next_52 : decode cX9_next 52 = .ok (.aload_n 0, 1) := by decide +kernel
theorem dX9_next_53 : decode cX9_next 53 = .ok (.aload_n 0, 1) := by decide +kernel
theorem dX9_next_54 : decode cX9_next 54 = .ok (.getfield 119, 3) := by decide +kernel
theorem dX9_next_57 : decode cX9_next 57 = .ok (.iload_n 1, 1) := by decide +kernel
theorem dX9_next_58 : decode cX9_next 58 = .ok (.iload_n 2, 1) := by decide +kernel
theorem dX9_next_59 : decode cX9_next 59 = .ok (.invokestatic 231, 3) := by decide +kernel
theorem dX9_next_62 : decode cX9_next 62 = .ok (.iadd, 1) := by decide +kernel
theorem dX9_next_63 : decode cX9_next 63 = .ok (.putfield 28, 3) := by decide +kernel
theorem dX9_next_66 : decode cX9_next 66 = .ok (.aload_n 0, 1) := by decide +kernel
theorem dX9_next_67 : decode cX9_next 67 = .ok (.getfield 119, 3) := by decide +kernel
theorem dX9_next_70 : decode cX9_next 70 = .ok (.aload_n 0, 1) := by decide +kernel
theorem dX9_next_71 : decode cX9_next 71 = .ok (.getfield 25, 3) := by decide +kernel
theorem dX9_next_74 : decode cX9_next 74 = .ok (.if_icmp .lt 11, 3) := by decide +kernel
theorem dX9_next_77 : decode cX9_next 77 = .ok (.aload_n 0, 1) := by decide +kernel
theorem dX9_next_78 : decode cX9_next 78 = .ok (.iconst 4, 1) := by decide +kernel
theorem dX9_next_79 : decode cX9_next 79 = .ok (.putfield 66, 3) := by decide +kernel
theorem dX9_next_82 : decode cX9_next 82 = .ok (.goto 79, 3) := by decide +kernel
theorem dX9_next_161 : decode cX9_next 161 = .ok (.return_, 1) := by decide +kernel
theorem dX9_read_0 : decode cX9_read 0 = .ok (.aload_n 0, 1) := by decide +kernel
theorem dX9_read_1 : decode cX9_read 1 = .ok (.iload_n 1, 1) := by decide +kernel
theorem dX9_read_2 : decode cX9_read 2 = .ok (.aload_n 0, 1) := by decide +kernel
theorem dX9_read_3 : decode cX9_read 3 = .ok (.getfield 15, 3) := by decide +kernel
theorem dX9_read_6 : decode cX9_read 6 = .ok (.invokestatic 19, 3) := by decide +kernel
theorem dX9_read_9 : decode cX9_read 9 = .ok (.putfield 25, 3) := by decide +kernel
theorem dX9_read_12 : decode cX9_read 12 = .ok (.aload_n 0, 1) := by decide +kernel
theorem dX9_read_13 : decode cX9_read 13 = .ok (.iconst 0, 1) := by decide +kernel
theorem dX9_read_14 : decode cX9_read 14 = .ok (.putfield 15, 3) := by decide +kernel
theorem dX9_read_17 : decode cX9_read 17 = .ok (.aload_n 0, 1) := by decide +kernel
theorem dX9_read_18 : decode cX9_read 18 = .ok (.iconst 0, 1) := by decide +kernel
theorem dX9_read_19 : decode cX9_read 19 = .ok (.putfield 28, 3) := by decide +kernel
theorem dX9_read_22 : decode cX9_read 22 = .ok (.aload_n 0, 1) := by decide +kernel
theorem dX9_read_23 : decode cX9_read 23 = .ok (.iconst 0, 1) := by decide +kernel
theorem dX9_read_24 : decode cX9_read 24 = .ok (.putfield 31, 3) := by decide +kernel
theorem dX9_read_27 : decode cX9_read 27 = .ok (.aload_n 0, 1) := by decide +kernel
theorem dX9_read_28 : decode cX9_read 28 = .ok (.iconst (-1), 1) := by decide +kernel
theorem dX9_read_29 : decode cX9_read 29 = .ok (.putfield 34, 3) := by decide +kernel
theorem dX9_read_32 : decode cX9_read 32 = .ok (.aload_n 2, 1) := by decide +kernel
theorem dX9_read_33 : decode cX9_read 33 = .ok (.invokevirtual 37, 3) := by decide +kernel
theorem dX9_read_36 : decode cX9_read 36 = .ok (.aload_n 0, 1) := by decide +kernel
theorem dX9_read_37 : decode cX9_read 37 = .ok (.invokevirtual 42, 3) := by decide +kernel
theorem dX9_read_40 : decode cX9_read 40 = .ok (.iconst 0, 1) := by decide +kernel
theorem dX9_read_41 : decode cX9_read 41 = .ok (.istore_n 3, 1) := by decide +kernel
theorem dX9_read_42 : decode cX9_read 42 = .ok (.iload_n 3, 1) := by decide +kernel
theorem dX9_read_43 : decode cX9_read 43 = .ok (.sipush 800, 3) := by decide +kernel
theorem dX9_read_46 : decode cX9_read 46 = .ok (.if_icmp .gt 146, 3) := by decide +kernel
theorem dX9_read_49 : decode cX9_read 49 = .ok (.aload_n 0, 1) := by decide +kernel
theorem dX9_read_50 : decode cX9_read 50 = .ok (.invokevirtual 45, 3) := by decide +kernel
theorem dX9_read_53 : decode cX9_read 53 = .ok (.tableswitch 71 0 3 #[31, 41, 51, 61], 31) := by decide +kernel
theorem dX9_read_124 : decode cX9_read 124 = .ok (.aload_n 0, 1) := by decide +kernel
theorem dX9_read_125 : decode cX9_read 125 = .ok (.iconst 1, 1) := by decide +kernel
theorem dX9_read_126 : decode cX9_read 126 = .ok (.invokevirtual 62, 3) := by decide +kernel
theorem dX9_read_129 : decode cX9_read 129 = .ok (.istore 4, 2) := by decide +kernel
theorem dX9_read_131 : decode cX9_read 131 = .ok (.iload 4, 2) := by decide +kernel
theorem dX9_read_133 : decode cX9_read 133 = .ok (.ifCond .ne 5, 3) := by decide +kernel
theorem dX9_read_136 : decode cX9_read 136 = .ok (.iconst 0, 1) := by decide +kernel
theorem dX9_read_137 : decode cX9_read 137 = .ok (.ireturn, 1) := by decide +kernel
theorem dX9_runEnd_0 : decode cX9_runEnd 0 = .ok (.iload_n 1, 1) := by decide +kernel
theorem dX9_runEnd_1 : decode cX9_runEnd 1 = .ok (.istore 4, 2) := by decide +kernel
theorem dX9_runEnd_3 : decode cX9_runEnd 3 = .ok (.iload 4, 2) := by decide +kernel
theorem dX9_runEnd_5 : decode cX9_runEnd 5 = .ok (.aload_n 0, 1) := by decide +kernel
theorem dX9_runEnd_6 : decode cX9_runEnd 6 = .ok (.getfield 25, 3) := by decide +kernel
theorem dX9_runEnd_9 : decode cX9_runEnd 9 = .ok (.if_icmp .ge 31, 3) := by decide +kernel
theorem dX9_runEnd_40 : decode cX9_runEnd 40 = .ok (.iload 4, 2) := by decide +kernel
theorem dX9_runEnd_42 : decode cX9_runEnd 42 = .ok (.ireturn, 1) := by decide +kernel
theorem dX9_wrong_0 : decode cX9_wrong 0 = .ok (.aload_n 0, 1) := by decide +kernel
theorem dX9_wrong_1 : decode cX9_wrong 1 = .ok (.iload_n 1, 1) := by decide +kernel
theorem dX9_wrong_2 : decode cX9_wrong 2 = .ok (.putfield 31, 3) := by decide +kernel
theorem dX9_wrong_5 : decode cX9_wrong 5 = .ok (.aload_n 0, 1) := by decide +kernel
theorem dX9_wrong_6 : decode cX9_wrong 6 = .ok (.aload_n 0, 1) := by decide +kernel
theorem dX9_wrong_7 : decode cX9_wrong 7 = .ok (.getfield 119, 3) := by decide +kernel
theorem dX9_wrong_10 : decode cX9_wrong 10 = .ok (.putfield 34, 3) := by decide +kernel
theorem dX9_wrong_13 : decode cX9_wrong 13 = .ok (.iconst 0, 1) := by decide +kernel
theorem dX9_wrong_14 : decode cX9_wrong 14 = .ok (.ireturn, 1) := by decide +kernel
