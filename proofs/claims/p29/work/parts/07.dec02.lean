theorem dzbX11_refusalOfRamble_43 : dzB cX11_refusalOfRamble 43 [3, 167, 0, 4, 5, 172] := by decide +kernel
theorem dX11_refusalOfRamble_43 : decode cX11_refusalOfRamble 43 = .ok (.iconst 0, 1) := dz0 dzo3 0 dzbX11_refusalOfRamble_43 rfl
theorem dX11_refusalOfRamble_44 : decode cX11_refusalOfRamble 44 = .ok (.goto 4, 3) := dz4 dzo167 1 0 4 4 rfl dzbX11_refusalOfRamble_43 rfl
theorem dX11_refusalOfRamble_47 : decode cX11_refusalOfRamble 47 = .ok (.iconst 2, 1) := dz0 dzo5 4 dzbX11_refusalOfRamble_43 rfl
theorem dX11_refusalOfRamble_48 : decode cX11_refusalOfRamble 48 = .ok (.ireturn, 1) := dz0 dzo172 5 dzbX11_refusalOfRamble_43 rfl
theorem dzbX11_refusalOfShame_0 : dzB cX11_refusalOfShame 0 [42, 182, 0, 188, 154, 0, 5, 4, 172, 27, 155, 0, 9, 27, 16, 9, 164, 0, 7, 5, 167, 0, 4, 3] := by decide +kernel
theorem dX11_refusalOfShame_0 : decode cX11_refusalOfShame 0 = .ok (.aload_n 0, 1) := dz0 dzo42 0 dzbX11_refusalOfShame_0 rfl
theorem dX11_refusalOfShame_1 : decode cX11_refusalOfShame 1 = .ok (.invokevirtual 188, 3) := dz2 dzo182 1 0 188 dzbX11_refusalOfShame_0 rfl
theorem dX11_refusalOfShame_4 : decode cX11_refusalOfShame 4 = .ok (.ifCond .ne 5, 3) := dz4 dzo154 4 0 5 5 rfl dzbX11_refusalOfShame_0 rfl
theorem dX11_refusalOfShame_7 : decode cX11_refusalOfShame 7 = .ok (.iconst 1, 1) := dz0 dzo4 7 dzbX11_refusalOfShame_0 rfl
theorem dX11_refusalOfShame_8 : decode cX11_refusalOfShame 8 = .ok (.ireturn, 1) := dz0 dzo172 8 dzbX11_refusalOfShame_0 rfl
theorem dX11_refusalOfShame_9 : decode cX11_refusalOfShame 9 = .ok (.iload_n 1, 1) := dz0 dzo27 9 dzbX11_refusalOfShame_0 rfl
theorem dX11_refusalOfShame_10 : decode cX11_refusalOfShame 10 = .ok (.ifCond .lt 9, 3) := dz4 dzo155 10 0 9 9 rfl dzbX11_refusalOfShame_0 rfl
theorem dX11_refusalOfShame_13 : decode cX11_refusalOfShame 13 = .ok (.iload_n 1, 1) := dz0 dzo27 13 dzbX11_refusalOfShame_0 rfl
theorem dX11_refusalOfShame_14 : decode cX11_refusalOfShame 14 = .ok (.bipush 9, 2) := dz3 dzo16 14 9 9 rfl dzbX11_refusalOfShame_0 rfl
theorem dX11_refusalOfShame_16 : decode cX11_refusalOfShame 16 = .ok (.if_icmp .le 7, 3) := dz4 dzo164 16 0 7 7 rfl dzbX11_refusalOfShame_0 rfl
theorem dX11_refusalOfShame_19 : decode cX11_refusalOfShame 19 = .ok (.iconst 2, 1) := dz0 dzo5 19 dzbX11_refusalOfShame_0 rfl
theorem dX11_refusalOfShame_20 : decode cX11_refusalOfShame 20 = .ok (.goto 4, 3) := dz4 dzo167 20 0 4 4 rfl dzbX11_refusalOfShame_0 rfl
theorem dX11_refusalOfShame_23 : decode cX11_refusalOfShame 23 = .ok (.iconst 0, 1) := dz0 dzo3 23 dzbX11_refusalOfShame_0 rfl
theorem dzbX11_refusalOfShame_24 : dzB cX11_refusalOfShame 24 [172] := by decide +kernel
theorem dX11_refusalOfShame_24 : decode cX11_refusalOfShame 24 = .ok (.ireturn, 1) := dz0 dzo172 0 dzbX11_refusalOfShame_24 rfl
theorem dzbX11_refuse_0 : dzB cX11_refuse 0 [42, 27, 181, 0, 136, 2, 172] := by decide +kernel
theorem dX11_refuse_0 : decode cX11_refuse 0 = .ok (.aload_n 0, 1) := dz0 dzo42 0 dzbX11_refuse_0 rfl
theorem dX11_refuse_1 : decode cX11_refuse 1 = .ok (.iload_n 1, 1) := dz0 dzo27 1 dzbX11_refuse_0 rfl
theorem dX11_refuse_2 : decode cX11_refuse 2 = .ok (.putfield 136, 3) := dz2 dzo181 2 0 136 dzbX11_refuse_0 rfl
theorem dX11_refuse_5 : decode cX11_refuse 5 = .ok (.iconst (-1), 1) := dz0 dzo2 5 dzbX11_refuse_0 rfl
theorem dX11_refuse_6 : decode cX11_refuse 6 = .ok (.ireturn, 1) := dz0 dzo172 6 dzbX11_refuse_0 rfl
theorem dzbX11_report_0 : dzB cX11_report 0 [42, 27, 181, 0, 136, 27, 154, 0, 7, 4, 167, 0, 4, 3, 172] := by decide +kernel
theorem dX11_report_0 : decode cX11_report 0 = .ok (.aload_n 0, 1) := dz0 dzo42 0 dzbX11_report_0 rfl
theorem dX11_report_1 : decode cX11_report 1 = .ok (.iload_n 1, 1) := dz0 dzo27 1 dzbX11_report_0 rfl
theorem dX11_report_2 : decode cX11_report 2 = .ok (.putfield 136, 3) := dz2 dzo181 2 0 136 dzbX11_report_0 rfl
theorem dX11_report_5 : decode cX11_report 5 = .ok (.iload_n 1, 1) := dz0 dzo27 5 dzbX11_report_0 rfl
theorem dX11_report_6 : decode cX11_report 6 = .ok (.ifCond .ne 7, 3) := dz4 dzo154 6 0 7 7 rfl dzbX11_report_0 rfl
theorem dX11_report_9 : decode cX11_report 9 = .ok (.iconst 1, 1) := dz0 dzo4 9 dzbX11_report_0 rfl
theorem dX11_report_10 : decode cX11_report 10 = .ok (.goto 4, 3) := dz4 dzo167 10 0 4 4 rfl dzbX11_report_0 rfl
theorem dX11_report_13 : decode cX11_report 13 = .ok (.iconst 0, 1) := dz0 dzo3 13 dzbX11_report_0 rfl
theorem dX11_report_14 : decode cX11_report 14 = .ok (.ireturn, 1) := dz0 dzo172 14 dzbX11_report_0 rfl
theorem dzbX11_rest_0 : dzB cX11_rest 0 [42, 27, 182, 1, 62, 61, 28, 153, 0, 9, 42, 28, 182, 0, 100, 172, 3, 62, 29, 7, 162, 0, 53, 27] := by decide +kernel
theorem dX11_rest_0 : decode cX11_rest 0 = .ok (.aload_n 0, 1) := dz0 dzo42 0 dzbX11_rest_0 rfl
theorem dX11_rest_1 : decode cX11_rest 1 = .ok (.iload_n 1, 1) := dz0 dzo27 1 dzbX11_rest_0 rfl
theorem dX11_rest_2 : decode cX11_rest 2 = .ok (.invokevirtual 318, 3) := dz2 dzo182 2 1 62 dzbX11_rest_0 rfl
theorem dX11_rest_5 : decode cX11_rest 5 = .ok (.istore_n 2, 1) := dz0 dzo61 5 dzbX11_rest_0 rfl
theorem dX11_rest_6 : decode cX11_rest 6 = .ok (.iload_n 2, 1) := dz0 dzo28 6 dzbX11_rest_0 rfl
theorem dX11_rest_7 : decode cX11_rest 7 = .ok (.ifCond .eq 9, 3) := dz4 dzo153 7 0 9 9 rfl dzbX11_rest_0 rfl
theorem dX11_rest_10 : decode cX11_rest 10 = .ok (.aload_n 0, 1) := dz0 dzo42 10 dzbX11_rest_0 rfl
theorem dX11_rest_11 : decode cX11_rest 11 = .ok (.iload_n 2, 1) := dz0 dzo28 11 dzbX11_rest_0 rfl
theorem dX11_rest_12 : decode cX11_rest 12 = .ok (.invokevirtual 100, 3) := dz2 dzo182 12 0 100 dzbX11_rest_0 rfl
theorem dX11_rest_15 : decode cX11_rest 15 = .ok (.ireturn, 1) := dz0 dzo172 15 dzbX11_rest_0 rfl
theorem dX11_rest_16 : decode cX11_rest 16 = .ok (.iconst 0, 1) := dz0 dzo3 16 dzbX11_rest_0 rfl
theorem dX11_rest_17 : decode cX11_rest 17 = .ok (.istore_n 3, 1) := dz0 dzo62 17 dzbX11_rest_0 rfl
theorem dX11_rest_18 : decode cX11_rest 18 = .ok (.iload_n 3, 1) := dz0 dzo29 18 dzbX11_rest_0 rfl
theorem dX11_rest_19 : decode cX11_rest 19 = .ok (.iconst 4, 1) := dz0 dzo7 19 dzbX11_rest_0 rfl
theorem dX11_rest_20 : decode cX11_rest 20 = .ok (.if_icmp .ge 53, 3) := dz4 dzo162 20 0 53 53 rfl dzbX11_rest_0 rfl
theorem dX11_rest_23 : decode cX11_rest 23 = .ok (.iload_n 1, 1) := dz0 dzo27 23 dzbX11_rest_0 rfl
theorem dzbX11_rest_24 : dzB cX11_rest 24 [29, 5, 161, 0, 7, 4, 167, 0, 4, 3, 29, 5, 112, 4, 160, 0, 7, 4, 167, 0, 4, 3] := by decide +kernel
theorem dX11_rest_24 : decode cX11_rest 24 = .ok (.iload_n 3, 1) := dz0 dzo29 0 dzbX11_rest_24 rfl
theorem dX11_rest_25 : decode cX11_rest 25 = .ok (.iconst 2, 1) := dz0 dzo5 1 dzbX11_rest_24 rfl
theorem dX11_rest_26 : decode cX11_rest 26 = .ok (.if_icmp .lt 7, 3) := dz4 dzo161 2 0 7 7 rfl dzbX11_rest_24 rfl
theorem dX11_rest_29 : decode cX11_rest 29 = .ok (.iconst 1, 1) := dz0 dzo4 5 dzbX11_rest_24 rfl
theorem dX11_rest_30 : decode cX11_rest 30 = .ok (.goto 4, 3) := dz4 dzo167 6 0 4 4 rfl dzbX11_rest_24 rfl
theorem dX11_rest_33 : decode cX11_rest 33 = .ok (.iconst 0, 1) := dz0 dzo3 9 dzbX11_rest_24 rfl
theorem dX11_rest_34 : decode cX11_rest 34 = .ok (.iload_n 3, 1) := dz0 dzo29 10 dzbX11_rest_24 rfl
theorem dX11_rest_35 : decode cX11_rest 35 = .ok (.iconst 2, 1) := dz0 dzo5 11 dzbX11_rest_24 rfl
theorem dX11_rest_36 : decode cX11_rest 36 = .ok (.irem, 1) := dz0 dzo112 12 dzbX11_rest_24 rfl
theorem dX11_rest_37 : decode cX11_rest 37 = .ok (.iconst 1, 1) := dz0 dzo4 13 dzbX11_rest_24 rfl
theorem dX11_rest_38 : decode cX11_rest 38 = .ok (.if_icmp .ne 7, 3) := dz4 dzo160 14 0 7 7 rfl dzbX11_rest_24 rfl
theorem dX11_rest_41 : decode cX11_rest 41 = .ok (.iconst 1, 1) := dz0 dzo4 17 dzbX11_rest_24 rfl
theorem dX11_rest_42 : decode cX11_rest 42 = .ok (.goto 4, 3) := dz4 dzo167 18 0 4 4 rfl dzbX11_rest_24 rfl
theorem dX11_rest_45 : decode cX11_rest 45 = .ok (.iconst 0, 1) := dz0 dzo3 21 dzbX11_rest_24 rfl
theorem dzbX11_rest_46 : dzB cX11_rest 46 [184, 1, 69, 153, 0, 18, 42, 29, 5, 108, 16, 10, 104, 29, 5, 112, 96, 182, 0, 130, 172, 132, 3, 1] := by decide +kernel
theorem dX11_rest_46 : decode cX11_rest 46 = .ok (.invokestatic 325, 3) := dz2 dzo184 0 1 69 dzbX11_rest_46 rfl
theorem dX11_rest_49 : decode cX11_rest 49 = .ok (.ifCond .eq 18, 3) := dz4 dzo153 3 0 18 18 rfl dzbX11_rest_46 rfl
theorem dX11_rest_52 : decode cX11_rest 52 = .ok (.aload_n 0, 1) := dz0 dzo42 6 dzbX11_rest_46 rfl
theorem dX11_rest_53 : decode cX11_rest 53 = .ok (.iload_n 3, 1) := dz0 dzo29 7 dzbX11_rest_46 rfl
theorem dX11_rest_54 : decode cX11_rest 54 = .ok (.iconst 2, 1) := dz0 dzo5 8 dzbX11_rest_46 rfl
theorem dX11_rest_55 : decode cX11_rest 55 = .ok (.idiv, 1) := dz0 dzo108 9 dzbX11_rest_46 rfl
theorem dX11_rest_56 : decode cX11_rest 56 = .ok (.bipush 10, 2) := dz3 dzo16 10 10 10 rfl dzbX11_rest_46 rfl
theorem dX11_rest_58 : decode cX11_rest 58 = .ok (.imul, 1) := dz0 dzo104 12 dzbX11_rest_46 rfl
theorem dX11_rest_59 : decode cX11_rest 59 = .ok (.iload_n 3, 1) := dz0 dzo29 13 dzbX11_rest_46 rfl
theorem dX11_rest_60 : decode cX11_rest 60 = .ok (.iconst 2, 1) := dz0 dzo5 14 dzbX11_rest_46 rfl
theorem dX11_rest_61 : decode cX11_rest 61 = .ok (.irem, 1) := dz0 dzo112 15 dzbX11_rest_46 rfl
theorem dX11_rest_62 : decode cX11_rest 62 = .ok (.iadd, 1) := dz0 dzo96 16 dzbX11_rest_46 rfl
theorem dX11_rest_63 : decode cX11_rest 63 = .ok (.invokevirtual 130, 3) := dz2 dzo182 17 0 130 dzbX11_rest_46 rfl
theorem dX11_rest_66 : decode cX11_rest 66 = .ok (.ireturn, 1) := dz0 dzo172 20 dzbX11_rest_46 rfl
theorem dX11_rest_67 : decode cX11_rest 67 = .ok (.iinc 3 1, 3) := dz5 dzo132 21 3 1 1 rfl dzbX11_rest_46 rfl
theorem dzbX11_rest_70 : dzB cX11_rest 70 [167, 255, 204, 42, 16, 254, 182, 0, 130, 172] := by decide +kernel
theorem dX11_rest_70 : decode cX11_rest 70 = .ok (.goto (-52), 3) := dz4 dzo167 0 255 204 (-52) rfl dzbX11_rest_70 rfl
theorem dX11_rest_73 : decode cX11_rest 73 = .ok (.aload_n 0, 1) := dz0 dzo42 3 dzbX11_rest_70 rfl
theorem dX11_rest_74 : decode cX11_rest 74 = .ok (.bipush (-2), 2) := dz3 dzo16 4 254 (-2) rfl dzbX11_rest_70 rfl
theorem dX11_rest_76 : decode cX11_rest 76 = .ok (.invokevirtual 130, 3) := dz2 dzo182 6 0 130 dzbX11_rest_70 rfl
theorem dX11_rest_79 : decode cX11_rest 79 = .ok (.ireturn, 1) := dz0 dzo172 9 dzbX11_rest_70 rfl
theorem dzbX11_rests_0 : dzB cX11_rests 0 [42, 27, 182, 1, 62, 61, 28, 153, 0, 9, 42, 28, 182, 0, 100, 172, 3, 62, 3, 54, 4, 21, 4, 7] := by decide +kernel
theorem dX11_rests_0 : decode cX11_rests 0 = .ok (.aload_n 0, 1) := dz0 dzo42 0 dzbX11_rests_0 rfl
theorem dX11_rests_1 : decode cX11_rests 1 = .ok (.iload_n 1, 1) := dz0 dzo27 1 dzbX11_rests_0 rfl
theorem dX11_rests_2 : decode cX11_rests 2 = .ok (.invokevirtual 318, 3) := dz2 dzo182 2 1 62 dzbX11_rests_0 rfl
theorem dX11_rests_5 : decode cX11_rests 5 = .ok (.istore_n 2, 1) := dz0 dzo61 5 dzbX11_rests_0 rfl
theorem dX11_rests_6 : decode cX11_rests 6 = .ok (.iload_n 2, 1) := dz0 dzo28 6 dzbX11_rests_0 rfl
theorem dX11_rests_7 : decode cX11_rests 7 = .ok (.ifCond .eq 9, 3) := dz4 dzo153 7 0 9 9 rfl dzbX11_rests_0 rfl
theorem dX11_rests_10 : decode cX11_rests 10 = .ok (.aload_n 0, 1) := dz0 dzo42 10 dzbX11_rests_0 rfl
theorem dX11_rests_11 : decode cX11_rests 11 = .ok (.iload_n 2, 1) := dz0 dzo28 11 dzbX11_rests_0 rfl
theorem dX11_rests_12 : decode cX11_rests 12 = .ok (.invokevirtual 100, 3) := dz2 dzo182 12 0 100 dzbX11_rests_0 rfl
theorem dX11_rests_15 : decode cX11_rests 15 = .ok (.ireturn, 1) := dz0 dzo172 15 dzbX11_rests_0 rfl
theorem dX11_rests_16 : decode cX11_rests 16 = .ok (.iconst 0, 1) := dz0 dzo3 16 dzbX11_rests_0 rfl
theorem dX11_rests_17 : decode cX11_rests 17 = .ok (.istore_n 3, 1) := dz0 dzo62 17 dzbX11_rests_0 rfl
theorem dX11_rests_18 : decode cX11_rests 18 = .ok (.iconst 0, 1) := dz0 dzo3 18 dzbX11_rests_0 rfl
theorem dX11_rests_19 : decode cX11_rests 19 = .ok (.istore 4, 2) := dz1 dzo54 19 4 dzbX11_rests_0 rfl
theorem dX11_rests_21 : decode cX11_rests 21 = .ok (.iload 4, 2) := dz1 dzo21 21 4 dzbX11_rests_0 rfl
theorem dX11_rests_23 : decode cX11_rests 23 = .ok (.iconst 4, 1) := dz0 dzo7 23 dzbX11_rests_0 rfl
theorem dzbX11_rests_24 : dzB cX11_rests 24 [162, 0, 43, 27, 21, 4, 5, 161, 0, 7, 4, 167, 0, 4, 3, 21, 4, 5, 112, 4, 160, 0, 7, 4] := by decide +kernel
theorem dX11_rests_24 : decode cX11_rests 24 = .ok (.if_icmp .ge 43, 3) := dz4 dzo162 0 0 43 43 rfl dzbX11_rests_24 rfl
theorem dX11_rests_27 : decode cX11_rests 27 = .ok (.iload_n 1, 1) := dz0 dzo27 3 dzbX11_rests_24 rfl
theorem dX11_rests_28 : decode cX11_rests 28 = .ok (.iload 4, 2) := dz1 dzo21 4 4 dzbX11_rests_24 rfl
theorem dX11_rests_30 : decode cX11_rests 30 = .ok (.iconst 2, 1) := dz0 dzo5 6 dzbX11_rests_24 rfl
theorem dX11_rests_31 : decode cX11_rests 31 = .ok (.if_icmp .lt 7, 3) := dz4 dzo161 7 0 7 7 rfl dzbX11_rests_24 rfl
theorem dX11_rests_34 : decode cX11_rests 34 = .ok (.iconst 1, 1) := dz0 dzo4 10 dzbX11_rests_24 rfl
theorem dX11_rests_35 : decode cX11_rests 35 = .ok (.goto 4, 3) := dz4 dzo167 11 0 4 4 rfl dzbX11_rests_24 rfl
theorem dX11_rests_38 : decode cX11_rests 38 = .ok (.iconst 0, 1) := dz0 dzo3 14 dzbX11_rests_24 rfl
theorem dX11_rests_39 : decode cX11_rests 39 = .ok (.iload 4, 2) := dz1 dzo21 15 4 dzbX11_rests_24 rfl
theorem dX11_rests_41 : decode cX11_rests 41 = .ok (.iconst 2, 1) := dz0 dzo5 17 dzbX11_rests_24 rfl
theorem dX11_rests_42 : decode cX11_rests 42 = .ok (.irem, 1) := dz0 dzo112 18 dzbX11_rests_24 rfl
theorem dX11_rests_43 : decode cX11_rests 43 = .ok (.iconst 1, 1) := dz0 dzo4 19 dzbX11_rests_24 rfl
theorem dX11_rests_44 : decode cX11_rests 44 = .ok (.if_icmp .ne 7, 3) := dz4 dzo160 20 0 7 7 rfl dzbX11_rests_24 rfl
theorem dX11_rests_47 : decode cX11_rests 47 = .ok (.iconst 1, 1) := dz0 dzo4 23 dzbX11_rests_24 rfl
theorem dzbX11_rests_48 : dzB cX11_rests 48 [167, 0, 4, 3, 184, 1, 69, 153, 0, 6, 132, 3, 1, 132, 4, 1, 167, 255, 213, 42, 29, 182, 0, 130] := by decide +kernel
theorem dX11_rests_48 : decode cX11_rests 48 = .ok (.goto 4, 3) := dz4 dzo167 0 0 4 4 rfl dzbX11_rests_48 rfl
theorem dX11_rests_51 : decode cX11_rests 51 = .ok (.iconst 0, 1) := dz0 dzo3 3 dzbX11_rests_48 rfl
theorem dX11_rests_52 : decode cX11_rests 52 = .ok (.invokestatic 325, 3) := dz2 dzo184 4 1 69 dzbX11_rests_48 rfl
theorem dX11_rests_55 : decode cX11_rests 55 = .ok (.ifCond .eq 6, 3) := dz4 dzo153 7 0 6 6 rfl dzbX11_rests_48 rfl
theorem dX11_rests_58 : decode cX11_rests 58 = .ok (.iinc 3 1, 3) := dz5 dzo132 10 3 1 1 rfl dzbX11_rests_48 rfl
theorem dX11_rests_61 : decode cX11_rests 61 = .ok (.iinc 4 1, 3) := dz5 dzo132 13 4 1 1 rfl dzbX11_rests_48 rfl
theorem dX11_rests_64 : decode cX11_rests 64 = .ok (.goto (-43), 3) := dz4 dzo167 16 255 213 (-43) rfl dzbX11_rests_48 rfl
theorem dX11_rests_67 : decode cX11_rests 67 = .ok (.aload_n 0, 1) := dz0 dzo42 19 dzbX11_rests_48 rfl
theorem dX11_rests_68 : decode cX11_rests 68 = .ok (.iload_n 3, 1) := dz0 dzo29 20 dzbX11_rests_48 rfl
theorem dX11_rests_69 : decode cX11_rests 69 = .ok (.invokevirtual 130, 3) := dz2 dzo182 21 0 130 dzbX11_rests_48 rfl
theorem dzbX11_rests_72 : dzB cX11_rests 72 [172] := by decide +kernel
theorem dX11_rests_72 : decode cX11_rests 72 = .ok (.ireturn, 1) := dz0 dzo172 0 dzbX11_rests_72 rfl
theorem dzbX11_share_0 : dzB cX11_share 0 [42, 3, 181, 0, 136, 27, 153, 0, 13, 42, 180, 0, 74, 180, 1, 110, 167, 0, 10, 42, 180, 0, 74] := by decide +kernel
theorem dX11_share_0 : decode cX11_share 0 = .ok (.aload_n 0, 1) := dz0 dzo42 0 dzbX11_share_0 rfl
theorem dX11_share_1 : decode cX11_share 1 = .ok (.iconst 0, 1) := dz0 dzo3 1 dzbX11_share_0 rfl
theorem dX11_share_2 : decode cX11_share 2 = .ok (.putfield 136, 3) := dz2 dzo181 2 0 136 dzbX11_share_0 rfl
theorem dX11_share_5 : decode cX11_share 5 = .ok (.iload_n 1, 1) := dz0 dzo27 5 dzbX11_share_0 rfl
theorem dX11_share_6 : decode cX11_share 6 = .ok (.ifCond .eq 13, 3) := dz4 dzo153 6 0 13 13 rfl dzbX11_share_0 rfl
theorem dX11_share_9 : decode cX11_share 9 = .ok (.aload_n 0, 1) := dz0 dzo42 9 dzbX11_share_0 rfl
theorem dX11_share_10 : decode cX11_share 10 = .ok (.getfield 74, 3) := dz2 dzo180 10 0 74 dzbX11_share_0 rfl
theorem dX11_share_13 : decode cX11_share 13 = .ok (.getfield 366, 3) := dz2 dzo180 13 1 110 dzbX11_share_0 rfl
theorem dX11_share_16 : decode cX11_share 16 = .ok (.goto 10, 3) := dz4 dzo167 16 0 10 10 rfl dzbX11_share_0 rfl
theorem dX11_share_19 : decode cX11_share 19 = .ok (.aload_n 0, 1) := dz0 dzo42 19 dzbX11_share_0 rfl
theorem dX11_share_20 : decode cX11_share 20 = .ok (.getfield 74, 3) := dz2 dzo180 20 0 74 dzbX11_share_0 rfl
theorem dzbX11_share_23 : dzB cX11_share 23 [180, 1, 114, 173] := by decide +kernel
theorem dX11_share_23 : decode cX11_share 23 = .ok (.getfield 370, 3) := dz2 dzo180 0 1 114 dzbX11_share_23 rfl
theorem dX11_share_26 : decode cX11_share 26 = .ok (.lreturn, 1) := dz0 dzo173 3 dzbX11_share_23 rfl
theorem dzbX11_size_0 : dzB cX11_size 0 [27] := by decide +kernel
theorem dX11_size_0 : decode cX11_size 0 = .ok (.iload_n 1, 1) := dz0 dzo27 0 dzbX11_size_0 rfl
theorem dX11_size_1 : decode cX11_size 1 = .ok (.tableswitch 135 0 9 #[55, 66, 77, 85, 93, 101, 109, 117, 122, 127], 55) := by decide +kernel
theorem dzbX11_size_56 : dzB cX11_size 56 [42, 180, 0, 19, 180, 0, 121, 180, 1, 53, 172, 42, 180, 0, 19, 180, 0, 121, 180, 1, 104, 172, 42] := by decide +kernel
theorem dX11_size_56 : decode cX11_size 56 = .ok (.aload_n 0, 1) := dz0 dzo42 0 dzbX11_size_56 rfl
theorem dX11_size_57 : decode cX11_size 57 = .ok (.getfield 19, 3) := dz2 dzo180 1 0 19 dzbX11_size_56 rfl
theorem dX11_size_60 : decode cX11_size 60 = .ok (.getfield 121, 3) := dz2 dzo180 4 0 121 dzbX11_size_56 rfl
theorem dX11_size_63 : decode cX11_size 63 = .ok (.getfield 309, 3) := dz2 dzo180 7 1 53 dzbX11_size_56 rfl
theorem dX11_size_66 : decode cX11_size 66 = .ok (.ireturn, 1) := dz0 dzo172 10 dzbX11_size_56 rfl
theorem dX11_size_67 : decode cX11_size 67 = .ok (.aload_n 0, 1) := dz0 dzo42 11 dzbX11_size_56 rfl
theorem dX11_size_68 : decode cX11_size 68 = .ok (.getfield 19, 3) := dz2 dzo180 12 0 19 dzbX11_size_56 rfl
theorem dX11_size_71 : decode cX11_size 71 = .ok (.getfield 121, 3) := dz2 dzo180 15 0 121 dzbX11_size_56 rfl
theorem dX11_size_74 : decode cX11_size 74 = .ok (.getfield 360, 3) := dz2 dzo180 18 1 104 dzbX11_size_56 rfl
theorem dX11_size_77 : decode cX11_size 77 = .ok (.ireturn, 1) := dz0 dzo172 21 dzbX11_size_56 rfl
theorem dX11_size_78 : decode cX11_size 78 = .ok (.aload_n 0, 1) := dz0 dzo42 22 dzbX11_size_56 rfl
theorem dzbX11_size_79 : dzB cX11_size 79 [180, 0, 81, 180, 1, 107, 172, 42, 180, 0, 81, 180, 1, 73, 172, 42, 180, 0, 81, 180, 0, 223, 172, 42] := by decide +kernel
theorem dX11_size_79 : decode cX11_size 79 = .ok (.getfield 81, 3) := dz2 dzo180 0 0 81 dzbX11_size_79 rfl
theorem dX11_size_82 : decode cX11_size 82 = .ok (.getfield 363, 3) := dz2 dzo180 3 1 107 dzbX11_size_79 rfl
theorem dX11_size_85 : decode cX11_size 85 = .ok (.ireturn, 1) := dz0 dzo172 6 dzbX11_size_79 rfl
theorem dX11_size_86 : decode cX11_size 86 = .ok (.aload_n 0, 1) := dz0 dzo42 7 dzbX11_size_79 rfl
theorem dX11_size_87 : decode cX11_size 87 = .ok (.getfield 81, 3) := dz2 dzo180 8 0 81 dzbX11_size_79 rfl
theorem dX11_size_90 : decode cX11_size 90 = .ok (.getfield 329, 3) := dz2 dzo180 11 1 73 dzbX11_size_79 rfl
theorem dX11_size_93 : decode cX11_size 93 = .ok (.ireturn, 1) := dz0 dzo172 14 dzbX11_size_79 rfl
theorem dX11_size_94 : decode cX11_size 94 = .ok (.aload_n 0, 1) := dz0 dzo42 15 dzbX11_size_79 rfl
theorem dX11_size_95 : decode cX11_size 95 = .ok (.getfield 81, 3) := dz2 dzo180 16 0 81 dzbX11_size_79 rfl
theorem dX11_size_98 : decode cX11_size 98 = .ok (.getfield 223, 3) := dz2 dzo180 19 0 223 dzbX11_size_79 rfl
theorem dX11_size_101 : decode cX11_size 101 = .ok (.ireturn, 1) := dz0 dzo172 22 dzbX11_size_79 rfl
theorem dX11_size_102 : decode cX11_size 102 = .ok (.aload_n 0, 1) := dz0 dzo42 23 dzbX11_size_79 rfl
theorem dzbX11_size_103 : dzB cX11_size 103 [180, 0, 81, 180, 1, 46, 172, 42, 180, 0, 81, 180, 1, 18, 172, 42, 180, 0, 115, 172, 42, 180, 0, 118] := by decide +kernel
theorem dX11_size_103 : decode cX11_size 103 = .ok (.getfield 81, 3) := dz2 dzo180 0 0 81 dzbX11_size_103 rfl
theorem dX11_size_106 : decode cX11_size 106 = .ok (.getfield 302, 3) := dz2 dzo180 3 1 46 dzbX11_size_103 rfl
theorem dX11_size_109 : decode cX11_size 109 = .ok (.ireturn, 1) := dz0 dzo172 6 dzbX11_size_103 rfl
theorem dX11_size_110 : decode cX11_size 110 = .ok (.aload_n 0, 1) := dz0 dzo42 7 dzbX11_size_103 rfl
theorem dX11_size_111 : decode cX11_size 111 = .ok (.getfield 81, 3) := dz2 dzo180 8 0 81 dzbX11_size_103 rfl
theorem dX11_size_114 : decode cX11_size 114 = .ok (.getfield 274, 3) := dz2 dzo180 11 1 18 dzbX11_size_103 rfl
theorem dX11_size_117 : decode cX11_size 117 = .ok (.ireturn, 1) := dz0 dzo172 14 dzbX11_size_103 rfl
theorem dX11_size_118 : decode cX11_size 118 = .ok (.aload_n 0, 1) := dz0 dzo42 15 dzbX11_size_103 rfl
theorem dX11_size_119 : decode cX11_size 119 = .ok (.getfield 115, 3) := dz2 dzo180 16 0 115 dzbX11_size_103 rfl
theorem dX11_size_122 : decode cX11_size 122 = .ok (.ireturn, 1) := dz0 dzo172 19 dzbX11_size_103 rfl
theorem dX11_size_123 : decode cX11_size 123 = .ok (.aload_n 0, 1) := dz0 dzo42 20 dzbX11_size_103 rfl
theorem dX11_size_124 : decode cX11_size 124 = .ok (.getfield 118, 3) := dz2 dzo180 21 0 118 dzbX11_size_103 rfl
theorem dzbX11_size_127 : dzB cX11_size 127 [172, 42, 180, 0, 10, 180, 0, 96, 172, 2, 172] := by decide +kernel
theorem dX11_size_127 : decode cX11_size 127 = .ok (.ireturn, 1) := dz0 dzo172 0 dzbX11_size_127 rfl
theorem dX11_size_128 : decode cX11_size 128 = .ok (.aload_n 0, 1) := dz0 dzo42 1 dzbX11_size_127 rfl
theorem dX11_size_129 : decode cX11_size 129 = .ok (.getfield 10, 3) := dz2 dzo180 2 0 10 dzbX11_size_127 rfl
theorem dX11_size_132 : decode cX11_size 132 = .ok (.getfield 96, 3) := dz2 dzo180 5 0 96 dzbX11_size_127 rfl
theorem dX11_size_135 : decode cX11_size 135 = .ok (.ireturn, 1) := dz0 dzo172 8 dzbX11_size_127 rfl
theorem dX11_size_136 : decode cX11_size 136 = .ok (.iconst (-1), 1) := dz0 dzo2 9 dzbX11_size_127 rfl
theorem dX11_size_137 : decode cX11_size 137 = .ok (.ireturn, 1) := dz0 dzo172 10 dzbX11_size_127 rfl
theorem dzbX11_soonest_0 : dzB cX11_soonest 0 [42, 180, 0, 36, 42, 180, 0, 19, 180, 0, 121, 42, 180, 0, 81, 180, 0, 162, 27, 46, 42, 180, 0, 19] := by decide +kernel
theorem dX11_soonest_0 : decode cX11_soonest 0 = .ok (.aload_n 0, 1) := dz0 dzo42 0 dzbX11_soonest_0 rfl
theorem dX11_soonest_1 : decode cX11_soonest 1 = .ok (.getfield 36, 3) := dz2 dzo180 1 0 36 dzbX11_soonest_0 rfl
theorem dX11_soonest_4 : decode cX11_soonest 4 = .ok (.aload_n 0, 1) := dz0 dzo42 4 dzbX11_soonest_0 rfl
theorem dX11_soonest_5 : decode cX11_soonest 5 = .ok (.getfield 19, 3) := dz2 dzo180 5 0 19 dzbX11_soonest_0 rfl
theorem dX11_soonest_8 : decode cX11_soonest 8 = .ok (.getfield 121, 3) := dz2 dzo180 8 0 121 dzbX11_soonest_0 rfl
theorem dX11_soonest_11 : decode cX11_soonest 11 = .ok (.aload_n 0, 1) := dz0 dzo42 11 dzbX11_soonest_0 rfl
theorem dX11_soonest_12 : decode cX11_soonest 12 = .ok (.getfield 81, 3) := dz2 dzo180 12 0 81 dzbX11_soonest_0 rfl
theorem dX11_soonest_15 : decode cX11_soonest 15 = .ok (.getfield 162, 3) := dz2 dzo180 15 0 162 dzbX11_soonest_0 rfl
theorem dX11_soonest_18 : decode cX11_soonest 18 = .ok (.iload_n 1, 1) := dz0 dzo27 18 dzbX11_soonest_0 rfl
theorem dX11_soonest_19 : decode cX11_soonest 19 = .ok (.iaload, 1) := dz0 dzo46 19 dzbX11_soonest_0 rfl
theorem dX11_soonest_20 : decode cX11_soonest 20 = .ok (.aload_n 0, 1) := dz0 dzo42 20 dzbX11_soonest_0 rfl
theorem dX11_soonest_21 : decode cX11_soonest 21 = .ok (.getfield 19, 3) := dz2 dzo180 21 0 19 dzbX11_soonest_0 rfl
theorem dzbX11_soonest_24 : dzB cX11_soonest 24 [180, 0, 166, 27, 46, 28, 3, 182, 1, 118, 62, 29, 153, 0, 13, 42, 180, 0, 36, 182, 0, 198] := by decide +kernel
theorem dX11_soonest_24 : decode cX11_soonest 24 = .ok (.getfield 166, 3) := dz2 dzo180 0 0 166 dzbX11_soonest_24 rfl
theorem dX11_soonest_27 : decode cX11_soonest 27 = .ok (.iload_n 1, 1) := dz0 dzo27 3 dzbX11_soonest_24 rfl
theorem dX11_soonest_28 : decode cX11_soonest 28 = .ok (.iaload, 1) := dz0 dzo46 4 dzbX11_soonest_24 rfl
theorem dX11_soonest_29 : decode cX11_soonest 29 = .ok (.iload_n 2, 1) := dz0 dzo28 5 dzbX11_soonest_24 rfl
theorem dX11_soonest_30 : decode cX11_soonest 30 = .ok (.iconst 0, 1) := dz0 dzo3 6 dzbX11_soonest_24 rfl
theorem dX11_soonest_31 : decode cX11_soonest 31 = .ok (.invokevirtual 374, 3) := dz2 dzo182 7 1 118 dzbX11_soonest_24 rfl
theorem dX11_soonest_34 : decode cX11_soonest 34 = .ok (.istore_n 3, 1) := dz0 dzo62 10 dzbX11_soonest_24 rfl
theorem dX11_soonest_35 : decode cX11_soonest 35 = .ok (.iload_n 3, 1) := dz0 dzo29 11 dzbX11_soonest_24 rfl
theorem dX11_soonest_36 : decode cX11_soonest 36 = .ok (.ifCond .eq 13, 3) := dz4 dzo153 12 0 13 13 rfl dzbX11_soonest_24 rfl
theorem dX11_soonest_39 : decode cX11_soonest 39 = .ok (.aload_n 0, 1) := dz0 dzo42 15 dzbX11_soonest_24 rfl
theorem dX11_soonest_40 : decode cX11_soonest 40 = .ok (.getfield 36, 3) := dz2 dzo180 16 0 36 dzbX11_soonest_24 rfl
theorem dX11_soonest_43 : decode cX11_soonest 43 = .ok (.invokevirtual 198, 3) := dz2 dzo182 19 0 198 dzbX11_soonest_24 rfl
theorem dzbX11_soonest_46 : dzB cX11_soonest 46 [167, 0, 5, 16, 254, 172] := by decide +kernel
theorem dX11_soonest_46 : decode cX11_soonest 46 = .ok (.goto 5, 3) := dz4 dzo167 0 0 5 5 rfl dzbX11_soonest_46 rfl
theorem dX11_soonest_49 : decode cX11_soonest 49 = .ok (.bipush (-2), 2) := dz3 dzo16 3 254 (-2) rfl dzbX11_soonest_46 rfl
theorem dX11_soonest_51 : decode cX11_soonest 51 = .ok (.ireturn, 1) := dz0 dzo172 5 dzbX11_soonest_46 rfl
theorem dzbX11_step_0 : dzB cX11_step 0 [42, 27, 182, 0, 159, 154, 0, 9, 42, 4, 182, 0, 100, 172, 28, 184, 0, 178, 154, 0, 9, 42, 5] := by decide +kernel
theorem dX11_step_0 : decode cX11_step 0 = .ok (.aload_n 0, 1) := dz0 dzo42 0 dzbX11_step_0 rfl
theorem dX11_step_1 : decode cX11_step 1 = .ok (.iload_n 1, 1) := dz0 dzo27 1 dzbX11_step_0 rfl
theorem dX11_step_2 : decode cX11_step 2 = .ok (.invokevirtual 159, 3) := dz2 dzo182 2 0 159 dzbX11_step_0 rfl
theorem dX11_step_5 : decode cX11_step 5 = .ok (.ifCond .ne 9, 3) := dz4 dzo154 5 0 9 9 rfl dzbX11_step_0 rfl
theorem dX11_step_8 : decode cX11_step 8 = .ok (.aload_n 0, 1) := dz0 dzo42 8 dzbX11_step_0 rfl
theorem dX11_step_9 : decode cX11_step 9 = .ok (.iconst 1, 1) := dz0 dzo4 9 dzbX11_step_0 rfl
theorem dX11_step_10 : decode cX11_step 10 = .ok (.invokevirtual 100, 3) := dz2 dzo182 10 0 100 dzbX11_step_0 rfl
theorem dX11_step_13 : decode cX11_step 13 = .ok (.ireturn, 1) := dz0 dzo172 13 dzbX11_step_0 rfl
theorem dX11_step_14 : decode cX11_step 14 = .ok (.iload_n 2, 1) := dz0 dzo28 14 dzbX11_step_0 rfl
theorem dX11_step_15 : decode cX11_step 15 = .ok (.invokestatic 178, 3) := dz2 dzo184 15 0 178 dzbX11_step_0 rfl
theorem dX11_step_18 : decode cX11_step 18 = .ok (.ifCond .ne 9, 3) := dz4 dzo154 18 0 9 9 rfl dzbX11_step_0 rfl
theorem dX11_step_21 : decode cX11_step 21 = .ok (.aload_n 0, 1) := dz0 dzo42 21 dzbX11_step_0 rfl
theorem dX11_step_22 : decode cX11_step 22 = .ok (.iconst 2, 1) := dz0 dzo5 22 dzbX11_step_0 rfl
theorem dzbX11_step_23 : dzB cX11_step 23 [182, 0, 100, 172, 42, 180, 0, 81, 180, 0, 162, 27, 46, 62, 42, 180, 0, 19, 180, 0, 121, 29, 42] := by decide +kernel
theorem dX11_step_23 : decode cX11_step 23 = .ok (.invokevirtual 100, 3) := dz2 dzo182 0 0 100 dzbX11_step_23 rfl
theorem dX11_step_26 : decode cX11_step 26 = .ok (.ireturn, 1) := dz0 dzo172 3 dzbX11_step_23 rfl
theorem dX11_step_27 : decode cX11_step 27 = .ok (.aload_n 0, 1) := dz0 dzo42 4 dzbX11_step_23 rfl
theorem dX11_step_28 : decode cX11_step 28 = .ok (.getfield 81, 3) := dz2 dzo180 5 0 81 dzbX11_step_23 rfl
theorem dX11_step_31 : decode cX11_step 31 = .ok (.getfield 162, 3) := dz2 dzo180 8 0 162 dzbX11_step_23 rfl
theorem dX11_step_34 : decode cX11_step 34 = .ok (.iload_n 1, 1) := dz0 dzo27 11 dzbX11_step_23 rfl
theorem dX11_step_35 : decode cX11_step 35 = .ok (.iaload, 1) := dz0 dzo46 12 dzbX11_step_23 rfl
theorem dX11_step_36 : decode cX11_step 36 = .ok (.istore_n 3, 1) := dz0 dzo62 13 dzbX11_step_23 rfl
theorem dX11_step_37 : decode cX11_step 37 = .ok (.aload_n 0, 1) := dz0 dzo42 14 dzbX11_step_23 rfl
theorem dX11_step_38 : decode cX11_step 38 = .ok (.getfield 19, 3) := dz2 dzo180 15 0 19 dzbX11_step_23 rfl
theorem dX11_step_41 : decode cX11_step 41 = .ok (.getfield 121, 3) := dz2 dzo180 18 0 121 dzbX11_step_23 rfl
theorem dX11_step_44 : decode cX11_step 44 = .ok (.iload_n 3, 1) := dz0 dzo29 21 dzbX11_step_23 rfl
theorem dX11_step_45 : decode cX11_step 45 = .ok (.aload_n 0, 1) := dz0 dzo42 22 dzbX11_step_23 rfl
theorem dzbX11_step_46 : dzB cX11_step 46 [180, 0, 19, 180, 0, 166, 27, 46, 28, 182, 0, 181, 16, 254, 160, 0, 10, 42, 16, 6, 182, 0, 100, 172] := by decide +kernel
theorem dX11_step_46 : decode cX11_step 46 = .ok (.getfield 19, 3) := dz2 dzo180 0 0 19 dzbX11_step_46 rfl
theorem dX11_step_49 : decode cX11_step 49 = .ok (.getfield 166, 3) := dz2 dzo180 3 0 166 dzbX11_step_46 rfl
theorem dX11_step_52 : decode cX11_step 52 = .ok (.iload_n 1, 1) := dz0 dzo27 6 dzbX11_step_46 rfl
theorem dX11_step_53 : decode cX11_step 53 = .ok (.iaload, 1) := dz0 dzo46 7 dzbX11_step_46 rfl
theorem dX11_step_54 : decode cX11_step 54 = .ok (.iload_n 2, 1) := dz0 dzo28 8 dzbX11_step_46 rfl
theorem dX11_step_55 : decode cX11_step 55 = .ok (.invokevirtual 181, 3) := dz2 dzo182 9 0 181 dzbX11_step_46 rfl
theorem dX11_step_58 : decode cX11_step 58 = .ok (.bipush (-2), 2) := dz3 dzo16 12 254 (-2) rfl dzbX11_step_46 rfl
theorem dX11_step_60 : decode cX11_step 60 = .ok (.if_icmp .ne 10, 3) := dz4 dzo160 14 0 10 10 rfl dzbX11_step_46 rfl
theorem dX11_step_63 : decode cX11_step 63 = .ok (.aload_n 0, 1) := dz0 dzo42 17 dzbX11_step_46 rfl
theorem dX11_step_64 : decode cX11_step 64 = .ok (.bipush 6, 2) := dz3 dzo16 18 6 6 rfl dzbX11_step_46 rfl
theorem dX11_step_66 : decode cX11_step 66 = .ok (.invokevirtual 100, 3) := dz2 dzo182 20 0 100 dzbX11_step_46 rfl
theorem dX11_step_69 : decode cX11_step 69 = .ok (.ireturn, 1) := dz0 dzo172 23 dzbX11_step_46 rfl
theorem dzbX11_step_70 : dzB cX11_step 70 [42, 182, 1, 88, 42, 180, 0, 19, 27, 29, 28, 182, 1, 91, 42, 42, 180, 0, 19, 180, 0, 166, 27, 46] := by decide +kernel
theorem dX11_step_70 : decode cX11_step 70 = .ok (.aload_n 0, 1) := dz0 dzo42 0 dzbX11_step_70 rfl
theorem dX11_step_71 : decode cX11_step 71 = .ok (.invokevirtual 344, 3) := dz2 dzo182 1 1 88 dzbX11_step_70 rfl
theorem dX11_step_74 : decode cX11_step 74 = .ok (.aload_n 0, 1) := dz0 dzo42 4 dzbX11_step_70 rfl
theorem dX11_step_75 : decode cX11_step 75 = .ok (.getfield 19, 3) := dz2 dzo180 5 0 19 dzbX11_step_70 rfl
theorem dX11_step_78 : decode cX11_step 78 = .ok (.iload_n 1, 1) := dz0 dzo27 8 dzbX11_step_70 rfl
theorem dX11_step_79 : decode cX11_step 79 = .ok (.iload_n 3, 1) := dz0 dzo29 9 dzbX11_step_70 rfl
theorem dX11_step_80 : decode cX11_step 80 = .ok (.iload_n 2, 1) := dz0 dzo28 10 dzbX11_step_70 rfl
theorem dX11_step_81 : decode cX11_step 81 = .ok (.invokevirtual 347, 3) := dz2 dzo182 11 1 91 dzbX11_step_70 rfl
theorem dX11_step_84 : decode cX11_step 84 = .ok (.aload_n 0, 1) := dz0 dzo42 14 dzbX11_step_70 rfl
theorem dX11_step_85 : decode cX11_step 85 = .ok (.aload_n 0, 1) := dz0 dzo42 15 dzbX11_step_70 rfl
theorem dX11_step_86 : decode cX11_step 86 = .ok (.getfield 19, 3) := dz2 dzo180 16 0 19 dzbX11_step_70 rfl
theorem dX11_step_89 : decode cX11_step 89 = .ok (.getfield 166, 3) := dz2 dzo180 19 0 166 dzbX11_step_70 rfl
theorem dX11_step_92 : decode cX11_step 92 = .ok (.iload_n 1, 1) := dz0 dzo27 22 dzbX11_step_70 rfl
theorem dX11_step_93 : decode cX11_step 93 = .ok (.iaload, 1) := dz0 dzo46 23 dzbX11_step_70 rfl
theorem dzbX11_step_94 : dzB cX11_step 94 [182, 0, 130, 172] := by decide +kernel
theorem dX11_step_94 : decode cX11_step 94 = .ok (.invokevirtual 130, 3) := dz2 dzo182 0 0 130 dzbX11_step_94 rfl
theorem dX11_step_97 : decode cX11_step 97 = .ok (.ireturn, 1) := dz0 dzo172 3 dzbX11_step_94 rfl
theorem dzbX11_strayed_0 : dzB cX11_strayed 0 [42, 27, 28, 29, 182, 1, 82, 54, 4, 21, 4, 153, 0, 10, 42, 21, 4, 182, 0, 100, 172, 42, 42, 27] := by decide +kernel
theorem dX11_strayed_0 : decode cX11_strayed 0 = .ok (.aload_n 0, 1) := dz0 dzo42 0 dzbX11_strayed_0 rfl
theorem dX11_strayed_1 : decode cX11_strayed 1 = .ok (.iload_n 1, 1) := dz0 dzo27 1 dzbX11_strayed_0 rfl
theorem dX11_strayed_2 : decode cX11_strayed 2 = .ok (.iload_n 2, 1) := dz0 dzo28 2 dzbX11_strayed_0 rfl
theorem dX11_strayed_3 : decode cX11_strayed 3 = .ok (.iload_n 3, 1) := dz0 dzo29 3 dzbX11_strayed_0 rfl
theorem dX11_strayed_4 : decode cX11_strayed 4 = .ok (.invokevirtual 338, 3) := dz2 dzo182 4 1 82 dzbX11_strayed_0 rfl
theorem dX11_strayed_7 : decode cX11_strayed 7 = .ok (.istore 4, 2) := dz1 dzo54 7 4 dzbX11_strayed_0 rfl
theorem dX11_strayed_9 : decode cX11_strayed 9 = .ok (.iload 4, 2) := dz1 dzo21 9 4 dzbX11_strayed_0 rfl
theorem dX11_strayed_11 : decode cX11_strayed 11 = .ok (.ifCond .eq 10, 3) := dz4 dzo153 11 0 10 10 rfl dzbX11_strayed_0 rfl
theorem dX11_strayed_14 : decode cX11_strayed 14 = .ok (.aload_n 0, 1) := dz0 dzo42 14 dzbX11_strayed_0 rfl
theorem dX11_strayed_15 : decode cX11_strayed 15 = .ok (.iload 4, 2) := dz1 dzo21 15 4 dzbX11_strayed_0 rfl
theorem dX11_strayed_17 : decode cX11_strayed 17 = .ok (.invokevirtual 100, 3) := dz2 dzo182 17 0 100 dzbX11_strayed_0 rfl
theorem dX11_strayed_20 : decode cX11_strayed 20 = .ok (.ireturn, 1) := dz0 dzo172 20 dzbX11_strayed_0 rfl
theorem dX11_strayed_21 : decode cX11_strayed 21 = .ok (.aload_n 0, 1) := dz0 dzo42 21 dzbX11_strayed_0 rfl
theorem dX11_strayed_22 : decode cX11_strayed 22 = .ok (.aload_n 0, 1) := dz0 dzo42 22 dzbX11_strayed_0 rfl
theorem dX11_strayed_23 : decode cX11_strayed 23 = .ok (.iload_n 1, 1) := dz0 dzo27 23 dzbX11_strayed_0 rfl
theorem dzbX11_strayed_24 : dzB cX11_strayed 24 [28, 29, 182, 1, 85, 182, 0, 130, 172] := by decide +kernel
theorem dX11_strayed_24 : decode cX11_strayed 24 = .ok (.iload_n 2, 1) := dz0 dzo28 0 dzbX11_strayed_24 rfl
theorem dX11_strayed_25 : decode cX11_strayed 25 = .ok (.iload_n 3, 1) := dz0 dzo29 1 dzbX11_strayed_24 rfl
theorem dX11_strayed_26 : decode cX11_strayed 26 = .ok (.invokevirtual 341, 3) := dz2 dzo182 2 1 85 dzbX11_strayed_24 rfl
theorem dX11_strayed_29 : decode cX11_strayed 29 = .ok (.invokevirtual 130, 3) := dz2 dzo182 5 0 130 dzbX11_strayed_24 rfl
theorem dX11_strayed_32 : decode cX11_strayed 32 = .ok (.ireturn, 1) := dz0 dzo172 8 dzbX11_strayed_24 rfl
theorem dzbX11_toFill_0 : dzB cX11_toFill 0 [42, 182, 0, 188, 154, 0, 9, 42, 4, 182, 0, 100, 172, 16, 254, 60, 18, 239, 61, 42, 180, 0, 23, 42] := by decide +kernel
theorem dX11_toFill_0 : decode cX11_toFill 0 = .ok (.aload_n 0, 1) := dz0 dzo42 0 dzbX11_toFill_0 rfl
theorem dX11_toFill_1 : decode cX11_toFill 1 = .ok (.invokevirtual 188, 3) := dz2 dzo182 1 0 188 dzbX11_toFill_0 rfl
theorem dX11_toFill_4 : decode cX11_toFill 4 = .ok (.ifCond .ne 9, 3) := dz4 dzo154 4 0 9 9 rfl dzbX11_toFill_0 rfl
theorem dX11_toFill_7 : decode cX11_toFill 7 = .ok (.aload_n 0, 1) := dz0 dzo42 7 dzbX11_toFill_0 rfl
theorem dX11_toFill_8 : decode cX11_toFill 8 = .ok (.iconst 1, 1) := dz0 dzo4 8 dzbX11_toFill_0 rfl
theorem dX11_toFill_9 : decode cX11_toFill 9 = .ok (.invokevirtual 100, 3) := dz2 dzo182 9 0 100 dzbX11_toFill_0 rfl
theorem dX11_toFill_12 : decode cX11_toFill 12 = .ok (.ireturn, 1) := dz0 dzo172 12 dzbX11_toFill_0 rfl
theorem dX11_toFill_13 : decode cX11_toFill 13 = .ok (.bipush (-2), 2) := dz3 dzo16 13 254 (-2) rfl dzbX11_toFill_0 rfl
theorem dX11_toFill_15 : decode cX11_toFill 15 = .ok (.istore_n 1, 1) := dz0 dzo60 15 dzbX11_toFill_0 rfl
theorem dX11_toFill_16 : decode cX11_toFill 16 = .ok (.ldc 239, 2) := dz1 dzo18 16 239 dzbX11_toFill_0 rfl
theorem dX11_toFill_18 : decode cX11_toFill 18 = .ok (.istore_n 2, 1) := dz0 dzo61 18 dzbX11_toFill_0 rfl
theorem dX11_toFill_19 : decode cX11_toFill 19 = .ok (.aload_n 0, 1) := dz0 dzo42 19 dzbX11_toFill_0 rfl
theorem dX11_toFill_20 : decode cX11_toFill 20 = .ok (.getfield 23, 3) := dz2 dzo180 20 0 23 dzbX11_toFill_0 rfl
theorem dX11_toFill_23 : decode cX11_toFill 23 = .ok (.aload_n 0, 1) := dz0 dzo42 23 dzbX11_toFill_0 rfl
theorem dzbX11_toFill_24 : dzB cX11_toFill 24 [180, 0, 19, 182, 0, 240, 3, 62, 29, 42, 180, 0, 19, 180, 0, 121, 180, 0, 125, 162, 0, 69, 42] := by decide +kernel
theorem dX11_toFill_24 : decode cX11_toFill 24 = .ok (.getfield 19, 3) := dz2 dzo180 0 0 19 dzbX11_toFill_24 rfl
theorem dX11_toFill_27 : decode cX11_toFill 27 = .ok (.invokevirtual 240, 3) := dz2 dzo182 3 0 240 dzbX11_toFill_24 rfl
theorem dX11_toFill_30 : decode cX11_toFill 30 = .ok (.iconst 0, 1) := dz0 dzo3 6 dzbX11_toFill_24 rfl
theorem dX11_toFill_31 : decode cX11_toFill 31 = .ok (.istore_n 3, 1) := dz0 dzo62 7 dzbX11_toFill_24 rfl
theorem dX11_toFill_32 : decode cX11_toFill 32 = .ok (.iload_n 3, 1) := dz0 dzo29 8 dzbX11_toFill_24 rfl
theorem dX11_toFill_33 : decode cX11_toFill 33 = .ok (.aload_n 0, 1) := dz0 dzo42 9 dzbX11_toFill_24 rfl
theorem dX11_toFill_34 : decode cX11_toFill 34 = .ok (.getfield 19, 3) := dz2 dzo180 10 0 19 dzbX11_toFill_24 rfl
theorem dX11_toFill_37 : decode cX11_toFill 37 = .ok (.getfield 121, 3) := dz2 dzo180 13 0 121 dzbX11_toFill_24 rfl
theorem dX11_toFill_40 : decode cX11_toFill 40 = .ok (.getfield 125, 3) := dz2 dzo180 16 0 125 dzbX11_toFill_24 rfl
theorem dX11_toFill_43 : decode cX11_toFill 43 = .ok (.if_icmp .ge 69, 3) := dz4 dzo162 19 0 69 69 rfl dzbX11_toFill_24 rfl
theorem dX11_toFill_46 : decode cX11_toFill 46 = .ok (.aload_n 0, 1) := dz0 dzo42 22 dzbX11_toFill_24 rfl
theorem dzbX11_toFill_47 : dzB cX11_toFill 47 [180, 0, 19, 180, 0, 121, 29, 182, 0, 146, 4, 160, 0, 48, 42, 180, 0, 23, 180, 0, 121, 29, 3] := by decide +kernel
theorem dX11_toFill_47 : decode cX11_toFill 47 = .ok (.getfield 19, 3) := dz2 dzo180 0 0 19 dzbX11_toFill_47 rfl
theorem dX11_toFill_50 : decode cX11_toFill 50 = .ok (.getfield 121, 3) := dz2 dzo180 3 0 121 dzbX11_toFill_47 rfl
theorem dX11_toFill_53 : decode cX11_toFill 53 = .ok (.iload_n 3, 1) := dz0 dzo29 6 dzbX11_toFill_47 rfl
theorem dX11_toFill_54 : decode cX11_toFill 54 = .ok (.invokevirtual 146, 3) := dz2 dzo182 7 0 146 dzbX11_toFill_47 rfl
theorem dX11_toFill_57 : decode cX11_toFill 57 = .ok (.iconst 1, 1) := dz0 dzo4 10 dzbX11_toFill_47 rfl
theorem dX11_toFill_58 : decode cX11_toFill 58 = .ok (.if_icmp .ne 48, 3) := dz4 dzo160 11 0 48 48 rfl dzbX11_toFill_47 rfl
theorem dX11_toFill_61 : decode cX11_toFill 61 = .ok (.aload_n 0, 1) := dz0 dzo42 14 dzbX11_toFill_47 rfl
theorem dX11_toFill_62 : decode cX11_toFill 62 = .ok (.getfield 23, 3) := dz2 dzo180 15 0 23 dzbX11_toFill_47 rfl
theorem dX11_toFill_65 : decode cX11_toFill 65 = .ok (.getfield 121, 3) := dz2 dzo180 18 0 121 dzbX11_toFill_47 rfl
theorem dX11_toFill_68 : decode cX11_toFill 68 = .ok (.iload_n 3, 1) := dz0 dzo29 21 dzbX11_toFill_47 rfl
theorem dX11_toFill_69 : decode cX11_toFill 69 = .ok (.iconst 0, 1) := dz0 dzo3 22 dzbX11_toFill_47 rfl
theorem dzbX11_toFill_70 : dzB cX11_toFill 70 [182, 0, 244, 42, 42, 180, 0, 23, 182, 0, 248, 54, 4, 42, 180, 0, 23, 180, 0, 121, 29, 4] := by decide +kernel
theorem dX11_toFill_70 : decode cX11_toFill 70 = .ok (.invokevirtual 244, 3) := dz2 dzo182 0 0 244 dzbX11_toFill_70 rfl
theorem dX11_toFill_73 : decode cX11_toFill 73 = .ok (.aload_n 0, 1) := dz0 dzo42 3 dzbX11_toFill_70 rfl
theorem dX11_toFill_74 : decode cX11_toFill 74 = .ok (.aload_n 0, 1) := dz0 dzo42 4 dzbX11_toFill_70 rfl
theorem dX11_toFill_75 : decode cX11_toFill 75 = .ok (.getfield 23, 3) := dz2 dzo180 5 0 23 dzbX11_toFill_70 rfl
theorem dX11_toFill_78 : decode cX11_toFill 78 = .ok (.invokevirtual 248, 3) := dz2 dzo182 8 0 248 dzbX11_toFill_70 rfl
theorem dX11_toFill_81 : decode cX11_toFill 81 = .ok (.istore 4, 2) := dz1 dzo54 11 4 dzbX11_toFill_70 rfl
theorem dX11_toFill_83 : decode cX11_toFill 83 = .ok (.aload_n 0, 1) := dz0 dzo42 13 dzbX11_toFill_70 rfl
theorem dX11_toFill_84 : decode cX11_toFill 84 = .ok (.getfield 23, 3) := dz2 dzo180 14 0 23 dzbX11_toFill_70 rfl
theorem dX11_toFill_87 : decode cX11_toFill 87 = .ok (.getfield 121, 3) := dz2 dzo180 17 0 121 dzbX11_toFill_70 rfl
theorem dX11_toFill_90 : decode cX11_toFill 90 = .ok (.iload_n 3, 1) := dz0 dzo29 20 dzbX11_toFill_70 rfl
theorem dX11_toFill_91 : decode cX11_toFill 91 = .ok (.iconst 1, 1) := dz0 dzo4 21 dzbX11_toFill_70 rfl
theorem dzbX11_toFill_92 : dzB cX11_toFill 92 [182, 0, 244, 21, 4, 28, 162, 0, 8, 21, 4, 61, 29, 60, 132, 3, 1, 167, 255, 179, 42, 27] := by decide +kernel
theorem dX11_toFill_92 : decode cX11_toFill 92 = .ok (.invokevirtual 244, 3) := dz2 dzo182 0 0 244 dzbX11_toFill_92 rfl
theorem dX11_toFill_95 : decode cX11_toFill 95 = .ok (.iload 4, 2) := dz1 dzo21 3 4 dzbX11_toFill_92 rfl
theorem dX11_toFill_97 : decode cX11_toFill 97 = .ok (.iload_n 2, 1) := dz0 dzo28 5 dzbX11_toFill_92 rfl
theorem dX11_toFill_98 : decode cX11_toFill 98 = .ok (.if_icmp .ge 8, 3) := dz4 dzo162 6 0 8 8 rfl dzbX11_toFill_92 rfl
theorem dX11_toFill_101 : decode cX11_toFill 101 = .ok (.iload 4, 2) := dz1 dzo21 9 4 dzbX11_toFill_92 rfl
theorem dX11_toFill_103 : decode cX11_toFill 103 = .ok (.istore_n 2, 1) := dz0 dzo61 11 dzbX11_toFill_92 rfl
theorem dX11_toFill_104 : decode cX11_toFill 104 = .ok (.iload_n 3, 1) := dz0 dzo29 12 dzbX11_toFill_92 rfl
theorem dX11_toFill_105 : decode cX11_toFill 105 = .ok (.istore_n 1, 1) := dz0 dzo60 13 dzbX11_toFill_92 rfl
theorem dX11_toFill_106 : decode cX11_toFill 106 = .ok (.iinc 3 1, 3) := dz5 dzo132 14 3 1 1 rfl dzbX11_toFill_92 rfl
theorem dX11_toFill_109 : decode cX11_toFill 109 = .ok (.goto (-77), 3) := dz4 dzo167 17 255 179 (-77) rfl dzbX11_toFill_92 rfl
theorem dX11_toFill_112 : decode cX11_toFill 112 = .ok (.aload_n 0, 1) := dz0 dzo42 20 dzbX11_toFill_92 rfl
theorem dX11_toFill_113 : decode cX11_toFill 113 = .ok (.iload_n 1, 1) := dz0 dzo27 21 dzbX11_toFill_92 rfl
theorem dzbX11_toFill_114 : dzB cX11_toFill 114 [182, 0, 130, 172] := by decide +kernel
theorem dX11_toFill_114 : decode cX11_toFill 114 = .ok (.invokevirtual 130, 3) := dz2 dzo182 0 0 130 dzbX11_toFill_114 rfl
theorem dX11_toFill_117 : decode cX11_toFill 117 = .ok (.ireturn, 1) := dz0 dzo172 3 dzbX11_toFill_114 rfl
theorem dzbX11_trap_0 : dzB cX11_trap 0 [42, 182, 0, 188, 154, 0, 9, 42, 4, 182, 0, 100, 172, 42, 180, 0, 60, 42, 180, 0, 81, 42] := by decide +kernel
theorem dX11_trap_0 : decode cX11_trap 0 = .ok (.aload_n 0, 1) := dz0 dzo42 0 dzbX11_trap_0 rfl
theorem dX11_trap_1 : decode cX11_trap 1 = .ok (.invokevirtual 188, 3) := dz2 dzo182 1 0 188 dzbX11_trap_0 rfl
theorem dX11_trap_4 : decode cX11_trap 4 = .ok (.ifCond .ne 9, 3) := dz4 dzo154 4 0 9 9 rfl dzbX11_trap_0 rfl
theorem dX11_trap_7 : decode cX11_trap 7 = .ok (.aload_n 0, 1) := dz0 dzo42 7 dzbX11_trap_0 rfl
theorem dX11_trap_8 : decode cX11_trap 8 = .ok (.iconst 1, 1) := dz0 dzo4 8 dzbX11_trap_0 rfl
theorem dX11_trap_9 : decode cX11_trap 9 = .ok (.invokevirtual 100, 3) := dz2 dzo182 9 0 100 dzbX11_trap_0 rfl
theorem dX11_trap_12 : decode cX11_trap 12 = .ok (.ireturn, 1) := dz0 dzo172 12 dzbX11_trap_0 rfl
theorem dX11_trap_13 : decode cX11_trap 13 = .ok (.aload_n 0, 1) := dz0 dzo42 13 dzbX11_trap_0 rfl
theorem dX11_trap_14 : decode cX11_trap 14 = .ok (.getfield 60, 3) := dz2 dzo180 14 0 60 dzbX11_trap_0 rfl
theorem dX11_trap_17 : decode cX11_trap 17 = .ok (.aload_n 0, 1) := dz0 dzo42 17 dzbX11_trap_0 rfl
theorem dX11_trap_18 : decode cX11_trap 18 = .ok (.getfield 81, 3) := dz2 dzo180 18 0 81 dzbX11_trap_0 rfl
theorem dX11_trap_21 : decode cX11_trap 21 = .ok (.aload_n 0, 1) := dz0 dzo42 21 dzbX11_trap_0 rfl
theorem dzbX11_trap_22 : dzB cX11_trap 22 [180, 0, 19, 182, 0, 235, 42, 180, 0, 60, 3, 182, 0, 252, 60, 16, 254, 61, 3, 62, 3, 54, 4] := by decide +kernel
theorem dX11_trap_22 : decode cX11_trap 22 = .ok (.getfield 19, 3) := dz2 dzo180 0 0 19 dzbX11_trap_22 rfl
theorem dX11_trap_25 : decode cX11_trap 25 = .ok (.invokevirtual 235, 3) := dz2 dzo182 3 0 235 dzbX11_trap_22 rfl
theorem dX11_trap_28 : decode cX11_trap 28 = .ok (.aload_n 0, 1) := dz0 dzo42 6 dzbX11_trap_22 rfl
theorem dX11_trap_29 : decode cX11_trap 29 = .ok (.getfield 60, 3) := dz2 dzo180 7 0 60 dzbX11_trap_22 rfl
theorem dX11_trap_32 : decode cX11_trap 32 = .ok (.iconst 0, 1) := dz0 dzo3 10 dzbX11_trap_22 rfl
theorem dX11_trap_33 : decode cX11_trap 33 = .ok (.invokevirtual 252, 3) := dz2 dzo182 11 0 252 dzbX11_trap_22 rfl
theorem dX11_trap_36 : decode cX11_trap 36 = .ok (.istore_n 1, 1) := dz0 dzo60 14 dzbX11_trap_22 rfl
theorem dX11_trap_37 : decode cX11_trap 37 = .ok (.bipush (-2), 2) := dz3 dzo16 15 254 (-2) rfl dzbX11_trap_22 rfl
theorem dX11_trap_39 : decode cX11_trap 39 = .ok (.istore_n 2, 1) := dz0 dzo61 17 dzbX11_trap_22 rfl
theorem dX11_trap_40 : decode cX11_trap 40 = .ok (.iconst 0, 1) := dz0 dzo3 18 dzbX11_trap_22 rfl
theorem dX11_trap_41 : decode cX11_trap 41 = .ok (.istore_n 3, 1) := dz0 dzo62 19 dzbX11_trap_22 rfl
theorem dX11_trap_42 : decode cX11_trap 42 = .ok (.iconst 0, 1) := dz0 dzo3 20 dzbX11_trap_22 rfl
theorem dX11_trap_43 : decode cX11_trap 43 = .ok (.istore 4, 2) := dz1 dzo54 21 4 dzbX11_trap_22 rfl
theorem dzbX11_trap_45 : dzB cX11_trap 45 [21, 4, 42, 180, 0, 19, 180, 0, 121, 180, 0, 125, 162, 0, 68, 42, 180, 0, 19, 180, 0, 121, 21, 4] := by decide +kernel
theorem dX11_trap_45 : decode cX11_trap 45 = .ok (.iload 4, 2) := dz1 dzo21 0 4 dzbX11_trap_45 rfl
theorem dX11_trap_47 : decode cX11_trap 47 = .ok (.aload_n 0, 1) := dz0 dzo42 2 dzbX11_trap_45 rfl
theorem dX11_trap_48 : decode cX11_trap 48 = .ok (.getfield 19, 3) := dz2 dzo180 3 0 19 dzbX11_trap_45 rfl
theorem dX11_trap_51 : decode cX11_trap 51 = .ok (.getfield 121, 3) := dz2 dzo180 6 0 121 dzbX11_trap_45 rfl
theorem dX11_trap_54 : decode cX11_trap 54 = .ok (.getfield 125, 3) := dz2 dzo180 9 0 125 dzbX11_trap_45 rfl
theorem dX11_trap_57 : decode cX11_trap 57 = .ok (.if_icmp .ge 68, 3) := dz4 dzo162 12 0 68 68 rfl dzbX11_trap_45 rfl
theorem dX11_trap_60 : decode cX11_trap 60 = .ok (.aload_n 0, 1) := dz0 dzo42 15 dzbX11_trap_45 rfl
theorem dX11_trap_61 : decode cX11_trap 61 = .ok (.getfield 19, 3) := dz2 dzo180 16 0 19 dzbX11_trap_45 rfl
theorem dX11_trap_64 : decode cX11_trap 64 = .ok (.getfield 121, 3) := dz2 dzo180 19 0 121 dzbX11_trap_45 rfl
theorem dX11_trap_67 : decode cX11_trap 67 = .ok (.iload 4, 2) := dz1 dzo21 22 4 dzbX11_trap_45 rfl
theorem dzbX11_trap_69 : dzB cX11_trap 69 [182, 0, 146, 154, 0, 47, 42, 180, 0, 19, 21, 4, 182, 0, 152, 154, 0, 35, 27, 42, 180, 0, 60, 4] := by decide +kernel
theorem dX11_trap_69 : decode cX11_trap 69 = .ok (.invokevirtual 146, 3) := dz2 dzo182 0 0 146 dzbX11_trap_69 rfl
theorem dX11_trap_72 : decode cX11_trap 72 = .ok (.ifCond .ne 47, 3) := dz4 dzo154 3 0 47 47 rfl dzbX11_trap_69 rfl
theorem dX11_trap_75 : decode cX11_trap 75 = .ok (.aload_n 0, 1) := dz0 dzo42 6 dzbX11_trap_69 rfl
theorem dX11_trap_76 : decode cX11_trap 76 = .ok (.getfield 19, 3) := dz2 dzo180 7 0 19 dzbX11_trap_69 rfl
theorem dX11_trap_79 : decode cX11_trap 79 = .ok (.iload 4, 2) := dz1 dzo21 10 4 dzbX11_trap_69 rfl
theorem dX11_trap_81 : decode cX11_trap 81 = .ok (.invokevirtual 152, 3) := dz2 dzo182 12 0 152 dzbX11_trap_69 rfl
theorem dX11_trap_84 : decode cX11_trap 84 = .ok (.ifCond .ne 35, 3) := dz4 dzo154 15 0 35 35 rfl dzbX11_trap_69 rfl
theorem dX11_trap_87 : decode cX11_trap 87 = .ok (.iload_n 1, 1) := dz0 dzo27 18 dzbX11_trap_69 rfl
theorem dX11_trap_88 : decode cX11_trap 88 = .ok (.aload_n 0, 1) := dz0 dzo42 19 dzbX11_trap_69 rfl
theorem dX11_trap_89 : decode cX11_trap 89 = .ok (.getfield 60, 3) := dz2 dzo180 20 0 60 dzbX11_trap_69 rfl
theorem dX11_trap_92 : decode cX11_trap 92 = .ok (.iconst 1, 1) := dz0 dzo4 23 dzbX11_trap_69 rfl
theorem dzbX11_trap_93 : dzB cX11_trap 93 [21, 4, 120, 182, 0, 252, 2, 130, 126, 184, 0, 255, 54, 5, 21, 5, 29, 164, 0, 9, 21, 5, 62] := by decide +kernel
theorem dX11_trap_93 : decode cX11_trap 93 = .ok (.iload 4, 2) := dz1 dzo21 0 4 dzbX11_trap_93 rfl
theorem dX11_trap_95 : decode cX11_trap 95 = .ok (.ishl, 1) := dz0 dzo120 2 dzbX11_trap_93 rfl
theorem dX11_trap_96 : decode cX11_trap 96 = .ok (.invokevirtual 252, 3) := dz2 dzo182 3 0 252 dzbX11_trap_93 rfl
theorem dX11_trap_99 : decode cX11_trap 99 = .ok (.iconst (-1), 1) := dz0 dzo2 6 dzbX11_trap_93 rfl
theorem dX11_trap_100 : decode cX11_trap 100 = .ok (.ixor, 1) := dz0 dzo130 7 dzbX11_trap_93 rfl
theorem dX11_trap_101 : decode cX11_trap 101 = .ok (.iand, 1) := dz0 dzo126 8 dzbX11_trap_93 rfl
theorem dX11_trap_102 : decode cX11_trap 102 = .ok (.invokestatic 255, 3) := dz2 dzo184 9 0 255 dzbX11_trap_93 rfl
theorem dX11_trap_105 : decode cX11_trap 105 = .ok (.istore 5, 2) := dz1 dzo54 12 5 dzbX11_trap_93 rfl
theorem dX11_trap_107 : decode cX11_trap 107 = .ok (.iload 5, 2) := dz1 dzo21 14 5 dzbX11_trap_93 rfl
theorem dX11_trap_109 : decode cX11_trap 109 = .ok (.iload_n 3, 1) := dz0 dzo29 16 dzbX11_trap_93 rfl
theorem dX11_trap_110 : decode cX11_trap 110 = .ok (.if_icmp .le 9, 3) := dz4 dzo164 17 0 9 9 rfl dzbX11_trap_93 rfl
theorem dX11_trap_113 : decode cX11_trap 113 = .ok (.iload 5, 2) := dz1 dzo21 20 5 dzbX11_trap_93 rfl
theorem dX11_trap_115 : decode cX11_trap 115 = .ok (.istore_n 3, 1) := dz0 dzo62 22 dzbX11_trap_93 rfl
theorem dzbX11_trap_116 : dzB cX11_trap 116 [21, 4, 61, 132, 4, 1, 167, 255, 179, 42, 28, 182, 0, 130, 172] := by decide +kernel
theorem dX11_trap_116 : decode cX11_trap 116 = .ok (.iload 4, 2) := dz1 dzo21 0 4 dzbX11_trap_116 rfl
theorem dX11_trap_118 : decode cX11_trap 118 = .ok (.istore_n 2, 1) := dz0 dzo61 2 dzbX11_trap_116 rfl
theorem dX11_trap_119 : decode cX11_trap 119 = .ok (.iinc 4 1, 3) := dz5 dzo132 3 4 1 1 rfl dzbX11_trap_116 rfl
theorem dX11_trap_122 : decode cX11_trap 122 = .ok (.goto (-77), 3) := dz4 dzo167 6 255 179 (-77) rfl dzbX11_trap_116 rfl
theorem dX11_trap_125 : decode cX11_trap 125 = .ok (.aload_n 0, 1) := dz0 dzo42 9 dzbX11_trap_116 rfl
theorem dX11_trap_126 : decode cX11_trap 126 = .ok (.iload_n 2, 1) := dz0 dzo28 10 dzbX11_trap_116 rfl
theorem dX11_trap_127 : decode cX11_trap 127 = .ok (.invokevirtual 130, 3) := dz2 dzo182 11 0 130 dzbX11_trap_116 rfl
theorem dX11_trap_130 : decode cX11_trap 130 = .ok (.ireturn, 1) := dz0 dzo172 14 dzbX11_trap_116 rfl
theorem dzbX11_tread_0 : dzB cX11_tread 0 [42, 182, 0, 188, 154, 0, 9, 42, 4, 182, 0, 100, 172, 42, 42, 180, 0, 67, 42, 180, 0, 81] := by decide +kernel
theorem dX11_tread_0 : decode cX11_tread 0 = .ok (.aload_n 0, 1) := dz0 dzo42 0 dzbX11_tread_0 rfl
theorem dX11_tread_1 : decode cX11_tread 1 = .ok (.invokevirtual 188, 3) := dz2 dzo182 1 0 188 dzbX11_tread_0 rfl
theorem dX11_tread_4 : decode cX11_tread 4 = .ok (.ifCond .ne 9, 3) := dz4 dzo154 4 0 9 9 rfl dzbX11_tread_0 rfl
theorem dX11_tread_7 : decode cX11_tread 7 = .ok (.aload_n 0, 1) := dz0 dzo42 7 dzbX11_tread_0 rfl
theorem dX11_tread_8 : decode cX11_tread 8 = .ok (.iconst 1, 1) := dz0 dzo4 8 dzbX11_tread_0 rfl
theorem dX11_tread_9 : decode cX11_tread 9 = .ok (.invokevirtual 100, 3) := dz2 dzo182 9 0 100 dzbX11_tread_0 rfl
theorem dX11_tread_12 : decode cX11_tread 12 = .ok (.ireturn, 1) := dz0 dzo172 12 dzbX11_tread_0 rfl
theorem dX11_tread_13 : decode cX11_tread 13 = .ok (.aload_n 0, 1) := dz0 dzo42 13 dzbX11_tread_0 rfl
theorem dX11_tread_14 : decode cX11_tread 14 = .ok (.aload_n 0, 1) := dz0 dzo42 14 dzbX11_tread_0 rfl
theorem dX11_tread_15 : decode cX11_tread 15 = .ok (.getfield 67, 3) := dz2 dzo180 15 0 67 dzbX11_tread_0 rfl
theorem dX11_tread_18 : decode cX11_tread 18 = .ok (.aload_n 0, 1) := dz0 dzo42 18 dzbX11_tread_0 rfl
theorem dX11_tread_19 : decode cX11_tread 19 = .ok (.getfield 81, 3) := dz2 dzo180 19 0 81 dzbX11_tread_0 rfl
theorem dzbX11_tread_22 : dzB cX11_tread 22 [180, 1, 18, 182, 1, 39, 182, 0, 130, 172] := by decide +kernel
theorem dX11_tread_22 : decode cX11_tread 22 = .ok (.getfield 274, 3) := dz2 dzo180 0 1 18 dzbX11_tread_22 rfl
theorem dX11_tread_25 : decode cX11_tread 25 = .ok (.invokevirtual 295, 3) := dz2 dzo182 3 1 39 dzbX11_tread_22 rfl
theorem dX11_tread_28 : decode cX11_tread 28 = .ok (.invokevirtual 130, 3) := dz2 dzo182 6 0 130 dzbX11_tread_22 rfl
theorem dX11_tread_31 : decode cX11_tread 31 = .ok (.ireturn, 1) := dz0 dzo172 9 dzbX11_tread_22 rfl
theorem dzbX11_treadLeaves_0 : dzB cX11_treadLeaves 0 [42, 182, 0, 188, 154, 0, 9, 42, 4, 182, 0, 100, 172, 42, 180, 0, 67, 42, 180, 0, 81, 180, 1, 18] := by decide +kernel
theorem dX11_treadLeaves_0 : decode cX11_treadLeaves 0 = .ok (.aload_n 0, 1) := dz0 dzo42 0 dzbX11_treadLeaves_0 rfl
theorem dX11_treadLeaves_1 : decode cX11_treadLeaves 1 = .ok (.invokevirtual 188, 3) := dz2 dzo182 1 0 188 dzbX11_treadLeaves_0 rfl
theorem dX11_treadLeaves_4 : decode cX11_treadLeaves 4 = .ok (.ifCond .ne 9, 3) := dz4 dzo154 4 0 9 9 rfl dzbX11_treadLeaves_0 rfl
theorem dX11_treadLeaves_7 : decode cX11_treadLeaves 7 = .ok (.aload_n 0, 1) := dz0 dzo42 7 dzbX11_treadLeaves_0 rfl
theorem dX11_treadLeaves_8 : decode cX11_treadLeaves 8 = .ok (.iconst 1, 1) := dz0 dzo4 8 dzbX11_treadLeaves_0 rfl
theorem dX11_treadLeaves_9 : decode cX11_treadLeaves 9 = .ok (.invokevirtual 100, 3) := dz2 dzo182 9 0 100 dzbX11_treadLeaves_0 rfl
theorem dX11_treadLeaves_12 : decode cX11_treadLeaves 12 = .ok (.ireturn, 1) := dz0 dzo172 12 dzbX11_treadLeaves_0 rfl
theorem dX11_treadLeaves_13 : decode cX11_treadLeaves 13 = .ok (.aload_n 0, 1) := dz0 dzo42 13 dzbX11_treadLeaves_0 rfl
theorem dX11_treadLeaves_14 : decode cX11_treadLeaves 14 = .ok (.getfield 67, 3) := dz2 dzo180 14 0 67 dzbX11_treadLeaves_0 rfl
theorem dX11_treadLeaves_17 : decode cX11_treadLeaves 17 = .ok (.aload_n 0, 1) := dz0 dzo42 17 dzbX11_treadLeaves_0 rfl
theorem dX11_treadLeaves_18 : decode cX11_treadLeaves 18 = .ok (.getfield 81, 3) := dz2 dzo180 18 0 81 dzbX11_treadLeaves_0 rfl
theorem dX11_treadLeaves_21 : decode cX11_treadLeaves 21 = .ok (.getfield 274, 3) := dz2 dzo180 21 1 18 dzbX11_treadLeaves_0 rfl
theorem dzbX11_treadLeaves_24 : dzB cX11_treadLeaves 24 [182, 1, 39, 60, 42, 27, 16, 254, 160, 0, 8, 16, 254, 167, 0, 11, 42, 180, 0, 67, 27, 182, 1, 42] := by decide +kernel
theorem dX11_treadLeaves_24 : decode cX11_treadLeaves 24 = .ok (.invokevirtual 295, 3) := dz2 dzo182 0 1 39 dzbX11_treadLeaves_24 rfl
theorem dX11_treadLeaves_27 : decode cX11_treadLeaves 27 = .ok (.istore_n 1, 1) := dz0 dzo60 3 dzbX11_treadLeaves_24 rfl
theorem dX11_treadLeaves_28 : decode cX11_treadLeaves 28 = .ok (.aload_n 0, 1) := dz0 dzo42 4 dzbX11_treadLeaves_24 rfl
theorem dX11_treadLeaves_29 : decode cX11_treadLeaves 29 = .ok (.iload_n 1, 1) := dz0 dzo27 5 dzbX11_treadLeaves_24 rfl
theorem dX11_treadLeaves_30 : decode cX11_treadLeaves 30 = .ok (.bipush (-2), 2) := dz3 dzo16 6 254 (-2) rfl dzbX11_treadLeaves_24 rfl
theorem dX11_treadLeaves_32 : decode cX11_treadLeaves 32 = .ok (.if_icmp .ne 8, 3) := dz4 dzo160 8 0 8 8 rfl dzbX11_treadLeaves_24 rfl
theorem dX11_treadLeaves_35 : decode cX11_treadLeaves 35 = .ok (.bipush (-2), 2) := dz3 dzo16 11 254 (-2) rfl dzbX11_treadLeaves_24 rfl
theorem dX11_treadLeaves_37 : decode cX11_treadLeaves 37 = .ok (.goto 11, 3) := dz4 dzo167 13 0 11 11 rfl dzbX11_treadLeaves_24 rfl
theorem dX11_treadLeaves_40 : decode cX11_treadLeaves 40 = .ok (.aload_n 0, 1) := dz0 dzo42 16 dzbX11_treadLeaves_24 rfl
theorem dX11_treadLeaves_41 : decode cX11_treadLeaves 41 = .ok (.getfield 67, 3) := dz2 dzo180 17 0 67 dzbX11_treadLeaves_24 rfl
theorem dX11_treadLeaves_44 : decode cX11_treadLeaves 44 = .ok (.iload_n 1, 1) := dz0 dzo27 20 dzbX11_treadLeaves_24 rfl
theorem dX11_treadLeaves_45 : decode cX11_treadLeaves 45 = .ok (.invokevirtual 298, 3) := dz2 dzo182 21 1 42 dzbX11_treadLeaves_24 rfl
theorem dzbX11_treadLeaves_48 : dzB cX11_treadLeaves 48 [182, 0, 130, 172] := by decide +kernel
theorem dX11_treadLeaves_48 : decode cX11_treadLeaves 48 = .ok (.invokevirtual 130, 3) := dz2 dzo182 0 0 130 dzbX11_treadLeaves_48 rfl
theorem dX11_treadLeaves_51 : decode cX11_treadLeaves 51 = .ok (.ireturn, 1) := dz0 dzo172 3 dzbX11_treadLeaves_48 rfl
theorem dzbX11_trouble_0 : dzB cX11_trouble 0 [42, 180, 0, 136, 172] := by decide +kernel
theorem dX11_trouble_0 : decode cX11_trouble 0 = .ok (.aload_n 0, 1) := dz0 dzo42 0 dzbX11_trouble_0 rfl
theorem dX11_trouble_1 : decode cX11_trouble 1 = .ok (.getfield 136, 3) := dz2 dzo180 1 0 136 dzbX11_trouble_0 rfl
theorem dX11_trouble_4 : decode cX11_trouble 4 = .ok (.ireturn, 1) := dz0 dzo172 4 dzbX11_trouble_0 rfl
theorem dzbX11_undo_0 : dzB cX11_undo 0 [42, 180, 0, 115, 154, 0, 10, 42, 16, 6, 182, 1, 98, 172, 42, 89, 180, 0, 115, 4, 100, 181, 0, 115] := by decide +kernel
theorem dX11_undo_0 : decode cX11_undo 0 = .ok (.aload_n 0, 1) := dz0 dzo42 0 dzbX11_undo_0 rfl
theorem dX11_undo_1 : decode cX11_undo 1 = .ok (.getfield 115, 3) := dz2 dzo180 1 0 115 dzbX11_undo_0 rfl
theorem dX11_undo_4 : decode cX11_undo 4 = .ok (.ifCond .ne 10, 3) := dz4 dzo154 4 0 10 10 rfl dzbX11_undo_0 rfl
theorem dX11_undo_7 : decode cX11_undo 7 = .ok (.aload_n 0, 1) := dz0 dzo42 7 dzbX11_undo_0 rfl
theorem dX11_undo_8 : decode cX11_undo 8 = .ok (.bipush 6, 2) := dz3 dzo16 8 6 6 rfl dzbX11_undo_0 rfl
theorem dX11_undo_10 : decode cX11_undo 10 = .ok (.invokevirtual 354, 3) := dz2 dzo182 10 1 98 dzbX11_undo_0 rfl
theorem dX11_undo_13 : decode cX11_undo 13 = .ok (.ireturn, 1) := dz0 dzo172 13 dzbX11_undo_0 rfl
theorem dX11_undo_14 : decode cX11_undo 14 = .ok (.aload_n 0, 1) := dz0 dzo42 14 dzbX11_undo_0 rfl
theorem dX11_undo_15 : decode cX11_undo 15 = .ok (.dup, 1) := dz0 dzo89 15 dzbX11_undo_0 rfl
theorem dX11_undo_16 : decode cX11_undo 16 = .ok (.getfield 115, 3) := dz2 dzo180 16 0 115 dzbX11_undo_0 rfl
theorem dX11_undo_19 : decode cX11_undo 19 = .ok (.iconst 1, 1) := dz0 dzo4 19 dzbX11_undo_0 rfl
theorem dX11_undo_20 : decode cX11_undo 20 = .ok (.isub, 1) := dz0 dzo100 20 dzbX11_undo_0 rfl
theorem dX11_undo_21 : decode cX11_undo 21 = .ok (.putfield 115, 3) := dz2 dzo181 21 0 115 dzbX11_undo_0 rfl
theorem dzbX11_undo_24 : dzB cX11_undo 24 [42, 180, 0, 19, 42, 180, 0, 26, 42, 180, 0, 115, 50, 182, 0, 240, 42, 3, 182, 1, 98, 172] := by decide +kernel
theorem dX11_undo_24 : decode cX11_undo 24 = .ok (.aload_n 0, 1) := dz0 dzo42 0 dzbX11_undo_24 rfl
theorem dX11_undo_25 : decode cX11_undo 25 = .ok (.getfield 19, 3) := dz2 dzo180 1 0 19 dzbX11_undo_24 rfl
theorem dX11_undo_28 : decode cX11_undo 28 = .ok (.aload_n 0, 1) := dz0 dzo42 4 dzbX11_undo_24 rfl
theorem dX11_undo_29 : decode cX11_undo 29 = .ok (.getfield 26, 3) := dz2 dzo180 5 0 26 dzbX11_undo_24 rfl
theorem dX11_undo_32 : decode cX11_undo 32 = .ok (.aload_n 0, 1) := dz0 dzo42 8 dzbX11_undo_24 rfl
theorem dX11_undo_33 : decode cX11_undo 33 = .ok (.getfield 115, 3) := dz2 dzo180 9 0 115 dzbX11_undo_24 rfl
theorem dX11_undo_36 : decode cX11_undo 36 = .ok (.aaload, 1) := dz0 dzo50 12 dzbX11_undo_24 rfl
theorem dX11_undo_37 : decode cX11_undo 37 = .ok (.invokevirtual 240, 3) := dz2 dzo182 13 0 240 dzbX11_undo_24 rfl
theorem dX11_undo_40 : decode cX11_undo 40 = .ok (.aload_n 0, 1) := dz0 dzo42 16 dzbX11_undo_24 rfl
theorem dX11_undo_41 : decode cX11_undo 41 = .ok (.iconst 0, 1) := dz0 dzo3 17 dzbX11_undo_24 rfl
theorem dX11_undo_42 : decode cX11_undo 42 = .ok (.invokevirtual 354, 3) := dz2 dzo182 18 1 98 dzbX11_undo_24 rfl
theorem dX11_undo_45 : decode cX11_undo 45 = .ok (.ireturn, 1) := dz0 dzo172 21 dzbX11_undo_24 rfl
theorem dzbX11_walkOdds_0 : dzB cX11_walkOdds 0 [42, 180, 0, 19, 180, 0, 121, 27, 182, 0, 142, 154, 0, 10, 42, 4, 182, 0, 100, 133, 173, 28, 4] := by decide +kernel
theorem dX11_walkOdds_0 : decode cX11_walkOdds 0 = .ok (.aload_n 0, 1) := dz0 dzo42 0 dzbX11_walkOdds_0 rfl
theorem dX11_walkOdds_1 : decode cX11_walkOdds 1 = .ok (.getfield 19, 3) := dz2 dzo180 1 0 19 dzbX11_walkOdds_0 rfl
theorem dX11_walkOdds_4 : decode cX11_walkOdds 4 = .ok (.getfield 121, 3) := dz2 dzo180 4 0 121 dzbX11_walkOdds_0 rfl
theorem dX11_walkOdds_7 : decode cX11_walkOdds 7 = .ok (.iload_n 1, 1) := dz0 dzo27 7 dzbX11_walkOdds_0 rfl
theorem dX11_walkOdds_8 : decode cX11_walkOdds 8 = .ok (.invokevirtual 142, 3) := dz2 dzo182 8 0 142 dzbX11_walkOdds_0 rfl
theorem dX11_walkOdds_11 : decode cX11_walkOdds 11 = .ok (.ifCond .ne 10, 3) := dz4 dzo154 11 0 10 10 rfl dzbX11_walkOdds_0 rfl
theorem dX11_walkOdds_14 : decode cX11_walkOdds 14 = .ok (.aload_n 0, 1) := dz0 dzo42 14 dzbX11_walkOdds_0 rfl
theorem dX11_walkOdds_15 : decode cX11_walkOdds 15 = .ok (.iconst 1, 1) := dz0 dzo4 15 dzbX11_walkOdds_0 rfl
theorem dX11_walkOdds_16 : decode cX11_walkOdds 16 = .ok (.invokevirtual 100, 3) := dz2 dzo182 16 0 100 dzbX11_walkOdds_0 rfl
theorem dX11_walkOdds_19 : decode cX11_walkOdds 19 = .ok (.i2l, 1) := dz0 dzo133 19 dzbX11_walkOdds_0 rfl
theorem dX11_walkOdds_20 : decode cX11_walkOdds 20 = .ok (.lreturn, 1) := dz0 dzo173 20 dzbX11_walkOdds_0 rfl
theorem dX11_walkOdds_21 : decode cX11_walkOdds 21 = .ok (.iload_n 2, 1) := dz0 dzo28 21 dzbX11_walkOdds_0 rfl
theorem dX11_walkOdds_22 : decode cX11_walkOdds 22 = .ok (.iconst 1, 1) := dz0 dzo4 22 dzbX11_walkOdds_0 rfl
theorem dzbX11_walkOdds_23 : dzB cX11_walkOdds 23 [161, 0, 35, 28, 6, 163, 0, 30, 42, 180, 0, 19, 180, 0, 121, 27, 28, 42, 180, 0, 19, 180, 0, 121] := by decide +kernel
theorem dX11_walkOdds_23 : decode cX11_walkOdds 23 = .ok (.if_icmp .lt 35, 3) := dz4 dzo161 0 0 35 35 rfl dzbX11_walkOdds_23 rfl
theorem dX11_walkOdds_26 : decode cX11_walkOdds 26 = .ok (.iload_n 2, 1) := dz0 dzo28 3 dzbX11_walkOdds_23 rfl
theorem dX11_walkOdds_27 : decode cX11_walkOdds 27 = .ok (.iconst 3, 1) := dz0 dzo6 4 dzbX11_walkOdds_23 rfl
theorem dX11_walkOdds_28 : decode cX11_walkOdds 28 = .ok (.if_icmp .gt 30, 3) := dz4 dzo163 5 0 30 30 rfl dzbX11_walkOdds_23 rfl
theorem dX11_walkOdds_31 : decode cX11_walkOdds 31 = .ok (.aload_n 0, 1) := dz0 dzo42 8 dzbX11_walkOdds_23 rfl
theorem dX11_walkOdds_32 : decode cX11_walkOdds 32 = .ok (.getfield 19, 3) := dz2 dzo180 9 0 19 dzbX11_walkOdds_23 rfl
theorem dX11_walkOdds_35 : decode cX11_walkOdds 35 = .ok (.getfield 121, 3) := dz2 dzo180 12 0 121 dzbX11_walkOdds_23 rfl
theorem dX11_walkOdds_38 : decode cX11_walkOdds 38 = .ok (.iload_n 1, 1) := dz0 dzo27 15 dzbX11_walkOdds_23 rfl
theorem dX11_walkOdds_39 : decode cX11_walkOdds 39 = .ok (.iload_n 2, 1) := dz0 dzo28 16 dzbX11_walkOdds_23 rfl
theorem dX11_walkOdds_40 : decode cX11_walkOdds 40 = .ok (.aload_n 0, 1) := dz0 dzo42 17 dzbX11_walkOdds_23 rfl
theorem dX11_walkOdds_41 : decode cX11_walkOdds 41 = .ok (.getfield 19, 3) := dz2 dzo180 18 0 19 dzbX11_walkOdds_23 rfl
theorem dX11_walkOdds_44 : decode cX11_walkOdds 44 = .ok (.getfield 121, 3) := dz2 dzo180 21 0 121 dzbX11_walkOdds_23 rfl
theorem dzbX11_walkOdds_47 : dzB cX11_walkOdds 47 [180, 1, 53, 104, 96, 182, 0, 142, 154, 0, 10, 42, 5, 182, 0, 100, 133, 173, 42, 180, 0, 74, 42] := by decide +kernel
theorem dX11_walkOdds_47 : decode cX11_walkOdds 47 = .ok (.getfield 309, 3) := dz2 dzo180 0 1 53 dzbX11_walkOdds_47 rfl
theorem dX11_walkOdds_50 : decode cX11_walkOdds 50 = .ok (.imul, 1) := dz0 dzo104 3 dzbX11_walkOdds_47 rfl
theorem dX11_walkOdds_51 : decode cX11_walkOdds 51 = .ok (.iadd, 1) := dz0 dzo96 4 dzbX11_walkOdds_47 rfl
theorem dX11_walkOdds_52 : decode cX11_walkOdds 52 = .ok (.invokevirtual 142, 3) := dz2 dzo182 5 0 142 dzbX11_walkOdds_47 rfl
theorem dX11_walkOdds_55 : decode cX11_walkOdds 55 = .ok (.ifCond .ne 10, 3) := dz4 dzo154 8 0 10 10 rfl dzbX11_walkOdds_47 rfl
theorem dX11_walkOdds_58 : decode cX11_walkOdds 58 = .ok (.aload_n 0, 1) := dz0 dzo42 11 dzbX11_walkOdds_47 rfl
theorem dX11_walkOdds_59 : decode cX11_walkOdds 59 = .ok (.iconst 2, 1) := dz0 dzo5 12 dzbX11_walkOdds_47 rfl
theorem dX11_walkOdds_60 : decode cX11_walkOdds 60 = .ok (.invokevirtual 100, 3) := dz2 dzo182 13 0 100 dzbX11_walkOdds_47 rfl
theorem dX11_walkOdds_63 : decode cX11_walkOdds 63 = .ok (.i2l, 1) := dz0 dzo133 16 dzbX11_walkOdds_47 rfl
theorem dX11_walkOdds_64 : decode cX11_walkOdds 64 = .ok (.lreturn, 1) := dz0 dzo173 17 dzbX11_walkOdds_47 rfl
theorem dX11_walkOdds_65 : decode cX11_walkOdds 65 = .ok (.aload_n 0, 1) := dz0 dzo42 18 dzbX11_walkOdds_47 rfl
theorem dX11_walkOdds_66 : decode cX11_walkOdds 66 = .ok (.getfield 74, 3) := dz2 dzo180 19 0 74 dzbX11_walkOdds_47 rfl
theorem dX11_walkOdds_69 : decode cX11_walkOdds 69 = .ok (.aload_n 0, 1) := dz0 dzo42 22 dzbX11_walkOdds_47 rfl
theorem dzbX11_walkOdds_70 : dzB cX11_walkOdds 70 [180, 0, 67, 42, 180, 0, 19, 180, 0, 121, 27, 28, 182, 1, 56, 182, 1, 59, 42, 180, 0, 67] := by decide +kernel
theorem dX11_walkOdds_70 : decode cX11_walkOdds 70 = .ok (.getfield 67, 3) := dz2 dzo180 0 0 67 dzbX11_walkOdds_70 rfl
theorem dX11_walkOdds_73 : decode cX11_walkOdds 73 = .ok (.aload_n 0, 1) := dz0 dzo42 3 dzbX11_walkOdds_70 rfl
theorem dX11_walkOdds_74 : decode cX11_walkOdds 74 = .ok (.getfield 19, 3) := dz2 dzo180 4 0 19 dzbX11_walkOdds_70 rfl
theorem dX11_walkOdds_77 : decode cX11_walkOdds 77 = .ok (.getfield 121, 3) := dz2 dzo180 7 0 121 dzbX11_walkOdds_70 rfl
theorem dX11_walkOdds_80 : decode cX11_walkOdds 80 = .ok (.iload_n 1, 1) := dz0 dzo27 10 dzbX11_walkOdds_70 rfl
theorem dX11_walkOdds_81 : decode cX11_walkOdds 81 = .ok (.iload_n 2, 1) := dz0 dzo28 11 dzbX11_walkOdds_70 rfl
theorem dX11_walkOdds_82 : decode cX11_walkOdds 82 = .ok (.invokevirtual 312, 3) := dz2 dzo182 12 1 56 dzbX11_walkOdds_70 rfl
theorem dX11_walkOdds_85 : decode cX11_walkOdds 85 = .ok (.invokevirtual 315, 3) := dz2 dzo182 15 1 59 dzbX11_walkOdds_70 rfl
theorem dX11_walkOdds_88 : decode cX11_walkOdds 88 = .ok (.aload_n 0, 1) := dz0 dzo42 18 dzbX11_walkOdds_70 rfl
theorem dX11_walkOdds_89 : decode cX11_walkOdds 89 = .ok (.getfield 67, 3) := dz2 dzo180 19 0 67 dzbX11_walkOdds_70 rfl
theorem dzbX11_walkOdds_92 : dzB cX11_walkOdds 92 [182, 1, 25, 182, 1, 29, 42, 29, 182, 1, 32, 173] := by decide +kernel
theorem dX11_walkOdds_92 : decode cX11_walkOdds 92 = .ok (.invokevirtual 281, 3) := dz2 dzo182 0 1 25 dzbX11_walkOdds_92 rfl
theorem dX11_walkOdds_95 : decode cX11_walkOdds 95 = .ok (.invokevirtual 285, 3) := dz2 dzo182 3 1 29 dzbX11_walkOdds_92 rfl
theorem dX11_walkOdds_98 : decode cX11_walkOdds 98 = .ok (.aload_n 0, 1) := dz0 dzo42 6 dzbX11_walkOdds_92 rfl
theorem dX11_walkOdds_99 : decode cX11_walkOdds 99 = .ok (.iload_n 3, 1) := dz0 dzo29 7 dzbX11_walkOdds_92 rfl
theorem dX11_walkOdds_100 : decode cX11_walkOdds 100 = .ok (.invokevirtual 288, 3) := dz2 dzo182 8 1 32 dzbX11_walkOdds_92 rfl
theorem dX11_walkOdds_103 : decode cX11_walkOdds 103 = .ok (.lreturn, 1) := dz0 dzo173 11 dzbX11_walkOdds_92 rfl
theorem dzbX11_walker_0 : dzB cX11_walker 0 [42, 27, 182, 0, 159, 154, 0, 9, 42, 4, 182, 0, 100, 172, 28] := by decide +kernel
theorem dX11_walker_0 : decode cX11_walker 0 = .ok (.aload_n 0, 1) := dz0 dzo42 0 dzbX11_walker_0 rfl
theorem dX11_walker_1 : decode cX11_walker 1 = .ok (.iload_n 1, 1) := dz0 dzo27 1 dzbX11_walker_0 rfl
theorem dX11_walker_2 : decode cX11_walker 2 = .ok (.invokevirtual 159, 3) := dz2 dzo182 2 0 159 dzbX11_walker_0 rfl
theorem dX11_walker_5 : decode cX11_walker 5 = .ok (.ifCond .ne 9, 3) := dz4 dzo154 5 0 9 9 rfl dzbX11_walker_0 rfl
theorem dX11_walker_8 : decode cX11_walker 8 = .ok (.aload_n 0, 1) := dz0 dzo42 8 dzbX11_walker_0 rfl
theorem dX11_walker_9 : decode cX11_walker 9 = .ok (.iconst 1, 1) := dz0 dzo4 9 dzbX11_walker_0 rfl
theorem dX11_walker_10 : decode cX11_walker 10 = .ok (.invokevirtual 100, 3) := dz2 dzo182 10 0 100 dzbX11_walker_0 rfl
theorem dX11_walker_13 : decode cX11_walker 13 = .ok (.ireturn, 1) := dz0 dzo172 13 dzbX11_walker_0 rfl
theorem dX11_walker_14 : decode cX11_walker 14 = .ok (.iload_n 2, 1) := dz0 dzo28 14 dzbX11_walker_0 rfl
theorem dX11_walker_15 : decode cX11_walker 15 = .ok (.tableswitch 103 0 4 #[33, 47, 61, 75, 89], 33) := by decide +kernel
theorem dzbX11_walker_48 : dzB cX11_walker 48 [42, 42, 180, 0, 81, 180, 0, 162, 27, 46, 182, 0, 130, 172, 42, 42, 180, 0, 19, 180, 0, 166, 27, 46] := by decide +kernel
theorem dX11_walker_48 : decode cX11_walker 48 = .ok (.aload_n 0, 1) := dz0 dzo42 0 dzbX11_walker_48 rfl
theorem dX11_walker_49 : decode cX11_walker 49 = .ok (.aload_n 0, 1) := dz0 dzo42 1 dzbX11_walker_48 rfl
theorem dX11_walker_50 : decode cX11_walker 50 = .ok (.getfield 81, 3) := dz2 dzo180 2 0 81 dzbX11_walker_48 rfl
theorem dX11_walker_53 : decode cX11_walker 53 = .ok (.getfield 162, 3) := dz2 dzo180 5 0 162 dzbX11_walker_48 rfl
theorem dX11_walker_56 : decode cX11_walker 56 = .ok (.iload_n 1, 1) := dz0 dzo27 8 dzbX11_walker_48 rfl
theorem dX11_walker_57 : decode cX11_walker 57 = .ok (.iaload, 1) := dz0 dzo46 9 dzbX11_walker_48 rfl
theorem dX11_walker_58 : decode cX11_walker 58 = .ok (.invokevirtual 130, 3) := dz2 dzo182 10 0 130 dzbX11_walker_48 rfl
theorem dX11_walker_61 : decode cX11_walker 61 = .ok (.ireturn, 1) := dz0 dzo172 13 dzbX11_walker_48 rfl
theorem dX11_walker_62 : decode cX11_walker 62 = .ok (.aload_n 0, 1) := dz0 dzo42 14 dzbX11_walker_48 rfl
theorem dX11_walker_63 : decode cX11_walker 63 = .ok (.aload_n 0, 1) := dz0 dzo42 15 dzbX11_walker_48 rfl
theorem dX11_walker_64 : decode cX11_walker 64 = .ok (.getfield 19, 3) := dz2 dzo180 16 0 19 dzbX11_walker_48 rfl
theorem dX11_walker_67 : decode cX11_walker 67 = .ok (.getfield 166, 3) := dz2 dzo180 19 0 166 dzbX11_walker_48 rfl
theorem dX11_walker_70 : decode cX11_walker 70 = .ok (.iload_n 1, 1) := dz0 dzo27 22 dzbX11_walker_48 rfl
theorem dX11_walker_71 : decode cX11_walker 71 = .ok (.iaload, 1) := dz0 dzo46 23 dzbX11_walker_48 rfl
theorem dzbX11_walker_72 : dzB cX11_walker 72 [182, 0, 130, 172, 42, 42, 180, 0, 81, 180, 0, 169, 27, 46, 182, 0, 130, 172, 42, 42, 180, 0, 19] := by decide +kernel
theorem dX11_walker_72 : decode cX11_walker 72 = .ok (.invokevirtual 130, 3) := dz2 dzo182 0 0 130 dzbX11_walker_72 rfl
theorem dX11_walker_75 : decode cX11_walker 75 = .ok (.ireturn, 1) := dz0 dzo172 3 dzbX11_walker_72 rfl
theorem dX11_walker_76 : decode cX11_walker 76 = .ok (.aload_n 0, 1) := dz0 dzo42 4 dzbX11_walker_72 rfl
theorem dX11_walker_77 : decode cX11_walker 77 = .ok (.aload_n 0, 1) := dz0 dzo42 5 dzbX11_walker_72 rfl
theorem dX11_walker_78 : decode cX11_walker 78 = .ok (.getfield 81, 3) := dz2 dzo180 6 0 81 dzbX11_walker_72 rfl
theorem dX11_walker_81 : decode cX11_walker 81 = .ok (.getfield 169, 3) := dz2 dzo180 9 0 169 dzbX11_walker_72 rfl
theorem dX11_walker_84 : decode cX11_walker 84 = .ok (.iload_n 1, 1) := dz0 dzo27 12 dzbX11_walker_72 rfl
theorem dX11_walker_85 : decode cX11_walker 85 = .ok (.iaload, 1) := dz0 dzo46 13 dzbX11_walker_72 rfl
theorem dX11_walker_86 : decode cX11_walker 86 = .ok (.invokevirtual 130, 3) := dz2 dzo182 14 0 130 dzbX11_walker_72 rfl
theorem dX11_walker_89 : decode cX11_walker 89 = .ok (.ireturn, 1) := dz0 dzo172 17 dzbX11_walker_72 rfl
theorem dX11_walker_90 : decode cX11_walker 90 = .ok (.aload_n 0, 1) := dz0 dzo42 18 dzbX11_walker_72 rfl
theorem dX11_walker_91 : decode cX11_walker 91 = .ok (.aload_n 0, 1) := dz0 dzo42 19 dzbX11_walker_72 rfl
theorem dX11_walker_92 : decode cX11_walker 92 = .ok (.getfield 19, 3) := dz2 dzo180 20 0 19 dzbX11_walker_72 rfl
theorem dzbX11_walker_95 : dzB cX11_walker 95 [180, 0, 172, 27, 46, 182, 0, 130, 172, 42, 42, 180, 0, 19, 180, 0, 175, 27, 46, 182, 0, 130, 172, 42] := by decide +kernel
theorem dX11_walker_95 : decode cX11_walker 95 = .ok (.getfield 172, 3) := dz2 dzo180 0 0 172 dzbX11_walker_95 rfl
theorem dX11_walker_98 : decode cX11_walker 98 = .ok (.iload_n 1, 1) := dz0 dzo27 3 dzbX11_walker_95 rfl
theorem dX11_walker_99 : decode cX11_walker 99 = .ok (.iaload, 1) := dz0 dzo46 4 dzbX11_walker_95 rfl
theorem dX11_walker_100 : decode cX11_walker 100 = .ok (.invokevirtual 130, 3) := dz2 dzo182 5 0 130 dzbX11_walker_95 rfl
theorem dX11_walker_103 : decode cX11_walker 103 = .ok (.ireturn, 1) := dz0 dzo172 8 dzbX11_walker_95 rfl
theorem dX11_walker_104 : decode cX11_walker 104 = .ok (.aload_n 0, 1) := dz0 dzo42 9 dzbX11_walker_95 rfl
theorem dX11_walker_105 : decode cX11_walker 105 = .ok (.aload_n 0, 1) := dz0 dzo42 10 dzbX11_walker_95 rfl
theorem dX11_walker_106 : decode cX11_walker 106 = .ok (.getfield 19, 3) := dz2 dzo180 11 0 19 dzbX11_walker_95 rfl
theorem dX11_walker_109 : decode cX11_walker 109 = .ok (.getfield 175, 3) := dz2 dzo180 14 0 175 dzbX11_walker_95 rfl
theorem dX11_walker_112 : decode cX11_walker 112 = .ok (.iload_n 1, 1) := dz0 dzo27 17 dzbX11_walker_95 rfl
theorem dX11_walker_113 : decode cX11_walker 113 = .ok (.iaload, 1) := dz0 dzo46 18 dzbX11_walker_95 rfl
theorem dX11_walker_114 : decode cX11_walker 114 = .ok (.invokevirtual 130, 3) := dz2 dzo182 19 0 130 dzbX11_walker_95 rfl
theorem dX11_walker_117 : decode cX11_walker 117 = .ok (.ireturn, 1) := dz0 dzo172 22 dzbX11_walker_95 rfl
theorem dX11_walker_118 : decode cX11_walker 118 = .ok (.aload_n 0, 1) := dz0 dzo42 23 dzbX11_walker_95 rfl
theorem dzbX11_walker_119 : dzB cX11_walker 119 [4, 182, 0, 100, 172] := by decide +kernel
theorem dX11_walker_119 : decode cX11_walker 119 = .ok (.iconst 1, 1) := dz0 dzo4 0 dzbX11_walker_119 rfl
theorem dX11_walker_120 : decode cX11_walker 120 = .ok (.invokevirtual 100, 3) := dz2 dzo182 1 0 100 dzbX11_walker_119 rfl
theorem dX11_walker_123 : decode cX11_walker 123 = .ok (.ireturn, 1) := dz0 dzo172 4 dzbX11_walker_119 rfl
theorem dzbX11_wander_0 : dzB cX11_wander 0 [42, 180, 0, 23, 42, 180, 0, 19, 182, 0, 240, 42, 180, 0, 81, 180, 0, 169, 27, 46, 54, 4, 42] := by decide +kernel
theorem dX11_wander_0 : decode cX11_wander 0 = .ok (.aload_n 0, 1) := dz0 dzo42 0 dzbX11_wander_0 rfl
theorem dX11_wander_1 : decode cX11_wander 1 = .ok (.getfield 23, 3) := dz2 dzo180 1 0 23 dzbX11_wander_0 rfl
theorem dX11_wander_4 : decode cX11_wander 4 = .ok (.aload_n 0, 1) := dz0 dzo42 4 dzbX11_wander_0 rfl
theorem dX11_wander_5 : decode cX11_wander 5 = .ok (.getfield 19, 3) := dz2 dzo180 5 0 19 dzbX11_wander_0 rfl
theorem dX11_wander_8 : decode cX11_wander 8 = .ok (.invokevirtual 240, 3) := dz2 dzo182 8 0 240 dzbX11_wander_0 rfl
theorem dX11_wander_11 : decode cX11_wander 11 = .ok (.aload_n 0, 1) := dz0 dzo42 11 dzbX11_wander_0 rfl
theorem dX11_wander_12 : decode cX11_wander 12 = .ok (.getfield 81, 3) := dz2 dzo180 12 0 81 dzbX11_wander_0 rfl
theorem dX11_wander_15 : decode cX11_wander 15 = .ok (.getfield 169, 3) := dz2 dzo180 15 0 169 dzbX11_wander_0 rfl
theorem dX11_wander_18 : decode cX11_wander 18 = .ok (.iload_n 1, 1) := dz0 dzo27 18 dzbX11_wander_0 rfl
theorem dX11_wander_19 : decode cX11_wander 19 = .ok (.iaload, 1) := dz0 dzo46 19 dzbX11_wander_0 rfl
theorem dX11_wander_20 : decode cX11_wander 20 = .ok (.istore 4, 2) := dz1 dzo54 20 4 dzbX11_wander_0 rfl
theorem dX11_wander_22 : decode cX11_wander 22 = .ok (.aload_n 0, 1) := dz0 dzo42 22 dzbX11_wander_0 rfl
theorem dzbX11_wander_23 : dzB cX11_wander 23 [180, 0, 23, 180, 0, 166, 27, 46, 21, 4, 160, 0, 7, 3, 167, 0, 5, 16, 254, 54, 5, 28, 54, 6] := by decide +kernel
theorem dX11_wander_23 : decode cX11_wander 23 = .ok (.getfield 23, 3) := dz2 dzo180 0 0 23 dzbX11_wander_23 rfl
theorem dX11_wander_26 : decode cX11_wander 26 = .ok (.getfield 166, 3) := dz2 dzo180 3 0 166 dzbX11_wander_23 rfl
theorem dX11_wander_29 : decode cX11_wander 29 = .ok (.iload_n 1, 1) := dz0 dzo27 6 dzbX11_wander_23 rfl
theorem dX11_wander_30 : decode cX11_wander 30 = .ok (.iaload, 1) := dz0 dzo46 7 dzbX11_wander_23 rfl
theorem dX11_wander_31 : decode cX11_wander 31 = .ok (.iload 4, 2) := dz1 dzo21 8 4 dzbX11_wander_23 rfl
theorem dX11_wander_33 : decode cX11_wander 33 = .ok (.if_icmp .ne 7, 3) := dz4 dzo160 10 0 7 7 rfl dzbX11_wander_23 rfl
theorem dX11_wander_36 : decode cX11_wander 36 = .ok (.iconst 0, 1) := dz0 dzo3 13 dzbX11_wander_23 rfl
theorem dX11_wander_37 : decode cX11_wander 37 = .ok (.goto 5, 3) := dz4 dzo167 14 0 5 5 rfl dzbX11_wander_23 rfl
theorem dX11_wander_40 : decode cX11_wander 40 = .ok (.bipush (-2), 2) := dz3 dzo16 17 254 (-2) rfl dzbX11_wander_23 rfl
theorem dX11_wander_42 : decode cX11_wander 42 = .ok (.istore 5, 2) := dz1 dzo54 19 5 dzbX11_wander_23 rfl
theorem dX11_wander_44 : decode cX11_wander 44 = .ok (.iload_n 2, 1) := dz0 dzo28 21 dzbX11_wander_23 rfl
theorem dX11_wander_45 : decode cX11_wander 45 = .ok (.istore 6, 2) := dz1 dzo54 22 6 dzbX11_wander_23 rfl
theorem dzbX11_wander_47 : dzB cX11_wander 47 [4, 54, 7, 21, 7, 29, 163, 0, 69, 16, 75, 21, 6, 104, 16, 74, 96, 19, 1, 117, 112, 54, 6, 42] := by decide +kernel
theorem dX11_wander_47 : decode cX11_wander 47 = .ok (.iconst 1, 1) := dz0 dzo4 0 dzbX11_wander_47 rfl
theorem dX11_wander_48 : decode cX11_wander 48 = .ok (.istore 7, 2) := dz1 dzo54 1 7 dzbX11_wander_47 rfl
theorem dX11_wander_50 : decode cX11_wander 50 = .ok (.iload 7, 2) := dz1 dzo21 3 7 dzbX11_wander_47 rfl
theorem dX11_wander_52 : decode cX11_wander 52 = .ok (.iload_n 3, 1) := dz0 dzo29 5 dzbX11_wander_47 rfl
theorem dX11_wander_53 : decode cX11_wander 53 = .ok (.if_icmp .gt 69, 3) := dz4 dzo163 6 0 69 69 rfl dzbX11_wander_47 rfl
theorem dX11_wander_56 : decode cX11_wander 56 = .ok (.bipush 75, 2) := dz3 dzo16 9 75 75 rfl dzbX11_wander_47 rfl
theorem dX11_wander_58 : decode cX11_wander 58 = .ok (.iload 6, 2) := dz1 dzo21 11 6 dzbX11_wander_47 rfl
theorem dX11_wander_60 : decode cX11_wander 60 = .ok (.imul, 1) := dz0 dzo104 13 dzbX11_wander_47 rfl
theorem dX11_wander_61 : decode cX11_wander 61 = .ok (.bipush 74, 2) := dz3 dzo16 14 74 74 rfl dzbX11_wander_47 rfl
theorem dX11_wander_63 : decode cX11_wander 63 = .ok (.iadd, 1) := dz0 dzo96 16 dzbX11_wander_47 rfl
theorem dX11_wander_64 : decode cX11_wander 64 = .ok (.ldc_w 373, 3) := dz2 dzo19 17 1 117 dzbX11_wander_47 rfl
theorem dX11_wander_67 : decode cX11_wander 67 = .ok (.irem, 1) := dz0 dzo112 20 dzbX11_wander_47 rfl
theorem dX11_wander_68 : decode cX11_wander 68 = .ok (.istore 6, 2) := dz1 dzo54 21 6 dzbX11_wander_47 rfl
theorem dX11_wander_70 : decode cX11_wander 70 = .ok (.aload_n 0, 1) := dz0 dzo42 23 dzbX11_wander_47 rfl
theorem dzbX11_wander_71 : dzB cX11_wander 71 [180, 0, 23, 27, 42, 180, 0, 81, 180, 0, 162, 27, 46, 21, 6, 7, 112, 182, 1, 91, 21, 5, 16, 254] := by decide +kernel
theorem dX11_wander_71 : decode cX11_wander 71 = .ok (.getfield 23, 3) := dz2 dzo180 0 0 23 dzbX11_wander_71 rfl
theorem dX11_wander_74 : decode cX11_wander 74 = .ok (.iload_n 1, 1) := dz0 dzo27 3 dzbX11_wander_71 rfl
theorem dX11_wander_75 : decode cX11_wander 75 = .ok (.aload_n 0, 1) := dz0 dzo42 4 dzbX11_wander_71 rfl
theorem dX11_wander_76 : decode cX11_wander 76 = .ok (.getfield 81, 3) := dz2 dzo180 5 0 81 dzbX11_wander_71 rfl
theorem dX11_wander_79 : decode cX11_wander 79 = .ok (.getfield 162, 3) := dz2 dzo180 8 0 162 dzbX11_wander_71 rfl
theorem dX11_wander_82 : decode cX11_wander 82 = .ok (.iload_n 1, 1) := dz0 dzo27 11 dzbX11_wander_71 rfl
theorem dX11_wander_83 : decode cX11_wander 83 = .ok (.iaload, 1) := dz0 dzo46 12 dzbX11_wander_71 rfl
theorem dX11_wander_84 : decode cX11_wander 84 = .ok (.iload 6, 2) := dz1 dzo21 13 6 dzbX11_wander_71 rfl
theorem dX11_wander_86 : decode cX11_wander 86 = .ok (.iconst 4, 1) := dz0 dzo7 15 dzbX11_wander_71 rfl
theorem dX11_wander_87 : decode cX11_wander 87 = .ok (.irem, 1) := dz0 dzo112 16 dzbX11_wander_71 rfl
theorem dX11_wander_88 : decode cX11_wander 88 = .ok (.invokevirtual 347, 3) := dz2 dzo182 17 1 91 dzbX11_wander_71 rfl
theorem dX11_wander_91 : decode cX11_wander 91 = .ok (.iload 5, 2) := dz1 dzo21 20 5 dzbX11_wander_71 rfl
theorem dX11_wander_93 : decode cX11_wander 93 = .ok (.bipush (-2), 2) := dz3 dzo16 22 254 (-2) rfl dzbX11_wander_71 rfl
theorem dzbX11_wander_95 : dzB cX11_wander 95 [160, 0, 21, 42, 180, 0, 23, 180, 0, 166, 27, 46, 21, 4, 160, 0, 7, 21, 7, 54, 5, 132, 7, 1] := by decide +kernel
theorem dX11_wander_95 : decode cX11_wander 95 = .ok (.if_icmp .ne 21, 3) := dz4 dzo160 0 0 21 21 rfl dzbX11_wander_95 rfl
theorem dX11_wander_98 : decode cX11_wander 98 = .ok (.aload_n 0, 1) := dz0 dzo42 3 dzbX11_wander_95 rfl
theorem dX11_wander_99 : decode cX11_wander 99 = .ok (.getfield 23, 3) := dz2 dzo180 4 0 23 dzbX11_wander_95 rfl
theorem dX11_wander_102 : decode cX11_wander 102 = .ok (.getfield 166, 3) := dz2 dzo180 7 0 166 dzbX11_wander_95 rfl
theorem dX11_wander_105 : decode cX11_wander 105 = .ok (.iload_n 1, 1) := dz0 dzo27 10 dzbX11_wander_95 rfl
theorem dX11_wander_106 : decode cX11_wander 106 = .ok (.iaload, 1) := dz0 dzo46 11 dzbX11_wander_95 rfl
theorem dX11_wander_107 : decode cX11_wander 107 = .ok (.iload 4, 2) := dz1 dzo21 12 4 dzbX11_wander_95 rfl
theorem dX11_wander_109 : decode cX11_wander 109 = .ok (.if_icmp .ne 7, 3) := dz4 dzo160 14 0 7 7 rfl dzbX11_wander_95 rfl
theorem dX11_wander_112 : decode cX11_wander 112 = .ok (.iload 7, 2) := dz1 dzo21 17 7 dzbX11_wander_95 rfl
theorem dX11_wander_114 : decode cX11_wander 114 = .ok (.istore 5, 2) := dz1 dzo54 19 5 dzbX11_wander_95 rfl
theorem dX11_wander_116 : decode cX11_wander 116 = .ok (.iinc 7 1, 3) := dz5 dzo132 21 7 1 1 rfl dzbX11_wander_95 rfl
theorem dzbX11_wander_119 : dzB cX11_wander 119 [167, 255, 187, 21, 5, 172] := by decide +kernel
theorem dX11_wander_119 : decode cX11_wander 119 = .ok (.goto (-69), 3) := dz4 dzo167 0 255 187 (-69) rfl dzbX11_wander_119 rfl
theorem dX11_wander_122 : decode cX11_wander 122 = .ok (.iload 5, 2) := dz1 dzo21 3 5 dzbX11_wander_119 rfl
theorem dX11_wander_124 : decode cX11_wander 124 = .ok (.ireturn, 1) := dz0 dzo172 5 dzbX11_wander_119 rfl
theorem dzbX11_where_0 : dzB cX11_where 0 [42, 180, 0, 136, 7, 160, 0, 13, 42, 180, 0, 10, 180, 0, 139, 167, 0, 4, 2, 172] := by decide +kernel
theorem dX11_where_0 : decode cX11_where 0 = .ok (.aload_n 0, 1) := dz0 dzo42 0 dzbX11_where_0 rfl
theorem dX11_where_1 : decode cX11_where 1 = .ok (.getfield 136, 3) := dz2 dzo180 1 0 136 dzbX11_where_0 rfl
theorem dX11_where_4 : decode cX11_where 4 = .ok (.iconst 4, 1) := dz0 dzo7 4 dzbX11_where_0 rfl
theorem dX11_where_5 : decode cX11_where 5 = .ok (.if_icmp .ne 13, 3) := dz4 dzo160 5 0 13 13 rfl dzbX11_where_0 rfl
theorem dX11_where_8 : decode cX11_where 8 = .ok (.aload_n 0, 1) := dz0 dzo42 8 dzbX11_where_0 rfl
theorem dX11_where_9 : decode cX11_where 9 = .ok (.getfield 10, 3) := dz2 dzo180 9 0 10 dzbX11_where_0 rfl
theorem dX11_where_12 : decode cX11_where 12 = .ok (.getfield 139, 3) := dz2 dzo180 12 0 139 dzbX11_where_0 rfl
theorem dX11_where_15 : decode cX11_where 15 = .ok (.goto 4, 3) := dz4 dzo167 15 0 4 4 rfl dzbX11_where_0 rfl
theorem dX11_where_18 : decode cX11_where 18 = .ok (.iconst (-1), 1) := dz0 dzo2 18 dzbX11_where_0 rfl
theorem dX11_where_19 : decode cX11_where 19 = .ok (.ireturn, 1) := dz0 dzo172 19 dzbX11_where_0 rfl
theorem dzbX12_init_0 : dzB cX12_init 0 [42, 183, 0, 3, 42, 16, 20] := by decide +kernel
theorem dX12_init_0 : decode cX12_init 0 = .ok (.aload_n 0, 1) := dz0 dzo42 0 dzbX12_init_0 rfl
theorem dX12_init_1 : decode cX12_init 1 = .ok (.invokespecial 3, 3) := dz2 dzo183 1 0 3 dzbX12_init_0 rfl
theorem dX12_init_4 : decode cX12_init 4 = .ok (.aload_n 0, 1) := dz0 dzo42 4 dzbX12_init_0 rfl
theorem dX12_init_5 : decode cX12_init 5 = .ok (.bipush 20, 2) := dz3 dzo16 5 20 20 rfl dzbX12_init_0 rfl
theorem dX12_init_7 : decode cX12_init 7 = .ok (.newarray .int, 2) := by decide +kernel
theorem dzbX12_init_9 : dzB cX12_init 9 [181, 0, 9, 42, 8] := by decide +kernel
theorem dX12_init_9 : decode cX12_init 9 = .ok (.putfield 9, 3) := dz2 dzo181 0 0 9 dzbX12_init_9 rfl
theorem dX12_init_12 : decode cX12_init 12 = .ok (.aload_n 0, 1) := dz0 dzo42 3 dzbX12_init_9 rfl
theorem dX12_init_13 : decode cX12_init 13 = .ok (.iconst 5, 1) := dz0 dzo8 4 dzbX12_init_9 rfl
theorem dX12_init_14 : decode cX12_init 14 = .ok (.newarray .int, 2) := by decide +kernel
theorem dzbX12_init_16 : dzB cX12_init 16 [181, 0, 15, 42, 7] := by decide +kernel
theorem dX12_init_16 : decode cX12_init 16 = .ok (.putfield 15, 3) := dz2 dzo181 0 0 15 dzbX12_init_16 rfl
theorem dX12_init_19 : decode cX12_init 19 = .ok (.aload_n 0, 1) := dz0 dzo42 3 dzbX12_init_16 rfl
theorem dX12_init_20 : decode cX12_init 20 = .ok (.iconst 4, 1) := dz0 dzo7 4 dzbX12_init_16 rfl
theorem dX12_init_21 : decode cX12_init 21 = .ok (.newarray .int, 2) := by decide +kernel
theorem dzbX12_init_23 : dzB cX12_init 23 [181, 0, 18, 42, 7] := by decide +kernel
theorem dX12_init_23 : decode cX12_init 23 = .ok (.putfield 18, 3) := dz2 dzo181 0 0 18 dzbX12_init_23 rfl
theorem dX12_init_26 : decode cX12_init 26 = .ok (.aload_n 0, 1) := dz0 dzo42 3 dzbX12_init_23 rfl
theorem dX12_init_27 : decode cX12_init 27 = .ok (.iconst 4, 1) := dz0 dzo7 4 dzbX12_init_23 rfl
theorem dX12_init_28 : decode cX12_init 28 = .ok (.newarray .int, 2) := by decide +kernel
theorem dzbX12_init_30 : dzB cX12_init 30 [181, 0, 21, 42, 7] := by decide +kernel
theorem dX12_init_30 : decode cX12_init 30 = .ok (.putfield 21, 3) := dz2 dzo181 0 0 21 dzbX12_init_30 rfl
theorem dX12_init_33 : decode cX12_init 33 = .ok (.aload_n 0, 1) := dz0 dzo42 3 dzbX12_init_30 rfl
theorem dX12_init_34 : decode cX12_init 34 = .ok (.iconst 4, 1) := dz0 dzo7 4 dzbX12_init_30 rfl
theorem dX12_init_35 : decode cX12_init 35 = .ok (.newarray .int, 2) := by decide +kernel
theorem dzbX12_init_37 : dzB cX12_init 37 [181, 0, 24, 42, 16, 6] := by decide +kernel
theorem dX12_init_37 : decode cX12_init 37 = .ok (.putfield 24, 3) := dz2 dzo181 0 0 24 dzbX12_init_37 rfl
theorem dX12_init_40 : decode cX12_init 40 = .ok (.aload_n 0, 1) := dz0 dzo42 3 dzbX12_init_37 rfl
theorem dX12_init_41 : decode cX12_init 41 = .ok (.bipush 6, 2) := dz3 dzo16 4 6 6 rfl dzbX12_init_37 rfl
theorem dX12_init_43 : decode cX12_init 43 = .ok (.newarray .int, 2) := by decide +kernel
theorem dzbX12_init_45 : dzB cX12_init 45 [181, 0, 27, 42, 16, 6] := by decide +kernel
theorem dX12_init_45 : decode cX12_init 45 = .ok (.putfield 27, 3) := dz2 dzo181 0 0 27 dzbX12_init_45 rfl
theorem dX12_init_48 : decode cX12_init 48 = .ok (.aload_n 0, 1) := dz0 dzo42 3 dzbX12_init_45 rfl
theorem dX12_init_49 : decode cX12_init 49 = .ok (.bipush 6, 2) := dz3 dzo16 4 6 6 rfl dzbX12_init_45 rfl
theorem dX12_init_51 : decode cX12_init 51 = .ok (.newarray .int, 2) := by decide +kernel
theorem dzbX12_init_53 : dzB cX12_init 53 [181, 0, 30, 42, 16, 6] := by decide +kernel
theorem dX12_init_53 : decode cX12_init 53 = .ok (.putfield 30, 3) := dz2 dzo181 0 0 30 dzbX12_init_53 rfl
theorem dX12_init_56 : decode cX12_init 56 = .ok (.aload_n 0, 1) := dz0 dzo42 3 dzbX12_init_53 rfl
theorem dX12_init_57 : decode cX12_init 57 = .ok (.bipush 6, 2) := dz3 dzo16 4 6 6 rfl dzbX12_init_53 rfl
theorem dX12_init_59 : decode cX12_init 59 = .ok (.newarray .boolean, 2) := by decide +kernel
theorem dzbX12_init_61 : dzB cX12_init 61 [181, 0, 33, 42, 7] := by decide +kernel
theorem dX12_init_61 : decode cX12_init 61 = .ok (.putfield 33, 3) := dz2 dzo181 0 0 33 dzbX12_init_61 rfl
theorem dX12_init_64 : decode cX12_init 64 = .ok (.aload_n 0, 1) := dz0 dzo42 3 dzbX12_init_61 rfl
theorem dX12_init_65 : decode cX12_init 65 = .ok (.iconst 4, 1) := dz0 dzo7 4 dzbX12_init_61 rfl
theorem dX12_init_66 : decode cX12_init 66 = .ok (.newarray .long, 2) := by decide +kernel
theorem dzbX12_init_68 : dzB cX12_init 68 [181, 0, 37, 177] := by decide +kernel
theorem dX12_init_68 : decode cX12_init 68 = .ok (.putfield 37, 3) := dz2 dzo181 0 0 37 dzbX12_init_68 rfl
theorem dX12_init_71 : decode cX12_init 71 = .ok (.return_, 1) := dz0 dzo177 3 dzbX12_init_68 rfl
theorem dzbX12_isName_0 : dzB cX12_isName 0 [3, 62, 29, 42, 180, 0, 41, 162, 0, 22, 42, 180, 0, 37, 29, 47, 31, 148, 154, 0, 5, 4, 172] := by decide +kernel
theorem dX12_isName_0 : decode cX12_isName 0 = .ok (.iconst 0, 1) := dz0 dzo3 0 dzbX12_isName_0 rfl
theorem dX12_isName_1 : decode cX12_isName 1 = .ok (.istore_n 3, 1) := dz0 dzo62 1 dzbX12_isName_0 rfl
theorem dX12_isName_2 : decode cX12_isName 2 = .ok (.iload_n 3, 1) := dz0 dzo29 2 dzbX12_isName_0 rfl
theorem dX12_isName_3 : decode cX12_isName 3 = .ok (.aload_n 0, 1) := dz0 dzo42 3 dzbX12_isName_0 rfl
theorem dX12_isName_4 : decode cX12_isName 4 = .ok (.getfield 41, 3) := dz2 dzo180 4 0 41 dzbX12_isName_0 rfl
theorem dX12_isName_7 : decode cX12_isName 7 = .ok (.if_icmp .ge 22, 3) := dz4 dzo162 7 0 22 22 rfl dzbX12_isName_0 rfl
theorem dX12_isName_10 : decode cX12_isName 10 = .ok (.aload_n 0, 1) := dz0 dzo42 10 dzbX12_isName_0 rfl
theorem dX12_isName_11 : decode cX12_isName 11 = .ok (.getfield 37, 3) := dz2 dzo180 11 0 37 dzbX12_isName_0 rfl
theorem dX12_isName_14 : decode cX12_isName 14 = .ok (.iload_n 3, 1) := dz0 dzo29 14 dzbX12_isName_0 rfl
theorem dX12_isName_15 : decode cX12_isName 15 = .ok (.laload, 1) := dz0 dzo47 15 dzbX12_isName_0 rfl
theorem dX12_isName_16 : decode cX12_isName 16 = .ok (.lload_n 1, 1) := dz0 dzo31 16 dzbX12_isName_0 rfl
theorem dX12_isName_17 : decode cX12_isName 17 = .ok (.lcmp, 1) := dz0 dzo148 17 dzbX12_isName_0 rfl
theorem dX12_isName_18 : decode cX12_isName 18 = .ok (.ifCond .ne 5, 3) := dz4 dzo154 18 0 5 5 rfl dzbX12_isName_0 rfl
theorem dX12_isName_21 : decode cX12_isName 21 = .ok (.iconst 1, 1) := dz0 dzo4 21 dzbX12_isName_0 rfl
theorem dX12_isName_22 : decode cX12_isName 22 = .ok (.ireturn, 1) := dz0 dzo172 22 dzbX12_isName_0 rfl
theorem dzbX12_isName_23 : dzB cX12_isName 23 [132, 3, 1, 167, 255, 232, 3, 172] := by decide +kernel
theorem dX12_isName_23 : decode cX12_isName 23 = .ok (.iinc 3 1, 3) := dz5 dzo132 0 3 1 1 rfl dzbX12_isName_23 rfl
theorem dX12_isName_26 : decode cX12_isName 26 = .ok (.goto (-24), 3) := dz4 dzo167 3 255 232 (-24) rfl dzbX12_isName_23 rfl
theorem dX12_isName_29 : decode cX12_isName 29 = .ok (.iconst 0, 1) := dz0 dzo3 6 dzbX12_isName_23 rfl
theorem dX12_isName_30 : decode cX12_isName 30 = .ok (.ireturn, 1) := dz0 dzo172 7 dzbX12_isName_23 rfl
theorem dzbX12_isUnsure_0 : dzB cX12_isUnsure 0 [3, 61, 28, 42, 180, 0, 45, 162, 0, 21, 42, 180, 0, 15, 28, 46, 27, 160, 0, 5, 4, 172] := by decide +kernel
theorem dX12_isUnsure_0 : decode cX12_isUnsure 0 = .ok (.iconst 0, 1) := dz0 dzo3 0 dzbX12_isUnsure_0 rfl
theorem dX12_isUnsure_1 : decode cX12_isUnsure 1 = .ok (.istore_n 2, 1) := dz0 dzo61 1 dzbX12_isUnsure_0 rfl
theorem dX12_isUnsure_2 : decode cX12_isUnsure 2 = .ok (.iload_n 2, 1) := dz0 dzo28 2 dzbX12_isUnsure_0 rfl
theorem dX12_isUnsure_3 : decode cX12_isUnsure 3 = .ok (.aload_n 0, 1) := dz0 dzo42 3 dzbX12_isUnsure_0 rfl
theorem dX12_isUnsure_4 : decode cX12_isUnsure 4 = .ok (.getfield 45, 3) := dz2 dzo180 4 0 45 dzbX12_isUnsure_0 rfl
theorem dX12_isUnsure_7 : decode cX12_isUnsure 7 = .ok (.if_icmp .ge 21, 3) := dz4 dzo162 7 0 21 21 rfl dzbX12_isUnsure_0 rfl
theorem dX12_isUnsure_10 : decode cX12_isUnsure 10 = .ok (.aload_n 0, 1) := dz0 dzo42 10 dzbX12_isUnsure_0 rfl
theorem dX12_isUnsure_11 : decode cX12_isUnsure 11 = .ok (.getfield 15, 3) := dz2 dzo180 11 0 15 dzbX12_isUnsure_0 rfl
theorem dX12_isUnsure_14 : decode cX12_isUnsure 14 = .ok (.iload_n 2, 1) := dz0 dzo28 14 dzbX12_isUnsure_0 rfl
theorem dX12_isUnsure_15 : decode cX12_isUnsure 15 = .ok (.iaload, 1) := dz0 dzo46 15 dzbX12_isUnsure_0 rfl
theorem dX12_isUnsure_16 : decode cX12_isUnsure 16 = .ok (.iload_n 1, 1) := dz0 dzo27 16 dzbX12_isUnsure_0 rfl
theorem dX12_isUnsure_17 : decode cX12_isUnsure 17 = .ok (.if_icmp .ne 5, 3) := dz4 dzo160 17 0 5 5 rfl dzbX12_isUnsure_0 rfl
theorem dX12_isUnsure_20 : decode cX12_isUnsure 20 = .ok (.iconst 1, 1) := dz0 dzo4 20 dzbX12_isUnsure_0 rfl
theorem dX12_isUnsure_21 : decode cX12_isUnsure 21 = .ok (.ireturn, 1) := dz0 dzo172 21 dzbX12_isUnsure_0 rfl
theorem dzbX12_isUnsure_22 : dzB cX12_isUnsure 22 [132, 2, 1, 167, 255, 233, 3, 172] := by decide +kernel
theorem dX12_isUnsure_22 : decode cX12_isUnsure 22 = .ok (.iinc 2 1, 3) := dz5 dzo132 0 2 1 1 rfl dzbX12_isUnsure_22 rfl
theorem dX12_isUnsure_25 : decode cX12_isUnsure 25 = .ok (.goto (-23), 3) := dz4 dzo167 3 255 233 (-23) rfl dzbX12_isUnsure_22 rfl
theorem dX12_isUnsure_28 : decode cX12_isUnsure 28 = .ok (.iconst 0, 1) := dz0 dzo3 6 dzbX12_isUnsure_22 rfl
theorem dX12_isUnsure_29 : decode cX12_isUnsure 29 = .ok (.ireturn, 1) := dz0 dzo172 7 dzbX12_isUnsure_22 rfl
theorem dzbX13_all_0 : dzB cX13_all 0 [42, 3, 181, 0, 42, 42, 180, 1, 13, 199, 0, 9, 42, 4, 182, 0, 48, 172, 27, 3, 6, 184, 0, 124] := by decide +kernel
theorem dX13_all_0 : decode cX13_all 0 = .ok (.aload_n 0, 1) := dz0 dzo42 0 dzbX13_all_0 rfl
theorem dX13_all_1 : decode cX13_all 1 = .ok (.iconst 0, 1) := dz0 dzo3 1 dzbX13_all_0 rfl
theorem dX13_all_2 : decode cX13_all 2 = .ok (.putfield 42, 3) := dz2 dzo181 2 0 42 dzbX13_all_0 rfl
theorem dX13_all_5 : decode cX13_all 5 = .ok (.aload_n 0, 1) := dz0 dzo42 5 dzbX13_all_0 rfl
theorem dX13_all_6 : decode cX13_all 6 = .ok (.getfield 269, 3) := dz2 dzo180 6 1 13 dzbX13_all_0 rfl
theorem dX13_all_9 : decode cX13_all 9 = .ok (.ifnonnull 9, 3) := dz4 dzo199 9 0 9 9 rfl dzbX13_all_0 rfl
theorem dX13_all_12 : decode cX13_all 12 = .ok (.aload_n 0, 1) := dz0 dzo42 12 dzbX13_all_0 rfl
theorem dX13_all_13 : decode cX13_all 13 = .ok (.iconst 1, 1) := dz0 dzo4 13 dzbX13_all_0 rfl
theorem dX13_all_14 : decode cX13_all 14 = .ok (.invokevirtual 48, 3) := dz2 dzo182 14 0 48 dzbX13_all_0 rfl
theorem dX13_all_17 : decode cX13_all 17 = .ok (.ireturn, 1) := dz0 dzo172 17 dzbX13_all_0 rfl
theorem dX13_all_18 : decode cX13_all 18 = .ok (.iload_n 1, 1) := dz0 dzo27 18 dzbX13_all_0 rfl
theorem dX13_all_19 : decode cX13_all 19 = .ok (.iconst 0, 1) := dz0 dzo3 19 dzbX13_all_0 rfl
theorem dX13_all_20 : decode cX13_all 20 = .ok (.iconst 3, 1) := dz0 dzo6 20 dzbX13_all_0 rfl
theorem dX13_all_21 : decode cX13_all 21 = .ok (.invokestatic 124, 3) := dz2 dzo184 21 0 124 dzbX13_all_0 rfl
theorem dzbX13_all_24 : dzB cX13_all 24 [153, 0, 15, 42, 42, 27, 182, 1, 64, 182, 0, 52, 167, 0, 8, 42, 5, 182, 0, 48, 172] := by decide +kernel
theorem dX13_all_24 : decode cX13_all 24 = .ok (.ifCond .eq 15, 3) := dz4 dzo153 0 0 15 15 rfl dzbX13_all_24 rfl
theorem dX13_all_27 : decode cX13_all 27 = .ok (.aload_n 0, 1) := dz0 dzo42 3 dzbX13_all_24 rfl
theorem dX13_all_28 : decode cX13_all 28 = .ok (.aload_n 0, 1) := dz0 dzo42 4 dzbX13_all_24 rfl
theorem dX13_all_29 : decode cX13_all 29 = .ok (.iload_n 1, 1) := dz0 dzo27 5 dzbX13_all_24 rfl
theorem dX13_all_30 : decode cX13_all 30 = .ok (.invokevirtual 320, 3) := dz2 dzo182 6 1 64 dzbX13_all_24 rfl
theorem dX13_all_33 : decode cX13_all 33 = .ok (.invokevirtual 52, 3) := dz2 dzo182 9 0 52 dzbX13_all_24 rfl
theorem dX13_all_36 : decode cX13_all 36 = .ok (.goto 8, 3) := dz4 dzo167 12 0 8 8 rfl dzbX13_all_24 rfl
theorem dX13_all_39 : decode cX13_all 39 = .ok (.aload_n 0, 1) := dz0 dzo42 15 dzbX13_all_24 rfl
theorem dX13_all_40 : decode cX13_all 40 = .ok (.iconst 2, 1) := dz0 dzo5 16 dzbX13_all_24 rfl
theorem dX13_all_41 : decode cX13_all 41 = .ok (.invokevirtual 48, 3) := dz2 dzo182 17 0 48 dzbX13_all_24 rfl
theorem dX13_all_44 : decode cX13_all 44 = .ok (.ireturn, 1) := dz0 dzo172 20 dzbX13_all_24 rfl
theorem dzbX13_allOf_0 : dzB cX13_allOf 0 [3, 61, 3, 62, 29, 42, 182, 1, 21, 162, 0, 29, 28, 42, 180, 0, 17, 29, 46, 27, 160, 0, 9, 4] := by decide +kernel
theorem dX13_allOf_0 : decode cX13_allOf 0 = .ok (.iconst 0, 1) := dz0 dzo3 0 dzbX13_allOf_0 rfl
theorem dX13_allOf_1 : decode cX13_allOf 1 = .ok (.istore_n 2, 1) := dz0 dzo61 1 dzbX13_allOf_0 rfl
theorem dX13_allOf_2 : decode cX13_allOf 2 = .ok (.iconst 0, 1) := dz0 dzo3 2 dzbX13_allOf_0 rfl
theorem dX13_allOf_3 : decode cX13_allOf 3 = .ok (.istore_n 3, 1) := dz0 dzo62 3 dzbX13_allOf_0 rfl
theorem dX13_allOf_4 : decode cX13_allOf 4 = .ok (.iload_n 3, 1) := dz0 dzo29 4 dzbX13_allOf_0 rfl
theorem dX13_allOf_5 : decode cX13_allOf 5 = .ok (.aload_n 0, 1) := dz0 dzo42 5 dzbX13_allOf_0 rfl
theorem dX13_allOf_6 : decode cX13_allOf 6 = .ok (.invokevirtual 277, 3) := dz2 dzo182 6 1 21 dzbX13_allOf_0 rfl
theorem dX13_allOf_9 : decode cX13_allOf 9 = .ok (.if_icmp .ge 29, 3) := dz4 dzo162 9 0 29 29 rfl dzbX13_allOf_0 rfl
theorem dX13_allOf_12 : decode cX13_allOf 12 = .ok (.iload_n 2, 1) := dz0 dzo28 12 dzbX13_allOf_0 rfl
theorem dX13_allOf_13 : decode cX13_allOf 13 = .ok (.aload_n 0, 1) := dz0 dzo42 13 dzbX13_allOf_0 rfl
theorem dX13_allOf_14 : decode cX13_allOf 14 = .ok (.getfield 17, 3) := dz2 dzo180 14 0 17 dzbX13_allOf_0 rfl
theorem dX13_allOf_17 : decode cX13_allOf 17 = .ok (.iload_n 3, 1) := dz0 dzo29 17 dzbX13_allOf_0 rfl
theorem dX13_allOf_18 : decode cX13_allOf 18 = .ok (.iaload, 1) := dz0 dzo46 18 dzbX13_allOf_0 rfl
theorem dX13_allOf_19 : decode cX13_allOf 19 = .ok (.iload_n 1, 1) := dz0 dzo27 19 dzbX13_allOf_0 rfl
theorem dX13_allOf_20 : decode cX13_allOf 20 = .ok (.if_icmp .ne 9, 3) := dz4 dzo160 20 0 9 9 rfl dzbX13_allOf_0 rfl
theorem dX13_allOf_23 : decode cX13_allOf 23 = .ok (.iconst 1, 1) := dz0 dzo4 23 dzbX13_allOf_0 rfl
theorem dzbX13_allOf_24 : dzB cX13_allOf 24 [29, 120, 167, 0, 4, 3, 128, 61, 132, 3, 1, 167, 255, 225, 28, 172] := by decide +kernel
theorem dX13_allOf_24 : decode cX13_allOf 24 = .ok (.iload_n 3, 1) := dz0 dzo29 0 dzbX13_allOf_24 rfl
theorem dX13_allOf_25 : decode cX13_allOf 25 = .ok (.ishl, 1) := dz0 dzo120 1 dzbX13_allOf_24 rfl
theorem dX13_allOf_26 : decode cX13_allOf 26 = .ok (.goto 4, 3) := dz4 dzo167 2 0 4 4 rfl dzbX13_allOf_24 rfl
theorem dX13_allOf_29 : decode cX13_allOf 29 = .ok (.iconst 0, 1) := dz0 dzo3 5 dzbX13_allOf_24 rfl
theorem dX13_allOf_30 : decode cX13_allOf 30 = .ok (.ior, 1) := dz0 dzo128 6 dzbX13_allOf_24 rfl
theorem dX13_allOf_31 : decode cX13_allOf 31 = .ok (.istore_n 2, 1) := dz0 dzo61 7 dzbX13_allOf_24 rfl
theorem dX13_allOf_32 : decode cX13_allOf 32 = .ok (.iinc 3 1, 3) := dz5 dzo132 8 3 1 1 rfl dzbX13_allOf_24 rfl
theorem dX13_allOf_35 : decode cX13_allOf 35 = .ok (.goto (-31), 3) := dz4 dzo167 11 255 225 (-31) rfl dzbX13_allOf_24 rfl
theorem dX13_allOf_38 : decode cX13_allOf 38 = .ok (.iload_n 2, 1) := dz0 dzo28 14 dzbX13_allOf_24 rfl
theorem dX13_allOf_39 : decode cX13_allOf 39 = .ok (.ireturn, 1) := dz0 dzo172 15 dzbX13_allOf_24 rfl
theorem dzbX13_areDry_0 : dzB cX13_areDry 0 [42, 182, 1, 61, 3, 61, 28, 42, 182, 1, 21, 162, 0, 24, 27, 28, 184, 1, 89, 153, 0, 10, 42] := by decide +kernel
theorem dX13_areDry_0 : decode cX13_areDry 0 = .ok (.aload_n 0, 1) := dz0 dzo42 0 dzbX13_areDry_0 rfl
theorem dX13_areDry_1 : decode cX13_areDry 1 = .ok (.invokevirtual 317, 3) := dz2 dzo182 1 1 61 dzbX13_areDry_0 rfl
theorem dX13_areDry_4 : decode cX13_areDry 4 = .ok (.iconst 0, 1) := dz0 dzo3 4 dzbX13_areDry_0 rfl
theorem dX13_areDry_5 : decode cX13_areDry 5 = .ok (.istore_n 2, 1) := dz0 dzo61 5 dzbX13_areDry_0 rfl
theorem dX13_areDry_6 : decode cX13_areDry 6 = .ok (.iload_n 2, 1) := dz0 dzo28 6 dzbX13_areDry_0 rfl
theorem dX13_areDry_7 : decode cX13_areDry 7 = .ok (.aload_n 0, 1) := dz0 dzo42 7 dzbX13_areDry_0 rfl
theorem dX13_areDry_8 : decode cX13_areDry 8 = .ok (.invokevirtual 277, 3) := dz2 dzo182 8 1 21 dzbX13_areDry_0 rfl
theorem dX13_areDry_11 : decode cX13_areDry 11 = .ok (.if_icmp .ge 24, 3) := dz4 dzo162 11 0 24 24 rfl dzbX13_areDry_0 rfl
theorem dX13_areDry_14 : decode cX13_areDry 14 = .ok (.iload_n 1, 1) := dz0 dzo27 14 dzbX13_areDry_0 rfl
theorem dX13_areDry_15 : decode cX13_areDry 15 = .ok (.iload_n 2, 1) := dz0 dzo28 15 dzbX13_areDry_0 rfl
theorem dX13_areDry_16 : decode cX13_areDry 16 = .ok (.invokestatic 345, 3) := dz2 dzo184 16 1 89 dzbX13_areDry_0 rfl
theorem dX13_areDry_19 : decode cX13_areDry 19 = .ok (.ifCond .eq 10, 3) := dz4 dzo153 19 0 10 10 rfl dzbX13_areDry_0 rfl
theorem dX13_areDry_22 : decode cX13_areDry 22 = .ok (.aload_n 0, 1) := dz0 dzo42 22 dzbX13_areDry_0 rfl
theorem dzbX13_areDry_23 : dzB cX13_areDry 23 [180, 0, 21, 28, 5, 79, 132, 2, 1, 167, 255, 230, 3, 61, 28, 42, 180, 1, 13, 180, 0, 206] := by decide +kernel
theorem dX13_areDry_23 : decode cX13_areDry 23 = .ok (.getfield 21, 3) := dz2 dzo180 0 0 21 dzbX13_areDry_23 rfl
theorem dX13_areDry_26 : decode cX13_areDry 26 = .ok (.iload_n 2, 1) := dz0 dzo28 3 dzbX13_areDry_23 rfl
theorem dX13_areDry_27 : decode cX13_areDry 27 = .ok (.iconst 2, 1) := dz0 dzo5 4 dzbX13_areDry_23 rfl
theorem dX13_areDry_28 : decode cX13_areDry 28 = .ok (.iastore, 1) := dz0 dzo79 5 dzbX13_areDry_23 rfl
theorem dX13_areDry_29 : decode cX13_areDry 29 = .ok (.iinc 2 1, 3) := dz5 dzo132 6 2 1 1 rfl dzbX13_areDry_23 rfl
theorem dX13_areDry_32 : decode cX13_areDry 32 = .ok (.goto (-26), 3) := dz4 dzo167 9 255 230 (-26) rfl dzbX13_areDry_23 rfl
theorem dX13_areDry_35 : decode cX13_areDry 35 = .ok (.iconst 0, 1) := dz0 dzo3 12 dzbX13_areDry_23 rfl
theorem dX13_areDry_36 : decode cX13_areDry 36 = .ok (.istore_n 2, 1) := dz0 dzo61 13 dzbX13_areDry_23 rfl
theorem dX13_areDry_37 : decode cX13_areDry 37 = .ok (.iload_n 2, 1) := dz0 dzo28 14 dzbX13_areDry_23 rfl
theorem dX13_areDry_38 : decode cX13_areDry 38 = .ok (.aload_n 0, 1) := dz0 dzo42 15 dzbX13_areDry_23 rfl
theorem dX13_areDry_39 : decode cX13_areDry 39 = .ok (.getfield 269, 3) := dz2 dzo180 16 1 13 dzbX13_areDry_23 rfl
theorem dX13_areDry_42 : decode cX13_areDry 42 = .ok (.getfield 206, 3) := dz2 dzo180 19 0 206 dzbX13_areDry_23 rfl
theorem dzbX13_areDry_45 : dzB cX13_areDry 45 [162, 0, 23, 42, 28, 3, 182, 1, 67, 17, 3, 232, 161, 0, 5, 3, 172, 132, 2, 1, 167, 255, 228, 4] := by decide +kernel
theorem dX13_areDry_45 : decode cX13_areDry 45 = .ok (.if_icmp .ge 23, 3) := dz4 dzo162 0 0 23 23 rfl dzbX13_areDry_45 rfl
theorem dX13_areDry_48 : decode cX13_areDry 48 = .ok (.aload_n 0, 1) := dz0 dzo42 3 dzbX13_areDry_45 rfl
theorem dX13_areDry_49 : decode cX13_areDry 49 = .ok (.iload_n 2, 1) := dz0 dzo28 4 dzbX13_areDry_45 rfl
theorem dX13_areDry_50 : decode cX13_areDry 50 = .ok (.iconst 0, 1) := dz0 dzo3 5 dzbX13_areDry_45 rfl
theorem dX13_areDry_51 : decode cX13_areDry 51 = .ok (.invokevirtual 323, 3) := dz2 dzo182 6 1 67 dzbX13_areDry_45 rfl
theorem dX13_areDry_54 : decode cX13_areDry 54 = .ok (.sipush 1000, 3) := dz4 dzo17 9 3 232 1000 rfl dzbX13_areDry_45 rfl
theorem dX13_areDry_57 : decode cX13_areDry 57 = .ok (.if_icmp .lt 5, 3) := dz4 dzo161 12 0 5 5 rfl dzbX13_areDry_45 rfl
theorem dX13_areDry_60 : decode cX13_areDry 60 = .ok (.iconst 0, 1) := dz0 dzo3 15 dzbX13_areDry_45 rfl
theorem dX13_areDry_61 : decode cX13_areDry 61 = .ok (.ireturn, 1) := dz0 dzo172 16 dzbX13_areDry_45 rfl
theorem dX13_areDry_62 : decode cX13_areDry 62 = .ok (.iinc 2 1, 3) := dz5 dzo132 17 2 1 1 rfl dzbX13_areDry_45 rfl
theorem dX13_areDry_65 : decode cX13_areDry 65 = .ok (.goto (-28), 3) := dz4 dzo167 20 255 228 (-28) rfl dzbX13_areDry_45 rfl
theorem dX13_areDry_68 : decode cX13_areDry 68 = .ok (.iconst 1, 1) := dz0 dzo4 23 dzbX13_areDry_45 rfl
theorem dzbX13_areDry_69 : dzB cX13_areDry 69 [172] := by decide +kernel
theorem dX13_areDry_69 : decode cX13_areDry 69 = .ok (.ireturn, 1) := dz0 dzo172 0 dzbX13_areDry_69 rfl
theorem dzbX13_back_0 : dzB cX13_back 0 [42, 3, 181, 0, 42, 42, 180, 1, 13, 198, 0, 15, 27, 155, 0, 11, 27, 42, 180, 1, 18, 161, 0, 9] := by decide +kernel
theorem dX13_back_0 : decode cX13_back 0 = .ok (.aload_n 0, 1) := dz0 dzo42 0 dzbX13_back_0 rfl
theorem dX13_back_1 : decode cX13_back 1 = .ok (.iconst 0, 1) := dz0 dzo3 1 dzbX13_back_0 rfl
theorem dX13_back_2 : decode cX13_back 2 = .ok (.putfield 42, 3) := dz2 dzo181 2 0 42 dzbX13_back_0 rfl
theorem dX13_back_5 : decode cX13_back 5 = .ok (.aload_n 0, 1) := dz0 dzo42 5 dzbX13_back_0 rfl
theorem dX13_back_6 : decode cX13_back 6 = .ok (.getfield 269, 3) := dz2 dzo180 6 1 13 dzbX13_back_0 rfl
theorem dX13_back_9 : decode cX13_back 9 = .ok (.ifnull 15, 3) := dz4 dzo198 9 0 15 15 rfl dzbX13_back_0 rfl
theorem dX13_back_12 : decode cX13_back 12 = .ok (.iload_n 1, 1) := dz0 dzo27 12 dzbX13_back_0 rfl
theorem dX13_back_13 : decode cX13_back 13 = .ok (.ifCond .lt 11, 3) := dz4 dzo155 13 0 11 11 rfl dzbX13_back_0 rfl
theorem dX13_back_16 : decode cX13_back 16 = .ok (.iload_n 1, 1) := dz0 dzo27 16 dzbX13_back_0 rfl
theorem dX13_back_17 : decode cX13_back 17 = .ok (.aload_n 0, 1) := dz0 dzo42 17 dzbX13_back_0 rfl
theorem dX13_back_18 : decode cX13_back 18 = .ok (.getfield 274, 3) := dz2 dzo180 18 1 18 dzbX13_back_0 rfl
theorem dX13_back_21 : decode cX13_back 21 = .ok (.if_icmp .lt 9, 3) := dz4 dzo161 21 0 9 9 rfl dzbX13_back_0 rfl
theorem dzbX13_back_24 : dzB cX13_back 24 [42, 4, 182, 1, 192, 172, 3, 61, 28, 16, 32, 162, 0, 26, 42, 180, 0, 17, 28, 42, 180, 0, 27] := by decide +kernel
theorem dX13_back_24 : decode cX13_back 24 = .ok (.aload_n 0, 1) := dz0 dzo42 0 dzbX13_back_24 rfl
theorem dX13_back_25 : decode cX13_back 25 = .ok (.iconst 1, 1) := dz0 dzo4 1 dzbX13_back_24 rfl
theorem dX13_back_26 : decode cX13_back 26 = .ok (.invokevirtual 448, 3) := dz2 dzo182 2 1 192 dzbX13_back_24 rfl
theorem dX13_back_29 : decode cX13_back 29 = .ok (.ireturn, 1) := dz0 dzo172 5 dzbX13_back_24 rfl
theorem dX13_back_30 : decode cX13_back 30 = .ok (.iconst 0, 1) := dz0 dzo3 6 dzbX13_back_24 rfl
theorem dX13_back_31 : decode cX13_back 31 = .ok (.istore_n 2, 1) := dz0 dzo61 7 dzbX13_back_24 rfl
theorem dX13_back_32 : decode cX13_back 32 = .ok (.iload_n 2, 1) := dz0 dzo28 8 dzbX13_back_24 rfl
theorem dX13_back_33 : decode cX13_back 33 = .ok (.bipush 32, 2) := dz3 dzo16 9 32 32 rfl dzbX13_back_24 rfl
theorem dX13_back_35 : decode cX13_back 35 = .ok (.if_icmp .ge 26, 3) := dz4 dzo162 11 0 26 26 rfl dzbX13_back_24 rfl
theorem dX13_back_38 : decode cX13_back 38 = .ok (.aload_n 0, 1) := dz0 dzo42 14 dzbX13_back_24 rfl
theorem dX13_back_39 : decode cX13_back 39 = .ok (.getfield 17, 3) := dz2 dzo180 15 0 17 dzbX13_back_24 rfl
theorem dX13_back_42 : decode cX13_back 42 = .ok (.iload_n 2, 1) := dz0 dzo28 18 dzbX13_back_24 rfl
theorem dX13_back_43 : decode cX13_back 43 = .ok (.aload_n 0, 1) := dz0 dzo42 19 dzbX13_back_24 rfl
theorem dX13_back_44 : decode cX13_back 44 = .ok (.getfield 27, 3) := dz2 dzo180 20 0 27 dzbX13_back_24 rfl
theorem dzbX13_back_47 : dzB cX13_back 47 [16, 32, 27, 104, 28, 96, 46, 79, 132, 2, 1, 167, 255, 230, 42, 3, 181, 1, 15, 42, 182, 1, 195, 172] := by decide +kernel
theorem dX13_back_47 : decode cX13_back 47 = .ok (.bipush 32, 2) := dz3 dzo16 0 32 32 rfl dzbX13_back_47 rfl
theorem dX13_back_49 : decode cX13_back 49 = .ok (.iload_n 1, 1) := dz0 dzo27 2 dzbX13_back_47 rfl
theorem dX13_back_50 : decode cX13_back 50 = .ok (.imul, 1) := dz0 dzo104 3 dzbX13_back_47 rfl
theorem dX13_back_51 : decode cX13_back 51 = .ok (.iload_n 2, 1) := dz0 dzo28 4 dzbX13_back_47 rfl
theorem dX13_back_52 : decode cX13_back 52 = .ok (.iadd, 1) := dz0 dzo96 5 dzbX13_back_47 rfl
theorem dX13_back_53 : decode cX13_back 53 = .ok (.iaload, 1) := dz0 dzo46 6 dzbX13_back_47 rfl
theorem dX13_back_54 : decode cX13_back 54 = .ok (.iastore, 1) := dz0 dzo79 7 dzbX13_back_47 rfl
theorem dX13_back_55 : decode cX13_back 55 = .ok (.iinc 2 1, 3) := dz5 dzo132 8 2 1 1 rfl dzbX13_back_47 rfl
theorem dX13_back_58 : decode cX13_back 58 = .ok (.goto (-26), 3) := dz4 dzo167 11 255 230 (-26) rfl dzbX13_back_47 rfl
theorem dX13_back_61 : decode cX13_back 61 = .ok (.aload_n 0, 1) := dz0 dzo42 14 dzbX13_back_47 rfl
theorem dX13_back_62 : decode cX13_back 62 = .ok (.iconst 0, 1) := dz0 dzo3 15 dzbX13_back_47 rfl
theorem dX13_back_63 : decode cX13_back 63 = .ok (.putfield 271, 3) := dz2 dzo181 16 1 15 dzbX13_back_47 rfl
theorem dX13_back_66 : decode cX13_back 66 = .ok (.aload_n 0, 1) := dz0 dzo42 19 dzbX13_back_47 rfl
theorem dX13_back_67 : decode cX13_back 67 = .ok (.invokevirtual 451, 3) := dz2 dzo182 20 1 195 dzbX13_back_47 rfl
theorem dX13_back_70 : decode cX13_back 70 = .ok (.ireturn, 1) := dz0 dzo172 23 dzbX13_back_47 rfl
theorem dzbX13_becomes_0 : dzB cX13_becomes 0 [42, 27, 182, 1, 46, 154, 0, 9, 42, 4, 182, 1, 192, 172, 42, 180, 0, 17, 27, 46, 28, 160, 0, 16] := by decide +kernel
theorem dX13_becomes_0 : decode cX13_becomes 0 = .ok (.aload_n 0, 1) := dz0 dzo42 0 dzbX13_becomes_0 rfl
theorem dX13_becomes_1 : decode cX13_becomes 1 = .ok (.iload_n 1, 1) := dz0 dzo27 1 dzbX13_becomes_0 rfl
theorem dX13_becomes_2 : decode cX13_becomes 2 = .ok (.invokevirtual 302, 3) := dz2 dzo182 2 1 46 dzbX13_becomes_0 rfl
theorem dX13_becomes_5 : decode cX13_becomes 5 = .ok (.ifCond .ne 9, 3) := dz4 dzo154 5 0 9 9 rfl dzbX13_becomes_0 rfl
theorem dX13_becomes_8 : decode cX13_becomes 8 = .ok (.aload_n 0, 1) := dz0 dzo42 8 dzbX13_becomes_0 rfl
theorem dX13_becomes_9 : decode cX13_becomes 9 = .ok (.iconst 1, 1) := dz0 dzo4 9 dzbX13_becomes_0 rfl
theorem dX13_becomes_10 : decode cX13_becomes 10 = .ok (.invokevirtual 448, 3) := dz2 dzo182 10 1 192 dzbX13_becomes_0 rfl
theorem dX13_becomes_13 : decode cX13_becomes 13 = .ok (.ireturn, 1) := dz0 dzo172 13 dzbX13_becomes_0 rfl
theorem dX13_becomes_14 : decode cX13_becomes 14 = .ok (.aload_n 0, 1) := dz0 dzo42 14 dzbX13_becomes_0 rfl
theorem dX13_becomes_15 : decode cX13_becomes 15 = .ok (.getfield 17, 3) := dz2 dzo180 15 0 17 dzbX13_becomes_0 rfl
theorem dX13_becomes_18 : decode cX13_becomes 18 = .ok (.iload_n 1, 1) := dz0 dzo27 18 dzbX13_becomes_0 rfl
theorem dX13_becomes_19 : decode cX13_becomes 19 = .ok (.iaload, 1) := dz0 dzo46 19 dzbX13_becomes_0 rfl
theorem dX13_becomes_20 : decode cX13_becomes 20 = .ok (.iload_n 2, 1) := dz0 dzo28 20 dzbX13_becomes_0 rfl
theorem dX13_becomes_21 : decode cX13_becomes 21 = .ok (.if_icmp .ne 16, 3) := dz4 dzo160 21 0 16 16 rfl dzbX13_becomes_0 rfl
theorem dzbX13_becomes_24 : dzB cX13_becomes 24 [29, 6, 160, 0, 17, 42, 27, 182, 1, 52, 153, 0, 9, 42, 8, 182, 1, 192, 172, 42, 182, 1, 189, 42] := by decide +kernel
theorem dX13_becomes_24 : decode cX13_becomes 24 = .ok (.iload_n 3, 1) := dz0 dzo29 0 dzbX13_becomes_24 rfl
theorem dX13_becomes_25 : decode cX13_becomes 25 = .ok (.iconst 3, 1) := dz0 dzo6 1 dzbX13_becomes_24 rfl
theorem dX13_becomes_26 : decode cX13_becomes 26 = .ok (.if_icmp .ne 17, 3) := dz4 dzo160 2 0 17 17 rfl dzbX13_becomes_24 rfl
theorem dX13_becomes_29 : decode cX13_becomes 29 = .ok (.aload_n 0, 1) := dz0 dzo42 5 dzbX13_becomes_24 rfl
theorem dX13_becomes_30 : decode cX13_becomes 30 = .ok (.iload_n 1, 1) := dz0 dzo27 6 dzbX13_becomes_24 rfl
theorem dX13_becomes_31 : decode cX13_becomes 31 = .ok (.invokevirtual 308, 3) := dz2 dzo182 7 1 52 dzbX13_becomes_24 rfl
theorem dX13_becomes_34 : decode cX13_becomes 34 = .ok (.ifCond .eq 9, 3) := dz4 dzo153 10 0 9 9 rfl dzbX13_becomes_24 rfl
theorem dX13_becomes_37 : decode cX13_becomes 37 = .ok (.aload_n 0, 1) := dz0 dzo42 13 dzbX13_becomes_24 rfl
theorem dX13_becomes_38 : decode cX13_becomes 38 = .ok (.iconst 5, 1) := dz0 dzo8 14 dzbX13_becomes_24 rfl
theorem dX13_becomes_39 : decode cX13_becomes 39 = .ok (.invokevirtual 448, 3) := dz2 dzo182 15 1 192 dzbX13_becomes_24 rfl
theorem dX13_becomes_42 : decode cX13_becomes 42 = .ok (.ireturn, 1) := dz0 dzo172 18 dzbX13_becomes_24 rfl
theorem dX13_becomes_43 : decode cX13_becomes 43 = .ok (.aload_n 0, 1) := dz0 dzo42 19 dzbX13_becomes_24 rfl
theorem dX13_becomes_44 : decode cX13_becomes 44 = .ok (.invokevirtual 445, 3) := dz2 dzo182 20 1 189 dzbX13_becomes_24 rfl
theorem dX13_becomes_47 : decode cX13_becomes 47 = .ok (.aload_n 0, 1) := dz0 dzo42 23 dzbX13_becomes_24 rfl
theorem dzbX13_becomes_48 : dzB cX13_becomes 48 [180, 0, 17, 27, 29, 79, 42, 182, 1, 195, 172] := by decide +kernel
theorem dX13_becomes_48 : decode cX13_becomes 48 = .ok (.getfield 17, 3) := dz2 dzo180 0 0 17 dzbX13_becomes_48 rfl
theorem dX13_becomes_51 : decode cX13_becomes 51 = .ok (.iload_n 1, 1) := dz0 dzo27 3 dzbX13_becomes_48 rfl
theorem dX13_becomes_52 : decode cX13_becomes 52 = .ok (.iload_n 3, 1) := dz0 dzo29 4 dzbX13_becomes_48 rfl
theorem dX13_becomes_53 : decode cX13_becomes 53 = .ok (.iastore, 1) := dz0 dzo79 5 dzbX13_becomes_48 rfl
theorem dX13_becomes_54 : decode cX13_becomes 54 = .ok (.aload_n 0, 1) := dz0 dzo42 6 dzbX13_becomes_48 rfl
theorem dX13_becomes_55 : decode cX13_becomes 55 = .ok (.invokevirtual 451, 3) := dz2 dzo182 7 1 195 dzbX13_becomes_48 rfl
theorem dX13_becomes_58 : decode cX13_becomes 58 = .ok (.ireturn, 1) := dz0 dzo172 10 dzbX13_becomes_48 rfl
theorem dzbX13_bit_0 : dzB cX13_bit 0 [26, 27, 122, 4, 126, 4, 160, 0, 7, 4, 167, 0, 4, 3, 172] := by decide +kernel
theorem dX13_bit_0 : decode cX13_bit 0 = .ok (.iload_n 0, 1) := dz0 dzo26 0 dzbX13_bit_0 rfl
theorem dX13_bit_1 : decode cX13_bit 1 = .ok (.iload_n 1, 1) := dz0 dzo27 1 dzbX13_bit_0 rfl
theorem dX13_bit_2 : decode cX13_bit 2 = .ok (.ishr, 1) := dz0 dzo122 2 dzbX13_bit_0 rfl
theorem dX13_bit_3 : decode cX13_bit 3 = .ok (.iconst 1, 1) := dz0 dzo4 3 dzbX13_bit_0 rfl
theorem dX13_bit_4 : decode cX13_bit 4 = .ok (.iand, 1) := dz0 dzo126 4 dzbX13_bit_0 rfl
theorem dX13_bit_5 : decode cX13_bit 5 = .ok (.iconst 1, 1) := dz0 dzo4 5 dzbX13_bit_0 rfl
theorem dX13_bit_6 : decode cX13_bit 6 = .ok (.if_icmp .ne 7, 3) := dz4 dzo160 6 0 7 7 rfl dzbX13_bit_0 rfl
theorem dX13_bit_9 : decode cX13_bit 9 = .ok (.iconst 1, 1) := dz0 dzo4 9 dzbX13_bit_0 rfl
theorem dX13_bit_10 : decode cX13_bit 10 = .ok (.goto 4, 3) := dz4 dzo167 10 0 4 4 rfl dzbX13_bit_0 rfl
theorem dX13_bit_13 : decode cX13_bit 13 = .ok (.iconst 0, 1) := dz0 dzo3 13 dzbX13_bit_0 rfl
theorem dX13_bit_14 : decode cX13_bit 14 = .ok (.ireturn, 1) := dz0 dzo172 14 dzbX13_bit_0 rfl
theorem dzbX13_bits_0 : dzB cX13_bits 0 [3, 60, 26, 61, 28, 153, 0, 15, 132, 1, 1, 28, 28, 4, 100, 126, 61, 167, 255, 243, 27, 172] := by decide +kernel
theorem dX13_bits_0 : decode cX13_bits 0 = .ok (.iconst 0, 1) := dz0 dzo3 0 dzbX13_bits_0 rfl
theorem dX13_bits_1 : decode cX13_bits 1 = .ok (.istore_n 1, 1) := dz0 dzo60 1 dzbX13_bits_0 rfl
theorem dX13_bits_2 : decode cX13_bits 2 = .ok (.iload_n 0, 1) := dz0 dzo26 2 dzbX13_bits_0 rfl
theorem dX13_bits_3 : decode cX13_bits 3 = .ok (.istore_n 2, 1) := dz0 dzo61 3 dzbX13_bits_0 rfl
theorem dX13_bits_4 : decode cX13_bits 4 = .ok (.iload_n 2, 1) := dz0 dzo28 4 dzbX13_bits_0 rfl
theorem dX13_bits_5 : decode cX13_bits 5 = .ok (.ifCond .eq 15, 3) := dz4 dzo153 5 0 15 15 rfl dzbX13_bits_0 rfl
theorem dX13_bits_8 : decode cX13_bits 8 = .ok (.iinc 1 1, 3) := dz5 dzo132 8 1 1 1 rfl dzbX13_bits_0 rfl
theorem dX13_bits_11 : decode cX13_bits 11 = .ok (.iload_n 2, 1) := dz0 dzo28 11 dzbX13_bits_0 rfl
theorem dX13_bits_12 : decode cX13_bits 12 = .ok (.iload_n 2, 1) := dz0 dzo28 12 dzbX13_bits_0 rfl
theorem dX13_bits_13 : decode cX13_bits 13 = .ok (.iconst 1, 1) := dz0 dzo4 13 dzbX13_bits_0 rfl
theorem dX13_bits_14 : decode cX13_bits 14 = .ok (.isub, 1) := dz0 dzo100 14 dzbX13_bits_0 rfl
theorem dX13_bits_15 : decode cX13_bits 15 = .ok (.iand, 1) := dz0 dzo126 15 dzbX13_bits_0 rfl
theorem dX13_bits_16 : decode cX13_bits 16 = .ok (.istore_n 2, 1) := dz0 dzo61 16 dzbX13_bits_0 rfl
theorem dX13_bits_17 : decode cX13_bits 17 = .ok (.goto (-13), 3) := dz4 dzo167 17 255 243 (-13) rfl dzbX13_bits_0 rfl
theorem dX13_bits_20 : decode cX13_bits 20 = .ok (.iload_n 1, 1) := dz0 dzo27 20 dzbX13_bits_0 rfl
theorem dX13_bits_21 : decode cX13_bits 21 = .ok (.ireturn, 1) := dz0 dzo172 21 dzbX13_bits_0 rfl
theorem dzbX13_byteAt_0 : dzB cX13_byteAt 0 [27, 42, 180, 0, 59, 162, 0, 16, 42, 180, 0, 13, 27, 51, 17, 0, 255, 126, 167, 0, 4, 2, 172] := by decide +kernel
theorem dX13_byteAt_0 : decode cX13_byteAt 0 = .ok (.iload_n 1, 1) := dz0 dzo27 0 dzbX13_byteAt_0 rfl
theorem dX13_byteAt_1 : decode cX13_byteAt 1 = .ok (.aload_n 0, 1) := dz0 dzo42 1 dzbX13_byteAt_0 rfl
theorem dX13_byteAt_2 : decode cX13_byteAt 2 = .ok (.getfield 59, 3) := dz2 dzo180 2 0 59 dzbX13_byteAt_0 rfl
theorem dX13_byteAt_5 : decode cX13_byteAt 5 = .ok (.if_icmp .ge 16, 3) := dz4 dzo162 5 0 16 16 rfl dzbX13_byteAt_0 rfl
theorem dX13_byteAt_8 : decode cX13_byteAt 8 = .ok (.aload_n 0, 1) := dz0 dzo42 8 dzbX13_byteAt_0 rfl
theorem dX13_byteAt_9 : decode cX13_byteAt 9 = .ok (.getfield 13, 3) := dz2 dzo180 9 0 13 dzbX13_byteAt_0 rfl
theorem dX13_byteAt_12 : decode cX13_byteAt 12 = .ok (.iload_n 1, 1) := dz0 dzo27 12 dzbX13_byteAt_0 rfl
theorem dX13_byteAt_13 : decode cX13_byteAt 13 = .ok (.baload, 1) := dz0 dzo51 13 dzbX13_byteAt_0 rfl
theorem dX13_byteAt_14 : decode cX13_byteAt 14 = .ok (.sipush 255, 3) := dz4 dzo17 14 0 255 255 rfl dzbX13_byteAt_0 rfl
theorem dX13_byteAt_17 : decode cX13_byteAt 17 = .ok (.iand, 1) := dz0 dzo126 17 dzbX13_byteAt_0 rfl
theorem dX13_byteAt_18 : decode cX13_byteAt 18 = .ok (.goto 4, 3) := dz4 dzo167 18 0 4 4 rfl dzbX13_byteAt_0 rfl
theorem dX13_byteAt_21 : decode cX13_byteAt 21 = .ok (.iconst (-1), 1) := dz0 dzo2 21 dzbX13_byteAt_0 rfl
theorem dX13_byteAt_22 : decode cX13_byteAt 22 = .ok (.ireturn, 1) := dz0 dzo172 22 dzbX13_byteAt_0 rfl
theorem dzbX13_comes_0 : dzB cX13_comes 0 [42, 180, 1, 13, 180, 0, 238, 27, 46, 61, 3, 62, 29, 42, 182, 1, 21, 162, 0, 18, 42, 180, 0, 33] := by decide +kernel
theorem dX13_comes_0 : decode cX13_comes 0 = .ok (.aload_n 0, 1) := dz0 dzo42 0 dzbX13_comes_0 rfl
theorem dX13_comes_1 : decode cX13_comes 1 = .ok (.getfield 269, 3) := dz2 dzo180 1 1 13 dzbX13_comes_0 rfl
theorem dX13_comes_4 : decode cX13_comes 4 = .ok (.getfield 238, 3) := dz2 dzo180 4 0 238 dzbX13_comes_0 rfl
theorem dX13_comes_7 : decode cX13_comes 7 = .ok (.iload_n 1, 1) := dz0 dzo27 7 dzbX13_comes_0 rfl
theorem dX13_comes_8 : decode cX13_comes 8 = .ok (.iaload, 1) := dz0 dzo46 8 dzbX13_comes_0 rfl
theorem dX13_comes_9 : decode cX13_comes 9 = .ok (.istore_n 2, 1) := dz0 dzo61 9 dzbX13_comes_0 rfl
theorem dX13_comes_10 : decode cX13_comes 10 = .ok (.iconst 0, 1) := dz0 dzo3 10 dzbX13_comes_0 rfl
theorem dX13_comes_11 : decode cX13_comes 11 = .ok (.istore_n 3, 1) := dz0 dzo62 11 dzbX13_comes_0 rfl
theorem dX13_comes_12 : decode cX13_comes 12 = .ok (.iload_n 3, 1) := dz0 dzo29 12 dzbX13_comes_0 rfl
theorem dX13_comes_13 : decode cX13_comes 13 = .ok (.aload_n 0, 1) := dz0 dzo42 13 dzbX13_comes_0 rfl
theorem dX13_comes_14 : decode cX13_comes 14 = .ok (.invokevirtual 277, 3) := dz2 dzo182 14 1 21 dzbX13_comes_0 rfl
theorem dX13_comes_17 : decode cX13_comes 17 = .ok (.if_icmp .ge 18, 3) := dz4 dzo162 17 0 18 18 rfl dzbX13_comes_0 rfl
theorem dX13_comes_20 : decode cX13_comes 20 = .ok (.aload_n 0, 1) := dz0 dzo42 20 dzbX13_comes_0 rfl
theorem dX13_comes_21 : decode cX13_comes 21 = .ok (.getfield 33, 3) := dz2 dzo180 21 0 33 dzbX13_comes_0 rfl
theorem dzbX13_comes_24 : dzB cX13_comes 24 [29, 19, 1, 37, 79, 132, 3, 1, 167, 255, 236, 42, 180, 0, 33, 42, 180, 0, 17, 16, 20, 27, 96, 46] := by decide +kernel
theorem dX13_comes_24 : decode cX13_comes 24 = .ok (.iload_n 3, 1) := dz0 dzo29 0 dzbX13_comes_24 rfl
theorem dX13_comes_25 : decode cX13_comes 25 = .ok (.ldc_w 293, 3) := dz2 dzo19 1 1 37 dzbX13_comes_24 rfl
theorem dX13_comes_28 : decode cX13_comes 28 = .ok (.iastore, 1) := dz0 dzo79 4 dzbX13_comes_24 rfl
theorem dX13_comes_29 : decode cX13_comes 29 = .ok (.iinc 3 1, 3) := dz5 dzo132 5 3 1 1 rfl dzbX13_comes_24 rfl
theorem dX13_comes_32 : decode cX13_comes 32 = .ok (.goto (-20), 3) := dz4 dzo167 8 255 236 (-20) rfl dzbX13_comes_24 rfl
theorem dX13_comes_35 : decode cX13_comes 35 = .ok (.aload_n 0, 1) := dz0 dzo42 11 dzbX13_comes_24 rfl
theorem dX13_comes_36 : decode cX13_comes 36 = .ok (.getfield 33, 3) := dz2 dzo180 12 0 33 dzbX13_comes_24 rfl
theorem dX13_comes_39 : decode cX13_comes 39 = .ok (.aload_n 0, 1) := dz0 dzo42 15 dzbX13_comes_24 rfl
theorem dX13_comes_40 : decode cX13_comes 40 = .ok (.getfield 17, 3) := dz2 dzo180 16 0 17 dzbX13_comes_24 rfl
theorem dX13_comes_43 : decode cX13_comes 43 = .ok (.bipush 20, 2) := dz3 dzo16 19 20 20 rfl dzbX13_comes_24 rfl
theorem dX13_comes_45 : decode cX13_comes 45 = .ok (.iload_n 1, 1) := dz0 dzo27 21 dzbX13_comes_24 rfl
theorem dX13_comes_46 : decode cX13_comes 46 = .ok (.iadd, 1) := dz0 dzo96 22 dzbX13_comes_24 rfl
theorem dX13_comes_47 : decode cX13_comes 47 = .ok (.iaload, 1) := dz0 dzo46 23 dzbX13_comes_24 rfl
theorem dzbX13_comes_48 : dzB cX13_comes 48 [3, 79, 4, 62, 29, 153, 0, 126, 3, 62, 3, 54, 4, 21, 4, 42, 182, 1, 21, 162, 0, 109, 3] := by decide +kernel
theorem dX13_comes_48 : decode cX13_comes 48 = .ok (.iconst 0, 1) := dz0 dzo3 0 dzbX13_comes_48 rfl
theorem dX13_comes_49 : decode cX13_comes 49 = .ok (.iastore, 1) := dz0 dzo79 1 dzbX13_comes_48 rfl
theorem dX13_comes_50 : decode cX13_comes 50 = .ok (.iconst 1, 1) := dz0 dzo4 2 dzbX13_comes_48 rfl
theorem dX13_comes_51 : decode cX13_comes 51 = .ok (.istore_n 3, 1) := dz0 dzo62 3 dzbX13_comes_48 rfl
theorem dX13_comes_52 : decode cX13_comes 52 = .ok (.iload_n 3, 1) := dz0 dzo29 4 dzbX13_comes_48 rfl
theorem dX13_comes_53 : decode cX13_comes 53 = .ok (.ifCond .eq 126, 3) := dz4 dzo153 5 0 126 126 rfl dzbX13_comes_48 rfl
theorem dX13_comes_56 : decode cX13_comes 56 = .ok (.iconst 0, 1) := dz0 dzo3 8 dzbX13_comes_48 rfl
theorem dX13_comes_57 : decode cX13_comes 57 = .ok (.istore_n 3, 1) := dz0 dzo62 9 dzbX13_comes_48 rfl
theorem dX13_comes_58 : decode cX13_comes 58 = .ok (.iconst 0, 1) := dz0 dzo3 10 dzbX13_comes_48 rfl
theorem dX13_comes_59 : decode cX13_comes 59 = .ok (.istore 4, 2) := dz1 dzo54 11 4 dzbX13_comes_48 rfl
theorem dX13_comes_61 : decode cX13_comes 61 = .ok (.iload 4, 2) := dz1 dzo21 13 4 dzbX13_comes_48 rfl
theorem dX13_comes_63 : decode cX13_comes 63 = .ok (.aload_n 0, 1) := dz0 dzo42 15 dzbX13_comes_48 rfl
theorem dX13_comes_64 : decode cX13_comes 64 = .ok (.invokevirtual 277, 3) := dz2 dzo182 16 1 21 dzbX13_comes_48 rfl
theorem dX13_comes_67 : decode cX13_comes 67 = .ok (.if_icmp .ge 109, 3) := dz4 dzo162 19 0 109 109 rfl dzbX13_comes_48 rfl
theorem dX13_comes_70 : decode cX13_comes 70 = .ok (.iconst 0, 1) := dz0 dzo3 22 dzbX13_comes_48 rfl
theorem dzbX13_comes_71 : dzB cX13_comes 71 [54, 5, 21, 5, 7, 162, 0, 94, 42, 180, 0, 33, 21, 4, 46, 19, 1, 37, 162, 0, 81, 42, 28] := by decide +kernel
theorem dX13_comes_71 : decode cX13_comes 71 = .ok (.istore 5, 2) := dz1 dzo54 0 5 dzbX13_comes_71 rfl
theorem dX13_comes_73 : decode cX13_comes 73 = .ok (.iload 5, 2) := dz1 dzo21 2 5 dzbX13_comes_71 rfl
theorem dX13_comes_75 : decode cX13_comes 75 = .ok (.iconst 4, 1) := dz0 dzo7 4 dzbX13_comes_71 rfl
theorem dX13_comes_76 : decode cX13_comes 76 = .ok (.if_icmp .ge 94, 3) := dz4 dzo162 5 0 94 94 rfl dzbX13_comes_71 rfl
theorem dX13_comes_79 : decode cX13_comes 79 = .ok (.aload_n 0, 1) := dz0 dzo42 8 dzbX13_comes_71 rfl
theorem dX13_comes_80 : decode cX13_comes 80 = .ok (.getfield 33, 3) := dz2 dzo180 9 0 33 dzbX13_comes_71 rfl
theorem dX13_comes_83 : decode cX13_comes 83 = .ok (.iload 4, 2) := dz1 dzo21 12 4 dzbX13_comes_71 rfl
theorem dX13_comes_85 : decode cX13_comes 85 = .ok (.iaload, 1) := dz0 dzo46 14 dzbX13_comes_71 rfl
theorem dX13_comes_86 : decode cX13_comes 86 = .ok (.ldc_w 293, 3) := dz2 dzo19 15 1 37 dzbX13_comes_71 rfl
theorem dX13_comes_89 : decode cX13_comes 89 = .ok (.if_icmp .ge 81, 3) := dz4 dzo162 18 0 81 81 rfl dzbX13_comes_71 rfl
theorem dX13_comes_92 : decode cX13_comes 92 = .ok (.aload_n 0, 1) := dz0 dzo42 21 dzbX13_comes_71 rfl
theorem dX13_comes_93 : decode cX13_comes 93 = .ok (.iload_n 2, 1) := dz0 dzo28 22 dzbX13_comes_71 rfl
theorem dzbX13_comes_94 : dzB cX13_comes 94 [21, 4, 21, 5, 182, 1, 33] := by decide +kernel
theorem dX13_comes_94 : decode cX13_comes 94 = .ok (.iload 4, 2) := dz1 dzo21 0 4 dzbX13_comes_94 rfl
theorem dX13_comes_96 : decode cX13_comes 96 = .ok (.iload 5, 2) := dz1 dzo21 2 5 dzbX13_comes_94 rfl
theorem dX13_comes_98 : decode cX13_comes 98 = .ok (.invokevirtual 289, 3) := dz2 dzo182 4 1 33 dzbX13_comes_94 rfl
