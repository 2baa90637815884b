theorem dX0_init_0 : decode cX0_init 0 = .ok (.aload_n 0, 1) := by decide +kernel
theorem dX0_init_1 : decode cX0_init 1 = .ok (.invokespecial 3, 3) := by decide +kernel
theorem dX0_init_4 : decode cX0_init 4 = .ok (.aload_n 0, 1) := by decide +kernel
theorem dX0_init_5 : decode cX0_init 5 = .ok (.bipush 60, 2) := by decide +kernel
theorem dX0_init_7 : decode cX0_init 7 = .ok (.newarray .int, 2) := by decide +kernel
theorem dX0_init_9 : decode cX0_init 9 = .ok (.putfield 11, 3) := by decide +kernel
theorem dX0_init_12 : decode cX0_init 12 = .ok (.aload_n 0, 1) := by decide +kernel
theorem dX0_init_13 : decode cX0_init 13 = .ok (.bipush 60, 2) := by decide +kernel
theorem dX0_init_15 : decode cX0_init 15 = .ok (.newarray .int, 2) := by decide +kernel
theorem dX0_init_17 : decode cX0_init 17 = .ok (.putfield 15, 3) := by decide +kernel
theorem dX0_init_20 : decode cX0_init 20 = .ok (.return_, 1) := by decide +kernel
theorem dX0_read_0 : decode cX0_read 0 = .ok (.aload_n 1, 1) := by decide +kernel
theorem dX0_read_1 : decode cX0_read 1 = .ok (.bipush 60, 2) := by decide +kernel
theorem dX0_read_3 : decode cX0_read 3 = .ok (.invokevirtual 18, 3) := by decide +kernel
theorem dX0_read_6 : decode cX0_read 6 = .ok (.aload_n 1, 1) := by decide +kernel
theorem dX0_read_7 : decode cX0_read 7 = .ok (.invokevirtual 24, 3) := by decide +kernel
theorem dX0_read_10 : decode cX0_read 10 = .ok (.ifCond .eq 5, 3) := by decide +kernel
theorem dX0_read_13 : decode cX0_read 13 = .ok (.iconst 0, 1) := by decide +kernel
theorem dX0_read_14 : decode cX0_read 14 = .ok (.ireturn, 1) := by decide +kernel
theorem dX0_read_15 : decode cX0_read 15 = .ok (.iconst 0, 1) := by decide +kernel
theorem dX0_read_16 : decode cX0_read 16 = .ok (.istore_n 2, 1) := by decide +kernel
theorem dX0_read_17 : decode cX0_read 17 = .ok (.iload_n 2, 1) := by decide +kernel
theorem dX0_read_18 : decode cX0_read 18 = .ok (.bipush 60, 2) := by decide +kernel
theorem dX0_read_20 : decode cX0_read 20 = .ok (.if_icmp .ge 50, 3) := by decide +kernel
theorem dX0_read_23 : decode cX0_read 23 = .ok (.aload_n 0, 1) := by decide +kernel
theorem dX0_read_24 : decode cX0_read 24 = .ok (.aload_n 1, 1) := by decide +kernel
theorem dX0_read_25 : decode cX0_read 25 = .ok (.iload_n 2, 1) := by decide +kernel
theorem dX0_read_26 : decode cX0_read 26 = .ok (.invokevirtual 28, 3) := by decide +kernel
theorem dX0_read_29 : decode cX0_read 29 = .ok (.ifCond .ne 8, 3) := by decide +kernel
theorem dX0_read_32 : decode cX0_read 32 = .ok (.aload_n 1, 1) := by decide +kernel
theorem dX0_read_33 : decode cX0_read 33 = .ok (.invokevirtual 32, 3) := by decide +kernel
theorem dX0_read_36 : decode cX0_read 36 = .ok (.ireturn, 1) := by decide +kernel
theorem dX0_read_37 : decode cX0_read 37 = .ok (.aload_n 1, 1) := by decide +kernel
theorem dX0_read_38 : decode cX0_read 38 = .ok (.bipush 59, 2) := by decide +kernel
theorem dX0_read_40 : decode cX0_read 40 = .ok (.invokevirtual 36, 3) := by decide +kernel
theorem dX0_read_43 : decode cX0_read 43 = .ok (.ifCond .ne 21, 3) := by decide +kernel
theorem dX0_read_46 : decode cX0_read 46 = .ok (.aload_n 1, 1) := by decide +kernel
theorem dX0_read_47 : decode cX0_read 47 = .ok (.invokevirtual 24, 3) := by decide +kernel
theorem dX0_read_50 : decode cX0_read 50 = .ok (.ifCond .eq 9, 3) := by decide +kernel
theorem dX0_read_53 : decode cX0_read 53 = .ok (.iload_n 2, 1) := by decide +kernel
theorem dX0_read_54 : decode cX0_read 54 = .ok (.iconst 1, 1) := by decide +kernel
theorem dX0_read_55 : decode cX0_read 55 = .ok (.iadd, 1) := by decide +kernel
theorem dX0_read_56 : decode cX0_read 56 = .ok (.goto 7, 3) := by decide +kernel
theorem dX0_read_59 : decode cX0_read 59 = .ok (.aload_n 1, 1) := by decide +kernel
theorem dX0_read_60 : decode cX0_read 60 = .ok (.invokevirtual 32, 3) := by decide +kernel
theorem dX0_read_63 : decode cX0_read 63 = .ok (.ireturn, 1) := by decide +kernel
theorem dX0_read_64 : decode cX0_read 64 = .ok (.iinc 2 1, 3) := by decide +kernel
theorem dX0_read_67 : decode cX0_read 67 = .ok (.goto (-50), 3) := by decide +kernel
theorem dX0_read_70 : decode cX0_read 70 = .ok (.aload_n 1, 1) := by decide +kernel
theorem dX0_read_71 : decode cX0_read 71 = .ok (.invokevirtual 32, 3) := by decide +kernel
theorem dX0_read_74 : decode cX0_read 74 = .ok (.ireturn, 1) := by decide +kernel
theorem dX0_readAct_0 : decode cX0_readAct 0 = .ok (.aload_n 1, 1) := by decide +kernel
theorem dX0_readAct_1 : decode cX0_readAct 1 = .ok (.invokevirtual 40, 3) := by decide +kernel
theorem dX0_readAct_4 : decode cX0_readAct 4 = .ok (.istore_n 3, 1) := by decide +kernel
theorem dX0_readAct_5 : decode cX0_readAct 5 = .ok (.iconst 0, 1) := by decide +kernel
theorem dX0_readAct_6 : decode cX0_readAct 6 = .ok (.istore 4, 2) := by decide +kernel
theorem dX0_readAct_8 : decode cX0_readAct 8 = .ok (.aload_n 1, 1) := by decide +kernel
theorem dX0_readAct_9 : decode cX0_readAct 9 = .ok (.bipush 103, 2) := by decide +kernel
theorem dX0_readAct_11 : decode cX0_readAct 11 = .ok (.invokevirtual 36, 3) := by decide +kernel
theorem dX0_readAct_14 : decode cX0_readAct 14 = .ok (.ifCond .eq 15, 3) := by decide +kernel
theorem dX0_readAct_17 : decode cX0_readAct 17 = .ok (.aload_n 1, 1) := by decide +kernel
theorem dX0_readAct_18 : decode cX0_readAct 18 = .ok (.bipush 9, 2) := by decide +kernel
theorem dX0_readAct_20 : decode cX0_readAct 20 = .ok (.iconst (-1), 1) := by decide +kernel
theorem dX0_readAct_21 : decode cX0_readAct 21 = .ok (.invokevirtual 43, 3) := by decide +kernel
theorem dX0_readAct_24 : decode cX0_readAct 24 = .ok (.istore 4, 2) := by decide +kernel
theorem dX0_readAct_26 : decode cX0_readAct 26 = .ok (.goto 33, 3) := by decide +kernel
theorem dX0_readAct_29 : decode cX0_readAct 29 = .ok (.aload_n 1, 1) := by decide +kernel
theorem dX0_readAct_30 : decode cX0_readAct 30 = .ok (.bipush 122, 2) := by decide +kernel
theorem dX0_readAct_32 : decode cX0_readAct 32 = .ok (.invokevirtual 36, 3) := by decide +kernel
theorem dX0_readAct_35 : decode cX0_readAct 35 = .ok (.ifCond .eq 13, 3) := by decide +kernel
theorem dX0_readAct_38 : decode cX0_readAct 38 = .ok (.aload_n 1, 1) := by decide +kernel
theorem dX0_readAct_39 : decode cX0_readAct 39 = .ok (.iconst 2, 1) := by decide +kernel
theorem dX0_readAct_40 : decode cX0_readAct 40 = .ok (.invokevirtual 47, 3) := by decide +kernel
theorem dX0_readAct_43 : decode cX0_readAct 43 = .ok (.istore 4, 2) := by decide +kernel
theorem dX0_readAct_45 : decode cX0_readAct 45 = .ok (.goto 14, 3) := by decide +kernel
theorem dX0_readAct_48 : decode cX0_readAct 48 = .ok (.aload_n 1, 1) := by decide +kernel
theorem dX0_readAct_49 : decode cX0_readAct 49 = .ok (.bipush 109, 2) := by decide +kernel
theorem dX0_readAct_51 : decode cX0_readAct 51 = .ok (.invokevirtual 36, 3) := by decide +kernel
theorem dX0_readAct_54 : decode cX0_readAct 54 = .ok (.ifCond .ne 5, 3) := by decide +kernel
theorem dX0_readAct_57 : decode cX0_readAct 57 = .ok (.iconst 0, 1) := by decide +kernel
theorem dX0_readAct_58 : decode cX0_readAct 58 = .ok (.ireturn, 1) := by decide +kernel
theorem dX0_readAct_59 : decode cX0_readAct 59 = .ok (.iload 4, 2) := by decide +kernel
theorem dX0_readAct_61 : decode cX0_readAct 61 = .ok (.ifCond .lt 13, 3) := by decide +kernel
theorem dX0_readAct_64 : decode cX0_readAct 64 = .ok (.iload_n 2, 1) := by decide +kernel
theorem dX0_readAct_65 : decode cX0_readAct 65 = .ok (.ifCond .lt 9, 3) := by decide +kernel
theorem dX0_readAct_68 : decode cX0_readAct 68 = .ok (.iload_n 2, 1) := by decide +kernel
theorem dX0_readAct_69 : decode cX0_readAct 69 = .ok (.bipush 60, 2) := by decide +kernel
theorem dX0_readAct_71 : decode cX0_readAct 71 = .ok (.if_icmp .lt 5, 3) := by decide +kernel
theorem dX0_readAct_74 : decode cX0_readAct 74 = .ok (.iconst 0, 1) := by decide +kernel
theorem dX0_readAct_75 : decode cX0_readAct 75 = .ok (.ireturn, 1) := by decide +kernel
theorem dX0_readAct_76 : decode cX0_readAct 76 = .ok (.aload_n 0, 1) := by decide +kernel
theorem dX0_readAct_77 : decode cX0_readAct 77 = .ok (.getfield 11, 3) := by decide +kernel
theorem dX0_readAct_80 : decode cX0_readAct 80 = .ok (.iload_n 2, 1) := by decide +kernel
theorem dX0_readAct_81 : decode cX0_readAct 81 = .ok (.iload_n 3, 1) := by decide +kernel
theorem dX0_readAct_82 : decode cX0_readAct 82 = .ok (.iastore, 1) := by decide +kernel
theorem dX0_readAct_83 : decode cX0_readAct 83 = .ok (.aload_n 0, 1) := by decide +kernel
theorem dX0_readAct_84 : decode cX0_readAct 84 = .ok (.getfield 15, 3) := by decide +kernel
theorem dX0_readAct_87 : decode cX0_readAct 87 = .ok (.iload_n 2, 1) := by decide +kernel
theorem dX0_readAct_88 : decode cX0_readAct 88 = .ok (.iload 4, 2) := by decide +kernel
theorem dX0_readAct_90 : decode cX0_readAct 90 = .ok (.iastore, 1) := by decide +kernel
theorem dX0_readAct_91 : decode cX0_readAct 91 = .ok (.iconst 1, 1) := by decide +kernel
theorem dX0_readAct_92 : decode cX0_readAct 92 = .ok (.ireturn, 1) := by decide +kernel
theorem dX0_kindOf_0 : decode cX0_kindOf 0 = .ok (.iload_n 1, 1) := by decide +kernel
theorem dX0_kindOf_1 : decode cX0_kindOf 1 = .ok (.ifCond .lt 18, 3) := by decide +kernel
theorem dX0_kindOf_4 : decode cX0_kindOf 4 = .ok (.iload_n 1, 1) := by decide +kernel
theorem dX0_kindOf_5 : decode cX0_kindOf 5 = .ok (.bipush 60, 2) := by decide +kernel
theorem dX0_kindOf_7 : decode cX0_kindOf 7 = .ok (.if_icmp .ge 12, 3) := by decide +kernel
theorem dX0_kindOf_10 : decode cX0_kindOf 10 = .ok (.aload_n 0, 1) := by decide +kernel
theorem dX0_kindOf_11 : decode cX0_kindOf 11 = .ok (.getfield 11, 3) := by decide +kernel
theorem dX0_kindOf_14 : decode cX0_kindOf 14 = .ok (.iload_n 1, 1) := by decide +kernel
theorem dX0_kindOf_15 : decode cX0_kindOf 15 = .ok (.iaload, 1) := by decide +kernel
theorem dX0_kindOf_16 : decode cX0_kindOf 16 = .ok (.goto 5, 3) := by decide +kernel
theorem dX0_kindOf_19 : decode cX0_kindOf 19 = .ok (.bipush 109, 2) := by decide +kernel
theorem dX0_kindOf_21 : decode cX0_kindOf 21 = .ok (.ireturn, 1) := by decide +kernel
theorem dX0_numberOf_0 : decode cX0_numberOf 0 = .ok (.iload_n 1, 1) := by decide +kernel
theorem dX0_numberOf_1 : decode cX0_numberOf 1 = .ok (.ifCond .lt 18, 3) := by decide +kernel
theorem dX0_numberOf_4 : decode cX0_numberOf 4 = .ok (.iload_n 1, 1) := by decide +kernel
theorem dX0_numberOf_5 : decode cX0_numberOf 5 = .ok (.bipush 60, 2) := by decide +kernel
theorem dX0_numberOf_7 : decode cX0_numberOf 7 = .ok (.if_icmp .ge 12, 3) := by decide +kernel
theorem dX0_numberOf_10 : decode cX0_numberOf 10 = .ok (.aload_n 0, 1) := by decide +kernel
theorem dX0_numberOf_11 : decode cX0_numberOf 11 = .ok (.getfield 15, 3) := by decide +kernel
theorem dX0_numberOf_14 : decode cX0_numberOf 14 = .ok (.iload_n 1, 1) := by decide +kernel
theorem dX0_numberOf_15 : decode cX0_numberOf 15 = .ok (.iaload, 1) := by decide +kernel
theorem dX0_numberOf_16 : decode cX0_numberOf 16 = .ok (.goto 4, 3) := by decide +kernel
theorem dX0_numberOf_19 : decode cX0_numberOf 19 = .ok (.iconst 0, 1) := by decide +kernel
theorem dX0_numberOf_20 : decode cX0_numberOf 20 = .ok (.ireturn, 1) := by decide +kernel
theorem dX1_init_0 : decode cX1_init 0 = .ok (.aload_n 0, 1) := by decide +kernel
theorem dX1_init_1 : decode cX1_init 1 = .ok (.invokespecial 3, 3) := by decide +kernel
theorem dX1_init_4 : decode cX1_init 4 = .ok (.aload_n 0, 1) := by decide +kernel
theorem dX1_init_5 : decode cX1_init 5 = .ok (.bipush 8, 2) := by decide +kernel
theorem dX1_init_7 : decode cX1_init 7 = .ok (.newarray .int, 2) := by decide +kernel
theorem dX1_init_9 : decode cX1_init 9 = .ok (.putfield 9, 3) := by decide +kernel
theorem dX1_init_12 : decode cX1_init 12 = .ok (.aload_n 0, 1) := by decide +kernel
theorem dX1_init_13 : decode cX1_init 13 = .ok (.bipush 8, 2) := by decide +kernel
theorem dX1_init_15 : decode cX1_init 15 = .ok (.newarray .int, 2) := by decide +kernel
theorem dX1_init_17 : decode cX1_init 17 = .ok (.putfield 15, 3) := by decide +kernel
theorem dX1_init_20 : decode cX1_init 20 = .ok (.aload_n 0, 1) := by decide +kernel
theorem dX1_init_21 : decode cX1_init 21 = .ok (.bipush 8, 2) := by decide +kernel
theorem dX1_init_23 : decode cX1_init 23 = .ok (.newarray .int, 2) := by decide +kernel
theorem dX1_init_25 : decode cX1_init 25 = .ok (.putfield 18, 3) := by decide +kernel
theorem dX1_init_28 : decode cX1_init 28 = .ok (.return_, 1) := by decide +kernel
theorem dX1_has_0 : decode cX1_has 0 = .ok (.iload_n 1, 1) := by decide +kernel
theorem dX1_has_1 : decode cX1_has 1 = .ok (.ifCond .lt 21, 3) := by decide +kernel
theorem dX1_has_4 : decode cX1_has 4 = .ok (.iload_n 1, 1) := by decide +kernel
theorem dX1_has_5 : decode cX1_has 5 = .ok (.aload_n 0, 1) := by decide +kernel
theorem dX1_has_6 : decode cX1_has 6 = .ok (.getfield 21, 3) := by decide +kernel
theorem dX1_has_9 : decode cX1_has 9 = .ok (.if_icmp .ge 13, 3) := by decide +kernel
theorem dX1_has_12 : decode cX1_has 12 = .ok (.iload_n 1, 1) := by decide +kernel
theorem dX1_has_13 : decode cX1_has 13 = .ok (.bipush 8, 2) := by decide +kernel
theorem dX1_has_15 : decode cX1_has 15 = .ok (.if_icmp .ge 7, 3) := by decide +kernel
theorem dX1_has_18 : decode cX1_has 18 = .ok (.iconst 1, 1) := by decide +kernel
theorem dX1_has_19 : decode cX1_has 19 = .ok (.goto 4, 3) := by decide +kernel
theorem dX1_has_22 : decode cX1_has 22 = .ok (.iconst 0, 1) := by decide +kernel
theorem dX1_has_23 : decode cX1_has 23 = .ok (.ireturn, 1) := by decide +kernel
theorem dX1_areBits_0 : decode cX1_areBits 0 = .ok (.iload_n 1, 1) := by decide +kernel
theorem dX1_areBits_1 : decode cX1_areBits 1 = .ok (.ifCond .lt 17, 3) := by decide +kernel
theorem dX1_areBits_4 : decode cX1_areBits 4 = .ok (.iload_n 1, 1) := by decide +kernel
theorem dX1_areBits_5 : decode cX1_areBits 5 = .ok (.iconst 1, 1) := by decide +kernel
theorem dX1_areBits_6 : decode cX1_areBits 6 = .ok (.aload_n 0, 1) := by decide +kernel
theorem dX1_areBits_7 : decode cX1_areBits 7 = .ok (.getfield 21, 3) := by decide +kernel
theorem dX1_areBits_10 : decode cX1_areBits 10 = .ok (.ishl, 1) := by decide +kernel
theorem dX1_areBits_11 : decode cX1_areBits 11 = .ok (.if_icmp .ge 7, 3) := by decide +kernel
theorem dX1_areBits_14 : decode cX1_areBits 14 = .ok (.iconst 1, 1) := by decide +kernel
theorem dX1_areBits_15 : decode cX1_areBits 15 = .ok (.goto 4, 3) := by decide +kernel
theorem dX1_areBits_18 : decode cX1_areBits 18 = .ok (.iconst 0, 1) := by decide +kernel
theorem dX1_areBits_19 : decode cX1_areBits 19 = .ok (.ireturn, 1) := by decide +kernel
theorem dX1_bitsAt_0 : decode cX1_bitsAt 0 = .ok (.iconst 0, 1) := by decide +kernel
theorem dX1_bitsAt_1 : decode cX1_bitsAt 1 = .ok (.istore_n 2, 1) := by decide +kernel
theorem dX1_bitsAt_2 : decode cX1_bitsAt 2 = .ok (.iconst 0, 1) := by decide +kernel
theorem dX1_bitsAt_3 : decode cX1_bitsAt 3 = .ok (.istore_n 3, 1) := by decide +kernel
theorem dX1_bitsAt_4 : decode cX1_bitsAt 4 = .ok (.iload_n 3, 1) := by decide +kernel
theorem dX1_bitsAt_5 : decode cX1_bitsAt 5 = .ok (.aload_n 0, 1) := by decide +kernel
theorem dX1_bitsAt_6 : decode cX1_bitsAt 6 = .ok (.getfield 21, 3) := by decide +kernel
theorem dX1_bitsAt_9 : decode cX1_bitsAt 9 = .ok (.if_icmp .ge 31, 3) := by decide +kernel
theorem dX1_bitsAt_12 : decode cX1_bitsAt 12 = .ok (.iload_n 3, 1) := by decide +kernel
theorem dX1_bitsAt_13 : decode cX1_bitsAt 13 = .ok (.bipush 8, 2) := by decide +kernel
theorem dX1_bitsAt_15 : decode cX1_bitsAt 15 = .ok (.if_icmp .ge 25, 3) := by decide +kernel
theorem dX1_bitsAt_18 : decode cX1_bitsAt 18 = .ok (.aload_n 0, 1) := by decide +kernel
theorem dX1_bitsAt_19 : decode cX1_bitsAt 19 = .ok (.getfield 9, 3) := by decide +kernel
theorem dX1_bitsAt_22 : decode cX1_bitsAt 22 = .ok (.iload_n 3, 1) := by decide +kernel
theorem dX1_bitsAt_23 : decode cX1_bitsAt 23 = .ok (.iaload, 1) := by decide +kernel
theorem dX1_bitsAt_24 : decode cX1_bitsAt 24 = .ok (.iload_n 1, 1) := by decide +kernel
theorem dX1_bitsAt_25 : decode cX1_bitsAt 25 = .ok (.if_icmp .ne 9, 3) := by decide +kernel
theorem dX1_bitsAt_28 : decode cX1_bitsAt 28 = .ok (.iload_n 2, 1) := by decide +kernel
theorem dX1_bitsAt_29 : decode cX1_bitsAt 29 = .ok (.iconst 1, 1) := by decide +kernel
theorem dX1_bitsAt_30 : decode cX1_bitsAt 30 = .ok (.iload_n 3, 1) := by decide +kernel
theorem dX1_bitsAt_31 : decode cX1_bitsAt 31 = .ok (.ishl, 1) := by decide +kernel
theorem dX1_bitsAt_32 : decode cX1_bitsAt 32 = .ok (.ior, 1) := by decide +kernel
theorem dX1_bitsAt_33 : decode cX1_bitsAt 33 = .ok (.istore_n 2, 1) := by decide +kernel
theorem dX1_bitsAt_34 : decode cX1_bitsAt 34 = .ok (.iinc 3 1, 3) := by decide +kernel
theorem dX1_bitsAt_37 : decode cX1_bitsAt 37 = .ok (.goto (-33), 3) := by decide +kernel
theorem dX1_bitsAt_40 : decode cX1_bitsAt 40 = .ok (.iload_n 2, 1) := by decide +kernel
theorem dX1_bitsAt_41 : decode cX1_bitsAt 41 = .ok (.ireturn, 1) := by decide +kernel
theorem dX1_tunesOf_0 : decode cX1_tunesOf 0 = .ok (.iconst 0, 1) := by decide +kernel
theorem dX1_tunesOf_1 : decode cX1_tunesOf 1 = .ok (.istore_n 2, 1) := by decide +kernel
theorem dX1_tunesOf_2 : decode cX1_tunesOf 2 = .ok (.iconst 0, 1) := by decide +kernel
theorem dX1_tunesOf_3 : decode cX1_tunesOf 3 = .ok (.istore_n 3, 1) := by decide +kernel
theorem dX1_tunesOf_4 : decode cX1_tunesOf 4 = .ok (.iload_n 3, 1) := by decide +kernel
theorem dX1_tunesOf_5 : decode cX1_tunesOf 5 = .ok (.aload_n 0, 1) := by decide +kernel
theorem dX1_tunesOf_6 : decode cX1_tunesOf 6 = .ok (.getfield 21, 3) := by decide +kernel
theorem dX1_tunesOf_9 : decode cX1_tunesOf 9 = .ok (.if_icmp .ge 36, 3) := by decide +kernel
theorem dX1_tunesOf_12 : decode cX1_tunesOf 12 = .ok (.iload_n 3, 1) := by decide +kernel
theorem dX1_tunesOf_13 : decode cX1_tunesOf 13 = .ok (.bipush 8, 2) := by decide +kernel
theorem dX1_tunesOf_15 : decode cX1_tunesOf 15 = .ok (.if_icmp .ge 30, 3) := by decide +kernel
theorem dX1_tunesOf_18 : decode cX1_tunesOf 18 = .ok (.iload_n 2, 1) := by decide +kernel
theorem dX1_tunesOf_19 : decode cX1_tunesOf 19 = .ok (.iload_n 1, 1) := by decide +kernel
theorem dX1_tunesOf_20 : decode cX1_tunesOf 20 = .ok (.iload_n 3, 1) := by decide +kernel
theorem dX1_tunesOf_21 : decode cX1_tunesOf 21 = .ok (.ishr, 1) := by decide +kernel
theorem dX1_tunesOf_22 : decode cX1_tunesOf 22 = .ok (.iconst 1, 1) := by decide +kernel
theorem dX1_tunesOf_23 : decode cX1_tunesOf 23 = .ok (.iand, 1) := by decide +kernel
theorem dX1_tunesOf_24 : decode cX1_tunesOf 24 = .ok (.ifCond .eq 12, 3) := by decide +kernel
theorem dX1_tunesOf_27 : decode cX1_tunesOf 27 = .ok (.aload_n 0, 1) := by decide +kernel
theorem dX1_tunesOf_28 : decode cX1_tunesOf 28 = .ok (.getfield 18, 3) := by decide +kernel
theorem dX1_tunesOf_31 : decode cX1_tunesOf 31 = .ok (.iload_n 3, 1) := by decide +kernel
theorem dX1_tunesOf_32 : decode cX1_tunesOf 32 = .ok (.iaload, 1) := by decide +kernel
theorem dX1_tunesOf_33 : decode cX1_tunesOf 33 = .ok (.goto 4, 3) := by decide +kernel
theorem dX1_tunesOf_36 : decode cX1_tunesOf 36 = .ok (.iconst 0, 1) := by decide +kernel
theorem dX1_tunesOf_37 : decode cX1_tunesOf 37 = .ok (.iadd, 1) := by decide +kernel
theorem dX1_tunesOf_38 : decode cX1_tunesOf 38 = .ok (.istore_n 2, 1) := by decide +kernel
theorem dX1_tunesOf_39 : decode cX1_tunesOf 39 = .ok (.iinc 3 1, 3) := by decide +kernel
theorem dX1_tunesOf_42 : decode cX1_tunesOf 42 = .ok (.goto (-38), 3) := by decide +kernel
theorem dX1_tunesOf_45 : decode cX1_tunesOf 45 = .ok (.iload_n 2, 1) := by decide +kernel
theorem dX1_tunesOf_46 : decode cX1_tunesOf 46 = .ok (.ireturn, 1) := by decide +kernel
theorem dX1_bidsOf_0 : decode cX1_bidsOf 0 = .ok (.iconst 0, 1) := by decide +kernel
theorem dX1_bidsOf_1 : decode cX1_bidsOf 1 = .ok (.istore_n 3, 1) := by decide +kernel
theorem dX1_bidsOf_2 : decode cX1_bidsOf 2 = .ok (.iconst 0, 1) := by decide +kernel
theorem dX1_bidsOf_3 : decode cX1_bidsOf 3 = .ok (.istore 4, 2) := by decide +kernel
theorem dX1_bidsOf_5 : decode cX1_bidsOf 5 = .ok (.iload 4, 2) := by decide +kernel
theorem dX1_bidsOf_7 : decode cX1_bidsOf 7 = .ok (.aload_n 0, 1) := by decide +kernel
theorem dX1_bidsOf_8 : decode cX1_bidsOf 8 = .ok (.getfield 21, 3) := by decide +kernel
theorem dX1_bidsOf_11 : decode cX1_bidsOf 11 = .ok (.if_icmp .ge 39, 3) := by decide +kernel
theorem dX1_bidsOf_14 : decode cX1_bidsOf 14 = .ok (.iload 4, 2) := by decide +kernel
theorem dX1_bidsOf_16 : decode cX1_bidsOf 16 = .ok (.bipush 8, 2) := by decide +kernel
theorem dX1_bidsOf_18 : decode cX1_bidsOf 18 = .ok (.if_icmp .ge 32, 3) := by decide +kernel
theorem dX1_bidsOf_21 : decode cX1_bidsOf 21 = .ok (.iload_n 3, 1) := by decide +kernel
theorem dX1_bidsOf_22 : decode cX1_bidsOf 22 = .ok (.iload_n 1, 1) := by decide +kernel
theorem dX1_bidsOf_23 : decode cX1_bidsOf 23 = .ok (.iload 4, 2) := by decide +kernel
theorem dX1_bidsOf_25 : decode cX1_bidsOf 25 = .ok (.ishr, 1) := by decide +kernel
theorem dX1_bidsOf_26 : decode cX1_bidsOf 26 = .ok (.iconst 1, 1) := by decide +kernel
theorem dX1_bidsOf_27 : decode cX1_bidsOf 27 = .ok (.iand, 1) := by decide +kernel
theorem dX1_bidsOf_28 : decode cX1_bidsOf 28 = .ok (.ifCond .eq 13, 3) := by decide +kernel
theorem dX1_bidsOf_31 : decode cX1_bidsOf 31 = .ok (.aload_n 0, 1) := by decide +kernel
theorem dX1_bidsOf_32 : decode cX1_bidsOf 32 = .ok (.iload 4, 2) := by decide +kernel
theorem dX1_bidsOf_34 : decode cX1_bidsOf 34 = .ok (.iload_n 2, 1) := by decide +kernel
theorem dX1_bidsOf_35 : decode cX1_bidsOf 35 = .ok (.invokevirtual 25, 3) := by decide +kernel
theorem dX1_bidsOf_38 : decode cX1_bidsOf 38 = .ok (.goto 4, 3) := by decide +kernel
theorem dX1_bidsOf_41 : decode cX1_bidsOf 41 = .ok (.iconst 0, 1) := by decide +kernel
theorem dX1_bidsOf_42 : decode cX1_bidsOf 42 = .ok (.iadd, 1) := by decide +kernel
theorem dX1_bidsOf_43 : decode cX1_bidsOf 43 = .ok (.istore_n 3, 1) := by decide +kernel
theorem dX1_bidsOf_44 : decode cX1_bidsOf 44 = .ok (.iinc 4 1, 3) := by decide +kernel
theorem dX1_bidsOf_47 : decode cX1_bidsOf 47 = .ok (.goto (-42), 3) := by decide +kernel
theorem dX1_bidsOf_50 : decode cX1_bidsOf 50 = .ok (.iload_n 3, 1) := by decide +kernel
theorem dX1_bidsOf_51 : decode cX1_bidsOf 51 = .ok (.ireturn, 1) := by decide +kernel
theorem dX1_bidFor_0 : decode cX1_bidFor 0 = .ok (.iload_n 1, 1) := by decide +kernel
theorem dX1_bidFor_1 : decode cX1_bidFor 1 = .ok (.ifCond .lt 9, 3) := by decide +kernel
theorem dX1_bidFor_4 : decode cX1_bidFor 4 = .ok (.iload_n 1, 1) := by decide +kernel
theorem dX1_bidFor_5 : decode cX1_bidFor 5 = .ok (.bipush 8, 2) := by decide +kernel
theorem dX1_bidFor_7 : decode cX1_bidFor 7 = .ok (.if_icmp .lt 5, 3) := by decide +kernel
theorem dX1_bidFor_10 : decode cX1_bidFor 10 = .ok (.iconst 0, 1) := by decide +kernel
theorem dX1_bidFor_11 : decode cX1_bidFor 11 = .ok (.ireturn, 1) := by decide +kernel
theorem dX1_bidFor_12 : decode cX1_bidFor 12 = .ok (.iload_n 2, 1) := by decide +kernel
theorem dX1_bidFor_13 : decode cX1_bidFor 13 = .ok (.iconst 2, 1) := by decide +kernel
theorem dX1_bidFor_14 : decode cX1_bidFor 14 = .ok (.if_icmp .ne 14, 3) := by decide +kernel
theorem dX1_bidFor_17 : decode cX1_bidFor 17 = .ok (.aload_n 0, 1) := by decide +kernel
theorem dX1_bidFor_18 : decode cX1_bidFor 18 = .ok (.getfield 15, 3) := by decide +kernel
theorem dX1_bidFor_21 : decode cX1_bidFor 21 = .ok (.iload_n 1, 1) := by decide +kernel
theorem dX1_bidFor_22 : decode cX1_bidFor 22 = .ok (.iaload, 1) := by decide +kernel
theorem dX1_bidFor_23 : decode cX1_bidFor 23 = .ok (.iconst 2, 1) := by decide +kernel
theorem dX1_bidFor_24 : decode cX1_bidFor 24 = .ok (.idiv, 1) := by decide +kernel
theorem dX1_bidFor_25 : decode cX1_bidFor 25 = .ok (.goto 9, 3) := by decide +kernel
theorem dX1_bidFor_28 : decode cX1_bidFor 28 = .ok (.aload_n 0, 1) := by decide +kernel
theorem dX1_bidFor_29 : decode cX1_bidFor 29 = .ok (.getfield 15, 3) := by decide +kernel
theorem dX1_bidFor_32 : decode cX1_bidFor 32 = .ok (.iload_n 1, 1) := by decide +kernel
theorem dX1_bidFor_33 : decode cX1_bidFor 33 = .ok (.iaload, 1) := by decide +kernel
theorem dX1_bidFor_34 : decode cX1_bidFor 34 = .ok (.ireturn, 1) := by decide +kernel
theorem dX1_bidBySheet_0 : decode cX1_bidBySheet 0 = .ok (.iconst 0, 1) := by decide +kernel
theorem dX1_bidBySheet_1 : decode cX1_bidBySheet 1 = .ok (.istore 5, 2) := by decide +kernel
theorem dX1_bidBySheet_3 : decode cX1_bidBySheet 3 = .ok (.iconst 0, 1) := by decide +kernel
theorem dX1_bidBySheet_4 : decode cX1_bidBySheet 4 = .ok (.istore 6, 2) := by decide +kernel
theorem dX1_bidBySheet_6 : decode cX1_bidBySheet 6 = .ok (.iload 6, 2) := by decide +kernel
theorem dX1_bidBySheet_8 : decode cX1_bidBySheet 8 = .ok (.aload_n 0, 1) := by decide +kernel
theorem dX1_bidBySheet_9 : decode cX1_bidBySheet 9 = .ok (.getfield 21, 3) := by decide +kernel
theorem dX1_bidBySheet_12 : decode cX1_bidBySheet 12 = .ok (.if_icmp .ge 57, 3) := by decide +kernel
theorem dX1_bidBySheet_15 : decode cX1_bidBySheet 15 = .ok (.iload 6, 2) := by decide +kernel
theorem dX1_bidBySheet_17 : decode cX1_bidBySheet 17 = .ok (.bipush 8, 2) := by decide +kernel
theorem dX1_bidBySheet_19 : decode cX1_bidBySheet 19 = .ok (.if_icmp .ge 50, 3) := by decide +kernel
theorem dX1_bidBySheet_22 : decode cX1_bidBySheet 22 = .ok (.aload_n 0, 1) := by decide +kernel
theorem dX1_bidBySheet_23 : decode cX1_bidBySheet 23 = .ok (.getfield 15, 3) := by decide +kernel
theorem dX1_bidBySheet_26 : decode cX1_bidBySheet 26 = .ok (.iload 6, 2) := by decide +kernel
theorem dX1_bidBySheet_28 : decode cX1_bidBySheet 28 = .ok (.iload 6, 2) := by decide +kernel
theorem dX1_bidBySheet_30 : decode cX1_bidBySheet 30 = .ok (.iload_n 2, 1) := by decide +kernel
theorem dX1_bidBySheet_31 : decode cX1_bidBySheet 31 = .ok (.if_icmp .ge 18, 3) := by decide +kernel
theorem dX1_bidBySheet_34 : decode cX1_bidBySheet 34 = .ok (.aload_n 0, 1) := by decide +kernel
theorem dX1_bidBySheet_35 : decode cX1_bidBySheet 35 = .ok (.iload_n 1, 1) := by decide +kernel
theorem dX1_bidBySheet_36 : decode cX1_bidBySheet 36 = .ok (.iload_n 3, 1) := by decide +kernel
theorem dX1_bidBySheet_37 : decode cX1_bidBySheet 37 = .ok (.iload 6, 2) := by decide +kernel
theorem dX1_bidBySheet_39 : decode cX1_bidBySheet 39 = .ok (.iload 4, 2) := by decide +kernel
theorem dX1_bidBySheet_41 : decode cX1_bidBySheet 41 = .ok (.imul, 1) := by decide +kernel
theorem dX1_bidBySheet_42 : decode cX1_bidBySheet 42 = .ok (.iadd, 1) := by decide +kernel
theorem dX1_bidBySheet_43 : decode cX1_bidBySheet 43 = .ok (.invokevirtual 29, 3) := by decide +kernel
theorem dX1_bidBySheet_46 : decode cX1_bidBySheet 46 = .ok (.goto 4, 3) := by decide +kernel
theorem dX1_bidBySheet_49 : decode cX1_bidBySheet 49 = .ok (.iconst 0, 1) := by decide +kernel
theorem dX1_bidBySheet_50 : decode cX1_bidBySheet 50 = .ok (.iastore, 1) := by decide +kernel
theorem dX1_bidBySheet_51 : decode cX1_bidBySheet 51 = .ok (.iload 5, 2) := by decide +kernel
theorem dX1_bidBySheet_53 : decode cX1_bidBySheet 53 = .ok (.aload_n 0, 1) := by decide +kernel
theorem dX1_bidBySheet_54 : decode cX1_bidBySheet 54 = .ok (.getfield 15, 3) := by decide +kernel
theorem dX1_bidBySheet_57 : decode cX1_bidBySheet 57 = .ok (.iload 6, 2) := by decide +kernel
theorem dX1_bidBySheet_59 : decode cX1_bidBySheet 59 = .ok (.iaload, 1) := by decide +kernel
theorem dX1_bidBySheet_60 : decode cX1_bidBySheet 60 = .ok (.iadd, 1) := by decide +kernel
theorem dX1_bidBySheet_61 : decode cX1_bidBySheet 61 = .ok (.istore 5, 2) := by decide +kernel
theorem dX1_bidBySheet_63 : decode cX1_bidBySheet 63 = .ok (.iinc 6 1, 3) := by decide +kernel
theorem dX1_bidBySheet_66 : decode cX1_bidBySheet 66 = .ok (.goto (-60), 3) := by decide +kernel
theorem dX1_bidBySheet_69 : decode cX1_bidBySheet 69 = .ok (.iload 5, 2) := by decide +kernel
theorem dX1_bidBySheet_71 : decode cX1_bidBySheet 71 = .ok (.ireturn, 1) := by decide +kernel
theorem dX1_entry_0 : decode cX1_entry 0 = .ok (.iload_n 2, 1) := by decide +kernel
theorem dX1_entry_1 : decode cX1_entry 1 = .ok (.istore_n 3, 1) := by decide +kernel
theorem dX1_entry_2 : decode cX1_entry 2 = .ok (.iload_n 1, 1) := by decide +kernel
theorem dX1_entry_3 : decode cX1_entry 3 = .ok (.ifCond .ne 9, 3) := by decide +kernel
theorem dX1_entry_6 : decode cX1_entry 6 = .ok (.iload_n 2, 1) := by decide +kernel
theorem dX1_entry_7 : decode cX1_entry 7 = .ok (.i2b, 1) := by decide +kernel
theorem dX1_entry_8 : decode cX1_entry 8 = .ok (.istore_n 3, 1) := by decide +kernel
theorem dX1_entry_9 : decode cX1_entry 9 = .ok (.goto 11, 3) := by decide +kernel
theorem dX1_entry_12 : decode cX1_entry 12 = .ok (.iload_n 1, 1) := by decide +kernel
theorem dX1_entry_13 : decode cX1_entry 13 = .ok (.iconst 1, 1) := by decide +kernel
theorem dX1_entry_14 : decode cX1_entry 14 = .ok (.if_icmp .ne 6, 3) := by decide +kernel
theorem dX1_entry_17 : decode cX1_entry 17 = .ok (.iload_n 2, 1) := by decide +kernel
theorem dX1_entry_18 : decode cX1_entry 18 = .ok (.i2s, 1) := by decide +kernel
theorem dX1_entry_19 : decode cX1_entry 19 = .ok (.istore_n 3, 1) := by decide +kernel
theorem dX1_entry_20 : decode cX1_entry 20 = .ok (.iconst 0, 1) := by decide +kernel
theorem dX1_entry_21 : decode cX1_entry 21 = .ok (.bipush 99, 2) := by decide +kernel
theorem dX1_entry_23 : decode cX1_entry 23 = .ok (.iload_n 3, 1) := by decide +kernel
theorem dX1_entry_24 : decode cX1_entry 24 = .ok (.invokestatic 32, 3) := by decide +kernel
theorem dX1_entry_27 : decode cX1_entry 27 = .ok (.invokestatic 37, 3) := by decide +kernel
theorem dX1_entry_30 : decode cX1_entry 30 = .ok (.ireturn, 1) := by decide +kernel
theorem dX1_read_0 : decode cX1_read 0 = .ok (.aload_n 0, 1) := by decide +kernel
theorem dX1_read_1 : decode cX1_read 1 = .ok (.aload_n 0, 1) := by decide +kernel
theorem dX1_read_2 : decode cX1_read 2 = .ok (.getfield 21, 3) := by decide +kernel
theorem dX1_read_5 : decode cX1_read 5 = .ok (.putfield 40, 3) := by decide +kernel
theorem dX1_read_8 : decode cX1_read 8 = .ok (.aload_n 1, 1) := by decide +kernel
theorem dX1_read_9 : decode cX1_read 9 = .ok (.bipush 76, 2) := by decide +kernel
theorem dX1_read_11 : decode cX1_read 11 = .ok (.invokevirtual 43, 3) := by decide +kernel
theorem dX1_read_14 : decode cX1_read 14 = .ok (.iconst 1, 1) := by decide +kernel
theorem dX1_read_15 : decode cX1_read 15 = .ok (.istore 4, 2) := by decide +kernel
theorem dX1_read_17 : decode cX1_read 17 = .ok (.iload 4, 2) := by decide +kernel
theorem dX1_read_19 : decode cX1_read 19 = .ok (.bipush 76, 2) := by decide +kernel
theorem dX1_read_21 : decode cX1_read 21 = .ok (.if_icmp .gt 54, 3) := by decide +kernel
theorem dX1_read_24 : decode cX1_read 24 = .ok (.aload_n 0, 1) := by decide +kernel
theorem dX1_read_25 : decode cX1_read 25 = .ok (.aload_n 1, 1) := by decide +kernel
theorem dX1_read_26 : decode cX1_read 26 = .ok (.aload_n 2, 1) := by decide +kernel
theorem dX1_read_27 : decode cX1_read 27 = .ok (.aload_n 3, 1) := by decide +kernel
theorem dX1_read_28 : decode cX1_read 28 = .ok (.invokevirtual 49, 3) := by decide +kernel
theorem dX1_read_31 : decode cX1_read 31 = .ok (.ifCond .ne 8, 3) := by decide +kernel
theorem dX1_read_34 : decode cX1_read 34 = .ok (.aload_n 1, 1) := by decide +kernel
theorem dX1_read_35 : decode cX1_read 35 = .ok (.invokevirtual 53, 3) := by decide +kernel
theorem dX1_read_38 : decode cX1_read 38 = .ok (.ireturn, 1) := by decide +kernel
theorem dX1_read_39 : decode cX1_read 39 = .ok (.aload_n 1, 1) := by decide +kernel
theorem dX1_read_40 : decode cX1_read 40 = .ok (.bipush 59, 2) := by decide +kernel
theorem dX1_read_42 : decode cX1_read 42 = .ok (.invokevirtual 57, 3) := by decide +kernel
theorem dX1_read_45 : decode cX1_read 45 = .ok (.ifCond .ne 24, 3) := by decide +kernel
theorem dX1_read_48 : decode cX1_read 48 = .ok (.aload_n 1, 1) := by decide +kernel
theorem dX1_read_49 : decode cX1_read 49 = .ok (.invokevirtual 61, 3) := by decide +kernel
theorem dX1_read_52 : decode cX1_read 52 = .ok (.ifCond .eq 12, 3) := by decide +kernel
theorem dX1_read_55 : decode cX1_read 55 = .ok (.aload_n 0, 1) := by decide +kernel
theorem dX1_read_56 : decode cX1_read 56 = .ok (.iload 4, 2) := by decide +kernel
theorem dX1_read_58 : decode cX1_read 58 = .ok (.invokevirtual 65, 3) := by decide +kernel
theorem dX1_read_61 : decode cX1_read 61 = .ok (.goto 7, 3) := by decide +kernel
theorem dX1_read_64 : decode cX1_read 64 = .ok (.aload_n 1, 1) := by decide +kernel
theorem dX1_read_65 : decode cX1_read 65 = .ok (.invokevirtual 53, 3) := by decide +kernel
theorem dX1_read_68 : decode cX1_read 68 = .ok (.ireturn, 1) := by decide +kernel
theorem dX1_read_69 : decode cX1_read 69 = .ok (.iinc 4 1, 3) := by decide +kernel
theorem dX1_read_72 : decode cX1_read 72 = .ok (.goto (-55), 3) := by decide +kernel
theorem dX1_read_75 : decode cX1_read 75 = .ok (.aload_n 1, 1) := by decide +kernel
theorem dX1_read_76 : decode cX1_read 76 = .ok (.invokevirtual 53, 3) := by decide +kernel
theorem dX1_read_79 : decode cX1_read 79 = .ok (.ireturn, 1) := by decide +kernel
theorem dX1_settle_0 : decode cX1_settle 0 = .ok (.aload_n 0, 1) := by decide +kernel
theorem dX1_settle_1 : decode cX1_settle 1 = .ok (.aload_n 0, 1) := by decide +kernel
theorem dX1_settle_2 : decode cX1_settle 2 = .ok (.getfield 40, 3) := by decide +kernel
theorem dX1_settle_5 : decode cX1_settle 5 = .ok (.putfield 21, 3) := by decide +kernel
theorem dX1_settle_8 : decode cX1_settle 8 = .ok (.iload_n 1, 1) := by decide +kernel
theorem dX1_settle_9 : decode cX1_settle 9 = .ok (.ireturn, 1) := by decide +kernel
theorem dX1_readLine_0 : decode cX1_readLine 0 = .ok (.aload_n 0, 1) := by decide +kernel
theorem dX1_readLine_1 : decode cX1_readLine 1 = .ok (.getfield 40, 3) := by decide +kernel
theorem dX1_readLine_4 : decode cX1_readLine 4 = .ok (.ifCond .lt 12, 3) := by decide +kernel
theorem dX1_readLine_7 : decode cX1_readLine 7 = .ok (.aload_n 0, 1) := by decide +kernel
theorem dX1_readLine_8 : decode cX1_readLine 8 = .ok (.getfield 40, 3) := by decide +kernel
theorem dX1_readLine_11 : decode cX1_readLine 11 = .ok (.bipush 8, 2) := by decide +kernel
theorem dX1_readLine_13 : decode cX1_readLine 13 = .ok (.if_icmp .lt 5, 3) := by decide +kernel
theorem dX1_readLine_16 : decode cX1_readLine 16 = .ok (.iconst 0, 1) := by decide +kernel
theorem dX1_readLine_17 : decode cX1_readLine 17 = .ok (.ireturn, 1) := by decide +kernel
theorem dX1_readLine_18 : decode cX1_readLine 18 = .ok (.aload_n 1, 1) := by decide +kernel
theorem dX1_readLine_19 : decode cX1_readLine 19 = .ok (.aload_n 2, 1) := by decide +kernel
theorem dX1_readLine_20 : decode cX1_readLine 20 = .ok (.getfield 69, 3) := by decide +kernel
theorem dX1_readLine_23 : decode cX1_readLine 23 = .ok (.iconst (-1), 1) := by decide +kernel
theorem dX1_readLine_24 : decode cX1_readLine 24 = .ok (.invokevirtual 74, 3) := by decide +kernel
theorem dX1_readLine_27 : decode cX1_readLine 27 = .ok (.istore 4, 2) := by decide +kernel
theorem dX1_readLine_29 : decode cX1_readLine 29 = .ok (.iload 4, 2) := by decide +kernel
theorem dX1_readLine_31 : decode cX1_readLine 31 = .ok (.ifCond .lt 12, 3) := by decide +kernel
theorem dX1_readLine_34 : decode cX1_readLine 34 = .ok (.aload_n 0, 1) := by decide +kernel
theorem dX1_readLine_35 : decode cX1_readLine 35 = .ok (.aload_n 1, 1) := by decide +kernel
theorem dX1_readLine_36 : decode cX1_readLine 36 = .ok (.aload_n 3, 1) := by decide +kernel
theorem dX1_readLine_37 : decode cX1_readLine 37 = .ok (.invokevirtual 77, 3) := by decide +kernel
theorem dX1_readLine_40 : decode cX1_readLine 40 = .ok (.ifCond .ne 5, 3) := by decide +kernel
theorem dX1_readLine_43 : decode cX1_readLine 43 = .ok (.iconst 0, 1) := by decide +kernel
theorem dX1_readLine_44 : decode cX1_readLine 44 = .ok (.ireturn, 1) := by decide +kernel
theorem dX1_readLine_45 : decode cX1_readLine 45 = .ok (.aload_n 1, 1) := by decide +kernel
theorem dX1_readLine_46 : decode cX1_readLine 46 = .ok (.bipush 36, 2) := by decide +kernel
theorem dX1_readLine_48 : decode cX1_readLine 48 = .ok (.invokevirtual 57, 3) := by decide +kernel
theorem dX1_readLine_51 : decode cX1_readLine 51 = .ok (.ifCond .eq 11, 3) := by decide +kernel
theorem dX1_readLine_54 : decode cX1_readLine 54 = .ok (.aload_n 1, 1) := by decide +kernel
theorem dX1_readLine_55 : decode cX1_readLine 55 = .ok (.iconst 2, 1) := by decide +kernel
theorem dX1_readLine_56 : decode cX1_readLine 56 = .ok (.invokevirtual 81, 3) := by decide +kernel
theorem dX1_readLine_59 : decode cX1_readLine 59 = .ok (.goto 4, 3) := by decide +kernel
theorem dX1_readLine_62 : decode cX1_readLine 62 = .ok (.iconst (-1), 1) := by decide +kernel
theorem dX1_readLine_63 : decode cX1_readLine 63 = .ok (.istore 5, 2) := by decide +kernel
theorem dX1_readLine_65 : decode cX1_readLine 65 = .ok (.iload 5, 2) := by decide +kernel
theorem dX1_readLine_67 : decode cX1_readLine 67 = .ok (.ifCond .lt 12, 3) := by decide +kernel
theorem dX1_readLine_70 : decode cX1_readLine 70 = .ok (.aload_n 1, 1) := by decide +kernel
theorem dX1_readLine_71 : decode cX1_readLine 71 = .ok (.bipush 42, 2) := by decide +kernel
theorem dX1_readLine_73 : decode cX1_readLine 73 = .ok (.invokevirtual 57, 3) := by decide +kernel
theorem dX1_readLine_76 : decode cX1_readLine 76 = .ok (.ifCond .ne 5, 3) := by decide +kernel
theorem dX1_readLine_79 : decode cX1_readLine 79 = .ok (.iconst 0, 1) := by decide +kernel
theorem dX1_readLine_80 : decode cX1_readLine 80 = .ok (.ireturn, 1) := by decide +kernel
theorem dX1_readLine_81 : decode cX1_readLine 81 = .ok (.aload_n 1, 1) := by decide +kernel
theorem dX1_readLine_82 : decode cX1_readLine 82 = .ok (.invokevirtual 84, 3) := by decide +kernel
theorem dX1_readLine_85 : decode cX1_readLine 85 = .ok (.bipush 48, 2) := by decide +kernel
theorem dX1_readLine_87 : decode cX1_readLine 87 = .ok (.if_icmp .ne 7, 3) := by decide +kernel
theorem dX1_readLine_90 : decode cX1_readLine 90 = .ok (.iconst (-1), 1) := by decide +kernel
theorem dX1_readLine_91 : decode cX1_readLine 91 = .ok (.goto 8, 3) := by decide +kernel
theorem dX1_readLine_94 : decode cX1_readLine 94 = .ok (.aload_n 1, 1) := by decide +kernel
theorem dX1_readLine_95 : decode cX1_readLine 95 = .ok (.iconst 1, 1) := by decide +kernel
theorem dX1_readLine_96 : decode cX1_readLine 96 = .ok (.invokevirtual 81, 3) := by decide +kernel
theorem dX1_readLine_99 : decode cX1_readLine 99 = .ok (.istore 6, 2) := by decide +kernel
theorem dX1_readLine_101 : decode cX1_readLine 101 = .ok (.iload 6, 2) := by decide +kernel
theorem dX1_readLine_103 : decode cX1_readLine 103 = .ok (.ifCond .ge 5, 3) := by decide +kernel
theorem dX1_readLine_106 : decode cX1_readLine 106 = .ok (.iconst 0, 1) := by decide +kernel
theorem dX1_readLine_107 : decode cX1_readLine 107 = .ok (.ireturn, 1) := by decide +kernel
theorem dX1_readLine_108 : decode cX1_readLine 108 = .ok (.aload_n 0, 1) := by decide +kernel
theorem dX1_readLine_109 : decode cX1_readLine 109 = .ok (.getfield 9, 3) := by decide +kernel
theorem dX1_readLine_112 : decode cX1_readLine 112 = .ok (.aload_n 0, 1) := by decide +kernel
theorem dX1_readLine_113 : decode cX1_readLine 113 = .ok (.getfield 40, 3) := by decide +kernel
theorem dX1_readLine_116 : decode cX1_readLine 116 = .ok (.iload 4, 2) := by decide +kernel
theorem dX1_readLine_118 : decode cX1_readLine 118 = .ok (.iastore, 1) := by decide +kernel
theorem dX1_readLine_119 : decode cX1_readLine 119 = .ok (.aload_n 0, 1) := by decide +kernel
theorem dX1_readLine_120 : decode cX1_readLine 120 = .ok (.getfield 15, 3) := by decide +kernel
theorem dX1_readLine_123 : decode cX1_readLine 123 = .ok (.aload_n 0, 1) := by decide +kernel
theorem dX1_readLine_124 : decode cX1_readLine 124 = .ok (.getfield 40, 3) := by decide +kernel
theorem dX1_readLine_127 : decode cX1_readLine 127 = .ok (.iload 5, 2) := by decide +kernel
theorem dX1_readLine_129 : decode cX1_readLine 129 = .ok (.iastore, 1) := by decide +kernel
theorem dX1_readLine_130 : decode cX1_readLine 130 = .ok (.aload_n 0, 1) := by decide +kernel
theorem dX1_readLine_131 : decode cX1_readLine 131 = .ok (.getfield 18, 3) := by decide +kernel
theorem dX1_readLine_134 : decode cX1_readLine 134 = .ok (.aload_n 0, 1) := by decide +kernel
theorem dX1_readLine_135 : decode cX1_readLine 135 = .ok (.getfield 40, 3) := by decide +kernel
theorem dX1_readLine_138 : decode cX1_readLine 138 = .ok (.iload 6, 2) := by decide +kernel
theorem dX1_readLine_140 : decode cX1_readLine 140 = .ok (.iastore, 1) := by decide +kernel
theorem dX1_readLine_141 : decode cX1_readLine 141 = .ok (.aload_n 0, 1) := by decide +kernel
theorem dX1_readLine_142 : decode cX1_readLine 142 = .ok (.dup, 1) := by decide +kernel
theorem dX1_readLine_143 : decode cX1_readLine 143 = .ok (.getfield 40, 3) := by decide +kernel
theorem dX1_readLine_146 : decode cX1_readLine 146 = .ok (.iconst 1, 1) := by decide +kernel
theorem dX1_readLine_147 : decode cX1_readLine 147 = .ok (.iadd, 1) := by decide +kernel
theorem dX1_readLine_148 : decode cX1_readLine 148 = .ok (.putfield 40, 3) := by decide +kernel
theorem dX1_readLine_151 : decode cX1_readLine 151 = .ok (.iconst 1, 1) := by decide +kernel
theorem dX1_readLine_152 : decode cX1_readLine 152 = .ok (.ireturn, 1) := by decide +kernel
theorem dX1_readSpan_0 : decode cX1_readSpan 0 = .ok (.aload_n 1, 1) := by decide +kernel
theorem dX1_readSpan_1 : decode cX1_readSpan 1 = .ok (.iconst 2, 1) := by decide +kernel
theorem dX1_readSpan_2 : decode cX1_readSpan 2 = .ok (.invokevirtual 81, 3) := by decide +kernel
theorem dX1_readSpan_5 : decode cX1_readSpan 5 = .ok (.istore_n 3, 1) := by decide +kernel
theorem dX1_readSpan_6 : decode cX1_readSpan 6 = .ok (.iload_n 3, 1) := by decide +kernel
theorem dX1_readSpan_7 : decode cX1_readSpan 7 = .ok (.ifCond .lt 12, 3) := by decide +kernel
theorem dX1_readSpan_10 : decode cX1_readSpan 10 = .ok (.aload_n 1, 1) := by decide +kernel
theorem dX1_readSpan_11 : decode cX1_readSpan 11 = .ok (.bipush 45, 2) := by decide +kernel
theorem dX1_readSpan_13 : decode cX1_readSpan 13 = .ok (.invokevirtual 57, 3) := by decide +kernel
theorem dX1_readSpan_16 : decode cX1_readSpan 16 = .ok (.ifCond .ne 5, 3) := by decide +kernel
theorem dX1_readSpan_19 : decode cX1_readSpan 19 = .ok (.iconst 0, 1) := by decide +kernel
theorem dX1_readSpan_20 : decode cX1_readSpan 20 = .ok (.ireturn, 1) := by decide +kernel
theorem dX1_readSpan_21 : decode cX1_readSpan 21 = .ok (.aload_n 1, 1) := by decide +kernel
theorem dX1_readSpan_22 : decode cX1_readSpan 22 = .ok (.iconst 2, 1) := by decide +kernel
theorem dX1_readSpan_23 : decode cX1_readSpan 23 = .ok (.invokevirtual 81, 3) := by decide +kernel
theorem dX1_readSpan_26 : decode cX1_readSpan 26 = .ok (.istore 4, 2) := by decide +kernel
theorem dX1_readSpan_28 : decode cX1_readSpan 28 = .ok (.iload 4, 2) := by decide +kernel
theorem dX1_readSpan_30 : decode cX1_readSpan 30 = .ok (.ifCond .ge 5, 3) := by decide +kernel
theorem dX1_readSpan_33 : decode cX1_readSpan 33 = .ok (.iconst 0, 1) := by decide +kernel
theorem dX1_readSpan_34 : decode cX1_readSpan 34 = .ok (.ireturn, 1) := by decide +kernel
theorem dX1_readSpan_35 : decode cX1_readSpan 35 = .ok (.iload 4, 2) := by decide +kernel
theorem dX1_readSpan_37 : decode cX1_readSpan 37 = .ok (.iload_n 3, 1) := by decide +kernel
theorem dX1_readSpan_38 : decode cX1_readSpan 38 = .ok (.if_icmp .ge 9, 3) := by decide +kernel
theorem dX1_readSpan_41 : decode cX1_readSpan 41 = .ok (.aload_n 1, 1) := by decide +kernel
theorem dX1_readSpan_42 : decode cX1_readSpan 42 = .ok (.invokevirtual 87, 3) := by decide +kernel
theorem dX1_readSpan_45 : decode cX1_readSpan 45 = .ok (.iconst 0, 1) := by decide +kernel
theorem dX1_readSpan_46 : decode cX1_readSpan 46 = .ok (.ireturn, 1) := by decide +kernel
theorem dX1_readSpan_47 : decode cX1_readSpan 47 = .ok (.aload_n 2, 1) := by decide +kernel
theorem dX1_readSpan_48 : decode cX1_readSpan 48 = .ok (.aload_n 0, 1) := by decide +kernel
theorem dX1_readSpan_49 : decode cX1_readSpan 49 = .ok (.getfield 40, 3) := by decide +kernel
theorem dX1_readSpan_52 : decode cX1_readSpan 52 = .ok (.iload_n 3, 1) := by decide +kernel
theorem dX1_readSpan_53 : decode cX1_readSpan 53 = .ok (.iload 4, 2) := by decide +kernel
theorem dX1_readSpan_55 : decode cX1_readSpan 55 = .ok (.invokevirtual 90, 3) := by decide +kernel
theorem dX1_readSpan_58 : decode cX1_readSpan 58 = .ok (.iconst 1, 1) := by decide +kernel
theorem dX1_readSpan_59 : decode cX1_readSpan 59 = .ok (.ireturn, 1) := by decide +kernel
theorem dX2_init_0 : decode cX2_init 0 = .ok (.aload_n 0, 1) := by decide +kernel
theorem dX2_init_1 : decode cX2_init 1 = .ok (.invokespecial 3, 3) := by decide +kernel
theorem dX2_init_4 : decode cX2_init 4 = .ok (.aload_n 0, 1) := by decide +kernel
theorem dX2_init_5 : decode cX2_init 5 = .ok (.bipush 40, 2) := by decide +kernel
theorem dX2_init_7 : decode cX2_init 7 = .ok (.newarray .int, 2) := by decide +kernel
theorem dX2_init_9 : decode cX2_init 9 = .ok (.putfield 11, 3) := by decide +kernel
theorem dX2_init_12 : decode cX2_init 12 = .ok (.aload_n 0, 1) := by decide +kernel
theorem dX2_init_13 : decode cX2_init 13 = .ok (.bipush 40, 2) := by decide +kernel
theorem dX2_init_15 : decode cX2_init 15 = .ok (.newarray .int, 2) := by decide +kernel
theorem dX2_init_17 : decode cX2_init 17 = .ok (.putfield 15, 3) := by decide +kernel
theorem dX2_init_20 : decode cX2_init 20 = .ok (.aload_n 0, 1) := by decide +kernel
theorem dX2_init_21 : decode cX2_init 21 = .ok (.bipush 40, 2) := by decide +kernel
theorem dX2_init_23 : decode cX2_init 23 = .ok (.newarray .int, 2) := by decide +kernel
theorem dX2_init_25 : decode cX2_init 25 = .ok (.putfield 18, 3) := by decide +kernel
theorem dX2_init_28 : decode cX2_init 28 = .ok (.aload_n 0, 1) := by decide +kernel
theorem dX2_init_29 : decode cX2_init 29 = .ok (.iconst 5, 1) := by decide +kernel
theorem dX2_init_30 : decode cX2_init 30 = .ok (.newarray .boolean, 2) := by decide +kernel
theorem dX2_init_32 : decode cX2_init 32 = .ok (.putfield 21, 3) := by decide +kernel
theorem dX2_init_35 : decode cX2_init 35 = .ok (.aload_n 0, 1) := by decide +kernel
theorem dX2_init_36 : decode cX2_init 36 = .ok (.bipush 40, 2) := by decide +kernel
theorem dX2_init_38 : decode cX2_init 38 = .ok (.newarray .int, 2) := by decide +kernel
theorem dX2_init_40 : decode cX2_init 40 = .ok (.putfield 25, 3) := by decide +kernel
theorem dX2_init_43 : decode cX2_init 43 = .ok (.aload_n 0, 1) := by decide +kernel
theorem dX2_init_44 : decode cX2_init 44 = .ok (.bipush 6, 2) := by decide +kernel
theorem dX2_init_46 : decode cX2_init 46 = .ok (.newarray .int, 2) := by decide +kernel
theorem dX2_init_48 : decode cX2_init 48 = .ok (.putfield 28, 3) := by decide +kernel
theorem dX2_init_51 : decode cX2_init 51 = .ok (.return_, 1) := by decide +kernel
theorem dX2_read_0 : decode cX2_read 0 = .ok (.aload_n 1, 1) := by decide +kernel
theorem dX2_read_1 : decode cX2_read 1 = .ok (.bipush 40, 2) := by decide +kernel
theorem dX2_read_3 : decode cX2_read 3 = .ok (.invokevirtual 31, 3) := by decide +kernel
theorem dX2_read_6 : decode cX2_read 6 = .ok (.aload_n 1, 1) := by decide +kernel
theorem dX2_read_7 : decode cX2_read 7 = .ok (.invokevirtual 37, 3) := by decide +kernel
theorem dX2_read_10 : decode cX2_read 10 = .ok (.ifCond .eq 10, 3) := by decide +kernel
theorem dX2_read_13 : decode cX2_read 13 = .ok (.aload_n 0, 1) := by decide +kernel
theorem dX2_read_14 : decode cX2_read 14 = .ok (.iconst 0, 1) := by decide +kernel
theorem dX2_read_15 : decode cX2_read 15 = .ok (.putfield 41, 3) := by decide +kernel
theorem dX2_read_18 : decode cX2_read 18 = .ok (.iconst 0, 1) := by decide +kernel
theorem dX2_read_19 : decode cX2_read 19 = .ok (.ireturn, 1) := by decide +kernel
theorem dX2_read_20 : decode cX2_read 20 = .ok (.aload_n 0, 1) := by decide +kernel
theorem dX2_read_21 : decode cX2_read 21 = .ok (.invokevirtual 45, 3) := by decide +kernel
theorem dX2_read_24 : decode cX2_read 24 = .ok (.iconst 0, 1) := by decide +kernel
theorem dX2_read_25 : decode cX2_read 25 = .ok (.istore_n 2, 1) := by decide +kernel
theorem dX2_read_26 : decode cX2_read 26 = .ok (.iload_n 2, 1) := by decide +kernel
theorem dX2_read_27 : decode cX2_read 27 = .ok (.bipush 40, 2) := by decide +kernel
theorem dX2_read_29 : decode cX2_read 29 = .ok (.if_icmp .gt 47, 3) := by decide +kernel
theorem dX2_read_32 : decode cX2_read 32 = .ok (.aload_n 1, 1) := by decide +kernel
theorem dX2_read_33 : decode cX2_read 33 = .ok (.invokevirtual 48, 3) := by decide +kernel
theorem dX2_read_36 : decode cX2_read 36 = .ok (.iconst (-1), 1) := by decide +kernel
theorem dX2_read_37 : decode cX2_read 37 = .ok (.if_icmp .eq 39, 3) := by decide +kernel
theorem dX2_read_40 : decode cX2_read 40 = .ok (.aload_n 0, 1) := by decide +kernel
theorem dX2_read_41 : decode cX2_read 41 = .ok (.getfield 52, 3) := by decide +kernel
theorem dX2_read_44 : decode cX2_read 44 = .ok (.ifCond .eq 11, 3) := by decide +kernel
theorem dX2_read_47 : decode cX2_read 47 = .ok (.aload_n 0, 1) := by decide +kernel
theorem dX2_read_48 : decode cX2_read 48 = .ok (.aload_n 1, 1) := by decide +kernel
theorem dX2_read_49 : decode cX2_read 49 = .ok (.invokevirtual 56, 3) := by decide +kernel
theorem dX2_read_52 : decode cX2_read 52 = .ok (.goto 8, 3) := by decide +kernel
theorem dX2_read_55 : decode cX2_read 55 = .ok (.aload_n 0, 1) := by decide +kernel
theorem dX2_read_56 : decode cX2_read 56 = .ok (.aload_n 1, 1) := by decide +kernel
theorem dX2_read_57 : decode cX2_read 57 = .ok (.invokevirtual 60, 3) := by decide +kernel
theorem dX2_read_60 : decode cX2_read 60 = .ok (.istore_n 3, 1) := by decide +kernel
theorem dX2_read_61 : decode cX2_read 61 = .ok (.iload_n 3, 1) := by decide +kernel
theorem dX2_read_62 : decode cX2_read 62 = .ok (.ifCond .ne 8, 3) := by decide +kernel
theorem dX2_read_65 : decode cX2_read 65 = .ok (.aload_n 1, 1) := by decide +kernel
theorem dX2_read_66 : decode cX2_read 66 = .ok (.invokevirtual 63, 3) := by decide +kernel
theorem dX2_read_69 : decode cX2_read 69 = .ok (.ireturn, 1) := by decide +kernel
theorem dX2_read_70 : decode cX2_read 70 = .ok (.iinc 2 1, 3) := by decide +kernel
theorem dX2_read_73 : decode cX2_read 73 = .ok (.goto (-47), 3) := by decide +kernel
theorem dX2_read_76 : decode cX2_read 76 = .ok (.aload_n 0, 1) := by decide +kernel
theorem dX2_read_77 : decode cX2_read 77 = .ok (.getfield 52, 3) := by decide +kernel
theorem dX2_read_80 : decode cX2_read 80 = .ok (.ifCond .ne 17, 3) := by decide +kernel
theorem dX2_read_83 : decode cX2_read 83 = .ok (.aload_n 0, 1) := by decide +kernel
theorem dX2_read_84 : decode cX2_read 84 = .ok (.getfield 66, 3) := by decide +kernel
theorem dX2_read_87 : decode cX2_read 87 = .ok (.ifCond .gt 10, 3) := by decide +kernel
theorem dX2_read_90 : decode cX2_read 90 = .ok (.aload_n 1, 1) := by decide +kernel
theorem dX2_read_91 : decode cX2_read 91 = .ok (.invokevirtual 37, 3) := by decide +kernel
theorem dX2_read_94 : decode cX2_read 94 = .ok (.ifCond .ne 8, 3) := by decide +kernel
theorem dX2_read_97 : decode cX2_read 97 = .ok (.aload_n 1, 1) := by decide +kernel
theorem dX2_read_98 : decode cX2_read 98 = .ok (.invokevirtual 63, 3) := by decide +kernel
theorem dX2_read_101 : decode cX2_read 101 = .ok (.ireturn, 1) := by decide +kernel
theorem dX2_read_102 : decode cX2_read 102 = .ok (.aload_n 0, 1) := by decide +kernel
theorem dX2_read_103 : decode cX2_read 103 = .ok (.iconst 0, 1) := by decide +kernel
theorem dX2_read_104 : decode cX2_read 104 = .ok (.invokevirtual 69, 3) := by decide +kernel
theorem dX2_read_107 : decode cX2_read 107 = .ok (.aload_n 0, 1) := by decide +kernel
theorem dX2_read_108 : decode cX2_read 108 = .ok (.aload_n 0, 1) := by decide +kernel
theorem dX2_read_109 : decode cX2_read 109 = .ok (.getfield 72, 3) := by decide +kernel
theorem dX2_read_112 : decode cX2_read 112 = .ok (.putfield 41, 3) := by decide +kernel
theorem dX2_read_115 : decode cX2_read 115 = .ok (.iconst 0, 1) := by decide +kernel
theorem dX2_read_116 : decode cX2_read 116 = .ok (.istore_n 2, 1) := by decide +kernel
theorem dX2_read_117 : decode cX2_read 117 = .ok (.iload_n 2, 1) := by decide +kernel
theorem dX2_read_118 : decode cX2_read 118 = .ok (.bipush 40, 2) := by decide +kernel
theorem dX2_read_120 : decode cX2_read 120 = .ok (.if_icmp .ge 21, 3) := by decide +kernel
theorem dX2_read_123 : decode cX2_read 123 = .ok (.aload_n 0, 1) := by decide +kernel
theorem dX2_read_124 : decode cX2_read 124 = .ok (.getfield 11, 3) := by decide +kernel
theorem dX2_read_127 : decode cX2_read 127 = .ok (.iload_n 2, 1) := by decide +kernel
theorem dX2_read_128 : decode cX2_read 128 = .ok (.aload_n 0, 1) := by decide +kernel
theorem dX2_read_129 : decode cX2_read 129 = .ok (.getfield 15, 3) := by decide +kernel
theorem dX2_read_132 : decode cX2_read 132 = .ok (.iload_n 2, 1) := by decide +kernel
theorem dX2_read_133 : decode cX2_read 133 = .ok (.iaload, 1) := by decide +kernel
theorem dX2_read_134 : decode cX2_read 134 = .ok (.iastore, 1) := by decide +kernel
theorem dX2_read_135 : decode cX2_read 135 = .ok (.iinc 2 1, 3) := by decide +kernel
theorem dX2_read_138 : decode cX2_read 138 = .ok (.goto (-21), 3) := by decide +kernel
theorem dX2_read_141 : decode cX2_read 141 = .ok (.iconst 0, 1) := by decide +kernel
theorem dX2_read_142 : decode cX2_read 142 = .ok (.ireturn, 1) := by decide +kernel
theorem dX2_beginDraft_0 : decode cX2_beginDraft 0 = .ok (.aload_n 0, 1) := by decide +kernel
theorem dX2_beginDraft_1 : decode cX2_beginDraft 1 = .ok (.iconst 0, 1) := by decide +kernel
theorem dX2_beginDraft_2 : decode cX2_beginDraft 2 = .ok (.putfield 72, 3) := by decide +kernel
theorem dX2_beginDraft_5 : decode cX2_beginDraft 5 = .ok (.aload_n 0, 1) := by decide +kernel
theorem dX2_beginDraft_6 : decode cX2_beginDraft 6 = .ok (.iconst 0, 1) := by decide +kernel
theorem dX2_beginDraft_7 : decode cX2_beginDraft 7 = .ok (.putfield 75, 3) := by decide +kernel
theorem dX2_beginDraft_10 : decode cX2_beginDraft 10 = .ok (.aload_n 0, 1) := by decide +kernel
theorem dX2_beginDraft_11 : decode cX2_beginDraft 11 = .ok (.iconst 0, 1) := by decide +kernel
theorem dX2_beginDraft_12 : decode cX2_beginDraft 12 = .ok (.putfield 66, 3) := by decide +kernel
theorem dX2_beginDraft_15 : decode cX2_beginDraft 15 = .ok (.aload_n 0, 1) := by decide +kernel
theorem dX2_beginDraft_16 : decode cX2_beginDraft 16 = .ok (.getfield 21, 3) := by decide +kernel
theorem dX2_beginDraft_19 : decode cX2_beginDraft 19 = .ok (.iconst 0, 1) := by decide +kernel
theorem dX2_beginDraft_20 : decode cX2_beginDraft 20 = .ok (.iconst 0, 1) := by decide +kernel
theorem dX2_beginDraft_21 : decode cX2_beginDraft 21 = .ok (.bastore, 1) := by decide +kernel
theorem dX2_beginDraft_22 : decode cX2_beginDraft 22 = .ok (.aload_n 0, 1) := by decide +kernel
theorem dX2_beginDraft_23 : decode cX2_beginDraft 23 = .ok (.iconst 1, 1) := by decide +kernel
theorem dX2_beginDraft_24 : decode cX2_beginDraft 24 = .ok (.putfield 52, 3) := by decide +kernel
theorem dX2_beginDraft_27 : decode cX2_beginDraft 27 = .ok (.return_, 1) := by decide +kernel
theorem dX2_takeThing_0 : decode cX2_takeThing 0 = .ok (.aload_n 1, 1) := by decide +kernel
theorem dX2_takeThing_1 : decode cX2_takeThing 1 = .ok (.bipush 45, 2) := by decide +kernel
theorem dX2_takeThing_3 : decode cX2_takeThing 3 = .ok (.invokevirtual 78, 3) := by decide +kernel
theorem dX2_takeThing_6 : decode cX2_takeThing 6 = .ok (.ifCond .eq 12, 3) := by decide +kernel
theorem dX2_takeThing_9 : decode cX2_takeThing 9 = .ok (.aload_n 0, 1) := by decide +kernel
theorem dX2_takeThing_10 : decode cX2_takeThing 10 = .ok (.sipush 256, 3) := by decide +kernel
theorem dX2_takeThing_13 : decode cX2_takeThing 13 = .ok (.invokevirtual 82, 3) := by decide +kernel
theorem dX2_takeThing_16 : decode cX2_takeThing 16 = .ok (.iconst 1, 1) := by decide +kernel
theorem dX2_takeThing_17 : decode cX2_takeThing 17 = .ok (.ireturn, 1) := by decide +kernel
theorem dX2_takeThing_18 : decode cX2_takeThing 18 = .ok (.aload_n 0, 1) := by decide +kernel
theorem dX2_takeThing_19 : decode cX2_takeThing 19 = .ok (.getfield 66, 3) := by decide +kernel
theorem dX2_takeThing_22 : decode cX2_takeThing 22 = .ok (.ifCond .lt 48, 3) := by decide +kernel
theorem dX2_takeThing_25 : decode cX2_takeThing 25 = .ok (.aload_n 0, 1) := by decide +kernel
theorem dX2_takeThing_26 : decode cX2_takeThing 26 = .ok (.getfield 66, 3) := by decide +kernel
theorem dX2_takeThing_29 : decode cX2_takeThing 29 = .ok (.iconst 4, 1) := by decide +kernel
theorem dX2_takeThing_30 : decode cX2_takeThing 30 = .ok (.if_icmp .ge 40, 3) := by decide +kernel
theorem dX2_takeThing_33 : decode cX2_takeThing 33 = .ok (.aload_n 1, 1) := by decide +kernel
theorem dX2_takeThing_34 : decode cX2_takeThing 34 = .ok (.bipush 40, 2) := by decide +kernel
theorem dX2_takeThing_36 : decode cX2_takeThing 36 = .ok (.invokevirtual 78, 3) := by decide +kernel
theorem dX2_takeThing_39 : decode cX2_takeThing 39 = .ok (.ifCond .eq 31, 3) := by decide +kernel
theorem dX2_takeThing_42 : decode cX2_takeThing 42 = .ok (.aload_n 0, 1) := by decide +kernel
theorem dX2_takeThing_43 : decode cX2_takeThing 43 = .ok (.bipush 40, 2) := by decide +kernel
theorem dX2_takeThing_45 : decode cX2_takeThing 45 = .ok (.invokevirtual 82, 3) := by decide +kernel
theorem dX2_takeThing_48 : decode cX2_takeThing 48 = .ok (.aload_n 0, 1) := by decide +kernel
theorem dX2_takeThing_49 : decode cX2_takeThing 49 = .ok (.dup, 1) := by decide +kernel
theorem dX2_takeThing_50 : decode cX2_takeThing 50 = .ok (.getfield 66, 3) := by decide +kernel
theorem dX2_takeThing_53 : decode cX2_takeThing 53 = .ok (.iconst 1, 1) := by decide +kernel
theorem dX2_takeThing_54 : decode cX2_takeThing 54 = .ok (.iadd, 1) := by decide +kernel
theorem dX2_takeThing_55 : decode cX2_takeThing 55 = .ok (.putfield 66, 3) := by decide +kernel
theorem dX2_takeThing_58 : decode cX2_takeThing 58 = .ok (.aload_n 0, 1) := by decide +kernel
theorem dX2_takeThing_59 : decode cX2_takeThing 59 = .ok (.getfield 21, 3) := by decide +kernel
theorem dX2_takeThing_62 : decode cX2_takeThing 62 = .ok (.aload_n 0, 1) := by decide +kernel
theorem dX2_takeThing_63 : decode cX2_takeThing 63 = .ok (.getfield 66, 3) := by decide +kernel
theorem dX2_takeThing_66 : decode cX2_takeThing 66 = .ok (.iconst 0, 1) := by decide +kernel
theorem dX2_takeThing_67 : decode cX2_takeThing 67 = .ok (.bastore, 1) := by decide +kernel
theorem dX2_takeThing_68 : decode cX2_takeThing 68 = .ok (.iconst 1, 1) := by decide +kernel
theorem dX2_takeThing_69 : decode cX2_takeThing 69 = .ok (.ireturn, 1) := by decide +kernel
theorem dX2_takeThing_70 : decode cX2_takeThing 70 = .ok (.aload_n 1, 1) := by decide +kernel
theorem dX2_takeThing_71 : decode cX2_takeThing 71 = .ok (.iconst 3, 1) := by decide +kernel
theorem dX2_takeThing_72 : decode cX2_takeThing 72 = .ok (.invokevirtual 85, 3) := by decide +kernel
theorem dX2_takeThing_75 : decode cX2_takeThing 75 = .ok (.istore_n 2, 1) := by decide +kernel
theorem dX2_takeThing_76 : decode cX2_takeThing 76 = .ok (.iload_n 2, 1) := by decide +kernel
theorem dX2_takeThing_77 : decode cX2_takeThing 77 = .ok (.ifCond .ge 35, 3) := by decide +kernel
theorem dX2_takeThing_80 : decode cX2_takeThing 80 = .ok (.aload_n 0, 1) := by decide +kernel
theorem dX2_takeThing_81 : decode cX2_takeThing 81 = .ok (.aload_n 1, 1) := by decide +kernel
theorem dX2_takeThing_82 : decode cX2_takeThing 82 = .ok (.invokevirtual 48, 3) := by decide +kernel
theorem dX2_takeThing_85 : decode cX2_takeThing 85 = .ok (.invokevirtual 89, 3) := by decide +kernel
theorem dX2_takeThing_88 : decode cX2_takeThing 88 = .ok (.istore_n 3, 1) := by decide +kernel
theorem dX2_takeThing_89 : decode cX2_takeThing 89 = .ok (.iload_n 3, 1) := by decide +kernel
theorem dX2_takeThing_90 : decode cX2_takeThing 90 = .ok (.ifCond .lt 14, 3) := by decide +kernel
theorem dX2_takeThing_93 : decode cX2_takeThing 93 = .ok (.aload_n 1, 1) := by decide +kernel
theorem dX2_takeThing_94 : decode cX2_takeThing 94 = .ok (.aload_n 1, 1) := by decide +kernel
theorem dX2_takeThing_95 : decode cX2_takeThing 95 = .ok (.invokevirtual 48, 3) := by decide +kernel
theorem dX2_takeThing_98 : decode cX2_takeThing 98 = .ok (.invokevirtual 78, 3) := by decide +kernel
theorem dX2_takeThing_101 : decode cX2_takeThing 101 = .ok (.ifCond .ne 5, 3) := by decide +kernel
theorem dX2_takeThing_104 : decode cX2_takeThing 104 = .ok (.iconst 0, 1) := by decide +kernel
theorem dX2_takeThing_105 : decode cX2_takeThing 105 = .ok (.ireturn, 1) := by decide +kernel
theorem dX2_takeThing_106 : decode cX2_takeThing 106 = .ok (.sipush 1000, 3) := by decide +kernel
theorem dX2_takeThing_109 : decode cX2_takeThing 109 = .ok (.iload_n 3, 1) := by decide +kernel
theorem dX2_takeThing_110 : decode cX2_takeThing 110 = .ok (.iadd, 1) := by decide +kernel
theorem dX2_takeThing_111 : decode cX2_takeThing 111 = .ok (.istore_n 2, 1) := by decide +kernel
theorem dX2_takeThing_112 : decode cX2_takeThing 112 = .ok (.aload_n 0, 1) := by decide +kernel
theorem dX2_takeThing_113 : decode cX2_takeThing 113 = .ok (.iload_n 2, 1) := by decide +kernel
theorem dX2_takeThing_114 : decode cX2_takeThing 114 = .ok (.invokevirtual 92, 3) := by decide +kernel
theorem dX2_takeThing_117 : decode cX2_takeThing 117 = .ok (.aload_n 0, 1) := by decide +kernel
theorem dX2_takeThing_118 : decode cX2_takeThing 118 = .ok (.iconst 0, 1) := by decide +kernel
theorem dX2_takeThing_119 : decode cX2_takeThing 119 = .ok (.putfield 52, 3) := by decide +kernel
theorem dX2_takeThing_122 : decode cX2_takeThing 122 = .ok (.iconst 1, 1) := by decide +kernel
theorem dX2_takeThing_123 : decode cX2_takeThing 123 = .ok (.ireturn, 1) := by decide +kernel
theorem dX2_letterAt_0 : decode cX2_letterAt 0 = .ok (.iconst 0, 1) := by decide +kernel
theorem dX2_letterAt_1 : decode cX2_letterAt 1 = .ok (.istore_n 2, 1) := by decide +kernel
theorem dX2_letterAt_2 : decode cX2_letterAt 2 = .ok (.iload_n 2, 1) := by decide +kernel
theorem dX2_letterAt_3 : decode cX2_letterAt 3 = .ok (.bipush 6, 2) := by decide +kernel
theorem dX2_letterAt_5 : decode cX2_letterAt 5 = .ok (.if_icmp .ge 21, 3) := by decide +kernel
theorem dX2_letterAt_8 : decode cX2_letterAt 8 = .ok (.ldc 95, 2) := by decide +kernel
theorem dX2_letterAt_10 : decode cX2_letterAt 10 = .ok (.iload_n 2, 1) := by decide +kernel
theorem dX2_letterAt_11 : decode cX2_letterAt 11 = .ok (.invokevirtual 97, 3) := by decide +kernel
theorem dX2_letterAt_14 : decode cX2_letterAt 14 = .ok (.iload_n 1, 1) := by decide +kernel
theorem dX2_letterAt_15 : decode cX2_letterAt 15 = .ok (.if_icmp .ne 5, 3) := by decide +kernel
theorem dX2_letterAt_18 : decode cX2_letterAt 18 = .ok (.iload_n 2, 1) := by decide +kernel
theorem dX2_letterAt_19 : decode cX2_letterAt 19 = .ok (.ireturn, 1) := by decide +kernel
theorem dX2_letterAt_20 : decode cX2_letterAt 20 = .ok (.iinc 2 1, 3) := by decide +kernel
theorem dX2_letterAt_23 : decode cX2_letterAt 23 = .ok (.goto (-21), 3) := by decide +kernel
theorem dX2_letterAt_26 : decode cX2_letterAt 26 = .ok (.iconst (-1), 1) := by decide +kernel
theorem dX2_letterAt_27 : decode cX2_letterAt 27 = .ok (.ireturn, 1) := by decide +kernel
theorem dX2_takeSign_0 : decode cX2_takeSign 0 = .ok (.aload_n 1, 1) := by decide +kernel
theorem dX2_takeSign_1 : decode cX2_takeSign 1 = .ok (.invokevirtual 48, 3) := by decide +kernel
theorem dX2_takeSign_4 : decode cX2_takeSign 4 = .ok (.istore_n 2, 1) := by decide +kernel
theorem dX2_takeSign_5 : decode cX2_takeSign 5 = .ok (.iload_n 2, 1) := by decide +kernel
theorem dX2_takeSign_6 : decode cX2_takeSign 6 = .ok (.bipush 41, 2) := by decide +kernel
theorem dX2_takeSign_8 : decode cX2_takeSign 8 = .ok (.if_icmp .ne 44, 3) := by decide +kernel
theorem dX2_takeSign_11 : decode cX2_takeSign 11 = .ok (.aload_n 0, 1) := by decide +kernel
theorem dX2_takeSign_12 : decode cX2_takeSign 12 = .ok (.getfield 66, 3) := by decide +kernel
theorem dX2_takeSign_15 : decode cX2_takeSign 15 = .ok (.ifCond .gt 5, 3) := by decide +kernel
theorem dX2_takeSign_18 : decode cX2_takeSign 18 = .ok (.iconst 0, 1) := by decide +kernel
theorem dX2_takeSign_19 : decode cX2_takeSign 19 = .ok (.ireturn, 1) := by decide +kernel
theorem dX2_takeSign_20 : decode cX2_takeSign 20 = .ok (.aload_n 0, 1) := by decide +kernel
theorem dX2_takeSign_21 : decode cX2_takeSign 21 = .ok (.iconst 0, 1) := by decide +kernel
theorem dX2_takeSign_22 : decode cX2_takeSign 22 = .ok (.invokevirtual 69, 3) := by decide +kernel
theorem dX2_takeSign_25 : decode cX2_takeSign 25 = .ok (.aload_n 0, 1) := by decide +kernel
theorem dX2_takeSign_26 : decode cX2_takeSign 26 = .ok (.dup, 1) := by decide +kernel
theorem dX2_takeSign_27 : decode cX2_takeSign 27 = .ok (.getfield 75, 3) := by decide +kernel
theorem dX2_takeSign_30 : decode cX2_takeSign 30 = .ok (.iconst 1, 1) := by decide +kernel
theorem dX2_takeSign_31 : decode cX2_takeSign 31 = .ok (.isub, 1) := by decide +kernel
theorem dX2_takeSign_32 : decode cX2_takeSign 32 = .ok (.putfield 75, 3) := by decide +kernel
theorem dX2_takeSign_35 : decode cX2_takeSign 35 = .ok (.aload_n 0, 1) := by decide +kernel
theorem dX2_takeSign_36 : decode cX2_takeSign 36 = .ok (.dup, 1) := by decide +kernel
theorem dX2_takeSign_37 : decode cX2_takeSign 37 = .ok (.getfield 66, 3) := by decide +kernel
theorem dX2_takeSign_40 : decode cX2_takeSign 40 = .ok (.iconst 1, 1) := by decide +kernel
theorem dX2_takeSign_41 : decode cX2_takeSign 41 = .ok (.isub, 1) := by decide +kernel
theorem dX2_takeSign_42 : decode cX2_takeSign 42 = .ok (.putfield 66, 3) := by decide +kernel
theorem dX2_takeSign_45 : decode cX2_takeSign 45 = .ok (.aload_n 1, 1) := by decide +kernel
theorem dX2_takeSign_46 : decode cX2_takeSign 46 = .ok (.bipush 41, 2) := by decide +kernel
theorem dX2_takeSign_48 : decode cX2_takeSign 48 = .ok (.invokevirtual 78, 3) := by decide +kernel
theorem dX2_takeSign_51 : decode cX2_takeSign 51 = .ok (.ireturn, 1) := by decide +kernel
theorem dX2_takeSign_52 : decode cX2_takeSign 52 = .ok (.iload_n 2, 1) := by decide +kernel
theorem dX2_takeSign_53 : decode cX2_takeSign 53 = .ok (.invokestatic 103, 3) := by decide +kernel
theorem dX2_takeSign_56 : decode cX2_takeSign 56 = .ok (.istore_n 3, 1) := by decide +kernel
theorem dX2_takeSign_57 : decode cX2_takeSign 57 = .ok (.iload_n 3, 1) := by decide +kernel
theorem dX2_takeSign_58 : decode cX2_takeSign 58 = .ok (.ifCond .eq 15, 3) := by decide +kernel
theorem dX2_takeSign_61 : decode cX2_takeSign 61 = .ok (.iload_n 3, 1) := by decide +kernel
theorem dX2_takeSign_62 : decode cX2_takeSign 62 = .ok (.iconst 1, 1) := by decide +kernel
theorem dX2_takeSign_63 : decode cX2_takeSign 63 = .ok (.if_icmp .ne 12, 3) := by decide +kernel
theorem dX2_takeSign_66 : decode cX2_takeSign 66 = .ok (.aload_n 0, 1) := by decide +kernel
theorem dX2_takeSign_67 : decode cX2_takeSign 67 = .ok (.invokevirtual 106, 3) := by decide +kernel
theorem dX2_takeSign_70 : decode cX2_takeSign 70 = .ok (.ifCond .eq 5, 3) := by decide +kernel
theorem dX2_takeSign_73 : decode cX2_takeSign 73 = .ok (.iconst 0, 1) := by decide +kernel
theorem dX2_takeSign_74 : decode cX2_takeSign 74 = .ok (.ireturn, 1) := by decide +kernel
theorem dX2_takeSign_75 : decode cX2_takeSign 75 = .ok (.aload_n 0, 1) := by decide +kernel
theorem dX2_takeSign_76 : decode cX2_takeSign 76 = .ok (.iload_n 3, 1) := by decide +kernel
theorem dX2_takeSign_77 : decode cX2_takeSign 77 = .ok (.invokevirtual 69, 3) := by decide +kernel
theorem dX2_takeSign_80 : decode cX2_takeSign 80 = .ok (.aload_n 0, 1) := by decide +kernel
theorem dX2_takeSign_81 : decode cX2_takeSign 81 = .ok (.iload_n 2, 1) := by decide +kernel
theorem dX2_takeSign_82 : decode cX2_takeSign 82 = .ok (.invokevirtual 82, 3) := by decide +kernel
theorem dX2_takeSign_85 : decode cX2_takeSign 85 = .ok (.aload_n 0, 1) := by decide +kernel
theorem dX2_takeSign_86 : decode cX2_takeSign 86 = .ok (.iconst 1, 1) := by decide +kernel
theorem dX2_takeSign_87 : decode cX2_takeSign 87 = .ok (.putfield 52, 3) := by decide +kernel
theorem dX2_takeSign_90 : decode cX2_takeSign 90 = .ok (.aload_n 1, 1) := by decide +kernel
theorem dX2_takeSign_91 : decode cX2_takeSign 91 = .ok (.iload_n 2, 1) := by decide +kernel
theorem dX2_takeSign_92 : decode cX2_takeSign 92 = .ok (.invokevirtual 78, 3) := by decide +kernel
theorem dX2_takeSign_95 : decode cX2_takeSign 95 = .ok (.ireturn, 1) := by decide +kernel
theorem dX2_hasCompared_0 : decode cX2_hasCompared 0 = .ok (.aload_n 0, 1) := by decide +kernel
theorem dX2_hasCompared_1 : decode cX2_hasCompared 1 = .ok (.getfield 66, 3) := by decide +kernel
theorem dX2_hasCompared_4 : decode cX2_hasCompared 4 = .ok (.ifCond .lt 23, 3) := by decide +kernel
theorem dX2_hasCompared_7 : decode cX2_hasCompared 7 = .ok (.aload_n 0, 1) := by decide +kernel
theorem dX2_hasCompared_8 : decode cX2_hasCompared 8 = .ok (.getfield 66, 3) := by decide +kernel
theorem dX2_hasCompared_11 : decode cX2_hasCompared 11 = .ok (.iconst 4, 1) := by decide +kernel
theorem dX2_hasCompared_12 : decode cX2_hasCompared 12 = .ok (.if_icmp .gt 15, 3) := by decide +kernel
theorem dX2_hasCompared_15 : decode cX2_hasCompared 15 = .ok (.aload_n 0, 1) := by decide +kernel
theorem dX2_hasCompared_16 : decode cX2_hasCompared 16 = .ok (.getfield 21, 3) := by decide +kernel
theorem dX2_hasCompared_19 : decode cX2_hasCompared 19 = .ok (.aload_n 0, 1) := by decide +kernel
theorem dX2_hasCompared_20 : decode cX2_hasCompared 20 = .ok (.getfield 66, 3) := by decide +kernel
theorem dX2_hasCompared_23 : decode cX2_hasCompared 23 = .ok (.baload, 1) := by decide +kernel
theorem dX2_hasCompared_24 : decode cX2_hasCompared 24 = .ok (.ifCond .eq 5, 3) := by decide +kernel
theorem dX2_hasCompared_27 : decode cX2_hasCompared 27 = .ok (.iconst 1, 1) := by decide +kernel
theorem dX2_hasCompared_28 : decode cX2_hasCompared 28 = .ok (.ireturn, 1) := by decide +kernel
theorem dX2_hasCompared_29 : decode cX2_hasCompared 29 = .ok (.aload_n 0, 1) := by decide +kernel
theorem dX2_hasCompared_30 : decode cX2_hasCompared 30 = .ok (.getfield 21, 3) := by decide +kernel
theorem dX2_hasCompared_33 : decode cX2_hasCompared 33 = .ok (.aload_n 0, 1) := by decide +kernel
theorem dX2_hasCompared_34 : decode cX2_hasCompared 34 = .ok (.getfield 66, 3) := by decide +kernel
theorem dX2_hasCompared_37 : decode cX2_hasCompared 37 = .ok (.iconst 1, 1) := by decide +kernel
theorem dX2_hasCompared_38 : decode cX2_hasCompared 38 = .ok (.bastore, 1) := by decide +kernel
theorem dX2_hasCompared_39 : decode cX2_hasCompared 39 = .ok (.iconst 0, 1) := by decide +kernel
theorem dX2_hasCompared_40 : decode cX2_hasCompared 40 = .ok (.ireturn, 1) := by decide +kernel
theorem dX2_rankOf_0 : decode cX2_rankOf 0 = .ok (.iload_n 0, 1) := by decide +kernel
theorem dX2_rankOf_1 : decode cX2_rankOf 1 = .ok (.lookupswitch 83 #[(42, 79), (43, 77), (45, 77), (47, 79), (60, 75), (61, 75), (62, 75), (256, 81)], 75) := by decide +kernel
theorem dX2_rankOf_76 : decode cX2_rankOf 76 = .ok (.iconst 1, 1) := by decide +kernel
theorem dX2_rankOf_77 : decode cX2_rankOf 77 = .ok (.ireturn, 1) := by decide +kernel
theorem dX2_rankOf_78 : decode cX2_rankOf 78 = .ok (.iconst 2, 1) := by decide +kernel
theorem dX2_rankOf_79 : decode cX2_rankOf 79 = .ok (.ireturn, 1) := by decide +kernel
theorem dX2_rankOf_80 : decode cX2_rankOf 80 = .ok (.iconst 3, 1) := by decide +kernel
theorem dX2_rankOf_81 : decode cX2_rankOf 81 = .ok (.ireturn, 1) := by decide +kernel
theorem dX2_rankOf_82 : decode cX2_rankOf 82 = .ok (.iconst 4, 1) := by decide +kernel
theorem dX2_rankOf_83 : decode cX2_rankOf 83 = .ok (.ireturn, 1) := by decide +kernel
theorem dX2_rankOf_84 : decode cX2_rankOf 84 = .ok (.iconst 0, 1) := by decide +kernel
theorem dX2_rankOf_85 : decode cX2_rankOf 85 = .ok (.ireturn, 1) := by decide +kernel
theorem dX2_hold_0 : decode cX2_hold 0 = .ok (.aload_n 0, 1) := by decide +kernel
theorem dX2_hold_1 : decode cX2_hold 1 = .ok (.getfield 75, 3) := by decide +kernel
theorem dX2_hold_4 : decode cX2_hold 4 = .ok (.ifCond .lt 32, 3) := by decide +kernel
theorem dX2_hold_7 : decode cX2_hold 7 = .ok (.aload_n 0, 1) := by decide +kernel
theorem dX2_hold_8 : decode cX2_hold 8 = .ok (.getfield 75, 3) := by decide +kernel
theorem dX2_hold_11 : decode cX2_hold 11 = .ok (.bipush 40, 2) := by decide +kernel
theorem dX2_hold_13 : decode cX2_hold 13 = .ok (.if_icmp .ge 23, 3) := by decide +kernel
theorem dX2_hold_16 : decode cX2_hold 16 = .ok (.aload_n 0, 1) := by decide +kernel
theorem dX2_hold_17 : decode cX2_hold 17 = .ok (.getfield 18, 3) := by decide +kernel
theorem dX2_hold_20 : decode cX2_hold 20 = .ok (.aload_n 0, 1) := by decide +kernel
theorem dX2_hold_21 : decode cX2_hold 21 = .ok (.getfield 75, 3) := by decide +kernel
theorem dX2_hold_24 : decode cX2_hold 24 = .ok (.iload_n 1, 1) := by decide +kernel
theorem dX2_hold_25 : decode cX2_hold 25 = .ok (.iastore, 1) := by decide +kernel
theorem dX2_hold_26 : decode cX2_hold 26 = .ok (.aload_n 0, 1) := by decide +kernel
theorem dX2_hold_27 : decode cX2_hold 27 = .ok (.dup, 1) := by decide +kernel
theorem dX2_hold_28 : decode cX2_hold 28 = .ok (.getfield 75, 3) := by decide +kernel
theorem dX2_hold_31 : decode cX2_hold 31 = .ok (.iconst 1, 1) := by decide +kernel
theorem dX2_hold_32 : decode cX2_hold 32 = .ok (.iadd, 1) := by decide +kernel
theorem dX2_hold_33 : decode cX2_hold 33 = .ok (.putfield 75, 3) := by decide +kernel
theorem dX2_hold_36 : decode cX2_hold 36 = .ok (.return_, 1) := by decide +kernel
theorem dX2_release_0 : decode cX2_release 0 = .ok (.iconst 0, 1) := by decide +kernel
theorem dX2_release_1 : decode cX2_release 1 = .ok (.istore_n 2, 1) := by decide +kernel
theorem dX2_release_2 : decode cX2_release 2 = .ok (.iload_n 2, 1) := by decide +kernel
theorem dX2_release_3 : decode cX2_release 3 = .ok (.bipush 40, 2) := by decide +kernel
theorem dX2_release_5 : decode cX2_release 5 = .ok (.if_icmp .ge 68, 3) := by decide +kernel
theorem dX2_release_8 : decode cX2_release 8 = .ok (.aload_n 0, 1) := by decide +kernel
theorem dX2_release_9 : decode cX2_release 9 = .ok (.getfield 75, 3) := by decide +kernel
theorem dX2_release_12 : decode cX2_release 12 = .ok (.ifCond .le 61, 3) := by decide +kernel
theorem dX2_release_15 : decode cX2_release 15 = .ok (.aload_n 0, 1) := by decide +kernel
theorem dX2_release_16 : decode cX2_release 16 = .ok (.getfield 75, 3) := by decide +kernel
theorem dX2_release_19 : decode cX2_release 19 = .ok (.bipush 40, 2) := by decide +kernel
theorem dX2_release_21 : decode cX2_release 21 = .ok (.if_icmp .gt 52, 3) := by decide +kernel
theorem dX2_release_24 : decode cX2_release 24 = .ok (.aload_n 0, 1) := by decide +kernel
theorem dX2_release_25 : decode cX2_release 25 = .ok (.getfield 18, 3) := by decide +kernel
theorem dX2_release_28 : decode cX2_release 28 = .ok (.aload_n 0, 1) := by decide +kernel
theorem dX2_release_29 : decode cX2_release 29 = .ok (.getfield 75, 3) := by decide +kernel
theorem dX2_release_32 : decode cX2_release 32 = .ok (.iconst 1, 1) := by decide +kernel
theorem dX2_release_33 : decode cX2_release 33 = .ok (.isub, 1) := by decide +kernel
theorem dX2_release_34 : decode cX2_release 34 = .ok (.iaload, 1) := by decide +kernel
theorem dX2_release_35 : decode cX2_release 35 = .ok (.istore_n 3, 1) := by decide +kernel
theorem dX2_release_36 : decode cX2_release 36 = .ok (.iload_n 3, 1) := by decide +kernel
theorem dX2_release_37 : decode cX2_release 37 = .ok (.bipush 40, 2) := by decide +kernel
theorem dX2_release_39 : decode cX2_release 39 = .ok (.if_icmp .eq 11, 3) := by decide +kernel
theorem dX2_release_42 : decode cX2_release 42 = .ok (.iload_n 3, 1) := by decide +kernel
theorem dX2_release_43 : decode cX2_release 43 = .ok (.invokestatic 103, 3) := by decide +kernel
theorem dX2_release_46 : decode cX2_release 46 = .ok (.iload_n 1, 1) := by decide +kernel
theorem dX2_release_47 : decode cX2_release 47 = .ok (.if_icmp .ge 4, 3) := by decide +kernel
theorem dX2_release_50 : decode cX2_release 50 = .ok (.return_, 1) := by decide +kernel
theorem dX2_release_51 : decode cX2_release 51 = .ok (.aload_n 0, 1) := by decide +kernel
theorem dX2_release_52 : decode cX2_release 52 = .ok (.iload_n 3, 1) := by decide +kernel
theorem dX2_release_53 : decode cX2_release 53 = .ok (.ineg, 1) := by decide +kernel
theorem dX2_release_54 : decode cX2_release 54 = .ok (.invokevirtual 92, 3) := by decide +kernel
theorem dX2_release_57 : decode cX2_release 57 = .ok (.aload_n 0, 1) := by decide +kernel
theorem dX2_release_58 : decode cX2_release 58 = .ok (.dup, 1) := by decide +kernel
theorem dX2_release_59 : decode cX2_release 59 = .ok (.getfield 75, 3) := by decide +kernel
theorem dX2_release_62 : decode cX2_release 62 = .ok (.iconst 1, 1) := by decide +kernel
theorem dX2_release_63 : decode cX2_release 63 = .ok (.isub, 1) := by decide +kernel
theorem dX2_release_64 : decode cX2_release 64 = .ok (.putfield 75, 3) := by decide +kernel
theorem dX2_release_67 : decode cX2_release 67 = .ok (.iinc 2 1, 3) := by decide +kernel
theorem dX2_release_70 : decode cX2_release 70 = .ok (.goto (-68), 3) := by decide +kernel
theorem dX2_release_73 : decode cX2_release 73 = .ok (.return_, 1) := by decide +kernel
theorem dX2_write_0 : decode cX2_write 0 = .ok (.aload_n 0, 1) := by decide +kernel
theorem dX2_write_1 : decode cX2_write 1 = .ok (.getfield 72, 3) := by decide +kernel
theorem dX2_write_4 : decode cX2_write 4 = .ok (.ifCond .lt 32, 3) := by decide +kernel
theorem dX2_write_7 : decode cX2_write 7 = .ok (.aload_n 0, 1) := by decide +kernel
theorem dX2_write_8 : decode cX2_write 8 = .ok (.getfield 72, 3) := by decide +kernel
theorem dX2_write_11 : decode cX2_write 11 = .ok (.bipush 40, 2) := by decide +kernel
theorem dX2_write_13 : decode cX2_write 13 = .ok (.if_icmp .ge 23, 3) := by decide +kernel
theorem dX2_write_16 : decode cX2_write 16 = .ok (.aload_n 0, 1) := by decide +kernel
theorem dX2_write_17 : decode cX2_write 17 = .ok (.getfield 15, 3) := by decide +kernel
theorem dX2_write_20 : decode cX2_write 20 = .ok (.aload_n 0, 1) := by decide +kernel
theorem dX2_write_21 : decode cX2_write 21 = .ok (.getfield 72, 3) := by decide +kernel
theorem dX2_write_24 : decode cX2_write 24 = .ok (.iload_n 1, 1) := by decide +kernel
theorem dX2_write_25 : decode cX2_write 25 = .ok (.iastore, 1) := by decide +kernel
theorem dX2_write_26 : decode cX2_write 26 = .ok (.aload_n 0, 1) := by decide +kernel
theorem dX2_write_27 : decode cX2_write 27 = .ok (.dup, 1) := by decide +kernel
theorem dX2_write_28 : decode cX2_write 28 = .ok (.getfield 72, 3) := by decide +kernel
theorem dX2_write_31 : decode cX2_write 31 = .ok (.iconst 1, 1) := by decide +kernel
theorem dX2_write_32 : decode cX2_write 32 = .ok (.iadd, 1) := by decide +kernel
theorem dX2_write_33 : decode cX2_write 33 = .ok (.putfield 72, 3) := by decide +kernel
theorem dX2_write_36 : decode cX2_write 36 = .ok (.return_, 1) := by decide +kernel
theorem dX2_tellWalk_0 : decode cX2_tellWalk 0 = .ok (.aload_n 0, 1) := by decide +kernel
theorem dX2_tellWalk_1 : decode cX2_tellWalk 1 = .ok (.getfield 28, 3) := by decide +kernel
theorem dX2_tellWalk_4 : decode cX2_tellWalk 4 = .ok (.iconst 0, 1) := by decide +kernel
theorem dX2_tellWalk_5 : decode cX2_tellWalk 5 = .ok (.iload_n 1, 1) := by decide +kernel
theorem dX2_tellWalk_6 : decode cX2_tellWalk 6 = .ok (.iastore, 1) := by decide +kernel
theorem dX2_tellWalk_7 : decode cX2_tellWalk 7 = .ok (.aload_n 0, 1) := by decide +kernel
theorem dX2_tellWalk_8 : decode cX2_tellWalk 8 = .ok (.getfield 28, 3) := by decide +kernel
theorem dX2_tellWalk_11 : decode cX2_tellWalk 11 = .ok (.iconst 1, 1) := by decide +kernel
theorem dX2_tellWalk_12 : decode cX2_tellWalk 12 = .ok (.iload_n 2, 1) := by decide +kernel
theorem dX2_tellWalk_13 : decode cX2_tellWalk 13 = .ok (.iastore, 1) := by decide +kernel
theorem dX2_tellWalk_14 : decode cX2_tellWalk 14 = .ok (.aload_n 0, 1) := by decide +kernel
theorem dX2_tellWalk_15 : decode cX2_tellWalk 15 = .ok (.getfield 28, 3) := by decide +kernel
theorem dX2_tellWalk_18 : decode cX2_tellWalk 18 = .ok (.iconst 2, 1) := by decide +kernel
theorem dX2_tellWalk_19 : decode cX2_tellWalk 19 = .ok (.iload_n 3, 1) := by decide +kernel
theorem dX2_tellWalk_20 : decode cX2_tellWalk 20 = .ok (.iastore, 1) := by decide +kernel
theorem dX2_tellWalk_21 : decode cX2_tellWalk 21 = .ok (.return_, 1) := by decide +kernel
theorem dX2_tellBefore_0 : decode cX2_tellBefore 0 = .ok (.aload_n 0, 1) := by decide +kernel
theorem dX2_tellBefore_1 : decode cX2_tellBefore 1 = .ok (.getfield 28, 3) := by decide +kernel
theorem dX2_tellBefore_4 : decode cX2_tellBefore 4 = .ok (.iconst 3, 1) := by decide +kernel
theorem dX2_tellBefore_5 : decode cX2_tellBefore 5 = .ok (.iload_n 1, 1) := by decide +kernel
theorem dX2_tellBefore_6 : decode cX2_tellBefore 6 = .ok (.iastore, 1) := by decide +kernel
theorem dX2_tellBefore_7 : decode cX2_tellBefore 7 = .ok (.aload_n 0, 1) := by decide +kernel
theorem dX2_tellBefore_8 : decode cX2_tellBefore 8 = .ok (.getfield 28, 3) := by decide +kernel
theorem dX2_tellBefore_11 : decode cX2_tellBefore 11 = .ok (.iconst 4, 1) := by decide +kernel
theorem dX2_tellBefore_12 : decode cX2_tellBefore 12 = .ok (.iload_n 2, 1) := by decide +kernel
theorem dX2_tellBefore_13 : decode cX2_tellBefore 13 = .ok (.iastore, 1) := by decide +kernel
theorem dX2_tellBefore_14 : decode cX2_tellBefore 14 = .ok (.aload_n 0, 1) := by decide +kernel
theorem dX2_tellBefore_15 : decode cX2_tellBefore 15 = .ok (.getfield 28, 3) := by decide +kernel
theorem dX2_tellBefore_18 : decode cX2_tellBefore 18 = .ok (.iconst 5, 1) := by decide +kernel
theorem dX2_tellBefore_19 : decode cX2_tellBefore 19 = .ok (.iload_n 3, 1) := by decide +kernel
theorem dX2_tellBefore_20 : decode cX2_tellBefore 20 = .ok (.iastore, 1) := by decide +kernel
theorem dX2_tellBefore_21 : decode cX2_tellBefore 21 = .ok (.return_, 1) := by decide +kernel
theorem dX2_work_0 : decode cX2_work 0 = .ok (.aload_n 0, 1) := by decide +kernel
theorem dX2_work_1 : decode cX2_work 1 = .ok (.getfield 41, 3) := by decide +kernel
theorem dX2_work_4 : decode cX2_work 4 = .ok (.ifCond .ne 28, 3) := by decide +kernel
theorem dX2_work_7 : decode cX2_work 7 = .ok (.aload_n 0, 1) := by decide +kernel
theorem dX2_work_8 : decode cX2_work 8 = .ok (.getfield 28, 3) := by decide +kernel
theorem dX2_work_11 : decode cX2_work 11 = .ok (.iconst 0, 1) := by decide +kernel
theorem dX2_work_12 : decode cX2_work 12 = .ok (.iaload, 1) := by decide +kernel
theorem dX2_work_13 : decode cX2_work 13 = .ok (.iconst 2, 1) := by decide +kernel
theorem dX2_work_14 : decode cX2_work 14 = .ok (.idiv, 1) := by decide +kernel
theorem dX2_work_15 : decode cX2_work 15 = .ok (.aload_n 0, 1) := by decide +kernel
theorem dX2_work_16 : decode cX2_work 16 = .ok (.getfield 28, 3) := by decide +kernel
theorem dX2_work_19 : decode cX2_work 19 = .ok (.iconst 1, 1) := by decide +kernel
theorem dX2_work_20 : decode cX2_work 20 = .ok (.iaload, 1) := by decide +kernel
theorem dX2_work_21 : decode cX2_work 21 = .ok (.iadd, 1) := by decide +kernel
theorem dX2_work_22 : decode cX2_work 22 = .ok (.aload_n 0, 1) := by decide +kernel
theorem dX2_work_23 : decode cX2_work 23 = .ok (.getfield 28, 3) := by decide +kernel
theorem dX2_work_26 : decode cX2_work 26 = .ok (.iconst 2, 1) := by decide +kernel
theorem dX2_work_27 : decode cX2_work 27 = .ok (.iaload, 1) := by decide +kernel
theorem dX2_work_28 : decode cX2_work 28 = .ok (.iconst 3, 1) := by decide +kernel
theorem dX2_work_29 : decode cX2_work 29 = .ok (.idiv, 1) := by decide +kernel
theorem dX2_work_30 : decode cX2_work 30 = .ok (.isub, 1) := by decide +kernel
theorem dX2_work_31 : decode cX2_work 31 = .ok (.ireturn, 1) := by decide +kernel
theorem dX2_work_32 : decode cX2_work 32 = .ok (.iconst 0, 1) := by decide +kernel
theorem dX2_work_33 : decode cX2_work 33 = .ok (.istore_n 1, 1) := by decide +kernel
theorem dX2_work_34 : decode cX2_work 34 = .ok (.iconst 0, 1) := by decide +kernel
theorem dX2_work_35 : decode cX2_work 35 = .ok (.istore_n 2, 1) := by decide +kernel
theorem dX2_work_36 : decode cX2_work 36 = .ok (.iload_n 2, 1) := by decide +kernel
theorem dX2_work_37 : decode cX2_work 37 = .ok (.aload_n 0, 1) := by decide +kernel
theorem dX2_work_38 : decode cX2_work 38 = .ok (.getfield 41, 3) := by decide +kernel
theorem dX2_work_41 : decode cX2_work 41 = .ok (.if_icmp .ge 115, 3) := by decide +kernel
theorem dX2_work_44 : decode cX2_work 44 = .ok (.iload_n 2, 1) := by decide +kernel
theorem dX2_work_45 : decode cX2_work 45 = .ok (.bipush 40, 2) := by decide +kernel
theorem dX2_work_47 : decode cX2_work 47 = .ok (.if_icmp .ge 109, 3) := by decide +kernel
theorem dX2_work_50 : decode cX2_work 50 = .ok (.aload_n 0, 1) := by decide +kernel
theorem dX2_work_51 : decode cX2_work 51 = .ok (.getfield 11, 3) := by decide +kernel
theorem dX2_work_54 : decode cX2_work 54 = .ok (.iload_n 2, 1) := by decide +kernel
theorem dX2_work_55 : decode cX2_work 55 = .ok (.iaload, 1) := by decide +kernel
theorem dX2_work_56 : decode cX2_work 56 = .ok (.istore_n 3, 1) := by decide +kernel
theorem dX2_work_57 : decode cX2_work 57 = .ok (.iload_n 3, 1) := by decide +kernel
theorem dX2_work_58 : decode cX2_work 58 = .ok (.ifCond .lt 26, 3) := by decide +kernel
theorem dX2_work_61 : decode cX2_work 61 = .ok (.iload_n 1, 1) := by decide +kernel
theorem dX2_work_62 : decode cX2_work 62 = .ok (.bipush 40, 2) := by decide +kernel
theorem dX2_work_64 : decode cX2_work 64 = .ok (.if_icmp .ge 20, 3) := by decide +kernel
theorem dX2_work_67 : decode cX2_work 67 = .ok (.aload_n 0, 1) := by decide +kernel
theorem dX2_work_68 : decode cX2_work 68 = .ok (.getfield 25, 3) := by decide +kernel
theorem dX2_work_71 : decode cX2_work 71 = .ok (.iload_n 1, 1) := by decide +kernel
theorem dX2_work_72 : decode cX2_work 72 = .ok (.aload_n 0, 1) := by decide +kernel
theorem dX2_work_73 : decode cX2_work 73 = .ok (.iload_n 3, 1) := by decide +kernel
theorem dX2_work_74 : decode cX2_work 74 = .ok (.invokevirtual 109, 3) := by decide +kernel
theorem dX2_work_77 : decode cX2_work 77 = .ok (.iastore, 1) := by decide +kernel
theorem dX2_work_78 : decode cX2_work 78 = .ok (.iinc 1 1, 3) := by decide +kernel
theorem dX2_work_81 : decode cX2_work 81 = .ok (.goto 69, 3) := by decide +kernel
theorem dX2_work_84 : decode cX2_work 84 = .ok (.iload_n 3, 1) := by decide +kernel
theorem dX2_work_85 : decode cX2_work 85 = .ok (.sipush (-256), 3) := by decide +kernel
theorem dX2_work_88 : decode cX2_work 88 = .ok (.if_icmp .ne 27, 3) := by decide +kernel
theorem dX2_work_91 : decode cX2_work 91 = .ok (.iload_n 1, 1) := by decide +kernel
theorem dX2_work_92 : decode cX2_work 92 = .ok (.ifCond .le 23, 3) := by decide +kernel
theorem dX2_work_95 : decode cX2_work 95 = .ok (.aload_n 0, 1) := by decide +kernel
theorem dX2_work_96 : decode cX2_work 96 = .ok (.getfield 25, 3) := by decide +kernel
theorem dX2_work_99 : decode cX2_work 99 = .ok (.iload_n 1, 1) := by decide +kernel
theorem dX2_work_100 : decode cX2_work 100 = .ok (.iconst 1, 1) := by decide +kernel
theorem dX2_work_101 : decode cX2_work 101 = .ok (.isub, 1) := by decide +kernel
theorem dX2_work_102 : decode cX2_work 102 = .ok (.aload_n 0, 1) := by decide +kernel
theorem dX2_work_103 : decode cX2_work 103 = .ok (.getfield 25, 3) := by decide +kernel
theorem dX2_work_106 : decode cX2_work 106 = .ok (.iload_n 1, 1) := by decide +kernel
theorem dX2_work_107 : decode cX2_work 107 = .ok (.iconst 1, 1) := by decide +kernel
theorem dX2_work_108 : decode cX2_work 108 = .ok (.isub, 1) := by decide +kernel
theorem dX2_work_109 : decode cX2_work 109 = .ok (.iaload, 1) := by decide +kernel
theorem dX2_work_110 : decode cX2_work 110 = .ok (.ineg, 1) := by decide +kernel
theorem dX2_work_111 : decode cX2_work 111 = .ok (.iastore, 1) := by decide +kernel
theorem dX2_work_112 : decode cX2_work 112 = .ok (.goto 38, 3) := by decide +kernel
theorem dX2_work_115 : decode cX2_work 115 = .ok (.iload_n 1, 1) := by decide +kernel
theorem dX2_work_116 : decode cX2_work 116 = .ok (.iconst 1, 1) := by decide +kernel
theorem dX2_work_117 : decode cX2_work 117 = .ok (.if_icmp .le 33, 3) := by decide +kernel
theorem dX2_work_120 : decode cX2_work 120 = .ok (.iinc 1 (-1), 3) := by decide +kernel
theorem dX2_work_123 : decode cX2_work 123 = .ok (.aload_n 0, 1) := by decide +kernel
theorem dX2_work_124 : decode cX2_work 124 = .ok (.getfield 25, 3) := by decide +kernel
theorem dX2_work_127 : decode cX2_work 127 = .ok (.iload_n 1, 1) := by decide +kernel
theorem dX2_work_128 : decode cX2_work 128 = .ok (.iconst 1, 1) := by decide +kernel
theorem dX2_work_129 : decode cX2_work 129 = .ok (.isub, 1) := by decide +kernel
theorem dX2_work_130 : decode cX2_work 130 = .ok (.iload_n 3, 1) := by decide +kernel
theorem dX2_work_131 : decode cX2_work 131 = .ok (.ineg, 1) := by decide +kernel
theorem dX2_work_132 : decode cX2_work 132 = .ok (.aload_n 0, 1) := by decide +kernel
theorem dX2_work_133 : decode cX2_work 133 = .ok (.getfield 25, 3) := by decide +kernel
theorem dX2_work_136 : decode cX2_work 136 = .ok (.iload_n 1, 1) := by decide +kernel
theorem dX2_work_137 : decode cX2_work 137 = .ok (.iconst 1, 1) := by decide +kernel
theorem dX2_work_138 : decode cX2_work 138 = .ok (.isub, 1) := by decide +kernel
theorem dX2_work_139 : decode cX2_work 139 = .ok (.iaload, 1) := by decide +kernel
theorem dX2_work_140 : decode cX2_work 140 = .ok (.aload_n 0, 1) := by decide +kernel
theorem dX2_work_141 : decode cX2_work 141 = .ok (.getfield 25, 3) := by decide +kernel
theorem dX2_work_144 : decode cX2_work 144 = .ok (.iload_n 1, 1) := by decide +kernel
theorem dX2_work_145 : decode cX2_work 145 = .ok (.iaload, 1) := by decide +kernel
theorem dX2_work_146 : decode cX2_work 146 = .ok (.invokestatic 112, 3) := by decide +kernel
theorem dX2_work_149 : decode cX2_work 149 = .ok (.iastore, 1) := by decide +kernel
theorem dX2_work_150 : decode cX2_work 150 = .ok (.iinc 2 1, 3) := by decide +kernel
theorem dX2_work_153 : decode cX2_work 153 = .ok (.goto (-117), 3) := by decide +kernel
theorem dX2_work_156 : decode cX2_work 156 = .ok (.aload_n 0, 1) := by decide +kernel
theorem dX2_work_157 : decode cX2_work 157 = .ok (.getfield 25, 3) := by decide +kernel
theorem dX2_work_160 : decode cX2_work 160 = .ok (.iconst 0, 1) := by decide +kernel
theorem dX2_work_161 : decode cX2_work 161 = .ok (.iaload, 1) := by decide +kernel
theorem dX2_work_162 : decode cX2_work 162 = .ok (.ireturn, 1) := by decide +kernel
theorem dX2_valueOf_0 : decode cX2_valueOf 0 = .ok (.iload_n 1, 1) := by decide +kernel
theorem dX2_valueOf_1 : decode cX2_valueOf 1 = .ok (.sipush 1000, 3) := by decide +kernel
theorem dX2_valueOf_4 : decode cX2_valueOf 4 = .ok (.isub, 1) := by decide +kernel
theorem dX2_valueOf_5 : decode cX2_valueOf 5 = .ok (.istore_n 2, 1) := by decide +kernel
theorem dX2_valueOf_6 : decode cX2_valueOf 6 = .ok (.iload_n 2, 1) := by decide +kernel
theorem dX2_valueOf_7 : decode cX2_valueOf 7 = .ok (.ifCond .lt 18, 3) := by decide +kernel
theorem dX2_valueOf_10 : decode cX2_valueOf 10 = .ok (.iload_n 2, 1) := by decide +kernel
theorem dX2_valueOf_11 : decode cX2_valueOf 11 = .ok (.bipush 6, 2) := by decide +kernel
theorem dX2_valueOf_13 : decode cX2_valueOf 13 = .ok (.if_icmp .ge 12, 3) := by decide +kernel
theorem dX2_valueOf_16 : decode cX2_valueOf 16 = .ok (.aload_n 0, 1) := by decide +kernel
theorem dX2_valueOf_17 : decode cX2_valueOf 17 = .ok (.getfield 28, 3) := by decide +kernel
theorem dX2_valueOf_20 : decode cX2_valueOf 20 = .ok (.iload_n 2, 1) := by decide +kernel
theorem dX2_valueOf_21 : decode cX2_valueOf 21 = .ok (.iaload, 1) := by decide +kernel
theorem dX2_valueOf_22 : decode cX2_valueOf 22 = .ok (.goto 4, 3) := by decide +kernel
theorem dX2_valueOf_25 : decode cX2_valueOf 25 = .ok (.iload_n 1, 1) := by decide +kernel
theorem dX2_valueOf_26 : decode cX2_valueOf 26 = .ok (.ireturn, 1) := by decide +kernel
theorem dX2_join_0 : decode cX2_join 0 = .ok (.iload_n 0, 1) := by decide +kernel
theorem dX2_join_1 : decode cX2_join 1 = .ok (.lookupswitch 104 #[(42, 100), (43, 92), (45, 96), (60, 59), (61, 81), (62, 70)], 59) := by decide +kernel
theorem dX2_join_60 : decode cX2_join 60 = .ok (.iload_n 1, 1) := by decide +kernel
theorem dX2_join_61 : decode cX2_join 61 = .ok (.iload_n 2, 1) := by decide +kernel
theorem dX2_join_62 : decode cX2_join 62 = .ok (.if_icmp .ge 7, 3) := by decide +kernel
theorem dX2_join_65 : decode cX2_join 65 = .ok (.iconst 1, 1) := by decide +kernel
theorem dX2_join_66 : decode cX2_join 66 = .ok (.goto 4, 3) := by decide +kernel
theorem dX2_join_69 : decode cX2_join 69 = .ok (.iconst 0, 1) := by decide +kernel
theorem dX2_join_70 : decode cX2_join 70 = .ok (.ireturn, 1) := by decide +kernel
theorem dX2_join_71 : decode cX2_join 71 = .ok (.iload_n 1, 1) := by decide +kernel
theorem dX2_join_72 : decode cX2_join 72 = .ok (.iload_n 2, 1) := by decide +kernel
theorem dX2_join_73 : decode cX2_join 73 = .ok (.if_icmp .le 7, 3) := by decide +kernel
theorem dX2_join_76 : decode cX2_join 76 = .ok (.iconst 1, 1) := by decide +kernel
theorem dX2_join_77 : decode cX2_join 77 = .ok (.goto 4, 3) := by decide +kernel
theorem dX2_join_80 : decode cX2_join 80 = .ok (.iconst 0, 1) := by decide +kernel
theorem dX2_join_81 : decode cX2_join 81 = .ok (.ireturn, 1) := by decide +kernel
theorem dX2_join_82 : decode cX2_join 82 = .ok (.iload_n 1, 1) := by decide +kernel
theorem dX2_join_83 : decode cX2_join 83 = .ok (.iload_n 2, 1) := by decide +kernel
theorem dX2_join_84 : decode cX2_join 84 = .ok (.if_icmp .ne 7, 3) := by decide +kernel
theorem dX2_join_87 : decode cX2_join 87 = .ok (.iconst 1, 1) := by decide +kernel
theorem dX2_join_88 : decode cX2_join 88 = .ok (.goto 4, 3) := by decide +kernel
theorem dX2_join_91 : decode cX2_join 91 = .ok (.iconst 0, 1) := by decide +kernel
theorem dX2_join_92 : decode cX2_join 92 = .ok (.ireturn, 1) := by decide +kernel
theorem dX2_join_93 : decode cX2_join 93 = .ok (.iload_n 1, 1) := by decide +kernel
theorem dX2_join_94 : decode cX2_join 94 = .ok (.iload_n 2, 1) := by decide +kernel
theorem dX2_join_95 : decode cX2_join 95 = .ok (.iadd, 1) := by decide +kernel
theorem dX2_join_96 : decode cX2_join 96 = .ok (.ireturn, 1) := by decide +kernel
theorem dX2_join_97 : decode cX2_join 97 = .ok (.iload_n 1, 1) := by decide +kernel
theorem dX2_join_98 : decode cX2_join 98 = .ok (.iload_n 2, 1) := by decide +kernel
theorem dX2_join_99 : decode cX2_join 99 = .ok (.isub, 1) := by decide +kernel
theorem dX2_join_100 : decode cX2_join 100 = .ok (.ireturn, 1) := by decide +kernel
theorem dX2_join_101 : decode cX2_join 101 = .ok (.iload_n 1, 1) := by decide +kernel
theorem dX2_join_102 : decode cX2_join 102 = .ok (.iload_n 2, 1) := by decide +kernel
theorem dX2_join_103 : decode cX2_join 103 = .ok (.imul, 1) := by decide +kernel
theorem dX2_join_104 : decode cX2_join 104 = .ok (.ireturn, 1) := by decide +kernel
theorem dX2_join_105 : decode cX2_join 105 = .ok (.iload_n 2, 1) := by decide +kernel
theorem dX2_join_106 : decode cX2_join 106 = .ok (.ifCond .ne 7, 3) := by decide +kernel
theorem dX2_join_109 : decode cX2_join 109 = .ok (.iconst 0, 1) := by decide +kernel
theorem dX2_join_110 : decode cX2_join 110 = .ok (.goto 6, 3) := by decide +kernel
theorem dX2_join_113 : decode cX2_join 113 = .ok (.iload_n 1, 1) := by decide +kernel
theorem dX2_join_114 : decode cX2_join 114 = .ok (.iload_n 2, 1) := by decide +kernel
theorem dX2_join_115 : decode cX2_join 115 = .ok (.idiv, 1) := by decide +kernel
theorem dX2_join_116 : decode cX2_join 116 = .ok (.ireturn, 1) := by decide +kernel
theorem dX3_init_0 : decode cX3_init 0 = .ok (.aload_n 0, 1) := by decide +kernel
theorem dX3_init_1 : decode cX3_init 1 = .ok (.invokespecial 3, 3) := by decide +kernel
theorem dX3_init_4 : decode cX3_init 4 = .ok (.aload_n 0, 1) := by decide +kernel
theorem dX3_init_5 : decode cX3_init 5 = .ok (.bipush 9, 2) := by decide +kernel
theorem dX3_init_7 : decode cX3_init 7 = .ok (.newarray .int, 2) := by decide +kernel
theorem dX3_init_9 : decode cX3_init 9 = .ok (.putfield 9, 3) := by decide +kernel
theorem dX3_init_12 : decode cX3_init 12 = .ok (.aload_n 0, 1) := by decide +kernel
theorem dX3_init_13 : decode cX3_init 13 = .ok (.bipush 24, 2) := by decide +kernel
theorem dX3_init_15 : decode cX3_init 15 = .ok (.newarray .int, 2) := by decide +kernel
theorem dX3_init_17 : decode cX3_init 17 = .ok (.putfield 15, 3) := by decide +kernel
theorem dX3_init_20 : decode cX3_init 20 = .ok (.aload_n 0, 1) := by decide +kernel
theorem dX3_init_21 : decode cX3_init 21 = .ok (.bipush 24, 2) := by decide +kernel
theorem dX3_init_23 : decode cX3_init 23 = .ok (.newarray .int, 2) := by decide +kernel
theorem dX3_init_25 : decode cX3_init 25 = .ok (.putfield 18, 3) := by decide +kernel
theorem dX3_init_28 : decode cX3_init 28 = .ok (.aload_n 0, 1) := by decide +kernel
theorem dX3_init_29 : decode cX3_init 29 = .ok (.bipush 24, 2) := by decide +kernel
theorem dX3_init_31 : decode cX3_init 31 = .ok (.newarray .int, 2) := by decide +kernel
theorem dX3_init_33 : decode cX3_init 33 = .ok (.putfield 21, 3) := by decide +kernel
theorem dX3_init_36 : decode cX3_init 36 = .ok (.aload_n 0, 1) := by decide +kernel
theorem dX3_init_37 : decode cX3_init 37 = .ok (.bipush 9, 2) := by decide +kernel
theorem dX3_init_39 : decode cX3_init 39 = .ok (.bipush 9, 2) := by decide +kernel
theorem dX3_init_41 : decode cX3_init 41 = .ok (.multianewarray 24 2, 4) := by decide +kernel
theorem dX3_init_45 : decode cX3_init 45 = .ok (.putfield 26, 3) := by decide +kernel
theorem dX3_init_48 : decode cX3_init 48 = .ok (.aload_n 0, 1) := by decide +kernel
theorem dX3_init_49 : decode cX3_init 49 = .ok (.bipush 9, 2) := by decide +kernel
theorem dX3_init_51 : decode cX3_init 51 = .ok (.bipush 9, 2) := by decide +kernel
theorem dX3_init_53 : decode cX3_init 53 = .ok (.multianewarray 24 2, 4) := by decide +kernel
theorem dX3_init_57 : decode cX3_init 57 = .ok (.putfield 29, 3) := by decide +kernel
theorem dX3_init_60 : decode cX3_init 60 = .ok (.return_, 1) := by decide +kernel
theorem dX3_has_0 : decode cX3_has 0 = .ok (.iload_n 1, 1) := by decide +kernel
theorem dX3_has_1 : decode cX3_has 1 = .ok (.ifCond .lt 21, 3) := by decide +kernel
theorem dX3_has_4 : decode cX3_has 4 = .ok (.iload_n 1, 1) := by decide +kernel
theorem dX3_has_5 : decode cX3_has 5 = .ok (.aload_n 0, 1) := by decide +kernel
theorem dX3_has_6 : decode cX3_has 6 = .ok (.getfield 32, 3) := by decide +kernel
theorem dX3_has_9 : decode cX3_has 9 = .ok (.if_icmp .ge 13, 3) := by decide +kernel
theorem dX3_has_12 : decode cX3_has 12 = .ok (.iload_n 1, 1) := by decide +kernel
theorem dX3_has_13 : decode cX3_has 13 = .ok (.bipush 9, 2) := by decide +kernel
theorem dX3_has_15 : decode cX3_has 15 = .ok (.if_icmp .ge 7, 3) := by decide +kernel
theorem dX3_has_18 : decode cX3_has 18 = .ok (.iconst 1, 1) := by decide +kernel
theorem dX3_has_19 : decode cX3_has 19 = .ok (.goto 4, 3) := by decide +kernel
theorem dX3_has_22 : decode cX3_has 22 = .ok (.iconst 0, 1) := by decide +kernel
theorem dX3_has_23 : decode cX3_has 23 = .ok (.ireturn, 1) := by decide +kernel
theorem dX3_foodOf_0 : decode cX3_foodOf 0 = .ok (.aload_n 0, 1) := by decide +kernel
theorem dX3_foodOf_1 : decode cX3_foodOf 1 = .ok (.iload_n 1, 1) := by decide +kernel
theorem dX3_foodOf_2 : decode cX3_foodOf 2 = .ok (.invokevirtual 36, 3) := by decide +kernel
theorem dX3_foodOf_5 : decode cX3_foodOf 5 = .ok (.ifCond .eq 12, 3) := by decide +kernel
theorem dX3_foodOf_8 : decode cX3_foodOf 8 = .ok (.aload_n 0, 1) := by decide +kernel
theorem dX3_foodOf_9 : decode cX3_foodOf 9 = .ok (.getfield 9, 3) := by decide +kernel
theorem dX3_foodOf_12 : decode cX3_foodOf 12 = .ok (.iload_n 1, 1) := by decide +kernel
theorem dX3_foodOf_13 : decode cX3_foodOf 13 = .ok (.iaload, 1) := by decide +kernel
theorem dX3_foodOf_14 : decode cX3_foodOf 14 = .ok (.goto 4, 3) := by decide +kernel
theorem dX3_foodOf_17 : decode cX3_foodOf 17 = .ok (.iconst 0, 1) := by decide +kernel
theorem dX3_foodOf_18 : decode cX3_foodOf 18 = .ok (.ireturn, 1) := by decide +kernel
theorem dX3_read_0 : decode cX3_read 0 = .ok (.aload_n 0, 1) := by decide +kernel
theorem dX3_read_1 : decode cX3_read 1 = .ok (.aload_n 0, 1) := by decide +kernel
theorem dX3_read_2 : decode cX3_read 2 = .ok (.getfield 32, 3) := by decide +kernel
theorem dX3_read_5 : decode cX3_read 5 = .ok (.putfield 40, 3) := by decide +kernel
theorem dX3_read_8 : decode cX3_read 8 = .ok (.aload_n 0, 1) := by decide +kernel
theorem dX3_read_9 : decode cX3_read 9 = .ok (.aload_n 0, 1) := by decide +kernel
theorem dX3_read_10 : decode cX3_read 10 = .ok (.getfield 43, 3) := by decide +kernel
theorem dX3_read_13 : decode cX3_read 13 = .ok (.putfield 46, 3) := by decide +kernel
theorem dX3_read_16 : decode cX3_read 16 = .ok (.aload_n 1, 1) := by decide +kernel
theorem dX3_read_17 : decode cX3_read 17 = .ok (.bipush 76, 2) := by decide +kernel
theorem dX3_read_19 : decode cX3_read 19 = .ok (.invokevirtual 49, 3) := by decide +kernel
theorem dX3_read_22 : decode cX3_read 22 = .ok (.iconst 1, 1) := by decide +kernel
theorem dX3_read_23 : decode cX3_read 23 = .ok (.istore_n 2, 1) := by decide +kernel
theorem dX3_read_24 : decode cX3_read 24 = .ok (.iload_n 2, 1) := by decide +kernel
theorem dX3_read_25 : decode cX3_read 25 = .ok (.bipush 76, 2) := by decide +kernel
theorem dX3_read_27 : decode cX3_read 27 = .ok (.if_icmp .gt 51, 3) := by decide +kernel
theorem dX3_read_30 : decode cX3_read 30 = .ok (.aload_n 0, 1) := by decide +kernel
theorem dX3_read_31 : decode cX3_read 31 = .ok (.aload_n 1, 1) := by decide +kernel
theorem dX3_read_32 : decode cX3_read 32 = .ok (.invokevirtual 55, 3) := by decide +kernel
theorem dX3_read_35 : decode cX3_read 35 = .ok (.ifCond .ne 8, 3) := by decide +kernel
theorem dX3_read_38 : decode cX3_read 38 = .ok (.aload_n 1, 1) := by decide +kernel
theorem dX3_read_39 : decode cX3_read 39 = .ok (.invokevirtual 59, 3) := by decide +kernel
theorem dX3_read_42 : decode cX3_read 42 = .ok (.ireturn, 1) := by decide +kernel
theorem dX3_read_43 : decode cX3_read 43 = .ok (.aload_n 1, 1) := by decide +kernel
theorem dX3_read_44 : decode cX3_read 44 = .ok (.bipush 59, 2) := by decide +kernel
theorem dX3_read_46 : decode cX3_read 46 = .ok (.invokevirtual 63, 3) := by decide +kernel
theorem dX3_read_49 : decode cX3_read 49 = .ok (.ifCond .ne 23, 3) := by decide +kernel
theorem dX3_read_52 : decode cX3_read 52 = .ok (.aload_n 1, 1) := by decide +kernel
theorem dX3_read_53 : decode cX3_read 53 = .ok (.invokevirtual 66, 3) := by decide +kernel
theorem dX3_read_56 : decode cX3_read 56 = .ok (.ifCond .eq 11, 3) := by decide +kernel
theorem dX3_read_59 : decode cX3_read 59 = .ok (.aload_n 0, 1) := by decide +kernel
theorem dX3_read_60 : decode cX3_read 60 = .ok (.iload_n 2, 1) := by decide +kernel
theorem dX3_read_61 : decode cX3_read 61 = .ok (.invokevirtual 70, 3) := by decide +kernel
theorem dX3_read_64 : decode cX3_read 64 = .ok (.goto 7, 3) := by decide +kernel
theorem dX3_read_67 : decode cX3_read 67 = .ok (.aload_n 1, 1) := by decide +kernel
theorem dX3_read_68 : decode cX3_read 68 = .ok (.invokevirtual 59, 3) := by decide +kernel
theorem dX3_read_71 : decode cX3_read 71 = .ok (.ireturn, 1) := by decide +kernel
theorem dX3_read_72 : decode cX3_read 72 = .ok (.iinc 2 1, 3) := by decide +kernel
theorem dX3_read_75 : decode cX3_read 75 = .ok (.goto (-51), 3) := by decide +kernel
theorem dX3_read_78 : decode cX3_read 78 = .ok (.aload_n 1, 1) := by decide +kernel
theorem dX3_read_79 : decode cX3_read 79 = .ok (.invokevirtual 59, 3) := by decide +kernel
theorem dX3_read_82 : decode cX3_read 82 = .ok (.ireturn, 1) := by decide +kernel
theorem dX3_readLine_0 : decode cX3_readLine 0 = .ok (.aload_n 0, 1) := by decide +kernel
theorem dX3_readLine_1 : decode cX3_readLine 1 = .ok (.getfield 40, 3) := by decide +kernel
theorem dX3_readLine_4 : decode cX3_readLine 4 = .ok (.bipush 9, 2) := by decide +kernel
theorem dX3_readLine_6 : decode cX3_readLine 6 = .ok (.if_icmp .ge 18, 3) := by decide +kernel
theorem dX3_readLine_9 : decode cX3_readLine 9 = .ok (.aload_n 1, 1) := by decide +kernel
theorem dX3_readLine_10 : decode cX3_readLine 10 = .ok (.bipush 118, 2) := by decide +kernel
theorem dX3_readLine_12 : decode cX3_readLine 12 = .ok (.invokevirtual 63, 3) := by decide +kernel
theorem dX3_readLine_15 : decode cX3_readLine 15 = .ok (.ifCond .eq 9, 3) := by decide +kernel
theorem dX3_readLine_18 : decode cX3_readLine 18 = .ok (.aload_n 0, 1) := by decide +kernel
theorem dX3_readLine_19 : decode cX3_readLine 19 = .ok (.aload_n 1, 1) := by decide +kernel
theorem dX3_readLine_20 : decode cX3_readLine 20 = .ok (.invokevirtual 74, 3) := by decide +kernel
theorem dX3_readLine_23 : decode cX3_readLine 23 = .ok (.ireturn, 1) := by decide +kernel
theorem dX3_readLine_24 : decode cX3_readLine 24 = .ok (.aload_n 0, 1) := by decide +kernel
theorem dX3_readLine_25 : decode cX3_readLine 25 = .ok (.getfield 46, 3) := by decide +kernel
theorem dX3_readLine_28 : decode cX3_readLine 28 = .ok (.bipush 24, 2) := by decide +kernel
theorem dX3_readLine_30 : decode cX3_readLine 30 = .ok (.if_icmp .ge 18, 3) := by decide +kernel
theorem dX3_readLine_33 : decode cX3_readLine 33 = .ok (.aload_n 1, 1) := by decide +kernel
theorem dX3_readLine_34 : decode cX3_readLine 34 = .ok (.bipush 114, 2) := by decide +kernel
theorem dX3_readLine_36 : decode cX3_readLine 36 = .ok (.invokevirtual 63, 3) := by decide +kernel
theorem dX3_readLine_39 : decode cX3_readLine 39 = .ok (.ifCond .eq 9, 3) := by decide +kernel
theorem dX3_readLine_42 : decode cX3_readLine 42 = .ok (.aload_n 0, 1) := by decide +kernel
theorem dX3_readLine_43 : decode cX3_readLine 43 = .ok (.aload_n 1, 1) := by decide +kernel
theorem dX3_readLine_44 : decode cX3_readLine 44 = .ok (.invokevirtual 77, 3) := by decide +kernel
theorem dX3_readLine_47 : decode cX3_readLine 47 = .ok (.ireturn, 1) := by decide +kernel
theorem dX3_readLine_48 : decode cX3_readLine 48 = .ok (.iconst 0, 1) := by decide +kernel
theorem dX3_readLine_49 : decode cX3_readLine 49 = .ok (.ireturn, 1) := by decide +kernel
theorem dX3_readVillage_0 : decode cX3_readVillage 0 = .ok (.aload_n 1, 1) := by decide +kernel
theorem dX3_readVillage_1 : decode cX3_readVillage 1 = .ok (.iconst 1, 1) := by decide +kernel
theorem dX3_readVillage_2 : decode cX3_readVillage 2 = .ok (.invokevirtual 80, 3) := by decide +kernel
theorem dX3_readVillage_5 : decode cX3_readVillage 5 = .ok (.istore_n 2, 1) := by decide +kernel
theorem dX3_readVillage_6 : decode cX3_readVillage 6 = .ok (.iload_n 2, 1) := by decide +kernel
theorem dX3_readVillage_7 : decode cX3_readVillage 7 = .ok (.ifCond .lt 19, 3) := by decide +kernel
theorem dX3_readVillage_10 : decode cX3_readVillage 10 = .ok (.aload_n 0, 1) := by decide +kernel
theorem dX3_readVillage_11 : decode cX3_readVillage 11 = .ok (.getfield 40, 3) := by decide +kernel
theorem dX3_readVillage_14 : decode cX3_readVillage 14 = .ok (.ifCond .lt 12, 3) := by decide +kernel
theorem dX3_readVillage_17 : decode cX3_readVillage 17 = .ok (.aload_n 0, 1) := by decide +kernel
theorem dX3_readVillage_18 : decode cX3_readVillage 18 = .ok (.getfield 40, 3) := by decide +kernel
theorem dX3_readVillage_21 : decode cX3_readVillage 21 = .ok (.bipush 9, 2) := by decide +kernel
theorem dX3_readVillage_23 : decode cX3_readVillage 23 = .ok (.if_icmp .lt 5, 3) := by decide +kernel
theorem dX3_readVillage_26 : decode cX3_readVillage 26 = .ok (.iconst 0, 1) := by decide +kernel
theorem dX3_readVillage_27 : decode cX3_readVillage 27 = .ok (.ireturn, 1) := by decide +kernel
theorem dX3_readVillage_28 : decode cX3_readVillage 28 = .ok (.aload_n 0, 1) := by decide +kernel
theorem dX3_readVillage_29 : decode cX3_readVillage 29 = .ok (.getfield 9, 3) := by decide +kernel
theorem dX3_readVillage_32 : decode cX3_readVillage 32 = .ok (.aload_n 0, 1) := by decide +kernel
theorem dX3_readVillage_33 : decode cX3_readVillage 33 = .ok (.getfield 40, 3) := by decide +kernel
theorem dX3_readVillage_36 : decode cX3_readVillage 36 = .ok (.iload_n 2, 1) := by decide +kernel
theorem dX3_readVillage_37 : decode cX3_readVillage 37 = .ok (.iastore, 1) := by decide +kernel
theorem dX3_readVillage_38 : decode cX3_readVillage 38 = .ok (.aload_n 0, 1) := by decide +kernel
theorem dX3_readVillage_39 : decode cX3_readVillage 39 = .ok (.dup, 1) := by decide +kernel
theorem dX3_readVillage_40 : decode cX3_readVillage 40 = .ok (.getfield 40, 3) := by decide +kernel
theorem dX3_readVillage_43 : decode cX3_readVillage 43 = .ok (.iconst 1, 1) := by decide +kernel
theorem dX3_readVillage_44 : decode cX3_readVillage 44 = .ok (.iadd, 1) := by decide +kernel
theorem dX3_readVillage_45 : decode cX3_readVillage 45 = .ok (.putfield 40, 3) := by decide +kernel
theorem dX3_readVillage_48 : decode cX3_readVillage 48 = .ok (.iconst 1, 1) := by decide +kernel
theorem dX3_readVillage_49 : decode cX3_readVillage 49 = .ok (.ireturn, 1) := by decide +kernel
theorem dX3_readRoad_0 : decode cX3_readRoad 0 = .ok (.aload_n 1, 1) := by decide +kernel
theorem dX3_readRoad_1 : decode cX3_readRoad 1 = .ok (.aload_n 0, 1) := by decide +kernel
theorem dX3_readRoad_2 : decode cX3_readRoad 2 = .ok (.getfield 40, 3) := by decide +kernel
theorem dX3_readRoad_5 : decode cX3_readRoad 5 = .ok (.iconst (-1), 1) := by decide +kernel
theorem dX3_readRoad_6 : decode cX3_readRoad 6 = .ok (.invokevirtual 83, 3) := by decide +kernel
theorem dX3_readRoad_9 : decode cX3_readRoad 9 = .ok (.istore_n 2, 1) := by decide +kernel
theorem dX3_readRoad_10 : decode cX3_readRoad 10 = .ok (.iload_n 2, 1) := by decide +kernel
theorem dX3_readRoad_11 : decode cX3_readRoad 11 = .ok (.ifCond .ge 5, 3) := by decide +kernel
theorem dX3_readRoad_14 : decode cX3_readRoad 14 = .ok (.iconst 0, 1) := by decide +kernel
theorem dX3_readRoad_15 : decode cX3_readRoad 15 = .ok (.ireturn, 1) := by decide +kernel
theorem dX3_readRoad_16 : decode cX3_readRoad 16 = .ok (.aload_n 1, 1) := by decide +kernel
theorem dX3_readRoad_17 : decode cX3_readRoad 17 = .ok (.aload_n 0, 1) := by decide +kernel
theorem dX3_readRoad_18 : decode cX3_readRoad 18 = .ok (.getfield 40, 3) := by decide +kernel
theorem dX3_readRoad_21 : decode cX3_readRoad 21 = .ok (.iload_n 2, 1) := by decide +kernel
theorem dX3_readRoad_22 : decode cX3_readRoad 22 = .ok (.invokevirtual 83, 3) := by decide +kernel
theorem dX3_readRoad_25 : decode cX3_readRoad 25 = .ok (.istore_n 3, 1) := by decide +kernel
theorem dX3_readRoad_26 : decode cX3_readRoad 26 = .ok (.iload_n 3, 1) := by decide +kernel
theorem dX3_readRoad_27 : decode cX3_readRoad 27 = .ok (.ifCond .ge 5, 3) := by decide +kernel
theorem dX3_readRoad_30 : decode cX3_readRoad 30 = .ok (.iconst 0, 1) := by decide +kernel
theorem dX3_readRoad_31 : decode cX3_readRoad 31 = .ok (.ireturn, 1) := by decide +kernel
theorem dX3_readRoad_32 : decode cX3_readRoad 32 = .ok (.aload_n 1, 1) := by decide +kernel
theorem dX3_readRoad_33 : decode cX3_readRoad 33 = .ok (.iconst 2, 1) := by decide +kernel
theorem dX3_readRoad_34 : decode cX3_readRoad 34 = .ok (.invokevirtual 80, 3) := by decide +kernel
theorem dX3_readRoad_37 : decode cX3_readRoad 37 = .ok (.istore 4, 2) := by decide +kernel
theorem dX3_readRoad_39 : decode cX3_readRoad 39 = .ok (.iload 4, 2) := by decide +kernel
theorem dX3_readRoad_41 : decode cX3_readRoad 41 = .ok (.ifCond .ne 7, 3) := by decide +kernel
theorem dX3_readRoad_44 : decode cX3_readRoad 44 = .ok (.aload_n 1, 1) := by decide +kernel
theorem dX3_readRoad_45 : decode cX3_readRoad 45 = .ok (.invokevirtual 87, 3) := by decide +kernel
theorem dX3_readRoad_48 : decode cX3_readRoad 48 = .ok (.iload 4, 2) := by decide +kernel
theorem dX3_readRoad_50 : decode cX3_readRoad 50 = .ok (.ifCond .le 19, 3) := by decide +kernel
theorem dX3_readRoad_53 : decode cX3_readRoad 53 = .ok (.aload_n 0, 1) := by decide +kernel
theorem dX3_readRoad_54 : decode cX3_readRoad 54 = .ok (.getfield 46, 3) := by decide +kernel
theorem dX3_readRoad_57 : decode cX3_readRoad 57 = .ok (.ifCond .lt 12, 3) := by decide +kernel
theorem dX3_readRoad_60 : decode cX3_readRoad 60 = .ok (.aload_n 0, 1) := by decide +kernel
theorem dX3_readRoad_61 : decode cX3_readRoad 61 = .ok (.getfield 46, 3) := by decide +kernel
theorem dX3_readRoad_64 : decode cX3_readRoad 64 = .ok (.bipush 24, 2) := by decide +kernel
theorem dX3_readRoad_66 : decode cX3_readRoad 66 = .ok (.if_icmp .lt 5, 3) := by decide +kernel
theorem dX3_readRoad_69 : decode cX3_readRoad 69 = .ok (.iconst 0, 1) := by decide +kernel
theorem dX3_readRoad_70 : decode cX3_readRoad 70 = .ok (.ireturn, 1) := by decide +kernel
theorem dX3_readRoad_71 : decode cX3_readRoad 71 = .ok (.aload_n 0, 1) := by decide +kernel
theorem dX3_readRoad_72 : decode cX3_readRoad 72 = .ok (.getfield 15, 3) := by decide +kernel
theorem dX3_readRoad_75 : decode cX3_readRoad 75 = .ok (.aload_n 0, 1) := by decide +kernel
theorem dX3_readRoad_76 : decode cX3_readRoad 76 = .ok (.getfield 46, 3) := by decide +kernel
theorem dX3_readRoad_79 : decode cX3_readRoad 79 = .ok (.iload_n 2, 1) := by decide +kernel
theorem dX3_readRoad_80 : decode cX3_readRoad 80 = .ok (.iastore, 1) := by decide +kernel
theorem dX3_readRoad_81 : decode cX3_readRoad 81 = .ok (.aload_n 0, 1) := by decide +kernel
theorem dX3_readRoad_82 : decode cX3_readRoad 82 = .ok (.getfield 18, 3) := by decide +kernel
theorem dX3_readRoad_85 : decode cX3_readRoad 85 = .ok (.aload_n 0, 1) := by decide +kernel
theorem dX3_readRoad_86 : decode cX3_readRoad 86 = .ok (.getfield 46, 3) := by decide +kernel
theorem dX3_readRoad_89 : decode cX3_readRoad 89 = .ok (.iload_n 3, 1) := by decide +kernel
theorem dX3_readRoad_90 : decode cX3_readRoad 90 = .ok (.iastore, 1) := by decide +kernel
theorem dX3_readRoad_91 : decode cX3_readRoad 91 = .ok (.aload_n 0, 1) := by decide +kernel
theorem dX3_readRoad_92 : decode cX3_readRoad 92 = .ok (.getfield 21, 3) := by decide +kernel
theorem dX3_readRoad_95 : decode cX3_readRoad 95 = .ok (.aload_n 0, 1) := by decide +kernel
theorem dX3_readRoad_96 : decode cX3_readRoad 96 = .ok (.getfield 46, 3) := by decide +kernel
theorem dX3_readRoad_99 : decode cX3_readRoad 99 = .ok (.iload 4, 2) := by decide +kernel
theorem dX3_readRoad_101 : decode cX3_readRoad 101 = .ok (.iastore, 1) := by decide +kernel
theorem dX3_readRoad_102 : decode cX3_readRoad 102 = .ok (.aload_n 0, 1) := by decide +kernel
theorem dX3_readRoad_103 : decode cX3_readRoad 103 = .ok (.dup, 1) := by decide +kernel
theorem dX3_readRoad_104 : decode cX3_readRoad 104 = .ok (.getfield 46, 3) := by decide +kernel
theorem dX3_readRoad_107 : decode cX3_readRoad 107 = .ok (.iconst 1, 1) := by decide +kernel
theorem dX3_readRoad_108 : decode cX3_readRoad 108 = .ok (.iadd, 1) := by decide +kernel
theorem dX3_readRoad_109 : decode cX3_readRoad 109 = .ok (.putfield 46, 3) := by decide +kernel
theorem dX3_readRoad_112 : decode cX3_readRoad 112 = .ok (.iconst 1, 1) := by decide +kernel
theorem dX3_readRoad_113 : decode cX3_readRoad 113 = .ok (.ireturn, 1) := by decide +kernel
theorem dX3_settle_0 : decode cX3_settle 0 = .ok (.aload_n 0, 1) := by decide +kernel
theorem dX3_settle_1 : decode cX3_settle 1 = .ok (.aload_n 0, 1) := by decide +kernel
theorem dX3_settle_2 : decode cX3_settle 2 = .ok (.getfield 40, 3) := by decide +kernel
theorem dX3_settle_5 : decode cX3_settle 5 = .ok (.putfield 32, 3) := by decide +kernel
theorem dX3_settle_8 : decode cX3_settle 8 = .ok (.aload_n 0, 1) := by decide +kernel
theorem dX3_settle_9 : decode cX3_settle 9 = .ok (.aload_n 0, 1) := by decide +kernel
theorem dX3_settle_10 : decode cX3_settle 10 = .ok (.getfield 46, 3) := by decide +kernel
theorem dX3_settle_13 : decode cX3_settle 13 = .ok (.putfield 43, 3) := by decide +kernel
theorem dX3_settle_16 : decode cX3_settle 16 = .ok (.aload_n 0, 1) := by decide +kernel
theorem dX3_settle_17 : decode cX3_settle 17 = .ok (.invokevirtual 90, 3) := by decide +kernel
theorem dX3_settle_20 : decode cX3_settle 20 = .ok (.aload_n 0, 1) := by decide +kernel
theorem dX3_settle_21 : decode cX3_settle 21 = .ok (.invokevirtual 93, 3) := by decide +kernel
theorem dX3_settle_24 : decode cX3_settle 24 = .ok (.iload_n 1, 1) := by decide +kernel
theorem dX3_settle_25 : decode cX3_settle 25 = .ok (.ireturn, 1) := by decide +kernel
theorem dX3_layRoads_0 : decode cX3_layRoads 0 = .ok (.iconst 0, 1) := by decide +kernel
theorem dX3_layRoads_1 : decode cX3_layRoads 1 = .ok (.istore_n 1, 1) := by decide +kernel
theorem dX3_layRoads_2 : decode cX3_layRoads 2 = .ok (.iload_n 1, 1) := by decide +kernel
theorem dX3_layRoads_3 : decode cX3_layRoads 3 = .ok (.bipush 9, 2) := by decide +kernel
theorem dX3_layRoads_5 : decode cX3_layRoads 5 = .ok (.if_icmp .ge 42, 3) := by decide +kernel
theorem dX3_layRoads_8 : decode cX3_layRoads 8 = .ok (.iconst 0, 1) := by decide +kernel
theorem dX3_layRoads_9 : decode cX3_layRoads 9 = .ok (.istore_n 2, 1) := by decide +kernel
theorem dX3_layRoads_10 : decode cX3_layRoads 10 = .ok (.iload_n 2, 1) := by decide +kernel
theorem dX3_layRoads_11 : decode cX3_layRoads 11 = .ok (.bipush 9, 2) := by decide +kernel
theorem dX3_layRoads_13 : decode cX3_layRoads 13 = .ok (.if_icmp .ge 28, 3) := by decide +kernel
theorem dX3_layRoads_16 : decode cX3_layRoads 16 = .ok (.aload_n 0, 1) := by decide +kernel
theorem dX3_layRoads_17 : decode cX3_layRoads 17 = .ok (.getfield 26, 3) := by decide +kernel
theorem dX3_layRoads_20 : decode cX3_layRoads 20 = .ok (.iload_n 1, 1) := by decide +kernel
theorem dX3_layRoads_21 : decode cX3_layRoads 21 = .ok (.aaload, 1) := by decide +kernel
theorem dX3_layRoads_22 : decode cX3_layRoads 22 = .ok (.iload_n 2, 1) := by decide +kernel
theorem dX3_layRoads_23 : decode cX3_layRoads 23 = .ok (.iload_n 1, 1) := by decide +kernel
theorem dX3_layRoads_24 : decode cX3_layRoads 24 = .ok (.iload_n 2, 1) := by decide +kernel
theorem dX3_layRoads_25 : decode cX3_layRoads 25 = .ok (.if_icmp .ne 7, 3) := by decide +kernel
theorem dX3_layRoads_28 : decode cX3_layRoads 28 = .ok (.iconst 0, 1) := by decide +kernel
theorem dX3_layRoads_29 : decode cX3_layRoads 29 = .ok (.goto 5, 3) := by decide +kernel
theorem dX3_layRoads_32 : decode cX3_layRoads 32 = .ok (.ldc 96, 2) := by decide +kernel
theorem dX3_layRoads_34 : decode cX3_layRoads 34 = .ok (.iastore, 1) := by decide +kernel
theorem dX3_layRoads_35 : decode cX3_layRoads 35 = .ok (.iinc 2 1, 3) := by decide +kernel
theorem dX3_layRoads_38 : decode cX3_layRoads 38 = .ok (.goto (-28), 3) := by decide +kernel
theorem dX3_layRoads_41 : decode cX3_layRoads 41 = .ok (.iinc 1 1, 3) := by decide +kernel
theorem dX3_layRoads_44 : decode cX3_layRoads 44 = .ok (.goto (-42), 3) := by decide +kernel
theorem dX3_layRoads_47 : decode cX3_layRoads 47 = .ok (.iconst 0, 1) := by decide +kernel
theorem dX3_layRoads_48 : decode cX3_layRoads 48 = .ok (.istore_n 1, 1) := by decide +kernel
theorem dX3_layRoads_49 : decode cX3_layRoads 49 = .ok (.iload_n 1, 1) := by decide +kernel
theorem dX3_layRoads_50 : decode cX3_layRoads 50 = .ok (.aload_n 0, 1) := by decide +kernel
theorem dX3_layRoads_51 : decode cX3_layRoads 51 = .ok (.getfield 43, 3) := by decide +kernel
theorem dX3_layRoads_54 : decode cX3_layRoads 54 = .ok (.if_icmp .ge 84, 3) := by decide +kernel
theorem dX3_layRoads_57 : decode cX3_layRoads 57 = .ok (.iload_n 1, 1) := by decide +kernel
theorem dX3_layRoads_58 : decode cX3_layRoads 58 = .ok (.bipush 24, 2) := by decide +kernel
theorem dX3_layRoads_60 : decode cX3_layRoads 60 = .ok (.if_icmp .ge 78, 3) := by decide +kernel
theorem dX3_layRoads_63 : decode cX3_layRoads 63 = .ok (.aload_n 0, 1) := by decide +kernel
theorem dX3_layRoads_64 : decode cX3_layRoads 64 = .ok (.getfield 15, 3) := by decide +kernel
theorem dX3_layRoads_67 : decode cX3_layRoads 67 = .ok (.iload_n 1, 1) := by decide +kernel
theorem dX3_layRoads_68 : decode cX3_layRoads 68 = .ok (.iaload, 1) := by decide +kernel
theorem dX3_layRoads_69 : decode cX3_layRoads 69 = .ok (.istore_n 2, 1) := by decide +kernel
theorem dX3_layRoads_70 : decode cX3_layRoads 70 = .ok (.aload_n 0, 1) := by decide +kernel
theorem dX3_layRoads_71 : decode cX3_layRoads 71 = .ok (.getfield 18, 3) := by decide +kernel
theorem dX3_layRoads_74 : decode cX3_layRoads 74 = .ok (.iload_n 1, 1) := by decide +kernel
theorem dX3_layRoads_75 : decode cX3_layRoads 75 = .ok (.iaload, 1) := by decide +kernel
theorem dX3_layRoads_76 : decode cX3_layRoads 76 = .ok (.istore_n 3, 1) := by decide +kernel
theorem dX3_layRoads_77 : decode cX3_layRoads 77 = .ok (.aload_n 0, 1) := by decide +kernel
theorem dX3_layRoads_78 : decode cX3_layRoads 78 = .ok (.iload_n 2, 1) := by decide +kernel
theorem dX3_layRoads_79 : decode cX3_layRoads 79 = .ok (.invokevirtual 36, 3) := by decide +kernel
theorem dX3_layRoads_82 : decode cX3_layRoads 82 = .ok (.ifCond .eq 50, 3) := by decide +kernel
theorem dX3_layRoads_85 : decode cX3_layRoads 85 = .ok (.aload_n 0, 1) := by decide +kernel
theorem dX3_layRoads_86 : decode cX3_layRoads 86 = .ok (.iload_n 3, 1) := by decide +kernel
theorem dX3_layRoads_87 : decode cX3_layRoads 87 = .ok (.invokevirtual 36, 3) := by decide +kernel
theorem dX3_layRoads_90 : decode cX3_layRoads 90 = .ok (.ifCond .eq 42, 3) := by decide +kernel
theorem dX3_layRoads_93 : decode cX3_layRoads 93 = .ok (.aload_n 0, 1) := by decide +kernel
theorem dX3_layRoads_94 : decode cX3_layRoads 94 = .ok (.getfield 26, 3) := by decide +kernel
theorem dX3_layRoads_97 : decode cX3_layRoads 97 = .ok (.iload_n 2, 1) := by decide +kernel
theorem dX3_layRoads_98 : decode cX3_layRoads 98 = .ok (.aaload, 1) := by decide +kernel
theorem dX3_layRoads_99 : decode cX3_layRoads 99 = .ok (.iload_n 3, 1) := by decide +kernel
theorem dX3_layRoads_100 : decode cX3_layRoads 100 = .ok (.iaload, 1) := by decide +kernel
theorem dX3_layRoads_101 : decode cX3_layRoads 101 = .ok (.aload_n 0, 1) := by decide +kernel
theorem dX3_layRoads_102 : decode cX3_layRoads 102 = .ok (.getfield 21, 3) := by decide +kernel
theorem dX3_layRoads_105 : decode cX3_layRoads 105 = .ok (.iload_n 1, 1) := by decide +kernel
theorem dX3_layRoads_106 : decode cX3_layRoads 106 = .ok (.iaload, 1) := by decide +kernel
theorem dX3_layRoads_107 : decode cX3_layRoads 107 = .ok (.invokestatic 97, 3) := by decide +kernel
theorem dX3_layRoads_110 : decode cX3_layRoads 110 = .ok (.istore 4, 2) := by decide +kernel
theorem dX3_layRoads_112 : decode cX3_layRoads 112 = .ok (.aload_n 0, 1) := by decide +kernel
theorem dX3_layRoads_113 : decode cX3_layRoads 113 = .ok (.getfield 26, 3) := by decide +kernel
theorem dX3_layRoads_116 : decode cX3_layRoads 116 = .ok (.iload_n 2, 1) := by decide +kernel
theorem dX3_layRoads_117 : decode cX3_layRoads 117 = .ok (.aaload, 1) := by decide +kernel
theorem dX3_layRoads_118 : decode cX3_layRoads 118 = .ok (.iload_n 3, 1) := by decide +kernel
theorem dX3_layRoads_119 : decode cX3_layRoads 119 = .ok (.iload 4, 2) := by decide +kernel
theorem dX3_layRoads_121 : decode cX3_layRoads 121 = .ok (.iastore, 1) := by decide +kernel
theorem dX3_layRoads_122 : decode cX3_layRoads 122 = .ok (.aload_n 0, 1) := by decide +kernel
theorem dX3_layRoads_123 : decode cX3_layRoads 123 = .ok (.getfield 26, 3) := by decide +kernel
theorem dX3_layRoads_126 : decode cX3_layRoads 126 = .ok (.iload_n 3, 1) := by decide +kernel
theorem dX3_layRoads_127 : decode cX3_layRoads 127 = .ok (.aaload, 1) := by decide +kernel
theorem dX3_layRoads_128 : decode cX3_layRoads 128 = .ok (.iload_n 2, 1) := by decide +kernel
theorem dX3_layRoads_129 : decode cX3_layRoads 129 = .ok (.iload 4, 2) := by decide +kernel
theorem dX3_layRoads_131 : decode cX3_layRoads 131 = .ok (.iastore, 1) := by decide +kernel
theorem dX3_layRoads_132 : decode cX3_layRoads 132 = .ok (.iinc 1 1, 3) := by decide +kernel
theorem dX3_layRoads_135 : decode cX3_layRoads 135 = .ok (.goto (-86), 3) := by decide +kernel
theorem dX3_layRoads_138 : decode cX3_layRoads 138 = .ok (.return_, 1) := by decide +kernel
theorem dX3_findWays_0 : decode cX3_findWays 0 = .ok (.iconst 0, 1) := by decide +kernel
theorem dX3_findWays_1 : decode cX3_findWays 1 = .ok (.istore_n 1, 1) := by decide +kernel
theorem dX3_findWays_2 : decode cX3_findWays 2 = .ok (.iload_n 1, 1) := by decide +kernel
theorem dX3_findWays_3 : decode cX3_findWays 3 = .ok (.bipush 9, 2) := by decide +kernel
theorem dX3_findWays_5 : decode cX3_findWays 5 = .ok (.if_icmp .ge 39, 3) := by decide +kernel
theorem dX3_findWays_8 : decode cX3_findWays 8 = .ok (.iconst 0, 1) := by decide +kernel
theorem dX3_findWays_9 : decode cX3_findWays 9 = .ok (.istore_n 2, 1) := by decide +kernel
theorem dX3_findWays_10 : decode cX3_findWays 10 = .ok (.iload_n 2, 1) := by decide +kernel
theorem dX3_findWays_11 : decode cX3_findWays 11 = .ok (.bipush 9, 2) := by decide +kernel
theorem dX3_findWays_13 : decode cX3_findWays 13 = .ok (.if_icmp .ge 25, 3) := by decide +kernel
theorem dX3_findWays_16 : decode cX3_findWays 16 = .ok (.aload_n 0, 1) := by decide +kernel
theorem dX3_findWays_17 : decode cX3_findWays 17 = .ok (.getfield 29, 3) := by decide +kernel
theorem dX3_findWays_20 : decode cX3_findWays 20 = .ok (.iload_n 1, 1) := by decide +kernel
theorem dX3_findWays_21 : decode cX3_findWays 21 = .ok (.aaload, 1) := by decide +kernel
theorem dX3_findWays_22 : decode cX3_findWays 22 = .ok (.iload_n 2, 1) := by decide +kernel
theorem dX3_findWays_23 : decode cX3_findWays 23 = .ok (.aload_n 0, 1) := by decide +kernel
theorem dX3_findWays_24 : decode cX3_findWays 24 = .ok (.getfield 26, 3) := by decide +kernel
theorem dX3_findWays_27 : decode cX3_findWays 27 = .ok (.iload_n 1, 1) := by decide +kernel
theorem dX3_findWays_28 : decode cX3_findWays 28 = .ok (.aaload, 1) := by decide +kernel
theorem dX3_findWays_29 : decode cX3_findWays 29 = .ok (.iload_n 2, 1) := by decide +kernel
theorem dX3_findWays_30 : decode cX3_findWays 30 = .ok (.iaload, 1) := by decide +kernel
theorem dX3_findWays_31 : decode cX3_findWays 31 = .ok (.iastore, 1) := by decide +kernel
theorem dX3_findWays_32 : decode cX3_findWays 32 = .ok (.iinc 2 1, 3) := by decide +kernel
theorem dX3_findWays_35 : decode cX3_findWays 35 = .ok (.goto (-25), 3) := by decide +kernel
theorem dX3_findWays_38 : decode cX3_findWays 38 = .ok (.iinc 1 1, 3) := by decide +kernel
theorem dX3_findWays_41 : decode cX3_findWays 41 = .ok (.goto (-39), 3) := by decide +kernel
theorem dX3_findWays_44 : decode cX3_findWays 44 = .ok (.iconst 0, 1) := by decide +kernel
theorem dX3_findWays_45 : decode cX3_findWays 45 = .ok (.istore_n 1, 1) := by decide +kernel
theorem dX3_findWays_46 : decode cX3_findWays 46 = .ok (.iload_n 1, 1) := by decide +kernel
theorem dX3_findWays_47 : decode cX3_findWays 47 = .ok (.bipush 9, 2) := by decide +kernel
theorem dX3_findWays_49 : decode cX3_findWays 49 = .ok (.if_icmp .ge 73, 3) := by decide +kernel
theorem dX3_findWays_52 : decode cX3_findWays 52 = .ok (.iconst 0, 1) := by decide +kernel
theorem dX3_findWays_53 : decode cX3_findWays 53 = .ok (.istore_n 2, 1) := by decide +kernel
theorem dX3_findWays_54 : decode cX3_findWays 54 = .ok (.iload_n 2, 1) := by decide +kernel
theorem dX3_findWays_55 : decode cX3_findWays 55 = .ok (.bipush 9, 2) := by decide +kernel
theorem dX3_findWays_57 : decode cX3_findWays 57 = .ok (.if_icmp .ge 59, 3) := by decide +kernel
theorem dX3_findWays_60 : decode cX3_findWays 60 = .ok (.iconst 0, 1) := by decide +kernel
theorem dX3_findWays_61 : decode cX3_findWays 61 = .ok (.istore_n 3, 1) := by decide +kernel
theorem dX3_findWays_62 : decode cX3_findWays 62 = .ok (.iload_n 3, 1) := by decide +kernel
theorem dX3_findWays_63 : decode cX3_findWays 63 = .ok (.bipush 9, 2) := by decide +kernel
theorem dX3_findWays_65 : decode cX3_findWays 65 = .ok (.if_icmp .ge 45, 3) := by decide +kernel
theorem dX3_findWays_68 : decode cX3_findWays 68 = .ok (.aload_n 0, 1) := by decide +kernel
theorem dX3_findWays_69 : decode cX3_findWays 69 = .ok (.getfield 29, 3) := by decide +kernel
theorem dX3_findWays_72 : decode cX3_findWays 72 = .ok (.iload_n 2, 1) := by decide +kernel
theorem dX3_findWays_73 : decode cX3_findWays 73 = .ok (.aaload, 1) := by decide +kernel
theorem dX3_findWays_74 : decode cX3_findWays 74 = .ok (.iload_n 3, 1) := by decide +kernel
theorem dX3_findWays_75 : decode cX3_findWays 75 = .ok (.aload_n 0, 1) := by decide +kernel
theorem dX3_findWays_76 : decode cX3_findWays 76 = .ok (.getfield 29, 3) := by decide +kernel
theorem dX3_findWays_79 : decode cX3_findWays 79 = .ok (.iload_n 2, 1) := by decide +kernel
theorem dX3_findWays_80 : decode cX3_findWays 80 = .ok (.aaload, 1) := by decide +kernel
theorem dX3_findWays_81 : decode cX3_findWays 81 = .ok (.iload_n 3, 1) := by decide +kernel
theorem dX3_findWays_82 : decode cX3_findWays 82 = .ok (.iaload, 1) := by decide +kernel
theorem dX3_findWays_83 : decode cX3_findWays 83 = .ok (.aload_n 0, 1) := by decide +kernel
theorem dX3_findWays_84 : decode cX3_findWays 84 = .ok (.getfield 29, 3) := by decide +kernel
theorem dX3_findWays_87 : decode cX3_findWays 87 = .ok (.iload_n 2, 1) := by decide +kernel
theorem dX3_findWays_88 : decode cX3_findWays 88 = .ok (.aaload, 1) := by decide +kernel
theorem dX3_findWays_89 : decode cX3_findWays 89 = .ok (.iload_n 1, 1) := by decide +kernel
theorem dX3_findWays_90 : decode cX3_findWays 90 = .ok (.iaload, 1) := by decide +kernel
theorem dX3_findWays_91 : decode cX3_findWays 91 = .ok (.aload_n 0, 1) := by decide +kernel
theorem dX3_findWays_92 : decode cX3_findWays 92 = .ok (.getfield 29, 3) := by decide +kernel
theorem dX3_findWays_95 : decode cX3_findWays 95 = .ok (.iload_n 1, 1) := by decide +kernel
theorem dX3_findWays_96 : decode cX3_findWays 96 = .ok (.aaload, 1) := by decide +kernel
theorem dX3_findWays_97 : decode cX3_findWays 97 = .ok (.iload_n 3, 1) := by decide +kernel
theorem dX3_findWays_98 : decode cX3_findWays 98 = .ok (.iaload, 1) := by decide +kernel
theorem dX3_findWays_99 : decode cX3_findWays 99 = .ok (.iadd, 1) := by decide +kernel
theorem dX3_findWays_100 : decode cX3_findWays 100 = .ok (.invokestatic 97, 3) := by decide +kernel
theorem dX3_findWays_103 : decode cX3_findWays 103 = .ok (.iastore, 1) := by decide +kernel
theorem dX3_findWays_104 : decode cX3_findWays 104 = .ok (.iinc 3 1, 3) := by decide +kernel
theorem dX3_findWays_107 : decode cX3_findWays 107 = .ok (.goto (-45), 3) := by decide +kernel
theorem dX3_findWays_110 : decode cX3_findWays 110 = .ok (.iinc 2 1, 3) := by decide +kernel
theorem dX3_findWays_113 : decode cX3_findWays 113 = .ok (.goto (-59), 3) := by decide +kernel
theorem dX3_findWays_116 : decode cX3_findWays 116 = .ok (.iinc 1 1, 3) := by decide +kernel
theorem dX3_findWays_119 : decode cX3_findWays 119 = .ok (.goto (-73), 3) := by decide +kernel
theorem dX3_findWays_122 : decode cX3_findWays 122 = .ok (.return_, 1) := by decide +kernel
theorem dX3_miles_0 : decode cX3_miles 0 = .ok (.aload_n 0, 1) := by decide +kernel
theorem dX3_miles_1 : decode cX3_miles 1 = .ok (.iload_n 1, 1) := by decide +kernel
theorem dX3_miles_2 : decode cX3_miles 2 = .ok (.invokevirtual 36, 3) := by decide +kernel
theorem dX3_miles_5 : decode cX3_miles 5 = .ok (.ifCond .eq 11, 3) := by decide +kernel
theorem dX3_miles_8 : decode cX3_miles 8 = .ok (.aload_n 0, 1) := by decide +kernel
theorem dX3_miles_9 : decode cX3_miles 9 = .ok (.iload_n 2, 1) := by decide +kernel
theorem dX3_miles_10 : decode cX3_miles 10 = .ok (.invokevirtual 36, 3) := by decide +kernel
theorem dX3_miles_13 : decode cX3_miles 13 = .ok (.ifCond .ne 5, 3) := by decide +kernel
theorem dX3_miles_16 : decode cX3_miles 16 = .ok (.iconst (-1), 1) := by decide +kernel
theorem dX3_miles_17 : decode cX3_miles 17 = .ok (.ireturn, 1) := by decide +kernel
theorem dX3_miles_18 : decode cX3_miles 18 = .ok (.aload_n 0, 1) := by decide +kernel
theorem dX3_miles_19 : decode cX3_miles 19 = .ok (.getfield 29, 3) := by decide +kernel
theorem dX3_miles_22 : decode cX3_miles 22 = .ok (.iload_n 1, 1) := by decide +kernel
theorem dX3_miles_23 : decode cX3_miles 23 = .ok (.aaload, 1) := by decide +kernel
theorem dX3_miles_24 : decode cX3_miles 24 = .ok (.iload_n 2, 1) := by decide +kernel
theorem dX3_miles_25 : decode cX3_miles 25 = .ok (.iaload, 1) := by decide +kernel
theorem dX3_miles_26 : decode cX3_miles 26 = .ok (.ldc 96, 2) := by decide +kernel
theorem dX3_miles_28 : decode cX3_miles 28 = .ok (.if_icmp .lt 7, 3) := by decide +kernel
theorem dX3_miles_31 : decode cX3_miles 31 = .ok (.iconst (-1), 1) := by decide +kernel
theorem dX3_miles_32 : decode cX3_miles 32 = .ok (.goto 11, 3) := by decide +kernel
theorem dX3_miles_35 : decode cX3_miles 35 = .ok (.aload_n 0, 1) := by decide +kernel
theorem dX3_miles_36 : decode cX3_miles 36 = .ok (.getfield 29, 3) := by decide +kernel
theorem dX3_miles_39 : decode cX3_miles 39 = .ok (.iload_n 1, 1) := by decide +kernel
theorem dX3_miles_40 : decode cX3_miles 40 = .ok (.aaload, 1) := by decide +kernel
theorem dX3_miles_41 : decode cX3_miles 41 = .ok (.iload_n 2, 1) := by decide +kernel
theorem dX3_miles_42 : decode cX3_miles 42 = .ok (.iaload, 1) := by decide +kernel
theorem dX3_miles_43 : decode cX3_miles 43 = .ok (.ireturn, 1) := by decide +kernel
theorem dX3_canWalk_0 : decode cX3_canWalk 0 = .ok (.aload_n 0, 1) := by decide +kernel
theorem dX3_canWalk_1 : decode cX3_canWalk 1 = .ok (.iload_n 1, 1) := by decide +kernel
theorem dX3_canWalk_2 : decode cX3_canWalk 2 = .ok (.iload_n 2, 1) := by decide +kernel
theorem dX3_canWalk_3 : decode cX3_canWalk 3 = .ok (.invokevirtual 102, 3) := by decide +kernel
theorem dX3_canWalk_6 : decode cX3_canWalk 6 = .ok (.istore 4, 2) := by decide +kernel
theorem dX3_canWalk_8 : decode cX3_canWalk 8 = .ok (.iload 4, 2) := by decide +kernel
theorem dX3_canWalk_10 : decode cX3_canWalk 10 = .ok (.ifCond .lt 13, 3) := by decide +kernel
theorem dX3_canWalk_13 : decode cX3_canWalk 13 = .ok (.iload 4, 2) := by decide +kernel
theorem dX3_canWalk_15 : decode cX3_canWalk 15 = .ok (.iload_n 3, 1) := by decide +kernel
theorem dX3_canWalk_16 : decode cX3_canWalk 16 = .ok (.if_icmp .gt 7, 3) := by decide +kernel
theorem dX3_canWalk_19 : decode cX3_canWalk 19 = .ok (.iconst 1, 1) := by decide +kernel
theorem dX3_canWalk_20 : decode cX3_canWalk 20 = .ok (.goto 4, 3) := by decide +kernel
theorem dX3_canWalk_23 : decode cX3_canWalk 23 = .ok (.iconst 0, 1) := by decide +kernel
theorem dX3_canWalk_24 : decode cX3_canWalk 24 = .ok (.ireturn, 1) := by decide +kernel
theorem dX3_near_0 : decode cX3_near 0 = .ok (.iconst 0, 1) := by decide +kernel
theorem dX3_near_1 : decode cX3_near 1 = .ok (.istore_n 3, 1) := by decide +kernel
theorem dX3_near_2 : decode cX3_near 2 = .ok (.iconst 0, 1) := by decide +kernel
theorem dX3_near_3 : decode cX3_near 3 = .ok (.istore 4, 2) := by decide +kernel
theorem dX3_near_5 : decode cX3_near 5 = .ok (.iload 4, 2) := by decide +kernel
theorem dX3_near_7 : decode cX3_near 7 = .ok (.aload_n 0, 1) := by decide +kernel
theorem dX3_near_8 : decode cX3_near 8 = .ok (.getfield 32, 3) := by decide +kernel
theorem dX3_near_11 : decode cX3_near 11 = .ok (.if_icmp .ge 44, 3) := by decide +kernel
theorem dX3_near_14 : decode cX3_near 14 = .ok (.iload 4, 2) := by decide +kernel
theorem dX3_near_16 : decode cX3_near 16 = .ok (.bipush 9, 2) := by decide +kernel
theorem dX3_near_18 : decode cX3_near 18 = .ok (.if_icmp .ge 37, 3) := by decide +kernel
theorem dX3_near_21 : decode cX3_near 21 = .ok (.aload_n 0, 1) := by decide +kernel
theorem dX3_near_22 : decode cX3_near 22 = .ok (.iload_n 1, 1) := by decide +kernel
theorem dX3_near_23 : decode cX3_near 23 = .ok (.invokevirtual 36, 3) := by decide +kernel
theorem dX3_near_26 : decode cX3_near 26 = .ok (.ifCond .eq 23, 3) := by decide +kernel
theorem dX3_near_29 : decode cX3_near 29 = .ok (.aload_n 0, 1) := by decide +kernel
theorem dX3_near_30 : decode cX3_near 30 = .ok (.getfield 29, 3) := by decide +kernel
theorem dX3_near_33 : decode cX3_near 33 = .ok (.iload_n 1, 1) := by decide +kernel
theorem dX3_near_34 : decode cX3_near 34 = .ok (.aaload, 1) := by decide +kernel
theorem dX3_near_35 : decode cX3_near 35 = .ok (.iload 4, 2) := by decide +kernel
theorem dX3_near_37 : decode cX3_near 37 = .ok (.iaload, 1) := by decide +kernel
theorem dX3_near_38 : decode cX3_near 38 = .ok (.iload_n 2, 1) := by decide +kernel
theorem dX3_near_39 : decode cX3_near 39 = .ok (.if_icmp .gt 10, 3) := by decide +kernel
theorem dX3_near_42 : decode cX3_near 42 = .ok (.iload_n 3, 1) := by decide +kernel
theorem dX3_near_43 : decode cX3_near 43 = .ok (.iconst 1, 1) := by decide +kernel
theorem dX3_near_44 : decode cX3_near 44 = .ok (.iload 4, 2) := by decide +kernel
theorem dX3_near_46 : decode cX3_near 46 = .ok (.ishl, 1) := by decide +kernel
theorem dX3_near_47 : decode cX3_near 47 = .ok (.ior, 1) := by decide +kernel
theorem dX3_near_48 : decode cX3_near 48 = .ok (.istore_n 3, 1) := by decide +kernel
theorem dX3_near_49 : decode cX3_near 49 = .ok (.iinc 4 1, 3) := by decide +kernel
theorem dX3_near_52 : decode cX3_near 52 = .ok (.goto (-47), 3) := by decide +kernel
theorem dX3_near_55 : decode cX3_near 55 = .ok (.iload_n 3, 1) := by decide +kernel
theorem dX3_near_56 : decode cX3_near 56 = .ok (.ireturn, 1) := by decide +kernel
theorem dX3_tellWay_0 : decode cX3_tellWay 0 = .ok (.aload_n 3, 1) := by decide +kernel
theorem dX3_tellWay_1 : decode cX3_tellWay 1 = .ok (.iload_n 1, 1) := by decide +kernel
theorem dX3_tellWay_2 : decode cX3_tellWay 2 = .ok (.i2l, 1) := by decide +kernel
theorem dX3_tellWay_3 : decode cX3_tellWay 3 = .ok (.invokevirtual 104, 3) := by decide +kernel
theorem dX3_tellWay_6 : decode cX3_tellWay 6 = .ok (.iload_n 1, 1) := by decide +kernel
theorem dX3_tellWay_7 : decode cX3_tellWay 7 = .ok (.istore 4, 2) := by decide +kernel
theorem dX3_tellWay_9 : decode cX3_tellWay 9 = .ok (.iconst 0, 1) := by decide +kernel
theorem dX3_tellWay_10 : decode cX3_tellWay 10 = .ok (.istore 5, 2) := by decide +kernel
theorem dX3_tellWay_12 : decode cX3_tellWay 12 = .ok (.iload 5, 2) := by decide +kernel
theorem dX3_tellWay_14 : decode cX3_tellWay 14 = .ok (.bipush 9, 2) := by decide +kernel
theorem dX3_tellWay_16 : decode cX3_tellWay 16 = .ok (.if_icmp .ge 40, 3) := by decide +kernel
theorem dX3_tellWay_19 : decode cX3_tellWay 19 = .ok (.iload 4, 2) := by decide +kernel
theorem dX3_tellWay_21 : decode cX3_tellWay 21 = .ok (.iload_n 2, 1) := by decide +kernel
theorem dX3_tellWay_22 : decode cX3_tellWay 22 = .ok (.if_icmp .eq 34, 3) := by decide +kernel
theorem dX3_tellWay_25 : decode cX3_tellWay 25 = .ok (.aload_n 0, 1) := by decide +kernel
theorem dX3_tellWay_26 : decode cX3_tellWay 26 = .ok (.iload 4, 2) := by decide +kernel
theorem dX3_tellWay_28 : decode cX3_tellWay 28 = .ok (.invokevirtual 36, 3) := by decide +kernel
theorem dX3_tellWay_31 : decode cX3_tellWay 31 = .ok (.ifCond .eq 25, 3) := by decide +kernel
theorem dX3_tellWay_34 : decode cX3_tellWay 34 = .ok (.aload_n 0, 1) := by decide +kernel
theorem dX3_tellWay_35 : decode cX3_tellWay 35 = .ok (.iload 4, 2) := by decide +kernel
theorem dX3_tellWay_37 : decode cX3_tellWay 37 = .ok (.iload_n 2, 1) := by decide +kernel
theorem dX3_tellWay_38 : decode cX3_tellWay 38 = .ok (.invokevirtual 110, 3) := by decide +kernel
theorem dX3_tellWay_41 : decode cX3_tellWay 41 = .ok (.istore 4, 2) := by decide +kernel
theorem dX3_tellWay_43 : decode cX3_tellWay 43 = .ok (.aload_n 3, 1) := by decide +kernel
theorem dX3_tellWay_44 : decode cX3_tellWay 44 = .ok (.iload 4, 2) := by decide +kernel
theorem dX3_tellWay_46 : decode cX3_tellWay 46 = .ok (.i2l, 1) := by decide +kernel
theorem dX3_tellWay_47 : decode cX3_tellWay 47 = .ok (.invokevirtual 104, 3) := by decide +kernel
theorem dX3_tellWay_50 : decode cX3_tellWay 50 = .ok (.iinc 5 1, 3) := by decide +kernel
theorem dX3_tellWay_53 : decode cX3_tellWay 53 = .ok (.goto (-41), 3) := by decide +kernel
theorem dX3_tellWay_56 : decode cX3_tellWay 56 = .ok (.return_, 1) := by decide +kernel
theorem dX3_leastNext_0 : decode cX3_leastNext 0 = .ok (.aload_n 0, 1) := by decide +kernel
theorem dX3_leastNext_1 : decode cX3_leastNext 1 = .ok (.iload_n 1, 1) := by decide +kernel
theorem dX3_leastNext_2 : decode cX3_leastNext 2 = .ok (.invokevirtual 36, 3) := by decide +kernel
theorem dX3_leastNext_5 : decode cX3_leastNext 5 = .ok (.ifCond .eq 11, 3) := by decide +kernel
theorem dX3_leastNext_8 : decode cX3_leastNext 8 = .ok (.aload_n 0, 1) := by decide +kernel
theorem dX3_leastNext_9 : decode cX3_leastNext 9 = .ok (.iload_n 2, 1) := by decide +kernel
theorem dX3_leastNext_10 : decode cX3_leastNext 10 = .ok (.invokevirtual 36, 3) := by decide +kernel
theorem dX3_leastNext_13 : decode cX3_leastNext 13 = .ok (.ifCond .ne 5, 3) := by decide +kernel
theorem dX3_leastNext_16 : decode cX3_leastNext 16 = .ok (.iload_n 2, 1) := by decide +kernel
theorem dX3_leastNext_17 : decode cX3_leastNext 17 = .ok (.ireturn, 1) := by decide +kernel
theorem dX3_leastNext_18 : decode cX3_leastNext 18 = .ok (.iconst 0, 1) := by decide +kernel
theorem dX3_leastNext_19 : decode cX3_leastNext 19 = .ok (.istore_n 3, 1) := by decide +kernel
theorem dX3_leastNext_20 : decode cX3_leastNext 20 = .ok (.iload_n 3, 1) := by decide +kernel
theorem dX3_leastNext_21 : decode cX3_leastNext 21 = .ok (.aload_n 0, 1) := by decide +kernel
theorem dX3_leastNext_22 : decode cX3_leastNext 22 = .ok (.getfield 32, 3) := by decide +kernel
theorem dX3_leastNext_25 : decode cX3_leastNext 25 = .ok (.if_icmp .ge 50, 3) := by decide +kernel
theorem dX3_leastNext_28 : decode cX3_leastNext 28 = .ok (.iload_n 3, 1) := by decide +kernel
theorem dX3_leastNext_29 : decode cX3_leastNext 29 = .ok (.bipush 9, 2) := by decide +kernel
theorem dX3_leastNext_31 : decode cX3_leastNext 31 = .ok (.if_icmp .ge 44, 3) := by decide +kernel
theorem dX3_leastNext_34 : decode cX3_leastNext 34 = .ok (.iload_n 3, 1) := by decide +kernel
theorem dX3_leastNext_35 : decode cX3_leastNext 35 = .ok (.iload_n 1, 1) := by decide +kernel
theorem dX3_leastNext_36 : decode cX3_leastNext 36 = .ok (.if_icmp .eq 33, 3) := by decide +kernel
theorem dX3_leastNext_39 : decode cX3_leastNext 39 = .ok (.aload_n 0, 1) := by decide +kernel
theorem dX3_leastNext_40 : decode cX3_leastNext 40 = .ok (.getfield 26, 3) := by decide +kernel
theorem dX3_leastNext_43 : decode cX3_leastNext 43 = .ok (.iload_n 1, 1) := by decide +kernel
theorem dX3_leastNext_44 : decode cX3_leastNext 44 = .ok (.aaload, 1) := by decide +kernel
theorem dX3_leastNext_45 : decode cX3_leastNext 45 = .ok (.iload_n 3, 1) := by decide +kernel
theorem dX3_leastNext_46 : decode cX3_leastNext 46 = .ok (.iaload, 1) := by decide +kernel
theorem dX3_leastNext_47 : decode cX3_leastNext 47 = .ok (.aload_n 0, 1) := by decide +kernel
theorem dX3_leastNext_48 : decode cX3_leastNext 48 = .ok (.getfield 29, 3) := by decide +kernel
theorem dX3_leastNext_51 : decode cX3_leastNext 51 = .ok (.iload_n 3, 1) := by decide +kernel
theorem dX3_leastNext_52 : decode cX3_leastNext 52 = .ok (.aaload, 1) := by decide +kernel
theorem dX3_leastNext_53 : decode cX3_leastNext 53 = .ok (.iload_n 2, 1) := by decide +kernel
theorem dX3_leastNext_54 : decode cX3_leastNext 54 = .ok (.iaload, 1) := by decide +kernel
theorem dX3_leastNext_55 : decode cX3_leastNext 55 = .ok (.iadd, 1) := by decide +kernel
theorem dX3_leastNext_56 : decode cX3_leastNext 56 = .ok (.aload_n 0, 1) := by decide +kernel
theorem dX3_leastNext_57 : decode cX3_leastNext 57 = .ok (.getfield 29, 3) := by decide +kernel
theorem dX3_leastNext_60 : decode cX3_leastNext 60 = .ok (.iload_n 1, 1) := by decide +kernel
theorem dX3_leastNext_61 : decode cX3_leastNext 61 = .ok (.aaload, 1) := by decide +kernel
theorem dX3_leastNext_62 : decode cX3_leastNext 62 = .ok (.iload_n 2, 1) := by decide +kernel
theorem dX3_leastNext_63 : decode cX3_leastNext 63 = .ok (.iaload, 1) := by decide +kernel
theorem dX3_leastNext_64 : decode cX3_leastNext 64 = .ok (.if_icmp .ne 5, 3) := by decide +kernel
theorem dX3_leastNext_67 : decode cX3_leastNext 67 = .ok (.iload_n 3, 1) := by decide +kernel
theorem dX3_leastNext_68 : decode cX3_leastNext 68 = .ok (.ireturn, 1) := by decide +kernel
theorem dX3_leastNext_69 : decode cX3_leastNext 69 = .ok (.iinc 3 1, 3) := by decide +kernel
theorem dX3_leastNext_72 : decode cX3_leastNext 72 = .ok (.goto (-52), 3) := by decide +kernel
theorem dX3_leastNext_75 : decode cX3_leastNext 75 = .ok (.iload_n 2, 1) := by decide +kernel
theorem dX3_leastNext_76 : decode cX3_leastNext 76 = .ok (.ireturn, 1) := by decide +kernel
theorem dX4_init_0 : decode cX4_init 0 = .ok (.aload_n 0, 1) := by decide +kernel
theorem dX4_init_1 : decode cX4_init 1 = .ok (.invokespecial 3, 3) := by decide +kernel
theorem dX4_init_4 : decode cX4_init 4 = .ok (.aload_n 0, 1) := by decide +kernel
theorem dX4_init_5 : decode cX4_init 5 = .ok (.bipush 16, 2) := by decide +kernel
theorem dX4_init_7 : decode cX4_init 7 = .ok (.newarray .long, 2) := by decide +kernel
theorem dX4_init_9 : decode cX4_init 9 = .ok (.putfield 11, 3) := by decide +kernel
theorem dX4_init_12 : decode cX4_init 12 = .ok (.return_, 1) := by decide +kernel
theorem dX4_clear_0 : decode cX4_clear 0 = .ok (.aload_n 0, 1) := by decide +kernel
theorem dX4_clear_1 : decode cX4_clear 1 = .ok (.iconst 0, 1) := by decide +kernel
theorem dX4_clear_2 : decode cX4_clear 2 = .ok (.putfield 15, 3) := by decide +kernel
theorem dX4_clear_5 : decode cX4_clear 5 = .ok (.return_, 1) := by decide +kernel
theorem dX4_add_0 : decode cX4_add 0 = .ok (.aload_n 0, 1) := by decide +kernel
theorem dX4_add_1 : decode cX4_add 1 = .ok (.getfield 15, 3) := by decide +kernel
theorem dX4_add_4 : decode cX4_add 4 = .ok (.ifCond .lt 32, 3) := by decide +kernel
theorem dX4_add_7 : decode cX4_add 7 = .ok (.aload_n 0, 1) := by decide +kernel
theorem dX4_add_8 : decode cX4_add 8 = .ok (.getfield 15, 3) := by decide +kernel
theorem dX4_add_11 : decode cX4_add 11 = .ok (.bipush 16, 2) := by decide +kernel
theorem dX4_add_13 : decode cX4_add 13 = .ok (.if_icmp .ge 23, 3) := by decide +kernel
theorem dX4_add_16 : decode cX4_add 16 = .ok (.aload_n 0, 1) := by decide +kernel
theorem dX4_add_17 : decode cX4_add 17 = .ok (.getfield 11, 3) := by decide +kernel
theorem dX4_add_20 : decode cX4_add 20 = .ok (.aload_n 0, 1) := by decide +kernel
theorem dX4_add_21 : decode cX4_add 21 = .ok (.getfield 15, 3) := by decide +kernel
theorem dX4_add_24 : decode cX4_add 24 = .ok (.lload_n 1, 1) := by decide +kernel
theorem dX4_add_25 : decode cX4_add 25 = .ok (.lastore, 1) := by decide +kernel
theorem dX4_add_26 : decode cX4_add 26 = .ok (.aload_n 0, 1) := by decide +kernel
theorem dX4_add_27 : decode cX4_add 27 = .ok (.dup, 1) := by decide +kernel
theorem dX4_add_28 : decode cX4_add 28 = .ok (.getfield 15, 3) := by decide +kernel
theorem dX4_add_31 : decode cX4_add 31 = .ok (.iconst 1, 1) := by decide +kernel
theorem dX4_add_32 : decode cX4_add 32 = .ok (.iadd, 1) := by decide +kernel
theorem dX4_add_33 : decode cX4_add 33 = .ok (.putfield 15, 3) := by decide +kernel
theorem dX4_add_36 : decode cX4_add 36 = .ok (.return_, 1) := by decide +kernel
theorem dX4_has_0 : decode cX4_has 0 = .ok (.iload_n 1, 1) := by decide +kernel
theorem dX4_has_1 : decode cX4_has 1 = .ok (.ifCond .lt 21, 3) := by decide +kernel
theorem dX4_has_4 : decode cX4_has 4 = .ok (.iload_n 1, 1) := by decide +kernel
theorem dX4_has_5 : decode cX4_has 5 = .ok (.aload_n 0, 1) := by decide +kernel
theorem dX4_has_6 : decode cX4_has 6 = .ok (.getfield 15, 3) := by decide +kernel
theorem dX4_has_9 : decode cX4_has 9 = .ok (.if_icmp .ge 13, 3) := by decide +kernel
theorem dX4_has_12 : decode cX4_has 12 = .ok (.iload_n 1, 1) := by decide +kernel
theorem dX4_has_13 : decode cX4_has 13 = .ok (.bipush 16, 2) := by decide +kernel
theorem dX4_has_15 : decode cX4_has 15 = .ok (.if_icmp .ge 7, 3) := by decide +kernel
theorem dX4_has_18 : decode cX4_has 18 = .ok (.iconst 1, 1) := by decide +kernel
theorem dX4_has_19 : decode cX4_has 19 = .ok (.goto 4, 3) := by decide +kernel
theorem dX4_has_22 : decode cX4_has 22 = .ok (.iconst 0, 1) := by decide +kernel
theorem dX4_has_23 : decode cX4_has 23 = .ok (.ireturn, 1) := by decide +kernel
theorem dX4_at_0 : decode cX4_at 0 = .ok (.aload_n 0, 1) := by decide +kernel
theorem dX4_at_1 : decode cX4_at 1 = .ok (.iload_n 1, 1) := by decide +kernel
theorem dX4_at_2 : decode cX4_at 2 = .ok (.invokevirtual 19, 3) := by decide +kernel
theorem dX4_at_5 : decode cX4_at 5 = .ok (.ifCond .eq 12, 3) := by decide +kernel
theorem dX4_at_8 : decode cX4_at 8 = .ok (.aload_n 0, 1) := by decide +kernel
theorem dX4_at_9 : decode cX4_at 9 = .ok (.getfield 11, 3) := by decide +kernel
theorem dX4_at_12 : decode cX4_at 12 = .ok (.iload_n 1, 1) := by decide +kernel
theorem dX4_at_13 : decode cX4_at 13 = .ok (.laload, 1) := by decide +kernel
theorem dX4_at_14 : decode cX4_at 14 = .ok (.goto 6, 3) := by decide +kernel
theorem dX4_at_17 : decode cX4_at 17 = .ok (.ldc2_w 23, 3) := by decide +kernel
theorem dX4_at_20 : decode cX4_at 20 = .ok (.lreturn, 1) := by decide +kernel
theorem dX5_init_0 : decode cX5_init 0 = .ok (.aload_n 0, 1) := by decide +kernel
theorem dX5_init_1 : decode cX5_init 1 = .ok (.invokespecial 3, 3) := by decide +kernel
theorem dX5_init_4 : decode cX5_init 4 = .ok (.aload_n 0, 1) := by decide +kernel
theorem dX5_init_5 : decode cX5_init 5 = .ok (.bipush 12, 2) := by decide +kernel
theorem dX5_init_7 : decode cX5_init 7 = .ok (.anewarray 11, 3) := by decide +kernel
theorem dX5_init_10 : decode cX5_init 10 = .ok (.putfield 13, 3) := by decide +kernel
theorem dX5_init_13 : decode cX5_init 13 = .ok (.aload_n 0, 1) := by decide +kernel
theorem dX5_init_14 : decode cX5_init 14 = .ok (.iconst 2, 1) := by decide +kernel
theorem dX5_init_15 : decode cX5_init 15 = .ok (.anewarray 11, 3) := by decide +kernel
theorem dX5_init_18 : decode cX5_init 18 = .ok (.putfield 17, 3) := by decide +kernel
theorem dX5_init_21 : decode cX5_init 21 = .ok (.aload_n 0, 1) := by decide +kernel
theorem dX5_init_22 : decode cX5_init 22 = .ok (.iconst 2, 1) := by decide +kernel
theorem dX5_init_23 : decode cX5_init 23 = .ok (.newarray .boolean, 2) := by decide +kernel
theorem dX5_init_25 : decode cX5_init 25 = .ok (.putfield 20, 3) := by decide +kernel
theorem dX5_init_28 : decode cX5_init 28 = .ok (.iconst 0, 1) := by decide +kernel
theorem dX5_init_29 : decode cX5_init 29 = .ok (.istore_n 1, 1) := by decide +kernel
theorem dX5_init_30 : decode cX5_init 30 = .ok (.iload_n 1, 1) := by decide +kernel
theorem dX5_init_31 : decode cX5_init 31 = .ok (.bipush 12, 2) := by decide +kernel
theorem dX5_init_33 : decode cX5_init 33 = .ok (.if_icmp .ge 22, 3) := by decide +kernel
theorem dX5_init_36 : decode cX5_init 36 = .ok (.aload_n 0, 1) := by decide +kernel
theorem dX5_init_37 : decode cX5_init 37 = .ok (.getfield 13, 3) := by decide +kernel
theorem dX5_init_40 : decode cX5_init 40 = .ok (.iload_n 1, 1) := by decide +kernel
theorem dX5_init_41 : decode cX5_init 41 = .ok (.new 11, 3) := by decide +kernel
theorem dX5_init_44 : decode cX5_init 44 = .ok (.dup, 1) := by decide +kernel
theorem dX5_init_45 : decode cX5_init 45 = .ok (.invokespecial 24, 3) := by decide +kernel
theorem dX5_init_48 : decode cX5_init 48 = .ok (.aastore, 1) := by decide +kernel
theorem dX5_init_49 : decode cX5_init 49 = .ok (.iinc 1 1, 3) := by decide +kernel
theorem dX5_init_52 : decode cX5_init 52 = .ok (.goto (-22), 3) := by decide +kernel
theorem dX5_init_55 : decode cX5_init 55 = .ok (.iconst 0, 1) := by decide +kernel
theorem dX5_init_56 : decode cX5_init 56 = .ok (.istore_n 1, 1) := by decide +kernel
theorem dX5_init_57 : decode cX5_init 57 = .ok (.iload_n 1, 1) := by decide +kernel
theorem dX5_init_58 : decode cX5_init 58 = .ok (.iconst 2, 1) := by decide +kernel
theorem dX5_init_59 : decode cX5_init 59 = .ok (.if_icmp .ge 22, 3) := by decide +kernel
theorem dX5_init_62 : decode cX5_init 62 = .ok (.aload_n 0, 1) := by decide +kernel
theorem dX5_init_63 : decode cX5_init 63 = .ok (.getfield 17, 3) := by decide +kernel
theorem dX5_init_66 : decode cX5_init 66 = .ok (.iload_n 1, 1) := by decide +kernel
theorem dX5_init_67 : decode cX5_init 67 = .ok (.new 11, 3) := by decide +kernel
theorem dX5_init_70 : decode cX5_init 70 = .ok (.dup, 1) := by decide +kernel
theorem dX5_init_71 : decode cX5_init 71 = .ok (.invokespecial 24, 3) := by decide +kernel
theorem dX5_init_74 : decode cX5_init 74 = .ok (.aastore, 1) := by decide +kernel
theorem dX5_init_75 : decode cX5_init 75 = .ok (.iinc 1 1, 3) := by decide +kernel
theorem dX5_init_78 : decode cX5_init 78 = .ok (.goto (-21), 3) := by decide +kernel
theorem dX5_init_81 : decode cX5_init 81 = .ok (.return_, 1) := by decide +kernel
theorem dX5_inRing_0 : decode cX5_inRing 0 = .ok (.aload_n 0, 1) := by decide +kernel
theorem dX5_inRing_1 : decode cX5_inRing 1 = .ok (.getfield 25, 3) := by decide +kernel
theorem dX5_inRing_4 : decode cX5_inRing 4 = .ok (.iload_n 1, 1) := by decide +kernel
theorem dX5_inRing_5 : decode cX5_inRing 5 = .ok (.iadd, 1) := by decide +kernel
theorem dX5_inRing_6 : decode cX5_inRing 6 = .ok (.bipush 12, 2) := by decide +kernel
theorem dX5_inRing_8 : decode cX5_inRing 8 = .ok (.irem, 1) := by decide +kernel
theorem dX5_inRing_9 : decode cX5_inRing 9 = .ok (.istore_n 2, 1) := by decide +kernel
theorem dX5_inRing_10 : decode cX5_inRing 10 = .ok (.iload_n 2, 1) := by decide +kernel
theorem dX5_inRing_11 : decode cX5_inRing 11 = .ok (.ifCond .lt 12, 3) := by decide +kernel
theorem dX5_inRing_14 : decode cX5_inRing 14 = .ok (.aload_n 0, 1) := by decide +kernel
theorem dX5_inRing_15 : decode cX5_inRing 15 = .ok (.getfield 13, 3) := by decide +kernel
theorem dX5_inRing_18 : decode cX5_inRing 18 = .ok (.iload_n 2, 1) := by decide +kernel
theorem dX5_inRing_19 : decode cX5_inRing 19 = .ok (.aaload, 1) := by decide +kernel
theorem dX5_inRing_20 : decode cX5_inRing 20 = .ok (.goto 4, 3) := by decide +kernel
theorem dX5_inRing_23 : decode cX5_inRing 23 = .ok (.aconst_null, 1) := by decide +kernel
theorem dX5_inRing_24 : decode cX5_inRing 24 = .ok (.areturn, 1) := by decide +kernel
theorem dX5_push_0 : decode cX5_push 0 = .ok (.aload_n 0, 1) := by decide +kernel
theorem dX5_push_1 : decode cX5_push 1 = .ok (.getfield 29, 3) := by decide +kernel
theorem dX5_push_4 : decode cX5_push 4 = .ok (.bipush 12, 2) := by decide +kernel
theorem dX5_push_6 : decode cX5_push 6 = .ok (.if_icmp .lt 22, 3) := by decide +kernel
theorem dX5_push_9 : decode cX5_push 9 = .ok (.aload_n 0, 1) := by decide +kernel
theorem dX5_push_10 : decode cX5_push 10 = .ok (.aload_n 0, 1) := by decide +kernel
theorem dX5_push_11 : decode cX5_push 11 = .ok (.getfield 25, 3) := by decide +kernel
theorem dX5_push_14 : decode cX5_push 14 = .ok (.iconst 1, 1) := by decide +kernel
theorem dX5_push_15 : decode cX5_push 15 = .ok (.iadd, 1) := by decide +kernel
theorem dX5_push_16 : decode cX5_push 16 = .ok (.bipush 12, 2) := by decide +kernel
theorem dX5_push_18 : decode cX5_push 18 = .ok (.irem, 1) := by decide +kernel
theorem dX5_push_19 : decode cX5_push 19 = .ok (.putfield 25, 3) := by decide +kernel
theorem dX5_push_22 : decode cX5_push 22 = .ok (.aload_n 0, 1) := by decide +kernel
theorem dX5_push_23 : decode cX5_push 23 = .ok (.bipush 11, 2) := by decide +kernel
theorem dX5_push_25 : decode cX5_push 25 = .ok (.putfield 29, 3) := by decide +kernel
theorem dX5_push_28 : decode cX5_push 28 = .ok (.aload_n 0, 1) := by decide +kernel
theorem dX5_push_29 : decode cX5_push 29 = .ok (.aload_n 0, 1) := by decide +kernel
theorem dX5_push_30 : decode cX5_push 30 = .ok (.getfield 29, 3) := by decide +kernel
theorem dX5_push_33 : decode cX5_push 33 = .ok (.invokevirtual 32, 3) := by decide +kernel
theorem dX5_push_36 : decode cX5_push 36 = .ok (.astore_n 2, 1) := by decide +kernel
theorem dX5_push_37 : decode cX5_push 37 = .ok (.aload_n 2, 1) := by decide +kernel
theorem dX5_push_38 : decode cX5_push 38 = .ok (.ifnull 18, 3) := by decide +kernel
theorem dX5_push_41 : decode cX5_push 41 = .ok (.aload_n 2, 1) := by decide +kernel
theorem dX5_push_42 : decode cX5_push 42 = .ok (.aload_n 1, 1) := by decide +kernel
theorem dX5_push_43 : decode cX5_push 43 = .ok (.invokevirtual 36, 3) := by decide +kernel
theorem dX5_push_46 : decode cX5_push 46 = .ok (.aload_n 0, 1) := by decide +kernel
theorem dX5_push_47 : decode cX5_push 47 = .ok (.dup, 1) := by decide +kernel
theorem dX5_push_48 : decode cX5_push 48 = .ok (.getfield 29, 3) := by decide +kernel
theorem dX5_push_51 : decode cX5_push 51 = .ok (.iconst 1, 1) := by decide +kernel
theorem dX5_push_52 : decode cX5_push 52 = .ok (.iadd, 1) := by decide +kernel
theorem dX5_push_53 : decode cX5_push 53 = .ok (.putfield 29, 3) := by decide +kernel
theorem dX5_push_56 : decode cX5_push 56 = .ok (.return_, 1) := by decide +kernel
theorem dX5_takeBack_0 : decode cX5_takeBack 0 = .ok (.aload_n 0, 1) := by decide +kernel
theorem dX5_takeBack_1 : decode cX5_takeBack 1 = .ok (.getfield 29, 3) := by decide +kernel
theorem dX5_takeBack_4 : decode cX5_takeBack 4 = .ok (.ifCond .gt 5, 3) := by decide +kernel
theorem dX5_takeBack_7 : decode cX5_takeBack 7 = .ok (.iconst (-1), 1) := by decide +kernel
theorem dX5_takeBack_8 : decode cX5_takeBack 8 = .ok (.ireturn, 1) := by decide +kernel
theorem dX5_takeBack_9 : decode cX5_takeBack 9 = .ok (.aload_n 0, 1) := by decide +kernel
theorem dX5_takeBack_10 : decode cX5_takeBack 10 = .ok (.aload_n 0, 1) := by decide +kernel
theorem dX5_takeBack_11 : decode cX5_takeBack 11 = .ok (.getfield 29, 3) := by decide +kernel
theorem dX5_takeBack_14 : decode cX5_takeBack 14 = .ok (.iconst 1, 1) := by decide +kernel
theorem dX5_takeBack_15 : decode cX5_takeBack 15 = .ok (.isub, 1) := by decide +kernel
theorem dX5_takeBack_16 : decode cX5_takeBack 16 = .ok (.invokevirtual 32, 3) := by decide +kernel
theorem dX5_takeBack_19 : decode cX5_takeBack 19 = .ok (.astore_n 2, 1) := by decide +kernel
theorem dX5_takeBack_20 : decode cX5_takeBack 20 = .ok (.aload_n 2, 1) := by decide +kernel
theorem dX5_takeBack_21 : decode cX5_takeBack 21 = .ok (.ifnonnull 5, 3) := by decide +kernel
theorem dX5_takeBack_24 : decode cX5_takeBack 24 = .ok (.iconst (-1), 1) := by decide +kernel
theorem dX5_takeBack_25 : decode cX5_takeBack 25 = .ok (.ireturn, 1) := by decide +kernel
theorem dX5_takeBack_26 : decode cX5_takeBack 26 = .ok (.aload_n 1, 1) := by decide +kernel
theorem dX5_takeBack_27 : decode cX5_takeBack 27 = .ok (.aload_n 2, 1) := by decide +kernel
theorem dX5_takeBack_28 : decode cX5_takeBack 28 = .ok (.invokevirtual 36, 3) := by decide +kernel
theorem dX5_takeBack_31 : decode cX5_takeBack 31 = .ok (.aload_n 0, 1) := by decide +kernel
theorem dX5_takeBack_32 : decode cX5_takeBack 32 = .ok (.dup, 1) := by decide +kernel
theorem dX5_takeBack_33 : decode cX5_takeBack 33 = .ok (.getfield 29, 3) := by decide +kernel
theorem dX5_takeBack_36 : decode cX5_takeBack 36 = .ok (.iconst 1, 1) := by decide +kernel
theorem dX5_takeBack_37 : decode cX5_takeBack 37 = .ok (.isub, 1) := by decide +kernel
theorem dX5_takeBack_38 : decode cX5_takeBack 38 = .ok (.putfield 29, 3) := by decide +kernel
theorem dX5_takeBack_41 : decode cX5_takeBack 41 = .ok (.aload_n 0, 1) := by decide +kernel
theorem dX5_takeBack_42 : decode cX5_takeBack 42 = .ok (.getfield 29, 3) := by decide +kernel
theorem dX5_takeBack_45 : decode cX5_takeBack 45 = .ok (.ireturn, 1) := by decide +kernel
theorem dX5_keepUnder_0 : decode cX5_keepUnder 0 = .ok (.iload_n 1, 1) := by decide +kernel
theorem dX5_keepUnder_1 : decode cX5_keepUnder 1 = .ok (.ifCond .lt 17, 3) := by decide +kernel
theorem dX5_keepUnder_4 : decode cX5_keepUnder 4 = .ok (.iload_n 1, 1) := by decide +kernel
theorem dX5_keepUnder_5 : decode cX5_keepUnder 5 = .ok (.iconst 2, 1) := by decide +kernel
theorem dX5_keepUnder_6 : decode cX5_keepUnder 6 = .ok (.if_icmp .ge 12, 3) := by decide +kernel
theorem dX5_keepUnder_9 : decode cX5_keepUnder 9 = .ok (.aload_n 0, 1) := by decide +kernel
theorem dX5_keepUnder_10 : decode cX5_keepUnder 10 = .ok (.getfield 17, 3) := by decide +kernel
theorem dX5_keepUnder_13 : decode cX5_keepUnder 13 = .ok (.iload_n 1, 1) := by decide +kernel
theorem dX5_keepUnder_14 : decode cX5_keepUnder 14 = .ok (.aaload, 1) := by decide +kernel
theorem dX5_keepUnder_15 : decode cX5_keepUnder 15 = .ok (.ifnonnull 5, 3) := by decide +kernel
theorem dX5_keepUnder_18 : decode cX5_keepUnder 18 = .ok (.iconst 0, 1) := by decide +kernel
theorem dX5_keepUnder_19 : decode cX5_keepUnder 19 = .ok (.ireturn, 1) := by decide +kernel
theorem dX5_keepUnder_20 : decode cX5_keepUnder 20 = .ok (.aload_n 0, 1) := by decide +kernel
theorem dX5_keepUnder_21 : decode cX5_keepUnder 21 = .ok (.getfield 17, 3) := by decide +kernel
theorem dX5_keepUnder_24 : decode cX5_keepUnder 24 = .ok (.iload_n 1, 1) := by decide +kernel
theorem dX5_keepUnder_25 : decode cX5_keepUnder 25 = .ok (.aaload, 1) := by decide +kernel
theorem dX5_keepUnder_26 : decode cX5_keepUnder 26 = .ok (.aload_n 2, 1) := by decide +kernel
theorem dX5_keepUnder_27 : decode cX5_keepUnder 27 = .ok (.invokevirtual 36, 3) := by decide +kernel
theorem dX5_keepUnder_30 : decode cX5_keepUnder 30 = .ok (.aload_n 0, 1) := by decide +kernel
theorem dX5_keepUnder_31 : decode cX5_keepUnder 31 = .ok (.getfield 20, 3) := by decide +kernel
theorem dX5_keepUnder_34 : decode cX5_keepUnder 34 = .ok (.iload_n 1, 1) := by decide +kernel
theorem dX5_keepUnder_35 : decode cX5_keepUnder 35 = .ok (.iconst 1, 1) := by decide +kernel
theorem dX5_keepUnder_36 : decode cX5_keepUnder 36 = .ok (.bastore, 1) := by decide +kernel
theorem dX5_keepUnder_37 : decode cX5_keepUnder 37 = .ok (.iconst 1, 1) := by decide +kernel
theorem dX5_keepUnder_38 : decode cX5_keepUnder 38 = .ok (.ireturn, 1) := by decide +kernel
theorem dX5_bringBack_0 : decode cX5_bringBack 0 = .ok (.iload_n 1, 1) := by decide +kernel
theorem dX5_bringBack_1 : decode cX5_bringBack 1 = .ok (.ifCond .lt 26, 3) := by decide +kernel
theorem dX5_bringBack_4 : decode cX5_bringBack 4 = .ok (.iload_n 1, 1) := by decide +kernel
theorem dX5_bringBack_5 : decode cX5_bringBack 5 = .ok (.iconst 2, 1) := by decide +kernel
theorem dX5_bringBack_6 : decode cX5_bringBack 6 = .ok (.if_icmp .ge 21, 3) := by decide +kernel
theorem dX5_bringBack_9 : decode cX5_bringBack 9 = .ok (.aload_n 0, 1) := by decide +kernel
theorem dX5_bringBack_10 : decode cX5_bringBack 10 = .ok (.getfield 20, 3) := by decide +kernel
theorem dX5_bringBack_13 : decode cX5_bringBack 13 = .ok (.iload_n 1, 1) := by decide +kernel
theorem dX5_bringBack_14 : decode cX5_bringBack 14 = .ok (.baload, 1) := by decide +kernel
theorem dX5_bringBack_15 : decode cX5_bringBack 15 = .ok (.ifCond .eq 12, 3) := by decide +kernel
theorem dX5_bringBack_18 : decode cX5_bringBack 18 = .ok (.aload_n 0, 1) := by decide +kernel
theorem dX5_bringBack_19 : decode cX5_bringBack 19 = .ok (.getfield 17, 3) := by decide +kernel
theorem dX5_bringBack_22 : decode cX5_bringBack 22 = .ok (.iload_n 1, 1) := by decide +kernel
theorem dX5_bringBack_23 : decode cX5_bringBack 23 = .ok (.aaload, 1) := by decide +kernel
theorem dX5_bringBack_24 : decode cX5_bringBack 24 = .ok (.ifnonnull 5, 3) := by decide +kernel
theorem dX5_bringBack_27 : decode cX5_bringBack 27 = .ok (.iconst 0, 1) := by decide +kernel
theorem dX5_bringBack_28 : decode cX5_bringBack 28 = .ok (.ireturn, 1) := by decide +kernel
theorem dX5_bringBack_29 : decode cX5_bringBack 29 = .ok (.aload_n 2, 1) := by decide +kernel
theorem dX5_bringBack_30 : decode cX5_bringBack 30 = .ok (.aload_n 0, 1) := by decide +kernel
theorem dX5_bringBack_31 : decode cX5_bringBack 31 = .ok (.getfield 17, 3) := by decide +kernel
theorem dX5_bringBack_34 : decode cX5_bringBack 34 = .ok (.iload_n 1, 1) := by decide +kernel
theorem dX5_bringBack_35 : decode cX5_bringBack 35 = .ok (.aaload, 1) := by decide +kernel
theorem dX5_bringBack_36 : decode cX5_bringBack 36 = .ok (.invokevirtual 36, 3) := by decide +kernel
theorem dX5_bringBack_39 : decode cX5_bringBack 39 = .ok (.aload_n 0, 1) := by decide +kernel
theorem dX5_bringBack_40 : decode cX5_bringBack 40 = .ok (.iconst 0, 1) := by decide +kernel
theorem dX5_bringBack_41 : decode cX5_bringBack 41 = .ok (.putfield 29, 3) := by decide +kernel
theorem dX5_bringBack_44 : decode cX5_bringBack 44 = .ok (.iconst 1, 1) := by decide +kernel
theorem dX5_bringBack_45 : decode cX5_bringBack 45 = .ok (.ireturn, 1) := by decide +kernel
theorem dX5_forgetAll_0 : decode cX5_forgetAll 0 = .ok (.aload_n 0, 1) := by decide +kernel
theorem dX5_forgetAll_1 : decode cX5_forgetAll 1 = .ok (.iconst 0, 1) := by decide +kernel
theorem dX5_forgetAll_2 : decode cX5_forgetAll 2 = .ok (.putfield 29, 3) := by decide +kernel
theorem dX5_forgetAll_5 : decode cX5_forgetAll 5 = .ok (.iconst 0, 1) := by decide +kernel
theorem dX5_forgetAll_6 : decode cX5_forgetAll 6 = .ok (.istore_n 1, 1) := by decide +kernel
theorem dX5_forgetAll_7 : decode cX5_forgetAll 7 = .ok (.iload_n 1, 1) := by decide +kernel
theorem dX5_forgetAll_8 : decode cX5_forgetAll 8 = .ok (.iconst 2, 1) := by decide +kernel
theorem dX5_forgetAll_9 : decode cX5_forgetAll 9 = .ok (.if_icmp .ge 16, 3) := by decide +kernel
theorem dX5_forgetAll_12 : decode cX5_forgetAll 12 = .ok (.aload_n 0, 1) := by decide +kernel
theorem dX5_forgetAll_13 : decode cX5_forgetAll 13 = .ok (.getfield 20, 3) := by decide +kernel
theorem dX5_forgetAll_16 : decode cX5_forgetAll 16 = .ok (.iload_n 1, 1) := by decide +kernel
theorem dX5_forgetAll_17 : decode cX5_forgetAll 17 = .ok (.iconst 0, 1) := by decide +kernel
theorem dX5_forgetAll_18 : decode cX5_forgetAll 18 = .ok (.bastore, 1) := by decide +kernel
theorem dX5_forgetAll_19 : decode cX5_forgetAll 19 = .ok (.iinc 1 1, 3) := by decide +kernel
theorem dX5_forgetAll_22 : decode cX5_forgetAll 22 = .ok (.goto (-15), 3) := by decide +kernel
theorem dX5_forgetAll_25 : decode cX5_forgetAll 25 = .ok (.return_, 1) := by decide +kernel
theorem dX6_init_0 : decode cX6_init 0 = .ok (.aload_n 0, 1) := by decide +kernel
theorem dX6_init_1 : decode cX6_init 1 = .ok (.invokespecial 3, 3) := by decide +kernel
theorem dX6_init_4 : decode cX6_init 4 = .ok (.aload_n 0, 1) := by decide +kernel
theorem dX6_init_5 : decode cX6_init 5 = .ok (.bipush 12, 2) := by decide +kernel
theorem dX6_init_7 : decode cX6_init 7 = .ok (.bipush 9, 2) := by decide +kernel
theorem dX6_init_9 : decode cX6_init 9 = .ok (.multianewarray 11 2, 4) := by decide +kernel
theorem dX6_init_13 : decode cX6_init 13 = .ok (.putfield 13, 3) := by decide +kernel
theorem dX6_init_16 : decode cX6_init 16 = .ok (.aload_n 0, 1) := by decide +kernel
theorem dX6_init_17 : decode cX6_init 17 = .ok (.bipush 12, 2) := by decide +kernel
theorem dX6_init_19 : decode cX6_init 19 = .ok (.bipush 9, 2) := by decide +kernel
theorem dX6_init_21 : decode cX6_init 21 = .ok (.multianewarray 11 2, 4) := by decide +kernel
theorem dX6_init_25 : decode cX6_init 25 = .ok (.putfield 16, 3) := by decide +kernel
theorem dX6_init_28 : decode cX6_init 28 = .ok (.aload_n 0, 1) := by decide +kernel
theorem dX6_init_29 : decode cX6_init 29 = .ok (.bipush 13, 2) := by decide +kernel
theorem dX6_init_31 : decode cX6_init 31 = .ok (.sipush 256, 3) := by decide +kernel
theorem dX6_init_34 : decode cX6_init 34 = .ok (.multianewarray 11 2, 4) := by decide +kernel
theorem dX6_init_38 : decode cX6_init 38 = .ok (.putfield 19, 3) := by decide +kernel
theorem dX6_init_41 : decode cX6_init 41 = .ok (.aload_n 0, 1) := by decide +kernel
theorem dX6_init_42 : decode cX6_init 42 = .ok (.bipush 13, 2) := by decide +kernel
theorem dX6_init_44 : decode cX6_init 44 = .ok (.sipush 256, 3) := by decide +kernel
theorem dX6_init_47 : decode cX6_init 47 = .ok (.multianewarray 11 2, 4) := by decide +kernel
theorem dX6_init_51 : decode cX6_init 51 = .ok (.putfield 22, 3) := by decide +kernel
theorem dX6_init_54 : decode cX6_init 54 = .ok (.aload_n 0, 1) := by decide +kernel
theorem dX6_init_55 : decode cX6_init 55 = .ok (.sipush 256, 3) := by decide +kernel
theorem dX6_init_58 : decode cX6_init 58 = .ok (.newarray .int, 2) := by decide +kernel
theorem dX6_init_60 : decode cX6_init 60 = .ok (.putfield 25, 3) := by decide +kernel
theorem dX6_init_63 : decode cX6_init 63 = .ok (.aload_n 0, 1) := by decide +kernel
theorem dX6_init_64 : decode cX6_init 64 = .ok (.sipush 256, 3) := by decide +kernel
theorem dX6_init_67 : decode cX6_init 67 = .ok (.newarray .boolean, 2) := by decide +kernel
theorem dX6_init_69 : decode cX6_init 69 = .ok (.putfield 29, 3) := by decide +kernel
theorem dX6_init_72 : decode cX6_init 72 = .ok (.aload_n 0, 1) := by decide +kernel
theorem dX6_init_73 : decode cX6_init 73 = .ok (.bipush 12, 2) := by decide +kernel
theorem dX6_init_75 : decode cX6_init 75 = .ok (.newarray .int, 2) := by decide +kernel
theorem dX6_init_77 : decode cX6_init 77 = .ok (.putfield 33, 3) := by decide +kernel
theorem dX6_init_80 : decode cX6_init 80 = .ok (.aload_n 0, 1) := by decide +kernel
theorem dX6_init_81 : decode cX6_init 81 = .ok (.bipush 13, 2) := by decide +kernel
theorem dX6_init_83 : decode cX6_init 83 = .ok (.newarray .int, 2) := by decide +kernel
theorem dX6_init_85 : decode cX6_init 85 = .ok (.putfield 36, 3) := by decide +kernel
theorem dX6_init_88 : decode cX6_init 88 = .ok (.return_, 1) := by decide +kernel
theorem dX6_gain_0 : decode cX6_gain 0 = .ok (.aload_n 0, 1) := by decide +kernel
theorem dX6_gain_1 : decode cX6_gain 1 = .ok (.getfield 39, 3) := by decide +kernel
theorem dX6_gain_4 : decode cX6_gain 4 = .ok (.ireturn, 1) := by decide +kernel
theorem dX6_layWays_0 : decode cX6_layWays 0 = .ok (.aload_n 0, 1) := by decide +kernel
theorem dX6_layWays_1 : decode cX6_layWays 1 = .ok (.aload_n 1, 1) := by decide +kernel
theorem dX6_layWays_2 : decode cX6_layWays 2 = .ok (.getfield 43, 3) := by decide +kernel
theorem dX6_layWays_5 : decode cX6_layWays 5 = .ok (.bipush 9, 2) := by decide +kernel
theorem dX6_layWays_7 : decode cX6_layWays 7 = .ok (.invokestatic 48, 3) := by decide +kernel
theorem dX6_layWays_10 : decode cX6_layWays 10 = .ok (.putfield 54, 3) := by decide +kernel
theorem dX6_layWays_13 : decode cX6_layWays 13 = .ok (.iconst 0, 1) := by decide +kernel
theorem dX6_layWays_14 : decode cX6_layWays 14 = .ok (.istore 5, 2) := by decide +kernel
theorem dX6_layWays_16 : decode cX6_layWays 16 = .ok (.iload 5, 2) := by decide +kernel
theorem dX6_layWays_18 : decode cX6_layWays 18 = .ok (.iload 4, 2) := by decide +kernel
theorem dX6_layWays_20 : decode cX6_layWays 20 = .ok (.if_icmp .ge 62, 3) := by decide +kernel
theorem dX6_layWays_23 : decode cX6_layWays 23 = .ok (.iload 5, 2) := by decide +kernel
theorem dX6_layWays_25 : decode cX6_layWays 25 = .ok (.bipush 12, 2) := by decide +kernel
theorem dX6_layWays_27 : decode cX6_layWays 27 = .ok (.if_icmp .ge 55, 3) := by decide +kernel
theorem dX6_layWays_30 : decode cX6_layWays 30 = .ok (.aload_n 2, 1) := by decide +kernel
theorem dX6_layWays_31 : decode cX6_layWays 31 = .ok (.iload_n 3, 1) := by decide +kernel
theorem dX6_layWays_32 : decode cX6_layWays 32 = .ok (.iload 5, 2) := by decide +kernel
theorem dX6_layWays_34 : decode cX6_layWays 34 = .ok (.iadd, 1) := by decide +kernel
theorem dX6_layWays_35 : decode cX6_layWays 35 = .ok (.invokevirtual 55, 3) := by decide +kernel
theorem dX6_layWays_38 : decode cX6_layWays 38 = .ok (.istore 6, 2) := by decide +kernel
theorem dX6_layWays_40 : decode cX6_layWays 40 = .ok (.iconst 0, 1) := by decide +kernel
theorem dX6_layWays_41 : decode cX6_layWays 41 = .ok (.istore 7, 2) := by decide +kernel
theorem dX6_layWays_43 : decode cX6_layWays 43 = .ok (.iload 7, 2) := by decide +kernel
theorem dX6_layWays_45 : decode cX6_layWays 45 = .ok (.aload_n 0, 1) := by decide +kernel
theorem dX6_layWays_46 : decode cX6_layWays 46 = .ok (.getfield 54, 3) := by decide +kernel
theorem dX6_layWays_49 : decode cX6_layWays 49 = .ok (.if_icmp .ge 27, 3) := by decide +kernel
theorem dX6_layWays_52 : decode cX6_layWays 52 = .ok (.aload_n 0, 1) := by decide +kernel
theorem dX6_layWays_53 : decode cX6_layWays 53 = .ok (.getfield 13, 3) := by decide +kernel
theorem dX6_layWays_56 : decode cX6_layWays 56 = .ok (.iload 5, 2) := by decide +kernel
theorem dX6_layWays_58 : decode cX6_layWays 58 = .ok (.aaload, 1) := by decide +kernel
theorem dX6_layWays_59 : decode cX6_layWays 59 = .ok (.iload 7, 2) := by decide +kernel
theorem dX6_layWays_61 : decode cX6_layWays 61 = .ok (.aload_n 1, 1) := by decide +kernel
theorem dX6_layWays_62 : decode cX6_layWays 62 = .ok (.iload 7, 2) := by decide +kernel
theorem dX6_layWays_64 : decode cX6_layWays 64 = .ok (.iload 6, 2) := by decide +kernel
theorem dX6_layWays_66 : decode cX6_layWays 66 = .ok (.invokevirtual 61, 3) := by decide +kernel
theorem dX6_layWays_69 : decode cX6_layWays 69 = .ok (.iastore, 1) := by decide +kernel
theorem dX6_layWays_70 : decode cX6_layWays 70 = .ok (.iinc 7 1, 3) := by decide +kernel
theorem dX6_layWays_73 : decode cX6_layWays 73 = .ok (.goto (-30), 3) := by decide +kernel
theorem dX6_layWays_76 : decode cX6_layWays 76 = .ok (.iinc 5 1, 3) := by decide +kernel
theorem dX6_layWays_79 : decode cX6_layWays 79 = .ok (.goto (-63), 3) := by decide +kernel
theorem dX6_layWays_82 : decode cX6_layWays 82 = .ok (.return_, 1) := by decide +kernel
theorem dX6_layFeasts_0 : decode cX6_layFeasts 0 = .ok (.aload_n 0, 1) := by decide +kernel
theorem dX6_layFeasts_1 : decode cX6_layFeasts 1 = .ok (.iconst 1, 1) := by decide +kernel
theorem dX6_layFeasts_2 : decode cX6_layFeasts 2 = .ok (.aload_n 2, 1) := by decide +kernel
theorem dX6_layFeasts_3 : decode cX6_layFeasts 3 = .ok (.getfield 63, 3) := by decide +kernel
theorem dX6_layFeasts_6 : decode cX6_layFeasts 6 = .ok (.ishl, 1) := by decide +kernel
theorem dX6_layFeasts_7 : decode cX6_layFeasts 7 = .ok (.sipush 256, 3) := by decide +kernel
theorem dX6_layFeasts_10 : decode cX6_layFeasts 10 = .ok (.invokestatic 48, 3) := by decide +kernel
theorem dX6_layFeasts_13 : decode cX6_layFeasts 13 = .ok (.putfield 68, 3) := by decide +kernel
theorem dX6_layFeasts_16 : decode cX6_layFeasts 16 = .ok (.iconst 0, 1) := by decide +kernel
theorem dX6_layFeasts_17 : decode cX6_layFeasts 17 = .ok (.istore 5, 2) := by decide +kernel
theorem dX6_layFeasts_19 : decode cX6_layFeasts 19 = .ok (.iload 5, 2) := by decide +kernel
theorem dX6_layFeasts_21 : decode cX6_layFeasts 21 = .ok (.iload 4, 2) := by decide +kernel
theorem dX6_layFeasts_23 : decode cX6_layFeasts 23 = .ok (.if_icmp .ge 86, 3) := by decide +kernel
theorem dX6_layFeasts_26 : decode cX6_layFeasts 26 = .ok (.iload 5, 2) := by decide +kernel
theorem dX6_layFeasts_28 : decode cX6_layFeasts 28 = .ok (.bipush 12, 2) := by decide +kernel
theorem dX6_layFeasts_30 : decode cX6_layFeasts 30 = .ok (.if_icmp .ge 79, 3) := by decide +kernel
theorem dX6_layFeasts_33 : decode cX6_layFeasts 33 = .ok (.aload_n 3, 1) := by decide +kernel
theorem dX6_layFeasts_34 : decode cX6_layFeasts 34 = .ok (.getfield 71, 3) := by decide +kernel
theorem dX6_layFeasts_37 : decode cX6_layFeasts 37 = .ok (.iload 5, 2) := by decide +kernel
theorem dX6_layFeasts_39 : decode cX6_layFeasts 39 = .ok (.iadd, 1) := by decide +kernel
theorem dX6_layFeasts_40 : decode cX6_layFeasts 40 = .ok (.istore 6, 2) := by decide +kernel
theorem dX6_layFeasts_42 : decode cX6_layFeasts 42 = .ok (.aload_n 1, 1) := by decide +kernel
theorem dX6_layFeasts_43 : decode cX6_layFeasts 43 = .ok (.iload 6, 2) := by decide +kernel
theorem dX6_layFeasts_45 : decode cX6_layFeasts 45 = .ok (.invokevirtual 76, 3) := by decide +kernel
theorem dX6_layFeasts_48 : decode cX6_layFeasts 48 = .ok (.istore 7, 2) := by decide +kernel
theorem dX6_layFeasts_50 : decode cX6_layFeasts 50 = .ok (.iconst 0, 1) := by decide +kernel
theorem dX6_layFeasts_51 : decode cX6_layFeasts 51 = .ok (.istore 8, 2) := by decide +kernel
theorem dX6_layFeasts_53 : decode cX6_layFeasts 53 = .ok (.iload 8, 2) := by decide +kernel
theorem dX6_layFeasts_55 : decode cX6_layFeasts 55 = .ok (.aload_n 0, 1) := by decide +kernel
theorem dX6_layFeasts_56 : decode cX6_layFeasts 56 = .ok (.getfield 54, 3) := by decide +kernel
theorem dX6_layFeasts_59 : decode cX6_layFeasts 59 = .ok (.if_icmp .ge 44, 3) := by decide +kernel
theorem dX6_layFeasts_62 : decode cX6_layFeasts 62 = .ok (.iload 8, 2) := by decide +kernel
theorem dX6_layFeasts_64 : decode cX6_layFeasts 64 = .ok (.bipush 9, 2) := by decide +kernel
theorem dX6_layFeasts_66 : decode cX6_layFeasts 66 = .ok (.if_icmp .ge 37, 3) := by decide +kernel
theorem dX6_layFeasts_69 : decode cX6_layFeasts 69 = .ok (.aload_n 0, 1) := by decide +kernel
theorem dX6_layFeasts_70 : decode cX6_layFeasts 70 = .ok (.getfield 16, 3) := by decide +kernel
theorem dX6_layFeasts_73 : decode cX6_layFeasts 73 = .ok (.iload 5, 2) := by decide +kernel
theorem dX6_layFeasts_75 : decode cX6_layFeasts 75 = .ok (.aaload, 1) := by decide +kernel
theorem dX6_layFeasts_76 : decode cX6_layFeasts 76 = .ok (.iload 8, 2) := by decide +kernel
theorem dX6_layFeasts_78 : decode cX6_layFeasts 78 = .ok (.iload 7, 2) := by decide +kernel
theorem dX6_layFeasts_80 : decode cX6_layFeasts 80 = .ok (.ifCond .eq 7, 3) := by decide +kernel
theorem dX6_layFeasts_83 : decode cX6_layFeasts 83 = .ok (.iconst 0, 1) := by decide +kernel
theorem dX6_layFeasts_84 : decode cX6_layFeasts 84 = .ok (.goto 12, 3) := by decide +kernel
theorem dX6_layFeasts_87 : decode cX6_layFeasts 87 = .ok (.aload_n 3, 1) := by decide +kernel
theorem dX6_layFeasts_88 : decode cX6_layFeasts 88 = .ok (.aload_n 2, 1) := by decide +kernel
theorem dX6_layFeasts_89 : decode cX6_layFeasts 89 = .ok (.iload 8, 2) := by decide +kernel
theorem dX6_layFeasts_91 : decode cX6_layFeasts 91 = .ok (.iload 6, 2) := by decide +kernel
theorem dX6_layFeasts_93 : decode cX6_layFeasts 93 = .ok (.invokevirtual 80, 3) := by decide +kernel
theorem dX6_layFeasts_96 : decode cX6_layFeasts 96 = .ok (.iastore, 1) := by decide +kernel
theorem dX6_layFeasts_97 : decode cX6_layFeasts 97 = .ok (.iinc 8 1, 3) := by decide +kernel
theorem dX6_layFeasts_100 : decode cX6_layFeasts 100 = .ok (.goto (-47), 3) := by decide +kernel
theorem dX6_layFeasts_103 : decode cX6_layFeasts 103 = .ok (.iinc 5 1, 3) := by decide +kernel
theorem dX6_layFeasts_106 : decode cX6_layFeasts 106 = .ok (.goto (-87), 3) := by decide +kernel
theorem dX6_layFeasts_109 : decode cX6_layFeasts 109 = .ok (.return_, 1) := by decide +kernel
theorem dX6_toggleFeast_0 : decode cX6_toggleFeast 0 = .ok (.iload_n 1, 1) := by decide +kernel
theorem dX6_toggleFeast_1 : decode cX6_toggleFeast 1 = .ok (.ifCond .lt 33, 3) := by decide +kernel
theorem dX6_toggleFeast_4 : decode cX6_toggleFeast 4 = .ok (.iload_n 1, 1) := by decide +kernel
theorem dX6_toggleFeast_5 : decode cX6_toggleFeast 5 = .ok (.bipush 12, 2) := by decide +kernel
theorem dX6_toggleFeast_7 : decode cX6_toggleFeast 7 = .ok (.if_icmp .ge 27, 3) := by decide +kernel
theorem dX6_toggleFeast_10 : decode cX6_toggleFeast 10 = .ok (.iload_n 2, 1) := by decide +kernel
theorem dX6_toggleFeast_11 : decode cX6_toggleFeast 11 = .ok (.ifCond .lt 23, 3) := by decide +kernel
theorem dX6_toggleFeast_14 : decode cX6_toggleFeast 14 = .ok (.iload_n 2, 1) := by decide +kernel
theorem dX6_toggleFeast_15 : decode cX6_toggleFeast 15 = .ok (.bipush 9, 2) := by decide +kernel
theorem dX6_toggleFeast_17 : decode cX6_toggleFeast 17 = .ok (.if_icmp .ge 17, 3) := by decide +kernel
theorem dX6_toggleFeast_20 : decode cX6_toggleFeast 20 = .ok (.aload_n 0, 1) := by decide +kernel
theorem dX6_toggleFeast_21 : decode cX6_toggleFeast 21 = .ok (.getfield 16, 3) := by decide +kernel
theorem dX6_toggleFeast_24 : decode cX6_toggleFeast 24 = .ok (.iload_n 1, 1) := by decide +kernel
theorem dX6_toggleFeast_25 : decode cX6_toggleFeast 25 = .ok (.aaload, 1) := by decide +kernel
theorem dX6_toggleFeast_26 : decode cX6_toggleFeast 26 = .ok (.iload_n 2, 1) := by decide +kernel
theorem dX6_toggleFeast_27 : decode cX6_toggleFeast 27 = .ok (.dup2, 1) := by decide +kernel
theorem dX6_toggleFeast_28 : decode cX6_toggleFeast 28 = .ok (.iaload, 1) := by decide +kernel
theorem dX6_toggleFeast_29 : decode cX6_toggleFeast 29 = .ok (.iconst 1, 1) := by decide +kernel
theorem dX6_toggleFeast_30 : decode cX6_toggleFeast 30 = .ok (.iload_n 3, 1) := by decide +kernel
theorem dX6_toggleFeast_31 : decode cX6_toggleFeast 31 = .ok (.ishl, 1) := by decide +kernel
theorem dX6_toggleFeast_32 : decode cX6_toggleFeast 32 = .ok (.ixor, 1) := by decide +kernel
theorem dX6_toggleFeast_33 : decode cX6_toggleFeast 33 = .ok (.iastore, 1) := by decide +kernel
theorem dX6_toggleFeast_34 : decode cX6_toggleFeast 34 = .ok (.return_, 1) := by decide +kernel
theorem dX6_weighCount_0 : decode cX6_weighCount 0 = .ok (.iconst 0, 1) := by decide +kernel
theorem dX6_weighCount_1 : decode cX6_weighCount 1 = .ok (.istore_n 1, 1) := by decide +kernel
theorem dX6_weighCount_2 : decode cX6_weighCount 2 = .ok (.iload_n 1, 1) := by decide +kernel
theorem dX6_weighCount_3 : decode cX6_weighCount 3 = .ok (.aload_n 0, 1) := by decide +kernel
theorem dX6_weighCount_4 : decode cX6_weighCount 4 = .ok (.getfield 68, 3) := by decide +kernel
theorem dX6_weighCount_7 : decode cX6_weighCount 7 = .ok (.if_icmp .ge 26, 3) := by decide +kernel
theorem dX6_weighCount_10 : decode cX6_weighCount 10 = .ok (.iload_n 1, 1) := by decide +kernel
theorem dX6_weighCount_11 : decode cX6_weighCount 11 = .ok (.sipush 256, 3) := by decide +kernel
theorem dX6_weighCount_14 : decode cX6_weighCount 14 = .ok (.if_icmp .ge 19, 3) := by decide +kernel
theorem dX6_weighCount_17 : decode cX6_weighCount 17 = .ok (.aload_n 0, 1) := by decide +kernel
theorem dX6_weighCount_18 : decode cX6_weighCount 18 = .ok (.getfield 25, 3) := by decide +kernel
theorem dX6_weighCount_21 : decode cX6_weighCount 21 = .ok (.iload_n 1, 1) := by decide +kernel
theorem dX6_weighCount_22 : decode cX6_weighCount 22 = .ok (.iload_n 1, 1) := by decide +kernel
theorem dX6_weighCount_23 : decode cX6_weighCount 23 = .ok (.invokestatic 84, 3) := by decide +kernel
theorem dX6_weighCount_26 : decode cX6_weighCount 26 = .ok (.iastore, 1) := by decide +kernel
theorem dX6_weighCount_27 : decode cX6_weighCount 27 = .ok (.iinc 1 1, 3) := by decide +kernel
theorem dX6_weighCount_30 : decode cX6_weighCount 30 = .ok (.goto (-28), 3) := by decide +kernel
theorem dX6_weighCount_33 : decode cX6_weighCount 33 = .ok (.return_, 1) := by decide +kernel
theorem dX6_weighBids_0 : decode cX6_weighBids 0 = .ok (.aload_n 0, 1) := by decide +kernel
theorem dX6_weighBids_1 : decode cX6_weighBids 1 = .ok (.getfield 25, 3) := by decide +kernel
theorem dX6_weighBids_4 : decode cX6_weighBids 4 = .ok (.iconst 0, 1) := by decide +kernel
theorem dX6_weighBids_5 : decode cX6_weighBids 5 = .ok (.iconst 0, 1) := by decide +kernel
theorem dX6_weighBids_6 : decode cX6_weighBids 6 = .ok (.iastore, 1) := by decide +kernel
theorem dX6_weighBids_7 : decode cX6_weighBids 7 = .ok (.iconst 0, 1) := by decide +kernel
theorem dX6_weighBids_8 : decode cX6_weighBids 8 = .ok (.istore_n 3, 1) := by decide +kernel
theorem dX6_weighBids_9 : decode cX6_weighBids 9 = .ok (.iload_n 3, 1) := by decide +kernel
theorem dX6_weighBids_10 : decode cX6_weighBids 10 = .ok (.aload_n 1, 1) := by decide +kernel
theorem dX6_weighBids_11 : decode cX6_weighBids 11 = .ok (.getfield 63, 3) := by decide +kernel
theorem dX6_weighBids_14 : decode cX6_weighBids 14 = .ok (.if_icmp .ge 75, 3) := by decide +kernel
theorem dX6_weighBids_17 : decode cX6_weighBids 17 = .ok (.iload_n 3, 1) := by decide +kernel
theorem dX6_weighBids_18 : decode cX6_weighBids 18 = .ok (.bipush 8, 2) := by decide +kernel
theorem dX6_weighBids_20 : decode cX6_weighBids 20 = .ok (.if_icmp .ge 69, 3) := by decide +kernel
theorem dX6_weighBids_23 : decode cX6_weighBids 23 = .ok (.aload_n 1, 1) := by decide +kernel
theorem dX6_weighBids_24 : decode cX6_weighBids 24 = .ok (.iload_n 3, 1) := by decide +kernel
theorem dX6_weighBids_25 : decode cX6_weighBids 25 = .ok (.iload_n 2, 1) := by decide +kernel
theorem dX6_weighBids_26 : decode cX6_weighBids 26 = .ok (.invokevirtual 89, 3) := by decide +kernel
theorem dX6_weighBids_29 : decode cX6_weighBids 29 = .ok (.istore 4, 2) := by decide +kernel
theorem dX6_weighBids_31 : decode cX6_weighBids 31 = .ok (.iconst 1, 1) := by decide +kernel
theorem dX6_weighBids_32 : decode cX6_weighBids 32 = .ok (.iload_n 3, 1) := by decide +kernel
theorem dX6_weighBids_33 : decode cX6_weighBids 33 = .ok (.ishl, 1) := by decide +kernel
theorem dX6_weighBids_34 : decode cX6_weighBids 34 = .ok (.istore 5, 2) := by decide +kernel
theorem dX6_weighBids_36 : decode cX6_weighBids 36 = .ok (.iconst 0, 1) := by decide +kernel
theorem dX6_weighBids_37 : decode cX6_weighBids 37 = .ok (.istore 6, 2) := by decide +kernel
theorem dX6_weighBids_39 : decode cX6_weighBids 39 = .ok (.iload 6, 2) := by decide +kernel
theorem dX6_weighBids_41 : decode cX6_weighBids 41 = .ok (.iload 5, 2) := by decide +kernel
theorem dX6_weighBids_43 : decode cX6_weighBids 43 = .ok (.if_icmp .ge 40, 3) := by decide +kernel
theorem dX6_weighBids_46 : decode cX6_weighBids 46 = .ok (.iload 6, 2) := by decide +kernel
theorem dX6_weighBids_48 : decode cX6_weighBids 48 = .ok (.iload 5, 2) := by decide +kernel
theorem dX6_weighBids_50 : decode cX6_weighBids 50 = .ok (.iadd, 1) := by decide +kernel
theorem dX6_weighBids_51 : decode cX6_weighBids 51 = .ok (.sipush 256, 3) := by decide +kernel
theorem dX6_weighBids_54 : decode cX6_weighBids 54 = .ok (.if_icmp .ge 29, 3) := by decide +kernel
theorem dX6_weighBids_57 : decode cX6_weighBids 57 = .ok (.aload_n 0, 1) := by decide +kernel
theorem dX6_weighBids_58 : decode cX6_weighBids 58 = .ok (.getfield 25, 3) := by decide +kernel
theorem dX6_weighBids_61 : decode cX6_weighBids 61 = .ok (.iload 6, 2) := by decide +kernel
theorem dX6_weighBids_63 : decode cX6_weighBids 63 = .ok (.iload 5, 2) := by decide +kernel
theorem dX6_weighBids_65 : decode cX6_weighBids 65 = .ok (.iadd, 1) := by decide +kernel
theorem dX6_weighBids_66 : decode cX6_weighBids 66 = .ok (.aload_n 0, 1) := by decide +kernel
theorem dX6_weighBids_67 : decode cX6_weighBids 67 = .ok (.getfield 25, 3) := by decide +kernel
theorem dX6_weighBids_70 : decode cX6_weighBids 70 = .ok (.iload 6, 2) := by decide +kernel
theorem dX6_weighBids_72 : decode cX6_weighBids 72 = .ok (.iaload, 1) := by decide +kernel
theorem dX6_weighBids_73 : decode cX6_weighBids 73 = .ok (.iload 4, 2) := by decide +kernel
theorem dX6_weighBids_75 : decode cX6_weighBids 75 = .ok (.iadd, 1) := by decide +kernel
theorem dX6_weighBids_76 : decode cX6_weighBids 76 = .ok (.iastore, 1) := by decide +kernel
theorem dX6_weighBids_77 : decode cX6_weighBids 77 = .ok (.iinc 6 1, 3) := by decide +kernel
theorem dX6_weighBids_80 : decode cX6_weighBids 80 = .ok (.goto (-41), 3) := by decide +kernel
theorem dX6_weighBids_83 : decode cX6_weighBids 83 = .ok (.iinc 3 1, 3) := by decide +kernel
theorem dX6_weighBids_86 : decode cX6_weighBids 86 = .ok (.goto (-77), 3) := by decide +kernel
theorem dX6_weighBids_89 : decode cX6_weighBids 89 = .ok (.return_, 1) := by decide +kernel
theorem dX6_weighWhole_0 : decode cX6_weighWhole 0 = .ok (.iconst 0, 1) := by decide +kernel
theorem dX6_weighWhole_1 : decode cX6_weighWhole 1 = .ok (.istore_n 2, 1) := by decide +kernel
theorem dX6_weighWhole_2 : decode cX6_weighWhole 2 = .ok (.iload_n 2, 1) := by decide +kernel
theorem dX6_weighWhole_3 : decode cX6_weighWhole 3 = .ok (.aload_n 0, 1) := by decide +kernel
theorem dX6_weighWhole_4 : decode cX6_weighWhole 4 = .ok (.getfield 68, 3) := by decide +kernel
theorem dX6_weighWhole_7 : decode cX6_weighWhole 7 = .ok (.if_icmp .ge 34, 3) := by decide +kernel
theorem dX6_weighWhole_10 : decode cX6_weighWhole 10 = .ok (.iload_n 2, 1) := by decide +kernel
theorem dX6_weighWhole_11 : decode cX6_weighWhole 11 = .ok (.sipush 256, 3) := by decide +kernel
theorem dX6_weighWhole_14 : decode cX6_weighWhole 14 = .ok (.if_icmp .ge 27, 3) := by decide +kernel
theorem dX6_weighWhole_17 : decode cX6_weighWhole 17 = .ok (.aload_n 0, 1) := by decide +kernel
theorem dX6_weighWhole_18 : decode cX6_weighWhole 18 = .ok (.getfield 25, 3) := by decide +kernel
theorem dX6_weighWhole_21 : decode cX6_weighWhole 21 = .ok (.iload_n 2, 1) := by decide +kernel
theorem dX6_weighWhole_22 : decode cX6_weighWhole 22 = .ok (.iload_n 2, 1) := by decide +kernel
theorem dX6_weighWhole_23 : decode cX6_weighWhole 23 = .ok (.iload_n 1, 1) := by decide +kernel
theorem dX6_weighWhole_24 : decode cX6_weighWhole 24 = .ok (.iand, 1) := by decide +kernel
theorem dX6_weighWhole_25 : decode cX6_weighWhole 25 = .ok (.iload_n 1, 1) := by decide +kernel
theorem dX6_weighWhole_26 : decode cX6_weighWhole 26 = .ok (.if_icmp .ne 7, 3) := by decide +kernel
theorem dX6_weighWhole_29 : decode cX6_weighWhole 29 = .ok (.iconst 1, 1) := by decide +kernel
theorem dX6_weighWhole_30 : decode cX6_weighWhole 30 = .ok (.goto 4, 3) := by decide +kernel
theorem dX6_weighWhole_33 : decode cX6_weighWhole 33 = .ok (.iconst 0, 1) := by decide +kernel
theorem dX6_weighWhole_34 : decode cX6_weighWhole 34 = .ok (.iastore, 1) := by decide +kernel
theorem dX6_weighWhole_35 : decode cX6_weighWhole 35 = .ok (.iinc 2 1, 3) := by decide +kernel
theorem dX6_weighWhole_38 : decode cX6_weighWhole 38 = .ok (.goto (-36), 3) := by decide +kernel
theorem dX6_weighWhole_41 : decode cX6_weighWhole 41 = .ok (.return_, 1) := by decide +kernel
theorem dX6_spread_0 : decode cX6_spread 0 = .ok (.aload_n 0, 1) := by decide +kernel
theorem dX6_spread_1 : decode cX6_spread 1 = .ok (.iload_n 1, 1) := by decide +kernel
theorem dX6_spread_2 : decode cX6_spread 2 = .ok (.putfield 92, 3) := by decide +kernel
theorem dX6_spread_5 : decode cX6_spread 5 = .ok (.aload_n 0, 1) := by decide +kernel
theorem dX6_spread_6 : decode cX6_spread 6 = .ok (.iload_n 2, 1) := by decide +kernel
theorem dX6_spread_7 : decode cX6_spread 7 = .ok (.putfield 95, 3) := by decide +kernel
theorem dX6_spread_10 : decode cX6_spread 10 = .ok (.aload_n 0, 1) := by decide +kernel
theorem dX6_spread_11 : decode cX6_spread 11 = .ok (.iconst 0, 1) := by decide +kernel
theorem dX6_spread_12 : decode cX6_spread 12 = .ok (.invokevirtual 98, 3) := by decide +kernel
theorem dX6_spread_15 : decode cX6_spread 15 = .ok (.iload_n 2, 1) := by decide +kernel
theorem dX6_spread_16 : decode cX6_spread 16 = .ok (.ifCond .lt 21, 3) := by decide +kernel
theorem dX6_spread_19 : decode cX6_spread 19 = .ok (.iload_n 2, 1) := by decide +kernel
theorem dX6_spread_20 : decode cX6_spread 20 = .ok (.sipush 256, 3) := by decide +kernel
theorem dX6_spread_23 : decode cX6_spread 23 = .ok (.if_icmp .ge 14, 3) := by decide +kernel
theorem dX6_spread_26 : decode cX6_spread 26 = .ok (.aload_n 0, 1) := by decide +kernel
theorem dX6_spread_27 : decode cX6_spread 27 = .ok (.getfield 19, 3) := by decide +kernel
theorem dX6_spread_30 : decode cX6_spread 30 = .ok (.iconst 0, 1) := by decide +kernel
theorem dX6_spread_31 : decode cX6_spread 31 = .ok (.aaload, 1) := by decide +kernel
theorem dX6_spread_32 : decode cX6_spread 32 = .ok (.iload_n 2, 1) := by decide +kernel
theorem dX6_spread_33 : decode cX6_spread 33 = .ok (.iconst 1, 1) := by decide +kernel
theorem dX6_spread_34 : decode cX6_spread 34 = .ok (.iload_n 1, 1) := by decide +kernel
theorem dX6_spread_35 : decode cX6_spread 35 = .ok (.ishl, 1) := by decide +kernel
theorem dX6_spread_36 : decode cX6_spread 36 = .ok (.iastore, 1) := by decide +kernel
theorem dX6_spread_37 : decode cX6_spread 37 = .ok (.iconst 0, 1) := by decide +kernel
theorem dX6_spread_38 : decode cX6_spread 38 = .ok (.istore 4, 2) := by decide +kernel
theorem dX6_spread_40 : decode cX6_spread 40 = .ok (.iload 4, 2) := by decide +kernel
theorem dX6_spread_42 : decode cX6_spread 42 = .ok (.iload_n 3, 1) := by decide +kernel
theorem dX6_spread_43 : decode cX6_spread 43 = .ok (.if_icmp .ge 71, 3) := by decide +kernel
theorem dX6_spread_46 : decode cX6_spread 46 = .ok (.iload 4, 2) := by decide +kernel
theorem dX6_spread_48 : decode cX6_spread 48 = .ok (.bipush 12, 2) := by decide +kernel
theorem dX6_spread_50 : decode cX6_spread 50 = .ok (.if_icmp .ge 64, 3) := by decide +kernel
theorem dX6_spread_53 : decode cX6_spread 53 = .ok (.aload_n 0, 1) := by decide +kernel
theorem dX6_spread_54 : decode cX6_spread 54 = .ok (.iload 4, 2) := by decide +kernel
theorem dX6_spread_56 : decode cX6_spread 56 = .ok (.iconst 1, 1) := by decide +kernel
theorem dX6_spread_57 : decode cX6_spread 57 = .ok (.iadd, 1) := by decide +kernel
theorem dX6_spread_58 : decode cX6_spread 58 = .ok (.invokevirtual 98, 3) := by decide +kernel
theorem dX6_spread_61 : decode cX6_spread 61 = .ok (.iconst 0, 1) := by decide +kernel
theorem dX6_spread_62 : decode cX6_spread 62 = .ok (.istore 5, 2) := by decide +kernel
theorem dX6_spread_64 : decode cX6_spread 64 = .ok (.iload 5, 2) := by decide +kernel
theorem dX6_spread_66 : decode cX6_spread 66 = .ok (.aload_n 0, 1) := by decide +kernel
theorem dX6_spread_67 : decode cX6_spread 67 = .ok (.getfield 68, 3) := by decide +kernel
theorem dX6_spread_70 : decode cX6_spread 70 = .ok (.if_icmp .ge 38, 3) := by decide +kernel
theorem dX6_spread_73 : decode cX6_spread 73 = .ok (.iload 5, 2) := by decide +kernel
theorem dX6_spread_75 : decode cX6_spread 75 = .ok (.sipush 256, 3) := by decide +kernel
theorem dX6_spread_78 : decode cX6_spread 78 = .ok (.if_icmp .ge 30, 3) := by decide +kernel
theorem dX6_spread_81 : decode cX6_spread 81 = .ok (.aload_n 0, 1) := by decide +kernel
theorem dX6_spread_82 : decode cX6_spread 82 = .ok (.getfield 19, 3) := by decide +kernel
theorem dX6_spread_85 : decode cX6_spread 85 = .ok (.iload 4, 2) := by decide +kernel
theorem dX6_spread_87 : decode cX6_spread 87 = .ok (.aaload, 1) := by decide +kernel
theorem dX6_spread_88 : decode cX6_spread 88 = .ok (.iload 5, 2) := by decide +kernel
theorem dX6_spread_90 : decode cX6_spread 90 = .ok (.iaload, 1) := by decide +kernel
theorem dX6_spread_91 : decode cX6_spread 91 = .ok (.ifCond .eq 11, 3) := by decide +kernel
theorem dX6_spread_94 : decode cX6_spread 94 = .ok (.aload_n 0, 1) := by decide +kernel
theorem dX6_spread_95 : decode cX6_spread 95 = .ok (.iload 4, 2) := by decide +kernel
theorem dX6_spread_97 : decode cX6_spread 97 = .ok (.iload 5, 2) := by decide +kernel
theorem dX6_spread_99 : decode cX6_spread 99 = .ok (.invokevirtual 102, 3) := by decide +kernel
theorem dX6_spread_102 : decode cX6_spread 102 = .ok (.iinc 5 1, 3) := by decide +kernel
theorem dX6_spread_105 : decode cX6_spread 105 = .ok (.goto (-41), 3) := by decide +kernel
theorem dX6_spread_108 : decode cX6_spread 108 = .ok (.iinc 4 1, 3) := by decide +kernel
theorem dX6_spread_111 : decode cX6_spread 111 = .ok (.goto (-71), 3) := by decide +kernel
theorem dX6_spread_114 : decode cX6_spread 114 = .ok (.return_, 1) := by decide +kernel
theorem dX6_clearSets_0 : decode cX6_clearSets 0 = .ok (.iload_n 1, 1) := by decide +kernel
theorem dX6_clearSets_1 : decode cX6_clearSets 1 = .ok (.ifCond .lt 41, 3) := by decide +kernel
theorem dX6_clearSets_4 : decode cX6_clearSets 4 = .ok (.iload_n 1, 1) := by decide +kernel
theorem dX6_clearSets_5 : decode cX6_clearSets 5 = .ok (.bipush 12, 2) := by decide +kernel
theorem dX6_clearSets_7 : decode cX6_clearSets 7 = .ok (.if_icmp .gt 35, 3) := by decide +kernel
theorem dX6_clearSets_10 : decode cX6_clearSets 10 = .ok (.iconst 0, 1) := by decide +kernel
theorem dX6_clearSets_11 : decode cX6_clearSets 11 = .ok (.istore_n 2, 1) := by decide +kernel
theorem dX6_clearSets_12 : decode cX6_clearSets 12 = .ok (.iload_n 2, 1) := by decide +kernel
theorem dX6_clearSets_13 : decode cX6_clearSets 13 = .ok (.aload_n 0, 1) := by decide +kernel
theorem dX6_clearSets_14 : decode cX6_clearSets 14 = .ok (.getfield 68, 3) := by decide +kernel
theorem dX6_clearSets_17 : decode cX6_clearSets 17 = .ok (.if_icmp .ge 25, 3) := by decide +kernel
theorem dX6_clearSets_20 : decode cX6_clearSets 20 = .ok (.iload_n 2, 1) := by decide +kernel
theorem dX6_clearSets_21 : decode cX6_clearSets 21 = .ok (.sipush 256, 3) := by decide +kernel
theorem dX6_clearSets_24 : decode cX6_clearSets 24 = .ok (.if_icmp .ge 18, 3) := by decide +kernel
theorem dX6_clearSets_27 : decode cX6_clearSets 27 = .ok (.aload_n 0, 1) := by decide +kernel
theorem dX6_clearSets_28 : decode cX6_clearSets 28 = .ok (.getfield 19, 3) := by decide +kernel
theorem dX6_clearSets_31 : decode cX6_clearSets 31 = .ok (.iload_n 1, 1) := by decide +kernel
theorem dX6_clearSets_32 : decode cX6_clearSets 32 = .ok (.aaload, 1) := by decide +kernel
theorem dX6_clearSets_33 : decode cX6_clearSets 33 = .ok (.iload_n 2, 1) := by decide +kernel
theorem dX6_clearSets_34 : decode cX6_clearSets 34 = .ok (.iconst 0, 1) := by decide +kernel
theorem dX6_clearSets_35 : decode cX6_clearSets 35 = .ok (.iastore, 1) := by decide +kernel
theorem dX6_clearSets_36 : decode cX6_clearSets 36 = .ok (.iinc 2 1, 3) := by decide +kernel
theorem dX6_clearSets_39 : decode cX6_clearSets 39 = .ok (.goto (-27), 3) := by decide +kernel
theorem dX6_clearSets_42 : decode cX6_clearSets 42 = .ok (.return_, 1) := by decide +kernel
theorem dX6_spreadSet_0 : decode cX6_spreadSet 0 = .ok (.iload_n 1, 1) := by decide +kernel
theorem dX6_spreadSet_1 : decode cX6_spreadSet 1 = .ok (.ifCond .lt 20, 3) := by decide +kernel
theorem dX6_spreadSet_4 : decode cX6_spreadSet 4 = .ok (.iload_n 1, 1) := by decide +kernel
theorem dX6_spreadSet_5 : decode cX6_spreadSet 5 = .ok (.bipush 12, 2) := by decide +kernel
theorem dX6_spreadSet_7 : decode cX6_spreadSet 7 = .ok (.if_icmp .ge 14, 3) := by decide +kernel
theorem dX6_spreadSet_10 : decode cX6_spreadSet 10 = .ok (.iload_n 2, 1) := by decide +kernel
theorem dX6_spreadSet_11 : decode cX6_spreadSet 11 = .ok (.ifCond .lt 10, 3) := by decide +kernel
theorem dX6_spreadSet_14 : decode cX6_spreadSet 14 = .ok (.iload_n 2, 1) := by decide +kernel
theorem dX6_spreadSet_15 : decode cX6_spreadSet 15 = .ok (.sipush 256, 3) := by decide +kernel
theorem dX6_spreadSet_18 : decode cX6_spreadSet 18 = .ok (.if_icmp .lt 4, 3) := by decide +kernel
theorem dX6_spreadSet_21 : decode cX6_spreadSet 21 = .ok (.return_, 1) := by decide +kernel
theorem dX6_spreadSet_22 : decode cX6_spreadSet 22 = .ok (.aload_n 0, 1) := by decide +kernel
theorem dX6_spreadSet_23 : decode cX6_spreadSet 23 = .ok (.iload_n 1, 1) := by decide +kernel
theorem dX6_spreadSet_24 : decode cX6_spreadSet 24 = .ok (.aload_n 0, 1) := by decide +kernel
theorem dX6_spreadSet_25 : decode cX6_spreadSet 25 = .ok (.getfield 19, 3) := by decide +kernel
theorem dX6_spreadSet_28 : decode cX6_spreadSet 28 = .ok (.iload_n 1, 1) := by decide +kernel
theorem dX6_spreadSet_29 : decode cX6_spreadSet 29 = .ok (.aaload, 1) := by decide +kernel
theorem dX6_spreadSet_30 : decode cX6_spreadSet 30 = .ok (.iload_n 2, 1) := by decide +kernel
theorem dX6_spreadSet_31 : decode cX6_spreadSet 31 = .ok (.iaload, 1) := by decide +kernel
theorem dX6_spreadSet_32 : decode cX6_spreadSet 32 = .ok (.invokevirtual 106, 3) := by decide +kernel
theorem dX6_spreadSet_35 : decode cX6_spreadSet 35 = .ok (.istore_n 3, 1) := by decide +kernel
theorem dX6_spreadSet_36 : decode cX6_spreadSet 36 = .ok (.iconst 0, 1) := by decide +kernel
theorem dX6_spreadSet_37 : decode cX6_spreadSet 37 = .ok (.istore 4, 2) := by decide +kernel
theorem dX6_spreadSet_39 : decode cX6_spreadSet 39 = .ok (.iload 4, 2) := by decide +kernel
theorem dX6_spreadSet_41 : decode cX6_spreadSet 41 = .ok (.aload_n 0, 1) := by decide +kernel
theorem dX6_spreadSet_42 : decode cX6_spreadSet 42 = .ok (.getfield 54, 3) := by decide +kernel
theorem dX6_spreadSet_45 : decode cX6_spreadSet 45 = .ok (.if_icmp .ge 69, 3) := by decide +kernel
theorem dX6_spreadSet_48 : decode cX6_spreadSet 48 = .ok (.iload 4, 2) := by decide +kernel
theorem dX6_spreadSet_50 : decode cX6_spreadSet 50 = .ok (.bipush 9, 2) := by decide +kernel
theorem dX6_spreadSet_52 : decode cX6_spreadSet 52 = .ok (.if_icmp .ge 62, 3) := by decide +kernel
theorem dX6_spreadSet_55 : decode cX6_spreadSet 55 = .ok (.iload_n 2, 1) := by decide +kernel
theorem dX6_spreadSet_56 : decode cX6_spreadSet 56 = .ok (.aload_n 0, 1) := by decide +kernel
theorem dX6_spreadSet_57 : decode cX6_spreadSet 57 = .ok (.getfield 16, 3) := by decide +kernel
theorem dX6_spreadSet_60 : decode cX6_spreadSet 60 = .ok (.iload_n 1, 1) := by decide +kernel
theorem dX6_spreadSet_61 : decode cX6_spreadSet 61 = .ok (.aaload, 1) := by decide +kernel
theorem dX6_spreadSet_62 : decode cX6_spreadSet 62 = .ok (.iload 4, 2) := by decide +kernel
theorem dX6_spreadSet_64 : decode cX6_spreadSet 64 = .ok (.iaload, 1) := by decide +kernel
theorem dX6_spreadSet_65 : decode cX6_spreadSet 65 = .ok (.ior, 1) := by decide +kernel
theorem dX6_spreadSet_66 : decode cX6_spreadSet 66 = .ok (.istore 5, 2) := by decide +kernel
theorem dX6_spreadSet_68 : decode cX6_spreadSet 68 = .ok (.iload_n 3, 1) := by decide +kernel
theorem dX6_spreadSet_69 : decode cX6_spreadSet 69 = .ok (.iload 4, 2) := by decide +kernel
theorem dX6_spreadSet_71 : decode cX6_spreadSet 71 = .ok (.ishr, 1) := by decide +kernel
theorem dX6_spreadSet_72 : decode cX6_spreadSet 72 = .ok (.iconst 1, 1) := by decide +kernel
theorem dX6_spreadSet_73 : decode cX6_spreadSet 73 = .ok (.iand, 1) := by decide +kernel
theorem dX6_spreadSet_74 : decode cX6_spreadSet 74 = .ok (.ifCond .eq 34, 3) := by decide +kernel
theorem dX6_spreadSet_77 : decode cX6_spreadSet 77 = .ok (.iload 5, 2) := by decide +kernel
theorem dX6_spreadSet_79 : decode cX6_spreadSet 79 = .ok (.ifCond .lt 29, 3) := by decide +kernel
theorem dX6_spreadSet_82 : decode cX6_spreadSet 82 = .ok (.iload 5, 2) := by decide +kernel
theorem dX6_spreadSet_84 : decode cX6_spreadSet 84 = .ok (.sipush 256, 3) := by decide +kernel
theorem dX6_spreadSet_87 : decode cX6_spreadSet 87 = .ok (.if_icmp .ge 21, 3) := by decide +kernel
theorem dX6_spreadSet_90 : decode cX6_spreadSet 90 = .ok (.aload_n 0, 1) := by decide +kernel
theorem dX6_spreadSet_91 : decode cX6_spreadSet 91 = .ok (.getfield 19, 3) := by decide +kernel
theorem dX6_spreadSet_94 : decode cX6_spreadSet 94 = .ok (.iload_n 1, 1) := by decide +kernel
theorem dX6_spreadSet_95 : decode cX6_spreadSet 95 = .ok (.iconst 1, 1) := by decide +kernel
theorem dX6_spreadSet_96 : decode cX6_spreadSet 96 = .ok (.iadd, 1) := by decide +kernel
theorem dX6_spreadSet_97 : decode cX6_spreadSet 97 = .ok (.aaload, 1) := by decide +kernel
theorem dX6_spreadSet_98 : decode cX6_spreadSet 98 = .ok (.iload 5, 2) := by decide +kernel
theorem dX6_spreadSet_100 : decode cX6_spreadSet 100 = .ok (.dup2, 1) := by decide +kernel
theorem dX6_spreadSet_101 : decode cX6_spreadSet 101 = .ok (.iaload, 1) := by decide +kernel
theorem dX6_spreadSet_102 : decode cX6_spreadSet 102 = .ok (.iconst 1, 1) := by decide +kernel
theorem dX6_spreadSet_103 : decode cX6_spreadSet 103 = .ok (.iload 4, 2) := by decide +kernel
theorem dX6_spreadSet_105 : decode cX6_spreadSet 105 = .ok (.ishl, 1) := by decide +kernel
theorem dX6_spreadSet_106 : decode cX6_spreadSet 106 = .ok (.ior, 1) := by decide +kernel
theorem dX6_spreadSet_107 : decode cX6_spreadSet 107 = .ok (.iastore, 1) := by decide +kernel
theorem dX6_spreadSet_108 : decode cX6_spreadSet 108 = .ok (.iinc 4 1, 3) := by decide +kernel
theorem dX6_spreadSet_111 : decode cX6_spreadSet 111 = .ok (.goto (-72), 3) := by decide +kernel
theorem dX6_spreadSet_114 : decode cX6_spreadSet 114 = .ok (.return_, 1) := by decide +kernel
theorem dX6_nearOfAll_0 : decode cX6_nearOfAll 0 = .ok (.iconst 0, 1) := by decide +kernel
theorem dX6_nearOfAll_1 : decode cX6_nearOfAll 1 = .ok (.istore_n 3, 1) := by decide +kernel
theorem dX6_nearOfAll_2 : decode cX6_nearOfAll 2 = .ok (.iload_n 1, 1) := by decide +kernel
theorem dX6_nearOfAll_3 : decode cX6_nearOfAll 3 = .ok (.ifCond .lt 55, 3) := by decide +kernel
theorem dX6_nearOfAll_6 : decode cX6_nearOfAll 6 = .ok (.iload_n 1, 1) := by decide +kernel
theorem dX6_nearOfAll_7 : decode cX6_nearOfAll 7 = .ok (.bipush 12, 2) := by decide +kernel
theorem dX6_nearOfAll_9 : decode cX6_nearOfAll 9 = .ok (.if_icmp .ge 49, 3) := by decide +kernel
theorem dX6_nearOfAll_12 : decode cX6_nearOfAll 12 = .ok (.iconst 0, 1) := by decide +kernel
theorem dX6_nearOfAll_13 : decode cX6_nearOfAll 13 = .ok (.istore 4, 2) := by decide +kernel
theorem dX6_nearOfAll_15 : decode cX6_nearOfAll 15 = .ok (.iload 4, 2) := by decide +kernel
theorem dX6_nearOfAll_17 : decode cX6_nearOfAll 17 = .ok (.aload_n 0, 1) := by decide +kernel
theorem dX6_nearOfAll_18 : decode cX6_nearOfAll 18 = .ok (.getfield 54, 3) := by decide +kernel
theorem dX6_nearOfAll_21 : decode cX6_nearOfAll 21 = .ok (.if_icmp .ge 37, 3) := by decide +kernel
theorem dX6_nearOfAll_24 : decode cX6_nearOfAll 24 = .ok (.iload 4, 2) := by decide +kernel
theorem dX6_nearOfAll_26 : decode cX6_nearOfAll 26 = .ok (.bipush 9, 2) := by decide +kernel
theorem dX6_nearOfAll_28 : decode cX6_nearOfAll 28 = .ok (.if_icmp .ge 30, 3) := by decide +kernel
theorem dX6_nearOfAll_31 : decode cX6_nearOfAll 31 = .ok (.iload_n 2, 1) := by decide +kernel
theorem dX6_nearOfAll_32 : decode cX6_nearOfAll 32 = .ok (.iload 4, 2) := by decide +kernel
theorem dX6_nearOfAll_34 : decode cX6_nearOfAll 34 = .ok (.ishr, 1) := by decide +kernel
theorem dX6_nearOfAll_35 : decode cX6_nearOfAll 35 = .ok (.iconst 1, 1) := by decide +kernel
theorem dX6_nearOfAll_36 : decode cX6_nearOfAll 36 = .ok (.iand, 1) := by decide +kernel
theorem dX6_nearOfAll_37 : decode cX6_nearOfAll 37 = .ok (.ifCond .eq 15, 3) := by decide +kernel
theorem dX6_nearOfAll_40 : decode cX6_nearOfAll 40 = .ok (.iload_n 3, 1) := by decide +kernel
theorem dX6_nearOfAll_41 : decode cX6_nearOfAll 41 = .ok (.aload_n 0, 1) := by decide +kernel
theorem dX6_nearOfAll_42 : decode cX6_nearOfAll 42 = .ok (.getfield 13, 3) := by decide +kernel
theorem dX6_nearOfAll_45 : decode cX6_nearOfAll 45 = .ok (.iload_n 1, 1) := by decide +kernel
theorem dX6_nearOfAll_46 : decode cX6_nearOfAll 46 = .ok (.aaload, 1) := by decide +kernel
theorem dX6_nearOfAll_47 : decode cX6_nearOfAll 47 = .ok (.iload 4, 2) := by decide +kernel
theorem dX6_nearOfAll_49 : decode cX6_nearOfAll 49 = .ok (.iaload, 1) := by decide +kernel
theorem dX6_nearOfAll_50 : decode cX6_nearOfAll 50 = .ok (.ior, 1) := by decide +kernel
theorem dX6_nearOfAll_51 : decode cX6_nearOfAll 51 = .ok (.istore_n 3, 1) := by decide +kernel
theorem dX6_nearOfAll_52 : decode cX6_nearOfAll 52 = .ok (.iinc 4 1, 3) := by decide +kernel
theorem dX6_nearOfAll_55 : decode cX6_nearOfAll 55 = .ok (.goto (-40), 3) := by decide +kernel
theorem dX6_nearOfAll_58 : decode cX6_nearOfAll 58 = .ok (.iload_n 3, 1) := by decide +kernel
theorem dX6_nearOfAll_59 : decode cX6_nearOfAll 59 = .ok (.ireturn, 1) := by decide +kernel
theorem dX6_bestValue_0 : decode cX6_bestValue 0 = .ok (.iconst 0, 1) := by decide +kernel
theorem dX6_bestValue_1 : decode cX6_bestValue 1 = .ok (.istore_n 2, 1) := by decide +kernel
theorem dX6_bestValue_2 : decode cX6_bestValue 2 = .ok (.iconst 0, 1) := by decide +kernel
theorem dX6_bestValue_3 : decode cX6_bestValue 3 = .ok (.istore_n 3, 1) := by decide +kernel
theorem dX6_bestValue_4 : decode cX6_bestValue 4 = .ok (.iload_n 3, 1) := by decide +kernel
theorem dX6_bestValue_5 : decode cX6_bestValue 5 = .ok (.aload_n 0, 1) := by decide +kernel
theorem dX6_bestValue_6 : decode cX6_bestValue 6 = .ok (.getfield 68, 3) := by decide +kernel
theorem dX6_bestValue_9 : decode cX6_bestValue 9 = .ok (.if_icmp .ge 48, 3) := by decide +kernel
theorem dX6_bestValue_12 : decode cX6_bestValue 12 = .ok (.iload_n 3, 1) := by decide +kernel
theorem dX6_bestValue_13 : decode cX6_bestValue 13 = .ok (.sipush 256, 3) := by decide +kernel
theorem dX6_bestValue_16 : decode cX6_bestValue 16 = .ok (.if_icmp .ge 41, 3) := by decide +kernel
theorem dX6_bestValue_19 : decode cX6_bestValue 19 = .ok (.iload_n 1, 1) := by decide +kernel
theorem dX6_bestValue_20 : decode cX6_bestValue 20 = .ok (.ifCond .lt 31, 3) := by decide +kernel
theorem dX6_bestValue_23 : decode cX6_bestValue 23 = .ok (.iload_n 1, 1) := by decide +kernel
theorem dX6_bestValue_24 : decode cX6_bestValue 24 = .ok (.bipush 12, 2) := by decide +kernel
theorem dX6_bestValue_26 : decode cX6_bestValue 26 = .ok (.if_icmp .gt 25, 3) := by decide +kernel
theorem dX6_bestValue_29 : decode cX6_bestValue 29 = .ok (.aload_n 0, 1) := by decide +kernel
theorem dX6_bestValue_30 : decode cX6_bestValue 30 = .ok (.getfield 19, 3) := by decide +kernel
theorem dX6_bestValue_33 : decode cX6_bestValue 33 = .ok (.iload_n 1, 1) := by decide +kernel
theorem dX6_bestValue_34 : decode cX6_bestValue 34 = .ok (.aaload, 1) := by decide +kernel
theorem dX6_bestValue_35 : decode cX6_bestValue 35 = .ok (.iload_n 3, 1) := by decide +kernel
theorem dX6_bestValue_36 : decode cX6_bestValue 36 = .ok (.iaload, 1) := by decide +kernel
theorem dX6_bestValue_37 : decode cX6_bestValue 37 = .ok (.ifCond .eq 14, 3) := by decide +kernel
theorem dX6_bestValue_40 : decode cX6_bestValue 40 = .ok (.iload_n 2, 1) := by decide +kernel
theorem dX6_bestValue_41 : decode cX6_bestValue 41 = .ok (.aload_n 0, 1) := by decide +kernel
theorem dX6_bestValue_42 : decode cX6_bestValue 42 = .ok (.getfield 25, 3) := by decide +kernel
theorem dX6_bestValue_45 : decode cX6_bestValue 45 = .ok (.iload_n 3, 1) := by decide +kernel
theorem dX6_bestValue_46 : decode cX6_bestValue 46 = .ok (.iaload, 1) := by decide +kernel
theorem dX6_bestValue_47 : decode cX6_bestValue 47 = .ok (.invokestatic 109, 3) := by decide +kernel
theorem dX6_bestValue_50 : decode cX6_bestValue 50 = .ok (.istore_n 2, 1) := by decide +kernel
theorem dX6_bestValue_51 : decode cX6_bestValue 51 = .ok (.iinc 3 1, 3) := by decide +kernel
theorem dX6_bestValue_54 : decode cX6_bestValue 54 = .ok (.goto (-50), 3) := by decide +kernel
theorem dX6_bestValue_57 : decode cX6_bestValue 57 = .ok (.iload_n 2, 1) := by decide +kernel
theorem dX6_bestValue_58 : decode cX6_bestValue 58 = .ok (.ireturn, 1) := by decide +kernel
theorem dX6_startValue_0 : decode cX6_startValue 0 = .ok (.aload_n 0, 1) := by decide +kernel
theorem dX6_startValue_1 : decode cX6_startValue 1 = .ok (.getfield 95, 3) := by decide +kernel
theorem dX6_startValue_4 : decode cX6_startValue 4 = .ok (.ifCond .lt 25, 3) := by decide +kernel
theorem dX6_startValue_7 : decode cX6_startValue 7 = .ok (.aload_n 0, 1) := by decide +kernel
theorem dX6_startValue_8 : decode cX6_startValue 8 = .ok (.getfield 95, 3) := by decide +kernel
theorem dX6_startValue_11 : decode cX6_startValue 11 = .ok (.sipush 256, 3) := by decide +kernel
theorem dX6_startValue_14 : decode cX6_startValue 14 = .ok (.if_icmp .ge 15, 3) := by decide +kernel
theorem dX6_startValue_17 : decode cX6_startValue 17 = .ok (.aload_n 0, 1) := by decide +kernel
theorem dX6_startValue_18 : decode cX6_startValue 18 = .ok (.getfield 25, 3) := by decide +kernel
theorem dX6_startValue_21 : decode cX6_startValue 21 = .ok (.aload_n 0, 1) := by decide +kernel
theorem dX6_startValue_22 : decode cX6_startValue 22 = .ok (.getfield 95, 3) := by decide +kernel
theorem dX6_startValue_25 : decode cX6_startValue 25 = .ok (.iaload, 1) := by decide +kernel
theorem dX6_startValue_26 : decode cX6_startValue 26 = .ok (.goto 4, 3) := by decide +kernel
theorem dX6_startValue_29 : decode cX6_startValue 29 = .ok (.iconst 0, 1) := by decide +kernel
theorem dX6_startValue_30 : decode cX6_startValue 30 = .ok (.ireturn, 1) := by decide +kernel
theorem dX6_bestFrom_0 : decode cX6_bestFrom 0 = .ok (.aload_n 0, 1) := by decide +kernel
theorem dX6_bestFrom_1 : decode cX6_bestFrom 1 = .ok (.iload_n 1, 1) := by decide +kernel
theorem dX6_bestFrom_2 : decode cX6_bestFrom 2 = .ok (.iload_n 2, 1) := by decide +kernel
theorem dX6_bestFrom_3 : decode cX6_bestFrom 3 = .ok (.iload_n 3, 1) := by decide +kernel
theorem dX6_bestFrom_4 : decode cX6_bestFrom 4 = .ok (.invokevirtual 112, 3) := by decide +kernel
theorem dX6_bestFrom_7 : decode cX6_bestFrom 7 = .ok (.aload_n 0, 1) := by decide +kernel
theorem dX6_bestFrom_8 : decode cX6_bestFrom 8 = .ok (.iload_n 3, 1) := by decide +kernel
theorem dX6_bestFrom_9 : decode cX6_bestFrom 9 = .ok (.invokevirtual 116, 3) := by decide +kernel
theorem dX6_bestFrom_12 : decode cX6_bestFrom 12 = .ok (.aload_n 0, 1) := by decide +kernel
theorem dX6_bestFrom_13 : decode cX6_bestFrom 13 = .ok (.invokevirtual 119, 3) := by decide +kernel
theorem dX6_bestFrom_16 : decode cX6_bestFrom 16 = .ok (.isub, 1) := by decide +kernel
theorem dX6_bestFrom_17 : decode cX6_bestFrom 17 = .ok (.ireturn, 1) := by decide +kernel
theorem dX6_trace_0 : decode cX6_trace 0 = .ok (.aload_n 0, 1) := by decide +kernel
theorem dX6_trace_1 : decode cX6_trace 1 = .ok (.iload_n 1, 1) := by decide +kernel
theorem dX6_trace_2 : decode cX6_trace 2 = .ok (.invokevirtual 116, 3) := by decide +kernel
theorem dX6_trace_5 : decode cX6_trace 5 = .ok (.istore_n 2, 1) := by decide +kernel
theorem dX6_trace_6 : decode cX6_trace 6 = .ok (.aload_n 0, 1) := by decide +kernel
theorem dX6_trace_7 : decode cX6_trace 7 = .ok (.iload_n 2, 1) := by decide +kernel
theorem dX6_trace_8 : decode cX6_trace 8 = .ok (.aload_n 0, 1) := by decide +kernel
theorem dX6_trace_9 : decode cX6_trace 9 = .ok (.invokevirtual 119, 3) := by decide +kernel
theorem dX6_trace_12 : decode cX6_trace 12 = .ok (.isub, 1) := by decide +kernel
theorem dX6_trace_13 : decode cX6_trace 13 = .ok (.putfield 39, 3) := by decide +kernel
theorem dX6_trace_16 : decode cX6_trace 16 = .ok (.iload_n 1, 1) := by decide +kernel
theorem dX6_trace_17 : decode cX6_trace 17 = .ok (.ifCond .lt 9, 3) := by decide +kernel
theorem dX6_trace_20 : decode cX6_trace 20 = .ok (.iload_n 1, 1) := by decide +kernel
theorem dX6_trace_21 : decode cX6_trace 21 = .ok (.bipush 12, 2) := by decide +kernel
theorem dX6_trace_23 : decode cX6_trace 23 = .ok (.if_icmp .le 4, 3) := by decide +kernel
theorem dX6_trace_26 : decode cX6_trace 26 = .ok (.return_, 1) := by decide +kernel
theorem dX6_trace_27 : decode cX6_trace 27 = .ok (.iconst 0, 1) := by decide +kernel
theorem dX6_trace_28 : decode cX6_trace 28 = .ok (.istore_n 3, 1) := by decide +kernel
theorem dX6_trace_29 : decode cX6_trace 29 = .ok (.iload_n 3, 1) := by decide +kernel
theorem dX6_trace_30 : decode cX6_trace 30 = .ok (.aload_n 0, 1) := by decide +kernel
theorem dX6_trace_31 : decode cX6_trace 31 = .ok (.getfield 68, 3) := by decide +kernel
theorem dX6_trace_34 : decode cX6_trace 34 = .ok (.if_icmp .ge 46, 3) := by decide +kernel
theorem dX6_trace_37 : decode cX6_trace 37 = .ok (.iload_n 3, 1) := by decide +kernel
theorem dX6_trace_38 : decode cX6_trace 38 = .ok (.sipush 256, 3) := by decide +kernel
theorem dX6_trace_41 : decode cX6_trace 41 = .ok (.if_icmp .ge 39, 3) := by decide +kernel
theorem dX6_trace_44 : decode cX6_trace 44 = .ok (.aload_n 0, 1) := by decide +kernel
theorem dX6_trace_45 : decode cX6_trace 45 = .ok (.getfield 22, 3) := by decide +kernel
theorem dX6_trace_48 : decode cX6_trace 48 = .ok (.iload_n 1, 1) := by decide +kernel
theorem dX6_trace_49 : decode cX6_trace 49 = .ok (.aaload, 1) := by decide +kernel
theorem dX6_trace_50 : decode cX6_trace 50 = .ok (.iload_n 3, 1) := by decide +kernel
theorem dX6_trace_51 : decode cX6_trace 51 = .ok (.aload_n 0, 1) := by decide +kernel
theorem dX6_trace_52 : decode cX6_trace 52 = .ok (.getfield 25, 3) := by decide +kernel
theorem dX6_trace_55 : decode cX6_trace 55 = .ok (.iload_n 3, 1) := by decide +kernel
theorem dX6_trace_56 : decode cX6_trace 56 = .ok (.iaload, 1) := by decide +kernel
theorem dX6_trace_57 : decode cX6_trace 57 = .ok (.iload_n 2, 1) := by decide +kernel
theorem dX6_trace_58 : decode cX6_trace 58 = .ok (.if_icmp .ne 14, 3) := by decide +kernel
theorem dX6_trace_61 : decode cX6_trace 61 = .ok (.aload_n 0, 1) := by decide +kernel
theorem dX6_trace_62 : decode cX6_trace 62 = .ok (.getfield 19, 3) := by decide +kernel
theorem dX6_trace_65 : decode cX6_trace 65 = .ok (.iload_n 1, 1) := by decide +kernel
theorem dX6_trace_66 : decode cX6_trace 66 = .ok (.aaload, 1) := by decide +kernel
theorem dX6_trace_67 : decode cX6_trace 67 = .ok (.iload_n 3, 1) := by decide +kernel
theorem dX6_trace_68 : decode cX6_trace 68 = .ok (.iaload, 1) := by decide +kernel
theorem dX6_trace_69 : decode cX6_trace 69 = .ok (.goto 4, 3) := by decide +kernel
theorem dX6_trace_72 : decode cX6_trace 72 = .ok (.iconst 0, 1) := by decide +kernel
theorem dX6_trace_73 : decode cX6_trace 73 = .ok (.iastore, 1) := by decide +kernel
theorem dX6_trace_74 : decode cX6_trace 74 = .ok (.iinc 3 1, 3) := by decide +kernel
theorem dX6_trace_77 : decode cX6_trace 77 = .ok (.goto (-48), 3) := by decide +kernel
theorem dX6_trace_80 : decode cX6_trace 80 = .ok (.iload_n 1, 1) := by decide +kernel
theorem dX6_trace_81 : decode cX6_trace 81 = .ok (.iconst 1, 1) := by decide +kernel
theorem dX6_trace_82 : decode cX6_trace 82 = .ok (.isub, 1) := by decide +kernel
theorem dX6_trace_83 : decode cX6_trace 83 = .ok (.istore_n 3, 1) := by decide +kernel
theorem dX6_trace_84 : decode cX6_trace 84 = .ok (.iload_n 3, 1) := by decide +kernel
theorem dX6_trace_85 : decode cX6_trace 85 = .ok (.ifCond .lt 77, 3) := by decide +kernel
theorem dX6_trace_88 : decode cX6_trace 88 = .ok (.iconst 0, 1) := by decide +kernel
theorem dX6_trace_89 : decode cX6_trace 89 = .ok (.istore 4, 2) := by decide +kernel
theorem dX6_trace_91 : decode cX6_trace 91 = .ok (.iload 4, 2) := by decide +kernel
theorem dX6_trace_93 : decode cX6_trace 93 = .ok (.aload_n 0, 1) := by decide +kernel
theorem dX6_trace_94 : decode cX6_trace 94 = .ok (.getfield 68, 3) := by decide +kernel
theorem dX6_trace_97 : decode cX6_trace 97 = .ok (.if_icmp .ge 59, 3) := by decide +kernel
theorem dX6_trace_100 : decode cX6_trace 100 = .ok (.iload 4, 2) := by decide +kernel
theorem dX6_trace_102 : decode cX6_trace 102 = .ok (.sipush 256, 3) := by decide +kernel
theorem dX6_trace_105 : decode cX6_trace 105 = .ok (.if_icmp .ge 51, 3) := by decide +kernel
theorem dX6_trace_108 : decode cX6_trace 108 = .ok (.aload_n 0, 1) := by decide +kernel
theorem dX6_trace_109 : decode cX6_trace 109 = .ok (.getfield 22, 3) := by decide +kernel
theorem dX6_trace_112 : decode cX6_trace 112 = .ok (.iload_n 3, 1) := by decide +kernel
theorem dX6_trace_113 : decode cX6_trace 113 = .ok (.aaload, 1) := by decide +kernel
theorem dX6_trace_114 : decode cX6_trace 114 = .ok (.iload 4, 2) := by decide +kernel
theorem dX6_trace_116 : decode cX6_trace 116 = .ok (.aload_n 0, 1) := by decide +kernel
theorem dX6_trace_117 : decode cX6_trace 117 = .ok (.getfield 19, 3) := by decide +kernel
theorem dX6_trace_120 : decode cX6_trace 120 = .ok (.iload_n 3, 1) := by decide +kernel
theorem dX6_trace_121 : decode cX6_trace 121 = .ok (.aaload, 1) := by decide +kernel
theorem dX6_trace_122 : decode cX6_trace 122 = .ok (.iload 4, 2) := by decide +kernel
theorem dX6_trace_124 : decode cX6_trace 124 = .ok (.iaload, 1) := by decide +kernel
theorem dX6_trace_125 : decode cX6_trace 125 = .ok (.ifCond .ne 7, 3) := by decide +kernel
theorem dX6_trace_128 : decode cX6_trace 128 = .ok (.iconst 0, 1) := by decide +kernel
theorem dX6_trace_129 : decode cX6_trace 129 = .ok (.goto 20, 3) := by decide +kernel
theorem dX6_trace_132 : decode cX6_trace 132 = .ok (.aload_n 0, 1) := by decide +kernel
theorem dX6_trace_133 : decode cX6_trace 133 = .ok (.getfield 19, 3) := by decide +kernel
theorem dX6_trace_136 : decode cX6_trace 136 = .ok (.iload_n 3, 1) := by decide +kernel
theorem dX6_trace_137 : decode cX6_trace 137 = .ok (.aaload, 1) := by decide +kernel
theorem dX6_trace_138 : decode cX6_trace 138 = .ok (.iload 4, 2) := by decide +kernel
theorem dX6_trace_140 : decode cX6_trace 140 = .ok (.iaload, 1) := by decide +kernel
theorem dX6_trace_141 : decode cX6_trace 141 = .ok (.aload_n 0, 1) := by decide +kernel
theorem dX6_trace_142 : decode cX6_trace 142 = .ok (.iload_n 3, 1) := by decide +kernel
theorem dX6_trace_143 : decode cX6_trace 143 = .ok (.iload 4, 2) := by decide +kernel
theorem dX6_trace_145 : decode cX6_trace 145 = .ok (.invokevirtual 123, 3) := by decide +kernel
theorem dX6_trace_148 : decode cX6_trace 148 = .ok (.iand, 1) := by decide +kernel
theorem dX6_trace_149 : decode cX6_trace 149 = .ok (.iastore, 1) := by decide +kernel
theorem dX6_trace_150 : decode cX6_trace 150 = .ok (.iinc 4 1, 3) := by decide +kernel
theorem dX6_trace_153 : decode cX6_trace 153 = .ok (.goto (-62), 3) := by decide +kernel
theorem dX6_trace_156 : decode cX6_trace 156 = .ok (.iinc 3 (-1), 3) := by decide +kernel
theorem dX6_trace_159 : decode cX6_trace 159 = .ok (.goto (-75), 3) := by decide +kernel
theorem dX6_trace_162 : decode cX6_trace 162 = .ok (.aload_n 0, 1) := by decide +kernel
theorem dX6_trace_163 : decode cX6_trace 163 = .ok (.iload_n 1, 1) := by decide +kernel
theorem dX6_trace_164 : decode cX6_trace 164 = .ok (.invokevirtual 126, 3) := by decide +kernel
theorem dX6_trace_167 : decode cX6_trace 167 = .ok (.return_, 1) := by decide +kernel
theorem dX6_comeFrom_0 : decode cX6_comeFrom 0 = .ok (.iconst 0, 1) := by decide +kernel
theorem dX6_comeFrom_1 : decode cX6_comeFrom 1 = .ok (.istore_n 3, 1) := by decide +kernel
theorem dX6_comeFrom_2 : decode cX6_comeFrom 2 = .ok (.iconst 0, 1) := by decide +kernel
theorem dX6_comeFrom_3 : decode cX6_comeFrom 3 = .ok (.istore 4, 2) := by decide +kernel
theorem dX6_comeFrom_5 : decode cX6_comeFrom 5 = .ok (.iload 4, 2) := by decide +kernel
theorem dX6_comeFrom_7 : decode cX6_comeFrom 7 = .ok (.aload_n 0, 1) := by decide +kernel
theorem dX6_comeFrom_8 : decode cX6_comeFrom 8 = .ok (.getfield 54, 3) := by decide +kernel
theorem dX6_comeFrom_11 : decode cX6_comeFrom 11 = .ok (.if_icmp .ge 39, 3) := by decide +kernel
theorem dX6_comeFrom_14 : decode cX6_comeFrom 14 = .ok (.iload 4, 2) := by decide +kernel
theorem dX6_comeFrom_16 : decode cX6_comeFrom 16 = .ok (.bipush 9, 2) := by decide +kernel
theorem dX6_comeFrom_18 : decode cX6_comeFrom 18 = .ok (.if_icmp .ge 32, 3) := by decide +kernel
theorem dX6_comeFrom_21 : decode cX6_comeFrom 21 = .ok (.aload_n 0, 1) := by decide +kernel
theorem dX6_comeFrom_22 : decode cX6_comeFrom 22 = .ok (.iload_n 1, 1) := by decide +kernel
theorem dX6_comeFrom_23 : decode cX6_comeFrom 23 = .ok (.iload_n 2, 1) := by decide +kernel
theorem dX6_comeFrom_24 : decode cX6_comeFrom 24 = .ok (.iload 4, 2) := by decide +kernel
theorem dX6_comeFrom_26 : decode cX6_comeFrom 26 = .ok (.invokevirtual 129, 3) := by decide +kernel
theorem dX6_comeFrom_29 : decode cX6_comeFrom 29 = .ok (.ifCond .eq 15, 3) := by decide +kernel
theorem dX6_comeFrom_32 : decode cX6_comeFrom 32 = .ok (.iload_n 3, 1) := by decide +kernel
theorem dX6_comeFrom_33 : decode cX6_comeFrom 33 = .ok (.aload_n 0, 1) := by decide +kernel
theorem dX6_comeFrom_34 : decode cX6_comeFrom 34 = .ok (.getfield 13, 3) := by decide +kernel
theorem dX6_comeFrom_37 : decode cX6_comeFrom 37 = .ok (.iload_n 1, 1) := by decide +kernel
theorem dX6_comeFrom_38 : decode cX6_comeFrom 38 = .ok (.aaload, 1) := by decide +kernel
theorem dX6_comeFrom_39 : decode cX6_comeFrom 39 = .ok (.iload 4, 2) := by decide +kernel
theorem dX6_comeFrom_41 : decode cX6_comeFrom 41 = .ok (.iaload, 1) := by decide +kernel
theorem dX6_comeFrom_42 : decode cX6_comeFrom 42 = .ok (.ior, 1) := by decide +kernel
theorem dX6_comeFrom_43 : decode cX6_comeFrom 43 = .ok (.istore_n 3, 1) := by decide +kernel
theorem dX6_comeFrom_44 : decode cX6_comeFrom 44 = .ok (.iinc 4 1, 3) := by decide +kernel
theorem dX6_comeFrom_47 : decode cX6_comeFrom 47 = .ok (.goto (-42), 3) := by decide +kernel
theorem dX6_comeFrom_50 : decode cX6_comeFrom 50 = .ok (.iload_n 3, 1) := by decide +kernel
theorem dX6_comeFrom_51 : decode cX6_comeFrom 51 = .ok (.ireturn, 1) := by decide +kernel
theorem dX6_isGood_0 : decode cX6_isGood 0 = .ok (.iload_n 1, 1) := by decide +kernel
theorem dX6_isGood_1 : decode cX6_isGood 1 = .ok (.ifCond .lt 19, 3) := by decide +kernel
theorem dX6_isGood_4 : decode cX6_isGood 4 = .ok (.iload_n 1, 1) := by decide +kernel
theorem dX6_isGood_5 : decode cX6_isGood 5 = .ok (.bipush 12, 2) := by decide +kernel
theorem dX6_isGood_7 : decode cX6_isGood 7 = .ok (.if_icmp .ge 13, 3) := by decide +kernel
theorem dX6_isGood_10 : decode cX6_isGood 10 = .ok (.iload_n 3, 1) := by decide +kernel
theorem dX6_isGood_11 : decode cX6_isGood 11 = .ok (.ifCond .lt 9, 3) := by decide +kernel
theorem dX6_isGood_14 : decode cX6_isGood 14 = .ok (.iload_n 3, 1) := by decide +kernel
theorem dX6_isGood_15 : decode cX6_isGood 15 = .ok (.bipush 9, 2) := by decide +kernel
theorem dX6_isGood_17 : decode cX6_isGood 17 = .ok (.if_icmp .lt 5, 3) := by decide +kernel
theorem dX6_isGood_20 : decode cX6_isGood 20 = .ok (.iconst 0, 1) := by decide +kernel
theorem dX6_isGood_21 : decode cX6_isGood 21 = .ok (.ireturn, 1) := by decide +kernel
theorem dX6_isGood_22 : decode cX6_isGood 22 = .ok (.iload_n 2, 1) := by decide +kernel
theorem dX6_isGood_23 : decode cX6_isGood 23 = .ok (.aload_n 0, 1) := by decide +kernel
theorem dX6_isGood_24 : decode cX6_isGood 24 = .ok (.getfield 16, 3) := by decide +kernel
theorem dX6_isGood_27 : decode cX6_isGood 27 = .ok (.iload_n 1, 1) := by decide +kernel
theorem dX6_isGood_28 : decode cX6_isGood 28 = .ok (.aaload, 1) := by decide +kernel
theorem dX6_isGood_29 : decode cX6_isGood 29 = .ok (.iload_n 3, 1) := by decide +kernel
theorem dX6_isGood_30 : decode cX6_isGood 30 = .ok (.iaload, 1) := by decide +kernel
theorem dX6_isGood_31 : decode cX6_isGood 31 = .ok (.ior, 1) := by decide +kernel
theorem dX6_isGood_32 : decode cX6_isGood 32 = .ok (.istore 4, 2) := by decide +kernel
theorem dX6_isGood_34 : decode cX6_isGood 34 = .ok (.iload 4, 2) := by decide +kernel
theorem dX6_isGood_36 : decode cX6_isGood 36 = .ok (.ifCond .lt 33, 3) := by decide +kernel
theorem dX6_isGood_39 : decode cX6_isGood 39 = .ok (.iload 4, 2) := by decide +kernel
theorem dX6_isGood_41 : decode cX6_isGood 41 = .ok (.sipush 256, 3) := by decide +kernel
theorem dX6_isGood_44 : decode cX6_isGood 44 = .ok (.if_icmp .ge 25, 3) := by decide +kernel
theorem dX6_isGood_47 : decode cX6_isGood 47 = .ok (.aload_n 0, 1) := by decide +kernel
theorem dX6_isGood_48 : decode cX6_isGood 48 = .ok (.getfield 22, 3) := by decide +kernel
theorem dX6_isGood_51 : decode cX6_isGood 51 = .ok (.iload_n 1, 1) := by decide +kernel
theorem dX6_isGood_52 : decode cX6_isGood 52 = .ok (.iconst 1, 1) := by decide +kernel
theorem dX6_isGood_53 : decode cX6_isGood 53 = .ok (.iadd, 1) := by decide +kernel
theorem dX6_isGood_54 : decode cX6_isGood 54 = .ok (.aaload, 1) := by decide +kernel
theorem dX6_isGood_55 : decode cX6_isGood 55 = .ok (.iload 4, 2) := by decide +kernel
theorem dX6_isGood_57 : decode cX6_isGood 57 = .ok (.iaload, 1) := by decide +kernel
theorem dX6_isGood_58 : decode cX6_isGood 58 = .ok (.iload_n 3, 1) := by decide +kernel
theorem dX6_isGood_59 : decode cX6_isGood 59 = .ok (.ishr, 1) := by decide +kernel
theorem dX6_isGood_60 : decode cX6_isGood 60 = .ok (.iconst 1, 1) := by decide +kernel
theorem dX6_isGood_61 : decode cX6_isGood 61 = .ok (.iand, 1) := by decide +kernel
theorem dX6_isGood_62 : decode cX6_isGood 62 = .ok (.ifCond .eq 7, 3) := by decide +kernel
theorem dX6_isGood_65 : decode cX6_isGood 65 = .ok (.iconst 1, 1) := by decide +kernel
theorem dX6_isGood_66 : decode cX6_isGood 66 = .ok (.goto 4, 3) := by decide +kernel
theorem dX6_isGood_69 : decode cX6_isGood 69 = .ok (.iconst 0, 1) := by decide +kernel
theorem dX6_isGood_70 : decode cX6_isGood 70 = .ok (.ireturn, 1) := by decide +kernel
theorem dX6_follow_0 : decode cX6_follow 0 = .ok (.aload_n 0, 1) := by decide +kernel
theorem dX6_follow_1 : decode cX6_follow 1 = .ok (.getfield 92, 3) := by decide +kernel
theorem dX6_follow_4 : decode cX6_follow 4 = .ok (.istore_n 2, 1) := by decide +kernel
theorem dX6_follow_5 : decode cX6_follow 5 = .ok (.aload_n 0, 1) := by decide +kernel
theorem dX6_follow_6 : decode cX6_follow 6 = .ok (.getfield 95, 3) := by decide +kernel
theorem dX6_follow_9 : decode cX6_follow 9 = .ok (.istore_n 3, 1) := by decide +kernel
theorem dX6_follow_10 : decode cX6_follow 10 = .ok (.aload_n 0, 1) := by decide +kernel
theorem dX6_follow_11 : decode cX6_follow 11 = .ok (.getfield 36, 3) := by decide +kernel
theorem dX6_follow_14 : decode cX6_follow 14 = .ok (.iconst 0, 1) := by decide +kernel
theorem dX6_follow_15 : decode cX6_follow 15 = .ok (.iload_n 3, 1) := by decide +kernel
theorem dX6_follow_16 : decode cX6_follow 16 = .ok (.iastore, 1) := by decide +kernel
theorem dX6_follow_17 : decode cX6_follow 17 = .ok (.iconst 0, 1) := by decide +kernel
theorem dX6_follow_18 : decode cX6_follow 18 = .ok (.istore 4, 2) := by decide +kernel
theorem dX6_follow_20 : decode cX6_follow 20 = .ok (.iload 4, 2) := by decide +kernel
theorem dX6_follow_22 : decode cX6_follow 22 = .ok (.iload_n 1, 1) := by decide +kernel
theorem dX6_follow_23 : decode cX6_follow 23 = .ok (.if_icmp .ge 66, 3) := by decide +kernel
theorem dX6_follow_26 : decode cX6_follow 26 = .ok (.iload 4, 2) := by decide +kernel
theorem dX6_follow_28 : decode cX6_follow 28 = .ok (.bipush 12, 2) := by decide +kernel
theorem dX6_follow_30 : decode cX6_follow 30 = .ok (.if_icmp .ge 59, 3) := by decide +kernel
theorem dX6_follow_33 : decode cX6_follow 33 = .ok (.aload_n 0, 1) := by decide +kernel
theorem dX6_follow_34 : decode cX6_follow 34 = .ok (.iload 4, 2) := by decide +kernel
theorem dX6_follow_36 : decode cX6_follow 36 = .ok (.iload_n 3, 1) := by decide +kernel
theorem dX6_follow_37 : decode cX6_follow 37 = .ok (.iload_n 2, 1) := by decide +kernel
theorem dX6_follow_38 : decode cX6_follow 38 = .ok (.invokevirtual 133, 3) := by decide +kernel
theorem dX6_follow_41 : decode cX6_follow 41 = .ok (.istore_n 2, 1) := by decide +kernel
theorem dX6_follow_42 : decode cX6_follow 42 = .ok (.iload_n 2, 1) := by decide +kernel
theorem dX6_follow_43 : decode cX6_follow 43 = .ok (.ifCond .lt 9, 3) := by decide +kernel
theorem dX6_follow_46 : decode cX6_follow 46 = .ok (.iload_n 2, 1) := by decide +kernel
theorem dX6_follow_47 : decode cX6_follow 47 = .ok (.bipush 9, 2) := by decide +kernel
theorem dX6_follow_49 : decode cX6_follow 49 = .ok (.if_icmp .lt 4, 3) := by decide +kernel
theorem dX6_follow_52 : decode cX6_follow 52 = .ok (.return_, 1) := by decide +kernel
theorem dX6_follow_53 : decode cX6_follow 53 = .ok (.iload_n 3, 1) := by decide +kernel
theorem dX6_follow_54 : decode cX6_follow 54 = .ok (.aload_n 0, 1) := by decide +kernel
theorem dX6_follow_55 : decode cX6_follow 55 = .ok (.getfield 16, 3) := by decide +kernel
theorem dX6_follow_58 : decode cX6_follow 58 = .ok (.iload 4, 2) := by decide +kernel
theorem dX6_follow_60 : decode cX6_follow 60 = .ok (.aaload, 1) := by decide +kernel
theorem dX6_follow_61 : decode cX6_follow 61 = .ok (.iload_n 2, 1) := by decide +kernel
theorem dX6_follow_62 : decode cX6_follow 62 = .ok (.iaload, 1) := by decide +kernel
theorem dX6_follow_63 : decode cX6_follow 63 = .ok (.ior, 1) := by decide +kernel
theorem dX6_follow_64 : decode cX6_follow 64 = .ok (.istore_n 3, 1) := by decide +kernel
theorem dX6_follow_65 : decode cX6_follow 65 = .ok (.aload_n 0, 1) := by decide +kernel
theorem dX6_follow_66 : decode cX6_follow 66 = .ok (.getfield 33, 3) := by decide +kernel
theorem dX6_follow_69 : decode cX6_follow 69 = .ok (.iload 4, 2) := by decide +kernel
theorem dX6_follow_71 : decode cX6_follow 71 = .ok (.iload_n 2, 1) := by decide +kernel
theorem dX6_follow_72 : decode cX6_follow 72 = .ok (.iastore, 1) := by decide +kernel
theorem dX6_follow_73 : decode cX6_follow 73 = .ok (.aload_n 0, 1) := by decide +kernel
theorem dX6_follow_74 : decode cX6_follow 74 = .ok (.getfield 36, 3) := by decide +kernel
theorem dX6_follow_77 : decode cX6_follow 77 = .ok (.iload 4, 2) := by decide +kernel
theorem dX6_follow_79 : decode cX6_follow 79 = .ok (.iconst 1, 1) := by decide +kernel
theorem dX6_follow_80 : decode cX6_follow 80 = .ok (.iadd, 1) := by decide +kernel
theorem dX6_follow_81 : decode cX6_follow 81 = .ok (.iload_n 3, 1) := by decide +kernel
theorem dX6_follow_82 : decode cX6_follow 82 = .ok (.iastore, 1) := by decide +kernel
theorem dX6_follow_83 : decode cX6_follow 83 = .ok (.iinc 4 1, 3) := by decide +kernel
theorem dX6_follow_86 : decode cX6_follow 86 = .ok (.goto (-66), 3) := by decide +kernel
theorem dX6_follow_89 : decode cX6_follow 89 = .ok (.return_, 1) := by decide +kernel
theorem dX6_leastGood_0 : decode cX6_leastGood 0 = .ok (.aload_n 0, 1) := by decide +kernel
theorem dX6_leastGood_1 : decode cX6_leastGood 1 = .ok (.iload_n 1, 1) := by decide +kernel
theorem dX6_leastGood_2 : decode cX6_leastGood 2 = .ok (.iconst 1, 1) := by decide +kernel
theorem dX6_leastGood_3 : decode cX6_leastGood 3 = .ok (.iload_n 3, 1) := by decide +kernel
theorem dX6_leastGood_4 : decode cX6_leastGood 4 = .ok (.ishl, 1) := by decide +kernel
theorem dX6_leastGood_5 : decode cX6_leastGood 5 = .ok (.invokevirtual 106, 3) := by decide +kernel
theorem dX6_leastGood_8 : decode cX6_leastGood 8 = .ok (.istore 4, 2) := by decide +kernel
theorem dX6_leastGood_10 : decode cX6_leastGood 10 = .ok (.iconst 0, 1) := by decide +kernel
theorem dX6_leastGood_11 : decode cX6_leastGood 11 = .ok (.istore 5, 2) := by decide +kernel
theorem dX6_leastGood_13 : decode cX6_leastGood 13 = .ok (.iload 5, 2) := by decide +kernel
theorem dX6_leastGood_15 : decode cX6_leastGood 15 = .ok (.aload_n 0, 1) := by decide +kernel
theorem dX6_leastGood_16 : decode cX6_leastGood 16 = .ok (.getfield 54, 3) := by decide +kernel
theorem dX6_leastGood_19 : decode cX6_leastGood 19 = .ok (.if_icmp .ge 40, 3) := by decide +kernel
theorem dX6_leastGood_22 : decode cX6_leastGood 22 = .ok (.iload 5, 2) := by decide +kernel
theorem dX6_leastGood_24 : decode cX6_leastGood 24 = .ok (.bipush 9, 2) := by decide +kernel
theorem dX6_leastGood_26 : decode cX6_leastGood 26 = .ok (.if_icmp .ge 33, 3) := by decide +kernel
theorem dX6_leastGood_29 : decode cX6_leastGood 29 = .ok (.iload 4, 2) := by decide +kernel
theorem dX6_leastGood_31 : decode cX6_leastGood 31 = .ok (.iload 5, 2) := by decide +kernel
theorem dX6_leastGood_33 : decode cX6_leastGood 33 = .ok (.ishr, 1) := by decide +kernel
theorem dX6_leastGood_34 : decode cX6_leastGood 34 = .ok (.iconst 1, 1) := by decide +kernel
theorem dX6_leastGood_35 : decode cX6_leastGood 35 = .ok (.iand, 1) := by decide +kernel
theorem dX6_leastGood_36 : decode cX6_leastGood 36 = .ok (.ifCond .eq 17, 3) := by decide +kernel
theorem dX6_leastGood_39 : decode cX6_leastGood 39 = .ok (.aload_n 0, 1) := by decide +kernel
theorem dX6_leastGood_40 : decode cX6_leastGood 40 = .ok (.iload_n 1, 1) := by decide +kernel
theorem dX6_leastGood_41 : decode cX6_leastGood 41 = .ok (.iload_n 2, 1) := by decide +kernel
theorem dX6_leastGood_42 : decode cX6_leastGood 42 = .ok (.iload 5, 2) := by decide +kernel
theorem dX6_leastGood_44 : decode cX6_leastGood 44 = .ok (.invokevirtual 129, 3) := by decide +kernel
theorem dX6_leastGood_47 : decode cX6_leastGood 47 = .ok (.ifCond .eq 6, 3) := by decide +kernel
theorem dX6_leastGood_50 : decode cX6_leastGood 50 = .ok (.iload 5, 2) := by decide +kernel
theorem dX6_leastGood_52 : decode cX6_leastGood 52 = .ok (.ireturn, 1) := by decide +kernel
theorem dX6_leastGood_53 : decode cX6_leastGood 53 = .ok (.iinc 5 1, 3) := by decide +kernel
theorem dX6_leastGood_56 : decode cX6_leastGood 56 = .ok (.goto (-43), 3) := by decide +kernel
theorem dX6_leastGood_59 : decode cX6_leastGood 59 = .ok (.iload_n 3, 1) := by decide +kernel
theorem dX6_leastGood_60 : decode cX6_leastGood 60 = .ok (.ireturn, 1) := by decide +kernel
theorem dX6_tellPath_0 : decode cX6_tellPath 0 = .ok (.iconst 0, 1) := by decide +kernel
theorem dX6_tellPath_1 : decode cX6_tellPath 1 = .ok (.istore_n 3, 1) := by decide +kernel
theorem dX6_tellPath_2 : decode cX6_tellPath 2 = .ok (.iload_n 3, 1) := by decide +kernel
theorem dX6_tellPath_3 : decode cX6_tellPath 3 = .ok (.iload_n 1, 1) := by decide +kernel
theorem dX6_tellPath_4 : decode cX6_tellPath 4 = .ok (.if_icmp .ge 26, 3) := by decide +kernel
theorem dX6_tellPath_7 : decode cX6_tellPath 7 = .ok (.iload_n 3, 1) := by decide +kernel
theorem dX6_tellPath_8 : decode cX6_tellPath 8 = .ok (.bipush 12, 2) := by decide +kernel
theorem dX6_tellPath_10 : decode cX6_tellPath 10 = .ok (.if_icmp .ge 20, 3) := by decide +kernel
theorem dX6_tellPath_13 : decode cX6_tellPath 13 = .ok (.aload_n 2, 1) := by decide +kernel
theorem dX6_tellPath_14 : decode cX6_tellPath 14 = .ok (.aload_n 0, 1) := by decide +kernel
theorem dX6_tellPath_15 : decode cX6_tellPath 15 = .ok (.getfield 33, 3) := by decide +kernel
theorem dX6_tellPath_18 : decode cX6_tellPath 18 = .ok (.iload_n 3, 1) := by decide +kernel
theorem dX6_tellPath_19 : decode cX6_tellPath 19 = .ok (.iaload, 1) := by decide +kernel
theorem dX6_tellPath_20 : decode cX6_tellPath 20 = .ok (.i2l, 1) := by decide +kernel
theorem dX6_tellPath_21 : decode cX6_tellPath 21 = .ok (.invokevirtual 137, 3) := by decide +kernel
theorem dX6_tellPath_24 : decode cX6_tellPath 24 = .ok (.iinc 3 1, 3) := by decide +kernel
theorem dX6_tellPath_27 : decode cX6_tellPath 27 = .ok (.goto (-25), 3) := by decide +kernel
theorem dX6_tellPath_30 : decode cX6_tellPath 30 = .ok (.return_, 1) := by decide +kernel
theorem dX6_playedIn_0 : decode cX6_playedIn 0 = .ok (.iload_n 1, 1) := by decide +kernel
theorem dX6_playedIn_1 : decode cX6_playedIn 1 = .ok (.iconst 1, 1) := by decide +kernel
theorem dX6_playedIn_2 : decode cX6_playedIn 2 = .ok (.if_icmp .lt 9, 3) := by decide +kernel
theorem dX6_playedIn_5 : decode cX6_playedIn 5 = .ok (.iload_n 1, 1) := by decide +kernel
theorem dX6_playedIn_6 : decode cX6_playedIn 6 = .ok (.bipush 12, 2) := by decide +kernel
theorem dX6_playedIn_8 : decode cX6_playedIn 8 = .ok (.if_icmp .le 5, 3) := by decide +kernel
theorem dX6_playedIn_11 : decode cX6_playedIn 11 = .ok (.iconst 0, 1) := by decide +kernel
theorem dX6_playedIn_12 : decode cX6_playedIn 12 = .ok (.ireturn, 1) := by decide +kernel
theorem dX6_playedIn_13 : decode cX6_playedIn 13 = .ok (.aload_n 0, 1) := by decide +kernel
theorem dX6_playedIn_14 : decode cX6_playedIn 14 = .ok (.getfield 36, 3) := by decide +kernel
theorem dX6_playedIn_17 : decode cX6_playedIn 17 = .ok (.iload_n 1, 1) := by decide +kernel
theorem dX6_playedIn_18 : decode cX6_playedIn 18 = .ok (.iaload, 1) := by decide +kernel
theorem dX6_playedIn_19 : decode cX6_playedIn 19 = .ok (.aload_n 0, 1) := by decide +kernel
theorem dX6_playedIn_20 : decode cX6_playedIn 20 = .ok (.getfield 36, 3) := by decide +kernel
theorem dX6_playedIn_23 : decode cX6_playedIn 23 = .ok (.iload_n 1, 1) := by decide +kernel
theorem dX6_playedIn_24 : decode cX6_playedIn 24 = .ok (.iconst 1, 1) := by decide +kernel
theorem dX6_playedIn_25 : decode cX6_playedIn 25 = .ok (.isub, 1) := by decide +kernel
theorem dX6_playedIn_26 : decode cX6_playedIn 26 = .ok (.iaload, 1) := by decide +kernel
theorem dX6_playedIn_27 : decode cX6_playedIn 27 = .ok (.iconst (-1), 1) := by decide +kernel
theorem dX6_playedIn_28 : decode cX6_playedIn 28 = .ok (.ixor, 1) := by decide +kernel
theorem dX6_playedIn_29 : decode cX6_playedIn 29 = .ok (.iand, 1) := by decide +kernel
theorem dX6_playedIn_30 : decode cX6_playedIn 30 = .ok (.ireturn, 1) := by decide +kernel
theorem dX6_playedBy_0 : decode cX6_playedBy 0 = .ok (.iload_n 1, 1) := by decide +kernel
theorem dX6_playedBy_1 : decode cX6_playedBy 1 = .ok (.ifCond .lt 18, 3) := by decide +kernel
theorem dX6_playedBy_4 : decode cX6_playedBy 4 = .ok (.iload_n 1, 1) := by decide +kernel
theorem dX6_playedBy_5 : decode cX6_playedBy 5 = .ok (.bipush 12, 2) := by decide +kernel
theorem dX6_playedBy_7 : decode cX6_playedBy 7 = .ok (.if_icmp .gt 12, 3) := by decide +kernel
theorem dX6_playedBy_10 : decode cX6_playedBy 10 = .ok (.aload_n 0, 1) := by decide +kernel
theorem dX6_playedBy_11 : decode cX6_playedBy 11 = .ok (.getfield 36, 3) := by decide +kernel
theorem dX6_playedBy_14 : decode cX6_playedBy 14 = .ok (.iload_n 1, 1) := by decide +kernel
theorem dX6_playedBy_15 : decode cX6_playedBy 15 = .ok (.iaload, 1) := by decide +kernel
theorem dX6_playedBy_16 : decode cX6_playedBy 16 = .ok (.goto 4, 3) := by decide +kernel
theorem dX6_playedBy_19 : decode cX6_playedBy 19 = .ok (.iconst 0, 1) := by decide +kernel
theorem dX6_playedBy_20 : decode cX6_playedBy 20 = .ok (.ireturn, 1) := by decide +kernel
theorem dX6_nightsForAll_0 : decode cX6_nightsForAll 0 = .ok (.iconst 0, 1) := by decide +kernel
theorem dX6_nightsForAll_1 : decode cX6_nightsForAll 1 = .ok (.istore_n 2, 1) := by decide +kernel
theorem dX6_nightsForAll_2 : decode cX6_nightsForAll 2 = .ok (.iload_n 2, 1) := by decide +kernel
theorem dX6_nightsForAll_3 : decode cX6_nightsForAll 3 = .ok (.bipush 10, 2) := by decide +kernel
theorem dX6_nightsForAll_5 : decode cX6_nightsForAll 5 = .ok (.if_icmp .gt 52, 3) := by decide +kernel
theorem dX6_nightsForAll_8 : decode cX6_nightsForAll 8 = .ok (.iconst 0, 1) := by decide +kernel
theorem dX6_nightsForAll_9 : decode cX6_nightsForAll 9 = .ok (.istore_n 3, 1) := by decide +kernel
theorem dX6_nightsForAll_10 : decode cX6_nightsForAll 10 = .ok (.iload_n 3, 1) := by decide +kernel
theorem dX6_nightsForAll_11 : decode cX6_nightsForAll 11 = .ok (.aload_n 0, 1) := by decide +kernel
theorem dX6_nightsForAll_12 : decode cX6_nightsForAll 12 = .ok (.getfield 68, 3) := by decide +kernel
theorem dX6_nightsForAll_15 : decode cX6_nightsForAll 15 = .ok (.if_icmp .ge 36, 3) := by decide +kernel
theorem dX6_nightsForAll_18 : decode cX6_nightsForAll 18 = .ok (.iload_n 3, 1) := by decide +kernel
theorem dX6_nightsForAll_19 : decode cX6_nightsForAll 19 = .ok (.sipush 256, 3) := by decide +kernel
theorem dX6_nightsForAll_22 : decode cX6_nightsForAll 22 = .ok (.if_icmp .ge 29, 3) := by decide +kernel
theorem dX6_nightsForAll_25 : decode cX6_nightsForAll 25 = .ok (.aload_n 0, 1) := by decide +kernel
theorem dX6_nightsForAll_26 : decode cX6_nightsForAll 26 = .ok (.getfield 19, 3) := by decide +kernel
theorem dX6_nightsForAll_29 : decode cX6_nightsForAll 29 = .ok (.iload_n 2, 1) := by decide +kernel
theorem dX6_nightsForAll_30 : decode cX6_nightsForAll 30 = .ok (.aaload, 1) := by decide +kernel
theorem dX6_nightsForAll_31 : decode cX6_nightsForAll 31 = .ok (.iload_n 3, 1) := by decide +kernel
theorem dX6_nightsForAll_32 : decode cX6_nightsForAll 32 = .ok (.iaload, 1) := by decide +kernel
theorem dX6_nightsForAll_33 : decode cX6_nightsForAll 33 = .ok (.ifCond .eq 12, 3) := by decide +kernel
theorem dX6_nightsForAll_36 : decode cX6_nightsForAll 36 = .ok (.iload_n 3, 1) := by decide +kernel
theorem dX6_nightsForAll_37 : decode cX6_nightsForAll 37 = .ok (.iload_n 1, 1) := by decide +kernel
theorem dX6_nightsForAll_38 : decode cX6_nightsForAll 38 = .ok (.iand, 1) := by decide +kernel
theorem dX6_nightsForAll_39 : decode cX6_nightsForAll 39 = .ok (.iload_n 1, 1) := by decide +kernel
theorem dX6_nightsForAll_40 : decode cX6_nightsForAll 40 = .ok (.if_icmp .ne 5, 3) := by decide +kernel
theorem dX6_nightsForAll_43 : decode cX6_nightsForAll 43 = .ok (.iload_n 2, 1) := by decide +kernel
theorem dX6_nightsForAll_44 : decode cX6_nightsForAll 44 = .ok (.ireturn, 1) := by decide +kernel
theorem dX6_nightsForAll_45 : decode cX6_nightsForAll 45 = .ok (.iinc 3 1, 3) := by decide +kernel
theorem dX6_nightsForAll_48 : decode cX6_nightsForAll 48 = .ok (.goto (-38), 3) := by decide +kernel
theorem dX6_nightsForAll_51 : decode cX6_nightsForAll 51 = .ok (.iinc 2 1, 3) := by decide +kernel
theorem dX6_nightsForAll_54 : decode cX6_nightsForAll 54 = .ok (.goto (-52), 3) := by decide +kernel
theorem dX6_nightsForAll_57 : decode cX6_nightsForAll 57 = .ok (.iconst (-1), 1) := by decide +kernel
theorem dX6_nightsForAll_58 : decode cX6_nightsForAll 58 = .ok (.ireturn, 1) := by decide +kernel
theorem dX6_findPlayable_0 : decode cX6_findPlayable 0 = .ok (.aload_n 0, 1) := by decide +kernel
theorem dX6_findPlayable_1 : decode cX6_findPlayable 1 = .ok (.getfield 68, 3) := by decide +kernel
theorem dX6_findPlayable_4 : decode cX6_findPlayable 4 = .ok (.sipush 256, 3) := by decide +kernel
theorem dX6_findPlayable_7 : decode cX6_findPlayable 7 = .ok (.invokestatic 48, 3) := by decide +kernel
theorem dX6_findPlayable_10 : decode cX6_findPlayable 10 = .ok (.iconst 1, 1) := by decide +kernel
theorem dX6_findPlayable_11 : decode cX6_findPlayable 11 = .ok (.isub, 1) := by decide +kernel
theorem dX6_findPlayable_12 : decode cX6_findPlayable 12 = .ok (.istore_n 2, 1) := by decide +kernel
theorem dX6_findPlayable_13 : decode cX6_findPlayable 13 = .ok (.iload_n 2, 1) := by decide +kernel
theorem dX6_findPlayable_14 : decode cX6_findPlayable 14 = .ok (.ifCond .lt 94, 3) := by decide +kernel
theorem dX6_findPlayable_17 : decode cX6_findPlayable 17 = .ok (.aload_n 0, 1) := by decide +kernel
theorem dX6_findPlayable_18 : decode cX6_findPlayable 18 = .ok (.getfield 29, 3) := by decide +kernel
theorem dX6_findPlayable_21 : decode cX6_findPlayable 21 = .ok (.iload_n 2, 1) := by decide +kernel
theorem dX6_findPlayable_22 : decode cX6_findPlayable 22 = .ok (.iload_n 1, 1) := by decide +kernel
theorem dX6_findPlayable_23 : decode cX6_findPlayable 23 = .ok (.ifCond .lt 24, 3) := by decide +kernel
theorem dX6_findPlayable_26 : decode cX6_findPlayable 26 = .ok (.iload_n 1, 1) := by decide +kernel
theorem dX6_findPlayable_27 : decode cX6_findPlayable 27 = .ok (.bipush 12, 2) := by decide +kernel
theorem dX6_findPlayable_29 : decode cX6_findPlayable 29 = .ok (.if_icmp .gt 18, 3) := by decide +kernel
theorem dX6_findPlayable_32 : decode cX6_findPlayable 32 = .ok (.aload_n 0, 1) := by decide +kernel
theorem dX6_findPlayable_33 : decode cX6_findPlayable 33 = .ok (.getfield 19, 3) := by decide +kernel
theorem dX6_findPlayable_36 : decode cX6_findPlayable 36 = .ok (.iload_n 1, 1) := by decide +kernel
theorem dX6_findPlayable_37 : decode cX6_findPlayable 37 = .ok (.aaload, 1) := by decide +kernel
theorem dX6_findPlayable_38 : decode cX6_findPlayable 38 = .ok (.iload_n 2, 1) := by decide +kernel
theorem dX6_findPlayable_39 : decode cX6_findPlayable 39 = .ok (.iaload, 1) := by decide +kernel
theorem dX6_findPlayable_40 : decode cX6_findPlayable 40 = .ok (.ifCond .eq 7, 3) := by decide +kernel
theorem dX6_findPlayable_43 : decode cX6_findPlayable 43 = .ok (.iconst 1, 1) := by decide +kernel
theorem dX6_findPlayable_44 : decode cX6_findPlayable 44 = .ok (.goto 4, 3) := by decide +kernel
theorem dX6_findPlayable_47 : decode cX6_findPlayable 47 = .ok (.iconst 0, 1) := by decide +kernel
theorem dX6_findPlayable_48 : decode cX6_findPlayable 48 = .ok (.bastore, 1) := by decide +kernel
theorem dX6_findPlayable_49 : decode cX6_findPlayable 49 = .ok (.iconst 0, 1) := by decide +kernel
theorem dX6_findPlayable_50 : decode cX6_findPlayable 50 = .ok (.istore_n 3, 1) := by decide +kernel
theorem dX6_findPlayable_51 : decode cX6_findPlayable 51 = .ok (.iload_n 3, 1) := by decide +kernel
theorem dX6_findPlayable_52 : decode cX6_findPlayable 52 = .ok (.bipush 8, 2) := by decide +kernel
theorem dX6_findPlayable_54 : decode cX6_findPlayable 54 = .ok (.if_icmp .ge 48, 3) := by decide +kernel
theorem dX6_findPlayable_57 : decode cX6_findPlayable 57 = .ok (.iload_n 2, 1) := by decide +kernel
theorem dX6_findPlayable_58 : decode cX6_findPlayable 58 = .ok (.iconst 1, 1) := by decide +kernel
theorem dX6_findPlayable_59 : decode cX6_findPlayable 59 = .ok (.iload_n 3, 1) := by decide +kernel
theorem dX6_findPlayable_60 : decode cX6_findPlayable 60 = .ok (.ishl, 1) := by decide +kernel
theorem dX6_findPlayable_61 : decode cX6_findPlayable 61 = .ok (.ior, 1) := by decide +kernel
theorem dX6_findPlayable_62 : decode cX6_findPlayable 62 = .ok (.istore 4, 2) := by decide +kernel
theorem dX6_findPlayable_64 : decode cX6_findPlayable 64 = .ok (.iload 4, 2) := by decide +kernel
theorem dX6_findPlayable_66 : decode cX6_findPlayable 66 = .ok (.iload_n 2, 1) := by decide +kernel
theorem dX6_findPlayable_67 : decode cX6_findPlayable 67 = .ok (.if_icmp .le 29, 3) := by decide +kernel
theorem dX6_findPlayable_70 : decode cX6_findPlayable 70 = .ok (.iload 4, 2) := by decide +kernel
theorem dX6_findPlayable_72 : decode cX6_findPlayable 72 = .ok (.aload_n 0, 1) := by decide +kernel
theorem dX6_findPlayable_73 : decode cX6_findPlayable 73 = .ok (.getfield 68, 3) := by decide +kernel
theorem dX6_findPlayable_76 : decode cX6_findPlayable 76 = .ok (.if_icmp .ge 20, 3) := by decide +kernel
theorem dX6_findPlayable_79 : decode cX6_findPlayable 79 = .ok (.aload_n 0, 1) := by decide +kernel
theorem dX6_findPlayable_80 : decode cX6_findPlayable 80 = .ok (.getfield 29, 3) := by decide +kernel
theorem dX6_findPlayable_83 : decode cX6_findPlayable 83 = .ok (.iload 4, 2) := by decide +kernel
theorem dX6_findPlayable_85 : decode cX6_findPlayable 85 = .ok (.baload, 1) := by decide +kernel
theorem dX6_findPlayable_86 : decode cX6_findPlayable 86 = .ok (.ifCond .eq 10, 3) := by decide +kernel
theorem dX6_findPlayable_89 : decode cX6_findPlayable 89 = .ok (.aload_n 0, 1) := by decide +kernel
theorem dX6_findPlayable_90 : decode cX6_findPlayable 90 = .ok (.getfield 29, 3) := by decide +kernel
theorem dX6_findPlayable_93 : decode cX6_findPlayable 93 = .ok (.iload_n 2, 1) := by decide +kernel
theorem dX6_findPlayable_94 : decode cX6_findPlayable 94 = .ok (.iconst 1, 1) := by decide +kernel
theorem dX6_findPlayable_95 : decode cX6_findPlayable 95 = .ok (.bastore, 1) := by decide +kernel
theorem dX6_findPlayable_96 : decode cX6_findPlayable 96 = .ok (.iinc 3 1, 3) := by decide +kernel
theorem dX6_findPlayable_99 : decode cX6_findPlayable 99 = .ok (.goto (-48), 3) := by decide +kernel
theorem dX6_findPlayable_102 : decode cX6_findPlayable 102 = .ok (.iinc 2 (-1), 3) := by decide +kernel
theorem dX6_findPlayable_105 : decode cX6_findPlayable 105 = .ok (.goto (-92), 3) := by decide +kernel
theorem dX6_findPlayable_108 : decode cX6_findPlayable 108 = .ok (.return_, 1) := by decide +kernel
theorem dX6_leastUnplayable_0 : decode cX6_leastUnplayable 0 = .ok (.iconst (-1), 1) := by decide +kernel
theorem dX6_leastUnplayable_1 : decode cX6_leastUnplayable 1 = .ok (.istore_n 2, 1) := by decide +kernel
theorem dX6_leastUnplayable_2 : decode cX6_leastUnplayable 2 = .ok (.iconst 0, 1) := by decide +kernel
theorem dX6_leastUnplayable_3 : decode cX6_leastUnplayable 3 = .ok (.istore_n 3, 1) := by decide +kernel
theorem dX6_leastUnplayable_4 : decode cX6_leastUnplayable 4 = .ok (.iload_n 3, 1) := by decide +kernel
theorem dX6_leastUnplayable_5 : decode cX6_leastUnplayable 5 = .ok (.aload_n 0, 1) := by decide +kernel
theorem dX6_leastUnplayable_6 : decode cX6_leastUnplayable 6 = .ok (.getfield 68, 3) := by decide +kernel
theorem dX6_leastUnplayable_9 : decode cX6_leastUnplayable 9 = .ok (.if_icmp .ge 60, 3) := by decide +kernel
theorem dX6_leastUnplayable_12 : decode cX6_leastUnplayable 12 = .ok (.iload_n 3, 1) := by decide +kernel
theorem dX6_leastUnplayable_13 : decode cX6_leastUnplayable 13 = .ok (.sipush 256, 3) := by decide +kernel
theorem dX6_leastUnplayable_16 : decode cX6_leastUnplayable 16 = .ok (.if_icmp .ge 53, 3) := by decide +kernel
theorem dX6_leastUnplayable_19 : decode cX6_leastUnplayable 19 = .ok (.iload_n 2, 1) := by decide +kernel
theorem dX6_leastUnplayable_20 : decode cX6_leastUnplayable 20 = .ok (.ifCond .lt 14, 3) := by decide +kernel
theorem dX6_leastUnplayable_23 : decode cX6_leastUnplayable 23 = .ok (.iload_n 3, 1) := by decide +kernel
theorem dX6_leastUnplayable_24 : decode cX6_leastUnplayable 24 = .ok (.invokestatic 84, 3) := by decide +kernel
theorem dX6_leastUnplayable_27 : decode cX6_leastUnplayable 27 = .ok (.iload_n 2, 1) := by decide +kernel
theorem dX6_leastUnplayable_28 : decode cX6_leastUnplayable 28 = .ok (.invokestatic 84, 3) := by decide +kernel
theorem dX6_leastUnplayable_31 : decode cX6_leastUnplayable 31 = .ok (.if_icmp .ge 7, 3) := by decide +kernel
theorem dX6_leastUnplayable_34 : decode cX6_leastUnplayable 34 = .ok (.iconst 1, 1) := by decide +kernel
theorem dX6_leastUnplayable_35 : decode cX6_leastUnplayable 35 = .ok (.goto 4, 3) := by decide +kernel
theorem dX6_leastUnplayable_38 : decode cX6_leastUnplayable 38 = .ok (.iconst 0, 1) := by decide +kernel
theorem dX6_leastUnplayable_39 : decode cX6_leastUnplayable 39 = .ok (.istore 4, 2) := by decide +kernel
theorem dX6_leastUnplayable_41 : decode cX6_leastUnplayable 41 = .ok (.iload_n 3, 1) := by decide +kernel
theorem dX6_leastUnplayable_42 : decode cX6_leastUnplayable 42 = .ok (.iload_n 1, 1) := by decide +kernel
theorem dX6_leastUnplayable_43 : decode cX6_leastUnplayable 43 = .ok (.iand, 1) := by decide +kernel
theorem dX6_leastUnplayable_44 : decode cX6_leastUnplayable 44 = .ok (.ifCond .ne 19, 3) := by decide +kernel
theorem dX6_leastUnplayable_47 : decode cX6_leastUnplayable 47 = .ok (.aload_n 0, 1) := by decide +kernel
theorem dX6_leastUnplayable_48 : decode cX6_leastUnplayable 48 = .ok (.getfield 29, 3) := by decide +kernel
theorem dX6_leastUnplayable_51 : decode cX6_leastUnplayable 51 = .ok (.iload_n 3, 1) := by decide +kernel
theorem dX6_leastUnplayable_52 : decode cX6_leastUnplayable 52 = .ok (.baload, 1) := by decide +kernel
theorem dX6_leastUnplayable_53 : decode cX6_leastUnplayable 53 = .ok (.ifCond .ne 10, 3) := by decide +kernel
theorem dX6_leastUnplayable_56 : decode cX6_leastUnplayable 56 = .ok (.iload 4, 2) := by decide +kernel
theorem dX6_leastUnplayable_58 : decode cX6_leastUnplayable 58 = .ok (.ifCond .eq 5, 3) := by decide +kernel
theorem dX6_leastUnplayable_61 : decode cX6_leastUnplayable 61 = .ok (.iload_n 3, 1) := by decide +kernel
theorem dX6_leastUnplayable_62 : decode cX6_leastUnplayable 62 = .ok (.istore_n 2, 1) := by decide +kernel
theorem dX6_leastUnplayable_63 : decode cX6_leastUnplayable 63 = .ok (.iinc 3 1, 3) := by decide +kernel
theorem dX6_leastUnplayable_66 : decode cX6_leastUnplayable 66 = .ok (.goto (-62), 3) := by decide +kernel
theorem dX6_leastUnplayable_69 : decode cX6_leastUnplayable 69 = .ok (.iload_n 2, 1) := by decide +kernel
theorem dX6_leastUnplayable_70 : decode cX6_leastUnplayable 70 = .ok (.ireturn, 1) := by decide +kernel
theorem dX6_nightsTo_0 : decode cX6_nightsTo 0 = .ok (.iconst 1, 1) := by decide +kernel
theorem dX6_nightsTo_1 : decode cX6_nightsTo 1 = .ok (.iload_n 1, 1) := by decide +kernel
theorem dX6_nightsTo_2 : decode cX6_nightsTo 2 = .ok (.ishl, 1) := by decide +kernel
theorem dX6_nightsTo_3 : decode cX6_nightsTo 3 = .ok (.istore_n 3, 1) := by decide +kernel
theorem dX6_nightsTo_4 : decode cX6_nightsTo 4 = .ok (.iconst 0, 1) := by decide +kernel
theorem dX6_nightsTo_5 : decode cX6_nightsTo 5 = .ok (.istore 4, 2) := by decide +kernel
theorem dX6_nightsTo_7 : decode cX6_nightsTo 7 = .ok (.iconst 0, 1) := by decide +kernel
theorem dX6_nightsTo_8 : decode cX6_nightsTo 8 = .ok (.istore 5, 2) := by decide +kernel
theorem dX6_nightsTo_10 : decode cX6_nightsTo 10 = .ok (.iload 5, 2) := by decide +kernel
theorem dX6_nightsTo_12 : decode cX6_nightsTo 12 = .ok (.bipush 12, 2) := by decide +kernel
theorem dX6_nightsTo_14 : decode cX6_nightsTo 14 = .ok (.if_icmp .ge 28, 3) := by decide +kernel
theorem dX6_nightsTo_17 : decode cX6_nightsTo 17 = .ok (.iload_n 3, 1) := by decide +kernel
theorem dX6_nightsTo_18 : decode cX6_nightsTo 18 = .ok (.iload_n 2, 1) := by decide +kernel
theorem dX6_nightsTo_19 : decode cX6_nightsTo 19 = .ok (.ishr, 1) := by decide +kernel
theorem dX6_nightsTo_20 : decode cX6_nightsTo 20 = .ok (.iconst 1, 1) := by decide +kernel
theorem dX6_nightsTo_21 : decode cX6_nightsTo 21 = .ok (.iand, 1) := by decide +kernel
theorem dX6_nightsTo_22 : decode cX6_nightsTo 22 = .ok (.ifCond .ne 20, 3) := by decide +kernel
theorem dX6_nightsTo_25 : decode cX6_nightsTo 25 = .ok (.aload_n 0, 1) := by decide +kernel
theorem dX6_nightsTo_26 : decode cX6_nightsTo 26 = .ok (.iload 5, 2) := by decide +kernel
theorem dX6_nightsTo_28 : decode cX6_nightsTo 28 = .ok (.iload_n 3, 1) := by decide +kernel
theorem dX6_nightsTo_29 : decode cX6_nightsTo 29 = .ok (.invokevirtual 106, 3) := by decide +kernel
theorem dX6_nightsTo_32 : decode cX6_nightsTo 32 = .ok (.istore_n 3, 1) := by decide +kernel
theorem dX6_nightsTo_33 : decode cX6_nightsTo 33 = .ok (.iinc 4 1, 3) := by decide +kernel
theorem dX6_nightsTo_36 : decode cX6_nightsTo 36 = .ok (.iinc 5 1, 3) := by decide +kernel
theorem dX6_nightsTo_39 : decode cX6_nightsTo 39 = .ok (.goto (-29), 3) := by decide +kernel
theorem dX6_nightsTo_42 : decode cX6_nightsTo 42 = .ok (.iload_n 3, 1) := by decide +kernel
theorem dX6_nightsTo_43 : decode cX6_nightsTo 43 = .ok (.iload_n 2, 1) := by decide +kernel
theorem dX6_nightsTo_44 : decode cX6_nightsTo 44 = .ok (.ishr, 1) := by decide +kernel
theorem dX6_nightsTo_45 : decode cX6_nightsTo 45 = .ok (.iconst 1, 1) := by decide +kernel
theorem dX6_nightsTo_46 : decode cX6_nightsTo 46 = .ok (.iand, 1) := by decide +kernel
theorem dX6_nightsTo_47 : decode cX6_nightsTo 47 = .ok (.ifCond .ne 5, 3) := by decide +kernel
theorem dX6_nightsTo_50 : decode cX6_nightsTo 50 = .ok (.iconst (-1), 1) := by decide +kernel
theorem dX6_nightsTo_51 : decode cX6_nightsTo 51 = .ok (.ireturn, 1) := by decide +kernel
theorem dX6_nightsTo_52 : decode cX6_nightsTo 52 = .ok (.aload_n 0, 1) := by decide +kernel
theorem dX6_nightsTo_53 : decode cX6_nightsTo 53 = .ok (.iload_n 1, 1) := by decide +kernel
theorem dX6_nightsTo_54 : decode cX6_nightsTo 54 = .ok (.iload_n 2, 1) := by decide +kernel
theorem dX6_nightsTo_55 : decode cX6_nightsTo 55 = .ok (.iload 4, 2) := by decide +kernel
theorem dX6_nightsTo_57 : decode cX6_nightsTo 57 = .ok (.invokevirtual 143, 3) := by decide +kernel
theorem dX6_nightsTo_60 : decode cX6_nightsTo 60 = .ok (.iload 4, 2) := by decide +kernel
theorem dX6_nightsTo_62 : decode cX6_nightsTo 62 = .ok (.ireturn, 1) := by decide +kernel
theorem dX6_traceTo_0 : decode cX6_traceTo 0 = .ok (.iload_n 3, 1) := by decide +kernel
theorem dX6_traceTo_1 : decode cX6_traceTo 1 = .ok (.ifCond .lt 9, 3) := by decide +kernel
theorem dX6_traceTo_4 : decode cX6_traceTo 4 = .ok (.iload_n 3, 1) := by decide +kernel
theorem dX6_traceTo_5 : decode cX6_traceTo 5 = .ok (.bipush 12, 2) := by decide +kernel
theorem dX6_traceTo_7 : decode cX6_traceTo 7 = .ok (.if_icmp .le 4, 3) := by decide +kernel
theorem dX6_traceTo_10 : decode cX6_traceTo 10 = .ok (.return_, 1) := by decide +kernel
theorem dX6_traceTo_11 : decode cX6_traceTo 11 = .ok (.aload_n 0, 1) := by decide +kernel
theorem dX6_traceTo_12 : decode cX6_traceTo 12 = .ok (.getfield 22, 3) := by decide +kernel
theorem dX6_traceTo_15 : decode cX6_traceTo 15 = .ok (.iload_n 3, 1) := by decide +kernel
theorem dX6_traceTo_16 : decode cX6_traceTo 16 = .ok (.aaload, 1) := by decide +kernel
theorem dX6_traceTo_17 : decode cX6_traceTo 17 = .ok (.iconst 0, 1) := by decide +kernel
theorem dX6_traceTo_18 : decode cX6_traceTo 18 = .ok (.iconst 1, 1) := by decide +kernel
theorem dX6_traceTo_19 : decode cX6_traceTo 19 = .ok (.iload_n 2, 1) := by decide +kernel
theorem dX6_traceTo_20 : decode cX6_traceTo 20 = .ok (.ishl, 1) := by decide +kernel
theorem dX6_traceTo_21 : decode cX6_traceTo 21 = .ok (.iastore, 1) := by decide +kernel
theorem dX6_traceTo_22 : decode cX6_traceTo 22 = .ok (.iload_n 3, 1) := by decide +kernel
theorem dX6_traceTo_23 : decode cX6_traceTo 23 = .ok (.iconst 1, 1) := by decide +kernel
theorem dX6_traceTo_24 : decode cX6_traceTo 24 = .ok (.isub, 1) := by decide +kernel
theorem dX6_traceTo_25 : decode cX6_traceTo 25 = .ok (.istore 4, 2) := by decide +kernel
theorem dX6_traceTo_27 : decode cX6_traceTo 27 = .ok (.iload 4, 2) := by decide +kernel
theorem dX6_traceTo_29 : decode cX6_traceTo 29 = .ok (.ifCond .lt 35, 3) := by decide +kernel
theorem dX6_traceTo_32 : decode cX6_traceTo 32 = .ok (.aload_n 0, 1) := by decide +kernel
theorem dX6_traceTo_33 : decode cX6_traceTo 33 = .ok (.getfield 22, 3) := by decide +kernel
theorem dX6_traceTo_36 : decode cX6_traceTo 36 = .ok (.iload 4, 2) := by decide +kernel
theorem dX6_traceTo_38 : decode cX6_traceTo 38 = .ok (.aaload, 1) := by decide +kernel
theorem dX6_traceTo_39 : decode cX6_traceTo 39 = .ok (.iconst 0, 1) := by decide +kernel
theorem dX6_traceTo_40 : decode cX6_traceTo 40 = .ok (.aload_n 0, 1) := by decide +kernel
theorem dX6_traceTo_41 : decode cX6_traceTo 41 = .ok (.iload 4, 2) := by decide +kernel
theorem dX6_traceTo_43 : decode cX6_traceTo 43 = .ok (.aload_n 0, 1) := by decide +kernel
theorem dX6_traceTo_44 : decode cX6_traceTo 44 = .ok (.getfield 22, 3) := by decide +kernel
theorem dX6_traceTo_47 : decode cX6_traceTo 47 = .ok (.iload 4, 2) := by decide +kernel
theorem dX6_traceTo_49 : decode cX6_traceTo 49 = .ok (.iconst 1, 1) := by decide +kernel
theorem dX6_traceTo_50 : decode cX6_traceTo 50 = .ok (.iadd, 1) := by decide +kernel
theorem dX6_traceTo_51 : decode cX6_traceTo 51 = .ok (.aaload, 1) := by decide +kernel
theorem dX6_traceTo_52 : decode cX6_traceTo 52 = .ok (.iconst 0, 1) := by decide +kernel
theorem dX6_traceTo_53 : decode cX6_traceTo 53 = .ok (.iaload, 1) := by decide +kernel
theorem dX6_traceTo_54 : decode cX6_traceTo 54 = .ok (.invokevirtual 106, 3) := by decide +kernel
theorem dX6_traceTo_57 : decode cX6_traceTo 57 = .ok (.iastore, 1) := by decide +kernel
theorem dX6_traceTo_58 : decode cX6_traceTo 58 = .ok (.iinc 4 (-1), 3) := by decide +kernel
theorem dX6_traceTo_61 : decode cX6_traceTo 61 = .ok (.goto (-34), 3) := by decide +kernel
theorem dX6_traceTo_64 : decode cX6_traceTo 64 = .ok (.iload_n 1, 1) := by decide +kernel
theorem dX6_traceTo_65 : decode cX6_traceTo 65 = .ok (.istore 4, 2) := by decide +kernel
theorem dX6_traceTo_67 : decode cX6_traceTo 67 = .ok (.iconst 0, 1) := by decide +kernel
theorem dX6_traceTo_68 : decode cX6_traceTo 68 = .ok (.istore 5, 2) := by decide +kernel
theorem dX6_traceTo_70 : decode cX6_traceTo 70 = .ok (.iload 5, 2) := by decide +kernel
theorem dX6_traceTo_72 : decode cX6_traceTo 72 = .ok (.iload_n 3, 1) := by decide +kernel
theorem dX6_traceTo_73 : decode cX6_traceTo 73 = .ok (.if_icmp .ge 57, 3) := by decide +kernel
theorem dX6_traceTo_76 : decode cX6_traceTo 76 = .ok (.iload 5, 2) := by decide +kernel
theorem dX6_traceTo_78 : decode cX6_traceTo 78 = .ok (.bipush 12, 2) := by decide +kernel
theorem dX6_traceTo_80 : decode cX6_traceTo 80 = .ok (.if_icmp .ge 50, 3) := by decide +kernel
theorem dX6_traceTo_83 : decode cX6_traceTo 83 = .ok (.aload_n 0, 1) := by decide +kernel
theorem dX6_traceTo_84 : decode cX6_traceTo 84 = .ok (.iload 5, 2) := by decide +kernel
theorem dX6_traceTo_86 : decode cX6_traceTo 86 = .ok (.iconst 1, 1) := by decide +kernel
theorem dX6_traceTo_87 : decode cX6_traceTo 87 = .ok (.iload 4, 2) := by decide +kernel
theorem dX6_traceTo_89 : decode cX6_traceTo 89 = .ok (.ishl, 1) := by decide +kernel
theorem dX6_traceTo_90 : decode cX6_traceTo 90 = .ok (.invokevirtual 106, 3) := by decide +kernel
theorem dX6_traceTo_93 : decode cX6_traceTo 93 = .ok (.aload_n 0, 1) := by decide +kernel
theorem dX6_traceTo_94 : decode cX6_traceTo 94 = .ok (.getfield 22, 3) := by decide +kernel
theorem dX6_traceTo_97 : decode cX6_traceTo 97 = .ok (.iload 5, 2) := by decide +kernel
theorem dX6_traceTo_99 : decode cX6_traceTo 99 = .ok (.iconst 1, 1) := by decide +kernel
theorem dX6_traceTo_100 : decode cX6_traceTo 100 = .ok (.iadd, 1) := by decide +kernel
theorem dX6_traceTo_101 : decode cX6_traceTo 101 = .ok (.aaload, 1) := by decide +kernel
theorem dX6_traceTo_102 : decode cX6_traceTo 102 = .ok (.iconst 0, 1) := by decide +kernel
theorem dX6_traceTo_103 : decode cX6_traceTo 103 = .ok (.iaload, 1) := by decide +kernel
theorem dX6_traceTo_104 : decode cX6_traceTo 104 = .ok (.iand, 1) := by decide +kernel
theorem dX6_traceTo_105 : decode cX6_traceTo 105 = .ok (.istore 6, 2) := by decide +kernel
theorem dX6_traceTo_107 : decode cX6_traceTo 107 = .ok (.aload_n 0, 1) := by decide +kernel
theorem dX6_traceTo_108 : decode cX6_traceTo 108 = .ok (.iload 6, 2) := by decide +kernel
theorem dX6_traceTo_110 : decode cX6_traceTo 110 = .ok (.invokevirtual 146, 3) := by decide +kernel
theorem dX6_traceTo_113 : decode cX6_traceTo 113 = .ok (.istore 4, 2) := by decide +kernel
theorem dX6_traceTo_115 : decode cX6_traceTo 115 = .ok (.aload_n 0, 1) := by decide +kernel
theorem dX6_traceTo_116 : decode cX6_traceTo 116 = .ok (.getfield 33, 3) := by decide +kernel
theorem dX6_traceTo_119 : decode cX6_traceTo 119 = .ok (.iload 5, 2) := by decide +kernel
theorem dX6_traceTo_121 : decode cX6_traceTo 121 = .ok (.iload 4, 2) := by decide +kernel
theorem dX6_traceTo_123 : decode cX6_traceTo 123 = .ok (.iastore, 1) := by decide +kernel
theorem dX6_traceTo_124 : decode cX6_traceTo 124 = .ok (.iinc 5 1, 3) := by decide +kernel
theorem dX6_traceTo_127 : decode cX6_traceTo 127 = .ok (.goto (-57), 3) := by decide +kernel
theorem dX6_traceTo_130 : decode cX6_traceTo 130 = .ok (.return_, 1) := by decide +kernel
theorem dX6_leastOf_0 : decode cX6_leastOf 0 = .ok (.iconst 0, 1) := by decide +kernel
theorem dX6_leastOf_1 : decode cX6_leastOf 1 = .ok (.istore_n 2, 1) := by decide +kernel
theorem dX6_leastOf_2 : decode cX6_leastOf 2 = .ok (.iload_n 2, 1) := by decide +kernel
theorem dX6_leastOf_3 : decode cX6_leastOf 3 = .ok (.bipush 9, 2) := by decide +kernel
theorem dX6_leastOf_5 : decode cX6_leastOf 5 = .ok (.if_icmp .ge 19, 3) := by decide +kernel
theorem dX6_leastOf_8 : decode cX6_leastOf 8 = .ok (.iload_n 1, 1) := by decide +kernel
theorem dX6_leastOf_9 : decode cX6_leastOf 9 = .ok (.iload_n 2, 1) := by decide +kernel
theorem dX6_leastOf_10 : decode cX6_leastOf 10 = .ok (.ishr, 1) := by decide +kernel
theorem dX6_leastOf_11 : decode cX6_leastOf 11 = .ok (.iconst 1, 1) := by decide +kernel
theorem dX6_leastOf_12 : decode cX6_leastOf 12 = .ok (.iand, 1) := by decide +kernel
theorem dX6_leastOf_13 : decode cX6_leastOf 13 = .ok (.ifCond .eq 5, 3) := by decide +kernel
theorem dX6_leastOf_16 : decode cX6_leastOf 16 = .ok (.iload_n 2, 1) := by decide +kernel
theorem dX6_leastOf_17 : decode cX6_leastOf 17 = .ok (.ireturn, 1) := by decide +kernel
theorem dX6_leastOf_18 : decode cX6_leastOf 18 = .ok (.iinc 2 1, 3) := by decide +kernel
theorem dX6_leastOf_21 : decode cX6_leastOf 21 = .ok (.goto (-19), 3) := by decide +kernel
theorem dX6_leastOf_24 : decode cX6_leastOf 24 = .ok (.iconst 0, 1) := by decide +kernel
theorem dX6_leastOf_25 : decode cX6_leastOf 25 = .ok (.ireturn, 1) := by decide +kernel
theorem dX7_init_0 : decode cX7_init 0 = .ok (.aload_n 0, 1) := by decide +kernel
theorem dX7_init_1 : decode cX7_init 1 = .ok (.invokespecial 3, 3) := by decide +kernel
theorem dX7_init_4 : decode cX7_init 4 = .ok (.aload_n 0, 1) := by decide +kernel
theorem dX7_init_5 : decode cX7_init 5 = .ok (.bipush 80, 2) := by decide +kernel
theorem dX7_init_7 : decode cX7_init 7 = .ok (.newarray .char, 2) := by decide +kernel
theorem dX7_init_9 : decode cX7_init 9 = .ok (.putfield 11, 3) := by decide +kernel
theorem dX7_init_12 : decode cX7_init 12 = .ok (.return_, 1) := by decide +kernel
theorem dX7_addFour_0 : decode cX7_addFour 0 = .ok (.aload_n 0, 1) := by decide +kernel
theorem dX7_addFour_1 : decode cX7_addFour 1 = .ok (.getfield 15, 3) := by decide +kernel
theorem dX7_addFour_4 : decode cX7_addFour 4 = .ok (.ifCond .lt 14, 3) := by decide +kernel
theorem dX7_addFour_7 : decode cX7_addFour 7 = .ok (.aload_n 0, 1) := by decide +kernel
theorem dX7_addFour_8 : decode cX7_addFour 8 = .ok (.getfield 15, 3) := by decide +kernel
theorem dX7_addFour_11 : decode cX7_addFour 11 = .ok (.iconst 4, 1) := by decide +kernel
theorem dX7_addFour_12 : decode cX7_addFour 12 = .ok (.iadd, 1) := by decide +kernel
theorem dX7_addFour_13 : decode cX7_addFour 13 = .ok (.bipush 80, 2) := by decide +kernel
theorem dX7_addFour_15 : decode cX7_addFour 15 = .ok (.if_icmp .le 5, 3) := by decide +kernel
theorem dX7_addFour_18 : decode cX7_addFour 18 = .ok (.iconst (-1), 1) := by decide +kernel
theorem dX7_addFour_19 : decode cX7_addFour 19 = .ok (.ireturn, 1) := by decide +kernel
theorem dX7_addFour_20 : decode cX7_addFour 20 = .ok (.iconst 0, 1) := by decide +kernel
theorem dX7_addFour_21 : decode cX7_addFour 21 = .ok (.istore_n 2, 1) := by decide +kernel
theorem dX7_addFour_22 : decode cX7_addFour 22 = .ok (.iload_n 2, 1) := by decide +kernel
theorem dX7_addFour_23 : decode cX7_addFour 23 = .ok (.iconst 4, 1) := by decide +kernel
theorem dX7_addFour_24 : decode cX7_addFour 24 = .ok (.if_icmp .ge 34, 3) := by decide +kernel
theorem dX7_addFour_27 : decode cX7_addFour 27 = .ok (.aload_n 0, 1) := by decide +kernel
theorem dX7_addFour_28 : decode cX7_addFour 28 = .ok (.getfield 11, 3) := by decide +kernel
theorem dX7_addFour_31 : decode cX7_addFour 31 = .ok (.aload_n 0, 1) := by decide +kernel
theorem dX7_addFour_32 : decode cX7_addFour 32 = .ok (.getfield 15, 3) := by decide +kernel
theorem dX7_addFour_35 : decode cX7_addFour 35 = .ok (.iload_n 2, 1) := by decide +kernel
theorem dX7_addFour_36 : decode cX7_addFour 36 = .ok (.iadd, 1) := by decide +kernel
theorem dX7_addFour_37 : decode cX7_addFour 37 = .ok (.iload_n 1, 1) := by decide +kernel
theorem dX7_addFour_38 : decode cX7_addFour 38 = .ok (.bipush 24, 2) := by decide +kernel
theorem dX7_addFour_40 : decode cX7_addFour 40 = .ok (.bipush 8, 2) := by decide +kernel
theorem dX7_addFour_42 : decode cX7_addFour 42 = .ok (.iload_n 2, 1) := by decide +kernel
theorem dX7_addFour_43 : decode cX7_addFour 43 = .ok (.imul, 1) := by decide +kernel
theorem dX7_addFour_44 : decode cX7_addFour 44 = .ok (.isub, 1) := by decide +kernel
theorem dX7_addFour_45 : decode cX7_addFour 45 = .ok (.iushr, 1) := by decide +kernel
theorem dX7_addFour_46 : decode cX7_addFour 46 = .ok (.sipush 255, 3) := by decide +kernel
theorem dX7_addFour_49 : decode cX7_addFour 49 = .ok (.iand, 1) := by decide +kernel
theorem dX7_addFour_50 : decode cX7_addFour 50 = .ok (.i2c, 1) := by decide +kernel
theorem dX7_addFour_51 : decode cX7_addFour 51 = .ok (.castore, 1) := by decide +kernel
theorem dX7_addFour_52 : decode cX7_addFour 52 = .ok (.iinc 2 1, 3) := by decide +kernel
theorem dX7_addFour_55 : decode cX7_addFour 55 = .ok (.goto (-33), 3) := by decide +kernel
theorem dX7_addFour_58 : decode cX7_addFour 58 = .ok (.aload_n 0, 1) := by decide +kernel
theorem dX7_addFour_59 : decode cX7_addFour 59 = .ok (.dup, 1) := by decide +kernel
theorem dX7_addFour_60 : decode cX7_addFour 60 = .ok (.getfield 15, 3) := by decide +kernel
theorem dX7_addFour_63 : decode cX7_addFour 63 = .ok (.iconst 4, 1) := by decide +kernel
theorem dX7_addFour_64 : decode cX7_addFour 64 = .ok (.iadd, 1) := by decide +kernel
theorem dX7_addFour_65 : decode cX7_addFour 65 = .ok (.putfield 15, 3) := by decide +kernel
theorem dX7_addFour_68 : decode cX7_addFour 68 = .ok (.aload_n 0, 1) := by decide +kernel
theorem dX7_addFour_69 : decode cX7_addFour 69 = .ok (.getfield 15, 3) := by decide +kernel
theorem dX7_addFour_72 : decode cX7_addFour 72 = .ok (.ireturn, 1) := by decide +kernel
theorem dX7_cutTo_0 : decode cX7_cutTo 0 = .ok (.iload_n 1, 1) := by decide +kernel
theorem dX7_cutTo_1 : decode cX7_cutTo 1 = .ok (.ifCond .lt 11, 3) := by decide +kernel
theorem dX7_cutTo_4 : decode cX7_cutTo 4 = .ok (.iload_n 1, 1) := by decide +kernel
theorem dX7_cutTo_5 : decode cX7_cutTo 5 = .ok (.aload_n 0, 1) := by decide +kernel
theorem dX7_cutTo_6 : decode cX7_cutTo 6 = .ok (.getfield 15, 3) := by decide +kernel
theorem dX7_cutTo_9 : decode cX7_cutTo 9 = .ok (.if_icmp .le 5, 3) := by decide +kernel
theorem dX7_cutTo_12 : decode cX7_cutTo 12 = .ok (.iconst 0, 1) := by decide +kernel
theorem dX7_cutTo_13 : decode cX7_cutTo 13 = .ok (.ireturn, 1) := by decide +kernel
theorem dX7_cutTo_14 : decode cX7_cutTo 14 = .ok (.aload_n 0, 1) := by decide +kernel
theorem dX7_cutTo_15 : decode cX7_cutTo 15 = .ok (.iload_n 1, 1) := by decide +kernel
theorem dX7_cutTo_16 : decode cX7_cutTo 16 = .ok (.putfield 15, 3) := by decide +kernel
theorem dX7_cutTo_19 : decode cX7_cutTo 19 = .ok (.iconst 1, 1) := by decide +kernel
theorem dX7_cutTo_20 : decode cX7_cutTo 20 = .ok (.ireturn, 1) := by decide +kernel
theorem dX7_clear_0 : decode cX7_clear 0 = .ok (.aload_n 0, 1) := by decide +kernel
theorem dX7_clear_1 : decode cX7_clear 1 = .ok (.iconst 0, 1) := by decide +kernel
theorem dX7_clear_2 : decode cX7_clear 2 = .ok (.putfield 15, 3) := by decide +kernel
theorem dX7_clear_5 : decode cX7_clear 5 = .ok (.return_, 1) := by decide +kernel
theorem dX7_begin_0 : decode cX7_begin 0 = .ok (.aload_n 0, 1) := by decide +kernel
theorem dX7_begin_1 : decode cX7_begin 1 = .ok (.iconst 0, 1) := by decide +kernel
theorem dX7_begin_2 : decode cX7_begin 2 = .ok (.putfield 19, 3) := by decide +kernel
theorem dX7_begin_5 : decode cX7_begin 5 = .ok (.aload_n 0, 1) := by decide +kernel
theorem dX7_begin_6 : decode cX7_begin 6 = .ok (.aload_n 0, 1) := by decide +kernel
theorem dX7_begin_7 : decode cX7_begin 7 = .ok (.getfield 15, 3) := by decide +kernel
theorem dX7_begin_10 : decode cX7_begin 10 = .ok (.iload_n 1, 1) := by decide +kernel
theorem dX7_begin_11 : decode cX7_begin 11 = .ok (.invokestatic 22, 3) := by decide +kernel
theorem dX7_begin_14 : decode cX7_begin 14 = .ok (.putfield 28, 3) := by decide +kernel
theorem dX7_begin_17 : decode cX7_begin 17 = .ok (.return_, 1) := by decide +kernel
theorem dX7_look_0 : decode cX7_look 0 = .ok (.aload_n 0, 1) := by decide +kernel
theorem dX7_look_1 : decode cX7_look 1 = .ok (.getfield 19, 3) := by decide +kernel
theorem dX7_look_4 : decode cX7_look 4 = .ok (.ifCond .lt 35, 3) := by decide +kernel
theorem dX7_look_7 : decode cX7_look 7 = .ok (.aload_n 0, 1) := by decide +kernel
theorem dX7_look_8 : decode cX7_look 8 = .ok (.getfield 19, 3) := by decide +kernel
theorem dX7_look_11 : decode cX7_look 11 = .ok (.aload_n 0, 1) := by decide +kernel
theorem dX7_look_12 : decode cX7_look 12 = .ok (.getfield 28, 3) := by decide +kernel
theorem dX7_look_15 : decode cX7_look 15 = .ok (.if_icmp .ge 24, 3) := by decide +kernel
theorem dX7_look_18 : decode cX7_look 18 = .ok (.aload_n 0, 1) := by decide +kernel
theorem dX7_look_19 : decode cX7_look 19 = .ok (.getfield 19, 3) := by decide +kernel
theorem dX7_look_22 : decode cX7_look 22 = .ok (.bipush 80, 2) := by decide +kernel
theorem dX7_look_24 : decode cX7_look 24 = .ok (.if_icmp .ge 15, 3) := by decide +kernel
theorem dX7_look_27 : decode cX7_look 27 = .ok (.aload_n 0, 1) := by decide +kernel
theorem dX7_look_28 : decode cX7_look 28 = .ok (.getfield 11, 3) := by decide +kernel
theorem dX7_look_31 : decode cX7_look 31 = .ok (.aload_n 0, 1) := by decide +kernel
theorem dX7_look_32 : decode cX7_look 32 = .ok (.getfield 19, 3) := by decide +kernel
theorem dX7_look_35 : decode cX7_look 35 = .ok (.caload, 1) := by decide +kernel
theorem dX7_look_36 : decode cX7_look 36 = .ok (.goto 4, 3) := by decide +kernel
theorem dX7_look_39 : decode cX7_look 39 = .ok (.iconst (-1), 1) := by decide +kernel
theorem dX7_look_40 : decode cX7_look 40 = .ok (.ireturn, 1) := by decide +kernel
theorem dX7_take_0 : decode cX7_take 0 = .ok (.aload_n 0, 1) := by decide +kernel
theorem dX7_take_1 : decode cX7_take 1 = .ok (.invokevirtual 31, 3) := by decide +kernel
theorem dX7_take_4 : decode cX7_take 4 = .ok (.iload_n 1, 1) := by decide +kernel
theorem dX7_take_5 : decode cX7_take 5 = .ok (.if_icmp .eq 5, 3) := by decide +kernel
theorem dX7_take_8 : decode cX7_take 8 = .ok (.iconst 0, 1) := by decide +kernel
theorem dX7_take_9 : decode cX7_take 9 = .ok (.ireturn, 1) := by decide +kernel
theorem dX7_take_10 : decode cX7_take 10 = .ok (.aload_n 0, 1) := by decide +kernel
theorem dX7_take_11 : decode cX7_take 11 = .ok (.dup, 1) := by decide +kernel
theorem dX7_take_12 : decode cX7_take 12 = .ok (.getfield 19, 3) := by decide +kernel
theorem dX7_take_15 : decode cX7_take 15 = .ok (.iconst 1, 1) := by decide +kernel
theorem dX7_take_16 : decode cX7_take 16 = .ok (.iadd, 1) := by decide +kernel
theorem dX7_take_17 : decode cX7_take 17 = .ok (.putfield 19, 3) := by decide +kernel
theorem dX7_take_20 : decode cX7_take 20 = .ok (.iconst 1, 1) := by decide +kernel
theorem dX7_take_21 : decode cX7_take 21 = .ok (.ireturn, 1) := by decide +kernel
theorem dX7_isAtDigit_0 : decode cX7_isAtDigit 0 = .ok (.aload_n 0, 1) := by decide +kernel
theorem dX7_isAtDigit_1 : decode cX7_isAtDigit 1 = .ok (.invokevirtual 31, 3) := by decide +kernel
theorem dX7_isAtDigit_4 : decode cX7_isAtDigit 4 = .ok (.istore_n 1, 1) := by decide +kernel
theorem dX7_isAtDigit_5 : decode cX7_isAtDigit 5 = .ok (.iload_n 1, 1) := by decide +kernel
theorem dX7_isAtDigit_6 : decode cX7_isAtDigit 6 = .ok (.bipush 48, 2) := by decide +kernel
theorem dX7_isAtDigit_8 : decode cX7_isAtDigit 8 = .ok (.if_icmp .lt 13, 3) := by decide +kernel
theorem dX7_isAtDigit_11 : decode cX7_isAtDigit 11 = .ok (.iload_n 1, 1) := by decide +kernel
theorem dX7_isAtDigit_12 : decode cX7_isAtDigit 12 = .ok (.bipush 57, 2) := by decide +kernel
theorem dX7_isAtDigit_14 : decode cX7_isAtDigit 14 = .ok (.if_icmp .gt 7, 3) := by decide +kernel
theorem dX7_isAtDigit_17 : decode cX7_isAtDigit 17 = .ok (.iconst 1, 1) := by decide +kernel
theorem dX7_isAtDigit_18 : decode cX7_isAtDigit 18 = .ok (.goto 4, 3) := by decide +kernel
theorem dX7_isAtDigit_21 : decode cX7_isAtDigit 21 = .ok (.iconst 0, 1) := by decide +kernel
theorem dX7_isAtDigit_22 : decode cX7_isAtDigit 22 = .ok (.ireturn, 1) := by decide +kernel
theorem dX7_takeNumber_0 : decode cX7_takeNumber 0 = .ok (.aload_n 0, 1) := by decide +kernel
theorem dX7_takeNumber_1 : decode cX7_takeNumber 1 = .ok (.invokevirtual 35, 3) := by decide +kernel
theorem dX7_takeNumber_4 : decode cX7_takeNumber 4 = .ok (.ifCond .ne 5, 3) := by decide +kernel
theorem dX7_takeNumber_7 : decode cX7_takeNumber 7 = .ok (.iconst (-1), 1) := by decide +kernel
theorem dX7_takeNumber_8 : decode cX7_takeNumber 8 = .ok (.ireturn, 1) := by decide +kernel
theorem dX7_takeNumber_9 : decode cX7_takeNumber 9 = .ok (.iconst 0, 1) := by decide +kernel
theorem dX7_takeNumber_10 : decode cX7_takeNumber 10 = .ok (.istore_n 2, 1) := by decide +kernel
theorem dX7_takeNumber_11 : decode cX7_takeNumber 11 = .ok (.iconst 0, 1) := by decide +kernel
theorem dX7_takeNumber_12 : decode cX7_takeNumber 12 = .ok (.istore_n 3, 1) := by decide +kernel
theorem dX7_takeNumber_13 : decode cX7_takeNumber 13 = .ok (.iload_n 3, 1) := by decide +kernel
theorem dX7_takeNumber_14 : decode cX7_takeNumber 14 = .ok (.iload_n 1, 1) := by decide +kernel
theorem dX7_takeNumber_15 : decode cX7_takeNumber 15 = .ok (.if_icmp .ge 39, 3) := by decide +kernel
theorem dX7_takeNumber_18 : decode cX7_takeNumber 18 = .ok (.aload_n 0, 1) := by decide +kernel
theorem dX7_takeNumber_19 : decode cX7_takeNumber 19 = .ok (.invokevirtual 35, 3) := by decide +kernel
theorem dX7_takeNumber_22 : decode cX7_takeNumber 22 = .ok (.ifCond .eq 32, 3) := by decide +kernel
theorem dX7_takeNumber_25 : decode cX7_takeNumber 25 = .ok (.iload_n 2, 1) := by decide +kernel
theorem dX7_takeNumber_26 : decode cX7_takeNumber 26 = .ok (.bipush 10, 2) := by decide +kernel
theorem dX7_takeNumber_28 : decode cX7_takeNumber 28 = .ok (.imul, 1) := by decide +kernel
theorem dX7_takeNumber_29 : decode cX7_takeNumber 29 = .ok (.aload_n 0, 1) := by decide +kernel
theorem dX7_takeNumber_30 : decode cX7_takeNumber 30 = .ok (.invokevirtual 31, 3) := by decide +kernel
theorem dX7_takeNumber_33 : decode cX7_takeNumber 33 = .ok (.iadd, 1) := by decide +kernel
theorem dX7_takeNumber_34 : decode cX7_takeNumber 34 = .ok (.bipush 48, 2) := by decide +kernel
theorem dX7_takeNumber_36 : decode cX7_takeNumber 36 = .ok (.isub, 1) := by decide +kernel
theorem dX7_takeNumber_37 : decode cX7_takeNumber 37 = .ok (.istore_n 2, 1) := by decide +kernel
theorem dX7_takeNumber_38 : decode cX7_takeNumber 38 = .ok (.aload_n 0, 1) := by decide +kernel
theorem dX7_takeNumber_39 : decode cX7_takeNumber 39 = .ok (.dup, 1) := by decide +kernel
theorem dX7_takeNumber_40 : decode cX7_takeNumber 40 = .ok (.getfield 19, 3) := by decide +kernel
theorem dX7_takeNumber_43 : decode cX7_takeNumber 43 = .ok (.iconst 1, 1) := by decide +kernel
theorem dX7_takeNumber_44 : decode cX7_takeNumber 44 = .ok (.iadd, 1) := by decide +kernel
theorem dX7_takeNumber_45 : decode cX7_takeNumber 45 = .ok (.putfield 19, 3) := by decide +kernel
theorem dX7_takeNumber_48 : decode cX7_takeNumber 48 = .ok (.iinc 3 1, 3) := by decide +kernel
theorem dX7_takeNumber_51 : decode cX7_takeNumber 51 = .ok (.goto (-38), 3) := by decide +kernel
theorem dX7_takeNumber_54 : decode cX7_takeNumber 54 = .ok (.iload_n 2, 1) := by decide +kernel
theorem dX7_takeNumber_55 : decode cX7_takeNumber 55 = .ok (.ireturn, 1) := by decide +kernel
theorem dX7_takeLetter_0 : decode cX7_takeLetter 0 = .ok (.aload_n 0, 1) := by decide +kernel
theorem dX7_takeLetter_1 : decode cX7_takeLetter 1 = .ok (.invokevirtual 31, 3) := by decide +kernel
theorem dX7_takeLetter_4 : decode cX7_takeLetter 4 = .ok (.bipush 97, 2) := by decide +kernel
theorem dX7_takeLetter_6 : decode cX7_takeLetter 6 = .ok (.isub, 1) := by decide +kernel
theorem dX7_takeLetter_7 : decode cX7_takeLetter 7 = .ok (.istore_n 3, 1) := by decide +kernel
theorem dX7_takeLetter_8 : decode cX7_takeLetter 8 = .ok (.iload_n 3, 1) := by decide +kernel
theorem dX7_takeLetter_9 : decode cX7_takeLetter 9 = .ok (.ifCond .lt 13, 3) := by decide +kernel
theorem dX7_takeLetter_12 : decode cX7_takeLetter 12 = .ok (.iload_n 3, 1) := by decide +kernel
theorem dX7_takeLetter_13 : decode cX7_takeLetter 13 = .ok (.iload_n 1, 1) := by decide +kernel
theorem dX7_takeLetter_14 : decode cX7_takeLetter 14 = .ok (.if_icmp .ge 8, 3) := by decide +kernel
theorem dX7_takeLetter_17 : decode cX7_takeLetter 17 = .ok (.iload_n 3, 1) := by decide +kernel
theorem dX7_takeLetter_18 : decode cX7_takeLetter 18 = .ok (.iload_n 2, 1) := by decide +kernel
theorem dX7_takeLetter_19 : decode cX7_takeLetter 19 = .ok (.if_icmp .ne 5, 3) := by decide +kernel
theorem dX7_takeLetter_22 : decode cX7_takeLetter 22 = .ok (.iconst (-1), 1) := by decide +kernel
theorem dX7_takeLetter_23 : decode cX7_takeLetter 23 = .ok (.ireturn, 1) := by decide +kernel
theorem dX7_takeLetter_24 : decode cX7_takeLetter 24 = .ok (.aload_n 0, 1) := by decide +kernel
theorem dX7_takeLetter_25 : decode cX7_takeLetter 25 = .ok (.dup, 1) := by decide +kernel
theorem dX7_takeLetter_26 : decode cX7_takeLetter 26 = .ok (.getfield 19, 3) := by decide +kernel
theorem dX7_takeLetter_29 : decode cX7_takeLetter 29 = .ok (.iconst 1, 1) := by decide +kernel
theorem dX7_takeLetter_30 : decode cX7_takeLetter 30 = .ok (.iadd, 1) := by decide +kernel
theorem dX7_takeLetter_31 : decode cX7_takeLetter 31 = .ok (.putfield 19, 3) := by decide +kernel
theorem dX7_takeLetter_34 : decode cX7_takeLetter 34 = .ok (.iload_n 3, 1) := by decide +kernel
theorem dX7_takeLetter_35 : decode cX7_takeLetter 35 = .ok (.ireturn, 1) := by decide +kernel
theorem dX7_giveBack_0 : decode cX7_giveBack 0 = .ok (.aload_n 0, 1) := by decide +kernel
theorem dX7_giveBack_1 : decode cX7_giveBack 1 = .ok (.getfield 19, 3) := by decide +kernel
theorem dX7_giveBack_4 : decode cX7_giveBack 4 = .ok (.ifCond .le 13, 3) := by decide +kernel
theorem dX7_giveBack_7 : decode cX7_giveBack 7 = .ok (.aload_n 0, 1) := by decide +kernel
theorem dX7_giveBack_8 : decode cX7_giveBack 8 = .ok (.dup, 1) := by decide +kernel
theorem dX7_giveBack_9 : decode cX7_giveBack 9 = .ok (.getfield 19, 3) := by decide +kernel
theorem dX7_giveBack_12 : decode cX7_giveBack 12 = .ok (.iconst 1, 1) := by decide +kernel
theorem dX7_giveBack_13 : decode cX7_giveBack 13 = .ok (.isub, 1) := by decide +kernel
theorem dX7_giveBack_14 : decode cX7_giveBack 14 = .ok (.putfield 19, 3) := by decide +kernel
theorem dX7_giveBack_17 : decode cX7_giveBack 17 = .ok (.return_, 1) := by decide +kernel
theorem dX7_isWhole_0 : decode cX7_isWhole 0 = .ok (.aload_n 0, 1) := by decide +kernel
theorem dX7_isWhole_1 : decode cX7_isWhole 1 = .ok (.getfield 19, 3) := by decide +kernel
theorem dX7_isWhole_4 : decode cX7_isWhole 4 = .ok (.aload_n 0, 1) := by decide +kernel
theorem dX7_isWhole_5 : decode cX7_isWhole 5 = .ok (.getfield 15, 3) := by decide +kernel
theorem dX7_isWhole_8 : decode cX7_isWhole 8 = .ok (.if_icmp .ne 7, 3) := by decide +kernel
theorem dX7_isWhole_11 : decode cX7_isWhole 11 = .ok (.iconst 1, 1) := by decide +kernel
theorem dX7_isWhole_12 : decode cX7_isWhole 12 = .ok (.goto 4, 3) := by decide +kernel
theorem dX7_isWhole_15 : decode cX7_isWhole 15 = .ok (.iconst 0, 1) := by decide +kernel
theorem dX7_isWhole_16 : decode cX7_isWhole 16 = .ok (.ireturn, 1) := by decide +kernel
theorem dX7_refusal_0 : decode cX7_refusal 0 = .ok (.iconst (-1), 1) := by decide +kernel
theorem dX7_refusal_1 : decode cX7_refusal 1 = .ok (.aload_n 0, 1) := by decide +kernel
theorem dX7_refusal_2 : decode cX7_refusal 2 = .ok (.getfield 19, 3) := by decide +kernel
theorem dX7_refusal_5 : decode cX7_refusal 5 = .ok (.isub, 1) := by decide +kernel
theorem dX7_refusal_6 : decode cX7_refusal 6 = .ok (.ireturn, 1) := by decide +kernel
theorem dX8_init_0 : decode cX8_init 0 = .ok (.aload_n 0, 1) := by decide +kernel
theorem dX8_init_1 : decode cX8_init 1 = .ok (.invokespecial 3, 3) := by decide +kernel
theorem dX8_init_4 : decode cX8_init 4 = .ok (.aload_n 0, 1) := by decide +kernel
theorem dX8_init_5 : decode cX8_init 5 = .ok (.bipush 20, 2) := by decide +kernel
theorem dX8_init_7 : decode cX8_init 7 = .ok (.putfield 9, 3) := by decide +kernel
theorem dX8_init_10 : decode cX8_init 10 = .ok (.aload_n 0, 1) := by decide +kernel
theorem dX8_init_11 : decode cX8_init 11 = .ok (.iconst 0, 1) := by decide +kernel
theorem dX8_init_12 : decode cX8_init 12 = .ok (.putfield 15, 3) := by decide +kernel
theorem dX8_init_15 : decode cX8_init 15 = .ok (.aload_n 0, 1) := by decide +kernel
theorem dX8_init_16 : decode cX8_init 16 = .ok (.bipush 99, 2) := by decide +kernel
theorem dX8_init_18 : decode cX8_init 18 = .ok (.putfield 18, 3) := by decide +kernel
theorem dX8_init_21 : decode cX8_init 21 = .ok (.aload_n 0, 1) := by decide +kernel
theorem dX8_init_22 : decode cX8_init 22 = .ok (.iconst 0, 1) := by decide +kernel
theorem dX8_init_23 : decode cX8_init 23 = .ok (.putfield 21, 3) := by decide +kernel
theorem dX8_init_26 : decode cX8_init 26 = .ok (.return_, 1) := by decide +kernel
theorem dX8_change_0 : decode cX8_change 0 = .ok (.iload_n 1, 1) := by decide +kernel
theorem dX8_change_1 : decode cX8_change 1 = .ok (.ifCond .ne 7, 3) := by decide +kernel
theorem dX8_change_4 : decode cX8_change 4 = .ok (.iconst 1, 1) := by decide +kernel
theorem dX8_change_5 : decode cX8_change 5 = .ok (.goto 4, 3) := by decide +kernel
theorem dX8_change_8 : decode cX8_change 8 = .ok (.iconst 0, 1) := by decide +kernel
theorem dX8_change_9 : decode cX8_change 9 = .ok (.istore_n 3, 1) := by decide +kernel
theorem dX8_change_10 : decode cX8_change 10 = .ok (.iload_n 1, 1) := by decide +kernel
theorem dX8_change_11 : decode cX8_change 11 = .ok (.iconst 1, 1) := by decide +kernel
theorem dX8_change_12 : decode cX8_change 12 = .ok (.if_icmp .ne 8, 3) := by decide +kernel
theorem dX8_change_15 : decode cX8_change 15 = .ok (.bipush 30, 2) := by decide +kernel
theorem dX8_change_17 : decode cX8_change 17 = .ok (.goto 5, 3) := by decide +kernel
theorem dX8_change_20 : decode cX8_change 20 = .ok (.bipush 99, 2) := by decide +kernel
theorem dX8_change_22 : decode cX8_change 22 = .ok (.istore 4, 2) := by decide +kernel
theorem dX8_change_24 : decode cX8_change 24 = .ok (.iload_n 1, 1) := by decide +kernel
theorem dX8_change_25 : decode cX8_change 25 = .ok (.ifCond .lt 19, 3) := by decide +kernel
theorem dX8_change_28 : decode cX8_change 28 = .ok (.iload_n 1, 1) := by decide +kernel
theorem dX8_change_29 : decode cX8_change 29 = .ok (.iconst 3, 1) := by decide +kernel
theorem dX8_change_30 : decode cX8_change 30 = .ok (.if_icmp .gt 14, 3) := by decide +kernel
theorem dX8_change_33 : decode cX8_change 33 = .ok (.iload_n 2, 1) := by decide +kernel
theorem dX8_change_34 : decode cX8_change 34 = .ok (.iload_n 3, 1) := by decide +kernel
theorem dX8_change_35 : decode cX8_change 35 = .ok (.if_icmp .lt 9, 3) := by decide +kernel
theorem dX8_change_38 : decode cX8_change 38 = .ok (.iload_n 2, 1) := by decide +kernel
theorem dX8_change_39 : decode cX8_change 39 = .ok (.iload 4, 2) := by decide +kernel
theorem dX8_change_41 : decode cX8_change 41 = .ok (.if_icmp .le 5, 3) := by decide +kernel
theorem dX8_change_44 : decode cX8_change 44 = .ok (.iconst (-1), 1) := by decide +kernel
theorem dX8_change_45 : decode cX8_change 45 = .ok (.ireturn, 1) := by decide +kernel
theorem dX8_change_46 : decode cX8_change 46 = .ok (.iload_n 1, 1) := by decide +kernel
theorem dX8_change_47 : decode cX8_change 47 = .ok (.ifCond .ne 17, 3) := by decide +kernel
theorem dX8_change_50 : decode cX8_change 50 = .ok (.aload_n 0, 1) := by decide +kernel
theorem dX8_change_51 : decode cX8_change 51 = .ok (.getfield 9, 3) := by decide +kernel
theorem dX8_change_54 : decode cX8_change 54 = .ok (.istore 5, 2) := by decide +kernel
theorem dX8_change_56 : decode cX8_change 56 = .ok (.aload_n 0, 1) := by decide +kernel
theorem dX8_change_57 : decode cX8_change 57 = .ok (.iload_n 2, 1) := by decide +kernel
theorem dX8_change_58 : decode cX8_change 58 = .ok (.putfield 9, 3) := by decide +kernel
theorem dX8_change_61 : decode cX8_change 61 = .ok (.goto 52, 3) := by decide +kernel
theorem dX8_change_64 : decode cX8_change 64 = .ok (.iload_n 1, 1) := by decide +kernel
theorem dX8_change_65 : decode cX8_change 65 = .ok (.iconst 1, 1) := by decide +kernel
theorem dX8_change_66 : decode cX8_change 66 = .ok (.if_icmp .ne 17, 3) := by decide +kernel
theorem dX8_change_69 : decode cX8_change 69 = .ok (.aload_n 0, 1) := by decide +kernel
theorem dX8_change_70 : decode cX8_change 70 = .ok (.getfield 15, 3) := by decide +kernel
theorem dX8_change_73 : decode cX8_change 73 = .ok (.istore 5, 2) := by decide +kernel
theorem dX8_change_75 : decode cX8_change 75 = .ok (.aload_n 0, 1) := by decide +kernel
theorem dX8_change_76 : decode cX8_change 76 = .ok (.iload_n 2, 1) := by decide +kernel
theorem dX8_change_77 : decode cX8_change 77 = .ok (.putfield 15, 3) := by decide +kernel
theorem dX8_change_80 : decode cX8_change 80 = .ok (.goto 33, 3) := by decide +kernel
theorem dX8_change_83 : decode cX8_change 83 = .ok (.iload_n 1, 1) := by decide +kernel
theorem dX8_change_84 : decode cX8_change 84 = .ok (.iconst 2, 1) := by decide +kernel
theorem dX8_change_85 : decode cX8_change 85 = .ok (.if_icmp .ne 17, 3) := by decide +kernel
theorem dX8_change_88 : decode cX8_change 88 = .ok (.aload_n 0, 1) := by decide +kernel
theorem dX8_change_89 : decode cX8_change 89 = .ok (.getfield 18, 3) := by decide +kernel
theorem dX8_change_92 : decode cX8_change 92 = .ok (.istore 5, 2) := by decide +kernel
theorem dX8_change_94 : decode cX8_change 94 = .ok (.aload_n 0, 1) := by decide +kernel
theorem dX8_change_95 : decode cX8_change 95 = .ok (.iload_n 2, 1) := by decide +kernel
theorem dX8_change_96 : decode cX8_change 96 = .ok (.putfield 18, 3) := by decide +kernel
theorem dX8_change_99 : decode cX8_change 99 = .ok (.goto 14, 3) := by decide +kernel
theorem dX8_change_102 : decode cX8_change 102 = .ok (.aload_n 0, 1) := by decide +kernel
theorem dX8_change_103 : decode cX8_change 103 = .ok (.getfield 21, 3) := by decide +kernel
theorem dX8_change_106 : decode cX8_change 106 = .ok (.istore 5, 2) := by decide +kernel
theorem dX8_change_108 : decode cX8_change 108 = .ok (.aload_n 0, 1) := by decide +kernel
theorem dX8_change_109 : decode cX8_change 109 = .ok (.iload_n 2, 1) := by decide +kernel
theorem dX8_change_110 : decode cX8_change 110 = .ok (.putfield 21, 3) := by decide +kernel
theorem dX8_change_113 : decode cX8_change 113 = .ok (.iload 5, 2) := by decide +kernel
theorem dX8_change_115 : decode cX8_change 115 = .ok (.ireturn, 1) := by decide +kernel
theorem dX8_isMoonless_0 : decode cX8_isMoonless 0 = .ok (.aload_n 0, 1) := by decide +kernel
theorem dX8_isMoonless_1 : decode cX8_isMoonless 1 = .ok (.getfield 15, 3) := by decide +kernel
theorem dX8_isMoonless_4 : decode cX8_isMoonless 4 = .ok (.ifCond .le 16, 3) := by decide +kernel
theorem dX8_isMoonless_7 : decode cX8_isMoonless 7 = .ok (.iload_n 1, 1) := by decide +kernel
theorem dX8_isMoonless_8 : decode cX8_isMoonless 8 = .ok (.aload_n 0, 1) := by decide +kernel
theorem dX8_isMoonless_9 : decode cX8_isMoonless 9 = .ok (.getfield 15, 3) := by decide +kernel
theorem dX8_isMoonless_12 : decode cX8_isMoonless 12 = .ok (.irem, 1) := by decide +kernel
theorem dX8_isMoonless_13 : decode cX8_isMoonless 13 = .ok (.ifCond .ne 7, 3) := by decide +kernel
theorem dX8_isMoonless_16 : decode cX8_isMoonless 16 = .ok (.iconst 1, 1) := by decide +kernel
theorem dX8_isMoonless_17 : decode cX8_isMoonless 17 = .ok (.goto 4, 3) := by decide +kernel
theorem dX8_isMoonless_20 : decode cX8_isMoonless 20 = .ok (.iconst 0, 1) := by decide +kernel
theorem dX8_isMoonless_21 : decode cX8_isMoonless 21 = .ok (.ireturn, 1) := by decide +kernel
theorem dX8_isLent_0 : decode cX8_isLent 0 = .ok (.iload_n 1, 1) := by decide +kernel
theorem dX8_isLent_1 : decode cX8_isLent 1 = .ok (.aload_n 0, 1) := by decide +kernel
theorem dX8_isLent_2 : decode cX8_isLent 2 = .ok (.getfield 18, 3) := by decide +kernel
theorem dX8_isLent_5 : decode cX8_isLent 5 = .ok (.if_icmp .lt 15, 3) := by decide +kernel
theorem dX8_isLent_8 : decode cX8_isLent 8 = .ok (.iload_n 1, 1) := by decide +kernel
theorem dX8_isLent_9 : decode cX8_isLent 9 = .ok (.aload_n 0, 1) := by decide +kernel
theorem dX8_isLent_10 : decode cX8_isLent 10 = .ok (.getfield 21, 3) := by decide +kernel
theorem dX8_isLent_13 : decode cX8_isLent 13 = .ok (.if_icmp .gt 7, 3) := by decide +kernel
theorem dX8_isLent_16 : decode cX8_isLent 16 = .ok (.iconst 1, 1) := by decide +kernel
theorem dX8_isLent_17 : decode cX8_isLent 17 = .ok (.goto 4, 3) := by decide +kernel
theorem dX8_isLent_20 : decode cX8_isLent 20 = .ok (.iconst 0, 1) := by decide +kernel
theorem dX8_isLent_21 : decode cX8_isLent 21 = .ok (.ireturn, 1) := by decide +kernel
theorem dX8_walk_0 : decode cX8_walk 0 = .ok (.aload_n 0, 1) := by decide +kernel
theorem dX8_walk_1 : decode cX8_walk 1 = .ok (.iload_n 1, 1) := by decide +kernel
theorem dX8_walk_2 : decode cX8_walk 2 = .ok (.invokevirtual 24, 3) := by decide +kernel
theorem dX8_walk_5 : decode cX8_walk 5 = .ok (.ifCond .eq 12, 3) := by decide +kernel
theorem dX8_walk_8 : decode cX8_walk 8 = .ok (.aload_n 0, 1) := by decide +kernel
theorem dX8_walk_9 : decode cX8_walk 9 = .ok (.getfield 9, 3) := by decide +kernel
theorem dX8_walk_12 : decode cX8_walk 12 = .ok (.iconst 2, 1) := by decide +kernel
theorem dX8_walk_13 : decode cX8_walk 13 = .ok (.idiv, 1) := by decide +kernel
theorem dX8_walk_14 : decode cX8_walk 14 = .ok (.goto 7, 3) := by decide +kernel
theorem dX8_walk_17 : decode cX8_walk 17 = .ok (.aload_n 0, 1) := by decide +kernel
theorem dX8_walk_18 : decode cX8_walk 18 = .ok (.getfield 9, 3) := by decide +kernel
theorem dX8_walk_21 : decode cX8_walk 21 = .ok (.ireturn, 1) := by decide +kernel
theorem dX9_init_0 : decode cX9_init 0 = .ok (.aload_n 0, 1) := by decide +kernel
theorem dX9_init_1 : decode cX9_init 1 = .ok (.invokespecial 3, 3) := by decide +kernel
theorem dX9_init_4 : decode cX9_init 4 = .ok (.aload_n 0, 1) := by decide +kernel
theorem dX9_init_5 : decode cX9_init 5 = .ok (.bipush 9, 2) := by decide +kernel
theorem dX9_init_7 : decode cX9_init 7 = .ok (.bipush 12, 2) := by decide +kernel
theorem dX9_init_9 : decode cX9_init 9 = .ok (.multianewarray 9 2, 4) := by decide +kernel
theorem dX9_init_13 : decode cX9_init 13 = .ok (.putfield 11, 3) := by decide +kernel
theorem dX9_init_16 : decode cX9_init 16 = .ok (.aload_n 0, 1) := by decide +kernel
theorem dX9_init_17 : decode cX9_init 17 = .ok (.bipush 9, 2) := by decide +kernel
theorem dX9_init_19 : decode cX9_init 19 = .ok (.newarray .int, 2) := by decide +kernel
theorem dX9_init_21 : decode cX9_init 21 = .ok (.putfield 16, 3) := by decide +kernel
theorem dX9_init_24 : decode cX9_init 24 = .ok (.aload_n 0, 1) := by decide +kernel
theorem dX9_init_25 : decode cX9_init 25 = .ok (.bipush 8, 2) := by decide +kernel
theorem dX9_init_27 : decode cX9_init 27 = .ok (.newarray .int, 2) := by decide +kernel
theorem dX9_init_29 : decode cX9_init 29 = .ok (.putfield 20, 3) := by decide +kernel
theorem dX9_init_32 : decode cX9_init 32 = .ok (.aload_n 0, 1) := by decide +kernel
theorem dX9_init_33 : decode cX9_init 33 = .ok (.bipush 13, 2) := by decide +kernel
theorem dX9_init_35 : decode cX9_init 35 = .ok (.newarray .int, 2) := by decide +kernel
theorem dX9_init_37 : decode cX9_init 37 = .ok (.putfield 23, 3) := by decide +kernel
theorem dX9_init_40 : decode cX9_init 40 = .ok (.aload_n 0, 1) := by decide +kernel
theorem dX9_init_41 : decode cX9_init 41 = .ok (.bipush 13, 2) := by decide +kernel
theorem dX9_init_43 : decode cX9_init 43 = .ok (.newarray .int, 2) := by decide +kernel
theorem dX9_init_45 : decode cX9_init 45 = .ok (.putfield 26, 3) := by decide +kernel
theorem dX9_init_48 : decode cX9_init 48 = .ok (.aload_n 0, 1) := by decide +kernel
theorem dX9_init_49 : decode cX9_init 49 = .ok (.bipush 8, 2) := by decide +kernel
theorem dX9_init_51 : decode cX9_init 51 = .ok (.newarray .boolean, 2) := by decide +kernel
theorem dX9_init_53 : decode cX9_init 53 = .ok (.putfield 29, 3) := by decide +kernel
theorem dX9_init_56 : decode cX9_init 56 = .ok (.aload_n 0, 1) := by decide +kernel
theorem dX9_init_57 : decode cX9_init 57 = .ok (.bipush 8, 2) := by decide +kernel
theorem dX9_init_59 : decode cX9_init 59 = .ok (.newarray .int, 2) := by decide +kernel
theorem dX9_init_61 : decode cX9_init 61 = .ok (.putfield 33, 3) := by decide +kernel
theorem dX9_init_64 : decode cX9_init 64 = .ok (.aload_n 0, 1) := by decide +kernel
theorem dX9_init_65 : decode cX9_init 65 = .ok (.bipush 8, 2) := by decide +kernel
theorem dX9_init_67 : decode cX9_init 67 = .ok (.bipush 8, 2) := by decide +kernel
theorem dX9_init_69 : decode cX9_init 69 = .ok (.multianewarray 9 2, 4) := by decide +kernel
theorem dX9_init_73 : decode cX9_init 73 = .ok (.putfield 36, 3) := by decide +kernel
theorem dX9_init_76 : decode cX9_init 76 = .ok (.return_, 1) := by decide +kernel
theorem dX9_has_0 : decode cX9_has 0 = .ok (.iload_n 1, 1) := by decide +kernel
theorem dX9_has_1 : decode cX9_has 1 = .ok (.ifCond .lt 21, 3) := by decide +kernel
theorem dX9_has_4 : decode cX9_has 4 = .ok (.iload_n 1, 1) := by decide +kernel
theorem dX9_has_5 : decode cX9_has 5 = .ok (.aload_n 0, 1) := by decide +kernel
theorem dX9_has_6 : decode cX9_has 6 = .ok (.getfield 39, 3) := by decide +kernel
theorem dX9_has_9 : decode cX9_has 9 = .ok (.if_icmp .ge 13, 3) := by decide +kernel
theorem dX9_has_12 : decode cX9_has 12 = .ok (.iload_n 1, 1) := by decide +kernel
theorem dX9_has_13 : decode cX9_has 13 = .ok (.bipush 8, 2) := by decide +kernel
theorem dX9_has_15 : decode cX9_has 15 = .ok (.if_icmp .ge 7, 3) := by decide +kernel
theorem dX9_has_18 : decode cX9_has 18 = .ok (.iconst 1, 1) := by decide +kernel
theorem dX9_has_19 : decode cX9_has 19 = .ok (.goto 4, 3) := by decide +kernel
theorem dX9_has_22 : decode cX9_has 22 = .ok (.iconst 0, 1) := by decide +kernel
theorem dX9_has_23 : decode cX9_has 23 = .ok (.ireturn, 1) := by decide +kernel
theorem dX9_isFull_0 : decode cX9_isFull 0 = .ok (.aload_n 0, 1) := by decide +kernel
theorem dX9_isFull_1 : decode cX9_isFull 1 = .ok (.getfield 39, 3) := by decide +kernel
theorem dX9_isFull_4 : decode cX9_isFull 4 = .ok (.bipush 8, 2) := by decide +kernel
theorem dX9_isFull_6 : decode cX9_isFull 6 = .ok (.if_icmp .lt 7, 3) := by decide +kernel
theorem dX9_isFull_9 : decode cX9_isFull 9 = .ok (.iconst 1, 1) := by decide +kernel
theorem dX9_isFull_10 : decode cX9_isFull 10 = .ok (.goto 4, 3) := by decide +kernel
theorem dX9_isFull_13 : decode cX9_isFull 13 = .ok (.iconst 0, 1) := by decide +kernel
theorem dX9_isFull_14 : decode cX9_isFull 14 = .ok (.ireturn, 1) := by decide +kernel
theorem dX9_forget_0 : decode cX9_forget 0 = .ok (.aload_n 0, 1) := by decide +kernel
theorem dX9_forget_1 : decode cX9_forget 1 = .ok (.getfield 39, 3) := by decide +kernel
theorem dX9_forget_4 : decode cX9_forget 4 = .ok (.istore_n 1, 1) := by decide +kernel
theorem dX9_forget_5 : decode cX9_forget 5 = .ok (.aload_n 0, 1) := by decide +kernel
theorem dX9_forget_6 : decode cX9_forget 6 = .ok (.iconst 0, 1) := by decide +kernel
theorem dX9_forget_7 : decode cX9_forget 7 = .ok (.putfield 39, 3) := by decide +kernel
theorem dX9_forget_10 : decode cX9_forget 10 = .ok (.iload_n 1, 1) := by decide +kernel
theorem dX9_forget_11 : decode cX9_forget 11 = .ok (.ireturn, 1) := by decide +kernel
theorem dX9_read_0 : decode cX9_read 0 = .ok (.aload_n 1, 1) := by decide +kernel
theorem dX9_read_1 : decode cX9_read 1 = .ok (.bipush 12, 2) := by decide +kernel
theorem dX9_read_3 : decode cX9_read 3 = .ok (.invokevirtual 43, 3) := by decide +kernel
theorem dX9_read_6 : decode cX9_read 6 = .ok (.iconst 0, 1) := by decide +kernel
theorem dX9_read_7 : decode cX9_read 7 = .ok (.istore_n 2, 1) := by decide +kernel
theorem dX9_read_8 : decode cX9_read 8 = .ok (.iconst 0, 1) := by decide +kernel
theorem dX9_read_9 : decode cX9_read 9 = .ok (.istore_n 3, 1) := by decide +kernel
theorem dX9_read_10 : decode cX9_read 10 = .ok (.iload_n 3, 1) := by decide +kernel
theorem dX9_read_11 : decode cX9_read 11 = .ok (.bipush 12, 2) := by decide +kernel
theorem dX9_read_13 : decode cX9_read 13 = .ok (.if_icmp .ge 40, 3) := by decide +kernel
theorem dX9_read_16 : decode cX9_read 16 = .ok (.aload_n 1, 1) := by decide +kernel
theorem dX9_read_17 : decode cX9_read 17 = .ok (.bipush 7, 2) := by decide +kernel
theorem dX9_read_19 : decode cX9_read 19 = .ok (.iconst (-1), 1) := by decide +kernel
theorem dX9_read_20 : decode cX9_read 20 = .ok (.invokevirtual 49, 3) := by decide +kernel
theorem dX9_read_23 : decode cX9_read 23 = .ok (.istore 4, 2) := by decide +kernel
theorem dX9_read_25 : decode cX9_read 25 = .ok (.iload 4, 2) := by decide +kernel
theorem dX9_read_27 : decode cX9_read 27 = .ok (.ifCond .ge 6, 3) := by decide +kernel
theorem dX9_read_30 : decode cX9_read 30 = .ok (.goto 23, 3) := by decide +kernel
theorem dX9_read_33 : decode cX9_read 33 = .ok (.aload_n 0, 1) := by decide +kernel
theorem dX9_read_34 : decode cX9_read 34 = .ok (.getfield 11, 3) := by decide +kernel
theorem dX9_read_37 : decode cX9_read 37 = .ok (.bipush 8, 2) := by decide +kernel
theorem dX9_read_39 : decode cX9_read 39 = .ok (.aaload, 1) := by decide +kernel
theorem dX9_read_40 : decode cX9_read 40 = .ok (.iload_n 3, 1) := by decide +kernel
theorem dX9_read_41 : decode cX9_read 41 = .ok (.iload 4, 2) := by decide +kernel
theorem dX9_read_43 : decode cX9_read 43 = .ok (.iastore, 1) := by decide +kernel
theorem dX9_read_44 : decode cX9_read 44 = .ok (.iinc 2 1, 3) := by decide +kernel
theorem dX9_read_47 : decode cX9_read 47 = .ok (.iinc 3 1, 3) := by decide +kernel
theorem dX9_read_50 : decode cX9_read 50 = .ok (.goto (-40), 3) := by decide +kernel
theorem dX9_read_53 : decode cX9_read 53 = .ok (.iload_n 2, 1) := by decide +kernel
theorem dX9_read_54 : decode cX9_read 54 = .ok (.ifCond .eq 10, 3) := by decide +kernel
theorem dX9_read_57 : decode cX9_read 57 = .ok (.aload_n 1, 1) := by decide +kernel
theorem dX9_read_58 : decode cX9_read 58 = .ok (.invokevirtual 53, 3) := by decide +kernel
theorem dX9_read_61 : decode cX9_read 61 = .ok (.ifCond .ne 8, 3) := by decide +kernel
theorem dX9_read_64 : decode cX9_read 64 = .ok (.aload_n 1, 1) := by decide +kernel
theorem dX9_read_65 : decode cX9_read 65 = .ok (.invokevirtual 57, 3) := by decide +kernel
theorem dX9_read_68 : decode cX9_read 68 = .ok (.ireturn, 1) := by decide +kernel
theorem dX9_read_69 : decode cX9_read 69 = .ok (.aload_n 0, 1) := by decide +kernel
theorem dX9_read_70 : decode cX9_read 70 = .ok (.getfield 16, 3) := by decide +kernel
theorem dX9_read_73 : decode cX9_read 73 = .ok (.bipush 8, 2) := by decide +kernel
theorem dX9_read_75 : decode cX9_read 75 = .ok (.iload_n 2, 1) := by decide +kernel
theorem dX9_read_76 : decode cX9_read 76 = .ok (.iastore, 1) := by decide +kernel
theorem dX9_read_77 : decode cX9_read 77 = .ok (.iconst 0, 1) := by decide +kernel
theorem dX9_read_78 : decode cX9_read 78 = .ok (.ireturn, 1) := by decide +kernel
theorem dX9_keepDraft_0 : decode cX9_keepDraft 0 = .ok (.aload_n 0, 1) := by decide +kernel
theorem dX9_keepDraft_1 : decode cX9_keepDraft 1 = .ok (.getfield 39, 3) := by decide +kernel
theorem dX9_keepDraft_4 : decode cX9_keepDraft 4 = .ok (.ifCond .lt 12, 3) := by decide +kernel
theorem dX9_keepDraft_7 : decode cX9_keepDraft 7 = .ok (.aload_n 0, 1) := by decide +kernel
theorem dX9_keepDraft_8 : decode cX9_keepDraft 8 = .ok (.getfield 39, 3) := by decide +kernel
theorem dX9_keepDraft_11 : decode cX9_keepDraft 11 = .ok (.bipush 8, 2) := by decide +kernel
theorem dX9_keepDraft_13 : decode cX9_keepDraft 13 = .ok (.if_icmp .lt 5, 3) := by decide +kernel
theorem dX9_keepDraft_16 : decode cX9_keepDraft 16 = .ok (.iconst (-1), 1) := by decide +kernel
theorem dX9_keepDraft_17 : decode cX9_keepDraft 17 = .ok (.ireturn, 1) := by decide +kernel
theorem dX9_keepDraft_18 : decode cX9_keepDraft 18 = .ok (.iconst 0, 1) := by decide +kernel
theorem dX9_keepDraft_19 : decode cX9_keepDraft 19 = .ok (.istore_n 2, 1) := by decide +kernel
theorem dX9_keepDraft_20 : decode cX9_keepDraft 20 = .ok (.iload_n 2, 1) := by decide +kernel
theorem dX9_keepDraft_21 : decode cX9_keepDraft 21 = .ok (.bipush 12, 2) := by decide +kernel
theorem dX9_keepDraft_23 : decode cX9_keepDraft 23 = .ok (.if_icmp .ge 29, 3) := by decide +kernel
theorem dX9_keepDraft_26 : decode cX9_keepDraft 26 = .ok (.aload_n 0, 1) := by decide +kernel
theorem dX9_keepDraft_27 : decode cX9_keepDraft 27 = .ok (.getfield 11, 3) := by decide +kernel
theorem dX9_keepDraft_30 : decode cX9_keepDraft 30 = .ok (.aload_n 0, 1) := by decide +kernel
theorem dX9_keepDraft_31 : decode cX9_keepDraft 31 = .ok (.getfield 39, 3) := by decide +kernel
theorem dX9_keepDraft_34 : decode cX9_keepDraft 34 = .ok (.aaload, 1) := by decide +kernel
theorem dX9_keepDraft_35 : decode cX9_keepDraft 35 = .ok (.iload_n 2, 1) := by decide +kernel
theorem dX9_keepDraft_36 : decode cX9_keepDraft 36 = .ok (.aload_n 0, 1) := by decide +kernel
theorem dX9_keepDraft_37 : decode cX9_keepDraft 37 = .ok (.getfield 11, 3) := by decide +kernel
theorem dX9_keepDraft_40 : decode cX9_keepDraft 40 = .ok (.bipush 8, 2) := by decide +kernel
theorem dX9_keepDraft_42 : decode cX9_keepDraft 42 = .ok (.aaload, 1) := by decide +kernel
theorem dX9_keepDraft_43 : decode cX9_keepDraft 43 = .ok (.iload_n 2, 1) := by decide +kernel
theorem dX9_keepDraft_44 : decode cX9_keepDraft 44 = .ok (.iaload, 1) := by decide +kernel
theorem dX9_keepDraft_45 : decode cX9_keepDraft 45 = .ok (.iastore, 1) := by decide +kernel
theorem dX9_keepDraft_46 : decode cX9_keepDraft 46 = .ok (.iinc 2 1, 3) := by decide +kernel
theorem dX9_keepDraft_49 : decode cX9_keepDraft 49 = .ok (.goto (-29), 3) := by decide +kernel
theorem dX9_keepDraft_52 : decode cX9_keepDraft 52 = .ok (.aload_n 0, 1) := by decide +kernel
theorem dX9_keepDraft_53 : decode cX9_keepDraft 53 = .ok (.getfield 16, 3) := by decide +kernel
theorem dX9_keepDraft_56 : decode cX9_keepDraft 56 = .ok (.aload_n 0, 1) := by decide +kernel
theorem dX9_keepDraft_57 : decode cX9_keepDraft 57 = .ok (.getfield 39, 3) := by decide +kernel
theorem dX9_keepDraft_60 : decode cX9_keepDraft 60 = .ok (.aload_n 0, 1) := by decide +kernel
theorem dX9_keepDraft_61 : decode cX9_keepDraft 61 = .ok (.getfield 16, 3) := by decide +kernel
theorem dX9_keepDraft_64 : decode cX9_keepDraft 64 = .ok (.bipush 8, 2) := by decide +kernel
theorem dX9_keepDraft_66 : decode cX9_keepDraft 66 = .ok (.iaload, 1) := by decide +kernel
theorem dX9_keepDraft_67 : decode cX9_keepDraft 67 = .ok (.iastore, 1) := by decide +kernel
theorem dX9_keepDraft_68 : decode cX9_keepDraft 68 = .ok (.aload_n 0, 1) := by decide +kernel
theorem dX9_keepDraft_69 : decode cX9_keepDraft 69 = .ok (.getfield 20, 3) := by decide +kernel
theorem dX9_keepDraft_72 : decode cX9_keepDraft 72 = .ok (.aload_n 0, 1) := by decide +kernel
theorem dX9_keepDraft_73 : decode cX9_keepDraft 73 = .ok (.getfield 39, 3) := by decide +kernel
theorem dX9_keepDraft_76 : decode cX9_keepDraft 76 = .ok (.iload_n 1, 1) := by decide +kernel
theorem dX9_keepDraft_77 : decode cX9_keepDraft 77 = .ok (.iastore, 1) := by decide +kernel
theorem dX9_keepDraft_78 : decode cX9_keepDraft 78 = .ok (.aload_n 0, 1) := by decide +kernel
theorem dX9_keepDraft_79 : decode cX9_keepDraft 79 = .ok (.dup, 1) := by decide +kernel
theorem dX9_keepDraft_80 : decode cX9_keepDraft 80 = .ok (.getfield 39, 3) := by decide +kernel
theorem dX9_keepDraft_83 : decode cX9_keepDraft 83 = .ok (.iconst 1, 1) := by decide +kernel
theorem dX9_keepDraft_84 : decode cX9_keepDraft 84 = .ok (.iadd, 1) := by decide +kernel
theorem dX9_keepDraft_85 : decode cX9_keepDraft 85 = .ok (.putfield 39, 3) := by decide +kernel
theorem dX9_keepDraft_88 : decode cX9_keepDraft 88 = .ok (.aload_n 0, 1) := by decide +kernel
theorem dX9_keepDraft_89 : decode cX9_keepDraft 89 = .ok (.getfield 39, 3) := by decide +kernel
theorem dX9_keepDraft_92 : decode cX9_keepDraft 92 = .ok (.iconst 1, 1) := by decide +kernel
theorem dX9_keepDraft_93 : decode cX9_keepDraft 93 = .ok (.isub, 1) := by decide +kernel
theorem dX9_keepDraft_94 : decode cX9_keepDraft 94 = .ok (.ireturn, 1) := by decide +kernel
theorem dX9_isThere_0 : decode cX9_isThere 0 = .ok (.iload_n 1, 1) := by decide +kernel
theorem dX9_isThere_1 : decode cX9_isThere 1 = .ok (.ifCond .lt 13, 3) := by decide +kernel
theorem dX9_isThere_4 : decode cX9_isThere 4 = .ok (.iload_n 1, 1) := by decide +kernel
theorem dX9_isThere_5 : decode cX9_isThere 5 = .ok (.bipush 8, 2) := by decide +kernel
theorem dX9_isThere_7 : decode cX9_isThere 7 = .ok (.if_icmp .gt 7, 3) := by decide +kernel
theorem dX9_isThere_10 : decode cX9_isThere 10 = .ok (.iconst 1, 1) := by decide +kernel
theorem dX9_isThere_11 : decode cX9_isThere 11 = .ok (.goto 4, 3) := by decide +kernel
theorem dX9_isThere_14 : decode cX9_isThere 14 = .ok (.iconst 0, 1) := by decide +kernel
theorem dX9_isThere_15 : decode cX9_isThere 15 = .ok (.ireturn, 1) := by decide +kernel
theorem dX9_likePlaces_0 : decode cX9_likePlaces 0 = .ok (.iconst 0, 1) := by decide +kernel
theorem dX9_likePlaces_1 : decode cX9_likePlaces 1 = .ok (.istore_n 3, 1) := by decide +kernel
theorem dX9_likePlaces_2 : decode cX9_likePlaces 2 = .ok (.aload_n 0, 1) := by decide +kernel
theorem dX9_likePlaces_3 : decode cX9_likePlaces 3 = .ok (.iload_n 1, 1) := by decide +kernel
theorem dX9_likePlaces_4 : decode cX9_likePlaces 4 = .ok (.invokevirtual 61, 3) := by decide +kernel
theorem dX9_likePlaces_7 : decode cX9_likePlaces 7 = .ok (.ifCond .eq 80, 3) := by decide +kernel
theorem dX9_likePlaces_10 : decode cX9_likePlaces 10 = .ok (.aload_n 0, 1) := by decide +kernel
theorem dX9_likePlaces_11 : decode cX9_likePlaces 11 = .ok (.iload_n 2, 1) := by decide +kernel
theorem dX9_likePlaces_12 : decode cX9_likePlaces 12 = .ok (.invokevirtual 61, 3) := by decide +kernel
theorem dX9_likePlaces_15 : decode cX9_likePlaces 15 = .ok (.ifCond .eq 72, 3) := by decide +kernel
theorem dX9_likePlaces_18 : decode cX9_likePlaces 18 = .ok (.aload_n 0, 1) := by decide +kernel
theorem dX9_likePlaces_19 : decode cX9_likePlaces 19 = .ok (.getfield 16, 3) := by decide +kernel
theorem dX9_likePlaces_22 : decode cX9_likePlaces 22 = .ok (.iload_n 1, 1) := by decide +kernel
theorem dX9_likePlaces_23 : decode cX9_likePlaces 23 = .ok (.iaload, 1) := by decide +kernel
theorem dX9_likePlaces_24 : decode cX9_likePlaces 24 = .ok (.aload_n 0, 1) := by decide +kernel
theorem dX9_likePlaces_25 : decode cX9_likePlaces 25 = .ok (.getfield 16, 3) := by decide +kernel
theorem dX9_likePlaces_28 : decode cX9_likePlaces 28 = .ok (.iload_n 2, 1) := by decide +kernel
theorem dX9_likePlaces_29 : decode cX9_likePlaces 29 = .ok (.iaload, 1) := by decide +kernel
theorem dX9_likePlaces_30 : decode cX9_likePlaces 30 = .ok (.invokestatic 65, 3) := by decide +kernel
theorem dX9_likePlaces_33 : decode cX9_likePlaces 33 = .ok (.istore 4, 2) := by decide +kernel
theorem dX9_likePlaces_35 : decode cX9_likePlaces 35 = .ok (.iconst 0, 1) := by decide +kernel
theorem dX9_likePlaces_36 : decode cX9_likePlaces 36 = .ok (.istore 5, 2) := by decide +kernel
theorem dX9_likePlaces_38 : decode cX9_likePlaces 38 = .ok (.iload 5, 2) := by decide +kernel
theorem dX9_likePlaces_40 : decode cX9_likePlaces 40 = .ok (.iload 4, 2) := by decide +kernel
theorem dX9_likePlaces_42 : decode cX9_likePlaces 42 = .ok (.if_icmp .ge 45, 3) := by decide +kernel
theorem dX9_likePlaces_45 : decode cX9_likePlaces 45 = .ok (.iload 5, 2) := by decide +kernel
theorem dX9_likePlaces_47 : decode cX9_likePlaces 47 = .ok (.bipush 12, 2) := by decide +kernel
theorem dX9_likePlaces_49 : decode cX9_likePlaces 49 = .ok (.if_icmp .ge 38, 3) := by decide +kernel
theorem dX9_likePlaces_52 : decode cX9_likePlaces 52 = .ok (.iload_n 3, 1) := by decide +kernel
theorem dX9_likePlaces_53 : decode cX9_likePlaces 53 = .ok (.aload_n 0, 1) := by decide +kernel
theorem dX9_likePlaces_54 : decode cX9_likePlaces 54 = .ok (.getfield 11, 3) := by decide +kernel
theorem dX9_likePlaces_57 : decode cX9_likePlaces 57 = .ok (.iload_n 1, 1) := by decide +kernel
theorem dX9_likePlaces_58 : decode cX9_likePlaces 58 = .ok (.aaload, 1) := by decide +kernel
theorem dX9_likePlaces_59 : decode cX9_likePlaces 59 = .ok (.iload 5, 2) := by decide +kernel
theorem dX9_likePlaces_61 : decode cX9_likePlaces 61 = .ok (.iaload, 1) := by decide +kernel
theorem dX9_likePlaces_62 : decode cX9_likePlaces 62 = .ok (.aload_n 0, 1) := by decide +kernel
theorem dX9_likePlaces_63 : decode cX9_likePlaces 63 = .ok (.getfield 11, 3) := by decide +kernel
theorem dX9_likePlaces_66 : decode cX9_likePlaces 66 = .ok (.iload_n 2, 1) := by decide +kernel
theorem dX9_likePlaces_67 : decode cX9_likePlaces 67 = .ok (.aaload, 1) := by decide +kernel
theorem dX9_likePlaces_68 : decode cX9_likePlaces 68 = .ok (.iload 5, 2) := by decide +kernel
theorem dX9_likePlaces_70 : decode cX9_likePlaces 70 = .ok (.iaload, 1) := by decide +kernel
theorem dX9_likePlaces_71 : decode cX9_likePlaces 71 = .ok (.if_icmp .ne 7, 3) := by decide +kernel
theorem dX9_likePlaces_74 : decode cX9_likePlaces 74 = .ok (.iconst 1, 1) := by decide +kernel
theorem dX9_likePlaces_75 : decode cX9_likePlaces 75 = .ok (.goto 4, 3) := by decide +kernel
theorem dX9_likePlaces_78 : decode cX9_likePlaces 78 = .ok (.iconst 0, 1) := by decide +kernel
theorem dX9_likePlaces_79 : decode cX9_likePlaces 79 = .ok (.iadd, 1) := by decide +kernel
theorem dX9_likePlaces_80 : decode cX9_likePlaces 80 = .ok (.istore_n 3, 1) := by decide +kernel
theorem dX9_likePlaces_81 : decode cX9_likePlaces 81 = .ok (.iinc 5 1, 3) := by decide +kernel
theorem dX9_likePlaces_84 : decode cX9_likePlaces 84 = .ok (.goto (-46), 3) := by decide +kernel
theorem dX9_likePlaces_87 : decode cX9_likePlaces 87 = .ok (.iload_n 3, 1) := by decide +kernel
theorem dX9_likePlaces_88 : decode cX9_likePlaces 88 = .ok (.ireturn, 1) := by decide +kernel
theorem dX9_changes_0 : decode cX9_changes 0 = .ok (.aload_n 0, 1) := by decide +kernel
theorem dX9_changes_1 : decode cX9_changes 1 = .ok (.iload_n 1, 1) := by decide +kernel
theorem dX9_changes_2 : decode cX9_changes 2 = .ok (.invokevirtual 61, 3) := by decide +kernel
theorem dX9_changes_5 : decode cX9_changes 5 = .ok (.ifCond .eq 11, 3) := by decide +kernel
theorem dX9_changes_8 : decode cX9_changes 8 = .ok (.aload_n 0, 1) := by decide +kernel
theorem dX9_changes_9 : decode cX9_changes 9 = .ok (.iload_n 2, 1) := by decide +kernel
theorem dX9_changes_10 : decode cX9_changes 10 = .ok (.invokevirtual 61, 3) := by decide +kernel
theorem dX9_changes_13 : decode cX9_changes 13 = .ok (.ifCond .ne 5, 3) := by decide +kernel
theorem dX9_changes_16 : decode cX9_changes 16 = .ok (.iconst 0, 1) := by decide +kernel
theorem dX9_changes_17 : decode cX9_changes 17 = .ok (.ireturn, 1) := by decide +kernel
theorem dX9_changes_18 : decode cX9_changes 18 = .ok (.aload_n 0, 1) := by decide +kernel
theorem dX9_changes_19 : decode cX9_changes 19 = .ok (.getfield 16, 3) := by decide +kernel
theorem dX9_changes_22 : decode cX9_changes 22 = .ok (.iload_n 1, 1) := by decide +kernel
theorem dX9_changes_23 : decode cX9_changes 23 = .ok (.iaload, 1) := by decide +kernel
theorem dX9_changes_24 : decode cX9_changes 24 = .ok (.bipush 12, 2) := by decide +kernel
theorem dX9_changes_26 : decode cX9_changes 26 = .ok (.invokestatic 65, 3) := by decide +kernel
theorem dX9_changes_29 : decode cX9_changes 29 = .ok (.istore_n 3, 1) := by decide +kernel
theorem dX9_changes_30 : decode cX9_changes 30 = .ok (.aload_n 0, 1) := by decide +kernel
theorem dX9_changes_31 : decode cX9_changes 31 = .ok (.getfield 16, 3) := by decide +kernel
theorem dX9_changes_34 : decode cX9_changes 34 = .ok (.iload_n 2, 1) := by decide +kernel
theorem dX9_changes_35 : decode cX9_changes 35 = .ok (.iaload, 1) := by decide +kernel
theorem dX9_changes_36 : decode cX9_changes 36 = .ok (.bipush 12, 2) := by decide +kernel
theorem dX9_changes_38 : decode cX9_changes 38 = .ok (.invokestatic 65, 3) := by decide +kernel
theorem dX9_changes_41 : decode cX9_changes 41 = .ok (.istore 4, 2) := by decide +kernel
theorem dX9_changes_43 : decode cX9_changes 43 = .ok (.iconst 0, 1) := by decide +kernel
theorem dX9_changes_44 : decode cX9_changes 44 = .ok (.istore 5, 2) := by decide +kernel
theorem dX9_changes_46 : decode cX9_changes 46 = .ok (.iload 5, 2) := by decide +kernel
theorem dX9_changes_48 : decode cX9_changes 48 = .ok (.iload 4, 2) := by decide +kernel
theorem dX9_changes_50 : decode cX9_changes 50 = .ok (.if_icmp .gt 18, 3) := by decide +kernel
theorem dX9_changes_53 : decode cX9_changes 53 = .ok (.aload_n 0, 1) := by decide +kernel
theorem dX9_changes_54 : decode cX9_changes 54 = .ok (.getfield 23, 3) := by decide +kernel
theorem dX9_changes_57 : decode cX9_changes 57 = .ok (.iload 5, 2) := by decide +kernel
theorem dX9_changes_59 : decode cX9_changes 59 = .ok (.iload 5, 2) := by decide +kernel
theorem dX9_changes_61 : decode cX9_changes 61 = .ok (.iastore, 1) := by decide +kernel
theorem dX9_changes_62 : decode cX9_changes 62 = .ok (.iinc 5 1, 3) := by decide +kernel
theorem dX9_changes_65 : decode cX9_changes 65 = .ok (.goto (-19), 3) := by decide +kernel
theorem dX9_changes_68 : decode cX9_changes 68 = .ok (.iconst 1, 1) := by decide +kernel
theorem dX9_changes_69 : decode cX9_changes 69 = .ok (.istore 5, 2) := by decide +kernel
theorem dX9_changes_71 : decode cX9_changes 71 = .ok (.iload 5, 2) := by decide +kernel
theorem dX9_changes_73 : decode cX9_changes 73 = .ok (.iload_n 3, 1) := by decide +kernel
theorem dX9_changes_74 : decode cX9_changes 74 = .ok (.if_icmp .gt 142, 3) := by decide +kernel
theorem dX9_changes_77 : decode cX9_changes 77 = .ok (.aload_n 0, 1) := by decide +kernel
theorem dX9_changes_78 : decode cX9_changes 78 = .ok (.getfield 26, 3) := by decide +kernel
theorem dX9_changes_81 : decode cX9_changes 81 = .ok (.iconst 0, 1) := by decide +kernel
theorem dX9_changes_82 : decode cX9_changes 82 = .ok (.iload 5, 2) := by decide +kernel
theorem dX9_changes_84 : decode cX9_changes 84 = .ok (.iastore, 1) := by decide +kernel
theorem dX9_changes_85 : decode cX9_changes 85 = .ok (.iconst 1, 1) := by decide +kernel
theorem dX9_changes_86 : decode cX9_changes 86 = .ok (.istore 6, 2) := by decide +kernel
theorem dX9_changes_88 : decode cX9_changes 88 = .ok (.iload 6, 2) := by decide +kernel
theorem dX9_changes_90 : decode cX9_changes 90 = .ok (.iload 4, 2) := by decide +kernel
theorem dX9_changes_92 : decode cX9_changes 92 = .ok (.if_icmp .gt 88, 3) := by decide +kernel
theorem dX9_changes_95 : decode cX9_changes 95 = .ok (.aload_n 0, 1) := by decide +kernel
theorem dX9_changes_96 : decode cX9_changes 96 = .ok (.getfield 11, 3) := by decide +kernel
theorem dX9_changes_99 : decode cX9_changes 99 = .ok (.iload_n 1, 1) := by decide +kernel
theorem dX9_changes_100 : decode cX9_changes 100 = .ok (.aaload, 1) := by decide +kernel
theorem dX9_changes_101 : decode cX9_changes 101 = .ok (.iload 5, 2) := by decide +kernel
theorem dX9_changes_103 : decode cX9_changes 103 = .ok (.iconst 1, 1) := by decide +kernel
theorem dX9_changes_104 : decode cX9_changes 104 = .ok (.isub, 1) := by decide +kernel
theorem dX9_changes_105 : decode cX9_changes 105 = .ok (.iaload, 1) := by decide +kernel
theorem dX9_changes_106 : decode cX9_changes 106 = .ok (.aload_n 0, 1) := by decide +kernel
theorem dX9_changes_107 : decode cX9_changes 107 = .ok (.getfield 11, 3) := by decide +kernel
theorem dX9_changes_110 : decode cX9_changes 110 = .ok (.iload_n 2, 1) := by decide +kernel
theorem dX9_changes_111 : decode cX9_changes 111 = .ok (.aaload, 1) := by decide +kernel
theorem dX9_changes_112 : decode cX9_changes 112 = .ok (.iload 6, 2) := by decide +kernel
theorem dX9_changes_114 : decode cX9_changes 114 = .ok (.iconst 1, 1) := by decide +kernel
theorem dX9_changes_115 : decode cX9_changes 115 = .ok (.isub, 1) := by decide +kernel
theorem dX9_changes_116 : decode cX9_changes 116 = .ok (.iaload, 1) := by decide +kernel
theorem dX9_changes_117 : decode cX9_changes 117 = .ok (.if_icmp .ne 7, 3) := by decide +kernel
theorem dX9_changes_120 : decode cX9_changes 120 = .ok (.iconst 0, 1) := by decide +kernel
theorem dX9_changes_121 : decode cX9_changes 121 = .ok (.goto 4, 3) := by decide +kernel
theorem dX9_changes_124 : decode cX9_changes 124 = .ok (.iconst 1, 1) := by decide +kernel
theorem dX9_changes_125 : decode cX9_changes 125 = .ok (.istore 7, 2) := by decide +kernel
theorem dX9_changes_127 : decode cX9_changes 127 = .ok (.aload_n 0, 1) := by decide +kernel
theorem dX9_changes_128 : decode cX9_changes 128 = .ok (.getfield 23, 3) := by decide +kernel
theorem dX9_changes_131 : decode cX9_changes 131 = .ok (.iload 6, 2) := by decide +kernel
theorem dX9_changes_133 : decode cX9_changes 133 = .ok (.iaload, 1) := by decide +kernel
theorem dX9_changes_134 : decode cX9_changes 134 = .ok (.aload_n 0, 1) := by decide +kernel
theorem dX9_changes_135 : decode cX9_changes 135 = .ok (.getfield 26, 3) := by decide +kernel
theorem dX9_changes_138 : decode cX9_changes 138 = .ok (.iload 6, 2) := by decide +kernel
theorem dX9_changes_140 : decode cX9_changes 140 = .ok (.iconst 1, 1) := by decide +kernel
theorem dX9_changes_141 : decode cX9_changes 141 = .ok (.isub, 1) := by decide +kernel
theorem dX9_changes_142 : decode cX9_changes 142 = .ok (.iaload, 1) := by decide +kernel
theorem dX9_changes_143 : decode cX9_changes 143 = .ok (.invokestatic 65, 3) := by decide +kernel
theorem dX9_changes_146 : decode cX9_changes 146 = .ok (.iconst 1, 1) := by decide +kernel
theorem dX9_changes_147 : decode cX9_changes 147 = .ok (.iadd, 1) := by decide +kernel
theorem dX9_changes_148 : decode cX9_changes 148 = .ok (.istore 8, 2) := by decide +kernel
theorem dX9_changes_150 : decode cX9_changes 150 = .ok (.aload_n 0, 1) := by decide +kernel
theorem dX9_changes_151 : decode cX9_changes 151 = .ok (.getfield 26, 3) := by decide +kernel
theorem dX9_changes_154 : decode cX9_changes 154 = .ok (.iload 6, 2) := by decide +kernel
theorem dX9_changes_156 : decode cX9_changes 156 = .ok (.iload 8, 2) := by decide +kernel
theorem dX9_changes_158 : decode cX9_changes 158 = .ok (.aload_n 0, 1) := by decide +kernel
theorem dX9_changes_159 : decode cX9_changes 159 = .ok (.getfield 23, 3) := by decide +kernel
theorem dX9_changes_162 : decode cX9_changes 162 = .ok (.iload 6, 2) := by decide +kernel
theorem dX9_changes_164 : decode cX9_changes 164 = .ok (.iconst 1, 1) := by decide +kernel
theorem dX9_changes_165 : decode cX9_changes 165 = .ok (.isub, 1) := by decide +kernel
theorem dX9_changes_166 : decode cX9_changes 166 = .ok (.iaload, 1) := by decide +kernel
theorem dX9_changes_167 : decode cX9_changes 167 = .ok (.iload 7, 2) := by decide +kernel
theorem dX9_changes_169 : decode cX9_changes 169 = .ok (.iadd, 1) := by decide +kernel
theorem dX9_changes_170 : decode cX9_changes 170 = .ok (.invokestatic 65, 3) := by decide +kernel
theorem dX9_changes_173 : decode cX9_changes 173 = .ok (.iastore, 1) := by decide +kernel
theorem dX9_changes_174 : decode cX9_changes 174 = .ok (.iinc 6 1, 3) := by decide +kernel
theorem dX9_changes_177 : decode cX9_changes 177 = .ok (.goto (-89), 3) := by decide +kernel
theorem dX9_changes_180 : decode cX9_changes 180 = .ok (.iconst 0, 1) := by decide +kernel
theorem dX9_changes_181 : decode cX9_changes 181 = .ok (.istore 6, 2) := by decide +kernel
theorem dX9_changes_183 : decode cX9_changes 183 = .ok (.iload 6, 2) := by decide +kernel
theorem dX9_changes_185 : decode cX9_changes 185 = .ok (.iload 4, 2) := by decide +kernel
theorem dX9_changes_187 : decode cX9_changes 187 = .ok (.if_icmp .gt 23, 3) := by decide +kernel
theorem dX9_changes_190 : decode cX9_changes 190 = .ok (.aload_n 0, 1) := by decide +kernel
theorem dX9_changes_191 : decode cX9_changes 191 = .ok (.getfield 23, 3) := by decide +kernel
theorem dX9_changes_194 : decode cX9_changes 194 = .ok (.iload 6, 2) := by decide +kernel
theorem dX9_changes_196 : decode cX9_changes 196 = .ok (.aload_n 0, 1) := by decide +kernel
theorem dX9_changes_197 : decode cX9_changes 197 = .ok (.getfield 26, 3) := by decide +kernel
theorem dX9_changes_200 : decode cX9_changes 200 = .ok (.iload 6, 2) := by decide +kernel
theorem dX9_changes_202 : decode cX9_changes 202 = .ok (.iaload, 1) := by decide +kernel
theorem dX9_changes_203 : decode cX9_changes 203 = .ok (.iastore, 1) := by decide +kernel
theorem dX9_changes_204 : decode cX9_changes 204 = .ok (.iinc 6 1, 3) := by decide +kernel
theorem dX9_changes_207 : decode cX9_changes 207 = .ok (.goto (-24), 3) := by decide +kernel
theorem dX9_changes_210 : decode cX9_changes 210 = .ok (.iinc 5 1, 3) := by decide +kernel
theorem dX9_changes_213 : decode cX9_changes 213 = .ok (.goto (-142), 3) := by decide +kernel
theorem dX9_changes_216 : decode cX9_changes 216 = .ok (.iload 4, 2) := by decide +kernel
theorem dX9_changes_218 : decode cX9_changes 218 = .ok (.ifCond .lt 13, 3) := by decide +kernel
theorem dX9_changes_221 : decode cX9_changes 221 = .ok (.aload_n 0, 1) := by decide +kernel
theorem dX9_changes_222 : decode cX9_changes 222 = .ok (.getfield 23, 3) := by decide +kernel
theorem dX9_changes_225 : decode cX9_changes 225 = .ok (.iload 4, 2) := by decide +kernel
theorem dX9_changes_227 : decode cX9_changes 227 = .ok (.iaload, 1) := by decide +kernel
theorem dX9_changes_228 : decode cX9_changes 228 = .ok (.goto 4, 3) := by decide +kernel
theorem dX9_changes_231 : decode cX9_changes 231 = .ok (.iconst 0, 1) := by decide +kernel
theorem dX9_changes_232 : decode cX9_changes 232 = .ok (.ireturn, 1) := by decide +kernel
theorem dX9_tellOrigins_0 : decode cX9_tellOrigins 0 = .ok (.iconst 0, 1) := by decide +kernel
theorem dX9_tellOrigins_1 : decode cX9_tellOrigins 1 = .ok (.istore_n 2, 1) := by decide +kernel
theorem dX9_tellOrigins_2 : decode cX9_tellOrigins 2 = .ok (.iconst 1, 1) := by decide +kernel
theorem dX9_tellOrigins_3 : decode cX9_tellOrigins 3 = .ok (.istore_n 3, 1) := by decide +kernel
theorem dX9_tellOrigins_4 : decode cX9_tellOrigins 4 = .ok (.iload_n 3, 1) := by decide +kernel
theorem dX9_tellOrigins_5 : decode cX9_tellOrigins 5 = .ok (.aload_n 0, 1) := by decide +kernel
theorem dX9_tellOrigins_6 : decode cX9_tellOrigins 6 = .ok (.getfield 39, 3) := by decide +kernel
theorem dX9_tellOrigins_9 : decode cX9_tellOrigins 9 = .ok (.if_icmp .ge 71, 3) := by decide +kernel
theorem dX9_tellOrigins_12 : decode cX9_tellOrigins 12 = .ok (.aload_n 0, 1) := by decide +kernel
theorem dX9_tellOrigins_13 : decode cX9_tellOrigins 13 = .ok (.iconst 0, 1) := by decide +kernel
theorem dX9_tellOrigins_14 : decode cX9_tellOrigins 14 = .ok (.iload_n 3, 1) := by decide +kernel
theorem dX9_tellOrigins_15 : decode cX9_tellOrigins 15 = .ok (.invokevirtual 70, 3) := by decide +kernel
theorem dX9_tellOrigins_18 : decode cX9_tellOrigins 18 = .ok (.istore 4, 2) := by decide +kernel
theorem dX9_tellOrigins_20 : decode cX9_tellOrigins 20 = .ok (.iconst 0, 1) := by decide +kernel
theorem dX9_tellOrigins_21 : decode cX9_tellOrigins 21 = .ok (.istore 5, 2) := by decide +kernel
theorem dX9_tellOrigins_23 : decode cX9_tellOrigins 23 = .ok (.iconst 1, 1) := by decide +kernel
theorem dX9_tellOrigins_24 : decode cX9_tellOrigins 24 = .ok (.istore 6, 2) := by decide +kernel
theorem dX9_tellOrigins_26 : decode cX9_tellOrigins 26 = .ok (.iload 6, 2) := by decide +kernel
theorem dX9_tellOrigins_28 : decode cX9_tellOrigins 28 = .ok (.iload_n 3, 1) := by decide +kernel
theorem dX9_tellOrigins_29 : decode cX9_tellOrigins 29 = .ok (.if_icmp .ge 33, 3) := by decide +kernel
theorem dX9_tellOrigins_32 : decode cX9_tellOrigins 32 = .ok (.aload_n 0, 1) := by decide +kernel
theorem dX9_tellOrigins_33 : decode cX9_tellOrigins 33 = .ok (.iload 6, 2) := by decide +kernel
theorem dX9_tellOrigins_35 : decode cX9_tellOrigins 35 = .ok (.iload_n 3, 1) := by decide +kernel
theorem dX9_tellOrigins_36 : decode cX9_tellOrigins 36 = .ok (.invokevirtual 70, 3) := by decide +kernel
theorem dX9_tellOrigins_39 : decode cX9_tellOrigins 39 = .ok (.istore 7, 2) := by decide +kernel
theorem dX9_tellOrigins_41 : decode cX9_tellOrigins 41 = .ok (.iload 7, 2) := by decide +kernel
theorem dX9_tellOrigins_43 : decode cX9_tellOrigins 43 = .ok (.iload 4, 2) := by decide +kernel
theorem dX9_tellOrigins_45 : decode cX9_tellOrigins 45 = .ok (.if_icmp .ge 11, 3) := by decide +kernel
theorem dX9_tellOrigins_48 : decode cX9_tellOrigins 48 = .ok (.iload 7, 2) := by decide +kernel
theorem dX9_tellOrigins_50 : decode cX9_tellOrigins 50 = .ok (.istore 4, 2) := by decide +kernel
theorem dX9_tellOrigins_52 : decode cX9_tellOrigins 52 = .ok (.iload 6, 2) := by decide +kernel
theorem dX9_tellOrigins_54 : decode cX9_tellOrigins 54 = .ok (.istore 5, 2) := by decide +kernel
theorem dX9_tellOrigins_56 : decode cX9_tellOrigins 56 = .ok (.iinc 6 1, 3) := by decide +kernel
theorem dX9_tellOrigins_59 : decode cX9_tellOrigins 59 = .ok (.goto (-33), 3) := by decide +kernel
theorem dX9_tellOrigins_62 : decode cX9_tellOrigins 62 = .ok (.iload_n 2, 1) := by decide +kernel
theorem dX9_tellOrigins_63 : decode cX9_tellOrigins 63 = .ok (.iload 4, 2) := by decide +kernel
theorem dX9_tellOrigins_65 : decode cX9_tellOrigins 65 = .ok (.iadd, 1) := by decide +kernel
theorem dX9_tellOrigins_66 : decode cX9_tellOrigins 66 = .ok (.istore_n 2, 1) := by decide +kernel
theorem dX9_tellOrigins_67 : decode cX9_tellOrigins 67 = .ok (.aload_n 1, 1) := by decide +kernel
theorem dX9_tellOrigins_68 : decode cX9_tellOrigins 68 = .ok (.iload 5, 2) := by decide +kernel
theorem dX9_tellOrigins_70 : decode cX9_tellOrigins 70 = .ok (.i2l, 1) := by decide +kernel
theorem dX9_tellOrigins_71 : decode cX9_tellOrigins 71 = .ok (.invokevirtual 73, 3) := by decide +kernel
theorem dX9_tellOrigins_74 : decode cX9_tellOrigins 74 = .ok (.iinc 3 1, 3) := by decide +kernel
theorem dX9_tellOrigins_77 : decode cX9_tellOrigins 77 = .ok (.goto (-73), 3) := by decide +kernel
theorem dX9_tellOrigins_80 : decode cX9_tellOrigins 80 = .ok (.iload_n 2, 1) := by decide +kernel
theorem dX9_tellOrigins_81 : decode cX9_tellOrigins 81 = .ok (.ireturn, 1) := by decide +kernel
theorem dX9_tellTree_0 : decode cX9_tellTree 0 = .ok (.aload_n 0, 1) := by decide +kernel
theorem dX9_tellTree_1 : decode cX9_tellTree 1 = .ok (.invokevirtual 79, 3) := by decide +kernel
theorem dX9_tellTree_4 : decode cX9_tellTree 4 = .ok (.iconst 0, 1) := by decide +kernel
theorem dX9_tellTree_5 : decode cX9_tellTree 5 = .ok (.istore_n 2, 1) := by decide +kernel
theorem dX9_tellTree_6 : decode cX9_tellTree 6 = .ok (.iconst 0, 1) := by decide +kernel
theorem dX9_tellTree_7 : decode cX9_tellTree 7 = .ok (.istore_n 3, 1) := by decide +kernel
theorem dX9_tellTree_8 : decode cX9_tellTree 8 = .ok (.iload_n 3, 1) := by decide +kernel
theorem dX9_tellTree_9 : decode cX9_tellTree 9 = .ok (.bipush 8, 2) := by decide +kernel
theorem dX9_tellTree_11 : decode cX9_tellTree 11 = .ok (.if_icmp .ge 31, 3) := by decide +kernel
theorem dX9_tellTree_14 : decode cX9_tellTree 14 = .ok (.aload_n 0, 1) := by decide +kernel
theorem dX9_tellTree_15 : decode cX9_tellTree 15 = .ok (.getfield 29, 3) := by decide +kernel
theorem dX9_tellTree_18 : decode cX9_tellTree 18 = .ok (.iload_n 3, 1) := by decide +kernel
theorem dX9_tellTree_19 : decode cX9_tellTree 19 = .ok (.iload_n 3, 1) := by decide +kernel
theorem dX9_tellTree_20 : decode cX9_tellTree 20 = .ok (.ifCond .ne 7, 3) := by decide +kernel
theorem dX9_tellTree_23 : decode cX9_tellTree 23 = .ok (.iconst 1, 1) := by decide +kernel
theorem dX9_tellTree_24 : decode cX9_tellTree 24 = .ok (.goto 4, 3) := by decide +kernel
theorem dX9_tellTree_27 : decode cX9_tellTree 27 = .ok (.iconst 0, 1) := by decide +kernel
theorem dX9_tellTree_28 : decode cX9_tellTree 28 = .ok (.bastore, 1) := by decide +kernel
theorem dX9_tellTree_29 : decode cX9_tellTree 29 = .ok (.aload_n 0, 1) := by decide +kernel
theorem dX9_tellTree_30 : decode cX9_tellTree 30 = .ok (.getfield 33, 3) := by decide +kernel
theorem dX9_tellTree_33 : decode cX9_tellTree 33 = .ok (.iload_n 3, 1) := by decide +kernel
theorem dX9_tellTree_34 : decode cX9_tellTree 34 = .ok (.iconst 0, 1) := by decide +kernel
theorem dX9_tellTree_35 : decode cX9_tellTree 35 = .ok (.iastore, 1) := by decide +kernel
theorem dX9_tellTree_36 : decode cX9_tellTree 36 = .ok (.iinc 3 1, 3) := by decide +kernel
theorem dX9_tellTree_39 : decode cX9_tellTree 39 = .ok (.goto (-31), 3) := by decide +kernel
theorem dX9_tellTree_42 : decode cX9_tellTree 42 = .ok (.iconst 1, 1) := by decide +kernel
theorem dX9_tellTree_43 : decode cX9_tellTree 43 = .ok (.istore_n 3, 1) := by decide +kernel
theorem dX9_tellTree_44 : decode cX9_tellTree 44 = .ok (.iload_n 3, 1) := by decide +kernel
theorem dX9_tellTree_45 : decode cX9_tellTree 45 = .ok (.aload_n 0, 1) := by decide +kernel
theorem dX9_tellTree_46 : decode cX9_tellTree 46 = .ok (.getfield 39, 3) := by decide +kernel
theorem dX9_tellTree_49 : decode cX9_tellTree 49 = .ok (.if_icmp .ge 16, 3) := by decide +kernel
theorem dX9_tellTree_52 : decode cX9_tellTree 52 = .ok (.iload_n 2, 1) := by decide +kernel
theorem dX9_tellTree_53 : decode cX9_tellTree 53 = .ok (.aload_n 0, 1) := by decide +kernel
theorem dX9_tellTree_54 : decode cX9_tellTree 54 = .ok (.invokevirtual 82, 3) := by decide +kernel
theorem dX9_tellTree_57 : decode cX9_tellTree 57 = .ok (.iadd, 1) := by decide +kernel
theorem dX9_tellTree_58 : decode cX9_tellTree 58 = .ok (.istore_n 2, 1) := by decide +kernel
theorem dX9_tellTree_59 : decode cX9_tellTree 59 = .ok (.iinc 3 1, 3) := by decide +kernel
theorem dX9_tellTree_62 : decode cX9_tellTree 62 = .ok (.goto (-18), 3) := by decide +kernel
theorem dX9_tellTree_65 : decode cX9_tellTree 65 = .ok (.iconst 0, 1) := by decide +kernel
theorem dX9_tellTree_66 : decode cX9_tellTree 66 = .ok (.istore_n 3, 1) := by decide +kernel
theorem dX9_tellTree_67 : decode cX9_tellTree 67 = .ok (.iconst 0, 1) := by decide +kernel
theorem dX9_tellTree_68 : decode cX9_tellTree 68 = .ok (.istore 4, 2) := by decide +kernel
theorem dX9_tellTree_70 : decode cX9_tellTree 70 = .ok (.iload 4, 2) := by decide +kernel
theorem dX9_tellTree_72 : decode cX9_tellTree 72 = .ok (.aload_n 0, 1) := by decide +kernel
theorem dX9_tellTree_73 : decode cX9_tellTree 73 = .ok (.getfield 39, 3) := by decide +kernel
theorem dX9_tellTree_76 : decode cX9_tellTree 76 = .ok (.if_icmp .ge 35, 3) := by decide +kernel
theorem dX9_tellTree_79 : decode cX9_tellTree 79 = .ok (.iload 4, 2) := by decide +kernel
theorem dX9_tellTree_81 : decode cX9_tellTree 81 = .ok (.bipush 8, 2) := by decide +kernel
theorem dX9_tellTree_83 : decode cX9_tellTree 83 = .ok (.if_icmp .ge 28, 3) := by decide +kernel
theorem dX9_tellTree_86 : decode cX9_tellTree 86 = .ok (.iload_n 3, 1) := by decide +kernel
theorem dX9_tellTree_87 : decode cX9_tellTree 87 = .ok (.aload_n 0, 1) := by decide +kernel
theorem dX9_tellTree_88 : decode cX9_tellTree 88 = .ok (.getfield 33, 3) := by decide +kernel
theorem dX9_tellTree_91 : decode cX9_tellTree 91 = .ok (.iload 4, 2) := by decide +kernel
theorem dX9_tellTree_93 : decode cX9_tellTree 93 = .ok (.iaload, 1) := by decide +kernel
theorem dX9_tellTree_94 : decode cX9_tellTree 94 = .ok (.iconst 1, 1) := by decide +kernel
theorem dX9_tellTree_95 : decode cX9_tellTree 95 = .ok (.if_icmp .ne 7, 3) := by decide +kernel
theorem dX9_tellTree_98 : decode cX9_tellTree 98 = .ok (.iconst 1, 1) := by decide +kernel
theorem dX9_tellTree_99 : decode cX9_tellTree 99 = .ok (.goto 4, 3) := by decide +kernel
theorem dX9_tellTree_102 : decode cX9_tellTree 102 = .ok (.iconst 0, 1) := by decide +kernel
theorem dX9_tellTree_103 : decode cX9_tellTree 103 = .ok (.iadd, 1) := by decide +kernel
theorem dX9_tellTree_104 : decode cX9_tellTree 104 = .ok (.istore_n 3, 1) := by decide +kernel
theorem dX9_tellTree_105 : decode cX9_tellTree 105 = .ok (.iinc 4 1, 3) := by decide +kernel
theorem dX9_tellTree_108 : decode cX9_tellTree 108 = .ok (.goto (-38), 3) := by decide +kernel
theorem dX9_tellTree_111 : decode cX9_tellTree 111 = .ok (.aload_n 1, 1) := by decide +kernel
theorem dX9_tellTree_112 : decode cX9_tellTree 112 = .ok (.iload_n 3, 1) := by decide +kernel
theorem dX9_tellTree_113 : decode cX9_tellTree 113 = .ok (.i2l, 1) := by decide +kernel
theorem dX9_tellTree_114 : decode cX9_tellTree 114 = .ok (.invokevirtual 73, 3) := by decide +kernel
theorem dX9_tellTree_117 : decode cX9_tellTree 117 = .ok (.iload_n 2, 1) := by decide +kernel
theorem dX9_tellTree_118 : decode cX9_tellTree 118 = .ok (.ireturn, 1) := by decide +kernel
theorem dX9_measureAll_0 : decode cX9_measureAll 0 = .ok (.iconst 0, 1) := by decide +kernel
theorem dX9_measureAll_1 : decode cX9_measureAll 1 = .ok (.istore_n 1, 1) := by decide +kernel
theorem dX9_measureAll_2 : decode cX9_measureAll 2 = .ok (.iload_n 1, 1) := by decide +kernel
theorem dX9_measureAll_3 : decode cX9_measureAll 3 = .ok (.aload_n 0, 1) := by decide +kernel
theorem dX9_measureAll_4 : decode cX9_measureAll 4 = .ok (.getfield 39, 3) := by decide +kernel
theorem dX9_measureAll_7 : decode cX9_measureAll 7 = .ok (.if_icmp .ge 58, 3) := by decide +kernel
theorem dX9_measureAll_10 : decode cX9_measureAll 10 = .ok (.iload_n 1, 1) := by decide +kernel
theorem dX9_measureAll_11 : decode cX9_measureAll 11 = .ok (.bipush 8, 2) := by decide +kernel
theorem dX9_measureAll_13 : decode cX9_measureAll 13 = .ok (.if_icmp .ge 52, 3) := by decide +kernel
theorem dX9_measureAll_16 : decode cX9_measureAll 16 = .ok (.iconst 0, 1) := by decide +kernel
theorem dX9_measureAll_17 : decode cX9_measureAll 17 = .ok (.istore_n 2, 1) := by decide +kernel
theorem dX9_measureAll_18 : decode cX9_measureAll 18 = .ok (.iload_n 2, 1) := by decide +kernel
theorem dX9_measureAll_19 : decode cX9_measureAll 19 = .ok (.iload_n 1, 1) := by decide +kernel
theorem dX9_measureAll_20 : decode cX9_measureAll 20 = .ok (.if_icmp .ge 39, 3) := by decide +kernel
theorem dX9_measureAll_23 : decode cX9_measureAll 23 = .ok (.aload_n 0, 1) := by decide +kernel
theorem dX9_measureAll_24 : decode cX9_measureAll 24 = .ok (.getfield 36, 3) := by decide +kernel
theorem dX9_measureAll_27 : decode cX9_measureAll 27 = .ok (.iload_n 1, 1) := by decide +kernel
theorem dX9_measureAll_28 : decode cX9_measureAll 28 = .ok (.aaload, 1) := by decide +kernel
theorem dX9_measureAll_29 : decode cX9_measureAll 29 = .ok (.iload_n 2, 1) := by decide +kernel
theorem dX9_measureAll_30 : decode cX9_measureAll 30 = .ok (.aload_n 0, 1) := by decide +kernel
theorem dX9_measureAll_31 : decode cX9_measureAll 31 = .ok (.iload_n 1, 1) := by decide +kernel
theorem dX9_measureAll_32 : decode cX9_measureAll 32 = .ok (.iload_n 2, 1) := by decide +kernel
theorem dX9_measureAll_33 : decode cX9_measureAll 33 = .ok (.invokevirtual 70, 3) := by decide +kernel
theorem dX9_measureAll_36 : decode cX9_measureAll 36 = .ok (.iastore, 1) := by decide +kernel
theorem dX9_measureAll_37 : decode cX9_measureAll 37 = .ok (.aload_n 0, 1) := by decide +kernel
theorem dX9_measureAll_38 : decode cX9_measureAll 38 = .ok (.getfield 36, 3) := by decide +kernel
theorem dX9_measureAll_41 : decode cX9_measureAll 41 = .ok (.iload_n 2, 1) := by decide +kernel
theorem dX9_measureAll_42 : decode cX9_measureAll 42 = .ok (.aaload, 1) := by decide +kernel
theorem dX9_measureAll_43 : decode cX9_measureAll 43 = .ok (.iload_n 1, 1) := by decide +kernel
theorem dX9_measureAll_44 : decode cX9_measureAll 44 = .ok (.aload_n 0, 1) := by decide +kernel
theorem dX9_measureAll_45 : decode cX9_measureAll 45 = .ok (.getfield 36, 3) := by decide +kernel
theorem dX9_measureAll_48 : decode cX9_measureAll 48 = .ok (.iload_n 1, 1) := by decide +kernel
theorem dX9_measureAll_49 : decode cX9_measureAll 49 = .ok (.aaload, 1) := by decide +kernel
theorem dX9_measureAll_50 : decode cX9_measureAll 50 = .ok (.iload_n 2, 1) := by decide +kernel
theorem dX9_measureAll_51 : decode cX9_measureAll 51 = .ok (.iaload, 1) := by decide +kernel
theorem dX9_measureAll_52 : decode cX9_measureAll 52 = .ok (.iastore, 1) := by decide +kernel
theorem dX9_measureAll_53 : decode cX9_measureAll 53 = .ok (.iinc 2 1, 3) := by decide +kernel
theorem dX9_measureAll_56 : decode cX9_measureAll 56 = .ok (.goto (-38), 3) := by decide +kernel
theorem dX9_measureAll_59 : decode cX9_measureAll 59 = .ok (.iinc 1 1, 3) := by decide +kernel
theorem dX9_measureAll_62 : decode cX9_measureAll 62 = .ok (.goto (-60), 3) := by decide +kernel
theorem dX9_measureAll_65 : decode cX9_measureAll 65 = .ok (.return_, 1) := by decide +kernel
theorem dX9_joinNearest_0 : decode cX9_joinNearest 0 = .ok (.bipush 13, 2) := by decide +kernel
theorem dX9_joinNearest_2 : decode cX9_joinNearest 2 = .ok (.istore_n 1, 1) := by decide +kernel
theorem dX9_joinNearest_3 : decode cX9_joinNearest 3 = .ok (.iconst 0, 1) := by decide +kernel
theorem dX9_joinNearest_4 : decode cX9_joinNearest 4 = .ok (.istore_n 2, 1) := by decide +kernel
theorem dX9_joinNearest_5 : decode cX9_joinNearest 5 = .ok (.iconst 0, 1) := by decide +kernel
theorem dX9_joinNearest_6 : decode cX9_joinNearest 6 = .ok (.istore_n 3, 1) := by decide +kernel
theorem dX9_joinNearest_7 : decode cX9_joinNearest 7 = .ok (.iconst 0, 1) := by decide +kernel
theorem dX9_joinNearest_8 : decode cX9_joinNearest 8 = .ok (.istore 4, 2) := by decide +kernel
theorem dX9_joinNearest_10 : decode cX9_joinNearest 10 = .ok (.iload 4, 2) := by decide +kernel
theorem dX9_joinNearest_12 : decode cX9_joinNearest 12 = .ok (.aload_n 0, 1) := by decide +kernel
theorem dX9_joinNearest_13 : decode cX9_joinNearest 13 = .ok (.getfield 39, 3) := by decide +kernel
theorem dX9_joinNearest_16 : decode cX9_joinNearest 16 = .ok (.if_icmp .ge 92, 3) := by decide +kernel
theorem dX9_joinNearest_19 : decode cX9_joinNearest 19 = .ok (.iload 4, 2) := by decide +kernel
theorem dX9_joinNearest_21 : decode cX9_joinNearest 21 = .ok (.bipush 8, 2) := by decide +kernel
theorem dX9_joinNearest_23 : decode cX9_joinNearest 23 = .ok (.if_icmp .ge 85, 3) := by decide +kernel
theorem dX9_joinNearest_26 : decode cX9_joinNearest 26 = .ok (.iconst 0, 1) := by decide +kernel
theorem dX9_joinNearest_27 : decode cX9_joinNearest 27 = .ok (.istore 5, 2) := by decide +kernel
theorem dX9_joinNearest_29 : decode cX9_joinNearest 29 = .ok (.iload 5, 2) := by decide +kernel
theorem dX9_joinNearest_31 : decode cX9_joinNearest 31 = .ok (.aload_n 0, 1) := by decide +kernel
theorem dX9_joinNearest_32 : decode cX9_joinNearest 32 = .ok (.getfield 39, 3) := by decide +kernel
theorem dX9_joinNearest_35 : decode cX9_joinNearest 35 = .ok (.if_icmp .ge 67, 3) := by decide +kernel
theorem dX9_joinNearest_38 : decode cX9_joinNearest 38 = .ok (.iload 5, 2) := by decide +kernel
theorem dX9_joinNearest_40 : decode cX9_joinNearest 40 = .ok (.bipush 8, 2) := by decide +kernel
theorem dX9_joinNearest_42 : decode cX9_joinNearest 42 = .ok (.if_icmp .ge 60, 3) := by decide +kernel
theorem dX9_joinNearest_45 : decode cX9_joinNearest 45 = .ok (.aload_n 0, 1) := by decide +kernel
theorem dX9_joinNearest_46 : decode cX9_joinNearest 46 = .ok (.getfield 29, 3) := by decide +kernel
theorem dX9_joinNearest_49 : decode cX9_joinNearest 49 = .ok (.iload 4, 2) := by decide +kernel
theorem dX9_joinNearest_51 : decode cX9_joinNearest 51 = .ok (.baload, 1) := by decide +kernel
theorem dX9_joinNearest_52 : decode cX9_joinNearest 52 = .ok (.ifCond .ne 44, 3) := by decide +kernel
theorem dX9_joinNearest_55 : decode cX9_joinNearest 55 = .ok (.aload_n 0, 1) := by decide +kernel
theorem dX9_joinNearest_56 : decode cX9_joinNearest 56 = .ok (.getfield 29, 3) := by decide +kernel
theorem dX9_joinNearest_59 : decode cX9_joinNearest 59 = .ok (.iload 5, 2) := by decide +kernel
theorem dX9_joinNearest_61 : decode cX9_joinNearest 61 = .ok (.baload, 1) := by decide +kernel
theorem dX9_joinNearest_62 : decode cX9_joinNearest 62 = .ok (.ifCond .eq 34, 3) := by decide +kernel
theorem dX9_joinNearest_65 : decode cX9_joinNearest 65 = .ok (.aload_n 0, 1) := by decide +kernel
theorem dX9_joinNearest_66 : decode cX9_joinNearest 66 = .ok (.getfield 36, 3) := by decide +kernel
theorem dX9_joinNearest_69 : decode cX9_joinNearest 69 = .ok (.iload 4, 2) := by decide +kernel
theorem dX9_joinNearest_71 : decode cX9_joinNearest 71 = .ok (.aaload, 1) := by decide +kernel
theorem dX9_joinNearest_72 : decode cX9_joinNearest 72 = .ok (.iload 5, 2) := by decide +kernel
theorem dX9_joinNearest_74 : decode cX9_joinNearest 74 = .ok (.iaload, 1) := by decide +kernel
theorem dX9_joinNearest_75 : decode cX9_joinNearest 75 = .ok (.iload_n 1, 1) := by decide +kernel
theorem dX9_joinNearest_76 : decode cX9_joinNearest 76 = .ok (.if_icmp .ge 20, 3) := by decide +kernel
theorem dX9_joinNearest_79 : decode cX9_joinNearest 79 = .ok (.aload_n 0, 1) := by decide +kernel
theorem dX9_joinNearest_80 : decode cX9_joinNearest 80 = .ok (.getfield 36, 3) := by decide +kernel
theorem dX9_joinNearest_83 : decode cX9_joinNearest 83 = .ok (.iload 4, 2) := by decide +kernel
theorem dX9_joinNearest_85 : decode cX9_joinNearest 85 = .ok (.aaload, 1) := by decide +kernel
theorem dX9_joinNearest_86 : decode cX9_joinNearest 86 = .ok (.iload 5, 2) := by decide +kernel
theorem dX9_joinNearest_88 : decode cX9_joinNearest 88 = .ok (.iaload, 1) := by decide +kernel
theorem dX9_joinNearest_89 : decode cX9_joinNearest 89 = .ok (.istore_n 1, 1) := by decide +kernel
theorem dX9_joinNearest_90 : decode cX9_joinNearest 90 = .ok (.iload 4, 2) := by decide +kernel
theorem dX9_joinNearest_92 : decode cX9_joinNearest 92 = .ok (.istore_n 2, 1) := by decide +kernel
theorem dX9_joinNearest_93 : decode cX9_joinNearest 93 = .ok (.iload 5, 2) := by decide +kernel
theorem dX9_joinNearest_95 : decode cX9_joinNearest 95 = .ok (.istore_n 3, 1) := by decide +kernel
theorem dX9_joinNearest_96 : decode cX9_joinNearest 96 = .ok (.iinc 5 1, 3) := by decide +kernel
theorem dX9_joinNearest_99 : decode cX9_joinNearest 99 = .ok (.goto (-70), 3) := by decide +kernel
theorem dX9_joinNearest_102 : decode cX9_joinNearest 102 = .ok (.iinc 4 1, 3) := by decide +kernel
theorem dX9_joinNearest_105 : decode cX9_joinNearest 105 = .ok (.goto (-95), 3) := by decide +kernel
theorem dX9_joinNearest_108 : decode cX9_joinNearest 108 = .ok (.aload_n 0, 1) := by decide +kernel
theorem dX9_joinNearest_109 : decode cX9_joinNearest 109 = .ok (.getfield 29, 3) := by decide +kernel
theorem dX9_joinNearest_112 : decode cX9_joinNearest 112 = .ok (.iload_n 2, 1) := by decide +kernel
theorem dX9_joinNearest_113 : decode cX9_joinNearest 113 = .ok (.iconst 1, 1) := by decide +kernel
theorem dX9_joinNearest_114 : decode cX9_joinNearest 114 = .ok (.bastore, 1) := by decide +kernel
theorem dX9_joinNearest_115 : decode cX9_joinNearest 115 = .ok (.aload_n 0, 1) := by decide +kernel
theorem dX9_joinNearest_116 : decode cX9_joinNearest 116 = .ok (.getfield 33, 3) := by decide +kernel
theorem dX9_joinNearest_119 : decode cX9_joinNearest 119 = .ok (.iload_n 2, 1) := by decide +kernel
theorem dX9_joinNearest_120 : decode cX9_joinNearest 120 = .ok (.dup2, 1) := by decide +kernel
theorem dX9_joinNearest_121 : decode cX9_joinNearest 121 = .ok (.iaload, 1) := by decide +kernel
theorem dX9_joinNearest_122 : decode cX9_joinNearest 122 = .ok (.iconst 1, 1) := by decide +kernel
theorem dX9_joinNearest_123 : decode cX9_joinNearest 123 = .ok (.iadd, 1) := by decide +kernel
theorem dX9_joinNearest_124 : decode cX9_joinNearest 124 = .ok (.iastore, 1) := by decide +kernel
theorem dX9_joinNearest_125 : decode cX9_joinNearest 125 = .ok (.aload_n 0, 1) := by decide +kernel
theorem dX9_joinNearest_126 : decode cX9_joinNearest 126 = .ok (.getfield 33, 3) := by decide +kernel
theorem dX9_joinNearest_129 : decode cX9_joinNearest 129 = .ok (.iload_n 3, 1) := by decide +kernel
theorem dX9_joinNearest_130 : decode cX9_joinNearest 130 = .ok (.dup2, 1) := by decide +kernel
theorem dX9_joinNearest_131 : decode cX9_joinNearest 131 = .ok (.iaload, 1) := by decide +kernel
theorem dX9_joinNearest_132 : decode cX9_joinNearest 132 = .ok (.iconst 1, 1) := by decide +kernel
theorem dX9_joinNearest_133 : decode cX9_joinNearest 133 = .ok (.iadd, 1) := by decide +kernel
theorem dX9_joinNearest_134 : decode cX9_joinNearest 134 = .ok (.iastore, 1) := by decide +kernel
theorem dX9_joinNearest_135 : decode cX9_joinNearest 135 = .ok (.iload_n 1, 1) := by decide +kernel
theorem dX9_joinNearest_136 : decode cX9_joinNearest 136 = .ok (.ireturn, 1) := by decide +kernel
theorem dX9_fewestFromDraft_0 : decode cX9_fewestFromDraft 0 = .ok (.bipush 13, 2) := by decide +kernel
theorem dX9_fewestFromDraft_2 : decode cX9_fewestFromDraft 2 = .ok (.istore_n 1, 1) := by decide +kernel
theorem dX9_fewestFromDraft_3 : decode cX9_fewestFromDraft 3 = .ok (.iconst 0, 1) := by decide +kernel
theorem dX9_fewestFromDraft_4 : decode cX9_fewestFromDraft 4 = .ok (.istore_n 2, 1) := by decide +kernel
theorem dX9_fewestFromDraft_5 : decode cX9_fewestFromDraft 5 = .ok (.iload_n 2, 1) := by decide +kernel
theorem dX9_fewestFromDraft_6 : decode cX9_fewestFromDraft 6 = .ok (.aload_n 0, 1) := by decide +kernel
theorem dX9_fewestFromDraft_7 : decode cX9_fewestFromDraft 7 = .ok (.getfield 39, 3) := by decide +kernel
theorem dX9_fewestFromDraft_10 : decode cX9_fewestFromDraft 10 = .ok (.if_icmp .ge 21, 3) := by decide +kernel
theorem dX9_fewestFromDraft_13 : decode cX9_fewestFromDraft 13 = .ok (.iload_n 1, 1) := by decide +kernel
theorem dX9_fewestFromDraft_14 : decode cX9_fewestFromDraft 14 = .ok (.aload_n 0, 1) := by decide +kernel
theorem dX9_fewestFromDraft_15 : decode cX9_fewestFromDraft 15 = .ok (.bipush 8, 2) := by decide +kernel
theorem dX9_fewestFromDraft_17 : decode cX9_fewestFromDraft 17 = .ok (.iload_n 2, 1) := by decide +kernel
theorem dX9_fewestFromDraft_18 : decode cX9_fewestFromDraft 18 = .ok (.invokevirtual 70, 3) := by decide +kernel
theorem dX9_fewestFromDraft_21 : decode cX9_fewestFromDraft 21 = .ok (.invokestatic 65, 3) := by decide +kernel
theorem dX9_fewestFromDraft_24 : decode cX9_fewestFromDraft 24 = .ok (.istore_n 1, 1) := by decide +kernel
theorem dX9_fewestFromDraft_25 : decode cX9_fewestFromDraft 25 = .ok (.iinc 2 1, 3) := by decide +kernel
theorem dX9_fewestFromDraft_28 : decode cX9_fewestFromDraft 28 = .ok (.goto (-23), 3) := by decide +kernel
theorem dX9_fewestFromDraft_31 : decode cX9_fewestFromDraft 31 = .ok (.iload_n 1, 1) := by decide +kernel
theorem dX9_fewestFromDraft_32 : decode cX9_fewestFromDraft 32 = .ok (.ireturn, 1) := by decide +kernel
theorem dX9_heardWithin_0 : decode cX9_heardWithin 0 = .ok (.iconst 0, 1) := by decide +kernel
theorem dX9_heardWithin_1 : decode cX9_heardWithin 1 = .ok (.istore_n 2, 1) := by decide +kernel
theorem dX9_heardWithin_2 : decode cX9_heardWithin 2 = .ok (.iconst 0, 1) := by decide +kernel
theorem dX9_heardWithin_3 : decode cX9_heardWithin 3 = .ok (.istore_n 3, 1) := by decide +kernel
theorem dX9_heardWithin_4 : decode cX9_heardWithin 4 = .ok (.iload_n 3, 1) := by decide +kernel
theorem dX9_heardWithin_5 : decode cX9_heardWithin 5 = .ok (.aload_n 0, 1) := by decide +kernel
theorem dX9_heardWithin_6 : decode cX9_heardWithin 6 = .ok (.getfield 39, 3) := by decide +kernel
theorem dX9_heardWithin_9 : decode cX9_heardWithin 9 = .ok (.if_icmp .ge 37, 3) := by decide +kernel
theorem dX9_heardWithin_12 : decode cX9_heardWithin 12 = .ok (.iload_n 3, 1) := by decide +kernel
theorem dX9_heardWithin_13 : decode cX9_heardWithin 13 = .ok (.bipush 8, 2) := by decide +kernel
theorem dX9_heardWithin_15 : decode cX9_heardWithin 15 = .ok (.if_icmp .ge 31, 3) := by decide +kernel
theorem dX9_heardWithin_18 : decode cX9_heardWithin 18 = .ok (.aload_n 0, 1) := by decide +kernel
theorem dX9_heardWithin_19 : decode cX9_heardWithin 19 = .ok (.bipush 8, 2) := by decide +kernel
theorem dX9_heardWithin_21 : decode cX9_heardWithin 21 = .ok (.iload_n 3, 1) := by decide +kernel
theorem dX9_heardWithin_22 : decode cX9_heardWithin 22 = .ok (.invokevirtual 70, 3) := by decide +kernel
theorem dX9_heardWithin_25 : decode cX9_heardWithin 25 = .ok (.iload_n 1, 1) := by decide +kernel
theorem dX9_heardWithin_26 : decode cX9_heardWithin 26 = .ok (.if_icmp .gt 14, 3) := by decide +kernel
theorem dX9_heardWithin_29 : decode cX9_heardWithin 29 = .ok (.iload_n 2, 1) := by decide +kernel
theorem dX9_heardWithin_30 : decode cX9_heardWithin 30 = .ok (.iconst 1, 1) := by decide +kernel
theorem dX9_heardWithin_31 : decode cX9_heardWithin 31 = .ok (.aload_n 0, 1) := by decide +kernel
theorem dX9_heardWithin_32 : decode cX9_heardWithin 32 = .ok (.getfield 20, 3) := by decide +kernel
theorem dX9_heardWithin_35 : decode cX9_heardWithin 35 = .ok (.iload_n 3, 1) := by decide +kernel
theorem dX9_heardWithin_36 : decode cX9_heardWithin 36 = .ok (.iaload, 1) := by decide +kernel
theorem dX9_heardWithin_37 : decode cX9_heardWithin 37 = .ok (.ishl, 1) := by decide +kernel
theorem dX9_heardWithin_38 : decode cX9_heardWithin 38 = .ok (.ior, 1) := by decide +kernel
theorem dX9_heardWithin_39 : decode cX9_heardWithin 39 = .ok (.istore_n 2, 1) := by decide +kernel
theorem dX9_heardWithin_40 : decode cX9_heardWithin 40 = .ok (.iinc 3 1, 3) := by decide +kernel
theorem dX9_heardWithin_43 : decode cX9_heardWithin 43 = .ok (.goto (-39), 3) := by decide +kernel
theorem dX9_heardWithin_46 : decode cX9_heardWithin 46 = .ok (.iload_n 2, 1) := by decide +kernel
theorem dX9_heardWithin_47 : decode cX9_heardWithin 47 = .ok (.ireturn, 1) := by decide +kernel
theorem dX10_init_0 : decode cX10_init 0 = .ok (.aload_n 0, 1) := by decide +kernel
theorem dX10_init_1 : decode cX10_init 1 = .ok (.invokespecial 3, 3) := by decide +kernel
theorem dX10_init_4 : decode cX10_init 4 = .ok (.aload_n 0, 1) := by decide +kernel
theorem dX10_init_5 : decode cX10_init 5 = .ok (.iconst 4, 1) := by decide +kernel
theorem dX10_init_6 : decode cX10_init 6 = .ok (.putfield 9, 3) := by decide +kernel
theorem dX10_init_9 : decode cX10_init 9 = .ok (.aload_n 0, 1) := by decide +kernel
theorem dX10_init_10 : decode cX10_init 10 = .ok (.bipush 8, 2) := by decide +kernel
theorem dX10_init_12 : decode cX10_init 12 = .ok (.newarray .int, 2) := by decide +kernel
theorem dX10_init_14 : decode cX10_init 14 = .ok (.putfield 15, 3) := by decide +kernel
theorem dX10_init_17 : decode cX10_init 17 = .ok (.aload_n 0, 1) := by decide +kernel
theorem dX10_init_18 : decode cX10_init 18 = .ok (.bipush 8, 2) := by decide +kernel
theorem dX10_init_20 : decode cX10_init 20 = .ok (.newarray .int, 2) := by decide +kernel
theorem dX10_init_22 : decode cX10_init 22 = .ok (.putfield 19, 3) := by decide +kernel
theorem dX10_init_25 : decode cX10_init 25 = .ok (.return_, 1) := by decide +kernel
theorem dX10_copyFrom_0 : decode cX10_copyFrom 0 = .ok (.aload_n 0, 1) := by decide +kernel
theorem dX10_copyFrom_1 : decode cX10_copyFrom 1 = .ok (.aload_n 1, 1) := by decide +kernel
theorem dX10_copyFrom_2 : decode cX10_copyFrom 2 = .ok (.getfield 22, 3) := by decide +kernel
theorem dX10_copyFrom_5 : decode cX10_copyFrom 5 = .ok (.putfield 22, 3) := by decide +kernel
theorem dX10_copyFrom_8 : decode cX10_copyFrom 8 = .ok (.aload_n 0, 1) := by decide +kernel
theorem dX10_copyFrom_9 : decode cX10_copyFrom 9 = .ok (.aload_n 1, 1) := by decide +kernel
theorem dX10_copyFrom_10 : decode cX10_copyFrom 10 = .ok (.getfield 25, 3) := by decide +kernel
theorem dX10_copyFrom_13 : decode cX10_copyFrom 13 = .ok (.putfield 25, 3) := by decide +kernel
theorem dX10_copyFrom_16 : decode cX10_copyFrom 16 = .ok (.aload_n 0, 1) := by decide +kernel
theorem dX10_copyFrom_17 : decode cX10_copyFrom 17 = .ok (.aload_n 1, 1) := by decide +kernel
theorem dX10_copyFrom_18 : decode cX10_copyFrom 18 = .ok (.getfield 28, 3) := by decide +kernel
theorem dX10_copyFrom_21 : decode cX10_copyFrom 21 = .ok (.putfield 28, 3) := by decide +kernel
theorem dX10_copyFrom_24 : decode cX10_copyFrom 24 = .ok (.aload_n 0, 1) := by decide +kernel
theorem dX10_copyFrom_25 : decode cX10_copyFrom 25 = .ok (.aload_n 1, 1) := by decide +kernel
theorem dX10_copyFrom_26 : decode cX10_copyFrom 26 = .ok (.getfield 31, 3) := by decide +kernel
theorem dX10_copyFrom_29 : decode cX10_copyFrom 29 = .ok (.putfield 31, 3) := by decide +kernel
theorem dX10_copyFrom_32 : decode cX10_copyFrom 32 = .ok (.aload_n 0, 1) := by decide +kernel
theorem dX10_copyFrom_33 : decode cX10_copyFrom 33 = .ok (.aload_n 1, 1) := by decide +kernel
theorem dX10_copyFrom_34 : decode cX10_copyFrom 34 = .ok (.getfield 9, 3) := by decide +kernel
theorem dX10_copyFrom_37 : decode cX10_copyFrom 37 = .ok (.putfield 9, 3) := by decide +kernel
theorem dX10_copyFrom_40 : decode cX10_copyFrom 40 = .ok (.aload_n 0, 1) := by decide +kernel
theorem dX10_copyFrom_41 : decode cX10_copyFrom 41 = .ok (.aload_n 1, 1) := by decide +kernel
theorem dX10_copyFrom_42 : decode cX10_copyFrom 42 = .ok (.getfield 34, 3) := by decide +kernel
theorem dX10_copyFrom_45 : decode cX10_copyFrom 45 = .ok (.putfield 34, 3) := by decide +kernel
theorem dX10_copyFrom_48 : decode cX10_copyFrom 48 = .ok (.aload_n 0, 1) := by decide +kernel
theorem dX10_copyFrom_49 : decode cX10_copyFrom 49 = .ok (.aload_n 1, 1) := by decide +kernel
theorem dX10_copyFrom_50 : decode cX10_copyFrom 50 = .ok (.getfield 37, 3) := by decide +kernel
theorem dX10_copyFrom_53 : decode cX10_copyFrom 53 = .ok (.putfield 37, 3) := by decide +kernel
theorem dX10_copyFrom_56 : decode cX10_copyFrom 56 = .ok (.iconst 0, 1) := by decide +kernel
theorem dX10_copyFrom_57 : decode cX10_copyFrom 57 = .ok (.istore_n 2, 1) := by decide +kernel
theorem dX10_copyFrom_58 : decode cX10_copyFrom 58 = .ok (.iload_n 2, 1) := by decide +kernel
theorem dX10_copyFrom_59 : decode cX10_copyFrom 59 = .ok (.bipush 8, 2) := by decide +kernel
theorem dX10_copyFrom_61 : decode cX10_copyFrom 61 = .ok (.if_icmp .ge 33, 3) := by decide +kernel
theorem dX10_copyFrom_64 : decode cX10_copyFrom 64 = .ok (.aload_n 0, 1) := by decide +kernel
theorem dX10_copyFrom_65 : decode cX10_copyFrom 65 = .ok (.getfield 15, 3) := by decide +kernel
theorem dX10_copyFrom_68 : decode cX10_copyFrom 68 = .ok (.iload_n 2, 1) := by decide +kernel
theorem dX10_copyFrom_69 : decode cX10_copyFrom 69 = .ok (.aload_n 1, 1) := by decide +kernel
theorem dX10_copyFrom_70 : decode cX10_copyFrom 70 = .ok (.getfield 15, 3) := by decide +kernel
theorem dX10_copyFrom_73 : decode cX10_copyFrom 73 = .ok (.iload_n 2, 1) := by decide +kernel
theorem dX10_copyFrom_74 : decode cX10_copyFrom 74 = .ok (.iaload, 1) := by decide +kernel
theorem dX10_copyFrom_75 : decode cX10_copyFrom 75 = .ok (.iastore, 1) := by decide +kernel
theorem dX10_copyFrom_76 : decode cX10_copyFrom 76 = .ok (.aload_n 0, 1) := by decide +kernel
theorem dX10_copyFrom_77 : decode cX10_copyFrom 77 = .ok (.getfield 19, 3) := by decide +kernel
theorem dX10_copyFrom_80 : decode cX10_copyFrom 80 = .ok (.iload_n 2, 1) := by decide +kernel
theorem dX10_copyFrom_81 : decode cX10_copyFrom 81 = .ok (.aload_n 1, 1) := by decide +kernel
theorem dX10_copyFrom_82 : decode cX10_copyFrom 82 = .ok (.getfield 19, 3) := by decide +kernel
theorem dX10_copyFrom_85 : decode cX10_copyFrom 85 = .ok (.iload_n 2, 1) := by decide +kernel
theorem dX10_copyFrom_86 : decode cX10_copyFrom 86 = .ok (.iaload, 1) := by decide +kernel
theorem dX10_copyFrom_87 : decode cX10_copyFrom 87 = .ok (.iastore, 1) := by decide +kernel
theorem dX10_copyFrom_88 : decode cX10_copyFrom 88 = .ok (.iinc 2 1, 3) := by decide +kernel
theorem dX10_copyFrom_91 : decode cX10_copyFrom 91 = .ok (.goto (-33), 3) := by decide +kernel
theorem dX10_copyFrom_94 : decode cX10_copyFrom 94 = .ok (.return_, 1) := by decide +kernel
theorem dX10_tellSpan_0 : decode cX10_tellSpan 0 = .ok (.iload_n 1, 1) := by decide +kernel
theorem dX10_tellSpan_1 : decode cX10_tellSpan 1 = .ok (.ifCond .lt 23, 3) := by decide +kernel
theorem dX10_tellSpan_4 : decode cX10_tellSpan 4 = .ok (.iload_n 1, 1) := by decide +kernel
theorem dX10_tellSpan_5 : decode cX10_tellSpan 5 = .ok (.bipush 8, 2) := by decide +kernel
theorem dX10_tellSpan_7 : decode cX10_tellSpan 7 = .ok (.if_icmp .ge 17, 3) := by decide +kernel
theorem dX10_tellSpan_10 : decode cX10_tellSpan 10 = .ok (.aload_n 0, 1) := by decide +kernel
theorem dX10_tellSpan_11 : decode cX10_tellSpan 11 = .ok (.getfield 15, 3) := by decide +kernel
theorem dX10_tellSpan_14 : decode cX10_tellSpan 14 = .ok (.iload_n 1, 1) := by decide +kernel
theorem dX10_tellSpan_15 : decode cX10_tellSpan 15 = .ok (.iload_n 2, 1) := by decide +kernel
theorem dX10_tellSpan_16 : decode cX10_tellSpan 16 = .ok (.iastore, 1) := by decide +kernel
theorem dX10_tellSpan_17 : decode cX10_tellSpan 17 = .ok (.aload_n 0, 1) := by decide +kernel
theorem dX10_tellSpan_18 : decode cX10_tellSpan 18 = .ok (.getfield 19, 3) := by decide +kernel
theorem dX10_tellSpan_21 : decode cX10_tellSpan 21 = .ok (.iload_n 1, 1) := by decide +kernel
theorem dX10_tellSpan_22 : decode cX10_tellSpan 22 = .ok (.iload_n 3, 1) := by decide +kernel
theorem dX10_tellSpan_23 : decode cX10_tellSpan 23 = .ok (.iastore, 1) := by decide +kernel
theorem dX10_tellSpan_24 : decode cX10_tellSpan 24 = .ok (.return_, 1) := by decide +kernel
theorem dX10_wasPlayed_0 : decode cX10_wasPlayed 0 = .ok (.aload_n 0, 1) := by decide +kernel
theorem dX10_wasPlayed_1 : decode cX10_wasPlayed 1 = .ok (.getfield 37, 3) := by decide +kernel
theorem dX10_wasPlayed_4 : decode cX10_wasPlayed 4 = .ok (.iload_n 1, 1) := by decide +kernel
theorem dX10_wasPlayed_5 : decode cX10_wasPlayed 5 = .ok (.ishr, 1) := by decide +kernel
theorem dX10_wasPlayed_6 : decode cX10_wasPlayed 6 = .ok (.iconst 1, 1) := by decide +kernel
theorem dX10_wasPlayed_7 : decode cX10_wasPlayed 7 = .ok (.iand, 1) := by decide +kernel
theorem dX10_wasPlayed_8 : decode cX10_wasPlayed 8 = .ok (.ifCond .eq 7, 3) := by decide +kernel
theorem dX10_wasPlayed_11 : decode cX10_wasPlayed 11 = .ok (.iconst 1, 1) := by decide +kernel
theorem dX10_wasPlayed_12 : decode cX10_wasPlayed 12 = .ok (.goto 4, 3) := by decide +kernel
theorem dX10_wasPlayed_15 : decode cX10_wasPlayed 15 = .ok (.iconst 0, 1) := by decide +kernel
theorem dX10_wasPlayed_16 : decode cX10_wasPlayed 16 = .ok (.ireturn, 1) := by decide +kernel
theorem dX10_isOver_0 : decode cX10_isOver 0 = .ok (.iload_n 1, 1) := by decide +kernel
theorem dX10_isOver_1 : decode cX10_isOver 1 = .ok (.ifCond .lt 34, 3) := by decide +kernel
theorem dX10_isOver_4 : decode cX10_isOver 4 = .ok (.iload_n 1, 1) := by decide +kernel
theorem dX10_isOver_5 : decode cX10_isOver 5 = .ok (.bipush 8, 2) := by decide +kernel
theorem dX10_isOver_7 : decode cX10_isOver 7 = .ok (.if_icmp .ge 28, 3) := by decide +kernel
theorem dX10_isOver_10 : decode cX10_isOver 10 = .ok (.aload_n 0, 1) := by decide +kernel
theorem dX10_isOver_11 : decode cX10_isOver 11 = .ok (.iload_n 1, 1) := by decide +kernel
theorem dX10_isOver_12 : decode cX10_isOver 12 = .ok (.invokevirtual 40, 3) := by decide +kernel
theorem dX10_isOver_15 : decode cX10_isOver 15 = .ok (.ifCond .ne 20, 3) := by decide +kernel
theorem dX10_isOver_18 : decode cX10_isOver 18 = .ok (.aload_n 0, 1) := by decide +kernel
theorem dX10_isOver_19 : decode cX10_isOver 19 = .ok (.getfield 19, 3) := by decide +kernel
theorem dX10_isOver_22 : decode cX10_isOver 22 = .ok (.iload_n 1, 1) := by decide +kernel
theorem dX10_isOver_23 : decode cX10_isOver 23 = .ok (.iaload, 1) := by decide +kernel
theorem dX10_isOver_24 : decode cX10_isOver 24 = .ok (.aload_n 0, 1) := by decide +kernel
theorem dX10_isOver_25 : decode cX10_isOver 25 = .ok (.getfield 22, 3) := by decide +kernel
theorem dX10_isOver_28 : decode cX10_isOver 28 = .ok (.if_icmp .ge 7, 3) := by decide +kernel
theorem dX10_isOver_31 : decode cX10_isOver 31 = .ok (.iconst 1, 1) := by decide +kernel
theorem dX10_isOver_32 : decode cX10_isOver 32 = .ok (.goto 4, 3) := by decide +kernel
theorem dX10_isOver_35 : decode cX10_isOver 35 = .ok (.iconst 0, 1) := by decide +kernel
theorem dX10_isOver_36 : decode cX10_isOver 36 = .ok (.ireturn, 1) := by decide +kernel
theorem dX10_overBits_0 : decode cX10_overBits 0 = .ok (.iconst 0, 1) := by decide +kernel
theorem dX10_overBits_1 : decode cX10_overBits 1 = .ok (.istore_n 2, 1) := by decide +kernel
theorem dX10_overBits_2 : decode cX10_overBits 2 = .ok (.iconst 0, 1) := by decide +kernel
theorem dX10_overBits_3 : decode cX10_overBits 3 = .ok (.istore_n 3, 1) := by decide +kernel
theorem dX10_overBits_4 : decode cX10_overBits 4 = .ok (.iload_n 3, 1) := by decide +kernel
theorem dX10_overBits_5 : decode cX10_overBits 5 = .ok (.iload_n 1, 1) := by decide +kernel
theorem dX10_overBits_6 : decode cX10_overBits 6 = .ok (.if_icmp .ge 23, 3) := by decide +kernel
theorem dX10_overBits_9 : decode cX10_overBits 9 = .ok (.aload_n 0, 1) := by decide +kernel
theorem dX10_overBits_10 : decode cX10_overBits 10 = .ok (.iload_n 3, 1) := by decide +kernel
theorem dX10_overBits_11 : decode cX10_overBits 11 = .ok (.invokevirtual 44, 3) := by decide +kernel
theorem dX10_overBits_14 : decode cX10_overBits 14 = .ok (.ifCond .eq 9, 3) := by decide +kernel
theorem dX10_overBits_17 : decode cX10_overBits 17 = .ok (.iload_n 2, 1) := by decide +kernel
theorem dX10_overBits_18 : decode cX10_overBits 18 = .ok (.iconst 1, 1) := by decide +kernel
theorem dX10_overBits_19 : decode cX10_overBits 19 = .ok (.iload_n 3, 1) := by decide +kernel
theorem dX10_overBits_20 : decode cX10_overBits 20 = .ok (.ishl, 1) := by decide +kernel
theorem dX10_overBits_21 : decode cX10_overBits 21 = .ok (.ior, 1) := by decide +kernel
theorem dX10_overBits_22 : decode cX10_overBits 22 = .ok (.istore_n 2, 1) := by decide +kernel
theorem dX10_overBits_23 : decode cX10_overBits 23 = .ok (.iinc 3 1, 3) := by decide +kernel
theorem dX10_overBits_26 : decode cX10_overBits 26 = .ok (.goto (-22), 3) := by decide +kernel
theorem dX10_overBits_29 : decode cX10_overBits 29 = .ok (.iload_n 2, 1) := by decide +kernel
theorem dX10_overBits_30 : decode cX10_overBits 30 = .ok (.ireturn, 1) := by decide +kernel
theorem dX10_openAt_0 : decode cX10_openAt 0 = .ok (.iconst 0, 1) := by decide +kernel
theorem dX10_openAt_1 : decode cX10_openAt 1 = .ok (.istore 4, 2) := by decide +kernel
theorem dX10_openAt_3 : decode cX10_openAt 3 = .ok (.iconst 0, 1) := by decide +kernel
theorem dX10_openAt_4 : decode cX10_openAt 4 = .ok (.istore 5, 2) := by decide +kernel
theorem dX10_openAt_6 : decode cX10_openAt 6 = .ok (.iload 5, 2) := by decide +kernel
theorem dX10_openAt_8 : decode cX10_openAt 8 = .ok (.aload_n 1, 1) := by decide +kernel
theorem dX10_openAt_9 : decode cX10_openAt 9 = .ok (.getfield 47, 3) := by decide +kernel
theorem dX10_openAt_12 : decode cX10_openAt 12 = .ok (.if_icmp .ge 79, 3) := by decide +kernel
theorem dX10_openAt_15 : decode cX10_openAt 15 = .ok (.iload 5, 2) := by decide +kernel
theorem dX10_openAt_17 : decode cX10_openAt 17 = .ok (.bipush 8, 2) := by decide +kernel
theorem dX10_openAt_19 : decode cX10_openAt 19 = .ok (.if_icmp .ge 72, 3) := by decide +kernel
theorem dX10_openAt_22 : decode cX10_openAt 22 = .ok (.aload_n 0, 1) := by decide +kernel
theorem dX10_openAt_23 : decode cX10_openAt 23 = .ok (.getfield 15, 3) := by decide +kernel
theorem dX10_openAt_26 : decode cX10_openAt 26 = .ok (.iload 5, 2) := by decide +kernel
theorem dX10_openAt_28 : decode cX10_openAt 28 = .ok (.iaload, 1) := by decide +kernel
theorem dX10_openAt_29 : decode cX10_openAt 29 = .ok (.iload_n 3, 1) := by decide +kernel
theorem dX10_openAt_30 : decode cX10_openAt 30 = .ok (.if_icmp .gt 18, 3) := by decide +kernel
theorem dX10_openAt_33 : decode cX10_openAt 33 = .ok (.iload_n 3, 1) := by decide +kernel
theorem dX10_openAt_34 : decode cX10_openAt 34 = .ok (.aload_n 0, 1) := by decide +kernel
theorem dX10_openAt_35 : decode cX10_openAt 35 = .ok (.getfield 19, 3) := by decide +kernel
theorem dX10_openAt_38 : decode cX10_openAt 38 = .ok (.iload 5, 2) := by decide +kernel
theorem dX10_openAt_40 : decode cX10_openAt 40 = .ok (.iaload, 1) := by decide +kernel
theorem dX10_openAt_41 : decode cX10_openAt 41 = .ok (.if_icmp .gt 7, 3) := by decide +kernel
theorem dX10_openAt_44 : decode cX10_openAt 44 = .ok (.iconst 1, 1) := by decide +kernel
theorem dX10_openAt_45 : decode cX10_openAt 45 = .ok (.goto 4, 3) := by decide +kernel
theorem dX10_openAt_48 : decode cX10_openAt 48 = .ok (.iconst 0, 1) := by decide +kernel
theorem dX10_openAt_49 : decode cX10_openAt 49 = .ok (.istore 6, 2) := by decide +kernel
theorem dX10_openAt_51 : decode cX10_openAt 51 = .ok (.iload 6, 2) := by decide +kernel
theorem dX10_openAt_53 : decode cX10_openAt 53 = .ok (.ifCond .eq 32, 3) := by decide +kernel
theorem dX10_openAt_56 : decode cX10_openAt 56 = .ok (.aload_n 1, 1) := by decide +kernel
theorem dX10_openAt_57 : decode cX10_openAt 57 = .ok (.getfield 52, 3) := by decide +kernel
theorem dX10_openAt_60 : decode cX10_openAt 60 = .ok (.iload 5, 2) := by decide +kernel
theorem dX10_openAt_62 : decode cX10_openAt 62 = .ok (.iaload, 1) := by decide +kernel
theorem dX10_openAt_63 : decode cX10_openAt 63 = .ok (.iload_n 2, 1) := by decide +kernel
theorem dX10_openAt_64 : decode cX10_openAt 64 = .ok (.if_icmp .ne 21, 3) := by decide +kernel
theorem dX10_openAt_67 : decode cX10_openAt 67 = .ok (.aload_n 0, 1) := by decide +kernel
theorem dX10_openAt_68 : decode cX10_openAt 68 = .ok (.iload 5, 2) := by decide +kernel
theorem dX10_openAt_70 : decode cX10_openAt 70 = .ok (.invokevirtual 40, 3) := by decide +kernel
theorem dX10_openAt_73 : decode cX10_openAt 73 = .ok (.ifCond .ne 12, 3) := by decide +kernel
theorem dX10_openAt_76 : decode cX10_openAt 76 = .ok (.iload 4, 2) := by decide +kernel
theorem dX10_openAt_78 : decode cX10_openAt 78 = .ok (.iconst 1, 1) := by decide +kernel
theorem dX10_openAt_79 : decode cX10_openAt 79 = .ok (.iload 5, 2) := by decide +kernel
theorem dX10_openAt_81 : decode cX10_openAt 81 = .ok (.ishl, 1) := by decide +kernel
theorem dX10_openAt_82 : decode cX10_openAt 82 = .ok (.ior, 1) := by decide +kernel
theorem dX10_openAt_83 : decode cX10_openAt 83 = .ok (.istore 4, 2) := by decide +kernel
theorem dX10_openAt_85 : decode cX10_openAt 85 = .ok (.iinc 5 1, 3) := by decide +kernel
theorem dX10_openAt_88 : decode cX10_openAt 88 = .ok (.goto (-82), 3) := by decide +kernel
theorem dX10_openAt_91 : decode cX10_openAt 91 = .ok (.iload 4, 2) := by decide +kernel
theorem dX10_openAt_93 : decode cX10_openAt 93 = .ok (.ireturn, 1) := by decide +kernel
theorem dX10_canMend_0 : decode cX10_canMend 0 = .ok (.aload_n 0, 1) := by decide +kernel
theorem dX10_canMend_1 : decode cX10_canMend 1 = .ok (.getfield 31, 3) := by decide +kernel
theorem dX10_canMend_4 : decode cX10_canMend 4 = .ok (.iconst 4, 1) := by decide +kernel
theorem dX10_canMend_5 : decode cX10_canMend 5 = .ok (.aload_n 0, 1) := by decide +kernel
theorem dX10_canMend_6 : decode cX10_canMend 6 = .ok (.getfield 9, 3) := by decide +kernel
theorem dX10_canMend_9 : decode cX10_canMend 9 = .ok (.isub, 1) := by decide +kernel
theorem dX10_canMend_10 : decode cX10_canMend 10 = .ok (.if_icmp .lt 7, 3) := by decide +kernel
theorem dX10_canMend_13 : decode cX10_canMend 13 = .ok (.iconst 1, 1) := by decide +kernel
theorem dX10_canMend_14 : decode cX10_canMend 14 = .ok (.goto 4, 3) := by decide +kernel
theorem dX10_canMend_17 : decode cX10_canMend 17 = .ok (.iconst 0, 1) := by decide +kernel
theorem dX10_canMend_18 : decode cX10_canMend 18 = .ok (.ireturn, 1) := by decide +kernel
theorem dX10_buyStrings_0 : decode cX10_buyStrings 0 = .ok (.iconst 4, 1) := by decide +kernel
theorem dX10_buyStrings_1 : decode cX10_buyStrings 1 = .ok (.aload_n 0, 1) := by decide +kernel
theorem dX10_buyStrings_2 : decode cX10_buyStrings 2 = .ok (.getfield 9, 3) := by decide +kernel
theorem dX10_buyStrings_5 : decode cX10_buyStrings 5 = .ok (.isub, 1) := by decide +kernel
theorem dX10_buyStrings_6 : decode cX10_buyStrings 6 = .ok (.istore_n 1, 1) := by decide +kernel
theorem dX10_buyStrings_7 : decode cX10_buyStrings 7 = .ok (.aload_n 0, 1) := by decide +kernel
theorem dX10_buyStrings_8 : decode cX10_buyStrings 8 = .ok (.dup, 1) := by decide +kernel
theorem dX10_buyStrings_9 : decode cX10_buyStrings 9 = .ok (.getfield 31, 3) := by decide +kernel
theorem dX10_buyStrings_12 : decode cX10_buyStrings 12 = .ok (.iload_n 1, 1) := by decide +kernel
theorem dX10_buyStrings_13 : decode cX10_buyStrings 13 = .ok (.isub, 1) := by decide +kernel
theorem dX10_buyStrings_14 : decode cX10_buyStrings 14 = .ok (.putfield 31, 3) := by decide +kernel
theorem dX10_buyStrings_17 : decode cX10_buyStrings 17 = .ok (.aload_n 0, 1) := by decide +kernel
theorem dX10_buyStrings_18 : decode cX10_buyStrings 18 = .ok (.iconst 4, 1) := by decide +kernel
theorem dX10_buyStrings_19 : decode cX10_buyStrings 19 = .ok (.putfield 9, 3) := by decide +kernel
theorem dX10_buyStrings_22 : decode cX10_buyStrings 22 = .ok (.iload_n 1, 1) := by decide +kernel
theorem dX10_buyStrings_23 : decode cX10_buyStrings 23 = .ok (.ireturn, 1) := by decide +kernel
theorem dX10_pass_0 : decode cX10_pass 0 = .ok (.iconst 0, 1) := by decide +kernel
theorem dX10_pass_1 : decode cX10_pass 1 = .ok (.aload_n 1, 1) := by decide +kernel
theorem dX10_pass_2 : decode cX10_pass 2 = .ok (.aload_n 0, 1) := by decide +kernel
theorem dX10_pass_3 : decode cX10_pass 3 = .ok (.getfield 25, 3) := by decide +kernel
theorem dX10_pass_6 : decode cX10_pass 6 = .ok (.iload 5, 2) := by decide +kernel
theorem dX10_pass_8 : decode cX10_pass 8 = .ok (.invokevirtual 54, 3) := by decide +kernel
theorem dX10_pass_11 : decode cX10_pass 11 = .ok (.invokestatic 60, 3) := by decide +kernel
theorem dX10_pass_14 : decode cX10_pass 14 = .ok (.istore 6, 2) := by decide +kernel
theorem dX10_pass_16 : decode cX10_pass 16 = .ok (.aload_n 0, 1) := by decide +kernel
theorem dX10_pass_17 : decode cX10_pass 17 = .ok (.iload 5, 2) := by decide +kernel
theorem dX10_pass_19 : decode cX10_pass 19 = .ok (.putfield 25, 3) := by decide +kernel
theorem dX10_pass_22 : decode cX10_pass 22 = .ok (.aload_n 0, 1) := by decide +kernel
theorem dX10_pass_23 : decode cX10_pass 23 = .ok (.getfield 9, 3) := by decide +kernel
theorem dX10_pass_26 : decode cX10_pass 26 = .ok (.ifCond .le 18, 3) := by decide +kernel
theorem dX10_pass_29 : decode cX10_pass 29 = .ok (.aload_n 2, 1) := by decide +kernel
theorem dX10_pass_30 : decode cX10_pass 30 = .ok (.aload_n 0, 1) := by decide +kernel
theorem dX10_pass_31 : decode cX10_pass 31 = .ok (.getfield 22, 3) := by decide +kernel
theorem dX10_pass_34 : decode cX10_pass 34 = .ok (.invokevirtual 65, 3) := by decide +kernel
theorem dX10_pass_37 : decode cX10_pass 37 = .ok (.ifCond .ne 7, 3) := by decide +kernel
theorem dX10_pass_40 : decode cX10_pass 40 = .ok (.iconst 1, 1) := by decide +kernel
theorem dX10_pass_41 : decode cX10_pass 41 = .ok (.goto 4, 3) := by decide +kernel
theorem dX10_pass_44 : decode cX10_pass 44 = .ok (.iconst 0, 1) := by decide +kernel
theorem dX10_pass_45 : decode cX10_pass 45 = .ok (.istore 7, 2) := by decide +kernel
theorem dX10_pass_47 : decode cX10_pass 47 = .ok (.iload 7, 2) := by decide +kernel
theorem dX10_pass_49 : decode cX10_pass 49 = .ok (.ifCond .eq 17, 3) := by decide +kernel
theorem dX10_pass_52 : decode cX10_pass 52 = .ok (.aload_n 0, 1) := by decide +kernel
theorem dX10_pass_53 : decode cX10_pass 53 = .ok (.aload_n 3, 1) := by decide +kernel
theorem dX10_pass_54 : decode cX10_pass 54 = .ok (.iload 5, 2) := by decide +kernel
theorem dX10_pass_56 : decode cX10_pass 56 = .ok (.aload_n 0, 1) := by decide +kernel
theorem dX10_pass_57 : decode cX10_pass 57 = .ok (.getfield 22, 3) := by decide +kernel
theorem dX10_pass_60 : decode cX10_pass 60 = .ok (.invokevirtual 70, 3) := by decide +kernel
theorem dX10_pass_63 : decode cX10_pass 63 = .ok (.goto 4, 3) := by decide +kernel
theorem dX10_pass_66 : decode cX10_pass 66 = .ok (.iconst 0, 1) := by decide +kernel
theorem dX10_pass_67 : decode cX10_pass 67 = .ok (.istore 8, 2) := by decide +kernel
theorem dX10_pass_69 : decode cX10_pass 69 = .ok (.aload_n 3, 1) := by decide +kernel
theorem dX10_pass_70 : decode cX10_pass 70 = .ok (.iload 8, 2) := by decide +kernel
theorem dX10_pass_72 : decode cX10_pass 72 = .ok (.invokevirtual 74, 3) := by decide +kernel
theorem dX10_pass_75 : decode cX10_pass 75 = .ok (.istore 9, 2) := by decide +kernel
theorem dX10_pass_77 : decode cX10_pass 77 = .ok (.aload_n 0, 1) := by decide +kernel
theorem dX10_pass_78 : decode cX10_pass 78 = .ok (.aload_n 3, 1) := by decide +kernel
theorem dX10_pass_79 : decode cX10_pass 79 = .ok (.iload 8, 2) := by decide +kernel
theorem dX10_pass_81 : decode cX10_pass 81 = .ok (.aload_n 0, 1) := by decide +kernel
theorem dX10_pass_82 : decode cX10_pass 82 = .ok (.getfield 28, 3) := by decide +kernel
theorem dX10_pass_85 : decode cX10_pass 85 = .ok (.bipush 50, 2) := by decide +kernel
theorem dX10_pass_87 : decode cX10_pass 87 = .ok (.if_icmp .lt 7, 3) := by decide +kernel
theorem dX10_pass_90 : decode cX10_pass 90 = .ok (.iconst 2, 1) := by decide +kernel
theorem dX10_pass_91 : decode cX10_pass 91 = .ok (.goto 4, 3) := by decide +kernel
theorem dX10_pass_94 : decode cX10_pass 94 = .ok (.iconst 1, 1) := by decide +kernel
theorem dX10_pass_95 : decode cX10_pass 95 = .ok (.invokevirtual 78, 3) := by decide +kernel
theorem dX10_pass_98 : decode cX10_pass 98 = .ok (.putfield 81, 3) := by decide +kernel
theorem dX10_pass_101 : decode cX10_pass 101 = .ok (.aload_n 0, 1) := by decide +kernel
theorem dX10_pass_102 : decode cX10_pass 102 = .ok (.getfield 9, 3) := by decide +kernel
theorem dX10_pass_105 : decode cX10_pass 105 = .ok (.istore 10, 2) := by decide +kernel
theorem dX10_pass_107 : decode cX10_pass 107 = .ok (.aload_n 0, 1) := by decide +kernel
theorem dX10_pass_108 : decode cX10_pass 108 = .ok (.dup, 1) := by decide +kernel
theorem dX10_pass_109 : decode cX10_pass 109 = .ok (.getfield 31, 3) := by decide +kernel
theorem dX10_pass_112 : decode cX10_pass 112 = .ok (.aload_n 0, 1) := by decide +kernel
theorem dX10_pass_113 : decode cX10_pass 113 = .ok (.getfield 81, 3) := by decide +kernel
theorem dX10_pass_116 : decode cX10_pass 116 = .ok (.iadd, 1) := by decide +kernel
theorem dX10_pass_117 : decode cX10_pass 117 = .ok (.putfield 31, 3) := by decide +kernel
theorem dX10_pass_120 : decode cX10_pass 120 = .ok (.aload_n 0, 1) := by decide +kernel
theorem dX10_pass_121 : decode cX10_pass 121 = .ok (.dup, 1) := by decide +kernel
theorem dX10_pass_122 : decode cX10_pass 122 = .ok (.getfield 37, 3) := by decide +kernel
theorem dX10_pass_125 : decode cX10_pass 125 = .ok (.iload 8, 2) := by decide +kernel
theorem dX10_pass_127 : decode cX10_pass 127 = .ok (.ior, 1) := by decide +kernel
theorem dX10_pass_128 : decode cX10_pass 128 = .ok (.putfield 37, 3) := by decide +kernel
theorem dX10_pass_131 : decode cX10_pass 131 = .ok (.aload_n 0, 1) := by decide +kernel
theorem dX10_pass_132 : decode cX10_pass 132 = .ok (.iload 9, 2) := by decide +kernel
theorem dX10_pass_134 : decode cX10_pass 134 = .ok (.invokevirtual 84, 3) := by decide +kernel
theorem dX10_pass_137 : decode cX10_pass 137 = .ok (.iload 6, 2) := by decide +kernel
theorem dX10_pass_139 : decode cX10_pass 139 = .ok (.ifCond .ne 21, 3) := by decide +kernel
theorem dX10_pass_142 : decode cX10_pass 142 = .ok (.iload 8, 2) := by decide +kernel
theorem dX10_pass_144 : decode cX10_pass 144 = .ok (.ifCond .ne 16, 3) := by decide +kernel
theorem dX10_pass_147 : decode cX10_pass 147 = .ok (.aload_n 0, 1) := by decide +kernel
theorem dX10_pass_148 : decode cX10_pass 148 = .ok (.aload_n 0, 1) := by decide +kernel
theorem dX10_pass_149 : decode cX10_pass 149 = .ok (.getfield 28, 3) := by decide +kernel
theorem dX10_pass_152 : decode cX10_pass 152 = .ok (.iconst 2, 1) := by decide +kernel
theorem dX10_pass_153 : decode cX10_pass 153 = .ok (.idiv, 1) := by decide +kernel
theorem dX10_pass_154 : decode cX10_pass 154 = .ok (.putfield 28, 3) := by decide +kernel
theorem dX10_pass_157 : decode cX10_pass 157 = .ok (.goto 64, 3) := by decide +kernel
theorem dX10_pass_160 : decode cX10_pass 160 = .ok (.aload 4, 2) := by decide +kernel
theorem dX10_pass_162 : decode cX10_pass 162 = .ok (.iload 6, 2) := by decide +kernel
theorem dX10_pass_164 : decode cX10_pass 164 = .ok (.iload 9, 2) := by decide +kernel
theorem dX10_pass_166 : decode cX10_pass 166 = .ok (.aload_n 1, 1) := by decide +kernel
theorem dX10_pass_167 : decode cX10_pass 167 = .ok (.iload 5, 2) := by decide +kernel
theorem dX10_pass_169 : decode cX10_pass 169 = .ok (.invokevirtual 88, 3) := by decide +kernel
theorem dX10_pass_172 : decode cX10_pass 172 = .ok (.invokevirtual 91, 3) := by decide +kernel
theorem dX10_pass_175 : decode cX10_pass 175 = .ok (.aload 4, 2) := by decide +kernel
theorem dX10_pass_177 : decode cX10_pass 177 = .ok (.aload_n 0, 1) := by decide +kernel
theorem dX10_pass_178 : decode cX10_pass 178 = .ok (.getfield 28, 3) := by decide +kernel
theorem dX10_pass_181 : decode cX10_pass 181 = .ok (.aload_n 0, 1) := by decide +kernel
theorem dX10_pass_182 : decode cX10_pass 182 = .ok (.getfield 22, 3) := by decide +kernel
theorem dX10_pass_185 : decode cX10_pass 185 = .ok (.iload 10, 2) := by decide +kernel
theorem dX10_pass_187 : decode cX10_pass 187 = .ok (.invokevirtual 97, 3) := by decide +kernel
theorem dX10_pass_190 : decode cX10_pass 190 = .ok (.aload_n 0, 1) := by decide +kernel
theorem dX10_pass_191 : decode cX10_pass 191 = .ok (.getfield 28, 3) := by decide +kernel
theorem dX10_pass_194 : decode cX10_pass 194 = .ok (.i2l, 1) := by decide +kernel
theorem dX10_pass_195 : decode cX10_pass 195 = .ok (.aload 4, 2) := by decide +kernel
theorem dX10_pass_197 : decode cX10_pass 197 = .ok (.invokevirtual 100, 3) := by decide +kernel
theorem dX10_pass_200 : decode cX10_pass 200 = .ok (.i2l, 1) := by decide +kernel
theorem dX10_pass_201 : decode cX10_pass 201 = .ok (.ladd, 1) := by decide +kernel
theorem dX10_pass_202 : decode cX10_pass 202 = .ok (.lstore 11, 2) := by decide +kernel
theorem dX10_pass_204 : decode cX10_pass 204 = .ok (.aload_n 0, 1) := by decide +kernel
theorem dX10_pass_205 : decode cX10_pass 205 = .ok (.lconst 0, 1) := by decide +kernel
theorem dX10_pass_206 : decode cX10_pass 206 = .ok (.ldc2_w 104, 3) := by decide +kernel
theorem dX10_pass_209 : decode cX10_pass 209 = .ok (.lload 11, 2) := by decide +kernel
theorem dX10_pass_211 : decode cX10_pass 211 = .ok (.invokestatic 106, 3) := by decide +kernel
theorem dX10_pass_214 : decode cX10_pass 214 = .ok (.invokestatic 110, 3) := by decide +kernel
theorem dX10_pass_217 : decode cX10_pass 217 = .ok (.l2i, 1) := by decide +kernel
theorem dX10_pass_218 : decode cX10_pass 218 = .ok (.putfield 28, 3) := by decide +kernel
theorem dX10_pass_221 : decode cX10_pass 221 = .ok (.aload_n 0, 1) := by decide +kernel
theorem dX10_pass_222 : decode cX10_pass 222 = .ok (.dup, 1) := by decide +kernel
theorem dX10_pass_223 : decode cX10_pass 223 = .ok (.getfield 22, 3) := by decide +kernel
theorem dX10_pass_226 : decode cX10_pass 226 = .ok (.iconst 1, 1) := by decide +kernel
theorem dX10_pass_227 : decode cX10_pass 227 = .ok (.iadd, 1) := by decide +kernel
theorem dX10_pass_228 : decode cX10_pass 228 = .ok (.putfield 22, 3) := by decide +kernel
theorem dX10_pass_231 : decode cX10_pass 231 = .ok (.iload 8, 2) := by decide +kernel
theorem dX10_pass_233 : decode cX10_pass 233 = .ok (.invokestatic 112, 3) := by decide +kernel
theorem dX10_pass_236 : decode cX10_pass 236 = .ok (.ireturn, 1) := by decide +kernel
theorem dX10_wearStrings_0 : decode cX10_wearStrings 0 = .ok (.aload_n 0, 1) := by decide +kernel
theorem dX10_wearStrings_1 : decode cX10_wearStrings 1 = .ok (.getfield 34, 3) := by decide +kernel
theorem dX10_wearStrings_4 : decode cX10_wearStrings 4 = .ok (.iload_n 1, 1) := by decide +kernel
theorem dX10_wearStrings_5 : decode cX10_wearStrings 5 = .ok (.iadd, 1) := by decide +kernel
theorem dX10_wearStrings_6 : decode cX10_wearStrings 6 = .ok (.bipush 20, 2) := by decide +kernel
theorem dX10_wearStrings_8 : decode cX10_wearStrings 8 = .ok (.idiv, 1) := by decide +kernel
theorem dX10_wearStrings_9 : decode cX10_wearStrings 9 = .ok (.aload_n 0, 1) := by decide +kernel
theorem dX10_wearStrings_10 : decode cX10_wearStrings 10 = .ok (.getfield 34, 3) := by decide +kernel
theorem dX10_wearStrings_13 : decode cX10_wearStrings 13 = .ok (.bipush 20, 2) := by decide +kernel
theorem dX10_wearStrings_15 : decode cX10_wearStrings 15 = .ok (.idiv, 1) := by decide +kernel
theorem dX10_wearStrings_16 : decode cX10_wearStrings 16 = .ok (.isub, 1) := by decide +kernel
theorem dX10_wearStrings_17 : decode cX10_wearStrings 17 = .ok (.istore_n 2, 1) := by decide +kernel
theorem dX10_wearStrings_18 : decode cX10_wearStrings 18 = .ok (.aload_n 0, 1) := by decide +kernel
theorem dX10_wearStrings_19 : decode cX10_wearStrings 19 = .ok (.dup, 1) := by decide +kernel
theorem dX10_wearStrings_20 : decode cX10_wearStrings 20 = .ok (.getfield 34, 3) := by decide +kernel
theorem dX10_wearStrings_23 : decode cX10_wearStrings 23 = .ok (.iload_n 1, 1) := by decide +kernel
theorem dX10_wearStrings_24 : decode cX10_wearStrings 24 = .ok (.iadd, 1) := by decide +kernel
theorem dX10_wearStrings_25 : decode cX10_wearStrings 25 = .ok (.putfield 34, 3) := by decide +kernel
theorem dX10_wearStrings_28 : decode cX10_wearStrings 28 = .ok (.aload_n 0, 1) := by decide +kernel
theorem dX10_wearStrings_29 : decode cX10_wearStrings 29 = .ok (.iconst 0, 1) := by decide +kernel
theorem dX10_wearStrings_30 : decode cX10_wearStrings 30 = .ok (.aload_n 0, 1) := by decide +kernel
theorem dX10_wearStrings_31 : decode cX10_wearStrings 31 = .ok (.getfield 9, 3) := by decide +kernel
theorem dX10_wearStrings_34 : decode cX10_wearStrings 34 = .ok (.iload_n 2, 1) := by decide +kernel
theorem dX10_wearStrings_35 : decode cX10_wearStrings 35 = .ok (.isub, 1) := by decide +kernel
theorem dX10_wearStrings_36 : decode cX10_wearStrings 36 = .ok (.invokestatic 60, 3) := by decide +kernel
theorem dX10_wearStrings_39 : decode cX10_wearStrings 39 = .ok (.putfield 9, 3) := by decide +kernel
theorem dX10_wearStrings_42 : decode cX10_wearStrings 42 = .ok (.return_, 1) := by decide +kernel
