theorem dX11_init_0 : decode cX11_init 0 = .ok (.aload_n 0, 1) := by decide +kernel
theorem dX11_init_1 : decode cX11_init 1 = .ok (.invokespecial 1, 3) := by decide +kernel
theorem dX11_init_4 : decode cX11_init 4 = .ok (.aload_n 0, 1) := by decide +kernel
theorem dX11_init_5 : decode cX11_init 5 = .ok (.new 7, 3) := by decide +kernel
theorem dX11_init_8 : decode cX11_init 8 = .ok (.dup, 1) := by decide +kernel
theorem dX11_init_9 : decode cX11_init 9 = .ok (.invokespecial 9, 3) := by decide +kernel
theorem dX11_init_12 : decode cX11_init 12 = .ok (.putfield 10, 3) := by decide +kernel
theorem dX11_init_15 : decode cX11_init 15 = .ok (.aload_n 0, 1) := by decide +kernel
theorem dX11_init_16 : decode cX11_init 16 = .ok (.new 16, 3) := by decide +kernel
theorem dX11_init_19 : decode cX11_init 19 = .ok (.dup, 1) := by decide +kernel
theorem dX11_init_20 : decode cX11_init 20 = .ok (.invokespecial 18, 3) := by decide +kernel
theorem dX11_init_23 : decode cX11_init 23 = .ok (.putfield 19, 3) := by decide +kernel
theorem dX11_init_26 : decode cX11_init 26 = .ok (.aload_n 0, 1) := by decide +kernel
theorem dX11_init_27 : decode cX11_init 27 = .ok (.new 23, 3) := by decide +kernel
theorem dX11_init_30 : decode cX11_init 30 = .ok (.dup, 1) := by decide +kernel
theorem dX11_init_31 : decode cX11_init 31 = .ok (.invokespecial 25, 3) := by decide +kernel
theorem dX11_init_34 : decode cX11_init 34 = .ok (.putfield 26, 3) := by decide +kernel
theorem dX11_init_37 : decode cX11_init 37 = .ok (.aload_n 0, 1) := by decide +kernel
theorem dX11_init_38 : decode cX11_init 38 = .ok (.new 30, 3) := by decide +kernel
theorem dX11_init_41 : decode cX11_init 41 = .ok (.dup, 1) := by decide +kernel
theorem dX11_init_42 : decode cX11_init 42 = .ok (.invokespecial 32, 3) := by decide +kernel
theorem dX11_init_45 : decode cX11_init 45 = .ok (.putfield 33, 3) := by decide +kernel
theorem dX11_init_48 : decode cX11_init 48 = .ok (.aload_n 0, 1) := by decide +kernel
theorem dX11_init_49 : decode cX11_init 49 = .ok (.new 37, 3) := by decide +kernel
theorem dX11_init_52 : decode cX11_init 52 = .ok (.dup, 1) := by decide +kernel
theorem dX11_init_53 : decode cX11_init 53 = .ok (.invokespecial 39, 3) := by decide +kernel
theorem dX11_init_56 : decode cX11_init 56 = .ok (.putfield 40, 3) := by decide +kernel
theorem dX11_init_59 : decode cX11_init 59 = .ok (.aload_n 0, 1) := by decide +kernel
theorem dX11_init_60 : decode cX11_init 60 = .ok (.new 44, 3) := by decide +kernel
theorem dX11_init_63 : decode cX11_init 63 = .ok (.dup, 1) := by decide +kernel
theorem dX11_init_64 : decode cX11_init 64 = .ok (.invokespecial 46, 3) := by decide +kernel
theorem dX11_init_67 : decode cX11_init 67 = .ok (.putfield 47, 3) := by decide +kernel
theorem dX11_init_70 : decode cX11_init 70 = .ok (.aload_n 0, 1) := by decide +kernel
theorem dX11_init_71 : decode cX11_init 71 = .ok (.new 51, 3) := by decide +kernel
theorem dX11_init_74 : decode cX11_init 74 = .ok (.dup, 1) := by decide +kernel
theorem dX11_init_75 : decode cX11_init 75 = .ok (.invokespecial 53, 3) := by decide +kernel
theorem dX11_init_78 : decode cX11_init 78 = .ok (.putfield 54, 3) := by decide +kernel
theorem dX11_init_81 : decode cX11_init 81 = .ok (.aload_n 0, 1) := by decide +kernel
theorem dX11_init_82 : decode cX11_init 82 = .ok (.new 51, 3) := by decide +kernel
theorem dX11_init_85 : decode cX11_init 85 = .ok (.dup, 1) := by decide +kernel
theorem dX11_init_86 : decode cX11_init 86 = .ok (.invokespecial 53, 3) := by decide +kernel
theorem dX11_init_89 : decode cX11_init 89 = .ok (.putfield 58, 3) := by decide +kernel
theorem dX11_init_92 : decode cX11_init 92 = .ok (.aload_n 0, 1) := by decide +kernel
theorem dX11_init_93 : decode cX11_init 93 = .ok (.new 61, 3) := by decide +kernel
theorem dX11_init_96 : decode cX11_init 96 = .ok (.dup, 1) := by decide +kernel
theorem dX11_init_97 : decode cX11_init 97 = .ok (.invokespecial 63, 3) := by decide +kernel
theorem dX11_init_100 : decode cX11_init 100 = .ok (.putfield 64, 3) := by decide +kernel
theorem dX11_init_103 : decode cX11_init 103 = .ok (.aload_n 0, 1) := by decide +kernel
theorem dX11_init_104 : decode cX11_init 104 = .ok (.new 68, 3) := by decide +kernel
theorem dX11_init_107 : decode cX11_init 107 = .ok (.dup, 1) := by decide +kernel
theorem dX11_init_108 : decode cX11_init 108 = .ok (.invokespecial 70, 3) := by decide +kernel
theorem dX11_init_111 : decode cX11_init 111 = .ok (.putfield 71, 3) := by decide +kernel
theorem dX11_init_114 : decode cX11_init 114 = .ok (.aload_n 0, 1) := by decide +kernel
theorem dX11_init_115 : decode cX11_init 115 = .ok (.new 75, 3) := by decide +kernel
theorem dX11_init_118 : decode cX11_init 118 = .ok (.dup, 1) := by decide +kernel
theorem dX11_init_119 : decode cX11_init 119 = .ok (.invokespecial 77, 3) := by decide +kernel
theorem dX11_init_122 : decode cX11_init 122 = .ok (.putfield 78, 3) := by decide +kernel
theorem dX11_init_125 : decode cX11_init 125 = .ok (.aload_n 0, 1) := by decide +kernel
theorem dX11_init_126 : decode cX11_init 126 = .ok (.new 82, 3) := by decide +kernel
theorem dX11_init_129 : decode cX11_init 129 = .ok (.dup, 1) := by decide +kernel
theorem dX11_init_130 : decode cX11_init 130 = .ok (.invokespecial 84, 3) := by decide +kernel
theorem dX11_init_133 : decode cX11_init 133 = .ok (.putfield 85, 3) := by decide +kernel
theorem dX11_init_136 : decode cX11_init 136 = .ok (.return_, 1) := by decide +kernel
theorem dX11_sign_0 : decode cX11_sign 0 = .ok (.aload_n 0, 1) := by decide +kernel
theorem dX11_sign_1 : decode cX11_sign 1 = .ok (.getfield 10, 3) := by decide +kernel
theorem dX11_sign_4 : decode cX11_sign 4 = .ok (.iload_n 1, 1) := by decide +kernel
theorem dX11_sign_5 : decode cX11_sign 5 = .ok (.invokevirtual 89, 3) := by decide +kernel
theorem dX11_sign_8 : decode cX11_sign 8 = .ok (.ireturn, 1) := by decide +kernel
theorem dX11_end_0 : decode cX11_end 0 = .ok (.aload_n 0, 1) := by decide +kernel
theorem dX11_end_1 : decode cX11_end 1 = .ok (.getfield 10, 3) := by decide +kernel
theorem dX11_end_4 : decode cX11_end 4 = .ok (.iload_n 1, 1) := by decide +kernel
theorem dX11_end_5 : decode cX11_end 5 = .ok (.invokevirtual 93, 3) := by decide +kernel
theorem dX11_end_8 : decode cX11_end 8 = .ok (.ireturn, 1) := by decide +kernel
theorem dX11_hills_0 : decode cX11_hills 0 = .ok (.aload_n 0, 1) := by decide +kernel
theorem dX11_hills_1 : decode cX11_hills 1 = .ok (.getfield 10, 3) := by decide +kernel
theorem dX11_hills_4 : decode cX11_hills 4 = .ok (.getfield 97, 3) := by decide +kernel
theorem dX11_hills_7 : decode cX11_hills 7 = .ok (.ifCond .ne 5, 3) := by decide +kernel
theorem dX11_hills_10 : decode cX11_hills 10 = .ok (.iconst 0, 1) := by decide +kernel
theorem dX11_hills_11 : decode cX11_hills 11 = .ok (.ireturn, 1) := by decide +kernel
theorem dX11_hills_12 : decode cX11_hills 12 = .ok (.aload_n 0, 1) := by decide +kernel
theorem dX11_hills_13 : decode cX11_hills 13 = .ok (.getfield 26, 3) := by decide +kernel
theorem dX11_hills_16 : decode cX11_hills 16 = .ok (.aload_n 0, 1) := by decide +kernel
theorem dX11_hills_17 : decode cX11_hills 17 = .ok (.getfield 10, 3) := by decide +kernel
theorem dX11_hills_20 : decode cX11_hills 20 = .ok (.invokevirtual 101, 3) := by decide +kernel
theorem dX11_hills_23 : decode cX11_hills 23 = .ok (.istore_n 1, 1) := by decide +kernel
theorem dX11_hills_24 : decode cX11_hills 24 = .ok (.aload_n 0, 1) := by decide +kernel
theorem dX11_hills_25 : decode cX11_hills 25 = .ok (.getfield 10, 3) := by decide +kernel
theorem dX11_hills_28 : decode cX11_hills 28 = .ok (.invokevirtual 105, 3) := by decide +kernel
theorem dX11_hills_31 : decode cX11_hills 31 = .ok (.iload_n 1, 1) := by decide +kernel
theorem dX11_hills_32 : decode cX11_hills 32 = .ok (.ifCond .le 10, 3) := by decide +kernel
theorem dX11_hills_35 : decode cX11_hills 35 = .ok (.aload_n 0, 1) := by decide +kernel
theorem dX11_hills_36 : decode cX11_hills 36 = .ok (.getfield 64, 3) := by decide +kernel
theorem dX11_hills_39 : decode cX11_hills 39 = .ok (.invokevirtual 108, 3) := by decide +kernel
theorem dX11_hills_42 : decode cX11_hills 42 = .ok (.iload_n 1, 1) := by decide +kernel
theorem dX11_hills_43 : decode cX11_hills 43 = .ok (.ireturn, 1) := by decide +kernel
theorem dX11_feasts_0 : decode cX11_feasts 0 = .ok (.aload_n 0, 1) := by decide +kernel
theorem dX11_feasts_1 : decode cX11_feasts 1 = .ok (.getfield 10, 3) := by decide +kernel
theorem dX11_feasts_4 : decode cX11_feasts 4 = .ok (.getfield 97, 3) := by decide +kernel
theorem dX11_feasts_7 : decode cX11_feasts 7 = .ok (.ifCond .ne 5, 3) := by decide +kernel
theorem dX11_feasts_10 : decode cX11_feasts 10 = .ok (.iconst 0, 1) := by decide +kernel
theorem dX11_feasts_11 : decode cX11_feasts 11 = .ok (.ireturn, 1) := by decide +kernel
theorem dX11_feasts_12 : decode cX11_feasts 12 = .ok (.aload_n 0, 1) := by decide +kernel
theorem dX11_feasts_13 : decode cX11_feasts 13 = .ok (.getfield 40, 3) := by decide +kernel
theorem dX11_feasts_16 : decode cX11_feasts 16 = .ok (.aload_n 0, 1) := by decide +kernel
theorem dX11_feasts_17 : decode cX11_feasts 17 = .ok (.getfield 10, 3) := by decide +kernel
theorem dX11_feasts_20 : decode cX11_feasts 20 = .ok (.aload_n 0, 1) := by decide +kernel
theorem dX11_feasts_21 : decode cX11_feasts 21 = .ok (.getfield 26, 3) := by decide +kernel
theorem dX11_feasts_24 : decode cX11_feasts 24 = .ok (.aload_n 0, 1) := by decide +kernel
theorem dX11_feasts_25 : decode cX11_feasts 25 = .ok (.getfield 54, 3) := by decide +kernel
theorem dX11_feasts_28 : decode cX11_feasts 28 = .ok (.invokevirtual 111, 3) := by decide +kernel
theorem dX11_feasts_31 : decode cX11_feasts 31 = .ok (.istore_n 1, 1) := by decide +kernel
theorem dX11_feasts_32 : decode cX11_feasts 32 = .ok (.aload_n 0, 1) := by decide +kernel
theorem dX11_feasts_33 : decode cX11_feasts 33 = .ok (.getfield 10, 3) := by decide +kernel
theorem dX11_feasts_36 : decode cX11_feasts 36 = .ok (.invokevirtual 105, 3) := by decide +kernel
theorem dX11_feasts_39 : decode cX11_feasts 39 = .ok (.iload_n 1, 1) := by decide +kernel
theorem dX11_feasts_40 : decode cX11_feasts 40 = .ok (.ifCond .le 10, 3) := by decide +kernel
theorem dX11_feasts_43 : decode cX11_feasts 43 = .ok (.aload_n 0, 1) := by decide +kernel
theorem dX11_feasts_44 : decode cX11_feasts 44 = .ok (.getfield 64, 3) := by decide +kernel
theorem dX11_feasts_47 : decode cX11_feasts 47 = .ok (.invokevirtual 108, 3) := by decide +kernel
theorem dX11_feasts_50 : decode cX11_feasts 50 = .ok (.iload_n 1, 1) := by decide +kernel
theorem dX11_feasts_51 : decode cX11_feasts 51 = .ok (.ireturn, 1) := by decide +kernel
theorem dX11_rule_0 : decode cX11_rule 0 = .ok (.aload_n 0, 1) := by decide +kernel
theorem dX11_rule_1 : decode cX11_rule 1 = .ok (.getfield 47, 3) := by decide +kernel
theorem dX11_rule_4 : decode cX11_rule 4 = .ok (.aload_n 0, 1) := by decide +kernel
theorem dX11_rule_5 : decode cX11_rule 5 = .ok (.getfield 10, 3) := by decide +kernel
theorem dX11_rule_8 : decode cX11_rule 8 = .ok (.invokevirtual 114, 3) := by decide +kernel
theorem dX11_rule_11 : decode cX11_rule 11 = .ok (.istore_n 1, 1) := by decide +kernel
theorem dX11_rule_12 : decode cX11_rule 12 = .ok (.aload_n 0, 1) := by decide +kernel
theorem dX11_rule_13 : decode cX11_rule 13 = .ok (.getfield 10, 3) := by decide +kernel
theorem dX11_rule_16 : decode cX11_rule 16 = .ok (.invokevirtual 105, 3) := by decide +kernel
theorem dX11_rule_19 : decode cX11_rule 19 = .ok (.iload_n 1, 1) := by decide +kernel
theorem dX11_rule_20 : decode cX11_rule 20 = .ok (.ireturn, 1) := by decide +kernel
theorem dX11_village_0 : decode cX11_village 0 = .ok (.aload_n 0, 1) := by decide +kernel
theorem dX11_village_1 : decode cX11_village 1 = .ok (.getfield 26, 3) := by decide +kernel
theorem dX11_village_4 : decode cX11_village 4 = .ok (.iload_n 1, 1) := by decide +kernel
theorem dX11_village_5 : decode cX11_village 5 = .ok (.invokevirtual 115, 3) := by decide +kernel
theorem dX11_village_8 : decode cX11_village 8 = .ok (.ifCond .eq 12, 3) := by decide +kernel
theorem dX11_village_11 : decode cX11_village 11 = .ok (.iload_n 2, 1) := by decide +kernel
theorem dX11_village_12 : decode cX11_village 12 = .ok (.ifCond .lt 8, 3) := by decide +kernel
theorem dX11_village_15 : decode cX11_village 15 = .ok (.iload_n 2, 1) := by decide +kernel
theorem dX11_village_16 : decode cX11_village 16 = .ok (.iconst 3, 1) := by decide +kernel
theorem dX11_village_17 : decode cX11_village 17 = .ok (.if_icmp .le 11, 3) := by decide +kernel
theorem dX11_village_20 : decode cX11_village 20 = .ok (.new 118, 3) := by decide +kernel
theorem dX11_village_23 : decode cX11_village 23 = .ok (.dup, 1) := by decide +kernel
theorem dX11_village_24 : decode cX11_village 24 = .ok (.invokespecial 120, 3) := by decide +kernel
theorem dX11_village_27 : decode cX11_village 27 = .ok (.athrow, 1) := by decide +kernel
theorem dX11_village_28 : decode cX11_village 28 = .ok (.iload_n 2, 1) := by decide +kernel
theorem dX11_village_29 : decode cX11_village 29 = .ok (.tableswitch 65 0 2 #[27, 36, 45], 27) := by decide +kernel
theorem dX11_village_56 : decode cX11_village 56 = .ok (.aload_n 0, 1) := by decide +kernel
theorem dX11_village_57 : decode cX11_village 57 = .ok (.getfield 26, 3) := by decide +kernel
theorem dX11_village_60 : decode cX11_village 60 = .ok (.iload_n 1, 1) := by decide +kernel
theorem dX11_village_61 : decode cX11_village 61 = .ok (.invokevirtual 121, 3) := by decide +kernel
theorem dX11_village_64 : decode cX11_village 64 = .ok (.ireturn, 1) := by decide +kernel
theorem dX11_village_65 : decode cX11_village 65 = .ok (.aload_n 0, 1) := by decide +kernel
theorem dX11_village_66 : decode cX11_village 66 = .ok (.getfield 40, 3) := by decide +kernel
theorem dX11_village_69 : decode cX11_village 69 = .ok (.iload_n 1, 1) := by decide +kernel
theorem dX11_village_70 : decode cX11_village 70 = .ok (.invokevirtual 124, 3) := by decide +kernel
theorem dX11_village_73 : decode cX11_village 73 = .ok (.ireturn, 1) := by decide +kernel
theorem dX11_village_74 : decode cX11_village 74 = .ok (.aload_n 0, 1) := by decide +kernel
theorem dX11_village_75 : decode cX11_village 75 = .ok (.getfield 54, 3) := by decide +kernel
theorem dX11_village_78 : decode cX11_village 78 = .ok (.aload_n 0, 1) := by decide +kernel
theorem dX11_village_79 : decode cX11_village 79 = .ok (.getfield 40, 3) := by decide +kernel
theorem dX11_village_82 : decode cX11_village 82 = .ok (.iload_n 1, 1) := by decide +kernel
theorem dX11_village_83 : decode cX11_village 83 = .ok (.aload_n 0, 1) := by decide +kernel
theorem dX11_village_84 : decode cX11_village 84 = .ok (.getfield 54, 3) := by decide +kernel
theorem dX11_village_87 : decode cX11_village 87 = .ok (.getfield 127, 3) := by decide +kernel
theorem dX11_village_90 : decode cX11_village 90 = .ok (.invokevirtual 130, 3) := by decide +kernel
theorem dX11_village_93 : decode cX11_village 93 = .ok (.ireturn, 1) := by decide +kernel
theorem dX11_village_94 : decode cX11_village 94 = .ok (.aload_n 0, 1) := by decide +kernel
theorem dX11_village_95 : decode cX11_village 95 = .ok (.getfield 26, 3) := by decide +kernel
theorem dX11_village_98 : decode cX11_village 98 = .ok (.aload_n 0, 1) := by decide +kernel
theorem dX11_village_99 : decode cX11_village 99 = .ok (.getfield 54, 3) := by decide +kernel
theorem dX11_village_102 : decode cX11_village 102 = .ok (.getfield 134, 3) := by decide +kernel
theorem dX11_village_105 : decode cX11_village 105 = .ok (.iload_n 1, 1) := by decide +kernel
theorem dX11_village_106 : decode cX11_village 106 = .ok (.invokevirtual 137, 3) := by decide +kernel
theorem dX11_village_109 : decode cX11_village 109 = .ok (.ireturn, 1) := by decide +kernel
theorem dX11_feast_0 : decode cX11_feast 0 = .ok (.aload_n 0, 1) := by decide +kernel
theorem dX11_feast_1 : decode cX11_feast 1 = .ok (.getfield 40, 3) := by decide +kernel
theorem dX11_feast_4 : decode cX11_feast 4 = .ok (.iload_n 1, 1) := by decide +kernel
theorem dX11_feast_5 : decode cX11_feast 5 = .ok (.invokevirtual 141, 3) := by decide +kernel
theorem dX11_feast_8 : decode cX11_feast 8 = .ok (.ifCond .eq 13, 3) := by decide +kernel
theorem dX11_feast_11 : decode cX11_feast 11 = .ok (.iload_n 2, 1) := by decide +kernel
theorem dX11_feast_12 : decode cX11_feast 12 = .ok (.ifCond .lt 9, 3) := by decide +kernel
theorem dX11_feast_15 : decode cX11_feast 15 = .ok (.iload_n 2, 1) := by decide +kernel
theorem dX11_feast_16 : decode cX11_feast 16 = .ok (.bipush 6, 2) := by decide +kernel
theorem dX11_feast_18 : decode cX11_feast 18 = .ok (.if_icmp .le 11, 3) := by decide +kernel
theorem dX11_feast_21 : decode cX11_feast 21 = .ok (.new 118, 3) := by decide +kernel
theorem dX11_feast_24 : decode cX11_feast 24 = .ok (.dup, 1) := by decide +kernel
theorem dX11_feast_25 : decode cX11_feast 25 = .ok (.invokespecial 120, 3) := by decide +kernel
theorem dX11_feast_28 : decode cX11_feast 28 = .ok (.athrow, 1) := by decide +kernel
theorem dX11_feast_29 : decode cX11_feast 29 = .ok (.iload_n 2, 1) := by decide +kernel
theorem dX11_feast_30 : decode cX11_feast 30 = .ok (.tableswitch 105 0 5 #[38, 48, 58, 68, 78, 88], 38) := by decide +kernel
theorem dX11_feast_68 : decode cX11_feast 68 = .ok (.aload_n 0, 1) := by decide +kernel
theorem dX11_feast_69 : decode cX11_feast 69 = .ok (.getfield 40, 3) := by decide +kernel
theorem dX11_feast_72 : decode cX11_feast 72 = .ok (.getfield 142, 3) := by decide +kernel
theorem dX11_feast_75 : decode cX11_feast 75 = .ok (.iload_n 1, 1) := by decide +kernel
theorem dX11_feast_76 : decode cX11_feast 76 = .ok (.iaload, 1) := by decide +kernel
theorem dX11_feast_77 : decode cX11_feast 77 = .ok (.ireturn, 1) := by decide +kernel
theorem dX11_feast_78 : decode cX11_feast 78 = .ok (.aload_n 0, 1) := by decide +kernel
theorem dX11_feast_79 : decode cX11_feast 79 = .ok (.getfield 54, 3) := by decide +kernel
theorem dX11_feast_82 : decode cX11_feast 82 = .ok (.getfield 145, 3) := by decide +kernel
theorem dX11_feast_85 : decode cX11_feast 85 = .ok (.iload_n 1, 1) := by decide +kernel
theorem dX11_feast_86 : decode cX11_feast 86 = .ok (.iaload, 1) := by decide +kernel
theorem dX11_feast_87 : decode cX11_feast 87 = .ok (.ireturn, 1) := by decide +kernel
theorem dX11_feast_88 : decode cX11_feast 88 = .ok (.aload_n 0, 1) := by decide +kernel
theorem dX11_feast_89 : decode cX11_feast 89 = .ok (.getfield 54, 3) := by decide +kernel
theorem dX11_feast_92 : decode cX11_feast 92 = .ok (.getfield 148, 3) := by decide +kernel
theorem dX11_feast_95 : decode cX11_feast 95 = .ok (.iload_n 1, 1) := by decide +kernel
theorem dX11_feast_96 : decode cX11_feast 96 = .ok (.iaload, 1) := by decide +kernel
theorem dX11_feast_97 : decode cX11_feast 97 = .ok (.ireturn, 1) := by decide +kernel
theorem dX11_feast_98 : decode cX11_feast 98 = .ok (.aload_n 0, 1) := by decide +kernel
theorem dX11_feast_99 : decode cX11_feast 99 = .ok (.getfield 40, 3) := by decide +kernel
theorem dX11_feast_102 : decode cX11_feast 102 = .ok (.getfield 151, 3) := by decide +kernel
theorem dX11_feast_105 : decode cX11_feast 105 = .ok (.iload_n 1, 1) := by decide +kernel
theorem dX11_feast_106 : decode cX11_feast 106 = .ok (.iaload, 1) := by decide +kernel
theorem dX11_feast_107 : decode cX11_feast 107 = .ok (.ireturn, 1) := by decide +kernel
theorem dX11_feast_108 : decode cX11_feast 108 = .ok (.aload_n 0, 1) := by decide +kernel
theorem dX11_feast_109 : decode cX11_feast 109 = .ok (.getfield 40, 3) := by decide +kernel
theorem dX11_feast_112 : decode cX11_feast 112 = .ok (.getfield 154, 3) := by decide +kernel
theorem dX11_feast_115 : decode cX11_feast 115 = .ok (.iload_n 1, 1) := by decide +kernel
theorem dX11_feast_116 : decode cX11_feast 116 = .ok (.iaload, 1) := by decide +kernel
theorem dX11_feast_117 : decode cX11_feast 117 = .ok (.ireturn, 1) := by decide +kernel
theorem dX11_feast_118 : decode cX11_feast 118 = .ok (.aload_n 0, 1) := by decide +kernel
theorem dX11_feast_119 : decode cX11_feast 119 = .ok (.getfield 54, 3) := by decide +kernel
theorem dX11_feast_122 : decode cX11_feast 122 = .ok (.iload_n 1, 1) := by decide +kernel
theorem dX11_feast_123 : decode cX11_feast 123 = .ok (.invokevirtual 157, 3) := by decide +kernel
theorem dX11_feast_126 : decode cX11_feast 126 = .ok (.ifCond .eq 7, 3) := by decide +kernel
theorem dX11_feast_129 : decode cX11_feast 129 = .ok (.iconst 1, 1) := by decide +kernel
theorem dX11_feast_130 : decode cX11_feast 130 = .ok (.goto 4, 3) := by decide +kernel
theorem dX11_feast_133 : decode cX11_feast 133 = .ok (.iconst 0, 1) := by decide +kernel
theorem dX11_feast_134 : decode cX11_feast 134 = .ok (.ireturn, 1) := by decide +kernel
theorem dX11_feast_135 : decode cX11_feast 135 = .ok (.aload_n 0, 1) := by decide +kernel
theorem dX11_feast_136 : decode cX11_feast 136 = .ok (.getfield 54, 3) := by decide +kernel
theorem dX11_feast_139 : decode cX11_feast 139 = .ok (.iload_n 1, 1) := by decide +kernel
theorem dX11_feast_140 : decode cX11_feast 140 = .ok (.invokevirtual 160, 3) := by decide +kernel
theorem dX11_feast_143 : decode cX11_feast 143 = .ok (.ifCond .eq 7, 3) := by decide +kernel
theorem dX11_feast_146 : decode cX11_feast 146 = .ok (.iconst 1, 1) := by decide +kernel
theorem dX11_feast_147 : decode cX11_feast 147 = .ok (.goto 4, 3) := by decide +kernel
theorem dX11_feast_150 : decode cX11_feast 150 = .ok (.iconst 0, 1) := by decide +kernel
theorem dX11_feast_151 : decode cX11_feast 151 = .ok (.ireturn, 1) := by decide +kernel
theorem dX11_set_0 : decode cX11_set 0 = .ok (.aload_n 0, 1) := by decide +kernel
theorem dX11_set_1 : decode cX11_set 1 = .ok (.getfield 33, 3) := by decide +kernel
theorem dX11_set_4 : decode cX11_set 4 = .ok (.iload_n 1, 1) := by decide +kernel
theorem dX11_set_5 : decode cX11_set 5 = .ok (.iload_n 2, 1) := by decide +kernel
theorem dX11_set_6 : decode cX11_set 6 = .ok (.invokevirtual 163, 3) := by decide +kernel
theorem dX11_set_9 : decode cX11_set 9 = .ok (.ireturn, 1) := by decide +kernel
theorem dX11_sheet_0 : decode cX11_sheet 0 = .ok (.iload_n 1, 1) := by decide +kernel
theorem dX11_sheet_1 : decode cX11_sheet 1 = .ok (.ifCond .lt 14, 3) := by decide +kernel
theorem dX11_sheet_4 : decode cX11_sheet 4 = .ok (.iload_n 1, 1) := by decide +kernel
theorem dX11_sheet_5 : decode cX11_sheet 5 = .ok (.iconst 3, 1) := by decide +kernel
theorem dX11_sheet_6 : decode cX11_sheet 6 = .ok (.if_icmp .gt 9, 3) := by decide +kernel
theorem dX11_sheet_9 : decode cX11_sheet 9 = .ok (.iload_n 2, 1) := by decide +kernel
theorem dX11_sheet_10 : decode cX11_sheet 10 = .ok (.bipush 8, 2) := by decide +kernel
theorem dX11_sheet_12 : decode cX11_sheet 12 = .ok (.if_icmp .le 5, 3) := by decide +kernel
theorem dX11_sheet_15 : decode cX11_sheet 15 = .ok (.iconst (-1), 1) := by decide +kernel
theorem dX11_sheet_16 : decode cX11_sheet 16 = .ok (.ireturn, 1) := by decide +kernel
theorem dX11_sheet_17 : decode cX11_sheet 17 = .ok (.iload_n 1, 1) := by decide +kernel
theorem dX11_sheet_18 : decode cX11_sheet 18 = .ok (.iconst 3, 1) := by decide +kernel
theorem dX11_sheet_19 : decode cX11_sheet 19 = .ok (.if_icmp .ne 19, 3) := by decide +kernel
theorem dX11_sheet_22 : decode cX11_sheet 22 = .ok (.aload_n 0, 1) := by decide +kernel
theorem dX11_sheet_23 : decode cX11_sheet 23 = .ok (.getfield 40, 3) := by decide +kernel
theorem dX11_sheet_26 : decode cX11_sheet 26 = .ok (.iload_n 1, 1) := by decide +kernel
theorem dX11_sheet_27 : decode cX11_sheet 27 = .ok (.iconst 0, 1) := by decide +kernel
theorem dX11_sheet_28 : decode cX11_sheet 28 = .ok (.iload_n 3, 1) := by decide +kernel
theorem dX11_sheet_29 : decode cX11_sheet 29 = .ok (.iload 4, 2) := by decide +kernel
theorem dX11_sheet_31 : decode cX11_sheet 31 = .ok (.invokevirtual 166, 3) := by decide +kernel
theorem dX11_sheet_34 : decode cX11_sheet 34 = .ok (.pop, 1) := by decide +kernel
theorem dX11_sheet_35 : decode cX11_sheet 35 = .ok (.bipush (-3), 2) := by decide +kernel
theorem dX11_sheet_37 : decode cX11_sheet 37 = .ok (.ireturn, 1) := by decide +kernel
theorem dX11_sheet_38 : decode cX11_sheet 38 = .ok (.iload_n 2, 1) := by decide +kernel
theorem dX11_sheet_39 : decode cX11_sheet 39 = .ok (.ifCond .ge 6, 3) := by decide +kernel
theorem dX11_sheet_42 : decode cX11_sheet 42 = .ok (.bipush (-2), 2) := by decide +kernel
theorem dX11_sheet_44 : decode cX11_sheet 44 = .ok (.ireturn, 1) := by decide +kernel
theorem dX11_sheet_45 : decode cX11_sheet 45 = .ok (.aload_n 0, 1) := by decide +kernel
theorem dX11_sheet_46 : decode cX11_sheet 46 = .ok (.getfield 40, 3) := by decide +kernel
theorem dX11_sheet_49 : decode cX11_sheet 49 = .ok (.iload_n 1, 1) := by decide +kernel
theorem dX11_sheet_50 : decode cX11_sheet 50 = .ok (.iload_n 2, 1) := by decide +kernel
theorem dX11_sheet_51 : decode cX11_sheet 51 = .ok (.iload_n 3, 1) := by decide +kernel
theorem dX11_sheet_52 : decode cX11_sheet 52 = .ok (.iload 4, 2) := by decide +kernel
theorem dX11_sheet_54 : decode cX11_sheet 54 = .ok (.invokevirtual 166, 3) := by decide +kernel
theorem dX11_sheet_57 : decode cX11_sheet 57 = .ok (.ireturn, 1) := by decide +kernel
theorem dX11_night_0 : decode cX11_night 0 = .ok (.aload_n 0, 1) := by decide +kernel
theorem dX11_night_1 : decode cX11_night 1 = .ok (.iload_n 1, 1) := by decide +kernel
theorem dX11_night_2 : decode cX11_night 2 = .ok (.invokevirtual 170, 3) := by decide +kernel
theorem dX11_night_5 : decode cX11_night 5 = .ok (.istore_n 2, 1) := by decide +kernel
theorem dX11_night_6 : decode cX11_night 6 = .ok (.iload_n 2, 1) := by decide +kernel
theorem dX11_night_7 : decode cX11_night 7 = .ok (.ifCond .ge 5, 3) := by decide +kernel
theorem dX11_night_10 : decode cX11_night 10 = .ok (.iload_n 2, 1) := by decide +kernel
theorem dX11_night_11 : decode cX11_night 11 = .ok (.ireturn, 1) := by decide +kernel
theorem dX11_night_12 : decode cX11_night 12 = .ok (.aload_n 0, 1) := by decide +kernel
theorem dX11_night_13 : decode cX11_night 13 = .ok (.getfield 64, 3) := by decide +kernel
theorem dX11_night_16 : decode cX11_night 16 = .ok (.aload_n 0, 1) := by decide +kernel
theorem dX11_night_17 : decode cX11_night 17 = .ok (.getfield 54, 3) := by decide +kernel
theorem dX11_night_20 : decode cX11_night 20 = .ok (.invokevirtual 173, 3) := by decide +kernel
theorem dX11_night_23 : decode cX11_night 23 = .ok (.aload_n 0, 1) := by decide +kernel
theorem dX11_night_24 : decode cX11_night 24 = .ok (.getfield 54, 3) := by decide +kernel
theorem dX11_night_27 : decode cX11_night 27 = .ok (.getfield 177, 3) := by decide +kernel
theorem dX11_night_30 : decode cX11_night 30 = .ok (.istore_n 3, 1) := by decide +kernel
theorem dX11_night_31 : decode cX11_night 31 = .ok (.aload_n 0, 1) := by decide +kernel
theorem dX11_night_32 : decode cX11_night 32 = .ok (.getfield 26, 3) := by decide +kernel
theorem dX11_night_35 : decode cX11_night 35 = .ok (.aload_n 0, 1) := by decide +kernel
theorem dX11_night_36 : decode cX11_night 36 = .ok (.getfield 54, 3) := by decide +kernel
theorem dX11_night_39 : decode cX11_night 39 = .ok (.getfield 134, 3) := by decide +kernel
theorem dX11_night_42 : decode cX11_night 42 = .ok (.iload_n 1, 1) := by decide +kernel
theorem dX11_night_43 : decode cX11_night 43 = .ok (.invokevirtual 137, 3) := by decide +kernel
theorem dX11_night_46 : decode cX11_night 46 = .ok (.istore 4, 2) := by decide +kernel
theorem dX11_night_48 : decode cX11_night 48 = .ok (.aload_n 0, 1) := by decide +kernel
theorem dX11_night_49 : decode cX11_night 49 = .ok (.aload_n 0, 1) := by decide +kernel
theorem dX11_night_50 : decode cX11_night 50 = .ok (.getfield 54, 3) := by decide +kernel
theorem dX11_night_53 : decode cX11_night 53 = .ok (.iload_n 1, 1) := by decide +kernel
theorem dX11_night_54 : decode cX11_night 54 = .ok (.invokevirtual 180, 3) := by decide +kernel
theorem dX11_night_57 : decode cX11_night 57 = .ok (.istore 5, 2) := by decide +kernel
theorem dX11_night_59 : decode cX11_night 59 = .ok (.aload_n 0, 1) := by decide +kernel
theorem dX11_night_60 : decode cX11_night 60 = .ok (.getfield 19, 3) := by decide +kernel
theorem dX11_night_63 : decode cX11_night 63 = .ok (.invokevirtual 184, 3) := by decide +kernel
theorem dX11_night_66 : decode cX11_night 66 = .ok (.aload_n 0, 1) := by decide +kernel
theorem dX11_night_67 : decode cX11_night 67 = .ok (.getfield 19, 3) := by decide +kernel
theorem dX11_night_70 : decode cX11_night 70 = .ok (.aload_n 0, 1) := by decide +kernel
theorem dX11_night_71 : decode cX11_night 71 = .ok (.getfield 54, 3) := by decide +kernel
theorem dX11_night_74 : decode cX11_night 74 = .ok (.getfield 185, 3) := by decide +kernel
theorem dX11_night_77 : decode cX11_night 77 = .ok (.i2l, 1) := by decide +kernel
theorem dX11_night_78 : decode cX11_night 78 = .ok (.invokevirtual 188, 3) := by decide +kernel
theorem dX11_night_81 : decode cX11_night 81 = .ok (.aload_n 0, 1) := by decide +kernel
theorem dX11_night_82 : decode cX11_night 82 = .ok (.getfield 19, 3) := by decide +kernel
theorem dX11_night_85 : decode cX11_night 85 = .ok (.iload 4, 2) := by decide +kernel
theorem dX11_night_87 : decode cX11_night 87 = .ok (.i2l, 1) := by decide +kernel
theorem dX11_night_88 : decode cX11_night 88 = .ok (.invokevirtual 188, 3) := by decide +kernel
theorem dX11_night_91 : decode cX11_night 91 = .ok (.aload_n 0, 1) := by decide +kernel
theorem dX11_night_92 : decode cX11_night 92 = .ok (.getfield 19, 3) := by decide +kernel
theorem dX11_night_95 : decode cX11_night 95 = .ok (.aload_n 0, 1) := by decide +kernel
theorem dX11_night_96 : decode cX11_night 96 = .ok (.getfield 54, 3) := by decide +kernel
theorem dX11_night_99 : decode cX11_night 99 = .ok (.getfield 177, 3) := by decide +kernel
theorem dX11_night_102 : decode cX11_night 102 = .ok (.iload_n 3, 1) := by decide +kernel
theorem dX11_night_103 : decode cX11_night 103 = .ok (.isub, 1) := by decide +kernel
theorem dX11_night_104 : decode cX11_night 104 = .ok (.i2l, 1) := by decide +kernel
theorem dX11_night_105 : decode cX11_night 105 = .ok (.invokevirtual 188, 3) := by decide +kernel
theorem dX11_night_108 : decode cX11_night 108 = .ok (.iload 5, 2) := by decide +kernel
theorem dX11_night_110 : decode cX11_night 110 = .ok (.ireturn, 1) := by decide +kernel
theorem dX11_stay_0 : decode cX11_stay 0 = .ok (.aload_n 0, 1) := by decide +kernel
theorem dX11_stay_1 : decode cX11_stay 1 = .ok (.iload_n 1, 1) := by decide +kernel
theorem dX11_stay_2 : decode cX11_stay 2 = .ok (.invokevirtual 192, 3) := by decide +kernel
theorem dX11_stay_5 : decode cX11_stay 5 = .ok (.istore_n 2, 1) := by decide +kernel
theorem dX11_stay_6 : decode cX11_stay 6 = .ok (.iload_n 2, 1) := by decide +kernel
theorem dX11_stay_7 : decode cX11_stay 7 = .ok (.ifCond .ge 5, 3) := by decide +kernel
theorem dX11_stay_10 : decode cX11_stay 10 = .ok (.iload_n 2, 1) := by decide +kernel
theorem dX11_stay_11 : decode cX11_stay 11 = .ok (.ireturn, 1) := by decide +kernel
theorem dX11_stay_12 : decode cX11_stay 12 = .ok (.iload_n 1, 1) := by decide +kernel
theorem dX11_stay_13 : decode cX11_stay 13 = .ok (.ifCond .le 14, 3) := by decide +kernel
theorem dX11_stay_16 : decode cX11_stay 16 = .ok (.aload_n 0, 1) := by decide +kernel
theorem dX11_stay_17 : decode cX11_stay 17 = .ok (.getfield 64, 3) := by decide +kernel
theorem dX11_stay_20 : decode cX11_stay 20 = .ok (.aload_n 0, 1) := by decide +kernel
theorem dX11_stay_21 : decode cX11_stay 21 = .ok (.getfield 54, 3) := by decide +kernel
theorem dX11_stay_24 : decode cX11_stay 24 = .ok (.invokevirtual 173, 3) := by decide +kernel
theorem dX11_stay_27 : decode cX11_stay 27 = .ok (.aload_n 0, 1) := by decide +kernel
theorem dX11_stay_28 : decode cX11_stay 28 = .ok (.iconst 0, 1) := by decide +kernel
theorem dX11_stay_29 : decode cX11_stay 29 = .ok (.putfield 195, 3) := by decide +kernel
theorem dX11_stay_32 : decode cX11_stay 32 = .ok (.aload_n 0, 1) := by decide +kernel
theorem dX11_stay_33 : decode cX11_stay 33 = .ok (.iload_n 1, 1) := by decide +kernel
theorem dX11_stay_34 : decode cX11_stay 34 = .ok (.invokevirtual 198, 3) := by decide +kernel
theorem dX11_stay_37 : decode cX11_stay 37 = .ok (.istore_n 3, 1) := by decide +kernel
theorem dX11_stay_38 : decode cX11_stay 38 = .ok (.aload_n 0, 1) := by decide +kernel
theorem dX11_stay_39 : decode cX11_stay 39 = .ok (.getfield 19, 3) := by decide +kernel
theorem dX11_stay_42 : decode cX11_stay 42 = .ok (.invokevirtual 184, 3) := by decide +kernel
theorem dX11_stay_45 : decode cX11_stay 45 = .ok (.aload_n 0, 1) := by decide +kernel
theorem dX11_stay_46 : decode cX11_stay 46 = .ok (.getfield 19, 3) := by decide +kernel
theorem dX11_stay_49 : decode cX11_stay 49 = .ok (.aload_n 0, 1) := by decide +kernel
theorem dX11_stay_50 : decode cX11_stay 50 = .ok (.getfield 195, 3) := by decide +kernel
theorem dX11_stay_53 : decode cX11_stay 53 = .ok (.i2l, 1) := by decide +kernel
theorem dX11_stay_54 : decode cX11_stay 54 = .ok (.invokevirtual 188, 3) := by decide +kernel
theorem dX11_stay_57 : decode cX11_stay 57 = .ok (.aload_n 0, 1) := by decide +kernel
theorem dX11_stay_58 : decode cX11_stay 58 = .ok (.getfield 19, 3) := by decide +kernel
theorem dX11_stay_61 : decode cX11_stay 61 = .ok (.aload_n 0, 1) := by decide +kernel
theorem dX11_stay_62 : decode cX11_stay 62 = .ok (.getfield 54, 3) := by decide +kernel
theorem dX11_stay_65 : decode cX11_stay 65 = .ok (.getfield 127, 3) := by decide +kernel
theorem dX11_stay_68 : decode cX11_stay 68 = .ok (.i2l, 1) := by decide +kernel
theorem dX11_stay_69 : decode cX11_stay 69 = .ok (.invokevirtual 188, 3) := by decide +kernel
theorem dX11_stay_72 : decode cX11_stay 72 = .ok (.iload_n 3, 1) := by decide +kernel
theorem dX11_stay_73 : decode cX11_stay 73 = .ok (.ireturn, 1) := by decide +kernel
theorem dX11_mend_0 : decode cX11_mend 0 = .ok (.aload_n 0, 1) := by decide +kernel
theorem dX11_mend_1 : decode cX11_mend 1 = .ok (.getfield 54, 3) := by decide +kernel
theorem dX11_mend_4 : decode cX11_mend 4 = .ok (.invokevirtual 201, 3) := by decide +kernel
theorem dX11_mend_7 : decode cX11_mend 7 = .ok (.ifCond .ne 6, 3) := by decide +kernel
theorem dX11_mend_10 : decode cX11_mend 10 = .ok (.bipush (-2), 2) := by decide +kernel
theorem dX11_mend_12 : decode cX11_mend 12 = .ok (.ireturn, 1) := by decide +kernel
theorem dX11_mend_13 : decode cX11_mend 13 = .ok (.aload_n 0, 1) := by decide +kernel
theorem dX11_mend_14 : decode cX11_mend 14 = .ok (.getfield 64, 3) := by decide +kernel
theorem dX11_mend_17 : decode cX11_mend 17 = .ok (.aload_n 0, 1) := by decide +kernel
theorem dX11_mend_18 : decode cX11_mend 18 = .ok (.getfield 54, 3) := by decide +kernel
theorem dX11_mend_21 : decode cX11_mend 21 = .ok (.invokevirtual 173, 3) := by decide +kernel
theorem dX11_mend_24 : decode cX11_mend 24 = .ok (.aload_n 0, 1) := by decide +kernel
theorem dX11_mend_25 : decode cX11_mend 25 = .ok (.getfield 54, 3) := by decide +kernel
theorem dX11_mend_28 : decode cX11_mend 28 = .ok (.invokevirtual 205, 3) := by decide +kernel
theorem dX11_mend_31 : decode cX11_mend 31 = .ok (.ireturn, 1) := by decide +kernel
theorem dX11_move_0 : decode cX11_move 0 = .ok (.aload_n 0, 1) := by decide +kernel
theorem dX11_move_1 : decode cX11_move 1 = .ok (.getfield 40, 3) := by decide +kernel
theorem dX11_move_4 : decode cX11_move 4 = .ok (.iload_n 1, 1) := by decide +kernel
theorem dX11_move_5 : decode cX11_move 5 = .ok (.invokevirtual 141, 3) := by decide +kernel
theorem dX11_move_8 : decode cX11_move 8 = .ok (.ifCond .eq 15, 3) := by decide +kernel
theorem dX11_move_11 : decode cX11_move 11 = .ok (.iload_n 2, 1) := by decide +kernel
theorem dX11_move_12 : decode cX11_move 12 = .ok (.bipush (-9), 2) := by decide +kernel
theorem dX11_move_14 : decode cX11_move 14 = .ok (.if_icmp .lt 9, 3) := by decide +kernel
theorem dX11_move_17 : decode cX11_move 17 = .ok (.iload_n 2, 1) := by decide +kernel
theorem dX11_move_18 : decode cX11_move 18 = .ok (.bipush 9, 2) := by decide +kernel
theorem dX11_move_20 : decode cX11_move 20 = .ok (.if_icmp .le 5, 3) := by decide +kernel
theorem dX11_move_23 : decode cX11_move 23 = .ok (.iconst (-1), 1) := by decide +kernel
theorem dX11_move_24 : decode cX11_move 24 = .ok (.ireturn, 1) := by decide +kernel
theorem dX11_move_25 : decode cX11_move 25 = .ok (.aload_n 0, 1) := by decide +kernel
theorem dX11_move_26 : decode cX11_move 26 = .ok (.getfield 54, 3) := by decide +kernel
theorem dX11_move_29 : decode cX11_move 29 = .ok (.iload_n 1, 1) := by decide +kernel
theorem dX11_move_30 : decode cX11_move 30 = .ok (.invokevirtual 157, 3) := by decide +kernel
theorem dX11_move_33 : decode cX11_move 33 = .ok (.ifCond .eq 6, 3) := by decide +kernel
theorem dX11_move_36 : decode cX11_move 36 = .ok (.bipush (-2), 2) := by decide +kernel
theorem dX11_move_38 : decode cX11_move 38 = .ok (.ireturn, 1) := by decide +kernel
theorem dX11_move_39 : decode cX11_move 39 = .ok (.aload_n 0, 1) := by decide +kernel
theorem dX11_move_40 : decode cX11_move 40 = .ok (.getfield 54, 3) := by decide +kernel
theorem dX11_move_43 : decode cX11_move 43 = .ok (.getfield 145, 3) := by decide +kernel
theorem dX11_move_46 : decode cX11_move 46 = .ok (.iload_n 1, 1) := by decide +kernel
theorem dX11_move_47 : decode cX11_move 47 = .ok (.iaload, 1) := by decide +kernel
theorem dX11_move_48 : decode cX11_move 48 = .ok (.iload_n 2, 1) := by decide +kernel
theorem dX11_move_49 : decode cX11_move 49 = .ok (.iadd, 1) := by decide +kernel
theorem dX11_move_50 : decode cX11_move 50 = .ok (.ifCond .lt 19, 3) := by decide +kernel
theorem dX11_move_53 : decode cX11_move 53 = .ok (.aload_n 0, 1) := by decide +kernel
theorem dX11_move_54 : decode cX11_move 54 = .ok (.getfield 54, 3) := by decide +kernel
theorem dX11_move_57 : decode cX11_move 57 = .ok (.getfield 148, 3) := by decide +kernel
theorem dX11_move_60 : decode cX11_move 60 = .ok (.iload_n 1, 1) := by decide +kernel
theorem dX11_move_61 : decode cX11_move 61 = .ok (.iaload, 1) := by decide +kernel
theorem dX11_move_62 : decode cX11_move 62 = .ok (.iload_n 2, 1) := by decide +kernel
theorem dX11_move_63 : decode cX11_move 63 = .ok (.iadd, 1) := by decide +kernel
theorem dX11_move_64 : decode cX11_move 64 = .ok (.bipush 99, 2) := by decide +kernel
theorem dX11_move_66 : decode cX11_move 66 = .ok (.if_icmp .le 6, 3) := by decide +kernel
theorem dX11_move_69 : decode cX11_move 69 = .ok (.bipush (-3), 2) := by decide +kernel
theorem dX11_move_71 : decode cX11_move 71 = .ok (.ireturn, 1) := by decide +kernel
theorem dX11_move_72 : decode cX11_move 72 = .ok (.aload_n 0, 1) := by decide +kernel
theorem dX11_move_73 : decode cX11_move 73 = .ok (.getfield 64, 3) := by decide +kernel
theorem dX11_move_76 : decode cX11_move 76 = .ok (.aload_n 0, 1) := by decide +kernel
theorem dX11_move_77 : decode cX11_move 77 = .ok (.getfield 54, 3) := by decide +kernel
theorem dX11_move_80 : decode cX11_move 80 = .ok (.invokevirtual 173, 3) := by decide +kernel
theorem dX11_move_83 : decode cX11_move 83 = .ok (.aload_n 0, 1) := by decide +kernel
theorem dX11_move_84 : decode cX11_move 84 = .ok (.getfield 54, 3) := by decide +kernel
theorem dX11_move_87 : decode cX11_move 87 = .ok (.getfield 145, 3) := by decide +kernel
theorem dX11_move_90 : decode cX11_move 90 = .ok (.iload_n 1, 1) := by decide +kernel
theorem dX11_move_91 : decode cX11_move 91 = .ok (.dup2, 1) := by decide +kernel
theorem dX11_move_92 : decode cX11_move 92 = .ok (.iaload, 1) := by decide +kernel
theorem dX11_move_93 : decode cX11_move 93 = .ok (.iload_n 2, 1) := by decide +kernel
theorem dX11_move_94 : decode cX11_move 94 = .ok (.iadd, 1) := by decide +kernel
theorem dX11_move_95 : decode cX11_move 95 = .ok (.iastore, 1) := by decide +kernel
theorem dX11_move_96 : decode cX11_move 96 = .ok (.aload_n 0, 1) := by decide +kernel
theorem dX11_move_97 : decode cX11_move 97 = .ok (.getfield 54, 3) := by decide +kernel
theorem dX11_move_100 : decode cX11_move 100 = .ok (.getfield 148, 3) := by decide +kernel
theorem dX11_move_103 : decode cX11_move 103 = .ok (.iload_n 1, 1) := by decide +kernel
theorem dX11_move_104 : decode cX11_move 104 = .ok (.dup2, 1) := by decide +kernel
theorem dX11_move_105 : decode cX11_move 105 = .ok (.iaload, 1) := by decide +kernel
theorem dX11_move_106 : decode cX11_move 106 = .ok (.iload_n 2, 1) := by decide +kernel
theorem dX11_move_107 : decode cX11_move 107 = .ok (.iadd, 1) := by decide +kernel
theorem dX11_move_108 : decode cX11_move 108 = .ok (.iastore, 1) := by decide +kernel
theorem dX11_move_109 : decode cX11_move 109 = .ok (.aload_n 0, 1) := by decide +kernel
theorem dX11_move_110 : decode cX11_move 110 = .ok (.getfield 54, 3) := by decide +kernel
theorem dX11_move_113 : decode cX11_move 113 = .ok (.getfield 145, 3) := by decide +kernel
theorem dX11_move_116 : decode cX11_move 116 = .ok (.iload_n 1, 1) := by decide +kernel
theorem dX11_move_117 : decode cX11_move 117 = .ok (.iaload, 1) := by decide +kernel
theorem dX11_move_118 : decode cX11_move 118 = .ok (.ireturn, 1) := by decide +kernel
theorem dX11_season_0 : decode cX11_season 0 = .ok (.aload_n 0, 1) := by decide +kernel
theorem dX11_season_1 : decode cX11_season 1 = .ok (.getfield 71, 3) := by decide +kernel
theorem dX11_season_4 : decode cX11_season 4 = .ok (.aload_n 0, 1) := by decide +kernel
theorem dX11_season_5 : decode cX11_season 5 = .ok (.getfield 10, 3) := by decide +kernel
theorem dX11_season_8 : decode cX11_season 8 = .ok (.invokevirtual 209, 3) := by decide +kernel
theorem dX11_season_11 : decode cX11_season 11 = .ok (.istore_n 1, 1) := by decide +kernel
theorem dX11_season_12 : decode cX11_season 12 = .ok (.aload_n 0, 1) := by decide +kernel
theorem dX11_season_13 : decode cX11_season 13 = .ok (.getfield 10, 3) := by decide +kernel
theorem dX11_season_16 : decode cX11_season 16 = .ok (.invokevirtual 105, 3) := by decide +kernel
theorem dX11_season_19 : decode cX11_season 19 = .ok (.iload_n 1, 1) := by decide +kernel
theorem dX11_season_20 : decode cX11_season 20 = .ok (.ifCond .ge 5, 3) := by decide +kernel
theorem dX11_season_23 : decode cX11_season 23 = .ok (.iload_n 1, 1) := by decide +kernel
theorem dX11_season_24 : decode cX11_season 24 = .ok (.ireturn, 1) := by decide +kernel
theorem dX11_season_25 : decode cX11_season 25 = .ok (.aload_n 0, 1) := by decide +kernel
theorem dX11_season_26 : decode cX11_season 26 = .ok (.getfield 58, 3) := by decide +kernel
theorem dX11_season_29 : decode cX11_season 29 = .ok (.aload_n 0, 1) := by decide +kernel
theorem dX11_season_30 : decode cX11_season 30 = .ok (.getfield 54, 3) := by decide +kernel
theorem dX11_season_33 : decode cX11_season 33 = .ok (.invokevirtual 210, 3) := by decide +kernel
theorem dX11_season_36 : decode cX11_season 36 = .ok (.aload_n 0, 1) := by decide +kernel
theorem dX11_season_37 : decode cX11_season 37 = .ok (.iconst 0, 1) := by decide +kernel
theorem dX11_season_38 : decode cX11_season 38 = .ok (.putfield 195, 3) := by decide +kernel
theorem dX11_season_41 : decode cX11_season 41 = .ok (.iconst 0, 1) := by decide +kernel
theorem dX11_season_42 : decode cX11_season 42 = .ok (.istore_n 2, 1) := by decide +kernel
theorem dX11_season_43 : decode cX11_season 43 = .ok (.iconst 0, 1) := by decide +kernel
theorem dX11_season_44 : decode cX11_season 44 = .ok (.istore_n 3, 1) := by decide +kernel
theorem dX11_season_45 : decode cX11_season 45 = .ok (.iconst 0, 1) := by decide +kernel
theorem dX11_season_46 : decode cX11_season 46 = .ok (.istore 4, 2) := by decide +kernel
theorem dX11_season_48 : decode cX11_season 48 = .ok (.iconst 0, 1) := by decide +kernel
theorem dX11_season_49 : decode cX11_season 49 = .ok (.istore 5, 2) := by decide +kernel
theorem dX11_season_51 : decode cX11_season 51 = .ok (.iload 5, 2) := by decide +kernel
theorem dX11_season_53 : decode cX11_season 53 = .ok (.iload_n 1, 1) := by decide +kernel
theorem dX11_season_54 : decode cX11_season 54 = .ok (.if_icmp .ge 75, 3) := by decide +kernel
theorem dX11_season_57 : decode cX11_season 57 = .ok (.iload 4, 2) := by decide +kernel
theorem dX11_season_59 : decode cX11_season 59 = .ok (.ifCond .ne 70, 3) := by decide +kernel
theorem dX11_season_62 : decode cX11_season 62 = .ok (.aload_n 0, 1) := by decide +kernel
theorem dX11_season_63 : decode cX11_season 63 = .ok (.aload_n 0, 1) := by decide +kernel
theorem dX11_season_64 : decode cX11_season 64 = .ok (.getfield 71, 3) := by decide +kernel
theorem dX11_season_67 : decode cX11_season 67 = .ok (.iload 5, 2) := by decide +kernel
theorem dX11_season_69 : decode cX11_season 69 = .ok (.invokevirtual 213, 3) := by decide +kernel
theorem dX11_season_72 : decode cX11_season 72 = .ok (.aload_n 0, 1) := by decide +kernel
theorem dX11_season_73 : decode cX11_season 73 = .ok (.getfield 71, 3) := by decide +kernel
theorem dX11_season_76 : decode cX11_season 76 = .ok (.iload 5, 2) := by decide +kernel
theorem dX11_season_78 : decode cX11_season 78 = .ok (.invokevirtual 216, 3) := by decide +kernel
theorem dX11_season_81 : decode cX11_season 81 = .ok (.invokevirtual 219, 3) := by decide +kernel
theorem dX11_season_84 : decode cX11_season 84 = .ok (.istore 6, 2) := by decide +kernel
theorem dX11_season_86 : decode cX11_season 86 = .ok (.iload 6, 2) := by decide +kernel
theorem dX11_season_88 : decode cX11_season 88 = .ok (.ifCond .ge 9, 3) := by decide +kernel
theorem dX11_season_91 : decode cX11_season 91 = .ok (.iconst 1, 1) := by decide +kernel
theorem dX11_season_92 : decode cX11_season 92 = .ok (.istore 4, 2) := by decide +kernel
theorem dX11_season_94 : decode cX11_season 94 = .ok (.goto 29, 3) := by decide +kernel
theorem dX11_season_97 : decode cX11_season 97 = .ok (.iload_n 3, 1) := by decide +kernel
theorem dX11_season_98 : decode cX11_season 98 = .ok (.aload_n 0, 1) := by decide +kernel
theorem dX11_season_99 : decode cX11_season 99 = .ok (.getfield 71, 3) := by decide +kernel
theorem dX11_season_102 : decode cX11_season 102 = .ok (.iload 5, 2) := by decide +kernel
theorem dX11_season_104 : decode cX11_season 104 = .ok (.invokevirtual 213, 3) := by decide +kernel
theorem dX11_season_107 : decode cX11_season 107 = .ok (.bipush 109, 2) := by decide +kernel
theorem dX11_season_109 : decode cX11_season 109 = .ok (.if_icmp .ne 7, 3) := by decide +kernel
theorem dX11_season_112 : decode cX11_season 112 = .ok (.iconst 0, 1) := by decide +kernel
theorem dX11_season_113 : decode cX11_season 113 = .ok (.goto 5, 3) := by decide +kernel
theorem dX11_season_116 : decode cX11_season 116 = .ok (.iload 6, 2) := by decide +kernel
theorem dX11_season_118 : decode cX11_season 118 = .ok (.iadd, 1) := by decide +kernel
theorem dX11_season_119 : decode cX11_season 119 = .ok (.istore_n 3, 1) := by decide +kernel
theorem dX11_season_120 : decode cX11_season 120 = .ok (.iinc 2 1, 3) := by decide +kernel
theorem dX11_season_123 : decode cX11_season 123 = .ok (.iinc 5 1, 3) := by decide +kernel
theorem dX11_season_126 : decode cX11_season 126 = .ok (.goto (-75), 3) := by decide +kernel
theorem dX11_season_129 : decode cX11_season 129 = .ok (.iload_n 2, 1) := by decide +kernel
theorem dX11_season_130 : decode cX11_season 130 = .ok (.ifCond .le 14, 3) := by decide +kernel
theorem dX11_season_133 : decode cX11_season 133 = .ok (.aload_n 0, 1) := by decide +kernel
theorem dX11_season_134 : decode cX11_season 134 = .ok (.getfield 64, 3) := by decide +kernel
theorem dX11_season_137 : decode cX11_season 137 = .ok (.aload_n 0, 1) := by decide +kernel
theorem dX11_season_138 : decode cX11_season 138 = .ok (.getfield 58, 3) := by decide +kernel
theorem dX11_season_141 : decode cX11_season 141 = .ok (.invokevirtual 173, 3) := by decide +kernel
theorem dX11_season_144 : decode cX11_season 144 = .ok (.aload_n 0, 1) := by decide +kernel
theorem dX11_season_145 : decode cX11_season 145 = .ok (.getfield 19, 3) := by decide +kernel
theorem dX11_season_148 : decode cX11_season 148 = .ok (.invokevirtual 184, 3) := by decide +kernel
theorem dX11_season_151 : decode cX11_season 151 = .ok (.aload_n 0, 1) := by decide +kernel
theorem dX11_season_152 : decode cX11_season 152 = .ok (.getfield 19, 3) := by decide +kernel
theorem dX11_season_155 : decode cX11_season 155 = .ok (.iload 4, 2) := by decide +kernel
theorem dX11_season_157 : decode cX11_season 157 = .ok (.ifCond .eq 7, 3) := by decide +kernel
theorem dX11_season_160 : decode cX11_season 160 = .ok (.lconst 1, 1) := by decide +kernel
theorem dX11_season_161 : decode cX11_season 161 = .ok (.goto 4, 3) := by decide +kernel
theorem dX11_season_164 : decode cX11_season 164 = .ok (.lconst 0, 1) := by decide +kernel
theorem dX11_season_165 : decode cX11_season 165 = .ok (.invokevirtual 188, 3) := by decide +kernel
theorem dX11_season_168 : decode cX11_season 168 = .ok (.aload_n 0, 1) := by decide +kernel
theorem dX11_season_169 : decode cX11_season 169 = .ok (.getfield 19, 3) := by decide +kernel
theorem dX11_season_172 : decode cX11_season 172 = .ok (.iload_n 3, 1) := by decide +kernel
theorem dX11_season_173 : decode cX11_season 173 = .ok (.i2l, 1) := by decide +kernel
theorem dX11_season_174 : decode cX11_season 174 = .ok (.invokevirtual 188, 3) := by decide +kernel
theorem dX11_season_177 : decode cX11_season 177 = .ok (.aload_n 0, 1) := by decide +kernel
theorem dX11_season_178 : decode cX11_season 178 = .ok (.getfield 19, 3) := by decide +kernel
theorem dX11_season_181 : decode cX11_season 181 = .ok (.aload_n 0, 1) := by decide +kernel
theorem dX11_season_182 : decode cX11_season 182 = .ok (.getfield 195, 3) := by decide +kernel
theorem dX11_season_185 : decode cX11_season 185 = .ok (.i2l, 1) := by decide +kernel
theorem dX11_season_186 : decode cX11_season 186 = .ok (.invokevirtual 188, 3) := by decide +kernel
theorem dX11_season_189 : decode cX11_season 189 = .ok (.iload_n 2, 1) := by decide +kernel
theorem dX11_season_190 : decode cX11_season 190 = .ok (.ireturn, 1) := by decide +kernel
theorem dX11_undo_0 : decode cX11_undo 0 = .ok (.aload_n 0, 1) := by decide +kernel
theorem dX11_undo_1 : decode cX11_undo 1 = .ok (.getfield 64, 3) := by decide +kernel
theorem dX11_undo_4 : decode cX11_undo 4 = .ok (.aload_n 0, 1) := by decide +kernel
theorem dX11_undo_5 : decode cX11_undo 5 = .ok (.getfield 54, 3) := by decide +kernel
theorem dX11_undo_8 : decode cX11_undo 8 = .ok (.invokevirtual 222, 3) := by decide +kernel
theorem dX11_undo_11 : decode cX11_undo 11 = .ok (.ireturn, 1) := by decide +kernel
theorem dX11_far_0 : decode cX11_far 0 = .ok (.aload_n 0, 1) := by decide +kernel
theorem dX11_far_1 : decode cX11_far 1 = .ok (.getfield 26, 3) := by decide +kernel
theorem dX11_far_4 : decode cX11_far 4 = .ok (.iload_n 1, 1) := by decide +kernel
theorem dX11_far_5 : decode cX11_far 5 = .ok (.invokevirtual 115, 3) := by decide +kernel
theorem dX11_far_8 : decode cX11_far 8 = .ok (.ifCond .eq 14, 3) := by decide +kernel
theorem dX11_far_11 : decode cX11_far 11 = .ok (.aload_n 0, 1) := by decide +kernel
theorem dX11_far_12 : decode cX11_far 12 = .ok (.getfield 26, 3) := by decide +kernel
theorem dX11_far_15 : decode cX11_far 15 = .ok (.iload_n 2, 1) := by decide +kernel
theorem dX11_far_16 : decode cX11_far 16 = .ok (.invokevirtual 115, 3) := by decide +kernel
theorem dX11_far_19 : decode cX11_far 19 = .ok (.ifCond .ne 5, 3) := by decide +kernel
theorem dX11_far_22 : decode cX11_far 22 = .ok (.iconst (-1), 1) := by decide +kernel
theorem dX11_far_23 : decode cX11_far 23 = .ok (.ireturn, 1) := by decide +kernel
theorem dX11_far_24 : decode cX11_far 24 = .ok (.aload_n 0, 1) := by decide +kernel
theorem dX11_far_25 : decode cX11_far 25 = .ok (.getfield 26, 3) := by decide +kernel
theorem dX11_far_28 : decode cX11_far 28 = .ok (.iload_n 1, 1) := by decide +kernel
theorem dX11_far_29 : decode cX11_far 29 = .ok (.iload_n 2, 1) := by decide +kernel
theorem dX11_far_30 : decode cX11_far 30 = .ok (.invokevirtual 137, 3) := by decide +kernel
theorem dX11_far_33 : decode cX11_far 33 = .ok (.istore_n 3, 1) := by decide +kernel
theorem dX11_far_34 : decode cX11_far 34 = .ok (.iload_n 3, 1) := by decide +kernel
theorem dX11_far_35 : decode cX11_far 35 = .ok (.ifCond .ge 6, 3) := by decide +kernel
theorem dX11_far_38 : decode cX11_far 38 = .ok (.bipush (-2), 2) := by decide +kernel
theorem dX11_far_40 : decode cX11_far 40 = .ok (.ireturn, 1) := by decide +kernel
theorem dX11_far_41 : decode cX11_far 41 = .ok (.aload_n 0, 1) := by decide +kernel
theorem dX11_far_42 : decode cX11_far 42 = .ok (.getfield 19, 3) := by decide +kernel
theorem dX11_far_45 : decode cX11_far 45 = .ok (.invokevirtual 184, 3) := by decide +kernel
theorem dX11_far_48 : decode cX11_far 48 = .ok (.aload_n 0, 1) := by decide +kernel
theorem dX11_far_49 : decode cX11_far 49 = .ok (.getfield 26, 3) := by decide +kernel
theorem dX11_far_52 : decode cX11_far 52 = .ok (.iload_n 1, 1) := by decide +kernel
theorem dX11_far_53 : decode cX11_far 53 = .ok (.iload_n 2, 1) := by decide +kernel
theorem dX11_far_54 : decode cX11_far 54 = .ok (.aload_n 0, 1) := by decide +kernel
theorem dX11_far_55 : decode cX11_far 55 = .ok (.getfield 19, 3) := by decide +kernel
theorem dX11_far_58 : decode cX11_far 58 = .ok (.invokevirtual 226, 3) := by decide +kernel
theorem dX11_far_61 : decode cX11_far 61 = .ok (.iload_n 3, 1) := by decide +kernel
theorem dX11_far_62 : decode cX11_far 62 = .ok (.ireturn, 1) := by decide +kernel
theorem dX11_reach_0 : decode cX11_reach 0 = .ok (.aload_n 0, 1) := by decide +kernel
theorem dX11_reach_1 : decode cX11_reach 1 = .ok (.getfield 33, 3) := by decide +kernel
theorem dX11_reach_4 : decode cX11_reach 4 = .ok (.aload_n 0, 1) := by decide +kernel
theorem dX11_reach_5 : decode cX11_reach 5 = .ok (.getfield 54, 3) := by decide +kernel
theorem dX11_reach_8 : decode cX11_reach 8 = .ok (.getfield 127, 3) := by decide +kernel
theorem dX11_reach_11 : decode cX11_reach 11 = .ok (.invokevirtual 230, 3) := by decide +kernel
theorem dX11_reach_14 : decode cX11_reach 14 = .ok (.istore_n 1, 1) := by decide +kernel
theorem dX11_reach_15 : decode cX11_reach 15 = .ok (.aload_n 0, 1) := by decide +kernel
theorem dX11_reach_16 : decode cX11_reach 16 = .ok (.getfield 19, 3) := by decide +kernel
theorem dX11_reach_19 : decode cX11_reach 19 = .ok (.invokevirtual 184, 3) := by decide +kernel
theorem dX11_reach_22 : decode cX11_reach 22 = .ok (.aload_n 0, 1) := by decide +kernel
theorem dX11_reach_23 : decode cX11_reach 23 = .ok (.getfield 19, 3) := by decide +kernel
theorem dX11_reach_26 : decode cX11_reach 26 = .ok (.iload_n 1, 1) := by decide +kernel
theorem dX11_reach_27 : decode cX11_reach 27 = .ok (.i2l, 1) := by decide +kernel
theorem dX11_reach_28 : decode cX11_reach 28 = .ok (.invokevirtual 188, 3) := by decide +kernel
theorem dX11_reach_31 : decode cX11_reach 31 = .ok (.aload_n 0, 1) := by decide +kernel
theorem dX11_reach_32 : decode cX11_reach 32 = .ok (.getfield 26, 3) := by decide +kernel
theorem dX11_reach_35 : decode cX11_reach 35 = .ok (.aload_n 0, 1) := by decide +kernel
theorem dX11_reach_36 : decode cX11_reach 36 = .ok (.getfield 54, 3) := by decide +kernel
theorem dX11_reach_39 : decode cX11_reach 39 = .ok (.getfield 134, 3) := by decide +kernel
theorem dX11_reach_42 : decode cX11_reach 42 = .ok (.iload_n 1, 1) := by decide +kernel
theorem dX11_reach_43 : decode cX11_reach 43 = .ok (.invokevirtual 233, 3) := by decide +kernel
theorem dX11_reach_46 : decode cX11_reach 46 = .ok (.ireturn, 1) := by decide +kernel
theorem dX11_comes_0 : decode cX11_comes 0 = .ok (.aload_n 0, 1) := by decide +kernel
theorem dX11_comes_1 : decode cX11_comes 1 = .ok (.getfield 26, 3) := by decide +kernel
theorem dX11_comes_4 : decode cX11_comes 4 = .ok (.iload_n 1, 1) := by decide +kernel
theorem dX11_comes_5 : decode cX11_comes 5 = .ok (.invokevirtual 115, 3) := by decide +kernel
theorem dX11_comes_8 : decode cX11_comes 8 = .ok (.ifCond .ne 5, 3) := by decide +kernel
theorem dX11_comes_11 : decode cX11_comes 11 = .ok (.iconst (-1), 1) := by decide +kernel
theorem dX11_comes_12 : decode cX11_comes 12 = .ok (.ireturn, 1) := by decide +kernel
theorem dX11_comes_13 : decode cX11_comes 13 = .ok (.aload_n 0, 1) := by decide +kernel
theorem dX11_comes_14 : decode cX11_comes 14 = .ok (.getfield 78, 3) := by decide +kernel
theorem dX11_comes_17 : decode cX11_comes 17 = .ok (.aload_n 0, 1) := by decide +kernel
theorem dX11_comes_18 : decode cX11_comes 18 = .ok (.getfield 26, 3) := by decide +kernel
theorem dX11_comes_21 : decode cX11_comes 21 = .ok (.aload_n 0, 1) := by decide +kernel
theorem dX11_comes_22 : decode cX11_comes 22 = .ok (.getfield 33, 3) := by decide +kernel
theorem dX11_comes_25 : decode cX11_comes 25 = .ok (.aload_n 0, 1) := by decide +kernel
theorem dX11_comes_26 : decode cX11_comes 26 = .ok (.getfield 54, 3) := by decide +kernel
theorem dX11_comes_29 : decode cX11_comes 29 = .ok (.getfield 127, 3) := by decide +kernel
theorem dX11_comes_32 : decode cX11_comes 32 = .ok (.bipush 12, 2) := by decide +kernel
theorem dX11_comes_34 : decode cX11_comes 34 = .ok (.invokevirtual 236, 3) := by decide +kernel
theorem dX11_comes_37 : decode cX11_comes 37 = .ok (.aload_n 0, 1) := by decide +kernel
theorem dX11_comes_38 : decode cX11_comes 38 = .ok (.getfield 78, 3) := by decide +kernel
theorem dX11_comes_41 : decode cX11_comes 41 = .ok (.aload_n 0, 1) := by decide +kernel
theorem dX11_comes_42 : decode cX11_comes 42 = .ok (.getfield 54, 3) := by decide +kernel
theorem dX11_comes_45 : decode cX11_comes 45 = .ok (.getfield 134, 3) := by decide +kernel
theorem dX11_comes_48 : decode cX11_comes 48 = .ok (.iload_n 1, 1) := by decide +kernel
theorem dX11_comes_49 : decode cX11_comes 49 = .ok (.invokevirtual 240, 3) := by decide +kernel
theorem dX11_comes_52 : decode cX11_comes 52 = .ok (.istore_n 2, 1) := by decide +kernel
theorem dX11_comes_53 : decode cX11_comes 53 = .ok (.iload_n 2, 1) := by decide +kernel
theorem dX11_comes_54 : decode cX11_comes 54 = .ok (.ifCond .ge 6, 3) := by decide +kernel
theorem dX11_comes_57 : decode cX11_comes 57 = .ok (.bipush (-2), 2) := by decide +kernel
theorem dX11_comes_59 : decode cX11_comes 59 = .ok (.ireturn, 1) := by decide +kernel
theorem dX11_comes_60 : decode cX11_comes 60 = .ok (.aload_n 0, 1) := by decide +kernel
theorem dX11_comes_61 : decode cX11_comes 61 = .ok (.getfield 19, 3) := by decide +kernel
theorem dX11_comes_64 : decode cX11_comes 64 = .ok (.invokevirtual 184, 3) := by decide +kernel
theorem dX11_comes_67 : decode cX11_comes 67 = .ok (.aload_n 0, 1) := by decide +kernel
theorem dX11_comes_68 : decode cX11_comes 68 = .ok (.getfield 78, 3) := by decide +kernel
theorem dX11_comes_71 : decode cX11_comes 71 = .ok (.iload_n 2, 1) := by decide +kernel
theorem dX11_comes_72 : decode cX11_comes 72 = .ok (.aload_n 0, 1) := by decide +kernel
theorem dX11_comes_73 : decode cX11_comes 73 = .ok (.getfield 19, 3) := by decide +kernel
theorem dX11_comes_76 : decode cX11_comes 76 = .ok (.invokevirtual 243, 3) := by decide +kernel
theorem dX11_comes_79 : decode cX11_comes 79 = .ok (.iload_n 2, 1) := by decide +kernel
theorem dX11_comes_80 : decode cX11_comes 80 = .ok (.ireturn, 1) := by decide +kernel
theorem dX11_round_0 : decode cX11_round 0 = .ok (.aload_n 0, 1) := by decide +kernel
theorem dX11_round_1 : decode cX11_round 1 = .ok (.iload_n 1, 1) := by decide +kernel
theorem dX11_round_2 : decode cX11_round 2 = .ok (.bipush 10, 2) := by decide +kernel
theorem dX11_round_4 : decode cX11_round 4 = .ok (.invokevirtual 247, 3) := by decide +kernel
theorem dX11_round_7 : decode cX11_round 7 = .ok (.ifCond .ne 5, 3) := by decide +kernel
theorem dX11_round_10 : decode cX11_round 10 = .ok (.iconst (-1), 1) := by decide +kernel
theorem dX11_round_11 : decode cX11_round 11 = .ok (.ireturn, 1) := by decide +kernel
theorem dX11_round_12 : decode cX11_round 12 = .ok (.aload_n 0, 1) := by decide +kernel
theorem dX11_round_13 : decode cX11_round 13 = .ok (.iload_n 1, 1) := by decide +kernel
theorem dX11_round_14 : decode cX11_round 14 = .ok (.invokevirtual 251, 3) := by decide +kernel
theorem dX11_round_17 : decode cX11_round 17 = .ok (.aload_n 0, 1) := by decide +kernel
theorem dX11_round_18 : decode cX11_round 18 = .ok (.getfield 19, 3) := by decide +kernel
theorem dX11_round_21 : decode cX11_round 21 = .ok (.invokevirtual 184, 3) := by decide +kernel
theorem dX11_round_24 : decode cX11_round 24 = .ok (.aload_n 0, 1) := by decide +kernel
theorem dX11_round_25 : decode cX11_round 25 = .ok (.getfield 78, 3) := by decide +kernel
theorem dX11_round_28 : decode cX11_round 28 = .ok (.iload_n 1, 1) := by decide +kernel
theorem dX11_round_29 : decode cX11_round 29 = .ok (.aload_n 0, 1) := by decide +kernel
theorem dX11_round_30 : decode cX11_round 30 = .ok (.getfield 19, 3) := by decide +kernel
theorem dX11_round_33 : decode cX11_round 33 = .ok (.invokevirtual 243, 3) := by decide +kernel
theorem dX11_round_36 : decode cX11_round 36 = .ok (.aload_n 0, 1) := by decide +kernel
theorem dX11_round_37 : decode cX11_round 37 = .ok (.getfield 78, 3) := by decide +kernel
theorem dX11_round_40 : decode cX11_round 40 = .ok (.invokevirtual 255, 3) := by decide +kernel
theorem dX11_round_43 : decode cX11_round 43 = .ok (.ireturn, 1) := by decide +kernel
theorem dX11_richest_0 : decode cX11_richest 0 = .ok (.aload_n 0, 1) := by decide +kernel
theorem dX11_richest_1 : decode cX11_richest 1 = .ok (.iload_n 1, 1) := by decide +kernel
theorem dX11_richest_2 : decode cX11_richest 2 = .ok (.bipush 10, 2) := by decide +kernel
theorem dX11_richest_4 : decode cX11_richest 4 = .ok (.invokevirtual 247, 3) := by decide +kernel
theorem dX11_richest_7 : decode cX11_richest 7 = .ok (.ifCond .ne 5, 3) := by decide +kernel
theorem dX11_richest_10 : decode cX11_richest 10 = .ok (.iconst (-1), 1) := by decide +kernel
theorem dX11_richest_11 : decode cX11_richest 11 = .ok (.ireturn, 1) := by decide +kernel
theorem dX11_richest_12 : decode cX11_richest 12 = .ok (.aload_n 0, 1) := by decide +kernel
theorem dX11_richest_13 : decode cX11_richest 13 = .ok (.iload_n 1, 1) := by decide +kernel
theorem dX11_richest_14 : decode cX11_richest 14 = .ok (.invokevirtual 258, 3) := by decide +kernel
theorem dX11_richest_17 : decode cX11_richest 17 = .ok (.aload_n 0, 1) := by decide +kernel
theorem dX11_richest_18 : decode cX11_richest 18 = .ok (.getfield 19, 3) := by decide +kernel
theorem dX11_richest_21 : decode cX11_richest 21 = .ok (.invokevirtual 184, 3) := by decide +kernel
theorem dX11_richest_24 : decode cX11_richest 24 = .ok (.aload_n 0, 1) := by decide +kernel
theorem dX11_richest_25 : decode cX11_richest 25 = .ok (.getfield 78, 3) := by decide +kernel
theorem dX11_richest_28 : decode cX11_richest 28 = .ok (.iload_n 1, 1) := by decide +kernel
theorem dX11_richest_29 : decode cX11_richest 29 = .ok (.aload_n 0, 1) := by decide +kernel
theorem dX11_richest_30 : decode cX11_richest 30 = .ok (.getfield 19, 3) := by decide +kernel
theorem dX11_richest_33 : decode cX11_richest 33 = .ok (.invokevirtual 243, 3) := by decide +kernel
theorem dX11_richest_36 : decode cX11_richest 36 = .ok (.aload_n 0, 1) := by decide +kernel
theorem dX11_richest_37 : decode cX11_richest 37 = .ok (.getfield 78, 3) := by decide +kernel
theorem dX11_richest_40 : decode cX11_richest 40 = .ok (.invokevirtual 255, 3) := by decide +kernel
theorem dX11_richest_43 : decode cX11_richest 43 = .ok (.ireturn, 1) := by decide +kernel
theorem dX11_all_0 : decode cX11_all 0 = .ok (.aload_n 0, 1) := by decide +kernel
theorem dX11_all_1 : decode cX11_all 1 = .ok (.getfield 26, 3) := by decide +kernel
theorem dX11_all_4 : decode cX11_all 4 = .ok (.getfield 261, 3) := by decide +kernel
theorem dX11_all_7 : decode cX11_all 7 = .ok (.ifCond .eq 14, 3) := by decide +kernel
theorem dX11_all_10 : decode cX11_all 10 = .ok (.aload_n 0, 1) := by decide +kernel
theorem dX11_all_11 : decode cX11_all 11 = .ok (.getfield 40, 3) := by decide +kernel
theorem dX11_all_14 : decode cX11_all 14 = .ok (.iload_n 1, 1) := by decide +kernel
theorem dX11_all_15 : decode cX11_all 15 = .ok (.invokevirtual 264, 3) := by decide +kernel
theorem dX11_all_18 : decode cX11_all 18 = .ok (.ifCond .ne 5, 3) := by decide +kernel
theorem dX11_all_21 : decode cX11_all 21 = .ok (.iconst (-1), 1) := by decide +kernel
theorem dX11_all_22 : decode cX11_all 22 = .ok (.ireturn, 1) := by decide +kernel
theorem dX11_all_23 : decode cX11_all 23 = .ok (.aload_n 0, 1) := by decide +kernel
theorem dX11_all_24 : decode cX11_all 24 = .ok (.bipush 10, 2) := by decide +kernel
theorem dX11_all_26 : decode cX11_all 26 = .ok (.invokevirtual 267, 3) := by decide +kernel
theorem dX11_all_29 : decode cX11_all 29 = .ok (.aload_n 0, 1) := by decide +kernel
theorem dX11_all_30 : decode cX11_all 30 = .ok (.getfield 78, 3) := by decide +kernel
theorem dX11_all_33 : decode cX11_all 33 = .ok (.aload_n 0, 1) := by decide +kernel
theorem dX11_all_34 : decode cX11_all 34 = .ok (.getfield 54, 3) := by decide +kernel
theorem dX11_all_37 : decode cX11_all 37 = .ok (.getfield 134, 3) := by decide +kernel
theorem dX11_all_40 : decode cX11_all 40 = .ok (.aload_n 0, 1) := by decide +kernel
theorem dX11_all_41 : decode cX11_all 41 = .ok (.getfield 54, 3) := by decide +kernel
theorem dX11_all_44 : decode cX11_all 44 = .ok (.getfield 270, 3) := by decide +kernel
theorem dX11_all_47 : decode cX11_all 47 = .ok (.bipush 10, 2) := by decide +kernel
theorem dX11_all_49 : decode cX11_all 49 = .ok (.invokevirtual 273, 3) := by decide +kernel
theorem dX11_all_52 : decode cX11_all 52 = .ok (.aload_n 0, 1) := by decide +kernel
theorem dX11_all_53 : decode cX11_all 53 = .ok (.getfield 78, 3) := by decide +kernel
theorem dX11_all_56 : decode cX11_all 56 = .ok (.iload_n 1, 1) := by decide +kernel
theorem dX11_all_57 : decode cX11_all 57 = .ok (.invokevirtual 277, 3) := by decide +kernel
theorem dX11_all_60 : decode cX11_all 60 = .ok (.istore_n 2, 1) := by decide +kernel
theorem dX11_all_61 : decode cX11_all 61 = .ok (.iload_n 2, 1) := by decide +kernel
theorem dX11_all_62 : decode cX11_all 62 = .ok (.ifCond .ge 6, 3) := by decide +kernel
theorem dX11_all_65 : decode cX11_all 65 = .ok (.bipush (-2), 2) := by decide +kernel
theorem dX11_all_67 : decode cX11_all 67 = .ok (.ireturn, 1) := by decide +kernel
theorem dX11_all_68 : decode cX11_all 68 = .ok (.aload_n 0, 1) := by decide +kernel
theorem dX11_all_69 : decode cX11_all 69 = .ok (.getfield 78, 3) := by decide +kernel
theorem dX11_all_72 : decode cX11_all 72 = .ok (.iload_n 1, 1) := by decide +kernel
theorem dX11_all_73 : decode cX11_all 73 = .ok (.invokevirtual 280, 3) := by decide +kernel
theorem dX11_all_76 : decode cX11_all 76 = .ok (.aload_n 0, 1) := by decide +kernel
theorem dX11_all_77 : decode cX11_all 77 = .ok (.getfield 78, 3) := by decide +kernel
theorem dX11_all_80 : decode cX11_all 80 = .ok (.iload_n 2, 1) := by decide +kernel
theorem dX11_all_81 : decode cX11_all 81 = .ok (.invokevirtual 283, 3) := by decide +kernel
theorem dX11_all_84 : decode cX11_all 84 = .ok (.aload_n 0, 1) := by decide +kernel
theorem dX11_all_85 : decode cX11_all 85 = .ok (.getfield 19, 3) := by decide +kernel
theorem dX11_all_88 : decode cX11_all 88 = .ok (.invokevirtual 184, 3) := by decide +kernel
theorem dX11_all_91 : decode cX11_all 91 = .ok (.aload_n 0, 1) := by decide +kernel
theorem dX11_all_92 : decode cX11_all 92 = .ok (.getfield 78, 3) := by decide +kernel
theorem dX11_all_95 : decode cX11_all 95 = .ok (.iload_n 2, 1) := by decide +kernel
theorem dX11_all_96 : decode cX11_all 96 = .ok (.aload_n 0, 1) := by decide +kernel
theorem dX11_all_97 : decode cX11_all 97 = .ok (.getfield 19, 3) := by decide +kernel
theorem dX11_all_100 : decode cX11_all 100 = .ok (.invokevirtual 243, 3) := by decide +kernel
theorem dX11_all_103 : decode cX11_all 103 = .ok (.iload_n 2, 1) := by decide +kernel
theorem dX11_all_104 : decode cX11_all 104 = .ok (.ireturn, 1) := by decide +kernel
theorem dX11_clash_0 : decode cX11_clash 0 = .ok (.aload_n 0, 1) := by decide +kernel
theorem dX11_clash_1 : decode cX11_clash 1 = .ok (.getfield 26, 3) := by decide +kernel
theorem dX11_clash_4 : decode cX11_clash 4 = .ok (.getfield 261, 3) := by decide +kernel
theorem dX11_clash_7 : decode cX11_clash 7 = .ok (.ifCond .ne 5, 3) := by decide +kernel
theorem dX11_clash_10 : decode cX11_clash 10 = .ok (.iconst (-1), 1) := by decide +kernel
theorem dX11_clash_11 : decode cX11_clash 11 = .ok (.ireturn, 1) := by decide +kernel
theorem dX11_clash_12 : decode cX11_clash 12 = .ok (.aload_n 0, 1) := by decide +kernel
theorem dX11_clash_13 : decode cX11_clash 13 = .ok (.bipush 10, 2) := by decide +kernel
theorem dX11_clash_15 : decode cX11_clash 15 = .ok (.invokevirtual 267, 3) := by decide +kernel
theorem dX11_clash_18 : decode cX11_clash 18 = .ok (.aload_n 0, 1) := by decide +kernel
theorem dX11_clash_19 : decode cX11_clash 19 = .ok (.getfield 78, 3) := by decide +kernel
theorem dX11_clash_22 : decode cX11_clash 22 = .ok (.aload_n 0, 1) := by decide +kernel
theorem dX11_clash_23 : decode cX11_clash 23 = .ok (.getfield 54, 3) := by decide +kernel
theorem dX11_clash_26 : decode cX11_clash 26 = .ok (.getfield 134, 3) := by decide +kernel
theorem dX11_clash_29 : decode cX11_clash 29 = .ok (.aload_n 0, 1) := by decide +kernel
theorem dX11_clash_30 : decode cX11_clash 30 = .ok (.getfield 54, 3) := by decide +kernel
theorem dX11_clash_33 : decode cX11_clash 33 = .ok (.getfield 270, 3) := by decide +kernel
theorem dX11_clash_36 : decode cX11_clash 36 = .ok (.bipush 10, 2) := by decide +kernel
theorem dX11_clash_38 : decode cX11_clash 38 = .ok (.invokevirtual 273, 3) := by decide +kernel
theorem dX11_clash_41 : decode cX11_clash 41 = .ok (.aload_n 0, 1) := by decide +kernel
theorem dX11_clash_42 : decode cX11_clash 42 = .ok (.getfield 78, 3) := by decide +kernel
theorem dX11_clash_45 : decode cX11_clash 45 = .ok (.bipush 10, 2) := by decide +kernel
theorem dX11_clash_47 : decode cX11_clash 47 = .ok (.invokevirtual 286, 3) := by decide +kernel
theorem dX11_clash_50 : decode cX11_clash 50 = .ok (.aload_n 0, 1) := by decide +kernel
theorem dX11_clash_51 : decode cX11_clash 51 = .ok (.getfield 78, 3) := by decide +kernel
theorem dX11_clash_54 : decode cX11_clash 54 = .ok (.aload_n 0, 1) := by decide +kernel
theorem dX11_clash_55 : decode cX11_clash 55 = .ok (.getfield 54, 3) := by decide +kernel
theorem dX11_clash_58 : decode cX11_clash 58 = .ok (.getfield 270, 3) := by decide +kernel
theorem dX11_clash_61 : decode cX11_clash 61 = .ok (.invokevirtual 289, 3) := by decide +kernel
theorem dX11_clash_64 : decode cX11_clash 64 = .ok (.istore_n 1, 1) := by decide +kernel
theorem dX11_clash_65 : decode cX11_clash 65 = .ok (.iload_n 1, 1) := by decide +kernel
theorem dX11_clash_66 : decode cX11_clash 66 = .ok (.ifCond .ge 6, 3) := by decide +kernel
theorem dX11_clash_69 : decode cX11_clash 69 = .ok (.bipush (-2), 2) := by decide +kernel
theorem dX11_clash_71 : decode cX11_clash 71 = .ok (.ireturn, 1) := by decide +kernel
theorem dX11_clash_72 : decode cX11_clash 72 = .ok (.aload_n 0, 1) := by decide +kernel
theorem dX11_clash_73 : decode cX11_clash 73 = .ok (.getfield 19, 3) := by decide +kernel
theorem dX11_clash_76 : decode cX11_clash 76 = .ok (.invokevirtual 184, 3) := by decide +kernel
theorem dX11_clash_79 : decode cX11_clash 79 = .ok (.aload_n 0, 1) := by decide +kernel
theorem dX11_clash_80 : decode cX11_clash 80 = .ok (.getfield 19, 3) := by decide +kernel
theorem dX11_clash_83 : decode cX11_clash 83 = .ok (.iload_n 1, 1) := by decide +kernel
theorem dX11_clash_84 : decode cX11_clash 84 = .ok (.invokestatic 292, 3) := by decide +kernel
theorem dX11_clash_87 : decode cX11_clash 87 = .ok (.i2l, 1) := by decide +kernel
theorem dX11_clash_88 : decode cX11_clash 88 = .ok (.invokevirtual 188, 3) := by decide +kernel
theorem dX11_clash_91 : decode cX11_clash 91 = .ok (.iload_n 1, 1) := by decide +kernel
theorem dX11_clash_92 : decode cX11_clash 92 = .ok (.ireturn, 1) := by decide +kernel
theorem dX11_worth_0 : decode cX11_worth 0 = .ok (.aload_n 0, 1) := by decide +kernel
theorem dX11_worth_1 : decode cX11_worth 1 = .ok (.getfield 40, 3) := by decide +kernel
theorem dX11_worth_4 : decode cX11_worth 4 = .ok (.iload_n 1, 1) := by decide +kernel
theorem dX11_worth_5 : decode cX11_worth 5 = .ok (.invokevirtual 141, 3) := by decide +kernel
theorem dX11_worth_8 : decode cX11_worth 8 = .ok (.ifCond .eq 13, 3) := by decide +kernel
theorem dX11_worth_11 : decode cX11_worth 11 = .ok (.aload_n 0, 1) := by decide +kernel
theorem dX11_worth_12 : decode cX11_worth 12 = .ok (.iload_n 2, 1) := by decide +kernel
theorem dX11_worth_13 : decode cX11_worth 13 = .ok (.bipush 10, 2) := by decide +kernel
theorem dX11_worth_15 : decode cX11_worth 15 = .ok (.invokevirtual 247, 3) := by decide +kernel
theorem dX11_worth_18 : decode cX11_worth 18 = .ok (.ifCond .ne 5, 3) := by decide +kernel
theorem dX11_worth_21 : decode cX11_worth 21 = .ok (.iconst (-1), 1) := by decide +kernel
theorem dX11_worth_22 : decode cX11_worth 22 = .ok (.ireturn, 1) := by decide +kernel
theorem dX11_worth_23 : decode cX11_worth 23 = .ok (.aload_n 0, 1) := by decide +kernel
theorem dX11_worth_24 : decode cX11_worth 24 = .ok (.getfield 54, 3) := by decide +kernel
theorem dX11_worth_27 : decode cX11_worth 27 = .ok (.iload_n 1, 1) := by decide +kernel
theorem dX11_worth_28 : decode cX11_worth 28 = .ok (.invokevirtual 157, 3) := by decide +kernel
theorem dX11_worth_31 : decode cX11_worth 31 = .ok (.ifCond .eq 6, 3) := by decide +kernel
theorem dX11_worth_34 : decode cX11_worth 34 = .ok (.bipush (-2), 2) := by decide +kernel
theorem dX11_worth_36 : decode cX11_worth 36 = .ok (.ireturn, 1) := by decide +kernel
theorem dX11_worth_37 : decode cX11_worth 37 = .ok (.aload_n 0, 1) := by decide +kernel
theorem dX11_worth_38 : decode cX11_worth 38 = .ok (.iload_n 2, 1) := by decide +kernel
theorem dX11_worth_39 : decode cX11_worth 39 = .ok (.invokevirtual 267, 3) := by decide +kernel
theorem dX11_worth_42 : decode cX11_worth 42 = .ok (.aload_n 0, 1) := by decide +kernel
theorem dX11_worth_43 : decode cX11_worth 43 = .ok (.getfield 78, 3) := by decide +kernel
theorem dX11_worth_46 : decode cX11_worth 46 = .ok (.aload_n 0, 1) := by decide +kernel
theorem dX11_worth_47 : decode cX11_worth 47 = .ok (.getfield 40, 3) := by decide +kernel
theorem dX11_worth_50 : decode cX11_worth 50 = .ok (.iconst 1, 1) := by decide +kernel
theorem dX11_worth_51 : decode cX11_worth 51 = .ok (.invokevirtual 297, 3) := by decide +kernel
theorem dX11_worth_54 : decode cX11_worth 54 = .ok (.aload_n 0, 1) := by decide +kernel
theorem dX11_worth_55 : decode cX11_worth 55 = .ok (.getfield 78, 3) := by decide +kernel
theorem dX11_worth_58 : decode cX11_worth 58 = .ok (.aload_n 0, 1) := by decide +kernel
theorem dX11_worth_59 : decode cX11_worth 59 = .ok (.getfield 54, 3) := by decide +kernel
theorem dX11_worth_62 : decode cX11_worth 62 = .ok (.getfield 134, 3) := by decide +kernel
theorem dX11_worth_65 : decode cX11_worth 65 = .ok (.aload_n 0, 1) := by decide +kernel
theorem dX11_worth_66 : decode cX11_worth 66 = .ok (.getfield 54, 3) := by decide +kernel
theorem dX11_worth_69 : decode cX11_worth 69 = .ok (.getfield 270, 3) := by decide +kernel
theorem dX11_worth_72 : decode cX11_worth 72 = .ok (.iload_n 2, 1) := by decide +kernel
theorem dX11_worth_73 : decode cX11_worth 73 = .ok (.invokevirtual 301, 3) := by decide +kernel
theorem dX11_worth_76 : decode cX11_worth 76 = .ok (.istore_n 3, 1) := by decide +kernel
theorem dX11_worth_77 : decode cX11_worth 77 = .ok (.aload_n 0, 1) := by decide +kernel
theorem dX11_worth_78 : decode cX11_worth 78 = .ok (.getfield 78, 3) := by decide +kernel
theorem dX11_worth_81 : decode cX11_worth 81 = .ok (.aload_n 0, 1) := by decide +kernel
theorem dX11_worth_82 : decode cX11_worth 82 = .ok (.getfield 54, 3) := by decide +kernel
theorem dX11_worth_85 : decode cX11_worth 85 = .ok (.getfield 134, 3) := by decide +kernel
theorem dX11_worth_88 : decode cX11_worth 88 = .ok (.aload_n 0, 1) := by decide +kernel
theorem dX11_worth_89 : decode cX11_worth 89 = .ok (.getfield 54, 3) := by decide +kernel
theorem dX11_worth_92 : decode cX11_worth 92 = .ok (.getfield 270, 3) := by decide +kernel
theorem dX11_worth_95 : decode cX11_worth 95 = .ok (.iconst 1, 1) := by decide +kernel
theorem dX11_worth_96 : decode cX11_worth 96 = .ok (.iload_n 1, 1) := by decide +kernel
theorem dX11_worth_97 : decode cX11_worth 97 = .ok (.ishl, 1) := by decide +kernel
theorem dX11_worth_98 : decode cX11_worth 98 = .ok (.ior, 1) := by decide +kernel
theorem dX11_worth_99 : decode cX11_worth 99 = .ok (.iload_n 2, 1) := by decide +kernel
theorem dX11_worth_100 : decode cX11_worth 100 = .ok (.invokevirtual 301, 3) := by decide +kernel
theorem dX11_worth_103 : decode cX11_worth 103 = .ok (.istore 4, 2) := by decide +kernel
theorem dX11_worth_105 : decode cX11_worth 105 = .ok (.iload_n 3, 1) := by decide +kernel
theorem dX11_worth_106 : decode cX11_worth 106 = .ok (.iload 4, 2) := by decide +kernel
theorem dX11_worth_108 : decode cX11_worth 108 = .ok (.isub, 1) := by decide +kernel
theorem dX11_worth_109 : decode cX11_worth 109 = .ok (.ireturn, 1) := by decide +kernel
theorem dX11_longer_0 : decode cX11_longer 0 = .ok (.aload_n 0, 1) := by decide +kernel
theorem dX11_longer_1 : decode cX11_longer 1 = .ok (.iload_n 1, 1) := by decide +kernel
theorem dX11_longer_2 : decode cX11_longer 2 = .ok (.bipush 10, 2) := by decide +kernel
theorem dX11_longer_4 : decode cX11_longer 4 = .ok (.invokevirtual 247, 3) := by decide +kernel
theorem dX11_longer_7 : decode cX11_longer 7 = .ok (.ifCond .ne 5, 3) := by decide +kernel
theorem dX11_longer_10 : decode cX11_longer 10 = .ok (.iconst (-1), 1) := by decide +kernel
theorem dX11_longer_11 : decode cX11_longer 11 = .ok (.ireturn, 1) := by decide +kernel
theorem dX11_longer_12 : decode cX11_longer 12 = .ok (.aload_n 0, 1) := by decide +kernel
theorem dX11_longer_13 : decode cX11_longer 13 = .ok (.iload_n 1, 1) := by decide +kernel
theorem dX11_longer_14 : decode cX11_longer 14 = .ok (.invokevirtual 267, 3) := by decide +kernel
theorem dX11_longer_17 : decode cX11_longer 17 = .ok (.aload_n 0, 1) := by decide +kernel
theorem dX11_longer_18 : decode cX11_longer 18 = .ok (.getfield 78, 3) := by decide +kernel
theorem dX11_longer_21 : decode cX11_longer 21 = .ok (.aload_n 0, 1) := by decide +kernel
theorem dX11_longer_22 : decode cX11_longer 22 = .ok (.getfield 40, 3) := by decide +kernel
theorem dX11_longer_25 : decode cX11_longer 25 = .ok (.iconst 1, 1) := by decide +kernel
theorem dX11_longer_26 : decode cX11_longer 26 = .ok (.invokevirtual 297, 3) := by decide +kernel
theorem dX11_longer_29 : decode cX11_longer 29 = .ok (.aload_n 0, 1) := by decide +kernel
theorem dX11_longer_30 : decode cX11_longer 30 = .ok (.getfield 78, 3) := by decide +kernel
theorem dX11_longer_33 : decode cX11_longer 33 = .ok (.aload_n 0, 1) := by decide +kernel
theorem dX11_longer_34 : decode cX11_longer 34 = .ok (.getfield 54, 3) := by decide +kernel
theorem dX11_longer_37 : decode cX11_longer 37 = .ok (.getfield 134, 3) := by decide +kernel
theorem dX11_longer_40 : decode cX11_longer 40 = .ok (.aload_n 0, 1) := by decide +kernel
theorem dX11_longer_41 : decode cX11_longer 41 = .ok (.getfield 54, 3) := by decide +kernel
theorem dX11_longer_44 : decode cX11_longer 44 = .ok (.getfield 270, 3) := by decide +kernel
theorem dX11_longer_47 : decode cX11_longer 47 = .ok (.iload_n 1, 1) := by decide +kernel
theorem dX11_longer_48 : decode cX11_longer 48 = .ok (.invokevirtual 301, 3) := by decide +kernel
theorem dX11_longer_51 : decode cX11_longer 51 = .ok (.istore_n 2, 1) := by decide +kernel
theorem dX11_longer_52 : decode cX11_longer 52 = .ok (.iconst 0, 1) := by decide +kernel
theorem dX11_longer_53 : decode cX11_longer 53 = .ok (.istore_n 3, 1) := by decide +kernel
theorem dX11_longer_54 : decode cX11_longer 54 = .ok (.iconst (-1), 1) := by decide +kernel
theorem dX11_longer_55 : decode cX11_longer 55 = .ok (.istore 4, 2) := by decide +kernel
theorem dX11_longer_57 : decode cX11_longer 57 = .ok (.iconst 0, 1) := by decide +kernel
theorem dX11_longer_58 : decode cX11_longer 58 = .ok (.istore 5, 2) := by decide +kernel
theorem dX11_longer_60 : decode cX11_longer 60 = .ok (.iload 5, 2) := by decide +kernel
theorem dX11_longer_62 : decode cX11_longer 62 = .ok (.aload_n 0, 1) := by decide +kernel
theorem dX11_longer_63 : decode cX11_longer 63 = .ok (.getfield 40, 3) := by decide +kernel
theorem dX11_longer_66 : decode cX11_longer 66 = .ok (.getfield 305, 3) := by decide +kernel
theorem dX11_longer_69 : decode cX11_longer 69 = .ok (.if_icmp .ge 33, 3) := by decide +kernel
theorem dX11_longer_72 : decode cX11_longer 72 = .ok (.aload_n 0, 1) := by decide +kernel
theorem dX11_longer_73 : decode cX11_longer 73 = .ok (.iload 5, 2) := by decide +kernel
theorem dX11_longer_75 : decode cX11_longer 75 = .ok (.iload_n 1, 1) := by decide +kernel
theorem dX11_longer_76 : decode cX11_longer 76 = .ok (.invokevirtual 308, 3) := by decide +kernel
theorem dX11_longer_79 : decode cX11_longer 79 = .ok (.iload_n 2, 1) := by decide +kernel
theorem dX11_longer_80 : decode cX11_longer 80 = .ok (.isub, 1) := by decide +kernel
theorem dX11_longer_81 : decode cX11_longer 81 = .ok (.istore 6, 2) := by decide +kernel
theorem dX11_longer_83 : decode cX11_longer 83 = .ok (.iload 6, 2) := by decide +kernel
theorem dX11_longer_85 : decode cX11_longer 85 = .ok (.iload_n 3, 1) := by decide +kernel
theorem dX11_longer_86 : decode cX11_longer 86 = .ok (.if_icmp .le 10, 3) := by decide +kernel
theorem dX11_longer_89 : decode cX11_longer 89 = .ok (.iload 6, 2) := by decide +kernel
theorem dX11_longer_91 : decode cX11_longer 91 = .ok (.istore_n 3, 1) := by decide +kernel
theorem dX11_longer_92 : decode cX11_longer 92 = .ok (.iload 5, 2) := by decide +kernel
theorem dX11_longer_94 : decode cX11_longer 94 = .ok (.istore 4, 2) := by decide +kernel
theorem dX11_longer_96 : decode cX11_longer 96 = .ok (.iinc 5 1, 3) := by decide +kernel
theorem dX11_longer_99 : decode cX11_longer 99 = .ok (.goto (-39), 3) := by decide +kernel
theorem dX11_longer_102 : decode cX11_longer 102 = .ok (.iload 4, 2) := by decide +kernel
theorem dX11_longer_104 : decode cX11_longer 104 = .ok (.ifCond .ge 6, 3) := by decide +kernel
theorem dX11_longer_107 : decode cX11_longer 107 = .ok (.bipush (-2), 2) := by decide +kernel
theorem dX11_longer_109 : decode cX11_longer 109 = .ok (.ireturn, 1) := by decide +kernel
theorem dX11_longer_110 : decode cX11_longer 110 = .ok (.aload_n 0, 1) := by decide +kernel
theorem dX11_longer_111 : decode cX11_longer 111 = .ok (.getfield 19, 3) := by decide +kernel
theorem dX11_longer_114 : decode cX11_longer 114 = .ok (.invokevirtual 184, 3) := by decide +kernel
theorem dX11_longer_117 : decode cX11_longer 117 = .ok (.aload_n 0, 1) := by decide +kernel
theorem dX11_longer_118 : decode cX11_longer 118 = .ok (.getfield 19, 3) := by decide +kernel
theorem dX11_longer_121 : decode cX11_longer 121 = .ok (.iload_n 3, 1) := by decide +kernel
theorem dX11_longer_122 : decode cX11_longer 122 = .ok (.i2l, 1) := by decide +kernel
theorem dX11_longer_123 : decode cX11_longer 123 = .ok (.invokevirtual 188, 3) := by decide +kernel
theorem dX11_longer_126 : decode cX11_longer 126 = .ok (.iload 4, 2) := by decide +kernel
theorem dX11_longer_128 : decode cX11_longer 128 = .ok (.ireturn, 1) := by decide +kernel
theorem dX11_learns_0 : decode cX11_learns 0 = .ok (.aload_n 0, 1) := by decide +kernel
theorem dX11_learns_1 : decode cX11_learns 1 = .ok (.iload_n 1, 1) := by decide +kernel
theorem dX11_learns_2 : decode cX11_learns 2 = .ok (.bipush 10, 2) := by decide +kernel
theorem dX11_learns_4 : decode cX11_learns 4 = .ok (.invokevirtual 247, 3) := by decide +kernel
theorem dX11_learns_7 : decode cX11_learns 7 = .ok (.ifCond .ne 5, 3) := by decide +kernel
theorem dX11_learns_10 : decode cX11_learns 10 = .ok (.iconst (-1), 1) := by decide +kernel
theorem dX11_learns_11 : decode cX11_learns 11 = .ok (.ireturn, 1) := by decide +kernel
theorem dX11_learns_12 : decode cX11_learns 12 = .ok (.aload_n 0, 1) := by decide +kernel
theorem dX11_learns_13 : decode cX11_learns 13 = .ok (.iload_n 1, 1) := by decide +kernel
theorem dX11_learns_14 : decode cX11_learns 14 = .ok (.invokevirtual 251, 3) := by decide +kernel
theorem dX11_learns_17 : decode cX11_learns 17 = .ok (.iconst 0, 1) := by decide +kernel
theorem dX11_learns_18 : decode cX11_learns 18 = .ok (.istore_n 2, 1) := by decide +kernel
theorem dX11_learns_19 : decode cX11_learns 19 = .ok (.iconst (-1), 1) := by decide +kernel
theorem dX11_learns_20 : decode cX11_learns 20 = .ok (.istore_n 3, 1) := by decide +kernel
theorem dX11_learns_21 : decode cX11_learns 21 = .ok (.iconst 0, 1) := by decide +kernel
theorem dX11_learns_22 : decode cX11_learns 22 = .ok (.istore 4, 2) := by decide +kernel
theorem dX11_learns_24 : decode cX11_learns 24 = .ok (.iconst 1, 1) := by decide +kernel
theorem dX11_learns_25 : decode cX11_learns 25 = .ok (.istore 5, 2) := by decide +kernel
theorem dX11_learns_27 : decode cX11_learns 27 = .ok (.iload 5, 2) := by decide +kernel
theorem dX11_learns_29 : decode cX11_learns 29 = .ok (.iload_n 1, 1) := by decide +kernel
theorem dX11_learns_30 : decode cX11_learns 30 = .ok (.if_icmp .gt 61, 3) := by decide +kernel
theorem dX11_learns_33 : decode cX11_learns 33 = .ok (.aload_n 0, 1) := by decide +kernel
theorem dX11_learns_34 : decode cX11_learns 34 = .ok (.getfield 40, 3) := by decide +kernel
theorem dX11_learns_37 : decode cX11_learns 37 = .ok (.aload_n 0, 1) := by decide +kernel
theorem dX11_learns_38 : decode cX11_learns 38 = .ok (.getfield 78, 3) := by decide +kernel
theorem dX11_learns_41 : decode cX11_learns 41 = .ok (.iload 5, 2) := by decide +kernel
theorem dX11_learns_43 : decode cX11_learns 43 = .ok (.invokevirtual 311, 3) := by decide +kernel
theorem dX11_learns_46 : decode cX11_learns 46 = .ok (.invokevirtual 314, 3) := by decide +kernel
theorem dX11_learns_49 : decode cX11_learns 49 = .ok (.istore 6, 2) := by decide +kernel
theorem dX11_learns_51 : decode cX11_learns 51 = .ok (.iload_n 2, 1) := by decide +kernel
theorem dX11_learns_52 : decode cX11_learns 52 = .ok (.iload 6, 2) := by decide +kernel
theorem dX11_learns_54 : decode cX11_learns 54 = .ok (.iadd, 1) := by decide +kernel
theorem dX11_learns_55 : decode cX11_learns 55 = .ok (.istore_n 2, 1) := by decide +kernel
theorem dX11_learns_56 : decode cX11_learns 56 = .ok (.iload 4, 2) := by decide +kernel
theorem dX11_learns_58 : decode cX11_learns 58 = .ok (.iload 6, 2) := by decide +kernel
theorem dX11_learns_60 : decode cX11_learns 60 = .ok (.ifCond .le 7, 3) := by decide +kernel
theorem dX11_learns_63 : decode cX11_learns 63 = .ok (.iconst 1, 1) := by decide +kernel
theorem dX11_learns_64 : decode cX11_learns 64 = .ok (.goto 4, 3) := by decide +kernel
theorem dX11_learns_67 : decode cX11_learns 67 = .ok (.iconst 0, 1) := by decide +kernel
theorem dX11_learns_68 : decode cX11_learns 68 = .ok (.iadd, 1) := by decide +kernel
theorem dX11_learns_69 : decode cX11_learns 69 = .ok (.istore 4, 2) := by decide +kernel
theorem dX11_learns_71 : decode cX11_learns 71 = .ok (.iload_n 2, 1) := by decide +kernel
theorem dX11_learns_72 : decode cX11_learns 72 = .ok (.bipush 9, 2) := by decide +kernel
theorem dX11_learns_74 : decode cX11_learns 74 = .ok (.if_icmp .lt 11, 3) := by decide +kernel
theorem dX11_learns_77 : decode cX11_learns 77 = .ok (.iload_n 3, 1) := by decide +kernel
theorem dX11_learns_78 : decode cX11_learns 78 = .ok (.iconst (-1), 1) := by decide +kernel
theorem dX11_learns_79 : decode cX11_learns 79 = .ok (.if_icmp .ne 6, 3) := by decide +kernel
theorem dX11_learns_82 : decode cX11_learns 82 = .ok (.iload 5, 2) := by decide +kernel
theorem dX11_learns_84 : decode cX11_learns 84 = .ok (.istore_n 3, 1) := by decide +kernel
theorem dX11_learns_85 : decode cX11_learns 85 = .ok (.iinc 5 1, 3) := by decide +kernel
theorem dX11_learns_88 : decode cX11_learns 88 = .ok (.goto (-61), 3) := by decide +kernel
theorem dX11_learns_91 : decode cX11_learns 91 = .ok (.aload_n 0, 1) := by decide +kernel
theorem dX11_learns_92 : decode cX11_learns 92 = .ok (.getfield 19, 3) := by decide +kernel
theorem dX11_learns_95 : decode cX11_learns 95 = .ok (.invokevirtual 184, 3) := by decide +kernel
theorem dX11_learns_98 : decode cX11_learns 98 = .ok (.aload_n 0, 1) := by decide +kernel
theorem dX11_learns_99 : decode cX11_learns 99 = .ok (.getfield 19, 3) := by decide +kernel
theorem dX11_learns_102 : decode cX11_learns 102 = .ok (.iload_n 3, 1) := by decide +kernel
theorem dX11_learns_103 : decode cX11_learns 103 = .ok (.i2l, 1) := by decide +kernel
theorem dX11_learns_104 : decode cX11_learns 104 = .ok (.invokevirtual 188, 3) := by decide +kernel
theorem dX11_learns_107 : decode cX11_learns 107 = .ok (.aload_n 0, 1) := by decide +kernel
theorem dX11_learns_108 : decode cX11_learns 108 = .ok (.getfield 19, 3) := by decide +kernel
theorem dX11_learns_111 : decode cX11_learns 111 = .ok (.iload 4, 2) := by decide +kernel
theorem dX11_learns_113 : decode cX11_learns 113 = .ok (.i2l, 1) := by decide +kernel
theorem dX11_learns_114 : decode cX11_learns 114 = .ok (.invokevirtual 188, 3) := by decide +kernel
theorem dX11_learns_117 : decode cX11_learns 117 = .ok (.iload_n 2, 1) := by decide +kernel
theorem dX11_learns_118 : decode cX11_learns 118 = .ok (.ireturn, 1) := by decide +kernel
theorem dX11_second_0 : decode cX11_second 0 = .ok (.aload_n 0, 1) := by decide +kernel
theorem dX11_second_1 : decode cX11_second 1 = .ok (.getfield 26, 3) := by decide +kernel
theorem dX11_second_4 : decode cX11_second 4 = .ok (.iload_n 1, 1) := by decide +kernel
theorem dX11_second_5 : decode cX11_second 5 = .ok (.invokevirtual 115, 3) := by decide +kernel
theorem dX11_second_8 : decode cX11_second 8 = .ok (.ifCond .eq 13, 3) := by decide +kernel
theorem dX11_second_11 : decode cX11_second 11 = .ok (.aload_n 0, 1) := by decide +kernel
theorem dX11_second_12 : decode cX11_second 12 = .ok (.iload_n 2, 1) := by decide +kernel
theorem dX11_second_13 : decode cX11_second 13 = .ok (.bipush 6, 2) := by decide +kernel
theorem dX11_second_15 : decode cX11_second 15 = .ok (.invokevirtual 247, 3) := by decide +kernel
theorem dX11_second_18 : decode cX11_second 18 = .ok (.ifCond .ne 5, 3) := by decide +kernel
theorem dX11_second_21 : decode cX11_second 21 = .ok (.iconst (-1), 1) := by decide +kernel
theorem dX11_second_22 : decode cX11_second 22 = .ok (.ireturn, 1) := by decide +kernel
theorem dX11_second_23 : decode cX11_second 23 = .ok (.aload_n 0, 1) := by decide +kernel
theorem dX11_second_24 : decode cX11_second 24 = .ok (.iload_n 2, 1) := by decide +kernel
theorem dX11_second_25 : decode cX11_second 25 = .ok (.invokevirtual 258, 3) := by decide +kernel
theorem dX11_second_28 : decode cX11_second 28 = .ok (.aload_n 0, 1) := by decide +kernel
theorem dX11_second_29 : decode cX11_second 29 = .ok (.getfield 78, 3) := by decide +kernel
theorem dX11_second_32 : decode cX11_second 32 = .ok (.iload_n 2, 1) := by decide +kernel
theorem dX11_second_33 : decode cX11_second 33 = .ok (.invokevirtual 317, 3) := by decide +kernel
theorem dX11_second_36 : decode cX11_second 36 = .ok (.istore_n 3, 1) := by decide +kernel
theorem dX11_second_37 : decode cX11_second 37 = .ok (.aload_n 0, 1) := by decide +kernel
theorem dX11_second_38 : decode cX11_second 38 = .ok (.getfield 78, 3) := by decide +kernel
theorem dX11_second_41 : decode cX11_second 41 = .ok (.aload_n 0, 1) := by decide +kernel
theorem dX11_second_42 : decode cX11_second 42 = .ok (.getfield 40, 3) := by decide +kernel
theorem dX11_second_45 : decode cX11_second 45 = .ok (.iconst 2, 1) := by decide +kernel
theorem dX11_second_46 : decode cX11_second 46 = .ok (.invokevirtual 297, 3) := by decide +kernel
theorem dX11_second_49 : decode cX11_second 49 = .ok (.aload_n 0, 1) := by decide +kernel
theorem dX11_second_50 : decode cX11_second 50 = .ok (.getfield 78, 3) := by decide +kernel
theorem dX11_second_53 : decode cX11_second 53 = .ok (.iload_n 1, 1) := by decide +kernel
theorem dX11_second_54 : decode cX11_second 54 = .ok (.iload_n 3, 1) := by decide +kernel
theorem dX11_second_55 : decode cX11_second 55 = .ok (.iload_n 2, 1) := by decide +kernel
theorem dX11_second_56 : decode cX11_second 56 = .ok (.invokevirtual 301, 3) := by decide +kernel
theorem dX11_second_59 : decode cX11_second 59 = .ok (.ireturn, 1) := by decide +kernel
theorem dX11_tune_0 : decode cX11_tune 0 = .ok (.aload_n 0, 1) := by decide +kernel
theorem dX11_tune_1 : decode cX11_tune 1 = .ok (.getfield 26, 3) := by decide +kernel
theorem dX11_tune_4 : decode cX11_tune 4 = .ok (.iload_n 1, 1) := by decide +kernel
theorem dX11_tune_5 : decode cX11_tune 5 = .ok (.invokevirtual 115, 3) := by decide +kernel
theorem dX11_tune_8 : decode cX11_tune 8 = .ok (.ifCond .eq 13, 3) := by decide +kernel
theorem dX11_tune_11 : decode cX11_tune 11 = .ok (.aload_n 0, 1) := by decide +kernel
theorem dX11_tune_12 : decode cX11_tune 12 = .ok (.getfield 85, 3) := by decide +kernel
theorem dX11_tune_15 : decode cX11_tune 15 = .ok (.invokevirtual 320, 3) := by decide +kernel
theorem dX11_tune_18 : decode cX11_tune 18 = .ok (.ifCond .eq 8, 3) := by decide +kernel
theorem dX11_tune_21 : decode cX11_tune 21 = .ok (.bipush (-100), 2) := by decide +kernel
theorem dX11_tune_23 : decode cX11_tune 23 = .ok (.goto 14, 3) := by decide +kernel
theorem dX11_tune_26 : decode cX11_tune 26 = .ok (.aload_n 0, 1) := by decide +kernel
theorem dX11_tune_27 : decode cX11_tune 27 = .ok (.getfield 85, 3) := by decide +kernel
theorem dX11_tune_30 : decode cX11_tune 30 = .ok (.aload_n 0, 1) := by decide +kernel
theorem dX11_tune_31 : decode cX11_tune 31 = .ok (.getfield 10, 3) := by decide +kernel
theorem dX11_tune_34 : decode cX11_tune 34 = .ok (.invokevirtual 323, 3) := by decide +kernel
theorem dX11_tune_37 : decode cX11_tune 37 = .ok (.istore_n 2, 1) := by decide +kernel
theorem dX11_tune_38 : decode cX11_tune 38 = .ok (.aload_n 0, 1) := by decide +kernel
theorem dX11_tune_39 : decode cX11_tune 39 = .ok (.getfield 10, 3) := by decide +kernel
theorem dX11_tune_42 : decode cX11_tune 42 = .ok (.invokevirtual 105, 3) := by decide +kernel
theorem dX11_tune_45 : decode cX11_tune 45 = .ok (.iload_n 2, 1) := by decide +kernel
theorem dX11_tune_46 : decode cX11_tune 46 = .ok (.ifCond .ge 7, 3) := by decide +kernel
theorem dX11_tune_49 : decode cX11_tune 49 = .ok (.iload_n 2, 1) := by decide +kernel
theorem dX11_tune_50 : decode cX11_tune 50 = .ok (.goto 11, 3) := by decide +kernel
theorem dX11_tune_53 : decode cX11_tune 53 = .ok (.aload_n 0, 1) := by decide +kernel
theorem dX11_tune_54 : decode cX11_tune 54 = .ok (.getfield 85, 3) := by decide +kernel
theorem dX11_tune_57 : decode cX11_tune 57 = .ok (.iload_n 1, 1) := by decide +kernel
theorem dX11_tune_58 : decode cX11_tune 58 = .ok (.invokevirtual 324, 3) := by decide +kernel
theorem dX11_tune_61 : decode cX11_tune 61 = .ok (.ireturn, 1) := by decide +kernel
theorem dX11_hush_0 : decode cX11_hush 0 = .ok (.aload_n 0, 1) := by decide +kernel
theorem dX11_hush_1 : decode cX11_hush 1 = .ok (.getfield 85, 3) := by decide +kernel
theorem dX11_hush_4 : decode cX11_hush 4 = .ok (.invokevirtual 327, 3) := by decide +kernel
theorem dX11_hush_7 : decode cX11_hush 7 = .ok (.ireturn, 1) := by decide +kernel
theorem dX11_differ_0 : decode cX11_differ 0 = .ok (.aload_n 0, 1) := by decide +kernel
theorem dX11_differ_1 : decode cX11_differ 1 = .ok (.getfield 85, 3) := by decide +kernel
theorem dX11_differ_4 : decode cX11_differ 4 = .ok (.iload_n 1, 1) := by decide +kernel
theorem dX11_differ_5 : decode cX11_differ 5 = .ok (.invokevirtual 330, 3) := by decide +kernel
theorem dX11_differ_8 : decode cX11_differ 8 = .ok (.ifCond .eq 14, 3) := by decide +kernel
theorem dX11_differ_11 : decode cX11_differ 11 = .ok (.aload_n 0, 1) := by decide +kernel
theorem dX11_differ_12 : decode cX11_differ 12 = .ok (.getfield 85, 3) := by decide +kernel
theorem dX11_differ_15 : decode cX11_differ 15 = .ok (.iload_n 2, 1) := by decide +kernel
theorem dX11_differ_16 : decode cX11_differ 16 = .ok (.invokevirtual 330, 3) := by decide +kernel
theorem dX11_differ_19 : decode cX11_differ 19 = .ok (.ifCond .ne 5, 3) := by decide +kernel
theorem dX11_differ_22 : decode cX11_differ 22 = .ok (.iconst (-1), 1) := by decide +kernel
theorem dX11_differ_23 : decode cX11_differ 23 = .ok (.ireturn, 1) := by decide +kernel
theorem dX11_differ_24 : decode cX11_differ 24 = .ok (.aload_n 0, 1) := by decide +kernel
theorem dX11_differ_25 : decode cX11_differ 25 = .ok (.getfield 19, 3) := by decide +kernel
theorem dX11_differ_28 : decode cX11_differ 28 = .ok (.invokevirtual 184, 3) := by decide +kernel
theorem dX11_differ_31 : decode cX11_differ 31 = .ok (.aload_n 0, 1) := by decide +kernel
theorem dX11_differ_32 : decode cX11_differ 32 = .ok (.getfield 19, 3) := by decide +kernel
theorem dX11_differ_35 : decode cX11_differ 35 = .ok (.aload_n 0, 1) := by decide +kernel
theorem dX11_differ_36 : decode cX11_differ 36 = .ok (.getfield 85, 3) := by decide +kernel
theorem dX11_differ_39 : decode cX11_differ 39 = .ok (.iload_n 1, 1) := by decide +kernel
theorem dX11_differ_40 : decode cX11_differ 40 = .ok (.iload_n 2, 1) := by decide +kernel
theorem dX11_differ_41 : decode cX11_differ 41 = .ok (.invokevirtual 331, 3) := by decide +kernel
theorem dX11_differ_44 : decode cX11_differ 44 = .ok (.i2l, 1) := by decide +kernel
theorem dX11_differ_45 : decode cX11_differ 45 = .ok (.invokevirtual 188, 3) := by decide +kernel
theorem dX11_differ_48 : decode cX11_differ 48 = .ok (.aload_n 0, 1) := by decide +kernel
theorem dX11_differ_49 : decode cX11_differ 49 = .ok (.getfield 85, 3) := by decide +kernel
theorem dX11_differ_52 : decode cX11_differ 52 = .ok (.iload_n 1, 1) := by decide +kernel
theorem dX11_differ_53 : decode cX11_differ 53 = .ok (.iload_n 2, 1) := by decide +kernel
theorem dX11_differ_54 : decode cX11_differ 54 = .ok (.invokevirtual 334, 3) := by decide +kernel
theorem dX11_differ_57 : decode cX11_differ 57 = .ok (.ireturn, 1) := by decide +kernel
theorem dX11_whence_0 : decode cX11_whence 0 = .ok (.aload_n 0, 1) := by decide +kernel
theorem dX11_whence_1 : decode cX11_whence 1 = .ok (.getfield 85, 3) := by decide +kernel
theorem dX11_whence_4 : decode cX11_whence 4 = .ok (.getfield 337, 3) := by decide +kernel
theorem dX11_whence_7 : decode cX11_whence 7 = .ok (.ifCond .ne 6, 3) := by decide +kernel
theorem dX11_whence_10 : decode cX11_whence 10 = .ok (.bipush (-2), 2) := by decide +kernel
theorem dX11_whence_12 : decode cX11_whence 12 = .ok (.ireturn, 1) := by decide +kernel
theorem dX11_whence_13 : decode cX11_whence 13 = .ok (.aload_n 0, 1) := by decide +kernel
theorem dX11_whence_14 : decode cX11_whence 14 = .ok (.getfield 19, 3) := by decide +kernel
theorem dX11_whence_17 : decode cX11_whence 17 = .ok (.invokevirtual 184, 3) := by decide +kernel
theorem dX11_whence_20 : decode cX11_whence 20 = .ok (.aload_n 0, 1) := by decide +kernel
theorem dX11_whence_21 : decode cX11_whence 21 = .ok (.getfield 85, 3) := by decide +kernel
theorem dX11_whence_24 : decode cX11_whence 24 = .ok (.aload_n 0, 1) := by decide +kernel
theorem dX11_whence_25 : decode cX11_whence 25 = .ok (.getfield 19, 3) := by decide +kernel
theorem dX11_whence_28 : decode cX11_whence 28 = .ok (.invokevirtual 338, 3) := by decide +kernel
theorem dX11_whence_31 : decode cX11_whence 31 = .ok (.ireturn, 1) := by decide +kernel
theorem dX11_tree_0 : decode cX11_tree 0 = .ok (.aload_n 0, 1) := by decide +kernel
theorem dX11_tree_1 : decode cX11_tree 1 = .ok (.getfield 85, 3) := by decide +kernel
theorem dX11_tree_4 : decode cX11_tree 4 = .ok (.getfield 337, 3) := by decide +kernel
theorem dX11_tree_7 : decode cX11_tree 7 = .ok (.ifCond .ne 6, 3) := by decide +kernel
theorem dX11_tree_10 : decode cX11_tree 10 = .ok (.bipush (-2), 2) := by decide +kernel
theorem dX11_tree_12 : decode cX11_tree 12 = .ok (.ireturn, 1) := by decide +kernel
theorem dX11_tree_13 : decode cX11_tree 13 = .ok (.aload_n 0, 1) := by decide +kernel
theorem dX11_tree_14 : decode cX11_tree 14 = .ok (.getfield 19, 3) := by decide +kernel
theorem dX11_tree_17 : decode cX11_tree 17 = .ok (.invokevirtual 184, 3) := by decide +kernel
theorem dX11_tree_20 : decode cX11_tree 20 = .ok (.aload_n 0, 1) := by decide +kernel
theorem dX11_tree_21 : decode cX11_tree 21 = .ok (.getfield 85, 3) := by decide +kernel
theorem dX11_tree_24 : decode cX11_tree 24 = .ok (.aload_n 0, 1) := by decide +kernel
theorem dX11_tree_25 : decode cX11_tree 25 = .ok (.getfield 19, 3) := by decide +kernel
theorem dX11_tree_28 : decode cX11_tree 28 = .ok (.invokevirtual 342, 3) := by decide +kernel
theorem dX11_tree_31 : decode cX11_tree 31 = .ok (.ireturn, 1) := by decide +kernel
theorem dX11_got_0 : decode cX11_got 0 = .ok (.aload_n 0, 1) := by decide +kernel
theorem dX11_got_1 : decode cX11_got 1 = .ok (.getfield 85, 3) := by decide +kernel
theorem dX11_got_4 : decode cX11_got 4 = .ok (.aload_n 0, 1) := by decide +kernel
theorem dX11_got_5 : decode cX11_got 5 = .ok (.getfield 10, 3) := by decide +kernel
theorem dX11_got_8 : decode cX11_got 8 = .ok (.invokevirtual 323, 3) := by decide +kernel
theorem dX11_got_11 : decode cX11_got 11 = .ok (.istore_n 1, 1) := by decide +kernel
theorem dX11_got_12 : decode cX11_got 12 = .ok (.aload_n 0, 1) := by decide +kernel
theorem dX11_got_13 : decode cX11_got 13 = .ok (.getfield 10, 3) := by decide +kernel
theorem dX11_got_16 : decode cX11_got 16 = .ok (.invokevirtual 105, 3) := by decide +kernel
theorem dX11_got_19 : decode cX11_got 19 = .ok (.iload_n 1, 1) := by decide +kernel
theorem dX11_got_20 : decode cX11_got 20 = .ok (.ifCond .ge 5, 3) := by decide +kernel
theorem dX11_got_23 : decode cX11_got 23 = .ok (.iload_n 1, 1) := by decide +kernel
theorem dX11_got_24 : decode cX11_got 24 = .ok (.ireturn, 1) := by decide +kernel
theorem dX11_got_25 : decode cX11_got 25 = .ok (.aload_n 0, 1) := by decide +kernel
theorem dX11_got_26 : decode cX11_got 26 = .ok (.getfield 85, 3) := by decide +kernel
theorem dX11_got_29 : decode cX11_got 29 = .ok (.getfield 337, 3) := by decide +kernel
theorem dX11_got_32 : decode cX11_got 32 = .ok (.ifCond .ne 7, 3) := by decide +kernel
theorem dX11_got_35 : decode cX11_got 35 = .ok (.sipush (-200), 3) := by decide +kernel
theorem dX11_got_38 : decode cX11_got 38 = .ok (.ireturn, 1) := by decide +kernel
theorem dX11_got_39 : decode cX11_got 39 = .ok (.aload_n 0, 1) := by decide +kernel
theorem dX11_got_40 : decode cX11_got 40 = .ok (.getfield 85, 3) := by decide +kernel
theorem dX11_got_43 : decode cX11_got 43 = .ok (.invokevirtual 345, 3) := by decide +kernel
theorem dX11_got_46 : decode cX11_got 46 = .ok (.istore_n 2, 1) := by decide +kernel
theorem dX11_got_47 : decode cX11_got 47 = .ok (.aload_n 0, 1) := by decide +kernel
theorem dX11_got_48 : decode cX11_got 48 = .ok (.getfield 19, 3) := by decide +kernel
theorem dX11_got_51 : decode cX11_got 51 = .ok (.invokevirtual 184, 3) := by decide +kernel
theorem dX11_got_54 : decode cX11_got 54 = .ok (.aload_n 0, 1) := by decide +kernel
theorem dX11_got_55 : decode cX11_got 55 = .ok (.getfield 19, 3) := by decide +kernel
theorem dX11_got_58 : decode cX11_got 58 = .ok (.iload_n 2, 1) := by decide +kernel
theorem dX11_got_59 : decode cX11_got 59 = .ok (.i2l, 1) := by decide +kernel
theorem dX11_got_60 : decode cX11_got 60 = .ok (.invokevirtual 188, 3) := by decide +kernel
theorem dX11_got_63 : decode cX11_got 63 = .ok (.aload_n 0, 1) := by decide +kernel
theorem dX11_got_64 : decode cX11_got 64 = .ok (.getfield 85, 3) := by decide +kernel
theorem dX11_got_67 : decode cX11_got 67 = .ok (.iload_n 2, 1) := by decide +kernel
theorem dX11_got_68 : decode cX11_got 68 = .ok (.invokevirtual 348, 3) := by decide +kernel
theorem dX11_got_71 : decode cX11_got 71 = .ok (.ireturn, 1) := by decide +kernel
theorem dX11_breaks_0 : decode cX11_breaks 0 = .ok (.iload_n 1, 1) := by decide +kernel
theorem dX11_breaks_1 : decode cX11_breaks 1 = .ok (.iconst 1, 1) := by decide +kernel
theorem dX11_breaks_2 : decode cX11_breaks 2 = .ok (.if_icmp .lt 19, 3) := by decide +kernel
theorem dX11_breaks_5 : decode cX11_breaks 5 = .ok (.iload_n 1, 1) := by decide +kernel
theorem dX11_breaks_6 : decode cX11_breaks 6 = .ok (.bipush 12, 2) := by decide +kernel
theorem dX11_breaks_8 : decode cX11_breaks 8 = .ok (.if_icmp .gt 13, 3) := by decide +kernel
theorem dX11_breaks_11 : decode cX11_breaks 11 = .ok (.iload_n 2, 1) := by decide +kernel
theorem dX11_breaks_12 : decode cX11_breaks 12 = .ok (.ifCond .lt 9, 3) := by decide +kernel
theorem dX11_breaks_15 : decode cX11_breaks 15 = .ok (.iload_n 2, 1) := by decide +kernel
theorem dX11_breaks_16 : decode cX11_breaks 16 = .ok (.bipush 10, 2) := by decide +kernel
theorem dX11_breaks_18 : decode cX11_breaks 18 = .ok (.if_icmp .le 5, 3) := by decide +kernel
theorem dX11_breaks_21 : decode cX11_breaks 21 = .ok (.iconst (-1), 1) := by decide +kernel
theorem dX11_breaks_22 : decode cX11_breaks 22 = .ok (.ireturn, 1) := by decide +kernel
theorem dX11_breaks_23 : decode cX11_breaks 23 = .ok (.bipush 10, 2) := by decide +kernel
theorem dX11_breaks_25 : decode cX11_breaks 25 = .ok (.iload_n 1, 1) := by decide +kernel
theorem dX11_breaks_26 : decode cX11_breaks 26 = .ok (.invokestatic 351, 3) := by decide +kernel
theorem dX11_breaks_29 : decode cX11_breaks 29 = .ok (.lstore_n 3, 1) := by decide +kernel
theorem dX11_breaks_30 : decode cX11_breaks 30 = .ok (.lload_n 3, 1) := by decide +kernel
theorem dX11_breaks_31 : decode cX11_breaks 31 = .ok (.bipush 10, 2) := by decide +kernel
theorem dX11_breaks_33 : decode cX11_breaks 33 = .ok (.iload_n 2, 1) := by decide +kernel
theorem dX11_breaks_34 : decode cX11_breaks 34 = .ok (.isub, 1) := by decide +kernel
theorem dX11_breaks_35 : decode cX11_breaks 35 = .ok (.iload_n 1, 1) := by decide +kernel
theorem dX11_breaks_36 : decode cX11_breaks 36 = .ok (.invokestatic 351, 3) := by decide +kernel
theorem dX11_breaks_39 : decode cX11_breaks 39 = .ok (.lsub, 1) := by decide +kernel
theorem dX11_breaks_40 : decode cX11_breaks 40 = .ok (.lstore 5, 2) := by decide +kernel
theorem dX11_breaks_42 : decode cX11_breaks 42 = .ok (.lload_n 3, 1) := by decide +kernel
theorem dX11_breaks_43 : decode cX11_breaks 43 = .ok (.lload 5, 2) := by decide +kernel
theorem dX11_breaks_45 : decode cX11_breaks 45 = .ok (.invokestatic 355, 3) := by decide +kernel
theorem dX11_breaks_48 : decode cX11_breaks 48 = .ok (.lstore 7, 2) := by decide +kernel
theorem dX11_breaks_50 : decode cX11_breaks 50 = .ok (.aload_n 0, 1) := by decide +kernel
theorem dX11_breaks_51 : decode cX11_breaks 51 = .ok (.getfield 19, 3) := by decide +kernel
theorem dX11_breaks_54 : decode cX11_breaks 54 = .ok (.invokevirtual 184, 3) := by decide +kernel
theorem dX11_breaks_57 : decode cX11_breaks 57 = .ok (.aload_n 0, 1) := by decide +kernel
theorem dX11_breaks_58 : decode cX11_breaks 58 = .ok (.getfield 19, 3) := by decide +kernel
theorem dX11_breaks_61 : decode cX11_breaks 61 = .ok (.lload 7, 2) := by decide +kernel
theorem dX11_breaks_63 : decode cX11_breaks 63 = .ok (.lconst 0, 1) := by decide +kernel
theorem dX11_breaks_64 : decode cX11_breaks 64 = .ok (.lcmp, 1) := by decide +kernel
theorem dX11_breaks_65 : decode cX11_breaks 65 = .ok (.ifCond .le 11, 3) := by decide +kernel
theorem dX11_breaks_68 : decode cX11_breaks 68 = .ok (.lload 5, 2) := by decide +kernel
theorem dX11_breaks_70 : decode cX11_breaks 70 = .ok (.lload 7, 2) := by decide +kernel
theorem dX11_breaks_72 : decode cX11_breaks 72 = .ok (.ldiv, 1) := by decide +kernel
theorem dX11_breaks_73 : decode cX11_breaks 73 = .ok (.goto 5, 3) := by decide +kernel
theorem dX11_breaks_76 : decode cX11_breaks 76 = .ok (.lload 5, 2) := by decide +kernel
theorem dX11_breaks_78 : decode cX11_breaks 78 = .ok (.invokevirtual 188, 3) := by decide +kernel
theorem dX11_breaks_81 : decode cX11_breaks 81 = .ok (.aload_n 0, 1) := by decide +kernel
theorem dX11_breaks_82 : decode cX11_breaks 82 = .ok (.getfield 19, 3) := by decide +kernel
theorem dX11_breaks_85 : decode cX11_breaks 85 = .ok (.lload 7, 2) := by decide +kernel
theorem dX11_breaks_87 : decode cX11_breaks 87 = .ok (.lconst 0, 1) := by decide +kernel
theorem dX11_breaks_88 : decode cX11_breaks 88 = .ok (.lcmp, 1) := by decide +kernel
theorem dX11_breaks_89 : decode cX11_breaks 89 = .ok (.ifCond .le 10, 3) := by decide +kernel
theorem dX11_breaks_92 : decode cX11_breaks 92 = .ok (.lload_n 3, 1) := by decide +kernel
theorem dX11_breaks_93 : decode cX11_breaks 93 = .ok (.lload 7, 2) := by decide +kernel
theorem dX11_breaks_95 : decode cX11_breaks 95 = .ok (.ldiv, 1) := by decide +kernel
theorem dX11_breaks_96 : decode cX11_breaks 96 = .ok (.goto 4, 3) := by decide +kernel
theorem dX11_breaks_99 : decode cX11_breaks 99 = .ok (.lload_n 3, 1) := by decide +kernel
theorem dX11_breaks_100 : decode cX11_breaks 100 = .ok (.invokevirtual 188, 3) := by decide +kernel
theorem dX11_breaks_103 : decode cX11_breaks 103 = .ok (.iconst 0, 1) := by decide +kernel
theorem dX11_breaks_104 : decode cX11_breaks 104 = .ok (.ireturn, 1) := by decide +kernel
theorem dX11_bids_0 : decode cX11_bids 0 = .ok (.aload_n 0, 1) := by decide +kernel
theorem dX11_bids_1 : decode cX11_bids 1 = .ok (.getfield 26, 3) := by decide +kernel
theorem dX11_bids_4 : decode cX11_bids 4 = .ok (.iload_n 1, 1) := by decide +kernel
theorem dX11_bids_5 : decode cX11_bids 5 = .ok (.invokevirtual 115, 3) := by decide +kernel
theorem dX11_bids_8 : decode cX11_bids 8 = .ok (.ifCond .eq 29, 3) := by decide +kernel
theorem dX11_bids_11 : decode cX11_bids 11 = .ok (.aload_n 0, 1) := by decide +kernel
theorem dX11_bids_12 : decode cX11_bids 12 = .ok (.getfield 26, 3) := by decide +kernel
theorem dX11_bids_15 : decode cX11_bids 15 = .ok (.iload_n 2, 1) := by decide +kernel
theorem dX11_bids_16 : decode cX11_bids 16 = .ok (.invokevirtual 115, 3) := by decide +kernel
theorem dX11_bids_19 : decode cX11_bids 19 = .ok (.ifCond .eq 18, 3) := by decide +kernel
theorem dX11_bids_22 : decode cX11_bids 22 = .ok (.iload_n 1, 1) := by decide +kernel
theorem dX11_bids_23 : decode cX11_bids 23 = .ok (.iload_n 2, 1) := by decide +kernel
theorem dX11_bids_24 : decode cX11_bids 24 = .ok (.if_icmp .eq 13, 3) := by decide +kernel
theorem dX11_bids_27 : decode cX11_bids 27 = .ok (.iload_n 3, 1) := by decide +kernel
theorem dX11_bids_28 : decode cX11_bids 28 = .ok (.ifCond .lt 9, 3) := by decide +kernel
theorem dX11_bids_31 : decode cX11_bids 31 = .ok (.iload_n 3, 1) := by decide +kernel
theorem dX11_bids_32 : decode cX11_bids 32 = .ok (.bipush 9, 2) := by decide +kernel
theorem dX11_bids_34 : decode cX11_bids 34 = .ok (.if_icmp .le 5, 3) := by decide +kernel
theorem dX11_bids_37 : decode cX11_bids 37 = .ok (.iconst (-1), 1) := by decide +kernel
theorem dX11_bids_38 : decode cX11_bids 38 = .ok (.ireturn, 1) := by decide +kernel
theorem dX11_bids_39 : decode cX11_bids 39 = .ok (.aload_n 0, 1) := by decide +kernel
theorem dX11_bids_40 : decode cX11_bids 40 = .ok (.iload_n 1, 1) := by decide +kernel
theorem dX11_bids_41 : decode cX11_bids 41 = .ok (.iload_n 2, 1) := by decide +kernel
theorem dX11_bids_42 : decode cX11_bids 42 = .ok (.invokevirtual 359, 3) := by decide +kernel
theorem dX11_bids_45 : decode cX11_bids 45 = .ok (.istore 4, 2) := by decide +kernel
theorem dX11_bids_47 : decode cX11_bids 47 = .ok (.iconst 0, 1) := by decide +kernel
theorem dX11_bids_48 : decode cX11_bids 48 = .ok (.istore 5, 2) := by decide +kernel
theorem dX11_bids_50 : decode cX11_bids 50 = .ok (.aload_n 0, 1) := by decide +kernel
theorem dX11_bids_51 : decode cX11_bids 51 = .ok (.getfield 19, 3) := by decide +kernel
theorem dX11_bids_54 : decode cX11_bids 54 = .ok (.invokevirtual 184, 3) := by decide +kernel
theorem dX11_bids_57 : decode cX11_bids 57 = .ok (.iconst 0, 1) := by decide +kernel
theorem dX11_bids_58 : decode cX11_bids 58 = .ok (.istore 6, 2) := by decide +kernel
theorem dX11_bids_60 : decode cX11_bids 60 = .ok (.iload 6, 2) := by decide +kernel
theorem dX11_bids_62 : decode cX11_bids 62 = .ok (.bipush 9, 2) := by decide +kernel
theorem dX11_bids_64 : decode cX11_bids 64 = .ok (.if_icmp .gt 66, 3) := by decide +kernel
theorem dX11_bids_67 : decode cX11_bids 67 = .ok (.iconst 0, 1) := by decide +kernel
theorem dX11_bids_68 : decode cX11_bids 68 = .ok (.istore 7, 2) := by decide +kernel
theorem dX11_bids_70 : decode cX11_bids 70 = .ok (.iload 7, 2) := by decide +kernel
theorem dX11_bids_72 : decode cX11_bids 72 = .ok (.bipush 9, 2) := by decide +kernel
theorem dX11_bids_74 : decode cX11_bids 74 = .ok (.if_icmp .gt 50, 3) := by decide +kernel
theorem dX11_bids_77 : decode cX11_bids 77 = .ok (.iload 6, 2) := by decide +kernel
theorem dX11_bids_79 : decode cX11_bids 79 = .ok (.iload 7, 2) := by decide +kernel
theorem dX11_bids_81 : decode cX11_bids 81 = .ok (.iload_n 3, 1) := by decide +kernel
theorem dX11_bids_82 : decode cX11_bids 82 = .ok (.iload 4, 2) := by decide +kernel
theorem dX11_bids_84 : decode cX11_bids 84 = .ok (.invokestatic 362, 3) := by decide +kernel
theorem dX11_bids_87 : decode cX11_bids 87 = .ok (.ifCond .eq 31, 3) := by decide +kernel
theorem dX11_bids_90 : decode cX11_bids 90 = .ok (.iload 5, 2) := by decide +kernel
theorem dX11_bids_92 : decode cX11_bids 92 = .ok (.ifCond .ne 23, 3) := by decide +kernel
theorem dX11_bids_95 : decode cX11_bids 95 = .ok (.aload_n 0, 1) := by decide +kernel
theorem dX11_bids_96 : decode cX11_bids 96 = .ok (.getfield 19, 3) := by decide +kernel
theorem dX11_bids_99 : decode cX11_bids 99 = .ok (.iload 6, 2) := by decide +kernel
theorem dX11_bids_101 : decode cX11_bids 101 = .ok (.i2l, 1) := by decide +kernel
theorem dX11_bids_102 : decode cX11_bids 102 = .ok (.invokevirtual 188, 3) := by decide +kernel
theorem dX11_bids_105 : decode cX11_bids 105 = .ok (.aload_n 0, 1) := by decide +kernel
theorem dX11_bids_106 : decode cX11_bids 106 = .ok (.getfield 19, 3) := by decide +kernel
theorem dX11_bids_109 : decode cX11_bids 109 = .ok (.iload 7, 2) := by decide +kernel
theorem dX11_bids_111 : decode cX11_bids 111 = .ok (.i2l, 1) := by decide +kernel
theorem dX11_bids_112 : decode cX11_bids 112 = .ok (.invokevirtual 188, 3) := by decide +kernel
theorem dX11_bids_115 : decode cX11_bids 115 = .ok (.iinc 5 1, 3) := by decide +kernel
theorem dX11_bids_118 : decode cX11_bids 118 = .ok (.iinc 7 1, 3) := by decide +kernel
theorem dX11_bids_121 : decode cX11_bids 121 = .ok (.goto (-51), 3) := by decide +kernel
theorem dX11_bids_124 : decode cX11_bids 124 = .ok (.iinc 6 1, 3) := by decide +kernel
theorem dX11_bids_127 : decode cX11_bids 127 = .ok (.goto (-67), 3) := by decide +kernel
theorem dX11_bids_130 : decode cX11_bids 130 = .ok (.iload 5, 2) := by decide +kernel
theorem dX11_bids_132 : decode cX11_bids 132 = .ok (.ireturn, 1) := by decide +kernel
theorem dX11_kinds_0 : decode cX11_kinds 0 = .ok (.iload_n 1, 1) := by decide +kernel
theorem dX11_kinds_1 : decode cX11_kinds 1 = .ok (.iconst 1, 1) := by decide +kernel
theorem dX11_kinds_2 : decode cX11_kinds 2 = .ok (.if_icmp .lt 9, 3) := by decide +kernel
theorem dX11_kinds_5 : decode cX11_kinds 5 = .ok (.iload_n 1, 1) := by decide +kernel
theorem dX11_kinds_6 : decode cX11_kinds 6 = .ok (.bipush 99, 2) := by decide +kernel
theorem dX11_kinds_8 : decode cX11_kinds 8 = .ok (.if_icmp .le 5, 3) := by decide +kernel
theorem dX11_kinds_11 : decode cX11_kinds 11 = .ok (.iconst (-1), 1) := by decide +kernel
theorem dX11_kinds_12 : decode cX11_kinds 12 = .ok (.ireturn, 1) := by decide +kernel
theorem dX11_kinds_13 : decode cX11_kinds 13 = .ok (.iconst 0, 1) := by decide +kernel
theorem dX11_kinds_14 : decode cX11_kinds 14 = .ok (.istore_n 2, 1) := by decide +kernel
theorem dX11_kinds_15 : decode cX11_kinds 15 = .ok (.iconst 0, 1) := by decide +kernel
theorem dX11_kinds_16 : decode cX11_kinds 16 = .ok (.istore_n 3, 1) := by decide +kernel
theorem dX11_kinds_17 : decode cX11_kinds 17 = .ok (.iconst 0, 1) := by decide +kernel
theorem dX11_kinds_18 : decode cX11_kinds 18 = .ok (.istore 4, 2) := by decide +kernel
theorem dX11_kinds_20 : decode cX11_kinds 20 = .ok (.iconst 0, 1) := by decide +kernel
theorem dX11_kinds_21 : decode cX11_kinds 21 = .ok (.istore 5, 2) := by decide +kernel
theorem dX11_kinds_23 : decode cX11_kinds 23 = .ok (.iload 5, 2) := by decide +kernel
theorem dX11_kinds_25 : decode cX11_kinds 25 = .ok (.iload_n 1, 1) := by decide +kernel
theorem dX11_kinds_26 : decode cX11_kinds 26 = .ok (.if_icmp .ge 93, 3) := by decide +kernel
theorem dX11_kinds_29 : decode cX11_kinds 29 = .ok (.aload_n 0, 1) := by decide +kernel
theorem dX11_kinds_30 : decode cX11_kinds 30 = .ok (.getfield 33, 3) := by decide +kernel
theorem dX11_kinds_33 : decode cX11_kinds 33 = .ok (.aload_n 0, 1) := by decide +kernel
theorem dX11_kinds_34 : decode cX11_kinds 34 = .ok (.getfield 54, 3) := by decide +kernel
theorem dX11_kinds_37 : decode cX11_kinds 37 = .ok (.getfield 127, 3) := by decide +kernel
theorem dX11_kinds_40 : decode cX11_kinds 40 = .ok (.iload 5, 2) := by decide +kernel
theorem dX11_kinds_42 : decode cX11_kinds 42 = .ok (.iadd, 1) := by decide +kernel
theorem dX11_kinds_43 : decode cX11_kinds 43 = .ok (.invokevirtual 366, 3) := by decide +kernel
theorem dX11_kinds_46 : decode cX11_kinds 46 = .ok (.istore 6, 2) := by decide +kernel
theorem dX11_kinds_48 : decode cX11_kinds 48 = .ok (.aload_n 0, 1) := by decide +kernel
theorem dX11_kinds_49 : decode cX11_kinds 49 = .ok (.getfield 33, 3) := by decide +kernel
theorem dX11_kinds_52 : decode cX11_kinds 52 = .ok (.aload_n 0, 1) := by decide +kernel
theorem dX11_kinds_53 : decode cX11_kinds 53 = .ok (.getfield 54, 3) := by decide +kernel
theorem dX11_kinds_56 : decode cX11_kinds 56 = .ok (.getfield 127, 3) := by decide +kernel
theorem dX11_kinds_59 : decode cX11_kinds 59 = .ok (.iload 5, 2) := by decide +kernel
theorem dX11_kinds_61 : decode cX11_kinds 61 = .ok (.iadd, 1) := by decide +kernel
theorem dX11_kinds_62 : decode cX11_kinds 62 = .ok (.invokevirtual 369, 3) := by decide +kernel
theorem dX11_kinds_65 : decode cX11_kinds 65 = .ok (.istore 7, 2) := by decide +kernel
theorem dX11_kinds_67 : decode cX11_kinds 67 = .ok (.iload_n 2, 1) := by decide +kernel
theorem dX11_kinds_68 : decode cX11_kinds 68 = .ok (.iload 6, 2) := by decide +kernel
theorem dX11_kinds_70 : decode cX11_kinds 70 = .ok (.ifCond .eq 7, 3) := by decide +kernel
theorem dX11_kinds_73 : decode cX11_kinds 73 = .ok (.iconst 1, 1) := by decide +kernel
theorem dX11_kinds_74 : decode cX11_kinds 74 = .ok (.goto 4, 3) := by decide +kernel
theorem dX11_kinds_77 : decode cX11_kinds 77 = .ok (.iconst 0, 1) := by decide +kernel
theorem dX11_kinds_78 : decode cX11_kinds 78 = .ok (.iadd, 1) := by decide +kernel
theorem dX11_kinds_79 : decode cX11_kinds 79 = .ok (.istore_n 2, 1) := by decide +kernel
theorem dX11_kinds_80 : decode cX11_kinds 80 = .ok (.iload_n 3, 1) := by decide +kernel
theorem dX11_kinds_81 : decode cX11_kinds 81 = .ok (.iload 7, 2) := by decide +kernel
theorem dX11_kinds_83 : decode cX11_kinds 83 = .ok (.ifCond .eq 7, 3) := by decide +kernel
theorem dX11_kinds_86 : decode cX11_kinds 86 = .ok (.iconst 1, 1) := by decide +kernel
theorem dX11_kinds_87 : decode cX11_kinds 87 = .ok (.goto 4, 3) := by decide +kernel
theorem dX11_kinds_90 : decode cX11_kinds 90 = .ok (.iconst 0, 1) := by decide +kernel
theorem dX11_kinds_91 : decode cX11_kinds 91 = .ok (.iadd, 1) := by decide +kernel
theorem dX11_kinds_92 : decode cX11_kinds 92 = .ok (.istore_n 3, 1) := by decide +kernel
theorem dX11_kinds_93 : decode cX11_kinds 93 = .ok (.iload 4, 2) := by decide +kernel
theorem dX11_kinds_95 : decode cX11_kinds 95 = .ok (.iload 6, 2) := by decide +kernel
theorem dX11_kinds_97 : decode cX11_kinds 97 = .ok (.ifCond .eq 12, 3) := by decide +kernel
theorem dX11_kinds_100 : decode cX11_kinds 100 = .ok (.iload 7, 2) := by decide +kernel
theorem dX11_kinds_102 : decode cX11_kinds 102 = .ok (.ifCond .eq 7, 3) := by decide +kernel
theorem dX11_kinds_105 : decode cX11_kinds 105 = .ok (.iconst 1, 1) := by decide +kernel
theorem dX11_kinds_106 : decode cX11_kinds 106 = .ok (.goto 4, 3) := by decide +kernel
theorem dX11_kinds_109 : decode cX11_kinds 109 = .ok (.iconst 0, 1) := by decide +kernel
theorem dX11_kinds_110 : decode cX11_kinds 110 = .ok (.iadd, 1) := by decide +kernel
theorem dX11_kinds_111 : decode cX11_kinds 111 = .ok (.istore 4, 2) := by decide +kernel
theorem dX11_kinds_113 : decode cX11_kinds 113 = .ok (.iinc 5 1, 3) := by decide +kernel
theorem dX11_kinds_116 : decode cX11_kinds 116 = .ok (.goto (-93), 3) := by decide +kernel
theorem dX11_kinds_119 : decode cX11_kinds 119 = .ok (.aload_n 0, 1) := by decide +kernel
theorem dX11_kinds_120 : decode cX11_kinds 120 = .ok (.getfield 19, 3) := by decide +kernel
theorem dX11_kinds_123 : decode cX11_kinds 123 = .ok (.invokevirtual 184, 3) := by decide +kernel
theorem dX11_kinds_126 : decode cX11_kinds 126 = .ok (.aload_n 0, 1) := by decide +kernel
theorem dX11_kinds_127 : decode cX11_kinds 127 = .ok (.getfield 19, 3) := by decide +kernel
theorem dX11_kinds_130 : decode cX11_kinds 130 = .ok (.iload_n 3, 1) := by decide +kernel
theorem dX11_kinds_131 : decode cX11_kinds 131 = .ok (.i2l, 1) := by decide +kernel
theorem dX11_kinds_132 : decode cX11_kinds 132 = .ok (.invokevirtual 188, 3) := by decide +kernel
theorem dX11_kinds_135 : decode cX11_kinds 135 = .ok (.aload_n 0, 1) := by decide +kernel
theorem dX11_kinds_136 : decode cX11_kinds 136 = .ok (.getfield 19, 3) := by decide +kernel
theorem dX11_kinds_139 : decode cX11_kinds 139 = .ok (.iload 4, 2) := by decide +kernel
theorem dX11_kinds_141 : decode cX11_kinds 141 = .ok (.i2l, 1) := by decide +kernel
theorem dX11_kinds_142 : decode cX11_kinds 142 = .ok (.invokevirtual 188, 3) := by decide +kernel
theorem dX11_kinds_145 : decode cX11_kinds 145 = .ok (.iload_n 2, 1) := by decide +kernel
theorem dX11_kinds_146 : decode cX11_kinds 146 = .ok (.ireturn, 1) := by decide +kernel
theorem dX11_years_0 : decode cX11_years 0 = .ok (.aload_n 0, 1) := by decide +kernel
theorem dX11_years_1 : decode cX11_years 1 = .ok (.getfield 26, 3) := by decide +kernel
theorem dX11_years_4 : decode cX11_years 4 = .ok (.getfield 261, 3) := by decide +kernel
theorem dX11_years_7 : decode cX11_years 7 = .ok (.istore_n 3, 1) := by decide +kernel
theorem dX11_years_8 : decode cX11_years 8 = .ok (.iload_n 2, 1) := by decide +kernel
theorem dX11_years_9 : decode cX11_years 9 = .ok (.iconst 1, 1) := by decide +kernel
theorem dX11_years_10 : decode cX11_years 10 = .ok (.if_icmp .lt 13, 3) := by decide +kernel
theorem dX11_years_13 : decode cX11_years 13 = .ok (.iload_n 2, 1) := by decide +kernel
theorem dX11_years_14 : decode cX11_years 14 = .ok (.bipush 60, 2) := by decide +kernel
theorem dX11_years_16 : decode cX11_years 16 = .ok (.if_icmp .gt 7, 3) := by decide +kernel
theorem dX11_years_19 : decode cX11_years 19 = .ok (.iload_n 3, 1) := by decide +kernel
theorem dX11_years_20 : decode cX11_years 20 = .ok (.ifCond .gt 5, 3) := by decide +kernel
theorem dX11_years_23 : decode cX11_years 23 = .ok (.iconst (-1), 1) := by decide +kernel
theorem dX11_years_24 : decode cX11_years 24 = .ok (.ireturn, 1) := by decide +kernel
theorem dX11_years_25 : decode cX11_years 25 = .ok (.aload_n 0, 1) := by decide +kernel
theorem dX11_years_26 : decode cX11_years 26 = .ok (.getfield 58, 3) := by decide +kernel
theorem dX11_years_29 : decode cX11_years 29 = .ok (.aload_n 0, 1) := by decide +kernel
theorem dX11_years_30 : decode cX11_years 30 = .ok (.getfield 54, 3) := by decide +kernel
theorem dX11_years_33 : decode cX11_years 33 = .ok (.invokevirtual 210, 3) := by decide +kernel
theorem dX11_years_36 : decode cX11_years 36 = .ok (.aload_n 0, 1) := by decide +kernel
theorem dX11_years_37 : decode cX11_years 37 = .ok (.iconst 0, 1) := by decide +kernel
theorem dX11_years_38 : decode cX11_years 38 = .ok (.putfield 195, 3) := by decide +kernel
theorem dX11_years_41 : decode cX11_years 41 = .ok (.iload_n 1, 1) := by decide +kernel
theorem dX11_years_42 : decode cX11_years 42 = .ok (.istore 4, 2) := by decide +kernel
theorem dX11_years_44 : decode cX11_years 44 = .ok (.iconst 0, 1) := by decide +kernel
theorem dX11_years_45 : decode cX11_years 45 = .ok (.istore 5, 2) := by decide +kernel
theorem dX11_years_47 : decode cX11_years 47 = .ok (.iconst 0, 1) := by decide +kernel
theorem dX11_years_48 : decode cX11_years 48 = .ok (.istore 6, 2) := by decide +kernel
theorem dX11_years_50 : decode cX11_years 50 = .ok (.iconst 0, 1) := by decide +kernel
theorem dX11_years_51 : decode cX11_years 51 = .ok (.istore 7, 2) := by decide +kernel
theorem dX11_years_53 : decode cX11_years 53 = .ok (.iload 7, 2) := by decide +kernel
theorem dX11_years_55 : decode cX11_years 55 = .ok (.iload_n 2, 1) := by decide +kernel
theorem dX11_years_56 : decode cX11_years 56 = .ok (.if_icmp .ge 107, 3) := by decide +kernel
theorem dX11_years_59 : decode cX11_years 59 = .ok (.iload 4, 2) := by decide +kernel
theorem dX11_years_61 : decode cX11_years 61 = .ok (.ldc_w 372, 3) := by decide +kernel
theorem dX11_years_64 : decode cX11_years 64 = .ok (.imul, 1) := by decide +kernel
theorem dX11_years_65 : decode cX11_years 65 = .ok (.sipush 12345, 3) := by decide +kernel
theorem dX11_years_68 : decode cX11_years 68 = .ok (.iadd, 1) := by decide +kernel
theorem dX11_years_69 : decode cX11_years 69 = .ok (.istore 4, 2) := by decide +kernel
theorem dX11_years_71 : decode cX11_years 71 = .ok (.iload 4, 2) := by decide +kernel
theorem dX11_years_73 : decode cX11_years 73 = .ok (.bipush 16, 2) := by decide +kernel
theorem dX11_years_75 : decode cX11_years 75 = .ok (.iushr, 1) := by decide +kernel
theorem dX11_years_76 : decode cX11_years 76 = .ok (.iload_n 3, 1) := by decide +kernel
theorem dX11_years_77 : decode cX11_years 77 = .ok (.irem, 1) := by decide +kernel
theorem dX11_years_78 : decode cX11_years 78 = .ok (.istore 8, 2) := by decide +kernel
theorem dX11_years_80 : decode cX11_years 80 = .ok (.aload_n 0, 1) := by decide +kernel
theorem dX11_years_81 : decode cX11_years 81 = .ok (.getfield 26, 3) := by decide +kernel
theorem dX11_years_84 : decode cX11_years 84 = .ok (.aload_n 0, 1) := by decide +kernel
theorem dX11_years_85 : decode cX11_years 85 = .ok (.getfield 58, 3) := by decide +kernel
theorem dX11_years_88 : decode cX11_years 88 = .ok (.getfield 134, 3) := by decide +kernel
theorem dX11_years_91 : decode cX11_years 91 = .ok (.iload 8, 2) := by decide +kernel
theorem dX11_years_93 : decode cX11_years 93 = .ok (.aload_n 0, 1) := by decide +kernel
theorem dX11_years_94 : decode cX11_years 94 = .ok (.getfield 33, 3) := by decide +kernel
theorem dX11_years_97 : decode cX11_years 97 = .ok (.aload_n 0, 1) := by decide +kernel
theorem dX11_years_98 : decode cX11_years 98 = .ok (.getfield 58, 3) := by decide +kernel
theorem dX11_years_101 : decode cX11_years 101 = .ok (.getfield 127, 3) := by decide +kernel
theorem dX11_years_104 : decode cX11_years 104 = .ok (.invokevirtual 230, 3) := by decide +kernel
theorem dX11_years_107 : decode cX11_years 107 = .ok (.invokevirtual 373, 3) := by decide +kernel
theorem dX11_years_110 : decode cX11_years 110 = .ok (.istore 9, 2) := by decide +kernel
theorem dX11_years_112 : decode cX11_years 112 = .ok (.iload 6, 2) := by decide +kernel
theorem dX11_years_114 : decode cX11_years 114 = .ok (.iload 9, 2) := by decide +kernel
theorem dX11_years_116 : decode cX11_years 116 = .ok (.ifCond .eq 7, 3) := by decide +kernel
theorem dX11_years_119 : decode cX11_years 119 = .ok (.iconst 0, 1) := by decide +kernel
theorem dX11_years_120 : decode cX11_years 120 = .ok (.goto 4, 3) := by decide +kernel
theorem dX11_years_123 : decode cX11_years 123 = .ok (.iconst 1, 1) := by decide +kernel
theorem dX11_years_124 : decode cX11_years 124 = .ok (.iadd, 1) := by decide +kernel
theorem dX11_years_125 : decode cX11_years 125 = .ok (.istore 6, 2) := by decide +kernel
theorem dX11_years_127 : decode cX11_years 127 = .ok (.iload 5, 2) := by decide +kernel
theorem dX11_years_129 : decode cX11_years 129 = .ok (.aload_n 0, 1) := by decide +kernel
theorem dX11_years_130 : decode cX11_years 130 = .ok (.aload_n 0, 1) := by decide +kernel
theorem dX11_years_131 : decode cX11_years 131 = .ok (.getfield 58, 3) := by decide +kernel
theorem dX11_years_134 : decode cX11_years 134 = .ok (.iload 9, 2) := by decide +kernel
theorem dX11_years_136 : decode cX11_years 136 = .ok (.ifCond .eq 8, 3) := by decide +kernel
theorem dX11_years_139 : decode cX11_years 139 = .ok (.iload 8, 2) := by decide +kernel
theorem dX11_years_141 : decode cX11_years 141 = .ok (.goto 10, 3) := by decide +kernel
theorem dX11_years_144 : decode cX11_years 144 = .ok (.aload_n 0, 1) := by decide +kernel
theorem dX11_years_145 : decode cX11_years 145 = .ok (.getfield 58, 3) := by decide +kernel
theorem dX11_years_148 : decode cX11_years 148 = .ok (.getfield 134, 3) := by decide +kernel
theorem dX11_years_151 : decode cX11_years 151 = .ok (.invokevirtual 180, 3) := by decide +kernel
theorem dX11_years_154 : decode cX11_years 154 = .ok (.iadd, 1) := by decide +kernel
theorem dX11_years_155 : decode cX11_years 155 = .ok (.istore 5, 2) := by decide +kernel
theorem dX11_years_157 : decode cX11_years 157 = .ok (.iinc 7 1, 3) := by decide +kernel
theorem dX11_years_160 : decode cX11_years 160 = .ok (.goto (-107), 3) := by decide +kernel
theorem dX11_years_163 : decode cX11_years 163 = .ok (.aload_n 0, 1) := by decide +kernel
theorem dX11_years_164 : decode cX11_years 164 = .ok (.getfield 19, 3) := by decide +kernel
theorem dX11_years_167 : decode cX11_years 167 = .ok (.invokevirtual 184, 3) := by decide +kernel
theorem dX11_years_170 : decode cX11_years 170 = .ok (.aload_n 0, 1) := by decide +kernel
theorem dX11_years_171 : decode cX11_years 171 = .ok (.getfield 19, 3) := by decide +kernel
theorem dX11_years_174 : decode cX11_years 174 = .ok (.aload_n 0, 1) := by decide +kernel
theorem dX11_years_175 : decode cX11_years 175 = .ok (.getfield 195, 3) := by decide +kernel
theorem dX11_years_178 : decode cX11_years 178 = .ok (.i2l, 1) := by decide +kernel
theorem dX11_years_179 : decode cX11_years 179 = .ok (.invokevirtual 188, 3) := by decide +kernel
theorem dX11_years_182 : decode cX11_years 182 = .ok (.aload_n 0, 1) := by decide +kernel
theorem dX11_years_183 : decode cX11_years 183 = .ok (.getfield 19, 3) := by decide +kernel
theorem dX11_years_186 : decode cX11_years 186 = .ok (.aload_n 0, 1) := by decide +kernel
theorem dX11_years_187 : decode cX11_years 187 = .ok (.getfield 58, 3) := by decide +kernel
theorem dX11_years_190 : decode cX11_years 190 = .ok (.getfield 177, 3) := by decide +kernel
theorem dX11_years_193 : decode cX11_years 193 = .ok (.i2l, 1) := by decide +kernel
theorem dX11_years_194 : decode cX11_years 194 = .ok (.invokevirtual 188, 3) := by decide +kernel
theorem dX11_years_197 : decode cX11_years 197 = .ok (.aload_n 0, 1) := by decide +kernel
theorem dX11_years_198 : decode cX11_years 198 = .ok (.getfield 19, 3) := by decide +kernel
theorem dX11_years_201 : decode cX11_years 201 = .ok (.iload 6, 2) := by decide +kernel
theorem dX11_years_203 : decode cX11_years 203 = .ok (.i2l, 1) := by decide +kernel
theorem dX11_years_204 : decode cX11_years 204 = .ok (.invokevirtual 188, 3) := by decide +kernel
theorem dX11_years_207 : decode cX11_years 207 = .ok (.iload 5, 2) := by decide +kernel
theorem dX11_years_209 : decode cX11_years 209 = .ok (.ireturn, 1) := by decide +kernel
theorem dX11_keep_0 : decode cX11_keep 0 = .ok (.aload_n 0, 1) := by decide +kernel
theorem dX11_keep_1 : decode cX11_keep 1 = .ok (.getfield 64, 3) := by decide +kernel
theorem dX11_keep_4 : decode cX11_keep 4 = .ok (.iload_n 1, 1) := by decide +kernel
theorem dX11_keep_5 : decode cX11_keep 5 = .ok (.aload_n 0, 1) := by decide +kernel
theorem dX11_keep_6 : decode cX11_keep 6 = .ok (.getfield 54, 3) := by decide +kernel
theorem dX11_keep_9 : decode cX11_keep 9 = .ok (.invokevirtual 377, 3) := by decide +kernel
theorem dX11_keep_12 : decode cX11_keep 12 = .ok (.ireturn, 1) := by decide +kernel
theorem dX11_again_0 : decode cX11_again 0 = .ok (.aload_n 0, 1) := by decide +kernel
theorem dX11_again_1 : decode cX11_again 1 = .ok (.getfield 64, 3) := by decide +kernel
theorem dX11_again_4 : decode cX11_again 4 = .ok (.iload_n 1, 1) := by decide +kernel
theorem dX11_again_5 : decode cX11_again 5 = .ok (.aload_n 0, 1) := by decide +kernel
theorem dX11_again_6 : decode cX11_again 6 = .ok (.getfield 54, 3) := by decide +kernel
theorem dX11_again_9 : decode cX11_again 9 = .ok (.invokevirtual 381, 3) := by decide +kernel
theorem dX11_again_12 : decode cX11_again 12 = .ok (.ireturn, 1) := by decide +kernel
theorem dX11_count_0 : decode cX11_count 0 = .ok (.iload_n 1, 1) := by decide +kernel
theorem dX11_count_1 : decode cX11_count 1 = .ok (.tableswitch 202 0 14 #[75, 83, 91, 99, 107, 115, 123, 131, 139, 147, 155, 170, 178, 186, 194], 75) := by decide +kernel
theorem dX11_count_76 : decode cX11_count 76 = .ok (.aload_n 0, 1) := by decide +kernel
theorem dX11_count_77 : decode cX11_count 77 = .ok (.getfield 26, 3) := by decide +kernel
theorem dX11_count_80 : decode cX11_count 80 = .ok (.getfield 261, 3) := by decide +kernel
theorem dX11_count_83 : decode cX11_count 83 = .ok (.ireturn, 1) := by decide +kernel
theorem dX11_count_84 : decode cX11_count 84 = .ok (.aload_n 0, 1) := by decide +kernel
theorem dX11_count_85 : decode cX11_count 85 = .ok (.getfield 26, 3) := by decide +kernel
theorem dX11_count_88 : decode cX11_count 88 = .ok (.getfield 384, 3) := by decide +kernel
theorem dX11_count_91 : decode cX11_count 91 = .ok (.ireturn, 1) := by decide +kernel
theorem dX11_count_92 : decode cX11_count 92 = .ok (.aload_n 0, 1) := by decide +kernel
theorem dX11_count_93 : decode cX11_count 93 = .ok (.getfield 40, 3) := by decide +kernel
theorem dX11_count_96 : decode cX11_count 96 = .ok (.getfield 305, 3) := by decide +kernel
theorem dX11_count_99 : decode cX11_count 99 = .ok (.ireturn, 1) := by decide +kernel
theorem dX11_count_100 : decode cX11_count 100 = .ok (.aload_n 0, 1) := by decide +kernel
theorem dX11_count_101 : decode cX11_count 101 = .ok (.getfield 54, 3) := by decide +kernel
theorem dX11_count_104 : decode cX11_count 104 = .ok (.getfield 127, 3) := by decide +kernel
theorem dX11_count_107 : decode cX11_count 107 = .ok (.ireturn, 1) := by decide +kernel
theorem dX11_count_108 : decode cX11_count 108 = .ok (.aload_n 0, 1) := by decide +kernel
theorem dX11_count_109 : decode cX11_count 109 = .ok (.getfield 54, 3) := by decide +kernel
theorem dX11_count_112 : decode cX11_count 112 = .ok (.getfield 134, 3) := by decide +kernel
theorem dX11_count_115 : decode cX11_count 115 = .ok (.ireturn, 1) := by decide +kernel
theorem dX11_count_116 : decode cX11_count 116 = .ok (.aload_n 0, 1) := by decide +kernel
theorem dX11_count_117 : decode cX11_count 117 = .ok (.getfield 54, 3) := by decide +kernel
theorem dX11_count_120 : decode cX11_count 120 = .ok (.getfield 177, 3) := by decide +kernel
theorem dX11_count_123 : decode cX11_count 123 = .ok (.ireturn, 1) := by decide +kernel
theorem dX11_count_124 : decode cX11_count 124 = .ok (.aload_n 0, 1) := by decide +kernel
theorem dX11_count_125 : decode cX11_count 125 = .ok (.getfield 54, 3) := by decide +kernel
theorem dX11_count_128 : decode cX11_count 128 = .ok (.getfield 387, 3) := by decide +kernel
theorem dX11_count_131 : decode cX11_count 131 = .ok (.ireturn, 1) := by decide +kernel
theorem dX11_count_132 : decode cX11_count 132 = .ok (.aload_n 0, 1) := by decide +kernel
theorem dX11_count_133 : decode cX11_count 133 = .ok (.getfield 54, 3) := by decide +kernel
theorem dX11_count_136 : decode cX11_count 136 = .ok (.getfield 390, 3) := by decide +kernel
theorem dX11_count_139 : decode cX11_count 139 = .ok (.ireturn, 1) := by decide +kernel
theorem dX11_count_140 : decode cX11_count 140 = .ok (.aload_n 0, 1) := by decide +kernel
theorem dX11_count_141 : decode cX11_count 141 = .ok (.getfield 54, 3) := by decide +kernel
theorem dX11_count_144 : decode cX11_count 144 = .ok (.getfield 393, 3) := by decide +kernel
theorem dX11_count_147 : decode cX11_count 147 = .ok (.ireturn, 1) := by decide +kernel
theorem dX11_count_148 : decode cX11_count 148 = .ok (.aload_n 0, 1) := by decide +kernel
theorem dX11_count_149 : decode cX11_count 149 = .ok (.getfield 54, 3) := by decide +kernel
theorem dX11_count_152 : decode cX11_count 152 = .ok (.getfield 270, 3) := by decide +kernel
theorem dX11_count_155 : decode cX11_count 155 = .ok (.ireturn, 1) := by decide +kernel
theorem dX11_count_156 : decode cX11_count 156 = .ok (.aload_n 0, 1) := by decide +kernel
theorem dX11_count_157 : decode cX11_count 157 = .ok (.getfield 54, 3) := by decide +kernel
theorem dX11_count_160 : decode cX11_count 160 = .ok (.aload_n 0, 1) := by decide +kernel
theorem dX11_count_161 : decode cX11_count 161 = .ok (.getfield 40, 3) := by decide +kernel
theorem dX11_count_164 : decode cX11_count 164 = .ok (.getfield 305, 3) := by decide +kernel
theorem dX11_count_167 : decode cX11_count 167 = .ok (.invokevirtual 396, 3) := by decide +kernel
theorem dX11_count_170 : decode cX11_count 170 = .ok (.ireturn, 1) := by decide +kernel
theorem dX11_count_171 : decode cX11_count 171 = .ok (.aload_n 0, 1) := by decide +kernel
theorem dX11_count_172 : decode cX11_count 172 = .ok (.getfield 85, 3) := by decide +kernel
theorem dX11_count_175 : decode cX11_count 175 = .ok (.getfield 337, 3) := by decide +kernel
theorem dX11_count_178 : decode cX11_count 178 = .ok (.ireturn, 1) := by decide +kernel
theorem dX11_count_179 : decode cX11_count 179 = .ok (.aload_n 0, 1) := by decide +kernel
theorem dX11_count_180 : decode cX11_count 180 = .ok (.getfield 64, 3) := by decide +kernel
theorem dX11_count_183 : decode cX11_count 183 = .ok (.getfield 399, 3) := by decide +kernel
theorem dX11_count_186 : decode cX11_count 186 = .ok (.ireturn, 1) := by decide +kernel
theorem dX11_count_187 : decode cX11_count 187 = .ok (.aload_n 0, 1) := by decide +kernel
theorem dX11_count_188 : decode cX11_count 188 = .ok (.getfield 19, 3) := by decide +kernel
theorem dX11_count_191 : decode cX11_count 191 = .ok (.getfield 400, 3) := by decide +kernel
theorem dX11_count_194 : decode cX11_count 194 = .ok (.ireturn, 1) := by decide +kernel
theorem dX11_count_195 : decode cX11_count 195 = .ok (.aload_n 0, 1) := by decide +kernel
theorem dX11_count_196 : decode cX11_count 196 = .ok (.getfield 10, 3) := by decide +kernel
theorem dX11_count_199 : decode cX11_count 199 = .ok (.getfield 97, 3) := by decide +kernel
theorem dX11_count_202 : decode cX11_count 202 = .ok (.ireturn, 1) := by decide +kernel
theorem dX11_count_203 : decode cX11_count 203 = .ok (.iconst (-1), 1) := by decide +kernel
theorem dX11_count_204 : decode cX11_count 204 = .ok (.ireturn, 1) := by decide +kernel
theorem dX11_row_0 : decode cX11_row 0 = .ok (.aload_n 0, 1) := by decide +kernel
theorem dX11_row_1 : decode cX11_row 1 = .ok (.getfield 19, 3) := by decide +kernel
theorem dX11_row_4 : decode cX11_row 4 = .ok (.iload_n 1, 1) := by decide +kernel
theorem dX11_row_5 : decode cX11_row 5 = .ok (.invokevirtual 401, 3) := by decide +kernel
theorem dX11_row_8 : decode cX11_row 8 = .ok (.ifCond .ne 11, 3) := by decide +kernel
theorem dX11_row_11 : decode cX11_row 11 = .ok (.new 118, 3) := by decide +kernel
theorem dX11_row_14 : decode cX11_row 14 = .ok (.dup, 1) := by decide +kernel
theorem dX11_row_15 : decode cX11_row 15 = .ok (.invokespecial 120, 3) := by decide +kernel
theorem dX11_row_18 : decode cX11_row 18 = .ok (.athrow, 1) := by decide +kernel
theorem dX11_row_19 : decode cX11_row 19 = .ok (.aload_n 0, 1) := by decide +kernel
theorem dX11_row_20 : decode cX11_row 20 = .ok (.getfield 19, 3) := by decide +kernel
theorem dX11_row_23 : decode cX11_row 23 = .ok (.iload_n 1, 1) := by decide +kernel
theorem dX11_row_24 : decode cX11_row 24 = .ok (.invokevirtual 402, 3) := by decide +kernel
theorem dX11_row_27 : decode cX11_row 27 = .ok (.lreturn, 1) := by decide +kernel
theorem dX11_refusalToGo_0 : decode cX11_refusalToGo 0 = .ok (.aload_n 0, 1) := by decide +kernel
theorem dX11_refusalToGo_1 : decode cX11_refusalToGo 1 = .ok (.getfield 26, 3) := by decide +kernel
theorem dX11_refusalToGo_4 : decode cX11_refusalToGo 4 = .ok (.iload_n 1, 1) := by decide +kernel
theorem dX11_refusalToGo_5 : decode cX11_refusalToGo 5 = .ok (.invokevirtual 115, 3) := by decide +kernel
theorem dX11_refusalToGo_8 : decode cX11_refusalToGo 8 = .ok (.ifCond .ne 5, 3) := by decide +kernel
theorem dX11_refusalToGo_11 : decode cX11_refusalToGo 11 = .ok (.iconst (-1), 1) := by decide +kernel
theorem dX11_refusalToGo_12 : decode cX11_refusalToGo 12 = .ok (.ireturn, 1) := by decide +kernel
theorem dX11_refusalToGo_13 : decode cX11_refusalToGo 13 = .ok (.aload_n 0, 1) := by decide +kernel
theorem dX11_refusalToGo_14 : decode cX11_refusalToGo 14 = .ok (.getfield 26, 3) := by decide +kernel
theorem dX11_refusalToGo_17 : decode cX11_refusalToGo 17 = .ok (.aload_n 0, 1) := by decide +kernel
theorem dX11_refusalToGo_18 : decode cX11_refusalToGo 18 = .ok (.getfield 54, 3) := by decide +kernel
theorem dX11_refusalToGo_21 : decode cX11_refusalToGo 21 = .ok (.getfield 134, 3) := by decide +kernel
theorem dX11_refusalToGo_24 : decode cX11_refusalToGo 24 = .ok (.iload_n 1, 1) := by decide +kernel
theorem dX11_refusalToGo_25 : decode cX11_refusalToGo 25 = .ok (.aload_n 0, 1) := by decide +kernel
theorem dX11_refusalToGo_26 : decode cX11_refusalToGo 26 = .ok (.getfield 33, 3) := by decide +kernel
theorem dX11_refusalToGo_29 : decode cX11_refusalToGo 29 = .ok (.aload_n 0, 1) := by decide +kernel
theorem dX11_refusalToGo_30 : decode cX11_refusalToGo 30 = .ok (.getfield 54, 3) := by decide +kernel
theorem dX11_refusalToGo_33 : decode cX11_refusalToGo 33 = .ok (.getfield 127, 3) := by decide +kernel
theorem dX11_refusalToGo_36 : decode cX11_refusalToGo 36 = .ok (.invokevirtual 230, 3) := by decide +kernel
theorem dX11_refusalToGo_39 : decode cX11_refusalToGo 39 = .ok (.invokevirtual 373, 3) := by decide +kernel
theorem dX11_refusalToGo_42 : decode cX11_refusalToGo 42 = .ok (.ifCond .eq 7, 3) := by decide +kernel
theorem dX11_refusalToGo_45 : decode cX11_refusalToGo 45 = .ok (.iconst 0, 1) := by decide +kernel
theorem dX11_refusalToGo_46 : decode cX11_refusalToGo 46 = .ok (.goto 5, 3) := by decide +kernel
theorem dX11_refusalToGo_49 : decode cX11_refusalToGo 49 = .ok (.bipush (-2), 2) := by decide +kernel
theorem dX11_refusalToGo_51 : decode cX11_refusalToGo 51 = .ok (.ireturn, 1) := by decide +kernel
theorem dX11_refusalToStay_0 : decode cX11_refusalToStay 0 = .ok (.aload_n 0, 1) := by decide +kernel
theorem dX11_refusalToStay_1 : decode cX11_refusalToStay 1 = .ok (.getfield 26, 3) := by decide +kernel
theorem dX11_refusalToStay_4 : decode cX11_refusalToStay 4 = .ok (.getfield 261, 3) := by decide +kernel
theorem dX11_refusalToStay_7 : decode cX11_refusalToStay 7 = .ok (.ifCond .ne 6, 3) := by decide +kernel
theorem dX11_refusalToStay_10 : decode cX11_refusalToStay 10 = .ok (.bipush (-2), 2) := by decide +kernel
theorem dX11_refusalToStay_12 : decode cX11_refusalToStay 12 = .ok (.ireturn, 1) := by decide +kernel
theorem dX11_refusalToStay_13 : decode cX11_refusalToStay 13 = .ok (.iload_n 1, 1) := by decide +kernel
theorem dX11_refusalToStay_14 : decode cX11_refusalToStay 14 = .ok (.ifCond .lt 9, 3) := by decide +kernel
theorem dX11_refusalToStay_17 : decode cX11_refusalToStay 17 = .ok (.iload_n 1, 1) := by decide +kernel
theorem dX11_refusalToStay_18 : decode cX11_refusalToStay 18 = .ok (.bipush 60, 2) := by decide +kernel
theorem dX11_refusalToStay_20 : decode cX11_refusalToStay 20 = .ok (.if_icmp .le 7, 3) := by decide +kernel
theorem dX11_refusalToStay_23 : decode cX11_refusalToStay 23 = .ok (.iconst (-1), 1) := by decide +kernel
theorem dX11_refusalToStay_24 : decode cX11_refusalToStay 24 = .ok (.goto 4, 3) := by decide +kernel
theorem dX11_refusalToStay_27 : decode cX11_refusalToStay 27 = .ok (.iconst 0, 1) := by decide +kernel
theorem dX11_refusalToStay_28 : decode cX11_refusalToStay 28 = .ok (.ireturn, 1) := by decide +kernel
theorem dX11_spendNight_0 : decode cX11_spendNight 0 = .ok (.aload_n 1, 1) := by decide +kernel
theorem dX11_spendNight_1 : decode cX11_spendNight 1 = .ok (.aload_n 0, 1) := by decide +kernel
theorem dX11_spendNight_2 : decode cX11_spendNight 2 = .ok (.getfield 26, 3) := by decide +kernel
theorem dX11_spendNight_5 : decode cX11_spendNight 5 = .ok (.aload_n 0, 1) := by decide +kernel
theorem dX11_spendNight_6 : decode cX11_spendNight 6 = .ok (.getfield 33, 3) := by decide +kernel
theorem dX11_spendNight_9 : decode cX11_spendNight 9 = .ok (.aload_n 0, 1) := by decide +kernel
theorem dX11_spendNight_10 : decode cX11_spendNight 10 = .ok (.getfield 40, 3) := by decide +kernel
theorem dX11_spendNight_13 : decode cX11_spendNight 13 = .ok (.aload_n 0, 1) := by decide +kernel
theorem dX11_spendNight_14 : decode cX11_spendNight 14 = .ok (.getfield 47, 3) := by decide +kernel
theorem dX11_spendNight_17 : decode cX11_spendNight 17 = .ok (.iload_n 2, 1) := by decide +kernel
theorem dX11_spendNight_18 : decode cX11_spendNight 18 = .ok (.invokevirtual 405, 3) := by decide +kernel
theorem dX11_spendNight_21 : decode cX11_spendNight 21 = .ok (.istore_n 3, 1) := by decide +kernel
theorem dX11_spendNight_22 : decode cX11_spendNight 22 = .ok (.aload_n 0, 1) := by decide +kernel
theorem dX11_spendNight_23 : decode cX11_spendNight 23 = .ok (.dup, 1) := by decide +kernel
theorem dX11_spendNight_24 : decode cX11_spendNight 24 = .ok (.getfield 195, 3) := by decide +kernel
theorem dX11_spendNight_27 : decode cX11_spendNight 27 = .ok (.aload_n 1, 1) := by decide +kernel
theorem dX11_spendNight_28 : decode cX11_spendNight 28 = .ok (.getfield 185, 3) := by decide +kernel
theorem dX11_spendNight_31 : decode cX11_spendNight 31 = .ok (.iadd, 1) := by decide +kernel
theorem dX11_spendNight_32 : decode cX11_spendNight 32 = .ok (.putfield 195, 3) := by decide +kernel
theorem dX11_spendNight_35 : decode cX11_spendNight 35 = .ok (.iload_n 3, 1) := by decide +kernel
theorem dX11_spendNight_36 : decode cX11_spendNight 36 = .ok (.ireturn, 1) := by decide +kernel
theorem dX11_sleepOn_0 : decode cX11_sleepOn 0 = .ok (.iconst 0, 1) := by decide +kernel
theorem dX11_sleepOn_1 : decode cX11_sleepOn 1 = .ok (.istore_n 2, 1) := by decide +kernel
theorem dX11_sleepOn_2 : decode cX11_sleepOn 2 = .ok (.iconst 0, 1) := by decide +kernel
theorem dX11_sleepOn_3 : decode cX11_sleepOn 3 = .ok (.istore_n 3, 1) := by decide +kernel
theorem dX11_sleepOn_4 : decode cX11_sleepOn 4 = .ok (.iload_n 3, 1) := by decide +kernel
theorem dX11_sleepOn_5 : decode cX11_sleepOn 5 = .ok (.iload_n 1, 1) := by decide +kernel
theorem dX11_sleepOn_6 : decode cX11_sleepOn 6 = .ok (.if_icmp .ge 27, 3) := by decide +kernel
theorem dX11_sleepOn_9 : decode cX11_sleepOn 9 = .ok (.iload_n 2, 1) := by decide +kernel
theorem dX11_sleepOn_10 : decode cX11_sleepOn 10 = .ok (.aload_n 0, 1) := by decide +kernel
theorem dX11_sleepOn_11 : decode cX11_sleepOn 11 = .ok (.aload_n 0, 1) := by decide +kernel
theorem dX11_sleepOn_12 : decode cX11_sleepOn 12 = .ok (.getfield 54, 3) := by decide +kernel
theorem dX11_sleepOn_15 : decode cX11_sleepOn 15 = .ok (.aload_n 0, 1) := by decide +kernel
theorem dX11_sleepOn_16 : decode cX11_sleepOn 16 = .ok (.getfield 54, 3) := by decide +kernel
theorem dX11_sleepOn_19 : decode cX11_sleepOn 19 = .ok (.getfield 134, 3) := by decide +kernel
theorem dX11_sleepOn_22 : decode cX11_sleepOn 22 = .ok (.invokevirtual 180, 3) := by decide +kernel
theorem dX11_sleepOn_25 : decode cX11_sleepOn 25 = .ok (.iadd, 1) := by decide +kernel
theorem dX11_sleepOn_26 : decode cX11_sleepOn 26 = .ok (.istore_n 2, 1) := by decide +kernel
theorem dX11_sleepOn_27 : decode cX11_sleepOn 27 = .ok (.iinc 3 1, 3) := by decide +kernel
theorem dX11_sleepOn_30 : decode cX11_sleepOn 30 = .ok (.goto (-26), 3) := by decide +kernel
theorem dX11_sleepOn_33 : decode cX11_sleepOn 33 = .ok (.iload_n 2, 1) := by decide +kernel
theorem dX11_sleepOn_34 : decode cX11_sleepOn 34 = .ok (.ireturn, 1) := by decide +kernel
theorem dX11_doAct_0 : decode cX11_doAct 0 = .ok (.iload_n 1, 1) := by decide +kernel
theorem dX11_doAct_1 : decode cX11_doAct 1 = .ok (.bipush 109, 2) := by decide +kernel
theorem dX11_doAct_3 : decode cX11_doAct 3 = .ok (.if_icmp .ne 26, 3) := by decide +kernel
theorem dX11_doAct_6 : decode cX11_doAct 6 = .ok (.aload_n 0, 1) := by decide +kernel
theorem dX11_doAct_7 : decode cX11_doAct 7 = .ok (.getfield 54, 3) := by decide +kernel
theorem dX11_doAct_10 : decode cX11_doAct 10 = .ok (.invokevirtual 201, 3) := by decide +kernel
theorem dX11_doAct_13 : decode cX11_doAct 13 = .ok (.ifCond .eq 13, 3) := by decide +kernel
theorem dX11_doAct_16 : decode cX11_doAct 16 = .ok (.aload_n 0, 1) := by decide +kernel
theorem dX11_doAct_17 : decode cX11_doAct 17 = .ok (.getfield 54, 3) := by decide +kernel
theorem dX11_doAct_20 : decode cX11_doAct 20 = .ok (.invokevirtual 205, 3) := by decide +kernel
theorem dX11_doAct_23 : decode cX11_doAct 23 = .ok (.goto 5, 3) := by decide +kernel
theorem dX11_doAct_26 : decode cX11_doAct 26 = .ok (.bipush (-2), 2) := by decide +kernel
theorem dX11_doAct_28 : decode cX11_doAct 28 = .ok (.ireturn, 1) := by decide +kernel
theorem dX11_doAct_29 : decode cX11_doAct 29 = .ok (.iload_n 1, 1) := by decide +kernel
theorem dX11_doAct_30 : decode cX11_doAct 30 = .ok (.bipush 122, 2) := by decide +kernel
theorem dX11_doAct_32 : decode cX11_doAct 32 = .ok (.if_icmp .ne 23, 3) := by decide +kernel
theorem dX11_doAct_35 : decode cX11_doAct 35 = .ok (.aload_n 0, 1) := by decide +kernel
theorem dX11_doAct_36 : decode cX11_doAct 36 = .ok (.iload_n 2, 1) := by decide +kernel
theorem dX11_doAct_37 : decode cX11_doAct 37 = .ok (.invokevirtual 192, 3) := by decide +kernel
theorem dX11_doAct_40 : decode cX11_doAct 40 = .ok (.istore_n 3, 1) := by decide +kernel
theorem dX11_doAct_41 : decode cX11_doAct 41 = .ok (.iload_n 3, 1) := by decide +kernel
theorem dX11_doAct_42 : decode cX11_doAct 42 = .ok (.ifCond .ge 7, 3) := by decide +kernel
theorem dX11_doAct_45 : decode cX11_doAct 45 = .ok (.iload_n 3, 1) := by decide +kernel
theorem dX11_doAct_46 : decode cX11_doAct 46 = .ok (.goto 8, 3) := by decide +kernel
theorem dX11_doAct_49 : decode cX11_doAct 49 = .ok (.aload_n 0, 1) := by decide +kernel
theorem dX11_doAct_50 : decode cX11_doAct 50 = .ok (.iload_n 2, 1) := by decide +kernel
theorem dX11_doAct_51 : decode cX11_doAct 51 = .ok (.invokevirtual 198, 3) := by decide +kernel
theorem dX11_doAct_54 : decode cX11_doAct 54 = .ok (.ireturn, 1) := by decide +kernel
theorem dX11_doAct_55 : decode cX11_doAct 55 = .ok (.aload_n 0, 1) := by decide +kernel
theorem dX11_doAct_56 : decode cX11_doAct 56 = .ok (.iload_n 2, 1) := by decide +kernel
theorem dX11_doAct_57 : decode cX11_doAct 57 = .ok (.invokevirtual 170, 3) := by decide +kernel
theorem dX11_doAct_60 : decode cX11_doAct 60 = .ok (.istore_n 3, 1) := by decide +kernel
theorem dX11_doAct_61 : decode cX11_doAct 61 = .ok (.iload_n 3, 1) := by decide +kernel
theorem dX11_doAct_62 : decode cX11_doAct 62 = .ok (.ifCond .ge 7, 3) := by decide +kernel
theorem dX11_doAct_65 : decode cX11_doAct 65 = .ok (.iload_n 3, 1) := by decide +kernel
theorem dX11_doAct_66 : decode cX11_doAct 66 = .ok (.goto 12, 3) := by decide +kernel
theorem dX11_doAct_69 : decode cX11_doAct 69 = .ok (.aload_n 0, 1) := by decide +kernel
theorem dX11_doAct_70 : decode cX11_doAct 70 = .ok (.aload_n 0, 1) := by decide +kernel
theorem dX11_doAct_71 : decode cX11_doAct 71 = .ok (.getfield 54, 3) := by decide +kernel
theorem dX11_doAct_74 : decode cX11_doAct 74 = .ok (.iload_n 2, 1) := by decide +kernel
theorem dX11_doAct_75 : decode cX11_doAct 75 = .ok (.invokevirtual 180, 3) := by decide +kernel
theorem dX11_doAct_78 : decode cX11_doAct 78 = .ok (.ireturn, 1) := by decide +kernel
theorem dX11_canPlan_0 : decode cX11_canPlan 0 = .ok (.aload_n 0, 1) := by decide +kernel
theorem dX11_canPlan_1 : decode cX11_canPlan 1 = .ok (.getfield 26, 3) := by decide +kernel
theorem dX11_canPlan_4 : decode cX11_canPlan 4 = .ok (.getfield 261, 3) := by decide +kernel
theorem dX11_canPlan_7 : decode cX11_canPlan 7 = .ok (.ifCond .le 16, 3) := by decide +kernel
theorem dX11_canPlan_10 : decode cX11_canPlan 10 = .ok (.iload_n 1, 1) := by decide +kernel
theorem dX11_canPlan_11 : decode cX11_canPlan 11 = .ok (.ifCond .lt 12, 3) := by decide +kernel
theorem dX11_canPlan_14 : decode cX11_canPlan 14 = .ok (.iload_n 1, 1) := by decide +kernel
theorem dX11_canPlan_15 : decode cX11_canPlan 15 = .ok (.iload_n 2, 1) := by decide +kernel
theorem dX11_canPlan_16 : decode cX11_canPlan 16 = .ok (.if_icmp .gt 7, 3) := by decide +kernel
theorem dX11_canPlan_19 : decode cX11_canPlan 19 = .ok (.iconst 1, 1) := by decide +kernel
theorem dX11_canPlan_20 : decode cX11_canPlan 20 = .ok (.goto 4, 3) := by decide +kernel
theorem dX11_canPlan_23 : decode cX11_canPlan 23 = .ok (.iconst 0, 1) := by decide +kernel
theorem dX11_canPlan_24 : decode cX11_canPlan 24 = .ok (.ireturn, 1) := by decide +kernel
theorem dX11_layPlan_0 : decode cX11_layPlan 0 = .ok (.aload_n 0, 1) := by decide +kernel
theorem dX11_layPlan_1 : decode cX11_layPlan 1 = .ok (.getfield 78, 3) := by decide +kernel
theorem dX11_layPlan_4 : decode cX11_layPlan 4 = .ok (.aload_n 0, 1) := by decide +kernel
theorem dX11_layPlan_5 : decode cX11_layPlan 5 = .ok (.getfield 26, 3) := by decide +kernel
theorem dX11_layPlan_8 : decode cX11_layPlan 8 = .ok (.aload_n 0, 1) := by decide +kernel
theorem dX11_layPlan_9 : decode cX11_layPlan 9 = .ok (.getfield 33, 3) := by decide +kernel
theorem dX11_layPlan_12 : decode cX11_layPlan 12 = .ok (.aload_n 0, 1) := by decide +kernel
theorem dX11_layPlan_13 : decode cX11_layPlan 13 = .ok (.getfield 54, 3) := by decide +kernel
theorem dX11_layPlan_16 : decode cX11_layPlan 16 = .ok (.getfield 127, 3) := by decide +kernel
theorem dX11_layPlan_19 : decode cX11_layPlan 19 = .ok (.iload_n 1, 1) := by decide +kernel
theorem dX11_layPlan_20 : decode cX11_layPlan 20 = .ok (.invokevirtual 236, 3) := by decide +kernel
theorem dX11_layPlan_23 : decode cX11_layPlan 23 = .ok (.aload_n 0, 1) := by decide +kernel
theorem dX11_layPlan_24 : decode cX11_layPlan 24 = .ok (.getfield 78, 3) := by decide +kernel
theorem dX11_layPlan_27 : decode cX11_layPlan 27 = .ok (.aload_n 0, 1) := by decide +kernel
theorem dX11_layPlan_28 : decode cX11_layPlan 28 = .ok (.getfield 33, 3) := by decide +kernel
theorem dX11_layPlan_31 : decode cX11_layPlan 31 = .ok (.aload_n 0, 1) := by decide +kernel
theorem dX11_layPlan_32 : decode cX11_layPlan 32 = .ok (.getfield 40, 3) := by decide +kernel
theorem dX11_layPlan_35 : decode cX11_layPlan 35 = .ok (.aload_n 0, 1) := by decide +kernel
theorem dX11_layPlan_36 : decode cX11_layPlan 36 = .ok (.getfield 54, 3) := by decide +kernel
theorem dX11_layPlan_39 : decode cX11_layPlan 39 = .ok (.iload_n 1, 1) := by decide +kernel
theorem dX11_layPlan_40 : decode cX11_layPlan 40 = .ok (.invokevirtual 409, 3) := by decide +kernel
theorem dX11_layPlan_43 : decode cX11_layPlan 43 = .ok (.return_, 1) := by decide +kernel
theorem dX11_planRound_0 : decode cX11_planRound 0 = .ok (.aload_n 0, 1) := by decide +kernel
theorem dX11_planRound_1 : decode cX11_planRound 1 = .ok (.iload_n 1, 1) := by decide +kernel
theorem dX11_planRound_2 : decode cX11_planRound 2 = .ok (.invokevirtual 267, 3) := by decide +kernel
theorem dX11_planRound_5 : decode cX11_planRound 5 = .ok (.aload_n 0, 1) := by decide +kernel
theorem dX11_planRound_6 : decode cX11_planRound 6 = .ok (.getfield 78, 3) := by decide +kernel
theorem dX11_planRound_9 : decode cX11_planRound 9 = .ok (.invokevirtual 413, 3) := by decide +kernel
theorem dX11_planRound_12 : decode cX11_planRound 12 = .ok (.aload_n 0, 1) := by decide +kernel
theorem dX11_planRound_13 : decode cX11_planRound 13 = .ok (.getfield 78, 3) := by decide +kernel
theorem dX11_planRound_16 : decode cX11_planRound 16 = .ok (.aload_n 0, 1) := by decide +kernel
theorem dX11_planRound_17 : decode cX11_planRound 17 = .ok (.getfield 54, 3) := by decide +kernel
theorem dX11_planRound_20 : decode cX11_planRound 20 = .ok (.getfield 134, 3) := by decide +kernel
theorem dX11_planRound_23 : decode cX11_planRound 23 = .ok (.aload_n 0, 1) := by decide +kernel
theorem dX11_planRound_24 : decode cX11_planRound 24 = .ok (.getfield 54, 3) := by decide +kernel
theorem dX11_planRound_27 : decode cX11_planRound 27 = .ok (.getfield 270, 3) := by decide +kernel
theorem dX11_planRound_30 : decode cX11_planRound 30 = .ok (.iload_n 1, 1) := by decide +kernel
theorem dX11_planRound_31 : decode cX11_planRound 31 = .ok (.invokevirtual 273, 3) := by decide +kernel
theorem dX11_planRound_34 : decode cX11_planRound 34 = .ok (.aload_n 0, 1) := by decide +kernel
theorem dX11_planRound_35 : decode cX11_planRound 35 = .ok (.getfield 78, 3) := by decide +kernel
theorem dX11_planRound_38 : decode cX11_planRound 38 = .ok (.iload_n 1, 1) := by decide +kernel
theorem dX11_planRound_39 : decode cX11_planRound 39 = .ok (.invokevirtual 283, 3) := by decide +kernel
theorem dX11_planRound_42 : decode cX11_planRound 42 = .ok (.return_, 1) := by decide +kernel
theorem dX11_planRichest_0 : decode cX11_planRichest 0 = .ok (.aload_n 0, 1) := by decide +kernel
theorem dX11_planRichest_1 : decode cX11_planRichest 1 = .ok (.iload_n 1, 1) := by decide +kernel
theorem dX11_planRichest_2 : decode cX11_planRichest 2 = .ok (.invokevirtual 267, 3) := by decide +kernel
theorem dX11_planRichest_5 : decode cX11_planRichest 5 = .ok (.aload_n 0, 1) := by decide +kernel
theorem dX11_planRichest_6 : decode cX11_planRichest 6 = .ok (.getfield 78, 3) := by decide +kernel
theorem dX11_planRichest_9 : decode cX11_planRichest 9 = .ok (.aload_n 0, 1) := by decide +kernel
theorem dX11_planRichest_10 : decode cX11_planRichest 10 = .ok (.getfield 40, 3) := by decide +kernel
theorem dX11_planRichest_13 : decode cX11_planRichest 13 = .ok (.iconst 1, 1) := by decide +kernel
theorem dX11_planRichest_14 : decode cX11_planRichest 14 = .ok (.invokevirtual 297, 3) := by decide +kernel
theorem dX11_planRichest_17 : decode cX11_planRichest 17 = .ok (.aload_n 0, 1) := by decide +kernel
theorem dX11_planRichest_18 : decode cX11_planRichest 18 = .ok (.getfield 78, 3) := by decide +kernel
theorem dX11_planRichest_21 : decode cX11_planRichest 21 = .ok (.aload_n 0, 1) := by decide +kernel
theorem dX11_planRichest_22 : decode cX11_planRichest 22 = .ok (.getfield 54, 3) := by decide +kernel
theorem dX11_planRichest_25 : decode cX11_planRichest 25 = .ok (.getfield 134, 3) := by decide +kernel
theorem dX11_planRichest_28 : decode cX11_planRichest 28 = .ok (.aload_n 0, 1) := by decide +kernel
theorem dX11_planRichest_29 : decode cX11_planRichest 29 = .ok (.getfield 54, 3) := by decide +kernel
theorem dX11_planRichest_32 : decode cX11_planRichest 32 = .ok (.getfield 270, 3) := by decide +kernel
theorem dX11_planRichest_35 : decode cX11_planRichest 35 = .ok (.iload_n 1, 1) := by decide +kernel
theorem dX11_planRichest_36 : decode cX11_planRichest 36 = .ok (.invokevirtual 273, 3) := by decide +kernel
theorem dX11_planRichest_39 : decode cX11_planRichest 39 = .ok (.aload_n 0, 1) := by decide +kernel
theorem dX11_planRichest_40 : decode cX11_planRichest 40 = .ok (.getfield 78, 3) := by decide +kernel
theorem dX11_planRichest_43 : decode cX11_planRichest 43 = .ok (.iload_n 1, 1) := by decide +kernel
theorem dX11_planRichest_44 : decode cX11_planRichest 44 = .ok (.invokevirtual 283, 3) := by decide +kernel
theorem dX11_planRichest_47 : decode cX11_planRichest 47 = .ok (.return_, 1) := by decide +kernel
theorem dX11_gainOfOneNight_0 : decode cX11_gainOfOneNight 0 = .ok (.aload_n 0, 1) := by decide +kernel
theorem dX11_gainOfOneNight_1 : decode cX11_gainOfOneNight 1 = .ok (.getfield 40, 3) := by decide +kernel
theorem dX11_gainOfOneNight_4 : decode cX11_gainOfOneNight 4 = .ok (.iload_n 1, 1) := by decide +kernel
theorem dX11_gainOfOneNight_5 : decode cX11_gainOfOneNight 5 = .ok (.invokevirtual 141, 3) := by decide +kernel
theorem dX11_gainOfOneNight_8 : decode cX11_gainOfOneNight 8 = .ok (.ifCond .eq 28, 3) := by decide +kernel
theorem dX11_gainOfOneNight_11 : decode cX11_gainOfOneNight 11 = .ok (.aload_n 0, 1) := by decide +kernel
theorem dX11_gainOfOneNight_12 : decode cX11_gainOfOneNight 12 = .ok (.getfield 54, 3) := by decide +kernel
theorem dX11_gainOfOneNight_15 : decode cX11_gainOfOneNight 15 = .ok (.iload_n 1, 1) := by decide +kernel
theorem dX11_gainOfOneNight_16 : decode cX11_gainOfOneNight 16 = .ok (.invokevirtual 157, 3) := by decide +kernel
theorem dX11_gainOfOneNight_19 : decode cX11_gainOfOneNight 19 = .ok (.ifCond .ne 17, 3) := by decide +kernel
theorem dX11_gainOfOneNight_22 : decode cX11_gainOfOneNight 22 = .ok (.aload_n 0, 1) := by decide +kernel
theorem dX11_gainOfOneNight_23 : decode cX11_gainOfOneNight 23 = .ok (.getfield 54, 3) := by decide +kernel
theorem dX11_gainOfOneNight_26 : decode cX11_gainOfOneNight 26 = .ok (.getfield 148, 3) := by decide +kernel
theorem dX11_gainOfOneNight_29 : decode cX11_gainOfOneNight 29 = .ok (.iload_n 1, 1) := by decide +kernel
theorem dX11_gainOfOneNight_30 : decode cX11_gainOfOneNight 30 = .ok (.iaload, 1) := by decide +kernel
theorem dX11_gainOfOneNight_31 : decode cX11_gainOfOneNight 31 = .ok (.bipush 99, 2) := by decide +kernel
theorem dX11_gainOfOneNight_33 : decode cX11_gainOfOneNight 33 = .ok (.if_icmp .lt 5, 3) := by decide +kernel
theorem dX11_gainOfOneNight_36 : decode cX11_gainOfOneNight 36 = .ok (.iconst 0, 1) := by decide +kernel
theorem dX11_gainOfOneNight_37 : decode cX11_gainOfOneNight 37 = .ok (.ireturn, 1) := by decide +kernel
theorem dX11_gainOfOneNight_38 : decode cX11_gainOfOneNight 38 = .ok (.aload_n 0, 1) := by decide +kernel
theorem dX11_gainOfOneNight_39 : decode cX11_gainOfOneNight 39 = .ok (.getfield 54, 3) := by decide +kernel
theorem dX11_gainOfOneNight_42 : decode cX11_gainOfOneNight 42 = .ok (.getfield 148, 3) := by decide +kernel
theorem dX11_gainOfOneNight_45 : decode cX11_gainOfOneNight 45 = .ok (.iload_n 1, 1) := by decide +kernel
theorem dX11_gainOfOneNight_46 : decode cX11_gainOfOneNight 46 = .ok (.iaload, 1) := by decide +kernel
theorem dX11_gainOfOneNight_47 : decode cX11_gainOfOneNight 47 = .ok (.iconst 1, 1) := by decide +kernel
theorem dX11_gainOfOneNight_48 : decode cX11_gainOfOneNight 48 = .ok (.iadd, 1) := by decide +kernel
theorem dX11_gainOfOneNight_49 : decode cX11_gainOfOneNight 49 = .ok (.istore_n 3, 1) := by decide +kernel
theorem dX11_gainOfOneNight_50 : decode cX11_gainOfOneNight 50 = .ok (.iload_n 3, 1) := by decide +kernel
theorem dX11_gainOfOneNight_51 : decode cX11_gainOfOneNight 51 = .ok (.aload_n 0, 1) := by decide +kernel
theorem dX11_gainOfOneNight_52 : decode cX11_gainOfOneNight 52 = .ok (.getfield 54, 3) := by decide +kernel
theorem dX11_gainOfOneNight_55 : decode cX11_gainOfOneNight 55 = .ok (.getfield 127, 3) := by decide +kernel
theorem dX11_gainOfOneNight_58 : decode cX11_gainOfOneNight 58 = .ok (.isub, 1) := by decide +kernel
theorem dX11_gainOfOneNight_59 : decode cX11_gainOfOneNight 59 = .ok (.istore 4, 2) := by decide +kernel
theorem dX11_gainOfOneNight_61 : decode cX11_gainOfOneNight 61 = .ok (.iload 4, 2) := by decide +kernel
theorem dX11_gainOfOneNight_63 : decode cX11_gainOfOneNight 63 = .ok (.ifCond .lt 20, 3) := by decide +kernel
theorem dX11_gainOfOneNight_66 : decode cX11_gainOfOneNight 66 = .ok (.iload 4, 2) := by decide +kernel
theorem dX11_gainOfOneNight_68 : decode cX11_gainOfOneNight 68 = .ok (.iload_n 2, 1) := by decide +kernel
theorem dX11_gainOfOneNight_69 : decode cX11_gainOfOneNight 69 = .ok (.if_icmp .ge 14, 3) := by decide +kernel
theorem dX11_gainOfOneNight_72 : decode cX11_gainOfOneNight 72 = .ok (.aload_n 0, 1) := by decide +kernel
theorem dX11_gainOfOneNight_73 : decode cX11_gainOfOneNight 73 = .ok (.getfield 33, 3) := by decide +kernel
theorem dX11_gainOfOneNight_76 : decode cX11_gainOfOneNight 76 = .ok (.iload_n 3, 1) := by decide +kernel
theorem dX11_gainOfOneNight_77 : decode cX11_gainOfOneNight 77 = .ok (.invokevirtual 369, 3) := by decide +kernel
theorem dX11_gainOfOneNight_80 : decode cX11_gainOfOneNight 80 = .ok (.ifCond .eq 5, 3) := by decide +kernel
theorem dX11_gainOfOneNight_83 : decode cX11_gainOfOneNight 83 = .ok (.iconst 0, 1) := by decide +kernel
theorem dX11_gainOfOneNight_84 : decode cX11_gainOfOneNight 84 = .ok (.ireturn, 1) := by decide +kernel
theorem dX11_gainOfOneNight_85 : decode cX11_gainOfOneNight 85 = .ok (.aload_n 0, 1) := by decide +kernel
theorem dX11_gainOfOneNight_86 : decode cX11_gainOfOneNight 86 = .ok (.getfield 78, 3) := by decide +kernel
theorem dX11_gainOfOneNight_89 : decode cX11_gainOfOneNight 89 = .ok (.iload 4, 2) := by decide +kernel
theorem dX11_gainOfOneNight_91 : decode cX11_gainOfOneNight 91 = .ok (.aload_n 0, 1) := by decide +kernel
theorem dX11_gainOfOneNight_92 : decode cX11_gainOfOneNight 92 = .ok (.getfield 40, 3) := by decide +kernel
theorem dX11_gainOfOneNight_95 : decode cX11_gainOfOneNight 95 = .ok (.getfield 142, 3) := by decide +kernel
theorem dX11_gainOfOneNight_98 : decode cX11_gainOfOneNight 98 = .ok (.iload_n 1, 1) := by decide +kernel
theorem dX11_gainOfOneNight_99 : decode cX11_gainOfOneNight 99 = .ok (.iaload, 1) := by decide +kernel
theorem dX11_gainOfOneNight_100 : decode cX11_gainOfOneNight 100 = .ok (.iload_n 1, 1) := by decide +kernel
theorem dX11_gainOfOneNight_101 : decode cX11_gainOfOneNight 101 = .ok (.invokevirtual 416, 3) := by decide +kernel
theorem dX11_gainOfOneNight_104 : decode cX11_gainOfOneNight 104 = .ok (.aload_n 0, 1) := by decide +kernel
theorem dX11_gainOfOneNight_105 : decode cX11_gainOfOneNight 105 = .ok (.getfield 78, 3) := by decide +kernel
theorem dX11_gainOfOneNight_108 : decode cX11_gainOfOneNight 108 = .ok (.aload_n 0, 1) := by decide +kernel
theorem dX11_gainOfOneNight_109 : decode cX11_gainOfOneNight 109 = .ok (.getfield 54, 3) := by decide +kernel
theorem dX11_gainOfOneNight_112 : decode cX11_gainOfOneNight 112 = .ok (.getfield 134, 3) := by decide +kernel
theorem dX11_gainOfOneNight_115 : decode cX11_gainOfOneNight 115 = .ok (.aload_n 0, 1) := by decide +kernel
theorem dX11_gainOfOneNight_116 : decode cX11_gainOfOneNight 116 = .ok (.getfield 54, 3) := by decide +kernel
theorem dX11_gainOfOneNight_119 : decode cX11_gainOfOneNight 119 = .ok (.getfield 270, 3) := by decide +kernel
theorem dX11_gainOfOneNight_122 : decode cX11_gainOfOneNight 122 = .ok (.iload_n 2, 1) := by decide +kernel
theorem dX11_gainOfOneNight_123 : decode cX11_gainOfOneNight 123 = .ok (.invokevirtual 301, 3) := by decide +kernel
theorem dX11_gainOfOneNight_126 : decode cX11_gainOfOneNight 126 = .ok (.istore 5, 2) := by decide +kernel
theorem dX11_gainOfOneNight_128 : decode cX11_gainOfOneNight 128 = .ok (.aload_n 0, 1) := by decide +kernel
theorem dX11_gainOfOneNight_129 : decode cX11_gainOfOneNight 129 = .ok (.getfield 78, 3) := by decide +kernel
theorem dX11_gainOfOneNight_132 : decode cX11_gainOfOneNight 132 = .ok (.iload 4, 2) := by decide +kernel
theorem dX11_gainOfOneNight_134 : decode cX11_gainOfOneNight 134 = .ok (.aload_n 0, 1) := by decide +kernel
theorem dX11_gainOfOneNight_135 : decode cX11_gainOfOneNight 135 = .ok (.getfield 40, 3) := by decide +kernel
theorem dX11_gainOfOneNight_138 : decode cX11_gainOfOneNight 138 = .ok (.getfield 142, 3) := by decide +kernel
theorem dX11_gainOfOneNight_141 : decode cX11_gainOfOneNight 141 = .ok (.iload_n 1, 1) := by decide +kernel
theorem dX11_gainOfOneNight_142 : decode cX11_gainOfOneNight 142 = .ok (.iaload, 1) := by decide +kernel
theorem dX11_gainOfOneNight_143 : decode cX11_gainOfOneNight 143 = .ok (.iload_n 1, 1) := by decide +kernel
theorem dX11_gainOfOneNight_144 : decode cX11_gainOfOneNight 144 = .ok (.invokevirtual 416, 3) := by decide +kernel
theorem dX11_gainOfOneNight_147 : decode cX11_gainOfOneNight 147 = .ok (.iload 5, 2) := by decide +kernel
theorem dX11_gainOfOneNight_149 : decode cX11_gainOfOneNight 149 = .ok (.ireturn, 1) := by decide +kernel
theorem dX11_isNoFarther_0 : decode cX11_isNoFarther 0 = .ok (.aload_n 0, 1) := by decide +kernel
theorem dX11_isNoFarther_1 : decode cX11_isNoFarther 1 = .ok (.getfield 26, 3) := by decide +kernel
theorem dX11_isNoFarther_4 : decode cX11_isNoFarther 4 = .ok (.aload_n 0, 1) := by decide +kernel
theorem dX11_isNoFarther_5 : decode cX11_isNoFarther 5 = .ok (.getfield 54, 3) := by decide +kernel
theorem dX11_isNoFarther_8 : decode cX11_isNoFarther 8 = .ok (.getfield 134, 3) := by decide +kernel
theorem dX11_isNoFarther_11 : decode cX11_isNoFarther 11 = .ok (.iload_n 1, 1) := by decide +kernel
theorem dX11_isNoFarther_12 : decode cX11_isNoFarther 12 = .ok (.invokevirtual 137, 3) := by decide +kernel
theorem dX11_isNoFarther_15 : decode cX11_isNoFarther 15 = .ok (.istore_n 3, 1) := by decide +kernel
theorem dX11_isNoFarther_16 : decode cX11_isNoFarther 16 = .ok (.aload_n 0, 1) := by decide +kernel
theorem dX11_isNoFarther_17 : decode cX11_isNoFarther 17 = .ok (.getfield 26, 3) := by decide +kernel
theorem dX11_isNoFarther_20 : decode cX11_isNoFarther 20 = .ok (.aload_n 0, 1) := by decide +kernel
theorem dX11_isNoFarther_21 : decode cX11_isNoFarther 21 = .ok (.getfield 54, 3) := by decide +kernel
theorem dX11_isNoFarther_24 : decode cX11_isNoFarther 24 = .ok (.getfield 134, 3) := by decide +kernel
theorem dX11_isNoFarther_27 : decode cX11_isNoFarther 27 = .ok (.iload_n 2, 1) := by decide +kernel
theorem dX11_isNoFarther_28 : decode cX11_isNoFarther 28 = .ok (.invokevirtual 137, 3) := by decide +kernel
theorem dX11_isNoFarther_31 : decode cX11_isNoFarther 31 = .ok (.istore 4, 2) := by decide +kernel
theorem dX11_isNoFarther_33 : decode cX11_isNoFarther 33 = .ok (.iload 4, 2) := by decide +kernel
theorem dX11_isNoFarther_35 : decode cX11_isNoFarther 35 = .ok (.ifCond .ge 5, 3) := by decide +kernel
theorem dX11_isNoFarther_38 : decode cX11_isNoFarther 38 = .ok (.iconst 1, 1) := by decide +kernel
theorem dX11_isNoFarther_39 : decode cX11_isNoFarther 39 = .ok (.ireturn, 1) := by decide +kernel
theorem dX11_isNoFarther_40 : decode cX11_isNoFarther 40 = .ok (.iload_n 3, 1) := by decide +kernel
theorem dX11_isNoFarther_41 : decode cX11_isNoFarther 41 = .ok (.ifCond .lt 13, 3) := by decide +kernel
theorem dX11_isNoFarther_44 : decode cX11_isNoFarther 44 = .ok (.iload_n 3, 1) := by decide +kernel
theorem dX11_isNoFarther_45 : decode cX11_isNoFarther 45 = .ok (.iload 4, 2) := by decide +kernel
theorem dX11_isNoFarther_47 : decode cX11_isNoFarther 47 = .ok (.if_icmp .gt 7, 3) := by decide +kernel
theorem dX11_isNoFarther_50 : decode cX11_isNoFarther 50 = .ok (.iconst 1, 1) := by decide +kernel
theorem dX11_isNoFarther_51 : decode cX11_isNoFarther 51 = .ok (.goto 4, 3) := by decide +kernel
theorem dX11_isNoFarther_54 : decode cX11_isNoFarther 54 = .ok (.iconst 0, 1) := by decide +kernel
theorem dX11_isNoFarther_55 : decode cX11_isNoFarther 55 = .ok (.ireturn, 1) := by decide +kernel
theorem dX11_areSettled_0 : decode cX11_areSettled 0 = .ok (.iload_n 0, 1) := by decide +kernel
theorem dX11_areSettled_1 : decode cX11_areSettled 1 = .ok (.iload_n 1, 1) := by decide +kernel
theorem dX11_areSettled_2 : decode cX11_areSettled 2 = .ok (.iload_n 2, 1) := by decide +kernel
theorem dX11_areSettled_3 : decode cX11_areSettled 3 = .ok (.iload_n 3, 1) := by decide +kernel
theorem dX11_areSettled_4 : decode cX11_areSettled 4 = .ok (.invokestatic 419, 3) := by decide +kernel
theorem dX11_areSettled_7 : decode cX11_areSettled 7 = .ok (.istore 4, 2) := by decide +kernel
theorem dX11_areSettled_9 : decode cX11_areSettled 9 = .ok (.iload_n 1, 1) := by decide +kernel
theorem dX11_areSettled_10 : decode cX11_areSettled 10 = .ok (.iload_n 0, 1) := by decide +kernel
theorem dX11_areSettled_11 : decode cX11_areSettled 11 = .ok (.iload_n 2, 1) := by decide +kernel
theorem dX11_areSettled_12 : decode cX11_areSettled 12 = .ok (.iload_n 3, 1) := by decide +kernel
theorem dX11_areSettled_13 : decode cX11_areSettled 13 = .ok (.ifCond .ne 7, 3) := by decide +kernel
theorem dX11_areSettled_16 : decode cX11_areSettled 16 = .ok (.iconst 1, 1) := by decide +kernel
theorem dX11_areSettled_17 : decode cX11_areSettled 17 = .ok (.goto 4, 3) := by decide +kernel
theorem dX11_areSettled_20 : decode cX11_areSettled 20 = .ok (.iconst 0, 1) := by decide +kernel
theorem dX11_areSettled_21 : decode cX11_areSettled 21 = .ok (.invokestatic 419, 3) := by decide +kernel
theorem dX11_areSettled_24 : decode cX11_areSettled 24 = .ok (.istore 5, 2) := by decide +kernel
theorem dX11_areSettled_26 : decode cX11_areSettled 26 = .ok (.iconst 0, 1) := by decide +kernel
theorem dX11_areSettled_27 : decode cX11_areSettled 27 = .ok (.istore 6, 2) := by decide +kernel
theorem dX11_areSettled_29 : decode cX11_areSettled 29 = .ok (.iload 6, 2) := by decide +kernel
theorem dX11_areSettled_31 : decode cX11_areSettled 31 = .ok (.bipush 9, 2) := by decide +kernel
theorem dX11_areSettled_33 : decode cX11_areSettled 33 = .ok (.if_icmp .gt 45, 3) := by decide +kernel
theorem dX11_areSettled_36 : decode cX11_areSettled 36 = .ok (.iload 6, 2) := by decide +kernel
theorem dX11_areSettled_38 : decode cX11_areSettled 38 = .ok (.iload_n 1, 1) := by decide +kernel
theorem dX11_areSettled_39 : decode cX11_areSettled 39 = .ok (.iload_n 2, 1) := by decide +kernel
theorem dX11_areSettled_40 : decode cX11_areSettled 40 = .ok (.iload_n 3, 1) := by decide +kernel
theorem dX11_areSettled_41 : decode cX11_areSettled 41 = .ok (.invokestatic 419, 3) := by decide +kernel
theorem dX11_areSettled_44 : decode cX11_areSettled 44 = .ok (.iload 4, 2) := by decide +kernel
theorem dX11_areSettled_46 : decode cX11_areSettled 46 = .ok (.if_icmp .gt 24, 3) := by decide +kernel
theorem dX11_areSettled_49 : decode cX11_areSettled 49 = .ok (.iload 6, 2) := by decide +kernel
theorem dX11_areSettled_51 : decode cX11_areSettled 51 = .ok (.iload_n 0, 1) := by decide +kernel
theorem dX11_areSettled_52 : decode cX11_areSettled 52 = .ok (.iload_n 2, 1) := by decide +kernel
theorem dX11_areSettled_53 : decode cX11_areSettled 53 = .ok (.iload_n 3, 1) := by decide +kernel
theorem dX11_areSettled_54 : decode cX11_areSettled 54 = .ok (.ifCond .ne 7, 3) := by decide +kernel
theorem dX11_areSettled_57 : decode cX11_areSettled 57 = .ok (.iconst 1, 1) := by decide +kernel
theorem dX11_areSettled_58 : decode cX11_areSettled 58 = .ok (.goto 4, 3) := by decide +kernel
theorem dX11_areSettled_61 : decode cX11_areSettled 61 = .ok (.iconst 0, 1) := by decide +kernel
theorem dX11_areSettled_62 : decode cX11_areSettled 62 = .ok (.invokestatic 419, 3) := by decide +kernel
theorem dX11_areSettled_65 : decode cX11_areSettled 65 = .ok (.iload 5, 2) := by decide +kernel
theorem dX11_areSettled_67 : decode cX11_areSettled 67 = .ok (.if_icmp .le 5, 3) := by decide +kernel
theorem dX11_areSettled_70 : decode cX11_areSettled 70 = .ok (.iconst 0, 1) := by decide +kernel
theorem dX11_areSettled_71 : decode cX11_areSettled 71 = .ok (.ireturn, 1) := by decide +kernel
theorem dX11_areSettled_72 : decode cX11_areSettled 72 = .ok (.iinc 6 1, 3) := by decide +kernel
theorem dX11_areSettled_75 : decode cX11_areSettled 75 = .ok (.goto (-46), 3) := by decide +kernel
theorem dX11_areSettled_78 : decode cX11_areSettled 78 = .ok (.iconst 1, 1) := by decide +kernel
theorem dX11_areSettled_79 : decode cX11_areSettled 79 = .ok (.ireturn, 1) := by decide +kernel
theorem dX11_share_0 : decode cX11_share 0 = .ok (.iload_n 0, 1) := by decide +kernel
theorem dX11_share_1 : decode cX11_share 1 = .ok (.iload_n 1, 1) := by decide +kernel
theorem dX11_share_2 : decode cX11_share 2 = .ok (.if_icmp .gt 12, 3) := by decide +kernel
theorem dX11_share_5 : decode cX11_share 5 = .ok (.iload_n 0, 1) := by decide +kernel
theorem dX11_share_6 : decode cX11_share 6 = .ok (.iload_n 1, 1) := by decide +kernel
theorem dX11_share_7 : decode cX11_share 7 = .ok (.if_icmp .ne 11, 3) := by decide +kernel
theorem dX11_share_10 : decode cX11_share 10 = .ok (.iload_n 3, 1) := by decide +kernel
theorem dX11_share_11 : decode cX11_share 11 = .ok (.ifCond .eq 7, 3) := by decide +kernel
theorem dX11_share_14 : decode cX11_share 14 = .ok (.iconst 1, 1) := by decide +kernel
theorem dX11_share_15 : decode cX11_share 15 = .ok (.goto 4, 3) := by decide +kernel
theorem dX11_share_18 : decode cX11_share 18 = .ok (.iconst 0, 1) := by decide +kernel
theorem dX11_share_19 : decode cX11_share 19 = .ok (.istore 4, 2) := by decide +kernel
theorem dX11_share_21 : decode cX11_share 21 = .ok (.iload 4, 2) := by decide +kernel
theorem dX11_share_23 : decode cX11_share 23 = .ok (.ifCond .eq 9, 3) := by decide +kernel
theorem dX11_share_26 : decode cX11_share 26 = .ok (.iload_n 2, 1) := by decide +kernel
theorem dX11_share_27 : decode cX11_share 27 = .ok (.iload_n 0, 1) := by decide +kernel
theorem dX11_share_28 : decode cX11_share 28 = .ok (.isub, 1) := by decide +kernel
theorem dX11_share_29 : decode cX11_share 29 = .ok (.goto 4, 3) := by decide +kernel
theorem dX11_share_32 : decode cX11_share 32 = .ok (.iconst 0, 1) := by decide +kernel
theorem dX11_share_33 : decode cX11_share 33 = .ok (.ireturn, 1) := by decide +kernel
theorem dX11_power_0 : decode cX11_power 0 = .ok (.lconst 1, 1) := by decide +kernel
theorem dX11_power_1 : decode cX11_power 1 = .ok (.lstore_n 2, 1) := by decide +kernel
theorem dX11_power_2 : decode cX11_power 2 = .ok (.iconst 0, 1) := by decide +kernel
theorem dX11_power_3 : decode cX11_power 3 = .ok (.istore 4, 2) := by decide +kernel
theorem dX11_power_5 : decode cX11_power 5 = .ok (.iload 4, 2) := by decide +kernel
theorem dX11_power_7 : decode cX11_power 7 = .ok (.iload_n 1, 1) := by decide +kernel
theorem dX11_power_8 : decode cX11_power 8 = .ok (.if_icmp .ge 14, 3) := by decide +kernel
theorem dX11_power_11 : decode cX11_power 11 = .ok (.lload_n 2, 1) := by decide +kernel
theorem dX11_power_12 : decode cX11_power 12 = .ok (.iload_n 0, 1) := by decide +kernel
theorem dX11_power_13 : decode cX11_power 13 = .ok (.i2l, 1) := by decide +kernel
theorem dX11_power_14 : decode cX11_power 14 = .ok (.lmul, 1) := by decide +kernel
theorem dX11_power_15 : decode cX11_power 15 = .ok (.lstore_n 2, 1) := by decide +kernel
theorem dX11_power_16 : decode cX11_power 16 = .ok (.iinc 4 1, 3) := by decide +kernel
theorem dX11_power_19 : decode cX11_power 19 = .ok (.goto (-14), 3) := by decide +kernel
theorem dX11_power_22 : decode cX11_power 22 = .ok (.lload_n 2, 1) := by decide +kernel
theorem dX11_power_23 : decode cX11_power 23 = .ok (.lreturn, 1) := by decide +kernel
theorem dX11_commonDivisor_0 : decode cX11_commonDivisor 0 = .ok (.lload_n 0, 1) := by decide +kernel
theorem dX11_commonDivisor_1 : decode cX11_commonDivisor 1 = .ok (.lstore 4, 2) := by decide +kernel
theorem dX11_commonDivisor_3 : decode cX11_commonDivisor 3 = .ok (.lload_n 2, 1) := by decide +kernel
theorem dX11_commonDivisor_4 : decode cX11_commonDivisor 4 = .ok (.lstore 6, 2) := by decide +kernel
theorem dX11_commonDivisor_6 : decode cX11_commonDivisor 6 = .ok (.iconst 0, 1) := by decide +kernel
theorem dX11_commonDivisor_7 : decode cX11_commonDivisor 7 = .ok (.istore 8, 2) := by decide +kernel
theorem dX11_commonDivisor_9 : decode cX11_commonDivisor 9 = .ok (.iload 8, 2) := by decide +kernel
theorem dX11_commonDivisor_11 : decode cX11_commonDivisor 11 = .ok (.sipush 1000, 3) := by decide +kernel
theorem dX11_commonDivisor_14 : decode cX11_commonDivisor 14 = .ok (.if_icmp .ge 31, 3) := by decide +kernel
theorem dX11_commonDivisor_17 : decode cX11_commonDivisor 17 = .ok (.lload 6, 2) := by decide +kernel
theorem dX11_commonDivisor_19 : decode cX11_commonDivisor 19 = .ok (.lconst 0, 1) := by decide +kernel
theorem dX11_commonDivisor_20 : decode cX11_commonDivisor 20 = .ok (.lcmp, 1) := by decide +kernel
theorem dX11_commonDivisor_21 : decode cX11_commonDivisor 21 = .ok (.ifCond .eq 24, 3) := by decide +kernel
theorem dX11_commonDivisor_24 : decode cX11_commonDivisor 24 = .ok (.lload 4, 2) := by decide +kernel
theorem dX11_commonDivisor_26 : decode cX11_commonDivisor 26 = .ok (.lload 6, 2) := by decide +kernel
theorem dX11_commonDivisor_28 : decode cX11_commonDivisor 28 = .ok (.lrem, 1) := by decide +kernel
theorem dX11_commonDivisor_29 : decode cX11_commonDivisor 29 = .ok (.lstore 9, 2) := by decide +kernel
theorem dX11_commonDivisor_31 : decode cX11_commonDivisor 31 = .ok (.lload 6, 2) := by decide +kernel
theorem dX11_commonDivisor_33 : decode cX11_commonDivisor 33 = .ok (.lstore 4, 2) := by decide +kernel
theorem dX11_commonDivisor_35 : decode cX11_commonDivisor 35 = .ok (.lload 9, 2) := by decide +kernel
theorem dX11_commonDivisor_37 : decode cX11_commonDivisor 37 = .ok (.lstore 6, 2) := by decide +kernel
theorem dX11_commonDivisor_39 : decode cX11_commonDivisor 39 = .ok (.iinc 8 1, 3) := by decide +kernel
theorem dX11_commonDivisor_42 : decode cX11_commonDivisor 42 = .ok (.goto (-33), 3) := by decide +kernel
theorem dX11_commonDivisor_45 : decode cX11_commonDivisor 45 = .ok (.lload 4, 2) := by decide +kernel
theorem dX11_commonDivisor_47 : decode cX11_commonDivisor 47 = .ok (.lreturn, 1) := by decide +kernel
theorem dJ6_numberOfTrailingZeros_0f7a4_0 : decode cJ6_numberOfTrailingZeros_0f7a4 0 = .ok (.iload_n 0, 1) := by decide +kernel
theorem dJ6_numberOfTrailingZeros_0f7a4_1 : decode cJ6_numberOfTrailingZeros_0f7a4 1 = .ok (.iconst (-1), 1) := by decide +kernel
theorem dJ6_numberOfTrailingZeros_0f7a4_2 : decode cJ6_numberOfTrailingZeros_0f7a4 2 = .ok (.ixor, 1) := by decide +kernel
theorem dJ6_numberOfTrailingZeros_0f7a4_3 : decode cJ6_numberOfTrailingZeros_0f7a4 3 = .ok (.iload_n 0, 1) := by decide +kernel
theorem dJ6_numberOfTrailingZeros_0f7a4_4 : decode cJ6_numberOfTrailingZeros_0f7a4 4 = .ok (.iconst 1, 1) := by decide +kernel
theorem dJ6_numberOfTrailingZeros_0f7a4_5 : decode cJ6_numberOfTrailingZeros_0f7a4 5 = .ok (.isub, 1) := by decide +kernel
theorem dJ6_numberOfTrailingZeros_0f7a4_6 : decode cJ6_numberOfTrailingZeros_0f7a4 6 = .ok (.iand, 1) := by decide +kernel
theorem dJ6_numberOfTrailingZeros_0f7a4_7 : decode cJ6_numberOfTrailingZeros_0f7a4 7 = .ok (.istore_n 0, 1) := by decide +kernel
theorem dJ6_numberOfTrailingZeros_0f7a4_8 : decode cJ6_numberOfTrailingZeros_0f7a4 8 = .ok (.iload_n 0, 1) := by decide +kernel
theorem dJ6_numberOfTrailingZeros_0f7a4_9 : decode cJ6_numberOfTrailingZeros_0f7a4 9 = .ok (.ifCond .gt 8, 3) := by decide +kernel
theorem dJ6_numberOfTrailingZeros_0f7a4_12 : decode cJ6_numberOfTrailingZeros_0f7a4 12 = .ok (.iload_n 0, 1) := by decide +kernel
theorem dJ6_numberOfTrailingZeros_0f7a4_13 : decode cJ6_numberOfTrailingZeros_0f7a4 13 = .ok (.bipush 32, 2) := by decide +kernel
theorem dJ6_numberOfTrailingZeros_0f7a4_15 : decode cJ6_numberOfTrailingZeros_0f7a4 15 = .ok (.iand, 1) := by decide +kernel
theorem dJ6_numberOfTrailingZeros_0f7a4_16 : decode cJ6_numberOfTrailingZeros_0f7a4 16 = .ok (.ireturn, 1) := by decide +kernel
theorem dJ6_numberOfTrailingZeros_0f7a4_17 : decode cJ6_numberOfTrailingZeros_0f7a4 17 = .ok (.iconst 1, 1) := by decide +kernel
theorem dJ6_numberOfTrailingZeros_0f7a4_18 : decode cJ6_numberOfTrailingZeros_0f7a4 18 = .ok (.istore_n 1, 1) := by decide +kernel
theorem dJ6_numberOfTrailingZeros_0f7a4_19 : decode cJ6_numberOfTrailingZeros_0f7a4 19 = .ok (.iload_n 0, 1) := by decide +kernel
theorem dJ6_numberOfTrailingZeros_0f7a4_20 : decode cJ6_numberOfTrailingZeros_0f7a4 20 = .ok (.ldc_w 264, 3) := by decide +kernel
theorem dJ6_numberOfTrailingZeros_0f7a4_23 : decode cJ6_numberOfTrailingZeros_0f7a4 23 = .ok (.if_icmp .le 11, 3) := by decide +kernel
theorem dJ6_numberOfTrailingZeros_0f7a4_26 : decode cJ6_numberOfTrailingZeros_0f7a4 26 = .ok (.iinc 1 16, 3) := by decide +kernel
theorem dJ6_numberOfTrailingZeros_0f7a4_29 : decode cJ6_numberOfTrailingZeros_0f7a4 29 = .ok (.iload_n 0, 1) := by decide +kernel
theorem dJ6_numberOfTrailingZeros_0f7a4_30 : decode cJ6_numberOfTrailingZeros_0f7a4 30 = .ok (.bipush 16, 2) := by decide +kernel
theorem dJ6_numberOfTrailingZeros_0f7a4_32 : decode cJ6_numberOfTrailingZeros_0f7a4 32 = .ok (.iushr, 1) := by decide +kernel
theorem dJ6_numberOfTrailingZeros_0f7a4_33 : decode cJ6_numberOfTrailingZeros_0f7a4 33 = .ok (.istore_n 0, 1) := by decide +kernel
theorem dJ6_numberOfTrailingZeros_0f7a4_34 : decode cJ6_numberOfTrailingZeros_0f7a4 34 = .ok (.iload_n 0, 1) := by decide +kernel
theorem dJ6_numberOfTrailingZeros_0f7a4_35 : decode cJ6_numberOfTrailingZeros_0f7a4 35 = .ok (.sipush 256, 3) := by decide +kernel
theorem dJ6_numberOfTrailingZeros_0f7a4_38 : decode cJ6_numberOfTrailingZeros_0f7a4 38 = .ok (.if_icmp .le 11, 3) := by decide +kernel
theorem dJ6_numberOfTrailingZeros_0f7a4_41 : decode cJ6_numberOfTrailingZeros_0f7a4 41 = .ok (.iinc 1 8, 3) := by decide +kernel
theorem dJ6_numberOfTrailingZeros_0f7a4_44 : decode cJ6_numberOfTrailingZeros_0f7a4 44 = .ok (.iload_n 0, 1) := by decide +kernel
theorem dJ6_numberOfTrailingZeros_0f7a4_45 : decode cJ6_numberOfTrailingZeros_0f7a4 45 = .ok (.bipush 8, 2) := by decide +kernel
theorem dJ6_numberOfTrailingZeros_0f7a4_47 : decode cJ6_numberOfTrailingZeros_0f7a4 47 = .ok (.iushr, 1) := by decide +kernel
theorem dJ6_numberOfTrailingZeros_0f7a4_48 : decode cJ6_numberOfTrailingZeros_0f7a4 48 = .ok (.istore_n 0, 1) := by decide +kernel
theorem dJ6_numberOfTrailingZeros_0f7a4_49 : decode cJ6_numberOfTrailingZeros_0f7a4 49 = .ok (.iload_n 0, 1) := by decide +kernel
theorem dJ6_numberOfTrailingZeros_0f7a4_50 : decode cJ6_numberOfTrailingZeros_0f7a4 50 = .ok (.bipush 16, 2) := by decide +kernel
theorem dJ6_numberOfTrailingZeros_0f7a4_52 : decode cJ6_numberOfTrailingZeros_0f7a4 52 = .ok (.if_icmp .le 10, 3) := by decide +kernel
theorem dJ6_numberOfTrailingZeros_0f7a4_55 : decode cJ6_numberOfTrailingZeros_0f7a4 55 = .ok (.iinc 1 4, 3) := by decide +kernel
theorem dJ6_numberOfTrailingZeros_0f7a4_58 : decode cJ6_numberOfTrailingZeros_0f7a4 58 = .ok (.iload_n 0, 1) := by decide +kernel
theorem dJ6_numberOfTrailingZeros_0f7a4_59 : decode cJ6_numberOfTrailingZeros_0f7a4 59 = .ok (.iconst 4, 1) := by decide +kernel
theorem dJ6_numberOfTrailingZeros_0f7a4_60 : decode cJ6_numberOfTrailingZeros_0f7a4 60 = .ok (.iushr, 1) := by decide +kernel
theorem dJ6_numberOfTrailingZeros_0f7a4_61 : decode cJ6_numberOfTrailingZeros_0f7a4 61 = .ok (.istore_n 0, 1) := by decide +kernel
theorem dJ6_numberOfTrailingZeros_0f7a4_62 : decode cJ6_numberOfTrailingZeros_0f7a4 62 = .ok (.iload_n 0, 1) := by decide +kernel
theorem dJ6_numberOfTrailingZeros_0f7a4_63 : decode cJ6_numberOfTrailingZeros_0f7a4 63 = .ok (.iconst 4, 1) := by decide +kernel
theorem dJ6_numberOfTrailingZeros_0f7a4_64 : decode cJ6_numberOfTrailingZeros_0f7a4 64 = .ok (.if_icmp .le 10, 3) := by decide +kernel
theorem dJ6_numberOfTrailingZeros_0f7a4_67 : decode cJ6_numberOfTrailingZeros_0f7a4 67 = .ok (.iinc 1 2, 3) := by decide +kernel
theorem dJ6_numberOfTrailingZeros_0f7a4_70 : decode cJ6_numberOfTrailingZeros_0f7a4 70 = .ok (.iload_n 0, 1) := by decide +kernel
theorem dJ6_numberOfTrailingZeros_0f7a4_71 : decode cJ6_numberOfTrailingZeros_0f7a4 71 = .ok (.iconst 2, 1) := by decide +kernel
theorem dJ6_numberOfTrailingZeros_0f7a4_72 : decode cJ6_numberOfTrailingZeros_0f7a4 72 = .ok (.iushr, 1) := by decide +kernel
theorem dJ6_numberOfTrailingZeros_0f7a4_73 : decode cJ6_numberOfTrailingZeros_0f7a4 73 = .ok (.istore_n 0, 1) := by decide +kernel
theorem dJ6_numberOfTrailingZeros_0f7a4_74 : decode cJ6_numberOfTrailingZeros_0f7a4 74 = .ok (.iload_n 1, 1) := by decide +kernel
theorem dJ6_numberOfTrailingZeros_0f7a4_75 : decode cJ6_numberOfTrailingZeros_0f7a4 75 = .ok (.iload_n 0, 1) := by decide +kernel
theorem dJ6_numberOfTrailingZeros_0f7a4_76 : decode cJ6_numberOfTrailingZeros_0f7a4 76 = .ok (.iconst 1, 1) := by decide +kernel
theorem dJ6_numberOfTrailingZeros_0f7a4_77 : decode cJ6_numberOfTrailingZeros_0f7a4 77 = .ok (.iushr, 1) := by decide +kernel
theorem dJ6_numberOfTrailingZeros_0f7a4_78 : decode cJ6_numberOfTrailingZeros_0f7a4 78 = .ok (.iadd, 1) := by decide +kernel
theorem dJ6_numberOfTrailingZeros_0f7a4_79 : decode cJ6_numberOfTrailingZeros_0f7a4 79 = .ok (.ireturn, 1) := by decide +kernel
theorem dJ6_bitCount_0f7a4_0 : decode cJ6_bitCount_0f7a4 0 = .ok (.iload_n 0, 1) := by decide +kernel
theorem dJ6_bitCount_0f7a4_1 : decode cJ6_bitCount_0f7a4 1 = .ok (.iload_n 0, 1) := by decide +kernel
theorem dJ6_bitCount_0f7a4_2 : decode cJ6_bitCount_0f7a4 2 = .ok (.iconst 1, 1) := by decide +kernel
theorem dJ6_bitCount_0f7a4_3 : decode cJ6_bitCount_0f7a4 3 = .ok (.iushr, 1) := by decide +kernel
theorem dJ6_bitCount_0f7a4_4 : decode cJ6_bitCount_0f7a4 4 = .ok (.ldc_w 265, 3) := by decide +kernel
theorem dJ6_bitCount_0f7a4_7 : decode cJ6_bitCount_0f7a4 7 = .ok (.iand, 1) := by decide +kernel
theorem dJ6_bitCount_0f7a4_8 : decode cJ6_bitCount_0f7a4 8 = .ok (.isub, 1) := by decide +kernel
theorem dJ6_bitCount_0f7a4_9 : decode cJ6_bitCount_0f7a4 9 = .ok (.istore_n 0, 1) := by decide +kernel
theorem dJ6_bitCount_0f7a4_10 : decode cJ6_bitCount_0f7a4 10 = .ok (.iload_n 0, 1) := by decide +kernel
theorem dJ6_bitCount_0f7a4_11 : decode cJ6_bitCount_0f7a4 11 = .ok (.ldc_w 266, 3) := by decide +kernel
theorem dJ6_bitCount_0f7a4_14 : decode cJ6_bitCount_0f7a4 14 = .ok (.iand, 1) := by decide +kernel
theorem dJ6_bitCount_0f7a4_15 : decode cJ6_bitCount_0f7a4 15 = .ok (.iload_n 0, 1) := by decide +kernel
theorem dJ6_bitCount_0f7a4_16 : decode cJ6_bitCount_0f7a4 16 = .ok (.iconst 2, 1) := by decide +kernel
theorem dJ6_bitCount_0f7a4_17 : decode cJ6_bitCount_0f7a4 17 = .ok (.iushr, 1) := by decide +kernel
theorem dJ6_bitCount_0f7a4_18 : decode cJ6_bitCount_0f7a4 18 = .ok (.ldc_w 266, 3) := by decide +kernel
theorem dJ6_bitCount_0f7a4_21 : decode cJ6_bitCount_0f7a4 21 = .ok (.iand, 1) := by decide +kernel
theorem dJ6_bitCount_0f7a4_22 : decode cJ6_bitCount_0f7a4 22 = .ok (.iadd, 1) := by decide +kernel
theorem dJ6_bitCount_0f7a4_23 : decode cJ6_bitCount_0f7a4 23 = .ok (.istore_n 0, 1) := by decide +kernel
theorem dJ6_bitCount_0f7a4_24 : decode cJ6_bitCount_0f7a4 24 = .ok (.iload_n 0, 1) := by decide +kernel
theorem dJ6_bitCount_0f7a4_25 : decode cJ6_bitCount_0f7a4 25 = .ok (.iload_n 0, 1) := by decide +kernel
theorem dJ6_bitCount_0f7a4_26 : decode cJ6_bitCount_0f7a4 26 = .ok (.iconst 4, 1) := by decide +kernel
theorem dJ6_bitCount_0f7a4_27 : decode cJ6_bitCount_0f7a4 27 = .ok (.iushr, 1) := by decide +kernel
theorem dJ6_bitCount_0f7a4_28 : decode cJ6_bitCount_0f7a4 28 = .ok (.iadd, 1) := by decide +kernel
theorem dJ6_bitCount_0f7a4_29 : decode cJ6_bitCount_0f7a4 29 = .ok (.ldc_w 267, 3) := by decide +kernel
theorem dJ6_bitCount_0f7a4_32 : decode cJ6_bitCount_0f7a4 32 = .ok (.iand, 1) := by decide +kernel
theorem dJ6_bitCount_0f7a4_33 : decode cJ6_bitCount_0f7a4 33 = .ok (.istore_n 0, 1) := by decide +kernel
theorem dJ6_bitCount_0f7a4_34 : decode cJ6_bitCount_0f7a4 34 = .ok (.iload_n 0, 1) := by decide +kernel
theorem dJ6_bitCount_0f7a4_35 : decode cJ6_bitCount_0f7a4 35 = .ok (.iload_n 0, 1) := by decide +kernel
theorem dJ6_bitCount_0f7a4_36 : decode cJ6_bitCount_0f7a4 36 = .ok (.bipush 8, 2) := by decide +kernel
theorem dJ6_bitCount_0f7a4_38 : decode cJ6_bitCount_0f7a4 38 = .ok (.iushr, 1) := by decide +kernel
theorem dJ6_bitCount_0f7a4_39 : decode cJ6_bitCount_0f7a4 39 = .ok (.iadd, 1) := by decide +kernel
theorem dJ6_bitCount_0f7a4_40 : decode cJ6_bitCount_0f7a4 40 = .ok (.istore_n 0, 1) := by decide +kernel
theorem dJ6_bitCount_0f7a4_41 : decode cJ6_bitCount_0f7a4 41 = .ok (.iload_n 0, 1) := by decide +kernel
theorem dJ6_bitCount_0f7a4_42 : decode cJ6_bitCount_0f7a4 42 = .ok (.iload_n 0, 1) := by decide +kernel
theorem dJ6_bitCount_0f7a4_43 : decode cJ6_bitCount_0f7a4 43 = .ok (.bipush 16, 2) := by decide +kernel
theorem dJ6_bitCount_0f7a4_45 : decode cJ6_bitCount_0f7a4 45 = .ok (.iushr, 1) := by decide +kernel
theorem dJ6_bitCount_0f7a4_46 : decode cJ6_bitCount_0f7a4 46 = .ok (.iadd, 1) := by decide +kernel
theorem dJ6_bitCount_0f7a4_47 : decode cJ6_bitCount_0f7a4 47 = .ok (.istore_n 0, 1) := by decide +kernel
theorem dJ6_bitCount_0f7a4_48 : decode cJ6_bitCount_0f7a4 48 = .ok (.iload_n 0, 1) := by decide +kernel
theorem dJ6_bitCount_0f7a4_49 : decode cJ6_bitCount_0f7a4 49 = .ok (.bipush 63, 2) := by decide +kernel
theorem dJ6_bitCount_0f7a4_51 : decode cJ6_bitCount_0f7a4 51 = .ok (.iand, 1) := by decide +kernel
theorem dJ6_bitCount_0f7a4_52 : decode cJ6_bitCount_0f7a4 52 = .ok (.ireturn, 1) := by decide +kernel
theorem dJ9_max_7cf53_0 : decode cJ9_max_7cf53 0 = .ok (.iload_n 0, 1) := by decide +kernel
theorem dJ9_max_7cf53_1 : decode cJ9_max_7cf53 1 = .ok (.iload_n 1, 1) := by decide +kernel
theorem dJ9_max_7cf53_2 : decode cJ9_max_7cf53 2 = .ok (.if_icmp .lt 7, 3) := by decide +kernel
theorem dJ9_max_7cf53_5 : decode cJ9_max_7cf53 5 = .ok (.iload_n 0, 1) := by decide +kernel
theorem dJ9_max_7cf53_6 : decode cJ9_max_7cf53 6 = .ok (.goto 4, 3) := by decide +kernel
theorem dJ9_max_7cf53_9 : decode cJ9_max_7cf53 9 = .ok (.iload_n 1, 1) := by decide +kernel
theorem dJ9_max_7cf53_10 : decode cJ9_max_7cf53 10 = .ok (.ireturn, 1) := by decide +kernel
theorem dJ9_max_f86c9_0 : decode cJ9_max_f86c9 0 = .ok (.lload_n 0, 1) := by decide +kernel
theorem dJ9_max_f86c9_1 : decode cJ9_max_f86c9 1 = .ok (.lload_n 2, 1) := by decide +kernel
theorem dJ9_max_f86c9_2 : decode cJ9_max_f86c9 2 = .ok (.lcmp, 1) := by decide +kernel
theorem dJ9_max_f86c9_3 : decode cJ9_max_f86c9 3 = .ok (.ifCond .lt 7, 3) := by decide +kernel
theorem dJ9_max_f86c9_6 : decode cJ9_max_f86c9 6 = .ok (.lload_n 0, 1) := by decide +kernel
theorem dJ9_max_f86c9_7 : decode cJ9_max_f86c9 7 = .ok (.goto 4, 3) := by decide +kernel
theorem dJ9_max_f86c9_10 : decode cJ9_max_f86c9 10 = .ok (.lload_n 2, 1) := by decide +kernel
theorem dJ9_max_f86c9_11 : decode cJ9_max_f86c9 11 = .ok (.lreturn, 1) := by decide +kernel
theorem dJ9_min_7cf53_0 : decode cJ9_min_7cf53 0 = .ok (.iload_n 0, 1) := by decide +kernel
theorem dJ9_min_7cf53_1 : decode cJ9_min_7cf53 1 = .ok (.iload_n 1, 1) := by decide +kernel
theorem dJ9_min_7cf53_2 : decode cJ9_min_7cf53 2 = .ok (.if_icmp .gt 7, 3) := by decide +kernel
theorem dJ9_min_7cf53_5 : decode cJ9_min_7cf53 5 = .ok (.iload_n 0, 1) := by decide +kernel
theorem dJ9_min_7cf53_6 : decode cJ9_min_7cf53 6 = .ok (.goto 4, 3) := by decide +kernel
theorem dJ9_min_7cf53_9 : decode cJ9_min_7cf53 9 = .ok (.iload_n 1, 1) := by decide +kernel
theorem dJ9_min_7cf53_10 : decode cJ9_min_7cf53 10 = .ok (.ireturn, 1) := by decide +kernel
theorem dJ9_min_f86c9_0 : decode cJ9_min_f86c9 0 = .ok (.lload_n 0, 1) := by decide +kernel
theorem dJ9_min_f86c9_1 : decode cJ9_min_f86c9 1 = .ok (.lload_n 2, 1) := by decide +kernel
theorem dJ9_min_f86c9_2 : decode cJ9_min_f86c9 2 = .ok (.lcmp, 1) := by decide +kernel
theorem dJ9_min_f86c9_3 : decode cJ9_min_f86c9 3 = .ok (.ifCond .gt 7, 3) := by decide +kernel
theorem dJ9_min_f86c9_6 : decode cJ9_min_f86c9 6 = .ok (.lload_n 0, 1) := by decide +kernel
theorem dJ9_min_f86c9_7 : decode cJ9_min_f86c9 7 = .ok (.goto 4, 3) := by decide +kernel
theorem dJ9_min_f86c9_10 : decode cJ9_min_f86c9 10 = .ok (.lload_n 2, 1) := by decide +kernel
theorem dJ9_min_f86c9_11 : decode cJ9_min_f86c9 11 = .ok (.lreturn, 1) := by decide +kernel
theorem dJ0_charAt_5068e_0 : decode cJ0_charAt_5068e 0 = .ok (.aload_n 0, 1) := by decide +kernel
theorem dJ0_charAt_5068e_1 : decode cJ0_charAt_5068e 1 = .ok (.invokevirtual 492, 3) := by decide +kernel
theorem dJ0_charAt_5068e_4 : decode cJ0_charAt_5068e 4 = .ok (.ifCond .eq 12, 3) := by decide +kernel
theorem dJ0_charAt_5068e_7 : decode cJ0_charAt_5068e 7 = .ok (.aload_n 0, 1) := by decide +kernel
theorem dJ0_charAt_5068e_8 : decode cJ0_charAt_5068e 8 = .ok (.getfield 9, 3) := by decide +kernel
theorem dJ0_charAt_5068e_11 : decode cJ0_charAt_5068e 11 = .ok (.iload_n 1, 1) := by decide +kernel
theorem dJ0_charAt_5068e_12 : decode cJ0_charAt_5068e 12 = .ok (.invokestatic 495, 3) := by decide +kernel
theorem dJ0_charAt_5068e_15 : decode cJ0_charAt_5068e 15 = .ok (.ireturn, 1) := by decide +kernel
theorem dJ0_charAt_5068e_16 : decode cJ0_charAt_5068e 16 = .ok (.aload_n 0, 1) := by decide +kernel
theorem dJ0_charAt_5068e_17 : decode cJ0_charAt_5068e 17 = .ok (.getfield 9, 3) := by decide +kernel
theorem dJ0_charAt_5068e_20 : decode cJ0_charAt_5068e 20 = .ok (.iload_n 1, 1) := by decide +kernel
theorem dJ0_charAt_5068e_21 : decode cJ0_charAt_5068e 21 = .ok (.invokestatic 498, 3) := by decide +kernel
theorem dJ0_charAt_5068e_24 : decode cJ0_charAt_5068e 24 = .ok (.ireturn, 1) := by decide +kernel
theorem dJ0_isLatin1_aae02_0 : decode cJ0_isLatin1_aae02 0 = .ok (.getstatic 38, 3) := by decide +kernel
theorem dJ0_isLatin1_aae02_3 : decode cJ0_isLatin1_aae02 3 = .ok (.ifCond .eq 14, 3) := by decide +kernel
theorem dJ0_isLatin1_aae02_6 : decode cJ0_isLatin1_aae02 6 = .ok (.aload_n 0, 1) := by decide +kernel
theorem dJ0_isLatin1_aae02_7 : decode cJ0_isLatin1_aae02 7 = .ok (.getfield 15, 3) := by decide +kernel
theorem dJ0_isLatin1_aae02_10 : decode cJ0_isLatin1_aae02 10 = .ok (.ifCond .ne 7, 3) := by decide +kernel
theorem dJ0_isLatin1_aae02_13 : decode cJ0_isLatin1_aae02 13 = .ok (.iconst 1, 1) := by decide +kernel
theorem dJ0_isLatin1_aae02_14 : decode cJ0_isLatin1_aae02 14 = .ok (.goto 4, 3) := by decide +kernel
theorem dJ0_isLatin1_aae02_17 : decode cJ0_isLatin1_aae02 17 = .ok (.iconst 0, 1) := by decide +kernel
theorem dJ0_isLatin1_aae02_18 : decode cJ0_isLatin1_aae02 18 = .ok (.ireturn, 1) := by decide +kernel
theorem dJ0_checkIndex_df160_0 : decode cJ0_checkIndex_df160 0 = .ok (.iload_n 0, 1) := by decide +kernel
theorem dJ0_checkIndex_df160_1 : decode cJ0_checkIndex_df160 1 = .ok (.iload_n 1, 1) := by decide +kernel
theorem dJ0_checkIndex_df160_2 : decode cJ0_checkIndex_df160 2 = .ok (.getstatic 1053, 3) := by decide +kernel
theorem dJ0_checkIndex_df160_5 : decode cJ0_checkIndex_df160 5 = .ok (.invokestatic 1059, 3) := by decide +kernel
theorem dJ0_checkIndex_df160_8 : decode cJ0_checkIndex_df160 8 = .ok (.pop, 1) := by decide +kernel
theorem dJ0_checkIndex_df160_9 : decode cJ0_checkIndex_df160 9 = .ok (.return_, 1) := by decide +kernel
theorem dJ1_charAt_3b067_0 : decode cJ1_charAt_3b067 0 = .ok (.iload_n 1, 1) := by decide +kernel
theorem dJ1_charAt_3b067_1 : decode cJ1_charAt_3b067 1 = .ok (.aload_n 0, 1) := by decide +kernel
theorem dJ1_charAt_3b067_2 : decode cJ1_charAt_3b067 2 = .ok (.arraylength, 1) := by decide +kernel
theorem dJ1_charAt_3b067_3 : decode cJ1_charAt_3b067 3 = .ok (.invokestatic 9, 3) := by decide +kernel
theorem dJ1_charAt_3b067_6 : decode cJ1_charAt_3b067 6 = .ok (.aload_n 0, 1) := by decide +kernel
theorem dJ1_charAt_3b067_7 : decode cJ1_charAt_3b067 7 = .ok (.iload_n 1, 1) := by decide +kernel
theorem dJ1_charAt_3b067_8 : decode cJ1_charAt_3b067 8 = .ok (.baload, 1) := by decide +kernel
theorem dJ1_charAt_3b067_9 : decode cJ1_charAt_3b067 9 = .ok (.sipush 255, 3) := by decide +kernel
theorem dJ1_charAt_3b067_12 : decode cJ1_charAt_3b067 12 = .ok (.iand, 1) := by decide +kernel
theorem dJ1_charAt_3b067_13 : decode cJ1_charAt_3b067 13 = .ok (.i2c, 1) := by decide +kernel
theorem dJ1_charAt_3b067_14 : decode cJ1_charAt_3b067 14 = .ok (.ireturn, 1) := by decide +kernel
theorem dJ2_getChar_3b067_0 : decode cJ2_getChar_3b067 0 = .ok (.getstatic 44, 3) := by decide +kernel
theorem dJ2_getChar_3b067_3 : decode cJ2_getChar_3b067 3 = .ok (.ifCond .ne 25, 3) := by decide +kernel
theorem dJ2_getChar_3b067_6 : decode cJ2_getChar_3b067 6 = .ok (.iload_n 1, 1) := by decide +kernel
theorem dJ2_getChar_3b067_7 : decode cJ2_getChar_3b067 7 = .ok (.ifCond .lt 11, 3) := by decide +kernel
theorem dJ2_getChar_3b067_10 : decode cJ2_getChar_3b067 10 = .ok (.iload_n 1, 1) := by decide +kernel
theorem dJ2_getChar_3b067_11 : decode cJ2_getChar_3b067 11 = .ok (.aload_n 0, 1) := by decide +kernel
theorem dJ2_getChar_3b067_12 : decode cJ2_getChar_3b067 12 = .ok (.invokestatic 48, 3) := by decide +kernel
theorem dJ2_getChar_3b067_15 : decode cJ2_getChar_3b067 15 = .ok (.if_icmp .lt 13, 3) := by decide +kernel
theorem dJ2_getChar_3b067_18 : decode cJ2_getChar_3b067 18 = .ok (.new 52, 3) := by decide +kernel
theorem dJ2_getChar_3b067_21 : decode cJ2_getChar_3b067 21 = .ok (.dup, 1) := by decide +kernel
theorem dJ2_getChar_3b067_22 : decode cJ2_getChar_3b067 22 = .ok (.ldc 54, 2) := by decide +kernel
theorem dJ2_getChar_3b067_24 : decode cJ2_getChar_3b067 24 = .ok (.invokespecial 56, 3) := by decide +kernel
theorem dJ2_getChar_3b067_27 : decode cJ2_getChar_3b067 27 = .ok (.athrow, 1) := by decide +kernel
theorem dJ2_getChar_3b067_28 : decode cJ2_getChar_3b067 28 = .ok (.iload_n 1, 1) := by decide +kernel
theorem dJ2_getChar_3b067_29 : decode cJ2_getChar_3b067 29 = .ok (.iconst 1, 1) := by decide +kernel
theorem dJ2_getChar_3b067_30 : decode cJ2_getChar_3b067 30 = .ok (.ishl, 1) := by decide +kernel
theorem dJ2_getChar_3b067_31 : decode cJ2_getChar_3b067 31 = .ok (.istore_n 1, 1) := by decide +kernel
theorem dJ2_getChar_3b067_32 : decode cJ2_getChar_3b067 32 = .ok (.aload_n 0, 1) := by decide +kernel
theorem dJ2_getChar_3b067_33 : decode cJ2_getChar_3b067 33 = .ok (.iload_n 1, 1) := by decide +kernel
theorem dJ2_getChar_3b067_34 : decode cJ2_getChar_3b067 34 = .ok (.iinc 1 1, 3) := by decide +kernel
theorem dJ2_getChar_3b067_37 : decode cJ2_getChar_3b067 37 = .ok (.baload, 1) := by decide +kernel
theorem dJ2_getChar_3b067_38 : decode cJ2_getChar_3b067 38 = .ok (.sipush 255, 3) := by decide +kernel
theorem dJ2_getChar_3b067_41 : decode cJ2_getChar_3b067 41 = .ok (.iand, 1) := by decide +kernel
theorem dJ2_getChar_3b067_42 : decode cJ2_getChar_3b067 42 = .ok (.getstatic 59, 3) := by decide +kernel
theorem dJ2_getChar_3b067_45 : decode cJ2_getChar_3b067 45 = .ok (.ishl, 1) := by decide +kernel
theorem dJ2_getChar_3b067_46 : decode cJ2_getChar_3b067 46 = .ok (.aload_n 0, 1) := by decide +kernel
theorem dJ2_getChar_3b067_47 : decode cJ2_getChar_3b067 47 = .ok (.iload_n 1, 1) := by decide +kernel
theorem dJ2_getChar_3b067_48 : decode cJ2_getChar_3b067 48 = .ok (.baload, 1) := by decide +kernel
theorem dJ2_getChar_3b067_49 : decode cJ2_getChar_3b067 49 = .ok (.sipush 255, 3) := by decide +kernel
theorem dJ2_getChar_3b067_52 : decode cJ2_getChar_3b067 52 = .ok (.iand, 1) := by decide +kernel
theorem dJ2_getChar_3b067_53 : decode cJ2_getChar_3b067 53 = .ok (.getstatic 63, 3) := by decide +kernel
theorem dJ2_getChar_3b067_56 : decode cJ2_getChar_3b067 56 = .ok (.ishl, 1) := by decide +kernel
theorem dJ2_getChar_3b067_57 : decode cJ2_getChar_3b067 57 = .ok (.ior, 1) := by decide +kernel
theorem dJ2_getChar_3b067_58 : decode cJ2_getChar_3b067 58 = .ok (.i2c, 1) := by decide +kernel
theorem dJ2_getChar_3b067_59 : decode cJ2_getChar_3b067 59 = .ok (.ireturn, 1) := by decide +kernel
theorem dJ2_length_9d52b_0 : decode cJ2_length_9d52b 0 = .ok (.aload_n 0, 1) := by decide +kernel
theorem dJ2_length_9d52b_1 : decode cJ2_length_9d52b 1 = .ok (.arraylength, 1) := by decide +kernel
theorem dJ2_length_9d52b_2 : decode cJ2_length_9d52b 2 = .ok (.iconst 1, 1) := by decide +kernel
theorem dJ2_length_9d52b_3 : decode cJ2_length_9d52b 3 = .ok (.ishr, 1) := by decide +kernel
theorem dJ2_length_9d52b_4 : decode cJ2_length_9d52b 4 = .ok (.ireturn, 1) := by decide +kernel
theorem dJ2_charAt_3b067_0 : decode cJ2_charAt_3b067 0 = .ok (.iload_n 1, 1) := by decide +kernel
theorem dJ2_charAt_3b067_1 : decode cJ2_charAt_3b067 1 = .ok (.aload_n 0, 1) := by decide +kernel
theorem dJ2_charAt_3b067_2 : decode cJ2_charAt_3b067 2 = .ok (.invokestatic 67, 3) := by decide +kernel
theorem dJ2_charAt_3b067_5 : decode cJ2_charAt_3b067 5 = .ok (.aload_n 0, 1) := by decide +kernel
theorem dJ2_charAt_3b067_6 : decode cJ2_charAt_3b067 6 = .ok (.iload_n 1, 1) := by decide +kernel
theorem dJ2_charAt_3b067_7 : decode cJ2_charAt_3b067 7 = .ok (.invokestatic 71, 3) := by decide +kernel
theorem dJ2_charAt_3b067_10 : decode cJ2_charAt_3b067 10 = .ok (.ireturn, 1) := by decide +kernel
theorem dJ2_checkIndex_2214a_0 : decode cJ2_checkIndex_2214a 0 = .ok (.iload_n 0, 1) := by decide +kernel
theorem dJ2_checkIndex_2214a_1 : decode cJ2_checkIndex_2214a 1 = .ok (.aload_n 1, 1) := by decide +kernel
theorem dJ2_checkIndex_2214a_2 : decode cJ2_checkIndex_2214a 2 = .ok (.invokestatic 48, 3) := by decide +kernel
theorem dJ2_checkIndex_2214a_5 : decode cJ2_checkIndex_2214a 5 = .ok (.invokestatic 414, 3) := by decide +kernel
theorem dJ2_checkIndex_2214a_8 : decode cJ2_checkIndex_2214a 8 = .ok (.return_, 1) := by decide +kernel
theorem dJ3_checkIndex_8e157_0 : decode cJ3_checkIndex_8e157 0 = .ok (.iload_n 0, 1) := by decide +kernel
theorem dJ3_checkIndex_8e157_1 : decode cJ3_checkIndex_8e157 1 = .ok (.ifCond .lt 8, 3) := by decide +kernel
theorem dJ3_checkIndex_8e157_4 : decode cJ3_checkIndex_8e157 4 = .ok (.iload_n 0, 1) := by decide +kernel
theorem dJ3_checkIndex_8e157_5 : decode cJ3_checkIndex_8e157 5 = .ok (.iload_n 1, 1) := by decide +kernel
theorem dJ3_checkIndex_8e157_6 : decode cJ3_checkIndex_8e157 6 = .ok (.if_icmp .lt 10, 3) := by decide +kernel
theorem dJ3_checkIndex_8e157_9 : decode cJ3_checkIndex_8e157 9 = .ok (.aload_n 2, 1) := by decide +kernel
theorem dJ3_checkIndex_8e157_10 : decode cJ3_checkIndex_8e157 10 = .ok (.iload_n 0, 1) := by decide +kernel
theorem dJ3_checkIndex_8e157_11 : decode cJ3_checkIndex_8e157 11 = .ok (.iload_n 1, 1) := by decide +kernel
theorem dJ3_checkIndex_8e157_12 : decode cJ3_checkIndex_8e157 12 = .ok (.invokestatic 95, 3) := by decide +kernel
theorem dJ3_checkIndex_8e157_15 : decode cJ3_checkIndex_8e157 15 = .ok (.athrow, 1) := by decide +kernel
theorem dJ3_checkIndex_8e157_16 : decode cJ3_checkIndex_8e157 16 = .ok (.iload_n 0, 1) := by decide +kernel
theorem dJ3_checkIndex_8e157_17 : decode cJ3_checkIndex_8e157 17 = .ok (.ireturn, 1) := by decide +kernel
theorem dL_village_0 : decode cL_village 0 = .ok (.aload_n 3, 1) := by decide +kernel
theorem dL_village_1 : decode cL_village 1 = .ok (.iconst 0, 1) := by decide +kernel
theorem dL_village_2 : decode cL_village 2 = .ok (.aload_n 0, 1) := by decide +kernel
theorem dL_village_3 : decode cL_village 3 = .ok (.iload_n 1, 1) := by decide +kernel
theorem dL_village_4 : decode cL_village 4 = .ok (.iload_n 2, 1) := by decide +kernel
theorem dL_village_5 : decode cL_village 5 = .ok (.invokevirtual 7, 3) := by decide +kernel
theorem dL_village_8 : decode cL_village 8 = .ok (.i2l, 1) := by decide +kernel
theorem dL_village_9 : decode cL_village 9 = .ok (.lastore, 1) := by decide +kernel
theorem dL_village_10 : decode cL_village 10 = .ok (.goto 7, 3) := by decide +kernel
theorem dL_village_13 : decode cL_village 13 = .ok (.astore 4, 2) := by decide +kernel
theorem dL_village_15 : decode cL_village 15 = .ok (.iconst 1, 1) := by decide +kernel
theorem dL_village_16 : decode cL_village 16 = .ok (.ireturn, 1) := by decide +kernel
theorem dL_village_17 : decode cL_village 17 = .ok (.iconst 0, 1) := by decide +kernel
theorem dL_village_18 : decode cL_village 18 = .ok (.ireturn, 1) := by decide +kernel
theorem dL_feast_0 : decode cL_feast 0 = .ok (.aload_n 3, 1) := by decide +kernel
theorem dL_feast_1 : decode cL_feast 1 = .ok (.iconst 0, 1) := by decide +kernel
theorem dL_feast_2 : decode cL_feast 2 = .ok (.aload_n 0, 1) := by decide +kernel
theorem dL_feast_3 : decode cL_feast 3 = .ok (.iload_n 1, 1) := by decide +kernel
theorem dL_feast_4 : decode cL_feast 4 = .ok (.iload_n 2, 1) := by decide +kernel
theorem dL_feast_5 : decode cL_feast 5 = .ok (.invokevirtual 15, 3) := by decide +kernel
theorem dL_feast_8 : decode cL_feast 8 = .ok (.i2l, 1) := by decide +kernel
theorem dL_feast_9 : decode cL_feast 9 = .ok (.lastore, 1) := by decide +kernel
theorem dL_feast_10 : decode cL_feast 10 = .ok (.goto 7, 3) := by decide +kernel
theorem dL_feast_13 : decode cL_feast 13 = .ok (.astore 4, 2) := by decide +kernel
theorem dL_feast_15 : decode cL_feast 15 = .ok (.iconst 1, 1) := by decide +kernel
theorem dL_feast_16 : decode cL_feast 16 = .ok (.ireturn, 1) := by decide +kernel
theorem dL_feast_17 : decode cL_feast 17 = .ok (.iconst 0, 1) := by decide +kernel
theorem dL_feast_18 : decode cL_feast 18 = .ok (.ireturn, 1) := by decide +kernel
theorem dL_row_0 : decode cL_row 0 = .ok (.aload_n 2, 1) := by decide +kernel
theorem dL_row_1 : decode cL_row 1 = .ok (.iconst 0, 1) := by decide +kernel
theorem dL_row_2 : decode cL_row 2 = .ok (.aload_n 0, 1) := by decide +kernel
theorem dL_row_3 : decode cL_row 3 = .ok (.iload_n 1, 1) := by decide +kernel
theorem dL_row_4 : decode cL_row 4 = .ok (.invokevirtual 18, 3) := by decide +kernel
theorem dL_row_7 : decode cL_row 7 = .ok (.lastore, 1) := by decide +kernel
theorem dL_row_8 : decode cL_row 8 = .ok (.goto 6, 3) := by decide +kernel
theorem dL_row_11 : decode cL_row 11 = .ok (.astore_n 3, 1) := by decide +kernel
theorem dL_row_12 : decode cL_row 12 = .ok (.iconst 1, 1) := by decide +kernel
theorem dL_row_13 : decode cL_row 13 = .ok (.ireturn, 1) := by decide +kernel
theorem dL_row_14 : decode cL_row 14 = .ok (.iconst 0, 1) := by decide +kernel
theorem dL_row_15 : decode cL_row 15 = .ok (.ireturn, 1) := by decide +kernel
theorem dL_law_0 : decode cL_law 0 = .ok (.new 8, 3) := by decide +kernel
theorem dL_law_3 : decode cL_law 3 = .ok (.dup, 1) := by decide +kernel
theorem dL_law_4 : decode cL_law 4 = .ok (.invokespecial 22, 3) := by decide +kernel
theorem dL_law_7 : decode cL_law 7 = .ok (.astore_n 1, 1) := by decide +kernel
theorem dL_law_8 : decode cL_law 8 = .ok (.new 23, 3) := by decide +kernel
theorem dL_law_11 : decode cL_law 11 = .ok (.dup, 1) := by decide +kernel
theorem dL_law_12 : decode cL_law 12 = .ok (.invokespecial 25, 3) := by decide +kernel
theorem dL_law_15 : decode cL_law 15 = .ok (.astore_n 2, 1) := by decide +kernel
theorem dL_law_16 : decode cL_law 16 = .ok (.iconst 1, 1) := by decide +kernel
theorem dL_law_17 : decode cL_law 17 = .ok (.newarray .long, 2) := by decide +kernel
theorem dL_law_19 : decode cL_law 19 = .ok (.astore_n 3, 1) := by decide +kernel
theorem dL_law_20 : decode cL_law 20 = .ok (.iconst 0, 1) := by decide +kernel
theorem dL_law_21 : decode cL_law 21 = .ok (.istore 4, 2) := by decide +kernel
theorem dL_law_23 : decode cL_law 23 = .ok (.iload 4, 2) := by decide +kernel
theorem dL_law_25 : decode cL_law 25 = .ok (.aload_n 0, 1) := by decide +kernel
theorem dL_law_26 : decode cL_law 26 = .ok (.arraylength, 1) := by decide +kernel
theorem dL_law_27 : decode cL_law 27 = .ok (.iconst 5, 1) := by decide +kernel
theorem dL_law_28 : decode cL_law 28 = .ok (.isub, 1) := by decide +kernel
theorem dL_law_29 : decode cL_law 29 = .ok (.if_icmp .gt 1317, 3) := by decide +kernel
theorem dL_law_32 : decode cL_law 32 = .ok (.aload_n 0, 1) := by decide +kernel
theorem dL_law_33 : decode cL_law 33 = .ok (.iload 4, 2) := by decide +kernel
theorem dL_law_35 : decode cL_law 35 = .ok (.iaload, 1) := by decide +kernel
theorem dL_law_36 : decode cL_law 36 = .ok (.bipush 63, 2) := by decide +kernel
theorem dL_law_38 : decode cL_law 38 = .ok (.iand, 1) := by decide +kernel
theorem dL_law_39 : decode cL_law 39 = .ok (.tableswitch 1301 0 39 #[173, 198, 223, 236, 249, 262, 330, 398, 435, 496, 521, 546, 559, 596, 609, 622, 659, 672, 697, 722, 747, 772, 785, 822, 847, 872, 909, 934, 947, 984, 997, 1010, 1023, 1060, 1109, 1134, 1171, 1196, 1221, 1246], 173) := by decide +kernel
theorem dL_law_212 : decode cL_law 212 = .ok (.aload_n 1, 1) := by decide +kernel
theorem dL_law_213 : decode cL_law 213 = .ok (.aload_n 0, 1) := by decide +kernel
theorem dL_law_214 : decode cL_law 214 = .ok (.iload 4, 2) := by decide +kernel
theorem dL_law_216 : decode cL_law 216 = .ok (.iconst 1, 1) := by decide +kernel
theorem dL_law_217 : decode cL_law 217 = .ok (.iadd, 1) := by decide +kernel
theorem dL_law_218 : decode cL_law 218 = .ok (.iaload, 1) := by decide +kernel
theorem dL_law_219 : decode cL_law 219 = .ok (.invokevirtual 26, 3) := by decide +kernel
theorem dL_law_222 : decode cL_law 222 = .ok (.aload_n 2, 1) := by decide +kernel
theorem dL_law_223 : decode cL_law 223 = .ok (.aload_n 0, 1) := by decide +kernel
theorem dL_law_224 : decode cL_law 224 = .ok (.iload 4, 2) := by decide +kernel
theorem dL_law_226 : decode cL_law 226 = .ok (.iconst 1, 1) := by decide +kernel
theorem dL_law_227 : decode cL_law 227 = .ok (.iadd, 1) := by decide +kernel
theorem dL_law_228 : decode cL_law 228 = .ok (.iaload, 1) := by decide +kernel
theorem dL_law_229 : decode cL_law 229 = .ok (.invokevirtual 30, 3) := by decide +kernel
theorem dL_law_232 : decode cL_law 232 = .ok (.if_icmp .eq 1108, 3) := by decide +kernel
theorem dL_law_235 : decode cL_law 235 = .ok (.iconst 0, 1) := by decide +kernel
theorem dL_law_236 : decode cL_law 236 = .ok (.ireturn, 1) := by decide +kernel
theorem dL_law_237 : decode cL_law 237 = .ok (.aload_n 1, 1) := by decide +kernel
theorem dL_law_238 : decode cL_law 238 = .ok (.aload_n 0, 1) := by decide +kernel
theorem dL_law_239 : decode cL_law 239 = .ok (.iload 4, 2) := by decide +kernel
theorem dL_law_241 : decode cL_law 241 = .ok (.iconst 1, 1) := by decide +kernel
theorem dL_law_242 : decode cL_law 242 = .ok (.iadd, 1) := by decide +kernel
theorem dL_law_243 : decode cL_law 243 = .ok (.iaload, 1) := by decide +kernel
theorem dL_law_244 : decode cL_law 244 = .ok (.invokevirtual 31, 3) := by decide +kernel
theorem dL_law_247 : decode cL_law 247 = .ok (.aload_n 2, 1) := by decide +kernel
theorem dL_law_248 : decode cL_law 248 = .ok (.aload_n 0, 1) := by decide +kernel
theorem dL_law_249 : decode cL_law 249 = .ok (.iload 4, 2) := by decide +kernel
theorem dL_law_251 : decode cL_law 251 = .ok (.iconst 1, 1) := by decide +kernel
theorem dL_law_252 : decode cL_law 252 = .ok (.iadd, 1) := by decide +kernel
theorem dL_law_253 : decode cL_law 253 = .ok (.iaload, 1) := by decide +kernel
theorem dL_law_254 : decode cL_law 254 = .ok (.invokevirtual 35, 3) := by decide +kernel
theorem dL_law_257 : decode cL_law 257 = .ok (.if_icmp .eq 1083, 3) := by decide +kernel
theorem dL_law_260 : decode cL_law 260 = .ok (.iconst 0, 1) := by decide +kernel
theorem dL_law_261 : decode cL_law 261 = .ok (.ireturn, 1) := by decide +kernel
theorem dL_law_262 : decode cL_law 262 = .ok (.aload_n 1, 1) := by decide +kernel
theorem dL_law_263 : decode cL_law 263 = .ok (.invokevirtual 36, 3) := by decide +kernel
theorem dL_law_266 : decode cL_law 266 = .ok (.aload_n 2, 1) := by decide +kernel
theorem dL_law_267 : decode cL_law 267 = .ok (.invokevirtual 40, 3) := by decide +kernel
theorem dL_law_270 : decode cL_law 270 = .ok (.if_icmp .eq 1070, 3) := by decide +kernel
theorem dL_law_273 : decode cL_law 273 = .ok (.iconst 0, 1) := by decide +kernel
theorem dL_law_274 : decode cL_law 274 = .ok (.ireturn, 1) := by decide +kernel
theorem dL_law_275 : decode cL_law 275 = .ok (.aload_n 1, 1) := by decide +kernel
theorem dL_law_276 : decode cL_law 276 = .ok (.invokevirtual 41, 3) := by decide +kernel
theorem dL_law_279 : decode cL_law 279 = .ok (.aload_n 2, 1) := by decide +kernel
theorem dL_law_280 : decode cL_law 280 = .ok (.invokevirtual 44, 3) := by decide +kernel
theorem dL_law_283 : decode cL_law 283 = .ok (.if_icmp .eq 1057, 3) := by decide +kernel
theorem dL_law_286 : decode cL_law 286 = .ok (.iconst 0, 1) := by decide +kernel
theorem dL_law_287 : decode cL_law 287 = .ok (.ireturn, 1) := by decide +kernel
theorem dL_law_288 : decode cL_law 288 = .ok (.aload_n 1, 1) := by decide +kernel
theorem dL_law_289 : decode cL_law 289 = .ok (.invokevirtual 45, 3) := by decide +kernel
theorem dL_law_292 : decode cL_law 292 = .ok (.aload_n 2, 1) := by decide +kernel
theorem dL_law_293 : decode cL_law 293 = .ok (.invokevirtual 48, 3) := by decide +kernel
theorem dL_law_296 : decode cL_law 296 = .ok (.if_icmp .eq 1044, 3) := by decide +kernel
theorem dL_law_299 : decode cL_law 299 = .ok (.iconst 0, 1) := by decide +kernel
theorem dL_law_300 : decode cL_law 300 = .ok (.ireturn, 1) := by decide +kernel
theorem dL_law_301 : decode cL_law 301 = .ok (.aload_n 1, 1) := by decide +kernel
theorem dL_law_302 : decode cL_law 302 = .ok (.aload_n 0, 1) := by decide +kernel
theorem dL_law_303 : decode cL_law 303 = .ok (.iload 4, 2) := by decide +kernel
theorem dL_law_305 : decode cL_law 305 = .ok (.iconst 1, 1) := by decide +kernel
theorem dL_law_306 : decode cL_law 306 = .ok (.iadd, 1) := by decide +kernel
theorem dL_law_307 : decode cL_law 307 = .ok (.iaload, 1) := by decide +kernel
theorem dL_law_308 : decode cL_law 308 = .ok (.aload_n 0, 1) := by decide +kernel
theorem dL_law_309 : decode cL_law 309 = .ok (.iload 4, 2) := by decide +kernel
theorem dL_law_311 : decode cL_law 311 = .ok (.iconst 2, 1) := by decide +kernel
theorem dL_law_312 : decode cL_law 312 = .ok (.iadd, 1) := by decide +kernel
theorem dL_law_313 : decode cL_law 313 = .ok (.iaload, 1) := by decide +kernel
theorem dL_law_314 : decode cL_law 314 = .ok (.aload_n 3, 1) := by decide +kernel
theorem dL_law_315 : decode cL_law 315 = .ok (.invokestatic 49, 3) := by decide +kernel
theorem dL_law_318 : decode cL_law 318 = .ok (.istore 5, 2) := by decide +kernel
theorem dL_law_320 : decode cL_law 320 = .ok (.aload_n 2, 1) := by decide +kernel
theorem dL_law_321 : decode cL_law 321 = .ok (.aload_n 0, 1) := by decide +kernel
theorem dL_law_322 : decode cL_law 322 = .ok (.iload 4, 2) := by decide +kernel
theorem dL_law_324 : decode cL_law 324 = .ok (.iconst 1, 1) := by decide +kernel
theorem dL_law_325 : decode cL_law 325 = .ok (.iadd, 1) := by decide +kernel
theorem dL_law_326 : decode cL_law 326 = .ok (.iaload, 1) := by decide +kernel
theorem dL_law_327 : decode cL_law 327 = .ok (.aload_n 0, 1) := by decide +kernel
theorem dL_law_328 : decode cL_law 328 = .ok (.iload 4, 2) := by decide +kernel
theorem dL_law_330 : decode cL_law 330 = .ok (.iconst 2, 1) := by decide +kernel
theorem dL_law_331 : decode cL_law 331 = .ok (.iadd, 1) := by decide +kernel
theorem dL_law_332 : decode cL_law 332 = .ok (.iaload, 1) := by decide +kernel
theorem dL_law_333 : decode cL_law 333 = .ok (.invokevirtual 54, 3) := by decide +kernel
theorem dL_law_336 : decode cL_law 336 = .ok (.istore 6, 2) := by decide +kernel
theorem dL_law_338 : decode cL_law 338 = .ok (.aload_n 2, 1) := by decide +kernel
theorem dL_law_339 : decode cL_law 339 = .ok (.invokevirtual 55, 3) := by decide +kernel
theorem dL_law_342 : decode cL_law 342 = .ok (.iload 5, 2) := by decide +kernel
theorem dL_law_344 : decode cL_law 344 = .ok (.if_icmp .eq 5, 3) := by decide +kernel
theorem dL_law_347 : decode cL_law 347 = .ok (.iconst 0, 1) := by decide +kernel
theorem dL_law_348 : decode cL_law 348 = .ok (.ireturn, 1) := by decide +kernel
theorem dL_law_349 : decode cL_law 349 = .ok (.iload 5, 2) := by decide +kernel
theorem dL_law_351 : decode cL_law 351 = .ok (.ifCond .ne 15, 3) := by decide +kernel
theorem dL_law_354 : decode cL_law 354 = .ok (.aload_n 3, 1) := by decide +kernel
theorem dL_law_355 : decode cL_law 355 = .ok (.iconst 0, 1) := by decide +kernel
theorem dL_law_356 : decode cL_law 356 = .ok (.laload, 1) := by decide +kernel
theorem dL_law_357 : decode cL_law 357 = .ok (.iload 6, 2) := by decide +kernel
theorem dL_law_359 : decode cL_law 359 = .ok (.i2l, 1) := by decide +kernel
theorem dL_law_360 : decode cL_law 360 = .ok (.lcmp, 1) := by decide +kernel
theorem dL_law_361 : decode cL_law 361 = .ok (.ifCond .eq 5, 3) := by decide +kernel
theorem dL_law_364 : decode cL_law 364 = .ok (.iconst 0, 1) := by decide +kernel
theorem dL_law_365 : decode cL_law 365 = .ok (.ireturn, 1) := by decide +kernel
theorem dL_law_366 : decode cL_law 366 = .ok (.goto 974, 3) := by decide +kernel
theorem dL_law_369 : decode cL_law 369 = .ok (.aload_n 1, 1) := by decide +kernel
theorem dL_law_370 : decode cL_law 370 = .ok (.aload_n 0, 1) := by decide +kernel
theorem dL_law_371 : decode cL_law 371 = .ok (.iload 4, 2) := by decide +kernel
theorem dL_law_373 : decode cL_law 373 = .ok (.iconst 1, 1) := by decide +kernel
theorem dL_law_374 : decode cL_law 374 = .ok (.iadd, 1) := by decide +kernel
theorem dL_law_375 : decode cL_law 375 = .ok (.iaload, 1) := by decide +kernel
theorem dL_law_376 : decode cL_law 376 = .ok (.aload_n 0, 1) := by decide +kernel
theorem dL_law_377 : decode cL_law 377 = .ok (.iload 4, 2) := by decide +kernel
theorem dL_law_379 : decode cL_law 379 = .ok (.iconst 2, 1) := by decide +kernel
theorem dL_law_380 : decode cL_law 380 = .ok (.iadd, 1) := by decide +kernel
theorem dL_law_381 : decode cL_law 381 = .ok (.iaload, 1) := by decide +kernel
theorem dL_law_382 : decode cL_law 382 = .ok (.aload_n 3, 1) := by decide +kernel
theorem dL_law_383 : decode cL_law 383 = .ok (.invokestatic 58, 3) := by decide +kernel
theorem dL_law_386 : decode cL_law 386 = .ok (.istore 5, 2) := by decide +kernel
theorem dL_law_388 : decode cL_law 388 = .ok (.aload_n 2, 1) := by decide +kernel
theorem dL_law_389 : decode cL_law 389 = .ok (.aload_n 0, 1) := by decide +kernel
theorem dL_law_390 : decode cL_law 390 = .ok (.iload 4, 2) := by decide +kernel
theorem dL_law_392 : decode cL_law 392 = .ok (.iconst 1, 1) := by decide +kernel
theorem dL_law_393 : decode cL_law 393 = .ok (.iadd, 1) := by decide +kernel
theorem dL_law_394 : decode cL_law 394 = .ok (.iaload, 1) := by decide +kernel
theorem dL_law_395 : decode cL_law 395 = .ok (.aload_n 0, 1) := by decide +kernel
theorem dL_law_396 : decode cL_law 396 = .ok (.iload 4, 2) := by decide +kernel
theorem dL_law_398 : decode cL_law 398 = .ok (.iconst 2, 1) := by decide +kernel
theorem dL_law_399 : decode cL_law 399 = .ok (.iadd, 1) := by decide +kernel
theorem dL_law_400 : decode cL_law 400 = .ok (.iaload, 1) := by decide +kernel
theorem dL_law_401 : decode cL_law 401 = .ok (.invokevirtual 60, 3) := by decide +kernel
theorem dL_law_404 : decode cL_law 404 = .ok (.istore 6, 2) := by decide +kernel
theorem dL_law_406 : decode cL_law 406 = .ok (.aload_n 2, 1) := by decide +kernel
theorem dL_law_407 : decode cL_law 407 = .ok (.invokevirtual 55, 3) := by decide +kernel
theorem dL_law_410 : decode cL_law 410 = .ok (.iload 5, 2) := by decide +kernel
theorem dL_law_412 : decode cL_law 412 = .ok (.if_icmp .eq 5, 3) := by decide +kernel
theorem dL_law_415 : decode cL_law 415 = .ok (.iconst 0, 1) := by decide +kernel
theorem dL_law_416 : decode cL_law 416 = .ok (.ireturn, 1) := by decide +kernel
theorem dL_law_417 : decode cL_law 417 = .ok (.iload 5, 2) := by decide +kernel
theorem dL_law_419 : decode cL_law 419 = .ok (.ifCond .ne 15, 3) := by decide +kernel
theorem dL_law_422 : decode cL_law 422 = .ok (.aload_n 3, 1) := by decide +kernel
theorem dL_law_423 : decode cL_law 423 = .ok (.iconst 0, 1) := by decide +kernel
theorem dL_law_424 : decode cL_law 424 = .ok (.laload, 1) := by decide +kernel
theorem dL_law_425 : decode cL_law 425 = .ok (.iload 6, 2) := by decide +kernel
theorem dL_law_427 : decode cL_law 427 = .ok (.i2l, 1) := by decide +kernel
theorem dL_law_428 : decode cL_law 428 = .ok (.lcmp, 1) := by decide +kernel
theorem dL_law_429 : decode cL_law 429 = .ok (.ifCond .eq 5, 3) := by decide +kernel
theorem dL_law_432 : decode cL_law 432 = .ok (.iconst 0, 1) := by decide +kernel
theorem dL_law_433 : decode cL_law 433 = .ok (.ireturn, 1) := by decide +kernel
theorem dL_law_434 : decode cL_law 434 = .ok (.goto 906, 3) := by decide +kernel
theorem dL_law_437 : decode cL_law 437 = .ok (.aload_n 1, 1) := by decide +kernel
theorem dL_law_438 : decode cL_law 438 = .ok (.aload_n 0, 1) := by decide +kernel
theorem dL_law_439 : decode cL_law 439 = .ok (.iload 4, 2) := by decide +kernel
theorem dL_law_441 : decode cL_law 441 = .ok (.iconst 1, 1) := by decide +kernel
theorem dL_law_442 : decode cL_law 442 = .ok (.iadd, 1) := by decide +kernel
theorem dL_law_443 : decode cL_law 443 = .ok (.iaload, 1) := by decide +kernel
theorem dL_law_444 : decode cL_law 444 = .ok (.aload_n 0, 1) := by decide +kernel
theorem dL_law_445 : decode cL_law 445 = .ok (.iload 4, 2) := by decide +kernel
theorem dL_law_447 : decode cL_law 447 = .ok (.iconst 2, 1) := by decide +kernel
theorem dL_law_448 : decode cL_law 448 = .ok (.iadd, 1) := by decide +kernel
theorem dL_law_449 : decode cL_law 449 = .ok (.iaload, 1) := by decide +kernel
theorem dL_law_450 : decode cL_law 450 = .ok (.invokevirtual 61, 3) := by decide +kernel
theorem dL_law_453 : decode cL_law 453 = .ok (.aload_n 2, 1) := by decide +kernel
theorem dL_law_454 : decode cL_law 454 = .ok (.aload_n 0, 1) := by decide +kernel
theorem dL_law_455 : decode cL_law 455 = .ok (.iload 4, 2) := by decide +kernel
theorem dL_law_457 : decode cL_law 457 = .ok (.iconst 1, 1) := by decide +kernel
theorem dL_law_458 : decode cL_law 458 = .ok (.iadd, 1) := by decide +kernel
theorem dL_law_459 : decode cL_law 459 = .ok (.iaload, 1) := by decide +kernel
theorem dL_law_460 : decode cL_law 460 = .ok (.aload_n 0, 1) := by decide +kernel
theorem dL_law_461 : decode cL_law 461 = .ok (.iload 4, 2) := by decide +kernel
theorem dL_law_463 : decode cL_law 463 = .ok (.iconst 2, 1) := by decide +kernel
theorem dL_law_464 : decode cL_law 464 = .ok (.iadd, 1) := by decide +kernel
theorem dL_law_465 : decode cL_law 465 = .ok (.iaload, 1) := by decide +kernel
theorem dL_law_466 : decode cL_law 466 = .ok (.invokevirtual 64, 3) := by decide +kernel
theorem dL_law_469 : decode cL_law 469 = .ok (.if_icmp .eq 871, 3) := by decide +kernel
theorem dL_law_472 : decode cL_law 472 = .ok (.iconst 0, 1) := by decide +kernel
theorem dL_law_473 : decode cL_law 473 = .ok (.ireturn, 1) := by decide +kernel
theorem dL_law_474 : decode cL_law 474 = .ok (.aload_n 1, 1) := by decide +kernel
theorem dL_law_475 : decode cL_law 475 = .ok (.aload_n 0, 1) := by decide +kernel
theorem dL_law_476 : decode cL_law 476 = .ok (.iload 4, 2) := by decide +kernel
theorem dL_law_478 : decode cL_law 478 = .ok (.iconst 1, 1) := by decide +kernel
theorem dL_law_479 : decode cL_law 479 = .ok (.iadd, 1) := by decide +kernel
theorem dL_law_480 : decode cL_law 480 = .ok (.iaload, 1) := by decide +kernel
theorem dL_law_481 : decode cL_law 481 = .ok (.aload_n 0, 1) := by decide +kernel
theorem dL_law_482 : decode cL_law 482 = .ok (.iload 4, 2) := by decide +kernel
theorem dL_law_484 : decode cL_law 484 = .ok (.iconst 2, 1) := by decide +kernel
theorem dL_law_485 : decode cL_law 485 = .ok (.iadd, 1) := by decide +kernel
theorem dL_law_486 : decode cL_law 486 = .ok (.iaload, 1) := by decide +kernel
theorem dL_law_487 : decode cL_law 487 = .ok (.aload_n 0, 1) := by decide +kernel
theorem dL_law_488 : decode cL_law 488 = .ok (.iload 4, 2) := by decide +kernel
theorem dL_law_490 : decode cL_law 490 = .ok (.iconst 3, 1) := by decide +kernel
theorem dL_law_491 : decode cL_law 491 = .ok (.iadd, 1) := by decide +kernel
theorem dL_law_492 : decode cL_law 492 = .ok (.iaload, 1) := by decide +kernel
theorem dL_law_493 : decode cL_law 493 = .ok (.aload_n 0, 1) := by decide +kernel
theorem dL_law_494 : decode cL_law 494 = .ok (.iload 4, 2) := by decide +kernel
theorem dL_law_496 : decode cL_law 496 = .ok (.iconst 4, 1) := by decide +kernel
theorem dL_law_497 : decode cL_law 497 = .ok (.iadd, 1) := by decide +kernel
theorem dL_law_498 : decode cL_law 498 = .ok (.iaload, 1) := by decide +kernel
theorem dL_law_499 : decode cL_law 499 = .ok (.invokevirtual 65, 3) := by decide +kernel
theorem dL_law_502 : decode cL_law 502 = .ok (.aload_n 2, 1) := by decide +kernel
theorem dL_law_503 : decode cL_law 503 = .ok (.aload_n 0, 1) := by decide +kernel
theorem dL_law_504 : decode cL_law 504 = .ok (.iload 4, 2) := by decide +kernel
theorem dL_law_506 : decode cL_law 506 = .ok (.iconst 1, 1) := by decide +kernel
theorem dL_law_507 : decode cL_law 507 = .ok (.iadd, 1) := by decide +kernel
theorem dL_law_508 : decode cL_law 508 = .ok (.iaload, 1) := by decide +kernel
theorem dL_law_509 : decode cL_law 509 = .ok (.aload_n 0, 1) := by decide +kernel
theorem dL_law_510 : decode cL_law 510 = .ok (.iload 4, 2) := by decide +kernel
theorem dL_law_512 : decode cL_law 512 = .ok (.iconst 2, 1) := by decide +kernel
theorem dL_law_513 : decode cL_law 513 = .ok (.iadd, 1) := by decide +kernel
theorem dL_law_514 : decode cL_law 514 = .ok (.iaload, 1) := by decide +kernel
theorem dL_law_515 : decode cL_law 515 = .ok (.aload_n 0, 1) := by decide +kernel
theorem dL_law_516 : decode cL_law 516 = .ok (.iload 4, 2) := by decide +kernel
theorem dL_law_518 : decode cL_law 518 = .ok (.iconst 3, 1) := by decide +kernel
theorem dL_law_519 : decode cL_law 519 = .ok (.iadd, 1) := by decide +kernel
theorem dL_law_520 : decode cL_law 520 = .ok (.iaload, 1) := by decide +kernel
theorem dL_law_521 : decode cL_law 521 = .ok (.aload_n 0, 1) := by decide +kernel
theorem dL_law_522 : decode cL_law 522 = .ok (.iload 4, 2) := by decide +kernel
theorem dL_law_524 : decode cL_law 524 = .ok (.iconst 4, 1) := by decide +kernel
theorem dL_law_525 : decode cL_law 525 = .ok (.iadd, 1) := by decide +kernel
theorem dL_law_526 : decode cL_law 526 = .ok (.iaload, 1) := by decide +kernel
theorem dL_law_527 : decode cL_law 527 = .ok (.invokevirtual 69, 3) := by decide +kernel
theorem dL_law_530 : decode cL_law 530 = .ok (.if_icmp .eq 810, 3) := by decide +kernel
theorem dL_law_533 : decode cL_law 533 = .ok (.iconst 0, 1) := by decide +kernel
theorem dL_law_534 : decode cL_law 534 = .ok (.ireturn, 1) := by decide +kernel
theorem dL_law_535 : decode cL_law 535 = .ok (.aload_n 1, 1) := by decide +kernel
theorem dL_law_536 : decode cL_law 536 = .ok (.aload_n 0, 1) := by decide +kernel
theorem dL_law_537 : decode cL_law 537 = .ok (.iload 4, 2) := by decide +kernel
theorem dL_law_539 : decode cL_law 539 = .ok (.iconst 1, 1) := by decide +kernel
theorem dL_law_540 : decode cL_law 540 = .ok (.iadd, 1) := by decide +kernel
theorem dL_law_541 : decode cL_law 541 = .ok (.iaload, 1) := by decide +kernel
theorem dL_law_542 : decode cL_law 542 = .ok (.invokevirtual 70, 3) := by decide +kernel
theorem dL_law_545 : decode cL_law 545 = .ok (.aload_n 2, 1) := by decide +kernel
theorem dL_law_546 : decode cL_law 546 = .ok (.aload_n 0, 1) := by decide +kernel
theorem dL_law_547 : decode cL_law 547 = .ok (.iload 4, 2) := by decide +kernel
theorem dL_law_549 : decode cL_law 549 = .ok (.iconst 1, 1) := by decide +kernel
theorem dL_law_550 : decode cL_law 550 = .ok (.iadd, 1) := by decide +kernel
theorem dL_law_551 : decode cL_law 551 = .ok (.iaload, 1) := by decide +kernel
theorem dL_law_552 : decode cL_law 552 = .ok (.invokevirtual 73, 3) := by decide +kernel
theorem dL_law_555 : decode cL_law 555 = .ok (.if_icmp .eq 785, 3) := by decide +kernel
theorem dL_law_558 : decode cL_law 558 = .ok (.iconst 0, 1) := by decide +kernel
theorem dL_law_559 : decode cL_law 559 = .ok (.ireturn, 1) := by decide +kernel
theorem dL_law_560 : decode cL_law 560 = .ok (.aload_n 1, 1) := by decide +kernel
theorem dL_law_561 : decode cL_law 561 = .ok (.aload_n 0, 1) := by decide +kernel
theorem dL_law_562 : decode cL_law 562 = .ok (.iload 4, 2) := by decide +kernel
theorem dL_law_564 : decode cL_law 564 = .ok (.iconst 1, 1) := by decide +kernel
theorem dL_law_565 : decode cL_law 565 = .ok (.iadd, 1) := by decide +kernel
theorem dL_law_566 : decode cL_law 566 = .ok (.iaload, 1) := by decide +kernel
theorem dL_law_567 : decode cL_law 567 = .ok (.invokevirtual 74, 3) := by decide +kernel
theorem dL_law_570 : decode cL_law 570 = .ok (.aload_n 2, 1) := by decide +kernel
theorem dL_law_571 : decode cL_law 571 = .ok (.aload_n 0, 1) := by decide +kernel
theorem dL_law_572 : decode cL_law 572 = .ok (.iload 4, 2) := by decide +kernel
theorem dL_law_574 : decode cL_law 574 = .ok (.iconst 1, 1) := by decide +kernel
theorem dL_law_575 : decode cL_law 575 = .ok (.iadd, 1) := by decide +kernel
theorem dL_law_576 : decode cL_law 576 = .ok (.iaload, 1) := by decide +kernel
theorem dL_law_577 : decode cL_law 577 = .ok (.invokevirtual 77, 3) := by decide +kernel
theorem dL_law_580 : decode cL_law 580 = .ok (.if_icmp .eq 760, 3) := by decide +kernel
theorem dL_law_583 : decode cL_law 583 = .ok (.iconst 0, 1) := by decide +kernel
theorem dL_law_584 : decode cL_law 584 = .ok (.ireturn, 1) := by decide +kernel
theorem dL_law_585 : decode cL_law 585 = .ok (.aload_n 1, 1) := by decide +kernel
theorem dL_law_586 : decode cL_law 586 = .ok (.invokevirtual 78, 3) := by decide +kernel
theorem dL_law_589 : decode cL_law 589 = .ok (.aload_n 2, 1) := by decide +kernel
theorem dL_law_590 : decode cL_law 590 = .ok (.invokevirtual 81, 3) := by decide +kernel
theorem dL_law_593 : decode cL_law 593 = .ok (.if_icmp .eq 747, 3) := by decide +kernel
theorem dL_law_596 : decode cL_law 596 = .ok (.iconst 0, 1) := by decide +kernel
theorem dL_law_597 : decode cL_law 597 = .ok (.ireturn, 1) := by decide +kernel
theorem dL_law_598 : decode cL_law 598 = .ok (.aload_n 1, 1) := by decide +kernel
theorem dL_law_599 : decode cL_law 599 = .ok (.aload_n 0, 1) := by decide +kernel
theorem dL_law_600 : decode cL_law 600 = .ok (.iload 4, 2) := by decide +kernel
theorem dL_law_602 : decode cL_law 602 = .ok (.iconst 1, 1) := by decide +kernel
theorem dL_law_603 : decode cL_law 603 = .ok (.iadd, 1) := by decide +kernel
theorem dL_law_604 : decode cL_law 604 = .ok (.iaload, 1) := by decide +kernel
theorem dL_law_605 : decode cL_law 605 = .ok (.aload_n 0, 1) := by decide +kernel
theorem dL_law_606 : decode cL_law 606 = .ok (.iload 4, 2) := by decide +kernel
theorem dL_law_608 : decode cL_law 608 = .ok (.iconst 2, 1) := by decide +kernel
theorem dL_law_609 : decode cL_law 609 = .ok (.iadd, 1) := by decide +kernel
theorem dL_law_610 : decode cL_law 610 = .ok (.iaload, 1) := by decide +kernel
theorem dL_law_611 : decode cL_law 611 = .ok (.invokevirtual 82, 3) := by decide +kernel
theorem dL_law_614 : decode cL_law 614 = .ok (.aload_n 2, 1) := by decide +kernel
theorem dL_law_615 : decode cL_law 615 = .ok (.aload_n 0, 1) := by decide +kernel
theorem dL_law_616 : decode cL_law 616 = .ok (.iload 4, 2) := by decide +kernel
theorem dL_law_618 : decode cL_law 618 = .ok (.iconst 1, 1) := by decide +kernel
theorem dL_law_619 : decode cL_law 619 = .ok (.iadd, 1) := by decide +kernel
theorem dL_law_620 : decode cL_law 620 = .ok (.iaload, 1) := by decide +kernel
theorem dL_law_621 : decode cL_law 621 = .ok (.aload_n 0, 1) := by decide +kernel
theorem dL_law_622 : decode cL_law 622 = .ok (.iload 4, 2) := by decide +kernel
theorem dL_law_624 : decode cL_law 624 = .ok (.iconst 2, 1) := by decide +kernel
theorem dL_law_625 : decode cL_law 625 = .ok (.iadd, 1) := by decide +kernel
theorem dL_law_626 : decode cL_law 626 = .ok (.iaload, 1) := by decide +kernel
theorem dL_law_627 : decode cL_law 627 = .ok (.invokevirtual 85, 3) := by decide +kernel
theorem dL_law_630 : decode cL_law 630 = .ok (.if_icmp .eq 710, 3) := by decide +kernel
theorem dL_law_633 : decode cL_law 633 = .ok (.iconst 0, 1) := by decide +kernel
theorem dL_law_634 : decode cL_law 634 = .ok (.ireturn, 1) := by decide +kernel
theorem dL_law_635 : decode cL_law 635 = .ok (.aload_n 1, 1) := by decide +kernel
theorem dL_law_636 : decode cL_law 636 = .ok (.invokevirtual 86, 3) := by decide +kernel
theorem dL_law_639 : decode cL_law 639 = .ok (.aload_n 2, 1) := by decide +kernel
theorem dL_law_640 : decode cL_law 640 = .ok (.invokevirtual 89, 3) := by decide +kernel
theorem dL_law_643 : decode cL_law 643 = .ok (.if_icmp .eq 697, 3) := by decide +kernel
theorem dL_law_646 : decode cL_law 646 = .ok (.iconst 0, 1) := by decide +kernel
theorem dL_law_647 : decode cL_law 647 = .ok (.ireturn, 1) := by decide +kernel
theorem dL_law_648 : decode cL_law 648 = .ok (.aload_n 1, 1) := by decide +kernel
theorem dL_law_649 : decode cL_law 649 = .ok (.invokevirtual 90, 3) := by decide +kernel
theorem dL_law_652 : decode cL_law 652 = .ok (.aload_n 2, 1) := by decide +kernel
theorem dL_law_653 : decode cL_law 653 = .ok (.invokevirtual 93, 3) := by decide +kernel
theorem dL_law_656 : decode cL_law 656 = .ok (.if_icmp .eq 684, 3) := by decide +kernel
theorem dL_law_659 : decode cL_law 659 = .ok (.iconst 0, 1) := by decide +kernel
theorem dL_law_660 : decode cL_law 660 = .ok (.ireturn, 1) := by decide +kernel
theorem dL_law_661 : decode cL_law 661 = .ok (.aload_n 1, 1) := by decide +kernel
theorem dL_law_662 : decode cL_law 662 = .ok (.aload_n 0, 1) := by decide +kernel
theorem dL_law_663 : decode cL_law 663 = .ok (.iload 4, 2) := by decide +kernel
theorem dL_law_665 : decode cL_law 665 = .ok (.iconst 1, 1) := by decide +kernel
theorem dL_law_666 : decode cL_law 666 = .ok (.iadd, 1) := by decide +kernel
theorem dL_law_667 : decode cL_law 667 = .ok (.iaload, 1) := by decide +kernel
theorem dL_law_668 : decode cL_law 668 = .ok (.aload_n 0, 1) := by decide +kernel
theorem dL_law_669 : decode cL_law 669 = .ok (.iload 4, 2) := by decide +kernel
theorem dL_law_671 : decode cL_law 671 = .ok (.iconst 2, 1) := by decide +kernel
theorem dL_law_672 : decode cL_law 672 = .ok (.iadd, 1) := by decide +kernel
theorem dL_law_673 : decode cL_law 673 = .ok (.iaload, 1) := by decide +kernel
theorem dL_law_674 : decode cL_law 674 = .ok (.invokevirtual 94, 3) := by decide +kernel
theorem dL_law_677 : decode cL_law 677 = .ok (.aload_n 2, 1) := by decide +kernel
theorem dL_law_678 : decode cL_law 678 = .ok (.aload_n 0, 1) := by decide +kernel
theorem dL_law_679 : decode cL_law 679 = .ok (.iload 4, 2) := by decide +kernel
theorem dL_law_681 : decode cL_law 681 = .ok (.iconst 1, 1) := by decide +kernel
theorem dL_law_682 : decode cL_law 682 = .ok (.iadd, 1) := by decide +kernel
theorem dL_law_683 : decode cL_law 683 = .ok (.iaload, 1) := by decide +kernel
theorem dL_law_684 : decode cL_law 684 = .ok (.aload_n 0, 1) := by decide +kernel
theorem dL_law_685 : decode cL_law 685 = .ok (.iload 4, 2) := by decide +kernel
theorem dL_law_687 : decode cL_law 687 = .ok (.iconst 2, 1) := by decide +kernel
theorem dL_law_688 : decode cL_law 688 = .ok (.iadd, 1) := by decide +kernel
theorem dL_law_689 : decode cL_law 689 = .ok (.iaload, 1) := by decide +kernel
theorem dL_law_690 : decode cL_law 690 = .ok (.invokevirtual 97, 3) := by decide +kernel
theorem dL_law_693 : decode cL_law 693 = .ok (.if_icmp .eq 647, 3) := by decide +kernel
theorem dL_law_696 : decode cL_law 696 = .ok (.iconst 0, 1) := by decide +kernel
theorem dL_law_697 : decode cL_law 697 = .ok (.ireturn, 1) := by decide +kernel
theorem dL_law_698 : decode cL_law 698 = .ok (.aload_n 1, 1) := by decide +kernel
theorem dL_law_699 : decode cL_law 699 = .ok (.invokevirtual 98, 3) := by decide +kernel
theorem dL_law_702 : decode cL_law 702 = .ok (.aload_n 2, 1) := by decide +kernel
theorem dL_law_703 : decode cL_law 703 = .ok (.invokevirtual 101, 3) := by decide +kernel
theorem dL_law_706 : decode cL_law 706 = .ok (.if_icmp .eq 634, 3) := by decide +kernel
theorem dL_law_709 : decode cL_law 709 = .ok (.iconst 0, 1) := by decide +kernel
theorem dL_law_710 : decode cL_law 710 = .ok (.ireturn, 1) := by decide +kernel
theorem dL_law_711 : decode cL_law 711 = .ok (.aload_n 1, 1) := by decide +kernel
theorem dL_law_712 : decode cL_law 712 = .ok (.aload_n 0, 1) := by decide +kernel
theorem dL_law_713 : decode cL_law 713 = .ok (.iload 4, 2) := by decide +kernel
theorem dL_law_715 : decode cL_law 715 = .ok (.iconst 1, 1) := by decide +kernel
theorem dL_law_716 : decode cL_law 716 = .ok (.iadd, 1) := by decide +kernel
theorem dL_law_717 : decode cL_law 717 = .ok (.iaload, 1) := by decide +kernel
theorem dL_law_718 : decode cL_law 718 = .ok (.invokevirtual 102, 3) := by decide +kernel
theorem dL_law_721 : decode cL_law 721 = .ok (.aload_n 2, 1) := by decide +kernel
theorem dL_law_722 : decode cL_law 722 = .ok (.aload_n 0, 1) := by decide +kernel
theorem dL_law_723 : decode cL_law 723 = .ok (.iload 4, 2) := by decide +kernel
theorem dL_law_725 : decode cL_law 725 = .ok (.iconst 1, 1) := by decide +kernel
theorem dL_law_726 : decode cL_law 726 = .ok (.iadd, 1) := by decide +kernel
theorem dL_law_727 : decode cL_law 727 = .ok (.iaload, 1) := by decide +kernel
theorem dL_law_728 : decode cL_law 728 = .ok (.invokevirtual 105, 3) := by decide +kernel
theorem dL_law_731 : decode cL_law 731 = .ok (.if_icmp .eq 609, 3) := by decide +kernel
theorem dL_law_734 : decode cL_law 734 = .ok (.iconst 0, 1) := by decide +kernel
theorem dL_law_735 : decode cL_law 735 = .ok (.ireturn, 1) := by decide +kernel
theorem dL_law_736 : decode cL_law 736 = .ok (.aload_n 1, 1) := by decide +kernel
theorem dL_law_737 : decode cL_law 737 = .ok (.aload_n 0, 1) := by decide +kernel
theorem dL_law_738 : decode cL_law 738 = .ok (.iload 4, 2) := by decide +kernel
theorem dL_law_740 : decode cL_law 740 = .ok (.iconst 1, 1) := by decide +kernel
theorem dL_law_741 : decode cL_law 741 = .ok (.iadd, 1) := by decide +kernel
theorem dL_law_742 : decode cL_law 742 = .ok (.iaload, 1) := by decide +kernel
theorem dL_law_743 : decode cL_law 743 = .ok (.invokevirtual 106, 3) := by decide +kernel
theorem dL_law_746 : decode cL_law 746 = .ok (.aload_n 2, 1) := by decide +kernel
theorem dL_law_747 : decode cL_law 747 = .ok (.aload_n 0, 1) := by decide +kernel
theorem dL_law_748 : decode cL_law 748 = .ok (.iload 4, 2) := by decide +kernel
theorem dL_law_750 : decode cL_law 750 = .ok (.iconst 1, 1) := by decide +kernel
theorem dL_law_751 : decode cL_law 751 = .ok (.iadd, 1) := by decide +kernel
theorem dL_law_752 : decode cL_law 752 = .ok (.iaload, 1) := by decide +kernel
theorem dL_law_753 : decode cL_law 753 = .ok (.invokevirtual 109, 3) := by decide +kernel
theorem dL_law_756 : decode cL_law 756 = .ok (.if_icmp .eq 584, 3) := by decide +kernel
theorem dL_law_759 : decode cL_law 759 = .ok (.iconst 0, 1) := by decide +kernel
theorem dL_law_760 : decode cL_law 760 = .ok (.ireturn, 1) := by decide +kernel
theorem dL_law_761 : decode cL_law 761 = .ok (.aload_n 1, 1) := by decide +kernel
theorem dL_law_762 : decode cL_law 762 = .ok (.aload_n 0, 1) := by decide +kernel
theorem dL_law_763 : decode cL_law 763 = .ok (.iload 4, 2) := by decide +kernel
theorem dL_law_765 : decode cL_law 765 = .ok (.iconst 1, 1) := by decide +kernel
theorem dL_law_766 : decode cL_law 766 = .ok (.iadd, 1) := by decide +kernel
theorem dL_law_767 : decode cL_law 767 = .ok (.iaload, 1) := by decide +kernel
theorem dL_law_768 : decode cL_law 768 = .ok (.invokevirtual 110, 3) := by decide +kernel
theorem dL_law_771 : decode cL_law 771 = .ok (.aload_n 2, 1) := by decide +kernel
theorem dL_law_772 : decode cL_law 772 = .ok (.aload_n 0, 1) := by decide +kernel
theorem dL_law_773 : decode cL_law 773 = .ok (.iload 4, 2) := by decide +kernel
theorem dL_law_775 : decode cL_law 775 = .ok (.iconst 1, 1) := by decide +kernel
theorem dL_law_776 : decode cL_law 776 = .ok (.iadd, 1) := by decide +kernel
theorem dL_law_777 : decode cL_law 777 = .ok (.iaload, 1) := by decide +kernel
theorem dL_law_778 : decode cL_law 778 = .ok (.invokevirtual 113, 3) := by decide +kernel
theorem dL_law_781 : decode cL_law 781 = .ok (.if_icmp .eq 559, 3) := by decide +kernel
theorem dL_law_784 : decode cL_law 784 = .ok (.iconst 0, 1) := by decide +kernel
theorem dL_law_785 : decode cL_law 785 = .ok (.ireturn, 1) := by decide +kernel
theorem dL_law_786 : decode cL_law 786 = .ok (.aload_n 1, 1) := by decide +kernel
theorem dL_law_787 : decode cL_law 787 = .ok (.aload_n 0, 1) := by decide +kernel
theorem dL_law_788 : decode cL_law 788 = .ok (.iload 4, 2) := by decide +kernel
theorem dL_law_790 : decode cL_law 790 = .ok (.iconst 1, 1) := by decide +kernel
theorem dL_law_791 : decode cL_law 791 = .ok (.iadd, 1) := by decide +kernel
theorem dL_law_792 : decode cL_law 792 = .ok (.iaload, 1) := by decide +kernel
theorem dL_law_793 : decode cL_law 793 = .ok (.invokevirtual 114, 3) := by decide +kernel
theorem dL_law_796 : decode cL_law 796 = .ok (.aload_n 2, 1) := by decide +kernel
theorem dL_law_797 : decode cL_law 797 = .ok (.aload_n 0, 1) := by decide +kernel
theorem dL_law_798 : decode cL_law 798 = .ok (.iload 4, 2) := by decide +kernel
theorem dL_law_800 : decode cL_law 800 = .ok (.iconst 1, 1) := by decide +kernel
theorem dL_law_801 : decode cL_law 801 = .ok (.iadd, 1) := by decide +kernel
theorem dL_law_802 : decode cL_law 802 = .ok (.iaload, 1) := by decide +kernel
theorem dL_law_803 : decode cL_law 803 = .ok (.invokevirtual 117, 3) := by decide +kernel
theorem dL_law_806 : decode cL_law 806 = .ok (.if_icmp .eq 534, 3) := by decide +kernel
theorem dL_law_809 : decode cL_law 809 = .ok (.iconst 0, 1) := by decide +kernel
theorem dL_law_810 : decode cL_law 810 = .ok (.ireturn, 1) := by decide +kernel
theorem dL_law_811 : decode cL_law 811 = .ok (.aload_n 1, 1) := by decide +kernel
theorem dL_law_812 : decode cL_law 812 = .ok (.invokevirtual 118, 3) := by decide +kernel
theorem dL_law_815 : decode cL_law 815 = .ok (.aload_n 2, 1) := by decide +kernel
theorem dL_law_816 : decode cL_law 816 = .ok (.invokevirtual 121, 3) := by decide +kernel
theorem dL_law_819 : decode cL_law 819 = .ok (.if_icmp .eq 521, 3) := by decide +kernel
theorem dL_law_822 : decode cL_law 822 = .ok (.iconst 0, 1) := by decide +kernel
theorem dL_law_823 : decode cL_law 823 = .ok (.ireturn, 1) := by decide +kernel
theorem dL_law_824 : decode cL_law 824 = .ok (.aload_n 1, 1) := by decide +kernel
theorem dL_law_825 : decode cL_law 825 = .ok (.aload_n 0, 1) := by decide +kernel
theorem dL_law_826 : decode cL_law 826 = .ok (.iload 4, 2) := by decide +kernel
theorem dL_law_828 : decode cL_law 828 = .ok (.iconst 1, 1) := by decide +kernel
theorem dL_law_829 : decode cL_law 829 = .ok (.iadd, 1) := by decide +kernel
theorem dL_law_830 : decode cL_law 830 = .ok (.iaload, 1) := by decide +kernel
theorem dL_law_831 : decode cL_law 831 = .ok (.aload_n 0, 1) := by decide +kernel
theorem dL_law_832 : decode cL_law 832 = .ok (.iload 4, 2) := by decide +kernel
theorem dL_law_834 : decode cL_law 834 = .ok (.iconst 2, 1) := by decide +kernel
theorem dL_law_835 : decode cL_law 835 = .ok (.iadd, 1) := by decide +kernel
theorem dL_law_836 : decode cL_law 836 = .ok (.iaload, 1) := by decide +kernel
theorem dL_law_837 : decode cL_law 837 = .ok (.invokevirtual 122, 3) := by decide +kernel
theorem dL_law_840 : decode cL_law 840 = .ok (.aload_n 2, 1) := by decide +kernel
theorem dL_law_841 : decode cL_law 841 = .ok (.aload_n 0, 1) := by decide +kernel
theorem dL_law_842 : decode cL_law 842 = .ok (.iload 4, 2) := by decide +kernel
theorem dL_law_844 : decode cL_law 844 = .ok (.iconst 1, 1) := by decide +kernel
theorem dL_law_845 : decode cL_law 845 = .ok (.iadd, 1) := by decide +kernel
theorem dL_law_846 : decode cL_law 846 = .ok (.iaload, 1) := by decide +kernel
theorem dL_law_847 : decode cL_law 847 = .ok (.aload_n 0, 1) := by decide +kernel
theorem dL_law_848 : decode cL_law 848 = .ok (.iload 4, 2) := by decide +kernel
theorem dL_law_850 : decode cL_law 850 = .ok (.iconst 2, 1) := by decide +kernel
theorem dL_law_851 : decode cL_law 851 = .ok (.iadd, 1) := by decide +kernel
theorem dL_law_852 : decode cL_law 852 = .ok (.iaload, 1) := by decide +kernel
theorem dL_law_853 : decode cL_law 853 = .ok (.invokevirtual 125, 3) := by decide +kernel
theorem dL_law_856 : decode cL_law 856 = .ok (.if_icmp .eq 484, 3) := by decide +kernel
theorem dL_law_859 : decode cL_law 859 = .ok (.iconst 0, 1) := by decide +kernel
theorem dL_law_860 : decode cL_law 860 = .ok (.ireturn, 1) := by decide +kernel
theorem dL_law_861 : decode cL_law 861 = .ok (.aload_n 1, 1) := by decide +kernel
theorem dL_law_862 : decode cL_law 862 = .ok (.aload_n 0, 1) := by decide +kernel
theorem dL_law_863 : decode cL_law 863 = .ok (.iload 4, 2) := by decide +kernel
theorem dL_law_865 : decode cL_law 865 = .ok (.iconst 1, 1) := by decide +kernel
theorem dL_law_866 : decode cL_law 866 = .ok (.iadd, 1) := by decide +kernel
theorem dL_law_867 : decode cL_law 867 = .ok (.iaload, 1) := by decide +kernel
theorem dL_law_868 : decode cL_law 868 = .ok (.invokevirtual 126, 3) := by decide +kernel
theorem dL_law_871 : decode cL_law 871 = .ok (.aload_n 2, 1) := by decide +kernel
theorem dL_law_872 : decode cL_law 872 = .ok (.aload_n 0, 1) := by decide +kernel
theorem dL_law_873 : decode cL_law 873 = .ok (.iload 4, 2) := by decide +kernel
theorem dL_law_875 : decode cL_law 875 = .ok (.iconst 1, 1) := by decide +kernel
theorem dL_law_876 : decode cL_law 876 = .ok (.iadd, 1) := by decide +kernel
theorem dL_law_877 : decode cL_law 877 = .ok (.iaload, 1) := by decide +kernel
theorem dL_law_878 : decode cL_law 878 = .ok (.invokevirtual 129, 3) := by decide +kernel
theorem dL_law_881 : decode cL_law 881 = .ok (.if_icmp .eq 459, 3) := by decide +kernel
theorem dL_law_884 : decode cL_law 884 = .ok (.iconst 0, 1) := by decide +kernel
theorem dL_law_885 : decode cL_law 885 = .ok (.ireturn, 1) := by decide +kernel
theorem dL_law_886 : decode cL_law 886 = .ok (.aload_n 1, 1) := by decide +kernel
theorem dL_law_887 : decode cL_law 887 = .ok (.aload_n 0, 1) := by decide +kernel
theorem dL_law_888 : decode cL_law 888 = .ok (.iload 4, 2) := by decide +kernel
theorem dL_law_890 : decode cL_law 890 = .ok (.iconst 1, 1) := by decide +kernel
theorem dL_law_891 : decode cL_law 891 = .ok (.iadd, 1) := by decide +kernel
theorem dL_law_892 : decode cL_law 892 = .ok (.iaload, 1) := by decide +kernel
theorem dL_law_893 : decode cL_law 893 = .ok (.invokevirtual 130, 3) := by decide +kernel
theorem dL_law_896 : decode cL_law 896 = .ok (.aload_n 2, 1) := by decide +kernel
theorem dL_law_897 : decode cL_law 897 = .ok (.aload_n 0, 1) := by decide +kernel
theorem dL_law_898 : decode cL_law 898 = .ok (.iload 4, 2) := by decide +kernel
theorem dL_law_900 : decode cL_law 900 = .ok (.iconst 1, 1) := by decide +kernel
theorem dL_law_901 : decode cL_law 901 = .ok (.iadd, 1) := by decide +kernel
theorem dL_law_902 : decode cL_law 902 = .ok (.iaload, 1) := by decide +kernel
theorem dL_law_903 : decode cL_law 903 = .ok (.invokevirtual 133, 3) := by decide +kernel
theorem dL_law_906 : decode cL_law 906 = .ok (.if_icmp .eq 434, 3) := by decide +kernel
theorem dL_law_909 : decode cL_law 909 = .ok (.iconst 0, 1) := by decide +kernel
theorem dL_law_910 : decode cL_law 910 = .ok (.ireturn, 1) := by decide +kernel
theorem dL_law_911 : decode cL_law 911 = .ok (.aload_n 1, 1) := by decide +kernel
theorem dL_law_912 : decode cL_law 912 = .ok (.aload_n 0, 1) := by decide +kernel
theorem dL_law_913 : decode cL_law 913 = .ok (.iload 4, 2) := by decide +kernel
theorem dL_law_915 : decode cL_law 915 = .ok (.iconst 1, 1) := by decide +kernel
theorem dL_law_916 : decode cL_law 916 = .ok (.iadd, 1) := by decide +kernel
theorem dL_law_917 : decode cL_law 917 = .ok (.iaload, 1) := by decide +kernel
theorem dL_law_918 : decode cL_law 918 = .ok (.aload_n 0, 1) := by decide +kernel
theorem dL_law_919 : decode cL_law 919 = .ok (.iload 4, 2) := by decide +kernel
theorem dL_law_921 : decode cL_law 921 = .ok (.iconst 2, 1) := by decide +kernel
theorem dL_law_922 : decode cL_law 922 = .ok (.iadd, 1) := by decide +kernel
theorem dL_law_923 : decode cL_law 923 = .ok (.iaload, 1) := by decide +kernel
theorem dL_law_924 : decode cL_law 924 = .ok (.invokevirtual 134, 3) := by decide +kernel
theorem dL_law_927 : decode cL_law 927 = .ok (.aload_n 2, 1) := by decide +kernel
theorem dL_law_928 : decode cL_law 928 = .ok (.aload_n 0, 1) := by decide +kernel
theorem dL_law_929 : decode cL_law 929 = .ok (.iload 4, 2) := by decide +kernel
theorem dL_law_931 : decode cL_law 931 = .ok (.iconst 1, 1) := by decide +kernel
theorem dL_law_932 : decode cL_law 932 = .ok (.iadd, 1) := by decide +kernel
theorem dL_law_933 : decode cL_law 933 = .ok (.iaload, 1) := by decide +kernel
theorem dL_law_934 : decode cL_law 934 = .ok (.aload_n 0, 1) := by decide +kernel
theorem dL_law_935 : decode cL_law 935 = .ok (.iload 4, 2) := by decide +kernel
theorem dL_law_937 : decode cL_law 937 = .ok (.iconst 2, 1) := by decide +kernel
theorem dL_law_938 : decode cL_law 938 = .ok (.iadd, 1) := by decide +kernel
theorem dL_law_939 : decode cL_law 939 = .ok (.iaload, 1) := by decide +kernel
theorem dL_law_940 : decode cL_law 940 = .ok (.invokevirtual 137, 3) := by decide +kernel
theorem dL_law_943 : decode cL_law 943 = .ok (.if_icmp .eq 397, 3) := by decide +kernel
theorem dL_law_946 : decode cL_law 946 = .ok (.iconst 0, 1) := by decide +kernel
theorem dL_law_947 : decode cL_law 947 = .ok (.ireturn, 1) := by decide +kernel
theorem dL_law_948 : decode cL_law 948 = .ok (.aload_n 1, 1) := by decide +kernel
theorem dL_law_949 : decode cL_law 949 = .ok (.aload_n 0, 1) := by decide +kernel
theorem dL_law_950 : decode cL_law 950 = .ok (.iload 4, 2) := by decide +kernel
theorem dL_law_952 : decode cL_law 952 = .ok (.iconst 1, 1) := by decide +kernel
theorem dL_law_953 : decode cL_law 953 = .ok (.iadd, 1) := by decide +kernel
theorem dL_law_954 : decode cL_law 954 = .ok (.iaload, 1) := by decide +kernel
theorem dL_law_955 : decode cL_law 955 = .ok (.invokevirtual 138, 3) := by decide +kernel
theorem dL_law_958 : decode cL_law 958 = .ok (.aload_n 2, 1) := by decide +kernel
theorem dL_law_959 : decode cL_law 959 = .ok (.aload_n 0, 1) := by decide +kernel
theorem dL_law_960 : decode cL_law 960 = .ok (.iload 4, 2) := by decide +kernel
theorem dL_law_962 : decode cL_law 962 = .ok (.iconst 1, 1) := by decide +kernel
theorem dL_law_963 : decode cL_law 963 = .ok (.iadd, 1) := by decide +kernel
theorem dL_law_964 : decode cL_law 964 = .ok (.iaload, 1) := by decide +kernel
theorem dL_law_965 : decode cL_law 965 = .ok (.invokevirtual 141, 3) := by decide +kernel
theorem dL_law_968 : decode cL_law 968 = .ok (.if_icmp .eq 372, 3) := by decide +kernel
theorem dL_law_971 : decode cL_law 971 = .ok (.iconst 0, 1) := by decide +kernel
theorem dL_law_972 : decode cL_law 972 = .ok (.ireturn, 1) := by decide +kernel
theorem dL_law_973 : decode cL_law 973 = .ok (.aload_n 1, 1) := by decide +kernel
theorem dL_law_974 : decode cL_law 974 = .ok (.invokevirtual 142, 3) := by decide +kernel
theorem dL_law_977 : decode cL_law 977 = .ok (.aload_n 2, 1) := by decide +kernel
theorem dL_law_978 : decode cL_law 978 = .ok (.invokevirtual 145, 3) := by decide +kernel
theorem dL_law_981 : decode cL_law 981 = .ok (.if_icmp .eq 359, 3) := by decide +kernel
theorem dL_law_984 : decode cL_law 984 = .ok (.iconst 0, 1) := by decide +kernel
theorem dL_law_985 : decode cL_law 985 = .ok (.ireturn, 1) := by decide +kernel
theorem dL_law_986 : decode cL_law 986 = .ok (.aload_n 1, 1) := by decide +kernel
theorem dL_law_987 : decode cL_law 987 = .ok (.aload_n 0, 1) := by decide +kernel
theorem dL_law_988 : decode cL_law 988 = .ok (.iload 4, 2) := by decide +kernel
theorem dL_law_990 : decode cL_law 990 = .ok (.iconst 1, 1) := by decide +kernel
theorem dL_law_991 : decode cL_law 991 = .ok (.iadd, 1) := by decide +kernel
theorem dL_law_992 : decode cL_law 992 = .ok (.iaload, 1) := by decide +kernel
theorem dL_law_993 : decode cL_law 993 = .ok (.aload_n 0, 1) := by decide +kernel
theorem dL_law_994 : decode cL_law 994 = .ok (.iload 4, 2) := by decide +kernel
theorem dL_law_996 : decode cL_law 996 = .ok (.iconst 2, 1) := by decide +kernel
theorem dL_law_997 : decode cL_law 997 = .ok (.iadd, 1) := by decide +kernel
theorem dL_law_998 : decode cL_law 998 = .ok (.iaload, 1) := by decide +kernel
theorem dL_law_999 : decode cL_law 999 = .ok (.invokevirtual 146, 3) := by decide +kernel
theorem dL_law_1002 : decode cL_law 1002 = .ok (.aload_n 2, 1) := by decide +kernel
theorem dL_law_1003 : decode cL_law 1003 = .ok (.aload_n 0, 1) := by decide +kernel
theorem dL_law_1004 : decode cL_law 1004 = .ok (.iload 4, 2) := by decide +kernel
theorem dL_law_1006 : decode cL_law 1006 = .ok (.iconst 1, 1) := by decide +kernel
theorem dL_law_1007 : decode cL_law 1007 = .ok (.iadd, 1) := by decide +kernel
theorem dL_law_1008 : decode cL_law 1008 = .ok (.iaload, 1) := by decide +kernel
theorem dL_law_1009 : decode cL_law 1009 = .ok (.aload_n 0, 1) := by decide +kernel
theorem dL_law_1010 : decode cL_law 1010 = .ok (.iload 4, 2) := by decide +kernel
theorem dL_law_1012 : decode cL_law 1012 = .ok (.iconst 2, 1) := by decide +kernel
theorem dL_law_1013 : decode cL_law 1013 = .ok (.iadd, 1) := by decide +kernel
theorem dL_law_1014 : decode cL_law 1014 = .ok (.iaload, 1) := by decide +kernel
theorem dL_law_1015 : decode cL_law 1015 = .ok (.invokevirtual 149, 3) := by decide +kernel
theorem dL_law_1018 : decode cL_law 1018 = .ok (.if_icmp .eq 322, 3) := by decide +kernel
theorem dL_law_1021 : decode cL_law 1021 = .ok (.iconst 0, 1) := by decide +kernel
theorem dL_law_1022 : decode cL_law 1022 = .ok (.ireturn, 1) := by decide +kernel
theorem dL_law_1023 : decode cL_law 1023 = .ok (.aload_n 1, 1) := by decide +kernel
theorem dL_law_1024 : decode cL_law 1024 = .ok (.invokevirtual 150, 3) := by decide +kernel
theorem dL_law_1027 : decode cL_law 1027 = .ok (.aload_n 2, 1) := by decide +kernel
theorem dL_law_1028 : decode cL_law 1028 = .ok (.invokevirtual 153, 3) := by decide +kernel
theorem dL_law_1031 : decode cL_law 1031 = .ok (.if_icmp .eq 309, 3) := by decide +kernel
theorem dL_law_1034 : decode cL_law 1034 = .ok (.iconst 0, 1) := by decide +kernel
theorem dL_law_1035 : decode cL_law 1035 = .ok (.ireturn, 1) := by decide +kernel
theorem dL_law_1036 : decode cL_law 1036 = .ok (.aload_n 1, 1) := by decide +kernel
theorem dL_law_1037 : decode cL_law 1037 = .ok (.invokevirtual 154, 3) := by decide +kernel
theorem dL_law_1040 : decode cL_law 1040 = .ok (.aload_n 2, 1) := by decide +kernel
theorem dL_law_1041 : decode cL_law 1041 = .ok (.invokevirtual 157, 3) := by decide +kernel
theorem dL_law_1044 : decode cL_law 1044 = .ok (.if_icmp .eq 296, 3) := by decide +kernel
theorem dL_law_1047 : decode cL_law 1047 = .ok (.iconst 0, 1) := by decide +kernel
theorem dL_law_1048 : decode cL_law 1048 = .ok (.ireturn, 1) := by decide +kernel
theorem dL_law_1049 : decode cL_law 1049 = .ok (.aload_n 1, 1) := by decide +kernel
theorem dL_law_1050 : decode cL_law 1050 = .ok (.invokevirtual 158, 3) := by decide +kernel
theorem dL_law_1053 : decode cL_law 1053 = .ok (.aload_n 2, 1) := by decide +kernel
theorem dL_law_1054 : decode cL_law 1054 = .ok (.invokevirtual 161, 3) := by decide +kernel
theorem dL_law_1057 : decode cL_law 1057 = .ok (.if_icmp .eq 283, 3) := by decide +kernel
theorem dL_law_1060 : decode cL_law 1060 = .ok (.iconst 0, 1) := by decide +kernel
theorem dL_law_1061 : decode cL_law 1061 = .ok (.ireturn, 1) := by decide +kernel
theorem dL_law_1062 : decode cL_law 1062 = .ok (.aload_n 1, 1) := by decide +kernel
theorem dL_law_1063 : decode cL_law 1063 = .ok (.aload_n 0, 1) := by decide +kernel
theorem dL_law_1064 : decode cL_law 1064 = .ok (.iload 4, 2) := by decide +kernel
theorem dL_law_1066 : decode cL_law 1066 = .ok (.iconst 1, 1) := by decide +kernel
theorem dL_law_1067 : decode cL_law 1067 = .ok (.iadd, 1) := by decide +kernel
theorem dL_law_1068 : decode cL_law 1068 = .ok (.iaload, 1) := by decide +kernel
theorem dL_law_1069 : decode cL_law 1069 = .ok (.aload_n 0, 1) := by decide +kernel
theorem dL_law_1070 : decode cL_law 1070 = .ok (.iload 4, 2) := by decide +kernel
theorem dL_law_1072 : decode cL_law 1072 = .ok (.iconst 2, 1) := by decide +kernel
theorem dL_law_1073 : decode cL_law 1073 = .ok (.iadd, 1) := by decide +kernel
theorem dL_law_1074 : decode cL_law 1074 = .ok (.iaload, 1) := by decide +kernel
theorem dL_law_1075 : decode cL_law 1075 = .ok (.invokevirtual 162, 3) := by decide +kernel
theorem dL_law_1078 : decode cL_law 1078 = .ok (.aload_n 2, 1) := by decide +kernel
theorem dL_law_1079 : decode cL_law 1079 = .ok (.aload_n 0, 1) := by decide +kernel
theorem dL_law_1080 : decode cL_law 1080 = .ok (.iload 4, 2) := by decide +kernel
theorem dL_law_1082 : decode cL_law 1082 = .ok (.iconst 1, 1) := by decide +kernel
theorem dL_law_1083 : decode cL_law 1083 = .ok (.iadd, 1) := by decide +kernel
theorem dL_law_1084 : decode cL_law 1084 = .ok (.iaload, 1) := by decide +kernel
theorem dL_law_1085 : decode cL_law 1085 = .ok (.aload_n 0, 1) := by decide +kernel
theorem dL_law_1086 : decode cL_law 1086 = .ok (.iload 4, 2) := by decide +kernel
theorem dL_law_1088 : decode cL_law 1088 = .ok (.iconst 2, 1) := by decide +kernel
theorem dL_law_1089 : decode cL_law 1089 = .ok (.iadd, 1) := by decide +kernel
theorem dL_law_1090 : decode cL_law 1090 = .ok (.iaload, 1) := by decide +kernel
theorem dL_law_1091 : decode cL_law 1091 = .ok (.invokevirtual 165, 3) := by decide +kernel
theorem dL_law_1094 : decode cL_law 1094 = .ok (.if_icmp .eq 246, 3) := by decide +kernel
theorem dL_law_1097 : decode cL_law 1097 = .ok (.iconst 0, 1) := by decide +kernel
theorem dL_law_1098 : decode cL_law 1098 = .ok (.ireturn, 1) := by decide +kernel
theorem dL_law_1099 : decode cL_law 1099 = .ok (.aload_n 1, 1) := by decide +kernel
theorem dL_law_1100 : decode cL_law 1100 = .ok (.aload_n 0, 1) := by decide +kernel
theorem dL_law_1101 : decode cL_law 1101 = .ok (.iload 4, 2) := by decide +kernel
theorem dL_law_1103 : decode cL_law 1103 = .ok (.iconst 1, 1) := by decide +kernel
theorem dL_law_1104 : decode cL_law 1104 = .ok (.iadd, 1) := by decide +kernel
theorem dL_law_1105 : decode cL_law 1105 = .ok (.iaload, 1) := by decide +kernel
theorem dL_law_1106 : decode cL_law 1106 = .ok (.aload_n 0, 1) := by decide +kernel
theorem dL_law_1107 : decode cL_law 1107 = .ok (.iload 4, 2) := by decide +kernel
theorem dL_law_1109 : decode cL_law 1109 = .ok (.iconst 2, 1) := by decide +kernel
theorem dL_law_1110 : decode cL_law 1110 = .ok (.iadd, 1) := by decide +kernel
theorem dL_law_1111 : decode cL_law 1111 = .ok (.iaload, 1) := by decide +kernel
theorem dL_law_1112 : decode cL_law 1112 = .ok (.aload_n 0, 1) := by decide +kernel
theorem dL_law_1113 : decode cL_law 1113 = .ok (.iload 4, 2) := by decide +kernel
theorem dL_law_1115 : decode cL_law 1115 = .ok (.iconst 3, 1) := by decide +kernel
theorem dL_law_1116 : decode cL_law 1116 = .ok (.iadd, 1) := by decide +kernel
theorem dL_law_1117 : decode cL_law 1117 = .ok (.iaload, 1) := by decide +kernel
theorem dL_law_1118 : decode cL_law 1118 = .ok (.invokevirtual 166, 3) := by decide +kernel
theorem dL_law_1121 : decode cL_law 1121 = .ok (.aload_n 2, 1) := by decide +kernel
theorem dL_law_1122 : decode cL_law 1122 = .ok (.aload_n 0, 1) := by decide +kernel
theorem dL_law_1123 : decode cL_law 1123 = .ok (.iload 4, 2) := by decide +kernel
theorem dL_law_1125 : decode cL_law 1125 = .ok (.iconst 1, 1) := by decide +kernel
theorem dL_law_1126 : decode cL_law 1126 = .ok (.iadd, 1) := by decide +kernel
theorem dL_law_1127 : decode cL_law 1127 = .ok (.iaload, 1) := by decide +kernel
theorem dL_law_1128 : decode cL_law 1128 = .ok (.aload_n 0, 1) := by decide +kernel
theorem dL_law_1129 : decode cL_law 1129 = .ok (.iload 4, 2) := by decide +kernel
theorem dL_law_1131 : decode cL_law 1131 = .ok (.iconst 2, 1) := by decide +kernel
theorem dL_law_1132 : decode cL_law 1132 = .ok (.iadd, 1) := by decide +kernel
theorem dL_law_1133 : decode cL_law 1133 = .ok (.iaload, 1) := by decide +kernel
theorem dL_law_1134 : decode cL_law 1134 = .ok (.aload_n 0, 1) := by decide +kernel
theorem dL_law_1135 : decode cL_law 1135 = .ok (.iload 4, 2) := by decide +kernel
theorem dL_law_1137 : decode cL_law 1137 = .ok (.iconst 3, 1) := by decide +kernel
theorem dL_law_1138 : decode cL_law 1138 = .ok (.iadd, 1) := by decide +kernel
theorem dL_law_1139 : decode cL_law 1139 = .ok (.iaload, 1) := by decide +kernel
theorem dL_law_1140 : decode cL_law 1140 = .ok (.invokevirtual 170, 3) := by decide +kernel
theorem dL_law_1143 : decode cL_law 1143 = .ok (.if_icmp .eq 197, 3) := by decide +kernel
theorem dL_law_1146 : decode cL_law 1146 = .ok (.iconst 0, 1) := by decide +kernel
theorem dL_law_1147 : decode cL_law 1147 = .ok (.ireturn, 1) := by decide +kernel
theorem dL_law_1148 : decode cL_law 1148 = .ok (.aload_n 1, 1) := by decide +kernel
theorem dL_law_1149 : decode cL_law 1149 = .ok (.aload_n 0, 1) := by decide +kernel
theorem dL_law_1150 : decode cL_law 1150 = .ok (.iload 4, 2) := by decide +kernel
theorem dL_law_1152 : decode cL_law 1152 = .ok (.iconst 1, 1) := by decide +kernel
theorem dL_law_1153 : decode cL_law 1153 = .ok (.iadd, 1) := by decide +kernel
theorem dL_law_1154 : decode cL_law 1154 = .ok (.iaload, 1) := by decide +kernel
theorem dL_law_1155 : decode cL_law 1155 = .ok (.invokevirtual 171, 3) := by decide +kernel
theorem dL_law_1158 : decode cL_law 1158 = .ok (.aload_n 2, 1) := by decide +kernel
theorem dL_law_1159 : decode cL_law 1159 = .ok (.aload_n 0, 1) := by decide +kernel
theorem dL_law_1160 : decode cL_law 1160 = .ok (.iload 4, 2) := by decide +kernel
theorem dL_law_1162 : decode cL_law 1162 = .ok (.iconst 1, 1) := by decide +kernel
theorem dL_law_1163 : decode cL_law 1163 = .ok (.iadd, 1) := by decide +kernel
theorem dL_law_1164 : decode cL_law 1164 = .ok (.iaload, 1) := by decide +kernel
theorem dL_law_1165 : decode cL_law 1165 = .ok (.invokevirtual 174, 3) := by decide +kernel
theorem dL_law_1168 : decode cL_law 1168 = .ok (.if_icmp .eq 172, 3) := by decide +kernel
theorem dL_law_1171 : decode cL_law 1171 = .ok (.iconst 0, 1) := by decide +kernel
theorem dL_law_1172 : decode cL_law 1172 = .ok (.ireturn, 1) := by decide +kernel
theorem dL_law_1173 : decode cL_law 1173 = .ok (.aload_n 1, 1) := by decide +kernel
theorem dL_law_1174 : decode cL_law 1174 = .ok (.aload_n 0, 1) := by decide +kernel
theorem dL_law_1175 : decode cL_law 1175 = .ok (.iload 4, 2) := by decide +kernel
theorem dL_law_1177 : decode cL_law 1177 = .ok (.iconst 1, 1) := by decide +kernel
theorem dL_law_1178 : decode cL_law 1178 = .ok (.iadd, 1) := by decide +kernel
theorem dL_law_1179 : decode cL_law 1179 = .ok (.iaload, 1) := by decide +kernel
theorem dL_law_1180 : decode cL_law 1180 = .ok (.aload_n 0, 1) := by decide +kernel
theorem dL_law_1181 : decode cL_law 1181 = .ok (.iload 4, 2) := by decide +kernel
theorem dL_law_1183 : decode cL_law 1183 = .ok (.iconst 2, 1) := by decide +kernel
theorem dL_law_1184 : decode cL_law 1184 = .ok (.iadd, 1) := by decide +kernel
theorem dL_law_1185 : decode cL_law 1185 = .ok (.iaload, 1) := by decide +kernel
theorem dL_law_1186 : decode cL_law 1186 = .ok (.invokevirtual 175, 3) := by decide +kernel
theorem dL_law_1189 : decode cL_law 1189 = .ok (.aload_n 2, 1) := by decide +kernel
theorem dL_law_1190 : decode cL_law 1190 = .ok (.aload_n 0, 1) := by decide +kernel
theorem dL_law_1191 : decode cL_law 1191 = .ok (.iload 4, 2) := by decide +kernel
theorem dL_law_1193 : decode cL_law 1193 = .ok (.iconst 1, 1) := by decide +kernel
theorem dL_law_1194 : decode cL_law 1194 = .ok (.iadd, 1) := by decide +kernel
theorem dL_law_1195 : decode cL_law 1195 = .ok (.iaload, 1) := by decide +kernel
theorem dL_law_1196 : decode cL_law 1196 = .ok (.aload_n 0, 1) := by decide +kernel
theorem dL_law_1197 : decode cL_law 1197 = .ok (.iload 4, 2) := by decide +kernel
theorem dL_law_1199 : decode cL_law 1199 = .ok (.iconst 2, 1) := by decide +kernel
theorem dL_law_1200 : decode cL_law 1200 = .ok (.iadd, 1) := by decide +kernel
theorem dL_law_1201 : decode cL_law 1201 = .ok (.iaload, 1) := by decide +kernel
theorem dL_law_1202 : decode cL_law 1202 = .ok (.invokevirtual 178, 3) := by decide +kernel
theorem dL_law_1205 : decode cL_law 1205 = .ok (.if_icmp .eq 135, 3) := by decide +kernel
theorem dL_law_1208 : decode cL_law 1208 = .ok (.iconst 0, 1) := by decide +kernel
theorem dL_law_1209 : decode cL_law 1209 = .ok (.ireturn, 1) := by decide +kernel
theorem dL_law_1210 : decode cL_law 1210 = .ok (.aload_n 1, 1) := by decide +kernel
theorem dL_law_1211 : decode cL_law 1211 = .ok (.aload_n 0, 1) := by decide +kernel
theorem dL_law_1212 : decode cL_law 1212 = .ok (.iload 4, 2) := by decide +kernel
theorem dL_law_1214 : decode cL_law 1214 = .ok (.iconst 1, 1) := by decide +kernel
theorem dL_law_1215 : decode cL_law 1215 = .ok (.iadd, 1) := by decide +kernel
theorem dL_law_1216 : decode cL_law 1216 = .ok (.iaload, 1) := by decide +kernel
theorem dL_law_1217 : decode cL_law 1217 = .ok (.invokevirtual 179, 3) := by decide +kernel
theorem dL_law_1220 : decode cL_law 1220 = .ok (.aload_n 2, 1) := by decide +kernel
theorem dL_law_1221 : decode cL_law 1221 = .ok (.aload_n 0, 1) := by decide +kernel
theorem dL_law_1222 : decode cL_law 1222 = .ok (.iload 4, 2) := by decide +kernel
theorem dL_law_1224 : decode cL_law 1224 = .ok (.iconst 1, 1) := by decide +kernel
theorem dL_law_1225 : decode cL_law 1225 = .ok (.iadd, 1) := by decide +kernel
theorem dL_law_1226 : decode cL_law 1226 = .ok (.iaload, 1) := by decide +kernel
theorem dL_law_1227 : decode cL_law 1227 = .ok (.invokevirtual 182, 3) := by decide +kernel
theorem dL_law_1230 : decode cL_law 1230 = .ok (.if_icmp .eq 110, 3) := by decide +kernel
theorem dL_law_1233 : decode cL_law 1233 = .ok (.iconst 0, 1) := by decide +kernel
theorem dL_law_1234 : decode cL_law 1234 = .ok (.ireturn, 1) := by decide +kernel
theorem dL_law_1235 : decode cL_law 1235 = .ok (.aload_n 1, 1) := by decide +kernel
theorem dL_law_1236 : decode cL_law 1236 = .ok (.aload_n 0, 1) := by decide +kernel
theorem dL_law_1237 : decode cL_law 1237 = .ok (.iload 4, 2) := by decide +kernel
theorem dL_law_1239 : decode cL_law 1239 = .ok (.iconst 1, 1) := by decide +kernel
theorem dL_law_1240 : decode cL_law 1240 = .ok (.iadd, 1) := by decide +kernel
theorem dL_law_1241 : decode cL_law 1241 = .ok (.iaload, 1) := by decide +kernel
theorem dL_law_1242 : decode cL_law 1242 = .ok (.invokevirtual 183, 3) := by decide +kernel
theorem dL_law_1245 : decode cL_law 1245 = .ok (.aload_n 2, 1) := by decide +kernel
theorem dL_law_1246 : decode cL_law 1246 = .ok (.aload_n 0, 1) := by decide +kernel
theorem dL_law_1247 : decode cL_law 1247 = .ok (.iload 4, 2) := by decide +kernel
theorem dL_law_1249 : decode cL_law 1249 = .ok (.iconst 1, 1) := by decide +kernel
theorem dL_law_1250 : decode cL_law 1250 = .ok (.iadd, 1) := by decide +kernel
theorem dL_law_1251 : decode cL_law 1251 = .ok (.iaload, 1) := by decide +kernel
theorem dL_law_1252 : decode cL_law 1252 = .ok (.invokevirtual 186, 3) := by decide +kernel
theorem dL_law_1255 : decode cL_law 1255 = .ok (.if_icmp .eq 85, 3) := by decide +kernel
theorem dL_law_1258 : decode cL_law 1258 = .ok (.iconst 0, 1) := by decide +kernel
theorem dL_law_1259 : decode cL_law 1259 = .ok (.ireturn, 1) := by decide +kernel
theorem dL_law_1260 : decode cL_law 1260 = .ok (.aload_n 1, 1) := by decide +kernel
theorem dL_law_1261 : decode cL_law 1261 = .ok (.aload_n 0, 1) := by decide +kernel
theorem dL_law_1262 : decode cL_law 1262 = .ok (.iload 4, 2) := by decide +kernel
theorem dL_law_1264 : decode cL_law 1264 = .ok (.iconst 1, 1) := by decide +kernel
theorem dL_law_1265 : decode cL_law 1265 = .ok (.iadd, 1) := by decide +kernel
theorem dL_law_1266 : decode cL_law 1266 = .ok (.iaload, 1) := by decide +kernel
theorem dL_law_1267 : decode cL_law 1267 = .ok (.invokevirtual 187, 3) := by decide +kernel
theorem dL_law_1270 : decode cL_law 1270 = .ok (.aload_n 2, 1) := by decide +kernel
theorem dL_law_1271 : decode cL_law 1271 = .ok (.aload_n 0, 1) := by decide +kernel
theorem dL_law_1272 : decode cL_law 1272 = .ok (.iload 4, 2) := by decide +kernel
theorem dL_law_1274 : decode cL_law 1274 = .ok (.iconst 1, 1) := by decide +kernel
theorem dL_law_1275 : decode cL_law 1275 = .ok (.iadd, 1) := by decide +kernel
theorem dL_law_1276 : decode cL_law 1276 = .ok (.iaload, 1) := by decide +kernel
theorem dL_law_1277 : decode cL_law 1277 = .ok (.invokevirtual 190, 3) := by decide +kernel
theorem dL_law_1280 : decode cL_law 1280 = .ok (.if_icmp .eq 60, 3) := by decide +kernel
theorem dL_law_1283 : decode cL_law 1283 = .ok (.iconst 0, 1) := by decide +kernel
theorem dL_law_1284 : decode cL_law 1284 = .ok (.ireturn, 1) := by decide +kernel
theorem dL_law_1285 : decode cL_law 1285 = .ok (.aload_n 1, 1) := by decide +kernel
theorem dL_law_1286 : decode cL_law 1286 = .ok (.aload_n 0, 1) := by decide +kernel
theorem dL_law_1287 : decode cL_law 1287 = .ok (.iload 4, 2) := by decide +kernel
theorem dL_law_1289 : decode cL_law 1289 = .ok (.iconst 1, 1) := by decide +kernel
theorem dL_law_1290 : decode cL_law 1290 = .ok (.iadd, 1) := by decide +kernel
theorem dL_law_1291 : decode cL_law 1291 = .ok (.iaload, 1) := by decide +kernel
theorem dL_law_1292 : decode cL_law 1292 = .ok (.aload_n 3, 1) := by decide +kernel
theorem dL_law_1293 : decode cL_law 1293 = .ok (.invokestatic 191, 3) := by decide +kernel
theorem dL_law_1296 : decode cL_law 1296 = .ok (.istore 5, 2) := by decide +kernel
theorem dL_law_1298 : decode cL_law 1298 = .ok (.aload_n 2, 1) := by decide +kernel
theorem dL_law_1299 : decode cL_law 1299 = .ok (.aload_n 0, 1) := by decide +kernel
theorem dL_law_1300 : decode cL_law 1300 = .ok (.iload 4, 2) := by decide +kernel
theorem dL_law_1302 : decode cL_law 1302 = .ok (.iconst 1, 1) := by decide +kernel
theorem dL_law_1303 : decode cL_law 1303 = .ok (.iadd, 1) := by decide +kernel
theorem dL_law_1304 : decode cL_law 1304 = .ok (.iaload, 1) := by decide +kernel
theorem dL_law_1305 : decode cL_law 1305 = .ok (.invokevirtual 194, 3) := by decide +kernel
theorem dL_law_1308 : decode cL_law 1308 = .ok (.lstore 6, 2) := by decide +kernel
theorem dL_law_1310 : decode cL_law 1310 = .ok (.aload_n 2, 1) := by decide +kernel
theorem dL_law_1311 : decode cL_law 1311 = .ok (.invokevirtual 55, 3) := by decide +kernel
theorem dL_law_1314 : decode cL_law 1314 = .ok (.iload 5, 2) := by decide +kernel
theorem dL_law_1316 : decode cL_law 1316 = .ok (.if_icmp .eq 5, 3) := by decide +kernel
theorem dL_law_1319 : decode cL_law 1319 = .ok (.iconst 0, 1) := by decide +kernel
theorem dL_law_1320 : decode cL_law 1320 = .ok (.ireturn, 1) := by decide +kernel
theorem dL_law_1321 : decode cL_law 1321 = .ok (.iload 5, 2) := by decide +kernel
theorem dL_law_1323 : decode cL_law 1323 = .ok (.ifCond .ne 14, 3) := by decide +kernel
theorem dL_law_1326 : decode cL_law 1326 = .ok (.aload_n 3, 1) := by decide +kernel
theorem dL_law_1327 : decode cL_law 1327 = .ok (.iconst 0, 1) := by decide +kernel
theorem dL_law_1328 : decode cL_law 1328 = .ok (.laload, 1) := by decide +kernel
theorem dL_law_1329 : decode cL_law 1329 = .ok (.lload 6, 2) := by decide +kernel
theorem dL_law_1331 : decode cL_law 1331 = .ok (.lcmp, 1) := by decide +kernel
theorem dL_law_1332 : decode cL_law 1332 = .ok (.ifCond .eq 5, 3) := by decide +kernel
theorem dL_law_1335 : decode cL_law 1335 = .ok (.iconst 0, 1) := by decide +kernel
theorem dL_law_1336 : decode cL_law 1336 = .ok (.ireturn, 1) := by decide +kernel
theorem dL_law_1337 : decode cL_law 1337 = .ok (.goto 3, 3) := by decide +kernel
theorem dL_law_1340 : decode cL_law 1340 = .ok (.iinc 4 5, 3) := by decide +kernel
theorem dL_law_1343 : decode cL_law 1343 = .ok (.goto (-1320), 3) := by decide +kernel
theorem dL_law_1346 : decode cL_law 1346 = .ok (.iconst 1, 1) := by decide +kernel
theorem dL_law_1347 : decode cL_law 1347 = .ok (.ireturn, 1) := by decide +kernel
