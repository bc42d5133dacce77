theorem d_X_init_0 : decode mb_X_init 0 = .ok (.aload_n 0, 1) := by decide +kernel
theorem d_X_init_1 : decode mb_X_init 1 = .ok (.invokespecial 1, 3) := by decide +kernel
theorem d_X_init_4 : decode mb_X_init 4 = .ok (.aload_n 0, 1) := by decide +kernel
theorem d_X_init_5 : decode mb_X_init 5 = .ok (.iconst 1, 1) := by decide +kernel
theorem d_X_init_6 : decode mb_X_init 6 = .ok (.bipush 16, 2) := by decide +kernel
theorem d_X_init_8 : decode mb_X_init 8 = .ok (.iload_n 1, 1) := by decide +kernel
theorem d_X_init_9 : decode mb_X_init 9 = .ok (.invokestatic 9, 3) := by decide +kernel
theorem d_X_init_12 : decode mb_X_init 12 = .ok (.invokestatic 15, 3) := by decide +kernel
theorem d_X_init_15 : decode mb_X_init 15 = .ok (.putfield 18, 3) := by decide +kernel
theorem d_X_init_18 : decode mb_X_init 18 = .ok (.aload_n 0, 1) := by decide +kernel
theorem d_X_init_19 : decode mb_X_init 19 = .ok (.bipush 40, 2) := by decide +kernel
theorem d_X_init_21 : decode mb_X_init 21 = .ok (.anewarray 22, 3) := by decide +kernel
theorem d_X_init_24 : decode mb_X_init 24 = .ok (.putfield 24, 3) := by decide +kernel
theorem d_X_init_27 : decode mb_X_init 27 = .ok (.iconst 0, 1) := by decide +kernel
theorem d_X_init_28 : decode mb_X_init 28 = .ok (.istore_n 2, 1) := by decide +kernel
theorem d_X_init_29 : decode mb_X_init 29 = .ok (.iload_n 2, 1) := by decide +kernel
theorem d_X_init_30 : decode mb_X_init 30 = .ok (.bipush 40, 2) := by decide +kernel
theorem d_X_init_32 : decode mb_X_init 32 = .ok (.if_icmp .ge 22, 3) := by decide +kernel
theorem d_X_init_35 : decode mb_X_init 35 = .ok (.aload_n 0, 1) := by decide +kernel
theorem d_X_init_36 : decode mb_X_init 36 = .ok (.getfield 24, 3) := by decide +kernel
theorem d_X_init_39 : decode mb_X_init 39 = .ok (.iload_n 2, 1) := by decide +kernel
theorem d_X_init_40 : decode mb_X_init 40 = .ok (.new 22, 3) := by decide +kernel
theorem d_X_init_43 : decode mb_X_init 43 = .ok (.dup, 1) := by decide +kernel
theorem d_X_init_44 : decode mb_X_init 44 = .ok (.invokespecial 28, 3) := by decide +kernel
theorem d_X_init_47 : decode mb_X_init 47 = .ok (.aastore, 1) := by decide +kernel
theorem d_X_init_48 : decode mb_X_init 48 = .ok (.iinc 2 1, 3) := by decide +kernel
theorem d_X_init_51 : decode mb_X_init 51 = .ok (.goto (-22), 3) := by decide +kernel
theorem d_X_init_54 : decode mb_X_init 54 = .ok (.aload_n 0, 1) := by decide +kernel
theorem d_X_init_55 : decode mb_X_init 55 = .ok (.bipush 12, 2) := by decide +kernel
theorem d_X_init_57 : decode mb_X_init 57 = .ok (.anewarray 29, 3) := by decide +kernel
theorem d_X_init_60 : decode mb_X_init 60 = .ok (.putfield 31, 3) := by decide +kernel
theorem d_X_init_63 : decode mb_X_init 63 = .ok (.iconst 0, 1) := by decide +kernel
theorem d_X_init_64 : decode mb_X_init 64 = .ok (.istore_n 2, 1) := by decide +kernel
theorem d_X_init_65 : decode mb_X_init 65 = .ok (.iload_n 2, 1) := by decide +kernel
theorem d_X_init_66 : decode mb_X_init 66 = .ok (.bipush 12, 2) := by decide +kernel
theorem d_X_init_68 : decode mb_X_init 68 = .ok (.if_icmp .ge 22, 3) := by decide +kernel
theorem d_X_init_71 : decode mb_X_init 71 = .ok (.aload_n 0, 1) := by decide +kernel
theorem d_X_init_72 : decode mb_X_init 72 = .ok (.getfield 31, 3) := by decide +kernel
theorem d_X_init_75 : decode mb_X_init 75 = .ok (.iload_n 2, 1) := by decide +kernel
theorem d_X_init_76 : decode mb_X_init 76 = .ok (.new 29, 3) := by decide +kernel
theorem d_X_init_79 : decode mb_X_init 79 = .ok (.dup, 1) := by decide +kernel
theorem d_X_init_80 : decode mb_X_init 80 = .ok (.invokespecial 35, 3) := by decide +kernel
theorem d_X_init_83 : decode mb_X_init 83 = .ok (.aastore, 1) := by decide +kernel
theorem d_X_init_84 : decode mb_X_init 84 = .ok (.iinc 2 1, 3) := by decide +kernel
theorem d_X_init_87 : decode mb_X_init 87 = .ok (.goto (-22), 3) := by decide +kernel
theorem d_X_init_90 : decode mb_X_init 90 = .ok (.aload_n 0, 1) := by decide +kernel
theorem d_X_init_91 : decode mb_X_init 91 = .ok (.bipush 40, 2) := by decide +kernel
theorem d_X_init_93 : decode mb_X_init 93 = .ok (.anewarray 36, 3) := by decide +kernel
theorem d_X_init_96 : decode mb_X_init 96 = .ok (.putfield 38, 3) := by decide +kernel
theorem d_X_init_99 : decode mb_X_init 99 = .ok (.iconst 0, 1) := by decide +kernel
theorem d_X_init_100 : decode mb_X_init 100 = .ok (.istore_n 2, 1) := by decide +kernel
theorem d_X_init_101 : decode mb_X_init 101 = .ok (.iload_n 2, 1) := by decide +kernel
theorem d_X_init_102 : decode mb_X_init 102 = .ok (.bipush 40, 2) := by decide +kernel
theorem d_X_init_104 : decode mb_X_init 104 = .ok (.if_icmp .ge 22, 3) := by decide +kernel
theorem d_X_init_107 : decode mb_X_init 107 = .ok (.aload_n 0, 1) := by decide +kernel
theorem d_X_init_108 : decode mb_X_init 108 = .ok (.getfield 38, 3) := by decide +kernel
theorem d_X_init_111 : decode mb_X_init 111 = .ok (.iload_n 2, 1) := by decide +kernel
theorem d_X_init_112 : decode mb_X_init 112 = .ok (.new 36, 3) := by decide +kernel
theorem d_X_init_115 : decode mb_X_init 115 = .ok (.dup, 1) := by decide +kernel
theorem d_X_init_116 : decode mb_X_init 116 = .ok (.invokespecial 42, 3) := by decide +kernel
theorem d_X_init_119 : decode mb_X_init 119 = .ok (.aastore, 1) := by decide +kernel
theorem d_X_init_120 : decode mb_X_init 120 = .ok (.iinc 2 1, 3) := by decide +kernel
theorem d_X_init_123 : decode mb_X_init 123 = .ok (.goto (-22), 3) := by decide +kernel
theorem d_X_init_126 : decode mb_X_init 126 = .ok (.aload_n 0, 1) := by decide +kernel
theorem d_X_init_127 : decode mb_X_init 127 = .ok (.new 43, 3) := by decide +kernel
theorem d_X_init_130 : decode mb_X_init 130 = .ok (.dup, 1) := by decide +kernel
theorem d_X_init_131 : decode mb_X_init 131 = .ok (.invokespecial 45, 3) := by decide +kernel
theorem d_X_init_134 : decode mb_X_init 134 = .ok (.putfield 46, 3) := by decide +kernel
theorem d_X_init_137 : decode mb_X_init 137 = .ok (.aload_n 0, 1) := by decide +kernel
theorem d_X_init_138 : decode mb_X_init 138 = .ok (.new 50, 3) := by decide +kernel
theorem d_X_init_141 : decode mb_X_init 141 = .ok (.dup, 1) := by decide +kernel
theorem d_X_init_142 : decode mb_X_init 142 = .ok (.invokespecial 52, 3) := by decide +kernel
theorem d_X_init_145 : decode mb_X_init 145 = .ok (.putfield 53, 3) := by decide +kernel
theorem d_X_init_148 : decode mb_X_init 148 = .ok (.return_, 1) := by decide +kernel
theorem d_R_init_0 : decode mb_R_init 0 = .ok (.aload_n 0, 1) := by decide +kernel
theorem d_R_init_1 : decode mb_R_init 1 = .ok (.invokespecial 3, 3) := by decide +kernel
theorem d_R_init_4 : decode mb_R_init 4 = .ok (.aload_n 0, 1) := by decide +kernel
theorem d_R_init_5 : decode mb_R_init 5 = .ok (.iconst (-1), 1) := by decide +kernel
theorem d_R_init_6 : decode mb_R_init 6 = .ok (.putfield 9, 3) := by decide +kernel
theorem d_R_init_9 : decode mb_R_init 9 = .ok (.return_, 1) := by decide +kernel
theorem d_A_init_0 : decode mb_A_init 0 = .ok (.aload_n 0, 1) := by decide +kernel
theorem d_A_init_1 : decode mb_A_init 1 = .ok (.invokespecial 1, 3) := by decide +kernel
theorem d_A_init_4 : decode mb_A_init 4 = .ok (.return_, 1) := by decide +kernel
theorem d_T_init_0 : decode mb_T_init 0 = .ok (.aload_n 0, 1) := by decide +kernel
theorem d_T_init_1 : decode mb_T_init 1 = .ok (.invokespecial 1, 3) := by decide +kernel
theorem d_T_init_4 : decode mb_T_init 4 = .ok (.return_, 1) := by decide +kernel
theorem d_N_init_0 : decode mb_N_init 0 = .ok (.aload_n 0, 1) := by decide +kernel
theorem d_N_init_1 : decode mb_N_init 1 = .ok (.invokespecial 3, 3) := by decide +kernel
theorem d_N_init_4 : decode mb_N_init 4 = .ok (.aload_n 0, 1) := by decide +kernel
theorem d_N_init_5 : decode mb_N_init 5 = .ok (.sipush 4920, 3) := by decide +kernel
theorem d_N_init_8 : decode mb_N_init 8 = .ok (.newarray .int, 2) := by decide +kernel
theorem d_N_init_10 : decode mb_N_init 10 = .ok (.putfield 11, 3) := by decide +kernel
theorem d_N_init_13 : decode mb_N_init 13 = .ok (.return_, 1) := by decide +kernel
theorem d_P_init_0 : decode mb_P_init 0 = .ok (.aload_n 0, 1) := by decide +kernel
theorem d_P_init_1 : decode mb_P_init 1 = .ok (.invokespecial 3, 3) := by decide +kernel
theorem d_P_init_4 : decode mb_P_init 4 = .ok (.aload_n 0, 1) := by decide +kernel
theorem d_P_init_5 : decode mb_P_init 5 = .ok (.sipush 780, 3) := by decide +kernel
theorem d_P_init_8 : decode mb_P_init 8 = .ok (.newarray .int, 2) := by decide +kernel
theorem d_P_init_10 : decode mb_P_init 10 = .ok (.putfield 11, 3) := by decide +kernel
theorem d_P_init_13 : decode mb_P_init 13 = .ok (.aload_n 0, 1) := by decide +kernel
theorem d_P_init_14 : decode mb_P_init 14 = .ok (.sipush 780, 3) := by decide +kernel
theorem d_P_init_17 : decode mb_P_init 17 = .ok (.newarray .int, 2) := by decide +kernel
theorem d_P_init_19 : decode mb_P_init 19 = .ok (.putfield 15, 3) := by decide +kernel
theorem d_P_init_22 : decode mb_P_init 22 = .ok (.return_, 1) := by decide +kernel
theorem d_X_kept_0 : decode mb_X_kept 0 = .ok (.aload_n 0, 1) := by decide +kernel
theorem d_X_kept_1 : decode mb_X_kept 1 = .ok (.getfield 46, 3) := by decide +kernel
theorem d_X_kept_4 : decode mb_X_kept 4 = .ok (.getfield 207, 3) := by decide +kernel
theorem d_X_kept_7 : decode mb_X_kept 7 = .ok (.ireturn, 1) := by decide +kernel
theorem d_X_spared_0 : decode mb_X_spared 0 = .ok (.aload_n 0, 1) := by decide +kernel
theorem d_X_spared_1 : decode mb_X_spared 1 = .ok (.getfield 208, 3) := by decide +kernel
theorem d_X_spared_4 : decode mb_X_spared 4 = .ok (.lreturn, 1) := by decide +kernel
theorem d_X_rule_0 : decode mb_X_rule 0 = .ok (.aload_n 0, 1) := by decide +kernel
theorem d_X_rule_1 : decode mb_X_rule 1 = .ok (.iload_n 1, 1) := by decide +kernel
theorem d_X_rule_2 : decode mb_X_rule 2 = .ok (.invokevirtual 57, 3) := by decide +kernel
theorem d_X_rule_5 : decode mb_X_rule 5 = .ok (.aload_n 0, 1) := by decide +kernel
theorem d_X_rule_6 : decode mb_X_rule 6 = .ok (.iload_n 2, 1) := by decide +kernel
theorem d_X_rule_7 : decode mb_X_rule 7 = .ok (.invokevirtual 61, 3) := by decide +kernel
theorem d_X_rule_10 : decode mb_X_rule 10 = .ok (.aload_n 0, 1) := by decide +kernel
theorem d_X_rule_11 : decode mb_X_rule 11 = .ok (.iload_n 3, 1) := by decide +kernel
theorem d_X_rule_12 : decode mb_X_rule 12 = .ok (.invokevirtual 61, 3) := by decide +kernel
theorem d_X_rule_15 : decode mb_X_rule 15 = .ok (.aload_n 0, 1) := by decide +kernel
theorem d_X_rule_16 : decode mb_X_rule 16 = .ok (.iload 4, 2) := by decide +kernel
theorem d_X_rule_18 : decode mb_X_rule 18 = .ok (.invokevirtual 64, 3) := by decide +kernel
theorem d_X_rule_21 : decode mb_X_rule 21 = .ok (.aload_n 0, 1) := by decide +kernel
theorem d_X_rule_22 : decode mb_X_rule 22 = .ok (.lload 5, 2) := by decide +kernel
theorem d_X_rule_24 : decode mb_X_rule 24 = .ok (.invokevirtual 67, 3) := by decide +kernel
theorem d_X_rule_27 : decode mb_X_rule 27 = .ok (.aload_n 0, 1) := by decide +kernel
theorem d_X_rule_28 : decode mb_X_rule 28 = .ok (.getfield 71, 3) := by decide +kernel
theorem d_X_rule_31 : decode mb_X_rule 31 = .ok (.bipush 40, 2) := by decide +kernel
theorem d_X_rule_33 : decode mb_X_rule 33 = .ok (.if_icmp .lt 5, 3) := by decide +kernel
theorem d_X_rule_36 : decode mb_X_rule 36 = .ok (.iconst (-1), 1) := by decide +kernel
theorem d_X_rule_37 : decode mb_X_rule 37 = .ok (.ireturn, 1) := by decide +kernel
theorem d_X_rule_38 : decode mb_X_rule 38 = .ok (.aload_n 0, 1) := by decide +kernel
theorem d_X_rule_39 : decode mb_X_rule 39 = .ok (.getfield 24, 3) := by decide +kernel
theorem d_X_rule_42 : decode mb_X_rule 42 = .ok (.aload_n 0, 1) := by decide +kernel
theorem d_X_rule_43 : decode mb_X_rule 43 = .ok (.getfield 71, 3) := by decide +kernel
theorem d_X_rule_46 : decode mb_X_rule 46 = .ok (.aaload, 1) := by decide +kernel
theorem d_X_rule_47 : decode mb_X_rule 47 = .ok (.iload_n 1, 1) := by decide +kernel
theorem d_X_rule_48 : decode mb_X_rule 48 = .ok (.iload_n 2, 1) := by decide +kernel
theorem d_X_rule_49 : decode mb_X_rule 49 = .ok (.iload_n 3, 1) := by decide +kernel
theorem d_X_rule_50 : decode mb_X_rule 50 = .ok (.iload 4, 2) := by decide +kernel
theorem d_X_rule_52 : decode mb_X_rule 52 = .ok (.lload 5, 2) := by decide +kernel
theorem d_X_rule_54 : decode mb_X_rule 54 = .ok (.invokevirtual 74, 3) := by decide +kernel
theorem d_X_rule_57 : decode mb_X_rule 57 = .ok (.aload_n 0, 1) := by decide +kernel
theorem d_X_rule_58 : decode mb_X_rule 58 = .ok (.getfield 46, 3) := by decide +kernel
theorem d_X_rule_61 : decode mb_X_rule 61 = .ok (.iload_n 1, 1) := by decide +kernel
theorem d_X_rule_62 : decode mb_X_rule 62 = .ok (.invokevirtual 78, 3) := by decide +kernel
theorem d_X_rule_65 : decode mb_X_rule 65 = .ok (.aload_n 0, 1) := by decide +kernel
theorem d_X_rule_66 : decode mb_X_rule 66 = .ok (.dup, 1) := by decide +kernel
theorem d_X_rule_67 : decode mb_X_rule 67 = .ok (.getfield 71, 3) := by decide +kernel
theorem d_X_rule_70 : decode mb_X_rule 70 = .ok (.dup_x1, 1) := by decide +kernel
theorem d_X_rule_71 : decode mb_X_rule 71 = .ok (.iconst 1, 1) := by decide +kernel
theorem d_X_rule_72 : decode mb_X_rule 72 = .ok (.iadd, 1) := by decide +kernel
theorem d_X_rule_73 : decode mb_X_rule 73 = .ok (.putfield 71, 3) := by decide +kernel
theorem d_X_rule_76 : decode mb_X_rule 76 = .ok (.ireturn, 1) := by decide +kernel
theorem d_X_needKind_0 : decode mb_X_needKind 0 = .ok (.iload_n 1, 1) := by decide +kernel
theorem d_X_needKind_1 : decode mb_X_needKind 1 = .ok (.ifCond .lt 9, 3) := by decide +kernel
theorem d_X_needKind_4 : decode mb_X_needKind 4 = .ok (.iload_n 1, 1) := by decide +kernel
theorem d_X_needKind_5 : decode mb_X_needKind 5 = .ok (.bipush 6, 2) := by decide +kernel
theorem d_X_needKind_7 : decode mb_X_needKind 7 = .ok (.if_icmp .lt 13, 3) := by decide +kernel
theorem d_X_needKind_10 : decode mb_X_needKind 10 = .ok (.new 233, 3) := by decide +kernel
theorem d_X_needKind_13 : decode mb_X_needKind 13 = .ok (.dup, 1) := by decide +kernel
theorem d_X_needKind_14 : decode mb_X_needKind 14 = .ok (.ldc 235, 2) := by decide +kernel
theorem d_X_needKind_16 : decode mb_X_needKind 16 = .ok (.invokespecial 237, 3) := by decide +kernel
theorem d_X_needKind_19 : decode mb_X_needKind 19 = .ok (.athrow, 1) := by decide +kernel
theorem d_X_needKind_20 : decode mb_X_needKind 20 = .ok (.return_, 1) := by decide +kernel
theorem d_X_needClassOrNone_0 : decode mb_X_needClassOrNone 0 = .ok (.iload_n 1, 1) := by decide +kernel
theorem d_X_needClassOrNone_1 : decode mb_X_needClassOrNone 1 = .ok (.iconst (-1), 1) := by decide +kernel
theorem d_X_needClassOrNone_2 : decode mb_X_needClassOrNone 2 = .ok (.if_icmp .eq 8, 3) := by decide +kernel
theorem d_X_needClassOrNone_5 : decode mb_X_needClassOrNone 5 = .ok (.aload_n 0, 1) := by decide +kernel
theorem d_X_needClassOrNone_6 : decode mb_X_needClassOrNone 6 = .ok (.iload_n 1, 1) := by decide +kernel
theorem d_X_needClassOrNone_7 : decode mb_X_needClassOrNone 7 = .ok (.invokevirtual 113, 3) := by decide +kernel
theorem d_X_needClassOrNone_10 : decode mb_X_needClassOrNone 10 = .ok (.return_, 1) := by decide +kernel
theorem d_X_needClass_0 : decode mb_X_needClass 0 = .ok (.iload_n 1, 1) := by decide +kernel
theorem d_X_needClass_1 : decode mb_X_needClass 1 = .ok (.ifCond .lt 11, 3) := by decide +kernel
theorem d_X_needClass_4 : decode mb_X_needClass 4 = .ok (.iload_n 1, 1) := by decide +kernel
theorem d_X_needClass_5 : decode mb_X_needClass 5 = .ok (.aload_n 0, 1) := by decide +kernel
theorem d_X_needClass_6 : decode mb_X_needClass 6 = .ok (.getfield 18, 3) := by decide +kernel
theorem d_X_needClass_9 : decode mb_X_needClass 9 = .ok (.if_icmp .lt 13, 3) := by decide +kernel
theorem d_X_needClass_12 : decode mb_X_needClass 12 = .ok (.new 233, 3) := by decide +kernel
theorem d_X_needClass_15 : decode mb_X_needClass 15 = .ok (.dup, 1) := by decide +kernel
theorem d_X_needClass_16 : decode mb_X_needClass 16 = .ok (.ldc 240, 2) := by decide +kernel
theorem d_X_needClass_18 : decode mb_X_needClass 18 = .ok (.invokespecial 237, 3) := by decide +kernel
theorem d_X_needClass_21 : decode mb_X_needClass 21 = .ok (.athrow, 1) := by decide +kernel
theorem d_X_needClass_22 : decode mb_X_needClass 22 = .ok (.return_, 1) := by decide +kernel
theorem d_X_needLayerOrNone_0 : decode mb_X_needLayerOrNone 0 = .ok (.iload_n 1, 1) := by decide +kernel
theorem d_X_needLayerOrNone_1 : decode mb_X_needLayerOrNone 1 = .ok (.iconst (-1), 1) := by decide +kernel
theorem d_X_needLayerOrNone_2 : decode mb_X_needLayerOrNone 2 = .ok (.if_icmp .eq 8, 3) := by decide +kernel
theorem d_X_needLayerOrNone_5 : decode mb_X_needLayerOrNone 5 = .ok (.aload_n 0, 1) := by decide +kernel
theorem d_X_needLayerOrNone_6 : decode mb_X_needLayerOrNone 6 = .ok (.iload_n 1, 1) := by decide +kernel
theorem d_X_needLayerOrNone_7 : decode mb_X_needLayerOrNone 7 = .ok (.invokevirtual 116, 3) := by decide +kernel
theorem d_X_needLayerOrNone_10 : decode mb_X_needLayerOrNone 10 = .ok (.return_, 1) := by decide +kernel
theorem d_X_needLayer_0 : decode mb_X_needLayer 0 = .ok (.iload_n 1, 1) := by decide +kernel
theorem d_X_needLayer_1 : decode mb_X_needLayer 1 = .ok (.ifCond .lt 9, 3) := by decide +kernel
theorem d_X_needLayer_4 : decode mb_X_needLayer 4 = .ok (.iload_n 1, 1) := by decide +kernel
theorem d_X_needLayer_5 : decode mb_X_needLayer 5 = .ok (.bipush 8, 2) := by decide +kernel
theorem d_X_needLayer_7 : decode mb_X_needLayer 7 = .ok (.if_icmp .lt 13, 3) := by decide +kernel
theorem d_X_needLayer_10 : decode mb_X_needLayer 10 = .ok (.new 233, 3) := by decide +kernel
theorem d_X_needLayer_13 : decode mb_X_needLayer 13 = .ok (.dup, 1) := by decide +kernel
theorem d_X_needLayer_14 : decode mb_X_needLayer 14 = .ok (.ldc 242, 2) := by decide +kernel
theorem d_X_needLayer_16 : decode mb_X_needLayer 16 = .ok (.invokespecial 237, 3) := by decide +kernel
theorem d_X_needLayer_19 : decode mb_X_needLayer 19 = .ok (.athrow, 1) := by decide +kernel
theorem d_X_needLayer_20 : decode mb_X_needLayer 20 = .ok (.return_, 1) := by decide +kernel
theorem d_X_needValue_0 : decode mb_X_needValue 0 = .ok (.lload_n 1, 1) := by decide +kernel
theorem d_X_needValue_1 : decode mb_X_needValue 1 = .ok (.lconst 0, 1) := by decide +kernel
theorem d_X_needValue_2 : decode mb_X_needValue 2 = .ok (.lcmp, 1) := by decide +kernel
theorem d_X_needValue_3 : decode mb_X_needValue 3 = .ok (.ifCond .lt 11, 3) := by decide +kernel
theorem d_X_needValue_6 : decode mb_X_needValue 6 = .ok (.lload_n 1, 1) := by decide +kernel
theorem d_X_needValue_7 : decode mb_X_needValue 7 = .ok (.ldc2_w 252, 3) := by decide +kernel
theorem d_X_needValue_10 : decode mb_X_needValue 10 = .ok (.lcmp, 1) := by decide +kernel
theorem d_X_needValue_11 : decode mb_X_needValue 11 = .ok (.ifCond .le 14, 3) := by decide +kernel
theorem d_X_needValue_14 : decode mb_X_needValue 14 = .ok (.new 254, 3) := by decide +kernel
theorem d_X_needValue_17 : decode mb_X_needValue 17 = .ok (.dup, 1) := by decide +kernel
theorem d_X_needValue_18 : decode mb_X_needValue 18 = .ok (.ldc_w 256, 3) := by decide +kernel
theorem d_X_needValue_21 : decode mb_X_needValue 21 = .ok (.invokespecial 258, 3) := by decide +kernel
theorem d_X_needValue_24 : decode mb_X_needValue 24 = .ok (.athrow, 1) := by decide +kernel
theorem d_X_needValue_25 : decode mb_X_needValue 25 = .ok (.return_, 1) := by decide +kernel
theorem d_R_tell_0 : decode mb_R_tell 0 = .ok (.aload_n 0, 1) := by decide +kernel
theorem d_R_tell_1 : decode mb_R_tell 1 = .ok (.iload_n 1, 1) := by decide +kernel
theorem d_R_tell_2 : decode mb_R_tell 2 = .ok (.putfield 15, 3) := by decide +kernel
theorem d_R_tell_5 : decode mb_R_tell 5 = .ok (.aload_n 0, 1) := by decide +kernel
theorem d_R_tell_6 : decode mb_R_tell 6 = .ok (.iload_n 2, 1) := by decide +kernel
theorem d_R_tell_7 : decode mb_R_tell 7 = .ok (.putfield 18, 3) := by decide +kernel
theorem d_R_tell_10 : decode mb_R_tell 10 = .ok (.aload_n 0, 1) := by decide +kernel
theorem d_R_tell_11 : decode mb_R_tell 11 = .ok (.iload_n 3, 1) := by decide +kernel
theorem d_R_tell_12 : decode mb_R_tell 12 = .ok (.putfield 21, 3) := by decide +kernel
theorem d_R_tell_15 : decode mb_R_tell 15 = .ok (.aload_n 0, 1) := by decide +kernel
theorem d_R_tell_16 : decode mb_R_tell 16 = .ok (.iload 4, 2) := by decide +kernel
theorem d_R_tell_18 : decode mb_R_tell 18 = .ok (.putfield 24, 3) := by decide +kernel
theorem d_R_tell_21 : decode mb_R_tell 21 = .ok (.aload_n 0, 1) := by decide +kernel
theorem d_R_tell_22 : decode mb_R_tell 22 = .ok (.lload 5, 2) := by decide +kernel
theorem d_R_tell_24 : decode mb_R_tell 24 = .ok (.putfield 27, 3) := by decide +kernel
theorem d_R_tell_27 : decode mb_R_tell 27 = .ok (.return_, 1) := by decide +kernel
theorem d_N_dropKind_0 : decode mb_N_dropKind 0 = .ok (.iload_n 1, 1) := by decide +kernel
theorem d_N_dropKind_1 : decode mb_N_dropKind 1 = .ok (.sipush 820, 3) := by decide +kernel
theorem d_N_dropKind_4 : decode mb_N_dropKind 4 = .ok (.imul, 1) := by decide +kernel
theorem d_N_dropKind_5 : decode mb_N_dropKind 5 = .ok (.istore_n 2, 1) := by decide +kernel
theorem d_N_dropKind_6 : decode mb_N_dropKind 6 = .ok (.iload_n 2, 1) := by decide +kernel
theorem d_N_dropKind_7 : decode mb_N_dropKind 7 = .ok (.istore_n 3, 1) := by decide +kernel
theorem d_N_dropKind_8 : decode mb_N_dropKind 8 = .ok (.iload_n 3, 1) := by decide +kernel
theorem d_N_dropKind_9 : decode mb_N_dropKind 9 = .ok (.iload_n 2, 1) := by decide +kernel
theorem d_N_dropKind_10 : decode mb_N_dropKind 10 = .ok (.sipush 820, 3) := by decide +kernel
theorem d_N_dropKind_13 : decode mb_N_dropKind 13 = .ok (.iadd, 1) := by decide +kernel
theorem d_N_dropKind_14 : decode mb_N_dropKind 14 = .ok (.if_icmp .ge 14, 3) := by decide +kernel
theorem d_N_dropKind_17 : decode mb_N_dropKind 17 = .ok (.aload_n 0, 1) := by decide +kernel
theorem d_N_dropKind_18 : decode mb_N_dropKind 18 = .ok (.iload_n 3, 1) := by decide +kernel
theorem d_N_dropKind_19 : decode mb_N_dropKind 19 = .ok (.invokevirtual 23, 3) := by decide +kernel
theorem d_N_dropKind_22 : decode mb_N_dropKind 22 = .ok (.iinc 3 1, 3) := by decide +kernel
theorem d_N_dropKind_25 : decode mb_N_dropKind 25 = .ok (.goto (-17), 3) := by decide +kernel
theorem d_N_dropKind_28 : decode mb_N_dropKind 28 = .ok (.return_, 1) := by decide +kernel
theorem d_N_drop_0 : decode mb_N_drop 0 = .ok (.aload_n 0, 1) := by decide +kernel
theorem d_N_drop_1 : decode mb_N_drop 1 = .ok (.getfield 11, 3) := by decide +kernel
theorem d_N_drop_4 : decode mb_N_drop 4 = .ok (.iload_n 1, 1) := by decide +kernel
theorem d_N_drop_5 : decode mb_N_drop 5 = .ok (.iaload, 1) := by decide +kernel
theorem d_N_drop_6 : decode mb_N_drop 6 = .ok (.ifCond .eq 20, 3) := by decide +kernel
theorem d_N_drop_9 : decode mb_N_drop 9 = .ok (.aload_n 0, 1) := by decide +kernel
theorem d_N_drop_10 : decode mb_N_drop 10 = .ok (.getfield 11, 3) := by decide +kernel
theorem d_N_drop_13 : decode mb_N_drop 13 = .ok (.iload_n 1, 1) := by decide +kernel
theorem d_N_drop_14 : decode mb_N_drop 14 = .ok (.iconst 0, 1) := by decide +kernel
theorem d_N_drop_15 : decode mb_N_drop 15 = .ok (.iastore, 1) := by decide +kernel
theorem d_N_drop_16 : decode mb_N_drop 16 = .ok (.aload_n 0, 1) := by decide +kernel
theorem d_N_drop_17 : decode mb_N_drop 17 = .ok (.dup, 1) := by decide +kernel
theorem d_N_drop_18 : decode mb_N_drop 18 = .ok (.getfield 19, 3) := by decide +kernel
theorem d_N_drop_21 : decode mb_N_drop 21 = .ok (.iconst 1, 1) := by decide +kernel
theorem d_N_drop_22 : decode mb_N_drop 22 = .ok (.isub, 1) := by decide +kernel
theorem d_N_drop_23 : decode mb_N_drop 23 = .ok (.putfield 19, 3) := by decide +kernel
theorem d_N_drop_26 : decode mb_N_drop 26 = .ok (.return_, 1) := by decide +kernel
theorem d_X_rank_0 : decode mb_X_rank 0 = .ok (.aload_n 0, 1) := by decide +kernel
theorem d_X_rank_1 : decode mb_X_rank 1 = .ok (.iload_n 1, 1) := by decide +kernel
theorem d_X_rank_2 : decode mb_X_rank 2 = .ok (.invokevirtual 81, 3) := by decide +kernel
theorem d_X_rank_5 : decode mb_X_rank 5 = .ok (.aload_n 0, 1) := by decide +kernel
theorem d_X_rank_6 : decode mb_X_rank 6 = .ok (.iload_n 2, 1) := by decide +kernel
theorem d_X_rank_7 : decode mb_X_rank 7 = .ok (.invokevirtual 84, 3) := by decide +kernel
theorem d_X_rank_10 : decode mb_X_rank 10 = .ok (.aload_n 0, 1) := by decide +kernel
theorem d_X_rank_11 : decode mb_X_rank 11 = .ok (.getfield 24, 3) := by decide +kernel
theorem d_X_rank_14 : decode mb_X_rank 14 = .ok (.iload_n 1, 1) := by decide +kernel
theorem d_X_rank_15 : decode mb_X_rank 15 = .ok (.aaload, 1) := by decide +kernel
theorem d_X_rank_16 : decode mb_X_rank 16 = .ok (.astore_n 3, 1) := by decide +kernel
theorem d_X_rank_17 : decode mb_X_rank 17 = .ok (.aload_n 3, 1) := by decide +kernel
theorem d_X_rank_18 : decode mb_X_rank 18 = .ok (.getfield 87, 3) := by decide +kernel
theorem d_X_rank_21 : decode mb_X_rank 21 = .ok (.iload_n 2, 1) := by decide +kernel
theorem d_X_rank_22 : decode mb_X_rank 22 = .ok (.if_icmp .ne 5, 3) := by decide +kernel
theorem d_X_rank_25 : decode mb_X_rank 25 = .ok (.iconst 0, 1) := by decide +kernel
theorem d_X_rank_26 : decode mb_X_rank 26 = .ok (.ireturn, 1) := by decide +kernel
theorem d_X_rank_27 : decode mb_X_rank 27 = .ok (.aload_n 3, 1) := by decide +kernel
theorem d_X_rank_28 : decode mb_X_rank 28 = .ok (.iload_n 2, 1) := by decide +kernel
theorem d_X_rank_29 : decode mb_X_rank 29 = .ok (.putfield 87, 3) := by decide +kernel
theorem d_X_rank_32 : decode mb_X_rank 32 = .ok (.aload_n 0, 1) := by decide +kernel
theorem d_X_rank_33 : decode mb_X_rank 33 = .ok (.getfield 46, 3) := by decide +kernel
theorem d_X_rank_36 : decode mb_X_rank 36 = .ok (.aload_n 3, 1) := by decide +kernel
theorem d_X_rank_37 : decode mb_X_rank 37 = .ok (.getfield 90, 3) := by decide +kernel
theorem d_X_rank_40 : decode mb_X_rank 40 = .ok (.invokevirtual 78, 3) := by decide +kernel
theorem d_X_rank_43 : decode mb_X_rank 43 = .ok (.iconst 1, 1) := by decide +kernel
theorem d_X_rank_44 : decode mb_X_rank 44 = .ok (.ireturn, 1) := by decide +kernel
theorem d_X_needRule_0 : decode mb_X_needRule 0 = .ok (.iload_n 1, 1) := by decide +kernel
theorem d_X_needRule_1 : decode mb_X_needRule 1 = .ok (.ifCond .lt 11, 3) := by decide +kernel
theorem d_X_needRule_4 : decode mb_X_needRule 4 = .ok (.iload_n 1, 1) := by decide +kernel
theorem d_X_needRule_5 : decode mb_X_needRule 5 = .ok (.aload_n 0, 1) := by decide +kernel
theorem d_X_needRule_6 : decode mb_X_needRule 6 = .ok (.getfield 71, 3) := by decide +kernel
theorem d_X_needRule_9 : decode mb_X_needRule 9 = .ok (.if_icmp .lt 13, 3) := by decide +kernel
theorem d_X_needRule_12 : decode mb_X_needRule 12 = .ok (.new 233, 3) := by decide +kernel
theorem d_X_needRule_15 : decode mb_X_needRule 15 = .ok (.dup, 1) := by decide +kernel
theorem d_X_needRule_16 : decode mb_X_needRule 16 = .ok (.ldc 244, 2) := by decide +kernel
theorem d_X_needRule_18 : decode mb_X_needRule 18 = .ok (.invokespecial 237, 3) := by decide +kernel
theorem d_X_needRule_21 : decode mb_X_needRule 21 = .ok (.athrow, 1) := by decide +kernel
theorem d_X_needRule_22 : decode mb_X_needRule 22 = .ok (.return_, 1) := by decide +kernel
theorem d_X_needRank_0 : decode mb_X_needRank 0 = .ok (.iload_n 1, 1) := by decide +kernel
theorem d_X_needRank_1 : decode mb_X_needRank 1 = .ok (.sipush (-1000), 3) := by decide +kernel
theorem d_X_needRank_4 : decode mb_X_needRank 4 = .ok (.if_icmp .lt 10, 3) := by decide +kernel
theorem d_X_needRank_7 : decode mb_X_needRank 7 = .ok (.iload_n 1, 1) := by decide +kernel
theorem d_X_needRank_8 : decode mb_X_needRank 8 = .ok (.sipush 1000, 3) := by decide +kernel
theorem d_X_needRank_11 : decode mb_X_needRank 11 = .ok (.if_icmp .le 14, 3) := by decide +kernel
theorem d_X_needRank_14 : decode mb_X_needRank 14 = .ok (.new 254, 3) := by decide +kernel
theorem d_X_needRank_17 : decode mb_X_needRank 17 = .ok (.dup, 1) := by decide +kernel
theorem d_X_needRank_18 : decode mb_X_needRank 18 = .ok (.ldc_w 259, 3) := by decide +kernel
theorem d_X_needRank_21 : decode mb_X_needRank 21 = .ok (.invokespecial 258, 3) := by decide +kernel
theorem d_X_needRank_24 : decode mb_X_needRank 24 = .ok (.athrow, 1) := by decide +kernel
theorem d_X_needRank_25 : decode mb_X_needRank 25 = .ok (.return_, 1) := by decide +kernel
theorem d_X_area_0 : decode mb_X_area 0 = .ok (.aload_n 0, 1) := by decide +kernel
theorem d_X_area_1 : decode mb_X_area 1 = .ok (.lload_n 1, 1) := by decide +kernel
theorem d_X_area_2 : decode mb_X_area 2 = .ok (.lload_n 3, 1) := by decide +kernel
theorem d_X_area_3 : decode mb_X_area 3 = .ok (.invokevirtual 93, 3) := by decide +kernel
theorem d_X_area_6 : decode mb_X_area 6 = .ok (.aload_n 0, 1) := by decide +kernel
theorem d_X_area_7 : decode mb_X_area 7 = .ok (.lload 5, 2) := by decide +kernel
theorem d_X_area_9 : decode mb_X_area 9 = .ok (.lload 7, 2) := by decide +kernel
theorem d_X_area_11 : decode mb_X_area 11 = .ok (.invokevirtual 93, 3) := by decide +kernel
theorem d_X_area_14 : decode mb_X_area 14 = .ok (.aload_n 0, 1) := by decide +kernel
theorem d_X_area_15 : decode mb_X_area 15 = .ok (.lload_n 1, 1) := by decide +kernel
theorem d_X_area_16 : decode mb_X_area 16 = .ok (.lload_n 3, 1) := by decide +kernel
theorem d_X_area_17 : decode mb_X_area 17 = .ok (.lload 5, 2) := by decide +kernel
theorem d_X_area_19 : decode mb_X_area 19 = .ok (.lload 7, 2) := by decide +kernel
theorem d_X_area_21 : decode mb_X_area 21 = .ok (.invokevirtual 97, 3) := by decide +kernel
theorem d_X_area_24 : decode mb_X_area 24 = .ok (.aload_n 0, 1) := by decide +kernel
theorem d_X_area_25 : decode mb_X_area 25 = .ok (.getfield 101, 3) := by decide +kernel
theorem d_X_area_28 : decode mb_X_area 28 = .ok (.bipush 12, 2) := by decide +kernel
theorem d_X_area_30 : decode mb_X_area 30 = .ok (.if_icmp .lt 5, 3) := by decide +kernel
theorem d_X_area_33 : decode mb_X_area 33 = .ok (.iconst (-1), 1) := by decide +kernel
theorem d_X_area_34 : decode mb_X_area 34 = .ok (.ireturn, 1) := by decide +kernel
theorem d_X_area_35 : decode mb_X_area 35 = .ok (.aload_n 0, 1) := by decide +kernel
theorem d_X_area_36 : decode mb_X_area 36 = .ok (.getfield 31, 3) := by decide +kernel
theorem d_X_area_39 : decode mb_X_area 39 = .ok (.aload_n 0, 1) := by decide +kernel
theorem d_X_area_40 : decode mb_X_area 40 = .ok (.getfield 101, 3) := by decide +kernel
theorem d_X_area_43 : decode mb_X_area 43 = .ok (.aaload, 1) := by decide +kernel
theorem d_X_area_44 : decode mb_X_area 44 = .ok (.lload_n 1, 1) := by decide +kernel
theorem d_X_area_45 : decode mb_X_area 45 = .ok (.lload_n 3, 1) := by decide +kernel
theorem d_X_area_46 : decode mb_X_area 46 = .ok (.lload 5, 2) := by decide +kernel
theorem d_X_area_48 : decode mb_X_area 48 = .ok (.lload 7, 2) := by decide +kernel
theorem d_X_area_50 : decode mb_X_area 50 = .ok (.invokevirtual 104, 3) := by decide +kernel
theorem d_X_area_53 : decode mb_X_area 53 = .ok (.aload_n 0, 1) := by decide +kernel
theorem d_X_area_54 : decode mb_X_area 54 = .ok (.dup, 1) := by decide +kernel
theorem d_X_area_55 : decode mb_X_area 55 = .ok (.getfield 101, 3) := by decide +kernel
theorem d_X_area_58 : decode mb_X_area 58 = .ok (.dup_x1, 1) := by decide +kernel
theorem d_X_area_59 : decode mb_X_area 59 = .ok (.iconst 1, 1) := by decide +kernel
theorem d_X_area_60 : decode mb_X_area 60 = .ok (.iadd, 1) := by decide +kernel
theorem d_X_area_61 : decode mb_X_area 61 = .ok (.putfield 101, 3) := by decide +kernel
theorem d_X_area_64 : decode mb_X_area 64 = .ok (.ireturn, 1) := by decide +kernel
theorem d_X_needPlace_0 : decode mb_X_needPlace 0 = .ok (.lload_n 1, 1) := by decide +kernel
theorem d_X_needPlace_1 : decode mb_X_needPlace 1 = .ok (.ldc2_w 261, 3) := by decide +kernel
theorem d_X_needPlace_4 : decode mb_X_needPlace 4 = .ok (.lcmp, 1) := by decide +kernel
theorem d_X_needPlace_5 : decode mb_X_needPlace 5 = .ok (.ifCond .lt 27, 3) := by decide +kernel
theorem d_X_needPlace_8 : decode mb_X_needPlace 8 = .ok (.lload_n 1, 1) := by decide +kernel
theorem d_X_needPlace_9 : decode mb_X_needPlace 9 = .ok (.ldc2_w 252, 3) := by decide +kernel
theorem d_X_needPlace_12 : decode mb_X_needPlace 12 = .ok (.lcmp, 1) := by decide +kernel
theorem d_X_needPlace_13 : decode mb_X_needPlace 13 = .ok (.ifCond .gt 19, 3) := by decide +kernel
theorem d_X_needPlace_16 : decode mb_X_needPlace 16 = .ok (.lload_n 3, 1) := by decide +kernel
theorem d_X_needPlace_17 : decode mb_X_needPlace 17 = .ok (.ldc2_w 261, 3) := by decide +kernel
theorem d_X_needPlace_20 : decode mb_X_needPlace 20 = .ok (.lcmp, 1) := by decide +kernel
theorem d_X_needPlace_21 : decode mb_X_needPlace 21 = .ok (.ifCond .lt 11, 3) := by decide +kernel
theorem d_X_needPlace_24 : decode mb_X_needPlace 24 = .ok (.lload_n 3, 1) := by decide +kernel
theorem d_X_needPlace_25 : decode mb_X_needPlace 25 = .ok (.ldc2_w 252, 3) := by decide +kernel
theorem d_X_needPlace_28 : decode mb_X_needPlace 28 = .ok (.lcmp, 1) := by decide +kernel
theorem d_X_needPlace_29 : decode mb_X_needPlace 29 = .ok (.ifCond .le 14, 3) := by decide +kernel
theorem d_X_needPlace_32 : decode mb_X_needPlace 32 = .ok (.new 254, 3) := by decide +kernel
theorem d_X_needPlace_35 : decode mb_X_needPlace 35 = .ok (.dup, 1) := by decide +kernel
theorem d_X_needPlace_36 : decode mb_X_needPlace 36 = .ok (.ldc_w 263, 3) := by decide +kernel
theorem d_X_needPlace_39 : decode mb_X_needPlace 39 = .ok (.invokespecial 258, 3) := by decide +kernel
theorem d_X_needPlace_42 : decode mb_X_needPlace 42 = .ok (.athrow, 1) := by decide +kernel
theorem d_X_needPlace_43 : decode mb_X_needPlace 43 = .ok (.return_, 1) := by decide +kernel
theorem d_X_needUnturned_0 : decode mb_X_needUnturned 0 = .ok (.lload_n 1, 1) := by decide +kernel
theorem d_X_needUnturned_1 : decode mb_X_needUnturned 1 = .ok (.lload 5, 2) := by decide +kernel
theorem d_X_needUnturned_3 : decode mb_X_needUnturned 3 = .ok (.lcmp, 1) := by decide +kernel
theorem d_X_needUnturned_4 : decode mb_X_needUnturned 4 = .ok (.ifCond .gt 10, 3) := by decide +kernel
theorem d_X_needUnturned_7 : decode mb_X_needUnturned 7 = .ok (.lload_n 3, 1) := by decide +kernel
theorem d_X_needUnturned_8 : decode mb_X_needUnturned 8 = .ok (.lload 7, 2) := by decide +kernel
theorem d_X_needUnturned_10 : decode mb_X_needUnturned 10 = .ok (.lcmp, 1) := by decide +kernel
theorem d_X_needUnturned_11 : decode mb_X_needUnturned 11 = .ok (.ifCond .le 14, 3) := by decide +kernel
theorem d_X_needUnturned_14 : decode mb_X_needUnturned 14 = .ok (.new 254, 3) := by decide +kernel
theorem d_X_needUnturned_17 : decode mb_X_needUnturned 17 = .ok (.dup, 1) := by decide +kernel
theorem d_X_needUnturned_18 : decode mb_X_needUnturned 18 = .ok (.ldc_w 265, 3) := by decide +kernel
theorem d_X_needUnturned_21 : decode mb_X_needUnturned 21 = .ok (.invokespecial 258, 3) := by decide +kernel
theorem d_X_needUnturned_24 : decode mb_X_needUnturned 24 = .ok (.athrow, 1) := by decide +kernel
theorem d_X_needUnturned_25 : decode mb_X_needUnturned 25 = .ok (.return_, 1) := by decide +kernel
theorem d_A_span_0 : decode mb_A_span 0 = .ok (.aload_n 0, 1) := by decide +kernel
theorem d_A_span_1 : decode mb_A_span 1 = .ok (.lload_n 1, 1) := by decide +kernel
theorem d_A_span_2 : decode mb_A_span 2 = .ok (.putfield 7, 3) := by decide +kernel
theorem d_A_span_5 : decode mb_A_span 5 = .ok (.aload_n 0, 1) := by decide +kernel
theorem d_A_span_6 : decode mb_A_span 6 = .ok (.lload_n 3, 1) := by decide +kernel
theorem d_A_span_7 : decode mb_A_span 7 = .ok (.putfield 13, 3) := by decide +kernel
theorem d_A_span_10 : decode mb_A_span 10 = .ok (.aload_n 0, 1) := by decide +kernel
theorem d_A_span_11 : decode mb_A_span 11 = .ok (.lload 5, 2) := by decide +kernel
theorem d_A_span_13 : decode mb_A_span 13 = .ok (.putfield 16, 3) := by decide +kernel
theorem d_A_span_16 : decode mb_A_span 16 = .ok (.aload_n 0, 1) := by decide +kernel
theorem d_A_span_17 : decode mb_A_span 17 = .ok (.lload 7, 2) := by decide +kernel
theorem d_A_span_19 : decode mb_A_span 19 = .ok (.putfield 19, 3) := by decide +kernel
theorem d_A_span_22 : decode mb_A_span 22 = .ok (.return_, 1) := by decide +kernel
theorem d_X_inArea_0 : decode mb_X_inArea 0 = .ok (.aload_n 0, 1) := by decide +kernel
theorem d_X_inArea_1 : decode mb_X_inArea 1 = .ok (.iload_n 1, 1) := by decide +kernel
theorem d_X_inArea_2 : decode mb_X_inArea 2 = .ok (.invokevirtual 81, 3) := by decide +kernel
theorem d_X_inArea_5 : decode mb_X_inArea 5 = .ok (.aload_n 0, 1) := by decide +kernel
theorem d_X_inArea_6 : decode mb_X_inArea 6 = .ok (.iload_n 2, 1) := by decide +kernel
theorem d_X_inArea_7 : decode mb_X_inArea 7 = .ok (.invokevirtual 107, 3) := by decide +kernel
theorem d_X_inArea_10 : decode mb_X_inArea 10 = .ok (.aload_n 0, 1) := by decide +kernel
theorem d_X_inArea_11 : decode mb_X_inArea 11 = .ok (.getfield 24, 3) := by decide +kernel
theorem d_X_inArea_14 : decode mb_X_inArea 14 = .ok (.iload_n 1, 1) := by decide +kernel
theorem d_X_inArea_15 : decode mb_X_inArea 15 = .ok (.aaload, 1) := by decide +kernel
theorem d_X_inArea_16 : decode mb_X_inArea 16 = .ok (.astore_n 3, 1) := by decide +kernel
theorem d_X_inArea_17 : decode mb_X_inArea 17 = .ok (.aload_n 3, 1) := by decide +kernel
theorem d_X_inArea_18 : decode mb_X_inArea 18 = .ok (.getfield 110, 3) := by decide +kernel
theorem d_X_inArea_21 : decode mb_X_inArea 21 = .ok (.iload_n 2, 1) := by decide +kernel
theorem d_X_inArea_22 : decode mb_X_inArea 22 = .ok (.if_icmp .ne 5, 3) := by decide +kernel
theorem d_X_inArea_25 : decode mb_X_inArea 25 = .ok (.iconst 0, 1) := by decide +kernel
theorem d_X_inArea_26 : decode mb_X_inArea 26 = .ok (.ireturn, 1) := by decide +kernel
theorem d_X_inArea_27 : decode mb_X_inArea 27 = .ok (.aload_n 3, 1) := by decide +kernel
theorem d_X_inArea_28 : decode mb_X_inArea 28 = .ok (.iload_n 2, 1) := by decide +kernel
theorem d_X_inArea_29 : decode mb_X_inArea 29 = .ok (.putfield 110, 3) := by decide +kernel
theorem d_X_inArea_32 : decode mb_X_inArea 32 = .ok (.aload_n 0, 1) := by decide +kernel
theorem d_X_inArea_33 : decode mb_X_inArea 33 = .ok (.getfield 46, 3) := by decide +kernel
theorem d_X_inArea_36 : decode mb_X_inArea 36 = .ok (.aload_n 3, 1) := by decide +kernel
theorem d_X_inArea_37 : decode mb_X_inArea 37 = .ok (.getfield 90, 3) := by decide +kernel
theorem d_X_inArea_40 : decode mb_X_inArea 40 = .ok (.invokevirtual 78, 3) := by decide +kernel
theorem d_X_inArea_43 : decode mb_X_inArea 43 = .ok (.iconst 1, 1) := by decide +kernel
theorem d_X_inArea_44 : decode mb_X_inArea 44 = .ok (.ireturn, 1) := by decide +kernel
theorem d_X_needAreaOrNone_0 : decode mb_X_needAreaOrNone 0 = .ok (.iload_n 1, 1) := by decide +kernel
theorem d_X_needAreaOrNone_1 : decode mb_X_needAreaOrNone 1 = .ok (.iconst (-1), 1) := by decide +kernel
theorem d_X_needAreaOrNone_2 : decode mb_X_needAreaOrNone 2 = .ok (.if_icmp .eq 25, 3) := by decide +kernel
theorem d_X_needAreaOrNone_5 : decode mb_X_needAreaOrNone 5 = .ok (.iload_n 1, 1) := by decide +kernel
theorem d_X_needAreaOrNone_6 : decode mb_X_needAreaOrNone 6 = .ok (.ifCond .lt 11, 3) := by decide +kernel
theorem d_X_needAreaOrNone_9 : decode mb_X_needAreaOrNone 9 = .ok (.iload_n 1, 1) := by decide +kernel
theorem d_X_needAreaOrNone_10 : decode mb_X_needAreaOrNone 10 = .ok (.aload_n 0, 1) := by decide +kernel
theorem d_X_needAreaOrNone_11 : decode mb_X_needAreaOrNone 11 = .ok (.getfield 101, 3) := by decide +kernel
theorem d_X_needAreaOrNone_14 : decode mb_X_needAreaOrNone 14 = .ok (.if_icmp .lt 13, 3) := by decide +kernel
theorem d_X_needAreaOrNone_17 : decode mb_X_needAreaOrNone 17 = .ok (.new 233, 3) := by decide +kernel
theorem d_X_needAreaOrNone_20 : decode mb_X_needAreaOrNone 20 = .ok (.dup, 1) := by decide +kernel
theorem d_X_needAreaOrNone_21 : decode mb_X_needAreaOrNone 21 = .ok (.ldc 246, 2) := by decide +kernel
theorem d_X_needAreaOrNone_23 : decode mb_X_needAreaOrNone 23 = .ok (.invokespecial 237, 3) := by decide +kernel
theorem d_X_needAreaOrNone_26 : decode mb_X_needAreaOrNone 26 = .ok (.athrow, 1) := by decide +kernel
theorem d_X_needAreaOrNone_27 : decode mb_X_needAreaOrNone 27 = .ok (.return_, 1) := by decide +kernel
theorem d_X_thing_0 : decode mb_X_thing 0 = .ok (.aload_n 0, 1) := by decide +kernel
theorem d_X_thing_1 : decode mb_X_thing 1 = .ok (.iload_n 1, 1) := by decide +kernel
theorem d_X_thing_2 : decode mb_X_thing 2 = .ok (.invokevirtual 113, 3) := by decide +kernel
theorem d_X_thing_5 : decode mb_X_thing 5 = .ok (.aload_n 0, 1) := by decide +kernel
theorem d_X_thing_6 : decode mb_X_thing 6 = .ok (.iload_n 2, 1) := by decide +kernel
theorem d_X_thing_7 : decode mb_X_thing 7 = .ok (.invokevirtual 116, 3) := by decide +kernel
theorem d_X_thing_10 : decode mb_X_thing 10 = .ok (.aload_n 0, 1) := by decide +kernel
theorem d_X_thing_11 : decode mb_X_thing 11 = .ok (.lload_n 3, 1) := by decide +kernel
theorem d_X_thing_12 : decode mb_X_thing 12 = .ok (.lload 5, 2) := by decide +kernel
theorem d_X_thing_14 : decode mb_X_thing 14 = .ok (.invokevirtual 93, 3) := by decide +kernel
theorem d_X_thing_17 : decode mb_X_thing 17 = .ok (.aload_n 0, 1) := by decide +kernel
theorem d_X_thing_18 : decode mb_X_thing 18 = .ok (.getfield 119, 3) := by decide +kernel
theorem d_X_thing_21 : decode mb_X_thing 21 = .ok (.bipush 40, 2) := by decide +kernel
theorem d_X_thing_23 : decode mb_X_thing 23 = .ok (.if_icmp .lt 5, 3) := by decide +kernel
theorem d_X_thing_26 : decode mb_X_thing 26 = .ok (.iconst (-1), 1) := by decide +kernel
theorem d_X_thing_27 : decode mb_X_thing 27 = .ok (.ireturn, 1) := by decide +kernel
theorem d_X_thing_28 : decode mb_X_thing 28 = .ok (.aload_n 0, 1) := by decide +kernel
theorem d_X_thing_29 : decode mb_X_thing 29 = .ok (.getfield 38, 3) := by decide +kernel
theorem d_X_thing_32 : decode mb_X_thing 32 = .ok (.aload_n 0, 1) := by decide +kernel
theorem d_X_thing_33 : decode mb_X_thing 33 = .ok (.getfield 119, 3) := by decide +kernel
theorem d_X_thing_36 : decode mb_X_thing 36 = .ok (.aaload, 1) := by decide +kernel
theorem d_X_thing_37 : decode mb_X_thing 37 = .ok (.astore 7, 2) := by decide +kernel
theorem d_X_thing_39 : decode mb_X_thing 39 = .ok (.aload 7, 2) := by decide +kernel
theorem d_X_thing_41 : decode mb_X_thing 41 = .ok (.iload_n 1, 1) := by decide +kernel
theorem d_X_thing_42 : decode mb_X_thing 42 = .ok (.iload_n 2, 1) := by decide +kernel
theorem d_X_thing_43 : decode mb_X_thing 43 = .ok (.invokevirtual 122, 3) := by decide +kernel
theorem d_X_thing_46 : decode mb_X_thing 46 = .ok (.aload 7, 2) := by decide +kernel
theorem d_X_thing_48 : decode mb_X_thing 48 = .ok (.lload_n 3, 1) := by decide +kernel
theorem d_X_thing_49 : decode mb_X_thing 49 = .ok (.lload 5, 2) := by decide +kernel
theorem d_X_thing_51 : decode mb_X_thing 51 = .ok (.invokevirtual 126, 3) := by decide +kernel
theorem d_X_thing_54 : decode mb_X_thing 54 = .ok (.aload_n 0, 1) := by decide +kernel
theorem d_X_thing_55 : decode mb_X_thing 55 = .ok (.dup, 1) := by decide +kernel
theorem d_X_thing_56 : decode mb_X_thing 56 = .ok (.getfield 119, 3) := by decide +kernel
theorem d_X_thing_59 : decode mb_X_thing 59 = .ok (.dup_x1, 1) := by decide +kernel
theorem d_X_thing_60 : decode mb_X_thing 60 = .ok (.iconst 1, 1) := by decide +kernel
theorem d_X_thing_61 : decode mb_X_thing 61 = .ok (.iadd, 1) := by decide +kernel
theorem d_X_thing_62 : decode mb_X_thing 62 = .ok (.putfield 119, 3) := by decide +kernel
theorem d_X_thing_65 : decode mb_X_thing 65 = .ok (.ireturn, 1) := by decide +kernel
theorem d_T_become_0 : decode mb_T_become 0 = .ok (.aload_n 0, 1) := by decide +kernel
theorem d_T_become_1 : decode mb_T_become 1 = .ok (.iload_n 1, 1) := by decide +kernel
theorem d_T_become_2 : decode mb_T_become 2 = .ok (.putfield 7, 3) := by decide +kernel
theorem d_T_become_5 : decode mb_T_become 5 = .ok (.aload_n 0, 1) := by decide +kernel
theorem d_T_become_6 : decode mb_T_become 6 = .ok (.iload_n 2, 1) := by decide +kernel
theorem d_T_become_7 : decode mb_T_become 7 = .ok (.putfield 13, 3) := by decide +kernel
theorem d_T_become_10 : decode mb_T_become 10 = .ok (.return_, 1) := by decide +kernel
theorem d_T_put_0 : decode mb_T_put 0 = .ok (.aload_n 0, 1) := by decide +kernel
theorem d_T_put_1 : decode mb_T_put 1 = .ok (.lload_n 1, 1) := by decide +kernel
theorem d_T_put_2 : decode mb_T_put 2 = .ok (.putfield 16, 3) := by decide +kernel
theorem d_T_put_5 : decode mb_T_put 5 = .ok (.aload_n 0, 1) := by decide +kernel
theorem d_T_put_6 : decode mb_T_put 6 = .ok (.lload_n 3, 1) := by decide +kernel
theorem d_T_put_7 : decode mb_T_put 7 = .ok (.putfield 20, 3) := by decide +kernel
theorem d_T_put_10 : decode mb_T_put 10 = .ok (.return_, 1) := by decide +kernel
theorem d_X_make_0 : decode mb_X_make 0 = .ok (.aload_n 0, 1) := by decide +kernel
theorem d_X_make_1 : decode mb_X_make 1 = .ok (.iload_n 1, 1) := by decide +kernel
theorem d_X_make_2 : decode mb_X_make 2 = .ok (.invokevirtual 129, 3) := by decide +kernel
theorem d_X_make_5 : decode mb_X_make 5 = .ok (.aload_n 0, 1) := by decide +kernel
theorem d_X_make_6 : decode mb_X_make 6 = .ok (.iload_n 2, 1) := by decide +kernel
theorem d_X_make_7 : decode mb_X_make 7 = .ok (.invokevirtual 113, 3) := by decide +kernel
theorem d_X_make_10 : decode mb_X_make 10 = .ok (.aload_n 0, 1) := by decide +kernel
theorem d_X_make_11 : decode mb_X_make 11 = .ok (.iload_n 3, 1) := by decide +kernel
theorem d_X_make_12 : decode mb_X_make 12 = .ok (.invokevirtual 116, 3) := by decide +kernel
theorem d_X_make_15 : decode mb_X_make 15 = .ok (.aload_n 0, 1) := by decide +kernel
theorem d_X_make_16 : decode mb_X_make 16 = .ok (.getfield 38, 3) := by decide +kernel
theorem d_X_make_19 : decode mb_X_make 19 = .ok (.iload_n 1, 1) := by decide +kernel
theorem d_X_make_20 : decode mb_X_make 20 = .ok (.aaload, 1) := by decide +kernel
theorem d_X_make_21 : decode mb_X_make 21 = .ok (.astore 4, 2) := by decide +kernel
theorem d_X_make_23 : decode mb_X_make 23 = .ok (.aload 4, 2) := by decide +kernel
theorem d_X_make_25 : decode mb_X_make 25 = .ok (.getfield 132, 3) := by decide +kernel
theorem d_X_make_28 : decode mb_X_make 28 = .ok (.iload_n 2, 1) := by decide +kernel
theorem d_X_make_29 : decode mb_X_make 29 = .ok (.if_icmp .ne 14, 3) := by decide +kernel
theorem d_X_make_32 : decode mb_X_make 32 = .ok (.aload 4, 2) := by decide +kernel
theorem d_X_make_34 : decode mb_X_make 34 = .ok (.getfield 135, 3) := by decide +kernel
theorem d_X_make_37 : decode mb_X_make 37 = .ok (.iload_n 3, 1) := by decide +kernel
theorem d_X_make_38 : decode mb_X_make 38 = .ok (.if_icmp .ne 5, 3) := by decide +kernel
theorem d_X_make_41 : decode mb_X_make 41 = .ok (.iconst 0, 1) := by decide +kernel
theorem d_X_make_42 : decode mb_X_make 42 = .ok (.ireturn, 1) := by decide +kernel
theorem d_X_make_43 : decode mb_X_make 43 = .ok (.aload 4, 2) := by decide +kernel
theorem d_X_make_45 : decode mb_X_make 45 = .ok (.iload_n 2, 1) := by decide +kernel
theorem d_X_make_46 : decode mb_X_make 46 = .ok (.iload_n 3, 1) := by decide +kernel
theorem d_X_make_47 : decode mb_X_make 47 = .ok (.invokevirtual 122, 3) := by decide +kernel
theorem d_X_make_50 : decode mb_X_make 50 = .ok (.aload_n 0, 1) := by decide +kernel
theorem d_X_make_51 : decode mb_X_make 51 = .ok (.getfield 46, 3) := by decide +kernel
theorem d_X_make_54 : decode mb_X_make 54 = .ok (.iload_n 1, 1) := by decide +kernel
theorem d_X_make_55 : decode mb_X_make 55 = .ok (.invokevirtual 138, 3) := by decide +kernel
theorem d_X_make_58 : decode mb_X_make 58 = .ok (.iconst 1, 1) := by decide +kernel
theorem d_X_make_59 : decode mb_X_make 59 = .ok (.ireturn, 1) := by decide +kernel
theorem d_X_needThing_0 : decode mb_X_needThing 0 = .ok (.iload_n 1, 1) := by decide +kernel
theorem d_X_needThing_1 : decode mb_X_needThing 1 = .ok (.ifCond .lt 11, 3) := by decide +kernel
theorem d_X_needThing_4 : decode mb_X_needThing 4 = .ok (.iload_n 1, 1) := by decide +kernel
theorem d_X_needThing_5 : decode mb_X_needThing 5 = .ok (.aload_n 0, 1) := by decide +kernel
theorem d_X_needThing_6 : decode mb_X_needThing 6 = .ok (.getfield 119, 3) := by decide +kernel
theorem d_X_needThing_9 : decode mb_X_needThing 9 = .ok (.if_icmp .lt 13, 3) := by decide +kernel
theorem d_X_needThing_12 : decode mb_X_needThing 12 = .ok (.new 233, 3) := by decide +kernel
theorem d_X_needThing_15 : decode mb_X_needThing 15 = .ok (.dup, 1) := by decide +kernel
theorem d_X_needThing_16 : decode mb_X_needThing 16 = .ok (.ldc 248, 2) := by decide +kernel
theorem d_X_needThing_18 : decode mb_X_needThing 18 = .ok (.invokespecial 237, 3) := by decide +kernel
theorem d_X_needThing_21 : decode mb_X_needThing 21 = .ok (.athrow, 1) := by decide +kernel
theorem d_X_needThing_22 : decode mb_X_needThing 22 = .ok (.return_, 1) := by decide +kernel
theorem d_N_dropThing_0 : decode mb_N_dropThing 0 = .ok (.iconst 0, 1) := by decide +kernel
theorem d_N_dropThing_1 : decode mb_N_dropThing 1 = .ok (.istore_n 2, 1) := by decide +kernel
theorem d_N_dropThing_2 : decode mb_N_dropThing 2 = .ok (.iload_n 2, 1) := by decide +kernel
theorem d_N_dropThing_3 : decode mb_N_dropThing 3 = .ok (.bipush 6, 2) := by decide +kernel
theorem d_N_dropThing_5 : decode mb_N_dropThing 5 = .ok (.if_icmp .ge 33, 3) := by decide +kernel
theorem d_N_dropThing_8 : decode mb_N_dropThing 8 = .ok (.iconst 0, 1) := by decide +kernel
theorem d_N_dropThing_9 : decode mb_N_dropThing 9 = .ok (.istore_n 3, 1) := by decide +kernel
theorem d_N_dropThing_10 : decode mb_N_dropThing 10 = .ok (.iload_n 3, 1) := by decide +kernel
theorem d_N_dropThing_11 : decode mb_N_dropThing 11 = .ok (.bipush 40, 2) := by decide +kernel
theorem d_N_dropThing_13 : decode mb_N_dropThing 13 = .ok (.if_icmp .ge 19, 3) := by decide +kernel
theorem d_N_dropThing_16 : decode mb_N_dropThing 16 = .ok (.aload_n 0, 1) := by decide +kernel
theorem d_N_dropThing_17 : decode mb_N_dropThing 17 = .ok (.iload_n 2, 1) := by decide +kernel
theorem d_N_dropThing_18 : decode mb_N_dropThing 18 = .ok (.iload_n 1, 1) := by decide +kernel
theorem d_N_dropThing_19 : decode mb_N_dropThing 19 = .ok (.iload_n 3, 1) := by decide +kernel
theorem d_N_dropThing_20 : decode mb_N_dropThing 20 = .ok (.invokestatic 15, 3) := by decide +kernel
theorem d_N_dropThing_23 : decode mb_N_dropThing 23 = .ok (.invokevirtual 23, 3) := by decide +kernel
theorem d_N_dropThing_26 : decode mb_N_dropThing 26 = .ok (.iinc 3 1, 3) := by decide +kernel
theorem d_N_dropThing_29 : decode mb_N_dropThing 29 = .ok (.goto (-19), 3) := by decide +kernel
theorem d_N_dropThing_32 : decode mb_N_dropThing 32 = .ok (.iinc 2 1, 3) := by decide +kernel
theorem d_N_dropThing_35 : decode mb_N_dropThing 35 = .ok (.goto (-33), 3) := by decide +kernel
theorem d_N_dropThing_38 : decode mb_N_dropThing 38 = .ok (.return_, 1) := by decide +kernel
theorem d_N_slotOf_0 : decode mb_N_slotOf 0 = .ok (.iload_n 1, 1) := by decide +kernel
theorem d_N_slotOf_1 : decode mb_N_slotOf 1 = .ok (.iload_n 2, 1) := by decide +kernel
theorem d_N_slotOf_2 : decode mb_N_slotOf 2 = .ok (.invokestatic 27, 3) := by decide +kernel
theorem d_N_slotOf_5 : decode mb_N_slotOf 5 = .ok (.istore_n 3, 1) := by decide +kernel
theorem d_N_slotOf_6 : decode mb_N_slotOf 6 = .ok (.iload_n 1, 1) := by decide +kernel
theorem d_N_slotOf_7 : decode mb_N_slotOf 7 = .ok (.iload_n 2, 1) := by decide +kernel
theorem d_N_slotOf_8 : decode mb_N_slotOf 8 = .ok (.invokestatic 33, 3) := by decide +kernel
theorem d_N_slotOf_11 : decode mb_N_slotOf 11 = .ok (.istore 4, 2) := by decide +kernel
theorem d_N_slotOf_13 : decode mb_N_slotOf 13 = .ok (.iload_n 0, 1) := by decide +kernel
theorem d_N_slotOf_14 : decode mb_N_slotOf 14 = .ok (.sipush 820, 3) := by decide +kernel
theorem d_N_slotOf_17 : decode mb_N_slotOf 17 = .ok (.imul, 1) := by decide +kernel
theorem d_N_slotOf_18 : decode mb_N_slotOf 18 = .ok (.iload_n 3, 1) := by decide +kernel
theorem d_N_slotOf_19 : decode mb_N_slotOf 19 = .ok (.iload_n 3, 1) := by decide +kernel
theorem d_N_slotOf_20 : decode mb_N_slotOf 20 = .ok (.iconst 1, 1) := by decide +kernel
theorem d_N_slotOf_21 : decode mb_N_slotOf 21 = .ok (.iadd, 1) := by decide +kernel
theorem d_N_slotOf_22 : decode mb_N_slotOf 22 = .ok (.imul, 1) := by decide +kernel
theorem d_N_slotOf_23 : decode mb_N_slotOf 23 = .ok (.iconst 2, 1) := by decide +kernel
theorem d_N_slotOf_24 : decode mb_N_slotOf 24 = .ok (.idiv, 1) := by decide +kernel
theorem d_N_slotOf_25 : decode mb_N_slotOf 25 = .ok (.iadd, 1) := by decide +kernel
theorem d_N_slotOf_26 : decode mb_N_slotOf 26 = .ok (.iload 4, 2) := by decide +kernel
theorem d_N_slotOf_28 : decode mb_N_slotOf 28 = .ok (.iadd, 1) := by decide +kernel
theorem d_N_slotOf_29 : decode mb_N_slotOf 29 = .ok (.ireturn, 1) := by decide +kernel
theorem d_X_move_0 : decode mb_X_move 0 = .ok (.aload_n 0, 1) := by decide +kernel
theorem d_X_move_1 : decode mb_X_move 1 = .ok (.iload_n 1, 1) := by decide +kernel
theorem d_X_move_2 : decode mb_X_move 2 = .ok (.invokevirtual 129, 3) := by decide +kernel
theorem d_X_move_5 : decode mb_X_move 5 = .ok (.aload_n 0, 1) := by decide +kernel
theorem d_X_move_6 : decode mb_X_move 6 = .ok (.lload_n 2, 1) := by decide +kernel
theorem d_X_move_7 : decode mb_X_move 7 = .ok (.lload 4, 2) := by decide +kernel
theorem d_X_move_9 : decode mb_X_move 9 = .ok (.invokevirtual 93, 3) := by decide +kernel
theorem d_X_move_12 : decode mb_X_move 12 = .ok (.aload_n 0, 1) := by decide +kernel
theorem d_X_move_13 : decode mb_X_move 13 = .ok (.getfield 38, 3) := by decide +kernel
theorem d_X_move_16 : decode mb_X_move 16 = .ok (.iload_n 1, 1) := by decide +kernel
theorem d_X_move_17 : decode mb_X_move 17 = .ok (.aaload, 1) := by decide +kernel
theorem d_X_move_18 : decode mb_X_move 18 = .ok (.astore 6, 2) := by decide +kernel
theorem d_X_move_20 : decode mb_X_move 20 = .ok (.aload 6, 2) := by decide +kernel
theorem d_X_move_22 : decode mb_X_move 22 = .ok (.getfield 141, 3) := by decide +kernel
theorem d_X_move_25 : decode mb_X_move 25 = .ok (.lload_n 2, 1) := by decide +kernel
theorem d_X_move_26 : decode mb_X_move 26 = .ok (.lcmp, 1) := by decide +kernel
theorem d_X_move_27 : decode mb_X_move 27 = .ok (.ifCond .ne 16, 3) := by decide +kernel
theorem d_X_move_30 : decode mb_X_move 30 = .ok (.aload 6, 2) := by decide +kernel
theorem d_X_move_32 : decode mb_X_move 32 = .ok (.getfield 145, 3) := by decide +kernel
theorem d_X_move_35 : decode mb_X_move 35 = .ok (.lload 4, 2) := by decide +kernel
theorem d_X_move_37 : decode mb_X_move 37 = .ok (.lcmp, 1) := by decide +kernel
theorem d_X_move_38 : decode mb_X_move 38 = .ok (.ifCond .ne 5, 3) := by decide +kernel
theorem d_X_move_41 : decode mb_X_move 41 = .ok (.iconst 0, 1) := by decide +kernel
theorem d_X_move_42 : decode mb_X_move 42 = .ok (.ireturn, 1) := by decide +kernel
theorem d_X_move_43 : decode mb_X_move 43 = .ok (.aload_n 0, 1) := by decide +kernel
theorem d_X_move_44 : decode mb_X_move 44 = .ok (.aload 6, 2) := by decide +kernel
theorem d_X_move_46 : decode mb_X_move 46 = .ok (.getfield 141, 3) := by decide +kernel
theorem d_X_move_49 : decode mb_X_move 49 = .ok (.aload 6, 2) := by decide +kernel
theorem d_X_move_51 : decode mb_X_move 51 = .ok (.getfield 145, 3) := by decide +kernel
theorem d_X_move_54 : decode mb_X_move 54 = .ok (.invokevirtual 148, 3) := by decide +kernel
theorem d_X_move_57 : decode mb_X_move 57 = .ok (.aload_n 0, 1) := by decide +kernel
theorem d_X_move_58 : decode mb_X_move 58 = .ok (.lload_n 2, 1) := by decide +kernel
theorem d_X_move_59 : decode mb_X_move 59 = .ok (.lload 4, 2) := by decide +kernel
theorem d_X_move_61 : decode mb_X_move 61 = .ok (.invokevirtual 148, 3) := by decide +kernel
theorem d_X_move_64 : decode mb_X_move 64 = .ok (.if_icmp .eq 11, 3) := by decide +kernel
theorem d_X_move_67 : decode mb_X_move 67 = .ok (.aload_n 0, 1) := by decide +kernel
theorem d_X_move_68 : decode mb_X_move 68 = .ok (.getfield 46, 3) := by decide +kernel
theorem d_X_move_71 : decode mb_X_move 71 = .ok (.iload_n 1, 1) := by decide +kernel
theorem d_X_move_72 : decode mb_X_move 72 = .ok (.invokevirtual 138, 3) := by decide +kernel
theorem d_X_move_75 : decode mb_X_move 75 = .ok (.aload 6, 2) := by decide +kernel
theorem d_X_move_77 : decode mb_X_move 77 = .ok (.lload_n 2, 1) := by decide +kernel
theorem d_X_move_78 : decode mb_X_move 78 = .ok (.lload 4, 2) := by decide +kernel
theorem d_X_move_80 : decode mb_X_move 80 = .ok (.invokevirtual 126, 3) := by decide +kernel
theorem d_X_move_83 : decode mb_X_move 83 = .ok (.iconst 1, 1) := by decide +kernel
theorem d_X_move_84 : decode mb_X_move 84 = .ok (.ireturn, 1) := by decide +kernel
theorem d_X_areasAround_0 : decode mb_X_areasAround 0 = .ok (.iconst 0, 1) := by decide +kernel
theorem d_X_areasAround_1 : decode mb_X_areasAround 1 = .ok (.istore 5, 2) := by decide +kernel
theorem d_X_areasAround_3 : decode mb_X_areasAround 3 = .ok (.iconst 0, 1) := by decide +kernel
theorem d_X_areasAround_4 : decode mb_X_areasAround 4 = .ok (.istore 6, 2) := by decide +kernel
theorem d_X_areasAround_6 : decode mb_X_areasAround 6 = .ok (.iload 6, 2) := by decide +kernel
theorem d_X_areasAround_8 : decode mb_X_areasAround 8 = .ok (.aload_n 0, 1) := by decide +kernel
theorem d_X_areasAround_9 : decode mb_X_areasAround 9 = .ok (.getfield 101, 3) := by decide +kernel
theorem d_X_areasAround_12 : decode mb_X_areasAround 12 = .ok (.if_icmp .ge 33, 3) := by decide +kernel
theorem d_X_areasAround_15 : decode mb_X_areasAround 15 = .ok (.aload_n 0, 1) := by decide +kernel
theorem d_X_areasAround_16 : decode mb_X_areasAround 16 = .ok (.getfield 31, 3) := by decide +kernel
theorem d_X_areasAround_19 : decode mb_X_areasAround 19 = .ok (.iload 6, 2) := by decide +kernel
theorem d_X_areasAround_21 : decode mb_X_areasAround 21 = .ok (.aaload, 1) := by decide +kernel
theorem d_X_areasAround_22 : decode mb_X_areasAround 22 = .ok (.lload_n 1, 1) := by decide +kernel
theorem d_X_areasAround_23 : decode mb_X_areasAround 23 = .ok (.lload_n 3, 1) := by decide +kernel
theorem d_X_areasAround_24 : decode mb_X_areasAround 24 = .ok (.invokevirtual 229, 3) := by decide +kernel
theorem d_X_areasAround_27 : decode mb_X_areasAround 27 = .ok (.ifCond .eq 12, 3) := by decide +kernel
theorem d_X_areasAround_30 : decode mb_X_areasAround 30 = .ok (.iload 5, 2) := by decide +kernel
theorem d_X_areasAround_32 : decode mb_X_areasAround 32 = .ok (.iconst 1, 1) := by decide +kernel
theorem d_X_areasAround_33 : decode mb_X_areasAround 33 = .ok (.iload 6, 2) := by decide +kernel
theorem d_X_areasAround_35 : decode mb_X_areasAround 35 = .ok (.ishl, 1) := by decide +kernel
theorem d_X_areasAround_36 : decode mb_X_areasAround 36 = .ok (.ior, 1) := by decide +kernel
theorem d_X_areasAround_37 : decode mb_X_areasAround 37 = .ok (.istore 5, 2) := by decide +kernel
theorem d_X_areasAround_39 : decode mb_X_areasAround 39 = .ok (.iinc 6 1, 3) := by decide +kernel
theorem d_X_areasAround_42 : decode mb_X_areasAround 42 = .ok (.goto (-36), 3) := by decide +kernel
theorem d_X_areasAround_45 : decode mb_X_areasAround 45 = .ok (.iload 5, 2) := by decide +kernel
theorem d_X_areasAround_47 : decode mb_X_areasAround 47 = .ok (.ireturn, 1) := by decide +kernel
theorem d_A_holds_0 : decode mb_A_holds 0 = .ok (.aload_n 0, 1) := by decide +kernel
theorem d_A_holds_1 : decode mb_A_holds 1 = .ok (.getfield 7, 3) := by decide +kernel
theorem d_A_holds_4 : decode mb_A_holds 4 = .ok (.lload_n 1, 1) := by decide +kernel
theorem d_A_holds_5 : decode mb_A_holds 5 = .ok (.lcmp, 1) := by decide +kernel
theorem d_A_holds_6 : decode mb_A_holds 6 = .ok (.ifCond .gt 34, 3) := by decide +kernel
theorem d_A_holds_9 : decode mb_A_holds 9 = .ok (.lload_n 1, 1) := by decide +kernel
theorem d_A_holds_10 : decode mb_A_holds 10 = .ok (.aload_n 0, 1) := by decide +kernel
theorem d_A_holds_11 : decode mb_A_holds 11 = .ok (.getfield 16, 3) := by decide +kernel
theorem d_A_holds_14 : decode mb_A_holds 14 = .ok (.lcmp, 1) := by decide +kernel
theorem d_A_holds_15 : decode mb_A_holds 15 = .ok (.ifCond .gt 25, 3) := by decide +kernel
theorem d_A_holds_18 : decode mb_A_holds 18 = .ok (.aload_n 0, 1) := by decide +kernel
theorem d_A_holds_19 : decode mb_A_holds 19 = .ok (.getfield 13, 3) := by decide +kernel
theorem d_A_holds_22 : decode mb_A_holds 22 = .ok (.lload_n 3, 1) := by decide +kernel
theorem d_A_holds_23 : decode mb_A_holds 23 = .ok (.lcmp, 1) := by decide +kernel
theorem d_A_holds_24 : decode mb_A_holds 24 = .ok (.ifCond .gt 16, 3) := by decide +kernel
theorem d_A_holds_27 : decode mb_A_holds 27 = .ok (.lload_n 3, 1) := by decide +kernel
theorem d_A_holds_28 : decode mb_A_holds 28 = .ok (.aload_n 0, 1) := by decide +kernel
theorem d_A_holds_29 : decode mb_A_holds 29 = .ok (.getfield 19, 3) := by decide +kernel
theorem d_A_holds_32 : decode mb_A_holds 32 = .ok (.lcmp, 1) := by decide +kernel
theorem d_A_holds_33 : decode mb_A_holds 33 = .ok (.ifCond .gt 7, 3) := by decide +kernel
theorem d_A_holds_36 : decode mb_A_holds 36 = .ok (.iconst 1, 1) := by decide +kernel
theorem d_A_holds_37 : decode mb_A_holds 37 = .ok (.goto 4, 3) := by decide +kernel
theorem d_A_holds_40 : decode mb_A_holds 40 = .ok (.iconst 0, 1) := by decide +kernel
theorem d_A_holds_41 : decode mb_A_holds 41 = .ok (.ireturn, 1) := by decide +kernel
theorem d_X_winner_0 : decode mb_X_winner 0 = .ok (.aload_n 0, 1) := by decide +kernel
theorem d_X_winner_1 : decode mb_X_winner 1 = .ok (.iload_n 1, 1) := by decide +kernel
theorem d_X_winner_2 : decode mb_X_winner 2 = .ok (.iload_n 2, 1) := by decide +kernel
theorem d_X_winner_3 : decode mb_X_winner 3 = .ok (.iload_n 3, 1) := by decide +kernel
theorem d_X_winner_4 : decode mb_X_winner 4 = .ok (.invokevirtual 152, 3) := by decide +kernel
theorem d_X_winner_7 : decode mb_X_winner 7 = .ok (.aload_n 0, 1) := by decide +kernel
theorem d_X_winner_8 : decode mb_X_winner 8 = .ok (.iload_n 1, 1) := by decide +kernel
theorem d_X_winner_9 : decode mb_X_winner 9 = .ok (.iload_n 2, 1) := by decide +kernel
theorem d_X_winner_10 : decode mb_X_winner 10 = .ok (.iload_n 3, 1) := by decide +kernel
theorem d_X_winner_11 : decode mb_X_winner 11 = .ok (.invokevirtual 156, 3) := by decide +kernel
theorem d_X_winner_14 : decode mb_X_winner 14 = .ok (.ireturn, 1) := by decide +kernel
theorem d_X_needKindAndThings_0 : decode mb_X_needKindAndThings 0 = .ok (.aload_n 0, 1) := by decide +kernel
theorem d_X_needKindAndThings_1 : decode mb_X_needKindAndThings 1 = .ok (.iload_n 1, 1) := by decide +kernel
theorem d_X_needKindAndThings_2 : decode mb_X_needKindAndThings 2 = .ok (.invokevirtual 57, 3) := by decide +kernel
theorem d_X_needKindAndThings_5 : decode mb_X_needKindAndThings 5 = .ok (.aload_n 0, 1) := by decide +kernel
theorem d_X_needKindAndThings_6 : decode mb_X_needKindAndThings 6 = .ok (.iload_n 2, 1) := by decide +kernel
theorem d_X_needKindAndThings_7 : decode mb_X_needKindAndThings 7 = .ok (.invokevirtual 129, 3) := by decide +kernel
theorem d_X_needKindAndThings_10 : decode mb_X_needKindAndThings 10 = .ok (.aload_n 0, 1) := by decide +kernel
theorem d_X_needKindAndThings_11 : decode mb_X_needKindAndThings 11 = .ok (.iload_n 3, 1) := by decide +kernel
theorem d_X_needKindAndThings_12 : decode mb_X_needKindAndThings 12 = .ok (.invokevirtual 129, 3) := by decide +kernel
theorem d_X_needKindAndThings_15 : decode mb_X_needKindAndThings 15 = .ok (.return_, 1) := by decide +kernel
theorem d_X_keptWinner_0 : decode mb_X_keptWinner 0 = .ok (.aload_n 0, 1) := by decide +kernel
theorem d_X_keptWinner_1 : decode mb_X_keptWinner 1 = .ok (.getfield 46, 3) := by decide +kernel
theorem d_X_keptWinner_4 : decode mb_X_keptWinner 4 = .ok (.iload_n 1, 1) := by decide +kernel
theorem d_X_keptWinner_5 : decode mb_X_keptWinner 5 = .ok (.iload_n 2, 1) := by decide +kernel
theorem d_X_keptWinner_6 : decode mb_X_keptWinner 6 = .ok (.iload_n 3, 1) := by decide +kernel
theorem d_X_keptWinner_7 : decode mb_X_keptWinner 7 = .ok (.invokevirtual 211, 3) := by decide +kernel
theorem d_X_keptWinner_10 : decode mb_X_keptWinner 10 = .ok (.ifCond .eq 24, 3) := by decide +kernel
theorem d_X_keptWinner_13 : decode mb_X_keptWinner 13 = .ok (.aload_n 0, 1) := by decide +kernel
theorem d_X_keptWinner_14 : decode mb_X_keptWinner 14 = .ok (.dup, 1) := by decide +kernel
theorem d_X_keptWinner_15 : decode mb_X_keptWinner 15 = .ok (.getfield 208, 3) := by decide +kernel
theorem d_X_keptWinner_18 : decode mb_X_keptWinner 18 = .ok (.lconst 1, 1) := by decide +kernel
theorem d_X_keptWinner_19 : decode mb_X_keptWinner 19 = .ok (.ladd, 1) := by decide +kernel
theorem d_X_keptWinner_20 : decode mb_X_keptWinner 20 = .ok (.putfield 208, 3) := by decide +kernel
theorem d_X_keptWinner_23 : decode mb_X_keptWinner 23 = .ok (.aload_n 0, 1) := by decide +kernel
theorem d_X_keptWinner_24 : decode mb_X_keptWinner 24 = .ok (.getfield 46, 3) := by decide +kernel
theorem d_X_keptWinner_27 : decode mb_X_keptWinner 27 = .ok (.iload_n 1, 1) := by decide +kernel
theorem d_X_keptWinner_28 : decode mb_X_keptWinner 28 = .ok (.iload_n 2, 1) := by decide +kernel
theorem d_X_keptWinner_29 : decode mb_X_keptWinner 29 = .ok (.iload_n 3, 1) := by decide +kernel
theorem d_X_keptWinner_30 : decode mb_X_keptWinner 30 = .ok (.invokevirtual 215, 3) := by decide +kernel
theorem d_X_keptWinner_33 : decode mb_X_keptWinner 33 = .ok (.ireturn, 1) := by decide +kernel
theorem d_X_keptWinner_34 : decode mb_X_keptWinner 34 = .ok (.aload_n 0, 1) := by decide +kernel
theorem d_X_keptWinner_35 : decode mb_X_keptWinner 35 = .ok (.iconst (-1), 1) := by decide +kernel
theorem d_X_keptWinner_36 : decode mb_X_keptWinner 36 = .ok (.iload_n 1, 1) := by decide +kernel
theorem d_X_keptWinner_37 : decode mb_X_keptWinner 37 = .ok (.aload_n 0, 1) := by decide +kernel
theorem d_X_keptWinner_38 : decode mb_X_keptWinner 38 = .ok (.getfield 38, 3) := by decide +kernel
theorem d_X_keptWinner_41 : decode mb_X_keptWinner 41 = .ok (.iload_n 2, 1) := by decide +kernel
theorem d_X_keptWinner_42 : decode mb_X_keptWinner 42 = .ok (.aaload, 1) := by decide +kernel
theorem d_X_keptWinner_43 : decode mb_X_keptWinner 43 = .ok (.aload_n 0, 1) := by decide +kernel
theorem d_X_keptWinner_44 : decode mb_X_keptWinner 44 = .ok (.getfield 38, 3) := by decide +kernel
theorem d_X_keptWinner_47 : decode mb_X_keptWinner 47 = .ok (.iload_n 3, 1) := by decide +kernel
theorem d_X_keptWinner_48 : decode mb_X_keptWinner 48 = .ok (.aaload, 1) := by decide +kernel
theorem d_X_keptWinner_49 : decode mb_X_keptWinner 49 = .ok (.invokevirtual 164, 3) := by decide +kernel
theorem d_X_keptWinner_52 : decode mb_X_keptWinner 52 = .ok (.istore 4, 2) := by decide +kernel
theorem d_X_keptWinner_54 : decode mb_X_keptWinner 54 = .ok (.aload_n 0, 1) := by decide +kernel
theorem d_X_keptWinner_55 : decode mb_X_keptWinner 55 = .ok (.getfield 46, 3) := by decide +kernel
theorem d_X_keptWinner_58 : decode mb_X_keptWinner 58 = .ok (.iload_n 1, 1) := by decide +kernel
theorem d_X_keptWinner_59 : decode mb_X_keptWinner 59 = .ok (.iload_n 2, 1) := by decide +kernel
theorem d_X_keptWinner_60 : decode mb_X_keptWinner 60 = .ok (.iload_n 3, 1) := by decide +kernel
theorem d_X_keptWinner_61 : decode mb_X_keptWinner 61 = .ok (.iload 4, 2) := by decide +kernel
theorem d_X_keptWinner_63 : decode mb_X_keptWinner 63 = .ok (.invokevirtual 218, 3) := by decide +kernel
theorem d_X_keptWinner_66 : decode mb_X_keptWinner 66 = .ok (.iload 4, 2) := by decide +kernel
theorem d_X_keptWinner_68 : decode mb_X_keptWinner 68 = .ok (.ireturn, 1) := by decide +kernel
theorem d_N_has_0 : decode mb_N_has 0 = .ok (.aload_n 0, 1) := by decide +kernel
theorem d_N_has_1 : decode mb_N_has 1 = .ok (.getfield 11, 3) := by decide +kernel
theorem d_N_has_4 : decode mb_N_has 4 = .ok (.iload_n 1, 1) := by decide +kernel
theorem d_N_has_5 : decode mb_N_has 5 = .ok (.iload_n 2, 1) := by decide +kernel
theorem d_N_has_6 : decode mb_N_has 6 = .ok (.iload_n 3, 1) := by decide +kernel
theorem d_N_has_7 : decode mb_N_has 7 = .ok (.invokestatic 15, 3) := by decide +kernel
theorem d_N_has_10 : decode mb_N_has 10 = .ok (.iaload, 1) := by decide +kernel
theorem d_N_has_11 : decode mb_N_has 11 = .ok (.ifCond .eq 7, 3) := by decide +kernel
theorem d_N_has_14 : decode mb_N_has 14 = .ok (.iconst 1, 1) := by decide +kernel
theorem d_N_has_15 : decode mb_N_has 15 = .ok (.goto 4, 3) := by decide +kernel
theorem d_N_has_18 : decode mb_N_has 18 = .ok (.iconst 0, 1) := by decide +kernel
theorem d_N_has_19 : decode mb_N_has 19 = .ok (.ireturn, 1) := by decide +kernel
theorem d_N_read_0 : decode mb_N_read 0 = .ok (.aload_n 0, 1) := by decide +kernel
theorem d_N_read_1 : decode mb_N_read 1 = .ok (.getfield 11, 3) := by decide +kernel
theorem d_N_read_4 : decode mb_N_read 4 = .ok (.iload_n 1, 1) := by decide +kernel
theorem d_N_read_5 : decode mb_N_read 5 = .ok (.iload_n 2, 1) := by decide +kernel
theorem d_N_read_6 : decode mb_N_read 6 = .ok (.iload_n 3, 1) := by decide +kernel
theorem d_N_read_7 : decode mb_N_read 7 = .ok (.invokestatic 15, 3) := by decide +kernel
theorem d_N_read_10 : decode mb_N_read 10 = .ok (.iaload, 1) := by decide +kernel
theorem d_N_read_11 : decode mb_N_read 11 = .ok (.iconst 2, 1) := by decide +kernel
theorem d_N_read_12 : decode mb_N_read 12 = .ok (.isub, 1) := by decide +kernel
theorem d_N_read_13 : decode mb_N_read 13 = .ok (.ireturn, 1) := by decide +kernel
theorem d_X_bestBelow_0 : decode mb_X_bestBelow 0 = .ok (.iconst (-1), 1) := by decide +kernel
theorem d_X_bestBelow_1 : decode mb_X_bestBelow 1 = .ok (.istore 5, 2) := by decide +kernel
theorem d_X_bestBelow_3 : decode mb_X_bestBelow 3 = .ok (.iconst 0, 1) := by decide +kernel
theorem d_X_bestBelow_4 : decode mb_X_bestBelow 4 = .ok (.istore 6, 2) := by decide +kernel
theorem d_X_bestBelow_6 : decode mb_X_bestBelow 6 = .ok (.iload 6, 2) := by decide +kernel
theorem d_X_bestBelow_8 : decode mb_X_bestBelow 8 = .ok (.aload_n 0, 1) := by decide +kernel
theorem d_X_bestBelow_9 : decode mb_X_bestBelow 9 = .ok (.getfield 71, 3) := by decide +kernel
theorem d_X_bestBelow_12 : decode mb_X_bestBelow 12 = .ok (.if_icmp .ge 75, 3) := by decide +kernel
theorem d_X_bestBelow_15 : decode mb_X_bestBelow 15 = .ok (.iload_n 1, 1) := by decide +kernel
theorem d_X_bestBelow_16 : decode mb_X_bestBelow 16 = .ok (.iconst (-1), 1) := by decide +kernel
theorem d_X_bestBelow_17 : decode mb_X_bestBelow 17 = .ok (.if_icmp .eq 13, 3) := by decide +kernel
theorem d_X_bestBelow_20 : decode mb_X_bestBelow 20 = .ok (.aload_n 0, 1) := by decide +kernel
theorem d_X_bestBelow_21 : decode mb_X_bestBelow 21 = .ok (.iload_n 1, 1) := by decide +kernel
theorem d_X_bestBelow_22 : decode mb_X_bestBelow 22 = .ok (.iload 6, 2) := by decide +kernel
theorem d_X_bestBelow_24 : decode mb_X_bestBelow 24 = .ok (.invokevirtual 222, 3) := by decide +kernel
theorem d_X_bestBelow_27 : decode mb_X_bestBelow 27 = .ok (.ifCond .eq 24, 3) := by decide +kernel
theorem d_X_bestBelow_30 : decode mb_X_bestBelow 30 = .ok (.iload 5, 2) := by decide +kernel
theorem d_X_bestBelow_32 : decode mb_X_bestBelow 32 = .ok (.iconst (-1), 1) := by decide +kernel
theorem d_X_bestBelow_33 : decode mb_X_bestBelow 33 = .ok (.if_icmp .eq 14, 3) := by decide +kernel
theorem d_X_bestBelow_36 : decode mb_X_bestBelow 36 = .ok (.aload_n 0, 1) := by decide +kernel
theorem d_X_bestBelow_37 : decode mb_X_bestBelow 37 = .ok (.iload 6, 2) := by decide +kernel
theorem d_X_bestBelow_39 : decode mb_X_bestBelow 39 = .ok (.iload 5, 2) := by decide +kernel
theorem d_X_bestBelow_41 : decode mb_X_bestBelow 41 = .ok (.invokevirtual 222, 3) := by decide +kernel
theorem d_X_bestBelow_44 : decode mb_X_bestBelow 44 = .ok (.ifCond .eq 7, 3) := by decide +kernel
theorem d_X_bestBelow_47 : decode mb_X_bestBelow 47 = .ok (.iconst 1, 1) := by decide +kernel
theorem d_X_bestBelow_48 : decode mb_X_bestBelow 48 = .ok (.goto 4, 3) := by decide +kernel
theorem d_X_bestBelow_51 : decode mb_X_bestBelow 51 = .ok (.iconst 0, 1) := by decide +kernel
theorem d_X_bestBelow_52 : decode mb_X_bestBelow 52 = .ok (.istore 7, 2) := by decide +kernel
theorem d_X_bestBelow_54 : decode mb_X_bestBelow 54 = .ok (.iload 7, 2) := by decide +kernel
theorem d_X_bestBelow_56 : decode mb_X_bestBelow 56 = .ok (.ifCond .eq 25, 3) := by decide +kernel
theorem d_X_bestBelow_59 : decode mb_X_bestBelow 59 = .ok (.aload_n 0, 1) := by decide +kernel
theorem d_X_bestBelow_60 : decode mb_X_bestBelow 60 = .ok (.aload_n 0, 1) := by decide +kernel
theorem d_X_bestBelow_61 : decode mb_X_bestBelow 61 = .ok (.getfield 24, 3) := by decide +kernel
theorem d_X_bestBelow_64 : decode mb_X_bestBelow 64 = .ok (.iload 6, 2) := by decide +kernel
theorem d_X_bestBelow_66 : decode mb_X_bestBelow 66 = .ok (.aaload, 1) := by decide +kernel
theorem d_X_bestBelow_67 : decode mb_X_bestBelow 67 = .ok (.iload_n 2, 1) := by decide +kernel
theorem d_X_bestBelow_68 : decode mb_X_bestBelow 68 = .ok (.aload_n 3, 1) := by decide +kernel
theorem d_X_bestBelow_69 : decode mb_X_bestBelow 69 = .ok (.aload 4, 2) := by decide +kernel
theorem d_X_bestBelow_71 : decode mb_X_bestBelow 71 = .ok (.invokevirtual 168, 3) := by decide +kernel
theorem d_X_bestBelow_74 : decode mb_X_bestBelow 74 = .ok (.ifCond .ne 7, 3) := by decide +kernel
theorem d_X_bestBelow_77 : decode mb_X_bestBelow 77 = .ok (.iload 6, 2) := by decide +kernel
theorem d_X_bestBelow_79 : decode mb_X_bestBelow 79 = .ok (.istore 5, 2) := by decide +kernel
theorem d_X_bestBelow_81 : decode mb_X_bestBelow 81 = .ok (.iinc 6 1, 3) := by decide +kernel
theorem d_X_bestBelow_84 : decode mb_X_bestBelow 84 = .ok (.goto (-78), 3) := by decide +kernel
theorem d_X_bestBelow_87 : decode mb_X_bestBelow 87 = .ok (.iload 5, 2) := by decide +kernel
theorem d_X_bestBelow_89 : decode mb_X_bestBelow 89 = .ok (.ireturn, 1) := by decide +kernel
theorem d_X_beats_0 : decode mb_X_beats 0 = .ok (.aload_n 0, 1) := by decide +kernel
theorem d_X_beats_1 : decode mb_X_beats 1 = .ok (.getfield 24, 3) := by decide +kernel
theorem d_X_beats_4 : decode mb_X_beats 4 = .ok (.iload_n 1, 1) := by decide +kernel
theorem d_X_beats_5 : decode mb_X_beats 5 = .ok (.aaload, 1) := by decide +kernel
theorem d_X_beats_6 : decode mb_X_beats 6 = .ok (.getfield 87, 3) := by decide +kernel
theorem d_X_beats_9 : decode mb_X_beats 9 = .ok (.istore_n 3, 1) := by decide +kernel
theorem d_X_beats_10 : decode mb_X_beats 10 = .ok (.aload_n 0, 1) := by decide +kernel
theorem d_X_beats_11 : decode mb_X_beats 11 = .ok (.getfield 24, 3) := by decide +kernel
theorem d_X_beats_14 : decode mb_X_beats 14 = .ok (.iload_n 2, 1) := by decide +kernel
theorem d_X_beats_15 : decode mb_X_beats 15 = .ok (.aaload, 1) := by decide +kernel
theorem d_X_beats_16 : decode mb_X_beats 16 = .ok (.getfield 87, 3) := by decide +kernel
theorem d_X_beats_19 : decode mb_X_beats 19 = .ok (.istore 4, 2) := by decide +kernel
theorem d_X_beats_21 : decode mb_X_beats 21 = .ok (.iload_n 3, 1) := by decide +kernel
theorem d_X_beats_22 : decode mb_X_beats 22 = .ok (.iload 4, 2) := by decide +kernel
theorem d_X_beats_24 : decode mb_X_beats 24 = .ok (.if_icmp .gt 14, 3) := by decide +kernel
theorem d_X_beats_27 : decode mb_X_beats 27 = .ok (.iload_n 3, 1) := by decide +kernel
theorem d_X_beats_28 : decode mb_X_beats 28 = .ok (.iload 4, 2) := by decide +kernel
theorem d_X_beats_30 : decode mb_X_beats 30 = .ok (.if_icmp .ne 12, 3) := by decide +kernel
theorem d_X_beats_33 : decode mb_X_beats 33 = .ok (.iload_n 1, 1) := by decide +kernel
theorem d_X_beats_34 : decode mb_X_beats 34 = .ok (.iload_n 2, 1) := by decide +kernel
theorem d_X_beats_35 : decode mb_X_beats 35 = .ok (.if_icmp .le 7, 3) := by decide +kernel
theorem d_X_beats_38 : decode mb_X_beats 38 = .ok (.iconst 1, 1) := by decide +kernel
theorem d_X_beats_39 : decode mb_X_beats 39 = .ok (.goto 4, 3) := by decide +kernel
theorem d_X_beats_42 : decode mb_X_beats 42 = .ok (.iconst 0, 1) := by decide +kernel
theorem d_X_beats_43 : decode mb_X_beats 43 = .ok (.ireturn, 1) := by decide +kernel
theorem d_X_hindrance_0 : decode mb_X_hindrance 0 = .ok (.aload_n 1, 1) := by decide +kernel
theorem d_X_hindrance_1 : decode mb_X_hindrance 1 = .ok (.getfield 90, 3) := by decide +kernel
theorem d_X_hindrance_4 : decode mb_X_hindrance 4 = .ok (.iload_n 2, 1) := by decide +kernel
theorem d_X_hindrance_5 : decode mb_X_hindrance 5 = .ok (.if_icmp .eq 5, 3) := by decide +kernel
theorem d_X_hindrance_8 : decode mb_X_hindrance 8 = .ok (.iconst 1, 1) := by decide +kernel
theorem d_X_hindrance_9 : decode mb_X_hindrance 9 = .ok (.ireturn, 1) := by decide +kernel
theorem d_X_hindrance_10 : decode mb_X_hindrance 10 = .ok (.aload_n 1, 1) := by decide +kernel
theorem d_X_hindrance_11 : decode mb_X_hindrance 11 = .ok (.aload_n 3, 1) := by decide +kernel
theorem d_X_hindrance_12 : decode mb_X_hindrance 12 = .ok (.getfield 132, 3) := by decide +kernel
theorem d_X_hindrance_15 : decode mb_X_hindrance 15 = .ok (.aload 4, 2) := by decide +kernel
theorem d_X_hindrance_17 : decode mb_X_hindrance 17 = .ok (.getfield 132, 3) := by decide +kernel
theorem d_X_hindrance_20 : decode mb_X_hindrance 20 = .ok (.invokevirtual 226, 3) := by decide +kernel
theorem d_X_hindrance_23 : decode mb_X_hindrance 23 = .ok (.ifCond .ne 5, 3) := by decide +kernel
theorem d_X_hindrance_26 : decode mb_X_hindrance 26 = .ok (.iconst 2, 1) := by decide +kernel
theorem d_X_hindrance_27 : decode mb_X_hindrance 27 = .ok (.ireturn, 1) := by decide +kernel
theorem d_X_hindrance_28 : decode mb_X_hindrance 28 = .ok (.aload_n 1, 1) := by decide +kernel
theorem d_X_hindrance_29 : decode mb_X_hindrance 29 = .ok (.aload_n 3, 1) := by decide +kernel
theorem d_X_hindrance_30 : decode mb_X_hindrance 30 = .ok (.getfield 135, 3) := by decide +kernel
theorem d_X_hindrance_33 : decode mb_X_hindrance 33 = .ok (.invokevirtual 174, 3) := by decide +kernel
theorem d_X_hindrance_36 : decode mb_X_hindrance 36 = .ok (.ifCond .eq 15, 3) := by decide +kernel
theorem d_X_hindrance_39 : decode mb_X_hindrance 39 = .ok (.aload_n 1, 1) := by decide +kernel
theorem d_X_hindrance_40 : decode mb_X_hindrance 40 = .ok (.aload 4, 2) := by decide +kernel
theorem d_X_hindrance_42 : decode mb_X_hindrance 42 = .ok (.getfield 135, 3) := by decide +kernel
theorem d_X_hindrance_45 : decode mb_X_hindrance 45 = .ok (.invokevirtual 174, 3) := by decide +kernel
theorem d_X_hindrance_48 : decode mb_X_hindrance 48 = .ok (.ifCond .ne 5, 3) := by decide +kernel
theorem d_X_hindrance_51 : decode mb_X_hindrance 51 = .ok (.iconst 3, 1) := by decide +kernel
theorem d_X_hindrance_52 : decode mb_X_hindrance 52 = .ok (.ireturn, 1) := by decide +kernel
theorem d_X_hindrance_53 : decode mb_X_hindrance 53 = .ok (.aload_n 1, 1) := by decide +kernel
theorem d_X_hindrance_54 : decode mb_X_hindrance 54 = .ok (.getfield 110, 3) := by decide +kernel
theorem d_X_hindrance_57 : decode mb_X_hindrance 57 = .ok (.iconst (-1), 1) := by decide +kernel
theorem d_X_hindrance_58 : decode mb_X_hindrance 58 = .ok (.if_icmp .eq 53, 3) := by decide +kernel
theorem d_X_hindrance_61 : decode mb_X_hindrance 61 = .ok (.aload_n 0, 1) := by decide +kernel
theorem d_X_hindrance_62 : decode mb_X_hindrance 62 = .ok (.getfield 31, 3) := by decide +kernel
theorem d_X_hindrance_65 : decode mb_X_hindrance 65 = .ok (.aload_n 1, 1) := by decide +kernel
theorem d_X_hindrance_66 : decode mb_X_hindrance 66 = .ok (.getfield 110, 3) := by decide +kernel
theorem d_X_hindrance_69 : decode mb_X_hindrance 69 = .ok (.aaload, 1) := by decide +kernel
theorem d_X_hindrance_70 : decode mb_X_hindrance 70 = .ok (.aload_n 3, 1) := by decide +kernel
theorem d_X_hindrance_71 : decode mb_X_hindrance 71 = .ok (.getfield 141, 3) := by decide +kernel
theorem d_X_hindrance_74 : decode mb_X_hindrance 74 = .ok (.aload_n 3, 1) := by decide +kernel
theorem d_X_hindrance_75 : decode mb_X_hindrance 75 = .ok (.getfield 145, 3) := by decide +kernel
theorem d_X_hindrance_78 : decode mb_X_hindrance 78 = .ok (.invokevirtual 229, 3) := by decide +kernel
theorem d_X_hindrance_81 : decode mb_X_hindrance 81 = .ok (.ifCond .eq 28, 3) := by decide +kernel
theorem d_X_hindrance_84 : decode mb_X_hindrance 84 = .ok (.aload_n 0, 1) := by decide +kernel
theorem d_X_hindrance_85 : decode mb_X_hindrance 85 = .ok (.getfield 31, 3) := by decide +kernel
theorem d_X_hindrance_88 : decode mb_X_hindrance 88 = .ok (.aload_n 1, 1) := by decide +kernel
theorem d_X_hindrance_89 : decode mb_X_hindrance 89 = .ok (.getfield 110, 3) := by decide +kernel
theorem d_X_hindrance_92 : decode mb_X_hindrance 92 = .ok (.aaload, 1) := by decide +kernel
theorem d_X_hindrance_93 : decode mb_X_hindrance 93 = .ok (.aload 4, 2) := by decide +kernel
theorem d_X_hindrance_95 : decode mb_X_hindrance 95 = .ok (.getfield 141, 3) := by decide +kernel
theorem d_X_hindrance_98 : decode mb_X_hindrance 98 = .ok (.aload 4, 2) := by decide +kernel
theorem d_X_hindrance_100 : decode mb_X_hindrance 100 = .ok (.getfield 145, 3) := by decide +kernel
theorem d_X_hindrance_103 : decode mb_X_hindrance 103 = .ok (.invokevirtual 229, 3) := by decide +kernel
theorem d_X_hindrance_106 : decode mb_X_hindrance 106 = .ok (.ifCond .ne 5, 3) := by decide +kernel
theorem d_X_hindrance_109 : decode mb_X_hindrance 109 = .ok (.iconst 4, 1) := by decide +kernel
theorem d_X_hindrance_110 : decode mb_X_hindrance 110 = .ok (.ireturn, 1) := by decide +kernel
theorem d_X_hindrance_111 : decode mb_X_hindrance 111 = .ok (.iconst 0, 1) := by decide +kernel
theorem d_X_hindrance_112 : decode mb_X_hindrance 112 = .ok (.ireturn, 1) := by decide +kernel
theorem d_R_isBetween_0 : decode mb_R_isBetween 0 = .ok (.aload_n 0, 1) := by decide +kernel
theorem d_R_isBetween_1 : decode mb_R_isBetween 1 = .ok (.getfield 18, 3) := by decide +kernel
theorem d_R_isBetween_4 : decode mb_R_isBetween 4 = .ok (.iload_n 1, 1) := by decide +kernel
theorem d_R_isBetween_5 : decode mb_R_isBetween 5 = .ok (.invokestatic 31, 3) := by decide +kernel
theorem d_R_isBetween_8 : decode mb_R_isBetween 8 = .ok (.ifCond .eq 14, 3) := by decide +kernel
theorem d_R_isBetween_11 : decode mb_R_isBetween 11 = .ok (.aload_n 0, 1) := by decide +kernel
theorem d_R_isBetween_12 : decode mb_R_isBetween 12 = .ok (.getfield 21, 3) := by decide +kernel
theorem d_R_isBetween_15 : decode mb_R_isBetween 15 = .ok (.iload_n 2, 1) := by decide +kernel
theorem d_R_isBetween_16 : decode mb_R_isBetween 16 = .ok (.invokestatic 31, 3) := by decide +kernel
theorem d_R_isBetween_19 : decode mb_R_isBetween 19 = .ok (.ifCond .ne 25, 3) := by decide +kernel
theorem d_R_isBetween_22 : decode mb_R_isBetween 22 = .ok (.aload_n 0, 1) := by decide +kernel
theorem d_R_isBetween_23 : decode mb_R_isBetween 23 = .ok (.getfield 18, 3) := by decide +kernel
theorem d_R_isBetween_26 : decode mb_R_isBetween 26 = .ok (.iload_n 2, 1) := by decide +kernel
theorem d_R_isBetween_27 : decode mb_R_isBetween 27 = .ok (.invokestatic 31, 3) := by decide +kernel
theorem d_R_isBetween_30 : decode mb_R_isBetween 30 = .ok (.ifCond .eq 18, 3) := by decide +kernel
theorem d_R_isBetween_33 : decode mb_R_isBetween 33 = .ok (.aload_n 0, 1) := by decide +kernel
theorem d_R_isBetween_34 : decode mb_R_isBetween 34 = .ok (.getfield 21, 3) := by decide +kernel
theorem d_R_isBetween_37 : decode mb_R_isBetween 37 = .ok (.iload_n 1, 1) := by decide +kernel
theorem d_R_isBetween_38 : decode mb_R_isBetween 38 = .ok (.invokestatic 31, 3) := by decide +kernel
theorem d_R_isBetween_41 : decode mb_R_isBetween 41 = .ok (.ifCond .eq 7, 3) := by decide +kernel
theorem d_R_isBetween_44 : decode mb_R_isBetween 44 = .ok (.iconst 1, 1) := by decide +kernel
theorem d_R_isBetween_45 : decode mb_R_isBetween 45 = .ok (.goto 4, 3) := by decide +kernel
theorem d_R_isBetween_48 : decode mb_R_isBetween 48 = .ok (.iconst 0, 1) := by decide +kernel
theorem d_R_isBetween_49 : decode mb_R_isBetween 49 = .ok (.ireturn, 1) := by decide +kernel
theorem d_R_fits_0 : decode mb_R_fits 0 = .ok (.iload_n 0, 1) := by decide +kernel
theorem d_R_fits_1 : decode mb_R_fits 1 = .ok (.iconst (-1), 1) := by decide +kernel
theorem d_R_fits_2 : decode mb_R_fits 2 = .ok (.if_icmp .eq 8, 3) := by decide +kernel
theorem d_R_fits_5 : decode mb_R_fits 5 = .ok (.iload_n 0, 1) := by decide +kernel
theorem d_R_fits_6 : decode mb_R_fits 6 = .ok (.iload_n 1, 1) := by decide +kernel
theorem d_R_fits_7 : decode mb_R_fits 7 = .ok (.if_icmp .ne 7, 3) := by decide +kernel
theorem d_R_fits_10 : decode mb_R_fits 10 = .ok (.iconst 1, 1) := by decide +kernel
theorem d_R_fits_11 : decode mb_R_fits 11 = .ok (.goto 4, 3) := by decide +kernel
theorem d_R_fits_14 : decode mb_R_fits 14 = .ok (.iconst 0, 1) := by decide +kernel
theorem d_R_fits_15 : decode mb_R_fits 15 = .ok (.ireturn, 1) := by decide +kernel
theorem d_R_isForLayer_0 : decode mb_R_isForLayer 0 = .ok (.aload_n 0, 1) := by decide +kernel
theorem d_R_isForLayer_1 : decode mb_R_isForLayer 1 = .ok (.getfield 24, 3) := by decide +kernel
theorem d_R_isForLayer_4 : decode mb_R_isForLayer 4 = .ok (.iload_n 1, 1) := by decide +kernel
theorem d_R_isForLayer_5 : decode mb_R_isForLayer 5 = .ok (.invokestatic 31, 3) := by decide +kernel
theorem d_R_isForLayer_8 : decode mb_R_isForLayer 8 = .ok (.ireturn, 1) := by decide +kernel
theorem d_N_keep_0 : decode mb_N_keep 0 = .ok (.iload_n 1, 1) := by decide +kernel
theorem d_N_keep_1 : decode mb_N_keep 1 = .ok (.iload_n 2, 1) := by decide +kernel
theorem d_N_keep_2 : decode mb_N_keep 2 = .ok (.iload_n 3, 1) := by decide +kernel
theorem d_N_keep_3 : decode mb_N_keep 3 = .ok (.invokestatic 15, 3) := by decide +kernel
theorem d_N_keep_6 : decode mb_N_keep 6 = .ok (.istore 5, 2) := by decide +kernel
theorem d_N_keep_8 : decode mb_N_keep 8 = .ok (.aload_n 0, 1) := by decide +kernel
theorem d_N_keep_9 : decode mb_N_keep 9 = .ok (.getfield 11, 3) := by decide +kernel
theorem d_N_keep_12 : decode mb_N_keep 12 = .ok (.iload 5, 2) := by decide +kernel
theorem d_N_keep_14 : decode mb_N_keep 14 = .ok (.iaload, 1) := by decide +kernel
theorem d_N_keep_15 : decode mb_N_keep 15 = .ok (.ifCond .ne 13, 3) := by decide +kernel
theorem d_N_keep_18 : decode mb_N_keep 18 = .ok (.aload_n 0, 1) := by decide +kernel
theorem d_N_keep_19 : decode mb_N_keep 19 = .ok (.dup, 1) := by decide +kernel
theorem d_N_keep_20 : decode mb_N_keep 20 = .ok (.getfield 19, 3) := by decide +kernel
theorem d_N_keep_23 : decode mb_N_keep 23 = .ok (.iconst 1, 1) := by decide +kernel
theorem d_N_keep_24 : decode mb_N_keep 24 = .ok (.iadd, 1) := by decide +kernel
theorem d_N_keep_25 : decode mb_N_keep 25 = .ok (.putfield 19, 3) := by decide +kernel
theorem d_N_keep_28 : decode mb_N_keep 28 = .ok (.aload_n 0, 1) := by decide +kernel
theorem d_N_keep_29 : decode mb_N_keep 29 = .ok (.getfield 11, 3) := by decide +kernel
theorem d_N_keep_32 : decode mb_N_keep 32 = .ok (.iload 5, 2) := by decide +kernel
theorem d_N_keep_34 : decode mb_N_keep 34 = .ok (.iload 4, 2) := by decide +kernel
theorem d_N_keep_36 : decode mb_N_keep 36 = .ok (.iconst 2, 1) := by decide +kernel
theorem d_N_keep_37 : decode mb_N_keep 37 = .ok (.iadd, 1) := by decide +kernel
theorem d_N_keep_38 : decode mb_N_keep 38 = .ok (.iastore, 1) := by decide +kernel
theorem d_N_keep_39 : decode mb_N_keep 39 = .ok (.return_, 1) := by decide +kernel
theorem d_X_value_0 : decode mb_X_value 0 = .ok (.aload_n 0, 1) := by decide +kernel
theorem d_X_value_1 : decode mb_X_value 1 = .ok (.iload_n 1, 1) := by decide +kernel
theorem d_X_value_2 : decode mb_X_value 2 = .ok (.iload_n 2, 1) := by decide +kernel
theorem d_X_value_3 : decode mb_X_value 3 = .ok (.iload_n 3, 1) := by decide +kernel
theorem d_X_value_4 : decode mb_X_value 4 = .ok (.invokevirtual 152, 3) := by decide +kernel
theorem d_X_value_7 : decode mb_X_value 7 = .ok (.aload_n 0, 1) := by decide +kernel
theorem d_X_value_8 : decode mb_X_value 8 = .ok (.aload_n 0, 1) := by decide +kernel
theorem d_X_value_9 : decode mb_X_value 9 = .ok (.iload_n 1, 1) := by decide +kernel
theorem d_X_value_10 : decode mb_X_value 10 = .ok (.iload_n 2, 1) := by decide +kernel
theorem d_X_value_11 : decode mb_X_value 11 = .ok (.iload_n 3, 1) := by decide +kernel
theorem d_X_value_12 : decode mb_X_value 12 = .ok (.invokevirtual 156, 3) := by decide +kernel
theorem d_X_value_15 : decode mb_X_value 15 = .ok (.invokevirtual 160, 3) := by decide +kernel
theorem d_X_value_18 : decode mb_X_value 18 = .ok (.lreturn, 1) := by decide +kernel
theorem d_X_valueOf_0 : decode mb_X_valueOf 0 = .ok (.iload_n 1, 1) := by decide +kernel
theorem d_X_valueOf_1 : decode mb_X_valueOf 1 = .ok (.iconst (-1), 1) := by decide +kernel
theorem d_X_valueOf_2 : decode mb_X_valueOf 2 = .ok (.if_icmp .ne 9, 3) := by decide +kernel
theorem d_X_valueOf_5 : decode mb_X_valueOf 5 = .ok (.ldc2_w 172, 3) := by decide +kernel
theorem d_X_valueOf_8 : decode mb_X_valueOf 8 = .ok (.goto 12, 3) := by decide +kernel
theorem d_X_valueOf_11 : decode mb_X_valueOf 11 = .ok (.aload_n 0, 1) := by decide +kernel
theorem d_X_valueOf_12 : decode mb_X_valueOf 12 = .ok (.getfield 24, 3) := by decide +kernel
theorem d_X_valueOf_15 : decode mb_X_valueOf 15 = .ok (.iload_n 1, 1) := by decide +kernel
theorem d_X_valueOf_16 : decode mb_X_valueOf 16 = .ok (.aaload, 1) := by decide +kernel
theorem d_X_valueOf_17 : decode mb_X_valueOf 17 = .ok (.getfield 178, 3) := by decide +kernel
theorem d_X_valueOf_20 : decode mb_X_valueOf 20 = .ok (.lreturn, 1) := by decide +kernel
theorem d_X_listed_0 : decode mb_X_listed 0 = .ok (.aload_n 0, 1) := by decide +kernel
theorem d_X_listed_1 : decode mb_X_listed 1 = .ok (.iload_n 1, 1) := by decide +kernel
theorem d_X_listed_2 : decode mb_X_listed 2 = .ok (.iload_n 2, 1) := by decide +kernel
theorem d_X_listed_3 : decode mb_X_listed 3 = .ok (.iload_n 3, 1) := by decide +kernel
theorem d_X_listed_4 : decode mb_X_listed 4 = .ok (.invokevirtual 152, 3) := by decide +kernel
theorem d_X_listed_7 : decode mb_X_listed 7 = .ok (.iload 4, 2) := by decide +kernel
theorem d_X_listed_9 : decode mb_X_listed 9 = .ok (.ifCond .lt 12, 3) := by decide +kernel
theorem d_X_listed_12 : decode mb_X_listed 12 = .ok (.iload 4, 2) := by decide +kernel
theorem d_X_listed_14 : decode mb_X_listed 14 = .ok (.aload_n 0, 1) := by decide +kernel
theorem d_X_listed_15 : decode mb_X_listed 15 = .ok (.getfield 71, 3) := by decide +kernel
theorem d_X_listed_18 : decode mb_X_listed 18 = .ok (.if_icmp .lt 5, 3) := by decide +kernel
theorem d_X_listed_21 : decode mb_X_listed 21 = .ok (.iconst (-1), 1) := by decide +kernel
theorem d_X_listed_22 : decode mb_X_listed 22 = .ok (.ireturn, 1) := by decide +kernel
theorem d_X_listed_23 : decode mb_X_listed 23 = .ok (.aload_n 0, 1) := by decide +kernel
theorem d_X_listed_24 : decode mb_X_listed 24 = .ok (.iconst (-1), 1) := by decide +kernel
theorem d_X_listed_25 : decode mb_X_listed 25 = .ok (.iload_n 1, 1) := by decide +kernel
theorem d_X_listed_26 : decode mb_X_listed 26 = .ok (.aload_n 0, 1) := by decide +kernel
theorem d_X_listed_27 : decode mb_X_listed 27 = .ok (.getfield 38, 3) := by decide +kernel
theorem d_X_listed_30 : decode mb_X_listed 30 = .ok (.iload_n 2, 1) := by decide +kernel
theorem d_X_listed_31 : decode mb_X_listed 31 = .ok (.aaload, 1) := by decide +kernel
theorem d_X_listed_32 : decode mb_X_listed 32 = .ok (.aload_n 0, 1) := by decide +kernel
theorem d_X_listed_33 : decode mb_X_listed 33 = .ok (.getfield 38, 3) := by decide +kernel
theorem d_X_listed_36 : decode mb_X_listed 36 = .ok (.iload_n 3, 1) := by decide +kernel
theorem d_X_listed_37 : decode mb_X_listed 37 = .ok (.aaload, 1) := by decide +kernel
theorem d_X_listed_38 : decode mb_X_listed 38 = .ok (.invokevirtual 164, 3) := by decide +kernel
theorem d_X_listed_41 : decode mb_X_listed 41 = .ok (.istore 5, 2) := by decide +kernel
theorem d_X_listed_43 : decode mb_X_listed 43 = .ok (.iconst 0, 1) := by decide +kernel
theorem d_X_listed_44 : decode mb_X_listed 44 = .ok (.istore 6, 2) := by decide +kernel
theorem d_X_listed_46 : decode mb_X_listed 46 = .ok (.iload 6, 2) := by decide +kernel
theorem d_X_listed_48 : decode mb_X_listed 48 = .ok (.iload 4, 2) := by decide +kernel
theorem d_X_listed_50 : decode mb_X_listed 50 = .ok (.if_icmp .ge 36, 3) := by decide +kernel
theorem d_X_listed_53 : decode mb_X_listed 53 = .ok (.iload 5, 2) := by decide +kernel
theorem d_X_listed_55 : decode mb_X_listed 55 = .ok (.iconst (-1), 1) := by decide +kernel
theorem d_X_listed_56 : decode mb_X_listed 56 = .ok (.if_icmp .eq 30, 3) := by decide +kernel
theorem d_X_listed_59 : decode mb_X_listed 59 = .ok (.aload_n 0, 1) := by decide +kernel
theorem d_X_listed_60 : decode mb_X_listed 60 = .ok (.iload 5, 2) := by decide +kernel
theorem d_X_listed_62 : decode mb_X_listed 62 = .ok (.iload_n 1, 1) := by decide +kernel
theorem d_X_listed_63 : decode mb_X_listed 63 = .ok (.aload_n 0, 1) := by decide +kernel
theorem d_X_listed_64 : decode mb_X_listed 64 = .ok (.getfield 38, 3) := by decide +kernel
theorem d_X_listed_67 : decode mb_X_listed 67 = .ok (.iload_n 2, 1) := by decide +kernel
theorem d_X_listed_68 : decode mb_X_listed 68 = .ok (.aaload, 1) := by decide +kernel
theorem d_X_listed_69 : decode mb_X_listed 69 = .ok (.aload_n 0, 1) := by decide +kernel
theorem d_X_listed_70 : decode mb_X_listed 70 = .ok (.getfield 38, 3) := by decide +kernel
theorem d_X_listed_73 : decode mb_X_listed 73 = .ok (.iload_n 3, 1) := by decide +kernel
theorem d_X_listed_74 : decode mb_X_listed 74 = .ok (.aaload, 1) := by decide +kernel
theorem d_X_listed_75 : decode mb_X_listed 75 = .ok (.invokevirtual 164, 3) := by decide +kernel
theorem d_X_listed_78 : decode mb_X_listed 78 = .ok (.istore 5, 2) := by decide +kernel
theorem d_X_listed_80 : decode mb_X_listed 80 = .ok (.iinc 6 1, 3) := by decide +kernel
theorem d_X_listed_83 : decode mb_X_listed 83 = .ok (.goto (-37), 3) := by decide +kernel
theorem d_X_listed_86 : decode mb_X_listed 86 = .ok (.iload 5, 2) := by decide +kernel
theorem d_X_listed_88 : decode mb_X_listed 88 = .ok (.ireturn, 1) := by decide +kernel
theorem d_X_why_0 : decode mb_X_why 0 = .ok (.aload_n 0, 1) := by decide +kernel
theorem d_X_why_1 : decode mb_X_why 1 = .ok (.iload_n 1, 1) := by decide +kernel
theorem d_X_why_2 : decode mb_X_why 2 = .ok (.iload_n 2, 1) := by decide +kernel
theorem d_X_why_3 : decode mb_X_why 3 = .ok (.iload_n 3, 1) := by decide +kernel
theorem d_X_why_4 : decode mb_X_why 4 = .ok (.invokevirtual 152, 3) := by decide +kernel
theorem d_X_why_7 : decode mb_X_why 7 = .ok (.aload_n 0, 1) := by decide +kernel
theorem d_X_why_8 : decode mb_X_why 8 = .ok (.iload 4, 2) := by decide +kernel
theorem d_X_why_10 : decode mb_X_why 10 = .ok (.invokevirtual 81, 3) := by decide +kernel
theorem d_X_why_13 : decode mb_X_why 13 = .ok (.aload_n 0, 1) := by decide +kernel
theorem d_X_why_14 : decode mb_X_why 14 = .ok (.aload_n 0, 1) := by decide +kernel
theorem d_X_why_15 : decode mb_X_why 15 = .ok (.getfield 24, 3) := by decide +kernel
theorem d_X_why_18 : decode mb_X_why 18 = .ok (.iload 4, 2) := by decide +kernel
theorem d_X_why_20 : decode mb_X_why 20 = .ok (.aaload, 1) := by decide +kernel
theorem d_X_why_21 : decode mb_X_why 21 = .ok (.iload_n 1, 1) := by decide +kernel
theorem d_X_why_22 : decode mb_X_why 22 = .ok (.aload_n 0, 1) := by decide +kernel
theorem d_X_why_23 : decode mb_X_why 23 = .ok (.getfield 38, 3) := by decide +kernel
theorem d_X_why_26 : decode mb_X_why 26 = .ok (.iload_n 2, 1) := by decide +kernel
theorem d_X_why_27 : decode mb_X_why 27 = .ok (.aaload, 1) := by decide +kernel
theorem d_X_why_28 : decode mb_X_why 28 = .ok (.aload_n 0, 1) := by decide +kernel
theorem d_X_why_29 : decode mb_X_why 29 = .ok (.getfield 38, 3) := by decide +kernel
theorem d_X_why_32 : decode mb_X_why 32 = .ok (.iload_n 3, 1) := by decide +kernel
theorem d_X_why_33 : decode mb_X_why 33 = .ok (.aaload, 1) := by decide +kernel
theorem d_X_why_34 : decode mb_X_why 34 = .ok (.invokevirtual 168, 3) := by decide +kernel
theorem d_X_why_37 : decode mb_X_why 37 = .ok (.istore 5, 2) := by decide +kernel
theorem d_X_why_39 : decode mb_X_why 39 = .ok (.iload 5, 2) := by decide +kernel
theorem d_X_why_41 : decode mb_X_why 41 = .ok (.ifCond .eq 6, 3) := by decide +kernel
theorem d_X_why_44 : decode mb_X_why 44 = .ok (.iload 5, 2) := by decide +kernel
theorem d_X_why_46 : decode mb_X_why 46 = .ok (.ireturn, 1) := by decide +kernel
theorem d_X_why_47 : decode mb_X_why 47 = .ok (.aload_n 0, 1) := by decide +kernel
theorem d_X_why_48 : decode mb_X_why 48 = .ok (.iconst (-1), 1) := by decide +kernel
theorem d_X_why_49 : decode mb_X_why 49 = .ok (.iload_n 1, 1) := by decide +kernel
theorem d_X_why_50 : decode mb_X_why 50 = .ok (.aload_n 0, 1) := by decide +kernel
theorem d_X_why_51 : decode mb_X_why 51 = .ok (.getfield 38, 3) := by decide +kernel
theorem d_X_why_54 : decode mb_X_why 54 = .ok (.iload_n 2, 1) := by decide +kernel
theorem d_X_why_55 : decode mb_X_why 55 = .ok (.aaload, 1) := by decide +kernel
theorem d_X_why_56 : decode mb_X_why 56 = .ok (.aload_n 0, 1) := by decide +kernel
theorem d_X_why_57 : decode mb_X_why 57 = .ok (.getfield 38, 3) := by decide +kernel
theorem d_X_why_60 : decode mb_X_why 60 = .ok (.iload_n 3, 1) := by decide +kernel
theorem d_X_why_61 : decode mb_X_why 61 = .ok (.aaload, 1) := by decide +kernel
theorem d_X_why_62 : decode mb_X_why 62 = .ok (.invokevirtual 164, 3) := by decide +kernel
theorem d_X_why_65 : decode mb_X_why 65 = .ok (.istore 6, 2) := by decide +kernel
theorem d_X_why_67 : decode mb_X_why 67 = .ok (.iload 6, 2) := by decide +kernel
theorem d_X_why_69 : decode mb_X_why 69 = .ok (.iconst (-1), 1) := by decide +kernel
theorem d_X_why_70 : decode mb_X_why 70 = .ok (.if_icmp .eq 10, 3) := by decide +kernel
theorem d_X_why_73 : decode mb_X_why 73 = .ok (.iload 6, 2) := by decide +kernel
theorem d_X_why_75 : decode mb_X_why 75 = .ok (.iload 4, 2) := by decide +kernel
theorem d_X_why_77 : decode mb_X_why 77 = .ok (.if_icmp .ne 5, 3) := by decide +kernel
theorem d_X_why_80 : decode mb_X_why 80 = .ok (.iconst 0, 1) := by decide +kernel
theorem d_X_why_81 : decode mb_X_why 81 = .ok (.ireturn, 1) := by decide +kernel
theorem d_X_why_82 : decode mb_X_why 82 = .ok (.aload_n 0, 1) := by decide +kernel
theorem d_X_why_83 : decode mb_X_why 83 = .ok (.getfield 24, 3) := by decide +kernel
theorem d_X_why_86 : decode mb_X_why 86 = .ok (.iload 4, 2) := by decide +kernel
theorem d_X_why_88 : decode mb_X_why 88 = .ok (.aaload, 1) := by decide +kernel
theorem d_X_why_89 : decode mb_X_why 89 = .ok (.getfield 87, 3) := by decide +kernel
theorem d_X_why_92 : decode mb_X_why 92 = .ok (.aload_n 0, 1) := by decide +kernel
theorem d_X_why_93 : decode mb_X_why 93 = .ok (.getfield 24, 3) := by decide +kernel
theorem d_X_why_96 : decode mb_X_why 96 = .ok (.iload 6, 2) := by decide +kernel
theorem d_X_why_98 : decode mb_X_why 98 = .ok (.aaload, 1) := by decide +kernel
theorem d_X_why_99 : decode mb_X_why 99 = .ok (.getfield 87, 3) := by decide +kernel
theorem d_X_why_102 : decode mb_X_why 102 = .ok (.if_icmp .ge 7, 3) := by decide +kernel
theorem d_X_why_105 : decode mb_X_why 105 = .ok (.iconst 5, 1) := by decide +kernel
theorem d_X_why_106 : decode mb_X_why 106 = .ok (.goto 5, 3) := by decide +kernel
theorem d_X_why_109 : decode mb_X_why 109 = .ok (.bipush 6, 2) := by decide +kernel
theorem d_X_why_111 : decode mb_X_why 111 = .ok (.ireturn, 1) := by decide +kernel
theorem d_X_greatest_0 : decode mb_X_greatest 0 = .ok (.aload_n 0, 1) := by decide +kernel
theorem d_X_greatest_1 : decode mb_X_greatest 1 = .ok (.iload_n 1, 1) := by decide +kernel
theorem d_X_greatest_2 : decode mb_X_greatest 2 = .ok (.invokevirtual 57, 3) := by decide +kernel
theorem d_X_greatest_5 : decode mb_X_greatest 5 = .ok (.aload_n 0, 1) := by decide +kernel
theorem d_X_greatest_6 : decode mb_X_greatest 6 = .ok (.iload_n 2, 1) := by decide +kernel
theorem d_X_greatest_7 : decode mb_X_greatest 7 = .ok (.invokevirtual 116, 3) := by decide +kernel
theorem d_X_greatest_10 : decode mb_X_greatest 10 = .ok (.ldc2_w 172, 3) := by decide +kernel
theorem d_X_greatest_13 : decode mb_X_greatest 13 = .ok (.lstore_n 3, 1) := by decide +kernel
theorem d_X_greatest_14 : decode mb_X_greatest 14 = .ok (.iconst 0, 1) := by decide +kernel
theorem d_X_greatest_15 : decode mb_X_greatest 15 = .ok (.istore 5, 2) := by decide +kernel
theorem d_X_greatest_17 : decode mb_X_greatest 17 = .ok (.iload 5, 2) := by decide +kernel
theorem d_X_greatest_19 : decode mb_X_greatest 19 = .ok (.aload_n 0, 1) := by decide +kernel
theorem d_X_greatest_20 : decode mb_X_greatest 20 = .ok (.getfield 71, 3) := by decide +kernel
theorem d_X_greatest_23 : decode mb_X_greatest 23 = .ok (.if_icmp .ge 52, 3) := by decide +kernel
theorem d_X_greatest_26 : decode mb_X_greatest 26 = .ok (.aload_n 0, 1) := by decide +kernel
theorem d_X_greatest_27 : decode mb_X_greatest 27 = .ok (.getfield 24, 3) := by decide +kernel
theorem d_X_greatest_30 : decode mb_X_greatest 30 = .ok (.iload 5, 2) := by decide +kernel
theorem d_X_greatest_32 : decode mb_X_greatest 32 = .ok (.aaload, 1) := by decide +kernel
theorem d_X_greatest_33 : decode mb_X_greatest 33 = .ok (.getfield 90, 3) := by decide +kernel
theorem d_X_greatest_36 : decode mb_X_greatest 36 = .ok (.iload_n 1, 1) := by decide +kernel
theorem d_X_greatest_37 : decode mb_X_greatest 37 = .ok (.if_icmp .ne 32, 3) := by decide +kernel
theorem d_X_greatest_40 : decode mb_X_greatest 40 = .ok (.aload_n 0, 1) := by decide +kernel
theorem d_X_greatest_41 : decode mb_X_greatest 41 = .ok (.getfield 24, 3) := by decide +kernel
theorem d_X_greatest_44 : decode mb_X_greatest 44 = .ok (.iload 5, 2) := by decide +kernel
theorem d_X_greatest_46 : decode mb_X_greatest 46 = .ok (.aaload, 1) := by decide +kernel
theorem d_X_greatest_47 : decode mb_X_greatest 47 = .ok (.iload_n 2, 1) := by decide +kernel
theorem d_X_greatest_48 : decode mb_X_greatest 48 = .ok (.invokevirtual 174, 3) := by decide +kernel
theorem d_X_greatest_51 : decode mb_X_greatest 51 = .ok (.ifCond .eq 18, 3) := by decide +kernel
theorem d_X_greatest_54 : decode mb_X_greatest 54 = .ok (.lload_n 3, 1) := by decide +kernel
theorem d_X_greatest_55 : decode mb_X_greatest 55 = .ok (.aload_n 0, 1) := by decide +kernel
theorem d_X_greatest_56 : decode mb_X_greatest 56 = .ok (.getfield 24, 3) := by decide +kernel
theorem d_X_greatest_59 : decode mb_X_greatest 59 = .ok (.iload 5, 2) := by decide +kernel
theorem d_X_greatest_61 : decode mb_X_greatest 61 = .ok (.aaload, 1) := by decide +kernel
theorem d_X_greatest_62 : decode mb_X_greatest 62 = .ok (.getfield 178, 3) := by decide +kernel
theorem d_X_greatest_65 : decode mb_X_greatest 65 = .ok (.invokestatic 181, 3) := by decide +kernel
theorem d_X_greatest_68 : decode mb_X_greatest 68 = .ok (.lstore_n 3, 1) := by decide +kernel
theorem d_X_greatest_69 : decode mb_X_greatest 69 = .ok (.iinc 5 1, 3) := by decide +kernel
theorem d_X_greatest_72 : decode mb_X_greatest 72 = .ok (.goto (-55), 3) := by decide +kernel
theorem d_X_greatest_75 : decode mb_X_greatest 75 = .ok (.lload_n 3, 1) := by decide +kernel
theorem d_X_greatest_76 : decode mb_X_greatest 76 = .ok (.lreturn, 1) := by decide +kernel
theorem d_X_close_0 : decode mb_X_close 0 = .ok (.aload_n 0, 1) := by decide +kernel
theorem d_X_close_1 : decode mb_X_close 1 = .ok (.iload_n 1, 1) := by decide +kernel
theorem d_X_close_2 : decode mb_X_close 2 = .ok (.invokevirtual 57, 3) := by decide +kernel
theorem d_X_close_5 : decode mb_X_close 5 = .ok (.aload_n 0, 1) := by decide +kernel
theorem d_X_close_6 : decode mb_X_close 6 = .ok (.getfield 53, 3) := by decide +kernel
theorem d_X_close_9 : decode mb_X_close 9 = .ok (.invokevirtual 184, 3) := by decide +kernel
theorem d_X_close_12 : decode mb_X_close 12 = .ok (.iconst 0, 1) := by decide +kernel
theorem d_X_close_13 : decode mb_X_close 13 = .ok (.istore_n 2, 1) := by decide +kernel
theorem d_X_close_14 : decode mb_X_close 14 = .ok (.iload_n 2, 1) := by decide +kernel
theorem d_X_close_15 : decode mb_X_close 15 = .ok (.aload_n 0, 1) := by decide +kernel
theorem d_X_close_16 : decode mb_X_close 16 = .ok (.getfield 119, 3) := by decide +kernel
theorem d_X_close_19 : decode mb_X_close 19 = .ok (.if_icmp .ge 56, 3) := by decide +kernel
theorem d_X_close_22 : decode mb_X_close 22 = .ok (.iload_n 2, 1) := by decide +kernel
theorem d_X_close_23 : decode mb_X_close 23 = .ok (.iconst 1, 1) := by decide +kernel
theorem d_X_close_24 : decode mb_X_close 24 = .ok (.iadd, 1) := by decide +kernel
theorem d_X_close_25 : decode mb_X_close 25 = .ok (.istore_n 3, 1) := by decide +kernel
theorem d_X_close_26 : decode mb_X_close 26 = .ok (.iload_n 3, 1) := by decide +kernel
theorem d_X_close_27 : decode mb_X_close 27 = .ok (.aload_n 0, 1) := by decide +kernel
theorem d_X_close_28 : decode mb_X_close 28 = .ok (.getfield 119, 3) := by decide +kernel
theorem d_X_close_31 : decode mb_X_close 31 = .ok (.if_icmp .ge 38, 3) := by decide +kernel
theorem d_X_close_34 : decode mb_X_close 34 = .ok (.aload_n 0, 1) := by decide +kernel
theorem d_X_close_35 : decode mb_X_close 35 = .ok (.iload_n 1, 1) := by decide +kernel
theorem d_X_close_36 : decode mb_X_close 36 = .ok (.aload_n 0, 1) := by decide +kernel
theorem d_X_close_37 : decode mb_X_close 37 = .ok (.getfield 38, 3) := by decide +kernel
theorem d_X_close_40 : decode mb_X_close 40 = .ok (.iload_n 2, 1) := by decide +kernel
theorem d_X_close_41 : decode mb_X_close 41 = .ok (.aaload, 1) := by decide +kernel
theorem d_X_close_42 : decode mb_X_close 42 = .ok (.aload_n 0, 1) := by decide +kernel
theorem d_X_close_43 : decode mb_X_close 43 = .ok (.getfield 38, 3) := by decide +kernel
theorem d_X_close_46 : decode mb_X_close 46 = .ok (.iload_n 3, 1) := by decide +kernel
theorem d_X_close_47 : decode mb_X_close 47 = .ok (.aaload, 1) := by decide +kernel
theorem d_X_close_48 : decode mb_X_close 48 = .ok (.invokevirtual 187, 3) := by decide +kernel
theorem d_X_close_51 : decode mb_X_close 51 = .ok (.ifCond .eq 12, 3) := by decide +kernel
theorem d_X_close_54 : decode mb_X_close 54 = .ok (.aload_n 0, 1) := by decide +kernel
theorem d_X_close_55 : decode mb_X_close 55 = .ok (.getfield 53, 3) := by decide +kernel
theorem d_X_close_58 : decode mb_X_close 58 = .ok (.iload_n 2, 1) := by decide +kernel
theorem d_X_close_59 : decode mb_X_close 59 = .ok (.iload_n 3, 1) := by decide +kernel
theorem d_X_close_60 : decode mb_X_close 60 = .ok (.invokevirtual 191, 3) := by decide +kernel
theorem d_X_close_63 : decode mb_X_close 63 = .ok (.iinc 3 1, 3) := by decide +kernel
theorem d_X_close_66 : decode mb_X_close 66 = .ok (.goto (-40), 3) := by decide +kernel
theorem d_X_close_69 : decode mb_X_close 69 = .ok (.iinc 2 1, 3) := by decide +kernel
theorem d_X_close_72 : decode mb_X_close 72 = .ok (.goto (-58), 3) := by decide +kernel
theorem d_X_close_75 : decode mb_X_close 75 = .ok (.aload_n 0, 1) := by decide +kernel
theorem d_X_close_76 : decode mb_X_close 76 = .ok (.getfield 53, 3) := by decide +kernel
theorem d_X_close_79 : decode mb_X_close 79 = .ok (.getfield 194, 3) := by decide +kernel
theorem d_X_close_82 : decode mb_X_close 82 = .ok (.ireturn, 1) := by decide +kernel
theorem d_P_clear_0 : decode mb_P_clear 0 = .ok (.aload_n 0, 1) := by decide +kernel
theorem d_P_clear_1 : decode mb_P_clear 1 = .ok (.iconst 0, 1) := by decide +kernel
theorem d_P_clear_2 : decode mb_P_clear 2 = .ok (.putfield 18, 3) := by decide +kernel
theorem d_P_clear_5 : decode mb_P_clear 5 = .ok (.return_, 1) := by decide +kernel
theorem d_X_areTooNear_0 : decode mb_X_areTooNear 0 = .ok (.aload_n 2, 1) := by decide +kernel
theorem d_X_areTooNear_1 : decode mb_X_areTooNear 1 = .ok (.getfield 135, 3) := by decide +kernel
theorem d_X_areTooNear_4 : decode mb_X_areTooNear 4 = .ok (.aload_n 3, 1) := by decide +kernel
theorem d_X_areTooNear_5 : decode mb_X_areTooNear 5 = .ok (.getfield 135, 3) := by decide +kernel
theorem d_X_areTooNear_8 : decode mb_X_areTooNear 8 = .ok (.if_icmp .eq 5, 3) := by decide +kernel
theorem d_X_areTooNear_11 : decode mb_X_areTooNear 11 = .ok (.iconst 0, 1) := by decide +kernel
theorem d_X_areTooNear_12 : decode mb_X_areTooNear 12 = .ok (.ireturn, 1) := by decide +kernel
theorem d_X_areTooNear_13 : decode mb_X_areTooNear 13 = .ok (.aload_n 0, 1) := by decide +kernel
theorem d_X_areTooNear_14 : decode mb_X_areTooNear 14 = .ok (.iconst (-1), 1) := by decide +kernel
theorem d_X_areTooNear_15 : decode mb_X_areTooNear 15 = .ok (.iload_n 1, 1) := by decide +kernel
theorem d_X_areTooNear_16 : decode mb_X_areTooNear 16 = .ok (.aload_n 2, 1) := by decide +kernel
theorem d_X_areTooNear_17 : decode mb_X_areTooNear 17 = .ok (.aload_n 3, 1) := by decide +kernel
theorem d_X_areTooNear_18 : decode mb_X_areTooNear 18 = .ok (.invokevirtual 164, 3) := by decide +kernel
theorem d_X_areTooNear_21 : decode mb_X_areTooNear 21 = .ok (.istore 4, 2) := by decide +kernel
theorem d_X_areTooNear_23 : decode mb_X_areTooNear 23 = .ok (.iload 4, 2) := by decide +kernel
theorem d_X_areTooNear_25 : decode mb_X_areTooNear 25 = .ok (.iconst (-1), 1) := by decide +kernel
theorem d_X_areTooNear_26 : decode mb_X_areTooNear 26 = .ok (.if_icmp .ne 5, 3) := by decide +kernel
theorem d_X_areTooNear_29 : decode mb_X_areTooNear 29 = .ok (.iconst 0, 1) := by decide +kernel
theorem d_X_areTooNear_30 : decode mb_X_areTooNear 30 = .ok (.ireturn, 1) := by decide +kernel
theorem d_X_areTooNear_31 : decode mb_X_areTooNear 31 = .ok (.aload_n 0, 1) := by decide +kernel
theorem d_X_areTooNear_32 : decode mb_X_areTooNear 32 = .ok (.getfield 24, 3) := by decide +kernel
theorem d_X_areTooNear_35 : decode mb_X_areTooNear 35 = .ok (.iload 4, 2) := by decide +kernel
theorem d_X_areTooNear_37 : decode mb_X_areTooNear 37 = .ok (.aaload, 1) := by decide +kernel
theorem d_X_areTooNear_38 : decode mb_X_areTooNear 38 = .ok (.getfield 178, 3) := by decide +kernel
theorem d_X_areTooNear_41 : decode mb_X_areTooNear 41 = .ok (.lstore 5, 2) := by decide +kernel
theorem d_X_areTooNear_43 : decode mb_X_areTooNear 43 = .ok (.aload_n 2, 1) := by decide +kernel
theorem d_X_areTooNear_44 : decode mb_X_areTooNear 44 = .ok (.getfield 141, 3) := by decide +kernel
theorem d_X_areTooNear_47 : decode mb_X_areTooNear 47 = .ok (.aload_n 3, 1) := by decide +kernel
theorem d_X_areTooNear_48 : decode mb_X_areTooNear 48 = .ok (.getfield 141, 3) := by decide +kernel
theorem d_X_areTooNear_51 : decode mb_X_areTooNear 51 = .ok (.lsub, 1) := by decide +kernel
theorem d_X_areTooNear_52 : decode mb_X_areTooNear 52 = .ok (.lstore 7, 2) := by decide +kernel
theorem d_X_areTooNear_54 : decode mb_X_areTooNear 54 = .ok (.aload_n 2, 1) := by decide +kernel
theorem d_X_areTooNear_55 : decode mb_X_areTooNear 55 = .ok (.getfield 145, 3) := by decide +kernel
theorem d_X_areTooNear_58 : decode mb_X_areTooNear 58 = .ok (.aload_n 3, 1) := by decide +kernel
theorem d_X_areTooNear_59 : decode mb_X_areTooNear 59 = .ok (.getfield 145, 3) := by decide +kernel
theorem d_X_areTooNear_62 : decode mb_X_areTooNear 62 = .ok (.lsub, 1) := by decide +kernel
theorem d_X_areTooNear_63 : decode mb_X_areTooNear 63 = .ok (.lstore 9, 2) := by decide +kernel
theorem d_X_areTooNear_65 : decode mb_X_areTooNear 65 = .ok (.lload 7, 2) := by decide +kernel
theorem d_X_areTooNear_67 : decode mb_X_areTooNear 67 = .ok (.lload 7, 2) := by decide +kernel
theorem d_X_areTooNear_69 : decode mb_X_areTooNear 69 = .ok (.lmul, 1) := by decide +kernel
theorem d_X_areTooNear_70 : decode mb_X_areTooNear 70 = .ok (.lload 9, 2) := by decide +kernel
theorem d_X_areTooNear_72 : decode mb_X_areTooNear 72 = .ok (.lload 9, 2) := by decide +kernel
theorem d_X_areTooNear_74 : decode mb_X_areTooNear 74 = .ok (.lmul, 1) := by decide +kernel
theorem d_X_areTooNear_75 : decode mb_X_areTooNear 75 = .ok (.ladd, 1) := by decide +kernel
theorem d_X_areTooNear_76 : decode mb_X_areTooNear 76 = .ok (.lload 5, 2) := by decide +kernel
theorem d_X_areTooNear_78 : decode mb_X_areTooNear 78 = .ok (.lload 5, 2) := by decide +kernel
theorem d_X_areTooNear_80 : decode mb_X_areTooNear 80 = .ok (.lmul, 1) := by decide +kernel
theorem d_X_areTooNear_81 : decode mb_X_areTooNear 81 = .ok (.lcmp, 1) := by decide +kernel
theorem d_X_areTooNear_82 : decode mb_X_areTooNear 82 = .ok (.ifCond .ge 7, 3) := by decide +kernel
theorem d_X_areTooNear_85 : decode mb_X_areTooNear 85 = .ok (.iconst 1, 1) := by decide +kernel
theorem d_X_areTooNear_86 : decode mb_X_areTooNear 86 = .ok (.goto 4, 3) := by decide +kernel
theorem d_X_areTooNear_89 : decode mb_X_areTooNear 89 = .ok (.iconst 0, 1) := by decide +kernel
theorem d_X_areTooNear_90 : decode mb_X_areTooNear 90 = .ok (.ireturn, 1) := by decide +kernel
theorem d_P_add_0 : decode mb_P_add 0 = .ok (.aload_n 0, 1) := by decide +kernel
theorem d_P_add_1 : decode mb_P_add 1 = .ok (.getfield 18, 3) := by decide +kernel
theorem d_P_add_4 : decode mb_P_add 4 = .ok (.sipush 780, 3) := by decide +kernel
theorem d_P_add_7 : decode mb_P_add 7 = .ok (.if_icmp .ge 33, 3) := by decide +kernel
theorem d_P_add_10 : decode mb_P_add 10 = .ok (.aload_n 0, 1) := by decide +kernel
theorem d_P_add_11 : decode mb_P_add 11 = .ok (.getfield 11, 3) := by decide +kernel
theorem d_P_add_14 : decode mb_P_add 14 = .ok (.aload_n 0, 1) := by decide +kernel
theorem d_P_add_15 : decode mb_P_add 15 = .ok (.getfield 18, 3) := by decide +kernel
theorem d_P_add_18 : decode mb_P_add 18 = .ok (.iload_n 1, 1) := by decide +kernel
theorem d_P_add_19 : decode mb_P_add 19 = .ok (.iastore, 1) := by decide +kernel
theorem d_P_add_20 : decode mb_P_add 20 = .ok (.aload_n 0, 1) := by decide +kernel
theorem d_P_add_21 : decode mb_P_add 21 = .ok (.getfield 15, 3) := by decide +kernel
theorem d_P_add_24 : decode mb_P_add 24 = .ok (.aload_n 0, 1) := by decide +kernel
theorem d_P_add_25 : decode mb_P_add 25 = .ok (.getfield 18, 3) := by decide +kernel
theorem d_P_add_28 : decode mb_P_add 28 = .ok (.iload_n 2, 1) := by decide +kernel
theorem d_P_add_29 : decode mb_P_add 29 = .ok (.iastore, 1) := by decide +kernel
theorem d_P_add_30 : decode mb_P_add 30 = .ok (.aload_n 0, 1) := by decide +kernel
theorem d_P_add_31 : decode mb_P_add 31 = .ok (.dup, 1) := by decide +kernel
theorem d_P_add_32 : decode mb_P_add 32 = .ok (.getfield 18, 3) := by decide +kernel
theorem d_P_add_35 : decode mb_P_add 35 = .ok (.iconst 1, 1) := by decide +kernel
theorem d_P_add_36 : decode mb_P_add 36 = .ok (.iadd, 1) := by decide +kernel
theorem d_P_add_37 : decode mb_P_add 37 = .ok (.putfield 18, 3) := by decide +kernel
theorem d_P_add_40 : decode mb_P_add 40 = .ok (.return_, 1) := by decide +kernel
theorem d_X_pair_0 : decode mb_X_pair 0 = .ok (.aload_n 0, 1) := by decide +kernel
theorem d_X_pair_1 : decode mb_X_pair 1 = .ok (.iload_n 2, 1) := by decide +kernel
theorem d_X_pair_2 : decode mb_X_pair 2 = .ok (.invokevirtual 197, 3) := by decide +kernel
theorem d_X_pair_5 : decode mb_X_pair 5 = .ok (.iload_n 1, 1) := by decide +kernel
theorem d_X_pair_6 : decode mb_X_pair 6 = .ok (.ifCond .lt 14, 3) := by decide +kernel
theorem d_X_pair_9 : decode mb_X_pair 9 = .ok (.iload_n 1, 1) := by decide +kernel
theorem d_X_pair_10 : decode mb_X_pair 10 = .ok (.aload_n 0, 1) := by decide +kernel
theorem d_X_pair_11 : decode mb_X_pair 11 = .ok (.getfield 53, 3) := by decide +kernel
theorem d_X_pair_14 : decode mb_X_pair 14 = .ok (.getfield 194, 3) := by decide +kernel
theorem d_X_pair_17 : decode mb_X_pair 17 = .ok (.if_icmp .lt 5, 3) := by decide +kernel
theorem d_X_pair_20 : decode mb_X_pair 20 = .ok (.iconst (-1), 1) := by decide +kernel
theorem d_X_pair_21 : decode mb_X_pair 21 = .ok (.ireturn, 1) := by decide +kernel
theorem d_X_pair_22 : decode mb_X_pair 22 = .ok (.iload_n 2, 1) := by decide +kernel
theorem d_X_pair_23 : decode mb_X_pair 23 = .ok (.ifCond .ne 15, 3) := by decide +kernel
theorem d_X_pair_26 : decode mb_X_pair 26 = .ok (.aload_n 0, 1) := by decide +kernel
theorem d_X_pair_27 : decode mb_X_pair 27 = .ok (.getfield 53, 3) := by decide +kernel
theorem d_X_pair_30 : decode mb_X_pair 30 = .ok (.getfield 200, 3) := by decide +kernel
theorem d_X_pair_33 : decode mb_X_pair 33 = .ok (.iload_n 1, 1) := by decide +kernel
theorem d_X_pair_34 : decode mb_X_pair 34 = .ok (.iaload, 1) := by decide +kernel
theorem d_X_pair_35 : decode mb_X_pair 35 = .ok (.goto 12, 3) := by decide +kernel
theorem d_X_pair_38 : decode mb_X_pair 38 = .ok (.aload_n 0, 1) := by decide +kernel
theorem d_X_pair_39 : decode mb_X_pair 39 = .ok (.getfield 53, 3) := by decide +kernel
theorem d_X_pair_42 : decode mb_X_pair 42 = .ok (.getfield 204, 3) := by decide +kernel
theorem d_X_pair_45 : decode mb_X_pair 45 = .ok (.iload_n 1, 1) := by decide +kernel
theorem d_X_pair_46 : decode mb_X_pair 46 = .ok (.iaload, 1) := by decide +kernel
theorem d_X_pair_47 : decode mb_X_pair 47 = .ok (.ireturn, 1) := by decide +kernel
theorem d_X_needSide_0 : decode mb_X_needSide 0 = .ok (.iload_n 1, 1) := by decide +kernel
theorem d_X_needSide_1 : decode mb_X_needSide 1 = .ok (.ifCond .eq 18, 3) := by decide +kernel
theorem d_X_needSide_4 : decode mb_X_needSide 4 = .ok (.iload_n 1, 1) := by decide +kernel
theorem d_X_needSide_5 : decode mb_X_needSide 5 = .ok (.iconst 1, 1) := by decide +kernel
theorem d_X_needSide_6 : decode mb_X_needSide 6 = .ok (.if_icmp .eq 13, 3) := by decide +kernel
theorem d_X_needSide_9 : decode mb_X_needSide 9 = .ok (.new 233, 3) := by decide +kernel
theorem d_X_needSide_12 : decode mb_X_needSide 12 = .ok (.dup, 1) := by decide +kernel
theorem d_X_needSide_13 : decode mb_X_needSide 13 = .ok (.ldc 250, 2) := by decide +kernel
theorem d_X_needSide_15 : decode mb_X_needSide 15 = .ok (.invokespecial 237, 3) := by decide +kernel
theorem d_X_needSide_18 : decode mb_X_needSide 18 = .ok (.athrow, 1) := by decide +kernel
theorem d_X_needSide_19 : decode mb_X_needSide 19 = .ok (.return_, 1) := by decide +kernel
