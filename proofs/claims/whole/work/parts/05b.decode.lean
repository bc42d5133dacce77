theorem d_M_init_0 : decode mb_M_init 0 = .ok (.aload_n 0, 1) := by decide +kernel
theorem d_M_init_1 : decode mb_M_init 1 = .ok (.invokespecial 1, 3) := by decide +kernel
theorem d_M_init_4 : decode mb_M_init 4 = .ok (.aload_n 0, 1) := by decide +kernel
theorem d_M_init_5 : decode mb_M_init 5 = .ok (.bipush 40, 2) := by decide +kernel
theorem d_M_init_7 : decode mb_M_init 7 = .ok (.newarray .int, 2) := by decide +kernel
theorem d_M_init_9 : decode mb_M_init 9 = .ok (.putfield 7, 3) := by decide +kernel
theorem d_M_init_12 : decode mb_M_init 12 = .ok (.aload_n 0, 1) := by decide +kernel
theorem d_M_init_13 : decode mb_M_init 13 = .ok (.bipush 40, 2) := by decide +kernel
theorem d_M_init_15 : decode mb_M_init 15 = .ok (.newarray .int, 2) := by decide +kernel
theorem d_M_init_17 : decode mb_M_init 17 = .ok (.putfield 13, 3) := by decide +kernel
theorem d_M_init_20 : decode mb_M_init 20 = .ok (.aload_n 0, 1) := by decide +kernel
theorem d_M_init_21 : decode mb_M_init 21 = .ok (.bipush 40, 2) := by decide +kernel
theorem d_M_init_23 : decode mb_M_init 23 = .ok (.newarray .int, 2) := by decide +kernel
theorem d_M_init_25 : decode mb_M_init 25 = .ok (.putfield 16, 3) := by decide +kernel
theorem d_M_init_28 : decode mb_M_init 28 = .ok (.aload_n 0, 1) := by decide +kernel
theorem d_M_init_29 : decode mb_M_init 29 = .ok (.bipush 40, 2) := by decide +kernel
theorem d_M_init_31 : decode mb_M_init 31 = .ok (.newarray .int, 2) := by decide +kernel
theorem d_M_init_33 : decode mb_M_init 33 = .ok (.putfield 19, 3) := by decide +kernel
theorem d_M_init_36 : decode mb_M_init 36 = .ok (.aload_n 0, 1) := by decide +kernel
theorem d_M_init_37 : decode mb_M_init 37 = .ok (.bipush 40, 2) := by decide +kernel
theorem d_M_init_39 : decode mb_M_init 39 = .ok (.newarray .long, 2) := by decide +kernel
theorem d_M_init_41 : decode mb_M_init 41 = .ok (.putfield 22, 3) := by decide +kernel
theorem d_M_init_44 : decode mb_M_init 44 = .ok (.aload_n 0, 1) := by decide +kernel
theorem d_M_init_45 : decode mb_M_init 45 = .ok (.bipush 40, 2) := by decide +kernel
theorem d_M_init_47 : decode mb_M_init 47 = .ok (.newarray .int, 2) := by decide +kernel
theorem d_M_init_49 : decode mb_M_init 49 = .ok (.putfield 26, 3) := by decide +kernel
theorem d_M_init_52 : decode mb_M_init 52 = .ok (.aload_n 0, 1) := by decide +kernel
theorem d_M_init_53 : decode mb_M_init 53 = .ok (.bipush 40, 2) := by decide +kernel
theorem d_M_init_55 : decode mb_M_init 55 = .ok (.newarray .int, 2) := by decide +kernel
theorem d_M_init_57 : decode mb_M_init 57 = .ok (.putfield 29, 3) := by decide +kernel
theorem d_M_init_60 : decode mb_M_init 60 = .ok (.aload_n 0, 1) := by decide +kernel
theorem d_M_init_61 : decode mb_M_init 61 = .ok (.bipush 48, 2) := by decide +kernel
theorem d_M_init_63 : decode mb_M_init 63 = .ok (.newarray .long, 2) := by decide +kernel
theorem d_M_init_65 : decode mb_M_init 65 = .ok (.putfield 32, 3) := by decide +kernel
theorem d_M_init_68 : decode mb_M_init 68 = .ok (.aload_n 0, 1) := by decide +kernel
theorem d_M_init_69 : decode mb_M_init 69 = .ok (.bipush 40, 2) := by decide +kernel
theorem d_M_init_71 : decode mb_M_init 71 = .ok (.newarray .int, 2) := by decide +kernel
theorem d_M_init_73 : decode mb_M_init 73 = .ok (.putfield 35, 3) := by decide +kernel
theorem d_M_init_76 : decode mb_M_init 76 = .ok (.aload_n 0, 1) := by decide +kernel
theorem d_M_init_77 : decode mb_M_init 77 = .ok (.bipush 40, 2) := by decide +kernel
theorem d_M_init_79 : decode mb_M_init 79 = .ok (.newarray .int, 2) := by decide +kernel
theorem d_M_init_81 : decode mb_M_init 81 = .ok (.putfield 38, 3) := by decide +kernel
theorem d_M_init_84 : decode mb_M_init 84 = .ok (.aload_n 0, 1) := by decide +kernel
theorem d_M_init_85 : decode mb_M_init 85 = .ok (.bipush 40, 2) := by decide +kernel
theorem d_M_init_87 : decode mb_M_init 87 = .ok (.newarray .long, 2) := by decide +kernel
theorem d_M_init_89 : decode mb_M_init 89 = .ok (.putfield 41, 3) := by decide +kernel
theorem d_M_init_92 : decode mb_M_init 92 = .ok (.aload_n 0, 1) := by decide +kernel
theorem d_M_init_93 : decode mb_M_init 93 = .ok (.bipush 40, 2) := by decide +kernel
theorem d_M_init_95 : decode mb_M_init 95 = .ok (.newarray .long, 2) := by decide +kernel
theorem d_M_init_97 : decode mb_M_init 97 = .ok (.putfield 44, 3) := by decide +kernel
theorem d_M_init_100 : decode mb_M_init 100 = .ok (.aload_n 0, 1) := by decide +kernel
theorem d_M_init_101 : decode mb_M_init 101 = .ok (.sipush 9600, 3) := by decide +kernel
theorem d_M_init_104 : decode mb_M_init 104 = .ok (.newarray .boolean, 2) := by decide +kernel
theorem d_M_init_106 : decode mb_M_init 106 = .ok (.putfield 47, 3) := by decide +kernel
theorem d_M_init_109 : decode mb_M_init 109 = .ok (.aload_n 0, 1) := by decide +kernel
theorem d_M_init_110 : decode mb_M_init 110 = .ok (.sipush 780, 3) := by decide +kernel
theorem d_M_init_113 : decode mb_M_init 113 = .ok (.newarray .int, 2) := by decide +kernel
theorem d_M_init_115 : decode mb_M_init 115 = .ok (.putfield 51, 3) := by decide +kernel
theorem d_M_init_118 : decode mb_M_init 118 = .ok (.aload_n 0, 1) := by decide +kernel
theorem d_M_init_119 : decode mb_M_init 119 = .ok (.sipush 780, 3) := by decide +kernel
theorem d_M_init_122 : decode mb_M_init 122 = .ok (.newarray .int, 2) := by decide +kernel
theorem d_M_init_124 : decode mb_M_init 124 = .ok (.putfield 54, 3) := by decide +kernel
theorem d_M_init_127 : decode mb_M_init 127 = .ok (.aload_n 0, 1) := by decide +kernel
theorem d_M_init_128 : decode mb_M_init 128 = .ok (.iload_n 1, 1) := by decide +kernel
theorem d_M_init_129 : decode mb_M_init 129 = .ok (.iconst 1, 1) := by decide +kernel
theorem d_M_init_130 : decode mb_M_init 130 = .ok (.if_icmp .ge 7, 3) := by decide +kernel
theorem d_M_init_133 : decode mb_M_init 133 = .ok (.iconst 1, 1) := by decide +kernel
theorem d_M_init_134 : decode mb_M_init 134 = .ok (.goto 15, 3) := by decide +kernel
theorem d_M_init_137 : decode mb_M_init 137 = .ok (.iload_n 1, 1) := by decide +kernel
theorem d_M_init_138 : decode mb_M_init 138 = .ok (.bipush 16, 2) := by decide +kernel
theorem d_M_init_140 : decode mb_M_init 140 = .ok (.if_icmp .le 8, 3) := by decide +kernel
theorem d_M_init_143 : decode mb_M_init 143 = .ok (.bipush 16, 2) := by decide +kernel
theorem d_M_init_145 : decode mb_M_init 145 = .ok (.goto 4, 3) := by decide +kernel
theorem d_M_init_148 : decode mb_M_init 148 = .ok (.iload_n 1, 1) := by decide +kernel
theorem d_M_init_149 : decode mb_M_init 149 = .ok (.putfield 57, 3) := by decide +kernel
theorem d_M_init_152 : decode mb_M_init 152 = .ok (.return_, 1) := by decide +kernel
theorem d_M_thrown_0 : decode mb_M_thrown 0 = .ok (.aload_n 0, 1) := by decide +kernel
theorem d_M_thrown_1 : decode mb_M_thrown 1 = .ok (.getfield 61, 3) := by decide +kernel
theorem d_M_thrown_4 : decode mb_M_thrown 4 = .ok (.ireturn, 1) := by decide +kernel
theorem d_M_rule_0 : decode mb_M_rule 0 = .ok (.iload_n 1, 1) := by decide +kernel
theorem d_M_rule_1 : decode mb_M_rule 1 = .ok (.invokestatic 74, 3) := by decide +kernel
theorem d_M_rule_4 : decode mb_M_rule 4 = .ok (.ifCond .eq 47, 3) := by decide +kernel
theorem d_M_rule_7 : decode mb_M_rule 7 = .ok (.iload_n 2, 1) := by decide +kernel
theorem d_M_rule_8 : decode mb_M_rule 8 = .ok (.iconst (-1), 1) := by decide +kernel
theorem d_M_rule_9 : decode mb_M_rule 9 = .ok (.if_icmp .eq 11, 3) := by decide +kernel
theorem d_M_rule_12 : decode mb_M_rule 12 = .ok (.aload_n 0, 1) := by decide +kernel
theorem d_M_rule_13 : decode mb_M_rule 13 = .ok (.iload_n 2, 1) := by decide +kernel
theorem d_M_rule_14 : decode mb_M_rule 14 = .ok (.invokevirtual 78, 3) := by decide +kernel
theorem d_M_rule_17 : decode mb_M_rule 17 = .ok (.ifCond .eq 34, 3) := by decide +kernel
theorem d_M_rule_20 : decode mb_M_rule 20 = .ok (.iload_n 3, 1) := by decide +kernel
theorem d_M_rule_21 : decode mb_M_rule 21 = .ok (.iconst (-1), 1) := by decide +kernel
theorem d_M_rule_22 : decode mb_M_rule 22 = .ok (.if_icmp .eq 11, 3) := by decide +kernel
theorem d_M_rule_25 : decode mb_M_rule 25 = .ok (.aload_n 0, 1) := by decide +kernel
theorem d_M_rule_26 : decode mb_M_rule 26 = .ok (.iload_n 3, 1) := by decide +kernel
theorem d_M_rule_27 : decode mb_M_rule 27 = .ok (.invokevirtual 78, 3) := by decide +kernel
theorem d_M_rule_30 : decode mb_M_rule 30 = .ok (.ifCond .eq 21, 3) := by decide +kernel
theorem d_M_rule_33 : decode mb_M_rule 33 = .ok (.iload 4, 2) := by decide +kernel
theorem d_M_rule_35 : decode mb_M_rule 35 = .ok (.iconst (-1), 1) := by decide +kernel
theorem d_M_rule_36 : decode mb_M_rule 36 = .ok (.if_icmp .eq 11, 3) := by decide +kernel
theorem d_M_rule_39 : decode mb_M_rule 39 = .ok (.iload 4, 2) := by decide +kernel
theorem d_M_rule_41 : decode mb_M_rule 41 = .ok (.invokestatic 81, 3) := by decide +kernel
theorem d_M_rule_44 : decode mb_M_rule 44 = .ok (.ifCond .eq 7, 3) := by decide +kernel
theorem d_M_rule_47 : decode mb_M_rule 47 = .ok (.iconst 1, 1) := by decide +kernel
theorem d_M_rule_48 : decode mb_M_rule 48 = .ok (.goto 4, 3) := by decide +kernel
theorem d_M_rule_51 : decode mb_M_rule 51 = .ok (.iconst 0, 1) := by decide +kernel
theorem d_M_rule_52 : decode mb_M_rule 52 = .ok (.istore 7, 2) := by decide +kernel
theorem d_M_rule_54 : decode mb_M_rule 54 = .ok (.aload_n 0, 1) := by decide +kernel
theorem d_M_rule_55 : decode mb_M_rule 55 = .ok (.iload 7, 2) := by decide +kernel
theorem d_M_rule_57 : decode mb_M_rule 57 = .ok (.ifCond .ne 7, 3) := by decide +kernel
theorem d_M_rule_60 : decode mb_M_rule 60 = .ok (.iconst 1, 1) := by decide +kernel
theorem d_M_rule_61 : decode mb_M_rule 61 = .ok (.goto 24, 3) := by decide +kernel
theorem d_M_rule_64 : decode mb_M_rule 64 = .ok (.lload 5, 2) := by decide +kernel
theorem d_M_rule_66 : decode mb_M_rule 66 = .ok (.lconst 0, 1) := by decide +kernel
theorem d_M_rule_67 : decode mb_M_rule 67 = .ok (.lcmp, 1) := by decide +kernel
theorem d_M_rule_68 : decode mb_M_rule 68 = .ok (.ifCond .lt 12, 3) := by decide +kernel
theorem d_M_rule_71 : decode mb_M_rule 71 = .ok (.lload 5, 2) := by decide +kernel
theorem d_M_rule_73 : decode mb_M_rule 73 = .ok (.ldc2_w 72, 3) := by decide +kernel
theorem d_M_rule_76 : decode mb_M_rule 76 = .ok (.lcmp, 1) := by decide +kernel
theorem d_M_rule_77 : decode mb_M_rule 77 = .ok (.ifCond .le 7, 3) := by decide +kernel
theorem d_M_rule_80 : decode mb_M_rule 80 = .ok (.iconst 2, 1) := by decide +kernel
theorem d_M_rule_81 : decode mb_M_rule 81 = .ok (.goto 4, 3) := by decide +kernel
theorem d_M_rule_84 : decode mb_M_rule 84 = .ok (.iconst 0, 1) := by decide +kernel
theorem d_M_rule_85 : decode mb_M_rule 85 = .ok (.putfield 61, 3) := by decide +kernel
theorem d_M_rule_88 : decode mb_M_rule 88 = .ok (.aload_n 0, 1) := by decide +kernel
theorem d_M_rule_89 : decode mb_M_rule 89 = .ok (.getfield 61, 3) := by decide +kernel
theorem d_M_rule_92 : decode mb_M_rule 92 = .ok (.ifCond .eq 5, 3) := by decide +kernel
theorem d_M_rule_95 : decode mb_M_rule 95 = .ok (.iconst 0, 1) := by decide +kernel
theorem d_M_rule_96 : decode mb_M_rule 96 = .ok (.ireturn, 1) := by decide +kernel
theorem d_M_rule_97 : decode mb_M_rule 97 = .ok (.aload_n 0, 1) := by decide +kernel
theorem d_M_rule_98 : decode mb_M_rule 98 = .ok (.getfield 67, 3) := by decide +kernel
theorem d_M_rule_101 : decode mb_M_rule 101 = .ok (.bipush 40, 2) := by decide +kernel
theorem d_M_rule_103 : decode mb_M_rule 103 = .ok (.if_icmp .ne 5, 3) := by decide +kernel
theorem d_M_rule_106 : decode mb_M_rule 106 = .ok (.iconst (-1), 1) := by decide +kernel
theorem d_M_rule_107 : decode mb_M_rule 107 = .ok (.ireturn, 1) := by decide +kernel
theorem d_M_rule_108 : decode mb_M_rule 108 = .ok (.aload_n 0, 1) := by decide +kernel
theorem d_M_rule_109 : decode mb_M_rule 109 = .ok (.getfield 7, 3) := by decide +kernel
theorem d_M_rule_112 : decode mb_M_rule 112 = .ok (.aload_n 0, 1) := by decide +kernel
theorem d_M_rule_113 : decode mb_M_rule 113 = .ok (.getfield 67, 3) := by decide +kernel
theorem d_M_rule_116 : decode mb_M_rule 116 = .ok (.iload_n 1, 1) := by decide +kernel
theorem d_M_rule_117 : decode mb_M_rule 117 = .ok (.iastore, 1) := by decide +kernel
theorem d_M_rule_118 : decode mb_M_rule 118 = .ok (.aload_n 0, 1) := by decide +kernel
theorem d_M_rule_119 : decode mb_M_rule 119 = .ok (.getfield 13, 3) := by decide +kernel
theorem d_M_rule_122 : decode mb_M_rule 122 = .ok (.aload_n 0, 1) := by decide +kernel
theorem d_M_rule_123 : decode mb_M_rule 123 = .ok (.getfield 67, 3) := by decide +kernel
theorem d_M_rule_126 : decode mb_M_rule 126 = .ok (.iload_n 2, 1) := by decide +kernel
theorem d_M_rule_127 : decode mb_M_rule 127 = .ok (.iastore, 1) := by decide +kernel
theorem d_M_rule_128 : decode mb_M_rule 128 = .ok (.aload_n 0, 1) := by decide +kernel
theorem d_M_rule_129 : decode mb_M_rule 129 = .ok (.getfield 16, 3) := by decide +kernel
theorem d_M_rule_132 : decode mb_M_rule 132 = .ok (.aload_n 0, 1) := by decide +kernel
theorem d_M_rule_133 : decode mb_M_rule 133 = .ok (.getfield 67, 3) := by decide +kernel
theorem d_M_rule_136 : decode mb_M_rule 136 = .ok (.iload_n 3, 1) := by decide +kernel
theorem d_M_rule_137 : decode mb_M_rule 137 = .ok (.iastore, 1) := by decide +kernel
theorem d_M_rule_138 : decode mb_M_rule 138 = .ok (.aload_n 0, 1) := by decide +kernel
theorem d_M_rule_139 : decode mb_M_rule 139 = .ok (.getfield 19, 3) := by decide +kernel
theorem d_M_rule_142 : decode mb_M_rule 142 = .ok (.aload_n 0, 1) := by decide +kernel
theorem d_M_rule_143 : decode mb_M_rule 143 = .ok (.getfield 67, 3) := by decide +kernel
theorem d_M_rule_146 : decode mb_M_rule 146 = .ok (.iload 4, 2) := by decide +kernel
theorem d_M_rule_148 : decode mb_M_rule 148 = .ok (.iastore, 1) := by decide +kernel
theorem d_M_rule_149 : decode mb_M_rule 149 = .ok (.aload_n 0, 1) := by decide +kernel
theorem d_M_rule_150 : decode mb_M_rule 150 = .ok (.getfield 22, 3) := by decide +kernel
theorem d_M_rule_153 : decode mb_M_rule 153 = .ok (.aload_n 0, 1) := by decide +kernel
theorem d_M_rule_154 : decode mb_M_rule 154 = .ok (.getfield 67, 3) := by decide +kernel
theorem d_M_rule_157 : decode mb_M_rule 157 = .ok (.lload 5, 2) := by decide +kernel
theorem d_M_rule_159 : decode mb_M_rule 159 = .ok (.lastore, 1) := by decide +kernel
theorem d_M_rule_160 : decode mb_M_rule 160 = .ok (.aload_n 0, 1) := by decide +kernel
theorem d_M_rule_161 : decode mb_M_rule 161 = .ok (.iload_n 1, 1) := by decide +kernel
theorem d_M_rule_162 : decode mb_M_rule 162 = .ok (.invokevirtual 84, 3) := by decide +kernel
theorem d_M_rule_165 : decode mb_M_rule 165 = .ok (.aload_n 0, 1) := by decide +kernel
theorem d_M_rule_166 : decode mb_M_rule 166 = .ok (.dup, 1) := by decide +kernel
theorem d_M_rule_167 : decode mb_M_rule 167 = .ok (.getfield 67, 3) := by decide +kernel
theorem d_M_rule_170 : decode mb_M_rule 170 = .ok (.iconst 1, 1) := by decide +kernel
theorem d_M_rule_171 : decode mb_M_rule 171 = .ok (.iadd, 1) := by decide +kernel
theorem d_M_rule_172 : decode mb_M_rule 172 = .ok (.putfield 67, 3) := by decide +kernel
theorem d_M_rule_175 : decode mb_M_rule 175 = .ok (.aload_n 0, 1) := by decide +kernel
theorem d_M_rule_176 : decode mb_M_rule 176 = .ok (.getfield 67, 3) := by decide +kernel
theorem d_M_rule_179 : decode mb_M_rule 179 = .ok (.iconst 1, 1) := by decide +kernel
theorem d_M_rule_180 : decode mb_M_rule 180 = .ok (.isub, 1) := by decide +kernel
theorem d_M_rule_181 : decode mb_M_rule 181 = .ok (.ireturn, 1) := by decide +kernel
theorem d_M_isKind_0 : decode mb_M_isKind 0 = .ok (.iload_n 0, 1) := by decide +kernel
theorem d_M_isKind_1 : decode mb_M_isKind 1 = .ok (.ifCond .lt 13, 3) := by decide +kernel
theorem d_M_isKind_4 : decode mb_M_isKind 4 = .ok (.iload_n 0, 1) := by decide +kernel
theorem d_M_isKind_5 : decode mb_M_isKind 5 = .ok (.bipush 6, 2) := by decide +kernel
theorem d_M_isKind_7 : decode mb_M_isKind 7 = .ok (.if_icmp .ge 7, 3) := by decide +kernel
theorem d_M_isKind_10 : decode mb_M_isKind 10 = .ok (.iconst 1, 1) := by decide +kernel
theorem d_M_isKind_11 : decode mb_M_isKind 11 = .ok (.goto 4, 3) := by decide +kernel
theorem d_M_isKind_14 : decode mb_M_isKind 14 = .ok (.iconst 0, 1) := by decide +kernel
theorem d_M_isKind_15 : decode mb_M_isKind 15 = .ok (.ireturn, 1) := by decide +kernel
theorem d_M_isClass_0 : decode mb_M_isClass 0 = .ok (.iload_n 1, 1) := by decide +kernel
theorem d_M_isClass_1 : decode mb_M_isClass 1 = .ok (.ifCond .lt 15, 3) := by decide +kernel
theorem d_M_isClass_4 : decode mb_M_isClass 4 = .ok (.iload_n 1, 1) := by decide +kernel
theorem d_M_isClass_5 : decode mb_M_isClass 5 = .ok (.aload_n 0, 1) := by decide +kernel
theorem d_M_isClass_6 : decode mb_M_isClass 6 = .ok (.getfield 57, 3) := by decide +kernel
theorem d_M_isClass_9 : decode mb_M_isClass 9 = .ok (.if_icmp .ge 7, 3) := by decide +kernel
theorem d_M_isClass_12 : decode mb_M_isClass 12 = .ok (.iconst 1, 1) := by decide +kernel
theorem d_M_isClass_13 : decode mb_M_isClass 13 = .ok (.goto 4, 3) := by decide +kernel
theorem d_M_isClass_16 : decode mb_M_isClass 16 = .ok (.iconst 0, 1) := by decide +kernel
theorem d_M_isClass_17 : decode mb_M_isClass 17 = .ok (.ireturn, 1) := by decide +kernel
theorem d_M_isLayer_0 : decode mb_M_isLayer 0 = .ok (.iload_n 0, 1) := by decide +kernel
theorem d_M_isLayer_1 : decode mb_M_isLayer 1 = .ok (.ifCond .lt 13, 3) := by decide +kernel
theorem d_M_isLayer_4 : decode mb_M_isLayer 4 = .ok (.iload_n 0, 1) := by decide +kernel
theorem d_M_isLayer_5 : decode mb_M_isLayer 5 = .ok (.bipush 8, 2) := by decide +kernel
theorem d_M_isLayer_7 : decode mb_M_isLayer 7 = .ok (.if_icmp .ge 7, 3) := by decide +kernel
theorem d_M_isLayer_10 : decode mb_M_isLayer 10 = .ok (.iconst 1, 1) := by decide +kernel
theorem d_M_isLayer_11 : decode mb_M_isLayer 11 = .ok (.goto 4, 3) := by decide +kernel
theorem d_M_isLayer_14 : decode mb_M_isLayer 14 = .ok (.iconst 0, 1) := by decide +kernel
theorem d_M_isLayer_15 : decode mb_M_isLayer 15 = .ok (.ireturn, 1) := by decide +kernel
theorem d_M_dropKind_0 : decode mb_M_dropKind 0 = .ok (.sipush 1600, 3) := by decide +kernel
theorem d_M_dropKind_3 : decode mb_M_dropKind 3 = .ok (.iload_n 1, 1) := by decide +kernel
theorem d_M_dropKind_4 : decode mb_M_dropKind 4 = .ok (.imul, 1) := by decide +kernel
theorem d_M_dropKind_5 : decode mb_M_dropKind 5 = .ok (.istore_n 2, 1) := by decide +kernel
theorem d_M_dropKind_6 : decode mb_M_dropKind 6 = .ok (.iload_n 2, 1) := by decide +kernel
theorem d_M_dropKind_7 : decode mb_M_dropKind 7 = .ok (.sipush 1600, 3) := by decide +kernel
theorem d_M_dropKind_10 : decode mb_M_dropKind 10 = .ok (.iload_n 1, 1) := by decide +kernel
theorem d_M_dropKind_11 : decode mb_M_dropKind 11 = .ok (.imul, 1) := by decide +kernel
theorem d_M_dropKind_12 : decode mb_M_dropKind 12 = .ok (.sipush 1600, 3) := by decide +kernel
theorem d_M_dropKind_15 : decode mb_M_dropKind 15 = .ok (.iadd, 1) := by decide +kernel
theorem d_M_dropKind_16 : decode mb_M_dropKind 16 = .ok (.if_icmp .ge 16, 3) := by decide +kernel
theorem d_M_dropKind_19 : decode mb_M_dropKind 19 = .ok (.aload_n 0, 1) := by decide +kernel
theorem d_M_dropKind_20 : decode mb_M_dropKind 20 = .ok (.getfield 47, 3) := by decide +kernel
theorem d_M_dropKind_23 : decode mb_M_dropKind 23 = .ok (.iload_n 2, 1) := by decide +kernel
theorem d_M_dropKind_24 : decode mb_M_dropKind 24 = .ok (.iconst 0, 1) := by decide +kernel
theorem d_M_dropKind_25 : decode mb_M_dropKind 25 = .ok (.bastore, 1) := by decide +kernel
theorem d_M_dropKind_26 : decode mb_M_dropKind 26 = .ok (.iinc 2 1, 3) := by decide +kernel
theorem d_M_dropKind_29 : decode mb_M_dropKind 29 = .ok (.goto (-23), 3) := by decide +kernel
theorem d_M_dropKind_32 : decode mb_M_dropKind 32 = .ok (.return_, 1) := by decide +kernel
theorem d_M_rank_0 : decode mb_M_rank 0 = .ok (.aload_n 0, 1) := by decide +kernel
theorem d_M_rank_1 : decode mb_M_rank 1 = .ok (.aload_n 0, 1) := by decide +kernel
theorem d_M_rank_2 : decode mb_M_rank 2 = .ok (.iload_n 1, 1) := by decide +kernel
theorem d_M_rank_3 : decode mb_M_rank 3 = .ok (.invokevirtual 88, 3) := by decide +kernel
theorem d_M_rank_6 : decode mb_M_rank 6 = .ok (.ifCond .ne 7, 3) := by decide +kernel
theorem d_M_rank_9 : decode mb_M_rank 9 = .ok (.iconst 1, 1) := by decide +kernel
theorem d_M_rank_10 : decode mb_M_rank 10 = .ok (.goto 22, 3) := by decide +kernel
theorem d_M_rank_13 : decode mb_M_rank 13 = .ok (.iload_n 2, 1) := by decide +kernel
theorem d_M_rank_14 : decode mb_M_rank 14 = .ok (.sipush (-1000), 3) := by decide +kernel
theorem d_M_rank_17 : decode mb_M_rank 17 = .ok (.if_icmp .lt 10, 3) := by decide +kernel
theorem d_M_rank_20 : decode mb_M_rank 20 = .ok (.iload_n 2, 1) := by decide +kernel
theorem d_M_rank_21 : decode mb_M_rank 21 = .ok (.sipush 1000, 3) := by decide +kernel
theorem d_M_rank_24 : decode mb_M_rank 24 = .ok (.if_icmp .le 7, 3) := by decide +kernel
theorem d_M_rank_27 : decode mb_M_rank 27 = .ok (.iconst 2, 1) := by decide +kernel
theorem d_M_rank_28 : decode mb_M_rank 28 = .ok (.goto 4, 3) := by decide +kernel
theorem d_M_rank_31 : decode mb_M_rank 31 = .ok (.iconst 0, 1) := by decide +kernel
theorem d_M_rank_32 : decode mb_M_rank 32 = .ok (.putfield 61, 3) := by decide +kernel
theorem d_M_rank_35 : decode mb_M_rank 35 = .ok (.aload_n 0, 1) := by decide +kernel
theorem d_M_rank_36 : decode mb_M_rank 36 = .ok (.getfield 61, 3) := by decide +kernel
theorem d_M_rank_39 : decode mb_M_rank 39 = .ok (.ifCond .ne 13, 3) := by decide +kernel
theorem d_M_rank_42 : decode mb_M_rank 42 = .ok (.aload_n 0, 1) := by decide +kernel
theorem d_M_rank_43 : decode mb_M_rank 43 = .ok (.getfield 26, 3) := by decide +kernel
theorem d_M_rank_46 : decode mb_M_rank 46 = .ok (.iload_n 1, 1) := by decide +kernel
theorem d_M_rank_47 : decode mb_M_rank 47 = .ok (.iaload, 1) := by decide +kernel
theorem d_M_rank_48 : decode mb_M_rank 48 = .ok (.iload_n 2, 1) := by decide +kernel
theorem d_M_rank_49 : decode mb_M_rank 49 = .ok (.if_icmp .ne 5, 3) := by decide +kernel
theorem d_M_rank_52 : decode mb_M_rank 52 = .ok (.iconst 0, 1) := by decide +kernel
theorem d_M_rank_53 : decode mb_M_rank 53 = .ok (.ireturn, 1) := by decide +kernel
theorem d_M_rank_54 : decode mb_M_rank 54 = .ok (.aload_n 0, 1) := by decide +kernel
theorem d_M_rank_55 : decode mb_M_rank 55 = .ok (.getfield 26, 3) := by decide +kernel
theorem d_M_rank_58 : decode mb_M_rank 58 = .ok (.iload_n 1, 1) := by decide +kernel
theorem d_M_rank_59 : decode mb_M_rank 59 = .ok (.iload_n 2, 1) := by decide +kernel
theorem d_M_rank_60 : decode mb_M_rank 60 = .ok (.iastore, 1) := by decide +kernel
theorem d_M_rank_61 : decode mb_M_rank 61 = .ok (.aload_n 0, 1) := by decide +kernel
theorem d_M_rank_62 : decode mb_M_rank 62 = .ok (.aload_n 0, 1) := by decide +kernel
theorem d_M_rank_63 : decode mb_M_rank 63 = .ok (.getfield 7, 3) := by decide +kernel
theorem d_M_rank_66 : decode mb_M_rank 66 = .ok (.iload_n 1, 1) := by decide +kernel
theorem d_M_rank_67 : decode mb_M_rank 67 = .ok (.iaload, 1) := by decide +kernel
theorem d_M_rank_68 : decode mb_M_rank 68 = .ok (.invokevirtual 84, 3) := by decide +kernel
theorem d_M_rank_71 : decode mb_M_rank 71 = .ok (.iconst 1, 1) := by decide +kernel
theorem d_M_rank_72 : decode mb_M_rank 72 = .ok (.ireturn, 1) := by decide +kernel
theorem d_M_isRule_0 : decode mb_M_isRule 0 = .ok (.iload_n 1, 1) := by decide +kernel
theorem d_M_isRule_1 : decode mb_M_isRule 1 = .ok (.ifCond .lt 15, 3) := by decide +kernel
theorem d_M_isRule_4 : decode mb_M_isRule 4 = .ok (.iload_n 1, 1) := by decide +kernel
theorem d_M_isRule_5 : decode mb_M_isRule 5 = .ok (.aload_n 0, 1) := by decide +kernel
theorem d_M_isRule_6 : decode mb_M_isRule 6 = .ok (.getfield 67, 3) := by decide +kernel
theorem d_M_isRule_9 : decode mb_M_isRule 9 = .ok (.if_icmp .ge 7, 3) := by decide +kernel
theorem d_M_isRule_12 : decode mb_M_isRule 12 = .ok (.iconst 1, 1) := by decide +kernel
theorem d_M_isRule_13 : decode mb_M_isRule 13 = .ok (.goto 4, 3) := by decide +kernel
theorem d_M_isRule_16 : decode mb_M_isRule 16 = .ok (.iconst 0, 1) := by decide +kernel
theorem d_M_isRule_17 : decode mb_M_isRule 17 = .ok (.ireturn, 1) := by decide +kernel
theorem d_M_area_0 : decode mb_M_area 0 = .ok (.aload_n 0, 1) := by decide +kernel
theorem d_M_area_1 : decode mb_M_area 1 = .ok (.lload_n 1, 1) := by decide +kernel
theorem d_M_area_2 : decode mb_M_area 2 = .ok (.lload 5, 2) := by decide +kernel
theorem d_M_area_4 : decode mb_M_area 4 = .ok (.lcmp, 1) := by decide +kernel
theorem d_M_area_5 : decode mb_M_area 5 = .ok (.ifCond .gt 32, 3) := by decide +kernel
theorem d_M_area_8 : decode mb_M_area 8 = .ok (.lload_n 3, 1) := by decide +kernel
theorem d_M_area_9 : decode mb_M_area 9 = .ok (.lload 7, 2) := by decide +kernel
theorem d_M_area_11 : decode mb_M_area 11 = .ok (.lcmp, 1) := by decide +kernel
theorem d_M_area_12 : decode mb_M_area 12 = .ok (.ifCond .gt 25, 3) := by decide +kernel
theorem d_M_area_15 : decode mb_M_area 15 = .ok (.lload_n 1, 1) := by decide +kernel
theorem d_M_area_16 : decode mb_M_area 16 = .ok (.lload_n 3, 1) := by decide +kernel
theorem d_M_area_17 : decode mb_M_area 17 = .ok (.invokestatic 91, 3) := by decide +kernel
theorem d_M_area_20 : decode mb_M_area 20 = .ok (.ifCond .eq 17, 3) := by decide +kernel
theorem d_M_area_23 : decode mb_M_area 23 = .ok (.lload 5, 2) := by decide +kernel
theorem d_M_area_25 : decode mb_M_area 25 = .ok (.lload 7, 2) := by decide +kernel
theorem d_M_area_27 : decode mb_M_area 27 = .ok (.invokestatic 91, 3) := by decide +kernel
theorem d_M_area_30 : decode mb_M_area 30 = .ok (.ifCond .eq 7, 3) := by decide +kernel
theorem d_M_area_33 : decode mb_M_area 33 = .ok (.iconst 0, 1) := by decide +kernel
theorem d_M_area_34 : decode mb_M_area 34 = .ok (.goto 4, 3) := by decide +kernel
theorem d_M_area_37 : decode mb_M_area 37 = .ok (.iconst 1, 1) := by decide +kernel
theorem d_M_area_38 : decode mb_M_area 38 = .ok (.putfield 61, 3) := by decide +kernel
theorem d_M_area_41 : decode mb_M_area 41 = .ok (.aload_n 0, 1) := by decide +kernel
theorem d_M_area_42 : decode mb_M_area 42 = .ok (.getfield 61, 3) := by decide +kernel
theorem d_M_area_45 : decode mb_M_area 45 = .ok (.ifCond .eq 5, 3) := by decide +kernel
theorem d_M_area_48 : decode mb_M_area 48 = .ok (.iconst 0, 1) := by decide +kernel
theorem d_M_area_49 : decode mb_M_area 49 = .ok (.ireturn, 1) := by decide +kernel
theorem d_M_area_50 : decode mb_M_area 50 = .ok (.aload_n 0, 1) := by decide +kernel
theorem d_M_area_51 : decode mb_M_area 51 = .ok (.getfield 95, 3) := by decide +kernel
theorem d_M_area_54 : decode mb_M_area 54 = .ok (.bipush 12, 2) := by decide +kernel
theorem d_M_area_56 : decode mb_M_area 56 = .ok (.if_icmp .ne 5, 3) := by decide +kernel
theorem d_M_area_59 : decode mb_M_area 59 = .ok (.iconst (-1), 1) := by decide +kernel
theorem d_M_area_60 : decode mb_M_area 60 = .ok (.ireturn, 1) := by decide +kernel
theorem d_M_area_61 : decode mb_M_area 61 = .ok (.aload_n 0, 1) := by decide +kernel
theorem d_M_area_62 : decode mb_M_area 62 = .ok (.getfield 32, 3) := by decide +kernel
theorem d_M_area_65 : decode mb_M_area 65 = .ok (.iconst 4, 1) := by decide +kernel
theorem d_M_area_66 : decode mb_M_area 66 = .ok (.aload_n 0, 1) := by decide +kernel
theorem d_M_area_67 : decode mb_M_area 67 = .ok (.getfield 95, 3) := by decide +kernel
theorem d_M_area_70 : decode mb_M_area 70 = .ok (.imul, 1) := by decide +kernel
theorem d_M_area_71 : decode mb_M_area 71 = .ok (.lload_n 1, 1) := by decide +kernel
theorem d_M_area_72 : decode mb_M_area 72 = .ok (.lastore, 1) := by decide +kernel
theorem d_M_area_73 : decode mb_M_area 73 = .ok (.aload_n 0, 1) := by decide +kernel
theorem d_M_area_74 : decode mb_M_area 74 = .ok (.getfield 32, 3) := by decide +kernel
theorem d_M_area_77 : decode mb_M_area 77 = .ok (.iconst 4, 1) := by decide +kernel
theorem d_M_area_78 : decode mb_M_area 78 = .ok (.aload_n 0, 1) := by decide +kernel
theorem d_M_area_79 : decode mb_M_area 79 = .ok (.getfield 95, 3) := by decide +kernel
theorem d_M_area_82 : decode mb_M_area 82 = .ok (.imul, 1) := by decide +kernel
theorem d_M_area_83 : decode mb_M_area 83 = .ok (.iconst 1, 1) := by decide +kernel
theorem d_M_area_84 : decode mb_M_area 84 = .ok (.iadd, 1) := by decide +kernel
theorem d_M_area_85 : decode mb_M_area 85 = .ok (.lload_n 3, 1) := by decide +kernel
theorem d_M_area_86 : decode mb_M_area 86 = .ok (.lastore, 1) := by decide +kernel
theorem d_M_area_87 : decode mb_M_area 87 = .ok (.aload_n 0, 1) := by decide +kernel
theorem d_M_area_88 : decode mb_M_area 88 = .ok (.getfield 32, 3) := by decide +kernel
theorem d_M_area_91 : decode mb_M_area 91 = .ok (.iconst 4, 1) := by decide +kernel
theorem d_M_area_92 : decode mb_M_area 92 = .ok (.aload_n 0, 1) := by decide +kernel
theorem d_M_area_93 : decode mb_M_area 93 = .ok (.getfield 95, 3) := by decide +kernel
theorem d_M_area_96 : decode mb_M_area 96 = .ok (.imul, 1) := by decide +kernel
theorem d_M_area_97 : decode mb_M_area 97 = .ok (.iconst 2, 1) := by decide +kernel
theorem d_M_area_98 : decode mb_M_area 98 = .ok (.iadd, 1) := by decide +kernel
theorem d_M_area_99 : decode mb_M_area 99 = .ok (.lload 5, 2) := by decide +kernel
theorem d_M_area_101 : decode mb_M_area 101 = .ok (.lastore, 1) := by decide +kernel
theorem d_M_area_102 : decode mb_M_area 102 = .ok (.aload_n 0, 1) := by decide +kernel
theorem d_M_area_103 : decode mb_M_area 103 = .ok (.getfield 32, 3) := by decide +kernel
theorem d_M_area_106 : decode mb_M_area 106 = .ok (.iconst 4, 1) := by decide +kernel
theorem d_M_area_107 : decode mb_M_area 107 = .ok (.aload_n 0, 1) := by decide +kernel
theorem d_M_area_108 : decode mb_M_area 108 = .ok (.getfield 95, 3) := by decide +kernel
theorem d_M_area_111 : decode mb_M_area 111 = .ok (.imul, 1) := by decide +kernel
theorem d_M_area_112 : decode mb_M_area 112 = .ok (.iconst 3, 1) := by decide +kernel
theorem d_M_area_113 : decode mb_M_area 113 = .ok (.iadd, 1) := by decide +kernel
theorem d_M_area_114 : decode mb_M_area 114 = .ok (.lload 7, 2) := by decide +kernel
theorem d_M_area_116 : decode mb_M_area 116 = .ok (.lastore, 1) := by decide +kernel
theorem d_M_area_117 : decode mb_M_area 117 = .ok (.aload_n 0, 1) := by decide +kernel
theorem d_M_area_118 : decode mb_M_area 118 = .ok (.dup, 1) := by decide +kernel
theorem d_M_area_119 : decode mb_M_area 119 = .ok (.getfield 95, 3) := by decide +kernel
theorem d_M_area_122 : decode mb_M_area 122 = .ok (.iconst 1, 1) := by decide +kernel
theorem d_M_area_123 : decode mb_M_area 123 = .ok (.iadd, 1) := by decide +kernel
theorem d_M_area_124 : decode mb_M_area 124 = .ok (.putfield 95, 3) := by decide +kernel
theorem d_M_area_127 : decode mb_M_area 127 = .ok (.aload_n 0, 1) := by decide +kernel
theorem d_M_area_128 : decode mb_M_area 128 = .ok (.getfield 95, 3) := by decide +kernel
theorem d_M_area_131 : decode mb_M_area 131 = .ok (.iconst 1, 1) := by decide +kernel
theorem d_M_area_132 : decode mb_M_area 132 = .ok (.isub, 1) := by decide +kernel
theorem d_M_area_133 : decode mb_M_area 133 = .ok (.ireturn, 1) := by decide +kernel
theorem d_M_isPlace_0 : decode mb_M_isPlace 0 = .ok (.lload_n 0, 1) := by decide +kernel
theorem d_M_isPlace_1 : decode mb_M_isPlace 1 = .ok (.ldc2_w 70, 3) := by decide +kernel
theorem d_M_isPlace_4 : decode mb_M_isPlace 4 = .ok (.lcmp, 1) := by decide +kernel
theorem d_M_isPlace_5 : decode mb_M_isPlace 5 = .ok (.ifCond .lt 31, 3) := by decide +kernel
theorem d_M_isPlace_8 : decode mb_M_isPlace 8 = .ok (.lload_n 0, 1) := by decide +kernel
theorem d_M_isPlace_9 : decode mb_M_isPlace 9 = .ok (.ldc2_w 72, 3) := by decide +kernel
theorem d_M_isPlace_12 : decode mb_M_isPlace 12 = .ok (.lcmp, 1) := by decide +kernel
theorem d_M_isPlace_13 : decode mb_M_isPlace 13 = .ok (.ifCond .gt 23, 3) := by decide +kernel
theorem d_M_isPlace_16 : decode mb_M_isPlace 16 = .ok (.lload_n 2, 1) := by decide +kernel
theorem d_M_isPlace_17 : decode mb_M_isPlace 17 = .ok (.ldc2_w 70, 3) := by decide +kernel
theorem d_M_isPlace_20 : decode mb_M_isPlace 20 = .ok (.lcmp, 1) := by decide +kernel
theorem d_M_isPlace_21 : decode mb_M_isPlace 21 = .ok (.ifCond .lt 15, 3) := by decide +kernel
theorem d_M_isPlace_24 : decode mb_M_isPlace 24 = .ok (.lload_n 2, 1) := by decide +kernel
theorem d_M_isPlace_25 : decode mb_M_isPlace 25 = .ok (.ldc2_w 72, 3) := by decide +kernel
theorem d_M_isPlace_28 : decode mb_M_isPlace 28 = .ok (.lcmp, 1) := by decide +kernel
theorem d_M_isPlace_29 : decode mb_M_isPlace 29 = .ok (.ifCond .gt 7, 3) := by decide +kernel
theorem d_M_isPlace_32 : decode mb_M_isPlace 32 = .ok (.iconst 1, 1) := by decide +kernel
theorem d_M_isPlace_33 : decode mb_M_isPlace 33 = .ok (.goto 4, 3) := by decide +kernel
theorem d_M_isPlace_36 : decode mb_M_isPlace 36 = .ok (.iconst 0, 1) := by decide +kernel
theorem d_M_isPlace_37 : decode mb_M_isPlace 37 = .ok (.ireturn, 1) := by decide +kernel
theorem d_M_inArea_0 : decode mb_M_inArea 0 = .ok (.aload_n 0, 1) := by decide +kernel
theorem d_M_inArea_1 : decode mb_M_inArea 1 = .ok (.aload_n 0, 1) := by decide +kernel
theorem d_M_inArea_2 : decode mb_M_inArea 2 = .ok (.iload_n 1, 1) := by decide +kernel
theorem d_M_inArea_3 : decode mb_M_inArea 3 = .ok (.invokevirtual 88, 3) := by decide +kernel
theorem d_M_inArea_6 : decode mb_M_inArea 6 = .ok (.ifCond .eq 20, 3) := by decide +kernel
theorem d_M_inArea_9 : decode mb_M_inArea 9 = .ok (.iload_n 2, 1) := by decide +kernel
theorem d_M_inArea_10 : decode mb_M_inArea 10 = .ok (.iconst (-1), 1) := by decide +kernel
theorem d_M_inArea_11 : decode mb_M_inArea 11 = .ok (.if_icmp .lt 15, 3) := by decide +kernel
theorem d_M_inArea_14 : decode mb_M_inArea 14 = .ok (.iload_n 2, 1) := by decide +kernel
theorem d_M_inArea_15 : decode mb_M_inArea 15 = .ok (.aload_n 0, 1) := by decide +kernel
theorem d_M_inArea_16 : decode mb_M_inArea 16 = .ok (.getfield 95, 3) := by decide +kernel
theorem d_M_inArea_19 : decode mb_M_inArea 19 = .ok (.if_icmp .ge 7, 3) := by decide +kernel
theorem d_M_inArea_22 : decode mb_M_inArea 22 = .ok (.iconst 0, 1) := by decide +kernel
theorem d_M_inArea_23 : decode mb_M_inArea 23 = .ok (.goto 4, 3) := by decide +kernel
theorem d_M_inArea_26 : decode mb_M_inArea 26 = .ok (.iconst 1, 1) := by decide +kernel
theorem d_M_inArea_27 : decode mb_M_inArea 27 = .ok (.putfield 61, 3) := by decide +kernel
theorem d_M_inArea_30 : decode mb_M_inArea 30 = .ok (.aload_n 0, 1) := by decide +kernel
theorem d_M_inArea_31 : decode mb_M_inArea 31 = .ok (.getfield 61, 3) := by decide +kernel
theorem d_M_inArea_34 : decode mb_M_inArea 34 = .ok (.ifCond .ne 15, 3) := by decide +kernel
theorem d_M_inArea_37 : decode mb_M_inArea 37 = .ok (.aload_n 0, 1) := by decide +kernel
theorem d_M_inArea_38 : decode mb_M_inArea 38 = .ok (.getfield 29, 3) := by decide +kernel
theorem d_M_inArea_41 : decode mb_M_inArea 41 = .ok (.iload_n 1, 1) := by decide +kernel
theorem d_M_inArea_42 : decode mb_M_inArea 42 = .ok (.iaload, 1) := by decide +kernel
theorem d_M_inArea_43 : decode mb_M_inArea 43 = .ok (.iload_n 2, 1) := by decide +kernel
theorem d_M_inArea_44 : decode mb_M_inArea 44 = .ok (.iconst 1, 1) := by decide +kernel
theorem d_M_inArea_45 : decode mb_M_inArea 45 = .ok (.iadd, 1) := by decide +kernel
theorem d_M_inArea_46 : decode mb_M_inArea 46 = .ok (.if_icmp .ne 5, 3) := by decide +kernel
theorem d_M_inArea_49 : decode mb_M_inArea 49 = .ok (.iconst 0, 1) := by decide +kernel
theorem d_M_inArea_50 : decode mb_M_inArea 50 = .ok (.ireturn, 1) := by decide +kernel
theorem d_M_inArea_51 : decode mb_M_inArea 51 = .ok (.aload_n 0, 1) := by decide +kernel
theorem d_M_inArea_52 : decode mb_M_inArea 52 = .ok (.getfield 29, 3) := by decide +kernel
theorem d_M_inArea_55 : decode mb_M_inArea 55 = .ok (.iload_n 1, 1) := by decide +kernel
theorem d_M_inArea_56 : decode mb_M_inArea 56 = .ok (.iload_n 2, 1) := by decide +kernel
theorem d_M_inArea_57 : decode mb_M_inArea 57 = .ok (.iconst 1, 1) := by decide +kernel
theorem d_M_inArea_58 : decode mb_M_inArea 58 = .ok (.iadd, 1) := by decide +kernel
theorem d_M_inArea_59 : decode mb_M_inArea 59 = .ok (.iastore, 1) := by decide +kernel
theorem d_M_inArea_60 : decode mb_M_inArea 60 = .ok (.aload_n 0, 1) := by decide +kernel
theorem d_M_inArea_61 : decode mb_M_inArea 61 = .ok (.aload_n 0, 1) := by decide +kernel
theorem d_M_inArea_62 : decode mb_M_inArea 62 = .ok (.getfield 7, 3) := by decide +kernel
theorem d_M_inArea_65 : decode mb_M_inArea 65 = .ok (.iload_n 1, 1) := by decide +kernel
theorem d_M_inArea_66 : decode mb_M_inArea 66 = .ok (.iaload, 1) := by decide +kernel
theorem d_M_inArea_67 : decode mb_M_inArea 67 = .ok (.invokevirtual 84, 3) := by decide +kernel
theorem d_M_inArea_70 : decode mb_M_inArea 70 = .ok (.iconst 1, 1) := by decide +kernel
theorem d_M_inArea_71 : decode mb_M_inArea 71 = .ok (.ireturn, 1) := by decide +kernel
theorem d_M_thing_0 : decode mb_M_thing 0 = .ok (.aload_n 0, 1) := by decide +kernel
theorem d_M_thing_1 : decode mb_M_thing 1 = .ok (.aload_n 0, 1) := by decide +kernel
theorem d_M_thing_2 : decode mb_M_thing 2 = .ok (.iload_n 1, 1) := by decide +kernel
theorem d_M_thing_3 : decode mb_M_thing 3 = .ok (.invokevirtual 78, 3) := by decide +kernel
theorem d_M_thing_6 : decode mb_M_thing 6 = .ok (.ifCond .eq 10, 3) := by decide +kernel
theorem d_M_thing_9 : decode mb_M_thing 9 = .ok (.iload_n 2, 1) := by decide +kernel
theorem d_M_thing_10 : decode mb_M_thing 10 = .ok (.invokestatic 81, 3) := by decide +kernel
theorem d_M_thing_13 : decode mb_M_thing 13 = .ok (.ifCond .ne 7, 3) := by decide +kernel
theorem d_M_thing_16 : decode mb_M_thing 16 = .ok (.iconst 1, 1) := by decide +kernel
theorem d_M_thing_17 : decode mb_M_thing 17 = .ok (.goto 17, 3) := by decide +kernel
theorem d_M_thing_20 : decode mb_M_thing 20 = .ok (.lload_n 3, 1) := by decide +kernel
theorem d_M_thing_21 : decode mb_M_thing 21 = .ok (.lload 5, 2) := by decide +kernel
theorem d_M_thing_23 : decode mb_M_thing 23 = .ok (.invokestatic 91, 3) := by decide +kernel
theorem d_M_thing_26 : decode mb_M_thing 26 = .ok (.ifCond .eq 7, 3) := by decide +kernel
theorem d_M_thing_29 : decode mb_M_thing 29 = .ok (.iconst 0, 1) := by decide +kernel
theorem d_M_thing_30 : decode mb_M_thing 30 = .ok (.goto 4, 3) := by decide +kernel
theorem d_M_thing_33 : decode mb_M_thing 33 = .ok (.iconst 2, 1) := by decide +kernel
theorem d_M_thing_34 : decode mb_M_thing 34 = .ok (.putfield 61, 3) := by decide +kernel
theorem d_M_thing_37 : decode mb_M_thing 37 = .ok (.aload_n 0, 1) := by decide +kernel
theorem d_M_thing_38 : decode mb_M_thing 38 = .ok (.getfield 61, 3) := by decide +kernel
theorem d_M_thing_41 : decode mb_M_thing 41 = .ok (.ifCond .eq 5, 3) := by decide +kernel
theorem d_M_thing_44 : decode mb_M_thing 44 = .ok (.iconst 0, 1) := by decide +kernel
theorem d_M_thing_45 : decode mb_M_thing 45 = .ok (.ireturn, 1) := by decide +kernel
theorem d_M_thing_46 : decode mb_M_thing 46 = .ok (.aload_n 0, 1) := by decide +kernel
theorem d_M_thing_47 : decode mb_M_thing 47 = .ok (.getfield 64, 3) := by decide +kernel
theorem d_M_thing_50 : decode mb_M_thing 50 = .ok (.bipush 40, 2) := by decide +kernel
theorem d_M_thing_52 : decode mb_M_thing 52 = .ok (.if_icmp .ne 5, 3) := by decide +kernel
theorem d_M_thing_55 : decode mb_M_thing 55 = .ok (.iconst (-1), 1) := by decide +kernel
theorem d_M_thing_56 : decode mb_M_thing 56 = .ok (.ireturn, 1) := by decide +kernel
theorem d_M_thing_57 : decode mb_M_thing 57 = .ok (.aload_n 0, 1) := by decide +kernel
theorem d_M_thing_58 : decode mb_M_thing 58 = .ok (.getfield 35, 3) := by decide +kernel
theorem d_M_thing_61 : decode mb_M_thing 61 = .ok (.aload_n 0, 1) := by decide +kernel
theorem d_M_thing_62 : decode mb_M_thing 62 = .ok (.getfield 64, 3) := by decide +kernel
theorem d_M_thing_65 : decode mb_M_thing 65 = .ok (.iload_n 1, 1) := by decide +kernel
theorem d_M_thing_66 : decode mb_M_thing 66 = .ok (.iastore, 1) := by decide +kernel
theorem d_M_thing_67 : decode mb_M_thing 67 = .ok (.aload_n 0, 1) := by decide +kernel
theorem d_M_thing_68 : decode mb_M_thing 68 = .ok (.getfield 38, 3) := by decide +kernel
theorem d_M_thing_71 : decode mb_M_thing 71 = .ok (.aload_n 0, 1) := by decide +kernel
theorem d_M_thing_72 : decode mb_M_thing 72 = .ok (.getfield 64, 3) := by decide +kernel
theorem d_M_thing_75 : decode mb_M_thing 75 = .ok (.iload_n 2, 1) := by decide +kernel
theorem d_M_thing_76 : decode mb_M_thing 76 = .ok (.iastore, 1) := by decide +kernel
theorem d_M_thing_77 : decode mb_M_thing 77 = .ok (.aload_n 0, 1) := by decide +kernel
theorem d_M_thing_78 : decode mb_M_thing 78 = .ok (.getfield 41, 3) := by decide +kernel
theorem d_M_thing_81 : decode mb_M_thing 81 = .ok (.aload_n 0, 1) := by decide +kernel
theorem d_M_thing_82 : decode mb_M_thing 82 = .ok (.getfield 64, 3) := by decide +kernel
theorem d_M_thing_85 : decode mb_M_thing 85 = .ok (.lload_n 3, 1) := by decide +kernel
theorem d_M_thing_86 : decode mb_M_thing 86 = .ok (.lastore, 1) := by decide +kernel
theorem d_M_thing_87 : decode mb_M_thing 87 = .ok (.aload_n 0, 1) := by decide +kernel
theorem d_M_thing_88 : decode mb_M_thing 88 = .ok (.getfield 44, 3) := by decide +kernel
theorem d_M_thing_91 : decode mb_M_thing 91 = .ok (.aload_n 0, 1) := by decide +kernel
theorem d_M_thing_92 : decode mb_M_thing 92 = .ok (.getfield 64, 3) := by decide +kernel
theorem d_M_thing_95 : decode mb_M_thing 95 = .ok (.lload 5, 2) := by decide +kernel
theorem d_M_thing_97 : decode mb_M_thing 97 = .ok (.lastore, 1) := by decide +kernel
theorem d_M_thing_98 : decode mb_M_thing 98 = .ok (.aload_n 0, 1) := by decide +kernel
theorem d_M_thing_99 : decode mb_M_thing 99 = .ok (.dup, 1) := by decide +kernel
theorem d_M_thing_100 : decode mb_M_thing 100 = .ok (.getfield 64, 3) := by decide +kernel
theorem d_M_thing_103 : decode mb_M_thing 103 = .ok (.iconst 1, 1) := by decide +kernel
theorem d_M_thing_104 : decode mb_M_thing 104 = .ok (.iadd, 1) := by decide +kernel
theorem d_M_thing_105 : decode mb_M_thing 105 = .ok (.putfield 64, 3) := by decide +kernel
theorem d_M_thing_108 : decode mb_M_thing 108 = .ok (.aload_n 0, 1) := by decide +kernel
theorem d_M_thing_109 : decode mb_M_thing 109 = .ok (.getfield 64, 3) := by decide +kernel
theorem d_M_thing_112 : decode mb_M_thing 112 = .ok (.iconst 1, 1) := by decide +kernel
theorem d_M_thing_113 : decode mb_M_thing 113 = .ok (.isub, 1) := by decide +kernel
theorem d_M_thing_114 : decode mb_M_thing 114 = .ok (.ireturn, 1) := by decide +kernel
theorem d_M_make_0 : decode mb_M_make 0 = .ok (.aload_n 0, 1) := by decide +kernel
theorem d_M_make_1 : decode mb_M_make 1 = .ok (.aload_n 0, 1) := by decide +kernel
theorem d_M_make_2 : decode mb_M_make 2 = .ok (.iload_n 1, 1) := by decide +kernel
theorem d_M_make_3 : decode mb_M_make 3 = .ok (.invokevirtual 98, 3) := by decide +kernel
theorem d_M_make_6 : decode mb_M_make 6 = .ok (.ifCond .eq 22, 3) := by decide +kernel
theorem d_M_make_9 : decode mb_M_make 9 = .ok (.aload_n 0, 1) := by decide +kernel
theorem d_M_make_10 : decode mb_M_make 10 = .ok (.iload_n 2, 1) := by decide +kernel
theorem d_M_make_11 : decode mb_M_make 11 = .ok (.invokevirtual 78, 3) := by decide +kernel
theorem d_M_make_14 : decode mb_M_make 14 = .ok (.ifCond .eq 14, 3) := by decide +kernel
theorem d_M_make_17 : decode mb_M_make 17 = .ok (.iload_n 3, 1) := by decide +kernel
theorem d_M_make_18 : decode mb_M_make 18 = .ok (.invokestatic 81, 3) := by decide +kernel
theorem d_M_make_21 : decode mb_M_make 21 = .ok (.ifCond .eq 7, 3) := by decide +kernel
theorem d_M_make_24 : decode mb_M_make 24 = .ok (.iconst 0, 1) := by decide +kernel
theorem d_M_make_25 : decode mb_M_make 25 = .ok (.goto 4, 3) := by decide +kernel
theorem d_M_make_28 : decode mb_M_make 28 = .ok (.iconst 1, 1) := by decide +kernel
theorem d_M_make_29 : decode mb_M_make 29 = .ok (.putfield 61, 3) := by decide +kernel
theorem d_M_make_32 : decode mb_M_make 32 = .ok (.aload_n 0, 1) := by decide +kernel
theorem d_M_make_33 : decode mb_M_make 33 = .ok (.getfield 61, 3) := by decide +kernel
theorem d_M_make_36 : decode mb_M_make 36 = .ok (.ifCond .ne 23, 3) := by decide +kernel
theorem d_M_make_39 : decode mb_M_make 39 = .ok (.aload_n 0, 1) := by decide +kernel
theorem d_M_make_40 : decode mb_M_make 40 = .ok (.getfield 35, 3) := by decide +kernel
theorem d_M_make_43 : decode mb_M_make 43 = .ok (.iload_n 1, 1) := by decide +kernel
theorem d_M_make_44 : decode mb_M_make 44 = .ok (.iaload, 1) := by decide +kernel
theorem d_M_make_45 : decode mb_M_make 45 = .ok (.iload_n 2, 1) := by decide +kernel
theorem d_M_make_46 : decode mb_M_make 46 = .ok (.if_icmp .ne 15, 3) := by decide +kernel
theorem d_M_make_49 : decode mb_M_make 49 = .ok (.aload_n 0, 1) := by decide +kernel
theorem d_M_make_50 : decode mb_M_make 50 = .ok (.getfield 38, 3) := by decide +kernel
theorem d_M_make_53 : decode mb_M_make 53 = .ok (.iload_n 1, 1) := by decide +kernel
theorem d_M_make_54 : decode mb_M_make 54 = .ok (.iaload, 1) := by decide +kernel
theorem d_M_make_55 : decode mb_M_make 55 = .ok (.iload_n 3, 1) := by decide +kernel
theorem d_M_make_56 : decode mb_M_make 56 = .ok (.if_icmp .ne 5, 3) := by decide +kernel
theorem d_M_make_59 : decode mb_M_make 59 = .ok (.iconst 0, 1) := by decide +kernel
theorem d_M_make_60 : decode mb_M_make 60 = .ok (.ireturn, 1) := by decide +kernel
theorem d_M_make_61 : decode mb_M_make 61 = .ok (.aload_n 0, 1) := by decide +kernel
theorem d_M_make_62 : decode mb_M_make 62 = .ok (.getfield 35, 3) := by decide +kernel
theorem d_M_make_65 : decode mb_M_make 65 = .ok (.iload_n 1, 1) := by decide +kernel
theorem d_M_make_66 : decode mb_M_make 66 = .ok (.iload_n 2, 1) := by decide +kernel
theorem d_M_make_67 : decode mb_M_make 67 = .ok (.iastore, 1) := by decide +kernel
theorem d_M_make_68 : decode mb_M_make 68 = .ok (.aload_n 0, 1) := by decide +kernel
theorem d_M_make_69 : decode mb_M_make 69 = .ok (.getfield 38, 3) := by decide +kernel
theorem d_M_make_72 : decode mb_M_make 72 = .ok (.iload_n 1, 1) := by decide +kernel
theorem d_M_make_73 : decode mb_M_make 73 = .ok (.iload_n 3, 1) := by decide +kernel
theorem d_M_make_74 : decode mb_M_make 74 = .ok (.iastore, 1) := by decide +kernel
theorem d_M_make_75 : decode mb_M_make 75 = .ok (.aload_n 0, 1) := by decide +kernel
theorem d_M_make_76 : decode mb_M_make 76 = .ok (.iload_n 1, 1) := by decide +kernel
theorem d_M_make_77 : decode mb_M_make 77 = .ok (.invokevirtual 101, 3) := by decide +kernel
theorem d_M_make_80 : decode mb_M_make 80 = .ok (.iconst 1, 1) := by decide +kernel
theorem d_M_make_81 : decode mb_M_make 81 = .ok (.ireturn, 1) := by decide +kernel
theorem d_M_isThing_0 : decode mb_M_isThing 0 = .ok (.iload_n 1, 1) := by decide +kernel
theorem d_M_isThing_1 : decode mb_M_isThing 1 = .ok (.ifCond .lt 15, 3) := by decide +kernel
theorem d_M_isThing_4 : decode mb_M_isThing 4 = .ok (.iload_n 1, 1) := by decide +kernel
theorem d_M_isThing_5 : decode mb_M_isThing 5 = .ok (.aload_n 0, 1) := by decide +kernel
theorem d_M_isThing_6 : decode mb_M_isThing 6 = .ok (.getfield 64, 3) := by decide +kernel
theorem d_M_isThing_9 : decode mb_M_isThing 9 = .ok (.if_icmp .ge 7, 3) := by decide +kernel
theorem d_M_isThing_12 : decode mb_M_isThing 12 = .ok (.iconst 1, 1) := by decide +kernel
theorem d_M_isThing_13 : decode mb_M_isThing 13 = .ok (.goto 4, 3) := by decide +kernel
theorem d_M_isThing_16 : decode mb_M_isThing 16 = .ok (.iconst 0, 1) := by decide +kernel
theorem d_M_isThing_17 : decode mb_M_isThing 17 = .ok (.ireturn, 1) := by decide +kernel
theorem d_M_dropThing_0 : decode mb_M_dropThing 0 = .ok (.iconst 0, 1) := by decide +kernel
theorem d_M_dropThing_1 : decode mb_M_dropThing 1 = .ok (.istore_n 2, 1) := by decide +kernel
theorem d_M_dropThing_2 : decode mb_M_dropThing 2 = .ok (.iload_n 2, 1) := by decide +kernel
theorem d_M_dropThing_3 : decode mb_M_dropThing 3 = .ok (.sipush 9600, 3) := by decide +kernel
theorem d_M_dropThing_6 : decode mb_M_dropThing 6 = .ok (.if_icmp .ge 36, 3) := by decide +kernel
theorem d_M_dropThing_9 : decode mb_M_dropThing 9 = .ok (.iload_n 2, 1) := by decide +kernel
theorem d_M_dropThing_10 : decode mb_M_dropThing 10 = .ok (.sipush 1600, 3) := by decide +kernel
theorem d_M_dropThing_13 : decode mb_M_dropThing 13 = .ok (.irem, 1) := by decide +kernel
theorem d_M_dropThing_14 : decode mb_M_dropThing 14 = .ok (.bipush 40, 2) := by decide +kernel
theorem d_M_dropThing_16 : decode mb_M_dropThing 16 = .ok (.idiv, 1) := by decide +kernel
theorem d_M_dropThing_17 : decode mb_M_dropThing 17 = .ok (.iload_n 1, 1) := by decide +kernel
theorem d_M_dropThing_18 : decode mb_M_dropThing 18 = .ok (.if_icmp .eq 11, 3) := by decide +kernel
theorem d_M_dropThing_21 : decode mb_M_dropThing 21 = .ok (.iload_n 2, 1) := by decide +kernel
theorem d_M_dropThing_22 : decode mb_M_dropThing 22 = .ok (.bipush 40, 2) := by decide +kernel
theorem d_M_dropThing_24 : decode mb_M_dropThing 24 = .ok (.irem, 1) := by decide +kernel
theorem d_M_dropThing_25 : decode mb_M_dropThing 25 = .ok (.iload_n 1, 1) := by decide +kernel
theorem d_M_dropThing_26 : decode mb_M_dropThing 26 = .ok (.if_icmp .ne 10, 3) := by decide +kernel
theorem d_M_dropThing_29 : decode mb_M_dropThing 29 = .ok (.aload_n 0, 1) := by decide +kernel
theorem d_M_dropThing_30 : decode mb_M_dropThing 30 = .ok (.getfield 47, 3) := by decide +kernel
theorem d_M_dropThing_33 : decode mb_M_dropThing 33 = .ok (.iload_n 2, 1) := by decide +kernel
theorem d_M_dropThing_34 : decode mb_M_dropThing 34 = .ok (.iconst 0, 1) := by decide +kernel
theorem d_M_dropThing_35 : decode mb_M_dropThing 35 = .ok (.bastore, 1) := by decide +kernel
theorem d_M_dropThing_36 : decode mb_M_dropThing 36 = .ok (.iinc 2 1, 3) := by decide +kernel
theorem d_M_dropThing_39 : decode mb_M_dropThing 39 = .ok (.goto (-37), 3) := by decide +kernel
theorem d_M_dropThing_42 : decode mb_M_dropThing 42 = .ok (.return_, 1) := by decide +kernel
theorem d_M_move_0 : decode mb_M_move 0 = .ok (.aload_n 0, 1) := by decide +kernel
theorem d_M_move_1 : decode mb_M_move 1 = .ok (.aload_n 0, 1) := by decide +kernel
theorem d_M_move_2 : decode mb_M_move 2 = .ok (.iload_n 1, 1) := by decide +kernel
theorem d_M_move_3 : decode mb_M_move 3 = .ok (.invokevirtual 98, 3) := by decide +kernel
theorem d_M_move_6 : decode mb_M_move 6 = .ok (.ifCond .ne 7, 3) := by decide +kernel
theorem d_M_move_9 : decode mb_M_move 9 = .ok (.iconst 1, 1) := by decide +kernel
theorem d_M_move_10 : decode mb_M_move 10 = .ok (.goto 17, 3) := by decide +kernel
theorem d_M_move_13 : decode mb_M_move 13 = .ok (.lload_n 2, 1) := by decide +kernel
theorem d_M_move_14 : decode mb_M_move 14 = .ok (.lload 4, 2) := by decide +kernel
theorem d_M_move_16 : decode mb_M_move 16 = .ok (.invokestatic 91, 3) := by decide +kernel
theorem d_M_move_19 : decode mb_M_move 19 = .ok (.ifCond .eq 7, 3) := by decide +kernel
theorem d_M_move_22 : decode mb_M_move 22 = .ok (.iconst 0, 1) := by decide +kernel
theorem d_M_move_23 : decode mb_M_move 23 = .ok (.goto 4, 3) := by decide +kernel
theorem d_M_move_26 : decode mb_M_move 26 = .ok (.iconst 2, 1) := by decide +kernel
theorem d_M_move_27 : decode mb_M_move 27 = .ok (.putfield 61, 3) := by decide +kernel
theorem d_M_move_30 : decode mb_M_move 30 = .ok (.aload_n 0, 1) := by decide +kernel
theorem d_M_move_31 : decode mb_M_move 31 = .ok (.getfield 61, 3) := by decide +kernel
theorem d_M_move_34 : decode mb_M_move 34 = .ok (.ifCond .ne 26, 3) := by decide +kernel
theorem d_M_move_37 : decode mb_M_move 37 = .ok (.aload_n 0, 1) := by decide +kernel
theorem d_M_move_38 : decode mb_M_move 38 = .ok (.getfield 41, 3) := by decide +kernel
theorem d_M_move_41 : decode mb_M_move 41 = .ok (.iload_n 1, 1) := by decide +kernel
theorem d_M_move_42 : decode mb_M_move 42 = .ok (.laload, 1) := by decide +kernel
theorem d_M_move_43 : decode mb_M_move 43 = .ok (.lload_n 2, 1) := by decide +kernel
theorem d_M_move_44 : decode mb_M_move 44 = .ok (.lcmp, 1) := by decide +kernel
theorem d_M_move_45 : decode mb_M_move 45 = .ok (.ifCond .ne 17, 3) := by decide +kernel
theorem d_M_move_48 : decode mb_M_move 48 = .ok (.aload_n 0, 1) := by decide +kernel
theorem d_M_move_49 : decode mb_M_move 49 = .ok (.getfield 44, 3) := by decide +kernel
theorem d_M_move_52 : decode mb_M_move 52 = .ok (.iload_n 1, 1) := by decide +kernel
theorem d_M_move_53 : decode mb_M_move 53 = .ok (.laload, 1) := by decide +kernel
theorem d_M_move_54 : decode mb_M_move 54 = .ok (.lload 4, 2) := by decide +kernel
theorem d_M_move_56 : decode mb_M_move 56 = .ok (.lcmp, 1) := by decide +kernel
theorem d_M_move_57 : decode mb_M_move 57 = .ok (.ifCond .ne 5, 3) := by decide +kernel
theorem d_M_move_60 : decode mb_M_move 60 = .ok (.iconst 0, 1) := by decide +kernel
theorem d_M_move_61 : decode mb_M_move 61 = .ok (.ireturn, 1) := by decide +kernel
theorem d_M_move_62 : decode mb_M_move 62 = .ok (.aload_n 0, 1) := by decide +kernel
theorem d_M_move_63 : decode mb_M_move 63 = .ok (.iload_n 1, 1) := by decide +kernel
theorem d_M_move_64 : decode mb_M_move 64 = .ok (.invokevirtual 108, 3) := by decide +kernel
theorem d_M_move_67 : decode mb_M_move 67 = .ok (.istore 6, 2) := by decide +kernel
theorem d_M_move_69 : decode mb_M_move 69 = .ok (.aload_n 0, 1) := by decide +kernel
theorem d_M_move_70 : decode mb_M_move 70 = .ok (.getfield 41, 3) := by decide +kernel
theorem d_M_move_73 : decode mb_M_move 73 = .ok (.iload_n 1, 1) := by decide +kernel
theorem d_M_move_74 : decode mb_M_move 74 = .ok (.lload_n 2, 1) := by decide +kernel
theorem d_M_move_75 : decode mb_M_move 75 = .ok (.lastore, 1) := by decide +kernel
theorem d_M_move_76 : decode mb_M_move 76 = .ok (.aload_n 0, 1) := by decide +kernel
theorem d_M_move_77 : decode mb_M_move 77 = .ok (.getfield 44, 3) := by decide +kernel
theorem d_M_move_80 : decode mb_M_move 80 = .ok (.iload_n 1, 1) := by decide +kernel
theorem d_M_move_81 : decode mb_M_move 81 = .ok (.lload 4, 2) := by decide +kernel
theorem d_M_move_83 : decode mb_M_move 83 = .ok (.lastore, 1) := by decide +kernel
theorem d_M_move_84 : decode mb_M_move 84 = .ok (.aload_n 0, 1) := by decide +kernel
theorem d_M_move_85 : decode mb_M_move 85 = .ok (.iload_n 1, 1) := by decide +kernel
theorem d_M_move_86 : decode mb_M_move 86 = .ok (.invokevirtual 108, 3) := by decide +kernel
theorem d_M_move_89 : decode mb_M_move 89 = .ok (.iload 6, 2) := by decide +kernel
theorem d_M_move_91 : decode mb_M_move 91 = .ok (.if_icmp .eq 8, 3) := by decide +kernel
theorem d_M_move_94 : decode mb_M_move 94 = .ok (.aload_n 0, 1) := by decide +kernel
theorem d_M_move_95 : decode mb_M_move 95 = .ok (.iload_n 1, 1) := by decide +kernel
theorem d_M_move_96 : decode mb_M_move 96 = .ok (.invokevirtual 101, 3) := by decide +kernel
theorem d_M_move_99 : decode mb_M_move 99 = .ok (.iconst 1, 1) := by decide +kernel
theorem d_M_move_100 : decode mb_M_move 100 = .ok (.ireturn, 1) := by decide +kernel
theorem d_M_areasOf_0 : decode mb_M_areasOf 0 = .ok (.iconst 0, 1) := by decide +kernel
theorem d_M_areasOf_1 : decode mb_M_areasOf 1 = .ok (.istore_n 2, 1) := by decide +kernel
theorem d_M_areasOf_2 : decode mb_M_areasOf 2 = .ok (.iconst 0, 1) := by decide +kernel
theorem d_M_areasOf_3 : decode mb_M_areasOf 3 = .ok (.istore_n 3, 1) := by decide +kernel
theorem d_M_areasOf_4 : decode mb_M_areasOf 4 = .ok (.iload_n 3, 1) := by decide +kernel
theorem d_M_areasOf_5 : decode mb_M_areasOf 5 = .ok (.aload_n 0, 1) := by decide +kernel
theorem d_M_areasOf_6 : decode mb_M_areasOf 6 = .ok (.getfield 95, 3) := by decide +kernel
theorem d_M_areasOf_9 : decode mb_M_areasOf 9 = .ok (.if_icmp .ge 28, 3) := by decide +kernel
theorem d_M_areasOf_12 : decode mb_M_areasOf 12 = .ok (.iload_n 2, 1) := by decide +kernel
theorem d_M_areasOf_13 : decode mb_M_areasOf 13 = .ok (.aload_n 0, 1) := by decide +kernel
theorem d_M_areasOf_14 : decode mb_M_areasOf 14 = .ok (.iload_n 1, 1) := by decide +kernel
theorem d_M_areasOf_15 : decode mb_M_areasOf 15 = .ok (.iload_n 3, 1) := by decide +kernel
theorem d_M_areasOf_16 : decode mb_M_areasOf 16 = .ok (.invokevirtual 104, 3) := by decide +kernel
theorem d_M_areasOf_19 : decode mb_M_areasOf 19 = .ok (.ifCond .eq 9, 3) := by decide +kernel
theorem d_M_areasOf_22 : decode mb_M_areasOf 22 = .ok (.iconst 1, 1) := by decide +kernel
theorem d_M_areasOf_23 : decode mb_M_areasOf 23 = .ok (.iload_n 3, 1) := by decide +kernel
theorem d_M_areasOf_24 : decode mb_M_areasOf 24 = .ok (.ishl, 1) := by decide +kernel
theorem d_M_areasOf_25 : decode mb_M_areasOf 25 = .ok (.goto 4, 3) := by decide +kernel
theorem d_M_areasOf_28 : decode mb_M_areasOf 28 = .ok (.iconst 0, 1) := by decide +kernel
theorem d_M_areasOf_29 : decode mb_M_areasOf 29 = .ok (.ior, 1) := by decide +kernel
theorem d_M_areasOf_30 : decode mb_M_areasOf 30 = .ok (.istore_n 2, 1) := by decide +kernel
theorem d_M_areasOf_31 : decode mb_M_areasOf 31 = .ok (.iinc 3 1, 3) := by decide +kernel
theorem d_M_areasOf_34 : decode mb_M_areasOf 34 = .ok (.goto (-30), 3) := by decide +kernel
theorem d_M_areasOf_37 : decode mb_M_areasOf 37 = .ok (.iload_n 2, 1) := by decide +kernel
theorem d_M_areasOf_38 : decode mb_M_areasOf 38 = .ok (.ireturn, 1) := by decide +kernel
theorem d_M_lies_0 : decode mb_M_lies 0 = .ok (.iconst 4, 1) := by decide +kernel
theorem d_M_lies_1 : decode mb_M_lies 1 = .ok (.iload_n 2, 1) := by decide +kernel
theorem d_M_lies_2 : decode mb_M_lies 2 = .ok (.imul, 1) := by decide +kernel
theorem d_M_lies_3 : decode mb_M_lies 3 = .ok (.istore_n 3, 1) := by decide +kernel
theorem d_M_lies_4 : decode mb_M_lies 4 = .ok (.aload_n 0, 1) := by decide +kernel
theorem d_M_lies_5 : decode mb_M_lies 5 = .ok (.getfield 41, 3) := by decide +kernel
theorem d_M_lies_8 : decode mb_M_lies 8 = .ok (.iload_n 1, 1) := by decide +kernel
theorem d_M_lies_9 : decode mb_M_lies 9 = .ok (.laload, 1) := by decide +kernel
theorem d_M_lies_10 : decode mb_M_lies 10 = .ok (.aload_n 0, 1) := by decide +kernel
theorem d_M_lies_11 : decode mb_M_lies 11 = .ok (.getfield 32, 3) := by decide +kernel
theorem d_M_lies_14 : decode mb_M_lies 14 = .ok (.iload_n 3, 1) := by decide +kernel
theorem d_M_lies_15 : decode mb_M_lies 15 = .ok (.laload, 1) := by decide +kernel
theorem d_M_lies_16 : decode mb_M_lies 16 = .ok (.lcmp, 1) := by decide +kernel
theorem d_M_lies_17 : decode mb_M_lies 17 = .ok (.ifCond .lt 61, 3) := by decide +kernel
theorem d_M_lies_20 : decode mb_M_lies 20 = .ok (.aload_n 0, 1) := by decide +kernel
theorem d_M_lies_21 : decode mb_M_lies 21 = .ok (.getfield 41, 3) := by decide +kernel
theorem d_M_lies_24 : decode mb_M_lies 24 = .ok (.iload_n 1, 1) := by decide +kernel
theorem d_M_lies_25 : decode mb_M_lies 25 = .ok (.laload, 1) := by decide +kernel
theorem d_M_lies_26 : decode mb_M_lies 26 = .ok (.aload_n 0, 1) := by decide +kernel
theorem d_M_lies_27 : decode mb_M_lies 27 = .ok (.getfield 32, 3) := by decide +kernel
theorem d_M_lies_30 : decode mb_M_lies 30 = .ok (.iload_n 3, 1) := by decide +kernel
theorem d_M_lies_31 : decode mb_M_lies 31 = .ok (.iconst 2, 1) := by decide +kernel
theorem d_M_lies_32 : decode mb_M_lies 32 = .ok (.iadd, 1) := by decide +kernel
theorem d_M_lies_33 : decode mb_M_lies 33 = .ok (.laload, 1) := by decide +kernel
theorem d_M_lies_34 : decode mb_M_lies 34 = .ok (.lcmp, 1) := by decide +kernel
theorem d_M_lies_35 : decode mb_M_lies 35 = .ok (.ifCond .gt 43, 3) := by decide +kernel
theorem d_M_lies_38 : decode mb_M_lies 38 = .ok (.aload_n 0, 1) := by decide +kernel
theorem d_M_lies_39 : decode mb_M_lies 39 = .ok (.getfield 44, 3) := by decide +kernel
theorem d_M_lies_42 : decode mb_M_lies 42 = .ok (.iload_n 1, 1) := by decide +kernel
theorem d_M_lies_43 : decode mb_M_lies 43 = .ok (.laload, 1) := by decide +kernel
theorem d_M_lies_44 : decode mb_M_lies 44 = .ok (.aload_n 0, 1) := by decide +kernel
theorem d_M_lies_45 : decode mb_M_lies 45 = .ok (.getfield 32, 3) := by decide +kernel
theorem d_M_lies_48 : decode mb_M_lies 48 = .ok (.iload_n 3, 1) := by decide +kernel
theorem d_M_lies_49 : decode mb_M_lies 49 = .ok (.iconst 1, 1) := by decide +kernel
theorem d_M_lies_50 : decode mb_M_lies 50 = .ok (.iadd, 1) := by decide +kernel
theorem d_M_lies_51 : decode mb_M_lies 51 = .ok (.laload, 1) := by decide +kernel
theorem d_M_lies_52 : decode mb_M_lies 52 = .ok (.lcmp, 1) := by decide +kernel
theorem d_M_lies_53 : decode mb_M_lies 53 = .ok (.ifCond .lt 25, 3) := by decide +kernel
theorem d_M_lies_56 : decode mb_M_lies 56 = .ok (.aload_n 0, 1) := by decide +kernel
theorem d_M_lies_57 : decode mb_M_lies 57 = .ok (.getfield 44, 3) := by decide +kernel
theorem d_M_lies_60 : decode mb_M_lies 60 = .ok (.iload_n 1, 1) := by decide +kernel
theorem d_M_lies_61 : decode mb_M_lies 61 = .ok (.laload, 1) := by decide +kernel
theorem d_M_lies_62 : decode mb_M_lies 62 = .ok (.aload_n 0, 1) := by decide +kernel
theorem d_M_lies_63 : decode mb_M_lies 63 = .ok (.getfield 32, 3) := by decide +kernel
theorem d_M_lies_66 : decode mb_M_lies 66 = .ok (.iload_n 3, 1) := by decide +kernel
theorem d_M_lies_67 : decode mb_M_lies 67 = .ok (.iconst 3, 1) := by decide +kernel
theorem d_M_lies_68 : decode mb_M_lies 68 = .ok (.iadd, 1) := by decide +kernel
theorem d_M_lies_69 : decode mb_M_lies 69 = .ok (.laload, 1) := by decide +kernel
theorem d_M_lies_70 : decode mb_M_lies 70 = .ok (.lcmp, 1) := by decide +kernel
theorem d_M_lies_71 : decode mb_M_lies 71 = .ok (.ifCond .gt 7, 3) := by decide +kernel
theorem d_M_lies_74 : decode mb_M_lies 74 = .ok (.iconst 1, 1) := by decide +kernel
theorem d_M_lies_75 : decode mb_M_lies 75 = .ok (.goto 4, 3) := by decide +kernel
theorem d_M_lies_78 : decode mb_M_lies 78 = .ok (.iconst 0, 1) := by decide +kernel
theorem d_M_lies_79 : decode mb_M_lies 79 = .ok (.ireturn, 1) := by decide +kernel
theorem d_M_winner_0 : decode mb_M_winner 0 = .ok (.aload_n 0, 1) := by decide +kernel
theorem d_M_winner_1 : decode mb_M_winner 1 = .ok (.aload_n 0, 1) := by decide +kernel
theorem d_M_winner_2 : decode mb_M_winner 2 = .ok (.iload_n 1, 1) := by decide +kernel
theorem d_M_winner_3 : decode mb_M_winner 3 = .ok (.iload_n 2, 1) := by decide +kernel
theorem d_M_winner_4 : decode mb_M_winner 4 = .ok (.iload_n 3, 1) := by decide +kernel
theorem d_M_winner_5 : decode mb_M_winner 5 = .ok (.invokevirtual 136, 3) := by decide +kernel
theorem d_M_winner_8 : decode mb_M_winner 8 = .ok (.ifCond .eq 7, 3) := by decide +kernel
theorem d_M_winner_11 : decode mb_M_winner 11 = .ok (.iconst 0, 1) := by decide +kernel
theorem d_M_winner_12 : decode mb_M_winner 12 = .ok (.goto 4, 3) := by decide +kernel
theorem d_M_winner_15 : decode mb_M_winner 15 = .ok (.iconst 1, 1) := by decide +kernel
theorem d_M_winner_16 : decode mb_M_winner 16 = .ok (.putfield 61, 3) := by decide +kernel
theorem d_M_winner_19 : decode mb_M_winner 19 = .ok (.aload_n 0, 1) := by decide +kernel
theorem d_M_winner_20 : decode mb_M_winner 20 = .ok (.getfield 61, 3) := by decide +kernel
theorem d_M_winner_23 : decode mb_M_winner 23 = .ok (.ifCond .eq 5, 3) := by decide +kernel
theorem d_M_winner_26 : decode mb_M_winner 26 = .ok (.iconst 0, 1) := by decide +kernel
theorem d_M_winner_27 : decode mb_M_winner 27 = .ok (.ireturn, 1) := by decide +kernel
theorem d_M_winner_28 : decode mb_M_winner 28 = .ok (.aload_n 0, 1) := by decide +kernel
theorem d_M_winner_29 : decode mb_M_winner 29 = .ok (.iload_n 1, 1) := by decide +kernel
theorem d_M_winner_30 : decode mb_M_winner 30 = .ok (.iload_n 2, 1) := by decide +kernel
theorem d_M_winner_31 : decode mb_M_winner 31 = .ok (.iload_n 3, 1) := by decide +kernel
theorem d_M_winner_32 : decode mb_M_winner 32 = .ok (.invokevirtual 139, 3) := by decide +kernel
theorem d_M_winner_35 : decode mb_M_winner 35 = .ok (.aload_n 0, 1) := by decide +kernel
theorem d_M_winner_36 : decode mb_M_winner 36 = .ok (.iload_n 1, 1) := by decide +kernel
theorem d_M_winner_37 : decode mb_M_winner 37 = .ok (.iload_n 2, 1) := by decide +kernel
theorem d_M_winner_38 : decode mb_M_winner 38 = .ok (.iload_n 3, 1) := by decide +kernel
theorem d_M_winner_39 : decode mb_M_winner 39 = .ok (.invokevirtual 143, 3) := by decide +kernel
theorem d_M_winner_42 : decode mb_M_winner 42 = .ok (.ireturn, 1) := by decide +kernel
theorem d_M_isAsked_0 : decode mb_M_isAsked 0 = .ok (.iload_n 1, 1) := by decide +kernel
theorem d_M_isAsked_1 : decode mb_M_isAsked 1 = .ok (.invokestatic 74, 3) := by decide +kernel
theorem d_M_isAsked_4 : decode mb_M_isAsked 4 = .ok (.ifCond .eq 23, 3) := by decide +kernel
theorem d_M_isAsked_7 : decode mb_M_isAsked 7 = .ok (.aload_n 0, 1) := by decide +kernel
theorem d_M_isAsked_8 : decode mb_M_isAsked 8 = .ok (.iload_n 2, 1) := by decide +kernel
theorem d_M_isAsked_9 : decode mb_M_isAsked 9 = .ok (.invokevirtual 98, 3) := by decide +kernel
theorem d_M_isAsked_12 : decode mb_M_isAsked 12 = .ok (.ifCond .eq 15, 3) := by decide +kernel
theorem d_M_isAsked_15 : decode mb_M_isAsked 15 = .ok (.aload_n 0, 1) := by decide +kernel
theorem d_M_isAsked_16 : decode mb_M_isAsked 16 = .ok (.iload_n 3, 1) := by decide +kernel
theorem d_M_isAsked_17 : decode mb_M_isAsked 17 = .ok (.invokevirtual 98, 3) := by decide +kernel
theorem d_M_isAsked_20 : decode mb_M_isAsked 20 = .ok (.ifCond .eq 7, 3) := by decide +kernel
theorem d_M_isAsked_23 : decode mb_M_isAsked 23 = .ok (.iconst 1, 1) := by decide +kernel
theorem d_M_isAsked_24 : decode mb_M_isAsked 24 = .ok (.goto 4, 3) := by decide +kernel
theorem d_M_isAsked_27 : decode mb_M_isAsked 27 = .ok (.iconst 0, 1) := by decide +kernel
theorem d_M_isAsked_28 : decode mb_M_isAsked 28 = .ok (.ireturn, 1) := by decide +kernel
theorem d_M_keep_0 : decode mb_M_keep 0 = .ok (.sipush 1600, 3) := by decide +kernel
theorem d_M_keep_3 : decode mb_M_keep 3 = .ok (.iload_n 1, 1) := by decide +kernel
theorem d_M_keep_4 : decode mb_M_keep 4 = .ok (.imul, 1) := by decide +kernel
theorem d_M_keep_5 : decode mb_M_keep 5 = .ok (.iload_n 2, 1) := by decide +kernel
theorem d_M_keep_6 : decode mb_M_keep 6 = .ok (.iload_n 3, 1) := by decide +kernel
theorem d_M_keep_7 : decode mb_M_keep 7 = .ok (.if_icmp .ge 12, 3) := by decide +kernel
theorem d_M_keep_10 : decode mb_M_keep 10 = .ok (.bipush 40, 2) := by decide +kernel
theorem d_M_keep_12 : decode mb_M_keep 12 = .ok (.iload_n 2, 1) := by decide +kernel
theorem d_M_keep_13 : decode mb_M_keep 13 = .ok (.imul, 1) := by decide +kernel
theorem d_M_keep_14 : decode mb_M_keep 14 = .ok (.iload_n 3, 1) := by decide +kernel
theorem d_M_keep_15 : decode mb_M_keep 15 = .ok (.iadd, 1) := by decide +kernel
theorem d_M_keep_16 : decode mb_M_keep 16 = .ok (.goto 9, 3) := by decide +kernel
theorem d_M_keep_19 : decode mb_M_keep 19 = .ok (.bipush 40, 2) := by decide +kernel
theorem d_M_keep_21 : decode mb_M_keep 21 = .ok (.iload_n 3, 1) := by decide +kernel
theorem d_M_keep_22 : decode mb_M_keep 22 = .ok (.imul, 1) := by decide +kernel
theorem d_M_keep_23 : decode mb_M_keep 23 = .ok (.iload_n 2, 1) := by decide +kernel
theorem d_M_keep_24 : decode mb_M_keep 24 = .ok (.iadd, 1) := by decide +kernel
theorem d_M_keep_25 : decode mb_M_keep 25 = .ok (.iadd, 1) := by decide +kernel
theorem d_M_keep_26 : decode mb_M_keep 26 = .ok (.istore 4, 2) := by decide +kernel
theorem d_M_keep_28 : decode mb_M_keep 28 = .ok (.aload_n 0, 1) := by decide +kernel
theorem d_M_keep_29 : decode mb_M_keep 29 = .ok (.dup, 1) := by decide +kernel
theorem d_M_keep_30 : decode mb_M_keep 30 = .ok (.getfield 132, 3) := by decide +kernel
theorem d_M_keep_33 : decode mb_M_keep 33 = .ok (.aload_n 0, 1) := by decide +kernel
theorem d_M_keep_34 : decode mb_M_keep 34 = .ok (.getfield 47, 3) := by decide +kernel
theorem d_M_keep_37 : decode mb_M_keep 37 = .ok (.iload 4, 2) := by decide +kernel
theorem d_M_keep_39 : decode mb_M_keep 39 = .ok (.baload, 1) := by decide +kernel
theorem d_M_keep_40 : decode mb_M_keep 40 = .ok (.ifCond .eq 7, 3) := by decide +kernel
theorem d_M_keep_43 : decode mb_M_keep 43 = .ok (.lconst 1, 1) := by decide +kernel
theorem d_M_keep_44 : decode mb_M_keep 44 = .ok (.goto 4, 3) := by decide +kernel
theorem d_M_keep_47 : decode mb_M_keep 47 = .ok (.lconst 0, 1) := by decide +kernel
theorem d_M_keep_48 : decode mb_M_keep 48 = .ok (.ladd, 1) := by decide +kernel
theorem d_M_keep_49 : decode mb_M_keep 49 = .ok (.putfield 132, 3) := by decide +kernel
theorem d_M_keep_52 : decode mb_M_keep 52 = .ok (.aload_n 0, 1) := by decide +kernel
theorem d_M_keep_53 : decode mb_M_keep 53 = .ok (.getfield 47, 3) := by decide +kernel
theorem d_M_keep_56 : decode mb_M_keep 56 = .ok (.iload 4, 2) := by decide +kernel
theorem d_M_keep_58 : decode mb_M_keep 58 = .ok (.iconst 1, 1) := by decide +kernel
theorem d_M_keep_59 : decode mb_M_keep 59 = .ok (.bastore, 1) := by decide +kernel
theorem d_M_keep_60 : decode mb_M_keep 60 = .ok (.return_, 1) := by decide +kernel
theorem d_M_best_0 : decode mb_M_best 0 = .ok (.iconst (-1), 1) := by decide +kernel
theorem d_M_best_1 : decode mb_M_best 1 = .ok (.istore 4, 2) := by decide +kernel
theorem d_M_best_3 : decode mb_M_best 3 = .ok (.iconst 0, 1) := by decide +kernel
theorem d_M_best_4 : decode mb_M_best 4 = .ok (.istore 5, 2) := by decide +kernel
theorem d_M_best_6 : decode mb_M_best 6 = .ok (.iload 5, 2) := by decide +kernel
theorem d_M_best_8 : decode mb_M_best 8 = .ok (.aload_n 0, 1) := by decide +kernel
theorem d_M_best_9 : decode mb_M_best 9 = .ok (.getfield 67, 3) := by decide +kernel
theorem d_M_best_12 : decode mb_M_best 12 = .ok (.if_icmp .ge 42, 3) := by decide +kernel
theorem d_M_best_15 : decode mb_M_best 15 = .ok (.aload_n 0, 1) := by decide +kernel
theorem d_M_best_16 : decode mb_M_best 16 = .ok (.iload 5, 2) := by decide +kernel
theorem d_M_best_18 : decode mb_M_best 18 = .ok (.iload_n 1, 1) := by decide +kernel
theorem d_M_best_19 : decode mb_M_best 19 = .ok (.iload_n 2, 1) := by decide +kernel
theorem d_M_best_20 : decode mb_M_best 20 = .ok (.iload_n 3, 1) := by decide +kernel
theorem d_M_best_21 : decode mb_M_best 21 = .ok (.invokevirtual 125, 3) := by decide +kernel
theorem d_M_best_24 : decode mb_M_best 24 = .ok (.ifCond .eq 24, 3) := by decide +kernel
theorem d_M_best_27 : decode mb_M_best 27 = .ok (.iload 4, 2) := by decide +kernel
theorem d_M_best_29 : decode mb_M_best 29 = .ok (.iconst (-1), 1) := by decide +kernel
theorem d_M_best_30 : decode mb_M_best 30 = .ok (.if_icmp .eq 14, 3) := by decide +kernel
theorem d_M_best_33 : decode mb_M_best 33 = .ok (.aload_n 0, 1) := by decide +kernel
theorem d_M_best_34 : decode mb_M_best 34 = .ok (.iload 5, 2) := by decide +kernel
theorem d_M_best_36 : decode mb_M_best 36 = .ok (.iload 4, 2) := by decide +kernel
theorem d_M_best_38 : decode mb_M_best 38 = .ok (.invokevirtual 129, 3) := by decide +kernel
theorem d_M_best_41 : decode mb_M_best 41 = .ok (.ifCond .eq 7, 3) := by decide +kernel
theorem d_M_best_44 : decode mb_M_best 44 = .ok (.iload 5, 2) := by decide +kernel
theorem d_M_best_46 : decode mb_M_best 46 = .ok (.istore 4, 2) := by decide +kernel
theorem d_M_best_48 : decode mb_M_best 48 = .ok (.iinc 5 1, 3) := by decide +kernel
theorem d_M_best_51 : decode mb_M_best 51 = .ok (.goto (-45), 3) := by decide +kernel
theorem d_M_best_54 : decode mb_M_best 54 = .ok (.iload 4, 2) := by decide +kernel
theorem d_M_best_56 : decode mb_M_best 56 = .ok (.ireturn, 1) := by decide +kernel
theorem d_M_matches_0 : decode mb_M_matches 0 = .ok (.aload_n 0, 1) := by decide +kernel
theorem d_M_matches_1 : decode mb_M_matches 1 = .ok (.getfield 7, 3) := by decide +kernel
theorem d_M_matches_4 : decode mb_M_matches 4 = .ok (.iload_n 1, 1) := by decide +kernel
theorem d_M_matches_5 : decode mb_M_matches 5 = .ok (.iaload, 1) := by decide +kernel
theorem d_M_matches_6 : decode mb_M_matches 6 = .ok (.iload_n 2, 1) := by decide +kernel
theorem d_M_matches_7 : decode mb_M_matches 7 = .ok (.if_icmp .ne 40, 3) := by decide +kernel
theorem d_M_matches_10 : decode mb_M_matches 10 = .ok (.aload_n 0, 1) := by decide +kernel
theorem d_M_matches_11 : decode mb_M_matches 11 = .ok (.iload_n 1, 1) := by decide +kernel
theorem d_M_matches_12 : decode mb_M_matches 12 = .ok (.iload_n 3, 1) := by decide +kernel
theorem d_M_matches_13 : decode mb_M_matches 13 = .ok (.iload 4, 2) := by decide +kernel
theorem d_M_matches_15 : decode mb_M_matches 15 = .ok (.invokevirtual 115, 3) := by decide +kernel
theorem d_M_matches_18 : decode mb_M_matches 18 = .ok (.ifCond .eq 29, 3) := by decide +kernel
theorem d_M_matches_21 : decode mb_M_matches 21 = .ok (.aload_n 0, 1) := by decide +kernel
theorem d_M_matches_22 : decode mb_M_matches 22 = .ok (.iload_n 1, 1) := by decide +kernel
theorem d_M_matches_23 : decode mb_M_matches 23 = .ok (.iload_n 3, 1) := by decide +kernel
theorem d_M_matches_24 : decode mb_M_matches 24 = .ok (.iload 4, 2) := by decide +kernel
theorem d_M_matches_26 : decode mb_M_matches 26 = .ok (.invokevirtual 119, 3) := by decide +kernel
theorem d_M_matches_29 : decode mb_M_matches 29 = .ok (.ifCond .eq 18, 3) := by decide +kernel
theorem d_M_matches_32 : decode mb_M_matches 32 = .ok (.aload_n 0, 1) := by decide +kernel
theorem d_M_matches_33 : decode mb_M_matches 33 = .ok (.iload_n 1, 1) := by decide +kernel
theorem d_M_matches_34 : decode mb_M_matches 34 = .ok (.iload_n 3, 1) := by decide +kernel
theorem d_M_matches_35 : decode mb_M_matches 35 = .ok (.iload 4, 2) := by decide +kernel
theorem d_M_matches_37 : decode mb_M_matches 37 = .ok (.invokevirtual 122, 3) := by decide +kernel
theorem d_M_matches_40 : decode mb_M_matches 40 = .ok (.ifCond .eq 7, 3) := by decide +kernel
theorem d_M_matches_43 : decode mb_M_matches 43 = .ok (.iconst 1, 1) := by decide +kernel
theorem d_M_matches_44 : decode mb_M_matches 44 = .ok (.goto 4, 3) := by decide +kernel
theorem d_M_matches_47 : decode mb_M_matches 47 = .ok (.iconst 0, 1) := by decide +kernel
theorem d_M_matches_48 : decode mb_M_matches 48 = .ok (.ireturn, 1) := by decide +kernel
theorem d_M_haveClasses_0 : decode mb_M_haveClasses 0 = .ok (.aload_n 0, 1) := by decide +kernel
theorem d_M_haveClasses_1 : decode mb_M_haveClasses 1 = .ok (.getfield 35, 3) := by decide +kernel
theorem d_M_haveClasses_4 : decode mb_M_haveClasses 4 = .ok (.iload_n 2, 1) := by decide +kernel
theorem d_M_haveClasses_5 : decode mb_M_haveClasses 5 = .ok (.iaload, 1) := by decide +kernel
theorem d_M_haveClasses_6 : decode mb_M_haveClasses 6 = .ok (.istore 4, 2) := by decide +kernel
theorem d_M_haveClasses_8 : decode mb_M_haveClasses 8 = .ok (.aload_n 0, 1) := by decide +kernel
theorem d_M_haveClasses_9 : decode mb_M_haveClasses 9 = .ok (.getfield 35, 3) := by decide +kernel
theorem d_M_haveClasses_12 : decode mb_M_haveClasses 12 = .ok (.iload_n 3, 1) := by decide +kernel
theorem d_M_haveClasses_13 : decode mb_M_haveClasses 13 = .ok (.iaload, 1) := by decide +kernel
theorem d_M_haveClasses_14 : decode mb_M_haveClasses 14 = .ok (.istore 5, 2) := by decide +kernel
theorem d_M_haveClasses_16 : decode mb_M_haveClasses 16 = .ok (.aload_n 0, 1) := by decide +kernel
theorem d_M_haveClasses_17 : decode mb_M_haveClasses 17 = .ok (.getfield 13, 3) := by decide +kernel
theorem d_M_haveClasses_20 : decode mb_M_haveClasses 20 = .ok (.iload_n 1, 1) := by decide +kernel
theorem d_M_haveClasses_21 : decode mb_M_haveClasses 21 = .ok (.iaload, 1) := by decide +kernel
theorem d_M_haveClasses_22 : decode mb_M_haveClasses 22 = .ok (.iload 4, 2) := by decide +kernel
theorem d_M_haveClasses_24 : decode mb_M_haveClasses 24 = .ok (.invokestatic 112, 3) := by decide +kernel
theorem d_M_haveClasses_27 : decode mb_M_haveClasses 27 = .ok (.ifCond .eq 17, 3) := by decide +kernel
theorem d_M_haveClasses_30 : decode mb_M_haveClasses 30 = .ok (.aload_n 0, 1) := by decide +kernel
theorem d_M_haveClasses_31 : decode mb_M_haveClasses 31 = .ok (.getfield 16, 3) := by decide +kernel
theorem d_M_haveClasses_34 : decode mb_M_haveClasses 34 = .ok (.iload_n 1, 1) := by decide +kernel
theorem d_M_haveClasses_35 : decode mb_M_haveClasses 35 = .ok (.iaload, 1) := by decide +kernel
theorem d_M_haveClasses_36 : decode mb_M_haveClasses 36 = .ok (.iload 5, 2) := by decide +kernel
theorem d_M_haveClasses_38 : decode mb_M_haveClasses 38 = .ok (.invokestatic 112, 3) := by decide +kernel
theorem d_M_haveClasses_41 : decode mb_M_haveClasses 41 = .ok (.ifCond .ne 31, 3) := by decide +kernel
theorem d_M_haveClasses_44 : decode mb_M_haveClasses 44 = .ok (.aload_n 0, 1) := by decide +kernel
theorem d_M_haveClasses_45 : decode mb_M_haveClasses 45 = .ok (.getfield 13, 3) := by decide +kernel
theorem d_M_haveClasses_48 : decode mb_M_haveClasses 48 = .ok (.iload_n 1, 1) := by decide +kernel
theorem d_M_haveClasses_49 : decode mb_M_haveClasses 49 = .ok (.iaload, 1) := by decide +kernel
theorem d_M_haveClasses_50 : decode mb_M_haveClasses 50 = .ok (.iload 5, 2) := by decide +kernel
theorem d_M_haveClasses_52 : decode mb_M_haveClasses 52 = .ok (.invokestatic 112, 3) := by decide +kernel
theorem d_M_haveClasses_55 : decode mb_M_haveClasses 55 = .ok (.ifCond .eq 21, 3) := by decide +kernel
theorem d_M_haveClasses_58 : decode mb_M_haveClasses 58 = .ok (.aload_n 0, 1) := by decide +kernel
theorem d_M_haveClasses_59 : decode mb_M_haveClasses 59 = .ok (.getfield 16, 3) := by decide +kernel
theorem d_M_haveClasses_62 : decode mb_M_haveClasses 62 = .ok (.iload_n 1, 1) := by decide +kernel
theorem d_M_haveClasses_63 : decode mb_M_haveClasses 63 = .ok (.iaload, 1) := by decide +kernel
theorem d_M_haveClasses_64 : decode mb_M_haveClasses 64 = .ok (.iload 4, 2) := by decide +kernel
theorem d_M_haveClasses_66 : decode mb_M_haveClasses 66 = .ok (.invokestatic 112, 3) := by decide +kernel
theorem d_M_haveClasses_69 : decode mb_M_haveClasses 69 = .ok (.ifCond .eq 7, 3) := by decide +kernel
theorem d_M_haveClasses_72 : decode mb_M_haveClasses 72 = .ok (.iconst 1, 1) := by decide +kernel
theorem d_M_haveClasses_73 : decode mb_M_haveClasses 73 = .ok (.goto 4, 3) := by decide +kernel
theorem d_M_haveClasses_76 : decode mb_M_haveClasses 76 = .ok (.iconst 0, 1) := by decide +kernel
theorem d_M_haveClasses_77 : decode mb_M_haveClasses 77 = .ok (.ireturn, 1) := by decide +kernel
theorem d_M_isOf_0 : decode mb_M_isOf 0 = .ok (.iload_n 0, 1) := by decide +kernel
theorem d_M_isOf_1 : decode mb_M_isOf 1 = .ok (.iconst (-1), 1) := by decide +kernel
theorem d_M_isOf_2 : decode mb_M_isOf 2 = .ok (.if_icmp .eq 8, 3) := by decide +kernel
theorem d_M_isOf_5 : decode mb_M_isOf 5 = .ok (.iload_n 0, 1) := by decide +kernel
theorem d_M_isOf_6 : decode mb_M_isOf 6 = .ok (.iload_n 1, 1) := by decide +kernel
theorem d_M_isOf_7 : decode mb_M_isOf 7 = .ok (.if_icmp .ne 7, 3) := by decide +kernel
theorem d_M_isOf_10 : decode mb_M_isOf 10 = .ok (.iconst 1, 1) := by decide +kernel
theorem d_M_isOf_11 : decode mb_M_isOf 11 = .ok (.goto 4, 3) := by decide +kernel
theorem d_M_isOf_14 : decode mb_M_isOf 14 = .ok (.iconst 0, 1) := by decide +kernel
theorem d_M_isOf_15 : decode mb_M_isOf 15 = .ok (.ireturn, 1) := by decide +kernel
theorem d_M_haveLayer_0 : decode mb_M_haveLayer 0 = .ok (.aload_n 0, 1) := by decide +kernel
theorem d_M_haveLayer_1 : decode mb_M_haveLayer 1 = .ok (.getfield 19, 3) := by decide +kernel
theorem d_M_haveLayer_4 : decode mb_M_haveLayer 4 = .ok (.iload_n 1, 1) := by decide +kernel
theorem d_M_haveLayer_5 : decode mb_M_haveLayer 5 = .ok (.iaload, 1) := by decide +kernel
theorem d_M_haveLayer_6 : decode mb_M_haveLayer 6 = .ok (.aload_n 0, 1) := by decide +kernel
theorem d_M_haveLayer_7 : decode mb_M_haveLayer 7 = .ok (.getfield 38, 3) := by decide +kernel
theorem d_M_haveLayer_10 : decode mb_M_haveLayer 10 = .ok (.iload_n 2, 1) := by decide +kernel
theorem d_M_haveLayer_11 : decode mb_M_haveLayer 11 = .ok (.iaload, 1) := by decide +kernel
theorem d_M_haveLayer_12 : decode mb_M_haveLayer 12 = .ok (.invokestatic 112, 3) := by decide +kernel
theorem d_M_haveLayer_15 : decode mb_M_haveLayer 15 = .ok (.ifCond .eq 25, 3) := by decide +kernel
theorem d_M_haveLayer_18 : decode mb_M_haveLayer 18 = .ok (.aload_n 0, 1) := by decide +kernel
theorem d_M_haveLayer_19 : decode mb_M_haveLayer 19 = .ok (.getfield 19, 3) := by decide +kernel
theorem d_M_haveLayer_22 : decode mb_M_haveLayer 22 = .ok (.iload_n 1, 1) := by decide +kernel
theorem d_M_haveLayer_23 : decode mb_M_haveLayer 23 = .ok (.iaload, 1) := by decide +kernel
theorem d_M_haveLayer_24 : decode mb_M_haveLayer 24 = .ok (.aload_n 0, 1) := by decide +kernel
theorem d_M_haveLayer_25 : decode mb_M_haveLayer 25 = .ok (.getfield 38, 3) := by decide +kernel
theorem d_M_haveLayer_28 : decode mb_M_haveLayer 28 = .ok (.iload_n 3, 1) := by decide +kernel
theorem d_M_haveLayer_29 : decode mb_M_haveLayer 29 = .ok (.iaload, 1) := by decide +kernel
theorem d_M_haveLayer_30 : decode mb_M_haveLayer 30 = .ok (.invokestatic 112, 3) := by decide +kernel
theorem d_M_haveLayer_33 : decode mb_M_haveLayer 33 = .ok (.ifCond .eq 7, 3) := by decide +kernel
theorem d_M_haveLayer_36 : decode mb_M_haveLayer 36 = .ok (.iconst 1, 1) := by decide +kernel
theorem d_M_haveLayer_37 : decode mb_M_haveLayer 37 = .ok (.goto 4, 3) := by decide +kernel
theorem d_M_haveLayer_40 : decode mb_M_haveLayer 40 = .ok (.iconst 0, 1) := by decide +kernel
theorem d_M_haveLayer_41 : decode mb_M_haveLayer 41 = .ok (.ireturn, 1) := by decide +kernel
theorem d_M_lieWithin_0 : decode mb_M_lieWithin 0 = .ok (.aload_n 0, 1) := by decide +kernel
theorem d_M_lieWithin_1 : decode mb_M_lieWithin 1 = .ok (.getfield 29, 3) := by decide +kernel
theorem d_M_lieWithin_4 : decode mb_M_lieWithin 4 = .ok (.iload_n 1, 1) := by decide +kernel
theorem d_M_lieWithin_5 : decode mb_M_lieWithin 5 = .ok (.iaload, 1) := by decide +kernel
theorem d_M_lieWithin_6 : decode mb_M_lieWithin 6 = .ok (.ifCond .eq 35, 3) := by decide +kernel
theorem d_M_lieWithin_9 : decode mb_M_lieWithin 9 = .ok (.aload_n 0, 1) := by decide +kernel
theorem d_M_lieWithin_10 : decode mb_M_lieWithin 10 = .ok (.iload_n 2, 1) := by decide +kernel
theorem d_M_lieWithin_11 : decode mb_M_lieWithin 11 = .ok (.aload_n 0, 1) := by decide +kernel
theorem d_M_lieWithin_12 : decode mb_M_lieWithin 12 = .ok (.getfield 29, 3) := by decide +kernel
theorem d_M_lieWithin_15 : decode mb_M_lieWithin 15 = .ok (.iload_n 1, 1) := by decide +kernel
theorem d_M_lieWithin_16 : decode mb_M_lieWithin 16 = .ok (.iaload, 1) := by decide +kernel
theorem d_M_lieWithin_17 : decode mb_M_lieWithin 17 = .ok (.iconst 1, 1) := by decide +kernel
theorem d_M_lieWithin_18 : decode mb_M_lieWithin 18 = .ok (.isub, 1) := by decide +kernel
theorem d_M_lieWithin_19 : decode mb_M_lieWithin 19 = .ok (.invokevirtual 104, 3) := by decide +kernel
theorem d_M_lieWithin_22 : decode mb_M_lieWithin 22 = .ok (.ifCond .eq 23, 3) := by decide +kernel
theorem d_M_lieWithin_25 : decode mb_M_lieWithin 25 = .ok (.aload_n 0, 1) := by decide +kernel
theorem d_M_lieWithin_26 : decode mb_M_lieWithin 26 = .ok (.iload_n 3, 1) := by decide +kernel
theorem d_M_lieWithin_27 : decode mb_M_lieWithin 27 = .ok (.aload_n 0, 1) := by decide +kernel
theorem d_M_lieWithin_28 : decode mb_M_lieWithin 28 = .ok (.getfield 29, 3) := by decide +kernel
theorem d_M_lieWithin_31 : decode mb_M_lieWithin 31 = .ok (.iload_n 1, 1) := by decide +kernel
theorem d_M_lieWithin_32 : decode mb_M_lieWithin 32 = .ok (.iaload, 1) := by decide +kernel
theorem d_M_lieWithin_33 : decode mb_M_lieWithin 33 = .ok (.iconst 1, 1) := by decide +kernel
theorem d_M_lieWithin_34 : decode mb_M_lieWithin 34 = .ok (.isub, 1) := by decide +kernel
theorem d_M_lieWithin_35 : decode mb_M_lieWithin 35 = .ok (.invokevirtual 104, 3) := by decide +kernel
theorem d_M_lieWithin_38 : decode mb_M_lieWithin 38 = .ok (.ifCond .eq 7, 3) := by decide +kernel
theorem d_M_lieWithin_41 : decode mb_M_lieWithin 41 = .ok (.iconst 1, 1) := by decide +kernel
theorem d_M_lieWithin_42 : decode mb_M_lieWithin 42 = .ok (.goto 4, 3) := by decide +kernel
theorem d_M_lieWithin_45 : decode mb_M_lieWithin 45 = .ok (.iconst 0, 1) := by decide +kernel
theorem d_M_lieWithin_46 : decode mb_M_lieWithin 46 = .ok (.ireturn, 1) := by decide +kernel
theorem d_M_isAhead_0 : decode mb_M_isAhead 0 = .ok (.aload_n 0, 1) := by decide +kernel
theorem d_M_isAhead_1 : decode mb_M_isAhead 1 = .ok (.getfield 26, 3) := by decide +kernel
theorem d_M_isAhead_4 : decode mb_M_isAhead 4 = .ok (.iload_n 1, 1) := by decide +kernel
theorem d_M_isAhead_5 : decode mb_M_isAhead 5 = .ok (.iaload, 1) := by decide +kernel
theorem d_M_isAhead_6 : decode mb_M_isAhead 6 = .ok (.aload_n 0, 1) := by decide +kernel
theorem d_M_isAhead_7 : decode mb_M_isAhead 7 = .ok (.getfield 26, 3) := by decide +kernel
theorem d_M_isAhead_10 : decode mb_M_isAhead 10 = .ok (.iload_n 2, 1) := by decide +kernel
theorem d_M_isAhead_11 : decode mb_M_isAhead 11 = .ok (.iaload, 1) := by decide +kernel
theorem d_M_isAhead_12 : decode mb_M_isAhead 12 = .ok (.if_icmp .eq 26, 3) := by decide +kernel
theorem d_M_isAhead_15 : decode mb_M_isAhead 15 = .ok (.aload_n 0, 1) := by decide +kernel
theorem d_M_isAhead_16 : decode mb_M_isAhead 16 = .ok (.getfield 26, 3) := by decide +kernel
theorem d_M_isAhead_19 : decode mb_M_isAhead 19 = .ok (.iload_n 1, 1) := by decide +kernel
theorem d_M_isAhead_20 : decode mb_M_isAhead 20 = .ok (.iaload, 1) := by decide +kernel
theorem d_M_isAhead_21 : decode mb_M_isAhead 21 = .ok (.aload_n 0, 1) := by decide +kernel
theorem d_M_isAhead_22 : decode mb_M_isAhead 22 = .ok (.getfield 26, 3) := by decide +kernel
theorem d_M_isAhead_25 : decode mb_M_isAhead 25 = .ok (.iload_n 2, 1) := by decide +kernel
theorem d_M_isAhead_26 : decode mb_M_isAhead 26 = .ok (.iaload, 1) := by decide +kernel
theorem d_M_isAhead_27 : decode mb_M_isAhead 27 = .ok (.if_icmp .le 7, 3) := by decide +kernel
theorem d_M_isAhead_30 : decode mb_M_isAhead 30 = .ok (.iconst 1, 1) := by decide +kernel
theorem d_M_isAhead_31 : decode mb_M_isAhead 31 = .ok (.goto 17, 3) := by decide +kernel
theorem d_M_isAhead_34 : decode mb_M_isAhead 34 = .ok (.iconst 0, 1) := by decide +kernel
theorem d_M_isAhead_35 : decode mb_M_isAhead 35 = .ok (.goto 13, 3) := by decide +kernel
theorem d_M_isAhead_38 : decode mb_M_isAhead 38 = .ok (.iload_n 1, 1) := by decide +kernel
theorem d_M_isAhead_39 : decode mb_M_isAhead 39 = .ok (.iload_n 2, 1) := by decide +kernel
theorem d_M_isAhead_40 : decode mb_M_isAhead 40 = .ok (.if_icmp .le 7, 3) := by decide +kernel
theorem d_M_isAhead_43 : decode mb_M_isAhead 43 = .ok (.iconst 1, 1) := by decide +kernel
theorem d_M_isAhead_44 : decode mb_M_isAhead 44 = .ok (.goto 4, 3) := by decide +kernel
theorem d_M_isAhead_47 : decode mb_M_isAhead 47 = .ok (.iconst 0, 1) := by decide +kernel
theorem d_M_isAhead_48 : decode mb_M_isAhead 48 = .ok (.ireturn, 1) := by decide +kernel
theorem d_M_value_0 : decode mb_M_value 0 = .ok (.aload_n 0, 1) := by decide +kernel
theorem d_M_value_1 : decode mb_M_value 1 = .ok (.aload_n 0, 1) := by decide +kernel
theorem d_M_value_2 : decode mb_M_value 2 = .ok (.iload_n 1, 1) := by decide +kernel
theorem d_M_value_3 : decode mb_M_value 3 = .ok (.iload_n 2, 1) := by decide +kernel
theorem d_M_value_4 : decode mb_M_value 4 = .ok (.iload_n 3, 1) := by decide +kernel
theorem d_M_value_5 : decode mb_M_value 5 = .ok (.invokevirtual 136, 3) := by decide +kernel
theorem d_M_value_8 : decode mb_M_value 8 = .ok (.ifCond .eq 7, 3) := by decide +kernel
theorem d_M_value_11 : decode mb_M_value 11 = .ok (.iconst 0, 1) := by decide +kernel
theorem d_M_value_12 : decode mb_M_value 12 = .ok (.goto 4, 3) := by decide +kernel
theorem d_M_value_15 : decode mb_M_value 15 = .ok (.iconst 1, 1) := by decide +kernel
theorem d_M_value_16 : decode mb_M_value 16 = .ok (.putfield 61, 3) := by decide +kernel
theorem d_M_value_19 : decode mb_M_value 19 = .ok (.aload_n 0, 1) := by decide +kernel
theorem d_M_value_20 : decode mb_M_value 20 = .ok (.getfield 61, 3) := by decide +kernel
theorem d_M_value_23 : decode mb_M_value 23 = .ok (.ifCond .eq 5, 3) := by decide +kernel
theorem d_M_value_26 : decode mb_M_value 26 = .ok (.lconst 0, 1) := by decide +kernel
theorem d_M_value_27 : decode mb_M_value 27 = .ok (.lreturn, 1) := by decide +kernel
theorem d_M_value_28 : decode mb_M_value 28 = .ok (.aload_n 0, 1) := by decide +kernel
theorem d_M_value_29 : decode mb_M_value 29 = .ok (.iload_n 1, 1) := by decide +kernel
theorem d_M_value_30 : decode mb_M_value 30 = .ok (.iload_n 2, 1) := by decide +kernel
theorem d_M_value_31 : decode mb_M_value 31 = .ok (.iload_n 3, 1) := by decide +kernel
theorem d_M_value_32 : decode mb_M_value 32 = .ok (.invokevirtual 139, 3) := by decide +kernel
theorem d_M_value_35 : decode mb_M_value 35 = .ok (.aload_n 0, 1) := by decide +kernel
theorem d_M_value_36 : decode mb_M_value 36 = .ok (.iload_n 1, 1) := by decide +kernel
theorem d_M_value_37 : decode mb_M_value 37 = .ok (.iload_n 2, 1) := by decide +kernel
theorem d_M_value_38 : decode mb_M_value 38 = .ok (.iload_n 3, 1) := by decide +kernel
theorem d_M_value_39 : decode mb_M_value 39 = .ok (.invokevirtual 143, 3) := by decide +kernel
theorem d_M_value_42 : decode mb_M_value 42 = .ok (.istore 4, 2) := by decide +kernel
theorem d_M_value_44 : decode mb_M_value 44 = .ok (.iload 4, 2) := by decide +kernel
theorem d_M_value_46 : decode mb_M_value 46 = .ok (.iconst (-1), 1) := by decide +kernel
theorem d_M_value_47 : decode mb_M_value 47 = .ok (.if_icmp .ne 9, 3) := by decide +kernel
theorem d_M_value_50 : decode mb_M_value 50 = .ok (.ldc2_w 147, 3) := by decide +kernel
theorem d_M_value_53 : decode mb_M_value 53 = .ok (.goto 10, 3) := by decide +kernel
theorem d_M_value_56 : decode mb_M_value 56 = .ok (.aload_n 0, 1) := by decide +kernel
theorem d_M_value_57 : decode mb_M_value 57 = .ok (.getfield 22, 3) := by decide +kernel
theorem d_M_value_60 : decode mb_M_value 60 = .ok (.iload 4, 2) := by decide +kernel
theorem d_M_value_62 : decode mb_M_value 62 = .ok (.laload, 1) := by decide +kernel
theorem d_M_value_63 : decode mb_M_value 63 = .ok (.lreturn, 1) := by decide +kernel
theorem d_M_listed_0 : decode mb_M_listed 0 = .ok (.aload_n 0, 1) := by decide +kernel
theorem d_M_listed_1 : decode mb_M_listed 1 = .ok (.aload_n 0, 1) := by decide +kernel
theorem d_M_listed_2 : decode mb_M_listed 2 = .ok (.iload_n 1, 1) := by decide +kernel
theorem d_M_listed_3 : decode mb_M_listed 3 = .ok (.iload_n 2, 1) := by decide +kernel
theorem d_M_listed_4 : decode mb_M_listed 4 = .ok (.iload_n 3, 1) := by decide +kernel
theorem d_M_listed_5 : decode mb_M_listed 5 = .ok (.invokevirtual 136, 3) := by decide +kernel
theorem d_M_listed_8 : decode mb_M_listed 8 = .ok (.ifCond .eq 7, 3) := by decide +kernel
theorem d_M_listed_11 : decode mb_M_listed 11 = .ok (.iconst 0, 1) := by decide +kernel
theorem d_M_listed_12 : decode mb_M_listed 12 = .ok (.goto 4, 3) := by decide +kernel
theorem d_M_listed_15 : decode mb_M_listed 15 = .ok (.iconst 1, 1) := by decide +kernel
theorem d_M_listed_16 : decode mb_M_listed 16 = .ok (.putfield 61, 3) := by decide +kernel
theorem d_M_listed_19 : decode mb_M_listed 19 = .ok (.aload_n 0, 1) := by decide +kernel
theorem d_M_listed_20 : decode mb_M_listed 20 = .ok (.getfield 61, 3) := by decide +kernel
theorem d_M_listed_23 : decode mb_M_listed 23 = .ok (.ifCond .eq 5, 3) := by decide +kernel
theorem d_M_listed_26 : decode mb_M_listed 26 = .ok (.iconst 0, 1) := by decide +kernel
theorem d_M_listed_27 : decode mb_M_listed 27 = .ok (.ireturn, 1) := by decide +kernel
theorem d_M_listed_28 : decode mb_M_listed 28 = .ok (.iconst 0, 1) := by decide +kernel
theorem d_M_listed_29 : decode mb_M_listed 29 = .ok (.istore 5, 2) := by decide +kernel
theorem d_M_listed_31 : decode mb_M_listed 31 = .ok (.iload 5, 2) := by decide +kernel
theorem d_M_listed_33 : decode mb_M_listed 33 = .ok (.aload_n 0, 1) := by decide +kernel
theorem d_M_listed_34 : decode mb_M_listed 34 = .ok (.getfield 67, 3) := by decide +kernel
theorem d_M_listed_37 : decode mb_M_listed 37 = .ok (.if_icmp .ge 88, 3) := by decide +kernel
theorem d_M_listed_40 : decode mb_M_listed 40 = .ok (.aload_n 0, 1) := by decide +kernel
theorem d_M_listed_41 : decode mb_M_listed 41 = .ok (.iload 5, 2) := by decide +kernel
theorem d_M_listed_43 : decode mb_M_listed 43 = .ok (.iload_n 1, 1) := by decide +kernel
theorem d_M_listed_44 : decode mb_M_listed 44 = .ok (.iload_n 2, 1) := by decide +kernel
theorem d_M_listed_45 : decode mb_M_listed 45 = .ok (.iload_n 3, 1) := by decide +kernel
theorem d_M_listed_46 : decode mb_M_listed 46 = .ok (.invokevirtual 125, 3) := by decide +kernel
theorem d_M_listed_49 : decode mb_M_listed 49 = .ok (.ifCond .ne 6, 3) := by decide +kernel
theorem d_M_listed_52 : decode mb_M_listed 52 = .ok (.goto 67, 3) := by decide +kernel
theorem d_M_listed_55 : decode mb_M_listed 55 = .ok (.iconst 0, 1) := by decide +kernel
theorem d_M_listed_56 : decode mb_M_listed 56 = .ok (.istore 6, 2) := by decide +kernel
theorem d_M_listed_58 : decode mb_M_listed 58 = .ok (.iconst 0, 1) := by decide +kernel
theorem d_M_listed_59 : decode mb_M_listed 59 = .ok (.istore 7, 2) := by decide +kernel
theorem d_M_listed_61 : decode mb_M_listed 61 = .ok (.iload 7, 2) := by decide +kernel
theorem d_M_listed_63 : decode mb_M_listed 63 = .ok (.aload_n 0, 1) := by decide +kernel
theorem d_M_listed_64 : decode mb_M_listed 64 = .ok (.getfield 67, 3) := by decide +kernel
theorem d_M_listed_67 : decode mb_M_listed 67 = .ok (.if_icmp .ge 42, 3) := by decide +kernel
theorem d_M_listed_70 : decode mb_M_listed 70 = .ok (.iload 6, 2) := by decide +kernel
theorem d_M_listed_72 : decode mb_M_listed 72 = .ok (.aload_n 0, 1) := by decide +kernel
theorem d_M_listed_73 : decode mb_M_listed 73 = .ok (.iload 7, 2) := by decide +kernel
theorem d_M_listed_75 : decode mb_M_listed 75 = .ok (.iload_n 1, 1) := by decide +kernel
theorem d_M_listed_76 : decode mb_M_listed 76 = .ok (.iload_n 2, 1) := by decide +kernel
theorem d_M_listed_77 : decode mb_M_listed 77 = .ok (.iload_n 3, 1) := by decide +kernel
theorem d_M_listed_78 : decode mb_M_listed 78 = .ok (.invokevirtual 125, 3) := by decide +kernel
theorem d_M_listed_81 : decode mb_M_listed 81 = .ok (.ifCond .eq 18, 3) := by decide +kernel
theorem d_M_listed_84 : decode mb_M_listed 84 = .ok (.aload_n 0, 1) := by decide +kernel
theorem d_M_listed_85 : decode mb_M_listed 85 = .ok (.iload 7, 2) := by decide +kernel
theorem d_M_listed_87 : decode mb_M_listed 87 = .ok (.iload 5, 2) := by decide +kernel
theorem d_M_listed_89 : decode mb_M_listed 89 = .ok (.invokevirtual 129, 3) := by decide +kernel
theorem d_M_listed_92 : decode mb_M_listed 92 = .ok (.ifCond .eq 7, 3) := by decide +kernel
theorem d_M_listed_95 : decode mb_M_listed 95 = .ok (.iconst 1, 1) := by decide +kernel
theorem d_M_listed_96 : decode mb_M_listed 96 = .ok (.goto 4, 3) := by decide +kernel
theorem d_M_listed_99 : decode mb_M_listed 99 = .ok (.iconst 0, 1) := by decide +kernel
theorem d_M_listed_100 : decode mb_M_listed 100 = .ok (.iadd, 1) := by decide +kernel
theorem d_M_listed_101 : decode mb_M_listed 101 = .ok (.istore 6, 2) := by decide +kernel
theorem d_M_listed_103 : decode mb_M_listed 103 = .ok (.iinc 7 1, 3) := by decide +kernel
theorem d_M_listed_106 : decode mb_M_listed 106 = .ok (.goto (-45), 3) := by decide +kernel
theorem d_M_listed_109 : decode mb_M_listed 109 = .ok (.iload 6, 2) := by decide +kernel
theorem d_M_listed_111 : decode mb_M_listed 111 = .ok (.iload 4, 2) := by decide +kernel
theorem d_M_listed_113 : decode mb_M_listed 113 = .ok (.if_icmp .ne 6, 3) := by decide +kernel
theorem d_M_listed_116 : decode mb_M_listed 116 = .ok (.iload 5, 2) := by decide +kernel
theorem d_M_listed_118 : decode mb_M_listed 118 = .ok (.ireturn, 1) := by decide +kernel
theorem d_M_listed_119 : decode mb_M_listed 119 = .ok (.iinc 5 1, 3) := by decide +kernel
theorem d_M_listed_122 : decode mb_M_listed 122 = .ok (.goto (-91), 3) := by decide +kernel
theorem d_M_listed_125 : decode mb_M_listed 125 = .ok (.iconst (-1), 1) := by decide +kernel
theorem d_M_listed_126 : decode mb_M_listed 126 = .ok (.ireturn, 1) := by decide +kernel
theorem d_M_why_0 : decode mb_M_why 0 = .ok (.aload_n 0, 1) := by decide +kernel
theorem d_M_why_1 : decode mb_M_why 1 = .ok (.aload_n 0, 1) := by decide +kernel
theorem d_M_why_2 : decode mb_M_why 2 = .ok (.iload_n 1, 1) := by decide +kernel
theorem d_M_why_3 : decode mb_M_why 3 = .ok (.iload_n 2, 1) := by decide +kernel
theorem d_M_why_4 : decode mb_M_why 4 = .ok (.iload_n 3, 1) := by decide +kernel
theorem d_M_why_5 : decode mb_M_why 5 = .ok (.invokevirtual 136, 3) := by decide +kernel
theorem d_M_why_8 : decode mb_M_why 8 = .ok (.ifCond .eq 16, 3) := by decide +kernel
theorem d_M_why_11 : decode mb_M_why 11 = .ok (.aload_n 0, 1) := by decide +kernel
theorem d_M_why_12 : decode mb_M_why 12 = .ok (.iload 4, 2) := by decide +kernel
theorem d_M_why_14 : decode mb_M_why 14 = .ok (.invokevirtual 88, 3) := by decide +kernel
theorem d_M_why_17 : decode mb_M_why 17 = .ok (.ifCond .eq 7, 3) := by decide +kernel
theorem d_M_why_20 : decode mb_M_why 20 = .ok (.iconst 0, 1) := by decide +kernel
theorem d_M_why_21 : decode mb_M_why 21 = .ok (.goto 4, 3) := by decide +kernel
theorem d_M_why_24 : decode mb_M_why 24 = .ok (.iconst 1, 1) := by decide +kernel
theorem d_M_why_25 : decode mb_M_why 25 = .ok (.putfield 61, 3) := by decide +kernel
theorem d_M_why_28 : decode mb_M_why 28 = .ok (.aload_n 0, 1) := by decide +kernel
theorem d_M_why_29 : decode mb_M_why 29 = .ok (.getfield 61, 3) := by decide +kernel
theorem d_M_why_32 : decode mb_M_why 32 = .ok (.ifCond .eq 5, 3) := by decide +kernel
theorem d_M_why_35 : decode mb_M_why 35 = .ok (.iconst 0, 1) := by decide +kernel
theorem d_M_why_36 : decode mb_M_why 36 = .ok (.ireturn, 1) := by decide +kernel
theorem d_M_why_37 : decode mb_M_why 37 = .ok (.aload_n 0, 1) := by decide +kernel
theorem d_M_why_38 : decode mb_M_why 38 = .ok (.getfield 7, 3) := by decide +kernel
theorem d_M_why_41 : decode mb_M_why 41 = .ok (.iload 4, 2) := by decide +kernel
theorem d_M_why_43 : decode mb_M_why 43 = .ok (.iaload, 1) := by decide +kernel
theorem d_M_why_44 : decode mb_M_why 44 = .ok (.iload_n 1, 1) := by decide +kernel
theorem d_M_why_45 : decode mb_M_why 45 = .ok (.if_icmp .eq 5, 3) := by decide +kernel
theorem d_M_why_48 : decode mb_M_why 48 = .ok (.iconst 1, 1) := by decide +kernel
theorem d_M_why_49 : decode mb_M_why 49 = .ok (.ireturn, 1) := by decide +kernel
theorem d_M_why_50 : decode mb_M_why 50 = .ok (.aload_n 0, 1) := by decide +kernel
theorem d_M_why_51 : decode mb_M_why 51 = .ok (.iload 4, 2) := by decide +kernel
theorem d_M_why_53 : decode mb_M_why 53 = .ok (.iload_n 2, 1) := by decide +kernel
theorem d_M_why_54 : decode mb_M_why 54 = .ok (.iload_n 3, 1) := by decide +kernel
theorem d_M_why_55 : decode mb_M_why 55 = .ok (.invokevirtual 115, 3) := by decide +kernel
theorem d_M_why_58 : decode mb_M_why 58 = .ok (.ifCond .ne 5, 3) := by decide +kernel
theorem d_M_why_61 : decode mb_M_why 61 = .ok (.iconst 2, 1) := by decide +kernel
theorem d_M_why_62 : decode mb_M_why 62 = .ok (.ireturn, 1) := by decide +kernel
theorem d_M_why_63 : decode mb_M_why 63 = .ok (.aload_n 0, 1) := by decide +kernel
theorem d_M_why_64 : decode mb_M_why 64 = .ok (.iload 4, 2) := by decide +kernel
theorem d_M_why_66 : decode mb_M_why 66 = .ok (.iload_n 2, 1) := by decide +kernel
theorem d_M_why_67 : decode mb_M_why 67 = .ok (.iload_n 3, 1) := by decide +kernel
theorem d_M_why_68 : decode mb_M_why 68 = .ok (.invokevirtual 119, 3) := by decide +kernel
theorem d_M_why_71 : decode mb_M_why 71 = .ok (.ifCond .ne 5, 3) := by decide +kernel
theorem d_M_why_74 : decode mb_M_why 74 = .ok (.iconst 3, 1) := by decide +kernel
theorem d_M_why_75 : decode mb_M_why 75 = .ok (.ireturn, 1) := by decide +kernel
theorem d_M_why_76 : decode mb_M_why 76 = .ok (.aload_n 0, 1) := by decide +kernel
theorem d_M_why_77 : decode mb_M_why 77 = .ok (.iload 4, 2) := by decide +kernel
theorem d_M_why_79 : decode mb_M_why 79 = .ok (.iload_n 2, 1) := by decide +kernel
theorem d_M_why_80 : decode mb_M_why 80 = .ok (.iload_n 3, 1) := by decide +kernel
theorem d_M_why_81 : decode mb_M_why 81 = .ok (.invokevirtual 122, 3) := by decide +kernel
theorem d_M_why_84 : decode mb_M_why 84 = .ok (.ifCond .ne 5, 3) := by decide +kernel
theorem d_M_why_87 : decode mb_M_why 87 = .ok (.iconst 4, 1) := by decide +kernel
theorem d_M_why_88 : decode mb_M_why 88 = .ok (.ireturn, 1) := by decide +kernel
theorem d_M_why_89 : decode mb_M_why 89 = .ok (.aload_n 0, 1) := by decide +kernel
theorem d_M_why_90 : decode mb_M_why 90 = .ok (.iload_n 1, 1) := by decide +kernel
theorem d_M_why_91 : decode mb_M_why 91 = .ok (.iload_n 2, 1) := by decide +kernel
theorem d_M_why_92 : decode mb_M_why 92 = .ok (.iload_n 3, 1) := by decide +kernel
theorem d_M_why_93 : decode mb_M_why 93 = .ok (.invokevirtual 143, 3) := by decide +kernel
theorem d_M_why_96 : decode mb_M_why 96 = .ok (.istore 5, 2) := by decide +kernel
theorem d_M_why_98 : decode mb_M_why 98 = .ok (.iload 5, 2) := by decide +kernel
theorem d_M_why_100 : decode mb_M_why 100 = .ok (.iload 4, 2) := by decide +kernel
theorem d_M_why_102 : decode mb_M_why 102 = .ok (.if_icmp .ne 5, 3) := by decide +kernel
theorem d_M_why_105 : decode mb_M_why 105 = .ok (.iconst 0, 1) := by decide +kernel
theorem d_M_why_106 : decode mb_M_why 106 = .ok (.ireturn, 1) := by decide +kernel
theorem d_M_why_107 : decode mb_M_why 107 = .ok (.aload_n 0, 1) := by decide +kernel
theorem d_M_why_108 : decode mb_M_why 108 = .ok (.getfield 26, 3) := by decide +kernel
theorem d_M_why_111 : decode mb_M_why 111 = .ok (.iload 4, 2) := by decide +kernel
theorem d_M_why_113 : decode mb_M_why 113 = .ok (.iaload, 1) := by decide +kernel
theorem d_M_why_114 : decode mb_M_why 114 = .ok (.aload_n 0, 1) := by decide +kernel
theorem d_M_why_115 : decode mb_M_why 115 = .ok (.getfield 26, 3) := by decide +kernel
theorem d_M_why_118 : decode mb_M_why 118 = .ok (.iload 5, 2) := by decide +kernel
theorem d_M_why_120 : decode mb_M_why 120 = .ok (.iaload, 1) := by decide +kernel
theorem d_M_why_121 : decode mb_M_why 121 = .ok (.if_icmp .ge 7, 3) := by decide +kernel
theorem d_M_why_124 : decode mb_M_why 124 = .ok (.iconst 5, 1) := by decide +kernel
theorem d_M_why_125 : decode mb_M_why 125 = .ok (.goto 5, 3) := by decide +kernel
theorem d_M_why_128 : decode mb_M_why 128 = .ok (.bipush 6, 2) := by decide +kernel
theorem d_M_why_130 : decode mb_M_why 130 = .ok (.ireturn, 1) := by decide +kernel
theorem d_M_greatest_0 : decode mb_M_greatest 0 = .ok (.aload_n 0, 1) := by decide +kernel
theorem d_M_greatest_1 : decode mb_M_greatest 1 = .ok (.iload_n 1, 1) := by decide +kernel
theorem d_M_greatest_2 : decode mb_M_greatest 2 = .ok (.invokestatic 74, 3) := by decide +kernel
theorem d_M_greatest_5 : decode mb_M_greatest 5 = .ok (.ifCond .eq 14, 3) := by decide +kernel
theorem d_M_greatest_8 : decode mb_M_greatest 8 = .ok (.iload_n 2, 1) := by decide +kernel
theorem d_M_greatest_9 : decode mb_M_greatest 9 = .ok (.invokestatic 81, 3) := by decide +kernel
theorem d_M_greatest_12 : decode mb_M_greatest 12 = .ok (.ifCond .eq 7, 3) := by decide +kernel
theorem d_M_greatest_15 : decode mb_M_greatest 15 = .ok (.iconst 0, 1) := by decide +kernel
theorem d_M_greatest_16 : decode mb_M_greatest 16 = .ok (.goto 4, 3) := by decide +kernel
theorem d_M_greatest_19 : decode mb_M_greatest 19 = .ok (.iconst 1, 1) := by decide +kernel
theorem d_M_greatest_20 : decode mb_M_greatest 20 = .ok (.putfield 61, 3) := by decide +kernel
theorem d_M_greatest_23 : decode mb_M_greatest 23 = .ok (.ldc2_w 147, 3) := by decide +kernel
theorem d_M_greatest_26 : decode mb_M_greatest 26 = .ok (.lstore_n 3, 1) := by decide +kernel
theorem d_M_greatest_27 : decode mb_M_greatest 27 = .ok (.iconst 0, 1) := by decide +kernel
theorem d_M_greatest_28 : decode mb_M_greatest 28 = .ok (.istore 5, 2) := by decide +kernel
theorem d_M_greatest_30 : decode mb_M_greatest 30 = .ok (.iload 5, 2) := by decide +kernel
theorem d_M_greatest_32 : decode mb_M_greatest 32 = .ok (.aload_n 0, 1) := by decide +kernel
theorem d_M_greatest_33 : decode mb_M_greatest 33 = .ok (.getfield 67, 3) := by decide +kernel
theorem d_M_greatest_36 : decode mb_M_greatest 36 = .ok (.if_icmp .ge 61, 3) := by decide +kernel
theorem d_M_greatest_39 : decode mb_M_greatest 39 = .ok (.aload_n 0, 1) := by decide +kernel
theorem d_M_greatest_40 : decode mb_M_greatest 40 = .ok (.getfield 61, 3) := by decide +kernel
theorem d_M_greatest_43 : decode mb_M_greatest 43 = .ok (.ifCond .ne 54, 3) := by decide +kernel
theorem d_M_greatest_46 : decode mb_M_greatest 46 = .ok (.aload_n 0, 1) := by decide +kernel
theorem d_M_greatest_47 : decode mb_M_greatest 47 = .ok (.getfield 7, 3) := by decide +kernel
theorem d_M_greatest_50 : decode mb_M_greatest 50 = .ok (.iload 5, 2) := by decide +kernel
theorem d_M_greatest_52 : decode mb_M_greatest 52 = .ok (.iaload, 1) := by decide +kernel
theorem d_M_greatest_53 : decode mb_M_greatest 53 = .ok (.iload_n 1, 1) := by decide +kernel
theorem d_M_greatest_54 : decode mb_M_greatest 54 = .ok (.if_icmp .ne 37, 3) := by decide +kernel
theorem d_M_greatest_57 : decode mb_M_greatest 57 = .ok (.aload_n 0, 1) := by decide +kernel
theorem d_M_greatest_58 : decode mb_M_greatest 58 = .ok (.getfield 19, 3) := by decide +kernel
theorem d_M_greatest_61 : decode mb_M_greatest 61 = .ok (.iload 5, 2) := by decide +kernel
theorem d_M_greatest_63 : decode mb_M_greatest 63 = .ok (.iaload, 1) := by decide +kernel
theorem d_M_greatest_64 : decode mb_M_greatest 64 = .ok (.iload_n 2, 1) := by decide +kernel
theorem d_M_greatest_65 : decode mb_M_greatest 65 = .ok (.invokestatic 112, 3) := by decide +kernel
theorem d_M_greatest_68 : decode mb_M_greatest 68 = .ok (.ifCond .eq 23, 3) := by decide +kernel
theorem d_M_greatest_71 : decode mb_M_greatest 71 = .ok (.aload_n 0, 1) := by decide +kernel
theorem d_M_greatest_72 : decode mb_M_greatest 72 = .ok (.getfield 22, 3) := by decide +kernel
theorem d_M_greatest_75 : decode mb_M_greatest 75 = .ok (.iload 5, 2) := by decide +kernel
theorem d_M_greatest_77 : decode mb_M_greatest 77 = .ok (.laload, 1) := by decide +kernel
theorem d_M_greatest_78 : decode mb_M_greatest 78 = .ok (.lload_n 3, 1) := by decide +kernel
theorem d_M_greatest_79 : decode mb_M_greatest 79 = .ok (.lcmp, 1) := by decide +kernel
theorem d_M_greatest_80 : decode mb_M_greatest 80 = .ok (.ifCond .le 11, 3) := by decide +kernel
theorem d_M_greatest_83 : decode mb_M_greatest 83 = .ok (.aload_n 0, 1) := by decide +kernel
theorem d_M_greatest_84 : decode mb_M_greatest 84 = .ok (.getfield 22, 3) := by decide +kernel
theorem d_M_greatest_87 : decode mb_M_greatest 87 = .ok (.iload 5, 2) := by decide +kernel
theorem d_M_greatest_89 : decode mb_M_greatest 89 = .ok (.laload, 1) := by decide +kernel
theorem d_M_greatest_90 : decode mb_M_greatest 90 = .ok (.lstore_n 3, 1) := by decide +kernel
theorem d_M_greatest_91 : decode mb_M_greatest 91 = .ok (.iinc 5 1, 3) := by decide +kernel
theorem d_M_greatest_94 : decode mb_M_greatest 94 = .ok (.goto (-64), 3) := by decide +kernel
theorem d_M_greatest_97 : decode mb_M_greatest 97 = .ok (.aload_n 0, 1) := by decide +kernel
theorem d_M_greatest_98 : decode mb_M_greatest 98 = .ok (.getfield 61, 3) := by decide +kernel
theorem d_M_greatest_101 : decode mb_M_greatest 101 = .ok (.ifCond .eq 7, 3) := by decide +kernel
theorem d_M_greatest_104 : decode mb_M_greatest 104 = .ok (.lconst 0, 1) := by decide +kernel
theorem d_M_greatest_105 : decode mb_M_greatest 105 = .ok (.goto 4, 3) := by decide +kernel
theorem d_M_greatest_108 : decode mb_M_greatest 108 = .ok (.lload_n 3, 1) := by decide +kernel
theorem d_M_greatest_109 : decode mb_M_greatest 109 = .ok (.lreturn, 1) := by decide +kernel
theorem d_M_close_0 : decode mb_M_close 0 = .ok (.aload_n 0, 1) := by decide +kernel
theorem d_M_close_1 : decode mb_M_close 1 = .ok (.iload_n 1, 1) := by decide +kernel
theorem d_M_close_2 : decode mb_M_close 2 = .ok (.invokestatic 74, 3) := by decide +kernel
theorem d_M_close_5 : decode mb_M_close 5 = .ok (.ifCond .eq 7, 3) := by decide +kernel
theorem d_M_close_8 : decode mb_M_close 8 = .ok (.iconst 0, 1) := by decide +kernel
theorem d_M_close_9 : decode mb_M_close 9 = .ok (.goto 4, 3) := by decide +kernel
theorem d_M_close_12 : decode mb_M_close 12 = .ok (.iconst 1, 1) := by decide +kernel
theorem d_M_close_13 : decode mb_M_close 13 = .ok (.putfield 61, 3) := by decide +kernel
theorem d_M_close_16 : decode mb_M_close 16 = .ok (.aload_n 0, 1) := by decide +kernel
theorem d_M_close_17 : decode mb_M_close 17 = .ok (.getfield 61, 3) := by decide +kernel
theorem d_M_close_20 : decode mb_M_close 20 = .ok (.ifCond .eq 5, 3) := by decide +kernel
theorem d_M_close_23 : decode mb_M_close 23 = .ok (.iconst 0, 1) := by decide +kernel
theorem d_M_close_24 : decode mb_M_close 24 = .ok (.ireturn, 1) := by decide +kernel
theorem d_M_close_25 : decode mb_M_close 25 = .ok (.aload_n 0, 1) := by decide +kernel
theorem d_M_close_26 : decode mb_M_close 26 = .ok (.iconst 0, 1) := by decide +kernel
theorem d_M_close_27 : decode mb_M_close 27 = .ok (.putfield 149, 3) := by decide +kernel
theorem d_M_close_30 : decode mb_M_close 30 = .ok (.iconst 0, 1) := by decide +kernel
theorem d_M_close_31 : decode mb_M_close 31 = .ok (.istore_n 2, 1) := by decide +kernel
theorem d_M_close_32 : decode mb_M_close 32 = .ok (.iload_n 2, 1) := by decide +kernel
theorem d_M_close_33 : decode mb_M_close 33 = .ok (.aload_n 0, 1) := by decide +kernel
theorem d_M_close_34 : decode mb_M_close 34 = .ok (.getfield 64, 3) := by decide +kernel
theorem d_M_close_37 : decode mb_M_close 37 = .ok (.if_icmp .ge 70, 3) := by decide +kernel
theorem d_M_close_40 : decode mb_M_close 40 = .ok (.iload_n 2, 1) := by decide +kernel
theorem d_M_close_41 : decode mb_M_close 41 = .ok (.iconst 1, 1) := by decide +kernel
theorem d_M_close_42 : decode mb_M_close 42 = .ok (.iadd, 1) := by decide +kernel
theorem d_M_close_43 : decode mb_M_close 43 = .ok (.istore_n 3, 1) := by decide +kernel
theorem d_M_close_44 : decode mb_M_close 44 = .ok (.iload_n 3, 1) := by decide +kernel
theorem d_M_close_45 : decode mb_M_close 45 = .ok (.aload_n 0, 1) := by decide +kernel
theorem d_M_close_46 : decode mb_M_close 46 = .ok (.getfield 64, 3) := by decide +kernel
theorem d_M_close_49 : decode mb_M_close 49 = .ok (.if_icmp .ge 52, 3) := by decide +kernel
theorem d_M_close_52 : decode mb_M_close 52 = .ok (.aload_n 0, 1) := by decide +kernel
theorem d_M_close_53 : decode mb_M_close 53 = .ok (.iload_n 1, 1) := by decide +kernel
theorem d_M_close_54 : decode mb_M_close 54 = .ok (.iload_n 2, 1) := by decide +kernel
theorem d_M_close_55 : decode mb_M_close 55 = .ok (.iload_n 3, 1) := by decide +kernel
theorem d_M_close_56 : decode mb_M_close 56 = .ok (.invokevirtual 152, 3) := by decide +kernel
theorem d_M_close_59 : decode mb_M_close 59 = .ok (.ifCond .ne 6, 3) := by decide +kernel
theorem d_M_close_62 : decode mb_M_close 62 = .ok (.goto 33, 3) := by decide +kernel
theorem d_M_close_65 : decode mb_M_close 65 = .ok (.aload_n 0, 1) := by decide +kernel
theorem d_M_close_66 : decode mb_M_close 66 = .ok (.getfield 51, 3) := by decide +kernel
theorem d_M_close_69 : decode mb_M_close 69 = .ok (.aload_n 0, 1) := by decide +kernel
theorem d_M_close_70 : decode mb_M_close 70 = .ok (.getfield 149, 3) := by decide +kernel
theorem d_M_close_73 : decode mb_M_close 73 = .ok (.iload_n 2, 1) := by decide +kernel
theorem d_M_close_74 : decode mb_M_close 74 = .ok (.iastore, 1) := by decide +kernel
theorem d_M_close_75 : decode mb_M_close 75 = .ok (.aload_n 0, 1) := by decide +kernel
theorem d_M_close_76 : decode mb_M_close 76 = .ok (.getfield 54, 3) := by decide +kernel
theorem d_M_close_79 : decode mb_M_close 79 = .ok (.aload_n 0, 1) := by decide +kernel
theorem d_M_close_80 : decode mb_M_close 80 = .ok (.getfield 149, 3) := by decide +kernel
theorem d_M_close_83 : decode mb_M_close 83 = .ok (.iload_n 3, 1) := by decide +kernel
theorem d_M_close_84 : decode mb_M_close 84 = .ok (.iastore, 1) := by decide +kernel
theorem d_M_close_85 : decode mb_M_close 85 = .ok (.aload_n 0, 1) := by decide +kernel
theorem d_M_close_86 : decode mb_M_close 86 = .ok (.dup, 1) := by decide +kernel
theorem d_M_close_87 : decode mb_M_close 87 = .ok (.getfield 149, 3) := by decide +kernel
theorem d_M_close_90 : decode mb_M_close 90 = .ok (.iconst 1, 1) := by decide +kernel
theorem d_M_close_91 : decode mb_M_close 91 = .ok (.iadd, 1) := by decide +kernel
theorem d_M_close_92 : decode mb_M_close 92 = .ok (.putfield 149, 3) := by decide +kernel
theorem d_M_close_95 : decode mb_M_close 95 = .ok (.iinc 3 1, 3) := by decide +kernel
theorem d_M_close_98 : decode mb_M_close 98 = .ok (.goto (-54), 3) := by decide +kernel
theorem d_M_close_101 : decode mb_M_close 101 = .ok (.iinc 2 1, 3) := by decide +kernel
theorem d_M_close_104 : decode mb_M_close 104 = .ok (.goto (-72), 3) := by decide +kernel
theorem d_M_close_107 : decode mb_M_close 107 = .ok (.aload_n 0, 1) := by decide +kernel
theorem d_M_close_108 : decode mb_M_close 108 = .ok (.getfield 149, 3) := by decide +kernel
theorem d_M_close_111 : decode mb_M_close 111 = .ok (.ireturn, 1) := by decide +kernel
theorem d_M_isClose_0 : decode mb_M_isClose 0 = .ok (.aload_n 0, 1) := by decide +kernel
theorem d_M_isClose_1 : decode mb_M_isClose 1 = .ok (.getfield 38, 3) := by decide +kernel
theorem d_M_isClose_4 : decode mb_M_isClose 4 = .ok (.iload_n 2, 1) := by decide +kernel
theorem d_M_isClose_5 : decode mb_M_isClose 5 = .ok (.iaload, 1) := by decide +kernel
theorem d_M_isClose_6 : decode mb_M_isClose 6 = .ok (.aload_n 0, 1) := by decide +kernel
theorem d_M_isClose_7 : decode mb_M_isClose 7 = .ok (.getfield 38, 3) := by decide +kernel
theorem d_M_isClose_10 : decode mb_M_isClose 10 = .ok (.iload_n 3, 1) := by decide +kernel
theorem d_M_isClose_11 : decode mb_M_isClose 11 = .ok (.iaload, 1) := by decide +kernel
theorem d_M_isClose_12 : decode mb_M_isClose 12 = .ok (.if_icmp .eq 5, 3) := by decide +kernel
theorem d_M_isClose_15 : decode mb_M_isClose 15 = .ok (.iconst 0, 1) := by decide +kernel
theorem d_M_isClose_16 : decode mb_M_isClose 16 = .ok (.ireturn, 1) := by decide +kernel
theorem d_M_isClose_17 : decode mb_M_isClose 17 = .ok (.aload_n 0, 1) := by decide +kernel
theorem d_M_isClose_18 : decode mb_M_isClose 18 = .ok (.iload_n 1, 1) := by decide +kernel
theorem d_M_isClose_19 : decode mb_M_isClose 19 = .ok (.iload_n 2, 1) := by decide +kernel
theorem d_M_isClose_20 : decode mb_M_isClose 20 = .ok (.iload_n 3, 1) := by decide +kernel
theorem d_M_isClose_21 : decode mb_M_isClose 21 = .ok (.invokevirtual 143, 3) := by decide +kernel
theorem d_M_isClose_24 : decode mb_M_isClose 24 = .ok (.istore 4, 2) := by decide +kernel
theorem d_M_isClose_26 : decode mb_M_isClose 26 = .ok (.aload_n 0, 1) := by decide +kernel
theorem d_M_isClose_27 : decode mb_M_isClose 27 = .ok (.getfield 41, 3) := by decide +kernel
theorem d_M_isClose_30 : decode mb_M_isClose 30 = .ok (.iload_n 2, 1) := by decide +kernel
theorem d_M_isClose_31 : decode mb_M_isClose 31 = .ok (.laload, 1) := by decide +kernel
theorem d_M_isClose_32 : decode mb_M_isClose 32 = .ok (.aload_n 0, 1) := by decide +kernel
theorem d_M_isClose_33 : decode mb_M_isClose 33 = .ok (.getfield 41, 3) := by decide +kernel
theorem d_M_isClose_36 : decode mb_M_isClose 36 = .ok (.iload_n 3, 1) := by decide +kernel
theorem d_M_isClose_37 : decode mb_M_isClose 37 = .ok (.laload, 1) := by decide +kernel
theorem d_M_isClose_38 : decode mb_M_isClose 38 = .ok (.lsub, 1) := by decide +kernel
theorem d_M_isClose_39 : decode mb_M_isClose 39 = .ok (.lstore 5, 2) := by decide +kernel
theorem d_M_isClose_41 : decode mb_M_isClose 41 = .ok (.aload_n 0, 1) := by decide +kernel
theorem d_M_isClose_42 : decode mb_M_isClose 42 = .ok (.getfield 44, 3) := by decide +kernel
theorem d_M_isClose_45 : decode mb_M_isClose 45 = .ok (.iload_n 2, 1) := by decide +kernel
theorem d_M_isClose_46 : decode mb_M_isClose 46 = .ok (.laload, 1) := by decide +kernel
theorem d_M_isClose_47 : decode mb_M_isClose 47 = .ok (.aload_n 0, 1) := by decide +kernel
theorem d_M_isClose_48 : decode mb_M_isClose 48 = .ok (.getfield 44, 3) := by decide +kernel
theorem d_M_isClose_51 : decode mb_M_isClose 51 = .ok (.iload_n 3, 1) := by decide +kernel
theorem d_M_isClose_52 : decode mb_M_isClose 52 = .ok (.laload, 1) := by decide +kernel
theorem d_M_isClose_53 : decode mb_M_isClose 53 = .ok (.lsub, 1) := by decide +kernel
theorem d_M_isClose_54 : decode mb_M_isClose 54 = .ok (.lstore 7, 2) := by decide +kernel
theorem d_M_isClose_56 : decode mb_M_isClose 56 = .ok (.iload 4, 2) := by decide +kernel
theorem d_M_isClose_58 : decode mb_M_isClose 58 = .ok (.iconst (-1), 1) := by decide +kernel
theorem d_M_isClose_59 : decode mb_M_isClose 59 = .ok (.if_icmp .eq 37, 3) := by decide +kernel
theorem d_M_isClose_62 : decode mb_M_isClose 62 = .ok (.lload 5, 2) := by decide +kernel
theorem d_M_isClose_64 : decode mb_M_isClose 64 = .ok (.lload 5, 2) := by decide +kernel
theorem d_M_isClose_66 : decode mb_M_isClose 66 = .ok (.lmul, 1) := by decide +kernel
theorem d_M_isClose_67 : decode mb_M_isClose 67 = .ok (.lload 7, 2) := by decide +kernel
theorem d_M_isClose_69 : decode mb_M_isClose 69 = .ok (.lload 7, 2) := by decide +kernel
theorem d_M_isClose_71 : decode mb_M_isClose 71 = .ok (.lmul, 1) := by decide +kernel
theorem d_M_isClose_72 : decode mb_M_isClose 72 = .ok (.ladd, 1) := by decide +kernel
theorem d_M_isClose_73 : decode mb_M_isClose 73 = .ok (.aload_n 0, 1) := by decide +kernel
theorem d_M_isClose_74 : decode mb_M_isClose 74 = .ok (.getfield 22, 3) := by decide +kernel
theorem d_M_isClose_77 : decode mb_M_isClose 77 = .ok (.iload 4, 2) := by decide +kernel
theorem d_M_isClose_79 : decode mb_M_isClose 79 = .ok (.laload, 1) := by decide +kernel
theorem d_M_isClose_80 : decode mb_M_isClose 80 = .ok (.aload_n 0, 1) := by decide +kernel
theorem d_M_isClose_81 : decode mb_M_isClose 81 = .ok (.getfield 22, 3) := by decide +kernel
theorem d_M_isClose_84 : decode mb_M_isClose 84 = .ok (.iload 4, 2) := by decide +kernel
theorem d_M_isClose_86 : decode mb_M_isClose 86 = .ok (.laload, 1) := by decide +kernel
theorem d_M_isClose_87 : decode mb_M_isClose 87 = .ok (.lmul, 1) := by decide +kernel
theorem d_M_isClose_88 : decode mb_M_isClose 88 = .ok (.lcmp, 1) := by decide +kernel
theorem d_M_isClose_89 : decode mb_M_isClose 89 = .ok (.ifCond .ge 7, 3) := by decide +kernel
theorem d_M_isClose_92 : decode mb_M_isClose 92 = .ok (.iconst 1, 1) := by decide +kernel
theorem d_M_isClose_93 : decode mb_M_isClose 93 = .ok (.goto 4, 3) := by decide +kernel
theorem d_M_isClose_96 : decode mb_M_isClose 96 = .ok (.iconst 0, 1) := by decide +kernel
theorem d_M_isClose_97 : decode mb_M_isClose 97 = .ok (.ireturn, 1) := by decide +kernel
theorem d_M_pair_0 : decode mb_M_pair 0 = .ok (.aload_n 0, 1) := by decide +kernel
theorem d_M_pair_1 : decode mb_M_pair 1 = .ok (.iload_n 2, 1) := by decide +kernel
theorem d_M_pair_2 : decode mb_M_pair 2 = .ok (.ifCond .eq 8, 3) := by decide +kernel
theorem d_M_pair_5 : decode mb_M_pair 5 = .ok (.iload_n 2, 1) := by decide +kernel
theorem d_M_pair_6 : decode mb_M_pair 6 = .ok (.iconst 1, 1) := by decide +kernel
theorem d_M_pair_7 : decode mb_M_pair 7 = .ok (.if_icmp .ne 7, 3) := by decide +kernel
theorem d_M_pair_10 : decode mb_M_pair 10 = .ok (.iconst 0, 1) := by decide +kernel
theorem d_M_pair_11 : decode mb_M_pair 11 = .ok (.goto 4, 3) := by decide +kernel
theorem d_M_pair_14 : decode mb_M_pair 14 = .ok (.iconst 1, 1) := by decide +kernel
theorem d_M_pair_15 : decode mb_M_pair 15 = .ok (.putfield 61, 3) := by decide +kernel
theorem d_M_pair_18 : decode mb_M_pair 18 = .ok (.aload_n 0, 1) := by decide +kernel
theorem d_M_pair_19 : decode mb_M_pair 19 = .ok (.getfield 61, 3) := by decide +kernel
theorem d_M_pair_22 : decode mb_M_pair 22 = .ok (.ifCond .eq 5, 3) := by decide +kernel
theorem d_M_pair_25 : decode mb_M_pair 25 = .ok (.iconst 0, 1) := by decide +kernel
theorem d_M_pair_26 : decode mb_M_pair 26 = .ok (.ireturn, 1) := by decide +kernel
theorem d_M_pair_27 : decode mb_M_pair 27 = .ok (.iload_n 1, 1) := by decide +kernel
theorem d_M_pair_28 : decode mb_M_pair 28 = .ok (.ifCond .lt 11, 3) := by decide +kernel
theorem d_M_pair_31 : decode mb_M_pair 31 = .ok (.iload_n 1, 1) := by decide +kernel
theorem d_M_pair_32 : decode mb_M_pair 32 = .ok (.aload_n 0, 1) := by decide +kernel
theorem d_M_pair_33 : decode mb_M_pair 33 = .ok (.getfield 149, 3) := by decide +kernel
theorem d_M_pair_36 : decode mb_M_pair 36 = .ok (.if_icmp .lt 5, 3) := by decide +kernel
theorem d_M_pair_39 : decode mb_M_pair 39 = .ok (.iconst (-1), 1) := by decide +kernel
theorem d_M_pair_40 : decode mb_M_pair 40 = .ok (.ireturn, 1) := by decide +kernel
theorem d_M_pair_41 : decode mb_M_pair 41 = .ok (.iload_n 2, 1) := by decide +kernel
theorem d_M_pair_42 : decode mb_M_pair 42 = .ok (.ifCond .ne 12, 3) := by decide +kernel
theorem d_M_pair_45 : decode mb_M_pair 45 = .ok (.aload_n 0, 1) := by decide +kernel
theorem d_M_pair_46 : decode mb_M_pair 46 = .ok (.getfield 51, 3) := by decide +kernel
theorem d_M_pair_49 : decode mb_M_pair 49 = .ok (.iload_n 1, 1) := by decide +kernel
theorem d_M_pair_50 : decode mb_M_pair 50 = .ok (.iaload, 1) := by decide +kernel
theorem d_M_pair_51 : decode mb_M_pair 51 = .ok (.goto 9, 3) := by decide +kernel
theorem d_M_pair_54 : decode mb_M_pair 54 = .ok (.aload_n 0, 1) := by decide +kernel
theorem d_M_pair_55 : decode mb_M_pair 55 = .ok (.getfield 54, 3) := by decide +kernel
theorem d_M_pair_58 : decode mb_M_pair 58 = .ok (.iload_n 1, 1) := by decide +kernel
theorem d_M_pair_59 : decode mb_M_pair 59 = .ok (.iaload, 1) := by decide +kernel
theorem d_M_pair_60 : decode mb_M_pair 60 = .ok (.ireturn, 1) := by decide +kernel
theorem d_M_kept_0 : decode mb_M_kept 0 = .ok (.aload_n 0, 1) := by decide +kernel
theorem d_M_kept_1 : decode mb_M_kept 1 = .ok (.iconst 0, 1) := by decide +kernel
theorem d_M_kept_2 : decode mb_M_kept 2 = .ok (.putfield 61, 3) := by decide +kernel
theorem d_M_kept_5 : decode mb_M_kept 5 = .ok (.iconst 0, 1) := by decide +kernel
theorem d_M_kept_6 : decode mb_M_kept 6 = .ok (.istore_n 1, 1) := by decide +kernel
theorem d_M_kept_7 : decode mb_M_kept 7 = .ok (.iconst 0, 1) := by decide +kernel
theorem d_M_kept_8 : decode mb_M_kept 8 = .ok (.istore_n 2, 1) := by decide +kernel
theorem d_M_kept_9 : decode mb_M_kept 9 = .ok (.iload_n 2, 1) := by decide +kernel
theorem d_M_kept_10 : decode mb_M_kept 10 = .ok (.sipush 9600, 3) := by decide +kernel
theorem d_M_kept_13 : decode mb_M_kept 13 = .ok (.if_icmp .ge 26, 3) := by decide +kernel
theorem d_M_kept_16 : decode mb_M_kept 16 = .ok (.iload_n 1, 1) := by decide +kernel
theorem d_M_kept_17 : decode mb_M_kept 17 = .ok (.aload_n 0, 1) := by decide +kernel
theorem d_M_kept_18 : decode mb_M_kept 18 = .ok (.getfield 47, 3) := by decide +kernel
theorem d_M_kept_21 : decode mb_M_kept 21 = .ok (.iload_n 2, 1) := by decide +kernel
theorem d_M_kept_22 : decode mb_M_kept 22 = .ok (.baload, 1) := by decide +kernel
theorem d_M_kept_23 : decode mb_M_kept 23 = .ok (.ifCond .eq 7, 3) := by decide +kernel
theorem d_M_kept_26 : decode mb_M_kept 26 = .ok (.iconst 1, 1) := by decide +kernel
theorem d_M_kept_27 : decode mb_M_kept 27 = .ok (.goto 4, 3) := by decide +kernel
theorem d_M_kept_30 : decode mb_M_kept 30 = .ok (.iconst 0, 1) := by decide +kernel
theorem d_M_kept_31 : decode mb_M_kept 31 = .ok (.iadd, 1) := by decide +kernel
theorem d_M_kept_32 : decode mb_M_kept 32 = .ok (.istore_n 1, 1) := by decide +kernel
theorem d_M_kept_33 : decode mb_M_kept 33 = .ok (.iinc 2 1, 3) := by decide +kernel
theorem d_M_kept_36 : decode mb_M_kept 36 = .ok (.goto (-27), 3) := by decide +kernel
theorem d_M_kept_39 : decode mb_M_kept 39 = .ok (.iload_n 1, 1) := by decide +kernel
theorem d_M_kept_40 : decode mb_M_kept 40 = .ok (.ireturn, 1) := by decide +kernel
theorem d_M_spared_0 : decode mb_M_spared 0 = .ok (.aload_n 0, 1) := by decide +kernel
theorem d_M_spared_1 : decode mb_M_spared 1 = .ok (.iconst 0, 1) := by decide +kernel
theorem d_M_spared_2 : decode mb_M_spared 2 = .ok (.putfield 61, 3) := by decide +kernel
theorem d_M_spared_5 : decode mb_M_spared 5 = .ok (.aload_n 0, 1) := by decide +kernel
theorem d_M_spared_6 : decode mb_M_spared 6 = .ok (.getfield 132, 3) := by decide +kernel
theorem d_M_spared_9 : decode mb_M_spared 9 = .ok (.lreturn, 1) := by decide +kernel
